/-! WHAT KEEPS A VIEW IN ORDER (own work, written by wip/tools) -/
theorem okPath_of {V V' : Nat → Int32} (h : okPath V) (e : ∀ j, 11 ≤ j → j < 19 → V' j = V j) : okPath V' := by
  have p : ∀ a, a < 8 → pth V' a = pth V a := fun a ha => by unfold pth nv; rw [e _ (by omega) (by omega)]
  exact ⟨fun a ha => by rw [p a ha, e _ (by omega) (by omega)]; exact h.1 a ha, fun a b ha hb q => h.2 a b ha hb (by rw [← p a ha, ← p b hb]; exact q)⟩
theorem okMany_of {V V' : Nat → Int32} (h : okMany V) (e : V' 1 = V 1) : okMany V' := by
  unfold okMany nv
  rw [e]
  exact h
theorem okPart_of {V V' : Nat → Int32} (h : okPart V) (e : V' 1 = V 1) (e2 : ∀ j, 51 ≤ j → j < 83 → V' j = V j) (hm : okMany V) : okPart V' := by
  have n1 : nv V' 1 = nv V 1 := by unfold nv; rw [e]
  have hm2 := hm.2
  have p : ∀ q w, q < nv V 1 → w < 4 → prt V' q w = prt V q w := fun q w hq hw => by unfold prt nv; rw [e2 _ (by omega) (by omega)]
  intro q hq
  rw [n1] at hq
  obtain ⟨h1, h2⟩ := h q hq
  refine ⟨fun w hw => by rw [p q w hq hw, e2 _ (by omega) (by omega)]; exact h1 w hw, ?_⟩
  rw [p q 0 hq (by decide), p q 1 hq (by decide), p q 2 hq (by decide), p q 3 hq (by decide)]
  exact h2
theorem okCaps_of {V V' : Nat → Int32} (h : okCaps V) (e : ∀ j, 19 ≤ j → j < 51 → V' j = V j) : okCaps V' := by
  have p : ∀ x, x < 32 → nv V' (19 + x) = nv V (19 + x) := fun x hx => by unfold nv; rw [e _ (by omega) (by omega)]
  refine ⟨fun x hx => by rw [p x hx, e _ (by omega) (by omega)]; exact h.1 x hx, fun c hc => ?_⟩
  rw [p _ (by omega), p _ (by omega), p _ (by omega), p _ (by omega), p _ (by omega), p _ (by omega), p _ (by omega), p _ (by omega)]
  exact h.2 c hc
theorem okWorth_of {V V' : Nat → Int32} (h : okWorth V) (e : ∀ j, 7 ≤ j → j < 11 → V' j = V j) : okWorth V' := by
  intro c hc
  have p : nv V' (7 + c) = nv V (7 + c) := by unfold nv; rw [e _ (by omega) (by omega)]
  rw [p, e _ (by omega) (by omega)]
  exact h c hc
theorem okDay_of {V V' : Nat → Int32} (h : okDay V) (e0 : V' 0 = V 0) (e6 : V' 6 = V 6) : okDay V' := by
  unfold okDay nv
  rw [e0, e6]
  exact h
theorem ok_low {V V' : Nat → Int32} (h : okV V) (e : ∀ j, j < 2 ∨ 6 ≤ j → V' j = V j) : okV V' :=
  ⟨okPath_of h.1 (fun j a b => e j (by omega)), okMany_of h.2.1 (e 1 (by omega)), okPart_of h.2.2.1 (e 1 (by omega)) (fun j a b => e j (by omega)) h.2.1, okCaps_of h.2.2.2.1 (fun j a b => e j (by omega)), okWorth_of h.2.2.2.2.1 (fun j a b => e j (by omega)), okDay_of h.2.2.2.2.2 (e 0 (by omega)) (e 6 (by omega))⟩
theorem ok_rfz {V : Nat → Int32} (h : okV V) : okV (rfz V) := ok_low h (fun j hj => upd_ne _ _ (by omega))
theorem ok_upd {V : Nat → Int32} (h : okV V) {k : Nat} (x : Int32) (h2 : 2 ≤ k) (h6 : k < 6) : okV (upd V k x) := ok_low h (fun j hj => upd_ne _ _ (by omega))
theorem ok_worth {V : Nat → Int32} (h : okV V) {c w : Nat} (hc : c < 4) (hw : 1 ≤ w) (hw9 : w ≤ 9) : okV (upd V (7 + c) (nI w)) := by
  refine ⟨okPath_of h.1 (fun j a b => upd_ne _ _ (by omega)), okMany_of h.2.1 (upd_ne _ _ (by omega)), okPart_of h.2.2.1 (upd_ne _ _ (by omega)) (fun j a b => upd_ne _ _ (by omega)) h.2.1, okCaps_of h.2.2.2.1 (fun j a b => upd_ne _ _ (by omega)), ?_, okDay_of h.2.2.2.2.2 (upd_ne _ _ (by omega)) (upd_ne _ _ (by omega))⟩
  intro x hx
  by_cases e : x = c
  · subst e
    have n : nv (upd V (7 + x) (nI w)) (7 + x) = w := by unfold nv; rw [upd_eq, nI_clamp (by omega)]
    rw [n, upd_eq]
    exact ⟨rfl, hw, hw9⟩
  · have n : nv (upd V (7 + c) (nI w)) (7 + x) = nv V (7 + x) := by unfold nv; rw [upd_ne _ _ (by omega)]
    rw [n, upd_ne _ _ (by omega)]
    exact h.2.2.2.2.1 x hx
theorem ok_set {V : Nat → Int32} (h : okV V) {w : Nat} (hw9 : w ≤ 9) : okV (upd V 6 (nI w)) := by
  refine ⟨okPath_of h.1 (fun j a b => upd_ne _ _ (by omega)), okMany_of h.2.1 (upd_ne _ _ (by omega)), okPart_of h.2.2.1 (upd_ne _ _ (by omega)) (fun j a b => upd_ne _ _ (by omega)) h.2.1, okCaps_of h.2.2.2.1 (fun j a b => upd_ne _ _ (by omega)), okWorth_of h.2.2.2.2.1 (fun j a b => upd_ne _ _ (by omega)), ?_⟩
  have n0 : nv (upd V 6 (nI w)) 0 = nv V 0 := by unfold nv; rw [upd_ne _ _ (by omega)]
  have n6 : nv (upd V 6 (nI w)) 6 = w := by unfold nv; rw [upd_eq, nI_clamp (by omega)]
  unfold okDay
  rw [n0, n6, upd_eq, upd_ne _ _ (by omega)]
  exact ⟨h.2.2.2.2.2.1, rfl, hw9⟩
theorem swp_at {V : Nat → Int32} {i o a : Nat} : swp V i o (11 + a) = if a = o then V (11 + i) else if a = i then V (11 + o) else V (11 + a) := by
  unfold swp
  by_cases e : a = o
  · subst e
    rw [upd_eq, if_pos rfl]
  · rw [upd_ne _ _ (by omega), if_neg e]
    by_cases e2 : a = i
    · subst e2
      rw [upd_eq, if_pos rfl]
    · rw [upd_ne _ _ (by omega), if_neg e2]
theorem swp_off {V : Nat → Int32} {i o j : Nat} (hi : i < 8) (ho : o < 8) (h : j < 11 ∨ 19 ≤ j) : swp V i o j = V j := by
  unfold swp
  rw [upd_ne _ _ (by omega), upd_ne _ _ (by omega)]
theorem sgm_cases (a i o : Nat) : (a = o ∧ (if a = o then i else if a = i then o else a) = i) ∨ (a ≠ o ∧ a = i ∧ (if a = o then i else if a = i then o else a) = o) ∨ (a ≠ o ∧ a ≠ i ∧ (if a = o then i else if a = i then o else a) = a) := by
  by_cases e : a = o
  · exact Or.inl ⟨e, if_pos e⟩
  · by_cases e2 : a = i
    · exact Or.inr (Or.inl ⟨e, e2, by rw [if_neg e, if_pos e2]⟩)
    · exact Or.inr (Or.inr ⟨e, e2, by rw [if_neg e, if_neg e2]⟩)
theorem ok_swp {V : Nat → Int32} (h : okV V) {i o : Nat} (hi : i < 8) (ho : o < 8) : okV (swp V i o) := by
  refine ⟨?_, okMany_of h.2.1 (swp_off hi ho (by omega)), okPart_of h.2.2.1 (swp_off hi ho (by omega)) (fun j a b => swp_off hi ho (by omega)) h.2.1, okCaps_of h.2.2.2.1 (fun j a b => swp_off hi ho (by omega)), okWorth_of h.2.2.2.2.1 (fun j a b => swp_off hi ho (by omega)), okDay_of h.2.2.2.2.2 (swp_off hi ho (by omega)) (swp_off hi ho (by omega))⟩
  have p : ∀ a, pth (swp V i o) a = pth V (if a = o then i else if a = i then o else a) := by
    intro a
    unfold pth nv
    rw [swp_at]
    by_cases e : a = o
    · rw [if_pos e, if_pos e]
    · rw [if_neg e, if_neg e]
      by_cases e2 : a = i
      · rw [if_pos e2, if_pos e2]
      · rw [if_neg e2, if_neg e2]
  have g : ∀ a, a < 8 → (if a = o then i else if a = i then o else a) < 8 := by
    intro a ha
    by_cases e : a = o
    · rw [if_pos e]; exact hi
    · rw [if_neg e]
      by_cases e2 : a = i
      · rw [if_pos e2]; exact ho
      · rw [if_neg e2]; exact ha
  refine ⟨fun a ha => ?_, fun a b ha hb q => ?_⟩
  · rw [p a]
    refine ⟨?_, (h.1.1 _ (g a ha)).2⟩
    have h9 := (h.1.1 _ (g a ha)).1
    rw [← h9, swp_at]
    by_cases e : a = o
    · rw [if_pos e, if_pos e]
    · rw [if_neg e, if_neg e]
      by_cases e2 : a = i
      · rw [if_pos e2, if_pos e2]
      · rw [if_neg e2, if_neg e2]
  · rw [p a, p b] at q
    have q2 := h.1.2 _ _ (g a ha) (g b hb) q
    rcases sgm_cases a i o with a1 | a1 | a1 <;> rcases sgm_cases b i o with b1 | b1 | b1 <;> omega
/-- sums of rows -/
def su (g : Nat → Nat) : Nat → Nat
  | 0 => 0
  | n + 1 => su g n + g n
theorem su_cong {g g' : Nat → Nat} : ∀ n, (∀ i, i < n → g i = g' i) → su g n = su g' n
  | 0, _ => rfl
  | n + 1, h => by
    show su g n + g n = su g' n + g' n
    rw [su_cong n (fun i hi => h i (by omega)), h n (by omega)]
theorem su_one {g g' : Nat → Nat} {q : Nat} : ∀ n, q < n → (∀ i, i < n → i ≠ q → g' i = g i) → su g' n + g q = su g n + g' q
  | 0, h, _ => absurd h (by omega)
  | n + 1, h, e => by
    show su g' n + g' n + g q = su g n + g n + g' q
    by_cases c : q = n
    · subst c
      rw [su_cong q (fun i hi => e i (by omega) (by omega))]
      omega
    · have ih := su_one n (by omega) (fun i hi => e i (by omega))
      have := e n (by omega) (by omega)
      omega
theorem su_perm : ∀ n (p g : Nat → Nat), (∀ i, i < n → p i < n) → (∀ i j, i < n → j < n → p i = p j → i = j) → su (fun i => g (p i)) n = su g n
  | 0, _, _, _, _ => rfl
  | n + 1, p, g, hp, hi => by
    show su (fun i => g (p i)) n + g (p n) = su g n + g n
    by_cases c : p n = n
    · rw [c]
      have ih := su_perm n p g (fun i h => by
        have h1 := hp i (by omega)
        have h2 : p i ≠ n := fun q => by have := hi i n (by omega) (by omega) (q.trans c.symm); omega
        omega) (fun i j h1 h2 h3 => hi i j (by omega) (by omega) h3)
      omega
    · have hk := hp n (by omega)
      have hex : ∃ i, i < n ∧ p i = n := by
        apply Classical.byContradiction
        intro hno
        obtain ⟨a, b, h1, h2, h3⟩ := pigeon n p (fun a ha => by
          have h1 := hp a ha
          have h2 : p a ≠ n := fun q => by
            by_cases e : a = n
            · exact c (by rw [← e]; exact q.trans e.symm)
            · exact hno ⟨a, by omega, q⟩
          omega)
        have := hi a b (by omega) (by omega) h3
        omega
      obtain ⟨i0, hi0, e0⟩ := hex
      have ih := su_perm n (fun i => if p i = n then p n else p i) g (fun i h => by
        show (if p i = n then p n else p i) < n
        have h1 := hp i (by omega)
        by_cases e : p i = n
        · rw [if_pos e]; omega
        · rw [if_neg e]; omega) (fun i j h1 h2 h3 => by
        have h3 : (if p i = n then p n else p i) = (if p j = n then p n else p j) := h3
        by_cases e : p i = n
        · by_cases e2 : p j = n
          · exact hi i j (by omega) (by omega) (e.trans e2.symm)
          · rw [if_pos e, if_neg e2] at h3
            have := hi n j (by omega) (by omega) h3
            omega
        · by_cases e2 : p j = n
          · rw [if_neg e, if_pos e2] at h3
            have := hi i n (by omega) (by omega) h3
            omega
          · rw [if_neg e, if_neg e2] at h3
            exact hi i j (by omega) (by omega) h3)
      have h4 : su (fun i => g (p i)) n + g (if p i0 = n then p n else p i0) = su (fun i => g (if p i = n then p n else p i)) n + g (p i0) := su_one n hi0 (fun i h1 h2 => by
        show g (p i) = g (if p i = n then p n else p i)
        rw [if_neg (fun q => h2 (hi i i0 (by omega) (by omega) (q.trans e0.symm)))])
      rw [if_pos e0, e0, ih] at h4
      omega
theorem su_8 (g : Nat → Nat) : su g 8 = g 0 + g 1 + g 2 + g 3 + g 4 + g 5 + g 6 + g 7 := by
  show 0 + g 0 + g 1 + g 2 + g 3 + g 4 + g 5 + g 6 + g 7 = _
  omega
theorem snd_inj {V : Nat → Int32} (h : okPath V) {i j : Nat} (hi : i < 8) (hj : j < 8) (e : snd V i = snd V j) : i = j := by
  rw [← (snd_spec h hi).1, ← (snd_spec h hj).1, e]
theorem stm_caps (V : Nat → Int32) {x : Nat} (hx : x < 32) : stm V (19 + x) = V (19 + (snd V (x / 4) * 4 + x % 4)) := by
  unfold stm
  rw [if_neg (by omega), if_pos (by omega), show 19 + x - 19 = x by omega]
theorem stm_off (V : Nat → Int32) {j : Nat} (h0 : j ≠ 0) (h : j < 19 ∨ 51 ≤ j) : stm V j = V j := by
  unfold stm
  rw [if_neg h0, if_neg (by omega)]
theorem stm_day (V : Nat → Int32) : stm V 0 = V 0 + nI 1 := if_pos rfl
theorem ok_stm {V : Nat → Int32} (h : okV V) (hd : nv V 0 < 9999) : okV (stm V) ∧ nv (stm V) 0 = nv V 0 + 1 := by
  have n0 : nv (stm V) 0 = nv V 0 + 1 := by
    unfold nv
    rw [stm_day, h.2.2.2.2.2.1.1, nI_add, nI_clamp (by omega), nI_clamp (by have := h.2.2.2.2.2.1.2; omega)]
  refine ⟨⟨okPath_of h.1 (fun j a b => stm_off V (by omega) (by omega)), okMany_of h.2.1 (stm_off V (by omega) (by omega)), okPart_of h.2.2.1 (stm_off V (by omega) (by omega)) (fun j a b => stm_off V (by omega) (by omega)) h.2.1, ?_, okWorth_of h.2.2.2.2.1 (fun j a b => stm_off V (by omega) (by omega)), ?_⟩, n0⟩
  · have p : ∀ x, x < 32 → nv (stm V) (19 + x) = nv V (19 + (snd V (x / 4) * 4 + x % 4)) := fun x hx => by unfold nv; rw [stm_caps V hx]
    refine ⟨fun x hx => ?_, fun c hc => ?_⟩
    · have := (snd_spec h.1 (i := x / 4) (by omega)).2
      rw [p x hx, stm_caps V hx]
      exact h.2.2.2.1.1 _ (by omega)
    · have q : ∀ i, i < 8 → nv (stm V) (19 + (i * 4 + c)) = nv V (19 + (snd V i * 4 + c)) := fun i hi => by
        rw [p _ (by omega), show (i * 4 + c) / 4 = i by omega, show (i * 4 + c) % 4 = c by omega]
      have h8 := su_8 (fun i => nv V (19 + (i * 4 + c)))
      have h9 := su_8 (fun i => nv V (19 + (snd V i * 4 + c)))
      have h10 := su_perm 8 (fun i => snd V i) (fun i => nv V (19 + (i * 4 + c))) (fun i hi => (snd_spec h.1 hi).2) (fun i j hi hj e => snd_inj h.1 hi hj e)
      rw [q 0 (by omega), q 1 (by omega), q 2 (by omega), q 3 (by omega), q 4 (by omega), q 5 (by omega), q 6 (by omega), q 7 (by omega)]
      have h11 := h.2.2.2.1.2 c hc
      rw [h8] at h10
      exact (h9.symm.trans h10).trans h11
  · refine ⟨⟨?_, by omega⟩, ?_⟩
    · rw [n0, stm_day, h.2.2.2.2.2.1.1, nI_add]
    · have n6 : nv (stm V) 6 = nv V 6 := by unfold nv; rw [stm_off V (by omega) (by omega)]
      rw [n6, stm_off V (by omega) (by omega)]
      exact h.2.2.2.2.2.2
theorem drp_prt {V : Nat → Int32} {q x w : Nat} (hx : x < nv V 1 - 1) (hw : w < 4) : drp V q (51 + (x * 4 + w)) = if q ≤ x then V (51 + ((x + 1) * 4 + w)) else V (51 + (x * 4 + w)) := by
  unfold drp
  rw [if_neg (by omega)]
  by_cases c : q ≤ x
  · rw [if_pos (by omega), if_pos c]
    congr 1
    omega
  · rw [if_neg (by omega), if_neg c]
theorem drp_off {V : Nat → Int32} {q j : Nat} (h : j < 51) (h1 : j ≠ 1) : drp V q j = V j := by
  unfold drp
  rw [if_neg h1, if_neg (by omega)]
theorem ok_drp {V : Nat → Int32} (h : okV V) (q : Nat) (h0 : 0 < nv V 1) : okV (drp V q) := by
  have dm := drp_many h.2.1 q
  have hm := h.2.1.2
  refine ⟨okPath_of h.1 (fun j a b => drp_off (by omega) (by omega)), dm.1, ?_, okCaps_of h.2.2.2.1 (fun j a b => drp_off (by omega) (by omega)), okWorth_of h.2.2.2.2.1 (fun j a b => drp_off (by omega) (by omega)), okDay_of h.2.2.2.2.2 (drp_off (by omega) (by omega)) (drp_off (by omega) (by omega))⟩
  intro x hx
  rw [dm.2] at hx
  have p : ∀ w, w < 4 → prt (drp V q) x w = prt V (if q ≤ x then x + 1 else x) w := fun w hw => by
    unfold prt nv
    rw [drp_prt hx hw]
    by_cases c : q ≤ x
    · rw [if_pos c, if_pos c]
    · rw [if_neg c, if_neg c]
  have hy : (if q ≤ x then x + 1 else x) < nv V 1 := by
    by_cases c : q ≤ x
    · rw [if_pos c]; omega
    · rw [if_neg c]; omega
  obtain ⟨k1, k2⟩ := h.2.2.1 _ hy
  refine ⟨fun w hw => ?_, ?_⟩
  · rw [p w hw, drp_prt hx hw]
    have := k1 w hw
    by_cases c : q ≤ x
    · rw [if_pos c] at this ⊢
      rw [if_pos c]
      exact this
    · rw [if_neg c] at this ⊢
      rw [if_neg c]
      exact this
  · rw [p 0 (by decide), p 1 (by decide), p 2 (by decide), p 3 (by decide)]
    exact k2
theorem ok_brkG : ∀ (k : Nat) (V : Nat → Int32) (n : Nat), okV V → k ≤ nv V 1 → okV (brkG k V n).1
  | 0, V, n, h, _ => h
  | k + 1, V, n, h, hk => by
    rw [brkG_s]
    by_cases c : V (51 + (k * 4 + 3)) < V 0
    · rw [if_pos c]
      exact ok_brkG k _ _ (ok_drp h k (by omega)) (by rw [(drp_many h.2.1 k).2]; omega)
    · rw [if_neg c]
      exact ok_brkG k V n h (by omega)
theorem ok_brs {V : Nat → Int32} (h : okV V) : okV (brs V) := ok_upd (ok_brkG _ _ _ h (Nat.le_refl _)) _ (by decide) (by decide)
theorem brkG_low : ∀ (k : Nat) (V : Nat → Int32) (n j : Nat), j < 51 → j ≠ 1 → (brkG k V n).1 j = V j
  | 0, _, _, _, _, _ => rfl
  | k + 1, V, n, j, h, h1 => by
    rw [brkG_s]
    by_cases c : V (51 + (k * 4 + 3)) < V 0
    · rw [if_pos c, brkG_low k _ _ j h h1, drp_off h h1]
    · rw [if_neg c, brkG_low k _ _ j h h1]
theorem brkG_n : ∀ (k : Nat) (V : Nat → Int32) (n : Nat), n ≤ (brkG k V n).2 ∧ (brkG k V n).2 ≤ n + k
  | 0, _, n => ⟨Nat.le_refl _, Nat.le_refl _⟩
  | k + 1, V, n => by
    rw [brkG_s]
    by_cases c : V (51 + (k * 4 + 3)) < V 0
    · rw [if_pos c]
      have := brkG_n k (drp V k) (n + 1)
      omega
    · rw [if_neg c]
      have := brkG_n k V n
      omega
theorem hnd_at {V : Nat → Int32} {f t c x : Nat} {m : Int32} (hne : f ≠ t) (hc : c < 4) (hf : f < 8) (ht : t < 8) : hnd V f t c m (19 + x) = if x = t * 4 + c then V (19 + x) + m else if x = f * 4 + c then V (19 + x) - m else V (19 + x) := by
  unfold hnd
  by_cases e : x = t * 4 + c
  · subst e
    rw [upd_eq, if_pos rfl, upd_ne _ _ (by omega)]
  · rw [upd_ne _ _ (by omega), if_neg e]
    by_cases e2 : x = f * 4 + c
    · subst e2
      rw [upd_eq, if_pos rfl]
    · rw [upd_ne _ _ (by omega), if_neg e2]
theorem hnd_off {V : Nat → Int32} {f t c j : Nat} {m : Int32} (hf : f < 8) (ht : t < 8) (hc : c < 4) (h : j < 19 ∨ 51 ≤ j) : hnd V f t c m j = V j := by
  unfold hnd
  rw [upd_ne _ _ (by omega), upd_ne _ _ (by omega)]
theorem ok_hnd {V : Nat → Int32} (h : okV V) {f t c m : Nat} (hne : f ≠ t) (hf : f < 8) (ht : t < 8) (hc : c < 4) (hm : m ≤ nv V (19 + (f * 4 + c))) : okV (hnd V f t c (nI m)) ∧ ∀ x, x < 32 → x % 4 ≠ c → hnd V f t c (nI m) (19 + x) = V (19 + x) := by
  have hle : ∀ a c, a < 8 → c < 4 → nv V (19 + (a * 4 + c)) ≤ 20 := fun a c ha hc => okCaps_le h.2.2.2.1 ha hc
  refine ⟨⟨okPath_of h.1 (fun j a b => hnd_off hf ht hc (by omega)), okMany_of h.2.1 (hnd_off hf ht hc (by omega)), okPart_of h.2.2.1 (hnd_off hf ht hc (by omega)) (fun j a b => hnd_off hf ht hc (by omega)) h.2.1, ?_, okWorth_of h.2.2.2.2.1 (fun j a b => hnd_off hf ht hc (by omega)), okDay_of h.2.2.2.2.2 (hnd_off hf ht hc (by omega)) (hnd_off hf ht hc (by omega))⟩, fun x hx hxc => by rw [hnd_at hne hc hf ht, if_neg (fun q => hxc (by omega)), if_neg (fun q => hxc (by omega))]⟩
  have p : ∀ x, x < 32 → hnd V f t c (nI m) (19 + x) = nI (if x = t * 4 + c then nv V (19 + x) + m else if x = f * 4 + c then nv V (19 + x) - m else nv V (19 + x)) := by
    intro x hx
    have e9 := h.2.2.2.1.1 x hx
    rw [hnd_at hne hc hf ht]
    by_cases e : x = t * 4 + c
    · rw [if_pos e, if_pos e, ← nI_add, ← e9]
    · rw [if_neg e, if_neg e]
      by_cases e2 : x = f * 4 + c
      · rw [if_pos e2, if_pos e2]
        have : m ≤ nv V (19 + x) := by rw [e2]; exact hm
        rw [← pk_sub this, ← e9]
      · rw [if_neg e2, if_neg e2]
        exact e9
  have n : ∀ x, x < 32 → nv (hnd V f t c (nI m)) (19 + x) = if x = t * 4 + c then nv V (19 + x) + m else if x = f * 4 + c then nv V (19 + x) - m else nv V (19 + x) := by
    intro x hx
    have h20 := hle (x / 4) (x % 4) (by omega) (by omega)
    rw [show x / 4 * 4 + x % 4 = x by omega] at h20
    have hm20 := hle f c hf hc
    unfold nv
    rw [p x hx]
    refine nI_clamp ?_
    by_cases e : x = t * 4 + c
    · rw [if_pos e]; omega
    · rw [if_neg e]
      by_cases e2 : x = f * 4 + c
      · rw [if_pos e2]; omega
      · rw [if_neg e2]; omega
  refine ⟨fun x hx => by rw [n x hx]; exact p x hx, fun c2 hc2 => ?_⟩
  have h11 := h.2.2.2.1.2 c2 hc2
  have h8 := su_8 (fun i => nv V (19 + (i * 4 + c2)))
  have h9 := su_8 (fun i => nv (hnd V f t c (nI m)) (19 + (i * 4 + c2)))
  refine h9.symm.trans ?_
  rw [← h8] at h11
  by_cases e : c2 = c
  · subst e
    have s1 : su (fun i => if i = f then nv V (19 + (i * 4 + c2)) - m else nv V (19 + (i * 4 + c2))) 8 + nv V (19 + (f * 4 + c2)) = su (fun i => nv V (19 + (i * 4 + c2))) 8 + (if f = f then nv V (19 + (f * 4 + c2)) - m else nv V (19 + (f * 4 + c2))) := su_one 8 hf (fun i hi hn => if_neg hn)
    have s2 : su (fun i => nv (hnd V f t c2 (nI m)) (19 + (i * 4 + c2))) 8 + (if t = f then nv V (19 + (t * 4 + c2)) - m else nv V (19 + (t * 4 + c2))) = su (fun i => if i = f then nv V (19 + (i * 4 + c2)) - m else nv V (19 + (i * 4 + c2))) 8 + nv (hnd V f t c2 (nI m)) (19 + (t * 4 + c2)) := su_one 8 ht (fun i hi hn => by
      show nv (hnd V f t c2 (nI m)) (19 + (i * 4 + c2)) = if i = f then nv V (19 + (i * 4 + c2)) - m else nv V (19 + (i * 4 + c2))
      rw [n _ (by omega), if_neg (by omega)]
      by_cases e : i = f
      · subst e
        rw [if_pos rfl, if_pos rfl]
      · rw [if_neg (by omega), if_neg e])
    rw [if_pos rfl] at s1
    rw [if_neg (Ne.symm hne), n (t * 4 + c2) (by omega), if_pos rfl] at s2
    omega
  · rw [← h11]
    refine su_cong 8 (fun i hi => ?_)
    show nv (hnd V f t c (nI m)) (19 + (i * 4 + c2)) = nv V (19 + (i * 4 + c2))
    rw [n _ (by omega), if_neg (by omega), if_neg (by omega)]
theorem mkp_at {V : Nat → Int32} {f t s dd : Int32} {x w : Nat} (hw : w < 4) : mkp V f t s dd (51 + (x * 4 + w)) = if x = nv V 1 then (if w = 0 then f else if w = 1 then t else if w = 2 then s else V 0 + dd) else V (51 + (x * 4 + w)) := by
  unfold mkp
  rw [upd_ne _ _ (by omega)]
  by_cases e : x = nv V 1
  · rw [if_pos e, e]
    match w, hw with
    | 0, _ => rw [upd_ne _ _ (by omega), upd_ne _ _ (by omega), upd_ne _ _ (by omega), upd_eq]; rfl
    | 1, _ => rw [upd_ne _ _ (by omega), upd_ne _ _ (by omega), upd_eq]; rfl
    | 2, _ => rw [upd_ne _ _ (by omega), upd_eq]; rfl
    | 3, _ => rw [upd_eq]; rfl
  · rw [if_neg e, upd_ne _ _ (by omega), upd_ne _ _ (by omega), upd_ne _ _ (by omega), upd_ne _ _ (by omega)]
theorem mkp_off {V : Nat → Int32} {f t s dd : Int32} {j : Nat} (h : j < 51) (h1 : j ≠ 1) : mkp V f t s dd j = V j := by
  unfold mkp
  rw [upd_ne _ _ h1, upd_ne _ _ (by omega), upd_ne _ _ (by omega), upd_ne _ _ (by omega), upd_ne _ _ (by omega)]
theorem mkp_many {V : Nat → Int32} {f t s dd : Int32} (hm : nv V 1 < 8) : nv (mkp V f t s dd) 1 = nv V 1 + 1 ∧ mkp V f t s dd 1 = nI (nv V 1 + 1) := by
  have e : mkp V f t s dd 1 = nI (nv V 1 + 1) := upd_eq _ _ _
  refine ⟨?_, e⟩
  show (mkp V f t s dd 1).toNatClampNeg = _
  rw [e, nI_clamp (by omega)]
theorem ok_mkp {V : Nat → Int32} (h : okV V) {f t s dd : Nat} (hm : nv V 1 < 8) (hf : f < 8) (ht : t < 8) (hne : f ≠ t) (h1 : 1 ≤ s) (h99 : s ≤ 99) (h9 : dd ≤ 9) : okV (mkp V (nI f) (nI t) (nI s) (nI dd)) := by
  have m1 := mkp_many (f := nI f) (t := nI t) (s := nI s) (dd := nI dd) hm
  refine ⟨okPath_of h.1 (fun j a b => mkp_off (by omega) (by omega)), ⟨by rw [m1.1, m1.2], by rw [m1.1]; omega⟩, ?_, okCaps_of h.2.2.2.1 (fun j a b => mkp_off (by omega) (by omega)), okWorth_of h.2.2.2.2.1 (fun j a b => mkp_off (by omega) (by omega)), okDay_of h.2.2.2.2.2 (mkp_off (by omega) (by omega)) (mkp_off (by omega) (by omega))⟩
  have d0 := h.2.2.2.2.2.1
  have hd : V 0 + nI dd = nI (nv V 0 + dd) := by
    have := d0.1
    rw [← nI_add, ← this]
  intro x hx
  rw [m1.1] at hx
  by_cases e : x = nv V 1
  · have q : ∀ w, w < 4 → mkp V (nI f) (nI t) (nI s) (nI dd) (51 + (x * 4 + w)) = nI (if w = 0 then f else if w = 1 then t else if w = 2 then s else nv V 0 + dd) := by
      intro w hw
      rw [mkp_at hw, if_pos e, hd]
      match w, hw with
      | 0, _ => rfl
      | 1, _ => rfl
      | 2, _ => rfl
      | 3, _ => rfl
    have p : ∀ w, w < 4 → prt (mkp V (nI f) (nI t) (nI s) (nI dd)) x w = if w = 0 then f else if w = 1 then t else if w = 2 then s else nv V 0 + dd := by
      intro w hw
      unfold prt nv
      rw [q w hw]
      refine nI_clamp ?_
      have := d0.2
      match w, hw with
      | 0, _ => show f < _; omega
      | 1, _ => show t < _; omega
      | 2, _ => show s < _; omega
      | 3, _ => show (V 0).toNatClampNeg + dd < _; unfold nv at this; omega
    refine ⟨fun w hw => by rw [p w hw, q w hw], ?_⟩
    rw [p 0 (by decide), p 1 (by decide), p 2 (by decide), p 3 (by decide)]
    have := d0.2
    exact ⟨hf, ht, hne, h1, h99, by show nv V 0 + dd ≤ 10008; omega⟩
  · have q : ∀ w, w < 4 → mkp V (nI f) (nI t) (nI s) (nI dd) (51 + (x * 4 + w)) = V (51 + (x * 4 + w)) := fun w hw => by rw [mkp_at hw, if_neg e]
    have p : ∀ w, w < 4 → prt (mkp V (nI f) (nI t) (nI s) (nI dd)) x w = prt V x w := fun w hw => by unfold prt nv; rw [q w hw]
    obtain ⟨k1, k2⟩ := h.2.2.1 x (by omega)
    refine ⟨fun w hw => by rw [p w hw, q w hw]; exact k1 w hw, ?_⟩
    rw [p 0 (by decide), p 1 (by decide), p 2 (by decide), p 3 (by decide)]
    exact k2
