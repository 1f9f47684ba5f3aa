/-! how views change under one write; the path as a permutation; the writes as functions of 83 numbers (own work) -/
theorem isB_list : ∀ b, b < 65 → kt[b]? = some (1, 0) → b = 1 ∨ b = 9 ∨ b = 15 ∨ b = 21 ∨ b = 27 ∨ b = 33 ∨ b = 39 ∨ b = 53 ∨ b = 59 := by decide +kernel
theorem isB_cases {b : Nat} (h : isB b) : b = 1 ∨ b = 9 ∨ b = 15 ∨ b = 21 ∨ b = 27 ∨ b = 33 ∨ b = 39 ∨ b = 53 ∨ b = 59 := isB_list b (kt_lt h.1) h.1
theorem isB_apart {b c : Nat} (h : isB b) (g : isB c) (hne : b ≠ c) : b + 6 ≤ c ∨ c + 6 ≤ b := by
  rcases isB_cases h with e | e | e | e | e | e | e | e | e <;> rcases isB_cases g with e2 | e2 | e2 | e2 | e2 | e2 | e2 | e2 | e2 <;> omega
theorem upd_eq (f : Nat → Int32) (k : Nat) (x : Int32) : upd f k x k = x := by simp [upd]
theorem upd_ne (f : Nat → Int32) (x : Int32) {k j : Nat} (h : j ≠ k) : upd f k x j = f j := by simp [upd, h]
theorem d2_off {α : Type} (d : Nat → Nat → α) (x : α) {c j k : Nat} (h : k ≠ c) : d2 d c j x k = d k := by
  funext i
  exact d2_ne d x (Or.inl h)
theorem cV_d2caps (d : Nat → Nat → Int32) (b : Nat) {x : Nat} (v : Int32) (hx : x < 32) : cV (d2 d (b + 1) x v) b = upd (cV d b) (19 + x) v := by
  funext j
  by_cases e : j = 19 + x
  · subst e
    rw [upd_eq, ← cV_caps _ b hx rfl, d2_eq]
  · rw [upd_ne _ _ e]
    unfold cV
    rw [d2_off d v (show b ≠ b + 1 by omega), d2_off d v (show b + 3 ≠ b + 1 by omega), d2_off d v (show b + 4 ≠ b + 1 by omega), d2_off d v (show b + 5 ≠ b + 1 by omega)]
    by_cases c1 : j < 7
    · rw [if_pos c1, if_pos c1]
    · rw [if_neg c1, if_neg c1]
      by_cases c2 : j < 11
      · rw [if_pos c2, if_pos c2]
      · rw [if_neg c2, if_neg c2]
        by_cases c3 : j < 19
        · rw [if_pos c3, if_pos c3]
        · rw [if_neg c3, if_neg c3]
          by_cases c4 : j < 51
          · rw [if_pos c4, if_pos c4, d2_ne d v (Or.inr (by omega))]
          · rw [if_neg c4, if_neg c4]
theorem cV_d2worth (d : Nat → Nat → Int32) (b : Nat) {x : Nat} (v : Int32) (hx : x < 4) : cV (d2 d (b + 3) x v) b = upd (cV d b) (7 + x) v := by
  funext j
  by_cases e : j = 7 + x
  · subst e
    rw [upd_eq, ← cV_worth _ b hx rfl, d2_eq]
  · rw [upd_ne _ _ e]
    unfold cV
    rw [d2_off d v (show b ≠ b + 3 by omega), d2_off d v (show b + 1 ≠ b + 3 by omega), d2_off d v (show b + 4 ≠ b + 3 by omega), d2_off d v (show b + 5 ≠ b + 3 by omega)]
    by_cases c1 : j < 7
    · rw [if_pos c1, if_pos c1]
    · rw [if_neg c1, if_neg c1]
      by_cases c2 : j < 11
      · rw [if_pos c2, if_pos c2, d2_ne d v (Or.inr (by omega))]
      · rw [if_neg c2, if_neg c2]
theorem cV_d2path (d : Nat → Nat → Int32) (b : Nat) {x : Nat} (v : Int32) (hx : x < 8) : cV (d2 d (b + 4) x v) b = upd (cV d b) (11 + x) v := by
  funext j
  by_cases e : j = 11 + x
  · subst e
    rw [upd_eq, ← cV_path _ b hx rfl, d2_eq]
  · rw [upd_ne _ _ e]
    unfold cV
    rw [d2_off d v (show b ≠ b + 4 by omega), d2_off d v (show b + 1 ≠ b + 4 by omega), d2_off d v (show b + 3 ≠ b + 4 by omega), d2_off d v (show b + 5 ≠ b + 4 by omega)]
    by_cases c1 : j < 7
    · rw [if_pos c1, if_pos c1]
    · rw [if_neg c1, if_neg c1]
      by_cases c2 : j < 11
      · rw [if_pos c2, if_pos c2]
      · rw [if_neg c2, if_neg c2]
        by_cases c3 : j < 19
        · rw [if_pos c3, if_pos c3, d2_ne d v (Or.inr (by omega))]
        · rw [if_neg c3, if_neg c3]
theorem cV_d2part (d : Nat → Nat → Int32) (b : Nat) {x : Nat} (v : Int32) (hx : x < 32) : cV (d2 d (b + 5) x v) b = upd (cV d b) (51 + x) v := by
  funext j
  by_cases e : j = 51 + x
  · subst e
    rw [upd_eq, ← cV_part _ b hx rfl, d2_eq]
  · rw [upd_ne _ _ e]
    unfold cV
    rw [d2_off d v (show b ≠ b + 5 by omega), d2_off d v (show b + 1 ≠ b + 5 by omega), d2_off d v (show b + 3 ≠ b + 5 by omega), d2_off d v (show b + 4 ≠ b + 5 by omega)]
    by_cases c1 : j < 7
    · rw [if_pos c1, if_pos c1]
    · rw [if_neg c1, if_neg c1]
      by_cases c2 : j < 11
      · rw [if_pos c2, if_pos c2]
      · rw [if_neg c2, if_neg c2]
        by_cases c3 : j < 19
        · rw [if_pos c3, if_pos c3]
        · rw [if_neg c3, if_neg c3]
          by_cases c4 : j < 51
          · rw [if_pos c4, if_pos c4]
          · rw [if_neg c4, if_neg c4]
            by_cases c5 : j < 83
            · rw [if_pos c5, if_pos c5, d2_ne d v (Or.inr (by omega))]
            · rw [if_neg c5, if_neg c5]
/-- the fields 5 .. 11 of an island, by their places in the view -/
def fpl : Nat → Nat
  | 5 => 1
  | 6 => 0
  | 7 => 6
  | 8 => 2
  | 9 => 3
  | 10 => 4
  | _ => 5
theorem cV_d2f (d : Nat → Nat → Int32) (b : Nat) {x : Nat} (v : Int32) (h5 : 5 ≤ x) (hx : x < 12) : cV (d2 d b x v) b = upd (cV d b) (fpl x) v := by
  funext j
  have o1 := d2_off d v (j := x) (show b + 1 ≠ b by omega)
  have o3 := d2_off d v (j := x) (show b + 3 ≠ b by omega)
  have o4 := d2_off d v (j := x) (show b + 4 ≠ b by omega)
  have o5 := d2_off d v (j := x) (show b + 5 ≠ b by omega)
  by_cases c1 : j < 7
  · match x, h5, hx with
    | 5, _, _ => match j, c1 with
      | 0, _ | 1, _ | 2, _ | 3, _ | 4, _ | 5, _ | 6, _ => first | (simp [cV, upd, fpl, d2]; done) | (simp [cV, upd, fpl, d2]; rfl)
    | 6, _, _ => match j, c1 with
      | 0, _ | 1, _ | 2, _ | 3, _ | 4, _ | 5, _ | 6, _ => first | (simp [cV, upd, fpl, d2]; done) | (simp [cV, upd, fpl, d2]; rfl)
    | 7, _, _ => match j, c1 with
      | 0, _ | 1, _ | 2, _ | 3, _ | 4, _ | 5, _ | 6, _ => first | (simp [cV, upd, fpl, d2]; done) | (simp [cV, upd, fpl, d2]; rfl)
    | 8, _, _ => match j, c1 with
      | 0, _ | 1, _ | 2, _ | 3, _ | 4, _ | 5, _ | 6, _ => first | (simp [cV, upd, fpl, d2]; done) | (simp [cV, upd, fpl, d2]; rfl)
    | 9, _, _ => match j, c1 with
      | 0, _ | 1, _ | 2, _ | 3, _ | 4, _ | 5, _ | 6, _ => first | (simp [cV, upd, fpl, d2]; done) | (simp [cV, upd, fpl, d2]; rfl)
    | 10, _, _ => match j, c1 with
      | 0, _ | 1, _ | 2, _ | 3, _ | 4, _ | 5, _ | 6, _ => first | (simp [cV, upd, fpl, d2]; done) | (simp [cV, upd, fpl, d2]; rfl)
    | 11, _, _ => match j, c1 with
      | 0, _ | 1, _ | 2, _ | 3, _ | 4, _ | 5, _ | 6, _ => first | (simp [cV, upd, fpl, d2]; done) | (simp [cV, upd, fpl, d2]; rfl)
  · have hf : fpl x < 7 := by
      match x, h5, hx with
      | 5, _, _ | 6, _, _ | 7, _, _ | 8, _, _ | 9, _, _ | 10, _, _ | 11, _, _ => decide
    rw [upd_ne _ _ (by omega)]
    unfold cV
    rw [if_neg c1, if_neg c1, o1, o3, o4, o5]
theorem vM_d2 (d : Nat → Nat → Int32) (c o : Nat) {x : Nat} (v : Int32) (hx : x < 83) : vM (d2 d c (o + x) v) c o = upd (vM d c o) x v := by
  funext j
  by_cases e : j = x
  · subst e
    rw [upd_eq]
    unfold vM
    rw [if_pos hx, d2_eq]
  · rw [upd_ne _ _ e]
    unfold vM
    by_cases c1 : j < 83
    · rw [if_pos c1, if_pos c1, d2_ne d v (Or.inr (by omega))]
    · rw [if_neg c1, if_neg c1]
theorem vM_d2' (d : Nat → Nat → Int32) (c : Nat) {x : Nat} (v : Int32) (hx : x < 83) : vM (d2 d c x v) c 0 = upd (vM d c 0) x v := by
  have h := vM_d2 d c 0 v hx
  rw [Nat.zero_add] at h
  exact h
/-- among n + 1 numbers below n two are the same -/
theorem pigeon : ∀ (n : Nat) (f : Nat → Nat), (∀ a, a < n + 1 → f a < n) → ∃ a b, a < b ∧ b < n + 1 ∧ f a = f b
  | 0, f, h => absurd (h 0 (by omega)) (by omega)
  | n + 1, f, h => by
    by_cases hx : ∃ a, a < n + 1 ∧ f a = f (n + 1)
    · obtain ⟨a, h1, h2⟩ := hx
      exact ⟨a, n + 1, h1, by omega, h2⟩
    · have hne : ∀ a, a < n + 1 → f a ≠ f (n + 1) := fun a ha e => hx ⟨a, ha, e⟩
      obtain ⟨a, b, h1, h2, h3⟩ := pigeon n (fun a => if f a = n then f (n + 1) else f a) (fun a ha => by
        have q1 := h a (by omega)
        have q2 := h (n + 1) (by omega)
        have q3 := hne a ha
        by_cases e : f a = n
        · simp only [e, if_true]; omega
        · simp only [e, if_false]; omega)
      refine ⟨a, b, h1, by omega, ?_⟩
      have qa := hne a (by omega)
      have qb := hne b h2
      try simp only at h3
      by_cases e1 : f a = n <;> by_cases e2 : f b = n
      · omega
      · simp only [e1, e2, if_true, if_false] at h3; exact absurd h3.symm qb
      · simp only [e1, e2, if_true, if_false] at h3; exact absurd h3 qa
      · simp only [e1, e2, if_false] at h3; exact h3
theorem okPath.surj {V : Nat → Int32} (h : okPath V) {i : Nat} (hi : i < 8) : ∃ s, s < 8 ∧ pth V s = i := by
  by_cases hx : ∃ s, s < 8 ∧ pth V s = i
  · exact hx
  · exfalso
    have hne : ∀ s, s < 8 → pth V s ≠ i := fun s hs e => hx ⟨s, hs, e⟩
    obtain ⟨a, b, h1, h2, h3⟩ := pigeon 7 (fun s => if i < pth V s then pth V s - 1 else pth V s) (fun s hs => by
      have q1 := (h.1 s hs).2
      have q2 := hne s hs
      by_cases e : i < pth V s
      · simp only [e, if_true]; omega
      · simp only [e, if_false]; omega)
    have qa := hne a (by omega)
    have qb := hne b h2
    have := h.2 a b (by omega) h2
    try simp only at h3
    by_cases e1 : i < pth V a <;> by_cases e2 : i < pth V b
    · simp only [e1, e2, if_true] at h3; omega
    · simp only [e1, e2, if_true, if_false] at h3; omega
    · simp only [e1, e2, if_true, if_false] at h3; omega
    · simp only [e1, e2, if_false] at h3; omega
/-- the circle: the fewest steps home -/
def crcG (V : Nat → Int32) (a : Nat) : Nat → Nat → Nat
  | 0, n => n
  | f + 1, n => if alg V a n = a then n else crcG V a f (n + 1)
def crc (V : Nat → Int32) (a : Nat) : Nat := crcG V a 7 1
theorem alg_inj {V : Nat → Int32} (h : okPath V) {a b : Nat} (ha : a < 8) (hb : b < 8) : ∀ n, alg V a n = alg V b n → a = b
  | 0, e => e
  | n + 1, e => alg_inj h ha hb n (h.2 _ _ (alg_lt h ha n) (alg_lt h hb n) e)
theorem alg_add (V : Nat → Int32) (a n : Nat) : ∀ m, alg V a (n + m) = alg V (alg V a n) m
  | 0 => rfl
  | m + 1 => by
    show pth V (alg V a (n + m)) = pth V (alg V (alg V a n) m)
    rw [alg_add V a n m]
theorem alg_home {V : Nat → Int32} (h : okPath V) {a : Nat} (ha : a < 8) : ∃ n, 1 ≤ n ∧ n ≤ 8 ∧ alg V a n = a := by
  obtain ⟨p, q, h1, h2, h3⟩ := pigeon 8 (fun n => alg V a n) (fun n _ => alg_lt h ha n)
  refine ⟨q - p, by omega, by omega, ?_⟩
  have h4 : alg V (alg V a (q - p)) p = alg V a p := by
    rw [← alg_add, show q - p + p = q by omega]
    exact h3.symm
  exact alg_inj h (alg_lt h ha _) ha p h4
theorem crcG_spec {V : Nat → Int32} {a : Nat} : ∀ (f n : Nat), (∃ m, n ≤ m ∧ m ≤ n + f ∧ alg V a m = a) → alg V a (crcG V a f n) = a ∧ n ≤ crcG V a f n ∧ crcG V a f n ≤ n + f ∧ ∀ m, n ≤ m → m < crcG V a f n → alg V a m ≠ a
  | 0, n, ⟨m, h1, h2, h3⟩ => by
    have : m = n := by omega
    subst this
    exact ⟨h3, Nat.le_refl _, Nat.le_refl _, fun q h4 h5 => absurd h5 (by show ¬ q < m; omega)⟩
  | f + 1, n, ⟨m, h1, h2, h3⟩ => by
    unfold crcG
    by_cases e : alg V a n = a
    · rw [if_pos e]
      exact ⟨e, Nat.le_refl _, by omega, fun q h4 h5 => absurd h5 (by omega)⟩
    · rw [if_neg e]
      have hmn : m ≠ n := fun q => e (by rw [← q]; exact h3)
      obtain ⟨g1, g2, g3, g4⟩ := crcG_spec f (n + 1) ⟨m, by omega, by omega, h3⟩
      refine ⟨g1, by omega, by omega, fun q h4 h5 => ?_⟩
      by_cases e2 : q = n
      · subst e2; exact e
      · exact g4 q (by omega) h5
theorem crc_spec {V : Nat → Int32} (h : okPath V) {a : Nat} (ha : a < 8) : alg V a (crc V a) = a ∧ 1 ≤ crc V a ∧ crc V a ≤ 8 ∧ ∀ m, 1 ≤ m → m < crc V a → alg V a m ≠ a := by
  obtain ⟨n, h1, h2, h3⟩ := alg_home h ha
  exact crcG_spec 7 1 ⟨n, h1, by omega, h3⟩
/-- the sums of promises that pass a test, the first n of them -/
def smt (V : Nat → Int32) (t : Nat → Bool) : Nat → Int32
  | 0 => nI 0
  | n + 1 => if t n = true then smt V t n + V (51 + (n * 4 + 2)) else smt V t n
theorem smt_s (V : Nat → Int32) (t : Nat → Bool) (n : Nat) : smt V t (n + 1) = if t n = true then smt V t n + V (51 + (n * 4 + 2)) else smt V t n := rfl
theorem crcG_s (V : Nat → Int32) (a f n : Nat) : crcG V a (f + 1) n = if alg V a n = a then n else crcG V a f (n + 1) := rfl
/-- caps handed over -/
def hnd (V : Nat → Int32) (f t c : Nat) (m : Int32) : Nat → Int32 := upd (upd V (19 + (f * 4 + c)) (V (19 + (f * 4 + c)) - m)) (19 + (t * 4 + c)) (upd V (19 + (f * 4 + c)) (V (19 + (f * 4 + c)) - m) (19 + (t * 4 + c)) + m)
/-- paths changed -/
def swp (V : Nat → Int32) (i o : Nat) : Nat → Int32 := upd (upd V (11 + i) (V (11 + o))) (11 + o) (V (11 + i))
/-- one more refused -/
def rfz (V : Nat → Int32) : Nat → Int32 := upd V 5 (V 5 + nI 1)
/-- one more promise -/
def mkp (V : Nat → Int32) (f t s dd : Int32) : Nat → Int32 := upd (upd (upd (upd (upd V (51 + (nv V 1 * 4 + 0)) f) (51 + (nv V 1 * 4 + 1)) t) (51 + (nv V 1 * 4 + 2)) s) (51 + (nv V 1 * 4 + 3)) (V 0 + dd)) 1 (nI (nv V 1 + 1))
/-- the promise q is gone -/
def drp (V : Nat → Int32) (q : Nat) : Nat → Int32 := fun j => if j = 1 then nI (nv V 1 - 1) else if 51 + q * 4 ≤ j ∧ j < 51 + (nv V 1 - 1) * 4 then V (j + 4) else V j
/-- promises broken, those below k still to be looked at -/
def brkG : Nat → (Nat → Int32) → Nat → (Nat → Int32) × Nat
  | 0, V, n => (V, n)
  | k + 1, V, n => if V (51 + (k * 4 + 3)) < V 0 then brkG k (drp V k) (n + 1) else brkG k V n
def brk (V : Nat → Int32) : (Nat → Int32) × Nat := brkG (nv V 1) V 0
/-- who sends to an islander -/
def sndG (V : Nat → Int32) (i : Nat) : Nat → Nat → Nat
  | 0, s => s
  | f + 1, s => if pth V s = i then s else sndG V i f (s + 1)
def snd (V : Nat → Int32) (i : Nat) : Nat := sndG V i 7 0
theorem sndG_s (V : Nat → Int32) (i f s : Nat) : sndG V i (f + 1) s = if pth V s = i then s else sndG V i f (s + 1) := rfl
theorem sndG_spec {V : Nat → Int32} {i : Nat} : ∀ (f s : Nat), (∃ m, s ≤ m ∧ m ≤ s + f ∧ pth V m = i) → pth V (sndG V i f s) = i ∧ s ≤ sndG V i f s ∧ sndG V i f s ≤ s + f
  | 0, s, ⟨m, h1, h2, h3⟩ => by
    have : m = s := by omega
    subst this
    exact ⟨h3, Nat.le_refl _, Nat.le_refl _⟩
  | f + 1, s, ⟨m, h1, h2, h3⟩ => by
    unfold sndG
    by_cases e : pth V s = i
    · rw [if_pos e]
      exact ⟨e, Nat.le_refl _, by omega⟩
    · rw [if_neg e]
      have hmn : m ≠ s := fun q => e (by rw [← q]; exact h3)
      obtain ⟨g1, g2, g3⟩ := sndG_spec f (s + 1) ⟨m, by omega, by omega, h3⟩
      exact ⟨g1, by omega, by omega⟩
theorem snd_spec {V : Nat → Int32} (h : okPath V) {i : Nat} (hi : i < 8) : pth V (snd V i) = i ∧ snd V i < 8 := by
  obtain ⟨s, h1, h2⟩ := h.surj hi
  obtain ⟨g1, g2, g3⟩ := sndG_spec (V := V) (i := i) 7 0 ⟨s, Nat.zero_le _, by omega, h2⟩
  exact ⟨g1, by show sndG V i 7 0 < 8; omega⟩
/-- the caps behind a storm: whose purse comes to an islander; one more day -/
def stm (V : Nat → Int32) : Nat → Int32 := fun j => if j = 0 then V 0 + nI 1 else if 19 ≤ j ∧ j < 51 then V (19 + (snd V ((j - 19) / 4) * 4 + (j - 19) % 4)) else V j
