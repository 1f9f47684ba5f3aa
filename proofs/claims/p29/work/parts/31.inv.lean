/-! WHAT EVERY CALL KEEPS (own work, written by wip/tools) -/
/-- how far the days have come -/
def dd (V : Nat → Int32) (D : Nat) : Prop := nv V 0 ≤ D ∧ ∀ q, q < nv V 1 → prt V q 3 ≤ D + 9
theorem dd_mono {V : Nat → Int32} {D D' : Nat} (h : dd V D) (hD : D ≤ D') : dd V D' := ⟨Nat.le_trans h.1 hD, fun q hq => Nat.le_trans (h.2 q hq) (by omega)⟩
theorem dd_of {V V' : Nat → Int32} {D : Nat} (h : dd V D) (e0 : V' 0 = V 0) (e1 : V' 1 = V 1) (e : ∀ j, 51 ≤ j → V' j = V j) : dd V' D := by
  have n0 : nv V' 0 = nv V 0 := by unfold nv; rw [e0]
  have n1 : nv V' 1 = nv V 1 := by unfold nv; rw [e1]
  refine ⟨by rw [n0]; exact h.1, fun q hq => ?_⟩
  have hp : prt V' q 3 = prt V q 3 := by unfold prt nv; rw [e _ (by omega)]
  rw [hp]
  exact h.2 q (by omega)
theorem dd_upd {V : Nat → Int32} {D k : Nat} (h : dd V D) (x : Int32) (h2 : 2 ≤ k) (h51 : k < 51) : dd (upd V k x) D := dd_of h (upd_ne _ _ (by omega)) (upd_ne _ _ (by omega)) (fun j hj => upd_ne _ _ (by omega))
theorem dd_rfz {V : Nat → Int32} {D : Nat} (h : dd V D) : dd (rfz V) D := dd_upd h _ (by decide) (by decide)
theorem dd_hnd {V : Nat → Int32} {D f t c : Nat} {x : Int32} (h : dd V D) (hf : f < 8) (ht : t < 8) (hc : c < 4) : dd (hnd V f t c x) D := dd_of h (hnd_off hf ht hc (by omega)) (hnd_off hf ht hc (by omega)) (fun j hj => hnd_off hf ht hc (by omega))
theorem dd_swp {V : Nat → Int32} {D i o : Nat} (h : dd V D) (hi : i < 8) (ho : o < 8) : dd (swp V i o) D := dd_of h (swp_off hi ho (by omega)) (swp_off hi ho (by omega)) (fun j hj => swp_off hi ho (by omega))
theorem drp_n {V : Nat → Int32} {q : Nat} (ok : okMany V) : nv (drp V q) 1 = nv V 1 - 1 := by
  show (drp V q 1).toNatClampNeg = _
  rw [show drp V q 1 = nI (nv V 1 - 1) from if_pos rfl]
  exact nI_clamp (by have := ok.2; omega)
theorem dd_drp {V : Nat → Int32} {D q : Nat} (h : dd V D) (ok : okMany V) : dd (drp V q) D := by
  have n0 : nv (drp V q) 0 = nv V 0 := by unfold nv; rw [drp_off (by decide) (by decide)]
  refine ⟨by rw [n0]; exact h.1, fun x hx => ?_⟩
  rw [drp_n ok] at hx
  show (drp V q (51 + (x * 4 + 3))).toNatClampNeg ≤ D + 9
  rw [drp_prt hx (by decide)]
  by_cases c : q ≤ x
  · rw [if_pos c]; exact h.2 (x + 1) (by omega)
  · rw [if_neg c]; exact h.2 x (by omega)
theorem dd_brkG {D : Nat} : ∀ (k : Nat) (V : Nat → Int32) (n : Nat), okV V → k ≤ nv V 1 → dd V D → dd (brkG k V n).1 D
  | 0, _, _, _, _, h => h
  | k + 1, V, n, ok, hk, h => by
    rw [brkG_s]
    by_cases c : V (51 + (k * 4 + 3)) < V 0
    · rw [if_pos c]
      exact dd_brkG k _ _ (ok_drp ok k (by omega)) (by rw [drp_n ok.2.1]; omega) (dd_drp h ok.2.1)
    · rw [if_neg c]
      exact dd_brkG k _ _ ok (by omega) h
theorem dd_brs {V : Nat → Int32} {D : Nat} (ok : okV V) (h : dd V D) : dd (brs V) D := dd_upd (dd_brkG _ _ _ ok (Nat.le_refl _) h) _ (by decide) (by decide)
theorem dd_stm {V : Nat → Int32} {D : Nat} (ok : okV V) (hd : nv V 0 < 9999) (h : dd V D) : dd (stm V) (D + 1) := by
  have n1 : nv (stm V) 1 = nv V 1 := by unfold nv; rw [stm_off V (by decide) (by omega)]
  refine ⟨by rw [(ok_stm ok hd).2]; have := h.1; omega, fun q hq => ?_⟩
  have hp : prt (stm V) q 3 = prt V q 3 := by unfold prt nv; rw [stm_off V (by omega) (by omega)]
  rw [hp]
  have := h.2 q (by omega)
  omega
theorem day_lt {V : Nat → Int32} (ok : okDay V) (h : ¬ nI 9999 ≤ V 0) : nv V 0 < 9999 := by
  apply Classical.byContradiction
  intro c
  refine h ?_
  rw [ok.1.1]
  exact nI_le (by omega) (by have := ok.1.2; omega)
theorem ok_storm {V : Nat → Int32} (ok : okV V) (h : ¬ nI 9999 ≤ V 0) : okV (brs (stm V)) := ok_brs (ok_stm ok (day_lt ok.2.2.2.2.2 h)).1
theorem dd_storm {V : Nat → Int32} {D : Nat} (ok : okV V) (h : ¬ nI 9999 ≤ V 0) (hd : dd V D) : dd (brs (stm V)) (D + 1) := dd_brs (ok_stm ok (day_lt ok.2.2.2.2.2 h)).1 (dd_stm ok (day_lt ok.2.2.2.2.2 h) hd)
theorem dd_mkp {V : Nat → Int32} {D y : Nat} {f t s : Int32} (ok : okV V) (h : dd V D) (hm : nv V 1 < 8) (hy : y ≤ 9) : dd (mkp V f t s (nI y)) D := by
  have n0 : nv (mkp V f t s (nI y)) 0 = nv V 0 := by unfold nv; rw [mkp_off (by decide) (by decide)]
  have hday := ok.2.2.2.2.2.1
  refine ⟨by rw [n0]; exact h.1, fun x hx => ?_⟩
  rw [(mkp_many hm).1] at hx
  show (mkp V f t s (nI y) (51 + (x * 4 + 3))).toNatClampNeg ≤ D + 9
  rw [mkp_at (by decide)]
  by_cases c : x = nv V 1
  · rw [if_pos c, if_neg (by decide), if_neg (by decide), if_neg (by decide), hday.1, nI_add, nI_clamp (by omega)]
    have := h.1
    omega
  · rw [if_neg c]
    exact h.2 x (by omega)
theorem dd_mkV {V : Nat → Int32} {D y : Nat} {f t s : Int32} (ok : okV V) (h : dd V D) (hy : y ≤ 9) : dd (mkV V f t s (nI y)) D := by
  unfold mkV
  by_cases c : nv V 1 < 8
  · rw [if_pos c]; exact dd_mkp ok h c hy
  · rw [if_neg c]; exact dd_rfz h
theorem ok_mkV {V : Nat → Int32} (ok : okV V) {f t s y : Nat} (hf : f < 8) (ht : t < 8) (hne : f ≠ t) (h1 : 1 ≤ s) (h99 : s ≤ 99) (hy : y ≤ 9) : okV (mkV V (nI f) (nI t) (nI s) (nI y)) := by
  unfold mkV
  by_cases c : nv V 1 < 8
  · rw [if_pos c]; exact ok_mkp ok c hf ht hne h1 h99 hy
  · rw [if_neg c]; exact ok_rfz ok
theorem dd_kpV {V : Nat → Int32} {D q s : Nat} (ok : okV V) (h : dd V D) (hq : q < nv V 1) : dd (kpV V q (wy V (prt V q 0) s)) D := by
  obtain ⟨p1, p2, p3, p4, p5⟩ := ok.2.2.1 q hq
  cases wy V (prt V q 0) s with
  | none => exact dd_rfz h
  | some w =>
    obtain ⟨z, f, e, t⟩ := w
    refine dd_upd (dd_drp (dd_of h (pay_off p2 p3 (by omega)) (pay_off p2 p3 (by omega)) (fun j hj => pay_off p2 p3 (by omega))) (okMany_of ok.2.1 (pay_off p2 p3 (by omega)))) _ (by decide) (by decide)
theorem rsn_0 {V : Nat → Int32} {a c b e : Nat} {x y : Int32} (z : rsn V a c b e x y = 0) : ¬ V (19 + (a * 4 + c)) < x ∧ ¬ V (19 + (b * 4 + e)) < y := by
  unfold rsn at z
  by_cases q1 : V (19 + (a * 4 + c)) < x
  · rw [if_pos q1] at z
    exact absurd z (by decide)
  · rw [if_neg q1] at z
    refine ⟨q1, fun q2 => ?_⟩
    rw [if_pos q2] at z
    exact absurd z (by decide)
theorem ge_of {k x : Nat} (hk : k < 2 ^ 31) (hx : x < 2 ^ 31) (h : ¬ nI k < nI x) : x ≤ k := by
  apply Classical.byContradiction
  intro c
  exact h (nI_lt (by omega) hx)
theorem ok_trd {V : Nat → Int32} (ok : okV V) {a c b e x y : Nat} (ha : a < 8) (hc : c < 4) (hb : b < 8) (he : e < 4) (hne : a ≠ b) (hx : x ≤ 99) (hy : y ≤ 99) : okV (trd V a c (nI x) b e (nI y)) := by
  unfold trd
  by_cases z : rsn V a c b e (nI x) (nI y) = 0
  · rw [if_pos z]
    obtain ⟨z1, z2⟩ := rsn_0 z
    have okC := ok.2.2.2.1
    have ca : nv V (19 + (a * 4 + c)) ≤ 20 := cp_le okC ha hc
    have cb : nv V (19 + (b * 4 + e)) ≤ 20 := cp_le okC hb he
    rw [okC.1 (a * 4 + c) (by omega)] at z1
    rw [okC.1 (b * 4 + e) (by omega)] at z2
    have x1 := ge_of (by omega) (by omega) z1
    have y1 := ge_of (by omega) (by omega) z2
    obtain ⟨k1, k2⟩ := ok_hnd ok hne ha hb hc x1
    have y2 : y ≤ nv (hnd V a b c (nI x)) (19 + (b * 4 + e)) := by
      by_cases q : e = c
      · subst q
        show y ≤ (hnd V a b e (nI x) (19 + (b * 4 + e))).toNatClampNeg
        rw [hnd_at hne he ha hb, if_pos rfl, okC.1 (b * 4 + e) (by omega), nI_add, nI_clamp (by omega)]
        omega
      · show y ≤ (hnd V a b c (nI x) (19 + (b * 4 + e))).toNatClampNeg
        rw [k2 (b * 4 + e) (by omega) (by omega)]
        exact y1
    exact ok_upd (ok_hnd k1 (fun q => hne q.symm) hb ha he y2).1 _ (by decide) (by decide)
  · rw [if_neg z]
    exact ok_rfz ok
theorem dd_trd {V : Nat → Int32} {D : Nat} (h : dd V D) {a c b e : Nat} {x y : Int32} (ha : a < 8) (hc : c < 4) (hb : b < 8) (he : e < 4) : dd (trd V a c x b e y) D := by
  unfold trd
  by_cases z : rsn V a c b e x y = 0
  · rw [if_pos z]
    exact dd_upd (dd_hnd (dd_hnd h ha hb hc) hb ha he) _ (by decide) (by decide)
  · rw [if_neg z]
    exact dd_rfz h
/-- the days of a whole state, behind c calls -/
def DI (V : Nat → Int32) (n : Nat) (H S : Nat → Nat → Int32) (t : Nat → Bool) (tl c : Nat) : Prop := ∃ D, D + tl ≤ c ∧ dd V D ∧ (∀ i, i < n → dd (H i) D) ∧ (t 0 = true → dd (S 0) D) ∧ (t 1 = true → dd (S 1) D)
section INV
variable {V V' : Nat → Int32} {n : Nat} {H S : Nat → Nat → Int32} {t : Nat → Bool} {T : Nat → Int32} {tl c : Nat}
theorem IV_push (h6 : n ≤ 6) (iv : IV V n H S t T tl) (ok : okV V') {T' : Nat → Int32} {tl' : Nat} (hT : True) : IV V' (psN n) (psH H n V) S t T' tl' := by
  refine ⟨ok, fun i hi => ?_, iv.2.2.1, hT⟩
  unfold psN at hi
  unfold psH
  by_cases c : n < 6
  · rw [if_pos c] at hi
    rw [if_pos c]
    by_cases e : i = n
    · rw [if_pos e]; exact iv.1
    · rw [if_neg e]; exact iv.2.1 i (by omega)
  · rw [if_neg c] at hi
    rw [if_neg c]
    by_cases e : i = 5
    · rw [if_pos e]; exact iv.1
    · rw [if_neg e]; exact iv.2.1 (i + 1) (by omega)
theorem DI_push (h6 : n ≤ 6) (di : DI V n H S t tl c) {tl' : Nat} (e : Nat) (hV : ∀ D, dd V D → dd V' (D + e)) (he : e + tl' ≤ tl + 1) : DI V' (psN n) (psH H n V) S t tl' (c + 1) := by
  obtain ⟨D, d1, d2, d3, d4, d5⟩ := di
  refine ⟨D + e, by omega, hV D d2, fun i hi => ?_, fun q => dd_mono (d4 q) (by omega), fun q => dd_mono (d5 q) (by omega)⟩
  unfold psN at hi
  unfold psH
  by_cases c : n < 6
  · rw [if_pos c] at hi
    rw [if_pos c]
    by_cases e2 : i = n
    · rw [if_pos e2]; exact dd_mono d2 (by omega)
    · rw [if_neg e2]; exact dd_mono (d3 i (by omega)) (by omega)
  · rw [if_neg c] at hi
    rw [if_neg c]
    by_cases e2 : i = 5
    · rw [if_pos e2]; exact dd_mono d2 (by omega)
    · rw [if_neg e2]; exact dd_mono (d3 (i + 1) (by omega)) (by omega)
theorem DI_same (di : DI V n H S t tl c) {tl' : Nat} (he : tl' ≤ tl + 1) : DI V n H S t tl' (c + 1) := by
  obtain ⟨D, d1, d2⟩ := di
  exact ⟨D, by omega, d2⟩
theorem DI_due (di : DI V n H S t tl c) (hc : c ≤ 512) : ∀ q, q < nv V 1 → prt V q 3 ≤ 9999 := by
  obtain ⟨D, d1, d2, d3⟩ := di
  intro q hq
  have := d2.2 q hq
  omega
theorem DI_goBack (h6 : n ≤ 6) (di : DI V n H S t tl c) {s : Nat} (hs : ∀ D, (t 0 = true → dd (S 0) D) ∧ (t 1 = true → dd (S 1) D) → dd (S s) D) : DI (S s) (psN n) (psH H n V) S t tl (c + 1) := by
  obtain ⟨D, d1, d2, d3, d4, d5⟩ := di
  obtain ⟨E, e1, e2, e3, e4, e5⟩ := DI_push (V' := V) h6 ⟨D, d1, d2, d3, d4, d5⟩ 0 (fun D h => h) (by omega : 0 + tl ≤ tl + 1)
  obtain ⟨F, f1, f2, f3, f4, f5⟩ : DI V (psN n) (psH H n V) S t tl (c + 1) := ⟨E, e1, e2, e3, e4, e5⟩
  exact ⟨F, f1, hs F ⟨f4, f5⟩, f3, f4, f5⟩
theorem DI_undo (di : DI V n H S t tl c) (h1 : 1 ≤ n) : DI (H (n - 1)) (n - 1) H S t tl (c + 1) := by
  obtain ⟨D, d1, d2, d3, d4, d5⟩ := di
  exact ⟨D, by omega, d3 _ (by omega), fun i hi => d3 i (by omega), d4, d5⟩
theorem DI_keep (di : DI V n H S t tl c) (s : Nat) : DI V n H (sS S s V) (sT t s) tl (c + 1) := by
  obtain ⟨D, d1, d2, d3, d4, d5⟩ := di
  refine ⟨D, by omega, d2, d3, fun q => ?_, fun q => ?_⟩
  · unfold sS
    by_cases e : 0 = s
    · rw [if_pos e]; exact d2
    · rw [if_neg e]
      unfold sT at q
      rw [if_neg e] at q
      exact d4 q
  · unfold sS
    by_cases e : 1 = s
    · rw [if_pos e]; exact d2
    · rw [if_neg e]
      unfold sT at q
      rw [if_neg e] at q
      exact d5 q
theorem IV_keep (iv : IV V n H S t T tl) (s : Nat) : IV V n H (sS S s V) (sT t s) T tl := by
  obtain ⟨i1, i2, ⟨i3, i4⟩, i5⟩ := iv
  refine ⟨i1, i2, ⟨fun q => ?_, fun q => ?_⟩, i5⟩
  · unfold sS
    by_cases e : 0 = s
    · rw [if_pos e]; exact i1
    · rw [if_neg e]
      unfold sT at q
      rw [if_neg e] at q
      exact i3 q
  · unfold sS
    by_cases e : 1 = s
    · rw [if_pos e]; exact i1
    · rw [if_neg e]
      unfold sT at q
      rw [if_neg e] at q
      exact i4 q
end INV
