/-! the literal cells; THE VIEW: an island of the class, or a row of the model, as 83 numbers (0 day, 1 promises, 2 trades, 3 kept, 4 broken, 5 refused, 6 setting, 7.. worths, 11.. path, 19.. caps, 51.. promises); what a view keeps (own work, written by wip/tools/mk_cells.py) -/
section CZ
theorem ko_0 : kO 0 4 := ⟨by decide, fun _ _ _ => ⟨_, rfl⟩⟩
theorem kr_0_0 : kR 0 4 0 1 := fun _ _ _ => ⟨_, rfl, rfl⟩
theorem kr_0_1 : kR 0 4 1 7 := fun _ _ _ => ⟨_, rfl, rfl⟩
theorem kr_0_2 : kR 0 4 2 45 := fun _ _ _ => ⟨_, rfl, rfl⟩
theorem kr_0_3 : kR 0 4 3 48 := fun _ _ _ => ⟨_, rfl, rfl⟩
theorem kr_0_4 : kR 0 4 4 50 := fun _ _ _ => ⟨_, rfl, rfl⟩
theorem kr_0_5 : kR 0 4 5 51 := fun _ _ _ => ⟨_, rfl, rfl⟩
theorem kr_0_6 : kR 0 4 6 52 := fun _ _ _ => ⟨_, rfl, rfl⟩
theorem ko_7 : kO 7 0 := ⟨by decide, fun _ _ _ => ⟨_, rfl⟩⟩
theorem kr_7_0 : kR 7 0 0 8 := fun _ _ _ => ⟨_, rfl, rfl⟩
theorem kf_7_1 : kF 7 0 1 := fun _ _ _ => ⟨_, rfl, rfl, Nat.le_of_ble_eq_true rfl, fun _ => rfl⟩
theorem ko_45 : kO 45 3 := ⟨by decide, fun _ _ _ => ⟨_, rfl⟩⟩
theorem kr_45_0 : kR 45 3 0 46 := fun _ _ _ => ⟨_, rfl, rfl⟩
theorem kr_45_1 : kR 45 3 1 47 := fun _ _ _ => ⟨_, rfl, rfl⟩
theorem ko_48 : kO 48 2 := ⟨by decide, fun _ _ _ => ⟨_, rfl⟩⟩
theorem kr_48_0 : kR 48 2 0 49 := fun _ _ _ => ⟨_, rfl, rfl⟩
theorem kf_48_1 : kF 48 2 1 := fun _ _ _ => ⟨_, rfl, rfl, Nat.le_of_ble_eq_true rfl, fun _ => rfl⟩
theorem isB_1 : isB 1 := ⟨rfl, rfl, rfl, rfl, rfl, rfl⟩
theorem isB_9 : isB 9 := ⟨rfl, rfl, rfl, rfl, rfl, rfl⟩
theorem isB_15 : isB 15 := ⟨rfl, rfl, rfl, rfl, rfl, rfl⟩
theorem isB_21 : isB 21 := ⟨rfl, rfl, rfl, rfl, rfl, rfl⟩
theorem isB_27 : isB 27 := ⟨rfl, rfl, rfl, rfl, rfl, rfl⟩
theorem isB_33 : isB 33 := ⟨rfl, rfl, rfl, rfl, rfl, rfl⟩
theorem isB_39 : isB 39 := ⟨rfl, rfl, rfl, rfl, rfl, rfl⟩
theorem isB_53 : isB 53 := ⟨rfl, rfl, rfl, rfl, rfl, rfl⟩
theorem isB_59 : isB 59 := ⟨rfl, rfl, rfl, rfl, rfl, rfl⟩
variable {y : MethodName} {cc : ByteArray} {nL : Nat} {ret : Option FieldType} {xt : List (Nat × Nat × Nat × Nat)} {lv : Nat} {sc : Option (Nat × (Nat → Int32))} {pc : Nat} {lo : List (Option Value)} {st : List Value} {k n : Nat} {o : Option Value ⊕ String} {N' : Nat} {aw' : Nat → am_E} {d : Nat → Nat → Int32} {r : Nat → Nat → Option Nat} {J : Nat → Nat → Int64}
theorem sx_ialdE {c nn : Nat} {i : Int32} (j : Nat) (v : Int32) (hv : d c j = v) (hk : kt[c]? = some (2, nn)) (hi : i = nI j) (hj : j < nn) (dd : decode cc pc = .ok (.iaload, 1))
    (k9 : SW y cc nL ret xt lv sc (pc + 1) lo (.int v :: st) 65 (W0 d r J) k n o N' aw') : SW y cc nL ret xt lv sc pc lo (.int i :: .ref c :: st) 65 (W0 d r J) k n o N' aw' := by
  subst hv
  exact sx_iald j hk hi hj dd k9
theorem sx_caldE {c nn : Nat} {i : Int32} (j : Nat) (v : Int32) (hv : d c j = v) (hk : kt[c]? = some (7, nn)) (hi : i = nI j) (hj : j < nn) (dd : decode cc pc = .ok (.caload, 1))
    (k9 : SW y cc nL ret xt lv sc (pc + 1) lo (.int v :: st) 65 (W0 d r J) k n o N' aw') : SW y cc nL ret xt lv sc pc lo (.int i :: .ref c :: st) 65 (W0 d r J) k n o N' aw' := by
  subst hv
  exact sx_cald j hk hi hj dd k9
theorem sx_zaldE {c nn : Nat} {i : Int32} (j : Nat) (v : Int32) (hv : d c j = v) (hk : kt[c]? = some (8, nn)) (hi : i = nI j) (hj : j < nn) (dd : decode cc pc = .ok (.baload, 1))
    (k9 : SW y cc nL ret xt lv sc (pc + 1) lo (.int v :: st) 65 (W0 d r J) k n o N' aw') : SW y cc nL ret xt lv sc pc lo (.int i :: .ref c :: st) 65 (W0 d r J) k n o N' aw' := by
  subst hv
  exact sx_zald j hk hi hj dd k9
theorem sx_getIE {c ci j idx : Nat} (v : Int32) (hv : d c j = v) (G : am_F y.cls idx ci j) (hc : c < 65) (hk : kF c ci j) (dd : decode cc pc = .ok (.getfield idx, 3))
    (k9 : SW y cc nL ret xt lv sc (pc + 3) lo (.int v :: st) 65 (W0 d r J) k n o N' aw') : SW y cc nL ret xt lv sc pc lo (.ref c :: st) 65 (W0 d r J) k n o N' aw' := by
  subst hv
  exact sx_getI G hc hk dd k9
theorem sw_ireturnE {N : Nat} {aw : Nat → am_E} {x v : Int32} (hv : x = v) (hret : ret = some .int) (dd : decode cc pc = .ok (.ireturn, 1)) : SW y cc nL ret xt lv sc pc lo [.int x] N aw k n (.inl (some (.int v))) N aw := by
  subst hv
  exact sw_ireturn hret dd
theorem sw_zreturnE {N : Nat} {aw : Nat → am_E} {x v : Int32} {rt : FieldType} (hv : x = v) (hret : ret = some rt) (hnar : narrow rt (.int v) = .int v) (dd : decode cc pc = .ok (.ireturn, 1)) : SW y cc nL ret xt lv sc pc lo [.int x] N aw k n (.inl (some (.int v))) N aw := by
  subst hv
  exact sw_zreturn hret hnar dd
theorem sw_lreturnE {N : Nat} {aw : Nat → am_E} {x v : Int64} (hv : x = v) (hret : ret = some .long) (dd : decode cc pc = .ok (.lreturn, 1)) : SW y cc nL ret xt lv sc pc lo [.long x] N aw k n (.inl (some (.long v))) N aw := by
  subst hv
  exact sw_lreturn hret dd
theorem sw_dreturnE {N : Nat} {aw : Nat → am_E} {x v : UInt64} (hv : x = v) (hret : ret = some .double) (dd : decode cc pc = .ok (.dreturn, 1)) : SW y cc nL ret xt lv sc pc lo [.double x] N aw k n (.inl (some (.double v))) N aw := by
  subst hv
  exact sw_dreturn hret dd
theorem sw_lo {N : Nat} {aw : Nat → am_E} {lo2 : List (Option Value)} (h : lo = lo2) (k9 : SW y cc nL ret xt lv sc pc lo2 st N aw k n o N' aw') : SW y cc nL ret xt lv sc pc lo st N aw k n o N' aw' := by
  subst h
  exact k9
/-- a computed number on the stack, said otherwise -/
theorem sw_topE {N : Nat} {aw : Nat → am_E} {x v : Int32} (hv : x = v) (k9 : SW y cc nL ret xt lv sc pc lo (.int v :: st) N aw k n o N' aw') : SW y cc nL ret xt lv sc pc lo (.int x :: st) N aw k n o N' aw' := by
  subst hv
  exact k9
end CZ
/-- an island of the class (its cell b) as 83 numbers -/
def cV (d : Nat → Nat → Int32) (b : Nat) : Nat → Int32 := fun j =>
  if j < 7 then (if j = 0 then d b 6 else if j = 1 then d b 5 else if j = 2 then d b 8 else if j = 3 then d b 9 else if j = 4 then d b 10 else if j = 5 then d b 11 else d b 7)
  else if j < 11 then d (b + 3) (j - 7) else if j < 19 then d (b + 4) (j - 11) else if j < 51 then d (b + 1) (j - 19) else if j < 83 then d (b + 5) (j - 51) else 0
/-- the 83 numbers from the place o on of the row c -/
def vM (d : Nat → Nat → Int32) (c o : Nat) : Nat → Int32 := fun j => if j < 83 then d c (o + j) else 0
theorem cV_day (d : Nat → Nat → Int32) (b : Nat) : d b 6 = cV d b 0 := rfl
theorem cV_many (d : Nat → Nat → Int32) (b : Nat) : d b 5 = cV d b 1 := rfl
theorem cV_trades (d : Nat → Nat → Int32) (b : Nat) : d b 8 = cV d b 2 := rfl
theorem cV_kept (d : Nat → Nat → Int32) (b : Nat) : d b 9 = cV d b 3 := rfl
theorem cV_broken (d : Nat → Nat → Int32) (b : Nat) : d b 10 = cV d b 4 := rfl
theorem cV_refused (d : Nat → Nat → Int32) (b : Nat) : d b 11 = cV d b 5 := rfl
theorem cV_unfair (d : Nat → Nat → Int32) (b : Nat) : d b 7 = cV d b 6 := rfl
theorem cV_worth (d : Nat → Nat → Int32) (b : Nat) {x j : Nat} (hx : x < 4) (hj : j = 7 + x) : d (b + 3) x = cV d b j := by
  unfold cV
  rw [if_neg (by omega), if_pos (by omega), show j - 7 = x by omega]
theorem cV_path (d : Nat → Nat → Int32) (b : Nat) {x j : Nat} (hx : x < 8) (hj : j = 11 + x) : d (b + 4) x = cV d b j := by
  unfold cV
  rw [if_neg (by omega), if_neg (by omega), if_pos (by omega), show j - 11 = x by omega]
theorem cV_caps (d : Nat → Nat → Int32) (b : Nat) {x j : Nat} (hx : x < 32) (hj : j = 19 + x) : d (b + 1) x = cV d b j := by
  unfold cV
  rw [if_neg (by omega), if_neg (by omega), if_neg (by omega), if_pos (by omega), show j - 19 = x by omega]
theorem cV_part (d : Nat → Nat → Int32) (b : Nat) {x j : Nat} (hx : x < 32) (hj : j = 51 + x) : d (b + 5) x = cV d b j := by
  unfold cV
  rw [if_neg (by omega), if_neg (by omega), if_neg (by omega), if_neg (by omega), if_pos (by omega), show j - 51 = x by omega]
theorem cV_out (d : Nat → Nat → Int32) (b : Nat) {j : Nat} (hj : 83 ≤ j) : cV d b j = 0 := by
  unfold cV
  rw [if_neg (by omega), if_neg (by omega), if_neg (by omega), if_neg (by omega), if_neg (by omega)]
theorem vM_in (d : Nat → Nat → Int32) (c o : Nat) {x j : Nat} (hj : j < 83) (hx : x = o + j) : d c x = vM d c o j := by
  unfold vM
  rw [if_pos hj, hx]
theorem vM_out (d : Nat → Nat → Int32) (c o : Nat) {j : Nat} (hj : 83 ≤ j) : vM d c o j = 0 := by
  unfold vM
  rw [if_neg (by omega)]
/-- a view depends on its own rows alone -/
theorem cV_cong {d d1 : Nat → Nat → Int32} {b : Nat} (h0 : ∀ j, 5 ≤ j → j < 12 → d1 b j = d b j) (h1 : ∀ j, j < 32 → d1 (b + 1) j = d (b + 1) j) (h3 : ∀ j, j < 4 → d1 (b + 3) j = d (b + 3) j) (h4 : ∀ j, j < 8 → d1 (b + 4) j = d (b + 4) j) (h5 : ∀ j, j < 32 → d1 (b + 5) j = d (b + 5) j) : cV d1 b = cV d b := by
  funext j
  by_cases hj : 83 ≤ j
  · rw [cV_out _ _ hj, cV_out _ _ hj]
  · unfold cV
    by_cases c1 : j < 7
    · rw [if_pos c1, if_pos c1, h0 6 (by decide) (by decide), h0 5 (by decide) (by decide), h0 7 (by decide) (by decide), h0 8 (by decide) (by decide), h0 9 (by decide) (by decide), h0 10 (by decide) (by decide), h0 11 (by decide) (by decide)]
    · rw [if_neg c1, if_neg c1]
      by_cases c2 : j < 11
      · rw [if_pos c2, if_pos c2, h3 _ (by omega)]
      · rw [if_neg c2, if_neg c2]
        by_cases c3 : j < 19
        · rw [if_pos c3, if_pos c3, h4 _ (by omega)]
        · rw [if_neg c3, if_neg c3]
          by_cases c4 : j < 51
          · rw [if_pos c4, if_pos c4, h1 _ (by omega)]
          · rw [if_neg c4, if_neg c4, if_pos (by omega), if_pos (by omega), h5 _ (by omega)]
theorem cV_keep {d d1 : Nat → Nat → Int32} {b : Nat} (h : ∀ c, c = b ∨ c = b + 1 ∨ c = b + 3 ∨ c = b + 4 ∨ c = b + 5 → d1 c = d c) : cV d1 b = cV d b :=
  cV_cong (fun j _ _ => by rw [h b (by simp)]) (fun j _ => by rw [h (b + 1) (by simp)]) (fun j _ => by rw [h (b + 3) (by simp)]) (fun j _ => by rw [h (b + 4) (by simp)]) (fun j _ => by rw [h (b + 5) (by simp)])
theorem vM_keep {d d1 : Nat → Nat → Int32} {c o : Nat} (h : d1 c = d c) : vM d1 c o = vM d c o := by
  funext j
  unfold vM
  rw [h]
/-- the number at a place, as a Nat -/
def nv (V : Nat → Int32) (j : Nat) : Nat := (V j).toNatClampNeg
/-- whom the path leads to -/
def pth (V : Nat → Int32) (a : Nat) : Nat := nv V (11 + a)
/-- what every island keeps -/
def okPath (V : Nat → Int32) : Prop := (∀ a, a < 8 → V (11 + a) = nI (pth V a) ∧ pth V a < 8) ∧ ∀ a b, a < 8 → b < 8 → pth V a = pth V b → a = b
def okMany (V : Nat → Int32) : Prop := V 1 = nI (nv V 1) ∧ nv V 1 ≤ 8
/-- promise number q of the view: from, to, sum, due -/
def prt (V : Nat → Int32) (q w : Nat) : Nat := nv V (51 + (q * 4 + w))
def okPart (V : Nat → Int32) : Prop := ∀ q, q < nv V 1 → (∀ w, w < 4 → V (51 + (q * 4 + w)) = nI (prt V q w)) ∧ prt V q 0 < 8 ∧ prt V q 1 < 8 ∧ prt V q 0 ≠ prt V q 1 ∧ 1 ≤ prt V q 2 ∧ prt V q 2 ≤ 99 ∧ prt V q 3 ≤ 10008
def okCaps (V : Nat → Int32) : Prop := (∀ x, x < 32 → V (19 + x) = nI (nv V (19 + x))) ∧ ∀ c, c < 4 → nv V (19 + (0 * 4 + c)) + nv V (19 + (1 * 4 + c)) + nv V (19 + (2 * 4 + c)) + nv V (19 + (3 * 4 + c)) + nv V (19 + (4 * 4 + c)) + nv V (19 + (5 * 4 + c)) + nv V (19 + (6 * 4 + c)) + nv V (19 + (7 * 4 + c)) = 20
def okWorth (V : Nat → Int32) : Prop := ∀ c, c < 4 → V (7 + c) = nI (nv V (7 + c)) ∧ 1 ≤ nv V (7 + c) ∧ nv V (7 + c) ≤ 9
def okDay (V : Nat → Int32) : Prop := (V 0 = nI (nv V 0) ∧ nv V 0 ≤ 9999) ∧ V 6 = nI (nv V 6) ∧ nv V 6 ≤ 9
def okV (V : Nat → Int32) : Prop := okPath V ∧ okMany V ∧ okPart V ∧ okCaps V ∧ okWorth V ∧ okDay V
theorem okCaps_le {V : Nat → Int32} (h : okCaps V) {a c : Nat} (ha : a < 8) (hc : c < 4) : nv V (19 + (a * 4 + c)) ≤ 20 := by
  have h1 := h.2 c hc
  match a, ha with
  | 0, _ => omega
  | 1, _ => omega
  | 2, _ => omega
  | 3, _ => omega
  | 4, _ => omega
  | 5, _ => omega
  | 6, _ => omega
  | 7, _ => omega
/-- sums of rows -/
def rs (f : Nat → Int32) : Nat → Int32
  | 0 => nI 0
  | n + 1 => rs f n + f n
