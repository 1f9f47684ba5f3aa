/-! STORMPURSES, 3: keepPromise, isStormDone, isDone (own work, written by wip/tools) -/
theorem bt_fst {V : Nat → Int32} {a s t e f : Nat} {q p : bst × (Nat → Nat → Int32)} (h : q.1 = p.1) : (bt V a s t e f q).1 = (bt V a s t e f p).1 := by
  by_cases c : t * wt V 3 + e * wt V 2 + f * wt V 1 ≤ s ∧ (s - (t * wt V 3 + e * wt V 2 + f * wt V 1)) % wt V 0 = 0 ∧ (s - (t * wt V 3 + e * wt V 2 + f * wt V 1)) / wt V 0 ≤ cp V a 0 ∧ btr q.1 (t + e + f + (s - (t * wt V 3 + e * wt V 2 + f * wt V 1)) / wt V 0)
  · rw [bt_yes c.1 c.2.1 c.2.2.1 c.2.2.2]
    rw [h] at c
    rw [bt_yes c.1 c.2.1 c.2.2.1 c.2.2.2]
  · rw [bt_no c]
    rw [h] at c
    rw [bt_no c]
    exact h
theorem l1_fst {V : Nat → Int32} {a s t e : Nat} : ∀ (k : Nat) (q p : bst × (Nat → Nat → Int32)), q.1 = p.1 → (l1 V a s t e k q).1 = (l1 V a s t e k p).1
  | 0, _, _, h => h
  | k + 1, _, _, h => l1_fst k _ _ (bt_fst h)
theorem l2_fst {V : Nat → Int32} {a s t : Nat} : ∀ (k : Nat) (q p : bst × (Nat → Nat → Int32)), q.1 = p.1 → (l2 V a s t k q).1 = (l2 V a s t k p).1
  | 0, _, _, h => h
  | k + 1, _, _, h => l2_fst k _ _ (l1_fst _ _ _ h)
theorem l3_fst {V : Nat → Int32} {a s : Nat} : ∀ (k : Nat) (q p : bst × (Nat → Nat → Int32)), q.1 = p.1 → (l3 V a s k q).1 = (l3 V a s k p).1
  | 0, _, _, h => h
  | k + 1, _, _, h => l3_fst k _ _ (l2_fst _ _ _ h)
/-- the way to pay -/
noncomputable def wy (V : Nat → Int32) (a s : Nat) : bst := (lbt V a s (fun _ _ => 0)).1
theorem lbt_wy (V : Nat → Int32) (a s : Nat) (d : Nat → Nat → Int32) : (lbt V a s d).1 = wy V a s := l3_fst _ _ _ rfl
def okb (V : Nat → Int32) (a : Nat) (b : bst) : Prop := ∀ z f e t, b = some (z, f, e, t) → z ≤ cp V a 0 ∧ f ≤ cp V a 1 ∧ e ≤ cp V a 2 ∧ t ≤ cp V a 3
theorem bt_okb {V : Nat → Int32} {a s t e f : Nat} {q : bst × (Nat → Nat → Int32)} (h : okb V a q.1) (ht : t ≤ cp V a 3) (he : e ≤ cp V a 2) (hf : f ≤ cp V a 1) : okb V a (bt V a s t e f q).1 := by
  by_cases c : t * wt V 3 + e * wt V 2 + f * wt V 1 ≤ s ∧ (s - (t * wt V 3 + e * wt V 2 + f * wt V 1)) % wt V 0 = 0 ∧ (s - (t * wt V 3 + e * wt V 2 + f * wt V 1)) / wt V 0 ≤ cp V a 0 ∧ btr q.1 (t + e + f + (s - (t * wt V 3 + e * wt V 2 + f * wt V 1)) / wt V 0)
  · rw [bt_yes c.1 c.2.1 c.2.2.1 c.2.2.2]
    intro z f2 e2 t2 h9
    cases h9
    exact ⟨c.2.2.1, hf, he, ht⟩
  · rw [bt_no c]
    exact h
theorem l1_okb {V : Nat → Int32} {a s t e : Nat} (ht : t ≤ cp V a 3) (he : e ≤ cp V a 2) : ∀ (k : Nat) (q : bst × (Nat → Nat → Int32)), k ≤ cp V a 1 + 1 → okb V a q.1 → okb V a (l1 V a s t e k q).1
  | 0, _, _, h => h
  | k + 1, _, hk, h => l1_okb ht he k _ (by omega) (bt_okb h ht he (by omega))
theorem l2_okb {V : Nat → Int32} {a s t : Nat} (ht : t ≤ cp V a 3) : ∀ (k : Nat) (q : bst × (Nat → Nat → Int32)), k ≤ cp V a 2 + 1 → okb V a q.1 → okb V a (l2 V a s t k q).1
  | 0, _, _, h => h
  | k + 1, _, hk, h => l2_okb ht k _ (by omega) (l1_okb ht (by omega) _ _ (Nat.le_refl _) h)
theorem l3_okb {V : Nat → Int32} {a s : Nat} : ∀ (k : Nat) (q : bst × (Nat → Nat → Int32)), k ≤ cp V a 3 + 1 → okb V a q.1 → okb V a (l3 V a s k q).1
  | 0, _, _, h => h
  | k + 1, _, hk, h => l3_okb k _ (by omega) (l2_okb (by omega) _ _ (Nat.le_refl _) h)
theorem wy_okb (V : Nat → Int32) (a s : Nat) : okb V a (wy V a s) := l3_okb _ _ (Nat.le_refl _) (fun _ _ _ _ h => nomatch h)
theorem wy_small {V : Nat → Int32} (h : okCaps V) {a s : Nat} (ha : a < 8) {z f e t : Nat} (q : wy V a s = some (z, f, e, t)) : t + e + f + z ≤ 80 := by
  have h1 := wy_okb V a s z f e t q
  have c0 := cp_le h ha (c := 0) (by decide)
  have c1 := cp_le h ha (c := 1) (by decide)
  have c2 := cp_le h ha (c := 2) (by decide)
  have c3 := cp_le h ha (c := 3) (by decide)
  omega
/-- a payment, and what keeping a promise leaves -/
def pay (V : Nat → Int32) (a b z f e t : Nat) : Nat → Int32 := hnd (hnd (hnd (hnd V a b 0 (nI z)) a b 1 (nI f)) a b 2 (nI e)) a b 3 (nI t)
def kpV (V : Nat → Int32) (q : Nat) : bst → (Nat → Int32)
  | none => rfz V
  | some (z, f, e, t) => upd (drp (pay V (prt V q 0) (prt V q 1) z f e t) q) 3 (drp (pay V (prt V q 0) (prt V q 1) z f e t) q 3 + nI 1)
theorem ok_pay {V : Nat → Int32} (h : okV V) {a b z f e t : Nat} (ha : a < 8) (hb : b < 8) (hne : a ≠ b) (hz : z ≤ cp V a 0) (hf : f ≤ cp V a 1) (he : e ≤ cp V a 2) (ht : t ≤ cp V a 3) : okV (pay V a b z f e t) := by
  have k0 := ok_hnd h hne ha hb (c := 0) (by decide) hz
  have n1 : nv (hnd V a b 0 (nI z)) (19 + (a * 4 + 1)) = cp V a 1 := by
    unfold cp nv
    rw [k0.2 _ (by omega) (by omega)]
  have k1 := ok_hnd k0.1 hne ha hb (c := 1) (m := f) (by decide) (by rw [n1]; exact hf)
  have n2 : nv (hnd (hnd V a b 0 (nI z)) a b 1 (nI f)) (19 + (a * 4 + 2)) = cp V a 2 := by
    unfold cp nv
    rw [k1.2 _ (by omega) (by omega), k0.2 _ (by omega) (by omega)]
  have k2 := ok_hnd k1.1 hne ha hb (c := 2) (m := e) (by decide) (by rw [n2]; exact he)
  have n3 : nv (hnd (hnd (hnd V a b 0 (nI z)) a b 1 (nI f)) a b 2 (nI e)) (19 + (a * 4 + 3)) = cp V a 3 := by
    unfold cp nv
    rw [k2.2 _ (by omega) (by omega), k1.2 _ (by omega) (by omega), k0.2 _ (by omega) (by omega)]
  exact (ok_hnd k2.1 hne ha hb (c := 3) (m := t) (by decide) (by rw [n3]; exact ht)).1
theorem pay_off {V : Nat → Int32} {a b z f e t j : Nat} (ha : a < 8) (hb : b < 8) (h : j < 19 ∨ 51 ≤ j) : pay V a b z f e t j = V j := by
  unfold pay
  rw [hnd_off ha hb (by decide) h, hnd_off ha hb (by decide) h, hnd_off ha hb (by decide) h, hnd_off ha hb (by decide) h]
theorem ok_kpV {V : Nat → Int32} (h : okV V) {q s : Nat} (hq : q < nv V 1) : okV (kpV V q (wy V (prt V q 0) s)) := by
  obtain ⟨p1, p2, p3, p4, p5⟩ := h.2.2.1 q hq
  have hb := wy_okb V (prt V q 0) s
  cases e : wy V (prt V q 0) s with
  | none => exact ok_rfz h
  | some w =>
    obtain ⟨z, f, e2, t⟩ := w
    obtain ⟨b1, b2, b3, b4⟩ := hb z f e2 t e
    have k := ok_pay h p2 p3 p4 b1 b2 b3 b4
    have n1 : nv (pay V (prt V q 0) (prt V q 1) z f e2 t) 1 = nv V 1 := by unfold nv; rw [pay_off p2 p3 (by omega)]
    exact ok_upd (ok_drp k q (by rw [n1]; omega)) _ (by decide) (by decide)
def fr1 (d d1 : Nat → Nat → Int32) : Prop := ∀ c, 7 ≤ c → c ≠ 46 → c ≠ 47 → c ≠ 52 → d1 c = d c
theorem fr1_refl (d : Nat → Nat → Int32) : fr1 d d := fun _ _ _ _ _ => rfl
theorem fr1_trans {a b c : Nat → Nat → Int32} (h : fr1 a b) (g : fr1 b c) : fr1 a c := fun x h1 h2 h3 h4 => (g x h1 h2 h3 h4).trans (h x h1 h2 h3 h4)
set_option maxRecDepth 100000 in
set_option maxHeartbeats 4000000 in
theorem A_X6_keepPromise {d : Nat → Nat → Int32} {r : Nat → Nat → Option Nat} {J : Nat → Nat → Int64} {q : Nat} (ok : okV (cV d 1)) (hq : q < nv (cV d 1) 1) : ∃ d1, OP kX6_keepPromise yX6_keepPromise 3 [.ref 0, .int (nI q)] d r J (some (.int (enc (wy (cV d 1) (prt (cV d 1) q 0) (prt (cV d 1) q 2))))) d1 r J ∧ cV d1 1 = kpV (cV d 1) q (wy (cV d 1) (prt (cV d 1) q 0) (prt (cV d 1) q 2)) ∧ fr1 d d1 := by
  obtain ⟨okP, okM, okT9, okC, okW, okD⟩ := id ok
  obtain ⟨p1, p2, p3, p4, p5, p6, p7⟩ := okT9 q hq
  have hm8 := okM.2
  have okl := lbt_ok okC p2 p6 (s := prt (cV d 1) q 2) d
  have hp0 : OP kX2_partOf yX2_partOf 1 [.ref 1, .int (nI q), .int (nI 0)] d r J (some (.int (nI (prt (cV d 1) q 0)))) d r J := by
    have h9 := A_X2_partOf (d := d) (r := r) (J := J) (b := 1) (a := q) (c := 0) isB_1 okM hq (by decide)
    rw [p1 0 (by decide)] at h9
    exact h9
  have hp1 : OP kX2_partOf yX2_partOf 1 [.ref 1, .int (nI q), .int (nI 1)] d r J (some (.int (nI (prt (cV d 1) q 1)))) d r J := by
    have h9 := A_X2_partOf (d := d) (r := r) (J := J) (b := 1) (a := q) (c := 1) isB_1 okM hq (by decide)
    rw [p1 1 (by decide)] at h9
    exact h9
  have hp2 : OP kX2_partOf yX2_partOf 1 [.ref 1, .int (nI q), .int (nI 2)] d r J (some (.int (nI (prt (cV d 1) q 2)))) d r J := by
    have h9 := A_X2_partOf (d := d) (r := r) (J := J) (b := 1) (a := q) (c := 2) isB_1 okM hq (by decide)
    rw [p1 2 (by decide)] at h9
    exact h9
  have hl := A_X5_leastByTrying (d := d) (r := r) (J := J) (b := 1) isB_1 okC okW p2 p6
  obtain ⟨L, hL⟩ : ∃ L, L = lbt (cV d 1) (prt (cV d 1) q 0) (prt (cV d 1) q 2) d := ⟨_, rfl⟩
  rw [← hL] at hl okl
  have hW : L.1 = wy (cV d 1) (prt (cV d 1) q 0) (prt (cV d 1) q 2) := by rw [hL]; exact lbt_wy _ _ _ _
  rw [← hW]
  have hV : cV L.2 1 = cV d 1 := cV_keep (fun c hc => okl.1 c (by omega))
  cases hE : L.1 with
  | none =>
    rw [hE] at hl
    refine ⟨d2 L.2 1 11 (L.2 1 11 + nI 1), op_of pl_X6_keepPromise (Nat.le_of_ble_eq_true rfl) ?_, ?_, ?_⟩
    ·
      refine sw_aload_n (i := 0) dX6_keepPromise_0 rfl rfl ?_
      refine sx_getR (q := 1) f_X6_10 (by decide) kr_0_0 dX6_keepPromise_1 ?_
      refine sw_iload_n (i := 1) dX6_keepPromise_4 rfl rfl ?_
      refine sw_ic 0 dX6_keepPromise_5 ?_
      refine px_Vx mv_X6_183 hp0 rfl rfl (Nat.le_of_ble_eq_true rfl) (Nat.le_of_ble_eq_true rfl) ko_1 (Nat.le_of_ble_eq_true rfl) dX6_keepPromise_6 ?_
      refine sw_istore_n (i := 2) dX6_keepPromise_9 rfl (Nat.le_of_ble_eq_true rfl) rfl ?_
      refine sw_lo (lo2 := [some (.ref 0), some (.int _), some (.int _), none, none, none]) rfl ?_
      refine sw_aload_n (i := 0) dX6_keepPromise_10 rfl rfl ?_
      refine sw_ins (pc2 := 11) rfl rfl ?_
      refine sx_getR (q := 1) f_X6_10 (by decide) kr_0_0 dX6_keepPromise_11 ?_
      refine sw_iload_n (i := 1) dX6_keepPromise_14 rfl rfl ?_
      refine sw_ic 1 dX6_keepPromise_15 ?_
      refine px_Vx mv_X6_183 hp1 rfl rfl (Nat.le_of_ble_eq_true rfl) (Nat.le_of_ble_eq_true rfl) ko_1 (Nat.le_of_ble_eq_true rfl) dX6_keepPromise_16 ?_
      refine sw_istore_n (i := 3) dX6_keepPromise_19 rfl (Nat.le_of_ble_eq_true rfl) rfl ?_
      refine sw_lo (lo2 := [some (.ref 0), some (.int _), some (.int _), some (.int _), none, none]) rfl ?_
      refine sw_aload_n (i := 0) dX6_keepPromise_20 rfl rfl ?_
      refine sx_getR (q := 45) f_X6_26 (by decide) kr_0_2 dX6_keepPromise_21 ?_
      refine sw_aload_n (i := 0) dX6_keepPromise_24 rfl rfl ?_
      refine sw_ins (pc2 := 25) rfl rfl ?_
      refine sx_getR (q := 1) f_X6_10 (by decide) kr_0_0 dX6_keepPromise_25 ?_
      refine sw_iload_n (i := 2) dX6_keepPromise_28 rfl rfl ?_
      refine sw_aload_n (i := 0) dX6_keepPromise_29 rfl rfl ?_
      refine sx_getR (q := 1) f_X6_10 (by decide) kr_0_0 dX6_keepPromise_30 ?_
      refine sw_iload_n (i := 1) dX6_keepPromise_33 rfl rfl ?_
      refine sw_ic 2 dX6_keepPromise_34 ?_
      refine px_Vx mv_X6_183 hp2 rfl rfl (Nat.le_of_ble_eq_true rfl) (Nat.le_of_ble_eq_true rfl) ko_1 (Nat.le_of_ble_eq_true rfl) dX6_keepPromise_35 ?_
      refine px_Vx mv_X6_216 hl rfl rfl (Nat.le_of_ble_eq_true rfl) (Nat.le_of_ble_eq_true rfl) ko_45 (Nat.le_of_ble_eq_true rfl) dX6_keepPromise_38 ?_
      refine sw_ins (pc2 := 41) rfl rfl ?_
      refine sw_istore (i := 4) dX6_keepPromise_41 (Nat.le_of_ble_eq_true rfl) rfl ?_
      refine sw_lo (lo2 := [some (.ref 0), some (.int _), some (.int _), some (.int _), some (.int _), none]) rfl ?_
      refine sw_iload (i := 4) dX6_keepPromise_43 rfl ?_
      refine sw_im1 dX6_keepPromise_45 ?_
      refine sw_ic_ne (tgt := 64) dX6_keepPromise_46 rfl (fun h9 => absurd (by decide) h9) (fun _ => ?_)
      refine sw_aload_n (i := 0) dX6_keepPromise_49 rfl rfl ?_
      refine sx_getR (q := 1) f_X6_10 (by decide) kr_0_0 dX6_keepPromise_50 ?_
      refine sw_dup dX6_keepPromise_53 rfl ?_
      refine sx_getI f_X6_94 (by decide) kf_1_11 dX6_keepPromise_54 ?_
      refine sw_ins (pc2 := 57) rfl rfl ?_
      refine sw_ic 1 dX6_keepPromise_57 ?_
      refine sw_iadd dX6_keepPromise_58 ?_
      refine sx_putI fp_X6_94 (by decide) kf_1_11 dX6_keepPromise_59 ?_
      refine sw_im1 dX6_keepPromise_62 ?_
      exact sw_ireturn rfl dX6_keepPromise_63
    · rw [cV_d2f _ 1 _ (by decide) (by decide), hV]
      show upd (cV d 1) 5 (L.2 1 11 + nI 1) = _
      rw [cV_refused L.2 1, hV]
      rfl
    · intro c h1 h2 h3 h4
      rw [d2_off _ _ (by omega)]
      exact okl.1 c h3
  | some wq =>
    obtain ⟨z, f, e, t⟩ := wq
    rw [hE] at hl
    obtain ⟨g0, g1, g2, g3⟩ := okl.2.2 z f e t hE
    have hsm := wy_small okC p2 (hW.symm.trans hE)
    obtain ⟨e1, a1, b1, c1⟩ := A_X2_hand (d := L.2) (r := r) (J := J) (b := 1) (f := prt (cV d 1) q 0) (t := prt (cV d 1) q 1) (c := 0) (x := nI z) isB_1 p2 p3 (by decide)
    obtain ⟨e2, a2, b2, c2⟩ := A_X2_hand (d := e1) (r := r) (J := J) (b := 1) (f := prt (cV d 1) q 0) (t := prt (cV d 1) q 1) (c := 1) (x := nI f) isB_1 p2 p3 (by decide)
    obtain ⟨e3, a3, b3, c3⟩ := A_X2_hand (d := e2) (r := r) (J := J) (b := 1) (f := prt (cV d 1) q 0) (t := prt (cV d 1) q 1) (c := 2) (x := nI e) isB_1 p2 p3 (by decide)
    obtain ⟨e4, a4, b4, c4⟩ := A_X2_hand (d := e3) (r := r) (J := J) (b := 1) (f := prt (cV d 1) q 0) (t := prt (cV d 1) q 1) (c := 3) (x := nI t) isB_1 p2 p3 (by decide)
    have hP : cV e4 1 = pay (cV d 1) (prt (cV d 1) q 0) (prt (cV d 1) q 1) z f e t := by rw [b4, b3, b2, b1, hV]; rfl
    have hM4 : okMany (cV e4 1) := by rw [hP]; exact okMany_of okM (pay_off p2 p3 (by omega))
    have hn4 : nv (cV e4 1) 1 = nv (cV d 1) 1 := by rw [hP]; unfold nv; rw [pay_off p2 p3 (by omega)]
    obtain ⟨e5, a5, b5, c5⟩ := A_X2_dropPromise (d := e4) (r := r) (J := J) (b := 1) (q := q) isB_1 hM4 (by rw [hn4]; exact hq)
    have k0 : L.2 47 0 = nI z := g0
    have k1 : e1 47 1 = nI f := by rw [c1 47 (by decide)]; exact g1
    have k2 : e2 47 2 = nI e := by rw [c2 47 (by decide), c1 47 (by decide)]; exact g2
    have k3 : e3 47 3 = nI t := by rw [c3 47 (by decide), c2 47 (by decide), c1 47 (by decide)]; exact g3
    refine ⟨d2 e5 1 9 (e5 1 9 + nI 1), op_of pl_X6_keepPromise (Nat.le_of_ble_eq_true rfl) ?_, ?_, ?_⟩
    ·
      refine sw_aload_n (i := 0) dX6_keepPromise_0 rfl rfl ?_
      refine sx_getR (q := 1) f_X6_10 (by decide) kr_0_0 dX6_keepPromise_1 ?_
      refine sw_iload_n (i := 1) dX6_keepPromise_4 rfl rfl ?_
      refine sw_ic 0 dX6_keepPromise_5 ?_
      refine px_Vx mv_X6_183 hp0 rfl rfl (Nat.le_of_ble_eq_true rfl) (Nat.le_of_ble_eq_true rfl) ko_1 (Nat.le_of_ble_eq_true rfl) dX6_keepPromise_6 ?_
      refine sw_istore_n (i := 2) dX6_keepPromise_9 rfl (Nat.le_of_ble_eq_true rfl) rfl ?_
      refine sw_lo (lo2 := [some (.ref 0), some (.int _), some (.int _), none, none, none]) rfl ?_
      refine sw_aload_n (i := 0) dX6_keepPromise_10 rfl rfl ?_
      refine sw_ins (pc2 := 11) rfl rfl ?_
      refine sx_getR (q := 1) f_X6_10 (by decide) kr_0_0 dX6_keepPromise_11 ?_
      refine sw_iload_n (i := 1) dX6_keepPromise_14 rfl rfl ?_
      refine sw_ic 1 dX6_keepPromise_15 ?_
      refine px_Vx mv_X6_183 hp1 rfl rfl (Nat.le_of_ble_eq_true rfl) (Nat.le_of_ble_eq_true rfl) ko_1 (Nat.le_of_ble_eq_true rfl) dX6_keepPromise_16 ?_
      refine sw_istore_n (i := 3) dX6_keepPromise_19 rfl (Nat.le_of_ble_eq_true rfl) rfl ?_
      refine sw_lo (lo2 := [some (.ref 0), some (.int _), some (.int _), some (.int _), none, none]) rfl ?_
      refine sw_aload_n (i := 0) dX6_keepPromise_20 rfl rfl ?_
      refine sx_getR (q := 45) f_X6_26 (by decide) kr_0_2 dX6_keepPromise_21 ?_
      refine sw_aload_n (i := 0) dX6_keepPromise_24 rfl rfl ?_
      refine sw_ins (pc2 := 25) rfl rfl ?_
      refine sx_getR (q := 1) f_X6_10 (by decide) kr_0_0 dX6_keepPromise_25 ?_
      refine sw_iload_n (i := 2) dX6_keepPromise_28 rfl rfl ?_
      refine sw_aload_n (i := 0) dX6_keepPromise_29 rfl rfl ?_
      refine sx_getR (q := 1) f_X6_10 (by decide) kr_0_0 dX6_keepPromise_30 ?_
      refine sw_iload_n (i := 1) dX6_keepPromise_33 rfl rfl ?_
      refine sw_ic 2 dX6_keepPromise_34 ?_
      refine px_Vx mv_X6_183 hp2 rfl rfl (Nat.le_of_ble_eq_true rfl) (Nat.le_of_ble_eq_true rfl) ko_1 (Nat.le_of_ble_eq_true rfl) dX6_keepPromise_35 ?_
      refine px_Vx mv_X6_216 hl rfl rfl (Nat.le_of_ble_eq_true rfl) (Nat.le_of_ble_eq_true rfl) ko_45 (Nat.le_of_ble_eq_true rfl) dX6_keepPromise_38 ?_
      refine sw_ins (pc2 := 41) rfl rfl ?_
      refine sw_istore (i := 4) dX6_keepPromise_41 (Nat.le_of_ble_eq_true rfl) rfl ?_
      refine sw_lo (lo2 := [some (.ref 0), some (.int _), some (.int _), some (.int _), some (.int _), none]) rfl ?_
      refine sw_iload (i := 4) dX6_keepPromise_43 rfl ?_
      refine sw_im1 dX6_keepPromise_45 ?_
      refine sw_ic_ne (tgt := 64) dX6_keepPromise_46 rfl (fun _ => ?_) (fun h9 => absurd h9 (nI_ne_m1 (by omega)))
      refine sw_ic 0 dX6_keepPromise_64 ?_
      refine sw_istore (i := 5) dX6_keepPromise_65 (Nat.le_of_ble_eq_true rfl) rfl ?_
      refine sw_lo (lo2 := [some (.ref 0), some (.int _), some (.int _), some (.int _), some (.int _), some (.int _)]) rfl ?_
      refine sw_iload (i := 5) dX6_keepPromise_67 rfl ?_
      refine sw_ic 4 dX6_keepPromise_69 ?_
      refine sw_ins (pc2 := 70) rfl rfl ?_
      refine sw_ic_ge (tgt := 100) dX6_keepPromise_70 rfl (fun h9 => absurd h9 (by decide)) (fun _ => ?_)
      refine sw_aload_n (i := 0) dX6_keepPromise_73 rfl rfl ?_
      refine sx_getR (q := 1) f_X6_10 (by decide) kr_0_0 dX6_keepPromise_74 ?_
      refine sw_iload_n (i := 2) dX6_keepPromise_77 rfl rfl ?_
      refine sw_iload_n (i := 3) dX6_keepPromise_78 rfl rfl ?_
      refine sw_iload (i := 5) dX6_keepPromise_79 rfl ?_
      refine sw_aload_n (i := 0) dX6_keepPromise_81 rfl rfl ?_
      refine sx_getR (q := 45) f_X6_26 (by decide) kr_0_2 dX6_keepPromise_82 ?_
      refine sw_ins (pc2 := 85) rfl rfl ?_
      refine sx_getR (q := 47) f_X6_292 (by decide) kr_45_1 dX6_keepPromise_85 ?_
      refine sw_iload (i := 5) dX6_keepPromise_88 rfl ?_
      refine sx_ialdE (0) (nI z) k0 rfl rfl (by decide) dX6_keepPromise_90 ?_
      refine px_Vv mv_X6_98 a1 rfl rfl (Nat.le_of_ble_eq_true rfl) (Nat.le_of_ble_eq_true rfl) ko_1 (Nat.le_of_ble_eq_true rfl) dX6_keepPromise_91 ?_
      refine sw_iinc (i := 5) (v := nI 1) dX6_keepPromise_94 rfl (by decide) (Nat.le_of_ble_eq_true rfl) rfl ?_
      refine sw_lo (lo2 := [some (.ref 0), some (.int _), some (.int _), some (.int _), some (.int _), some (.int _)]) rfl ?_
      refine sw_goto (tgt := 67) dX6_keepPromise_97 rfl ?_
      refine sw_iload (i := 5) dX6_keepPromise_67 rfl ?_
      refine sw_ic 4 dX6_keepPromise_69 ?_
      refine sw_ins (pc2 := 70) rfl rfl ?_
      refine sw_ic_ge (tgt := 100) dX6_keepPromise_70 rfl (fun h9 => absurd h9 (by decide)) (fun _ => ?_)
      refine sw_aload_n (i := 0) dX6_keepPromise_73 rfl rfl ?_
      refine sx_getR (q := 1) f_X6_10 (by decide) kr_0_0 dX6_keepPromise_74 ?_
      refine sw_iload_n (i := 2) dX6_keepPromise_77 rfl rfl ?_
      refine sw_iload_n (i := 3) dX6_keepPromise_78 rfl rfl ?_
      refine sw_iload (i := 5) dX6_keepPromise_79 rfl ?_
      refine sw_aload_n (i := 0) dX6_keepPromise_81 rfl rfl ?_
      refine sx_getR (q := 45) f_X6_26 (by decide) kr_0_2 dX6_keepPromise_82 ?_
      refine sw_ins (pc2 := 85) rfl rfl ?_
      refine sx_getR (q := 47) f_X6_292 (by decide) kr_45_1 dX6_keepPromise_85 ?_
      refine sw_iload (i := 5) dX6_keepPromise_88 rfl ?_
      refine sx_ialdE (1) (nI f) k1 rfl rfl (by decide) dX6_keepPromise_90 ?_
      refine px_Vv mv_X6_98 a2 rfl rfl (Nat.le_of_ble_eq_true rfl) (Nat.le_of_ble_eq_true rfl) ko_1 (Nat.le_of_ble_eq_true rfl) dX6_keepPromise_91 ?_
      refine sw_iinc (i := 5) (v := nI 2) dX6_keepPromise_94 rfl (by decide) (Nat.le_of_ble_eq_true rfl) rfl ?_
      refine sw_lo (lo2 := [some (.ref 0), some (.int _), some (.int _), some (.int _), some (.int _), some (.int _)]) rfl ?_
      refine sw_goto (tgt := 67) dX6_keepPromise_97 rfl ?_
      refine sw_iload (i := 5) dX6_keepPromise_67 rfl ?_
      refine sw_ic 4 dX6_keepPromise_69 ?_
      refine sw_ins (pc2 := 70) rfl rfl ?_
      refine sw_ic_ge (tgt := 100) dX6_keepPromise_70 rfl (fun h9 => absurd h9 (by decide)) (fun _ => ?_)
      refine sw_aload_n (i := 0) dX6_keepPromise_73 rfl rfl ?_
      refine sx_getR (q := 1) f_X6_10 (by decide) kr_0_0 dX6_keepPromise_74 ?_
      refine sw_iload_n (i := 2) dX6_keepPromise_77 rfl rfl ?_
      refine sw_iload_n (i := 3) dX6_keepPromise_78 rfl rfl ?_
      refine sw_iload (i := 5) dX6_keepPromise_79 rfl ?_
      refine sw_aload_n (i := 0) dX6_keepPromise_81 rfl rfl ?_
      refine sx_getR (q := 45) f_X6_26 (by decide) kr_0_2 dX6_keepPromise_82 ?_
      refine sw_ins (pc2 := 85) rfl rfl ?_
      refine sx_getR (q := 47) f_X6_292 (by decide) kr_45_1 dX6_keepPromise_85 ?_
      refine sw_iload (i := 5) dX6_keepPromise_88 rfl ?_
      refine sx_ialdE (2) (nI e) k2 rfl rfl (by decide) dX6_keepPromise_90 ?_
      refine px_Vv mv_X6_98 a3 rfl rfl (Nat.le_of_ble_eq_true rfl) (Nat.le_of_ble_eq_true rfl) ko_1 (Nat.le_of_ble_eq_true rfl) dX6_keepPromise_91 ?_
      refine sw_iinc (i := 5) (v := nI 3) dX6_keepPromise_94 rfl (by decide) (Nat.le_of_ble_eq_true rfl) rfl ?_
      refine sw_lo (lo2 := [some (.ref 0), some (.int _), some (.int _), some (.int _), some (.int _), some (.int _)]) rfl ?_
      refine sw_goto (tgt := 67) dX6_keepPromise_97 rfl ?_
      refine sw_iload (i := 5) dX6_keepPromise_67 rfl ?_
      refine sw_ic 4 dX6_keepPromise_69 ?_
      refine sw_ins (pc2 := 70) rfl rfl ?_
      refine sw_ic_ge (tgt := 100) dX6_keepPromise_70 rfl (fun h9 => absurd h9 (by decide)) (fun _ => ?_)
      refine sw_aload_n (i := 0) dX6_keepPromise_73 rfl rfl ?_
      refine sx_getR (q := 1) f_X6_10 (by decide) kr_0_0 dX6_keepPromise_74 ?_
      refine sw_iload_n (i := 2) dX6_keepPromise_77 rfl rfl ?_
      refine sw_iload_n (i := 3) dX6_keepPromise_78 rfl rfl ?_
      refine sw_iload (i := 5) dX6_keepPromise_79 rfl ?_
      refine sw_aload_n (i := 0) dX6_keepPromise_81 rfl rfl ?_
      refine sx_getR (q := 45) f_X6_26 (by decide) kr_0_2 dX6_keepPromise_82 ?_
      refine sw_ins (pc2 := 85) rfl rfl ?_
      refine sx_getR (q := 47) f_X6_292 (by decide) kr_45_1 dX6_keepPromise_85 ?_
      refine sw_iload (i := 5) dX6_keepPromise_88 rfl ?_
      refine sx_ialdE (3) (nI t) k3 rfl rfl (by decide) dX6_keepPromise_90 ?_
      refine px_Vv mv_X6_98 a4 rfl rfl (Nat.le_of_ble_eq_true rfl) (Nat.le_of_ble_eq_true rfl) ko_1 (Nat.le_of_ble_eq_true rfl) dX6_keepPromise_91 ?_
      refine sw_iinc (i := 5) (v := nI 4) dX6_keepPromise_94 rfl (by decide) (Nat.le_of_ble_eq_true rfl) rfl ?_
      refine sw_lo (lo2 := [some (.ref 0), some (.int _), some (.int _), some (.int _), some (.int _), some (.int _)]) rfl ?_
      refine sw_goto (tgt := 67) dX6_keepPromise_97 rfl ?_
      refine sw_iload (i := 5) dX6_keepPromise_67 rfl ?_
      refine sw_ic 4 dX6_keepPromise_69 ?_
      refine sw_ins (pc2 := 70) rfl rfl ?_
      refine sw_ic_ge (tgt := 100) dX6_keepPromise_70 rfl (fun _ => ?_) (fun h9 => absurd (by decide) h9)
      refine sw_aload_n (i := 0) dX6_keepPromise_100 rfl rfl ?_
      refine sx_getR (q := 1) f_X6_10 (by decide) kr_0_0 dX6_keepPromise_101 ?_
      refine sw_iload_n (i := 1) dX6_keepPromise_104 rfl rfl ?_
      refine px_Vv mv_X6_295 a5 rfl rfl (Nat.le_of_ble_eq_true rfl) (Nat.le_of_ble_eq_true rfl) ko_1 (Nat.le_of_ble_eq_true rfl) dX6_keepPromise_105 ?_
      refine sw_aload_n (i := 0) dX6_keepPromise_108 rfl rfl ?_
      refine sx_getR (q := 1) f_X6_10 (by decide) kr_0_0 dX6_keepPromise_109 ?_
      refine sw_dup dX6_keepPromise_112 rfl ?_
      refine sw_ins (pc2 := 113) rfl rfl ?_
      refine sx_getI f_X6_199 (by decide) kf_1_9 dX6_keepPromise_113 ?_
      refine sw_ic 1 dX6_keepPromise_116 ?_
      refine sw_iadd dX6_keepPromise_117 ?_
      refine sx_putI fp_X6_199 (by decide) kf_1_9 dX6_keepPromise_118 ?_
      refine sw_iload (i := 4) dX6_keepPromise_121 rfl ?_
      exact sw_ireturn rfl dX6_keepPromise_123
    · rw [cV_d2f _ 1 _ (by decide) (by decide)]
      show upd (cV e5 1) 3 (e5 1 9 + nI 1) = _
      rw [cV_kept e5 1, b5, hP]
      rfl
    · intro c h1 h2 h3 h4
      rw [d2_off _ _ (by omega), c5 c (by omega) (by omega), c4 c (by omega), c3 c (by omega), c2 c (by omega), c1 c (by omega)]
      exact okl.1 c h3
