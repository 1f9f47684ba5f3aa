/-! THE MODEL, 5: payOf, doFulfil, promiseError, copy, save (own work, written by wip/tools) -/
section AMD2
variable {y : MethodName} {cc : ByteArray} {nL : Nat} {ret : Option FieldType} {xt : List (Nat × Nat × Nat × Nat)} {lv : Nat} {sc : Option (Nat × (Nat → Int32))} {pc : Nat} {lo : List (Option Value)} {st : List Value} {N : Nat} {aw : Nat → am_E} {k n : Nat} {o : Option Value ⊕ String} {N' : Nat} {aw' : Nat → am_E}
theorem sw_callVx2 {idx q ci na nL2 lv2 kc nc k2 n2 N1 : Nat} {y2 : MethodName} {cc2 : ByteArray} {ret2 : Option FieldType} {As st0 : List Value} {aw1 : Nat → am_E} {fs : List Value} {x : Value} (G : am_LV y.cls idx ci (Cond.code y2 cc2 nL2 ret2) y2 na) (hAC : am_AM (Cond.code y2 cc2 nL2 ret2) y2 lv2 (.ref q :: As) N aw (some x) N1 aw1 kc nc) (hs : st0 = As.reverse ++ .ref q :: st) (hlen : As.length = na) (hlv2 : lv2 + 1 < lv) (hnL2 : nL2 ≤ 41) (hq : q < N) (he : aw q = am_O ci fs) (hst9 : (st.map fun v => v.category).sum ≤ 8) (hk9 : kc + k2 ≤ k) (hn9 : nc + n2 ≤ n) (d : decode cc pc = .ok (.invokevirtual idx, 3))
    (k9 : SW y cc nL ret xt lv sc (pc + 3) (lo) (x :: st) (N1) (aw1) (k2) (n2) o N' aw') : SW y cc nL ret xt lv sc (pc) (lo) (st0) (N) (aw) (k) (n) o N' aw' := by
  intro p l e R s m args below meth c H locs cells slots kf nf D A al0 al ws ls st' F hk hn hkR hnR hle hP hD hS hw hl hst
  obtain ⟨hx, hb, hr, hml, hown, hts, hlocks, hin, hfl, hA, hK, hE, hSc, hlv, hloc, hxt⟩ := id F
  subst hs
  obtain ⟨As2, r2, rfl, hAs, hst1⟩ := am_vs.app hst
  obtain ⟨w0, r0, rfl, ⟨a, g1, rfl⟩, hst2⟩ := hst1
  have hAs9 := hAs.rev
  rw [List.reverse_reverse] at hAs9
  obtain ⟨As1, hAs1⟩ : ∃ z, z = As2.reverse := ⟨_, rfl⟩
  have hAs2 : As2 = As1.reverse := by rw [hAs1, List.reverse_reverse]
  rw [← hAs1] at hAs9
  subst hAs2
  have hRm : (am_rm lv2 kc nc).frames + 1 ≤ R.frames ∧ 8 + (nL2 + 11) + (am_rm lv2 kc nc).locals ≤ R.locals := ⟨by show lv2 + 1 ≤ _; omega, by show _ + (30 * lv2 + 62) ≤ _; omega⟩
  have hPr := am_pre F hle hP hD hS hw (as := (.ref q :: As)) (vs := (.ref a :: As1)) ⟨_, _, rfl, ⟨a, g1, rfl⟩, hAs9⟩
  obtain ⟨z, h1, h2⟩ := am_cell hw hq g1
  rw [he] at h2
  obtain ⟨fs1, rfl, h3⟩ := h2
  obtain ⟨T9, NF9, hc8⟩ := G.2.2.2.2
  refine am_goR (va_runV (As := As1) (rest := r0) (am_fix F) (hAC l hfl D al (.ref a :: As1) ws H.size) (cwV na hts G.good rfl rfl rfl ⟨rfl, G.1.2.2.1, G.1.2.2.2.1, G.1.2.2.2.2⟩ hRm) ⟨am_Pre.blind, va_recv hK hP hc8 h1, hPr⟩ rfl (by rw [hAs9.len]; exact hlen) hl.choose_spec.1.1 rfl (lv_room (by rw [hst2.cats]; exact hst9)) d ⟨by omega, by omega⟩) hK hD hS hA ?_
  intro v9 al1 ws1 H1 locs1 hov hle1 hP1 hD1 hS1 hw1
  obtain ⟨x9, rfl, hx9⟩ := hov
  exact k9 p l e R s m args below meth c H1 locs1 (cells + kc) (slots + nc) kf nf D A al0 al1 ws1 ls _ F (by omega) (by omega) hkR hnR (hle.tr hle1) hP1 hD1 hS1 hw1 (hl.mono hle1) ⟨_, _, rfl, hx9, hst2.mono hle1⟩
end AMD2
section WZ2
variable {y : MethodName} {cc : ByteArray} {nL : Nat} {ret : Option FieldType} {xt : List (Nat × Nat × Nat × Nat)} {lv : Nat} {sc : Option (Nat × (Nat → Int32))} {pc : Nat} {lo : List (Option Value)} {st : List Value} {k n : Nat} {o : Option Value ⊕ String} {N' : Nat} {aw' : Nat → am_E} {d : Nat → Nat → Int32} {r : Nat → Nat → Option Nat} {J : Nat → Nat → Int64}
variable {idx q ci na nL2 lv2 : Nat} {y2 : MethodName} {cc2 : ByteArray} {ret2 : Option FieldType} {As st0 : List Value} {x : Value} {E : String} {d1 : Nat → Nat → Int32} {r1 : Nat → Nat → Option Nat} {J1 : Nat → Nat → Int64}
theorem px_Vx2 (G : am_LV y.cls idx ci (.code y2 cc2 nL2 ret2) y2 na) (hAC : OP (.code y2 cc2 nL2 ret2) y2 lv2 (.ref q :: As) d r J (some x) d1 r1 J1) (hs : st0 = As.reverse ++ .ref q :: st) (hlen : As.length = na) (hlv2 : lv2 + 1 < lv) (hnL2 : nL2 ≤ 41) (hq : kO q ci) (hst9 : (st.map fun v => v.category).sum ≤ 8) (dd : decode cc pc = .ok (.invokevirtual idx, 3))
    (k9 : SW y cc nL ret xt lv sc (pc + 3) (lo) (x :: st) 75 (W0 (d1) (r1) (J1)) k n o N' aw') : SW y cc nL ret xt lv sc (pc) (lo) (st0) 75 (W0 (d) (r) (J)) k n o N' aw' := by
  obtain ⟨fs, hf⟩ := hq.2 (d q) (r q) (J q)
  exact sw_callVx2 (k2 := k) (n2 := n) G hAC hs hlen hlv2 hnL2 hq.1 hf hst9 (by omega) (by omega) dd k9
end WZ2
theorem A_X7_ofE {d : Nat → Nat → Int32} {r : Nat → Nat → Option Nat} {J : Nat → Nat → Int64} {q c : Nat} (okT9 : okPart (mV d)) (okM : okMany (mV d)) (hq : q < nv (mV d) 1) (hc : c < 4) : OP kX7_of yX7_of 0 [.ref 65, .int (nI q), .int (nI c)] d r J (some (.int (nI (prt (mV d) q c)))) d r J := by
  have h9 := A_X7_of (d := d) (r := r) (J := J) (q := q) (c := c) (by have := okM.2; omega) hc
  rw [(okT9 q hq).1 c hc] at h9
  exact h9
set_option maxRecDepth 100000 in
set_option maxHeartbeats 4000000 in
theorem A_X7_payOf {d : Nat → Nat → Int32} {r : Nat → Nat → Option Nat} {J : Nat → Nat → Int64} {q : Nat} (ok : okV (mV d)) (hq : q < nv (mV d) 1) : ∃ d1, OP kX7_payOf yX7_payOf 4 [.ref 65, .int (nI q)] d r J (some (.int (enc (wy (mV d) (prt (mV d) q 0) (prt (mV d) q 2))))) d1 r J ∧ payd d d1 (wy (mV d) (prt (mV d) q 0) (prt (mV d) q 2)) := by
  obtain ⟨okP, okM, okT9, okC, okW, okD⟩ := id ok
  obtain ⟨p1, p2, p3, p4, p5, p6, p7⟩ := okT9 q hq
  obtain ⟨d1, g1, g2⟩ := A_X7_payFrom (d := d) (r := r) (J := J) (a := prt (mV d) q 0) (s := prt (mV d) q 2) okC okW p2 p6
  refine ⟨d1, op_of pl_X7_payOf (Nat.le_of_ble_eq_true rfl) ?_, g2⟩
  refine sw_aload_n (i := 0) dX7_payOf_0 rfl rfl ?_
  refine sw_aload_n (i := 0) dX7_payOf_1 rfl rfl ?_
  refine sw_iload_n (i := 1) dX7_payOf_2 rfl rfl ?_
  refine sw_ic 0 dX7_payOf_3 ?_
  refine px_Vx mv_X7_61 (A_X7_ofE okT9 okM hq (c := 0) (by decide)) rfl rfl (Nat.le_of_ble_eq_true rfl) (Nat.le_of_ble_eq_true rfl) ko_65 (Nat.le_of_ble_eq_true rfl) dX7_payOf_4 ?_
  refine sw_aload_n (i := 0) dX7_payOf_7 rfl rfl ?_
  refine sw_iload_n (i := 1) dX7_payOf_8 rfl rfl ?_
  refine sw_ins (pc2 := 9) rfl rfl ?_
  refine sw_ic 2 dX7_payOf_9 ?_
  refine px_Vx mv_X7_61 (A_X7_ofE okT9 okM hq (c := 2) (by decide)) rfl rfl (Nat.le_of_ble_eq_true rfl) (Nat.le_of_ble_eq_true rfl) ko_65 (Nat.le_of_ble_eq_true rfl) dX7_payOf_10 ?_
  refine px_Vx2 mv_X7_64 g1 rfl rfl (Nat.le_of_ble_eq_true rfl) (Nat.le_of_ble_eq_true rfl) ko_65 (Nat.le_of_ble_eq_true rfl) dX7_payOf_13 ?_
  exact sw_ireturn rfl dX7_payOf_16
set_option maxRecDepth 100000 in
set_option maxHeartbeats 4000000 in
theorem A_X7_doFulfil {d : Nat → Nat → Int32} {r : Nat → Nat → Option Nat} {J : Nat → Nat → Int64} {q : Nat} (ok : okV (mV d)) (hq : q < nv (mV d) 1) : ∃ d1, OP kX7_doFulfil yX7_doFulfil 5 [.ref 65, .int (nI q)] d r J (some (.int (enc (wy (mV d) (prt (mV d) q 0) (prt (mV d) q 2))))) d1 r J ∧ mV d1 = kpV (mV d) q (wy (mV d) (prt (mV d) q 0) (prt (mV d) q 2)) ∧ ∀ c, c ≠ 66 → c ≠ 71 → d1 c = d c := by
  obtain ⟨okP, okM, okT9, okC, okW, okD⟩ := id ok
  obtain ⟨p1, p2, p3, p4, p5, p6, p7⟩ := okT9 q hq
  have hm8 := okM.2
  obtain ⟨d1, g1, g2⟩ := A_X7_payOf (d := d) (r := r) (J := J) (q := q) ok hq
  have v1 : mV d1 = mV d := mV_keep (g2.1 66 (by decide))
  obtain ⟨w, hw⟩ : ∃ w, w = (wy (mV d) (prt (mV d) q 0) (prt (mV d) q 2)) := ⟨_, rfl⟩
  rw [← hw] at g1 g2 ⊢
  cases w with
  | none =>
    obtain ⟨e1, a1, b1, c1⟩ := A_X7_refuse (d := d1) (r := r) (J := J) (x := -1)
    refine ⟨e1, op_of pl_X7_doFulfil (Nat.le_of_ble_eq_true rfl) ?_, ?_, fun c h1 h2 => ?_⟩
    ·
      refine sw_aload_n (i := 0) dX7_doFulfil_0 rfl rfl ?_
      refine sw_iload_n (i := 1) dX7_doFulfil_1 rfl rfl ?_
      refine px_Vx mv_X7_81 g1 rfl rfl (Nat.le_of_ble_eq_true rfl) (Nat.le_of_ble_eq_true rfl) ko_65 (Nat.le_of_ble_eq_true rfl) dX7_doFulfil_2 ?_
      refine sw_istore_n (i := 2) dX7_doFulfil_5 rfl (Nat.le_of_ble_eq_true rfl) rfl ?_
      refine sw_lo (lo2 := [some (.ref 65), some (.int _), some (.int _), none]) rfl ?_
      refine sw_iload_n (i := 2) dX7_doFulfil_6 rfl rfl ?_
      refine sw_im1 dX7_doFulfil_7 ?_
      refine sw_ic_ne (tgt := 17) dX7_doFulfil_8 rfl (fun h9 => absurd rfl h9) (fun _ => ?_)
      refine sw_ins (pc2 := 11) rfl rfl ?_
      refine sw_aload_n (i := 0) dX7_doFulfil_11 rfl rfl ?_
      refine sw_im1 dX7_doFulfil_12 ?_
      refine px_Vx mv_X7_78 a1 rfl rfl (Nat.le_of_ble_eq_true rfl) (Nat.le_of_ble_eq_true rfl) ko_65 (Nat.le_of_ble_eq_true rfl) dX7_doFulfil_13 ?_
      exact sw_ireturn rfl dX7_doFulfil_16
    · rw [b1, v1]; rfl
    · rw [c1 c h1, g2.1 c h2]
  | some w =>
    obtain ⟨z, f, e, t⟩ := w
    obtain ⟨y0, y1, y2, y3⟩ := g2.2.2 z f e t rfl
    have hsm : t + e + f + z < 2 ^ 20 := g2.2.1
    obtain ⟨e0, a0, b0, c0⟩ := A_X7_give (d := d1) (r := r) (J := J) (f := prt (mV d) q 0) (t := prt (mV d) q 1) (c := 0) (x := nI z) p2 p3 (by decide)
    rw [v1] at b0
    obtain ⟨e1, a1, b1, c1⟩ := A_X7_give (d := e0) (r := r) (J := J) (f := prt (mV d) q 0) (t := prt (mV d) q 1) (c := 1) (x := nI f) p2 p3 (by decide)
    rw [b0] at b1
    obtain ⟨e2, a2, b2, c2⟩ := A_X7_give (d := e1) (r := r) (J := J) (f := prt (mV d) q 0) (t := prt (mV d) q 1) (c := 2) (x := nI e) p2 p3 (by decide)
    rw [b1] at b2
    obtain ⟨e3, a3, b3, c3⟩ := A_X7_give (d := e2) (r := r) (J := J) (f := prt (mV d) q 0) (t := prt (mV d) q 1) (c := 3) (x := nI t) p2 p3 (by decide)
    rw [b2] at b3
    have fa : ∀ c, c ≠ 66 → e3 c = d1 c := fun c hc => by rw [c3 c hc, c2 c hc, c1 c hc, c0 c hc]
    have hp : mV e3 = pay (mV d) (prt (mV d) q 0) (prt (mV d) q 1) z f e t := b3
    have o00 : OP kX7_of yX7_of 0 [.ref 65, .int (nI q), .int (nI 0)] d1 r J (some (.int (nI (prt (mV d) q 0)))) d1 r J := by
      have h9 := A_X7_of (d := d1) (r := r) (J := J) (q := q) (c := 0) (by omega) (by decide)
      rw [v1, p1 0 (by decide)] at h9
      exact h9
    have o01 : OP kX7_of yX7_of 0 [.ref 65, .int (nI q), .int (nI 1)] d1 r J (some (.int (nI (prt (mV d) q 1)))) d1 r J := by
      have h9 := A_X7_of (d := d1) (r := r) (J := J) (q := q) (c := 1) (by omega) (by decide)
      rw [v1, p1 1 (by decide)] at h9
      exact h9
    have o10 : OP kX7_of yX7_of 0 [.ref 65, .int (nI q), .int (nI 0)] e0 r J (some (.int (nI (prt (mV d) q 0)))) e0 r J := by
      have h9 := A_X7_of (d := e0) (r := r) (J := J) (q := q) (c := 0) (by omega) (by decide)
      rw [b0, hnd_off p2 p3 (by decide) (Or.inr (by omega)), p1 0 (by decide)] at h9
      exact h9
    have o11 : OP kX7_of yX7_of 0 [.ref 65, .int (nI q), .int (nI 1)] e0 r J (some (.int (nI (prt (mV d) q 1)))) e0 r J := by
      have h9 := A_X7_of (d := e0) (r := r) (J := J) (q := q) (c := 1) (by omega) (by decide)
      rw [b0, hnd_off p2 p3 (by decide) (Or.inr (by omega)), p1 1 (by decide)] at h9
      exact h9
    have o20 : OP kX7_of yX7_of 0 [.ref 65, .int (nI q), .int (nI 0)] e1 r J (some (.int (nI (prt (mV d) q 0)))) e1 r J := by
      have h9 := A_X7_of (d := e1) (r := r) (J := J) (q := q) (c := 0) (by omega) (by decide)
      rw [b1, hnd_off p2 p3 (by decide) (Or.inr (by omega)), hnd_off p2 p3 (by decide) (Or.inr (by omega)), p1 0 (by decide)] at h9
      exact h9
    have o21 : OP kX7_of yX7_of 0 [.ref 65, .int (nI q), .int (nI 1)] e1 r J (some (.int (nI (prt (mV d) q 1)))) e1 r J := by
      have h9 := A_X7_of (d := e1) (r := r) (J := J) (q := q) (c := 1) (by omega) (by decide)
      rw [b1, hnd_off p2 p3 (by decide) (Or.inr (by omega)), hnd_off p2 p3 (by decide) (Or.inr (by omega)), p1 1 (by decide)] at h9
      exact h9
    have o30 : OP kX7_of yX7_of 0 [.ref 65, .int (nI q), .int (nI 0)] e2 r J (some (.int (nI (prt (mV d) q 0)))) e2 r J := by
      have h9 := A_X7_of (d := e2) (r := r) (J := J) (q := q) (c := 0) (by omega) (by decide)
      rw [b2, hnd_off p2 p3 (by decide) (Or.inr (by omega)), hnd_off p2 p3 (by decide) (Or.inr (by omega)), hnd_off p2 p3 (by decide) (Or.inr (by omega)), p1 0 (by decide)] at h9
      exact h9
    have o31 : OP kX7_of yX7_of 0 [.ref 65, .int (nI q), .int (nI 1)] e2 r J (some (.int (nI (prt (mV d) q 1)))) e2 r J := by
      have h9 := A_X7_of (d := e2) (r := r) (J := J) (q := q) (c := 1) (by omega) (by decide)
      rw [b2, hnd_off p2 p3 (by decide) (Or.inr (by omega)), hnd_off p2 p3 (by decide) (Or.inr (by omega)), hnd_off p2 p3 (by decide) (Or.inr (by omega)), p1 1 (by decide)] at h9
      exact h9
    have nvp : nv (mV e3) 1 = nv (mV d) 1 := by rw [hp]; unfold nv; rw [pay_off p2 p3 (Or.inl (by decide))]
    have okM3 : okMany (mV e3) := ⟨by rw [nvp, hp, pay_off p2 p3 (Or.inl (by decide))]; exact okM.1, by rw [nvp]; exact hm8⟩
    obtain ⟨x1, h1, h2, h3⟩ := A_X7_drop (d := e3) (r := r) (J := J) (q := q) okM3 (by rw [nvp]; exact hq)
    rw [hp] at h2
    refine ⟨d2 x1 66 3 (drp (pay (mV d) (prt (mV d) q 0) (prt (mV d) q 1) z f e t) q 3 + nI 1), op_of pl_X7_doFulfil (Nat.le_of_ble_eq_true rfl) ?_, ?_, fun c k1 k2 => ?_⟩
    ·
      refine sw_aload_n (i := 0) dX7_doFulfil_0 rfl rfl ?_
      refine sw_iload_n (i := 1) dX7_doFulfil_1 rfl rfl ?_
      refine px_Vx mv_X7_81 g1 rfl rfl (Nat.le_of_ble_eq_true rfl) (Nat.le_of_ble_eq_true rfl) ko_65 (Nat.le_of_ble_eq_true rfl) dX7_doFulfil_2 ?_
      refine sw_istore_n (i := 2) dX7_doFulfil_5 rfl (Nat.le_of_ble_eq_true rfl) rfl ?_
      refine sw_lo (lo2 := [some (.ref 65), some (.int _), some (.int _), none]) rfl ?_
      refine sw_iload_n (i := 2) dX7_doFulfil_6 rfl rfl ?_
      refine sw_im1 dX7_doFulfil_7 ?_
      refine sw_ic_ne (tgt := 17) dX7_doFulfil_8 rfl (fun _ => ?_) (fun h9 => absurd h9 (nI_ne_m1 (by omega)))
      refine sw_ins (pc2 := 17) rfl rfl ?_
      refine sw_ic 0 dX7_doFulfil_17 ?_
      refine sw_istore_n (i := 3) dX7_doFulfil_18 rfl (Nat.le_of_ble_eq_true rfl) rfl ?_
      refine sw_lo (lo2 := [some (.ref 65), some (.int _), some (.int _), some (.int _)]) rfl ?_
      refine sw_iload_n (i := 3) dX7_doFulfil_19 rfl rfl ?_
      refine sw_ic 4 dX7_doFulfil_20 ?_
      refine sw_ic_ge (tgt := 53) dX7_doFulfil_21 rfl (fun h9 => absurd h9 (by decide)) (fun _ => ?_)
      refine sw_aload_n (i := 0) dX7_doFulfil_24 rfl rfl ?_
      refine sw_aload_n (i := 0) dX7_doFulfil_25 rfl rfl ?_
      refine sw_iload_n (i := 1) dX7_doFulfil_26 rfl rfl ?_
      refine sw_ins (pc2 := 27) rfl rfl ?_
      refine sw_ic 0 dX7_doFulfil_27 ?_
      refine px_Vx mv_X7_61 o00 rfl rfl (Nat.le_of_ble_eq_true rfl) (Nat.le_of_ble_eq_true rfl) ko_65 (Nat.le_of_ble_eq_true rfl) dX7_doFulfil_28 ?_
      refine sw_aload_n (i := 0) dX7_doFulfil_31 rfl rfl ?_
      refine sw_iload_n (i := 1) dX7_doFulfil_32 rfl rfl ?_
      refine sw_ic 1 dX7_doFulfil_33 ?_
      refine px_Vx mv_X7_61 o01 rfl rfl (Nat.le_of_ble_eq_true rfl) (Nat.le_of_ble_eq_true rfl) ko_65 (Nat.le_of_ble_eq_true rfl) dX7_doFulfil_34 ?_
      refine sw_iload_n (i := 3) dX7_doFulfil_37 rfl rfl ?_
      refine sw_aload_n (i := 0) dX7_doFulfil_38 rfl rfl ?_
      refine sw_ins (pc2 := 39) rfl rfl ?_
      refine sx_getR (q := 71) f_X7_26 (by decide) kr_65_8 dX7_doFulfil_39 ?_
      refine sw_iload_n (i := 3) dX7_doFulfil_42 rfl rfl ?_
      refine sx_ialdE (0) (nI z) y0 rfl rfl (by omega) dX7_doFulfil_43 ?_
      refine px_Vv mv_X7_84 a0 rfl rfl (Nat.le_of_ble_eq_true rfl) (Nat.le_of_ble_eq_true rfl) ko_65 (Nat.le_of_ble_eq_true rfl) dX7_doFulfil_44 ?_
      refine sw_iinc (i := 3) (v := nI 1) dX7_doFulfil_47 rfl (by decide) (Nat.le_of_ble_eq_true rfl) rfl ?_
      refine sw_lo (lo2 := [some (.ref 65), some (.int _), some (.int _), some (.int _)]) rfl ?_
      refine sw_goto (tgt := 19) dX7_doFulfil_50 rfl ?_
      refine sw_iload_n (i := 3) dX7_doFulfil_19 rfl rfl ?_
      refine sw_ic 4 dX7_doFulfil_20 ?_
      refine sw_ins (pc2 := 21) rfl rfl ?_
      refine sw_ic_ge (tgt := 53) dX7_doFulfil_21 rfl (fun h9 => absurd h9 (by decide)) (fun _ => ?_)
      refine sw_aload_n (i := 0) dX7_doFulfil_24 rfl rfl ?_
      refine sw_aload_n (i := 0) dX7_doFulfil_25 rfl rfl ?_
      refine sw_iload_n (i := 1) dX7_doFulfil_26 rfl rfl ?_
      refine sw_ic 0 dX7_doFulfil_27 ?_
      refine px_Vx mv_X7_61 o10 rfl rfl (Nat.le_of_ble_eq_true rfl) (Nat.le_of_ble_eq_true rfl) ko_65 (Nat.le_of_ble_eq_true rfl) dX7_doFulfil_28 ?_
      refine sw_aload_n (i := 0) dX7_doFulfil_31 rfl rfl ?_
      refine sw_iload_n (i := 1) dX7_doFulfil_32 rfl rfl ?_
      refine sw_ins (pc2 := 33) rfl rfl ?_
      refine sw_ic 1 dX7_doFulfil_33 ?_
      refine px_Vx mv_X7_61 o11 rfl rfl (Nat.le_of_ble_eq_true rfl) (Nat.le_of_ble_eq_true rfl) ko_65 (Nat.le_of_ble_eq_true rfl) dX7_doFulfil_34 ?_
      refine sw_iload_n (i := 3) dX7_doFulfil_37 rfl rfl ?_
      refine sw_aload_n (i := 0) dX7_doFulfil_38 rfl rfl ?_
      refine sx_getR (q := 71) f_X7_26 (by decide) kr_65_8 dX7_doFulfil_39 ?_
      refine sw_iload_n (i := 3) dX7_doFulfil_42 rfl rfl ?_
      refine sx_ialdE (1) (nI f) (by rw [c0 71 (by decide)]; exact y1) rfl rfl (by omega) dX7_doFulfil_43 ?_
      refine px_Vv mv_X7_84 a1 rfl rfl (Nat.le_of_ble_eq_true rfl) (Nat.le_of_ble_eq_true rfl) ko_65 (Nat.le_of_ble_eq_true rfl) dX7_doFulfil_44 ?_
      refine sw_ins (pc2 := 47) rfl rfl ?_
      refine sw_iinc (i := 3) (v := nI 2) dX7_doFulfil_47 rfl (by decide) (Nat.le_of_ble_eq_true rfl) rfl ?_
      refine sw_lo (lo2 := [some (.ref 65), some (.int _), some (.int _), some (.int _)]) rfl ?_
      refine sw_goto (tgt := 19) dX7_doFulfil_50 rfl ?_
      refine sw_iload_n (i := 3) dX7_doFulfil_19 rfl rfl ?_
      refine sw_ic 4 dX7_doFulfil_20 ?_
      refine sw_ic_ge (tgt := 53) dX7_doFulfil_21 rfl (fun h9 => absurd h9 (by decide)) (fun _ => ?_)
      refine sw_aload_n (i := 0) dX7_doFulfil_24 rfl rfl ?_
      refine sw_aload_n (i := 0) dX7_doFulfil_25 rfl rfl ?_
      refine sw_iload_n (i := 1) dX7_doFulfil_26 rfl rfl ?_
      refine sw_ins (pc2 := 27) rfl rfl ?_
      refine sw_ic 0 dX7_doFulfil_27 ?_
      refine px_Vx mv_X7_61 o20 rfl rfl (Nat.le_of_ble_eq_true rfl) (Nat.le_of_ble_eq_true rfl) ko_65 (Nat.le_of_ble_eq_true rfl) dX7_doFulfil_28 ?_
      refine sw_aload_n (i := 0) dX7_doFulfil_31 rfl rfl ?_
      refine sw_iload_n (i := 1) dX7_doFulfil_32 rfl rfl ?_
      refine sw_ic 1 dX7_doFulfil_33 ?_
      refine px_Vx mv_X7_61 o21 rfl rfl (Nat.le_of_ble_eq_true rfl) (Nat.le_of_ble_eq_true rfl) ko_65 (Nat.le_of_ble_eq_true rfl) dX7_doFulfil_34 ?_
      refine sw_iload_n (i := 3) dX7_doFulfil_37 rfl rfl ?_
      refine sw_aload_n (i := 0) dX7_doFulfil_38 rfl rfl ?_
      refine sw_ins (pc2 := 39) rfl rfl ?_
      refine sx_getR (q := 71) f_X7_26 (by decide) kr_65_8 dX7_doFulfil_39 ?_
      refine sw_iload_n (i := 3) dX7_doFulfil_42 rfl rfl ?_
      refine sx_ialdE (2) (nI e) (by rw [c1 71 (by decide), c0 71 (by decide)]; exact y2) rfl rfl (by omega) dX7_doFulfil_43 ?_
      refine px_Vv mv_X7_84 a2 rfl rfl (Nat.le_of_ble_eq_true rfl) (Nat.le_of_ble_eq_true rfl) ko_65 (Nat.le_of_ble_eq_true rfl) dX7_doFulfil_44 ?_
      refine sw_iinc (i := 3) (v := nI 3) dX7_doFulfil_47 rfl (by decide) (Nat.le_of_ble_eq_true rfl) rfl ?_
      refine sw_lo (lo2 := [some (.ref 65), some (.int _), some (.int _), some (.int _)]) rfl ?_
      refine sw_goto (tgt := 19) dX7_doFulfil_50 rfl ?_
      refine sw_iload_n (i := 3) dX7_doFulfil_19 rfl rfl ?_
      refine sw_ic 4 dX7_doFulfil_20 ?_
      refine sw_ins (pc2 := 21) rfl rfl ?_
      refine sw_ic_ge (tgt := 53) dX7_doFulfil_21 rfl (fun h9 => absurd h9 (by decide)) (fun _ => ?_)
      refine sw_aload_n (i := 0) dX7_doFulfil_24 rfl rfl ?_
      refine sw_aload_n (i := 0) dX7_doFulfil_25 rfl rfl ?_
      refine sw_iload_n (i := 1) dX7_doFulfil_26 rfl rfl ?_
      refine sw_ic 0 dX7_doFulfil_27 ?_
      refine px_Vx mv_X7_61 o30 rfl rfl (Nat.le_of_ble_eq_true rfl) (Nat.le_of_ble_eq_true rfl) ko_65 (Nat.le_of_ble_eq_true rfl) dX7_doFulfil_28 ?_
      refine sw_aload_n (i := 0) dX7_doFulfil_31 rfl rfl ?_
      refine sw_iload_n (i := 1) dX7_doFulfil_32 rfl rfl ?_
      refine sw_ins (pc2 := 33) rfl rfl ?_
      refine sw_ic 1 dX7_doFulfil_33 ?_
      refine px_Vx mv_X7_61 o31 rfl rfl (Nat.le_of_ble_eq_true rfl) (Nat.le_of_ble_eq_true rfl) ko_65 (Nat.le_of_ble_eq_true rfl) dX7_doFulfil_34 ?_
      refine sw_iload_n (i := 3) dX7_doFulfil_37 rfl rfl ?_
      refine sw_aload_n (i := 0) dX7_doFulfil_38 rfl rfl ?_
      refine sx_getR (q := 71) f_X7_26 (by decide) kr_65_8 dX7_doFulfil_39 ?_
      refine sw_iload_n (i := 3) dX7_doFulfil_42 rfl rfl ?_
      refine sx_ialdE (3) (nI t) (by rw [c2 71 (by decide), c1 71 (by decide), c0 71 (by decide)]; exact y3) rfl rfl (by omega) dX7_doFulfil_43 ?_
      refine px_Vv mv_X7_84 a3 rfl rfl (Nat.le_of_ble_eq_true rfl) (Nat.le_of_ble_eq_true rfl) ko_65 (Nat.le_of_ble_eq_true rfl) dX7_doFulfil_44 ?_
      refine sw_ins (pc2 := 47) rfl rfl ?_
      refine sw_iinc (i := 3) (v := nI 4) dX7_doFulfil_47 rfl (by decide) (Nat.le_of_ble_eq_true rfl) rfl ?_
      refine sw_lo (lo2 := [some (.ref 65), some (.int _), some (.int _), some (.int _)]) rfl ?_
      refine sw_goto (tgt := 19) dX7_doFulfil_50 rfl ?_
      refine sw_iload_n (i := 3) dX7_doFulfil_19 rfl rfl ?_
      refine sw_ic 4 dX7_doFulfil_20 ?_
      refine sw_ic_ge (tgt := 53) dX7_doFulfil_21 rfl (fun _ => ?_) (fun h9 => absurd (by decide) h9)
      refine sw_aload_n (i := 0) dX7_doFulfil_53 rfl rfl ?_
      refine sw_iload_n (i := 1) dX7_doFulfil_54 rfl rfl ?_
      refine px_Vv mv_X7_74 h1 rfl rfl (Nat.le_of_ble_eq_true rfl) (Nat.le_of_ble_eq_true rfl) ko_65 (Nat.le_of_ble_eq_true rfl) dX7_doFulfil_55 ?_
      refine sw_ins (pc2 := 58) rfl rfl ?_
      refine sw_aload_n (i := 0) dX7_doFulfil_58 rfl rfl ?_
      refine sx_getR (q := 66) f_X7_7 (by decide) kr_65_0 dX7_doFulfil_59 ?_
      refine sw_ic 3 dX7_doFulfil_62 ?_
      refine sw_dup2 dX7_doFulfil_63 rfl rfl ?_
      refine sx_ialdE (3) (drp (pay (mV d) (prt (mV d) q 0) (prt (mV d) q 1) z f e t) q 3) ((mV_in x1 (by decide) rfl).trans (congrFun h2 3)) rfl rfl (by omega) dX7_doFulfil_64 ?_
      refine sw_ic 1 dX7_doFulfil_65 ?_
      refine sw_iadd dX7_doFulfil_66 ?_
      refine sx_iast (3) rfl rfl (by omega) dX7_doFulfil_67 ?_
      refine sw_ins (pc2 := 68) rfl rfl ?_
      refine sw_iload_n (i := 2) dX7_doFulfil_68 rfl rfl ?_
      exact sw_ireturn rfl dX7_doFulfil_69
    · rw [mV_d2 _ _ (by decide) rfl, h2]
      rfl
    · rw [d2_off _ _ k1, h3 c k1, fa c k1, g2.1 c k2]
set_option maxRecDepth 100000 in
set_option maxHeartbeats 4000000 in
theorem P1_X7_promiseError {d : Nat → Nat → Int32} {r : Nat → Nat → Option Nat} {J : Nat → Nat → Int64} {x b s e : Int32} (hx : x < 0 ∨ ¬ x < nI 8) : OP kX7_promiseError yX7_promiseError 2 [.int x, .int b, .int s, .int e] d r J (some (.int (nI 1))) d r J := by
  refine op_of pl_X7_promiseError (Nat.le_of_ble_eq_true rfl) ?_
  refine sw_iload_n (i := 0) dX7_promiseError_0 rfl rfl ?_
  refine px_Sx ms_X7_88 (A0_X7_isIslander hx) rfl rfl (Nat.le_of_ble_eq_true rfl) (Nat.le_of_ble_eq_true rfl) (Nat.le_of_ble_eq_true rfl) dX7_promiseError_1 ?_
  refine sw_if_eq (tgt := 14) dX7_promiseError_4 rfl (fun _ => ?_) (fun h9 => absurd (by decide) h9)
  refine sw_ic 1 dX7_promiseError_14 ?_
  refine sw_goto (tgt := 48) dX7_promiseError_15 rfl ?_
  exact sw_ireturn rfl dX7_promiseError_48
set_option maxRecDepth 100000 in
set_option maxHeartbeats 4000000 in
theorem P2_X7_promiseError {d : Nat → Nat → Int32} {r : Nat → Nat → Option Nat} {J : Nat → Nat → Int64} {a : Nat} {x s e : Int32} (ha : a < 8) (hx : x < 0 ∨ ¬ x < nI 8) : OP kX7_promiseError yX7_promiseError 2 [.int (nI a), .int x, .int s, .int e] d r J (some (.int (nI 1))) d r J := by
  refine op_of pl_X7_promiseError (Nat.le_of_ble_eq_true rfl) ?_
  refine sw_iload_n (i := 0) dX7_promiseError_0 rfl rfl ?_
  refine px_Sx ms_X7_88 (A1_X7_isIslander ha) rfl rfl (Nat.le_of_ble_eq_true rfl) (Nat.le_of_ble_eq_true rfl) (Nat.le_of_ble_eq_true rfl) dX7_promiseError_1 ?_
  refine sw_if_eq (tgt := 14) dX7_promiseError_4 rfl (fun h9 => absurd h9 (by decide)) (fun _ => ?_)
  refine sw_iload_n (i := 1) dX7_promiseError_7 rfl rfl ?_
  refine px_Sx ms_X7_88 (A0_X7_isIslander hx) rfl rfl (Nat.le_of_ble_eq_true rfl) (Nat.le_of_ble_eq_true rfl) (Nat.le_of_ble_eq_true rfl) dX7_promiseError_8 ?_
  refine sw_if_ne (tgt := 18) dX7_promiseError_11 rfl (fun h9 => absurd (by decide) h9) (fun _ => ?_)
  refine sw_ic 1 dX7_promiseError_14 ?_
  refine sw_ins (pc2 := 15) rfl rfl ?_
  refine sw_goto (tgt := 48) dX7_promiseError_15 rfl ?_
  exact sw_ireturn rfl dX7_promiseError_48
set_option maxRecDepth 100000 in
set_option maxHeartbeats 4000000 in
theorem P3_X7_promiseError {d : Nat → Nat → Int32} {r : Nat → Nat → Option Nat} {J : Nat → Nat → Int64} {a b : Nat} {s e : Int32} (ha : a < 8) (hb : b < 8) (hab : nI a = nI b) : OP kX7_promiseError yX7_promiseError 2 [.int (nI a), .int (nI b), .int s, .int e] d r J (some (.int (nI 2))) d r J := by
  refine op_of pl_X7_promiseError (Nat.le_of_ble_eq_true rfl) ?_
  refine sw_iload_n (i := 0) dX7_promiseError_0 rfl rfl ?_
  refine px_Sx ms_X7_88 (A1_X7_isIslander ha) rfl rfl (Nat.le_of_ble_eq_true rfl) (Nat.le_of_ble_eq_true rfl) (Nat.le_of_ble_eq_true rfl) dX7_promiseError_1 ?_
  refine sw_if_eq (tgt := 14) dX7_promiseError_4 rfl (fun h9 => absurd h9 (by decide)) (fun _ => ?_)
  refine sw_iload_n (i := 1) dX7_promiseError_7 rfl rfl ?_
  refine px_Sx ms_X7_88 (A1_X7_isIslander hb) rfl rfl (Nat.le_of_ble_eq_true rfl) (Nat.le_of_ble_eq_true rfl) (Nat.le_of_ble_eq_true rfl) dX7_promiseError_8 ?_
  refine sw_if_ne (tgt := 18) dX7_promiseError_11 rfl (fun _ => ?_) (fun h9 => absurd h9 (by decide))
  refine sw_iload_n (i := 0) dX7_promiseError_18 rfl rfl ?_
  refine sw_ins (pc2 := 19) rfl rfl ?_
  refine sw_iload_n (i := 1) dX7_promiseError_19 rfl rfl ?_
  refine sw_ic_eq (tgt := 43) dX7_promiseError_20 rfl (fun _ => ?_) (fun h9 => absurd hab h9)
  refine sw_ic 2 dX7_promiseError_43 ?_
  refine sw_goto (tgt := 48) dX7_promiseError_44 rfl ?_
  exact sw_ireturn rfl dX7_promiseError_48
set_option maxRecDepth 100000 in
set_option maxHeartbeats 4000000 in
theorem P4_X7_promiseError {d : Nat → Nat → Int32} {r : Nat → Nat → Option Nat} {J : Nat → Nat → Int64} {a b : Nat} {s e : Int32} (ha : a < 8) (hb : b < 8) (hab : ¬ nI a = nI b) (hs : s < nI 1 ∨ ¬ s ≤ nI 99) : OP kX7_promiseError yX7_promiseError 2 [.int (nI a), .int (nI b), .int s, .int e] d r J (some (.int (nI 2))) d r J := by
  refine op_of pl_X7_promiseError (Nat.le_of_ble_eq_true rfl) ?_
  refine sw_iload_n (i := 0) dX7_promiseError_0 rfl rfl ?_
  refine px_Sx ms_X7_88 (A1_X7_isIslander ha) rfl rfl (Nat.le_of_ble_eq_true rfl) (Nat.le_of_ble_eq_true rfl) (Nat.le_of_ble_eq_true rfl) dX7_promiseError_1 ?_
  refine sw_if_eq (tgt := 14) dX7_promiseError_4 rfl (fun h9 => absurd h9 (by decide)) (fun _ => ?_)
  refine sw_iload_n (i := 1) dX7_promiseError_7 rfl rfl ?_
  refine px_Sx ms_X7_88 (A1_X7_isIslander hb) rfl rfl (Nat.le_of_ble_eq_true rfl) (Nat.le_of_ble_eq_true rfl) (Nat.le_of_ble_eq_true rfl) dX7_promiseError_8 ?_
  refine sw_if_ne (tgt := 18) dX7_promiseError_11 rfl (fun _ => ?_) (fun h9 => absurd h9 (by decide))
  refine sw_iload_n (i := 0) dX7_promiseError_18 rfl rfl ?_
  refine sw_ins (pc2 := 19) rfl rfl ?_
  refine sw_iload_n (i := 1) dX7_promiseError_19 rfl rfl ?_
  refine sw_ic_eq (tgt := 43) dX7_promiseError_20 rfl (fun h9 => absurd h9 hab) (fun _ => ?_)
  refine sw_iload_n (i := 2) dX7_promiseError_23 rfl rfl ?_
  refine sw_ic 1 dX7_promiseError_24 ?_
  refine sw_bi 99 dX7_promiseError_25 (by decide +kernel) ?_
  refine px_Sx ms_X7_39 (A0_X7_in (in_r (lo := 1) (hi := 99) hs)) rfl rfl (Nat.le_of_ble_eq_true rfl) (Nat.le_of_ble_eq_true rfl) (Nat.le_of_ble_eq_true rfl) dX7_promiseError_27 ?_
  refine sw_if_eq (tgt := 43) dX7_promiseError_30 rfl (fun _ => ?_) (fun h9 => absurd (by decide) h9)
  refine sw_ic 2 dX7_promiseError_43 ?_
  refine sw_ins (pc2 := 44) rfl rfl ?_
  refine sw_goto (tgt := 48) dX7_promiseError_44 rfl ?_
  exact sw_ireturn rfl dX7_promiseError_48
set_option maxRecDepth 100000 in
set_option maxHeartbeats 4000000 in
theorem P5_X7_promiseError {d : Nat → Nat → Int32} {r : Nat → Nat → Option Nat} {J : Nat → Nat → Int64} {a b s : Nat} {e : Int32} (ha : a < 8) (hb : b < 8) (hab : ¬ nI a = nI b) (h1 : 1 ≤ s) (h2 : s ≤ 99) (he : e < nI 0 ∨ ¬ e ≤ nI 9) : OP kX7_promiseError yX7_promiseError 2 [.int (nI a), .int (nI b), .int (nI s), .int e] d r J (some (.int (nI 2))) d r J := by
  refine op_of pl_X7_promiseError (Nat.le_of_ble_eq_true rfl) ?_
  refine sw_iload_n (i := 0) dX7_promiseError_0 rfl rfl ?_
  refine px_Sx ms_X7_88 (A1_X7_isIslander ha) rfl rfl (Nat.le_of_ble_eq_true rfl) (Nat.le_of_ble_eq_true rfl) (Nat.le_of_ble_eq_true rfl) dX7_promiseError_1 ?_
  refine sw_if_eq (tgt := 14) dX7_promiseError_4 rfl (fun h9 => absurd h9 (by decide)) (fun _ => ?_)
  refine sw_iload_n (i := 1) dX7_promiseError_7 rfl rfl ?_
  refine px_Sx ms_X7_88 (A1_X7_isIslander hb) rfl rfl (Nat.le_of_ble_eq_true rfl) (Nat.le_of_ble_eq_true rfl) (Nat.le_of_ble_eq_true rfl) dX7_promiseError_8 ?_
  refine sw_if_ne (tgt := 18) dX7_promiseError_11 rfl (fun _ => ?_) (fun h9 => absurd h9 (by decide))
  refine sw_iload_n (i := 0) dX7_promiseError_18 rfl rfl ?_
  refine sw_ins (pc2 := 19) rfl rfl ?_
  refine sw_iload_n (i := 1) dX7_promiseError_19 rfl rfl ?_
  refine sw_ic_eq (tgt := 43) dX7_promiseError_20 rfl (fun h9 => absurd h9 hab) (fun _ => ?_)
  refine sw_iload_n (i := 2) dX7_promiseError_23 rfl rfl ?_
  refine sw_ic 1 dX7_promiseError_24 ?_
  refine sw_bi 99 dX7_promiseError_25 (by decide +kernel) ?_
  refine px_Sx ms_X7_39 (A1_X7_in (in_s (lo := 1) (hi := 99) h1 h2 (by decide))) rfl rfl (Nat.le_of_ble_eq_true rfl) (Nat.le_of_ble_eq_true rfl) (Nat.le_of_ble_eq_true rfl) dX7_promiseError_27 ?_
  refine sw_if_eq (tgt := 43) dX7_promiseError_30 rfl (fun h9 => absurd h9 (by decide)) (fun _ => ?_)
  refine sw_iload_n (i := 3) dX7_promiseError_33 rfl rfl ?_
  refine sw_ins (pc2 := 34) rfl rfl ?_
  refine sw_ic 0 dX7_promiseError_34 ?_
  refine sw_bi 9 dX7_promiseError_35 (by decide +kernel) ?_
  refine px_Sx ms_X7_39 (A0_X7_in (in_r (lo := 0) (hi := 9) he)) rfl rfl (Nat.le_of_ble_eq_true rfl) (Nat.le_of_ble_eq_true rfl) (Nat.le_of_ble_eq_true rfl) dX7_promiseError_37 ?_
  refine sw_if_ne (tgt := 47) dX7_promiseError_40 rfl (fun h9 => absurd (by decide) h9) (fun _ => ?_)
  refine sw_ic 2 dX7_promiseError_43 ?_
  refine sw_goto (tgt := 48) dX7_promiseError_44 rfl ?_
  exact sw_ireturn rfl dX7_promiseError_48
set_option maxRecDepth 100000 in
set_option maxHeartbeats 4000000 in
theorem P6_X7_promiseError {d : Nat → Nat → Int32} {r : Nat → Nat → Option Nat} {J : Nat → Nat → Int64} {a b s e : Nat} (ha : a < 8) (hb : b < 8) (hab : ¬ nI a = nI b) (h1 : 1 ≤ s) (h2 : s ≤ 99) (he : e ≤ 9) : OP kX7_promiseError yX7_promiseError 2 [.int (nI a), .int (nI b), .int (nI s), .int (nI e)] d r J (some (.int (nI 0))) d r J := by
  refine op_of pl_X7_promiseError (Nat.le_of_ble_eq_true rfl) ?_
  refine sw_iload_n (i := 0) dX7_promiseError_0 rfl rfl ?_
  refine px_Sx ms_X7_88 (A1_X7_isIslander ha) rfl rfl (Nat.le_of_ble_eq_true rfl) (Nat.le_of_ble_eq_true rfl) (Nat.le_of_ble_eq_true rfl) dX7_promiseError_1 ?_
  refine sw_if_eq (tgt := 14) dX7_promiseError_4 rfl (fun h9 => absurd h9 (by decide)) (fun _ => ?_)
  refine sw_iload_n (i := 1) dX7_promiseError_7 rfl rfl ?_
  refine px_Sx ms_X7_88 (A1_X7_isIslander hb) rfl rfl (Nat.le_of_ble_eq_true rfl) (Nat.le_of_ble_eq_true rfl) (Nat.le_of_ble_eq_true rfl) dX7_promiseError_8 ?_
  refine sw_if_ne (tgt := 18) dX7_promiseError_11 rfl (fun _ => ?_) (fun h9 => absurd h9 (by decide))
  refine sw_iload_n (i := 0) dX7_promiseError_18 rfl rfl ?_
  refine sw_ins (pc2 := 19) rfl rfl ?_
  refine sw_iload_n (i := 1) dX7_promiseError_19 rfl rfl ?_
  refine sw_ic_eq (tgt := 43) dX7_promiseError_20 rfl (fun h9 => absurd h9 hab) (fun _ => ?_)
  refine sw_iload_n (i := 2) dX7_promiseError_23 rfl rfl ?_
  refine sw_ic 1 dX7_promiseError_24 ?_
  refine sw_bi 99 dX7_promiseError_25 (by decide +kernel) ?_
  refine px_Sx ms_X7_39 (A1_X7_in (in_s (lo := 1) (hi := 99) h1 h2 (by decide))) rfl rfl (Nat.le_of_ble_eq_true rfl) (Nat.le_of_ble_eq_true rfl) (Nat.le_of_ble_eq_true rfl) dX7_promiseError_27 ?_
  refine sw_if_eq (tgt := 43) dX7_promiseError_30 rfl (fun h9 => absurd h9 (by decide)) (fun _ => ?_)
  refine sw_iload_n (i := 3) dX7_promiseError_33 rfl rfl ?_
  refine sw_ins (pc2 := 34) rfl rfl ?_
  refine sw_ic 0 dX7_promiseError_34 ?_
  refine sw_bi 9 dX7_promiseError_35 (by decide +kernel) ?_
  refine px_Sx ms_X7_39 (A1_X7_in (in_s (lo := 0) (hi := 9) (Nat.zero_le _) he (by decide))) rfl rfl (Nat.le_of_ble_eq_true rfl) (Nat.le_of_ble_eq_true rfl) (Nat.le_of_ble_eq_true rfl) dX7_promiseError_37 ?_
  refine sw_if_ne (tgt := 47) dX7_promiseError_40 rfl (fun _ => ?_) (fun h9 => absurd h9 (by decide))
  refine sw_ic 0 dX7_promiseError_47 ?_
  exact sw_ireturn rfl dX7_promiseError_48
def cpG (g h : Nat → Int32) (f t i : Nat) : Nat → Int32 := fun j => if t ≤ j ∧ j < t + i then g (f + (j - t)) else h j
theorem cpG_0 (g h : Nat → Int32) (f t : Nat) : cpG g h f t 0 = h := by
  funext j
  exact if_neg (by omega)
theorem cpG_s (g h : Nat → Int32) (f t i : Nat) : upd (cpG g h f t i) (t + i) (g (f + i)) = cpG g h f t (i + 1) := by
  funext j
  by_cases e : j = t + i
  · subst e
    rw [upd_eq]
    unfold cpG
    rw [if_pos (by omega), show t + i - t = i by omega]
  · rw [upd_ne _ _ e]
    unfold cpG
    by_cases c : t ≤ j ∧ j < t + i
    · rw [if_pos c, if_pos (by omega)]
    · rw [if_neg c, if_neg (by omega)]
theorem cpG_in {g h : Nat → Int32} {f t i j x : Nat} (hj : j < i) (hx : x = t + j) : cpG g h f t i x = g (f + j) := by
  subst hx
  unfold cpG
  rw [if_pos (by omega), show t + j - t = j by omega]
theorem cpG_out {g h : Nat → Int32} {f t i x : Nat} (hx : x < t ∨ t + i ≤ x) : cpG g h f t i x = h x := if_neg (by omega)
set_option maxRecDepth 100000 in
set_option maxHeartbeats 4000000 in
theorem A_X7_copy {d : Nat → Nat → Int32} {r : Nat → Nat → Option Nat} {J : Nat → Nat → Int64} {cf ct nf nt f t : Nat} (hne : cf ≠ ct) (hcf : kt[cf]? = some (2, nf)) (hct : kt[ct]? = some (2, nt)) (hf : f + 83 ≤ nf) (ht : t + 83 ≤ nt) : OP kX7_copy yX7_copy 0 [.ref cf, .int (nI f), .ref ct, .int (nI t)] d r J none (dup d ct (cpG (d cf) (d ct) f t 83)) r J := by
  refine op_of pl_X7_copy (Nat.le_of_ble_eq_true rfl) ?_
  have L : ∀ i, i ≤ 83 → SW yX7_copy cX7_copy 5 none [] 0 none 3 [some (.ref cf), some (.int (nI f)), some (.ref ct), some (.int (nI t)), some (.int (nI i))] [] 75 (W0 (dup d ct (cpG (d cf) (d ct) f t i)) r J) 0 0 (.inl none) 75 (W0 (dup d ct (cpG (d cf) (d ct) f t 83)) r J) := by
    refine am_loop 83 ?_ ?_
    ·
      refine sw_iload (i := 4) dX7_copy_3 rfl ?_
      refine sw_bi 83 dX7_copy_5 (by decide +kernel) ?_
      refine sw_ic_ge (tgt := 28) dX7_copy_7 rfl (fun _ => ?_) (fun h9 => absurd (nI_le (Nat.le_refl _) (by decide)) h9)
      exact sw_return rfl dX7_copy_28
    · intro i hi ih
      refine sw_iload (i := 4) dX7_copy_3 rfl ?_
      refine sw_bi 83 dX7_copy_5 (by decide +kernel) ?_
      refine sw_ic_ge (tgt := 28) dX7_copy_7 rfl (fun h9 => absurd h9 (nI_ge hi (by decide))) (fun _ => ?_)
      refine sw_aload_n (i := 2) dX7_copy_10 rfl rfl ?_
      refine sw_iload_n (i := 3) dX7_copy_11 rfl rfl ?_
      refine sw_iload (i := 4) dX7_copy_12 rfl ?_
      refine sw_iadd dX7_copy_14 ?_
      refine sw_ins (pc2 := 15) rfl rfl ?_
      refine sw_aload_n (i := 0) dX7_copy_15 rfl rfl ?_
      refine sw_iload_n (i := 1) dX7_copy_16 rfl rfl ?_
      refine sw_iload (i := 4) dX7_copy_17 rfl ?_
      refine sw_iadd dX7_copy_19 ?_
      refine sx_ialdE (f + i) (d cf (f + i)) (by rw [dup_ne _ _ hne]) hcf (by simp only [nI_add]) (by omega) dX7_copy_20 ?_
      refine sx_iast (t + i) hct (by simp only [nI_add]) (by omega) dX7_copy_21 ?_
      rw [d2_dup, cpG_s]
      refine sw_iinc (i := 4) (v := nI (i + 1)) dX7_copy_22 rfl (nI_1 _) (Nat.le_of_ble_eq_true rfl) rfl ?_
      refine sw_lo (lo2 := [some (.ref cf), some (.int _), some (.ref ct), some (.int _), some (.int _)]) rfl ?_
      refine sw_goto (tgt := 3) dX7_copy_25 rfl ?_
      exact ih
  refine sw_ic 0 dX7_copy_0 ?_
  refine sw_istore (i := 4) dX7_copy_1 (Nat.le_of_ble_eq_true rfl) rfl ?_
  refine sw_lo (lo2 := [some (.ref cf), some (.int _), some (.ref ct), some (.int _), some (.int _)]) rfl ?_
  have h := L 0 (Nat.zero_le _)
  rw [cpG_0, dup_self] at h
  exact h
def svG (g : Nat → Int32) (i : Nat) : Nat → Int32 := fun j => if j < i then g (83 + j) else g j
theorem svG_0 (g : Nat → Int32) : svG g 0 = g := by
  funext j
  exact if_neg (by omega)
theorem svG_s (g : Nat → Int32) (i : Nat) : upd (svG g i) i (g (83 + i)) = svG g (i + 1) := by
  funext j
  by_cases e : j = i
  · subst e
    rw [upd_eq]
    exact (if_pos (by omega)).symm
  · rw [upd_ne _ _ e]
    unfold svG
    by_cases c : j < i
    · rw [if_pos c, if_pos (by omega)]
    · rw [if_neg c, if_neg (by omega)]
theorem svG_at (g : Nat → Int32) (i : Nat) : svG g i (83 + i) = g (83 + i) := if_neg (by omega)
theorem vM_mV (d : Nat → Nat → Int32) {c o : Nat} (h : ∀ j, j < 83 → d c (o + j) = d 66 j) : vM d c o = mV d := by
  funext j
  by_cases c9 : j < 83
  · rw [← vM_in d c o c9 rfl, h j c9]
    exact mV_in d c9 rfl
  · rw [vM_out d c o (by omega), mV_out d (by omega)]
theorem vM_same {d d1 : Nat → Nat → Int32} {c o c1 o1 : Nat} (h : ∀ j, j < 83 → d1 c1 (o1 + j) = d c (o + j)) : vM d1 c1 o1 = vM d c o := by
  funext j
  by_cases c9 : j < 83
  · rw [← vM_in d1 c1 o1 c9 rfl, h j c9]
    exact vM_in d c o c9 rfl
  · rw [vM_out d1 c1 o1 (by omega), vM_out d c o (by omega)]
set_option maxRecDepth 100000 in
set_option maxHeartbeats 4000000 in
theorem A_X7_save {d : Nat → Nat → Int32} {r : Nat → Nat → Option Nat} {J : Nat → Nat → Int64} {n : Nat} (h6 : n ≤ 6) (hn : d 65 2 = nI n) : ∃ d1, OP kX7_save yX7_save 1 [.ref 65] d r J none d1 r J ∧ mV d1 = mV d ∧ d1 65 2 = nI (psN n) ∧ (∀ i, i < psN n → vM d1 67 (83 * i) = psH (fun i => vM d 67 (83 * i)) n (mV d) i) ∧ (∀ c, c ≠ 65 → c ≠ 67 → d1 c = d c) ∧ ∀ j, j ≠ 2 → d1 65 j = d 65 j := by
  by_cases hc : n < 6
  · have e1 : psN n = n + 1 := if_pos hc
    have hcp := A_X7_copy (d := d) (r := r) (J := J) (cf := 66) (ct := 67) (f := 0) (t := 83 * n) (by decide) rfl rfl (by omega) (by omega)
    refine ⟨d2 (dup d 67 (cpG (d 66) (d 67) 0 (83 * n) 83)) 65 2 (nI (n + 1)), op_of pl_X7_save (Nat.le_of_ble_eq_true rfl) ?_, ?_, ?_, ?_, ?_, ?_⟩
    ·
      refine sw_aload_n (i := 0) dX7_save_0 rfl rfl ?_
      refine sx_getIE (nI n) hn f_X7_43 (by decide) kf_65_2 dX7_save_1 ?_
      refine sw_bi 6 dX7_save_4 (by decide +kernel) ?_
      refine sw_ic_ne (tgt := 49) dX7_save_6 rfl (fun _ => ?_) (fun h9 => absurd h9 (fun q => absurd ((nI_eq (by omega) (by omega)).mp q) (by omega)))
      refine sw_aload_n (i := 0) dX7_save_49 rfl rfl ?_
      refine sx_getR (q := 66) f_X7_7 (by decide) kr_65_0 dX7_save_50 ?_
      refine sw_ic 0 dX7_save_53 ?_
      refine sw_ins (pc2 := 54) rfl rfl ?_
      refine sw_aload_n (i := 0) dX7_save_54 rfl rfl ?_
      refine sx_getR (q := 67) f_X7_13 (by decide) kr_65_1 dX7_save_55 ?_
      refine sw_bi 83 dX7_save_58 (by decide +kernel) ?_
      refine sw_aload_n (i := 0) dX7_save_60 rfl rfl ?_
      refine sx_getIE (nI n) hn f_X7_43 (by decide) kf_65_2 dX7_save_61 ?_
      refine sw_imul dX7_save_64 ?_
      refine sw_topE (v := nI (83 * n)) (pk_mul _ _) ?_
      refine px_Sv ms_X7_46 hcp rfl rfl (Nat.le_of_ble_eq_true rfl) (Nat.le_of_ble_eq_true rfl) (Nat.le_of_ble_eq_true rfl) dX7_save_65 ?_
      refine sw_aload_n (i := 0) dX7_save_68 rfl rfl ?_
      refine sw_ins (pc2 := 69) rfl rfl ?_
      refine sw_dup dX7_save_69 rfl ?_
      refine sx_getIE (nI n) ((congrFun (dup_ne _ _ (by decide)) _).trans hn) f_X7_43 (by decide) kf_65_2 dX7_save_70 ?_
      refine sw_ic 1 dX7_save_73 ?_
      refine sw_iadd dX7_save_74 ?_
      refine sw_topE (v := nI (n + 1)) (nI_1 n) ?_
      refine sx_putI fp_X7_43 (by decide) kf_65_2 dX7_save_75 ?_
      exact sw_return rfl dX7_save_78
    · refine mV_keep ?_
      rw [d2_off _ _ (by decide), dup_ne _ _ (by decide)]
    · rw [d2_eq, e1]
    · intro i hi
      rw [e1] at hi
      unfold psH
      rw [if_pos hc]
      by_cases ei : i = n
      · rw [if_pos ei]
        subst ei
        refine (vM_same (d := d) (c := 66) (o := 0) (fun j hj => ?_))
        rw [d2_off _ _ (by decide), dup_eq, cpG_in hj rfl]
      · rw [if_neg ei]
        refine vM_same (fun j hj => ?_)
        rw [d2_off _ _ (by decide), dup_eq, cpG_out (Or.inl (by omega))]
    · intro c h1 h2
      rw [d2_off _ _ h1, dup_ne _ _ h2]
    · intro j hj
      rw [d2_ne _ _ (Or.inr hj), dup_ne _ _ (by decide)]
  · have en : n = 6 := by omega
    subst en
    have e1 : psN 6 = 6 := rfl
    obtain ⟨w2, hw2⟩ : ∃ w, w = d2 (dup d 67 (svG (d 67) 415)) 65 2 (nI 5) := ⟨_, rfl⟩
    have q66 : w2 66 = d 66 := by rw [hw2, d2_off _ _ (by decide), dup_ne _ _ (by decide)]
    have q67 : w2 67 = svG (d 67) 415 := by rw [hw2, d2_off _ _ (by decide), dup_eq]
    have q65 : w2 65 2 = nI 5 := by rw [hw2, d2_eq]
    have hcp := A_X7_copy (d := w2) (r := r) (J := J) (cf := 66) (ct := 67) (f := 0) (t := 83 * 5) (by decide) rfl rfl (by omega) (by omega)
    refine ⟨d2 (dup w2 67 (cpG (w2 66) (w2 67) 0 (83 * 5) 83)) 65 2 (nI 6), op_of pl_X7_save (Nat.le_of_ble_eq_true rfl) ?_, ?_, ?_, ?_, ?_, ?_⟩
    ·
      have L : ∀ i, i ≤ 415 → SW yX7_save cX7_save 2 none [] 1 none 11 [some (.ref 65), some (.int (nI i))] [] 75 (W0 (dup d 67 (svG (d 67) i)) r J) 0 0 (.inl none) 75 (W0 (d2 (dup w2 67 (cpG (w2 66) (w2 67) 0 (83 * 5) 83)) 65 2 (nI 6)) r J) := by
        refine am_loop 415 ?_ ?_
        ·
          refine sw_iload_n (i := 1) dX7_save_11 rfl rfl ?_
          refine sw_si 415 dX7_save_12 (by decide +kernel) ?_
          refine sw_ic_ge (tgt := 39) dX7_save_15 rfl (fun _ => ?_) (fun h9 => absurd (nI_le (Nat.le_refl _) (by decide)) h9)
          refine sw_aload_n (i := 0) dX7_save_39 rfl rfl ?_
          refine sw_dup dX7_save_40 rfl ?_
          refine sx_getIE (nI 6) ((congrFun (dup_ne _ _ (by decide)) _).trans hn) f_X7_43 (by decide) kf_65_2 dX7_save_41 ?_
          refine sw_ic 1 dX7_save_44 ?_
          refine sw_ins (pc2 := 45) rfl rfl ?_
          refine sw_isub dX7_save_45 ?_
          refine sw_topE (v := nI 5) (by decide) ?_
          refine sx_putI fp_X7_43 (by decide) kf_65_2 dX7_save_46 ?_
          rw [← hw2]
          refine sw_aload_n (i := 0) dX7_save_49 rfl rfl ?_
          refine sx_getR (q := 66) f_X7_7 (by decide) kr_65_0 dX7_save_50 ?_
          refine sw_ic 0 dX7_save_53 ?_
          refine sw_aload_n (i := 0) dX7_save_54 rfl rfl ?_
          refine sx_getR (q := 67) f_X7_13 (by decide) kr_65_1 dX7_save_55 ?_
          refine sw_bi 83 dX7_save_58 (by decide +kernel) ?_
          refine sw_ins (pc2 := 60) rfl rfl ?_
          refine sw_aload_n (i := 0) dX7_save_60 rfl rfl ?_
          refine sx_getIE (nI 5) q65 f_X7_43 (by decide) kf_65_2 dX7_save_61 ?_
          refine sw_imul dX7_save_64 ?_
          refine sw_topE (v := nI (83 * 5)) (pk_mul _ _) ?_
          refine px_Sv ms_X7_46 hcp rfl rfl (Nat.le_of_ble_eq_true rfl) (Nat.le_of_ble_eq_true rfl) (Nat.le_of_ble_eq_true rfl) dX7_save_65 ?_
          refine sw_aload_n (i := 0) dX7_save_68 rfl rfl ?_
          refine sw_dup dX7_save_69 rfl ?_
          refine sx_getIE (nI 5) ((congrFun (dup_ne _ _ (by decide)) _).trans q65) f_X7_43 (by decide) kf_65_2 dX7_save_70 ?_
          refine sw_ic 1 dX7_save_73 ?_
          refine sw_ins (pc2 := 74) rfl rfl ?_
          refine sw_iadd dX7_save_74 ?_
          refine sw_topE (v := nI 6) (nI_1 5) ?_
          refine sx_putI fp_X7_43 (by decide) kf_65_2 dX7_save_75 ?_
          exact sw_return rfl dX7_save_78
        · intro i hi ih
          refine sw_iload_n (i := 1) dX7_save_11 rfl rfl ?_
          refine sw_si 415 dX7_save_12 (by decide +kernel) ?_
          refine sw_ic_ge (tgt := 39) dX7_save_15 rfl (fun h9 => absurd h9 (nI_ge hi (by decide))) (fun _ => ?_)
          refine sw_aload_n (i := 0) dX7_save_18 rfl rfl ?_
          refine sx_getR (q := 67) f_X7_13 (by decide) kr_65_1 dX7_save_19 ?_
          refine sw_iload_n (i := 1) dX7_save_22 rfl rfl ?_
          refine sw_aload_n (i := 0) dX7_save_23 rfl rfl ?_
          refine sw_ins (pc2 := 24) rfl rfl ?_
          refine sx_getR (q := 67) f_X7_13 (by decide) kr_65_1 dX7_save_24 ?_
          refine sw_bi 83 dX7_save_27 (by decide +kernel) ?_
          refine sw_iload_n (i := 1) dX7_save_29 rfl rfl ?_
          refine sw_iadd dX7_save_30 ?_
          refine sx_ialdE (83 + i) (d 67 (83 + i)) (by rw [dup_eq, svG_at]) rfl (by simp only [nI_add]) (by omega) dX7_save_31 ?_
          refine sx_iast (i) rfl rfl (by omega) dX7_save_32 ?_
          rw [d2_dup, svG_s]
          refine sw_iinc (i := 1) (v := nI (i + 1)) dX7_save_33 rfl (nI_1 _) (Nat.le_of_ble_eq_true rfl) rfl ?_
          refine sw_lo (lo2 := [some (.ref 65), some (.int _)]) rfl ?_
          refine sw_goto (tgt := 11) dX7_save_36 rfl ?_
          exact ih
      refine sw_aload_n (i := 0) dX7_save_0 rfl rfl ?_
      refine sx_getIE (nI 6) hn f_X7_43 (by decide) kf_65_2 dX7_save_1 ?_
      refine sw_bi 6 dX7_save_4 (by decide +kernel) ?_
      refine sw_ic_ne (tgt := 49) dX7_save_6 rfl (fun h9 => absurd rfl h9) (fun _ => ?_)
      refine sw_ic 0 dX7_save_9 ?_
      refine sw_istore_n (i := 1) dX7_save_10 rfl (Nat.le_of_ble_eq_true rfl) rfl ?_
      refine sw_lo (lo2 := [some (.ref 65), some (.int _)]) rfl ?_
      have h := L 0 (Nat.zero_le _)
      rw [svG_0, dup_self] at h
      exact h
    · refine mV_keep ?_
      rw [d2_off _ _ (by decide), dup_ne _ _ (by decide), q66]
    · rw [d2_eq]; rfl
    · intro i hi
      rw [e1] at hi
      unfold psH
      rw [if_neg hc]
      by_cases ei : i = 5
      · rw [if_pos ei]
        subst ei
        refine (vM_same (d := d) (c := 66) (o := 0) (fun j hj => ?_))
        rw [d2_off _ _ (by decide), dup_eq, cpG_in hj rfl, q66]
      · rw [if_neg ei]
        refine vM_same (fun j hj => ?_)
        rw [d2_off _ _ (by decide), dup_eq, cpG_out (Or.inl (by omega)), q67]
        unfold svG
        rw [if_pos (by omega), show 83 + (83 * i + j) = 83 * (i + 1) + j by omega]
    · intro c h1 h2
      rw [d2_off _ _ h1, dup_ne _ _ h2, hw2, d2_off _ _ h1, dup_ne _ _ h2]
    · intro j hj
      rw [d2_ne _ _ (Or.inr hj), dup_ne _ _ (by decide), hw2, d2_ne _ _ (Or.inr hj), dup_ne _ _ (by decide)]
