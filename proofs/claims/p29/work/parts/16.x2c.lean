/-! THE ISLAND, 3: dropPromise, breakPromises, blow, become (own work, written by wip/tools) -/
theorem dup_dup {α : Type} (d : Nat → α) (c : Nat) (f g : α) : dup (dup d c f) c g = dup d c g := by
  funext k
  by_cases e : k = c
  · subst e
    rw [dup_eq, dup_eq]
  · rw [dup_ne _ _ e, dup_ne _ _ e, dup_ne _ _ e]
theorem cV_dup5 (d : Nat → Nat → Int32) (b : Nat) (f : Nat → Int32) : cV (dup d (b + 5) f) b = fun j => if 51 ≤ j ∧ j < 83 then f (j - 51) else cV d b j := by
  funext j
  unfold cV
  rw [dup_eq, dup_ne _ _ (show b ≠ b + 5 by omega), dup_ne _ _ (show b + 1 ≠ b + 5 by omega), dup_ne _ _ (show b + 3 ≠ b + 5 by omega), dup_ne _ _ (show b + 4 ≠ b + 5 by omega)]
  by_cases c5 : 51 ≤ j ∧ j < 83
  · rw [if_pos c5, if_neg (by omega), if_neg (by omega), if_neg (by omega), if_neg (by omega), if_pos c5.2]
  · rw [if_neg c5]
    by_cases c4 : j < 51
    · rw [if_pos c4, if_pos c4]
    · have c6 : ¬ j < 83 := fun h => c5 ⟨by omega, h⟩
      rw [if_neg c6, if_neg c6]
theorem cV_dup1 (d : Nat → Nat → Int32) (b : Nat) (f : Nat → Int32) : cV (dup d (b + 1) f) b = fun j => if 19 ≤ j ∧ j < 51 then f (j - 19) else cV d b j := by
  funext j
  unfold cV
  rw [dup_eq, dup_ne _ _ (show b ≠ b + 1 by omega), dup_ne _ _ (show b + 5 ≠ b + 1 by omega), dup_ne _ _ (show b + 3 ≠ b + 1 by omega), dup_ne _ _ (show b + 4 ≠ b + 1 by omega)]
  by_cases c5 : 19 ≤ j ∧ j < 51
  · rw [if_pos c5, if_neg (by omega), if_neg (by omega), if_neg (by omega), if_pos c5.2]
  · rw [if_neg c5]
    by_cases c3 : j < 19
    · rw [if_pos c3, if_pos c3]
    · have c6 : ¬ j < 51 := fun h => c5 ⟨by omega, h⟩
      rw [if_neg c6, if_neg c6]
theorem drp_many {V : Nat → Int32} (h : okMany V) (q : Nat) : okMany (drp V q) ∧ nv (drp V q) 1 = nv V 1 - 1 := by
  have h2 := h.2
  have e : nv (drp V q) 1 = nv V 1 - 1 := by
    show (drp V q 1).toNatClampNeg = _
    unfold drp
    rw [if_pos rfl, nI_clamp (by omega)]
  exact ⟨⟨by rw [e]; unfold drp; rw [if_pos rfl], by rw [e]; omega⟩, e⟩
def pr : Nat → Int32
  | 0 => -1
  | k + 1 => nI k
theorem pr_dec : ∀ k, nI k + Int32.ofInt (-1) = pr k
  | 0 => by decide
  | k + 1 => pk_m1 k
theorem pr_sub : ∀ k, nI k - nI 1 = pr k
  | 0 => by decide
  | k + 1 => nI_pred k
/-- breakPromises: the view then, how many are broken -/
def brs (V : Nat → Int32) : Nat → Int32 := upd (brk V).1 4 ((brk V).1 4 + nI (brk V).2)
theorem brkG_s (k : Nat) (V : Nat → Int32) (n : Nat) : brkG (k + 1) V n = if V (51 + (k * 4 + 3)) < V 0 then brkG k (drp V k) (n + 1) else brkG k V n := rfl

set_option maxRecDepth 100000 in
set_option maxHeartbeats 4000000 in
theorem A_X2_dropPromise {d : Nat → Nat → Int32} {r : Nat → Nat → Option Nat} {J : Nat → Nat → Int64} {b q : Nat} (hb : isB b) (ok : okMany (cV d b)) (hq : q < nv (cV d b) 1) : ∃ d1, OP kX2_dropPromise yX2_dropPromise 1 [.ref b, .int (nI q)] d r J none d1 r J ∧ cV d1 b = drp (cV d b) q ∧ ∀ c, c ≠ b → c ≠ b + 5 → d1 c = d c := by
  have okm := ok.2
  have n5 : b ≠ b + 5 := by omega
  refine ⟨_, op_of pl_X2_dropPromise (Nat.le_of_ble_eq_true rfl) (by
    refine sw_aload_n (i := 0) dX2_dropPromise_0 rfl rfl ?_
    refine sw_iload_n (i := 1) dX2_dropPromise_1 rfl rfl ?_
    refine px_Vx mv_X2_91 (A1_X2_isPromise hb ok hq) rfl rfl (Nat.le_of_ble_eq_true rfl) (Nat.le_of_ble_eq_true rfl) (kO_B hb) (Nat.le_of_ble_eq_true rfl) dX2_dropPromise_2 ?_
    refine sw_if_eq (tgt := 47) dX2_dropPromise_5 rfl (fun h9 => absurd h9 (by decide)) (fun _ => ?_)
    refine sw_iload_n (i := 1) dX2_dropPromise_8 rfl rfl ?_
    refine sw_ic 1 dX2_dropPromise_9 ?_
    refine sw_iadd dX2_dropPromise_10 ?_
    refine sw_ins (pc2 := 11) rfl rfl ?_
    refine sw_ic 4 dX2_dropPromise_11 ?_
    refine sw_imul dX2_dropPromise_12 ?_
    refine sw_topE (v := nI ((q + 1) * 4)) (by simp only [nI_add, pk_mul]) ?_
    refine sw_istore_n (i := 2) dX2_dropPromise_13 rfl (Nat.le_of_ble_eq_true rfl) rfl ?_
    refine sw_lo (lo2 := [some (.ref b), some (.int _), some (.int _)]) rfl ?_
    refine sw_aload_n (i := 0) dX2_dropPromise_14 rfl rfl ?_
    refine sx_getR (q := b + 5) f_X2_24 (kt_lt hb.1) (kR_B hb (j := 4) (by decide)) dX2_dropPromise_15 ?_
    refine sw_iload_n (i := 2) dX2_dropPromise_18 rfl rfl ?_
    refine sw_aload_n (i := 0) dX2_dropPromise_19 rfl rfl ?_
    refine sx_getR (q := b + 5) f_X2_24 (kt_lt hb.1) (kR_B hb (j := 4) (by decide)) dX2_dropPromise_20 ?_
    refine sw_ins (pc2 := 23) rfl rfl ?_
    refine sw_iload_n (i := 1) dX2_dropPromise_23 rfl rfl ?_
    refine sw_ic 4 dX2_dropPromise_24 ?_
    refine sw_imul dX2_dropPromise_25 ?_
    refine sw_aload_n (i := 0) dX2_dropPromise_26 rfl rfl ?_
    refine sx_getIE (nI (nv (cV d b) 1)) ((cV_many d b).trans ok.1) f_X2_37 (kt_lt hb.1) (kF_B hb (j := 5) (by decide) (by decide)) dX2_dropPromise_27 ?_
    refine sw_ic 4 dX2_dropPromise_30 ?_
    refine sw_imul dX2_dropPromise_31 ?_
    refine sw_iload_n (i := 2) dX2_dropPromise_32 rfl rfl ?_
    refine sw_ins (pc2 := 33) rfl rfl ?_
    refine sw_isub dX2_dropPromise_33 ?_
    refine sw_topE (v := nI (nv (cV d b) 1 * 4 - (q + 1) * 4)) (by simp only [nI_add, pk_mul]; exact pk_sub (by omega)) ?_
    refine sx_copy cp_X2_31 ((q + 1) * 4) (q * 4) (nv (cV d b) 1 * 4 - (q + 1) * 4) hb.2.2.2.2.2 hb.2.2.2.2.2 rfl (by simp only [nI_add, pk_mul]) rfl (by omega) (by omega) (Nat.le_of_ble_eq_true rfl) dX2_dropPromise_34 ?_
    refine sw_aload_n (i := 0) dX2_dropPromise_37 rfl rfl ?_
    refine sw_dup dX2_dropPromise_38 rfl ?_
    refine sx_getIE (nI (nv (cV d b) 1)) (by rw [dup_ne _ _ n5]; exact (cV_many d b).trans ok.1) f_X2_37 (kt_lt hb.1) (kF_B hb (j := 5) (by decide) (by decide)) dX2_dropPromise_39 ?_
    refine sw_ic 1 dX2_dropPromise_42 ?_
    refine sw_isub dX2_dropPromise_43 ?_
    refine sw_topE (v := nI (nv (cV d b) 1 - 1)) (pk_sub (by omega)) ?_
    refine sx_putI fp_X2_37 (kt_lt hb.1) (kF_B hb (j := 5) (by decide) (by decide)) dX2_dropPromise_44 ?_
    refine sw_ins (pc2 := 47) rfl rfl ?_
    exact sw_return rfl dX2_dropPromise_47), ?_, ?_⟩
  · rw [cV_d2f _ b _ (by decide) (by decide), cV_dup5]
    funext j
    show upd _ 1 _ j = _
    unfold drp
    by_cases e1 : j = 1
    · subst e1
      rw [upd_eq, if_pos rfl]
    · rw [upd_ne _ _ e1, if_neg e1]
      by_cases e2 : 51 + q * 4 ≤ j ∧ j < 51 + (nv (cV d b) 1 - 1) * 4
      · rw [if_pos e2, if_pos (by omega), pk_cpy_in (by omega) (by omega)]
        exact cV_part d b (by omega) (by omega)
      · rw [if_neg e2]
        by_cases e3 : 51 ≤ j ∧ j < 83
        · rw [if_pos e3, pk_cpy_out (by omega)]
          exact cV_part d b (by omega) (by omega)
        · rw [if_neg e3]
  · intro c hc hc2
    rw [d2_off _ _ hc, dup_ne _ _ hc2]
set_option maxRecDepth 100000 in
set_option maxHeartbeats 4000000 in
theorem B_X2_breakPromises {r : Nat → Nat → Option Nat} {J : Nat → Nat → Int64} {b : Nat} (hb : isB b) : ∀ (k : Nat) (d : Nat → Nat → Int32) (n : Nat), okMany (cV d b) → k ≤ nv (cV d b) 1 → ∃ d1, SW yX2_breakPromises cX2_breakPromises 3 (some .int) [] 2 none 9 [some (.ref b), some (.int (nI n)), some (.int (pr k))] [] 65 (W0 d r J) 0 0 (.inl (some (.int (nI (brkG k (cV d b) n).2)))) 65 (W0 d1 r J) ∧ cV d1 b = upd (brkG k (cV d b) n).1 4 ((brkG k (cV d b) n).1 4 + nI (brkG k (cV d b) n).2) ∧ ∀ c, c ≠ b → c ≠ b + 5 → d1 c = d c := by
  intro k
  induction k with
  | zero =>
    intro d n ok hk
    refine ⟨_, (by
        refine sw_iload_n (i := 2) dX2_breakPromises_9 rfl rfl ?_
        refine sw_if_lt (tgt := 40) dX2_breakPromises_10 rfl (fun _ => ?_) (fun h9 => absurd (by decide) h9)
        refine sw_aload_n (i := 0) dX2_breakPromises_40 rfl rfl ?_
        refine sw_dup dX2_breakPromises_41 rfl ?_
        refine sx_getI f_X2_53 (kt_lt hb.1) (kF_B hb (j := 10) (by decide) (by decide)) dX2_breakPromises_42 ?_
        refine sw_iload_n (i := 1) dX2_breakPromises_45 rfl rfl ?_
        refine sw_iadd dX2_breakPromises_46 ?_
        refine sw_ins (pc2 := 47) rfl rfl ?_
        refine sx_putI fp_X2_53 (kt_lt hb.1) (kF_B hb (j := 10) (by decide) (by decide)) dX2_breakPromises_47 ?_
        refine sw_iload_n (i := 1) dX2_breakPromises_50 rfl rfl ?_
        exact sw_ireturn rfl dX2_breakPromises_51), ?_, ?_⟩
    · rw [cV_d2f _ b _ (by decide) (by decide)]
      rfl
    · intro c hc hc2
      rw [d2_off _ _ hc]
  | succ k ih =>
    intro d n ok hk
    have okm := ok.2
    by_cases hlt : cV d b (51 + (k * 4 + 3)) < cV d b 0
    · obtain ⟨d2, g1, g2, g3⟩ := A_X2_dropPromise (r := r) (J := J) (q := k) hb ok (by omega)
      have hdm := drp_many ok k
      obtain ⟨d1, f1, f2, f3⟩ := ih d2 (n + 1) (by rw [g2]; exact hdm.1) (by rw [g2, hdm.2]; omega)
      rw [g2] at f1 f2
      rw [brkG_s, if_pos hlt]
      refine ⟨d1, ?_, f2, fun c hc hc2 => (f3 c hc hc2).trans (g3 c hc hc2)⟩
      refine sw_iload_n (i := 2) dX2_breakPromises_9 rfl rfl ?_
      refine sw_if_lt (tgt := 40) dX2_breakPromises_10 rfl (fun h9 => absurd h9 (nI_pos (by omega))) (fun _ => ?_)
      refine sw_aload_n (i := 0) dX2_breakPromises_13 rfl rfl ?_
      refine sw_iload_n (i := 2) dX2_breakPromises_14 rfl rfl ?_
      refine sw_ic 3 dX2_breakPromises_15 ?_
      refine px_Vx mv_X2_84 (A_X2_partOf (a := k) (c := 3) hb ok (by omega) (by omega)) rfl rfl (Nat.le_of_ble_eq_true rfl) (Nat.le_of_ble_eq_true rfl) (kO_B hb) (Nat.le_of_ble_eq_true rfl) dX2_breakPromises_16 ?_
      refine sw_aload_n (i := 0) dX2_breakPromises_19 rfl rfl ?_
      refine sw_ins (pc2 := 20) rfl rfl ?_
      refine sx_getIE (cV d b 0) (cV_day d b) f_X2_41 (kt_lt hb.1) (kF_B hb (j := 6) (by decide) (by decide)) dX2_breakPromises_20 ?_
      refine sw_ic_ge (tgt := 34) dX2_breakPromises_23 rfl (fun h9 => absurd h9 (Int32.not_le.mpr hlt)) (fun _ => ?_)
      refine sw_aload_n (i := 0) dX2_breakPromises_26 rfl rfl ?_
      refine sw_iload_n (i := 2) dX2_breakPromises_27 rfl rfl ?_
      refine px_Vv mv_X2_87 g1 rfl rfl (Nat.le_of_ble_eq_true rfl) (Nat.le_of_ble_eq_true rfl) (kO_B hb) (Nat.le_of_ble_eq_true rfl) dX2_breakPromises_28 ?_
      refine sw_iinc (i := 1) (v := nI (n + 1)) dX2_breakPromises_31 rfl (nI_1 _) (Nat.le_of_ble_eq_true rfl) rfl ?_
      refine sw_lo (lo2 := [some (.ref b), some (.int _), some (.int _)]) rfl ?_
      refine sw_iinc (i := 2) (v := pr k) dX2_breakPromises_34 rfl (pr_dec k) (Nat.le_of_ble_eq_true rfl) rfl ?_
      refine sw_lo (lo2 := [some (.ref b), some (.int _), some (.int _)]) rfl ?_
      refine sw_goto (tgt := 9) dX2_breakPromises_37 rfl ?_
      exact f1
    · obtain ⟨d1, f1, f2, f3⟩ := ih d n ok (by omega)
      rw [brkG_s, if_neg hlt]
      refine ⟨d1, ?_, f2, f3⟩
      refine sw_iload_n (i := 2) dX2_breakPromises_9 rfl rfl ?_
      refine sw_if_lt (tgt := 40) dX2_breakPromises_10 rfl (fun h9 => absurd h9 (nI_pos (by omega))) (fun _ => ?_)
      refine sw_aload_n (i := 0) dX2_breakPromises_13 rfl rfl ?_
      refine sw_iload_n (i := 2) dX2_breakPromises_14 rfl rfl ?_
      refine sw_ic 3 dX2_breakPromises_15 ?_
      refine px_Vx mv_X2_84 (A_X2_partOf (a := k) (c := 3) hb ok (by omega) (by omega)) rfl rfl (Nat.le_of_ble_eq_true rfl) (Nat.le_of_ble_eq_true rfl) (kO_B hb) (Nat.le_of_ble_eq_true rfl) dX2_breakPromises_16 ?_
      refine sw_aload_n (i := 0) dX2_breakPromises_19 rfl rfl ?_
      refine sw_ins (pc2 := 20) rfl rfl ?_
      refine sx_getIE (cV d b 0) (cV_day d b) f_X2_41 (kt_lt hb.1) (kF_B hb (j := 6) (by decide) (by decide)) dX2_breakPromises_20 ?_
      refine sw_ic_ge (tgt := 34) dX2_breakPromises_23 rfl (fun _ => ?_) (fun h9 => absurd (Int32.not_lt.mp hlt) h9)
      refine sw_iinc (i := 2) (v := pr k) dX2_breakPromises_34 rfl (pr_dec k) (Nat.le_of_ble_eq_true rfl) rfl ?_
      refine sw_lo (lo2 := [some (.ref b), some (.int _), some (.int _)]) rfl ?_
      refine sw_goto (tgt := 9) dX2_breakPromises_37 rfl ?_
      exact f1
set_option maxRecDepth 100000 in
set_option maxHeartbeats 4000000 in
theorem A_X2_breakPromises {d : Nat → Nat → Int32} {r : Nat → Nat → Option Nat} {J : Nat → Nat → Int64} {b : Nat} (hb : isB b) (ok : okMany (cV d b)) : ∃ d1, OP kX2_breakPromises yX2_breakPromises 2 [.ref b] d r J (some (.int (nI (brk (cV d b)).2))) d1 r J ∧ cV d1 b = brs (cV d b) ∧ ∀ c, c ≠ b → c ≠ b + 5 → d1 c = d c := by
  obtain ⟨d1, f1, f2, f3⟩ := B_X2_breakPromises (r := r) (J := J) hb (nv (cV d b) 1) d 0 ok (Nat.le_refl _)
  refine ⟨d1, op_of pl_X2_breakPromises (Nat.le_of_ble_eq_true rfl) ?_, f2, f3⟩
  · skip
    refine sw_ic 0 dX2_breakPromises_0 ?_
    refine sw_istore_n (i := 1) dX2_breakPromises_1 rfl (Nat.le_of_ble_eq_true rfl) rfl ?_
    refine sw_lo (lo2 := [some (.ref b), some (.int _), none]) rfl ?_
    refine sw_aload_n (i := 0) dX2_breakPromises_2 rfl rfl ?_
    refine sx_getIE (nI (nv (cV d b) 1)) ((cV_many d b).trans ok.1) f_X2_37 (kt_lt hb.1) (kF_B hb (j := 5) (by decide) (by decide)) dX2_breakPromises_3 ?_
    refine sw_ic 1 dX2_breakPromises_6 ?_
    refine sw_isub dX2_breakPromises_7 ?_
    refine sw_topE (v := pr (nv (cV d b) 1)) (pr_sub _) ?_
    refine sw_istore_n (i := 2) dX2_breakPromises_8 rfl (Nat.le_of_ble_eq_true rfl) rfl ?_
    refine sw_lo (lo2 := [some (.ref b), some (.int _), some (.int _)]) rfl ?_
    exact f1
def mvd (d : Nat → Nat → Int32) (b : Nat) : Nat → (Nat → Int32)
  | 0 => d (b + 2)
  | i + 1 => va_cpy (d (b + 1)) (mvd d b i) (i * 4) (pth (cV d b) i * 4) 4
theorem mvd_at {d : Nat → Nat → Int32} {b : Nat} (ok : okPath (cV d b)) {x : Nat} (hx : x < 32) : ∀ i, i ≤ 8 → mvd d b i x = if snd (cV d b) (x / 4) < i then d (b + 1) (snd (cV d b) (x / 4) * 4 + x % 4) else d (b + 2) x
  | 0, _ => by rw [if_neg (by omega)]; rfl
  | i + 1, hi => by
    have ih := mvd_at ok hx i (by omega)
    obtain ⟨s1, s2⟩ := snd_spec ok (i := x / 4) (by omega)
    show va_cpy (d (b + 1)) (mvd d b i) (i * 4) (pth (cV d b) i * 4) 4 x = _
    by_cases e : snd (cV d b) (x / 4) = i
    · rw [e] at s1 s2 ⊢
      rw [if_pos (by omega), pk_cpy_in (by omega) (by omega)]
      congr 1
      omega
    · have hne : pth (cV d b) i ≠ x / 4 := fun q => e (ok.2 _ _ s2 (by omega) (s1.trans q.symm))
      rw [pk_cpy_out (by omega), ih]
      by_cases e2 : snd (cV d b) (x / 4) < i
      · rw [if_pos e2, if_pos (by omega)]
      · rw [if_neg e2, if_neg (by omega)]
theorem stm_many {V : Nat → Int32} (h : okMany V) : okMany (stm V) ∧ nv (stm V) 1 = nv V 1 := ⟨h, rfl⟩

set_option maxRecDepth 100000 in
set_option maxHeartbeats 4000000 in
theorem A_X2_blow {d : Nat → Nat → Int32} {r : Nat → Nat → Option Nat} {J : Nat → Nat → Int64} {b : Nat} (hb : isB b) (ok : okPath (cV d b)) (ok2 : okMany (cV d b)) : ∃ d1, OP kX2_blow yX2_blow 3 [.ref b] d r J (some (.int (nI (brk (stm (cV d b))).2))) d1 r J ∧ cV d1 b = brs (stm (cV d b)) ∧ ∀ c, c ≠ b → c ≠ b + 1 → c ≠ b + 2 → c ≠ b + 5 → d1 c = d c := by
  have okm := ok2.2
  have n2 : b + 4 ≠ b + 2 := by omega
  have n1 : b + 1 ≠ b + 2 := by omega
  obtain ⟨e1, he1⟩ : ∃ e1, e1 = d2 (dup (dup d (b + 2) (mvd d b 8)) (b + 1) (va_cpy (mvd d b 8) (d (b + 1)) 0 0 32)) b 6 (d b 6 + nI 1) := ⟨_, rfl⟩
  have hV : cV e1 b = stm (cV d b) := by
    rw [he1, cV_d2f _ b _ (by decide) (by decide), cV_dup1]
    funext j
    show upd _ 0 _ j = _
    unfold stm
    by_cases c0 : j = 0
    · subst c0
      rw [upd_eq, if_pos rfl]
      rfl
    · rw [upd_ne _ _ c0, if_neg c0]
      by_cases c1 : 19 ≤ j ∧ j < 51
      · rw [if_pos c1, if_pos c1, sb_cpy0 (by omega), mvd_at ok (by omega) 8 (Nat.le_refl _)]
        obtain ⟨s1, s2⟩ := snd_spec ok (i := (j - 19) / 4) (by omega)
        rw [if_pos s2]
        exact cV_caps d b (by omega) rfl
      · rw [if_neg c1, if_neg c1, cV_keep (d1 := dup d (b + 2) (mvd d b 8)) (d := d) (fun c hc => dup_ne _ _ (by omega))]
  have hfr : ∀ c, c ≠ b → c ≠ b + 1 → c ≠ b + 2 → c ≠ b + 5 → e1 c = d c := by
    intro c h0 h1 h2 h5
    rw [he1, d2_off _ _ h0, dup_ne _ _ h1, dup_ne _ _ h2]
  obtain ⟨d1, f1, f2, f3⟩ := A_X2_breakPromises (d := e1) (r := r) (J := J) hb (by rw [hV]; exact (stm_many ok2).1)
  rw [hV] at f1 f2
  refine ⟨d1, op_of pl_X2_blow (Nat.le_of_ble_eq_true rfl) ?_, f2, fun c h0 h1 h2 h5 => (f3 c h0 h5).trans (hfr c h0 h1 h2 h5)⟩
  have L : ∀ i, i ≤ 8 → SW yX2_blow cX2_blow 3 (some .int) [] 3 none 2 [some (.ref b), some (.int (nI i)), none] [] 65 (W0 (dup d (b + 2) (mvd d b i)) r J) 0 0 (.inl (some (.int (nI (brk (stm (cV d b))).2)))) 65 (W0 d1 r J) := by
    refine am_loop 8 ?_ ?_
    ·
      refine sw_iload_n (i := 1) dX2_blow_2 rfl rfl ?_
      refine sw_bi 8 dX2_blow_3 (by decide +kernel) ?_
      refine sw_ic_ge (tgt := 45) dX2_blow_5 rfl (fun _ => ?_) (fun h9 => absurd (nI_le (Nat.le_refl _) (by decide)) h9)
      refine sw_aload_n (i := 0) dX2_blow_45 rfl rfl ?_
      refine sx_getR (q := b + 2) f_X2_15 (kt_lt hb.1) (kR_B hb (j := 1) (by decide)) dX2_blow_46 ?_
      refine sw_ic 0 dX2_blow_49 ?_
      refine sw_aload_n (i := 0) dX2_blow_50 rfl rfl ?_
      refine sw_ins (pc2 := 51) rfl rfl ?_
      refine sx_getR (q := b + 1) f_X2_9 (kt_lt hb.1) (kR_B hb (j := 0) (by decide)) dX2_blow_51 ?_
      refine sw_ic 0 dX2_blow_54 ?_
      refine sw_bi 32 dX2_blow_55 (by decide +kernel) ?_
      refine sx_copy cp_X2_31 (0) (0) (32) hb.2.2.1 hb.2.1 rfl rfl rfl (by omega) (by omega) (Nat.le_of_ble_eq_true rfl) dX2_blow_57 ?_
      refine sw_aload_n (i := 0) dX2_blow_60 rfl rfl ?_
      refine sw_dup dX2_blow_61 rfl ?_
      refine sx_getIE (d b 6) (by rw [dup_ne _ _ (by omega), dup_ne _ _ (by omega)]) f_X2_41 (kt_lt hb.1) (kF_B hb (j := 6) (by decide) (by decide)) dX2_blow_62 ?_
      refine sw_ic 1 dX2_blow_65 ?_
      refine sw_ins (pc2 := 66) rfl rfl ?_
      refine sw_iadd dX2_blow_66 ?_
      refine sx_putI fp_X2_41 (kt_lt hb.1) (kF_B hb (j := 6) (by decide) (by decide)) dX2_blow_67 ?_
      rw [dup_eq, dup_ne _ _ n1, ← he1]
      refine sw_aload_n (i := 0) dX2_blow_70 rfl rfl ?_
      refine px_Vx mv_X2_80 f1 rfl rfl (Nat.le_of_ble_eq_true rfl) (Nat.le_of_ble_eq_true rfl) (kO_B hb) (Nat.le_of_ble_eq_true rfl) dX2_blow_71 ?_
      exact sw_ireturn rfl dX2_blow_74
    · intro i hi ih
      have hpl := (ok.1 i hi).2
      refine sw_iload_n (i := 1) dX2_blow_2 rfl rfl ?_
      refine sw_bi 8 dX2_blow_3 (by decide +kernel) ?_
      refine sw_ic_ge (tgt := 45) dX2_blow_5 rfl (fun h9 => absurd h9 (nI_ge hi (by decide))) (fun _ => ?_)
      refine sw_aload_n (i := 0) dX2_blow_8 rfl rfl ?_
      refine sw_iload_n (i := 1) dX2_blow_9 rfl rfl ?_
      have hle : OP kX2_leadsTo yX2_leadsTo 1 [.ref b, .int (nI i)] (dup d (b + 2) (mvd d b i)) r J (some (.int (nI (pth (cV d b) i)))) (dup d (b + 2) (mvd d b i)) r J := by
        have h9 := A_X2_leadsTo (d := dup d (b + 2) (mvd d b i)) (r := r) (J := J) hb hi
        rw [cV_keep (d1 := dup d (b + 2) (mvd d b i)) (d := d) (fun c hc => dup_ne _ _ (by omega)), (ok.1 i hi).1] at h9
        exact h9
      refine px_Vx mv_X2_77 hle rfl rfl (Nat.le_of_ble_eq_true rfl) (Nat.le_of_ble_eq_true rfl) (kO_B hb) (Nat.le_of_ble_eq_true rfl) dX2_blow_10 ?_
      refine sw_istore_n (i := 2) dX2_blow_13 rfl (Nat.le_of_ble_eq_true rfl) rfl ?_
      refine sw_lo (lo2 := [some (.ref b), some (.int _), some (.int _)]) rfl ?_
      refine sw_ins (pc2 := 14) rfl rfl ?_
      refine sw_iload_n (i := 2) dX2_blow_14 rfl rfl ?_
      refine px_Sx ms_X2_59 (A1_X2_isIslander hpl) rfl rfl (Nat.le_of_ble_eq_true rfl) (Nat.le_of_ble_eq_true rfl) (Nat.le_of_ble_eq_true rfl) dX2_blow_15 ?_
      refine sw_if_eq (tgt := 39) dX2_blow_18 rfl (fun h9 => absurd h9 (by decide)) (fun _ => ?_)
      refine sw_aload_n (i := 0) dX2_blow_21 rfl rfl ?_
      refine sx_getR (q := b + 1) f_X2_9 (kt_lt hb.1) (kR_B hb (j := 0) (by decide)) dX2_blow_22 ?_
      refine sw_iload_n (i := 1) dX2_blow_25 rfl rfl ?_
      refine sw_ic 4 dX2_blow_26 ?_
      refine sw_imul dX2_blow_27 ?_
      refine sw_ins (pc2 := 28) rfl rfl ?_
      refine sw_aload_n (i := 0) dX2_blow_28 rfl rfl ?_
      refine sx_getR (q := b + 2) f_X2_15 (kt_lt hb.1) (kR_B hb (j := 1) (by decide)) dX2_blow_29 ?_
      refine sw_iload_n (i := 2) dX2_blow_32 rfl rfl ?_
      refine sw_ic 4 dX2_blow_33 ?_
      refine sw_imul dX2_blow_34 ?_
      refine sw_ic 4 dX2_blow_35 ?_
      refine sx_copy cp_X2_31 (i * 4) ((pth (cV d b) i) * 4) (4) hb.2.1 hb.2.2.1 (by simp only [nI_add, pk_mul]) (by simp only [nI_add, pk_mul]) rfl (by omega) (by omega) (Nat.le_of_ble_eq_true rfl) dX2_blow_36 ?_
      refine sw_iinc (i := 1) (v := nI (i + 1)) dX2_blow_39 rfl (nI_1 _) (Nat.le_of_ble_eq_true rfl) rfl ?_
      refine sw_lo (lo2 := [some (.ref b), some (.int _), some (.int _)]) rfl ?_
      refine sw_ins (pc2 := 42) rfl rfl ?_
      refine sw_goto (tgt := 2) dX2_blow_42 rfl ?_
      rw [dup_dup, dup_eq, dup_ne _ _ n1]
      refine sw_sub ?_ ih
      exact ⟨rfl, rfl, trivial⟩
  refine sw_ic 0 dX2_blow_0 ?_
  refine sw_istore_n (i := 1) dX2_blow_1 rfl (Nat.le_of_ble_eq_true rfl) rfl ?_
  refine sw_lo (lo2 := [some (.ref b), some (.int _), none]) rfl ?_
  have L0 := L 0 (Nat.zero_le _)
  have e0 : dup d (b + 2) (mvd d b 0) = d := by
    funext c
    by_cases q : c = b + 2
    · subst q; rw [dup_eq]; rfl
    · rw [dup_ne _ _ q]
  rw [e0] at L0
  exact L0
set_option maxRecDepth 100000 in
set_option maxHeartbeats 4000000 in
theorem A_X2_become {d : Nat → Nat → Int32} {r : Nat → Nat → Option Nat} {J : Nat → Nat → Int64} {b e : Nat} (hb : isB b) (he : isB e) (hne : b ≠ e) : ∃ d1, OP kX2_become yX2_become 1 [.ref b, .ref e] d r J none d1 r J ∧ cV d1 b = cV d e ∧ ∀ c, c ≠ b → c ≠ b + 1 → c ≠ b + 3 → c ≠ b + 4 → c ≠ b + 5 → d1 c = d c := by
  have ap := isB_apart hb he hne
  refine ⟨_, op_of pl_X2_become (Nat.le_of_ble_eq_true rfl) (by
    refine sw_aload_n (i := 1) dX2_become_0 rfl rfl ?_
    refine sx_getR (q := e + 1) f_X2_9 (kt_lt he.1) (kR_B he (j := 0) (by decide)) dX2_become_1 ?_
    refine sw_ic 0 dX2_become_4 ?_
    refine sw_aload_n (i := 0) dX2_become_5 rfl rfl ?_
    refine sx_getR (q := b + 1) f_X2_9 (kt_lt hb.1) (kR_B hb (j := 0) (by decide)) dX2_become_6 ?_
    refine sw_ic 0 dX2_become_9 ?_
    refine sw_bi 32 dX2_become_10 (by decide +kernel) ?_
    refine sw_ins (pc2 := 12) rfl rfl ?_
    refine sx_copy cp_X2_31 (0) (0) (32) he.2.1 hb.2.1 rfl rfl rfl (by decide) (by decide) (Nat.le_of_ble_eq_true rfl) dX2_become_12 ?_
    refine sw_aload_n (i := 1) dX2_become_15 rfl rfl ?_
    refine sx_getR (q := e + 3) f_X2_18 (kt_lt he.1) (kR_B he (j := 2) (by decide)) dX2_become_16 ?_
    refine sw_ic 0 dX2_become_19 ?_
    refine sw_aload_n (i := 0) dX2_become_20 rfl rfl ?_
    refine sx_getR (q := b + 3) f_X2_18 (kt_lt hb.1) (kR_B hb (j := 2) (by decide)) dX2_become_21 ?_
    refine sw_ic 0 dX2_become_24 ?_
    refine sw_ic 4 dX2_become_25 ?_
    refine sw_ins (pc2 := 26) rfl rfl ?_
    refine sx_copy cp_X2_31 (0) (0) (4) he.2.2.2.1 hb.2.2.2.1 rfl rfl rfl (by decide) (by decide) (Nat.le_of_ble_eq_true rfl) dX2_become_26 ?_
    refine sw_aload_n (i := 1) dX2_become_29 rfl rfl ?_
    refine sx_getR (q := e + 4) f_X2_21 (kt_lt he.1) (kR_B he (j := 3) (by decide)) dX2_become_30 ?_
    refine sw_ic 0 dX2_become_33 ?_
    refine sw_aload_n (i := 0) dX2_become_34 rfl rfl ?_
    refine sx_getR (q := b + 4) f_X2_21 (kt_lt hb.1) (kR_B hb (j := 3) (by decide)) dX2_become_35 ?_
    refine sw_ic 0 dX2_become_38 ?_
    refine sw_bi 8 dX2_become_39 (by decide +kernel) ?_
    refine sw_ins (pc2 := 41) rfl rfl ?_
    refine sx_copy cp_X2_31 (0) (0) (8) he.2.2.2.2.1 hb.2.2.2.2.1 rfl rfl rfl (by decide) (by decide) (Nat.le_of_ble_eq_true rfl) dX2_become_41 ?_
    refine sw_aload_n (i := 1) dX2_become_44 rfl rfl ?_
    refine sx_getR (q := e + 5) f_X2_24 (kt_lt he.1) (kR_B he (j := 4) (by decide)) dX2_become_45 ?_
    refine sw_ic 0 dX2_become_48 ?_
    refine sw_aload_n (i := 0) dX2_become_49 rfl rfl ?_
    refine sx_getR (q := b + 5) f_X2_24 (kt_lt hb.1) (kR_B hb (j := 4) (by decide)) dX2_become_50 ?_
    refine sw_ic 0 dX2_become_53 ?_
    refine sw_bi 32 dX2_become_54 (by decide +kernel) ?_
    refine sw_ins (pc2 := 56) rfl rfl ?_
    refine sx_copy cp_X2_31 (0) (0) (32) he.2.2.2.2.2 hb.2.2.2.2.2 rfl rfl rfl (by decide) (by decide) (Nat.le_of_ble_eq_true rfl) dX2_become_56 ?_
    refine sw_aload_n (i := 0) dX2_become_59 rfl rfl ?_
    refine sw_aload_n (i := 1) dX2_become_60 rfl rfl ?_
    refine sx_getI f_X2_37 (kt_lt he.1) (kF_B he (j := 5) (by decide) (by decide)) dX2_become_61 ?_
    refine sx_putI fp_X2_37 (kt_lt hb.1) (kF_B hb (j := 5) (by decide) (by decide)) dX2_become_64 ?_
    refine sw_aload_n (i := 0) dX2_become_67 rfl rfl ?_
    refine sw_aload_n (i := 1) dX2_become_68 rfl rfl ?_
    refine sx_getI f_X2_41 (kt_lt he.1) (kF_B he (j := 6) (by decide) (by decide)) dX2_become_69 ?_
    refine sw_ins (pc2 := 72) rfl rfl ?_
    refine sx_putI fp_X2_41 (kt_lt hb.1) (kF_B hb (j := 6) (by decide) (by decide)) dX2_become_72 ?_
    refine sw_aload_n (i := 0) dX2_become_75 rfl rfl ?_
    refine sw_aload_n (i := 1) dX2_become_76 rfl rfl ?_
    refine sx_getI f_X2_44 (kt_lt he.1) (kF_B he (j := 7) (by decide) (by decide)) dX2_become_77 ?_
    refine sx_putI fp_X2_44 (kt_lt hb.1) (kF_B hb (j := 7) (by decide) (by decide)) dX2_become_80 ?_
    refine sw_aload_n (i := 0) dX2_become_83 rfl rfl ?_
    refine sw_aload_n (i := 1) dX2_become_84 rfl rfl ?_
    refine sx_getI f_X2_47 (kt_lt he.1) (kF_B he (j := 8) (by decide) (by decide)) dX2_become_85 ?_
    refine sw_ins (pc2 := 88) rfl rfl ?_
    refine sx_putI fp_X2_47 (kt_lt hb.1) (kF_B hb (j := 8) (by decide) (by decide)) dX2_become_88 ?_
    refine sw_aload_n (i := 0) dX2_become_91 rfl rfl ?_
    refine sw_aload_n (i := 1) dX2_become_92 rfl rfl ?_
    refine sx_getI f_X2_50 (kt_lt he.1) (kF_B he (j := 9) (by decide) (by decide)) dX2_become_93 ?_
    refine sx_putI fp_X2_50 (kt_lt hb.1) (kF_B hb (j := 9) (by decide) (by decide)) dX2_become_96 ?_
    refine sw_aload_n (i := 0) dX2_become_99 rfl rfl ?_
    refine sw_aload_n (i := 1) dX2_become_100 rfl rfl ?_
    refine sx_getI f_X2_53 (kt_lt he.1) (kF_B he (j := 10) (by decide) (by decide)) dX2_become_101 ?_
    refine sw_ins (pc2 := 104) rfl rfl ?_
    refine sx_putI fp_X2_53 (kt_lt hb.1) (kF_B hb (j := 10) (by decide) (by decide)) dX2_become_104 ?_
    refine sw_aload_n (i := 0) dX2_become_107 rfl rfl ?_
    refine sw_aload_n (i := 1) dX2_become_108 rfl rfl ?_
    refine sx_getI f_X2_56 (kt_lt he.1) (kF_B he (j := 11) (by decide) (by decide)) dX2_become_109 ?_
    refine sx_putI fp_X2_56 (kt_lt hb.1) (kF_B hb (j := 11) (by decide) (by decide)) dX2_become_112 ?_
    exact sw_return rfl dX2_become_115), ?_, ?_⟩
  · funext j
    by_cases hj : 83 ≤ j
    · rw [cV_out _ _ hj, cV_out _ _ hj]
    · unfold cV
      simp (disch := omega) only [d2_off, dup_eq, dup_ne, d2_eq, d2_ne]
      by_cases c1 : j < 7
      · rw [if_pos c1, if_pos c1]
      · rw [if_neg c1, if_neg c1]
        by_cases c2 : j < 11
        · rw [if_pos c2, if_pos c2, sb_cpy0 (by omega)]
        · rw [if_neg c2, if_neg c2]
          by_cases c3 : j < 19
          · rw [if_pos c3, if_pos c3, sb_cpy0 (by omega)]
          · rw [if_neg c3, if_neg c3]
            by_cases c4 : j < 51
            · rw [if_pos c4, if_pos c4, sb_cpy0 (by omega)]
            · rw [if_neg c4, if_neg c4, if_pos (by omega), if_pos (by omega), sb_cpy0 (by omega)]
  · intro c h0 h1 h3 h4 h5
    simp (disch := omega) only [d2_off, dup_ne]
set_option maxRecDepth 100000 in
set_option maxHeartbeats 4000000 in
theorem A_X2_copy {d : Nat → Nat → Int32} {r : Nat → Nat → Option Nat} {J : Nat → Nat → Int64} {b e : Nat} (hb : isB b) (he : isB e) (hne : b ≠ e) : ∃ d1, OP kX2_copy yX2_copy 2 [.ref e, .ref b] d r J none d1 r J ∧ cV d1 b = cV d e ∧ ∀ c, c ≠ b → c ≠ b + 1 → c ≠ b + 3 → c ≠ b + 4 → c ≠ b + 5 → d1 c = d c := by
  obtain ⟨d1, g1, g2, g3⟩ := A_X2_become (d := d) (r := r) (J := J) hb he hne
  refine ⟨d1, op_of pl_X2_copy (Nat.le_of_ble_eq_true rfl) ?_, g2, g3⟩
  refine sw_aload_n (i := 0) dX2_copy_0 rfl rfl ?_
  refine sw_ifnull dX2_copy_1 ?_
  refine sw_aload_n (i := 1) dX2_copy_4 rfl rfl ?_
  refine sw_ifnull dX2_copy_5 ?_
  refine sw_aload_n (i := 1) dX2_copy_8 rfl rfl ?_
  refine sw_aload_n (i := 0) dX2_copy_9 rfl rfl ?_
  refine px_Vv mv_X2_27 g1 rfl rfl (Nat.le_of_ble_eq_true rfl) (Nat.le_of_ble_eq_true rfl) (kO_B hb) (Nat.le_of_ble_eq_true rfl) dX2_copy_10 ?_
  refine sw_ins (pc2 := 13) rfl rfl ?_
  exact sw_return rfl dX2_copy_13
