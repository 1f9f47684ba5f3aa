/-! THE TILL, 2: addColour, leastByColours (own work, written by wip/tools) -/
theorem d2_dup (d : Nat → Nat → Int32) (c j : Nat) (f : Nat → Int32) (v : Int32) : d2 (dup d c f) c j v = dup d c (upd f j v) := by
  rw [← d2_upd, dup_eq, dup_dup]
theorem dup_self {α : Type} (d : Nat → α) (c : Nat) : dup d c (d c) = d := by
  funext k
  by_cases e : k = c
  · subst e; rw [dup_eq]
  · rw [dup_ne _ _ e]
def mn (x y : Int32) : Int32 := if y < x then y else x
def acI (w g : Nat) : Nat → Nat → (Nat → Int32) → (Nat → Int32)
  | 0, _, f => f
  | n + 1, k, f => acI w g n (k + 1) (upd f g (mn (f g) (f (g - k * w) + nI k)))
def acO (c w : Nat) : Nat → (Nat → Int32) → (Nat → Int32)
  | 0, f => f
  | g + 1, f => acO c w g (acI w (g + 1) (min c ((g + 1) / w)) 1 f)
def flG (f : Nat → Int32) : Nat → (Nat → Int32)
  | 0 => f
  | i + 1 => upd (flG f i) (i + 1) 1000000
def lbF (V : Nat → Int32) (a s : Nat) (f : Nat → Int32) : Nat → Int32 := acO (cp V a 3) (wt V 3) s (acO (cp V a 2) (wt V 2) s (acO (cp V a 1) (wt V 1) s (acO (cp V a 0) (wt V 0) s (flG (upd f 0 (nI 0)) s))))
def lbv (V : Nat → Int32) (a s : Nat) (f : Nat → Int32) : Int32 := if lbF V a s f s < 1000000 then lbF V a s f s else -1
set_option maxRecDepth 100000 in
set_option maxHeartbeats 4000000 in
theorem B1_X5_addColour {d : Nat → Nat → Int32} {r : Nat → Nat → Option Nat} {J : Nat → Nat → Int64} {c w s : Nat} (hc : c ≤ 20) (hw : 1 ≤ w) (hw9 : w ≤ 9) (hs : s ≤ 99) (R : Nat → Int32) {g : Nat} (hg : g ≤ 99) : ∀ (n k : Nat) (f : Nat → Int32), n + k = min c (g / w) + 1 → SW yX5_addColour cX5_addColour 6 none [] 1 none 64 [some (.ref 45), some (.int (nI c)), some (.int (nI w)), some (.int (nI s)), some (.int (nI g)), none] [] 65 (W0 (dup d 46 (acI w g n k f)) r J) 0 0 (.inl none) 65 (W0 (dup d 46 (R)) r J) → SW yX5_addColour cX5_addColour 6 none [] 1 none 11 [some (.ref 45), some (.int (nI c)), some (.int (nI w)), some (.int (nI s)), some (.int (nI g)), some (.int (nI k))] [] 65 (W0 (dup d 46 (f)) r J) 0 0 (.inl none) 65 (W0 (dup d 46 (R)) r J) := by
  intro n
  induction n with
  | zero =>
    intro k f hn hx
    by_cases hkc : c < k
    ·
      refine sw_iload (i := 5) dX5_addColour_11 rfl ?_
      refine sw_iload_n (i := 1) dX5_addColour_13 rfl rfl ?_
      refine sw_ic_gt (tgt := 64) dX5_addColour_14 rfl (fun _ => ?_) (fun h9 => absurd (nI_lt hkc (by omega)) h9)
      refine sw_sub ?_ hx
      exact ⟨rfl, rfl, rfl, rfl, rfl, trivial⟩
    ·
      have hkg : g < k * w := by
        have h1 : g / w < k := by omega
        exact (Nat.div_lt_iff_lt_mul (by omega)).mp h1
      have hkw : k * w < 2 ^ 20 := by
        have : k * w ≤ 21 * 9 := Nat.mul_le_mul (by omega) hw9
        omega
      have hkw31 : k * w < 2 ^ 31 := by omega
      refine sw_iload (i := 5) dX5_addColour_11 rfl ?_
      refine sw_iload_n (i := 1) dX5_addColour_13 rfl rfl ?_
      refine sw_ic_gt (tgt := 64) dX5_addColour_14 rfl (fun h9 => absurd h9 (nI_nlt (by omega) (by omega))) (fun _ => ?_)
      refine sw_iload (i := 5) dX5_addColour_17 rfl ?_
      refine sw_iload_n (i := 2) dX5_addColour_19 rfl rfl ?_
      refine sw_imul dX5_addColour_20 ?_
      refine sw_topE (v := nI (k * w)) (pk_mul _ _) ?_
      refine sw_iload (i := 4) dX5_addColour_21 rfl ?_
      refine sw_ins (pc2 := 23) rfl rfl ?_
      refine sw_ic_gt (tgt := 64) dX5_addColour_23 rfl (fun _ => ?_) (fun h9 => absurd (nI_lt hkg hkw31) h9)
      refine sw_sub ?_ hx
      exact ⟨rfl, rfl, rfl, rfl, rfl, trivial⟩
  | succ n ih =>
    intro k f hn hx
    have hkg : k * w ≤ g := by
      have h1 : k ≤ g / w := by omega
      exact (Nat.le_div_iff_mul_le (by omega)).mp h1
    refine sw_iload (i := 5) dX5_addColour_11 rfl ?_
    refine sw_iload_n (i := 1) dX5_addColour_13 rfl rfl ?_
    refine sw_ic_gt (tgt := 64) dX5_addColour_14 rfl (fun h9 => absurd h9 (nI_nlt (by omega) (by omega))) (fun _ => ?_)
    refine sw_iload (i := 5) dX5_addColour_17 rfl ?_
    refine sw_iload_n (i := 2) dX5_addColour_19 rfl rfl ?_
    refine sw_imul dX5_addColour_20 ?_
    refine sw_topE (v := nI (k * w)) (pk_mul _ _) ?_
    refine sw_iload (i := 4) dX5_addColour_21 rfl ?_
    refine sw_ins (pc2 := 23) rfl rfl ?_
    refine sw_ic_gt (tgt := 64) dX5_addColour_23 rfl (fun h9 => absurd h9 (nI_nlt hkg (by omega))) (fun _ => ?_)
    refine sw_aload_n (i := 0) dX5_addColour_26 rfl rfl ?_
    refine sx_getR (q := 46) f_X5_9 (by decide) kr_45_0 dX5_addColour_27 ?_
    refine sw_iload (i := 4) dX5_addColour_30 rfl ?_
    refine sw_aload_n (i := 0) dX5_addColour_32 rfl rfl ?_
    refine sx_getR (q := 46) f_X5_9 (by decide) kr_45_0 dX5_addColour_33 ?_
    refine sw_iload (i := 4) dX5_addColour_36 rfl ?_
    refine sx_ialdE (g) (f (g)) (by rw [dup_eq]) rfl rfl (by omega) dX5_addColour_38 ?_
    refine sw_ins (pc2 := 39) rfl rfl ?_
    refine sw_aload_n (i := 0) dX5_addColour_39 rfl rfl ?_
    refine sx_getR (q := 46) f_X5_9 (by decide) kr_45_0 dX5_addColour_40 ?_
    refine sw_iload (i := 4) dX5_addColour_43 rfl ?_
    refine sw_iload (i := 5) dX5_addColour_45 rfl ?_
    refine sw_iload_n (i := 2) dX5_addColour_47 rfl rfl ?_
    refine sw_imul dX5_addColour_48 ?_
    refine sw_isub dX5_addColour_49 ?_
    refine sw_topE (v := nI (g - k * w)) (by rw [pk_mul]; exact pk_sub hkg) ?_
    refine sx_ialdE (g - k * w) (f (g - k * w)) (by rw [dup_eq]) rfl rfl (by omega) dX5_addColour_50 ?_
    refine sw_ins (pc2 := 51) rfl rfl ?_
    refine sw_iload (i := 5) dX5_addColour_51 rfl ?_
    refine sw_iadd dX5_addColour_53 ?_
    refine sw_min mm_X5_33 (Nat.le_of_ble_eq_true rfl) (Nat.le_of_ble_eq_true rfl) dX5_addColour_54 ?_
    refine sx_iast (g) rfl rfl (by omega) dX5_addColour_57 ?_
    rw [d2_dup]
    refine sw_iinc (i := 5) (v := nI (k + 1)) dX5_addColour_58 rfl (nI_1 _) (Nat.le_of_ble_eq_true rfl) rfl ?_
    refine sw_lo (lo2 := [some (.ref 45), some (.int _), some (.int _), some (.int _), some (.int _), some (.int _)]) rfl ?_
    refine sw_goto (tgt := 11) dX5_addColour_61 rfl ?_
    exact ih (k + 1) _ (by omega) hx
set_option maxRecDepth 100000 in
set_option maxHeartbeats 4000000 in
theorem B2_X5_addColour {d : Nat → Nat → Int32} {r : Nat → Nat → Option Nat} {J : Nat → Nat → Int64} {c w s : Nat} (hc : c ≤ 20) (hw : 1 ≤ w) (hw9 : w ≤ 9) (hs : s ≤ 99) (R : Nat → Int32) : ∀ (g : Nat) (f : Nat → Int32), g ≤ s → SW yX5_addColour cX5_addColour 6 none [] 1 none 70 [some (.ref 45), some (.int (nI c)), some (.int (nI w)), some (.int (nI s)), some (.int (nI 0)), none] [] 65 (W0 (dup d 46 (acO c w g f)) r J) 0 0 (.inl none) 65 (W0 (dup d 46 (R)) r J) → SW yX5_addColour cX5_addColour 6 none [] 1 none 3 [some (.ref 45), some (.int (nI c)), some (.int (nI w)), some (.int (nI s)), some (.int (nI g)), none] [] 65 (W0 (dup d 46 (f)) r J) 0 0 (.inl none) 65 (W0 (dup d 46 (R)) r J) := by
  intro g
  induction g with
  | zero =>
    intro f hg hx
    refine sw_iload (i := 4) dX5_addColour_3 rfl ?_
    refine sw_if_le (tgt := 70) dX5_addColour_5 rfl (fun _ => ?_) (fun h9 => absurd (by decide) h9)
    exact hx
  | succ g ih =>
    intro f hg hx
    refine sw_iload (i := 4) dX5_addColour_3 rfl ?_
    refine sw_if_le (tgt := 70) dX5_addColour_5 rfl (fun h9 => absurd h9 (nI_nle (by omega) (by omega))) (fun _ => ?_)
    refine sw_ic 1 dX5_addColour_8 ?_
    refine sw_istore (i := 5) dX5_addColour_9 (Nat.le_of_ble_eq_true rfl) rfl ?_
    refine sw_lo (lo2 := [some (.ref 45), some (.int _), some (.int _), some (.int _), some (.int _), some (.int _)]) rfl ?_
    refine B1_X5_addColour hc hw hw9 hs R (g := g + 1) (by omega) (min c ((g + 1) / w)) 1 f rfl ?_
    refine sw_iinc (i := 4) (v := nI g) dX5_addColour_64 rfl (pk_m1 _) (Nat.le_of_ble_eq_true rfl) rfl ?_
    refine sw_lo (lo2 := [some (.ref 45), some (.int _), some (.int _), some (.int _), some (.int _), none]) rfl ?_
    refine sw_goto (tgt := 3) dX5_addColour_67 rfl ?_
    exact ih _ (by omega) hx
set_option maxRecDepth 100000 in
set_option maxHeartbeats 4000000 in
theorem A_X5_addColour {d : Nat → Nat → Int32} {r : Nat → Nat → Option Nat} {J : Nat → Nat → Int64} {c w s : Nat} (hc : c ≤ 20) (hw : 1 ≤ w) (hw9 : w ≤ 9) (hs : s ≤ 99) {f : Nat → Int32} : OP kX5_addColour yX5_addColour 1 [.ref 45, .int (nI c), .int (nI w), .int (nI s)] (dup d 46 f) r J none (dup d 46 (acO c w s f)) r J := by
  refine op_of pl_X5_addColour (Nat.le_of_ble_eq_true rfl) ?_
  refine sw_iload_n (i := 3) dX5_addColour_0 rfl rfl ?_
  refine sw_istore (i := 4) dX5_addColour_1 (Nat.le_of_ble_eq_true rfl) rfl ?_
  refine sw_lo (lo2 := [some (.ref 45), some (.int _), some (.int _), some (.int _), some (.int _), none]) rfl ?_
  refine B2_X5_addColour hc hw hw9 hs _ s f (Nat.le_refl _) ?_
  exact sw_return rfl dX5_addColour_70
set_option maxRecDepth 100000 in
set_option maxHeartbeats 4000000 in
theorem A_X5_leastByColours {d : Nat → Nat → Int32} {r : Nat → Nat → Option Nat} {J : Nat → Nat → Int64} {b a s : Nat} (hb : isB b) (okc : okCaps (cV d b)) (okw : okWorth (cV d b)) (ha : a < 8) (hs : s ≤ 99) : OP kX5_leastByColours yX5_leastByColours 2 [.ref 45, .ref b, .int (nI a), .int (nI s)] d r J (some (.int (lbv (cV d b) a s (d 46)))) (dup d 46 (lbF (cV d b) a s (d 46))) r J := by
  refine op_of pl_X5_leastByColours (Nat.le_of_ble_eq_true rfl) ?_
  have hbc := isB_cases hb
  have n1 : b + 1 ≠ 46 := by omega
  have n3 : b + 3 ≠ 46 := by omega
  have hview : ∀ f, cV (dup d 46 f) b = cV d b := fun f => cV_keep (fun c hc => dup_ne _ _ (by omega))
  have L2 : SW yX5_leastByColours cX5_leastByColours 5 (some .int) [] 2 none 43 [some (.ref 45), some (.ref b), some (.int (nI a)), some (.int (nI s)), none] [] 65 (W0 (dup d 46 (flG (upd (d 46) 0 (nI 0)) s)) r J) 0 0 (.inl (some (.int (lbv (cV d b) a s (d 46))))) 65 (W0 (dup d 46 (lbF (cV d b) a s (d 46))) r J) := by
    obtain ⟨f0, hf0⟩ : ∃ f0, f0 = flG (upd (d 46) 0 (nI 0)) s := ⟨_, rfl⟩
    obtain ⟨f1, hf1⟩ : ∃ f1, f1 = acO (cp (cV d b) a 0) (wt (cV d b) 0) s f0 := ⟨_, rfl⟩
    obtain ⟨f2, hf2⟩ : ∃ f2, f2 = acO (cp (cV d b) a 1) (wt (cV d b) 1) s f1 := ⟨_, rfl⟩
    obtain ⟨f3, hf3⟩ : ∃ f3, f3 = acO (cp (cV d b) a 2) (wt (cV d b) 2) s f2 := ⟨_, rfl⟩
    obtain ⟨f4, hf4⟩ : ∃ f4, f4 = acO (cp (cV d b) a 3) (wt (cV d b) 3) s f3 := ⟨_, rfl⟩
    have hF : lbF (cV d b) a s (d 46) = f4 := by rw [hf4, hf3, hf2, hf1, hf0]; rfl
    unfold lbv
    rw [hF, ← hf0]
    refine sw_ic 0 dX5_leastByColours_43 ?_
    refine sw_istore (i := 4) dX5_leastByColours_44 (Nat.le_of_ble_eq_true rfl) rfl ?_
    refine sw_lo (lo2 := [some (.ref 45), some (.ref b), some (.int _), some (.int _), some (.int _)]) rfl ?_
    refine sw_iload (i := 4) dX5_leastByColours_46 rfl ?_
    refine sw_ic 4 dX5_leastByColours_48 ?_
    refine sw_ic_ge (tgt := 76) dX5_leastByColours_49 rfl (fun h9 => absurd h9 (by decide)) (fun _ => ?_)
    refine sw_aload_n (i := 0) dX5_leastByColours_52 rfl rfl ?_
    refine sw_aload_n (i := 1) dX5_leastByColours_53 rfl rfl ?_
    refine sw_ins (pc2 := 54) rfl rfl ?_
    refine sw_iload_n (i := 2) dX5_leastByColours_54 rfl rfl ?_
    refine sw_iload (i := 4) dX5_leastByColours_55 rfl ?_
    have hcap0 : OP kX2_capsOf yX2_capsOf 1 [.ref b, .int (nI a), .int (nI 0)] (dup d 46 f0) r J (some (.int (nI (cp (cV d b) a 0)))) (dup d 46 f0) r J := by
      have h9 := A_X2_capsOf (d := dup d 46 f0) (r := r) (J := J) (a := a) (c := 0) hb ha (by decide)
      rw [hview, (okc.1 (a * 4 + 0) (by omega))] at h9
      exact h9
    refine px_Vx mv_X5_19 hcap0 rfl rfl (Nat.le_of_ble_eq_true rfl) (Nat.le_of_ble_eq_true rfl) (kO_B hb) (Nat.le_of_ble_eq_true rfl) dX5_leastByColours_57 ?_
    refine sw_aload_n (i := 1) dX5_leastByColours_60 rfl rfl ?_
    refine sw_iload (i := 4) dX5_leastByColours_61 rfl ?_
    have hwor0 : OP kX2_worthOf yX2_worthOf 1 [.ref b, .int (nI 0)] (dup d 46 f0) r J (some (.int (nI (wt (cV d b) 0)))) (dup d 46 f0) r J := by
      have h9 := A_X2_worthOf (d := dup d 46 f0) (r := r) (J := J) (c := 0) hb (by decide)
      rw [hview, (okw 0 (by decide)).1] at h9
      exact h9
    refine px_Vx mv_X5_25 hwor0 rfl rfl (Nat.le_of_ble_eq_true rfl) (Nat.le_of_ble_eq_true rfl) (kO_B hb) (Nat.le_of_ble_eq_true rfl) dX5_leastByColours_63 ?_
    refine sw_iload_n (i := 3) dX5_leastByColours_66 rfl rfl ?_
    have hadd0 := A_X5_addColour (d := d) (r := r) (J := J) (s := s) (f := f0) (c := cp (cV d b) a 0) (w := wt (cV d b) 0) (cp_le okc ha (c := 0) (by decide)) (okw 0 (by decide)).2.1 (okw 0 (by decide)).2.2 hs
    rw [← show f1 = acO (cp (cV d b) a 0) (wt (cV d b) 0) s f0 from hf1] at hadd0
    refine px_Vv mv_X5_29 hadd0 rfl rfl (Nat.le_of_ble_eq_true rfl) (Nat.le_of_ble_eq_true rfl) ko_45 (Nat.le_of_ble_eq_true rfl) dX5_leastByColours_67 ?_
    refine sw_ins (pc2 := 70) rfl rfl ?_
    refine sw_iinc (i := 4) (v := nI 1) dX5_leastByColours_70 rfl (by decide) (Nat.le_of_ble_eq_true rfl) rfl ?_
    refine sw_lo (lo2 := [some (.ref 45), some (.ref b), some (.int _), some (.int _), some (.int _)]) rfl ?_
    refine sw_goto (tgt := 46) dX5_leastByColours_73 rfl ?_
    refine sw_iload (i := 4) dX5_leastByColours_46 rfl ?_
    refine sw_ic 4 dX5_leastByColours_48 ?_
    refine sw_ic_ge (tgt := 76) dX5_leastByColours_49 rfl (fun h9 => absurd h9 (by decide)) (fun _ => ?_)
    refine sw_aload_n (i := 0) dX5_leastByColours_52 rfl rfl ?_
    refine sw_aload_n (i := 1) dX5_leastByColours_53 rfl rfl ?_
    refine sw_iload_n (i := 2) dX5_leastByColours_54 rfl rfl ?_
    refine sw_ins (pc2 := 55) rfl rfl ?_
    refine sw_iload (i := 4) dX5_leastByColours_55 rfl ?_
    have hcap1 : OP kX2_capsOf yX2_capsOf 1 [.ref b, .int (nI a), .int (nI 1)] (dup d 46 f1) r J (some (.int (nI (cp (cV d b) a 1)))) (dup d 46 f1) r J := by
      have h9 := A_X2_capsOf (d := dup d 46 f1) (r := r) (J := J) (a := a) (c := 1) hb ha (by decide)
      rw [hview, (okc.1 (a * 4 + 1) (by omega))] at h9
      exact h9
    refine px_Vx mv_X5_19 hcap1 rfl rfl (Nat.le_of_ble_eq_true rfl) (Nat.le_of_ble_eq_true rfl) (kO_B hb) (Nat.le_of_ble_eq_true rfl) dX5_leastByColours_57 ?_
    refine sw_aload_n (i := 1) dX5_leastByColours_60 rfl rfl ?_
    refine sw_iload (i := 4) dX5_leastByColours_61 rfl ?_
    have hwor1 : OP kX2_worthOf yX2_worthOf 1 [.ref b, .int (nI 1)] (dup d 46 f1) r J (some (.int (nI (wt (cV d b) 1)))) (dup d 46 f1) r J := by
      have h9 := A_X2_worthOf (d := dup d 46 f1) (r := r) (J := J) (c := 1) hb (by decide)
      rw [hview, (okw 1 (by decide)).1] at h9
      exact h9
    refine px_Vx mv_X5_25 hwor1 rfl rfl (Nat.le_of_ble_eq_true rfl) (Nat.le_of_ble_eq_true rfl) (kO_B hb) (Nat.le_of_ble_eq_true rfl) dX5_leastByColours_63 ?_
    refine sw_iload_n (i := 3) dX5_leastByColours_66 rfl rfl ?_
    have hadd1 := A_X5_addColour (d := d) (r := r) (J := J) (s := s) (f := f1) (c := cp (cV d b) a 1) (w := wt (cV d b) 1) (cp_le okc ha (c := 1) (by decide)) (okw 1 (by decide)).2.1 (okw 1 (by decide)).2.2 hs
    rw [← show f2 = acO (cp (cV d b) a 1) (wt (cV d b) 1) s f1 from hf2] at hadd1
    refine px_Vv mv_X5_29 hadd1 rfl rfl (Nat.le_of_ble_eq_true rfl) (Nat.le_of_ble_eq_true rfl) ko_45 (Nat.le_of_ble_eq_true rfl) dX5_leastByColours_67 ?_
    refine sw_iinc (i := 4) (v := nI 2) dX5_leastByColours_70 rfl (by decide) (Nat.le_of_ble_eq_true rfl) rfl ?_
    refine sw_lo (lo2 := [some (.ref 45), some (.ref b), some (.int _), some (.int _), some (.int _)]) rfl ?_
    refine sw_ins (pc2 := 73) rfl rfl ?_
    refine sw_goto (tgt := 46) dX5_leastByColours_73 rfl ?_
    refine sw_iload (i := 4) dX5_leastByColours_46 rfl ?_
    refine sw_ic 4 dX5_leastByColours_48 ?_
    refine sw_ic_ge (tgt := 76) dX5_leastByColours_49 rfl (fun h9 => absurd h9 (by decide)) (fun _ => ?_)
    refine sw_aload_n (i := 0) dX5_leastByColours_52 rfl rfl ?_
    refine sw_aload_n (i := 1) dX5_leastByColours_53 rfl rfl ?_
    refine sw_iload_n (i := 2) dX5_leastByColours_54 rfl rfl ?_
    refine sw_iload (i := 4) dX5_leastByColours_55 rfl ?_
    refine sw_ins (pc2 := 57) rfl rfl ?_
    have hcap2 : OP kX2_capsOf yX2_capsOf 1 [.ref b, .int (nI a), .int (nI 2)] (dup d 46 f2) r J (some (.int (nI (cp (cV d b) a 2)))) (dup d 46 f2) r J := by
      have h9 := A_X2_capsOf (d := dup d 46 f2) (r := r) (J := J) (a := a) (c := 2) hb ha (by decide)
      rw [hview, (okc.1 (a * 4 + 2) (by omega))] at h9
      exact h9
    refine px_Vx mv_X5_19 hcap2 rfl rfl (Nat.le_of_ble_eq_true rfl) (Nat.le_of_ble_eq_true rfl) (kO_B hb) (Nat.le_of_ble_eq_true rfl) dX5_leastByColours_57 ?_
    refine sw_aload_n (i := 1) dX5_leastByColours_60 rfl rfl ?_
    refine sw_iload (i := 4) dX5_leastByColours_61 rfl ?_
    have hwor2 : OP kX2_worthOf yX2_worthOf 1 [.ref b, .int (nI 2)] (dup d 46 f2) r J (some (.int (nI (wt (cV d b) 2)))) (dup d 46 f2) r J := by
      have h9 := A_X2_worthOf (d := dup d 46 f2) (r := r) (J := J) (c := 2) hb (by decide)
      rw [hview, (okw 2 (by decide)).1] at h9
      exact h9
    refine px_Vx mv_X5_25 hwor2 rfl rfl (Nat.le_of_ble_eq_true rfl) (Nat.le_of_ble_eq_true rfl) (kO_B hb) (Nat.le_of_ble_eq_true rfl) dX5_leastByColours_63 ?_
    refine sw_iload_n (i := 3) dX5_leastByColours_66 rfl rfl ?_
    have hadd2 := A_X5_addColour (d := d) (r := r) (J := J) (s := s) (f := f2) (c := cp (cV d b) a 2) (w := wt (cV d b) 2) (cp_le okc ha (c := 2) (by decide)) (okw 2 (by decide)).2.1 (okw 2 (by decide)).2.2 hs
    rw [← show f3 = acO (cp (cV d b) a 2) (wt (cV d b) 2) s f2 from hf3] at hadd2
    refine px_Vv mv_X5_29 hadd2 rfl rfl (Nat.le_of_ble_eq_true rfl) (Nat.le_of_ble_eq_true rfl) ko_45 (Nat.le_of_ble_eq_true rfl) dX5_leastByColours_67 ?_
    refine sw_iinc (i := 4) (v := nI 3) dX5_leastByColours_70 rfl (by decide) (Nat.le_of_ble_eq_true rfl) rfl ?_
    refine sw_lo (lo2 := [some (.ref 45), some (.ref b), some (.int _), some (.int _), some (.int _)]) rfl ?_
    refine sw_goto (tgt := 46) dX5_leastByColours_73 rfl ?_
    refine sw_ins (pc2 := 46) rfl rfl ?_
    refine sw_iload (i := 4) dX5_leastByColours_46 rfl ?_
    refine sw_ic 4 dX5_leastByColours_48 ?_
    refine sw_ic_ge (tgt := 76) dX5_leastByColours_49 rfl (fun h9 => absurd h9 (by decide)) (fun _ => ?_)
    refine sw_aload_n (i := 0) dX5_leastByColours_52 rfl rfl ?_
    refine sw_aload_n (i := 1) dX5_leastByColours_53 rfl rfl ?_
    refine sw_iload_n (i := 2) dX5_leastByColours_54 rfl rfl ?_
    refine sw_iload (i := 4) dX5_leastByColours_55 rfl ?_
    have hcap3 : OP kX2_capsOf yX2_capsOf 1 [.ref b, .int (nI a), .int (nI 3)] (dup d 46 f3) r J (some (.int (nI (cp (cV d b) a 3)))) (dup d 46 f3) r J := by
      have h9 := A_X2_capsOf (d := dup d 46 f3) (r := r) (J := J) (a := a) (c := 3) hb ha (by decide)
      rw [hview, (okc.1 (a * 4 + 3) (by omega))] at h9
      exact h9
    refine px_Vx mv_X5_19 hcap3 rfl rfl (Nat.le_of_ble_eq_true rfl) (Nat.le_of_ble_eq_true rfl) (kO_B hb) (Nat.le_of_ble_eq_true rfl) dX5_leastByColours_57 ?_
    refine sw_ins (pc2 := 60) rfl rfl ?_
    refine sw_aload_n (i := 1) dX5_leastByColours_60 rfl rfl ?_
    refine sw_iload (i := 4) dX5_leastByColours_61 rfl ?_
    have hwor3 : OP kX2_worthOf yX2_worthOf 1 [.ref b, .int (nI 3)] (dup d 46 f3) r J (some (.int (nI (wt (cV d b) 3)))) (dup d 46 f3) r J := by
      have h9 := A_X2_worthOf (d := dup d 46 f3) (r := r) (J := J) (c := 3) hb (by decide)
      rw [hview, (okw 3 (by decide)).1] at h9
      exact h9
    refine px_Vx mv_X5_25 hwor3 rfl rfl (Nat.le_of_ble_eq_true rfl) (Nat.le_of_ble_eq_true rfl) (kO_B hb) (Nat.le_of_ble_eq_true rfl) dX5_leastByColours_63 ?_
    refine sw_iload_n (i := 3) dX5_leastByColours_66 rfl rfl ?_
    have hadd3 := A_X5_addColour (d := d) (r := r) (J := J) (s := s) (f := f3) (c := cp (cV d b) a 3) (w := wt (cV d b) 3) (cp_le okc ha (c := 3) (by decide)) (okw 3 (by decide)).2.1 (okw 3 (by decide)).2.2 hs
    rw [← show f4 = acO (cp (cV d b) a 3) (wt (cV d b) 3) s f3 from hf4] at hadd3
    refine px_Vv mv_X5_29 hadd3 rfl rfl (Nat.le_of_ble_eq_true rfl) (Nat.le_of_ble_eq_true rfl) ko_45 (Nat.le_of_ble_eq_true rfl) dX5_leastByColours_67 ?_
    refine sw_iinc (i := 4) (v := nI 4) dX5_leastByColours_70 rfl (by decide) (Nat.le_of_ble_eq_true rfl) rfl ?_
    refine sw_lo (lo2 := [some (.ref 45), some (.ref b), some (.int _), some (.int _), some (.int _)]) rfl ?_
    refine sw_goto (tgt := 46) dX5_leastByColours_73 rfl ?_
    refine sw_iload (i := 4) dX5_leastByColours_46 rfl ?_
    refine sw_ins (pc2 := 48) rfl rfl ?_
    refine sw_ic 4 dX5_leastByColours_48 ?_
    refine sw_ic_ge (tgt := 76) dX5_leastByColours_49 rfl (fun _ => ?_) (fun h9 => absurd (by decide) h9)
    refine sw_aload_n (i := 0) dX5_leastByColours_76 rfl rfl ?_
    refine sx_getR (q := 46) f_X5_9 (by decide) kr_45_0 dX5_leastByColours_77 ?_
    refine sw_iload_n (i := 3) dX5_leastByColours_80 rfl rfl ?_
    refine sx_ialdE (s) (f4 (s)) (by rw [dup_eq]) rfl rfl (by omega) dX5_leastByColours_81 ?_
    refine sw_ldc kc_X5_18 dX5_leastByColours_82 ?_
    refine sw_ic_ge (tgt := 96) dX5_leastByColours_84 rfl (fun h84 => ?_) (fun h84 => ?_)
    ·
      refine sw_ins (pc2 := 96) rfl rfl ?_
      refine sw_im1 dX5_leastByColours_96 ?_
      exact sw_ireturnE (by first | (rw [if_pos (Int32.not_le.mp h84)]; done) | (rw [if_neg (Int32.not_lt.mpr h84)]; done)) rfl dX5_leastByColours_97
    ·
      refine sw_aload_n (i := 0) dX5_leastByColours_87 rfl rfl ?_
      refine sx_getR (q := 46) f_X5_9 (by decide) kr_45_0 dX5_leastByColours_88 ?_
      refine sw_iload_n (i := 3) dX5_leastByColours_91 rfl rfl ?_
      refine sx_ialdE (s) (f4 (s)) (by rw [dup_eq]) rfl rfl (by omega) dX5_leastByColours_92 ?_
      refine sw_goto (tgt := 97) dX5_leastByColours_93 rfl ?_
      exact sw_ireturnE (by first | (rw [if_pos (Int32.not_le.mp h84)]; done) | (rw [if_neg (Int32.not_lt.mpr h84)]; done)) rfl dX5_leastByColours_97
  have L1 : ∀ i, i ≤ s → SW yX5_leastByColours cX5_leastByColours 5 (some .int) [] 2 none 22 [some (.ref 45), some (.ref b), some (.int (nI a)), some (.int (nI s)), some (.int (nI (i + 1)))] [] 65 (W0 (dup d 46 (flG (upd (d 46) 0 (nI 0)) i)) r J) 0 0 (.inl (some (.int (lbv (cV d b) a s (d 46))))) 65 (W0 (dup d 46 (lbF (cV d b) a s (d 46))) r J) := by
    refine am_loop s ?_ ?_
    ·
      refine sw_iload (i := 4) dX5_leastByColours_22 rfl ?_
      refine sw_iload_n (i := 3) dX5_leastByColours_24 rfl rfl ?_
      refine sw_ic_gt (tgt := 43) dX5_leastByColours_25 rfl (fun _ => ?_) (fun h9 => absurd (nI_lt (by omega) (by omega)) h9)
      refine sw_sub ?_ L2
      exact ⟨rfl, rfl, rfl, rfl, trivial⟩
    · intro i hi ih
      refine sw_iload (i := 4) dX5_leastByColours_22 rfl ?_
      refine sw_iload_n (i := 3) dX5_leastByColours_24 rfl rfl ?_
      refine sw_ic_gt (tgt := 43) dX5_leastByColours_25 rfl (fun h9 => absurd h9 (nI_nlt (by omega) (by omega))) (fun _ => ?_)
      refine sw_aload_n (i := 0) dX5_leastByColours_28 rfl rfl ?_
      refine sx_getR (q := 46) f_X5_9 (by decide) kr_45_0 dX5_leastByColours_29 ?_
      refine sw_iload (i := 4) dX5_leastByColours_32 rfl ?_
      refine sw_ldc kc_X5_18 dX5_leastByColours_34 ?_
      refine sw_ins (pc2 := 36) rfl rfl ?_
      refine sx_iast (i + 1) rfl rfl (by omega) dX5_leastByColours_36 ?_
      rw [d2_dup]
      refine sw_iinc (i := 4) (v := nI (i + 1 + 1)) dX5_leastByColours_37 rfl (nI_1 _) (Nat.le_of_ble_eq_true rfl) rfl ?_
      refine sw_lo (lo2 := [some (.ref 45), some (.ref b), some (.int _), some (.int _), some (.int _)]) rfl ?_
      refine sw_goto (tgt := 22) dX5_leastByColours_40 rfl ?_
      exact ih
  refine sw_iload_n (i := 3) dX5_leastByColours_0 rfl rfl ?_
  refine sw_if_lt (tgt := 10) dX5_leastByColours_1 rfl (fun h9 => absurd h9 (nI_pos (by omega))) (fun _ => ?_)
  refine sw_iload_n (i := 3) dX5_leastByColours_4 rfl rfl ?_
  refine sw_bi 99 dX5_leastByColours_5 (by decide +kernel) ?_
  refine sw_ic_le (tgt := 12) dX5_leastByColours_7 rfl (fun _ => ?_) (fun h9 => absurd (nI_le hs (by decide)) h9)
  refine sw_aload_n (i := 0) dX5_leastByColours_12 rfl rfl ?_
  refine sx_getR (q := 46) f_X5_9 (by decide) kr_45_0 dX5_leastByColours_13 ?_
  refine sw_ins (pc2 := 16) rfl rfl ?_
  refine sw_ic 0 dX5_leastByColours_16 ?_
  refine sw_ic 0 dX5_leastByColours_17 ?_
  refine sx_iast (0) rfl rfl (by omega) dX5_leastByColours_18 ?_
  rw [← d2_upd]
  refine sw_ic 1 dX5_leastByColours_19 ?_
  refine sw_istore (i := 4) dX5_leastByColours_20 (Nat.le_of_ble_eq_true rfl) rfl ?_
  refine sw_lo (lo2 := [some (.ref 45), some (.ref b), some (.int _), some (.int _), some (.int _)]) rfl ?_
  exact L1 0 (Nat.zero_le _)
