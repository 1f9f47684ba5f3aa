/-! THE MODEL, 4: payFrom (own work, written by wip/tools) -/
theorem l1_no {V : Nat → Int32} {a s t e : Nat} (h : s < t * wt V 3 + e * wt V 2) : ∀ (k : Nat) (q : bst × (Nat → Nat → Int32)), l1 V a s t e k q = q
  | 0, _ => rfl
  | k + 1, q => by
    show l1 V a s t e k (bt V a s t e k q) = q
    rw [bt_no (fun c => by have := c.1; omega)]
    exact l1_no h k q
theorem l1_skip {V : Nat → Int32} {a s t e m : Nat} : ∀ (k : Nat) (q : bst × (Nat → Nat → Int32)), m ≤ k → (∀ f, m ≤ f → f < k → s < t * wt V 3 + e * wt V 2 + f * wt V 1) → l1 V a s t e k q = l1 V a s t e m q
  | 0, q, h, _ => by rw [show m = 0 by omega]
  | k + 1, q, h, g => by
    by_cases c : m = k + 1
    · rw [c]
    · show l1 V a s t e k (bt V a s t e k q) = _
      rw [bt_no (fun c9 => by have := c9.1; have := g k (by omega) (by omega); omega)]
      exact l1_skip k q (by omega) (fun f h1 h2 => g f h1 (by omega))
theorem l2_no {V : Nat → Int32} {a s t : Nat} (h : s < t * wt V 3) : ∀ (k : Nat) (q : bst × (Nat → Nat → Int32)), l2 V a s t k q = q
  | 0, _ => rfl
  | k + 1, q => by
    show l2 V a s t k (l1 V a s t k (cp V a 1 + 1) q) = q
    rw [l1_no (by omega)]
    exact l2_no h k q
theorem l2_skip {V : Nat → Int32} {a s t m : Nat} : ∀ (k : Nat) (q : bst × (Nat → Nat → Int32)), m ≤ k → (∀ e, m ≤ e → e < k → s < t * wt V 3 + e * wt V 2) → l2 V a s t k q = l2 V a s t m q
  | 0, q, h, _ => by rw [show m = 0 by omega]
  | k + 1, q, h, g => by
    by_cases c : m = k + 1
    · rw [c]
    · show l2 V a s t k (l1 V a s t k (cp V a 1 + 1) q) = _
      rw [l1_no (g k (by omega) (by omega))]
      exact l2_skip k q (by omega) (fun f h1 h2 => g f h1 (by omega))
theorem l3_skip {V : Nat → Int32} {a s m : Nat} : ∀ (k : Nat) (q : bst × (Nat → Nat → Int32)), m ≤ k → (∀ t, m ≤ t → t < k → s < t * wt V 3) → l3 V a s k q = l3 V a s m q
  | 0, q, h, _ => by rw [show m = 0 by omega]
  | k + 1, q, h, g => by
    by_cases c : m = k + 1
    · rw [c]
    · show l3 V a s k (l2 V a s k (cp V a 2 + 1) q) = _
      rw [l2_no (g k (by omega) (by omega))]
      exact l3_skip k q (by omega) (fun f h1 h2 => g f h1 (by omega))
/-- beyond the most caps that a sum can bear -/
theorem most_lt {c r w f : Nat} (hw : 1 ≤ w) (h : min c (r / w) + 1 ≤ f) (hf : f < c + 1) : r < f * w := by
  have h1 : r / w < f := by
    by_cases q : c ≤ r / w
    · rw [Nat.min_eq_left q] at h; omega
    · rw [Nat.min_eq_right (by omega)] at h; omega
  exact (Nat.div_lt_iff_lt_mul (by omega)).mp h1
def Z0 : Nat → Nat → Int32 := fun _ _ => 0
noncomputable def m1 (V : Nat → Int32) (a s t e k : Nat) (b : bst) : bst := (l1 V a s t e k (b, Z0)).1
noncomputable def m2 (V : Nat → Int32) (a s t k : Nat) (b : bst) : bst := (l2 V a s t k (b, Z0)).1
noncomputable def m3 (V : Nat → Int32) (a s k : Nat) (b : bst) : bst := (l3 V a s k (b, Z0)).1
noncomputable def mb (V : Nat → Int32) (a s t e f : Nat) (b : bst) : bst := (bt V a s t e f (b, Z0)).1
theorem m1_s (V : Nat → Int32) (a s t e k : Nat) (b : bst) : m1 V a s t e (k + 1) b = m1 V a s t e k (mb V a s t e k b) := l1_fst k _ _ rfl
theorem m2_s {V : Nat → Int32} {a s t k : Nat} (b : bst) (hw : 1 ≤ wt V 1) (hu : t * wt V 3 + k * wt V 2 ≤ s) : m2 V a s t (k + 1) b = m2 V a s t k (m1 V a s t k (min (cp V a 1) ((s - (t * wt V 3 + k * wt V 2)) / wt V 1) + 1) b) := by
  show (l2 V a s t k (l1 V a s t k (cp V a 1 + 1) (b, Z0))).1 = _
  rw [l1_skip (m := min (cp V a 1) ((s - (t * wt V 3 + k * wt V 2)) / wt V 1) + 1) (cp V a 1 + 1) _ (by have := Nat.min_le_left (cp V a 1) ((s - (t * wt V 3 + k * wt V 2)) / wt V 1); omega) (fun f h1 h2 => by have := most_lt hw h1 h2; omega)]
  exact l2_fst k _ _ rfl
theorem m3_s {V : Nat → Int32} {a s k : Nat} (b : bst) (hw : 1 ≤ wt V 2) (hu : k * wt V 3 ≤ s) : m3 V a s (k + 1) b = m3 V a s k (m2 V a s k (min (cp V a 2) ((s - k * wt V 3) / wt V 2) + 1) b) := by
  show (l3 V a s k (l2 V a s k (cp V a 2 + 1) (b, Z0))).1 = _
  rw [l2_skip (m := min (cp V a 2) ((s - k * wt V 3) / wt V 2) + 1) (cp V a 2 + 1) _ (by have := Nat.min_le_left (cp V a 2) ((s - k * wt V 3) / wt V 2); omega) (fun f h1 h2 => by have := most_lt hw h1 h2; omega)]
  exact l3_fst k _ _ rfl
theorem m3_wy {V : Nat → Int32} {a s : Nat} (hw : 1 ≤ wt V 3) : m3 V a s (min (cp V a 3) (s / wt V 3) + 1) none = wy V a s := by
  show _ = (l3 V a s (cp V a 3 + 1) (none, fun _ _ => 0)).1
  rw [l3_skip (m := min (cp V a 3) (s / wt V 3) + 1) (cp V a 3 + 1) _ (by have := Nat.min_le_left (cp V a 3) (s / wt V 3); omega) (fun f h1 h2 => most_lt hw h1 h2)]
  rfl
/-- the row of pays, and the rest, beside what it was -/
def payd (d d1 : Nat → Nat → Int32) (b : bst) : Prop := (∀ c, c ≠ 71 → d1 c = d c) ∧ small b ∧ ∀ z f e t, b = some (z, f, e, t) → d1 71 0 = nI z ∧ d1 71 1 = nI f ∧ d1 71 2 = nI e ∧ d1 71 3 = nI t
def mnote (d : Nat → Nat → Int32) (z f e t : Nat) : Nat → Nat → Int32 := d2 (d2 (d2 (d2 d 71 0 (nI z)) 71 1 (nI f)) 71 2 (nI e)) 71 3 (nI t)
theorem mnote_d {d d1 : Nat → Nat → Int32} {b : bst} (h : payd d d1 b) {z f e t : Nat} (hs : t + e + f + z < 2 ^ 20) : payd d (mnote d1 z f e t) (some (z, f, e, t)) := by
  refine ⟨fun c hc => ?_, hs, fun z2 f2 e2 t2 q => ?_⟩
  · unfold mnote
    rw [d2_off _ _ hc, d2_off _ _ hc, d2_off _ _ hc, d2_off _ _ hc]
    exact h.1 c hc
  · cases q
    unfold mnote
    exact ⟨by rw [d2_ne _ _ (Or.inr (by decide)), d2_ne _ _ (Or.inr (by decide)), d2_ne _ _ (Or.inr (by decide)), d2_eq], by rw [d2_ne _ _ (Or.inr (by decide)), d2_ne _ _ (Or.inr (by decide)), d2_eq], by rw [d2_ne _ _ (Or.inr (by decide)), d2_eq], by rw [d2_eq]⟩
theorem zw_eq {l w : Nat} (hw : 1 ≤ w) : l / w * w = l ↔ l % w = 0 := by
  have h := Nat.div_add_mod l w
  rw [Nat.mul_comm] at h
  omega
set_option maxRecDepth 100000 in
set_option maxHeartbeats 4000000 in
theorem B1_X7_payFrom {d : Nat → Nat → Int32} {r : Nat → Nat → Option Nat} {J : Nat → Nat → Int64} {V : Nat → Int32} {a s : Nat} (hV : mV d = V) (okc : okCaps V) (okw : okWorth V) (ha : a < 8) (hs : s ≤ 99) (R : bst) {t e : Nat} (ht : t ≤ 20) (he : e ≤ 20) (hu : t * wt V 3 + e * wt V 2 ≤ s) : ∀ (k : Nat) (D : Nat → Nat → Int32) (b : bst), k ≤ 21 → (∀ f, f < k → t * wt V 3 + e * wt V 2 + f * wt V 1 ≤ s) → payd d D b → (∀ D2, payd d D2 (m1 V a s t e k b) → ∃ d1, SW yX7_payFrom cX7_payFrom 12 (some .int) [] 2 none 193 [some (.ref 65), some (.int (nI a)), some (.int (nI s)), some (.int (enc (m1 V a s t e k b))), some (.int (nI t)), some (.int (nI (s - t * wt V 3))), some (.int (nI e)), none, none, none, none, none] [] 75 (W0 D2 r J) 0 0 (.inl (some (.int (enc R)))) 75 (W0 d1 r J) ∧ payd d d1 R) → ∃ d1, SW yX7_payFrom cX7_payFrom 12 (some .int) [] 2 none 70 [some (.ref 65), some (.int (nI a)), some (.int (nI s)), some (.int (enc b)), some (.int (nI t)), some (.int (nI (s - t * wt V 3))), some (.int (nI e)), some (.int (nI (s - (t * wt V 3 + e * wt V 2)))), some (.int (pr k)), none, none, none] [] 75 (W0 D r J) 0 0 (.inl (some (.int (enc R)))) 75 (W0 d1 r J) ∧ payd d d1 R := by
  have c0 := cp_le okc ha (c := 0) (by decide)
  have c1 := cp_le okc ha (c := 1) (by decide)
  have c2 := cp_le okc ha (c := 2) (by decide)
  have c3 := cp_le okc ha (c := 3) (by decide)
  have w0 : V 7 = nI (wt V 0) ∧ 1 ≤ wt V 0 ∧ wt V 0 ≤ 9 := okw 0 (by decide)
  have w1 : V 8 = nI (wt V 1) ∧ 1 ≤ wt V 1 ∧ wt V 1 ≤ 9 := okw 1 (by decide)
  have w2 : V 9 = nI (wt V 2) ∧ 1 ≤ wt V 2 ∧ wt V 2 ≤ 9 := okw 2 (by decide)
  have w3 : V 10 = nI (wt V 3) ∧ 1 ≤ wt V 3 ∧ wt V 3 ≤ 9 := okw 3 (by decide)
  intro k
  induction k with
  | zero =>
    intro D b hk hf hp hx
    obtain ⟨d1, g1, g2⟩ := hx D hp
    refine ⟨d1, ?_, g2⟩
    refine sw_iload (i := 8) dX7_payFrom_70 rfl ?_
    refine sw_if_lt (tgt := 193) dX7_payFrom_72 rfl (fun _ => ?_) (fun h9 => absurd (by decide) h9)
    refine sw_sub ?_ g1
    exact ⟨rfl, rfl, rfl, rfl, rfl, rfl, rfl, trivial⟩
  | succ f ih =>
    intro D b hk hf hp hx
    have hff := hf f (by omega)
    have hVD : mV D = V := (mV_keep (hp.1 66 (by decide))).trans hV
    have hz : ((s - (t * wt V 3 + e * wt V 2 + f * wt V 1)) / wt V 0) ≤ (s - (t * wt V 3 + e * wt V 2 + f * wt V 1)) := Nat.div_le_self _ _
    have hzw : ((s - (t * wt V 3 + e * wt V 2 + f * wt V 1)) / wt V 0) * wt V 0 ≤ (s - (t * wt V 3 + e * wt V 2 + f * wt V 1)) := Nat.div_mul_le_self _ _
    have g0 : OP kX7_capsOf yX7_capsOf 0 [.ref 65, .int (nI a), .int (nI 0)] D r J (some (.int (nI (cp V a 0)))) D r J := by
      have h9 := A_X7_capsOf (d := D) (r := r) (J := J) (a := a) (c := 0) ha (by decide)
      rw [hVD, okc.1 (a * 4 + 0) (by omega)] at h9
      exact h9
    rw [m1_s] at hx
    by_cases h1 : (s - (t * wt V 3 + e * wt V 2 + f * wt V 1)) % wt V 0 = 0
    · by_cases h2 : ((s - (t * wt V 3 + e * wt V 2 + f * wt V 1)) / wt V 0) ≤ cp V a 0
      · by_cases h3 : btr b (t + e + f + ((s - (t * wt V 3 + e * wt V 2 + f * wt V 1)) / wt V 0))
        · have hb : mb V a s t e f b = some (((s - (t * wt V 3 + e * wt V 2 + f * wt V 1)) / wt V 0), f, e, t) := by
            unfold mb
            rw [bt_yes hff h1 h2 h3]
          rw [hb] at hx
          have hp2 := mnote_d hp (z := ((s - (t * wt V 3 + e * wt V 2 + f * wt V 1)) / wt V 0)) (f := f) (e := e) (t := t) (by omega)
          obtain ⟨d1, y1, y2⟩ := ih (mnote D ((s - (t * wt V 3 + e * wt V 2 + f * wt V 1)) / wt V 0) f e t) _ (by omega) (fun f h => hf f (by omega)) hp2 hx
          refine ⟨d1, ?_, y2⟩
          cases b with
          | none =>
            refine sw_lo (lo2 := [some (.ref 65), some (.int (nI a)), some (.int (nI s)), some (.int _), some (.int (nI t)), some (.int (nI (s - t * wt V 3))), some (.int (nI e)), some (.int (nI (s - (t * wt V 3 + e * wt V 2)))), some (.int (nI f)), none, none, none]) rfl ?_
            refine sw_iload (i := 8) dX7_payFrom_70 rfl ?_
            refine sw_if_lt (tgt := 193) dX7_payFrom_72 rfl (fun h9 => absurd h9 (nI_pos (by omega))) (fun _ => ?_)
            refine sw_iload (i := 7) dX7_payFrom_75 rfl ?_
            refine sw_iload (i := 8) dX7_payFrom_77 rfl ?_
            refine sw_aload_n (i := 0) dX7_payFrom_79 rfl rfl ?_
            refine sx_getR (q := 66) f_X7_7 (by decide) kr_65_0 dX7_payFrom_80 ?_
            refine sw_bi 8 dX7_payFrom_83 (by decide +kernel) ?_
            refine sw_ins (pc2 := 85) rfl rfl ?_
            refine sx_ialdE (8) (nI (wt V 1)) ((mV_in D (by decide) rfl).trans ((congrFun hVD _).trans w1.1)) rfl rfl (by omega) dX7_payFrom_85 ?_
            refine sw_imul dX7_payFrom_86 ?_
            refine sw_isub dX7_payFrom_87 ?_
            refine sw_topE (v := nI (s - (t * wt V 3 + e * wt V 2 + f * wt V 1))) (by rw [pk_mul, pk_sub (by omega)]; congr 1; omega) ?_
            refine sw_istore (i := 9) dX7_payFrom_88 (Nat.le_of_ble_eq_true rfl) rfl ?_
            refine sw_lo (lo2 := [some (.ref 65), some (.int _), some (.int _), some (.int _), some (.int _), some (.int _), some (.int _), some (.int _), some (.int _), some (.int _), none, none]) rfl ?_
            refine sw_iload (i := 9) dX7_payFrom_90 rfl ?_
            refine sw_aload_n (i := 0) dX7_payFrom_92 rfl rfl ?_
            refine sx_getR (q := 66) f_X7_7 (by decide) kr_65_0 dX7_payFrom_93 ?_
            refine sw_bi 7 dX7_payFrom_96 (by decide +kernel) ?_
            refine sw_ins (pc2 := 98) rfl rfl ?_
            refine sx_ialdE (7) (nI (wt V 0)) ((mV_in D (by decide) rfl).trans ((congrFun hVD _).trans w0.1)) rfl rfl (by omega) dX7_payFrom_98 ?_
            refine sw_idiv (nI_ne0 (by omega) (by omega)) dX7_payFrom_99 ?_
            refine sw_topE (v := nI ((s - (t * wt V 3 + e * wt V 2 + f * wt V 1)) / wt V 0)) (pk_div (by omega) (by omega) (by omega)) ?_
            refine sw_istore (i := 10) dX7_payFrom_100 (Nat.le_of_ble_eq_true rfl) rfl ?_
            refine sw_lo (lo2 := [some (.ref 65), some (.int _), some (.int _), some (.int _), some (.int _), some (.int _), some (.int _), some (.int _), some (.int _), some (.int _), some (.int _), none]) rfl ?_
            refine sw_iload (i := 4) dX7_payFrom_102 rfl ?_
            refine sw_iload (i := 6) dX7_payFrom_104 rfl ?_
            refine sw_iadd dX7_payFrom_106 ?_
            refine sw_iload (i := 8) dX7_payFrom_107 rfl ?_
            refine sw_iadd dX7_payFrom_109 ?_
            refine sw_ins (pc2 := 110) rfl rfl ?_
            refine sw_iload (i := 10) dX7_payFrom_110 rfl ?_
            refine sw_iadd dX7_payFrom_112 ?_
            refine sw_topE (v := nI (t + e + f + ((s - (t * wt V 3 + e * wt V 2 + f * wt V 1)) / wt V 0))) (by simp only [nI_add]) ?_
            refine sw_istore (i := 11) dX7_payFrom_113 (Nat.le_of_ble_eq_true rfl) rfl ?_
            refine sw_lo (lo2 := [some (.ref 65), some (.int _), some (.int _), some (.int _), some (.int _), some (.int _), some (.int _), some (.int _), some (.int _), some (.int _), some (.int _), some (.int _)]) rfl ?_
            refine sw_iload (i := 10) dX7_payFrom_115 rfl ?_
            refine sw_aload_n (i := 0) dX7_payFrom_117 rfl rfl ?_
            refine sx_getR (q := 66) f_X7_7 (by decide) kr_65_0 dX7_payFrom_118 ?_
            refine sw_bi 7 dX7_payFrom_121 (by decide +kernel) ?_
            refine sx_ialdE (7) (nI (wt V 0)) ((mV_in D (by decide) rfl).trans ((congrFun hVD _).trans w0.1)) rfl rfl (by omega) dX7_payFrom_123 ?_
            refine sw_ins (pc2 := 124) rfl rfl ?_
            refine sw_imul dX7_payFrom_124 ?_
            refine sw_topE (v := nI (((s - (t * wt V 3 + e * wt V 2 + f * wt V 1)) / wt V 0) * wt V 0)) (pk_mul _ _) ?_
            refine sw_iload (i := 9) dX7_payFrom_125 rfl ?_
            refine sw_ic_ne (tgt := 187) dX7_payFrom_127 rfl (fun h9 => absurd (by rw [(zw_eq (by omega)).mpr h1]) h9) (fun _ => ?_)
            refine sw_iload (i := 10) dX7_payFrom_130 rfl ?_
            refine sw_aload_n (i := 0) dX7_payFrom_132 rfl rfl ?_
            refine sw_iload_n (i := 1) dX7_payFrom_133 rfl rfl ?_
            refine sw_ic 0 dX7_payFrom_134 ?_
            refine px_Vx mv_X7_50 g0 rfl rfl (Nat.le_of_ble_eq_true rfl) (Nat.le_of_ble_eq_true rfl) ko_65 (Nat.le_of_ble_eq_true rfl) dX7_payFrom_135 ?_
            refine sw_ins (pc2 := 138) rfl rfl ?_
            refine sw_ic_gt (tgt := 187) dX7_payFrom_138 rfl (fun h9 => absurd h9 (Int32.not_lt.mpr (nI_le h2 (by omega)))) (fun _ => ?_)
            refine sw_iload_n (i := 3) dX7_payFrom_141 rfl rfl ?_
            refine sw_im1 dX7_payFrom_142 ?_
            refine sw_ic_eq (tgt := 152) dX7_payFrom_143 rfl (fun _ => ?_) (fun h9 => absurd rfl h9)
            refine sw_iload (i := 11) dX7_payFrom_152 rfl ?_
            refine sw_istore_n (i := 3) dX7_payFrom_154 rfl (Nat.le_of_ble_eq_true rfl) rfl ?_
            refine sw_lo (lo2 := [some (.ref 65), some (.int _), some (.int _), some (.int _), some (.int _), some (.int _), some (.int _), some (.int _), some (.int _), some (.int _), some (.int _), some (.int _)]) rfl ?_
            refine sw_aload_n (i := 0) dX7_payFrom_155 rfl rfl ?_
            refine sx_getR (q := 71) f_X7_26 (by decide) kr_65_8 dX7_payFrom_156 ?_
            refine sw_ins (pc2 := 159) rfl rfl ?_
            refine sw_ic 0 dX7_payFrom_159 ?_
            refine sw_iload (i := 10) dX7_payFrom_160 rfl ?_
            refine sx_iast (0) rfl rfl (by omega) dX7_payFrom_162 ?_
            refine sw_aload_n (i := 0) dX7_payFrom_163 rfl rfl ?_
            refine sx_getR (q := 71) f_X7_26 (by decide) kr_65_8 dX7_payFrom_164 ?_
            refine sw_ic 1 dX7_payFrom_167 ?_
            refine sw_iload (i := 8) dX7_payFrom_168 rfl ?_
            refine sx_iast (1) rfl rfl (by omega) dX7_payFrom_170 ?_
            refine sw_ins (pc2 := 171) rfl rfl ?_
            refine sw_aload_n (i := 0) dX7_payFrom_171 rfl rfl ?_
            refine sx_getR (q := 71) f_X7_26 (by decide) kr_65_8 dX7_payFrom_172 ?_
            refine sw_ic 2 dX7_payFrom_175 ?_
            refine sw_iload (i := 6) dX7_payFrom_176 rfl ?_
            refine sx_iast (2) rfl rfl (by omega) dX7_payFrom_178 ?_
            refine sw_aload_n (i := 0) dX7_payFrom_179 rfl rfl ?_
            refine sx_getR (q := 71) f_X7_26 (by decide) kr_65_8 dX7_payFrom_180 ?_
            refine sw_ic 3 dX7_payFrom_183 ?_
            refine sw_ins (pc2 := 184) rfl rfl ?_
            refine sw_iload (i := 4) dX7_payFrom_184 rfl ?_
            refine sx_iast (3) rfl rfl (by omega) dX7_payFrom_186 ?_
            refine sw_iinc (i := 8) (v := pr f) dX7_payFrom_187 rfl (pr_dec f) (Nat.le_of_ble_eq_true rfl) rfl ?_
            refine sw_lo (lo2 := [some (.ref 65), some (.int _), some (.int _), some (.int _), some (.int _), some (.int _), some (.int _), some (.int _), some (.int _), some (.int _), some (.int _), some (.int _)]) rfl ?_
            refine sw_goto (tgt := 70) dX7_payFrom_190 rfl ?_
            refine sw_sub ?_ y1
            exact ⟨rfl, rfl, rfl, rfl, rfl, rfl, rfl, rfl, rfl, trivial⟩
          | some w =>
            obtain ⟨z0, f0, e0, t0⟩ := w
            have hsm : t0 + e0 + f0 + z0 < 2 ^ 20 := hp.2.1
            have h3 : t + e + f + ((s - (t * wt V 3 + e * wt V 2 + f * wt V 1)) / wt V 0) < t0 + e0 + f0 + z0 := h3
            refine sw_lo (lo2 := [some (.ref 65), some (.int (nI a)), some (.int (nI s)), some (.int _), some (.int (nI t)), some (.int (nI (s - t * wt V 3))), some (.int (nI e)), some (.int (nI (s - (t * wt V 3 + e * wt V 2)))), some (.int (nI f)), none, none, none]) rfl ?_
            refine sw_iload (i := 8) dX7_payFrom_70 rfl ?_
            refine sw_if_lt (tgt := 193) dX7_payFrom_72 rfl (fun h9 => absurd h9 (nI_pos (by omega))) (fun _ => ?_)
            refine sw_iload (i := 7) dX7_payFrom_75 rfl ?_
            refine sw_iload (i := 8) dX7_payFrom_77 rfl ?_
            refine sw_aload_n (i := 0) dX7_payFrom_79 rfl rfl ?_
            refine sx_getR (q := 66) f_X7_7 (by decide) kr_65_0 dX7_payFrom_80 ?_
            refine sw_bi 8 dX7_payFrom_83 (by decide +kernel) ?_
            refine sw_ins (pc2 := 85) rfl rfl ?_
            refine sx_ialdE (8) (nI (wt V 1)) ((mV_in D (by decide) rfl).trans ((congrFun hVD _).trans w1.1)) rfl rfl (by omega) dX7_payFrom_85 ?_
            refine sw_imul dX7_payFrom_86 ?_
            refine sw_isub dX7_payFrom_87 ?_
            refine sw_topE (v := nI (s - (t * wt V 3 + e * wt V 2 + f * wt V 1))) (by rw [pk_mul, pk_sub (by omega)]; congr 1; omega) ?_
            refine sw_istore (i := 9) dX7_payFrom_88 (Nat.le_of_ble_eq_true rfl) rfl ?_
            refine sw_lo (lo2 := [some (.ref 65), some (.int _), some (.int _), some (.int _), some (.int _), some (.int _), some (.int _), some (.int _), some (.int _), some (.int _), none, none]) rfl ?_
            refine sw_iload (i := 9) dX7_payFrom_90 rfl ?_
            refine sw_aload_n (i := 0) dX7_payFrom_92 rfl rfl ?_
            refine sx_getR (q := 66) f_X7_7 (by decide) kr_65_0 dX7_payFrom_93 ?_
            refine sw_bi 7 dX7_payFrom_96 (by decide +kernel) ?_
            refine sw_ins (pc2 := 98) rfl rfl ?_
            refine sx_ialdE (7) (nI (wt V 0)) ((mV_in D (by decide) rfl).trans ((congrFun hVD _).trans w0.1)) rfl rfl (by omega) dX7_payFrom_98 ?_
            refine sw_idiv (nI_ne0 (by omega) (by omega)) dX7_payFrom_99 ?_
            refine sw_topE (v := nI ((s - (t * wt V 3 + e * wt V 2 + f * wt V 1)) / wt V 0)) (pk_div (by omega) (by omega) (by omega)) ?_
            refine sw_istore (i := 10) dX7_payFrom_100 (Nat.le_of_ble_eq_true rfl) rfl ?_
            refine sw_lo (lo2 := [some (.ref 65), some (.int _), some (.int _), some (.int _), some (.int _), some (.int _), some (.int _), some (.int _), some (.int _), some (.int _), some (.int _), none]) rfl ?_
            refine sw_iload (i := 4) dX7_payFrom_102 rfl ?_
            refine sw_iload (i := 6) dX7_payFrom_104 rfl ?_
            refine sw_iadd dX7_payFrom_106 ?_
            refine sw_iload (i := 8) dX7_payFrom_107 rfl ?_
            refine sw_iadd dX7_payFrom_109 ?_
            refine sw_ins (pc2 := 110) rfl rfl ?_
            refine sw_iload (i := 10) dX7_payFrom_110 rfl ?_
            refine sw_iadd dX7_payFrom_112 ?_
            refine sw_topE (v := nI (t + e + f + ((s - (t * wt V 3 + e * wt V 2 + f * wt V 1)) / wt V 0))) (by simp only [nI_add]) ?_
            refine sw_istore (i := 11) dX7_payFrom_113 (Nat.le_of_ble_eq_true rfl) rfl ?_
            refine sw_lo (lo2 := [some (.ref 65), some (.int _), some (.int _), some (.int _), some (.int _), some (.int _), some (.int _), some (.int _), some (.int _), some (.int _), some (.int _), some (.int _)]) rfl ?_
            refine sw_iload (i := 10) dX7_payFrom_115 rfl ?_
            refine sw_aload_n (i := 0) dX7_payFrom_117 rfl rfl ?_
            refine sx_getR (q := 66) f_X7_7 (by decide) kr_65_0 dX7_payFrom_118 ?_
            refine sw_bi 7 dX7_payFrom_121 (by decide +kernel) ?_
            refine sx_ialdE (7) (nI (wt V 0)) ((mV_in D (by decide) rfl).trans ((congrFun hVD _).trans w0.1)) rfl rfl (by omega) dX7_payFrom_123 ?_
            refine sw_ins (pc2 := 124) rfl rfl ?_
            refine sw_imul dX7_payFrom_124 ?_
            refine sw_topE (v := nI (((s - (t * wt V 3 + e * wt V 2 + f * wt V 1)) / wt V 0) * wt V 0)) (pk_mul _ _) ?_
            refine sw_iload (i := 9) dX7_payFrom_125 rfl ?_
            refine sw_ic_ne (tgt := 187) dX7_payFrom_127 rfl (fun h9 => absurd (by rw [(zw_eq (by omega)).mpr h1]) h9) (fun _ => ?_)
            refine sw_iload (i := 10) dX7_payFrom_130 rfl ?_
            refine sw_aload_n (i := 0) dX7_payFrom_132 rfl rfl ?_
            refine sw_iload_n (i := 1) dX7_payFrom_133 rfl rfl ?_
            refine sw_ic 0 dX7_payFrom_134 ?_
            refine px_Vx mv_X7_50 g0 rfl rfl (Nat.le_of_ble_eq_true rfl) (Nat.le_of_ble_eq_true rfl) ko_65 (Nat.le_of_ble_eq_true rfl) dX7_payFrom_135 ?_
            refine sw_ins (pc2 := 138) rfl rfl ?_
            refine sw_ic_gt (tgt := 187) dX7_payFrom_138 rfl (fun h9 => absurd h9 (Int32.not_lt.mpr (nI_le h2 (by omega)))) (fun _ => ?_)
            refine sw_iload_n (i := 3) dX7_payFrom_141 rfl rfl ?_
            refine sw_im1 dX7_payFrom_142 ?_
            refine sw_ic_eq (tgt := 152) dX7_payFrom_143 rfl (fun h9 => absurd h9 (nI_ne_m1 (by omega))) (fun _ => ?_)
            refine sw_iload (i := 11) dX7_payFrom_146 rfl ?_
            refine sw_iload_n (i := 3) dX7_payFrom_148 rfl rfl ?_
            refine sw_ic_ge (tgt := 187) dX7_payFrom_149 rfl (fun h9 => absurd h9 (Int32.not_le.mpr (nI_lt h3 (by omega)))) (fun _ => ?_)
            refine sw_iload (i := 11) dX7_payFrom_152 rfl ?_
            refine sw_ins (pc2 := 154) rfl rfl ?_
            refine sw_istore_n (i := 3) dX7_payFrom_154 rfl (Nat.le_of_ble_eq_true rfl) rfl ?_
            refine sw_lo (lo2 := [some (.ref 65), some (.int _), some (.int _), some (.int _), some (.int _), some (.int _), some (.int _), some (.int _), some (.int _), some (.int _), some (.int _), some (.int _)]) rfl ?_
            refine sw_aload_n (i := 0) dX7_payFrom_155 rfl rfl ?_
            refine sx_getR (q := 71) f_X7_26 (by decide) kr_65_8 dX7_payFrom_156 ?_
            refine sw_ic 0 dX7_payFrom_159 ?_
            refine sw_iload (i := 10) dX7_payFrom_160 rfl ?_
            refine sx_iast (0) rfl rfl (by omega) dX7_payFrom_162 ?_
            refine sw_aload_n (i := 0) dX7_payFrom_163 rfl rfl ?_
            refine sx_getR (q := 71) f_X7_26 (by decide) kr_65_8 dX7_payFrom_164 ?_
            refine sw_ins (pc2 := 167) rfl rfl ?_
            refine sw_ic 1 dX7_payFrom_167 ?_
            refine sw_iload (i := 8) dX7_payFrom_168 rfl ?_
            refine sx_iast (1) rfl rfl (by omega) dX7_payFrom_170 ?_
            refine sw_aload_n (i := 0) dX7_payFrom_171 rfl rfl ?_
            refine sx_getR (q := 71) f_X7_26 (by decide) kr_65_8 dX7_payFrom_172 ?_
            refine sw_ic 2 dX7_payFrom_175 ?_
            refine sw_iload (i := 6) dX7_payFrom_176 rfl ?_
            refine sx_iast (2) rfl rfl (by omega) dX7_payFrom_178 ?_
            refine sw_ins (pc2 := 179) rfl rfl ?_
            refine sw_aload_n (i := 0) dX7_payFrom_179 rfl rfl ?_
            refine sx_getR (q := 71) f_X7_26 (by decide) kr_65_8 dX7_payFrom_180 ?_
            refine sw_ic 3 dX7_payFrom_183 ?_
            refine sw_iload (i := 4) dX7_payFrom_184 rfl ?_
            refine sx_iast (3) rfl rfl (by omega) dX7_payFrom_186 ?_
            refine sw_iinc (i := 8) (v := pr f) dX7_payFrom_187 rfl (pr_dec f) (Nat.le_of_ble_eq_true rfl) rfl ?_
            refine sw_lo (lo2 := [some (.ref 65), some (.int _), some (.int _), some (.int _), some (.int _), some (.int _), some (.int _), some (.int _), some (.int _), some (.int _), some (.int _), some (.int _)]) rfl ?_
            refine sw_goto (tgt := 70) dX7_payFrom_190 rfl ?_
            refine sw_sub ?_ y1
            exact ⟨rfl, rfl, rfl, rfl, rfl, rfl, rfl, rfl, rfl, trivial⟩
        ·
          have hb : mb V a s t e f b = b := by
            unfold mb
            rw [bt_no (fun c9 => h3 c9.2.2.2)]
          rw [hb] at hx
          obtain ⟨d1, y1, y2⟩ := ih D b (by omega) (fun f h => hf f (by omega)) hp hx
          refine ⟨d1, ?_, y2⟩
          cases b with
          | none => exact absurd trivial h3
          | some w =>
            obtain ⟨z0, f0, e0, t0⟩ := w
            have hsm : t0 + e0 + f0 + z0 < 2 ^ 20 := hp.2.1
            have h3 : ¬ t + e + f + ((s - (t * wt V 3 + e * wt V 2 + f * wt V 1)) / wt V 0) < t0 + e0 + f0 + z0 := h3
            refine sw_lo (lo2 := [some (.ref 65), some (.int (nI a)), some (.int (nI s)), some (.int _), some (.int (nI t)), some (.int (nI (s - t * wt V 3))), some (.int (nI e)), some (.int (nI (s - (t * wt V 3 + e * wt V 2)))), some (.int (nI f)), none, none, none]) rfl ?_
            refine sw_iload (i := 8) dX7_payFrom_70 rfl ?_
            refine sw_if_lt (tgt := 193) dX7_payFrom_72 rfl (fun h9 => absurd h9 (nI_pos (by omega))) (fun _ => ?_)
            refine sw_iload (i := 7) dX7_payFrom_75 rfl ?_
            refine sw_iload (i := 8) dX7_payFrom_77 rfl ?_
            refine sw_aload_n (i := 0) dX7_payFrom_79 rfl rfl ?_
            refine sx_getR (q := 66) f_X7_7 (by decide) kr_65_0 dX7_payFrom_80 ?_
            refine sw_bi 8 dX7_payFrom_83 (by decide +kernel) ?_
            refine sw_ins (pc2 := 85) rfl rfl ?_
            refine sx_ialdE (8) (nI (wt V 1)) ((mV_in D (by decide) rfl).trans ((congrFun hVD _).trans w1.1)) rfl rfl (by omega) dX7_payFrom_85 ?_
            refine sw_imul dX7_payFrom_86 ?_
            refine sw_isub dX7_payFrom_87 ?_
            refine sw_topE (v := nI (s - (t * wt V 3 + e * wt V 2 + f * wt V 1))) (by rw [pk_mul, pk_sub (by omega)]; congr 1; omega) ?_
            refine sw_istore (i := 9) dX7_payFrom_88 (Nat.le_of_ble_eq_true rfl) rfl ?_
            refine sw_lo (lo2 := [some (.ref 65), some (.int _), some (.int _), some (.int _), some (.int _), some (.int _), some (.int _), some (.int _), some (.int _), some (.int _), none, none]) rfl ?_
            refine sw_iload (i := 9) dX7_payFrom_90 rfl ?_
            refine sw_aload_n (i := 0) dX7_payFrom_92 rfl rfl ?_
            refine sx_getR (q := 66) f_X7_7 (by decide) kr_65_0 dX7_payFrom_93 ?_
            refine sw_bi 7 dX7_payFrom_96 (by decide +kernel) ?_
            refine sw_ins (pc2 := 98) rfl rfl ?_
            refine sx_ialdE (7) (nI (wt V 0)) ((mV_in D (by decide) rfl).trans ((congrFun hVD _).trans w0.1)) rfl rfl (by omega) dX7_payFrom_98 ?_
            refine sw_idiv (nI_ne0 (by omega) (by omega)) dX7_payFrom_99 ?_
            refine sw_topE (v := nI ((s - (t * wt V 3 + e * wt V 2 + f * wt V 1)) / wt V 0)) (pk_div (by omega) (by omega) (by omega)) ?_
            refine sw_istore (i := 10) dX7_payFrom_100 (Nat.le_of_ble_eq_true rfl) rfl ?_
            refine sw_lo (lo2 := [some (.ref 65), some (.int _), some (.int _), some (.int _), some (.int _), some (.int _), some (.int _), some (.int _), some (.int _), some (.int _), some (.int _), none]) rfl ?_
            refine sw_iload (i := 4) dX7_payFrom_102 rfl ?_
            refine sw_iload (i := 6) dX7_payFrom_104 rfl ?_
            refine sw_iadd dX7_payFrom_106 ?_
            refine sw_iload (i := 8) dX7_payFrom_107 rfl ?_
            refine sw_iadd dX7_payFrom_109 ?_
            refine sw_ins (pc2 := 110) rfl rfl ?_
            refine sw_iload (i := 10) dX7_payFrom_110 rfl ?_
            refine sw_iadd dX7_payFrom_112 ?_
            refine sw_topE (v := nI (t + e + f + ((s - (t * wt V 3 + e * wt V 2 + f * wt V 1)) / wt V 0))) (by simp only [nI_add]) ?_
            refine sw_istore (i := 11) dX7_payFrom_113 (Nat.le_of_ble_eq_true rfl) rfl ?_
            refine sw_lo (lo2 := [some (.ref 65), some (.int _), some (.int _), some (.int _), some (.int _), some (.int _), some (.int _), some (.int _), some (.int _), some (.int _), some (.int _), some (.int _)]) rfl ?_
            refine sw_iload (i := 10) dX7_payFrom_115 rfl ?_
            refine sw_aload_n (i := 0) dX7_payFrom_117 rfl rfl ?_
            refine sx_getR (q := 66) f_X7_7 (by decide) kr_65_0 dX7_payFrom_118 ?_
            refine sw_bi 7 dX7_payFrom_121 (by decide +kernel) ?_
            refine sx_ialdE (7) (nI (wt V 0)) ((mV_in D (by decide) rfl).trans ((congrFun hVD _).trans w0.1)) rfl rfl (by omega) dX7_payFrom_123 ?_
            refine sw_ins (pc2 := 124) rfl rfl ?_
            refine sw_imul dX7_payFrom_124 ?_
            refine sw_topE (v := nI (((s - (t * wt V 3 + e * wt V 2 + f * wt V 1)) / wt V 0) * wt V 0)) (pk_mul _ _) ?_
            refine sw_iload (i := 9) dX7_payFrom_125 rfl ?_
            refine sw_ic_ne (tgt := 187) dX7_payFrom_127 rfl (fun h9 => absurd (by rw [(zw_eq (by omega)).mpr h1]) h9) (fun _ => ?_)
            refine sw_iload (i := 10) dX7_payFrom_130 rfl ?_
            refine sw_aload_n (i := 0) dX7_payFrom_132 rfl rfl ?_
            refine sw_iload_n (i := 1) dX7_payFrom_133 rfl rfl ?_
            refine sw_ic 0 dX7_payFrom_134 ?_
            refine px_Vx mv_X7_50 g0 rfl rfl (Nat.le_of_ble_eq_true rfl) (Nat.le_of_ble_eq_true rfl) ko_65 (Nat.le_of_ble_eq_true rfl) dX7_payFrom_135 ?_
            refine sw_ins (pc2 := 138) rfl rfl ?_
            refine sw_ic_gt (tgt := 187) dX7_payFrom_138 rfl (fun h9 => absurd h9 (Int32.not_lt.mpr (nI_le h2 (by omega)))) (fun _ => ?_)
            refine sw_iload_n (i := 3) dX7_payFrom_141 rfl rfl ?_
            refine sw_im1 dX7_payFrom_142 ?_
            refine sw_ic_eq (tgt := 152) dX7_payFrom_143 rfl (fun h9 => absurd h9 (nI_ne_m1 (by omega))) (fun _ => ?_)
            refine sw_iload (i := 11) dX7_payFrom_146 rfl ?_
            refine sw_iload_n (i := 3) dX7_payFrom_148 rfl rfl ?_
            refine sw_ic_ge (tgt := 187) dX7_payFrom_149 rfl (fun _ => ?_) (fun h9 => absurd (nI_le (by omega) (by omega)) h9)
            refine sw_iinc (i := 8) (v := pr f) dX7_payFrom_187 rfl (pr_dec f) (Nat.le_of_ble_eq_true rfl) rfl ?_
            refine sw_lo (lo2 := [some (.ref 65), some (.int _), some (.int _), some (.int _), some (.int _), some (.int _), some (.int _), some (.int _), some (.int _), some (.int _), some (.int _), some (.int _)]) rfl ?_
            refine sw_ins (pc2 := 190) rfl rfl ?_
            refine sw_goto (tgt := 70) dX7_payFrom_190 rfl ?_
            refine sw_sub ?_ y1
            exact ⟨rfl, rfl, rfl, rfl, rfl, rfl, rfl, rfl, rfl, trivial⟩
      ·
        have hb : mb V a s t e f b = b := by
          unfold mb
          rw [bt_no (fun c9 => h2 c9.2.2.1)]
        rw [hb] at hx
        obtain ⟨d1, y1, y2⟩ := ih D b (by omega) (fun f h => hf f (by omega)) hp hx
        refine ⟨d1, ?_, y2⟩
        refine sw_lo (lo2 := [some (.ref 65), some (.int (nI a)), some (.int (nI s)), some (.int _), some (.int (nI t)), some (.int (nI (s - t * wt V 3))), some (.int (nI e)), some (.int (nI (s - (t * wt V 3 + e * wt V 2)))), some (.int (nI f)), none, none, none]) rfl ?_
        refine sw_iload (i := 8) dX7_payFrom_70 rfl ?_
        refine sw_if_lt (tgt := 193) dX7_payFrom_72 rfl (fun h9 => absurd h9 (nI_pos (by omega))) (fun _ => ?_)
        refine sw_iload (i := 7) dX7_payFrom_75 rfl ?_
        refine sw_iload (i := 8) dX7_payFrom_77 rfl ?_
        refine sw_aload_n (i := 0) dX7_payFrom_79 rfl rfl ?_
        refine sx_getR (q := 66) f_X7_7 (by decide) kr_65_0 dX7_payFrom_80 ?_
        refine sw_bi 8 dX7_payFrom_83 (by decide +kernel) ?_
        refine sw_ins (pc2 := 85) rfl rfl ?_
        refine sx_ialdE (8) (nI (wt V 1)) ((mV_in D (by decide) rfl).trans ((congrFun hVD _).trans w1.1)) rfl rfl (by omega) dX7_payFrom_85 ?_
        refine sw_imul dX7_payFrom_86 ?_
        refine sw_isub dX7_payFrom_87 ?_
        refine sw_topE (v := nI (s - (t * wt V 3 + e * wt V 2 + f * wt V 1))) (by rw [pk_mul, pk_sub (by omega)]; congr 1; omega) ?_
        refine sw_istore (i := 9) dX7_payFrom_88 (Nat.le_of_ble_eq_true rfl) rfl ?_
        refine sw_lo (lo2 := [some (.ref 65), some (.int _), some (.int _), some (.int _), some (.int _), some (.int _), some (.int _), some (.int _), some (.int _), some (.int _), none, none]) rfl ?_
        refine sw_iload (i := 9) dX7_payFrom_90 rfl ?_
        refine sw_aload_n (i := 0) dX7_payFrom_92 rfl rfl ?_
        refine sx_getR (q := 66) f_X7_7 (by decide) kr_65_0 dX7_payFrom_93 ?_
        refine sw_bi 7 dX7_payFrom_96 (by decide +kernel) ?_
        refine sw_ins (pc2 := 98) rfl rfl ?_
        refine sx_ialdE (7) (nI (wt V 0)) ((mV_in D (by decide) rfl).trans ((congrFun hVD _).trans w0.1)) rfl rfl (by omega) dX7_payFrom_98 ?_
        refine sw_idiv (nI_ne0 (by omega) (by omega)) dX7_payFrom_99 ?_
        refine sw_topE (v := nI ((s - (t * wt V 3 + e * wt V 2 + f * wt V 1)) / wt V 0)) (pk_div (by omega) (by omega) (by omega)) ?_
        refine sw_istore (i := 10) dX7_payFrom_100 (Nat.le_of_ble_eq_true rfl) rfl ?_
        refine sw_lo (lo2 := [some (.ref 65), some (.int _), some (.int _), some (.int _), some (.int _), some (.int _), some (.int _), some (.int _), some (.int _), some (.int _), some (.int _), none]) rfl ?_
        refine sw_iload (i := 4) dX7_payFrom_102 rfl ?_
        refine sw_iload (i := 6) dX7_payFrom_104 rfl ?_
        refine sw_iadd dX7_payFrom_106 ?_
        refine sw_iload (i := 8) dX7_payFrom_107 rfl ?_
        refine sw_iadd dX7_payFrom_109 ?_
        refine sw_ins (pc2 := 110) rfl rfl ?_
        refine sw_iload (i := 10) dX7_payFrom_110 rfl ?_
        refine sw_iadd dX7_payFrom_112 ?_
        refine sw_topE (v := nI (t + e + f + ((s - (t * wt V 3 + e * wt V 2 + f * wt V 1)) / wt V 0))) (by simp only [nI_add]) ?_
        refine sw_istore (i := 11) dX7_payFrom_113 (Nat.le_of_ble_eq_true rfl) rfl ?_
        refine sw_lo (lo2 := [some (.ref 65), some (.int _), some (.int _), some (.int _), some (.int _), some (.int _), some (.int _), some (.int _), some (.int _), some (.int _), some (.int _), some (.int _)]) rfl ?_
        refine sw_iload (i := 10) dX7_payFrom_115 rfl ?_
        refine sw_aload_n (i := 0) dX7_payFrom_117 rfl rfl ?_
        refine sx_getR (q := 66) f_X7_7 (by decide) kr_65_0 dX7_payFrom_118 ?_
        refine sw_bi 7 dX7_payFrom_121 (by decide +kernel) ?_
        refine sx_ialdE (7) (nI (wt V 0)) ((mV_in D (by decide) rfl).trans ((congrFun hVD _).trans w0.1)) rfl rfl (by omega) dX7_payFrom_123 ?_
        refine sw_ins (pc2 := 124) rfl rfl ?_
        refine sw_imul dX7_payFrom_124 ?_
        refine sw_topE (v := nI (((s - (t * wt V 3 + e * wt V 2 + f * wt V 1)) / wt V 0) * wt V 0)) (pk_mul _ _) ?_
        refine sw_iload (i := 9) dX7_payFrom_125 rfl ?_
        refine sw_ic_ne (tgt := 187) dX7_payFrom_127 rfl (fun h9 => absurd (by rw [(zw_eq (by omega)).mpr h1]) h9) (fun _ => ?_)
        refine sw_iload (i := 10) dX7_payFrom_130 rfl ?_
        refine sw_aload_n (i := 0) dX7_payFrom_132 rfl rfl ?_
        refine sw_iload_n (i := 1) dX7_payFrom_133 rfl rfl ?_
        refine sw_ic 0 dX7_payFrom_134 ?_
        refine px_Vx mv_X7_50 g0 rfl rfl (Nat.le_of_ble_eq_true rfl) (Nat.le_of_ble_eq_true rfl) ko_65 (Nat.le_of_ble_eq_true rfl) dX7_payFrom_135 ?_
        refine sw_ins (pc2 := 138) rfl rfl ?_
        refine sw_ic_gt (tgt := 187) dX7_payFrom_138 rfl (fun _ => ?_) (fun h9 => absurd (nI_lt (by omega) (by omega)) h9)
        refine sw_iinc (i := 8) (v := pr f) dX7_payFrom_187 rfl (pr_dec f) (Nat.le_of_ble_eq_true rfl) rfl ?_
        refine sw_lo (lo2 := [some (.ref 65), some (.int _), some (.int _), some (.int _), some (.int _), some (.int _), some (.int _), some (.int _), some (.int _), some (.int _), some (.int _), some (.int _)]) rfl ?_
        refine sw_goto (tgt := 70) dX7_payFrom_190 rfl ?_
        refine sw_sub ?_ y1
        exact ⟨rfl, rfl, rfl, rfl, rfl, rfl, rfl, rfl, rfl, trivial⟩
    ·
      have hb : mb V a s t e f b = b := by
        unfold mb
        rw [bt_no (fun c9 => h1 c9.2.1)]
      rw [hb] at hx
      obtain ⟨d1, y1, y2⟩ := ih D b (by omega) (fun f h => hf f (by omega)) hp hx
      refine ⟨d1, ?_, y2⟩
      refine sw_lo (lo2 := [some (.ref 65), some (.int (nI a)), some (.int (nI s)), some (.int _), some (.int (nI t)), some (.int (nI (s - t * wt V 3))), some (.int (nI e)), some (.int (nI (s - (t * wt V 3 + e * wt V 2)))), some (.int (nI f)), none, none, none]) rfl ?_
      refine sw_iload (i := 8) dX7_payFrom_70 rfl ?_
      refine sw_if_lt (tgt := 193) dX7_payFrom_72 rfl (fun h9 => absurd h9 (nI_pos (by omega))) (fun _ => ?_)
      refine sw_iload (i := 7) dX7_payFrom_75 rfl ?_
      refine sw_iload (i := 8) dX7_payFrom_77 rfl ?_
      refine sw_aload_n (i := 0) dX7_payFrom_79 rfl rfl ?_
      refine sx_getR (q := 66) f_X7_7 (by decide) kr_65_0 dX7_payFrom_80 ?_
      refine sw_bi 8 dX7_payFrom_83 (by decide +kernel) ?_
      refine sw_ins (pc2 := 85) rfl rfl ?_
      refine sx_ialdE (8) (nI (wt V 1)) ((mV_in D (by decide) rfl).trans ((congrFun hVD _).trans w1.1)) rfl rfl (by omega) dX7_payFrom_85 ?_
      refine sw_imul dX7_payFrom_86 ?_
      refine sw_isub dX7_payFrom_87 ?_
      refine sw_topE (v := nI (s - (t * wt V 3 + e * wt V 2 + f * wt V 1))) (by rw [pk_mul, pk_sub (by omega)]; congr 1; omega) ?_
      refine sw_istore (i := 9) dX7_payFrom_88 (Nat.le_of_ble_eq_true rfl) rfl ?_
      refine sw_lo (lo2 := [some (.ref 65), some (.int _), some (.int _), some (.int _), some (.int _), some (.int _), some (.int _), some (.int _), some (.int _), some (.int _), none, none]) rfl ?_
      refine sw_iload (i := 9) dX7_payFrom_90 rfl ?_
      refine sw_aload_n (i := 0) dX7_payFrom_92 rfl rfl ?_
      refine sx_getR (q := 66) f_X7_7 (by decide) kr_65_0 dX7_payFrom_93 ?_
      refine sw_bi 7 dX7_payFrom_96 (by decide +kernel) ?_
      refine sw_ins (pc2 := 98) rfl rfl ?_
      refine sx_ialdE (7) (nI (wt V 0)) ((mV_in D (by decide) rfl).trans ((congrFun hVD _).trans w0.1)) rfl rfl (by omega) dX7_payFrom_98 ?_
      refine sw_idiv (nI_ne0 (by omega) (by omega)) dX7_payFrom_99 ?_
      refine sw_topE (v := nI ((s - (t * wt V 3 + e * wt V 2 + f * wt V 1)) / wt V 0)) (pk_div (by omega) (by omega) (by omega)) ?_
      refine sw_istore (i := 10) dX7_payFrom_100 (Nat.le_of_ble_eq_true rfl) rfl ?_
      refine sw_lo (lo2 := [some (.ref 65), some (.int _), some (.int _), some (.int _), some (.int _), some (.int _), some (.int _), some (.int _), some (.int _), some (.int _), some (.int _), none]) rfl ?_
      refine sw_iload (i := 4) dX7_payFrom_102 rfl ?_
      refine sw_iload (i := 6) dX7_payFrom_104 rfl ?_
      refine sw_iadd dX7_payFrom_106 ?_
      refine sw_iload (i := 8) dX7_payFrom_107 rfl ?_
      refine sw_iadd dX7_payFrom_109 ?_
      refine sw_ins (pc2 := 110) rfl rfl ?_
      refine sw_iload (i := 10) dX7_payFrom_110 rfl ?_
      refine sw_iadd dX7_payFrom_112 ?_
      refine sw_topE (v := nI (t + e + f + ((s - (t * wt V 3 + e * wt V 2 + f * wt V 1)) / wt V 0))) (by simp only [nI_add]) ?_
      refine sw_istore (i := 11) dX7_payFrom_113 (Nat.le_of_ble_eq_true rfl) rfl ?_
      refine sw_lo (lo2 := [some (.ref 65), some (.int _), some (.int _), some (.int _), some (.int _), some (.int _), some (.int _), some (.int _), some (.int _), some (.int _), some (.int _), some (.int _)]) rfl ?_
      refine sw_iload (i := 10) dX7_payFrom_115 rfl ?_
      refine sw_aload_n (i := 0) dX7_payFrom_117 rfl rfl ?_
      refine sx_getR (q := 66) f_X7_7 (by decide) kr_65_0 dX7_payFrom_118 ?_
      refine sw_bi 7 dX7_payFrom_121 (by decide +kernel) ?_
      refine sx_ialdE (7) (nI (wt V 0)) ((mV_in D (by decide) rfl).trans ((congrFun hVD _).trans w0.1)) rfl rfl (by omega) dX7_payFrom_123 ?_
      refine sw_ins (pc2 := 124) rfl rfl ?_
      refine sw_imul dX7_payFrom_124 ?_
      refine sw_topE (v := nI (((s - (t * wt V 3 + e * wt V 2 + f * wt V 1)) / wt V 0) * wt V 0)) (pk_mul _ _) ?_
      refine sw_iload (i := 9) dX7_payFrom_125 rfl ?_
      refine sw_ic_ne (tgt := 187) dX7_payFrom_127 rfl (fun _ => ?_) (fun h9 => absurd h9 (fun q => h1 ((zw_eq (by omega)).mp ((nI_eq (by omega) (by omega)).mp q))))
      refine sw_iinc (i := 8) (v := pr f) dX7_payFrom_187 rfl (pr_dec f) (Nat.le_of_ble_eq_true rfl) rfl ?_
      refine sw_lo (lo2 := [some (.ref 65), some (.int _), some (.int _), some (.int _), some (.int _), some (.int _), some (.int _), some (.int _), some (.int _), some (.int _), some (.int _), some (.int _)]) rfl ?_
      refine sw_goto (tgt := 70) dX7_payFrom_190 rfl ?_
      refine sw_sub ?_ y1
      exact ⟨rfl, rfl, rfl, rfl, rfl, rfl, rfl, rfl, rfl, trivial⟩
set_option maxRecDepth 100000 in
set_option maxHeartbeats 4000000 in
theorem B2_X7_payFrom {d : Nat → Nat → Int32} {r : Nat → Nat → Option Nat} {J : Nat → Nat → Int64} {V : Nat → Int32} {a s : Nat} (hV : mV d = V) (okc : okCaps V) (okw : okWorth V) (ha : a < 8) (hs : s ≤ 99) (R : bst) {t : Nat} (ht : t ≤ 20) (hu : t * wt V 3 ≤ s) : ∀ (k : Nat) (D : Nat → Nat → Int32) (b : bst), k ≤ 21 → (∀ e, e < k → t * wt V 3 + e * wt V 2 ≤ s) → payd d D b → (∀ D2, payd d D2 (m2 V a s t k b) → ∃ d1, SW yX7_payFrom cX7_payFrom 12 (some .int) [] 2 none 199 [some (.ref 65), some (.int (nI a)), some (.int (nI s)), some (.int (enc (m2 V a s t k b))), some (.int (nI t)), none, none, none, none, none, none, none] [] 75 (W0 D2 r J) 0 0 (.inl (some (.int (enc R)))) 75 (W0 d1 r J) ∧ payd d d1 R) → ∃ d1, SW yX7_payFrom cX7_payFrom 12 (some .int) [] 2 none 40 [some (.ref 65), some (.int (nI a)), some (.int (nI s)), some (.int (enc b)), some (.int (nI t)), some (.int (nI (s - t * wt V 3))), some (.int (pr k)), none, none, none, none, none] [] 75 (W0 D r J) 0 0 (.inl (some (.int (enc R)))) 75 (W0 d1 r J) ∧ payd d d1 R := by
  have c0 := cp_le okc ha (c := 0) (by decide)
  have c1 := cp_le okc ha (c := 1) (by decide)
  have c2 := cp_le okc ha (c := 2) (by decide)
  have c3 := cp_le okc ha (c := 3) (by decide)
  have w0 : V 7 = nI (wt V 0) ∧ 1 ≤ wt V 0 ∧ wt V 0 ≤ 9 := okw 0 (by decide)
  have w1 : V 8 = nI (wt V 1) ∧ 1 ≤ wt V 1 ∧ wt V 1 ≤ 9 := okw 1 (by decide)
  have w2 : V 9 = nI (wt V 2) ∧ 1 ≤ wt V 2 ∧ wt V 2 ≤ 9 := okw 2 (by decide)
  have w3 : V 10 = nI (wt V 3) ∧ 1 ≤ wt V 3 ∧ wt V 3 ≤ 9 := okw 3 (by decide)
  intro k
  induction k with
  | zero =>
    intro D b hk hf hp hx
    obtain ⟨d1, g1, g2⟩ := hx D hp
    refine ⟨d1, ?_, g2⟩
    refine sw_iload (i := 6) dX7_payFrom_40 rfl ?_
    refine sw_if_lt (tgt := 199) dX7_payFrom_42 rfl (fun _ => ?_) (fun h9 => absurd (by decide) h9)
    refine sw_sub ?_ g1
    exact ⟨rfl, rfl, rfl, rfl, rfl, trivial⟩
  | succ e ih =>
    intro D b hk hf hp hx
    have hfe := hf e (by omega)
    have hVD : mV D = V := (mV_keep (hp.1 66 (by decide))).trans hV
    rw [m2_s b w1.2.1 hfe] at hx
    have hml := Nat.min_le_left (cp V a 1) ((s - (t * wt V 3 + e * wt V 2)) / wt V 1)
    have hmr := Nat.min_le_right (cp V a 1) ((s - (t * wt V 3 + e * wt V 2)) / wt V 1)
    have g0 := A_X7_most (d := D) (r := r) (J := J) (a := a) (c := 1) (s := s - (t * wt V 3 + e * wt V 2)) (by rw [hVD]; exact okc) (by rw [hVD]; exact okw) ha (by decide) (by omega)
    rw [hVD] at g0
    obtain ⟨d1, y1, y2⟩ := B1_X7_payFrom (r := r) (J := J) hV okc okw ha hs R (t := t) (e := e) ht (by omega) hfe ((min (cp V a 1) ((s - (t * wt V 3 + e * wt V 2)) / wt V 1)) + 1) D b (by omega) (fun f h9 => by
      have h8 : f * wt V 1 ≤ (min (cp V a 1) ((s - (t * wt V 3 + e * wt V 2)) / wt V 1)) * wt V 1 := Nat.mul_le_mul_right _ (by omega)
      have h7 : (min (cp V a 1) ((s - (t * wt V 3 + e * wt V 2)) / wt V 1)) * wt V 1 ≤ (s - (t * wt V 3 + e * wt V 2)) / wt V 1 * wt V 1 := Nat.mul_le_mul_right _ hmr
      have h6 := Nat.div_mul_le_self (s - (t * wt V 3 + e * wt V 2)) (wt V 1)
      omega) hp (fun D2 hp2 => by
      obtain ⟨d1, y1, y2⟩ := ih D2 _ (by omega) (fun e h => hf e (by omega)) hp2 hx
      refine ⟨d1, ?_, y2⟩
      refine sw_iinc (i := 6) (v := pr e) dX7_payFrom_193 rfl (pr_dec e) (Nat.le_of_ble_eq_true rfl) rfl ?_
      refine sw_lo (lo2 := [some (.ref 65), some (.int _), some (.int _), some (.int _), some (.int _), some (.int _), some (.int _), none, none, none, none, none]) rfl ?_
      refine sw_goto (tgt := 40) dX7_payFrom_196 rfl ?_
      exact y1)
    refine ⟨d1, ?_, y2⟩
    refine sw_lo (lo2 := [some (.ref 65), some (.int (nI a)), some (.int (nI s)), some (.int _), some (.int (nI t)), some (.int (nI (s - t * wt V 3))), some (.int (nI e)), none, none, none, none, none]) rfl ?_
    refine sw_iload (i := 6) dX7_payFrom_40 rfl ?_
    refine sw_if_lt (tgt := 199) dX7_payFrom_42 rfl (fun h9 => absurd h9 (nI_pos (by omega))) (fun _ => ?_)
    refine sw_iload (i := 5) dX7_payFrom_45 rfl ?_
    refine sw_iload (i := 6) dX7_payFrom_47 rfl ?_
    refine sw_aload_n (i := 0) dX7_payFrom_49 rfl rfl ?_
    refine sx_getR (q := 66) f_X7_7 (by decide) kr_65_0 dX7_payFrom_50 ?_
    refine sw_bi 9 dX7_payFrom_53 (by decide +kernel) ?_
    refine sw_ins (pc2 := 55) rfl rfl ?_
    refine sx_ialdE (9) (nI (wt V 2)) ((mV_in D (by decide) rfl).trans ((congrFun hVD _).trans w2.1)) rfl rfl (by omega) dX7_payFrom_55 ?_
    refine sw_imul dX7_payFrom_56 ?_
    refine sw_isub dX7_payFrom_57 ?_
    refine sw_topE (v := nI (s - (t * wt V 3 + e * wt V 2))) (by rw [pk_mul, pk_sub (by omega)]; congr 1; omega) ?_
    refine sw_istore (i := 7) dX7_payFrom_58 (Nat.le_of_ble_eq_true rfl) rfl ?_
    refine sw_lo (lo2 := [some (.ref 65), some (.int _), some (.int _), some (.int _), some (.int _), some (.int _), some (.int _), some (.int _), none, none, none, none]) rfl ?_
    refine sw_aload_n (i := 0) dX7_payFrom_60 rfl rfl ?_
    refine sw_iload_n (i := 1) dX7_payFrom_61 rfl rfl ?_
    refine sw_ic 1 dX7_payFrom_62 ?_
    refine sw_iload (i := 7) dX7_payFrom_63 rfl ?_
    refine sw_ins (pc2 := 65) rfl rfl ?_
    refine px_Vx mv_X7_57 g0 rfl rfl (Nat.le_of_ble_eq_true rfl) (Nat.le_of_ble_eq_true rfl) ko_65 (Nat.le_of_ble_eq_true rfl) dX7_payFrom_65 ?_
    refine sw_istore (i := 8) dX7_payFrom_68 (Nat.le_of_ble_eq_true rfl) rfl ?_
    refine sw_lo (lo2 := [some (.ref 65), some (.int _), some (.int _), some (.int _), some (.int _), some (.int _), some (.int _), some (.int _), some (.int _), none, none, none]) rfl ?_
    exact y1
set_option maxRecDepth 100000 in
set_option maxHeartbeats 4000000 in
theorem B3_X7_payFrom {d : Nat → Nat → Int32} {r : Nat → Nat → Option Nat} {J : Nat → Nat → Int64} {V : Nat → Int32} {a s : Nat} (hV : mV d = V) (okc : okCaps V) (okw : okWorth V) (ha : a < 8) (hs : s ≤ 99) (R : bst) : ∀ (k : Nat) (D : Nat → Nat → Int32) (b : bst), k ≤ 21 → (∀ t, t < k → t * wt V 3 ≤ s) → payd d D b → (m3 V a s k b = R) → ∃ d1, SW yX7_payFrom cX7_payFrom 12 (some .int) [] 2 none 11 [some (.ref 65), some (.int (nI a)), some (.int (nI s)), some (.int (enc b)), some (.int (pr k)), none, none, none, none, none, none, none] [] 75 (W0 D r J) 0 0 (.inl (some (.int (enc R)))) 75 (W0 d1 r J) ∧ payd d d1 R := by
  have c0 := cp_le okc ha (c := 0) (by decide)
  have c1 := cp_le okc ha (c := 1) (by decide)
  have c2 := cp_le okc ha (c := 2) (by decide)
  have c3 := cp_le okc ha (c := 3) (by decide)
  have w0 : V 7 = nI (wt V 0) ∧ 1 ≤ wt V 0 ∧ wt V 0 ≤ 9 := okw 0 (by decide)
  have w1 : V 8 = nI (wt V 1) ∧ 1 ≤ wt V 1 ∧ wt V 1 ≤ 9 := okw 1 (by decide)
  have w2 : V 9 = nI (wt V 2) ∧ 1 ≤ wt V 2 ∧ wt V 2 ≤ 9 := okw 2 (by decide)
  have w3 : V 10 = nI (wt V 3) ∧ 1 ≤ wt V 3 ∧ wt V 3 ≤ 9 := okw 3 (by decide)
  intro k
  induction k with
  | zero =>
    intro D b hk hf hp hx
    subst hx
    refine ⟨D, ?_, hp⟩
    refine sw_iload (i := 4) dX7_payFrom_11 rfl ?_
    refine sw_if_lt (tgt := 205) dX7_payFrom_13 rfl (fun _ => ?_) (fun h9 => absurd (by decide) h9)
    refine sw_iload_n (i := 3) dX7_payFrom_205 rfl rfl ?_
    exact sw_ireturn rfl dX7_payFrom_206
  | succ t ih =>
    intro D b hk hf hp hx
    have hft := hf t (by omega)
    have hVD : mV D = V := (mV_keep (hp.1 66 (by decide))).trans hV
    rw [m3_s b w2.2.1 hft] at hx
    have hml := Nat.min_le_left (cp V a 2) ((s - t * wt V 3) / wt V 2)
    have hmr := Nat.min_le_right (cp V a 2) ((s - t * wt V 3) / wt V 2)
    have g0 := A_X7_most (d := D) (r := r) (J := J) (a := a) (c := 2) (s := s - t * wt V 3) (by rw [hVD]; exact okc) (by rw [hVD]; exact okw) ha (by decide) (by omega)
    rw [hVD] at g0
    obtain ⟨d1, y1, y2⟩ := B2_X7_payFrom (r := r) (J := J) hV okc okw ha hs R (t := t) (by omega) hft ((min (cp V a 2) ((s - t * wt V 3) / wt V 2)) + 1) D b (by omega) (fun e h9 => by
      have h8 : e * wt V 2 ≤ (min (cp V a 2) ((s - t * wt V 3) / wt V 2)) * wt V 2 := Nat.mul_le_mul_right _ (by omega)
      have h7 : (min (cp V a 2) ((s - t * wt V 3) / wt V 2)) * wt V 2 ≤ (s - t * wt V 3) / wt V 2 * wt V 2 := Nat.mul_le_mul_right _ hmr
      have h6 := Nat.div_mul_le_self (s - t * wt V 3) (wt V 2)
      omega) hp (fun D2 hp2 => by
      obtain ⟨d1, y1, y2⟩ := ih D2 _ (by omega) (fun e h => hf e (by omega)) hp2 hx
      refine ⟨d1, ?_, y2⟩
      refine sw_iinc (i := 4) (v := pr t) dX7_payFrom_199 rfl (pr_dec t) (Nat.le_of_ble_eq_true rfl) rfl ?_
      refine sw_lo (lo2 := [some (.ref 65), some (.int _), some (.int _), some (.int _), some (.int _), none, none, none, none, none, none, none]) rfl ?_
      refine sw_goto (tgt := 11) dX7_payFrom_202 rfl ?_
      exact y1)
    refine ⟨d1, ?_, y2⟩
    refine sw_lo (lo2 := [some (.ref 65), some (.int (nI a)), some (.int (nI s)), some (.int _), some (.int (nI t)), none, none, none, none, none, none, none]) rfl ?_
    refine sw_iload (i := 4) dX7_payFrom_11 rfl ?_
    refine sw_if_lt (tgt := 205) dX7_payFrom_13 rfl (fun h9 => absurd h9 (nI_pos (by omega))) (fun _ => ?_)
    refine sw_iload_n (i := 2) dX7_payFrom_16 rfl rfl ?_
    refine sw_iload (i := 4) dX7_payFrom_17 rfl ?_
    refine sw_aload_n (i := 0) dX7_payFrom_19 rfl rfl ?_
    refine sx_getR (q := 66) f_X7_7 (by decide) kr_65_0 dX7_payFrom_20 ?_
    refine sw_bi 10 dX7_payFrom_23 (by decide +kernel) ?_
    refine sw_ins (pc2 := 25) rfl rfl ?_
    refine sx_ialdE (10) (nI (wt V 3)) ((mV_in D (by decide) rfl).trans ((congrFun hVD _).trans w3.1)) rfl rfl (by omega) dX7_payFrom_25 ?_
    refine sw_imul dX7_payFrom_26 ?_
    refine sw_isub dX7_payFrom_27 ?_
    refine sw_topE (v := nI (s - t * wt V 3)) (by rw [pk_mul, pk_sub (by omega)]) ?_
    refine sw_istore (i := 5) dX7_payFrom_28 (Nat.le_of_ble_eq_true rfl) rfl ?_
    refine sw_lo (lo2 := [some (.ref 65), some (.int _), some (.int _), some (.int _), some (.int _), some (.int _), none, none, none, none, none, none]) rfl ?_
    refine sw_aload_n (i := 0) dX7_payFrom_30 rfl rfl ?_
    refine sw_iload_n (i := 1) dX7_payFrom_31 rfl rfl ?_
    refine sw_ic 2 dX7_payFrom_32 ?_
    refine sw_iload (i := 5) dX7_payFrom_33 rfl ?_
    refine sw_ins (pc2 := 35) rfl rfl ?_
    refine px_Vx mv_X7_57 g0 rfl rfl (Nat.le_of_ble_eq_true rfl) (Nat.le_of_ble_eq_true rfl) ko_65 (Nat.le_of_ble_eq_true rfl) dX7_payFrom_35 ?_
    refine sw_istore (i := 6) dX7_payFrom_38 (Nat.le_of_ble_eq_true rfl) rfl ?_
    refine sw_lo (lo2 := [some (.ref 65), some (.int _), some (.int _), some (.int _), some (.int _), some (.int _), some (.int _), none, none, none, none, none]) rfl ?_
    exact y1
set_option maxRecDepth 100000 in
set_option maxHeartbeats 4000000 in
theorem A_X7_payFrom {d : Nat → Nat → Int32} {r : Nat → Nat → Option Nat} {J : Nat → Nat → Int64} {a s : Nat} (okc : okCaps (mV d)) (okw : okWorth (mV d)) (ha : a < 8) (hs : s ≤ 99) : ∃ d1, OP kX7_payFrom yX7_payFrom 2 [.ref 65, .int (nI a), .int (nI s)] d r J (some (.int (enc (wy (mV d) a s)))) d1 r J ∧ payd d d1 (wy (mV d) a s) := by
  have w3 : 1 ≤ wt (mV d) 3 ∧ wt (mV d) 3 ≤ 9 := (okw 3 (by decide)).2
  have c3 := cp_le okc ha (c := 3) (by decide)
  have hml := Nat.min_le_left (cp (mV d) a 3) (s / wt (mV d) 3)
  have hmr := Nat.min_le_right (cp (mV d) a 3) (s / wt (mV d) 3)
  have g0 := A_X7_most (d := d) (r := r) (J := J) (a := a) (c := 3) (s := s) okc okw ha (by decide) hs
  obtain ⟨d1, y1, y2⟩ := B3_X7_payFrom (d := d) (r := r) (J := J) rfl okc okw ha hs (wy (mV d) a s) ((min (cp (mV d) a 3) (s / wt (mV d) 3)) + 1) d none (by omega) (fun t h9 => by
    have h8 : t * wt (mV d) 3 ≤ (min (cp (mV d) a 3) (s / wt (mV d) 3)) * wt (mV d) 3 := Nat.mul_le_mul_right _ (by omega)
    have h7 : (min (cp (mV d) a 3) (s / wt (mV d) 3)) * wt (mV d) 3 ≤ s / wt (mV d) 3 * wt (mV d) 3 := Nat.mul_le_mul_right _ hmr
    have h6 := Nat.div_mul_le_self s (wt (mV d) 3)
    omega) ⟨fun _ _ => rfl, trivial, fun _ _ _ _ h => (nomatch h)⟩ (m3_wy w3.1)
  refine ⟨d1, op_of pl_X7_payFrom (Nat.le_of_ble_eq_true rfl) ?_, y2⟩
  refine sw_im1 dX7_payFrom_0 ?_
  refine sw_istore_n (i := 3) dX7_payFrom_1 rfl (Nat.le_of_ble_eq_true rfl) rfl ?_
  refine sw_lo (lo2 := [some (.ref 65), some (.int _), some (.int _), some (.int _), none, none, none, none, none, none, none, none]) rfl ?_
  refine sw_aload_n (i := 0) dX7_payFrom_2 rfl rfl ?_
  refine sw_iload_n (i := 1) dX7_payFrom_3 rfl rfl ?_
  refine sw_ic 3 dX7_payFrom_4 ?_
  refine sw_iload_n (i := 2) dX7_payFrom_5 rfl rfl ?_
  refine px_Vx mv_X7_57 g0 rfl rfl (Nat.le_of_ble_eq_true rfl) (Nat.le_of_ble_eq_true rfl) ko_65 (Nat.le_of_ble_eq_true rfl) dX7_payFrom_6 ?_
  refine sw_ins (pc2 := 9) rfl rfl ?_
  refine sw_istore (i := 4) dX7_payFrom_9 (Nat.le_of_ble_eq_true rfl) rfl ?_
  refine sw_lo (lo2 := [some (.ref 65), some (.int _), some (.int _), some (.int _), some (.int _), none, none, none, none, none, none, none]) rfl ?_
  exact y1
