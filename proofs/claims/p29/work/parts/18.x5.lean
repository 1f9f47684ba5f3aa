/-! THE TILL, 1: wholeCaps, note, leastByTrying (own work, written by wip/tools) -/
theorem nI_ne_m1 {n : Nat} (h : n < 2 ^ 31) : ¬ nI n = -1 := by
  intro q
  have a := nI_toInt h
  rw [q] at a
  have : ((-1 : Int32)).toInt = -1 := by decide
  omega
theorem am_ss (x y z : Int32) : x - y - z = x - (y + z) := by
  apply Int32.toBitVec_inj.mp
  simp only [Int32.toBitVec_sub, Int32.toBitVec_add]
  apply BitVec.eq_of_toNat_eq
  simp only [BitVec.toNat_sub, BitVec.toNat_add]
  omega
def cp (V : Nat → Int32) (a c : Nat) : Nat := nv V (19 + (a * 4 + c))
def wt (V : Nat → Int32) (c : Nat) : Nat := nv V (7 + c)
theorem cp_le {V : Nat → Int32} (h : okCaps V) {a c : Nat} (ha : a < 8) (hc : c < 4) : cp V a c ≤ 20 := okCaps_le h ha hc
/-- the best way so far: how many of each colour (0, 1, 2, 3), and the rows of numbers -/
abbrev bst : Type := Option (Nat × Nat × Nat × Nat)
def enc : bst → Int32
  | none => -1
  | some (z, f, e, t) => nI (t + e + f + z)
def btr (b : bst) (m : Nat) : Prop := match b with
  | none => True
  | some (z, f, e, t) => m < t + e + f + z
def small (b : bst) : Prop := match b with
  | none => True
  | some (z, f, e, t) => t + e + f + z < 2 ^ 20
def dnote (d : Nat → Nat → Int32) (z f e t : Nat) : Nat → Nat → Int32 := d2 (d2 (d2 (d2 d 47 0 (nI z)) 47 1 (nI f)) 47 2 (nI e)) 47 3 (nI t)
noncomputable def bt (V : Nat → Int32) (a s t e f : Nat) (q : bst × (Nat → Nat → Int32)) : bst × (Nat → Nat → Int32) :=
  let u := t * wt V 3 + e * wt V 2 + f * wt V 1
  @ite _ (u ≤ s ∧ (s - u) % wt V 0 = 0 ∧ (s - u) / wt V 0 ≤ cp V a 0 ∧ btr q.1 (t + e + f + (s - u) / wt V 0)) (Classical.propDecidable _) (some ((s - u) / wt V 0, f, e, t), dnote q.2 ((s - u) / wt V 0) f e t) q
noncomputable def l1 (V : Nat → Int32) (a s t e : Nat) : Nat → bst × (Nat → Nat → Int32) → bst × (Nat → Nat → Int32)
  | 0, q => q
  | f + 1, q => l1 V a s t e f (bt V a s t e f q)
noncomputable def l2 (V : Nat → Int32) (a s t : Nat) : Nat → bst × (Nat → Nat → Int32) → bst × (Nat → Nat → Int32)
  | 0, q => q
  | e + 1, q => l2 V a s t e (l1 V a s t e (cp V a 1 + 1) q)
noncomputable def l3 (V : Nat → Int32) (a s : Nat) : Nat → bst × (Nat → Nat → Int32) → bst × (Nat → Nat → Int32)
  | 0, q => q
  | t + 1, q => l3 V a s t (l2 V a s t (cp V a 2 + 1) q)
noncomputable def lbt (V : Nat → Int32) (a s : Nat) (d : Nat → Nat → Int32) : bst × (Nat → Nat → Int32) := l3 V a s (cp V a 3 + 1) (none, d)

theorem bt_yes {V : Nat → Int32} {a s t e f : Nat} {q : bst × (Nat → Nat → Int32)} (h1 : t * wt V 3 + e * wt V 2 + f * wt V 1 ≤ s) (h2 : (s - (t * wt V 3 + e * wt V 2 + f * wt V 1)) % wt V 0 = 0) (h3 : (s - (t * wt V 3 + e * wt V 2 + f * wt V 1)) / wt V 0 ≤ cp V a 0) (h4 : btr q.1 (t + e + f + (s - (t * wt V 3 + e * wt V 2 + f * wt V 1)) / wt V 0)) :
    bt V a s t e f q = (some ((s - (t * wt V 3 + e * wt V 2 + f * wt V 1)) / wt V 0, f, e, t), dnote q.2 ((s - (t * wt V 3 + e * wt V 2 + f * wt V 1)) / wt V 0) f e t) := by
  unfold bt
  exact @if_pos _ (Classical.propDecidable _) ⟨h1, h2, h3, h4⟩ _ _ _
theorem bt_no {V : Nat → Int32} {a s t e f : Nat} {q : bst × (Nat → Nat → Int32)} (h : ¬ (t * wt V 3 + e * wt V 2 + f * wt V 1 ≤ s ∧ (s - (t * wt V 3 + e * wt V 2 + f * wt V 1)) % wt V 0 = 0 ∧ (s - (t * wt V 3 + e * wt V 2 + f * wt V 1)) / wt V 0 ≤ cp V a 0 ∧ btr q.1 (t + e + f + (s - (t * wt V 3 + e * wt V 2 + f * wt V 1)) / wt V 0))) :
    bt V a s t e f q = q := by
  unfold bt
  exact @if_neg _ (Classical.propDecidable _) h _ _ _
theorem dnote_at (d : Nat → Nat → Int32) (z f e t : Nat) : dnote d z f e t 47 0 = nI z ∧ dnote d z f e t 47 1 = nI f ∧ dnote d z f e t 47 2 = nI e ∧ dnote d z f e t 47 3 = nI t := by
  unfold dnote
  exact ⟨by rw [d2_ne _ _ (Or.inr (by decide)), d2_ne _ _ (Or.inr (by decide)), d2_ne _ _ (Or.inr (by decide)), d2_eq], by rw [d2_ne _ _ (Or.inr (by decide)), d2_ne _ _ (Or.inr (by decide)), d2_eq], by rw [d2_ne _ _ (Or.inr (by decide)), d2_eq], by rw [d2_eq]⟩
def okq (d : Nat → Nat → Int32) (q : bst × (Nat → Nat → Int32)) : Prop := (∀ c, c ≠ 47 → q.2 c = d c) ∧ small q.1 ∧ ∀ z f e t, q.1 = some (z, f, e, t) → q.2 47 0 = nI z ∧ q.2 47 1 = nI f ∧ q.2 47 2 = nI e ∧ q.2 47 3 = nI t
theorem bt_ok {V : Nat → Int32} {a s t e f : Nat} {d : Nat → Nat → Int32} {q : bst × (Nat → Nat → Int32)} (h : okq d q) (hs : s ≤ 99) (ht : t ≤ 20) (he : e ≤ 20) (hf : f ≤ 20) : okq d (bt V a s t e f q) := by
  by_cases c : t * wt V 3 + e * wt V 2 + f * wt V 1 ≤ s ∧ (s - (t * wt V 3 + e * wt V 2 + f * wt V 1)) % wt V 0 = 0 ∧ (s - (t * wt V 3 + e * wt V 2 + f * wt V 1)) / wt V 0 ≤ cp V a 0 ∧ btr q.1 (t + e + f + (s - (t * wt V 3 + e * wt V 2 + f * wt V 1)) / wt V 0)
  · rw [bt_yes c.1 c.2.1 c.2.2.1 c.2.2.2]
    refine ⟨fun c9 hc => ?_, ?_, fun z f2 e2 t2 h9 => ?_⟩
    · show dnote q.2 _ f e t c9 = _
      unfold dnote
      rw [d2_off _ _ hc, d2_off _ _ hc, d2_off _ _ hc, d2_off _ _ hc]
      exact h.1 c9 hc
    · show t + e + f + _ < 2 ^ 20
      have : (s - (t * wt V 3 + e * wt V 2 + f * wt V 1)) / wt V 0 ≤ s - (t * wt V 3 + e * wt V 2 + f * wt V 1) := Nat.div_le_self _ _
      omega
    · cases h9
      exact dnote_at q.2 _ f e t
  · rw [bt_no c]
    exact h
theorem l1_ok {V : Nat → Int32} {a s t e : Nat} {d : Nat → Nat → Int32} (hs : s ≤ 99) (ht : t ≤ 20) (he : e ≤ 20) : ∀ (k : Nat) (q : bst × (Nat → Nat → Int32)), k ≤ 21 → okq d q → okq d (l1 V a s t e k q)
  | 0, _, _, h => h
  | k + 1, q, hk, h => l1_ok hs ht he k _ (by omega) (bt_ok h hs ht he (by omega))
theorem l2_ok {V : Nat → Int32} {a s t : Nat} {d : Nat → Nat → Int32} (hs : s ≤ 99) (ht : t ≤ 20) (h1 : cp V a 1 ≤ 20) : ∀ (k : Nat) (q : bst × (Nat → Nat → Int32)), k ≤ 21 → okq d q → okq d (l2 V a s t k q)
  | 0, _, _, h => h
  | k + 1, q, hk, h => l2_ok hs ht h1 k _ (by omega) (l1_ok hs ht (by omega) _ _ (by omega) h)
theorem l3_ok {V : Nat → Int32} {a s : Nat} {d : Nat → Nat → Int32} (hs : s ≤ 99) (h1 : cp V a 1 ≤ 20) (h2 : cp V a 2 ≤ 20) : ∀ (k : Nat) (q : bst × (Nat → Nat → Int32)), k ≤ 21 → okq d q → okq d (l3 V a s k q)
  | 0, _, _, h => h
  | k + 1, q, hk, h => l3_ok hs h1 h2 k _ (by omega) (l2_ok hs (by omega) h1 _ _ (by omega) h)
theorem lbt_ok {V : Nat → Int32} (ok : okCaps V) {a s : Nat} (ha : a < 8) (hs : s ≤ 99) (d : Nat → Nat → Int32) : okq d (lbt V a s d) :=
  l3_ok hs (cp_le ok ha (by decide)) (cp_le ok ha (by decide)) _ _ (by have := cp_le ok ha (c := 3) (by decide); omega) ⟨fun _ _ => rfl, trivial, fun _ _ _ _ h => nomatch h⟩
set_option maxRecDepth 100000 in
set_option maxHeartbeats 4000000 in
theorem A0_X5_wholeCaps {d : Nat → Nat → Int32} {r : Nat → Nat → Option Nat} {J : Nat → Nat → Int64} {s u w : Nat} (hu : u < 2 ^ 30) (hlt : s < u) : OP kX5_wholeCaps yX5_wholeCaps 0 [.int (nI s - nI u), .int (nI w)] d r J (some (.int (-1))) d r J := by
  refine op_of pl_X5_wholeCaps (Nat.le_of_ble_eq_true rfl) ?_
  refine sw_iload_n (i := 0) dX5_wholeCaps_0 rfl rfl ?_
  refine sw_if_lt (tgt := 14) dX5_wholeCaps_1 rfl (fun _ => ?_) (fun h9 => absurd (pk_sneg (by omega) hlt) h9)
  refine sw_im1 dX5_wholeCaps_14 ?_
  exact sw_ireturn rfl dX5_wholeCaps_15
set_option maxRecDepth 100000 in
set_option maxHeartbeats 4000000 in
theorem A1_X5_wholeCaps {d : Nat → Nat → Int32} {r : Nat → Nat → Option Nat} {J : Nat → Nat → Int64} {n w : Nat} (hn : n < 2 ^ 30) (hw : 1 ≤ w) (hw2 : w < 2 ^ 30) : OP kX5_wholeCaps yX5_wholeCaps 0 [.int (nI n), .int (nI w)] d r J (some (.int (if n % w = 0 then nI (n / w) else -1))) d r J := by
  refine op_of pl_X5_wholeCaps (Nat.le_of_ble_eq_true rfl) ?_
  refine sw_iload_n (i := 0) dX5_wholeCaps_0 rfl rfl ?_
  refine sw_if_lt (tgt := 14) dX5_wholeCaps_1 rfl (fun h9 => absurd h9 (nI_pos (by omega))) (fun _ => ?_)
  refine sw_iload_n (i := 1) dX5_wholeCaps_4 rfl rfl ?_
  refine sw_if_le (tgt := 14) dX5_wholeCaps_5 rfl (fun h9 => absurd h9 (nI_nle (by omega) (by omega))) (fun _ => ?_)
  refine sw_iload_n (i := 0) dX5_wholeCaps_8 rfl rfl ?_
  refine sw_iload_n (i := 1) dX5_wholeCaps_9 rfl rfl ?_
  refine sw_irem (nI_ne0 (by omega) (by omega)) dX5_wholeCaps_10 ?_
  refine sw_topE (v := nI (n % w)) (pk_rem (by omega) (by omega) (by omega)) ?_
  refine sw_ins (pc2 := 11) rfl rfl ?_
  refine sw_if_eq (tgt := 16) dX5_wholeCaps_11 rfl (fun h11 => ?_) (fun h11 => ?_)
  ·
    refine sw_iload_n (i := 0) dX5_wholeCaps_16 rfl rfl ?_
    refine sw_iload_n (i := 1) dX5_wholeCaps_17 rfl rfl ?_
    refine sw_idiv (nI_ne0 (by omega) (by omega)) dX5_wholeCaps_18 ?_
    refine sw_topE (v := nI (n / w)) (pk_div (by omega) (by omega) (by omega)) ?_
    refine sw_ireturnE ?_ rfl dX5_wholeCaps_19
    have hm : n % w < 2 ^ 31 := by have := Nat.mod_lt n (show 0 < w by omega); omega
    first | rw [if_pos ((nI_eq hm (by decide)).mp h11)] | rw [if_neg (fun q => h11 (by rw [q]; decide))]
  ·
    refine sw_im1 dX5_wholeCaps_14 ?_
    refine sw_ireturnE ?_ rfl dX5_wholeCaps_15
    have hm : n % w < 2 ^ 31 := by have := Nat.mod_lt n (show 0 < w by omega); omega
    first | rw [if_pos ((nI_eq hm (by decide)).mp h11)] | rw [if_neg (fun q => h11 (by rw [q]; decide))]
set_option maxRecDepth 100000 in
set_option maxHeartbeats 4000000 in
theorem A_X5_note {d : Nat → Nat → Int32} {r : Nat → Nat → Option Nat} {J : Nat → Nat → Int64} {z f e t : Nat} : OP kX5_note yX5_note 0 [.ref 45, .int (nI z), .int (nI f), .int (nI e), .int (nI t)] d r J none (dnote d z f e t) r J := by
  refine op_of pl_X5_note (Nat.le_of_ble_eq_true rfl) ?_
  refine sw_aload_n (i := 0) dX5_note_0 rfl rfl ?_
  refine sx_getR (q := 47) f_X5_15 (by decide) kr_45_1 dX5_note_1 ?_
  refine sw_ic 0 dX5_note_4 ?_
  refine sw_iload_n (i := 1) dX5_note_5 rfl rfl ?_
  refine sx_iast (0) rfl rfl (by omega) dX5_note_6 ?_
  refine sw_aload_n (i := 0) dX5_note_7 rfl rfl ?_
  refine sx_getR (q := 47) f_X5_15 (by decide) kr_45_1 dX5_note_8 ?_
  refine sw_ins (pc2 := 11) rfl rfl ?_
  refine sw_ic 1 dX5_note_11 ?_
  refine sw_iload_n (i := 2) dX5_note_12 rfl rfl ?_
  refine sx_iast (1) rfl rfl (by omega) dX5_note_13 ?_
  refine sw_aload_n (i := 0) dX5_note_14 rfl rfl ?_
  refine sx_getR (q := 47) f_X5_15 (by decide) kr_45_1 dX5_note_15 ?_
  refine sw_ic 2 dX5_note_18 ?_
  refine sw_iload_n (i := 3) dX5_note_19 rfl rfl ?_
  refine sx_iast (2) rfl rfl (by omega) dX5_note_20 ?_
  refine sw_ins (pc2 := 21) rfl rfl ?_
  refine sw_aload_n (i := 0) dX5_note_21 rfl rfl ?_
  refine sx_getR (q := 47) f_X5_15 (by decide) kr_45_1 dX5_note_22 ?_
  refine sw_ic 3 dX5_note_25 ?_
  refine sw_iload (i := 4) dX5_note_26 rfl ?_
  refine sx_iast (3) rfl rfl (by omega) dX5_note_28 ?_
  exact sw_return rfl dX5_note_29
set_option maxRecDepth 100000 in
set_option maxHeartbeats 4000000 in
theorem B1_X5_leastByTrying {d : Nat → Nat → Int32} {r : Nat → Nat → Option Nat} {J : Nat → Nat → Int64} {b a s : Nat} (hb : isB b) (okc : okCaps (cV d b)) (okw : okWorth (cV d b)) (ha : a < 8) (hs : s ≤ 99) (R : bst × (Nat → Nat → Int32)) {t e : Nat} (ht : t ≤ 20) (he : e ≤ 20) : ∀ (f : Nat) (q : bst × (Nat → Nat → Int32)), f ≤ 21 → okq d q → SW yX5_leastByTrying cX5_leastByTrying 11 (some .int) [] 2 none 149 [some (.ref 45), some (.ref b), some (.int (nI a)), some (.int (nI s)), some (.int (enc (l1 (cV d b) a s t e f q).1)), some (.int (nI t)), some (.int (nI e)), none, none, none, none] [] 65 (W0 (l1 (cV d b) a s t e f q).2 r J) 0 0 (.inl (some (.int (enc R.1)))) 65 (W0 R.2 r J) → SW yX5_leastByTrying cX5_leastByTrying 11 (some .int) [] 2 none 58 [some (.ref 45), some (.ref b), some (.int (nI a)), some (.int (nI s)), some (.int (enc (q).1)), some (.int (nI t)), some (.int (nI e)), some (.int (nI s - nI (t * wt (cV d b) 3 + e * wt (cV d b) 2))), some (.int (pr f)), none, none] [] 65 (W0 (q).2 r J) 0 0 (.inl (some (.int (enc R.1)))) 65 (W0 R.2 r J) := by
  have hbc := isB_cases hb
  have n1 : b + 1 ≠ 47 := by omega
  have n3 : b + 3 ≠ 47 := by omega
  have c0 := cp_le okc ha (c := 0) (by decide)
  have c1 := cp_le okc ha (c := 1) (by decide)
  have c2 := cp_le okc ha (c := 2) (by decide)
  have c3 := cp_le okc ha (c := 3) (by decide)
  have w0 := okw 0 (by decide)
  have w1 := okw 1 (by decide)
  have w2 := okw 2 (by decide)
  have w3 := okw 3 (by decide)
  intro f
  induction f with
  | zero =>
    intro q hf hq hx
    refine sw_iload (i := 8) dX5_leastByTrying_58 rfl ?_
    refine sw_if_lt (tgt := 149) dX5_leastByTrying_60 rfl (fun _ => ?_) (fun h9 => absurd (by decide) h9)
    refine sw_sub ?_ hx
    exact ⟨rfl, rfl, rfl, rfl, rfl, rfl, rfl, trivial⟩
  | succ f ih =>
    intro q hf hq hx
    have hview : cV q.2 b = cV d b := cV_keep (fun c hc => hq.1 c (by omega))
    have hu : (t * wt (cV d b) 3 + e * wt (cV d b) 2 + f * wt (cV d b) 1) < 2 ^ 20 := by
      have e3 : t * wt (cV d b) 3 ≤ 20 * 9 := Nat.mul_le_mul ht w3.2.2
      have e2 : e * wt (cV d b) 2 ≤ 20 * 9 := Nat.mul_le_mul he w2.2.2
      have e1 : f * wt (cV d b) 1 ≤ 21 * 9 := Nat.mul_le_mul (by omega) w1.2.2
      omega
    have hq2 := bt_ok (V := cV d b) (a := a) (t := t) (e := e) (f := f) hq hs ht he (by omega)
    have ih2 := ih _ (by omega) hq2 hx
    by_cases hlt : s < (t * wt (cV d b) 3 + e * wt (cV d b) 2 + f * wt (cV d b) 1)
    · rw [bt_no (fun h => absurd h.1 (by omega))] at ih2
      refine sw_lo (lo2 := [some (.ref 45), some (.ref b), some (.int (nI a)), some (.int (nI s)), some (.int _), some (.int (nI t)), some (.int (nI e)), some (.int (nI s - nI (t * wt (cV d b) 3 + e * wt (cV d b) 2))), some (.int (nI f)), none, none]) rfl ?_
      refine sw_iload (i := 8) dX5_leastByTrying_58 rfl ?_
      refine sw_if_lt (tgt := 149) dX5_leastByTrying_60 rfl (fun h9 => absurd h9 (nI_pos (by omega))) (fun _ => ?_)
      refine sw_iload (i := 7) dX5_leastByTrying_63 rfl ?_
      refine sw_iload (i := 8) dX5_leastByTrying_65 rfl ?_
      refine sw_aload_n (i := 1) dX5_leastByTrying_67 rfl rfl ?_
      refine sw_ic 1 dX5_leastByTrying_68 ?_
      have hwor69 : OP kX2_worthOf yX2_worthOf 1 [.ref b, .int (nI 1)] q.2 r J (some (.int (nI (wt (cV d b) 1)))) q.2 r J := by
        have h9 := A_X2_worthOf (d := q.2) (r := r) (J := J) (c := 1) hb (by decide)
        rw [hview, (okw 1 (by decide)).1] at h9
        exact h9
      refine px_Vx mv_X5_25 hwor69 rfl rfl (Nat.le_of_ble_eq_true rfl) (Nat.le_of_ble_eq_true rfl) (kO_B hb) (Nat.le_of_ble_eq_true rfl) dX5_leastByTrying_69 ?_
      refine sw_ins (pc2 := 72) rfl rfl ?_
      refine sw_imul dX5_leastByTrying_72 ?_
      refine sw_isub dX5_leastByTrying_73 ?_
      refine sw_topE (v := nI s - nI (t * wt (cV d b) 3 + e * wt (cV d b) 2 + f * wt (cV d b) 1)) (by rw [pk_mul, am_ss, nI_add]) ?_
      refine sw_aload_n (i := 1) dX5_leastByTrying_74 rfl rfl ?_
      refine sw_ic 0 dX5_leastByTrying_75 ?_
      have hwor76 : OP kX2_worthOf yX2_worthOf 1 [.ref b, .int (nI 0)] q.2 r J (some (.int (nI (wt (cV d b) 0)))) q.2 r J := by
        have h9 := A_X2_worthOf (d := q.2) (r := r) (J := J) (c := 0) hb (by decide)
        rw [hview, (okw 0 (by decide)).1] at h9
        exact h9
      refine px_Vx mv_X5_25 hwor76 rfl rfl (Nat.le_of_ble_eq_true rfl) (Nat.le_of_ble_eq_true rfl) (kO_B hb) (Nat.le_of_ble_eq_true rfl) dX5_leastByTrying_76 ?_
      refine px_Sx ms_X5_38 (A0_X5_wholeCaps (by omega) hlt) rfl rfl (Nat.le_of_ble_eq_true rfl) (Nat.le_of_ble_eq_true rfl) (Nat.le_of_ble_eq_true rfl) dX5_leastByTrying_79 ?_
      refine sw_istore (i := 9) dX5_leastByTrying_82 (Nat.le_of_ble_eq_true rfl) rfl ?_
      refine sw_lo (lo2 := [some (.ref 45), some (.ref b), some (.int _), some (.int _), some (.int _), some (.int _), some (.int _), some (.int _), some (.int _), some (.int _), none]) rfl ?_
      refine sw_iload (i := 5) dX5_leastByTrying_84 rfl ?_
      refine sw_ins (pc2 := 86) rfl rfl ?_
      refine sw_iload (i := 6) dX5_leastByTrying_86 rfl ?_
      refine sw_iadd dX5_leastByTrying_88 ?_
      refine sw_iload (i := 8) dX5_leastByTrying_89 rfl ?_
      refine sw_iadd dX5_leastByTrying_91 ?_
      refine sw_iload (i := 9) dX5_leastByTrying_92 rfl ?_
      refine sw_iadd dX5_leastByTrying_94 ?_
      refine sw_istore (i := 10) dX5_leastByTrying_95 (Nat.le_of_ble_eq_true rfl) rfl ?_
      refine sw_lo (lo2 := [some (.ref 45), some (.ref b), some (.int _), some (.int _), some (.int _), some (.int _), some (.int _), some (.int _), some (.int _), some (.int _), some (.int _)]) rfl ?_
      refine sw_iload (i := 9) dX5_leastByTrying_97 rfl ?_
      refine sw_ins (pc2 := 99) rfl rfl ?_
      refine sw_im1 dX5_leastByTrying_99 ?_
      refine sw_ic_eq (tgt := 143) dX5_leastByTrying_100 rfl (fun _ => ?_) (fun h9 => absurd rfl h9)
      refine sw_iinc (i := 8) (v := pr f) dX5_leastByTrying_143 rfl (pr_dec f) (Nat.le_of_ble_eq_true rfl) rfl ?_
      refine sw_lo (lo2 := [some (.ref 45), some (.ref b), some (.int _), some (.int _), some (.int _), some (.int _), some (.int _), some (.int _), some (.int _), some (.int _), some (.int _)]) rfl ?_
      refine sw_goto (tgt := 58) dX5_leastByTrying_146 rfl ?_
      refine sw_sub ?_ ih2
      exact ⟨rfl, rfl, rfl, rfl, rfl, rfl, rfl, rfl, rfl, trivial⟩
    · have hsu : nI s - nI (t * wt (cV d b) 3 + e * wt (cV d b) 2 + f * wt (cV d b) 1) = nI (s - (t * wt (cV d b) 3 + e * wt (cV d b) 2 + f * wt (cV d b) 1)) := pk_sub (by omega)
      have hwc : OP kX5_wholeCaps yX5_wholeCaps 0 [.int (nI s - nI (t * wt (cV d b) 3 + e * wt (cV d b) 2 + f * wt (cV d b) 1)), .int (nI (wt (cV d b) 0))] q.2 r J (some (.int (if (s - (t * wt (cV d b) 3 + e * wt (cV d b) 2 + f * wt (cV d b) 1)) % wt (cV d b) 0 = 0 then nI ((s - (t * wt (cV d b) 3 + e * wt (cV d b) 2 + f * wt (cV d b) 1)) / wt (cV d b) 0) else -1))) q.2 r J := by
        rw [hsu]
        exact A1_X5_wholeCaps (by omega) w0.2.1 (by have : wt (cV d b) 0 ≤ 9 := w0.2.2; omega)
      by_cases hmod : (s - (t * wt (cV d b) 3 + e * wt (cV d b) 2 + f * wt (cV d b) 1)) % wt (cV d b) 0 = 0
      · rw [if_pos hmod] at hwc
        have hz : ((s - (t * wt (cV d b) 3 + e * wt (cV d b) 2 + f * wt (cV d b) 1)) / wt (cV d b) 0) ≤ 99 := Nat.le_trans (Nat.div_le_self _ _) (by omega)
        by_cases hc : ((s - (t * wt (cV d b) 3 + e * wt (cV d b) 2 + f * wt (cV d b) 1)) / wt (cV d b) 0) ≤ cp (cV d b) a 0
        · by_cases hbt : btr q.1 (t + e + f + ((s - (t * wt (cV d b) 3 + e * wt (cV d b) 2 + f * wt (cV d b) 1)) / wt (cV d b) 0))
          · rw [bt_yes (by omega) hmod hc hbt] at ih2
            obtain ⟨q1, q2⟩ := q
            cases q1 with
            | none =>
              refine sw_lo (lo2 := [some (.ref 45), some (.ref b), some (.int (nI a)), some (.int (nI s)), some (.int _), some (.int (nI t)), some (.int (nI e)), some (.int (nI s - nI (t * wt (cV d b) 3 + e * wt (cV d b) 2))), some (.int (nI f)), none, none]) rfl ?_
              refine sw_iload (i := 8) dX5_leastByTrying_58 rfl ?_
              refine sw_if_lt (tgt := 149) dX5_leastByTrying_60 rfl (fun h9 => absurd h9 (nI_pos (by omega))) (fun _ => ?_)
              refine sw_iload (i := 7) dX5_leastByTrying_63 rfl ?_
              refine sw_iload (i := 8) dX5_leastByTrying_65 rfl ?_
              refine sw_aload_n (i := 1) dX5_leastByTrying_67 rfl rfl ?_
              refine sw_ic 1 dX5_leastByTrying_68 ?_
              have hwor69 : OP kX2_worthOf yX2_worthOf 1 [.ref b, .int (nI 1)] q2 r J (some (.int (nI (wt (cV d b) 1)))) q2 r J := by
                have h9 := A_X2_worthOf (d := q2) (r := r) (J := J) (c := 1) hb (by decide)
                rw [hview, (okw 1 (by decide)).1] at h9
                exact h9
              refine px_Vx mv_X5_25 hwor69 rfl rfl (Nat.le_of_ble_eq_true rfl) (Nat.le_of_ble_eq_true rfl) (kO_B hb) (Nat.le_of_ble_eq_true rfl) dX5_leastByTrying_69 ?_
              refine sw_ins (pc2 := 72) rfl rfl ?_
              refine sw_imul dX5_leastByTrying_72 ?_
              refine sw_isub dX5_leastByTrying_73 ?_
              refine sw_topE (v := nI s - nI (t * wt (cV d b) 3 + e * wt (cV d b) 2 + f * wt (cV d b) 1)) (by rw [pk_mul, am_ss, nI_add]) ?_
              refine sw_aload_n (i := 1) dX5_leastByTrying_74 rfl rfl ?_
              refine sw_ic 0 dX5_leastByTrying_75 ?_
              have hwor76 : OP kX2_worthOf yX2_worthOf 1 [.ref b, .int (nI 0)] q2 r J (some (.int (nI (wt (cV d b) 0)))) q2 r J := by
                have h9 := A_X2_worthOf (d := q2) (r := r) (J := J) (c := 0) hb (by decide)
                rw [hview, (okw 0 (by decide)).1] at h9
                exact h9
              refine px_Vx mv_X5_25 hwor76 rfl rfl (Nat.le_of_ble_eq_true rfl) (Nat.le_of_ble_eq_true rfl) (kO_B hb) (Nat.le_of_ble_eq_true rfl) dX5_leastByTrying_76 ?_
              refine px_Sx ms_X5_38 hwc rfl rfl (Nat.le_of_ble_eq_true rfl) (Nat.le_of_ble_eq_true rfl) (Nat.le_of_ble_eq_true rfl) dX5_leastByTrying_79 ?_
              refine sw_istore (i := 9) dX5_leastByTrying_82 (Nat.le_of_ble_eq_true rfl) rfl ?_
              refine sw_lo (lo2 := [some (.ref 45), some (.ref b), some (.int _), some (.int _), some (.int _), some (.int _), some (.int _), some (.int _), some (.int _), some (.int _), none]) rfl ?_
              refine sw_iload (i := 5) dX5_leastByTrying_84 rfl ?_
              refine sw_ins (pc2 := 86) rfl rfl ?_
              refine sw_iload (i := 6) dX5_leastByTrying_86 rfl ?_
              refine sw_iadd dX5_leastByTrying_88 ?_
              refine sw_iload (i := 8) dX5_leastByTrying_89 rfl ?_
              refine sw_iadd dX5_leastByTrying_91 ?_
              refine sw_iload (i := 9) dX5_leastByTrying_92 rfl ?_
              refine sw_iadd dX5_leastByTrying_94 ?_
              refine sw_topE (v := nI (t + e + f + ((s - (t * wt (cV d b) 3 + e * wt (cV d b) 2 + f * wt (cV d b) 1)) / wt (cV d b) 0))) (by simp only [nI_add]) ?_
              refine sw_istore (i := 10) dX5_leastByTrying_95 (Nat.le_of_ble_eq_true rfl) rfl ?_
              refine sw_lo (lo2 := [some (.ref 45), some (.ref b), some (.int _), some (.int _), some (.int _), some (.int _), some (.int _), some (.int _), some (.int _), some (.int _), some (.int _)]) rfl ?_
              refine sw_iload (i := 9) dX5_leastByTrying_97 rfl ?_
              refine sw_ins (pc2 := 99) rfl rfl ?_
              refine sw_im1 dX5_leastByTrying_99 ?_
              refine sw_ic_eq (tgt := 143) dX5_leastByTrying_100 rfl (fun h9 => absurd h9 (nI_ne_m1 (by omega))) (fun _ => ?_)
              refine sw_iload (i := 9) dX5_leastByTrying_103 rfl ?_
              refine sw_aload_n (i := 1) dX5_leastByTrying_105 rfl rfl ?_
              refine sw_iload_n (i := 2) dX5_leastByTrying_106 rfl rfl ?_
              refine sw_ic 0 dX5_leastByTrying_107 ?_
              have hcap108 : OP kX2_capsOf yX2_capsOf 1 [.ref b, .int (nI a), .int (nI 0)] q2 r J (some (.int (nI (cp (cV d b) a 0)))) q2 r J := by
                have h9 := A_X2_capsOf (d := q2) (r := r) (J := J) (a := a) (c := 0) hb ha (by decide)
                rw [hview, (okc.1 (a * 4 + 0) (by omega))] at h9
                exact h9
              refine px_Vx mv_X5_19 hcap108 rfl rfl (Nat.le_of_ble_eq_true rfl) (Nat.le_of_ble_eq_true rfl) (kO_B hb) (Nat.le_of_ble_eq_true rfl) dX5_leastByTrying_108 ?_
              refine sw_ic_gt (tgt := 143) dX5_leastByTrying_111 rfl (fun h9 => absurd h9 (fun q9 => absurd ((nI_ltI (by omega) (by omega)).mp q9) (by omega))) (fun _ => ?_)
              refine sw_ins (pc2 := 114) rfl rfl ?_
              refine sw_iload (i := 4) dX5_leastByTrying_114 rfl ?_
              refine sw_im1 dX5_leastByTrying_116 ?_
              refine sw_ic_eq (tgt := 127) dX5_leastByTrying_117 rfl (fun _ => ?_) (fun h9 => absurd rfl h9)
              refine sw_iload (i := 10) dX5_leastByTrying_127 rfl ?_
              refine sw_istore (i := 4) dX5_leastByTrying_129 (Nat.le_of_ble_eq_true rfl) rfl ?_
              refine sw_lo (lo2 := [some (.ref 45), some (.ref b), some (.int _), some (.int _), some (.int _), some (.int _), some (.int _), some (.int _), some (.int _), some (.int _), some (.int _)]) rfl ?_
              refine sw_aload_n (i := 0) dX5_leastByTrying_131 rfl rfl ?_
              refine sw_iload (i := 9) dX5_leastByTrying_132 rfl ?_
              refine sw_iload (i := 8) dX5_leastByTrying_134 rfl ?_
              refine sw_ins (pc2 := 136) rfl rfl ?_
              refine sw_iload (i := 6) dX5_leastByTrying_136 rfl ?_
              refine sw_iload (i := 5) dX5_leastByTrying_138 rfl ?_
              refine px_Vv mv_X5_41 A_X5_note rfl rfl (Nat.le_of_ble_eq_true rfl) (Nat.le_of_ble_eq_true rfl) ko_45 (Nat.le_of_ble_eq_true rfl) dX5_leastByTrying_140 ?_
              refine sw_iinc (i := 8) (v := pr f) dX5_leastByTrying_143 rfl (pr_dec f) (Nat.le_of_ble_eq_true rfl) rfl ?_
              refine sw_lo (lo2 := [some (.ref 45), some (.ref b), some (.int _), some (.int _), some (.int _), some (.int _), some (.int _), some (.int _), some (.int _), some (.int _), some (.int _)]) rfl ?_
              refine sw_goto (tgt := 58) dX5_leastByTrying_146 rfl ?_
              refine sw_sub ?_ ih2
              exact ⟨rfl, rfl, rfl, rfl, rfl, rfl, rfl, rfl, rfl, trivial⟩
            | some q1 =>
              obtain ⟨z9, f9, e9, t9⟩ := q1
              have hsm : t9 + e9 + f9 + z9 < 2 ^ 20 := hq.2.1
              have hbt9 : t + e + f + _ < t9 + e9 + f9 + z9 := hbt
              refine sw_lo (lo2 := [some (.ref 45), some (.ref b), some (.int (nI a)), some (.int (nI s)), some (.int _), some (.int (nI t)), some (.int (nI e)), some (.int (nI s - nI (t * wt (cV d b) 3 + e * wt (cV d b) 2))), some (.int (nI f)), none, none]) rfl ?_
              refine sw_iload (i := 8) dX5_leastByTrying_58 rfl ?_
              refine sw_if_lt (tgt := 149) dX5_leastByTrying_60 rfl (fun h9 => absurd h9 (nI_pos (by omega))) (fun _ => ?_)
              refine sw_iload (i := 7) dX5_leastByTrying_63 rfl ?_
              refine sw_iload (i := 8) dX5_leastByTrying_65 rfl ?_
              refine sw_aload_n (i := 1) dX5_leastByTrying_67 rfl rfl ?_
              refine sw_ic 1 dX5_leastByTrying_68 ?_
              have hwor69 : OP kX2_worthOf yX2_worthOf 1 [.ref b, .int (nI 1)] q2 r J (some (.int (nI (wt (cV d b) 1)))) q2 r J := by
                have h9 := A_X2_worthOf (d := q2) (r := r) (J := J) (c := 1) hb (by decide)
                rw [hview, (okw 1 (by decide)).1] at h9
                exact h9
              refine px_Vx mv_X5_25 hwor69 rfl rfl (Nat.le_of_ble_eq_true rfl) (Nat.le_of_ble_eq_true rfl) (kO_B hb) (Nat.le_of_ble_eq_true rfl) dX5_leastByTrying_69 ?_
              refine sw_ins (pc2 := 72) rfl rfl ?_
              refine sw_imul dX5_leastByTrying_72 ?_
              refine sw_isub dX5_leastByTrying_73 ?_
              refine sw_topE (v := nI s - nI (t * wt (cV d b) 3 + e * wt (cV d b) 2 + f * wt (cV d b) 1)) (by rw [pk_mul, am_ss, nI_add]) ?_
              refine sw_aload_n (i := 1) dX5_leastByTrying_74 rfl rfl ?_
              refine sw_ic 0 dX5_leastByTrying_75 ?_
              have hwor76 : OP kX2_worthOf yX2_worthOf 1 [.ref b, .int (nI 0)] q2 r J (some (.int (nI (wt (cV d b) 0)))) q2 r J := by
                have h9 := A_X2_worthOf (d := q2) (r := r) (J := J) (c := 0) hb (by decide)
                rw [hview, (okw 0 (by decide)).1] at h9
                exact h9
              refine px_Vx mv_X5_25 hwor76 rfl rfl (Nat.le_of_ble_eq_true rfl) (Nat.le_of_ble_eq_true rfl) (kO_B hb) (Nat.le_of_ble_eq_true rfl) dX5_leastByTrying_76 ?_
              refine px_Sx ms_X5_38 hwc rfl rfl (Nat.le_of_ble_eq_true rfl) (Nat.le_of_ble_eq_true rfl) (Nat.le_of_ble_eq_true rfl) dX5_leastByTrying_79 ?_
              refine sw_istore (i := 9) dX5_leastByTrying_82 (Nat.le_of_ble_eq_true rfl) rfl ?_
              refine sw_lo (lo2 := [some (.ref 45), some (.ref b), some (.int _), some (.int _), some (.int _), some (.int _), some (.int _), some (.int _), some (.int _), some (.int _), none]) rfl ?_
              refine sw_iload (i := 5) dX5_leastByTrying_84 rfl ?_
              refine sw_ins (pc2 := 86) rfl rfl ?_
              refine sw_iload (i := 6) dX5_leastByTrying_86 rfl ?_
              refine sw_iadd dX5_leastByTrying_88 ?_
              refine sw_iload (i := 8) dX5_leastByTrying_89 rfl ?_
              refine sw_iadd dX5_leastByTrying_91 ?_
              refine sw_iload (i := 9) dX5_leastByTrying_92 rfl ?_
              refine sw_iadd dX5_leastByTrying_94 ?_
              refine sw_topE (v := nI (t + e + f + ((s - (t * wt (cV d b) 3 + e * wt (cV d b) 2 + f * wt (cV d b) 1)) / wt (cV d b) 0))) (by simp only [nI_add]) ?_
              refine sw_istore (i := 10) dX5_leastByTrying_95 (Nat.le_of_ble_eq_true rfl) rfl ?_
              refine sw_lo (lo2 := [some (.ref 45), some (.ref b), some (.int _), some (.int _), some (.int _), some (.int _), some (.int _), some (.int _), some (.int _), some (.int _), some (.int _)]) rfl ?_
              refine sw_iload (i := 9) dX5_leastByTrying_97 rfl ?_
              refine sw_ins (pc2 := 99) rfl rfl ?_
              refine sw_im1 dX5_leastByTrying_99 ?_
              refine sw_ic_eq (tgt := 143) dX5_leastByTrying_100 rfl (fun h9 => absurd h9 (nI_ne_m1 (by omega))) (fun _ => ?_)
              refine sw_iload (i := 9) dX5_leastByTrying_103 rfl ?_
              refine sw_aload_n (i := 1) dX5_leastByTrying_105 rfl rfl ?_
              refine sw_iload_n (i := 2) dX5_leastByTrying_106 rfl rfl ?_
              refine sw_ic 0 dX5_leastByTrying_107 ?_
              have hcap108 : OP kX2_capsOf yX2_capsOf 1 [.ref b, .int (nI a), .int (nI 0)] q2 r J (some (.int (nI (cp (cV d b) a 0)))) q2 r J := by
                have h9 := A_X2_capsOf (d := q2) (r := r) (J := J) (a := a) (c := 0) hb ha (by decide)
                rw [hview, (okc.1 (a * 4 + 0) (by omega))] at h9
                exact h9
              refine px_Vx mv_X5_19 hcap108 rfl rfl (Nat.le_of_ble_eq_true rfl) (Nat.le_of_ble_eq_true rfl) (kO_B hb) (Nat.le_of_ble_eq_true rfl) dX5_leastByTrying_108 ?_
              refine sw_ic_gt (tgt := 143) dX5_leastByTrying_111 rfl (fun h9 => absurd h9 (fun q9 => absurd ((nI_ltI (by omega) (by omega)).mp q9) (by omega))) (fun _ => ?_)
              refine sw_ins (pc2 := 114) rfl rfl ?_
              refine sw_iload (i := 4) dX5_leastByTrying_114 rfl ?_
              refine sw_im1 dX5_leastByTrying_116 ?_
              refine sw_ic_eq (tgt := 127) dX5_leastByTrying_117 rfl (fun h9 => absurd h9 (nI_ne_m1 (by omega))) (fun _ => ?_)
              refine sw_iload (i := 10) dX5_leastByTrying_120 rfl ?_
              refine sw_iload (i := 4) dX5_leastByTrying_122 rfl ?_
              refine sw_ic_ge (tgt := 143) dX5_leastByTrying_124 rfl (fun h9 => absurd h9 (fun q9 => absurd ((nI_leI (by omega) (by omega)).mp q9) (by omega))) (fun _ => ?_)
              refine sw_iload (i := 10) dX5_leastByTrying_127 rfl ?_
              refine sw_istore (i := 4) dX5_leastByTrying_129 (Nat.le_of_ble_eq_true rfl) rfl ?_
              refine sw_lo (lo2 := [some (.ref 45), some (.ref b), some (.int _), some (.int _), some (.int _), some (.int _), some (.int _), some (.int _), some (.int _), some (.int _), some (.int _)]) rfl ?_
              refine sw_ins (pc2 := 131) rfl rfl ?_
              refine sw_aload_n (i := 0) dX5_leastByTrying_131 rfl rfl ?_
              refine sw_iload (i := 9) dX5_leastByTrying_132 rfl ?_
              refine sw_iload (i := 8) dX5_leastByTrying_134 rfl ?_
              refine sw_iload (i := 6) dX5_leastByTrying_136 rfl ?_
              refine sw_iload (i := 5) dX5_leastByTrying_138 rfl ?_
              refine px_Vv mv_X5_41 A_X5_note rfl rfl (Nat.le_of_ble_eq_true rfl) (Nat.le_of_ble_eq_true rfl) ko_45 (Nat.le_of_ble_eq_true rfl) dX5_leastByTrying_140 ?_
              refine sw_iinc (i := 8) (v := pr f) dX5_leastByTrying_143 rfl (pr_dec f) (Nat.le_of_ble_eq_true rfl) rfl ?_
              refine sw_lo (lo2 := [some (.ref 45), some (.ref b), some (.int _), some (.int _), some (.int _), some (.int _), some (.int _), some (.int _), some (.int _), some (.int _), some (.int _)]) rfl ?_
              refine sw_goto (tgt := 58) dX5_leastByTrying_146 rfl ?_
              refine sw_sub ?_ ih2
              exact ⟨rfl, rfl, rfl, rfl, rfl, rfl, rfl, rfl, rfl, trivial⟩
          · rw [bt_no (fun h => hbt h.2.2.2)] at ih2
            obtain ⟨q1, q2⟩ := q
            cases q1 with
            | none => exact absurd trivial hbt
            | some q1 =>
              obtain ⟨z9, f9, e9, t9⟩ := q1
              have hsm : t9 + e9 + f9 + z9 < 2 ^ 20 := hq.2.1
              have hbt9 : ¬ t + e + f + _ < t9 + e9 + f9 + z9 := hbt
              refine sw_lo (lo2 := [some (.ref 45), some (.ref b), some (.int (nI a)), some (.int (nI s)), some (.int _), some (.int (nI t)), some (.int (nI e)), some (.int (nI s - nI (t * wt (cV d b) 3 + e * wt (cV d b) 2))), some (.int (nI f)), none, none]) rfl ?_
              refine sw_iload (i := 8) dX5_leastByTrying_58 rfl ?_
              refine sw_if_lt (tgt := 149) dX5_leastByTrying_60 rfl (fun h9 => absurd h9 (nI_pos (by omega))) (fun _ => ?_)
              refine sw_iload (i := 7) dX5_leastByTrying_63 rfl ?_
              refine sw_iload (i := 8) dX5_leastByTrying_65 rfl ?_
              refine sw_aload_n (i := 1) dX5_leastByTrying_67 rfl rfl ?_
              refine sw_ic 1 dX5_leastByTrying_68 ?_
              have hwor69 : OP kX2_worthOf yX2_worthOf 1 [.ref b, .int (nI 1)] q2 r J (some (.int (nI (wt (cV d b) 1)))) q2 r J := by
                have h9 := A_X2_worthOf (d := q2) (r := r) (J := J) (c := 1) hb (by decide)
                rw [hview, (okw 1 (by decide)).1] at h9
                exact h9
              refine px_Vx mv_X5_25 hwor69 rfl rfl (Nat.le_of_ble_eq_true rfl) (Nat.le_of_ble_eq_true rfl) (kO_B hb) (Nat.le_of_ble_eq_true rfl) dX5_leastByTrying_69 ?_
              refine sw_ins (pc2 := 72) rfl rfl ?_
              refine sw_imul dX5_leastByTrying_72 ?_
              refine sw_isub dX5_leastByTrying_73 ?_
              refine sw_topE (v := nI s - nI (t * wt (cV d b) 3 + e * wt (cV d b) 2 + f * wt (cV d b) 1)) (by rw [pk_mul, am_ss, nI_add]) ?_
              refine sw_aload_n (i := 1) dX5_leastByTrying_74 rfl rfl ?_
              refine sw_ic 0 dX5_leastByTrying_75 ?_
              have hwor76 : OP kX2_worthOf yX2_worthOf 1 [.ref b, .int (nI 0)] q2 r J (some (.int (nI (wt (cV d b) 0)))) q2 r J := by
                have h9 := A_X2_worthOf (d := q2) (r := r) (J := J) (c := 0) hb (by decide)
                rw [hview, (okw 0 (by decide)).1] at h9
                exact h9
              refine px_Vx mv_X5_25 hwor76 rfl rfl (Nat.le_of_ble_eq_true rfl) (Nat.le_of_ble_eq_true rfl) (kO_B hb) (Nat.le_of_ble_eq_true rfl) dX5_leastByTrying_76 ?_
              refine px_Sx ms_X5_38 hwc rfl rfl (Nat.le_of_ble_eq_true rfl) (Nat.le_of_ble_eq_true rfl) (Nat.le_of_ble_eq_true rfl) dX5_leastByTrying_79 ?_
              refine sw_istore (i := 9) dX5_leastByTrying_82 (Nat.le_of_ble_eq_true rfl) rfl ?_
              refine sw_lo (lo2 := [some (.ref 45), some (.ref b), some (.int _), some (.int _), some (.int _), some (.int _), some (.int _), some (.int _), some (.int _), some (.int _), none]) rfl ?_
              refine sw_iload (i := 5) dX5_leastByTrying_84 rfl ?_
              refine sw_ins (pc2 := 86) rfl rfl ?_
              refine sw_iload (i := 6) dX5_leastByTrying_86 rfl ?_
              refine sw_iadd dX5_leastByTrying_88 ?_
              refine sw_iload (i := 8) dX5_leastByTrying_89 rfl ?_
              refine sw_iadd dX5_leastByTrying_91 ?_
              refine sw_iload (i := 9) dX5_leastByTrying_92 rfl ?_
              refine sw_iadd dX5_leastByTrying_94 ?_
              refine sw_topE (v := nI (t + e + f + ((s - (t * wt (cV d b) 3 + e * wt (cV d b) 2 + f * wt (cV d b) 1)) / wt (cV d b) 0))) (by simp only [nI_add]) ?_
              refine sw_istore (i := 10) dX5_leastByTrying_95 (Nat.le_of_ble_eq_true rfl) rfl ?_
              refine sw_lo (lo2 := [some (.ref 45), some (.ref b), some (.int _), some (.int _), some (.int _), some (.int _), some (.int _), some (.int _), some (.int _), some (.int _), some (.int _)]) rfl ?_
              refine sw_iload (i := 9) dX5_leastByTrying_97 rfl ?_
              refine sw_ins (pc2 := 99) rfl rfl ?_
              refine sw_im1 dX5_leastByTrying_99 ?_
              refine sw_ic_eq (tgt := 143) dX5_leastByTrying_100 rfl (fun h9 => absurd h9 (nI_ne_m1 (by omega))) (fun _ => ?_)
              refine sw_iload (i := 9) dX5_leastByTrying_103 rfl ?_
              refine sw_aload_n (i := 1) dX5_leastByTrying_105 rfl rfl ?_
              refine sw_iload_n (i := 2) dX5_leastByTrying_106 rfl rfl ?_
              refine sw_ic 0 dX5_leastByTrying_107 ?_
              have hcap108 : OP kX2_capsOf yX2_capsOf 1 [.ref b, .int (nI a), .int (nI 0)] q2 r J (some (.int (nI (cp (cV d b) a 0)))) q2 r J := by
                have h9 := A_X2_capsOf (d := q2) (r := r) (J := J) (a := a) (c := 0) hb ha (by decide)
                rw [hview, (okc.1 (a * 4 + 0) (by omega))] at h9
                exact h9
              refine px_Vx mv_X5_19 hcap108 rfl rfl (Nat.le_of_ble_eq_true rfl) (Nat.le_of_ble_eq_true rfl) (kO_B hb) (Nat.le_of_ble_eq_true rfl) dX5_leastByTrying_108 ?_
              refine sw_ic_gt (tgt := 143) dX5_leastByTrying_111 rfl (fun h9 => absurd h9 (fun q9 => absurd ((nI_ltI (by omega) (by omega)).mp q9) (by omega))) (fun _ => ?_)
              refine sw_ins (pc2 := 114) rfl rfl ?_
              refine sw_iload (i := 4) dX5_leastByTrying_114 rfl ?_
              refine sw_im1 dX5_leastByTrying_116 ?_
              refine sw_ic_eq (tgt := 127) dX5_leastByTrying_117 rfl (fun h9 => absurd h9 (nI_ne_m1 (by omega))) (fun _ => ?_)
              refine sw_iload (i := 10) dX5_leastByTrying_120 rfl ?_
              refine sw_iload (i := 4) dX5_leastByTrying_122 rfl ?_
              refine sw_ic_ge (tgt := 143) dX5_leastByTrying_124 rfl (fun _ => ?_) (fun h9 => absurd ((nI_leI (by omega) (by omega)).mpr (by omega)) h9)
              refine sw_iinc (i := 8) (v := pr f) dX5_leastByTrying_143 rfl (pr_dec f) (Nat.le_of_ble_eq_true rfl) rfl ?_
              refine sw_lo (lo2 := [some (.ref 45), some (.ref b), some (.int _), some (.int _), some (.int _), some (.int _), some (.int _), some (.int _), some (.int _), some (.int _), some (.int _)]) rfl ?_
              refine sw_goto (tgt := 58) dX5_leastByTrying_146 rfl ?_
              refine sw_sub ?_ ih2
              exact ⟨rfl, rfl, rfl, rfl, rfl, rfl, rfl, rfl, rfl, trivial⟩
        · rw [bt_no (fun h => hc h.2.2.1)] at ih2
          refine sw_lo (lo2 := [some (.ref 45), some (.ref b), some (.int (nI a)), some (.int (nI s)), some (.int _), some (.int (nI t)), some (.int (nI e)), some (.int (nI s - nI (t * wt (cV d b) 3 + e * wt (cV d b) 2))), some (.int (nI f)), none, none]) rfl ?_
          refine sw_iload (i := 8) dX5_leastByTrying_58 rfl ?_
          refine sw_if_lt (tgt := 149) dX5_leastByTrying_60 rfl (fun h9 => absurd h9 (nI_pos (by omega))) (fun _ => ?_)
          refine sw_iload (i := 7) dX5_leastByTrying_63 rfl ?_
          refine sw_iload (i := 8) dX5_leastByTrying_65 rfl ?_
          refine sw_aload_n (i := 1) dX5_leastByTrying_67 rfl rfl ?_
          refine sw_ic 1 dX5_leastByTrying_68 ?_
          have hwor69 : OP kX2_worthOf yX2_worthOf 1 [.ref b, .int (nI 1)] q.2 r J (some (.int (nI (wt (cV d b) 1)))) q.2 r J := by
            have h9 := A_X2_worthOf (d := q.2) (r := r) (J := J) (c := 1) hb (by decide)
            rw [hview, (okw 1 (by decide)).1] at h9
            exact h9
          refine px_Vx mv_X5_25 hwor69 rfl rfl (Nat.le_of_ble_eq_true rfl) (Nat.le_of_ble_eq_true rfl) (kO_B hb) (Nat.le_of_ble_eq_true rfl) dX5_leastByTrying_69 ?_
          refine sw_ins (pc2 := 72) rfl rfl ?_
          refine sw_imul dX5_leastByTrying_72 ?_
          refine sw_isub dX5_leastByTrying_73 ?_
          refine sw_topE (v := nI s - nI (t * wt (cV d b) 3 + e * wt (cV d b) 2 + f * wt (cV d b) 1)) (by rw [pk_mul, am_ss, nI_add]) ?_
          refine sw_aload_n (i := 1) dX5_leastByTrying_74 rfl rfl ?_
          refine sw_ic 0 dX5_leastByTrying_75 ?_
          have hwor76 : OP kX2_worthOf yX2_worthOf 1 [.ref b, .int (nI 0)] q.2 r J (some (.int (nI (wt (cV d b) 0)))) q.2 r J := by
            have h9 := A_X2_worthOf (d := q.2) (r := r) (J := J) (c := 0) hb (by decide)
            rw [hview, (okw 0 (by decide)).1] at h9
            exact h9
          refine px_Vx mv_X5_25 hwor76 rfl rfl (Nat.le_of_ble_eq_true rfl) (Nat.le_of_ble_eq_true rfl) (kO_B hb) (Nat.le_of_ble_eq_true rfl) dX5_leastByTrying_76 ?_
          refine px_Sx ms_X5_38 hwc rfl rfl (Nat.le_of_ble_eq_true rfl) (Nat.le_of_ble_eq_true rfl) (Nat.le_of_ble_eq_true rfl) dX5_leastByTrying_79 ?_
          refine sw_istore (i := 9) dX5_leastByTrying_82 (Nat.le_of_ble_eq_true rfl) rfl ?_
          refine sw_lo (lo2 := [some (.ref 45), some (.ref b), some (.int _), some (.int _), some (.int _), some (.int _), some (.int _), some (.int _), some (.int _), some (.int _), none]) rfl ?_
          refine sw_iload (i := 5) dX5_leastByTrying_84 rfl ?_
          refine sw_ins (pc2 := 86) rfl rfl ?_
          refine sw_iload (i := 6) dX5_leastByTrying_86 rfl ?_
          refine sw_iadd dX5_leastByTrying_88 ?_
          refine sw_iload (i := 8) dX5_leastByTrying_89 rfl ?_
          refine sw_iadd dX5_leastByTrying_91 ?_
          refine sw_iload (i := 9) dX5_leastByTrying_92 rfl ?_
          refine sw_iadd dX5_leastByTrying_94 ?_
          refine sw_topE (v := nI (t + e + f + ((s - (t * wt (cV d b) 3 + e * wt (cV d b) 2 + f * wt (cV d b) 1)) / wt (cV d b) 0))) (by simp only [nI_add]) ?_
          refine sw_istore (i := 10) dX5_leastByTrying_95 (Nat.le_of_ble_eq_true rfl) rfl ?_
          refine sw_lo (lo2 := [some (.ref 45), some (.ref b), some (.int _), some (.int _), some (.int _), some (.int _), some (.int _), some (.int _), some (.int _), some (.int _), some (.int _)]) rfl ?_
          refine sw_iload (i := 9) dX5_leastByTrying_97 rfl ?_
          refine sw_ins (pc2 := 99) rfl rfl ?_
          refine sw_im1 dX5_leastByTrying_99 ?_
          refine sw_ic_eq (tgt := 143) dX5_leastByTrying_100 rfl (fun h9 => absurd h9 (nI_ne_m1 (by omega))) (fun _ => ?_)
          refine sw_iload (i := 9) dX5_leastByTrying_103 rfl ?_
          refine sw_aload_n (i := 1) dX5_leastByTrying_105 rfl rfl ?_
          refine sw_iload_n (i := 2) dX5_leastByTrying_106 rfl rfl ?_
          refine sw_ic 0 dX5_leastByTrying_107 ?_
          have hcap108 : OP kX2_capsOf yX2_capsOf 1 [.ref b, .int (nI a), .int (nI 0)] q.2 r J (some (.int (nI (cp (cV d b) a 0)))) q.2 r J := by
            have h9 := A_X2_capsOf (d := q.2) (r := r) (J := J) (a := a) (c := 0) hb ha (by decide)
            rw [hview, (okc.1 (a * 4 + 0) (by omega))] at h9
            exact h9
          refine px_Vx mv_X5_19 hcap108 rfl rfl (Nat.le_of_ble_eq_true rfl) (Nat.le_of_ble_eq_true rfl) (kO_B hb) (Nat.le_of_ble_eq_true rfl) dX5_leastByTrying_108 ?_
          refine sw_ic_gt (tgt := 143) dX5_leastByTrying_111 rfl (fun _ => ?_) (fun h9 => absurd ((nI_ltI (by omega) (by omega)).mpr (by omega)) h9)
          refine sw_iinc (i := 8) (v := pr f) dX5_leastByTrying_143 rfl (pr_dec f) (Nat.le_of_ble_eq_true rfl) rfl ?_
          refine sw_lo (lo2 := [some (.ref 45), some (.ref b), some (.int _), some (.int _), some (.int _), some (.int _), some (.int _), some (.int _), some (.int _), some (.int _), some (.int _)]) rfl ?_
          refine sw_goto (tgt := 58) dX5_leastByTrying_146 rfl ?_
          refine sw_sub ?_ ih2
          exact ⟨rfl, rfl, rfl, rfl, rfl, rfl, rfl, rfl, rfl, trivial⟩
      · rw [if_neg hmod] at hwc
        rw [bt_no (fun h => hmod h.2.1)] at ih2
        refine sw_lo (lo2 := [some (.ref 45), some (.ref b), some (.int (nI a)), some (.int (nI s)), some (.int _), some (.int (nI t)), some (.int (nI e)), some (.int (nI s - nI (t * wt (cV d b) 3 + e * wt (cV d b) 2))), some (.int (nI f)), none, none]) rfl ?_
        refine sw_iload (i := 8) dX5_leastByTrying_58 rfl ?_
        refine sw_if_lt (tgt := 149) dX5_leastByTrying_60 rfl (fun h9 => absurd h9 (nI_pos (by omega))) (fun _ => ?_)
        refine sw_iload (i := 7) dX5_leastByTrying_63 rfl ?_
        refine sw_iload (i := 8) dX5_leastByTrying_65 rfl ?_
        refine sw_aload_n (i := 1) dX5_leastByTrying_67 rfl rfl ?_
        refine sw_ic 1 dX5_leastByTrying_68 ?_
        have hwor69 : OP kX2_worthOf yX2_worthOf 1 [.ref b, .int (nI 1)] q.2 r J (some (.int (nI (wt (cV d b) 1)))) q.2 r J := by
          have h9 := A_X2_worthOf (d := q.2) (r := r) (J := J) (c := 1) hb (by decide)
          rw [hview, (okw 1 (by decide)).1] at h9
          exact h9
        refine px_Vx mv_X5_25 hwor69 rfl rfl (Nat.le_of_ble_eq_true rfl) (Nat.le_of_ble_eq_true rfl) (kO_B hb) (Nat.le_of_ble_eq_true rfl) dX5_leastByTrying_69 ?_
        refine sw_ins (pc2 := 72) rfl rfl ?_
        refine sw_imul dX5_leastByTrying_72 ?_
        refine sw_isub dX5_leastByTrying_73 ?_
        refine sw_topE (v := nI s - nI (t * wt (cV d b) 3 + e * wt (cV d b) 2 + f * wt (cV d b) 1)) (by rw [pk_mul, am_ss, nI_add]) ?_
        refine sw_aload_n (i := 1) dX5_leastByTrying_74 rfl rfl ?_
        refine sw_ic 0 dX5_leastByTrying_75 ?_
        have hwor76 : OP kX2_worthOf yX2_worthOf 1 [.ref b, .int (nI 0)] q.2 r J (some (.int (nI (wt (cV d b) 0)))) q.2 r J := by
          have h9 := A_X2_worthOf (d := q.2) (r := r) (J := J) (c := 0) hb (by decide)
          rw [hview, (okw 0 (by decide)).1] at h9
          exact h9
        refine px_Vx mv_X5_25 hwor76 rfl rfl (Nat.le_of_ble_eq_true rfl) (Nat.le_of_ble_eq_true rfl) (kO_B hb) (Nat.le_of_ble_eq_true rfl) dX5_leastByTrying_76 ?_
        refine px_Sx ms_X5_38 hwc rfl rfl (Nat.le_of_ble_eq_true rfl) (Nat.le_of_ble_eq_true rfl) (Nat.le_of_ble_eq_true rfl) dX5_leastByTrying_79 ?_
        refine sw_istore (i := 9) dX5_leastByTrying_82 (Nat.le_of_ble_eq_true rfl) rfl ?_
        refine sw_lo (lo2 := [some (.ref 45), some (.ref b), some (.int _), some (.int _), some (.int _), some (.int _), some (.int _), some (.int _), some (.int _), some (.int _), none]) rfl ?_
        refine sw_iload (i := 5) dX5_leastByTrying_84 rfl ?_
        refine sw_ins (pc2 := 86) rfl rfl ?_
        refine sw_iload (i := 6) dX5_leastByTrying_86 rfl ?_
        refine sw_iadd dX5_leastByTrying_88 ?_
        refine sw_iload (i := 8) dX5_leastByTrying_89 rfl ?_
        refine sw_iadd dX5_leastByTrying_91 ?_
        refine sw_iload (i := 9) dX5_leastByTrying_92 rfl ?_
        refine sw_iadd dX5_leastByTrying_94 ?_
        refine sw_istore (i := 10) dX5_leastByTrying_95 (Nat.le_of_ble_eq_true rfl) rfl ?_
        refine sw_lo (lo2 := [some (.ref 45), some (.ref b), some (.int _), some (.int _), some (.int _), some (.int _), some (.int _), some (.int _), some (.int _), some (.int _), some (.int _)]) rfl ?_
        refine sw_iload (i := 9) dX5_leastByTrying_97 rfl ?_
        refine sw_ins (pc2 := 99) rfl rfl ?_
        refine sw_im1 dX5_leastByTrying_99 ?_
        refine sw_ic_eq (tgt := 143) dX5_leastByTrying_100 rfl (fun _ => ?_) (fun h9 => absurd rfl h9)
        refine sw_iinc (i := 8) (v := pr f) dX5_leastByTrying_143 rfl (pr_dec f) (Nat.le_of_ble_eq_true rfl) rfl ?_
        refine sw_lo (lo2 := [some (.ref 45), some (.ref b), some (.int _), some (.int _), some (.int _), some (.int _), some (.int _), some (.int _), some (.int _), some (.int _), some (.int _)]) rfl ?_
        refine sw_goto (tgt := 58) dX5_leastByTrying_146 rfl ?_
        refine sw_sub ?_ ih2
        exact ⟨rfl, rfl, rfl, rfl, rfl, rfl, rfl, rfl, rfl, trivial⟩
set_option maxRecDepth 100000 in
set_option maxHeartbeats 4000000 in
theorem B2_X5_leastByTrying {d : Nat → Nat → Int32} {r : Nat → Nat → Option Nat} {J : Nat → Nat → Int64} {b a s : Nat} (hb : isB b) (okc : okCaps (cV d b)) (okw : okWorth (cV d b)) (ha : a < 8) (hs : s ≤ 99) (R : bst × (Nat → Nat → Int32)) {t : Nat} (ht : t ≤ 20) : ∀ (e : Nat) (q : bst × (Nat → Nat → Int32)), e ≤ 21 → okq d q → SW yX5_leastByTrying cX5_leastByTrying 11 (some .int) [] 2 none 155 [some (.ref 45), some (.ref b), some (.int (nI a)), some (.int (nI s)), some (.int (enc (l2 (cV d b) a s t e q).1)), some (.int (nI t)), none, none, none, none, none] [] 65 (W0 (l2 (cV d b) a s t e q).2 r J) 0 0 (.inl (some (.int (enc R.1)))) 65 (W0 R.2 r J) → SW yX5_leastByTrying cX5_leastByTrying 11 (some .int) [] 2 none 24 [some (.ref 45), some (.ref b), some (.int (nI a)), some (.int (nI s)), some (.int (enc (q).1)), some (.int (nI t)), some (.int (pr e)), none, none, none, none] [] 65 (W0 (q).2 r J) 0 0 (.inl (some (.int (enc R.1)))) 65 (W0 R.2 r J) := by
  have hbc := isB_cases hb
  have n1 : b + 1 ≠ 47 := by omega
  have n3 : b + 3 ≠ 47 := by omega
  have c0 := cp_le okc ha (c := 0) (by decide)
  have c1 := cp_le okc ha (c := 1) (by decide)
  have c2 := cp_le okc ha (c := 2) (by decide)
  have c3 := cp_le okc ha (c := 3) (by decide)
  have w0 := okw 0 (by decide)
  have w1 := okw 1 (by decide)
  have w2 := okw 2 (by decide)
  have w3 := okw 3 (by decide)
  intro e
  induction e with
  | zero =>
    intro q hf hq hx
    refine sw_iload (i := 6) dX5_leastByTrying_24 rfl ?_
    refine sw_if_lt (tgt := 155) dX5_leastByTrying_26 rfl (fun _ => ?_) (fun h9 => absurd (by decide) h9)
    refine sw_sub ?_ hx
    exact ⟨rfl, rfl, rfl, rfl, rfl, rfl, trivial⟩
  | succ e ih =>
    intro q he hq hx
    have hview : cV q.2 b = cV d b := cV_keep (fun c hc => hq.1 c (by omega))
    have hq2 := l1_ok (V := cV d b) (a := a) (t := t) (e := e) hs ht (by omega) (cp (cV d b) a 1 + 1) q (by omega) hq
    have ih2 := ih _ (by omega) hq2 hx
    refine sw_lo (lo2 := [some (.ref 45), some (.ref b), some (.int (nI a)), some (.int (nI s)), some (.int (enc (q).1)), some (.int (nI t)), some (.int (nI e)), none, none, none, none]) rfl ?_
    refine sw_iload (i := 6) dX5_leastByTrying_24 rfl ?_
    refine sw_if_lt (tgt := 155) dX5_leastByTrying_26 rfl (fun h9 => absurd h9 (nI_pos (by omega))) (fun _ => ?_)
    refine sw_iload_n (i := 3) dX5_leastByTrying_29 rfl rfl ?_
    refine sw_iload (i := 5) dX5_leastByTrying_30 rfl ?_
    refine sw_aload_n (i := 1) dX5_leastByTrying_32 rfl rfl ?_
    refine sw_ic 3 dX5_leastByTrying_33 ?_
    have hwor34 : OP kX2_worthOf yX2_worthOf 1 [.ref b, .int (nI 3)] q.2 r J (some (.int (nI (wt (cV d b) 3)))) q.2 r J := by
      have h9 := A_X2_worthOf (d := q.2) (r := r) (J := J) (c := 3) hb (by decide)
      rw [hview, (okw 3 (by decide)).1] at h9
      exact h9
    refine px_Vx mv_X5_25 hwor34 rfl rfl (Nat.le_of_ble_eq_true rfl) (Nat.le_of_ble_eq_true rfl) (kO_B hb) (Nat.le_of_ble_eq_true rfl) dX5_leastByTrying_34 ?_
    refine sw_ins (pc2 := 37) rfl rfl ?_
    refine sw_imul dX5_leastByTrying_37 ?_
    refine sw_isub dX5_leastByTrying_38 ?_
    refine sw_iload (i := 6) dX5_leastByTrying_39 rfl ?_
    refine sw_aload_n (i := 1) dX5_leastByTrying_41 rfl rfl ?_
    refine sw_ic 2 dX5_leastByTrying_42 ?_
    have hwor43 : OP kX2_worthOf yX2_worthOf 1 [.ref b, .int (nI 2)] q.2 r J (some (.int (nI (wt (cV d b) 2)))) q.2 r J := by
      have h9 := A_X2_worthOf (d := q.2) (r := r) (J := J) (c := 2) hb (by decide)
      rw [hview, (okw 2 (by decide)).1] at h9
      exact h9
    refine px_Vx mv_X5_25 hwor43 rfl rfl (Nat.le_of_ble_eq_true rfl) (Nat.le_of_ble_eq_true rfl) (kO_B hb) (Nat.le_of_ble_eq_true rfl) dX5_leastByTrying_43 ?_
    refine sw_imul dX5_leastByTrying_46 ?_
    refine sw_isub dX5_leastByTrying_47 ?_
    refine sw_topE (v := nI s - nI (t * wt (cV d b) 3 + e * wt (cV d b) 2)) (by rw [pk_mul, pk_mul, am_ss, nI_add]) ?_
    refine sw_ins (pc2 := 48) rfl rfl ?_
    refine sw_istore (i := 7) dX5_leastByTrying_48 (Nat.le_of_ble_eq_true rfl) rfl ?_
    refine sw_lo (lo2 := [some (.ref 45), some (.ref b), some (.int _), some (.int _), some (.int _), some (.int _), some (.int _), some (.int _), none, none, none]) rfl ?_
    refine sw_aload_n (i := 1) dX5_leastByTrying_50 rfl rfl ?_
    refine sw_iload_n (i := 2) dX5_leastByTrying_51 rfl rfl ?_
    refine sw_ic 1 dX5_leastByTrying_52 ?_
    have hcap53 : OP kX2_capsOf yX2_capsOf 1 [.ref b, .int (nI a), .int (nI 1)] q.2 r J (some (.int (nI (cp (cV d b) a 1)))) q.2 r J := by
      have h9 := A_X2_capsOf (d := q.2) (r := r) (J := J) (a := a) (c := 1) hb ha (by decide)
      rw [hview, (okc.1 (a * 4 + 1) (by omega))] at h9
      exact h9
    refine px_Vx mv_X5_19 hcap53 rfl rfl (Nat.le_of_ble_eq_true rfl) (Nat.le_of_ble_eq_true rfl) (kO_B hb) (Nat.le_of_ble_eq_true rfl) dX5_leastByTrying_53 ?_
    refine sw_istore (i := 8) dX5_leastByTrying_56 (Nat.le_of_ble_eq_true rfl) rfl ?_
    refine sw_lo (lo2 := [some (.ref 45), some (.ref b), some (.int _), some (.int _), some (.int _), some (.int _), some (.int _), some (.int _), some (.int _), none, none]) rfl ?_
    refine sw_sub (lo2 := [some (.ref 45), some (.ref b), some (.int (nI a)), some (.int (nI s)), some (.int (enc (q).1)), some (.int (nI t)), some (.int (nI e)), some (.int (nI s - nI (t * wt (cV d b) 3 + e * wt (cV d b) 2))), some (.int (pr (cp (cV d b) a 1 + 1))), none, none]) ⟨rfl, rfl, rfl, rfl, rfl, rfl, rfl, rfl, rfl, trivial⟩ ?_
    refine B1_X5_leastByTrying hb okc okw ha hs R ht (by omega) _ q (by omega) hq ?_
    refine sw_iinc (i := 6) (v := pr e) dX5_leastByTrying_149 rfl (pr_dec e) (Nat.le_of_ble_eq_true rfl) rfl ?_
    refine sw_lo (lo2 := [some (.ref 45), some (.ref b), some (.int _), some (.int _), some (.int _), some (.int _), some (.int _), none, none, none, none]) rfl ?_
    refine sw_goto (tgt := 24) dX5_leastByTrying_152 rfl ?_
    refine sw_sub ?_ ih2
    exact ⟨rfl, rfl, rfl, rfl, rfl, rfl, rfl, trivial⟩
set_option maxRecDepth 100000 in
set_option maxHeartbeats 4000000 in
theorem B3_X5_leastByTrying {d : Nat → Nat → Int32} {r : Nat → Nat → Option Nat} {J : Nat → Nat → Int64} {b a s : Nat} (hb : isB b) (okc : okCaps (cV d b)) (okw : okWorth (cV d b)) (ha : a < 8) (hs : s ≤ 99) (R : bst × (Nat → Nat → Int32)) : ∀ (t : Nat) (q : bst × (Nat → Nat → Int32)), t ≤ 21 → okq d q → SW yX5_leastByTrying cX5_leastByTrying 11 (some .int) [] 2 none 161 [some (.ref 45), some (.ref b), some (.int (nI a)), some (.int (nI s)), some (.int (enc (l3 (cV d b) a s t q).1)), none, none, none, none, none, none] [] 65 (W0 (l3 (cV d b) a s t q).2 r J) 0 0 (.inl (some (.int (enc R.1)))) 65 (W0 R.2 r J) → SW yX5_leastByTrying cX5_leastByTrying 11 (some .int) [] 2 none 11 [some (.ref 45), some (.ref b), some (.int (nI a)), some (.int (nI s)), some (.int (enc (q).1)), some (.int (pr t)), none, none, none, none, none] [] 65 (W0 (q).2 r J) 0 0 (.inl (some (.int (enc R.1)))) 65 (W0 R.2 r J) := by
  have hbc := isB_cases hb
  have n1 : b + 1 ≠ 47 := by omega
  have n3 : b + 3 ≠ 47 := by omega
  have c0 := cp_le okc ha (c := 0) (by decide)
  have c1 := cp_le okc ha (c := 1) (by decide)
  have c2 := cp_le okc ha (c := 2) (by decide)
  have c3 := cp_le okc ha (c := 3) (by decide)
  have w0 := okw 0 (by decide)
  have w1 := okw 1 (by decide)
  have w2 := okw 2 (by decide)
  have w3 := okw 3 (by decide)
  intro t
  induction t with
  | zero =>
    intro q hf hq hx
    refine sw_iload (i := 5) dX5_leastByTrying_11 rfl ?_
    refine sw_if_lt (tgt := 161) dX5_leastByTrying_13 rfl (fun _ => ?_) (fun h9 => absurd (by decide) h9)
    refine sw_sub ?_ hx
    exact ⟨rfl, rfl, rfl, rfl, rfl, trivial⟩
  | succ t ih =>
    intro q ht hq hx
    have hview : cV q.2 b = cV d b := cV_keep (fun c hc => hq.1 c (by omega))
    have hq2 := l2_ok (V := cV d b) (a := a) (t := t) hs (by omega) c1 (cp (cV d b) a 2 + 1) q (by omega) hq
    have ih2 := ih _ (by omega) hq2 hx
    refine sw_lo (lo2 := [some (.ref 45), some (.ref b), some (.int (nI a)), some (.int (nI s)), some (.int (enc (q).1)), some (.int (nI t)), none, none, none, none, none]) rfl ?_
    refine sw_iload (i := 5) dX5_leastByTrying_11 rfl ?_
    refine sw_if_lt (tgt := 161) dX5_leastByTrying_13 rfl (fun h9 => absurd h9 (nI_pos (by omega))) (fun _ => ?_)
    refine sw_aload_n (i := 1) dX5_leastByTrying_16 rfl rfl ?_
    refine sw_iload_n (i := 2) dX5_leastByTrying_17 rfl rfl ?_
    refine sw_ic 2 dX5_leastByTrying_18 ?_
    have hcap19 : OP kX2_capsOf yX2_capsOf 1 [.ref b, .int (nI a), .int (nI 2)] q.2 r J (some (.int (nI (cp (cV d b) a 2)))) q.2 r J := by
      have h9 := A_X2_capsOf (d := q.2) (r := r) (J := J) (a := a) (c := 2) hb ha (by decide)
      rw [hview, (okc.1 (a * 4 + 2) (by omega))] at h9
      exact h9
    refine px_Vx mv_X5_19 hcap19 rfl rfl (Nat.le_of_ble_eq_true rfl) (Nat.le_of_ble_eq_true rfl) (kO_B hb) (Nat.le_of_ble_eq_true rfl) dX5_leastByTrying_19 ?_
    refine sw_istore (i := 6) dX5_leastByTrying_22 (Nat.le_of_ble_eq_true rfl) rfl ?_
    refine sw_lo (lo2 := [some (.ref 45), some (.ref b), some (.int _), some (.int _), some (.int _), some (.int _), some (.int _), none, none, none, none]) rfl ?_
    refine sw_sub (lo2 := [some (.ref 45), some (.ref b), some (.int (nI a)), some (.int (nI s)), some (.int (enc (q).1)), some (.int (nI t)), some (.int (pr (cp (cV d b) a 2 + 1))), none, none, none, none]) ⟨rfl, rfl, rfl, rfl, rfl, rfl, rfl, trivial⟩ ?_
    refine B2_X5_leastByTrying hb okc okw ha hs R (by omega) _ q (by omega) hq ?_
    refine sw_iinc (i := 5) (v := pr t) dX5_leastByTrying_155 rfl (pr_dec t) (Nat.le_of_ble_eq_true rfl) rfl ?_
    refine sw_lo (lo2 := [some (.ref 45), some (.ref b), some (.int _), some (.int _), some (.int _), some (.int _), none, none, none, none, none]) rfl ?_
    refine sw_goto (tgt := 11) dX5_leastByTrying_158 rfl ?_
    refine sw_sub ?_ ih2
    exact ⟨rfl, rfl, rfl, rfl, rfl, rfl, trivial⟩
set_option maxRecDepth 100000 in
set_option maxHeartbeats 4000000 in
theorem A_X5_leastByTrying {d : Nat → Nat → Int32} {r : Nat → Nat → Option Nat} {J : Nat → Nat → Int64} {b a s : Nat} (hb : isB b) (okc : okCaps (cV d b)) (okw : okWorth (cV d b)) (ha : a < 8) (hs : s ≤ 99) : OP kX5_leastByTrying yX5_leastByTrying 2 [.ref 45, .ref b, .int (nI a), .int (nI s)] d r J (some (.int (enc (lbt (cV d b) a s d).1))) ((lbt (cV d b) a s d).2) r J := by
  have hbc := isB_cases hb
  have n1 : b + 1 ≠ 47 := by omega
  have n3 : b + 3 ≠ 47 := by omega
  have c0 := cp_le okc ha (c := 0) (by decide)
  have c1 := cp_le okc ha (c := 1) (by decide)
  have c2 := cp_le okc ha (c := 2) (by decide)
  have c3 := cp_le okc ha (c := 3) (by decide)
  have w0 := okw 0 (by decide)
  have w1 := okw 1 (by decide)
  have w2 := okw 2 (by decide)
  have w3 := okw 3 (by decide)
  have hview : cV d b = cV d b := rfl
  obtain ⟨q, hqe⟩ : ∃ q : bst × (Nat → Nat → Int32), q = (none, d) := ⟨_, rfl⟩
  have hq : okq d q := by rw [hqe]; exact ⟨fun _ _ => rfl, trivial, fun _ _ _ _ h => nomatch h⟩
  have hv : cV q.2 b = cV d b := by rw [hqe]
  have hview := hv
  rw [show lbt (cV d b) a s d = l3 (cV d b) a s (cp (cV d b) a 3 + 1) q by rw [hqe]; rfl]
  refine op_of pl_X5_leastByTrying (Nat.le_of_ble_eq_true rfl) ?_
  have hd : d = q.2 := by rw [hqe]
  have hF : (-1 : Int32) = enc q.1 := by rw [hqe]; rfl
  rw [show W0 d r J = W0 q.2 r J by rw [← hd]]
  refine sw_im1 dX5_leastByTrying_0 ?_
  refine sw_istore (i := 4) dX5_leastByTrying_1 (Nat.le_of_ble_eq_true rfl) rfl ?_
  refine sw_lo (lo2 := [some (.ref 45), some (.ref b), some (.int _), some (.int _), some (.int _), none, none, none, none, none, none]) rfl ?_
  refine sw_aload_n (i := 1) dX5_leastByTrying_3 rfl rfl ?_
  refine sw_iload_n (i := 2) dX5_leastByTrying_4 rfl rfl ?_
  refine sw_ic 3 dX5_leastByTrying_5 ?_
  have hcap6 : OP kX2_capsOf yX2_capsOf 1 [.ref b, .int (nI a), .int (nI 3)] q.2 r J (some (.int (nI (cp (cV d b) a 3)))) q.2 r J := by
    have h9 := A_X2_capsOf (d := q.2) (r := r) (J := J) (a := a) (c := 3) hb ha (by decide)
    rw [hview, (okc.1 (a * 4 + 3) (by omega))] at h9
    exact h9
  refine px_Vx mv_X5_19 hcap6 rfl rfl (Nat.le_of_ble_eq_true rfl) (Nat.le_of_ble_eq_true rfl) (kO_B hb) (Nat.le_of_ble_eq_true rfl) dX5_leastByTrying_6 ?_
  refine sw_istore (i := 5) dX5_leastByTrying_9 (Nat.le_of_ble_eq_true rfl) rfl ?_
  refine sw_lo (lo2 := [some (.ref 45), some (.ref b), some (.int _), some (.int _), some (.int _), some (.int _), none, none, none, none, none]) rfl ?_
  refine sw_sub (lo2 := [some (.ref 45), some (.ref b), some (.int (nI a)), some (.int (nI s)), some (.int (enc (q).1)), some (.int (pr (cp (cV d b) a 3 + 1))), none, none, none, none, none]) ⟨rfl, rfl, rfl, rfl, by rw [← hF]; rfl, rfl, trivial⟩ ?_
  refine B3_X5_leastByTrying hb okc okw ha hs (l3 (cV d b) a s (cp (cV d b) a 3 + 1) q) _ q (by omega) hq ?_
  refine sw_ins (pc2 := 161) rfl rfl ?_
  refine sw_iload (i := 4) dX5_leastByTrying_161 rfl ?_
  exact sw_ireturn rfl dX5_leastByTrying_163
