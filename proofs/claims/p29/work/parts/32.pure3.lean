/-! WHAT THE LAW OF THE PROPERTY ASKS, as facts of the 83 numbers (own work) -/
theorem i_z (x : Int32) : nI 0 + x = x := by
  show (0 : Int32) + x = x
  exact Int32.zero_add x
theorem i_4 (a b c d : Int32) : a + b + (c + d) = a + c + (b + d) := by
  apply Int32.toBitVec_inj.mp
  simp only [Int32.toBitVec_add]
  apply BitVec.eq_of_toNat_eq
  simp only [BitVec.toNat_add]
  omega
def ind (b : Bool) (x : Int32) : Int32 := if b = true then x else 0
theorem smt_i (V : Nat → Int32) (t : Nat → Bool) (n : Nat) : smt V t (n + 1) = smt V t n + ind (t n) (V (51 + (n * 4 + 2))) := by
  rw [smt_s]
  unfold ind
  by_cases h : t n = true
  · rw [if_pos h, if_pos h]
  · rw [if_neg h, if_neg h, Int32.add_zero]
theorem smt_cong {V V' : Nat → Int32} {t t' : Nat → Bool} : ∀ n, (∀ q, q < n → t' q = t q ∧ V' (51 + (q * 4 + 2)) = V (51 + (q * 4 + 2))) → smt V' t' n = smt V t n
  | 0, _ => rfl
  | n + 1, h => by
    rw [smt_i, smt_i, (h n (by omega)).1, (h n (by omega)).2, smt_cong n (fun q hq => h q (by omega))]
theorem smt_zero {V : Nat → Int32} {t : Nat → Bool} : ∀ n, (∀ q, q < n → t q = false) → smt V t n = nI 0
  | 0, _ => rfl
  | n + 1, h => by
    rw [smt_i, smt_zero n (fun q hq => h q (by omega)), h n (by omega)]
    rfl
theorem rs_s (f : Nat → Int32) (n : Nat) : rs f (n + 1) = rs f n + f n := rfl
theorem rs_cong {f g : Nat → Int32} : ∀ n, (∀ i, i < n → f i = g i) → rs f n = rs g n
  | 0, _ => rfl
  | n + 1, h => by rw [rs_s, rs_s, rs_cong n (fun i hi => h i (by omega)), h n (by omega)]
theorem rs_add (f g : Nat → Int32) : ∀ n, rs (fun j => f j + g j) n = rs f n + rs g n
  | 0 => rfl
  | n + 1 => by rw [rs_s, rs_s, rs_s, rs_add f g n, i_4]
theorem rs_zero : ∀ n, rs (fun _ => (0 : Int32)) n = nI 0
  | 0 => rfl
  | n + 1 => by rw [rs_s, rs_zero n]; rfl
theorem rs_one {b : Nat} {x : Int32} : ∀ n, b < n → rs (fun j => if b = j then x else 0) n = x
  | 0, h => absurd h (by omega)
  | n + 1, h => by
    rw [rs_s]
    by_cases e : b = n
    · subst e
      rw [if_pos rfl, rs_cong (g := fun _ => 0) b (fun i hi => if_neg (by omega)), rs_zero, i_z]
    · rw [if_neg e, rs_one n (by omega), Int32.add_zero]
theorem smt_part {V : Nat → Int32} {w : Nat} (A : Nat → Bool) : ∀ n, (∀ q, q < n → ∃ b, b < 8 ∧ V (51 + (q * 4 + w)) = nI b) → rs (fun j => smt V (fun q => A q && decide (V (51 + (q * 4 + w)) = nI j)) n) 8 = smt V A n
  | 0, _ => rs_zero 8
  | n + 1, h => by
    rw [rs_cong (g := fun j => smt V (fun q => A q && decide (V (51 + (q * 4 + w)) = nI j)) n + ind (A n && decide (V (51 + (n * 4 + w)) = nI j)) (V (51 + (n * 4 + 2)))) 8 (fun j _ => smt_i _ _ _), rs_add, smt_part A n (fun q hq => h q (by omega)), smt_i]
    congr 1
    obtain ⟨b, hb, e⟩ := h n (by omega)
    rw [e]
    cases A n with
    | false => exact rs_zero 8
    | true =>
      rw [rs_cong (g := fun j => if b = j then V (51 + (n * 4 + 2)) else 0) 8 (fun j hj => ?_), rs_one 8 hb]
      · rfl
      · unfold ind
        by_cases c : b = j
        · subst c
          rw [if_pos rfl, if_pos (by simp)]
        · rw [if_neg c, if_neg (by
            intro q
            have q2 : decide (nI b = nI j) = true := q
            exact c ((nI_eq (by omega) (by omega)).mp (of_decide_eq_true q2)))]
theorem prt_b {V : Nat → Int32} (h : okV V) {w : Nat} (hw : w < 2) : ∀ q, q < nv V 1 → ∃ b, b < 8 ∧ V (51 + (q * 4 + w)) = nI b := by
  intro q hq
  obtain ⟨p1, p2, p3, p4⟩ := h.2.2.1 q hq
  match w, hw with
  | 0, _ => exact ⟨_, p2, p1 0 (by decide)⟩
  | 1, _ => exact ⟨_, p3, p1 1 (by decide)⟩
theorem owd_from {V : Nat → Int32} (h : okV V) (i : Nat) : rs (fun j => owd V i j) 8 = isl V i 3 := smt_part (w := 1) _ _ (prt_b h (by decide))
theorem owd_to {V : Nat → Int32} (h : okV V) (i : Nat) : rs (fun j => owd V j i) 8 = isl V i 4 := by
  have h1 := smt_part (V := V) (w := 0) (fun q => decide (V (51 + (q * 4 + 1)) = nI i)) (nv V 1) (prt_b h (by decide))
  refine Eq.trans (rs_cong 8 (fun j _ => ?_)) h1
  exact smt_cong _ (fun q _ => ⟨Bool.and_comm _ _, rfl⟩)
theorem isl_from {V : Nat → Int32} (h : okV V) : rs (fun i => isl V i 3) 8 = smt V (fun _ => true) (nv V 1) := smt_part (w := 0) (fun _ => true) _ (prt_b h (by decide))
theorem isl_to {V : Nat → Int32} (h : okV V) : rs (fun i => isl V i 4) 8 = smt V (fun _ => true) (nv V 1) := smt_part (w := 1) (fun _ => true) _ (prt_b h (by decide))
theorem owd_self {V : Nat → Int32} (h : okV V) (i : Nat) : owd V i i = nI 0 := by
  refine smt_zero _ (fun q hq => ?_)
  obtain ⟨p1, p2, p3, p4, p5⟩ := h.2.2.1 q hq
  rw [p1 0 (by decide), p1 1 (by decide)]
  rw [Bool.and_eq_false_iff]
  by_cases e : nI (prt V q 0) = nI i
  · refine Or.inr (decide_eq_false (fun e2 => p4 ?_))
    exact (nI_eq (by omega) (by omega)).mp (e.trans e2.symm)
  · exact Or.inl (decide_eq_false e)
theorem smt_all (V : Nat → Int32) : ∀ n, smt V (fun _ => true) n = rs (fun q => V (51 + (q * 4 + 2))) n
  | 0 => rfl
  | n + 1 => by
    rw [smt_i, rs_s, smt_all V n]
    rfl
/-! days -/
def dueV (V : Nat → Int32) : Prop := ∀ q, q < nv V 1 → nv V 0 ≤ prt V q 3
theorem due_of {V V' : Nat → Int32} (h : dueV V) (e0 : V' 0 = V 0) (e1 : V' 1 = V 1) (e : ∀ j, 51 ≤ j → V' j = V j) : dueV V' := by
  have n0 : nv V' 0 = nv V 0 := by unfold nv; rw [e0]
  have n1 : nv V' 1 = nv V 1 := by unfold nv; rw [e1]
  intro q hq
  have hp : prt V' q 3 = prt V q 3 := by unfold prt nv; rw [e _ (by omega)]
  rw [hp, n0]
  exact h q (by omega)
theorem due_upd {V : Nat → Int32} {k : Nat} (h : dueV V) (x : Int32) (h2 : 2 ≤ k) (h51 : k < 51) : dueV (upd V k x) := due_of h (upd_ne _ _ (by omega)) (upd_ne _ _ (by omega)) (fun j hj => upd_ne _ _ (by omega))
theorem due_hnd {V : Nat → Int32} {f t c : Nat} {x : Int32} (h : dueV V) (hf : f < 8) (ht : t < 8) (hc : c < 4) : dueV (hnd V f t c x) := due_of h (hnd_off hf ht hc (by omega)) (hnd_off hf ht hc (by omega)) (fun j hj => hnd_off hf ht hc (by omega))
theorem due_swp {V : Nat → Int32} {i o : Nat} (h : dueV V) (hi : i < 8) (ho : o < 8) : dueV (swp V i o) := due_of h (swp_off hi ho (by omega)) (swp_off hi ho (by omega)) (fun j hj => swp_off hi ho (by omega))
theorem due_drp {V : Nat → Int32} {q : Nat} (h : dueV V) (ok : okMany V) : dueV (drp V q) := by
  have n0 : nv (drp V q) 0 = nv V 0 := by unfold nv; rw [drp_off (by decide) (by decide)]
  intro x hx
  rw [drp_n ok] at hx
  rw [n0]
  show nv V 0 ≤ (drp V q (51 + (x * 4 + 3))).toNatClampNeg
  rw [drp_prt hx (by decide)]
  by_cases c : q ≤ x
  · rw [if_pos c]; exact h (x + 1) (by omega)
  · rw [if_neg c]; exact h x (by omega)
theorem due_kpV {V : Nat → Int32} (ok : okV V) (h : dueV V) {q s : Nat} (hq : q < nv V 1) : dueV (kpV V q (wy V (prt V q 0) s)) := by
  obtain ⟨p1, p2, p3, p4, p5⟩ := ok.2.2.1 q hq
  cases e : wy V (prt V q 0) s with
  | none => exact due_upd h _ (by decide) (by decide)
  | some w =>
    obtain ⟨z, f, e2, t⟩ := w
    refine due_upd (due_drp (due_of h (pay_off p2 p3 (by omega)) (pay_off p2 p3 (by omega)) (fun j hj => pay_off p2 p3 (by omega))) ?_) _ (by decide) (by decide)
    exact okMany_of ok.2.1 (pay_off p2 p3 (by omega))
theorem due_mkV {V : Nat → Int32} (ok : okV V) (h : dueV V) {f t s : Int32} {y : Nat} (hy : y ≤ 9) : dueV (mkV V f t s (nI y)) := by
  unfold mkV
  by_cases c : nv V 1 < 8
  · rw [if_pos c]
    have n0 : nv (mkp V f t s (nI y)) 0 = nv V 0 := by unfold nv; rw [mkp_off (by decide) (by decide)]
    have hday := ok.2.2.2.2.2.1
    intro x hx
    rw [(mkp_many c).1] at hx
    rw [n0]
    show nv V 0 ≤ (mkp V f t s (nI y) (51 + (x * 4 + 3))).toNatClampNeg
    rw [mkp_at (by decide)]
    by_cases e : x = nv V 1
    · rw [if_pos e, if_neg (by decide), if_neg (by decide), if_neg (by decide), hday.1, nI_add, nI_clamp (by omega)]
      omega
    · rw [if_neg e]
      exact h x (by omega)
  · rw [if_neg c]
    exact due_upd h _ (by decide) (by decide)
theorem due_trd {V : Nat → Int32} (h : dueV V) {a c b e : Nat} {x y : Int32} (ha : a < 8) (hc : c < 4) (hb : b < 8) (he : e < 4) : dueV (trd V a c x b e y) := by
  unfold trd
  by_cases z : rsn V a c b e x y = 0
  · rw [if_pos z]
    exact due_upd (due_hnd (due_hnd h ha hb hc) hb ha he) _ (by decide) (by decide)
  · rw [if_neg z]
    exact due_upd h _ (by decide) (by decide)
theorem brkG_due : ∀ (k : Nat) (V : Nat → Int32) (n : Nat), okV V → k ≤ nv V 1 → (∀ q, k ≤ q → q < nv V 1 → nv V 0 ≤ prt V q 3) → dueV (brkG k V n).1
  | 0, V, _, _, _, h => fun q hq => h q (Nat.zero_le _) hq
  | k + 1, V, n, ok, hk, h => by
    rw [brkG_s]
    have hm := ok.2.1.2
    by_cases c : V (51 + (k * 4 + 3)) < V 0
    · rw [if_pos c]
      have n0 : nv (drp V k) 0 = nv V 0 := by unfold nv; rw [drp_off (by decide) (by decide)]
      refine brkG_due k _ _ (ok_drp ok k (by omega)) (by rw [drp_n ok.2.1]; omega) (fun q h1 h2 => ?_)
      rw [drp_n ok.2.1] at h2
      rw [n0]
      show nv V 0 ≤ (drp V k (51 + (q * 4 + 3))).toNatClampNeg
      rw [drp_prt h2 (by decide), if_pos h1]
      exact h (q + 1) (by omega) (by omega)
    · rw [if_neg c]
      refine brkG_due k _ _ ok (by omega) (fun q h1 h2 => ?_)
      by_cases e : q = k
      · subst e
        have p := ok.2.2.1 q (by omega)
        have p3 := p.1 3 (by decide)
        have pb := p.2.2.2.2.2.2
        have hd := ok.2.2.2.2.2.1
        apply Classical.byContradiction
        intro g
        refine c ?_
        rw [p3, hd.1]
        exact nI_lt (by omega) (by omega)
      · exact h q (by omega) h2
theorem due_brs {V : Nat → Int32} (ok : okV V) : dueV (brs V) := due_upd (brkG_due _ _ _ ok (Nat.le_refl _) (fun q h1 h2 => absurd h2 (by omega))) _ (by decide) (by decide)
/-- how many are due on a day; before a day -/
def dcn (V : Nat → Int32) (x : Int32) : Nat → Nat
  | 0 => 0
  | n + 1 => if V (51 + (n * 4 + 3)) = x then dcn V x n + 1 else dcn V x n
def lcn (V : Nat → Int32) (x : Int32) : Nat → Nat
  | 0 => 0
  | n + 1 => if V (51 + (n * 4 + 3)) < x then lcn V x n + 1 else lcn V x n
theorem dcn_s (V : Nat → Int32) (x : Int32) (n : Nat) : dcn V x (n + 1) = if V (51 + (n * 4 + 3)) = x then dcn V x n + 1 else dcn V x n := rfl
theorem lcn_s (V : Nat → Int32) (x : Int32) (n : Nat) : lcn V x (n + 1) = if V (51 + (n * 4 + 3)) < x then lcn V x n + 1 else lcn V x n := rfl
theorem lcn_cong {V V' : Nat → Int32} {x : Int32} : ∀ n, (∀ q, q < n → V' (51 + (q * 4 + 3)) = V (51 + (q * 4 + 3))) → lcn V' x n = lcn V x n
  | 0, _ => rfl
  | n + 1, h => by rw [lcn_s, lcn_s, h n (by omega), lcn_cong n (fun q hq => h q (by omega))]
theorem brkG_cnt : ∀ (k : Nat) (V : Nat → Int32) (n : Nat), okMany V → k ≤ nv V 1 → (brkG k V n).2 = n + lcn V (V 0) k ∧ nv (brkG k V n).1 1 + (brkG k V n).2 = nv V 1 + n
  | 0, _, n, _, _ => ⟨rfl, rfl⟩
  | k + 1, V, n, ok, hk => by
    rw [brkG_s, lcn_s]
    have hm := ok.2
    by_cases c : V (51 + (k * 4 + 3)) < V 0
    · rw [if_pos c, if_pos c]
      have dm := drp_many ok k
      have ih := brkG_cnt k (drp V k) (n + 1) dm.1 (by rw [dm.2]; omega)
      rw [drp_off (show (0 : Nat) < 51 by decide) (by decide), lcn_cong (V := V) k (fun q hq => by rw [drp_prt (by omega) (by decide), if_neg (by omega)]), dm.2] at ih
      omega
    · rw [if_neg c, if_neg c]
      exact brkG_cnt k V n ok (by omega)
theorem lcn_due {V : Nat → Int32} (ok : okV V) (h : dueV V) : ∀ n, n ≤ nv V 1 → lcn V (nI (nv V 0 + 1)) n = dcn V (V 0) n
  | 0, _ => rfl
  | n + 1, hn => by
    have p := ok.2.2.1 n (by omega)
    have p3 := p.1 3 (by decide)
    have pb := p.2.2.2.2.2.2
    have hd := ok.2.2.2.2.2.1
    have hq := h n (by omega)
    rw [lcn_s, dcn_s, lcn_due ok h n (by omega)]
    by_cases e : V (51 + (n * 4 + 3)) = V 0
    · rw [if_pos e, if_pos (by rw [e, hd.1]; exact nI_lt (by omega) (by omega))]
    · rw [if_neg e, if_neg (fun g => e (by
        rw [p3] at g ⊢
        have g2 := (nI_ltI (by omega) (by omega)).mp g
        rw [hd.1]
        congr 1
        omega))]
/-- a storm -/
def sV (V : Nat → Int32) : Nat → Int32 := brs (stm V)
theorem sV_low {V : Nat → Int32} {j : Nat} (h : j < 51) (h1 : j ≠ 1) (h4 : j ≠ 4) : sV V j = stm V j := by
  unfold sV brs
  rw [upd_ne _ _ h4]
  exact brkG_low _ _ _ j h h1
theorem sV_told {V : Nat → Int32} (ok : okV V) (h : dueV V) (hd : nv V 0 < 9999) : (brk (stm V)).2 = dcn V (V 0) (nv V 1) ∧ nv (sV V) 1 + (brk (stm V)).2 = nv V 1 ∧ sV V 1 = nI (nv (sV V) 1) := by
  have hs := ok_stm ok hd
  have hday := ok.2.2.2.2.2.1
  have n1 : nv (stm V) 1 = nv V 1 := rfl
  have h1 := brkG_cnt (nv (stm V) 1) (stm V) 0 hs.1.2.1 (Nat.le_refl _)
  have e0 : stm V 0 = nI (nv V 0 + 1) := by
    rw [stm_day, hday.1]
    exact nI_1 _
  have e1 : nv (sV V) 1 = nv (brkG (nv (stm V) 1) (stm V) 0).1 1 := by
    unfold nv sV brs
    rw [upd_ne _ _ (by decide)]
    rfl
  rw [e0, n1, lcn_cong (V := V) (nv V 1) (fun q _ => stm_off V (by omega) (by omega)), lcn_due ok h _ (Nat.le_refl _)] at h1
  rw [n1] at e1
  refine ⟨?_, ?_, (ok_brs hs.1).2.1.1⟩
  · show (brkG (nv (stm V) 1) (stm V) 0).2 = _
    rw [n1, h1.1]
    omega
  · show _ + (brkG (nv (stm V) 1) (stm V) 0).2 = _
    rw [n1, e1]
    omega
theorem sV_caps {V : Nat → Int32} {p c : Nat} (hp : p < 8) (hc : c < 4) : sV V (19 + (p * 4 + c)) = V (19 + (snd V p * 4 + c)) := by
  rw [sV_low (by omega) (by omega) (by omega), stm_caps V (by omega), show (p * 4 + c) / 4 = p by omega, show (p * 4 + c) % 4 = c by omega]
theorem sV_move {V : Nat → Int32} (ok : okPath V) {i c : Nat} (hi : i < 8) (hc : c < 4) : sV V (19 + (pth V i * 4 + c)) = V (19 + (i * 4 + c)) := by
  have h1 := ok.1 i hi
  have h2 := snd_spec ok h1.2
  rw [sV_caps h1.2 hc, ok.2 _ _ h2.2 hi h2.1]
theorem sV_ok {V : Nat → Int32} (ok : okV V) (hd : nv V 0 < 9999) : okV (sV V) ∧ nv (sV V) 0 = nv V 0 + 1 ∧ sV V 0 = V 0 + nI 1 := by
  have hs := ok_stm ok hd
  have e : sV V 0 = stm V 0 := sV_low (by decide) (by decide) (by decide)
  refine ⟨ok_brs hs.1, ?_, e.trans (stm_day V)⟩
  unfold nv
  rw [e]
  exact hs.2
theorem sV_broken (V : Nat → Int32) : sV V 4 = V 4 + nI (brk (stm V)).2 := by
  unfold sV brs
  rw [upd_eq]
  congr 1
  show (brkG _ _ _).1 4 = _
  rw [brkG_low _ _ _ 4 (by decide) (by decide), stm_off V (by decide) (by decide)]
/-! worths -/
theorem sbm {p m w : Nat} (h : m ≤ p) : (p - m) * w + m * w = p * w := by rw [← Nat.add_mul, Nat.sub_add_cancel h]
theorem pwN_cong {V V' : Nat → Int32} (h : ∀ j, 7 ≤ j → j < 51 → V' j = V j) {a : Nat} (ha : a < 8) : pwN V' a = pwN V a := by
  unfold pwN cp wt nv
  rw [h (19 + (a * 4 + 0)) (by omega) (by omega), h (19 + (a * 4 + 1)) (by omega) (by omega), h (19 + (a * 4 + 2)) (by omega) (by omega), h (19 + (a * 4 + 3)) (by omega) (by omega), h (7 + 0) (by omega) (by omega), h (7 + 1) (by omega) (by omega), h (7 + 2) (by omega) (by omega), h (7 + 3) (by omega) (by omega)]
theorem wt_hnd {V : Nat → Int32} {f t c k : Nat} {m : Int32} (hf : f < 8) (ht : t < 8) (hc : c < 4) (hk : k < 4) : wt (hnd V f t c m) k = wt V k := by
  unfold wt nv
  rw [hnd_off hf ht hc (by omega)]
theorem cp_hnd_f {V : Nat → Int32} (ok : okCaps V) {f t c m k : Nat} (hne : f ≠ t) (hf : f < 8) (ht : t < 8) (hc : c < 4) (hk : k < 4) (hm : m ≤ cp V f c) : cp (hnd V f t c (nI m)) f k = if k = c then cp V f c - m else cp V f k := by
  have hb := cp_le ok hf hc
  have e := ok.1 (f * 4 + c) (by omega)
  have e2 : V (19 + (f * 4 + c)) = nI (cp V f c) := e
  unfold cp nv
  rw [hnd_at hne hc hf ht, if_neg (show ¬ f * 4 + k = t * 4 + c by omega)]
  by_cases q : k = c
  · subst q
    rw [if_pos rfl, if_pos rfl, e2, pk_sub hm, nI_clamp (by omega), nI_clamp (by omega)]
  · rw [if_neg (show ¬ f * 4 + k = f * 4 + c by omega), if_neg q]
theorem cp_hnd_t {V : Nat → Int32} (ok : okCaps V) {f t c m k : Nat} (hne : f ≠ t) (hf : f < 8) (ht : t < 8) (hc : c < 4) (hk : k < 4) (hm : m ≤ 1000) : cp (hnd V f t c (nI m)) t k = if k = c then cp V t c + m else cp V t k := by
  have hb := cp_le ok ht hc
  have e2 : V (19 + (t * 4 + c)) = nI (cp V t c) := ok.1 (t * 4 + c) (by omega)
  unfold cp nv
  rw [hnd_at hne hc hf ht]
  by_cases q : k = c
  · subst q
    rw [if_pos rfl, if_pos rfl, e2, nI_add, nI_clamp (by omega), nI_clamp (by omega)]
  · rw [if_neg (show ¬ t * 4 + k = t * 4 + c by omega), if_neg (show ¬ t * 4 + k = f * 4 + c by omega), if_neg q]
theorem pwN_hnd_f {V : Nat → Int32} (ok : okCaps V) {f t c m : Nat} (hne : f ≠ t) (hf : f < 8) (ht : t < 8) (hc : c < 4) (hm : m ≤ cp V f c) : pwN (hnd V f t c (nI m)) f + m * wt V c = pwN V f := by
  unfold pwN
  rw [wt_hnd hf ht hc (by decide), wt_hnd hf ht hc (by decide), wt_hnd hf ht hc (by decide), wt_hnd hf ht hc (by decide), cp_hnd_f ok hne hf ht hc (by decide) hm, cp_hnd_f ok hne hf ht hc (by decide) hm, cp_hnd_f ok hne hf ht hc (by decide) hm, cp_hnd_f ok hne hf ht hc (by decide) hm]
  have s := sbm (w := wt V c) hm
  match c, hc with
  | 0, _ => rw [if_pos rfl, if_neg (by decide), if_neg (by decide), if_neg (by decide)]; omega
  | 1, _ => rw [if_neg (by decide), if_pos rfl, if_neg (by decide), if_neg (by decide)]; omega
  | 2, _ => rw [if_neg (by decide), if_neg (by decide), if_pos rfl, if_neg (by decide)]; omega
  | 3, _ => rw [if_neg (by decide), if_neg (by decide), if_neg (by decide), if_pos rfl]; omega
theorem pwN_hnd_t {V : Nat → Int32} (ok : okCaps V) {f t c m : Nat} (hne : f ≠ t) (hf : f < 8) (ht : t < 8) (hc : c < 4) (hm : m ≤ 1000) : pwN (hnd V f t c (nI m)) t = pwN V t + m * wt V c := by
  unfold pwN
  rw [wt_hnd hf ht hc (by decide), wt_hnd hf ht hc (by decide), wt_hnd hf ht hc (by decide), wt_hnd hf ht hc (by decide), cp_hnd_t ok hne hf ht hc (by decide) hm, cp_hnd_t ok hne hf ht hc (by decide) hm, cp_hnd_t ok hne hf ht hc (by decide) hm, cp_hnd_t ok hne hf ht hc (by decide) hm]
  match c, hc with
  | 0, _ => rw [if_pos rfl, if_neg (by decide), if_neg (by decide), if_neg (by decide), Nat.add_mul]; omega
  | 1, _ => rw [if_neg (by decide), if_pos rfl, if_neg (by decide), if_neg (by decide), Nat.add_mul]; omega
  | 2, _ => rw [if_neg (by decide), if_neg (by decide), if_pos rfl, if_neg (by decide), Nat.add_mul]; omega
  | 3, _ => rw [if_neg (by decide), if_neg (by decide), if_neg (by decide), if_pos rfl, Nat.add_mul]; omega
theorem pay_f {V : Nat → Int32} (ok : okV V) {a b z f e t : Nat} (ha : a < 8) (hb : b < 8) (hne : a ≠ b) (hz : z ≤ cp V a 0) (hf : f ≤ cp V a 1) (he : e ≤ cp V a 2) (ht : t ≤ cp V a 3) :
    pwN (pay V a b z f e t) a + (z * wt V 0 + f * wt V 1 + e * wt V 2 + t * wt V 3) = pwN V a ∧ pwN (pay V a b z f e t) b = pwN V b + (z * wt V 0 + f * wt V 1 + e * wt V 2 + t * wt V 3) ∧ (cp (pay V a b z f e t) b 0 = cp V b 0 + z ∧ cp (pay V a b z f e t) b 1 = cp V b 1 + f ∧ cp (pay V a b z f e t) b 2 = cp V b 2 + e ∧ cp (pay V a b z f e t) b 3 = cp V b 3 + t) := by
  have oc := ok.2.2.2.1
  have b0 := cp_le oc ha (c := 0) (by decide)
  have b1 := cp_le oc ha (c := 1) (by decide)
  have b2 := cp_le oc ha (c := 2) (by decide)
  have b3 := cp_le oc ha (c := 3) (by decide)
  have k0 := (ok_hnd ok hne ha hb (c := 0) (m := z) (by decide) hz).1
  have c01 := cp_hnd_f oc hne ha hb (c := 0) (k := 1) (m := z) (by decide) (by decide) hz
  have c02 := cp_hnd_f oc hne ha hb (c := 0) (k := 2) (m := z) (by decide) (by decide) hz
  have c03 := cp_hnd_f oc hne ha hb (c := 0) (k := 3) (m := z) (by decide) (by decide) hz
  have g0 : ∀ k, k < 4 → _ := fun k hk => cp_hnd_t oc hne ha hb (c := 0) (k := k) (m := z) (by decide) hk (by omega)
  have p0 := pwN_hnd_f oc hne ha hb (c := 0) (m := z) (by decide) hz
  have q0 := pwN_hnd_t oc hne ha hb (c := 0) (m := z) (by decide) (by omega)
  have w0 : ∀ k, k < 4 → _ := fun k hk => wt_hnd (V := V) (c := 0) (m := nI z) ha hb (by decide) hk
  rw [if_neg (by decide)] at c01 c02 c03
  unfold pay
  obtain ⟨V1, hV1⟩ : ∃ V1, V1 = hnd V a b 0 (nI z) := ⟨_, rfl⟩
  rw [← hV1] at k0 c01 c02 c03 g0 p0 q0 w0 ⊢
  have oc1 := k0.2.2.2.1
  have hf1 : f ≤ cp V1 a 1 := by rw [c01]; exact hf
  have k1 := (ok_hnd k0 hne ha hb (c := 1) (m := f) (by decide) hf1).1
  have c12 := cp_hnd_f oc1 hne ha hb (c := 1) (k := 2) (m := f) (by decide) (by decide) hf1
  have c13 := cp_hnd_f oc1 hne ha hb (c := 1) (k := 3) (m := f) (by decide) (by decide) hf1
  have g1 : ∀ k, k < 4 → _ := fun k hk => cp_hnd_t oc1 hne ha hb (c := 1) (k := k) (m := f) (by decide) hk (by omega)
  have p1 := pwN_hnd_f oc1 hne ha hb (c := 1) (m := f) (by decide) hf1
  have q1 := pwN_hnd_t oc1 hne ha hb (c := 1) (m := f) (by decide) (by omega)
  have w1 : ∀ k, k < 4 → _ := fun k hk => wt_hnd (V := V1) (c := 1) (m := nI f) ha hb (by decide) hk
  rw [if_neg (by decide)] at c12 c13
  obtain ⟨V2, hV2⟩ : ∃ V2, V2 = hnd V1 a b 1 (nI f) := ⟨_, rfl⟩
  rw [← hV2] at k1 c12 c13 g1 p1 q1 w1 ⊢
  have oc2 := k1.2.2.2.1
  have hf2 : e ≤ cp V2 a 2 := by rw [c12, c02]; exact he
  have k2 := (ok_hnd k1 hne ha hb (c := 2) (m := e) (by decide) hf2).1
  have c23 := cp_hnd_f oc2 hne ha hb (c := 2) (k := 3) (m := e) (by decide) (by decide) hf2
  have g2 : ∀ k, k < 4 → _ := fun k hk => cp_hnd_t oc2 hne ha hb (c := 2) (k := k) (m := e) (by decide) hk (by omega)
  have p2 := pwN_hnd_f oc2 hne ha hb (c := 2) (m := e) (by decide) hf2
  have q2 := pwN_hnd_t oc2 hne ha hb (c := 2) (m := e) (by decide) (by omega)
  have w2 : ∀ k, k < 4 → _ := fun k hk => wt_hnd (V := V2) (c := 2) (m := nI e) ha hb (by decide) hk
  rw [if_neg (by decide)] at c23
  obtain ⟨V3, hV3⟩ : ∃ V3, V3 = hnd V2 a b 2 (nI e) := ⟨_, rfl⟩
  rw [← hV3] at k2 c23 g2 p2 q2 w2 ⊢
  have oc3 := k2.2.2.2.1
  have hf3 : t ≤ cp V3 a 3 := by rw [c23, c13, c03]; exact ht
  have g3 : ∀ k, k < 4 → _ := fun k hk => cp_hnd_t oc3 hne ha hb (c := 3) (k := k) (m := t) (by decide) hk (by omega)
  have p3 := pwN_hnd_f oc3 hne ha hb (c := 3) (m := t) (by decide) hf3
  have q3 := pwN_hnd_t oc3 hne ha hb (c := 3) (m := t) (by decide) (by omega)
  rw [w2 3 (by decide), w1 3 (by decide), w0 3 (by decide)] at p3 q3
  rw [w1 2 (by decide), w0 2 (by decide)] at p2 q2
  rw [w0 1 (by decide)] at p1 q1
  refine ⟨by omega, by omega, ?_, ?_, ?_, ?_⟩
  · rw [g3 0 (by decide), if_neg (by decide), g2 0 (by decide), if_neg (by decide), g1 0 (by decide), if_neg (by decide), g0 0 (by decide), if_pos rfl]
  · rw [g3 1 (by decide), if_neg (by decide), g2 1 (by decide), if_neg (by decide), g1 1 (by decide), if_pos rfl, g0 1 (by decide), if_neg (by decide)]
  · rw [g3 2 (by decide), if_neg (by decide), g2 2 (by decide), if_pos rfl, g1 2 (by decide), if_neg (by decide), g0 2 (by decide), if_neg (by decide)]
  · rw [g3 3 (by decide), if_pos rfl, g2 3 (by decide), if_neg (by decide), g1 3 (by decide), if_neg (by decide), g0 3 (by decide), if_neg (by decide)]
/-! ways to pay -/
theorem le_mul1 {z w : Nat} (h : 1 ≤ w) : z ≤ z * w := by
  have := Nat.mul_le_mul_left z h
  omega
theorem wy_way {V : Nat → Int32} (okw : okWorth V) {a s : Nat} {w : Nat × Nat × Nat × Nat} (h : wy V a s = some w) : way V a s w := (wy_opt (okw 0 (by decide)).2.1).1 w h
theorem way_le {V : Nat → Int32} {a s z f e t : Nat} (h : way V a s (z, f, e, t)) : s ≤ pwN V a := by
  obtain ⟨h0, h1, h2, h3, h4⟩ := h
  have m0 := Nat.mul_le_mul_right (wt V 0) (show z ≤ cp V a 0 from h0)
  have m1 := Nat.mul_le_mul_right (wt V 1) (show f ≤ cp V a 1 from h1)
  have m2 := Nat.mul_le_mul_right (wt V 2) (show e ≤ cp V a 2 from h2)
  have m3 := Nat.mul_le_mul_right (wt V 3) (show t ≤ cp V a 3 from h3)
  have h5 : z * wt V 0 + f * wt V 1 + e * wt V 2 + t * wt V 3 = s := h4
  unfold pwN
  omega
theorem way_tot {V : Nat → Int32} (okw : okWorth V) {a s z f e t : Nat} (hs : 1 ≤ s) (h : way V a s (z, f, e, t)) : 1 ≤ t + e + f + z ∧ t + e + f + z ≤ s := by
  obtain ⟨-, -, -, -, h4⟩ := h
  have h5 : z * wt V 0 + f * wt V 1 + e * wt V 2 + t * wt V 3 = s := h4
  have m0 : z ≤ z * wt V 0 := le_mul1 (okw 0 (by decide)).2.1
  have m1 : f ≤ f * wt V 1 := le_mul1 (okw 1 (by decide)).2.1
  have m2 : e ≤ e * wt V 2 := le_mul1 (okw 2 (by decide)).2.1
  have m3 : t ≤ t * wt V 3 := le_mul1 (okw 3 (by decide)).2.1
  refine ⟨?_, by omega⟩
  rcases Nat.eq_zero_or_pos (t + e + f + z) with q | q
  · have z0 : z = 0 := by omega
    have f0 : f = 0 := by omega
    have e0 : e = 0 := by omega
    have t0 : t = 0 := by omega
    rw [z0, f0, e0, t0] at h5
    omega
  · exact q
/-! the richest -/
theorem rcG_first {V : Nat → Int32} (okc : okCaps V) (okw : okWorth V) : ∀ i, i ≤ 8 → ∀ j, j < rcG V i → pwN V j < pwN V (rcG V i)
  | 0, _, j, h => absurd h (by show ¬ j < 0; omega)
  | i + 1, hi, j, h => by
    have ih := rcG_first okc okw i (by omega)
    have mx := rcG_max okc okw i (by omega)
    have hb := wsm_b okw
    have hl := rcG_lt V i (by omega)
    have l1 := pw_le okc okw hl
    have l2 := pw_le okc okw (a := i) (by omega)
    have hs : rcG V (i + 1) = if pw V (rcG V i) < pw V i then i else rcG V i := rfl
    rw [hs] at h ⊢
    by_cases c : pw V (rcG V i) < pw V i
    · rw [if_pos c] at h ⊢
      rw [pw_nI okc okw hl, pw_nI okc okw (a := i) (by omega)] at c
      have c2 := (nI_ltI (by omega) (by omega)).mp c
      have := mx j h
      omega
    · rw [if_neg c] at h ⊢
      exact ih j h
/-! caps in all -/
theorem caps_20 {V : Nat → Int32} (okc : okCaps V) {c : Nat} (hc : c < 4) : rs (fun i => V (19 + (i * 4 + c))) 8 = nI 20 := by
  have h := okc.2 c hc
  have e : ∀ i, i < 8 → V (19 + (i * 4 + c)) = nI (nv V (19 + (i * 4 + c))) := fun i hi => okc.1 (i * 4 + c) (by omega)
  rw [rs_cong (g := fun i => nI (nv V (19 + (i * 4 + c)))) 8 e]
  show nI 0 + nI _ + nI _ + nI _ + nI _ + nI _ + nI _ + nI _ + nI _ = nI 20
  simp only [nI_add]
  congr 1
  rw [← h]
  omega
theorem caps_80 {V : Nat → Int32} (okc : okCaps V) : rs (fun x => V (19 + x)) 32 = nI 80 := by
  have h0 : nv V (19 + 0) + nv V (19 + 4) + nv V (19 + 8) + nv V (19 + 12) + nv V (19 + 16) + nv V (19 + 20) + nv V (19 + 24) + nv V (19 + 28) = 20 := okc.2 0 (by decide)
  have h1 : nv V (19 + 1) + nv V (19 + 5) + nv V (19 + 9) + nv V (19 + 13) + nv V (19 + 17) + nv V (19 + 21) + nv V (19 + 25) + nv V (19 + 29) = 20 := okc.2 1 (by decide)
  have h2 : nv V (19 + 2) + nv V (19 + 6) + nv V (19 + 10) + nv V (19 + 14) + nv V (19 + 18) + nv V (19 + 22) + nv V (19 + 26) + nv V (19 + 30) = 20 := okc.2 2 (by decide)
  have h3 : nv V (19 + 3) + nv V (19 + 7) + nv V (19 + 11) + nv V (19 + 15) + nv V (19 + 19) + nv V (19 + 23) + nv V (19 + 27) + nv V (19 + 31) = 20 := okc.2 3 (by decide)
  have hh : ∀ n, n ≤ 32 → rs (fun x => V (19 + x)) n = nI (su (fun x => nv V (19 + x)) n) := by
    intro n
    induction n with
    | zero => intro _; rfl
    | succ n ih =>
      intro hn
      rw [rs_s, ih (by omega), okc.1 n (by omega), nI_add]
      rfl
  rw [hh 32 (Nat.le_refl _)]
  congr 1
  show 0 + nv V (19 + 0) + nv V (19 + 1) + nv V (19 + 2) + nv V (19 + 3) + nv V (19 + 4) + nv V (19 + 5) + nv V (19 + 6) + nv V (19 + 7) + nv V (19 + 8) + nv V (19 + 9) + nv V (19 + 10) + nv V (19 + 11) + nv V (19 + 12) + nv V (19 + 13) + nv V (19 + 14) + nv V (19 + 15) + nv V (19 + 16) + nv V (19 + 17) + nv V (19 + 18) + nv V (19 + 19) + nv V (19 + 20) + nv V (19 + 21) + nv V (19 + 22) + nv V (19 + 23) + nv V (19 + 24) + nv V (19 + 25) + nv V (19 + 26) + nv V (19 + 27) + nv V (19 + 28) + nv V (19 + 29) + nv V (19 + 30) + nv V (19 + 31) = 80
  omega
/-! the ways home: at most fifteen storms -/
def cn (P : Nat → Bool) : Nat → Nat
  | 0 => 0
  | n + 1 => if P n = true then cn P n + 1 else cn P n
theorem cn_s (P : Nat → Bool) (n : Nat) : cn P (n + 1) = if P n = true then cn P n + 1 else cn P n := rfl
theorem cn_ge {P : Nat → Bool} : ∀ (n L : Nat) (f : Nat → Nat), (∀ i, i < L → f i < n ∧ P (f i) = true) → (∀ i j, i < L → j < L → f i = f j → i = j) → L ≤ cn P n
  | 0, L, f, h, _ => by
    rcases Nat.eq_zero_or_pos L with e | e
    · rw [e]; exact Nat.le_refl _
    · exact absurd (h 0 e).1 (by omega)
  | n + 1, L, f, h, g => by
    rw [cn_s]
    by_cases hx : ∃ i, i < L ∧ f i = n
    · obtain ⟨i0, h1, h2⟩ := hx
      have hp : P n = true := by rw [← h2]; exact (h i0 h1).2
      rw [if_pos hp]
      have ih := cn_ge n (L - 1) (fun i => if i < i0 then f i else f (i + 1)) (fun i hi => by
        by_cases c : i < i0
        · have q := h i (by omega)
          have : f i ≠ n := fun e => absurd (g i i0 (by omega) h1 (e.trans h2.symm)) (by omega)
          simp only [c, if_true]
          exact ⟨by omega, q.2⟩
        · have q := h (i + 1) (by omega)
          have : f (i + 1) ≠ n := fun e => absurd (g (i + 1) i0 (by omega) h1 (e.trans h2.symm)) (by omega)
          simp only [c, if_false]
          exact ⟨by omega, q.2⟩) (fun i j hi hj e => by
        by_cases c1 : i < i0 <;> by_cases c2 : j < i0
        · simp only [c1, c2, if_true] at e
          exact g i j (by omega) (by omega) e
        · simp only [c1, c2, if_true, if_false] at e
          have := g i (j + 1) (by omega) (by omega) e
          omega
        · simp only [c1, c2, if_true, if_false] at e
          have := g (i + 1) j (by omega) (by omega) e
          omega
        · simp only [c1, c2, if_false] at e
          have := g (i + 1) (j + 1) (by omega) (by omega) e
          omega)
      omega
    · have ih := cn_ge n L f (fun i hi => ⟨by
        have q := (h i hi).1
        have : f i ≠ n := fun e => hx ⟨i, hi, e⟩
        omega, (h i hi).2⟩) g
      by_cases c : P n = true
      · rw [if_pos c]; omega
      · rw [if_neg c]; exact ih
def cL (V : Nat → Int32) (L n : Nat) : Nat := cn (fun a => decide (crc V a = L)) n
theorem cL_sum {V : Nat → Int32} (h : okPath V) : ∀ n, n ≤ 8 → cL V 1 n + cL V 2 n + cL V 3 n + cL V 4 n + cL V 5 n + cL V 6 n + cL V 7 n + cL V 8 n = n
  | 0, _ => rfl
  | n + 1, hn => by
    have ih := cL_sum h n (by omega)
    obtain ⟨-, c1, c2, -⟩ := crc_spec h (a := n) (by omega)
    have st : ∀ L, cL V L (n + 1) = if crc V n = L then cL V L n + 1 else cL V L n := by
      intro L
      unfold cL
      rw [cn_s]
      by_cases e : crc V n = L
      · rw [if_pos e, if_pos (decide_eq_true e)]
      · rw [if_neg e, if_neg (by rw [decide_eq_true_eq]; exact e)]
    rw [st 1, st 2, st 3, st 4, st 5, st 6, st 7, st 8]
    have e : crc V n = 1 ∨ crc V n = 2 ∨ crc V n = 3 ∨ crc V n = 4 ∨ crc V n = 5 ∨ crc V n = 6 ∨ crc V n = 7 ∨ crc V n = 8 := by omega
    rcases e with e | e | e | e | e | e | e | e <;> rw [e] <;> simp <;> omega
theorem crc_orb {V : Nat → Int32} (h : okPath V) {a : Nat} (ha : a < 8) (k : Nat) : crc V (alg V a k) = crc V a := by
  have hk := alg_lt h ha k
  have h1 : ∀ n, crc V a ∣ n → crc V (alg V a k) ∣ n := fun n hn => (alg_crc h hk n).mp (by
    rw [← alg_add, Nat.add_comm, alg_add, (alg_crc h ha n).mpr hn])
  have h2 : ∀ n, crc V (alg V a k) ∣ n → crc V a ∣ n := fun n hn => (alg_crc h ha n).mp (by
    have q := (alg_crc h hk n).mpr hn
    rw [← alg_add, Nat.add_comm, alg_add] at q
    exact alg_inj h (alg_lt h ha n) ha k q)
  exact Nat.dvd_antisymm (h1 _ (Nat.dvd_refl _)) (h2 _ (Nat.dvd_refl _))
theorem cL_ge {V : Nat → Int32} (h : okPath V) {a : Nat} (ha : a < 8) : crc V a ≤ cL V (crc V a) 8 := by
  obtain ⟨c0, c1, c2, c3⟩ := crc_spec h ha
  refine cn_ge 8 (crc V a) (fun k => alg V a k) (fun k _ => ⟨alg_lt h ha k, decide_eq_true (crc_orb h ha k)⟩) ?_
  have key : ∀ i j, i < crc V a → j < crc V a → i ≤ j → alg V a i = alg V a j → i = j := by
    intro i j hi hj hij e
    have e2 : alg V (alg V a (j - i)) i = alg V a i := by
      rw [← alg_add, show j - i + i = j by omega]
      exact e.symm
    have e3 := alg_inj h (alg_lt h ha _) ha i e2
    apply Classical.byContradiction
    intro q
    exact c3 (j - i) (by omega) (by omega) e3
  intro i j hi hj e
  by_cases c : i ≤ j
  · exact key i j hi hj c e
  · exact (key j i hj hi (by omega) e.symm).symm
theorem hm_15 {V : Nat → Int32} (h : okPath V) : 1 ≤ hm V ∧ hm V ≤ 15 := by
  have hs := cL_sum h 8 (Nat.le_refl _)
  have p := (hmF_le h (k := 8) (Nat.le_refl _)).1
  refine ⟨p, ?_⟩
  have fin : ∀ M, 0 < M → M ≤ 15 → (∀ a, a < 8 → crc V a ∣ M) → hm V ≤ 15 := fun M m0 m15 g => Nat.le_trans (Nat.le_of_dvd m0 ((hmF_dvd M 8).mpr g)) m15
  have val : ∀ a, a < 8 → crc V a = 1 ∨ crc V a = 2 ∨ crc V a = 3 ∨ crc V a = 4 ∨ crc V a = 5 ∨ crc V a = 6 ∨ crc V a = 7 ∨ crc V a = 8 := fun a ha => by
    obtain ⟨-, c1, c2, -⟩ := crc_spec h ha
    omega
  have go : ∀ M, 0 < M → M ≤ 15 → (∀ L, 1 ≤ L → L ≤ 8 → L ≤ cL V L 8 → L ∣ M) → hm V ≤ 15 := fun M m0 m15 g => fin M m0 m15 (fun a ha => by
    obtain ⟨-, c1, c2, -⟩ := crc_spec h ha
    exact g _ c1 c2 (cL_ge h ha))
  have use : ∀ M, 0 < M → M ≤ 15 → (¬ 2 ∣ M → cL V 2 8 < 2) → (¬ 3 ∣ M → cL V 3 8 < 3) → (¬ 4 ∣ M → cL V 4 8 < 4) → (¬ 5 ∣ M → cL V 5 8 < 5) → (¬ 6 ∣ M → cL V 6 8 < 6) → (¬ 7 ∣ M → cL V 7 8 < 7) → (¬ 8 ∣ M → cL V 8 8 < 8) → hm V ≤ 15 := by
    intro M m0 m15 g2 g3 g4 g5 g6 g7 g8
    refine go M m0 m15 (fun L l1 l8 hl => ?_)
    apply Classical.byContradiction
    intro q
    have e : L = 1 ∨ L = 2 ∨ L = 3 ∨ L = 4 ∨ L = 5 ∨ L = 6 ∨ L = 7 ∨ L = 8 := by omega
    rcases e with e | e | e | e | e | e | e | e <;> subst e
    · exact q (Nat.one_dvd M)
    · have := g2 q; omega
    · have := g3 q; omega
    · have := g4 q; omega
    · have := g5 q; omega
    · have := g6 q; omega
    · have := g7 q; omega
    · have := g8 q; omega
  by_cases c8 : cL V 8 8 < 8
  · by_cases c7 : cL V 7 8 < 7
    · by_cases c6 : cL V 6 8 < 6
      · by_cases c5 : cL V 5 8 < 5
        · by_cases c4 : cL V 4 8 < 4
          · exact use 6 (by decide) (by decide) (fun q => absurd (by decide) q) (fun q => absurd (by decide) q) (fun _ => c4) (fun _ => c5) (fun _ => c6) (fun _ => c7) (fun _ => c8)
          · exact use 12 (by decide) (by decide) (fun q => absurd (by decide) q) (fun q => absurd (by decide) q) (fun q => absurd (by decide) q) (fun _ => c5) (fun _ => c6) (fun _ => c7) (fun _ => c8)
        · by_cases c3 : cL V 3 8 < 3
          · exact use 10 (by decide) (by decide) (fun q => absurd (by decide) q) (fun _ => c3) (fun _ => by omega) (fun q => absurd (by decide) q) (fun _ => c6) (fun _ => c7) (fun _ => c8)
          · exact use 15 (by decide) (by decide) (fun _ => by omega) (fun q => absurd (by decide) q) (fun _ => by omega) (fun q => absurd (by decide) q) (fun _ => c6) (fun _ => c7) (fun _ => c8)
      · exact use 6 (by decide) (by decide) (fun q => absurd (by decide) q) (fun q => absurd (by decide) q) (fun _ => by omega) (fun _ => by omega) (fun q => absurd (by decide) q) (fun _ => c7) (fun _ => c8)
    · exact use 7 (by decide) (by decide) (fun _ => by omega) (fun _ => by omega) (fun _ => by omega) (fun _ => by omega) (fun _ => by omega) (fun q => absurd (by decide) q) (fun _ => c8)
  · exact use 8 (by decide) (by decide) (fun q => absurd (by decide) q) (fun _ => by omega) (fun q => absurd (by decide) q) (fun _ => by omega) (fun _ => by omega) (fun _ => by omega) (fun q => absurd (by decide) q)
theorem crc_hm {V : Nat → Int32} {a : Nat} (ha : a < 8) : crc V a ∣ hm V := (hmF_dvd (hm V) 8).mp (Nat.dvd_refl _) a ha
/-! whom the path leads to: all eight -/
def gt (V : Nat → Int32) : Nat → Int32
  | 0 => nI 0
  | n + 1 => gt V n ||| (nI 1 <<< (V (11 + n) &&& 31))
theorem shl_p : ∀ p, p < 8 → nI 1 <<< (nI p &&& 31) = nI (2 ^ p) := by decide +kernel
theorem i_or (a b : Nat) : nI a ||| nI b = nI (a ||| b) := by
  apply Int32.toBitVec_inj.mp
  rw [Int32.toBitVec_or]
  show BitVec.ofNat 32 a ||| BitVec.ofNat 32 b = BitVec.ofNat 32 (a ||| b)
  apply BitVec.eq_of_toNat_eq
  rw [BitVec.toNat_or, BitVec.toNat_ofNat, BitVec.toNat_ofNat, BitVec.toNat_ofNat, Nat.or_mod_two_pow]
theorem or_bit (m : Nat) (hm : m < 256) (p : Nat) (hp : p < 8) : ∃ m2, m2 < 256 ∧ nI m ||| nI (2 ^ p) = nI m2 ∧ m2 = m ||| 2 ^ p :=
  ⟨m ||| 2 ^ p, Nat.or_lt_two_pow (n := 8) hm (Nat.pow_lt_pow_right (by decide) hp), i_or _ _, rfl⟩
theorem all_bits : ∀ m, m < 256 → (∀ p, p < 8 → m.testBit p = true) → m = 255 := by decide +kernel
theorem gt_at {V : Nat → Int32} (h : okPath V) : ∀ n, n ≤ 8 → ∃ m, m < 256 ∧ gt V n = nI m ∧ ∀ i, i < n → m.testBit (pth V i) = true
  | 0, _ => ⟨0, by decide, rfl, fun i hi => absurd hi (by omega)⟩
  | n + 1, hn => by
    obtain ⟨m, h1, h2, h3⟩ := gt_at h n (by omega)
    obtain ⟨e, hp⟩ := h.1 n (by omega)
    obtain ⟨m2, g1, g2, g3⟩ := or_bit m h1 (pth V n) hp
    refine ⟨m2, g1, ?_, fun i hi => ?_⟩
    · show gt V n ||| (nI 1 <<< (V (11 + n) &&& 31)) = _
      rw [h2, e, shl_p _ hp, g2]
    · rw [g3, Nat.testBit_or, Nat.testBit_two_pow]
      by_cases c : i = n
      · subst c
        simp
      · rw [h3 i (by omega)]
        rfl
theorem gt_255 {V : Nat → Int32} (h : okPath V) : gt V 8 = nI 255 := by
  obtain ⟨m, h1, h2, h3⟩ := gt_at h 8 (Nat.le_refl _)
  rw [h2, all_bits m h1 (fun p hp => by
    obtain ⟨s, s1, s2⟩ := h.surj hp
    rw [← s2]
    exact h3 s s1)]
/-! when a promise can be kept -/
def sI (V : Nat → Int32) : Nat → Nat → Nat
  | a, 0 => a
  | a, n + 1 => sI V (snd V a) n
theorem sI_lt {V : Nat → Int32} (h : okPath V) : ∀ n a, a < 8 → sI V a n < 8
  | 0, _, ha => ha
  | n + 1, _, ha => sI_lt h n _ (snd_spec h ha).2
theorem ckG_spec {V : Nat → Int32} {s : Nat} : ∀ (f a k : Nat), (∃ j, j < f ∧ ckG V s f a k = nI (k + j) ∧ (∃ w, wy V (sI V a j) s = some w) ∧ ∀ i, i < j → wy V (sI V a i) s = none) ∨ (ckG V s f a k = -1 ∧ ∀ i, i < f → wy V (sI V a i) s = none)
  | 0, a, k => Or.inr ⟨rfl, fun i hi => absurd hi (by omega)⟩
  | f + 1, a, k => by
    cases hw : wy V a s with
    | some w => exact Or.inl ⟨0, by omega, ckG_some hw, ⟨w, hw⟩, fun i hi => absurd hi (by omega)⟩
    | none =>
      rw [ckG_none hw]
      rcases ckG_spec f (snd V a) (k + 1) with ⟨j, h1, h2, h3, h4⟩ | ⟨h1, h2⟩
      · refine Or.inl ⟨j + 1, by omega, ?_, h3, fun i hi => ?_⟩
        · rw [h2]
          congr 1
          omega
        · match i, hi with
          | 0, _ => exact hw
          | i + 1, hi => exact h4 i (by omega)
      · refine Or.inr ⟨h1, fun i hi => ?_⟩
        match i, hi with
        | 0, _ => exact hw
        | i + 1, hi => exact h2 i (by omega)
/-! the ways to pay depend on purse and worths alone -/
theorem bt_cg {V V' : Nat → Int32} {a a' s t e f : Nat} {q : bst × (Nat → Nat → Int32)} (h0 : cp V a 0 = cp V' a' 0) (w : ∀ c, c < 4 → wt V c = wt V' c) : bt V a s t e f q = bt V' a' s t e f q := by
  have w0 := w 0 (by decide)
  have w1 := w 1 (by decide)
  have w2 := w 2 (by decide)
  have w3 := w 3 (by decide)
  by_cases c : t * wt V 3 + e * wt V 2 + f * wt V 1 ≤ s ∧ (s - (t * wt V 3 + e * wt V 2 + f * wt V 1)) % wt V 0 = 0 ∧ (s - (t * wt V 3 + e * wt V 2 + f * wt V 1)) / wt V 0 ≤ cp V a 0 ∧ btr q.1 (t + e + f + (s - (t * wt V 3 + e * wt V 2 + f * wt V 1)) / wt V 0)
  · rw [bt_yes c.1 c.2.1 c.2.2.1 c.2.2.2]
    rw [w0, w1, w2, w3, h0] at c
    rw [bt_yes c.1 c.2.1 c.2.2.1 c.2.2.2, w0, w1, w2, w3]
  · rw [bt_no c]
    rw [w0, w1, w2, w3, h0] at c
    rw [bt_no c]
theorem l1_cg {V V' : Nat → Int32} {a a' s t e : Nat} (h0 : cp V a 0 = cp V' a' 0) (w : ∀ c, c < 4 → wt V c = wt V' c) : ∀ (k : Nat) (q : bst × (Nat → Nat → Int32)), l1 V a s t e k q = l1 V' a' s t e k q
  | 0, _ => rfl
  | k + 1, q => by
    show l1 V a s t e k (bt V a s t e k q) = l1 V' a' s t e k (bt V' a' s t e k q)
    rw [bt_cg h0 w, l1_cg h0 w k]
theorem l2_cg {V V' : Nat → Int32} {a a' s t : Nat} (h0 : cp V a 0 = cp V' a' 0) (h1 : cp V a 1 = cp V' a' 1) (w : ∀ c, c < 4 → wt V c = wt V' c) : ∀ (k : Nat) (q : bst × (Nat → Nat → Int32)), l2 V a s t k q = l2 V' a' s t k q
  | 0, _ => rfl
  | k + 1, q => by
    show l2 V a s t k (l1 V a s t k (cp V a 1 + 1) q) = l2 V' a' s t k (l1 V' a' s t k (cp V' a' 1 + 1) q)
    rw [l1_cg h0 w, h1, l2_cg h0 h1 w k]
theorem l3_cg {V V' : Nat → Int32} {a a' s : Nat} (h0 : cp V a 0 = cp V' a' 0) (h1 : cp V a 1 = cp V' a' 1) (h2 : cp V a 2 = cp V' a' 2) (w : ∀ c, c < 4 → wt V c = wt V' c) : ∀ (k : Nat) (q : bst × (Nat → Nat → Int32)), l3 V a s k q = l3 V' a' s k q
  | 0, _ => rfl
  | k + 1, q => by
    show l3 V a s k (l2 V a s k (cp V a 2 + 1) q) = l3 V' a' s k (l2 V' a' s k (cp V' a' 2 + 1) q)
    rw [l2_cg h0 h1 w, h2, l3_cg h0 h1 h2 w k]
theorem wy_cg {V V' : Nat → Int32} {a a' s : Nat} (h : ∀ c, c < 4 → cp V a c = cp V' a' c) (w : ∀ c, c < 4 → wt V c = wt V' c) : wy V a s = wy V' a' s := by
  show (l3 V a s (cp V a 3 + 1) (none, fun _ _ => 0)).1 = (l3 V' a' s (cp V' a' 3 + 1) (none, fun _ _ => 0)).1
  rw [l3_cg (h 0 (by decide)) (h 1 (by decide)) (h 2 (by decide)) w, h 3 (by decide)]
theorem sndG_cg {V V' : Nat → Int32} {i : Nat} (h : ∀ a, a < 8 → pth V' a = pth V a) : ∀ f s, f + s ≤ 7 → sndG V' i f s = sndG V i f s
  | 0, _, _ => rfl
  | f + 1, s, hs => by rw [sndG_s, sndG_s, h s (by omega), sndG_cg h f (s + 1) (by omega)]
theorem snd_cg {V V' : Nat → Int32} {i : Nat} (h : ∀ a, a < 8 → pth V' a = pth V a) : snd V' i = snd V i := sndG_cg h 7 0 (by decide)
/-- the view behind n storms -/
def sN (V : Nat → Int32) : Nat → (Nat → Int32)
  | 0 => V
  | n + 1 => sV (sN V n)
theorem sN_s (V : Nat → Int32) (n : Nat) : sN V (n + 1) = sV (sN V n) := rfl
theorem sN_path {V : Nat → Int32} : ∀ n, ∀ j, 7 ≤ j → j < 19 → sN V n j = V j
  | 0, _, _, _ => rfl
  | n + 1, j, h1, h2 => by
    rw [sN_s, sV_low (by omega) (by omega) (by omega), stm_off _ (by omega) (by omega), sN_path n j h1 h2]
theorem sN_caps {V : Nat → Int32} (h : okPath V) : ∀ n a, a < 8 → ∀ c, c < 4 → cp (sN V n) a c = cp V (sI V a n) c
  | 0, _, _, _, _ => rfl
  | n + 1, a, ha, c, hc => by
    have e : snd (sN V n) a = snd V a := snd_cg (fun b hb => by unfold pth nv; rw [sN_path n _ (by omega) (by omega)])
    have e2 : cp (sN V (n + 1)) a c = cp (sN V n) (snd V a) c := by
      unfold cp nv
      rw [sN_s, sV_caps ha hc, e]
    rw [e2, sN_caps h n _ (snd_spec h ha).2 c hc]
    rfl
theorem sN_wy {V : Nat → Int32} (h : okPath V) {n a s : Nat} (ha : a < 8) : wy (sN V n) a s = wy V (sI V a n) s :=
  wy_cg (fun c hc => sN_caps h n a ha c hc) (fun c hc => by unfold wt nv; rw [sN_path n _ (by omega) (by omega)])
theorem sN_ok {V : Nat → Int32} (ok : okV V) : ∀ n, nv V 0 + n ≤ 9999 → okV (sN V n) ∧ nv (sN V n) 0 = nv V 0 + n
  | 0, _ => ⟨ok, rfl⟩
  | n + 1, h => by
    obtain ⟨h1, h2⟩ := sN_ok ok n (by omega)
    obtain ⟨g1, g2, g3⟩ := sV_ok h1 (by omega)
    exact ⟨g1, by rw [sN_s, g2, h2]; omega⟩
theorem due_sN {V : Nat → Int32} (ok : okV V) (hd : dueV V) : ∀ n, nv V 0 + n ≤ 9999 → dueV (sN V n)
  | 0, _ => hd
  | n + 1, h => by
    obtain ⟨h1, h2⟩ := sN_ok ok n (by omega)
    exact due_brs (ok_stm h1 (by omega)).1
/-! trades -/
theorem i_negsub (a b : Int32) : -(a - b) = b - a := by
  apply Int32.toBitVec_inj.mp
  simp only [Int32.toBitVec_sub, Int32.toBitVec_neg]
  apply BitVec.eq_of_toNat_eq
  simp only [BitVec.toNat_sub, BitVec.toNat_neg]
  omega
theorem i_zsub (a b : Int32) : 0 - (a - b) = b - a := by
  have h1 := a.toBitVec.isLt
  have h2 := b.toBitVec.isLt
  apply Int32.toBitVec_inj.mp
  simp only [Int32.toBitVec_sub]
  apply BitVec.eq_of_toNat_eq
  simp only [BitVec.toNat_sub]
  rw [show (0 : Int32).toBitVec.toNat = 0 from rfl]
  omega
theorem rsn_1 {V : Nat → Int32} {a c b e : Nat} {x y : Int32} (h : V (19 + (a * 4 + c)) < x) : rsn V a c b e x y = nI 1 := by
  unfold rsn
  rw [if_pos h]
theorem rsn_2 {V : Nat → Int32} {a c b e : Nat} {x y : Int32} (h : ¬ V (19 + (a * 4 + c)) < x) (h2 : V (19 + (b * 4 + e)) < y) : rsn V a c b e x y = nI 2 := by
  unfold rsn
  rw [if_neg h, if_pos h2]
def fair (V : Nat → Int32) (c e x y : Nat) : Prop := (x * wt V c : Int) - y * wt V e ≤ nv V 6 ∧ (y * wt V e : Int) - x * wt V c ≤ nv V 6
theorem rsn_03 {V : Nat → Int32} (ok : okV V) {a c b e x y : Nat} (hc : c < 4) (he : e < 4) (hx : x ≤ 99) (hy : y ≤ 99) (h : ¬ V (19 + (a * 4 + c)) < nI x) (h2 : ¬ V (19 + (b * 4 + e)) < nI y) : (rsn V a c b e (nI x) (nI y) = nI 0 ∧ fair V c e x y) ∨ rsn V a c b e (nI x) (nI y) = nI 3 := by
  obtain ⟨okP, okM, okT9, okC, okW, okD⟩ := id ok
  have wc := okW c hc
  have we := okW e he
  have mc : x * wt V c ≤ 99 * 9 := Nat.mul_le_mul hx wc.2.2
  have me : y * wt V e ≤ 99 * 9 := Nat.mul_le_mul hy we.2.2
  have hd : dff V c e (nI x) (nI y) = nI (x * wt V c) - nI (y * wt V e) := by
    unfold dff
    rw [wc.1, we.1, pk_mul, pk_mul]
    rfl
  have ht : (dff V c e (nI x) (nI y)).toInt = (x * wt V c : Nat) - ((y * wt V e : Nat) : Int) := by rw [hd, pk_sub_toInt (by omega) (by omega)]
  have ht2 : (0 - dff V c e (nI x) (nI y)).toInt = (y * wt V e : Nat) - ((x * wt V c : Nat) : Int) := by
    rw [hd, i_zsub, pk_sub_toInt (by omega) (by omega)]
  have h6 := okD.2
  have h6i : (V 6).toInt = (nv V 6 : Int) := by rw [h6.1, nI_toInt (by omega)]
  unfold rsn
  rw [if_neg h, if_neg h2]
  by_cases g : (if 0 ≤ dff V c e (nI x) (nI y) then dff V c e (nI x) (nI y) else 0 - dff V c e (nI x) (nI y)) ≤ V 6
  · rw [if_pos g]
    refine Or.inl ⟨rfl, ?_⟩
    have g2 := Int32.le_iff_toInt_le.mp g
    rw [h6i] at g2
    unfold fair
    by_cases z : 0 ≤ dff V c e (nI x) (nI y)
    · rw [if_pos z, ht] at g2
      have z2 := Int32.le_iff_toInt_le.mp z
      rw [ht, show ((0 : Int32).toInt) = 0 from rfl] at z2
      push_cast at g2 z2
      omega
    · rw [if_neg z, ht2] at g2
      have z2 : ¬ (0 : Int32).toInt ≤ (dff V c e (nI x) (nI y)).toInt := fun q => z (Int32.le_iff_toInt_le.mpr q)
      rw [ht, show ((0 : Int32).toInt) = 0 from rfl] at z2
      push_cast at g2 z2
      omega
  · rw [if_neg g]
    exact Or.inr rfl
theorem trd_pw {V : Nat → Int32} (ok : okV V) {a c b e x y : Nat} (ha : a < 8) (hc : c < 4) (hb : b < 8) (he : e < 4) (hne : a ≠ b) (hx : x ≤ 99) (hy : y ≤ 99) (h0 : rsn V a c b e (nI x) (nI y) = 0) : pwN (trd V a c (nI x) b e (nI y)) a + x * wt V c = pwN V a + y * wt V e := by
  obtain ⟨g1, g2⟩ := rsn_0 h0
  have oc := ok.2.2.2.1
  have e1 : V (19 + (a * 4 + c)) = nI (cp V a c) := oc.1 (a * 4 + c) (by omega)
  have e2 : V (19 + (b * 4 + e)) = nI (cp V b e) := oc.1 (b * 4 + e) (by omega)
  have b1 := cp_le oc ha hc
  have b2 := cp_le oc hb he
  rw [e1] at g1
  rw [e2] at g2
  have m1 : x ≤ cp V a c := ge_of (by omega) (by omega) g1
  have m2 : y ≤ cp V b e := ge_of (by omega) (by omega) g2
  have k0 := (ok_hnd ok hne ha hb (c := c) (m := x) hc m1).1
  have p0 := pwN_hnd_f oc hne ha hb (c := c) (m := x) hc m1
  have q0 := pwN_hnd_t k0.2.2.2.1 (Ne.symm hne) hb ha (c := e) (m := y) he (by omega)
  rw [wt_hnd ha hb hc he] at q0
  unfold trd
  rw [if_pos h0, pwN_cong (V := hnd (hnd V a b c (nI x)) b a e (nI y)) (fun j h1 h2 => upd_ne _ _ (by omega)) ha, q0]
  omega
theorem le_i {p q n : Nat} (hp : p < 2 ^ 30) (hq : q < 2 ^ 30) (hn : n < 2 ^ 30) (h : (p : Int) - q ≤ n) : nI p - nI q ≤ nI n := by
  refine Int32.le_iff_toInt_le.mpr ?_
  rw [pk_sub_toInt hp hq, nI_toInt (by omega)]
  exact h
/-! the path crossed twice -/
theorem swp_swp {V : Nat → Int32} {i o : Nat} (hi : i < 8) (ho : o < 8) : swp (swp V i o) i o = V := by
  funext j
  by_cases c : j < 11 ∨ 19 ≤ j
  · rw [swp_off hi ho c, swp_off hi ho c]
  · obtain ⟨a, rfl⟩ : ∃ a, j = 11 + a := ⟨j - 11, by omega⟩
    rw [swp_at]
    by_cases e1 : a = o
    · subst e1
      rw [if_pos rfl, swp_at]
      by_cases e2 : i = a
      · subst e2
        rw [if_pos rfl]
      · rw [if_neg e2, if_pos rfl]
    · rw [if_neg e1]
      by_cases e2 : a = i
      · subst e2
        rw [if_pos rfl, swp_at, if_pos rfl]
      · rw [if_neg e2, swp_at, if_neg e1, if_neg e2]
theorem swp_self {V : Nat → Int32} {i o : Nat} : swp V i o (11 + i) = V (11 + o) := by
  rw [swp_at]
  by_cases e : i = o
  · subst e
    rw [if_pos rfl]
  · rw [if_neg e, if_pos rfl]
/-! promises made -/
theorem owd_mkp {V : Nat → Int32} (ok : okV V) {f t s : Nat} {dd : Int32} (hm : nv V 1 < 8) : owd (mkp V (nI f) (nI t) (nI s) dd) f t = owd V f t + nI s := by
  unfold owd
  rw [(mkp_many hm).1, smt_i]
  have e : ∀ w, w < 4 → ∀ q, q < nv V 1 → mkp V (nI f) (nI t) (nI s) dd (51 + (q * 4 + w)) = V (51 + (q * 4 + w)) := fun w hw q hq => by rw [mkp_at hw, if_neg (by omega)]
  rw [smt_cong (V := V) (t := fun q => decide (V (51 + (q * 4 + 0)) = nI f) && decide (V (51 + (q * 4 + 1)) = nI t)) (nv V 1) (fun q hq => ⟨by rw [e 0 (by decide) q hq, e 1 (by decide) q hq], e 2 (by decide) q hq⟩)]
  congr 1
  rw [mkp_at (by decide), mkp_at (by decide), mkp_at (by decide), if_pos rfl, if_pos rfl, if_pos rfl]
  simp [ind]
theorem owd_rfz {V : Nat → Int32} (f t : Nat) : owd (rfz V) f t = owd V f t := by
  unfold owd
  rw [show nv (rfz V) 1 = nv V 1 from rfl]
  exact smt_cong _ (fun q _ => ⟨by unfold rfz; rw [upd_ne _ _ (by omega), upd_ne _ _ (by omega)], upd_ne _ _ (by omega)⟩)
