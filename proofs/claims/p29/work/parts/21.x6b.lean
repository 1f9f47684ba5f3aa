/-! STORMPURSES, 2: the homes (own work, written by wip/tools) -/
theorem am_lcm {a c : Nat} (ha : 1 ≤ a) (hc : 1 ≤ c) : ∃ T, 1 ≤ T ∧ T ≤ c ∧ a * T = Nat.lcm a c ∧ a * T % c = 0 ∧ ∀ t, 1 ≤ t → t < T → ¬ a * t % c = 0 := by
  obtain ⟨T, hT⟩ := Nat.dvd_lcm_left a c
  have hpos : 0 < Nat.lcm a c := Nat.lcm_pos (by omega) (by omega)
  have hle : Nat.lcm a c ∣ a * c := Nat.lcm_dvd (Nat.dvd_mul_right a c) (Nat.dvd_mul_left c a)
  refine ⟨T, ?_, ?_, hT.symm, ?_, ?_⟩
  · rcases Nat.eq_zero_or_pos T with e | e
    · rw [hT, e] at hpos
      omega
    · exact e
  · have h1 := Nat.le_of_dvd (Nat.mul_pos (by omega) (by omega)) hle
    rw [hT] at h1
    exact Nat.le_of_mul_le_mul_left h1 (by omega)
  · rw [← hT]
    exact Nat.mod_eq_zero_of_dvd (Nat.dvd_lcm_right a c)
  · intro t h1 h2 h3
    have h4 : Nat.lcm a c ∣ a * t := Nat.lcm_dvd (Nat.dvd_mul_right a t) (Nat.dvd_of_mod_eq_zero h3)
    have h5 := Nat.le_of_dvd (Nat.mul_pos (by omega) (by omega)) h4
    rw [hT] at h5
    have := Nat.le_of_mul_le_mul_left h5 (by omega)
    omega
theorem alg_mul {V : Nat → Int32} (h : okPath V) {a : Nat} (ha : a < 8) : ∀ k, alg V a (crc V a * k) = a
  | 0 => rfl
  | k + 1 => by
    rw [Nat.mul_succ, alg_add, alg_mul h ha k]
    exact (crc_spec h ha).1
theorem alg_crc {V : Nat → Int32} (h : okPath V) {a : Nat} (ha : a < 8) (n : Nat) : alg V a n = a ↔ crc V a ∣ n := by
  obtain ⟨c1, c2, c3, c4⟩ := crc_spec h ha
  constructor
  · intro e
    have e2 : alg V a (n % crc V a) = a := by
      have h9 := e
      rw [← Nat.div_add_mod n (crc V a), alg_add, alg_mul h ha] at h9
      exact h9
    by_cases z : n % crc V a = 0
    · exact Nat.dvd_of_mod_eq_zero z
    · exact absurd e2 (c4 _ (by omega) (Nat.mod_lt _ (by omega)))
  · rintro ⟨k, e⟩
    rw [e]
    exact alg_mul h ha k
def hmF (V : Nat → Int32) : Nat → Nat
  | 0 => 1
  | i + 1 => Nat.lcm (hmF V i) (crc V i)
def hm (V : Nat → Int32) : Nat := hmF V 8
theorem hmF_dvd {V : Nat → Int32} (n : Nat) : ∀ k, (hmF V k ∣ n ↔ ∀ i, i < k → crc V i ∣ n)
  | 0 => ⟨fun _ i h => absurd h (by omega), fun _ => Nat.one_dvd n⟩
  | k + 1 => by
    constructor
    · intro h i hi
      rcases Nat.lt_or_eq_of_le (Nat.lt_succ_iff.mp hi) with c | c
      · exact (hmF_dvd n k).mp (Nat.dvd_trans (Nat.dvd_lcm_left _ _) h) i c
      · rw [c]
        exact Nat.dvd_trans (Nat.dvd_lcm_right _ _) h
    · intro h
      exact Nat.lcm_dvd ((hmF_dvd n k).mpr (fun i hi => h i (by omega))) (h k (by omega))
theorem dvd840 {c : Nat} (h1 : 1 ≤ c) (h2 : c ≤ 8) : c ∣ 840 := by
  match c, h1, h2 with
  | 1, _, _ => decide
  | 2, _, _ => decide
  | 3, _, _ => decide
  | 4, _, _ => decide
  | 5, _, _ => decide
  | 6, _, _ => decide
  | 7, _, _ => decide
  | 8, _, _ => decide
theorem hmF_le {V : Nat → Int32} (h : okPath V) {k : Nat} (hk : k ≤ 8) : 1 ≤ hmF V k ∧ hmF V k ≤ 840 := by
  have d1 : hmF V k ∣ 840 := (hmF_dvd 840 k).mpr (fun i hi => dvd840 (crc_spec h (by omega)).2.1 (crc_spec h (by omega)).2.2.1)
  have l1 := Nat.le_of_dvd (by decide) d1
  refine ⟨?_, l1⟩
  rcases Nat.eq_zero_or_pos (hmF V k) with e | e
  · rw [e] at d1
    exact absurd d1 (by decide)
  · exact e
/-- home: after n storms every purse is home just if hm divides n -/
theorem hm_home {V : Nat → Int32} (h : okPath V) (n : Nat) : (∀ p, p < 8 → alg V p n = p) ↔ hm V ∣ n := by
  constructor
  · intro q
    exact (hmF_dvd n 8).mpr (fun i hi => (alg_crc h hi n).mp (q i hi))
  · intro q p hp
    exact (alg_crc h hp n).mpr ((hmF_dvd n 8).mp q p hp)
theorem alg_lt8 {V : Nat → Int32} (h : okPath V) {a : Nat} (ha : a < 8) (n : Nat) : alg V a n < 8 := alg_lt h ha n
theorem alg_s (V : Nat → Int32) (a n : Nat) : alg V a (n + 1) = alg V (alg V a n) 1 := alg_add V a n 1
/-- the first place where two rows differ -/
theorem am_first {P : Nat → Prop} : ∀ n, (∀ p, p < n → P p) ∨ ∃ p, p < n ∧ ¬ P p ∧ ∀ q, q < p → P q
  | 0 => Or.inl (fun p h => absurd h (by omega))
  | n + 1 => by
    rcases am_first n with h | ⟨p, h1, h2, h3⟩
    · rcases Classical.em (P n) with c | c
      · refine Or.inl (fun p hp => ?_)
        rcases Nat.lt_or_eq_of_le (Nat.lt_succ_iff.mp hp) with g | g
        · exact h p g
        · rw [g]; exact c
      · exact Or.inr ⟨n, by omega, c, h⟩
    · exact Or.inr ⟨p, by omega, h2, h3⟩
def hI (f : Nat → Int32) (i : Nat) : Nat → Int32 := fun x => if x < i then nI x else f x
def hR (V : Nat → Int32) (f : Nat → Int32) (s : Nat) : Nat → Int32 := fun x => if x < 8 then nI (alg V x s) else f x
def hM (V : Nat → Int32) (f : Nat → Int32) (s i : Nat) : Nat → Int32 := fun x => if x < 8 then (if x < i then nI (alg V x (s + 1)) else nI (alg V x s)) else f x
theorem hI_s (f : Nat → Int32) (i : Nat) : upd (hI f i) i (nI i) = hI f (i + 1) := by
  funext x
  unfold hI
  by_cases e : x = i
  · subst e
    rw [upd_eq, if_pos (by omega)]
  · rw [upd_ne _ _ e]
    by_cases c : x < i
    · rw [if_pos c, if_pos (by omega)]
    · rw [if_neg c, if_neg (by omega)]
theorem hI_0 (f : Nat → Int32) : hI f 0 = f := by
  funext x
  exact if_neg (by omega)
theorem hI_8 (V : Nat → Int32) (f : Nat → Int32) : hI f 8 = hR V f 0 := rfl
theorem hM_0 (V : Nat → Int32) (f : Nat → Int32) (s : Nat) : hM V f s 0 = hR V f s := by
  funext x
  unfold hM hR
  by_cases c : x < 8
  · rw [if_pos c, if_pos c, if_neg (by omega)]
  · rw [if_neg c, if_neg c]
theorem hM_8 (V : Nat → Int32) (f : Nat → Int32) (s : Nat) : hM V f s 8 = hR V f (s + 1) := by
  funext x
  unfold hM hR
  by_cases c : x < 8
  · rw [if_pos c, if_pos c, if_pos c]
  · rw [if_neg c, if_neg c]
theorem hM_s (V : Nat → Int32) (f : Nat → Int32) (s : Nat) {i : Nat} (hi : i < 8) : upd (hM V f s i) i (nI (alg V (alg V i s) 1)) = hM V f s (i + 1) := by
  rw [← alg_s]
  funext x
  by_cases e : x = i
  · subst e
    rw [upd_eq]
    unfold hM
    rw [if_pos hi, if_pos (by omega)]
  · rw [upd_ne _ _ e]
    unfold hM
    by_cases c8 : x < 8
    · rw [if_pos c8, if_pos c8]
      by_cases c : x < i
      · rw [if_pos c, if_pos (by omega)]
      · rw [if_neg c, if_neg (by omega)]
    · rw [if_neg c8, if_neg c8]
theorem hM_at (V : Nat → Int32) (f : Nat → Int32) (s : Nat) {i : Nat} (hi : i < 8) : hM V f s i i = nI (alg V i s) := by
  unfold hM
  rw [if_pos hi, if_neg (by omega)]
theorem hR_at (V : Nat → Int32) (f : Nat → Int32) (s : Nat) {i : Nat} (hi : i < 8) : hR V f s i = nI (alg V i s) := if_pos hi
set_option maxRecDepth 100000 in
set_option maxHeartbeats 4000000 in
theorem A_X6_leastCommonMultiple {d : Nat → Nat → Int32} {r : Nat → Nat → Option Nat} {J : Nat → Nat → Int64} {a c : Nat} (h1a : 1 ≤ a) (ha : a ≤ 840) (h1c : 1 ≤ c) (hc : c ≤ 8) : OP kX6_leastCommonMultiple yX6_leastCommonMultiple 0 [.int (nI a), .int (nI c)] d r J (some (.int (nI (Nat.lcm a c)))) d r J := by
  refine op_of pl_X6_leastCommonMultiple (Nat.le_of_ble_eq_true rfl) ?_
  obtain ⟨T, h1, h2, h3, h4, h5⟩ := am_lcm (a := a) (c := c) h1a h1c
  have hb2 : a * T ≤ 840 * 8 := Nat.mul_le_mul ha (by omega)
  rw [← h3]
  have L : ∀ i, i ≤ T - 1 → SW yX6_leastCommonMultiple cX6_leastCommonMultiple 4 (some .int) [] 0 none 4 [some (.int (nI a)), some (.int (nI c)), some (.int (nI (a * (i + 1)))), some (.int (nI (i + 1)))] [] 65 (W0 d r J) 0 0 (.inl (some (.int (nI (a * T))))) 65 (W0 d r J) := by
    refine am_loop (T - 1) ?_ ?_
    · rw [show T - 1 + 1 = T by omega]
      by_cases e : T = c
      ·
        refine sw_iload_n (i := 3) dX6_leastCommonMultiple_4 rfl rfl ?_
        refine sw_iload_n (i := 1) dX6_leastCommonMultiple_5 rfl rfl ?_
        refine sw_ic_ge (tgt := 29) dX6_leastCommonMultiple_6 rfl (fun _ => ?_) (fun h9 => absurd (nI_le (by omega) (by omega)) h9)
        refine sw_iload_n (i := 2) dX6_leastCommonMultiple_29 rfl rfl ?_
        exact sw_ireturn rfl dX6_leastCommonMultiple_30
      ·
        refine sw_iload_n (i := 3) dX6_leastCommonMultiple_4 rfl rfl ?_
        refine sw_iload_n (i := 1) dX6_leastCommonMultiple_5 rfl rfl ?_
        refine sw_ic_ge (tgt := 29) dX6_leastCommonMultiple_6 rfl (fun h9 => absurd h9 (nI_ge (by omega) (by omega))) (fun _ => ?_)
        refine sw_iload_n (i := 1) dX6_leastCommonMultiple_9 rfl rfl ?_
        refine sw_if_le (tgt := 29) dX6_leastCommonMultiple_10 rfl (fun h9 => absurd h9 (nI_nle (by omega) (by omega))) (fun _ => ?_)
        refine sw_iload_n (i := 2) dX6_leastCommonMultiple_13 rfl rfl ?_
        refine sw_iload_n (i := 1) dX6_leastCommonMultiple_14 rfl rfl ?_
        refine sw_ins (pc2 := 15) rfl rfl ?_
        refine sw_irem (nI_ne0 (by omega) (by omega)) dX6_leastCommonMultiple_15 ?_
        refine sw_topE (v := nI (a * T % c)) (pk_rem (by omega) (by omega) (by omega)) ?_
        refine sw_if_eq (tgt := 29) dX6_leastCommonMultiple_16 rfl (fun _ => ?_) (fun h9 => absurd (by rw [h4]; rfl) h9)
        refine sw_iload_n (i := 2) dX6_leastCommonMultiple_29 rfl rfl ?_
        exact sw_ireturn rfl dX6_leastCommonMultiple_30
    · intro i hi ih
      have hb3 : a * (i + 1) ≤ 840 * 8 := Nat.mul_le_mul ha (by omega)
      have hb4 : a * (i + 1) % c < c := Nat.mod_lt _ (by omega)
      have hn := h5 (i + 1) (by omega) (by omega)
      refine sw_iload_n (i := 3) dX6_leastCommonMultiple_4 rfl rfl ?_
      refine sw_iload_n (i := 1) dX6_leastCommonMultiple_5 rfl rfl ?_
      refine sw_ic_ge (tgt := 29) dX6_leastCommonMultiple_6 rfl (fun h9 => absurd h9 (nI_ge (by omega) (by omega))) (fun _ => ?_)
      refine sw_iload_n (i := 1) dX6_leastCommonMultiple_9 rfl rfl ?_
      refine sw_if_le (tgt := 29) dX6_leastCommonMultiple_10 rfl (fun h9 => absurd h9 (nI_nle (by omega) (by omega))) (fun _ => ?_)
      refine sw_iload_n (i := 2) dX6_leastCommonMultiple_13 rfl rfl ?_
      refine sw_iload_n (i := 1) dX6_leastCommonMultiple_14 rfl rfl ?_
      refine sw_ins (pc2 := 15) rfl rfl ?_
      refine sw_irem (nI_ne0 (by omega) (by omega)) dX6_leastCommonMultiple_15 ?_
      refine sw_topE (v := nI (a * (i + 1) % c)) (pk_rem (by omega) (by omega) (by omega)) ?_
      refine sw_if_eq (tgt := 29) dX6_leastCommonMultiple_16 rfl (fun h9 => absurd h9 (nI_ne0 (by omega) (by omega))) (fun _ => ?_)
      refine sw_iload_n (i := 2) dX6_leastCommonMultiple_19 rfl rfl ?_
      refine sw_iload_n (i := 0) dX6_leastCommonMultiple_20 rfl rfl ?_
      refine sw_iadd dX6_leastCommonMultiple_21 ?_
      refine sw_topE (v := nI (a * (i + 1 + 1))) (by rw [nI_add]; rfl) ?_
      refine sw_istore_n (i := 2) dX6_leastCommonMultiple_22 rfl (Nat.le_of_ble_eq_true rfl) rfl ?_
      refine sw_lo (lo2 := [some (.int _), some (.int _), some (.int _), some (.int _)]) rfl ?_
      refine sw_iinc (i := 3) (v := nI (i + 1 + 1)) dX6_leastCommonMultiple_23 rfl (nI_1 _) (Nat.le_of_ble_eq_true rfl) rfl ?_
      refine sw_lo (lo2 := [some (.int _), some (.int _), some (.int _), some (.int _)]) rfl ?_
      refine sw_goto (tgt := 4) dX6_leastCommonMultiple_26 rfl ?_
      exact ih
  refine sw_iload_n (i := 0) dX6_leastCommonMultiple_0 rfl rfl ?_
  refine sw_istore_n (i := 2) dX6_leastCommonMultiple_1 rfl (Nat.le_of_ble_eq_true rfl) rfl ?_
  refine sw_lo (lo2 := [some (.int _), some (.int _), some (.int _), none]) rfl ?_
  refine sw_ic 1 dX6_leastCommonMultiple_2 ?_
  refine sw_istore_n (i := 3) dX6_leastCommonMultiple_3 rfl (Nat.le_of_ble_eq_true rfl) rfl ?_
  refine sw_lo (lo2 := [some (.int _), some (.int _), some (.int _), some (.int _)]) rfl ?_
  have L0 := L 0 (Nat.zero_le _)
  rw [show a * (0 + 1) = a by omega] at L0
  exact L0
set_option maxRecDepth 100000 in
set_option maxHeartbeats 4000000 in
theorem A_X6_homeByCircles {d : Nat → Nat → Int32} {r : Nat → Nat → Option Nat} {J : Nat → Nat → Int64} (ok : okPath (cV d 1)) : OP kX6_homeByCircles yX6_homeByCircles 3 [.ref 0] d r J (some (.int (nI (hm (cV d 1))))) d r J := by
  refine op_of pl_X6_homeByCircles (Nat.le_of_ble_eq_true rfl) ?_
  have L : ∀ i, i ≤ 8 → SW yX6_homeByCircles cX6_homeByCircles 3 (some .int) [] 3 none 4 [some (.ref 0), some (.int (nI (hmF (cV d 1) i))), some (.int (nI i))] [] 65 (W0 d r J) 0 0 (.inl (some (.int (nI (hm (cV d 1)))))) 65 (W0 d r J) := by
    refine am_loop 8 ?_ ?_
    ·
      refine sw_iload_n (i := 2) dX6_homeByCircles_4 rfl rfl ?_
      refine sw_bi 8 dX6_homeByCircles_5 (by decide +kernel) ?_
      refine sw_ic_ge (tgt := 29) dX6_homeByCircles_7 rfl (fun _ => ?_) (fun h9 => absurd (nI_le (Nat.le_refl _) (by decide)) h9)
      refine sw_iload_n (i := 1) dX6_homeByCircles_29 rfl rfl ?_
      exact sw_ireturn rfl dX6_homeByCircles_30
    · intro i hi ih
      have b1 := hmF_le ok (k := i) (by omega)
      have b2 := crc_spec ok hi
      refine sw_iload_n (i := 2) dX6_homeByCircles_4 rfl rfl ?_
      refine sw_bi 8 dX6_homeByCircles_5 (by decide +kernel) ?_
      refine sw_ic_ge (tgt := 29) dX6_homeByCircles_7 rfl (fun h9 => absurd h9 (nI_ge hi (by decide))) (fun _ => ?_)
      refine sw_iload_n (i := 1) dX6_homeByCircles_10 rfl rfl ?_
      refine sw_aload_n (i := 0) dX6_homeByCircles_11 rfl rfl ?_
      refine sx_getR (q := 1) f_X6_10 (by decide) kr_0_0 dX6_homeByCircles_12 ?_
      refine sw_iload_n (i := 2) dX6_homeByCircles_15 rfl rfl ?_
      refine sw_ins (pc2 := 16) rfl rfl ?_
      refine px_Vx mv_X6_175 (A_X2_circle isB_1 ok hi) rfl rfl (Nat.le_of_ble_eq_true rfl) (Nat.le_of_ble_eq_true rfl) ko_1 (Nat.le_of_ble_eq_true rfl) dX6_homeByCircles_16 ?_
      refine px_Sx ms_X6_313 (A_X6_leastCommonMultiple b1.1 b1.2 b2.2.1 b2.2.2.1) rfl rfl (Nat.le_of_ble_eq_true rfl) (Nat.le_of_ble_eq_true rfl) (Nat.le_of_ble_eq_true rfl) dX6_homeByCircles_19 ?_
      refine sw_istore_n (i := 1) dX6_homeByCircles_22 rfl (Nat.le_of_ble_eq_true rfl) rfl ?_
      refine sw_lo (lo2 := [some (.ref 0), some (.int _), some (.int _)]) rfl ?_
      refine sw_iinc (i := 2) (v := nI (i + 1)) dX6_homeByCircles_23 rfl (nI_1 _) (Nat.le_of_ble_eq_true rfl) rfl ?_
      refine sw_lo (lo2 := [some (.ref 0), some (.int _), some (.int _)]) rfl ?_
      refine sw_goto (tgt := 4) dX6_homeByCircles_26 rfl ?_
      exact ih
  refine sw_ic 1 dX6_homeByCircles_0 ?_
  refine sw_istore_n (i := 1) dX6_homeByCircles_1 rfl (Nat.le_of_ble_eq_true rfl) rfl ?_
  refine sw_lo (lo2 := [some (.ref 0), some (.int _), none]) rfl ?_
  refine sw_ic 0 dX6_homeByCircles_2 ?_
  refine sw_istore_n (i := 2) dX6_homeByCircles_3 rfl (Nat.le_of_ble_eq_true rfl) rfl ?_
  refine sw_lo (lo2 := [some (.ref 0), some (.int _), some (.int _)]) rfl ?_
  exact L 0 (Nat.zero_le _)
set_option maxRecDepth 100000 in
set_option maxHeartbeats 4000000 in
theorem A1_X6_areHome {d : Nat → Nat → Int32} {r : Nat → Nat → Option Nat} {J : Nat → Nat → Int64} (h : ∀ p, p < 8 → d 52 p = nI p) : OP kX6_areHome yX6_areHome 0 [.ref 0] d r J (some (.int (nI 1))) d r J := by
  refine op_of pl_X6_areHome (Nat.le_of_ble_eq_true rfl) ?_
  have L : ∀ i, i ≤ 8 → SW yX6_areHome cX6_areHome 2 (some .boolean) [] 0 none 2 [some (.ref 0), some (.int (nI i))] [] 65 (W0 d r J) 0 0 (.inl (some (.int (nI 1)))) 65 (W0 d r J) := by
    refine am_loop 8 ?_ ?_
    ·
      refine sw_iload_n (i := 1) dX6_areHome_2 rfl rfl ?_
      refine sw_bi 8 dX6_areHome_3 (by decide +kernel) ?_
      refine sw_ic_ge (tgt := 26) dX6_areHome_5 rfl (fun _ => ?_) (fun h9 => absurd (nI_le (Nat.le_refl _) (by decide)) h9)
      refine sw_ic 1 dX6_areHome_26 ?_
      exact sw_zreturnE rfl rfl rfl dX6_areHome_27
    · intro i hi ih
      refine sw_iload_n (i := 1) dX6_areHome_2 rfl rfl ?_
      refine sw_bi 8 dX6_areHome_3 (by decide +kernel) ?_
      refine sw_ic_ge (tgt := 26) dX6_areHome_5 rfl (fun h9 => absurd h9 (nI_ge hi (by decide))) (fun _ => ?_)
      refine sw_aload_n (i := 0) dX6_areHome_8 rfl rfl ?_
      refine sx_getR (q := 52) f_X6_45 (by decide) kr_0_6 dX6_areHome_9 ?_
      refine sw_iload_n (i := 1) dX6_areHome_12 rfl rfl ?_
      refine sx_ialdE (i) (nI i) (h i hi) rfl rfl (by omega) dX6_areHome_13 ?_
      refine sw_ins (pc2 := 14) rfl rfl ?_
      refine sw_iload_n (i := 1) dX6_areHome_14 rfl rfl ?_
      refine sw_ic_eq (tgt := 20) dX6_areHome_15 rfl (fun _ => ?_) (fun h9 => absurd rfl h9)
      refine sw_iinc (i := 1) (v := nI (i + 1)) dX6_areHome_20 rfl (nI_1 _) (Nat.le_of_ble_eq_true rfl) rfl ?_
      refine sw_lo (lo2 := [some (.ref 0), some (.int _)]) rfl ?_
      refine sw_goto (tgt := 2) dX6_areHome_23 rfl ?_
      exact ih
  refine sw_ic 0 dX6_areHome_0 ?_
  refine sw_istore_n (i := 1) dX6_areHome_1 rfl (Nat.le_of_ble_eq_true rfl) rfl ?_
  refine sw_lo (lo2 := [some (.ref 0), some (.int _)]) rfl ?_
  exact L 0 (Nat.zero_le _)
set_option maxRecDepth 100000 in
set_option maxHeartbeats 4000000 in
theorem A0_X6_areHome {d : Nat → Nat → Int32} {r : Nat → Nat → Option Nat} {J : Nat → Nat → Int64} {p : Nat} (hp : p < 8) (hn : ¬ d 52 p = nI p) (h : ∀ q, q < p → d 52 q = nI q) : OP kX6_areHome yX6_areHome 0 [.ref 0] d r J (some (.int (nI 0))) d r J := by
  refine op_of pl_X6_areHome (Nat.le_of_ble_eq_true rfl) ?_
  have L : ∀ i, i ≤ p → SW yX6_areHome cX6_areHome 2 (some .boolean) [] 0 none 2 [some (.ref 0), some (.int (nI i))] [] 65 (W0 d r J) 0 0 (.inl (some (.int (nI 0)))) 65 (W0 d r J) := by
    refine am_loop p ?_ ?_
    ·
      refine sw_iload_n (i := 1) dX6_areHome_2 rfl rfl ?_
      refine sw_bi 8 dX6_areHome_3 (by decide +kernel) ?_
      refine sw_ic_ge (tgt := 26) dX6_areHome_5 rfl (fun h9 => absurd h9 (nI_ge hp (by decide))) (fun _ => ?_)
      refine sw_aload_n (i := 0) dX6_areHome_8 rfl rfl ?_
      refine sx_getR (q := 52) f_X6_45 (by decide) kr_0_6 dX6_areHome_9 ?_
      refine sw_iload_n (i := 1) dX6_areHome_12 rfl rfl ?_
      refine sx_ialdE (p) (d 52 p) (rfl) rfl rfl (by omega) dX6_areHome_13 ?_
      refine sw_ins (pc2 := 14) rfl rfl ?_
      refine sw_iload_n (i := 1) dX6_areHome_14 rfl rfl ?_
      refine sw_ic_eq (tgt := 20) dX6_areHome_15 rfl (fun h9 => absurd h9 hn) (fun _ => ?_)
      refine sw_ic 0 dX6_areHome_18 ?_
      exact sw_zreturnE rfl rfl rfl dX6_areHome_19
    · intro i hi ih
      refine sw_iload_n (i := 1) dX6_areHome_2 rfl rfl ?_
      refine sw_bi 8 dX6_areHome_3 (by decide +kernel) ?_
      refine sw_ic_ge (tgt := 26) dX6_areHome_5 rfl (fun h9 => absurd h9 (nI_ge (by omega) (by decide))) (fun _ => ?_)
      refine sw_aload_n (i := 0) dX6_areHome_8 rfl rfl ?_
      refine sx_getR (q := 52) f_X6_45 (by decide) kr_0_6 dX6_areHome_9 ?_
      refine sw_iload_n (i := 1) dX6_areHome_12 rfl rfl ?_
      refine sx_ialdE (i) (nI i) (h i hi) rfl rfl (by omega) dX6_areHome_13 ?_
      refine sw_ins (pc2 := 14) rfl rfl ?_
      refine sw_iload_n (i := 1) dX6_areHome_14 rfl rfl ?_
      refine sw_ic_eq (tgt := 20) dX6_areHome_15 rfl (fun _ => ?_) (fun h9 => absurd rfl h9)
      refine sw_iinc (i := 1) (v := nI (i + 1)) dX6_areHome_20 rfl (nI_1 _) (Nat.le_of_ble_eq_true rfl) rfl ?_
      refine sw_lo (lo2 := [some (.ref 0), some (.int _)]) rfl ?_
      refine sw_goto (tgt := 2) dX6_areHome_23 rfl ?_
      exact ih
  refine sw_ic 0 dX6_areHome_0 ?_
  refine sw_istore_n (i := 1) dX6_areHome_1 rfl (Nat.le_of_ble_eq_true rfl) rfl ?_
  refine sw_lo (lo2 := [some (.ref 0), some (.int _)]) rfl ?_
  exact L 0 (Nat.zero_le _)
set_option maxRecDepth 100000 in
set_option maxHeartbeats 4000000 in
theorem A_X6_homeByTrying {d : Nat → Nat → Int32} {r : Nat → Nat → Option Nat} {J : Nat → Nat → Int64} (ok : okPath (cV d 1)) : OP kX6_homeByTrying yX6_homeByTrying 3 [.ref 0] d r J (some (.int (nI (hm (cV d 1))))) (dup d 52 (hR (cV d 1) (d 52) (hm (cV d 1)))) r J := by
  refine op_of pl_X6_homeByTrying (Nat.le_of_ble_eq_true rfl) ?_
  have hview : ∀ f, cV (dup d 52 f) 1 = cV d 1 := fun f => cV_keep (fun c hc => dup_ne _ _ (by omega))
  have hh := hmF_le ok (k := 8) (Nat.le_refl _)
  have hh1 : 1 ≤ hm (cV d 1) := hh.1
  have hh2 : hm (cV d 1) ≤ 840 := hh.2
  have R : ∀ j, j < 840 → SW yX6_homeByTrying cX6_homeByTrying 3 (some .int) [] 3 none 60 [some (.ref 0), some (.int (nI (j + 1))), some (.int (nI 8))] [] 65 (W0 (dup d 52 (hR (cV d 1) (d 52) (j + 1))) r J) 0 0 (.inl (some (.int (nI (hm (cV d 1)))))) 65 (W0 (dup d 52 (hR (cV d 1) (d 52) (hm (cV d 1)))) r J) → SW yX6_homeByTrying cX6_homeByTrying 3 (some .int) [] 3 none 23 [some (.ref 0), some (.int (nI j)), none] [] 65 (W0 (dup d 52 (hR (cV d 1) (d 52) j)) r J) 0 0 (.inl (some (.int (nI (hm (cV d 1)))))) 65 (W0 (dup d 52 (hR (cV d 1) (d 52) (hm (cV d 1)))) r J) := by
    intro j hj hx
    have L : ∀ i, i ≤ 8 → SW yX6_homeByTrying cX6_homeByTrying 3 (some .int) [] 3 none 28 [some (.ref 0), some (.int (nI (j + 1))), some (.int (nI i))] [] 65 (W0 (dup d 52 (hM (cV d 1) (d 52) j i)) r J) 0 0 (.inl (some (.int (nI (hm (cV d 1)))))) 65 (W0 (dup d 52 (hR (cV d 1) (d 52) (hm (cV d 1)))) r J) := by
      refine am_loop 8 ?_ ?_
      ·
        refine sw_iload_n (i := 2) dX6_homeByTrying_28 rfl rfl ?_
        refine sw_bi 8 dX6_homeByTrying_29 (by decide +kernel) ?_
        refine sw_ic_ge (tgt := 60) dX6_homeByTrying_31 rfl (fun _ => ?_) (fun h9 => absurd (nI_le (Nat.le_refl _) (by decide)) h9)
        rw [hM_8]
        exact hx
      · intro i hi ih
        refine sw_iload_n (i := 2) dX6_homeByTrying_28 rfl rfl ?_
        refine sw_bi 8 dX6_homeByTrying_29 (by decide +kernel) ?_
        refine sw_ic_ge (tgt := 60) dX6_homeByTrying_31 rfl (fun h9 => absurd h9 (nI_ge hi (by decide))) (fun _ => ?_)
        refine sw_aload_n (i := 0) dX6_homeByTrying_34 rfl rfl ?_
        refine sx_getR (q := 52) f_X6_45 (by decide) kr_0_6 dX6_homeByTrying_35 ?_
        refine sw_iload_n (i := 2) dX6_homeByTrying_38 rfl rfl ?_
        refine sw_aload_n (i := 0) dX6_homeByTrying_39 rfl rfl ?_
        refine sw_ins (pc2 := 40) rfl rfl ?_
        refine sx_getR (q := 1) f_X6_10 (by decide) kr_0_0 dX6_homeByTrying_40 ?_
        refine sw_aload_n (i := 0) dX6_homeByTrying_43 rfl rfl ?_
        refine sx_getR (q := 52) f_X6_45 (by decide) kr_0_6 dX6_homeByTrying_44 ?_
        refine sw_iload_n (i := 2) dX6_homeByTrying_47 rfl rfl ?_
        refine sx_ialdE (i) (nI (alg (cV d 1) i j)) (by rw [dup_eq]; exact hM_at _ _ _ hi) rfl rfl (by omega) dX6_homeByTrying_48 ?_
        refine sw_ic 1 dX6_homeByTrying_49 ?_
        have ha : OP kX2_along yX2_along 2 [.ref 1, .int (nI (alg (cV d 1) i j)), .int (nI 1)] (dup d 52 (hM (cV d 1) (d 52) j i)) r J (some (.int (nI (alg (cV d 1) (alg (cV d 1) i j) 1)))) (dup d 52 (hM (cV d 1) (d 52) j i)) r J := by
          have h9 := A_X2_along (d := dup d 52 (hM (cV d 1) (d 52) j i)) (r := r) (J := J) (b := 1) (a := alg (cV d 1) i j) (n := 1) isB_1 (by rw [hview]; exact ok) (alg_lt8 ok hi j) (by decide)
          rw [hview] at h9
          exact h9
        refine px_Vx mv_X6_207 ha rfl rfl (Nat.le_of_ble_eq_true rfl) (Nat.le_of_ble_eq_true rfl) ko_1 (Nat.le_of_ble_eq_true rfl) dX6_homeByTrying_50 ?_
        refine sx_iast (i) rfl rfl (by omega) dX6_homeByTrying_53 ?_
        rw [d2_dup, hM_s _ _ _ hi]
        refine sw_ins (pc2 := 54) rfl rfl ?_
        refine sw_iinc (i := 2) (v := nI (i + 1)) dX6_homeByTrying_54 rfl (nI_1 _) (Nat.le_of_ble_eq_true rfl) rfl ?_
        refine sw_lo (lo2 := [some (.ref 0), some (.int _), some (.int _)]) rfl ?_
        refine sw_goto (tgt := 28) dX6_homeByTrying_57 rfl ?_
        exact ih
    refine sw_iinc (i := 1) (v := nI (j + 1)) dX6_homeByTrying_23 rfl (nI_1 _) (Nat.le_of_ble_eq_true rfl) rfl ?_
    refine sw_lo (lo2 := [some (.ref 0), some (.int _), none]) rfl ?_
    refine sw_ic 0 dX6_homeByTrying_26 ?_
    refine sw_istore_n (i := 2) dX6_homeByTrying_27 rfl (Nat.le_of_ble_eq_true rfl) rfl ?_
    refine sw_lo (lo2 := [some (.ref 0), some (.int _), some (.int _)]) rfl ?_
    have L0 := L 0 (Nat.zero_le _)
    rw [hM_0] at L0
    exact L0
  have Q : ∀ j, j ≤ hm (cV d 1) - 1 → SW yX6_homeByTrying cX6_homeByTrying 3 (some .int) [] 3 none 23 [some (.ref 0), some (.int (nI j)), none] [] 65 (W0 (dup d 52 (hR (cV d 1) (d 52) j)) r J) 0 0 (.inl (some (.int (nI (hm (cV d 1)))))) 65 (W0 (dup d 52 (hR (cV d 1) (d 52) (hm (cV d 1)))) r J) := by
    refine am_loop (hm (cV d 1) - 1) ?_ ?_
    · refine R _ (by omega) ?_
      rw [show hm (cV d 1) - 1 + 1 = hm (cV d 1) by omega]
      have hy : ∀ p, p < 8 → (dup d 52 (hR (cV d 1) (d 52) (hm (cV d 1)))) 52 p = nI p := by
        intro p hp
        rw [dup_eq, hR_at _ _ _ hp, (hm_home ok _).mpr (Nat.dvd_refl _) p hp]
      refine sw_aload_n (i := 0) dX6_homeByTrying_60 rfl rfl ?_
      refine px_Vx mv_X6_316 (A1_X6_areHome hy) rfl rfl (Nat.le_of_ble_eq_true rfl) (Nat.le_of_ble_eq_true rfl) ko_0 (Nat.le_of_ble_eq_true rfl) dX6_homeByTrying_61 ?_
      refine sw_if_ne (tgt := 74) dX6_homeByTrying_64 rfl (fun _ => ?_) (fun h9 => absurd h9 (by decide))
      refine sw_iload_n (i := 1) dX6_homeByTrying_74 rfl rfl ?_
      exact sw_ireturn rfl dX6_homeByTrying_75
    · intro j hj ih
      refine R j (by omega) ?_
      have hy : ¬ ∀ p, p < 8 → (dup d 52 (hR (cV d 1) (d 52) (j + 1))) 52 p = nI p := by
        intro q
        have q2 := (hm_home ok (j + 1)).mp (fun p hp => by
          have h9 := q p hp
          rw [dup_eq, hR_at _ _ _ hp] at h9
          exact (nI_eq (Nat.lt_of_lt_of_le (alg_lt8 ok hp _) (by decide)) (by omega)).mp h9)
        have := Nat.le_of_dvd (by omega) q2
        omega
      obtain ⟨p, p1, p2, p3⟩ := (am_first (P := fun p => (dup d 52 (hR (cV d 1) (d 52) (j + 1))) 52 p = nI p) 8).resolve_left hy
      refine sw_aload_n (i := 0) dX6_homeByTrying_60 rfl rfl ?_
      refine px_Vx mv_X6_316 (A0_X6_areHome p1 p2 p3) rfl rfl (Nat.le_of_ble_eq_true rfl) (Nat.le_of_ble_eq_true rfl) ko_0 (Nat.le_of_ble_eq_true rfl) dX6_homeByTrying_61 ?_
      refine sw_if_ne (tgt := 74) dX6_homeByTrying_64 rfl (fun h9 => absurd (by decide) h9) (fun _ => ?_)
      refine sw_iload_n (i := 1) dX6_homeByTrying_67 rfl rfl ?_
      refine sw_si 1000 dX6_homeByTrying_68 (by decide +kernel) ?_
      refine sw_ic_lt (tgt := 23) dX6_homeByTrying_71 rfl (fun _ => ?_) (fun h9 => absurd (nI_lt (by omega) (by decide)) h9)
      refine sw_sub ?_ ih
      exact ⟨rfl, rfl, trivial⟩
  have S : ∀ i, i ≤ 8 → SW yX6_homeByTrying cX6_homeByTrying 3 (some .int) [] 3 none 2 [some (.ref 0), some (.int (nI i)), none] [] 65 (W0 (dup d 52 (hI (d 52) i)) r J) 0 0 (.inl (some (.int (nI (hm (cV d 1)))))) 65 (W0 (dup d 52 (hR (cV d 1) (d 52) (hm (cV d 1)))) r J) := by
    refine am_loop 8 ?_ ?_
    ·
      refine sw_iload_n (i := 1) dX6_homeByTrying_2 rfl rfl ?_
      refine sw_bi 8 dX6_homeByTrying_3 (by decide +kernel) ?_
      refine sw_ic_ge (tgt := 21) dX6_homeByTrying_5 rfl (fun _ => ?_) (fun h9 => absurd (nI_le (Nat.le_refl _) (by decide)) h9)
      refine sw_ic 0 dX6_homeByTrying_21 ?_
      refine sw_istore_n (i := 1) dX6_homeByTrying_22 rfl (Nat.le_of_ble_eq_true rfl) rfl ?_
      refine sw_lo (lo2 := [some (.ref 0), some (.int _), none]) rfl ?_
      exact Q 0 (Nat.zero_le _)
    · intro i hi ih
      refine sw_iload_n (i := 1) dX6_homeByTrying_2 rfl rfl ?_
      refine sw_bi 8 dX6_homeByTrying_3 (by decide +kernel) ?_
      refine sw_ic_ge (tgt := 21) dX6_homeByTrying_5 rfl (fun h9 => absurd h9 (nI_ge hi (by decide))) (fun _ => ?_)
      refine sw_aload_n (i := 0) dX6_homeByTrying_8 rfl rfl ?_
      refine sx_getR (q := 52) f_X6_45 (by decide) kr_0_6 dX6_homeByTrying_9 ?_
      refine sw_iload_n (i := 1) dX6_homeByTrying_12 rfl rfl ?_
      refine sw_iload_n (i := 1) dX6_homeByTrying_13 rfl rfl ?_
      refine sw_ins (pc2 := 14) rfl rfl ?_
      refine sx_iast (i) rfl rfl (by omega) dX6_homeByTrying_14 ?_
      rw [d2_dup, hI_s]
      refine sw_iinc (i := 1) (v := nI (i + 1)) dX6_homeByTrying_15 rfl (nI_1 _) (Nat.le_of_ble_eq_true rfl) rfl ?_
      refine sw_lo (lo2 := [some (.ref 0), some (.int _), none]) rfl ?_
      refine sw_goto (tgt := 2) dX6_homeByTrying_18 rfl ?_
      exact ih
  refine sw_ic 0 dX6_homeByTrying_0 ?_
  refine sw_istore_n (i := 1) dX6_homeByTrying_1 rfl (Nat.le_of_ble_eq_true rfl) rfl ?_
  refine sw_lo (lo2 := [some (.ref 0), some (.int _), none]) rfl ?_
  have S0 := S 0 (Nat.zero_le _)
  rw [hI_0, dup_self] at S0
  exact S0
