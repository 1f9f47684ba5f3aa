/-! THE MODEL, 6: isNext, takes, readDigit, readOther, readSum (own work, written by wip/tools) -/
theorem sg_at {f : Nat → Int32} {L a : Nat} (h : a < L) : sg f L a = nv f a := if_pos h
theorem sg_end {f : Nat → Int32} {L a : Nat} (h : L ≤ a) : sg f L a = 32 := if_neg (by omega)
theorem sg_L {f : Nat → Int32} {L a : Nat} (h : 33 ≤ sg f L a) : a < L := by
  by_cases c : a < L
  · exact c
  · rw [sg_end (by omega)] at h
    omega
/-- the model's cells hold a text, read up to a place -/
def RT (d : Nat → Nat → Int32) (f : Nat → Int32) (L p : Nat) : Prop := okT f L ∧ (∀ i, i < L → d 70 i = f i) ∧ d 65 6 = nI L ∧ d 65 10 = nI p ∧ p ≤ 61
/-- what reading leaves as it was -/
def rfr (d d1 : Nat → Nat → Int32) : Prop := (∀ c, c ≠ 65 → c ≠ 73 → d1 c = d c) ∧ ∀ j, j ≠ 10 → j ≠ 11 → d1 65 j = d 65 j
theorem rfr_refl (d : Nat → Nat → Int32) : rfr d d := ⟨fun _ _ _ => rfl, fun _ _ _ => rfl⟩
theorem rfr_p {d d1 : Nat → Nat → Int32} {x : Int32} (h : rfr d d1) : rfr d (d2 d1 65 10 x) := ⟨fun c h1 h2 => (d2_off _ _ h1).trans (h.1 c h1 h2), fun j h1 h2 => (d2_ne _ _ (Or.inr h1)).trans (h.2 j h1 h2)⟩
theorem rfr_l {d d1 : Nat → Nat → Int32} {x : Int32} (h : rfr d d1) : rfr d (d2 d1 65 11 x) := ⟨fun c h1 h2 => (d2_off _ _ h1).trans (h.1 c h1 h2), fun j h1 h2 => (d2_ne _ _ (Or.inr h2)).trans (h.2 j h1 h2)⟩
theorem rfr_t {d d1 : Nat → Nat → Int32} {w : Nat} {x : Int32} (h : rfr d d1) : rfr d (d2 d1 73 w x) := ⟨fun c h1 h2 => (d2_off _ _ h2).trans (h.1 c h1 h2), fun j h1 h2 => (congrFun (d2_off d1 x (by decide)) j).trans (h.2 j h1 h2)⟩
theorem rfr_tr {a b c : Nat → Nat → Int32} (h : rfr a b) (g : rfr b c) : rfr a c := ⟨fun x h1 h2 => (g.1 x h1 h2).trans (h.1 x h1 h2), fun j h1 h2 => (g.2 j h1 h2).trans (h.2 j h1 h2)⟩
section RTS
variable {d : Nat → Nat → Int32} {r : Nat → Nat → Option Nat} {J : Nat → Nat → Int64} {f : Nat → Int32} {L p : Nat}
theorem RT_p {q : Nat} (h : RT d f L p) (hq : q ≤ 61) : RT (d2 d 65 10 (nI q)) f L q := ⟨h.1, fun i hi => (congrFun (d2_off _ _ (by decide)) i).trans (h.2.1 i hi), (d2_ne _ _ (Or.inr (by decide))).trans h.2.2.1, d2_eq _ _ _ _, hq⟩
theorem RT_l {x : Int32} (h : RT d f L p) : RT (d2 d 65 11 x) f L p := ⟨h.1, fun i hi => (congrFun (d2_off _ _ (by decide)) i).trans (h.2.1 i hi), (d2_ne _ _ (Or.inr (by decide))).trans h.2.2.1, (d2_ne _ _ (Or.inr (by decide))).trans h.2.2.2.1, h.2.2.2.2⟩
theorem RT_t {w : Nat} {x : Int32} (h : RT d f L p) : RT (d2 d 73 w x) f L p := ⟨h.1, fun i hi => (congrFun (d2_off _ _ (by decide)) i).trans (h.2.1 i hi), (congrFun (d2_off d x (by decide)) _).trans h.2.2.1, (congrFun (d2_off d x (by decide)) _).trans h.2.2.2.1, h.2.2.2.2⟩
theorem RT_x (h : RT d f L p) (hp : p < L) : d 70 p = nI (sg f L p) := by
  rw [h.2.1 p hp, sg_at hp]
  exact (h.1.2 p hp).1
theorem RT_60 (h : RT d f L p) : L ≤ 60 := h.1.1
end RTS
theorem in_c {a lo hi : Nat} (h : ¬ (lo ≤ a ∧ a ≤ hi)) (ha : a < 2 ^ 20) (hl : lo < 2 ^ 20) (hh : hi < 2 ^ 20) : ¬ inY (nI a) (nI lo) (nI hi) := by
  intro g
  refine h ⟨?_, ?_⟩
  · by_cases c : lo ≤ a
    · exact c
    · exact absurd g.1 (nI_ge (by omega) (by omega))
  · by_cases c : a ≤ hi
    · exact c
    · exact absurd g.2 (nI_ge (by omega) (by omega))
set_option maxRecDepth 100000 in
set_option maxHeartbeats 4000000 in
theorem A1_X7_isNext {d : Nat → Nat → Int32} {r : Nat → Nat → Option Nat} {J : Nat → Nat → Int64} {f : Nat → Int32} {L p : Nat} (h : RT d f L p) {lo hi : Nat} (hlo : 33 ≤ lo) (hhi : hi ≤ 200) (g : lo ≤ sg f L p ∧ sg f L p ≤ hi) : OP kX7_isNext yX7_isNext 1 [.ref 65, .int (nI lo), .int (nI hi)] d r J (some (.int (nI 1))) d r J := by
  refine op_of pl_X7_isNext (Nat.le_of_ble_eq_true rfl) ?_
  have h60 := RT_60 h
  have hp61 : p ≤ 61 := h.2.2.2.2
  have hpL : p < L := sg_L (f := f) (by omega)
  refine sw_aload_n (i := 0) dX7_isNext_0 rfl rfl ?_
  refine sx_getIE (nI p) h.2.2.2.1 f_X7_128 (by decide) kf_65_10 dX7_isNext_1 ?_
  refine sw_aload_n (i := 0) dX7_isNext_4 rfl rfl ?_
  refine sx_getIE (nI L) h.2.2.1 f_X7_125 (by decide) kf_65_6 dX7_isNext_5 ?_
  refine sw_ic_ge (tgt := 32) dX7_isNext_8 rfl (fun h9 => absurd h9 (nI_ge hpL (by omega))) (fun _ => ?_)
  refine sw_aload_n (i := 0) dX7_isNext_11 rfl rfl ?_
  refine sx_getR (q := 70) f_X7_23 (by decide) kr_65_5 dX7_isNext_12 ?_
  refine sw_ins (pc2 := 15) rfl rfl ?_
  refine sw_aload_n (i := 0) dX7_isNext_15 rfl rfl ?_
  refine sx_getIE (nI p) h.2.2.2.1 f_X7_128 (by decide) kf_65_10 dX7_isNext_16 ?_
  refine sx_ialdE (p) (nI (sg f L p)) (RT_x h hpL) rfl rfl (by omega) dX7_isNext_19 ?_
  refine sw_iload_n (i := 1) dX7_isNext_20 rfl rfl ?_
  refine sw_iload_n (i := 2) dX7_isNext_21 rfl rfl ?_
  refine px_Sx ms_X7_39 (A1_X7_in (in_s g.1 g.2 (by omega))) rfl rfl (Nat.le_of_ble_eq_true rfl) (Nat.le_of_ble_eq_true rfl) (Nat.le_of_ble_eq_true rfl) dX7_isNext_22 ?_
  refine sw_if_eq (tgt := 32) dX7_isNext_25 rfl (fun h9 => absurd h9 (by decide)) (fun _ => ?_)
  refine sw_ic 1 dX7_isNext_28 ?_
  refine sw_ins (pc2 := 29) rfl rfl ?_
  refine sw_goto (tgt := 33) dX7_isNext_29 rfl ?_
  exact sw_zreturnE rfl rfl rfl dX7_isNext_33
set_option maxRecDepth 100000 in
set_option maxHeartbeats 4000000 in
theorem A0_X7_isNext {d : Nat → Nat → Int32} {r : Nat → Nat → Option Nat} {J : Nat → Nat → Int64} {f : Nat → Int32} {L p : Nat} (h : RT d f L p) {lo hi : Nat} (hlo : lo ≤ 200) (hhi : hi ≤ 200) (g : ¬ (lo ≤ sg f L p ∧ sg f L p ≤ hi)) : OP kX7_isNext yX7_isNext 1 [.ref 65, .int (nI lo), .int (nI hi)] d r J (some (.int (nI 0))) d r J := by
  refine op_of pl_X7_isNext (Nat.le_of_ble_eq_true rfl) ?_
  have h60 := RT_60 h
  have hp61 : p ≤ 61 := h.2.2.2.2
  have hs := sg_lt h.1 p
  by_cases hpL : p < L
  ·
    refine sw_aload_n (i := 0) dX7_isNext_0 rfl rfl ?_
    refine sx_getIE (nI p) h.2.2.2.1 f_X7_128 (by decide) kf_65_10 dX7_isNext_1 ?_
    refine sw_aload_n (i := 0) dX7_isNext_4 rfl rfl ?_
    refine sx_getIE (nI L) h.2.2.1 f_X7_125 (by decide) kf_65_6 dX7_isNext_5 ?_
    refine sw_ic_ge (tgt := 32) dX7_isNext_8 rfl (fun h9 => absurd h9 (nI_ge hpL (by omega))) (fun _ => ?_)
    refine sw_aload_n (i := 0) dX7_isNext_11 rfl rfl ?_
    refine sx_getR (q := 70) f_X7_23 (by decide) kr_65_5 dX7_isNext_12 ?_
    refine sw_ins (pc2 := 15) rfl rfl ?_
    refine sw_aload_n (i := 0) dX7_isNext_15 rfl rfl ?_
    refine sx_getIE (nI p) h.2.2.2.1 f_X7_128 (by decide) kf_65_10 dX7_isNext_16 ?_
    refine sx_ialdE (p) (nI (sg f L p)) (RT_x h hpL) rfl rfl (by omega) dX7_isNext_19 ?_
    refine sw_iload_n (i := 1) dX7_isNext_20 rfl rfl ?_
    refine sw_iload_n (i := 2) dX7_isNext_21 rfl rfl ?_
    refine px_Sx ms_X7_39 (A0_X7_in (in_c g (by omega) (by omega) (by omega))) rfl rfl (Nat.le_of_ble_eq_true rfl) (Nat.le_of_ble_eq_true rfl) (Nat.le_of_ble_eq_true rfl) dX7_isNext_22 ?_
    refine sw_if_eq (tgt := 32) dX7_isNext_25 rfl (fun _ => ?_) (fun h9 => absurd (by decide) h9)
    refine sw_ic 0 dX7_isNext_32 ?_
    refine sw_ins (pc2 := 33) rfl rfl ?_
    exact sw_zreturnE rfl rfl rfl dX7_isNext_33
  ·
    refine sw_aload_n (i := 0) dX7_isNext_0 rfl rfl ?_
    refine sx_getIE (nI p) h.2.2.2.1 f_X7_128 (by decide) kf_65_10 dX7_isNext_1 ?_
    refine sw_aload_n (i := 0) dX7_isNext_4 rfl rfl ?_
    refine sx_getIE (nI L) h.2.2.1 f_X7_125 (by decide) kf_65_6 dX7_isNext_5 ?_
    refine sw_ic_ge (tgt := 32) dX7_isNext_8 rfl (fun _ => ?_) (fun h9 => absurd (nI_le (by omega) (by omega)) h9)
    refine sw_ic 0 dX7_isNext_32 ?_
    exact sw_zreturnE rfl rfl rfl dX7_isNext_33
set_option maxRecDepth 100000 in
set_option maxHeartbeats 4000000 in
theorem A1_X7_takes {d : Nat → Nat → Int32} {r : Nat → Nat → Option Nat} {J : Nat → Nat → Int64} {f : Nat → Int32} {L p : Nat} (h : RT d f L p) {c : Nat} (h33 : 33 ≤ c) (h126 : c ≤ 126) (g : sg f L p = c) : OP kX7_takes yX7_takes 2 [.ref 65, .int (nI c)] d r J (some (.int (nI 1))) (d2 d 65 10 (nI (p + 1))) r J := by
  refine op_of pl_X7_takes (Nat.le_of_ble_eq_true rfl) ?_
  refine sw_aload_n (i := 0) dX7_takes_0 rfl rfl ?_
  refine sw_iload_n (i := 1) dX7_takes_1 rfl rfl ?_
  refine sw_iload_n (i := 1) dX7_takes_2 rfl rfl ?_
  refine px_Vx mv_X7_131 (A1_X7_isNext h (lo := c) (hi := c) h33 (by omega) ⟨by omega, by omega⟩) rfl rfl (Nat.le_of_ble_eq_true rfl) (Nat.le_of_ble_eq_true rfl) ko_65 (Nat.le_of_ble_eq_true rfl) dX7_takes_3 ?_
  refine sw_istore_n (i := 2) dX7_takes_6 rfl (Nat.le_of_ble_eq_true rfl) rfl ?_
  refine sw_lo (lo2 := [some (.ref 65), some (.int _), some (.int _)]) rfl ?_
  refine sw_aload_n (i := 0) dX7_takes_7 rfl rfl ?_
  refine sw_dup dX7_takes_8 rfl ?_
  refine sw_ins (pc2 := 9) rfl rfl ?_
  refine sx_getIE (nI p) h.2.2.2.1 f_X7_128 (by decide) kf_65_10 dX7_takes_9 ?_
  refine sw_iload_n (i := 2) dX7_takes_12 rfl rfl ?_
  refine sw_if_eq (tgt := 20) dX7_takes_13 rfl (fun h9 => absurd h9 (by decide)) (fun _ => ?_)
  refine sw_ic 1 dX7_takes_16 ?_
  refine sw_goto (tgt := 21) dX7_takes_17 rfl ?_
  refine sw_iadd dX7_takes_21 ?_
  refine sw_topE (v := nI (p + 1)) (nI_1 p) ?_
  refine sx_putI fp_X7_128 (by decide) kf_65_10 dX7_takes_22 ?_
  refine sw_iload_n (i := 2) dX7_takes_25 rfl rfl ?_
  refine sw_ins (pc2 := 26) rfl rfl ?_
  exact sw_zreturnE rfl rfl rfl dX7_takes_26
set_option maxRecDepth 100000 in
set_option maxHeartbeats 4000000 in
theorem A0_X7_takes {d : Nat → Nat → Int32} {r : Nat → Nat → Option Nat} {J : Nat → Nat → Int64} {f : Nat → Int32} {L p : Nat} (h : RT d f L p) {c : Nat} (h33 : 33 ≤ c) (h126 : c ≤ 126) (g : ¬ sg f L p = c) : OP kX7_takes yX7_takes 2 [.ref 65, .int (nI c)] d r J (some (.int (nI 0))) (d2 d 65 10 (nI p)) r J := by
  refine op_of pl_X7_takes (Nat.le_of_ble_eq_true rfl) ?_
  refine sw_aload_n (i := 0) dX7_takes_0 rfl rfl ?_
  refine sw_iload_n (i := 1) dX7_takes_1 rfl rfl ?_
  refine sw_iload_n (i := 1) dX7_takes_2 rfl rfl ?_
  refine px_Vx mv_X7_131 (A0_X7_isNext h (lo := c) (hi := c) (by omega) (by omega) (by omega)) rfl rfl (Nat.le_of_ble_eq_true rfl) (Nat.le_of_ble_eq_true rfl) ko_65 (Nat.le_of_ble_eq_true rfl) dX7_takes_3 ?_
  refine sw_istore_n (i := 2) dX7_takes_6 rfl (Nat.le_of_ble_eq_true rfl) rfl ?_
  refine sw_lo (lo2 := [some (.ref 65), some (.int _), some (.int _)]) rfl ?_
  refine sw_aload_n (i := 0) dX7_takes_7 rfl rfl ?_
  refine sw_dup dX7_takes_8 rfl ?_
  refine sw_ins (pc2 := 9) rfl rfl ?_
  refine sx_getIE (nI p) h.2.2.2.1 f_X7_128 (by decide) kf_65_10 dX7_takes_9 ?_
  refine sw_iload_n (i := 2) dX7_takes_12 rfl rfl ?_
  refine sw_if_eq (tgt := 20) dX7_takes_13 rfl (fun _ => ?_) (fun h9 => absurd (by decide) h9)
  refine sw_ic 0 dX7_takes_20 ?_
  refine sw_iadd dX7_takes_21 ?_
  refine sw_topE (v := nI p) (nI_add p 0) ?_
  refine sx_putI fp_X7_128 (by decide) kf_65_10 dX7_takes_22 ?_
  refine sw_iload_n (i := 2) dX7_takes_25 rfl rfl ?_
  exact sw_zreturnE rfl rfl rfl dX7_takes_26
set_option maxRecDepth 100000 in
set_option maxHeartbeats 4000000 in
theorem A1_X7_readDigit {d : Nat → Nat → Int32} {r : Nat → Nat → Option Nat} {J : Nat → Nat → Int64} {f : Nat → Int32} {L p : Nat} (h : RT d f L p) {w m : Nat} (hw : w < 4) (hm : m ≤ 9) (g : 48 ≤ sg f L p ∧ sg f L p ≤ 48 + m) : OP kX7_readDigit yX7_readDigit 2 [.ref 65, .int (nI w), .int (nI m)] d r J (some (.int (nI 1))) (d2 (d2 d 73 w (nI (dn (sg f L p)))) 65 10 (nI (p + 1))) r J := by
  refine op_of pl_X7_readDigit (Nat.le_of_ble_eq_true rfl) ?_
  have h60 := RT_60 h
  have hpL : p < L := sg_L (f := f) (by omega)
  refine sw_aload_n (i := 0) dX7_readDigit_0 rfl rfl ?_
  refine sw_bi 48 dX7_readDigit_1 (by decide +kernel) ?_
  refine sw_bi 48 dX7_readDigit_3 (by decide +kernel) ?_
  refine sw_iload_n (i := 2) dX7_readDigit_5 rfl rfl ?_
  refine sw_iadd dX7_readDigit_6 ?_
  refine sw_topE (v := nI (48 + m)) (nI_add 48 m) ?_
  refine px_Vx mv_X7_131 (A1_X7_isNext h (lo := 48) (hi := 48 + m) (by decide) (by omega) g) rfl rfl (Nat.le_of_ble_eq_true rfl) (Nat.le_of_ble_eq_true rfl) ko_65 (Nat.le_of_ble_eq_true rfl) dX7_readDigit_7 ?_
  refine sw_istore_n (i := 3) dX7_readDigit_10 rfl (Nat.le_of_ble_eq_true rfl) rfl ?_
  refine sw_lo (lo2 := [some (.ref 65), some (.int _), some (.int _), some (.int _)]) rfl ?_
  refine sw_ins (pc2 := 11) rfl rfl ?_
  refine sw_aload_n (i := 0) dX7_readDigit_11 rfl rfl ?_
  refine sx_getR (q := 73) f_X7_32 (by decide) kr_65_12 dX7_readDigit_12 ?_
  refine sw_iload_n (i := 1) dX7_readDigit_15 rfl rfl ?_
  refine sw_iload_n (i := 3) dX7_readDigit_16 rfl rfl ?_
  refine sw_if_eq (tgt := 35) dX7_readDigit_17 rfl (fun h9 => absurd h9 (by decide)) (fun _ => ?_)
  refine sw_aload_n (i := 0) dX7_readDigit_20 rfl rfl ?_
  refine sx_getR (q := 70) f_X7_23 (by decide) kr_65_5 dX7_readDigit_21 ?_
  refine sw_aload_n (i := 0) dX7_readDigit_24 rfl rfl ?_
  refine sw_ins (pc2 := 25) rfl rfl ?_
  refine sx_getIE (nI p) h.2.2.2.1 f_X7_128 (by decide) kf_65_10 dX7_readDigit_25 ?_
  refine sx_ialdE (p) (nI (sg f L p)) (RT_x h hpL) rfl rfl (by omega) dX7_readDigit_28 ?_
  refine sw_bi 48 dX7_readDigit_29 (by decide +kernel) ?_
  refine sw_isub dX7_readDigit_31 ?_
  refine sw_topE (v := nI (dn (sg f L p))) (pk_sub (by omega)) ?_
  refine sw_goto (tgt := 36) dX7_readDigit_32 rfl ?_
  refine sx_iast (w) rfl rfl (by omega) dX7_readDigit_36 ?_
  refine sw_aload_n (i := 0) dX7_readDigit_37 rfl rfl ?_
  refine sw_dup dX7_readDigit_38 rfl ?_
  refine sw_ins (pc2 := 39) rfl rfl ?_
  refine sx_getIE (nI p) ((congrFun (d2_off d _ (by decide)) _).trans h.2.2.2.1) f_X7_128 (by decide) kf_65_10 dX7_readDigit_39 ?_
  refine sw_iload_n (i := 3) dX7_readDigit_42 rfl rfl ?_
  refine sw_if_eq (tgt := 50) dX7_readDigit_43 rfl (fun h9 => absurd h9 (by decide)) (fun _ => ?_)
  refine sw_ic 1 dX7_readDigit_46 ?_
  refine sw_goto (tgt := 51) dX7_readDigit_47 rfl ?_
  refine sw_iadd dX7_readDigit_51 ?_
  refine sw_topE (v := nI (p + 1)) (nI_1 p) ?_
  refine sx_putI fp_X7_128 (by decide) kf_65_10 dX7_readDigit_52 ?_
  refine sw_iload_n (i := 3) dX7_readDigit_55 rfl rfl ?_
  refine sw_ins (pc2 := 56) rfl rfl ?_
  exact sw_zreturnE rfl rfl rfl dX7_readDigit_56
set_option maxRecDepth 100000 in
set_option maxHeartbeats 4000000 in
theorem A0_X7_readDigit {d : Nat → Nat → Int32} {r : Nat → Nat → Option Nat} {J : Nat → Nat → Int64} {f : Nat → Int32} {L p : Nat} (h : RT d f L p) {w m : Nat} (hw : w < 4) (hm : m ≤ 9) (g : ¬ (48 ≤ sg f L p ∧ sg f L p ≤ 48 + m)) : OP kX7_readDigit yX7_readDigit 2 [.ref 65, .int (nI w), .int (nI m)] d r J (some (.int (nI 0))) (d2 (d2 d 73 w (nI 0)) 65 10 (nI p)) r J := by
  refine op_of pl_X7_readDigit (Nat.le_of_ble_eq_true rfl) ?_
  refine sw_aload_n (i := 0) dX7_readDigit_0 rfl rfl ?_
  refine sw_bi 48 dX7_readDigit_1 (by decide +kernel) ?_
  refine sw_bi 48 dX7_readDigit_3 (by decide +kernel) ?_
  refine sw_iload_n (i := 2) dX7_readDigit_5 rfl rfl ?_
  refine sw_iadd dX7_readDigit_6 ?_
  refine sw_topE (v := nI (48 + m)) (nI_add 48 m) ?_
  refine px_Vx mv_X7_131 (A0_X7_isNext h (lo := 48) (hi := 48 + m) (by decide) (by omega) g) rfl rfl (Nat.le_of_ble_eq_true rfl) (Nat.le_of_ble_eq_true rfl) ko_65 (Nat.le_of_ble_eq_true rfl) dX7_readDigit_7 ?_
  refine sw_istore_n (i := 3) dX7_readDigit_10 rfl (Nat.le_of_ble_eq_true rfl) rfl ?_
  refine sw_lo (lo2 := [some (.ref 65), some (.int _), some (.int _), some (.int _)]) rfl ?_
  refine sw_ins (pc2 := 11) rfl rfl ?_
  refine sw_aload_n (i := 0) dX7_readDigit_11 rfl rfl ?_
  refine sx_getR (q := 73) f_X7_32 (by decide) kr_65_12 dX7_readDigit_12 ?_
  refine sw_iload_n (i := 1) dX7_readDigit_15 rfl rfl ?_
  refine sw_iload_n (i := 3) dX7_readDigit_16 rfl rfl ?_
  refine sw_if_eq (tgt := 35) dX7_readDigit_17 rfl (fun _ => ?_) (fun h9 => absurd (by decide) h9)
  refine sw_ic 0 dX7_readDigit_35 ?_
  refine sx_iast (w) rfl rfl (by omega) dX7_readDigit_36 ?_
  refine sw_aload_n (i := 0) dX7_readDigit_37 rfl rfl ?_
  refine sw_ins (pc2 := 38) rfl rfl ?_
  refine sw_dup dX7_readDigit_38 rfl ?_
  refine sx_getIE (nI p) ((congrFun (d2_off d _ (by decide)) _).trans h.2.2.2.1) f_X7_128 (by decide) kf_65_10 dX7_readDigit_39 ?_
  refine sw_iload_n (i := 3) dX7_readDigit_42 rfl rfl ?_
  refine sw_if_eq (tgt := 50) dX7_readDigit_43 rfl (fun _ => ?_) (fun h9 => absurd (by decide) h9)
  refine sw_ic 0 dX7_readDigit_50 ?_
  refine sw_iadd dX7_readDigit_51 ?_
  refine sw_topE (v := nI p) (nI_add p 0) ?_
  refine sx_putI fp_X7_128 (by decide) kf_65_10 dX7_readDigit_52 ?_
  refine sw_iload_n (i := 3) dX7_readDigit_55 rfl rfl ?_
  refine sw_ins (pc2 := 56) rfl rfl ?_
  exact sw_zreturnE rfl rfl rfl dX7_readDigit_56
set_option maxRecDepth 100000 in
set_option maxHeartbeats 4000000 in
theorem A1_X7_readOther {d : Nat → Nat → Int32} {r : Nat → Nat → Option Nat} {J : Nat → Nat → Int64} {f : Nat → Int32} {L p : Nat} (h : RT d f L p) {c : Nat} (ht : d 73 0 = nI (dn c)) (hc : dg8 c) (g : 48 ≤ sg f L p ∧ sg f L p ≤ 48 + 7) (gn : ¬ sg f L p = c) : OP kX7_readOther yX7_readOther 3 [.ref 65] d r J (some (.int (nI 1))) (d2 (d2 d 73 1 (nI (dn (sg f L p)))) 65 10 (nI (p + 1))) r J := by
  refine op_of pl_X7_readOther (Nat.le_of_ble_eq_true rfl) ?_
  have hcc : 48 ≤ c ∧ c ≤ 55 := hc
  have hdn : 48 + dn c = c := by unfold dn; omega
  refine sw_aload_n (i := 0) dX7_readOther_0 rfl rfl ?_
  refine sw_bi 48 dX7_readOther_1 (by decide +kernel) ?_
  refine sw_aload_n (i := 0) dX7_readOther_3 rfl rfl ?_
  refine sx_getR (q := 73) f_X7_32 (by decide) kr_65_12 dX7_readOther_4 ?_
  refine sw_ic 0 dX7_readOther_7 ?_
  refine sx_ialdE (0) (nI (dn c)) ht rfl rfl (by omega) dX7_readOther_8 ?_
  refine sw_iadd dX7_readOther_9 ?_
  refine sw_topE (v := nI c) ((nI_add 48 (dn c)).trans (congrArg nI hdn)) ?_
  refine sw_ins (pc2 := 10) rfl rfl ?_
  refine sw_bi 48 dX7_readOther_10 (by decide +kernel) ?_
  refine sw_aload_n (i := 0) dX7_readOther_12 rfl rfl ?_
  refine sx_getR (q := 73) f_X7_32 (by decide) kr_65_12 dX7_readOther_13 ?_
  refine sw_ic 0 dX7_readOther_16 ?_
  refine sx_ialdE (0) (nI (dn c)) ht rfl rfl (by omega) dX7_readOther_17 ?_
  refine sw_iadd dX7_readOther_18 ?_
  refine sw_topE (v := nI c) ((nI_add 48 (dn c)).trans (congrArg nI hdn)) ?_
  refine px_Vx mv_X7_131 (A0_X7_isNext h (lo := c) (hi := c) (by omega) (by omega) (by omega)) rfl rfl (Nat.le_of_ble_eq_true rfl) (Nat.le_of_ble_eq_true rfl) ko_65 (Nat.le_of_ble_eq_true rfl) dX7_readOther_19 ?_
  refine sw_if_ne (tgt := 39) dX7_readOther_22 rfl (fun h9 => absurd (by decide) h9) (fun _ => ?_)
  refine sw_ins (pc2 := 25) rfl rfl ?_
  refine sw_aload_n (i := 0) dX7_readOther_25 rfl rfl ?_
  refine sw_ic 1 dX7_readOther_26 ?_
  refine sw_bi 7 dX7_readOther_27 (by decide +kernel) ?_
  refine px_Vx mv_X7_135 (A1_X7_readDigit h (w := 1) (m := 7) (by decide) (by decide) g) rfl rfl (Nat.le_of_ble_eq_true rfl) (Nat.le_of_ble_eq_true rfl) ko_65 (Nat.le_of_ble_eq_true rfl) dX7_readOther_29 ?_
  refine sw_if_eq (tgt := 39) dX7_readOther_32 rfl (fun h9 => absurd h9 (by decide)) (fun _ => ?_)
  refine sw_ic 1 dX7_readOther_35 ?_
  refine sw_goto (tgt := 40) dX7_readOther_36 rfl ?_
  exact sw_zreturnE rfl rfl rfl dX7_readOther_40
set_option maxRecDepth 100000 in
set_option maxHeartbeats 4000000 in
theorem A0_X7_readOther {d : Nat → Nat → Int32} {r : Nat → Nat → Option Nat} {J : Nat → Nat → Int64} {f : Nat → Int32} {L p : Nat} (h : RT d f L p) {c : Nat} (ht : d 73 0 = nI (dn c)) (hc : dg8 c) (g : ¬ (48 ≤ sg f L p ∧ sg f L p ≤ 48 + 7)) (gn : ¬ sg f L p = c) : OP kX7_readOther yX7_readOther 3 [.ref 65] d r J (some (.int (nI 0))) (d2 (d2 d 73 1 (nI 0)) 65 10 (nI p)) r J := by
  refine op_of pl_X7_readOther (Nat.le_of_ble_eq_true rfl) ?_
  have hcc : 48 ≤ c ∧ c ≤ 55 := hc
  have hdn : 48 + dn c = c := by unfold dn; omega
  refine sw_aload_n (i := 0) dX7_readOther_0 rfl rfl ?_
  refine sw_bi 48 dX7_readOther_1 (by decide +kernel) ?_
  refine sw_aload_n (i := 0) dX7_readOther_3 rfl rfl ?_
  refine sx_getR (q := 73) f_X7_32 (by decide) kr_65_12 dX7_readOther_4 ?_
  refine sw_ic 0 dX7_readOther_7 ?_
  refine sx_ialdE (0) (nI (dn c)) ht rfl rfl (by omega) dX7_readOther_8 ?_
  refine sw_iadd dX7_readOther_9 ?_
  refine sw_topE (v := nI c) ((nI_add 48 (dn c)).trans (congrArg nI hdn)) ?_
  refine sw_ins (pc2 := 10) rfl rfl ?_
  refine sw_bi 48 dX7_readOther_10 (by decide +kernel) ?_
  refine sw_aload_n (i := 0) dX7_readOther_12 rfl rfl ?_
  refine sx_getR (q := 73) f_X7_32 (by decide) kr_65_12 dX7_readOther_13 ?_
  refine sw_ic 0 dX7_readOther_16 ?_
  refine sx_ialdE (0) (nI (dn c)) ht rfl rfl (by omega) dX7_readOther_17 ?_
  refine sw_iadd dX7_readOther_18 ?_
  refine sw_topE (v := nI c) ((nI_add 48 (dn c)).trans (congrArg nI hdn)) ?_
  refine px_Vx mv_X7_131 (A0_X7_isNext h (lo := c) (hi := c) (by omega) (by omega) (by omega)) rfl rfl (Nat.le_of_ble_eq_true rfl) (Nat.le_of_ble_eq_true rfl) ko_65 (Nat.le_of_ble_eq_true rfl) dX7_readOther_19 ?_
  refine sw_if_ne (tgt := 39) dX7_readOther_22 rfl (fun h9 => absurd (by decide) h9) (fun _ => ?_)
  refine sw_ins (pc2 := 25) rfl rfl ?_
  refine sw_aload_n (i := 0) dX7_readOther_25 rfl rfl ?_
  refine sw_ic 1 dX7_readOther_26 ?_
  refine sw_bi 7 dX7_readOther_27 (by decide +kernel) ?_
  refine px_Vx mv_X7_135 (A0_X7_readDigit h (w := 1) (m := 7) (by decide) (by decide) g) rfl rfl (Nat.le_of_ble_eq_true rfl) (Nat.le_of_ble_eq_true rfl) ko_65 (Nat.le_of_ble_eq_true rfl) dX7_readOther_29 ?_
  refine sw_if_eq (tgt := 39) dX7_readOther_32 rfl (fun _ => ?_) (fun h9 => absurd (by decide) h9)
  refine sw_ic 0 dX7_readOther_39 ?_
  exact sw_zreturnE rfl rfl rfl dX7_readOther_40
set_option maxRecDepth 100000 in
set_option maxHeartbeats 4000000 in
theorem A2_X7_readOther {d : Nat → Nat → Int32} {r : Nat → Nat → Option Nat} {J : Nat → Nat → Int64} {f : Nat → Int32} {L p : Nat} (h : RT d f L p) {c : Nat} (ht : d 73 0 = nI (dn c)) (hc : dg8 c) (gn : sg f L p = c) : OP kX7_readOther yX7_readOther 3 [.ref 65] d r J (some (.int (nI 0))) d r J := by
  refine op_of pl_X7_readOther (Nat.le_of_ble_eq_true rfl) ?_
  have hcc : 48 ≤ c ∧ c ≤ 55 := hc
  have hdn : 48 + dn c = c := by unfold dn; omega
  refine sw_aload_n (i := 0) dX7_readOther_0 rfl rfl ?_
  refine sw_bi 48 dX7_readOther_1 (by decide +kernel) ?_
  refine sw_aload_n (i := 0) dX7_readOther_3 rfl rfl ?_
  refine sx_getR (q := 73) f_X7_32 (by decide) kr_65_12 dX7_readOther_4 ?_
  refine sw_ic 0 dX7_readOther_7 ?_
  refine sx_ialdE (0) (nI (dn c)) ht rfl rfl (by omega) dX7_readOther_8 ?_
  refine sw_iadd dX7_readOther_9 ?_
  refine sw_topE (v := nI c) ((nI_add 48 (dn c)).trans (congrArg nI hdn)) ?_
  refine sw_ins (pc2 := 10) rfl rfl ?_
  refine sw_bi 48 dX7_readOther_10 (by decide +kernel) ?_
  refine sw_aload_n (i := 0) dX7_readOther_12 rfl rfl ?_
  refine sx_getR (q := 73) f_X7_32 (by decide) kr_65_12 dX7_readOther_13 ?_
  refine sw_ic 0 dX7_readOther_16 ?_
  refine sx_ialdE (0) (nI (dn c)) ht rfl rfl (by omega) dX7_readOther_17 ?_
  refine sw_iadd dX7_readOther_18 ?_
  refine sw_topE (v := nI c) ((nI_add 48 (dn c)).trans (congrArg nI hdn)) ?_
  refine px_Vx mv_X7_131 (A1_X7_isNext h (lo := c) (hi := c) (by omega) (by omega) ⟨by omega, by omega⟩) rfl rfl (Nat.le_of_ble_eq_true rfl) (Nat.le_of_ble_eq_true rfl) ko_65 (Nat.le_of_ble_eq_true rfl) dX7_readOther_19 ?_
  refine sw_if_ne (tgt := 39) dX7_readOther_22 rfl (fun _ => ?_) (fun h9 => absurd h9 (by decide))
  refine sw_ins (pc2 := 39) rfl rfl ?_
  refine sw_ic 0 dX7_readOther_39 ?_
  exact sw_zreturnE rfl rfl rfl dX7_readOther_40
set_option maxRecDepth 100000 in
set_option maxHeartbeats 4000000 in
theorem A0_X7_readSum {d : Nat → Nat → Int32} {r : Nat → Nat → Option Nat} {J : Nat → Nat → Int64} {f : Nat → Int32} {L p : Nat} (h : RT d f L p) (g : ¬ (49 ≤ sg f L p ∧ sg f L p ≤ 57)) : OP kX7_readSum yX7_readSum 2 [.ref 65] d r J (some (.int (nI 0))) d r J := by
  refine op_of pl_X7_readSum (Nat.le_of_ble_eq_true rfl) ?_
  refine sw_aload_n (i := 0) dX7_readSum_0 rfl rfl ?_
  refine sw_bi 49 dX7_readSum_1 (by decide +kernel) ?_
  refine sw_bi 57 dX7_readSum_3 (by decide +kernel) ?_
  refine px_Vx mv_X7_131 (A0_X7_isNext h (lo := 49) (hi := 57) (by decide) (by decide) g) rfl rfl (Nat.le_of_ble_eq_true rfl) (Nat.le_of_ble_eq_true rfl) ko_65 (Nat.le_of_ble_eq_true rfl) dX7_readSum_5 ?_
  refine sw_if_ne (tgt := 13) dX7_readSum_8 rfl (fun h9 => absurd (by decide) h9) (fun _ => ?_)
  refine sw_ic 0 dX7_readSum_11 ?_
  exact sw_zreturnE rfl rfl rfl dX7_readSum_12
set_option maxRecDepth 100000 in
set_option maxHeartbeats 4000000 in
theorem A1_X7_readSum {d : Nat → Nat → Int32} {r : Nat → Nat → Option Nat} {J : Nat → Nat → Int64} {f : Nat → Int32} {L p : Nat} (h : RT d f L p) (g : 49 ≤ sg f L p ∧ sg f L p ≤ 57) (g2 : ¬ (48 ≤ sg f L (p + 1) ∧ sg f L (p + 1) ≤ 57)) : OP kX7_readSum yX7_readSum 2 [.ref 65] d r J (some (.int (nI 1))) (d2 (d2 d 73 2 (nI (dn (sg f L p)))) 65 10 (nI (p + 1))) r J := by
  refine op_of pl_X7_readSum (Nat.le_of_ble_eq_true rfl) ?_
  have hpL : p < L := sg_L (f := f) (by omega)
  have h60 := RT_60 h
  have h2 : RT (d2 (d2 d 73 2 (nI (dn (sg f L p)))) 65 10 (nI (p + 1))) f L (p + 1) := RT_p (RT_t h) (by omega)
  refine sw_aload_n (i := 0) dX7_readSum_0 rfl rfl ?_
  refine sw_bi 49 dX7_readSum_1 (by decide +kernel) ?_
  refine sw_bi 57 dX7_readSum_3 (by decide +kernel) ?_
  refine px_Vx mv_X7_131 (A1_X7_isNext h (lo := 49) (hi := 57) (by decide) (by decide) g) rfl rfl (Nat.le_of_ble_eq_true rfl) (Nat.le_of_ble_eq_true rfl) ko_65 (Nat.le_of_ble_eq_true rfl) dX7_readSum_5 ?_
  refine sw_if_ne (tgt := 13) dX7_readSum_8 rfl (fun _ => ?_) (fun h9 => absurd h9 (by decide))
  refine sw_aload_n (i := 0) dX7_readSum_13 rfl rfl ?_
  refine sx_getR (q := 73) f_X7_32 (by decide) kr_65_12 dX7_readSum_14 ?_
  refine sw_ins (pc2 := 17) rfl rfl ?_
  refine sw_ic 2 dX7_readSum_17 ?_
  refine sw_aload_n (i := 0) dX7_readSum_18 rfl rfl ?_
  refine sx_getR (q := 70) f_X7_23 (by decide) kr_65_5 dX7_readSum_19 ?_
  refine sw_aload_n (i := 0) dX7_readSum_22 rfl rfl ?_
  refine sx_getIE (nI p) h.2.2.2.1 f_X7_128 (by decide) kf_65_10 dX7_readSum_23 ?_
  refine sx_ialdE (p) (nI (sg f L p)) (RT_x h hpL) rfl rfl (by omega) dX7_readSum_26 ?_
  refine sw_bi 48 dX7_readSum_27 (by decide +kernel) ?_
  refine sw_isub dX7_readSum_29 ?_
  refine sw_topE (v := nI (dn (sg f L p))) (pk_sub (by omega)) ?_
  refine sw_ins (pc2 := 30) rfl rfl ?_
  refine sx_iast (2) rfl rfl (by omega) dX7_readSum_30 ?_
  refine sw_aload_n (i := 0) dX7_readSum_31 rfl rfl ?_
  refine sw_dup dX7_readSum_32 rfl ?_
  refine sx_getIE (nI p) ((congrFun (d2_off d _ (by decide)) _).trans h.2.2.2.1) f_X7_128 (by decide) kf_65_10 dX7_readSum_33 ?_
  refine sw_ic 1 dX7_readSum_36 ?_
  refine sw_iadd dX7_readSum_37 ?_
  refine sw_topE (v := nI (p + 1)) (nI_1 p) ?_
  refine sx_putI fp_X7_128 (by decide) kf_65_10 dX7_readSum_38 ?_
  refine sw_aload_n (i := 0) dX7_readSum_41 rfl rfl ?_
  refine sw_ins (pc2 := 42) rfl rfl ?_
  refine sw_bi 48 dX7_readSum_42 (by decide +kernel) ?_
  refine sw_bi 57 dX7_readSum_44 (by decide +kernel) ?_
  refine px_Vx mv_X7_131 (A0_X7_isNext h2 (lo := 48) (hi := 57) (by decide) (by decide) g2) rfl rfl (Nat.le_of_ble_eq_true rfl) (Nat.le_of_ble_eq_true rfl) ko_65 (Nat.le_of_ble_eq_true rfl) dX7_readSum_46 ?_
  refine sw_if_eq (tgt := 90) dX7_readSum_49 rfl (fun _ => ?_) (fun h9 => absurd (by decide) h9)
  refine sw_ic 1 dX7_readSum_90 ?_
  exact sw_zreturnE rfl rfl rfl dX7_readSum_91
set_option maxRecDepth 100000 in
set_option maxHeartbeats 4000000 in
theorem A2_X7_readSum {d : Nat → Nat → Int32} {r : Nat → Nat → Option Nat} {J : Nat → Nat → Int64} {f : Nat → Int32} {L p : Nat} (h : RT d f L p) (g : 49 ≤ sg f L p ∧ sg f L p ≤ 57) (g2 : 48 ≤ sg f L (p + 1) ∧ sg f L (p + 1) ≤ 57) : OP kX7_readSum yX7_readSum 2 [.ref 65] d r J (some (.int (nI 1))) (d2 (d2 (d2 (d2 d 73 2 (nI (dn (sg f L p)))) 65 10 (nI (p + 1))) 73 2 (nI (10 * dn (sg f L p) + dn (sg f L (p + 1))))) 65 10 (nI (p + 2))) r J := by
  refine op_of pl_X7_readSum (Nat.le_of_ble_eq_true rfl) ?_
  have hpL : p < L := sg_L (f := f) (by omega)
  have h60 := RT_60 h
  have h2 : RT (d2 (d2 d 73 2 (nI (dn (sg f L p)))) 65 10 (nI (p + 1))) f L (p + 1) := RT_p (RT_t h) (by omega)
  have hpL2 : p + 1 < L := sg_L (f := f) (by omega)
  refine sw_aload_n (i := 0) dX7_readSum_0 rfl rfl ?_
  refine sw_bi 49 dX7_readSum_1 (by decide +kernel) ?_
  refine sw_bi 57 dX7_readSum_3 (by decide +kernel) ?_
  refine px_Vx mv_X7_131 (A1_X7_isNext h (lo := 49) (hi := 57) (by decide) (by decide) g) rfl rfl (Nat.le_of_ble_eq_true rfl) (Nat.le_of_ble_eq_true rfl) ko_65 (Nat.le_of_ble_eq_true rfl) dX7_readSum_5 ?_
  refine sw_if_ne (tgt := 13) dX7_readSum_8 rfl (fun _ => ?_) (fun h9 => absurd h9 (by decide))
  refine sw_aload_n (i := 0) dX7_readSum_13 rfl rfl ?_
  refine sx_getR (q := 73) f_X7_32 (by decide) kr_65_12 dX7_readSum_14 ?_
  refine sw_ins (pc2 := 17) rfl rfl ?_
  refine sw_ic 2 dX7_readSum_17 ?_
  refine sw_aload_n (i := 0) dX7_readSum_18 rfl rfl ?_
  refine sx_getR (q := 70) f_X7_23 (by decide) kr_65_5 dX7_readSum_19 ?_
  refine sw_aload_n (i := 0) dX7_readSum_22 rfl rfl ?_
  refine sx_getIE (nI p) h.2.2.2.1 f_X7_128 (by decide) kf_65_10 dX7_readSum_23 ?_
  refine sx_ialdE (p) (nI (sg f L p)) (RT_x h hpL) rfl rfl (by omega) dX7_readSum_26 ?_
  refine sw_bi 48 dX7_readSum_27 (by decide +kernel) ?_
  refine sw_isub dX7_readSum_29 ?_
  refine sw_topE (v := nI (dn (sg f L p))) (pk_sub (by omega)) ?_
  refine sw_ins (pc2 := 30) rfl rfl ?_
  refine sx_iast (2) rfl rfl (by omega) dX7_readSum_30 ?_
  refine sw_aload_n (i := 0) dX7_readSum_31 rfl rfl ?_
  refine sw_dup dX7_readSum_32 rfl ?_
  refine sx_getIE (nI p) ((congrFun (d2_off d _ (by decide)) _).trans h.2.2.2.1) f_X7_128 (by decide) kf_65_10 dX7_readSum_33 ?_
  refine sw_ic 1 dX7_readSum_36 ?_
  refine sw_iadd dX7_readSum_37 ?_
  refine sw_topE (v := nI (p + 1)) (nI_1 p) ?_
  refine sx_putI fp_X7_128 (by decide) kf_65_10 dX7_readSum_38 ?_
  refine sw_aload_n (i := 0) dX7_readSum_41 rfl rfl ?_
  refine sw_ins (pc2 := 42) rfl rfl ?_
  refine sw_bi 48 dX7_readSum_42 (by decide +kernel) ?_
  refine sw_bi 57 dX7_readSum_44 (by decide +kernel) ?_
  refine px_Vx mv_X7_131 (A1_X7_isNext h2 (lo := 48) (hi := 57) (by decide) (by decide) g2) rfl rfl (Nat.le_of_ble_eq_true rfl) (Nat.le_of_ble_eq_true rfl) ko_65 (Nat.le_of_ble_eq_true rfl) dX7_readSum_46 ?_
  refine sw_if_eq (tgt := 90) dX7_readSum_49 rfl (fun h9 => absurd h9 (by decide)) (fun _ => ?_)
  refine sw_aload_n (i := 0) dX7_readSum_52 rfl rfl ?_
  refine sx_getR (q := 73) f_X7_32 (by decide) kr_65_12 dX7_readSum_53 ?_
  refine sw_ic 2 dX7_readSum_56 ?_
  refine sw_bi 10 dX7_readSum_57 (by decide +kernel) ?_
  refine sw_ins (pc2 := 59) rfl rfl ?_
  refine sw_aload_n (i := 0) dX7_readSum_59 rfl rfl ?_
  refine sx_getR (q := 73) f_X7_32 (by decide) kr_65_12 dX7_readSum_60 ?_
  refine sw_ic 2 dX7_readSum_63 ?_
  refine sx_ialdE (2) (nI (dn (sg f L p))) rfl rfl rfl (by omega) dX7_readSum_64 ?_
  refine sw_imul dX7_readSum_65 ?_
  refine sw_aload_n (i := 0) dX7_readSum_66 rfl rfl ?_
  refine sx_getR (q := 70) f_X7_23 (by decide) kr_65_5 dX7_readSum_67 ?_
  refine sw_aload_n (i := 0) dX7_readSum_70 rfl rfl ?_
  refine sw_ins (pc2 := 71) rfl rfl ?_
  refine sx_getIE (nI (p + 1)) h2.2.2.2.1 f_X7_128 (by decide) kf_65_10 dX7_readSum_71 ?_
  refine sx_ialdE (p + 1) (nI (sg f L (p + 1))) (RT_x h2 hpL2) rfl rfl (by omega) dX7_readSum_74 ?_
  refine sw_iadd dX7_readSum_75 ?_
  refine sw_bi 48 dX7_readSum_76 (by decide +kernel) ?_
  refine sw_isub dX7_readSum_78 ?_
  refine sw_topE (v := nI (10 * dn (sg f L p) + dn (sg f L (p + 1)))) (by rw [pk_mul, nI_add, pk_sub (by omega)]; congr 1; unfold dn; omega) ?_
  refine sx_iast (2) rfl rfl (by omega) dX7_readSum_79 ?_
  refine sw_aload_n (i := 0) dX7_readSum_80 rfl rfl ?_
  refine sw_dup dX7_readSum_81 rfl ?_
  refine sw_ins (pc2 := 82) rfl rfl ?_
  refine sx_getIE (nI (p + 1)) ((congrFun (d2_off _ _ (by decide)) _).trans h2.2.2.2.1) f_X7_128 (by decide) kf_65_10 dX7_readSum_82 ?_
  refine sw_ic 1 dX7_readSum_85 ?_
  refine sw_iadd dX7_readSum_86 ?_
  refine sw_topE (v := nI (p + 2)) (nI_1 (p + 1)) ?_
  refine sx_putI fp_X7_128 (by decide) kf_65_10 dX7_readSum_87 ?_
  refine sw_ic 1 dX7_readSum_90 ?_
  exact sw_zreturnE rfl rfl rfl dX7_readSum_91
