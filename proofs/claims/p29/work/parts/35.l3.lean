/-! THE LAW'S METHODS, 3: storms, fulfils -/
/-- what the law knows of the class's state: in order, no promise overdue, the days few -/
def LI (D : Nat) (d : Nat → Nat → Int32) (r : Nat → Nat → Option Nat) : Prop := ∃ V n H S t T tl, RC d r V n H S t T tl ∧ IV V n H S t T tl ∧ dueV V ∧ dd V D
def hF (V : Nat → Int32) (k : Nat) : Nat → Int32 := fun q => if q < k then V (19 + q) else 0
def tF (V : Nat → Int32) (k : Nat) : Nat → Int32 := fun q => if q * 4 < k then nI (pth V q) else 0
theorem hF_0 (V : Nat → Int32) : (fun _ => 0) = hF V 0 := by
  funext q
  exact (if_neg (by omega)).symm
theorem tF_0 (V : Nat → Int32) : (fun _ => 0) = tF V 0 := by
  funext q
  exact (if_neg (by omega)).symm
theorem hF_s (V : Nat → Int32) (k : Nat) : upd (hF V k) k (V (19 + (k / 4 * 4 + k % 4))) = hF V (k + 1) := by
  funext q
  by_cases e : q = k
  · subst e
    rw [upd_eq, show q / 4 * 4 + q % 4 = q by omega]
    exact (if_pos (by omega)).symm
  · rw [upd_ne _ _ e]
    unfold hF
    by_cases h : q < k
    · rw [if_pos h, if_pos (by omega)]
    · rw [if_neg h, if_neg (by omega)]
theorem tF_s (V : Nat → Int32) (k : Nat) : upd (tF V k) (k / 4) (nI (alg V (k / 4) 1)) = tF V (k + 1) := by
  funext q
  by_cases e : q = k / 4
  · subst e
    rw [upd_eq]
    exact (if_pos (by omega)).symm
  · rw [upd_ne _ _ e]
    unfold tF
    by_cases h : q * 4 < k
    · rw [if_pos h, if_pos (by omega)]
    · rw [if_neg h, if_neg (by omega)]
theorem hF_at (V : Nat → Int32) {k : Nat} (h : k < 32) : hF V 32 k = V (19 + k) := if_pos h
theorem tF_at (V : Nat → Int32) {q : Nat} (h : q < 8) : tF V 32 q = nI (pth V q) := if_pos (by omega)
def X2 (z : Nat → am_E) (f g : Nat → Int32) : Nat → am_E := am_up (am_up z 65 (am_I .int 32 f)) 66 (am_I .int 8 g)
theorem X2_at (z : Nat → am_E) (f g : Nat → Int32) : X2 z f g 65 = am_I .int 32 f := (am_up_ne _ _ (by decide)).trans (am_up_eq _ _ _)
theorem X2_at2 (z : Nat → am_E) (f g : Nat → Int32) : X2 z f g 66 = am_I .int 8 g := am_up_eq _ _ _
theorem X2_up (z : Nat → am_E) (f g f2 : Nat → Int32) : am_up (X2 z f g) 65 (am_I .int 32 f2) = X2 z f2 g := by
  funext k
  unfold X2
  by_cases e : k = 65
  · subst e
    rw [am_up_eq, am_up_ne _ _ (by decide), am_up_eq]
  · by_cases e2 : k = 66
    · subst e2
      rw [am_up_ne _ _ (by decide), am_up_eq, am_up_eq]
    · rw [am_up_ne _ _ e, am_up_ne _ _ e2, am_up_ne _ _ e, am_up_ne _ _ e2, am_up_ne _ _ e]
theorem X2_up2 (z : Nat → am_E) (f g g2 : Nat → Int32) : am_up (X2 z f g) 66 (am_I .int 8 g2) = X2 z f g2 := am_up_up _ _ _ _
theorem cap4 (a0 a1 a2 a3 z f e t : Nat) : nI 0 - nI a0 - nI a1 - nI a2 - nI a3 + nI (a0 + z) + nI (a1 + f) + nI (a2 + e) + nI (a3 + t) = nI (t + e + f + z) := by
  have e1 : nI 0 - nI a0 - nI a1 - nI a2 - nI a3 = nI 0 - nI (a0 + (a1 + (a2 + a3))) := by rw [am_ss, am_ss, am_ss, nI_add, nI_add, nI_add]
  rw [e1, Int32.add_assoc, Int32.add_assoc, Int32.add_assoc, nI_add, nI_add, nI_add, show a0 + z + (a1 + f + (a2 + e + (a3 + t))) = a0 + (a1 + (a2 + a3)) + (t + e + f + z) by omega, ← nI_add (a0 + (a1 + (a2 + a3))), ← Int32.add_assoc, Int32.sub_add_cancel, i_z]
theorem nday {V : Nat → Int32} (h : nv V 0 < 9999) (ok : okV V) : ¬ nI 9999 ≤ V 0 := by
  rw [ok.2.2.2.2.2.1.1]
  exact nI_ge h (by decide)
theorem dcn_le (V : Nat → Int32) (x : Int32) : ∀ n, dcn V x n ≤ n
  | 0 => Nat.le_refl _
  | n + 1 => by
    rw [dcn_s]
    have := dcn_le V x n
    by_cases c : V (51 + (n * 4 + 3)) = x
    · rw [if_pos c]; omega
    · rw [if_neg c]; omega
set_option maxRecDepth 100000 in
set_option maxHeartbeats 4000000 in
theorem A_L_storms {d : Nat → Nat → Int32} {r : Nat → Nat → Option Nat} {J : Nat → Nat → Int64} {V : Nat → Int32} {n : Nat} {H S : Nat → Nat → Int32} {t : Nat → Bool} {T : Nat → Int32} {tl : Nat} (h : RC d r V n H S t T tl) (iv : IV V n H S t T tl) {D : Nat} (hd : dueV V) (hD : dd V D) (hD9 : D ≤ 200) : ∃ d1 r1, OB kL_storms yL_storms 8 [.ref 0] d r J (some (.int (nI 1))) d1 r1 J 2 40 ∧ LI (D + 1) d1 r1 := by
  obtain ⟨okP, okM, okT9, okC, okW, okD⟩ := id iv.1
  have hm8 := okM.2
  have hmn : cnt V n 3 = nI (nv V 1) := okM.1
  have hd1 := hD.1
  have hd9 : nv V 0 < 9999 := by omega
  obtain ⟨s1, s2, s3⟩ := sV_told iv.1 hd hd9
  obtain ⟨g1, g2, g3⟩ := sV_ok iv.1 hd9
  have s4 := sV_broken V
  have iv2 : IV (sV V) (psN n) (psH H n V) S t T tl := IV_push (rc6 h) iv g1 trivial
  obtain ⟨zz, hzz⟩ : ∃ zz, zz = W0 d r J := ⟨_, rfl⟩
  have hcl : ∀ d : Nat → Nat → Int32, fr_clo 65 (W0 d r J) := fun d => fr_W0 h.1 h.2.2.1
  obtain ⟨tld, htld⟩ : ∃ tld, tld = (brk (stm V)).2 := ⟨_, rfl⟩
  rw [← htld] at s1 s2 s4
  have K3 : ∀ k, k ≤ 32 → ∀ d r, RC d r (sV V) (psN n) (psH H n V) S t T tl → ∃ d1 r1, SW yL_storms cL_storms 9 (some .boolean) [] 8 none 129 [some (.ref 0), some (.ref 65), some (.ref 66), some (.int (V 4)), some (.int (nI (nv V 1))), some (.int (V 0)), some (.int (nI (dcn V (V 0) (nv V 1)))), some (.int (nI tld)), some (.int (nI k))] [] 67 (WX d r J (X2 zz (hF V 32) (tF V 32))) 0 0 (.inl (some (.int (nI 1)))) 67 (WX d1 r1 J (X2 zz (hF V 32) (tF V 32))) ∧ RC d1 r1 (sV V) (psN n) (psH H n V) S t T tl := by
    refine am_loop (32) ?_ ?_
    · intro d r h
      have hcl : ∀ d : Nat → Nat → Int32, fr_clo 65 (W0 d r J) := fun d => fr_W0 h.1 h.2.2.1
      obtain ⟨e1, x1, y1, -⟩ := C_count (J := J) (k := 6) h iv2 (by decide)
      obtain ⟨e2, x2, y2, -⟩ := C_count (J := J) (k := 3) y1 iv2 (by decide)
      obtain ⟨e3, x3, y3, -⟩ := C_count (J := J) (k := 0) y2 iv2 (by decide)
      refine ⟨e3, r, ?_, y3⟩
      refine sw_iload (i := 8) dL_storms_129 rfl ?_
      refine sw_bi 32 dL_storms_131 (by decide +kernel) ?_
      refine sw_ic_ge (tgt := 165) dL_storms_133 rfl (fun _ => ?_) (fun h9 => absurd (nI_le (Nat.le_refl _) (by decide)) h9)
      refine sw_iload (i := 7) dL_storms_165 rfl ?_
      refine sw_iload (i := 6) dL_storms_167 rfl ?_
      refine sw_ic_ne (tgt := 214) dL_storms_169 rfl (fun h9 => absurd (by rw [s1]) h9) (fun _ => ?_)
      refine sw_aload_n (i := 0) dL_storms_172 rfl rfl ?_
      refine sw_ins (pc2 := 173) rfl rfl ?_
      refine sw_bi 6 dL_storms_173 (by decide +kernel) ?_
      refine px_VF mv_L_34 x1 (hcl _) (by decide) rfl rfl rfl rfl (Nat.le_of_ble_eq_true rfl) (Nat.le_of_ble_eq_true rfl) ko_0 (Nat.le_of_ble_eq_true rfl) dL_storms_175 ?_
      refine sw_iload_n (i := 3) dL_storms_178 rfl rfl ?_
      refine sw_iload (i := 7) dL_storms_179 rfl ?_
      refine sw_iadd dL_storms_181 ?_
      refine sw_ic_ne (tgt := 214) dL_storms_182 rfl (fun h9 => absurd s4 h9) (fun _ => ?_)
      refine sw_aload_n (i := 0) dL_storms_185 rfl rfl ?_
      refine sw_ic 3 dL_storms_186 ?_
      refine sw_ins (pc2 := 187) rfl rfl ?_
      refine px_VF mv_L_34 x2 (hcl _) (by decide) rfl rfl rfl rfl (Nat.le_of_ble_eq_true rfl) (Nat.le_of_ble_eq_true rfl) ko_0 (Nat.le_of_ble_eq_true rfl) dL_storms_187 ?_
      refine sw_iload (i := 4) dL_storms_190 rfl ?_
      refine sw_iload (i := 7) dL_storms_192 rfl ?_
      refine sw_isub dL_storms_194 ?_
      refine sw_ic_ne (tgt := 214) dL_storms_195 rfl (fun h9 => absurd (by show sV V 1 = _; rw [s3, pk_sub (by omega)]; congr 1; omega) h9) (fun _ => ?_)
      refine sw_aload_n (i := 0) dL_storms_198 rfl rfl ?_
      refine sw_ic 0 dL_storms_199 ?_
      refine px_VF mv_L_34 x3 (hcl _) (by decide) rfl rfl rfl rfl (Nat.le_of_ble_eq_true rfl) (Nat.le_of_ble_eq_true rfl) ko_0 (Nat.le_of_ble_eq_true rfl) dL_storms_200 ?_
      refine sw_ins (pc2 := 203) rfl rfl ?_
      refine sw_iload (i := 5) dL_storms_203 rfl ?_
      refine sw_ic 1 dL_storms_205 ?_
      refine sw_iadd dL_storms_206 ?_
      refine sw_ic_ne (tgt := 214) dL_storms_207 rfl (fun h9 => absurd g3 h9) (fun _ => ?_)
      refine sw_ic 1 dL_storms_210 ?_
      refine sw_goto (tgt := 215) dL_storms_211 rfl ?_
      exact sw_zreturnE rfl rfl rfl dL_storms_215
    · intro k hk ihk d r h
      have hcl : ∀ d : Nat → Nat → Int32, fr_clo 65 (W0 d r J) := fun d => fr_W0 h.1 h.2.2.1
      have hpq := okP.1 (k / 4) (by omega)
      have hmv : sV V (19 + (pth V (k / 4) * 4 + k % 4)) = V (19 + k) := (sV_move okP (i := k / 4) (c := k % 4) (by omega) (by omega)).trans (by rw [show k / 4 * 4 + k % 4 = k by omega])
      obtain ⟨e1, x1, y1, -⟩ := C_caps (J := J) (a := pth V (k / 4)) (c := k % 4) h iv2 hpq.2 (by omega)
      obtain ⟨d1, r1, z1, z2⟩ := ihk e1 r y1
      refine ⟨d1, r1, ?_, z2⟩
      refine sw_iload (i := 8) dL_storms_129 rfl ?_
      refine sw_bi 32 dL_storms_131 (by decide +kernel) ?_
      refine sw_ic_ge (tgt := 165) dL_storms_133 rfl (fun h9 => absurd h9 (nI_ge hk (by decide))) (fun _ => ?_)
      refine sw_aload_n (i := 0) dL_storms_136 rfl rfl ?_
      refine sw_aload_n (i := 2) dL_storms_137 rfl rfl ?_
      refine sw_iload (i := 8) dL_storms_138 rfl ?_
      refine sw_ic 4 dL_storms_140 ?_
      refine sw_ins (pc2 := 141) rfl rfl ?_
      refine sw_idiv (by decide) dL_storms_141 ?_
      refine sw_topE (v := nI (k / 4)) (pk_div (by omega) (by decide) (by decide)) ?_
      refine px_ald (k / 4) (nI (pth V (k / 4))) (tF_at V (by omega)) (X2_at2 _ _ _) (by decide) (by decide) rfl (by omega) (by decide) dL_storms_142 ?_
      refine sw_iload (i := 8) dL_storms_143 rfl ?_
      refine sw_ic 4 dL_storms_145 ?_
      refine sw_irem (by decide) dL_storms_146 ?_
      refine sw_topE (v := nI (k % 4)) (pk_rem (by omega) (by decide) (by decide)) ?_
      refine px_VF mv_L_24 x1 (hcl _) (by decide) rfl rfl rfl rfl (Nat.le_of_ble_eq_true rfl) (Nat.le_of_ble_eq_true rfl) ko_0 (Nat.le_of_ble_eq_true rfl) dL_storms_147 ?_
      refine sw_aload_n (i := 1) dL_storms_150 rfl rfl ?_
      refine sw_iload (i := 8) dL_storms_151 rfl ?_
      refine sw_ins (pc2 := 153) rfl rfl ?_
      refine px_ald (k) (V (19 + k)) (hF_at V hk) (X2_at _ _ _) (by decide) (by decide) rfl hk (by decide) dL_storms_153 ?_
      refine sw_ic_eq (tgt := 159) dL_storms_154 rfl (fun _ => ?_) (fun h9 => absurd hmv h9)
      refine sw_iinc (i := 8) (v := nI (k + 1)) dL_storms_159 rfl (nI_1 _) (Nat.le_of_ble_eq_true rfl) rfl ?_
      refine sw_lo (lo2 := [some (.ref 0), some (.ref 65), some (.ref 66), some (.int _), some (.int _), some (.int _), some (.int _), some (.int _), some (.int _)]) rfl ?_
      refine sw_goto (tgt := 129) dL_storms_162 rfl ?_
      refine sw_sub ?_ z1
      exact ⟨rfl, rfl, rfl, rfl, rfl, rfl, rfl, rfl, rfl, trivial⟩
  have K2 : ∀ k, k ≤ nv V 1 → ∀ d, RC d r V n H S t T tl → ∃ d1 r1, SW yL_storms cL_storms 9 (some .boolean) [] 8 none 85 [some (.ref 0), some (.ref 65), some (.ref 66), some (.int (V 4)), some (.int (nI (nv V 1))), some (.int (V 0)), some (.int (nI (dcn V (V 0) k))), some (.int (nI k)), none] [] 67 (WX d r J (X2 zz (hF V 32) (tF V 32))) 0 0 (.inl (some (.int (nI 1)))) 67 (WX d1 r1 J (X2 zz (hF V 32) (tF V 32))) ∧ RC d1 r1 (sV V) (psN n) (psH H n V) S t T tl := by
    refine am_loop (nv V 1) ?_ ?_
    · intro d h
      obtain ⟨e1, r1, x1, y1, -⟩ := C_storm (J := J) h iv (nday hd9 iv.1)
      rw [← htld] at x1
      obtain ⟨d1, r2, z1, z2⟩ := K3 0 (Nat.zero_le _) e1 r1 y1
      refine ⟨d1, r2, ?_, z2⟩
      refine sw_iload (i := 7) dL_storms_85 rfl ?_
      refine sw_iload (i := 4) dL_storms_87 rfl ?_
      refine sw_ic_ge (tgt := 120) dL_storms_89 rfl (fun _ => ?_) (fun h9 => absurd (nI_le (Nat.le_refl _) (by omega)) h9)
      refine sw_aload_n (i := 0) dL_storms_120 rfl rfl ?_
      refine px_VF mv_L_50 x1 (hcl _) (by decide) rfl rfl rfl rfl (Nat.le_of_ble_eq_true rfl) (Nat.le_of_ble_eq_true rfl) ko_0 (Nat.le_of_ble_eq_true rfl) dL_storms_121 ?_
      refine sw_istore (i := 7) dL_storms_124 (Nat.le_of_ble_eq_true rfl) rfl ?_
      refine sw_lo (lo2 := [some (.ref 0), some (.ref 65), some (.ref 66), some (.int _), some (.int _), some (.int _), some (.int _), some (.int _), none]) rfl ?_
      refine sw_ic 0 dL_storms_126 ?_
      refine sw_ins (pc2 := 127) rfl rfl ?_
      refine sw_istore (i := 8) dL_storms_127 (Nat.le_of_ble_eq_true rfl) rfl ?_
      refine sw_lo (lo2 := [some (.ref 0), some (.ref 65), some (.ref 66), some (.int _), some (.int _), some (.int _), some (.int _), some (.int _), some (.int _)]) rfl ?_
      refine sw_sub ?_ z1
      exact ⟨rfl, rfl, rfl, rfl, rfl, rfl, rfl, rfl, rfl, trivial⟩
    · intro k hk ihk d h
      have hdl : dcn V (V 0) k ≤ k := dcn_le V (V 0) k
      obtain ⟨e1, x1, y1, -⟩ := C_promiseOf (J := J) (q := k) (k := 3) h iv hk (by decide)
      obtain ⟨d1, r1, z1, z2⟩ := ihk e1 y1
      refine ⟨d1, r1, ?_, z2⟩
      by_cases c : V (51 + (k * 4 + 3)) = V 0
      · rw [dcn_s, if_pos c] at z1
        refine sw_iload (i := 7) dL_storms_85 rfl ?_
        refine sw_iload (i := 4) dL_storms_87 rfl ?_
        refine sw_ic_ge (tgt := 120) dL_storms_89 rfl (fun h9 => absurd h9 (nI_ge hk (by omega))) (fun _ => ?_)
        refine sw_iload (i := 6) dL_storms_92 rfl ?_
        refine sw_aload_n (i := 0) dL_storms_94 rfl rfl ?_
        refine sw_iload (i := 7) dL_storms_95 rfl ?_
        refine sw_ic 3 dL_storms_97 ?_
        refine sw_ins (pc2 := 98) rfl rfl ?_
        refine px_VF mv_L_41 x1 (hcl _) (by decide) rfl rfl rfl rfl (Nat.le_of_ble_eq_true rfl) (Nat.le_of_ble_eq_true rfl) ko_0 (Nat.le_of_ble_eq_true rfl) dL_storms_98 ?_
        refine sw_iload (i := 5) dL_storms_101 rfl ?_
        refine sw_ic_ne (tgt := 110) dL_storms_103 rfl (fun h9 => absurd c h9) (fun _ => ?_)
        refine sw_ic 1 dL_storms_106 ?_
        refine sw_goto (tgt := 111) dL_storms_107 rfl ?_
        refine sw_iadd dL_storms_111 ?_
        refine sw_topE (v := nI (dcn V (V 0) k + 1)) (nI_add _ _) ?_
        refine sw_istore (i := 6) dL_storms_112 (Nat.le_of_ble_eq_true rfl) rfl ?_
        refine sw_lo (lo2 := [some (.ref 0), some (.ref 65), some (.ref 66), some (.int _), some (.int _), some (.int _), some (.int _), some (.int _), none]) rfl ?_
        refine sw_iinc (i := 7) (v := nI (k + 1)) dL_storms_114 rfl (nI_1 _) (Nat.le_of_ble_eq_true rfl) rfl ?_
        refine sw_lo (lo2 := [some (.ref 0), some (.ref 65), some (.ref 66), some (.int _), some (.int _), some (.int _), some (.int _), some (.int _), none]) rfl ?_
        refine sw_ins (pc2 := 117) rfl rfl ?_
        refine sw_goto (tgt := 85) dL_storms_117 rfl ?_
        refine sw_sub ?_ z1
        exact ⟨rfl, rfl, rfl, rfl, rfl, rfl, rfl, rfl, trivial⟩
      · rw [dcn_s, if_neg c] at z1
        refine sw_iload (i := 7) dL_storms_85 rfl ?_
        refine sw_iload (i := 4) dL_storms_87 rfl ?_
        refine sw_ic_ge (tgt := 120) dL_storms_89 rfl (fun h9 => absurd h9 (nI_ge hk (by omega))) (fun _ => ?_)
        refine sw_iload (i := 6) dL_storms_92 rfl ?_
        refine sw_aload_n (i := 0) dL_storms_94 rfl rfl ?_
        refine sw_iload (i := 7) dL_storms_95 rfl ?_
        refine sw_ic 3 dL_storms_97 ?_
        refine sw_ins (pc2 := 98) rfl rfl ?_
        refine px_VF mv_L_41 x1 (hcl _) (by decide) rfl rfl rfl rfl (Nat.le_of_ble_eq_true rfl) (Nat.le_of_ble_eq_true rfl) ko_0 (Nat.le_of_ble_eq_true rfl) dL_storms_98 ?_
        refine sw_iload (i := 5) dL_storms_101 rfl ?_
        refine sw_ic_ne (tgt := 110) dL_storms_103 rfl (fun _ => ?_) (fun h9 => absurd h9 c)
        refine sw_ic 0 dL_storms_110 ?_
        refine sw_iadd dL_storms_111 ?_
        refine sw_topE (v := nI (dcn V (V 0) k)) (nI_add _ _) ?_
        refine sw_istore (i := 6) dL_storms_112 (Nat.le_of_ble_eq_true rfl) rfl ?_
        refine sw_lo (lo2 := [some (.ref 0), some (.ref 65), some (.ref 66), some (.int _), some (.int _), some (.int _), some (.int _), some (.int _), none]) rfl ?_
        refine sw_iinc (i := 7) (v := nI (k + 1)) dL_storms_114 rfl (nI_1 _) (Nat.le_of_ble_eq_true rfl) rfl ?_
        refine sw_lo (lo2 := [some (.ref 0), some (.ref 65), some (.ref 66), some (.int _), some (.int _), some (.int _), some (.int _), some (.int _), none]) rfl ?_
        refine sw_goto (tgt := 85) dL_storms_117 rfl ?_
        refine sw_sub ?_ z1
        exact ⟨rfl, rfl, rfl, rfl, rfl, rfl, rfl, rfl, trivial⟩
  have K1 : ∀ k, k ≤ 32 → ∀ d, RC d r V n H S t T tl → ∃ d1 r1, SW yL_storms cL_storms 9 (some .boolean) [] 8 none 37 [some (.ref 0), some (.ref 65), some (.ref 66), some (.int (V 4)), some (.int (nI (nv V 1))), some (.int (V 0)), some (.int (nI 0)), some (.int (nI k)), none] [] 67 (WX d r J (X2 zz (hF V k) (tF V k))) 0 0 (.inl (some (.int (nI 1)))) 67 (WX d1 r1 J (X2 zz (hF V 32) (tF V 32))) ∧ RC d1 r1 (sV V) (psN n) (psH H n V) S t T tl := by
    refine am_loop (32) ?_ ?_
    · intro d h
      obtain ⟨d1, r1, z1, z2⟩ := K2 0 (Nat.zero_le _) d h
      refine ⟨d1, r1, ?_, z2⟩
      refine sw_iload (i := 7) dL_storms_37 rfl ?_
      refine sw_bi 32 dL_storms_39 (by decide +kernel) ?_
      refine sw_ic_ge (tgt := 82) dL_storms_41 rfl (fun _ => ?_) (fun h9 => absurd (nI_le (Nat.le_refl _) (by decide)) h9)
      refine sw_ic 0 dL_storms_82 ?_
      refine sw_istore (i := 7) dL_storms_83 (Nat.le_of_ble_eq_true rfl) rfl ?_
      refine sw_lo (lo2 := [some (.ref 0), some (.ref 65), some (.ref 66), some (.int _), some (.int _), some (.int _), some (.int _), some (.int _), none]) rfl ?_
      refine sw_sub ?_ z1
      exact ⟨rfl, rfl, rfl, rfl, rfl, rfl, rfl, rfl, trivial⟩
    · intro k hk ihk d h
      obtain ⟨e1, x1, y1, -⟩ := C_caps (J := J) (a := k / 4) (c := k % 4) h iv (by omega) (by omega)
      obtain ⟨e2, x2, y2, -⟩ := C0_where (J := J) (a := k / 4) (k := 1) y1 iv (by omega) (by decide)
      obtain ⟨d1, r1, z1, z2⟩ := ihk e2 y2
      refine ⟨d1, r1, ?_, z2⟩
      refine sw_iload (i := 7) dL_storms_37 rfl ?_
      refine sw_bi 32 dL_storms_39 (by decide +kernel) ?_
      refine sw_ic_ge (tgt := 82) dL_storms_41 rfl (fun h9 => absurd h9 (nI_ge hk (by decide))) (fun _ => ?_)
      refine sw_aload_n (i := 1) dL_storms_44 rfl rfl ?_
      refine sw_iload (i := 7) dL_storms_45 rfl ?_
      refine sw_aload_n (i := 0) dL_storms_47 rfl rfl ?_
      refine sw_iload (i := 7) dL_storms_48 rfl ?_
      refine sw_ins (pc2 := 50) rfl rfl ?_
      refine sw_ic 4 dL_storms_50 ?_
      refine sw_idiv (by decide) dL_storms_51 ?_
      refine sw_topE (v := nI (k / 4)) (pk_div (by omega) (by decide) (by decide)) ?_
      refine sw_iload (i := 7) dL_storms_52 rfl ?_
      refine sw_ic 4 dL_storms_54 ?_
      refine sw_irem (by decide) dL_storms_55 ?_
      refine sw_topE (v := nI (k % 4)) (pk_rem (by omega) (by decide) (by decide)) ?_
      refine px_VF mv_L_24 x1 (hcl _) (by decide) rfl rfl rfl rfl (Nat.le_of_ble_eq_true rfl) (Nat.le_of_ble_eq_true rfl) ko_0 (Nat.le_of_ble_eq_true rfl) dL_storms_56 ?_
      refine px_ast (k) (X2 zz (hF V (k + 1)) (tF V k)) (X2_at _ _ _) (by rw [X2_up, hF_s]) (by decide) (by decide) rfl hk (by decide) dL_storms_59 ?_
      refine sw_aload_n (i := 2) dL_storms_60 rfl rfl ?_
      refine sw_ins (pc2 := 61) rfl rfl ?_
      refine sw_iload (i := 7) dL_storms_61 rfl ?_
      refine sw_ic 4 dL_storms_63 ?_
      refine sw_idiv (by decide) dL_storms_64 ?_
      refine sw_topE (v := nI (k / 4)) (pk_div (by omega) (by decide) (by decide)) ?_
      refine sw_aload_n (i := 0) dL_storms_65 rfl rfl ?_
      refine sw_iload (i := 7) dL_storms_66 rfl ?_
      refine sw_ic 4 dL_storms_68 ?_
      refine sw_idiv (by decide) dL_storms_69 ?_
      refine sw_topE (v := nI (k / 4)) (pk_div (by omega) (by decide) (by decide)) ?_
      refine sw_ic 1 dL_storms_70 ?_
      refine sw_ins (pc2 := 71) rfl rfl ?_
      refine sw_ic 0 dL_storms_71 ?_
      refine px_VF mv_L_30 x2 (hcl _) (by decide) rfl rfl rfl rfl (Nat.le_of_ble_eq_true rfl) (Nat.le_of_ble_eq_true rfl) ko_0 (Nat.le_of_ble_eq_true rfl) dL_storms_72 ?_
      refine px_ast (k / 4) (X2 zz (hF V (k + 1)) (tF V (k + 1))) (X2_at2 _ _ _) (by rw [X2_up2, tF_s]) (by decide) (by decide) rfl (by omega) (by decide) dL_storms_75 ?_
      refine sw_iinc (i := 7) (v := nI (k + 1)) dL_storms_76 rfl (nI_1 _) (Nat.le_of_ble_eq_true rfl) rfl ?_
      refine sw_lo (lo2 := [some (.ref 0), some (.ref 65), some (.ref 66), some (.int _), some (.int _), some (.int _), some (.int _), some (.int _), none]) rfl ?_
      refine sw_goto (tgt := 37) dL_storms_79 rfl ?_
      refine sw_sub ?_ z1
      exact ⟨rfl, rfl, rfl, rfl, rfl, rfl, rfl, rfl, trivial⟩
  obtain ⟨e1, x1, y1, -⟩ := C_count (J := J) (k := 6) h iv (by decide)
  obtain ⟨e2, x2, y2, -⟩ := C_count (J := J) (k := 3) y1 iv (by decide)
  rw [hmn] at x2
  obtain ⟨e3, x3, y3, -⟩ := C_count (J := J) (k := 0) y2 iv (by decide)
  obtain ⟨d1, r1, z1, z2⟩ := K1 0 (Nat.zero_le _) e3 y3
  have hcl2 : fr_clo 65 (W0 d1 r1 J) := fr_W0 z2.1 z2.2.2.1
  refine ⟨d1, r1, fr_of (N := 65) (NN := 67) (aw' := WX d1 r1 J (X2 zz (hF V 32) (tF V 32))) (fun x hx => by cases hx; rfl) (by decide) (fun k hk => WX_in hk) hcl2 pl_L_storms (Nat.le_of_ble_eq_true rfl) ?_, ⟨_, _, _, _, _, _, _, z2, iv2, due_brs (ok_stm iv.1 hd9).1, dd_storm iv.1 (nday hd9 iv.1) hD⟩⟩
  have hw0 : am_up (am_up (W0 d r J) 65 (am_I .int 32 (fun _ => 0))) 66 (am_I .int 8 (fun _ => 0)) = WX d r J (X2 zz (hF V 0) (tF V 0)) := by
    rw [WX_0 (c := 65) (by decide), WX_up (by decide), ← hzz, show X2 zz (hF V 0) (tF V 0) = X2 zz (fun _ => 0) (fun _ => 0) by rw [← hF_0, ← tF_0]]
    rfl
  refine sw_bi 32 dL_storms_0 (by decide +kernel) ?_
  refine sw_newI (k2 := 1) (n2 := 8) ac_i rfl (fun _ => rfl) (nn := 32) rfl (by decide) (by decide) (by decide) (by decide) (by decide) dL_storms_2 ?_
  refine sw_astore_n (i := 1) dL_storms_4 rfl (Nat.le_of_ble_eq_true rfl) rfl ?_
  refine sw_lo (lo2 := [some (.ref 0), some (.ref 65), none, none, none, none, none, none, none]) rfl ?_
  refine sw_bi 8 dL_storms_5 (by decide +kernel) ?_
  refine sw_newI (k2 := 0) (n2 := 0) ac_i rfl (fun _ => rfl) (nn := 8) rfl (by decide) (by decide) (by decide) (by decide) (by decide) dL_storms_7 ?_
  refine sw_weq hw0 ?_
  refine sw_astore_n (i := 2) dL_storms_9 rfl (Nat.le_of_ble_eq_true rfl) rfl ?_
  refine sw_lo (lo2 := [some (.ref 0), some (.ref 65), some (.ref 66), none, none, none, none, none, none]) rfl ?_
  refine sw_aload_n (i := 0) dL_storms_10 rfl rfl ?_
  refine sw_ins (pc2 := 11) rfl rfl ?_
  refine sw_bi 6 dL_storms_11 (by decide +kernel) ?_
  refine px_VF mv_L_34 x1 (hcl _) (by decide) rfl rfl rfl rfl (Nat.le_of_ble_eq_true rfl) (Nat.le_of_ble_eq_true rfl) ko_0 (Nat.le_of_ble_eq_true rfl) dL_storms_13 ?_
  refine sw_istore_n (i := 3) dL_storms_16 rfl (Nat.le_of_ble_eq_true rfl) rfl ?_
  refine sw_lo (lo2 := [some (.ref 0), some (.ref 65), some (.ref 66), some (.int _), none, none, none, none, none]) rfl ?_
  refine sw_aload_n (i := 0) dL_storms_17 rfl rfl ?_
  refine sw_ic 3 dL_storms_18 ?_
  refine px_VF mv_L_34 x2 (hcl _) (by decide) rfl rfl rfl rfl (Nat.le_of_ble_eq_true rfl) (Nat.le_of_ble_eq_true rfl) ko_0 (Nat.le_of_ble_eq_true rfl) dL_storms_19 ?_
  refine sw_istore (i := 4) dL_storms_22 (Nat.le_of_ble_eq_true rfl) rfl ?_
  refine sw_lo (lo2 := [some (.ref 0), some (.ref 65), some (.ref 66), some (.int _), some (.int _), none, none, none, none]) rfl ?_
  refine sw_aload_n (i := 0) dL_storms_24 rfl rfl ?_
  refine sw_ins (pc2 := 25) rfl rfl ?_
  refine sw_ic 0 dL_storms_25 ?_
  refine px_VF mv_L_34 x3 (hcl _) (by decide) rfl rfl rfl rfl (Nat.le_of_ble_eq_true rfl) (Nat.le_of_ble_eq_true rfl) ko_0 (Nat.le_of_ble_eq_true rfl) dL_storms_26 ?_
  refine sw_istore (i := 5) dL_storms_29 (Nat.le_of_ble_eq_true rfl) rfl ?_
  refine sw_lo (lo2 := [some (.ref 0), some (.ref 65), some (.ref 66), some (.int _), some (.int _), some (.int _), none, none, none]) rfl ?_
  refine sw_ic 0 dL_storms_31 ?_
  refine sw_istore (i := 6) dL_storms_32 (Nat.le_of_ble_eq_true rfl) rfl ?_
  refine sw_lo (lo2 := [some (.ref 0), some (.ref 65), some (.ref 66), some (.int _), some (.int _), some (.int _), some (.int _), none, none]) rfl ?_
  refine sw_ic 0 dL_storms_34 ?_
  refine sw_istore (i := 7) dL_storms_35 (Nat.le_of_ble_eq_true rfl) rfl ?_
  refine sw_lo (lo2 := [some (.ref 0), some (.ref 65), some (.ref 66), some (.int _), some (.int _), some (.int _), some (.int _), some (.int _), none]) rfl ?_
  refine sw_sub ?_ z1
  exact ⟨rfl, rfl, rfl, rfl, rfl, rfl, rfl, rfl, trivial⟩
set_option maxRecDepth 100000 in
set_option maxHeartbeats 4000000 in
theorem A_L_fulfils {d : Nat → Nat → Int32} {r : Nat → Nat → Option Nat} {J : Nat → Nat → Int64} {V : Nat → Int32} {n : Nat} {H S : Nat → Nat → Int32} {t : Nat → Bool} {T : Nat → Int32} {tl : Nat} (h : RC d r V n H S t T tl) (iv : IV V n H S t T tl) {D : Nat} (hd : dueV V) (hD : dd V D) (hD9 : D ≤ 200) {k : Nat} (hk : k < nv V 1) : ∃ d1 r1, OB kL_fulfils yL_fulfils 8 [.ref 0, .int (nI k)] d r J (some (.int (nI 1))) d1 r1 J 0 0 ∧ LI D d1 r1 := by
  obtain ⟨okP, okM, okT9, okC, okW, okD⟩ := id iv.1
  have hm8 := okM.2
  obtain ⟨p1, p2, p3, p4, p5, p6, p7⟩ := okT9 k hk
  have hp0 : pro V k 0 = nI (prt V k 0) := p1 0 (by decide)
  have hp1 : pro V k 1 = nI (prt V k 1) := p1 1 (by decide)
  have hp2 : pro V k 2 = nI (prt V k 2) := p1 2 (by decide)
  have hp4 : pro V k 4 = enc (wy V (prt V k 0) (prt V k 2)) := rfl
  have hmn : cnt V n 3 = nI (nv V 1) := okM.1
  have hwb := wsm_b okW
  have hpl : ∀ a, a < 8 → pwN V a ≤ 20 * wsm V := fun a ha => pw_le okC okW ha
  have hpw : ∀ a, a < 8 → isl V a 0 = nI (pwN V a) := fun a ha => pw_nI okC okW ha
  have hcv : ∀ c, c < 4 → V (19 + (prt V k 1 * 4 + c)) = nI (cp V (prt V k 1) c) := fun c hc => okC.1 (prt V k 1 * 4 + c) (by omega)
  obtain ⟨e1, x1, y1, -⟩ := C_promiseOf (J := J) (q := k) (k := 4) h iv hk (by decide)
  rw [hp4] at x1
  obtain ⟨e2, x2, y2, -⟩ := C_promiseOf (J := J) (q := k) (k := 0) y1 iv hk (by decide)
  rw [hp0] at x2
  obtain ⟨e3, x3, y3, -⟩ := C_promiseOf (J := J) (q := k) (k := 1) y2 iv hk (by decide)
  rw [hp1] at x3
  obtain ⟨e4, x4, y4, -⟩ := C_promiseOf (J := J) (q := k) (k := 2) y3 iv hk (by decide)
  rw [hp2] at x4
  obtain ⟨e5, x5, y5, -⟩ := C_islanderOf (J := J) (a := prt V k 0) (k := 0) y4 iv p2 (by decide)
  rw [hpw _ p2] at x5
  obtain ⟨e6, x6, y6, -⟩ := C_islanderOf (J := J) (a := prt V k 1) (k := 0) y5 iv p3 (by decide)
  rw [hpw _ p3] at x6
  obtain ⟨e7, x7, y7, -⟩ := C_count (J := J) (k := 3) y6 iv (by decide)
  rw [hmn] at x7
  obtain ⟨e8, x8, y8, -⟩ := C_count (J := J) (k := 5) y7 iv (by decide)
  obtain ⟨e9, x9, y9, -⟩ := C_count (J := J) (k := 7) y8 iv (by decide)
  obtain ⟨e10, x10, y10, -⟩ := C_caps (J := J) (a := prt V k 1) (c := 0) y9 iv p3 (by decide)
  rw [hcv 0 (by decide)] at x10
  obtain ⟨e11, x11, y11, -⟩ := C_caps (J := J) (a := prt V k 1) (c := 1) y10 iv p3 (by decide)
  rw [hcv 1 (by decide)] at x11
  obtain ⟨e12, x12, y12, -⟩ := C_caps (J := J) (a := prt V k 1) (c := 2) y11 iv p3 (by decide)
  rw [hcv 2 (by decide)] at x12
  obtain ⟨e13, x13, y13, -⟩ := C_caps (J := J) (a := prt V k 1) (c := 3) y12 iv p3 (by decide)
  rw [hcv 3 (by decide)] at x13
  have okV2 := ok_kpV iv.1 hk (s := prt V k 2)
  have iv2 := IV_push (rc6 y13) iv okV2 (T' := T) (tl' := tl) trivial
  have due2 := due_kpV iv.1 hd hk (s := prt V k 2)
  have dd2 := dd_kpV iv.1 hD hk (s := prt V k 2)
  obtain ⟨f1, r1, fx, fy, -⟩ := C_fulfil (J := J) y13 iv hk
  cases hw : wy V (prt V k 0) (prt V k 2) with
  | none =>
    rw [hw] at x1 fx fy iv2 due2 dd2
    have hcv2 : ∀ c, c < 4 → kpV V k none (19 + (prt V k 1 * 4 + c)) = nI (cp V (prt V k 1) c) := fun c hc => (upd_ne V _ (by omega)).trans (hcv c hc)
    obtain ⟨eb1, xb1, yb1, -⟩ := C_caps (J := J) (a := prt V k 1) (c := 0) fy iv2 p3 (by decide)
    rw [hcv2 0 (by decide)] at xb1
    obtain ⟨eb2, xb2, yb2, -⟩ := C_caps (J := J) (a := prt V k 1) (c := 1) yb1 iv2 p3 (by decide)
    rw [hcv2 1 (by decide)] at xb2
    obtain ⟨eb3, xb3, yb3, -⟩ := C_caps (J := J) (a := prt V k 1) (c := 2) yb2 iv2 p3 (by decide)
    rw [hcv2 2 (by decide)] at xb3
    obtain ⟨eb4, xb4, yb4, -⟩ := C_caps (J := J) (a := prt V k 1) (c := 3) yb3 iv2 p3 (by decide)
    rw [hcv2 3 (by decide)] at xb4
    obtain ⟨eb5, xb5, yb5, -⟩ := C_count (J := J) (k := 3) yb4 iv2 (by decide)
    obtain ⟨eb6, xb6, yb6, -⟩ := C_count (J := J) (k := 7) yb5 iv2 (by decide)
    refine ⟨eb6, r1, op_of pl_L_fulfils (Nat.le_of_ble_eq_true rfl) ?_, ⟨_, _, _, _, _, _, _, yb6, iv2, due2, dd2⟩⟩
    refine sw_aload_n (i := 0) dL_fulfils_0 rfl rfl ?_
    refine sw_iload_n (i := 1) dL_fulfils_1 rfl rfl ?_
    refine sw_ic 4 dL_fulfils_2 ?_
    refine px_Vx mv_L_41 x1 rfl rfl (Nat.le_of_ble_eq_true rfl) (Nat.le_of_ble_eq_true rfl) ko_0 (Nat.le_of_ble_eq_true rfl) dL_fulfils_3 ?_
    refine sw_istore_n (i := 2) dL_fulfils_6 rfl (Nat.le_of_ble_eq_true rfl) rfl ?_
    refine sw_lo (lo2 := [some (.ref 0), some (.int _), some (.int _), none, none, none, none, none, none, none, none, none, none, none]) rfl ?_
    refine sw_aload_n (i := 0) dL_fulfils_7 rfl rfl ?_
    refine sw_iload_n (i := 1) dL_fulfils_8 rfl rfl ?_
    refine sw_ins (pc2 := 9) rfl rfl ?_
    refine sw_ic 0 dL_fulfils_9 ?_
    refine px_Vx mv_L_41 x2 rfl rfl (Nat.le_of_ble_eq_true rfl) (Nat.le_of_ble_eq_true rfl) ko_0 (Nat.le_of_ble_eq_true rfl) dL_fulfils_10 ?_
    refine sw_istore_n (i := 3) dL_fulfils_13 rfl (Nat.le_of_ble_eq_true rfl) rfl ?_
    refine sw_lo (lo2 := [some (.ref 0), some (.int _), some (.int _), some (.int _), none, none, none, none, none, none, none, none, none, none]) rfl ?_
    refine sw_aload_n (i := 0) dL_fulfils_14 rfl rfl ?_
    refine sw_iload_n (i := 1) dL_fulfils_15 rfl rfl ?_
    refine sw_ic 1 dL_fulfils_16 ?_
    refine px_Vx mv_L_41 x3 rfl rfl (Nat.le_of_ble_eq_true rfl) (Nat.le_of_ble_eq_true rfl) ko_0 (Nat.le_of_ble_eq_true rfl) dL_fulfils_17 ?_
    refine sw_istore (i := 4) dL_fulfils_20 (Nat.le_of_ble_eq_true rfl) rfl ?_
    refine sw_lo (lo2 := [some (.ref 0), some (.int _), some (.int _), some (.int _), some (.int _), none, none, none, none, none, none, none, none, none]) rfl ?_
    refine sw_ins (pc2 := 22) rfl rfl ?_
    refine sw_aload_n (i := 0) dL_fulfils_22 rfl rfl ?_
    refine sw_iload_n (i := 1) dL_fulfils_23 rfl rfl ?_
    refine sw_ic 2 dL_fulfils_24 ?_
    refine px_Vx mv_L_41 x4 rfl rfl (Nat.le_of_ble_eq_true rfl) (Nat.le_of_ble_eq_true rfl) ko_0 (Nat.le_of_ble_eq_true rfl) dL_fulfils_25 ?_
    refine sw_istore (i := 5) dL_fulfils_28 (Nat.le_of_ble_eq_true rfl) rfl ?_
    refine sw_lo (lo2 := [some (.ref 0), some (.int _), some (.int _), some (.int _), some (.int _), some (.int _), none, none, none, none, none, none, none, none]) rfl ?_
    refine sw_aload_n (i := 0) dL_fulfils_30 rfl rfl ?_
    refine sw_iload_n (i := 3) dL_fulfils_31 rfl rfl ?_
    refine sw_ic 0 dL_fulfils_32 ?_
    refine sw_ins (pc2 := 33) rfl rfl ?_
    refine px_Vx mv_L_20 x5 rfl rfl (Nat.le_of_ble_eq_true rfl) (Nat.le_of_ble_eq_true rfl) ko_0 (Nat.le_of_ble_eq_true rfl) dL_fulfils_33 ?_
    refine sw_istore (i := 6) dL_fulfils_36 (Nat.le_of_ble_eq_true rfl) rfl ?_
    refine sw_lo (lo2 := [some (.ref 0), some (.int _), some (.int _), some (.int _), some (.int _), some (.int _), some (.int _), none, none, none, none, none, none, none]) rfl ?_
    refine sw_aload_n (i := 0) dL_fulfils_38 rfl rfl ?_
    refine sw_iload (i := 4) dL_fulfils_39 rfl ?_
    refine sw_ic 0 dL_fulfils_41 ?_
    refine px_Vx mv_L_20 x6 rfl rfl (Nat.le_of_ble_eq_true rfl) (Nat.le_of_ble_eq_true rfl) ko_0 (Nat.le_of_ble_eq_true rfl) dL_fulfils_42 ?_
    refine sw_istore (i := 7) dL_fulfils_45 (Nat.le_of_ble_eq_true rfl) rfl ?_
    refine sw_lo (lo2 := [some (.ref 0), some (.int _), some (.int _), some (.int _), some (.int _), some (.int _), some (.int _), some (.int _), none, none, none, none, none, none]) rfl ?_
    refine sw_aload_n (i := 0) dL_fulfils_47 rfl rfl ?_
    refine sw_ins (pc2 := 48) rfl rfl ?_
    refine sw_ic 3 dL_fulfils_48 ?_
    refine px_Vx mv_L_34 x7 rfl rfl (Nat.le_of_ble_eq_true rfl) (Nat.le_of_ble_eq_true rfl) ko_0 (Nat.le_of_ble_eq_true rfl) dL_fulfils_49 ?_
    refine sw_istore (i := 8) dL_fulfils_52 (Nat.le_of_ble_eq_true rfl) rfl ?_
    refine sw_lo (lo2 := [some (.ref 0), some (.int _), some (.int _), some (.int _), some (.int _), some (.int _), some (.int _), some (.int _), some (.int _), none, none, none, none, none]) rfl ?_
    refine sw_aload_n (i := 0) dL_fulfils_54 rfl rfl ?_
    refine sw_ic 5 dL_fulfils_55 ?_
    refine px_Vx mv_L_34 x8 rfl rfl (Nat.le_of_ble_eq_true rfl) (Nat.le_of_ble_eq_true rfl) ko_0 (Nat.le_of_ble_eq_true rfl) dL_fulfils_56 ?_
    refine sw_istore (i := 9) dL_fulfils_59 (Nat.le_of_ble_eq_true rfl) rfl ?_
    refine sw_lo (lo2 := [some (.ref 0), some (.int _), some (.int _), some (.int _), some (.int _), some (.int _), some (.int _), some (.int _), some (.int _), some (.int _), none, none, none, none]) rfl ?_
    refine sw_aload_n (i := 0) dL_fulfils_61 rfl rfl ?_
    refine sw_ins (pc2 := 62) rfl rfl ?_
    refine sw_bi 7 dL_fulfils_62 (by decide +kernel) ?_
    refine px_Vx mv_L_34 x9 rfl rfl (Nat.le_of_ble_eq_true rfl) (Nat.le_of_ble_eq_true rfl) ko_0 (Nat.le_of_ble_eq_true rfl) dL_fulfils_64 ?_
    refine sw_istore (i := 10) dL_fulfils_67 (Nat.le_of_ble_eq_true rfl) rfl ?_
    refine sw_lo (lo2 := [some (.ref 0), some (.int _), some (.int _), some (.int _), some (.int _), some (.int _), some (.int _), some (.int _), some (.int _), some (.int _), some (.int _), none, none, none]) rfl ?_
    refine sw_ic 0 dL_fulfils_69 ?_
    refine sw_istore (i := 11) dL_fulfils_70 (Nat.le_of_ble_eq_true rfl) rfl ?_
    refine sw_lo (lo2 := [some (.ref 0), some (.int _), some (.int _), some (.int _), some (.int _), some (.int _), some (.int _), some (.int _), some (.int _), some (.int _), some (.int _), some (.int _), none, none]) rfl ?_
    refine sw_ic 0 dL_fulfils_72 ?_
    refine sw_istore (i := 12) dL_fulfils_73 (Nat.le_of_ble_eq_true rfl) rfl ?_
    refine sw_lo (lo2 := [some (.ref 0), some (.int _), some (.int _), some (.int _), some (.int _), some (.int _), some (.int _), some (.int _), some (.int _), some (.int _), some (.int _), some (.int _), some (.int _), none]) rfl ?_
    refine sw_iload (i := 12) dL_fulfils_75 rfl ?_
    refine sw_ins (pc2 := 77) rfl rfl ?_
    refine sw_ic 4 dL_fulfils_77 ?_
    refine sw_ic_ge (tgt := 100) dL_fulfils_78 rfl (fun h9 => absurd h9 (by decide)) (fun _ => ?_)
    refine sw_iload (i := 11) dL_fulfils_81 rfl ?_
    refine sw_aload_n (i := 0) dL_fulfils_83 rfl rfl ?_
    refine sw_iload (i := 4) dL_fulfils_84 rfl ?_
    refine sw_iload (i := 12) dL_fulfils_86 rfl ?_
    refine px_Vx mv_L_24 x10 rfl rfl (Nat.le_of_ble_eq_true rfl) (Nat.le_of_ble_eq_true rfl) ko_0 (Nat.le_of_ble_eq_true rfl) dL_fulfils_88 ?_
    refine sw_isub dL_fulfils_91 ?_
    refine sw_ins (pc2 := 92) rfl rfl ?_
    refine sw_istore (i := 11) dL_fulfils_92 (Nat.le_of_ble_eq_true rfl) rfl ?_
    refine sw_lo (lo2 := [some (.ref 0), some (.int _), some (.int _), some (.int _), some (.int _), some (.int _), some (.int _), some (.int _), some (.int _), some (.int _), some (.int _), some (.int _), some (.int _), none]) rfl ?_
    refine sw_iinc (i := 12) (v := nI 1) dL_fulfils_94 rfl (by decide) (Nat.le_of_ble_eq_true rfl) rfl ?_
    refine sw_lo (lo2 := [some (.ref 0), some (.int _), some (.int _), some (.int _), some (.int _), some (.int _), some (.int _), some (.int _), some (.int _), some (.int _), some (.int _), some (.int _), some (.int _), none]) rfl ?_
    refine sw_goto (tgt := 75) dL_fulfils_97 rfl ?_
    refine sw_iload (i := 12) dL_fulfils_75 rfl ?_
    refine sw_ic 4 dL_fulfils_77 ?_
    refine sw_ic_ge (tgt := 100) dL_fulfils_78 rfl (fun h9 => absurd h9 (by decide)) (fun _ => ?_)
    refine sw_iload (i := 11) dL_fulfils_81 rfl ?_
    refine sw_aload_n (i := 0) dL_fulfils_83 rfl rfl ?_
    refine sw_ins (pc2 := 84) rfl rfl ?_
    refine sw_iload (i := 4) dL_fulfils_84 rfl ?_
    refine sw_iload (i := 12) dL_fulfils_86 rfl ?_
    refine px_Vx mv_L_24 x11 rfl rfl (Nat.le_of_ble_eq_true rfl) (Nat.le_of_ble_eq_true rfl) ko_0 (Nat.le_of_ble_eq_true rfl) dL_fulfils_88 ?_
    refine sw_isub dL_fulfils_91 ?_
    refine sw_istore (i := 11) dL_fulfils_92 (Nat.le_of_ble_eq_true rfl) rfl ?_
    refine sw_lo (lo2 := [some (.ref 0), some (.int _), some (.int _), some (.int _), some (.int _), some (.int _), some (.int _), some (.int _), some (.int _), some (.int _), some (.int _), some (.int _), some (.int _), none]) rfl ?_
    refine sw_iinc (i := 12) (v := nI 2) dL_fulfils_94 rfl (by decide) (Nat.le_of_ble_eq_true rfl) rfl ?_
    refine sw_lo (lo2 := [some (.ref 0), some (.int _), some (.int _), some (.int _), some (.int _), some (.int _), some (.int _), some (.int _), some (.int _), some (.int _), some (.int _), some (.int _), some (.int _), none]) rfl ?_
    refine sw_goto (tgt := 75) dL_fulfils_97 rfl ?_
    refine sw_iload (i := 12) dL_fulfils_75 rfl ?_
    refine sw_ins (pc2 := 77) rfl rfl ?_
    refine sw_ic 4 dL_fulfils_77 ?_
    refine sw_ic_ge (tgt := 100) dL_fulfils_78 rfl (fun h9 => absurd h9 (by decide)) (fun _ => ?_)
    refine sw_iload (i := 11) dL_fulfils_81 rfl ?_
    refine sw_aload_n (i := 0) dL_fulfils_83 rfl rfl ?_
    refine sw_iload (i := 4) dL_fulfils_84 rfl ?_
    refine sw_iload (i := 12) dL_fulfils_86 rfl ?_
    refine px_Vx mv_L_24 x12 rfl rfl (Nat.le_of_ble_eq_true rfl) (Nat.le_of_ble_eq_true rfl) ko_0 (Nat.le_of_ble_eq_true rfl) dL_fulfils_88 ?_
    refine sw_isub dL_fulfils_91 ?_
    refine sw_ins (pc2 := 92) rfl rfl ?_
    refine sw_istore (i := 11) dL_fulfils_92 (Nat.le_of_ble_eq_true rfl) rfl ?_
    refine sw_lo (lo2 := [some (.ref 0), some (.int _), some (.int _), some (.int _), some (.int _), some (.int _), some (.int _), some (.int _), some (.int _), some (.int _), some (.int _), some (.int _), some (.int _), none]) rfl ?_
    refine sw_iinc (i := 12) (v := nI 3) dL_fulfils_94 rfl (by decide) (Nat.le_of_ble_eq_true rfl) rfl ?_
    refine sw_lo (lo2 := [some (.ref 0), some (.int _), some (.int _), some (.int _), some (.int _), some (.int _), some (.int _), some (.int _), some (.int _), some (.int _), some (.int _), some (.int _), some (.int _), none]) rfl ?_
    refine sw_goto (tgt := 75) dL_fulfils_97 rfl ?_
    refine sw_iload (i := 12) dL_fulfils_75 rfl ?_
    refine sw_ic 4 dL_fulfils_77 ?_
    refine sw_ic_ge (tgt := 100) dL_fulfils_78 rfl (fun h9 => absurd h9 (by decide)) (fun _ => ?_)
    refine sw_iload (i := 11) dL_fulfils_81 rfl ?_
    refine sw_aload_n (i := 0) dL_fulfils_83 rfl rfl ?_
    refine sw_ins (pc2 := 84) rfl rfl ?_
    refine sw_iload (i := 4) dL_fulfils_84 rfl ?_
    refine sw_iload (i := 12) dL_fulfils_86 rfl ?_
    refine px_Vx mv_L_24 x13 rfl rfl (Nat.le_of_ble_eq_true rfl) (Nat.le_of_ble_eq_true rfl) ko_0 (Nat.le_of_ble_eq_true rfl) dL_fulfils_88 ?_
    refine sw_isub dL_fulfils_91 ?_
    refine sw_istore (i := 11) dL_fulfils_92 (Nat.le_of_ble_eq_true rfl) rfl ?_
    refine sw_lo (lo2 := [some (.ref 0), some (.int _), some (.int _), some (.int _), some (.int _), some (.int _), some (.int _), some (.int _), some (.int _), some (.int _), some (.int _), some (.int _), some (.int _), none]) rfl ?_
    refine sw_iinc (i := 12) (v := nI 4) dL_fulfils_94 rfl (by decide) (Nat.le_of_ble_eq_true rfl) rfl ?_
    refine sw_lo (lo2 := [some (.ref 0), some (.int _), some (.int _), some (.int _), some (.int _), some (.int _), some (.int _), some (.int _), some (.int _), some (.int _), some (.int _), some (.int _), some (.int _), none]) rfl ?_
    refine sw_goto (tgt := 75) dL_fulfils_97 rfl ?_
    refine sw_iload (i := 12) dL_fulfils_75 rfl ?_
    refine sw_ins (pc2 := 77) rfl rfl ?_
    refine sw_ic 4 dL_fulfils_77 ?_
    refine sw_ic_ge (tgt := 100) dL_fulfils_78 rfl (fun _ => ?_) (fun h9 => absurd (by decide) h9)
    refine sw_aload_n (i := 0) dL_fulfils_100 rfl rfl ?_
    refine sw_iload_n (i := 1) dL_fulfils_101 rfl rfl ?_
    refine px_Vx mv_L_53 fx rfl rfl (Nat.le_of_ble_eq_true rfl) (Nat.le_of_ble_eq_true rfl) ko_0 (Nat.le_of_ble_eq_true rfl) dL_fulfils_102 ?_
    refine sw_istore (i := 12) dL_fulfils_105 (Nat.le_of_ble_eq_true rfl) rfl ?_
    refine sw_lo (lo2 := [some (.ref 0), some (.int _), some (.int _), some (.int _), some (.int _), some (.int _), some (.int _), some (.int _), some (.int _), some (.int _), some (.int _), some (.int _), some (.int _), none]) rfl ?_
    refine sw_ic 0 dL_fulfils_107 ?_
    refine sw_istore (i := 13) dL_fulfils_108 (Nat.le_of_ble_eq_true rfl) rfl ?_
    refine sw_lo (lo2 := [some (.ref 0), some (.int _), some (.int _), some (.int _), some (.int _), some (.int _), some (.int _), some (.int _), some (.int _), some (.int _), some (.int _), some (.int _), some (.int _), some (.int _)]) rfl ?_
    refine sw_ins (pc2 := 110) rfl rfl ?_
    refine sw_iload (i := 13) dL_fulfils_110 rfl ?_
    refine sw_ic 4 dL_fulfils_112 ?_
    refine sw_ic_ge (tgt := 135) dL_fulfils_113 rfl (fun h9 => absurd h9 (by decide)) (fun _ => ?_)
    refine sw_iload (i := 11) dL_fulfils_116 rfl ?_
    refine sw_aload_n (i := 0) dL_fulfils_118 rfl rfl ?_
    refine sw_iload (i := 4) dL_fulfils_119 rfl ?_
    refine sw_iload (i := 13) dL_fulfils_121 rfl ?_
    refine px_Vx mv_L_24 xb1 rfl rfl (Nat.le_of_ble_eq_true rfl) (Nat.le_of_ble_eq_true rfl) ko_0 (Nat.le_of_ble_eq_true rfl) dL_fulfils_123 ?_
    refine sw_ins (pc2 := 126) rfl rfl ?_
    refine sw_iadd dL_fulfils_126 ?_
    refine sw_istore (i := 11) dL_fulfils_127 (Nat.le_of_ble_eq_true rfl) rfl ?_
    refine sw_lo (lo2 := [some (.ref 0), some (.int _), some (.int _), some (.int _), some (.int _), some (.int _), some (.int _), some (.int _), some (.int _), some (.int _), some (.int _), some (.int _), some (.int _), some (.int _)]) rfl ?_
    refine sw_iinc (i := 13) (v := nI 1) dL_fulfils_129 rfl (by decide) (Nat.le_of_ble_eq_true rfl) rfl ?_
    refine sw_lo (lo2 := [some (.ref 0), some (.int _), some (.int _), some (.int _), some (.int _), some (.int _), some (.int _), some (.int _), some (.int _), some (.int _), some (.int _), some (.int _), some (.int _), some (.int _)]) rfl ?_
    refine sw_goto (tgt := 110) dL_fulfils_132 rfl ?_
    refine sw_iload (i := 13) dL_fulfils_110 rfl ?_
    refine sw_ic 4 dL_fulfils_112 ?_
    refine sw_ic_ge (tgt := 135) dL_fulfils_113 rfl (fun h9 => absurd h9 (by decide)) (fun _ => ?_)
    refine sw_iload (i := 11) dL_fulfils_116 rfl ?_
    refine sw_ins (pc2 := 118) rfl rfl ?_
    refine sw_aload_n (i := 0) dL_fulfils_118 rfl rfl ?_
    refine sw_iload (i := 4) dL_fulfils_119 rfl ?_
    refine sw_iload (i := 13) dL_fulfils_121 rfl ?_
    refine px_Vx mv_L_24 xb2 rfl rfl (Nat.le_of_ble_eq_true rfl) (Nat.le_of_ble_eq_true rfl) ko_0 (Nat.le_of_ble_eq_true rfl) dL_fulfils_123 ?_
    refine sw_iadd dL_fulfils_126 ?_
    refine sw_istore (i := 11) dL_fulfils_127 (Nat.le_of_ble_eq_true rfl) rfl ?_
    refine sw_lo (lo2 := [some (.ref 0), some (.int _), some (.int _), some (.int _), some (.int _), some (.int _), some (.int _), some (.int _), some (.int _), some (.int _), some (.int _), some (.int _), some (.int _), some (.int _)]) rfl ?_
    refine sw_iinc (i := 13) (v := nI 2) dL_fulfils_129 rfl (by decide) (Nat.le_of_ble_eq_true rfl) rfl ?_
    refine sw_lo (lo2 := [some (.ref 0), some (.int _), some (.int _), some (.int _), some (.int _), some (.int _), some (.int _), some (.int _), some (.int _), some (.int _), some (.int _), some (.int _), some (.int _), some (.int _)]) rfl ?_
    refine sw_goto (tgt := 110) dL_fulfils_132 rfl ?_
    refine sw_ins (pc2 := 110) rfl rfl ?_
    refine sw_iload (i := 13) dL_fulfils_110 rfl ?_
    refine sw_ic 4 dL_fulfils_112 ?_
    refine sw_ic_ge (tgt := 135) dL_fulfils_113 rfl (fun h9 => absurd h9 (by decide)) (fun _ => ?_)
    refine sw_iload (i := 11) dL_fulfils_116 rfl ?_
    refine sw_aload_n (i := 0) dL_fulfils_118 rfl rfl ?_
    refine sw_iload (i := 4) dL_fulfils_119 rfl ?_
    refine sw_iload (i := 13) dL_fulfils_121 rfl ?_
    refine px_Vx mv_L_24 xb3 rfl rfl (Nat.le_of_ble_eq_true rfl) (Nat.le_of_ble_eq_true rfl) ko_0 (Nat.le_of_ble_eq_true rfl) dL_fulfils_123 ?_
    refine sw_ins (pc2 := 126) rfl rfl ?_
    refine sw_iadd dL_fulfils_126 ?_
    refine sw_istore (i := 11) dL_fulfils_127 (Nat.le_of_ble_eq_true rfl) rfl ?_
    refine sw_lo (lo2 := [some (.ref 0), some (.int _), some (.int _), some (.int _), some (.int _), some (.int _), some (.int _), some (.int _), some (.int _), some (.int _), some (.int _), some (.int _), some (.int _), some (.int _)]) rfl ?_
    refine sw_iinc (i := 13) (v := nI 3) dL_fulfils_129 rfl (by decide) (Nat.le_of_ble_eq_true rfl) rfl ?_
    refine sw_lo (lo2 := [some (.ref 0), some (.int _), some (.int _), some (.int _), some (.int _), some (.int _), some (.int _), some (.int _), some (.int _), some (.int _), some (.int _), some (.int _), some (.int _), some (.int _)]) rfl ?_
    refine sw_goto (tgt := 110) dL_fulfils_132 rfl ?_
    refine sw_iload (i := 13) dL_fulfils_110 rfl ?_
    refine sw_ic 4 dL_fulfils_112 ?_
    refine sw_ic_ge (tgt := 135) dL_fulfils_113 rfl (fun h9 => absurd h9 (by decide)) (fun _ => ?_)
    refine sw_iload (i := 11) dL_fulfils_116 rfl ?_
    refine sw_ins (pc2 := 118) rfl rfl ?_
    refine sw_aload_n (i := 0) dL_fulfils_118 rfl rfl ?_
    refine sw_iload (i := 4) dL_fulfils_119 rfl ?_
    refine sw_iload (i := 13) dL_fulfils_121 rfl ?_
    refine px_Vx mv_L_24 xb4 rfl rfl (Nat.le_of_ble_eq_true rfl) (Nat.le_of_ble_eq_true rfl) ko_0 (Nat.le_of_ble_eq_true rfl) dL_fulfils_123 ?_
    refine sw_iadd dL_fulfils_126 ?_
    refine sw_istore (i := 11) dL_fulfils_127 (Nat.le_of_ble_eq_true rfl) rfl ?_
    refine sw_lo (lo2 := [some (.ref 0), some (.int _), some (.int _), some (.int _), some (.int _), some (.int _), some (.int _), some (.int _), some (.int _), some (.int _), some (.int _), some (.int _), some (.int _), some (.int _)]) rfl ?_
    refine sw_iinc (i := 13) (v := nI 4) dL_fulfils_129 rfl (by decide) (Nat.le_of_ble_eq_true rfl) rfl ?_
    refine sw_lo (lo2 := [some (.ref 0), some (.int _), some (.int _), some (.int _), some (.int _), some (.int _), some (.int _), some (.int _), some (.int _), some (.int _), some (.int _), some (.int _), some (.int _), some (.int _)]) rfl ?_
    refine sw_goto (tgt := 110) dL_fulfils_132 rfl ?_
    refine sw_ins (pc2 := 110) rfl rfl ?_
    refine sw_iload (i := 13) dL_fulfils_110 rfl ?_
    refine sw_ic 4 dL_fulfils_112 ?_
    refine sw_ic_ge (tgt := 135) dL_fulfils_113 rfl (fun _ => ?_) (fun h9 => absurd (by decide) h9)
    refine sw_iload_n (i := 2) dL_fulfils_135 rfl rfl ?_
    refine sw_im1 dL_fulfils_136 ?_
    refine sw_ic_ne (tgt := 180) dL_fulfils_137 rfl (fun h9 => absurd (by decide) h9) (fun _ => ?_)
    refine sw_iload (i := 12) dL_fulfils_140 rfl ?_
    refine sw_im1 dL_fulfils_142 ?_
    refine sw_ins (pc2 := 143) rfl rfl ?_
    refine sw_ic_ne (tgt := 178) dL_fulfils_143 rfl (fun h9 => absurd (by decide) h9) (fun _ => ?_)
    refine sw_aload_n (i := 0) dL_fulfils_146 rfl rfl ?_
    refine sw_ic 3 dL_fulfils_147 ?_
    refine px_Vx mv_L_34 xb5 rfl rfl (Nat.le_of_ble_eq_true rfl) (Nat.le_of_ble_eq_true rfl) ko_0 (Nat.le_of_ble_eq_true rfl) dL_fulfils_148 ?_
    refine sw_iload (i := 8) dL_fulfils_151 rfl ?_
    refine sw_ic_ne (tgt := 178) dL_fulfils_153 rfl (fun h9 => absurd hmn h9) (fun _ => ?_)
    refine sw_aload_n (i := 0) dL_fulfils_156 rfl rfl ?_
    refine sw_bi 7 dL_fulfils_157 (by decide +kernel) ?_
    refine sw_ins (pc2 := 159) rfl rfl ?_
    refine px_Vx mv_L_34 xb6 rfl rfl (Nat.le_of_ble_eq_true rfl) (Nat.le_of_ble_eq_true rfl) ko_0 (Nat.le_of_ble_eq_true rfl) dL_fulfils_159 ?_
    refine sw_iload (i := 10) dL_fulfils_162 rfl ?_
    refine sw_ic 1 dL_fulfils_164 ?_
    refine sw_iadd dL_fulfils_165 ?_
    refine sw_ic_ne (tgt := 178) dL_fulfils_166 rfl (fun h9 => absurd rfl h9) (fun _ => ?_)
    refine sw_iload (i := 11) dL_fulfils_169 rfl ?_
    refine sw_if_ne (tgt := 178) dL_fulfils_171 rfl (fun h9 => absurd (by have h9 := cap4 (cp V (prt V k 1) 0) (cp V (prt V k 1) 1) (cp V (prt V k 1) 2) (cp V (prt V k 1) 3) 0 0 0 0; exact h9) h9) (fun _ => ?_)
    refine sw_ic 1 dL_fulfils_174 ?_
    refine sw_ins (pc2 := 175) rfl rfl ?_
    refine sw_goto (tgt := 179) dL_fulfils_175 rfl ?_
    exact sw_zreturnE rfl rfl rfl dL_fulfils_179
  | some wq =>
    obtain ⟨z, f, e9, t9⟩ := wq
    have hwy := wy_way okW hw
    have hok := wy_okb V _ _ z f e9 t9 hw
    obtain ⟨j1, j2, j3, j4, j5, j6⟩ := pay_f iv.1 p2 p3 p4 hok.1 hok.2.1 hok.2.2.1 hok.2.2.2
    have hsum : z * wt V 0 + f * wt V 1 + e9 * wt V 2 + t9 * wt V 3 = prt V k 2 := hwy.2.2.2.2
    rw [hsum] at j1 j2
    have htt := way_tot okW p5 hwy
    rw [hw] at x1 fx fy iv2 due2 dd2 okV2
    obtain ⟨V2, hV2⟩ : ∃ V2, V2 = kpV V k (some (z, f, e9, t9)) := ⟨_, rfl⟩
    rw [← hV2] at fy iv2 due2 dd2 okV2
    have hlow : ∀ j, 7 ≤ j → j < 51 → V2 j = pay V (prt V k 0) (prt V k 1) z f e9 t9 j := fun j g1 g2 => by rw [hV2]; exact (upd_ne _ _ (by omega)).trans (drp_off (by omega) (by omega))
    have hcp2 : ∀ c, c < 4 → cp V2 (prt V k 1) c = cp (pay V (prt V k 0) (prt V k 1) z f e9 t9) (prt V k 1) c := fun c hc => by unfold cp nv; rw [hlow _ (by omega) (by omega)]
    have hcv2 : ∀ c, c < 4 → V2 (19 + (prt V k 1 * 4 + c)) = nI (cp V2 (prt V k 1) c) := fun c hc => okV2.2.2.2.1.1 (prt V k 1 * 4 + c) (by omega)
    have c0 := (hcv2 0 (by decide)).trans (by rw [hcp2 0 (by decide), j3])
    have c1 := (hcv2 1 (by decide)).trans (by rw [hcp2 1 (by decide), j4])
    have c2 := (hcv2 2 (by decide)).trans (by rw [hcp2 2 (by decide), j5])
    have c3 := (hcv2 3 (by decide)).trans (by rw [hcp2 3 (by decide), j6])
    have hpw2 : ∀ a, a < 8 → isl V2 a 0 = nI (pwN (pay V (prt V k 0) (prt V k 1) z f e9 t9) a) := fun a ha => (pw_nI okV2.2.2.2.1 okV2.2.2.2.2.1 ha).trans (by rw [pwN_cong hlow ha])
    have hpb : ∀ a, a < 8 → pwN V2 a ≤ 20 * wsm V2 := fun a ha => pw_le okV2.2.2.2.1 okV2.2.2.2.2.1 ha
    have hwb2 := wsm_b okV2.2.2.2.2.1
    have q1 := hpl _ p2
    have q2 := hpl _ p3
    have m3 : cnt V2 (psN n) 3 = nI (nv V 1 - 1) := by
      show V2 1 = _
      rw [hV2]
      refine (upd_ne _ _ (by decide)).trans ?_
      show drp (pay V (prt V k 0) (prt V k 1) z f e9 t9) k 1 = _
      rw [show drp (pay V (prt V k 0) (prt V k 1) z f e9 t9) k 1 = nI (nv (pay V (prt V k 0) (prt V k 1) z f e9 t9) 1 - 1) from if_pos rfl]
      unfold nv
      rw [pay_off p2 p3 (by omega)]
    have m5 : cnt V2 (psN n) 5 = cnt V n 5 + nI 1 := by
      show V2 3 = V 3 + nI 1
      rw [hV2]
      refine (upd_eq _ _ _).trans ?_
      rw [drp_off (by decide) (by decide), pay_off p2 p3 (by omega)]
    have m7 : cnt V2 (psN n) 7 = cnt V n 7 := by
      show V2 5 = V 5
      rw [hV2]
      refine (upd_ne _ _ (by decide)).trans ?_
      rw [drp_off (by decide) (by decide), pay_off p2 p3 (by omega)]
    obtain ⟨eb1, xb1, yb1, -⟩ := C_caps (J := J) (a := prt V k 1) (c := 0) fy iv2 p3 (by decide)
    rw [c0] at xb1
    obtain ⟨eb2, xb2, yb2, -⟩ := C_caps (J := J) (a := prt V k 1) (c := 1) yb1 iv2 p3 (by decide)
    rw [c1] at xb2
    obtain ⟨eb3, xb3, yb3, -⟩ := C_caps (J := J) (a := prt V k 1) (c := 2) yb2 iv2 p3 (by decide)
    rw [c2] at xb3
    obtain ⟨eb4, xb4, yb4, -⟩ := C_caps (J := J) (a := prt V k 1) (c := 3) yb3 iv2 p3 (by decide)
    rw [c3] at xb4
    obtain ⟨eb5, xb5, yb5, -⟩ := C_islanderOf (J := J) (a := prt V k 0) (k := 0) yb4 iv2 p2 (by decide)
    rw [hpw2 _ p2] at xb5
    obtain ⟨eb6, xb6, yb6, -⟩ := C_islanderOf (J := J) (a := prt V k 1) (k := 0) yb5 iv2 p3 (by decide)
    rw [hpw2 _ p3] at xb6
    obtain ⟨eb7, xb7, yb7, -⟩ := C_count (J := J) (k := 3) yb6 iv2 (by decide)
    rw [m3] at xb7
    obtain ⟨eb8, xb8, yb8, -⟩ := C_count (J := J) (k := 5) yb7 iv2 (by decide)
    rw [m5] at xb8
    obtain ⟨eb9, xb9, yb9, -⟩ := C_count (J := J) (k := 7) yb8 iv2 (by decide)
    rw [m7] at xb9
    refine ⟨eb9, r1, op_of pl_L_fulfils (Nat.le_of_ble_eq_true rfl) ?_, ⟨_, _, _, _, _, _, _, yb9, iv2, due2, dd2⟩⟩
    refine sw_aload_n (i := 0) dL_fulfils_0 rfl rfl ?_
    refine sw_iload_n (i := 1) dL_fulfils_1 rfl rfl ?_
    refine sw_ic 4 dL_fulfils_2 ?_
    refine px_Vx mv_L_41 x1 rfl rfl (Nat.le_of_ble_eq_true rfl) (Nat.le_of_ble_eq_true rfl) ko_0 (Nat.le_of_ble_eq_true rfl) dL_fulfils_3 ?_
    refine sw_istore_n (i := 2) dL_fulfils_6 rfl (Nat.le_of_ble_eq_true rfl) rfl ?_
    refine sw_lo (lo2 := [some (.ref 0), some (.int _), some (.int _), none, none, none, none, none, none, none, none, none, none, none]) rfl ?_
    refine sw_aload_n (i := 0) dL_fulfils_7 rfl rfl ?_
    refine sw_iload_n (i := 1) dL_fulfils_8 rfl rfl ?_
    refine sw_ins (pc2 := 9) rfl rfl ?_
    refine sw_ic 0 dL_fulfils_9 ?_
    refine px_Vx mv_L_41 x2 rfl rfl (Nat.le_of_ble_eq_true rfl) (Nat.le_of_ble_eq_true rfl) ko_0 (Nat.le_of_ble_eq_true rfl) dL_fulfils_10 ?_
    refine sw_istore_n (i := 3) dL_fulfils_13 rfl (Nat.le_of_ble_eq_true rfl) rfl ?_
    refine sw_lo (lo2 := [some (.ref 0), some (.int _), some (.int _), some (.int _), none, none, none, none, none, none, none, none, none, none]) rfl ?_
    refine sw_aload_n (i := 0) dL_fulfils_14 rfl rfl ?_
    refine sw_iload_n (i := 1) dL_fulfils_15 rfl rfl ?_
    refine sw_ic 1 dL_fulfils_16 ?_
    refine px_Vx mv_L_41 x3 rfl rfl (Nat.le_of_ble_eq_true rfl) (Nat.le_of_ble_eq_true rfl) ko_0 (Nat.le_of_ble_eq_true rfl) dL_fulfils_17 ?_
    refine sw_istore (i := 4) dL_fulfils_20 (Nat.le_of_ble_eq_true rfl) rfl ?_
    refine sw_lo (lo2 := [some (.ref 0), some (.int _), some (.int _), some (.int _), some (.int _), none, none, none, none, none, none, none, none, none]) rfl ?_
    refine sw_ins (pc2 := 22) rfl rfl ?_
    refine sw_aload_n (i := 0) dL_fulfils_22 rfl rfl ?_
    refine sw_iload_n (i := 1) dL_fulfils_23 rfl rfl ?_
    refine sw_ic 2 dL_fulfils_24 ?_
    refine px_Vx mv_L_41 x4 rfl rfl (Nat.le_of_ble_eq_true rfl) (Nat.le_of_ble_eq_true rfl) ko_0 (Nat.le_of_ble_eq_true rfl) dL_fulfils_25 ?_
    refine sw_istore (i := 5) dL_fulfils_28 (Nat.le_of_ble_eq_true rfl) rfl ?_
    refine sw_lo (lo2 := [some (.ref 0), some (.int _), some (.int _), some (.int _), some (.int _), some (.int _), none, none, none, none, none, none, none, none]) rfl ?_
    refine sw_aload_n (i := 0) dL_fulfils_30 rfl rfl ?_
    refine sw_iload_n (i := 3) dL_fulfils_31 rfl rfl ?_
    refine sw_ic 0 dL_fulfils_32 ?_
    refine sw_ins (pc2 := 33) rfl rfl ?_
    refine px_Vx mv_L_20 x5 rfl rfl (Nat.le_of_ble_eq_true rfl) (Nat.le_of_ble_eq_true rfl) ko_0 (Nat.le_of_ble_eq_true rfl) dL_fulfils_33 ?_
    refine sw_istore (i := 6) dL_fulfils_36 (Nat.le_of_ble_eq_true rfl) rfl ?_
    refine sw_lo (lo2 := [some (.ref 0), some (.int _), some (.int _), some (.int _), some (.int _), some (.int _), some (.int _), none, none, none, none, none, none, none]) rfl ?_
    refine sw_aload_n (i := 0) dL_fulfils_38 rfl rfl ?_
    refine sw_iload (i := 4) dL_fulfils_39 rfl ?_
    refine sw_ic 0 dL_fulfils_41 ?_
    refine px_Vx mv_L_20 x6 rfl rfl (Nat.le_of_ble_eq_true rfl) (Nat.le_of_ble_eq_true rfl) ko_0 (Nat.le_of_ble_eq_true rfl) dL_fulfils_42 ?_
    refine sw_istore (i := 7) dL_fulfils_45 (Nat.le_of_ble_eq_true rfl) rfl ?_
    refine sw_lo (lo2 := [some (.ref 0), some (.int _), some (.int _), some (.int _), some (.int _), some (.int _), some (.int _), some (.int _), none, none, none, none, none, none]) rfl ?_
    refine sw_aload_n (i := 0) dL_fulfils_47 rfl rfl ?_
    refine sw_ins (pc2 := 48) rfl rfl ?_
    refine sw_ic 3 dL_fulfils_48 ?_
    refine px_Vx mv_L_34 x7 rfl rfl (Nat.le_of_ble_eq_true rfl) (Nat.le_of_ble_eq_true rfl) ko_0 (Nat.le_of_ble_eq_true rfl) dL_fulfils_49 ?_
    refine sw_istore (i := 8) dL_fulfils_52 (Nat.le_of_ble_eq_true rfl) rfl ?_
    refine sw_lo (lo2 := [some (.ref 0), some (.int _), some (.int _), some (.int _), some (.int _), some (.int _), some (.int _), some (.int _), some (.int _), none, none, none, none, none]) rfl ?_
    refine sw_aload_n (i := 0) dL_fulfils_54 rfl rfl ?_
    refine sw_ic 5 dL_fulfils_55 ?_
    refine px_Vx mv_L_34 x8 rfl rfl (Nat.le_of_ble_eq_true rfl) (Nat.le_of_ble_eq_true rfl) ko_0 (Nat.le_of_ble_eq_true rfl) dL_fulfils_56 ?_
    refine sw_istore (i := 9) dL_fulfils_59 (Nat.le_of_ble_eq_true rfl) rfl ?_
    refine sw_lo (lo2 := [some (.ref 0), some (.int _), some (.int _), some (.int _), some (.int _), some (.int _), some (.int _), some (.int _), some (.int _), some (.int _), none, none, none, none]) rfl ?_
    refine sw_aload_n (i := 0) dL_fulfils_61 rfl rfl ?_
    refine sw_ins (pc2 := 62) rfl rfl ?_
    refine sw_bi 7 dL_fulfils_62 (by decide +kernel) ?_
    refine px_Vx mv_L_34 x9 rfl rfl (Nat.le_of_ble_eq_true rfl) (Nat.le_of_ble_eq_true rfl) ko_0 (Nat.le_of_ble_eq_true rfl) dL_fulfils_64 ?_
    refine sw_istore (i := 10) dL_fulfils_67 (Nat.le_of_ble_eq_true rfl) rfl ?_
    refine sw_lo (lo2 := [some (.ref 0), some (.int _), some (.int _), some (.int _), some (.int _), some (.int _), some (.int _), some (.int _), some (.int _), some (.int _), some (.int _), none, none, none]) rfl ?_
    refine sw_ic 0 dL_fulfils_69 ?_
    refine sw_istore (i := 11) dL_fulfils_70 (Nat.le_of_ble_eq_true rfl) rfl ?_
    refine sw_lo (lo2 := [some (.ref 0), some (.int _), some (.int _), some (.int _), some (.int _), some (.int _), some (.int _), some (.int _), some (.int _), some (.int _), some (.int _), some (.int _), none, none]) rfl ?_
    refine sw_ic 0 dL_fulfils_72 ?_
    refine sw_istore (i := 12) dL_fulfils_73 (Nat.le_of_ble_eq_true rfl) rfl ?_
    refine sw_lo (lo2 := [some (.ref 0), some (.int _), some (.int _), some (.int _), some (.int _), some (.int _), some (.int _), some (.int _), some (.int _), some (.int _), some (.int _), some (.int _), some (.int _), none]) rfl ?_
    refine sw_iload (i := 12) dL_fulfils_75 rfl ?_
    refine sw_ins (pc2 := 77) rfl rfl ?_
    refine sw_ic 4 dL_fulfils_77 ?_
    refine sw_ic_ge (tgt := 100) dL_fulfils_78 rfl (fun h9 => absurd h9 (by decide)) (fun _ => ?_)
    refine sw_iload (i := 11) dL_fulfils_81 rfl ?_
    refine sw_aload_n (i := 0) dL_fulfils_83 rfl rfl ?_
    refine sw_iload (i := 4) dL_fulfils_84 rfl ?_
    refine sw_iload (i := 12) dL_fulfils_86 rfl ?_
    refine px_Vx mv_L_24 x10 rfl rfl (Nat.le_of_ble_eq_true rfl) (Nat.le_of_ble_eq_true rfl) ko_0 (Nat.le_of_ble_eq_true rfl) dL_fulfils_88 ?_
    refine sw_isub dL_fulfils_91 ?_
    refine sw_ins (pc2 := 92) rfl rfl ?_
    refine sw_istore (i := 11) dL_fulfils_92 (Nat.le_of_ble_eq_true rfl) rfl ?_
    refine sw_lo (lo2 := [some (.ref 0), some (.int _), some (.int _), some (.int _), some (.int _), some (.int _), some (.int _), some (.int _), some (.int _), some (.int _), some (.int _), some (.int _), some (.int _), none]) rfl ?_
    refine sw_iinc (i := 12) (v := nI 1) dL_fulfils_94 rfl (by decide) (Nat.le_of_ble_eq_true rfl) rfl ?_
    refine sw_lo (lo2 := [some (.ref 0), some (.int _), some (.int _), some (.int _), some (.int _), some (.int _), some (.int _), some (.int _), some (.int _), some (.int _), some (.int _), some (.int _), some (.int _), none]) rfl ?_
    refine sw_goto (tgt := 75) dL_fulfils_97 rfl ?_
    refine sw_iload (i := 12) dL_fulfils_75 rfl ?_
    refine sw_ic 4 dL_fulfils_77 ?_
    refine sw_ic_ge (tgt := 100) dL_fulfils_78 rfl (fun h9 => absurd h9 (by decide)) (fun _ => ?_)
    refine sw_iload (i := 11) dL_fulfils_81 rfl ?_
    refine sw_aload_n (i := 0) dL_fulfils_83 rfl rfl ?_
    refine sw_ins (pc2 := 84) rfl rfl ?_
    refine sw_iload (i := 4) dL_fulfils_84 rfl ?_
    refine sw_iload (i := 12) dL_fulfils_86 rfl ?_
    refine px_Vx mv_L_24 x11 rfl rfl (Nat.le_of_ble_eq_true rfl) (Nat.le_of_ble_eq_true rfl) ko_0 (Nat.le_of_ble_eq_true rfl) dL_fulfils_88 ?_
    refine sw_isub dL_fulfils_91 ?_
    refine sw_istore (i := 11) dL_fulfils_92 (Nat.le_of_ble_eq_true rfl) rfl ?_
    refine sw_lo (lo2 := [some (.ref 0), some (.int _), some (.int _), some (.int _), some (.int _), some (.int _), some (.int _), some (.int _), some (.int _), some (.int _), some (.int _), some (.int _), some (.int _), none]) rfl ?_
    refine sw_iinc (i := 12) (v := nI 2) dL_fulfils_94 rfl (by decide) (Nat.le_of_ble_eq_true rfl) rfl ?_
    refine sw_lo (lo2 := [some (.ref 0), some (.int _), some (.int _), some (.int _), some (.int _), some (.int _), some (.int _), some (.int _), some (.int _), some (.int _), some (.int _), some (.int _), some (.int _), none]) rfl ?_
    refine sw_goto (tgt := 75) dL_fulfils_97 rfl ?_
    refine sw_iload (i := 12) dL_fulfils_75 rfl ?_
    refine sw_ins (pc2 := 77) rfl rfl ?_
    refine sw_ic 4 dL_fulfils_77 ?_
    refine sw_ic_ge (tgt := 100) dL_fulfils_78 rfl (fun h9 => absurd h9 (by decide)) (fun _ => ?_)
    refine sw_iload (i := 11) dL_fulfils_81 rfl ?_
    refine sw_aload_n (i := 0) dL_fulfils_83 rfl rfl ?_
    refine sw_iload (i := 4) dL_fulfils_84 rfl ?_
    refine sw_iload (i := 12) dL_fulfils_86 rfl ?_
    refine px_Vx mv_L_24 x12 rfl rfl (Nat.le_of_ble_eq_true rfl) (Nat.le_of_ble_eq_true rfl) ko_0 (Nat.le_of_ble_eq_true rfl) dL_fulfils_88 ?_
    refine sw_isub dL_fulfils_91 ?_
    refine sw_ins (pc2 := 92) rfl rfl ?_
    refine sw_istore (i := 11) dL_fulfils_92 (Nat.le_of_ble_eq_true rfl) rfl ?_
    refine sw_lo (lo2 := [some (.ref 0), some (.int _), some (.int _), some (.int _), some (.int _), some (.int _), some (.int _), some (.int _), some (.int _), some (.int _), some (.int _), some (.int _), some (.int _), none]) rfl ?_
    refine sw_iinc (i := 12) (v := nI 3) dL_fulfils_94 rfl (by decide) (Nat.le_of_ble_eq_true rfl) rfl ?_
    refine sw_lo (lo2 := [some (.ref 0), some (.int _), some (.int _), some (.int _), some (.int _), some (.int _), some (.int _), some (.int _), some (.int _), some (.int _), some (.int _), some (.int _), some (.int _), none]) rfl ?_
    refine sw_goto (tgt := 75) dL_fulfils_97 rfl ?_
    refine sw_iload (i := 12) dL_fulfils_75 rfl ?_
    refine sw_ic 4 dL_fulfils_77 ?_
    refine sw_ic_ge (tgt := 100) dL_fulfils_78 rfl (fun h9 => absurd h9 (by decide)) (fun _ => ?_)
    refine sw_iload (i := 11) dL_fulfils_81 rfl ?_
    refine sw_aload_n (i := 0) dL_fulfils_83 rfl rfl ?_
    refine sw_ins (pc2 := 84) rfl rfl ?_
    refine sw_iload (i := 4) dL_fulfils_84 rfl ?_
    refine sw_iload (i := 12) dL_fulfils_86 rfl ?_
    refine px_Vx mv_L_24 x13 rfl rfl (Nat.le_of_ble_eq_true rfl) (Nat.le_of_ble_eq_true rfl) ko_0 (Nat.le_of_ble_eq_true rfl) dL_fulfils_88 ?_
    refine sw_isub dL_fulfils_91 ?_
    refine sw_istore (i := 11) dL_fulfils_92 (Nat.le_of_ble_eq_true rfl) rfl ?_
    refine sw_lo (lo2 := [some (.ref 0), some (.int _), some (.int _), some (.int _), some (.int _), some (.int _), some (.int _), some (.int _), some (.int _), some (.int _), some (.int _), some (.int _), some (.int _), none]) rfl ?_
    refine sw_iinc (i := 12) (v := nI 4) dL_fulfils_94 rfl (by decide) (Nat.le_of_ble_eq_true rfl) rfl ?_
    refine sw_lo (lo2 := [some (.ref 0), some (.int _), some (.int _), some (.int _), some (.int _), some (.int _), some (.int _), some (.int _), some (.int _), some (.int _), some (.int _), some (.int _), some (.int _), none]) rfl ?_
    refine sw_goto (tgt := 75) dL_fulfils_97 rfl ?_
    refine sw_iload (i := 12) dL_fulfils_75 rfl ?_
    refine sw_ins (pc2 := 77) rfl rfl ?_
    refine sw_ic 4 dL_fulfils_77 ?_
    refine sw_ic_ge (tgt := 100) dL_fulfils_78 rfl (fun _ => ?_) (fun h9 => absurd (by decide) h9)
    refine sw_aload_n (i := 0) dL_fulfils_100 rfl rfl ?_
    refine sw_iload_n (i := 1) dL_fulfils_101 rfl rfl ?_
    refine px_Vx mv_L_53 fx rfl rfl (Nat.le_of_ble_eq_true rfl) (Nat.le_of_ble_eq_true rfl) ko_0 (Nat.le_of_ble_eq_true rfl) dL_fulfils_102 ?_
    refine sw_istore (i := 12) dL_fulfils_105 (Nat.le_of_ble_eq_true rfl) rfl ?_
    refine sw_lo (lo2 := [some (.ref 0), some (.int _), some (.int _), some (.int _), some (.int _), some (.int _), some (.int _), some (.int _), some (.int _), some (.int _), some (.int _), some (.int _), some (.int _), none]) rfl ?_
    refine sw_ic 0 dL_fulfils_107 ?_
    refine sw_istore (i := 13) dL_fulfils_108 (Nat.le_of_ble_eq_true rfl) rfl ?_
    refine sw_lo (lo2 := [some (.ref 0), some (.int _), some (.int _), some (.int _), some (.int _), some (.int _), some (.int _), some (.int _), some (.int _), some (.int _), some (.int _), some (.int _), some (.int _), some (.int _)]) rfl ?_
    refine sw_ins (pc2 := 110) rfl rfl ?_
    refine sw_iload (i := 13) dL_fulfils_110 rfl ?_
    refine sw_ic 4 dL_fulfils_112 ?_
    refine sw_ic_ge (tgt := 135) dL_fulfils_113 rfl (fun h9 => absurd h9 (by decide)) (fun _ => ?_)
    refine sw_iload (i := 11) dL_fulfils_116 rfl ?_
    refine sw_aload_n (i := 0) dL_fulfils_118 rfl rfl ?_
    refine sw_iload (i := 4) dL_fulfils_119 rfl ?_
    refine sw_iload (i := 13) dL_fulfils_121 rfl ?_
    refine px_Vx mv_L_24 xb1 rfl rfl (Nat.le_of_ble_eq_true rfl) (Nat.le_of_ble_eq_true rfl) ko_0 (Nat.le_of_ble_eq_true rfl) dL_fulfils_123 ?_
    refine sw_ins (pc2 := 126) rfl rfl ?_
    refine sw_iadd dL_fulfils_126 ?_
    refine sw_istore (i := 11) dL_fulfils_127 (Nat.le_of_ble_eq_true rfl) rfl ?_
    refine sw_lo (lo2 := [some (.ref 0), some (.int _), some (.int _), some (.int _), some (.int _), some (.int _), some (.int _), some (.int _), some (.int _), some (.int _), some (.int _), some (.int _), some (.int _), some (.int _)]) rfl ?_
    refine sw_iinc (i := 13) (v := nI 1) dL_fulfils_129 rfl (by decide) (Nat.le_of_ble_eq_true rfl) rfl ?_
    refine sw_lo (lo2 := [some (.ref 0), some (.int _), some (.int _), some (.int _), some (.int _), some (.int _), some (.int _), some (.int _), some (.int _), some (.int _), some (.int _), some (.int _), some (.int _), some (.int _)]) rfl ?_
    refine sw_goto (tgt := 110) dL_fulfils_132 rfl ?_
    refine sw_iload (i := 13) dL_fulfils_110 rfl ?_
    refine sw_ic 4 dL_fulfils_112 ?_
    refine sw_ic_ge (tgt := 135) dL_fulfils_113 rfl (fun h9 => absurd h9 (by decide)) (fun _ => ?_)
    refine sw_iload (i := 11) dL_fulfils_116 rfl ?_
    refine sw_ins (pc2 := 118) rfl rfl ?_
    refine sw_aload_n (i := 0) dL_fulfils_118 rfl rfl ?_
    refine sw_iload (i := 4) dL_fulfils_119 rfl ?_
    refine sw_iload (i := 13) dL_fulfils_121 rfl ?_
    refine px_Vx mv_L_24 xb2 rfl rfl (Nat.le_of_ble_eq_true rfl) (Nat.le_of_ble_eq_true rfl) ko_0 (Nat.le_of_ble_eq_true rfl) dL_fulfils_123 ?_
    refine sw_iadd dL_fulfils_126 ?_
    refine sw_istore (i := 11) dL_fulfils_127 (Nat.le_of_ble_eq_true rfl) rfl ?_
    refine sw_lo (lo2 := [some (.ref 0), some (.int _), some (.int _), some (.int _), some (.int _), some (.int _), some (.int _), some (.int _), some (.int _), some (.int _), some (.int _), some (.int _), some (.int _), some (.int _)]) rfl ?_
    refine sw_iinc (i := 13) (v := nI 2) dL_fulfils_129 rfl (by decide) (Nat.le_of_ble_eq_true rfl) rfl ?_
    refine sw_lo (lo2 := [some (.ref 0), some (.int _), some (.int _), some (.int _), some (.int _), some (.int _), some (.int _), some (.int _), some (.int _), some (.int _), some (.int _), some (.int _), some (.int _), some (.int _)]) rfl ?_
    refine sw_goto (tgt := 110) dL_fulfils_132 rfl ?_
    refine sw_ins (pc2 := 110) rfl rfl ?_
    refine sw_iload (i := 13) dL_fulfils_110 rfl ?_
    refine sw_ic 4 dL_fulfils_112 ?_
    refine sw_ic_ge (tgt := 135) dL_fulfils_113 rfl (fun h9 => absurd h9 (by decide)) (fun _ => ?_)
    refine sw_iload (i := 11) dL_fulfils_116 rfl ?_
    refine sw_aload_n (i := 0) dL_fulfils_118 rfl rfl ?_
    refine sw_iload (i := 4) dL_fulfils_119 rfl ?_
    refine sw_iload (i := 13) dL_fulfils_121 rfl ?_
    refine px_Vx mv_L_24 xb3 rfl rfl (Nat.le_of_ble_eq_true rfl) (Nat.le_of_ble_eq_true rfl) ko_0 (Nat.le_of_ble_eq_true rfl) dL_fulfils_123 ?_
    refine sw_ins (pc2 := 126) rfl rfl ?_
    refine sw_iadd dL_fulfils_126 ?_
    refine sw_istore (i := 11) dL_fulfils_127 (Nat.le_of_ble_eq_true rfl) rfl ?_
    refine sw_lo (lo2 := [some (.ref 0), some (.int _), some (.int _), some (.int _), some (.int _), some (.int _), some (.int _), some (.int _), some (.int _), some (.int _), some (.int _), some (.int _), some (.int _), some (.int _)]) rfl ?_
    refine sw_iinc (i := 13) (v := nI 3) dL_fulfils_129 rfl (by decide) (Nat.le_of_ble_eq_true rfl) rfl ?_
    refine sw_lo (lo2 := [some (.ref 0), some (.int _), some (.int _), some (.int _), some (.int _), some (.int _), some (.int _), some (.int _), some (.int _), some (.int _), some (.int _), some (.int _), some (.int _), some (.int _)]) rfl ?_
    refine sw_goto (tgt := 110) dL_fulfils_132 rfl ?_
    refine sw_iload (i := 13) dL_fulfils_110 rfl ?_
    refine sw_ic 4 dL_fulfils_112 ?_
    refine sw_ic_ge (tgt := 135) dL_fulfils_113 rfl (fun h9 => absurd h9 (by decide)) (fun _ => ?_)
    refine sw_iload (i := 11) dL_fulfils_116 rfl ?_
    refine sw_ins (pc2 := 118) rfl rfl ?_
    refine sw_aload_n (i := 0) dL_fulfils_118 rfl rfl ?_
    refine sw_iload (i := 4) dL_fulfils_119 rfl ?_
    refine sw_iload (i := 13) dL_fulfils_121 rfl ?_
    refine px_Vx mv_L_24 xb4 rfl rfl (Nat.le_of_ble_eq_true rfl) (Nat.le_of_ble_eq_true rfl) ko_0 (Nat.le_of_ble_eq_true rfl) dL_fulfils_123 ?_
    refine sw_iadd dL_fulfils_126 ?_
    refine sw_istore (i := 11) dL_fulfils_127 (Nat.le_of_ble_eq_true rfl) rfl ?_
    refine sw_lo (lo2 := [some (.ref 0), some (.int _), some (.int _), some (.int _), some (.int _), some (.int _), some (.int _), some (.int _), some (.int _), some (.int _), some (.int _), some (.int _), some (.int _), some (.int _)]) rfl ?_
    refine sw_iinc (i := 13) (v := nI 4) dL_fulfils_129 rfl (by decide) (Nat.le_of_ble_eq_true rfl) rfl ?_
    refine sw_lo (lo2 := [some (.ref 0), some (.int _), some (.int _), some (.int _), some (.int _), some (.int _), some (.int _), some (.int _), some (.int _), some (.int _), some (.int _), some (.int _), some (.int _), some (.int _)]) rfl ?_
    refine sw_goto (tgt := 110) dL_fulfils_132 rfl ?_
    refine sw_ins (pc2 := 110) rfl rfl ?_
    refine sw_iload (i := 13) dL_fulfils_110 rfl ?_
    refine sw_ic 4 dL_fulfils_112 ?_
    refine sw_ic_ge (tgt := 135) dL_fulfils_113 rfl (fun _ => ?_) (fun h9 => absurd (by decide) h9)
    refine sw_iload_n (i := 2) dL_fulfils_135 rfl rfl ?_
    refine sw_im1 dL_fulfils_136 ?_
    refine sw_ic_ne (tgt := 180) dL_fulfils_137 rfl (fun _ => ?_) (fun h9 => absurd h9 (nI_ne_m1 (by omega)))
    refine sw_iload (i := 12) dL_fulfils_180 rfl ?_
    refine sw_iload_n (i := 2) dL_fulfils_182 rfl rfl ?_
    refine sw_ins (pc2 := 183) rfl rfl ?_
    refine sw_ic_ne (tgt := 260) dL_fulfils_183 rfl (fun h9 => absurd rfl h9) (fun _ => ?_)
    refine sw_iload (i := 11) dL_fulfils_186 rfl ?_
    refine sw_iload_n (i := 2) dL_fulfils_188 rfl rfl ?_
    refine sw_ic_ne (tgt := 260) dL_fulfils_189 rfl (fun h9 => absurd (cap4 _ _ _ _ _ _ _ _) h9) (fun _ => ?_)
    refine sw_aload_n (i := 0) dL_fulfils_192 rfl rfl ?_
    refine sw_iload_n (i := 3) dL_fulfils_193 rfl rfl ?_
    refine sw_ic 0 dL_fulfils_194 ?_
    refine px_Vx mv_L_20 xb5 rfl rfl (Nat.le_of_ble_eq_true rfl) (Nat.le_of_ble_eq_true rfl) ko_0 (Nat.le_of_ble_eq_true rfl) dL_fulfils_195 ?_
    refine sw_ins (pc2 := 198) rfl rfl ?_
    refine sw_iload (i := 6) dL_fulfils_198 rfl ?_
    refine sw_iload (i := 5) dL_fulfils_200 rfl ?_
    refine sw_isub dL_fulfils_202 ?_
    refine sw_ic_ne (tgt := 260) dL_fulfils_203 rfl (fun h9 => absurd (by rw [pk_sub (by omega)]; congr 1; omega) h9) (fun _ => ?_)
    refine sw_aload_n (i := 0) dL_fulfils_206 rfl rfl ?_
    refine sw_iload (i := 4) dL_fulfils_207 rfl ?_
    refine sw_ic 0 dL_fulfils_209 ?_
    refine px_Vx mv_L_20 xb6 rfl rfl (Nat.le_of_ble_eq_true rfl) (Nat.le_of_ble_eq_true rfl) ko_0 (Nat.le_of_ble_eq_true rfl) dL_fulfils_210 ?_
    refine sw_ins (pc2 := 213) rfl rfl ?_
    refine sw_iload (i := 7) dL_fulfils_213 rfl ?_
    refine sw_iload (i := 5) dL_fulfils_215 rfl ?_
    refine sw_iadd dL_fulfils_217 ?_
    refine sw_ic_ne (tgt := 260) dL_fulfils_218 rfl (fun h9 => absurd (by rw [nI_add]; congr 1) h9) (fun _ => ?_)
    refine sw_aload_n (i := 0) dL_fulfils_221 rfl rfl ?_
    refine sw_ic 3 dL_fulfils_222 ?_
    refine px_Vx mv_L_34 xb7 rfl rfl (Nat.le_of_ble_eq_true rfl) (Nat.le_of_ble_eq_true rfl) ko_0 (Nat.le_of_ble_eq_true rfl) dL_fulfils_223 ?_
    refine sw_iload (i := 8) dL_fulfils_226 rfl ?_
    refine sw_ins (pc2 := 228) rfl rfl ?_
    refine sw_ic 1 dL_fulfils_228 ?_
    refine sw_isub dL_fulfils_229 ?_
    refine sw_ic_ne (tgt := 260) dL_fulfils_230 rfl (fun h9 => absurd (by rw [pk_sub (by omega)]) h9) (fun _ => ?_)
    refine sw_aload_n (i := 0) dL_fulfils_233 rfl rfl ?_
    refine sw_ic 5 dL_fulfils_234 ?_
    refine px_Vx mv_L_34 xb8 rfl rfl (Nat.le_of_ble_eq_true rfl) (Nat.le_of_ble_eq_true rfl) ko_0 (Nat.le_of_ble_eq_true rfl) dL_fulfils_235 ?_
    refine sw_iload (i := 9) dL_fulfils_238 rfl ?_
    refine sw_ic 1 dL_fulfils_240 ?_
    refine sw_ins (pc2 := 241) rfl rfl ?_
    refine sw_iadd dL_fulfils_241 ?_
    refine sw_ic_ne (tgt := 260) dL_fulfils_242 rfl (fun h9 => absurd rfl h9) (fun _ => ?_)
    refine sw_aload_n (i := 0) dL_fulfils_245 rfl rfl ?_
    refine sw_bi 7 dL_fulfils_246 (by decide +kernel) ?_
    refine px_Vx mv_L_34 xb9 rfl rfl (Nat.le_of_ble_eq_true rfl) (Nat.le_of_ble_eq_true rfl) ko_0 (Nat.le_of_ble_eq_true rfl) dL_fulfils_248 ?_
    refine sw_iload (i := 10) dL_fulfils_251 rfl ?_
    refine sw_ic_ne (tgt := 260) dL_fulfils_253 rfl (fun h9 => absurd rfl h9) (fun _ => ?_)
    refine sw_ic 1 dL_fulfils_256 ?_
    refine sw_ins (pc2 := 257) rfl rfl ?_
    refine sw_goto (tgt := 261) dL_fulfils_257 rfl ?_
    exact sw_zreturnE rfl rfl rfl dL_fulfils_261
