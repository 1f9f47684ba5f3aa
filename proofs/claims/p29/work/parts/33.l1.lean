/-! THE LAW'S METHODS, 1 -/
theorem nI_ne_m1' {n : Nat} (h : n < 2 ^ 31) : ¬ nI n = -1 := nI_ne_m1 h
theorem nlt_m1 {n : Nat} (h : n < 2 ^ 31) : ¬ nI n < -1 := by
  intro q
  have q2 := Int32.lt_iff_toInt_lt.mp q
  rw [nI_toInt h, show ((-1 : Int32)).toInt = -1 by decide] at q2
  omega
def lw (v : Int32) (n : Nat) : Nat := (v &&& 2147483647).toNatClampNeg % n
theorem lw_lt (v : Int32) {n : Nat} (h : 1 ≤ n) : lw v n < n := Nat.mod_lt _ (by omega)
theorem am_low (v : Int32) : ∃ j, j < 2 ^ 31 ∧ v &&& 2147483647 = nI j := by
  refine nI_of (fun q => ?_)
  have q2 := Int32.lt_iff_toInt_lt.mp q
  have h1 : (v &&& 2147483647).toBitVec.toNat ≤ 2147483647 := by
    rw [Int32.toBitVec_and, BitVec.toNat_and]
    exact Nat.and_le_right
  have h2 : (v &&& 2147483647).toInt = (((v &&& 2147483647).toBitVec.toNat : Nat) : Int) := by
    show (v &&& 2147483647).toBitVec.toInt = _
    exact BitVec.toInt_eq_toNat_of_lt (by omega)
  rw [h2, show ((0 : Int32).toInt) = 0 from rfl] at q2
  omega
set_option maxRecDepth 100000 in
set_option maxHeartbeats 4000000 in
theorem A_L_low {d : Nat → Nat → Int32} {r : Nat → Nat → Option Nat} {J : Nat → Nat → Int64} {v : Int32} {n : Nat} (hn : 1 ≤ n) (hn2 : n < 2 ^ 31) : OP kL_low yL_low 0 [.int v, .int (nI n)] d r J (some (.int (nI (lw v n)))) d r J := by
  refine op_of pl_L_low (Nat.le_of_ble_eq_true rfl) ?_
  refine sw_iload_n (i := 0) dL_low_0 rfl rfl ?_
  refine sw_ldc kc_L_9 dL_low_1 ?_
  refine sw_iand dL_low_3 ?_
  refine sw_iload_n (i := 1) dL_low_4 rfl rfl ?_
  refine sw_irem (nI_ne0 (by omega) (by omega)) dL_low_5 ?_
  refine sw_ireturnE ?_ rfl dL_low_6
  obtain ⟨j, h1, h2⟩ := am_low v
  unfold lw
  rw [h2, pk_rem h1 (by omega) (by omega), nI_clamp h1]
set_option maxRecDepth 100000 in
set_option maxHeartbeats 4000000 in
theorem A_L_pays {d : Nat → Nat → Int32} {r : Nat → Nat → Option Nat} {J : Nat → Nat → Int64} {V : Nat → Int32} {n : Nat} {H S : Nat → Nat → Int32} {t : Nat → Bool} {T : Nat → Int32} {tl : Nat} (h : RC d r V n H S t T tl) (iv : IV V n H S t T tl) {i s : Nat} (hi : i < 8) (hs : 1 ≤ s) (hs9 : s ≤ 99) : ∃ d1, OP kL_pays yL_pays 8 [.ref 0, .int (nI i), .int (nI s)] d r J (some (.int (nI 1))) d1 r J ∧ RC d1 r V n H S t T tl := by
  obtain ⟨okP, okM, okT9, okC, okW, okD⟩ := id iv.1
  have hb := wsm_b okW
  have hpl := pw_le okC okW hi
  have hpw : isl V i 0 = nI (pwN V i) := pw_nI okC okW hi
  obtain ⟨e1, x1, y1, -⟩ := C0_fewest (J := J) (a := i) (s := s) h iv hi hs hs9
  obtain ⟨e2, x2, y2, -⟩ := C1_fewest (J := J) (a := i) (s := s) y1 iv hi hs hs9
  obtain ⟨e3, x3, y3, -⟩ := C_islanderOf (J := J) (a := i) (k := 0) y2 iv hi (by decide)
  refine ⟨e3, op_of pl_L_pays (Nat.le_of_ble_eq_true rfl) ?_, y3⟩
  cases hw : wy V i s with
  | none =>
    rw [hw] at x1 x2
    by_cases hc : nI s ≤ isl V i 0
    ·
      refine sw_aload_n (i := 0) dL_pays_0 rfl rfl ?_
      refine sw_iload_n (i := 1) dL_pays_1 rfl rfl ?_
      refine sw_iload_n (i := 2) dL_pays_2 rfl rfl ?_
      refine sw_ic 0 dL_pays_3 ?_
      refine px_Vx mv_L_47 x1 rfl rfl (Nat.le_of_ble_eq_true rfl) (Nat.le_of_ble_eq_true rfl) ko_0 (Nat.le_of_ble_eq_true rfl) dL_pays_4 ?_
      refine sw_istore_n (i := 3) dL_pays_7 rfl (Nat.le_of_ble_eq_true rfl) rfl ?_
      refine sw_lo (lo2 := [some (.ref 0), some (.int _), some (.int _), some (.int _)]) rfl ?_
      refine sw_iload_n (i := 3) dL_pays_8 rfl rfl ?_
      refine sw_ins (pc2 := 9) rfl rfl ?_
      refine sw_aload_n (i := 0) dL_pays_9 rfl rfl ?_
      refine sw_iload_n (i := 1) dL_pays_10 rfl rfl ?_
      refine sw_iload_n (i := 2) dL_pays_11 rfl rfl ?_
      refine sw_ic 1 dL_pays_12 ?_
      refine px_Vx mv_L_47 x2 rfl rfl (Nat.le_of_ble_eq_true rfl) (Nat.le_of_ble_eq_true rfl) ko_0 (Nat.le_of_ble_eq_true rfl) dL_pays_13 ?_
      refine sw_ic_ne (tgt := 56) dL_pays_16 rfl (fun h9 => absurd (by decide) h9) (fun _ => ?_)
      refine sw_iload_n (i := 2) dL_pays_19 rfl rfl ?_
      refine sw_aload_n (i := 0) dL_pays_20 rfl rfl ?_
      refine sw_ins (pc2 := 21) rfl rfl ?_
      refine sw_iload_n (i := 1) dL_pays_21 rfl rfl ?_
      refine sw_ic 0 dL_pays_22 ?_
      refine px_Vx mv_L_20 x3 rfl rfl (Nat.le_of_ble_eq_true rfl) (Nat.le_of_ble_eq_true rfl) ko_0 (Nat.le_of_ble_eq_true rfl) dL_pays_23 ?_
      refine sw_ic_le (tgt := 37) dL_pays_26 rfl (fun _ => ?_) (fun h9 => absurd hc h9)
      refine sw_iload_n (i := 3) dL_pays_37 rfl rfl ?_
      refine sw_im1 dL_pays_38 ?_
      refine sw_ic_eq (tgt := 52) dL_pays_39 rfl (fun _ => ?_) (fun h9 => absurd (by decide) h9)
      refine sw_ic 1 dL_pays_52 ?_
      refine sw_ins (pc2 := 53) rfl rfl ?_
      refine sw_goto (tgt := 57) dL_pays_53 rfl ?_
      exact sw_zreturnE rfl rfl rfl dL_pays_57
    ·
      refine sw_aload_n (i := 0) dL_pays_0 rfl rfl ?_
      refine sw_iload_n (i := 1) dL_pays_1 rfl rfl ?_
      refine sw_iload_n (i := 2) dL_pays_2 rfl rfl ?_
      refine sw_ic 0 dL_pays_3 ?_
      refine px_Vx mv_L_47 x1 rfl rfl (Nat.le_of_ble_eq_true rfl) (Nat.le_of_ble_eq_true rfl) ko_0 (Nat.le_of_ble_eq_true rfl) dL_pays_4 ?_
      refine sw_istore_n (i := 3) dL_pays_7 rfl (Nat.le_of_ble_eq_true rfl) rfl ?_
      refine sw_lo (lo2 := [some (.ref 0), some (.int _), some (.int _), some (.int _)]) rfl ?_
      refine sw_iload_n (i := 3) dL_pays_8 rfl rfl ?_
      refine sw_ins (pc2 := 9) rfl rfl ?_
      refine sw_aload_n (i := 0) dL_pays_9 rfl rfl ?_
      refine sw_iload_n (i := 1) dL_pays_10 rfl rfl ?_
      refine sw_iload_n (i := 2) dL_pays_11 rfl rfl ?_
      refine sw_ic 1 dL_pays_12 ?_
      refine px_Vx mv_L_47 x2 rfl rfl (Nat.le_of_ble_eq_true rfl) (Nat.le_of_ble_eq_true rfl) ko_0 (Nat.le_of_ble_eq_true rfl) dL_pays_13 ?_
      refine sw_ic_ne (tgt := 56) dL_pays_16 rfl (fun h9 => absurd (by decide) h9) (fun _ => ?_)
      refine sw_iload_n (i := 2) dL_pays_19 rfl rfl ?_
      refine sw_aload_n (i := 0) dL_pays_20 rfl rfl ?_
      refine sw_ins (pc2 := 21) rfl rfl ?_
      refine sw_iload_n (i := 1) dL_pays_21 rfl rfl ?_
      refine sw_ic 0 dL_pays_22 ?_
      refine px_Vx mv_L_20 x3 rfl rfl (Nat.le_of_ble_eq_true rfl) (Nat.le_of_ble_eq_true rfl) ko_0 (Nat.le_of_ble_eq_true rfl) dL_pays_23 ?_
      refine sw_ic_le (tgt := 37) dL_pays_26 rfl (fun h9 => absurd h9 hc) (fun _ => ?_)
      refine sw_iload_n (i := 3) dL_pays_29 rfl rfl ?_
      refine sw_im1 dL_pays_30 ?_
      refine sw_ic_ne (tgt := 56) dL_pays_31 rfl (fun h9 => absurd (by decide) h9) (fun _ => ?_)
      refine sw_goto (tgt := 52) dL_pays_34 rfl ?_
      refine sw_ins (pc2 := 52) rfl rfl ?_
      refine sw_ic 1 dL_pays_52 ?_
      refine sw_goto (tgt := 57) dL_pays_53 rfl ?_
      exact sw_zreturnE rfl rfl rfl dL_pays_57
  | some wq =>
    obtain ⟨z, f, e9, t9⟩ := wq
    have hwy := wy_way okW hw
    have h1 := way_le hwy
    have h2 := way_tot okW hs hwy
    rw [hw] at x1 x2
    refine sw_aload_n (i := 0) dL_pays_0 rfl rfl ?_
    refine sw_iload_n (i := 1) dL_pays_1 rfl rfl ?_
    refine sw_iload_n (i := 2) dL_pays_2 rfl rfl ?_
    refine sw_ic 0 dL_pays_3 ?_
    refine px_Vx mv_L_47 x1 rfl rfl (Nat.le_of_ble_eq_true rfl) (Nat.le_of_ble_eq_true rfl) ko_0 (Nat.le_of_ble_eq_true rfl) dL_pays_4 ?_
    refine sw_istore_n (i := 3) dL_pays_7 rfl (Nat.le_of_ble_eq_true rfl) rfl ?_
    refine sw_lo (lo2 := [some (.ref 0), some (.int _), some (.int _), some (.int _)]) rfl ?_
    refine sw_iload_n (i := 3) dL_pays_8 rfl rfl ?_
    refine sw_ins (pc2 := 9) rfl rfl ?_
    refine sw_aload_n (i := 0) dL_pays_9 rfl rfl ?_
    refine sw_iload_n (i := 1) dL_pays_10 rfl rfl ?_
    refine sw_iload_n (i := 2) dL_pays_11 rfl rfl ?_
    refine sw_ic 1 dL_pays_12 ?_
    refine px_Vx mv_L_47 x2 rfl rfl (Nat.le_of_ble_eq_true rfl) (Nat.le_of_ble_eq_true rfl) ko_0 (Nat.le_of_ble_eq_true rfl) dL_pays_13 ?_
    refine sw_ic_ne (tgt := 56) dL_pays_16 rfl (fun h9 => absurd rfl h9) (fun _ => ?_)
    refine sw_iload_n (i := 2) dL_pays_19 rfl rfl ?_
    refine sw_aload_n (i := 0) dL_pays_20 rfl rfl ?_
    refine sw_ins (pc2 := 21) rfl rfl ?_
    refine sw_iload_n (i := 1) dL_pays_21 rfl rfl ?_
    refine sw_ic 0 dL_pays_22 ?_
    refine px_Vx mv_L_20 x3 rfl rfl (Nat.le_of_ble_eq_true rfl) (Nat.le_of_ble_eq_true rfl) ko_0 (Nat.le_of_ble_eq_true rfl) dL_pays_23 ?_
    refine sw_ic_le (tgt := 37) dL_pays_26 rfl (fun _ => ?_) (fun h9 => absurd (by rw [hpw]; exact nI_le h1 (by omega)) h9)
    refine sw_iload_n (i := 3) dL_pays_37 rfl rfl ?_
    refine sw_im1 dL_pays_38 ?_
    refine sw_ic_eq (tgt := 52) dL_pays_39 rfl (fun h9 => absurd h9 (nI_ne_m1 (by omega))) (fun _ => ?_)
    refine sw_iload_n (i := 3) dL_pays_42 rfl rfl ?_
    refine sw_ins (pc2 := 43) rfl rfl ?_
    refine sw_ic 1 dL_pays_43 ?_
    refine sw_ic_lt (tgt := 56) dL_pays_44 rfl (fun h9 => absurd h9 (nI_nlt (by omega) (by omega))) (fun _ => ?_)
    refine sw_iload_n (i := 3) dL_pays_47 rfl rfl ?_
    refine sw_iload_n (i := 2) dL_pays_48 rfl rfl ?_
    refine sw_ic_gt (tgt := 56) dL_pays_49 rfl (fun h9 => absurd h9 (nI_nlt (by omega) (by omega))) (fun _ => ?_)
    refine sw_ic 1 dL_pays_52 ?_
    refine sw_goto (tgt := 57) dL_pays_53 rfl ?_
    exact sw_zreturnE rfl rfl rfl dL_pays_57
def fo (g : Nat → Int32) (h : Int64) : Nat → Int64
  | 0 => h
  | i + 1 => 31 * fo g h i + (g i).toInt64
def tG (V : Nat → Int32) (a : Nat) (h : Int64) : Nat → Int64
  | 0 => h
  | k + 1 => 31 * (31 * tG V a h k + (isl V a k).toInt64) + (V (19 + (a * 4 + k % 4))).toInt64
def tH (V : Nat → Int32) (h : Int64) : Nat → Int64
  | 0 => h
  | i + 1 => tG V i (tH V h i) 5
noncomputable def tal (V : Nat → Int32) : Int64 := fo (fun k => pro V (k / 5) (k % 5)) (tH V (fo (cnt V 0) 23 9) 8) (5 * nv V 1)
theorem fo_cnt (V : Nat → Int32) (n : Nat) (h : Int64) : fo (cnt V n) h 9 = fo (cnt V 0) h 9 := rfl
set_option maxRecDepth 100000 in
set_option maxHeartbeats 4000000 in
theorem A_L_tale {d : Nat → Nat → Int32} {r : Nat → Nat → Option Nat} {J : Nat → Nat → Int64} {V : Nat → Int32} {n : Nat} {H S : Nat → Nat → Int32} {t : Nat → Bool} {T : Nat → Int32} {tl : Nat} (h : RC d r V n H S t T tl) (iv : IV V n H S t T tl)  : ∃ d1, OP kL_tale yL_tale 8 [.ref 0] d r J (some (.long (tal V))) d1 r J ∧ RC d1 r V n H S t T tl := by
  have okM := iv.1.2.1
  have hm8 := okM.2
  have hmn : cnt V n 3 = nI (nv V 1) := okM.1
  have K3 : ∀ i, i ≤ 5 * nv V 1 → ∀ d, RC d r V n H S t T tl → ∃ d1, SW yL_tale cL_tale 5 (some .long) [] 8 none 92 [some (.ref 0), some (.long (fo (fun k => pro V (k / 5) (k % 5)) (tH V (fo (cnt V 0) 23 9) 8) i)), none, some (.int (nI i)), none] [] 65 (W0 d r J) 0 0 (.inl (some (.long (tal V)))) 65 (W0 d1 r J) ∧ RC d1 r V n H S t T tl := by
    refine am_loop (5 * nv V 1) ?_ ?_
    · intro d h
      obtain ⟨e1, x1, y1, -⟩ := C_count (J := J) (k := 3) h iv (by decide)
      rw [hmn] at x1
      refine ⟨e1, ?_, y1⟩
      refine sw_iload_n (i := 3) dL_tale_92 rfl rfl ?_
      refine sw_ic 5 dL_tale_93 ?_
      refine sw_aload_n (i := 0) dL_tale_94 rfl rfl ?_
      refine sw_ic 3 dL_tale_95 ?_
      refine px_Vx mv_L_34 x1 rfl rfl (Nat.le_of_ble_eq_true rfl) (Nat.le_of_ble_eq_true rfl) ko_0 (Nat.le_of_ble_eq_true rfl) dL_tale_96 ?_
      refine sw_imul dL_tale_99 ?_
      refine sw_topE (v := nI (5 * nv V 1)) (pk_mul _ _) ?_
      refine sw_ic_ge (tgt := 127) dL_tale_100 rfl (fun _ => ?_) (fun h9 => absurd (nI_le (Nat.le_refl _) (by omega)) h9)
      refine sw_ins (pc2 := 127) rfl rfl ?_
      refine sw_lload_n (i := 1) dL_tale_127 rfl rfl ?_
      exact sw_lreturn rfl dL_tale_128
    · intro i hi ih d h
      obtain ⟨e1, x1, y1, -⟩ := C_count (J := J) (k := 3) h iv (by decide)
      rw [hmn] at x1
      obtain ⟨e2, x2, y2, -⟩ := C_promiseOf (J := J) (q := i / 5) (k := i % 5) y1 iv (by omega) (by omega)
      obtain ⟨d1, z1, z2⟩ := ih e2 y2
      refine ⟨d1, ?_, z2⟩
      refine sw_iload_n (i := 3) dL_tale_92 rfl rfl ?_
      refine sw_ic 5 dL_tale_93 ?_
      refine sw_aload_n (i := 0) dL_tale_94 rfl rfl ?_
      refine sw_ic 3 dL_tale_95 ?_
      refine px_Vx mv_L_34 x1 rfl rfl (Nat.le_of_ble_eq_true rfl) (Nat.le_of_ble_eq_true rfl) ko_0 (Nat.le_of_ble_eq_true rfl) dL_tale_96 ?_
      refine sw_imul dL_tale_99 ?_
      refine sw_topE (v := nI (5 * nv V 1)) (pk_mul _ _) ?_
      refine sw_ic_ge (tgt := 127) dL_tale_100 rfl (fun h9 => absurd h9 (nI_ge hi (by omega))) (fun _ => ?_)
      refine sw_ins (pc2 := 103) rfl rfl ?_
      refine sw_ldc2 kc_L_73 dL_tale_103 ?_
      refine sw_lload_n (i := 1) dL_tale_106 rfl rfl ?_
      refine sw_lmul dL_tale_107 ?_
      refine sw_aload_n (i := 0) dL_tale_108 rfl rfl ?_
      refine sw_iload_n (i := 3) dL_tale_109 rfl rfl ?_
      refine sw_ic 5 dL_tale_110 ?_
      refine sw_idiv (by decide) dL_tale_111 ?_
      refine sw_topE (v := nI (i / 5)) (pk_div (by omega) (by decide) (by decide)) ?_
      refine sw_iload_n (i := 3) dL_tale_112 rfl rfl ?_
      refine sw_ins (pc2 := 113) rfl rfl ?_
      refine sw_ic 5 dL_tale_113 ?_
      refine sw_irem (by decide) dL_tale_114 ?_
      refine sw_topE (v := nI (i % 5)) (pk_rem (by omega) (by decide) (by decide)) ?_
      refine px_Vx mv_L_41 x2 rfl rfl (Nat.le_of_ble_eq_true rfl) (Nat.le_of_ble_eq_true rfl) ko_0 (Nat.le_of_ble_eq_true rfl) dL_tale_115 ?_
      refine sw_i2l dL_tale_118 ?_
      refine sw_ladd dL_tale_119 ?_
      refine sw_lstore_n (i := 1) dL_tale_120 rfl (Nat.le_of_ble_eq_true rfl) rfl ?_
      refine sw_lo (lo2 := [some (.ref 0), some (.long _), none, some (.int _), none]) rfl ?_
      refine sw_iinc (i := 3) (v := nI (i + 1)) dL_tale_121 rfl (nI_1 _) (Nat.le_of_ble_eq_true rfl) rfl ?_
      refine sw_lo (lo2 := [some (.ref 0), some (.long _), none, some (.int _), none]) rfl ?_
      refine sw_goto (tgt := 92) dL_tale_124 rfl ?_
      exact z1
  have K2 : ∀ i, i ≤ 8 → ∀ d, RC d r V n H S t T tl → ∃ d1, SW yL_tale cL_tale 5 (some .long) [] 8 none 33 [some (.ref 0), some (.long (tH V (fo (cnt V 0) 23 9) i)), none, some (.int (nI i)), none] [] 65 (W0 d r J) 0 0 (.inl (some (.long (tal V)))) 65 (W0 d1 r J) ∧ RC d1 r V n H S t T tl := by
    refine am_loop (8) ?_ ?_
    · intro d h
      obtain ⟨d1, z1, z2⟩ := K3 0 (Nat.zero_le _) d h
      refine ⟨d1, ?_, z2⟩
      refine sw_iload_n (i := 3) dL_tale_33 rfl rfl ?_
      refine sw_bi 8 dL_tale_34 (by decide +kernel) ?_
      refine sw_ic_ge (tgt := 90) dL_tale_36 rfl (fun _ => ?_) (fun h9 => absurd (nI_le (Nat.le_refl _) (by decide)) h9)
      refine sw_ic 0 dL_tale_90 ?_
      refine sw_istore_n (i := 3) dL_tale_91 rfl (Nat.le_of_ble_eq_true rfl) rfl ?_
      refine sw_lo (lo2 := [some (.ref 0), some (.long _), none, some (.int _), none]) rfl ?_
      refine sw_sub ?_ z1
      exact ⟨rfl, rfl, rfl, trivial⟩
    · intro i hi ih d h
      have G : ∀ k, k ≤ 5 → ∀ d, RC d r V n H S t T tl → ∃ d1, SW yL_tale cL_tale 5 (some .long) [] 8 none 42 [some (.ref 0), some (.long (tG V i (tH V (fo (cnt V 0) 23 9) i) k)), none, some (.int (nI i)), some (.int (nI k))] [] 65 (W0 d r J) 0 0 (.inl (some (.long (tal V)))) 65 (W0 d1 r J) ∧ RC d1 r V n H S t T tl := by
        refine am_loop 5 ?_ ?_
        · intro d h
          obtain ⟨d1, z1, z2⟩ := ih d h
          refine ⟨d1, ?_, z2⟩
          refine sw_iload (i := 4) dL_tale_42 rfl ?_
          refine sw_ic 5 dL_tale_44 ?_
          refine sw_ic_ge (tgt := 84) dL_tale_45 rfl (fun _ => ?_) (fun h9 => absurd (nI_le (Nat.le_refl _) (by decide)) h9)
          refine sw_iinc (i := 3) (v := nI (i + 1)) dL_tale_84 rfl (nI_1 _) (Nat.le_of_ble_eq_true rfl) rfl ?_
          refine sw_lo (lo2 := [some (.ref 0), some (.long _), none, some (.int _), some (.int _)]) rfl ?_
          refine sw_goto (tgt := 33) dL_tale_87 rfl ?_
          refine sw_sub ?_ z1
          exact ⟨rfl, rfl, rfl, trivial⟩
        · intro k hk ihk d h
          obtain ⟨e1, x1, y1, -⟩ := C_islanderOf (J := J) (a := i) (k := k) h iv hi hk
          obtain ⟨e2, x2, y2, -⟩ := C_caps (J := J) (a := i) (c := k % 4) y1 iv hi (by omega)
          obtain ⟨d1, z1, z2⟩ := ihk e2 y2
          refine ⟨d1, ?_, z2⟩
          refine sw_iload (i := 4) dL_tale_42 rfl ?_
          refine sw_ic 5 dL_tale_44 ?_
          refine sw_ic_ge (tgt := 84) dL_tale_45 rfl (fun h9 => absurd h9 (nI_ge hk (by decide))) (fun _ => ?_)
          refine sw_ldc2 kc_L_73 dL_tale_48 ?_
          refine sw_ldc2 kc_L_73 dL_tale_51 ?_
          refine sw_lload_n (i := 1) dL_tale_54 rfl rfl ?_
          refine sw_lmul dL_tale_55 ?_
          refine sw_ins (pc2 := 56) rfl rfl ?_
          refine sw_aload_n (i := 0) dL_tale_56 rfl rfl ?_
          refine sw_iload_n (i := 3) dL_tale_57 rfl rfl ?_
          refine sw_iload (i := 4) dL_tale_58 rfl ?_
          refine px_Vx mv_L_20 x1 rfl rfl (Nat.le_of_ble_eq_true rfl) (Nat.le_of_ble_eq_true rfl) ko_0 (Nat.le_of_ble_eq_true rfl) dL_tale_60 ?_
          refine sw_i2l dL_tale_63 ?_
          refine sw_ladd dL_tale_64 ?_
          refine sw_lmul dL_tale_65 ?_
          refine sw_aload_n (i := 0) dL_tale_66 rfl rfl ?_
          refine sw_ins (pc2 := 67) rfl rfl ?_
          refine sw_iload_n (i := 3) dL_tale_67 rfl rfl ?_
          refine sw_iload (i := 4) dL_tale_68 rfl ?_
          refine sw_ic 4 dL_tale_70 ?_
          refine sw_irem (by decide) dL_tale_71 ?_
          refine sw_topE (v := nI (k % 4)) (pk_rem (by omega) (by decide) (by decide)) ?_
          refine px_Vx mv_L_24 x2 rfl rfl (Nat.le_of_ble_eq_true rfl) (Nat.le_of_ble_eq_true rfl) ko_0 (Nat.le_of_ble_eq_true rfl) dL_tale_72 ?_
          refine sw_i2l dL_tale_75 ?_
          refine sw_ladd dL_tale_76 ?_
          refine sw_lstore_n (i := 1) dL_tale_77 rfl (Nat.le_of_ble_eq_true rfl) rfl ?_
          refine sw_lo (lo2 := [some (.ref 0), some (.long _), none, some (.int _), some (.int _)]) rfl ?_
          refine sw_ins (pc2 := 78) rfl rfl ?_
          refine sw_iinc (i := 4) (v := nI (k + 1)) dL_tale_78 rfl (nI_1 _) (Nat.le_of_ble_eq_true rfl) rfl ?_
          refine sw_lo (lo2 := [some (.ref 0), some (.long _), none, some (.int _), some (.int _)]) rfl ?_
          refine sw_goto (tgt := 42) dL_tale_81 rfl ?_
          exact z1
      obtain ⟨d1, z1, z2⟩ := G 0 (Nat.zero_le _) d h
      refine ⟨d1, ?_, z2⟩
      refine sw_iload_n (i := 3) dL_tale_33 rfl rfl ?_
      refine sw_bi 8 dL_tale_34 (by decide +kernel) ?_
      refine sw_ic_ge (tgt := 90) dL_tale_36 rfl (fun h9 => absurd h9 (nI_ge hi (by decide))) (fun _ => ?_)
      refine sw_ic 0 dL_tale_39 ?_
      refine sw_istore (i := 4) dL_tale_40 (Nat.le_of_ble_eq_true rfl) rfl ?_
      refine sw_lo (lo2 := [some (.ref 0), some (.long _), none, some (.int _), some (.int _)]) rfl ?_
      exact z1
  have K1 : ∀ i, i ≤ 9 → ∀ d, RC d r V n H S t T tl → ∃ d1, SW yL_tale cL_tale 5 (some .long) [] 8 none 6 [some (.ref 0), some (.long (fo (cnt V n) 23 i)), none, some (.int (nI i)), none] [] 65 (W0 d r J) 0 0 (.inl (some (.long (tal V)))) 65 (W0 d1 r J) ∧ RC d1 r V n H S t T tl := by
    refine am_loop (9) ?_ ?_
    · intro d h
      obtain ⟨d1, z1, z2⟩ := K2 0 (Nat.zero_le _) d h
      refine ⟨d1, ?_, z2⟩
      refine sw_iload_n (i := 3) dL_tale_6 rfl rfl ?_
      refine sw_bi 9 dL_tale_7 (by decide +kernel) ?_
      refine sw_ic_ge (tgt := 31) dL_tale_9 rfl (fun _ => ?_) (fun h9 => absurd (nI_le (Nat.le_refl _) (by decide)) h9)
      refine sw_ic 0 dL_tale_31 ?_
      refine sw_istore_n (i := 3) dL_tale_32 rfl (Nat.le_of_ble_eq_true rfl) rfl ?_
      refine sw_lo (lo2 := [some (.ref 0), some (.long _), none, some (.int _), none]) rfl ?_
      exact z1
    · intro i hi ih d h
      obtain ⟨e1, x1, y1, -⟩ := C_count (J := J) (k := i) h iv (by omega)
      obtain ⟨d1, z1, z2⟩ := ih e1 y1
      refine ⟨d1, ?_, z2⟩
      refine sw_iload_n (i := 3) dL_tale_6 rfl rfl ?_
      refine sw_bi 9 dL_tale_7 (by decide +kernel) ?_
      refine sw_ic_ge (tgt := 31) dL_tale_9 rfl (fun h9 => absurd h9 (nI_ge hi (by decide))) (fun _ => ?_)
      refine sw_ldc2 kc_L_73 dL_tale_12 ?_
      refine sw_lload_n (i := 1) dL_tale_15 rfl rfl ?_
      refine sw_lmul dL_tale_16 ?_
      refine sw_aload_n (i := 0) dL_tale_17 rfl rfl ?_
      refine sw_ins (pc2 := 18) rfl rfl ?_
      refine sw_iload_n (i := 3) dL_tale_18 rfl rfl ?_
      refine px_Vx mv_L_34 x1 rfl rfl (Nat.le_of_ble_eq_true rfl) (Nat.le_of_ble_eq_true rfl) ko_0 (Nat.le_of_ble_eq_true rfl) dL_tale_19 ?_
      refine sw_i2l dL_tale_22 ?_
      refine sw_ladd dL_tale_23 ?_
      refine sw_lstore_n (i := 1) dL_tale_24 rfl (Nat.le_of_ble_eq_true rfl) rfl ?_
      refine sw_lo (lo2 := [some (.ref 0), some (.long _), none, some (.int _), none]) rfl ?_
      refine sw_iinc (i := 3) (v := nI (i + 1)) dL_tale_25 rfl (nI_1 _) (Nat.le_of_ble_eq_true rfl) rfl ?_
      refine sw_lo (lo2 := [some (.ref 0), some (.long _), none, some (.int _), none]) rfl ?_
      refine sw_goto (tgt := 6) dL_tale_28 rfl ?_
      exact z1
  obtain ⟨d1, z1, z2⟩ := K1 0 (Nat.zero_le _) d h
  refine ⟨d1, op_of pl_L_tale (Nat.le_of_ble_eq_true rfl) ?_, z2⟩
  refine sw_ldc2 kc_L_71 dL_tale_0 ?_
  refine sw_lstore_n (i := 1) dL_tale_3 rfl (Nat.le_of_ble_eq_true rfl) rfl ?_
  refine sw_lo (lo2 := [some (.ref 0), some (.long _), none, none, none]) rfl ?_
  refine sw_ic 0 dL_tale_4 ?_
  refine sw_istore_n (i := 3) dL_tale_5 rfl (Nat.le_of_ble_eq_true rfl) rfl ?_
  refine sw_lo (lo2 := [some (.ref 0), some (.long _), none, some (.int _), none]) rfl ?_
  exact z1
set_option maxRecDepth 100000 in
set_option maxHeartbeats 4000000 in
theorem A_L_arePromises {d : Nat → Nat → Int32} {r : Nat → Nat → Option Nat} {J : Nat → Nat → Int64} {V : Nat → Int32} {n : Nat} {H S : Nat → Nat → Int32} {t : Nat → Bool} {T : Nat → Int32} {tl : Nat} (h : RC d r V n H S t T tl) (iv : IV V n H S t T tl) {D : Nat} (hd : dueV V) (hD : dd V D) (hD9 : D ≤ 200) : ∃ d1, OP kL_arePromises yL_arePromises 8 [.ref 0] d r J (some (.int (nI 1))) d1 r J ∧ RC d1 r V n H S t T tl := by
  obtain ⟨okP, okM, okT9, okC, okW, okD⟩ := id iv.1
  have hm8 := okM.2
  have hmn : cnt V n 3 = nI (nv V 1) := okM.1
  have K2 : ∀ i, i ≤ nv V 1 → ∀ d, RC d r V n H S t T tl → ∃ d1, SW yL_arePromises cL_arePromises 9 (some .boolean) [] 8 none 39 [some (.ref 0), some (.int (rs (fun q => V (51 + (q * 4 + 2))) i)), some (.int (rs (fun i => isl V i 3) 8)), some (.int (nI (nv V 1))), some (.int (nI i)), none, none, none, none] [] 65 (W0 d r J) 0 0 (.inl (some (.int (nI 1)))) 65 (W0 d1 r J) ∧ RC d1 r V n H S t T tl := by
    refine am_loop (nv V 1) ?_ ?_
    · intro d h
      refine ⟨d, ?_, h⟩
      refine sw_iload (i := 4) dL_arePromises_39 rfl ?_
      refine sw_iload_n (i := 3) dL_arePromises_41 rfl rfl ?_
      refine sw_ic_ge (tgt := 184) dL_arePromises_42 rfl (fun _ => ?_) (fun h9 => absurd (nI_le (Nat.le_refl _) (by omega)) h9)
      refine sw_iload_n (i := 3) dL_arePromises_184 rfl rfl ?_
      refine sw_bi 8 dL_arePromises_185 (by decide +kernel) ?_
      refine sw_ic_gt (tgt := 199) dL_arePromises_187 rfl (fun h9 => absurd h9 (nI_nlt hm8 (by decide))) (fun _ => ?_)
      refine sw_iload_n (i := 1) dL_arePromises_190 rfl rfl ?_
      refine sw_ins (pc2 := 191) rfl rfl ?_
      refine sw_iload_n (i := 2) dL_arePromises_191 rfl rfl ?_
      refine sw_ic_ne (tgt := 199) dL_arePromises_192 rfl (fun h9 => absurd ((smt_all V (nv V 1)).symm.trans (isl_from iv.1).symm) h9) (fun _ => ?_)
      refine sw_ic 1 dL_arePromises_195 ?_
      refine sw_goto (tgt := 200) dL_arePromises_196 rfl ?_
      exact sw_zreturnE rfl rfl rfl dL_arePromises_200
    · intro i hi ih d h
      obtain ⟨p1, p2, p3, p4, p5, p6, p7⟩ := okT9 i hi
      have hdu := hd i hi
      have hdd := hD.2 i hi
      have hp0 : pro V i 0 = nI (prt V i 0) := p1 0 (by decide)
      have hp1 : pro V i 1 = nI (prt V i 1) := p1 1 (by decide)
      have hp2 : pro V i 2 = nI (prt V i 2) := p1 2 (by decide)
      have hp3 : pro V i 3 = nI (prt V i 3) := p1 3 (by decide)
      have hp2b : V (51 + (i * 4 + 2)) = nI (prt V i 2) := p1 2 (by decide)
      have hday : cnt V n 0 = nI (nv V 0) := okD.1.1
      obtain ⟨e1, x1, y1, -⟩ := C_promiseOf (J := J) (q := i) (k := 3) h iv hi (by decide)
      rw [hp3] at x1
      obtain ⟨e2, x2, y2, -⟩ := C_count (J := J) (k := 0) y1 iv (by decide)
      rw [hday] at x2
      obtain ⟨e3, x3, y3, -⟩ := C_canKeepIn (J := J) (q := i) y2 iv hi
      obtain ⟨e4, x4, y4, -⟩ := C_promiseOf (J := J) (q := i) (k := 4) y3 iv hi (by decide)
      obtain ⟨e5, x5, y5, -⟩ := C_promiseOf (J := J) (q := i) (k := 2) y4 iv hi (by decide)
      rw [hp2] at x5
      obtain ⟨e6, x6, y6, -⟩ := C_promiseOf (J := J) (q := i) (k := 0) y5 iv hi (by decide)
      rw [hp0] at x6
      obtain ⟨e7, x7, y7, -⟩ := C_promiseOf (J := J) (q := i) (k := 2) y6 iv hi (by decide)
      rw [hp2] at x7
      obtain ⟨e8, x8, y8, -⟩ := C0_fewest (J := J) (a := prt V i 0) (s := prt V i 2) y7 iv p2 p5 p6
      obtain ⟨e9, x9, y9, -⟩ := C_promiseOf (J := J) (q := i) (k := 0) y8 iv hi (by decide)
      rw [hp0] at x9
      obtain ⟨e10, x10, y10, -⟩ := C_promiseOf (J := J) (q := i) (k := 1) y9 iv hi (by decide)
      rw [hp1] at x10
      obtain ⟨d1, z1, z2⟩ := ih e10 y10
      refine ⟨d1, ?_, z2⟩
      have hrs : rs (fun q => V (51 + (q * 4 + 2))) ((i + 1)) = rs (fun q => V (51 + (q * 4 + 2))) i + nI (prt V i 2) := by rw [rs_s, hp2b]
      rw [hrs] at z1
      have hck : ckp V i = ckG V (prt V i 2) (min (prt V i 3) 9999 + 1 - nv V 0) (prt V i 0) 0 := rfl
      have hmin : min (prt V i 3) 9999 = prt V i 3 := Nat.min_eq_left (by omega)
      rw [hmin] at hck
      have h4 : pro V i 4 = enc (wy V (prt V i 0) (prt V i 2)) := rfl
      rw [h4] at x4
      have sp := ckG_spec (V := V) (s := prt V i 2) (prt V i 3 + 1 - nv V 0) (prt V i 0) 0
      rw [← hck] at sp
      cases hw : wy V (prt V i 0) (prt V i 2) with
      | some wq =>
        have hk : ckp V i = nI 0 := by
          rcases sp with ⟨j, j1, j2, j3, j4⟩ | ⟨j1, j2⟩
          · rcases Nat.eq_zero_or_pos j with e | e
            · rw [j2, e]
            · have := j4 0 e
              rw [show sI V (prt V i 0) 0 = prt V i 0 from rfl, hw] at this
              cases this
          · have := j2 0 (by omega)
            rw [show sI V (prt V i 0) 0 = prt V i 0 from rfl, hw] at this
            cases this
        rw [hk] at x3
        obtain ⟨z, f, e9, t9⟩ := wq
        have hsm := wy_small okC p2 hw
        rw [hw] at x4 x8
        refine sw_iload (i := 4) dL_arePromises_39 rfl ?_
        refine sw_iload_n (i := 3) dL_arePromises_41 rfl rfl ?_
        refine sw_ic_ge (tgt := 184) dL_arePromises_42 rfl (fun h9 => absurd h9 (nI_ge hi (by omega))) (fun _ => ?_)
        refine sw_aload_n (i := 0) dL_arePromises_45 rfl rfl ?_
        refine sw_iload (i := 4) dL_arePromises_46 rfl ?_
        refine sw_ic 3 dL_arePromises_48 ?_
        refine px_Vx mv_L_41 x1 rfl rfl (Nat.le_of_ble_eq_true rfl) (Nat.le_of_ble_eq_true rfl) ko_0 (Nat.le_of_ble_eq_true rfl) dL_arePromises_49 ?_
        refine sw_ins (pc2 := 52) rfl rfl ?_
        refine sw_aload_n (i := 0) dL_arePromises_52 rfl rfl ?_
        refine sw_ic 0 dL_arePromises_53 ?_
        refine px_Vx mv_L_34 x2 rfl rfl (Nat.le_of_ble_eq_true rfl) (Nat.le_of_ble_eq_true rfl) ko_0 (Nat.le_of_ble_eq_true rfl) dL_arePromises_54 ?_
        refine sw_isub dL_arePromises_57 ?_
        refine sw_topE (v := nI (prt V i 3 - nv V 0)) (pk_sub hdu) ?_
        refine sw_istore (i := 5) dL_arePromises_58 (Nat.le_of_ble_eq_true rfl) rfl ?_
        refine sw_lo (lo2 := [some (.ref 0), some (.int _), some (.int _), some (.int _), some (.int _), some (.int _), none, none, none]) rfl ?_
        refine sw_aload_n (i := 0) dL_arePromises_60 rfl rfl ?_
        refine sw_iload (i := 4) dL_arePromises_61 rfl ?_
        refine px_Vx mv_L_44 x3 rfl rfl (Nat.le_of_ble_eq_true rfl) (Nat.le_of_ble_eq_true rfl) ko_0 (Nat.le_of_ble_eq_true rfl) dL_arePromises_63 ?_
        refine sw_ins (pc2 := 66) rfl rfl ?_
        refine sw_istore (i := 6) dL_arePromises_66 (Nat.le_of_ble_eq_true rfl) rfl ?_
        refine sw_lo (lo2 := [some (.ref 0), some (.int _), some (.int _), some (.int _), some (.int _), some (.int _), some (.int _), none, none]) rfl ?_
        refine sw_aload_n (i := 0) dL_arePromises_68 rfl rfl ?_
        refine sw_iload (i := 4) dL_arePromises_69 rfl ?_
        refine sw_ic 4 dL_arePromises_71 ?_
        refine px_Vx mv_L_41 x4 rfl rfl (Nat.le_of_ble_eq_true rfl) (Nat.le_of_ble_eq_true rfl) ko_0 (Nat.le_of_ble_eq_true rfl) dL_arePromises_72 ?_
        refine sw_istore (i := 7) dL_arePromises_75 (Nat.le_of_ble_eq_true rfl) rfl ?_
        refine sw_lo (lo2 := [some (.ref 0), some (.int _), some (.int _), some (.int _), some (.int _), some (.int _), some (.int _), some (.int _), none]) rfl ?_
        refine sw_iload_n (i := 1) dL_arePromises_77 rfl rfl ?_
        refine sw_aload_n (i := 0) dL_arePromises_78 rfl rfl ?_
        refine sw_ins (pc2 := 79) rfl rfl ?_
        refine sw_iload (i := 4) dL_arePromises_79 rfl ?_
        refine sw_ic 2 dL_arePromises_81 ?_
        refine px_Vx mv_L_41 x5 rfl rfl (Nat.le_of_ble_eq_true rfl) (Nat.le_of_ble_eq_true rfl) ko_0 (Nat.le_of_ble_eq_true rfl) dL_arePromises_82 ?_
        refine sw_iadd dL_arePromises_85 ?_
        refine sw_istore_n (i := 1) dL_arePromises_86 rfl (Nat.le_of_ble_eq_true rfl) rfl ?_
        refine sw_lo (lo2 := [some (.ref 0), some (.int _), some (.int _), some (.int _), some (.int _), some (.int _), some (.int _), some (.int _), none]) rfl ?_
        refine sw_iload (i := 5) dL_arePromises_87 rfl ?_
        refine sw_if_lt (tgt := 168) dL_arePromises_89 rfl (fun h9 => absurd h9 (nI_pos (by omega))) (fun _ => ?_)
        refine sw_iload (i := 6) dL_arePromises_92 rfl ?_
        refine sw_ins (pc2 := 94) rfl rfl ?_
        refine sw_if_ne (tgt := 101) dL_arePromises_94 rfl (fun h9 => absurd (by decide) h9) (fun _ => ?_)
        refine sw_ic 1 dL_arePromises_97 ?_
        refine sw_goto (tgt := 102) dL_arePromises_98 rfl ?_
        refine sw_iload (i := 7) dL_arePromises_102 rfl ?_
        refine sw_im1 dL_arePromises_104 ?_
        refine sw_ic_eq (tgt := 112) dL_arePromises_105 rfl (fun h9 => absurd h9 (nI_ne_m1 (by omega))) (fun _ => ?_)
        refine sw_ic 1 dL_arePromises_108 ?_
        refine sw_goto (tgt := 113) dL_arePromises_109 rfl ?_
        refine sw_ins (pc2 := 113) rfl rfl ?_
        refine sw_ic_ne (tgt := 168) dL_arePromises_113 rfl (fun h9 => absurd (by decide) h9) (fun _ => ?_)
        refine sw_iload (i := 6) dL_arePromises_116 rfl ?_
        refine sw_iload (i := 5) dL_arePromises_118 rfl ?_
        refine sw_ic_gt (tgt := 168) dL_arePromises_120 rfl (fun h9 => absurd h9 (nI_nlt (by omega) (by omega))) (fun _ => ?_)
        refine sw_iload (i := 7) dL_arePromises_123 rfl ?_
        refine sw_aload_n (i := 0) dL_arePromises_125 rfl rfl ?_
        refine sw_aload_n (i := 0) dL_arePromises_126 rfl rfl ?_
        refine sw_iload (i := 4) dL_arePromises_127 rfl ?_
        refine sw_ins (pc2 := 129) rfl rfl ?_
        refine sw_ic 0 dL_arePromises_129 ?_
        refine px_Vx mv_L_41 x6 rfl rfl (Nat.le_of_ble_eq_true rfl) (Nat.le_of_ble_eq_true rfl) ko_0 (Nat.le_of_ble_eq_true rfl) dL_arePromises_130 ?_
        refine sw_aload_n (i := 0) dL_arePromises_133 rfl rfl ?_
        refine sw_iload (i := 4) dL_arePromises_134 rfl ?_
        refine sw_ic 2 dL_arePromises_136 ?_
        refine px_Vx mv_L_41 x7 rfl rfl (Nat.le_of_ble_eq_true rfl) (Nat.le_of_ble_eq_true rfl) ko_0 (Nat.le_of_ble_eq_true rfl) dL_arePromises_137 ?_
        refine sw_ic 0 dL_arePromises_140 ?_
        refine px_Vx mv_L_47 x8 rfl rfl (Nat.le_of_ble_eq_true rfl) (Nat.le_of_ble_eq_true rfl) ko_0 (Nat.le_of_ble_eq_true rfl) dL_arePromises_141 ?_
        refine sw_ins (pc2 := 144) rfl rfl ?_
        refine sw_ic_ne (tgt := 168) dL_arePromises_144 rfl (fun h9 => absurd rfl h9) (fun _ => ?_)
        refine sw_aload_n (i := 0) dL_arePromises_147 rfl rfl ?_
        refine sw_iload (i := 4) dL_arePromises_148 rfl ?_
        refine sw_ic 0 dL_arePromises_150 ?_
        refine px_Vx mv_L_41 x9 rfl rfl (Nat.le_of_ble_eq_true rfl) (Nat.le_of_ble_eq_true rfl) ko_0 (Nat.le_of_ble_eq_true rfl) dL_arePromises_151 ?_
        refine sw_aload_n (i := 0) dL_arePromises_154 rfl rfl ?_
        refine sw_iload (i := 4) dL_arePromises_155 rfl ?_
        refine sw_ic 1 dL_arePromises_157 ?_
        refine sw_ins (pc2 := 158) rfl rfl ?_
        refine px_Vx mv_L_41 x10 rfl rfl (Nat.le_of_ble_eq_true rfl) (Nat.le_of_ble_eq_true rfl) ko_0 (Nat.le_of_ble_eq_true rfl) dL_arePromises_158 ?_
        refine sw_ic_eq (tgt := 168) dL_arePromises_161 rfl (fun h9 => absurd h9 (fun g => p4 ((nI_eq (by omega) (by omega)).mp g))) (fun _ => ?_)
        refine sw_ic 1 dL_arePromises_164 ?_
        refine sw_goto (tgt := 169) dL_arePromises_165 rfl ?_
        refine sw_istore (i := 8) dL_arePromises_169 (Nat.le_of_ble_eq_true rfl) rfl ?_
        refine sw_lo (lo2 := [some (.ref 0), some (.int _), some (.int _), some (.int _), some (.int _), some (.int _), some (.int _), some (.int _), some (.int _)]) rfl ?_
        refine sw_iload (i := 8) dL_arePromises_171 rfl ?_
        refine sw_if_ne (tgt := 178) dL_arePromises_173 rfl (fun _ => ?_) (fun h9 => absurd h9 (by decide))
        refine sw_iinc (i := 4) (v := nI (i + 1)) dL_arePromises_178 rfl (nI_1 _) (Nat.le_of_ble_eq_true rfl) rfl ?_
        refine sw_lo (lo2 := [some (.ref 0), some (.int _), some (.int _), some (.int _), some (.int _), some (.int _), some (.int _), some (.int _), some (.int _)]) rfl ?_
        refine sw_ins (pc2 := 181) rfl rfl ?_
        refine sw_goto (tgt := 39) dL_arePromises_181 rfl ?_
        refine sw_sub ?_ z1
        exact ⟨rfl, rfl, rfl, rfl, rfl, trivial⟩
      | none =>
        rw [hw] at x4 x8
        rcases sp with ⟨j, j1, j2, j3, j4⟩ | ⟨j1, j2⟩
        · have hj : 1 ≤ j := by
            rcases Nat.eq_zero_or_pos j with e | e
            · obtain ⟨w9, hw9⟩ := j3
              rw [e, show sI V (prt V i 0) 0 = prt V i 0 from rfl, hw] at hw9
              cases hw9
            · exact e
          rw [Nat.zero_add] at j2
          rw [j2] at x3
          refine sw_iload (i := 4) dL_arePromises_39 rfl ?_
          refine sw_iload_n (i := 3) dL_arePromises_41 rfl rfl ?_
          refine sw_ic_ge (tgt := 184) dL_arePromises_42 rfl (fun h9 => absurd h9 (nI_ge hi (by omega))) (fun _ => ?_)
          refine sw_aload_n (i := 0) dL_arePromises_45 rfl rfl ?_
          refine sw_iload (i := 4) dL_arePromises_46 rfl ?_
          refine sw_ic 3 dL_arePromises_48 ?_
          refine px_Vx mv_L_41 x1 rfl rfl (Nat.le_of_ble_eq_true rfl) (Nat.le_of_ble_eq_true rfl) ko_0 (Nat.le_of_ble_eq_true rfl) dL_arePromises_49 ?_
          refine sw_ins (pc2 := 52) rfl rfl ?_
          refine sw_aload_n (i := 0) dL_arePromises_52 rfl rfl ?_
          refine sw_ic 0 dL_arePromises_53 ?_
          refine px_Vx mv_L_34 x2 rfl rfl (Nat.le_of_ble_eq_true rfl) (Nat.le_of_ble_eq_true rfl) ko_0 (Nat.le_of_ble_eq_true rfl) dL_arePromises_54 ?_
          refine sw_isub dL_arePromises_57 ?_
          refine sw_topE (v := nI (prt V i 3 - nv V 0)) (pk_sub hdu) ?_
          refine sw_istore (i := 5) dL_arePromises_58 (Nat.le_of_ble_eq_true rfl) rfl ?_
          refine sw_lo (lo2 := [some (.ref 0), some (.int _), some (.int _), some (.int _), some (.int _), some (.int _), none, none, none]) rfl ?_
          refine sw_aload_n (i := 0) dL_arePromises_60 rfl rfl ?_
          refine sw_iload (i := 4) dL_arePromises_61 rfl ?_
          refine px_Vx mv_L_44 x3 rfl rfl (Nat.le_of_ble_eq_true rfl) (Nat.le_of_ble_eq_true rfl) ko_0 (Nat.le_of_ble_eq_true rfl) dL_arePromises_63 ?_
          refine sw_ins (pc2 := 66) rfl rfl ?_
          refine sw_istore (i := 6) dL_arePromises_66 (Nat.le_of_ble_eq_true rfl) rfl ?_
          refine sw_lo (lo2 := [some (.ref 0), some (.int _), some (.int _), some (.int _), some (.int _), some (.int _), some (.int _), none, none]) rfl ?_
          refine sw_aload_n (i := 0) dL_arePromises_68 rfl rfl ?_
          refine sw_iload (i := 4) dL_arePromises_69 rfl ?_
          refine sw_ic 4 dL_arePromises_71 ?_
          refine px_Vx mv_L_41 x4 rfl rfl (Nat.le_of_ble_eq_true rfl) (Nat.le_of_ble_eq_true rfl) ko_0 (Nat.le_of_ble_eq_true rfl) dL_arePromises_72 ?_
          refine sw_istore (i := 7) dL_arePromises_75 (Nat.le_of_ble_eq_true rfl) rfl ?_
          refine sw_lo (lo2 := [some (.ref 0), some (.int _), some (.int _), some (.int _), some (.int _), some (.int _), some (.int _), some (.int _), none]) rfl ?_
          refine sw_iload_n (i := 1) dL_arePromises_77 rfl rfl ?_
          refine sw_aload_n (i := 0) dL_arePromises_78 rfl rfl ?_
          refine sw_ins (pc2 := 79) rfl rfl ?_
          refine sw_iload (i := 4) dL_arePromises_79 rfl ?_
          refine sw_ic 2 dL_arePromises_81 ?_
          refine px_Vx mv_L_41 x5 rfl rfl (Nat.le_of_ble_eq_true rfl) (Nat.le_of_ble_eq_true rfl) ko_0 (Nat.le_of_ble_eq_true rfl) dL_arePromises_82 ?_
          refine sw_iadd dL_arePromises_85 ?_
          refine sw_istore_n (i := 1) dL_arePromises_86 rfl (Nat.le_of_ble_eq_true rfl) rfl ?_
          refine sw_lo (lo2 := [some (.ref 0), some (.int _), some (.int _), some (.int _), some (.int _), some (.int _), some (.int _), some (.int _), none]) rfl ?_
          refine sw_iload (i := 5) dL_arePromises_87 rfl ?_
          refine sw_if_lt (tgt := 168) dL_arePromises_89 rfl (fun h9 => absurd h9 (nI_pos (by omega))) (fun _ => ?_)
          refine sw_iload (i := 6) dL_arePromises_92 rfl ?_
          refine sw_ins (pc2 := 94) rfl rfl ?_
          refine sw_if_ne (tgt := 101) dL_arePromises_94 rfl (fun _ => ?_) (fun h9 => absurd h9 (nI_ne0 (by omega) (by omega)))
          refine sw_ic 0 dL_arePromises_101 ?_
          refine sw_iload (i := 7) dL_arePromises_102 rfl ?_
          refine sw_im1 dL_arePromises_104 ?_
          refine sw_ic_eq (tgt := 112) dL_arePromises_105 rfl (fun _ => ?_) (fun h9 => absurd (by decide) h9)
          refine sw_ic 0 dL_arePromises_112 ?_
          refine sw_ic_ne (tgt := 168) dL_arePromises_113 rfl (fun h9 => absurd (by decide) h9) (fun _ => ?_)
          refine sw_iload (i := 6) dL_arePromises_116 rfl ?_
          refine sw_ins (pc2 := 118) rfl rfl ?_
          refine sw_iload (i := 5) dL_arePromises_118 rfl ?_
          refine sw_ic_gt (tgt := 168) dL_arePromises_120 rfl (fun h9 => absurd h9 (nI_nlt (by omega) (by omega))) (fun _ => ?_)
          refine sw_iload (i := 7) dL_arePromises_123 rfl ?_
          refine sw_aload_n (i := 0) dL_arePromises_125 rfl rfl ?_
          refine sw_aload_n (i := 0) dL_arePromises_126 rfl rfl ?_
          refine sw_iload (i := 4) dL_arePromises_127 rfl ?_
          refine sw_ic 0 dL_arePromises_129 ?_
          refine px_Vx mv_L_41 x6 rfl rfl (Nat.le_of_ble_eq_true rfl) (Nat.le_of_ble_eq_true rfl) ko_0 (Nat.le_of_ble_eq_true rfl) dL_arePromises_130 ?_
          refine sw_ins (pc2 := 133) rfl rfl ?_
          refine sw_aload_n (i := 0) dL_arePromises_133 rfl rfl ?_
          refine sw_iload (i := 4) dL_arePromises_134 rfl ?_
          refine sw_ic 2 dL_arePromises_136 ?_
          refine px_Vx mv_L_41 x7 rfl rfl (Nat.le_of_ble_eq_true rfl) (Nat.le_of_ble_eq_true rfl) ko_0 (Nat.le_of_ble_eq_true rfl) dL_arePromises_137 ?_
          refine sw_ic 0 dL_arePromises_140 ?_
          refine px_Vx mv_L_47 x8 rfl rfl (Nat.le_of_ble_eq_true rfl) (Nat.le_of_ble_eq_true rfl) ko_0 (Nat.le_of_ble_eq_true rfl) dL_arePromises_141 ?_
          refine sw_ic_ne (tgt := 168) dL_arePromises_144 rfl (fun h9 => absurd (by decide) h9) (fun _ => ?_)
          refine sw_aload_n (i := 0) dL_arePromises_147 rfl rfl ?_
          refine sw_ins (pc2 := 148) rfl rfl ?_
          refine sw_iload (i := 4) dL_arePromises_148 rfl ?_
          refine sw_ic 0 dL_arePromises_150 ?_
          refine px_Vx mv_L_41 x9 rfl rfl (Nat.le_of_ble_eq_true rfl) (Nat.le_of_ble_eq_true rfl) ko_0 (Nat.le_of_ble_eq_true rfl) dL_arePromises_151 ?_
          refine sw_aload_n (i := 0) dL_arePromises_154 rfl rfl ?_
          refine sw_iload (i := 4) dL_arePromises_155 rfl ?_
          refine sw_ic 1 dL_arePromises_157 ?_
          refine px_Vx mv_L_41 x10 rfl rfl (Nat.le_of_ble_eq_true rfl) (Nat.le_of_ble_eq_true rfl) ko_0 (Nat.le_of_ble_eq_true rfl) dL_arePromises_158 ?_
          refine sw_ic_eq (tgt := 168) dL_arePromises_161 rfl (fun h9 => absurd h9 (fun g => p4 ((nI_eq (by omega) (by omega)).mp g))) (fun _ => ?_)
          refine sw_ins (pc2 := 164) rfl rfl ?_
          refine sw_ic 1 dL_arePromises_164 ?_
          refine sw_goto (tgt := 169) dL_arePromises_165 rfl ?_
          refine sw_istore (i := 8) dL_arePromises_169 (Nat.le_of_ble_eq_true rfl) rfl ?_
          refine sw_lo (lo2 := [some (.ref 0), some (.int _), some (.int _), some (.int _), some (.int _), some (.int _), some (.int _), some (.int _), some (.int _)]) rfl ?_
          refine sw_iload (i := 8) dL_arePromises_171 rfl ?_
          refine sw_if_ne (tgt := 178) dL_arePromises_173 rfl (fun _ => ?_) (fun h9 => absurd h9 (by decide))
          refine sw_iinc (i := 4) (v := nI (i + 1)) dL_arePromises_178 rfl (nI_1 _) (Nat.le_of_ble_eq_true rfl) rfl ?_
          refine sw_lo (lo2 := [some (.ref 0), some (.int _), some (.int _), some (.int _), some (.int _), some (.int _), some (.int _), some (.int _), some (.int _)]) rfl ?_
          refine sw_goto (tgt := 39) dL_arePromises_181 rfl ?_
          refine sw_sub ?_ z1
          exact ⟨rfl, rfl, rfl, rfl, rfl, trivial⟩
        · rw [j1] at x3
          refine sw_iload (i := 4) dL_arePromises_39 rfl ?_
          refine sw_iload_n (i := 3) dL_arePromises_41 rfl rfl ?_
          refine sw_ic_ge (tgt := 184) dL_arePromises_42 rfl (fun h9 => absurd h9 (nI_ge hi (by omega))) (fun _ => ?_)
          refine sw_aload_n (i := 0) dL_arePromises_45 rfl rfl ?_
          refine sw_iload (i := 4) dL_arePromises_46 rfl ?_
          refine sw_ic 3 dL_arePromises_48 ?_
          refine px_Vx mv_L_41 x1 rfl rfl (Nat.le_of_ble_eq_true rfl) (Nat.le_of_ble_eq_true rfl) ko_0 (Nat.le_of_ble_eq_true rfl) dL_arePromises_49 ?_
          refine sw_ins (pc2 := 52) rfl rfl ?_
          refine sw_aload_n (i := 0) dL_arePromises_52 rfl rfl ?_
          refine sw_ic 0 dL_arePromises_53 ?_
          refine px_Vx mv_L_34 x2 rfl rfl (Nat.le_of_ble_eq_true rfl) (Nat.le_of_ble_eq_true rfl) ko_0 (Nat.le_of_ble_eq_true rfl) dL_arePromises_54 ?_
          refine sw_isub dL_arePromises_57 ?_
          refine sw_topE (v := nI (prt V i 3 - nv V 0)) (pk_sub hdu) ?_
          refine sw_istore (i := 5) dL_arePromises_58 (Nat.le_of_ble_eq_true rfl) rfl ?_
          refine sw_lo (lo2 := [some (.ref 0), some (.int _), some (.int _), some (.int _), some (.int _), some (.int _), none, none, none]) rfl ?_
          refine sw_aload_n (i := 0) dL_arePromises_60 rfl rfl ?_
          refine sw_iload (i := 4) dL_arePromises_61 rfl ?_
          refine px_Vx mv_L_44 x3 rfl rfl (Nat.le_of_ble_eq_true rfl) (Nat.le_of_ble_eq_true rfl) ko_0 (Nat.le_of_ble_eq_true rfl) dL_arePromises_63 ?_
          refine sw_ins (pc2 := 66) rfl rfl ?_
          refine sw_istore (i := 6) dL_arePromises_66 (Nat.le_of_ble_eq_true rfl) rfl ?_
          refine sw_lo (lo2 := [some (.ref 0), some (.int _), some (.int _), some (.int _), some (.int _), some (.int _), some (.int _), none, none]) rfl ?_
          refine sw_aload_n (i := 0) dL_arePromises_68 rfl rfl ?_
          refine sw_iload (i := 4) dL_arePromises_69 rfl ?_
          refine sw_ic 4 dL_arePromises_71 ?_
          refine px_Vx mv_L_41 x4 rfl rfl (Nat.le_of_ble_eq_true rfl) (Nat.le_of_ble_eq_true rfl) ko_0 (Nat.le_of_ble_eq_true rfl) dL_arePromises_72 ?_
          refine sw_istore (i := 7) dL_arePromises_75 (Nat.le_of_ble_eq_true rfl) rfl ?_
          refine sw_lo (lo2 := [some (.ref 0), some (.int _), some (.int _), some (.int _), some (.int _), some (.int _), some (.int _), some (.int _), none]) rfl ?_
          refine sw_iload_n (i := 1) dL_arePromises_77 rfl rfl ?_
          refine sw_aload_n (i := 0) dL_arePromises_78 rfl rfl ?_
          refine sw_ins (pc2 := 79) rfl rfl ?_
          refine sw_iload (i := 4) dL_arePromises_79 rfl ?_
          refine sw_ic 2 dL_arePromises_81 ?_
          refine px_Vx mv_L_41 x5 rfl rfl (Nat.le_of_ble_eq_true rfl) (Nat.le_of_ble_eq_true rfl) ko_0 (Nat.le_of_ble_eq_true rfl) dL_arePromises_82 ?_
          refine sw_iadd dL_arePromises_85 ?_
          refine sw_istore_n (i := 1) dL_arePromises_86 rfl (Nat.le_of_ble_eq_true rfl) rfl ?_
          refine sw_lo (lo2 := [some (.ref 0), some (.int _), some (.int _), some (.int _), some (.int _), some (.int _), some (.int _), some (.int _), none]) rfl ?_
          refine sw_iload (i := 5) dL_arePromises_87 rfl ?_
          refine sw_if_lt (tgt := 168) dL_arePromises_89 rfl (fun h9 => absurd h9 (nI_pos (by omega))) (fun _ => ?_)
          refine sw_iload (i := 6) dL_arePromises_92 rfl ?_
          refine sw_ins (pc2 := 94) rfl rfl ?_
          refine sw_if_ne (tgt := 101) dL_arePromises_94 rfl (fun _ => ?_) (fun h9 => absurd h9 (by decide))
          refine sw_ic 0 dL_arePromises_101 ?_
          refine sw_iload (i := 7) dL_arePromises_102 rfl ?_
          refine sw_im1 dL_arePromises_104 ?_
          refine sw_ic_eq (tgt := 112) dL_arePromises_105 rfl (fun _ => ?_) (fun h9 => absurd (by decide) h9)
          refine sw_ic 0 dL_arePromises_112 ?_
          refine sw_ic_ne (tgt := 168) dL_arePromises_113 rfl (fun h9 => absurd (by decide) h9) (fun _ => ?_)
          refine sw_iload (i := 6) dL_arePromises_116 rfl ?_
          refine sw_ins (pc2 := 118) rfl rfl ?_
          refine sw_iload (i := 5) dL_arePromises_118 rfl ?_
          refine sw_ic_gt (tgt := 168) dL_arePromises_120 rfl (fun h9 => absurd h9 (nlt_m1 (by omega))) (fun _ => ?_)
          refine sw_iload (i := 7) dL_arePromises_123 rfl ?_
          refine sw_aload_n (i := 0) dL_arePromises_125 rfl rfl ?_
          refine sw_aload_n (i := 0) dL_arePromises_126 rfl rfl ?_
          refine sw_iload (i := 4) dL_arePromises_127 rfl ?_
          refine sw_ic 0 dL_arePromises_129 ?_
          refine px_Vx mv_L_41 x6 rfl rfl (Nat.le_of_ble_eq_true rfl) (Nat.le_of_ble_eq_true rfl) ko_0 (Nat.le_of_ble_eq_true rfl) dL_arePromises_130 ?_
          refine sw_ins (pc2 := 133) rfl rfl ?_
          refine sw_aload_n (i := 0) dL_arePromises_133 rfl rfl ?_
          refine sw_iload (i := 4) dL_arePromises_134 rfl ?_
          refine sw_ic 2 dL_arePromises_136 ?_
          refine px_Vx mv_L_41 x7 rfl rfl (Nat.le_of_ble_eq_true rfl) (Nat.le_of_ble_eq_true rfl) ko_0 (Nat.le_of_ble_eq_true rfl) dL_arePromises_137 ?_
          refine sw_ic 0 dL_arePromises_140 ?_
          refine px_Vx mv_L_47 x8 rfl rfl (Nat.le_of_ble_eq_true rfl) (Nat.le_of_ble_eq_true rfl) ko_0 (Nat.le_of_ble_eq_true rfl) dL_arePromises_141 ?_
          refine sw_ic_ne (tgt := 168) dL_arePromises_144 rfl (fun h9 => absurd (by decide) h9) (fun _ => ?_)
          refine sw_aload_n (i := 0) dL_arePromises_147 rfl rfl ?_
          refine sw_ins (pc2 := 148) rfl rfl ?_
          refine sw_iload (i := 4) dL_arePromises_148 rfl ?_
          refine sw_ic 0 dL_arePromises_150 ?_
          refine px_Vx mv_L_41 x9 rfl rfl (Nat.le_of_ble_eq_true rfl) (Nat.le_of_ble_eq_true rfl) ko_0 (Nat.le_of_ble_eq_true rfl) dL_arePromises_151 ?_
          refine sw_aload_n (i := 0) dL_arePromises_154 rfl rfl ?_
          refine sw_iload (i := 4) dL_arePromises_155 rfl ?_
          refine sw_ic 1 dL_arePromises_157 ?_
          refine px_Vx mv_L_41 x10 rfl rfl (Nat.le_of_ble_eq_true rfl) (Nat.le_of_ble_eq_true rfl) ko_0 (Nat.le_of_ble_eq_true rfl) dL_arePromises_158 ?_
          refine sw_ic_eq (tgt := 168) dL_arePromises_161 rfl (fun h9 => absurd h9 (fun g => p4 ((nI_eq (by omega) (by omega)).mp g))) (fun _ => ?_)
          refine sw_ins (pc2 := 164) rfl rfl ?_
          refine sw_ic 1 dL_arePromises_164 ?_
          refine sw_goto (tgt := 169) dL_arePromises_165 rfl ?_
          refine sw_istore (i := 8) dL_arePromises_169 (Nat.le_of_ble_eq_true rfl) rfl ?_
          refine sw_lo (lo2 := [some (.ref 0), some (.int _), some (.int _), some (.int _), some (.int _), some (.int _), some (.int _), some (.int _), some (.int _)]) rfl ?_
          refine sw_iload (i := 8) dL_arePromises_171 rfl ?_
          refine sw_if_ne (tgt := 178) dL_arePromises_173 rfl (fun _ => ?_) (fun h9 => absurd h9 (by decide))
          refine sw_iinc (i := 4) (v := nI (i + 1)) dL_arePromises_178 rfl (nI_1 _) (Nat.le_of_ble_eq_true rfl) rfl ?_
          refine sw_lo (lo2 := [some (.ref 0), some (.int _), some (.int _), some (.int _), some (.int _), some (.int _), some (.int _), some (.int _), some (.int _)]) rfl ?_
          refine sw_goto (tgt := 39) dL_arePromises_181 rfl ?_
          refine sw_sub ?_ z1
          exact ⟨rfl, rfl, rfl, rfl, rfl, trivial⟩
  have K1 : ∀ i, i ≤ 8 → ∀ d, RC d r V n H S t T tl → ∃ d1, SW yL_arePromises cL_arePromises 9 (some .boolean) [] 8 none 13 [some (.ref 0), some (.int (nI 0)), some (.int (rs (fun i => isl V i 3) i)), some (.int (nI (nv V 1))), some (.int (nI i)), none, none, none, none] [] 65 (W0 d r J) 0 0 (.inl (some (.int (nI 1)))) 65 (W0 d1 r J) ∧ RC d1 r V n H S t T tl := by
    refine am_loop 8 ?_ ?_
    · intro d h
      obtain ⟨d1, z1, z2⟩ := K2 0 (Nat.zero_le _) d h
      refine ⟨d1, ?_, z2⟩
      refine sw_iload (i := 4) dL_arePromises_13 rfl ?_
      refine sw_bi 8 dL_arePromises_15 (by decide +kernel) ?_
      refine sw_ic_ge (tgt := 36) dL_arePromises_17 rfl (fun _ => ?_) (fun h9 => absurd (nI_le (Nat.le_refl _) (by decide)) h9)
      refine sw_ic 0 dL_arePromises_36 ?_
      refine sw_istore (i := 4) dL_arePromises_37 (Nat.le_of_ble_eq_true rfl) rfl ?_
      refine sw_lo (lo2 := [some (.ref 0), some (.int _), some (.int _), some (.int _), some (.int _), none, none, none, none]) rfl ?_
      exact z1
    · intro i hi ih d h
      obtain ⟨e1, x1, y1, -⟩ := C_islanderOf (J := J) (a := i) (k := 3) h iv hi (by decide)
      obtain ⟨d1, z1, z2⟩ := ih e1 y1
      refine ⟨d1, ?_, z2⟩
      refine sw_iload (i := 4) dL_arePromises_13 rfl ?_
      refine sw_bi 8 dL_arePromises_15 (by decide +kernel) ?_
      refine sw_ic_ge (tgt := 36) dL_arePromises_17 rfl (fun h9 => absurd h9 (nI_ge hi (by decide))) (fun _ => ?_)
      refine sw_iload_n (i := 2) dL_arePromises_20 rfl rfl ?_
      refine sw_aload_n (i := 0) dL_arePromises_21 rfl rfl ?_
      refine sw_iload (i := 4) dL_arePromises_22 rfl ?_
      refine sw_ic 3 dL_arePromises_24 ?_
      refine sw_ins (pc2 := 25) rfl rfl ?_
      refine px_Vx mv_L_20 x1 rfl rfl (Nat.le_of_ble_eq_true rfl) (Nat.le_of_ble_eq_true rfl) ko_0 (Nat.le_of_ble_eq_true rfl) dL_arePromises_25 ?_
      refine sw_iadd dL_arePromises_28 ?_
      refine sw_istore_n (i := 2) dL_arePromises_29 rfl (Nat.le_of_ble_eq_true rfl) rfl ?_
      refine sw_lo (lo2 := [some (.ref 0), some (.int _), some (.int _), some (.int _), some (.int _), none, none, none, none]) rfl ?_
      refine sw_iinc (i := 4) (v := nI (i + 1)) dL_arePromises_30 rfl (nI_1 _) (Nat.le_of_ble_eq_true rfl) rfl ?_
      refine sw_lo (lo2 := [some (.ref 0), some (.int _), some (.int _), some (.int _), some (.int _), none, none, none, none]) rfl ?_
      refine sw_goto (tgt := 13) dL_arePromises_33 rfl ?_
      exact z1
  obtain ⟨e1, x1, y1, -⟩ := C_count (J := J) (k := 3) h iv (by decide)
  rw [hmn] at x1
  obtain ⟨d1, z1, z2⟩ := K1 0 (Nat.zero_le _) e1 y1
  refine ⟨d1, op_of pl_L_arePromises (Nat.le_of_ble_eq_true rfl) ?_, z2⟩
  refine sw_ic 0 dL_arePromises_0 ?_
  refine sw_istore_n (i := 1) dL_arePromises_1 rfl (Nat.le_of_ble_eq_true rfl) rfl ?_
  refine sw_lo (lo2 := [some (.ref 0), some (.int _), none, none, none, none, none, none, none]) rfl ?_
  refine sw_ic 0 dL_arePromises_2 ?_
  refine sw_istore_n (i := 2) dL_arePromises_3 rfl (Nat.le_of_ble_eq_true rfl) rfl ?_
  refine sw_lo (lo2 := [some (.ref 0), some (.int _), some (.int _), none, none, none, none, none, none]) rfl ?_
  refine sw_aload_n (i := 0) dL_arePromises_4 rfl rfl ?_
  refine sw_ic 3 dL_arePromises_5 ?_
  refine px_Vx mv_L_34 x1 rfl rfl (Nat.le_of_ble_eq_true rfl) (Nat.le_of_ble_eq_true rfl) ko_0 (Nat.le_of_ble_eq_true rfl) dL_arePromises_6 ?_
  refine sw_ins (pc2 := 9) rfl rfl ?_
  refine sw_istore_n (i := 3) dL_arePromises_9 rfl (Nat.le_of_ble_eq_true rfl) rfl ?_
  refine sw_lo (lo2 := [some (.ref 0), some (.int _), some (.int _), some (.int _), none, none, none, none, none]) rfl ?_
  refine sw_ic 0 dL_arePromises_10 ?_
  refine sw_istore (i := 4) dL_arePromises_11 (Nat.le_of_ble_eq_true rfl) rfl ?_
  refine sw_lo (lo2 := [some (.ref 0), some (.int _), some (.int _), some (.int _), some (.int _), none, none, none, none]) rfl ?_
  exact z1
