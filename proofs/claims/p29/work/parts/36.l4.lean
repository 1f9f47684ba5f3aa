/-! THE LAW'S METHODS, 4: waits, trades -/
theorem nday4 {V : Nat → Int32} (h : nv V 0 < 9999) (ok : okV V) : ¬ nI 9999 ≤ V 0 := by
  rw [ok.2.2.2.2.2.1.1]
  exact nI_ge h (by decide)
set_option maxRecDepth 100000 in
set_option maxHeartbeats 4000000 in
theorem A_L_waits {d : Nat → Nat → Int32} {r : Nat → Nat → Option Nat} {J : Nat → Nat → Int64} {V : Nat → Int32} {n : Nat} {H S : Nat → Nat → Int32} {t : Nat → Bool} {T : Nat → Int32} {tl : Nat} (h : RC d r V n H S t T tl) (iv : IV V n H S t T tl) {D : Nat} (hd : dueV V) (hD : dd V D) (hD9 : D ≤ 200) {q : Nat} (hq : q < nv V 1) : ∃ d1 r1, OB kL_waits yL_waits 8 [.ref 0, .int (nI q)] d r J (some (.int (nI 1))) d1 r1 J 0 0 ∧ LI D d1 r1 := by
  obtain ⟨okP, okM, okT9, okC, okW, okD⟩ := id iv.1
  have hm8 := okM.2
  obtain ⟨p1, p2, p3, p4, p5, p6, p7⟩ := okT9 q hq
  have hp0 : pro V q 0 = nI (prt V q 0) := p1 0 (by decide)
  have hp2 : pro V q 2 = nI (prt V q 2) := p1 2 (by decide)
  have hp3 : pro V q 3 = nI (prt V q 3) := p1 3 (by decide)
  have hday : cnt V n 0 = nI (nv V 0) := okD.1.1
  have hd0 := okD.1.1
  have hdu := hd q hq
  have hdd := hD.2 q hq
  have hck : ckp V q = ckG V (prt V q 2) (min (prt V q 3) 9999 + 1 - nv V 0) (prt V q 0) 0 := rfl
  rw [show min (prt V q 3) 9999 = prt V q 3 from Nat.min_eq_left (by omega)] at hck
  have sp := ckG_spec (V := V) (s := prt V q 2) (prt V q 3 + 1 - nv V 0) (prt V q 0) 0
  rw [← hck] at sp
  obtain ⟨e1, x1, y1, -⟩ := C_canKeepIn (J := J) (q := q) h iv hq
  obtain ⟨e2, x2, y2, -⟩ := C_promiseOf (J := J) (q := q) (k := 0) y1 iv hq (by decide)
  rw [hp0] at x2
  obtain ⟨e3, x3, y3, -⟩ := C_promiseOf (J := J) (q := q) (k := 2) y2 iv hq (by decide)
  rw [hp2] at x3
  obtain ⟨e4, x4, y4, -⟩ := C_promiseOf (J := J) (q := q) (k := 3) y3 iv hq (by decide)
  rw [hp3] at x4
  obtain ⟨e5, x5, y5, -⟩ := C_count (J := J) (k := 0) y4 iv (by decide)
  rw [hday] at x5
  obtain ⟨e6, r6, x6, y6, -⟩ := C0_keep (J := J) y5 iv
  have iv6 := IV_keep iv 0
  obtain ⟨S2, hS2⟩ : ∃ S2, S2 = sS S 0 V := ⟨_, rfl⟩
  obtain ⟨t2, ht2⟩ : ∃ t2, t2 = sT t 0 := ⟨_, rfl⟩
  rw [← hS2, ← ht2] at y6 iv6
  have hs0 : S2 0 = V := by rw [hS2]; exact if_pos rfl
  have ht0 : t2 0 = true := by rw [ht2]; exact if_pos rfl
  have hok := fun i (hi : nv V 0 + i ≤ 9999) => sN_ok iv.1 i hi
  rcases sp with ⟨j, j1, jv, j3, j4⟩ | ⟨jv, j2⟩
  ·
    rw [Nat.zero_add] at jv
    rw [jv] at x1
    have K : ∀ i, i ≤ (prt V q 3 - nv V 0) + 1 → ∀ d r nn HH, RC d r (sN V i) nn HH S2 t2 T tl → IV (sN V i) nn HH S2 t2 T tl → ∃ d1 r1 nn1 HH1, SW yL_waits cL_waits 10 (some .boolean) [] 8 none 45 [some (.ref 0), some (.int (nI q)), some (.int (nI j)), some (.int (nI (prt V q 0))), some (.int (nI (prt V q 2))), some (.int (nI (prt V q 3 - nv V 0))), some (.int (V 0)), some (.int (nI i)), none, none] [] 65 (W0 d r J) 0 0 (.inl (some (.int (nI 1)))) 65 (W0 d1 r1 J) ∧ RC d1 r1 V nn1 HH1 S2 t2 T tl ∧ IV V nn1 HH1 S2 t2 T tl := by
      refine am_loop ((prt V q 3 - nv V 0) + 1) ?_ ?_
      · intro d r nn HH h iv9
        obtain ⟨e1, r1, x1, y1, -⟩ := C0_goBack (J := J) h iv9 ht0
        rw [hs0] at x1 y1
        have iv1 : IV V (psN nn) (psH HH nn (sN V ((prt V q 3 - nv V 0) + 1))) S2 t2 T tl := IV_push (rc6 h) iv9 iv.1 trivial
        obtain ⟨e2, x2, y2, -⟩ := C_count (J := J) (k := 0) y1 iv1 (by decide)
        refine ⟨e2, r1, _, _, ?_, y2, iv1⟩
        refine sw_iload (i := 7) dL_waits_45 rfl ?_
        refine sw_iload (i := 5) dL_waits_47 rfl ?_
        refine sw_ic_gt (tgt := 112) dL_waits_49 rfl (fun _ => ?_) (fun h9 => absurd (nI_lt (by omega) (by omega)) h9)
        refine sw_aload_n (i := 0) dL_waits_112 rfl rfl ?_
        refine sw_ic 0 dL_waits_113 ?_
        refine px_Vx mv_L_59 x1 rfl rfl (Nat.le_of_ble_eq_true rfl) (Nat.le_of_ble_eq_true rfl) ko_0 (Nat.le_of_ble_eq_true rfl) dL_waits_114 ?_
        refine sw_iload (i := 6) dL_waits_117 rfl ?_
        refine sw_ins (pc2 := 119) rfl rfl ?_
        refine sw_ic_ne (tgt := 136) dL_waits_119 rfl (fun h9 => absurd rfl h9) (fun _ => ?_)
        refine sw_aload_n (i := 0) dL_waits_122 rfl rfl ?_
        refine sw_ic 0 dL_waits_123 ?_
        refine px_Vx mv_L_34 x2 rfl rfl (Nat.le_of_ble_eq_true rfl) (Nat.le_of_ble_eq_true rfl) ko_0 (Nat.le_of_ble_eq_true rfl) dL_waits_124 ?_
        refine sw_iload (i := 6) dL_waits_127 rfl ?_
        refine sw_ic_ne (tgt := 136) dL_waits_129 rfl (fun h9 => absurd rfl h9) (fun _ => ?_)
        refine sw_ic 1 dL_waits_132 ?_
        refine sw_goto (tgt := 137) dL_waits_133 rfl ?_
        refine sw_ins (pc2 := 137) rfl rfl ?_
        exact sw_zreturnE rfl rfl rfl dL_waits_137
      · intro i hi ih d r nn HH h iv9
        obtain ⟨o1, o2⟩ := hok i (by omega)
        obtain ⟨o3, o4⟩ := hok (i + 1) (by omega)
        obtain ⟨e1, x1, y1, -⟩ := C0_fewest (J := J) (a := prt V q 0) (s := prt V q 2) h iv9 p2 p5 p6
        rw [sN_wy okP p2] at x1
        obtain ⟨e2, r2, x2, y2, -⟩ := C_storm (J := J) y1 iv9 (nday4 (by omega) o1)
        have iv2 : IV (sN V (i + 1)) (psN nn) (psH HH nn (sN V i)) S2 t2 T tl := IV_push (rc6 y1) iv9 o3 trivial
        obtain ⟨d1, r1, n1, H1, z1, z2, z3⟩ := ih e2 r2 _ _ y2 iv2
        refine ⟨d1, r1, n1, H1, ?_, z2, z3⟩
        by_cases c1 : i < j
        · have hw := j4 i c1
          rw [hw] at x1
          refine sw_iload (i := 7) dL_waits_45 rfl ?_
          refine sw_iload (i := 5) dL_waits_47 rfl ?_
          refine sw_ic_gt (tgt := 112) dL_waits_49 rfl (fun h9 => absurd h9 (nI_nlt (by omega) (by omega))) (fun _ => ?_)
          refine sw_aload_n (i := 0) dL_waits_52 rfl rfl ?_
          refine sw_iload_n (i := 3) dL_waits_53 rfl rfl ?_
          refine sw_iload (i := 4) dL_waits_54 rfl ?_
          refine sw_ic 0 dL_waits_56 ?_
          refine sw_ins (pc2 := 57) rfl rfl ?_
          refine px_Vx mv_L_47 x1 rfl rfl (Nat.le_of_ble_eq_true rfl) (Nat.le_of_ble_eq_true rfl) ko_0 (Nat.le_of_ble_eq_true rfl) dL_waits_57 ?_
          refine sw_im1 dL_waits_60 ?_
          refine sw_ic_eq (tgt := 68) dL_waits_61 rfl (fun _ => ?_) (fun h9 => absurd (by decide) h9)
          refine sw_ic 0 dL_waits_68 ?_
          refine sw_istore (i := 8) dL_waits_69 (Nat.le_of_ble_eq_true rfl) rfl ?_
          refine sw_lo (lo2 := [some (.ref 0), some (.int _), some (.int _), some (.int _), some (.int _), some (.int _), some (.int _), some (.int _), some (.int _), none]) rfl ?_
          refine sw_iload (i := 8) dL_waits_71 rfl ?_
          refine sw_iload (i := 7) dL_waits_73 rfl ?_
          refine sw_iload_n (i := 2) dL_waits_75 rfl rfl ?_
          refine sw_ins (pc2 := 76) rfl rfl ?_
          refine sw_ic_ne (tgt := 83) dL_waits_76 rfl (fun _ => ?_) (fun h9 => absurd h9 (fun g => absurd ((nI_eq (by omega) (by omega)).mp g) (by omega)))
          refine sw_ic 0 dL_waits_83 ?_
          refine sw_ic_eq (tgt := 100) dL_waits_84 rfl (fun _ => ?_) (fun h9 => absurd (by decide) h9)
          refine sw_aload_n (i := 0) dL_waits_100 rfl rfl ?_
          refine px_Vx mv_L_50 x2 rfl rfl (Nat.le_of_ble_eq_true rfl) (Nat.le_of_ble_eq_true rfl) ko_0 (Nat.le_of_ble_eq_true rfl) dL_waits_101 ?_
          refine sw_istore (i := 9) dL_waits_104 (Nat.le_of_ble_eq_true rfl) rfl ?_
          refine sw_lo (lo2 := [some (.ref 0), some (.int _), some (.int _), some (.int _), some (.int _), some (.int _), some (.int _), some (.int _), some (.int _), some (.int _)]) rfl ?_
          refine sw_iinc (i := 7) (v := nI (i + 1)) dL_waits_106 rfl (nI_1 _) (Nat.le_of_ble_eq_true rfl) rfl ?_
          refine sw_lo (lo2 := [some (.ref 0), some (.int _), some (.int _), some (.int _), some (.int _), some (.int _), some (.int _), some (.int _), some (.int _), some (.int _)]) rfl ?_
          refine sw_goto (tgt := 45) dL_waits_109 rfl ?_
          refine sw_sub ?_ z1
          exact ⟨rfl, rfl, rfl, rfl, rfl, rfl, rfl, rfl, trivial⟩
        · by_cases c2 : i = j
          · obtain ⟨wq, hw⟩ := j3
            rw [← c2] at hw
            obtain ⟨z, f, e9, t9⟩ := wq
            have hsm := wy_small okC (sI_lt okP i _ p2) hw
            rw [hw] at x1
            refine sw_iload (i := 7) dL_waits_45 rfl ?_
            refine sw_iload (i := 5) dL_waits_47 rfl ?_
            refine sw_ic_gt (tgt := 112) dL_waits_49 rfl (fun h9 => absurd h9 (nI_nlt (by omega) (by omega))) (fun _ => ?_)
            refine sw_aload_n (i := 0) dL_waits_52 rfl rfl ?_
            refine sw_iload_n (i := 3) dL_waits_53 rfl rfl ?_
            refine sw_iload (i := 4) dL_waits_54 rfl ?_
            refine sw_ic 0 dL_waits_56 ?_
            refine sw_ins (pc2 := 57) rfl rfl ?_
            refine px_Vx mv_L_47 x1 rfl rfl (Nat.le_of_ble_eq_true rfl) (Nat.le_of_ble_eq_true rfl) ko_0 (Nat.le_of_ble_eq_true rfl) dL_waits_57 ?_
            refine sw_im1 dL_waits_60 ?_
            refine sw_ic_eq (tgt := 68) dL_waits_61 rfl (fun h9 => absurd h9 (nI_ne_m1 (by omega))) (fun _ => ?_)
            refine sw_ic 1 dL_waits_64 ?_
            refine sw_goto (tgt := 69) dL_waits_65 rfl ?_
            refine sw_istore (i := 8) dL_waits_69 (Nat.le_of_ble_eq_true rfl) rfl ?_
            refine sw_lo (lo2 := [some (.ref 0), some (.int _), some (.int _), some (.int _), some (.int _), some (.int _), some (.int _), some (.int _), some (.int _), none]) rfl ?_
            refine sw_iload (i := 8) dL_waits_71 rfl ?_
            refine sw_iload (i := 7) dL_waits_73 rfl ?_
            refine sw_ins (pc2 := 75) rfl rfl ?_
            refine sw_iload_n (i := 2) dL_waits_75 rfl rfl ?_
            refine sw_ic_ne (tgt := 83) dL_waits_76 rfl (fun h9 => absurd (by rw [c2]) h9) (fun _ => ?_)
            refine sw_ic 1 dL_waits_79 ?_
            refine sw_goto (tgt := 84) dL_waits_80 rfl ?_
            refine sw_ic_eq (tgt := 100) dL_waits_84 rfl (fun _ => ?_) (fun h9 => absurd (by decide) h9)
            refine sw_aload_n (i := 0) dL_waits_100 rfl rfl ?_
            refine px_Vx mv_L_50 x2 rfl rfl (Nat.le_of_ble_eq_true rfl) (Nat.le_of_ble_eq_true rfl) ko_0 (Nat.le_of_ble_eq_true rfl) dL_waits_101 ?_
            refine sw_istore (i := 9) dL_waits_104 (Nat.le_of_ble_eq_true rfl) rfl ?_
            refine sw_lo (lo2 := [some (.ref 0), some (.int _), some (.int _), some (.int _), some (.int _), some (.int _), some (.int _), some (.int _), some (.int _), some (.int _)]) rfl ?_
            refine sw_ins (pc2 := 106) rfl rfl ?_
            refine sw_iinc (i := 7) (v := nI (i + 1)) dL_waits_106 rfl (nI_1 _) (Nat.le_of_ble_eq_true rfl) rfl ?_
            refine sw_lo (lo2 := [some (.ref 0), some (.int _), some (.int _), some (.int _), some (.int _), some (.int _), some (.int _), some (.int _), some (.int _), some (.int _)]) rfl ?_
            refine sw_goto (tgt := 45) dL_waits_109 rfl ?_
            refine sw_sub ?_ z1
            exact ⟨rfl, rfl, rfl, rfl, rfl, rfl, rfl, rfl, trivial⟩
          · cases hw : wy V (sI V (prt V q 0) i) (prt V q 2) with
            | none =>
              rw [hw] at x1
              refine sw_iload (i := 7) dL_waits_45 rfl ?_
              refine sw_iload (i := 5) dL_waits_47 rfl ?_
              refine sw_ic_gt (tgt := 112) dL_waits_49 rfl (fun h9 => absurd h9 (nI_nlt (by omega) (by omega))) (fun _ => ?_)
              refine sw_aload_n (i := 0) dL_waits_52 rfl rfl ?_
              refine sw_iload_n (i := 3) dL_waits_53 rfl rfl ?_
              refine sw_iload (i := 4) dL_waits_54 rfl ?_
              refine sw_ic 0 dL_waits_56 ?_
              refine sw_ins (pc2 := 57) rfl rfl ?_
              refine px_Vx mv_L_47 x1 rfl rfl (Nat.le_of_ble_eq_true rfl) (Nat.le_of_ble_eq_true rfl) ko_0 (Nat.le_of_ble_eq_true rfl) dL_waits_57 ?_
              refine sw_im1 dL_waits_60 ?_
              refine sw_ic_eq (tgt := 68) dL_waits_61 rfl (fun _ => ?_) (fun h9 => absurd (by decide) h9)
              refine sw_ic 0 dL_waits_68 ?_
              refine sw_istore (i := 8) dL_waits_69 (Nat.le_of_ble_eq_true rfl) rfl ?_
              refine sw_lo (lo2 := [some (.ref 0), some (.int _), some (.int _), some (.int _), some (.int _), some (.int _), some (.int _), some (.int _), some (.int _), none]) rfl ?_
              refine sw_iload (i := 8) dL_waits_71 rfl ?_
              refine sw_iload (i := 7) dL_waits_73 rfl ?_
              refine sw_iload_n (i := 2) dL_waits_75 rfl rfl ?_
              refine sw_ins (pc2 := 76) rfl rfl ?_
              refine sw_ic_ne (tgt := 83) dL_waits_76 rfl (fun _ => ?_) (fun h9 => absurd h9 (fun g => absurd ((nI_eq (by omega) (by omega)).mp g) (by omega)))
              refine sw_ic 0 dL_waits_83 ?_
              refine sw_ic_eq (tgt := 100) dL_waits_84 rfl (fun _ => ?_) (fun h9 => absurd (by decide) h9)
              refine sw_aload_n (i := 0) dL_waits_100 rfl rfl ?_
              refine px_Vx mv_L_50 x2 rfl rfl (Nat.le_of_ble_eq_true rfl) (Nat.le_of_ble_eq_true rfl) ko_0 (Nat.le_of_ble_eq_true rfl) dL_waits_101 ?_
              refine sw_istore (i := 9) dL_waits_104 (Nat.le_of_ble_eq_true rfl) rfl ?_
              refine sw_lo (lo2 := [some (.ref 0), some (.int _), some (.int _), some (.int _), some (.int _), some (.int _), some (.int _), some (.int _), some (.int _), some (.int _)]) rfl ?_
              refine sw_iinc (i := 7) (v := nI (i + 1)) dL_waits_106 rfl (nI_1 _) (Nat.le_of_ble_eq_true rfl) rfl ?_
              refine sw_lo (lo2 := [some (.ref 0), some (.int _), some (.int _), some (.int _), some (.int _), some (.int _), some (.int _), some (.int _), some (.int _), some (.int _)]) rfl ?_
              refine sw_goto (tgt := 45) dL_waits_109 rfl ?_
              refine sw_sub ?_ z1
              exact ⟨rfl, rfl, rfl, rfl, rfl, rfl, rfl, rfl, trivial⟩
            | some wq =>
              obtain ⟨z, f, e9, t9⟩ := wq
              have hsm := wy_small okC (sI_lt okP i _ p2) hw
              rw [hw] at x1
              refine sw_iload (i := 7) dL_waits_45 rfl ?_
              refine sw_iload (i := 5) dL_waits_47 rfl ?_
              refine sw_ic_gt (tgt := 112) dL_waits_49 rfl (fun h9 => absurd h9 (nI_nlt (by omega) (by omega))) (fun _ => ?_)
              refine sw_aload_n (i := 0) dL_waits_52 rfl rfl ?_
              refine sw_iload_n (i := 3) dL_waits_53 rfl rfl ?_
              refine sw_iload (i := 4) dL_waits_54 rfl ?_
              refine sw_ic 0 dL_waits_56 ?_
              refine sw_ins (pc2 := 57) rfl rfl ?_
              refine px_Vx mv_L_47 x1 rfl rfl (Nat.le_of_ble_eq_true rfl) (Nat.le_of_ble_eq_true rfl) ko_0 (Nat.le_of_ble_eq_true rfl) dL_waits_57 ?_
              refine sw_im1 dL_waits_60 ?_
              refine sw_ic_eq (tgt := 68) dL_waits_61 rfl (fun h9 => absurd h9 (nI_ne_m1 (by omega))) (fun _ => ?_)
              refine sw_ic 1 dL_waits_64 ?_
              refine sw_goto (tgt := 69) dL_waits_65 rfl ?_
              refine sw_istore (i := 8) dL_waits_69 (Nat.le_of_ble_eq_true rfl) rfl ?_
              refine sw_lo (lo2 := [some (.ref 0), some (.int _), some (.int _), some (.int _), some (.int _), some (.int _), some (.int _), some (.int _), some (.int _), none]) rfl ?_
              refine sw_iload (i := 8) dL_waits_71 rfl ?_
              refine sw_iload (i := 7) dL_waits_73 rfl ?_
              refine sw_ins (pc2 := 75) rfl rfl ?_
              refine sw_iload_n (i := 2) dL_waits_75 rfl rfl ?_
              refine sw_ic_ne (tgt := 83) dL_waits_76 rfl (fun _ => ?_) (fun h9 => absurd h9 (fun g => absurd ((nI_eq (by omega) (by omega)).mp g) (by omega)))
              refine sw_ic 0 dL_waits_83 ?_
              refine sw_ic_eq (tgt := 100) dL_waits_84 rfl (fun h9 => absurd h9 (by decide)) (fun _ => ?_)
              refine sw_iload_n (i := 2) dL_waits_87 rfl rfl ?_
              refine sw_im1 dL_waits_88 ?_
              refine sw_ic_eq (tgt := 98) dL_waits_89 rfl (fun h9 => absurd h9 (nI_ne_m1 (by omega))) (fun _ => ?_)
              refine sw_iload (i := 7) dL_waits_92 rfl ?_
              refine sw_ins (pc2 := 94) rfl rfl ?_
              refine sw_iload_n (i := 2) dL_waits_94 rfl rfl ?_
              refine sw_ic_gt (tgt := 100) dL_waits_95 rfl (fun _ => ?_) (fun h9 => absurd (nI_lt (by omega) (by omega)) h9)
              refine sw_aload_n (i := 0) dL_waits_100 rfl rfl ?_
              refine px_Vx mv_L_50 x2 rfl rfl (Nat.le_of_ble_eq_true rfl) (Nat.le_of_ble_eq_true rfl) ko_0 (Nat.le_of_ble_eq_true rfl) dL_waits_101 ?_
              refine sw_istore (i := 9) dL_waits_104 (Nat.le_of_ble_eq_true rfl) rfl ?_
              refine sw_lo (lo2 := [some (.ref 0), some (.int _), some (.int _), some (.int _), some (.int _), some (.int _), some (.int _), some (.int _), some (.int _), some (.int _)]) rfl ?_
              refine sw_iinc (i := 7) (v := nI (i + 1)) dL_waits_106 rfl (nI_1 _) (Nat.le_of_ble_eq_true rfl) rfl ?_
              refine sw_lo (lo2 := [some (.ref 0), some (.int _), some (.int _), some (.int _), some (.int _), some (.int _), some (.int _), some (.int _), some (.int _), some (.int _)]) rfl ?_
              refine sw_goto (tgt := 45) dL_waits_109 rfl ?_
              refine sw_sub ?_ z1
              exact ⟨rfl, rfl, rfl, rfl, rfl, rfl, rfl, rfl, trivial⟩
    obtain ⟨d1, r1, n1, H1, z1, z2, z3⟩ := K 0 (Nat.zero_le _) e6 r6 _ _ y6 iv6
    refine ⟨d1, r1, am_of pl_L_waits (Nat.le_of_ble_eq_true rfl) ?_, ⟨_, _, _, _, _, _, _, z2, z3, hd, hD⟩⟩
    refine sw_aload_n (i := 0) dL_waits_0 rfl rfl ?_
    refine sw_iload_n (i := 1) dL_waits_1 rfl rfl ?_
    refine px_Vx mv_L_44 x1 rfl rfl (Nat.le_of_ble_eq_true rfl) (Nat.le_of_ble_eq_true rfl) ko_0 (Nat.le_of_ble_eq_true rfl) dL_waits_2 ?_
    refine sw_istore_n (i := 2) dL_waits_5 rfl (Nat.le_of_ble_eq_true rfl) rfl ?_
    refine sw_lo (lo2 := [some (.ref 0), some (.int _), some (.int _), none, none, none, none, none, none, none]) rfl ?_
    refine sw_aload_n (i := 0) dL_waits_6 rfl rfl ?_
    refine sw_iload_n (i := 1) dL_waits_7 rfl rfl ?_
    refine sw_ic 0 dL_waits_8 ?_
    refine sw_ins (pc2 := 9) rfl rfl ?_
    refine px_Vx mv_L_41 x2 rfl rfl (Nat.le_of_ble_eq_true rfl) (Nat.le_of_ble_eq_true rfl) ko_0 (Nat.le_of_ble_eq_true rfl) dL_waits_9 ?_
    refine sw_istore_n (i := 3) dL_waits_12 rfl (Nat.le_of_ble_eq_true rfl) rfl ?_
    refine sw_lo (lo2 := [some (.ref 0), some (.int _), some (.int _), some (.int _), none, none, none, none, none, none]) rfl ?_
    refine sw_aload_n (i := 0) dL_waits_13 rfl rfl ?_
    refine sw_iload_n (i := 1) dL_waits_14 rfl rfl ?_
    refine sw_ic 2 dL_waits_15 ?_
    refine px_Vx mv_L_41 x3 rfl rfl (Nat.le_of_ble_eq_true rfl) (Nat.le_of_ble_eq_true rfl) ko_0 (Nat.le_of_ble_eq_true rfl) dL_waits_16 ?_
    refine sw_istore (i := 4) dL_waits_19 (Nat.le_of_ble_eq_true rfl) rfl ?_
    refine sw_lo (lo2 := [some (.ref 0), some (.int _), some (.int _), some (.int _), some (.int _), none, none, none, none, none]) rfl ?_
    refine sw_aload_n (i := 0) dL_waits_21 rfl rfl ?_
    refine sw_ins (pc2 := 22) rfl rfl ?_
    refine sw_iload_n (i := 1) dL_waits_22 rfl rfl ?_
    refine sw_ic 3 dL_waits_23 ?_
    refine px_Vx mv_L_41 x4 rfl rfl (Nat.le_of_ble_eq_true rfl) (Nat.le_of_ble_eq_true rfl) ko_0 (Nat.le_of_ble_eq_true rfl) dL_waits_24 ?_
    refine sw_aload_n (i := 0) dL_waits_27 rfl rfl ?_
    refine sw_ic 0 dL_waits_28 ?_
    refine px_Vx mv_L_34 x5 rfl rfl (Nat.le_of_ble_eq_true rfl) (Nat.le_of_ble_eq_true rfl) ko_0 (Nat.le_of_ble_eq_true rfl) dL_waits_29 ?_
    refine sw_isub dL_waits_32 ?_
    refine sw_topE (v := nI (prt V q 3 - nv V 0)) (pk_sub hdu) ?_
    refine sw_istore (i := 5) dL_waits_33 (Nat.le_of_ble_eq_true rfl) rfl ?_
    refine sw_lo (lo2 := [some (.ref 0), some (.int _), some (.int _), some (.int _), some (.int _), some (.int _), none, none, none, none]) rfl ?_
    refine sw_ins (pc2 := 35) rfl rfl ?_
    refine sw_aload_n (i := 0) dL_waits_35 rfl rfl ?_
    refine sw_ic 0 dL_waits_36 ?_
    refine px_Vx mv_L_56 x6 rfl rfl (Nat.le_of_ble_eq_true rfl) (Nat.le_of_ble_eq_true rfl) ko_0 (Nat.le_of_ble_eq_true rfl) dL_waits_37 ?_
    refine sw_istore (i := 6) dL_waits_40 (Nat.le_of_ble_eq_true rfl) rfl ?_
    refine sw_lo (lo2 := [some (.ref 0), some (.int _), some (.int _), some (.int _), some (.int _), some (.int _), some (.int _), none, none, none]) rfl ?_
    refine sw_ic 0 dL_waits_42 ?_
    refine sw_istore (i := 7) dL_waits_43 (Nat.le_of_ble_eq_true rfl) rfl ?_
    refine sw_lo (lo2 := [some (.ref 0), some (.int _), some (.int _), some (.int _), some (.int _), some (.int _), some (.int _), some (.int _), none, none]) rfl ?_
    exact z1
  ·
    rw [jv] at x1
    have K : ∀ i, i ≤ (prt V q 3 - nv V 0) + 1 → ∀ d r nn HH, RC d r (sN V i) nn HH S2 t2 T tl → IV (sN V i) nn HH S2 t2 T tl → ∃ d1 r1 nn1 HH1, SW yL_waits cL_waits 10 (some .boolean) [] 8 none 45 [some (.ref 0), some (.int (nI q)), some (.int (-1)), some (.int (nI (prt V q 0))), some (.int (nI (prt V q 2))), some (.int (nI (prt V q 3 - nv V 0))), some (.int (V 0)), some (.int (nI i)), none, none] [] 65 (W0 d r J) 0 0 (.inl (some (.int (nI 1)))) 65 (W0 d1 r1 J) ∧ RC d1 r1 V nn1 HH1 S2 t2 T tl ∧ IV V nn1 HH1 S2 t2 T tl := by
      refine am_loop ((prt V q 3 - nv V 0) + 1) ?_ ?_
      · intro d r nn HH h iv9
        obtain ⟨e1, r1, x1, y1, -⟩ := C0_goBack (J := J) h iv9 ht0
        rw [hs0] at x1 y1
        have iv1 : IV V (psN nn) (psH HH nn (sN V ((prt V q 3 - nv V 0) + 1))) S2 t2 T tl := IV_push (rc6 h) iv9 iv.1 trivial
        obtain ⟨e2, x2, y2, -⟩ := C_count (J := J) (k := 0) y1 iv1 (by decide)
        refine ⟨e2, r1, _, _, ?_, y2, iv1⟩
        refine sw_iload (i := 7) dL_waits_45 rfl ?_
        refine sw_iload (i := 5) dL_waits_47 rfl ?_
        refine sw_ic_gt (tgt := 112) dL_waits_49 rfl (fun _ => ?_) (fun h9 => absurd (nI_lt (by omega) (by omega)) h9)
        refine sw_aload_n (i := 0) dL_waits_112 rfl rfl ?_
        refine sw_ic 0 dL_waits_113 ?_
        refine px_Vx mv_L_59 x1 rfl rfl (Nat.le_of_ble_eq_true rfl) (Nat.le_of_ble_eq_true rfl) ko_0 (Nat.le_of_ble_eq_true rfl) dL_waits_114 ?_
        refine sw_iload (i := 6) dL_waits_117 rfl ?_
        refine sw_ins (pc2 := 119) rfl rfl ?_
        refine sw_ic_ne (tgt := 136) dL_waits_119 rfl (fun h9 => absurd rfl h9) (fun _ => ?_)
        refine sw_aload_n (i := 0) dL_waits_122 rfl rfl ?_
        refine sw_ic 0 dL_waits_123 ?_
        refine px_Vx mv_L_34 x2 rfl rfl (Nat.le_of_ble_eq_true rfl) (Nat.le_of_ble_eq_true rfl) ko_0 (Nat.le_of_ble_eq_true rfl) dL_waits_124 ?_
        refine sw_iload (i := 6) dL_waits_127 rfl ?_
        refine sw_ic_ne (tgt := 136) dL_waits_129 rfl (fun h9 => absurd rfl h9) (fun _ => ?_)
        refine sw_ic 1 dL_waits_132 ?_
        refine sw_goto (tgt := 137) dL_waits_133 rfl ?_
        refine sw_ins (pc2 := 137) rfl rfl ?_
        exact sw_zreturnE rfl rfl rfl dL_waits_137
      · intro i hi ih d r nn HH h iv9
        obtain ⟨o1, o2⟩ := hok i (by omega)
        obtain ⟨o3, o4⟩ := hok (i + 1) (by omega)
        obtain ⟨e1, x1, y1, -⟩ := C0_fewest (J := J) (a := prt V q 0) (s := prt V q 2) h iv9 p2 p5 p6
        rw [sN_wy okP p2] at x1
        obtain ⟨e2, r2, x2, y2, -⟩ := C_storm (J := J) y1 iv9 (nday4 (by omega) o1)
        have iv2 : IV (sN V (i + 1)) (psN nn) (psH HH nn (sN V i)) S2 t2 T tl := IV_push (rc6 y1) iv9 o3 trivial
        obtain ⟨d1, r1, n1, H1, z1, z2, z3⟩ := ih e2 r2 _ _ y2 iv2
        refine ⟨d1, r1, n1, H1, ?_, z2, z3⟩
        have hw := j2 i (by omega)
        rw [hw] at x1
        refine sw_iload (i := 7) dL_waits_45 rfl ?_
        refine sw_iload (i := 5) dL_waits_47 rfl ?_
        refine sw_ic_gt (tgt := 112) dL_waits_49 rfl (fun h9 => absurd h9 (nI_nlt (by omega) (by omega))) (fun _ => ?_)
        refine sw_aload_n (i := 0) dL_waits_52 rfl rfl ?_
        refine sw_iload_n (i := 3) dL_waits_53 rfl rfl ?_
        refine sw_iload (i := 4) dL_waits_54 rfl ?_
        refine sw_ic 0 dL_waits_56 ?_
        refine sw_ins (pc2 := 57) rfl rfl ?_
        refine px_Vx mv_L_47 x1 rfl rfl (Nat.le_of_ble_eq_true rfl) (Nat.le_of_ble_eq_true rfl) ko_0 (Nat.le_of_ble_eq_true rfl) dL_waits_57 ?_
        refine sw_im1 dL_waits_60 ?_
        refine sw_ic_eq (tgt := 68) dL_waits_61 rfl (fun _ => ?_) (fun h9 => absurd (by decide) h9)
        refine sw_ic 0 dL_waits_68 ?_
        refine sw_istore (i := 8) dL_waits_69 (Nat.le_of_ble_eq_true rfl) rfl ?_
        refine sw_lo (lo2 := [some (.ref 0), some (.int _), some (.int _), some (.int _), some (.int _), some (.int _), some (.int _), some (.int _), some (.int _), none]) rfl ?_
        refine sw_iload (i := 8) dL_waits_71 rfl ?_
        refine sw_iload (i := 7) dL_waits_73 rfl ?_
        refine sw_iload_n (i := 2) dL_waits_75 rfl rfl ?_
        refine sw_ins (pc2 := 76) rfl rfl ?_
        refine sw_ic_ne (tgt := 83) dL_waits_76 rfl (fun _ => ?_) (fun h9 => absurd h9 (nI_ne_m1 (by omega)))
        refine sw_ic 0 dL_waits_83 ?_
        refine sw_ic_eq (tgt := 100) dL_waits_84 rfl (fun _ => ?_) (fun h9 => absurd (by decide) h9)
        refine sw_aload_n (i := 0) dL_waits_100 rfl rfl ?_
        refine px_Vx mv_L_50 x2 rfl rfl (Nat.le_of_ble_eq_true rfl) (Nat.le_of_ble_eq_true rfl) ko_0 (Nat.le_of_ble_eq_true rfl) dL_waits_101 ?_
        refine sw_istore (i := 9) dL_waits_104 (Nat.le_of_ble_eq_true rfl) rfl ?_
        refine sw_lo (lo2 := [some (.ref 0), some (.int _), some (.int _), some (.int _), some (.int _), some (.int _), some (.int _), some (.int _), some (.int _), some (.int _)]) rfl ?_
        refine sw_iinc (i := 7) (v := nI (i + 1)) dL_waits_106 rfl (nI_1 _) (Nat.le_of_ble_eq_true rfl) rfl ?_
        refine sw_lo (lo2 := [some (.ref 0), some (.int _), some (.int _), some (.int _), some (.int _), some (.int _), some (.int _), some (.int _), some (.int _), some (.int _)]) rfl ?_
        refine sw_goto (tgt := 45) dL_waits_109 rfl ?_
        refine sw_sub ?_ z1
        exact ⟨rfl, rfl, rfl, rfl, rfl, rfl, rfl, rfl, trivial⟩
    obtain ⟨d1, r1, n1, H1, z1, z2, z3⟩ := K 0 (Nat.zero_le _) e6 r6 _ _ y6 iv6
    refine ⟨d1, r1, am_of pl_L_waits (Nat.le_of_ble_eq_true rfl) ?_, ⟨_, _, _, _, _, _, _, z2, z3, hd, hD⟩⟩
    refine sw_aload_n (i := 0) dL_waits_0 rfl rfl ?_
    refine sw_iload_n (i := 1) dL_waits_1 rfl rfl ?_
    refine px_Vx mv_L_44 x1 rfl rfl (Nat.le_of_ble_eq_true rfl) (Nat.le_of_ble_eq_true rfl) ko_0 (Nat.le_of_ble_eq_true rfl) dL_waits_2 ?_
    refine sw_istore_n (i := 2) dL_waits_5 rfl (Nat.le_of_ble_eq_true rfl) rfl ?_
    refine sw_lo (lo2 := [some (.ref 0), some (.int _), some (.int _), none, none, none, none, none, none, none]) rfl ?_
    refine sw_aload_n (i := 0) dL_waits_6 rfl rfl ?_
    refine sw_iload_n (i := 1) dL_waits_7 rfl rfl ?_
    refine sw_ic 0 dL_waits_8 ?_
    refine sw_ins (pc2 := 9) rfl rfl ?_
    refine px_Vx mv_L_41 x2 rfl rfl (Nat.le_of_ble_eq_true rfl) (Nat.le_of_ble_eq_true rfl) ko_0 (Nat.le_of_ble_eq_true rfl) dL_waits_9 ?_
    refine sw_istore_n (i := 3) dL_waits_12 rfl (Nat.le_of_ble_eq_true rfl) rfl ?_
    refine sw_lo (lo2 := [some (.ref 0), some (.int _), some (.int _), some (.int _), none, none, none, none, none, none]) rfl ?_
    refine sw_aload_n (i := 0) dL_waits_13 rfl rfl ?_
    refine sw_iload_n (i := 1) dL_waits_14 rfl rfl ?_
    refine sw_ic 2 dL_waits_15 ?_
    refine px_Vx mv_L_41 x3 rfl rfl (Nat.le_of_ble_eq_true rfl) (Nat.le_of_ble_eq_true rfl) ko_0 (Nat.le_of_ble_eq_true rfl) dL_waits_16 ?_
    refine sw_istore (i := 4) dL_waits_19 (Nat.le_of_ble_eq_true rfl) rfl ?_
    refine sw_lo (lo2 := [some (.ref 0), some (.int _), some (.int _), some (.int _), some (.int _), none, none, none, none, none]) rfl ?_
    refine sw_aload_n (i := 0) dL_waits_21 rfl rfl ?_
    refine sw_ins (pc2 := 22) rfl rfl ?_
    refine sw_iload_n (i := 1) dL_waits_22 rfl rfl ?_
    refine sw_ic 3 dL_waits_23 ?_
    refine px_Vx mv_L_41 x4 rfl rfl (Nat.le_of_ble_eq_true rfl) (Nat.le_of_ble_eq_true rfl) ko_0 (Nat.le_of_ble_eq_true rfl) dL_waits_24 ?_
    refine sw_aload_n (i := 0) dL_waits_27 rfl rfl ?_
    refine sw_ic 0 dL_waits_28 ?_
    refine px_Vx mv_L_34 x5 rfl rfl (Nat.le_of_ble_eq_true rfl) (Nat.le_of_ble_eq_true rfl) ko_0 (Nat.le_of_ble_eq_true rfl) dL_waits_29 ?_
    refine sw_isub dL_waits_32 ?_
    refine sw_topE (v := nI (prt V q 3 - nv V 0)) (pk_sub hdu) ?_
    refine sw_istore (i := 5) dL_waits_33 (Nat.le_of_ble_eq_true rfl) rfl ?_
    refine sw_lo (lo2 := [some (.ref 0), some (.int _), some (.int _), some (.int _), some (.int _), some (.int _), none, none, none, none]) rfl ?_
    refine sw_ins (pc2 := 35) rfl rfl ?_
    refine sw_aload_n (i := 0) dL_waits_35 rfl rfl ?_
    refine sw_ic 0 dL_waits_36 ?_
    refine px_Vx mv_L_56 x6 rfl rfl (Nat.le_of_ble_eq_true rfl) (Nat.le_of_ble_eq_true rfl) ko_0 (Nat.le_of_ble_eq_true rfl) dL_waits_37 ?_
    refine sw_istore (i := 6) dL_waits_40 (Nat.le_of_ble_eq_true rfl) rfl ?_
    refine sw_lo (lo2 := [some (.ref 0), some (.int _), some (.int _), some (.int _), some (.int _), some (.int _), some (.int _), none, none, none]) rfl ?_
    refine sw_ic 0 dL_waits_42 ?_
    refine sw_istore (i := 7) dL_waits_43 (Nat.le_of_ble_eq_true rfl) rfl ?_
    refine sw_lo (lo2 := [some (.ref 0), some (.int _), some (.int _), some (.int _), some (.int _), some (.int _), some (.int _), some (.int _), none, none]) rfl ?_
    exact z1
theorem trd_off {V : Nat → Int32} {a c b e : Nat} {x y : Int32} (ha : a < 8) (hc : c < 4) (hb : b < 8) (he : e < 4) {j : Nat} (h1 : 6 ≤ j) (h2 : j < 19) : trd V a c x b e y j = V j := by
  unfold trd
  by_cases z : rsn V a c b e x y = 0
  · rw [if_pos z, upd_ne _ _ (by omega), hnd_off hb ha he (by omega), hnd_off ha hb hc (by omega)]
  · rw [if_neg z]
    exact upd_ne _ _ (by omega)
theorem wsm_trd {V : Nat → Int32} {a c b e : Nat} {x y : Int32} (ha : a < 8) (hc : c < 4) (hb : b < 8) (he : e < 4) : wsm (trd V a c x b e y) = wsm V := by
  unfold wsm wt nv
  rw [trd_off ha hc hb he (by omega) (by omega), trd_off ha hc hb he (by omega) (by omega), trd_off ha hc hb he (by omega) (by omega), trd_off ha hc hb he (by omega) (by omega)]
theorem trd_not {V : Nat → Int32} {a c b e : Nat} {x y : Int32} (h : ¬ rsn V a c b e x y = 0) : trd V a c x b e y = rfz V := if_neg h
set_option maxRecDepth 100000 in
set_option maxHeartbeats 4000000 in
theorem A_L_trades {d : Nat → Nat → Int32} {r : Nat → Nat → Option Nat} {J : Nat → Nat → Int64} {V : Nat → Int32} {n : Nat} {H S : Nat → Nat → Int32} {t : Nat → Bool} {T : Nat → Int32} {tl : Nat} (h : RC d r V n H S t T tl) (iv : IV V n H S t T tl) {D : Nat} (hd : dueV V) (hD : dd V D) (hD9 : D ≤ 200) {v : Int32} : ∃ d1 r1, OB kL_trades yL_trades 8 [.ref 0, .int v] d r J (some (.int (nI 1))) d1 r1 J 0 0 ∧ LI D d1 r1 := by
  obtain ⟨okP, okM, okT9, okC, okW, okD⟩ := id iv.1
  have hwb := wsm_b okW
  have hpl : ∀ a, a < 8 → pwN V a ≤ 20 * wsm V := fun a ha => pw_le okC okW ha
  have hpw : ∀ a, a < 8 → isl V a 0 = nI (pwN V a) := fun a ha => pw_nI okC okW ha
  have hc2 : ∀ n, cnt V n 2 = nI (20 * wsm V) := fun n => aw_nI okC okW
  obtain ⟨a, ha, la⟩ : ∃ q9, q9 < 8 ∧ ∀ d : Nat → Nat → Int32, OP kL_low yL_low 0 [.int (v), .int (nI 8)] d r J (some (.int (nI q9))) d r J := ⟨lw (v) 8, lw_lt _ (by decide), fun d => A_L_low (by decide) (by decide)⟩
  obtain ⟨b0, hb0, lb0⟩ : ∃ q9, q9 < 7 ∧ ∀ d : Nat → Nat → Int32, OP kL_low yL_low 0 [.int (v >>> (nI 3 &&& 31)), .int (nI 7)] d r J (some (.int (nI q9))) d r J := ⟨lw (v >>> (nI 3 &&& 31)) 7, lw_lt _ (by decide), fun d => A_L_low (by decide) (by decide)⟩
  obtain ⟨c, hc, lc⟩ : ∃ q9, q9 < 4 ∧ ∀ d : Nat → Nat → Int32, OP kL_low yL_low 0 [.int (v >>> (nI 6 &&& 31)), .int (nI 4)] d r J (some (.int (nI q9))) d r J := ⟨lw (v >>> (nI 6 &&& 31)) 4, lw_lt _ (by decide), fun d => A_L_low (by decide) (by decide)⟩
  obtain ⟨e, he, le⟩ : ∃ q9, q9 < 4 ∧ ∀ d : Nat → Nat → Int32, OP kL_low yL_low 0 [.int (v >>> (nI 8 &&& 31)), .int (nI 4)] d r J (some (.int (nI q9))) d r J := ⟨lw (v >>> (nI 8 &&& 31)) 4, lw_lt _ (by decide), fun d => A_L_low (by decide) (by decide)⟩
  obtain ⟨k20, hk20, lk20⟩ : ∃ q9, q9 < 4 ∧ ∀ d : Nat → Nat → Int32, OP kL_low yL_low 0 [.int (v >>> (nI 20 &&& 31)), .int (nI 4)] d r J (some (.int (nI q9))) d r J := ⟨lw (v >>> (nI 20 &&& 31)) 4, lw_lt _ (by decide), fun d => A_L_low (by decide) (by decide)⟩
  obtain ⟨y9, hy9, ly9⟩ : ∃ q9, q9 < 6 ∧ ∀ d : Nat → Nat → Int32, OP kL_low yL_low 0 [.int (v >>> (nI 14 &&& 31)), .int (nI 6)] d r J (some (.int (nI q9))) d r J := ⟨lw (v >>> (nI 14 &&& 31)) 6, lw_lt _ (by decide), fun d => A_L_low (by decide) (by decide)⟩
  obtain ⟨b, hbe⟩ : ∃ b, b = (a + 1 + b0) % 8 := ⟨_, rfl⟩
  have hb : b < 8 := by omega
  have hne : a ≠ b := by omega
  have hneI : ¬ nI a = nI b := fun g => hne ((nI_eq (by omega) (by omega)).mp g)
  have hx1 : V (19 + (a * 4 + c)) = nI (cp V a c) := okC.1 (a * 4 + c) (by omega)
  have K : ∀ x, x < 15 → ∃ d1 r1, SW yL_trades cL_trades 17 (some .boolean) [] 8 none 67 [some (.ref 0), some (.int v), some (.int (nI a)), some (.int (nI b)), some (.int (nI c)), some (.int (nI e)), none, none, none, none, none, none, none, none, none, none, none] [.int (nI x)] 65 (W0 d r J) 0 0 (.inl (some (.int (nI 1)))) 65 (W0 d1 r1 J) ∧ LI D d1 r1 := by
    intro x hx
    obtain ⟨e1, x1, y1, -⟩ := C_islanderOf (J := J) (a := a) (k := 0) h iv ha (by decide)
    rw [hpw _ ha] at x1
    obtain ⟨e2, x2, y2, -⟩ := C_count (J := J) (k := 2) y1 iv (by decide)
    rw [hc2] at x2
    obtain ⟨e3, x3, y3, -⟩ := C_caps (J := J) (a := a) (c := c) y2 iv ha hc
    obtain ⟨e4, x4, y4, -⟩ := C_caps (J := J) (a := b) (c := e) y3 iv hb he
    obtain ⟨e5, x5, y5, -⟩ := C_count (J := J) (k := 4) y4 iv (by decide)
    obtain ⟨e6, x6, y6, -⟩ := C_count (J := J) (k := 7) y5 iv (by decide)
    obtain ⟨e7, r7, x7, y7, -⟩ := C_trade (J := J) (a := a) (c := c) (b := b) (e := e) (x := x) (y := y9) y6 iv ha hc hb he hneI (by omega) (by omega)
    have okV2 := ok_trd iv.1 ha hc hb he hne (x := x) (y := y9) (by omega) (by omega)
    have iv2 := IV_push (rc6 y6) iv okV2 (T' := T) (tl' := tl) trivial
    have due2 := due_trd hd ha hc hb he (x := nI x) (y := nI y9)
    have dd2 := dd_trd hD ha hc hb he (x := nI x) (y := nI y9)
    have hws : wsm (trd V a c (nI x) b e (nI y9)) = wsm V := wsm_trd ha hc hb he
    have h6 : trd V a c (nI x) b e (nI y9) 6 = V 6 := trd_off ha hc hb he (by decide) (by decide)
    have hpa := hpl a ha
    by_cases h1 : V (19 + (a * 4 + c)) < nI x
    · have hr := rsn_1 (V := V) (a := a) (c := c) (b := b) (e := e) (y := nI y9) h1
      rw [hr] at x7
      obtain ⟨V2, hV2⟩ : ∃ V2, V2 = trd V a c (nI x) b e (nI y9) := ⟨_, rfl⟩
      rw [← hV2] at y7 iv2 due2 dd2 okV2 hws h6
      rw [trd_not (by rw [hr]; decide)] at hV2
      have hw0 : pwN V2 a = pwN V a := by rw [hV2]; exact pwN_cong (fun j g1 g2 => upd_ne _ _ (by omega)) ha
      have hr7 : V2 5 = V 5 + nI 1 := by rw [hV2]; exact upd_eq _ _ _
      have hc2b : ∀ n, cnt V2 n 2 = nI (20 * wsm V) := fun n => (aw_nI okV2.2.2.2.1 okV2.2.2.2.2.1).trans (by rw [hws])
      have hpb := pw_le okV2.2.2.2.1 okV2.2.2.2.2.1 ha
      rw [hws] at hpb
      have hpw2 : isl V2 a 0 = nI (pwN V2 a) := pw_nI okV2.2.2.2.1 okV2.2.2.2.2.1 ha
      obtain ⟨eb1, xb1, yb1, -⟩ := C_islanderOf (J := J) (a := a) (k := 0) y7 iv2 ha (by decide)
      rw [hpw2] at xb1
      obtain ⟨eb2, xb2, yb2, -⟩ := C_count (J := J) (k := 2) yb1 iv2 (by decide)
      rw [hc2b] at xb2
      obtain ⟨eb3, xb3, yb3, -⟩ := C_count (J := J) (k := 7) yb2 iv2 (by decide)
      refine ⟨eb3, r7, ?_, ⟨_, _, _, _, _, _, _, yb3, iv2, due2, dd2⟩⟩
      refine sw_istore (i := 6) dL_trades_67 (Nat.le_of_ble_eq_true rfl) rfl ?_
      refine sw_lo (lo2 := [some (.ref 0), some (.int _), some (.int _), some (.int _), some (.int _), some (.int _), some (.int _), none, none, none, none, none, none, none, none, none, none]) rfl ?_
      refine sw_iload_n (i := 1) dL_trades_69 rfl rfl ?_
      refine sw_bi 14 dL_trades_70 (by decide +kernel) ?_
      refine sw_ishr rfl dL_trades_72 ?_
      refine sw_bi 6 dL_trades_73 (by decide +kernel) ?_
      refine px_Sx ms_L_62 (ly9 _) rfl rfl (Nat.le_of_ble_eq_true rfl) (Nat.le_of_ble_eq_true rfl) (Nat.le_of_ble_eq_true rfl) dL_trades_75 ?_
      refine sw_istore (i := 7) dL_trades_78 (Nat.le_of_ble_eq_true rfl) rfl ?_
      refine sw_lo (lo2 := [some (.ref 0), some (.int _), some (.int _), some (.int _), some (.int _), some (.int _), some (.int _), some (.int _), none, none, none, none, none, none, none, none, none]) rfl ?_
      refine sw_ins (pc2 := 80) rfl rfl ?_
      refine sw_aload_n (i := 0) dL_trades_80 rfl rfl ?_
      refine sw_iload_n (i := 2) dL_trades_81 rfl rfl ?_
      refine sw_ic 0 dL_trades_82 ?_
      refine px_Vx mv_L_20 x1 rfl rfl (Nat.le_of_ble_eq_true rfl) (Nat.le_of_ble_eq_true rfl) ko_0 (Nat.le_of_ble_eq_true rfl) dL_trades_83 ?_
      refine sw_istore (i := 8) dL_trades_86 (Nat.le_of_ble_eq_true rfl) rfl ?_
      refine sw_lo (lo2 := [some (.ref 0), some (.int _), some (.int _), some (.int _), some (.int _), some (.int _), some (.int _), some (.int _), some (.int _), none, none, none, none, none, none, none, none]) rfl ?_
      refine sw_aload_n (i := 0) dL_trades_88 rfl rfl ?_
      refine sw_ic 2 dL_trades_89 ?_
      refine px_Vx mv_L_34 x2 rfl rfl (Nat.le_of_ble_eq_true rfl) (Nat.le_of_ble_eq_true rfl) ko_0 (Nat.le_of_ble_eq_true rfl) dL_trades_90 ?_
      refine sw_ins (pc2 := 93) rfl rfl ?_
      refine sw_istore (i := 9) dL_trades_93 (Nat.le_of_ble_eq_true rfl) rfl ?_
      refine sw_lo (lo2 := [some (.ref 0), some (.int _), some (.int _), some (.int _), some (.int _), some (.int _), some (.int _), some (.int _), some (.int _), some (.int _), none, none, none, none, none, none, none]) rfl ?_
      refine sw_aload_n (i := 0) dL_trades_95 rfl rfl ?_
      refine sw_iload_n (i := 2) dL_trades_96 rfl rfl ?_
      refine sw_iload (i := 4) dL_trades_97 rfl ?_
      refine px_Vx mv_L_24 x3 rfl rfl (Nat.le_of_ble_eq_true rfl) (Nat.le_of_ble_eq_true rfl) ko_0 (Nat.le_of_ble_eq_true rfl) dL_trades_99 ?_
      refine sw_istore (i := 10) dL_trades_102 (Nat.le_of_ble_eq_true rfl) rfl ?_
      refine sw_lo (lo2 := [some (.ref 0), some (.int _), some (.int _), some (.int _), some (.int _), some (.int _), some (.int _), some (.int _), some (.int _), some (.int _), some (.int _), none, none, none, none, none, none]) rfl ?_
      refine sw_aload_n (i := 0) dL_trades_104 rfl rfl ?_
      refine sw_iload_n (i := 3) dL_trades_105 rfl rfl ?_
      refine sw_ins (pc2 := 106) rfl rfl ?_
      refine sw_iload (i := 5) dL_trades_106 rfl ?_
      refine px_Vx mv_L_24 x4 rfl rfl (Nat.le_of_ble_eq_true rfl) (Nat.le_of_ble_eq_true rfl) ko_0 (Nat.le_of_ble_eq_true rfl) dL_trades_108 ?_
      refine sw_istore (i := 11) dL_trades_111 (Nat.le_of_ble_eq_true rfl) rfl ?_
      refine sw_lo (lo2 := [some (.ref 0), some (.int _), some (.int _), some (.int _), some (.int _), some (.int _), some (.int _), some (.int _), some (.int _), some (.int _), some (.int _), some (.int _), none, none, none, none, none]) rfl ?_
      refine sw_aload_n (i := 0) dL_trades_113 rfl rfl ?_
      refine sw_ic 4 dL_trades_114 ?_
      refine px_Vx mv_L_34 x5 rfl rfl (Nat.le_of_ble_eq_true rfl) (Nat.le_of_ble_eq_true rfl) ko_0 (Nat.le_of_ble_eq_true rfl) dL_trades_115 ?_
      refine sw_istore (i := 12) dL_trades_118 (Nat.le_of_ble_eq_true rfl) rfl ?_
      refine sw_lo (lo2 := [some (.ref 0), some (.int _), some (.int _), some (.int _), some (.int _), some (.int _), some (.int _), some (.int _), some (.int _), some (.int _), some (.int _), some (.int _), some (.int _), none, none, none, none]) rfl ?_
      refine sw_aload_n (i := 0) dL_trades_120 rfl rfl ?_
      refine sw_ins (pc2 := 121) rfl rfl ?_
      refine sw_bi 7 dL_trades_121 (by decide +kernel) ?_
      refine px_Vx mv_L_34 x6 rfl rfl (Nat.le_of_ble_eq_true rfl) (Nat.le_of_ble_eq_true rfl) ko_0 (Nat.le_of_ble_eq_true rfl) dL_trades_123 ?_
      refine sw_istore (i := 13) dL_trades_126 (Nat.le_of_ble_eq_true rfl) rfl ?_
      refine sw_lo (lo2 := [some (.ref 0), some (.int _), some (.int _), some (.int _), some (.int _), some (.int _), some (.int _), some (.int _), some (.int _), some (.int _), some (.int _), some (.int _), some (.int _), some (.int _), none, none, none]) rfl ?_
      refine sw_aload_n (i := 0) dL_trades_128 rfl rfl ?_
      refine sw_iload_n (i := 2) dL_trades_129 rfl rfl ?_
      refine sw_iload (i := 4) dL_trades_130 rfl ?_
      refine sw_iload (i := 6) dL_trades_132 rfl ?_
      refine sw_iload_n (i := 3) dL_trades_134 rfl rfl ?_
      refine sw_ins (pc2 := 135) rfl rfl ?_
      refine sw_iload (i := 5) dL_trades_135 rfl ?_
      refine sw_iload (i := 7) dL_trades_137 rfl ?_
      refine px_Vx mv_L_67 x7 rfl rfl (Nat.le_of_ble_eq_true rfl) (Nat.le_of_ble_eq_true rfl) ko_0 (Nat.le_of_ble_eq_true rfl) dL_trades_139 ?_
      refine sw_istore (i := 14) dL_trades_142 (Nat.le_of_ble_eq_true rfl) rfl ?_
      refine sw_lo (lo2 := [some (.ref 0), some (.int _), some (.int _), some (.int _), some (.int _), some (.int _), some (.int _), some (.int _), some (.int _), some (.int _), some (.int _), some (.int _), some (.int _), some (.int _), some (.int _), none, none]) rfl ?_
      refine sw_aload_n (i := 0) dL_trades_144 rfl rfl ?_
      refine sw_iload_n (i := 2) dL_trades_145 rfl rfl ?_
      refine sw_ic 0 dL_trades_146 ?_
      refine px_Vx mv_L_20 xb1 rfl rfl (Nat.le_of_ble_eq_true rfl) (Nat.le_of_ble_eq_true rfl) ko_0 (Nat.le_of_ble_eq_true rfl) dL_trades_147 ?_
      refine sw_ins (pc2 := 150) rfl rfl ?_
      refine sw_iload (i := 8) dL_trades_150 rfl ?_
      refine sw_isub dL_trades_152 ?_
      refine sw_istore (i := 15) dL_trades_153 (Nat.le_of_ble_eq_true rfl) rfl ?_
      refine sw_lo (lo2 := [some (.ref 0), some (.int _), some (.int _), some (.int _), some (.int _), some (.int _), some (.int _), some (.int _), some (.int _), some (.int _), some (.int _), some (.int _), some (.int _), some (.int _), some (.int _), some (.int _), none]) rfl ?_
      refine sw_aload_n (i := 0) dL_trades_155 rfl rfl ?_
      refine sw_ic 2 dL_trades_156 ?_
      refine px_Vx mv_L_34 xb2 rfl rfl (Nat.le_of_ble_eq_true rfl) (Nat.le_of_ble_eq_true rfl) ko_0 (Nat.le_of_ble_eq_true rfl) dL_trades_157 ?_
      refine sw_iload (i := 9) dL_trades_160 rfl ?_
      refine sw_ic_ne (tgt := 228) dL_trades_162 rfl (fun h9 => absurd rfl h9) (fun _ => ?_)
      refine sw_ins (pc2 := 165) rfl rfl ?_
      refine sw_iload (i := 14) dL_trades_165 rfl ?_
      refine sw_ic 1 dL_trades_167 ?_
      refine sw_ic_ne (tgt := 175) dL_trades_168 rfl (fun h9 => absurd (by decide) h9) (fun _ => ?_)
      refine sw_ic 1 dL_trades_171 ?_
      refine sw_goto (tgt := 176) dL_trades_172 rfl ?_
      refine sw_iload (i := 10) dL_trades_176 rfl ?_
      refine sw_iload (i := 6) dL_trades_178 rfl ?_
      refine sw_ic_ge (tgt := 187) dL_trades_180 rfl (fun h9 => absurd h9 (Int32.not_le.mpr h1)) (fun _ => ?_)
      refine sw_ins (pc2 := 183) rfl rfl ?_
      refine sw_ic 1 dL_trades_183 ?_
      refine sw_goto (tgt := 188) dL_trades_184 rfl ?_
      refine sw_ic_ne (tgt := 228) dL_trades_188 rfl (fun h9 => absurd (by decide) h9) (fun _ => ?_)
      refine sw_iload (i := 14) dL_trades_191 rfl ?_
      refine sw_ic 2 dL_trades_193 ?_
      refine sw_ic_ne (tgt := 201) dL_trades_194 rfl (fun _ => ?_) (fun h9 => absurd h9 (by decide))
      refine sw_ic 0 dL_trades_201 ?_
      refine sw_iload (i := 10) dL_trades_202 rfl ?_
      refine sw_ins (pc2 := 204) rfl rfl ?_
      refine sw_iload (i := 6) dL_trades_204 rfl ?_
      refine sw_ic_lt (tgt := 220) dL_trades_206 rfl (fun _ => ?_) (fun h9 => absurd h1 h9)
      refine sw_ic 0 dL_trades_220 ?_
      refine sw_ic_ne (tgt := 228) dL_trades_221 rfl (fun h9 => absurd (by decide) h9) (fun _ => ?_)
      refine sw_ic 1 dL_trades_224 ?_
      refine sw_goto (tgt := 229) dL_trades_225 rfl ?_
      refine sw_istore (i := 16) dL_trades_229 (Nat.le_of_ble_eq_true rfl) rfl ?_
      refine sw_lo (lo2 := [some (.ref 0), some (.int _), some (.int _), some (.int _), some (.int _), some (.int _), some (.int _), some (.int _), some (.int _), some (.int _), some (.int _), some (.int _), some (.int _), some (.int _), some (.int _), some (.int _), some (.int _)]) rfl ?_
      refine sw_iload (i := 16) dL_trades_231 rfl ?_
      refine sw_ins (pc2 := 233) rfl rfl ?_
      refine sw_if_eq (tgt := 323) dL_trades_233 rfl (fun h9 => absurd h9 (by decide)) (fun _ => ?_)
      refine sw_iload (i := 14) dL_trades_236 rfl ?_
      refine sw_if_ne (tgt := 290) dL_trades_238 rfl (fun _ => ?_) (fun h9 => absurd h9 (by decide))
      refine sw_iload (i := 14) dL_trades_290 rfl ?_
      refine sw_if_le (tgt := 323) dL_trades_292 rfl (fun h9 => absurd h9 (by decide)) (fun _ => ?_)
      refine sw_iload (i := 14) dL_trades_295 rfl ?_
      refine sw_ic 4 dL_trades_297 ?_
      refine sw_ic_ge (tgt := 323) dL_trades_298 rfl (fun h9 => absurd h9 (by decide)) (fun _ => ?_)
      refine sw_ins (pc2 := 301) rfl rfl ?_
      refine sw_iload (i := 15) dL_trades_301 rfl ?_
      refine sw_if_ne (tgt := 323) dL_trades_303 rfl (fun h9 => absurd (by rw [hw0, pk_sub (Nat.le_refl _), Nat.sub_self]; rfl) h9) (fun _ => ?_)
      refine sw_aload_n (i := 0) dL_trades_306 rfl rfl ?_
      refine sw_bi 7 dL_trades_307 (by decide +kernel) ?_
      refine px_Vx mv_L_34 xb3 rfl rfl (Nat.le_of_ble_eq_true rfl) (Nat.le_of_ble_eq_true rfl) ko_0 (Nat.le_of_ble_eq_true rfl) dL_trades_309 ?_
      refine sw_iload (i := 13) dL_trades_312 rfl ?_
      refine sw_ic 1 dL_trades_314 ?_
      refine sw_iadd dL_trades_315 ?_
      refine sw_ins (pc2 := 316) rfl rfl ?_
      refine sw_ic_ne (tgt := 323) dL_trades_316 rfl (fun h9 => absurd hr7 h9) (fun _ => ?_)
      refine sw_ic 1 dL_trades_319 ?_
      refine sw_goto (tgt := 324) dL_trades_320 rfl ?_
      exact sw_zreturnE rfl rfl rfl dL_trades_324
    · by_cases h2 : V (19 + (b * 4 + e)) < nI y9
      · have hr := rsn_2 (V := V) (a := a) (c := c) (b := b) (e := e) h1 h2
        rw [hr] at x7
        obtain ⟨V2, hV2⟩ : ∃ V2, V2 = trd V a c (nI x) b e (nI y9) := ⟨_, rfl⟩
        rw [← hV2] at y7 iv2 due2 dd2 okV2 hws h6
        rw [trd_not (by rw [hr]; decide)] at hV2
        have hw0 : pwN V2 a = pwN V a := by rw [hV2]; exact pwN_cong (fun j g1 g2 => upd_ne _ _ (by omega)) ha
        have hr7 : V2 5 = V 5 + nI 1 := by rw [hV2]; exact upd_eq _ _ _
        have hc2b : ∀ n, cnt V2 n 2 = nI (20 * wsm V) := fun n => (aw_nI okV2.2.2.2.1 okV2.2.2.2.2.1).trans (by rw [hws])
        have hpb := pw_le okV2.2.2.2.1 okV2.2.2.2.2.1 ha
        rw [hws] at hpb
        have hpw2 : isl V2 a 0 = nI (pwN V2 a) := pw_nI okV2.2.2.2.1 okV2.2.2.2.2.1 ha
        obtain ⟨eb1, xb1, yb1, -⟩ := C_islanderOf (J := J) (a := a) (k := 0) y7 iv2 ha (by decide)
        rw [hpw2] at xb1
        obtain ⟨eb2, xb2, yb2, -⟩ := C_count (J := J) (k := 2) yb1 iv2 (by decide)
        rw [hc2b] at xb2
        obtain ⟨eb3, xb3, yb3, -⟩ := C_count (J := J) (k := 7) yb2 iv2 (by decide)
        refine ⟨eb3, r7, ?_, ⟨_, _, _, _, _, _, _, yb3, iv2, due2, dd2⟩⟩
        refine sw_istore (i := 6) dL_trades_67 (Nat.le_of_ble_eq_true rfl) rfl ?_
        refine sw_lo (lo2 := [some (.ref 0), some (.int _), some (.int _), some (.int _), some (.int _), some (.int _), some (.int _), none, none, none, none, none, none, none, none, none, none]) rfl ?_
        refine sw_iload_n (i := 1) dL_trades_69 rfl rfl ?_
        refine sw_bi 14 dL_trades_70 (by decide +kernel) ?_
        refine sw_ishr rfl dL_trades_72 ?_
        refine sw_bi 6 dL_trades_73 (by decide +kernel) ?_
        refine px_Sx ms_L_62 (ly9 _) rfl rfl (Nat.le_of_ble_eq_true rfl) (Nat.le_of_ble_eq_true rfl) (Nat.le_of_ble_eq_true rfl) dL_trades_75 ?_
        refine sw_istore (i := 7) dL_trades_78 (Nat.le_of_ble_eq_true rfl) rfl ?_
        refine sw_lo (lo2 := [some (.ref 0), some (.int _), some (.int _), some (.int _), some (.int _), some (.int _), some (.int _), some (.int _), none, none, none, none, none, none, none, none, none]) rfl ?_
        refine sw_ins (pc2 := 80) rfl rfl ?_
        refine sw_aload_n (i := 0) dL_trades_80 rfl rfl ?_
        refine sw_iload_n (i := 2) dL_trades_81 rfl rfl ?_
        refine sw_ic 0 dL_trades_82 ?_
        refine px_Vx mv_L_20 x1 rfl rfl (Nat.le_of_ble_eq_true rfl) (Nat.le_of_ble_eq_true rfl) ko_0 (Nat.le_of_ble_eq_true rfl) dL_trades_83 ?_
        refine sw_istore (i := 8) dL_trades_86 (Nat.le_of_ble_eq_true rfl) rfl ?_
        refine sw_lo (lo2 := [some (.ref 0), some (.int _), some (.int _), some (.int _), some (.int _), some (.int _), some (.int _), some (.int _), some (.int _), none, none, none, none, none, none, none, none]) rfl ?_
        refine sw_aload_n (i := 0) dL_trades_88 rfl rfl ?_
        refine sw_ic 2 dL_trades_89 ?_
        refine px_Vx mv_L_34 x2 rfl rfl (Nat.le_of_ble_eq_true rfl) (Nat.le_of_ble_eq_true rfl) ko_0 (Nat.le_of_ble_eq_true rfl) dL_trades_90 ?_
        refine sw_ins (pc2 := 93) rfl rfl ?_
        refine sw_istore (i := 9) dL_trades_93 (Nat.le_of_ble_eq_true rfl) rfl ?_
        refine sw_lo (lo2 := [some (.ref 0), some (.int _), some (.int _), some (.int _), some (.int _), some (.int _), some (.int _), some (.int _), some (.int _), some (.int _), none, none, none, none, none, none, none]) rfl ?_
        refine sw_aload_n (i := 0) dL_trades_95 rfl rfl ?_
        refine sw_iload_n (i := 2) dL_trades_96 rfl rfl ?_
        refine sw_iload (i := 4) dL_trades_97 rfl ?_
        refine px_Vx mv_L_24 x3 rfl rfl (Nat.le_of_ble_eq_true rfl) (Nat.le_of_ble_eq_true rfl) ko_0 (Nat.le_of_ble_eq_true rfl) dL_trades_99 ?_
        refine sw_istore (i := 10) dL_trades_102 (Nat.le_of_ble_eq_true rfl) rfl ?_
        refine sw_lo (lo2 := [some (.ref 0), some (.int _), some (.int _), some (.int _), some (.int _), some (.int _), some (.int _), some (.int _), some (.int _), some (.int _), some (.int _), none, none, none, none, none, none]) rfl ?_
        refine sw_aload_n (i := 0) dL_trades_104 rfl rfl ?_
        refine sw_iload_n (i := 3) dL_trades_105 rfl rfl ?_
        refine sw_ins (pc2 := 106) rfl rfl ?_
        refine sw_iload (i := 5) dL_trades_106 rfl ?_
        refine px_Vx mv_L_24 x4 rfl rfl (Nat.le_of_ble_eq_true rfl) (Nat.le_of_ble_eq_true rfl) ko_0 (Nat.le_of_ble_eq_true rfl) dL_trades_108 ?_
        refine sw_istore (i := 11) dL_trades_111 (Nat.le_of_ble_eq_true rfl) rfl ?_
        refine sw_lo (lo2 := [some (.ref 0), some (.int _), some (.int _), some (.int _), some (.int _), some (.int _), some (.int _), some (.int _), some (.int _), some (.int _), some (.int _), some (.int _), none, none, none, none, none]) rfl ?_
        refine sw_aload_n (i := 0) dL_trades_113 rfl rfl ?_
        refine sw_ic 4 dL_trades_114 ?_
        refine px_Vx mv_L_34 x5 rfl rfl (Nat.le_of_ble_eq_true rfl) (Nat.le_of_ble_eq_true rfl) ko_0 (Nat.le_of_ble_eq_true rfl) dL_trades_115 ?_
        refine sw_istore (i := 12) dL_trades_118 (Nat.le_of_ble_eq_true rfl) rfl ?_
        refine sw_lo (lo2 := [some (.ref 0), some (.int _), some (.int _), some (.int _), some (.int _), some (.int _), some (.int _), some (.int _), some (.int _), some (.int _), some (.int _), some (.int _), some (.int _), none, none, none, none]) rfl ?_
        refine sw_aload_n (i := 0) dL_trades_120 rfl rfl ?_
        refine sw_ins (pc2 := 121) rfl rfl ?_
        refine sw_bi 7 dL_trades_121 (by decide +kernel) ?_
        refine px_Vx mv_L_34 x6 rfl rfl (Nat.le_of_ble_eq_true rfl) (Nat.le_of_ble_eq_true rfl) ko_0 (Nat.le_of_ble_eq_true rfl) dL_trades_123 ?_
        refine sw_istore (i := 13) dL_trades_126 (Nat.le_of_ble_eq_true rfl) rfl ?_
        refine sw_lo (lo2 := [some (.ref 0), some (.int _), some (.int _), some (.int _), some (.int _), some (.int _), some (.int _), some (.int _), some (.int _), some (.int _), some (.int _), some (.int _), some (.int _), some (.int _), none, none, none]) rfl ?_
        refine sw_aload_n (i := 0) dL_trades_128 rfl rfl ?_
        refine sw_iload_n (i := 2) dL_trades_129 rfl rfl ?_
        refine sw_iload (i := 4) dL_trades_130 rfl ?_
        refine sw_iload (i := 6) dL_trades_132 rfl ?_
        refine sw_iload_n (i := 3) dL_trades_134 rfl rfl ?_
        refine sw_ins (pc2 := 135) rfl rfl ?_
        refine sw_iload (i := 5) dL_trades_135 rfl ?_
        refine sw_iload (i := 7) dL_trades_137 rfl ?_
        refine px_Vx mv_L_67 x7 rfl rfl (Nat.le_of_ble_eq_true rfl) (Nat.le_of_ble_eq_true rfl) ko_0 (Nat.le_of_ble_eq_true rfl) dL_trades_139 ?_
        refine sw_istore (i := 14) dL_trades_142 (Nat.le_of_ble_eq_true rfl) rfl ?_
        refine sw_lo (lo2 := [some (.ref 0), some (.int _), some (.int _), some (.int _), some (.int _), some (.int _), some (.int _), some (.int _), some (.int _), some (.int _), some (.int _), some (.int _), some (.int _), some (.int _), some (.int _), none, none]) rfl ?_
        refine sw_aload_n (i := 0) dL_trades_144 rfl rfl ?_
        refine sw_iload_n (i := 2) dL_trades_145 rfl rfl ?_
        refine sw_ic 0 dL_trades_146 ?_
        refine px_Vx mv_L_20 xb1 rfl rfl (Nat.le_of_ble_eq_true rfl) (Nat.le_of_ble_eq_true rfl) ko_0 (Nat.le_of_ble_eq_true rfl) dL_trades_147 ?_
        refine sw_ins (pc2 := 150) rfl rfl ?_
        refine sw_iload (i := 8) dL_trades_150 rfl ?_
        refine sw_isub dL_trades_152 ?_
        refine sw_istore (i := 15) dL_trades_153 (Nat.le_of_ble_eq_true rfl) rfl ?_
        refine sw_lo (lo2 := [some (.ref 0), some (.int _), some (.int _), some (.int _), some (.int _), some (.int _), some (.int _), some (.int _), some (.int _), some (.int _), some (.int _), some (.int _), some (.int _), some (.int _), some (.int _), some (.int _), none]) rfl ?_
        refine sw_aload_n (i := 0) dL_trades_155 rfl rfl ?_
        refine sw_ic 2 dL_trades_156 ?_
        refine px_Vx mv_L_34 xb2 rfl rfl (Nat.le_of_ble_eq_true rfl) (Nat.le_of_ble_eq_true rfl) ko_0 (Nat.le_of_ble_eq_true rfl) dL_trades_157 ?_
        refine sw_iload (i := 9) dL_trades_160 rfl ?_
        refine sw_ic_ne (tgt := 228) dL_trades_162 rfl (fun h9 => absurd rfl h9) (fun _ => ?_)
        refine sw_ins (pc2 := 165) rfl rfl ?_
        refine sw_iload (i := 14) dL_trades_165 rfl ?_
        refine sw_ic 1 dL_trades_167 ?_
        refine sw_ic_ne (tgt := 175) dL_trades_168 rfl (fun _ => ?_) (fun h9 => absurd h9 (by decide))
        refine sw_ic 0 dL_trades_175 ?_
        refine sw_iload (i := 10) dL_trades_176 rfl ?_
        refine sw_iload (i := 6) dL_trades_178 rfl ?_
        refine sw_ic_ge (tgt := 187) dL_trades_180 rfl (fun _ => ?_) (fun h9 => absurd (Int32.not_lt.mp h1) h9)
        refine sw_ic 0 dL_trades_187 ?_
        refine sw_ins (pc2 := 188) rfl rfl ?_
        refine sw_ic_ne (tgt := 228) dL_trades_188 rfl (fun h9 => absurd (by decide) h9) (fun _ => ?_)
        refine sw_iload (i := 14) dL_trades_191 rfl ?_
        refine sw_ic 2 dL_trades_193 ?_
        refine sw_ic_ne (tgt := 201) dL_trades_194 rfl (fun h9 => absurd (by decide) h9) (fun _ => ?_)
        refine sw_ic 1 dL_trades_197 ?_
        refine sw_goto (tgt := 202) dL_trades_198 rfl ?_
        refine sw_iload (i := 10) dL_trades_202 rfl ?_
        refine sw_iload (i := 6) dL_trades_204 rfl ?_
        refine sw_ins (pc2 := 206) rfl rfl ?_
        refine sw_ic_lt (tgt := 220) dL_trades_206 rfl (fun h9 => absurd h9 h1) (fun _ => ?_)
        refine sw_iload (i := 11) dL_trades_209 rfl ?_
        refine sw_iload (i := 7) dL_trades_211 rfl ?_
        refine sw_ic_ge (tgt := 220) dL_trades_213 rfl (fun h9 => absurd h9 (Int32.not_le.mpr h2)) (fun _ => ?_)
        refine sw_ic 1 dL_trades_216 ?_
        refine sw_goto (tgt := 221) dL_trades_217 rfl ?_
        refine sw_ic_ne (tgt := 228) dL_trades_221 rfl (fun h9 => absurd (by decide) h9) (fun _ => ?_)
        refine sw_ic 1 dL_trades_224 ?_
        refine sw_ins (pc2 := 225) rfl rfl ?_
        refine sw_goto (tgt := 229) dL_trades_225 rfl ?_
        refine sw_istore (i := 16) dL_trades_229 (Nat.le_of_ble_eq_true rfl) rfl ?_
        refine sw_lo (lo2 := [some (.ref 0), some (.int _), some (.int _), some (.int _), some (.int _), some (.int _), some (.int _), some (.int _), some (.int _), some (.int _), some (.int _), some (.int _), some (.int _), some (.int _), some (.int _), some (.int _), some (.int _)]) rfl ?_
        refine sw_iload (i := 16) dL_trades_231 rfl ?_
        refine sw_if_eq (tgt := 323) dL_trades_233 rfl (fun h9 => absurd h9 (by decide)) (fun _ => ?_)
        refine sw_iload (i := 14) dL_trades_236 rfl ?_
        refine sw_if_ne (tgt := 290) dL_trades_238 rfl (fun _ => ?_) (fun h9 => absurd h9 (by decide))
        refine sw_iload (i := 14) dL_trades_290 rfl ?_
        refine sw_if_le (tgt := 323) dL_trades_292 rfl (fun h9 => absurd h9 (by decide)) (fun _ => ?_)
        refine sw_ins (pc2 := 295) rfl rfl ?_
        refine sw_iload (i := 14) dL_trades_295 rfl ?_
        refine sw_ic 4 dL_trades_297 ?_
        refine sw_ic_ge (tgt := 323) dL_trades_298 rfl (fun h9 => absurd h9 (by decide)) (fun _ => ?_)
        refine sw_iload (i := 15) dL_trades_301 rfl ?_
        refine sw_if_ne (tgt := 323) dL_trades_303 rfl (fun h9 => absurd (by rw [hw0, pk_sub (Nat.le_refl _), Nat.sub_self]; rfl) h9) (fun _ => ?_)
        refine sw_aload_n (i := 0) dL_trades_306 rfl rfl ?_
        refine sw_bi 7 dL_trades_307 (by decide +kernel) ?_
        refine px_Vx mv_L_34 xb3 rfl rfl (Nat.le_of_ble_eq_true rfl) (Nat.le_of_ble_eq_true rfl) ko_0 (Nat.le_of_ble_eq_true rfl) dL_trades_309 ?_
        refine sw_ins (pc2 := 312) rfl rfl ?_
        refine sw_iload (i := 13) dL_trades_312 rfl ?_
        refine sw_ic 1 dL_trades_314 ?_
        refine sw_iadd dL_trades_315 ?_
        refine sw_ic_ne (tgt := 323) dL_trades_316 rfl (fun h9 => absurd hr7 h9) (fun _ => ?_)
        refine sw_ic 1 dL_trades_319 ?_
        refine sw_goto (tgt := 324) dL_trades_320 rfl ?_
        exact sw_zreturnE rfl rfl rfl dL_trades_324
      · rcases rsn_03 iv.1 (a := a) (b := b) hc he (by omega) (by omega) h1 h2 with ⟨hr, hfa⟩ | hr
        · rw [hr] at x7
          have hpt := trd_pw iv.1 ha hc hb he hne (x := x) (y := y9) (by omega) (by omega) hr
          obtain ⟨V2, hV2⟩ : ∃ V2, V2 = trd V a c (nI x) b e (nI y9) := ⟨_, rfl⟩
          rw [← hV2] at y7 iv2 due2 dd2 okV2 hws h6
          have hpb9 := pw_le okV2.2.2.2.1 okV2.2.2.2.2.1 ha
          rw [hws] at hpb9
          rw [← hV2] at hpt
          have hr0 : rsn V a c b e (nI x) (nI y9) = 0 := hr
          have ht4 : V2 2 = V 2 + nI 1 := by
            rw [hV2]
            unfold trd
            rw [if_pos hr0, upd_eq, hnd_off hb ha he (by omega), hnd_off ha hb hc (by omega)]
          have ht7 : V2 5 = V 5 := by
            rw [hV2]
            unfold trd
            rw [if_pos hr0, upd_ne _ _ (by decide), hnd_off hb ha he (by omega), hnd_off ha hb hc (by omega)]
          unfold fair at hfa
          have h6n : V 6 = nI (nv V 6) := okD.2.1
          have h69 := okD.2.2
          have le1 : nI (pwN V2 a) - nI (pwN V a) ≤ V2 6 := by
            rw [h6, h6n]
            refine le_i (by omega) (by omega) (by omega) ?_
            have := hfa.2
            push_cast at this
            omega
          have le2 : -(nI (pwN V2 a) - nI (pwN V a)) ≤ V2 6 := by
            rw [i_negsub, h6, h6n]
            refine le_i (by omega) (by omega) (by omega) ?_
            have := hfa.1
            push_cast at this
            omega
          have hc2b : ∀ n, cnt V2 n 2 = nI (20 * wsm V) := fun n => (aw_nI okV2.2.2.2.1 okV2.2.2.2.2.1).trans (by rw [hws])
          have hpb := pw_le okV2.2.2.2.1 okV2.2.2.2.2.1 ha
          rw [hws] at hpb
          have hpw2 : isl V2 a 0 = nI (pwN V2 a) := pw_nI okV2.2.2.2.1 okV2.2.2.2.2.1 ha
          obtain ⟨eb1, xb1, yb1, -⟩ := C_islanderOf (J := J) (a := a) (k := 0) y7 iv2 ha (by decide)
          rw [hpw2] at xb1
          obtain ⟨eb2, xb2, yb2, -⟩ := C_count (J := J) (k := 2) yb1 iv2 (by decide)
          rw [hc2b] at xb2
          obtain ⟨eb3, xb3, yb3, -⟩ := C_count (J := J) (k := 8) yb2 iv2 (by decide)
          obtain ⟨eb4, xb4, yb4, -⟩ := C_count (J := J) (k := 8) yb3 iv2 (by decide)
          obtain ⟨eb5, xb5, yb5, -⟩ := C_count (J := J) (k := 4) yb4 iv2 (by decide)
          obtain ⟨eb6, xb6, yb6, -⟩ := C_count (J := J) (k := 7) yb5 iv2 (by decide)
          refine ⟨eb6, r7, ?_, ⟨_, _, _, _, _, _, _, yb6, iv2, due2, dd2⟩⟩
          refine sw_istore (i := 6) dL_trades_67 (Nat.le_of_ble_eq_true rfl) rfl ?_
          refine sw_lo (lo2 := [some (.ref 0), some (.int _), some (.int _), some (.int _), some (.int _), some (.int _), some (.int _), none, none, none, none, none, none, none, none, none, none]) rfl ?_
          refine sw_iload_n (i := 1) dL_trades_69 rfl rfl ?_
          refine sw_bi 14 dL_trades_70 (by decide +kernel) ?_
          refine sw_ishr rfl dL_trades_72 ?_
          refine sw_bi 6 dL_trades_73 (by decide +kernel) ?_
          refine px_Sx ms_L_62 (ly9 _) rfl rfl (Nat.le_of_ble_eq_true rfl) (Nat.le_of_ble_eq_true rfl) (Nat.le_of_ble_eq_true rfl) dL_trades_75 ?_
          refine sw_istore (i := 7) dL_trades_78 (Nat.le_of_ble_eq_true rfl) rfl ?_
          refine sw_lo (lo2 := [some (.ref 0), some (.int _), some (.int _), some (.int _), some (.int _), some (.int _), some (.int _), some (.int _), none, none, none, none, none, none, none, none, none]) rfl ?_
          refine sw_ins (pc2 := 80) rfl rfl ?_
          refine sw_aload_n (i := 0) dL_trades_80 rfl rfl ?_
          refine sw_iload_n (i := 2) dL_trades_81 rfl rfl ?_
          refine sw_ic 0 dL_trades_82 ?_
          refine px_Vx mv_L_20 x1 rfl rfl (Nat.le_of_ble_eq_true rfl) (Nat.le_of_ble_eq_true rfl) ko_0 (Nat.le_of_ble_eq_true rfl) dL_trades_83 ?_
          refine sw_istore (i := 8) dL_trades_86 (Nat.le_of_ble_eq_true rfl) rfl ?_
          refine sw_lo (lo2 := [some (.ref 0), some (.int _), some (.int _), some (.int _), some (.int _), some (.int _), some (.int _), some (.int _), some (.int _), none, none, none, none, none, none, none, none]) rfl ?_
          refine sw_aload_n (i := 0) dL_trades_88 rfl rfl ?_
          refine sw_ic 2 dL_trades_89 ?_
          refine px_Vx mv_L_34 x2 rfl rfl (Nat.le_of_ble_eq_true rfl) (Nat.le_of_ble_eq_true rfl) ko_0 (Nat.le_of_ble_eq_true rfl) dL_trades_90 ?_
          refine sw_ins (pc2 := 93) rfl rfl ?_
          refine sw_istore (i := 9) dL_trades_93 (Nat.le_of_ble_eq_true rfl) rfl ?_
          refine sw_lo (lo2 := [some (.ref 0), some (.int _), some (.int _), some (.int _), some (.int _), some (.int _), some (.int _), some (.int _), some (.int _), some (.int _), none, none, none, none, none, none, none]) rfl ?_
          refine sw_aload_n (i := 0) dL_trades_95 rfl rfl ?_
          refine sw_iload_n (i := 2) dL_trades_96 rfl rfl ?_
          refine sw_iload (i := 4) dL_trades_97 rfl ?_
          refine px_Vx mv_L_24 x3 rfl rfl (Nat.le_of_ble_eq_true rfl) (Nat.le_of_ble_eq_true rfl) ko_0 (Nat.le_of_ble_eq_true rfl) dL_trades_99 ?_
          refine sw_istore (i := 10) dL_trades_102 (Nat.le_of_ble_eq_true rfl) rfl ?_
          refine sw_lo (lo2 := [some (.ref 0), some (.int _), some (.int _), some (.int _), some (.int _), some (.int _), some (.int _), some (.int _), some (.int _), some (.int _), some (.int _), none, none, none, none, none, none]) rfl ?_
          refine sw_aload_n (i := 0) dL_trades_104 rfl rfl ?_
          refine sw_iload_n (i := 3) dL_trades_105 rfl rfl ?_
          refine sw_ins (pc2 := 106) rfl rfl ?_
          refine sw_iload (i := 5) dL_trades_106 rfl ?_
          refine px_Vx mv_L_24 x4 rfl rfl (Nat.le_of_ble_eq_true rfl) (Nat.le_of_ble_eq_true rfl) ko_0 (Nat.le_of_ble_eq_true rfl) dL_trades_108 ?_
          refine sw_istore (i := 11) dL_trades_111 (Nat.le_of_ble_eq_true rfl) rfl ?_
          refine sw_lo (lo2 := [some (.ref 0), some (.int _), some (.int _), some (.int _), some (.int _), some (.int _), some (.int _), some (.int _), some (.int _), some (.int _), some (.int _), some (.int _), none, none, none, none, none]) rfl ?_
          refine sw_aload_n (i := 0) dL_trades_113 rfl rfl ?_
          refine sw_ic 4 dL_trades_114 ?_
          refine px_Vx mv_L_34 x5 rfl rfl (Nat.le_of_ble_eq_true rfl) (Nat.le_of_ble_eq_true rfl) ko_0 (Nat.le_of_ble_eq_true rfl) dL_trades_115 ?_
          refine sw_istore (i := 12) dL_trades_118 (Nat.le_of_ble_eq_true rfl) rfl ?_
          refine sw_lo (lo2 := [some (.ref 0), some (.int _), some (.int _), some (.int _), some (.int _), some (.int _), some (.int _), some (.int _), some (.int _), some (.int _), some (.int _), some (.int _), some (.int _), none, none, none, none]) rfl ?_
          refine sw_aload_n (i := 0) dL_trades_120 rfl rfl ?_
          refine sw_ins (pc2 := 121) rfl rfl ?_
          refine sw_bi 7 dL_trades_121 (by decide +kernel) ?_
          refine px_Vx mv_L_34 x6 rfl rfl (Nat.le_of_ble_eq_true rfl) (Nat.le_of_ble_eq_true rfl) ko_0 (Nat.le_of_ble_eq_true rfl) dL_trades_123 ?_
          refine sw_istore (i := 13) dL_trades_126 (Nat.le_of_ble_eq_true rfl) rfl ?_
          refine sw_lo (lo2 := [some (.ref 0), some (.int _), some (.int _), some (.int _), some (.int _), some (.int _), some (.int _), some (.int _), some (.int _), some (.int _), some (.int _), some (.int _), some (.int _), some (.int _), none, none, none]) rfl ?_
          refine sw_aload_n (i := 0) dL_trades_128 rfl rfl ?_
          refine sw_iload_n (i := 2) dL_trades_129 rfl rfl ?_
          refine sw_iload (i := 4) dL_trades_130 rfl ?_
          refine sw_iload (i := 6) dL_trades_132 rfl ?_
          refine sw_iload_n (i := 3) dL_trades_134 rfl rfl ?_
          refine sw_ins (pc2 := 135) rfl rfl ?_
          refine sw_iload (i := 5) dL_trades_135 rfl ?_
          refine sw_iload (i := 7) dL_trades_137 rfl ?_
          refine px_Vx mv_L_67 x7 rfl rfl (Nat.le_of_ble_eq_true rfl) (Nat.le_of_ble_eq_true rfl) ko_0 (Nat.le_of_ble_eq_true rfl) dL_trades_139 ?_
          refine sw_istore (i := 14) dL_trades_142 (Nat.le_of_ble_eq_true rfl) rfl ?_
          refine sw_lo (lo2 := [some (.ref 0), some (.int _), some (.int _), some (.int _), some (.int _), some (.int _), some (.int _), some (.int _), some (.int _), some (.int _), some (.int _), some (.int _), some (.int _), some (.int _), some (.int _), none, none]) rfl ?_
          refine sw_aload_n (i := 0) dL_trades_144 rfl rfl ?_
          refine sw_iload_n (i := 2) dL_trades_145 rfl rfl ?_
          refine sw_ic 0 dL_trades_146 ?_
          refine px_Vx mv_L_20 xb1 rfl rfl (Nat.le_of_ble_eq_true rfl) (Nat.le_of_ble_eq_true rfl) ko_0 (Nat.le_of_ble_eq_true rfl) dL_trades_147 ?_
          refine sw_ins (pc2 := 150) rfl rfl ?_
          refine sw_iload (i := 8) dL_trades_150 rfl ?_
          refine sw_isub dL_trades_152 ?_
          refine sw_istore (i := 15) dL_trades_153 (Nat.le_of_ble_eq_true rfl) rfl ?_
          refine sw_lo (lo2 := [some (.ref 0), some (.int _), some (.int _), some (.int _), some (.int _), some (.int _), some (.int _), some (.int _), some (.int _), some (.int _), some (.int _), some (.int _), some (.int _), some (.int _), some (.int _), some (.int _), none]) rfl ?_
          refine sw_aload_n (i := 0) dL_trades_155 rfl rfl ?_
          refine sw_ic 2 dL_trades_156 ?_
          refine px_Vx mv_L_34 xb2 rfl rfl (Nat.le_of_ble_eq_true rfl) (Nat.le_of_ble_eq_true rfl) ko_0 (Nat.le_of_ble_eq_true rfl) dL_trades_157 ?_
          refine sw_iload (i := 9) dL_trades_160 rfl ?_
          refine sw_ic_ne (tgt := 228) dL_trades_162 rfl (fun h9 => absurd rfl h9) (fun _ => ?_)
          refine sw_ins (pc2 := 165) rfl rfl ?_
          refine sw_iload (i := 14) dL_trades_165 rfl ?_
          refine sw_ic 1 dL_trades_167 ?_
          refine sw_ic_ne (tgt := 175) dL_trades_168 rfl (fun _ => ?_) (fun h9 => absurd h9 (by decide))
          refine sw_ic 0 dL_trades_175 ?_
          refine sw_iload (i := 10) dL_trades_176 rfl ?_
          refine sw_iload (i := 6) dL_trades_178 rfl ?_
          refine sw_ic_ge (tgt := 187) dL_trades_180 rfl (fun _ => ?_) (fun h9 => absurd (Int32.not_lt.mp h1) h9)
          refine sw_ic 0 dL_trades_187 ?_
          refine sw_ins (pc2 := 188) rfl rfl ?_
          refine sw_ic_ne (tgt := 228) dL_trades_188 rfl (fun h9 => absurd (by decide) h9) (fun _ => ?_)
          refine sw_iload (i := 14) dL_trades_191 rfl ?_
          refine sw_ic 2 dL_trades_193 ?_
          refine sw_ic_ne (tgt := 201) dL_trades_194 rfl (fun _ => ?_) (fun h9 => absurd h9 (by decide))
          refine sw_ic 0 dL_trades_201 ?_
          refine sw_iload (i := 10) dL_trades_202 rfl ?_
          refine sw_iload (i := 6) dL_trades_204 rfl ?_
          refine sw_ic_lt (tgt := 220) dL_trades_206 rfl (fun h9 => absurd h9 h1) (fun _ => ?_)
          refine sw_ins (pc2 := 209) rfl rfl ?_
          refine sw_iload (i := 11) dL_trades_209 rfl ?_
          refine sw_iload (i := 7) dL_trades_211 rfl ?_
          refine sw_ic_ge (tgt := 220) dL_trades_213 rfl (fun _ => ?_) (fun h9 => absurd (Int32.not_lt.mp h2) h9)
          refine sw_ic 0 dL_trades_220 ?_
          refine sw_ic_ne (tgt := 228) dL_trades_221 rfl (fun h9 => absurd (by decide) h9) (fun _ => ?_)
          refine sw_ic 1 dL_trades_224 ?_
          refine sw_goto (tgt := 229) dL_trades_225 rfl ?_
          refine sw_istore (i := 16) dL_trades_229 (Nat.le_of_ble_eq_true rfl) rfl ?_
          refine sw_lo (lo2 := [some (.ref 0), some (.int _), some (.int _), some (.int _), some (.int _), some (.int _), some (.int _), some (.int _), some (.int _), some (.int _), some (.int _), some (.int _), some (.int _), some (.int _), some (.int _), some (.int _), some (.int _)]) rfl ?_
          refine sw_ins (pc2 := 231) rfl rfl ?_
          refine sw_iload (i := 16) dL_trades_231 rfl ?_
          refine sw_if_eq (tgt := 323) dL_trades_233 rfl (fun h9 => absurd h9 (by decide)) (fun _ => ?_)
          refine sw_iload (i := 14) dL_trades_236 rfl ?_
          refine sw_if_ne (tgt := 290) dL_trades_238 rfl (fun h9 => absurd (by decide) h9) (fun _ => ?_)
          refine sw_iload (i := 15) dL_trades_241 rfl ?_
          refine sw_aload_n (i := 0) dL_trades_243 rfl rfl ?_
          refine sw_bi 8 dL_trades_244 (by decide +kernel) ?_
          refine px_Vx mv_L_34 xb3 rfl rfl (Nat.le_of_ble_eq_true rfl) (Nat.le_of_ble_eq_true rfl) ko_0 (Nat.le_of_ble_eq_true rfl) dL_trades_246 ?_
          refine sw_ins (pc2 := 249) rfl rfl ?_
          refine sw_ic_gt (tgt := 323) dL_trades_249 rfl (fun h9 => absurd h9 (Int32.not_lt.mpr le1)) (fun _ => ?_)
          refine sw_iload (i := 15) dL_trades_252 rfl ?_
          refine sw_ineg dL_trades_254 ?_
          refine sw_aload_n (i := 0) dL_trades_255 rfl rfl ?_
          refine sw_bi 8 dL_trades_256 (by decide +kernel) ?_
          refine px_Vx mv_L_34 xb4 rfl rfl (Nat.le_of_ble_eq_true rfl) (Nat.le_of_ble_eq_true rfl) ko_0 (Nat.le_of_ble_eq_true rfl) dL_trades_258 ?_
          refine sw_ic_gt (tgt := 323) dL_trades_261 rfl (fun h9 => absurd h9 (Int32.not_lt.mpr le2)) (fun _ => ?_)
          refine sw_aload_n (i := 0) dL_trades_264 rfl rfl ?_
          refine sw_ins (pc2 := 265) rfl rfl ?_
          refine sw_ic 4 dL_trades_265 ?_
          refine px_Vx mv_L_34 xb5 rfl rfl (Nat.le_of_ble_eq_true rfl) (Nat.le_of_ble_eq_true rfl) ko_0 (Nat.le_of_ble_eq_true rfl) dL_trades_266 ?_
          refine sw_iload (i := 12) dL_trades_269 rfl ?_
          refine sw_ic 1 dL_trades_271 ?_
          refine sw_iadd dL_trades_272 ?_
          refine sw_ic_ne (tgt := 323) dL_trades_273 rfl (fun h9 => absurd ht4 h9) (fun _ => ?_)
          refine sw_aload_n (i := 0) dL_trades_276 rfl rfl ?_
          refine sw_bi 7 dL_trades_277 (by decide +kernel) ?_
          refine sw_ins (pc2 := 279) rfl rfl ?_
          refine px_Vx mv_L_34 xb6 rfl rfl (Nat.le_of_ble_eq_true rfl) (Nat.le_of_ble_eq_true rfl) ko_0 (Nat.le_of_ble_eq_true rfl) dL_trades_279 ?_
          refine sw_iload (i := 13) dL_trades_282 rfl ?_
          refine sw_ic_ne (tgt := 323) dL_trades_284 rfl (fun h9 => absurd ht7 h9) (fun _ => ?_)
          refine sw_goto (tgt := 319) dL_trades_287 rfl ?_
          refine sw_ic 1 dL_trades_319 ?_
          refine sw_goto (tgt := 324) dL_trades_320 rfl ?_
          exact sw_zreturnE rfl rfl rfl dL_trades_324
        · rw [hr] at x7
          obtain ⟨V2, hV2⟩ : ∃ V2, V2 = trd V a c (nI x) b e (nI y9) := ⟨_, rfl⟩
          rw [← hV2] at y7 iv2 due2 dd2 okV2 hws h6
          rw [trd_not (by rw [hr]; decide)] at hV2
          have hw0 : pwN V2 a = pwN V a := by rw [hV2]; exact pwN_cong (fun j g1 g2 => upd_ne _ _ (by omega)) ha
          have hr7 : V2 5 = V 5 + nI 1 := by rw [hV2]; exact upd_eq _ _ _
          have hc2b : ∀ n, cnt V2 n 2 = nI (20 * wsm V) := fun n => (aw_nI okV2.2.2.2.1 okV2.2.2.2.2.1).trans (by rw [hws])
          have hpb := pw_le okV2.2.2.2.1 okV2.2.2.2.2.1 ha
          rw [hws] at hpb
          have hpw2 : isl V2 a 0 = nI (pwN V2 a) := pw_nI okV2.2.2.2.1 okV2.2.2.2.2.1 ha
          obtain ⟨eb1, xb1, yb1, -⟩ := C_islanderOf (J := J) (a := a) (k := 0) y7 iv2 ha (by decide)
          rw [hpw2] at xb1
          obtain ⟨eb2, xb2, yb2, -⟩ := C_count (J := J) (k := 2) yb1 iv2 (by decide)
          rw [hc2b] at xb2
          obtain ⟨eb3, xb3, yb3, -⟩ := C_count (J := J) (k := 7) yb2 iv2 (by decide)
          refine ⟨eb3, r7, ?_, ⟨_, _, _, _, _, _, _, yb3, iv2, due2, dd2⟩⟩
          refine sw_istore (i := 6) dL_trades_67 (Nat.le_of_ble_eq_true rfl) rfl ?_
          refine sw_lo (lo2 := [some (.ref 0), some (.int _), some (.int _), some (.int _), some (.int _), some (.int _), some (.int _), none, none, none, none, none, none, none, none, none, none]) rfl ?_
          refine sw_iload_n (i := 1) dL_trades_69 rfl rfl ?_
          refine sw_bi 14 dL_trades_70 (by decide +kernel) ?_
          refine sw_ishr rfl dL_trades_72 ?_
          refine sw_bi 6 dL_trades_73 (by decide +kernel) ?_
          refine px_Sx ms_L_62 (ly9 _) rfl rfl (Nat.le_of_ble_eq_true rfl) (Nat.le_of_ble_eq_true rfl) (Nat.le_of_ble_eq_true rfl) dL_trades_75 ?_
          refine sw_istore (i := 7) dL_trades_78 (Nat.le_of_ble_eq_true rfl) rfl ?_
          refine sw_lo (lo2 := [some (.ref 0), some (.int _), some (.int _), some (.int _), some (.int _), some (.int _), some (.int _), some (.int _), none, none, none, none, none, none, none, none, none]) rfl ?_
          refine sw_ins (pc2 := 80) rfl rfl ?_
          refine sw_aload_n (i := 0) dL_trades_80 rfl rfl ?_
          refine sw_iload_n (i := 2) dL_trades_81 rfl rfl ?_
          refine sw_ic 0 dL_trades_82 ?_
          refine px_Vx mv_L_20 x1 rfl rfl (Nat.le_of_ble_eq_true rfl) (Nat.le_of_ble_eq_true rfl) ko_0 (Nat.le_of_ble_eq_true rfl) dL_trades_83 ?_
          refine sw_istore (i := 8) dL_trades_86 (Nat.le_of_ble_eq_true rfl) rfl ?_
          refine sw_lo (lo2 := [some (.ref 0), some (.int _), some (.int _), some (.int _), some (.int _), some (.int _), some (.int _), some (.int _), some (.int _), none, none, none, none, none, none, none, none]) rfl ?_
          refine sw_aload_n (i := 0) dL_trades_88 rfl rfl ?_
          refine sw_ic 2 dL_trades_89 ?_
          refine px_Vx mv_L_34 x2 rfl rfl (Nat.le_of_ble_eq_true rfl) (Nat.le_of_ble_eq_true rfl) ko_0 (Nat.le_of_ble_eq_true rfl) dL_trades_90 ?_
          refine sw_ins (pc2 := 93) rfl rfl ?_
          refine sw_istore (i := 9) dL_trades_93 (Nat.le_of_ble_eq_true rfl) rfl ?_
          refine sw_lo (lo2 := [some (.ref 0), some (.int _), some (.int _), some (.int _), some (.int _), some (.int _), some (.int _), some (.int _), some (.int _), some (.int _), none, none, none, none, none, none, none]) rfl ?_
          refine sw_aload_n (i := 0) dL_trades_95 rfl rfl ?_
          refine sw_iload_n (i := 2) dL_trades_96 rfl rfl ?_
          refine sw_iload (i := 4) dL_trades_97 rfl ?_
          refine px_Vx mv_L_24 x3 rfl rfl (Nat.le_of_ble_eq_true rfl) (Nat.le_of_ble_eq_true rfl) ko_0 (Nat.le_of_ble_eq_true rfl) dL_trades_99 ?_
          refine sw_istore (i := 10) dL_trades_102 (Nat.le_of_ble_eq_true rfl) rfl ?_
          refine sw_lo (lo2 := [some (.ref 0), some (.int _), some (.int _), some (.int _), some (.int _), some (.int _), some (.int _), some (.int _), some (.int _), some (.int _), some (.int _), none, none, none, none, none, none]) rfl ?_
          refine sw_aload_n (i := 0) dL_trades_104 rfl rfl ?_
          refine sw_iload_n (i := 3) dL_trades_105 rfl rfl ?_
          refine sw_ins (pc2 := 106) rfl rfl ?_
          refine sw_iload (i := 5) dL_trades_106 rfl ?_
          refine px_Vx mv_L_24 x4 rfl rfl (Nat.le_of_ble_eq_true rfl) (Nat.le_of_ble_eq_true rfl) ko_0 (Nat.le_of_ble_eq_true rfl) dL_trades_108 ?_
          refine sw_istore (i := 11) dL_trades_111 (Nat.le_of_ble_eq_true rfl) rfl ?_
          refine sw_lo (lo2 := [some (.ref 0), some (.int _), some (.int _), some (.int _), some (.int _), some (.int _), some (.int _), some (.int _), some (.int _), some (.int _), some (.int _), some (.int _), none, none, none, none, none]) rfl ?_
          refine sw_aload_n (i := 0) dL_trades_113 rfl rfl ?_
          refine sw_ic 4 dL_trades_114 ?_
          refine px_Vx mv_L_34 x5 rfl rfl (Nat.le_of_ble_eq_true rfl) (Nat.le_of_ble_eq_true rfl) ko_0 (Nat.le_of_ble_eq_true rfl) dL_trades_115 ?_
          refine sw_istore (i := 12) dL_trades_118 (Nat.le_of_ble_eq_true rfl) rfl ?_
          refine sw_lo (lo2 := [some (.ref 0), some (.int _), some (.int _), some (.int _), some (.int _), some (.int _), some (.int _), some (.int _), some (.int _), some (.int _), some (.int _), some (.int _), some (.int _), none, none, none, none]) rfl ?_
          refine sw_aload_n (i := 0) dL_trades_120 rfl rfl ?_
          refine sw_ins (pc2 := 121) rfl rfl ?_
          refine sw_bi 7 dL_trades_121 (by decide +kernel) ?_
          refine px_Vx mv_L_34 x6 rfl rfl (Nat.le_of_ble_eq_true rfl) (Nat.le_of_ble_eq_true rfl) ko_0 (Nat.le_of_ble_eq_true rfl) dL_trades_123 ?_
          refine sw_istore (i := 13) dL_trades_126 (Nat.le_of_ble_eq_true rfl) rfl ?_
          refine sw_lo (lo2 := [some (.ref 0), some (.int _), some (.int _), some (.int _), some (.int _), some (.int _), some (.int _), some (.int _), some (.int _), some (.int _), some (.int _), some (.int _), some (.int _), some (.int _), none, none, none]) rfl ?_
          refine sw_aload_n (i := 0) dL_trades_128 rfl rfl ?_
          refine sw_iload_n (i := 2) dL_trades_129 rfl rfl ?_
          refine sw_iload (i := 4) dL_trades_130 rfl ?_
          refine sw_iload (i := 6) dL_trades_132 rfl ?_
          refine sw_iload_n (i := 3) dL_trades_134 rfl rfl ?_
          refine sw_ins (pc2 := 135) rfl rfl ?_
          refine sw_iload (i := 5) dL_trades_135 rfl ?_
          refine sw_iload (i := 7) dL_trades_137 rfl ?_
          refine px_Vx mv_L_67 x7 rfl rfl (Nat.le_of_ble_eq_true rfl) (Nat.le_of_ble_eq_true rfl) ko_0 (Nat.le_of_ble_eq_true rfl) dL_trades_139 ?_
          refine sw_istore (i := 14) dL_trades_142 (Nat.le_of_ble_eq_true rfl) rfl ?_
          refine sw_lo (lo2 := [some (.ref 0), some (.int _), some (.int _), some (.int _), some (.int _), some (.int _), some (.int _), some (.int _), some (.int _), some (.int _), some (.int _), some (.int _), some (.int _), some (.int _), some (.int _), none, none]) rfl ?_
          refine sw_aload_n (i := 0) dL_trades_144 rfl rfl ?_
          refine sw_iload_n (i := 2) dL_trades_145 rfl rfl ?_
          refine sw_ic 0 dL_trades_146 ?_
          refine px_Vx mv_L_20 xb1 rfl rfl (Nat.le_of_ble_eq_true rfl) (Nat.le_of_ble_eq_true rfl) ko_0 (Nat.le_of_ble_eq_true rfl) dL_trades_147 ?_
          refine sw_ins (pc2 := 150) rfl rfl ?_
          refine sw_iload (i := 8) dL_trades_150 rfl ?_
          refine sw_isub dL_trades_152 ?_
          refine sw_istore (i := 15) dL_trades_153 (Nat.le_of_ble_eq_true rfl) rfl ?_
          refine sw_lo (lo2 := [some (.ref 0), some (.int _), some (.int _), some (.int _), some (.int _), some (.int _), some (.int _), some (.int _), some (.int _), some (.int _), some (.int _), some (.int _), some (.int _), some (.int _), some (.int _), some (.int _), none]) rfl ?_
          refine sw_aload_n (i := 0) dL_trades_155 rfl rfl ?_
          refine sw_ic 2 dL_trades_156 ?_
          refine px_Vx mv_L_34 xb2 rfl rfl (Nat.le_of_ble_eq_true rfl) (Nat.le_of_ble_eq_true rfl) ko_0 (Nat.le_of_ble_eq_true rfl) dL_trades_157 ?_
          refine sw_iload (i := 9) dL_trades_160 rfl ?_
          refine sw_ic_ne (tgt := 228) dL_trades_162 rfl (fun h9 => absurd rfl h9) (fun _ => ?_)
          refine sw_ins (pc2 := 165) rfl rfl ?_
          refine sw_iload (i := 14) dL_trades_165 rfl ?_
          refine sw_ic 1 dL_trades_167 ?_
          refine sw_ic_ne (tgt := 175) dL_trades_168 rfl (fun _ => ?_) (fun h9 => absurd h9 (by decide))
          refine sw_ic 0 dL_trades_175 ?_
          refine sw_iload (i := 10) dL_trades_176 rfl ?_
          refine sw_iload (i := 6) dL_trades_178 rfl ?_
          refine sw_ic_ge (tgt := 187) dL_trades_180 rfl (fun _ => ?_) (fun h9 => absurd (Int32.not_lt.mp h1) h9)
          refine sw_ic 0 dL_trades_187 ?_
          refine sw_ins (pc2 := 188) rfl rfl ?_
          refine sw_ic_ne (tgt := 228) dL_trades_188 rfl (fun h9 => absurd (by decide) h9) (fun _ => ?_)
          refine sw_iload (i := 14) dL_trades_191 rfl ?_
          refine sw_ic 2 dL_trades_193 ?_
          refine sw_ic_ne (tgt := 201) dL_trades_194 rfl (fun _ => ?_) (fun h9 => absurd h9 (by decide))
          refine sw_ic 0 dL_trades_201 ?_
          refine sw_iload (i := 10) dL_trades_202 rfl ?_
          refine sw_iload (i := 6) dL_trades_204 rfl ?_
          refine sw_ic_lt (tgt := 220) dL_trades_206 rfl (fun h9 => absurd h9 h1) (fun _ => ?_)
          refine sw_ins (pc2 := 209) rfl rfl ?_
          refine sw_iload (i := 11) dL_trades_209 rfl ?_
          refine sw_iload (i := 7) dL_trades_211 rfl ?_
          refine sw_ic_ge (tgt := 220) dL_trades_213 rfl (fun _ => ?_) (fun h9 => absurd (Int32.not_lt.mp h2) h9)
          refine sw_ic 0 dL_trades_220 ?_
          refine sw_ic_ne (tgt := 228) dL_trades_221 rfl (fun h9 => absurd (by decide) h9) (fun _ => ?_)
          refine sw_ic 1 dL_trades_224 ?_
          refine sw_goto (tgt := 229) dL_trades_225 rfl ?_
          refine sw_istore (i := 16) dL_trades_229 (Nat.le_of_ble_eq_true rfl) rfl ?_
          refine sw_lo (lo2 := [some (.ref 0), some (.int _), some (.int _), some (.int _), some (.int _), some (.int _), some (.int _), some (.int _), some (.int _), some (.int _), some (.int _), some (.int _), some (.int _), some (.int _), some (.int _), some (.int _), some (.int _)]) rfl ?_
          refine sw_ins (pc2 := 231) rfl rfl ?_
          refine sw_iload (i := 16) dL_trades_231 rfl ?_
          refine sw_if_eq (tgt := 323) dL_trades_233 rfl (fun h9 => absurd h9 (by decide)) (fun _ => ?_)
          refine sw_iload (i := 14) dL_trades_236 rfl ?_
          refine sw_if_ne (tgt := 290) dL_trades_238 rfl (fun _ => ?_) (fun h9 => absurd h9 (by decide))
          refine sw_iload (i := 14) dL_trades_290 rfl ?_
          refine sw_if_le (tgt := 323) dL_trades_292 rfl (fun h9 => absurd h9 (by decide)) (fun _ => ?_)
          refine sw_iload (i := 14) dL_trades_295 rfl ?_
          refine sw_ic 4 dL_trades_297 ?_
          refine sw_ins (pc2 := 298) rfl rfl ?_
          refine sw_ic_ge (tgt := 323) dL_trades_298 rfl (fun h9 => absurd h9 (by decide)) (fun _ => ?_)
          refine sw_iload (i := 15) dL_trades_301 rfl ?_
          refine sw_if_ne (tgt := 323) dL_trades_303 rfl (fun h9 => absurd (by rw [hw0, pk_sub (Nat.le_refl _), Nat.sub_self]; rfl) h9) (fun _ => ?_)
          refine sw_aload_n (i := 0) dL_trades_306 rfl rfl ?_
          refine sw_bi 7 dL_trades_307 (by decide +kernel) ?_
          refine px_Vx mv_L_34 xb3 rfl rfl (Nat.le_of_ble_eq_true rfl) (Nat.le_of_ble_eq_true rfl) ko_0 (Nat.le_of_ble_eq_true rfl) dL_trades_309 ?_
          refine sw_iload (i := 13) dL_trades_312 rfl ?_
          refine sw_ic 1 dL_trades_314 ?_
          refine sw_ins (pc2 := 315) rfl rfl ?_
          refine sw_iadd dL_trades_315 ?_
          refine sw_ic_ne (tgt := 323) dL_trades_316 rfl (fun h9 => absurd hr7 h9) (fun _ => ?_)
          refine sw_ic 1 dL_trades_319 ?_
          refine sw_goto (tgt := 324) dL_trades_320 rfl ?_
          exact sw_zreturnE rfl rfl rfl dL_trades_324
  by_cases hk : k20 = 0
  · subst hk
    obtain ⟨x, hx, lx⟩ : ∃ q9, q9 < 15 ∧ ∀ d : Nat → Nat → Int32, OP kL_low yL_low 0 [.int (v >>> (nI 10 &&& 31)), .int (nI 15)] d r J (some (.int (nI q9))) d r J := ⟨lw (v >>> (nI 10 &&& 31)) 15, lw_lt _ (by decide), fun d => A_L_low (by decide) (by decide)⟩
    obtain ⟨d1, r1, z1, z2⟩ := K x (by omega)
    refine ⟨d1, r1, am_of pl_L_trades (Nat.le_of_ble_eq_true rfl) ?_, z2⟩
    refine sw_iload_n (i := 1) dL_trades_0 rfl rfl ?_
    refine sw_bi 8 dL_trades_1 (by decide +kernel) ?_
    refine px_Sx ms_L_62 (la _) rfl rfl (Nat.le_of_ble_eq_true rfl) (Nat.le_of_ble_eq_true rfl) (Nat.le_of_ble_eq_true rfl) dL_trades_3 ?_
    refine sw_istore_n (i := 2) dL_trades_6 rfl (Nat.le_of_ble_eq_true rfl) rfl ?_
    refine sw_lo (lo2 := [some (.ref 0), some (.int _), some (.int _), none, none, none, none, none, none, none, none, none, none, none, none, none, none]) rfl ?_
    refine sw_iload_n (i := 2) dL_trades_7 rfl rfl ?_
    refine sw_ic 1 dL_trades_8 ?_
    refine sw_iadd dL_trades_9 ?_
    refine sw_ins (pc2 := 10) rfl rfl ?_
    refine sw_iload_n (i := 1) dL_trades_10 rfl rfl ?_
    refine sw_ic 3 dL_trades_11 ?_
    refine sw_ishr rfl dL_trades_12 ?_
    refine sw_bi 7 dL_trades_13 (by decide +kernel) ?_
    refine px_Sx ms_L_62 (lb0 _) rfl rfl (Nat.le_of_ble_eq_true rfl) (Nat.le_of_ble_eq_true rfl) (Nat.le_of_ble_eq_true rfl) dL_trades_15 ?_
    refine sw_iadd dL_trades_18 ?_
    refine sw_bi 8 dL_trades_19 (by decide +kernel) ?_
    refine sw_irem (by decide) dL_trades_21 ?_
    refine sw_topE (v := nI b) (by rw [nI_add, nI_add, pk_rem (by omega) (by decide) (by decide), hbe]) ?_
    refine sw_ins (pc2 := 22) rfl rfl ?_
    refine sw_istore_n (i := 3) dL_trades_22 rfl (Nat.le_of_ble_eq_true rfl) rfl ?_
    refine sw_lo (lo2 := [some (.ref 0), some (.int _), some (.int _), some (.int _), none, none, none, none, none, none, none, none, none, none, none, none, none]) rfl ?_
    refine sw_iload_n (i := 1) dL_trades_23 rfl rfl ?_
    refine sw_bi 6 dL_trades_24 (by decide +kernel) ?_
    refine sw_ishr rfl dL_trades_26 ?_
    refine sw_ic 4 dL_trades_27 ?_
    refine px_Sx ms_L_62 (lc _) rfl rfl (Nat.le_of_ble_eq_true rfl) (Nat.le_of_ble_eq_true rfl) (Nat.le_of_ble_eq_true rfl) dL_trades_28 ?_
    refine sw_istore (i := 4) dL_trades_31 (Nat.le_of_ble_eq_true rfl) rfl ?_
    refine sw_lo (lo2 := [some (.ref 0), some (.int _), some (.int _), some (.int _), some (.int _), none, none, none, none, none, none, none, none, none, none, none, none]) rfl ?_
    refine sw_iload_n (i := 1) dL_trades_33 rfl rfl ?_
    refine sw_ins (pc2 := 34) rfl rfl ?_
    refine sw_bi 8 dL_trades_34 (by decide +kernel) ?_
    refine sw_ishr rfl dL_trades_36 ?_
    refine sw_ic 4 dL_trades_37 ?_
    refine px_Sx ms_L_62 (le _) rfl rfl (Nat.le_of_ble_eq_true rfl) (Nat.le_of_ble_eq_true rfl) (Nat.le_of_ble_eq_true rfl) dL_trades_38 ?_
    refine sw_istore (i := 5) dL_trades_41 (Nat.le_of_ble_eq_true rfl) rfl ?_
    refine sw_lo (lo2 := [some (.ref 0), some (.int _), some (.int _), some (.int _), some (.int _), some (.int _), none, none, none, none, none, none, none, none, none, none, none]) rfl ?_
    refine sw_iload_n (i := 1) dL_trades_43 rfl rfl ?_
    refine sw_bi 10 dL_trades_44 (by decide +kernel) ?_
    refine sw_ishr rfl dL_trades_46 ?_
    refine sw_ins (pc2 := 47) rfl rfl ?_
    refine sw_iload_n (i := 1) dL_trades_47 rfl rfl ?_
    refine sw_bi 20 dL_trades_48 (by decide +kernel) ?_
    refine sw_ishr rfl dL_trades_50 ?_
    refine sw_ic 4 dL_trades_51 ?_
    refine px_Sx ms_L_62 (lk20 _) rfl rfl (Nat.le_of_ble_eq_true rfl) (Nat.le_of_ble_eq_true rfl) (Nat.le_of_ble_eq_true rfl) dL_trades_52 ?_
    refine sw_if_ne (tgt := 63) dL_trades_55 rfl (fun h9 => absurd (by decide) h9) (fun _ => ?_)
    refine sw_bi 15 dL_trades_58 (by decide +kernel) ?_
    refine sw_goto (tgt := 64) dL_trades_60 rfl ?_
    refine sw_ins (pc2 := 64) rfl rfl ?_
    refine px_Sx ms_L_62 (lx _) rfl rfl (Nat.le_of_ble_eq_true rfl) (Nat.le_of_ble_eq_true rfl) (Nat.le_of_ble_eq_true rfl) dL_trades_64 ?_
    exact z1
  · obtain ⟨x, hx, lx⟩ : ∃ q9, q9 < 4 ∧ ∀ d : Nat → Nat → Int32, OP kL_low yL_low 0 [.int (v >>> (nI 10 &&& 31)), .int (nI 4)] d r J (some (.int (nI q9))) d r J := ⟨lw (v >>> (nI 10 &&& 31)) 4, lw_lt _ (by decide), fun d => A_L_low (by decide) (by decide)⟩
    obtain ⟨d1, r1, z1, z2⟩ := K x (by omega)
    refine ⟨d1, r1, am_of pl_L_trades (Nat.le_of_ble_eq_true rfl) ?_, z2⟩
    refine sw_iload_n (i := 1) dL_trades_0 rfl rfl ?_
    refine sw_bi 8 dL_trades_1 (by decide +kernel) ?_
    refine px_Sx ms_L_62 (la _) rfl rfl (Nat.le_of_ble_eq_true rfl) (Nat.le_of_ble_eq_true rfl) (Nat.le_of_ble_eq_true rfl) dL_trades_3 ?_
    refine sw_istore_n (i := 2) dL_trades_6 rfl (Nat.le_of_ble_eq_true rfl) rfl ?_
    refine sw_lo (lo2 := [some (.ref 0), some (.int _), some (.int _), none, none, none, none, none, none, none, none, none, none, none, none, none, none]) rfl ?_
    refine sw_iload_n (i := 2) dL_trades_7 rfl rfl ?_
    refine sw_ic 1 dL_trades_8 ?_
    refine sw_iadd dL_trades_9 ?_
    refine sw_ins (pc2 := 10) rfl rfl ?_
    refine sw_iload_n (i := 1) dL_trades_10 rfl rfl ?_
    refine sw_ic 3 dL_trades_11 ?_
    refine sw_ishr rfl dL_trades_12 ?_
    refine sw_bi 7 dL_trades_13 (by decide +kernel) ?_
    refine px_Sx ms_L_62 (lb0 _) rfl rfl (Nat.le_of_ble_eq_true rfl) (Nat.le_of_ble_eq_true rfl) (Nat.le_of_ble_eq_true rfl) dL_trades_15 ?_
    refine sw_iadd dL_trades_18 ?_
    refine sw_bi 8 dL_trades_19 (by decide +kernel) ?_
    refine sw_irem (by decide) dL_trades_21 ?_
    refine sw_topE (v := nI b) (by rw [nI_add, nI_add, pk_rem (by omega) (by decide) (by decide), hbe]) ?_
    refine sw_ins (pc2 := 22) rfl rfl ?_
    refine sw_istore_n (i := 3) dL_trades_22 rfl (Nat.le_of_ble_eq_true rfl) rfl ?_
    refine sw_lo (lo2 := [some (.ref 0), some (.int _), some (.int _), some (.int _), none, none, none, none, none, none, none, none, none, none, none, none, none]) rfl ?_
    refine sw_iload_n (i := 1) dL_trades_23 rfl rfl ?_
    refine sw_bi 6 dL_trades_24 (by decide +kernel) ?_
    refine sw_ishr rfl dL_trades_26 ?_
    refine sw_ic 4 dL_trades_27 ?_
    refine px_Sx ms_L_62 (lc _) rfl rfl (Nat.le_of_ble_eq_true rfl) (Nat.le_of_ble_eq_true rfl) (Nat.le_of_ble_eq_true rfl) dL_trades_28 ?_
    refine sw_istore (i := 4) dL_trades_31 (Nat.le_of_ble_eq_true rfl) rfl ?_
    refine sw_lo (lo2 := [some (.ref 0), some (.int _), some (.int _), some (.int _), some (.int _), none, none, none, none, none, none, none, none, none, none, none, none]) rfl ?_
    refine sw_iload_n (i := 1) dL_trades_33 rfl rfl ?_
    refine sw_ins (pc2 := 34) rfl rfl ?_
    refine sw_bi 8 dL_trades_34 (by decide +kernel) ?_
    refine sw_ishr rfl dL_trades_36 ?_
    refine sw_ic 4 dL_trades_37 ?_
    refine px_Sx ms_L_62 (le _) rfl rfl (Nat.le_of_ble_eq_true rfl) (Nat.le_of_ble_eq_true rfl) (Nat.le_of_ble_eq_true rfl) dL_trades_38 ?_
    refine sw_istore (i := 5) dL_trades_41 (Nat.le_of_ble_eq_true rfl) rfl ?_
    refine sw_lo (lo2 := [some (.ref 0), some (.int _), some (.int _), some (.int _), some (.int _), some (.int _), none, none, none, none, none, none, none, none, none, none, none]) rfl ?_
    refine sw_iload_n (i := 1) dL_trades_43 rfl rfl ?_
    refine sw_bi 10 dL_trades_44 (by decide +kernel) ?_
    refine sw_ishr rfl dL_trades_46 ?_
    refine sw_ins (pc2 := 47) rfl rfl ?_
    refine sw_iload_n (i := 1) dL_trades_47 rfl rfl ?_
    refine sw_bi 20 dL_trades_48 (by decide +kernel) ?_
    refine sw_ishr rfl dL_trades_50 ?_
    refine sw_ic 4 dL_trades_51 ?_
    refine px_Sx ms_L_62 (lk20 _) rfl rfl (Nat.le_of_ble_eq_true rfl) (Nat.le_of_ble_eq_true rfl) (Nat.le_of_ble_eq_true rfl) dL_trades_52 ?_
    refine sw_if_ne (tgt := 63) dL_trades_55 rfl (fun _ => ?_) (fun h9 => absurd h9 (nI_ne0 (by omega) (by omega)))
    refine sw_ic 4 dL_trades_63 ?_
    refine px_Sx ms_L_62 (lx _) rfl rfl (Nat.le_of_ble_eq_true rfl) (Nat.le_of_ble_eq_true rfl) (Nat.le_of_ble_eq_true rfl) dL_trades_64 ?_
    exact z1
