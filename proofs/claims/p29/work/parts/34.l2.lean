/-! THE LAW'S METHODS, 2: arePurses -/
theorem cmp_e (a : Int) : compare a a = .eq := by
  show compareOfLessAndEq a a = .eq
  unfold compareOfLessAndEq
  rw [if_neg (Int.lt_irrefl a), if_pos rfl]
theorem cmp_self {x : UInt64} {E t : Nat} (h : x.toNat = E * 2 ^ 52 + t) (ht : t < 2 ^ 52) (h1 : 1 ≤ E) (h2 : E ≤ 2046) : FP.dcmp x x = some .eq := by
  show FP.Core.order (FP.Core.decode FP.Core.b64 x.toNat) (FP.Core.decode FP.Core.b64 x.toNat) = _
  rw [dec_of h ht h1 h2]
  show some (compare (FP.Core.signed false (FP.Core.inUnits (2 ^ 52 + t) (-1074 + ((E : Int) - 1)) (min (-1074 + ((E : Int) - 1)) (-1074 + ((E : Int) - 1))))) (FP.Core.signed false (FP.Core.inUnits (2 ^ 52 + t) (-1074 + ((E : Int) - 1)) (min (-1074 + ((E : Int) - 1)) (-1074 + ((E : Int) - 1)))))) = _
  exact congrArg some (cmp_e _)
theorem cmp_11 : FP.dcmp one64 one64 = some .eq := by decide +kernel
theorem cmp_le1 {x : UInt64} {E t : Nat} (h : x.toNat = E * 2 ^ 52 + t) (ht : t < 2 ^ 52) (h1 : 1 ≤ E) (h3 : x.toNat ≤ 1023 * 2 ^ 52) : FP.dcmp x one64 = some .lt ∨ FP.dcmp x one64 = some .eq := by
  by_cases c : E ≤ 1022
  · exact Or.inl (cmp_lt h ht h1 c)
  · have e : x = one64 := UInt64.toNat_inj.mp (by
      rw [show one64.toNat = 1023 * 2 ^ 52 by decide]
      omega)
    rw [e]
    exact Or.inr cmp_11
def cf (V : Nat → Int32) (i : Nat) : Nat → Int32 := fun c => if c < 4 then rs (fun a => V (19 + (a * 4 + c))) i else 0
def cm (V : Nat → Int32) (i c : Nat) : Nat → Int32 := fun q => if q < c then cf V (i + 1) q else cf V i q
theorem cf_0 (V : Nat → Int32) : (fun _ => 0) = cf V 0 := by
  funext c
  unfold cf
  by_cases h : c < 4
  · rw [if_pos h]; rfl
  · rw [if_neg h]
theorem cm_0 (V : Nat → Int32) (i : Nat) : cm V i 0 = cf V i := by
  funext q
  exact if_neg (by omega)
theorem cm_4 (V : Nat → Int32) (i : Nat) : cm V i 4 = cf V (i + 1) := by
  funext q
  unfold cm
  by_cases h : q < 4
  · rw [if_pos h]
  · rw [if_neg h]
    unfold cf
    rw [if_neg h, if_neg h]
theorem cm_s (V : Nat → Int32) (i : Nat) {c : Nat} (hc : c < 4) : upd (cm V i c) c (cm V i c c + V (19 + (i * 4 + c))) = cm V i (c + 1) := by
  funext q
  by_cases e : q = c
  · subst e
    rw [upd_eq]
    unfold cm
    rw [if_neg (by omega), if_pos (by omega)]
    unfold cf
    rw [if_pos hc, if_pos hc]
    rfl
  · rw [upd_ne _ _ e]
    unfold cm
    by_cases h : q < c
    · rw [if_pos h, if_pos (by omega)]
    · rw [if_neg h, if_neg (by omega)]
theorem cf_20 {V : Nat → Int32} (okc : okCaps V) {c : Nat} (hc : c < 4) : cf V 8 c = nI 20 := by
  unfold cf
  rw [if_pos hc]
  exact caps_20 okc hc
def X1 (z : Nat → am_E) (f : Nat → Int32) : Nat → am_E := am_up z 65 (am_I .int 4 f)
theorem X1_at (z : Nat → am_E) (f : Nat → Int32) : X1 z f 65 = am_I .int 4 f := am_up_eq _ _ _
theorem X1_up (z : Nat → am_E) (f g : Nat → Int32) : am_up (X1 z f) 65 (am_I .int 4 g) = X1 z g := am_up_up _ _ _ _
set_option maxRecDepth 100000 in
set_option maxHeartbeats 4000000 in
theorem A_L_arePurses {d : Nat → Nat → Int32} {r : Nat → Nat → Option Nat} {J : Nat → Nat → Int64} {V : Nat → Int32} {n : Nat} {H S : Nat → Nat → Int32} {t : Nat → Bool} {T : Nat → Int32} {tl : Nat} (h : RC d r V n H S t T tl) (iv : IV V n H S t T tl) : ∃ d1, OB kL_arePurses yL_arePurses 8 [.ref 0] d r J (some (.int (nI 1))) d1 r J 1 4 ∧ RC d1 r V n H S t T tl := by
  obtain ⟨okP, okM, okT9, okC, okW, okD⟩ := id iv.1
  have hwb := wsm_b okW
  have hrl := rch_lt V
  have hpl : ∀ a, a < 8 → pwN V a ≤ 20 * wsm V := fun a ha => pw_le okC okW ha
  have hpw : ∀ a, a < 8 → isl V a 0 = nI (pwN V a) := fun a ha => pw_nI okC okW ha
  have hh := hm_15 okP
  have hcl : ∀ d : Nat → Nat → Int32, fr_clo 65 (W0 d r J) := fun d => fr_W0 h.1 h.2.2.1
  obtain ⟨zz, hzz⟩ : ∃ zz, zz = W0 d r J := ⟨_, rfl⟩
  obtain ⟨E, tt, b1, b2, b3, b4⟩ := shr_bits okC okW
  have hle1 : (shr V).toNat ≤ 1023 * 2 ^ 52 := shD_le hwb.1 hwb.2 (rch_pos okC okW) (hpl _ hrl)
  have ha2 : cnt V n 2 = nI (20 * wsm V) := aw_nI okC okW
  have ha1 : cnt V n 1 = nI 80 := caps_80 okC
  have dc0 : Op.cmpValue (FP.dcmp (shr V) (shr V)) .l = 0 := by
    rw [cmp_self b1 b2 (by omega) (by omega)]
    decide
  have dc1 : ¬ Op.cmpValue (FP.dcmp (shr V) 0) .l ≤ 0 := by
    rw [cmp_pos b1 b2 (by omega) (by omega)]
    decide
  have dc2 : ¬ 0 < Op.cmpValue (FP.dcmp (shr V) FP.dconst1) .g := by
    rcases cmp_le1 b1 b2 (by omega) hle1 with q | q
    · have q : FP.dcmp (shr V) FP.dconst1 = some .lt := q
      rw [q]; decide
    · have q : FP.dcmp (shr V) FP.dconst1 = some .eq := q
      rw [q]; decide
  have KE : ∀ d, RC d r V n H S t T tl → ∃ d1, SW yL_arePurses cL_arePurses 14 (some .boolean) [] 8 none 436 [some (.ref 0), some (.ref 65), some (.int (rs (fun a => isl V a 0) 8)), some (.int (rs (fun a => isl V a 3) 8)), some (.int (rs (fun a => isl V a 4) 8)), some (.int (nI (rch V))), some (.int (gt V 8)), some (.int (nI (hm V))), some (.int (nI 8)), none, none, none, none, none] [] 66 (WX d r J (X1 zz (cf V 8))) 0 0 (.inl (some (.int (nI 1)))) 66 (WX d1 r J (X1 zz (cf V 8))) ∧ RC d1 r V n H S t T tl := by
    intro d h
    obtain ⟨e1, x1, y1, -⟩ := C_islanderOf (J := J) (a := rch V) (k := 0) h iv hrl (by decide)
    rw [hpw _ hrl] at x1
    obtain ⟨e2, x2, y2, -⟩ := C_count (J := J) (k := 2) y1 iv (by decide)
    rw [ha2] at x2
    obtain ⟨e3, x3, y3, -⟩ := C_count (J := J) (k := 1) y2 iv (by decide)
    rw [ha1] at x3
    obtain ⟨e4, x4, y4, -⟩ := C_count (J := J) (k := 2) y3 iv (by decide)
    obtain ⟨e5, x5, y5, -⟩ := C1_homeIn (J := J)  y4 iv
    obtain ⟨e6, x6, y6, -⟩ := C_richShare (J := J)  y5 iv
    refine ⟨e6, ?_, y6⟩
    refine sw_aload_n (i := 0) dL_arePurses_436 rfl rfl ?_
    refine sw_iload (i := 5) dL_arePurses_437 rfl ?_
    refine sw_ic 0 dL_arePurses_439 ?_
    refine px_VF mv_L_20 x1 (hcl _) (by decide) rfl rfl rfl rfl (Nat.le_of_ble_eq_true rfl) (Nat.le_of_ble_eq_true rfl) ko_0 (Nat.le_of_ble_eq_true rfl) dL_arePurses_440 ?_
    refine sw_i2d dL_arePurses_443 ?_
    refine sw_aload_n (i := 0) dL_arePurses_444 rfl rfl ?_
    refine sw_ic 2 dL_arePurses_445 ?_
    refine sw_ins (pc2 := 446) rfl rfl ?_
    refine px_VF mv_L_34 x2 (hcl _) (by decide) rfl rfl rfl rfl (Nat.le_of_ble_eq_true rfl) (Nat.le_of_ble_eq_true rfl) ko_0 (Nat.le_of_ble_eq_true rfl) dL_arePurses_446 ?_
    refine sw_i2d dL_arePurses_449 ?_
    refine sw_ddiv (shr_n64 okC okW) dL_arePurses_450 ?_
    refine sw_dstore (i := 8) dL_arePurses_451 (Nat.le_of_ble_eq_true rfl) rfl ?_
    refine sw_lo (lo2 := [some (.ref 0), some (.ref 65), some (.int _), some (.int _), some (.int _), some (.int _), some (.int _), some (.int _), some (.double _), none, none, none, none, none]) rfl ?_
    refine sw_iload (i := 6) dL_arePurses_453 rfl ?_
    refine sw_si 255 dL_arePurses_455 (by decide +kernel) ?_
    refine sw_ic_ne (tgt := 569) dL_arePurses_458 rfl (fun h9 => absurd (gt_255 okP) h9) (fun _ => ?_)
    refine sw_aload_n (i := 1) dL_arePurses_461 rfl rfl ?_
    refine sw_ins (pc2 := 462) rfl rfl ?_
    refine sw_ic 0 dL_arePurses_462 ?_
    refine px_ald (0) (nI 20) (cf_20 okC (by decide)) (X1_at _ _) (by decide) (by decide) rfl (by decide) (by decide) dL_arePurses_463 ?_
    refine sw_bi 20 dL_arePurses_464 (by decide +kernel) ?_
    refine sw_ic_ne (tgt := 569) dL_arePurses_466 rfl (fun h9 => absurd (by decide) h9) (fun _ => ?_)
    refine sw_aload_n (i := 1) dL_arePurses_469 rfl rfl ?_
    refine sw_ic 1 dL_arePurses_470 ?_
    refine px_ald (1) (nI 20) (cf_20 okC (by decide)) (X1_at _ _) (by decide) (by decide) rfl (by decide) (by decide) dL_arePurses_471 ?_
    refine sw_bi 20 dL_arePurses_472 (by decide +kernel) ?_
    refine sw_ins (pc2 := 474) rfl rfl ?_
    refine sw_ic_ne (tgt := 569) dL_arePurses_474 rfl (fun h9 => absurd (by decide) h9) (fun _ => ?_)
    refine sw_aload_n (i := 1) dL_arePurses_477 rfl rfl ?_
    refine sw_ic 2 dL_arePurses_478 ?_
    refine px_ald (2) (nI 20) (cf_20 okC (by decide)) (X1_at _ _) (by decide) (by decide) rfl (by decide) (by decide) dL_arePurses_479 ?_
    refine sw_bi 20 dL_arePurses_480 (by decide +kernel) ?_
    refine sw_ic_ne (tgt := 569) dL_arePurses_482 rfl (fun h9 => absurd (by decide) h9) (fun _ => ?_)
    refine sw_aload_n (i := 1) dL_arePurses_485 rfl rfl ?_
    refine sw_ic 3 dL_arePurses_486 ?_
    refine sw_ins (pc2 := 487) rfl rfl ?_
    refine px_ald (3) (nI 20) (cf_20 okC (by decide)) (X1_at _ _) (by decide) (by decide) rfl (by decide) (by decide) dL_arePurses_487 ?_
    refine sw_bi 20 dL_arePurses_488 (by decide +kernel) ?_
    refine sw_ic_ne (tgt := 569) dL_arePurses_490 rfl (fun h9 => absurd (by decide) h9) (fun _ => ?_)
    refine sw_aload_n (i := 0) dL_arePurses_493 rfl rfl ?_
    refine sw_ic 1 dL_arePurses_494 ?_
    refine px_VF mv_L_34 x3 (hcl _) (by decide) rfl rfl rfl rfl (Nat.le_of_ble_eq_true rfl) (Nat.le_of_ble_eq_true rfl) ko_0 (Nat.le_of_ble_eq_true rfl) dL_arePurses_495 ?_
    refine sw_bi 80 dL_arePurses_498 (by decide +kernel) ?_
    refine sw_ic_ne (tgt := 569) dL_arePurses_500 rfl (fun h9 => absurd (by decide) h9) (fun _ => ?_)
    refine sw_ins (pc2 := 503) rfl rfl ?_
    refine sw_aload_n (i := 0) dL_arePurses_503 rfl rfl ?_
    refine sw_ic 2 dL_arePurses_504 ?_
    refine px_VF mv_L_34 x4 (hcl _) (by decide) rfl rfl rfl rfl (Nat.le_of_ble_eq_true rfl) (Nat.le_of_ble_eq_true rfl) ko_0 (Nat.le_of_ble_eq_true rfl) dL_arePurses_505 ?_
    refine sw_iload_n (i := 2) dL_arePurses_508 rfl rfl ?_
    refine sw_ic_ne (tgt := 569) dL_arePurses_509 rfl (fun h9 => absurd rfl h9) (fun _ => ?_)
    refine sw_iload_n (i := 3) dL_arePurses_512 rfl rfl ?_
    refine sw_iload (i := 4) dL_arePurses_513 rfl ?_
    refine sw_ic_ne (tgt := 569) dL_arePurses_515 rfl (fun h9 => absurd ((isl_from iv.1).trans (isl_to iv.1).symm) h9) (fun _ => ?_)
    refine sw_ins (pc2 := 518) rfl rfl ?_
    refine sw_iload (i := 7) dL_arePurses_518 rfl ?_
    refine sw_aload_n (i := 0) dL_arePurses_520 rfl rfl ?_
    refine sw_ic 1 dL_arePurses_521 ?_
    refine px_VF mv_L_16 x5 (hcl _) (by decide) rfl rfl rfl rfl (Nat.le_of_ble_eq_true rfl) (Nat.le_of_ble_eq_true rfl) ko_0 (Nat.le_of_ble_eq_true rfl) dL_arePurses_522 ?_
    refine sw_ic_ne (tgt := 569) dL_arePurses_525 rfl (fun h9 => absurd rfl h9) (fun _ => ?_)
    refine sw_iload (i := 7) dL_arePurses_528 rfl ?_
    refine sw_ic 1 dL_arePurses_530 ?_
    refine sw_ic_lt (tgt := 569) dL_arePurses_531 rfl (fun h9 => absurd h9 (nI_nlt hh.1 (by omega))) (fun _ => ?_)
    refine sw_ins (pc2 := 534) rfl rfl ?_
    refine sw_iload (i := 7) dL_arePurses_534 rfl ?_
    refine sw_bi 15 dL_arePurses_536 (by decide +kernel) ?_
    refine sw_ic_gt (tgt := 569) dL_arePurses_538 rfl (fun h9 => absurd h9 (nI_nlt hh.2 (by decide))) (fun _ => ?_)
    refine sw_aload_n (i := 0) dL_arePurses_541 rfl rfl ?_
    refine px_VF mv_L_37 x6 (hcl _) (by decide) rfl rfl rfl rfl (Nat.le_of_ble_eq_true rfl) (Nat.le_of_ble_eq_true rfl) ko_0 (Nat.le_of_ble_eq_true rfl) dL_arePurses_542 ?_
    refine sw_dload (i := 8) dL_arePurses_545 rfl ?_
    refine sw_dcmp dL_arePurses_547 ?_
    refine sw_if_ne (tgt := 569) dL_arePurses_548 rfl (fun h9 => absurd dc0 h9) (fun _ => ?_)
    refine sw_ins (pc2 := 551) rfl rfl ?_
    refine sw_dload (i := 8) dL_arePurses_551 rfl ?_
    refine sw_dc0 dL_arePurses_553 ?_
    refine sw_dcmp dL_arePurses_554 ?_
    refine sw_if_le (tgt := 569) dL_arePurses_555 rfl (fun h9 => absurd h9 dc1) (fun _ => ?_)
    refine sw_dload (i := 8) dL_arePurses_558 rfl ?_
    refine sw_dc1 dL_arePurses_560 ?_
    refine sw_dcmp dL_arePurses_561 ?_
    refine sw_if_gt (tgt := 569) dL_arePurses_562 rfl (fun h9 => absurd h9 dc2) (fun _ => ?_)
    refine sw_ins (pc2 := 565) rfl rfl ?_
    refine sw_ic 1 dL_arePurses_565 ?_
    refine sw_goto (tgt := 570) dL_arePurses_566 rfl ?_
    exact sw_zreturnE rfl rfl rfl dL_arePurses_570
  have K0 : ∀ i, i ≤ 8 → ∀ d, RC d r V n H S t T tl → ∃ d1, SW yL_arePurses cL_arePurses 14 (some .boolean) [] 8 none 30 [some (.ref 0), some (.ref 65), some (.int (rs (fun a => isl V a 0) i)), some (.int (rs (fun a => isl V a 3) i)), some (.int (rs (fun a => isl V a 4) i)), some (.int (nI (rch V))), some (.int (gt V i)), some (.int (nI (hm V))), some (.int (nI i)), none, none, none, none, none] [] 66 (WX d r J (X1 zz (cf V i))) 0 0 (.inl (some (.int (nI 1)))) 66 (WX d1 r J (X1 zz (cf V 8))) ∧ RC d1 r V n H S t T tl := by
    refine am_loop (8) ?_ ?_
    · intro d h
      obtain ⟨d1, z1, z2⟩ := KE d h
      refine ⟨d1, ?_, z2⟩
      refine sw_iload (i := 8) dL_arePurses_30 rfl ?_
      refine sw_bi 8 dL_arePurses_32 (by decide +kernel) ?_
      refine sw_ic_ge (tgt := 436) dL_arePurses_34 rfl (fun _ => ?_) (fun h9 => absurd (nI_le (Nat.le_refl _) (by decide)) h9)
      refine sw_sub ?_ z1
      exact ⟨rfl, rfl, rfl, rfl, rfl, rfl, rfl, rfl, rfl, trivial⟩
    · intro i hi ihi d h
      obtain ⟨cr1, cr2, cr3, cr4⟩ := crc_spec okP hi
      have hpt := okP.1 i hi
      have hi2 : isl V i 2 = nI (crc V i) := rfl
      have hp1 : isl V i 1 = nI (pth V i) := hpt.1
      have hdv := crc_hm (V := V) hi
      have hhm := (hm_home okP (hm V)).mpr (Nat.dvd_refl _) i hi
      have K3 : ∀ k, k ≤ crc V i - 1 → ∀ d, RC d r V n H S t T tl → ∃ d1, SW yL_arePurses cL_arePurses 14 (some .boolean) [] 8 none 322 [some (.ref 0), some (.ref 65), some (.int (rs (fun a => isl V a 0) (i + 1))), some (.int (rs (fun a => isl V a 3) (i + 1))), some (.int (rs (fun a => isl V a 4) (i + 1))), some (.int (nI (rch V))), some (.int (gt V (i + 1))), some (.int (nI (hm V))), some (.int (nI i)), some (.int (rs (fun j => owd V i j) 8)), some (.int (rs (fun j => owd V j i) 8)), some (.int (nI (crc V i))), some (.int (nI 1)), some (.int (nI (k + 1)))] [] 66 (WX d r J (X1 zz (cf V (i + 1)))) 0 0 (.inl (some (.int (nI 1)))) 66 (WX d1 r J (X1 zz (cf V 8))) ∧ RC d1 r V n H S t T tl := by
        refine am_loop (crc V i - 1) ?_ ?_
        · intro d h
          rw [show crc V i - 1 + 1 = crc V i by omega]
          by_cases hir : i < rch V
          ·
            have hp1 := hpl _ hi
            have hp2 := hpl _ hrl
            have hmx : pwN V i ≤ pwN V (rch V) := rcG_max okC okW 8 (Nat.le_refl _) i hi
            have hst : pwN V i < pwN V (rch V) := rcG_first okC okW 8 (Nat.le_refl _) i hir
            obtain ⟨e1, x1, y1, -⟩ := C_islanderOf (J := J) (a := i) (k := 0) h iv hi (by decide)
            rw [hpw _ hi] at x1
            obtain ⟨e2, x2, y2, -⟩ := C_islanderOf (J := J) (a := rch V) (k := 0) y1 iv hrl (by decide)
            rw [hpw _ hrl] at x2
            obtain ⟨e3, x3, y3, -⟩ := C_islanderOf (J := J) (a := i) (k := 0) y2 iv hi (by decide)
            rw [hpw _ hi] at x3
            obtain ⟨e4, x4, y4, -⟩ := C_islanderOf (J := J) (a := rch V) (k := 0) y3 iv hrl (by decide)
            rw [hpw _ hrl] at x4
            obtain ⟨d1, z1, z2⟩ := ihi e4 y4
            refine ⟨d1, ?_, z2⟩
            refine sw_iload (i := 13) dL_arePurses_322 rfl ?_
            refine sw_iload (i := 11) dL_arePurses_324 rfl ?_
            refine sw_ic_ge (tgt := 382) dL_arePurses_326 rfl (fun _ => ?_) (fun h9 => absurd (nI_le (by omega) (by omega)) h9)
            refine sw_iload (i := 12) dL_arePurses_382 rfl ?_
            refine sw_if_eq (tgt := 428) dL_arePurses_384 rfl (fun h9 => absurd h9 (by decide)) (fun _ => ?_)
            refine sw_aload_n (i := 0) dL_arePurses_387 rfl rfl ?_
            refine sw_iload (i := 8) dL_arePurses_388 rfl ?_
            refine sw_ins (pc2 := 390) rfl rfl ?_
            refine sw_ic 0 dL_arePurses_390 ?_
            refine px_VF mv_L_20 x1 (hcl _) (by decide) rfl rfl rfl rfl (Nat.le_of_ble_eq_true rfl) (Nat.le_of_ble_eq_true rfl) ko_0 (Nat.le_of_ble_eq_true rfl) dL_arePurses_391 ?_
            refine sw_aload_n (i := 0) dL_arePurses_394 rfl rfl ?_
            refine sw_iload (i := 5) dL_arePurses_395 rfl ?_
            refine sw_ic 0 dL_arePurses_397 ?_
            refine px_VF mv_L_20 x2 (hcl _) (by decide) rfl rfl rfl rfl (Nat.le_of_ble_eq_true rfl) (Nat.le_of_ble_eq_true rfl) ko_0 (Nat.le_of_ble_eq_true rfl) dL_arePurses_398 ?_
            refine sw_ic_gt (tgt := 428) dL_arePurses_401 rfl (fun h9 => absurd h9 (nI_nlt hmx (by omega))) (fun _ => ?_)
            refine sw_iload (i := 8) dL_arePurses_404 rfl ?_
            refine sw_ins (pc2 := 406) rfl rfl ?_
            refine sw_iload (i := 5) dL_arePurses_406 rfl ?_
            refine sw_ic_ge (tgt := 430) dL_arePurses_408 rfl (fun h9 => absurd h9 (nI_ge hir (by omega))) (fun _ => ?_)
            refine sw_aload_n (i := 0) dL_arePurses_411 rfl rfl ?_
            refine sw_iload (i := 8) dL_arePurses_412 rfl ?_
            refine sw_ic 0 dL_arePurses_414 ?_
            refine px_VF mv_L_20 x3 (hcl _) (by decide) rfl rfl rfl rfl (Nat.le_of_ble_eq_true rfl) (Nat.le_of_ble_eq_true rfl) ko_0 (Nat.le_of_ble_eq_true rfl) dL_arePurses_415 ?_
            refine sw_aload_n (i := 0) dL_arePurses_418 rfl rfl ?_
            refine sw_iload (i := 5) dL_arePurses_419 rfl ?_
            refine sw_ins (pc2 := 421) rfl rfl ?_
            refine sw_ic 0 dL_arePurses_421 ?_
            refine px_VF mv_L_20 x4 (hcl _) (by decide) rfl rfl rfl rfl (Nat.le_of_ble_eq_true rfl) (Nat.le_of_ble_eq_true rfl) ko_0 (Nat.le_of_ble_eq_true rfl) dL_arePurses_422 ?_
            refine sw_ic_ne (tgt := 430) dL_arePurses_425 rfl (fun _ => ?_) (fun h9 => absurd h9 (fun g => absurd ((nI_eq (by omega) (by omega)).mp g) (by omega)))
            refine sw_iinc (i := 8) (v := nI (i + 1)) dL_arePurses_430 rfl (nI_1 _) (Nat.le_of_ble_eq_true rfl) rfl ?_
            refine sw_lo (lo2 := [some (.ref 0), some (.ref 65), some (.int _), some (.int _), some (.int _), some (.int _), some (.int _), some (.int _), some (.int _), some (.int _), some (.int _), some (.int _), some (.int _), some (.int _)]) rfl ?_
            refine sw_goto (tgt := 30) dL_arePurses_433 rfl ?_
            refine sw_sub ?_ z1
            exact ⟨rfl, rfl, rfl, rfl, rfl, rfl, rfl, rfl, rfl, trivial⟩
          ·
            have hp1 := hpl _ hi
            have hp2 := hpl _ hrl
            have hmx : pwN V i ≤ pwN V (rch V) := rcG_max okC okW 8 (Nat.le_refl _) i hi
            obtain ⟨e1, x1, y1, -⟩ := C_islanderOf (J := J) (a := i) (k := 0) h iv hi (by decide)
            rw [hpw _ hi] at x1
            obtain ⟨e2, x2, y2, -⟩ := C_islanderOf (J := J) (a := rch V) (k := 0) y1 iv hrl (by decide)
            rw [hpw _ hrl] at x2
            obtain ⟨d1, z1, z2⟩ := ihi e2 y2
            refine ⟨d1, ?_, z2⟩
            refine sw_iload (i := 13) dL_arePurses_322 rfl ?_
            refine sw_iload (i := 11) dL_arePurses_324 rfl ?_
            refine sw_ic_ge (tgt := 382) dL_arePurses_326 rfl (fun _ => ?_) (fun h9 => absurd (nI_le (by omega) (by omega)) h9)
            refine sw_iload (i := 12) dL_arePurses_382 rfl ?_
            refine sw_if_eq (tgt := 428) dL_arePurses_384 rfl (fun h9 => absurd h9 (by decide)) (fun _ => ?_)
            refine sw_aload_n (i := 0) dL_arePurses_387 rfl rfl ?_
            refine sw_iload (i := 8) dL_arePurses_388 rfl ?_
            refine sw_ins (pc2 := 390) rfl rfl ?_
            refine sw_ic 0 dL_arePurses_390 ?_
            refine px_VF mv_L_20 x1 (hcl _) (by decide) rfl rfl rfl rfl (Nat.le_of_ble_eq_true rfl) (Nat.le_of_ble_eq_true rfl) ko_0 (Nat.le_of_ble_eq_true rfl) dL_arePurses_391 ?_
            refine sw_aload_n (i := 0) dL_arePurses_394 rfl rfl ?_
            refine sw_iload (i := 5) dL_arePurses_395 rfl ?_
            refine sw_ic 0 dL_arePurses_397 ?_
            refine px_VF mv_L_20 x2 (hcl _) (by decide) rfl rfl rfl rfl (Nat.le_of_ble_eq_true rfl) (Nat.le_of_ble_eq_true rfl) ko_0 (Nat.le_of_ble_eq_true rfl) dL_arePurses_398 ?_
            refine sw_ic_gt (tgt := 428) dL_arePurses_401 rfl (fun h9 => absurd h9 (nI_nlt hmx (by omega))) (fun _ => ?_)
            refine sw_iload (i := 8) dL_arePurses_404 rfl ?_
            refine sw_ins (pc2 := 406) rfl rfl ?_
            refine sw_iload (i := 5) dL_arePurses_406 rfl ?_
            refine sw_ic_ge (tgt := 430) dL_arePurses_408 rfl (fun _ => ?_) (fun h9 => absurd (nI_le (by omega) (by omega)) h9)
            refine sw_iinc (i := 8) (v := nI (i + 1)) dL_arePurses_430 rfl (nI_1 _) (Nat.le_of_ble_eq_true rfl) rfl ?_
            refine sw_lo (lo2 := [some (.ref 0), some (.ref 65), some (.int _), some (.int _), some (.int _), some (.int _), some (.int _), some (.int _), some (.int _), some (.int _), some (.int _), some (.int _), some (.int _), some (.int _)]) rfl ?_
            refine sw_goto (tgt := 30) dL_arePurses_433 rfl ?_
            refine sw_sub ?_ z1
            exact ⟨rfl, rfl, rfl, rfl, rfl, rfl, rfl, rfl, rfl, trivial⟩
        · intro k hk ihk d h
          have hal := alg_lt okP hi (k + 1)
          have hne := cr4 (k + 1) (by omega) (by omega)
          obtain ⟨e1, x1, y1, -⟩ := C0_where (J := J) (a := i) (k := k + 1) h iv hi (by omega)
          obtain ⟨e2, x2, y2, -⟩ := C1_where (J := J) (a := i) (k := k + 1) y1 iv hi (by omega)
          obtain ⟨e3, x3, y3, -⟩ := C0_where (J := J) (a := i) (k := k + 1) y2 iv hi (by omega)
          obtain ⟨d1, z1, z2⟩ := ihk e3 y3
          refine ⟨d1, ?_, z2⟩
          refine sw_iload (i := 13) dL_arePurses_322 rfl ?_
          refine sw_iload (i := 11) dL_arePurses_324 rfl ?_
          refine sw_ic_ge (tgt := 382) dL_arePurses_326 rfl (fun h9 => absurd h9 (nI_ge (by omega) (by omega))) (fun _ => ?_)
          refine sw_iload (i := 12) dL_arePurses_329 rfl ?_
          refine sw_if_eq (tgt := 382) dL_arePurses_331 rfl (fun h9 => absurd h9 (by decide)) (fun _ => ?_)
          refine sw_aload_n (i := 0) dL_arePurses_334 rfl rfl ?_
          refine sw_iload (i := 8) dL_arePurses_335 rfl ?_
          refine sw_ins (pc2 := 337) rfl rfl ?_
          refine sw_iload (i := 13) dL_arePurses_337 rfl ?_
          refine sw_ic 0 dL_arePurses_339 ?_
          refine px_VF mv_L_30 x1 (hcl _) (by decide) rfl rfl rfl rfl (Nat.le_of_ble_eq_true rfl) (Nat.le_of_ble_eq_true rfl) ko_0 (Nat.le_of_ble_eq_true rfl) dL_arePurses_340 ?_
          refine sw_iload (i := 8) dL_arePurses_343 rfl ?_
          refine sw_ic_eq (tgt := 373) dL_arePurses_345 rfl (fun h9 => absurd h9 (fun g => hne ((nI_eq (by omega) (by omega)).mp g))) (fun _ => ?_)
          refine sw_aload_n (i := 0) dL_arePurses_348 rfl rfl ?_
          refine sw_iload (i := 8) dL_arePurses_349 rfl ?_
          refine sw_iload (i := 13) dL_arePurses_351 rfl ?_
          refine sw_ins (pc2 := 353) rfl rfl ?_
          refine sw_ic 1 dL_arePurses_353 ?_
          refine px_VF mv_L_30 x2 (hcl _) (by decide) rfl rfl rfl rfl (Nat.le_of_ble_eq_true rfl) (Nat.le_of_ble_eq_true rfl) ko_0 (Nat.le_of_ble_eq_true rfl) dL_arePurses_354 ?_
          refine sw_aload_n (i := 0) dL_arePurses_357 rfl rfl ?_
          refine sw_iload (i := 8) dL_arePurses_358 rfl ?_
          refine sw_iload (i := 13) dL_arePurses_360 rfl ?_
          refine sw_ic 0 dL_arePurses_362 ?_
          refine px_VF mv_L_30 x3 (hcl _) (by decide) rfl rfl rfl rfl (Nat.le_of_ble_eq_true rfl) (Nat.le_of_ble_eq_true rfl) ko_0 (Nat.le_of_ble_eq_true rfl) dL_arePurses_363 ?_
          refine sw_ic_ne (tgt := 373) dL_arePurses_366 rfl (fun h9 => absurd rfl h9) (fun _ => ?_)
          refine sw_ins (pc2 := 369) rfl rfl ?_
          refine sw_ic 1 dL_arePurses_369 ?_
          refine sw_goto (tgt := 374) dL_arePurses_370 rfl ?_
          refine sw_istore (i := 12) dL_arePurses_374 (Nat.le_of_ble_eq_true rfl) rfl ?_
          refine sw_lo (lo2 := [some (.ref 0), some (.ref 65), some (.int _), some (.int _), some (.int _), some (.int _), some (.int _), some (.int _), some (.int _), some (.int _), some (.int _), some (.int _), some (.int _), some (.int _)]) rfl ?_
          refine sw_iinc (i := 13) (v := nI (k + 1 + 1)) dL_arePurses_376 rfl (nI_1 _) (Nat.le_of_ble_eq_true rfl) rfl ?_
          refine sw_lo (lo2 := [some (.ref 0), some (.ref 65), some (.int _), some (.int _), some (.int _), some (.int _), some (.int _), some (.int _), some (.int _), some (.int _), some (.int _), some (.int _), some (.int _), some (.int _)]) rfl ?_
          refine sw_goto (tgt := 322) dL_arePurses_379 rfl ?_
          refine sw_sub ?_ z1
          exact ⟨rfl, rfl, rfl, rfl, rfl, rfl, rfl, rfl, rfl, rfl, rfl, rfl, rfl, rfl, trivial⟩
      have K2 : ∀ j, j ≤ 8 → ∀ d, RC d r V n H S t T tl → ∃ d1, SW yL_arePurses cL_arePurses 14 (some .boolean) [] 8 none 98 [some (.ref 0), some (.ref 65), some (.int (rs (fun a => isl V a 0) i)), some (.int (rs (fun a => isl V a 3) i)), some (.int (rs (fun a => isl V a 4) i)), some (.int (nI (rch V))), some (.int (gt V i)), some (.int (nI (hm V))), some (.int (nI i)), some (.int (rs (fun j => owd V i j) j)), some (.int (rs (fun j => owd V j i) j)), some (.int (nI (crc V i))), some (.int (nI j)), none] [] 66 (WX d r J (X1 zz (cf V (i + 1)))) 0 0 (.inl (some (.int (nI 1)))) 66 (WX d1 r J (X1 zz (cf V 8))) ∧ RC d1 r V n H S t T tl := by
        refine am_loop (8) ?_ ?_
        · intro d h
          obtain ⟨e1, x1, y1, -⟩ := C_islanderOf (J := J) (a := i) (k := 0) h iv hi (by decide)
          obtain ⟨e2, x2, y2, -⟩ := C_islanderOf (J := J) (a := i) (k := 3) y1 iv hi (by decide)
          obtain ⟨e3, x3, y3, -⟩ := C_islanderOf (J := J) (a := i) (k := 4) y2 iv hi (by decide)
          obtain ⟨e4, x4, y4, -⟩ := C_islanderOf (J := J) (a := i) (k := 1) y3 iv hi (by decide)
          obtain ⟨e5, x5, y5, -⟩ := C_islanderOf (J := J) (a := i) (k := 3) y4 iv hi (by decide)
          obtain ⟨e6, x6, y6, -⟩ := C_islanderOf (J := J) (a := i) (k := 4) y5 iv hi (by decide)
          obtain ⟨e7, x7, y7, -⟩ := C_owed (J := J) (a := i) (b := i) y6 iv hi hi
          obtain ⟨e8, x8, y8, -⟩ := C0_where (J := J) (a := i) (k := crc V i) y7 iv hi (by omega)
          obtain ⟨e9, x9, y9, -⟩ := C1_where (J := J) (a := i) (k := 0) y8 iv hi (by decide)
          obtain ⟨e10, x10, y10, -⟩ := C0_where (J := J) (a := i) (k := 1) y9 iv hi (by decide)
          obtain ⟨e11, x11, y11, -⟩ := C_islanderOf (J := J) (a := i) (k := 1) y10 iv hi (by decide)
          rw [hp1] at x11
          obtain ⟨e12, x12, y12, -⟩ := C0_where (J := J) (a := i) (k := hm V) y11 iv hi (by omega)
          obtain ⟨e13, x13, y13, -⟩ := C1_where (J := J) (a := i) (k := hm V) y12 iv hi (by omega)
          obtain ⟨d1, z1, z2⟩ := K3 0 (Nat.zero_le _) e13 y13
          refine ⟨d1, ?_, z2⟩
          refine sw_iload (i := 12) dL_arePurses_98 rfl ?_
          refine sw_bi 8 dL_arePurses_100 (by decide +kernel) ?_
          refine sw_ic_ge (tgt := 137) dL_arePurses_102 rfl (fun _ => ?_) (fun h9 => absurd (nI_le (Nat.le_refl _) (by decide)) h9)
          refine sw_iload_n (i := 2) dL_arePurses_137 rfl rfl ?_
          refine sw_aload_n (i := 0) dL_arePurses_138 rfl rfl ?_
          refine sw_iload (i := 8) dL_arePurses_139 rfl ?_
          refine sw_ic 0 dL_arePurses_141 ?_
          refine sw_ins (pc2 := 142) rfl rfl ?_
          refine px_VF mv_L_20 x1 (hcl _) (by decide) rfl rfl rfl rfl (Nat.le_of_ble_eq_true rfl) (Nat.le_of_ble_eq_true rfl) ko_0 (Nat.le_of_ble_eq_true rfl) dL_arePurses_142 ?_
          refine sw_iadd dL_arePurses_145 ?_
          refine sw_istore_n (i := 2) dL_arePurses_146 rfl (Nat.le_of_ble_eq_true rfl) rfl ?_
          refine sw_lo (lo2 := [some (.ref 0), some (.ref 65), some (.int _), some (.int _), some (.int _), some (.int _), some (.int _), some (.int _), some (.int _), some (.int _), some (.int _), some (.int _), some (.int _), none]) rfl ?_
          refine sw_iload_n (i := 3) dL_arePurses_147 rfl rfl ?_
          refine sw_aload_n (i := 0) dL_arePurses_148 rfl rfl ?_
          refine sw_iload (i := 8) dL_arePurses_149 rfl ?_
          refine sw_ic 3 dL_arePurses_151 ?_
          refine px_VF mv_L_20 x2 (hcl _) (by decide) rfl rfl rfl rfl (Nat.le_of_ble_eq_true rfl) (Nat.le_of_ble_eq_true rfl) ko_0 (Nat.le_of_ble_eq_true rfl) dL_arePurses_152 ?_
          refine sw_ins (pc2 := 155) rfl rfl ?_
          refine sw_iadd dL_arePurses_155 ?_
          refine sw_istore_n (i := 3) dL_arePurses_156 rfl (Nat.le_of_ble_eq_true rfl) rfl ?_
          refine sw_lo (lo2 := [some (.ref 0), some (.ref 65), some (.int _), some (.int _), some (.int _), some (.int _), some (.int _), some (.int _), some (.int _), some (.int _), some (.int _), some (.int _), some (.int _), none]) rfl ?_
          refine sw_iload (i := 4) dL_arePurses_157 rfl ?_
          refine sw_aload_n (i := 0) dL_arePurses_159 rfl rfl ?_
          refine sw_iload (i := 8) dL_arePurses_160 rfl ?_
          refine sw_ic 4 dL_arePurses_162 ?_
          refine px_VF mv_L_20 x3 (hcl _) (by decide) rfl rfl rfl rfl (Nat.le_of_ble_eq_true rfl) (Nat.le_of_ble_eq_true rfl) ko_0 (Nat.le_of_ble_eq_true rfl) dL_arePurses_163 ?_
          refine sw_iadd dL_arePurses_166 ?_
          refine sw_ins (pc2 := 167) rfl rfl ?_
          refine sw_istore (i := 4) dL_arePurses_167 (Nat.le_of_ble_eq_true rfl) rfl ?_
          refine sw_lo (lo2 := [some (.ref 0), some (.ref 65), some (.int _), some (.int _), some (.int _), some (.int _), some (.int _), some (.int _), some (.int _), some (.int _), some (.int _), some (.int _), some (.int _), none]) rfl ?_
          refine sw_iload (i := 6) dL_arePurses_169 rfl ?_
          refine sw_ic 1 dL_arePurses_171 ?_
          refine sw_aload_n (i := 0) dL_arePurses_172 rfl rfl ?_
          refine sw_iload (i := 8) dL_arePurses_173 rfl ?_
          refine sw_ic 1 dL_arePurses_175 ?_
          refine px_VF mv_L_20 x4 (hcl _) (by decide) rfl rfl rfl rfl (Nat.le_of_ble_eq_true rfl) (Nat.le_of_ble_eq_true rfl) ko_0 (Nat.le_of_ble_eq_true rfl) dL_arePurses_176 ?_
          refine sw_ishl rfl dL_arePurses_179 ?_
          refine sw_ins (pc2 := 180) rfl rfl ?_
          refine sw_ior rfl dL_arePurses_180 ?_
          refine sw_istore (i := 6) dL_arePurses_181 (Nat.le_of_ble_eq_true rfl) rfl ?_
          refine sw_lo (lo2 := [some (.ref 0), some (.ref 65), some (.int _), some (.int _), some (.int _), some (.int _), some (.int _), some (.int _), some (.int _), some (.int _), some (.int _), some (.int _), some (.int _), none]) rfl ?_
          refine sw_iload (i := 9) dL_arePurses_183 rfl ?_
          refine sw_aload_n (i := 0) dL_arePurses_185 rfl rfl ?_
          refine sw_iload (i := 8) dL_arePurses_186 rfl ?_
          refine sw_ic 3 dL_arePurses_188 ?_
          refine px_VF mv_L_20 x5 (hcl _) (by decide) rfl rfl rfl rfl (Nat.le_of_ble_eq_true rfl) (Nat.le_of_ble_eq_true rfl) ko_0 (Nat.le_of_ble_eq_true rfl) dL_arePurses_189 ?_
          refine sw_ic_ne (tgt := 316) dL_arePurses_192 rfl (fun h9 => absurd (owd_from iv.1 i) h9) (fun _ => ?_)
          refine sw_ins (pc2 := 195) rfl rfl ?_
          refine sw_iload (i := 10) dL_arePurses_195 rfl ?_
          refine sw_aload_n (i := 0) dL_arePurses_197 rfl rfl ?_
          refine sw_iload (i := 8) dL_arePurses_198 rfl ?_
          refine sw_ic 4 dL_arePurses_200 ?_
          refine px_VF mv_L_20 x6 (hcl _) (by decide) rfl rfl rfl rfl (Nat.le_of_ble_eq_true rfl) (Nat.le_of_ble_eq_true rfl) ko_0 (Nat.le_of_ble_eq_true rfl) dL_arePurses_201 ?_
          refine sw_ic_ne (tgt := 316) dL_arePurses_204 rfl (fun h9 => absurd (owd_to iv.1 i) h9) (fun _ => ?_)
          refine sw_aload_n (i := 0) dL_arePurses_207 rfl rfl ?_
          refine sw_iload (i := 8) dL_arePurses_208 rfl ?_
          refine sw_ins (pc2 := 210) rfl rfl ?_
          refine sw_iload (i := 8) dL_arePurses_210 rfl ?_
          refine px_VF mv_L_27 x7 (hcl _) (by decide) rfl rfl rfl rfl (Nat.le_of_ble_eq_true rfl) (Nat.le_of_ble_eq_true rfl) ko_0 (Nat.le_of_ble_eq_true rfl) dL_arePurses_212 ?_
          refine sw_if_ne (tgt := 316) dL_arePurses_215 rfl (fun h9 => absurd (owd_self iv.1 i) h9) (fun _ => ?_)
          refine sw_iload (i := 11) dL_arePurses_218 rfl ?_
          refine sw_ic 1 dL_arePurses_220 ?_
          refine sw_ic_lt (tgt := 316) dL_arePurses_221 rfl (fun h9 => absurd h9 (nI_nlt cr2 (by omega))) (fun _ => ?_)
          refine sw_iload (i := 11) dL_arePurses_224 rfl ?_
          refine sw_bi 8 dL_arePurses_226 (by decide +kernel) ?_
          refine sw_ins (pc2 := 228) rfl rfl ?_
          refine sw_ic_gt (tgt := 316) dL_arePurses_228 rfl (fun h9 => absurd h9 (nI_nlt cr3 (by decide))) (fun _ => ?_)
          refine sw_aload_n (i := 0) dL_arePurses_231 rfl rfl ?_
          refine sw_iload (i := 8) dL_arePurses_232 rfl ?_
          refine sw_iload (i := 11) dL_arePurses_234 rfl ?_
          refine sw_ic 0 dL_arePurses_236 ?_
          refine px_VF mv_L_30 x8 (hcl _) (by decide) rfl rfl rfl rfl (Nat.le_of_ble_eq_true rfl) (Nat.le_of_ble_eq_true rfl) ko_0 (Nat.le_of_ble_eq_true rfl) dL_arePurses_237 ?_
          refine sw_iload (i := 8) dL_arePurses_240 rfl ?_
          refine sw_ic_ne (tgt := 316) dL_arePurses_242 rfl (fun h9 => absurd (by rw [cr1]) h9) (fun _ => ?_)
          refine sw_ins (pc2 := 245) rfl rfl ?_
          refine sw_aload_n (i := 0) dL_arePurses_245 rfl rfl ?_
          refine sw_iload (i := 8) dL_arePurses_246 rfl ?_
          refine sw_ic 0 dL_arePurses_248 ?_
          refine sw_ic 1 dL_arePurses_249 ?_
          refine px_VF mv_L_30 x9 (hcl _) (by decide) rfl rfl rfl rfl (Nat.le_of_ble_eq_true rfl) (Nat.le_of_ble_eq_true rfl) ko_0 (Nat.le_of_ble_eq_true rfl) dL_arePurses_250 ?_
          refine sw_iload (i := 8) dL_arePurses_253 rfl ?_
          refine sw_ic_ne (tgt := 316) dL_arePurses_255 rfl (fun h9 => absurd rfl h9) (fun _ => ?_)
          refine sw_aload_n (i := 0) dL_arePurses_258 rfl rfl ?_
          refine sw_ins (pc2 := 259) rfl rfl ?_
          refine sw_iload (i := 8) dL_arePurses_259 rfl ?_
          refine sw_ic 1 dL_arePurses_261 ?_
          refine sw_ic 0 dL_arePurses_262 ?_
          refine px_VF mv_L_30 x10 (hcl _) (by decide) rfl rfl rfl rfl (Nat.le_of_ble_eq_true rfl) (Nat.le_of_ble_eq_true rfl) ko_0 (Nat.le_of_ble_eq_true rfl) dL_arePurses_263 ?_
          refine sw_aload_n (i := 0) dL_arePurses_266 rfl rfl ?_
          refine sw_iload (i := 8) dL_arePurses_267 rfl ?_
          refine sw_ic 1 dL_arePurses_269 ?_
          refine px_VF mv_L_20 x11 (hcl _) (by decide) rfl rfl rfl rfl (Nat.le_of_ble_eq_true rfl) (Nat.le_of_ble_eq_true rfl) ko_0 (Nat.le_of_ble_eq_true rfl) dL_arePurses_270 ?_
          refine sw_ins (pc2 := 273) rfl rfl ?_
          refine sw_ic_ne (tgt := 316) dL_arePurses_273 rfl (fun h9 => absurd rfl h9) (fun _ => ?_)
          refine sw_aload_n (i := 0) dL_arePurses_276 rfl rfl ?_
          refine sw_iload (i := 8) dL_arePurses_277 rfl ?_
          refine sw_iload (i := 7) dL_arePurses_279 rfl ?_
          refine sw_ic 0 dL_arePurses_281 ?_
          refine px_VF mv_L_30 x12 (hcl _) (by decide) rfl rfl rfl rfl (Nat.le_of_ble_eq_true rfl) (Nat.le_of_ble_eq_true rfl) ko_0 (Nat.le_of_ble_eq_true rfl) dL_arePurses_282 ?_
          refine sw_iload (i := 8) dL_arePurses_285 rfl ?_
          refine sw_ic_ne (tgt := 316) dL_arePurses_287 rfl (fun h9 => absurd (by rw [hhm]) h9) (fun _ => ?_)
          refine sw_ins (pc2 := 290) rfl rfl ?_
          refine sw_aload_n (i := 0) dL_arePurses_290 rfl rfl ?_
          refine sw_iload (i := 8) dL_arePurses_291 rfl ?_
          refine sw_iload (i := 7) dL_arePurses_293 rfl ?_
          refine sw_ic 1 dL_arePurses_295 ?_
          refine px_VF mv_L_30 x13 (hcl _) (by decide) rfl rfl rfl rfl (Nat.le_of_ble_eq_true rfl) (Nat.le_of_ble_eq_true rfl) ko_0 (Nat.le_of_ble_eq_true rfl) dL_arePurses_296 ?_
          refine sw_iload (i := 8) dL_arePurses_299 rfl ?_
          refine sw_ic_ne (tgt := 316) dL_arePurses_301 rfl (fun h9 => absurd (by rw [hhm]) h9) (fun _ => ?_)
          refine sw_iload (i := 7) dL_arePurses_304 rfl ?_
          refine sw_ins (pc2 := 306) rfl rfl ?_
          refine sw_iload (i := 11) dL_arePurses_306 rfl ?_
          refine sw_irem (nI_ne0 (by omega) (by omega)) dL_arePurses_308 ?_
          refine sw_topE (v := nI (hm V % crc V i)) (pk_rem (by omega) (by omega) (by omega)) ?_
          refine sw_if_ne (tgt := 316) dL_arePurses_309 rfl (fun h9 => absurd (by rw [Nat.mod_eq_zero_of_dvd hdv]; rfl) h9) (fun _ => ?_)
          refine sw_ic 1 dL_arePurses_312 ?_
          refine sw_goto (tgt := 317) dL_arePurses_313 rfl ?_
          refine sw_istore (i := 12) dL_arePurses_317 (Nat.le_of_ble_eq_true rfl) rfl ?_
          refine sw_lo (lo2 := [some (.ref 0), some (.ref 65), some (.int _), some (.int _), some (.int _), some (.int _), some (.int _), some (.int _), some (.int _), some (.int _), some (.int _), some (.int _), some (.int _), none]) rfl ?_
          refine sw_ic 1 dL_arePurses_319 ?_
          refine sw_istore (i := 13) dL_arePurses_320 (Nat.le_of_ble_eq_true rfl) rfl ?_
          refine sw_lo (lo2 := [some (.ref 0), some (.ref 65), some (.int _), some (.int _), some (.int _), some (.int _), some (.int _), some (.int _), some (.int _), some (.int _), some (.int _), some (.int _), some (.int _), some (.int _)]) rfl ?_
          refine sw_sub ?_ z1
          exact ⟨rfl, rfl, rfl, rfl, rfl, rfl, rfl, rfl, rfl, rfl, rfl, rfl, rfl, rfl, trivial⟩
        · intro j hj ihj d h
          obtain ⟨e1, x1, y1, -⟩ := C_owed (J := J) (a := i) (b := j) h iv hi hj
          obtain ⟨e2, x2, y2, -⟩ := C_owed (J := J) (a := j) (b := i) y1 iv hj hi
          obtain ⟨d1, z1, z2⟩ := ihj e2 y2
          refine ⟨d1, ?_, z2⟩
          refine sw_iload (i := 12) dL_arePurses_98 rfl ?_
          refine sw_bi 8 dL_arePurses_100 (by decide +kernel) ?_
          refine sw_ic_ge (tgt := 137) dL_arePurses_102 rfl (fun h9 => absurd h9 (nI_ge hj (by decide))) (fun _ => ?_)
          refine sw_iload (i := 9) dL_arePurses_105 rfl ?_
          refine sw_aload_n (i := 0) dL_arePurses_107 rfl rfl ?_
          refine sw_iload (i := 8) dL_arePurses_108 rfl ?_
          refine sw_iload (i := 12) dL_arePurses_110 rfl ?_
          refine sw_ins (pc2 := 112) rfl rfl ?_
          refine px_VF mv_L_27 x1 (hcl _) (by decide) rfl rfl rfl rfl (Nat.le_of_ble_eq_true rfl) (Nat.le_of_ble_eq_true rfl) ko_0 (Nat.le_of_ble_eq_true rfl) dL_arePurses_112 ?_
          refine sw_iadd dL_arePurses_115 ?_
          refine sw_istore (i := 9) dL_arePurses_116 (Nat.le_of_ble_eq_true rfl) rfl ?_
          refine sw_lo (lo2 := [some (.ref 0), some (.ref 65), some (.int _), some (.int _), some (.int _), some (.int _), some (.int _), some (.int _), some (.int _), some (.int _), some (.int _), some (.int _), some (.int _), none]) rfl ?_
          refine sw_iload (i := 10) dL_arePurses_118 rfl ?_
          refine sw_aload_n (i := 0) dL_arePurses_120 rfl rfl ?_
          refine sw_iload (i := 12) dL_arePurses_121 rfl ?_
          refine sw_iload (i := 8) dL_arePurses_123 rfl ?_
          refine px_VF mv_L_27 x2 (hcl _) (by decide) rfl rfl rfl rfl (Nat.le_of_ble_eq_true rfl) (Nat.le_of_ble_eq_true rfl) ko_0 (Nat.le_of_ble_eq_true rfl) dL_arePurses_125 ?_
          refine sw_ins (pc2 := 128) rfl rfl ?_
          refine sw_iadd dL_arePurses_128 ?_
          refine sw_istore (i := 10) dL_arePurses_129 (Nat.le_of_ble_eq_true rfl) rfl ?_
          refine sw_lo (lo2 := [some (.ref 0), some (.ref 65), some (.int _), some (.int _), some (.int _), some (.int _), some (.int _), some (.int _), some (.int _), some (.int _), some (.int _), some (.int _), some (.int _), none]) rfl ?_
          refine sw_iinc (i := 12) (v := nI (j + 1)) dL_arePurses_131 rfl (nI_1 _) (Nat.le_of_ble_eq_true rfl) rfl ?_
          refine sw_lo (lo2 := [some (.ref 0), some (.ref 65), some (.int _), some (.int _), some (.int _), some (.int _), some (.int _), some (.int _), some (.int _), some (.int _), some (.int _), some (.int _), some (.int _), none]) rfl ?_
          refine sw_goto (tgt := 98) dL_arePurses_134 rfl ?_
          refine sw_sub ?_ z1
          exact ⟨rfl, rfl, rfl, rfl, rfl, rfl, rfl, rfl, rfl, rfl, rfl, rfl, rfl, trivial⟩
      have K1 : ∀ c, c ≤ 4 → ∀ d, RC d r V n H S t T tl → ∃ d1, SW yL_arePurses cL_arePurses 14 (some .boolean) [] 8 none 55 [some (.ref 0), some (.ref 65), some (.int (rs (fun a => isl V a 0) i)), some (.int (rs (fun a => isl V a 3) i)), some (.int (rs (fun a => isl V a 4) i)), some (.int (nI (rch V))), some (.int (gt V i)), some (.int (nI (hm V))), some (.int (nI i)), some (.int (nI 0)), some (.int (nI 0)), some (.int (nI (crc V i))), some (.int (nI c)), none] [] 66 (WX d r J (X1 zz (cm V i c))) 0 0 (.inl (some (.int (nI 1)))) 66 (WX d1 r J (X1 zz (cf V 8))) ∧ RC d1 r V n H S t T tl := by
        refine am_loop (4) ?_ ?_
        · intro d h
          obtain ⟨d1, z1, z2⟩ := K2 0 (Nat.zero_le _) d h
          refine ⟨d1, ?_, z2⟩
          rw [cm_4]
          refine sw_iload (i := 12) dL_arePurses_55 rfl ?_
          refine sw_ic 4 dL_arePurses_57 ?_
          refine sw_ic_ge (tgt := 95) dL_arePurses_58 rfl (fun _ => ?_) (fun h9 => absurd (nI_le (Nat.le_refl _) (by decide)) h9)
          refine sw_ic 0 dL_arePurses_95 ?_
          refine sw_istore (i := 12) dL_arePurses_96 (Nat.le_of_ble_eq_true rfl) rfl ?_
          refine sw_lo (lo2 := [some (.ref 0), some (.ref 65), some (.int _), some (.int _), some (.int _), some (.int _), some (.int _), some (.int _), some (.int _), some (.int _), some (.int _), some (.int _), some (.int _), none]) rfl ?_
          refine sw_sub ?_ z1
          exact ⟨rfl, rfl, rfl, rfl, rfl, rfl, rfl, rfl, rfl, rfl, rfl, rfl, rfl, trivial⟩
        · intro c hc ihc d h
          have hcv : V (19 + (i * 4 + c)) = nI (cp V i c) := okC.1 (i * 4 + c) (by omega)
          have hcb := cp_le okC hi hc
          obtain ⟨e1, x1, y1, -⟩ := C_caps (J := J) (a := i) (c := c) h iv hi hc
          obtain ⟨e2, x2, y2, -⟩ := C_caps (J := J) (a := i) (c := c) y1 iv hi hc
          rw [hcv] at x2
          obtain ⟨d1, z1, z2⟩ := ihc e2 y2
          refine ⟨d1, ?_, z2⟩
          refine sw_iload (i := 12) dL_arePurses_55 rfl ?_
          refine sw_ic 4 dL_arePurses_57 ?_
          refine sw_ic_ge (tgt := 95) dL_arePurses_58 rfl (fun h9 => absurd h9 (nI_ge hc (by decide))) (fun _ => ?_)
          refine sw_aload_n (i := 1) dL_arePurses_61 rfl rfl ?_
          refine sw_iload (i := 12) dL_arePurses_62 rfl ?_
          refine sw_dup2 dL_arePurses_64 rfl rfl ?_
          refine px_ald (c) (cm V i c c) rfl (X1_at _ _) (by decide) (by decide) rfl hc (by decide) dL_arePurses_65 ?_
          refine sw_ins (pc2 := 66) rfl rfl ?_
          refine sw_aload_n (i := 0) dL_arePurses_66 rfl rfl ?_
          refine sw_iload (i := 8) dL_arePurses_67 rfl ?_
          refine sw_iload (i := 12) dL_arePurses_69 rfl ?_
          refine px_VF mv_L_24 x1 (hcl _) (by decide) rfl rfl rfl rfl (Nat.le_of_ble_eq_true rfl) (Nat.le_of_ble_eq_true rfl) ko_0 (Nat.le_of_ble_eq_true rfl) dL_arePurses_71 ?_
          refine sw_iadd dL_arePurses_74 ?_
          refine px_ast (c) (X1 zz (cm V i (c + 1))) (X1_at _ _) (by rw [X1_up, cm_s V i hc]) (by decide) (by decide) rfl hc (by decide) dL_arePurses_75 ?_
          refine sw_aload_n (i := 0) dL_arePurses_76 rfl rfl ?_
          refine sw_iload (i := 8) dL_arePurses_77 rfl ?_
          refine sw_ins (pc2 := 79) rfl rfl ?_
          refine sw_iload (i := 12) dL_arePurses_79 rfl ?_
          refine px_VF mv_L_24 x2 (hcl _) (by decide) rfl rfl rfl rfl (Nat.le_of_ble_eq_true rfl) (Nat.le_of_ble_eq_true rfl) ko_0 (Nat.le_of_ble_eq_true rfl) dL_arePurses_81 ?_
          refine sw_if_ge (tgt := 89) dL_arePurses_84 rfl (fun _ => ?_) (fun h9 => absurd (nI_pos' (by omega)) h9)
          refine sw_iinc (i := 12) (v := nI (c + 1)) dL_arePurses_89 rfl (nI_1 _) (Nat.le_of_ble_eq_true rfl) rfl ?_
          refine sw_lo (lo2 := [some (.ref 0), some (.ref 65), some (.int _), some (.int _), some (.int _), some (.int _), some (.int _), some (.int _), some (.int _), some (.int _), some (.int _), some (.int _), some (.int _), none]) rfl ?_
          refine sw_goto (tgt := 55) dL_arePurses_92 rfl ?_
          refine sw_sub ?_ z1
          exact ⟨rfl, rfl, rfl, rfl, rfl, rfl, rfl, rfl, rfl, rfl, rfl, rfl, rfl, trivial⟩
      obtain ⟨e1, x1, y1, -⟩ := C_islanderOf (J := J) (a := i) (k := 2) h iv hi (by decide)
      rw [hi2] at x1
      obtain ⟨d1, z1, z2⟩ := K1 0 (Nat.zero_le _) e1 y1
      rw [cm_0] at z1
      refine ⟨d1, ?_, z2⟩
      refine sw_iload (i := 8) dL_arePurses_30 rfl ?_
      refine sw_bi 8 dL_arePurses_32 (by decide +kernel) ?_
      refine sw_ic_ge (tgt := 436) dL_arePurses_34 rfl (fun h9 => absurd h9 (nI_ge hi (by decide))) (fun _ => ?_)
      refine sw_ic 0 dL_arePurses_37 ?_
      refine sw_istore (i := 9) dL_arePurses_38 (Nat.le_of_ble_eq_true rfl) rfl ?_
      refine sw_lo (lo2 := [some (.ref 0), some (.ref 65), some (.int _), some (.int _), some (.int _), some (.int _), some (.int _), some (.int _), some (.int _), some (.int _), none, none, none, none]) rfl ?_
      refine sw_ic 0 dL_arePurses_40 ?_
      refine sw_istore (i := 10) dL_arePurses_41 (Nat.le_of_ble_eq_true rfl) rfl ?_
      refine sw_lo (lo2 := [some (.ref 0), some (.ref 65), some (.int _), some (.int _), some (.int _), some (.int _), some (.int _), some (.int _), some (.int _), some (.int _), some (.int _), none, none, none]) rfl ?_
      refine sw_ins (pc2 := 43) rfl rfl ?_
      refine sw_aload_n (i := 0) dL_arePurses_43 rfl rfl ?_
      refine sw_iload (i := 8) dL_arePurses_44 rfl ?_
      refine sw_ic 2 dL_arePurses_46 ?_
      refine px_VF mv_L_20 x1 (hcl _) (by decide) rfl rfl rfl rfl (Nat.le_of_ble_eq_true rfl) (Nat.le_of_ble_eq_true rfl) ko_0 (Nat.le_of_ble_eq_true rfl) dL_arePurses_47 ?_
      refine sw_istore (i := 11) dL_arePurses_50 (Nat.le_of_ble_eq_true rfl) rfl ?_
      refine sw_lo (lo2 := [some (.ref 0), some (.ref 65), some (.int _), some (.int _), some (.int _), some (.int _), some (.int _), some (.int _), some (.int _), some (.int _), some (.int _), some (.int _), none, none]) rfl ?_
      refine sw_ic 0 dL_arePurses_52 ?_
      refine sw_istore (i := 12) dL_arePurses_53 (Nat.le_of_ble_eq_true rfl) rfl ?_
      refine sw_lo (lo2 := [some (.ref 0), some (.ref 65), some (.int _), some (.int _), some (.int _), some (.int _), some (.int _), some (.int _), some (.int _), some (.int _), some (.int _), some (.int _), some (.int _), none]) rfl ?_
      refine sw_sub ?_ z1
      exact ⟨rfl, rfl, rfl, rfl, rfl, rfl, rfl, rfl, rfl, rfl, rfl, rfl, rfl, trivial⟩
  obtain ⟨e1, x1, y1, -⟩ := C_richest (J := J)  h iv
  obtain ⟨e2, x2, y2, -⟩ := C0_homeIn (J := J)  y1 iv
  obtain ⟨d1, z1, z2⟩ := K0 0 (Nat.zero_le _) e2 y2
  refine ⟨d1, fr_of (N := 65) (NN := 66) (aw' := WX d1 r J (X1 zz (cf V 8))) (fun x hx => by cases hx; rfl) (by decide) (fun k hk => WX_in hk) (hcl d1) pl_L_arePurses (Nat.le_of_ble_eq_true rfl) ?_, z2⟩
  refine sw_ic 4 dL_arePurses_0 ?_
  refine sw_newI (k2 := 0) (n2 := 0) ac_i rfl (fun _ => rfl) (nn := 4) rfl (by decide) (by decide) (by decide) (by decide) (by decide) dL_arePurses_1 ?_
  rw [WX_0 (by decide), ← hzz, cf_0 V]
  show SW _ _ _ _ _ _ _ _ _ _ 66 (WX d r J (X1 zz (cf V 0))) _ _ _ _ _
  refine sw_astore_n (i := 1) dL_arePurses_3 rfl (Nat.le_of_ble_eq_true rfl) rfl ?_
  refine sw_lo (lo2 := [some (.ref 0), some (.ref 65), none, none, none, none, none, none, none, none, none, none, none, none]) rfl ?_
  refine sw_ic 0 dL_arePurses_4 ?_
  refine sw_istore_n (i := 2) dL_arePurses_5 rfl (Nat.le_of_ble_eq_true rfl) rfl ?_
  refine sw_lo (lo2 := [some (.ref 0), some (.ref 65), some (.int _), none, none, none, none, none, none, none, none, none, none, none]) rfl ?_
  refine sw_ic 0 dL_arePurses_6 ?_
  refine sw_istore_n (i := 3) dL_arePurses_7 rfl (Nat.le_of_ble_eq_true rfl) rfl ?_
  refine sw_lo (lo2 := [some (.ref 0), some (.ref 65), some (.int _), some (.int _), none, none, none, none, none, none, none, none, none, none]) rfl ?_
  refine sw_ins (pc2 := 8) rfl rfl ?_
  refine sw_ic 0 dL_arePurses_8 ?_
  refine sw_istore (i := 4) dL_arePurses_9 (Nat.le_of_ble_eq_true rfl) rfl ?_
  refine sw_lo (lo2 := [some (.ref 0), some (.ref 65), some (.int _), some (.int _), some (.int _), none, none, none, none, none, none, none, none, none]) rfl ?_
  refine sw_aload_n (i := 0) dL_arePurses_11 rfl rfl ?_
  refine px_VF mv_L_10 x1 (hcl _) (by decide) rfl rfl rfl rfl (Nat.le_of_ble_eq_true rfl) (Nat.le_of_ble_eq_true rfl) ko_0 (Nat.le_of_ble_eq_true rfl) dL_arePurses_12 ?_
  refine sw_istore (i := 5) dL_arePurses_15 (Nat.le_of_ble_eq_true rfl) rfl ?_
  refine sw_lo (lo2 := [some (.ref 0), some (.ref 65), some (.int _), some (.int _), some (.int _), some (.int _), none, none, none, none, none, none, none, none]) rfl ?_
  refine sw_ic 0 dL_arePurses_17 ?_
  refine sw_istore (i := 6) dL_arePurses_18 (Nat.le_of_ble_eq_true rfl) rfl ?_
  refine sw_lo (lo2 := [some (.ref 0), some (.ref 65), some (.int _), some (.int _), some (.int _), some (.int _), some (.int _), none, none, none, none, none, none, none]) rfl ?_
  refine sw_aload_n (i := 0) dL_arePurses_20 rfl rfl ?_
  refine sw_ins (pc2 := 21) rfl rfl ?_
  refine sw_ic 0 dL_arePurses_21 ?_
  refine px_VF mv_L_16 x2 (hcl _) (by decide) rfl rfl rfl rfl (Nat.le_of_ble_eq_true rfl) (Nat.le_of_ble_eq_true rfl) ko_0 (Nat.le_of_ble_eq_true rfl) dL_arePurses_22 ?_
  refine sw_istore (i := 7) dL_arePurses_25 (Nat.le_of_ble_eq_true rfl) rfl ?_
  refine sw_lo (lo2 := [some (.ref 0), some (.ref 65), some (.int _), some (.int _), some (.int _), some (.int _), some (.int _), some (.int _), none, none, none, none, none, none]) rfl ?_
  refine sw_ic 0 dL_arePurses_27 ?_
  refine sw_istore (i := 8) dL_arePurses_28 (Nat.le_of_ble_eq_true rfl) rfl ?_
  refine sw_lo (lo2 := [some (.ref 0), some (.ref 65), some (.int _), some (.int _), some (.int _), some (.int _), some (.int _), some (.int _), some (.int _), none, none, none, none, none]) rfl ?_
  refine sw_sub ?_ z1
  exact ⟨rfl, rfl, rfl, rfl, rfl, rfl, rfl, rfl, rfl, trivial⟩
