/-! THE SHARE: what the doubles are (own work, written by wip/tools) -/
def shD (p a : Nat) : UInt64 := FP.ddiv (FP.i2d (nI p)) (FP.i2d (nI a))
def chk (v : UInt64) : Bool := Nat.ble 4562146422526312448 v.toNat && Nat.blt v.toNat 4607182418800017409
def chkA (a : Nat) : Nat → Bool
  | 0 => true
  | p + 1 => chk (shD (p + 1) a) && chkA a p
theorem chk_80 : chkA 80 80 = true := by decide +kernel
theorem chk_100 : chkA 100 100 = true := by decide +kernel
theorem chk_120 : chkA 120 120 = true := by decide +kernel
theorem chk_140 : chkA 140 140 = true := by decide +kernel
theorem chk_160 : chkA 160 160 = true := by decide +kernel
theorem chk_180 : chkA 180 180 = true := by decide +kernel
theorem chk_200 : chkA 200 200 = true := by decide +kernel
theorem chk_220 : chkA 220 220 = true := by decide +kernel
theorem chk_240 : chkA 240 240 = true := by decide +kernel
theorem chk_260 : chkA 260 260 = true := by decide +kernel
theorem chk_280 : chkA 280 280 = true := by decide +kernel
theorem chk_300 : chkA 300 300 = true := by decide +kernel
theorem chk_320 : chkA 320 320 = true := by decide +kernel
theorem chk_340 : chkA 340 340 = true := by decide +kernel
theorem chk_360 : chkA 360 360 = true := by decide +kernel
theorem chk_380 : chkA 380 380 = true := by decide +kernel
theorem chk_400 : chkA 400 400 = true := by decide +kernel
theorem chk_420 : chkA 420 420 = true := by decide +kernel
theorem chk_440 : chkA 440 440 = true := by decide +kernel
theorem chk_460 : chkA 460 460 = true := by decide +kernel
theorem chk_480 : chkA 480 480 = true := by decide +kernel
theorem chk_500 : chkA 500 500 = true := by decide +kernel
theorem chk_520 : chkA 520 520 = true := by decide +kernel
theorem chk_540 : chkA 540 540 = true := by decide +kernel
theorem chk_560 : chkA 560 560 = true := by decide +kernel
theorem chk_580 : chkA 580 580 = true := by decide +kernel
theorem chk_600 : chkA 600 600 = true := by decide +kernel
theorem chk_620 : chkA 620 620 = true := by decide +kernel
theorem chk_640 : chkA 640 640 = true := by decide +kernel
theorem chk_660 : chkA 660 660 = true := by decide +kernel
theorem chk_680 : chkA 680 680 = true := by decide +kernel
theorem chk_700 : chkA 700 700 = true := by decide +kernel
theorem chk_720 : chkA 720 720 = true := by decide +kernel
theorem chkA_at {a : Nat} : ∀ n, chkA a n = true → ∀ p, 1 ≤ p → p ≤ n → chk (shD p a) = true
  | 0, _, p, h1, h2 => absurd h1 (by omega)
  | n + 1, h, p, h1, h2 => by
    have h : (chk (shD (n + 1) a) && chkA a n) = true := h
    rw [Bool.and_eq_true] at h
    by_cases e : p = n + 1
    · subst e
      exact h.1
    · exact chkA_at n h.2 p h1 (by omega)
theorem chk_w {w : Nat} (h4 : 4 ≤ w) (h36 : w ≤ 36) : chkA (20 * w) (20 * w) = true := by
  have h : w = 4 ∨ w = 5 ∨ w = 6 ∨ w = 7 ∨ w = 8 ∨ w = 9 ∨ w = 10 ∨ w = 11 ∨ w = 12 ∨ w = 13 ∨ w = 14 ∨ w = 15 ∨ w = 16 ∨ w = 17 ∨ w = 18 ∨ w = 19 ∨ w = 20 ∨ w = 21 ∨ w = 22 ∨ w = 23 ∨ w = 24 ∨ w = 25 ∨ w = 26 ∨ w = 27 ∨ w = 28 ∨ w = 29 ∨ w = 30 ∨ w = 31 ∨ w = 32 ∨ w = 33 ∨ w = 34 ∨ w = 35 ∨ w = 36 := by omega
  rcases h with rfl | rfl | rfl | rfl | rfl | rfl | rfl | rfl | rfl | rfl | rfl | rfl | rfl | rfl | rfl | rfl | rfl | rfl | rfl | rfl | rfl | rfl | rfl | rfl | rfl | rfl | rfl | rfl | rfl | rfl | rfl | rfl | rfl
  · exact chk_80
  · exact chk_100
  · exact chk_120
  · exact chk_140
  · exact chk_160
  · exact chk_180
  · exact chk_200
  · exact chk_220
  · exact chk_240
  · exact chk_260
  · exact chk_280
  · exact chk_300
  · exact chk_320
  · exact chk_340
  · exact chk_360
  · exact chk_380
  · exact chk_400
  · exact chk_420
  · exact chk_440
  · exact chk_460
  · exact chk_480
  · exact chk_500
  · exact chk_520
  · exact chk_540
  · exact chk_560
  · exact chk_580
  · exact chk_600
  · exact chk_620
  · exact chk_640
  · exact chk_660
  · exact chk_680
  · exact chk_700
  · exact chk_720
/-- the bits of a share: its exponent's field is 1013 to 1023 -/
theorem shD_bits {p w : Nat} (h4 : 4 ≤ w) (h36 : w ≤ 36) (h1 : 1 ≤ p) (h2 : p ≤ 20 * w) : ∃ E t, (shD p (20 * w)).toNat = E * 2 ^ 52 + t ∧ t < 2 ^ 52 ∧ 1013 ≤ E ∧ E ≤ 1023 := by
  have h := chkA_at _ (chk_w h4 h36) p h1 h2
  unfold chk at h
  rw [Bool.and_eq_true] at h
  have b1 : 4562146422526312448 ≤ (shD p (20 * w)).toNat := Nat.le_of_ble_eq_true h.1
  have b2 : (shD p (20 * w)).toNat < 4607182418800017409 := Nat.le_of_ble_eq_true h.2
  refine ⟨(shD p (20 * w)).toNat / 2 ^ 52, (shD p (20 * w)).toNat % 2 ^ 52, ?_, Nat.mod_lt _ (by decide), ?_, ?_⟩ <;> omega
theorem shD_le {p w : Nat} (h4 : 4 ≤ w) (h36 : w ≤ 36) (h1 : 1 ≤ p) (h2 : p ≤ 20 * w) : (shD p (20 * w)).toNat ≤ 1023 * 2 ^ 52 := by
  have h := chkA_at _ (chk_w h4 h36) p h1 h2
  unfold chk at h
  rw [Bool.and_eq_true] at h
  have b2 : (shD p (20 * w)).toNat < 4607182418800017409 := Nat.le_of_ble_eq_true h.2
  omega
theorem n64_of {n : Nat} (h : n % 2 ^ 63 ≤ 2047 * 2 ^ 52) : vf_n64 (UInt64.ofNat n) := by
  unfold vf_n64
  rw [UInt64.le_iff_toNat_le, UInt64.toNat_and, UInt64.toNat_ofNat']
  rw [show (0x7fffffffffffffff : UInt64).toNat = 2 ^ 63 - 1 from rfl, show (0x7ff0000000000000 : UInt64).toNat = 2047 * 2 ^ 52 from rfl, Nat.and_two_pow_sub_one_eq_mod]
  omega
theorem asm_eq (s : Bool) (E t : Nat) : FP.Core.assemble FP.Core.b64 s E t = (s.toNat * 2048 + E) * 2 ^ 52 + t := rfl
theorem enc_fin {s : Bool} {c : Nat} {q : Int} (hc : c < 2 ^ 53) (hq : q ≤ 971) : vf_n64 (UInt64.ofNat (FP.Core.encode FP.Core.b64 (.fin s c q))) := by
  refine n64_of ?_
  show (if c < 2 ^ 52 then FP.Core.assemble FP.Core.b64 s 0 c else FP.Core.assemble FP.Core.b64 s ((q - -1074).toNat + 1) (c - 2 ^ 52)) % 2 ^ 63 ≤ _
  have hs : s.toNat ≤ 1 := by cases s <;> decide
  by_cases h : c < 2 ^ 52
  · rw [if_pos h, asm_eq]
    omega
  · rw [if_neg h, asm_eq]
    have : (q - -1074).toNat ≤ 2045 := by omega
    omega
theorem enc_inf (s : Bool) : vf_n64 (UInt64.ofNat (FP.Core.encode FP.Core.b64 (.inf s))) := by
  refine n64_of ?_
  show FP.Core.assemble FP.Core.b64 s 2047 0 % 2 ^ 63 ≤ _
  rw [asm_eq]
  have hs : s.toNat ≤ 1 := by cases s <;> decide
  omega
theorem enc_bound {s : Bool} {c : Nat} {q : Int} (hc : c < 2 ^ 53) : vf_n64 (UInt64.ofNat (FP.Core.encode FP.Core.b64 (FP.Core.bound FP.Core.b64 s c q))) := by
  unfold FP.Core.bound
  by_cases h : q ≤ FP.Core.b64.qmax
  · rw [if_pos h]
    exact enc_fin hc h
  · rw [if_neg h]
    exact enc_inf s
theorem enc_rr (s : Bool) (num den : Nat) (e : Int) : vf_n64 (UInt64.ofNat (FP.Core.encode FP.Core.b64 (FP.Core.roundRatio FP.Core.b64 s num den e))) := by
  unfold FP.Core.roundRatio
  by_cases h : num = 0
  · rw [if_pos h]
    exact enc_fin (by decide) (by decide)
  · rw [if_neg h]
    unfold FP.Core.roundAt FP.Core.settle
    by_cases g : FP.Core.nearest (FP.Core.unitsNum num e (FP.Core.quantum FP.Core.b64 num den e)) (FP.Core.unitsDen den e (FP.Core.quantum FP.Core.b64 num den e)) < 2 ^ FP.Core.b64.p
    · rw [if_pos g]
      exact enc_bound g
    · rw [if_neg g]
      exact enc_bound (by decide)
def f64 (x : UInt64) : Prop := ∃ s c q, FP.Core.decode FP.Core.b64 x.toNat = .fin s c q
theorem n64_mul {x y : UInt64} (hx : f64 x) (hy : f64 y) : vf_n64 (FP.dmul x y) := by
  obtain ⟨s, c, q, h1⟩ := hx
  obtain ⟨t, e, r, h2⟩ := hy
  show vf_n64 (UInt64.ofNat (FP.Core.encode FP.Core.b64 (FP.Core.round FP.Core.b64 (FP.Core.exactProduct (FP.Core.decode FP.Core.b64 x.toNat) (FP.Core.decode FP.Core.b64 y.toNat)))))
  rw [h1, h2]
  exact enc_rr _ _ _ _
theorem n64_sub {x y : UInt64} (hx : f64 x) (hy : f64 y) : vf_n64 (FP.dsub x y) := by
  obtain ⟨s, c, q, h1⟩ := hx
  obtain ⟨t, e, r, h2⟩ := hy
  show vf_n64 (UInt64.ofNat (FP.Core.encode FP.Core.b64 (FP.Core.round FP.Core.b64 (FP.Core.exactSum (FP.Core.decode FP.Core.b64 x.toNat) (FP.Core.negate (FP.Core.decode FP.Core.b64 y.toNat))))))
  rw [h1, h2]
  exact enc_rr _ _ _ _
theorem dec_of {n E t : Nat} (h : n = E * 2 ^ 52 + t) (ht : t < 2 ^ 52) (h1 : 1 ≤ E) (h2 : E ≤ 2046) : FP.Core.decode FP.Core.b64 n = .fin false (2 ^ 52 + t) (-1074 + ((E : Int) - 1)) := by
  have e1 : FP.Core.fieldE FP.Core.b64 n = E := by
    show n / 2 ^ 52 % 2048 = E
    omega
  have e2 : FP.Core.fieldT FP.Core.b64 n = t := by
    show n % 2 ^ 52 = t
    omega
  have e3 : FP.Core.fieldS FP.Core.b64 n = false := by
    show (n / 2 ^ 52 / 2048 % 2 == 1) = false
    have : n / 2 ^ 52 / 2048 % 2 = 0 := by omega
    rw [this]
    rfl
  unfold FP.Core.decode
  rw [e1, e2, e3, if_neg (show ¬ E = FP.Core.b64.exps - 1 by show ¬ E = 2047; omega), if_neg (show ¬ E = 0 by omega)]
  rfl
def two64 : UInt64 := 4611686018427387904
def one64 : UInt64 := FP.dconst1
def big64 : UInt64 := 4841369599423283200
theorem dec_two : FP.Core.decode FP.Core.b64 two64.toNat = .fin false (2 ^ 52) (-51) := by decide +kernel
theorem dec_one : FP.Core.decode FP.Core.b64 one64.toNat = .fin false (2 ^ 52) (-52) := by decide +kernel
theorem dec_big : FP.Core.decode FP.Core.b64 big64.toNat = .fin false (2 ^ 52) 0 := by decide +kernel
theorem dec_zero : FP.Core.decode FP.Core.b64 (0 : UInt64).toNat = .fin false 0 (-1074) := by decide +kernel
theorem f64_of {x : UInt64} {E t : Nat} (h : x.toNat = E * 2 ^ 52 + t) (ht : t < 2 ^ 52) (h1 : 1 ≤ E) (h2 : E ≤ 2046) : f64 x := ⟨_, _, _, dec_of h ht h1 h2⟩
theorem cmp_l {a b : Int} (h : a < b) : compare a b = .lt := by
  show compareOfLessAndEq a b = .lt
  unfold compareOfLessAndEq
  rw [if_pos h]
theorem cmp_g {a b : Int} (h : b < a) : compare a b = .gt := by
  show compareOfLessAndEq a b = .gt
  unfold compareOfLessAndEq
  rw [if_neg (by omega), if_neg (by omega)]
theorem am_log {c : Nat} (h1 : 2 ^ 52 ≤ c) (h2 : c < 2 ^ 53) : (c * 2 ^ 52).log2 = 104 := by
  refine (Nat.log2_eq_iff (by omega)).mpr ⟨?_, ?_⟩ <;> omega
theorem rr_dbl {c : Nat} {e : Int} (h1 : 2 ^ 52 ≤ c) (h2 : c < 2 ^ 53) (h3 : -1126 ≤ e) (h4 : e ≤ 900) : FP.Core.roundRatio FP.Core.b64 false (c * 2 ^ 52) 1 e = .fin false c (e + 52) := by
  have hl : FP.Core.leading (c * 2 ^ 52) 1 = 104 := by
    unfold FP.Core.leading
    rw [am_log h1 h2, show Nat.log2 1 = 0 from rfl]
    show (if 1 * 2 ^ ((104 : Int) - 0).toNat ≤ c * 2 ^ 52 * 2 ^ (-((104 : Int) - 0)).toNat then ((104 : Int) - 0) else (104 : Int) - 0 - 1) = 104
    rw [if_pos (by rw [show ((104 : Int) - 0).toNat = 104 from rfl, show (-((104 : Int) - 0)).toNat = 0 from rfl]; omega)]
    rfl
  have hq : FP.Core.quantum FP.Core.b64 (c * 2 ^ 52) 1 e = e + 52 := by
    unfold FP.Core.quantum
    rw [hl]
    show max (-1074 : Int) (104 + e - ((53 : Int) - 1)) = e + 52
    omega
  unfold FP.Core.roundRatio
  rw [if_neg (by omega), hq]
  unfold FP.Core.roundAt FP.Core.unitsNum FP.Core.unitsDen
  rw [show (e - (e + 52)).toNat = 0 by omega, show (e + 52 - e).toNat = 52 by omega]
  have hn : FP.Core.nearest (c * 2 ^ 52 * 2 ^ 0) (1 * 2 ^ 52) = c := by
    unfold FP.Core.nearest
    rw [if_pos (by omega)]
    omega
  rw [hn]
  unfold FP.Core.settle
  rw [if_pos (show c < 2 ^ FP.Core.b64.p from h2)]
  unfold FP.Core.bound
  rw [if_pos (show e + 52 ≤ FP.Core.b64.qmax by show e + 52 ≤ (971 : Int); omega)]
/-- doubling raises the exponent's field by one -/
theorem dbl_bits {x : UInt64} {E t : Nat} (h : x.toNat = E * 2 ^ 52 + t) (ht : t < 2 ^ 52) (h1 : 1 ≤ E) (h2 : E ≤ 1900) : (FP.dmul x two64).toNat = (E + 1) * 2 ^ 52 + t := by
  have e : FP.dmul x two64 = UInt64.ofNat (FP.Core.encode FP.Core.b64 (FP.Core.round FP.Core.b64 (FP.Core.exactProduct (FP.Core.decode FP.Core.b64 x.toNat) (FP.Core.decode FP.Core.b64 two64.toNat)))) := rfl
  rw [e, dec_of h ht h1 (by omega), dec_two]
  have e2 : FP.Core.round FP.Core.b64 (FP.Core.exactProduct (.fin false (2 ^ 52 + t) (-1074 + ((E : Int) - 1))) (.fin false (2 ^ 52) (-51))) = FP.Core.roundRatio FP.Core.b64 false ((2 ^ 52 + t) * 2 ^ 52) 1 (-1074 + ((E : Int) - 1) + -51) := rfl
  rw [e2, rr_dbl (by omega) (by omega) (by omega) (by omega)]
  have e3 : FP.Core.encode FP.Core.b64 (.fin false (2 ^ 52 + t) (-1074 + ((E : Int) - 1) + -51 + 52)) = (if 2 ^ 52 + t < 2 ^ 52 then FP.Core.assemble FP.Core.b64 false 0 (2 ^ 52 + t) else FP.Core.assemble FP.Core.b64 false ((-1074 + ((E : Int) - 1) + -51 + 52 - -1074).toNat + 1) (2 ^ 52 + t - 2 ^ 52)) := rfl
  rw [e3, if_neg (by omega), asm_eq, show (-1074 + ((E : Int) - 1) + -51 + 52 - -1074).toNat = E by omega, UInt64.toNat_ofNat']
  show ((0 * 2048 + (E + 1)) * 2 ^ 52 + (2 ^ 52 + t - 2 ^ 52)) % 2 ^ 64 = _
  omega
theorem cmp_lt {x : UInt64} {E t : Nat} (h : x.toNat = E * 2 ^ 52 + t) (ht : t < 2 ^ 52) (h1 : 1 ≤ E) (h2 : E ≤ 1022) : FP.dcmp x one64 = some .lt := by
  show FP.Core.order (FP.Core.decode FP.Core.b64 x.toNat) (FP.Core.decode FP.Core.b64 one64.toNat) = _
  rw [dec_of h ht h1 (by omega), dec_one]
  show some (compare (FP.Core.signed false (FP.Core.inUnits (2 ^ 52 + t) (-1074 + ((E : Int) - 1)) (min (-1074 + ((E : Int) - 1)) (-52)))) (FP.Core.signed false (FP.Core.inUnits (2 ^ 52) (-52) (min (-1074 + ((E : Int) - 1)) (-52))))) = _
  rw [show min (-1074 + ((E : Int) - 1)) (-52) = -1074 + ((E : Int) - 1) by omega]
  unfold FP.Core.inUnits
  rw [show (-1074 + ((E : Int) - 1) - (-1074 + ((E : Int) - 1))).toNat = 0 by omega, show ((-52 : Int) - (-1074 + ((E : Int) - 1))).toNat = (1022 - E) + 1 by omega]
  have hp : 1 ≤ 2 ^ (1022 - E) := Nat.one_le_two_pow
  have hm : 2 ^ 52 * 2 ^ (1022 - E + 1) = 2 ^ 53 * 2 ^ (1022 - E) := by
    have hs : 2 ^ (1022 - E + 1) = 2 ^ (1022 - E) * 2 := Nat.pow_succ ..
    rw [hs]
    omega
  rw [hm]
  have hlt : (2 ^ 52 + t) * 2 ^ 0 < 2 ^ 53 * 2 ^ (1022 - E) := by
    have := Nat.mul_le_mul_left (2 ^ 53) hp
    omega
  congr 1
  show compare (((2 ^ 52 + t) * 2 ^ 0 : Nat) : Int) ((2 ^ 53 * 2 ^ (1022 - E) : Nat) : Int) = .lt
  exact cmp_l (Int.ofNat_lt.mpr hlt)
theorem cmp_ge {x : UInt64} {t : Nat} (h : x.toNat = 1023 * 2 ^ 52 + t) (ht : t < 2 ^ 52) : FP.dcmp x one64 = some .eq ∨ FP.dcmp x one64 = some .gt := by
  have e : FP.dcmp x one64 = some (compare (((2 ^ 52 + t) * 2 ^ 0 : Nat) : Int) ((2 ^ 52 * 2 ^ 0 : Nat) : Int)) := by
    show FP.Core.order (FP.Core.decode FP.Core.b64 x.toNat) (FP.Core.decode FP.Core.b64 one64.toNat) = _
    rw [dec_of h ht (by decide) (by decide), dec_one]
    rfl
  rw [e]
  by_cases c : t = 0
  · subst c
    exact Or.inl rfl
  · refine Or.inr (congrArg some ?_)
    exact cmp_g (Int.ofNat_lt.mpr (by omega))
theorem cmp_pos {x : UInt64} {E t : Nat} (h : x.toNat = E * 2 ^ 52 + t) (ht : t < 2 ^ 52) (h1 : 1 ≤ E) (h2 : E ≤ 2046) : FP.dcmp x 0 = some .gt := by
  show FP.Core.order (FP.Core.decode FP.Core.b64 x.toNat) (FP.Core.decode FP.Core.b64 (0 : UInt64).toNat) = _
  rw [dec_of h ht h1 h2, dec_zero]
  show some (compare (FP.Core.signed false (FP.Core.inUnits (2 ^ 52 + t) (-1074 + ((E : Int) - 1)) (min (-1074 + ((E : Int) - 1)) (-1074)))) (FP.Core.signed false (FP.Core.inUnits 0 (-1074) (min (-1074 + ((E : Int) - 1)) (-1074))))) = _
  refine congrArg some (cmp_g ?_)
  have z : FP.Core.inUnits 0 (-1074) (min (-1074 + ((E : Int) - 1)) (-1074)) = 0 := Nat.zero_mul _
  rw [z]
  show ((0 : Nat) : Int) < (((2 ^ 52 + t) * 2 ^ (-1074 + ((E : Int) - 1) - min (-1074 + ((E : Int) - 1)) (-1074)).toNat : Nat) : Int)
  exact Int.ofNat_lt.mpr (Nat.mul_pos (by omega) (Nat.two_pow_pos _))
/-- after j doublings -/
def dbl (v : UInt64) : Nat → UInt64
  | 0 => v
  | j + 1 => FP.dmul (dbl v j) two64
theorem dbl_at {v : UInt64} {E t : Nat} (h : v.toNat = E * 2 ^ 52 + t) (ht : t < 2 ^ 52) (h1 : 1 ≤ E) : ∀ j, E + j ≤ 1900 → (dbl v j).toNat = (E + j) * 2 ^ 52 + t
  | 0, _ => h
  | j + 1, hj => dbl_bits (E := E + j) (dbl_at h ht h1 j (by omega)) ht (by omega) (by omega)
theorem n64_sh {x : UInt64} {E t : Nat} (h : x.toNat = E * 2 ^ 52 + t) (ht : t < 2 ^ 52) (h2 : E ≤ 2046) : vf_n64 x := by
  have e : x = UInt64.ofNat x.toNat := (UInt64.ofNat_toNat).symm
  rw [e]
  refine n64_of ?_
  rw [h]
  omega
