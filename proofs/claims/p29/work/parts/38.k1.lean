/-! THE CONSTRUCTORS (own work, written by wip/tools) -/
/-- rows as the constructors lay them -/
def pu0 : Nat → Int32 := upd (upd (upd (upd (upd (upd (upd (upd (fun _ => 0) 0 (nI 10)) 5 (nI 10)) 10 (nI 10)) 15 (nI 10)) 16 (nI 10)) 21 (nI 10)) 26 (nI 10)) 31 (nI 10)
def wo0 : Nat → Int32 := upd (upd (upd (upd (fun _ => 0) 0 (nI 1)) 1 (nI 2)) 2 (nI 5)) 3 (nI 9)
def pa0 : Nat → Int32 := upd (upd (upd (upd (upd (upd (upd (upd (fun _ => 0) 0 (nI 1)) 1 (nI 2)) 2 (nI 3)) 3 (nI 4)) 4 (nI 5)) 5 (nI 6)) 6 (nI 7)) 7 (nI 0)
def dz0 : Nat → Nat → Int32 := fun c => bif List.elem c [2, 10, 16, 22, 28, 34, 40, 54, 60] then pu0 else bif List.elem c [4, 12, 18, 24, 30, 36, 42, 56, 62] then wo0 else bif List.elem c [5, 13, 19, 25, 31, 37, 43, 57, 63] then pa0 else fun _ => 0
def rz0 : Nat → Nat → Option Nat := fun c => bif Nat.beq c 8 then va_up (va_up (va_up (va_up (va_up (va_up (fun _ => none) 0 (some 9)) 1 (some 15)) 2 (some 21)) 3 (some 27)) 4 (some 33)) 5 (some 39) else bif Nat.beq c 50 then va_up (va_up (fun _ => none) 0 (some 53)) 1 (some 59) else fun _ => none
def jz0 : Nat → Nat → Int64 := fun _ _ => 0
def z0 : Nat → am_E := W0 dz0 rz0 jz0
/-- worlds that agree below N are one world -/
theorem am_w_ext {s : State} {al : am_A} {N : Nat} {aw aw2 : Nat → am_E} {ws : va_W} (h : ∀ k, k < N → aw k = aw2 k) (hw : am_w s al N aw ws) : am_w s al N aw2 ws := ⟨hw.1, hw.2.1, fun k hk => by
  obtain ⟨a, y, h1, h2, h3⟩ := hw.2.2 k hk
  exact ⟨a, y, h1, h2, by rw [← h k hk]; exact h3⟩⟩
/-- the finished fields of an island -/
abbrev isf (b : Nat) : List Value := [.ref (b + 1), .ref (b + 2), .ref (b + 3), .ref (b + 4), .ref (b + 5), .int 0, .int 0, .int 0, .int 0, .int 0, .int 0, .int 0]
theorem am_vs0 {al : am_A} : ∀ {fs : List Value}, (fs.all fun v => match v with | .ref _ => false | _ => true) = true → am_vs al fs fs
  | [], _ => rfl
  | v :: r, h => by
    rw [List.all_cons, Bool.and_eq_true] at h
    refine ⟨v, r, rfl, ?_, am_vs0 h.2⟩
    cases v <;> first | rfl | (exact absurd h.1 (by simp))
set_option maxRecDepth 100000 in
set_option maxHeartbeats 4000000 in
theorem I_1 {aw : Nat → am_E} (hz : ∀ c, 1 ≤ c → c < 7 → aw c = z0 c) : am_AM kX2_init yX2_init 1 [.ref 1] 2 (am_up aw 1 (am_O 1 fs0_X2)) none 7 (aw) 5 108 := by
  refine am_of pl_X2_init (Nat.le_of_ble_eq_true rfl) ?_
  refine sw_aload_n (i := 0) dX2_init_0 rfl rfl ?_
  refine sw_oinit oi_X2_3 (by decide) (Nat.le_of_ble_eq_true rfl) dX2_init_1 ?_
  refine sw_aload_n (i := 0) dX2_init_4 rfl rfl ?_
  refine sw_bi 32 dX2_init_5 (by decide +kernel) ?_
  refine sw_newI (k2 := 4) (n2 := 76) ac_i rfl (fun _ => rfl) (nn := 32) rfl (by decide) (by decide) (by decide) (by decide) (by decide) dX2_init_7 ?_
  refine sw_putR rfl fp_X2_9 (fun _ => ⟨rfl, rfl⟩) (by decide) (fs := fs0_X2) rfl (by decide) dX2_init_9 ?_
  refine sw_weq (aw2 := am_up (am_up (aw) 1 (am_O 1 [.ref 2, .null, .null, .null, .null, .int 0, .int 0, .int 0, .int 0, .int 0, .int 0, .int 0])) 2 (am_I .int 32 (fun _ => 0))) ?_ ?_
  ·
    funext c
    by_cases e1 : c = 1
    · subst e1
      rfl
    by_cases e2 : c = 2
    · subst e2
      rfl
    simp only [am_up_ne _ _ e1, am_up_ne _ _ e2]
  refine sw_aload_n (i := 0) dX2_init_12 rfl rfl ?_
  refine sw_ins (pc2 := 13) rfl rfl ?_
  refine sw_bi 32 dX2_init_13 (by decide +kernel) ?_
  refine sw_newI (k2 := 3) (n2 := 44) ac_i rfl (fun _ => rfl) (nn := 32) rfl (by decide) (by decide) (by decide) (by decide) (by decide) dX2_init_15 ?_
  refine sw_weq (aw2 := am_up (am_up (aw) 1 (am_O 1 [.ref 2, .null, .null, .null, .null, .int 0, .int 0, .int 0, .int 0, .int 0, .int 0, .int 0])) 2 (am_I .int 32 (fun _ => 0))) ?_ ?_
  ·
    funext c
    by_cases e1 : c = 1
    · subst e1
      rfl
    by_cases e2 : c = 2
    · subst e2
      rfl
    by_cases e3 : c = 3
    · subst e3
      exact (hz 3 (by decide) (by decide)).symm
    simp only [am_up_ne _ _ e1, am_up_ne _ _ e2, am_up_ne _ _ e3]
  refine sw_putR rfl fp_X2_15 (fun _ => ⟨rfl, rfl⟩) (by decide) (fs := [.ref 2, .null, .null, .null, .null, .int 0, .int 0, .int 0, .int 0, .int 0, .int 0, .int 0]) rfl (by decide) dX2_init_17 ?_
  refine sw_weq (aw2 := am_up (am_up (aw) 1 (am_O 1 [.ref 2, .ref 3, .null, .null, .null, .int 0, .int 0, .int 0, .int 0, .int 0, .int 0, .int 0])) 2 (am_I .int 32 (fun _ => 0))) ?_ ?_
  ·
    funext c
    by_cases e1 : c = 1
    · subst e1
      rfl
    by_cases e2 : c = 2
    · subst e2
      rfl
    simp only [am_up_ne _ _ e1, am_up_ne _ _ e2]
  refine sw_aload_n (i := 0) dX2_init_20 rfl rfl ?_
  refine sw_ic 4 dX2_init_21 ?_
  refine sw_newI (k2 := 2) (n2 := 40) ac_i rfl (fun _ => rfl) (nn := 4) rfl (by decide) (by decide) (by decide) (by decide) (by decide) dX2_init_22 ?_
  refine sw_putR rfl fp_X2_18 (fun _ => ⟨rfl, rfl⟩) (by decide) (fs := [.ref 2, .ref 3, .null, .null, .null, .int 0, .int 0, .int 0, .int 0, .int 0, .int 0, .int 0]) rfl (by decide) dX2_init_24 ?_
  refine sw_weq (aw2 := am_up (am_up (am_up (aw) 1 (am_O 1 [.ref 2, .ref 3, .ref 4, .null, .null, .int 0, .int 0, .int 0, .int 0, .int 0, .int 0, .int 0])) 2 (am_I .int 32 (fun _ => 0))) 4 (am_I .int 4 (fun _ => 0))) ?_ ?_
  ·
    funext c
    by_cases e1 : c = 1
    · subst e1
      rfl
    by_cases e2 : c = 2
    · subst e2
      rfl
    by_cases e4 : c = 4
    · subst e4
      rfl
    simp only [am_up_ne _ _ e1, am_up_ne _ _ e2, am_up_ne _ _ e4]
  refine sw_aload_n (i := 0) dX2_init_27 rfl rfl ?_
  refine sw_ins (pc2 := 28) rfl rfl ?_
  refine sw_bi 8 dX2_init_28 (by decide +kernel) ?_
  refine sw_newI (k2 := 1) (n2 := 32) ac_i rfl (fun _ => rfl) (nn := 8) rfl (by decide) (by decide) (by decide) (by decide) (by decide) dX2_init_30 ?_
  refine sw_putR rfl fp_X2_21 (fun _ => ⟨rfl, rfl⟩) (by decide) (fs := [.ref 2, .ref 3, .ref 4, .null, .null, .int 0, .int 0, .int 0, .int 0, .int 0, .int 0, .int 0]) rfl (by decide) dX2_init_32 ?_
  refine sw_weq (aw2 := am_up (am_up (am_up (am_up (aw) 1 (am_O 1 [.ref 2, .ref 3, .ref 4, .ref 5, .null, .int 0, .int 0, .int 0, .int 0, .int 0, .int 0, .int 0])) 2 (am_I .int 32 (fun _ => 0))) 4 (am_I .int 4 (fun _ => 0))) 5 (am_I .int 8 (fun _ => 0))) ?_ ?_
  ·
    funext c
    by_cases e1 : c = 1
    · subst e1
      rfl
    by_cases e2 : c = 2
    · subst e2
      rfl
    by_cases e4 : c = 4
    · subst e4
      rfl
    by_cases e5 : c = 5
    · subst e5
      rfl
    simp only [am_up_ne _ _ e1, am_up_ne _ _ e2, am_up_ne _ _ e4, am_up_ne _ _ e5]
  refine sw_aload_n (i := 0) dX2_init_35 rfl rfl ?_
  refine sw_bi 32 dX2_init_36 (by decide +kernel) ?_
  refine sw_newI (k2 := 0) (n2 := 0) ac_i rfl (fun _ => rfl) (nn := 32) rfl (by decide) (by decide) (by decide) (by decide) (by decide) dX2_init_38 ?_
  refine sw_weq (aw2 := am_up (am_up (am_up (am_up (aw) 1 (am_O 1 [.ref 2, .ref 3, .ref 4, .ref 5, .null, .int 0, .int 0, .int 0, .int 0, .int 0, .int 0, .int 0])) 2 (am_I .int 32 (fun _ => 0))) 4 (am_I .int 4 (fun _ => 0))) 5 (am_I .int 8 (fun _ => 0))) ?_ ?_
  ·
    funext c
    by_cases e1 : c = 1
    · subst e1
      rfl
    by_cases e2 : c = 2
    · subst e2
      rfl
    by_cases e4 : c = 4
    · subst e4
      rfl
    by_cases e5 : c = 5
    · subst e5
      rfl
    by_cases e6 : c = 6
    · subst e6
      exact (hz 6 (by decide) (by decide)).symm
    simp only [am_up_ne _ _ e1, am_up_ne _ _ e2, am_up_ne _ _ e4, am_up_ne _ _ e5, am_up_ne _ _ e6]
  refine sw_putR rfl fp_X2_24 (fun _ => ⟨rfl, rfl⟩) (by decide) (fs := [.ref 2, .ref 3, .ref 4, .ref 5, .null, .int 0, .int 0, .int 0, .int 0, .int 0, .int 0, .int 0]) rfl (by decide) dX2_init_40 ?_
  refine sw_weq (aw2 := am_up (am_up (am_up (am_up (aw) 1 (am_O 1 [.ref 2, .ref 3, .ref 4, .ref 5, .ref 6, .int 0, .int 0, .int 0, .int 0, .int 0, .int 0, .int 0])) 2 (am_I .int 32 (fun _ => 0))) 4 (am_I .int 4 (fun _ => 0))) 5 (am_I .int 8 (fun _ => 0))) ?_ ?_
  ·
    funext c
    by_cases e1 : c = 1
    · subst e1
      rfl
    by_cases e2 : c = 2
    · subst e2
      rfl
    by_cases e4 : c = 4
    · subst e4
      rfl
    by_cases e5 : c = 5
    · subst e5
      rfl
    simp only [am_up_ne _ _ e1, am_up_ne _ _ e2, am_up_ne _ _ e4, am_up_ne _ _ e5]
  refine sw_aload_n (i := 0) dX2_init_43 rfl rfl ?_
  refine sw_get (fs := [.ref 2, .ref 3, .ref 4, .ref 5, .ref 6, .int 0, .int 0, .int 0, .int 0, .int 0, .int 0, .int 0]) f_X2_18 (by decide) rfl (v := .ref 4) rfl dX2_init_44 ?_
  refine sw_ic 0 dX2_init_47 ?_
  refine sw_ic 1 dX2_init_48 ?_
  refine sw_iast (0) (by decide) (f := (fun _ => 0)) (nn := 4) rfl rfl (by decide) (by decide) dX2_init_49 ?_
  refine sw_weq (aw2 := am_up (am_up (am_up (am_up (aw) 1 (am_O 1 [.ref 2, .ref 3, .ref 4, .ref 5, .ref 6, .int 0, .int 0, .int 0, .int 0, .int 0, .int 0, .int 0])) 2 (am_I .int 32 (fun _ => 0))) 4 (am_I .int 4 (upd (fun _ => 0) 0 (nI 1)))) 5 (am_I .int 8 (fun _ => 0))) ?_ ?_
  ·
    funext c
    by_cases e1 : c = 1
    · subst e1
      rfl
    by_cases e2 : c = 2
    · subst e2
      rfl
    by_cases e4 : c = 4
    · subst e4
      rfl
    by_cases e5 : c = 5
    · subst e5
      rfl
    simp only [am_up_ne _ _ e1, am_up_ne _ _ e2, am_up_ne _ _ e4, am_up_ne _ _ e5]
  refine sw_aload_n (i := 0) dX2_init_50 rfl rfl ?_
  refine sw_get (fs := [.ref 2, .ref 3, .ref 4, .ref 5, .ref 6, .int 0, .int 0, .int 0, .int 0, .int 0, .int 0, .int 0]) f_X2_18 (by decide) rfl (v := .ref 4) rfl dX2_init_51 ?_
  refine sw_ic 1 dX2_init_54 ?_
  refine sw_ic 2 dX2_init_55 ?_
  refine sw_iast (1) (by decide) (f := (upd (fun _ => 0) 0 (nI 1))) (nn := 4) rfl rfl (by decide) (by decide) dX2_init_56 ?_
  refine sw_weq (aw2 := am_up (am_up (am_up (am_up (aw) 1 (am_O 1 [.ref 2, .ref 3, .ref 4, .ref 5, .ref 6, .int 0, .int 0, .int 0, .int 0, .int 0, .int 0, .int 0])) 2 (am_I .int 32 (fun _ => 0))) 4 (am_I .int 4 (upd (upd (fun _ => 0) 0 (nI 1)) 1 (nI 2)))) 5 (am_I .int 8 (fun _ => 0))) ?_ ?_
  ·
    funext c
    by_cases e1 : c = 1
    · subst e1
      rfl
    by_cases e2 : c = 2
    · subst e2
      rfl
    by_cases e4 : c = 4
    · subst e4
      rfl
    by_cases e5 : c = 5
    · subst e5
      rfl
    simp only [am_up_ne _ _ e1, am_up_ne _ _ e2, am_up_ne _ _ e4, am_up_ne _ _ e5]
  refine sw_aload_n (i := 0) dX2_init_57 rfl rfl ?_
  refine sw_get (fs := [.ref 2, .ref 3, .ref 4, .ref 5, .ref 6, .int 0, .int 0, .int 0, .int 0, .int 0, .int 0, .int 0]) f_X2_18 (by decide) rfl (v := .ref 4) rfl dX2_init_58 ?_
  refine sw_ic 2 dX2_init_61 ?_
  refine sw_ic 5 dX2_init_62 ?_
  refine sw_iast (2) (by decide) (f := (upd (upd (fun _ => 0) 0 (nI 1)) 1 (nI 2))) (nn := 4) rfl rfl (by decide) (by decide) dX2_init_63 ?_
  refine sw_weq (aw2 := am_up (am_up (am_up (am_up (aw) 1 (am_O 1 [.ref 2, .ref 3, .ref 4, .ref 5, .ref 6, .int 0, .int 0, .int 0, .int 0, .int 0, .int 0, .int 0])) 2 (am_I .int 32 (fun _ => 0))) 4 (am_I .int 4 (upd (upd (upd (fun _ => 0) 0 (nI 1)) 1 (nI 2)) 2 (nI 5)))) 5 (am_I .int 8 (fun _ => 0))) ?_ ?_
  ·
    funext c
    by_cases e1 : c = 1
    · subst e1
      rfl
    by_cases e2 : c = 2
    · subst e2
      rfl
    by_cases e4 : c = 4
    · subst e4
      rfl
    by_cases e5 : c = 5
    · subst e5
      rfl
    simp only [am_up_ne _ _ e1, am_up_ne _ _ e2, am_up_ne _ _ e4, am_up_ne _ _ e5]
  refine sw_aload_n (i := 0) dX2_init_64 rfl rfl ?_
  refine sw_get (fs := [.ref 2, .ref 3, .ref 4, .ref 5, .ref 6, .int 0, .int 0, .int 0, .int 0, .int 0, .int 0, .int 0]) f_X2_18 (by decide) rfl (v := .ref 4) rfl dX2_init_65 ?_
  refine sw_ins (pc2 := 68) rfl rfl ?_
  refine sw_ic 3 dX2_init_68 ?_
  refine sw_bi 9 dX2_init_69 (by decide +kernel) ?_
  refine sw_iast (3) (by decide) (f := (upd (upd (upd (fun _ => 0) 0 (nI 1)) 1 (nI 2)) 2 (nI 5))) (nn := 4) rfl rfl (by decide) (by decide) dX2_init_71 ?_
  refine sw_weq (aw2 := am_up (am_up (am_up (am_up (aw) 1 (am_O 1 [.ref 2, .ref 3, .ref 4, .ref 5, .ref 6, .int 0, .int 0, .int 0, .int 0, .int 0, .int 0, .int 0])) 2 (am_I .int 32 (fun _ => 0))) 4 (am_I .int 4 (upd (upd (upd (upd (fun _ => 0) 0 (nI 1)) 1 (nI 2)) 2 (nI 5)) 3 (nI 9)))) 5 (am_I .int 8 (fun _ => 0))) ?_ ?_
  ·
    funext c
    by_cases e1 : c = 1
    · subst e1
      rfl
    by_cases e2 : c = 2
    · subst e2
      rfl
    by_cases e4 : c = 4
    · subst e4
      rfl
    by_cases e5 : c = 5
    · subst e5
      rfl
    simp only [am_up_ne _ _ e1, am_up_ne _ _ e2, am_up_ne _ _ e4, am_up_ne _ _ e5]
  refine sw_ic 0 dX2_init_72 ?_
  refine sw_istore_n (i := 1) dX2_init_73 rfl (Nat.le_of_ble_eq_true rfl) rfl ?_
  refine sw_lo (lo2 := [some (.ref 1), some (.int _)]) rfl ?_
  refine sw_iload_n (i := 1) dX2_init_74 rfl rfl ?_
  refine sw_bi 8 dX2_init_75 (by decide +kernel) ?_
  refine sw_ic_ge (tgt := 112) dX2_init_77 rfl (fun h9 => absurd h9 (by decide)) (fun _ => ?_)
  refine sw_ins (pc2 := 80) rfl rfl ?_
  refine sw_aload_n (i := 0) dX2_init_80 rfl rfl ?_
  refine sw_get (fs := [.ref 2, .ref 3, .ref 4, .ref 5, .ref 6, .int 0, .int 0, .int 0, .int 0, .int 0, .int 0, .int 0]) f_X2_9 (by decide) rfl (v := .ref 2) rfl dX2_init_81 ?_
  refine sw_iload_n (i := 1) dX2_init_84 rfl rfl ?_
  refine sw_ic 4 dX2_init_85 ?_
  refine sw_imul dX2_init_86 ?_
  refine sw_topE (v := nI 0) (by decide) ?_
  refine sw_iload_n (i := 1) dX2_init_87 rfl rfl ?_
  refine sw_ic 4 dX2_init_88 ?_
  refine sw_irem (by decide) dX2_init_89 ?_
  refine sw_topE (v := nI 0) (by decide) ?_
  refine sw_ins (pc2 := 90) rfl rfl ?_
  refine sw_iadd dX2_init_90 ?_
  refine sw_topE (v := nI 0) (by decide) ?_
  refine sw_bi 10 dX2_init_91 (by decide +kernel) ?_
  refine sw_iast (0) (by decide) (f := (fun _ => 0)) (nn := 32) rfl rfl (by decide) (by decide) dX2_init_93 ?_
  refine sw_weq (aw2 := am_up (am_up (am_up (am_up (aw) 1 (am_O 1 [.ref 2, .ref 3, .ref 4, .ref 5, .ref 6, .int 0, .int 0, .int 0, .int 0, .int 0, .int 0, .int 0])) 2 (am_I .int 32 (upd (fun _ => 0) 0 (nI 10)))) 4 (am_I .int 4 (upd (upd (upd (upd (fun _ => 0) 0 (nI 1)) 1 (nI 2)) 2 (nI 5)) 3 (nI 9)))) 5 (am_I .int 8 (fun _ => 0))) ?_ ?_
  ·
    funext c
    by_cases e1 : c = 1
    · subst e1
      rfl
    by_cases e2 : c = 2
    · subst e2
      rfl
    by_cases e4 : c = 4
    · subst e4
      rfl
    by_cases e5 : c = 5
    · subst e5
      rfl
    simp only [am_up_ne _ _ e1, am_up_ne _ _ e2, am_up_ne _ _ e4, am_up_ne _ _ e5]
  refine sw_aload_n (i := 0) dX2_init_94 rfl rfl ?_
  refine sw_get (fs := [.ref 2, .ref 3, .ref 4, .ref 5, .ref 6, .int 0, .int 0, .int 0, .int 0, .int 0, .int 0, .int 0]) f_X2_21 (by decide) rfl (v := .ref 5) rfl dX2_init_95 ?_
  refine sw_iload_n (i := 1) dX2_init_98 rfl rfl ?_
  refine sw_iload_n (i := 1) dX2_init_99 rfl rfl ?_
  refine sw_ic 1 dX2_init_100 ?_
  refine sw_ins (pc2 := 101) rfl rfl ?_
  refine sw_iadd dX2_init_101 ?_
  refine sw_topE (v := nI 1) (by decide) ?_
  refine sw_bi 8 dX2_init_102 (by decide +kernel) ?_
  refine sw_irem (by decide) dX2_init_104 ?_
  refine sw_topE (v := nI 1) (by decide) ?_
  refine sw_iast (0) (by decide) (f := (fun _ => 0)) (nn := 8) rfl rfl (by decide) (by decide) dX2_init_105 ?_
  refine sw_weq (aw2 := am_up (am_up (am_up (am_up (aw) 1 (am_O 1 [.ref 2, .ref 3, .ref 4, .ref 5, .ref 6, .int 0, .int 0, .int 0, .int 0, .int 0, .int 0, .int 0])) 2 (am_I .int 32 (upd (fun _ => 0) 0 (nI 10)))) 4 (am_I .int 4 (upd (upd (upd (upd (fun _ => 0) 0 (nI 1)) 1 (nI 2)) 2 (nI 5)) 3 (nI 9)))) 5 (am_I .int 8 (upd (fun _ => 0) 0 (nI 1)))) ?_ ?_
  ·
    funext c
    by_cases e1 : c = 1
    · subst e1
      rfl
    by_cases e2 : c = 2
    · subst e2
      rfl
    by_cases e4 : c = 4
    · subst e4
      rfl
    by_cases e5 : c = 5
    · subst e5
      rfl
    simp only [am_up_ne _ _ e1, am_up_ne _ _ e2, am_up_ne _ _ e4, am_up_ne _ _ e5]
  refine sw_iinc (i := 1) (v := nI 1) dX2_init_106 rfl (by decide) (Nat.le_of_ble_eq_true rfl) rfl ?_
  refine sw_lo (lo2 := [some (.ref 1), some (.int _)]) rfl ?_
  refine sw_goto (tgt := 74) dX2_init_109 rfl ?_
  refine sw_iload_n (i := 1) dX2_init_74 rfl rfl ?_
  refine sw_bi 8 dX2_init_75 (by decide +kernel) ?_
  refine sw_ins (pc2 := 77) rfl rfl ?_
  refine sw_ic_ge (tgt := 112) dX2_init_77 rfl (fun h9 => absurd h9 (by decide)) (fun _ => ?_)
  refine sw_aload_n (i := 0) dX2_init_80 rfl rfl ?_
  refine sw_get (fs := [.ref 2, .ref 3, .ref 4, .ref 5, .ref 6, .int 0, .int 0, .int 0, .int 0, .int 0, .int 0, .int 0]) f_X2_9 (by decide) rfl (v := .ref 2) rfl dX2_init_81 ?_
  refine sw_iload_n (i := 1) dX2_init_84 rfl rfl ?_
  refine sw_ic 4 dX2_init_85 ?_
  refine sw_imul dX2_init_86 ?_
  refine sw_topE (v := nI 4) (by decide) ?_
  refine sw_iload_n (i := 1) dX2_init_87 rfl rfl ?_
  refine sw_ic 4 dX2_init_88 ?_
  refine sw_irem (by decide) dX2_init_89 ?_
  refine sw_topE (v := nI 1) (by decide) ?_
  refine sw_iadd dX2_init_90 ?_
  refine sw_topE (v := nI 5) (by decide) ?_
  refine sw_bi 10 dX2_init_91 (by decide +kernel) ?_
  refine sw_iast (5) (by decide) (f := (upd (fun _ => 0) 0 (nI 10))) (nn := 32) rfl rfl (by decide) (by decide) dX2_init_93 ?_
  refine sw_weq (aw2 := am_up (am_up (am_up (am_up (aw) 1 (am_O 1 [.ref 2, .ref 3, .ref 4, .ref 5, .ref 6, .int 0, .int 0, .int 0, .int 0, .int 0, .int 0, .int 0])) 2 (am_I .int 32 (upd (upd (fun _ => 0) 0 (nI 10)) 5 (nI 10)))) 4 (am_I .int 4 (upd (upd (upd (upd (fun _ => 0) 0 (nI 1)) 1 (nI 2)) 2 (nI 5)) 3 (nI 9)))) 5 (am_I .int 8 (upd (fun _ => 0) 0 (nI 1)))) ?_ ?_
  ·
    funext c
    by_cases e1 : c = 1
    · subst e1
      rfl
    by_cases e2 : c = 2
    · subst e2
      rfl
    by_cases e4 : c = 4
    · subst e4
      rfl
    by_cases e5 : c = 5
    · subst e5
      rfl
    simp only [am_up_ne _ _ e1, am_up_ne _ _ e2, am_up_ne _ _ e4, am_up_ne _ _ e5]
  refine sw_aload_n (i := 0) dX2_init_94 rfl rfl ?_
  refine sw_get (fs := [.ref 2, .ref 3, .ref 4, .ref 5, .ref 6, .int 0, .int 0, .int 0, .int 0, .int 0, .int 0, .int 0]) f_X2_21 (by decide) rfl (v := .ref 5) rfl dX2_init_95 ?_
  refine sw_iload_n (i := 1) dX2_init_98 rfl rfl ?_
  refine sw_iload_n (i := 1) dX2_init_99 rfl rfl ?_
  refine sw_ins (pc2 := 100) rfl rfl ?_
  refine sw_ic 1 dX2_init_100 ?_
  refine sw_iadd dX2_init_101 ?_
  refine sw_topE (v := nI 2) (by decide) ?_
  refine sw_bi 8 dX2_init_102 (by decide +kernel) ?_
  refine sw_irem (by decide) dX2_init_104 ?_
  refine sw_topE (v := nI 2) (by decide) ?_
  refine sw_iast (1) (by decide) (f := (upd (fun _ => 0) 0 (nI 1))) (nn := 8) rfl rfl (by decide) (by decide) dX2_init_105 ?_
  refine sw_weq (aw2 := am_up (am_up (am_up (am_up (aw) 1 (am_O 1 [.ref 2, .ref 3, .ref 4, .ref 5, .ref 6, .int 0, .int 0, .int 0, .int 0, .int 0, .int 0, .int 0])) 2 (am_I .int 32 (upd (upd (fun _ => 0) 0 (nI 10)) 5 (nI 10)))) 4 (am_I .int 4 (upd (upd (upd (upd (fun _ => 0) 0 (nI 1)) 1 (nI 2)) 2 (nI 5)) 3 (nI 9)))) 5 (am_I .int 8 (upd (upd (fun _ => 0) 0 (nI 1)) 1 (nI 2)))) ?_ ?_
  ·
    funext c
    by_cases e1 : c = 1
    · subst e1
      rfl
    by_cases e2 : c = 2
    · subst e2
      rfl
    by_cases e4 : c = 4
    · subst e4
      rfl
    by_cases e5 : c = 5
    · subst e5
      rfl
    simp only [am_up_ne _ _ e1, am_up_ne _ _ e2, am_up_ne _ _ e4, am_up_ne _ _ e5]
  refine sw_iinc (i := 1) (v := nI 2) dX2_init_106 rfl (by decide) (Nat.le_of_ble_eq_true rfl) rfl ?_
  refine sw_lo (lo2 := [some (.ref 1), some (.int _)]) rfl ?_
  refine sw_goto (tgt := 74) dX2_init_109 rfl ?_
  refine sw_iload_n (i := 1) dX2_init_74 rfl rfl ?_
  refine sw_ins (pc2 := 75) rfl rfl ?_
  refine sw_bi 8 dX2_init_75 (by decide +kernel) ?_
  refine sw_ic_ge (tgt := 112) dX2_init_77 rfl (fun h9 => absurd h9 (by decide)) (fun _ => ?_)
  refine sw_aload_n (i := 0) dX2_init_80 rfl rfl ?_
  refine sw_get (fs := [.ref 2, .ref 3, .ref 4, .ref 5, .ref 6, .int 0, .int 0, .int 0, .int 0, .int 0, .int 0, .int 0]) f_X2_9 (by decide) rfl (v := .ref 2) rfl dX2_init_81 ?_
  refine sw_iload_n (i := 1) dX2_init_84 rfl rfl ?_
  refine sw_ic 4 dX2_init_85 ?_
  refine sw_imul dX2_init_86 ?_
  refine sw_topE (v := nI 8) (by decide) ?_
  refine sw_iload_n (i := 1) dX2_init_87 rfl rfl ?_
  refine sw_ins (pc2 := 88) rfl rfl ?_
  refine sw_ic 4 dX2_init_88 ?_
  refine sw_irem (by decide) dX2_init_89 ?_
  refine sw_topE (v := nI 2) (by decide) ?_
  refine sw_iadd dX2_init_90 ?_
  refine sw_topE (v := nI 10) (by decide) ?_
  refine sw_bi 10 dX2_init_91 (by decide +kernel) ?_
  refine sw_iast (10) (by decide) (f := (upd (upd (fun _ => 0) 0 (nI 10)) 5 (nI 10))) (nn := 32) rfl rfl (by decide) (by decide) dX2_init_93 ?_
  refine sw_weq (aw2 := am_up (am_up (am_up (am_up (aw) 1 (am_O 1 [.ref 2, .ref 3, .ref 4, .ref 5, .ref 6, .int 0, .int 0, .int 0, .int 0, .int 0, .int 0, .int 0])) 2 (am_I .int 32 (upd (upd (upd (fun _ => 0) 0 (nI 10)) 5 (nI 10)) 10 (nI 10)))) 4 (am_I .int 4 (upd (upd (upd (upd (fun _ => 0) 0 (nI 1)) 1 (nI 2)) 2 (nI 5)) 3 (nI 9)))) 5 (am_I .int 8 (upd (upd (fun _ => 0) 0 (nI 1)) 1 (nI 2)))) ?_ ?_
  ·
    funext c
    by_cases e1 : c = 1
    · subst e1
      rfl
    by_cases e2 : c = 2
    · subst e2
      rfl
    by_cases e4 : c = 4
    · subst e4
      rfl
    by_cases e5 : c = 5
    · subst e5
      rfl
    simp only [am_up_ne _ _ e1, am_up_ne _ _ e2, am_up_ne _ _ e4, am_up_ne _ _ e5]
  refine sw_aload_n (i := 0) dX2_init_94 rfl rfl ?_
  refine sw_get (fs := [.ref 2, .ref 3, .ref 4, .ref 5, .ref 6, .int 0, .int 0, .int 0, .int 0, .int 0, .int 0, .int 0]) f_X2_21 (by decide) rfl (v := .ref 5) rfl dX2_init_95 ?_
  refine sw_iload_n (i := 1) dX2_init_98 rfl rfl ?_
  refine sw_ins (pc2 := 99) rfl rfl ?_
  refine sw_iload_n (i := 1) dX2_init_99 rfl rfl ?_
  refine sw_ic 1 dX2_init_100 ?_
  refine sw_iadd dX2_init_101 ?_
  refine sw_topE (v := nI 3) (by decide) ?_
  refine sw_bi 8 dX2_init_102 (by decide +kernel) ?_
  refine sw_irem (by decide) dX2_init_104 ?_
  refine sw_topE (v := nI 3) (by decide) ?_
  refine sw_iast (2) (by decide) (f := (upd (upd (fun _ => 0) 0 (nI 1)) 1 (nI 2))) (nn := 8) rfl rfl (by decide) (by decide) dX2_init_105 ?_
  refine sw_weq (aw2 := am_up (am_up (am_up (am_up (aw) 1 (am_O 1 [.ref 2, .ref 3, .ref 4, .ref 5, .ref 6, .int 0, .int 0, .int 0, .int 0, .int 0, .int 0, .int 0])) 2 (am_I .int 32 (upd (upd (upd (fun _ => 0) 0 (nI 10)) 5 (nI 10)) 10 (nI 10)))) 4 (am_I .int 4 (upd (upd (upd (upd (fun _ => 0) 0 (nI 1)) 1 (nI 2)) 2 (nI 5)) 3 (nI 9)))) 5 (am_I .int 8 (upd (upd (upd (fun _ => 0) 0 (nI 1)) 1 (nI 2)) 2 (nI 3)))) ?_ ?_
  ·
    funext c
    by_cases e1 : c = 1
    · subst e1
      rfl
    by_cases e2 : c = 2
    · subst e2
      rfl
    by_cases e4 : c = 4
    · subst e4
      rfl
    by_cases e5 : c = 5
    · subst e5
      rfl
    simp only [am_up_ne _ _ e1, am_up_ne _ _ e2, am_up_ne _ _ e4, am_up_ne _ _ e5]
  refine sw_iinc (i := 1) (v := nI 3) dX2_init_106 rfl (by decide) (Nat.le_of_ble_eq_true rfl) rfl ?_
  refine sw_lo (lo2 := [some (.ref 1), some (.int _)]) rfl ?_
  refine sw_goto (tgt := 74) dX2_init_109 rfl ?_
  refine sw_ins (pc2 := 74) rfl rfl ?_
  refine sw_iload_n (i := 1) dX2_init_74 rfl rfl ?_
  refine sw_bi 8 dX2_init_75 (by decide +kernel) ?_
  refine sw_ic_ge (tgt := 112) dX2_init_77 rfl (fun h9 => absurd h9 (by decide)) (fun _ => ?_)
  refine sw_aload_n (i := 0) dX2_init_80 rfl rfl ?_
  refine sw_get (fs := [.ref 2, .ref 3, .ref 4, .ref 5, .ref 6, .int 0, .int 0, .int 0, .int 0, .int 0, .int 0, .int 0]) f_X2_9 (by decide) rfl (v := .ref 2) rfl dX2_init_81 ?_
  refine sw_iload_n (i := 1) dX2_init_84 rfl rfl ?_
  refine sw_ic 4 dX2_init_85 ?_
  refine sw_imul dX2_init_86 ?_
  refine sw_topE (v := nI 12) (by decide) ?_
  refine sw_ins (pc2 := 87) rfl rfl ?_
  refine sw_iload_n (i := 1) dX2_init_87 rfl rfl ?_
  refine sw_ic 4 dX2_init_88 ?_
  refine sw_irem (by decide) dX2_init_89 ?_
  refine sw_topE (v := nI 3) (by decide) ?_
  refine sw_iadd dX2_init_90 ?_
  refine sw_topE (v := nI 15) (by decide) ?_
  refine sw_bi 10 dX2_init_91 (by decide +kernel) ?_
  refine sw_iast (15) (by decide) (f := (upd (upd (upd (fun _ => 0) 0 (nI 10)) 5 (nI 10)) 10 (nI 10))) (nn := 32) rfl rfl (by decide) (by decide) dX2_init_93 ?_
  refine sw_weq (aw2 := am_up (am_up (am_up (am_up (aw) 1 (am_O 1 [.ref 2, .ref 3, .ref 4, .ref 5, .ref 6, .int 0, .int 0, .int 0, .int 0, .int 0, .int 0, .int 0])) 2 (am_I .int 32 (upd (upd (upd (upd (fun _ => 0) 0 (nI 10)) 5 (nI 10)) 10 (nI 10)) 15 (nI 10)))) 4 (am_I .int 4 (upd (upd (upd (upd (fun _ => 0) 0 (nI 1)) 1 (nI 2)) 2 (nI 5)) 3 (nI 9)))) 5 (am_I .int 8 (upd (upd (upd (fun _ => 0) 0 (nI 1)) 1 (nI 2)) 2 (nI 3)))) ?_ ?_
  ·
    funext c
    by_cases e1 : c = 1
    · subst e1
      rfl
    by_cases e2 : c = 2
    · subst e2
      rfl
    by_cases e4 : c = 4
    · subst e4
      rfl
    by_cases e5 : c = 5
    · subst e5
      rfl
    simp only [am_up_ne _ _ e1, am_up_ne _ _ e2, am_up_ne _ _ e4, am_up_ne _ _ e5]
  refine sw_aload_n (i := 0) dX2_init_94 rfl rfl ?_
  refine sw_get (fs := [.ref 2, .ref 3, .ref 4, .ref 5, .ref 6, .int 0, .int 0, .int 0, .int 0, .int 0, .int 0, .int 0]) f_X2_21 (by decide) rfl (v := .ref 5) rfl dX2_init_95 ?_
  refine sw_ins (pc2 := 98) rfl rfl ?_
  refine sw_iload_n (i := 1) dX2_init_98 rfl rfl ?_
  refine sw_iload_n (i := 1) dX2_init_99 rfl rfl ?_
  refine sw_ic 1 dX2_init_100 ?_
  refine sw_iadd dX2_init_101 ?_
  refine sw_topE (v := nI 4) (by decide) ?_
  refine sw_bi 8 dX2_init_102 (by decide +kernel) ?_
  refine sw_irem (by decide) dX2_init_104 ?_
  refine sw_topE (v := nI 4) (by decide) ?_
  refine sw_iast (3) (by decide) (f := (upd (upd (upd (fun _ => 0) 0 (nI 1)) 1 (nI 2)) 2 (nI 3))) (nn := 8) rfl rfl (by decide) (by decide) dX2_init_105 ?_
  refine sw_weq (aw2 := am_up (am_up (am_up (am_up (aw) 1 (am_O 1 [.ref 2, .ref 3, .ref 4, .ref 5, .ref 6, .int 0, .int 0, .int 0, .int 0, .int 0, .int 0, .int 0])) 2 (am_I .int 32 (upd (upd (upd (upd (fun _ => 0) 0 (nI 10)) 5 (nI 10)) 10 (nI 10)) 15 (nI 10)))) 4 (am_I .int 4 (upd (upd (upd (upd (fun _ => 0) 0 (nI 1)) 1 (nI 2)) 2 (nI 5)) 3 (nI 9)))) 5 (am_I .int 8 (upd (upd (upd (upd (fun _ => 0) 0 (nI 1)) 1 (nI 2)) 2 (nI 3)) 3 (nI 4)))) ?_ ?_
  ·
    funext c
    by_cases e1 : c = 1
    · subst e1
      rfl
    by_cases e2 : c = 2
    · subst e2
      rfl
    by_cases e4 : c = 4
    · subst e4
      rfl
    by_cases e5 : c = 5
    · subst e5
      rfl
    simp only [am_up_ne _ _ e1, am_up_ne _ _ e2, am_up_ne _ _ e4, am_up_ne _ _ e5]
  refine sw_iinc (i := 1) (v := nI 4) dX2_init_106 rfl (by decide) (Nat.le_of_ble_eq_true rfl) rfl ?_
  refine sw_lo (lo2 := [some (.ref 1), some (.int _)]) rfl ?_
  refine sw_ins (pc2 := 109) rfl rfl ?_
  refine sw_goto (tgt := 74) dX2_init_109 rfl ?_
  refine sw_iload_n (i := 1) dX2_init_74 rfl rfl ?_
  refine sw_bi 8 dX2_init_75 (by decide +kernel) ?_
  refine sw_ic_ge (tgt := 112) dX2_init_77 rfl (fun h9 => absurd h9 (by decide)) (fun _ => ?_)
  refine sw_aload_n (i := 0) dX2_init_80 rfl rfl ?_
  refine sw_get (fs := [.ref 2, .ref 3, .ref 4, .ref 5, .ref 6, .int 0, .int 0, .int 0, .int 0, .int 0, .int 0, .int 0]) f_X2_9 (by decide) rfl (v := .ref 2) rfl dX2_init_81 ?_
  refine sw_iload_n (i := 1) dX2_init_84 rfl rfl ?_
  refine sw_ic 4 dX2_init_85 ?_
  refine sw_ins (pc2 := 86) rfl rfl ?_
  refine sw_imul dX2_init_86 ?_
  refine sw_topE (v := nI 16) (by decide) ?_
  refine sw_iload_n (i := 1) dX2_init_87 rfl rfl ?_
  refine sw_ic 4 dX2_init_88 ?_
  refine sw_irem (by decide) dX2_init_89 ?_
  refine sw_topE (v := nI 0) (by decide) ?_
  refine sw_iadd dX2_init_90 ?_
  refine sw_topE (v := nI 16) (by decide) ?_
  refine sw_bi 10 dX2_init_91 (by decide +kernel) ?_
  refine sw_iast (16) (by decide) (f := (upd (upd (upd (upd (fun _ => 0) 0 (nI 10)) 5 (nI 10)) 10 (nI 10)) 15 (nI 10))) (nn := 32) rfl rfl (by decide) (by decide) dX2_init_93 ?_
  refine sw_weq (aw2 := am_up (am_up (am_up (am_up (aw) 1 (am_O 1 [.ref 2, .ref 3, .ref 4, .ref 5, .ref 6, .int 0, .int 0, .int 0, .int 0, .int 0, .int 0, .int 0])) 2 (am_I .int 32 (upd (upd (upd (upd (upd (fun _ => 0) 0 (nI 10)) 5 (nI 10)) 10 (nI 10)) 15 (nI 10)) 16 (nI 10)))) 4 (am_I .int 4 (upd (upd (upd (upd (fun _ => 0) 0 (nI 1)) 1 (nI 2)) 2 (nI 5)) 3 (nI 9)))) 5 (am_I .int 8 (upd (upd (upd (upd (fun _ => 0) 0 (nI 1)) 1 (nI 2)) 2 (nI 3)) 3 (nI 4)))) ?_ ?_
  ·
    funext c
    by_cases e1 : c = 1
    · subst e1
      rfl
    by_cases e2 : c = 2
    · subst e2
      rfl
    by_cases e4 : c = 4
    · subst e4
      rfl
    by_cases e5 : c = 5
    · subst e5
      rfl
    simp only [am_up_ne _ _ e1, am_up_ne _ _ e2, am_up_ne _ _ e4, am_up_ne _ _ e5]
  refine sw_aload_n (i := 0) dX2_init_94 rfl rfl ?_
  refine sw_get (fs := [.ref 2, .ref 3, .ref 4, .ref 5, .ref 6, .int 0, .int 0, .int 0, .int 0, .int 0, .int 0, .int 0]) f_X2_21 (by decide) rfl (v := .ref 5) rfl dX2_init_95 ?_
  refine sw_iload_n (i := 1) dX2_init_98 rfl rfl ?_
  refine sw_iload_n (i := 1) dX2_init_99 rfl rfl ?_
  refine sw_ic 1 dX2_init_100 ?_
  refine sw_iadd dX2_init_101 ?_
  refine sw_topE (v := nI 5) (by decide) ?_
  refine sw_bi 8 dX2_init_102 (by decide +kernel) ?_
  refine sw_irem (by decide) dX2_init_104 ?_
  refine sw_topE (v := nI 5) (by decide) ?_
  refine sw_iast (4) (by decide) (f := (upd (upd (upd (upd (fun _ => 0) 0 (nI 1)) 1 (nI 2)) 2 (nI 3)) 3 (nI 4))) (nn := 8) rfl rfl (by decide) (by decide) dX2_init_105 ?_
  refine sw_weq (aw2 := am_up (am_up (am_up (am_up (aw) 1 (am_O 1 [.ref 2, .ref 3, .ref 4, .ref 5, .ref 6, .int 0, .int 0, .int 0, .int 0, .int 0, .int 0, .int 0])) 2 (am_I .int 32 (upd (upd (upd (upd (upd (fun _ => 0) 0 (nI 10)) 5 (nI 10)) 10 (nI 10)) 15 (nI 10)) 16 (nI 10)))) 4 (am_I .int 4 (upd (upd (upd (upd (fun _ => 0) 0 (nI 1)) 1 (nI 2)) 2 (nI 5)) 3 (nI 9)))) 5 (am_I .int 8 (upd (upd (upd (upd (upd (fun _ => 0) 0 (nI 1)) 1 (nI 2)) 2 (nI 3)) 3 (nI 4)) 4 (nI 5)))) ?_ ?_
  ·
    funext c
    by_cases e1 : c = 1
    · subst e1
      rfl
    by_cases e2 : c = 2
    · subst e2
      rfl
    by_cases e4 : c = 4
    · subst e4
      rfl
    by_cases e5 : c = 5
    · subst e5
      rfl
    simp only [am_up_ne _ _ e1, am_up_ne _ _ e2, am_up_ne _ _ e4, am_up_ne _ _ e5]
  refine sw_ins (pc2 := 106) rfl rfl ?_
  refine sw_iinc (i := 1) (v := nI 5) dX2_init_106 rfl (by decide) (Nat.le_of_ble_eq_true rfl) rfl ?_
  refine sw_lo (lo2 := [some (.ref 1), some (.int _)]) rfl ?_
  refine sw_goto (tgt := 74) dX2_init_109 rfl ?_
  refine sw_iload_n (i := 1) dX2_init_74 rfl rfl ?_
  refine sw_bi 8 dX2_init_75 (by decide +kernel) ?_
  refine sw_ic_ge (tgt := 112) dX2_init_77 rfl (fun h9 => absurd h9 (by decide)) (fun _ => ?_)
  refine sw_aload_n (i := 0) dX2_init_80 rfl rfl ?_
  refine sw_get (fs := [.ref 2, .ref 3, .ref 4, .ref 5, .ref 6, .int 0, .int 0, .int 0, .int 0, .int 0, .int 0, .int 0]) f_X2_9 (by decide) rfl (v := .ref 2) rfl dX2_init_81 ?_
  refine sw_iload_n (i := 1) dX2_init_84 rfl rfl ?_
  refine sw_ins (pc2 := 85) rfl rfl ?_
  refine sw_ic 4 dX2_init_85 ?_
  refine sw_imul dX2_init_86 ?_
  refine sw_topE (v := nI 20) (by decide) ?_
  refine sw_iload_n (i := 1) dX2_init_87 rfl rfl ?_
  refine sw_ic 4 dX2_init_88 ?_
  refine sw_irem (by decide) dX2_init_89 ?_
  refine sw_topE (v := nI 1) (by decide) ?_
  refine sw_iadd dX2_init_90 ?_
  refine sw_topE (v := nI 21) (by decide) ?_
  refine sw_bi 10 dX2_init_91 (by decide +kernel) ?_
  refine sw_iast (21) (by decide) (f := (upd (upd (upd (upd (upd (fun _ => 0) 0 (nI 10)) 5 (nI 10)) 10 (nI 10)) 15 (nI 10)) 16 (nI 10))) (nn := 32) rfl rfl (by decide) (by decide) dX2_init_93 ?_
  refine sw_weq (aw2 := am_up (am_up (am_up (am_up (aw) 1 (am_O 1 [.ref 2, .ref 3, .ref 4, .ref 5, .ref 6, .int 0, .int 0, .int 0, .int 0, .int 0, .int 0, .int 0])) 2 (am_I .int 32 (upd (upd (upd (upd (upd (upd (fun _ => 0) 0 (nI 10)) 5 (nI 10)) 10 (nI 10)) 15 (nI 10)) 16 (nI 10)) 21 (nI 10)))) 4 (am_I .int 4 (upd (upd (upd (upd (fun _ => 0) 0 (nI 1)) 1 (nI 2)) 2 (nI 5)) 3 (nI 9)))) 5 (am_I .int 8 (upd (upd (upd (upd (upd (fun _ => 0) 0 (nI 1)) 1 (nI 2)) 2 (nI 3)) 3 (nI 4)) 4 (nI 5)))) ?_ ?_
  ·
    funext c
    by_cases e1 : c = 1
    · subst e1
      rfl
    by_cases e2 : c = 2
    · subst e2
      rfl
    by_cases e4 : c = 4
    · subst e4
      rfl
    by_cases e5 : c = 5
    · subst e5
      rfl
    simp only [am_up_ne _ _ e1, am_up_ne _ _ e2, am_up_ne _ _ e4, am_up_ne _ _ e5]
  refine sw_ins (pc2 := 94) rfl rfl ?_
  refine sw_aload_n (i := 0) dX2_init_94 rfl rfl ?_
  refine sw_get (fs := [.ref 2, .ref 3, .ref 4, .ref 5, .ref 6, .int 0, .int 0, .int 0, .int 0, .int 0, .int 0, .int 0]) f_X2_21 (by decide) rfl (v := .ref 5) rfl dX2_init_95 ?_
  refine sw_iload_n (i := 1) dX2_init_98 rfl rfl ?_
  refine sw_iload_n (i := 1) dX2_init_99 rfl rfl ?_
  refine sw_ic 1 dX2_init_100 ?_
  refine sw_iadd dX2_init_101 ?_
  refine sw_topE (v := nI 6) (by decide) ?_
  refine sw_bi 8 dX2_init_102 (by decide +kernel) ?_
  refine sw_irem (by decide) dX2_init_104 ?_
  refine sw_topE (v := nI 6) (by decide) ?_
  refine sw_iast (5) (by decide) (f := (upd (upd (upd (upd (upd (fun _ => 0) 0 (nI 1)) 1 (nI 2)) 2 (nI 3)) 3 (nI 4)) 4 (nI 5))) (nn := 8) rfl rfl (by decide) (by decide) dX2_init_105 ?_
  refine sw_weq (aw2 := am_up (am_up (am_up (am_up (aw) 1 (am_O 1 [.ref 2, .ref 3, .ref 4, .ref 5, .ref 6, .int 0, .int 0, .int 0, .int 0, .int 0, .int 0, .int 0])) 2 (am_I .int 32 (upd (upd (upd (upd (upd (upd (fun _ => 0) 0 (nI 10)) 5 (nI 10)) 10 (nI 10)) 15 (nI 10)) 16 (nI 10)) 21 (nI 10)))) 4 (am_I .int 4 (upd (upd (upd (upd (fun _ => 0) 0 (nI 1)) 1 (nI 2)) 2 (nI 5)) 3 (nI 9)))) 5 (am_I .int 8 (upd (upd (upd (upd (upd (upd (fun _ => 0) 0 (nI 1)) 1 (nI 2)) 2 (nI 3)) 3 (nI 4)) 4 (nI 5)) 5 (nI 6)))) ?_ ?_
  ·
    funext c
    by_cases e1 : c = 1
    · subst e1
      rfl
    by_cases e2 : c = 2
    · subst e2
      rfl
    by_cases e4 : c = 4
    · subst e4
      rfl
    by_cases e5 : c = 5
    · subst e5
      rfl
    simp only [am_up_ne _ _ e1, am_up_ne _ _ e2, am_up_ne _ _ e4, am_up_ne _ _ e5]
  refine sw_iinc (i := 1) (v := nI 6) dX2_init_106 rfl (by decide) (Nat.le_of_ble_eq_true rfl) rfl ?_
  refine sw_lo (lo2 := [some (.ref 1), some (.int _)]) rfl ?_
  refine sw_goto (tgt := 74) dX2_init_109 rfl ?_
  refine sw_iload_n (i := 1) dX2_init_74 rfl rfl ?_
  refine sw_bi 8 dX2_init_75 (by decide +kernel) ?_
  refine sw_ic_ge (tgt := 112) dX2_init_77 rfl (fun h9 => absurd h9 (by decide)) (fun _ => ?_)
  refine sw_aload_n (i := 0) dX2_init_80 rfl rfl ?_
  refine sw_get (fs := [.ref 2, .ref 3, .ref 4, .ref 5, .ref 6, .int 0, .int 0, .int 0, .int 0, .int 0, .int 0, .int 0]) f_X2_9 (by decide) rfl (v := .ref 2) rfl dX2_init_81 ?_
  refine sw_ins (pc2 := 84) rfl rfl ?_
  refine sw_iload_n (i := 1) dX2_init_84 rfl rfl ?_
  refine sw_ic 4 dX2_init_85 ?_
  refine sw_imul dX2_init_86 ?_
  refine sw_topE (v := nI 24) (by decide) ?_
  refine sw_iload_n (i := 1) dX2_init_87 rfl rfl ?_
  refine sw_ic 4 dX2_init_88 ?_
  refine sw_irem (by decide) dX2_init_89 ?_
  refine sw_topE (v := nI 2) (by decide) ?_
  refine sw_iadd dX2_init_90 ?_
  refine sw_topE (v := nI 26) (by decide) ?_
  refine sw_bi 10 dX2_init_91 (by decide +kernel) ?_
  refine sw_iast (26) (by decide) (f := (upd (upd (upd (upd (upd (upd (fun _ => 0) 0 (nI 10)) 5 (nI 10)) 10 (nI 10)) 15 (nI 10)) 16 (nI 10)) 21 (nI 10))) (nn := 32) rfl rfl (by decide) (by decide) dX2_init_93 ?_
  refine sw_weq (aw2 := am_up (am_up (am_up (am_up (aw) 1 (am_O 1 [.ref 2, .ref 3, .ref 4, .ref 5, .ref 6, .int 0, .int 0, .int 0, .int 0, .int 0, .int 0, .int 0])) 2 (am_I .int 32 (upd (upd (upd (upd (upd (upd (upd (fun _ => 0) 0 (nI 10)) 5 (nI 10)) 10 (nI 10)) 15 (nI 10)) 16 (nI 10)) 21 (nI 10)) 26 (nI 10)))) 4 (am_I .int 4 (upd (upd (upd (upd (fun _ => 0) 0 (nI 1)) 1 (nI 2)) 2 (nI 5)) 3 (nI 9)))) 5 (am_I .int 8 (upd (upd (upd (upd (upd (upd (fun _ => 0) 0 (nI 1)) 1 (nI 2)) 2 (nI 3)) 3 (nI 4)) 4 (nI 5)) 5 (nI 6)))) ?_ ?_
  ·
    funext c
    by_cases e1 : c = 1
    · subst e1
      rfl
    by_cases e2 : c = 2
    · subst e2
      rfl
    by_cases e4 : c = 4
    · subst e4
      rfl
    by_cases e5 : c = 5
    · subst e5
      rfl
    simp only [am_up_ne _ _ e1, am_up_ne _ _ e2, am_up_ne _ _ e4, am_up_ne _ _ e5]
  refine sw_aload_n (i := 0) dX2_init_94 rfl rfl ?_
  refine sw_get (fs := [.ref 2, .ref 3, .ref 4, .ref 5, .ref 6, .int 0, .int 0, .int 0, .int 0, .int 0, .int 0, .int 0]) f_X2_21 (by decide) rfl (v := .ref 5) rfl dX2_init_95 ?_
  refine sw_iload_n (i := 1) dX2_init_98 rfl rfl ?_
  refine sw_iload_n (i := 1) dX2_init_99 rfl rfl ?_
  refine sw_ic 1 dX2_init_100 ?_
  refine sw_iadd dX2_init_101 ?_
  refine sw_topE (v := nI 7) (by decide) ?_
  refine sw_bi 8 dX2_init_102 (by decide +kernel) ?_
  refine sw_irem (by decide) dX2_init_104 ?_
  refine sw_topE (v := nI 7) (by decide) ?_
  refine sw_iast (6) (by decide) (f := (upd (upd (upd (upd (upd (upd (fun _ => 0) 0 (nI 1)) 1 (nI 2)) 2 (nI 3)) 3 (nI 4)) 4 (nI 5)) 5 (nI 6))) (nn := 8) rfl rfl (by decide) (by decide) dX2_init_105 ?_
  refine sw_weq (aw2 := am_up (am_up (am_up (am_up (aw) 1 (am_O 1 [.ref 2, .ref 3, .ref 4, .ref 5, .ref 6, .int 0, .int 0, .int 0, .int 0, .int 0, .int 0, .int 0])) 2 (am_I .int 32 (upd (upd (upd (upd (upd (upd (upd (fun _ => 0) 0 (nI 10)) 5 (nI 10)) 10 (nI 10)) 15 (nI 10)) 16 (nI 10)) 21 (nI 10)) 26 (nI 10)))) 4 (am_I .int 4 (upd (upd (upd (upd (fun _ => 0) 0 (nI 1)) 1 (nI 2)) 2 (nI 5)) 3 (nI 9)))) 5 (am_I .int 8 (upd (upd (upd (upd (upd (upd (upd (fun _ => 0) 0 (nI 1)) 1 (nI 2)) 2 (nI 3)) 3 (nI 4)) 4 (nI 5)) 5 (nI 6)) 6 (nI 7)))) ?_ ?_
  ·
    funext c
    by_cases e1 : c = 1
    · subst e1
      rfl
    by_cases e2 : c = 2
    · subst e2
      rfl
    by_cases e4 : c = 4
    · subst e4
      rfl
    by_cases e5 : c = 5
    · subst e5
      rfl
    simp only [am_up_ne _ _ e1, am_up_ne _ _ e2, am_up_ne _ _ e4, am_up_ne _ _ e5]
  refine sw_iinc (i := 1) (v := nI 7) dX2_init_106 rfl (by decide) (Nat.le_of_ble_eq_true rfl) rfl ?_
  refine sw_lo (lo2 := [some (.ref 1), some (.int _)]) rfl ?_
  refine sw_goto (tgt := 74) dX2_init_109 rfl ?_
  refine sw_iload_n (i := 1) dX2_init_74 rfl rfl ?_
  refine sw_bi 8 dX2_init_75 (by decide +kernel) ?_
  refine sw_ic_ge (tgt := 112) dX2_init_77 rfl (fun h9 => absurd h9 (by decide)) (fun _ => ?_)
  refine sw_aload_n (i := 0) dX2_init_80 rfl rfl ?_
  refine sw_get (fs := [.ref 2, .ref 3, .ref 4, .ref 5, .ref 6, .int 0, .int 0, .int 0, .int 0, .int 0, .int 0, .int 0]) f_X2_9 (by decide) rfl (v := .ref 2) rfl dX2_init_81 ?_
  refine sw_iload_n (i := 1) dX2_init_84 rfl rfl ?_
  refine sw_ic 4 dX2_init_85 ?_
  refine sw_imul dX2_init_86 ?_
  refine sw_topE (v := nI 28) (by decide) ?_
  refine sw_iload_n (i := 1) dX2_init_87 rfl rfl ?_
  refine sw_ic 4 dX2_init_88 ?_
  refine sw_irem (by decide) dX2_init_89 ?_
  refine sw_topE (v := nI 3) (by decide) ?_
  refine sw_iadd dX2_init_90 ?_
  refine sw_topE (v := nI 31) (by decide) ?_
  refine sw_ins (pc2 := 91) rfl rfl ?_
  refine sw_bi 10 dX2_init_91 (by decide +kernel) ?_
  refine sw_iast (31) (by decide) (f := (upd (upd (upd (upd (upd (upd (upd (fun _ => 0) 0 (nI 10)) 5 (nI 10)) 10 (nI 10)) 15 (nI 10)) 16 (nI 10)) 21 (nI 10)) 26 (nI 10))) (nn := 32) rfl rfl (by decide) (by decide) dX2_init_93 ?_
  refine sw_weq (aw2 := am_up (am_up (am_up (am_up (aw) 1 (am_O 1 [.ref 2, .ref 3, .ref 4, .ref 5, .ref 6, .int 0, .int 0, .int 0, .int 0, .int 0, .int 0, .int 0])) 2 (am_I .int 32 (upd (upd (upd (upd (upd (upd (upd (upd (fun _ => 0) 0 (nI 10)) 5 (nI 10)) 10 (nI 10)) 15 (nI 10)) 16 (nI 10)) 21 (nI 10)) 26 (nI 10)) 31 (nI 10)))) 4 (am_I .int 4 (upd (upd (upd (upd (fun _ => 0) 0 (nI 1)) 1 (nI 2)) 2 (nI 5)) 3 (nI 9)))) 5 (am_I .int 8 (upd (upd (upd (upd (upd (upd (upd (fun _ => 0) 0 (nI 1)) 1 (nI 2)) 2 (nI 3)) 3 (nI 4)) 4 (nI 5)) 5 (nI 6)) 6 (nI 7)))) ?_ ?_
  ·
    funext c
    by_cases e1 : c = 1
    · subst e1
      rfl
    by_cases e2 : c = 2
    · subst e2
      rfl
    by_cases e4 : c = 4
    · subst e4
      rfl
    by_cases e5 : c = 5
    · subst e5
      rfl
    simp only [am_up_ne _ _ e1, am_up_ne _ _ e2, am_up_ne _ _ e4, am_up_ne _ _ e5]
  refine sw_aload_n (i := 0) dX2_init_94 rfl rfl ?_
  refine sw_get (fs := [.ref 2, .ref 3, .ref 4, .ref 5, .ref 6, .int 0, .int 0, .int 0, .int 0, .int 0, .int 0, .int 0]) f_X2_21 (by decide) rfl (v := .ref 5) rfl dX2_init_95 ?_
  refine sw_iload_n (i := 1) dX2_init_98 rfl rfl ?_
  refine sw_iload_n (i := 1) dX2_init_99 rfl rfl ?_
  refine sw_ic 1 dX2_init_100 ?_
  refine sw_iadd dX2_init_101 ?_
  refine sw_topE (v := nI 8) (by decide) ?_
  refine sw_ins (pc2 := 102) rfl rfl ?_
  refine sw_bi 8 dX2_init_102 (by decide +kernel) ?_
  refine sw_irem (by decide) dX2_init_104 ?_
  refine sw_topE (v := nI 0) (by decide) ?_
  refine sw_iast (7) (by decide) (f := (upd (upd (upd (upd (upd (upd (upd (fun _ => 0) 0 (nI 1)) 1 (nI 2)) 2 (nI 3)) 3 (nI 4)) 4 (nI 5)) 5 (nI 6)) 6 (nI 7))) (nn := 8) rfl rfl (by decide) (by decide) dX2_init_105 ?_
  refine sw_weq (aw2 := am_up (am_up (am_up (am_up (aw) 1 (am_O 1 [.ref 2, .ref 3, .ref 4, .ref 5, .ref 6, .int 0, .int 0, .int 0, .int 0, .int 0, .int 0, .int 0])) 2 (am_I .int 32 (upd (upd (upd (upd (upd (upd (upd (upd (fun _ => 0) 0 (nI 10)) 5 (nI 10)) 10 (nI 10)) 15 (nI 10)) 16 (nI 10)) 21 (nI 10)) 26 (nI 10)) 31 (nI 10)))) 4 (am_I .int 4 (upd (upd (upd (upd (fun _ => 0) 0 (nI 1)) 1 (nI 2)) 2 (nI 5)) 3 (nI 9)))) 5 (am_I .int 8 (upd (upd (upd (upd (upd (upd (upd (upd (fun _ => 0) 0 (nI 1)) 1 (nI 2)) 2 (nI 3)) 3 (nI 4)) 4 (nI 5)) 5 (nI 6)) 6 (nI 7)) 7 (nI 0)))) ?_ ?_
  ·
    funext c
    by_cases e1 : c = 1
    · subst e1
      rfl
    by_cases e2 : c = 2
    · subst e2
      rfl
    by_cases e4 : c = 4
    · subst e4
      rfl
    by_cases e5 : c = 5
    · subst e5
      rfl
    simp only [am_up_ne _ _ e1, am_up_ne _ _ e2, am_up_ne _ _ e4, am_up_ne _ _ e5]
  refine sw_iinc (i := 1) (v := nI 8) dX2_init_106 rfl (by decide) (Nat.le_of_ble_eq_true rfl) rfl ?_
  refine sw_lo (lo2 := [some (.ref 1), some (.int _)]) rfl ?_
  refine sw_goto (tgt := 74) dX2_init_109 rfl ?_
  refine sw_iload_n (i := 1) dX2_init_74 rfl rfl ?_
  refine sw_bi 8 dX2_init_75 (by decide +kernel) ?_
  refine sw_ic_ge (tgt := 112) dX2_init_77 rfl (fun _ => ?_) (fun h9 => absurd (by decide) h9)
  refine sw_weq (aw2 := aw) ?_ ?_
  ·
    funext c
    by_cases e1 : c = 1
    · subst e1
      exact (hz 1 (by decide) (by decide)).symm
    by_cases e2 : c = 2
    · subst e2
      exact (hz 2 (by decide) (by decide)).symm
    by_cases e4 : c = 4
    · subst e4
      exact (hz 4 (by decide) (by decide)).symm
    by_cases e5 : c = 5
    · subst e5
      exact (hz 5 (by decide) (by decide)).symm
    simp only [am_up_ne _ _ e1, am_up_ne _ _ e2, am_up_ne _ _ e4, am_up_ne _ _ e5]
  exact sw_return rfl dX2_init_112
set_option maxRecDepth 100000 in
set_option maxHeartbeats 4000000 in
theorem I_9 {aw : Nat → am_E} (hz : ∀ c, 9 ≤ c → c < 15 → aw c = z0 c) : am_AM kX2_init yX2_init 1 [.ref 9] 10 (am_up aw 9 (am_O 1 fs0_X2)) none 15 (aw) 5 108 := by
  refine am_of pl_X2_init (Nat.le_of_ble_eq_true rfl) ?_
  refine sw_aload_n (i := 0) dX2_init_0 rfl rfl ?_
  refine sw_oinit oi_X2_3 (by decide) (Nat.le_of_ble_eq_true rfl) dX2_init_1 ?_
  refine sw_aload_n (i := 0) dX2_init_4 rfl rfl ?_
  refine sw_bi 32 dX2_init_5 (by decide +kernel) ?_
  refine sw_newI (k2 := 4) (n2 := 76) ac_i rfl (fun _ => rfl) (nn := 32) rfl (by decide) (by decide) (by decide) (by decide) (by decide) dX2_init_7 ?_
  refine sw_putR rfl fp_X2_9 (fun _ => ⟨rfl, rfl⟩) (by decide) (fs := fs0_X2) rfl (by decide) dX2_init_9 ?_
  refine sw_weq (aw2 := am_up (am_up (aw) 9 (am_O 1 [.ref 10, .null, .null, .null, .null, .int 0, .int 0, .int 0, .int 0, .int 0, .int 0, .int 0])) 10 (am_I .int 32 (fun _ => 0))) ?_ ?_
  ·
    funext c
    by_cases e9 : c = 9
    · subst e9
      rfl
    by_cases e10 : c = 10
    · subst e10
      rfl
    simp only [am_up_ne _ _ e9, am_up_ne _ _ e10]
  refine sw_aload_n (i := 0) dX2_init_12 rfl rfl ?_
  refine sw_ins (pc2 := 13) rfl rfl ?_
  refine sw_bi 32 dX2_init_13 (by decide +kernel) ?_
  refine sw_newI (k2 := 3) (n2 := 44) ac_i rfl (fun _ => rfl) (nn := 32) rfl (by decide) (by decide) (by decide) (by decide) (by decide) dX2_init_15 ?_
  refine sw_weq (aw2 := am_up (am_up (aw) 9 (am_O 1 [.ref 10, .null, .null, .null, .null, .int 0, .int 0, .int 0, .int 0, .int 0, .int 0, .int 0])) 10 (am_I .int 32 (fun _ => 0))) ?_ ?_
  ·
    funext c
    by_cases e9 : c = 9
    · subst e9
      rfl
    by_cases e10 : c = 10
    · subst e10
      rfl
    by_cases e11 : c = 11
    · subst e11
      exact (hz 11 (by decide) (by decide)).symm
    simp only [am_up_ne _ _ e9, am_up_ne _ _ e10, am_up_ne _ _ e11]
  refine sw_putR rfl fp_X2_15 (fun _ => ⟨rfl, rfl⟩) (by decide) (fs := [.ref 10, .null, .null, .null, .null, .int 0, .int 0, .int 0, .int 0, .int 0, .int 0, .int 0]) rfl (by decide) dX2_init_17 ?_
  refine sw_weq (aw2 := am_up (am_up (aw) 9 (am_O 1 [.ref 10, .ref 11, .null, .null, .null, .int 0, .int 0, .int 0, .int 0, .int 0, .int 0, .int 0])) 10 (am_I .int 32 (fun _ => 0))) ?_ ?_
  ·
    funext c
    by_cases e9 : c = 9
    · subst e9
      rfl
    by_cases e10 : c = 10
    · subst e10
      rfl
    simp only [am_up_ne _ _ e9, am_up_ne _ _ e10]
  refine sw_aload_n (i := 0) dX2_init_20 rfl rfl ?_
  refine sw_ic 4 dX2_init_21 ?_
  refine sw_newI (k2 := 2) (n2 := 40) ac_i rfl (fun _ => rfl) (nn := 4) rfl (by decide) (by decide) (by decide) (by decide) (by decide) dX2_init_22 ?_
  refine sw_putR rfl fp_X2_18 (fun _ => ⟨rfl, rfl⟩) (by decide) (fs := [.ref 10, .ref 11, .null, .null, .null, .int 0, .int 0, .int 0, .int 0, .int 0, .int 0, .int 0]) rfl (by decide) dX2_init_24 ?_
  refine sw_weq (aw2 := am_up (am_up (am_up (aw) 9 (am_O 1 [.ref 10, .ref 11, .ref 12, .null, .null, .int 0, .int 0, .int 0, .int 0, .int 0, .int 0, .int 0])) 10 (am_I .int 32 (fun _ => 0))) 12 (am_I .int 4 (fun _ => 0))) ?_ ?_
  ·
    funext c
    by_cases e9 : c = 9
    · subst e9
      rfl
    by_cases e10 : c = 10
    · subst e10
      rfl
    by_cases e12 : c = 12
    · subst e12
      rfl
    simp only [am_up_ne _ _ e9, am_up_ne _ _ e10, am_up_ne _ _ e12]
  refine sw_aload_n (i := 0) dX2_init_27 rfl rfl ?_
  refine sw_ins (pc2 := 28) rfl rfl ?_
  refine sw_bi 8 dX2_init_28 (by decide +kernel) ?_
  refine sw_newI (k2 := 1) (n2 := 32) ac_i rfl (fun _ => rfl) (nn := 8) rfl (by decide) (by decide) (by decide) (by decide) (by decide) dX2_init_30 ?_
  refine sw_putR rfl fp_X2_21 (fun _ => ⟨rfl, rfl⟩) (by decide) (fs := [.ref 10, .ref 11, .ref 12, .null, .null, .int 0, .int 0, .int 0, .int 0, .int 0, .int 0, .int 0]) rfl (by decide) dX2_init_32 ?_
  refine sw_weq (aw2 := am_up (am_up (am_up (am_up (aw) 9 (am_O 1 [.ref 10, .ref 11, .ref 12, .ref 13, .null, .int 0, .int 0, .int 0, .int 0, .int 0, .int 0, .int 0])) 10 (am_I .int 32 (fun _ => 0))) 12 (am_I .int 4 (fun _ => 0))) 13 (am_I .int 8 (fun _ => 0))) ?_ ?_
  ·
    funext c
    by_cases e9 : c = 9
    · subst e9
      rfl
    by_cases e10 : c = 10
    · subst e10
      rfl
    by_cases e12 : c = 12
    · subst e12
      rfl
    by_cases e13 : c = 13
    · subst e13
      rfl
    simp only [am_up_ne _ _ e9, am_up_ne _ _ e10, am_up_ne _ _ e12, am_up_ne _ _ e13]
  refine sw_aload_n (i := 0) dX2_init_35 rfl rfl ?_
  refine sw_bi 32 dX2_init_36 (by decide +kernel) ?_
  refine sw_newI (k2 := 0) (n2 := 0) ac_i rfl (fun _ => rfl) (nn := 32) rfl (by decide) (by decide) (by decide) (by decide) (by decide) dX2_init_38 ?_
  refine sw_weq (aw2 := am_up (am_up (am_up (am_up (aw) 9 (am_O 1 [.ref 10, .ref 11, .ref 12, .ref 13, .null, .int 0, .int 0, .int 0, .int 0, .int 0, .int 0, .int 0])) 10 (am_I .int 32 (fun _ => 0))) 12 (am_I .int 4 (fun _ => 0))) 13 (am_I .int 8 (fun _ => 0))) ?_ ?_
  ·
    funext c
    by_cases e9 : c = 9
    · subst e9
      rfl
    by_cases e10 : c = 10
    · subst e10
      rfl
    by_cases e12 : c = 12
    · subst e12
      rfl
    by_cases e13 : c = 13
    · subst e13
      rfl
    by_cases e14 : c = 14
    · subst e14
      exact (hz 14 (by decide) (by decide)).symm
    simp only [am_up_ne _ _ e9, am_up_ne _ _ e10, am_up_ne _ _ e12, am_up_ne _ _ e13, am_up_ne _ _ e14]
  refine sw_putR rfl fp_X2_24 (fun _ => ⟨rfl, rfl⟩) (by decide) (fs := [.ref 10, .ref 11, .ref 12, .ref 13, .null, .int 0, .int 0, .int 0, .int 0, .int 0, .int 0, .int 0]) rfl (by decide) dX2_init_40 ?_
  refine sw_weq (aw2 := am_up (am_up (am_up (am_up (aw) 9 (am_O 1 [.ref 10, .ref 11, .ref 12, .ref 13, .ref 14, .int 0, .int 0, .int 0, .int 0, .int 0, .int 0, .int 0])) 10 (am_I .int 32 (fun _ => 0))) 12 (am_I .int 4 (fun _ => 0))) 13 (am_I .int 8 (fun _ => 0))) ?_ ?_
  ·
    funext c
    by_cases e9 : c = 9
    · subst e9
      rfl
    by_cases e10 : c = 10
    · subst e10
      rfl
    by_cases e12 : c = 12
    · subst e12
      rfl
    by_cases e13 : c = 13
    · subst e13
      rfl
    simp only [am_up_ne _ _ e9, am_up_ne _ _ e10, am_up_ne _ _ e12, am_up_ne _ _ e13]
  refine sw_aload_n (i := 0) dX2_init_43 rfl rfl ?_
  refine sw_get (fs := [.ref 10, .ref 11, .ref 12, .ref 13, .ref 14, .int 0, .int 0, .int 0, .int 0, .int 0, .int 0, .int 0]) f_X2_18 (by decide) rfl (v := .ref 12) rfl dX2_init_44 ?_
  refine sw_ic 0 dX2_init_47 ?_
  refine sw_ic 1 dX2_init_48 ?_
  refine sw_iast (0) (by decide) (f := (fun _ => 0)) (nn := 4) rfl rfl (by decide) (by decide) dX2_init_49 ?_
  refine sw_weq (aw2 := am_up (am_up (am_up (am_up (aw) 9 (am_O 1 [.ref 10, .ref 11, .ref 12, .ref 13, .ref 14, .int 0, .int 0, .int 0, .int 0, .int 0, .int 0, .int 0])) 10 (am_I .int 32 (fun _ => 0))) 12 (am_I .int 4 (upd (fun _ => 0) 0 (nI 1)))) 13 (am_I .int 8 (fun _ => 0))) ?_ ?_
  ·
    funext c
    by_cases e9 : c = 9
    · subst e9
      rfl
    by_cases e10 : c = 10
    · subst e10
      rfl
    by_cases e12 : c = 12
    · subst e12
      rfl
    by_cases e13 : c = 13
    · subst e13
      rfl
    simp only [am_up_ne _ _ e9, am_up_ne _ _ e10, am_up_ne _ _ e12, am_up_ne _ _ e13]
  refine sw_aload_n (i := 0) dX2_init_50 rfl rfl ?_
  refine sw_get (fs := [.ref 10, .ref 11, .ref 12, .ref 13, .ref 14, .int 0, .int 0, .int 0, .int 0, .int 0, .int 0, .int 0]) f_X2_18 (by decide) rfl (v := .ref 12) rfl dX2_init_51 ?_
  refine sw_ic 1 dX2_init_54 ?_
  refine sw_ic 2 dX2_init_55 ?_
  refine sw_iast (1) (by decide) (f := (upd (fun _ => 0) 0 (nI 1))) (nn := 4) rfl rfl (by decide) (by decide) dX2_init_56 ?_
  refine sw_weq (aw2 := am_up (am_up (am_up (am_up (aw) 9 (am_O 1 [.ref 10, .ref 11, .ref 12, .ref 13, .ref 14, .int 0, .int 0, .int 0, .int 0, .int 0, .int 0, .int 0])) 10 (am_I .int 32 (fun _ => 0))) 12 (am_I .int 4 (upd (upd (fun _ => 0) 0 (nI 1)) 1 (nI 2)))) 13 (am_I .int 8 (fun _ => 0))) ?_ ?_
  ·
    funext c
    by_cases e9 : c = 9
    · subst e9
      rfl
    by_cases e10 : c = 10
    · subst e10
      rfl
    by_cases e12 : c = 12
    · subst e12
      rfl
    by_cases e13 : c = 13
    · subst e13
      rfl
    simp only [am_up_ne _ _ e9, am_up_ne _ _ e10, am_up_ne _ _ e12, am_up_ne _ _ e13]
  refine sw_aload_n (i := 0) dX2_init_57 rfl rfl ?_
  refine sw_get (fs := [.ref 10, .ref 11, .ref 12, .ref 13, .ref 14, .int 0, .int 0, .int 0, .int 0, .int 0, .int 0, .int 0]) f_X2_18 (by decide) rfl (v := .ref 12) rfl dX2_init_58 ?_
  refine sw_ic 2 dX2_init_61 ?_
  refine sw_ic 5 dX2_init_62 ?_
  refine sw_iast (2) (by decide) (f := (upd (upd (fun _ => 0) 0 (nI 1)) 1 (nI 2))) (nn := 4) rfl rfl (by decide) (by decide) dX2_init_63 ?_
  refine sw_weq (aw2 := am_up (am_up (am_up (am_up (aw) 9 (am_O 1 [.ref 10, .ref 11, .ref 12, .ref 13, .ref 14, .int 0, .int 0, .int 0, .int 0, .int 0, .int 0, .int 0])) 10 (am_I .int 32 (fun _ => 0))) 12 (am_I .int 4 (upd (upd (upd (fun _ => 0) 0 (nI 1)) 1 (nI 2)) 2 (nI 5)))) 13 (am_I .int 8 (fun _ => 0))) ?_ ?_
  ·
    funext c
    by_cases e9 : c = 9
    · subst e9
      rfl
    by_cases e10 : c = 10
    · subst e10
      rfl
    by_cases e12 : c = 12
    · subst e12
      rfl
    by_cases e13 : c = 13
    · subst e13
      rfl
    simp only [am_up_ne _ _ e9, am_up_ne _ _ e10, am_up_ne _ _ e12, am_up_ne _ _ e13]
  refine sw_aload_n (i := 0) dX2_init_64 rfl rfl ?_
  refine sw_get (fs := [.ref 10, .ref 11, .ref 12, .ref 13, .ref 14, .int 0, .int 0, .int 0, .int 0, .int 0, .int 0, .int 0]) f_X2_18 (by decide) rfl (v := .ref 12) rfl dX2_init_65 ?_
  refine sw_ins (pc2 := 68) rfl rfl ?_
  refine sw_ic 3 dX2_init_68 ?_
  refine sw_bi 9 dX2_init_69 (by decide +kernel) ?_
  refine sw_iast (3) (by decide) (f := (upd (upd (upd (fun _ => 0) 0 (nI 1)) 1 (nI 2)) 2 (nI 5))) (nn := 4) rfl rfl (by decide) (by decide) dX2_init_71 ?_
  refine sw_weq (aw2 := am_up (am_up (am_up (am_up (aw) 9 (am_O 1 [.ref 10, .ref 11, .ref 12, .ref 13, .ref 14, .int 0, .int 0, .int 0, .int 0, .int 0, .int 0, .int 0])) 10 (am_I .int 32 (fun _ => 0))) 12 (am_I .int 4 (upd (upd (upd (upd (fun _ => 0) 0 (nI 1)) 1 (nI 2)) 2 (nI 5)) 3 (nI 9)))) 13 (am_I .int 8 (fun _ => 0))) ?_ ?_
  ·
    funext c
    by_cases e9 : c = 9
    · subst e9
      rfl
    by_cases e10 : c = 10
    · subst e10
      rfl
    by_cases e12 : c = 12
    · subst e12
      rfl
    by_cases e13 : c = 13
    · subst e13
      rfl
    simp only [am_up_ne _ _ e9, am_up_ne _ _ e10, am_up_ne _ _ e12, am_up_ne _ _ e13]
  refine sw_ic 0 dX2_init_72 ?_
  refine sw_istore_n (i := 1) dX2_init_73 rfl (Nat.le_of_ble_eq_true rfl) rfl ?_
  refine sw_lo (lo2 := [some (.ref 9), some (.int _)]) rfl ?_
  refine sw_iload_n (i := 1) dX2_init_74 rfl rfl ?_
  refine sw_bi 8 dX2_init_75 (by decide +kernel) ?_
  refine sw_ic_ge (tgt := 112) dX2_init_77 rfl (fun h9 => absurd h9 (by decide)) (fun _ => ?_)
  refine sw_ins (pc2 := 80) rfl rfl ?_
  refine sw_aload_n (i := 0) dX2_init_80 rfl rfl ?_
  refine sw_get (fs := [.ref 10, .ref 11, .ref 12, .ref 13, .ref 14, .int 0, .int 0, .int 0, .int 0, .int 0, .int 0, .int 0]) f_X2_9 (by decide) rfl (v := .ref 10) rfl dX2_init_81 ?_
  refine sw_iload_n (i := 1) dX2_init_84 rfl rfl ?_
  refine sw_ic 4 dX2_init_85 ?_
  refine sw_imul dX2_init_86 ?_
  refine sw_topE (v := nI 0) (by decide) ?_
  refine sw_iload_n (i := 1) dX2_init_87 rfl rfl ?_
  refine sw_ic 4 dX2_init_88 ?_
  refine sw_irem (by decide) dX2_init_89 ?_
  refine sw_topE (v := nI 0) (by decide) ?_
  refine sw_ins (pc2 := 90) rfl rfl ?_
  refine sw_iadd dX2_init_90 ?_
  refine sw_topE (v := nI 0) (by decide) ?_
  refine sw_bi 10 dX2_init_91 (by decide +kernel) ?_
  refine sw_iast (0) (by decide) (f := (fun _ => 0)) (nn := 32) rfl rfl (by decide) (by decide) dX2_init_93 ?_
  refine sw_weq (aw2 := am_up (am_up (am_up (am_up (aw) 9 (am_O 1 [.ref 10, .ref 11, .ref 12, .ref 13, .ref 14, .int 0, .int 0, .int 0, .int 0, .int 0, .int 0, .int 0])) 10 (am_I .int 32 (upd (fun _ => 0) 0 (nI 10)))) 12 (am_I .int 4 (upd (upd (upd (upd (fun _ => 0) 0 (nI 1)) 1 (nI 2)) 2 (nI 5)) 3 (nI 9)))) 13 (am_I .int 8 (fun _ => 0))) ?_ ?_
  ·
    funext c
    by_cases e9 : c = 9
    · subst e9
      rfl
    by_cases e10 : c = 10
    · subst e10
      rfl
    by_cases e12 : c = 12
    · subst e12
      rfl
    by_cases e13 : c = 13
    · subst e13
      rfl
    simp only [am_up_ne _ _ e9, am_up_ne _ _ e10, am_up_ne _ _ e12, am_up_ne _ _ e13]
  refine sw_aload_n (i := 0) dX2_init_94 rfl rfl ?_
  refine sw_get (fs := [.ref 10, .ref 11, .ref 12, .ref 13, .ref 14, .int 0, .int 0, .int 0, .int 0, .int 0, .int 0, .int 0]) f_X2_21 (by decide) rfl (v := .ref 13) rfl dX2_init_95 ?_
  refine sw_iload_n (i := 1) dX2_init_98 rfl rfl ?_
  refine sw_iload_n (i := 1) dX2_init_99 rfl rfl ?_
  refine sw_ic 1 dX2_init_100 ?_
  refine sw_ins (pc2 := 101) rfl rfl ?_
  refine sw_iadd dX2_init_101 ?_
  refine sw_topE (v := nI 1) (by decide) ?_
  refine sw_bi 8 dX2_init_102 (by decide +kernel) ?_
  refine sw_irem (by decide) dX2_init_104 ?_
  refine sw_topE (v := nI 1) (by decide) ?_
  refine sw_iast (0) (by decide) (f := (fun _ => 0)) (nn := 8) rfl rfl (by decide) (by decide) dX2_init_105 ?_
  refine sw_weq (aw2 := am_up (am_up (am_up (am_up (aw) 9 (am_O 1 [.ref 10, .ref 11, .ref 12, .ref 13, .ref 14, .int 0, .int 0, .int 0, .int 0, .int 0, .int 0, .int 0])) 10 (am_I .int 32 (upd (fun _ => 0) 0 (nI 10)))) 12 (am_I .int 4 (upd (upd (upd (upd (fun _ => 0) 0 (nI 1)) 1 (nI 2)) 2 (nI 5)) 3 (nI 9)))) 13 (am_I .int 8 (upd (fun _ => 0) 0 (nI 1)))) ?_ ?_
  ·
    funext c
    by_cases e9 : c = 9
    · subst e9
      rfl
    by_cases e10 : c = 10
    · subst e10
      rfl
    by_cases e12 : c = 12
    · subst e12
      rfl
    by_cases e13 : c = 13
    · subst e13
      rfl
    simp only [am_up_ne _ _ e9, am_up_ne _ _ e10, am_up_ne _ _ e12, am_up_ne _ _ e13]
  refine sw_iinc (i := 1) (v := nI 1) dX2_init_106 rfl (by decide) (Nat.le_of_ble_eq_true rfl) rfl ?_
  refine sw_lo (lo2 := [some (.ref 9), some (.int _)]) rfl ?_
  refine sw_goto (tgt := 74) dX2_init_109 rfl ?_
  refine sw_iload_n (i := 1) dX2_init_74 rfl rfl ?_
  refine sw_bi 8 dX2_init_75 (by decide +kernel) ?_
  refine sw_ins (pc2 := 77) rfl rfl ?_
  refine sw_ic_ge (tgt := 112) dX2_init_77 rfl (fun h9 => absurd h9 (by decide)) (fun _ => ?_)
  refine sw_aload_n (i := 0) dX2_init_80 rfl rfl ?_
  refine sw_get (fs := [.ref 10, .ref 11, .ref 12, .ref 13, .ref 14, .int 0, .int 0, .int 0, .int 0, .int 0, .int 0, .int 0]) f_X2_9 (by decide) rfl (v := .ref 10) rfl dX2_init_81 ?_
  refine sw_iload_n (i := 1) dX2_init_84 rfl rfl ?_
  refine sw_ic 4 dX2_init_85 ?_
  refine sw_imul dX2_init_86 ?_
  refine sw_topE (v := nI 4) (by decide) ?_
  refine sw_iload_n (i := 1) dX2_init_87 rfl rfl ?_
  refine sw_ic 4 dX2_init_88 ?_
  refine sw_irem (by decide) dX2_init_89 ?_
  refine sw_topE (v := nI 1) (by decide) ?_
  refine sw_iadd dX2_init_90 ?_
  refine sw_topE (v := nI 5) (by decide) ?_
  refine sw_bi 10 dX2_init_91 (by decide +kernel) ?_
  refine sw_iast (5) (by decide) (f := (upd (fun _ => 0) 0 (nI 10))) (nn := 32) rfl rfl (by decide) (by decide) dX2_init_93 ?_
  refine sw_weq (aw2 := am_up (am_up (am_up (am_up (aw) 9 (am_O 1 [.ref 10, .ref 11, .ref 12, .ref 13, .ref 14, .int 0, .int 0, .int 0, .int 0, .int 0, .int 0, .int 0])) 10 (am_I .int 32 (upd (upd (fun _ => 0) 0 (nI 10)) 5 (nI 10)))) 12 (am_I .int 4 (upd (upd (upd (upd (fun _ => 0) 0 (nI 1)) 1 (nI 2)) 2 (nI 5)) 3 (nI 9)))) 13 (am_I .int 8 (upd (fun _ => 0) 0 (nI 1)))) ?_ ?_
  ·
    funext c
    by_cases e9 : c = 9
    · subst e9
      rfl
    by_cases e10 : c = 10
    · subst e10
      rfl
    by_cases e12 : c = 12
    · subst e12
      rfl
    by_cases e13 : c = 13
    · subst e13
      rfl
    simp only [am_up_ne _ _ e9, am_up_ne _ _ e10, am_up_ne _ _ e12, am_up_ne _ _ e13]
  refine sw_aload_n (i := 0) dX2_init_94 rfl rfl ?_
  refine sw_get (fs := [.ref 10, .ref 11, .ref 12, .ref 13, .ref 14, .int 0, .int 0, .int 0, .int 0, .int 0, .int 0, .int 0]) f_X2_21 (by decide) rfl (v := .ref 13) rfl dX2_init_95 ?_
  refine sw_iload_n (i := 1) dX2_init_98 rfl rfl ?_
  refine sw_iload_n (i := 1) dX2_init_99 rfl rfl ?_
  refine sw_ins (pc2 := 100) rfl rfl ?_
  refine sw_ic 1 dX2_init_100 ?_
  refine sw_iadd dX2_init_101 ?_
  refine sw_topE (v := nI 2) (by decide) ?_
  refine sw_bi 8 dX2_init_102 (by decide +kernel) ?_
  refine sw_irem (by decide) dX2_init_104 ?_
  refine sw_topE (v := nI 2) (by decide) ?_
  refine sw_iast (1) (by decide) (f := (upd (fun _ => 0) 0 (nI 1))) (nn := 8) rfl rfl (by decide) (by decide) dX2_init_105 ?_
  refine sw_weq (aw2 := am_up (am_up (am_up (am_up (aw) 9 (am_O 1 [.ref 10, .ref 11, .ref 12, .ref 13, .ref 14, .int 0, .int 0, .int 0, .int 0, .int 0, .int 0, .int 0])) 10 (am_I .int 32 (upd (upd (fun _ => 0) 0 (nI 10)) 5 (nI 10)))) 12 (am_I .int 4 (upd (upd (upd (upd (fun _ => 0) 0 (nI 1)) 1 (nI 2)) 2 (nI 5)) 3 (nI 9)))) 13 (am_I .int 8 (upd (upd (fun _ => 0) 0 (nI 1)) 1 (nI 2)))) ?_ ?_
  ·
    funext c
    by_cases e9 : c = 9
    · subst e9
      rfl
    by_cases e10 : c = 10
    · subst e10
      rfl
    by_cases e12 : c = 12
    · subst e12
      rfl
    by_cases e13 : c = 13
    · subst e13
      rfl
    simp only [am_up_ne _ _ e9, am_up_ne _ _ e10, am_up_ne _ _ e12, am_up_ne _ _ e13]
  refine sw_iinc (i := 1) (v := nI 2) dX2_init_106 rfl (by decide) (Nat.le_of_ble_eq_true rfl) rfl ?_
  refine sw_lo (lo2 := [some (.ref 9), some (.int _)]) rfl ?_
  refine sw_goto (tgt := 74) dX2_init_109 rfl ?_
  refine sw_iload_n (i := 1) dX2_init_74 rfl rfl ?_
  refine sw_ins (pc2 := 75) rfl rfl ?_
  refine sw_bi 8 dX2_init_75 (by decide +kernel) ?_
  refine sw_ic_ge (tgt := 112) dX2_init_77 rfl (fun h9 => absurd h9 (by decide)) (fun _ => ?_)
  refine sw_aload_n (i := 0) dX2_init_80 rfl rfl ?_
  refine sw_get (fs := [.ref 10, .ref 11, .ref 12, .ref 13, .ref 14, .int 0, .int 0, .int 0, .int 0, .int 0, .int 0, .int 0]) f_X2_9 (by decide) rfl (v := .ref 10) rfl dX2_init_81 ?_
  refine sw_iload_n (i := 1) dX2_init_84 rfl rfl ?_
  refine sw_ic 4 dX2_init_85 ?_
  refine sw_imul dX2_init_86 ?_
  refine sw_topE (v := nI 8) (by decide) ?_
  refine sw_iload_n (i := 1) dX2_init_87 rfl rfl ?_
  refine sw_ins (pc2 := 88) rfl rfl ?_
  refine sw_ic 4 dX2_init_88 ?_
  refine sw_irem (by decide) dX2_init_89 ?_
  refine sw_topE (v := nI 2) (by decide) ?_
  refine sw_iadd dX2_init_90 ?_
  refine sw_topE (v := nI 10) (by decide) ?_
  refine sw_bi 10 dX2_init_91 (by decide +kernel) ?_
  refine sw_iast (10) (by decide) (f := (upd (upd (fun _ => 0) 0 (nI 10)) 5 (nI 10))) (nn := 32) rfl rfl (by decide) (by decide) dX2_init_93 ?_
  refine sw_weq (aw2 := am_up (am_up (am_up (am_up (aw) 9 (am_O 1 [.ref 10, .ref 11, .ref 12, .ref 13, .ref 14, .int 0, .int 0, .int 0, .int 0, .int 0, .int 0, .int 0])) 10 (am_I .int 32 (upd (upd (upd (fun _ => 0) 0 (nI 10)) 5 (nI 10)) 10 (nI 10)))) 12 (am_I .int 4 (upd (upd (upd (upd (fun _ => 0) 0 (nI 1)) 1 (nI 2)) 2 (nI 5)) 3 (nI 9)))) 13 (am_I .int 8 (upd (upd (fun _ => 0) 0 (nI 1)) 1 (nI 2)))) ?_ ?_
  ·
    funext c
    by_cases e9 : c = 9
    · subst e9
      rfl
    by_cases e10 : c = 10
    · subst e10
      rfl
    by_cases e12 : c = 12
    · subst e12
      rfl
    by_cases e13 : c = 13
    · subst e13
      rfl
    simp only [am_up_ne _ _ e9, am_up_ne _ _ e10, am_up_ne _ _ e12, am_up_ne _ _ e13]
  refine sw_aload_n (i := 0) dX2_init_94 rfl rfl ?_
  refine sw_get (fs := [.ref 10, .ref 11, .ref 12, .ref 13, .ref 14, .int 0, .int 0, .int 0, .int 0, .int 0, .int 0, .int 0]) f_X2_21 (by decide) rfl (v := .ref 13) rfl dX2_init_95 ?_
  refine sw_iload_n (i := 1) dX2_init_98 rfl rfl ?_
  refine sw_ins (pc2 := 99) rfl rfl ?_
  refine sw_iload_n (i := 1) dX2_init_99 rfl rfl ?_
  refine sw_ic 1 dX2_init_100 ?_
  refine sw_iadd dX2_init_101 ?_
  refine sw_topE (v := nI 3) (by decide) ?_
  refine sw_bi 8 dX2_init_102 (by decide +kernel) ?_
  refine sw_irem (by decide) dX2_init_104 ?_
  refine sw_topE (v := nI 3) (by decide) ?_
  refine sw_iast (2) (by decide) (f := (upd (upd (fun _ => 0) 0 (nI 1)) 1 (nI 2))) (nn := 8) rfl rfl (by decide) (by decide) dX2_init_105 ?_
  refine sw_weq (aw2 := am_up (am_up (am_up (am_up (aw) 9 (am_O 1 [.ref 10, .ref 11, .ref 12, .ref 13, .ref 14, .int 0, .int 0, .int 0, .int 0, .int 0, .int 0, .int 0])) 10 (am_I .int 32 (upd (upd (upd (fun _ => 0) 0 (nI 10)) 5 (nI 10)) 10 (nI 10)))) 12 (am_I .int 4 (upd (upd (upd (upd (fun _ => 0) 0 (nI 1)) 1 (nI 2)) 2 (nI 5)) 3 (nI 9)))) 13 (am_I .int 8 (upd (upd (upd (fun _ => 0) 0 (nI 1)) 1 (nI 2)) 2 (nI 3)))) ?_ ?_
  ·
    funext c
    by_cases e9 : c = 9
    · subst e9
      rfl
    by_cases e10 : c = 10
    · subst e10
      rfl
    by_cases e12 : c = 12
    · subst e12
      rfl
    by_cases e13 : c = 13
    · subst e13
      rfl
    simp only [am_up_ne _ _ e9, am_up_ne _ _ e10, am_up_ne _ _ e12, am_up_ne _ _ e13]
  refine sw_iinc (i := 1) (v := nI 3) dX2_init_106 rfl (by decide) (Nat.le_of_ble_eq_true rfl) rfl ?_
  refine sw_lo (lo2 := [some (.ref 9), some (.int _)]) rfl ?_
  refine sw_goto (tgt := 74) dX2_init_109 rfl ?_
  refine sw_ins (pc2 := 74) rfl rfl ?_
  refine sw_iload_n (i := 1) dX2_init_74 rfl rfl ?_
  refine sw_bi 8 dX2_init_75 (by decide +kernel) ?_
  refine sw_ic_ge (tgt := 112) dX2_init_77 rfl (fun h9 => absurd h9 (by decide)) (fun _ => ?_)
  refine sw_aload_n (i := 0) dX2_init_80 rfl rfl ?_
  refine sw_get (fs := [.ref 10, .ref 11, .ref 12, .ref 13, .ref 14, .int 0, .int 0, .int 0, .int 0, .int 0, .int 0, .int 0]) f_X2_9 (by decide) rfl (v := .ref 10) rfl dX2_init_81 ?_
  refine sw_iload_n (i := 1) dX2_init_84 rfl rfl ?_
  refine sw_ic 4 dX2_init_85 ?_
  refine sw_imul dX2_init_86 ?_
  refine sw_topE (v := nI 12) (by decide) ?_
  refine sw_ins (pc2 := 87) rfl rfl ?_
  refine sw_iload_n (i := 1) dX2_init_87 rfl rfl ?_
  refine sw_ic 4 dX2_init_88 ?_
  refine sw_irem (by decide) dX2_init_89 ?_
  refine sw_topE (v := nI 3) (by decide) ?_
  refine sw_iadd dX2_init_90 ?_
  refine sw_topE (v := nI 15) (by decide) ?_
  refine sw_bi 10 dX2_init_91 (by decide +kernel) ?_
  refine sw_iast (15) (by decide) (f := (upd (upd (upd (fun _ => 0) 0 (nI 10)) 5 (nI 10)) 10 (nI 10))) (nn := 32) rfl rfl (by decide) (by decide) dX2_init_93 ?_
  refine sw_weq (aw2 := am_up (am_up (am_up (am_up (aw) 9 (am_O 1 [.ref 10, .ref 11, .ref 12, .ref 13, .ref 14, .int 0, .int 0, .int 0, .int 0, .int 0, .int 0, .int 0])) 10 (am_I .int 32 (upd (upd (upd (upd (fun _ => 0) 0 (nI 10)) 5 (nI 10)) 10 (nI 10)) 15 (nI 10)))) 12 (am_I .int 4 (upd (upd (upd (upd (fun _ => 0) 0 (nI 1)) 1 (nI 2)) 2 (nI 5)) 3 (nI 9)))) 13 (am_I .int 8 (upd (upd (upd (fun _ => 0) 0 (nI 1)) 1 (nI 2)) 2 (nI 3)))) ?_ ?_
  ·
    funext c
    by_cases e9 : c = 9
    · subst e9
      rfl
    by_cases e10 : c = 10
    · subst e10
      rfl
    by_cases e12 : c = 12
    · subst e12
      rfl
    by_cases e13 : c = 13
    · subst e13
      rfl
    simp only [am_up_ne _ _ e9, am_up_ne _ _ e10, am_up_ne _ _ e12, am_up_ne _ _ e13]
  refine sw_aload_n (i := 0) dX2_init_94 rfl rfl ?_
  refine sw_get (fs := [.ref 10, .ref 11, .ref 12, .ref 13, .ref 14, .int 0, .int 0, .int 0, .int 0, .int 0, .int 0, .int 0]) f_X2_21 (by decide) rfl (v := .ref 13) rfl dX2_init_95 ?_
  refine sw_ins (pc2 := 98) rfl rfl ?_
  refine sw_iload_n (i := 1) dX2_init_98 rfl rfl ?_
  refine sw_iload_n (i := 1) dX2_init_99 rfl rfl ?_
  refine sw_ic 1 dX2_init_100 ?_
  refine sw_iadd dX2_init_101 ?_
  refine sw_topE (v := nI 4) (by decide) ?_
  refine sw_bi 8 dX2_init_102 (by decide +kernel) ?_
  refine sw_irem (by decide) dX2_init_104 ?_
  refine sw_topE (v := nI 4) (by decide) ?_
  refine sw_iast (3) (by decide) (f := (upd (upd (upd (fun _ => 0) 0 (nI 1)) 1 (nI 2)) 2 (nI 3))) (nn := 8) rfl rfl (by decide) (by decide) dX2_init_105 ?_
  refine sw_weq (aw2 := am_up (am_up (am_up (am_up (aw) 9 (am_O 1 [.ref 10, .ref 11, .ref 12, .ref 13, .ref 14, .int 0, .int 0, .int 0, .int 0, .int 0, .int 0, .int 0])) 10 (am_I .int 32 (upd (upd (upd (upd (fun _ => 0) 0 (nI 10)) 5 (nI 10)) 10 (nI 10)) 15 (nI 10)))) 12 (am_I .int 4 (upd (upd (upd (upd (fun _ => 0) 0 (nI 1)) 1 (nI 2)) 2 (nI 5)) 3 (nI 9)))) 13 (am_I .int 8 (upd (upd (upd (upd (fun _ => 0) 0 (nI 1)) 1 (nI 2)) 2 (nI 3)) 3 (nI 4)))) ?_ ?_
  ·
    funext c
    by_cases e9 : c = 9
    · subst e9
      rfl
    by_cases e10 : c = 10
    · subst e10
      rfl
    by_cases e12 : c = 12
    · subst e12
      rfl
    by_cases e13 : c = 13
    · subst e13
      rfl
    simp only [am_up_ne _ _ e9, am_up_ne _ _ e10, am_up_ne _ _ e12, am_up_ne _ _ e13]
  refine sw_iinc (i := 1) (v := nI 4) dX2_init_106 rfl (by decide) (Nat.le_of_ble_eq_true rfl) rfl ?_
  refine sw_lo (lo2 := [some (.ref 9), some (.int _)]) rfl ?_
  refine sw_ins (pc2 := 109) rfl rfl ?_
  refine sw_goto (tgt := 74) dX2_init_109 rfl ?_
  refine sw_iload_n (i := 1) dX2_init_74 rfl rfl ?_
  refine sw_bi 8 dX2_init_75 (by decide +kernel) ?_
  refine sw_ic_ge (tgt := 112) dX2_init_77 rfl (fun h9 => absurd h9 (by decide)) (fun _ => ?_)
  refine sw_aload_n (i := 0) dX2_init_80 rfl rfl ?_
  refine sw_get (fs := [.ref 10, .ref 11, .ref 12, .ref 13, .ref 14, .int 0, .int 0, .int 0, .int 0, .int 0, .int 0, .int 0]) f_X2_9 (by decide) rfl (v := .ref 10) rfl dX2_init_81 ?_
  refine sw_iload_n (i := 1) dX2_init_84 rfl rfl ?_
  refine sw_ic 4 dX2_init_85 ?_
  refine sw_ins (pc2 := 86) rfl rfl ?_
  refine sw_imul dX2_init_86 ?_
  refine sw_topE (v := nI 16) (by decide) ?_
  refine sw_iload_n (i := 1) dX2_init_87 rfl rfl ?_
  refine sw_ic 4 dX2_init_88 ?_
  refine sw_irem (by decide) dX2_init_89 ?_
  refine sw_topE (v := nI 0) (by decide) ?_
  refine sw_iadd dX2_init_90 ?_
  refine sw_topE (v := nI 16) (by decide) ?_
  refine sw_bi 10 dX2_init_91 (by decide +kernel) ?_
  refine sw_iast (16) (by decide) (f := (upd (upd (upd (upd (fun _ => 0) 0 (nI 10)) 5 (nI 10)) 10 (nI 10)) 15 (nI 10))) (nn := 32) rfl rfl (by decide) (by decide) dX2_init_93 ?_
  refine sw_weq (aw2 := am_up (am_up (am_up (am_up (aw) 9 (am_O 1 [.ref 10, .ref 11, .ref 12, .ref 13, .ref 14, .int 0, .int 0, .int 0, .int 0, .int 0, .int 0, .int 0])) 10 (am_I .int 32 (upd (upd (upd (upd (upd (fun _ => 0) 0 (nI 10)) 5 (nI 10)) 10 (nI 10)) 15 (nI 10)) 16 (nI 10)))) 12 (am_I .int 4 (upd (upd (upd (upd (fun _ => 0) 0 (nI 1)) 1 (nI 2)) 2 (nI 5)) 3 (nI 9)))) 13 (am_I .int 8 (upd (upd (upd (upd (fun _ => 0) 0 (nI 1)) 1 (nI 2)) 2 (nI 3)) 3 (nI 4)))) ?_ ?_
  ·
    funext c
    by_cases e9 : c = 9
    · subst e9
      rfl
    by_cases e10 : c = 10
    · subst e10
      rfl
    by_cases e12 : c = 12
    · subst e12
      rfl
    by_cases e13 : c = 13
    · subst e13
      rfl
    simp only [am_up_ne _ _ e9, am_up_ne _ _ e10, am_up_ne _ _ e12, am_up_ne _ _ e13]
  refine sw_aload_n (i := 0) dX2_init_94 rfl rfl ?_
  refine sw_get (fs := [.ref 10, .ref 11, .ref 12, .ref 13, .ref 14, .int 0, .int 0, .int 0, .int 0, .int 0, .int 0, .int 0]) f_X2_21 (by decide) rfl (v := .ref 13) rfl dX2_init_95 ?_
  refine sw_iload_n (i := 1) dX2_init_98 rfl rfl ?_
  refine sw_iload_n (i := 1) dX2_init_99 rfl rfl ?_
  refine sw_ic 1 dX2_init_100 ?_
  refine sw_iadd dX2_init_101 ?_
  refine sw_topE (v := nI 5) (by decide) ?_
  refine sw_bi 8 dX2_init_102 (by decide +kernel) ?_
  refine sw_irem (by decide) dX2_init_104 ?_
  refine sw_topE (v := nI 5) (by decide) ?_
  refine sw_iast (4) (by decide) (f := (upd (upd (upd (upd (fun _ => 0) 0 (nI 1)) 1 (nI 2)) 2 (nI 3)) 3 (nI 4))) (nn := 8) rfl rfl (by decide) (by decide) dX2_init_105 ?_
  refine sw_weq (aw2 := am_up (am_up (am_up (am_up (aw) 9 (am_O 1 [.ref 10, .ref 11, .ref 12, .ref 13, .ref 14, .int 0, .int 0, .int 0, .int 0, .int 0, .int 0, .int 0])) 10 (am_I .int 32 (upd (upd (upd (upd (upd (fun _ => 0) 0 (nI 10)) 5 (nI 10)) 10 (nI 10)) 15 (nI 10)) 16 (nI 10)))) 12 (am_I .int 4 (upd (upd (upd (upd (fun _ => 0) 0 (nI 1)) 1 (nI 2)) 2 (nI 5)) 3 (nI 9)))) 13 (am_I .int 8 (upd (upd (upd (upd (upd (fun _ => 0) 0 (nI 1)) 1 (nI 2)) 2 (nI 3)) 3 (nI 4)) 4 (nI 5)))) ?_ ?_
  ·
    funext c
    by_cases e9 : c = 9
    · subst e9
      rfl
    by_cases e10 : c = 10
    · subst e10
      rfl
    by_cases e12 : c = 12
    · subst e12
      rfl
    by_cases e13 : c = 13
    · subst e13
      rfl
    simp only [am_up_ne _ _ e9, am_up_ne _ _ e10, am_up_ne _ _ e12, am_up_ne _ _ e13]
  refine sw_ins (pc2 := 106) rfl rfl ?_
  refine sw_iinc (i := 1) (v := nI 5) dX2_init_106 rfl (by decide) (Nat.le_of_ble_eq_true rfl) rfl ?_
  refine sw_lo (lo2 := [some (.ref 9), some (.int _)]) rfl ?_
  refine sw_goto (tgt := 74) dX2_init_109 rfl ?_
  refine sw_iload_n (i := 1) dX2_init_74 rfl rfl ?_
  refine sw_bi 8 dX2_init_75 (by decide +kernel) ?_
  refine sw_ic_ge (tgt := 112) dX2_init_77 rfl (fun h9 => absurd h9 (by decide)) (fun _ => ?_)
  refine sw_aload_n (i := 0) dX2_init_80 rfl rfl ?_
  refine sw_get (fs := [.ref 10, .ref 11, .ref 12, .ref 13, .ref 14, .int 0, .int 0, .int 0, .int 0, .int 0, .int 0, .int 0]) f_X2_9 (by decide) rfl (v := .ref 10) rfl dX2_init_81 ?_
  refine sw_iload_n (i := 1) dX2_init_84 rfl rfl ?_
  refine sw_ins (pc2 := 85) rfl rfl ?_
  refine sw_ic 4 dX2_init_85 ?_
  refine sw_imul dX2_init_86 ?_
  refine sw_topE (v := nI 20) (by decide) ?_
  refine sw_iload_n (i := 1) dX2_init_87 rfl rfl ?_
  refine sw_ic 4 dX2_init_88 ?_
  refine sw_irem (by decide) dX2_init_89 ?_
  refine sw_topE (v := nI 1) (by decide) ?_
  refine sw_iadd dX2_init_90 ?_
  refine sw_topE (v := nI 21) (by decide) ?_
  refine sw_bi 10 dX2_init_91 (by decide +kernel) ?_
  refine sw_iast (21) (by decide) (f := (upd (upd (upd (upd (upd (fun _ => 0) 0 (nI 10)) 5 (nI 10)) 10 (nI 10)) 15 (nI 10)) 16 (nI 10))) (nn := 32) rfl rfl (by decide) (by decide) dX2_init_93 ?_
  refine sw_weq (aw2 := am_up (am_up (am_up (am_up (aw) 9 (am_O 1 [.ref 10, .ref 11, .ref 12, .ref 13, .ref 14, .int 0, .int 0, .int 0, .int 0, .int 0, .int 0, .int 0])) 10 (am_I .int 32 (upd (upd (upd (upd (upd (upd (fun _ => 0) 0 (nI 10)) 5 (nI 10)) 10 (nI 10)) 15 (nI 10)) 16 (nI 10)) 21 (nI 10)))) 12 (am_I .int 4 (upd (upd (upd (upd (fun _ => 0) 0 (nI 1)) 1 (nI 2)) 2 (nI 5)) 3 (nI 9)))) 13 (am_I .int 8 (upd (upd (upd (upd (upd (fun _ => 0) 0 (nI 1)) 1 (nI 2)) 2 (nI 3)) 3 (nI 4)) 4 (nI 5)))) ?_ ?_
  ·
    funext c
    by_cases e9 : c = 9
    · subst e9
      rfl
    by_cases e10 : c = 10
    · subst e10
      rfl
    by_cases e12 : c = 12
    · subst e12
      rfl
    by_cases e13 : c = 13
    · subst e13
      rfl
    simp only [am_up_ne _ _ e9, am_up_ne _ _ e10, am_up_ne _ _ e12, am_up_ne _ _ e13]
  refine sw_ins (pc2 := 94) rfl rfl ?_
  refine sw_aload_n (i := 0) dX2_init_94 rfl rfl ?_
  refine sw_get (fs := [.ref 10, .ref 11, .ref 12, .ref 13, .ref 14, .int 0, .int 0, .int 0, .int 0, .int 0, .int 0, .int 0]) f_X2_21 (by decide) rfl (v := .ref 13) rfl dX2_init_95 ?_
  refine sw_iload_n (i := 1) dX2_init_98 rfl rfl ?_
  refine sw_iload_n (i := 1) dX2_init_99 rfl rfl ?_
  refine sw_ic 1 dX2_init_100 ?_
  refine sw_iadd dX2_init_101 ?_
  refine sw_topE (v := nI 6) (by decide) ?_
  refine sw_bi 8 dX2_init_102 (by decide +kernel) ?_
  refine sw_irem (by decide) dX2_init_104 ?_
  refine sw_topE (v := nI 6) (by decide) ?_
  refine sw_iast (5) (by decide) (f := (upd (upd (upd (upd (upd (fun _ => 0) 0 (nI 1)) 1 (nI 2)) 2 (nI 3)) 3 (nI 4)) 4 (nI 5))) (nn := 8) rfl rfl (by decide) (by decide) dX2_init_105 ?_
  refine sw_weq (aw2 := am_up (am_up (am_up (am_up (aw) 9 (am_O 1 [.ref 10, .ref 11, .ref 12, .ref 13, .ref 14, .int 0, .int 0, .int 0, .int 0, .int 0, .int 0, .int 0])) 10 (am_I .int 32 (upd (upd (upd (upd (upd (upd (fun _ => 0) 0 (nI 10)) 5 (nI 10)) 10 (nI 10)) 15 (nI 10)) 16 (nI 10)) 21 (nI 10)))) 12 (am_I .int 4 (upd (upd (upd (upd (fun _ => 0) 0 (nI 1)) 1 (nI 2)) 2 (nI 5)) 3 (nI 9)))) 13 (am_I .int 8 (upd (upd (upd (upd (upd (upd (fun _ => 0) 0 (nI 1)) 1 (nI 2)) 2 (nI 3)) 3 (nI 4)) 4 (nI 5)) 5 (nI 6)))) ?_ ?_
  ·
    funext c
    by_cases e9 : c = 9
    · subst e9
      rfl
    by_cases e10 : c = 10
    · subst e10
      rfl
    by_cases e12 : c = 12
    · subst e12
      rfl
    by_cases e13 : c = 13
    · subst e13
      rfl
    simp only [am_up_ne _ _ e9, am_up_ne _ _ e10, am_up_ne _ _ e12, am_up_ne _ _ e13]
  refine sw_iinc (i := 1) (v := nI 6) dX2_init_106 rfl (by decide) (Nat.le_of_ble_eq_true rfl) rfl ?_
  refine sw_lo (lo2 := [some (.ref 9), some (.int _)]) rfl ?_
  refine sw_goto (tgt := 74) dX2_init_109 rfl ?_
  refine sw_iload_n (i := 1) dX2_init_74 rfl rfl ?_
  refine sw_bi 8 dX2_init_75 (by decide +kernel) ?_
  refine sw_ic_ge (tgt := 112) dX2_init_77 rfl (fun h9 => absurd h9 (by decide)) (fun _ => ?_)
  refine sw_aload_n (i := 0) dX2_init_80 rfl rfl ?_
  refine sw_get (fs := [.ref 10, .ref 11, .ref 12, .ref 13, .ref 14, .int 0, .int 0, .int 0, .int 0, .int 0, .int 0, .int 0]) f_X2_9 (by decide) rfl (v := .ref 10) rfl dX2_init_81 ?_
  refine sw_ins (pc2 := 84) rfl rfl ?_
  refine sw_iload_n (i := 1) dX2_init_84 rfl rfl ?_
  refine sw_ic 4 dX2_init_85 ?_
  refine sw_imul dX2_init_86 ?_
  refine sw_topE (v := nI 24) (by decide) ?_
  refine sw_iload_n (i := 1) dX2_init_87 rfl rfl ?_
  refine sw_ic 4 dX2_init_88 ?_
  refine sw_irem (by decide) dX2_init_89 ?_
  refine sw_topE (v := nI 2) (by decide) ?_
  refine sw_iadd dX2_init_90 ?_
  refine sw_topE (v := nI 26) (by decide) ?_
  refine sw_bi 10 dX2_init_91 (by decide +kernel) ?_
  refine sw_iast (26) (by decide) (f := (upd (upd (upd (upd (upd (upd (fun _ => 0) 0 (nI 10)) 5 (nI 10)) 10 (nI 10)) 15 (nI 10)) 16 (nI 10)) 21 (nI 10))) (nn := 32) rfl rfl (by decide) (by decide) dX2_init_93 ?_
  refine sw_weq (aw2 := am_up (am_up (am_up (am_up (aw) 9 (am_O 1 [.ref 10, .ref 11, .ref 12, .ref 13, .ref 14, .int 0, .int 0, .int 0, .int 0, .int 0, .int 0, .int 0])) 10 (am_I .int 32 (upd (upd (upd (upd (upd (upd (upd (fun _ => 0) 0 (nI 10)) 5 (nI 10)) 10 (nI 10)) 15 (nI 10)) 16 (nI 10)) 21 (nI 10)) 26 (nI 10)))) 12 (am_I .int 4 (upd (upd (upd (upd (fun _ => 0) 0 (nI 1)) 1 (nI 2)) 2 (nI 5)) 3 (nI 9)))) 13 (am_I .int 8 (upd (upd (upd (upd (upd (upd (fun _ => 0) 0 (nI 1)) 1 (nI 2)) 2 (nI 3)) 3 (nI 4)) 4 (nI 5)) 5 (nI 6)))) ?_ ?_
  ·
    funext c
    by_cases e9 : c = 9
    · subst e9
      rfl
    by_cases e10 : c = 10
    · subst e10
      rfl
    by_cases e12 : c = 12
    · subst e12
      rfl
    by_cases e13 : c = 13
    · subst e13
      rfl
    simp only [am_up_ne _ _ e9, am_up_ne _ _ e10, am_up_ne _ _ e12, am_up_ne _ _ e13]
  refine sw_aload_n (i := 0) dX2_init_94 rfl rfl ?_
  refine sw_get (fs := [.ref 10, .ref 11, .ref 12, .ref 13, .ref 14, .int 0, .int 0, .int 0, .int 0, .int 0, .int 0, .int 0]) f_X2_21 (by decide) rfl (v := .ref 13) rfl dX2_init_95 ?_
  refine sw_iload_n (i := 1) dX2_init_98 rfl rfl ?_
  refine sw_iload_n (i := 1) dX2_init_99 rfl rfl ?_
  refine sw_ic 1 dX2_init_100 ?_
  refine sw_iadd dX2_init_101 ?_
  refine sw_topE (v := nI 7) (by decide) ?_
  refine sw_bi 8 dX2_init_102 (by decide +kernel) ?_
  refine sw_irem (by decide) dX2_init_104 ?_
  refine sw_topE (v := nI 7) (by decide) ?_
  refine sw_iast (6) (by decide) (f := (upd (upd (upd (upd (upd (upd (fun _ => 0) 0 (nI 1)) 1 (nI 2)) 2 (nI 3)) 3 (nI 4)) 4 (nI 5)) 5 (nI 6))) (nn := 8) rfl rfl (by decide) (by decide) dX2_init_105 ?_
  refine sw_weq (aw2 := am_up (am_up (am_up (am_up (aw) 9 (am_O 1 [.ref 10, .ref 11, .ref 12, .ref 13, .ref 14, .int 0, .int 0, .int 0, .int 0, .int 0, .int 0, .int 0])) 10 (am_I .int 32 (upd (upd (upd (upd (upd (upd (upd (fun _ => 0) 0 (nI 10)) 5 (nI 10)) 10 (nI 10)) 15 (nI 10)) 16 (nI 10)) 21 (nI 10)) 26 (nI 10)))) 12 (am_I .int 4 (upd (upd (upd (upd (fun _ => 0) 0 (nI 1)) 1 (nI 2)) 2 (nI 5)) 3 (nI 9)))) 13 (am_I .int 8 (upd (upd (upd (upd (upd (upd (upd (fun _ => 0) 0 (nI 1)) 1 (nI 2)) 2 (nI 3)) 3 (nI 4)) 4 (nI 5)) 5 (nI 6)) 6 (nI 7)))) ?_ ?_
  ·
    funext c
    by_cases e9 : c = 9
    · subst e9
      rfl
    by_cases e10 : c = 10
    · subst e10
      rfl
    by_cases e12 : c = 12
    · subst e12
      rfl
    by_cases e13 : c = 13
    · subst e13
      rfl
    simp only [am_up_ne _ _ e9, am_up_ne _ _ e10, am_up_ne _ _ e12, am_up_ne _ _ e13]
  refine sw_iinc (i := 1) (v := nI 7) dX2_init_106 rfl (by decide) (Nat.le_of_ble_eq_true rfl) rfl ?_
  refine sw_lo (lo2 := [some (.ref 9), some (.int _)]) rfl ?_
  refine sw_goto (tgt := 74) dX2_init_109 rfl ?_
  refine sw_iload_n (i := 1) dX2_init_74 rfl rfl ?_
  refine sw_bi 8 dX2_init_75 (by decide +kernel) ?_
  refine sw_ic_ge (tgt := 112) dX2_init_77 rfl (fun h9 => absurd h9 (by decide)) (fun _ => ?_)
  refine sw_aload_n (i := 0) dX2_init_80 rfl rfl ?_
  refine sw_get (fs := [.ref 10, .ref 11, .ref 12, .ref 13, .ref 14, .int 0, .int 0, .int 0, .int 0, .int 0, .int 0, .int 0]) f_X2_9 (by decide) rfl (v := .ref 10) rfl dX2_init_81 ?_
  refine sw_iload_n (i := 1) dX2_init_84 rfl rfl ?_
  refine sw_ic 4 dX2_init_85 ?_
  refine sw_imul dX2_init_86 ?_
  refine sw_topE (v := nI 28) (by decide) ?_
  refine sw_iload_n (i := 1) dX2_init_87 rfl rfl ?_
  refine sw_ic 4 dX2_init_88 ?_
  refine sw_irem (by decide) dX2_init_89 ?_
  refine sw_topE (v := nI 3) (by decide) ?_
  refine sw_iadd dX2_init_90 ?_
  refine sw_topE (v := nI 31) (by decide) ?_
  refine sw_ins (pc2 := 91) rfl rfl ?_
  refine sw_bi 10 dX2_init_91 (by decide +kernel) ?_
  refine sw_iast (31) (by decide) (f := (upd (upd (upd (upd (upd (upd (upd (fun _ => 0) 0 (nI 10)) 5 (nI 10)) 10 (nI 10)) 15 (nI 10)) 16 (nI 10)) 21 (nI 10)) 26 (nI 10))) (nn := 32) rfl rfl (by decide) (by decide) dX2_init_93 ?_
  refine sw_weq (aw2 := am_up (am_up (am_up (am_up (aw) 9 (am_O 1 [.ref 10, .ref 11, .ref 12, .ref 13, .ref 14, .int 0, .int 0, .int 0, .int 0, .int 0, .int 0, .int 0])) 10 (am_I .int 32 (upd (upd (upd (upd (upd (upd (upd (upd (fun _ => 0) 0 (nI 10)) 5 (nI 10)) 10 (nI 10)) 15 (nI 10)) 16 (nI 10)) 21 (nI 10)) 26 (nI 10)) 31 (nI 10)))) 12 (am_I .int 4 (upd (upd (upd (upd (fun _ => 0) 0 (nI 1)) 1 (nI 2)) 2 (nI 5)) 3 (nI 9)))) 13 (am_I .int 8 (upd (upd (upd (upd (upd (upd (upd (fun _ => 0) 0 (nI 1)) 1 (nI 2)) 2 (nI 3)) 3 (nI 4)) 4 (nI 5)) 5 (nI 6)) 6 (nI 7)))) ?_ ?_
  ·
    funext c
    by_cases e9 : c = 9
    · subst e9
      rfl
    by_cases e10 : c = 10
    · subst e10
      rfl
    by_cases e12 : c = 12
    · subst e12
      rfl
    by_cases e13 : c = 13
    · subst e13
      rfl
    simp only [am_up_ne _ _ e9, am_up_ne _ _ e10, am_up_ne _ _ e12, am_up_ne _ _ e13]
  refine sw_aload_n (i := 0) dX2_init_94 rfl rfl ?_
  refine sw_get (fs := [.ref 10, .ref 11, .ref 12, .ref 13, .ref 14, .int 0, .int 0, .int 0, .int 0, .int 0, .int 0, .int 0]) f_X2_21 (by decide) rfl (v := .ref 13) rfl dX2_init_95 ?_
  refine sw_iload_n (i := 1) dX2_init_98 rfl rfl ?_
  refine sw_iload_n (i := 1) dX2_init_99 rfl rfl ?_
  refine sw_ic 1 dX2_init_100 ?_
  refine sw_iadd dX2_init_101 ?_
  refine sw_topE (v := nI 8) (by decide) ?_
  refine sw_ins (pc2 := 102) rfl rfl ?_
  refine sw_bi 8 dX2_init_102 (by decide +kernel) ?_
  refine sw_irem (by decide) dX2_init_104 ?_
  refine sw_topE (v := nI 0) (by decide) ?_
  refine sw_iast (7) (by decide) (f := (upd (upd (upd (upd (upd (upd (upd (fun _ => 0) 0 (nI 1)) 1 (nI 2)) 2 (nI 3)) 3 (nI 4)) 4 (nI 5)) 5 (nI 6)) 6 (nI 7))) (nn := 8) rfl rfl (by decide) (by decide) dX2_init_105 ?_
  refine sw_weq (aw2 := am_up (am_up (am_up (am_up (aw) 9 (am_O 1 [.ref 10, .ref 11, .ref 12, .ref 13, .ref 14, .int 0, .int 0, .int 0, .int 0, .int 0, .int 0, .int 0])) 10 (am_I .int 32 (upd (upd (upd (upd (upd (upd (upd (upd (fun _ => 0) 0 (nI 10)) 5 (nI 10)) 10 (nI 10)) 15 (nI 10)) 16 (nI 10)) 21 (nI 10)) 26 (nI 10)) 31 (nI 10)))) 12 (am_I .int 4 (upd (upd (upd (upd (fun _ => 0) 0 (nI 1)) 1 (nI 2)) 2 (nI 5)) 3 (nI 9)))) 13 (am_I .int 8 (upd (upd (upd (upd (upd (upd (upd (upd (fun _ => 0) 0 (nI 1)) 1 (nI 2)) 2 (nI 3)) 3 (nI 4)) 4 (nI 5)) 5 (nI 6)) 6 (nI 7)) 7 (nI 0)))) ?_ ?_
  ·
    funext c
    by_cases e9 : c = 9
    · subst e9
      rfl
    by_cases e10 : c = 10
    · subst e10
      rfl
    by_cases e12 : c = 12
    · subst e12
      rfl
    by_cases e13 : c = 13
    · subst e13
      rfl
    simp only [am_up_ne _ _ e9, am_up_ne _ _ e10, am_up_ne _ _ e12, am_up_ne _ _ e13]
  refine sw_iinc (i := 1) (v := nI 8) dX2_init_106 rfl (by decide) (Nat.le_of_ble_eq_true rfl) rfl ?_
  refine sw_lo (lo2 := [some (.ref 9), some (.int _)]) rfl ?_
  refine sw_goto (tgt := 74) dX2_init_109 rfl ?_
  refine sw_iload_n (i := 1) dX2_init_74 rfl rfl ?_
  refine sw_bi 8 dX2_init_75 (by decide +kernel) ?_
  refine sw_ic_ge (tgt := 112) dX2_init_77 rfl (fun _ => ?_) (fun h9 => absurd (by decide) h9)
  refine sw_weq (aw2 := aw) ?_ ?_
  ·
    funext c
    by_cases e9 : c = 9
    · subst e9
      exact (hz 9 (by decide) (by decide)).symm
    by_cases e10 : c = 10
    · subst e10
      exact (hz 10 (by decide) (by decide)).symm
    by_cases e12 : c = 12
    · subst e12
      exact (hz 12 (by decide) (by decide)).symm
    by_cases e13 : c = 13
    · subst e13
      exact (hz 13 (by decide) (by decide)).symm
    simp only [am_up_ne _ _ e9, am_up_ne _ _ e10, am_up_ne _ _ e12, am_up_ne _ _ e13]
  exact sw_return rfl dX2_init_112
set_option maxRecDepth 100000 in
set_option maxHeartbeats 4000000 in
theorem I_15 {aw : Nat → am_E} (hz : ∀ c, 15 ≤ c → c < 21 → aw c = z0 c) : am_AM kX2_init yX2_init 1 [.ref 15] 16 (am_up aw 15 (am_O 1 fs0_X2)) none 21 (aw) 5 108 := by
  refine am_of pl_X2_init (Nat.le_of_ble_eq_true rfl) ?_
  refine sw_aload_n (i := 0) dX2_init_0 rfl rfl ?_
  refine sw_oinit oi_X2_3 (by decide) (Nat.le_of_ble_eq_true rfl) dX2_init_1 ?_
  refine sw_aload_n (i := 0) dX2_init_4 rfl rfl ?_
  refine sw_bi 32 dX2_init_5 (by decide +kernel) ?_
  refine sw_newI (k2 := 4) (n2 := 76) ac_i rfl (fun _ => rfl) (nn := 32) rfl (by decide) (by decide) (by decide) (by decide) (by decide) dX2_init_7 ?_
  refine sw_putR rfl fp_X2_9 (fun _ => ⟨rfl, rfl⟩) (by decide) (fs := fs0_X2) rfl (by decide) dX2_init_9 ?_
  refine sw_weq (aw2 := am_up (am_up (aw) 15 (am_O 1 [.ref 16, .null, .null, .null, .null, .int 0, .int 0, .int 0, .int 0, .int 0, .int 0, .int 0])) 16 (am_I .int 32 (fun _ => 0))) ?_ ?_
  ·
    funext c
    by_cases e15 : c = 15
    · subst e15
      rfl
    by_cases e16 : c = 16
    · subst e16
      rfl
    simp only [am_up_ne _ _ e15, am_up_ne _ _ e16]
  refine sw_aload_n (i := 0) dX2_init_12 rfl rfl ?_
  refine sw_ins (pc2 := 13) rfl rfl ?_
  refine sw_bi 32 dX2_init_13 (by decide +kernel) ?_
  refine sw_newI (k2 := 3) (n2 := 44) ac_i rfl (fun _ => rfl) (nn := 32) rfl (by decide) (by decide) (by decide) (by decide) (by decide) dX2_init_15 ?_
  refine sw_weq (aw2 := am_up (am_up (aw) 15 (am_O 1 [.ref 16, .null, .null, .null, .null, .int 0, .int 0, .int 0, .int 0, .int 0, .int 0, .int 0])) 16 (am_I .int 32 (fun _ => 0))) ?_ ?_
  ·
    funext c
    by_cases e15 : c = 15
    · subst e15
      rfl
    by_cases e16 : c = 16
    · subst e16
      rfl
    by_cases e17 : c = 17
    · subst e17
      exact (hz 17 (by decide) (by decide)).symm
    simp only [am_up_ne _ _ e15, am_up_ne _ _ e16, am_up_ne _ _ e17]
  refine sw_putR rfl fp_X2_15 (fun _ => ⟨rfl, rfl⟩) (by decide) (fs := [.ref 16, .null, .null, .null, .null, .int 0, .int 0, .int 0, .int 0, .int 0, .int 0, .int 0]) rfl (by decide) dX2_init_17 ?_
  refine sw_weq (aw2 := am_up (am_up (aw) 15 (am_O 1 [.ref 16, .ref 17, .null, .null, .null, .int 0, .int 0, .int 0, .int 0, .int 0, .int 0, .int 0])) 16 (am_I .int 32 (fun _ => 0))) ?_ ?_
  ·
    funext c
    by_cases e15 : c = 15
    · subst e15
      rfl
    by_cases e16 : c = 16
    · subst e16
      rfl
    simp only [am_up_ne _ _ e15, am_up_ne _ _ e16]
  refine sw_aload_n (i := 0) dX2_init_20 rfl rfl ?_
  refine sw_ic 4 dX2_init_21 ?_
  refine sw_newI (k2 := 2) (n2 := 40) ac_i rfl (fun _ => rfl) (nn := 4) rfl (by decide) (by decide) (by decide) (by decide) (by decide) dX2_init_22 ?_
  refine sw_putR rfl fp_X2_18 (fun _ => ⟨rfl, rfl⟩) (by decide) (fs := [.ref 16, .ref 17, .null, .null, .null, .int 0, .int 0, .int 0, .int 0, .int 0, .int 0, .int 0]) rfl (by decide) dX2_init_24 ?_
  refine sw_weq (aw2 := am_up (am_up (am_up (aw) 15 (am_O 1 [.ref 16, .ref 17, .ref 18, .null, .null, .int 0, .int 0, .int 0, .int 0, .int 0, .int 0, .int 0])) 16 (am_I .int 32 (fun _ => 0))) 18 (am_I .int 4 (fun _ => 0))) ?_ ?_
  ·
    funext c
    by_cases e15 : c = 15
    · subst e15
      rfl
    by_cases e16 : c = 16
    · subst e16
      rfl
    by_cases e18 : c = 18
    · subst e18
      rfl
    simp only [am_up_ne _ _ e15, am_up_ne _ _ e16, am_up_ne _ _ e18]
  refine sw_aload_n (i := 0) dX2_init_27 rfl rfl ?_
  refine sw_ins (pc2 := 28) rfl rfl ?_
  refine sw_bi 8 dX2_init_28 (by decide +kernel) ?_
  refine sw_newI (k2 := 1) (n2 := 32) ac_i rfl (fun _ => rfl) (nn := 8) rfl (by decide) (by decide) (by decide) (by decide) (by decide) dX2_init_30 ?_
  refine sw_putR rfl fp_X2_21 (fun _ => ⟨rfl, rfl⟩) (by decide) (fs := [.ref 16, .ref 17, .ref 18, .null, .null, .int 0, .int 0, .int 0, .int 0, .int 0, .int 0, .int 0]) rfl (by decide) dX2_init_32 ?_
  refine sw_weq (aw2 := am_up (am_up (am_up (am_up (aw) 15 (am_O 1 [.ref 16, .ref 17, .ref 18, .ref 19, .null, .int 0, .int 0, .int 0, .int 0, .int 0, .int 0, .int 0])) 16 (am_I .int 32 (fun _ => 0))) 18 (am_I .int 4 (fun _ => 0))) 19 (am_I .int 8 (fun _ => 0))) ?_ ?_
  ·
    funext c
    by_cases e15 : c = 15
    · subst e15
      rfl
    by_cases e16 : c = 16
    · subst e16
      rfl
    by_cases e18 : c = 18
    · subst e18
      rfl
    by_cases e19 : c = 19
    · subst e19
      rfl
    simp only [am_up_ne _ _ e15, am_up_ne _ _ e16, am_up_ne _ _ e18, am_up_ne _ _ e19]
  refine sw_aload_n (i := 0) dX2_init_35 rfl rfl ?_
  refine sw_bi 32 dX2_init_36 (by decide +kernel) ?_
  refine sw_newI (k2 := 0) (n2 := 0) ac_i rfl (fun _ => rfl) (nn := 32) rfl (by decide) (by decide) (by decide) (by decide) (by decide) dX2_init_38 ?_
  refine sw_weq (aw2 := am_up (am_up (am_up (am_up (aw) 15 (am_O 1 [.ref 16, .ref 17, .ref 18, .ref 19, .null, .int 0, .int 0, .int 0, .int 0, .int 0, .int 0, .int 0])) 16 (am_I .int 32 (fun _ => 0))) 18 (am_I .int 4 (fun _ => 0))) 19 (am_I .int 8 (fun _ => 0))) ?_ ?_
  ·
    funext c
    by_cases e15 : c = 15
    · subst e15
      rfl
    by_cases e16 : c = 16
    · subst e16
      rfl
    by_cases e18 : c = 18
    · subst e18
      rfl
    by_cases e19 : c = 19
    · subst e19
      rfl
    by_cases e20 : c = 20
    · subst e20
      exact (hz 20 (by decide) (by decide)).symm
    simp only [am_up_ne _ _ e15, am_up_ne _ _ e16, am_up_ne _ _ e18, am_up_ne _ _ e19, am_up_ne _ _ e20]
  refine sw_putR rfl fp_X2_24 (fun _ => ⟨rfl, rfl⟩) (by decide) (fs := [.ref 16, .ref 17, .ref 18, .ref 19, .null, .int 0, .int 0, .int 0, .int 0, .int 0, .int 0, .int 0]) rfl (by decide) dX2_init_40 ?_
  refine sw_weq (aw2 := am_up (am_up (am_up (am_up (aw) 15 (am_O 1 [.ref 16, .ref 17, .ref 18, .ref 19, .ref 20, .int 0, .int 0, .int 0, .int 0, .int 0, .int 0, .int 0])) 16 (am_I .int 32 (fun _ => 0))) 18 (am_I .int 4 (fun _ => 0))) 19 (am_I .int 8 (fun _ => 0))) ?_ ?_
  ·
    funext c
    by_cases e15 : c = 15
    · subst e15
      rfl
    by_cases e16 : c = 16
    · subst e16
      rfl
    by_cases e18 : c = 18
    · subst e18
      rfl
    by_cases e19 : c = 19
    · subst e19
      rfl
    simp only [am_up_ne _ _ e15, am_up_ne _ _ e16, am_up_ne _ _ e18, am_up_ne _ _ e19]
  refine sw_aload_n (i := 0) dX2_init_43 rfl rfl ?_
  refine sw_get (fs := [.ref 16, .ref 17, .ref 18, .ref 19, .ref 20, .int 0, .int 0, .int 0, .int 0, .int 0, .int 0, .int 0]) f_X2_18 (by decide) rfl (v := .ref 18) rfl dX2_init_44 ?_
  refine sw_ic 0 dX2_init_47 ?_
  refine sw_ic 1 dX2_init_48 ?_
  refine sw_iast (0) (by decide) (f := (fun _ => 0)) (nn := 4) rfl rfl (by decide) (by decide) dX2_init_49 ?_
  refine sw_weq (aw2 := am_up (am_up (am_up (am_up (aw) 15 (am_O 1 [.ref 16, .ref 17, .ref 18, .ref 19, .ref 20, .int 0, .int 0, .int 0, .int 0, .int 0, .int 0, .int 0])) 16 (am_I .int 32 (fun _ => 0))) 18 (am_I .int 4 (upd (fun _ => 0) 0 (nI 1)))) 19 (am_I .int 8 (fun _ => 0))) ?_ ?_
  ·
    funext c
    by_cases e15 : c = 15
    · subst e15
      rfl
    by_cases e16 : c = 16
    · subst e16
      rfl
    by_cases e18 : c = 18
    · subst e18
      rfl
    by_cases e19 : c = 19
    · subst e19
      rfl
    simp only [am_up_ne _ _ e15, am_up_ne _ _ e16, am_up_ne _ _ e18, am_up_ne _ _ e19]
  refine sw_aload_n (i := 0) dX2_init_50 rfl rfl ?_
  refine sw_get (fs := [.ref 16, .ref 17, .ref 18, .ref 19, .ref 20, .int 0, .int 0, .int 0, .int 0, .int 0, .int 0, .int 0]) f_X2_18 (by decide) rfl (v := .ref 18) rfl dX2_init_51 ?_
  refine sw_ic 1 dX2_init_54 ?_
  refine sw_ic 2 dX2_init_55 ?_
  refine sw_iast (1) (by decide) (f := (upd (fun _ => 0) 0 (nI 1))) (nn := 4) rfl rfl (by decide) (by decide) dX2_init_56 ?_
  refine sw_weq (aw2 := am_up (am_up (am_up (am_up (aw) 15 (am_O 1 [.ref 16, .ref 17, .ref 18, .ref 19, .ref 20, .int 0, .int 0, .int 0, .int 0, .int 0, .int 0, .int 0])) 16 (am_I .int 32 (fun _ => 0))) 18 (am_I .int 4 (upd (upd (fun _ => 0) 0 (nI 1)) 1 (nI 2)))) 19 (am_I .int 8 (fun _ => 0))) ?_ ?_
  ·
    funext c
    by_cases e15 : c = 15
    · subst e15
      rfl
    by_cases e16 : c = 16
    · subst e16
      rfl
    by_cases e18 : c = 18
    · subst e18
      rfl
    by_cases e19 : c = 19
    · subst e19
      rfl
    simp only [am_up_ne _ _ e15, am_up_ne _ _ e16, am_up_ne _ _ e18, am_up_ne _ _ e19]
  refine sw_aload_n (i := 0) dX2_init_57 rfl rfl ?_
  refine sw_get (fs := [.ref 16, .ref 17, .ref 18, .ref 19, .ref 20, .int 0, .int 0, .int 0, .int 0, .int 0, .int 0, .int 0]) f_X2_18 (by decide) rfl (v := .ref 18) rfl dX2_init_58 ?_
  refine sw_ic 2 dX2_init_61 ?_
  refine sw_ic 5 dX2_init_62 ?_
  refine sw_iast (2) (by decide) (f := (upd (upd (fun _ => 0) 0 (nI 1)) 1 (nI 2))) (nn := 4) rfl rfl (by decide) (by decide) dX2_init_63 ?_
  refine sw_weq (aw2 := am_up (am_up (am_up (am_up (aw) 15 (am_O 1 [.ref 16, .ref 17, .ref 18, .ref 19, .ref 20, .int 0, .int 0, .int 0, .int 0, .int 0, .int 0, .int 0])) 16 (am_I .int 32 (fun _ => 0))) 18 (am_I .int 4 (upd (upd (upd (fun _ => 0) 0 (nI 1)) 1 (nI 2)) 2 (nI 5)))) 19 (am_I .int 8 (fun _ => 0))) ?_ ?_
  ·
    funext c
    by_cases e15 : c = 15
    · subst e15
      rfl
    by_cases e16 : c = 16
    · subst e16
      rfl
    by_cases e18 : c = 18
    · subst e18
      rfl
    by_cases e19 : c = 19
    · subst e19
      rfl
    simp only [am_up_ne _ _ e15, am_up_ne _ _ e16, am_up_ne _ _ e18, am_up_ne _ _ e19]
  refine sw_aload_n (i := 0) dX2_init_64 rfl rfl ?_
  refine sw_get (fs := [.ref 16, .ref 17, .ref 18, .ref 19, .ref 20, .int 0, .int 0, .int 0, .int 0, .int 0, .int 0, .int 0]) f_X2_18 (by decide) rfl (v := .ref 18) rfl dX2_init_65 ?_
  refine sw_ins (pc2 := 68) rfl rfl ?_
  refine sw_ic 3 dX2_init_68 ?_
  refine sw_bi 9 dX2_init_69 (by decide +kernel) ?_
  refine sw_iast (3) (by decide) (f := (upd (upd (upd (fun _ => 0) 0 (nI 1)) 1 (nI 2)) 2 (nI 5))) (nn := 4) rfl rfl (by decide) (by decide) dX2_init_71 ?_
  refine sw_weq (aw2 := am_up (am_up (am_up (am_up (aw) 15 (am_O 1 [.ref 16, .ref 17, .ref 18, .ref 19, .ref 20, .int 0, .int 0, .int 0, .int 0, .int 0, .int 0, .int 0])) 16 (am_I .int 32 (fun _ => 0))) 18 (am_I .int 4 (upd (upd (upd (upd (fun _ => 0) 0 (nI 1)) 1 (nI 2)) 2 (nI 5)) 3 (nI 9)))) 19 (am_I .int 8 (fun _ => 0))) ?_ ?_
  ·
    funext c
    by_cases e15 : c = 15
    · subst e15
      rfl
    by_cases e16 : c = 16
    · subst e16
      rfl
    by_cases e18 : c = 18
    · subst e18
      rfl
    by_cases e19 : c = 19
    · subst e19
      rfl
    simp only [am_up_ne _ _ e15, am_up_ne _ _ e16, am_up_ne _ _ e18, am_up_ne _ _ e19]
  refine sw_ic 0 dX2_init_72 ?_
  refine sw_istore_n (i := 1) dX2_init_73 rfl (Nat.le_of_ble_eq_true rfl) rfl ?_
  refine sw_lo (lo2 := [some (.ref 15), some (.int _)]) rfl ?_
  refine sw_iload_n (i := 1) dX2_init_74 rfl rfl ?_
  refine sw_bi 8 dX2_init_75 (by decide +kernel) ?_
  refine sw_ic_ge (tgt := 112) dX2_init_77 rfl (fun h9 => absurd h9 (by decide)) (fun _ => ?_)
  refine sw_ins (pc2 := 80) rfl rfl ?_
  refine sw_aload_n (i := 0) dX2_init_80 rfl rfl ?_
  refine sw_get (fs := [.ref 16, .ref 17, .ref 18, .ref 19, .ref 20, .int 0, .int 0, .int 0, .int 0, .int 0, .int 0, .int 0]) f_X2_9 (by decide) rfl (v := .ref 16) rfl dX2_init_81 ?_
  refine sw_iload_n (i := 1) dX2_init_84 rfl rfl ?_
  refine sw_ic 4 dX2_init_85 ?_
  refine sw_imul dX2_init_86 ?_
  refine sw_topE (v := nI 0) (by decide) ?_
  refine sw_iload_n (i := 1) dX2_init_87 rfl rfl ?_
  refine sw_ic 4 dX2_init_88 ?_
  refine sw_irem (by decide) dX2_init_89 ?_
  refine sw_topE (v := nI 0) (by decide) ?_
  refine sw_ins (pc2 := 90) rfl rfl ?_
  refine sw_iadd dX2_init_90 ?_
  refine sw_topE (v := nI 0) (by decide) ?_
  refine sw_bi 10 dX2_init_91 (by decide +kernel) ?_
  refine sw_iast (0) (by decide) (f := (fun _ => 0)) (nn := 32) rfl rfl (by decide) (by decide) dX2_init_93 ?_
  refine sw_weq (aw2 := am_up (am_up (am_up (am_up (aw) 15 (am_O 1 [.ref 16, .ref 17, .ref 18, .ref 19, .ref 20, .int 0, .int 0, .int 0, .int 0, .int 0, .int 0, .int 0])) 16 (am_I .int 32 (upd (fun _ => 0) 0 (nI 10)))) 18 (am_I .int 4 (upd (upd (upd (upd (fun _ => 0) 0 (nI 1)) 1 (nI 2)) 2 (nI 5)) 3 (nI 9)))) 19 (am_I .int 8 (fun _ => 0))) ?_ ?_
  ·
    funext c
    by_cases e15 : c = 15
    · subst e15
      rfl
    by_cases e16 : c = 16
    · subst e16
      rfl
    by_cases e18 : c = 18
    · subst e18
      rfl
    by_cases e19 : c = 19
    · subst e19
      rfl
    simp only [am_up_ne _ _ e15, am_up_ne _ _ e16, am_up_ne _ _ e18, am_up_ne _ _ e19]
  refine sw_aload_n (i := 0) dX2_init_94 rfl rfl ?_
  refine sw_get (fs := [.ref 16, .ref 17, .ref 18, .ref 19, .ref 20, .int 0, .int 0, .int 0, .int 0, .int 0, .int 0, .int 0]) f_X2_21 (by decide) rfl (v := .ref 19) rfl dX2_init_95 ?_
  refine sw_iload_n (i := 1) dX2_init_98 rfl rfl ?_
  refine sw_iload_n (i := 1) dX2_init_99 rfl rfl ?_
  refine sw_ic 1 dX2_init_100 ?_
  refine sw_ins (pc2 := 101) rfl rfl ?_
  refine sw_iadd dX2_init_101 ?_
  refine sw_topE (v := nI 1) (by decide) ?_
  refine sw_bi 8 dX2_init_102 (by decide +kernel) ?_
  refine sw_irem (by decide) dX2_init_104 ?_
  refine sw_topE (v := nI 1) (by decide) ?_
  refine sw_iast (0) (by decide) (f := (fun _ => 0)) (nn := 8) rfl rfl (by decide) (by decide) dX2_init_105 ?_
  refine sw_weq (aw2 := am_up (am_up (am_up (am_up (aw) 15 (am_O 1 [.ref 16, .ref 17, .ref 18, .ref 19, .ref 20, .int 0, .int 0, .int 0, .int 0, .int 0, .int 0, .int 0])) 16 (am_I .int 32 (upd (fun _ => 0) 0 (nI 10)))) 18 (am_I .int 4 (upd (upd (upd (upd (fun _ => 0) 0 (nI 1)) 1 (nI 2)) 2 (nI 5)) 3 (nI 9)))) 19 (am_I .int 8 (upd (fun _ => 0) 0 (nI 1)))) ?_ ?_
  ·
    funext c
    by_cases e15 : c = 15
    · subst e15
      rfl
    by_cases e16 : c = 16
    · subst e16
      rfl
    by_cases e18 : c = 18
    · subst e18
      rfl
    by_cases e19 : c = 19
    · subst e19
      rfl
    simp only [am_up_ne _ _ e15, am_up_ne _ _ e16, am_up_ne _ _ e18, am_up_ne _ _ e19]
  refine sw_iinc (i := 1) (v := nI 1) dX2_init_106 rfl (by decide) (Nat.le_of_ble_eq_true rfl) rfl ?_
  refine sw_lo (lo2 := [some (.ref 15), some (.int _)]) rfl ?_
  refine sw_goto (tgt := 74) dX2_init_109 rfl ?_
  refine sw_iload_n (i := 1) dX2_init_74 rfl rfl ?_
  refine sw_bi 8 dX2_init_75 (by decide +kernel) ?_
  refine sw_ins (pc2 := 77) rfl rfl ?_
  refine sw_ic_ge (tgt := 112) dX2_init_77 rfl (fun h9 => absurd h9 (by decide)) (fun _ => ?_)
  refine sw_aload_n (i := 0) dX2_init_80 rfl rfl ?_
  refine sw_get (fs := [.ref 16, .ref 17, .ref 18, .ref 19, .ref 20, .int 0, .int 0, .int 0, .int 0, .int 0, .int 0, .int 0]) f_X2_9 (by decide) rfl (v := .ref 16) rfl dX2_init_81 ?_
  refine sw_iload_n (i := 1) dX2_init_84 rfl rfl ?_
  refine sw_ic 4 dX2_init_85 ?_
  refine sw_imul dX2_init_86 ?_
  refine sw_topE (v := nI 4) (by decide) ?_
  refine sw_iload_n (i := 1) dX2_init_87 rfl rfl ?_
  refine sw_ic 4 dX2_init_88 ?_
  refine sw_irem (by decide) dX2_init_89 ?_
  refine sw_topE (v := nI 1) (by decide) ?_
  refine sw_iadd dX2_init_90 ?_
  refine sw_topE (v := nI 5) (by decide) ?_
  refine sw_bi 10 dX2_init_91 (by decide +kernel) ?_
  refine sw_iast (5) (by decide) (f := (upd (fun _ => 0) 0 (nI 10))) (nn := 32) rfl rfl (by decide) (by decide) dX2_init_93 ?_
  refine sw_weq (aw2 := am_up (am_up (am_up (am_up (aw) 15 (am_O 1 [.ref 16, .ref 17, .ref 18, .ref 19, .ref 20, .int 0, .int 0, .int 0, .int 0, .int 0, .int 0, .int 0])) 16 (am_I .int 32 (upd (upd (fun _ => 0) 0 (nI 10)) 5 (nI 10)))) 18 (am_I .int 4 (upd (upd (upd (upd (fun _ => 0) 0 (nI 1)) 1 (nI 2)) 2 (nI 5)) 3 (nI 9)))) 19 (am_I .int 8 (upd (fun _ => 0) 0 (nI 1)))) ?_ ?_
  ·
    funext c
    by_cases e15 : c = 15
    · subst e15
      rfl
    by_cases e16 : c = 16
    · subst e16
      rfl
    by_cases e18 : c = 18
    · subst e18
      rfl
    by_cases e19 : c = 19
    · subst e19
      rfl
    simp only [am_up_ne _ _ e15, am_up_ne _ _ e16, am_up_ne _ _ e18, am_up_ne _ _ e19]
  refine sw_aload_n (i := 0) dX2_init_94 rfl rfl ?_
  refine sw_get (fs := [.ref 16, .ref 17, .ref 18, .ref 19, .ref 20, .int 0, .int 0, .int 0, .int 0, .int 0, .int 0, .int 0]) f_X2_21 (by decide) rfl (v := .ref 19) rfl dX2_init_95 ?_
  refine sw_iload_n (i := 1) dX2_init_98 rfl rfl ?_
  refine sw_iload_n (i := 1) dX2_init_99 rfl rfl ?_
  refine sw_ins (pc2 := 100) rfl rfl ?_
  refine sw_ic 1 dX2_init_100 ?_
  refine sw_iadd dX2_init_101 ?_
  refine sw_topE (v := nI 2) (by decide) ?_
  refine sw_bi 8 dX2_init_102 (by decide +kernel) ?_
  refine sw_irem (by decide) dX2_init_104 ?_
  refine sw_topE (v := nI 2) (by decide) ?_
  refine sw_iast (1) (by decide) (f := (upd (fun _ => 0) 0 (nI 1))) (nn := 8) rfl rfl (by decide) (by decide) dX2_init_105 ?_
  refine sw_weq (aw2 := am_up (am_up (am_up (am_up (aw) 15 (am_O 1 [.ref 16, .ref 17, .ref 18, .ref 19, .ref 20, .int 0, .int 0, .int 0, .int 0, .int 0, .int 0, .int 0])) 16 (am_I .int 32 (upd (upd (fun _ => 0) 0 (nI 10)) 5 (nI 10)))) 18 (am_I .int 4 (upd (upd (upd (upd (fun _ => 0) 0 (nI 1)) 1 (nI 2)) 2 (nI 5)) 3 (nI 9)))) 19 (am_I .int 8 (upd (upd (fun _ => 0) 0 (nI 1)) 1 (nI 2)))) ?_ ?_
  ·
    funext c
    by_cases e15 : c = 15
    · subst e15
      rfl
    by_cases e16 : c = 16
    · subst e16
      rfl
    by_cases e18 : c = 18
    · subst e18
      rfl
    by_cases e19 : c = 19
    · subst e19
      rfl
    simp only [am_up_ne _ _ e15, am_up_ne _ _ e16, am_up_ne _ _ e18, am_up_ne _ _ e19]
  refine sw_iinc (i := 1) (v := nI 2) dX2_init_106 rfl (by decide) (Nat.le_of_ble_eq_true rfl) rfl ?_
  refine sw_lo (lo2 := [some (.ref 15), some (.int _)]) rfl ?_
  refine sw_goto (tgt := 74) dX2_init_109 rfl ?_
  refine sw_iload_n (i := 1) dX2_init_74 rfl rfl ?_
  refine sw_ins (pc2 := 75) rfl rfl ?_
  refine sw_bi 8 dX2_init_75 (by decide +kernel) ?_
  refine sw_ic_ge (tgt := 112) dX2_init_77 rfl (fun h9 => absurd h9 (by decide)) (fun _ => ?_)
  refine sw_aload_n (i := 0) dX2_init_80 rfl rfl ?_
  refine sw_get (fs := [.ref 16, .ref 17, .ref 18, .ref 19, .ref 20, .int 0, .int 0, .int 0, .int 0, .int 0, .int 0, .int 0]) f_X2_9 (by decide) rfl (v := .ref 16) rfl dX2_init_81 ?_
  refine sw_iload_n (i := 1) dX2_init_84 rfl rfl ?_
  refine sw_ic 4 dX2_init_85 ?_
  refine sw_imul dX2_init_86 ?_
  refine sw_topE (v := nI 8) (by decide) ?_
  refine sw_iload_n (i := 1) dX2_init_87 rfl rfl ?_
  refine sw_ins (pc2 := 88) rfl rfl ?_
  refine sw_ic 4 dX2_init_88 ?_
  refine sw_irem (by decide) dX2_init_89 ?_
  refine sw_topE (v := nI 2) (by decide) ?_
  refine sw_iadd dX2_init_90 ?_
  refine sw_topE (v := nI 10) (by decide) ?_
  refine sw_bi 10 dX2_init_91 (by decide +kernel) ?_
  refine sw_iast (10) (by decide) (f := (upd (upd (fun _ => 0) 0 (nI 10)) 5 (nI 10))) (nn := 32) rfl rfl (by decide) (by decide) dX2_init_93 ?_
  refine sw_weq (aw2 := am_up (am_up (am_up (am_up (aw) 15 (am_O 1 [.ref 16, .ref 17, .ref 18, .ref 19, .ref 20, .int 0, .int 0, .int 0, .int 0, .int 0, .int 0, .int 0])) 16 (am_I .int 32 (upd (upd (upd (fun _ => 0) 0 (nI 10)) 5 (nI 10)) 10 (nI 10)))) 18 (am_I .int 4 (upd (upd (upd (upd (fun _ => 0) 0 (nI 1)) 1 (nI 2)) 2 (nI 5)) 3 (nI 9)))) 19 (am_I .int 8 (upd (upd (fun _ => 0) 0 (nI 1)) 1 (nI 2)))) ?_ ?_
  ·
    funext c
    by_cases e15 : c = 15
    · subst e15
      rfl
    by_cases e16 : c = 16
    · subst e16
      rfl
    by_cases e18 : c = 18
    · subst e18
      rfl
    by_cases e19 : c = 19
    · subst e19
      rfl
    simp only [am_up_ne _ _ e15, am_up_ne _ _ e16, am_up_ne _ _ e18, am_up_ne _ _ e19]
  refine sw_aload_n (i := 0) dX2_init_94 rfl rfl ?_
  refine sw_get (fs := [.ref 16, .ref 17, .ref 18, .ref 19, .ref 20, .int 0, .int 0, .int 0, .int 0, .int 0, .int 0, .int 0]) f_X2_21 (by decide) rfl (v := .ref 19) rfl dX2_init_95 ?_
  refine sw_iload_n (i := 1) dX2_init_98 rfl rfl ?_
  refine sw_ins (pc2 := 99) rfl rfl ?_
  refine sw_iload_n (i := 1) dX2_init_99 rfl rfl ?_
  refine sw_ic 1 dX2_init_100 ?_
  refine sw_iadd dX2_init_101 ?_
  refine sw_topE (v := nI 3) (by decide) ?_
  refine sw_bi 8 dX2_init_102 (by decide +kernel) ?_
  refine sw_irem (by decide) dX2_init_104 ?_
  refine sw_topE (v := nI 3) (by decide) ?_
  refine sw_iast (2) (by decide) (f := (upd (upd (fun _ => 0) 0 (nI 1)) 1 (nI 2))) (nn := 8) rfl rfl (by decide) (by decide) dX2_init_105 ?_
  refine sw_weq (aw2 := am_up (am_up (am_up (am_up (aw) 15 (am_O 1 [.ref 16, .ref 17, .ref 18, .ref 19, .ref 20, .int 0, .int 0, .int 0, .int 0, .int 0, .int 0, .int 0])) 16 (am_I .int 32 (upd (upd (upd (fun _ => 0) 0 (nI 10)) 5 (nI 10)) 10 (nI 10)))) 18 (am_I .int 4 (upd (upd (upd (upd (fun _ => 0) 0 (nI 1)) 1 (nI 2)) 2 (nI 5)) 3 (nI 9)))) 19 (am_I .int 8 (upd (upd (upd (fun _ => 0) 0 (nI 1)) 1 (nI 2)) 2 (nI 3)))) ?_ ?_
  ·
    funext c
    by_cases e15 : c = 15
    · subst e15
      rfl
    by_cases e16 : c = 16
    · subst e16
      rfl
    by_cases e18 : c = 18
    · subst e18
      rfl
    by_cases e19 : c = 19
    · subst e19
      rfl
    simp only [am_up_ne _ _ e15, am_up_ne _ _ e16, am_up_ne _ _ e18, am_up_ne _ _ e19]
  refine sw_iinc (i := 1) (v := nI 3) dX2_init_106 rfl (by decide) (Nat.le_of_ble_eq_true rfl) rfl ?_
  refine sw_lo (lo2 := [some (.ref 15), some (.int _)]) rfl ?_
  refine sw_goto (tgt := 74) dX2_init_109 rfl ?_
  refine sw_ins (pc2 := 74) rfl rfl ?_
  refine sw_iload_n (i := 1) dX2_init_74 rfl rfl ?_
  refine sw_bi 8 dX2_init_75 (by decide +kernel) ?_
  refine sw_ic_ge (tgt := 112) dX2_init_77 rfl (fun h9 => absurd h9 (by decide)) (fun _ => ?_)
  refine sw_aload_n (i := 0) dX2_init_80 rfl rfl ?_
  refine sw_get (fs := [.ref 16, .ref 17, .ref 18, .ref 19, .ref 20, .int 0, .int 0, .int 0, .int 0, .int 0, .int 0, .int 0]) f_X2_9 (by decide) rfl (v := .ref 16) rfl dX2_init_81 ?_
  refine sw_iload_n (i := 1) dX2_init_84 rfl rfl ?_
  refine sw_ic 4 dX2_init_85 ?_
  refine sw_imul dX2_init_86 ?_
  refine sw_topE (v := nI 12) (by decide) ?_
  refine sw_ins (pc2 := 87) rfl rfl ?_
  refine sw_iload_n (i := 1) dX2_init_87 rfl rfl ?_
  refine sw_ic 4 dX2_init_88 ?_
  refine sw_irem (by decide) dX2_init_89 ?_
  refine sw_topE (v := nI 3) (by decide) ?_
  refine sw_iadd dX2_init_90 ?_
  refine sw_topE (v := nI 15) (by decide) ?_
  refine sw_bi 10 dX2_init_91 (by decide +kernel) ?_
  refine sw_iast (15) (by decide) (f := (upd (upd (upd (fun _ => 0) 0 (nI 10)) 5 (nI 10)) 10 (nI 10))) (nn := 32) rfl rfl (by decide) (by decide) dX2_init_93 ?_
  refine sw_weq (aw2 := am_up (am_up (am_up (am_up (aw) 15 (am_O 1 [.ref 16, .ref 17, .ref 18, .ref 19, .ref 20, .int 0, .int 0, .int 0, .int 0, .int 0, .int 0, .int 0])) 16 (am_I .int 32 (upd (upd (upd (upd (fun _ => 0) 0 (nI 10)) 5 (nI 10)) 10 (nI 10)) 15 (nI 10)))) 18 (am_I .int 4 (upd (upd (upd (upd (fun _ => 0) 0 (nI 1)) 1 (nI 2)) 2 (nI 5)) 3 (nI 9)))) 19 (am_I .int 8 (upd (upd (upd (fun _ => 0) 0 (nI 1)) 1 (nI 2)) 2 (nI 3)))) ?_ ?_
  ·
    funext c
    by_cases e15 : c = 15
    · subst e15
      rfl
    by_cases e16 : c = 16
    · subst e16
      rfl
    by_cases e18 : c = 18
    · subst e18
      rfl
    by_cases e19 : c = 19
    · subst e19
      rfl
    simp only [am_up_ne _ _ e15, am_up_ne _ _ e16, am_up_ne _ _ e18, am_up_ne _ _ e19]
  refine sw_aload_n (i := 0) dX2_init_94 rfl rfl ?_
  refine sw_get (fs := [.ref 16, .ref 17, .ref 18, .ref 19, .ref 20, .int 0, .int 0, .int 0, .int 0, .int 0, .int 0, .int 0]) f_X2_21 (by decide) rfl (v := .ref 19) rfl dX2_init_95 ?_
  refine sw_ins (pc2 := 98) rfl rfl ?_
  refine sw_iload_n (i := 1) dX2_init_98 rfl rfl ?_
  refine sw_iload_n (i := 1) dX2_init_99 rfl rfl ?_
  refine sw_ic 1 dX2_init_100 ?_
  refine sw_iadd dX2_init_101 ?_
  refine sw_topE (v := nI 4) (by decide) ?_
  refine sw_bi 8 dX2_init_102 (by decide +kernel) ?_
  refine sw_irem (by decide) dX2_init_104 ?_
  refine sw_topE (v := nI 4) (by decide) ?_
  refine sw_iast (3) (by decide) (f := (upd (upd (upd (fun _ => 0) 0 (nI 1)) 1 (nI 2)) 2 (nI 3))) (nn := 8) rfl rfl (by decide) (by decide) dX2_init_105 ?_
  refine sw_weq (aw2 := am_up (am_up (am_up (am_up (aw) 15 (am_O 1 [.ref 16, .ref 17, .ref 18, .ref 19, .ref 20, .int 0, .int 0, .int 0, .int 0, .int 0, .int 0, .int 0])) 16 (am_I .int 32 (upd (upd (upd (upd (fun _ => 0) 0 (nI 10)) 5 (nI 10)) 10 (nI 10)) 15 (nI 10)))) 18 (am_I .int 4 (upd (upd (upd (upd (fun _ => 0) 0 (nI 1)) 1 (nI 2)) 2 (nI 5)) 3 (nI 9)))) 19 (am_I .int 8 (upd (upd (upd (upd (fun _ => 0) 0 (nI 1)) 1 (nI 2)) 2 (nI 3)) 3 (nI 4)))) ?_ ?_
  ·
    funext c
    by_cases e15 : c = 15
    · subst e15
      rfl
    by_cases e16 : c = 16
    · subst e16
      rfl
    by_cases e18 : c = 18
    · subst e18
      rfl
    by_cases e19 : c = 19
    · subst e19
      rfl
    simp only [am_up_ne _ _ e15, am_up_ne _ _ e16, am_up_ne _ _ e18, am_up_ne _ _ e19]
  refine sw_iinc (i := 1) (v := nI 4) dX2_init_106 rfl (by decide) (Nat.le_of_ble_eq_true rfl) rfl ?_
  refine sw_lo (lo2 := [some (.ref 15), some (.int _)]) rfl ?_
  refine sw_ins (pc2 := 109) rfl rfl ?_
  refine sw_goto (tgt := 74) dX2_init_109 rfl ?_
  refine sw_iload_n (i := 1) dX2_init_74 rfl rfl ?_
  refine sw_bi 8 dX2_init_75 (by decide +kernel) ?_
  refine sw_ic_ge (tgt := 112) dX2_init_77 rfl (fun h9 => absurd h9 (by decide)) (fun _ => ?_)
  refine sw_aload_n (i := 0) dX2_init_80 rfl rfl ?_
  refine sw_get (fs := [.ref 16, .ref 17, .ref 18, .ref 19, .ref 20, .int 0, .int 0, .int 0, .int 0, .int 0, .int 0, .int 0]) f_X2_9 (by decide) rfl (v := .ref 16) rfl dX2_init_81 ?_
  refine sw_iload_n (i := 1) dX2_init_84 rfl rfl ?_
  refine sw_ic 4 dX2_init_85 ?_
  refine sw_ins (pc2 := 86) rfl rfl ?_
  refine sw_imul dX2_init_86 ?_
  refine sw_topE (v := nI 16) (by decide) ?_
  refine sw_iload_n (i := 1) dX2_init_87 rfl rfl ?_
  refine sw_ic 4 dX2_init_88 ?_
  refine sw_irem (by decide) dX2_init_89 ?_
  refine sw_topE (v := nI 0) (by decide) ?_
  refine sw_iadd dX2_init_90 ?_
  refine sw_topE (v := nI 16) (by decide) ?_
  refine sw_bi 10 dX2_init_91 (by decide +kernel) ?_
  refine sw_iast (16) (by decide) (f := (upd (upd (upd (upd (fun _ => 0) 0 (nI 10)) 5 (nI 10)) 10 (nI 10)) 15 (nI 10))) (nn := 32) rfl rfl (by decide) (by decide) dX2_init_93 ?_
  refine sw_weq (aw2 := am_up (am_up (am_up (am_up (aw) 15 (am_O 1 [.ref 16, .ref 17, .ref 18, .ref 19, .ref 20, .int 0, .int 0, .int 0, .int 0, .int 0, .int 0, .int 0])) 16 (am_I .int 32 (upd (upd (upd (upd (upd (fun _ => 0) 0 (nI 10)) 5 (nI 10)) 10 (nI 10)) 15 (nI 10)) 16 (nI 10)))) 18 (am_I .int 4 (upd (upd (upd (upd (fun _ => 0) 0 (nI 1)) 1 (nI 2)) 2 (nI 5)) 3 (nI 9)))) 19 (am_I .int 8 (upd (upd (upd (upd (fun _ => 0) 0 (nI 1)) 1 (nI 2)) 2 (nI 3)) 3 (nI 4)))) ?_ ?_
  ·
    funext c
    by_cases e15 : c = 15
    · subst e15
      rfl
    by_cases e16 : c = 16
    · subst e16
      rfl
    by_cases e18 : c = 18
    · subst e18
      rfl
    by_cases e19 : c = 19
    · subst e19
      rfl
    simp only [am_up_ne _ _ e15, am_up_ne _ _ e16, am_up_ne _ _ e18, am_up_ne _ _ e19]
  refine sw_aload_n (i := 0) dX2_init_94 rfl rfl ?_
  refine sw_get (fs := [.ref 16, .ref 17, .ref 18, .ref 19, .ref 20, .int 0, .int 0, .int 0, .int 0, .int 0, .int 0, .int 0]) f_X2_21 (by decide) rfl (v := .ref 19) rfl dX2_init_95 ?_
  refine sw_iload_n (i := 1) dX2_init_98 rfl rfl ?_
  refine sw_iload_n (i := 1) dX2_init_99 rfl rfl ?_
  refine sw_ic 1 dX2_init_100 ?_
  refine sw_iadd dX2_init_101 ?_
  refine sw_topE (v := nI 5) (by decide) ?_
  refine sw_bi 8 dX2_init_102 (by decide +kernel) ?_
  refine sw_irem (by decide) dX2_init_104 ?_
  refine sw_topE (v := nI 5) (by decide) ?_
  refine sw_iast (4) (by decide) (f := (upd (upd (upd (upd (fun _ => 0) 0 (nI 1)) 1 (nI 2)) 2 (nI 3)) 3 (nI 4))) (nn := 8) rfl rfl (by decide) (by decide) dX2_init_105 ?_
  refine sw_weq (aw2 := am_up (am_up (am_up (am_up (aw) 15 (am_O 1 [.ref 16, .ref 17, .ref 18, .ref 19, .ref 20, .int 0, .int 0, .int 0, .int 0, .int 0, .int 0, .int 0])) 16 (am_I .int 32 (upd (upd (upd (upd (upd (fun _ => 0) 0 (nI 10)) 5 (nI 10)) 10 (nI 10)) 15 (nI 10)) 16 (nI 10)))) 18 (am_I .int 4 (upd (upd (upd (upd (fun _ => 0) 0 (nI 1)) 1 (nI 2)) 2 (nI 5)) 3 (nI 9)))) 19 (am_I .int 8 (upd (upd (upd (upd (upd (fun _ => 0) 0 (nI 1)) 1 (nI 2)) 2 (nI 3)) 3 (nI 4)) 4 (nI 5)))) ?_ ?_
  ·
    funext c
    by_cases e15 : c = 15
    · subst e15
      rfl
    by_cases e16 : c = 16
    · subst e16
      rfl
    by_cases e18 : c = 18
    · subst e18
      rfl
    by_cases e19 : c = 19
    · subst e19
      rfl
    simp only [am_up_ne _ _ e15, am_up_ne _ _ e16, am_up_ne _ _ e18, am_up_ne _ _ e19]
  refine sw_ins (pc2 := 106) rfl rfl ?_
  refine sw_iinc (i := 1) (v := nI 5) dX2_init_106 rfl (by decide) (Nat.le_of_ble_eq_true rfl) rfl ?_
  refine sw_lo (lo2 := [some (.ref 15), some (.int _)]) rfl ?_
  refine sw_goto (tgt := 74) dX2_init_109 rfl ?_
  refine sw_iload_n (i := 1) dX2_init_74 rfl rfl ?_
  refine sw_bi 8 dX2_init_75 (by decide +kernel) ?_
  refine sw_ic_ge (tgt := 112) dX2_init_77 rfl (fun h9 => absurd h9 (by decide)) (fun _ => ?_)
  refine sw_aload_n (i := 0) dX2_init_80 rfl rfl ?_
  refine sw_get (fs := [.ref 16, .ref 17, .ref 18, .ref 19, .ref 20, .int 0, .int 0, .int 0, .int 0, .int 0, .int 0, .int 0]) f_X2_9 (by decide) rfl (v := .ref 16) rfl dX2_init_81 ?_
  refine sw_iload_n (i := 1) dX2_init_84 rfl rfl ?_
  refine sw_ins (pc2 := 85) rfl rfl ?_
  refine sw_ic 4 dX2_init_85 ?_
  refine sw_imul dX2_init_86 ?_
  refine sw_topE (v := nI 20) (by decide) ?_
  refine sw_iload_n (i := 1) dX2_init_87 rfl rfl ?_
  refine sw_ic 4 dX2_init_88 ?_
  refine sw_irem (by decide) dX2_init_89 ?_
  refine sw_topE (v := nI 1) (by decide) ?_
  refine sw_iadd dX2_init_90 ?_
  refine sw_topE (v := nI 21) (by decide) ?_
  refine sw_bi 10 dX2_init_91 (by decide +kernel) ?_
  refine sw_iast (21) (by decide) (f := (upd (upd (upd (upd (upd (fun _ => 0) 0 (nI 10)) 5 (nI 10)) 10 (nI 10)) 15 (nI 10)) 16 (nI 10))) (nn := 32) rfl rfl (by decide) (by decide) dX2_init_93 ?_
  refine sw_weq (aw2 := am_up (am_up (am_up (am_up (aw) 15 (am_O 1 [.ref 16, .ref 17, .ref 18, .ref 19, .ref 20, .int 0, .int 0, .int 0, .int 0, .int 0, .int 0, .int 0])) 16 (am_I .int 32 (upd (upd (upd (upd (upd (upd (fun _ => 0) 0 (nI 10)) 5 (nI 10)) 10 (nI 10)) 15 (nI 10)) 16 (nI 10)) 21 (nI 10)))) 18 (am_I .int 4 (upd (upd (upd (upd (fun _ => 0) 0 (nI 1)) 1 (nI 2)) 2 (nI 5)) 3 (nI 9)))) 19 (am_I .int 8 (upd (upd (upd (upd (upd (fun _ => 0) 0 (nI 1)) 1 (nI 2)) 2 (nI 3)) 3 (nI 4)) 4 (nI 5)))) ?_ ?_
  ·
    funext c
    by_cases e15 : c = 15
    · subst e15
      rfl
    by_cases e16 : c = 16
    · subst e16
      rfl
    by_cases e18 : c = 18
    · subst e18
      rfl
    by_cases e19 : c = 19
    · subst e19
      rfl
    simp only [am_up_ne _ _ e15, am_up_ne _ _ e16, am_up_ne _ _ e18, am_up_ne _ _ e19]
  refine sw_ins (pc2 := 94) rfl rfl ?_
  refine sw_aload_n (i := 0) dX2_init_94 rfl rfl ?_
  refine sw_get (fs := [.ref 16, .ref 17, .ref 18, .ref 19, .ref 20, .int 0, .int 0, .int 0, .int 0, .int 0, .int 0, .int 0]) f_X2_21 (by decide) rfl (v := .ref 19) rfl dX2_init_95 ?_
  refine sw_iload_n (i := 1) dX2_init_98 rfl rfl ?_
  refine sw_iload_n (i := 1) dX2_init_99 rfl rfl ?_
  refine sw_ic 1 dX2_init_100 ?_
  refine sw_iadd dX2_init_101 ?_
  refine sw_topE (v := nI 6) (by decide) ?_
  refine sw_bi 8 dX2_init_102 (by decide +kernel) ?_
  refine sw_irem (by decide) dX2_init_104 ?_
  refine sw_topE (v := nI 6) (by decide) ?_
  refine sw_iast (5) (by decide) (f := (upd (upd (upd (upd (upd (fun _ => 0) 0 (nI 1)) 1 (nI 2)) 2 (nI 3)) 3 (nI 4)) 4 (nI 5))) (nn := 8) rfl rfl (by decide) (by decide) dX2_init_105 ?_
  refine sw_weq (aw2 := am_up (am_up (am_up (am_up (aw) 15 (am_O 1 [.ref 16, .ref 17, .ref 18, .ref 19, .ref 20, .int 0, .int 0, .int 0, .int 0, .int 0, .int 0, .int 0])) 16 (am_I .int 32 (upd (upd (upd (upd (upd (upd (fun _ => 0) 0 (nI 10)) 5 (nI 10)) 10 (nI 10)) 15 (nI 10)) 16 (nI 10)) 21 (nI 10)))) 18 (am_I .int 4 (upd (upd (upd (upd (fun _ => 0) 0 (nI 1)) 1 (nI 2)) 2 (nI 5)) 3 (nI 9)))) 19 (am_I .int 8 (upd (upd (upd (upd (upd (upd (fun _ => 0) 0 (nI 1)) 1 (nI 2)) 2 (nI 3)) 3 (nI 4)) 4 (nI 5)) 5 (nI 6)))) ?_ ?_
  ·
    funext c
    by_cases e15 : c = 15
    · subst e15
      rfl
    by_cases e16 : c = 16
    · subst e16
      rfl
    by_cases e18 : c = 18
    · subst e18
      rfl
    by_cases e19 : c = 19
    · subst e19
      rfl
    simp only [am_up_ne _ _ e15, am_up_ne _ _ e16, am_up_ne _ _ e18, am_up_ne _ _ e19]
  refine sw_iinc (i := 1) (v := nI 6) dX2_init_106 rfl (by decide) (Nat.le_of_ble_eq_true rfl) rfl ?_
  refine sw_lo (lo2 := [some (.ref 15), some (.int _)]) rfl ?_
  refine sw_goto (tgt := 74) dX2_init_109 rfl ?_
  refine sw_iload_n (i := 1) dX2_init_74 rfl rfl ?_
  refine sw_bi 8 dX2_init_75 (by decide +kernel) ?_
  refine sw_ic_ge (tgt := 112) dX2_init_77 rfl (fun h9 => absurd h9 (by decide)) (fun _ => ?_)
  refine sw_aload_n (i := 0) dX2_init_80 rfl rfl ?_
  refine sw_get (fs := [.ref 16, .ref 17, .ref 18, .ref 19, .ref 20, .int 0, .int 0, .int 0, .int 0, .int 0, .int 0, .int 0]) f_X2_9 (by decide) rfl (v := .ref 16) rfl dX2_init_81 ?_
  refine sw_ins (pc2 := 84) rfl rfl ?_
  refine sw_iload_n (i := 1) dX2_init_84 rfl rfl ?_
  refine sw_ic 4 dX2_init_85 ?_
  refine sw_imul dX2_init_86 ?_
  refine sw_topE (v := nI 24) (by decide) ?_
  refine sw_iload_n (i := 1) dX2_init_87 rfl rfl ?_
  refine sw_ic 4 dX2_init_88 ?_
  refine sw_irem (by decide) dX2_init_89 ?_
  refine sw_topE (v := nI 2) (by decide) ?_
  refine sw_iadd dX2_init_90 ?_
  refine sw_topE (v := nI 26) (by decide) ?_
  refine sw_bi 10 dX2_init_91 (by decide +kernel) ?_
  refine sw_iast (26) (by decide) (f := (upd (upd (upd (upd (upd (upd (fun _ => 0) 0 (nI 10)) 5 (nI 10)) 10 (nI 10)) 15 (nI 10)) 16 (nI 10)) 21 (nI 10))) (nn := 32) rfl rfl (by decide) (by decide) dX2_init_93 ?_
  refine sw_weq (aw2 := am_up (am_up (am_up (am_up (aw) 15 (am_O 1 [.ref 16, .ref 17, .ref 18, .ref 19, .ref 20, .int 0, .int 0, .int 0, .int 0, .int 0, .int 0, .int 0])) 16 (am_I .int 32 (upd (upd (upd (upd (upd (upd (upd (fun _ => 0) 0 (nI 10)) 5 (nI 10)) 10 (nI 10)) 15 (nI 10)) 16 (nI 10)) 21 (nI 10)) 26 (nI 10)))) 18 (am_I .int 4 (upd (upd (upd (upd (fun _ => 0) 0 (nI 1)) 1 (nI 2)) 2 (nI 5)) 3 (nI 9)))) 19 (am_I .int 8 (upd (upd (upd (upd (upd (upd (fun _ => 0) 0 (nI 1)) 1 (nI 2)) 2 (nI 3)) 3 (nI 4)) 4 (nI 5)) 5 (nI 6)))) ?_ ?_
  ·
    funext c
    by_cases e15 : c = 15
    · subst e15
      rfl
    by_cases e16 : c = 16
    · subst e16
      rfl
    by_cases e18 : c = 18
    · subst e18
      rfl
    by_cases e19 : c = 19
    · subst e19
      rfl
    simp only [am_up_ne _ _ e15, am_up_ne _ _ e16, am_up_ne _ _ e18, am_up_ne _ _ e19]
  refine sw_aload_n (i := 0) dX2_init_94 rfl rfl ?_
  refine sw_get (fs := [.ref 16, .ref 17, .ref 18, .ref 19, .ref 20, .int 0, .int 0, .int 0, .int 0, .int 0, .int 0, .int 0]) f_X2_21 (by decide) rfl (v := .ref 19) rfl dX2_init_95 ?_
  refine sw_iload_n (i := 1) dX2_init_98 rfl rfl ?_
  refine sw_iload_n (i := 1) dX2_init_99 rfl rfl ?_
  refine sw_ic 1 dX2_init_100 ?_
  refine sw_iadd dX2_init_101 ?_
  refine sw_topE (v := nI 7) (by decide) ?_
  refine sw_bi 8 dX2_init_102 (by decide +kernel) ?_
  refine sw_irem (by decide) dX2_init_104 ?_
  refine sw_topE (v := nI 7) (by decide) ?_
  refine sw_iast (6) (by decide) (f := (upd (upd (upd (upd (upd (upd (fun _ => 0) 0 (nI 1)) 1 (nI 2)) 2 (nI 3)) 3 (nI 4)) 4 (nI 5)) 5 (nI 6))) (nn := 8) rfl rfl (by decide) (by decide) dX2_init_105 ?_
  refine sw_weq (aw2 := am_up (am_up (am_up (am_up (aw) 15 (am_O 1 [.ref 16, .ref 17, .ref 18, .ref 19, .ref 20, .int 0, .int 0, .int 0, .int 0, .int 0, .int 0, .int 0])) 16 (am_I .int 32 (upd (upd (upd (upd (upd (upd (upd (fun _ => 0) 0 (nI 10)) 5 (nI 10)) 10 (nI 10)) 15 (nI 10)) 16 (nI 10)) 21 (nI 10)) 26 (nI 10)))) 18 (am_I .int 4 (upd (upd (upd (upd (fun _ => 0) 0 (nI 1)) 1 (nI 2)) 2 (nI 5)) 3 (nI 9)))) 19 (am_I .int 8 (upd (upd (upd (upd (upd (upd (upd (fun _ => 0) 0 (nI 1)) 1 (nI 2)) 2 (nI 3)) 3 (nI 4)) 4 (nI 5)) 5 (nI 6)) 6 (nI 7)))) ?_ ?_
  ·
    funext c
    by_cases e15 : c = 15
    · subst e15
      rfl
    by_cases e16 : c = 16
    · subst e16
      rfl
    by_cases e18 : c = 18
    · subst e18
      rfl
    by_cases e19 : c = 19
    · subst e19
      rfl
    simp only [am_up_ne _ _ e15, am_up_ne _ _ e16, am_up_ne _ _ e18, am_up_ne _ _ e19]
  refine sw_iinc (i := 1) (v := nI 7) dX2_init_106 rfl (by decide) (Nat.le_of_ble_eq_true rfl) rfl ?_
  refine sw_lo (lo2 := [some (.ref 15), some (.int _)]) rfl ?_
  refine sw_goto (tgt := 74) dX2_init_109 rfl ?_
  refine sw_iload_n (i := 1) dX2_init_74 rfl rfl ?_
  refine sw_bi 8 dX2_init_75 (by decide +kernel) ?_
  refine sw_ic_ge (tgt := 112) dX2_init_77 rfl (fun h9 => absurd h9 (by decide)) (fun _ => ?_)
  refine sw_aload_n (i := 0) dX2_init_80 rfl rfl ?_
  refine sw_get (fs := [.ref 16, .ref 17, .ref 18, .ref 19, .ref 20, .int 0, .int 0, .int 0, .int 0, .int 0, .int 0, .int 0]) f_X2_9 (by decide) rfl (v := .ref 16) rfl dX2_init_81 ?_
  refine sw_iload_n (i := 1) dX2_init_84 rfl rfl ?_
  refine sw_ic 4 dX2_init_85 ?_
  refine sw_imul dX2_init_86 ?_
  refine sw_topE (v := nI 28) (by decide) ?_
  refine sw_iload_n (i := 1) dX2_init_87 rfl rfl ?_
  refine sw_ic 4 dX2_init_88 ?_
  refine sw_irem (by decide) dX2_init_89 ?_
  refine sw_topE (v := nI 3) (by decide) ?_
  refine sw_iadd dX2_init_90 ?_
  refine sw_topE (v := nI 31) (by decide) ?_
  refine sw_ins (pc2 := 91) rfl rfl ?_
  refine sw_bi 10 dX2_init_91 (by decide +kernel) ?_
  refine sw_iast (31) (by decide) (f := (upd (upd (upd (upd (upd (upd (upd (fun _ => 0) 0 (nI 10)) 5 (nI 10)) 10 (nI 10)) 15 (nI 10)) 16 (nI 10)) 21 (nI 10)) 26 (nI 10))) (nn := 32) rfl rfl (by decide) (by decide) dX2_init_93 ?_
  refine sw_weq (aw2 := am_up (am_up (am_up (am_up (aw) 15 (am_O 1 [.ref 16, .ref 17, .ref 18, .ref 19, .ref 20, .int 0, .int 0, .int 0, .int 0, .int 0, .int 0, .int 0])) 16 (am_I .int 32 (upd (upd (upd (upd (upd (upd (upd (upd (fun _ => 0) 0 (nI 10)) 5 (nI 10)) 10 (nI 10)) 15 (nI 10)) 16 (nI 10)) 21 (nI 10)) 26 (nI 10)) 31 (nI 10)))) 18 (am_I .int 4 (upd (upd (upd (upd (fun _ => 0) 0 (nI 1)) 1 (nI 2)) 2 (nI 5)) 3 (nI 9)))) 19 (am_I .int 8 (upd (upd (upd (upd (upd (upd (upd (fun _ => 0) 0 (nI 1)) 1 (nI 2)) 2 (nI 3)) 3 (nI 4)) 4 (nI 5)) 5 (nI 6)) 6 (nI 7)))) ?_ ?_
  ·
    funext c
    by_cases e15 : c = 15
    · subst e15
      rfl
    by_cases e16 : c = 16
    · subst e16
      rfl
    by_cases e18 : c = 18
    · subst e18
      rfl
    by_cases e19 : c = 19
    · subst e19
      rfl
    simp only [am_up_ne _ _ e15, am_up_ne _ _ e16, am_up_ne _ _ e18, am_up_ne _ _ e19]
  refine sw_aload_n (i := 0) dX2_init_94 rfl rfl ?_
  refine sw_get (fs := [.ref 16, .ref 17, .ref 18, .ref 19, .ref 20, .int 0, .int 0, .int 0, .int 0, .int 0, .int 0, .int 0]) f_X2_21 (by decide) rfl (v := .ref 19) rfl dX2_init_95 ?_
  refine sw_iload_n (i := 1) dX2_init_98 rfl rfl ?_
  refine sw_iload_n (i := 1) dX2_init_99 rfl rfl ?_
  refine sw_ic 1 dX2_init_100 ?_
  refine sw_iadd dX2_init_101 ?_
  refine sw_topE (v := nI 8) (by decide) ?_
  refine sw_ins (pc2 := 102) rfl rfl ?_
  refine sw_bi 8 dX2_init_102 (by decide +kernel) ?_
  refine sw_irem (by decide) dX2_init_104 ?_
  refine sw_topE (v := nI 0) (by decide) ?_
  refine sw_iast (7) (by decide) (f := (upd (upd (upd (upd (upd (upd (upd (fun _ => 0) 0 (nI 1)) 1 (nI 2)) 2 (nI 3)) 3 (nI 4)) 4 (nI 5)) 5 (nI 6)) 6 (nI 7))) (nn := 8) rfl rfl (by decide) (by decide) dX2_init_105 ?_
  refine sw_weq (aw2 := am_up (am_up (am_up (am_up (aw) 15 (am_O 1 [.ref 16, .ref 17, .ref 18, .ref 19, .ref 20, .int 0, .int 0, .int 0, .int 0, .int 0, .int 0, .int 0])) 16 (am_I .int 32 (upd (upd (upd (upd (upd (upd (upd (upd (fun _ => 0) 0 (nI 10)) 5 (nI 10)) 10 (nI 10)) 15 (nI 10)) 16 (nI 10)) 21 (nI 10)) 26 (nI 10)) 31 (nI 10)))) 18 (am_I .int 4 (upd (upd (upd (upd (fun _ => 0) 0 (nI 1)) 1 (nI 2)) 2 (nI 5)) 3 (nI 9)))) 19 (am_I .int 8 (upd (upd (upd (upd (upd (upd (upd (upd (fun _ => 0) 0 (nI 1)) 1 (nI 2)) 2 (nI 3)) 3 (nI 4)) 4 (nI 5)) 5 (nI 6)) 6 (nI 7)) 7 (nI 0)))) ?_ ?_
  ·
    funext c
    by_cases e15 : c = 15
    · subst e15
      rfl
    by_cases e16 : c = 16
    · subst e16
      rfl
    by_cases e18 : c = 18
    · subst e18
      rfl
    by_cases e19 : c = 19
    · subst e19
      rfl
    simp only [am_up_ne _ _ e15, am_up_ne _ _ e16, am_up_ne _ _ e18, am_up_ne _ _ e19]
  refine sw_iinc (i := 1) (v := nI 8) dX2_init_106 rfl (by decide) (Nat.le_of_ble_eq_true rfl) rfl ?_
  refine sw_lo (lo2 := [some (.ref 15), some (.int _)]) rfl ?_
  refine sw_goto (tgt := 74) dX2_init_109 rfl ?_
  refine sw_iload_n (i := 1) dX2_init_74 rfl rfl ?_
  refine sw_bi 8 dX2_init_75 (by decide +kernel) ?_
  refine sw_ic_ge (tgt := 112) dX2_init_77 rfl (fun _ => ?_) (fun h9 => absurd (by decide) h9)
  refine sw_weq (aw2 := aw) ?_ ?_
  ·
    funext c
    by_cases e15 : c = 15
    · subst e15
      exact (hz 15 (by decide) (by decide)).symm
    by_cases e16 : c = 16
    · subst e16
      exact (hz 16 (by decide) (by decide)).symm
    by_cases e18 : c = 18
    · subst e18
      exact (hz 18 (by decide) (by decide)).symm
    by_cases e19 : c = 19
    · subst e19
      exact (hz 19 (by decide) (by decide)).symm
    simp only [am_up_ne _ _ e15, am_up_ne _ _ e16, am_up_ne _ _ e18, am_up_ne _ _ e19]
  exact sw_return rfl dX2_init_112
set_option maxRecDepth 100000 in
set_option maxHeartbeats 4000000 in
theorem I_21 {aw : Nat → am_E} (hz : ∀ c, 21 ≤ c → c < 27 → aw c = z0 c) : am_AM kX2_init yX2_init 1 [.ref 21] 22 (am_up aw 21 (am_O 1 fs0_X2)) none 27 (aw) 5 108 := by
  refine am_of pl_X2_init (Nat.le_of_ble_eq_true rfl) ?_
  refine sw_aload_n (i := 0) dX2_init_0 rfl rfl ?_
  refine sw_oinit oi_X2_3 (by decide) (Nat.le_of_ble_eq_true rfl) dX2_init_1 ?_
  refine sw_aload_n (i := 0) dX2_init_4 rfl rfl ?_
  refine sw_bi 32 dX2_init_5 (by decide +kernel) ?_
  refine sw_newI (k2 := 4) (n2 := 76) ac_i rfl (fun _ => rfl) (nn := 32) rfl (by decide) (by decide) (by decide) (by decide) (by decide) dX2_init_7 ?_
  refine sw_putR rfl fp_X2_9 (fun _ => ⟨rfl, rfl⟩) (by decide) (fs := fs0_X2) rfl (by decide) dX2_init_9 ?_
  refine sw_weq (aw2 := am_up (am_up (aw) 21 (am_O 1 [.ref 22, .null, .null, .null, .null, .int 0, .int 0, .int 0, .int 0, .int 0, .int 0, .int 0])) 22 (am_I .int 32 (fun _ => 0))) ?_ ?_
  ·
    funext c
    by_cases e21 : c = 21
    · subst e21
      rfl
    by_cases e22 : c = 22
    · subst e22
      rfl
    simp only [am_up_ne _ _ e21, am_up_ne _ _ e22]
  refine sw_aload_n (i := 0) dX2_init_12 rfl rfl ?_
  refine sw_ins (pc2 := 13) rfl rfl ?_
  refine sw_bi 32 dX2_init_13 (by decide +kernel) ?_
  refine sw_newI (k2 := 3) (n2 := 44) ac_i rfl (fun _ => rfl) (nn := 32) rfl (by decide) (by decide) (by decide) (by decide) (by decide) dX2_init_15 ?_
  refine sw_weq (aw2 := am_up (am_up (aw) 21 (am_O 1 [.ref 22, .null, .null, .null, .null, .int 0, .int 0, .int 0, .int 0, .int 0, .int 0, .int 0])) 22 (am_I .int 32 (fun _ => 0))) ?_ ?_
  ·
    funext c
    by_cases e21 : c = 21
    · subst e21
      rfl
    by_cases e22 : c = 22
    · subst e22
      rfl
    by_cases e23 : c = 23
    · subst e23
      exact (hz 23 (by decide) (by decide)).symm
    simp only [am_up_ne _ _ e21, am_up_ne _ _ e22, am_up_ne _ _ e23]
  refine sw_putR rfl fp_X2_15 (fun _ => ⟨rfl, rfl⟩) (by decide) (fs := [.ref 22, .null, .null, .null, .null, .int 0, .int 0, .int 0, .int 0, .int 0, .int 0, .int 0]) rfl (by decide) dX2_init_17 ?_
  refine sw_weq (aw2 := am_up (am_up (aw) 21 (am_O 1 [.ref 22, .ref 23, .null, .null, .null, .int 0, .int 0, .int 0, .int 0, .int 0, .int 0, .int 0])) 22 (am_I .int 32 (fun _ => 0))) ?_ ?_
  ·
    funext c
    by_cases e21 : c = 21
    · subst e21
      rfl
    by_cases e22 : c = 22
    · subst e22
      rfl
    simp only [am_up_ne _ _ e21, am_up_ne _ _ e22]
  refine sw_aload_n (i := 0) dX2_init_20 rfl rfl ?_
  refine sw_ic 4 dX2_init_21 ?_
  refine sw_newI (k2 := 2) (n2 := 40) ac_i rfl (fun _ => rfl) (nn := 4) rfl (by decide) (by decide) (by decide) (by decide) (by decide) dX2_init_22 ?_
  refine sw_putR rfl fp_X2_18 (fun _ => ⟨rfl, rfl⟩) (by decide) (fs := [.ref 22, .ref 23, .null, .null, .null, .int 0, .int 0, .int 0, .int 0, .int 0, .int 0, .int 0]) rfl (by decide) dX2_init_24 ?_
  refine sw_weq (aw2 := am_up (am_up (am_up (aw) 21 (am_O 1 [.ref 22, .ref 23, .ref 24, .null, .null, .int 0, .int 0, .int 0, .int 0, .int 0, .int 0, .int 0])) 22 (am_I .int 32 (fun _ => 0))) 24 (am_I .int 4 (fun _ => 0))) ?_ ?_
  ·
    funext c
    by_cases e21 : c = 21
    · subst e21
      rfl
    by_cases e22 : c = 22
    · subst e22
      rfl
    by_cases e24 : c = 24
    · subst e24
      rfl
    simp only [am_up_ne _ _ e21, am_up_ne _ _ e22, am_up_ne _ _ e24]
  refine sw_aload_n (i := 0) dX2_init_27 rfl rfl ?_
  refine sw_ins (pc2 := 28) rfl rfl ?_
  refine sw_bi 8 dX2_init_28 (by decide +kernel) ?_
  refine sw_newI (k2 := 1) (n2 := 32) ac_i rfl (fun _ => rfl) (nn := 8) rfl (by decide) (by decide) (by decide) (by decide) (by decide) dX2_init_30 ?_
  refine sw_putR rfl fp_X2_21 (fun _ => ⟨rfl, rfl⟩) (by decide) (fs := [.ref 22, .ref 23, .ref 24, .null, .null, .int 0, .int 0, .int 0, .int 0, .int 0, .int 0, .int 0]) rfl (by decide) dX2_init_32 ?_
  refine sw_weq (aw2 := am_up (am_up (am_up (am_up (aw) 21 (am_O 1 [.ref 22, .ref 23, .ref 24, .ref 25, .null, .int 0, .int 0, .int 0, .int 0, .int 0, .int 0, .int 0])) 22 (am_I .int 32 (fun _ => 0))) 24 (am_I .int 4 (fun _ => 0))) 25 (am_I .int 8 (fun _ => 0))) ?_ ?_
  ·
    funext c
    by_cases e21 : c = 21
    · subst e21
      rfl
    by_cases e22 : c = 22
    · subst e22
      rfl
    by_cases e24 : c = 24
    · subst e24
      rfl
    by_cases e25 : c = 25
    · subst e25
      rfl
    simp only [am_up_ne _ _ e21, am_up_ne _ _ e22, am_up_ne _ _ e24, am_up_ne _ _ e25]
  refine sw_aload_n (i := 0) dX2_init_35 rfl rfl ?_
  refine sw_bi 32 dX2_init_36 (by decide +kernel) ?_
  refine sw_newI (k2 := 0) (n2 := 0) ac_i rfl (fun _ => rfl) (nn := 32) rfl (by decide) (by decide) (by decide) (by decide) (by decide) dX2_init_38 ?_
  refine sw_weq (aw2 := am_up (am_up (am_up (am_up (aw) 21 (am_O 1 [.ref 22, .ref 23, .ref 24, .ref 25, .null, .int 0, .int 0, .int 0, .int 0, .int 0, .int 0, .int 0])) 22 (am_I .int 32 (fun _ => 0))) 24 (am_I .int 4 (fun _ => 0))) 25 (am_I .int 8 (fun _ => 0))) ?_ ?_
  ·
    funext c
    by_cases e21 : c = 21
    · subst e21
      rfl
    by_cases e22 : c = 22
    · subst e22
      rfl
    by_cases e24 : c = 24
    · subst e24
      rfl
    by_cases e25 : c = 25
    · subst e25
      rfl
    by_cases e26 : c = 26
    · subst e26
      exact (hz 26 (by decide) (by decide)).symm
    simp only [am_up_ne _ _ e21, am_up_ne _ _ e22, am_up_ne _ _ e24, am_up_ne _ _ e25, am_up_ne _ _ e26]
  refine sw_putR rfl fp_X2_24 (fun _ => ⟨rfl, rfl⟩) (by decide) (fs := [.ref 22, .ref 23, .ref 24, .ref 25, .null, .int 0, .int 0, .int 0, .int 0, .int 0, .int 0, .int 0]) rfl (by decide) dX2_init_40 ?_
  refine sw_weq (aw2 := am_up (am_up (am_up (am_up (aw) 21 (am_O 1 [.ref 22, .ref 23, .ref 24, .ref 25, .ref 26, .int 0, .int 0, .int 0, .int 0, .int 0, .int 0, .int 0])) 22 (am_I .int 32 (fun _ => 0))) 24 (am_I .int 4 (fun _ => 0))) 25 (am_I .int 8 (fun _ => 0))) ?_ ?_
  ·
    funext c
    by_cases e21 : c = 21
    · subst e21
      rfl
    by_cases e22 : c = 22
    · subst e22
      rfl
    by_cases e24 : c = 24
    · subst e24
      rfl
    by_cases e25 : c = 25
    · subst e25
      rfl
    simp only [am_up_ne _ _ e21, am_up_ne _ _ e22, am_up_ne _ _ e24, am_up_ne _ _ e25]
  refine sw_aload_n (i := 0) dX2_init_43 rfl rfl ?_
  refine sw_get (fs := [.ref 22, .ref 23, .ref 24, .ref 25, .ref 26, .int 0, .int 0, .int 0, .int 0, .int 0, .int 0, .int 0]) f_X2_18 (by decide) rfl (v := .ref 24) rfl dX2_init_44 ?_
  refine sw_ic 0 dX2_init_47 ?_
  refine sw_ic 1 dX2_init_48 ?_
  refine sw_iast (0) (by decide) (f := (fun _ => 0)) (nn := 4) rfl rfl (by decide) (by decide) dX2_init_49 ?_
  refine sw_weq (aw2 := am_up (am_up (am_up (am_up (aw) 21 (am_O 1 [.ref 22, .ref 23, .ref 24, .ref 25, .ref 26, .int 0, .int 0, .int 0, .int 0, .int 0, .int 0, .int 0])) 22 (am_I .int 32 (fun _ => 0))) 24 (am_I .int 4 (upd (fun _ => 0) 0 (nI 1)))) 25 (am_I .int 8 (fun _ => 0))) ?_ ?_
  ·
    funext c
    by_cases e21 : c = 21
    · subst e21
      rfl
    by_cases e22 : c = 22
    · subst e22
      rfl
    by_cases e24 : c = 24
    · subst e24
      rfl
    by_cases e25 : c = 25
    · subst e25
      rfl
    simp only [am_up_ne _ _ e21, am_up_ne _ _ e22, am_up_ne _ _ e24, am_up_ne _ _ e25]
  refine sw_aload_n (i := 0) dX2_init_50 rfl rfl ?_
  refine sw_get (fs := [.ref 22, .ref 23, .ref 24, .ref 25, .ref 26, .int 0, .int 0, .int 0, .int 0, .int 0, .int 0, .int 0]) f_X2_18 (by decide) rfl (v := .ref 24) rfl dX2_init_51 ?_
  refine sw_ic 1 dX2_init_54 ?_
  refine sw_ic 2 dX2_init_55 ?_
  refine sw_iast (1) (by decide) (f := (upd (fun _ => 0) 0 (nI 1))) (nn := 4) rfl rfl (by decide) (by decide) dX2_init_56 ?_
  refine sw_weq (aw2 := am_up (am_up (am_up (am_up (aw) 21 (am_O 1 [.ref 22, .ref 23, .ref 24, .ref 25, .ref 26, .int 0, .int 0, .int 0, .int 0, .int 0, .int 0, .int 0])) 22 (am_I .int 32 (fun _ => 0))) 24 (am_I .int 4 (upd (upd (fun _ => 0) 0 (nI 1)) 1 (nI 2)))) 25 (am_I .int 8 (fun _ => 0))) ?_ ?_
  ·
    funext c
    by_cases e21 : c = 21
    · subst e21
      rfl
    by_cases e22 : c = 22
    · subst e22
      rfl
    by_cases e24 : c = 24
    · subst e24
      rfl
    by_cases e25 : c = 25
    · subst e25
      rfl
    simp only [am_up_ne _ _ e21, am_up_ne _ _ e22, am_up_ne _ _ e24, am_up_ne _ _ e25]
  refine sw_aload_n (i := 0) dX2_init_57 rfl rfl ?_
  refine sw_get (fs := [.ref 22, .ref 23, .ref 24, .ref 25, .ref 26, .int 0, .int 0, .int 0, .int 0, .int 0, .int 0, .int 0]) f_X2_18 (by decide) rfl (v := .ref 24) rfl dX2_init_58 ?_
  refine sw_ic 2 dX2_init_61 ?_
  refine sw_ic 5 dX2_init_62 ?_
  refine sw_iast (2) (by decide) (f := (upd (upd (fun _ => 0) 0 (nI 1)) 1 (nI 2))) (nn := 4) rfl rfl (by decide) (by decide) dX2_init_63 ?_
  refine sw_weq (aw2 := am_up (am_up (am_up (am_up (aw) 21 (am_O 1 [.ref 22, .ref 23, .ref 24, .ref 25, .ref 26, .int 0, .int 0, .int 0, .int 0, .int 0, .int 0, .int 0])) 22 (am_I .int 32 (fun _ => 0))) 24 (am_I .int 4 (upd (upd (upd (fun _ => 0) 0 (nI 1)) 1 (nI 2)) 2 (nI 5)))) 25 (am_I .int 8 (fun _ => 0))) ?_ ?_
  ·
    funext c
    by_cases e21 : c = 21
    · subst e21
      rfl
    by_cases e22 : c = 22
    · subst e22
      rfl
    by_cases e24 : c = 24
    · subst e24
      rfl
    by_cases e25 : c = 25
    · subst e25
      rfl
    simp only [am_up_ne _ _ e21, am_up_ne _ _ e22, am_up_ne _ _ e24, am_up_ne _ _ e25]
  refine sw_aload_n (i := 0) dX2_init_64 rfl rfl ?_
  refine sw_get (fs := [.ref 22, .ref 23, .ref 24, .ref 25, .ref 26, .int 0, .int 0, .int 0, .int 0, .int 0, .int 0, .int 0]) f_X2_18 (by decide) rfl (v := .ref 24) rfl dX2_init_65 ?_
  refine sw_ins (pc2 := 68) rfl rfl ?_
  refine sw_ic 3 dX2_init_68 ?_
  refine sw_bi 9 dX2_init_69 (by decide +kernel) ?_
  refine sw_iast (3) (by decide) (f := (upd (upd (upd (fun _ => 0) 0 (nI 1)) 1 (nI 2)) 2 (nI 5))) (nn := 4) rfl rfl (by decide) (by decide) dX2_init_71 ?_
  refine sw_weq (aw2 := am_up (am_up (am_up (am_up (aw) 21 (am_O 1 [.ref 22, .ref 23, .ref 24, .ref 25, .ref 26, .int 0, .int 0, .int 0, .int 0, .int 0, .int 0, .int 0])) 22 (am_I .int 32 (fun _ => 0))) 24 (am_I .int 4 (upd (upd (upd (upd (fun _ => 0) 0 (nI 1)) 1 (nI 2)) 2 (nI 5)) 3 (nI 9)))) 25 (am_I .int 8 (fun _ => 0))) ?_ ?_
  ·
    funext c
    by_cases e21 : c = 21
    · subst e21
      rfl
    by_cases e22 : c = 22
    · subst e22
      rfl
    by_cases e24 : c = 24
    · subst e24
      rfl
    by_cases e25 : c = 25
    · subst e25
      rfl
    simp only [am_up_ne _ _ e21, am_up_ne _ _ e22, am_up_ne _ _ e24, am_up_ne _ _ e25]
  refine sw_ic 0 dX2_init_72 ?_
  refine sw_istore_n (i := 1) dX2_init_73 rfl (Nat.le_of_ble_eq_true rfl) rfl ?_
  refine sw_lo (lo2 := [some (.ref 21), some (.int _)]) rfl ?_
  refine sw_iload_n (i := 1) dX2_init_74 rfl rfl ?_
  refine sw_bi 8 dX2_init_75 (by decide +kernel) ?_
  refine sw_ic_ge (tgt := 112) dX2_init_77 rfl (fun h9 => absurd h9 (by decide)) (fun _ => ?_)
  refine sw_ins (pc2 := 80) rfl rfl ?_
  refine sw_aload_n (i := 0) dX2_init_80 rfl rfl ?_
  refine sw_get (fs := [.ref 22, .ref 23, .ref 24, .ref 25, .ref 26, .int 0, .int 0, .int 0, .int 0, .int 0, .int 0, .int 0]) f_X2_9 (by decide) rfl (v := .ref 22) rfl dX2_init_81 ?_
  refine sw_iload_n (i := 1) dX2_init_84 rfl rfl ?_
  refine sw_ic 4 dX2_init_85 ?_
  refine sw_imul dX2_init_86 ?_
  refine sw_topE (v := nI 0) (by decide) ?_
  refine sw_iload_n (i := 1) dX2_init_87 rfl rfl ?_
  refine sw_ic 4 dX2_init_88 ?_
  refine sw_irem (by decide) dX2_init_89 ?_
  refine sw_topE (v := nI 0) (by decide) ?_
  refine sw_ins (pc2 := 90) rfl rfl ?_
  refine sw_iadd dX2_init_90 ?_
  refine sw_topE (v := nI 0) (by decide) ?_
  refine sw_bi 10 dX2_init_91 (by decide +kernel) ?_
  refine sw_iast (0) (by decide) (f := (fun _ => 0)) (nn := 32) rfl rfl (by decide) (by decide) dX2_init_93 ?_
  refine sw_weq (aw2 := am_up (am_up (am_up (am_up (aw) 21 (am_O 1 [.ref 22, .ref 23, .ref 24, .ref 25, .ref 26, .int 0, .int 0, .int 0, .int 0, .int 0, .int 0, .int 0])) 22 (am_I .int 32 (upd (fun _ => 0) 0 (nI 10)))) 24 (am_I .int 4 (upd (upd (upd (upd (fun _ => 0) 0 (nI 1)) 1 (nI 2)) 2 (nI 5)) 3 (nI 9)))) 25 (am_I .int 8 (fun _ => 0))) ?_ ?_
  ·
    funext c
    by_cases e21 : c = 21
    · subst e21
      rfl
    by_cases e22 : c = 22
    · subst e22
      rfl
    by_cases e24 : c = 24
    · subst e24
      rfl
    by_cases e25 : c = 25
    · subst e25
      rfl
    simp only [am_up_ne _ _ e21, am_up_ne _ _ e22, am_up_ne _ _ e24, am_up_ne _ _ e25]
  refine sw_aload_n (i := 0) dX2_init_94 rfl rfl ?_
  refine sw_get (fs := [.ref 22, .ref 23, .ref 24, .ref 25, .ref 26, .int 0, .int 0, .int 0, .int 0, .int 0, .int 0, .int 0]) f_X2_21 (by decide) rfl (v := .ref 25) rfl dX2_init_95 ?_
  refine sw_iload_n (i := 1) dX2_init_98 rfl rfl ?_
  refine sw_iload_n (i := 1) dX2_init_99 rfl rfl ?_
  refine sw_ic 1 dX2_init_100 ?_
  refine sw_ins (pc2 := 101) rfl rfl ?_
  refine sw_iadd dX2_init_101 ?_
  refine sw_topE (v := nI 1) (by decide) ?_
  refine sw_bi 8 dX2_init_102 (by decide +kernel) ?_
  refine sw_irem (by decide) dX2_init_104 ?_
  refine sw_topE (v := nI 1) (by decide) ?_
  refine sw_iast (0) (by decide) (f := (fun _ => 0)) (nn := 8) rfl rfl (by decide) (by decide) dX2_init_105 ?_
  refine sw_weq (aw2 := am_up (am_up (am_up (am_up (aw) 21 (am_O 1 [.ref 22, .ref 23, .ref 24, .ref 25, .ref 26, .int 0, .int 0, .int 0, .int 0, .int 0, .int 0, .int 0])) 22 (am_I .int 32 (upd (fun _ => 0) 0 (nI 10)))) 24 (am_I .int 4 (upd (upd (upd (upd (fun _ => 0) 0 (nI 1)) 1 (nI 2)) 2 (nI 5)) 3 (nI 9)))) 25 (am_I .int 8 (upd (fun _ => 0) 0 (nI 1)))) ?_ ?_
  ·
    funext c
    by_cases e21 : c = 21
    · subst e21
      rfl
    by_cases e22 : c = 22
    · subst e22
      rfl
    by_cases e24 : c = 24
    · subst e24
      rfl
    by_cases e25 : c = 25
    · subst e25
      rfl
    simp only [am_up_ne _ _ e21, am_up_ne _ _ e22, am_up_ne _ _ e24, am_up_ne _ _ e25]
  refine sw_iinc (i := 1) (v := nI 1) dX2_init_106 rfl (by decide) (Nat.le_of_ble_eq_true rfl) rfl ?_
  refine sw_lo (lo2 := [some (.ref 21), some (.int _)]) rfl ?_
  refine sw_goto (tgt := 74) dX2_init_109 rfl ?_
  refine sw_iload_n (i := 1) dX2_init_74 rfl rfl ?_
  refine sw_bi 8 dX2_init_75 (by decide +kernel) ?_
  refine sw_ins (pc2 := 77) rfl rfl ?_
  refine sw_ic_ge (tgt := 112) dX2_init_77 rfl (fun h9 => absurd h9 (by decide)) (fun _ => ?_)
  refine sw_aload_n (i := 0) dX2_init_80 rfl rfl ?_
  refine sw_get (fs := [.ref 22, .ref 23, .ref 24, .ref 25, .ref 26, .int 0, .int 0, .int 0, .int 0, .int 0, .int 0, .int 0]) f_X2_9 (by decide) rfl (v := .ref 22) rfl dX2_init_81 ?_
  refine sw_iload_n (i := 1) dX2_init_84 rfl rfl ?_
  refine sw_ic 4 dX2_init_85 ?_
  refine sw_imul dX2_init_86 ?_
  refine sw_topE (v := nI 4) (by decide) ?_
  refine sw_iload_n (i := 1) dX2_init_87 rfl rfl ?_
  refine sw_ic 4 dX2_init_88 ?_
  refine sw_irem (by decide) dX2_init_89 ?_
  refine sw_topE (v := nI 1) (by decide) ?_
  refine sw_iadd dX2_init_90 ?_
  refine sw_topE (v := nI 5) (by decide) ?_
  refine sw_bi 10 dX2_init_91 (by decide +kernel) ?_
  refine sw_iast (5) (by decide) (f := (upd (fun _ => 0) 0 (nI 10))) (nn := 32) rfl rfl (by decide) (by decide) dX2_init_93 ?_
  refine sw_weq (aw2 := am_up (am_up (am_up (am_up (aw) 21 (am_O 1 [.ref 22, .ref 23, .ref 24, .ref 25, .ref 26, .int 0, .int 0, .int 0, .int 0, .int 0, .int 0, .int 0])) 22 (am_I .int 32 (upd (upd (fun _ => 0) 0 (nI 10)) 5 (nI 10)))) 24 (am_I .int 4 (upd (upd (upd (upd (fun _ => 0) 0 (nI 1)) 1 (nI 2)) 2 (nI 5)) 3 (nI 9)))) 25 (am_I .int 8 (upd (fun _ => 0) 0 (nI 1)))) ?_ ?_
  ·
    funext c
    by_cases e21 : c = 21
    · subst e21
      rfl
    by_cases e22 : c = 22
    · subst e22
      rfl
    by_cases e24 : c = 24
    · subst e24
      rfl
    by_cases e25 : c = 25
    · subst e25
      rfl
    simp only [am_up_ne _ _ e21, am_up_ne _ _ e22, am_up_ne _ _ e24, am_up_ne _ _ e25]
  refine sw_aload_n (i := 0) dX2_init_94 rfl rfl ?_
  refine sw_get (fs := [.ref 22, .ref 23, .ref 24, .ref 25, .ref 26, .int 0, .int 0, .int 0, .int 0, .int 0, .int 0, .int 0]) f_X2_21 (by decide) rfl (v := .ref 25) rfl dX2_init_95 ?_
  refine sw_iload_n (i := 1) dX2_init_98 rfl rfl ?_
  refine sw_iload_n (i := 1) dX2_init_99 rfl rfl ?_
  refine sw_ins (pc2 := 100) rfl rfl ?_
  refine sw_ic 1 dX2_init_100 ?_
  refine sw_iadd dX2_init_101 ?_
  refine sw_topE (v := nI 2) (by decide) ?_
  refine sw_bi 8 dX2_init_102 (by decide +kernel) ?_
  refine sw_irem (by decide) dX2_init_104 ?_
  refine sw_topE (v := nI 2) (by decide) ?_
  refine sw_iast (1) (by decide) (f := (upd (fun _ => 0) 0 (nI 1))) (nn := 8) rfl rfl (by decide) (by decide) dX2_init_105 ?_
  refine sw_weq (aw2 := am_up (am_up (am_up (am_up (aw) 21 (am_O 1 [.ref 22, .ref 23, .ref 24, .ref 25, .ref 26, .int 0, .int 0, .int 0, .int 0, .int 0, .int 0, .int 0])) 22 (am_I .int 32 (upd (upd (fun _ => 0) 0 (nI 10)) 5 (nI 10)))) 24 (am_I .int 4 (upd (upd (upd (upd (fun _ => 0) 0 (nI 1)) 1 (nI 2)) 2 (nI 5)) 3 (nI 9)))) 25 (am_I .int 8 (upd (upd (fun _ => 0) 0 (nI 1)) 1 (nI 2)))) ?_ ?_
  ·
    funext c
    by_cases e21 : c = 21
    · subst e21
      rfl
    by_cases e22 : c = 22
    · subst e22
      rfl
    by_cases e24 : c = 24
    · subst e24
      rfl
    by_cases e25 : c = 25
    · subst e25
      rfl
    simp only [am_up_ne _ _ e21, am_up_ne _ _ e22, am_up_ne _ _ e24, am_up_ne _ _ e25]
  refine sw_iinc (i := 1) (v := nI 2) dX2_init_106 rfl (by decide) (Nat.le_of_ble_eq_true rfl) rfl ?_
  refine sw_lo (lo2 := [some (.ref 21), some (.int _)]) rfl ?_
  refine sw_goto (tgt := 74) dX2_init_109 rfl ?_
  refine sw_iload_n (i := 1) dX2_init_74 rfl rfl ?_
  refine sw_ins (pc2 := 75) rfl rfl ?_
  refine sw_bi 8 dX2_init_75 (by decide +kernel) ?_
  refine sw_ic_ge (tgt := 112) dX2_init_77 rfl (fun h9 => absurd h9 (by decide)) (fun _ => ?_)
  refine sw_aload_n (i := 0) dX2_init_80 rfl rfl ?_
  refine sw_get (fs := [.ref 22, .ref 23, .ref 24, .ref 25, .ref 26, .int 0, .int 0, .int 0, .int 0, .int 0, .int 0, .int 0]) f_X2_9 (by decide) rfl (v := .ref 22) rfl dX2_init_81 ?_
  refine sw_iload_n (i := 1) dX2_init_84 rfl rfl ?_
  refine sw_ic 4 dX2_init_85 ?_
  refine sw_imul dX2_init_86 ?_
  refine sw_topE (v := nI 8) (by decide) ?_
  refine sw_iload_n (i := 1) dX2_init_87 rfl rfl ?_
  refine sw_ins (pc2 := 88) rfl rfl ?_
  refine sw_ic 4 dX2_init_88 ?_
  refine sw_irem (by decide) dX2_init_89 ?_
  refine sw_topE (v := nI 2) (by decide) ?_
  refine sw_iadd dX2_init_90 ?_
  refine sw_topE (v := nI 10) (by decide) ?_
  refine sw_bi 10 dX2_init_91 (by decide +kernel) ?_
  refine sw_iast (10) (by decide) (f := (upd (upd (fun _ => 0) 0 (nI 10)) 5 (nI 10))) (nn := 32) rfl rfl (by decide) (by decide) dX2_init_93 ?_
  refine sw_weq (aw2 := am_up (am_up (am_up (am_up (aw) 21 (am_O 1 [.ref 22, .ref 23, .ref 24, .ref 25, .ref 26, .int 0, .int 0, .int 0, .int 0, .int 0, .int 0, .int 0])) 22 (am_I .int 32 (upd (upd (upd (fun _ => 0) 0 (nI 10)) 5 (nI 10)) 10 (nI 10)))) 24 (am_I .int 4 (upd (upd (upd (upd (fun _ => 0) 0 (nI 1)) 1 (nI 2)) 2 (nI 5)) 3 (nI 9)))) 25 (am_I .int 8 (upd (upd (fun _ => 0) 0 (nI 1)) 1 (nI 2)))) ?_ ?_
  ·
    funext c
    by_cases e21 : c = 21
    · subst e21
      rfl
    by_cases e22 : c = 22
    · subst e22
      rfl
    by_cases e24 : c = 24
    · subst e24
      rfl
    by_cases e25 : c = 25
    · subst e25
      rfl
    simp only [am_up_ne _ _ e21, am_up_ne _ _ e22, am_up_ne _ _ e24, am_up_ne _ _ e25]
  refine sw_aload_n (i := 0) dX2_init_94 rfl rfl ?_
  refine sw_get (fs := [.ref 22, .ref 23, .ref 24, .ref 25, .ref 26, .int 0, .int 0, .int 0, .int 0, .int 0, .int 0, .int 0]) f_X2_21 (by decide) rfl (v := .ref 25) rfl dX2_init_95 ?_
  refine sw_iload_n (i := 1) dX2_init_98 rfl rfl ?_
  refine sw_ins (pc2 := 99) rfl rfl ?_
  refine sw_iload_n (i := 1) dX2_init_99 rfl rfl ?_
  refine sw_ic 1 dX2_init_100 ?_
  refine sw_iadd dX2_init_101 ?_
  refine sw_topE (v := nI 3) (by decide) ?_
  refine sw_bi 8 dX2_init_102 (by decide +kernel) ?_
  refine sw_irem (by decide) dX2_init_104 ?_
  refine sw_topE (v := nI 3) (by decide) ?_
  refine sw_iast (2) (by decide) (f := (upd (upd (fun _ => 0) 0 (nI 1)) 1 (nI 2))) (nn := 8) rfl rfl (by decide) (by decide) dX2_init_105 ?_
  refine sw_weq (aw2 := am_up (am_up (am_up (am_up (aw) 21 (am_O 1 [.ref 22, .ref 23, .ref 24, .ref 25, .ref 26, .int 0, .int 0, .int 0, .int 0, .int 0, .int 0, .int 0])) 22 (am_I .int 32 (upd (upd (upd (fun _ => 0) 0 (nI 10)) 5 (nI 10)) 10 (nI 10)))) 24 (am_I .int 4 (upd (upd (upd (upd (fun _ => 0) 0 (nI 1)) 1 (nI 2)) 2 (nI 5)) 3 (nI 9)))) 25 (am_I .int 8 (upd (upd (upd (fun _ => 0) 0 (nI 1)) 1 (nI 2)) 2 (nI 3)))) ?_ ?_
  ·
    funext c
    by_cases e21 : c = 21
    · subst e21
      rfl
    by_cases e22 : c = 22
    · subst e22
      rfl
    by_cases e24 : c = 24
    · subst e24
      rfl
    by_cases e25 : c = 25
    · subst e25
      rfl
    simp only [am_up_ne _ _ e21, am_up_ne _ _ e22, am_up_ne _ _ e24, am_up_ne _ _ e25]
  refine sw_iinc (i := 1) (v := nI 3) dX2_init_106 rfl (by decide) (Nat.le_of_ble_eq_true rfl) rfl ?_
  refine sw_lo (lo2 := [some (.ref 21), some (.int _)]) rfl ?_
  refine sw_goto (tgt := 74) dX2_init_109 rfl ?_
  refine sw_ins (pc2 := 74) rfl rfl ?_
  refine sw_iload_n (i := 1) dX2_init_74 rfl rfl ?_
  refine sw_bi 8 dX2_init_75 (by decide +kernel) ?_
  refine sw_ic_ge (tgt := 112) dX2_init_77 rfl (fun h9 => absurd h9 (by decide)) (fun _ => ?_)
  refine sw_aload_n (i := 0) dX2_init_80 rfl rfl ?_
  refine sw_get (fs := [.ref 22, .ref 23, .ref 24, .ref 25, .ref 26, .int 0, .int 0, .int 0, .int 0, .int 0, .int 0, .int 0]) f_X2_9 (by decide) rfl (v := .ref 22) rfl dX2_init_81 ?_
  refine sw_iload_n (i := 1) dX2_init_84 rfl rfl ?_
  refine sw_ic 4 dX2_init_85 ?_
  refine sw_imul dX2_init_86 ?_
  refine sw_topE (v := nI 12) (by decide) ?_
  refine sw_ins (pc2 := 87) rfl rfl ?_
  refine sw_iload_n (i := 1) dX2_init_87 rfl rfl ?_
  refine sw_ic 4 dX2_init_88 ?_
  refine sw_irem (by decide) dX2_init_89 ?_
  refine sw_topE (v := nI 3) (by decide) ?_
  refine sw_iadd dX2_init_90 ?_
  refine sw_topE (v := nI 15) (by decide) ?_
  refine sw_bi 10 dX2_init_91 (by decide +kernel) ?_
  refine sw_iast (15) (by decide) (f := (upd (upd (upd (fun _ => 0) 0 (nI 10)) 5 (nI 10)) 10 (nI 10))) (nn := 32) rfl rfl (by decide) (by decide) dX2_init_93 ?_
  refine sw_weq (aw2 := am_up (am_up (am_up (am_up (aw) 21 (am_O 1 [.ref 22, .ref 23, .ref 24, .ref 25, .ref 26, .int 0, .int 0, .int 0, .int 0, .int 0, .int 0, .int 0])) 22 (am_I .int 32 (upd (upd (upd (upd (fun _ => 0) 0 (nI 10)) 5 (nI 10)) 10 (nI 10)) 15 (nI 10)))) 24 (am_I .int 4 (upd (upd (upd (upd (fun _ => 0) 0 (nI 1)) 1 (nI 2)) 2 (nI 5)) 3 (nI 9)))) 25 (am_I .int 8 (upd (upd (upd (fun _ => 0) 0 (nI 1)) 1 (nI 2)) 2 (nI 3)))) ?_ ?_
  ·
    funext c
    by_cases e21 : c = 21
    · subst e21
      rfl
    by_cases e22 : c = 22
    · subst e22
      rfl
    by_cases e24 : c = 24
    · subst e24
      rfl
    by_cases e25 : c = 25
    · subst e25
      rfl
    simp only [am_up_ne _ _ e21, am_up_ne _ _ e22, am_up_ne _ _ e24, am_up_ne _ _ e25]
  refine sw_aload_n (i := 0) dX2_init_94 rfl rfl ?_
  refine sw_get (fs := [.ref 22, .ref 23, .ref 24, .ref 25, .ref 26, .int 0, .int 0, .int 0, .int 0, .int 0, .int 0, .int 0]) f_X2_21 (by decide) rfl (v := .ref 25) rfl dX2_init_95 ?_
  refine sw_ins (pc2 := 98) rfl rfl ?_
  refine sw_iload_n (i := 1) dX2_init_98 rfl rfl ?_
  refine sw_iload_n (i := 1) dX2_init_99 rfl rfl ?_
  refine sw_ic 1 dX2_init_100 ?_
  refine sw_iadd dX2_init_101 ?_
  refine sw_topE (v := nI 4) (by decide) ?_
  refine sw_bi 8 dX2_init_102 (by decide +kernel) ?_
  refine sw_irem (by decide) dX2_init_104 ?_
  refine sw_topE (v := nI 4) (by decide) ?_
  refine sw_iast (3) (by decide) (f := (upd (upd (upd (fun _ => 0) 0 (nI 1)) 1 (nI 2)) 2 (nI 3))) (nn := 8) rfl rfl (by decide) (by decide) dX2_init_105 ?_
  refine sw_weq (aw2 := am_up (am_up (am_up (am_up (aw) 21 (am_O 1 [.ref 22, .ref 23, .ref 24, .ref 25, .ref 26, .int 0, .int 0, .int 0, .int 0, .int 0, .int 0, .int 0])) 22 (am_I .int 32 (upd (upd (upd (upd (fun _ => 0) 0 (nI 10)) 5 (nI 10)) 10 (nI 10)) 15 (nI 10)))) 24 (am_I .int 4 (upd (upd (upd (upd (fun _ => 0) 0 (nI 1)) 1 (nI 2)) 2 (nI 5)) 3 (nI 9)))) 25 (am_I .int 8 (upd (upd (upd (upd (fun _ => 0) 0 (nI 1)) 1 (nI 2)) 2 (nI 3)) 3 (nI 4)))) ?_ ?_
  ·
    funext c
    by_cases e21 : c = 21
    · subst e21
      rfl
    by_cases e22 : c = 22
    · subst e22
      rfl
    by_cases e24 : c = 24
    · subst e24
      rfl
    by_cases e25 : c = 25
    · subst e25
      rfl
    simp only [am_up_ne _ _ e21, am_up_ne _ _ e22, am_up_ne _ _ e24, am_up_ne _ _ e25]
  refine sw_iinc (i := 1) (v := nI 4) dX2_init_106 rfl (by decide) (Nat.le_of_ble_eq_true rfl) rfl ?_
  refine sw_lo (lo2 := [some (.ref 21), some (.int _)]) rfl ?_
  refine sw_ins (pc2 := 109) rfl rfl ?_
  refine sw_goto (tgt := 74) dX2_init_109 rfl ?_
  refine sw_iload_n (i := 1) dX2_init_74 rfl rfl ?_
  refine sw_bi 8 dX2_init_75 (by decide +kernel) ?_
  refine sw_ic_ge (tgt := 112) dX2_init_77 rfl (fun h9 => absurd h9 (by decide)) (fun _ => ?_)
  refine sw_aload_n (i := 0) dX2_init_80 rfl rfl ?_
  refine sw_get (fs := [.ref 22, .ref 23, .ref 24, .ref 25, .ref 26, .int 0, .int 0, .int 0, .int 0, .int 0, .int 0, .int 0]) f_X2_9 (by decide) rfl (v := .ref 22) rfl dX2_init_81 ?_
  refine sw_iload_n (i := 1) dX2_init_84 rfl rfl ?_
  refine sw_ic 4 dX2_init_85 ?_
  refine sw_ins (pc2 := 86) rfl rfl ?_
  refine sw_imul dX2_init_86 ?_
  refine sw_topE (v := nI 16) (by decide) ?_
  refine sw_iload_n (i := 1) dX2_init_87 rfl rfl ?_
  refine sw_ic 4 dX2_init_88 ?_
  refine sw_irem (by decide) dX2_init_89 ?_
  refine sw_topE (v := nI 0) (by decide) ?_
  refine sw_iadd dX2_init_90 ?_
  refine sw_topE (v := nI 16) (by decide) ?_
  refine sw_bi 10 dX2_init_91 (by decide +kernel) ?_
  refine sw_iast (16) (by decide) (f := (upd (upd (upd (upd (fun _ => 0) 0 (nI 10)) 5 (nI 10)) 10 (nI 10)) 15 (nI 10))) (nn := 32) rfl rfl (by decide) (by decide) dX2_init_93 ?_
  refine sw_weq (aw2 := am_up (am_up (am_up (am_up (aw) 21 (am_O 1 [.ref 22, .ref 23, .ref 24, .ref 25, .ref 26, .int 0, .int 0, .int 0, .int 0, .int 0, .int 0, .int 0])) 22 (am_I .int 32 (upd (upd (upd (upd (upd (fun _ => 0) 0 (nI 10)) 5 (nI 10)) 10 (nI 10)) 15 (nI 10)) 16 (nI 10)))) 24 (am_I .int 4 (upd (upd (upd (upd (fun _ => 0) 0 (nI 1)) 1 (nI 2)) 2 (nI 5)) 3 (nI 9)))) 25 (am_I .int 8 (upd (upd (upd (upd (fun _ => 0) 0 (nI 1)) 1 (nI 2)) 2 (nI 3)) 3 (nI 4)))) ?_ ?_
  ·
    funext c
    by_cases e21 : c = 21
    · subst e21
      rfl
    by_cases e22 : c = 22
    · subst e22
      rfl
    by_cases e24 : c = 24
    · subst e24
      rfl
    by_cases e25 : c = 25
    · subst e25
      rfl
    simp only [am_up_ne _ _ e21, am_up_ne _ _ e22, am_up_ne _ _ e24, am_up_ne _ _ e25]
  refine sw_aload_n (i := 0) dX2_init_94 rfl rfl ?_
  refine sw_get (fs := [.ref 22, .ref 23, .ref 24, .ref 25, .ref 26, .int 0, .int 0, .int 0, .int 0, .int 0, .int 0, .int 0]) f_X2_21 (by decide) rfl (v := .ref 25) rfl dX2_init_95 ?_
  refine sw_iload_n (i := 1) dX2_init_98 rfl rfl ?_
  refine sw_iload_n (i := 1) dX2_init_99 rfl rfl ?_
  refine sw_ic 1 dX2_init_100 ?_
  refine sw_iadd dX2_init_101 ?_
  refine sw_topE (v := nI 5) (by decide) ?_
  refine sw_bi 8 dX2_init_102 (by decide +kernel) ?_
  refine sw_irem (by decide) dX2_init_104 ?_
  refine sw_topE (v := nI 5) (by decide) ?_
  refine sw_iast (4) (by decide) (f := (upd (upd (upd (upd (fun _ => 0) 0 (nI 1)) 1 (nI 2)) 2 (nI 3)) 3 (nI 4))) (nn := 8) rfl rfl (by decide) (by decide) dX2_init_105 ?_
  refine sw_weq (aw2 := am_up (am_up (am_up (am_up (aw) 21 (am_O 1 [.ref 22, .ref 23, .ref 24, .ref 25, .ref 26, .int 0, .int 0, .int 0, .int 0, .int 0, .int 0, .int 0])) 22 (am_I .int 32 (upd (upd (upd (upd (upd (fun _ => 0) 0 (nI 10)) 5 (nI 10)) 10 (nI 10)) 15 (nI 10)) 16 (nI 10)))) 24 (am_I .int 4 (upd (upd (upd (upd (fun _ => 0) 0 (nI 1)) 1 (nI 2)) 2 (nI 5)) 3 (nI 9)))) 25 (am_I .int 8 (upd (upd (upd (upd (upd (fun _ => 0) 0 (nI 1)) 1 (nI 2)) 2 (nI 3)) 3 (nI 4)) 4 (nI 5)))) ?_ ?_
  ·
    funext c
    by_cases e21 : c = 21
    · subst e21
      rfl
    by_cases e22 : c = 22
    · subst e22
      rfl
    by_cases e24 : c = 24
    · subst e24
      rfl
    by_cases e25 : c = 25
    · subst e25
      rfl
    simp only [am_up_ne _ _ e21, am_up_ne _ _ e22, am_up_ne _ _ e24, am_up_ne _ _ e25]
  refine sw_ins (pc2 := 106) rfl rfl ?_
  refine sw_iinc (i := 1) (v := nI 5) dX2_init_106 rfl (by decide) (Nat.le_of_ble_eq_true rfl) rfl ?_
  refine sw_lo (lo2 := [some (.ref 21), some (.int _)]) rfl ?_
  refine sw_goto (tgt := 74) dX2_init_109 rfl ?_
  refine sw_iload_n (i := 1) dX2_init_74 rfl rfl ?_
  refine sw_bi 8 dX2_init_75 (by decide +kernel) ?_
  refine sw_ic_ge (tgt := 112) dX2_init_77 rfl (fun h9 => absurd h9 (by decide)) (fun _ => ?_)
  refine sw_aload_n (i := 0) dX2_init_80 rfl rfl ?_
  refine sw_get (fs := [.ref 22, .ref 23, .ref 24, .ref 25, .ref 26, .int 0, .int 0, .int 0, .int 0, .int 0, .int 0, .int 0]) f_X2_9 (by decide) rfl (v := .ref 22) rfl dX2_init_81 ?_
  refine sw_iload_n (i := 1) dX2_init_84 rfl rfl ?_
  refine sw_ins (pc2 := 85) rfl rfl ?_
  refine sw_ic 4 dX2_init_85 ?_
  refine sw_imul dX2_init_86 ?_
  refine sw_topE (v := nI 20) (by decide) ?_
  refine sw_iload_n (i := 1) dX2_init_87 rfl rfl ?_
  refine sw_ic 4 dX2_init_88 ?_
  refine sw_irem (by decide) dX2_init_89 ?_
  refine sw_topE (v := nI 1) (by decide) ?_
  refine sw_iadd dX2_init_90 ?_
  refine sw_topE (v := nI 21) (by decide) ?_
  refine sw_bi 10 dX2_init_91 (by decide +kernel) ?_
  refine sw_iast (21) (by decide) (f := (upd (upd (upd (upd (upd (fun _ => 0) 0 (nI 10)) 5 (nI 10)) 10 (nI 10)) 15 (nI 10)) 16 (nI 10))) (nn := 32) rfl rfl (by decide) (by decide) dX2_init_93 ?_
  refine sw_weq (aw2 := am_up (am_up (am_up (am_up (aw) 21 (am_O 1 [.ref 22, .ref 23, .ref 24, .ref 25, .ref 26, .int 0, .int 0, .int 0, .int 0, .int 0, .int 0, .int 0])) 22 (am_I .int 32 (upd (upd (upd (upd (upd (upd (fun _ => 0) 0 (nI 10)) 5 (nI 10)) 10 (nI 10)) 15 (nI 10)) 16 (nI 10)) 21 (nI 10)))) 24 (am_I .int 4 (upd (upd (upd (upd (fun _ => 0) 0 (nI 1)) 1 (nI 2)) 2 (nI 5)) 3 (nI 9)))) 25 (am_I .int 8 (upd (upd (upd (upd (upd (fun _ => 0) 0 (nI 1)) 1 (nI 2)) 2 (nI 3)) 3 (nI 4)) 4 (nI 5)))) ?_ ?_
  ·
    funext c
    by_cases e21 : c = 21
    · subst e21
      rfl
    by_cases e22 : c = 22
    · subst e22
      rfl
    by_cases e24 : c = 24
    · subst e24
      rfl
    by_cases e25 : c = 25
    · subst e25
      rfl
    simp only [am_up_ne _ _ e21, am_up_ne _ _ e22, am_up_ne _ _ e24, am_up_ne _ _ e25]
  refine sw_ins (pc2 := 94) rfl rfl ?_
  refine sw_aload_n (i := 0) dX2_init_94 rfl rfl ?_
  refine sw_get (fs := [.ref 22, .ref 23, .ref 24, .ref 25, .ref 26, .int 0, .int 0, .int 0, .int 0, .int 0, .int 0, .int 0]) f_X2_21 (by decide) rfl (v := .ref 25) rfl dX2_init_95 ?_
  refine sw_iload_n (i := 1) dX2_init_98 rfl rfl ?_
  refine sw_iload_n (i := 1) dX2_init_99 rfl rfl ?_
  refine sw_ic 1 dX2_init_100 ?_
  refine sw_iadd dX2_init_101 ?_
  refine sw_topE (v := nI 6) (by decide) ?_
  refine sw_bi 8 dX2_init_102 (by decide +kernel) ?_
  refine sw_irem (by decide) dX2_init_104 ?_
  refine sw_topE (v := nI 6) (by decide) ?_
  refine sw_iast (5) (by decide) (f := (upd (upd (upd (upd (upd (fun _ => 0) 0 (nI 1)) 1 (nI 2)) 2 (nI 3)) 3 (nI 4)) 4 (nI 5))) (nn := 8) rfl rfl (by decide) (by decide) dX2_init_105 ?_
  refine sw_weq (aw2 := am_up (am_up (am_up (am_up (aw) 21 (am_O 1 [.ref 22, .ref 23, .ref 24, .ref 25, .ref 26, .int 0, .int 0, .int 0, .int 0, .int 0, .int 0, .int 0])) 22 (am_I .int 32 (upd (upd (upd (upd (upd (upd (fun _ => 0) 0 (nI 10)) 5 (nI 10)) 10 (nI 10)) 15 (nI 10)) 16 (nI 10)) 21 (nI 10)))) 24 (am_I .int 4 (upd (upd (upd (upd (fun _ => 0) 0 (nI 1)) 1 (nI 2)) 2 (nI 5)) 3 (nI 9)))) 25 (am_I .int 8 (upd (upd (upd (upd (upd (upd (fun _ => 0) 0 (nI 1)) 1 (nI 2)) 2 (nI 3)) 3 (nI 4)) 4 (nI 5)) 5 (nI 6)))) ?_ ?_
  ·
    funext c
    by_cases e21 : c = 21
    · subst e21
      rfl
    by_cases e22 : c = 22
    · subst e22
      rfl
    by_cases e24 : c = 24
    · subst e24
      rfl
    by_cases e25 : c = 25
    · subst e25
      rfl
    simp only [am_up_ne _ _ e21, am_up_ne _ _ e22, am_up_ne _ _ e24, am_up_ne _ _ e25]
  refine sw_iinc (i := 1) (v := nI 6) dX2_init_106 rfl (by decide) (Nat.le_of_ble_eq_true rfl) rfl ?_
  refine sw_lo (lo2 := [some (.ref 21), some (.int _)]) rfl ?_
  refine sw_goto (tgt := 74) dX2_init_109 rfl ?_
  refine sw_iload_n (i := 1) dX2_init_74 rfl rfl ?_
  refine sw_bi 8 dX2_init_75 (by decide +kernel) ?_
  refine sw_ic_ge (tgt := 112) dX2_init_77 rfl (fun h9 => absurd h9 (by decide)) (fun _ => ?_)
  refine sw_aload_n (i := 0) dX2_init_80 rfl rfl ?_
  refine sw_get (fs := [.ref 22, .ref 23, .ref 24, .ref 25, .ref 26, .int 0, .int 0, .int 0, .int 0, .int 0, .int 0, .int 0]) f_X2_9 (by decide) rfl (v := .ref 22) rfl dX2_init_81 ?_
  refine sw_ins (pc2 := 84) rfl rfl ?_
  refine sw_iload_n (i := 1) dX2_init_84 rfl rfl ?_
  refine sw_ic 4 dX2_init_85 ?_
  refine sw_imul dX2_init_86 ?_
  refine sw_topE (v := nI 24) (by decide) ?_
  refine sw_iload_n (i := 1) dX2_init_87 rfl rfl ?_
  refine sw_ic 4 dX2_init_88 ?_
  refine sw_irem (by decide) dX2_init_89 ?_
  refine sw_topE (v := nI 2) (by decide) ?_
  refine sw_iadd dX2_init_90 ?_
  refine sw_topE (v := nI 26) (by decide) ?_
  refine sw_bi 10 dX2_init_91 (by decide +kernel) ?_
  refine sw_iast (26) (by decide) (f := (upd (upd (upd (upd (upd (upd (fun _ => 0) 0 (nI 10)) 5 (nI 10)) 10 (nI 10)) 15 (nI 10)) 16 (nI 10)) 21 (nI 10))) (nn := 32) rfl rfl (by decide) (by decide) dX2_init_93 ?_
  refine sw_weq (aw2 := am_up (am_up (am_up (am_up (aw) 21 (am_O 1 [.ref 22, .ref 23, .ref 24, .ref 25, .ref 26, .int 0, .int 0, .int 0, .int 0, .int 0, .int 0, .int 0])) 22 (am_I .int 32 (upd (upd (upd (upd (upd (upd (upd (fun _ => 0) 0 (nI 10)) 5 (nI 10)) 10 (nI 10)) 15 (nI 10)) 16 (nI 10)) 21 (nI 10)) 26 (nI 10)))) 24 (am_I .int 4 (upd (upd (upd (upd (fun _ => 0) 0 (nI 1)) 1 (nI 2)) 2 (nI 5)) 3 (nI 9)))) 25 (am_I .int 8 (upd (upd (upd (upd (upd (upd (fun _ => 0) 0 (nI 1)) 1 (nI 2)) 2 (nI 3)) 3 (nI 4)) 4 (nI 5)) 5 (nI 6)))) ?_ ?_
  ·
    funext c
    by_cases e21 : c = 21
    · subst e21
      rfl
    by_cases e22 : c = 22
    · subst e22
      rfl
    by_cases e24 : c = 24
    · subst e24
      rfl
    by_cases e25 : c = 25
    · subst e25
      rfl
    simp only [am_up_ne _ _ e21, am_up_ne _ _ e22, am_up_ne _ _ e24, am_up_ne _ _ e25]
  refine sw_aload_n (i := 0) dX2_init_94 rfl rfl ?_
  refine sw_get (fs := [.ref 22, .ref 23, .ref 24, .ref 25, .ref 26, .int 0, .int 0, .int 0, .int 0, .int 0, .int 0, .int 0]) f_X2_21 (by decide) rfl (v := .ref 25) rfl dX2_init_95 ?_
  refine sw_iload_n (i := 1) dX2_init_98 rfl rfl ?_
  refine sw_iload_n (i := 1) dX2_init_99 rfl rfl ?_
  refine sw_ic 1 dX2_init_100 ?_
  refine sw_iadd dX2_init_101 ?_
  refine sw_topE (v := nI 7) (by decide) ?_
  refine sw_bi 8 dX2_init_102 (by decide +kernel) ?_
  refine sw_irem (by decide) dX2_init_104 ?_
  refine sw_topE (v := nI 7) (by decide) ?_
  refine sw_iast (6) (by decide) (f := (upd (upd (upd (upd (upd (upd (fun _ => 0) 0 (nI 1)) 1 (nI 2)) 2 (nI 3)) 3 (nI 4)) 4 (nI 5)) 5 (nI 6))) (nn := 8) rfl rfl (by decide) (by decide) dX2_init_105 ?_
  refine sw_weq (aw2 := am_up (am_up (am_up (am_up (aw) 21 (am_O 1 [.ref 22, .ref 23, .ref 24, .ref 25, .ref 26, .int 0, .int 0, .int 0, .int 0, .int 0, .int 0, .int 0])) 22 (am_I .int 32 (upd (upd (upd (upd (upd (upd (upd (fun _ => 0) 0 (nI 10)) 5 (nI 10)) 10 (nI 10)) 15 (nI 10)) 16 (nI 10)) 21 (nI 10)) 26 (nI 10)))) 24 (am_I .int 4 (upd (upd (upd (upd (fun _ => 0) 0 (nI 1)) 1 (nI 2)) 2 (nI 5)) 3 (nI 9)))) 25 (am_I .int 8 (upd (upd (upd (upd (upd (upd (upd (fun _ => 0) 0 (nI 1)) 1 (nI 2)) 2 (nI 3)) 3 (nI 4)) 4 (nI 5)) 5 (nI 6)) 6 (nI 7)))) ?_ ?_
  ·
    funext c
    by_cases e21 : c = 21
    · subst e21
      rfl
    by_cases e22 : c = 22
    · subst e22
      rfl
    by_cases e24 : c = 24
    · subst e24
      rfl
    by_cases e25 : c = 25
    · subst e25
      rfl
    simp only [am_up_ne _ _ e21, am_up_ne _ _ e22, am_up_ne _ _ e24, am_up_ne _ _ e25]
  refine sw_iinc (i := 1) (v := nI 7) dX2_init_106 rfl (by decide) (Nat.le_of_ble_eq_true rfl) rfl ?_
  refine sw_lo (lo2 := [some (.ref 21), some (.int _)]) rfl ?_
  refine sw_goto (tgt := 74) dX2_init_109 rfl ?_
  refine sw_iload_n (i := 1) dX2_init_74 rfl rfl ?_
  refine sw_bi 8 dX2_init_75 (by decide +kernel) ?_
  refine sw_ic_ge (tgt := 112) dX2_init_77 rfl (fun h9 => absurd h9 (by decide)) (fun _ => ?_)
  refine sw_aload_n (i := 0) dX2_init_80 rfl rfl ?_
  refine sw_get (fs := [.ref 22, .ref 23, .ref 24, .ref 25, .ref 26, .int 0, .int 0, .int 0, .int 0, .int 0, .int 0, .int 0]) f_X2_9 (by decide) rfl (v := .ref 22) rfl dX2_init_81 ?_
  refine sw_iload_n (i := 1) dX2_init_84 rfl rfl ?_
  refine sw_ic 4 dX2_init_85 ?_
  refine sw_imul dX2_init_86 ?_
  refine sw_topE (v := nI 28) (by decide) ?_
  refine sw_iload_n (i := 1) dX2_init_87 rfl rfl ?_
  refine sw_ic 4 dX2_init_88 ?_
  refine sw_irem (by decide) dX2_init_89 ?_
  refine sw_topE (v := nI 3) (by decide) ?_
  refine sw_iadd dX2_init_90 ?_
  refine sw_topE (v := nI 31) (by decide) ?_
  refine sw_ins (pc2 := 91) rfl rfl ?_
  refine sw_bi 10 dX2_init_91 (by decide +kernel) ?_
  refine sw_iast (31) (by decide) (f := (upd (upd (upd (upd (upd (upd (upd (fun _ => 0) 0 (nI 10)) 5 (nI 10)) 10 (nI 10)) 15 (nI 10)) 16 (nI 10)) 21 (nI 10)) 26 (nI 10))) (nn := 32) rfl rfl (by decide) (by decide) dX2_init_93 ?_
  refine sw_weq (aw2 := am_up (am_up (am_up (am_up (aw) 21 (am_O 1 [.ref 22, .ref 23, .ref 24, .ref 25, .ref 26, .int 0, .int 0, .int 0, .int 0, .int 0, .int 0, .int 0])) 22 (am_I .int 32 (upd (upd (upd (upd (upd (upd (upd (upd (fun _ => 0) 0 (nI 10)) 5 (nI 10)) 10 (nI 10)) 15 (nI 10)) 16 (nI 10)) 21 (nI 10)) 26 (nI 10)) 31 (nI 10)))) 24 (am_I .int 4 (upd (upd (upd (upd (fun _ => 0) 0 (nI 1)) 1 (nI 2)) 2 (nI 5)) 3 (nI 9)))) 25 (am_I .int 8 (upd (upd (upd (upd (upd (upd (upd (fun _ => 0) 0 (nI 1)) 1 (nI 2)) 2 (nI 3)) 3 (nI 4)) 4 (nI 5)) 5 (nI 6)) 6 (nI 7)))) ?_ ?_
  ·
    funext c
    by_cases e21 : c = 21
    · subst e21
      rfl
    by_cases e22 : c = 22
    · subst e22
      rfl
    by_cases e24 : c = 24
    · subst e24
      rfl
    by_cases e25 : c = 25
    · subst e25
      rfl
    simp only [am_up_ne _ _ e21, am_up_ne _ _ e22, am_up_ne _ _ e24, am_up_ne _ _ e25]
  refine sw_aload_n (i := 0) dX2_init_94 rfl rfl ?_
  refine sw_get (fs := [.ref 22, .ref 23, .ref 24, .ref 25, .ref 26, .int 0, .int 0, .int 0, .int 0, .int 0, .int 0, .int 0]) f_X2_21 (by decide) rfl (v := .ref 25) rfl dX2_init_95 ?_
  refine sw_iload_n (i := 1) dX2_init_98 rfl rfl ?_
  refine sw_iload_n (i := 1) dX2_init_99 rfl rfl ?_
  refine sw_ic 1 dX2_init_100 ?_
  refine sw_iadd dX2_init_101 ?_
  refine sw_topE (v := nI 8) (by decide) ?_
  refine sw_ins (pc2 := 102) rfl rfl ?_
  refine sw_bi 8 dX2_init_102 (by decide +kernel) ?_
  refine sw_irem (by decide) dX2_init_104 ?_
  refine sw_topE (v := nI 0) (by decide) ?_
  refine sw_iast (7) (by decide) (f := (upd (upd (upd (upd (upd (upd (upd (fun _ => 0) 0 (nI 1)) 1 (nI 2)) 2 (nI 3)) 3 (nI 4)) 4 (nI 5)) 5 (nI 6)) 6 (nI 7))) (nn := 8) rfl rfl (by decide) (by decide) dX2_init_105 ?_
  refine sw_weq (aw2 := am_up (am_up (am_up (am_up (aw) 21 (am_O 1 [.ref 22, .ref 23, .ref 24, .ref 25, .ref 26, .int 0, .int 0, .int 0, .int 0, .int 0, .int 0, .int 0])) 22 (am_I .int 32 (upd (upd (upd (upd (upd (upd (upd (upd (fun _ => 0) 0 (nI 10)) 5 (nI 10)) 10 (nI 10)) 15 (nI 10)) 16 (nI 10)) 21 (nI 10)) 26 (nI 10)) 31 (nI 10)))) 24 (am_I .int 4 (upd (upd (upd (upd (fun _ => 0) 0 (nI 1)) 1 (nI 2)) 2 (nI 5)) 3 (nI 9)))) 25 (am_I .int 8 (upd (upd (upd (upd (upd (upd (upd (upd (fun _ => 0) 0 (nI 1)) 1 (nI 2)) 2 (nI 3)) 3 (nI 4)) 4 (nI 5)) 5 (nI 6)) 6 (nI 7)) 7 (nI 0)))) ?_ ?_
  ·
    funext c
    by_cases e21 : c = 21
    · subst e21
      rfl
    by_cases e22 : c = 22
    · subst e22
      rfl
    by_cases e24 : c = 24
    · subst e24
      rfl
    by_cases e25 : c = 25
    · subst e25
      rfl
    simp only [am_up_ne _ _ e21, am_up_ne _ _ e22, am_up_ne _ _ e24, am_up_ne _ _ e25]
  refine sw_iinc (i := 1) (v := nI 8) dX2_init_106 rfl (by decide) (Nat.le_of_ble_eq_true rfl) rfl ?_
  refine sw_lo (lo2 := [some (.ref 21), some (.int _)]) rfl ?_
  refine sw_goto (tgt := 74) dX2_init_109 rfl ?_
  refine sw_iload_n (i := 1) dX2_init_74 rfl rfl ?_
  refine sw_bi 8 dX2_init_75 (by decide +kernel) ?_
  refine sw_ic_ge (tgt := 112) dX2_init_77 rfl (fun _ => ?_) (fun h9 => absurd (by decide) h9)
  refine sw_weq (aw2 := aw) ?_ ?_
  ·
    funext c
    by_cases e21 : c = 21
    · subst e21
      exact (hz 21 (by decide) (by decide)).symm
    by_cases e22 : c = 22
    · subst e22
      exact (hz 22 (by decide) (by decide)).symm
    by_cases e24 : c = 24
    · subst e24
      exact (hz 24 (by decide) (by decide)).symm
    by_cases e25 : c = 25
    · subst e25
      exact (hz 25 (by decide) (by decide)).symm
    simp only [am_up_ne _ _ e21, am_up_ne _ _ e22, am_up_ne _ _ e24, am_up_ne _ _ e25]
  exact sw_return rfl dX2_init_112
set_option maxRecDepth 100000 in
set_option maxHeartbeats 4000000 in
theorem I_27 {aw : Nat → am_E} (hz : ∀ c, 27 ≤ c → c < 33 → aw c = z0 c) : am_AM kX2_init yX2_init 1 [.ref 27] 28 (am_up aw 27 (am_O 1 fs0_X2)) none 33 (aw) 5 108 := by
  refine am_of pl_X2_init (Nat.le_of_ble_eq_true rfl) ?_
  refine sw_aload_n (i := 0) dX2_init_0 rfl rfl ?_
  refine sw_oinit oi_X2_3 (by decide) (Nat.le_of_ble_eq_true rfl) dX2_init_1 ?_
  refine sw_aload_n (i := 0) dX2_init_4 rfl rfl ?_
  refine sw_bi 32 dX2_init_5 (by decide +kernel) ?_
  refine sw_newI (k2 := 4) (n2 := 76) ac_i rfl (fun _ => rfl) (nn := 32) rfl (by decide) (by decide) (by decide) (by decide) (by decide) dX2_init_7 ?_
  refine sw_putR rfl fp_X2_9 (fun _ => ⟨rfl, rfl⟩) (by decide) (fs := fs0_X2) rfl (by decide) dX2_init_9 ?_
  refine sw_weq (aw2 := am_up (am_up (aw) 27 (am_O 1 [.ref 28, .null, .null, .null, .null, .int 0, .int 0, .int 0, .int 0, .int 0, .int 0, .int 0])) 28 (am_I .int 32 (fun _ => 0))) ?_ ?_
  ·
    funext c
    by_cases e27 : c = 27
    · subst e27
      rfl
    by_cases e28 : c = 28
    · subst e28
      rfl
    simp only [am_up_ne _ _ e27, am_up_ne _ _ e28]
  refine sw_aload_n (i := 0) dX2_init_12 rfl rfl ?_
  refine sw_ins (pc2 := 13) rfl rfl ?_
  refine sw_bi 32 dX2_init_13 (by decide +kernel) ?_
  refine sw_newI (k2 := 3) (n2 := 44) ac_i rfl (fun _ => rfl) (nn := 32) rfl (by decide) (by decide) (by decide) (by decide) (by decide) dX2_init_15 ?_
  refine sw_weq (aw2 := am_up (am_up (aw) 27 (am_O 1 [.ref 28, .null, .null, .null, .null, .int 0, .int 0, .int 0, .int 0, .int 0, .int 0, .int 0])) 28 (am_I .int 32 (fun _ => 0))) ?_ ?_
  ·
    funext c
    by_cases e27 : c = 27
    · subst e27
      rfl
    by_cases e28 : c = 28
    · subst e28
      rfl
    by_cases e29 : c = 29
    · subst e29
      exact (hz 29 (by decide) (by decide)).symm
    simp only [am_up_ne _ _ e27, am_up_ne _ _ e28, am_up_ne _ _ e29]
  refine sw_putR rfl fp_X2_15 (fun _ => ⟨rfl, rfl⟩) (by decide) (fs := [.ref 28, .null, .null, .null, .null, .int 0, .int 0, .int 0, .int 0, .int 0, .int 0, .int 0]) rfl (by decide) dX2_init_17 ?_
  refine sw_weq (aw2 := am_up (am_up (aw) 27 (am_O 1 [.ref 28, .ref 29, .null, .null, .null, .int 0, .int 0, .int 0, .int 0, .int 0, .int 0, .int 0])) 28 (am_I .int 32 (fun _ => 0))) ?_ ?_
  ·
    funext c
    by_cases e27 : c = 27
    · subst e27
      rfl
    by_cases e28 : c = 28
    · subst e28
      rfl
    simp only [am_up_ne _ _ e27, am_up_ne _ _ e28]
  refine sw_aload_n (i := 0) dX2_init_20 rfl rfl ?_
  refine sw_ic 4 dX2_init_21 ?_
  refine sw_newI (k2 := 2) (n2 := 40) ac_i rfl (fun _ => rfl) (nn := 4) rfl (by decide) (by decide) (by decide) (by decide) (by decide) dX2_init_22 ?_
  refine sw_putR rfl fp_X2_18 (fun _ => ⟨rfl, rfl⟩) (by decide) (fs := [.ref 28, .ref 29, .null, .null, .null, .int 0, .int 0, .int 0, .int 0, .int 0, .int 0, .int 0]) rfl (by decide) dX2_init_24 ?_
  refine sw_weq (aw2 := am_up (am_up (am_up (aw) 27 (am_O 1 [.ref 28, .ref 29, .ref 30, .null, .null, .int 0, .int 0, .int 0, .int 0, .int 0, .int 0, .int 0])) 28 (am_I .int 32 (fun _ => 0))) 30 (am_I .int 4 (fun _ => 0))) ?_ ?_
  ·
    funext c
    by_cases e27 : c = 27
    · subst e27
      rfl
    by_cases e28 : c = 28
    · subst e28
      rfl
    by_cases e30 : c = 30
    · subst e30
      rfl
    simp only [am_up_ne _ _ e27, am_up_ne _ _ e28, am_up_ne _ _ e30]
  refine sw_aload_n (i := 0) dX2_init_27 rfl rfl ?_
  refine sw_ins (pc2 := 28) rfl rfl ?_
  refine sw_bi 8 dX2_init_28 (by decide +kernel) ?_
  refine sw_newI (k2 := 1) (n2 := 32) ac_i rfl (fun _ => rfl) (nn := 8) rfl (by decide) (by decide) (by decide) (by decide) (by decide) dX2_init_30 ?_
  refine sw_putR rfl fp_X2_21 (fun _ => ⟨rfl, rfl⟩) (by decide) (fs := [.ref 28, .ref 29, .ref 30, .null, .null, .int 0, .int 0, .int 0, .int 0, .int 0, .int 0, .int 0]) rfl (by decide) dX2_init_32 ?_
  refine sw_weq (aw2 := am_up (am_up (am_up (am_up (aw) 27 (am_O 1 [.ref 28, .ref 29, .ref 30, .ref 31, .null, .int 0, .int 0, .int 0, .int 0, .int 0, .int 0, .int 0])) 28 (am_I .int 32 (fun _ => 0))) 30 (am_I .int 4 (fun _ => 0))) 31 (am_I .int 8 (fun _ => 0))) ?_ ?_
  ·
    funext c
    by_cases e27 : c = 27
    · subst e27
      rfl
    by_cases e28 : c = 28
    · subst e28
      rfl
    by_cases e30 : c = 30
    · subst e30
      rfl
    by_cases e31 : c = 31
    · subst e31
      rfl
    simp only [am_up_ne _ _ e27, am_up_ne _ _ e28, am_up_ne _ _ e30, am_up_ne _ _ e31]
  refine sw_aload_n (i := 0) dX2_init_35 rfl rfl ?_
  refine sw_bi 32 dX2_init_36 (by decide +kernel) ?_
  refine sw_newI (k2 := 0) (n2 := 0) ac_i rfl (fun _ => rfl) (nn := 32) rfl (by decide) (by decide) (by decide) (by decide) (by decide) dX2_init_38 ?_
  refine sw_weq (aw2 := am_up (am_up (am_up (am_up (aw) 27 (am_O 1 [.ref 28, .ref 29, .ref 30, .ref 31, .null, .int 0, .int 0, .int 0, .int 0, .int 0, .int 0, .int 0])) 28 (am_I .int 32 (fun _ => 0))) 30 (am_I .int 4 (fun _ => 0))) 31 (am_I .int 8 (fun _ => 0))) ?_ ?_
  ·
    funext c
    by_cases e27 : c = 27
    · subst e27
      rfl
    by_cases e28 : c = 28
    · subst e28
      rfl
    by_cases e30 : c = 30
    · subst e30
      rfl
    by_cases e31 : c = 31
    · subst e31
      rfl
    by_cases e32 : c = 32
    · subst e32
      exact (hz 32 (by decide) (by decide)).symm
    simp only [am_up_ne _ _ e27, am_up_ne _ _ e28, am_up_ne _ _ e30, am_up_ne _ _ e31, am_up_ne _ _ e32]
  refine sw_putR rfl fp_X2_24 (fun _ => ⟨rfl, rfl⟩) (by decide) (fs := [.ref 28, .ref 29, .ref 30, .ref 31, .null, .int 0, .int 0, .int 0, .int 0, .int 0, .int 0, .int 0]) rfl (by decide) dX2_init_40 ?_
  refine sw_weq (aw2 := am_up (am_up (am_up (am_up (aw) 27 (am_O 1 [.ref 28, .ref 29, .ref 30, .ref 31, .ref 32, .int 0, .int 0, .int 0, .int 0, .int 0, .int 0, .int 0])) 28 (am_I .int 32 (fun _ => 0))) 30 (am_I .int 4 (fun _ => 0))) 31 (am_I .int 8 (fun _ => 0))) ?_ ?_
  ·
    funext c
    by_cases e27 : c = 27
    · subst e27
      rfl
    by_cases e28 : c = 28
    · subst e28
      rfl
    by_cases e30 : c = 30
    · subst e30
      rfl
    by_cases e31 : c = 31
    · subst e31
      rfl
    simp only [am_up_ne _ _ e27, am_up_ne _ _ e28, am_up_ne _ _ e30, am_up_ne _ _ e31]
  refine sw_aload_n (i := 0) dX2_init_43 rfl rfl ?_
  refine sw_get (fs := [.ref 28, .ref 29, .ref 30, .ref 31, .ref 32, .int 0, .int 0, .int 0, .int 0, .int 0, .int 0, .int 0]) f_X2_18 (by decide) rfl (v := .ref 30) rfl dX2_init_44 ?_
  refine sw_ic 0 dX2_init_47 ?_
  refine sw_ic 1 dX2_init_48 ?_
  refine sw_iast (0) (by decide) (f := (fun _ => 0)) (nn := 4) rfl rfl (by decide) (by decide) dX2_init_49 ?_
  refine sw_weq (aw2 := am_up (am_up (am_up (am_up (aw) 27 (am_O 1 [.ref 28, .ref 29, .ref 30, .ref 31, .ref 32, .int 0, .int 0, .int 0, .int 0, .int 0, .int 0, .int 0])) 28 (am_I .int 32 (fun _ => 0))) 30 (am_I .int 4 (upd (fun _ => 0) 0 (nI 1)))) 31 (am_I .int 8 (fun _ => 0))) ?_ ?_
  ·
    funext c
    by_cases e27 : c = 27
    · subst e27
      rfl
    by_cases e28 : c = 28
    · subst e28
      rfl
    by_cases e30 : c = 30
    · subst e30
      rfl
    by_cases e31 : c = 31
    · subst e31
      rfl
    simp only [am_up_ne _ _ e27, am_up_ne _ _ e28, am_up_ne _ _ e30, am_up_ne _ _ e31]
  refine sw_aload_n (i := 0) dX2_init_50 rfl rfl ?_
  refine sw_get (fs := [.ref 28, .ref 29, .ref 30, .ref 31, .ref 32, .int 0, .int 0, .int 0, .int 0, .int 0, .int 0, .int 0]) f_X2_18 (by decide) rfl (v := .ref 30) rfl dX2_init_51 ?_
  refine sw_ic 1 dX2_init_54 ?_
  refine sw_ic 2 dX2_init_55 ?_
  refine sw_iast (1) (by decide) (f := (upd (fun _ => 0) 0 (nI 1))) (nn := 4) rfl rfl (by decide) (by decide) dX2_init_56 ?_
  refine sw_weq (aw2 := am_up (am_up (am_up (am_up (aw) 27 (am_O 1 [.ref 28, .ref 29, .ref 30, .ref 31, .ref 32, .int 0, .int 0, .int 0, .int 0, .int 0, .int 0, .int 0])) 28 (am_I .int 32 (fun _ => 0))) 30 (am_I .int 4 (upd (upd (fun _ => 0) 0 (nI 1)) 1 (nI 2)))) 31 (am_I .int 8 (fun _ => 0))) ?_ ?_
  ·
    funext c
    by_cases e27 : c = 27
    · subst e27
      rfl
    by_cases e28 : c = 28
    · subst e28
      rfl
    by_cases e30 : c = 30
    · subst e30
      rfl
    by_cases e31 : c = 31
    · subst e31
      rfl
    simp only [am_up_ne _ _ e27, am_up_ne _ _ e28, am_up_ne _ _ e30, am_up_ne _ _ e31]
  refine sw_aload_n (i := 0) dX2_init_57 rfl rfl ?_
  refine sw_get (fs := [.ref 28, .ref 29, .ref 30, .ref 31, .ref 32, .int 0, .int 0, .int 0, .int 0, .int 0, .int 0, .int 0]) f_X2_18 (by decide) rfl (v := .ref 30) rfl dX2_init_58 ?_
  refine sw_ic 2 dX2_init_61 ?_
  refine sw_ic 5 dX2_init_62 ?_
  refine sw_iast (2) (by decide) (f := (upd (upd (fun _ => 0) 0 (nI 1)) 1 (nI 2))) (nn := 4) rfl rfl (by decide) (by decide) dX2_init_63 ?_
  refine sw_weq (aw2 := am_up (am_up (am_up (am_up (aw) 27 (am_O 1 [.ref 28, .ref 29, .ref 30, .ref 31, .ref 32, .int 0, .int 0, .int 0, .int 0, .int 0, .int 0, .int 0])) 28 (am_I .int 32 (fun _ => 0))) 30 (am_I .int 4 (upd (upd (upd (fun _ => 0) 0 (nI 1)) 1 (nI 2)) 2 (nI 5)))) 31 (am_I .int 8 (fun _ => 0))) ?_ ?_
  ·
    funext c
    by_cases e27 : c = 27
    · subst e27
      rfl
    by_cases e28 : c = 28
    · subst e28
      rfl
    by_cases e30 : c = 30
    · subst e30
      rfl
    by_cases e31 : c = 31
    · subst e31
      rfl
    simp only [am_up_ne _ _ e27, am_up_ne _ _ e28, am_up_ne _ _ e30, am_up_ne _ _ e31]
  refine sw_aload_n (i := 0) dX2_init_64 rfl rfl ?_
  refine sw_get (fs := [.ref 28, .ref 29, .ref 30, .ref 31, .ref 32, .int 0, .int 0, .int 0, .int 0, .int 0, .int 0, .int 0]) f_X2_18 (by decide) rfl (v := .ref 30) rfl dX2_init_65 ?_
  refine sw_ins (pc2 := 68) rfl rfl ?_
  refine sw_ic 3 dX2_init_68 ?_
  refine sw_bi 9 dX2_init_69 (by decide +kernel) ?_
  refine sw_iast (3) (by decide) (f := (upd (upd (upd (fun _ => 0) 0 (nI 1)) 1 (nI 2)) 2 (nI 5))) (nn := 4) rfl rfl (by decide) (by decide) dX2_init_71 ?_
  refine sw_weq (aw2 := am_up (am_up (am_up (am_up (aw) 27 (am_O 1 [.ref 28, .ref 29, .ref 30, .ref 31, .ref 32, .int 0, .int 0, .int 0, .int 0, .int 0, .int 0, .int 0])) 28 (am_I .int 32 (fun _ => 0))) 30 (am_I .int 4 (upd (upd (upd (upd (fun _ => 0) 0 (nI 1)) 1 (nI 2)) 2 (nI 5)) 3 (nI 9)))) 31 (am_I .int 8 (fun _ => 0))) ?_ ?_
  ·
    funext c
    by_cases e27 : c = 27
    · subst e27
      rfl
    by_cases e28 : c = 28
    · subst e28
      rfl
    by_cases e30 : c = 30
    · subst e30
      rfl
    by_cases e31 : c = 31
    · subst e31
      rfl
    simp only [am_up_ne _ _ e27, am_up_ne _ _ e28, am_up_ne _ _ e30, am_up_ne _ _ e31]
  refine sw_ic 0 dX2_init_72 ?_
  refine sw_istore_n (i := 1) dX2_init_73 rfl (Nat.le_of_ble_eq_true rfl) rfl ?_
  refine sw_lo (lo2 := [some (.ref 27), some (.int _)]) rfl ?_
  refine sw_iload_n (i := 1) dX2_init_74 rfl rfl ?_
  refine sw_bi 8 dX2_init_75 (by decide +kernel) ?_
  refine sw_ic_ge (tgt := 112) dX2_init_77 rfl (fun h9 => absurd h9 (by decide)) (fun _ => ?_)
  refine sw_ins (pc2 := 80) rfl rfl ?_
  refine sw_aload_n (i := 0) dX2_init_80 rfl rfl ?_
  refine sw_get (fs := [.ref 28, .ref 29, .ref 30, .ref 31, .ref 32, .int 0, .int 0, .int 0, .int 0, .int 0, .int 0, .int 0]) f_X2_9 (by decide) rfl (v := .ref 28) rfl dX2_init_81 ?_
  refine sw_iload_n (i := 1) dX2_init_84 rfl rfl ?_
  refine sw_ic 4 dX2_init_85 ?_
  refine sw_imul dX2_init_86 ?_
  refine sw_topE (v := nI 0) (by decide) ?_
  refine sw_iload_n (i := 1) dX2_init_87 rfl rfl ?_
  refine sw_ic 4 dX2_init_88 ?_
  refine sw_irem (by decide) dX2_init_89 ?_
  refine sw_topE (v := nI 0) (by decide) ?_
  refine sw_ins (pc2 := 90) rfl rfl ?_
  refine sw_iadd dX2_init_90 ?_
  refine sw_topE (v := nI 0) (by decide) ?_
  refine sw_bi 10 dX2_init_91 (by decide +kernel) ?_
  refine sw_iast (0) (by decide) (f := (fun _ => 0)) (nn := 32) rfl rfl (by decide) (by decide) dX2_init_93 ?_
  refine sw_weq (aw2 := am_up (am_up (am_up (am_up (aw) 27 (am_O 1 [.ref 28, .ref 29, .ref 30, .ref 31, .ref 32, .int 0, .int 0, .int 0, .int 0, .int 0, .int 0, .int 0])) 28 (am_I .int 32 (upd (fun _ => 0) 0 (nI 10)))) 30 (am_I .int 4 (upd (upd (upd (upd (fun _ => 0) 0 (nI 1)) 1 (nI 2)) 2 (nI 5)) 3 (nI 9)))) 31 (am_I .int 8 (fun _ => 0))) ?_ ?_
  ·
    funext c
    by_cases e27 : c = 27
    · subst e27
      rfl
    by_cases e28 : c = 28
    · subst e28
      rfl
    by_cases e30 : c = 30
    · subst e30
      rfl
    by_cases e31 : c = 31
    · subst e31
      rfl
    simp only [am_up_ne _ _ e27, am_up_ne _ _ e28, am_up_ne _ _ e30, am_up_ne _ _ e31]
  refine sw_aload_n (i := 0) dX2_init_94 rfl rfl ?_
  refine sw_get (fs := [.ref 28, .ref 29, .ref 30, .ref 31, .ref 32, .int 0, .int 0, .int 0, .int 0, .int 0, .int 0, .int 0]) f_X2_21 (by decide) rfl (v := .ref 31) rfl dX2_init_95 ?_
  refine sw_iload_n (i := 1) dX2_init_98 rfl rfl ?_
  refine sw_iload_n (i := 1) dX2_init_99 rfl rfl ?_
  refine sw_ic 1 dX2_init_100 ?_
  refine sw_ins (pc2 := 101) rfl rfl ?_
  refine sw_iadd dX2_init_101 ?_
  refine sw_topE (v := nI 1) (by decide) ?_
  refine sw_bi 8 dX2_init_102 (by decide +kernel) ?_
  refine sw_irem (by decide) dX2_init_104 ?_
  refine sw_topE (v := nI 1) (by decide) ?_
  refine sw_iast (0) (by decide) (f := (fun _ => 0)) (nn := 8) rfl rfl (by decide) (by decide) dX2_init_105 ?_
  refine sw_weq (aw2 := am_up (am_up (am_up (am_up (aw) 27 (am_O 1 [.ref 28, .ref 29, .ref 30, .ref 31, .ref 32, .int 0, .int 0, .int 0, .int 0, .int 0, .int 0, .int 0])) 28 (am_I .int 32 (upd (fun _ => 0) 0 (nI 10)))) 30 (am_I .int 4 (upd (upd (upd (upd (fun _ => 0) 0 (nI 1)) 1 (nI 2)) 2 (nI 5)) 3 (nI 9)))) 31 (am_I .int 8 (upd (fun _ => 0) 0 (nI 1)))) ?_ ?_
  ·
    funext c
    by_cases e27 : c = 27
    · subst e27
      rfl
    by_cases e28 : c = 28
    · subst e28
      rfl
    by_cases e30 : c = 30
    · subst e30
      rfl
    by_cases e31 : c = 31
    · subst e31
      rfl
    simp only [am_up_ne _ _ e27, am_up_ne _ _ e28, am_up_ne _ _ e30, am_up_ne _ _ e31]
  refine sw_iinc (i := 1) (v := nI 1) dX2_init_106 rfl (by decide) (Nat.le_of_ble_eq_true rfl) rfl ?_
  refine sw_lo (lo2 := [some (.ref 27), some (.int _)]) rfl ?_
  refine sw_goto (tgt := 74) dX2_init_109 rfl ?_
  refine sw_iload_n (i := 1) dX2_init_74 rfl rfl ?_
  refine sw_bi 8 dX2_init_75 (by decide +kernel) ?_
  refine sw_ins (pc2 := 77) rfl rfl ?_
  refine sw_ic_ge (tgt := 112) dX2_init_77 rfl (fun h9 => absurd h9 (by decide)) (fun _ => ?_)
  refine sw_aload_n (i := 0) dX2_init_80 rfl rfl ?_
  refine sw_get (fs := [.ref 28, .ref 29, .ref 30, .ref 31, .ref 32, .int 0, .int 0, .int 0, .int 0, .int 0, .int 0, .int 0]) f_X2_9 (by decide) rfl (v := .ref 28) rfl dX2_init_81 ?_
  refine sw_iload_n (i := 1) dX2_init_84 rfl rfl ?_
  refine sw_ic 4 dX2_init_85 ?_
  refine sw_imul dX2_init_86 ?_
  refine sw_topE (v := nI 4) (by decide) ?_
  refine sw_iload_n (i := 1) dX2_init_87 rfl rfl ?_
  refine sw_ic 4 dX2_init_88 ?_
  refine sw_irem (by decide) dX2_init_89 ?_
  refine sw_topE (v := nI 1) (by decide) ?_
  refine sw_iadd dX2_init_90 ?_
  refine sw_topE (v := nI 5) (by decide) ?_
  refine sw_bi 10 dX2_init_91 (by decide +kernel) ?_
  refine sw_iast (5) (by decide) (f := (upd (fun _ => 0) 0 (nI 10))) (nn := 32) rfl rfl (by decide) (by decide) dX2_init_93 ?_
  refine sw_weq (aw2 := am_up (am_up (am_up (am_up (aw) 27 (am_O 1 [.ref 28, .ref 29, .ref 30, .ref 31, .ref 32, .int 0, .int 0, .int 0, .int 0, .int 0, .int 0, .int 0])) 28 (am_I .int 32 (upd (upd (fun _ => 0) 0 (nI 10)) 5 (nI 10)))) 30 (am_I .int 4 (upd (upd (upd (upd (fun _ => 0) 0 (nI 1)) 1 (nI 2)) 2 (nI 5)) 3 (nI 9)))) 31 (am_I .int 8 (upd (fun _ => 0) 0 (nI 1)))) ?_ ?_
  ·
    funext c
    by_cases e27 : c = 27
    · subst e27
      rfl
    by_cases e28 : c = 28
    · subst e28
      rfl
    by_cases e30 : c = 30
    · subst e30
      rfl
    by_cases e31 : c = 31
    · subst e31
      rfl
    simp only [am_up_ne _ _ e27, am_up_ne _ _ e28, am_up_ne _ _ e30, am_up_ne _ _ e31]
  refine sw_aload_n (i := 0) dX2_init_94 rfl rfl ?_
  refine sw_get (fs := [.ref 28, .ref 29, .ref 30, .ref 31, .ref 32, .int 0, .int 0, .int 0, .int 0, .int 0, .int 0, .int 0]) f_X2_21 (by decide) rfl (v := .ref 31) rfl dX2_init_95 ?_
  refine sw_iload_n (i := 1) dX2_init_98 rfl rfl ?_
  refine sw_iload_n (i := 1) dX2_init_99 rfl rfl ?_
  refine sw_ins (pc2 := 100) rfl rfl ?_
  refine sw_ic 1 dX2_init_100 ?_
  refine sw_iadd dX2_init_101 ?_
  refine sw_topE (v := nI 2) (by decide) ?_
  refine sw_bi 8 dX2_init_102 (by decide +kernel) ?_
  refine sw_irem (by decide) dX2_init_104 ?_
  refine sw_topE (v := nI 2) (by decide) ?_
  refine sw_iast (1) (by decide) (f := (upd (fun _ => 0) 0 (nI 1))) (nn := 8) rfl rfl (by decide) (by decide) dX2_init_105 ?_
  refine sw_weq (aw2 := am_up (am_up (am_up (am_up (aw) 27 (am_O 1 [.ref 28, .ref 29, .ref 30, .ref 31, .ref 32, .int 0, .int 0, .int 0, .int 0, .int 0, .int 0, .int 0])) 28 (am_I .int 32 (upd (upd (fun _ => 0) 0 (nI 10)) 5 (nI 10)))) 30 (am_I .int 4 (upd (upd (upd (upd (fun _ => 0) 0 (nI 1)) 1 (nI 2)) 2 (nI 5)) 3 (nI 9)))) 31 (am_I .int 8 (upd (upd (fun _ => 0) 0 (nI 1)) 1 (nI 2)))) ?_ ?_
  ·
    funext c
    by_cases e27 : c = 27
    · subst e27
      rfl
    by_cases e28 : c = 28
    · subst e28
      rfl
    by_cases e30 : c = 30
    · subst e30
      rfl
    by_cases e31 : c = 31
    · subst e31
      rfl
    simp only [am_up_ne _ _ e27, am_up_ne _ _ e28, am_up_ne _ _ e30, am_up_ne _ _ e31]
  refine sw_iinc (i := 1) (v := nI 2) dX2_init_106 rfl (by decide) (Nat.le_of_ble_eq_true rfl) rfl ?_
  refine sw_lo (lo2 := [some (.ref 27), some (.int _)]) rfl ?_
  refine sw_goto (tgt := 74) dX2_init_109 rfl ?_
  refine sw_iload_n (i := 1) dX2_init_74 rfl rfl ?_
  refine sw_ins (pc2 := 75) rfl rfl ?_
  refine sw_bi 8 dX2_init_75 (by decide +kernel) ?_
  refine sw_ic_ge (tgt := 112) dX2_init_77 rfl (fun h9 => absurd h9 (by decide)) (fun _ => ?_)
  refine sw_aload_n (i := 0) dX2_init_80 rfl rfl ?_
  refine sw_get (fs := [.ref 28, .ref 29, .ref 30, .ref 31, .ref 32, .int 0, .int 0, .int 0, .int 0, .int 0, .int 0, .int 0]) f_X2_9 (by decide) rfl (v := .ref 28) rfl dX2_init_81 ?_
  refine sw_iload_n (i := 1) dX2_init_84 rfl rfl ?_
  refine sw_ic 4 dX2_init_85 ?_
  refine sw_imul dX2_init_86 ?_
  refine sw_topE (v := nI 8) (by decide) ?_
  refine sw_iload_n (i := 1) dX2_init_87 rfl rfl ?_
  refine sw_ins (pc2 := 88) rfl rfl ?_
  refine sw_ic 4 dX2_init_88 ?_
  refine sw_irem (by decide) dX2_init_89 ?_
  refine sw_topE (v := nI 2) (by decide) ?_
  refine sw_iadd dX2_init_90 ?_
  refine sw_topE (v := nI 10) (by decide) ?_
  refine sw_bi 10 dX2_init_91 (by decide +kernel) ?_
  refine sw_iast (10) (by decide) (f := (upd (upd (fun _ => 0) 0 (nI 10)) 5 (nI 10))) (nn := 32) rfl rfl (by decide) (by decide) dX2_init_93 ?_
  refine sw_weq (aw2 := am_up (am_up (am_up (am_up (aw) 27 (am_O 1 [.ref 28, .ref 29, .ref 30, .ref 31, .ref 32, .int 0, .int 0, .int 0, .int 0, .int 0, .int 0, .int 0])) 28 (am_I .int 32 (upd (upd (upd (fun _ => 0) 0 (nI 10)) 5 (nI 10)) 10 (nI 10)))) 30 (am_I .int 4 (upd (upd (upd (upd (fun _ => 0) 0 (nI 1)) 1 (nI 2)) 2 (nI 5)) 3 (nI 9)))) 31 (am_I .int 8 (upd (upd (fun _ => 0) 0 (nI 1)) 1 (nI 2)))) ?_ ?_
  ·
    funext c
    by_cases e27 : c = 27
    · subst e27
      rfl
    by_cases e28 : c = 28
    · subst e28
      rfl
    by_cases e30 : c = 30
    · subst e30
      rfl
    by_cases e31 : c = 31
    · subst e31
      rfl
    simp only [am_up_ne _ _ e27, am_up_ne _ _ e28, am_up_ne _ _ e30, am_up_ne _ _ e31]
  refine sw_aload_n (i := 0) dX2_init_94 rfl rfl ?_
  refine sw_get (fs := [.ref 28, .ref 29, .ref 30, .ref 31, .ref 32, .int 0, .int 0, .int 0, .int 0, .int 0, .int 0, .int 0]) f_X2_21 (by decide) rfl (v := .ref 31) rfl dX2_init_95 ?_
  refine sw_iload_n (i := 1) dX2_init_98 rfl rfl ?_
  refine sw_ins (pc2 := 99) rfl rfl ?_
  refine sw_iload_n (i := 1) dX2_init_99 rfl rfl ?_
  refine sw_ic 1 dX2_init_100 ?_
  refine sw_iadd dX2_init_101 ?_
  refine sw_topE (v := nI 3) (by decide) ?_
  refine sw_bi 8 dX2_init_102 (by decide +kernel) ?_
  refine sw_irem (by decide) dX2_init_104 ?_
  refine sw_topE (v := nI 3) (by decide) ?_
  refine sw_iast (2) (by decide) (f := (upd (upd (fun _ => 0) 0 (nI 1)) 1 (nI 2))) (nn := 8) rfl rfl (by decide) (by decide) dX2_init_105 ?_
  refine sw_weq (aw2 := am_up (am_up (am_up (am_up (aw) 27 (am_O 1 [.ref 28, .ref 29, .ref 30, .ref 31, .ref 32, .int 0, .int 0, .int 0, .int 0, .int 0, .int 0, .int 0])) 28 (am_I .int 32 (upd (upd (upd (fun _ => 0) 0 (nI 10)) 5 (nI 10)) 10 (nI 10)))) 30 (am_I .int 4 (upd (upd (upd (upd (fun _ => 0) 0 (nI 1)) 1 (nI 2)) 2 (nI 5)) 3 (nI 9)))) 31 (am_I .int 8 (upd (upd (upd (fun _ => 0) 0 (nI 1)) 1 (nI 2)) 2 (nI 3)))) ?_ ?_
  ·
    funext c
    by_cases e27 : c = 27
    · subst e27
      rfl
    by_cases e28 : c = 28
    · subst e28
      rfl
    by_cases e30 : c = 30
    · subst e30
      rfl
    by_cases e31 : c = 31
    · subst e31
      rfl
    simp only [am_up_ne _ _ e27, am_up_ne _ _ e28, am_up_ne _ _ e30, am_up_ne _ _ e31]
  refine sw_iinc (i := 1) (v := nI 3) dX2_init_106 rfl (by decide) (Nat.le_of_ble_eq_true rfl) rfl ?_
  refine sw_lo (lo2 := [some (.ref 27), some (.int _)]) rfl ?_
  refine sw_goto (tgt := 74) dX2_init_109 rfl ?_
  refine sw_ins (pc2 := 74) rfl rfl ?_
  refine sw_iload_n (i := 1) dX2_init_74 rfl rfl ?_
  refine sw_bi 8 dX2_init_75 (by decide +kernel) ?_
  refine sw_ic_ge (tgt := 112) dX2_init_77 rfl (fun h9 => absurd h9 (by decide)) (fun _ => ?_)
  refine sw_aload_n (i := 0) dX2_init_80 rfl rfl ?_
  refine sw_get (fs := [.ref 28, .ref 29, .ref 30, .ref 31, .ref 32, .int 0, .int 0, .int 0, .int 0, .int 0, .int 0, .int 0]) f_X2_9 (by decide) rfl (v := .ref 28) rfl dX2_init_81 ?_
  refine sw_iload_n (i := 1) dX2_init_84 rfl rfl ?_
  refine sw_ic 4 dX2_init_85 ?_
  refine sw_imul dX2_init_86 ?_
  refine sw_topE (v := nI 12) (by decide) ?_
  refine sw_ins (pc2 := 87) rfl rfl ?_
  refine sw_iload_n (i := 1) dX2_init_87 rfl rfl ?_
  refine sw_ic 4 dX2_init_88 ?_
  refine sw_irem (by decide) dX2_init_89 ?_
  refine sw_topE (v := nI 3) (by decide) ?_
  refine sw_iadd dX2_init_90 ?_
  refine sw_topE (v := nI 15) (by decide) ?_
  refine sw_bi 10 dX2_init_91 (by decide +kernel) ?_
  refine sw_iast (15) (by decide) (f := (upd (upd (upd (fun _ => 0) 0 (nI 10)) 5 (nI 10)) 10 (nI 10))) (nn := 32) rfl rfl (by decide) (by decide) dX2_init_93 ?_
  refine sw_weq (aw2 := am_up (am_up (am_up (am_up (aw) 27 (am_O 1 [.ref 28, .ref 29, .ref 30, .ref 31, .ref 32, .int 0, .int 0, .int 0, .int 0, .int 0, .int 0, .int 0])) 28 (am_I .int 32 (upd (upd (upd (upd (fun _ => 0) 0 (nI 10)) 5 (nI 10)) 10 (nI 10)) 15 (nI 10)))) 30 (am_I .int 4 (upd (upd (upd (upd (fun _ => 0) 0 (nI 1)) 1 (nI 2)) 2 (nI 5)) 3 (nI 9)))) 31 (am_I .int 8 (upd (upd (upd (fun _ => 0) 0 (nI 1)) 1 (nI 2)) 2 (nI 3)))) ?_ ?_
  ·
    funext c
    by_cases e27 : c = 27
    · subst e27
      rfl
    by_cases e28 : c = 28
    · subst e28
      rfl
    by_cases e30 : c = 30
    · subst e30
      rfl
    by_cases e31 : c = 31
    · subst e31
      rfl
    simp only [am_up_ne _ _ e27, am_up_ne _ _ e28, am_up_ne _ _ e30, am_up_ne _ _ e31]
  refine sw_aload_n (i := 0) dX2_init_94 rfl rfl ?_
  refine sw_get (fs := [.ref 28, .ref 29, .ref 30, .ref 31, .ref 32, .int 0, .int 0, .int 0, .int 0, .int 0, .int 0, .int 0]) f_X2_21 (by decide) rfl (v := .ref 31) rfl dX2_init_95 ?_
  refine sw_ins (pc2 := 98) rfl rfl ?_
  refine sw_iload_n (i := 1) dX2_init_98 rfl rfl ?_
  refine sw_iload_n (i := 1) dX2_init_99 rfl rfl ?_
  refine sw_ic 1 dX2_init_100 ?_
  refine sw_iadd dX2_init_101 ?_
  refine sw_topE (v := nI 4) (by decide) ?_
  refine sw_bi 8 dX2_init_102 (by decide +kernel) ?_
  refine sw_irem (by decide) dX2_init_104 ?_
  refine sw_topE (v := nI 4) (by decide) ?_
  refine sw_iast (3) (by decide) (f := (upd (upd (upd (fun _ => 0) 0 (nI 1)) 1 (nI 2)) 2 (nI 3))) (nn := 8) rfl rfl (by decide) (by decide) dX2_init_105 ?_
  refine sw_weq (aw2 := am_up (am_up (am_up (am_up (aw) 27 (am_O 1 [.ref 28, .ref 29, .ref 30, .ref 31, .ref 32, .int 0, .int 0, .int 0, .int 0, .int 0, .int 0, .int 0])) 28 (am_I .int 32 (upd (upd (upd (upd (fun _ => 0) 0 (nI 10)) 5 (nI 10)) 10 (nI 10)) 15 (nI 10)))) 30 (am_I .int 4 (upd (upd (upd (upd (fun _ => 0) 0 (nI 1)) 1 (nI 2)) 2 (nI 5)) 3 (nI 9)))) 31 (am_I .int 8 (upd (upd (upd (upd (fun _ => 0) 0 (nI 1)) 1 (nI 2)) 2 (nI 3)) 3 (nI 4)))) ?_ ?_
  ·
    funext c
    by_cases e27 : c = 27
    · subst e27
      rfl
    by_cases e28 : c = 28
    · subst e28
      rfl
    by_cases e30 : c = 30
    · subst e30
      rfl
    by_cases e31 : c = 31
    · subst e31
      rfl
    simp only [am_up_ne _ _ e27, am_up_ne _ _ e28, am_up_ne _ _ e30, am_up_ne _ _ e31]
  refine sw_iinc (i := 1) (v := nI 4) dX2_init_106 rfl (by decide) (Nat.le_of_ble_eq_true rfl) rfl ?_
  refine sw_lo (lo2 := [some (.ref 27), some (.int _)]) rfl ?_
  refine sw_ins (pc2 := 109) rfl rfl ?_
  refine sw_goto (tgt := 74) dX2_init_109 rfl ?_
  refine sw_iload_n (i := 1) dX2_init_74 rfl rfl ?_
  refine sw_bi 8 dX2_init_75 (by decide +kernel) ?_
  refine sw_ic_ge (tgt := 112) dX2_init_77 rfl (fun h9 => absurd h9 (by decide)) (fun _ => ?_)
  refine sw_aload_n (i := 0) dX2_init_80 rfl rfl ?_
  refine sw_get (fs := [.ref 28, .ref 29, .ref 30, .ref 31, .ref 32, .int 0, .int 0, .int 0, .int 0, .int 0, .int 0, .int 0]) f_X2_9 (by decide) rfl (v := .ref 28) rfl dX2_init_81 ?_
  refine sw_iload_n (i := 1) dX2_init_84 rfl rfl ?_
  refine sw_ic 4 dX2_init_85 ?_
  refine sw_ins (pc2 := 86) rfl rfl ?_
  refine sw_imul dX2_init_86 ?_
  refine sw_topE (v := nI 16) (by decide) ?_
  refine sw_iload_n (i := 1) dX2_init_87 rfl rfl ?_
  refine sw_ic 4 dX2_init_88 ?_
  refine sw_irem (by decide) dX2_init_89 ?_
  refine sw_topE (v := nI 0) (by decide) ?_
  refine sw_iadd dX2_init_90 ?_
  refine sw_topE (v := nI 16) (by decide) ?_
  refine sw_bi 10 dX2_init_91 (by decide +kernel) ?_
  refine sw_iast (16) (by decide) (f := (upd (upd (upd (upd (fun _ => 0) 0 (nI 10)) 5 (nI 10)) 10 (nI 10)) 15 (nI 10))) (nn := 32) rfl rfl (by decide) (by decide) dX2_init_93 ?_
  refine sw_weq (aw2 := am_up (am_up (am_up (am_up (aw) 27 (am_O 1 [.ref 28, .ref 29, .ref 30, .ref 31, .ref 32, .int 0, .int 0, .int 0, .int 0, .int 0, .int 0, .int 0])) 28 (am_I .int 32 (upd (upd (upd (upd (upd (fun _ => 0) 0 (nI 10)) 5 (nI 10)) 10 (nI 10)) 15 (nI 10)) 16 (nI 10)))) 30 (am_I .int 4 (upd (upd (upd (upd (fun _ => 0) 0 (nI 1)) 1 (nI 2)) 2 (nI 5)) 3 (nI 9)))) 31 (am_I .int 8 (upd (upd (upd (upd (fun _ => 0) 0 (nI 1)) 1 (nI 2)) 2 (nI 3)) 3 (nI 4)))) ?_ ?_
  ·
    funext c
    by_cases e27 : c = 27
    · subst e27
      rfl
    by_cases e28 : c = 28
    · subst e28
      rfl
    by_cases e30 : c = 30
    · subst e30
      rfl
    by_cases e31 : c = 31
    · subst e31
      rfl
    simp only [am_up_ne _ _ e27, am_up_ne _ _ e28, am_up_ne _ _ e30, am_up_ne _ _ e31]
  refine sw_aload_n (i := 0) dX2_init_94 rfl rfl ?_
  refine sw_get (fs := [.ref 28, .ref 29, .ref 30, .ref 31, .ref 32, .int 0, .int 0, .int 0, .int 0, .int 0, .int 0, .int 0]) f_X2_21 (by decide) rfl (v := .ref 31) rfl dX2_init_95 ?_
  refine sw_iload_n (i := 1) dX2_init_98 rfl rfl ?_
  refine sw_iload_n (i := 1) dX2_init_99 rfl rfl ?_
  refine sw_ic 1 dX2_init_100 ?_
  refine sw_iadd dX2_init_101 ?_
  refine sw_topE (v := nI 5) (by decide) ?_
  refine sw_bi 8 dX2_init_102 (by decide +kernel) ?_
  refine sw_irem (by decide) dX2_init_104 ?_
  refine sw_topE (v := nI 5) (by decide) ?_
  refine sw_iast (4) (by decide) (f := (upd (upd (upd (upd (fun _ => 0) 0 (nI 1)) 1 (nI 2)) 2 (nI 3)) 3 (nI 4))) (nn := 8) rfl rfl (by decide) (by decide) dX2_init_105 ?_
  refine sw_weq (aw2 := am_up (am_up (am_up (am_up (aw) 27 (am_O 1 [.ref 28, .ref 29, .ref 30, .ref 31, .ref 32, .int 0, .int 0, .int 0, .int 0, .int 0, .int 0, .int 0])) 28 (am_I .int 32 (upd (upd (upd (upd (upd (fun _ => 0) 0 (nI 10)) 5 (nI 10)) 10 (nI 10)) 15 (nI 10)) 16 (nI 10)))) 30 (am_I .int 4 (upd (upd (upd (upd (fun _ => 0) 0 (nI 1)) 1 (nI 2)) 2 (nI 5)) 3 (nI 9)))) 31 (am_I .int 8 (upd (upd (upd (upd (upd (fun _ => 0) 0 (nI 1)) 1 (nI 2)) 2 (nI 3)) 3 (nI 4)) 4 (nI 5)))) ?_ ?_
  ·
    funext c
    by_cases e27 : c = 27
    · subst e27
      rfl
    by_cases e28 : c = 28
    · subst e28
      rfl
    by_cases e30 : c = 30
    · subst e30
      rfl
    by_cases e31 : c = 31
    · subst e31
      rfl
    simp only [am_up_ne _ _ e27, am_up_ne _ _ e28, am_up_ne _ _ e30, am_up_ne _ _ e31]
  refine sw_ins (pc2 := 106) rfl rfl ?_
  refine sw_iinc (i := 1) (v := nI 5) dX2_init_106 rfl (by decide) (Nat.le_of_ble_eq_true rfl) rfl ?_
  refine sw_lo (lo2 := [some (.ref 27), some (.int _)]) rfl ?_
  refine sw_goto (tgt := 74) dX2_init_109 rfl ?_
  refine sw_iload_n (i := 1) dX2_init_74 rfl rfl ?_
  refine sw_bi 8 dX2_init_75 (by decide +kernel) ?_
  refine sw_ic_ge (tgt := 112) dX2_init_77 rfl (fun h9 => absurd h9 (by decide)) (fun _ => ?_)
  refine sw_aload_n (i := 0) dX2_init_80 rfl rfl ?_
  refine sw_get (fs := [.ref 28, .ref 29, .ref 30, .ref 31, .ref 32, .int 0, .int 0, .int 0, .int 0, .int 0, .int 0, .int 0]) f_X2_9 (by decide) rfl (v := .ref 28) rfl dX2_init_81 ?_
  refine sw_iload_n (i := 1) dX2_init_84 rfl rfl ?_
  refine sw_ins (pc2 := 85) rfl rfl ?_
  refine sw_ic 4 dX2_init_85 ?_
  refine sw_imul dX2_init_86 ?_
  refine sw_topE (v := nI 20) (by decide) ?_
  refine sw_iload_n (i := 1) dX2_init_87 rfl rfl ?_
  refine sw_ic 4 dX2_init_88 ?_
  refine sw_irem (by decide) dX2_init_89 ?_
  refine sw_topE (v := nI 1) (by decide) ?_
  refine sw_iadd dX2_init_90 ?_
  refine sw_topE (v := nI 21) (by decide) ?_
  refine sw_bi 10 dX2_init_91 (by decide +kernel) ?_
  refine sw_iast (21) (by decide) (f := (upd (upd (upd (upd (upd (fun _ => 0) 0 (nI 10)) 5 (nI 10)) 10 (nI 10)) 15 (nI 10)) 16 (nI 10))) (nn := 32) rfl rfl (by decide) (by decide) dX2_init_93 ?_
  refine sw_weq (aw2 := am_up (am_up (am_up (am_up (aw) 27 (am_O 1 [.ref 28, .ref 29, .ref 30, .ref 31, .ref 32, .int 0, .int 0, .int 0, .int 0, .int 0, .int 0, .int 0])) 28 (am_I .int 32 (upd (upd (upd (upd (upd (upd (fun _ => 0) 0 (nI 10)) 5 (nI 10)) 10 (nI 10)) 15 (nI 10)) 16 (nI 10)) 21 (nI 10)))) 30 (am_I .int 4 (upd (upd (upd (upd (fun _ => 0) 0 (nI 1)) 1 (nI 2)) 2 (nI 5)) 3 (nI 9)))) 31 (am_I .int 8 (upd (upd (upd (upd (upd (fun _ => 0) 0 (nI 1)) 1 (nI 2)) 2 (nI 3)) 3 (nI 4)) 4 (nI 5)))) ?_ ?_
  ·
    funext c
    by_cases e27 : c = 27
    · subst e27
      rfl
    by_cases e28 : c = 28
    · subst e28
      rfl
    by_cases e30 : c = 30
    · subst e30
      rfl
    by_cases e31 : c = 31
    · subst e31
      rfl
    simp only [am_up_ne _ _ e27, am_up_ne _ _ e28, am_up_ne _ _ e30, am_up_ne _ _ e31]
  refine sw_ins (pc2 := 94) rfl rfl ?_
  refine sw_aload_n (i := 0) dX2_init_94 rfl rfl ?_
  refine sw_get (fs := [.ref 28, .ref 29, .ref 30, .ref 31, .ref 32, .int 0, .int 0, .int 0, .int 0, .int 0, .int 0, .int 0]) f_X2_21 (by decide) rfl (v := .ref 31) rfl dX2_init_95 ?_
  refine sw_iload_n (i := 1) dX2_init_98 rfl rfl ?_
  refine sw_iload_n (i := 1) dX2_init_99 rfl rfl ?_
  refine sw_ic 1 dX2_init_100 ?_
  refine sw_iadd dX2_init_101 ?_
  refine sw_topE (v := nI 6) (by decide) ?_
  refine sw_bi 8 dX2_init_102 (by decide +kernel) ?_
  refine sw_irem (by decide) dX2_init_104 ?_
  refine sw_topE (v := nI 6) (by decide) ?_
  refine sw_iast (5) (by decide) (f := (upd (upd (upd (upd (upd (fun _ => 0) 0 (nI 1)) 1 (nI 2)) 2 (nI 3)) 3 (nI 4)) 4 (nI 5))) (nn := 8) rfl rfl (by decide) (by decide) dX2_init_105 ?_
  refine sw_weq (aw2 := am_up (am_up (am_up (am_up (aw) 27 (am_O 1 [.ref 28, .ref 29, .ref 30, .ref 31, .ref 32, .int 0, .int 0, .int 0, .int 0, .int 0, .int 0, .int 0])) 28 (am_I .int 32 (upd (upd (upd (upd (upd (upd (fun _ => 0) 0 (nI 10)) 5 (nI 10)) 10 (nI 10)) 15 (nI 10)) 16 (nI 10)) 21 (nI 10)))) 30 (am_I .int 4 (upd (upd (upd (upd (fun _ => 0) 0 (nI 1)) 1 (nI 2)) 2 (nI 5)) 3 (nI 9)))) 31 (am_I .int 8 (upd (upd (upd (upd (upd (upd (fun _ => 0) 0 (nI 1)) 1 (nI 2)) 2 (nI 3)) 3 (nI 4)) 4 (nI 5)) 5 (nI 6)))) ?_ ?_
  ·
    funext c
    by_cases e27 : c = 27
    · subst e27
      rfl
    by_cases e28 : c = 28
    · subst e28
      rfl
    by_cases e30 : c = 30
    · subst e30
      rfl
    by_cases e31 : c = 31
    · subst e31
      rfl
    simp only [am_up_ne _ _ e27, am_up_ne _ _ e28, am_up_ne _ _ e30, am_up_ne _ _ e31]
  refine sw_iinc (i := 1) (v := nI 6) dX2_init_106 rfl (by decide) (Nat.le_of_ble_eq_true rfl) rfl ?_
  refine sw_lo (lo2 := [some (.ref 27), some (.int _)]) rfl ?_
  refine sw_goto (tgt := 74) dX2_init_109 rfl ?_
  refine sw_iload_n (i := 1) dX2_init_74 rfl rfl ?_
  refine sw_bi 8 dX2_init_75 (by decide +kernel) ?_
  refine sw_ic_ge (tgt := 112) dX2_init_77 rfl (fun h9 => absurd h9 (by decide)) (fun _ => ?_)
  refine sw_aload_n (i := 0) dX2_init_80 rfl rfl ?_
  refine sw_get (fs := [.ref 28, .ref 29, .ref 30, .ref 31, .ref 32, .int 0, .int 0, .int 0, .int 0, .int 0, .int 0, .int 0]) f_X2_9 (by decide) rfl (v := .ref 28) rfl dX2_init_81 ?_
  refine sw_ins (pc2 := 84) rfl rfl ?_
  refine sw_iload_n (i := 1) dX2_init_84 rfl rfl ?_
  refine sw_ic 4 dX2_init_85 ?_
  refine sw_imul dX2_init_86 ?_
  refine sw_topE (v := nI 24) (by decide) ?_
  refine sw_iload_n (i := 1) dX2_init_87 rfl rfl ?_
  refine sw_ic 4 dX2_init_88 ?_
  refine sw_irem (by decide) dX2_init_89 ?_
  refine sw_topE (v := nI 2) (by decide) ?_
  refine sw_iadd dX2_init_90 ?_
  refine sw_topE (v := nI 26) (by decide) ?_
  refine sw_bi 10 dX2_init_91 (by decide +kernel) ?_
  refine sw_iast (26) (by decide) (f := (upd (upd (upd (upd (upd (upd (fun _ => 0) 0 (nI 10)) 5 (nI 10)) 10 (nI 10)) 15 (nI 10)) 16 (nI 10)) 21 (nI 10))) (nn := 32) rfl rfl (by decide) (by decide) dX2_init_93 ?_
  refine sw_weq (aw2 := am_up (am_up (am_up (am_up (aw) 27 (am_O 1 [.ref 28, .ref 29, .ref 30, .ref 31, .ref 32, .int 0, .int 0, .int 0, .int 0, .int 0, .int 0, .int 0])) 28 (am_I .int 32 (upd (upd (upd (upd (upd (upd (upd (fun _ => 0) 0 (nI 10)) 5 (nI 10)) 10 (nI 10)) 15 (nI 10)) 16 (nI 10)) 21 (nI 10)) 26 (nI 10)))) 30 (am_I .int 4 (upd (upd (upd (upd (fun _ => 0) 0 (nI 1)) 1 (nI 2)) 2 (nI 5)) 3 (nI 9)))) 31 (am_I .int 8 (upd (upd (upd (upd (upd (upd (fun _ => 0) 0 (nI 1)) 1 (nI 2)) 2 (nI 3)) 3 (nI 4)) 4 (nI 5)) 5 (nI 6)))) ?_ ?_
  ·
    funext c
    by_cases e27 : c = 27
    · subst e27
      rfl
    by_cases e28 : c = 28
    · subst e28
      rfl
    by_cases e30 : c = 30
    · subst e30
      rfl
    by_cases e31 : c = 31
    · subst e31
      rfl
    simp only [am_up_ne _ _ e27, am_up_ne _ _ e28, am_up_ne _ _ e30, am_up_ne _ _ e31]
  refine sw_aload_n (i := 0) dX2_init_94 rfl rfl ?_
  refine sw_get (fs := [.ref 28, .ref 29, .ref 30, .ref 31, .ref 32, .int 0, .int 0, .int 0, .int 0, .int 0, .int 0, .int 0]) f_X2_21 (by decide) rfl (v := .ref 31) rfl dX2_init_95 ?_
  refine sw_iload_n (i := 1) dX2_init_98 rfl rfl ?_
  refine sw_iload_n (i := 1) dX2_init_99 rfl rfl ?_
  refine sw_ic 1 dX2_init_100 ?_
  refine sw_iadd dX2_init_101 ?_
  refine sw_topE (v := nI 7) (by decide) ?_
  refine sw_bi 8 dX2_init_102 (by decide +kernel) ?_
  refine sw_irem (by decide) dX2_init_104 ?_
  refine sw_topE (v := nI 7) (by decide) ?_
  refine sw_iast (6) (by decide) (f := (upd (upd (upd (upd (upd (upd (fun _ => 0) 0 (nI 1)) 1 (nI 2)) 2 (nI 3)) 3 (nI 4)) 4 (nI 5)) 5 (nI 6))) (nn := 8) rfl rfl (by decide) (by decide) dX2_init_105 ?_
  refine sw_weq (aw2 := am_up (am_up (am_up (am_up (aw) 27 (am_O 1 [.ref 28, .ref 29, .ref 30, .ref 31, .ref 32, .int 0, .int 0, .int 0, .int 0, .int 0, .int 0, .int 0])) 28 (am_I .int 32 (upd (upd (upd (upd (upd (upd (upd (fun _ => 0) 0 (nI 10)) 5 (nI 10)) 10 (nI 10)) 15 (nI 10)) 16 (nI 10)) 21 (nI 10)) 26 (nI 10)))) 30 (am_I .int 4 (upd (upd (upd (upd (fun _ => 0) 0 (nI 1)) 1 (nI 2)) 2 (nI 5)) 3 (nI 9)))) 31 (am_I .int 8 (upd (upd (upd (upd (upd (upd (upd (fun _ => 0) 0 (nI 1)) 1 (nI 2)) 2 (nI 3)) 3 (nI 4)) 4 (nI 5)) 5 (nI 6)) 6 (nI 7)))) ?_ ?_
  ·
    funext c
    by_cases e27 : c = 27
    · subst e27
      rfl
    by_cases e28 : c = 28
    · subst e28
      rfl
    by_cases e30 : c = 30
    · subst e30
      rfl
    by_cases e31 : c = 31
    · subst e31
      rfl
    simp only [am_up_ne _ _ e27, am_up_ne _ _ e28, am_up_ne _ _ e30, am_up_ne _ _ e31]
  refine sw_iinc (i := 1) (v := nI 7) dX2_init_106 rfl (by decide) (Nat.le_of_ble_eq_true rfl) rfl ?_
  refine sw_lo (lo2 := [some (.ref 27), some (.int _)]) rfl ?_
  refine sw_goto (tgt := 74) dX2_init_109 rfl ?_
  refine sw_iload_n (i := 1) dX2_init_74 rfl rfl ?_
  refine sw_bi 8 dX2_init_75 (by decide +kernel) ?_
  refine sw_ic_ge (tgt := 112) dX2_init_77 rfl (fun h9 => absurd h9 (by decide)) (fun _ => ?_)
  refine sw_aload_n (i := 0) dX2_init_80 rfl rfl ?_
  refine sw_get (fs := [.ref 28, .ref 29, .ref 30, .ref 31, .ref 32, .int 0, .int 0, .int 0, .int 0, .int 0, .int 0, .int 0]) f_X2_9 (by decide) rfl (v := .ref 28) rfl dX2_init_81 ?_
  refine sw_iload_n (i := 1) dX2_init_84 rfl rfl ?_
  refine sw_ic 4 dX2_init_85 ?_
  refine sw_imul dX2_init_86 ?_
  refine sw_topE (v := nI 28) (by decide) ?_
  refine sw_iload_n (i := 1) dX2_init_87 rfl rfl ?_
  refine sw_ic 4 dX2_init_88 ?_
  refine sw_irem (by decide) dX2_init_89 ?_
  refine sw_topE (v := nI 3) (by decide) ?_
  refine sw_iadd dX2_init_90 ?_
  refine sw_topE (v := nI 31) (by decide) ?_
  refine sw_ins (pc2 := 91) rfl rfl ?_
  refine sw_bi 10 dX2_init_91 (by decide +kernel) ?_
  refine sw_iast (31) (by decide) (f := (upd (upd (upd (upd (upd (upd (upd (fun _ => 0) 0 (nI 10)) 5 (nI 10)) 10 (nI 10)) 15 (nI 10)) 16 (nI 10)) 21 (nI 10)) 26 (nI 10))) (nn := 32) rfl rfl (by decide) (by decide) dX2_init_93 ?_
  refine sw_weq (aw2 := am_up (am_up (am_up (am_up (aw) 27 (am_O 1 [.ref 28, .ref 29, .ref 30, .ref 31, .ref 32, .int 0, .int 0, .int 0, .int 0, .int 0, .int 0, .int 0])) 28 (am_I .int 32 (upd (upd (upd (upd (upd (upd (upd (upd (fun _ => 0) 0 (nI 10)) 5 (nI 10)) 10 (nI 10)) 15 (nI 10)) 16 (nI 10)) 21 (nI 10)) 26 (nI 10)) 31 (nI 10)))) 30 (am_I .int 4 (upd (upd (upd (upd (fun _ => 0) 0 (nI 1)) 1 (nI 2)) 2 (nI 5)) 3 (nI 9)))) 31 (am_I .int 8 (upd (upd (upd (upd (upd (upd (upd (fun _ => 0) 0 (nI 1)) 1 (nI 2)) 2 (nI 3)) 3 (nI 4)) 4 (nI 5)) 5 (nI 6)) 6 (nI 7)))) ?_ ?_
  ·
    funext c
    by_cases e27 : c = 27
    · subst e27
      rfl
    by_cases e28 : c = 28
    · subst e28
      rfl
    by_cases e30 : c = 30
    · subst e30
      rfl
    by_cases e31 : c = 31
    · subst e31
      rfl
    simp only [am_up_ne _ _ e27, am_up_ne _ _ e28, am_up_ne _ _ e30, am_up_ne _ _ e31]
  refine sw_aload_n (i := 0) dX2_init_94 rfl rfl ?_
  refine sw_get (fs := [.ref 28, .ref 29, .ref 30, .ref 31, .ref 32, .int 0, .int 0, .int 0, .int 0, .int 0, .int 0, .int 0]) f_X2_21 (by decide) rfl (v := .ref 31) rfl dX2_init_95 ?_
  refine sw_iload_n (i := 1) dX2_init_98 rfl rfl ?_
  refine sw_iload_n (i := 1) dX2_init_99 rfl rfl ?_
  refine sw_ic 1 dX2_init_100 ?_
  refine sw_iadd dX2_init_101 ?_
  refine sw_topE (v := nI 8) (by decide) ?_
  refine sw_ins (pc2 := 102) rfl rfl ?_
  refine sw_bi 8 dX2_init_102 (by decide +kernel) ?_
  refine sw_irem (by decide) dX2_init_104 ?_
  refine sw_topE (v := nI 0) (by decide) ?_
  refine sw_iast (7) (by decide) (f := (upd (upd (upd (upd (upd (upd (upd (fun _ => 0) 0 (nI 1)) 1 (nI 2)) 2 (nI 3)) 3 (nI 4)) 4 (nI 5)) 5 (nI 6)) 6 (nI 7))) (nn := 8) rfl rfl (by decide) (by decide) dX2_init_105 ?_
  refine sw_weq (aw2 := am_up (am_up (am_up (am_up (aw) 27 (am_O 1 [.ref 28, .ref 29, .ref 30, .ref 31, .ref 32, .int 0, .int 0, .int 0, .int 0, .int 0, .int 0, .int 0])) 28 (am_I .int 32 (upd (upd (upd (upd (upd (upd (upd (upd (fun _ => 0) 0 (nI 10)) 5 (nI 10)) 10 (nI 10)) 15 (nI 10)) 16 (nI 10)) 21 (nI 10)) 26 (nI 10)) 31 (nI 10)))) 30 (am_I .int 4 (upd (upd (upd (upd (fun _ => 0) 0 (nI 1)) 1 (nI 2)) 2 (nI 5)) 3 (nI 9)))) 31 (am_I .int 8 (upd (upd (upd (upd (upd (upd (upd (upd (fun _ => 0) 0 (nI 1)) 1 (nI 2)) 2 (nI 3)) 3 (nI 4)) 4 (nI 5)) 5 (nI 6)) 6 (nI 7)) 7 (nI 0)))) ?_ ?_
  ·
    funext c
    by_cases e27 : c = 27
    · subst e27
      rfl
    by_cases e28 : c = 28
    · subst e28
      rfl
    by_cases e30 : c = 30
    · subst e30
      rfl
    by_cases e31 : c = 31
    · subst e31
      rfl
    simp only [am_up_ne _ _ e27, am_up_ne _ _ e28, am_up_ne _ _ e30, am_up_ne _ _ e31]
  refine sw_iinc (i := 1) (v := nI 8) dX2_init_106 rfl (by decide) (Nat.le_of_ble_eq_true rfl) rfl ?_
  refine sw_lo (lo2 := [some (.ref 27), some (.int _)]) rfl ?_
  refine sw_goto (tgt := 74) dX2_init_109 rfl ?_
  refine sw_iload_n (i := 1) dX2_init_74 rfl rfl ?_
  refine sw_bi 8 dX2_init_75 (by decide +kernel) ?_
  refine sw_ic_ge (tgt := 112) dX2_init_77 rfl (fun _ => ?_) (fun h9 => absurd (by decide) h9)
  refine sw_weq (aw2 := aw) ?_ ?_
  ·
    funext c
    by_cases e27 : c = 27
    · subst e27
      exact (hz 27 (by decide) (by decide)).symm
    by_cases e28 : c = 28
    · subst e28
      exact (hz 28 (by decide) (by decide)).symm
    by_cases e30 : c = 30
    · subst e30
      exact (hz 30 (by decide) (by decide)).symm
    by_cases e31 : c = 31
    · subst e31
      exact (hz 31 (by decide) (by decide)).symm
    simp only [am_up_ne _ _ e27, am_up_ne _ _ e28, am_up_ne _ _ e30, am_up_ne _ _ e31]
  exact sw_return rfl dX2_init_112
set_option maxRecDepth 100000 in
set_option maxHeartbeats 4000000 in
theorem I_33 {aw : Nat → am_E} (hz : ∀ c, 33 ≤ c → c < 39 → aw c = z0 c) : am_AM kX2_init yX2_init 1 [.ref 33] 34 (am_up aw 33 (am_O 1 fs0_X2)) none 39 (aw) 5 108 := by
  refine am_of pl_X2_init (Nat.le_of_ble_eq_true rfl) ?_
  refine sw_aload_n (i := 0) dX2_init_0 rfl rfl ?_
  refine sw_oinit oi_X2_3 (by decide) (Nat.le_of_ble_eq_true rfl) dX2_init_1 ?_
  refine sw_aload_n (i := 0) dX2_init_4 rfl rfl ?_
  refine sw_bi 32 dX2_init_5 (by decide +kernel) ?_
  refine sw_newI (k2 := 4) (n2 := 76) ac_i rfl (fun _ => rfl) (nn := 32) rfl (by decide) (by decide) (by decide) (by decide) (by decide) dX2_init_7 ?_
  refine sw_putR rfl fp_X2_9 (fun _ => ⟨rfl, rfl⟩) (by decide) (fs := fs0_X2) rfl (by decide) dX2_init_9 ?_
  refine sw_weq (aw2 := am_up (am_up (aw) 33 (am_O 1 [.ref 34, .null, .null, .null, .null, .int 0, .int 0, .int 0, .int 0, .int 0, .int 0, .int 0])) 34 (am_I .int 32 (fun _ => 0))) ?_ ?_
  ·
    funext c
    by_cases e33 : c = 33
    · subst e33
      rfl
    by_cases e34 : c = 34
    · subst e34
      rfl
    simp only [am_up_ne _ _ e33, am_up_ne _ _ e34]
  refine sw_aload_n (i := 0) dX2_init_12 rfl rfl ?_
  refine sw_ins (pc2 := 13) rfl rfl ?_
  refine sw_bi 32 dX2_init_13 (by decide +kernel) ?_
  refine sw_newI (k2 := 3) (n2 := 44) ac_i rfl (fun _ => rfl) (nn := 32) rfl (by decide) (by decide) (by decide) (by decide) (by decide) dX2_init_15 ?_
  refine sw_weq (aw2 := am_up (am_up (aw) 33 (am_O 1 [.ref 34, .null, .null, .null, .null, .int 0, .int 0, .int 0, .int 0, .int 0, .int 0, .int 0])) 34 (am_I .int 32 (fun _ => 0))) ?_ ?_
  ·
    funext c
    by_cases e33 : c = 33
    · subst e33
      rfl
    by_cases e34 : c = 34
    · subst e34
      rfl
    by_cases e35 : c = 35
    · subst e35
      exact (hz 35 (by decide) (by decide)).symm
    simp only [am_up_ne _ _ e33, am_up_ne _ _ e34, am_up_ne _ _ e35]
  refine sw_putR rfl fp_X2_15 (fun _ => ⟨rfl, rfl⟩) (by decide) (fs := [.ref 34, .null, .null, .null, .null, .int 0, .int 0, .int 0, .int 0, .int 0, .int 0, .int 0]) rfl (by decide) dX2_init_17 ?_
  refine sw_weq (aw2 := am_up (am_up (aw) 33 (am_O 1 [.ref 34, .ref 35, .null, .null, .null, .int 0, .int 0, .int 0, .int 0, .int 0, .int 0, .int 0])) 34 (am_I .int 32 (fun _ => 0))) ?_ ?_
  ·
    funext c
    by_cases e33 : c = 33
    · subst e33
      rfl
    by_cases e34 : c = 34
    · subst e34
      rfl
    simp only [am_up_ne _ _ e33, am_up_ne _ _ e34]
  refine sw_aload_n (i := 0) dX2_init_20 rfl rfl ?_
  refine sw_ic 4 dX2_init_21 ?_
  refine sw_newI (k2 := 2) (n2 := 40) ac_i rfl (fun _ => rfl) (nn := 4) rfl (by decide) (by decide) (by decide) (by decide) (by decide) dX2_init_22 ?_
  refine sw_putR rfl fp_X2_18 (fun _ => ⟨rfl, rfl⟩) (by decide) (fs := [.ref 34, .ref 35, .null, .null, .null, .int 0, .int 0, .int 0, .int 0, .int 0, .int 0, .int 0]) rfl (by decide) dX2_init_24 ?_
  refine sw_weq (aw2 := am_up (am_up (am_up (aw) 33 (am_O 1 [.ref 34, .ref 35, .ref 36, .null, .null, .int 0, .int 0, .int 0, .int 0, .int 0, .int 0, .int 0])) 34 (am_I .int 32 (fun _ => 0))) 36 (am_I .int 4 (fun _ => 0))) ?_ ?_
  ·
    funext c
    by_cases e33 : c = 33
    · subst e33
      rfl
    by_cases e34 : c = 34
    · subst e34
      rfl
    by_cases e36 : c = 36
    · subst e36
      rfl
    simp only [am_up_ne _ _ e33, am_up_ne _ _ e34, am_up_ne _ _ e36]
  refine sw_aload_n (i := 0) dX2_init_27 rfl rfl ?_
  refine sw_ins (pc2 := 28) rfl rfl ?_
  refine sw_bi 8 dX2_init_28 (by decide +kernel) ?_
  refine sw_newI (k2 := 1) (n2 := 32) ac_i rfl (fun _ => rfl) (nn := 8) rfl (by decide) (by decide) (by decide) (by decide) (by decide) dX2_init_30 ?_
  refine sw_putR rfl fp_X2_21 (fun _ => ⟨rfl, rfl⟩) (by decide) (fs := [.ref 34, .ref 35, .ref 36, .null, .null, .int 0, .int 0, .int 0, .int 0, .int 0, .int 0, .int 0]) rfl (by decide) dX2_init_32 ?_
  refine sw_weq (aw2 := am_up (am_up (am_up (am_up (aw) 33 (am_O 1 [.ref 34, .ref 35, .ref 36, .ref 37, .null, .int 0, .int 0, .int 0, .int 0, .int 0, .int 0, .int 0])) 34 (am_I .int 32 (fun _ => 0))) 36 (am_I .int 4 (fun _ => 0))) 37 (am_I .int 8 (fun _ => 0))) ?_ ?_
  ·
    funext c
    by_cases e33 : c = 33
    · subst e33
      rfl
    by_cases e34 : c = 34
    · subst e34
      rfl
    by_cases e36 : c = 36
    · subst e36
      rfl
    by_cases e37 : c = 37
    · subst e37
      rfl
    simp only [am_up_ne _ _ e33, am_up_ne _ _ e34, am_up_ne _ _ e36, am_up_ne _ _ e37]
  refine sw_aload_n (i := 0) dX2_init_35 rfl rfl ?_
  refine sw_bi 32 dX2_init_36 (by decide +kernel) ?_
  refine sw_newI (k2 := 0) (n2 := 0) ac_i rfl (fun _ => rfl) (nn := 32) rfl (by decide) (by decide) (by decide) (by decide) (by decide) dX2_init_38 ?_
  refine sw_weq (aw2 := am_up (am_up (am_up (am_up (aw) 33 (am_O 1 [.ref 34, .ref 35, .ref 36, .ref 37, .null, .int 0, .int 0, .int 0, .int 0, .int 0, .int 0, .int 0])) 34 (am_I .int 32 (fun _ => 0))) 36 (am_I .int 4 (fun _ => 0))) 37 (am_I .int 8 (fun _ => 0))) ?_ ?_
  ·
    funext c
    by_cases e33 : c = 33
    · subst e33
      rfl
    by_cases e34 : c = 34
    · subst e34
      rfl
    by_cases e36 : c = 36
    · subst e36
      rfl
    by_cases e37 : c = 37
    · subst e37
      rfl
    by_cases e38 : c = 38
    · subst e38
      exact (hz 38 (by decide) (by decide)).symm
    simp only [am_up_ne _ _ e33, am_up_ne _ _ e34, am_up_ne _ _ e36, am_up_ne _ _ e37, am_up_ne _ _ e38]
  refine sw_putR rfl fp_X2_24 (fun _ => ⟨rfl, rfl⟩) (by decide) (fs := [.ref 34, .ref 35, .ref 36, .ref 37, .null, .int 0, .int 0, .int 0, .int 0, .int 0, .int 0, .int 0]) rfl (by decide) dX2_init_40 ?_
  refine sw_weq (aw2 := am_up (am_up (am_up (am_up (aw) 33 (am_O 1 [.ref 34, .ref 35, .ref 36, .ref 37, .ref 38, .int 0, .int 0, .int 0, .int 0, .int 0, .int 0, .int 0])) 34 (am_I .int 32 (fun _ => 0))) 36 (am_I .int 4 (fun _ => 0))) 37 (am_I .int 8 (fun _ => 0))) ?_ ?_
  ·
    funext c
    by_cases e33 : c = 33
    · subst e33
      rfl
    by_cases e34 : c = 34
    · subst e34
      rfl
    by_cases e36 : c = 36
    · subst e36
      rfl
    by_cases e37 : c = 37
    · subst e37
      rfl
    simp only [am_up_ne _ _ e33, am_up_ne _ _ e34, am_up_ne _ _ e36, am_up_ne _ _ e37]
  refine sw_aload_n (i := 0) dX2_init_43 rfl rfl ?_
  refine sw_get (fs := [.ref 34, .ref 35, .ref 36, .ref 37, .ref 38, .int 0, .int 0, .int 0, .int 0, .int 0, .int 0, .int 0]) f_X2_18 (by decide) rfl (v := .ref 36) rfl dX2_init_44 ?_
  refine sw_ic 0 dX2_init_47 ?_
  refine sw_ic 1 dX2_init_48 ?_
  refine sw_iast (0) (by decide) (f := (fun _ => 0)) (nn := 4) rfl rfl (by decide) (by decide) dX2_init_49 ?_
  refine sw_weq (aw2 := am_up (am_up (am_up (am_up (aw) 33 (am_O 1 [.ref 34, .ref 35, .ref 36, .ref 37, .ref 38, .int 0, .int 0, .int 0, .int 0, .int 0, .int 0, .int 0])) 34 (am_I .int 32 (fun _ => 0))) 36 (am_I .int 4 (upd (fun _ => 0) 0 (nI 1)))) 37 (am_I .int 8 (fun _ => 0))) ?_ ?_
  ·
    funext c
    by_cases e33 : c = 33
    · subst e33
      rfl
    by_cases e34 : c = 34
    · subst e34
      rfl
    by_cases e36 : c = 36
    · subst e36
      rfl
    by_cases e37 : c = 37
    · subst e37
      rfl
    simp only [am_up_ne _ _ e33, am_up_ne _ _ e34, am_up_ne _ _ e36, am_up_ne _ _ e37]
  refine sw_aload_n (i := 0) dX2_init_50 rfl rfl ?_
  refine sw_get (fs := [.ref 34, .ref 35, .ref 36, .ref 37, .ref 38, .int 0, .int 0, .int 0, .int 0, .int 0, .int 0, .int 0]) f_X2_18 (by decide) rfl (v := .ref 36) rfl dX2_init_51 ?_
  refine sw_ic 1 dX2_init_54 ?_
  refine sw_ic 2 dX2_init_55 ?_
  refine sw_iast (1) (by decide) (f := (upd (fun _ => 0) 0 (nI 1))) (nn := 4) rfl rfl (by decide) (by decide) dX2_init_56 ?_
  refine sw_weq (aw2 := am_up (am_up (am_up (am_up (aw) 33 (am_O 1 [.ref 34, .ref 35, .ref 36, .ref 37, .ref 38, .int 0, .int 0, .int 0, .int 0, .int 0, .int 0, .int 0])) 34 (am_I .int 32 (fun _ => 0))) 36 (am_I .int 4 (upd (upd (fun _ => 0) 0 (nI 1)) 1 (nI 2)))) 37 (am_I .int 8 (fun _ => 0))) ?_ ?_
  ·
    funext c
    by_cases e33 : c = 33
    · subst e33
      rfl
    by_cases e34 : c = 34
    · subst e34
      rfl
    by_cases e36 : c = 36
    · subst e36
      rfl
    by_cases e37 : c = 37
    · subst e37
      rfl
    simp only [am_up_ne _ _ e33, am_up_ne _ _ e34, am_up_ne _ _ e36, am_up_ne _ _ e37]
  refine sw_aload_n (i := 0) dX2_init_57 rfl rfl ?_
  refine sw_get (fs := [.ref 34, .ref 35, .ref 36, .ref 37, .ref 38, .int 0, .int 0, .int 0, .int 0, .int 0, .int 0, .int 0]) f_X2_18 (by decide) rfl (v := .ref 36) rfl dX2_init_58 ?_
  refine sw_ic 2 dX2_init_61 ?_
  refine sw_ic 5 dX2_init_62 ?_
  refine sw_iast (2) (by decide) (f := (upd (upd (fun _ => 0) 0 (nI 1)) 1 (nI 2))) (nn := 4) rfl rfl (by decide) (by decide) dX2_init_63 ?_
  refine sw_weq (aw2 := am_up (am_up (am_up (am_up (aw) 33 (am_O 1 [.ref 34, .ref 35, .ref 36, .ref 37, .ref 38, .int 0, .int 0, .int 0, .int 0, .int 0, .int 0, .int 0])) 34 (am_I .int 32 (fun _ => 0))) 36 (am_I .int 4 (upd (upd (upd (fun _ => 0) 0 (nI 1)) 1 (nI 2)) 2 (nI 5)))) 37 (am_I .int 8 (fun _ => 0))) ?_ ?_
  ·
    funext c
    by_cases e33 : c = 33
    · subst e33
      rfl
    by_cases e34 : c = 34
    · subst e34
      rfl
    by_cases e36 : c = 36
    · subst e36
      rfl
    by_cases e37 : c = 37
    · subst e37
      rfl
    simp only [am_up_ne _ _ e33, am_up_ne _ _ e34, am_up_ne _ _ e36, am_up_ne _ _ e37]
  refine sw_aload_n (i := 0) dX2_init_64 rfl rfl ?_
  refine sw_get (fs := [.ref 34, .ref 35, .ref 36, .ref 37, .ref 38, .int 0, .int 0, .int 0, .int 0, .int 0, .int 0, .int 0]) f_X2_18 (by decide) rfl (v := .ref 36) rfl dX2_init_65 ?_
  refine sw_ins (pc2 := 68) rfl rfl ?_
  refine sw_ic 3 dX2_init_68 ?_
  refine sw_bi 9 dX2_init_69 (by decide +kernel) ?_
  refine sw_iast (3) (by decide) (f := (upd (upd (upd (fun _ => 0) 0 (nI 1)) 1 (nI 2)) 2 (nI 5))) (nn := 4) rfl rfl (by decide) (by decide) dX2_init_71 ?_
  refine sw_weq (aw2 := am_up (am_up (am_up (am_up (aw) 33 (am_O 1 [.ref 34, .ref 35, .ref 36, .ref 37, .ref 38, .int 0, .int 0, .int 0, .int 0, .int 0, .int 0, .int 0])) 34 (am_I .int 32 (fun _ => 0))) 36 (am_I .int 4 (upd (upd (upd (upd (fun _ => 0) 0 (nI 1)) 1 (nI 2)) 2 (nI 5)) 3 (nI 9)))) 37 (am_I .int 8 (fun _ => 0))) ?_ ?_
  ·
    funext c
    by_cases e33 : c = 33
    · subst e33
      rfl
    by_cases e34 : c = 34
    · subst e34
      rfl
    by_cases e36 : c = 36
    · subst e36
      rfl
    by_cases e37 : c = 37
    · subst e37
      rfl
    simp only [am_up_ne _ _ e33, am_up_ne _ _ e34, am_up_ne _ _ e36, am_up_ne _ _ e37]
  refine sw_ic 0 dX2_init_72 ?_
  refine sw_istore_n (i := 1) dX2_init_73 rfl (Nat.le_of_ble_eq_true rfl) rfl ?_
  refine sw_lo (lo2 := [some (.ref 33), some (.int _)]) rfl ?_
  refine sw_iload_n (i := 1) dX2_init_74 rfl rfl ?_
  refine sw_bi 8 dX2_init_75 (by decide +kernel) ?_
  refine sw_ic_ge (tgt := 112) dX2_init_77 rfl (fun h9 => absurd h9 (by decide)) (fun _ => ?_)
  refine sw_ins (pc2 := 80) rfl rfl ?_
  refine sw_aload_n (i := 0) dX2_init_80 rfl rfl ?_
  refine sw_get (fs := [.ref 34, .ref 35, .ref 36, .ref 37, .ref 38, .int 0, .int 0, .int 0, .int 0, .int 0, .int 0, .int 0]) f_X2_9 (by decide) rfl (v := .ref 34) rfl dX2_init_81 ?_
  refine sw_iload_n (i := 1) dX2_init_84 rfl rfl ?_
  refine sw_ic 4 dX2_init_85 ?_
  refine sw_imul dX2_init_86 ?_
  refine sw_topE (v := nI 0) (by decide) ?_
  refine sw_iload_n (i := 1) dX2_init_87 rfl rfl ?_
  refine sw_ic 4 dX2_init_88 ?_
  refine sw_irem (by decide) dX2_init_89 ?_
  refine sw_topE (v := nI 0) (by decide) ?_
  refine sw_ins (pc2 := 90) rfl rfl ?_
  refine sw_iadd dX2_init_90 ?_
  refine sw_topE (v := nI 0) (by decide) ?_
  refine sw_bi 10 dX2_init_91 (by decide +kernel) ?_
  refine sw_iast (0) (by decide) (f := (fun _ => 0)) (nn := 32) rfl rfl (by decide) (by decide) dX2_init_93 ?_
  refine sw_weq (aw2 := am_up (am_up (am_up (am_up (aw) 33 (am_O 1 [.ref 34, .ref 35, .ref 36, .ref 37, .ref 38, .int 0, .int 0, .int 0, .int 0, .int 0, .int 0, .int 0])) 34 (am_I .int 32 (upd (fun _ => 0) 0 (nI 10)))) 36 (am_I .int 4 (upd (upd (upd (upd (fun _ => 0) 0 (nI 1)) 1 (nI 2)) 2 (nI 5)) 3 (nI 9)))) 37 (am_I .int 8 (fun _ => 0))) ?_ ?_
  ·
    funext c
    by_cases e33 : c = 33
    · subst e33
      rfl
    by_cases e34 : c = 34
    · subst e34
      rfl
    by_cases e36 : c = 36
    · subst e36
      rfl
    by_cases e37 : c = 37
    · subst e37
      rfl
    simp only [am_up_ne _ _ e33, am_up_ne _ _ e34, am_up_ne _ _ e36, am_up_ne _ _ e37]
  refine sw_aload_n (i := 0) dX2_init_94 rfl rfl ?_
  refine sw_get (fs := [.ref 34, .ref 35, .ref 36, .ref 37, .ref 38, .int 0, .int 0, .int 0, .int 0, .int 0, .int 0, .int 0]) f_X2_21 (by decide) rfl (v := .ref 37) rfl dX2_init_95 ?_
  refine sw_iload_n (i := 1) dX2_init_98 rfl rfl ?_
  refine sw_iload_n (i := 1) dX2_init_99 rfl rfl ?_
  refine sw_ic 1 dX2_init_100 ?_
  refine sw_ins (pc2 := 101) rfl rfl ?_
  refine sw_iadd dX2_init_101 ?_
  refine sw_topE (v := nI 1) (by decide) ?_
  refine sw_bi 8 dX2_init_102 (by decide +kernel) ?_
  refine sw_irem (by decide) dX2_init_104 ?_
  refine sw_topE (v := nI 1) (by decide) ?_
  refine sw_iast (0) (by decide) (f := (fun _ => 0)) (nn := 8) rfl rfl (by decide) (by decide) dX2_init_105 ?_
  refine sw_weq (aw2 := am_up (am_up (am_up (am_up (aw) 33 (am_O 1 [.ref 34, .ref 35, .ref 36, .ref 37, .ref 38, .int 0, .int 0, .int 0, .int 0, .int 0, .int 0, .int 0])) 34 (am_I .int 32 (upd (fun _ => 0) 0 (nI 10)))) 36 (am_I .int 4 (upd (upd (upd (upd (fun _ => 0) 0 (nI 1)) 1 (nI 2)) 2 (nI 5)) 3 (nI 9)))) 37 (am_I .int 8 (upd (fun _ => 0) 0 (nI 1)))) ?_ ?_
  ·
    funext c
    by_cases e33 : c = 33
    · subst e33
      rfl
    by_cases e34 : c = 34
    · subst e34
      rfl
    by_cases e36 : c = 36
    · subst e36
      rfl
    by_cases e37 : c = 37
    · subst e37
      rfl
    simp only [am_up_ne _ _ e33, am_up_ne _ _ e34, am_up_ne _ _ e36, am_up_ne _ _ e37]
  refine sw_iinc (i := 1) (v := nI 1) dX2_init_106 rfl (by decide) (Nat.le_of_ble_eq_true rfl) rfl ?_
  refine sw_lo (lo2 := [some (.ref 33), some (.int _)]) rfl ?_
  refine sw_goto (tgt := 74) dX2_init_109 rfl ?_
  refine sw_iload_n (i := 1) dX2_init_74 rfl rfl ?_
  refine sw_bi 8 dX2_init_75 (by decide +kernel) ?_
  refine sw_ins (pc2 := 77) rfl rfl ?_
  refine sw_ic_ge (tgt := 112) dX2_init_77 rfl (fun h9 => absurd h9 (by decide)) (fun _ => ?_)
  refine sw_aload_n (i := 0) dX2_init_80 rfl rfl ?_
  refine sw_get (fs := [.ref 34, .ref 35, .ref 36, .ref 37, .ref 38, .int 0, .int 0, .int 0, .int 0, .int 0, .int 0, .int 0]) f_X2_9 (by decide) rfl (v := .ref 34) rfl dX2_init_81 ?_
  refine sw_iload_n (i := 1) dX2_init_84 rfl rfl ?_
  refine sw_ic 4 dX2_init_85 ?_
  refine sw_imul dX2_init_86 ?_
  refine sw_topE (v := nI 4) (by decide) ?_
  refine sw_iload_n (i := 1) dX2_init_87 rfl rfl ?_
  refine sw_ic 4 dX2_init_88 ?_
  refine sw_irem (by decide) dX2_init_89 ?_
  refine sw_topE (v := nI 1) (by decide) ?_
  refine sw_iadd dX2_init_90 ?_
  refine sw_topE (v := nI 5) (by decide) ?_
  refine sw_bi 10 dX2_init_91 (by decide +kernel) ?_
  refine sw_iast (5) (by decide) (f := (upd (fun _ => 0) 0 (nI 10))) (nn := 32) rfl rfl (by decide) (by decide) dX2_init_93 ?_
  refine sw_weq (aw2 := am_up (am_up (am_up (am_up (aw) 33 (am_O 1 [.ref 34, .ref 35, .ref 36, .ref 37, .ref 38, .int 0, .int 0, .int 0, .int 0, .int 0, .int 0, .int 0])) 34 (am_I .int 32 (upd (upd (fun _ => 0) 0 (nI 10)) 5 (nI 10)))) 36 (am_I .int 4 (upd (upd (upd (upd (fun _ => 0) 0 (nI 1)) 1 (nI 2)) 2 (nI 5)) 3 (nI 9)))) 37 (am_I .int 8 (upd (fun _ => 0) 0 (nI 1)))) ?_ ?_
  ·
    funext c
    by_cases e33 : c = 33
    · subst e33
      rfl
    by_cases e34 : c = 34
    · subst e34
      rfl
    by_cases e36 : c = 36
    · subst e36
      rfl
    by_cases e37 : c = 37
    · subst e37
      rfl
    simp only [am_up_ne _ _ e33, am_up_ne _ _ e34, am_up_ne _ _ e36, am_up_ne _ _ e37]
  refine sw_aload_n (i := 0) dX2_init_94 rfl rfl ?_
  refine sw_get (fs := [.ref 34, .ref 35, .ref 36, .ref 37, .ref 38, .int 0, .int 0, .int 0, .int 0, .int 0, .int 0, .int 0]) f_X2_21 (by decide) rfl (v := .ref 37) rfl dX2_init_95 ?_
  refine sw_iload_n (i := 1) dX2_init_98 rfl rfl ?_
  refine sw_iload_n (i := 1) dX2_init_99 rfl rfl ?_
  refine sw_ins (pc2 := 100) rfl rfl ?_
  refine sw_ic 1 dX2_init_100 ?_
  refine sw_iadd dX2_init_101 ?_
  refine sw_topE (v := nI 2) (by decide) ?_
  refine sw_bi 8 dX2_init_102 (by decide +kernel) ?_
  refine sw_irem (by decide) dX2_init_104 ?_
  refine sw_topE (v := nI 2) (by decide) ?_
  refine sw_iast (1) (by decide) (f := (upd (fun _ => 0) 0 (nI 1))) (nn := 8) rfl rfl (by decide) (by decide) dX2_init_105 ?_
  refine sw_weq (aw2 := am_up (am_up (am_up (am_up (aw) 33 (am_O 1 [.ref 34, .ref 35, .ref 36, .ref 37, .ref 38, .int 0, .int 0, .int 0, .int 0, .int 0, .int 0, .int 0])) 34 (am_I .int 32 (upd (upd (fun _ => 0) 0 (nI 10)) 5 (nI 10)))) 36 (am_I .int 4 (upd (upd (upd (upd (fun _ => 0) 0 (nI 1)) 1 (nI 2)) 2 (nI 5)) 3 (nI 9)))) 37 (am_I .int 8 (upd (upd (fun _ => 0) 0 (nI 1)) 1 (nI 2)))) ?_ ?_
  ·
    funext c
    by_cases e33 : c = 33
    · subst e33
      rfl
    by_cases e34 : c = 34
    · subst e34
      rfl
    by_cases e36 : c = 36
    · subst e36
      rfl
    by_cases e37 : c = 37
    · subst e37
      rfl
    simp only [am_up_ne _ _ e33, am_up_ne _ _ e34, am_up_ne _ _ e36, am_up_ne _ _ e37]
  refine sw_iinc (i := 1) (v := nI 2) dX2_init_106 rfl (by decide) (Nat.le_of_ble_eq_true rfl) rfl ?_
  refine sw_lo (lo2 := [some (.ref 33), some (.int _)]) rfl ?_
  refine sw_goto (tgt := 74) dX2_init_109 rfl ?_
  refine sw_iload_n (i := 1) dX2_init_74 rfl rfl ?_
  refine sw_ins (pc2 := 75) rfl rfl ?_
  refine sw_bi 8 dX2_init_75 (by decide +kernel) ?_
  refine sw_ic_ge (tgt := 112) dX2_init_77 rfl (fun h9 => absurd h9 (by decide)) (fun _ => ?_)
  refine sw_aload_n (i := 0) dX2_init_80 rfl rfl ?_
  refine sw_get (fs := [.ref 34, .ref 35, .ref 36, .ref 37, .ref 38, .int 0, .int 0, .int 0, .int 0, .int 0, .int 0, .int 0]) f_X2_9 (by decide) rfl (v := .ref 34) rfl dX2_init_81 ?_
  refine sw_iload_n (i := 1) dX2_init_84 rfl rfl ?_
  refine sw_ic 4 dX2_init_85 ?_
  refine sw_imul dX2_init_86 ?_
  refine sw_topE (v := nI 8) (by decide) ?_
  refine sw_iload_n (i := 1) dX2_init_87 rfl rfl ?_
  refine sw_ins (pc2 := 88) rfl rfl ?_
  refine sw_ic 4 dX2_init_88 ?_
  refine sw_irem (by decide) dX2_init_89 ?_
  refine sw_topE (v := nI 2) (by decide) ?_
  refine sw_iadd dX2_init_90 ?_
  refine sw_topE (v := nI 10) (by decide) ?_
  refine sw_bi 10 dX2_init_91 (by decide +kernel) ?_
  refine sw_iast (10) (by decide) (f := (upd (upd (fun _ => 0) 0 (nI 10)) 5 (nI 10))) (nn := 32) rfl rfl (by decide) (by decide) dX2_init_93 ?_
  refine sw_weq (aw2 := am_up (am_up (am_up (am_up (aw) 33 (am_O 1 [.ref 34, .ref 35, .ref 36, .ref 37, .ref 38, .int 0, .int 0, .int 0, .int 0, .int 0, .int 0, .int 0])) 34 (am_I .int 32 (upd (upd (upd (fun _ => 0) 0 (nI 10)) 5 (nI 10)) 10 (nI 10)))) 36 (am_I .int 4 (upd (upd (upd (upd (fun _ => 0) 0 (nI 1)) 1 (nI 2)) 2 (nI 5)) 3 (nI 9)))) 37 (am_I .int 8 (upd (upd (fun _ => 0) 0 (nI 1)) 1 (nI 2)))) ?_ ?_
  ·
    funext c
    by_cases e33 : c = 33
    · subst e33
      rfl
    by_cases e34 : c = 34
    · subst e34
      rfl
    by_cases e36 : c = 36
    · subst e36
      rfl
    by_cases e37 : c = 37
    · subst e37
      rfl
    simp only [am_up_ne _ _ e33, am_up_ne _ _ e34, am_up_ne _ _ e36, am_up_ne _ _ e37]
  refine sw_aload_n (i := 0) dX2_init_94 rfl rfl ?_
  refine sw_get (fs := [.ref 34, .ref 35, .ref 36, .ref 37, .ref 38, .int 0, .int 0, .int 0, .int 0, .int 0, .int 0, .int 0]) f_X2_21 (by decide) rfl (v := .ref 37) rfl dX2_init_95 ?_
  refine sw_iload_n (i := 1) dX2_init_98 rfl rfl ?_
  refine sw_ins (pc2 := 99) rfl rfl ?_
  refine sw_iload_n (i := 1) dX2_init_99 rfl rfl ?_
  refine sw_ic 1 dX2_init_100 ?_
  refine sw_iadd dX2_init_101 ?_
  refine sw_topE (v := nI 3) (by decide) ?_
  refine sw_bi 8 dX2_init_102 (by decide +kernel) ?_
  refine sw_irem (by decide) dX2_init_104 ?_
  refine sw_topE (v := nI 3) (by decide) ?_
  refine sw_iast (2) (by decide) (f := (upd (upd (fun _ => 0) 0 (nI 1)) 1 (nI 2))) (nn := 8) rfl rfl (by decide) (by decide) dX2_init_105 ?_
  refine sw_weq (aw2 := am_up (am_up (am_up (am_up (aw) 33 (am_O 1 [.ref 34, .ref 35, .ref 36, .ref 37, .ref 38, .int 0, .int 0, .int 0, .int 0, .int 0, .int 0, .int 0])) 34 (am_I .int 32 (upd (upd (upd (fun _ => 0) 0 (nI 10)) 5 (nI 10)) 10 (nI 10)))) 36 (am_I .int 4 (upd (upd (upd (upd (fun _ => 0) 0 (nI 1)) 1 (nI 2)) 2 (nI 5)) 3 (nI 9)))) 37 (am_I .int 8 (upd (upd (upd (fun _ => 0) 0 (nI 1)) 1 (nI 2)) 2 (nI 3)))) ?_ ?_
  ·
    funext c
    by_cases e33 : c = 33
    · subst e33
      rfl
    by_cases e34 : c = 34
    · subst e34
      rfl
    by_cases e36 : c = 36
    · subst e36
      rfl
    by_cases e37 : c = 37
    · subst e37
      rfl
    simp only [am_up_ne _ _ e33, am_up_ne _ _ e34, am_up_ne _ _ e36, am_up_ne _ _ e37]
  refine sw_iinc (i := 1) (v := nI 3) dX2_init_106 rfl (by decide) (Nat.le_of_ble_eq_true rfl) rfl ?_
  refine sw_lo (lo2 := [some (.ref 33), some (.int _)]) rfl ?_
  refine sw_goto (tgt := 74) dX2_init_109 rfl ?_
  refine sw_ins (pc2 := 74) rfl rfl ?_
  refine sw_iload_n (i := 1) dX2_init_74 rfl rfl ?_
  refine sw_bi 8 dX2_init_75 (by decide +kernel) ?_
  refine sw_ic_ge (tgt := 112) dX2_init_77 rfl (fun h9 => absurd h9 (by decide)) (fun _ => ?_)
  refine sw_aload_n (i := 0) dX2_init_80 rfl rfl ?_
  refine sw_get (fs := [.ref 34, .ref 35, .ref 36, .ref 37, .ref 38, .int 0, .int 0, .int 0, .int 0, .int 0, .int 0, .int 0]) f_X2_9 (by decide) rfl (v := .ref 34) rfl dX2_init_81 ?_
  refine sw_iload_n (i := 1) dX2_init_84 rfl rfl ?_
  refine sw_ic 4 dX2_init_85 ?_
  refine sw_imul dX2_init_86 ?_
  refine sw_topE (v := nI 12) (by decide) ?_
  refine sw_ins (pc2 := 87) rfl rfl ?_
  refine sw_iload_n (i := 1) dX2_init_87 rfl rfl ?_
  refine sw_ic 4 dX2_init_88 ?_
  refine sw_irem (by decide) dX2_init_89 ?_
  refine sw_topE (v := nI 3) (by decide) ?_
  refine sw_iadd dX2_init_90 ?_
  refine sw_topE (v := nI 15) (by decide) ?_
  refine sw_bi 10 dX2_init_91 (by decide +kernel) ?_
  refine sw_iast (15) (by decide) (f := (upd (upd (upd (fun _ => 0) 0 (nI 10)) 5 (nI 10)) 10 (nI 10))) (nn := 32) rfl rfl (by decide) (by decide) dX2_init_93 ?_
  refine sw_weq (aw2 := am_up (am_up (am_up (am_up (aw) 33 (am_O 1 [.ref 34, .ref 35, .ref 36, .ref 37, .ref 38, .int 0, .int 0, .int 0, .int 0, .int 0, .int 0, .int 0])) 34 (am_I .int 32 (upd (upd (upd (upd (fun _ => 0) 0 (nI 10)) 5 (nI 10)) 10 (nI 10)) 15 (nI 10)))) 36 (am_I .int 4 (upd (upd (upd (upd (fun _ => 0) 0 (nI 1)) 1 (nI 2)) 2 (nI 5)) 3 (nI 9)))) 37 (am_I .int 8 (upd (upd (upd (fun _ => 0) 0 (nI 1)) 1 (nI 2)) 2 (nI 3)))) ?_ ?_
  ·
    funext c
    by_cases e33 : c = 33
    · subst e33
      rfl
    by_cases e34 : c = 34
    · subst e34
      rfl
    by_cases e36 : c = 36
    · subst e36
      rfl
    by_cases e37 : c = 37
    · subst e37
      rfl
    simp only [am_up_ne _ _ e33, am_up_ne _ _ e34, am_up_ne _ _ e36, am_up_ne _ _ e37]
  refine sw_aload_n (i := 0) dX2_init_94 rfl rfl ?_
  refine sw_get (fs := [.ref 34, .ref 35, .ref 36, .ref 37, .ref 38, .int 0, .int 0, .int 0, .int 0, .int 0, .int 0, .int 0]) f_X2_21 (by decide) rfl (v := .ref 37) rfl dX2_init_95 ?_
  refine sw_ins (pc2 := 98) rfl rfl ?_
  refine sw_iload_n (i := 1) dX2_init_98 rfl rfl ?_
  refine sw_iload_n (i := 1) dX2_init_99 rfl rfl ?_
  refine sw_ic 1 dX2_init_100 ?_
  refine sw_iadd dX2_init_101 ?_
  refine sw_topE (v := nI 4) (by decide) ?_
  refine sw_bi 8 dX2_init_102 (by decide +kernel) ?_
  refine sw_irem (by decide) dX2_init_104 ?_
  refine sw_topE (v := nI 4) (by decide) ?_
  refine sw_iast (3) (by decide) (f := (upd (upd (upd (fun _ => 0) 0 (nI 1)) 1 (nI 2)) 2 (nI 3))) (nn := 8) rfl rfl (by decide) (by decide) dX2_init_105 ?_
  refine sw_weq (aw2 := am_up (am_up (am_up (am_up (aw) 33 (am_O 1 [.ref 34, .ref 35, .ref 36, .ref 37, .ref 38, .int 0, .int 0, .int 0, .int 0, .int 0, .int 0, .int 0])) 34 (am_I .int 32 (upd (upd (upd (upd (fun _ => 0) 0 (nI 10)) 5 (nI 10)) 10 (nI 10)) 15 (nI 10)))) 36 (am_I .int 4 (upd (upd (upd (upd (fun _ => 0) 0 (nI 1)) 1 (nI 2)) 2 (nI 5)) 3 (nI 9)))) 37 (am_I .int 8 (upd (upd (upd (upd (fun _ => 0) 0 (nI 1)) 1 (nI 2)) 2 (nI 3)) 3 (nI 4)))) ?_ ?_
  ·
    funext c
    by_cases e33 : c = 33
    · subst e33
      rfl
    by_cases e34 : c = 34
    · subst e34
      rfl
    by_cases e36 : c = 36
    · subst e36
      rfl
    by_cases e37 : c = 37
    · subst e37
      rfl
    simp only [am_up_ne _ _ e33, am_up_ne _ _ e34, am_up_ne _ _ e36, am_up_ne _ _ e37]
  refine sw_iinc (i := 1) (v := nI 4) dX2_init_106 rfl (by decide) (Nat.le_of_ble_eq_true rfl) rfl ?_
  refine sw_lo (lo2 := [some (.ref 33), some (.int _)]) rfl ?_
  refine sw_ins (pc2 := 109) rfl rfl ?_
  refine sw_goto (tgt := 74) dX2_init_109 rfl ?_
  refine sw_iload_n (i := 1) dX2_init_74 rfl rfl ?_
  refine sw_bi 8 dX2_init_75 (by decide +kernel) ?_
  refine sw_ic_ge (tgt := 112) dX2_init_77 rfl (fun h9 => absurd h9 (by decide)) (fun _ => ?_)
  refine sw_aload_n (i := 0) dX2_init_80 rfl rfl ?_
  refine sw_get (fs := [.ref 34, .ref 35, .ref 36, .ref 37, .ref 38, .int 0, .int 0, .int 0, .int 0, .int 0, .int 0, .int 0]) f_X2_9 (by decide) rfl (v := .ref 34) rfl dX2_init_81 ?_
  refine sw_iload_n (i := 1) dX2_init_84 rfl rfl ?_
  refine sw_ic 4 dX2_init_85 ?_
  refine sw_ins (pc2 := 86) rfl rfl ?_
  refine sw_imul dX2_init_86 ?_
  refine sw_topE (v := nI 16) (by decide) ?_
  refine sw_iload_n (i := 1) dX2_init_87 rfl rfl ?_
  refine sw_ic 4 dX2_init_88 ?_
  refine sw_irem (by decide) dX2_init_89 ?_
  refine sw_topE (v := nI 0) (by decide) ?_
  refine sw_iadd dX2_init_90 ?_
  refine sw_topE (v := nI 16) (by decide) ?_
  refine sw_bi 10 dX2_init_91 (by decide +kernel) ?_
  refine sw_iast (16) (by decide) (f := (upd (upd (upd (upd (fun _ => 0) 0 (nI 10)) 5 (nI 10)) 10 (nI 10)) 15 (nI 10))) (nn := 32) rfl rfl (by decide) (by decide) dX2_init_93 ?_
  refine sw_weq (aw2 := am_up (am_up (am_up (am_up (aw) 33 (am_O 1 [.ref 34, .ref 35, .ref 36, .ref 37, .ref 38, .int 0, .int 0, .int 0, .int 0, .int 0, .int 0, .int 0])) 34 (am_I .int 32 (upd (upd (upd (upd (upd (fun _ => 0) 0 (nI 10)) 5 (nI 10)) 10 (nI 10)) 15 (nI 10)) 16 (nI 10)))) 36 (am_I .int 4 (upd (upd (upd (upd (fun _ => 0) 0 (nI 1)) 1 (nI 2)) 2 (nI 5)) 3 (nI 9)))) 37 (am_I .int 8 (upd (upd (upd (upd (fun _ => 0) 0 (nI 1)) 1 (nI 2)) 2 (nI 3)) 3 (nI 4)))) ?_ ?_
  ·
    funext c
    by_cases e33 : c = 33
    · subst e33
      rfl
    by_cases e34 : c = 34
    · subst e34
      rfl
    by_cases e36 : c = 36
    · subst e36
      rfl
    by_cases e37 : c = 37
    · subst e37
      rfl
    simp only [am_up_ne _ _ e33, am_up_ne _ _ e34, am_up_ne _ _ e36, am_up_ne _ _ e37]
  refine sw_aload_n (i := 0) dX2_init_94 rfl rfl ?_
  refine sw_get (fs := [.ref 34, .ref 35, .ref 36, .ref 37, .ref 38, .int 0, .int 0, .int 0, .int 0, .int 0, .int 0, .int 0]) f_X2_21 (by decide) rfl (v := .ref 37) rfl dX2_init_95 ?_
  refine sw_iload_n (i := 1) dX2_init_98 rfl rfl ?_
  refine sw_iload_n (i := 1) dX2_init_99 rfl rfl ?_
  refine sw_ic 1 dX2_init_100 ?_
  refine sw_iadd dX2_init_101 ?_
  refine sw_topE (v := nI 5) (by decide) ?_
  refine sw_bi 8 dX2_init_102 (by decide +kernel) ?_
  refine sw_irem (by decide) dX2_init_104 ?_
  refine sw_topE (v := nI 5) (by decide) ?_
  refine sw_iast (4) (by decide) (f := (upd (upd (upd (upd (fun _ => 0) 0 (nI 1)) 1 (nI 2)) 2 (nI 3)) 3 (nI 4))) (nn := 8) rfl rfl (by decide) (by decide) dX2_init_105 ?_
  refine sw_weq (aw2 := am_up (am_up (am_up (am_up (aw) 33 (am_O 1 [.ref 34, .ref 35, .ref 36, .ref 37, .ref 38, .int 0, .int 0, .int 0, .int 0, .int 0, .int 0, .int 0])) 34 (am_I .int 32 (upd (upd (upd (upd (upd (fun _ => 0) 0 (nI 10)) 5 (nI 10)) 10 (nI 10)) 15 (nI 10)) 16 (nI 10)))) 36 (am_I .int 4 (upd (upd (upd (upd (fun _ => 0) 0 (nI 1)) 1 (nI 2)) 2 (nI 5)) 3 (nI 9)))) 37 (am_I .int 8 (upd (upd (upd (upd (upd (fun _ => 0) 0 (nI 1)) 1 (nI 2)) 2 (nI 3)) 3 (nI 4)) 4 (nI 5)))) ?_ ?_
  ·
    funext c
    by_cases e33 : c = 33
    · subst e33
      rfl
    by_cases e34 : c = 34
    · subst e34
      rfl
    by_cases e36 : c = 36
    · subst e36
      rfl
    by_cases e37 : c = 37
    · subst e37
      rfl
    simp only [am_up_ne _ _ e33, am_up_ne _ _ e34, am_up_ne _ _ e36, am_up_ne _ _ e37]
  refine sw_ins (pc2 := 106) rfl rfl ?_
  refine sw_iinc (i := 1) (v := nI 5) dX2_init_106 rfl (by decide) (Nat.le_of_ble_eq_true rfl) rfl ?_
  refine sw_lo (lo2 := [some (.ref 33), some (.int _)]) rfl ?_
  refine sw_goto (tgt := 74) dX2_init_109 rfl ?_
  refine sw_iload_n (i := 1) dX2_init_74 rfl rfl ?_
  refine sw_bi 8 dX2_init_75 (by decide +kernel) ?_
  refine sw_ic_ge (tgt := 112) dX2_init_77 rfl (fun h9 => absurd h9 (by decide)) (fun _ => ?_)
  refine sw_aload_n (i := 0) dX2_init_80 rfl rfl ?_
  refine sw_get (fs := [.ref 34, .ref 35, .ref 36, .ref 37, .ref 38, .int 0, .int 0, .int 0, .int 0, .int 0, .int 0, .int 0]) f_X2_9 (by decide) rfl (v := .ref 34) rfl dX2_init_81 ?_
  refine sw_iload_n (i := 1) dX2_init_84 rfl rfl ?_
  refine sw_ins (pc2 := 85) rfl rfl ?_
  refine sw_ic 4 dX2_init_85 ?_
  refine sw_imul dX2_init_86 ?_
  refine sw_topE (v := nI 20) (by decide) ?_
  refine sw_iload_n (i := 1) dX2_init_87 rfl rfl ?_
  refine sw_ic 4 dX2_init_88 ?_
  refine sw_irem (by decide) dX2_init_89 ?_
  refine sw_topE (v := nI 1) (by decide) ?_
  refine sw_iadd dX2_init_90 ?_
  refine sw_topE (v := nI 21) (by decide) ?_
  refine sw_bi 10 dX2_init_91 (by decide +kernel) ?_
  refine sw_iast (21) (by decide) (f := (upd (upd (upd (upd (upd (fun _ => 0) 0 (nI 10)) 5 (nI 10)) 10 (nI 10)) 15 (nI 10)) 16 (nI 10))) (nn := 32) rfl rfl (by decide) (by decide) dX2_init_93 ?_
  refine sw_weq (aw2 := am_up (am_up (am_up (am_up (aw) 33 (am_O 1 [.ref 34, .ref 35, .ref 36, .ref 37, .ref 38, .int 0, .int 0, .int 0, .int 0, .int 0, .int 0, .int 0])) 34 (am_I .int 32 (upd (upd (upd (upd (upd (upd (fun _ => 0) 0 (nI 10)) 5 (nI 10)) 10 (nI 10)) 15 (nI 10)) 16 (nI 10)) 21 (nI 10)))) 36 (am_I .int 4 (upd (upd (upd (upd (fun _ => 0) 0 (nI 1)) 1 (nI 2)) 2 (nI 5)) 3 (nI 9)))) 37 (am_I .int 8 (upd (upd (upd (upd (upd (fun _ => 0) 0 (nI 1)) 1 (nI 2)) 2 (nI 3)) 3 (nI 4)) 4 (nI 5)))) ?_ ?_
  ·
    funext c
    by_cases e33 : c = 33
    · subst e33
      rfl
    by_cases e34 : c = 34
    · subst e34
      rfl
    by_cases e36 : c = 36
    · subst e36
      rfl
    by_cases e37 : c = 37
    · subst e37
      rfl
    simp only [am_up_ne _ _ e33, am_up_ne _ _ e34, am_up_ne _ _ e36, am_up_ne _ _ e37]
  refine sw_ins (pc2 := 94) rfl rfl ?_
  refine sw_aload_n (i := 0) dX2_init_94 rfl rfl ?_
  refine sw_get (fs := [.ref 34, .ref 35, .ref 36, .ref 37, .ref 38, .int 0, .int 0, .int 0, .int 0, .int 0, .int 0, .int 0]) f_X2_21 (by decide) rfl (v := .ref 37) rfl dX2_init_95 ?_
  refine sw_iload_n (i := 1) dX2_init_98 rfl rfl ?_
  refine sw_iload_n (i := 1) dX2_init_99 rfl rfl ?_
  refine sw_ic 1 dX2_init_100 ?_
  refine sw_iadd dX2_init_101 ?_
  refine sw_topE (v := nI 6) (by decide) ?_
  refine sw_bi 8 dX2_init_102 (by decide +kernel) ?_
  refine sw_irem (by decide) dX2_init_104 ?_
  refine sw_topE (v := nI 6) (by decide) ?_
  refine sw_iast (5) (by decide) (f := (upd (upd (upd (upd (upd (fun _ => 0) 0 (nI 1)) 1 (nI 2)) 2 (nI 3)) 3 (nI 4)) 4 (nI 5))) (nn := 8) rfl rfl (by decide) (by decide) dX2_init_105 ?_
  refine sw_weq (aw2 := am_up (am_up (am_up (am_up (aw) 33 (am_O 1 [.ref 34, .ref 35, .ref 36, .ref 37, .ref 38, .int 0, .int 0, .int 0, .int 0, .int 0, .int 0, .int 0])) 34 (am_I .int 32 (upd (upd (upd (upd (upd (upd (fun _ => 0) 0 (nI 10)) 5 (nI 10)) 10 (nI 10)) 15 (nI 10)) 16 (nI 10)) 21 (nI 10)))) 36 (am_I .int 4 (upd (upd (upd (upd (fun _ => 0) 0 (nI 1)) 1 (nI 2)) 2 (nI 5)) 3 (nI 9)))) 37 (am_I .int 8 (upd (upd (upd (upd (upd (upd (fun _ => 0) 0 (nI 1)) 1 (nI 2)) 2 (nI 3)) 3 (nI 4)) 4 (nI 5)) 5 (nI 6)))) ?_ ?_
  ·
    funext c
    by_cases e33 : c = 33
    · subst e33
      rfl
    by_cases e34 : c = 34
    · subst e34
      rfl
    by_cases e36 : c = 36
    · subst e36
      rfl
    by_cases e37 : c = 37
    · subst e37
      rfl
    simp only [am_up_ne _ _ e33, am_up_ne _ _ e34, am_up_ne _ _ e36, am_up_ne _ _ e37]
  refine sw_iinc (i := 1) (v := nI 6) dX2_init_106 rfl (by decide) (Nat.le_of_ble_eq_true rfl) rfl ?_
  refine sw_lo (lo2 := [some (.ref 33), some (.int _)]) rfl ?_
  refine sw_goto (tgt := 74) dX2_init_109 rfl ?_
  refine sw_iload_n (i := 1) dX2_init_74 rfl rfl ?_
  refine sw_bi 8 dX2_init_75 (by decide +kernel) ?_
  refine sw_ic_ge (tgt := 112) dX2_init_77 rfl (fun h9 => absurd h9 (by decide)) (fun _ => ?_)
  refine sw_aload_n (i := 0) dX2_init_80 rfl rfl ?_
  refine sw_get (fs := [.ref 34, .ref 35, .ref 36, .ref 37, .ref 38, .int 0, .int 0, .int 0, .int 0, .int 0, .int 0, .int 0]) f_X2_9 (by decide) rfl (v := .ref 34) rfl dX2_init_81 ?_
  refine sw_ins (pc2 := 84) rfl rfl ?_
  refine sw_iload_n (i := 1) dX2_init_84 rfl rfl ?_
  refine sw_ic 4 dX2_init_85 ?_
  refine sw_imul dX2_init_86 ?_
  refine sw_topE (v := nI 24) (by decide) ?_
  refine sw_iload_n (i := 1) dX2_init_87 rfl rfl ?_
  refine sw_ic 4 dX2_init_88 ?_
  refine sw_irem (by decide) dX2_init_89 ?_
  refine sw_topE (v := nI 2) (by decide) ?_
  refine sw_iadd dX2_init_90 ?_
  refine sw_topE (v := nI 26) (by decide) ?_
  refine sw_bi 10 dX2_init_91 (by decide +kernel) ?_
  refine sw_iast (26) (by decide) (f := (upd (upd (upd (upd (upd (upd (fun _ => 0) 0 (nI 10)) 5 (nI 10)) 10 (nI 10)) 15 (nI 10)) 16 (nI 10)) 21 (nI 10))) (nn := 32) rfl rfl (by decide) (by decide) dX2_init_93 ?_
  refine sw_weq (aw2 := am_up (am_up (am_up (am_up (aw) 33 (am_O 1 [.ref 34, .ref 35, .ref 36, .ref 37, .ref 38, .int 0, .int 0, .int 0, .int 0, .int 0, .int 0, .int 0])) 34 (am_I .int 32 (upd (upd (upd (upd (upd (upd (upd (fun _ => 0) 0 (nI 10)) 5 (nI 10)) 10 (nI 10)) 15 (nI 10)) 16 (nI 10)) 21 (nI 10)) 26 (nI 10)))) 36 (am_I .int 4 (upd (upd (upd (upd (fun _ => 0) 0 (nI 1)) 1 (nI 2)) 2 (nI 5)) 3 (nI 9)))) 37 (am_I .int 8 (upd (upd (upd (upd (upd (upd (fun _ => 0) 0 (nI 1)) 1 (nI 2)) 2 (nI 3)) 3 (nI 4)) 4 (nI 5)) 5 (nI 6)))) ?_ ?_
  ·
    funext c
    by_cases e33 : c = 33
    · subst e33
      rfl
    by_cases e34 : c = 34
    · subst e34
      rfl
    by_cases e36 : c = 36
    · subst e36
      rfl
    by_cases e37 : c = 37
    · subst e37
      rfl
    simp only [am_up_ne _ _ e33, am_up_ne _ _ e34, am_up_ne _ _ e36, am_up_ne _ _ e37]
  refine sw_aload_n (i := 0) dX2_init_94 rfl rfl ?_
  refine sw_get (fs := [.ref 34, .ref 35, .ref 36, .ref 37, .ref 38, .int 0, .int 0, .int 0, .int 0, .int 0, .int 0, .int 0]) f_X2_21 (by decide) rfl (v := .ref 37) rfl dX2_init_95 ?_
  refine sw_iload_n (i := 1) dX2_init_98 rfl rfl ?_
  refine sw_iload_n (i := 1) dX2_init_99 rfl rfl ?_
  refine sw_ic 1 dX2_init_100 ?_
  refine sw_iadd dX2_init_101 ?_
  refine sw_topE (v := nI 7) (by decide) ?_
  refine sw_bi 8 dX2_init_102 (by decide +kernel) ?_
  refine sw_irem (by decide) dX2_init_104 ?_
  refine sw_topE (v := nI 7) (by decide) ?_
  refine sw_iast (6) (by decide) (f := (upd (upd (upd (upd (upd (upd (fun _ => 0) 0 (nI 1)) 1 (nI 2)) 2 (nI 3)) 3 (nI 4)) 4 (nI 5)) 5 (nI 6))) (nn := 8) rfl rfl (by decide) (by decide) dX2_init_105 ?_
  refine sw_weq (aw2 := am_up (am_up (am_up (am_up (aw) 33 (am_O 1 [.ref 34, .ref 35, .ref 36, .ref 37, .ref 38, .int 0, .int 0, .int 0, .int 0, .int 0, .int 0, .int 0])) 34 (am_I .int 32 (upd (upd (upd (upd (upd (upd (upd (fun _ => 0) 0 (nI 10)) 5 (nI 10)) 10 (nI 10)) 15 (nI 10)) 16 (nI 10)) 21 (nI 10)) 26 (nI 10)))) 36 (am_I .int 4 (upd (upd (upd (upd (fun _ => 0) 0 (nI 1)) 1 (nI 2)) 2 (nI 5)) 3 (nI 9)))) 37 (am_I .int 8 (upd (upd (upd (upd (upd (upd (upd (fun _ => 0) 0 (nI 1)) 1 (nI 2)) 2 (nI 3)) 3 (nI 4)) 4 (nI 5)) 5 (nI 6)) 6 (nI 7)))) ?_ ?_
  ·
    funext c
    by_cases e33 : c = 33
    · subst e33
      rfl
    by_cases e34 : c = 34
    · subst e34
      rfl
    by_cases e36 : c = 36
    · subst e36
      rfl
    by_cases e37 : c = 37
    · subst e37
      rfl
    simp only [am_up_ne _ _ e33, am_up_ne _ _ e34, am_up_ne _ _ e36, am_up_ne _ _ e37]
  refine sw_iinc (i := 1) (v := nI 7) dX2_init_106 rfl (by decide) (Nat.le_of_ble_eq_true rfl) rfl ?_
  refine sw_lo (lo2 := [some (.ref 33), some (.int _)]) rfl ?_
  refine sw_goto (tgt := 74) dX2_init_109 rfl ?_
  refine sw_iload_n (i := 1) dX2_init_74 rfl rfl ?_
  refine sw_bi 8 dX2_init_75 (by decide +kernel) ?_
  refine sw_ic_ge (tgt := 112) dX2_init_77 rfl (fun h9 => absurd h9 (by decide)) (fun _ => ?_)
  refine sw_aload_n (i := 0) dX2_init_80 rfl rfl ?_
  refine sw_get (fs := [.ref 34, .ref 35, .ref 36, .ref 37, .ref 38, .int 0, .int 0, .int 0, .int 0, .int 0, .int 0, .int 0]) f_X2_9 (by decide) rfl (v := .ref 34) rfl dX2_init_81 ?_
  refine sw_iload_n (i := 1) dX2_init_84 rfl rfl ?_
  refine sw_ic 4 dX2_init_85 ?_
  refine sw_imul dX2_init_86 ?_
  refine sw_topE (v := nI 28) (by decide) ?_
  refine sw_iload_n (i := 1) dX2_init_87 rfl rfl ?_
  refine sw_ic 4 dX2_init_88 ?_
  refine sw_irem (by decide) dX2_init_89 ?_
  refine sw_topE (v := nI 3) (by decide) ?_
  refine sw_iadd dX2_init_90 ?_
  refine sw_topE (v := nI 31) (by decide) ?_
  refine sw_ins (pc2 := 91) rfl rfl ?_
  refine sw_bi 10 dX2_init_91 (by decide +kernel) ?_
  refine sw_iast (31) (by decide) (f := (upd (upd (upd (upd (upd (upd (upd (fun _ => 0) 0 (nI 10)) 5 (nI 10)) 10 (nI 10)) 15 (nI 10)) 16 (nI 10)) 21 (nI 10)) 26 (nI 10))) (nn := 32) rfl rfl (by decide) (by decide) dX2_init_93 ?_
  refine sw_weq (aw2 := am_up (am_up (am_up (am_up (aw) 33 (am_O 1 [.ref 34, .ref 35, .ref 36, .ref 37, .ref 38, .int 0, .int 0, .int 0, .int 0, .int 0, .int 0, .int 0])) 34 (am_I .int 32 (upd (upd (upd (upd (upd (upd (upd (upd (fun _ => 0) 0 (nI 10)) 5 (nI 10)) 10 (nI 10)) 15 (nI 10)) 16 (nI 10)) 21 (nI 10)) 26 (nI 10)) 31 (nI 10)))) 36 (am_I .int 4 (upd (upd (upd (upd (fun _ => 0) 0 (nI 1)) 1 (nI 2)) 2 (nI 5)) 3 (nI 9)))) 37 (am_I .int 8 (upd (upd (upd (upd (upd (upd (upd (fun _ => 0) 0 (nI 1)) 1 (nI 2)) 2 (nI 3)) 3 (nI 4)) 4 (nI 5)) 5 (nI 6)) 6 (nI 7)))) ?_ ?_
  ·
    funext c
    by_cases e33 : c = 33
    · subst e33
      rfl
    by_cases e34 : c = 34
    · subst e34
      rfl
    by_cases e36 : c = 36
    · subst e36
      rfl
    by_cases e37 : c = 37
    · subst e37
      rfl
    simp only [am_up_ne _ _ e33, am_up_ne _ _ e34, am_up_ne _ _ e36, am_up_ne _ _ e37]
  refine sw_aload_n (i := 0) dX2_init_94 rfl rfl ?_
  refine sw_get (fs := [.ref 34, .ref 35, .ref 36, .ref 37, .ref 38, .int 0, .int 0, .int 0, .int 0, .int 0, .int 0, .int 0]) f_X2_21 (by decide) rfl (v := .ref 37) rfl dX2_init_95 ?_
  refine sw_iload_n (i := 1) dX2_init_98 rfl rfl ?_
  refine sw_iload_n (i := 1) dX2_init_99 rfl rfl ?_
  refine sw_ic 1 dX2_init_100 ?_
  refine sw_iadd dX2_init_101 ?_
  refine sw_topE (v := nI 8) (by decide) ?_
  refine sw_ins (pc2 := 102) rfl rfl ?_
  refine sw_bi 8 dX2_init_102 (by decide +kernel) ?_
  refine sw_irem (by decide) dX2_init_104 ?_
  refine sw_topE (v := nI 0) (by decide) ?_
  refine sw_iast (7) (by decide) (f := (upd (upd (upd (upd (upd (upd (upd (fun _ => 0) 0 (nI 1)) 1 (nI 2)) 2 (nI 3)) 3 (nI 4)) 4 (nI 5)) 5 (nI 6)) 6 (nI 7))) (nn := 8) rfl rfl (by decide) (by decide) dX2_init_105 ?_
  refine sw_weq (aw2 := am_up (am_up (am_up (am_up (aw) 33 (am_O 1 [.ref 34, .ref 35, .ref 36, .ref 37, .ref 38, .int 0, .int 0, .int 0, .int 0, .int 0, .int 0, .int 0])) 34 (am_I .int 32 (upd (upd (upd (upd (upd (upd (upd (upd (fun _ => 0) 0 (nI 10)) 5 (nI 10)) 10 (nI 10)) 15 (nI 10)) 16 (nI 10)) 21 (nI 10)) 26 (nI 10)) 31 (nI 10)))) 36 (am_I .int 4 (upd (upd (upd (upd (fun _ => 0) 0 (nI 1)) 1 (nI 2)) 2 (nI 5)) 3 (nI 9)))) 37 (am_I .int 8 (upd (upd (upd (upd (upd (upd (upd (upd (fun _ => 0) 0 (nI 1)) 1 (nI 2)) 2 (nI 3)) 3 (nI 4)) 4 (nI 5)) 5 (nI 6)) 6 (nI 7)) 7 (nI 0)))) ?_ ?_
  ·
    funext c
    by_cases e33 : c = 33
    · subst e33
      rfl
    by_cases e34 : c = 34
    · subst e34
      rfl
    by_cases e36 : c = 36
    · subst e36
      rfl
    by_cases e37 : c = 37
    · subst e37
      rfl
    simp only [am_up_ne _ _ e33, am_up_ne _ _ e34, am_up_ne _ _ e36, am_up_ne _ _ e37]
  refine sw_iinc (i := 1) (v := nI 8) dX2_init_106 rfl (by decide) (Nat.le_of_ble_eq_true rfl) rfl ?_
  refine sw_lo (lo2 := [some (.ref 33), some (.int _)]) rfl ?_
  refine sw_goto (tgt := 74) dX2_init_109 rfl ?_
  refine sw_iload_n (i := 1) dX2_init_74 rfl rfl ?_
  refine sw_bi 8 dX2_init_75 (by decide +kernel) ?_
  refine sw_ic_ge (tgt := 112) dX2_init_77 rfl (fun _ => ?_) (fun h9 => absurd (by decide) h9)
  refine sw_weq (aw2 := aw) ?_ ?_
  ·
    funext c
    by_cases e33 : c = 33
    · subst e33
      exact (hz 33 (by decide) (by decide)).symm
    by_cases e34 : c = 34
    · subst e34
      exact (hz 34 (by decide) (by decide)).symm
    by_cases e36 : c = 36
    · subst e36
      exact (hz 36 (by decide) (by decide)).symm
    by_cases e37 : c = 37
    · subst e37
      exact (hz 37 (by decide) (by decide)).symm
    simp only [am_up_ne _ _ e33, am_up_ne _ _ e34, am_up_ne _ _ e36, am_up_ne _ _ e37]
  exact sw_return rfl dX2_init_112
set_option maxRecDepth 100000 in
set_option maxHeartbeats 4000000 in
theorem I_39 {aw : Nat → am_E} (hz : ∀ c, 39 ≤ c → c < 45 → aw c = z0 c) : am_AM kX2_init yX2_init 1 [.ref 39] 40 (am_up aw 39 (am_O 1 fs0_X2)) none 45 (aw) 5 108 := by
  refine am_of pl_X2_init (Nat.le_of_ble_eq_true rfl) ?_
  refine sw_aload_n (i := 0) dX2_init_0 rfl rfl ?_
  refine sw_oinit oi_X2_3 (by decide) (Nat.le_of_ble_eq_true rfl) dX2_init_1 ?_
  refine sw_aload_n (i := 0) dX2_init_4 rfl rfl ?_
  refine sw_bi 32 dX2_init_5 (by decide +kernel) ?_
  refine sw_newI (k2 := 4) (n2 := 76) ac_i rfl (fun _ => rfl) (nn := 32) rfl (by decide) (by decide) (by decide) (by decide) (by decide) dX2_init_7 ?_
  refine sw_putR rfl fp_X2_9 (fun _ => ⟨rfl, rfl⟩) (by decide) (fs := fs0_X2) rfl (by decide) dX2_init_9 ?_
  refine sw_weq (aw2 := am_up (am_up (aw) 39 (am_O 1 [.ref 40, .null, .null, .null, .null, .int 0, .int 0, .int 0, .int 0, .int 0, .int 0, .int 0])) 40 (am_I .int 32 (fun _ => 0))) ?_ ?_
  ·
    funext c
    by_cases e39 : c = 39
    · subst e39
      rfl
    by_cases e40 : c = 40
    · subst e40
      rfl
    simp only [am_up_ne _ _ e39, am_up_ne _ _ e40]
  refine sw_aload_n (i := 0) dX2_init_12 rfl rfl ?_
  refine sw_ins (pc2 := 13) rfl rfl ?_
  refine sw_bi 32 dX2_init_13 (by decide +kernel) ?_
  refine sw_newI (k2 := 3) (n2 := 44) ac_i rfl (fun _ => rfl) (nn := 32) rfl (by decide) (by decide) (by decide) (by decide) (by decide) dX2_init_15 ?_
  refine sw_weq (aw2 := am_up (am_up (aw) 39 (am_O 1 [.ref 40, .null, .null, .null, .null, .int 0, .int 0, .int 0, .int 0, .int 0, .int 0, .int 0])) 40 (am_I .int 32 (fun _ => 0))) ?_ ?_
  ·
    funext c
    by_cases e39 : c = 39
    · subst e39
      rfl
    by_cases e40 : c = 40
    · subst e40
      rfl
    by_cases e41 : c = 41
    · subst e41
      exact (hz 41 (by decide) (by decide)).symm
    simp only [am_up_ne _ _ e39, am_up_ne _ _ e40, am_up_ne _ _ e41]
  refine sw_putR rfl fp_X2_15 (fun _ => ⟨rfl, rfl⟩) (by decide) (fs := [.ref 40, .null, .null, .null, .null, .int 0, .int 0, .int 0, .int 0, .int 0, .int 0, .int 0]) rfl (by decide) dX2_init_17 ?_
  refine sw_weq (aw2 := am_up (am_up (aw) 39 (am_O 1 [.ref 40, .ref 41, .null, .null, .null, .int 0, .int 0, .int 0, .int 0, .int 0, .int 0, .int 0])) 40 (am_I .int 32 (fun _ => 0))) ?_ ?_
  ·
    funext c
    by_cases e39 : c = 39
    · subst e39
      rfl
    by_cases e40 : c = 40
    · subst e40
      rfl
    simp only [am_up_ne _ _ e39, am_up_ne _ _ e40]
  refine sw_aload_n (i := 0) dX2_init_20 rfl rfl ?_
  refine sw_ic 4 dX2_init_21 ?_
  refine sw_newI (k2 := 2) (n2 := 40) ac_i rfl (fun _ => rfl) (nn := 4) rfl (by decide) (by decide) (by decide) (by decide) (by decide) dX2_init_22 ?_
  refine sw_putR rfl fp_X2_18 (fun _ => ⟨rfl, rfl⟩) (by decide) (fs := [.ref 40, .ref 41, .null, .null, .null, .int 0, .int 0, .int 0, .int 0, .int 0, .int 0, .int 0]) rfl (by decide) dX2_init_24 ?_
  refine sw_weq (aw2 := am_up (am_up (am_up (aw) 39 (am_O 1 [.ref 40, .ref 41, .ref 42, .null, .null, .int 0, .int 0, .int 0, .int 0, .int 0, .int 0, .int 0])) 40 (am_I .int 32 (fun _ => 0))) 42 (am_I .int 4 (fun _ => 0))) ?_ ?_
  ·
    funext c
    by_cases e39 : c = 39
    · subst e39
      rfl
    by_cases e40 : c = 40
    · subst e40
      rfl
    by_cases e42 : c = 42
    · subst e42
      rfl
    simp only [am_up_ne _ _ e39, am_up_ne _ _ e40, am_up_ne _ _ e42]
  refine sw_aload_n (i := 0) dX2_init_27 rfl rfl ?_
  refine sw_ins (pc2 := 28) rfl rfl ?_
  refine sw_bi 8 dX2_init_28 (by decide +kernel) ?_
  refine sw_newI (k2 := 1) (n2 := 32) ac_i rfl (fun _ => rfl) (nn := 8) rfl (by decide) (by decide) (by decide) (by decide) (by decide) dX2_init_30 ?_
  refine sw_putR rfl fp_X2_21 (fun _ => ⟨rfl, rfl⟩) (by decide) (fs := [.ref 40, .ref 41, .ref 42, .null, .null, .int 0, .int 0, .int 0, .int 0, .int 0, .int 0, .int 0]) rfl (by decide) dX2_init_32 ?_
  refine sw_weq (aw2 := am_up (am_up (am_up (am_up (aw) 39 (am_O 1 [.ref 40, .ref 41, .ref 42, .ref 43, .null, .int 0, .int 0, .int 0, .int 0, .int 0, .int 0, .int 0])) 40 (am_I .int 32 (fun _ => 0))) 42 (am_I .int 4 (fun _ => 0))) 43 (am_I .int 8 (fun _ => 0))) ?_ ?_
  ·
    funext c
    by_cases e39 : c = 39
    · subst e39
      rfl
    by_cases e40 : c = 40
    · subst e40
      rfl
    by_cases e42 : c = 42
    · subst e42
      rfl
    by_cases e43 : c = 43
    · subst e43
      rfl
    simp only [am_up_ne _ _ e39, am_up_ne _ _ e40, am_up_ne _ _ e42, am_up_ne _ _ e43]
  refine sw_aload_n (i := 0) dX2_init_35 rfl rfl ?_
  refine sw_bi 32 dX2_init_36 (by decide +kernel) ?_
  refine sw_newI (k2 := 0) (n2 := 0) ac_i rfl (fun _ => rfl) (nn := 32) rfl (by decide) (by decide) (by decide) (by decide) (by decide) dX2_init_38 ?_
  refine sw_weq (aw2 := am_up (am_up (am_up (am_up (aw) 39 (am_O 1 [.ref 40, .ref 41, .ref 42, .ref 43, .null, .int 0, .int 0, .int 0, .int 0, .int 0, .int 0, .int 0])) 40 (am_I .int 32 (fun _ => 0))) 42 (am_I .int 4 (fun _ => 0))) 43 (am_I .int 8 (fun _ => 0))) ?_ ?_
  ·
    funext c
    by_cases e39 : c = 39
    · subst e39
      rfl
    by_cases e40 : c = 40
    · subst e40
      rfl
    by_cases e42 : c = 42
    · subst e42
      rfl
    by_cases e43 : c = 43
    · subst e43
      rfl
    by_cases e44 : c = 44
    · subst e44
      exact (hz 44 (by decide) (by decide)).symm
    simp only [am_up_ne _ _ e39, am_up_ne _ _ e40, am_up_ne _ _ e42, am_up_ne _ _ e43, am_up_ne _ _ e44]
  refine sw_putR rfl fp_X2_24 (fun _ => ⟨rfl, rfl⟩) (by decide) (fs := [.ref 40, .ref 41, .ref 42, .ref 43, .null, .int 0, .int 0, .int 0, .int 0, .int 0, .int 0, .int 0]) rfl (by decide) dX2_init_40 ?_
  refine sw_weq (aw2 := am_up (am_up (am_up (am_up (aw) 39 (am_O 1 [.ref 40, .ref 41, .ref 42, .ref 43, .ref 44, .int 0, .int 0, .int 0, .int 0, .int 0, .int 0, .int 0])) 40 (am_I .int 32 (fun _ => 0))) 42 (am_I .int 4 (fun _ => 0))) 43 (am_I .int 8 (fun _ => 0))) ?_ ?_
  ·
    funext c
    by_cases e39 : c = 39
    · subst e39
      rfl
    by_cases e40 : c = 40
    · subst e40
      rfl
    by_cases e42 : c = 42
    · subst e42
      rfl
    by_cases e43 : c = 43
    · subst e43
      rfl
    simp only [am_up_ne _ _ e39, am_up_ne _ _ e40, am_up_ne _ _ e42, am_up_ne _ _ e43]
  refine sw_aload_n (i := 0) dX2_init_43 rfl rfl ?_
  refine sw_get (fs := [.ref 40, .ref 41, .ref 42, .ref 43, .ref 44, .int 0, .int 0, .int 0, .int 0, .int 0, .int 0, .int 0]) f_X2_18 (by decide) rfl (v := .ref 42) rfl dX2_init_44 ?_
  refine sw_ic 0 dX2_init_47 ?_
  refine sw_ic 1 dX2_init_48 ?_
  refine sw_iast (0) (by decide) (f := (fun _ => 0)) (nn := 4) rfl rfl (by decide) (by decide) dX2_init_49 ?_
  refine sw_weq (aw2 := am_up (am_up (am_up (am_up (aw) 39 (am_O 1 [.ref 40, .ref 41, .ref 42, .ref 43, .ref 44, .int 0, .int 0, .int 0, .int 0, .int 0, .int 0, .int 0])) 40 (am_I .int 32 (fun _ => 0))) 42 (am_I .int 4 (upd (fun _ => 0) 0 (nI 1)))) 43 (am_I .int 8 (fun _ => 0))) ?_ ?_
  ·
    funext c
    by_cases e39 : c = 39
    · subst e39
      rfl
    by_cases e40 : c = 40
    · subst e40
      rfl
    by_cases e42 : c = 42
    · subst e42
      rfl
    by_cases e43 : c = 43
    · subst e43
      rfl
    simp only [am_up_ne _ _ e39, am_up_ne _ _ e40, am_up_ne _ _ e42, am_up_ne _ _ e43]
  refine sw_aload_n (i := 0) dX2_init_50 rfl rfl ?_
  refine sw_get (fs := [.ref 40, .ref 41, .ref 42, .ref 43, .ref 44, .int 0, .int 0, .int 0, .int 0, .int 0, .int 0, .int 0]) f_X2_18 (by decide) rfl (v := .ref 42) rfl dX2_init_51 ?_
  refine sw_ic 1 dX2_init_54 ?_
  refine sw_ic 2 dX2_init_55 ?_
  refine sw_iast (1) (by decide) (f := (upd (fun _ => 0) 0 (nI 1))) (nn := 4) rfl rfl (by decide) (by decide) dX2_init_56 ?_
  refine sw_weq (aw2 := am_up (am_up (am_up (am_up (aw) 39 (am_O 1 [.ref 40, .ref 41, .ref 42, .ref 43, .ref 44, .int 0, .int 0, .int 0, .int 0, .int 0, .int 0, .int 0])) 40 (am_I .int 32 (fun _ => 0))) 42 (am_I .int 4 (upd (upd (fun _ => 0) 0 (nI 1)) 1 (nI 2)))) 43 (am_I .int 8 (fun _ => 0))) ?_ ?_
  ·
    funext c
    by_cases e39 : c = 39
    · subst e39
      rfl
    by_cases e40 : c = 40
    · subst e40
      rfl
    by_cases e42 : c = 42
    · subst e42
      rfl
    by_cases e43 : c = 43
    · subst e43
      rfl
    simp only [am_up_ne _ _ e39, am_up_ne _ _ e40, am_up_ne _ _ e42, am_up_ne _ _ e43]
  refine sw_aload_n (i := 0) dX2_init_57 rfl rfl ?_
  refine sw_get (fs := [.ref 40, .ref 41, .ref 42, .ref 43, .ref 44, .int 0, .int 0, .int 0, .int 0, .int 0, .int 0, .int 0]) f_X2_18 (by decide) rfl (v := .ref 42) rfl dX2_init_58 ?_
  refine sw_ic 2 dX2_init_61 ?_
  refine sw_ic 5 dX2_init_62 ?_
  refine sw_iast (2) (by decide) (f := (upd (upd (fun _ => 0) 0 (nI 1)) 1 (nI 2))) (nn := 4) rfl rfl (by decide) (by decide) dX2_init_63 ?_
  refine sw_weq (aw2 := am_up (am_up (am_up (am_up (aw) 39 (am_O 1 [.ref 40, .ref 41, .ref 42, .ref 43, .ref 44, .int 0, .int 0, .int 0, .int 0, .int 0, .int 0, .int 0])) 40 (am_I .int 32 (fun _ => 0))) 42 (am_I .int 4 (upd (upd (upd (fun _ => 0) 0 (nI 1)) 1 (nI 2)) 2 (nI 5)))) 43 (am_I .int 8 (fun _ => 0))) ?_ ?_
  ·
    funext c
    by_cases e39 : c = 39
    · subst e39
      rfl
    by_cases e40 : c = 40
    · subst e40
      rfl
    by_cases e42 : c = 42
    · subst e42
      rfl
    by_cases e43 : c = 43
    · subst e43
      rfl
    simp only [am_up_ne _ _ e39, am_up_ne _ _ e40, am_up_ne _ _ e42, am_up_ne _ _ e43]
  refine sw_aload_n (i := 0) dX2_init_64 rfl rfl ?_
  refine sw_get (fs := [.ref 40, .ref 41, .ref 42, .ref 43, .ref 44, .int 0, .int 0, .int 0, .int 0, .int 0, .int 0, .int 0]) f_X2_18 (by decide) rfl (v := .ref 42) rfl dX2_init_65 ?_
  refine sw_ins (pc2 := 68) rfl rfl ?_
  refine sw_ic 3 dX2_init_68 ?_
  refine sw_bi 9 dX2_init_69 (by decide +kernel) ?_
  refine sw_iast (3) (by decide) (f := (upd (upd (upd (fun _ => 0) 0 (nI 1)) 1 (nI 2)) 2 (nI 5))) (nn := 4) rfl rfl (by decide) (by decide) dX2_init_71 ?_
  refine sw_weq (aw2 := am_up (am_up (am_up (am_up (aw) 39 (am_O 1 [.ref 40, .ref 41, .ref 42, .ref 43, .ref 44, .int 0, .int 0, .int 0, .int 0, .int 0, .int 0, .int 0])) 40 (am_I .int 32 (fun _ => 0))) 42 (am_I .int 4 (upd (upd (upd (upd (fun _ => 0) 0 (nI 1)) 1 (nI 2)) 2 (nI 5)) 3 (nI 9)))) 43 (am_I .int 8 (fun _ => 0))) ?_ ?_
  ·
    funext c
    by_cases e39 : c = 39
    · subst e39
      rfl
    by_cases e40 : c = 40
    · subst e40
      rfl
    by_cases e42 : c = 42
    · subst e42
      rfl
    by_cases e43 : c = 43
    · subst e43
      rfl
    simp only [am_up_ne _ _ e39, am_up_ne _ _ e40, am_up_ne _ _ e42, am_up_ne _ _ e43]
  refine sw_ic 0 dX2_init_72 ?_
  refine sw_istore_n (i := 1) dX2_init_73 rfl (Nat.le_of_ble_eq_true rfl) rfl ?_
  refine sw_lo (lo2 := [some (.ref 39), some (.int _)]) rfl ?_
  refine sw_iload_n (i := 1) dX2_init_74 rfl rfl ?_
  refine sw_bi 8 dX2_init_75 (by decide +kernel) ?_
  refine sw_ic_ge (tgt := 112) dX2_init_77 rfl (fun h9 => absurd h9 (by decide)) (fun _ => ?_)
  refine sw_ins (pc2 := 80) rfl rfl ?_
  refine sw_aload_n (i := 0) dX2_init_80 rfl rfl ?_
  refine sw_get (fs := [.ref 40, .ref 41, .ref 42, .ref 43, .ref 44, .int 0, .int 0, .int 0, .int 0, .int 0, .int 0, .int 0]) f_X2_9 (by decide) rfl (v := .ref 40) rfl dX2_init_81 ?_
  refine sw_iload_n (i := 1) dX2_init_84 rfl rfl ?_
  refine sw_ic 4 dX2_init_85 ?_
  refine sw_imul dX2_init_86 ?_
  refine sw_topE (v := nI 0) (by decide) ?_
  refine sw_iload_n (i := 1) dX2_init_87 rfl rfl ?_
  refine sw_ic 4 dX2_init_88 ?_
  refine sw_irem (by decide) dX2_init_89 ?_
  refine sw_topE (v := nI 0) (by decide) ?_
  refine sw_ins (pc2 := 90) rfl rfl ?_
  refine sw_iadd dX2_init_90 ?_
  refine sw_topE (v := nI 0) (by decide) ?_
  refine sw_bi 10 dX2_init_91 (by decide +kernel) ?_
  refine sw_iast (0) (by decide) (f := (fun _ => 0)) (nn := 32) rfl rfl (by decide) (by decide) dX2_init_93 ?_
  refine sw_weq (aw2 := am_up (am_up (am_up (am_up (aw) 39 (am_O 1 [.ref 40, .ref 41, .ref 42, .ref 43, .ref 44, .int 0, .int 0, .int 0, .int 0, .int 0, .int 0, .int 0])) 40 (am_I .int 32 (upd (fun _ => 0) 0 (nI 10)))) 42 (am_I .int 4 (upd (upd (upd (upd (fun _ => 0) 0 (nI 1)) 1 (nI 2)) 2 (nI 5)) 3 (nI 9)))) 43 (am_I .int 8 (fun _ => 0))) ?_ ?_
  ·
    funext c
    by_cases e39 : c = 39
    · subst e39
      rfl
    by_cases e40 : c = 40
    · subst e40
      rfl
    by_cases e42 : c = 42
    · subst e42
      rfl
    by_cases e43 : c = 43
    · subst e43
      rfl
    simp only [am_up_ne _ _ e39, am_up_ne _ _ e40, am_up_ne _ _ e42, am_up_ne _ _ e43]
  refine sw_aload_n (i := 0) dX2_init_94 rfl rfl ?_
  refine sw_get (fs := [.ref 40, .ref 41, .ref 42, .ref 43, .ref 44, .int 0, .int 0, .int 0, .int 0, .int 0, .int 0, .int 0]) f_X2_21 (by decide) rfl (v := .ref 43) rfl dX2_init_95 ?_
  refine sw_iload_n (i := 1) dX2_init_98 rfl rfl ?_
  refine sw_iload_n (i := 1) dX2_init_99 rfl rfl ?_
  refine sw_ic 1 dX2_init_100 ?_
  refine sw_ins (pc2 := 101) rfl rfl ?_
  refine sw_iadd dX2_init_101 ?_
  refine sw_topE (v := nI 1) (by decide) ?_
  refine sw_bi 8 dX2_init_102 (by decide +kernel) ?_
  refine sw_irem (by decide) dX2_init_104 ?_
  refine sw_topE (v := nI 1) (by decide) ?_
  refine sw_iast (0) (by decide) (f := (fun _ => 0)) (nn := 8) rfl rfl (by decide) (by decide) dX2_init_105 ?_
  refine sw_weq (aw2 := am_up (am_up (am_up (am_up (aw) 39 (am_O 1 [.ref 40, .ref 41, .ref 42, .ref 43, .ref 44, .int 0, .int 0, .int 0, .int 0, .int 0, .int 0, .int 0])) 40 (am_I .int 32 (upd (fun _ => 0) 0 (nI 10)))) 42 (am_I .int 4 (upd (upd (upd (upd (fun _ => 0) 0 (nI 1)) 1 (nI 2)) 2 (nI 5)) 3 (nI 9)))) 43 (am_I .int 8 (upd (fun _ => 0) 0 (nI 1)))) ?_ ?_
  ·
    funext c
    by_cases e39 : c = 39
    · subst e39
      rfl
    by_cases e40 : c = 40
    · subst e40
      rfl
    by_cases e42 : c = 42
    · subst e42
      rfl
    by_cases e43 : c = 43
    · subst e43
      rfl
    simp only [am_up_ne _ _ e39, am_up_ne _ _ e40, am_up_ne _ _ e42, am_up_ne _ _ e43]
  refine sw_iinc (i := 1) (v := nI 1) dX2_init_106 rfl (by decide) (Nat.le_of_ble_eq_true rfl) rfl ?_
  refine sw_lo (lo2 := [some (.ref 39), some (.int _)]) rfl ?_
  refine sw_goto (tgt := 74) dX2_init_109 rfl ?_
  refine sw_iload_n (i := 1) dX2_init_74 rfl rfl ?_
  refine sw_bi 8 dX2_init_75 (by decide +kernel) ?_
  refine sw_ins (pc2 := 77) rfl rfl ?_
  refine sw_ic_ge (tgt := 112) dX2_init_77 rfl (fun h9 => absurd h9 (by decide)) (fun _ => ?_)
  refine sw_aload_n (i := 0) dX2_init_80 rfl rfl ?_
  refine sw_get (fs := [.ref 40, .ref 41, .ref 42, .ref 43, .ref 44, .int 0, .int 0, .int 0, .int 0, .int 0, .int 0, .int 0]) f_X2_9 (by decide) rfl (v := .ref 40) rfl dX2_init_81 ?_
  refine sw_iload_n (i := 1) dX2_init_84 rfl rfl ?_
  refine sw_ic 4 dX2_init_85 ?_
  refine sw_imul dX2_init_86 ?_
  refine sw_topE (v := nI 4) (by decide) ?_
  refine sw_iload_n (i := 1) dX2_init_87 rfl rfl ?_
  refine sw_ic 4 dX2_init_88 ?_
  refine sw_irem (by decide) dX2_init_89 ?_
  refine sw_topE (v := nI 1) (by decide) ?_
  refine sw_iadd dX2_init_90 ?_
  refine sw_topE (v := nI 5) (by decide) ?_
  refine sw_bi 10 dX2_init_91 (by decide +kernel) ?_
  refine sw_iast (5) (by decide) (f := (upd (fun _ => 0) 0 (nI 10))) (nn := 32) rfl rfl (by decide) (by decide) dX2_init_93 ?_
  refine sw_weq (aw2 := am_up (am_up (am_up (am_up (aw) 39 (am_O 1 [.ref 40, .ref 41, .ref 42, .ref 43, .ref 44, .int 0, .int 0, .int 0, .int 0, .int 0, .int 0, .int 0])) 40 (am_I .int 32 (upd (upd (fun _ => 0) 0 (nI 10)) 5 (nI 10)))) 42 (am_I .int 4 (upd (upd (upd (upd (fun _ => 0) 0 (nI 1)) 1 (nI 2)) 2 (nI 5)) 3 (nI 9)))) 43 (am_I .int 8 (upd (fun _ => 0) 0 (nI 1)))) ?_ ?_
  ·
    funext c
    by_cases e39 : c = 39
    · subst e39
      rfl
    by_cases e40 : c = 40
    · subst e40
      rfl
    by_cases e42 : c = 42
    · subst e42
      rfl
    by_cases e43 : c = 43
    · subst e43
      rfl
    simp only [am_up_ne _ _ e39, am_up_ne _ _ e40, am_up_ne _ _ e42, am_up_ne _ _ e43]
  refine sw_aload_n (i := 0) dX2_init_94 rfl rfl ?_
  refine sw_get (fs := [.ref 40, .ref 41, .ref 42, .ref 43, .ref 44, .int 0, .int 0, .int 0, .int 0, .int 0, .int 0, .int 0]) f_X2_21 (by decide) rfl (v := .ref 43) rfl dX2_init_95 ?_
  refine sw_iload_n (i := 1) dX2_init_98 rfl rfl ?_
  refine sw_iload_n (i := 1) dX2_init_99 rfl rfl ?_
  refine sw_ins (pc2 := 100) rfl rfl ?_
  refine sw_ic 1 dX2_init_100 ?_
  refine sw_iadd dX2_init_101 ?_
  refine sw_topE (v := nI 2) (by decide) ?_
  refine sw_bi 8 dX2_init_102 (by decide +kernel) ?_
  refine sw_irem (by decide) dX2_init_104 ?_
  refine sw_topE (v := nI 2) (by decide) ?_
  refine sw_iast (1) (by decide) (f := (upd (fun _ => 0) 0 (nI 1))) (nn := 8) rfl rfl (by decide) (by decide) dX2_init_105 ?_
  refine sw_weq (aw2 := am_up (am_up (am_up (am_up (aw) 39 (am_O 1 [.ref 40, .ref 41, .ref 42, .ref 43, .ref 44, .int 0, .int 0, .int 0, .int 0, .int 0, .int 0, .int 0])) 40 (am_I .int 32 (upd (upd (fun _ => 0) 0 (nI 10)) 5 (nI 10)))) 42 (am_I .int 4 (upd (upd (upd (upd (fun _ => 0) 0 (nI 1)) 1 (nI 2)) 2 (nI 5)) 3 (nI 9)))) 43 (am_I .int 8 (upd (upd (fun _ => 0) 0 (nI 1)) 1 (nI 2)))) ?_ ?_
  ·
    funext c
    by_cases e39 : c = 39
    · subst e39
      rfl
    by_cases e40 : c = 40
    · subst e40
      rfl
    by_cases e42 : c = 42
    · subst e42
      rfl
    by_cases e43 : c = 43
    · subst e43
      rfl
    simp only [am_up_ne _ _ e39, am_up_ne _ _ e40, am_up_ne _ _ e42, am_up_ne _ _ e43]
  refine sw_iinc (i := 1) (v := nI 2) dX2_init_106 rfl (by decide) (Nat.le_of_ble_eq_true rfl) rfl ?_
  refine sw_lo (lo2 := [some (.ref 39), some (.int _)]) rfl ?_
  refine sw_goto (tgt := 74) dX2_init_109 rfl ?_
  refine sw_iload_n (i := 1) dX2_init_74 rfl rfl ?_
  refine sw_ins (pc2 := 75) rfl rfl ?_
  refine sw_bi 8 dX2_init_75 (by decide +kernel) ?_
  refine sw_ic_ge (tgt := 112) dX2_init_77 rfl (fun h9 => absurd h9 (by decide)) (fun _ => ?_)
  refine sw_aload_n (i := 0) dX2_init_80 rfl rfl ?_
  refine sw_get (fs := [.ref 40, .ref 41, .ref 42, .ref 43, .ref 44, .int 0, .int 0, .int 0, .int 0, .int 0, .int 0, .int 0]) f_X2_9 (by decide) rfl (v := .ref 40) rfl dX2_init_81 ?_
  refine sw_iload_n (i := 1) dX2_init_84 rfl rfl ?_
  refine sw_ic 4 dX2_init_85 ?_
  refine sw_imul dX2_init_86 ?_
  refine sw_topE (v := nI 8) (by decide) ?_
  refine sw_iload_n (i := 1) dX2_init_87 rfl rfl ?_
  refine sw_ins (pc2 := 88) rfl rfl ?_
  refine sw_ic 4 dX2_init_88 ?_
  refine sw_irem (by decide) dX2_init_89 ?_
  refine sw_topE (v := nI 2) (by decide) ?_
  refine sw_iadd dX2_init_90 ?_
  refine sw_topE (v := nI 10) (by decide) ?_
  refine sw_bi 10 dX2_init_91 (by decide +kernel) ?_
  refine sw_iast (10) (by decide) (f := (upd (upd (fun _ => 0) 0 (nI 10)) 5 (nI 10))) (nn := 32) rfl rfl (by decide) (by decide) dX2_init_93 ?_
  refine sw_weq (aw2 := am_up (am_up (am_up (am_up (aw) 39 (am_O 1 [.ref 40, .ref 41, .ref 42, .ref 43, .ref 44, .int 0, .int 0, .int 0, .int 0, .int 0, .int 0, .int 0])) 40 (am_I .int 32 (upd (upd (upd (fun _ => 0) 0 (nI 10)) 5 (nI 10)) 10 (nI 10)))) 42 (am_I .int 4 (upd (upd (upd (upd (fun _ => 0) 0 (nI 1)) 1 (nI 2)) 2 (nI 5)) 3 (nI 9)))) 43 (am_I .int 8 (upd (upd (fun _ => 0) 0 (nI 1)) 1 (nI 2)))) ?_ ?_
  ·
    funext c
    by_cases e39 : c = 39
    · subst e39
      rfl
    by_cases e40 : c = 40
    · subst e40
      rfl
    by_cases e42 : c = 42
    · subst e42
      rfl
    by_cases e43 : c = 43
    · subst e43
      rfl
    simp only [am_up_ne _ _ e39, am_up_ne _ _ e40, am_up_ne _ _ e42, am_up_ne _ _ e43]
  refine sw_aload_n (i := 0) dX2_init_94 rfl rfl ?_
  refine sw_get (fs := [.ref 40, .ref 41, .ref 42, .ref 43, .ref 44, .int 0, .int 0, .int 0, .int 0, .int 0, .int 0, .int 0]) f_X2_21 (by decide) rfl (v := .ref 43) rfl dX2_init_95 ?_
  refine sw_iload_n (i := 1) dX2_init_98 rfl rfl ?_
  refine sw_ins (pc2 := 99) rfl rfl ?_
  refine sw_iload_n (i := 1) dX2_init_99 rfl rfl ?_
  refine sw_ic 1 dX2_init_100 ?_
  refine sw_iadd dX2_init_101 ?_
  refine sw_topE (v := nI 3) (by decide) ?_
  refine sw_bi 8 dX2_init_102 (by decide +kernel) ?_
  refine sw_irem (by decide) dX2_init_104 ?_
  refine sw_topE (v := nI 3) (by decide) ?_
  refine sw_iast (2) (by decide) (f := (upd (upd (fun _ => 0) 0 (nI 1)) 1 (nI 2))) (nn := 8) rfl rfl (by decide) (by decide) dX2_init_105 ?_
  refine sw_weq (aw2 := am_up (am_up (am_up (am_up (aw) 39 (am_O 1 [.ref 40, .ref 41, .ref 42, .ref 43, .ref 44, .int 0, .int 0, .int 0, .int 0, .int 0, .int 0, .int 0])) 40 (am_I .int 32 (upd (upd (upd (fun _ => 0) 0 (nI 10)) 5 (nI 10)) 10 (nI 10)))) 42 (am_I .int 4 (upd (upd (upd (upd (fun _ => 0) 0 (nI 1)) 1 (nI 2)) 2 (nI 5)) 3 (nI 9)))) 43 (am_I .int 8 (upd (upd (upd (fun _ => 0) 0 (nI 1)) 1 (nI 2)) 2 (nI 3)))) ?_ ?_
  ·
    funext c
    by_cases e39 : c = 39
    · subst e39
      rfl
    by_cases e40 : c = 40
    · subst e40
      rfl
    by_cases e42 : c = 42
    · subst e42
      rfl
    by_cases e43 : c = 43
    · subst e43
      rfl
    simp only [am_up_ne _ _ e39, am_up_ne _ _ e40, am_up_ne _ _ e42, am_up_ne _ _ e43]
  refine sw_iinc (i := 1) (v := nI 3) dX2_init_106 rfl (by decide) (Nat.le_of_ble_eq_true rfl) rfl ?_
  refine sw_lo (lo2 := [some (.ref 39), some (.int _)]) rfl ?_
  refine sw_goto (tgt := 74) dX2_init_109 rfl ?_
  refine sw_ins (pc2 := 74) rfl rfl ?_
  refine sw_iload_n (i := 1) dX2_init_74 rfl rfl ?_
  refine sw_bi 8 dX2_init_75 (by decide +kernel) ?_
  refine sw_ic_ge (tgt := 112) dX2_init_77 rfl (fun h9 => absurd h9 (by decide)) (fun _ => ?_)
  refine sw_aload_n (i := 0) dX2_init_80 rfl rfl ?_
  refine sw_get (fs := [.ref 40, .ref 41, .ref 42, .ref 43, .ref 44, .int 0, .int 0, .int 0, .int 0, .int 0, .int 0, .int 0]) f_X2_9 (by decide) rfl (v := .ref 40) rfl dX2_init_81 ?_
  refine sw_iload_n (i := 1) dX2_init_84 rfl rfl ?_
  refine sw_ic 4 dX2_init_85 ?_
  refine sw_imul dX2_init_86 ?_
  refine sw_topE (v := nI 12) (by decide) ?_
  refine sw_ins (pc2 := 87) rfl rfl ?_
  refine sw_iload_n (i := 1) dX2_init_87 rfl rfl ?_
  refine sw_ic 4 dX2_init_88 ?_
  refine sw_irem (by decide) dX2_init_89 ?_
  refine sw_topE (v := nI 3) (by decide) ?_
  refine sw_iadd dX2_init_90 ?_
  refine sw_topE (v := nI 15) (by decide) ?_
  refine sw_bi 10 dX2_init_91 (by decide +kernel) ?_
  refine sw_iast (15) (by decide) (f := (upd (upd (upd (fun _ => 0) 0 (nI 10)) 5 (nI 10)) 10 (nI 10))) (nn := 32) rfl rfl (by decide) (by decide) dX2_init_93 ?_
  refine sw_weq (aw2 := am_up (am_up (am_up (am_up (aw) 39 (am_O 1 [.ref 40, .ref 41, .ref 42, .ref 43, .ref 44, .int 0, .int 0, .int 0, .int 0, .int 0, .int 0, .int 0])) 40 (am_I .int 32 (upd (upd (upd (upd (fun _ => 0) 0 (nI 10)) 5 (nI 10)) 10 (nI 10)) 15 (nI 10)))) 42 (am_I .int 4 (upd (upd (upd (upd (fun _ => 0) 0 (nI 1)) 1 (nI 2)) 2 (nI 5)) 3 (nI 9)))) 43 (am_I .int 8 (upd (upd (upd (fun _ => 0) 0 (nI 1)) 1 (nI 2)) 2 (nI 3)))) ?_ ?_
  ·
    funext c
    by_cases e39 : c = 39
    · subst e39
      rfl
    by_cases e40 : c = 40
    · subst e40
      rfl
    by_cases e42 : c = 42
    · subst e42
      rfl
    by_cases e43 : c = 43
    · subst e43
      rfl
    simp only [am_up_ne _ _ e39, am_up_ne _ _ e40, am_up_ne _ _ e42, am_up_ne _ _ e43]
  refine sw_aload_n (i := 0) dX2_init_94 rfl rfl ?_
  refine sw_get (fs := [.ref 40, .ref 41, .ref 42, .ref 43, .ref 44, .int 0, .int 0, .int 0, .int 0, .int 0, .int 0, .int 0]) f_X2_21 (by decide) rfl (v := .ref 43) rfl dX2_init_95 ?_
  refine sw_ins (pc2 := 98) rfl rfl ?_
  refine sw_iload_n (i := 1) dX2_init_98 rfl rfl ?_
  refine sw_iload_n (i := 1) dX2_init_99 rfl rfl ?_
  refine sw_ic 1 dX2_init_100 ?_
  refine sw_iadd dX2_init_101 ?_
  refine sw_topE (v := nI 4) (by decide) ?_
  refine sw_bi 8 dX2_init_102 (by decide +kernel) ?_
  refine sw_irem (by decide) dX2_init_104 ?_
  refine sw_topE (v := nI 4) (by decide) ?_
  refine sw_iast (3) (by decide) (f := (upd (upd (upd (fun _ => 0) 0 (nI 1)) 1 (nI 2)) 2 (nI 3))) (nn := 8) rfl rfl (by decide) (by decide) dX2_init_105 ?_
  refine sw_weq (aw2 := am_up (am_up (am_up (am_up (aw) 39 (am_O 1 [.ref 40, .ref 41, .ref 42, .ref 43, .ref 44, .int 0, .int 0, .int 0, .int 0, .int 0, .int 0, .int 0])) 40 (am_I .int 32 (upd (upd (upd (upd (fun _ => 0) 0 (nI 10)) 5 (nI 10)) 10 (nI 10)) 15 (nI 10)))) 42 (am_I .int 4 (upd (upd (upd (upd (fun _ => 0) 0 (nI 1)) 1 (nI 2)) 2 (nI 5)) 3 (nI 9)))) 43 (am_I .int 8 (upd (upd (upd (upd (fun _ => 0) 0 (nI 1)) 1 (nI 2)) 2 (nI 3)) 3 (nI 4)))) ?_ ?_
  ·
    funext c
    by_cases e39 : c = 39
    · subst e39
      rfl
    by_cases e40 : c = 40
    · subst e40
      rfl
    by_cases e42 : c = 42
    · subst e42
      rfl
    by_cases e43 : c = 43
    · subst e43
      rfl
    simp only [am_up_ne _ _ e39, am_up_ne _ _ e40, am_up_ne _ _ e42, am_up_ne _ _ e43]
  refine sw_iinc (i := 1) (v := nI 4) dX2_init_106 rfl (by decide) (Nat.le_of_ble_eq_true rfl) rfl ?_
  refine sw_lo (lo2 := [some (.ref 39), some (.int _)]) rfl ?_
  refine sw_ins (pc2 := 109) rfl rfl ?_
  refine sw_goto (tgt := 74) dX2_init_109 rfl ?_
  refine sw_iload_n (i := 1) dX2_init_74 rfl rfl ?_
  refine sw_bi 8 dX2_init_75 (by decide +kernel) ?_
  refine sw_ic_ge (tgt := 112) dX2_init_77 rfl (fun h9 => absurd h9 (by decide)) (fun _ => ?_)
  refine sw_aload_n (i := 0) dX2_init_80 rfl rfl ?_
  refine sw_get (fs := [.ref 40, .ref 41, .ref 42, .ref 43, .ref 44, .int 0, .int 0, .int 0, .int 0, .int 0, .int 0, .int 0]) f_X2_9 (by decide) rfl (v := .ref 40) rfl dX2_init_81 ?_
  refine sw_iload_n (i := 1) dX2_init_84 rfl rfl ?_
  refine sw_ic 4 dX2_init_85 ?_
  refine sw_ins (pc2 := 86) rfl rfl ?_
  refine sw_imul dX2_init_86 ?_
  refine sw_topE (v := nI 16) (by decide) ?_
  refine sw_iload_n (i := 1) dX2_init_87 rfl rfl ?_
  refine sw_ic 4 dX2_init_88 ?_
  refine sw_irem (by decide) dX2_init_89 ?_
  refine sw_topE (v := nI 0) (by decide) ?_
  refine sw_iadd dX2_init_90 ?_
  refine sw_topE (v := nI 16) (by decide) ?_
  refine sw_bi 10 dX2_init_91 (by decide +kernel) ?_
  refine sw_iast (16) (by decide) (f := (upd (upd (upd (upd (fun _ => 0) 0 (nI 10)) 5 (nI 10)) 10 (nI 10)) 15 (nI 10))) (nn := 32) rfl rfl (by decide) (by decide) dX2_init_93 ?_
  refine sw_weq (aw2 := am_up (am_up (am_up (am_up (aw) 39 (am_O 1 [.ref 40, .ref 41, .ref 42, .ref 43, .ref 44, .int 0, .int 0, .int 0, .int 0, .int 0, .int 0, .int 0])) 40 (am_I .int 32 (upd (upd (upd (upd (upd (fun _ => 0) 0 (nI 10)) 5 (nI 10)) 10 (nI 10)) 15 (nI 10)) 16 (nI 10)))) 42 (am_I .int 4 (upd (upd (upd (upd (fun _ => 0) 0 (nI 1)) 1 (nI 2)) 2 (nI 5)) 3 (nI 9)))) 43 (am_I .int 8 (upd (upd (upd (upd (fun _ => 0) 0 (nI 1)) 1 (nI 2)) 2 (nI 3)) 3 (nI 4)))) ?_ ?_
  ·
    funext c
    by_cases e39 : c = 39
    · subst e39
      rfl
    by_cases e40 : c = 40
    · subst e40
      rfl
    by_cases e42 : c = 42
    · subst e42
      rfl
    by_cases e43 : c = 43
    · subst e43
      rfl
    simp only [am_up_ne _ _ e39, am_up_ne _ _ e40, am_up_ne _ _ e42, am_up_ne _ _ e43]
  refine sw_aload_n (i := 0) dX2_init_94 rfl rfl ?_
  refine sw_get (fs := [.ref 40, .ref 41, .ref 42, .ref 43, .ref 44, .int 0, .int 0, .int 0, .int 0, .int 0, .int 0, .int 0]) f_X2_21 (by decide) rfl (v := .ref 43) rfl dX2_init_95 ?_
  refine sw_iload_n (i := 1) dX2_init_98 rfl rfl ?_
  refine sw_iload_n (i := 1) dX2_init_99 rfl rfl ?_
  refine sw_ic 1 dX2_init_100 ?_
  refine sw_iadd dX2_init_101 ?_
  refine sw_topE (v := nI 5) (by decide) ?_
  refine sw_bi 8 dX2_init_102 (by decide +kernel) ?_
  refine sw_irem (by decide) dX2_init_104 ?_
  refine sw_topE (v := nI 5) (by decide) ?_
  refine sw_iast (4) (by decide) (f := (upd (upd (upd (upd (fun _ => 0) 0 (nI 1)) 1 (nI 2)) 2 (nI 3)) 3 (nI 4))) (nn := 8) rfl rfl (by decide) (by decide) dX2_init_105 ?_
  refine sw_weq (aw2 := am_up (am_up (am_up (am_up (aw) 39 (am_O 1 [.ref 40, .ref 41, .ref 42, .ref 43, .ref 44, .int 0, .int 0, .int 0, .int 0, .int 0, .int 0, .int 0])) 40 (am_I .int 32 (upd (upd (upd (upd (upd (fun _ => 0) 0 (nI 10)) 5 (nI 10)) 10 (nI 10)) 15 (nI 10)) 16 (nI 10)))) 42 (am_I .int 4 (upd (upd (upd (upd (fun _ => 0) 0 (nI 1)) 1 (nI 2)) 2 (nI 5)) 3 (nI 9)))) 43 (am_I .int 8 (upd (upd (upd (upd (upd (fun _ => 0) 0 (nI 1)) 1 (nI 2)) 2 (nI 3)) 3 (nI 4)) 4 (nI 5)))) ?_ ?_
  ·
    funext c
    by_cases e39 : c = 39
    · subst e39
      rfl
    by_cases e40 : c = 40
    · subst e40
      rfl
    by_cases e42 : c = 42
    · subst e42
      rfl
    by_cases e43 : c = 43
    · subst e43
      rfl
    simp only [am_up_ne _ _ e39, am_up_ne _ _ e40, am_up_ne _ _ e42, am_up_ne _ _ e43]
  refine sw_ins (pc2 := 106) rfl rfl ?_
  refine sw_iinc (i := 1) (v := nI 5) dX2_init_106 rfl (by decide) (Nat.le_of_ble_eq_true rfl) rfl ?_
  refine sw_lo (lo2 := [some (.ref 39), some (.int _)]) rfl ?_
  refine sw_goto (tgt := 74) dX2_init_109 rfl ?_
  refine sw_iload_n (i := 1) dX2_init_74 rfl rfl ?_
  refine sw_bi 8 dX2_init_75 (by decide +kernel) ?_
  refine sw_ic_ge (tgt := 112) dX2_init_77 rfl (fun h9 => absurd h9 (by decide)) (fun _ => ?_)
  refine sw_aload_n (i := 0) dX2_init_80 rfl rfl ?_
  refine sw_get (fs := [.ref 40, .ref 41, .ref 42, .ref 43, .ref 44, .int 0, .int 0, .int 0, .int 0, .int 0, .int 0, .int 0]) f_X2_9 (by decide) rfl (v := .ref 40) rfl dX2_init_81 ?_
  refine sw_iload_n (i := 1) dX2_init_84 rfl rfl ?_
  refine sw_ins (pc2 := 85) rfl rfl ?_
  refine sw_ic 4 dX2_init_85 ?_
  refine sw_imul dX2_init_86 ?_
  refine sw_topE (v := nI 20) (by decide) ?_
  refine sw_iload_n (i := 1) dX2_init_87 rfl rfl ?_
  refine sw_ic 4 dX2_init_88 ?_
  refine sw_irem (by decide) dX2_init_89 ?_
  refine sw_topE (v := nI 1) (by decide) ?_
  refine sw_iadd dX2_init_90 ?_
  refine sw_topE (v := nI 21) (by decide) ?_
  refine sw_bi 10 dX2_init_91 (by decide +kernel) ?_
  refine sw_iast (21) (by decide) (f := (upd (upd (upd (upd (upd (fun _ => 0) 0 (nI 10)) 5 (nI 10)) 10 (nI 10)) 15 (nI 10)) 16 (nI 10))) (nn := 32) rfl rfl (by decide) (by decide) dX2_init_93 ?_
  refine sw_weq (aw2 := am_up (am_up (am_up (am_up (aw) 39 (am_O 1 [.ref 40, .ref 41, .ref 42, .ref 43, .ref 44, .int 0, .int 0, .int 0, .int 0, .int 0, .int 0, .int 0])) 40 (am_I .int 32 (upd (upd (upd (upd (upd (upd (fun _ => 0) 0 (nI 10)) 5 (nI 10)) 10 (nI 10)) 15 (nI 10)) 16 (nI 10)) 21 (nI 10)))) 42 (am_I .int 4 (upd (upd (upd (upd (fun _ => 0) 0 (nI 1)) 1 (nI 2)) 2 (nI 5)) 3 (nI 9)))) 43 (am_I .int 8 (upd (upd (upd (upd (upd (fun _ => 0) 0 (nI 1)) 1 (nI 2)) 2 (nI 3)) 3 (nI 4)) 4 (nI 5)))) ?_ ?_
  ·
    funext c
    by_cases e39 : c = 39
    · subst e39
      rfl
    by_cases e40 : c = 40
    · subst e40
      rfl
    by_cases e42 : c = 42
    · subst e42
      rfl
    by_cases e43 : c = 43
    · subst e43
      rfl
    simp only [am_up_ne _ _ e39, am_up_ne _ _ e40, am_up_ne _ _ e42, am_up_ne _ _ e43]
  refine sw_ins (pc2 := 94) rfl rfl ?_
  refine sw_aload_n (i := 0) dX2_init_94 rfl rfl ?_
  refine sw_get (fs := [.ref 40, .ref 41, .ref 42, .ref 43, .ref 44, .int 0, .int 0, .int 0, .int 0, .int 0, .int 0, .int 0]) f_X2_21 (by decide) rfl (v := .ref 43) rfl dX2_init_95 ?_
  refine sw_iload_n (i := 1) dX2_init_98 rfl rfl ?_
  refine sw_iload_n (i := 1) dX2_init_99 rfl rfl ?_
  refine sw_ic 1 dX2_init_100 ?_
  refine sw_iadd dX2_init_101 ?_
  refine sw_topE (v := nI 6) (by decide) ?_
  refine sw_bi 8 dX2_init_102 (by decide +kernel) ?_
  refine sw_irem (by decide) dX2_init_104 ?_
  refine sw_topE (v := nI 6) (by decide) ?_
  refine sw_iast (5) (by decide) (f := (upd (upd (upd (upd (upd (fun _ => 0) 0 (nI 1)) 1 (nI 2)) 2 (nI 3)) 3 (nI 4)) 4 (nI 5))) (nn := 8) rfl rfl (by decide) (by decide) dX2_init_105 ?_
  refine sw_weq (aw2 := am_up (am_up (am_up (am_up (aw) 39 (am_O 1 [.ref 40, .ref 41, .ref 42, .ref 43, .ref 44, .int 0, .int 0, .int 0, .int 0, .int 0, .int 0, .int 0])) 40 (am_I .int 32 (upd (upd (upd (upd (upd (upd (fun _ => 0) 0 (nI 10)) 5 (nI 10)) 10 (nI 10)) 15 (nI 10)) 16 (nI 10)) 21 (nI 10)))) 42 (am_I .int 4 (upd (upd (upd (upd (fun _ => 0) 0 (nI 1)) 1 (nI 2)) 2 (nI 5)) 3 (nI 9)))) 43 (am_I .int 8 (upd (upd (upd (upd (upd (upd (fun _ => 0) 0 (nI 1)) 1 (nI 2)) 2 (nI 3)) 3 (nI 4)) 4 (nI 5)) 5 (nI 6)))) ?_ ?_
  ·
    funext c
    by_cases e39 : c = 39
    · subst e39
      rfl
    by_cases e40 : c = 40
    · subst e40
      rfl
    by_cases e42 : c = 42
    · subst e42
      rfl
    by_cases e43 : c = 43
    · subst e43
      rfl
    simp only [am_up_ne _ _ e39, am_up_ne _ _ e40, am_up_ne _ _ e42, am_up_ne _ _ e43]
  refine sw_iinc (i := 1) (v := nI 6) dX2_init_106 rfl (by decide) (Nat.le_of_ble_eq_true rfl) rfl ?_
  refine sw_lo (lo2 := [some (.ref 39), some (.int _)]) rfl ?_
  refine sw_goto (tgt := 74) dX2_init_109 rfl ?_
  refine sw_iload_n (i := 1) dX2_init_74 rfl rfl ?_
  refine sw_bi 8 dX2_init_75 (by decide +kernel) ?_
  refine sw_ic_ge (tgt := 112) dX2_init_77 rfl (fun h9 => absurd h9 (by decide)) (fun _ => ?_)
  refine sw_aload_n (i := 0) dX2_init_80 rfl rfl ?_
  refine sw_get (fs := [.ref 40, .ref 41, .ref 42, .ref 43, .ref 44, .int 0, .int 0, .int 0, .int 0, .int 0, .int 0, .int 0]) f_X2_9 (by decide) rfl (v := .ref 40) rfl dX2_init_81 ?_
  refine sw_ins (pc2 := 84) rfl rfl ?_
  refine sw_iload_n (i := 1) dX2_init_84 rfl rfl ?_
  refine sw_ic 4 dX2_init_85 ?_
  refine sw_imul dX2_init_86 ?_
  refine sw_topE (v := nI 24) (by decide) ?_
  refine sw_iload_n (i := 1) dX2_init_87 rfl rfl ?_
  refine sw_ic 4 dX2_init_88 ?_
  refine sw_irem (by decide) dX2_init_89 ?_
  refine sw_topE (v := nI 2) (by decide) ?_
  refine sw_iadd dX2_init_90 ?_
  refine sw_topE (v := nI 26) (by decide) ?_
  refine sw_bi 10 dX2_init_91 (by decide +kernel) ?_
  refine sw_iast (26) (by decide) (f := (upd (upd (upd (upd (upd (upd (fun _ => 0) 0 (nI 10)) 5 (nI 10)) 10 (nI 10)) 15 (nI 10)) 16 (nI 10)) 21 (nI 10))) (nn := 32) rfl rfl (by decide) (by decide) dX2_init_93 ?_
  refine sw_weq (aw2 := am_up (am_up (am_up (am_up (aw) 39 (am_O 1 [.ref 40, .ref 41, .ref 42, .ref 43, .ref 44, .int 0, .int 0, .int 0, .int 0, .int 0, .int 0, .int 0])) 40 (am_I .int 32 (upd (upd (upd (upd (upd (upd (upd (fun _ => 0) 0 (nI 10)) 5 (nI 10)) 10 (nI 10)) 15 (nI 10)) 16 (nI 10)) 21 (nI 10)) 26 (nI 10)))) 42 (am_I .int 4 (upd (upd (upd (upd (fun _ => 0) 0 (nI 1)) 1 (nI 2)) 2 (nI 5)) 3 (nI 9)))) 43 (am_I .int 8 (upd (upd (upd (upd (upd (upd (fun _ => 0) 0 (nI 1)) 1 (nI 2)) 2 (nI 3)) 3 (nI 4)) 4 (nI 5)) 5 (nI 6)))) ?_ ?_
  ·
    funext c
    by_cases e39 : c = 39
    · subst e39
      rfl
    by_cases e40 : c = 40
    · subst e40
      rfl
    by_cases e42 : c = 42
    · subst e42
      rfl
    by_cases e43 : c = 43
    · subst e43
      rfl
    simp only [am_up_ne _ _ e39, am_up_ne _ _ e40, am_up_ne _ _ e42, am_up_ne _ _ e43]
  refine sw_aload_n (i := 0) dX2_init_94 rfl rfl ?_
  refine sw_get (fs := [.ref 40, .ref 41, .ref 42, .ref 43, .ref 44, .int 0, .int 0, .int 0, .int 0, .int 0, .int 0, .int 0]) f_X2_21 (by decide) rfl (v := .ref 43) rfl dX2_init_95 ?_
  refine sw_iload_n (i := 1) dX2_init_98 rfl rfl ?_
  refine sw_iload_n (i := 1) dX2_init_99 rfl rfl ?_
  refine sw_ic 1 dX2_init_100 ?_
  refine sw_iadd dX2_init_101 ?_
  refine sw_topE (v := nI 7) (by decide) ?_
  refine sw_bi 8 dX2_init_102 (by decide +kernel) ?_
  refine sw_irem (by decide) dX2_init_104 ?_
  refine sw_topE (v := nI 7) (by decide) ?_
  refine sw_iast (6) (by decide) (f := (upd (upd (upd (upd (upd (upd (fun _ => 0) 0 (nI 1)) 1 (nI 2)) 2 (nI 3)) 3 (nI 4)) 4 (nI 5)) 5 (nI 6))) (nn := 8) rfl rfl (by decide) (by decide) dX2_init_105 ?_
  refine sw_weq (aw2 := am_up (am_up (am_up (am_up (aw) 39 (am_O 1 [.ref 40, .ref 41, .ref 42, .ref 43, .ref 44, .int 0, .int 0, .int 0, .int 0, .int 0, .int 0, .int 0])) 40 (am_I .int 32 (upd (upd (upd (upd (upd (upd (upd (fun _ => 0) 0 (nI 10)) 5 (nI 10)) 10 (nI 10)) 15 (nI 10)) 16 (nI 10)) 21 (nI 10)) 26 (nI 10)))) 42 (am_I .int 4 (upd (upd (upd (upd (fun _ => 0) 0 (nI 1)) 1 (nI 2)) 2 (nI 5)) 3 (nI 9)))) 43 (am_I .int 8 (upd (upd (upd (upd (upd (upd (upd (fun _ => 0) 0 (nI 1)) 1 (nI 2)) 2 (nI 3)) 3 (nI 4)) 4 (nI 5)) 5 (nI 6)) 6 (nI 7)))) ?_ ?_
  ·
    funext c
    by_cases e39 : c = 39
    · subst e39
      rfl
    by_cases e40 : c = 40
    · subst e40
      rfl
    by_cases e42 : c = 42
    · subst e42
      rfl
    by_cases e43 : c = 43
    · subst e43
      rfl
    simp only [am_up_ne _ _ e39, am_up_ne _ _ e40, am_up_ne _ _ e42, am_up_ne _ _ e43]
  refine sw_iinc (i := 1) (v := nI 7) dX2_init_106 rfl (by decide) (Nat.le_of_ble_eq_true rfl) rfl ?_
  refine sw_lo (lo2 := [some (.ref 39), some (.int _)]) rfl ?_
  refine sw_goto (tgt := 74) dX2_init_109 rfl ?_
  refine sw_iload_n (i := 1) dX2_init_74 rfl rfl ?_
  refine sw_bi 8 dX2_init_75 (by decide +kernel) ?_
  refine sw_ic_ge (tgt := 112) dX2_init_77 rfl (fun h9 => absurd h9 (by decide)) (fun _ => ?_)
  refine sw_aload_n (i := 0) dX2_init_80 rfl rfl ?_
  refine sw_get (fs := [.ref 40, .ref 41, .ref 42, .ref 43, .ref 44, .int 0, .int 0, .int 0, .int 0, .int 0, .int 0, .int 0]) f_X2_9 (by decide) rfl (v := .ref 40) rfl dX2_init_81 ?_
  refine sw_iload_n (i := 1) dX2_init_84 rfl rfl ?_
  refine sw_ic 4 dX2_init_85 ?_
  refine sw_imul dX2_init_86 ?_
  refine sw_topE (v := nI 28) (by decide) ?_
  refine sw_iload_n (i := 1) dX2_init_87 rfl rfl ?_
  refine sw_ic 4 dX2_init_88 ?_
  refine sw_irem (by decide) dX2_init_89 ?_
  refine sw_topE (v := nI 3) (by decide) ?_
  refine sw_iadd dX2_init_90 ?_
  refine sw_topE (v := nI 31) (by decide) ?_
  refine sw_ins (pc2 := 91) rfl rfl ?_
  refine sw_bi 10 dX2_init_91 (by decide +kernel) ?_
  refine sw_iast (31) (by decide) (f := (upd (upd (upd (upd (upd (upd (upd (fun _ => 0) 0 (nI 10)) 5 (nI 10)) 10 (nI 10)) 15 (nI 10)) 16 (nI 10)) 21 (nI 10)) 26 (nI 10))) (nn := 32) rfl rfl (by decide) (by decide) dX2_init_93 ?_
  refine sw_weq (aw2 := am_up (am_up (am_up (am_up (aw) 39 (am_O 1 [.ref 40, .ref 41, .ref 42, .ref 43, .ref 44, .int 0, .int 0, .int 0, .int 0, .int 0, .int 0, .int 0])) 40 (am_I .int 32 (upd (upd (upd (upd (upd (upd (upd (upd (fun _ => 0) 0 (nI 10)) 5 (nI 10)) 10 (nI 10)) 15 (nI 10)) 16 (nI 10)) 21 (nI 10)) 26 (nI 10)) 31 (nI 10)))) 42 (am_I .int 4 (upd (upd (upd (upd (fun _ => 0) 0 (nI 1)) 1 (nI 2)) 2 (nI 5)) 3 (nI 9)))) 43 (am_I .int 8 (upd (upd (upd (upd (upd (upd (upd (fun _ => 0) 0 (nI 1)) 1 (nI 2)) 2 (nI 3)) 3 (nI 4)) 4 (nI 5)) 5 (nI 6)) 6 (nI 7)))) ?_ ?_
  ·
    funext c
    by_cases e39 : c = 39
    · subst e39
      rfl
    by_cases e40 : c = 40
    · subst e40
      rfl
    by_cases e42 : c = 42
    · subst e42
      rfl
    by_cases e43 : c = 43
    · subst e43
      rfl
    simp only [am_up_ne _ _ e39, am_up_ne _ _ e40, am_up_ne _ _ e42, am_up_ne _ _ e43]
  refine sw_aload_n (i := 0) dX2_init_94 rfl rfl ?_
  refine sw_get (fs := [.ref 40, .ref 41, .ref 42, .ref 43, .ref 44, .int 0, .int 0, .int 0, .int 0, .int 0, .int 0, .int 0]) f_X2_21 (by decide) rfl (v := .ref 43) rfl dX2_init_95 ?_
  refine sw_iload_n (i := 1) dX2_init_98 rfl rfl ?_
  refine sw_iload_n (i := 1) dX2_init_99 rfl rfl ?_
  refine sw_ic 1 dX2_init_100 ?_
  refine sw_iadd dX2_init_101 ?_
  refine sw_topE (v := nI 8) (by decide) ?_
  refine sw_ins (pc2 := 102) rfl rfl ?_
  refine sw_bi 8 dX2_init_102 (by decide +kernel) ?_
  refine sw_irem (by decide) dX2_init_104 ?_
  refine sw_topE (v := nI 0) (by decide) ?_
  refine sw_iast (7) (by decide) (f := (upd (upd (upd (upd (upd (upd (upd (fun _ => 0) 0 (nI 1)) 1 (nI 2)) 2 (nI 3)) 3 (nI 4)) 4 (nI 5)) 5 (nI 6)) 6 (nI 7))) (nn := 8) rfl rfl (by decide) (by decide) dX2_init_105 ?_
  refine sw_weq (aw2 := am_up (am_up (am_up (am_up (aw) 39 (am_O 1 [.ref 40, .ref 41, .ref 42, .ref 43, .ref 44, .int 0, .int 0, .int 0, .int 0, .int 0, .int 0, .int 0])) 40 (am_I .int 32 (upd (upd (upd (upd (upd (upd (upd (upd (fun _ => 0) 0 (nI 10)) 5 (nI 10)) 10 (nI 10)) 15 (nI 10)) 16 (nI 10)) 21 (nI 10)) 26 (nI 10)) 31 (nI 10)))) 42 (am_I .int 4 (upd (upd (upd (upd (fun _ => 0) 0 (nI 1)) 1 (nI 2)) 2 (nI 5)) 3 (nI 9)))) 43 (am_I .int 8 (upd (upd (upd (upd (upd (upd (upd (upd (fun _ => 0) 0 (nI 1)) 1 (nI 2)) 2 (nI 3)) 3 (nI 4)) 4 (nI 5)) 5 (nI 6)) 6 (nI 7)) 7 (nI 0)))) ?_ ?_
  ·
    funext c
    by_cases e39 : c = 39
    · subst e39
      rfl
    by_cases e40 : c = 40
    · subst e40
      rfl
    by_cases e42 : c = 42
    · subst e42
      rfl
    by_cases e43 : c = 43
    · subst e43
      rfl
    simp only [am_up_ne _ _ e39, am_up_ne _ _ e40, am_up_ne _ _ e42, am_up_ne _ _ e43]
  refine sw_iinc (i := 1) (v := nI 8) dX2_init_106 rfl (by decide) (Nat.le_of_ble_eq_true rfl) rfl ?_
  refine sw_lo (lo2 := [some (.ref 39), some (.int _)]) rfl ?_
  refine sw_goto (tgt := 74) dX2_init_109 rfl ?_
  refine sw_iload_n (i := 1) dX2_init_74 rfl rfl ?_
  refine sw_bi 8 dX2_init_75 (by decide +kernel) ?_
  refine sw_ic_ge (tgt := 112) dX2_init_77 rfl (fun _ => ?_) (fun h9 => absurd (by decide) h9)
  refine sw_weq (aw2 := aw) ?_ ?_
  ·
    funext c
    by_cases e39 : c = 39
    · subst e39
      exact (hz 39 (by decide) (by decide)).symm
    by_cases e40 : c = 40
    · subst e40
      exact (hz 40 (by decide) (by decide)).symm
    by_cases e42 : c = 42
    · subst e42
      exact (hz 42 (by decide) (by decide)).symm
    by_cases e43 : c = 43
    · subst e43
      exact (hz 43 (by decide) (by decide)).symm
    simp only [am_up_ne _ _ e39, am_up_ne _ _ e40, am_up_ne _ _ e42, am_up_ne _ _ e43]
  exact sw_return rfl dX2_init_112
set_option maxRecDepth 100000 in
set_option maxHeartbeats 4000000 in
theorem I_53 {aw : Nat → am_E} (hz : ∀ c, 53 ≤ c → c < 59 → aw c = z0 c) : am_AM kX2_init yX2_init 1 [.ref 53] 54 (am_up aw 53 (am_O 1 fs0_X2)) none 59 (aw) 5 108 := by
  refine am_of pl_X2_init (Nat.le_of_ble_eq_true rfl) ?_
  refine sw_aload_n (i := 0) dX2_init_0 rfl rfl ?_
  refine sw_oinit oi_X2_3 (by decide) (Nat.le_of_ble_eq_true rfl) dX2_init_1 ?_
  refine sw_aload_n (i := 0) dX2_init_4 rfl rfl ?_
  refine sw_bi 32 dX2_init_5 (by decide +kernel) ?_
  refine sw_newI (k2 := 4) (n2 := 76) ac_i rfl (fun _ => rfl) (nn := 32) rfl (by decide) (by decide) (by decide) (by decide) (by decide) dX2_init_7 ?_
  refine sw_putR rfl fp_X2_9 (fun _ => ⟨rfl, rfl⟩) (by decide) (fs := fs0_X2) rfl (by decide) dX2_init_9 ?_
  refine sw_weq (aw2 := am_up (am_up (aw) 53 (am_O 1 [.ref 54, .null, .null, .null, .null, .int 0, .int 0, .int 0, .int 0, .int 0, .int 0, .int 0])) 54 (am_I .int 32 (fun _ => 0))) ?_ ?_
  ·
    funext c
    by_cases e53 : c = 53
    · subst e53
      rfl
    by_cases e54 : c = 54
    · subst e54
      rfl
    simp only [am_up_ne _ _ e53, am_up_ne _ _ e54]
  refine sw_aload_n (i := 0) dX2_init_12 rfl rfl ?_
  refine sw_ins (pc2 := 13) rfl rfl ?_
  refine sw_bi 32 dX2_init_13 (by decide +kernel) ?_
  refine sw_newI (k2 := 3) (n2 := 44) ac_i rfl (fun _ => rfl) (nn := 32) rfl (by decide) (by decide) (by decide) (by decide) (by decide) dX2_init_15 ?_
  refine sw_weq (aw2 := am_up (am_up (aw) 53 (am_O 1 [.ref 54, .null, .null, .null, .null, .int 0, .int 0, .int 0, .int 0, .int 0, .int 0, .int 0])) 54 (am_I .int 32 (fun _ => 0))) ?_ ?_
  ·
    funext c
    by_cases e53 : c = 53
    · subst e53
      rfl
    by_cases e54 : c = 54
    · subst e54
      rfl
    by_cases e55 : c = 55
    · subst e55
      exact (hz 55 (by decide) (by decide)).symm
    simp only [am_up_ne _ _ e53, am_up_ne _ _ e54, am_up_ne _ _ e55]
  refine sw_putR rfl fp_X2_15 (fun _ => ⟨rfl, rfl⟩) (by decide) (fs := [.ref 54, .null, .null, .null, .null, .int 0, .int 0, .int 0, .int 0, .int 0, .int 0, .int 0]) rfl (by decide) dX2_init_17 ?_
  refine sw_weq (aw2 := am_up (am_up (aw) 53 (am_O 1 [.ref 54, .ref 55, .null, .null, .null, .int 0, .int 0, .int 0, .int 0, .int 0, .int 0, .int 0])) 54 (am_I .int 32 (fun _ => 0))) ?_ ?_
  ·
    funext c
    by_cases e53 : c = 53
    · subst e53
      rfl
    by_cases e54 : c = 54
    · subst e54
      rfl
    simp only [am_up_ne _ _ e53, am_up_ne _ _ e54]
  refine sw_aload_n (i := 0) dX2_init_20 rfl rfl ?_
  refine sw_ic 4 dX2_init_21 ?_
  refine sw_newI (k2 := 2) (n2 := 40) ac_i rfl (fun _ => rfl) (nn := 4) rfl (by decide) (by decide) (by decide) (by decide) (by decide) dX2_init_22 ?_
  refine sw_putR rfl fp_X2_18 (fun _ => ⟨rfl, rfl⟩) (by decide) (fs := [.ref 54, .ref 55, .null, .null, .null, .int 0, .int 0, .int 0, .int 0, .int 0, .int 0, .int 0]) rfl (by decide) dX2_init_24 ?_
  refine sw_weq (aw2 := am_up (am_up (am_up (aw) 53 (am_O 1 [.ref 54, .ref 55, .ref 56, .null, .null, .int 0, .int 0, .int 0, .int 0, .int 0, .int 0, .int 0])) 54 (am_I .int 32 (fun _ => 0))) 56 (am_I .int 4 (fun _ => 0))) ?_ ?_
  ·
    funext c
    by_cases e53 : c = 53
    · subst e53
      rfl
    by_cases e54 : c = 54
    · subst e54
      rfl
    by_cases e56 : c = 56
    · subst e56
      rfl
    simp only [am_up_ne _ _ e53, am_up_ne _ _ e54, am_up_ne _ _ e56]
  refine sw_aload_n (i := 0) dX2_init_27 rfl rfl ?_
  refine sw_ins (pc2 := 28) rfl rfl ?_
  refine sw_bi 8 dX2_init_28 (by decide +kernel) ?_
  refine sw_newI (k2 := 1) (n2 := 32) ac_i rfl (fun _ => rfl) (nn := 8) rfl (by decide) (by decide) (by decide) (by decide) (by decide) dX2_init_30 ?_
  refine sw_putR rfl fp_X2_21 (fun _ => ⟨rfl, rfl⟩) (by decide) (fs := [.ref 54, .ref 55, .ref 56, .null, .null, .int 0, .int 0, .int 0, .int 0, .int 0, .int 0, .int 0]) rfl (by decide) dX2_init_32 ?_
  refine sw_weq (aw2 := am_up (am_up (am_up (am_up (aw) 53 (am_O 1 [.ref 54, .ref 55, .ref 56, .ref 57, .null, .int 0, .int 0, .int 0, .int 0, .int 0, .int 0, .int 0])) 54 (am_I .int 32 (fun _ => 0))) 56 (am_I .int 4 (fun _ => 0))) 57 (am_I .int 8 (fun _ => 0))) ?_ ?_
  ·
    funext c
    by_cases e53 : c = 53
    · subst e53
      rfl
    by_cases e54 : c = 54
    · subst e54
      rfl
    by_cases e56 : c = 56
    · subst e56
      rfl
    by_cases e57 : c = 57
    · subst e57
      rfl
    simp only [am_up_ne _ _ e53, am_up_ne _ _ e54, am_up_ne _ _ e56, am_up_ne _ _ e57]
  refine sw_aload_n (i := 0) dX2_init_35 rfl rfl ?_
  refine sw_bi 32 dX2_init_36 (by decide +kernel) ?_
  refine sw_newI (k2 := 0) (n2 := 0) ac_i rfl (fun _ => rfl) (nn := 32) rfl (by decide) (by decide) (by decide) (by decide) (by decide) dX2_init_38 ?_
  refine sw_weq (aw2 := am_up (am_up (am_up (am_up (aw) 53 (am_O 1 [.ref 54, .ref 55, .ref 56, .ref 57, .null, .int 0, .int 0, .int 0, .int 0, .int 0, .int 0, .int 0])) 54 (am_I .int 32 (fun _ => 0))) 56 (am_I .int 4 (fun _ => 0))) 57 (am_I .int 8 (fun _ => 0))) ?_ ?_
  ·
    funext c
    by_cases e53 : c = 53
    · subst e53
      rfl
    by_cases e54 : c = 54
    · subst e54
      rfl
    by_cases e56 : c = 56
    · subst e56
      rfl
    by_cases e57 : c = 57
    · subst e57
      rfl
    by_cases e58 : c = 58
    · subst e58
      exact (hz 58 (by decide) (by decide)).symm
    simp only [am_up_ne _ _ e53, am_up_ne _ _ e54, am_up_ne _ _ e56, am_up_ne _ _ e57, am_up_ne _ _ e58]
  refine sw_putR rfl fp_X2_24 (fun _ => ⟨rfl, rfl⟩) (by decide) (fs := [.ref 54, .ref 55, .ref 56, .ref 57, .null, .int 0, .int 0, .int 0, .int 0, .int 0, .int 0, .int 0]) rfl (by decide) dX2_init_40 ?_
  refine sw_weq (aw2 := am_up (am_up (am_up (am_up (aw) 53 (am_O 1 [.ref 54, .ref 55, .ref 56, .ref 57, .ref 58, .int 0, .int 0, .int 0, .int 0, .int 0, .int 0, .int 0])) 54 (am_I .int 32 (fun _ => 0))) 56 (am_I .int 4 (fun _ => 0))) 57 (am_I .int 8 (fun _ => 0))) ?_ ?_
  ·
    funext c
    by_cases e53 : c = 53
    · subst e53
      rfl
    by_cases e54 : c = 54
    · subst e54
      rfl
    by_cases e56 : c = 56
    · subst e56
      rfl
    by_cases e57 : c = 57
    · subst e57
      rfl
    simp only [am_up_ne _ _ e53, am_up_ne _ _ e54, am_up_ne _ _ e56, am_up_ne _ _ e57]
  refine sw_aload_n (i := 0) dX2_init_43 rfl rfl ?_
  refine sw_get (fs := [.ref 54, .ref 55, .ref 56, .ref 57, .ref 58, .int 0, .int 0, .int 0, .int 0, .int 0, .int 0, .int 0]) f_X2_18 (by decide) rfl (v := .ref 56) rfl dX2_init_44 ?_
  refine sw_ic 0 dX2_init_47 ?_
  refine sw_ic 1 dX2_init_48 ?_
  refine sw_iast (0) (by decide) (f := (fun _ => 0)) (nn := 4) rfl rfl (by decide) (by decide) dX2_init_49 ?_
  refine sw_weq (aw2 := am_up (am_up (am_up (am_up (aw) 53 (am_O 1 [.ref 54, .ref 55, .ref 56, .ref 57, .ref 58, .int 0, .int 0, .int 0, .int 0, .int 0, .int 0, .int 0])) 54 (am_I .int 32 (fun _ => 0))) 56 (am_I .int 4 (upd (fun _ => 0) 0 (nI 1)))) 57 (am_I .int 8 (fun _ => 0))) ?_ ?_
  ·
    funext c
    by_cases e53 : c = 53
    · subst e53
      rfl
    by_cases e54 : c = 54
    · subst e54
      rfl
    by_cases e56 : c = 56
    · subst e56
      rfl
    by_cases e57 : c = 57
    · subst e57
      rfl
    simp only [am_up_ne _ _ e53, am_up_ne _ _ e54, am_up_ne _ _ e56, am_up_ne _ _ e57]
  refine sw_aload_n (i := 0) dX2_init_50 rfl rfl ?_
  refine sw_get (fs := [.ref 54, .ref 55, .ref 56, .ref 57, .ref 58, .int 0, .int 0, .int 0, .int 0, .int 0, .int 0, .int 0]) f_X2_18 (by decide) rfl (v := .ref 56) rfl dX2_init_51 ?_
  refine sw_ic 1 dX2_init_54 ?_
  refine sw_ic 2 dX2_init_55 ?_
  refine sw_iast (1) (by decide) (f := (upd (fun _ => 0) 0 (nI 1))) (nn := 4) rfl rfl (by decide) (by decide) dX2_init_56 ?_
  refine sw_weq (aw2 := am_up (am_up (am_up (am_up (aw) 53 (am_O 1 [.ref 54, .ref 55, .ref 56, .ref 57, .ref 58, .int 0, .int 0, .int 0, .int 0, .int 0, .int 0, .int 0])) 54 (am_I .int 32 (fun _ => 0))) 56 (am_I .int 4 (upd (upd (fun _ => 0) 0 (nI 1)) 1 (nI 2)))) 57 (am_I .int 8 (fun _ => 0))) ?_ ?_
  ·
    funext c
    by_cases e53 : c = 53
    · subst e53
      rfl
    by_cases e54 : c = 54
    · subst e54
      rfl
    by_cases e56 : c = 56
    · subst e56
      rfl
    by_cases e57 : c = 57
    · subst e57
      rfl
    simp only [am_up_ne _ _ e53, am_up_ne _ _ e54, am_up_ne _ _ e56, am_up_ne _ _ e57]
  refine sw_aload_n (i := 0) dX2_init_57 rfl rfl ?_
  refine sw_get (fs := [.ref 54, .ref 55, .ref 56, .ref 57, .ref 58, .int 0, .int 0, .int 0, .int 0, .int 0, .int 0, .int 0]) f_X2_18 (by decide) rfl (v := .ref 56) rfl dX2_init_58 ?_
  refine sw_ic 2 dX2_init_61 ?_
  refine sw_ic 5 dX2_init_62 ?_
  refine sw_iast (2) (by decide) (f := (upd (upd (fun _ => 0) 0 (nI 1)) 1 (nI 2))) (nn := 4) rfl rfl (by decide) (by decide) dX2_init_63 ?_
  refine sw_weq (aw2 := am_up (am_up (am_up (am_up (aw) 53 (am_O 1 [.ref 54, .ref 55, .ref 56, .ref 57, .ref 58, .int 0, .int 0, .int 0, .int 0, .int 0, .int 0, .int 0])) 54 (am_I .int 32 (fun _ => 0))) 56 (am_I .int 4 (upd (upd (upd (fun _ => 0) 0 (nI 1)) 1 (nI 2)) 2 (nI 5)))) 57 (am_I .int 8 (fun _ => 0))) ?_ ?_
  ·
    funext c
    by_cases e53 : c = 53
    · subst e53
      rfl
    by_cases e54 : c = 54
    · subst e54
      rfl
    by_cases e56 : c = 56
    · subst e56
      rfl
    by_cases e57 : c = 57
    · subst e57
      rfl
    simp only [am_up_ne _ _ e53, am_up_ne _ _ e54, am_up_ne _ _ e56, am_up_ne _ _ e57]
  refine sw_aload_n (i := 0) dX2_init_64 rfl rfl ?_
  refine sw_get (fs := [.ref 54, .ref 55, .ref 56, .ref 57, .ref 58, .int 0, .int 0, .int 0, .int 0, .int 0, .int 0, .int 0]) f_X2_18 (by decide) rfl (v := .ref 56) rfl dX2_init_65 ?_
  refine sw_ins (pc2 := 68) rfl rfl ?_
  refine sw_ic 3 dX2_init_68 ?_
  refine sw_bi 9 dX2_init_69 (by decide +kernel) ?_
  refine sw_iast (3) (by decide) (f := (upd (upd (upd (fun _ => 0) 0 (nI 1)) 1 (nI 2)) 2 (nI 5))) (nn := 4) rfl rfl (by decide) (by decide) dX2_init_71 ?_
  refine sw_weq (aw2 := am_up (am_up (am_up (am_up (aw) 53 (am_O 1 [.ref 54, .ref 55, .ref 56, .ref 57, .ref 58, .int 0, .int 0, .int 0, .int 0, .int 0, .int 0, .int 0])) 54 (am_I .int 32 (fun _ => 0))) 56 (am_I .int 4 (upd (upd (upd (upd (fun _ => 0) 0 (nI 1)) 1 (nI 2)) 2 (nI 5)) 3 (nI 9)))) 57 (am_I .int 8 (fun _ => 0))) ?_ ?_
  ·
    funext c
    by_cases e53 : c = 53
    · subst e53
      rfl
    by_cases e54 : c = 54
    · subst e54
      rfl
    by_cases e56 : c = 56
    · subst e56
      rfl
    by_cases e57 : c = 57
    · subst e57
      rfl
    simp only [am_up_ne _ _ e53, am_up_ne _ _ e54, am_up_ne _ _ e56, am_up_ne _ _ e57]
  refine sw_ic 0 dX2_init_72 ?_
  refine sw_istore_n (i := 1) dX2_init_73 rfl (Nat.le_of_ble_eq_true rfl) rfl ?_
  refine sw_lo (lo2 := [some (.ref 53), some (.int _)]) rfl ?_
  refine sw_iload_n (i := 1) dX2_init_74 rfl rfl ?_
  refine sw_bi 8 dX2_init_75 (by decide +kernel) ?_
  refine sw_ic_ge (tgt := 112) dX2_init_77 rfl (fun h9 => absurd h9 (by decide)) (fun _ => ?_)
  refine sw_ins (pc2 := 80) rfl rfl ?_
  refine sw_aload_n (i := 0) dX2_init_80 rfl rfl ?_
  refine sw_get (fs := [.ref 54, .ref 55, .ref 56, .ref 57, .ref 58, .int 0, .int 0, .int 0, .int 0, .int 0, .int 0, .int 0]) f_X2_9 (by decide) rfl (v := .ref 54) rfl dX2_init_81 ?_
  refine sw_iload_n (i := 1) dX2_init_84 rfl rfl ?_
  refine sw_ic 4 dX2_init_85 ?_
  refine sw_imul dX2_init_86 ?_
  refine sw_topE (v := nI 0) (by decide) ?_
  refine sw_iload_n (i := 1) dX2_init_87 rfl rfl ?_
  refine sw_ic 4 dX2_init_88 ?_
  refine sw_irem (by decide) dX2_init_89 ?_
  refine sw_topE (v := nI 0) (by decide) ?_
  refine sw_ins (pc2 := 90) rfl rfl ?_
  refine sw_iadd dX2_init_90 ?_
  refine sw_topE (v := nI 0) (by decide) ?_
  refine sw_bi 10 dX2_init_91 (by decide +kernel) ?_
  refine sw_iast (0) (by decide) (f := (fun _ => 0)) (nn := 32) rfl rfl (by decide) (by decide) dX2_init_93 ?_
  refine sw_weq (aw2 := am_up (am_up (am_up (am_up (aw) 53 (am_O 1 [.ref 54, .ref 55, .ref 56, .ref 57, .ref 58, .int 0, .int 0, .int 0, .int 0, .int 0, .int 0, .int 0])) 54 (am_I .int 32 (upd (fun _ => 0) 0 (nI 10)))) 56 (am_I .int 4 (upd (upd (upd (upd (fun _ => 0) 0 (nI 1)) 1 (nI 2)) 2 (nI 5)) 3 (nI 9)))) 57 (am_I .int 8 (fun _ => 0))) ?_ ?_
  ·
    funext c
    by_cases e53 : c = 53
    · subst e53
      rfl
    by_cases e54 : c = 54
    · subst e54
      rfl
    by_cases e56 : c = 56
    · subst e56
      rfl
    by_cases e57 : c = 57
    · subst e57
      rfl
    simp only [am_up_ne _ _ e53, am_up_ne _ _ e54, am_up_ne _ _ e56, am_up_ne _ _ e57]
  refine sw_aload_n (i := 0) dX2_init_94 rfl rfl ?_
  refine sw_get (fs := [.ref 54, .ref 55, .ref 56, .ref 57, .ref 58, .int 0, .int 0, .int 0, .int 0, .int 0, .int 0, .int 0]) f_X2_21 (by decide) rfl (v := .ref 57) rfl dX2_init_95 ?_
  refine sw_iload_n (i := 1) dX2_init_98 rfl rfl ?_
  refine sw_iload_n (i := 1) dX2_init_99 rfl rfl ?_
  refine sw_ic 1 dX2_init_100 ?_
  refine sw_ins (pc2 := 101) rfl rfl ?_
  refine sw_iadd dX2_init_101 ?_
  refine sw_topE (v := nI 1) (by decide) ?_
  refine sw_bi 8 dX2_init_102 (by decide +kernel) ?_
  refine sw_irem (by decide) dX2_init_104 ?_
  refine sw_topE (v := nI 1) (by decide) ?_
  refine sw_iast (0) (by decide) (f := (fun _ => 0)) (nn := 8) rfl rfl (by decide) (by decide) dX2_init_105 ?_
  refine sw_weq (aw2 := am_up (am_up (am_up (am_up (aw) 53 (am_O 1 [.ref 54, .ref 55, .ref 56, .ref 57, .ref 58, .int 0, .int 0, .int 0, .int 0, .int 0, .int 0, .int 0])) 54 (am_I .int 32 (upd (fun _ => 0) 0 (nI 10)))) 56 (am_I .int 4 (upd (upd (upd (upd (fun _ => 0) 0 (nI 1)) 1 (nI 2)) 2 (nI 5)) 3 (nI 9)))) 57 (am_I .int 8 (upd (fun _ => 0) 0 (nI 1)))) ?_ ?_
  ·
    funext c
    by_cases e53 : c = 53
    · subst e53
      rfl
    by_cases e54 : c = 54
    · subst e54
      rfl
    by_cases e56 : c = 56
    · subst e56
      rfl
    by_cases e57 : c = 57
    · subst e57
      rfl
    simp only [am_up_ne _ _ e53, am_up_ne _ _ e54, am_up_ne _ _ e56, am_up_ne _ _ e57]
  refine sw_iinc (i := 1) (v := nI 1) dX2_init_106 rfl (by decide) (Nat.le_of_ble_eq_true rfl) rfl ?_
  refine sw_lo (lo2 := [some (.ref 53), some (.int _)]) rfl ?_
  refine sw_goto (tgt := 74) dX2_init_109 rfl ?_
  refine sw_iload_n (i := 1) dX2_init_74 rfl rfl ?_
  refine sw_bi 8 dX2_init_75 (by decide +kernel) ?_
  refine sw_ins (pc2 := 77) rfl rfl ?_
  refine sw_ic_ge (tgt := 112) dX2_init_77 rfl (fun h9 => absurd h9 (by decide)) (fun _ => ?_)
  refine sw_aload_n (i := 0) dX2_init_80 rfl rfl ?_
  refine sw_get (fs := [.ref 54, .ref 55, .ref 56, .ref 57, .ref 58, .int 0, .int 0, .int 0, .int 0, .int 0, .int 0, .int 0]) f_X2_9 (by decide) rfl (v := .ref 54) rfl dX2_init_81 ?_
  refine sw_iload_n (i := 1) dX2_init_84 rfl rfl ?_
  refine sw_ic 4 dX2_init_85 ?_
  refine sw_imul dX2_init_86 ?_
  refine sw_topE (v := nI 4) (by decide) ?_
  refine sw_iload_n (i := 1) dX2_init_87 rfl rfl ?_
  refine sw_ic 4 dX2_init_88 ?_
  refine sw_irem (by decide) dX2_init_89 ?_
  refine sw_topE (v := nI 1) (by decide) ?_
  refine sw_iadd dX2_init_90 ?_
  refine sw_topE (v := nI 5) (by decide) ?_
  refine sw_bi 10 dX2_init_91 (by decide +kernel) ?_
  refine sw_iast (5) (by decide) (f := (upd (fun _ => 0) 0 (nI 10))) (nn := 32) rfl rfl (by decide) (by decide) dX2_init_93 ?_
  refine sw_weq (aw2 := am_up (am_up (am_up (am_up (aw) 53 (am_O 1 [.ref 54, .ref 55, .ref 56, .ref 57, .ref 58, .int 0, .int 0, .int 0, .int 0, .int 0, .int 0, .int 0])) 54 (am_I .int 32 (upd (upd (fun _ => 0) 0 (nI 10)) 5 (nI 10)))) 56 (am_I .int 4 (upd (upd (upd (upd (fun _ => 0) 0 (nI 1)) 1 (nI 2)) 2 (nI 5)) 3 (nI 9)))) 57 (am_I .int 8 (upd (fun _ => 0) 0 (nI 1)))) ?_ ?_
  ·
    funext c
    by_cases e53 : c = 53
    · subst e53
      rfl
    by_cases e54 : c = 54
    · subst e54
      rfl
    by_cases e56 : c = 56
    · subst e56
      rfl
    by_cases e57 : c = 57
    · subst e57
      rfl
    simp only [am_up_ne _ _ e53, am_up_ne _ _ e54, am_up_ne _ _ e56, am_up_ne _ _ e57]
  refine sw_aload_n (i := 0) dX2_init_94 rfl rfl ?_
  refine sw_get (fs := [.ref 54, .ref 55, .ref 56, .ref 57, .ref 58, .int 0, .int 0, .int 0, .int 0, .int 0, .int 0, .int 0]) f_X2_21 (by decide) rfl (v := .ref 57) rfl dX2_init_95 ?_
  refine sw_iload_n (i := 1) dX2_init_98 rfl rfl ?_
  refine sw_iload_n (i := 1) dX2_init_99 rfl rfl ?_
  refine sw_ins (pc2 := 100) rfl rfl ?_
  refine sw_ic 1 dX2_init_100 ?_
  refine sw_iadd dX2_init_101 ?_
  refine sw_topE (v := nI 2) (by decide) ?_
  refine sw_bi 8 dX2_init_102 (by decide +kernel) ?_
  refine sw_irem (by decide) dX2_init_104 ?_
  refine sw_topE (v := nI 2) (by decide) ?_
  refine sw_iast (1) (by decide) (f := (upd (fun _ => 0) 0 (nI 1))) (nn := 8) rfl rfl (by decide) (by decide) dX2_init_105 ?_
  refine sw_weq (aw2 := am_up (am_up (am_up (am_up (aw) 53 (am_O 1 [.ref 54, .ref 55, .ref 56, .ref 57, .ref 58, .int 0, .int 0, .int 0, .int 0, .int 0, .int 0, .int 0])) 54 (am_I .int 32 (upd (upd (fun _ => 0) 0 (nI 10)) 5 (nI 10)))) 56 (am_I .int 4 (upd (upd (upd (upd (fun _ => 0) 0 (nI 1)) 1 (nI 2)) 2 (nI 5)) 3 (nI 9)))) 57 (am_I .int 8 (upd (upd (fun _ => 0) 0 (nI 1)) 1 (nI 2)))) ?_ ?_
  ·
    funext c
    by_cases e53 : c = 53
    · subst e53
      rfl
    by_cases e54 : c = 54
    · subst e54
      rfl
    by_cases e56 : c = 56
    · subst e56
      rfl
    by_cases e57 : c = 57
    · subst e57
      rfl
    simp only [am_up_ne _ _ e53, am_up_ne _ _ e54, am_up_ne _ _ e56, am_up_ne _ _ e57]
  refine sw_iinc (i := 1) (v := nI 2) dX2_init_106 rfl (by decide) (Nat.le_of_ble_eq_true rfl) rfl ?_
  refine sw_lo (lo2 := [some (.ref 53), some (.int _)]) rfl ?_
  refine sw_goto (tgt := 74) dX2_init_109 rfl ?_
  refine sw_iload_n (i := 1) dX2_init_74 rfl rfl ?_
  refine sw_ins (pc2 := 75) rfl rfl ?_
  refine sw_bi 8 dX2_init_75 (by decide +kernel) ?_
  refine sw_ic_ge (tgt := 112) dX2_init_77 rfl (fun h9 => absurd h9 (by decide)) (fun _ => ?_)
  refine sw_aload_n (i := 0) dX2_init_80 rfl rfl ?_
  refine sw_get (fs := [.ref 54, .ref 55, .ref 56, .ref 57, .ref 58, .int 0, .int 0, .int 0, .int 0, .int 0, .int 0, .int 0]) f_X2_9 (by decide) rfl (v := .ref 54) rfl dX2_init_81 ?_
  refine sw_iload_n (i := 1) dX2_init_84 rfl rfl ?_
  refine sw_ic 4 dX2_init_85 ?_
  refine sw_imul dX2_init_86 ?_
  refine sw_topE (v := nI 8) (by decide) ?_
  refine sw_iload_n (i := 1) dX2_init_87 rfl rfl ?_
  refine sw_ins (pc2 := 88) rfl rfl ?_
  refine sw_ic 4 dX2_init_88 ?_
  refine sw_irem (by decide) dX2_init_89 ?_
  refine sw_topE (v := nI 2) (by decide) ?_
  refine sw_iadd dX2_init_90 ?_
  refine sw_topE (v := nI 10) (by decide) ?_
  refine sw_bi 10 dX2_init_91 (by decide +kernel) ?_
  refine sw_iast (10) (by decide) (f := (upd (upd (fun _ => 0) 0 (nI 10)) 5 (nI 10))) (nn := 32) rfl rfl (by decide) (by decide) dX2_init_93 ?_
  refine sw_weq (aw2 := am_up (am_up (am_up (am_up (aw) 53 (am_O 1 [.ref 54, .ref 55, .ref 56, .ref 57, .ref 58, .int 0, .int 0, .int 0, .int 0, .int 0, .int 0, .int 0])) 54 (am_I .int 32 (upd (upd (upd (fun _ => 0) 0 (nI 10)) 5 (nI 10)) 10 (nI 10)))) 56 (am_I .int 4 (upd (upd (upd (upd (fun _ => 0) 0 (nI 1)) 1 (nI 2)) 2 (nI 5)) 3 (nI 9)))) 57 (am_I .int 8 (upd (upd (fun _ => 0) 0 (nI 1)) 1 (nI 2)))) ?_ ?_
  ·
    funext c
    by_cases e53 : c = 53
    · subst e53
      rfl
    by_cases e54 : c = 54
    · subst e54
      rfl
    by_cases e56 : c = 56
    · subst e56
      rfl
    by_cases e57 : c = 57
    · subst e57
      rfl
    simp only [am_up_ne _ _ e53, am_up_ne _ _ e54, am_up_ne _ _ e56, am_up_ne _ _ e57]
  refine sw_aload_n (i := 0) dX2_init_94 rfl rfl ?_
  refine sw_get (fs := [.ref 54, .ref 55, .ref 56, .ref 57, .ref 58, .int 0, .int 0, .int 0, .int 0, .int 0, .int 0, .int 0]) f_X2_21 (by decide) rfl (v := .ref 57) rfl dX2_init_95 ?_
  refine sw_iload_n (i := 1) dX2_init_98 rfl rfl ?_
  refine sw_ins (pc2 := 99) rfl rfl ?_
  refine sw_iload_n (i := 1) dX2_init_99 rfl rfl ?_
  refine sw_ic 1 dX2_init_100 ?_
  refine sw_iadd dX2_init_101 ?_
  refine sw_topE (v := nI 3) (by decide) ?_
  refine sw_bi 8 dX2_init_102 (by decide +kernel) ?_
  refine sw_irem (by decide) dX2_init_104 ?_
  refine sw_topE (v := nI 3) (by decide) ?_
  refine sw_iast (2) (by decide) (f := (upd (upd (fun _ => 0) 0 (nI 1)) 1 (nI 2))) (nn := 8) rfl rfl (by decide) (by decide) dX2_init_105 ?_
  refine sw_weq (aw2 := am_up (am_up (am_up (am_up (aw) 53 (am_O 1 [.ref 54, .ref 55, .ref 56, .ref 57, .ref 58, .int 0, .int 0, .int 0, .int 0, .int 0, .int 0, .int 0])) 54 (am_I .int 32 (upd (upd (upd (fun _ => 0) 0 (nI 10)) 5 (nI 10)) 10 (nI 10)))) 56 (am_I .int 4 (upd (upd (upd (upd (fun _ => 0) 0 (nI 1)) 1 (nI 2)) 2 (nI 5)) 3 (nI 9)))) 57 (am_I .int 8 (upd (upd (upd (fun _ => 0) 0 (nI 1)) 1 (nI 2)) 2 (nI 3)))) ?_ ?_
  ·
    funext c
    by_cases e53 : c = 53
    · subst e53
      rfl
    by_cases e54 : c = 54
    · subst e54
      rfl
    by_cases e56 : c = 56
    · subst e56
      rfl
    by_cases e57 : c = 57
    · subst e57
      rfl
    simp only [am_up_ne _ _ e53, am_up_ne _ _ e54, am_up_ne _ _ e56, am_up_ne _ _ e57]
  refine sw_iinc (i := 1) (v := nI 3) dX2_init_106 rfl (by decide) (Nat.le_of_ble_eq_true rfl) rfl ?_
  refine sw_lo (lo2 := [some (.ref 53), some (.int _)]) rfl ?_
  refine sw_goto (tgt := 74) dX2_init_109 rfl ?_
  refine sw_ins (pc2 := 74) rfl rfl ?_
  refine sw_iload_n (i := 1) dX2_init_74 rfl rfl ?_
  refine sw_bi 8 dX2_init_75 (by decide +kernel) ?_
  refine sw_ic_ge (tgt := 112) dX2_init_77 rfl (fun h9 => absurd h9 (by decide)) (fun _ => ?_)
  refine sw_aload_n (i := 0) dX2_init_80 rfl rfl ?_
  refine sw_get (fs := [.ref 54, .ref 55, .ref 56, .ref 57, .ref 58, .int 0, .int 0, .int 0, .int 0, .int 0, .int 0, .int 0]) f_X2_9 (by decide) rfl (v := .ref 54) rfl dX2_init_81 ?_
  refine sw_iload_n (i := 1) dX2_init_84 rfl rfl ?_
  refine sw_ic 4 dX2_init_85 ?_
  refine sw_imul dX2_init_86 ?_
  refine sw_topE (v := nI 12) (by decide) ?_
  refine sw_ins (pc2 := 87) rfl rfl ?_
  refine sw_iload_n (i := 1) dX2_init_87 rfl rfl ?_
  refine sw_ic 4 dX2_init_88 ?_
  refine sw_irem (by decide) dX2_init_89 ?_
  refine sw_topE (v := nI 3) (by decide) ?_
  refine sw_iadd dX2_init_90 ?_
  refine sw_topE (v := nI 15) (by decide) ?_
  refine sw_bi 10 dX2_init_91 (by decide +kernel) ?_
  refine sw_iast (15) (by decide) (f := (upd (upd (upd (fun _ => 0) 0 (nI 10)) 5 (nI 10)) 10 (nI 10))) (nn := 32) rfl rfl (by decide) (by decide) dX2_init_93 ?_
  refine sw_weq (aw2 := am_up (am_up (am_up (am_up (aw) 53 (am_O 1 [.ref 54, .ref 55, .ref 56, .ref 57, .ref 58, .int 0, .int 0, .int 0, .int 0, .int 0, .int 0, .int 0])) 54 (am_I .int 32 (upd (upd (upd (upd (fun _ => 0) 0 (nI 10)) 5 (nI 10)) 10 (nI 10)) 15 (nI 10)))) 56 (am_I .int 4 (upd (upd (upd (upd (fun _ => 0) 0 (nI 1)) 1 (nI 2)) 2 (nI 5)) 3 (nI 9)))) 57 (am_I .int 8 (upd (upd (upd (fun _ => 0) 0 (nI 1)) 1 (nI 2)) 2 (nI 3)))) ?_ ?_
  ·
    funext c
    by_cases e53 : c = 53
    · subst e53
      rfl
    by_cases e54 : c = 54
    · subst e54
      rfl
    by_cases e56 : c = 56
    · subst e56
      rfl
    by_cases e57 : c = 57
    · subst e57
      rfl
    simp only [am_up_ne _ _ e53, am_up_ne _ _ e54, am_up_ne _ _ e56, am_up_ne _ _ e57]
  refine sw_aload_n (i := 0) dX2_init_94 rfl rfl ?_
  refine sw_get (fs := [.ref 54, .ref 55, .ref 56, .ref 57, .ref 58, .int 0, .int 0, .int 0, .int 0, .int 0, .int 0, .int 0]) f_X2_21 (by decide) rfl (v := .ref 57) rfl dX2_init_95 ?_
  refine sw_ins (pc2 := 98) rfl rfl ?_
  refine sw_iload_n (i := 1) dX2_init_98 rfl rfl ?_
  refine sw_iload_n (i := 1) dX2_init_99 rfl rfl ?_
  refine sw_ic 1 dX2_init_100 ?_
  refine sw_iadd dX2_init_101 ?_
  refine sw_topE (v := nI 4) (by decide) ?_
  refine sw_bi 8 dX2_init_102 (by decide +kernel) ?_
  refine sw_irem (by decide) dX2_init_104 ?_
  refine sw_topE (v := nI 4) (by decide) ?_
  refine sw_iast (3) (by decide) (f := (upd (upd (upd (fun _ => 0) 0 (nI 1)) 1 (nI 2)) 2 (nI 3))) (nn := 8) rfl rfl (by decide) (by decide) dX2_init_105 ?_
  refine sw_weq (aw2 := am_up (am_up (am_up (am_up (aw) 53 (am_O 1 [.ref 54, .ref 55, .ref 56, .ref 57, .ref 58, .int 0, .int 0, .int 0, .int 0, .int 0, .int 0, .int 0])) 54 (am_I .int 32 (upd (upd (upd (upd (fun _ => 0) 0 (nI 10)) 5 (nI 10)) 10 (nI 10)) 15 (nI 10)))) 56 (am_I .int 4 (upd (upd (upd (upd (fun _ => 0) 0 (nI 1)) 1 (nI 2)) 2 (nI 5)) 3 (nI 9)))) 57 (am_I .int 8 (upd (upd (upd (upd (fun _ => 0) 0 (nI 1)) 1 (nI 2)) 2 (nI 3)) 3 (nI 4)))) ?_ ?_
  ·
    funext c
    by_cases e53 : c = 53
    · subst e53
      rfl
    by_cases e54 : c = 54
    · subst e54
      rfl
    by_cases e56 : c = 56
    · subst e56
      rfl
    by_cases e57 : c = 57
    · subst e57
      rfl
    simp only [am_up_ne _ _ e53, am_up_ne _ _ e54, am_up_ne _ _ e56, am_up_ne _ _ e57]
  refine sw_iinc (i := 1) (v := nI 4) dX2_init_106 rfl (by decide) (Nat.le_of_ble_eq_true rfl) rfl ?_
  refine sw_lo (lo2 := [some (.ref 53), some (.int _)]) rfl ?_
  refine sw_ins (pc2 := 109) rfl rfl ?_
  refine sw_goto (tgt := 74) dX2_init_109 rfl ?_
  refine sw_iload_n (i := 1) dX2_init_74 rfl rfl ?_
  refine sw_bi 8 dX2_init_75 (by decide +kernel) ?_
  refine sw_ic_ge (tgt := 112) dX2_init_77 rfl (fun h9 => absurd h9 (by decide)) (fun _ => ?_)
  refine sw_aload_n (i := 0) dX2_init_80 rfl rfl ?_
  refine sw_get (fs := [.ref 54, .ref 55, .ref 56, .ref 57, .ref 58, .int 0, .int 0, .int 0, .int 0, .int 0, .int 0, .int 0]) f_X2_9 (by decide) rfl (v := .ref 54) rfl dX2_init_81 ?_
  refine sw_iload_n (i := 1) dX2_init_84 rfl rfl ?_
  refine sw_ic 4 dX2_init_85 ?_
  refine sw_ins (pc2 := 86) rfl rfl ?_
  refine sw_imul dX2_init_86 ?_
  refine sw_topE (v := nI 16) (by decide) ?_
  refine sw_iload_n (i := 1) dX2_init_87 rfl rfl ?_
  refine sw_ic 4 dX2_init_88 ?_
  refine sw_irem (by decide) dX2_init_89 ?_
  refine sw_topE (v := nI 0) (by decide) ?_
  refine sw_iadd dX2_init_90 ?_
  refine sw_topE (v := nI 16) (by decide) ?_
  refine sw_bi 10 dX2_init_91 (by decide +kernel) ?_
  refine sw_iast (16) (by decide) (f := (upd (upd (upd (upd (fun _ => 0) 0 (nI 10)) 5 (nI 10)) 10 (nI 10)) 15 (nI 10))) (nn := 32) rfl rfl (by decide) (by decide) dX2_init_93 ?_
  refine sw_weq (aw2 := am_up (am_up (am_up (am_up (aw) 53 (am_O 1 [.ref 54, .ref 55, .ref 56, .ref 57, .ref 58, .int 0, .int 0, .int 0, .int 0, .int 0, .int 0, .int 0])) 54 (am_I .int 32 (upd (upd (upd (upd (upd (fun _ => 0) 0 (nI 10)) 5 (nI 10)) 10 (nI 10)) 15 (nI 10)) 16 (nI 10)))) 56 (am_I .int 4 (upd (upd (upd (upd (fun _ => 0) 0 (nI 1)) 1 (nI 2)) 2 (nI 5)) 3 (nI 9)))) 57 (am_I .int 8 (upd (upd (upd (upd (fun _ => 0) 0 (nI 1)) 1 (nI 2)) 2 (nI 3)) 3 (nI 4)))) ?_ ?_
  ·
    funext c
    by_cases e53 : c = 53
    · subst e53
      rfl
    by_cases e54 : c = 54
    · subst e54
      rfl
    by_cases e56 : c = 56
    · subst e56
      rfl
    by_cases e57 : c = 57
    · subst e57
      rfl
    simp only [am_up_ne _ _ e53, am_up_ne _ _ e54, am_up_ne _ _ e56, am_up_ne _ _ e57]
  refine sw_aload_n (i := 0) dX2_init_94 rfl rfl ?_
  refine sw_get (fs := [.ref 54, .ref 55, .ref 56, .ref 57, .ref 58, .int 0, .int 0, .int 0, .int 0, .int 0, .int 0, .int 0]) f_X2_21 (by decide) rfl (v := .ref 57) rfl dX2_init_95 ?_
  refine sw_iload_n (i := 1) dX2_init_98 rfl rfl ?_
  refine sw_iload_n (i := 1) dX2_init_99 rfl rfl ?_
  refine sw_ic 1 dX2_init_100 ?_
  refine sw_iadd dX2_init_101 ?_
  refine sw_topE (v := nI 5) (by decide) ?_
  refine sw_bi 8 dX2_init_102 (by decide +kernel) ?_
  refine sw_irem (by decide) dX2_init_104 ?_
  refine sw_topE (v := nI 5) (by decide) ?_
  refine sw_iast (4) (by decide) (f := (upd (upd (upd (upd (fun _ => 0) 0 (nI 1)) 1 (nI 2)) 2 (nI 3)) 3 (nI 4))) (nn := 8) rfl rfl (by decide) (by decide) dX2_init_105 ?_
  refine sw_weq (aw2 := am_up (am_up (am_up (am_up (aw) 53 (am_O 1 [.ref 54, .ref 55, .ref 56, .ref 57, .ref 58, .int 0, .int 0, .int 0, .int 0, .int 0, .int 0, .int 0])) 54 (am_I .int 32 (upd (upd (upd (upd (upd (fun _ => 0) 0 (nI 10)) 5 (nI 10)) 10 (nI 10)) 15 (nI 10)) 16 (nI 10)))) 56 (am_I .int 4 (upd (upd (upd (upd (fun _ => 0) 0 (nI 1)) 1 (nI 2)) 2 (nI 5)) 3 (nI 9)))) 57 (am_I .int 8 (upd (upd (upd (upd (upd (fun _ => 0) 0 (nI 1)) 1 (nI 2)) 2 (nI 3)) 3 (nI 4)) 4 (nI 5)))) ?_ ?_
  ·
    funext c
    by_cases e53 : c = 53
    · subst e53
      rfl
    by_cases e54 : c = 54
    · subst e54
      rfl
    by_cases e56 : c = 56
    · subst e56
      rfl
    by_cases e57 : c = 57
    · subst e57
      rfl
    simp only [am_up_ne _ _ e53, am_up_ne _ _ e54, am_up_ne _ _ e56, am_up_ne _ _ e57]
  refine sw_ins (pc2 := 106) rfl rfl ?_
  refine sw_iinc (i := 1) (v := nI 5) dX2_init_106 rfl (by decide) (Nat.le_of_ble_eq_true rfl) rfl ?_
  refine sw_lo (lo2 := [some (.ref 53), some (.int _)]) rfl ?_
  refine sw_goto (tgt := 74) dX2_init_109 rfl ?_
  refine sw_iload_n (i := 1) dX2_init_74 rfl rfl ?_
  refine sw_bi 8 dX2_init_75 (by decide +kernel) ?_
  refine sw_ic_ge (tgt := 112) dX2_init_77 rfl (fun h9 => absurd h9 (by decide)) (fun _ => ?_)
  refine sw_aload_n (i := 0) dX2_init_80 rfl rfl ?_
  refine sw_get (fs := [.ref 54, .ref 55, .ref 56, .ref 57, .ref 58, .int 0, .int 0, .int 0, .int 0, .int 0, .int 0, .int 0]) f_X2_9 (by decide) rfl (v := .ref 54) rfl dX2_init_81 ?_
  refine sw_iload_n (i := 1) dX2_init_84 rfl rfl ?_
  refine sw_ins (pc2 := 85) rfl rfl ?_
  refine sw_ic 4 dX2_init_85 ?_
  refine sw_imul dX2_init_86 ?_
  refine sw_topE (v := nI 20) (by decide) ?_
  refine sw_iload_n (i := 1) dX2_init_87 rfl rfl ?_
  refine sw_ic 4 dX2_init_88 ?_
  refine sw_irem (by decide) dX2_init_89 ?_
  refine sw_topE (v := nI 1) (by decide) ?_
  refine sw_iadd dX2_init_90 ?_
  refine sw_topE (v := nI 21) (by decide) ?_
  refine sw_bi 10 dX2_init_91 (by decide +kernel) ?_
  refine sw_iast (21) (by decide) (f := (upd (upd (upd (upd (upd (fun _ => 0) 0 (nI 10)) 5 (nI 10)) 10 (nI 10)) 15 (nI 10)) 16 (nI 10))) (nn := 32) rfl rfl (by decide) (by decide) dX2_init_93 ?_
  refine sw_weq (aw2 := am_up (am_up (am_up (am_up (aw) 53 (am_O 1 [.ref 54, .ref 55, .ref 56, .ref 57, .ref 58, .int 0, .int 0, .int 0, .int 0, .int 0, .int 0, .int 0])) 54 (am_I .int 32 (upd (upd (upd (upd (upd (upd (fun _ => 0) 0 (nI 10)) 5 (nI 10)) 10 (nI 10)) 15 (nI 10)) 16 (nI 10)) 21 (nI 10)))) 56 (am_I .int 4 (upd (upd (upd (upd (fun _ => 0) 0 (nI 1)) 1 (nI 2)) 2 (nI 5)) 3 (nI 9)))) 57 (am_I .int 8 (upd (upd (upd (upd (upd (fun _ => 0) 0 (nI 1)) 1 (nI 2)) 2 (nI 3)) 3 (nI 4)) 4 (nI 5)))) ?_ ?_
  ·
    funext c
    by_cases e53 : c = 53
    · subst e53
      rfl
    by_cases e54 : c = 54
    · subst e54
      rfl
    by_cases e56 : c = 56
    · subst e56
      rfl
    by_cases e57 : c = 57
    · subst e57
      rfl
    simp only [am_up_ne _ _ e53, am_up_ne _ _ e54, am_up_ne _ _ e56, am_up_ne _ _ e57]
  refine sw_ins (pc2 := 94) rfl rfl ?_
  refine sw_aload_n (i := 0) dX2_init_94 rfl rfl ?_
  refine sw_get (fs := [.ref 54, .ref 55, .ref 56, .ref 57, .ref 58, .int 0, .int 0, .int 0, .int 0, .int 0, .int 0, .int 0]) f_X2_21 (by decide) rfl (v := .ref 57) rfl dX2_init_95 ?_
  refine sw_iload_n (i := 1) dX2_init_98 rfl rfl ?_
  refine sw_iload_n (i := 1) dX2_init_99 rfl rfl ?_
  refine sw_ic 1 dX2_init_100 ?_
  refine sw_iadd dX2_init_101 ?_
  refine sw_topE (v := nI 6) (by decide) ?_
  refine sw_bi 8 dX2_init_102 (by decide +kernel) ?_
  refine sw_irem (by decide) dX2_init_104 ?_
  refine sw_topE (v := nI 6) (by decide) ?_
  refine sw_iast (5) (by decide) (f := (upd (upd (upd (upd (upd (fun _ => 0) 0 (nI 1)) 1 (nI 2)) 2 (nI 3)) 3 (nI 4)) 4 (nI 5))) (nn := 8) rfl rfl (by decide) (by decide) dX2_init_105 ?_
  refine sw_weq (aw2 := am_up (am_up (am_up (am_up (aw) 53 (am_O 1 [.ref 54, .ref 55, .ref 56, .ref 57, .ref 58, .int 0, .int 0, .int 0, .int 0, .int 0, .int 0, .int 0])) 54 (am_I .int 32 (upd (upd (upd (upd (upd (upd (fun _ => 0) 0 (nI 10)) 5 (nI 10)) 10 (nI 10)) 15 (nI 10)) 16 (nI 10)) 21 (nI 10)))) 56 (am_I .int 4 (upd (upd (upd (upd (fun _ => 0) 0 (nI 1)) 1 (nI 2)) 2 (nI 5)) 3 (nI 9)))) 57 (am_I .int 8 (upd (upd (upd (upd (upd (upd (fun _ => 0) 0 (nI 1)) 1 (nI 2)) 2 (nI 3)) 3 (nI 4)) 4 (nI 5)) 5 (nI 6)))) ?_ ?_
  ·
    funext c
    by_cases e53 : c = 53
    · subst e53
      rfl
    by_cases e54 : c = 54
    · subst e54
      rfl
    by_cases e56 : c = 56
    · subst e56
      rfl
    by_cases e57 : c = 57
    · subst e57
      rfl
    simp only [am_up_ne _ _ e53, am_up_ne _ _ e54, am_up_ne _ _ e56, am_up_ne _ _ e57]
  refine sw_iinc (i := 1) (v := nI 6) dX2_init_106 rfl (by decide) (Nat.le_of_ble_eq_true rfl) rfl ?_
  refine sw_lo (lo2 := [some (.ref 53), some (.int _)]) rfl ?_
  refine sw_goto (tgt := 74) dX2_init_109 rfl ?_
  refine sw_iload_n (i := 1) dX2_init_74 rfl rfl ?_
  refine sw_bi 8 dX2_init_75 (by decide +kernel) ?_
  refine sw_ic_ge (tgt := 112) dX2_init_77 rfl (fun h9 => absurd h9 (by decide)) (fun _ => ?_)
  refine sw_aload_n (i := 0) dX2_init_80 rfl rfl ?_
  refine sw_get (fs := [.ref 54, .ref 55, .ref 56, .ref 57, .ref 58, .int 0, .int 0, .int 0, .int 0, .int 0, .int 0, .int 0]) f_X2_9 (by decide) rfl (v := .ref 54) rfl dX2_init_81 ?_
  refine sw_ins (pc2 := 84) rfl rfl ?_
  refine sw_iload_n (i := 1) dX2_init_84 rfl rfl ?_
  refine sw_ic 4 dX2_init_85 ?_
  refine sw_imul dX2_init_86 ?_
  refine sw_topE (v := nI 24) (by decide) ?_
  refine sw_iload_n (i := 1) dX2_init_87 rfl rfl ?_
  refine sw_ic 4 dX2_init_88 ?_
  refine sw_irem (by decide) dX2_init_89 ?_
  refine sw_topE (v := nI 2) (by decide) ?_
  refine sw_iadd dX2_init_90 ?_
  refine sw_topE (v := nI 26) (by decide) ?_
  refine sw_bi 10 dX2_init_91 (by decide +kernel) ?_
  refine sw_iast (26) (by decide) (f := (upd (upd (upd (upd (upd (upd (fun _ => 0) 0 (nI 10)) 5 (nI 10)) 10 (nI 10)) 15 (nI 10)) 16 (nI 10)) 21 (nI 10))) (nn := 32) rfl rfl (by decide) (by decide) dX2_init_93 ?_
  refine sw_weq (aw2 := am_up (am_up (am_up (am_up (aw) 53 (am_O 1 [.ref 54, .ref 55, .ref 56, .ref 57, .ref 58, .int 0, .int 0, .int 0, .int 0, .int 0, .int 0, .int 0])) 54 (am_I .int 32 (upd (upd (upd (upd (upd (upd (upd (fun _ => 0) 0 (nI 10)) 5 (nI 10)) 10 (nI 10)) 15 (nI 10)) 16 (nI 10)) 21 (nI 10)) 26 (nI 10)))) 56 (am_I .int 4 (upd (upd (upd (upd (fun _ => 0) 0 (nI 1)) 1 (nI 2)) 2 (nI 5)) 3 (nI 9)))) 57 (am_I .int 8 (upd (upd (upd (upd (upd (upd (fun _ => 0) 0 (nI 1)) 1 (nI 2)) 2 (nI 3)) 3 (nI 4)) 4 (nI 5)) 5 (nI 6)))) ?_ ?_
  ·
    funext c
    by_cases e53 : c = 53
    · subst e53
      rfl
    by_cases e54 : c = 54
    · subst e54
      rfl
    by_cases e56 : c = 56
    · subst e56
      rfl
    by_cases e57 : c = 57
    · subst e57
      rfl
    simp only [am_up_ne _ _ e53, am_up_ne _ _ e54, am_up_ne _ _ e56, am_up_ne _ _ e57]
  refine sw_aload_n (i := 0) dX2_init_94 rfl rfl ?_
  refine sw_get (fs := [.ref 54, .ref 55, .ref 56, .ref 57, .ref 58, .int 0, .int 0, .int 0, .int 0, .int 0, .int 0, .int 0]) f_X2_21 (by decide) rfl (v := .ref 57) rfl dX2_init_95 ?_
  refine sw_iload_n (i := 1) dX2_init_98 rfl rfl ?_
  refine sw_iload_n (i := 1) dX2_init_99 rfl rfl ?_
  refine sw_ic 1 dX2_init_100 ?_
  refine sw_iadd dX2_init_101 ?_
  refine sw_topE (v := nI 7) (by decide) ?_
  refine sw_bi 8 dX2_init_102 (by decide +kernel) ?_
  refine sw_irem (by decide) dX2_init_104 ?_
  refine sw_topE (v := nI 7) (by decide) ?_
  refine sw_iast (6) (by decide) (f := (upd (upd (upd (upd (upd (upd (fun _ => 0) 0 (nI 1)) 1 (nI 2)) 2 (nI 3)) 3 (nI 4)) 4 (nI 5)) 5 (nI 6))) (nn := 8) rfl rfl (by decide) (by decide) dX2_init_105 ?_
  refine sw_weq (aw2 := am_up (am_up (am_up (am_up (aw) 53 (am_O 1 [.ref 54, .ref 55, .ref 56, .ref 57, .ref 58, .int 0, .int 0, .int 0, .int 0, .int 0, .int 0, .int 0])) 54 (am_I .int 32 (upd (upd (upd (upd (upd (upd (upd (fun _ => 0) 0 (nI 10)) 5 (nI 10)) 10 (nI 10)) 15 (nI 10)) 16 (nI 10)) 21 (nI 10)) 26 (nI 10)))) 56 (am_I .int 4 (upd (upd (upd (upd (fun _ => 0) 0 (nI 1)) 1 (nI 2)) 2 (nI 5)) 3 (nI 9)))) 57 (am_I .int 8 (upd (upd (upd (upd (upd (upd (upd (fun _ => 0) 0 (nI 1)) 1 (nI 2)) 2 (nI 3)) 3 (nI 4)) 4 (nI 5)) 5 (nI 6)) 6 (nI 7)))) ?_ ?_
  ·
    funext c
    by_cases e53 : c = 53
    · subst e53
      rfl
    by_cases e54 : c = 54
    · subst e54
      rfl
    by_cases e56 : c = 56
    · subst e56
      rfl
    by_cases e57 : c = 57
    · subst e57
      rfl
    simp only [am_up_ne _ _ e53, am_up_ne _ _ e54, am_up_ne _ _ e56, am_up_ne _ _ e57]
  refine sw_iinc (i := 1) (v := nI 7) dX2_init_106 rfl (by decide) (Nat.le_of_ble_eq_true rfl) rfl ?_
  refine sw_lo (lo2 := [some (.ref 53), some (.int _)]) rfl ?_
  refine sw_goto (tgt := 74) dX2_init_109 rfl ?_
  refine sw_iload_n (i := 1) dX2_init_74 rfl rfl ?_
  refine sw_bi 8 dX2_init_75 (by decide +kernel) ?_
  refine sw_ic_ge (tgt := 112) dX2_init_77 rfl (fun h9 => absurd h9 (by decide)) (fun _ => ?_)
  refine sw_aload_n (i := 0) dX2_init_80 rfl rfl ?_
  refine sw_get (fs := [.ref 54, .ref 55, .ref 56, .ref 57, .ref 58, .int 0, .int 0, .int 0, .int 0, .int 0, .int 0, .int 0]) f_X2_9 (by decide) rfl (v := .ref 54) rfl dX2_init_81 ?_
  refine sw_iload_n (i := 1) dX2_init_84 rfl rfl ?_
  refine sw_ic 4 dX2_init_85 ?_
  refine sw_imul dX2_init_86 ?_
  refine sw_topE (v := nI 28) (by decide) ?_
  refine sw_iload_n (i := 1) dX2_init_87 rfl rfl ?_
  refine sw_ic 4 dX2_init_88 ?_
  refine sw_irem (by decide) dX2_init_89 ?_
  refine sw_topE (v := nI 3) (by decide) ?_
  refine sw_iadd dX2_init_90 ?_
  refine sw_topE (v := nI 31) (by decide) ?_
  refine sw_ins (pc2 := 91) rfl rfl ?_
  refine sw_bi 10 dX2_init_91 (by decide +kernel) ?_
  refine sw_iast (31) (by decide) (f := (upd (upd (upd (upd (upd (upd (upd (fun _ => 0) 0 (nI 10)) 5 (nI 10)) 10 (nI 10)) 15 (nI 10)) 16 (nI 10)) 21 (nI 10)) 26 (nI 10))) (nn := 32) rfl rfl (by decide) (by decide) dX2_init_93 ?_
  refine sw_weq (aw2 := am_up (am_up (am_up (am_up (aw) 53 (am_O 1 [.ref 54, .ref 55, .ref 56, .ref 57, .ref 58, .int 0, .int 0, .int 0, .int 0, .int 0, .int 0, .int 0])) 54 (am_I .int 32 (upd (upd (upd (upd (upd (upd (upd (upd (fun _ => 0) 0 (nI 10)) 5 (nI 10)) 10 (nI 10)) 15 (nI 10)) 16 (nI 10)) 21 (nI 10)) 26 (nI 10)) 31 (nI 10)))) 56 (am_I .int 4 (upd (upd (upd (upd (fun _ => 0) 0 (nI 1)) 1 (nI 2)) 2 (nI 5)) 3 (nI 9)))) 57 (am_I .int 8 (upd (upd (upd (upd (upd (upd (upd (fun _ => 0) 0 (nI 1)) 1 (nI 2)) 2 (nI 3)) 3 (nI 4)) 4 (nI 5)) 5 (nI 6)) 6 (nI 7)))) ?_ ?_
  ·
    funext c
    by_cases e53 : c = 53
    · subst e53
      rfl
    by_cases e54 : c = 54
    · subst e54
      rfl
    by_cases e56 : c = 56
    · subst e56
      rfl
    by_cases e57 : c = 57
    · subst e57
      rfl
    simp only [am_up_ne _ _ e53, am_up_ne _ _ e54, am_up_ne _ _ e56, am_up_ne _ _ e57]
  refine sw_aload_n (i := 0) dX2_init_94 rfl rfl ?_
  refine sw_get (fs := [.ref 54, .ref 55, .ref 56, .ref 57, .ref 58, .int 0, .int 0, .int 0, .int 0, .int 0, .int 0, .int 0]) f_X2_21 (by decide) rfl (v := .ref 57) rfl dX2_init_95 ?_
  refine sw_iload_n (i := 1) dX2_init_98 rfl rfl ?_
  refine sw_iload_n (i := 1) dX2_init_99 rfl rfl ?_
  refine sw_ic 1 dX2_init_100 ?_
  refine sw_iadd dX2_init_101 ?_
  refine sw_topE (v := nI 8) (by decide) ?_
  refine sw_ins (pc2 := 102) rfl rfl ?_
  refine sw_bi 8 dX2_init_102 (by decide +kernel) ?_
  refine sw_irem (by decide) dX2_init_104 ?_
  refine sw_topE (v := nI 0) (by decide) ?_
  refine sw_iast (7) (by decide) (f := (upd (upd (upd (upd (upd (upd (upd (fun _ => 0) 0 (nI 1)) 1 (nI 2)) 2 (nI 3)) 3 (nI 4)) 4 (nI 5)) 5 (nI 6)) 6 (nI 7))) (nn := 8) rfl rfl (by decide) (by decide) dX2_init_105 ?_
  refine sw_weq (aw2 := am_up (am_up (am_up (am_up (aw) 53 (am_O 1 [.ref 54, .ref 55, .ref 56, .ref 57, .ref 58, .int 0, .int 0, .int 0, .int 0, .int 0, .int 0, .int 0])) 54 (am_I .int 32 (upd (upd (upd (upd (upd (upd (upd (upd (fun _ => 0) 0 (nI 10)) 5 (nI 10)) 10 (nI 10)) 15 (nI 10)) 16 (nI 10)) 21 (nI 10)) 26 (nI 10)) 31 (nI 10)))) 56 (am_I .int 4 (upd (upd (upd (upd (fun _ => 0) 0 (nI 1)) 1 (nI 2)) 2 (nI 5)) 3 (nI 9)))) 57 (am_I .int 8 (upd (upd (upd (upd (upd (upd (upd (upd (fun _ => 0) 0 (nI 1)) 1 (nI 2)) 2 (nI 3)) 3 (nI 4)) 4 (nI 5)) 5 (nI 6)) 6 (nI 7)) 7 (nI 0)))) ?_ ?_
  ·
    funext c
    by_cases e53 : c = 53
    · subst e53
      rfl
    by_cases e54 : c = 54
    · subst e54
      rfl
    by_cases e56 : c = 56
    · subst e56
      rfl
    by_cases e57 : c = 57
    · subst e57
      rfl
    simp only [am_up_ne _ _ e53, am_up_ne _ _ e54, am_up_ne _ _ e56, am_up_ne _ _ e57]
  refine sw_iinc (i := 1) (v := nI 8) dX2_init_106 rfl (by decide) (Nat.le_of_ble_eq_true rfl) rfl ?_
  refine sw_lo (lo2 := [some (.ref 53), some (.int _)]) rfl ?_
  refine sw_goto (tgt := 74) dX2_init_109 rfl ?_
  refine sw_iload_n (i := 1) dX2_init_74 rfl rfl ?_
  refine sw_bi 8 dX2_init_75 (by decide +kernel) ?_
  refine sw_ic_ge (tgt := 112) dX2_init_77 rfl (fun _ => ?_) (fun h9 => absurd (by decide) h9)
  refine sw_weq (aw2 := aw) ?_ ?_
  ·
    funext c
    by_cases e53 : c = 53
    · subst e53
      exact (hz 53 (by decide) (by decide)).symm
    by_cases e54 : c = 54
    · subst e54
      exact (hz 54 (by decide) (by decide)).symm
    by_cases e56 : c = 56
    · subst e56
      exact (hz 56 (by decide) (by decide)).symm
    by_cases e57 : c = 57
    · subst e57
      exact (hz 57 (by decide) (by decide)).symm
    simp only [am_up_ne _ _ e53, am_up_ne _ _ e54, am_up_ne _ _ e56, am_up_ne _ _ e57]
  exact sw_return rfl dX2_init_112
set_option maxRecDepth 100000 in
set_option maxHeartbeats 4000000 in
theorem I_59 {aw : Nat → am_E} (hz : ∀ c, 59 ≤ c → c < 65 → aw c = z0 c) : am_AM kX2_init yX2_init 1 [.ref 59] 60 (am_up aw 59 (am_O 1 fs0_X2)) none 65 (aw) 5 108 := by
  refine am_of pl_X2_init (Nat.le_of_ble_eq_true rfl) ?_
  refine sw_aload_n (i := 0) dX2_init_0 rfl rfl ?_
  refine sw_oinit oi_X2_3 (by decide) (Nat.le_of_ble_eq_true rfl) dX2_init_1 ?_
  refine sw_aload_n (i := 0) dX2_init_4 rfl rfl ?_
  refine sw_bi 32 dX2_init_5 (by decide +kernel) ?_
  refine sw_newI (k2 := 4) (n2 := 76) ac_i rfl (fun _ => rfl) (nn := 32) rfl (by decide) (by decide) (by decide) (by decide) (by decide) dX2_init_7 ?_
  refine sw_putR rfl fp_X2_9 (fun _ => ⟨rfl, rfl⟩) (by decide) (fs := fs0_X2) rfl (by decide) dX2_init_9 ?_
  refine sw_weq (aw2 := am_up (am_up (aw) 59 (am_O 1 [.ref 60, .null, .null, .null, .null, .int 0, .int 0, .int 0, .int 0, .int 0, .int 0, .int 0])) 60 (am_I .int 32 (fun _ => 0))) ?_ ?_
  ·
    funext c
    by_cases e59 : c = 59
    · subst e59
      rfl
    by_cases e60 : c = 60
    · subst e60
      rfl
    simp only [am_up_ne _ _ e59, am_up_ne _ _ e60]
  refine sw_aload_n (i := 0) dX2_init_12 rfl rfl ?_
  refine sw_ins (pc2 := 13) rfl rfl ?_
  refine sw_bi 32 dX2_init_13 (by decide +kernel) ?_
  refine sw_newI (k2 := 3) (n2 := 44) ac_i rfl (fun _ => rfl) (nn := 32) rfl (by decide) (by decide) (by decide) (by decide) (by decide) dX2_init_15 ?_
  refine sw_weq (aw2 := am_up (am_up (aw) 59 (am_O 1 [.ref 60, .null, .null, .null, .null, .int 0, .int 0, .int 0, .int 0, .int 0, .int 0, .int 0])) 60 (am_I .int 32 (fun _ => 0))) ?_ ?_
  ·
    funext c
    by_cases e59 : c = 59
    · subst e59
      rfl
    by_cases e60 : c = 60
    · subst e60
      rfl
    by_cases e61 : c = 61
    · subst e61
      exact (hz 61 (by decide) (by decide)).symm
    simp only [am_up_ne _ _ e59, am_up_ne _ _ e60, am_up_ne _ _ e61]
  refine sw_putR rfl fp_X2_15 (fun _ => ⟨rfl, rfl⟩) (by decide) (fs := [.ref 60, .null, .null, .null, .null, .int 0, .int 0, .int 0, .int 0, .int 0, .int 0, .int 0]) rfl (by decide) dX2_init_17 ?_
  refine sw_weq (aw2 := am_up (am_up (aw) 59 (am_O 1 [.ref 60, .ref 61, .null, .null, .null, .int 0, .int 0, .int 0, .int 0, .int 0, .int 0, .int 0])) 60 (am_I .int 32 (fun _ => 0))) ?_ ?_
  ·
    funext c
    by_cases e59 : c = 59
    · subst e59
      rfl
    by_cases e60 : c = 60
    · subst e60
      rfl
    simp only [am_up_ne _ _ e59, am_up_ne _ _ e60]
  refine sw_aload_n (i := 0) dX2_init_20 rfl rfl ?_
  refine sw_ic 4 dX2_init_21 ?_
  refine sw_newI (k2 := 2) (n2 := 40) ac_i rfl (fun _ => rfl) (nn := 4) rfl (by decide) (by decide) (by decide) (by decide) (by decide) dX2_init_22 ?_
  refine sw_putR rfl fp_X2_18 (fun _ => ⟨rfl, rfl⟩) (by decide) (fs := [.ref 60, .ref 61, .null, .null, .null, .int 0, .int 0, .int 0, .int 0, .int 0, .int 0, .int 0]) rfl (by decide) dX2_init_24 ?_
  refine sw_weq (aw2 := am_up (am_up (am_up (aw) 59 (am_O 1 [.ref 60, .ref 61, .ref 62, .null, .null, .int 0, .int 0, .int 0, .int 0, .int 0, .int 0, .int 0])) 60 (am_I .int 32 (fun _ => 0))) 62 (am_I .int 4 (fun _ => 0))) ?_ ?_
  ·
    funext c
    by_cases e59 : c = 59
    · subst e59
      rfl
    by_cases e60 : c = 60
    · subst e60
      rfl
    by_cases e62 : c = 62
    · subst e62
      rfl
    simp only [am_up_ne _ _ e59, am_up_ne _ _ e60, am_up_ne _ _ e62]
  refine sw_aload_n (i := 0) dX2_init_27 rfl rfl ?_
  refine sw_ins (pc2 := 28) rfl rfl ?_
  refine sw_bi 8 dX2_init_28 (by decide +kernel) ?_
  refine sw_newI (k2 := 1) (n2 := 32) ac_i rfl (fun _ => rfl) (nn := 8) rfl (by decide) (by decide) (by decide) (by decide) (by decide) dX2_init_30 ?_
  refine sw_putR rfl fp_X2_21 (fun _ => ⟨rfl, rfl⟩) (by decide) (fs := [.ref 60, .ref 61, .ref 62, .null, .null, .int 0, .int 0, .int 0, .int 0, .int 0, .int 0, .int 0]) rfl (by decide) dX2_init_32 ?_
  refine sw_weq (aw2 := am_up (am_up (am_up (am_up (aw) 59 (am_O 1 [.ref 60, .ref 61, .ref 62, .ref 63, .null, .int 0, .int 0, .int 0, .int 0, .int 0, .int 0, .int 0])) 60 (am_I .int 32 (fun _ => 0))) 62 (am_I .int 4 (fun _ => 0))) 63 (am_I .int 8 (fun _ => 0))) ?_ ?_
  ·
    funext c
    by_cases e59 : c = 59
    · subst e59
      rfl
    by_cases e60 : c = 60
    · subst e60
      rfl
    by_cases e62 : c = 62
    · subst e62
      rfl
    by_cases e63 : c = 63
    · subst e63
      rfl
    simp only [am_up_ne _ _ e59, am_up_ne _ _ e60, am_up_ne _ _ e62, am_up_ne _ _ e63]
  refine sw_aload_n (i := 0) dX2_init_35 rfl rfl ?_
  refine sw_bi 32 dX2_init_36 (by decide +kernel) ?_
  refine sw_newI (k2 := 0) (n2 := 0) ac_i rfl (fun _ => rfl) (nn := 32) rfl (by decide) (by decide) (by decide) (by decide) (by decide) dX2_init_38 ?_
  refine sw_weq (aw2 := am_up (am_up (am_up (am_up (aw) 59 (am_O 1 [.ref 60, .ref 61, .ref 62, .ref 63, .null, .int 0, .int 0, .int 0, .int 0, .int 0, .int 0, .int 0])) 60 (am_I .int 32 (fun _ => 0))) 62 (am_I .int 4 (fun _ => 0))) 63 (am_I .int 8 (fun _ => 0))) ?_ ?_
  ·
    funext c
    by_cases e59 : c = 59
    · subst e59
      rfl
    by_cases e60 : c = 60
    · subst e60
      rfl
    by_cases e62 : c = 62
    · subst e62
      rfl
    by_cases e63 : c = 63
    · subst e63
      rfl
    by_cases e64 : c = 64
    · subst e64
      exact (hz 64 (by decide) (by decide)).symm
    simp only [am_up_ne _ _ e59, am_up_ne _ _ e60, am_up_ne _ _ e62, am_up_ne _ _ e63, am_up_ne _ _ e64]
  refine sw_putR rfl fp_X2_24 (fun _ => ⟨rfl, rfl⟩) (by decide) (fs := [.ref 60, .ref 61, .ref 62, .ref 63, .null, .int 0, .int 0, .int 0, .int 0, .int 0, .int 0, .int 0]) rfl (by decide) dX2_init_40 ?_
  refine sw_weq (aw2 := am_up (am_up (am_up (am_up (aw) 59 (am_O 1 [.ref 60, .ref 61, .ref 62, .ref 63, .ref 64, .int 0, .int 0, .int 0, .int 0, .int 0, .int 0, .int 0])) 60 (am_I .int 32 (fun _ => 0))) 62 (am_I .int 4 (fun _ => 0))) 63 (am_I .int 8 (fun _ => 0))) ?_ ?_
  ·
    funext c
    by_cases e59 : c = 59
    · subst e59
      rfl
    by_cases e60 : c = 60
    · subst e60
      rfl
    by_cases e62 : c = 62
    · subst e62
      rfl
    by_cases e63 : c = 63
    · subst e63
      rfl
    simp only [am_up_ne _ _ e59, am_up_ne _ _ e60, am_up_ne _ _ e62, am_up_ne _ _ e63]
  refine sw_aload_n (i := 0) dX2_init_43 rfl rfl ?_
  refine sw_get (fs := [.ref 60, .ref 61, .ref 62, .ref 63, .ref 64, .int 0, .int 0, .int 0, .int 0, .int 0, .int 0, .int 0]) f_X2_18 (by decide) rfl (v := .ref 62) rfl dX2_init_44 ?_
  refine sw_ic 0 dX2_init_47 ?_
  refine sw_ic 1 dX2_init_48 ?_
  refine sw_iast (0) (by decide) (f := (fun _ => 0)) (nn := 4) rfl rfl (by decide) (by decide) dX2_init_49 ?_
  refine sw_weq (aw2 := am_up (am_up (am_up (am_up (aw) 59 (am_O 1 [.ref 60, .ref 61, .ref 62, .ref 63, .ref 64, .int 0, .int 0, .int 0, .int 0, .int 0, .int 0, .int 0])) 60 (am_I .int 32 (fun _ => 0))) 62 (am_I .int 4 (upd (fun _ => 0) 0 (nI 1)))) 63 (am_I .int 8 (fun _ => 0))) ?_ ?_
  ·
    funext c
    by_cases e59 : c = 59
    · subst e59
      rfl
    by_cases e60 : c = 60
    · subst e60
      rfl
    by_cases e62 : c = 62
    · subst e62
      rfl
    by_cases e63 : c = 63
    · subst e63
      rfl
    simp only [am_up_ne _ _ e59, am_up_ne _ _ e60, am_up_ne _ _ e62, am_up_ne _ _ e63]
  refine sw_aload_n (i := 0) dX2_init_50 rfl rfl ?_
  refine sw_get (fs := [.ref 60, .ref 61, .ref 62, .ref 63, .ref 64, .int 0, .int 0, .int 0, .int 0, .int 0, .int 0, .int 0]) f_X2_18 (by decide) rfl (v := .ref 62) rfl dX2_init_51 ?_
  refine sw_ic 1 dX2_init_54 ?_
  refine sw_ic 2 dX2_init_55 ?_
  refine sw_iast (1) (by decide) (f := (upd (fun _ => 0) 0 (nI 1))) (nn := 4) rfl rfl (by decide) (by decide) dX2_init_56 ?_
  refine sw_weq (aw2 := am_up (am_up (am_up (am_up (aw) 59 (am_O 1 [.ref 60, .ref 61, .ref 62, .ref 63, .ref 64, .int 0, .int 0, .int 0, .int 0, .int 0, .int 0, .int 0])) 60 (am_I .int 32 (fun _ => 0))) 62 (am_I .int 4 (upd (upd (fun _ => 0) 0 (nI 1)) 1 (nI 2)))) 63 (am_I .int 8 (fun _ => 0))) ?_ ?_
  ·
    funext c
    by_cases e59 : c = 59
    · subst e59
      rfl
    by_cases e60 : c = 60
    · subst e60
      rfl
    by_cases e62 : c = 62
    · subst e62
      rfl
    by_cases e63 : c = 63
    · subst e63
      rfl
    simp only [am_up_ne _ _ e59, am_up_ne _ _ e60, am_up_ne _ _ e62, am_up_ne _ _ e63]
  refine sw_aload_n (i := 0) dX2_init_57 rfl rfl ?_
  refine sw_get (fs := [.ref 60, .ref 61, .ref 62, .ref 63, .ref 64, .int 0, .int 0, .int 0, .int 0, .int 0, .int 0, .int 0]) f_X2_18 (by decide) rfl (v := .ref 62) rfl dX2_init_58 ?_
  refine sw_ic 2 dX2_init_61 ?_
  refine sw_ic 5 dX2_init_62 ?_
  refine sw_iast (2) (by decide) (f := (upd (upd (fun _ => 0) 0 (nI 1)) 1 (nI 2))) (nn := 4) rfl rfl (by decide) (by decide) dX2_init_63 ?_
  refine sw_weq (aw2 := am_up (am_up (am_up (am_up (aw) 59 (am_O 1 [.ref 60, .ref 61, .ref 62, .ref 63, .ref 64, .int 0, .int 0, .int 0, .int 0, .int 0, .int 0, .int 0])) 60 (am_I .int 32 (fun _ => 0))) 62 (am_I .int 4 (upd (upd (upd (fun _ => 0) 0 (nI 1)) 1 (nI 2)) 2 (nI 5)))) 63 (am_I .int 8 (fun _ => 0))) ?_ ?_
  ·
    funext c
    by_cases e59 : c = 59
    · subst e59
      rfl
    by_cases e60 : c = 60
    · subst e60
      rfl
    by_cases e62 : c = 62
    · subst e62
      rfl
    by_cases e63 : c = 63
    · subst e63
      rfl
    simp only [am_up_ne _ _ e59, am_up_ne _ _ e60, am_up_ne _ _ e62, am_up_ne _ _ e63]
  refine sw_aload_n (i := 0) dX2_init_64 rfl rfl ?_
  refine sw_get (fs := [.ref 60, .ref 61, .ref 62, .ref 63, .ref 64, .int 0, .int 0, .int 0, .int 0, .int 0, .int 0, .int 0]) f_X2_18 (by decide) rfl (v := .ref 62) rfl dX2_init_65 ?_
  refine sw_ins (pc2 := 68) rfl rfl ?_
  refine sw_ic 3 dX2_init_68 ?_
  refine sw_bi 9 dX2_init_69 (by decide +kernel) ?_
  refine sw_iast (3) (by decide) (f := (upd (upd (upd (fun _ => 0) 0 (nI 1)) 1 (nI 2)) 2 (nI 5))) (nn := 4) rfl rfl (by decide) (by decide) dX2_init_71 ?_
  refine sw_weq (aw2 := am_up (am_up (am_up (am_up (aw) 59 (am_O 1 [.ref 60, .ref 61, .ref 62, .ref 63, .ref 64, .int 0, .int 0, .int 0, .int 0, .int 0, .int 0, .int 0])) 60 (am_I .int 32 (fun _ => 0))) 62 (am_I .int 4 (upd (upd (upd (upd (fun _ => 0) 0 (nI 1)) 1 (nI 2)) 2 (nI 5)) 3 (nI 9)))) 63 (am_I .int 8 (fun _ => 0))) ?_ ?_
  ·
    funext c
    by_cases e59 : c = 59
    · subst e59
      rfl
    by_cases e60 : c = 60
    · subst e60
      rfl
    by_cases e62 : c = 62
    · subst e62
      rfl
    by_cases e63 : c = 63
    · subst e63
      rfl
    simp only [am_up_ne _ _ e59, am_up_ne _ _ e60, am_up_ne _ _ e62, am_up_ne _ _ e63]
  refine sw_ic 0 dX2_init_72 ?_
  refine sw_istore_n (i := 1) dX2_init_73 rfl (Nat.le_of_ble_eq_true rfl) rfl ?_
  refine sw_lo (lo2 := [some (.ref 59), some (.int _)]) rfl ?_
  refine sw_iload_n (i := 1) dX2_init_74 rfl rfl ?_
  refine sw_bi 8 dX2_init_75 (by decide +kernel) ?_
  refine sw_ic_ge (tgt := 112) dX2_init_77 rfl (fun h9 => absurd h9 (by decide)) (fun _ => ?_)
  refine sw_ins (pc2 := 80) rfl rfl ?_
  refine sw_aload_n (i := 0) dX2_init_80 rfl rfl ?_
  refine sw_get (fs := [.ref 60, .ref 61, .ref 62, .ref 63, .ref 64, .int 0, .int 0, .int 0, .int 0, .int 0, .int 0, .int 0]) f_X2_9 (by decide) rfl (v := .ref 60) rfl dX2_init_81 ?_
  refine sw_iload_n (i := 1) dX2_init_84 rfl rfl ?_
  refine sw_ic 4 dX2_init_85 ?_
  refine sw_imul dX2_init_86 ?_
  refine sw_topE (v := nI 0) (by decide) ?_
  refine sw_iload_n (i := 1) dX2_init_87 rfl rfl ?_
  refine sw_ic 4 dX2_init_88 ?_
  refine sw_irem (by decide) dX2_init_89 ?_
  refine sw_topE (v := nI 0) (by decide) ?_
  refine sw_ins (pc2 := 90) rfl rfl ?_
  refine sw_iadd dX2_init_90 ?_
  refine sw_topE (v := nI 0) (by decide) ?_
  refine sw_bi 10 dX2_init_91 (by decide +kernel) ?_
  refine sw_iast (0) (by decide) (f := (fun _ => 0)) (nn := 32) rfl rfl (by decide) (by decide) dX2_init_93 ?_
  refine sw_weq (aw2 := am_up (am_up (am_up (am_up (aw) 59 (am_O 1 [.ref 60, .ref 61, .ref 62, .ref 63, .ref 64, .int 0, .int 0, .int 0, .int 0, .int 0, .int 0, .int 0])) 60 (am_I .int 32 (upd (fun _ => 0) 0 (nI 10)))) 62 (am_I .int 4 (upd (upd (upd (upd (fun _ => 0) 0 (nI 1)) 1 (nI 2)) 2 (nI 5)) 3 (nI 9)))) 63 (am_I .int 8 (fun _ => 0))) ?_ ?_
  ·
    funext c
    by_cases e59 : c = 59
    · subst e59
      rfl
    by_cases e60 : c = 60
    · subst e60
      rfl
    by_cases e62 : c = 62
    · subst e62
      rfl
    by_cases e63 : c = 63
    · subst e63
      rfl
    simp only [am_up_ne _ _ e59, am_up_ne _ _ e60, am_up_ne _ _ e62, am_up_ne _ _ e63]
  refine sw_aload_n (i := 0) dX2_init_94 rfl rfl ?_
  refine sw_get (fs := [.ref 60, .ref 61, .ref 62, .ref 63, .ref 64, .int 0, .int 0, .int 0, .int 0, .int 0, .int 0, .int 0]) f_X2_21 (by decide) rfl (v := .ref 63) rfl dX2_init_95 ?_
  refine sw_iload_n (i := 1) dX2_init_98 rfl rfl ?_
  refine sw_iload_n (i := 1) dX2_init_99 rfl rfl ?_
  refine sw_ic 1 dX2_init_100 ?_
  refine sw_ins (pc2 := 101) rfl rfl ?_
  refine sw_iadd dX2_init_101 ?_
  refine sw_topE (v := nI 1) (by decide) ?_
  refine sw_bi 8 dX2_init_102 (by decide +kernel) ?_
  refine sw_irem (by decide) dX2_init_104 ?_
  refine sw_topE (v := nI 1) (by decide) ?_
  refine sw_iast (0) (by decide) (f := (fun _ => 0)) (nn := 8) rfl rfl (by decide) (by decide) dX2_init_105 ?_
  refine sw_weq (aw2 := am_up (am_up (am_up (am_up (aw) 59 (am_O 1 [.ref 60, .ref 61, .ref 62, .ref 63, .ref 64, .int 0, .int 0, .int 0, .int 0, .int 0, .int 0, .int 0])) 60 (am_I .int 32 (upd (fun _ => 0) 0 (nI 10)))) 62 (am_I .int 4 (upd (upd (upd (upd (fun _ => 0) 0 (nI 1)) 1 (nI 2)) 2 (nI 5)) 3 (nI 9)))) 63 (am_I .int 8 (upd (fun _ => 0) 0 (nI 1)))) ?_ ?_
  ·
    funext c
    by_cases e59 : c = 59
    · subst e59
      rfl
    by_cases e60 : c = 60
    · subst e60
      rfl
    by_cases e62 : c = 62
    · subst e62
      rfl
    by_cases e63 : c = 63
    · subst e63
      rfl
    simp only [am_up_ne _ _ e59, am_up_ne _ _ e60, am_up_ne _ _ e62, am_up_ne _ _ e63]
  refine sw_iinc (i := 1) (v := nI 1) dX2_init_106 rfl (by decide) (Nat.le_of_ble_eq_true rfl) rfl ?_
  refine sw_lo (lo2 := [some (.ref 59), some (.int _)]) rfl ?_
  refine sw_goto (tgt := 74) dX2_init_109 rfl ?_
  refine sw_iload_n (i := 1) dX2_init_74 rfl rfl ?_
  refine sw_bi 8 dX2_init_75 (by decide +kernel) ?_
  refine sw_ins (pc2 := 77) rfl rfl ?_
  refine sw_ic_ge (tgt := 112) dX2_init_77 rfl (fun h9 => absurd h9 (by decide)) (fun _ => ?_)
  refine sw_aload_n (i := 0) dX2_init_80 rfl rfl ?_
  refine sw_get (fs := [.ref 60, .ref 61, .ref 62, .ref 63, .ref 64, .int 0, .int 0, .int 0, .int 0, .int 0, .int 0, .int 0]) f_X2_9 (by decide) rfl (v := .ref 60) rfl dX2_init_81 ?_
  refine sw_iload_n (i := 1) dX2_init_84 rfl rfl ?_
  refine sw_ic 4 dX2_init_85 ?_
  refine sw_imul dX2_init_86 ?_
  refine sw_topE (v := nI 4) (by decide) ?_
  refine sw_iload_n (i := 1) dX2_init_87 rfl rfl ?_
  refine sw_ic 4 dX2_init_88 ?_
  refine sw_irem (by decide) dX2_init_89 ?_
  refine sw_topE (v := nI 1) (by decide) ?_
  refine sw_iadd dX2_init_90 ?_
  refine sw_topE (v := nI 5) (by decide) ?_
  refine sw_bi 10 dX2_init_91 (by decide +kernel) ?_
  refine sw_iast (5) (by decide) (f := (upd (fun _ => 0) 0 (nI 10))) (nn := 32) rfl rfl (by decide) (by decide) dX2_init_93 ?_
  refine sw_weq (aw2 := am_up (am_up (am_up (am_up (aw) 59 (am_O 1 [.ref 60, .ref 61, .ref 62, .ref 63, .ref 64, .int 0, .int 0, .int 0, .int 0, .int 0, .int 0, .int 0])) 60 (am_I .int 32 (upd (upd (fun _ => 0) 0 (nI 10)) 5 (nI 10)))) 62 (am_I .int 4 (upd (upd (upd (upd (fun _ => 0) 0 (nI 1)) 1 (nI 2)) 2 (nI 5)) 3 (nI 9)))) 63 (am_I .int 8 (upd (fun _ => 0) 0 (nI 1)))) ?_ ?_
  ·
    funext c
    by_cases e59 : c = 59
    · subst e59
      rfl
    by_cases e60 : c = 60
    · subst e60
      rfl
    by_cases e62 : c = 62
    · subst e62
      rfl
    by_cases e63 : c = 63
    · subst e63
      rfl
    simp only [am_up_ne _ _ e59, am_up_ne _ _ e60, am_up_ne _ _ e62, am_up_ne _ _ e63]
  refine sw_aload_n (i := 0) dX2_init_94 rfl rfl ?_
  refine sw_get (fs := [.ref 60, .ref 61, .ref 62, .ref 63, .ref 64, .int 0, .int 0, .int 0, .int 0, .int 0, .int 0, .int 0]) f_X2_21 (by decide) rfl (v := .ref 63) rfl dX2_init_95 ?_
  refine sw_iload_n (i := 1) dX2_init_98 rfl rfl ?_
  refine sw_iload_n (i := 1) dX2_init_99 rfl rfl ?_
  refine sw_ins (pc2 := 100) rfl rfl ?_
  refine sw_ic 1 dX2_init_100 ?_
  refine sw_iadd dX2_init_101 ?_
  refine sw_topE (v := nI 2) (by decide) ?_
  refine sw_bi 8 dX2_init_102 (by decide +kernel) ?_
  refine sw_irem (by decide) dX2_init_104 ?_
  refine sw_topE (v := nI 2) (by decide) ?_
  refine sw_iast (1) (by decide) (f := (upd (fun _ => 0) 0 (nI 1))) (nn := 8) rfl rfl (by decide) (by decide) dX2_init_105 ?_
  refine sw_weq (aw2 := am_up (am_up (am_up (am_up (aw) 59 (am_O 1 [.ref 60, .ref 61, .ref 62, .ref 63, .ref 64, .int 0, .int 0, .int 0, .int 0, .int 0, .int 0, .int 0])) 60 (am_I .int 32 (upd (upd (fun _ => 0) 0 (nI 10)) 5 (nI 10)))) 62 (am_I .int 4 (upd (upd (upd (upd (fun _ => 0) 0 (nI 1)) 1 (nI 2)) 2 (nI 5)) 3 (nI 9)))) 63 (am_I .int 8 (upd (upd (fun _ => 0) 0 (nI 1)) 1 (nI 2)))) ?_ ?_
  ·
    funext c
    by_cases e59 : c = 59
    · subst e59
      rfl
    by_cases e60 : c = 60
    · subst e60
      rfl
    by_cases e62 : c = 62
    · subst e62
      rfl
    by_cases e63 : c = 63
    · subst e63
      rfl
    simp only [am_up_ne _ _ e59, am_up_ne _ _ e60, am_up_ne _ _ e62, am_up_ne _ _ e63]
  refine sw_iinc (i := 1) (v := nI 2) dX2_init_106 rfl (by decide) (Nat.le_of_ble_eq_true rfl) rfl ?_
  refine sw_lo (lo2 := [some (.ref 59), some (.int _)]) rfl ?_
  refine sw_goto (tgt := 74) dX2_init_109 rfl ?_
  refine sw_iload_n (i := 1) dX2_init_74 rfl rfl ?_
  refine sw_ins (pc2 := 75) rfl rfl ?_
  refine sw_bi 8 dX2_init_75 (by decide +kernel) ?_
  refine sw_ic_ge (tgt := 112) dX2_init_77 rfl (fun h9 => absurd h9 (by decide)) (fun _ => ?_)
  refine sw_aload_n (i := 0) dX2_init_80 rfl rfl ?_
  refine sw_get (fs := [.ref 60, .ref 61, .ref 62, .ref 63, .ref 64, .int 0, .int 0, .int 0, .int 0, .int 0, .int 0, .int 0]) f_X2_9 (by decide) rfl (v := .ref 60) rfl dX2_init_81 ?_
  refine sw_iload_n (i := 1) dX2_init_84 rfl rfl ?_
  refine sw_ic 4 dX2_init_85 ?_
  refine sw_imul dX2_init_86 ?_
  refine sw_topE (v := nI 8) (by decide) ?_
  refine sw_iload_n (i := 1) dX2_init_87 rfl rfl ?_
  refine sw_ins (pc2 := 88) rfl rfl ?_
  refine sw_ic 4 dX2_init_88 ?_
  refine sw_irem (by decide) dX2_init_89 ?_
  refine sw_topE (v := nI 2) (by decide) ?_
  refine sw_iadd dX2_init_90 ?_
  refine sw_topE (v := nI 10) (by decide) ?_
  refine sw_bi 10 dX2_init_91 (by decide +kernel) ?_
  refine sw_iast (10) (by decide) (f := (upd (upd (fun _ => 0) 0 (nI 10)) 5 (nI 10))) (nn := 32) rfl rfl (by decide) (by decide) dX2_init_93 ?_
  refine sw_weq (aw2 := am_up (am_up (am_up (am_up (aw) 59 (am_O 1 [.ref 60, .ref 61, .ref 62, .ref 63, .ref 64, .int 0, .int 0, .int 0, .int 0, .int 0, .int 0, .int 0])) 60 (am_I .int 32 (upd (upd (upd (fun _ => 0) 0 (nI 10)) 5 (nI 10)) 10 (nI 10)))) 62 (am_I .int 4 (upd (upd (upd (upd (fun _ => 0) 0 (nI 1)) 1 (nI 2)) 2 (nI 5)) 3 (nI 9)))) 63 (am_I .int 8 (upd (upd (fun _ => 0) 0 (nI 1)) 1 (nI 2)))) ?_ ?_
  ·
    funext c
    by_cases e59 : c = 59
    · subst e59
      rfl
    by_cases e60 : c = 60
    · subst e60
      rfl
    by_cases e62 : c = 62
    · subst e62
      rfl
    by_cases e63 : c = 63
    · subst e63
      rfl
    simp only [am_up_ne _ _ e59, am_up_ne _ _ e60, am_up_ne _ _ e62, am_up_ne _ _ e63]
  refine sw_aload_n (i := 0) dX2_init_94 rfl rfl ?_
  refine sw_get (fs := [.ref 60, .ref 61, .ref 62, .ref 63, .ref 64, .int 0, .int 0, .int 0, .int 0, .int 0, .int 0, .int 0]) f_X2_21 (by decide) rfl (v := .ref 63) rfl dX2_init_95 ?_
  refine sw_iload_n (i := 1) dX2_init_98 rfl rfl ?_
  refine sw_ins (pc2 := 99) rfl rfl ?_
  refine sw_iload_n (i := 1) dX2_init_99 rfl rfl ?_
  refine sw_ic 1 dX2_init_100 ?_
  refine sw_iadd dX2_init_101 ?_
  refine sw_topE (v := nI 3) (by decide) ?_
  refine sw_bi 8 dX2_init_102 (by decide +kernel) ?_
  refine sw_irem (by decide) dX2_init_104 ?_
  refine sw_topE (v := nI 3) (by decide) ?_
  refine sw_iast (2) (by decide) (f := (upd (upd (fun _ => 0) 0 (nI 1)) 1 (nI 2))) (nn := 8) rfl rfl (by decide) (by decide) dX2_init_105 ?_
  refine sw_weq (aw2 := am_up (am_up (am_up (am_up (aw) 59 (am_O 1 [.ref 60, .ref 61, .ref 62, .ref 63, .ref 64, .int 0, .int 0, .int 0, .int 0, .int 0, .int 0, .int 0])) 60 (am_I .int 32 (upd (upd (upd (fun _ => 0) 0 (nI 10)) 5 (nI 10)) 10 (nI 10)))) 62 (am_I .int 4 (upd (upd (upd (upd (fun _ => 0) 0 (nI 1)) 1 (nI 2)) 2 (nI 5)) 3 (nI 9)))) 63 (am_I .int 8 (upd (upd (upd (fun _ => 0) 0 (nI 1)) 1 (nI 2)) 2 (nI 3)))) ?_ ?_
  ·
    funext c
    by_cases e59 : c = 59
    · subst e59
      rfl
    by_cases e60 : c = 60
    · subst e60
      rfl
    by_cases e62 : c = 62
    · subst e62
      rfl
    by_cases e63 : c = 63
    · subst e63
      rfl
    simp only [am_up_ne _ _ e59, am_up_ne _ _ e60, am_up_ne _ _ e62, am_up_ne _ _ e63]
  refine sw_iinc (i := 1) (v := nI 3) dX2_init_106 rfl (by decide) (Nat.le_of_ble_eq_true rfl) rfl ?_
  refine sw_lo (lo2 := [some (.ref 59), some (.int _)]) rfl ?_
  refine sw_goto (tgt := 74) dX2_init_109 rfl ?_
  refine sw_ins (pc2 := 74) rfl rfl ?_
  refine sw_iload_n (i := 1) dX2_init_74 rfl rfl ?_
  refine sw_bi 8 dX2_init_75 (by decide +kernel) ?_
  refine sw_ic_ge (tgt := 112) dX2_init_77 rfl (fun h9 => absurd h9 (by decide)) (fun _ => ?_)
  refine sw_aload_n (i := 0) dX2_init_80 rfl rfl ?_
  refine sw_get (fs := [.ref 60, .ref 61, .ref 62, .ref 63, .ref 64, .int 0, .int 0, .int 0, .int 0, .int 0, .int 0, .int 0]) f_X2_9 (by decide) rfl (v := .ref 60) rfl dX2_init_81 ?_
  refine sw_iload_n (i := 1) dX2_init_84 rfl rfl ?_
  refine sw_ic 4 dX2_init_85 ?_
  refine sw_imul dX2_init_86 ?_
  refine sw_topE (v := nI 12) (by decide) ?_
  refine sw_ins (pc2 := 87) rfl rfl ?_
  refine sw_iload_n (i := 1) dX2_init_87 rfl rfl ?_
  refine sw_ic 4 dX2_init_88 ?_
  refine sw_irem (by decide) dX2_init_89 ?_
  refine sw_topE (v := nI 3) (by decide) ?_
  refine sw_iadd dX2_init_90 ?_
  refine sw_topE (v := nI 15) (by decide) ?_
  refine sw_bi 10 dX2_init_91 (by decide +kernel) ?_
  refine sw_iast (15) (by decide) (f := (upd (upd (upd (fun _ => 0) 0 (nI 10)) 5 (nI 10)) 10 (nI 10))) (nn := 32) rfl rfl (by decide) (by decide) dX2_init_93 ?_
  refine sw_weq (aw2 := am_up (am_up (am_up (am_up (aw) 59 (am_O 1 [.ref 60, .ref 61, .ref 62, .ref 63, .ref 64, .int 0, .int 0, .int 0, .int 0, .int 0, .int 0, .int 0])) 60 (am_I .int 32 (upd (upd (upd (upd (fun _ => 0) 0 (nI 10)) 5 (nI 10)) 10 (nI 10)) 15 (nI 10)))) 62 (am_I .int 4 (upd (upd (upd (upd (fun _ => 0) 0 (nI 1)) 1 (nI 2)) 2 (nI 5)) 3 (nI 9)))) 63 (am_I .int 8 (upd (upd (upd (fun _ => 0) 0 (nI 1)) 1 (nI 2)) 2 (nI 3)))) ?_ ?_
  ·
    funext c
    by_cases e59 : c = 59
    · subst e59
      rfl
    by_cases e60 : c = 60
    · subst e60
      rfl
    by_cases e62 : c = 62
    · subst e62
      rfl
    by_cases e63 : c = 63
    · subst e63
      rfl
    simp only [am_up_ne _ _ e59, am_up_ne _ _ e60, am_up_ne _ _ e62, am_up_ne _ _ e63]
  refine sw_aload_n (i := 0) dX2_init_94 rfl rfl ?_
  refine sw_get (fs := [.ref 60, .ref 61, .ref 62, .ref 63, .ref 64, .int 0, .int 0, .int 0, .int 0, .int 0, .int 0, .int 0]) f_X2_21 (by decide) rfl (v := .ref 63) rfl dX2_init_95 ?_
  refine sw_ins (pc2 := 98) rfl rfl ?_
  refine sw_iload_n (i := 1) dX2_init_98 rfl rfl ?_
  refine sw_iload_n (i := 1) dX2_init_99 rfl rfl ?_
  refine sw_ic 1 dX2_init_100 ?_
  refine sw_iadd dX2_init_101 ?_
  refine sw_topE (v := nI 4) (by decide) ?_
  refine sw_bi 8 dX2_init_102 (by decide +kernel) ?_
  refine sw_irem (by decide) dX2_init_104 ?_
  refine sw_topE (v := nI 4) (by decide) ?_
  refine sw_iast (3) (by decide) (f := (upd (upd (upd (fun _ => 0) 0 (nI 1)) 1 (nI 2)) 2 (nI 3))) (nn := 8) rfl rfl (by decide) (by decide) dX2_init_105 ?_
  refine sw_weq (aw2 := am_up (am_up (am_up (am_up (aw) 59 (am_O 1 [.ref 60, .ref 61, .ref 62, .ref 63, .ref 64, .int 0, .int 0, .int 0, .int 0, .int 0, .int 0, .int 0])) 60 (am_I .int 32 (upd (upd (upd (upd (fun _ => 0) 0 (nI 10)) 5 (nI 10)) 10 (nI 10)) 15 (nI 10)))) 62 (am_I .int 4 (upd (upd (upd (upd (fun _ => 0) 0 (nI 1)) 1 (nI 2)) 2 (nI 5)) 3 (nI 9)))) 63 (am_I .int 8 (upd (upd (upd (upd (fun _ => 0) 0 (nI 1)) 1 (nI 2)) 2 (nI 3)) 3 (nI 4)))) ?_ ?_
  ·
    funext c
    by_cases e59 : c = 59
    · subst e59
      rfl
    by_cases e60 : c = 60
    · subst e60
      rfl
    by_cases e62 : c = 62
    · subst e62
      rfl
    by_cases e63 : c = 63
    · subst e63
      rfl
    simp only [am_up_ne _ _ e59, am_up_ne _ _ e60, am_up_ne _ _ e62, am_up_ne _ _ e63]
  refine sw_iinc (i := 1) (v := nI 4) dX2_init_106 rfl (by decide) (Nat.le_of_ble_eq_true rfl) rfl ?_
  refine sw_lo (lo2 := [some (.ref 59), some (.int _)]) rfl ?_
  refine sw_ins (pc2 := 109) rfl rfl ?_
  refine sw_goto (tgt := 74) dX2_init_109 rfl ?_
  refine sw_iload_n (i := 1) dX2_init_74 rfl rfl ?_
  refine sw_bi 8 dX2_init_75 (by decide +kernel) ?_
  refine sw_ic_ge (tgt := 112) dX2_init_77 rfl (fun h9 => absurd h9 (by decide)) (fun _ => ?_)
  refine sw_aload_n (i := 0) dX2_init_80 rfl rfl ?_
  refine sw_get (fs := [.ref 60, .ref 61, .ref 62, .ref 63, .ref 64, .int 0, .int 0, .int 0, .int 0, .int 0, .int 0, .int 0]) f_X2_9 (by decide) rfl (v := .ref 60) rfl dX2_init_81 ?_
  refine sw_iload_n (i := 1) dX2_init_84 rfl rfl ?_
  refine sw_ic 4 dX2_init_85 ?_
  refine sw_ins (pc2 := 86) rfl rfl ?_
  refine sw_imul dX2_init_86 ?_
  refine sw_topE (v := nI 16) (by decide) ?_
  refine sw_iload_n (i := 1) dX2_init_87 rfl rfl ?_
  refine sw_ic 4 dX2_init_88 ?_
  refine sw_irem (by decide) dX2_init_89 ?_
  refine sw_topE (v := nI 0) (by decide) ?_
  refine sw_iadd dX2_init_90 ?_
  refine sw_topE (v := nI 16) (by decide) ?_
  refine sw_bi 10 dX2_init_91 (by decide +kernel) ?_
  refine sw_iast (16) (by decide) (f := (upd (upd (upd (upd (fun _ => 0) 0 (nI 10)) 5 (nI 10)) 10 (nI 10)) 15 (nI 10))) (nn := 32) rfl rfl (by decide) (by decide) dX2_init_93 ?_
  refine sw_weq (aw2 := am_up (am_up (am_up (am_up (aw) 59 (am_O 1 [.ref 60, .ref 61, .ref 62, .ref 63, .ref 64, .int 0, .int 0, .int 0, .int 0, .int 0, .int 0, .int 0])) 60 (am_I .int 32 (upd (upd (upd (upd (upd (fun _ => 0) 0 (nI 10)) 5 (nI 10)) 10 (nI 10)) 15 (nI 10)) 16 (nI 10)))) 62 (am_I .int 4 (upd (upd (upd (upd (fun _ => 0) 0 (nI 1)) 1 (nI 2)) 2 (nI 5)) 3 (nI 9)))) 63 (am_I .int 8 (upd (upd (upd (upd (fun _ => 0) 0 (nI 1)) 1 (nI 2)) 2 (nI 3)) 3 (nI 4)))) ?_ ?_
  ·
    funext c
    by_cases e59 : c = 59
    · subst e59
      rfl
    by_cases e60 : c = 60
    · subst e60
      rfl
    by_cases e62 : c = 62
    · subst e62
      rfl
    by_cases e63 : c = 63
    · subst e63
      rfl
    simp only [am_up_ne _ _ e59, am_up_ne _ _ e60, am_up_ne _ _ e62, am_up_ne _ _ e63]
  refine sw_aload_n (i := 0) dX2_init_94 rfl rfl ?_
  refine sw_get (fs := [.ref 60, .ref 61, .ref 62, .ref 63, .ref 64, .int 0, .int 0, .int 0, .int 0, .int 0, .int 0, .int 0]) f_X2_21 (by decide) rfl (v := .ref 63) rfl dX2_init_95 ?_
  refine sw_iload_n (i := 1) dX2_init_98 rfl rfl ?_
  refine sw_iload_n (i := 1) dX2_init_99 rfl rfl ?_
  refine sw_ic 1 dX2_init_100 ?_
  refine sw_iadd dX2_init_101 ?_
  refine sw_topE (v := nI 5) (by decide) ?_
  refine sw_bi 8 dX2_init_102 (by decide +kernel) ?_
  refine sw_irem (by decide) dX2_init_104 ?_
  refine sw_topE (v := nI 5) (by decide) ?_
  refine sw_iast (4) (by decide) (f := (upd (upd (upd (upd (fun _ => 0) 0 (nI 1)) 1 (nI 2)) 2 (nI 3)) 3 (nI 4))) (nn := 8) rfl rfl (by decide) (by decide) dX2_init_105 ?_
  refine sw_weq (aw2 := am_up (am_up (am_up (am_up (aw) 59 (am_O 1 [.ref 60, .ref 61, .ref 62, .ref 63, .ref 64, .int 0, .int 0, .int 0, .int 0, .int 0, .int 0, .int 0])) 60 (am_I .int 32 (upd (upd (upd (upd (upd (fun _ => 0) 0 (nI 10)) 5 (nI 10)) 10 (nI 10)) 15 (nI 10)) 16 (nI 10)))) 62 (am_I .int 4 (upd (upd (upd (upd (fun _ => 0) 0 (nI 1)) 1 (nI 2)) 2 (nI 5)) 3 (nI 9)))) 63 (am_I .int 8 (upd (upd (upd (upd (upd (fun _ => 0) 0 (nI 1)) 1 (nI 2)) 2 (nI 3)) 3 (nI 4)) 4 (nI 5)))) ?_ ?_
  ·
    funext c
    by_cases e59 : c = 59
    · subst e59
      rfl
    by_cases e60 : c = 60
    · subst e60
      rfl
    by_cases e62 : c = 62
    · subst e62
      rfl
    by_cases e63 : c = 63
    · subst e63
      rfl
    simp only [am_up_ne _ _ e59, am_up_ne _ _ e60, am_up_ne _ _ e62, am_up_ne _ _ e63]
  refine sw_ins (pc2 := 106) rfl rfl ?_
  refine sw_iinc (i := 1) (v := nI 5) dX2_init_106 rfl (by decide) (Nat.le_of_ble_eq_true rfl) rfl ?_
  refine sw_lo (lo2 := [some (.ref 59), some (.int _)]) rfl ?_
  refine sw_goto (tgt := 74) dX2_init_109 rfl ?_
  refine sw_iload_n (i := 1) dX2_init_74 rfl rfl ?_
  refine sw_bi 8 dX2_init_75 (by decide +kernel) ?_
  refine sw_ic_ge (tgt := 112) dX2_init_77 rfl (fun h9 => absurd h9 (by decide)) (fun _ => ?_)
  refine sw_aload_n (i := 0) dX2_init_80 rfl rfl ?_
  refine sw_get (fs := [.ref 60, .ref 61, .ref 62, .ref 63, .ref 64, .int 0, .int 0, .int 0, .int 0, .int 0, .int 0, .int 0]) f_X2_9 (by decide) rfl (v := .ref 60) rfl dX2_init_81 ?_
  refine sw_iload_n (i := 1) dX2_init_84 rfl rfl ?_
  refine sw_ins (pc2 := 85) rfl rfl ?_
  refine sw_ic 4 dX2_init_85 ?_
  refine sw_imul dX2_init_86 ?_
  refine sw_topE (v := nI 20) (by decide) ?_
  refine sw_iload_n (i := 1) dX2_init_87 rfl rfl ?_
  refine sw_ic 4 dX2_init_88 ?_
  refine sw_irem (by decide) dX2_init_89 ?_
  refine sw_topE (v := nI 1) (by decide) ?_
  refine sw_iadd dX2_init_90 ?_
  refine sw_topE (v := nI 21) (by decide) ?_
  refine sw_bi 10 dX2_init_91 (by decide +kernel) ?_
  refine sw_iast (21) (by decide) (f := (upd (upd (upd (upd (upd (fun _ => 0) 0 (nI 10)) 5 (nI 10)) 10 (nI 10)) 15 (nI 10)) 16 (nI 10))) (nn := 32) rfl rfl (by decide) (by decide) dX2_init_93 ?_
  refine sw_weq (aw2 := am_up (am_up (am_up (am_up (aw) 59 (am_O 1 [.ref 60, .ref 61, .ref 62, .ref 63, .ref 64, .int 0, .int 0, .int 0, .int 0, .int 0, .int 0, .int 0])) 60 (am_I .int 32 (upd (upd (upd (upd (upd (upd (fun _ => 0) 0 (nI 10)) 5 (nI 10)) 10 (nI 10)) 15 (nI 10)) 16 (nI 10)) 21 (nI 10)))) 62 (am_I .int 4 (upd (upd (upd (upd (fun _ => 0) 0 (nI 1)) 1 (nI 2)) 2 (nI 5)) 3 (nI 9)))) 63 (am_I .int 8 (upd (upd (upd (upd (upd (fun _ => 0) 0 (nI 1)) 1 (nI 2)) 2 (nI 3)) 3 (nI 4)) 4 (nI 5)))) ?_ ?_
  ·
    funext c
    by_cases e59 : c = 59
    · subst e59
      rfl
    by_cases e60 : c = 60
    · subst e60
      rfl
    by_cases e62 : c = 62
    · subst e62
      rfl
    by_cases e63 : c = 63
    · subst e63
      rfl
    simp only [am_up_ne _ _ e59, am_up_ne _ _ e60, am_up_ne _ _ e62, am_up_ne _ _ e63]
  refine sw_ins (pc2 := 94) rfl rfl ?_
  refine sw_aload_n (i := 0) dX2_init_94 rfl rfl ?_
  refine sw_get (fs := [.ref 60, .ref 61, .ref 62, .ref 63, .ref 64, .int 0, .int 0, .int 0, .int 0, .int 0, .int 0, .int 0]) f_X2_21 (by decide) rfl (v := .ref 63) rfl dX2_init_95 ?_
  refine sw_iload_n (i := 1) dX2_init_98 rfl rfl ?_
  refine sw_iload_n (i := 1) dX2_init_99 rfl rfl ?_
  refine sw_ic 1 dX2_init_100 ?_
  refine sw_iadd dX2_init_101 ?_
  refine sw_topE (v := nI 6) (by decide) ?_
  refine sw_bi 8 dX2_init_102 (by decide +kernel) ?_
  refine sw_irem (by decide) dX2_init_104 ?_
  refine sw_topE (v := nI 6) (by decide) ?_
  refine sw_iast (5) (by decide) (f := (upd (upd (upd (upd (upd (fun _ => 0) 0 (nI 1)) 1 (nI 2)) 2 (nI 3)) 3 (nI 4)) 4 (nI 5))) (nn := 8) rfl rfl (by decide) (by decide) dX2_init_105 ?_
  refine sw_weq (aw2 := am_up (am_up (am_up (am_up (aw) 59 (am_O 1 [.ref 60, .ref 61, .ref 62, .ref 63, .ref 64, .int 0, .int 0, .int 0, .int 0, .int 0, .int 0, .int 0])) 60 (am_I .int 32 (upd (upd (upd (upd (upd (upd (fun _ => 0) 0 (nI 10)) 5 (nI 10)) 10 (nI 10)) 15 (nI 10)) 16 (nI 10)) 21 (nI 10)))) 62 (am_I .int 4 (upd (upd (upd (upd (fun _ => 0) 0 (nI 1)) 1 (nI 2)) 2 (nI 5)) 3 (nI 9)))) 63 (am_I .int 8 (upd (upd (upd (upd (upd (upd (fun _ => 0) 0 (nI 1)) 1 (nI 2)) 2 (nI 3)) 3 (nI 4)) 4 (nI 5)) 5 (nI 6)))) ?_ ?_
  ·
    funext c
    by_cases e59 : c = 59
    · subst e59
      rfl
    by_cases e60 : c = 60
    · subst e60
      rfl
    by_cases e62 : c = 62
    · subst e62
      rfl
    by_cases e63 : c = 63
    · subst e63
      rfl
    simp only [am_up_ne _ _ e59, am_up_ne _ _ e60, am_up_ne _ _ e62, am_up_ne _ _ e63]
  refine sw_iinc (i := 1) (v := nI 6) dX2_init_106 rfl (by decide) (Nat.le_of_ble_eq_true rfl) rfl ?_
  refine sw_lo (lo2 := [some (.ref 59), some (.int _)]) rfl ?_
  refine sw_goto (tgt := 74) dX2_init_109 rfl ?_
  refine sw_iload_n (i := 1) dX2_init_74 rfl rfl ?_
  refine sw_bi 8 dX2_init_75 (by decide +kernel) ?_
  refine sw_ic_ge (tgt := 112) dX2_init_77 rfl (fun h9 => absurd h9 (by decide)) (fun _ => ?_)
  refine sw_aload_n (i := 0) dX2_init_80 rfl rfl ?_
  refine sw_get (fs := [.ref 60, .ref 61, .ref 62, .ref 63, .ref 64, .int 0, .int 0, .int 0, .int 0, .int 0, .int 0, .int 0]) f_X2_9 (by decide) rfl (v := .ref 60) rfl dX2_init_81 ?_
  refine sw_ins (pc2 := 84) rfl rfl ?_
  refine sw_iload_n (i := 1) dX2_init_84 rfl rfl ?_
  refine sw_ic 4 dX2_init_85 ?_
  refine sw_imul dX2_init_86 ?_
  refine sw_topE (v := nI 24) (by decide) ?_
  refine sw_iload_n (i := 1) dX2_init_87 rfl rfl ?_
  refine sw_ic 4 dX2_init_88 ?_
  refine sw_irem (by decide) dX2_init_89 ?_
  refine sw_topE (v := nI 2) (by decide) ?_
  refine sw_iadd dX2_init_90 ?_
  refine sw_topE (v := nI 26) (by decide) ?_
  refine sw_bi 10 dX2_init_91 (by decide +kernel) ?_
  refine sw_iast (26) (by decide) (f := (upd (upd (upd (upd (upd (upd (fun _ => 0) 0 (nI 10)) 5 (nI 10)) 10 (nI 10)) 15 (nI 10)) 16 (nI 10)) 21 (nI 10))) (nn := 32) rfl rfl (by decide) (by decide) dX2_init_93 ?_
  refine sw_weq (aw2 := am_up (am_up (am_up (am_up (aw) 59 (am_O 1 [.ref 60, .ref 61, .ref 62, .ref 63, .ref 64, .int 0, .int 0, .int 0, .int 0, .int 0, .int 0, .int 0])) 60 (am_I .int 32 (upd (upd (upd (upd (upd (upd (upd (fun _ => 0) 0 (nI 10)) 5 (nI 10)) 10 (nI 10)) 15 (nI 10)) 16 (nI 10)) 21 (nI 10)) 26 (nI 10)))) 62 (am_I .int 4 (upd (upd (upd (upd (fun _ => 0) 0 (nI 1)) 1 (nI 2)) 2 (nI 5)) 3 (nI 9)))) 63 (am_I .int 8 (upd (upd (upd (upd (upd (upd (fun _ => 0) 0 (nI 1)) 1 (nI 2)) 2 (nI 3)) 3 (nI 4)) 4 (nI 5)) 5 (nI 6)))) ?_ ?_
  ·
    funext c
    by_cases e59 : c = 59
    · subst e59
      rfl
    by_cases e60 : c = 60
    · subst e60
      rfl
    by_cases e62 : c = 62
    · subst e62
      rfl
    by_cases e63 : c = 63
    · subst e63
      rfl
    simp only [am_up_ne _ _ e59, am_up_ne _ _ e60, am_up_ne _ _ e62, am_up_ne _ _ e63]
  refine sw_aload_n (i := 0) dX2_init_94 rfl rfl ?_
  refine sw_get (fs := [.ref 60, .ref 61, .ref 62, .ref 63, .ref 64, .int 0, .int 0, .int 0, .int 0, .int 0, .int 0, .int 0]) f_X2_21 (by decide) rfl (v := .ref 63) rfl dX2_init_95 ?_
  refine sw_iload_n (i := 1) dX2_init_98 rfl rfl ?_
  refine sw_iload_n (i := 1) dX2_init_99 rfl rfl ?_
  refine sw_ic 1 dX2_init_100 ?_
  refine sw_iadd dX2_init_101 ?_
  refine sw_topE (v := nI 7) (by decide) ?_
  refine sw_bi 8 dX2_init_102 (by decide +kernel) ?_
  refine sw_irem (by decide) dX2_init_104 ?_
  refine sw_topE (v := nI 7) (by decide) ?_
  refine sw_iast (6) (by decide) (f := (upd (upd (upd (upd (upd (upd (fun _ => 0) 0 (nI 1)) 1 (nI 2)) 2 (nI 3)) 3 (nI 4)) 4 (nI 5)) 5 (nI 6))) (nn := 8) rfl rfl (by decide) (by decide) dX2_init_105 ?_
  refine sw_weq (aw2 := am_up (am_up (am_up (am_up (aw) 59 (am_O 1 [.ref 60, .ref 61, .ref 62, .ref 63, .ref 64, .int 0, .int 0, .int 0, .int 0, .int 0, .int 0, .int 0])) 60 (am_I .int 32 (upd (upd (upd (upd (upd (upd (upd (fun _ => 0) 0 (nI 10)) 5 (nI 10)) 10 (nI 10)) 15 (nI 10)) 16 (nI 10)) 21 (nI 10)) 26 (nI 10)))) 62 (am_I .int 4 (upd (upd (upd (upd (fun _ => 0) 0 (nI 1)) 1 (nI 2)) 2 (nI 5)) 3 (nI 9)))) 63 (am_I .int 8 (upd (upd (upd (upd (upd (upd (upd (fun _ => 0) 0 (nI 1)) 1 (nI 2)) 2 (nI 3)) 3 (nI 4)) 4 (nI 5)) 5 (nI 6)) 6 (nI 7)))) ?_ ?_
  ·
    funext c
    by_cases e59 : c = 59
    · subst e59
      rfl
    by_cases e60 : c = 60
    · subst e60
      rfl
    by_cases e62 : c = 62
    · subst e62
      rfl
    by_cases e63 : c = 63
    · subst e63
      rfl
    simp only [am_up_ne _ _ e59, am_up_ne _ _ e60, am_up_ne _ _ e62, am_up_ne _ _ e63]
  refine sw_iinc (i := 1) (v := nI 7) dX2_init_106 rfl (by decide) (Nat.le_of_ble_eq_true rfl) rfl ?_
  refine sw_lo (lo2 := [some (.ref 59), some (.int _)]) rfl ?_
  refine sw_goto (tgt := 74) dX2_init_109 rfl ?_
  refine sw_iload_n (i := 1) dX2_init_74 rfl rfl ?_
  refine sw_bi 8 dX2_init_75 (by decide +kernel) ?_
  refine sw_ic_ge (tgt := 112) dX2_init_77 rfl (fun h9 => absurd h9 (by decide)) (fun _ => ?_)
  refine sw_aload_n (i := 0) dX2_init_80 rfl rfl ?_
  refine sw_get (fs := [.ref 60, .ref 61, .ref 62, .ref 63, .ref 64, .int 0, .int 0, .int 0, .int 0, .int 0, .int 0, .int 0]) f_X2_9 (by decide) rfl (v := .ref 60) rfl dX2_init_81 ?_
  refine sw_iload_n (i := 1) dX2_init_84 rfl rfl ?_
  refine sw_ic 4 dX2_init_85 ?_
  refine sw_imul dX2_init_86 ?_
  refine sw_topE (v := nI 28) (by decide) ?_
  refine sw_iload_n (i := 1) dX2_init_87 rfl rfl ?_
  refine sw_ic 4 dX2_init_88 ?_
  refine sw_irem (by decide) dX2_init_89 ?_
  refine sw_topE (v := nI 3) (by decide) ?_
  refine sw_iadd dX2_init_90 ?_
  refine sw_topE (v := nI 31) (by decide) ?_
  refine sw_ins (pc2 := 91) rfl rfl ?_
  refine sw_bi 10 dX2_init_91 (by decide +kernel) ?_
  refine sw_iast (31) (by decide) (f := (upd (upd (upd (upd (upd (upd (upd (fun _ => 0) 0 (nI 10)) 5 (nI 10)) 10 (nI 10)) 15 (nI 10)) 16 (nI 10)) 21 (nI 10)) 26 (nI 10))) (nn := 32) rfl rfl (by decide) (by decide) dX2_init_93 ?_
  refine sw_weq (aw2 := am_up (am_up (am_up (am_up (aw) 59 (am_O 1 [.ref 60, .ref 61, .ref 62, .ref 63, .ref 64, .int 0, .int 0, .int 0, .int 0, .int 0, .int 0, .int 0])) 60 (am_I .int 32 (upd (upd (upd (upd (upd (upd (upd (upd (fun _ => 0) 0 (nI 10)) 5 (nI 10)) 10 (nI 10)) 15 (nI 10)) 16 (nI 10)) 21 (nI 10)) 26 (nI 10)) 31 (nI 10)))) 62 (am_I .int 4 (upd (upd (upd (upd (fun _ => 0) 0 (nI 1)) 1 (nI 2)) 2 (nI 5)) 3 (nI 9)))) 63 (am_I .int 8 (upd (upd (upd (upd (upd (upd (upd (fun _ => 0) 0 (nI 1)) 1 (nI 2)) 2 (nI 3)) 3 (nI 4)) 4 (nI 5)) 5 (nI 6)) 6 (nI 7)))) ?_ ?_
  ·
    funext c
    by_cases e59 : c = 59
    · subst e59
      rfl
    by_cases e60 : c = 60
    · subst e60
      rfl
    by_cases e62 : c = 62
    · subst e62
      rfl
    by_cases e63 : c = 63
    · subst e63
      rfl
    simp only [am_up_ne _ _ e59, am_up_ne _ _ e60, am_up_ne _ _ e62, am_up_ne _ _ e63]
  refine sw_aload_n (i := 0) dX2_init_94 rfl rfl ?_
  refine sw_get (fs := [.ref 60, .ref 61, .ref 62, .ref 63, .ref 64, .int 0, .int 0, .int 0, .int 0, .int 0, .int 0, .int 0]) f_X2_21 (by decide) rfl (v := .ref 63) rfl dX2_init_95 ?_
  refine sw_iload_n (i := 1) dX2_init_98 rfl rfl ?_
  refine sw_iload_n (i := 1) dX2_init_99 rfl rfl ?_
  refine sw_ic 1 dX2_init_100 ?_
  refine sw_iadd dX2_init_101 ?_
  refine sw_topE (v := nI 8) (by decide) ?_
  refine sw_ins (pc2 := 102) rfl rfl ?_
  refine sw_bi 8 dX2_init_102 (by decide +kernel) ?_
  refine sw_irem (by decide) dX2_init_104 ?_
  refine sw_topE (v := nI 0) (by decide) ?_
  refine sw_iast (7) (by decide) (f := (upd (upd (upd (upd (upd (upd (upd (fun _ => 0) 0 (nI 1)) 1 (nI 2)) 2 (nI 3)) 3 (nI 4)) 4 (nI 5)) 5 (nI 6)) 6 (nI 7))) (nn := 8) rfl rfl (by decide) (by decide) dX2_init_105 ?_
  refine sw_weq (aw2 := am_up (am_up (am_up (am_up (aw) 59 (am_O 1 [.ref 60, .ref 61, .ref 62, .ref 63, .ref 64, .int 0, .int 0, .int 0, .int 0, .int 0, .int 0, .int 0])) 60 (am_I .int 32 (upd (upd (upd (upd (upd (upd (upd (upd (fun _ => 0) 0 (nI 10)) 5 (nI 10)) 10 (nI 10)) 15 (nI 10)) 16 (nI 10)) 21 (nI 10)) 26 (nI 10)) 31 (nI 10)))) 62 (am_I .int 4 (upd (upd (upd (upd (fun _ => 0) 0 (nI 1)) 1 (nI 2)) 2 (nI 5)) 3 (nI 9)))) 63 (am_I .int 8 (upd (upd (upd (upd (upd (upd (upd (upd (fun _ => 0) 0 (nI 1)) 1 (nI 2)) 2 (nI 3)) 3 (nI 4)) 4 (nI 5)) 5 (nI 6)) 6 (nI 7)) 7 (nI 0)))) ?_ ?_
  ·
    funext c
    by_cases e59 : c = 59
    · subst e59
      rfl
    by_cases e60 : c = 60
    · subst e60
      rfl
    by_cases e62 : c = 62
    · subst e62
      rfl
    by_cases e63 : c = 63
    · subst e63
      rfl
    simp only [am_up_ne _ _ e59, am_up_ne _ _ e60, am_up_ne _ _ e62, am_up_ne _ _ e63]
  refine sw_iinc (i := 1) (v := nI 8) dX2_init_106 rfl (by decide) (Nat.le_of_ble_eq_true rfl) rfl ?_
  refine sw_lo (lo2 := [some (.ref 59), some (.int _)]) rfl ?_
  refine sw_goto (tgt := 74) dX2_init_109 rfl ?_
  refine sw_iload_n (i := 1) dX2_init_74 rfl rfl ?_
  refine sw_bi 8 dX2_init_75 (by decide +kernel) ?_
  refine sw_ic_ge (tgt := 112) dX2_init_77 rfl (fun _ => ?_) (fun h9 => absurd (by decide) h9)
  refine sw_weq (aw2 := aw) ?_ ?_
  ·
    funext c
    by_cases e59 : c = 59
    · subst e59
      exact (hz 59 (by decide) (by decide)).symm
    by_cases e60 : c = 60
    · subst e60
      exact (hz 60 (by decide) (by decide)).symm
    by_cases e62 : c = 62
    · subst e62
      exact (hz 62 (by decide) (by decide)).symm
    by_cases e63 : c = 63
    · subst e63
      exact (hz 63 (by decide) (by decide)).symm
    simp only [am_up_ne _ _ e59, am_up_ne _ _ e60, am_up_ne _ _ e62, am_up_ne _ _ e63]
  exact sw_return rfl dX2_init_112
set_option maxRecDepth 100000 in
set_option maxHeartbeats 4000000 in
theorem H_7 {aw : Nat → am_E} (hz : ∀ c, 7 ≤ c → c < 45 → aw c = z0 c) : am_AM kX1_init yX1_init 2 [.ref 7] 8 (am_up aw 7 (am_O 0 fs0_X1)) none 45 (aw) 37 726 := by
  refine am_of pl_X1_init (Nat.le_of_ble_eq_true rfl) ?_
  refine sw_aload_n (i := 0) dX1_init_0 rfl rfl ?_
  refine sw_oinit oi_X1_3 (by decide) (Nat.le_of_ble_eq_true rfl) dX1_init_1 ?_
  refine sw_aload_n (i := 0) dX1_init_4 rfl rfl ?_
  refine sw_bi 6 dX1_init_5 (by decide +kernel) ?_
  refine sw_newR (k2 := 36) (n2 := 720) an_X1_9 (nn := 6) rfl (by decide) (by decide) (by decide) (by decide) (by decide) dX1_init_7 ?_
  refine sw_putR rfl fp_X1_11 (fun _ => ⟨rfl, rfl⟩) (by decide) (fs := fs0_X1) rfl (by decide) dX1_init_10 ?_
  refine sw_weq (aw2 := am_up (am_up (aw) 7 (am_O 0 [.ref 8, .int 0])) 8 (am_R RX2 6 (fun _ => none))) ?_ ?_
  ·
    funext c
    by_cases e7 : c = 7
    · subst e7
      rfl
    by_cases e8 : c = 8
    · subst e8
      rfl
    simp only [am_up_ne _ _ e7, am_up_ne _ _ e8]
  refine sw_ic 0 dX1_init_13 ?_
  refine sw_ins (pc2 := 14) rfl rfl ?_
  refine sw_istore_n (i := 1) dX1_init_14 rfl (Nat.le_of_ble_eq_true rfl) rfl ?_
  refine sw_lo (lo2 := [some (.ref 7), some (.int _)]) rfl ?_
  refine sw_iload_n (i := 1) dX1_init_15 rfl rfl ?_
  refine sw_bi 6 dX1_init_16 (by decide +kernel) ?_
  refine sw_ic_ge (tgt := 40) dX1_init_18 rfl (fun h9 => absurd h9 (by decide)) (fun _ => ?_)
  refine sw_aload_n (i := 0) dX1_init_21 rfl rfl ?_
  refine sw_get (fs := [.ref 8, .int 0]) f_X1_11 (by decide) rfl (v := .ref 8) rfl dX1_init_22 ?_
  refine sw_iload_n (i := 1) dX1_init_25 rfl rfl ?_
  refine sw_new (k2 := 35) (n2 := 708) fs0_X2 nw_X1_9 (fun _ => am_vs0 (by decide)) (by decide) (by decide) (by decide) dX1_init_26 ?_
  refine sw_ins (pc2 := 29) rfl rfl ?_
  refine sw_dup dX1_init_29 rfl ?_
  refine sw_callI (ret2 := none) (k2 := 30) (n2 := 600) l0_X2_init mi_X1_17 mj_X1_17 rfl (I_9 (aw := am_up (am_up (aw) 7 (am_O 0 [.ref 8, .int 0])) 8 (am_R RX2 6 (fun _ => none))) (fun c h1 h2 => by rw [am_up_ne _ _ (by omega), am_up_ne _ _ (by omega)]; exact hz c (by omega) (by omega))) rfl rfl (by decide) (Nat.le_of_ble_eq_true rfl) (Nat.le_of_ble_eq_true rfl) (by decide) (by decide) dX1_init_30 ?_
  refine sw_aast (0) (by decide) (f := (fun _ => none)) (nn := 6) rfl (by decide) (ci := 1) (fs := isf 9) (hz 9 (by decide) (by decide)) rfl rfl (by decide) (by decide) dX1_init_33 ?_
  refine sw_weq (aw2 := am_up (am_up (aw) 7 (am_O 0 [.ref 8, .int 0])) 8 (am_R RX2 6 (va_up (fun _ => none) 0 (some 9)))) ?_ ?_
  ·
    funext c
    by_cases e7 : c = 7
    · subst e7
      rfl
    by_cases e8 : c = 8
    · subst e8
      rfl
    simp only [am_up_ne _ _ e7, am_up_ne _ _ e8]
  refine sw_iinc (i := 1) (v := nI 1) dX1_init_34 rfl (by decide) (Nat.le_of_ble_eq_true rfl) rfl ?_
  refine sw_lo (lo2 := [some (.ref 7), some (.int _)]) rfl ?_
  refine sw_goto (tgt := 15) dX1_init_37 rfl ?_
  refine sw_iload_n (i := 1) dX1_init_15 rfl rfl ?_
  refine sw_bi 6 dX1_init_16 (by decide +kernel) ?_
  refine sw_ic_ge (tgt := 40) dX1_init_18 rfl (fun h9 => absurd h9 (by decide)) (fun _ => ?_)
  refine sw_ins (pc2 := 21) rfl rfl ?_
  refine sw_aload_n (i := 0) dX1_init_21 rfl rfl ?_
  refine sw_get (fs := [.ref 8, .int 0]) f_X1_11 (by decide) rfl (v := .ref 8) rfl dX1_init_22 ?_
  refine sw_iload_n (i := 1) dX1_init_25 rfl rfl ?_
  refine sw_new (k2 := 29) (n2 := 588) fs0_X2 nw_X1_9 (fun _ => am_vs0 (by decide)) (by decide) (by decide) (by decide) dX1_init_26 ?_
  refine sw_dup dX1_init_29 rfl ?_
  refine sw_callI (ret2 := none) (k2 := 24) (n2 := 480) l0_X2_init mi_X1_17 mj_X1_17 rfl (I_15 (aw := am_up (am_up (aw) 7 (am_O 0 [.ref 8, .int 0])) 8 (am_R RX2 6 (va_up (fun _ => none) 0 (some 9)))) (fun c h1 h2 => by rw [am_up_ne _ _ (by omega), am_up_ne _ _ (by omega)]; exact hz c (by omega) (by omega))) rfl rfl (by decide) (Nat.le_of_ble_eq_true rfl) (Nat.le_of_ble_eq_true rfl) (by decide) (by decide) dX1_init_30 ?_
  refine sw_aast (1) (by decide) (f := (va_up (fun _ => none) 0 (some 9))) (nn := 6) rfl (by decide) (ci := 1) (fs := isf 15) (hz 15 (by decide) (by decide)) rfl rfl (by decide) (by decide) dX1_init_33 ?_
  refine sw_weq (aw2 := am_up (am_up (aw) 7 (am_O 0 [.ref 8, .int 0])) 8 (am_R RX2 6 (va_up (va_up (fun _ => none) 0 (some 9)) 1 (some 15)))) ?_ ?_
  ·
    funext c
    by_cases e7 : c = 7
    · subst e7
      rfl
    by_cases e8 : c = 8
    · subst e8
      rfl
    simp only [am_up_ne _ _ e7, am_up_ne _ _ e8]
  refine sw_iinc (i := 1) (v := nI 2) dX1_init_34 rfl (by decide) (Nat.le_of_ble_eq_true rfl) rfl ?_
  refine sw_lo (lo2 := [some (.ref 7), some (.int _)]) rfl ?_
  refine sw_ins (pc2 := 37) rfl rfl ?_
  refine sw_goto (tgt := 15) dX1_init_37 rfl ?_
  refine sw_iload_n (i := 1) dX1_init_15 rfl rfl ?_
  refine sw_bi 6 dX1_init_16 (by decide +kernel) ?_
  refine sw_ic_ge (tgt := 40) dX1_init_18 rfl (fun h9 => absurd h9 (by decide)) (fun _ => ?_)
  refine sw_aload_n (i := 0) dX1_init_21 rfl rfl ?_
  refine sw_get (fs := [.ref 8, .int 0]) f_X1_11 (by decide) rfl (v := .ref 8) rfl dX1_init_22 ?_
  refine sw_iload_n (i := 1) dX1_init_25 rfl rfl ?_
  refine sw_new (k2 := 23) (n2 := 468) fs0_X2 nw_X1_9 (fun _ => am_vs0 (by decide)) (by decide) (by decide) (by decide) dX1_init_26 ?_
  refine sw_ins (pc2 := 29) rfl rfl ?_
  refine sw_dup dX1_init_29 rfl ?_
  refine sw_callI (ret2 := none) (k2 := 18) (n2 := 360) l0_X2_init mi_X1_17 mj_X1_17 rfl (I_21 (aw := am_up (am_up (aw) 7 (am_O 0 [.ref 8, .int 0])) 8 (am_R RX2 6 (va_up (va_up (fun _ => none) 0 (some 9)) 1 (some 15)))) (fun c h1 h2 => by rw [am_up_ne _ _ (by omega), am_up_ne _ _ (by omega)]; exact hz c (by omega) (by omega))) rfl rfl (by decide) (Nat.le_of_ble_eq_true rfl) (Nat.le_of_ble_eq_true rfl) (by decide) (by decide) dX1_init_30 ?_
  refine sw_aast (2) (by decide) (f := (va_up (va_up (fun _ => none) 0 (some 9)) 1 (some 15))) (nn := 6) rfl (by decide) (ci := 1) (fs := isf 21) (hz 21 (by decide) (by decide)) rfl rfl (by decide) (by decide) dX1_init_33 ?_
  refine sw_weq (aw2 := am_up (am_up (aw) 7 (am_O 0 [.ref 8, .int 0])) 8 (am_R RX2 6 (va_up (va_up (va_up (fun _ => none) 0 (some 9)) 1 (some 15)) 2 (some 21)))) ?_ ?_
  ·
    funext c
    by_cases e7 : c = 7
    · subst e7
      rfl
    by_cases e8 : c = 8
    · subst e8
      rfl
    simp only [am_up_ne _ _ e7, am_up_ne _ _ e8]
  refine sw_iinc (i := 1) (v := nI 3) dX1_init_34 rfl (by decide) (Nat.le_of_ble_eq_true rfl) rfl ?_
  refine sw_lo (lo2 := [some (.ref 7), some (.int _)]) rfl ?_
  refine sw_goto (tgt := 15) dX1_init_37 rfl ?_
  refine sw_iload_n (i := 1) dX1_init_15 rfl rfl ?_
  refine sw_bi 6 dX1_init_16 (by decide +kernel) ?_
  refine sw_ic_ge (tgt := 40) dX1_init_18 rfl (fun h9 => absurd h9 (by decide)) (fun _ => ?_)
  refine sw_ins (pc2 := 21) rfl rfl ?_
  refine sw_aload_n (i := 0) dX1_init_21 rfl rfl ?_
  refine sw_get (fs := [.ref 8, .int 0]) f_X1_11 (by decide) rfl (v := .ref 8) rfl dX1_init_22 ?_
  refine sw_iload_n (i := 1) dX1_init_25 rfl rfl ?_
  refine sw_new (k2 := 17) (n2 := 348) fs0_X2 nw_X1_9 (fun _ => am_vs0 (by decide)) (by decide) (by decide) (by decide) dX1_init_26 ?_
  refine sw_dup dX1_init_29 rfl ?_
  refine sw_callI (ret2 := none) (k2 := 12) (n2 := 240) l0_X2_init mi_X1_17 mj_X1_17 rfl (I_27 (aw := am_up (am_up (aw) 7 (am_O 0 [.ref 8, .int 0])) 8 (am_R RX2 6 (va_up (va_up (va_up (fun _ => none) 0 (some 9)) 1 (some 15)) 2 (some 21)))) (fun c h1 h2 => by rw [am_up_ne _ _ (by omega), am_up_ne _ _ (by omega)]; exact hz c (by omega) (by omega))) rfl rfl (by decide) (Nat.le_of_ble_eq_true rfl) (Nat.le_of_ble_eq_true rfl) (by decide) (by decide) dX1_init_30 ?_
  refine sw_aast (3) (by decide) (f := (va_up (va_up (va_up (fun _ => none) 0 (some 9)) 1 (some 15)) 2 (some 21))) (nn := 6) rfl (by decide) (ci := 1) (fs := isf 27) (hz 27 (by decide) (by decide)) rfl rfl (by decide) (by decide) dX1_init_33 ?_
  refine sw_weq (aw2 := am_up (am_up (aw) 7 (am_O 0 [.ref 8, .int 0])) 8 (am_R RX2 6 (va_up (va_up (va_up (va_up (fun _ => none) 0 (some 9)) 1 (some 15)) 2 (some 21)) 3 (some 27)))) ?_ ?_
  ·
    funext c
    by_cases e7 : c = 7
    · subst e7
      rfl
    by_cases e8 : c = 8
    · subst e8
      rfl
    simp only [am_up_ne _ _ e7, am_up_ne _ _ e8]
  refine sw_iinc (i := 1) (v := nI 4) dX1_init_34 rfl (by decide) (Nat.le_of_ble_eq_true rfl) rfl ?_
  refine sw_lo (lo2 := [some (.ref 7), some (.int _)]) rfl ?_
  refine sw_ins (pc2 := 37) rfl rfl ?_
  refine sw_goto (tgt := 15) dX1_init_37 rfl ?_
  refine sw_iload_n (i := 1) dX1_init_15 rfl rfl ?_
  refine sw_bi 6 dX1_init_16 (by decide +kernel) ?_
  refine sw_ic_ge (tgt := 40) dX1_init_18 rfl (fun h9 => absurd h9 (by decide)) (fun _ => ?_)
  refine sw_aload_n (i := 0) dX1_init_21 rfl rfl ?_
  refine sw_get (fs := [.ref 8, .int 0]) f_X1_11 (by decide) rfl (v := .ref 8) rfl dX1_init_22 ?_
  refine sw_iload_n (i := 1) dX1_init_25 rfl rfl ?_
  refine sw_new (k2 := 11) (n2 := 228) fs0_X2 nw_X1_9 (fun _ => am_vs0 (by decide)) (by decide) (by decide) (by decide) dX1_init_26 ?_
  refine sw_ins (pc2 := 29) rfl rfl ?_
  refine sw_dup dX1_init_29 rfl ?_
  refine sw_callI (ret2 := none) (k2 := 6) (n2 := 120) l0_X2_init mi_X1_17 mj_X1_17 rfl (I_33 (aw := am_up (am_up (aw) 7 (am_O 0 [.ref 8, .int 0])) 8 (am_R RX2 6 (va_up (va_up (va_up (va_up (fun _ => none) 0 (some 9)) 1 (some 15)) 2 (some 21)) 3 (some 27)))) (fun c h1 h2 => by rw [am_up_ne _ _ (by omega), am_up_ne _ _ (by omega)]; exact hz c (by omega) (by omega))) rfl rfl (by decide) (Nat.le_of_ble_eq_true rfl) (Nat.le_of_ble_eq_true rfl) (by decide) (by decide) dX1_init_30 ?_
  refine sw_aast (4) (by decide) (f := (va_up (va_up (va_up (va_up (fun _ => none) 0 (some 9)) 1 (some 15)) 2 (some 21)) 3 (some 27))) (nn := 6) rfl (by decide) (ci := 1) (fs := isf 33) (hz 33 (by decide) (by decide)) rfl rfl (by decide) (by decide) dX1_init_33 ?_
  refine sw_weq (aw2 := am_up (am_up (aw) 7 (am_O 0 [.ref 8, .int 0])) 8 (am_R RX2 6 (va_up (va_up (va_up (va_up (va_up (fun _ => none) 0 (some 9)) 1 (some 15)) 2 (some 21)) 3 (some 27)) 4 (some 33)))) ?_ ?_
  ·
    funext c
    by_cases e7 : c = 7
    · subst e7
      rfl
    by_cases e8 : c = 8
    · subst e8
      rfl
    simp only [am_up_ne _ _ e7, am_up_ne _ _ e8]
  refine sw_iinc (i := 1) (v := nI 5) dX1_init_34 rfl (by decide) (Nat.le_of_ble_eq_true rfl) rfl ?_
  refine sw_lo (lo2 := [some (.ref 7), some (.int _)]) rfl ?_
  refine sw_goto (tgt := 15) dX1_init_37 rfl ?_
  refine sw_iload_n (i := 1) dX1_init_15 rfl rfl ?_
  refine sw_bi 6 dX1_init_16 (by decide +kernel) ?_
  refine sw_ic_ge (tgt := 40) dX1_init_18 rfl (fun h9 => absurd h9 (by decide)) (fun _ => ?_)
  refine sw_ins (pc2 := 21) rfl rfl ?_
  refine sw_aload_n (i := 0) dX1_init_21 rfl rfl ?_
  refine sw_get (fs := [.ref 8, .int 0]) f_X1_11 (by decide) rfl (v := .ref 8) rfl dX1_init_22 ?_
  refine sw_iload_n (i := 1) dX1_init_25 rfl rfl ?_
  refine sw_new (k2 := 5) (n2 := 108) fs0_X2 nw_X1_9 (fun _ => am_vs0 (by decide)) (by decide) (by decide) (by decide) dX1_init_26 ?_
  refine sw_dup dX1_init_29 rfl ?_
  refine sw_callI (ret2 := none) (k2 := 0) (n2 := 0) l0_X2_init mi_X1_17 mj_X1_17 rfl (I_39 (aw := am_up (am_up (aw) 7 (am_O 0 [.ref 8, .int 0])) 8 (am_R RX2 6 (va_up (va_up (va_up (va_up (va_up (fun _ => none) 0 (some 9)) 1 (some 15)) 2 (some 21)) 3 (some 27)) 4 (some 33)))) (fun c h1 h2 => by rw [am_up_ne _ _ (by omega), am_up_ne _ _ (by omega)]; exact hz c (by omega) (by omega))) rfl rfl (by decide) (Nat.le_of_ble_eq_true rfl) (Nat.le_of_ble_eq_true rfl) (by decide) (by decide) dX1_init_30 ?_
  refine sw_aast (5) (by decide) (f := (va_up (va_up (va_up (va_up (va_up (fun _ => none) 0 (some 9)) 1 (some 15)) 2 (some 21)) 3 (some 27)) 4 (some 33))) (nn := 6) rfl (by decide) (ci := 1) (fs := isf 39) (hz 39 (by decide) (by decide)) rfl rfl (by decide) (by decide) dX1_init_33 ?_
  refine sw_weq (aw2 := am_up (am_up (aw) 7 (am_O 0 [.ref 8, .int 0])) 8 (am_R RX2 6 (va_up (va_up (va_up (va_up (va_up (va_up (fun _ => none) 0 (some 9)) 1 (some 15)) 2 (some 21)) 3 (some 27)) 4 (some 33)) 5 (some 39)))) ?_ ?_
  ·
    funext c
    by_cases e7 : c = 7
    · subst e7
      rfl
    by_cases e8 : c = 8
    · subst e8
      rfl
    simp only [am_up_ne _ _ e7, am_up_ne _ _ e8]
  refine sw_iinc (i := 1) (v := nI 6) dX1_init_34 rfl (by decide) (Nat.le_of_ble_eq_true rfl) rfl ?_
  refine sw_lo (lo2 := [some (.ref 7), some (.int _)]) rfl ?_
  refine sw_ins (pc2 := 37) rfl rfl ?_
  refine sw_goto (tgt := 15) dX1_init_37 rfl ?_
  refine sw_iload_n (i := 1) dX1_init_15 rfl rfl ?_
  refine sw_bi 6 dX1_init_16 (by decide +kernel) ?_
  refine sw_ic_ge (tgt := 40) dX1_init_18 rfl (fun _ => ?_) (fun h9 => absurd (by decide) h9)
  refine sw_weq (aw2 := aw) ?_ ?_
  ·
    funext c
    by_cases e7 : c = 7
    · subst e7
      exact (hz 7 (by decide) (by decide)).symm
    by_cases e8 : c = 8
    · subst e8
      exact (hz 8 (by decide) (by decide)).symm
    simp only [am_up_ne _ _ e7, am_up_ne _ _ e8]
  exact sw_return rfl dX1_init_40
set_option maxRecDepth 100000 in
set_option maxHeartbeats 4000000 in
theorem T_45 {aw : Nat → am_E} (hz : ∀ c, 45 ≤ c → c < 48 → aw c = z0 c) : am_AM kX5_init yX5_init 1 [.ref 45] 46 (am_up aw 45 (am_O 3 fs0_X5)) none 48 (aw) 2 104 := by
  refine am_of pl_X5_init (Nat.le_of_ble_eq_true rfl) ?_
  refine sw_aload_n (i := 0) dX5_init_0 rfl rfl ?_
  refine sw_oinit oi_X5_3 (by decide) (Nat.le_of_ble_eq_true rfl) dX5_init_1 ?_
  refine sw_aload_n (i := 0) dX5_init_4 rfl rfl ?_
  refine sw_bi 100 dX5_init_5 (by decide +kernel) ?_
  refine sw_newI (k2 := 1) (n2 := 4) ac_i rfl (fun _ => rfl) (nn := 100) rfl (by decide) (by decide) (by decide) (by decide) (by decide) dX5_init_7 ?_
  refine sw_weq (aw2 := am_up (aw) 45 (am_O 3 fs0_X5)) ?_ ?_
  ·
    funext c
    by_cases e45 : c = 45
    · subst e45
      rfl
    by_cases e46 : c = 46
    · subst e46
      exact (hz 46 (by decide) (by decide)).symm
    simp only [am_up_ne _ _ e45, am_up_ne _ _ e46]
  refine sw_putR rfl fp_X5_9 (fun _ => ⟨rfl, rfl⟩) (by decide) (fs := fs0_X5) rfl (by decide) dX5_init_9 ?_
  refine sw_weq (aw2 := am_up (aw) 45 (am_O 3 [.ref 46, .null])) ?_ ?_
  ·
    funext c
    by_cases e45 : c = 45
    · subst e45
      rfl
    simp only [am_up_ne _ _ e45]
  refine sw_aload_n (i := 0) dX5_init_12 rfl rfl ?_
  refine sw_ins (pc2 := 13) rfl rfl ?_
  refine sw_ic 4 dX5_init_13 ?_
  refine sw_newI (k2 := 0) (n2 := 0) ac_i rfl (fun _ => rfl) (nn := 4) rfl (by decide) (by decide) (by decide) (by decide) (by decide) dX5_init_14 ?_
  refine sw_weq (aw2 := am_up (aw) 45 (am_O 3 [.ref 46, .null])) ?_ ?_
  ·
    funext c
    by_cases e45 : c = 45
    · subst e45
      rfl
    by_cases e47 : c = 47
    · subst e47
      exact (hz 47 (by decide) (by decide)).symm
    simp only [am_up_ne _ _ e45, am_up_ne _ _ e47]
  refine sw_putR rfl fp_X5_15 (fun _ => ⟨rfl, rfl⟩) (by decide) (fs := [.ref 46, .null]) rfl (by decide) dX5_init_16 ?_
  refine sw_weq (aw2 := am_up (aw) 45 (am_O 3 [.ref 46, .ref 47])) ?_ ?_
  ·
    funext c
    by_cases e45 : c = 45
    · subst e45
      rfl
    simp only [am_up_ne _ _ e45]
  refine sw_weq (aw2 := aw) ?_ ?_
  ·
    funext c
    by_cases e45 : c = 45
    · subst e45
      exact (hz 45 (by decide) (by decide)).symm
    simp only [am_up_ne _ _ e45]
  exact sw_return rfl dX5_init_19
set_option maxRecDepth 100000 in
set_option maxHeartbeats 4000000 in
theorem X_48 {aw : Nat → am_E} (hz : ∀ c, 48 ≤ c → c < 50 → aw c = z0 c) : am_AM kX4_init yX4_init 1 [.ref 48] 49 (am_up aw 48 (am_O 2 fs0_X4)) none 50 (aw) 1 60 := by
  refine am_of pl_X4_init (Nat.le_of_ble_eq_true rfl) ?_
  refine sw_aload_n (i := 0) dX4_init_0 rfl rfl ?_
  refine sw_oinit oi_X4_3 (by decide) (Nat.le_of_ble_eq_true rfl) dX4_init_1 ?_
  refine sw_aload_n (i := 0) dX4_init_4 rfl rfl ?_
  refine sw_bi 60 dX4_init_5 (by decide +kernel) ?_
  refine sw_newI (k2 := 0) (n2 := 0) ac_c rfl (fun _ => rfl) (nn := 60) rfl (by decide) (by decide) (by decide) (by decide) (by decide) dX4_init_7 ?_
  refine sw_weq (aw2 := am_up (aw) 48 (am_O 2 fs0_X4)) ?_ ?_
  ·
    funext c
    by_cases e48 : c = 48
    · subst e48
      rfl
    by_cases e49 : c = 49
    · subst e49
      exact (hz 49 (by decide) (by decide)).symm
    simp only [am_up_ne _ _ e48, am_up_ne _ _ e49]
  refine sw_putR rfl fp_X4_9 (fun _ => ⟨rfl, rfl⟩) (by decide) (fs := fs0_X4) rfl (by decide) dX4_init_9 ?_
  refine sw_weq (aw2 := am_up (aw) 48 (am_O 2 [.ref 49, .int 0])) ?_ ?_
  ·
    funext c
    by_cases e48 : c = 48
    · subst e48
      rfl
    simp only [am_up_ne _ _ e48]
  refine sw_weq (aw2 := aw) ?_ ?_
  ·
    funext c
    by_cases e48 : c = 48
    · subst e48
      exact (hz 48 (by decide) (by decide)).symm
    simp only [am_up_ne _ _ e48]
  exact sw_return rfl dX4_init_12
set_option maxRecDepth 100000 in
set_option maxHeartbeats 4000000 in
theorem S_0 {aw : Nat → am_E} (hz : ∀ c, 0 ≤ c → c < 65 → aw c = z0 c) : am_AM kX6_init yX6_init 3 [.ref 0] 1 (am_up aw 0 (am_O 4 fs0_X6)) none 65 (aw) 64 1268 := by
  refine am_of pl_X6_init (Nat.le_of_ble_eq_true rfl) ?_
  refine sw_aload_n (i := 0) dX6_init_0 rfl rfl ?_
  refine sw_oinit oi_X6_1 (by decide) (Nat.le_of_ble_eq_true rfl) dX6_init_1 ?_
  refine sw_aload_n (i := 0) dX6_init_4 rfl rfl ?_
  refine sw_new (k2 := 63) (n2 := 1256) fs0_X2 nw_X6_7 (fun _ => am_vs0 (by decide)) (by decide) (by decide) (by decide) dX6_init_5 ?_
  refine sw_dup dX6_init_8 rfl ?_
  refine sw_callI (ret2 := none) (k2 := 58) (n2 := 1148) l0_X2_init mi_X6_9 mj_X6_9 rfl (I_1 (aw := am_up (aw) 0 (am_O 4 fs0_X6)) (fun c h1 h2 => by rw [am_up_ne _ _ (by omega)]; exact hz c (by omega) (by omega))) rfl rfl (by decide) (Nat.le_of_ble_eq_true rfl) (Nat.le_of_ble_eq_true rfl) (by decide) (by decide) dX6_init_9 ?_
  refine sw_putR rfl fp_X6_10 (fun _ => ⟨rfl, rfl⟩) (by decide) (fs := fs0_X6) rfl (by decide) dX6_init_12 ?_
  refine sw_weq (aw2 := am_up (aw) 0 (am_O 4 [.ref 1, .null, .null, .null, .null, .null, .null])) ?_ ?_
  ·
    funext c
    by_cases e0 : c = 0
    · subst e0
      rfl
    simp only [am_up_ne _ _ e0]
  refine sw_ins (pc2 := 15) rfl rfl ?_
  refine sw_aload_n (i := 0) dX6_init_15 rfl rfl ?_
  refine sw_new (k2 := 57) (n2 := 1146) fs0_X1 nw_X6_16 (fun _ => am_vs0 (by decide)) (by decide) (by decide) (by decide) dX6_init_16 ?_
  refine sw_dup dX6_init_19 rfl ?_
  refine sw_callI (ret2 := none) (k2 := 20) (n2 := 420) l0_X1_init mi_X6_18 mj_X6_18 rfl (H_7 (aw := am_up (aw) 0 (am_O 4 [.ref 1, .null, .null, .null, .null, .null, .null])) (fun c h1 h2 => by rw [am_up_ne _ _ (by omega)]; exact hz c (by omega) (by omega))) rfl rfl (by decide) (Nat.le_of_ble_eq_true rfl) (Nat.le_of_ble_eq_true rfl) (by decide) (by decide) dX6_init_20 ?_
  refine sw_putR rfl fp_X6_19 (fun _ => ⟨rfl, rfl⟩) (by decide) (fs := [.ref 1, .null, .null, .null, .null, .null, .null]) rfl (by decide) dX6_init_23 ?_
  refine sw_weq (aw2 := am_up (aw) 0 (am_O 4 [.ref 1, .ref 7, .null, .null, .null, .null, .null])) ?_ ?_
  ·
    funext c
    by_cases e0 : c = 0
    · subst e0
      rfl
    simp only [am_up_ne _ _ e0]
  refine sw_aload_n (i := 0) dX6_init_26 rfl rfl ?_
  refine sw_new (k2 := 19) (n2 := 418) fs0_X5 nw_X6_23 (fun _ => am_vs0 (by decide)) (by decide) (by decide) (by decide) dX6_init_27 ?_
  refine sw_dup dX6_init_30 rfl ?_
  refine sw_callIN (ret2 := none) (k2 := 17) (n2 := 314) l0_X5_init (fun _ _ _ _ h9 => h9.2.2.2.2.2.2.1) mj_X6_25 rfl (T_45 (aw := am_up (aw) 0 (am_O 4 [.ref 1, .ref 7, .null, .null, .null, .null, .null])) (fun c h1 h2 => by rw [am_up_ne _ _ (by omega)]; exact hz c (by omega) (by omega))) rfl rfl (by decide) (Nat.le_of_ble_eq_true rfl) (Nat.le_of_ble_eq_true rfl) (by decide) (by decide) dX6_init_31 ?_
  refine sw_putR rfl fp_X6_26 (fun _ => ⟨rfl, rfl⟩) (by decide) (fs := [.ref 1, .ref 7, .null, .null, .null, .null, .null]) rfl (by decide) dX6_init_34 ?_
  refine sw_weq (aw2 := am_up (aw) 0 (am_O 4 [.ref 1, .ref 7, .ref 45, .null, .null, .null, .null])) ?_ ?_
  ·
    funext c
    by_cases e0 : c = 0
    · subst e0
      rfl
    simp only [am_up_ne _ _ e0]
  refine sw_aload_n (i := 0) dX6_init_37 rfl rfl ?_
  refine sw_new (k2 := 16) (n2 := 312) fs0_X4 nw_X6_30 (fun _ => am_vs0 (by decide)) (by decide) (by decide) (by decide) dX6_init_38 ?_
  refine sw_dup dX6_init_41 rfl ?_
  refine sw_callIN (ret2 := none) (k2 := 15) (n2 := 252) l0_X4_init (fun _ _ _ _ h9 => h9.2.2.2.2.2.2.2) mj_X6_32 rfl (X_48 (aw := am_up (aw) 0 (am_O 4 [.ref 1, .ref 7, .ref 45, .null, .null, .null, .null])) (fun c h1 h2 => by rw [am_up_ne _ _ (by omega)]; exact hz c (by omega) (by omega))) rfl rfl (by decide) (Nat.le_of_ble_eq_true rfl) (Nat.le_of_ble_eq_true rfl) (by decide) (by decide) dX6_init_42 ?_
  refine sw_putR rfl fp_X6_33 (fun _ => ⟨rfl, rfl⟩) (by decide) (fs := [.ref 1, .ref 7, .ref 45, .null, .null, .null, .null]) rfl (by decide) dX6_init_45 ?_
  refine sw_weq (aw2 := am_up (aw) 0 (am_O 4 [.ref 1, .ref 7, .ref 45, .ref 48, .null, .null, .null])) ?_ ?_
  ·
    funext c
    by_cases e0 : c = 0
    · subst e0
      rfl
    simp only [am_up_ne _ _ e0]
  refine sw_aload_n (i := 0) dX6_init_48 rfl rfl ?_
  refine sw_ins (pc2 := 49) rfl rfl ?_
  refine sw_ic 2 dX6_init_49 ?_
  refine sw_newR (k2 := 14) (n2 := 250) an_X6_7 (nn := 2) rfl (by decide) (by decide) (by decide) (by decide) (by decide) dX6_init_50 ?_
  refine sw_putR rfl fp_X6_37 (fun _ => ⟨rfl, rfl⟩) (by decide) (fs := [.ref 1, .ref 7, .ref 45, .ref 48, .null, .null, .null]) rfl (by decide) dX6_init_53 ?_
  refine sw_weq (aw2 := am_up (am_up (aw) 0 (am_O 4 [.ref 1, .ref 7, .ref 45, .ref 48, .ref 50, .null, .null])) 50 (am_R RX2 2 (fun _ => none))) ?_ ?_
  ·
    funext c
    by_cases e0 : c = 0
    · subst e0
      rfl
    by_cases e50 : c = 50
    · subst e50
      rfl
    simp only [am_up_ne _ _ e0, am_up_ne _ _ e50]
  refine sw_aload_n (i := 0) dX6_init_56 rfl rfl ?_
  refine sw_ic 2 dX6_init_57 ?_
  refine sw_newI (k2 := 13) (n2 := 248) ac_z rfl (fun _ => rfl) (nn := 2) rfl (by decide) (by decide) (by decide) (by decide) (by decide) dX6_init_58 ?_
  refine sw_weq (aw2 := am_up (am_up (aw) 0 (am_O 4 [.ref 1, .ref 7, .ref 45, .ref 48, .ref 50, .null, .null])) 50 (am_R RX2 2 (fun _ => none))) ?_ ?_
  ·
    funext c
    by_cases e0 : c = 0
    · subst e0
      rfl
    by_cases e50 : c = 50
    · subst e50
      rfl
    by_cases e51 : c = 51
    · subst e51
      exact (hz 51 (by decide) (by decide)).symm
    simp only [am_up_ne _ _ e0, am_up_ne _ _ e50, am_up_ne _ _ e51]
  refine sw_putR rfl fp_X6_41 (fun _ => ⟨rfl, rfl⟩) (by decide) (fs := [.ref 1, .ref 7, .ref 45, .ref 48, .ref 50, .null, .null]) rfl (by decide) dX6_init_60 ?_
  refine sw_weq (aw2 := am_up (am_up (aw) 0 (am_O 4 [.ref 1, .ref 7, .ref 45, .ref 48, .ref 50, .ref 51, .null])) 50 (am_R RX2 2 (fun _ => none))) ?_ ?_
  ·
    funext c
    by_cases e0 : c = 0
    · subst e0
      rfl
    by_cases e50 : c = 50
    · subst e50
      rfl
    simp only [am_up_ne _ _ e0, am_up_ne _ _ e50]
  refine sw_aload_n (i := 0) dX6_init_63 rfl rfl ?_
  refine sw_ins (pc2 := 64) rfl rfl ?_
  refine sw_bi 8 dX6_init_64 (by decide +kernel) ?_
  refine sw_newI (k2 := 12) (n2 := 240) ac_i rfl (fun _ => rfl) (nn := 8) rfl (by decide) (by decide) (by decide) (by decide) (by decide) dX6_init_66 ?_
  refine sw_weq (aw2 := am_up (am_up (aw) 0 (am_O 4 [.ref 1, .ref 7, .ref 45, .ref 48, .ref 50, .ref 51, .null])) 50 (am_R RX2 2 (fun _ => none))) ?_ ?_
  ·
    funext c
    by_cases e0 : c = 0
    · subst e0
      rfl
    by_cases e50 : c = 50
    · subst e50
      rfl
    by_cases e52 : c = 52
    · subst e52
      exact (hz 52 (by decide) (by decide)).symm
    simp only [am_up_ne _ _ e0, am_up_ne _ _ e50, am_up_ne _ _ e52]
  refine sw_putR rfl fp_X6_45 (fun _ => ⟨rfl, rfl⟩) (by decide) (fs := [.ref 1, .ref 7, .ref 45, .ref 48, .ref 50, .ref 51, .null]) rfl (by decide) dX6_init_68 ?_
  refine sw_weq (aw2 := am_up (am_up (aw) 0 (am_O 4 [.ref 1, .ref 7, .ref 45, .ref 48, .ref 50, .ref 51, .ref 52])) 50 (am_R RX2 2 (fun _ => none))) ?_ ?_
  ·
    funext c
    by_cases e0 : c = 0
    · subst e0
      rfl
    by_cases e50 : c = 50
    · subst e50
      rfl
    simp only [am_up_ne _ _ e0, am_up_ne _ _ e50]
  refine sw_ic 0 dX6_init_71 ?_
  refine sw_istore_n (i := 1) dX6_init_72 rfl (Nat.le_of_ble_eq_true rfl) rfl ?_
  refine sw_lo (lo2 := [some (.ref 0), some (.int _)]) rfl ?_
  refine sw_iload_n (i := 1) dX6_init_73 rfl rfl ?_
  refine sw_ic 2 dX6_init_74 ?_
  refine sw_ic_ge (tgt := 97) dX6_init_75 rfl (fun h9 => absurd h9 (by decide)) (fun _ => ?_)
  refine sw_ins (pc2 := 78) rfl rfl ?_
  refine sw_aload_n (i := 0) dX6_init_78 rfl rfl ?_
  refine sw_get (fs := [.ref 1, .ref 7, .ref 45, .ref 48, .ref 50, .ref 51, .ref 52]) f_X6_37 (by decide) rfl (v := .ref 50) rfl dX6_init_79 ?_
  refine sw_iload_n (i := 1) dX6_init_82 rfl rfl ?_
  refine sw_new (k2 := 11) (n2 := 228) fs0_X2 nw_X6_7 (fun _ => am_vs0 (by decide)) (by decide) (by decide) (by decide) dX6_init_83 ?_
  refine sw_dup dX6_init_86 rfl ?_
  refine sw_callI (ret2 := none) (k2 := 6) (n2 := 120) l0_X2_init mi_X6_9 mj_X6_9 rfl (I_53 (aw := am_up (am_up (aw) 0 (am_O 4 [.ref 1, .ref 7, .ref 45, .ref 48, .ref 50, .ref 51, .ref 52])) 50 (am_R RX2 2 (fun _ => none))) (fun c h1 h2 => by rw [am_up_ne _ _ (by omega), am_up_ne _ _ (by omega)]; exact hz c (by omega) (by omega))) rfl rfl (by decide) (Nat.le_of_ble_eq_true rfl) (Nat.le_of_ble_eq_true rfl) (by decide) (by decide) dX6_init_87 ?_
  refine sw_aast (0) (by decide) (f := (fun _ => none)) (nn := 2) rfl (by decide) (ci := 1) (fs := isf 53) (hz 53 (by decide) (by decide)) rfl rfl (by decide) (by decide) dX6_init_90 ?_
  refine sw_weq (aw2 := am_up (am_up (aw) 0 (am_O 4 [.ref 1, .ref 7, .ref 45, .ref 48, .ref 50, .ref 51, .ref 52])) 50 (am_R RX2 2 (va_up (fun _ => none) 0 (some 53)))) ?_ ?_
  ·
    funext c
    by_cases e0 : c = 0
    · subst e0
      rfl
    by_cases e50 : c = 50
    · subst e50
      rfl
    simp only [am_up_ne _ _ e0, am_up_ne _ _ e50]
  refine sw_iinc (i := 1) (v := nI 1) dX6_init_91 rfl (by decide) (Nat.le_of_ble_eq_true rfl) rfl ?_
  refine sw_lo (lo2 := [some (.ref 0), some (.int _)]) rfl ?_
  refine sw_ins (pc2 := 94) rfl rfl ?_
  refine sw_goto (tgt := 73) dX6_init_94 rfl ?_
  refine sw_iload_n (i := 1) dX6_init_73 rfl rfl ?_
  refine sw_ic 2 dX6_init_74 ?_
  refine sw_ic_ge (tgt := 97) dX6_init_75 rfl (fun h9 => absurd h9 (by decide)) (fun _ => ?_)
  refine sw_aload_n (i := 0) dX6_init_78 rfl rfl ?_
  refine sw_get (fs := [.ref 1, .ref 7, .ref 45, .ref 48, .ref 50, .ref 51, .ref 52]) f_X6_37 (by decide) rfl (v := .ref 50) rfl dX6_init_79 ?_
  refine sw_iload_n (i := 1) dX6_init_82 rfl rfl ?_
  refine sw_new (k2 := 5) (n2 := 108) fs0_X2 nw_X6_7 (fun _ => am_vs0 (by decide)) (by decide) (by decide) (by decide) dX6_init_83 ?_
  refine sw_ins (pc2 := 86) rfl rfl ?_
  refine sw_dup dX6_init_86 rfl ?_
  refine sw_callI (ret2 := none) (k2 := 0) (n2 := 0) l0_X2_init mi_X6_9 mj_X6_9 rfl (I_59 (aw := am_up (am_up (aw) 0 (am_O 4 [.ref 1, .ref 7, .ref 45, .ref 48, .ref 50, .ref 51, .ref 52])) 50 (am_R RX2 2 (va_up (fun _ => none) 0 (some 53)))) (fun c h1 h2 => by rw [am_up_ne _ _ (by omega), am_up_ne _ _ (by omega)]; exact hz c (by omega) (by omega))) rfl rfl (by decide) (Nat.le_of_ble_eq_true rfl) (Nat.le_of_ble_eq_true rfl) (by decide) (by decide) dX6_init_87 ?_
  refine sw_aast (1) (by decide) (f := (va_up (fun _ => none) 0 (some 53))) (nn := 2) rfl (by decide) (ci := 1) (fs := isf 59) (hz 59 (by decide) (by decide)) rfl rfl (by decide) (by decide) dX6_init_90 ?_
  refine sw_weq (aw2 := am_up (am_up (aw) 0 (am_O 4 [.ref 1, .ref 7, .ref 45, .ref 48, .ref 50, .ref 51, .ref 52])) 50 (am_R RX2 2 (va_up (va_up (fun _ => none) 0 (some 53)) 1 (some 59)))) ?_ ?_
  ·
    funext c
    by_cases e0 : c = 0
    · subst e0
      rfl
    by_cases e50 : c = 50
    · subst e50
      rfl
    simp only [am_up_ne _ _ e0, am_up_ne _ _ e50]
  refine sw_iinc (i := 1) (v := nI 2) dX6_init_91 rfl (by decide) (Nat.le_of_ble_eq_true rfl) rfl ?_
  refine sw_lo (lo2 := [some (.ref 0), some (.int _)]) rfl ?_
  refine sw_goto (tgt := 73) dX6_init_94 rfl ?_
  refine sw_iload_n (i := 1) dX6_init_73 rfl rfl ?_
  refine sw_ic 2 dX6_init_74 ?_
  refine sw_ic_ge (tgt := 97) dX6_init_75 rfl (fun _ => ?_) (fun h9 => absurd (by decide) h9)
  refine sw_weq (aw2 := aw) ?_ ?_
  ·
    funext c
    by_cases e0 : c = 0
    · subst e0
      exact (hz 0 (by decide) (by decide)).symm
    by_cases e50 : c = 50
    · subst e50
      exact (hz 50 (by decide) (by decide)).symm
    simp only [am_up_ne _ _ e0, am_up_ne _ _ e50]
  exact sw_return rfl dX6_init_97
