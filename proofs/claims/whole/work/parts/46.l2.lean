/-! ONE CALL OF THE LAW (own work, written by wip/tools) -/
/-- one call through a wrapper: both sides answer alike, and hold one state again -/
def GG (c : Nat) (w0 : Cond) (y : MethodName) (lv : Nat) (as : List Value) (w1 : Cond) (y1 : MethodName) (lv1 : Nat) (as1 : List Value) (d : Nat → Nat → Int32) (r : Nat → Nat → Option Nat) (J : Nat → Nat → Int64) : Prop :=
  ∃ (k : Nat) (b : Int32) (d1 : Nat → Nat → Int32) (r1 : Nat → Nat → Option Nat) (J1 : Nat → Nat → Int64) (e1 : Nat → Nat → Int32), k ≤ 2 ∧ WP w0 y lv as d r J (some (.int (nI k))) d1 r1 J1 ∧ OP w1 y1 lv1 as1 d1 r1 J1 (some (.int b)) e1 r1 J1 ∧ e1 65 7 = nI k ∧ (k = 0 → J1 74 0 = b.toInt64) ∧ LI (c + 1) e1 r1
section GGS
variable {d : Nat → Nat → Int32} {r : Nat → Nat → Option Nat} {J : Nat → Nat → Int64} {V V' : Nat → Int32} {n n' : Nat} {H S H' S' : Nat → Nat → Int32} {t t' : Nat → Bool} {T T' : Nat → Int32} {tl tl' c k : Nat} {w0 w1 wc : Cond} {y y1 yc : MethodName} {lv lv1 lvc : Nat} {as as1 asc : List Value} {v : Int32}
theorem G_no (rc : RC d r V n H S t T tl) (iv : IV V n H S t T tl) (di : DI V n H S t tl c) (k1 : 1 ≤ k) (k2 : k ≤ 2) (hw : WP w0 y lv as d r J (some (.int (nI k))) d r J) (hm : ∃ d1, OP w1 y1 lv1 as1 d r J (some (.int (nI 0))) d1 r J ∧ RM d1 V n H S t T tl ∧ d1 65 7 = nI k ∧ fc d d1) : GG c w0 y lv as w1 y1 lv1 as1 d r J := by
  obtain ⟨d1, m1, m2, m3, m4⟩ := hm
  exact ⟨k, nI 0, d, r, J, d1, k2, hw, m1, m3, fun e => absurd e (by omega), V, n, H, S, t, T, tl, RC_fc rc m4, m2, iv, DI_same di (by omega)⟩
theorem G_ok (rm : RM d V n H S t T tl) (hc : ∃ d1 r1, OP wc yc lvc asc d r J (some (.int v)) d1 r1 J ∧ RC d1 r1 V' n' H' S' t' T' tl' ∧ fm d d1) (hw : ∀ d1 r1, OP wc yc lvc asc d r J (some (.int v)) d1 r1 J → WP w0 y lv as d r J (some (.int (nI 0))) d1 r1 (d2 J 74 0 v.toInt64)) (hm : ∀ d1 r1 J1, RM d1 V n H S t T tl → ∃ e1, OP w1 y1 lv1 as1 d1 r1 J1 (some (.int v)) e1 r1 J1 ∧ RM e1 V' n' H' S' t' T' tl' ∧ e1 65 7 = nI 0 ∧ fc d1 e1) (iv : IV V' n' H' S' t' T' tl') (di : DI V' n' H' S' t' tl' (c + 1)) : GG c w0 y lv as w1 y1 lv1 as1 d r J := by
  obtain ⟨d1, r1, c1, c2, c3⟩ := hc
  obtain ⟨e1, m1, m2, m3, m4⟩ := hm d1 r1 (d2 J 74 0 v.toInt64) (RM_fm rm c3)
  exact ⟨0, v, d1, r1, _, e1, by decide, hw d1 r1 c1, m1, m3, fun _ => d2_eq _ _ _ _, V', n', H', S', t', T', tl', RC_fc c2 m4, m2, iv, di⟩
theorem lk_r {P : (Nat → Nat → Int32) → (Nat → Nat → Option Nat) → Prop} (h : ∃ d1, P d1 r) : ∃ d1 r1, P d1 r1 := h.imp fun _ h => ⟨r, h⟩
end GGS

set_option maxRecDepth 100000 in
set_option maxHeartbeats 4000000 in
theorem G_storm {d : Nat → Nat → Int32} {r : Nat → Nat → Option Nat} {J : Nat → Nat → Int64} {c : Nat}  (g : LI c d r) (hc512 : c ≤ 512) : GG c kL_storm yL_storm 7 [.ref 0, .ref 74] kX7_storm yX7_storm 2 [.ref 65] d r J := by
  obtain ⟨V, n, H, S, t, T, tl, rc, rm, iv, di⟩ := g
  have h6 := rc6 rc
  by_cases hd : nI 9999 ≤ V 0
  ·
    exact G_no rc iv di (by decide) (by decide) (WT1_storm (T_storm rc iv hd)) (N_storm rm iv hd)
  ·
    exact G_ok rm (C_storm rc iv hd) (fun _ _ h => WC_storm h) (fun _ _ _ h => M_storm h iv hd) (IV_push h6 iv (ok_storm iv.1 hd) iv.2.2.2) (DI_push h6 di 1 (fun D h => dd_storm iv.1 hd h) (by omega))
set_option maxRecDepth 100000 in
set_option maxHeartbeats 4000000 in
theorem G_cross {d : Nat → Nat → Int32} {r : Nat → Nat → Option Nat} {J : Nat → Nat → Int64} {c : Nat} {a1 a2 : Int32} (g : LI c d r) (hc512 : c ≤ 512) : GG c kL_cross yL_cross 8 [.ref 0, .int a1, .int a2, .ref 74] kX7_cross yX7_cross 2 [.ref 65, .int a1, .int a2] d r J := by
  obtain ⟨V, n, H, S, t, T, tl, rc, rm, iv, di⟩ := g
  have h6 := rc6 rc
  rcases rng a1 (n := 8) (by have := iv.1.2.1.2; omega) with ⟨i, hi, rfl⟩ | hba1
  ·
    rcases rng a2 (n := 8) (by have := iv.1.2.1.2; omega) with ⟨o, ho, rfl⟩ | hba2
    ·
      exact G_ok rm (C_cross rc iv hi ho) (fun _ _ h => WC_cross h) (fun _ _ _ h => M_cross h iv hi ho) (IV_push h6 iv (ok_swp iv.1 hi ho) iv.2.2.2) (DI_push h6 di 0 (fun D h => dd_swp h hi ho) (by omega))
    ·
      exact G_no rc iv di (by decide) (by decide) (WT1_cross (T2_cross rc iv hi hba2)) (N2_cross rm iv hi hba2)
  ·
    exact G_no rc iv di (by decide) (by decide) (WT1_cross (T1_cross rc iv hba1)) (N1_cross rm iv hba1)
set_option maxRecDepth 100000 in
set_option maxHeartbeats 4000000 in
theorem G_trade {d : Nat → Nat → Int32} {r : Nat → Nat → Option Nat} {J : Nat → Nat → Int64} {c : Nat} {a1 a2 a3 a4 a5 a6 : Int32} (g : LI c d r) (hc512 : c ≤ 512) : GG c kL_trade yL_trade 8 [.ref 0, .int a1, .int a2, .int a3, .int a4, .int a5, .int a6, .ref 74] kX7_trade yX7_trade 2 [.ref 65, .int a1, .int a2, .int a3, .int a4, .int a5, .int a6] d r J := by
  obtain ⟨V, n, H, S, t, T, tl, rc, rm, iv, di⟩ := g
  have h6 := rc6 rc
  rcases rng a1 (n := 8) (by have := iv.1.2.1.2; omega) with ⟨a, ha, rfl⟩ | hba1
  ·
    rcases rng a2 (n := 4) (by have := iv.1.2.1.2; omega) with ⟨c, hc, rfl⟩ | hba2
    ·
      rcases rng a4 (n := 8) (by have := iv.1.2.1.2; omega) with ⟨b, hb, rfl⟩ | hba4
      ·
        rcases rng a5 (n := 4) (by have := iv.1.2.1.2; omega) with ⟨e, he, rfl⟩ | hba5
        ·
          by_cases hab : nI a = nI b
          ·
            have e9 : a = b := (nI_eq (by omega) (by omega)).mp hab
            subst e9
            exact G_no rc iv di (by decide) (by decide) (WT2_trade (T5_trade rc iv ha hc he)) (N5_trade rm iv ha hc hb he rfl)
          ·
            rcases rng2 a3 (lo := 0) (hi := 99) (by decide) (by decide) with ⟨x, hx0, hx, rfl⟩ | hba3
            ·
              rcases rng2 a6 (lo := 0) (hi := 99) (by decide) (by decide) with ⟨y, hy0, hy, rfl⟩ | hba6
              ·
                exact G_ok rm (C_trade rc iv ha hc hb he hab hx hy) (fun _ _ h => WC_trade h) (fun _ _ _ h => M_trade h iv ha hc hb he hab hx hy) (IV_push h6 iv (ok_trd iv.1 ha hc hb he (fun q => hab (by rw [q])) hx hy) iv.2.2.2) (DI_push h6 di 0 (fun D h => dd_trd h ha hc hb he) (by omega))
              ·
                exact G_no rc iv di (by decide) (by decide) (WT2_trade (T7_trade rc iv ha hc hb he hab hx hba6)) (N7_trade rm iv ha hc hb he hab hx hba6)
            ·
              exact G_no rc iv di (by decide) (by decide) (WT2_trade (T6_trade rc iv ha hc hb he hab hba3)) (N6_trade rm iv ha hc hb he hab hba3)
        ·
          exact G_no rc iv di (by decide) (by decide) (WT1_trade (T4_trade rc iv ha hc hb hba5)) (N4_trade rm iv ha hc hb hba5)
      ·
        exact G_no rc iv di (by decide) (by decide) (WT1_trade (T3_trade rc iv ha hc hba4)) (N3_trade rm iv ha hba4)
    ·
      rcases rng a4 (n := 8) (by have := iv.1.2.1.2; omega) with ⟨b, hb, rfl⟩ | hba4
      ·
        exact G_no rc iv di (by decide) (by decide) (WT1_trade (T2_trade rc iv ha hba2)) (N2_trade rm iv ha hb hba2)
      ·
        exact G_no rc iv di (by decide) (by decide) (WT1_trade (T2_trade rc iv ha hba2)) (N3_trade rm iv ha hba4)
  ·
    exact G_no rc iv di (by decide) (by decide) (WT1_trade (T1_trade rc iv hba1)) (N1_trade rm iv hba1)
set_option maxRecDepth 100000 in
set_option maxHeartbeats 4000000 in
theorem G_worth {d : Nat → Nat → Int32} {r : Nat → Nat → Option Nat} {J : Nat → Nat → Int64} {c : Nat} {a1 a2 : Int32} (g : LI c d r) (hc512 : c ≤ 512) : GG c kL_worth yL_worth 8 [.ref 0, .int a1, .int a2, .ref 74] kX7_worth yX7_worth 2 [.ref 65, .int a1, .int a2] d r J := by
  obtain ⟨V, n, H, S, t, T, tl, rc, rm, iv, di⟩ := g
  have h6 := rc6 rc
  rcases rng a1 (n := 4) (by have := iv.1.2.1.2; omega) with ⟨c, hc, rfl⟩ | hba1
  ·
    rcases rng2 a2 (lo := 1) (hi := 9) (by decide) (by decide) with ⟨w, hw, hw9, rfl⟩ | hba2
    ·
      exact G_ok rm (C_worth rc iv hc hw hw9) (fun _ _ h => WC_worth h) (fun _ _ _ h => M_worth h iv hc hw hw9) (IV_push h6 iv (ok_worth iv.1 hc hw hw9) iv.2.2.2) (DI_push h6 di 0 (fun D h => dd_upd h _ (by omega) (by omega)) (by omega))
    ·
      exact G_no rc iv di (by decide) (by decide) (WT2_worth (T2_worth rc iv hc hba2)) (N2_worth rm iv hc hba2)
  ·
    exact G_no rc iv di (by decide) (by decide) (WT1_worth (T1_worth rc iv hba1)) (N1_worth rm iv hba1)
set_option maxRecDepth 100000 in
set_option maxHeartbeats 4000000 in
theorem G_set {d : Nat → Nat → Int32} {r : Nat → Nat → Option Nat} {J : Nat → Nat → Int64} {c : Nat} {a1 : Int32} (g : LI c d r) (hc512 : c ≤ 512) : GG c kL_set yL_set 8 [.ref 0, .int a1, .ref 74] kX7_set yX7_set 2 [.ref 65, .int a1] d r J := by
  obtain ⟨V, n, H, S, t, T, tl, rc, rm, iv, di⟩ := g
  have h6 := rc6 rc
  rcases rng2 a1 (lo := 0) (hi := 9) (by decide) (by decide) with ⟨w, hw0, hw9, rfl⟩ | hba1
  ·
    exact G_ok rm (C_set rc iv hw9) (fun _ _ h => WC_set h) (fun _ _ _ h => M_set h iv hw9) (IV_push h6 iv (ok_set iv.1 hw9) iv.2.2.2) (DI_push h6 di 0 (fun D h => dd_upd h _ (by decide) (by decide)) (by omega))
  ·
    exact G_no rc iv di (by decide) (by decide) (WT1_set (T_set rc iv hba1)) (N_set rm iv hba1)
set_option maxRecDepth 100000 in
set_option maxHeartbeats 4000000 in
theorem G_promise {d : Nat → Nat → Int32} {r : Nat → Nat → Option Nat} {J : Nat → Nat → Int64} {c : Nat} {a1 a2 a3 a4 : Int32} (g : LI c d r) (hc512 : c ≤ 512) : GG c kL_promise yL_promise 8 [.ref 0, .int a1, .int a2, .int a3, .int a4, .ref 74] kX7_promise yX7_promise 3 [.ref 65, .int a1, .int a2, .int a3, .int a4] d r J := by
  obtain ⟨V, n, H, S, t, T, tl, rc, rm, iv, di⟩ := g
  have h6 := rc6 rc
  rcases rng a1 (n := 8) (by have := iv.1.2.1.2; omega) with ⟨a, ha, rfl⟩ | hba1
  ·
    rcases rng a2 (n := 8) (by have := iv.1.2.1.2; omega) with ⟨b, hb, rfl⟩ | hba2
    ·
      by_cases hab : nI a = nI b
      ·
        have e9 : a = b := (nI_eq (by omega) (by omega)).mp hab
        subst e9
        exact G_no rc iv di (by decide) (by decide) (WT2_promise (T3_promise rc iv ha)) (N3_promise rm iv ha hb rfl)
      ·
        rcases rng2 a3 (lo := 1) (hi := 99) (by decide) (by decide) with ⟨s, hs, hs9, rfl⟩ | hba3
        ·
          rcases rng2 a4 (lo := 0) (hi := 9) (by decide) (by decide) with ⟨y, hy0, hy, rfl⟩ | hba4
          ·
            exact G_ok rm (C_promise rc iv ha hb hab hs hs9 hy) (fun _ _ h => WC_promise h) (fun _ _ _ h => M_promise h iv ha hb hab hs hs9 hy) (IV_push h6 iv (ok_mkV iv.1 ha hb (fun q => hab (by rw [q])) hs hs9 hy) iv.2.2.2) (DI_push h6 di 0 (fun D h => dd_mkV iv.1 h hy) (by omega))
          ·
            exact G_no rc iv di (by decide) (by decide) (WT2_promise (T5_promise rc iv ha hb hab hs hs9 hba4)) (N5_promise rm iv ha hb hab hs hs9 hba4)
        ·
          exact G_no rc iv di (by decide) (by decide) (WT2_promise (T4_promise rc iv ha hb hab hba3)) (N4_promise rm iv ha hb hab hba3)
    ·
      exact G_no rc iv di (by decide) (by decide) (WT1_promise (T2_promise rc iv ha hba2)) (N2_promise rm iv ha hba2)
  ·
    exact G_no rc iv di (by decide) (by decide) (WT1_promise (T1_promise rc iv hba1)) (N1_promise rm iv hba1)
set_option maxRecDepth 100000 in
set_option maxHeartbeats 4000000 in
theorem G_fulfil {d : Nat → Nat → Int32} {r : Nat → Nat → Option Nat} {J : Nat → Nat → Int64} {c : Nat} {a1 : Int32} (g : LI c d r) (hc512 : c ≤ 512) : GG c kL_fulfil yL_fulfil 8 [.ref 0, .int a1, .ref 74] kX7_fulfil yX7_fulfil 6 [.ref 65, .int a1] d r J := by
  obtain ⟨V, n, H, S, t, T, tl, rc, rm, iv, di⟩ := g
  have h6 := rc6 rc
  rcases rng a1 (n := nv V 1) (by have := iv.1.2.1.2; omega) with ⟨q, hq, rfl⟩ | hba1
  ·
    exact G_ok rm (C_fulfil rc iv hq) (fun _ _ h => WC_fulfil h) (fun _ _ _ h => M_fulfil h iv hq) (IV_push h6 iv (ok_kpV iv.1 hq) iv.2.2.2) (DI_push h6 di 0 (fun D h => dd_kpV iv.1 h hq) (by omega))
  ·
    exact G_no rc iv di (by decide) (by decide) (WT1_fulfil (T_fulfil rc iv hba1)) (N_fulfil rm iv hba1)
set_option maxRecDepth 100000 in
set_option maxHeartbeats 4000000 in
theorem G_append {d : Nat → Nat → Int32} {r : Nat → Nat → Option Nat} {J : Nat → Nat → Int64} {c : Nat} {a1 : Int32} (g : LI c d r) (hc512 : c ≤ 512) : GG c kL_append yL_append 8 [.ref 0, .int a1, .ref 74] kX7_append yX7_append 1 [.ref 65, .int a1] d r J := by
  obtain ⟨V, n, H, S, t, T, tl, rc, rm, iv, di⟩ := g
  have h6 := rc6 rc
  rcases rng2 a1 (lo := 33) (hi := 126) (by decide) (by decide) with ⟨q, h33, h126, rfl⟩ | hba1
  ·
    by_cases hge : 60 ≤ tl
    ·
      exact G_no rc iv di (by decide) (by decide) (WT2_append (T2_append rc iv h33 h126 hge)) (N2_append rm iv h33 h126 hge)
    ·
      exact G_ok rm (C_append rc iv h33 h126 (by omega)) (fun _ _ h => WC_append h) (fun _ _ _ h => M_append h iv h33 h126 (by omega)) (⟨iv.1, iv.2.1, iv.2.2.1, okT_app iv.2.2.2 h33 h126 (by omega)⟩) (DI_same di (by omega))
  ·
    exact G_no rc iv di (by decide) (by decide) (WT1_append (T1_append rc iv hba1)) (N1_append rm iv hba1)
set_option maxRecDepth 100000 in
set_option maxHeartbeats 4000000 in
theorem G_run {d : Nat → Nat → Int32} {r : Nat → Nat → Option Nat} {J : Nat → Nat → Int64} {c : Nat}  (g : LI c d r) (hc512 : c ≤ 512) : GG c kL_run yL_run 7 [.ref 0, .ref 74] kX7_run yX7_run 8 [.ref 65] d r J := by
  obtain ⟨V, n, H, S, t, T, tl, rc, rm, iv, di⟩ := g
  have h6 := rc6 rc
  by_cases hE : rnS T tl tl = 11
  ·
    have ho := orO_ok iv.2.2.2 hE (tl + 1) 0 (fun _ => rfl)
    exact G_ok rm (C_run rc iv hE ho) (fun _ _ h => WC_run h) (fun _ _ _ h => M_run h iv hE) (IV_push h6 iv (ok_rnG _ _ _ _ iv.1 ho) (okT_0 T)) (DI_push h6 di tl (fun D h => dd_rnG (tl + 1) V 0 0 D iv.1 ho h) (by omega))
  ·
    exact G_no rc iv di (by decide) (by decide) (WT1_run (T_run rc iv hE)) (N_run rm iv hE)
set_option maxRecDepth 100000 in
set_option maxHeartbeats 4000000 in
theorem G_keep {d : Nat → Nat → Int32} {r : Nat → Nat → Option Nat} {J : Nat → Nat → Int64} {c : Nat} {a1 : Int32} (g : LI c d r) (hc512 : c ≤ 512) : GG c kL_keep yL_keep 8 [.ref 0, .int a1, .ref 74] kX7_keep yX7_keep 2 [.ref 65, .int a1] d r J := by
  obtain ⟨V, n, H, S, t, T, tl, rc, rm, iv, di⟩ := g
  have h6 := rc6 rc
  rcases rng2 a1 (lo := 0) (hi := 1) (by decide) (by decide) with ⟨s, hs0, hs1, rfl⟩ | hba1
  ·
    by_cases e0 : s = 0
    ·
      subst e0
      exact G_ok rm (C0_keep rc iv) (fun _ _ h => WC_keep h) (fun _ _ _ h => M0_keep h iv) (IV_keep iv 0) (DI_keep di 0)
    ·
      have e1 : s = 1 := by omega
      subst e1
      exact G_ok rm (C1_keep rc iv) (fun _ _ h => WC_keep h) (fun _ _ _ h => M1_keep h iv) (IV_keep iv 1) (DI_keep di 1)
  ·
    exact G_no rc iv di (by decide) (by decide) (WT1_keep (T_keep rc iv hba1)) (N_keep rm iv hba1)
set_option maxRecDepth 100000 in
set_option maxHeartbeats 4000000 in
theorem G_goBack {d : Nat → Nat → Int32} {r : Nat → Nat → Option Nat} {J : Nat → Nat → Int64} {c : Nat} {a1 : Int32} (g : LI c d r) (hc512 : c ≤ 512) : GG c kL_goBack yL_goBack 8 [.ref 0, .int a1, .ref 74] kX7_goBack yX7_goBack 2 [.ref 65, .int a1] d r J := by
  obtain ⟨V, n, H, S, t, T, tl, rc, rm, iv, di⟩ := g
  have h6 := rc6 rc
  rcases rng2 a1 (lo := 0) (hi := 1) (by decide) (by decide) with ⟨s, hs0, hs1, rfl⟩ | hba1
  ·
    by_cases e0 : s = 0
    ·
      subst e0
      by_cases ht : t 0 = true
      ·
        exact G_ok rm (C0_goBack rc iv ht) (fun _ _ h => WC_goBack h) (fun _ _ _ h => M0_goBack h iv ht) (IV_push h6 iv (iv.2.2.1.1 ht) iv.2.2.2) (DI_goBack h6 di (fun D h => h.1 ht))
      ·
        have ht := Bool.eq_false_iff.mpr ht
        exact G_no rc iv di (by decide) (by decide) (WT2_goBack (T0_goBack rc iv ht)) (N0_goBack rm iv ht)
    ·
      have e1 : s = 1 := by omega
      subst e1
      by_cases ht : t 1 = true
      ·
        exact G_ok rm (C1_goBack rc iv ht) (fun _ _ h => WC_goBack h) (fun _ _ _ h => M1_goBack h iv ht) (IV_push h6 iv (iv.2.2.1.2 ht) iv.2.2.2) (DI_goBack h6 di (fun D h => h.2 ht))
      ·
        have ht := Bool.eq_false_iff.mpr ht
        exact G_no rc iv di (by decide) (by decide) (WT2_goBack (T1_goBack rc iv ht)) (N1_goBack rm iv ht)
  ·
    exact G_no rc iv di (by decide) (by decide) (WT1_goBack (T_goBack rc iv hba1)) (N_goBack rm iv hba1)
set_option maxRecDepth 100000 in
set_option maxHeartbeats 4000000 in
theorem G_undo {d : Nat → Nat → Int32} {r : Nat → Nat → Option Nat} {J : Nat → Nat → Int64} {c : Nat}  (g : LI c d r) (hc512 : c ≤ 512) : GG c kL_undo yL_undo 7 [.ref 0, .ref 74] kX7_undo yX7_undo 1 [.ref 65] d r J := by
  obtain ⟨V, n, H, S, t, T, tl, rc, rm, iv, di⟩ := g
  have h6 := rc6 rc
  by_cases h0 : n = 0
  ·
    exact G_no rc iv di (by decide) (by decide) (WT1_undo (T_undo rc iv h0)) (N_undo rm iv h0)
  ·
    have h1 : 1 ≤ n := by omega
    exact G_ok rm (C_undo rc iv h1) (fun _ _ h => WC_undo h) (fun _ _ _ h => M_undo h iv h1) (⟨iv.2.1 (n - 1) (by omega), fun i hi => iv.2.1 i (by omega), iv.2.2.1, iv.2.2.2⟩) (DI_undo di h1)
set_option maxRecDepth 100000 in
set_option maxHeartbeats 4000000 in
theorem G_caps {d : Nat → Nat → Int32} {r : Nat → Nat → Option Nat} {J : Nat → Nat → Int64} {c : Nat} {a1 a2 : Int32} (g : LI c d r) (hc512 : c ≤ 512) : GG c kL_caps yL_caps 8 [.ref 0, .int a1, .int a2, .ref 74] kX7_caps yX7_caps 2 [.ref 65, .int a1, .int a2] d r J := by
  obtain ⟨V, n, H, S, t, T, tl, rc, rm, iv, di⟩ := g
  have h6 := rc6 rc
  rcases rng a1 (n := 8) (by have := iv.1.2.1.2; omega) with ⟨a, ha, rfl⟩ | hba1
  ·
    rcases rng a2 (n := 4) (by have := iv.1.2.1.2; omega) with ⟨c, hc, rfl⟩ | hba2
    ·
      exact G_ok rm (lk_r (C_caps rc iv ha hc)) (fun _ _ h => WC_caps h) (fun _ _ _ h => M_caps h iv ha hc) (iv) (DI_same di (by omega))
    ·
      exact G_no rc iv di (by decide) (by decide) (WT1_caps (T2_caps rc iv ha hba2)) (N2_caps rm iv ha hba2)
  ·
    exact G_no rc iv di (by decide) (by decide) (WT1_caps (T1_caps rc iv hba1)) (N1_caps rm iv hba1)
set_option maxRecDepth 100000 in
set_option maxHeartbeats 4000000 in
theorem G_islanderOf {d : Nat → Nat → Int32} {r : Nat → Nat → Option Nat} {J : Nat → Nat → Int64} {c : Nat} {a1 a2 : Int32} (g : LI c d r) (hc512 : c ≤ 512) : GG c kL_islanderOf yL_islanderOf 8 [.ref 0, .int a1, .int a2, .ref 74] kX7_islanderOf yX7_islanderOf 3 [.ref 65, .int a1, .int a2] d r J := by
  obtain ⟨V, n, H, S, t, T, tl, rc, rm, iv, di⟩ := g
  have h6 := rc6 rc
  rcases rng a1 (n := 8) (by have := iv.1.2.1.2; omega) with ⟨a, ha, rfl⟩ | hba1
  ·
    rcases rng a2 (n := 5) (by have := iv.1.2.1.2; omega) with ⟨k, hk, rfl⟩ | hba2
    ·
      exact G_ok rm (lk_r (C_islanderOf rc iv ha hk)) (fun _ _ h => WC_islanderOf h) (fun _ _ _ h => M_islanderOf h iv ha hk) (iv) (DI_same di (by omega))
    ·
      exact G_no rc iv di (by decide) (by decide) (WT2_islanderOf (T2_islanderOf rc iv ha hba2)) (N2_islanderOf rm iv ha hba2)
  ·
    exact G_no rc iv di (by decide) (by decide) (WT1_islanderOf (T1_islanderOf rc iv hba1)) (N1_islanderOf rm iv hba1)
set_option maxRecDepth 100000 in
set_option maxHeartbeats 4000000 in
theorem G_promiseOf {d : Nat → Nat → Int32} {r : Nat → Nat → Option Nat} {J : Nat → Nat → Int64} {c : Nat} {a1 a2 : Int32} (g : LI c d r) (hc512 : c ≤ 512) : GG c kL_promiseOf yL_promiseOf 8 [.ref 0, .int a1, .int a2, .ref 74] kX7_promiseOf yX7_promiseOf 5 [.ref 65, .int a1, .int a2] d r J := by
  obtain ⟨V, n, H, S, t, T, tl, rc, rm, iv, di⟩ := g
  have h6 := rc6 rc
  rcases rng a1 (n := nv V 1) (by have := iv.1.2.1.2; omega) with ⟨q, hq, rfl⟩ | hba1
  ·
    rcases rng2 a2 (lo := 0) (hi := 4) (by decide) (by decide) with ⟨k, hk0, hk, rfl⟩ | hba2
    ·
      exact G_ok rm (lk_r (C_promiseOf rc iv hq hk)) (fun _ _ h => WC_promiseOf h) (fun _ _ _ h => M_promiseOf h iv hq hk) (iv) (DI_same di (by omega))
    ·
      exact G_no rc iv di (by decide) (by decide) (WT2_promiseOf (T2_promiseOf rc iv hq hba2)) (N2_promiseOf rm iv hq hba2)
  ·
    exact G_no rc iv di (by decide) (by decide) (WT1_promiseOf (T1_promiseOf rc iv hba1)) (N1_promiseOf rm iv hba1)
set_option maxRecDepth 100000 in
set_option maxHeartbeats 4000000 in
theorem G_owed {d : Nat → Nat → Int32} {r : Nat → Nat → Option Nat} {J : Nat → Nat → Int64} {c : Nat} {a1 a2 : Int32} (g : LI c d r) (hc512 : c ≤ 512) : GG c kL_owed yL_owed 8 [.ref 0, .int a1, .int a2, .ref 74] kX7_owed yX7_owed 2 [.ref 65, .int a1, .int a2] d r J := by
  obtain ⟨V, n, H, S, t, T, tl, rc, rm, iv, di⟩ := g
  have h6 := rc6 rc
  rcases rng a1 (n := 8) (by have := iv.1.2.1.2; omega) with ⟨a, ha, rfl⟩ | hba1
  ·
    rcases rng a2 (n := 8) (by have := iv.1.2.1.2; omega) with ⟨b, hb, rfl⟩ | hba2
    ·
      exact G_ok rm (lk_r (C_owed rc iv ha hb)) (fun _ _ h => WC_owed h) (fun _ _ _ h => M_owed h iv ha hb) (iv) (DI_same di (by omega))
    ·
      exact G_no rc iv di (by decide) (by decide) (WT1_owed (T2_owed rc iv ha hba2)) (N2_owed rm iv ha hba2)
  ·
    exact G_no rc iv di (by decide) (by decide) (WT1_owed (T1_owed rc iv hba1)) (N1_owed rm iv hba1)
set_option maxRecDepth 100000 in
set_option maxHeartbeats 4000000 in
theorem G_count {d : Nat → Nat → Int32} {r : Nat → Nat → Option Nat} {J : Nat → Nat → Int64} {c : Nat} {a1 : Int32} (g : LI c d r) (hc512 : c ≤ 512) : GG c kL_count yL_count 7 [.ref 0, .int a1, .ref 74] kX7_count yX7_count 2 [.ref 65, .int a1] d r J := by
  obtain ⟨V, n, H, S, t, T, tl, rc, rm, iv, di⟩ := g
  have h6 := rc6 rc
  rcases rng a1 (n := 10) (by have := iv.1.2.1.2; omega) with ⟨k, hk, rfl⟩ | hba1
  ·
    exact G_ok rm (lk_r (C_count rc iv hk)) (fun _ _ h => WC_count h) (fun _ _ _ h => M_count h iv hk) (iv) (DI_same di (by omega))
  ·
    exact G_no rc iv di (by decide) (by decide) (WT1_count (T_count rc iv hba1)) (N_count rm iv hba1)
set_option maxRecDepth 100000 in
set_option maxHeartbeats 4000000 in
theorem G_where {d : Nat → Nat → Int32} {r : Nat → Nat → Option Nat} {J : Nat → Nat → Int64} {c : Nat} {a1 a2 a3 : Int32} (g : LI c d r) (hc512 : c ≤ 512) : GG c kL_where yL_where 8 [.ref 0, .int a1, .int a2, .int a3, .ref 74] kX7_where yX7_where 2 [.ref 65, .int a1, .int a2, .int a3] d r J := by
  obtain ⟨V, n, H, S, t, T, tl, rc, rm, iv, di⟩ := g
  have h6 := rc6 rc
  rcases rng a1 (n := 8) (by have := iv.1.2.1.2; omega) with ⟨a, ha, rfl⟩ | hba1
  ·
    rcases rng2 a2 (lo := 0) (hi := 1000) (by decide) (by decide) with ⟨k, hk0, hk, rfl⟩ | hba2
    ·
      rcases rng2 a3 (lo := 0) (hi := 1) (by decide) (by decide) with ⟨w, hw0, hw, rfl⟩ | hba3
      ·
        by_cases e0 : w = 0
        ·
          subst e0
          exact G_ok rm (lk_r (C0_where rc iv ha hk)) (fun _ _ h => WC_where h) (fun _ _ _ h => M_where h iv ha hk hw) (iv) (DI_same di (by omega))
        ·
          have e1 : w = 1 := by omega
          subst e1
          exact G_ok rm (lk_r (C1_where rc iv ha hk)) (fun _ _ h => WC_where h) (fun _ _ _ h => M_where h iv ha hk hw) (iv) (DI_same di (by omega))
      ·
        exact G_no rc iv di (by decide) (by decide) (WT2_where (T3_where rc iv ha hk hba3)) (N3_where rm iv ha hk hba3)
    ·
      exact G_no rc iv di (by decide) (by decide) (WT2_where (T2_where rc iv ha hba2)) (N2_where rm iv ha hba2)
  ·
    exact G_no rc iv di (by decide) (by decide) (WT1_where (T1_where rc iv hba1)) (N1_where rm iv hba1)
set_option maxRecDepth 100000 in
set_option maxHeartbeats 4000000 in
theorem G_homeIn {d : Nat → Nat → Int32} {r : Nat → Nat → Option Nat} {J : Nat → Nat → Int64} {c : Nat} {a1 : Int32} (g : LI c d r) (hc512 : c ≤ 512) : GG c kL_homeIn yL_homeIn 8 [.ref 0, .int a1, .ref 74] kX7_homeIn yX7_homeIn 3 [.ref 65, .int a1] d r J := by
  obtain ⟨V, n, H, S, t, T, tl, rc, rm, iv, di⟩ := g
  have h6 := rc6 rc
  rcases rng2 a1 (lo := 0) (hi := 1) (by decide) (by decide) with ⟨w, hw0, hw, rfl⟩ | hba1
  ·
    by_cases e0 : w = 0
    ·
      subst e0
      exact G_ok rm (lk_r (C0_homeIn rc iv)) (fun _ _ h => WC_homeIn h) (fun _ _ _ h => M_homeIn h iv hw) (iv) (DI_same di (by omega))
    ·
      have e1 : w = 1 := by omega
      subst e1
      exact G_ok rm (lk_r (C1_homeIn rc iv)) (fun _ _ h => WC_homeIn h) (fun _ _ _ h => M_homeIn h iv hw) (iv) (DI_same di (by omega))
  ·
    exact G_no rc iv di (by decide) (by decide) (WT1_homeIn (T_homeIn rc iv hba1)) (N_homeIn rm iv hba1)
set_option maxRecDepth 100000 in
set_option maxHeartbeats 4000000 in
theorem G_fewest {d : Nat → Nat → Int32} {r : Nat → Nat → Option Nat} {J : Nat → Nat → Int64} {c : Nat} {a1 a2 a3 : Int32} (g : LI c d r) (hc512 : c ≤ 512) : GG c kL_fewest yL_fewest 8 [.ref 0, .int a1, .int a2, .int a3, .ref 74] kX7_fewest yX7_fewest 4 [.ref 65, .int a1, .int a2, .int a3] d r J := by
  obtain ⟨V, n, H, S, t, T, tl, rc, rm, iv, di⟩ := g
  have h6 := rc6 rc
  rcases rng a1 (n := 8) (by have := iv.1.2.1.2; omega) with ⟨a, ha, rfl⟩ | hba1
  ·
    rcases rng2 a2 (lo := 1) (hi := 99) (by decide) (by decide) with ⟨s, hs, hs9, rfl⟩ | hba2
    ·
      rcases rng2 a3 (lo := 0) (hi := 1) (by decide) (by decide) with ⟨w, hw0, hw, rfl⟩ | hba3
      ·
        by_cases e0 : w = 0
        ·
          subst e0
          exact G_ok rm (lk_r (C0_fewest rc iv ha hs hs9)) (fun _ _ h => WC_fewest h) (fun _ _ _ h => M_fewest h iv ha hs hs9 hw) (iv) (DI_same di (by omega))
        ·
          have e1 : w = 1 := by omega
          subst e1
          exact G_ok rm (lk_r (C1_fewest rc iv ha hs hs9)) (fun _ _ h => WC_fewest h) (fun _ _ _ h => M_fewest h iv ha hs hs9 hw) (iv) (DI_same di (by omega))
      ·
        exact G_no rc iv di (by decide) (by decide) (WT2_fewest (T3_fewest rc iv ha hs hs9 hba3)) (N3_fewest rm iv ha hs hs9 hba3)
    ·
      exact G_no rc iv di (by decide) (by decide) (WT2_fewest (T2_fewest rc iv ha hba2)) (N2_fewest rm iv ha hba2)
  ·
    exact G_no rc iv di (by decide) (by decide) (WT1_fewest (T1_fewest rc iv hba1)) (N1_fewest rm iv hba1)
set_option maxRecDepth 100000 in
set_option maxHeartbeats 4000000 in
theorem G_canKeepIn {d : Nat → Nat → Int32} {r : Nat → Nat → Option Nat} {J : Nat → Nat → Int64} {c : Nat} {a1 : Int32} (g : LI c d r) (hc512 : c ≤ 512) : GG c kL_canKeepIn yL_canKeepIn 8 [.ref 0, .int a1, .ref 74] kX7_canKeepIn yX7_canKeepIn 5 [.ref 65, .int a1] d r J := by
  obtain ⟨V, n, H, S, t, T, tl, rc, rm, iv, di⟩ := g
  have h6 := rc6 rc
  rcases rng a1 (n := nv V 1) (by have := iv.1.2.1.2; omega) with ⟨q, hq, rfl⟩ | hba1
  ·
    exact G_ok rm (lk_r (C_canKeepIn rc iv hq)) (fun _ _ h => WC_canKeepIn h) (fun _ _ _ h => M_canKeepIn h iv hq (DI_due di hc512 q hq)) (iv) (DI_same di (by omega))
  ·
    exact G_no rc iv di (by decide) (by decide) (WT1_canKeepIn (T_canKeepIn rc iv hba1)) (N_canKeepIn rm iv hba1)
/-- a call without a wrapper: one answer, one state -/
def GV {α : Type} (f : α → Value) (Q : α → Prop) (c : Nat) (w0 : Cond) (y : MethodName) (lv : Nat) (w1 : Cond) (y1 : MethodName) (lv1 : Nat) (d : Nat → Nat → Int32) (r : Nat → Nat → Option Nat) (J : Nat → Nat → Int64) : Prop :=
  ∃ (b : α) (d1 : Nat → Nat → Int32) (r1 : Nat → Nat → Option Nat) (e1 : Nat → Nat → Int32) (J1 : Nat → Nat → Int64), Q b ∧ OP w0 y lv [.ref 0] d r J (some (f b)) d1 r1 J ∧ OP w1 y1 lv1 [.ref 65] d1 r1 J (some (f b)) e1 r1 J1 ∧ LI (c + 1) e1 r1
theorem G_v {α : Type} {f : α → Value} {Q : α → Prop} {d : Nat → Nat → Int32} {r : Nat → Nat → Option Nat} {J : Nat → Nat → Int64} {V V' : Nat → Int32} {n n' : Nat} {H S H' S' : Nat → Nat → Int32} {t t' : Nat → Bool} {T T' : Nat → Int32} {tl tl' c : Nat} {w0 w1 : Cond} {y y1 : MethodName} {lv lv1 : Nat} {v : α} (hQ : Q v) (rm : RM d V n H S t T tl) (hc : ∃ d1 r1, OP w0 y lv [.ref 0] d r J (some (f v)) d1 r1 J ∧ RC d1 r1 V' n' H' S' t' T' tl' ∧ fm d d1) (hm : ∀ d1 r1, RM d1 V n H S t T tl → ∃ e1 J1, OP w1 y1 lv1 [.ref 65] d1 r1 J (some (f v)) e1 r1 J1 ∧ RM e1 V' n' H' S' t' T' tl' ∧ e1 65 7 = nI 0 ∧ fc d1 e1) (iv : IV V' n' H' S' t' T' tl') (di : DI V' n' H' S' t' tl' (c + 1)) : GV f Q c w0 y lv w1 y1 lv1 d r J := by
  obtain ⟨d1, r1, c1, c2, c3⟩ := hc
  obtain ⟨e1, J1, m1, m2, m3, m4⟩ := hm d1 r1 (RM_fm rm c3)
  exact ⟨v, d1, r1, e1, J1, hQ, c1, m1, V', n', H', S', t', T', tl', RC_fc c2 m4, m2, iv, di⟩
theorem lk_J {P : (Nat → Nat → Int32) → (Nat → Nat → Int64) → Prop} {J : Nat → Nat → Int64} (h : ∃ d1, P d1 J) : ∃ d1 J1, P d1 J1 := h.imp fun _ h => ⟨J, h⟩
set_option maxRecDepth 100000 in
set_option maxHeartbeats 4000000 in
theorem G_clearBuffer {d : Nat → Nat → Int32} {r : Nat → Nat → Option Nat} {J : Nat → Nat → Int64} {c : Nat} (g : LI c d r) (hc512 : c ≤ 512) : GV Value.int (fun _ => True) c kX6_clearBuffer yX6_clearBuffer 0 kX7_clearBuffer yX7_clearBuffer 0 d r J := by
  obtain ⟨V, n, H, S, t, T, tl, rc, rm, iv, di⟩ := g
  exact G_v trivial rm (C_clearBuffer rc iv) (fun _ _ h => lk_J (M_clearBuffer h iv)) ⟨iv.1, iv.2.1, iv.2.2.1, okT_0 T⟩ (DI_same di (by omega))
set_option maxRecDepth 100000 in
set_option maxHeartbeats 4000000 in
theorem G_firstError {d : Nat → Nat → Int32} {r : Nat → Nat → Option Nat} {J : Nat → Nat → Int64} {c : Nat} (g : LI c d r) (hc512 : c ≤ 512) : GV Value.int (fun _ => True) c kX6_firstError yX6_firstError 3 kX7_firstError yX7_firstError 8 d r J := by
  obtain ⟨V, n, H, S, t, T, tl, rc, rm, iv, di⟩ := g
  exact G_v trivial rm (C_firstError rc iv) (fun _ _ h => lk_J (M_firstError h iv)) iv (DI_same di (by omega))
set_option maxRecDepth 100000 in
set_option maxHeartbeats 4000000 in
theorem G_richest {d : Nat → Nat → Int32} {r : Nat → Nat → Option Nat} {J : Nat → Nat → Int64} {c : Nat} (g : LI c d r) (hc512 : c ≤ 512) : GV Value.int (fun _ => True) c kX6_richest yX6_richest 3 kX7_richest yX7_richest 3 d r J := by
  obtain ⟨V, n, H, S, t, T, tl, rc, rm, iv, di⟩ := g
  exact G_v trivial rm (lk_r (C_richest rc iv)) (fun _ _ h => lk_J (M_richest h iv)) iv (DI_same di (by omega))
set_option maxRecDepth 100000 in
set_option maxHeartbeats 4000000 in
theorem G_richShare {d : Nat → Nat → Int32} {r : Nat → Nat → Option Nat} {J : Nat → Nat → Int64} {c : Nat} (g : LI c d r) (hc512 : c ≤ 512) : GV Value.double f64 c kX6_richShare yX6_richShare 4 kX7_richShare yX7_richShare 4 d r J := by
  obtain ⟨V, n, H, S, t, T, tl, rc, rm, iv, di⟩ := g
  obtain ⟨E, tt, b1, b2, b3, b4⟩ := shr_bits iv.1.2.2.2.1 iv.1.2.2.2.2.1
  exact G_v (f64_of b1 b2 (by omega) (by omega)) rm (lk_r (C_richShare rc iv)) (fun _ _ h => lk_J (M_richShare h iv)) iv (DI_same di (by omega))
set_option maxRecDepth 100000 in
set_option maxHeartbeats 4000000 in
theorem G_digest {d : Nat → Nat → Int32} {r : Nat → Nat → Option Nat} {J : Nat → Nat → Int64} {c : Nat} (g : LI c d r) (hc512 : c ≤ 512) : GV Value.long (fun _ => True) c kX6_digest yX6_digest 9 kX7_digest yX7_digest 5 d r J := by
  obtain ⟨V, n, H, S, t, T, tl, rc, rm, iv, di⟩ := g
  exact G_v trivial rm (lk_r (C_digest rc iv)) (fun _ _ h => M_digest h iv (DI_due di hc512)) iv (DI_same di (by omega))
