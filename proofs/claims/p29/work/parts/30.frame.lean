/-! CALLS OUT OF A LARGER WORLD: the callee is handed the first N cells alone, the rest stays; contracts that forget the cells that they made; the script handed on (own work) -/
section AFR
variable {y : MethodName} {cc : ByteArray} {nL : Nat} {ret : Option FieldType} {xt : List (Nat × Nat × Nat × Nat)} {lv : Nat} {sc : Option (Nat × (Nat → Int32))} {pc : Nat} {lo : List (Option Value)} {st : List Value} {N NN : Nat} {aw : Nat → am_E} {k n : Nat} {o : Option Value ⊕ String} {N' : Nat} {aw' : Nat → am_E}
/-- the map, cut at N -/
def fr_cut (al : am_A) (N : Nat) : am_A := fun j => if N ≤ j ∧ j < 999 then none else al j
theorem fr_cut_in {al : am_A} {N j : Nat} (h : j < N) : fr_cut al N j = al j := if_neg (by omega)
theorem fr_cut_le (al : am_A) (N : Nat) : am_le (fr_cut al N) al := fun j x h => by
  unfold fr_cut at h
  by_cases c : N ≤ j ∧ j < 999
  · rw [if_pos c] at h; cases h
  · rw [if_neg c] at h; exact h
/-- a value that refers to cells below N alone -/
def fr_v (N : Nat) : Value → Bool
  | .ref j => Nat.blt j N
  | _ => true
def fr_e (N : Nat) : am_E → Prop
  | .inl _ => True
  | .inr (.inl _) => True
  | .inr (.inr (.inl (_, n, f))) => ∀ i, i < n → ∀ j, f i = some j → j < N
  | .inr (.inr (.inr (_, fs))) => fs.all (fr_v N) = true
def fr_clo (N : Nat) (aw : Nat → am_E) : Prop := ∀ k, k < N → fr_e N (aw k)
theorem fr_v_cut {al : am_A} {N : Nat} {v v' : Value} (h : am_v al v v') (g : fr_v N v = true) : am_v (fr_cut al N) v v' := by
  cases v <;> first | exact h | (obtain ⟨a, h1, h2⟩ := h; exact ⟨a, by rw [fr_cut_in (Nat.blt_eq.mp g)]; exact h1, h2⟩)
theorem fr_vs_cut {al : am_A} {N : Nat} : ∀ {l l' : List Value}, am_vs al l l' → l.all (fr_v N) = true → am_vs (fr_cut al N) l l'
  | [], _, h, _ => h
  | v :: r, _, ⟨v', r', e, h1, h2⟩, g => by
    rw [List.all_cons, Bool.and_eq_true] at g
    exact ⟨v', r', e, fr_v_cut h1 g.1, fr_vs_cut h2 g.2⟩
theorem fr_e_cut {s : State} {al : am_A} {N : Nat} {x : am_E} {z : va_E} (h : am_e s al x z) (g : fr_e N x) : am_e s (fr_cut al N) x z := by
  rcases x with ⟨ty, n, f⟩ | ⟨n, f⟩ | ⟨C, n, f⟩ | ⟨ci, fs⟩
  · exact h
  · exact h
  · obtain ⟨cA, f', h1, h2, h3⟩ := h
    refine ⟨cA, f', h1, h2, fun i hi => ⟨(h3 i hi).1, fun j hj => ?_⟩⟩
    obtain ⟨a, h4, h5⟩ := (h3 i hi).2 j hj
    exact ⟨a, by rw [fr_cut_in (g i hi j hj)]; exact h4, h5⟩
  · obtain ⟨fs', h1, h2⟩ := h
    exact ⟨fs', h1, fr_vs_cut h2 g⟩
theorem fr_w_cut {s : State} {al : am_A} {ws : va_W} {aw0 : Nat → am_E} (hw : am_w s al NN aw ws) (hN : N ≤ NN) (he : ∀ k, k < N → aw k = aw0 k) (hc : fr_clo N aw0) : am_w s (fr_cut al N) N aw0 (ws.take N) := by
  refine ⟨by rw [List.length_take, hw.1]; omega, fun j h1 h2 => if_pos ⟨h1, h2⟩, fun k hk => ?_⟩
  obtain ⟨a, z, h1, h2, h3⟩ := hw.2.2 k (by omega)
  refine ⟨a, z, by rw [List.getElem?_take_of_lt hk]; exact h1, by rw [fr_cut_in hk]; exact h2, ?_⟩
  rw [he k hk] at h3
  exact fr_e_cut h3 (hc k hk)
theorem fr_take {α : Type} {ws : List α} {N k : Nat} {q : α} (h : (ws.take N)[k]? = some q) : k < N ∧ ws[k]? = some q := by
  by_cases c : k < N
  · rw [List.getElem?_take_of_lt c] at h
    exact ⟨c, h⟩
  · rw [List.getElem?_take_eq_none (by omega)] at h
    cases h
theorem fr_drop {α : Type} {ws : List α} {N k : Nat} {q : α} (h : (ws.drop N)[k]? = some q) : ws[N + k]? = some q := by
  rw [List.getElem?_drop] at h
  exact h
/-- the map behind a call -/
def fr_mix (al al1 : am_A) (N : Nat) : am_A := fun j => if N ≤ j ∧ j < 999 then al j else al1 j
theorem fr_mix_le {al al1 : am_A} {N : Nat} (h : am_le (fr_cut al N) al1) : am_le al (fr_mix al al1 N) := fun j x e => by
  unfold fr_mix
  by_cases c : N ≤ j ∧ j < 999
  · rw [if_pos c]; exact e
  · rw [if_neg c]
    exact h j x (by unfold fr_cut; rw [if_neg c]; exact e)
theorem fr_mix_le1 {al al1 : am_A} {N : Nat} (h : ∀ j, N ≤ j → j < 999 → al1 j = none) : am_le al1 (fr_mix al al1 N) := fun j x e => by
  unfold fr_mix
  by_cases c : N ≤ j ∧ j < 999
  · rw [h j c.1 c.2] at e; cases e
  · rw [if_neg c]; exact e
def fr_aw (N : Nat) (a b : Nat → am_E) : Nat → am_E := fun j => if j < N then a j else b j
theorem fr_join {s : State} {A : Nat → Prop} {D : va_G} {al al1 : am_A} {ws ws1 : va_W} {aw1 : Nat → am_E} {H H1 : Heap} (hw : am_w s al NN aw ws) (hN : N ≤ NN) (hP : va_P D vwCl ws H) (hD : va_D A ws) (hk : ∀ q : Nat, q < H.size → ¬ va_A (ws.take N) H.size q → H1[q]? = H[q]?) (hFr : ∀ q, va_A (ws.take N) H.size q → A q)
    (hle1 : am_le (fr_cut al N) al1) (hP1 : va_P D vwCl ws1 H1) (hD1 : va_D (va_A (ws.take N) H.size) ws1) (hw1 : am_w s al1 N aw1 ws1) :
    am_le al (fr_mix al al1 N) ∧ va_P D vwCl (ws1 ++ ws.drop N) H1 ∧ va_D A (ws1 ++ ws.drop N) ∧ am_w s (fr_mix al al1 N) NN (fr_aw N aw1 aw) (ws1 ++ ws.drop N) := by
  have hap : ∀ (k9 : Nat) (q : Nat × va_E), (ws.drop N)[k9]? = some q → q.1 < H.size ∧ ¬ va_A (ws.take N) H.size q.1 := by
    intro k9 q hq
    have h1 := fr_drop hq
    have hl := (hP _ q h1).lt
    refine ⟨hl, fun h => ?_⟩
    rcases h with ⟨k2, e, h⟩ | h
    · obtain ⟨c2, h2⟩ := fr_take h
      have := hD.1 (N + k9) k2 q (q.1, e) h1 h2 rfl
      omega
    · omega
  refine ⟨fr_mix_le hle1, va_P.app hP1 (fun k9 q hq => ?_), va_D.app (hD1.weaken (fun _ _ _ h => hFr _ h)) ⟨fun i j p q hp hq e => ?_, fun k9 q hq => hD.2 _ q (fr_drop hq)⟩ (fun i j p q hp hq e => ?_), ?_, fun j h1 h2 => ?_, fun k9 hk9 => ?_⟩
  · obtain ⟨g1, g2⟩ := hap k9 q hq
    exact (hP _ q (fr_drop hq)).kept (hk q.1 g1 g2)
  · have := hD.1 _ _ p q (fr_drop hp) (fr_drop hq) e
    omega
  · exact (hap j q hq).2 (by rw [← e]; exact hD1.2 i p hp)
  · rw [List.length_append, hw1.1, List.length_drop, hw.1]
    omega
  · unfold fr_mix
    rw [if_pos ⟨by omega, h2⟩]
    exact hw.2.1 j h1 h2
  · by_cases c : k9 < N
    · obtain ⟨a, z, h1, h2, h3⟩ := hw1.2.2 k9 c
      refine ⟨a, z, by rw [List.getElem?_append_left (by rw [hw1.1]; exact c)]; exact h1, ?_, ?_⟩
      · exact fr_mix_le1 hw1.2.1 _ _ h2
      · unfold fr_aw
        rw [if_pos c]
        exact h3.mono (fr_mix_le1 hw1.2.1)
    · obtain ⟨a, z, h1, h2, h3⟩ := hw.2.2 k9 hk9
      refine ⟨a, z, ?_, fr_mix_le hle1 _ _ h2, ?_⟩
      · rw [List.getElem?_append_right (by rw [hw1.1]; omega), hw1.1, List.getElem?_drop, show N + (k9 - N) = k9 by omega]
        exact h1
      · unfold fr_aw
        rw [if_neg c]
        exact h3.mono (fr_mix_le hle1)
theorem fr_env {al al' : am_A} {A : Nat → Prop} {U : State} {H : Heap} (g : am_Env al A U H) : am_Env al' A U H := by
  obtain ⟨h1, h2, h3, h4, h5⟩ := g
  exact ⟨h1, h2, h3, am_le.rf _, h5⟩
theorem fr_free {A : Nat → Prop} {ws : va_W} {H0 H : Heap} {locs : List Loc} (hD : va_D A ws) (hS : va_S A H0 H locs) (hA : ∀ q, H0.size ≤ q → A q) : ∀ q, va_A (ws.take N) H.size q → A q := by
  intro q h
  rcases h with ⟨j, e, h⟩ | h
  · exact hD.2 j _ (fr_take h).2
  · exact hA q (Nat.le_trans hS.1 h)
theorem fr_pre {p : Program} {l : Launch} {R : Room} {s : State} {m : MethodId} {args : Array Value} {meth : Method} {c : Code} {D : va_G} {A : Nat → Prop} {al0 al : am_A} {ws : va_W} {H : Heap} {locs : List Loc} {aw0 : Nat → am_E} (F : am_Fix y cc nL ret xt lv sc p l R s m args meth c D A al0) (hP : va_P D vwCl ws H) (hD : va_D A ws) (hS : va_S A s.heap H locs) (hw : am_w s al NN aw ws) (hN : N ≤ NN) (he : ∀ k, k < N → aw k = aw0 k) (hc : fr_clo N aw0) {as vs : List Value} (hvs : am_vs al as vs) (hI : as.all (fr_v N) = true) :
    ∀ U : State, U.heap = H → s.WarmedH U.vm → va_Pc vs (am_Pre D (fr_cut al N) as vs N aw0 (ws.take N) H.size) vs.toArray U := by
  intro U hU hW
  obtain ⟨hx, hb, hr, hml, hown, hts, hlocks, hin, hfl, hA, hK, hE, hSc, hlv, hloc, hxt⟩ := id F
  refine ⟨rfl, by rw [hU], by rw [hU]; exact fun k9 q hq => hP k9 q (fr_take hq).2, am_K9 hW.alike hK, ⟨fun i j p q h1 h2 h3 => hD.1 i j p q (fr_take h1).2 (fr_take h2).2 h3, fun _ _ _ => trivial⟩, fr_vs_cut hvs hI, am_w.moved hW.alike (fr_w_cut hw hN he hc), ?_⟩
  rw [hU]
  exact (((fr_env hE).kept hS.2.1).narrow (fr_free hD hS hA)).warm hW
theorem fr_callVx {idx q ci na nL2 lv2 kc nc k2 n2 : Nat} {y2 : MethodName} {cc2 : ByteArray} {ret2 : Option FieldType} {As st0 : List Value} {aw0 aw1 : Nat → am_E} {fs : List Value} {x : Value} (G : am_LV y.cls idx ci (Cond.code y2 cc2 nL2 ret2) y2 na) (hAC : am_AM (Cond.code y2 cc2 nL2 ret2) y2 lv2 (.ref q :: As) N aw0 (some x) N aw1 kc nc) (hN : N ≤ NN) (hWe : ∀ k, k < N → aw k = aw0 k) (hCl : fr_clo N aw0) (hI : As.all (fr_v N) = true) (hxI : fr_v 0 x = true) (hs : st0 = As.reverse ++ .ref q :: st) (hlen : As.length = na) (hlv2 : lv2 < lv) (hnL2 : nL2 ≤ 11) (hq : q < N) (he : aw0 q = am_O ci fs) (hst9 : (st.map fun v => v.category).sum ≤ 8) (hk9 : kc + k2 ≤ k) (hn9 : nc + n2 ≤ n) (d : decode cc pc = .ok (.invokevirtual idx, 3))
    (k9 : SW y cc nL ret xt lv sc (pc + 3) (lo) (x :: st) NN (fr_aw N aw1 aw) (k2) (n2) o N' aw') : SW y cc nL ret xt lv sc (pc) (lo) (st0) NN (aw) (k) (n) o N' aw' := by
  intro p l e R s m args below meth c H locs cells slots kf nf D A al0 al ws ls st' F hk hn hkR hnR hle hP hD hS hw hl hst
  obtain ⟨hx, hb, hr, hml, hown, hts, hlocks, hin, hfl, hA, hK, hE, hSc, hlv, hloc, hxt⟩ := id F
  subst hs
  obtain ⟨As2, r2, rfl, hAs, hst1⟩ := am_vs.app hst
  obtain ⟨w0, r0, rfl, ⟨a, g1, rfl⟩, hst2⟩ := hst1
  have hAs9 := hAs.rev
  rw [List.reverse_reverse] at hAs9
  obtain ⟨As1, hAs1⟩ : ∃ z, z = As2.reverse := ⟨_, rfl⟩
  have hAs2 : As2 = As1.reverse := by rw [hAs1, List.reverse_reverse]
  rw [← hAs1] at hAs9
  subst hAs2
  have hRm : (am_rm lv2 kc nc).frames + 1 ≤ R.frames ∧ 8 + (nL2 + 11) + (am_rm lv2 kc nc).locals ≤ R.locals := ⟨by show lv2 + 1 ≤ _; omega, by show _ + (30 * lv2 + 62) ≤ _; omega⟩
  have hPr := fr_pre F hP hD hS hw hN hWe hCl (as := (.ref q :: As)) (vs := (.ref a :: As1)) ⟨_, _, rfl, ⟨a, g1, rfl⟩, hAs9⟩ (by rw [List.all_cons, Bool.and_eq_true]; exact ⟨Nat.blt_eq.mpr hq, hI⟩)
  obtain ⟨z, h1, h2⟩ := am_cell hw (Nat.lt_of_lt_of_le hq hN) g1
  rw [hWe q hq, he] at h2
  obtain ⟨fs1, rfl, h3⟩ := h2
  obtain ⟨T9, NF9, hc8⟩ := G.2.2.2.2
  have hRun := va_runV (p := p) (l := l) (e := e) (R := R) (s := s) (m := m) (args := args) (below := below) (meth := meth) (c := c) (H := H) (locs := locs) (cells := cells) (slots := slots) (g := F0 m pc ls (As1.reverse ++ .ref a :: r0)) (As := As1) (rest := r0) (am_fix F) (hAC l hfl D (fr_cut al N) (.ref a :: As1) (ws.take N) H.size) (cwV na hts G.good rfl rfl rfl ⟨rfl, G.1.2.2.1, G.1.2.2.2.1, G.1.2.2.2.2⟩ hRm) ⟨am_Pre.blind, va_recv hK hP hc8 h1, hPr⟩ rfl (by rw [hAs9.len]; exact hlen) hl.choose_spec.1.1 rfl (lv_room (by rw [hst2.cats]; exact hst9)) d ⟨by omega, by omega⟩
  intro T hT X
  obtain ⟨v1, st₀, t, T', L, h0, X', hL, e1, e2, ⟨⟨v2, v', al1, ws1, ho, hv, hov, hle1, hP1, hK1, hD1, hw1⟩, hF⟩, stp⟩ := hRun T hT X
  cases ho
  cases hv
  have hFr := fr_free (N := N) hD hS hA
  obtain ⟨k1, k2', k3⟩ := vx_keep h0 e1 hS (fun q _ h => hFr q h) (fun q h => hFr q h) hL hF
  have hal : s.vm.Alike t.vm := by rw [← e2]; exact X'.warmed.alike
  obtain ⟨j1, j2, j3, j4⟩ := fr_join (H1 := T'.heap) hw hN hP hD k2' hFr hle1 (by rw [e1]; exact hP1) hD1 (am_w.moved hal.symm hw1)
  obtain ⟨x9, rfl, hx9⟩ := hov
  have hxm : am_v (fr_mix al al1 N) x x9 := hx9.mono (fr_mix_le1 hw1.2.1)
  obtain ⟨t2, a1, b1⟩ := k9 p l e R s m args below meth c T'.heap (locs ++ L) (cells + kc) (slots + nc) kf nf D A al0 _ _ ls _ F (by omega) (by omega) hkR hnR (hle.tr j1) j2 j3 k3 j4 (hl.mono j1) ⟨_, _, rfl, hxm, hst2.mono j1⟩ T' rfl X'
  exact ⟨t2, stp t2 a1, b1⟩
/-- a body's walk gives its contract; what it made itself is forgotten -/
theorem fr_of {v : Option Value} {as : List Value} {aw2 : Nat → am_E} (hv9 : ∀ x, v = some x → fr_v 0 x = true) (hN : N ≤ NN) (he9 : ∀ k, k < N → aw' k = aw2 k) (hCl : fr_clo N aw2) (hy : plainName y.cls = true) (hlen : (as.map fun v => v.category).sum ≤ nL) (h : SW y cc nL ret [] lv none 0 (am_pad nL (am_lo as)) [] N aw k n (.inl v) NN aw') : am_AM (.code y cc nL ret) y lv as N aw v N aw2 k n := by
  intro l hl D al vs ws sz
  refine am_toMet (vx_ofW (cc := cc) (maxL := nL) (ret := ret) hy rfl ?_)
  intro p e s m args below meth c s₁ B hml hx hv
  have hb := am_bodyX hy hlen h hl B hml (List.eq_nil_iff_forall_not_mem.mpr hx) hv
  have hal := hv.2.2.2.2.2.2.1.2.1
  intro T hT X
  obtain ⟨t, a1, o, b1, b2, b3⟩ := hb T hT X
  refine ⟨t, a1, o, b1, b2, ?_⟩
  rcases b3 with ⟨⟨⟨v1, v', al', ws', h1, h2, h3, h4, h5, h6, h7, h8⟩, hF⟩, hL⟩ | ⟨q, -, E, ce, L9, ⟨⟨hX9, -⟩, -⟩, -⟩
  · refine Or.inl ⟨⟨⟨v1, v', fr_cut al' N, ws'.take N, h1, h2, ?_, ?_, ?_, h6, ?_, fr_w_cut h8 hN he9 hCl⟩, hF⟩, hL⟩
    · cases h1
      cases v with
      | none => exact h3
      | some x =>
        obtain ⟨x', e1, e2⟩ := h3
        have hx0 := hv9 x rfl
        refine ⟨x', e1, ?_⟩
        cases x <;> first | exact e2 | (cases hx0)
    · intro j x e9
      unfold fr_cut
      by_cases c9 : N ≤ j ∧ j < 999
      · rw [hal j c9.1 c9.2] at e9
        cases e9
      · rw [if_neg c9]
        exact h4 j x e9
    · exact fun k9 q hq => h5 k9 q (fr_take hq).2
    · exact ⟨fun i j p q g1 g2 g3 => h7.1 i j p q (fr_take g1).2 (fr_take g2).2 g3, fun k9 q hq => h7.2 k9 q (fr_take hq).2⟩
  · cases hX9
end AFR
/-- the class's world refers to its own cells alone -/
theorem fr_W0 {d : Nat → Nat → Int32} {r : Nat → Nat → Option Nat} {J : Nat → Nat → Int64} (h : okS r) (h5 : r 50 0 = some 53 ∧ r 50 1 = some 59) : fr_clo 65 (W0 d r J) := by
  have go : ∀ k, k < 65 → k ≠ 8 → k ≠ 50 → ∀ (f : Nat → Int32) (g : Nat → Option Nat) (J9 : Nat → Int64), fr_e 65 (kel k f g J9) := by
    intro k hk n8 n50 f g J9
    match k, hk with
    | 0, _ => first | exact trivial | rfl
    | 1, _ => first | exact trivial | rfl
    | 2, _ => first | exact trivial | rfl
    | 3, _ => first | exact trivial | rfl
    | 4, _ => first | exact trivial | rfl
    | 5, _ => first | exact trivial | rfl
    | 6, _ => first | exact trivial | rfl
    | 7, _ => first | exact trivial | rfl
    | 8, _ => exact absurd rfl n8
    | 9, _ => first | exact trivial | rfl
    | 10, _ => first | exact trivial | rfl
    | 11, _ => first | exact trivial | rfl
    | 12, _ => first | exact trivial | rfl
    | 13, _ => first | exact trivial | rfl
    | 14, _ => first | exact trivial | rfl
    | 15, _ => first | exact trivial | rfl
    | 16, _ => first | exact trivial | rfl
    | 17, _ => first | exact trivial | rfl
    | 18, _ => first | exact trivial | rfl
    | 19, _ => first | exact trivial | rfl
    | 20, _ => first | exact trivial | rfl
    | 21, _ => first | exact trivial | rfl
    | 22, _ => first | exact trivial | rfl
    | 23, _ => first | exact trivial | rfl
    | 24, _ => first | exact trivial | rfl
    | 25, _ => first | exact trivial | rfl
    | 26, _ => first | exact trivial | rfl
    | 27, _ => first | exact trivial | rfl
    | 28, _ => first | exact trivial | rfl
    | 29, _ => first | exact trivial | rfl
    | 30, _ => first | exact trivial | rfl
    | 31, _ => first | exact trivial | rfl
    | 32, _ => first | exact trivial | rfl
    | 33, _ => first | exact trivial | rfl
    | 34, _ => first | exact trivial | rfl
    | 35, _ => first | exact trivial | rfl
    | 36, _ => first | exact trivial | rfl
    | 37, _ => first | exact trivial | rfl
    | 38, _ => first | exact trivial | rfl
    | 39, _ => first | exact trivial | rfl
    | 40, _ => first | exact trivial | rfl
    | 41, _ => first | exact trivial | rfl
    | 42, _ => first | exact trivial | rfl
    | 43, _ => first | exact trivial | rfl
    | 44, _ => first | exact trivial | rfl
    | 45, _ => first | exact trivial | rfl
    | 46, _ => first | exact trivial | rfl
    | 47, _ => first | exact trivial | rfl
    | 48, _ => first | exact trivial | rfl
    | 49, _ => first | exact trivial | rfl
    | 50, _ => exact absurd rfl n50
    | 51, _ => first | exact trivial | rfl
    | 52, _ => first | exact trivial | rfl
    | 53, _ => first | exact trivial | rfl
    | 54, _ => first | exact trivial | rfl
    | 55, _ => first | exact trivial | rfl
    | 56, _ => first | exact trivial | rfl
    | 57, _ => first | exact trivial | rfl
    | 58, _ => first | exact trivial | rfl
    | 59, _ => first | exact trivial | rfl
    | 60, _ => first | exact trivial | rfl
    | 61, _ => first | exact trivial | rfl
    | 62, _ => first | exact trivial | rfl
    | 63, _ => first | exact trivial | rfl
    | 64, _ => first | exact trivial | rfl
    | k + 65, h9 => exact absurd h9 (by omega)
  intro k hk
  by_cases e8 : k = 8
  · subst e8
    intro i hi j hj
    have h1 := h.1 i hi
    have h2 : r 8 i = some j := hj
    rw [h1.1] at h2
    cases h2
    have := h1.2.2.2
    omega
  · by_cases e50 : k = 50
    · subst e50
      intro i hi j hj
      have hi2 : i < 2 := hi
      have h2 : r 50 i = some j := hj
      match i, hi2 with
      | 0, _ => rw [h5.1] at h2; cases h2; decide
      | 1, _ => rw [h5.2] at h2; cases h2; decide
    · exact go k hk e8 e50 _ _ _
/-- the world with law's own arrays behind the class's cells -/
def WX (d : Nat → Nat → Int32) (r : Nat → Nat → Option Nat) (J : Nat → Nat → Int64) (X : Nat → am_E) : Nat → am_E := fr_aw 65 (W0 d r J) X
theorem WX_in {d : Nat → Nat → Int32} {r : Nat → Nat → Option Nat} {J : Nat → Nat → Int64} {X : Nat → am_E} {k : Nat} (h : k < 65) : WX d r J X k = W0 d r J k := if_pos h
theorem WX_out {d : Nat → Nat → Int32} {r : Nat → Nat → Option Nat} {J : Nat → Nat → Int64} {X : Nat → am_E} {k : Nat} (h : 65 ≤ k) : WX d r J X k = X k := if_neg (by omega)
theorem WX_mix {d d1 : Nat → Nat → Int32} {r r1 : Nat → Nat → Option Nat} {J J1 : Nat → Nat → Int64} {X : Nat → am_E} : fr_aw 65 (W0 d1 r1 J1) (WX d r J X) = WX d1 r1 J1 X := by
  funext k
  unfold WX fr_aw
  by_cases c : k < 65
  · rw [if_pos c, if_pos c]
  · rw [if_neg c, if_neg c, if_neg c]
theorem WX_up {d : Nat → Nat → Int32} {r : Nat → Nat → Option Nat} {J : Nat → Nat → Int64} {X : Nat → am_E} {c : Nat} {x : am_E} (h : 65 ≤ c) : am_up (WX d r J X) c x = WX d r J (am_up X c x) := by
  funext k
  by_cases e : k = c
  · subst e
    rw [am_up_eq, WX_out h, am_up_eq]
  · rw [am_up_ne _ _ e]
    unfold WX fr_aw
    rw [am_up_ne _ _ e]
theorem WX_0 {d : Nat → Nat → Int32} {r : Nat → Nat → Option Nat} {J : Nat → Nat → Int64} {c : Nat} {x : am_E} (h : 65 ≤ c) : am_up (W0 d r J) c x = WX d r J (am_up (W0 d r J) c x) := by
  funext k
  unfold WX fr_aw
  by_cases e : k < 65
  · rw [if_pos e, am_up_ne _ _ (by omega)]
  · rw [if_neg e]
section AFX
variable {y : MethodName} {cc : ByteArray} {nL : Nat} {ret : Option FieldType} {xt : List (Nat × Nat × Nat × Nat)} {lv : Nat} {sc : Option (Nat × (Nat → Int32))} {pc : Nat} {lo : List (Option Value)} {st : List Value} {NN : Nat} {k n : Nat} {o : Option Value ⊕ String} {N' : Nat} {aw' : Nat → am_E} {d : Nat → Nat → Int32} {r : Nat → Nat → Option Nat} {J : Nat → Nat → Int64} {X : Nat → am_E}
variable {idx q ci na nL2 lv2 : Nat} {y2 : MethodName} {cc2 : ByteArray} {ret2 : Option FieldType} {As st0 : List Value} {x : Value} {d1 : Nat → Nat → Int32} {r1 : Nat → Nat → Option Nat} {J1 : Nat → Nat → Int64}
theorem px_VF (G : am_LV y.cls idx ci (.code y2 cc2 nL2 ret2) y2 na) (hAC : OP (.code y2 cc2 nL2 ret2) y2 lv2 (.ref q :: As) d r J (some x) d1 r1 J1) (hCl : fr_clo 65 (W0 d r J)) (hNN : 65 ≤ NN) (hI : As.all (fr_v 65) = true) (hxI : fr_v 0 x = true) (hs : st0 = As.reverse ++ .ref q :: st) (hlen : As.length = na) (hlv2 : lv2 < lv) (hnL2 : nL2 ≤ 11) (hq : kO q ci) (hst9 : (st.map fun v => v.category).sum ≤ 8) (dd : decode cc pc = .ok (.invokevirtual idx, 3))
    (k9 : SW y cc nL ret xt lv sc (pc + 3) lo (x :: st) NN (WX d1 r1 J1 X) k n o N' aw') : SW y cc nL ret xt lv sc pc lo st0 NN (WX d r J X) k n o N' aw' := by
  obtain ⟨fs, hf⟩ := hq.2 (d q) (r q) (J q)
  exact fr_callVx (N := 65) (k2 := k) (n2 := n) G hAC hNN (fun _ h => WX_in h) hCl hI hxI hs hlen hlv2 hnL2 hq.1 hf hst9 (by omega) (by omega) dd (by rw [WX_mix]; exact k9)
theorem px_ald {c nn : Nat} {f : Nat → Int32} {i : Int32} (j : Nat) (v : Int32) (hv : f j = v) (hX : X c = am_I .int nn f) (hc : 65 ≤ c) (hcN : c < NN) (hi : i = nI j) (hj : j < nn) (hs9 : nn < 2 ^ 31) (dd : decode cc pc = .ok (.iaload, 1))
    (k9 : SW y cc nL ret xt lv sc (pc + 1) lo (.int v :: st) NN (WX d r J X) k n o N' aw') : SW y cc nL ret xt lv sc pc lo (.int i :: .ref c :: st) NN (WX d r J X) k n o N' aw' := by
  subst hv
  exact sw_iald j hcN ((WX_out hc).trans hX) hi hj hs9 dd k9
theorem px_ast {c nn : Nat} {f : Nat → Int32} {i x : Int32} (j : Nat) (X2 : Nat → am_E) (hX : X c = am_I .int nn f) (hX2 : am_up X c (am_I .int nn (upd f j x)) = X2) (hc : 65 ≤ c) (hcN : c < NN) (hi : i = nI j) (hj : j < nn) (hs9 : nn < 2 ^ 31) (dd : decode cc pc = .ok (.iastore, 1))
    (k9 : SW y cc nL ret xt lv sc (pc + 1) lo st NN (WX d r J X2) k n o N' aw') : SW y cc nL ret xt lv sc pc lo (.int x :: .int i :: .ref c :: st) NN (WX d r J X) k n o N' aw' := by
  subst hX2
  refine sw_iast j hcN ((WX_out hc).trans hX) hi hj hs9 dd ?_
  rw [WX_up hc]
  exact k9
end AFX
theorem am_up_up (z : Nat → am_E) (c : Nat) (x w : am_E) : am_up (am_up z c x) c w = am_up z c w := by
  funext k
  by_cases e : k = c
  · subst e
    rw [am_up_eq, am_up_eq]
  · rw [am_up_ne _ _ e, am_up_ne _ _ e, am_up_ne _ _ e]
section AFS
variable {y : MethodName} {cc : ByteArray} {nL : Nat} {ret : Option FieldType} {xt : List (Nat × Nat × Nat × Nat)} {lv : Nat} {sc : Option (Nat × (Nat → Int32))} {pc : Nat} {lo : List (Option Value)} {st : List Value} {N : Nat} {aw : Nat → am_E} {k n : Nat} {o : Option Value ⊕ String} {N' : Nat} {aw' : Nat → am_E}
theorem sw_callSx2 {idx na nL2 lv2 kc nc k2 n2 N1 : Nat} {y2 : MethodName} {cc2 : ByteArray} {ret2 : Option FieldType} {As st0 : List Value} {aw1 : Nat → am_E} {x : Value} (G : am_LS y.cls idx (Cond.code y2 cc2 nL2 ret2) y2 na) (hAC : am_AM (Cond.code y2 cc2 nL2 ret2) y2 lv2 As N aw (some x) N1 aw1 kc nc) (hs : st0 = As.reverse ++ st) (hlen : As.length = na) (hlv2 : lv2 + 1 < lv) (hnL2 : nL2 ≤ 41) (hst9 : (st.map fun v => v.category).sum ≤ 8) (hk9 : kc + k2 ≤ k) (hn9 : nc + n2 ≤ n) (d : decode cc pc = .ok (.invokestatic idx, 3))
    (k9 : SW y cc nL ret xt lv sc (pc + 3) (lo) (x :: st) (N1) (aw1) (k2) (n2) o N' aw') : SW y cc nL ret xt lv sc (pc) (lo) (st0) (N) (aw) (k) (n) o N' aw' := by
  intro p l e R s m args below meth c H locs cells slots kf nf D A al0 al ws ls st' F hk hn hkR hnR hle hP hD hS hw hl hst
  obtain ⟨hx, hb, hr, hml, hown, hts, hlocks, hin, hfl, hA, hK, hE, hSc, hlv, hloc, hxt⟩ := id F
  subst hs
  obtain ⟨As2, r2, rfl, hAs, hst1⟩ := am_vs.app hst
  have hAs9 := hAs.rev
  rw [List.reverse_reverse] at hAs9
  obtain ⟨As1, hAs1⟩ : ∃ z, z = As2.reverse := ⟨_, rfl⟩
  have hAs2 : As2 = As1.reverse := by rw [hAs1, List.reverse_reverse]
  rw [← hAs1] at hAs9
  subst hAs2
  have hRm : (am_rm lv2 kc nc).frames + 1 ≤ R.frames ∧ 8 + (nL2 + 11) + (am_rm lv2 kc nc).locals ≤ R.locals := ⟨by show lv2 + 1 ≤ _; omega, by show _ + (30 * lv2 + 62) ≤ _; omega⟩
  have hPr := am_pre F hle hP hD hS hw (as := As) (vs := As1) hAs9
  refine am_goR (va_runS (As := As1) (rest := r2) (am_fix F) (hAC l hfl D al As1 ws H.size) (va_cwS na hts G.good rfl rfl rfl ⟨G.1.2.2.1, G.1.2.2.2.1, G.1.2.2.2.2⟩ hRm) ⟨am_Pre.blind, hPr⟩ rfl (by rw [hAs9.len]; exact hlen) hl.choose_spec.1.1 rfl (lv_room (by rw [hst1.cats]; exact hst9)) d ⟨by omega, by omega⟩) hK hD hS hA ?_
  intro v9 al1 ws1 H1 locs1 hov hle1 hP1 hD1 hS1 hw1
  obtain ⟨x9, rfl, hx9⟩ := hov
  exact k9 p l e R s m args below meth c H1 locs1 (cells + kc) (slots + nc) kf nf D A al0 al1 ws1 ls _ F (by omega) (by omega) hkR hnR (hle.tr hle1) hP1 hD1 hS1 hw1 (hl.mono hle1) ⟨_, _, rfl, hx9, hst1.mono hle1⟩
end AFS
/-- contracts with a cost -/
def OB (w0 : Cond) (y : MethodName) (lv : Nat) (as : List Value) (d : Nat → Nat → Int32) (r : Nat → Nat → Option Nat) (J : Nat → Nat → Int64) (v : Option Value) (d1 : Nat → Nat → Int32) (r1 : Nat → Nat → Option Nat) (J1 : Nat → Nat → Int64) (kc nc : Nat) : Prop := am_AM w0 y lv as 65 (W0 d r J) v 65 (W0 d1 r1 J1) kc nc
section AFB
variable {y : MethodName} {cc : ByteArray} {nL : Nat} {ret : Option FieldType} {xt : List (Nat × Nat × Nat × Nat)} {lv : Nat} {sc : Option (Nat × (Nat → Int32))} {pc : Nat} {lo : List (Option Value)} {st : List Value} {k n : Nat} {o : Option Value ⊕ String} {N' : Nat} {aw' : Nat → am_E} {d : Nat → Nat → Int32} {r : Nat → Nat → Option Nat} {J : Nat → Nat → Int64}
variable {idx na nL2 lv2 : Nat} {y2 : MethodName} {cc2 : ByteArray} {ret2 : Option FieldType} {As st0 : List Value} {x : Value} {d1 : Nat → Nat → Int32} {r1 : Nat → Nat → Option Nat} {J1 : Nat → Nat → Int64}
theorem px_SB {kc nc k2 n2 : Nat} (G : am_LS y.cls idx (.code y2 cc2 nL2 ret2) y2 na) (hAC : OB (.code y2 cc2 nL2 ret2) y2 lv2 As d r J (some x) d1 r1 J1 kc nc) (hk9 : kc + k2 ≤ k) (hn9 : nc + n2 ≤ n) (hs : st0 = As.reverse ++ st) (hlen : As.length = na) (hlv2 : lv2 < lv) (hnL2 : nL2 ≤ 11) (hst9 : (st.map fun v => v.category).sum ≤ 8) (dd : decode cc pc = .ok (.invokestatic idx, 3))
    (k9 : SW y cc nL ret xt lv sc (pc + 3) lo (x :: st) 65 (W0 d1 r1 J1) k2 n2 o N' aw') : SW y cc nL ret xt lv sc pc lo st0 65 (W0 d r J) k n o N' aw' :=
  sw_callSx (k2 := k2) (n2 := n2) G hAC hs hlen hlv2 hnL2 hst9 hk9 hn9 dd k9
theorem px_SB2 {kc nc k2 n2 : Nat} (G : am_LS y.cls idx (.code y2 cc2 nL2 ret2) y2 na) (hAC : OB (.code y2 cc2 nL2 ret2) y2 lv2 As d r J (some x) d1 r1 J1 kc nc) (hk9 : kc + k2 ≤ k) (hn9 : nc + n2 ≤ n) (hs : st0 = As.reverse ++ st) (hlen : As.length = na) (hlv2 : lv2 + 1 < lv) (hnL2 : nL2 ≤ 41) (hst9 : (st.map fun v => v.category).sum ≤ 8) (dd : decode cc pc = .ok (.invokestatic idx, 3))
    (k9 : SW y cc nL ret xt lv sc (pc + 3) lo (x :: st) 65 (W0 d1 r1 J1) k2 n2 o N' aw') : SW y cc nL ret xt lv sc pc lo st0 65 (W0 d r J) k n o N' aw' :=
  sw_callSx2 (k2 := k2) (n2 := n2) G hAC hs hlen hlv2 hnL2 hst9 hk9 hn9 dd k9
end AFB
