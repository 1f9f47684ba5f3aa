/-! THE LAW: the script handed on to 'cell'; the loop (own work) -/
section ALS
variable {y : MethodName} {cc : ByteArray} {nL : Nat} {ret : Option FieldType} {xt : List (Nat × Nat × Nat × Nat)} {lv : Nat} {sc : Option (Nat × (Nat → Int32))} {pc : Nat} {lo : List (Option Value)} {st : List Value} {N : Nat} {aw : Nat → am_E} {k n : Nat} {o : Option Value ⊕ String} {N' : Nat} {aw' : Nat → am_E}
def am_AMs (sc : Option (Nat × (Nat → Int32))) (w0 : Cond) (y : MethodName) (lv : Nat) (as : List Value) (N : Nat) (aw : Nat → am_E) (v : Option Value) (N' : Nat) (aw' : Nat → am_E) (k n : Nat) : Prop :=
  ∀ (l : Launch), l.stackTraces = false → ∀ (D : va_G) (al : am_A) (vs : List Value) (ws : va_W) (sz : Nat), Met l y (w0 :: am_W) (am_rm lv k n) (va_Pc vs (fun U => am_Pre D al as vs N aw ws sz U ∧ am_Sc sc al (va_A ws sz) U U.heap)) (am_Q D al (va_A ws sz) (.inl v) N' aw') k n (va_A ws sz)
theorem am_Sc.moved {al : am_A} {A : Nat → Prop} {u U : State} {H : Heap} (hvm : u.vm.Alike U.vm) (h : am_Sc sc al A u H) : am_Sc sc al A U H := by
  cases sc with
  | none => trivial
  | some p =>
    obtain ⟨b, h1, h2, h3⟩ := h
    exact ⟨b, h1, h2.moved hvm, h3⟩
theorem am_blindS {D : va_G} {al : am_A} {as vs : List Value} {N : Nat} {aw : Nat → am_E} {ws : va_W} {sz : Nat} : FrameBlind (va_Pc vs (fun U => am_Pre D al as vs N aw ws sz U ∧ am_Sc sc al (va_A ws sz) U U.heap)) := by
  intro a U g mk h
  have h1 := (am_Pre.blind (D := D) (al := al) (as := as) (vs := vs) (N := N) (aw := aw) (ws := ws) (sz := sz)) a U g mk ⟨h.1, h.2.1⟩
  exact ⟨h1.1, h1.2, am_Sc.moved (U := U.calling g mk a) (Vm.Alike.refl U.vm) h.2.2⟩
theorem am_bodyXS {w0 : Cond} {hh : List (Nat × Nat × Nat × Nat)} (hy : plainName y.cls = true) {as : List Value} (hlen : (as.map fun v => v.category).sum ≤ nL) (h : SW y cc nL ret hh lv sc 0 (am_pad nL (am_lo as)) [] N aw k n o N' aw')
    {l : Launch} (hl : l.stackTraces = false) {D : va_G} {al : am_A} {vs : List Value} {ws : va_W} {sz : Nat} {p : Program} {e : Env} {s : State} {m : MethodId} {args : Array Value} {below : List Frame} {meth : Method} {c : Code} {s₁ : State}
    (B : BodyLoose p l y (headSpec (w0 :: am_W) (am_rm lv k n)) cc nL ret e s m args below meth c s₁) (hml : c.maxLocals = nL) (hxt : c.exceptionTable.toList = tableOf hh) (hv : va_Pc vs (fun U => am_Pre D al as vs N aw ws sz U ∧ am_Sc sc al (va_A ws sz) U U.heap) args s) :
    W p l e (headSpec (w0 :: am_W) (am_rm lv k n)).room s m args below meth c s.heap [] 0 0 (vx_MQ below (am_Q D al (va_A ws sz) o N' aw') (am_X D al (va_A ws sz) o N' aw') args s k n (va_A ws sz)) (entryFrame m args nL) := by
  obtain ⟨rfl, ⟨hsz, hP, hK, hD0, hvs, hw, hE⟩, hSc⟩ := hv
  subst hsz
  have hts := atoms_spec (ws := w0 :: am_W) B.pre
  have hl0 := lv_entry vs (n := nL) (by rw [am_sl_len, hvs.cats]; exact hlen)
  rw [lg_entry_eq]
  refine h p l e _ s m _ below meth c s.heap [] 0 0 k n D (va_A ws s.heap.size) al al ws _ [] ⟨B.exec, B.bytes, B.returns, hml, findClass_of_methodNamed B.named, fun w hw9 => hts w (List.mem_cons_of_mem _ hw9), B.notSynchronized, fun h9 => (name_of_methodNamed B.named B.method).1.trans h9, hl, fun q h9 => Or.inr h9, hK, hE, hSc, Nat.le_refl _, Nat.le_refl _, hxt⟩
    (by omega) (by omega) (Nat.le_refl _) (Nat.le_refl _) (am_le.rf al) hP (hD0.self) va_S.rf hw ⟨_, hl0, fun i v hi => ?_⟩ rfl
  obtain ⟨v', g1, g2⟩ := am_lo_args 0 hvs i v (am_nth_pad hi)
  exact ⟨v', g1, by rw [Nat.zero_add] at g2; exact g2⟩
theorem am_ofS {v : Option Value} {as : List Value} (hy : plainName y.cls = true) (hlen : (as.map fun v => v.category).sum ≤ nL) (h : SW y cc nL ret [] lv sc 0 (am_pad nL (am_lo as)) [] N aw k n (.inl v) N' aw') : am_AMs sc (.code y cc nL ret) y lv as N aw v N' aw' k n := by
  intro l hl D al vs ws sz
  refine am_toMet (vx_ofW (cc := cc) (maxL := nL) (ret := ret) hy rfl ?_)
  intro p e s m args below meth c s₁ B hml hx hv
  exact am_bodyXS hy hlen h hl B hml (List.eq_nil_iff_forall_not_mem.mpr hx) hv
theorem am_preS {p : Program} {l : Launch} {R : Room} {s : State} {m : MethodId} {args : Array Value} {meth : Method} {c : Code} {D : va_G} {A : Nat → Prop} {al0 al : am_A} {ws : va_W} {H : Heap} {locs : List Loc} (F : am_Fix y cc nL ret xt lv sc p l R s m args meth c D A al0) (hle : am_le al0 al) (hP : va_P D vwCl ws H) (hD : va_D A ws) (hS : va_S A s.heap H locs) (hw : am_w s al N aw ws) {as vs : List Value} (hvs : am_vs al as vs) :
    ∀ U : State, U.heap = H → s.WarmedH U.vm → va_Pc vs (fun U => am_Pre D al as vs N aw ws H.size U ∧ am_Sc sc al (va_A ws H.size) U U.heap) vs.toArray U := by
  intro U hU hW
  have h1 := am_pre F hle hP hD hS hw hvs U hU hW
  obtain ⟨hx, hb, hr, hml, hown, hts, hlocks, hin, hfl, hA, hK, hE, hSc, hlv, hloc, hxt⟩ := id F
  refine ⟨h1.1, h1.2, ?_⟩
  rw [hU]
  cases sc with
  | none => trivial
  | some p =>
    obtain ⟨b, g1, g2, g3, g4⟩ := hSc
    exact ⟨b, hle _ _ g1, (g2.kept (hS.2.1 b g3 g4)).moved hW.alike, Nat.lt_of_lt_of_le g3 hS.1, fun q => g4 (am_free hD hS hA b q)⟩
theorem sw_callSC {idx na nL2 lv2 kc nc k2 n2 N1 : Nat} {y2 : MethodName} {cc2 : ByteArray} {ret2 : Option FieldType} {As st0 : List Value} {aw1 : Nat → am_E} {x : Value} (G : am_LS y.cls idx (Cond.code y2 cc2 nL2 ret2) y2 na) (hAC : am_AMs sc (Cond.code y2 cc2 nL2 ret2) y2 lv2 As N aw (some x) N1 aw1 kc nc) (hs : st0 = As.reverse ++ st) (hlen : As.length = na) (hlv2 : lv2 < lv) (hnL2 : nL2 ≤ 11) (hst9 : (st.map fun v => v.category).sum ≤ 8) (hk9 : kc + k2 ≤ k) (hn9 : nc + n2 ≤ n) (d : decode cc pc = .ok (.invokestatic idx, 3))
    (k9 : SW y cc nL ret xt lv sc (pc + 3) (lo) (x :: st) (N1) (aw1) (k2) (n2) o N' aw') : SW y cc nL ret xt lv sc (pc) (lo) (st0) (N) (aw) (k) (n) o N' aw' := by
  intro p l e R s m args below meth c H locs cells slots kf nf D A al0 al ws ls st' F hk hn hkR hnR hle hP hD hS hw hl hst
  obtain ⟨hx, hb, hr, hml, hown, hts, hlocks, hin, hfl, hA, hK, hE, hSc, hlv, hloc, hxt⟩ := id F
  subst hs
  obtain ⟨As2, r2, rfl, hAs, hst1⟩ := am_vs.app hst
  have hAs9 := hAs.rev
  rw [List.reverse_reverse] at hAs9
  obtain ⟨As1, hAs1⟩ : ∃ z, z = As2.reverse := ⟨_, rfl⟩
  have hAs2 : As2 = As1.reverse := by rw [hAs1, List.reverse_reverse]
  rw [← hAs1] at hAs9
  subst hAs2
  have hRm : (am_rm lv2 kc nc).frames + 1 ≤ R.frames ∧ 8 + (nL2 + 11) + (am_rm lv2 kc nc).locals ≤ R.locals := ⟨by show lv2 + 1 ≤ _; omega, by show _ + (30 * lv2 + 62) ≤ _; omega⟩
  have hPr := am_preS F hle hP hD hS hw (as := As) (vs := As1) hAs9
  refine am_goR (va_runS (As := As1) (rest := r2) (am_fix F) (hAC l hfl D al As1 ws H.size) (va_cwS na hts G.good rfl rfl rfl ⟨G.1.2.2.1, G.1.2.2.2.1, G.1.2.2.2.2⟩ hRm) ⟨am_blindS, hPr⟩ rfl (by rw [hAs9.len]; exact hlen) hl.choose_spec.1.1 rfl (lv_room (by rw [hst1.cats]; exact hst9)) d ⟨by omega, by omega⟩) hK hD hS hA ?_
  intro v9 al1 ws1 H1 locs1 hov hle1 hP1 hD1 hS1 hw1
  obtain ⟨x9, rfl, hx9⟩ := hov
  exact k9 p l e R s m args below meth c H1 locs1 (cells + kc) (slots + nc) kf nf D A al0 al1 ws1 ls _ F (by omega) (by omega) hkR hnR (hle.tr hle1) hP1 hD1 hS1 hw1 (hl.mono hle1) ⟨_, _, rfl, hx9, hst1.mono hle1⟩
end ALS
/-- the script's number at a place, as the law reads it -/
def cel (L : Nat) (xs : Nat → Int32) (k : Nat) : Int32 := if k < L then xs k else 903334369 * (nI k + nI 5) + 800303061
set_option maxRecDepth 100000 in
set_option maxHeartbeats 4000000 in
theorem A_L_cell {d : Nat → Nat → Int32} {r : Nat → Nat → Option Nat} {J : Nat → Nat → Int64} {L k : Nat} {xs : Nat → Int32} (hL : L ≤ 260) (hk : k < 2 ^ 20) : am_AMs (some (L, xs)) kL_cell yL_cell 0 [.ref 1100, .int (nI k)] 65 (W0 d r J) (some (.int (cel L xs k))) 65 (W0 d r J) 0 0 := by
  refine am_ofS pl_L_cell (Nat.le_of_ble_eq_true rfl) ?_
  unfold cel
  by_cases c9 : k < L
  · rw [if_pos c9]
    refine sw_iload_n (i := 1) dL_cell_0 rfl rfl ?_
    refine sw_aload_n (i := 0) dL_cell_1 rfl rfl ?_
    refine sw_slen rfl dL_cell_2 ?_
    refine sw_ic_ge (tgt := 12) dL_cell_3 rfl (fun h9 => absurd h9 (nI_ge c9 (by omega))) (fun _ => ?_)
    refine sw_aload_n (i := 0) dL_cell_6 rfl rfl ?_
    refine sw_iload_n (i := 1) dL_cell_7 rfl rfl ?_
    refine sw_sld rfl (k) rfl c9 (by omega) dL_cell_8 ?_
    refine sw_ins (pc2 := 9) rfl rfl ?_
    refine sw_goto (tgt := 21) dL_cell_9 rfl ?_
    exact sw_ireturn rfl dL_cell_21
  · rw [if_neg c9]
    refine sw_iload_n (i := 1) dL_cell_0 rfl rfl ?_
    refine sw_aload_n (i := 0) dL_cell_1 rfl rfl ?_
    refine sw_slen rfl dL_cell_2 ?_
    refine sw_ic_ge (tgt := 12) dL_cell_3 rfl (fun _ => ?_) (fun h9 => absurd (nI_le (by omega) (by omega)) h9)
    refine sw_ldc kc_L_7 dL_cell_12 ?_
    refine sw_iload_n (i := 1) dL_cell_14 rfl rfl ?_
    refine sw_ic 5 dL_cell_15 ?_
    refine sw_ins (pc2 := 16) rfl rfl ?_
    refine sw_iadd dL_cell_16 ?_
    refine sw_imul dL_cell_17 ?_
    refine sw_ldc kc_L_8 dL_cell_18 ?_
    refine sw_iadd dL_cell_20 ?_
    exact sw_ireturn rfl dL_cell_21
section ALC
variable {y : MethodName} {cc : ByteArray} {nL : Nat} {ret : Option FieldType} {xt : List (Nat × Nat × Nat × Nat)} {lv : Nat} {sc : Option (Nat × (Nat → Int32))} {pc : Nat} {lo : List (Option Value)} {st : List Value} {k n : Nat} {o : Option Value ⊕ String} {N' : Nat} {aw' : Nat → am_E} {d : Nat → Nat → Int32} {r : Nat → Nat → Option Nat} {J : Nat → Nat → Int64}
variable {idx na nL2 lv2 : Nat} {y2 : MethodName} {cc2 : ByteArray} {ret2 : Option FieldType} {As st0 : List Value} {x : Value}
theorem px_SC (G : am_LS y.cls idx (.code y2 cc2 nL2 ret2) y2 na) (hAC : am_AMs sc (.code y2 cc2 nL2 ret2) y2 lv2 As 65 (W0 d r J) (some x) 65 (W0 d r J) 0 0) (hs : st0 = As.reverse ++ st) (hlen : As.length = na) (hlv2 : lv2 < lv) (hnL2 : nL2 ≤ 11) (hst9 : (st.map fun v => v.category).sum ≤ 8) (dd : decode cc pc = .ok (.invokestatic idx, 3))
    (k9 : SW y cc nL ret xt lv sc (pc + 3) lo (x :: st) 65 (W0 d r J) k n o N' aw') : SW y cc nL ret xt lv sc pc lo st0 65 (W0 d r J) k n o N' aw' :=
  sw_callSC (k2 := k) (n2 := n) G hAC hs hlen hlv2 hnL2 hst9 (by omega) (by omega) dd k9
end ALC
set_option maxRecDepth 100000 in
set_option maxHeartbeats 4000000 in
theorem LOOP {xt : List (Nat × Nat × Nat × Nat)} {L : Nat} {xs : Nat → Int32} {J : Nat → Nat → Int64} (hL : L ≤ 260) : ∀ (f e : Nat), e + f = 44 → ∀ (d : Nat → Nat → Int32) (r : Nat → Nat → Option Nat), LI e d r → ∃ d1 r1, SW yL_law cL_law 4 (some .boolean) xt 12 (some (L, xs)) 37 [some (.ref 1100), some (.ref 0), some (.int (nI e)), none] [] 65 (W0 d r J) (3 * f + 1) (48 * f + 4) (.inl (some (.int (nI 1)))) 65 (W0 d1 r1 J) := by
  intro f
  induction f with
  | zero =>
    intro e he d r g
    obtain ⟨V, n, H, S, t, T, tl, h, iv, hd, hD⟩ := g
    obtain ⟨d1, z1, -⟩ := A_L_arePurses (J := J) h iv
    refine ⟨d1, r, ?_⟩
    refine sw_iload_n (i := 2) dL_law_37 rfl rfl ?_
    refine sw_bi 44 dL_law_38 (by decide +kernel) ?_
    refine sw_ic_ge (tgt := 122) dL_law_40 rfl (fun _ => ?_) (fun h9 => absurd (nI_le (by omega) (by omega)) h9)
    refine sw_aload_n (i := 1) dL_law_122 rfl rfl ?_
    refine px_SB2 (k2 := 0) (n2 := 0) ms_L_111 z1 (by omega) (by omega) rfl rfl (Nat.le_of_ble_eq_true rfl) (Nat.le_of_ble_eq_true rfl) (Nat.le_of_ble_eq_true rfl) dL_law_123 ?_
    exact sw_zreturnE rfl rfl rfl dL_law_126
  | succ f ih =>
    intro e he d r g
    obtain ⟨d2, r2, a1, a2⟩ := A_L_act (J := J) (v := cel L xs (2 * e)) (w := cel L xs (2 * e + 1)) g (by omega)
    obtain ⟨V, n, H, S, t, T, tl, h, iv, hd, hD⟩ := a2
    obtain ⟨d3, b1, b2⟩ := A_L_arePromises (J := J) h iv hd hD (by omega)
    obtain ⟨i, hi, li⟩ : ∃ q9, q9 < 8 ∧ ∀ (d : Nat → Nat → Int32) (r : Nat → Nat → Option Nat), OP kL_low yL_low 0 [.int ((cel L xs (2 * e + 1)) >>> (nI 2 &&& 31)), .int (nI 8)] d r J (some (.int (nI q9))) d r J := ⟨lw ((cel L xs (2 * e + 1)) >>> (nI 2 &&& 31)) (8), lw_lt _ (by omega), fun d r => A_L_low (by omega) (by omega)⟩
    obtain ⟨x, hx, lx⟩ : ∃ q9, q9 < 99 ∧ ∀ (d : Nat → Nat → Int32) (r : Nat → Nat → Option Nat), OP kL_low yL_low 0 [.int ((cel L xs (2 * e + 1)) >>> (nI 5 &&& 31)), .int (nI 99)] d r J (some (.int (nI q9))) d r J := ⟨lw ((cel L xs (2 * e + 1)) >>> (nI 5 &&& 31)) (99), lw_lt _ (by omega), fun d r => A_L_low (by omega) (by omega)⟩
    by_cases c3 : e % 3 = 2
    · obtain ⟨d4, c1, c2⟩ := A_L_arePurses (J := J) b2 iv
      obtain ⟨d5, p1, p2⟩ := A_L_pays (J := J) (i := i) (s := 1 + x) c2 iv hi (by omega) (by omega)
      obtain ⟨d1, r1, z1⟩ := ih (e + 1) (by omega) d5 r2 ⟨_, _, _, _, _, _, _, p2, iv, hd, hD⟩
      refine ⟨d1, r1, ?_⟩
      refine sw_iload_n (i := 2) dL_law_37 rfl rfl ?_
      refine sw_bi 44 dL_law_38 (by decide +kernel) ?_
      refine sw_ic_ge (tgt := 122) dL_law_40 rfl (fun h9 => absurd h9 (nI_ge (by omega) (by decide))) (fun _ => ?_)
      refine sw_aload_n (i := 0) dL_law_43 rfl rfl ?_
      refine sw_ic 2 dL_law_44 ?_
      refine sw_iload_n (i := 2) dL_law_45 rfl rfl ?_
      refine sw_imul dL_law_46 ?_
      refine sw_topE (v := nI (2 * e)) (pk_mul _ _) ?_
      refine sw_ins (pc2 := 47) rfl rfl ?_
      refine sw_ic 1 dL_law_47 ?_
      refine sw_iadd dL_law_48 ?_
      refine sw_topE (v := nI (2 * e + 1)) (nI_add _ _) ?_
      refine px_SC ms_L_114 (A_L_cell (k := 2 * e + 1) hL (by omega)) rfl rfl (Nat.le_of_ble_eq_true rfl) (Nat.le_of_ble_eq_true rfl) (Nat.le_of_ble_eq_true rfl) dL_law_49 ?_
      refine sw_istore_n (i := 3) dL_law_52 rfl (Nat.le_of_ble_eq_true rfl) rfl ?_
      refine sw_lo (lo2 := [some (.ref 1100), some (.ref 0), some (.int _), some (.int _)]) rfl ?_
      refine sw_aload_n (i := 1) dL_law_53 rfl rfl ?_
      refine sw_aload_n (i := 0) dL_law_54 rfl rfl ?_
      refine sw_ic 2 dL_law_55 ?_
      refine sw_iload_n (i := 2) dL_law_56 rfl rfl ?_
      refine sw_ins (pc2 := 57) rfl rfl ?_
      refine sw_imul dL_law_57 ?_
      refine sw_topE (v := nI (2 * e)) (pk_mul _ _) ?_
      refine px_SC ms_L_114 (A_L_cell (k := 2 * e) hL (by omega)) rfl rfl (Nat.le_of_ble_eq_true rfl) (Nat.le_of_ble_eq_true rfl) (Nat.le_of_ble_eq_true rfl) dL_law_58 ?_
      refine sw_iload_n (i := 3) dL_law_61 rfl rfl ?_
      refine px_SB (k2 := 3 * f + 2) (n2 := 48 * f + 12) ms_L_118 a1 (by omega) (by omega) rfl rfl (Nat.le_of_ble_eq_true rfl) (Nat.le_of_ble_eq_true rfl) (Nat.le_of_ble_eq_true rfl) dL_law_62 ?_
      refine sw_if_eq (tgt := 114) dL_law_65 rfl (fun h9 => absurd h9 (by decide)) (fun _ => ?_)
      refine sw_aload_n (i := 1) dL_law_68 rfl rfl ?_
      refine px_Sx ms_L_121 b1 rfl rfl (Nat.le_of_ble_eq_true rfl) (Nat.le_of_ble_eq_true rfl) (Nat.le_of_ble_eq_true rfl) dL_law_69 ?_
      refine sw_if_eq (tgt := 114) dL_law_72 rfl (fun h9 => absurd h9 (by decide)) (fun _ => ?_)
      refine sw_ins (pc2 := 75) rfl rfl ?_
      refine sw_iload_n (i := 2) dL_law_75 rfl rfl ?_
      refine sw_ic 3 dL_law_76 ?_
      refine sw_irem (by decide) dL_law_77 ?_
      refine sw_topE (v := nI (e % 3)) (pk_rem (by omega) (by decide) (by decide)) ?_
      refine sw_ic 2 dL_law_78 ?_
      refine sw_ic_ne (tgt := 89) dL_law_79 rfl (fun h9 => absurd (by rw [c3]) h9) (fun _ => ?_)
      refine sw_aload_n (i := 1) dL_law_82 rfl rfl ?_
      refine px_SB2 (k2 := 3 * f + 1) (n2 := 48 * f + 8) ms_L_111 c1 (by omega) (by omega) rfl rfl (Nat.le_of_ble_eq_true rfl) (Nat.le_of_ble_eq_true rfl) (Nat.le_of_ble_eq_true rfl) dL_law_83 ?_
      refine sw_if_eq (tgt := 114) dL_law_86 rfl (fun h9 => absurd h9 (by decide)) (fun _ => ?_)
      refine sw_ins (pc2 := 89) rfl rfl ?_
      refine sw_aload_n (i := 1) dL_law_89 rfl rfl ?_
      refine sw_iload_n (i := 3) dL_law_90 rfl rfl ?_
      refine sw_ic 2 dL_law_91 ?_
      refine sw_ishr rfl dL_law_92 ?_
      refine sw_bi 8 dL_law_93 (by decide +kernel) ?_
      refine px_Sx ms_L_62 (li _ _) rfl rfl (Nat.le_of_ble_eq_true rfl) (Nat.le_of_ble_eq_true rfl) (Nat.le_of_ble_eq_true rfl) dL_law_95 ?_
      refine sw_ic 1 dL_law_98 ?_
      refine sw_iload_n (i := 3) dL_law_99 rfl rfl ?_
      refine sw_ins (pc2 := 100) rfl rfl ?_
      refine sw_ic 5 dL_law_100 ?_
      refine sw_ishr rfl dL_law_101 ?_
      refine sw_bi 99 dL_law_102 (by decide +kernel) ?_
      refine px_Sx ms_L_62 (lx _ _) rfl rfl (Nat.le_of_ble_eq_true rfl) (Nat.le_of_ble_eq_true rfl) (Nat.le_of_ble_eq_true rfl) dL_law_104 ?_
      refine sw_iadd dL_law_107 ?_
      refine sw_topE (v := nI (1 + x)) (nI_add _ _) ?_
      refine px_Sx ms_L_103 p1 rfl rfl (Nat.le_of_ble_eq_true rfl) (Nat.le_of_ble_eq_true rfl) (Nat.le_of_ble_eq_true rfl) dL_law_108 ?_
      refine sw_if_ne (tgt := 116) dL_law_111 rfl (fun _ => ?_) (fun h9 => absurd h9 (by decide))
      refine sw_iinc (i := 2) (v := nI (e + 1)) dL_law_116 rfl (nI_1 _) (Nat.le_of_ble_eq_true rfl) rfl ?_
      refine sw_lo (lo2 := [some (.ref 1100), some (.ref 0), some (.int _), some (.int _)]) rfl ?_
      refine sw_ins (pc2 := 119) rfl rfl ?_
      refine sw_goto (tgt := 37) dL_law_119 rfl ?_
      refine sw_bud (k2 := 3 * f + 1) (n2 := 48 * f + 4) (by omega) (by omega) ?_
      refine sw_sub ?_ z1
      exact ⟨rfl, rfl, rfl, trivial⟩
    · obtain ⟨d5, p1, p2⟩ := A_L_pays (J := J) (i := i) (s := 1 + x) b2 iv hi (by omega) (by omega)
      obtain ⟨d1, r1, z1⟩ := ih (e + 1) (by omega) d5 r2 ⟨_, _, _, _, _, _, _, p2, iv, hd, hD⟩
      refine ⟨d1, r1, ?_⟩
      refine sw_iload_n (i := 2) dL_law_37 rfl rfl ?_
      refine sw_bi 44 dL_law_38 (by decide +kernel) ?_
      refine sw_ic_ge (tgt := 122) dL_law_40 rfl (fun h9 => absurd h9 (nI_ge (by omega) (by decide))) (fun _ => ?_)
      refine sw_aload_n (i := 0) dL_law_43 rfl rfl ?_
      refine sw_ic 2 dL_law_44 ?_
      refine sw_iload_n (i := 2) dL_law_45 rfl rfl ?_
      refine sw_imul dL_law_46 ?_
      refine sw_topE (v := nI (2 * e)) (pk_mul _ _) ?_
      refine sw_ins (pc2 := 47) rfl rfl ?_
      refine sw_ic 1 dL_law_47 ?_
      refine sw_iadd dL_law_48 ?_
      refine sw_topE (v := nI (2 * e + 1)) (nI_add _ _) ?_
      refine px_SC ms_L_114 (A_L_cell (k := 2 * e + 1) hL (by omega)) rfl rfl (Nat.le_of_ble_eq_true rfl) (Nat.le_of_ble_eq_true rfl) (Nat.le_of_ble_eq_true rfl) dL_law_49 ?_
      refine sw_istore_n (i := 3) dL_law_52 rfl (Nat.le_of_ble_eq_true rfl) rfl ?_
      refine sw_lo (lo2 := [some (.ref 1100), some (.ref 0), some (.int _), some (.int _)]) rfl ?_
      refine sw_aload_n (i := 1) dL_law_53 rfl rfl ?_
      refine sw_aload_n (i := 0) dL_law_54 rfl rfl ?_
      refine sw_ic 2 dL_law_55 ?_
      refine sw_iload_n (i := 2) dL_law_56 rfl rfl ?_
      refine sw_ins (pc2 := 57) rfl rfl ?_
      refine sw_imul dL_law_57 ?_
      refine sw_topE (v := nI (2 * e)) (pk_mul _ _) ?_
      refine px_SC ms_L_114 (A_L_cell (k := 2 * e) hL (by omega)) rfl rfl (Nat.le_of_ble_eq_true rfl) (Nat.le_of_ble_eq_true rfl) (Nat.le_of_ble_eq_true rfl) dL_law_58 ?_
      refine sw_iload_n (i := 3) dL_law_61 rfl rfl ?_
      refine px_SB (k2 := 3 * f + 2) (n2 := 48 * f + 12) ms_L_118 a1 (by omega) (by omega) rfl rfl (Nat.le_of_ble_eq_true rfl) (Nat.le_of_ble_eq_true rfl) (Nat.le_of_ble_eq_true rfl) dL_law_62 ?_
      refine sw_if_eq (tgt := 114) dL_law_65 rfl (fun h9 => absurd h9 (by decide)) (fun _ => ?_)
      refine sw_aload_n (i := 1) dL_law_68 rfl rfl ?_
      refine px_Sx ms_L_121 b1 rfl rfl (Nat.le_of_ble_eq_true rfl) (Nat.le_of_ble_eq_true rfl) (Nat.le_of_ble_eq_true rfl) dL_law_69 ?_
      refine sw_if_eq (tgt := 114) dL_law_72 rfl (fun h9 => absurd h9 (by decide)) (fun _ => ?_)
      refine sw_ins (pc2 := 75) rfl rfl ?_
      refine sw_iload_n (i := 2) dL_law_75 rfl rfl ?_
      refine sw_ic 3 dL_law_76 ?_
      refine sw_irem (by decide) dL_law_77 ?_
      refine sw_topE (v := nI (e % 3)) (pk_rem (by omega) (by decide) (by decide)) ?_
      refine sw_ic 2 dL_law_78 ?_
      refine sw_ic_ne (tgt := 89) dL_law_79 rfl (fun _ => ?_) (fun h9 => absurd h9 (fun g9 => absurd ((nI_eq (by omega) (by omega)).mp g9) c3))
      refine sw_aload_n (i := 1) dL_law_89 rfl rfl ?_
      refine sw_iload_n (i := 3) dL_law_90 rfl rfl ?_
      refine sw_ic 2 dL_law_91 ?_
      refine sw_ins (pc2 := 92) rfl rfl ?_
      refine sw_ishr rfl dL_law_92 ?_
      refine sw_bi 8 dL_law_93 (by decide +kernel) ?_
      refine px_Sx ms_L_62 (li _ _) rfl rfl (Nat.le_of_ble_eq_true rfl) (Nat.le_of_ble_eq_true rfl) (Nat.le_of_ble_eq_true rfl) dL_law_95 ?_
      refine sw_ic 1 dL_law_98 ?_
      refine sw_iload_n (i := 3) dL_law_99 rfl rfl ?_
      refine sw_ic 5 dL_law_100 ?_
      refine sw_ishr rfl dL_law_101 ?_
      refine sw_bi 99 dL_law_102 (by decide +kernel) ?_
      refine sw_ins (pc2 := 104) rfl rfl ?_
      refine px_Sx ms_L_62 (lx _ _) rfl rfl (Nat.le_of_ble_eq_true rfl) (Nat.le_of_ble_eq_true rfl) (Nat.le_of_ble_eq_true rfl) dL_law_104 ?_
      refine sw_iadd dL_law_107 ?_
      refine sw_topE (v := nI (1 + x)) (nI_add _ _) ?_
      refine px_Sx ms_L_103 p1 rfl rfl (Nat.le_of_ble_eq_true rfl) (Nat.le_of_ble_eq_true rfl) (Nat.le_of_ble_eq_true rfl) dL_law_108 ?_
      refine sw_if_ne (tgt := 116) dL_law_111 rfl (fun _ => ?_) (fun h9 => absurd h9 (by decide))
      refine sw_iinc (i := 2) (v := nI (e + 1)) dL_law_116 rfl (nI_1 _) (Nat.le_of_ble_eq_true rfl) rfl ?_
      refine sw_lo (lo2 := [some (.ref 1100), some (.ref 0), some (.int _), some (.int _)]) rfl ?_
      refine sw_goto (tgt := 37) dL_law_119 rfl ?_
      refine sw_bud (k2 := 3 * f + 1) (n2 := 48 * f + 4) (by omega) (by omega) ?_
      refine sw_sub ?_ z1
      exact ⟨rfl, rfl, rfl, trivial⟩
