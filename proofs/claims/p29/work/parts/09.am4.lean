/-! THE ABSTRACT MACHINE, part 4: contracts, calls, throws, catches (own work, written by wip/tools/mk_am4.py) -/
section AMD
variable {y : MethodName} {cc : ByteArray} {nL : Nat} {ret : Option FieldType} {xt : List (Nat × Nat × Nat × Nat)} {lv : Nat} {sc : Option (Nat × (Nat → Int32))} {pc : Nat} {lo : List (Option Value)} {st : List Value} {N : Nat} {aw : Nat → am_E} {k n : Nat} {o : Option Value ⊕ String} {N' : Nat} {aw' : Nat → am_E}
def am_rm (lv k n : Nat) : Room := { frames := lv, cells := k, slots := n, locals := 30 * lv + 62 }
def am_Pre (D : va_G) (al : am_A) (as vs : List Value) (N : Nat) (aw : Nat → am_E) (ws : va_W) (sz : Nat) (U : State) : Prop :=
  U.heap.size = sz ∧ va_P D vwCl ws U.heap ∧ va_K D vwCl [] U ∧ va_D (fun _ => True) ws ∧ am_vs al as vs ∧ am_w U al N aw ws ∧ am_Env al (va_A ws sz) U U.heap
/-- the method named y (its code's word w0), called with the arguments 'as' in the world aw, returns v in the world aw' -/
def am_AM (w0 : Cond) (y : MethodName) (lv : Nat) (as : List Value) (N : Nat) (aw : Nat → am_E) (v : Option Value) (N' : Nat) (aw' : Nat → am_E) (k n : Nat) : Prop :=
  ∀ (l : Launch), l.stackTraces = false → ∀ (D : va_G) (al : am_A) (vs : List Value) (ws : va_W) (sz : Nat), Met l y (w0 :: am_W) (am_rm lv k n) (va_Pc vs (am_Pre D al as vs N aw ws sz)) (am_Q D al (va_A ws sz) (.inl v) N' aw') k n (va_A ws sz)
/-- .. throws E -/
def am_AT (w0 : Cond) (y : MethodName) (lv : Nat) (as : List Value) (N : Nat) (aw : Nat → am_E) (E : String) (N' : Nat) (aw' : Nat → am_E) (k n : Nat) : Prop :=
  ∀ (l : Launch), l.stackTraces = false → ∀ (D : va_G) (al : am_A) (vs : List Value) (ws : va_W) (sz : Nat), vx_Met l y (w0 :: am_W) (am_rm lv k n) (va_Pc vs (am_Pre D al as vs N aw ws sz)) (am_Q D al (va_A ws sz) (.inr E) N' aw') (am_X D al (va_A ws sz) (.inr E) N' aw') k n (va_A ws sz)
theorem am_sl_len : ∀ vs : List Value, (lg_sl vs).length = (vs.map fun v => v.category).sum
  | [] => rfl
  | v :: r => by
    have ih := am_sl_len r
    unfold lg_sl at ih ⊢
    rw [List.flatMap_cons, List.length_append, ih, List.map_cons, List.sum_cons]
    rcases lv_cat v with h | h
    · rw [if_neg (by omega), h]; rfl
    · rw [if_pos h, h]; rfl
def am_pad : Nat → List (Option Value) → List (Option Value)
  | 0, _ => []
  | k + 1, [] => none :: am_pad k []
  | k + 1, x :: r => x :: am_pad k r
theorem am_nth_pad : ∀ {k : Nat} {l : List (Option Value)} {i : Nat} {v : Value}, am_nth (am_pad k l) i = some v → am_nth l i = some v
  | 0, _, _, _, h => by cases h
  | k + 1, [], 0, _, h => by cases h
  | k + 1, [], i + 1, v, h => by
    have h2 := am_nth_pad (k := k) (l := []) (i := i) (v := v) h
    cases h2
  | k + 1, x :: r, 0, _, h => h
  | k + 1, x :: r, i + 1, v, h => am_nth_pad (k := k) (l := r) (i := i) (v := v) h
theorem am_K9 {D : va_G} {u U : State} (hvm : u.vm.Alike U.vm) (h : va_K D vwCl [] u) : va_K D vwCl [] U := va_K.moved hvm h
theorem am_Pre.blind {D : va_G} {al : am_A} {as vs : List Value} {N : Nat} {aw : Nat → am_E} {ws : va_W} {sz : Nat} : FrameBlind (va_Pc vs (am_Pre D al as vs N aw ws sz)) := by
  intro a U g mk h
  obtain ⟨h0, h1, h2, h3, h4, h5, h6, h7⟩ := h
  exact ⟨h0, h1, h2, am_K9 (U := U.calling g mk a) (Vm.Alike.refl U.vm) h3, h4, h5, am_w.moved (U := U.calling g mk a) (Vm.Alike.refl U.vm) h6, h7.warm (U := U.calling g mk a) (State.WarmedH.refl U)⟩
/-- a body's walk gives its contract -/
theorem am_bodyX {w0 : Cond} {hh : List (Nat × Nat × Nat × Nat)} (hy : plainName y.cls = true) {as : List Value} (hlen : (as.map fun v => v.category).sum ≤ nL) (h : SW y cc nL ret hh lv none 0 (am_pad nL (am_lo as)) [] N aw k n o N' aw')
    {l : Launch} (hl : l.stackTraces = false) {D : va_G} {al : am_A} {vs : List Value} {ws : va_W} {sz : Nat} {p : Program} {e : Env} {s : State} {m : MethodId} {args : Array Value} {below : List Frame} {meth : Method} {c : Code} {s₁ : State}
    (B : BodyLoose p l y (headSpec (w0 :: am_W) (am_rm lv k n)) cc nL ret e s m args below meth c s₁) (hml : c.maxLocals = nL) (hxt : c.exceptionTable.toList = tableOf hh) (hv : va_Pc vs (am_Pre D al as vs N aw ws sz) args s) :
    W p l e (headSpec (w0 :: am_W) (am_rm lv k n)).room s m args below meth c s.heap [] 0 0 (vx_MQ below (am_Q D al (va_A ws sz) o N' aw') (am_X D al (va_A ws sz) o N' aw') args s k n (va_A ws sz)) (entryFrame m args nL) := by
  obtain ⟨rfl, hsz, hP, hK, hD0, hvs, hw, hE⟩ := hv
  subst hsz
  have hts := atoms_spec (ws := w0 :: am_W) B.pre
  have hl0 := lv_entry vs (n := nL) (by rw [am_sl_len, hvs.cats]; exact hlen)
  rw [lg_entry_eq]
  refine h p l e _ s m _ below meth c s.heap [] 0 0 k n D (va_A ws s.heap.size) al al ws _ [] ⟨B.exec, B.bytes, B.returns, hml, findClass_of_methodNamed B.named, fun w hw9 => hts w (List.mem_cons_of_mem _ hw9), B.notSynchronized, fun h9 => (name_of_methodNamed B.named B.method).1.trans h9, hl, fun q h9 => Or.inr h9, hK, hE, trivial, Nat.le_refl _, Nat.le_refl _, hxt⟩
    (by omega) (by omega) (Nat.le_refl _) (Nat.le_refl _) (am_le.rf al) hP (hD0.self) va_S.rf hw ⟨_, hl0, fun i v hi => ?_⟩ rfl
  obtain ⟨v', g1, g2⟩ := am_lo_args 0 hvs i v (am_nth_pad hi)
  exact ⟨v', g1, by rw [Nat.zero_add] at g2; exact g2⟩
theorem am_toMet {l : Launch} {ws : List Cond} {rm : Room} {Pc : Array Value → State → Prop} {D : va_G} {al : am_A} {A : Nat → Prop} {v : Option Value} {mc ms : Nat} {free : Addr → Prop}
    (h : vx_Met l y ws rm Pc (am_Q D al A (.inl v) N' aw') (am_X D al A (.inl v) N' aw') mc ms free) : Met l y ws rm Pc (am_Q D al A (.inl v) N' aw') mc ms free := by
  intro p e a b c s m args below f g i j
  obtain ⟨n9, o9, h1, h2, h3, h4⟩ := h p e a b c s m args below f g i j
  refine ⟨n9, o9, h1, h2, h3, ?_⟩
  rcases h4 with h4 | ⟨q, -, E, ce, L, ⟨⟨hX, -⟩, -⟩, -⟩
  · exact h4
  · cases hX
theorem am_of {v : Option Value} {as : List Value} (hy : plainName y.cls = true) (hlen : (as.map fun v => v.category).sum ≤ nL) (h : SW y cc nL ret [] lv none 0 (am_pad nL (am_lo as)) [] N aw k n (.inl v) N' aw') : am_AM (.code y cc nL ret) y lv as N aw v N' aw' k n := by
  intro l hl D al vs ws sz
  refine am_toMet (vx_ofW (cc := cc) (maxL := nL) (ret := ret) hy rfl ?_)
  intro p e s m args below meth c s₁ B hml hx hv
  exact am_bodyX hy hlen h hl B hml (List.eq_nil_iff_forall_not_mem.mpr hx) hv
theorem am_ofT {E : String} {as : List Value} (hy : plainName y.cls = true) (hlen : (as.map fun v => v.category).sum ≤ nL) (h : SW y cc nL ret [] lv none 0 (am_pad nL (am_lo as)) [] N aw k n (.inr E) N' aw') : am_AT (.code y cc nL ret) y lv as N aw E N' aw' k n := by
  intro l hl D al vs ws sz
  refine vx_ofW (cc := cc) (maxL := nL) (ret := ret) hy rfl ?_
  intro p e s m args below meth c s₁ B hml hx hv
  exact am_bodyX hy hlen h hl B hml (List.eq_nil_iff_forall_not_mem.mpr hx) hv
theorem am_ofW {v : Option Value} {as : List Value} (hy : plainName y.cls = true) (hlen : (as.map fun v => v.category).sum ≤ nL) (h : SW y cc nL ret xt lv none 0 (am_pad nL (am_lo as)) [] N aw k n (.inl v) N' aw') : am_AM (.codeWith y cc nL ret xt) y lv as N aw v N' aw' k n := by
  intro l hl D al vs ws sz
  refine am_toMet (vx_ofWH (cc := cc) (maxL := nL) (ret := ret) (hh := xt) hy rfl ?_)
  intro p e s m args below meth c s₁ B hml hv
  exact am_bodyX hy hlen h hl B hml (vx_table (x := y) B (atoms_spec (ws := Cond.codeWith y cc nL ret xt :: am_W) B.pre _ List.mem_cons_self)) hv
/-- what a world's caller may write, when it hands its whole world on -/
theorem am_free {A : Nat → Prop} {ws : va_W} {H0 H : Heap} {locs : List Loc} (hD : va_D A ws) (hS : va_S A H0 H locs) (hA : ∀ q, H0.size ≤ q → A q) : ∀ q, va_A ws H.size q → A q := by
  intro q h
  rcases h with ⟨j, e, h⟩ | h
  · exact hD.2 j _ h
  · exact hA q (Nat.le_trans hS.1 h)
section AMG
variable {p : Program} {l : Launch} {e : Env} {R : Room} {s : State} {m : MethodId} {args : Array Value} {below : List Frame} {meth : Method} {c : Code} {H : Heap} {locs : List Loc} {cells slots : Nat} {Q : State → Prop} {D : va_G} {al : am_A} {A : Nat → Prop} {ws : va_W} {ls : Array Slot} {st0 rest : List Value} {a : Array Value} {kc nc N1 : Nat} {aw1 : Nat → am_E}
theorem am_goR {v : Option Value} (hr : va_Run p l e R s m args below meth c H locs cells slots kc nc (F0 m pc ls st0) rest (am_Q D al (va_A ws H.size) (.inl v) N1 aw1 a) (va_A ws H.size)) (hK : va_K D vwCl [] s) (hD : va_D A ws) (hS : va_S A s.heap H locs) (hA : ∀ q, s.heap.size ≤ q → A q)
    (kk : ∀ (v' : Option Value) (al1 : am_A) (ws1 : va_W) (H1 : Heap) (locs1 : List Loc), am_ov al1 v v' → am_le al al1 → va_P D vwCl ws1 H1 → va_D A ws1 → va_S A s.heap H1 locs1 → am_w s al1 N1 aw1 ws1 → W p l e R s m args below meth c H1 locs1 (cells + kc) (slots + nc) Q (F0 m (pc + 3) ls (v'.toList ++ rest))) :
    W p l e R s m args below meth c H locs cells slots Q (F0 m pc ls st0) := by
  intro T hT X
  obtain ⟨v1, st₀, t, T', L, h0, X', hL, e1, e2, ⟨⟨v2, v', al1, ws1, ho, hv, hov, hle1, hP1, hK1, hD1, hw1⟩, hF⟩, st⟩ := hr T hT X
  cases ho
  cases hv
  have hFr := am_free hD hS hA
  obtain ⟨k1, k2, k3⟩ := vx_keep h0 e1 hS (fun q _ h => hFr q h) (fun q h => hFr q h) hL hF
  have hal : s.vm.Alike t.vm := by rw [← e2]; exact X'.warmed.alike
  obtain ⟨t2, a1, b1⟩ := kk v1 al1 ws1 T'.heap (locs ++ L) hov hle1 (by rw [e1]; exact hP1) (hD1.weaken (fun _ q _ h => hFr q.1 h)) k3 (am_w.moved hal.symm hw1) T' rfl X'
  exact ⟨t2, st t2 a1, b1⟩
theorem am_goT {E : String} (hr : vx_Run p l e R s m args below meth c H locs cells slots kc nc (F0 m pc ls st0) rest (am_Q D al (va_A ws H.size) (.inr E) N1 aw1 a) (am_X D al (va_A ws H.size) (.inr E) N1 aw1) (va_A ws H.size)) (hK : va_K D vwCl [] s) (hD : va_D A ws) (hS : va_S A s.heap H locs) (hA : ∀ q, s.heap.size ≤ q → A q)
    (kk : ∀ (q9 : Addr) (ce : Cell) (al1 : am_A) (ws1 : va_W) (H1 : Heap) (locs1 : List Loc), am_le al al1 → va_P D vwCl ws1 H1 → va_D A ws1 → va_S A s.heap H1 locs1 → am_w s al1 N1 aw1 ws1 → H1[q9]? = some ce → ce.vm = .none → s.vm.findClass E = some ce.cls → vx_W p l e R s m args below meth c H1 locs1 (cells + kc) (slots + nc) Q (F0 m pc ls rest) q9) :
    W p l e R s m args below meth c H locs cells slots Q (F0 m pc ls st0) := by
  intro T hT X
  rcases hr T hT X with ⟨v1, st₀, t, T', L, h0, X', hL, e1, e2, ⟨⟨v2, v', al1, ws1, ho, -⟩, -⟩, -⟩ | ⟨q, st₀, t, T', L, E2, ce, h0, X', hL, e1, e2, ⟨⟨ho, al1, ws1, hle1, hP1, hK1, hD1, hw1⟩, hF⟩, hce, hcv, hcl, st⟩
  · cases ho
  · cases ho
    have hFr := am_free hD hS hA
    obtain ⟨k1, k2, k3⟩ := vx_keep h0 e1 hS (fun q _ h => hFr q h) (fun q h => hFr q h) hL hF
    have hal : s.vm.Alike t.vm := by rw [← e2]; exact X'.warmed.alike
    obtain ⟨t2, a1, b1⟩ := kk q ce al1 ws1 T'.heap (locs ++ L) hle1 (by rw [e1]; exact hP1) (hD1.weaken (fun _ q _ h => hFr q.1 h)) k3 (am_w.moved hal.symm hw1) (by rw [e1]; exact hce) hcv hcl T' rfl X'
    exact ⟨t2, st.trans a1, b1⟩
end AMG
/-- a call's words -/
def am_L0 (w0 : Cond) (y2 : MethodName) (na : Nat) : Prop := w0 ∈ am_W ∧ Cond.initialized y2.cls ∈ am_W ∧ y2.cls ≠ "java/lang/invoke/MethodHandle" ∧ y2.cls ≠ "java/lang/invoke/VarHandle" ∧ (parseMethodDescriptor y2.desc).map (fun d => d.parameters.length) = some na
def am_LV (own : String) (idx ci : Nat) (w0 : Cond) (y2 : MethodName) (na : Nat) : Prop := am_L0 w0 y2 na ∧ Cond.methodLink own idx y2 ∈ am_W ∧ Cond.instanceMethod y2 ∈ am_W ∧ Cond.selects y2.cls y2 y2 ∈ am_W ∧ ∃ (T : u_T) (NF : Nat), vwCl[ci]? = some (y2.cls, T, NF)
def am_LS (own : String) (idx : Nat) (w0 : Cond) (y2 : MethodName) (na : Nat) : Prop := am_L0 w0 y2 na ∧ Cond.methodLink own idx y2 ∈ am_W ∧ Cond.static y2 ∈ am_W
theorem am_good2 {w0 : Cond} (h0 : w0 ∈ am_W) {pre : List Cond} (h : ∀ w ∈ pre, w ∈ am_W) : GoodIn am_W (pre ++ (w0 :: am_W)) := by
  intro w hw
  have hm : w ∈ am_W := by
    rcases List.mem_append.mp hw with h9 | h9
    · exact h w h9
    · rcases List.mem_cons.mp h9 with rfl | h9
      · exact h0
      · exact h9
  exact ⟨hm, am_good hm⟩
theorem am_LV.good {own : String} {idx ci : Nat} {w0 : Cond} {y2 : MethodName} {na : Nat} (G : am_LV own idx ci w0 y2 na) : GoodIn am_W (wsV own idx y2.cls y2 (w0 :: am_W)) := by
  refine am_good2 G.1.1 (fun w hw => ?_)
  simp only [List.mem_cons, List.not_mem_nil, or_false] at hw
  rcases hw with rfl | rfl | rfl | rfl
  · exact G.2.1
  · exact G.2.2.1
  · exact G.2.2.2.1
  · exact G.1.2.1
theorem am_LS.good {own : String} {idx : Nat} {w0 : Cond} {y2 : MethodName} {na : Nat} (G : am_LS own idx w0 y2 na) : GoodIn am_W (va_wsS own idx y2 (w0 :: am_W)) := by
  refine am_good2 G.1.1 (fun w hw => ?_)
  simp only [List.mem_cons, List.not_mem_nil, or_false] at hw
  rcases hw with rfl | rfl | rfl
  · exact G.2.1
  · exact G.2.2
  · exact G.1.2.1
theorem am_fix {p : Program} {l : Launch} {R : Room} {s : State} {m : MethodId} {args : Array Value} {meth : Method} {c : Code} {D : va_G} {A : Nat → Prop} {al0 : am_A} (F : am_Fix y cc nL ret xt lv sc p l R s m args meth c D A al0) : CallFix p m c cc nL s args am_W y.cls := ⟨F.1, F.2.1, F.2.2.2.1, F.2.2.2.2.1, F.2.2.2.2.2.1⟩
/-- the callee's start -/
theorem am_pre {p : Program} {l : Launch} {R : Room} {s : State} {m : MethodId} {args : Array Value} {meth : Method} {c : Code} {D : va_G} {A : Nat → Prop} {al0 al : am_A} {ws : va_W} {H : Heap} {locs : List Loc} (F : am_Fix y cc nL ret xt lv sc p l R s m args meth c D A al0) (hle : am_le al0 al) (hP : va_P D vwCl ws H) (hD : va_D A ws) (hS : va_S A s.heap H locs) (hw : am_w s al N aw ws) {as vs : List Value} (hvs : am_vs al as vs) :
    ∀ U : State, U.heap = H → s.WarmedH U.vm → va_Pc vs (am_Pre D al as vs N aw ws H.size) vs.toArray U := by
  intro U hU hW
  obtain ⟨hx, hb, hr, hml, hown, hts, hlocks, hin, hfl, hA, hK, hE, hSc, hlv, hloc, hxt⟩ := id F
  refine ⟨rfl, by rw [hU], by rw [hU]; exact hP, am_K9 hW.alike hK, hD.weaken (fun _ _ _ _ => trivial), hvs, am_w.moved hW.alike hw, ?_⟩
  rw [hU]
  exact (((hE.mono hle).kept hS.2.1).narrow (am_free hD hS hA)).warm hW

theorem sw_callVv {idx q ci na nL2 lv2 kc nc k2 n2 N1 : Nat} {y2 : MethodName} {cc2 : ByteArray} {ret2 : Option FieldType} {As st0 : List Value} {aw1 : Nat → am_E} {fs : List Value} (G : am_LV y.cls idx ci (Cond.code y2 cc2 nL2 ret2) y2 na) (hAC : am_AM (Cond.code y2 cc2 nL2 ret2) y2 lv2 (.ref q :: As) N aw none N1 aw1 kc nc) (hs : st0 = As.reverse ++ .ref q :: st) (hlen : As.length = na) (hlv2 : lv2 < lv) (hnL2 : nL2 ≤ 11) (hq : q < N) (he : aw q = am_O ci fs) (hst9 : (st.map fun v => v.category).sum ≤ 8) (hk9 : kc + k2 ≤ k) (hn9 : nc + n2 ≤ n) (d : decode cc pc = .ok (.invokevirtual idx, 3))
    (k9 : SW y cc nL ret xt lv sc (pc + 3) (lo) (st) (N1) (aw1) (k2) (n2) o N' aw') : SW y cc nL ret xt lv sc (pc) (lo) (st0) (N) (aw) (k) (n) o N' aw' := by
  intro p l e R s m args below meth c H locs cells slots kf nf D A al0 al ws ls st' F hk hn hkR hnR hle hP hD hS hw hl hst
  obtain ⟨hx, hb, hr, hml, hown, hts, hlocks, hin, hfl, hA, hK, hE, hSc, hlv, hloc, hxt⟩ := id F
  subst hs
  obtain ⟨As2, r2, rfl, hAs, hst1⟩ := am_vs.app hst
  obtain ⟨w0, r0, rfl, ⟨a, g1, rfl⟩, hst2⟩ := hst1
  have hAs9 := hAs.rev
  rw [List.reverse_reverse] at hAs9
  obtain ⟨As1, hAs1⟩ : ∃ z, z = As2.reverse := ⟨_, rfl⟩
  have hAs2 : As2 = As1.reverse := by rw [hAs1, List.reverse_reverse]
  rw [← hAs1] at hAs9
  subst hAs2
  have hRm : (am_rm lv2 kc nc).frames + 1 ≤ R.frames ∧ 8 + (nL2 + 11) + (am_rm lv2 kc nc).locals ≤ R.locals := ⟨by show lv2 + 1 ≤ _; omega, by show _ + (30 * lv2 + 62) ≤ _; omega⟩
  have hPr := am_pre F hle hP hD hS hw (as := (.ref q :: As)) (vs := (.ref a :: As1)) ⟨_, _, rfl, ⟨a, g1, rfl⟩, hAs9⟩
  obtain ⟨z, h1, h2⟩ := am_cell hw hq g1
  rw [he] at h2
  obtain ⟨fs1, rfl, h3⟩ := h2
  obtain ⟨T9, NF9, hc8⟩ := G.2.2.2.2
  refine am_goR (va_runV (As := As1) (rest := r0) (am_fix F) (hAC l hfl D al (.ref a :: As1) ws H.size) (cwV na hts G.good rfl rfl rfl ⟨rfl, G.1.2.2.1, G.1.2.2.2.1, G.1.2.2.2.2⟩ hRm) ⟨am_Pre.blind, va_recv hK hP hc8 h1, hPr⟩ rfl (by rw [hAs9.len]; exact hlen) hl.choose_spec.1.1 rfl (lv_room (by rw [hst2.cats]; exact hst9)) d ⟨by omega, by omega⟩) hK hD hS hA ?_
  intro v9 al1 ws1 H1 locs1 hov hle1 hP1 hD1 hS1 hw1
  cases hov
  exact k9 p l e R s m args below meth c H1 locs1 (cells + kc) (slots + nc) kf nf D A al0 al1 ws1 ls _ F (by omega) (by omega) hkR hnR (hle.tr hle1) hP1 hD1 hS1 hw1 (hl.mono hle1) (hst2.mono hle1)
theorem sw_callVx {idx q ci na nL2 lv2 kc nc k2 n2 N1 : Nat} {y2 : MethodName} {cc2 : ByteArray} {ret2 : Option FieldType} {As st0 : List Value} {aw1 : Nat → am_E} {fs : List Value} {x : Value} (G : am_LV y.cls idx ci (Cond.code y2 cc2 nL2 ret2) y2 na) (hAC : am_AM (Cond.code y2 cc2 nL2 ret2) y2 lv2 (.ref q :: As) N aw (some x) N1 aw1 kc nc) (hs : st0 = As.reverse ++ .ref q :: st) (hlen : As.length = na) (hlv2 : lv2 < lv) (hnL2 : nL2 ≤ 11) (hq : q < N) (he : aw q = am_O ci fs) (hst9 : (st.map fun v => v.category).sum ≤ 8) (hk9 : kc + k2 ≤ k) (hn9 : nc + n2 ≤ n) (d : decode cc pc = .ok (.invokevirtual idx, 3))
    (k9 : SW y cc nL ret xt lv sc (pc + 3) (lo) (x :: st) (N1) (aw1) (k2) (n2) o N' aw') : SW y cc nL ret xt lv sc (pc) (lo) (st0) (N) (aw) (k) (n) o N' aw' := by
  intro p l e R s m args below meth c H locs cells slots kf nf D A al0 al ws ls st' F hk hn hkR hnR hle hP hD hS hw hl hst
  obtain ⟨hx, hb, hr, hml, hown, hts, hlocks, hin, hfl, hA, hK, hE, hSc, hlv, hloc, hxt⟩ := id F
  subst hs
  obtain ⟨As2, r2, rfl, hAs, hst1⟩ := am_vs.app hst
  obtain ⟨w0, r0, rfl, ⟨a, g1, rfl⟩, hst2⟩ := hst1
  have hAs9 := hAs.rev
  rw [List.reverse_reverse] at hAs9
  obtain ⟨As1, hAs1⟩ : ∃ z, z = As2.reverse := ⟨_, rfl⟩
  have hAs2 : As2 = As1.reverse := by rw [hAs1, List.reverse_reverse]
  rw [← hAs1] at hAs9
  subst hAs2
  have hRm : (am_rm lv2 kc nc).frames + 1 ≤ R.frames ∧ 8 + (nL2 + 11) + (am_rm lv2 kc nc).locals ≤ R.locals := ⟨by show lv2 + 1 ≤ _; omega, by show _ + (30 * lv2 + 62) ≤ _; omega⟩
  have hPr := am_pre F hle hP hD hS hw (as := (.ref q :: As)) (vs := (.ref a :: As1)) ⟨_, _, rfl, ⟨a, g1, rfl⟩, hAs9⟩
  obtain ⟨z, h1, h2⟩ := am_cell hw hq g1
  rw [he] at h2
  obtain ⟨fs1, rfl, h3⟩ := h2
  obtain ⟨T9, NF9, hc8⟩ := G.2.2.2.2
  refine am_goR (va_runV (As := As1) (rest := r0) (am_fix F) (hAC l hfl D al (.ref a :: As1) ws H.size) (cwV na hts G.good rfl rfl rfl ⟨rfl, G.1.2.2.1, G.1.2.2.2.1, G.1.2.2.2.2⟩ hRm) ⟨am_Pre.blind, va_recv hK hP hc8 h1, hPr⟩ rfl (by rw [hAs9.len]; exact hlen) hl.choose_spec.1.1 rfl (lv_room (by rw [hst2.cats]; exact hst9)) d ⟨by omega, by omega⟩) hK hD hS hA ?_
  intro v9 al1 ws1 H1 locs1 hov hle1 hP1 hD1 hS1 hw1
  obtain ⟨x9, rfl, hx9⟩ := hov
  exact k9 p l e R s m args below meth c H1 locs1 (cells + kc) (slots + nc) kf nf D A al0 al1 ws1 ls _ F (by omega) (by omega) hkR hnR (hle.tr hle1) hP1 hD1 hS1 hw1 (hl.mono hle1) ⟨_, _, rfl, hx9, hst2.mono hle1⟩
theorem sw_callVT {idx q ci na nL2 lv2 kc nc k2 n2 N1 : Nat} {y2 : MethodName} {cc2 : ByteArray} {ret2 : Option FieldType} {As st0 : List Value} {aw1 : Nat → am_E} {fs : List Value} {E : String} (G : am_LV y.cls idx ci (Cond.code y2 cc2 nL2 ret2) y2 na) (hAC : am_AT (Cond.code y2 cc2 nL2 ret2) y2 lv2 (.ref q :: As) N aw E N1 aw1 kc nc) (hs : st0 = As.reverse ++ .ref q :: st) (hlen : As.length = na) (hlv2 : lv2 < lv) (hnL2 : nL2 ≤ 11) (hq : q < N) (he : aw q = am_O ci fs) (hst9 : (st.map fun v => v.category).sum ≤ 8) (hk9 : kc + k2 ≤ k) (hn9 : nc + n2 ≤ n) (d : decode cc pc = .ok (.invokevirtual idx, 3)) (hxt9 : xt = [])
     : SW y cc nL ret xt lv sc (pc) (lo) (st0) (N) (aw) (k) (n) (.inr E) N1 aw1 := by
  intro p l e R s m args below meth c H locs cells slots kf nf D A al0 al ws ls st' F hk hn hkR hnR hle hP hD hS hw hl hst
  obtain ⟨hx, hb, hr, hml, hown, hts, hlocks, hin, hfl, hA, hK, hE, hSc, hlv, hloc, hxt⟩ := id F
  subst hs
  obtain ⟨As2, r2, rfl, hAs, hst1⟩ := am_vs.app hst
  obtain ⟨w0, r0, rfl, ⟨a, g1, rfl⟩, hst2⟩ := hst1
  have hAs9 := hAs.rev
  rw [List.reverse_reverse] at hAs9
  obtain ⟨As1, hAs1⟩ : ∃ z, z = As2.reverse := ⟨_, rfl⟩
  have hAs2 : As2 = As1.reverse := by rw [hAs1, List.reverse_reverse]
  rw [← hAs1] at hAs9
  subst hAs2
  have hRm : (am_rm lv2 kc nc).frames + 1 ≤ R.frames ∧ 8 + (nL2 + 11) + (am_rm lv2 kc nc).locals ≤ R.locals := ⟨by show lv2 + 1 ≤ _; omega, by show _ + (30 * lv2 + 62) ≤ _; omega⟩
  have hPr := am_pre F hle hP hD hS hw (as := (.ref q :: As)) (vs := (.ref a :: As1)) ⟨_, _, rfl, ⟨a, g1, rfl⟩, hAs9⟩
  obtain ⟨z, h1, h2⟩ := am_cell hw hq g1
  rw [he] at h2
  obtain ⟨fs1, rfl, h3⟩ := h2
  obtain ⟨T9, NF9, hc8⟩ := G.2.2.2.2
  refine am_goT (vx_runV (As := As1) (rest := r0) (am_fix F) (hAC l hfl D al (.ref a :: As1) ws H.size) (cwV na hts G.good rfl rfl rfl ⟨rfl, G.1.2.2.1, G.1.2.2.2.1, G.1.2.2.2.2⟩ hRm) ⟨am_Pre.blind, va_recv hK hP hc8 h1, hPr⟩ rfl (by rw [hAs9.len]; exact hlen) hl.choose_spec.1.1 rfl (lv_room (by rw [hst2.cats]; exact hst9)) d ⟨by omega, by omega⟩) hK hD hS hA ?_
  intro q9 ce al1 ws1 H1 locs1 hle1 hP1 hD1 hS1 hw1 hce hcv hcl
  subst hxt9
  exact vx_out (by rw [hxt]; exact fun x h => nomatch h) hlocks hce hcv hcl (fun t ht hal => ⟨⟨rfl, al1, ws1, hle.tr hle1, by rw [ht]; exact hP1, am_K9 hal hK, hD1, am_w.moved hal hw1⟩, hS1.F ht⟩) hS1.2.2 (by omega) (by omega)
theorem sw_callVC {idx q ci na nL2 lv2 kc nc k2 n2 N1 : Nat} {y2 : MethodName} {cc2 : ByteArray} {ret2 : Option FieldType} {As st0 : List Value} {aw1 : Nat → am_E} {fs : List Value} {E : String} (G : am_LV y.cls idx ci (Cond.code y2 cc2 nL2 ret2) y2 na) (hAC : am_AT (Cond.code y2 cc2 nL2 ret2) y2 lv2 (.ref q :: As) N aw E N1 aw1 kc nc) (hs : st0 = As.reverse ++ .ref q :: st) (hlen : As.length = na) (hlv2 : lv2 < lv) (hnL2 : nL2 ≤ 11) (hq : q < N) (he : aw q = am_O ci fs) (hst9 : (st.map fun v => v.category).sum ≤ 8) (hk9 : kc + k2 ≤ k) (hn9 : nc + n2 ≤ n) (d : decode cc pc = .ok (.invokevirtual idx, 3)) {i9 pc9 h8 cty : Nat} {nm9 : String} {pre9 suf9 : List (Nat × Nat × Nat × Nat)} {x9 : Nat × Nat × Nat × Nat} (hxt9 : xt = pre9 ++ x9 :: suf9) (hpass : ∀ z ∈ tableOf pre9, covers z pc = false ∨ (z.catchType ≠ 0 ∧ ∃ nm : String, Cond.classLink y.cls z.catchType nm ∈ am_W ∧ ∀ (al : am_A) (A : Nat → Prop) (U : State) (H : Heap), am_Env al A U H → va_Nc E nm U)) (hcov : covers (⟨x9.1, x9.2.1, x9.2.2.1, x9.2.2.2⟩ : ExceptionTableEntry) pc = true) (hc0 : x9.2.2.2 ≠ 0) (hcl9 : Cond.classLink y.cls x9.2.2.2 E ∈ am_W) (hEx : E ∈ am_Xs) (hh8 : x9.2.2.1 = h8) (hi2 : i9 < nL) (hc9 : am_c1 lo i9 = true) (das : decode cc h8 = .ok (.astore i9, 2) ∧ pc9 = h8 + 2 ∨ ∃ f9 : Fin 4, decode cc h8 = .ok (.astore_n f9, 1) ∧ (f9 : Nat) = i9 ∧ pc9 = h8 + 1)
    (k9 : SW y cc nL ret xt lv sc (pc9) (am_st lo i9 none) ([]) (N1) (aw1) (k2) (n2) o N' aw') : SW y cc nL ret xt lv sc (pc) (lo) (st0) (N) (aw) (k) (n) o N' aw' := by
  intro p l e R s m args below meth c H locs cells slots kf nf D A al0 al ws ls st' F hk hn hkR hnR hle hP hD hS hw hl hst
  obtain ⟨hx, hb, hr, hml, hown, hts, hlocks, hin, hfl, hA, hK, hE, hSc, hlv, hloc, hxt⟩ := id F
  subst hs
  obtain ⟨As2, r2, rfl, hAs, hst1⟩ := am_vs.app hst
  obtain ⟨w0, r0, rfl, ⟨a, g1, rfl⟩, hst2⟩ := hst1
  have hAs9 := hAs.rev
  rw [List.reverse_reverse] at hAs9
  obtain ⟨As1, hAs1⟩ : ∃ z, z = As2.reverse := ⟨_, rfl⟩
  have hAs2 : As2 = As1.reverse := by rw [hAs1, List.reverse_reverse]
  rw [← hAs1] at hAs9
  subst hAs2
  have hRm : (am_rm lv2 kc nc).frames + 1 ≤ R.frames ∧ 8 + (nL2 + 11) + (am_rm lv2 kc nc).locals ≤ R.locals := ⟨by show lv2 + 1 ≤ _; omega, by show _ + (30 * lv2 + 62) ≤ _; omega⟩
  have hPr := am_pre F hle hP hD hS hw (as := (.ref q :: As)) (vs := (.ref a :: As1)) ⟨_, _, rfl, ⟨a, g1, rfl⟩, hAs9⟩
  obtain ⟨z, h1, h2⟩ := am_cell hw hq g1
  rw [he] at h2
  obtain ⟨fs1, rfl, h3⟩ := h2
  obtain ⟨T9, NF9, hc8⟩ := G.2.2.2.2
  refine am_goT (vx_runV (As := As1) (rest := r0) (am_fix F) (hAC l hfl D al (.ref a :: As1) ws H.size) (cwV na hts G.good rfl rfl rfl ⟨rfl, G.1.2.2.1, G.1.2.2.2.1, G.1.2.2.2.2⟩ hRm) ⟨am_Pre.blind, va_recv hK hP hc8 h1, hPr⟩ rfl (by rw [hAs9.len]; exact hlen) hl.choose_spec.1.1 rfl (lv_room (by rw [hst2.cats]; exact hst9)) d ⟨by omega, by omega⟩) hK hD hS hA ?_
  intro q9 ce al1 ws1 H1 locs1 hle1 hP1 hD1 hS1 hw1 hce hcv hcl
  have hcast : (Cond.castable E E).before args s = true := va_Nw.use rfl (hE.2.1.1 E hEx)
  refine vx_catch hown (tableOf pre9) ⟨x9.1, x9.2.1, x9.2.2.1, x9.2.2.2⟩ (tableOf suf9) (by rw [hxt, hxt9]; simp [tableOf]) (fun z hz => ?_) hcov hc0 (hts _ hcl9) hcast hce hcv hcl ?_
  · rcases hpass z hz with h | ⟨h, nm, h2, h3⟩
    · exact Or.inl h
    · exact Or.inr ⟨h, nm, hts _ h2, h3 _ _ _ _ hE⟩
  · have hl2 := hl.mono hle1
    obtain ⟨lv9, q1, q2⟩ := hl2
    have hst2 : ∀ ls2 : Array Slot, lv_has ls2 nL ((i9, Value.ref q9) :: lv9.filter (fun q => !(q.1 == i9) && !(q.1 + 1 == i9 && q.2.category == 2))) → am_L al1 ls2 nL (am_st lo i9 none) := by
      intro ls2 hb9
      refine ⟨_, hb9, fun j w hj => ?_⟩
      by_cases e9 : j = i9
      · subst e9
        cases am_nth_st_eq hj
      · rw [am_nth_st_ne e9] at hj
        obtain ⟨w', g8, g9⟩ := q2 j w hj
        refine ⟨w', g8, List.mem_cons_of_mem _ (List.mem_filter.mpr ⟨g9, ?_⟩)⟩
        simp only [Bool.and_eq_true, Bool.not_eq_true', beq_eq_false_iff_ne, ne_eq, Bool.and_eq_false_iff]
        refine ⟨e9, ?_⟩
        by_cases e2 : j + 1 = i9
        · right
          intro hcat
          subst e2
          have h9 : am_two (some w) = true := am_two_cat (by rw [← g8.cat]; exact hcat)
          unfold am_c1 at hc9
          simp only at hc9
          rw [hj, h9] at hc9
          cases hc9
        · exact Or.inl e2
    show W p l e R s m args below meth c H1 locs1 _ _ _ (F0 m x9.2.2.1 ls [.ref q9])
    rw [hh8]
    rcases das with ⟨d9, rfl⟩ | ⟨f9, d9, e9, rfl⟩
    · refine lv_astore hx hb d9 q1 hi2 rfl (fun ls2 hb9 => ?_)
      exact k9 p l e R s m args below meth c H1 locs1 (cells + kc) (slots + nc) kf nf D A al0 al1 ws1 ls2 _ F (by omega) (by omega) hkR hnR (hle.tr hle1) hP1 hD1 hS1 hw1 (hst2 ls2 hb9) rfl
    · refine lv_astore_n hx hb d9 e9 q1 hi2 rfl (fun ls2 hb9 => ?_)
      exact k9 p l e R s m args below meth c H1 locs1 (cells + kc) (slots + nc) kf nf D A al0 al1 ws1 ls2 _ F (by omega) (by omega) hkR hnR (hle.tr hle1) hP1 hD1 hS1 hw1 (hst2 ls2 hb9) rfl
theorem sw_callSv {idx na nL2 lv2 kc nc k2 n2 N1 : Nat} {y2 : MethodName} {cc2 : ByteArray} {ret2 : Option FieldType} {As st0 : List Value} {aw1 : Nat → am_E} (G : am_LS y.cls idx (Cond.code y2 cc2 nL2 ret2) y2 na) (hAC : am_AM (Cond.code y2 cc2 nL2 ret2) y2 lv2 As N aw none N1 aw1 kc nc) (hs : st0 = As.reverse ++ st) (hlen : As.length = na) (hlv2 : lv2 < lv) (hnL2 : nL2 ≤ 11) (hst9 : (st.map fun v => v.category).sum ≤ 8) (hk9 : kc + k2 ≤ k) (hn9 : nc + n2 ≤ n) (d : decode cc pc = .ok (.invokestatic idx, 3))
    (k9 : SW y cc nL ret xt lv sc (pc + 3) (lo) (st) (N1) (aw1) (k2) (n2) o N' aw') : SW y cc nL ret xt lv sc (pc) (lo) (st0) (N) (aw) (k) (n) o N' aw' := by
  intro p l e R s m args below meth c H locs cells slots kf nf D A al0 al ws ls st' F hk hn hkR hnR hle hP hD hS hw hl hst
  obtain ⟨hx, hb, hr, hml, hown, hts, hlocks, hin, hfl, hA, hK, hE, hSc, hlv, hloc, hxt⟩ := id F
  subst hs
  obtain ⟨As2, r2, rfl, hAs, hst1⟩ := am_vs.app hst
  have hAs9 := hAs.rev
  rw [List.reverse_reverse] at hAs9
  obtain ⟨As1, hAs1⟩ : ∃ z, z = As2.reverse := ⟨_, rfl⟩
  have hAs2 : As2 = As1.reverse := by rw [hAs1, List.reverse_reverse]
  rw [← hAs1] at hAs9
  subst hAs2
  have hRm : (am_rm lv2 kc nc).frames + 1 ≤ R.frames ∧ 8 + (nL2 + 11) + (am_rm lv2 kc nc).locals ≤ R.locals := ⟨by show lv2 + 1 ≤ _; omega, by show _ + (30 * lv2 + 62) ≤ _; omega⟩
  have hPr := am_pre F hle hP hD hS hw (as := As) (vs := As1) hAs9
  refine am_goR (va_runS (As := As1) (rest := r2) (am_fix F) (hAC l hfl D al As1 ws H.size) (va_cwS na hts G.good rfl rfl rfl ⟨G.1.2.2.1, G.1.2.2.2.1, G.1.2.2.2.2⟩ hRm) ⟨am_Pre.blind, hPr⟩ rfl (by rw [hAs9.len]; exact hlen) hl.choose_spec.1.1 rfl (lv_room (by rw [hst1.cats]; exact hst9)) d ⟨by omega, by omega⟩) hK hD hS hA ?_
  intro v9 al1 ws1 H1 locs1 hov hle1 hP1 hD1 hS1 hw1
  cases hov
  exact k9 p l e R s m args below meth c H1 locs1 (cells + kc) (slots + nc) kf nf D A al0 al1 ws1 ls _ F (by omega) (by omega) hkR hnR (hle.tr hle1) hP1 hD1 hS1 hw1 (hl.mono hle1) (hst1.mono hle1)
theorem sw_callSx {idx na nL2 lv2 kc nc k2 n2 N1 : Nat} {y2 : MethodName} {cc2 : ByteArray} {ret2 : Option FieldType} {As st0 : List Value} {aw1 : Nat → am_E} {x : Value} (G : am_LS y.cls idx (Cond.code y2 cc2 nL2 ret2) y2 na) (hAC : am_AM (Cond.code y2 cc2 nL2 ret2) y2 lv2 As N aw (some x) N1 aw1 kc nc) (hs : st0 = As.reverse ++ st) (hlen : As.length = na) (hlv2 : lv2 < lv) (hnL2 : nL2 ≤ 11) (hst9 : (st.map fun v => v.category).sum ≤ 8) (hk9 : kc + k2 ≤ k) (hn9 : nc + n2 ≤ n) (d : decode cc pc = .ok (.invokestatic idx, 3))
    (k9 : SW y cc nL ret xt lv sc (pc + 3) (lo) (x :: st) (N1) (aw1) (k2) (n2) o N' aw') : SW y cc nL ret xt lv sc (pc) (lo) (st0) (N) (aw) (k) (n) o N' aw' := by
  intro p l e R s m args below meth c H locs cells slots kf nf D A al0 al ws ls st' F hk hn hkR hnR hle hP hD hS hw hl hst
  obtain ⟨hx, hb, hr, hml, hown, hts, hlocks, hin, hfl, hA, hK, hE, hSc, hlv, hloc, hxt⟩ := id F
  subst hs
  obtain ⟨As2, r2, rfl, hAs, hst1⟩ := am_vs.app hst
  have hAs9 := hAs.rev
  rw [List.reverse_reverse] at hAs9
  obtain ⟨As1, hAs1⟩ : ∃ z, z = As2.reverse := ⟨_, rfl⟩
  have hAs2 : As2 = As1.reverse := by rw [hAs1, List.reverse_reverse]
  rw [← hAs1] at hAs9
  subst hAs2
  have hRm : (am_rm lv2 kc nc).frames + 1 ≤ R.frames ∧ 8 + (nL2 + 11) + (am_rm lv2 kc nc).locals ≤ R.locals := ⟨by show lv2 + 1 ≤ _; omega, by show _ + (30 * lv2 + 62) ≤ _; omega⟩
  have hPr := am_pre F hle hP hD hS hw (as := As) (vs := As1) hAs9
  refine am_goR (va_runS (As := As1) (rest := r2) (am_fix F) (hAC l hfl D al As1 ws H.size) (va_cwS na hts G.good rfl rfl rfl ⟨G.1.2.2.1, G.1.2.2.2.1, G.1.2.2.2.2⟩ hRm) ⟨am_Pre.blind, hPr⟩ rfl (by rw [hAs9.len]; exact hlen) hl.choose_spec.1.1 rfl (lv_room (by rw [hst1.cats]; exact hst9)) d ⟨by omega, by omega⟩) hK hD hS hA ?_
  intro v9 al1 ws1 H1 locs1 hov hle1 hP1 hD1 hS1 hw1
  obtain ⟨x9, rfl, hx9⟩ := hov
  exact k9 p l e R s m args below meth c H1 locs1 (cells + kc) (slots + nc) kf nf D A al0 al1 ws1 ls _ F (by omega) (by omega) hkR hnR (hle.tr hle1) hP1 hD1 hS1 hw1 (hl.mono hle1) ⟨_, _, rfl, hx9, hst1.mono hle1⟩
theorem sw_callST {idx na nL2 lv2 kc nc k2 n2 N1 : Nat} {y2 : MethodName} {cc2 : ByteArray} {ret2 : Option FieldType} {As st0 : List Value} {aw1 : Nat → am_E} {E : String} (G : am_LS y.cls idx (Cond.code y2 cc2 nL2 ret2) y2 na) (hAC : am_AT (Cond.code y2 cc2 nL2 ret2) y2 lv2 As N aw E N1 aw1 kc nc) (hs : st0 = As.reverse ++ st) (hlen : As.length = na) (hlv2 : lv2 < lv) (hnL2 : nL2 ≤ 11) (hst9 : (st.map fun v => v.category).sum ≤ 8) (hk9 : kc + k2 ≤ k) (hn9 : nc + n2 ≤ n) (d : decode cc pc = .ok (.invokestatic idx, 3)) (hxt9 : xt = [])
     : SW y cc nL ret xt lv sc (pc) (lo) (st0) (N) (aw) (k) (n) (.inr E) N1 aw1 := by
  intro p l e R s m args below meth c H locs cells slots kf nf D A al0 al ws ls st' F hk hn hkR hnR hle hP hD hS hw hl hst
  obtain ⟨hx, hb, hr, hml, hown, hts, hlocks, hin, hfl, hA, hK, hE, hSc, hlv, hloc, hxt⟩ := id F
  subst hs
  obtain ⟨As2, r2, rfl, hAs, hst1⟩ := am_vs.app hst
  have hAs9 := hAs.rev
  rw [List.reverse_reverse] at hAs9
  obtain ⟨As1, hAs1⟩ : ∃ z, z = As2.reverse := ⟨_, rfl⟩
  have hAs2 : As2 = As1.reverse := by rw [hAs1, List.reverse_reverse]
  rw [← hAs1] at hAs9
  subst hAs2
  have hRm : (am_rm lv2 kc nc).frames + 1 ≤ R.frames ∧ 8 + (nL2 + 11) + (am_rm lv2 kc nc).locals ≤ R.locals := ⟨by show lv2 + 1 ≤ _; omega, by show _ + (30 * lv2 + 62) ≤ _; omega⟩
  have hPr := am_pre F hle hP hD hS hw (as := As) (vs := As1) hAs9
  refine am_goT (vx_runS (As := As1) (rest := r2) (am_fix F) (hAC l hfl D al As1 ws H.size) (va_cwS na hts G.good rfl rfl rfl ⟨G.1.2.2.1, G.1.2.2.2.1, G.1.2.2.2.2⟩ hRm) ⟨am_Pre.blind, hPr⟩ rfl (by rw [hAs9.len]; exact hlen) hl.choose_spec.1.1 rfl (lv_room (by rw [hst1.cats]; exact hst9)) d ⟨by omega, by omega⟩) hK hD hS hA ?_
  intro q9 ce al1 ws1 H1 locs1 hle1 hP1 hD1 hS1 hw1 hce hcv hcl
  subst hxt9
  exact vx_out (by rw [hxt]; exact fun x h => nomatch h) hlocks hce hcv hcl (fun t ht hal => ⟨⟨rfl, al1, ws1, hle.tr hle1, by rw [ht]; exact hP1, am_K9 hal hK, hD1, am_w.moved hal hw1⟩, hS1.F ht⟩) hS1.2.2 (by omega) (by omega)
theorem sw_callWx {idx na nL2 lv2 kc nc k2 n2 N1 : Nat} {y2 : MethodName} {cc2 : ByteArray} {ret2 : Option FieldType} {xt2 : List (Nat × Nat × Nat × Nat)} {As st0 : List Value} {aw1 : Nat → am_E} {x : Value} (G : am_LS y.cls idx (Cond.codeWith y2 cc2 nL2 ret2 xt2) y2 na) (hAC : am_AM (Cond.codeWith y2 cc2 nL2 ret2 xt2) y2 lv2 As N aw (some x) N1 aw1 kc nc) (hs : st0 = As.reverse ++ st) (hlen : As.length = na) (hlv2 : lv2 < lv) (hnL2 : nL2 ≤ 11) (hst9 : (st.map fun v => v.category).sum ≤ 8) (hk9 : kc + k2 ≤ k) (hn9 : nc + n2 ≤ n) (d : decode cc pc = .ok (.invokestatic idx, 3))
    (k9 : SW y cc nL ret xt lv sc (pc + 3) (lo) (x :: st) (N1) (aw1) (k2) (n2) o N' aw') : SW y cc nL ret xt lv sc (pc) (lo) (st0) (N) (aw) (k) (n) o N' aw' := by
  intro p l e R s m args below meth c H locs cells slots kf nf D A al0 al ws ls st' F hk hn hkR hnR hle hP hD hS hw hl hst
  obtain ⟨hx, hb, hr, hml, hown, hts, hlocks, hin, hfl, hA, hK, hE, hSc, hlv, hloc, hxt⟩ := id F
  subst hs
  obtain ⟨As2, r2, rfl, hAs, hst1⟩ := am_vs.app hst
  have hAs9 := hAs.rev
  rw [List.reverse_reverse] at hAs9
  obtain ⟨As1, hAs1⟩ : ∃ z, z = As2.reverse := ⟨_, rfl⟩
  have hAs2 : As2 = As1.reverse := by rw [hAs1, List.reverse_reverse]
  rw [← hAs1] at hAs9
  subst hAs2
  have hRm : (am_rm lv2 kc nc).frames + 1 ≤ R.frames ∧ 8 + (nL2 + 11) + (am_rm lv2 kc nc).locals ≤ R.locals := ⟨by show lv2 + 1 ≤ _; omega, by show _ + (30 * lv2 + 62) ≤ _; omega⟩
  have hPr := am_pre F hle hP hD hS hw (as := As) (vs := As1) hAs9
  refine am_goR (vx_runSW (As := As1) (rest := r2) (am_fix F) (hAC l hfl D al As1 ws H.size) (vx_cwSW na hts G.good rfl rfl rfl ⟨G.1.2.2.1, G.1.2.2.2.1, G.1.2.2.2.2⟩ hRm) ⟨am_Pre.blind, hPr⟩ rfl (by rw [hAs9.len]; exact hlen) hl.choose_spec.1.1 rfl (lv_room (by rw [hst1.cats]; exact hst9)) d ⟨by omega, by omega⟩) hK hD hS hA ?_
  intro v9 al1 ws1 H1 locs1 hov hle1 hP1 hD1 hS1 hw1
  obtain ⟨x9, rfl, hx9⟩ := hov
  exact k9 p l e R s m args below meth c H1 locs1 (cells + kc) (slots + nc) kf nf D A al0 al1 ws1 ls _ F (by omega) (by omega) hkR hnR (hle.tr hle1) hP1 hD1 hS1 hw1 (hl.mono hle1) ⟨_, _, rfl, hx9, hst1.mono hle1⟩
theorem sw_callI {idx q na nL2 lv2 kc nc k2 n2 N1 : Nat} {y2 : MethodName} {cc2 : ByteArray} {ret2 : Option FieldType} {As st0 : List Value} {aw1 : Nat → am_E} (G : am_L0 (Cond.code y2 cc2 nL2 none) y2 na) (G2 : Cond.methodLink y.cls idx y2 ∈ am_W) (G3 : Cond.instanceMethod y2 ∈ am_W) (hy9 : y2.name = "<init>") (hAC : am_AM (Cond.code y2 cc2 nL2 none) y2 lv2 (.ref q :: As) N aw none N1 aw1 kc nc) (hs : st0 = As.reverse ++ .ref q :: st) (hlen : As.length = na) (hlv2 : lv2 < lv) (hnL2 : nL2 ≤ 11) (hst9 : (st.map fun v => v.category).sum ≤ 8) (hk9 : kc + k2 ≤ k) (hn9 : nc + n2 ≤ n) (d : decode cc pc = .ok (.invokespecial idx, 3))
    (k9 : SW y cc nL ret xt lv sc (pc + 3) (lo) (st) (N1) (aw1) (k2) (n2) o N' aw') : SW y cc nL ret xt lv sc (pc) (lo) (st0) (N) (aw) (k) (n) o N' aw' := by
  intro p l e R s m args below meth c H locs cells slots kf nf D A al0 al ws ls st' F hk hn hkR hnR hle hP hD hS hw hl hst
  obtain ⟨hx, hb, hr, hml, hown, hts, hlocks, hin, hfl, hA, hK, hE, hSc, hlv, hloc, hxt⟩ := id F
  subst hs
  obtain ⟨As2, r2, rfl, hAs, hst1⟩ := am_vs.app hst
  obtain ⟨w0, r0, rfl, ⟨a, g1, rfl⟩, hst2⟩ := hst1
  have hAs9 := hAs.rev
  rw [List.reverse_reverse] at hAs9
  obtain ⟨As1, hAs1⟩ : ∃ z, z = As2.reverse := ⟨_, rfl⟩
  have hAs2 : As2 = As1.reverse := by rw [hAs1, List.reverse_reverse]
  rw [← hAs1] at hAs9
  subst hAs2
  have hRm : (am_rm lv2 kc nc).frames + 1 ≤ R.frames ∧ 8 + (nL2 + 11) + (am_rm lv2 kc nc).locals ≤ R.locals := ⟨by show lv2 + 1 ≤ _; omega, by show _ + (30 * lv2 + 62) ≤ _; omega⟩
  have hPr := am_pre F hle hP hD hS hw (as := (.ref q :: As)) (vs := (.ref a :: As1)) ⟨_, _, rfl, ⟨a, g1, rfl⟩, hAs9⟩
  refine am_goR (va_runI (As := As1) (rest := r0) (am_fix F) (hAC l hfl D al (.ref a :: As1) ws H.size) (cwI na hts (am_good2 (pre := []) G.1 (fun _ h => nomatch h)) rfl rfl rfl (hts _ G.2.1) (hts _ G2) (hts _ G3) hy9 ⟨G.2.2.1, G.2.2.2.1, G.2.2.2.2⟩ hRm) ⟨am_Pre.blind, hPr⟩ rfl (by rw [hAs9.len]; exact hlen) hl.choose_spec.1.1 rfl (lv_room (by rw [hst2.cats]; exact hst9)) d ⟨by omega, by omega⟩) hK hD hS hA ?_
  intro v9 al1 ws1 H1 locs1 hov hle1 hP1 hD1 hS1 hw1
  cases hov
  exact k9 p l e R s m args below meth c H1 locs1 (cells + kc) (slots + nc) kf nf D A al0 al1 ws1 ls _ F (by omega) (by omega) hkR hnR (hle.tr hle1) hP1 hD1 hS1 hw1 (hl.mono hle1) (hst2.mono hle1)
theorem sw_callIN {idx q na nL2 lv2 kc nc k2 n2 N1 : Nat} {y2 : MethodName} {cc2 : ByteArray} {ret2 : Option FieldType} {As st0 : List Value} {aw1 : Nat → am_E} (G : am_L0 (Cond.code y2 cc2 nL2 none) y2 na) (G2 : ∀ (al : am_A) (A : Nat → Prop) (U : State) (H : Heap), am_Env al A U H → va_Nw (.methodLinkNest y.cls idx y2 RX6) U) (G3 : Cond.instanceMethod y2 ∈ am_W) (hy9 : y2.name = "<init>") (hAC : am_AM (Cond.code y2 cc2 nL2 none) y2 lv2 (.ref q :: As) N aw none N1 aw1 kc nc) (hs : st0 = As.reverse ++ .ref q :: st) (hlen : As.length = na) (hlv2 : lv2 < lv) (hnL2 : nL2 ≤ 11) (hst9 : (st.map fun v => v.category).sum ≤ 8) (hk9 : kc + k2 ≤ k) (hn9 : nc + n2 ≤ n) (d : decode cc pc = .ok (.invokespecial idx, 3))
    (k9 : SW y cc nL ret xt lv sc (pc + 3) (lo) (st) (N1) (aw1) (k2) (n2) o N' aw') : SW y cc nL ret xt lv sc (pc) (lo) (st0) (N) (aw) (k) (n) o N' aw' := by
  intro p l e R s m args below meth c H locs cells slots kf nf D A al0 al ws ls st' F hk hn hkR hnR hle hP hD hS hw hl hst
  obtain ⟨hx, hb, hr, hml, hown, hts, hlocks, hin, hfl, hA, hK, hE, hSc, hlv, hloc, hxt⟩ := id F
  subst hs
  obtain ⟨As2, r2, rfl, hAs, hst1⟩ := am_vs.app hst
  obtain ⟨w0, r0, rfl, ⟨a, g1, rfl⟩, hst2⟩ := hst1
  have hAs9 := hAs.rev
  rw [List.reverse_reverse] at hAs9
  obtain ⟨As1, hAs1⟩ : ∃ z, z = As2.reverse := ⟨_, rfl⟩
  have hAs2 : As2 = As1.reverse := by rw [hAs1, List.reverse_reverse]
  rw [← hAs1] at hAs9
  subst hAs2
  have hRm : (am_rm lv2 kc nc).frames + 1 ≤ R.frames ∧ 8 + (nL2 + 11) + (am_rm lv2 kc nc).locals ≤ R.locals := ⟨by show lv2 + 1 ≤ _; omega, by show _ + (30 * lv2 + 62) ≤ _; omega⟩
  have hPr := am_pre F hle hP hD hS hw (as := (.ref q :: As)) (vs := (.ref a :: As1)) ⟨_, _, rfl, ⟨a, g1, rfl⟩, hAs9⟩
  refine am_goR (va_runIN (As := As1) (rest := r0) (am_fix F) (hAC l hfl D al (.ref a :: As1) ws H.size) ⟨va_cnB na hts (am_good2 (pre := []) G.1 (fun _ h => nomatch h)) rfl rfl rfl (G2 _ _ _ _ hE) (hts _ G.2.1) ⟨G.2.2.1, G.2.2.2.1, G.2.2.2.2⟩ hRm, hy9, hts _ G3⟩ ⟨am_Pre.blind, hPr⟩ rfl (by rw [hAs9.len]; exact hlen) hl.choose_spec.1.1 rfl (lv_room (by rw [hst2.cats]; exact hst9)) d ⟨by omega, by omega⟩) hK hD hS hA ?_
  intro v9 al1 ws1 H1 locs1 hov hle1 hP1 hD1 hS1 hw1
  cases hov
  exact k9 p l e R s m args below meth c H1 locs1 (cells + kc) (slots + nc) kf nf D A al0 al1 ws1 ls _ F (by omega) (by omega) hkR hnR (hle.tr hle1) hP1 hD1 hS1 hw1 (hl.mono hle1) (hst2.mono hle1)
theorem sw_throw {ik is ic : Nat} {cls text : String} (hy0 : y.cls = RX6) (hcls : Bundle.fit cls = true) (htx : (is, text) ∈ am_Str) (hk8 : Cond.classLink RX6 ik cls ∈ am_W) (hini : Cond.initialized cls ∈ am_W) (hX : cls ∈ am_Xs) (hat : ∀ w ∈ vx_atS RX6 ic cls ["java/lang/RuntimeException", "java/lang/Exception"], w ∈ am_W ∨ w = .castable cls cls ∨ ∃ x ∈ am_Ds, w = .declares x)
    (hk9 : 1 ≤ k) (hn9 : 6 ≤ n) (hlv9 : 6 ≤ lv) (hst9 : (st.map fun v => v.category).sum ≤ 8) (hxt9 : xt = [])
    (d0 : decode cc pc = .ok (.new ik, 3)) (d3 : decode cc (pc + 3) = .ok (.dup, 1)) (d4 : decode cc (pc + 4) = .ok (.ldc is, 2)) (d6 : decode cc (pc + 6) = .ok (.invokespecial ic, 3)) (d9 : decode cc (pc + 9) = .ok (.athrow, 1)) :
    SW y cc nL ret xt lv sc pc lo st N aw k n (.inr cls) N aw := by
  intro p l e R s m args below meth c H locs cells slots kf nf D A al0 al ws ls st' F hk hn hkR hnR hle hP hD hS hw hl hst
  obtain ⟨hx, hb, hr, hml, hown, hts, hlocks, hin, hfl, hA, hK, hE, hSc, hlv, hloc, hxt⟩ := id F
  subst hxt9
  rw [hy0] at hown
  obtain ⟨sa, hsa⟩ := hE.2.2.1 _ htx
  have hcast : (Cond.castable cls cls).before args s = true := va_Nw.use rfl (hE.2.1.1 cls hX)
  have hat2 : ∀ w ∈ vx_atS RX6 ic cls ["java/lang/RuntimeException", "java/lang/Exception"], w.before args s = true := fun w h9 => (hat w h9).elim (fun h8 => hts _ h8) (fun h8 => h8.elim (fun h7 => by rw [h7]; exact hcast) (fun ⟨x7, h6, h7⟩ => by rw [h7]; exact va_Nw.use rfl (hE.2.1.2 x7 h6)))
  refine vx_throwS hx hb hfl hown hcls (names := ["java/lang/RuntimeException", "java/lang/Exception"]) (by decide +kernel) (hts _ hk8) (hts _ hini) hsa hat2 (fun w h9 => ?_) hE.1.1 hE.1.2 hS (hl.choose_spec.1.1.trans hml.symm) d0 d3 d4 d6 d9 (by rw [hxt]; exact fun x h => nomatch h) (by simp only [List.length_cons, List.length_nil]; omega) (by rw [hst.cats]; simp only [List.length_cons, List.length_nil]; omega) (by omega) (by omega) hlocks
    (fun t hal hz hk => ⟨⟨rfl, al, ws, hle, hP.kept (fun j q hj => hk _ ((hP j q hj).lt)), am_K9 hal hK, hD, am_w.moved hal hw⟩, ⟨Nat.le_trans hS.1 hz, fun q h1 h2 => (hk q (Nat.lt_of_lt_of_le h1 hS.1)).trans (hS.2.1 q h1 h2)⟩⟩) hS.2.2 (by omega) (by omega)
  have good : ∀ w, w ∈ am_W → vx_ot w = true := fun w h8 => by
    unfold vx_ot
    rw [(List.mem_filter.mp h8).2, Bool.or_true]
  rcases List.mem_cons.mp h9 with rfl | h9
  · exact good _ hk8
  · rcases List.mem_cons.mp h9 with rfl | h9
    · exact good _ hini
    · rcases hat w h9 with h8 | rfl | ⟨x7, h6, rfl⟩
      · exact good _ h8
      · rfl
      · rfl
theorem sw_throwW {ik is ic : Nat} {cls text : String} (hy0 : y.cls = RX6) (hcls : Bundle.fit cls = true) (htx : (is, text) ∈ am_Str) (hk8 : Cond.classLink RX6 ik cls ∈ am_W) (hini : Cond.initialized cls ∈ am_W) (hX : cls ∈ am_Xs) (hat : ∀ w ∈ vx_atS RX6 ic cls ["java/lang/RuntimeException", "java/lang/Exception"], w ∈ am_W ∨ w = .castable cls cls ∨ ∃ x ∈ am_Ds, w = .declares x)
    (hk9 : 1 ≤ k) (hn9 : 6 ≤ n) (hlv9 : 6 ≤ lv) (hst9 : (st.map fun v => v.category).sum ≤ 8) (hxt9 : xt = [])
    (d0 : decode cc pc = .ok (.new ik, 3)) (d3 : decode cc (pc + 3) = .ok (.dup, 1)) (d4 : decode cc (pc + 4) = .ok (.ldc_w is, 3)) (d6 : decode cc (pc + 7) = .ok (.invokespecial ic, 3)) (d9 : decode cc (pc + 10) = .ok (.athrow, 1)) :
    SW y cc nL ret xt lv sc pc lo st N aw k n (.inr cls) N aw := by
  intro p l e R s m args below meth c H locs cells slots kf nf D A al0 al ws ls st' F hk hn hkR hnR hle hP hD hS hw hl hst
  obtain ⟨hx, hb, hr, hml, hown, hts, hlocks, hin, hfl, hA, hK, hE, hSc, hlv, hloc, hxt⟩ := id F
  subst hxt9
  rw [hy0] at hown
  obtain ⟨sa, hsa⟩ := hE.2.2.1 _ htx
  have hcast : (Cond.castable cls cls).before args s = true := va_Nw.use rfl (hE.2.1.1 cls hX)
  have hat2 : ∀ w ∈ vx_atS RX6 ic cls ["java/lang/RuntimeException", "java/lang/Exception"], w.before args s = true := fun w h9 => (hat w h9).elim (fun h8 => hts _ h8) (fun h8 => h8.elim (fun h7 => by rw [h7]; exact hcast) (fun ⟨x7, h6, h7⟩ => by rw [h7]; exact va_Nw.use rfl (hE.2.1.2 x7 h6)))
  refine vx_throwSW hx hb hfl hown hcls (names := ["java/lang/RuntimeException", "java/lang/Exception"]) (by decide +kernel) (hts _ hk8) (hts _ hini) hsa hat2 (fun w h9 => ?_) hE.1.1 hE.1.2 hS (hl.choose_spec.1.1.trans hml.symm) d0 d3 d4 d6 d9 (by rw [hxt]; exact fun x h => nomatch h) (by simp only [List.length_cons, List.length_nil]; omega) (by rw [hst.cats]; simp only [List.length_cons, List.length_nil]; omega) (by omega) (by omega) hlocks
    (fun t hal hz hk => ⟨⟨rfl, al, ws, hle, hP.kept (fun j q hj => hk _ ((hP j q hj).lt)), am_K9 hal hK, hD, am_w.moved hal hw⟩, ⟨Nat.le_trans hS.1 hz, fun q h1 h2 => (hk q (Nat.lt_of_lt_of_le h1 hS.1)).trans (hS.2.1 q h1 h2)⟩⟩) hS.2.2 (by omega) (by omega)
  have good : ∀ w, w ∈ am_W → vx_ot w = true := fun w h8 => by
    unfold vx_ot
    rw [(List.mem_filter.mp h8).2, Bool.or_true]
  rcases List.mem_cons.mp h9 with rfl | h9
  · exact good _ hk8
  · rcases List.mem_cons.mp h9 with rfl | h9
    · exact good _ hini
    · rcases hat w h9 with h8 | rfl | ⟨x7, h6, rfl⟩
      · exact good _ h8
      · rfl
      · rfl
end AMD
