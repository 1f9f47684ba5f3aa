/-! THE START, AND THE CLAIM (own work, but the printed closing rows) -/
theorem sq_str : ∀ q ∈ am_Str, Cond.exactly (.string RX6 q.1) "java/lang/String" ∈ flatC (Jvm.Cond.and given_1 narrow_1) ∧ Cond.stringRef RX6 q.1 q.2 ∈ lw_tbl := by decide +kernel
theorem sq_ca : ∀ X ∈ am_Xs, Cond.castable X X ∈ lw_tbl := by decide +kernel
theorem sq_de : ∀ x ∈ am_Ds, Cond.declares x ∈ lw_tbl := by decide +kernel
theorem sq_ao : Cond.arrayOver (.object RX2) ∈ lw_tbl := by decide +kernel
theorem sq_m5 : Cond.methodLinkNest RX6 25 yX5_init RX6 ∈ lw_tbl := by decide +kernel
theorem sq_m4 : Cond.methodLinkNest RX6 32 yX4_init RX6 ∈ lw_tbl := by decide +kernel
theorem sq_u1 : Cond.isRef (.static Bundle.tN "UNASSIGNED_STACK" Bundle.steD) ∈ flatC (Jvm.Cond.and given_1 narrow_1) := by decide +kernel
theorem sq_u2 : Cond.isRef (.static Bundle.tN "SUPPRESSED_SENTINEL" Bundle.listD) ∈ flatC (Jvm.Cond.and given_1 narrow_1) := by decide +kernel
theorem sq_u3 : Cond.laysStatic Bundle.tN "UNASSIGNED_STACK" Bundle.steD ∈ lw_tbl ∧ Cond.laysStatic Bundle.tN "SUPPRESSED_SENTINEL" Bundle.listD ∈ lw_tbl ∧ Cond.initialized Bundle.tN ∈ lw_tbl := by decide +kernel

/-- the classes' places -/
theorem sq_K {s : State} {args : Array Value} (hts : ∀ w ∈ am_W, w.before args s = true) : ∃ D : va_G, va_K D vwCl [] s := by
  have h : ∀ c : Nat, ∃ x : ClassId × (Nat → Nat), ∀ q : vw_C, vwCl[c]? = some q → u_Kn s q.1 q.2.1 q.2.2 x.1 x.2 := by
    have go : ∀ {C : String} {T : u_T} {N : Nat} {own : String} {idx ci : Nat} {fs : List Value}, am_Nw own idx ci fs N → vwCl[ci]? = some (C, T, N) → ∃ x : ClassId × (Nat → Nat), ∀ q : vw_C, vwCl[ci]? = some q → u_Kn s q.1 q.2.1 q.2.2 x.1 x.2 := by
      intro C T N own idx ci fs G hq
      obtain ⟨C1, T1, ty1, hcl, h2, h3, h4⟩ := G
      have e := Option.some.inj (hcl.1.symm.trans hq)
      obtain ⟨cC, iS, hk⟩ := u_known (ws := am_W) hts hcl.2.1 (hts _ h3)
      refine ⟨(cC, iS), fun q hq2 => ?_⟩
      have e2 := Option.some.inj (hcl.1.symm.trans hq2)
      subst e2
      exact hk
    intro c
    match c with
    | 0 => exact go nw_X6_16 rfl
    | 1 => exact go nw_X1_9 rfl
    | 2 => exact go nw_X6_30 rfl
    | 3 => exact go nw_X6_23 rfl
    | 4 => exact go nw_L_11 rfl
    | c + 5 => exact ⟨(default, fun _ => 0), fun q hq => by cases hq⟩
  obtain ⟨f, hf⟩ := Classical.axiomOfChoice h
  exact ⟨(fun c => (f c).1, fun c => (f c).2), fun c q hq => hf c q hq, fun k q hq => by cases hq⟩

/-- numbers of the cells that stand before the run -/
def al0 (b : Nat) : am_A := fun k => if k = 1100 then some b else none
theorem sq_env {s : State} {b : Nat} (hts : ∀ w ∈ lw_tbl, w.before #[Value.ref b] s = true) (hgv : (Jvm.Cond.and given_1 narrow_1).before #[Value.ref b] s = true) : am_Env (al0 b) (fun q => s.heap.size ≤ q) s s.heap := by
  have hs := flat_of_before _ hgv
  have hA : ∀ a : Nat, a < s.heap.size → ¬ (s.heap.size ≤ a) := fun a h => by omega
  refine ⟨⟨vx_Zqof (hts _ sq_u3.1) (hts _ sq_u3.2.2) (hs _ sq_u1) hA, vx_Zqof (hts _ sq_u3.2.1) (hts _ sq_u3.2.2) (hs _ sq_u2) hA⟩, ⟨fun X hX => va_Nw.of rfl (hts _ (sq_ca X hX)), fun x hx => va_Nw.of rfl (hts _ (sq_de x hx))⟩, fun q hq => ?_, am_le.rf _, trivial, va_AO.of (hts _ sq_ao), va_Nw.of rfl (hts _ sq_m5), va_Nw.of rfl (hts _ sq_m4)⟩
  obtain ⟨a, c, cell, k, q1, -⟩ := Cond.exactly_spec (hs _ (sq_str q hq).1)
  exact ⟨a, vk_R.of (hts _ (sq_str q hq).2) q1⟩
/-! the first state -/
theorem okV0 : okV (cV dz0 1) := by
  have n1 : nv (cV dz0 1) 1 = 0 := by decide +kernel
  have h1 : ∀ a, a < 8 → cV dz0 1 (11 + a) = nI (pth (cV dz0 1) a) ∧ pth (cV dz0 1) a < 8 := by decide +kernel
  have h2 : ∀ a, a < 8 → ∀ b, b < 8 → pth (cV dz0 1) a = pth (cV dz0 1) b → a = b := by decide +kernel
  have h3 : cV dz0 1 1 = nI (nv (cV dz0 1) 1) ∧ nv (cV dz0 1) 1 ≤ 8 := by decide +kernel
  have h4 : ∀ x, x < 32 → cV dz0 1 (19 + x) = nI (nv (cV dz0 1) (19 + x)) := by decide +kernel
  have h5 : ∀ c, c < 4 → nv (cV dz0 1) (19 + (0 * 4 + c)) + nv (cV dz0 1) (19 + (1 * 4 + c)) + nv (cV dz0 1) (19 + (2 * 4 + c)) + nv (cV dz0 1) (19 + (3 * 4 + c)) + nv (cV dz0 1) (19 + (4 * 4 + c)) + nv (cV dz0 1) (19 + (5 * 4 + c)) + nv (cV dz0 1) (19 + (6 * 4 + c)) + nv (cV dz0 1) (19 + (7 * 4 + c)) = 20 := by decide +kernel
  have h6 : ∀ c, c < 4 → cV dz0 1 (7 + c) = nI (nv (cV dz0 1) (7 + c)) ∧ 1 ≤ nv (cV dz0 1) (7 + c) ∧ nv (cV dz0 1) (7 + c) ≤ 9 := by decide +kernel
  have h7 : (cV dz0 1 0 = nI (nv (cV dz0 1) 0) ∧ nv (cV dz0 1) 0 ≤ 9999) ∧ cV dz0 1 6 = nI (nv (cV dz0 1) 6) ∧ nv (cV dz0 1) 6 ≤ 9 := by decide +kernel
  exact ⟨⟨h1, fun a b ha hb e => h2 a ha b hb e⟩, h3, fun q hq => absurd hq (by omega), ⟨h4, h5⟩, h6, h7⟩

theorem okS0 : okS rz0 := by
  refine ⟨fun i hi => ?_, fun i j hi hj e => ?_⟩
  · match i, hi with
    | 0, _ => exact ⟨rfl, ⟨rfl, rfl, rfl, rfl, rfl, rfl⟩, by decide, by decide⟩
    | 1, _ => exact ⟨rfl, ⟨rfl, rfl, rfl, rfl, rfl, rfl⟩, by decide, by decide⟩
    | 2, _ => exact ⟨rfl, ⟨rfl, rfl, rfl, rfl, rfl, rfl⟩, by decide, by decide⟩
    | 3, _ => exact ⟨rfl, ⟨rfl, rfl, rfl, rfl, rfl, rfl⟩, by decide, by decide⟩
    | 4, _ => exact ⟨rfl, ⟨rfl, rfl, rfl, rfl, rfl, rfl⟩, by decide, by decide⟩
    | 5, _ => exact ⟨rfl, ⟨rfl, rfl, rfl, rfl, rfl, rfl⟩, by decide, by decide⟩
  · exact (show ∀ i, i < 6 → ∀ j, j < 6 → sv rz0 i = sv rz0 j → i = j by decide +kernel) i hi j hj e

theorem nv0 : nv (cV dz0 1) 1 = 0 := by decide +kernel
theorem nv00 : nv (cV dz0 1) 0 = 0 := by decide +kernel
theorem RC0 : RC dz0 rz0 (cV dz0 1) 0 (fun _ _ => 0) (fun _ _ => 0) (fun _ => false) (dz0 49) 0 := ⟨okS0, by decide, ⟨rfl, rfl⟩, rfl, rfl, fun i hi => absurd hi (by omega), ⟨fun h => (by cases h), fun h => (by cases h)⟩, ⟨rfl, rfl⟩, rfl, rfl⟩
theorem IV0 : IV (cV dz0 1) 0 (fun _ _ => 0) (fun _ _ => 0) (fun _ => false) (dz0 49) 0 := ⟨okV0, fun i hi => absurd hi (by omega), ⟨fun h => (by cases h), fun h => (by cases h)⟩, trivial⟩
theorem due0 : dueV (cV dz0 1) := fun q hq => by
  rw [nv0] at hq
  omega
theorem dd0 : dd (cV dz0 1) 0 := ⟨by rw [nv00]; exact Nat.le_refl _, fun q hq => by
  rw [nv0] at hq
  omega⟩
theorem rch0 : rch (cV dz0 1) = 3 := by decide +kernel
theorem hm0 : hm (cV dz0 1) = 8 := by decide +kernel
set_option maxRecDepth 100000 in
set_option maxHeartbeats 4000000 in
/-- the law from its entry on -/
theorem START {xt : List (Nat × Nat × Nat × Nat)} {L : Nat} {xs : Nat → Int32} (hL : L ≤ 260) : ∃ d1 r1, SW yL_law cL_law 4 (some .boolean) xt 12 (some (L, xs)) 0 (am_pad 4 (am_lo [.ref 1100])) [] 0 z0 199 3400 (.inl (some (.int (nI 1)))) 65 (W0 d1 r1 jz0) := by
  obtain ⟨e1, x1, y1⟩ := A_L_arePurses (J := jz0) RC0 IV0
  obtain ⟨e2, x2, y2, -⟩ := C_richest (J := jz0) y1 IV0
  rw [rch0] at x2
  obtain ⟨e3, x3, y3, -⟩ := C0_homeIn (J := jz0) y2 IV0
  rw [hm0] at x3
  obtain ⟨d1, r1, z1⟩ := LOOP (xt := xt) (xs := xs) (J := jz0) hL 44 0 rfl e3 rz0 ⟨_, _, _, _, _, _, _, y3, IV0, due0, dd0⟩
  refine ⟨d1, r1, ?_⟩
  refine sw_new (k2 := 198) (n2 := 3393) fs0_X6 nw_L_11 (fun _ => am_vs0 (by decide)) (by decide) (by omega) (by omega) dL_law_0 ?_
  refine sw_dup dL_law_3 rfl ?_
  refine sw_callI (ret2 := none) (k2 := 134) (n2 := 2125) l0_X6_init mi_L_110 mj_L_110 rfl (S_0 (aw := z0) (fun c _ _ => rfl)) rfl rfl (by decide) (Nat.le_of_ble_eq_true rfl) (Nat.le_of_ble_eq_true rfl) (by omega) (by omega) dL_law_4 ?_
  refine sw_astore_n (i := 1) dL_law_7 rfl (Nat.le_of_ble_eq_true rfl) rfl ?_
  refine sw_lo (lo2 := [some (.ref 1100), some (.ref 0), none, none]) rfl ?_
  show SW yL_law cL_law 4 (some .boolean) xt 12 (some (L, xs)) 8 [some (.ref 1100), some (.ref 0), none, none] [] 65 (W0 dz0 rz0 jz0) 134 2125 (.inl (some (.int (nI 1)))) 65 (W0 d1 r1 jz0)
  refine sw_aload_n (i := 1) dL_law_8 rfl rfl ?_
  refine px_SB2 (k2 := 133) (n2 := 2121) ms_L_111 x1 (by omega) (by omega) rfl rfl (Nat.le_of_ble_eq_true rfl) (Nat.le_of_ble_eq_true rfl) (Nat.le_of_ble_eq_true rfl) dL_law_9 ?_
  refine sw_if_eq (tgt := 33) dL_law_12 rfl (fun h9 => absurd h9 (by decide)) (fun _ => ?_)
  refine sw_aload_n (i := 1) dL_law_15 rfl rfl ?_
  refine px_Vx mv_L_10 x2 rfl rfl (Nat.le_of_ble_eq_true rfl) (Nat.le_of_ble_eq_true rfl) ko_0 (Nat.le_of_ble_eq_true rfl) dL_law_16 ?_
  refine sw_ic 3 dL_law_19 ?_
  refine sw_ic_ne (tgt := 33) dL_law_20 rfl (fun h9 => absurd (by decide) h9) (fun _ => ?_)
  refine sw_ins (pc2 := 23) rfl rfl ?_
  refine sw_aload_n (i := 1) dL_law_23 rfl rfl ?_
  refine sw_ic 0 dL_law_24 ?_
  refine px_Vx mv_L_16 x3 rfl rfl (Nat.le_of_ble_eq_true rfl) (Nat.le_of_ble_eq_true rfl) ko_0 (Nat.le_of_ble_eq_true rfl) dL_law_25 ?_
  refine sw_bi 8 dL_law_28 (by decide +kernel) ?_
  refine sw_ic_eq (tgt := 35) dL_law_30 rfl (fun _ => ?_) (fun h9 => absurd (by decide) h9)
  refine sw_ic 0 dL_law_35 ?_
  refine sw_istore_n (i := 2) dL_law_36 rfl (Nat.le_of_ble_eq_true rfl) rfl ?_
  refine sw_lo (lo2 := [some (.ref 1100), some (.ref 0), some (.int _), none]) rfl ?_
  refine sw_bud (k2 := 3 * 44 + 1) (n2 := 48 * 44 + 4) (by decide) (by decide) ?_
  exact z1
theorem tbl_of (l : List ExceptionTableEntry) : ∃ xt, l = tableOf xt := ⟨l.map fun z => (z.startPc, z.endPc, z.handlerPc, z.catchType), by simp [tableOf, Function.comp_def]⟩
/-! THE CLAIM OUT OF ONE WALK OF THE LAW'S BODY. Your part is whole_start (and what it stands on); all else here is the same for every law, but numbers. -/
def R_law : String := "StormPursesLaw"
def lw_P (b : Addr) (xs : List Int32) (args : Array Value) (s : State) : Prop := args = #[.ref b] ∧ s.IntsAt b xs ∧ xs.length ≤ 260 ∧ (Jvm.Cond.and given_1 narrow_1).before args s = true
/-- what a walk over the start with the record d0 says of its end, said of the start itself -/
theorem lw_closed {s t : State} {o : Outcome} {d0 : Drawn} {L : List Loc} {k n : Nat} (hd0 : s.drawn.sameBut d0 lw_cs) (hv : ∃ v, o = .returned v) (hW : (s.setDrawn d0).WarmedH t.vm) (hs : (s.setDrawn d0).sameButNew ({ t with vm := s.vm } : State) L k n) : State.butDraws s t lw_cs (fun t1 => Framed s o t1 L k n) := by
  have h2 : t.drawn = d0 := congrArg State.drawn hs.1
  refine ⟨⟨hv, hW, State.sameButNew.setDrawn hs s.drawn⟩, ?_, by decide⟩
  rw [h2]
  exact hd0
def lw_Q (_ : Array Value) (s : State) (o : Outcome) (t : State) : Prop := o = .returned (some (.int 1)) ∧ State.butDraws s t lw_cs (fun t1 => Framed s o t1 [] 600074 7301550)
def lw_Z (below : List Frame) (a : Array Value) (s : State) : State → Prop := fun t => ∃ o, t.status = .running ∧ Ended t below o ∧ lw_Q a s o t
/-- the law's own end, with 1 on the stack, nothing written that was there before, its room as the claim has it; d0: the record of draws at this point (at the entry s.drawn: begin with 'refine W.base ?_' and 'have hd0 := Drawn.sameBut.refl s.drawn lw_cs') -/
theorem lw_ret {p : Program} {l : Launch} {e : Env} {s : State} {m : MethodId} {below : List Frame} {meth : Method} {c : Code} {b : Nat} {d0 : Drawn} (hd0 : s.drawn.sameBut d0 lw_cs) (hx : p.tables.exec = Jvm.exec) (hb : c.code = code) (hr : meth.sig.returnType = ret) (hlocks : meth.locks = false) {pc : Nat} {H : Heap} {ls : Array Slot} (hdg : decode code pc = .ok (.ireturn, 1)) : W p l e room_1 (s.setDrawn d0) m #[Value.ref b] below meth c H [] 600074 7301550 (lw_Z below #[Value.ref b] s) (F0 m pc ls [.int 1]) := by
  intro T hT X
  obtain ⟨fs, hret, hrun, hended, hW, hframe⟩ := X.leave (v := some (.int 1)) (hlocks := hlocks) (fun h => by rw [hr] at h; cases h)
  have hmeth' : T.vm.method? m = some meth := X.method'
  refine ⟨T.setFrames fs, ?_, .returned (some (.int 1)), hrun, hended, rfl, lw_closed hd0 ⟨_, rfl⟩ hW hframe⟩
  jvm_step X.here [X.here.top, hx, hb, hdg, hmeth', hr, ret, narrow_b1]
  (try refine ⟨rfl, ?_⟩); (try refine ⟨rfl, ?_⟩)
  first | (intro acts; rw [hret _ acts rfl rfl rfl]) | rw [hret _ _ rfl rfl rfl]
  exact Steps.refl _
/-- what holds at the law's entry: the machine, the code, the tables' words (any of lw_tbl by 'hts w (by decide +kernel)'), the script of L ints xs at the cell b, what the Statement gives of the start (any of its parts by flat_of_before) -/
def lw_At (p : Program) (s : State) (m : MethodId) (meth : Method) (c : Code) (b L : Nat) (xs : Nat → Int32) : Prop :=
  p.tables.exec = Jvm.exec ∧ c.code = code ∧ meth.sig.returnType = ret ∧ c.maxLocals = 4 ∧ s.vm.findClass R_law = some m.cls ∧ (∀ w ∈ lw_tbl, w.before #[Value.ref b] s = true) ∧ va_X b L xs s s.heap ∧ b < s.heap.size ∧ meth.locks = false ∧ (Jvm.Cond.and given_1 narrow_1).before #[Value.ref b] s = true
/-- YOUR PART: from the entry, for every script of at most 260 ints, the law comes to its end with true ('hflags': the launch's flags, for a law that throws: no stack traces) -/
theorem whole_start {p : Program} {e : Env} {s : State} {m : MethodId} {below : List Frame} {meth : Method} {c : Code} (l : Launch) (hflags : l.flags = flags0) {b L : Nat} {xs : Nat → Int32} (hL : L ≤ 260) (C0 : lw_At p s m meth c b L xs) : W p l e room_1 s m #[Value.ref b] below meth c s.heap [] 0 0 (lw_Z below #[Value.ref b] s) (entryFrame m ([Value.ref b] : List Value).toArray 4) := by
  obtain ⟨hx, hb, hr, hml, hown, hts, hX, hbs, hlk, hgv⟩ := C0
  have hfl : l.stackTraces = false := by
    unfold Launch.stackTraces
    rw [hflags]
    decide +kernel
  have htw : ∀ w ∈ am_W, w.before #[Value.ref b] s = true := fun w hw => hts w (List.mem_filter.mp hw).1
  obtain ⟨D, hK⟩ := sq_K htw
  have hE := sq_env hts hgv
  obtain ⟨xt, hxt⟩ := tbl_of c.exceptionTable.toList
  obtain ⟨d1, r1, y1⟩ := START (xt := xt) (xs := xs) hL
  have hl0 := lv_entry [Value.ref b] (n := 4) (by rw [am_sl_len]; exact Nat.le_of_ble_eq_true rfl)
  have hloc : am_L (al0 b) ((lg_sl [Value.ref b] ++ List.replicate (4 - (lg_sl [Value.ref b]).length) Slot.unset).toArray) 4 (am_pad 4 (am_lo [.ref 1100])) := by
    refine ⟨_, hl0, fun i v hi => ?_⟩
    obtain ⟨v', g1, g2⟩ := am_lo_args (al := al0 b) (vs := [.ref 1100]) (vs' := [Value.ref b]) 0 ⟨_, _, rfl, ⟨b, rfl, rfl⟩, rfl⟩ i v (am_nth_pad hi)
    exact ⟨v', g1, by rw [Nat.zero_add] at g2; exact g2⟩
  have hal : ∀ j : Nat, 0 ≤ j → j < 999 → al0 b j = none := fun j _ hj => by
    unfold al0
    rw [if_neg (by omega)]
  rw [lg_entry_eq]
  intro T hT X
  obtain ⟨t, a1, o, b1, b2, b3⟩ := y1 p l e room_1 s m #[Value.ref b] below meth c s.heap [] 0 0 199 3400 D (fun q => s.heap.size ≤ q) (al0 b) (al0 b) [] _ []
    ⟨hx, hb, hr, hml, hown, htw, hlk, fun h => absurd h (by decide +kernel), hfl, fun q h => h, hK, hE, ⟨b, rfl, hX, hbs, by omega⟩, by decide, by decide, hxt⟩
    (by omega) (by omega) (show 199 ≤ 600074 by omega) (show 3400 ≤ 7301550 by omega) (am_le.rf _) (fun k q h => by simp at h) ⟨fun i j p q h => by simp at h, fun k q h => by simp at h⟩ va_S.rf ⟨rfl, hal, fun k hk => absurd hk (by omega)⟩ hloc rfl T hT X
  rcases b3 with ⟨⟨⟨v, v', al', ws', h1, h2, h3, -⟩, -⟩, L9, hF, hL9⟩ | ⟨q, -, E, ce, L9, ⟨⟨hX9, -⟩, -⟩, -⟩
  · cases h1
    obtain ⟨x', rfl, h4⟩ := h3
    cases h4
    refine ⟨t, a1, o, b1, b2, h2, lw_closed (Drawn.sameBut.refl s.drawn lw_cs) hF.1 hF.2.1 ?_⟩
    exact State.sameButNew.mono (State.sameButNew.drop_fresh (L := []) hF.2.2 hL9) (by omega) (by omega)
  · cases hX9

set_option maxHeartbeats 4000000 in
theorem lw_walk (l : Launch) (hflags : l.flags = flags0) (b : Addr) (xs : List Int32) : MetFree l x (headSpec (Jvm.Cond.code x code maxLocals ret :: tables_1) room_1) (lw_P b xs) (fun _ _ _ _ _ => True) lw_Q := by
  refine MetFree.of_bodyS (code := code) (maxLocals := maxLocals) (ret := ret) (by decide) ?_ ?_
  · intro args s m h hn
    obtain ⟨meth, c, h1, h2, h3, h4, h5, h6, -, -⟩ := Cond.code_spec hn (atoms_spec (ws := Jvm.Cond.code x code maxLocals ret :: tables_1) h _ List.mem_cons_self)
    exact ⟨meth, c, h1, h2, h3, h4, h5, h6⟩
  · intro p e s m args below meth c s₁ B hml0 hP _
    obtain ⟨rfl, hx, hbd, hgv⟩ := hP
    obtain ⟨scr, harrAt, hlist, hof, hsmall⟩ := hx
    obtain ⟨hcb, hkn, -, -⟩ := State.arrayAt?_spec harrAt
    have hown : s.vm.findClass R_law = some m.cls := findClass_of_methodNamed B.named
    have hts0 : ∀ c ∈ (Jvm.Cond.code x code maxLocals ret :: tables_1), c.before #[Value.ref b] s = true := atoms_spec (ws := Jvm.Cond.code x code maxLocals ret :: tables_1) B.pre
    have hts : ∀ w ∈ lw_tbl, w.before #[Value.ref b] s = true := k2_hts_sels lw_privs (fun w hw => hts0 w (List.mem_cons_of_mem _ hw)) lw_privs_ok
    have hml : c.maxLocals = 4 := B.maxLocals_eq (hts0 _ List.mem_cons_self)
    have X₀ : Stand p l e room_1 s m #[Value.ref b] below meth c s₁ [] 0 0 := Stand.of_body B
    have hh0 : s₁.heap = s.heap := by rw [B.state]; rfl
    have hsz : scr.slots.size = xs.length := by rw [← Array.length_toList, hlist, List.length_map]
    have hval : ∀ j : Nat, j < xs.length → scr.slots[j]? = some (.int (xs.getD j 0)) := fun j hj => by
      rw [← Array.getElem?_toList, hlist]
      simp [hj]
    have hbl : b < s.heap.size := (Array.getElem?_eq_some_iff.mp hcb).1
    have hX : va_X b xs.length (fun j => xs.getD j 0) s s.heap := ⟨scr, hcb, hof, hkn, hsz, hval⟩
    have K : W p l e room_1 s m #[Value.ref b] below meth c s₁.heap [] 0 0 (lw_Z below #[Value.ref b] s) (entryFrame m ([Value.ref b] : List Value).toArray 4) := by
      rw [hh0]
      exact whole_start l hflags hbd ⟨B.exec, B.bytes, B.returns, hml, hown, hts, hX, hbl, B.notSynchronized, hgv⟩
    obtain ⟨t, a1, o, b1, b2, b3⟩ := K s₁ rfl X₀
    exact ⟨t, o, a1, b1, b2, b3⟩
theorem lw_pre_spec {args : Array Value} {s : State} (h : (Jvm.Cond.and given_1 narrow_1).before args s = true) (hr : rest_1_c.before args s = true) : ∃ (b : Addr) (xs : List Int32), lw_P b xs args s := by
  have hs := flat_of_before _ h
  have hq := flat_of_before _ hr
  have hc : (Cond.count 1).before args s = true := hs _ (by decide +kernel)
  have harr : (Cond.arrayOf (.arg 0) .int).before args s = true := hs _ (by decide +kernel)
  have hle : (Cond.le (.length (.arg 0)) (.int 260)).before args s = true := hs _ (by decide +kernel)
  have hlen : (Cond.isInt (.length (.arg 0))).before args s = true := hq _ (by decide +kernel)
  have hall : (Cond.all (.arg 0) (.isInt (.elem (.arg 0) (.index 0)))).before args s = true := hq _ (by decide +kernel)
  obtain ⟨b, xs, hb, hx⟩ := State.ints_of_pre rfl harr hlen hall
  have hsm : xs.length < 2 ^ 31 := hx.choose_spec.2.2.2
  have hev : (Term.length (.arg 0)).eval args s none [] s = some (.int xs.length.toInt32) := hx.length_eval hb
  have hv := Cond.le_ints hev (show (Term.int 260).eval args s none [] s = some (.int 260) from rfl)
  have hd : xs.length.toInt32 ≤ 260 := by
    simpa [Cond.before, Cond.holds, hv] using hle
  have hN : xs.length ≤ 260 := (Int32.ofNat_le_ofNat hsm (by decide)).mp (show Int32.ofNat xs.length ≤ Int32.ofNat 260 from hd)
  exact ⟨b, xs, Cond.one_arg hc (show args[0]? = some (.ref b) from hb), hx, hN, h⟩
theorem lw_comes (l : Launch) (hflags : l.flags = flags0) : Comes l x (Jvm.Cond.code x code maxLocals ret :: tables_1) room_1 (fun tb e args s => Calls_1 tb e args s ∧ rest_1 tb e args s ∧ Pre_1 tb e args s)
    (fun _ _ args s o t => lw_Q args s o t) := by
  intro p e ha hc hk s m args below hf hfit hheap happ hpre
  obtain ⟨b, xs, hP⟩ := lw_pre_spec hpre.2.2 hpre.2.1
  obtain ⟨k, o, h1, h2, h3, hQ⟩ := lw_walk l hflags b xs p e ha hc hk s m args below hf ((Spec.applies_iff_loose hf).mp happ).1 hP trivial
  exact ⟨k, o, h1, h2, h3, hQ⟩
theorem lw_frame {s t : State} {o : Outcome} {args : Array Value} (h : State.butDraws s t lw_cs (fun t1 => Framed s o t1 [] 600074 7301550)) :
    State.butDraws s t [Jvm.Choice.named "NaN.bits"] (fun t1 => Framed s o t1 (fieldLocs frame_1_writes args s ++ arrayLocs frame_1_arrays args s ++ staticLocs frame_1_statics s) 600074 7301550) := h
theorem lw_limb (L : Cond) (hL : ∀ (args : Array Value) (s t : State), L.after args s (.returned (some (.int 1))) t = true) :
    ArmFor flags0 classFile x code maxLocals ret World_1 tables_1 room_1 Calls_1 rest_1 Pre_1
      (fun tb e a s o t => postC L tb e a s o t ∧ State.butDraws s t [Jvm.Choice.named "NaN.bits"] (fun t1 => Framed s o t1 (fieldLocs frame_1_writes a s ++ arrayLocs frame_1_arrays a s ++ staticLocs frame_1_statics s) 600074 7301550)) := by
  intro l hflags _ _ p e ha hc hk s m args below hf hfit hheap happ hpre
  obtain ⟨k, o, h1, h2, h3, rfl, hF⟩ := lw_comes l hflags p e ha hc hk s m args below hf hfit hheap happ hpre
  exact ⟨k, _, h1, h2, h3, hL args s _, lw_frame hF⟩
theorem i_vc : Claimed_1_1 ∧ Claimed_1_2 := ⟨lw_limb limb_1_1 (fun args s t => by simp [limb_1_1, Cond.after, Cond.holds, Cond.value]), lw_limb limb_1_2 (fun args s t => Cond.after_iff.mpr (by
  first | (rw [show limb_1_2 = Cond.eq .result (.int 1) from rfl, Cond.eq_ints (x := 1) (y := 1) rfl rfl]; simp; done) | (simp [limb_1_2, Cond.value, Term.eval]; done)))⟩
