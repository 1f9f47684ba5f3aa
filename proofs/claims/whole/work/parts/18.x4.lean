/-! THE TEXT, 1: Step.ordinal, signAt, put, ifIn, stepInto, stepBehind (own work, written by wip/tools) -/
/-- Step.ordinal(), inherited from Enum -/
def yOrd : MethodName := ⟨"java/lang/Enum", "ordinal", "()I"⟩
def xOrd : MethodName := ⟨"StormPurses$Step", "ordinal", "()I"⟩
abbrev cOrd : ByteArray := prog_10_method_2_code
abbrev kOrd : Cond := .code yOrd cOrd 1 (some .int)
theorem dOrd_0 : decode cOrd 0 = .ok (.aload_n 0, 1) := by decide +kernel
theorem dOrd_1 : decode cOrd 1 = .ok (.getfield 7, 3) := by decide +kernel
theorem dOrd_4 : decode cOrd 4 = .ok (.ireturn, 1) := by decide +kernel
theorem l0_Ord : am_L0 kOrd yOrd 0 := ⟨am_in (i := 230) (by decide +kernel) (by decide +kernel), (am_in (i := 70) (by decide +kernel) (by decide +kernel)), by decide +kernel, by decide +kernel, by decide +kernel⟩
theorem fl_Ord : Cond.fieldLink "java/lang/Enum" 7 "java/lang/Enum" "ordinal" "I" ∈ am_W := (am_in (i := 1125) (by decide +kernel) (by decide +kernel))
theorem ml_Ord : Cond.methodLink RX4 45 xOrd ∈ am_W := (am_in (i := 225) (by decide +kernel) (by decide +kernel))
theorem sm_Ord : Cond.sameMethod xOrd.cls "java/lang/Enum" xOrd.name xOrd.desc ∈ am_W := (am_in (i := 226) (by decide +kernel) (by decide +kernel))
theorem se_Ord : Cond.selects RX3 xOrd yOrd ∈ am_W := (am_in (i := 228) (by decide +kernel) (by decide +kernel))
theorem im_Ord : Cond.instanceMethod yOrd ∈ am_W := (am_in (i := 229) (by decide +kernel) (by decide +kernel))
def am_QS (v : Value) : Array Value → State → Outcome → State → Prop := fun _ st oc t => oc = .returned (some v) ∧ t.heap = st.heap
theorem met_Ord (l : Launch) (a i : Nat) (hi : i < 13) : Met l yOrd (kOrd :: am_W) (am_rm 0 0 0) (va_Pc [.ref a] (fun U => ∃ ad, va_En RX3 "LStormPurses$Step;" am_nm am_F1 ad (fun _ => False) U U.heap ∧ ad i = a)) (am_QS (.int (nI i))) 0 0 (fun _ => False) := by
  refine Met.ofW (cc := cOrd) (maxL := 1) (ret := some .int) (by decide +kernel) rfl ?_
  intro p e s m args below meth c s₁ B hml hv
  obtain ⟨rfl, ad, hE, rfl⟩ := hv
  have hx := B.exec
  have hb := B.bytes
  have hr := B.returns
  have hts := atoms_spec (ws := kOrd :: am_W) B.pre
  have hown : s.vm.findClass yOrd.cls = some m.cls := findClass_of_methodNamed B.named
  have hlocks := B.notSynchronized
  have hl := lv_entry ([.ref (ad i)]) (n := 1) (Nat.le_of_ble_eq_true rfl)
  rw [lg_entry_eq]
  generalize (lg_sl ([.ref (ad i)]) ++ List.replicate (1 - (lg_sl ([.ref (ad i)])).length) Slot.unset).toArray = ls at hl ⊢
  have hl : lv_has ls 1 [(0, .ref (ad i))] := hl
  have hS : va_S (fun _ => False) s.heap s.heap [] := va_S.rf
  refine lv_aload_n hx hb dOrd_0 rfl (lv_at hl 0 rfl) ?_
  refine va_getE hx hb hE hi hS hown (q := ("java/lang/Enum", "ordinal", "I", [0, 1, 2, 3, 4, 5, 6, 7, 8, 9, 10, 11, 12])) List.mem_cons_self (hts _ (List.mem_cons_of_mem _ fl_Ord)) (fun _ h9 => h9) dOrd_1 ?_
  have e0 : ∀ i, i < 13 → ([0, 1, 2, 3, 4, 5, 6, 7, 8, 9, 10, 11, 12] : List Int32).getD i 0 = nI i := by decide +kernel
  have e := e0 i hi
  rw [e]
  exact W.iret (v := nI i) hx hb hr (fun t ht hW => ⟨rfl, ht⟩) (fun q h => nomatch h) dOrd_4
section ORD
variable {y : MethodName} {cc : ByteArray} {nL : Nat} {ret : Option FieldType} {xt : List (Nat × Nat × Nat × Nat)} {lv : Nat} {sc : Option (Nat × (Nat → Int32))} {pc : Nat} {lo : List (Option Value)} {st : List Value} {N : Nat} {aw : Nat → am_E} {k n : Nat} {o : Option Value ⊕ String} {N' : Nat} {aw' : Nat → am_E}
theorem sw_ord {idx : Nat} (i : Nat) (hi : i < 13) (hl9 : Cond.methodLink y.cls idx xOrd ∈ am_W) (hlv9 : 1 ≤ lv) (hst9 : (st.map fun v => v.category).sum ≤ 8) (d : decode cc pc = .ok (.invokevirtual idx, 3))
    (k9 : SW y cc nL ret xt lv sc (pc + 3) lo (.int (nI i) :: st) N aw k n o N' aw') : SW y cc nL ret xt lv sc pc lo (.ref (1000 + i) :: st) N aw k n o N' aw' := by
  intro p l e R s m args below meth c H locs cells slots kf nf D A al0 al ws ls st' F hk hn hkR hnR hle hP hD hS hw hl hst
  obtain ⟨hx, hb, hr, hml, hown, hts, hlocks, hin, hfl, hA, hK, hE, hSc, hlv, hloc, hxt⟩ := id F
  obtain ⟨w0, r0, rfl, ⟨a, g1, rfl⟩, hst⟩ := hst
  obtain ⟨ad, e1, e2⟩ := hE.2.2.2.1
  cases Option.some.inj (g1.symm.trans (hle _ _ (e2 i hi)))
  have hG : GoodIn am_W (va_wsU y.cls idx RX3 "java/lang/Enum" xOrd yOrd (kOrd :: am_W)) := by
    refine am_good2 l0_Ord.1 (fun w hw => ?_)
    simp only [List.mem_cons, List.not_mem_nil, or_false] at hw
    rcases hw with rfl | rfl | rfl | rfl | rfl
    · exact hl9
    · exact sm_Ord
    · exact se_Ord
    · exact im_Ord
    · exact l0_Ord.2.1
  have hRm : (am_rm 0 0 0).frames + 1 ≤ R.frames ∧ 8 + (1 + 11) + (am_rm 0 0 0).locals ≤ R.locals := ⟨by show 0 + 1 ≤ _; omega, by show _ + (30 * 0 + 62) ≤ _; omega⟩
  have hrun : va_Run p l e R s m args below meth c H locs cells slots 0 0 (F0 m pc ls (.ref (ad i) :: r0)) r0 (am_QS (.int (nI i)) (Value.ref (ad i) :: []).toArray) (fun _ => False) := va_runU (As := []) (rest := r0) (am_fix F) (met_Ord l (ad i) i hi) (va_cwU 0 hts hG rfl rfl rfl rfl ⟨by decide +kernel, by decide +kernel, by decide +kernel⟩ hRm)
    ⟨fun a U g mk h => by obtain ⟨q0, ad9, q1, q2⟩ := h; exact ⟨q0, ad9, va_En.moved (u := U) (U := U.calling g mk a) (Vm.Alike.refl U.vm) q1, q2⟩, va_recvE e1 hi hS, fun U hU hW => ⟨rfl, ad, by rw [hU]; exact (va_En.moved hW.alike (e1.kept hS.2.1)).narrow (fun _ h => h.elim), rfl⟩⟩
    (cells := cells) (slots := slots) (g := F0 m pc ls (.ref (ad i) :: r0)) rfl rfl hl.choose_spec.1.1 rfl (lv_room (by rw [hst.cats]; exact hst9)) d ⟨by omega, by omega⟩
  intro T hT X
  obtain ⟨v1, st₀, t, T', L, h0, X', hL, q1, q2, ⟨hv, hh⟩, st9⟩ := hrun T hT X
  cases hv
  have hT' : T'.heap = H := by rw [q1, hh, h0]
  have hS' : va_S A s.heap H (locs ++ L) := ⟨hS.1, hS.2.1, fun q hq => (List.mem_append.mp hq).elim (hS.2.2 q) (fun h => (hL q h).elim)⟩
  obtain ⟨t2, a1, b1⟩ := k9 p l e R s m args below meth c H (locs ++ L) (cells + 0) (slots + 0) kf nf D A al0 al ws ls _ F (by omega) (by omega) hkR hnR hle hP hD hS' hw hl ⟨_, _, rfl, rfl, hst⟩ T' hT' X'
  exact ⟨t2, st9 t2 a1, b1⟩
end ORD
/-! the text as numbers -/
def okT (f : Nat → Int32) (L : Nat) : Prop := L ≤ 60 ∧ ∀ j, j < L → f j = nI (nv f j) ∧ 33 ≤ nv f j ∧ nv f j ≤ 126
def sg (f : Nat → Int32) (L a : Nat) : Nat := if a < L then nv f a else 32
def sgp (f : Nat → Int32) (L a : Nat) : Nat := if a = 0 then 32 else sg f L (a - 1)
theorem sg_lt {f : Nat → Int32} {L : Nat} (ok : okT f L) (a : Nat) : sg f L a ≤ 126 := by
  unfold sg
  by_cases h : a < L
  · rw [if_pos h]; exact (ok.2 a h).2.2
  · rw [if_neg h]; decide
theorem sgp_lt {f : Nat → Int32} {L : Nat} (ok : okT f L) (a : Nat) : sgp f L a ≤ 126 := by
  unfold sgp
  by_cases h : a = 0
  · rw [if_pos h]; decide
  · rw [if_neg h]; exact sg_lt ok _
def ifn (c lo hi nx : Nat) : Nat := if lo ≤ c ∧ c ≤ hi then nx else 12
def into (c : Nat) : Nat := if c = 107 then 10 else if c = 112 then 3 else if c = 115 then 11 else if c = 120 then 1 else 12
def stp (s c p : Nat) : Nat := match s with
  | 0 => into c
  | 1 => ifn c 48 55 2
  | 2 => ifn c 48 55 11
  | 3 => ifn c 48 55 4
  | 4 => if c = p then 12 else ifn c 48 55 5
  | 5 => ifn c 61 61 6
  | 6 => ifn c 49 57 7
  | 7 => if c = 47 then 9 else ifn c 48 57 8
  | 8 => ifn c 47 47 9
  | 9 => ifn c 48 57 11
  | 10 => ifn c 48 55 11
  | 11 => ifn c 59 59 0
  | _ => 12
theorem ifn_lt {c lo hi nx : Nat} (h : nx < 13) : ifn c lo hi nx < 13 := by
  unfold ifn
  by_cases q : lo ≤ c ∧ c ≤ hi
  · rw [if_pos q]; exact h
  · rw [if_neg q]; decide
theorem into_lt (c : Nat) : into c < 13 := by
  unfold into
  repeat' split
  all_goals decide
theorem stp_lt (s c p : Nat) : stp s c p < 13 := by
  unfold stp
  split
  · exact into_lt c
  · exact ifn_lt (by decide)
  · exact ifn_lt (by decide)
  · exact ifn_lt (by decide)
  · split
    · decide
    · exact ifn_lt (by decide)
  · exact ifn_lt (by decide)
  · exact ifn_lt (by decide)
  · split
    · decide
    · exact ifn_lt (by decide)
  · exact ifn_lt (by decide)
  · exact ifn_lt (by decide)
  · exact ifn_lt (by decide)
  · exact ifn_lt (by decide)
  · decide
/-- the step behind the first n signs -/
def rnS (f : Nat → Int32) (L : Nat) : Nat → Nat
  | 0 => 0
  | n + 1 => stp (rnS f L n) (sg f L n) (sgp f L n)
theorem rnS_lt (f : Nat → Int32) (L : Nat) : ∀ n, rnS f L n < 13
  | 0 => by show 0 < 13; decide
  | n + 1 => stp_lt _ _ _
def erG (f : Nat → Int32) (L : Nat) : Nat → Nat → Nat
  | 0, a => a
  | k + 1, a => if rnS f L (a + 1) = 12 then a else erG f L k (a + 1)
theorem erG_s (f : Nat → Int32) (L k a : Nat) : erG f L (k + 1) a = if rnS f L (a + 1) = 12 then a else erG f L k (a + 1) := rfl
def nxG (f : Nat → Int32) (L : Nat) : Nat → Nat → Nat
  | 0, a => a
  | k + 1, a => if sg f L a = 59 then a else nxG f L k (a + 1)
theorem nxG_s (f : Nat → Int32) (L k a : Nat) : nxG f L (k + 1) a = if sg f L a = 59 then a else nxG f L k (a + 1) := rfl
def dgt (c : Nat) : Int32 := if 48 ≤ c ∧ c ≤ 57 then nI (c - 48) else -1
def smO (f : Nat → Int32) (L a : Nat) : Int32 := if dgt (sg f L (a + 5)) = -1 then dgt (sg f L (a + 4)) else dgt (sg f L (a + 4)) * nI 10 + dgt (sg f L (a + 5))
def dyO (f : Nat → Int32) (L a : Nat) : Int32 := if dgt (sg f L (a + 5)) = -1 then dgt (sg f L (a + 6)) else dgt (sg f L (a + 7))
theorem nar_char {q : Nat} (h : q ≤ 126) : narrow .char (.int (nI q)) = .int (nI q) := (pk_charN (by omega)).1
set_option maxRecDepth 100000 in
set_option maxHeartbeats 4000000 in
theorem A_X4_signAt {d : Nat → Nat → Int32} {r : Nat → Nat → Option Nat} {J : Nat → Nat → Int64} {L a : Nat} (hL : d 48 1 = nI L) (ok : okT (d 49) L) (ha : a < 2 ^ 31) : OP kX4_signAt yX4_signAt 0 [.ref 48, .int (nI a)] d r J (some (.int (nI (sg (d 49) L a)))) d r J := by
  refine op_of pl_X4_signAt (Nat.le_of_ble_eq_true rfl) ?_
  have ha2 : L < 2 ^ 31 := by have := ok.1; omega
  by_cases h9a : a < L
  ·
    refine sw_iload_n (i := 1) dX4_signAt_0 rfl rfl ?_
    refine sw_if_lt (tgt := 21) dX4_signAt_1 rfl (fun h9 => absurd h9 (nI_pos ha)) (fun _ => ?_)
    refine sw_iload_n (i := 1) dX4_signAt_4 rfl rfl ?_
    refine sw_aload_n (i := 0) dX4_signAt_5 rfl rfl ?_
    refine sx_getIE (nI L) hL f_X4_15 (by decide) kf_48_1 dX4_signAt_6 ?_
    refine sw_ic_ge (tgt := 21) dX4_signAt_9 rfl (fun h9 => absurd h9 (nI_ge h9a ha2)) (fun _ => ?_)
    refine sw_aload_n (i := 0) dX4_signAt_12 rfl rfl ?_
    refine sw_ins (pc2 := 13) rfl rfl ?_
    refine sx_getR (q := 49) f_X4_9 (by decide) kr_48_0 dX4_signAt_13 ?_
    refine sw_iload_n (i := 1) dX4_signAt_16 rfl rfl ?_
    refine sx_caldE (a) (nI (nv (d 49) a)) (ok.2 a (h9a)).1 rfl rfl (by have := ok.1; omega) dX4_signAt_17 ?_
    refine sw_goto (tgt := 23) dX4_signAt_18 rfl ?_
    exact sw_zreturnE (by unfold sg; rw [if_pos h9a]) rfl (nar_char (sg_lt ok a)) dX4_signAt_23
  ·
    refine sw_iload_n (i := 1) dX4_signAt_0 rfl rfl ?_
    refine sw_if_lt (tgt := 21) dX4_signAt_1 rfl (fun h9 => absurd h9 (nI_pos ha)) (fun _ => ?_)
    refine sw_iload_n (i := 1) dX4_signAt_4 rfl rfl ?_
    refine sw_aload_n (i := 0) dX4_signAt_5 rfl rfl ?_
    refine sx_getIE (nI L) hL f_X4_15 (by decide) kf_48_1 dX4_signAt_6 ?_
    refine sw_ic_ge (tgt := 21) dX4_signAt_9 rfl (fun _ => ?_) (fun h9 => absurd (nI_le (by omega) ha) h9)
    refine sw_bi 32 dX4_signAt_21 (by decide +kernel) ?_
    refine sw_ins (pc2 := 23) rfl rfl ?_
    exact sw_zreturnE (by unfold sg; rw [if_neg h9a]) rfl (nar_char (sg_lt ok a)) dX4_signAt_23
set_option maxRecDepth 100000 in
set_option maxHeartbeats 4000000 in
theorem A0_X4_signAt {d : Nat → Nat → Int32} {r : Nat → Nat → Option Nat} {J : Nat → Nat → Int64} {x : Int32} (hx : x < 0) : OP kX4_signAt yX4_signAt 0 [.ref 48, .int x] d r J (some (.int (nI 32))) d r J := by
  refine op_of pl_X4_signAt (Nat.le_of_ble_eq_true rfl) ?_
  refine sw_iload_n (i := 1) dX4_signAt_0 rfl rfl ?_
  refine sw_if_lt (tgt := 21) dX4_signAt_1 rfl (fun _ => ?_) (fun h9 => absurd hx h9)
  refine sw_bi 32 dX4_signAt_21 (by decide +kernel) ?_
  exact sw_zreturnE rfl rfl (nar_char (by decide)) dX4_signAt_23
set_option maxRecDepth 100000 in
set_option maxHeartbeats 4000000 in
theorem A2_X4_signAt {d : Nat → Nat → Int32} {r : Nat → Nat → Option Nat} {J : Nat → Nat → Int64} {L a : Nat} (hL : d 48 1 = nI L) (ok : okT (d 49) L) (ha : a < 2 ^ 31) : OP kX4_signAt yX4_signAt 0 [.ref 48, .int (pr a)] d r J (some (.int (nI (sgp (d 49) L a)))) d r J := by
  cases a with
  | zero => exact A0_X4_signAt (by decide)
  | succ a => exact A_X4_signAt hL ok (by omega)
set_option maxRecDepth 100000 in
set_option maxHeartbeats 4000000 in
theorem A_X4_put {d : Nat → Nat → Int32} {r : Nat → Nat → Option Nat} {J : Nat → Nat → Int64} {L q : Nat} (hL : d 48 1 = nI L) (hlt : L < 60) (hq : q ≤ 126) : OP kX4_put yX4_put 0 [.ref 48, .int (nI q)] d r J none (d2 (d2 d 49 L (nI q)) 48 1 (nI L + nI 1)) r J := by
  refine op_of pl_X4_put (Nat.le_of_ble_eq_true rfl) ?_
  refine sw_aload_n (i := 0) dX4_put_0 rfl rfl ?_
  refine sx_getIE (nI L) hL f_X4_15 (by decide) kf_48_1 dX4_put_1 ?_
  refine sw_bi 60 dX4_put_4 (by decide +kernel) ?_
  refine sw_ic_ge (tgt := 29) dX4_put_6 rfl (fun h9 => absurd h9 (nI_ge hlt (by decide))) (fun _ => ?_)
  refine sw_aload_n (i := 0) dX4_put_9 rfl rfl ?_
  refine sx_getR (q := 49) f_X4_9 (by decide) kr_48_0 dX4_put_10 ?_
  refine sw_aload_n (i := 0) dX4_put_13 rfl rfl ?_
  refine sw_ins (pc2 := 14) rfl rfl ?_
  refine sx_getIE (nI L) hL f_X4_15 (by decide) kf_48_1 dX4_put_14 ?_
  refine sw_iload_n (i := 1) dX4_put_17 rfl rfl ?_
  refine sx_cast (L) rfl rfl (by omega) (by have h9 := nar_char hq; unfold vp_nar; rw [h9]) dX4_put_18 ?_
  refine sw_aload_n (i := 0) dX4_put_19 rfl rfl ?_
  refine sw_dup dX4_put_20 rfl ?_
  refine sx_getIE (nI L) (by rw [d2_off _ _ (by decide)]; exact hL) f_X4_15 (by decide) kf_48_1 dX4_put_21 ?_
  refine sw_ic 1 dX4_put_24 ?_
  refine sw_iadd dX4_put_25 ?_
  refine sw_ins (pc2 := 26) rfl rfl ?_
  refine sx_putI fp_X4_15 (by decide) kf_48_1 dX4_put_26 ?_
  exact sw_return rfl dX4_put_29
theorem sw_insR {y : MethodName} {cc : ByteArray} {nL : Nat} {ret : Option FieldType} {xt : List (Nat × Nat × Nat × Nat)} {lv : Nat} {sc : Option (Nat × (Nat → Int32))} {pc : Nat} {lo : List (Option Value)} {st : List Value} {N : Nat} {aw : Nat → am_E} {k n : Nat} {N' : Nat} {aw' : Nat → am_E} {a b : Nat} (h : b = a) (k9 : SW y cc nL ret xt lv sc pc lo st N aw k n (.inl (some (.ref (1000 + a)))) N' aw') : SW y cc nL ret xt lv sc pc lo st N aw k n (.inl (some (.ref (1000 + b)))) N' aw' := by
  subst h
  exact k9
set_option maxRecDepth 100000 in
set_option maxHeartbeats 4000000 in
theorem A_X4_ifIn {d : Nat → Nat → Int32} {r : Nat → Nat → Option Nat} {J : Nat → Nat → Int64} {c lo hi nx : Nat} (hc2 : c < 2 ^ 31) (hl2 : lo < 2 ^ 31) (hh2 : hi < 2 ^ 31) : OP kX4_ifIn yX4_ifIn 0 [.int (nI c), .int (nI lo), .int (nI hi), .ref (1000 + nx)] d r J (some (.ref (1000 + ifn c lo hi nx))) d r J := by
  refine op_of pl_X4_ifIn (Nat.le_of_ble_eq_true rfl) ?_
  refine sw_iload_n (i := 0) dX4_ifIn_0 rfl rfl ?_
  refine sw_iload_n (i := 1) dX4_ifIn_1 rfl rfl ?_
  refine sw_ic_lt (tgt := 14) dX4_ifIn_2 rfl (fun h2 => ?_) (fun h2 => ?_)
  ·
    refine sw_getE 12 (by decide) gs_X4_29 dX4_ifIn_14 ?_
    refine sw_insR (by unfold ifn; first | rw [if_neg (by have := (nI_ltI hc2 hl2).mp h2; omega)] | rw [if_neg (by have := (nI_ltI hh2 hc2).mp h7; omega)] | rw [if_pos (by have a1 : ¬ c < lo := fun q => h2 ((nI_ltI hc2 hl2).mpr q); have a2 : ¬ hi < c := fun q => h7 ((nI_ltI hh2 hc2).mpr q); omega)]) ?_
    exact sw_areturn rfl (Or.inl ⟨_, rfl⟩) dX4_ifIn_17
  ·
    refine sw_iload_n (i := 0) dX4_ifIn_5 rfl rfl ?_
    refine sw_iload_n (i := 2) dX4_ifIn_6 rfl rfl ?_
    refine sw_ins (pc2 := 7) rfl rfl ?_
    refine sw_ic_gt (tgt := 14) dX4_ifIn_7 rfl (fun h7 => ?_) (fun h7 => ?_)
    ·
      refine sw_getE 12 (by decide) gs_X4_29 dX4_ifIn_14 ?_
      refine sw_insR (by unfold ifn; first | rw [if_neg (by have := (nI_ltI hc2 hl2).mp h2; omega)] | rw [if_neg (by have := (nI_ltI hh2 hc2).mp h7; omega)] | rw [if_pos (by have a1 : ¬ c < lo := fun q => h2 ((nI_ltI hc2 hl2).mpr q); have a2 : ¬ hi < c := fun q => h7 ((nI_ltI hh2 hc2).mpr q); omega)]) ?_
      exact sw_areturn rfl (Or.inl ⟨_, rfl⟩) dX4_ifIn_17
    ·
      refine sw_aload_n (i := 3) dX4_ifIn_10 rfl rfl ?_
      refine sw_goto (tgt := 17) dX4_ifIn_11 rfl ?_
      refine sw_insR (by unfold ifn; first | rw [if_neg (by have := (nI_ltI hc2 hl2).mp h2; omega)] | rw [if_neg (by have := (nI_ltI hh2 hc2).mp h7; omega)] | rw [if_pos (by have a1 : ¬ c < lo := fun q => h2 ((nI_ltI hc2 hl2).mpr q); have a2 : ¬ hi < c := fun q => h7 ((nI_ltI hh2 hc2).mpr q); omega)]) ?_
      exact sw_areturn rfl (Or.inl ⟨_, rfl⟩) dX4_ifIn_17
set_option maxRecDepth 100000 in
set_option maxHeartbeats 4000000 in
theorem A_X4_stepInto {d : Nat → Nat → Int32} {r : Nat → Nat → Option Nat} {J : Nat → Nat → Int64} {c : Nat} (hc : c ≤ 126) : OP kX4_stepInto yX4_stepInto 0 [.int (nI c)] d r J (some (.ref (1000 + into c))) d r J := by
  refine op_of pl_X4_stepInto (Nat.le_of_ble_eq_true rfl) ?_
  by_cases h107 : c = 107
  · subst h107
    refine sw_iload_n (i := 0) dX4_stepInto_0 rfl rfl ?_
    refine sw_lookup (off := 55) (tgt := 56) dX4_stepInto_1 (by decide) (by decide +kernel) (by decide) ?_
    refine sw_getE 10 (by decide) gs_X4_84 dX4_stepInto_56 ?_
    refine sw_insR (by rfl) ?_
    exact sw_areturn rfl (Or.inl ⟨_, rfl⟩) dX4_stepInto_59
  by_cases h112 : c = 112
  · subst h112
    refine sw_iload_n (i := 0) dX4_stepInto_0 rfl rfl ?_
    refine sw_lookup (off := 51) (tgt := 52) dX4_stepInto_1 (by decide) (by decide +kernel) (by decide) ?_
    refine sw_getE 3 (by decide) gs_X4_81 dX4_stepInto_52 ?_
    refine sw_insR (by rfl) ?_
    exact sw_areturn rfl (Or.inl ⟨_, rfl⟩) dX4_stepInto_55
  by_cases h115 : c = 115
  · subst h115
    refine sw_iload_n (i := 0) dX4_stepInto_0 rfl rfl ?_
    refine sw_lookup (off := 43) (tgt := 44) dX4_stepInto_1 (by decide) (by decide +kernel) (by decide) ?_
    refine sw_getE 11 (by decide) gs_X4_32 dX4_stepInto_44 ?_
    refine sw_insR (by rfl) ?_
    exact sw_areturn rfl (Or.inl ⟨_, rfl⟩) dX4_stepInto_47
  by_cases h120 : c = 120
  · subst h120
    refine sw_iload_n (i := 0) dX4_stepInto_0 rfl rfl ?_
    refine sw_lookup (off := 47) (tgt := 48) dX4_stepInto_1 (by decide) (by decide +kernel) (by decide) ?_
    refine sw_getE 1 (by decide) gs_X4_78 dX4_stepInto_48 ?_
    refine sw_insR (by rfl) ?_
    exact sw_areturn rfl (Or.inl ⟨_, rfl⟩) dX4_stepInto_51
  refine sw_iload_n (i := 0) dX4_stepInto_0 rfl rfl ?_
  have e : (nI c).toInt = (c : Int) := nI_toInt (by omega)
  refine sw_lookup (off := 59) (tgt := 60) dX4_stepInto_1 (by decide) (by rw [e]; simp only [Op.lookupswitch.offset]; rw [if_neg (by omega), if_neg (by omega), if_neg (by omega), if_neg (by omega)]) (by decide) ?_
  refine sw_getE 12 (by decide) gs_X4_29 dX4_stepInto_60 ?_
  refine sw_insR (by unfold into; rw [if_neg h107, if_neg h112, if_neg h115, if_neg h120]) ?_
  exact sw_areturn rfl (Or.inl ⟨_, rfl⟩) dX4_stepInto_63
set_option maxRecDepth 100000 in
set_option maxHeartbeats 4000000 in
theorem A_X4_stepBehind {d : Nat → Nat → Int32} {r : Nat → Nat → Option Nat} {J : Nat → Nat → Int64} {L s a : Nat} (hL : d 48 1 = nI L) (ok : okT (d 49) L) (hs : s < 13) (ha : a < 2 ^ 31) : OP kX4_stepBehind yX4_stepBehind 1 [.ref 48, .ref (1000 + s), .int (nI a)] d r J (some (.ref (1000 + stp s (sg (d 49) L a) (sgp (d 49) L a)))) d r J := by
  refine op_of pl_X4_stepBehind (Nat.le_of_ble_eq_true rfl) ?_
  have hc2 := sg_lt ok a
  have hp2 := sgp_lt ok a
  match s, hs with
  | 0, _ =>
    refine sw_aload_n (i := 0) dX4_stepBehind_0 rfl rfl ?_
    refine sw_iload_n (i := 2) dX4_stepBehind_1 rfl rfl ?_
    refine px_Vx mv_X4_35 (A_X4_signAt hL ok ha) rfl rfl (Nat.le_of_ble_eq_true rfl) (Nat.le_of_ble_eq_true rfl) ko_48 (Nat.le_of_ble_eq_true rfl) dX4_stepBehind_2 ?_
    refine sw_istore_n (i := 3) dX4_stepBehind_5 rfl (Nat.le_of_ble_eq_true rfl) rfl ?_
    refine sw_lo (lo2 := [some (.ref 48), some (.ref (1000 + 0)), some (.int _), some (.int _)]) rfl ?_
    refine sw_getM gs_X4_39 dX4_stepBehind_6 ?_
    refine sw_aload_n (i := 1) dX4_stepBehind_9 rfl rfl ?_
    refine sw_ord 0 (by decide) ml_Ord (Nat.le_of_ble_eq_true rfl) (Nat.le_of_ble_eq_true rfl) dX4_stepBehind_10 ?_
    refine sw_mapld 0 rfl (by decide) dX4_stepBehind_13 ?_
    refine sw_tabIn (off := 62) (tgt := 76) dX4_stepBehind_14 (by decide) (by decide) (by decide) (by decide) ?_
    refine sw_ins (pc2 := 76) rfl rfl ?_
    refine sw_iload_n (i := 3) dX4_stepBehind_76 rfl rfl ?_
    refine px_Sx ms_X4_49 (A_X4_stepInto hc2) rfl rfl (Nat.le_of_ble_eq_true rfl) (Nat.le_of_ble_eq_true rfl) (Nat.le_of_ble_eq_true rfl) dX4_stepBehind_77 ?_
    refine sw_insR (by rfl) ?_
    exact sw_areturn rfl (Or.inl ⟨_, rfl⟩) dX4_stepBehind_80
  | 1, _ =>
    refine sw_aload_n (i := 0) dX4_stepBehind_0 rfl rfl ?_
    refine sw_iload_n (i := 2) dX4_stepBehind_1 rfl rfl ?_
    refine px_Vx mv_X4_35 (A_X4_signAt hL ok ha) rfl rfl (Nat.le_of_ble_eq_true rfl) (Nat.le_of_ble_eq_true rfl) ko_48 (Nat.le_of_ble_eq_true rfl) dX4_stepBehind_2 ?_
    refine sw_istore_n (i := 3) dX4_stepBehind_5 rfl (Nat.le_of_ble_eq_true rfl) rfl ?_
    refine sw_lo (lo2 := [some (.ref 48), some (.ref (1000 + 1)), some (.int _), some (.int _)]) rfl ?_
    refine sw_getM gs_X4_39 dX4_stepBehind_6 ?_
    refine sw_aload_n (i := 1) dX4_stepBehind_9 rfl rfl ?_
    refine sw_ord 1 (by decide) ml_Ord (Nat.le_of_ble_eq_true rfl) (Nat.le_of_ble_eq_true rfl) dX4_stepBehind_10 ?_
    refine sw_mapld 1 rfl (by decide) dX4_stepBehind_13 ?_
    refine sw_tabIn (off := 67) (tgt := 81) dX4_stepBehind_14 (by decide) (by decide) (by decide) (by decide) ?_
    refine sw_ins (pc2 := 81) rfl rfl ?_
    refine sw_iload_n (i := 3) dX4_stepBehind_81 rfl rfl ?_
    refine sw_bi 48 dX4_stepBehind_82 (by decide +kernel) ?_
    refine sw_bi 55 dX4_stepBehind_84 (by decide +kernel) ?_
    refine sw_getE 2 (by decide) gs_X4_53 dX4_stepBehind_86 ?_
    refine px_Sx ms_X4_56 (A_X4_ifIn (by omega) (by decide) (by decide)) rfl rfl (Nat.le_of_ble_eq_true rfl) (Nat.le_of_ble_eq_true rfl) (Nat.le_of_ble_eq_true rfl) dX4_stepBehind_89 ?_
    refine sw_insR (by rfl) ?_
    exact sw_areturn rfl (Or.inl ⟨_, rfl⟩) dX4_stepBehind_92
  | 2, _ =>
    refine sw_aload_n (i := 0) dX4_stepBehind_0 rfl rfl ?_
    refine sw_iload_n (i := 2) dX4_stepBehind_1 rfl rfl ?_
    refine px_Vx mv_X4_35 (A_X4_signAt hL ok ha) rfl rfl (Nat.le_of_ble_eq_true rfl) (Nat.le_of_ble_eq_true rfl) ko_48 (Nat.le_of_ble_eq_true rfl) dX4_stepBehind_2 ?_
    refine sw_istore_n (i := 3) dX4_stepBehind_5 rfl (Nat.le_of_ble_eq_true rfl) rfl ?_
    refine sw_lo (lo2 := [some (.ref 48), some (.ref (1000 + 2)), some (.int _), some (.int _)]) rfl ?_
    refine sw_getM gs_X4_39 dX4_stepBehind_6 ?_
    refine sw_aload_n (i := 1) dX4_stepBehind_9 rfl rfl ?_
    refine sw_ord 2 (by decide) ml_Ord (Nat.le_of_ble_eq_true rfl) (Nat.le_of_ble_eq_true rfl) dX4_stepBehind_10 ?_
    refine sw_mapld 2 rfl (by decide) dX4_stepBehind_13 ?_
    refine sw_tabIn (off := 79) (tgt := 93) dX4_stepBehind_14 (by decide) (by decide) (by decide) (by decide) ?_
    refine sw_ins (pc2 := 93) rfl rfl ?_
    refine sw_iload_n (i := 3) dX4_stepBehind_93 rfl rfl ?_
    refine sw_bi 48 dX4_stepBehind_94 (by decide +kernel) ?_
    refine sw_bi 55 dX4_stepBehind_96 (by decide +kernel) ?_
    refine sw_getE 11 (by decide) gs_X4_32 dX4_stepBehind_98 ?_
    refine px_Sx ms_X4_56 (A_X4_ifIn (by omega) (by decide) (by decide)) rfl rfl (Nat.le_of_ble_eq_true rfl) (Nat.le_of_ble_eq_true rfl) (Nat.le_of_ble_eq_true rfl) dX4_stepBehind_101 ?_
    refine sw_insR (by rfl) ?_
    exact sw_areturn rfl (Or.inl ⟨_, rfl⟩) dX4_stepBehind_104
  | 3, _ =>
    refine sw_aload_n (i := 0) dX4_stepBehind_0 rfl rfl ?_
    refine sw_iload_n (i := 2) dX4_stepBehind_1 rfl rfl ?_
    refine px_Vx mv_X4_35 (A_X4_signAt hL ok ha) rfl rfl (Nat.le_of_ble_eq_true rfl) (Nat.le_of_ble_eq_true rfl) ko_48 (Nat.le_of_ble_eq_true rfl) dX4_stepBehind_2 ?_
    refine sw_istore_n (i := 3) dX4_stepBehind_5 rfl (Nat.le_of_ble_eq_true rfl) rfl ?_
    refine sw_lo (lo2 := [some (.ref 48), some (.ref (1000 + 3)), some (.int _), some (.int _)]) rfl ?_
    refine sw_getM gs_X4_39 dX4_stepBehind_6 ?_
    refine sw_aload_n (i := 1) dX4_stepBehind_9 rfl rfl ?_
    refine sw_ord 3 (by decide) ml_Ord (Nat.le_of_ble_eq_true rfl) (Nat.le_of_ble_eq_true rfl) dX4_stepBehind_10 ?_
    refine sw_mapld 3 rfl (by decide) dX4_stepBehind_13 ?_
    refine sw_tabIn (off := 91) (tgt := 105) dX4_stepBehind_14 (by decide) (by decide) (by decide) (by decide) ?_
    refine sw_ins (pc2 := 105) rfl rfl ?_
    refine sw_iload_n (i := 3) dX4_stepBehind_105 rfl rfl ?_
    refine sw_bi 48 dX4_stepBehind_106 (by decide +kernel) ?_
    refine sw_bi 55 dX4_stepBehind_108 (by decide +kernel) ?_
    refine sw_getE 4 (by decide) gs_X4_60 dX4_stepBehind_110 ?_
    refine px_Sx ms_X4_56 (A_X4_ifIn (by omega) (by decide) (by decide)) rfl rfl (Nat.le_of_ble_eq_true rfl) (Nat.le_of_ble_eq_true rfl) (Nat.le_of_ble_eq_true rfl) dX4_stepBehind_113 ?_
    refine sw_insR (by rfl) ?_
    exact sw_areturn rfl (Or.inl ⟨_, rfl⟩) dX4_stepBehind_116
  | 4, _ =>
    refine sw_aload_n (i := 0) dX4_stepBehind_0 rfl rfl ?_
    refine sw_iload_n (i := 2) dX4_stepBehind_1 rfl rfl ?_
    refine px_Vx mv_X4_35 (A_X4_signAt hL ok ha) rfl rfl (Nat.le_of_ble_eq_true rfl) (Nat.le_of_ble_eq_true rfl) ko_48 (Nat.le_of_ble_eq_true rfl) dX4_stepBehind_2 ?_
    refine sw_istore_n (i := 3) dX4_stepBehind_5 rfl (Nat.le_of_ble_eq_true rfl) rfl ?_
    refine sw_lo (lo2 := [some (.ref 48), some (.ref (1000 + 4)), some (.int _), some (.int _)]) rfl ?_
    refine sw_getM gs_X4_39 dX4_stepBehind_6 ?_
    refine sw_aload_n (i := 1) dX4_stepBehind_9 rfl rfl ?_
    refine sw_ord 4 (by decide) ml_Ord (Nat.le_of_ble_eq_true rfl) (Nat.le_of_ble_eq_true rfl) dX4_stepBehind_10 ?_
    refine sw_mapld 4 rfl (by decide) dX4_stepBehind_13 ?_
    refine sw_tabIn (off := 103) (tgt := 117) dX4_stepBehind_14 (by decide) (by decide) (by decide) (by decide) ?_
    refine sw_ins (pc2 := 117) rfl rfl ?_
    refine sw_iload_n (i := 3) dX4_stepBehind_117 rfl rfl ?_
    refine sw_aload_n (i := 0) dX4_stepBehind_118 rfl rfl ?_
    refine sw_iload_n (i := 2) dX4_stepBehind_119 rfl rfl ?_
    refine sw_ic 1 dX4_stepBehind_120 ?_
    refine sw_isub dX4_stepBehind_121 ?_
    refine sw_topE (v := pr a) (pr_sub a) ?_
    refine px_Vx mv_X4_35 (A2_X4_signAt hL ok ha) rfl rfl (Nat.le_of_ble_eq_true rfl) (Nat.le_of_ble_eq_true rfl) ko_48 (Nat.le_of_ble_eq_true rfl) dX4_stepBehind_122 ?_
    refine sw_ic_ne (tgt := 134) dX4_stepBehind_125 rfl (fun h125 => ?_) (fun h125 => ?_)
    ·
      refine sw_iload_n (i := 3) dX4_stepBehind_134 rfl rfl ?_
      refine sw_ins (pc2 := 135) rfl rfl ?_
      refine sw_bi 48 dX4_stepBehind_135 (by decide +kernel) ?_
      refine sw_bi 55 dX4_stepBehind_137 (by decide +kernel) ?_
      refine sw_getE 5 (by decide) gs_X4_63 dX4_stepBehind_139 ?_
      refine px_Sx ms_X4_56 (A_X4_ifIn (by omega) (by decide) (by decide)) rfl rfl (Nat.le_of_ble_eq_true rfl) (Nat.le_of_ble_eq_true rfl) (Nat.le_of_ble_eq_true rfl) dX4_stepBehind_142 ?_
      refine sw_insR (by show (if sg (d 49) L a = sgp (d 49) L a then 12 else ifn (sg (d 49) L a) 48 55 5) = _; first | rw [if_pos ((nI_eq (by omega) (by omega)).mp h125)] | rw [if_neg (fun q => h125 (by rw [q]))]) ?_
      exact sw_areturn rfl (Or.inl ⟨_, rfl⟩) dX4_stepBehind_145
    ·
      refine sw_getE 12 (by decide) gs_X4_29 dX4_stepBehind_128 ?_
      refine sw_goto (tgt := 145) dX4_stepBehind_131 rfl ?_
      refine sw_insR (by show (if sg (d 49) L a = sgp (d 49) L a then 12 else ifn (sg (d 49) L a) 48 55 5) = _; first | rw [if_pos ((nI_eq (by omega) (by omega)).mp h125)] | rw [if_neg (fun q => h125 (by rw [q]))]) ?_
      exact sw_areturn rfl (Or.inl ⟨_, rfl⟩) dX4_stepBehind_145
  | 5, _ =>
    refine sw_aload_n (i := 0) dX4_stepBehind_0 rfl rfl ?_
    refine sw_iload_n (i := 2) dX4_stepBehind_1 rfl rfl ?_
    refine px_Vx mv_X4_35 (A_X4_signAt hL ok ha) rfl rfl (Nat.le_of_ble_eq_true rfl) (Nat.le_of_ble_eq_true rfl) ko_48 (Nat.le_of_ble_eq_true rfl) dX4_stepBehind_2 ?_
    refine sw_istore_n (i := 3) dX4_stepBehind_5 rfl (Nat.le_of_ble_eq_true rfl) rfl ?_
    refine sw_lo (lo2 := [some (.ref 48), some (.ref (1000 + 5)), some (.int _), some (.int _)]) rfl ?_
    refine sw_getM gs_X4_39 dX4_stepBehind_6 ?_
    refine sw_aload_n (i := 1) dX4_stepBehind_9 rfl rfl ?_
    refine sw_ord 5 (by decide) ml_Ord (Nat.le_of_ble_eq_true rfl) (Nat.le_of_ble_eq_true rfl) dX4_stepBehind_10 ?_
    refine sw_mapld 5 rfl (by decide) dX4_stepBehind_13 ?_
    refine sw_tabIn (off := 132) (tgt := 146) dX4_stepBehind_14 (by decide) (by decide) (by decide) (by decide) ?_
    refine sw_ins (pc2 := 146) rfl rfl ?_
    refine sw_iload_n (i := 3) dX4_stepBehind_146 rfl rfl ?_
    refine sw_bi 61 dX4_stepBehind_147 (by decide +kernel) ?_
    refine sw_bi 61 dX4_stepBehind_149 (by decide +kernel) ?_
    refine sw_getE 6 (by decide) gs_X4_66 dX4_stepBehind_151 ?_
    refine px_Sx ms_X4_56 (A_X4_ifIn (by omega) (by decide) (by decide)) rfl rfl (Nat.le_of_ble_eq_true rfl) (Nat.le_of_ble_eq_true rfl) (Nat.le_of_ble_eq_true rfl) dX4_stepBehind_154 ?_
    refine sw_insR (by rfl) ?_
    exact sw_areturn rfl (Or.inl ⟨_, rfl⟩) dX4_stepBehind_157
  | 6, _ =>
    refine sw_aload_n (i := 0) dX4_stepBehind_0 rfl rfl ?_
    refine sw_iload_n (i := 2) dX4_stepBehind_1 rfl rfl ?_
    refine px_Vx mv_X4_35 (A_X4_signAt hL ok ha) rfl rfl (Nat.le_of_ble_eq_true rfl) (Nat.le_of_ble_eq_true rfl) ko_48 (Nat.le_of_ble_eq_true rfl) dX4_stepBehind_2 ?_
    refine sw_istore_n (i := 3) dX4_stepBehind_5 rfl (Nat.le_of_ble_eq_true rfl) rfl ?_
    refine sw_lo (lo2 := [some (.ref 48), some (.ref (1000 + 6)), some (.int _), some (.int _)]) rfl ?_
    refine sw_getM gs_X4_39 dX4_stepBehind_6 ?_
    refine sw_aload_n (i := 1) dX4_stepBehind_9 rfl rfl ?_
    refine sw_ord 6 (by decide) ml_Ord (Nat.le_of_ble_eq_true rfl) (Nat.le_of_ble_eq_true rfl) dX4_stepBehind_10 ?_
    refine sw_mapld 6 rfl (by decide) dX4_stepBehind_13 ?_
    refine sw_tabIn (off := 144) (tgt := 158) dX4_stepBehind_14 (by decide) (by decide) (by decide) (by decide) ?_
    refine sw_ins (pc2 := 158) rfl rfl ?_
    refine sw_iload_n (i := 3) dX4_stepBehind_158 rfl rfl ?_
    refine sw_bi 49 dX4_stepBehind_159 (by decide +kernel) ?_
    refine sw_bi 57 dX4_stepBehind_161 (by decide +kernel) ?_
    refine sw_getE 7 (by decide) gs_X4_69 dX4_stepBehind_163 ?_
    refine px_Sx ms_X4_56 (A_X4_ifIn (by omega) (by decide) (by decide)) rfl rfl (Nat.le_of_ble_eq_true rfl) (Nat.le_of_ble_eq_true rfl) (Nat.le_of_ble_eq_true rfl) dX4_stepBehind_166 ?_
    refine sw_insR (by rfl) ?_
    exact sw_areturn rfl (Or.inl ⟨_, rfl⟩) dX4_stepBehind_169
  | 7, _ =>
    refine sw_aload_n (i := 0) dX4_stepBehind_0 rfl rfl ?_
    refine sw_iload_n (i := 2) dX4_stepBehind_1 rfl rfl ?_
    refine px_Vx mv_X4_35 (A_X4_signAt hL ok ha) rfl rfl (Nat.le_of_ble_eq_true rfl) (Nat.le_of_ble_eq_true rfl) ko_48 (Nat.le_of_ble_eq_true rfl) dX4_stepBehind_2 ?_
    refine sw_istore_n (i := 3) dX4_stepBehind_5 rfl (Nat.le_of_ble_eq_true rfl) rfl ?_
    refine sw_lo (lo2 := [some (.ref 48), some (.ref (1000 + 7)), some (.int _), some (.int _)]) rfl ?_
    refine sw_getM gs_X4_39 dX4_stepBehind_6 ?_
    refine sw_aload_n (i := 1) dX4_stepBehind_9 rfl rfl ?_
    refine sw_ord 7 (by decide) ml_Ord (Nat.le_of_ble_eq_true rfl) (Nat.le_of_ble_eq_true rfl) dX4_stepBehind_10 ?_
    refine sw_mapld 7 rfl (by decide) dX4_stepBehind_13 ?_
    refine sw_tabIn (off := 156) (tgt := 170) dX4_stepBehind_14 (by decide) (by decide) (by decide) (by decide) ?_
    refine sw_ins (pc2 := 170) rfl rfl ?_
    refine sw_iload_n (i := 3) dX4_stepBehind_170 rfl rfl ?_
    refine sw_bi 47 dX4_stepBehind_171 (by decide +kernel) ?_
    refine sw_ic_ne (tgt := 182) dX4_stepBehind_173 rfl (fun h173 => ?_) (fun h173 => ?_)
    ·
      refine sw_iload_n (i := 3) dX4_stepBehind_182 rfl rfl ?_
      refine sw_bi 48 dX4_stepBehind_183 (by decide +kernel) ?_
      refine sw_bi 57 dX4_stepBehind_185 (by decide +kernel) ?_
      refine sw_getE 8 (by decide) gs_X4_75 dX4_stepBehind_187 ?_
      refine px_Sx ms_X4_56 (A_X4_ifIn (by omega) (by decide) (by decide)) rfl rfl (Nat.le_of_ble_eq_true rfl) (Nat.le_of_ble_eq_true rfl) (Nat.le_of_ble_eq_true rfl) dX4_stepBehind_190 ?_
      refine sw_ins (pc2 := 193) rfl rfl ?_
      refine sw_insR (by show (if sg (d 49) L a = 47 then 9 else ifn (sg (d 49) L a) 48 57 8) = _; first | rw [if_pos ((nI_eq (by omega) (by decide)).mp h173)] | rw [if_neg (fun q => h173 (by rw [q]))]) ?_
      exact sw_areturn rfl (Or.inl ⟨_, rfl⟩) dX4_stepBehind_193
    ·
      refine sw_getE 9 (by decide) gs_X4_72 dX4_stepBehind_176 ?_
      refine sw_goto (tgt := 193) dX4_stepBehind_179 rfl ?_
      refine sw_insR (by show (if sg (d 49) L a = 47 then 9 else ifn (sg (d 49) L a) 48 57 8) = _; first | rw [if_pos ((nI_eq (by omega) (by decide)).mp h173)] | rw [if_neg (fun q => h173 (by rw [q]))]) ?_
      exact sw_areturn rfl (Or.inl ⟨_, rfl⟩) dX4_stepBehind_193
  | 8, _ =>
    refine sw_aload_n (i := 0) dX4_stepBehind_0 rfl rfl ?_
    refine sw_iload_n (i := 2) dX4_stepBehind_1 rfl rfl ?_
    refine px_Vx mv_X4_35 (A_X4_signAt hL ok ha) rfl rfl (Nat.le_of_ble_eq_true rfl) (Nat.le_of_ble_eq_true rfl) ko_48 (Nat.le_of_ble_eq_true rfl) dX4_stepBehind_2 ?_
    refine sw_istore_n (i := 3) dX4_stepBehind_5 rfl (Nat.le_of_ble_eq_true rfl) rfl ?_
    refine sw_lo (lo2 := [some (.ref 48), some (.ref (1000 + 8)), some (.int _), some (.int _)]) rfl ?_
    refine sw_getM gs_X4_39 dX4_stepBehind_6 ?_
    refine sw_aload_n (i := 1) dX4_stepBehind_9 rfl rfl ?_
    refine sw_ord 8 (by decide) ml_Ord (Nat.le_of_ble_eq_true rfl) (Nat.le_of_ble_eq_true rfl) dX4_stepBehind_10 ?_
    refine sw_mapld 8 rfl (by decide) dX4_stepBehind_13 ?_
    refine sw_tabIn (off := 180) (tgt := 194) dX4_stepBehind_14 (by decide) (by decide) (by decide) (by decide) ?_
    refine sw_ins (pc2 := 194) rfl rfl ?_
    refine sw_iload_n (i := 3) dX4_stepBehind_194 rfl rfl ?_
    refine sw_bi 47 dX4_stepBehind_195 (by decide +kernel) ?_
    refine sw_bi 47 dX4_stepBehind_197 (by decide +kernel) ?_
    refine sw_getE 9 (by decide) gs_X4_72 dX4_stepBehind_199 ?_
    refine px_Sx ms_X4_56 (A_X4_ifIn (by omega) (by decide) (by decide)) rfl rfl (Nat.le_of_ble_eq_true rfl) (Nat.le_of_ble_eq_true rfl) (Nat.le_of_ble_eq_true rfl) dX4_stepBehind_202 ?_
    refine sw_insR (by rfl) ?_
    exact sw_areturn rfl (Or.inl ⟨_, rfl⟩) dX4_stepBehind_205
  | 9, _ =>
    refine sw_aload_n (i := 0) dX4_stepBehind_0 rfl rfl ?_
    refine sw_iload_n (i := 2) dX4_stepBehind_1 rfl rfl ?_
    refine px_Vx mv_X4_35 (A_X4_signAt hL ok ha) rfl rfl (Nat.le_of_ble_eq_true rfl) (Nat.le_of_ble_eq_true rfl) ko_48 (Nat.le_of_ble_eq_true rfl) dX4_stepBehind_2 ?_
    refine sw_istore_n (i := 3) dX4_stepBehind_5 rfl (Nat.le_of_ble_eq_true rfl) rfl ?_
    refine sw_lo (lo2 := [some (.ref 48), some (.ref (1000 + 9)), some (.int _), some (.int _)]) rfl ?_
    refine sw_getM gs_X4_39 dX4_stepBehind_6 ?_
    refine sw_aload_n (i := 1) dX4_stepBehind_9 rfl rfl ?_
    refine sw_ord 9 (by decide) ml_Ord (Nat.le_of_ble_eq_true rfl) (Nat.le_of_ble_eq_true rfl) dX4_stepBehind_10 ?_
    refine sw_mapld 9 rfl (by decide) dX4_stepBehind_13 ?_
    refine sw_tabIn (off := 192) (tgt := 206) dX4_stepBehind_14 (by decide) (by decide) (by decide) (by decide) ?_
    refine sw_ins (pc2 := 206) rfl rfl ?_
    refine sw_iload_n (i := 3) dX4_stepBehind_206 rfl rfl ?_
    refine sw_bi 48 dX4_stepBehind_207 (by decide +kernel) ?_
    refine sw_bi 57 dX4_stepBehind_209 (by decide +kernel) ?_
    refine sw_getE 11 (by decide) gs_X4_32 dX4_stepBehind_211 ?_
    refine px_Sx ms_X4_56 (A_X4_ifIn (by omega) (by decide) (by decide)) rfl rfl (Nat.le_of_ble_eq_true rfl) (Nat.le_of_ble_eq_true rfl) (Nat.le_of_ble_eq_true rfl) dX4_stepBehind_214 ?_
    refine sw_insR (by rfl) ?_
    exact sw_areturn rfl (Or.inl ⟨_, rfl⟩) dX4_stepBehind_217
  | 10, _ =>
    refine sw_aload_n (i := 0) dX4_stepBehind_0 rfl rfl ?_
    refine sw_iload_n (i := 2) dX4_stepBehind_1 rfl rfl ?_
    refine px_Vx mv_X4_35 (A_X4_signAt hL ok ha) rfl rfl (Nat.le_of_ble_eq_true rfl) (Nat.le_of_ble_eq_true rfl) ko_48 (Nat.le_of_ble_eq_true rfl) dX4_stepBehind_2 ?_
    refine sw_istore_n (i := 3) dX4_stepBehind_5 rfl (Nat.le_of_ble_eq_true rfl) rfl ?_
    refine sw_lo (lo2 := [some (.ref 48), some (.ref (1000 + 10)), some (.int _), some (.int _)]) rfl ?_
    refine sw_getM gs_X4_39 dX4_stepBehind_6 ?_
    refine sw_aload_n (i := 1) dX4_stepBehind_9 rfl rfl ?_
    refine sw_ord 10 (by decide) ml_Ord (Nat.le_of_ble_eq_true rfl) (Nat.le_of_ble_eq_true rfl) dX4_stepBehind_10 ?_
    refine sw_mapld 10 rfl (by decide) dX4_stepBehind_13 ?_
    refine sw_tabIn (off := 79) (tgt := 93) dX4_stepBehind_14 (by decide) (by decide) (by decide) (by decide) ?_
    refine sw_ins (pc2 := 93) rfl rfl ?_
    refine sw_iload_n (i := 3) dX4_stepBehind_93 rfl rfl ?_
    refine sw_bi 48 dX4_stepBehind_94 (by decide +kernel) ?_
    refine sw_bi 55 dX4_stepBehind_96 (by decide +kernel) ?_
    refine sw_getE 11 (by decide) gs_X4_32 dX4_stepBehind_98 ?_
    refine px_Sx ms_X4_56 (A_X4_ifIn (by omega) (by decide) (by decide)) rfl rfl (Nat.le_of_ble_eq_true rfl) (Nat.le_of_ble_eq_true rfl) (Nat.le_of_ble_eq_true rfl) dX4_stepBehind_101 ?_
    refine sw_insR (by rfl) ?_
    exact sw_areturn rfl (Or.inl ⟨_, rfl⟩) dX4_stepBehind_104
  | 11, _ =>
    refine sw_aload_n (i := 0) dX4_stepBehind_0 rfl rfl ?_
    refine sw_iload_n (i := 2) dX4_stepBehind_1 rfl rfl ?_
    refine px_Vx mv_X4_35 (A_X4_signAt hL ok ha) rfl rfl (Nat.le_of_ble_eq_true rfl) (Nat.le_of_ble_eq_true rfl) ko_48 (Nat.le_of_ble_eq_true rfl) dX4_stepBehind_2 ?_
    refine sw_istore_n (i := 3) dX4_stepBehind_5 rfl (Nat.le_of_ble_eq_true rfl) rfl ?_
    refine sw_lo (lo2 := [some (.ref 48), some (.ref (1000 + 11)), some (.int _), some (.int _)]) rfl ?_
    refine sw_getM gs_X4_39 dX4_stepBehind_6 ?_
    refine sw_aload_n (i := 1) dX4_stepBehind_9 rfl rfl ?_
    refine sw_ord 11 (by decide) ml_Ord (Nat.le_of_ble_eq_true rfl) (Nat.le_of_ble_eq_true rfl) dX4_stepBehind_10 ?_
    refine sw_mapld 11 rfl (by decide) dX4_stepBehind_13 ?_
    refine sw_tabIn (off := 204) (tgt := 218) dX4_stepBehind_14 (by decide) (by decide) (by decide) (by decide) ?_
    refine sw_ins (pc2 := 218) rfl rfl ?_
    refine sw_iload_n (i := 3) dX4_stepBehind_218 rfl rfl ?_
    refine sw_bi 59 dX4_stepBehind_219 (by decide +kernel) ?_
    refine sw_bi 59 dX4_stepBehind_221 (by decide +kernel) ?_
    refine sw_getE 0 (by decide) gs_X4_19 dX4_stepBehind_223 ?_
    refine px_Sx ms_X4_56 (A_X4_ifIn (by omega) (by decide) (by decide)) rfl rfl (Nat.le_of_ble_eq_true rfl) (Nat.le_of_ble_eq_true rfl) (Nat.le_of_ble_eq_true rfl) dX4_stepBehind_226 ?_
    refine sw_insR (by rfl) ?_
    exact sw_areturn rfl (Or.inl ⟨_, rfl⟩) dX4_stepBehind_229
  | 12, _ =>
    refine sw_aload_n (i := 0) dX4_stepBehind_0 rfl rfl ?_
    refine sw_iload_n (i := 2) dX4_stepBehind_1 rfl rfl ?_
    refine px_Vx mv_X4_35 (A_X4_signAt hL ok ha) rfl rfl (Nat.le_of_ble_eq_true rfl) (Nat.le_of_ble_eq_true rfl) ko_48 (Nat.le_of_ble_eq_true rfl) dX4_stepBehind_2 ?_
    refine sw_istore_n (i := 3) dX4_stepBehind_5 rfl (Nat.le_of_ble_eq_true rfl) rfl ?_
    refine sw_lo (lo2 := [some (.ref 48), some (.ref (1000 + 12)), some (.int _), some (.int _)]) rfl ?_
    refine sw_getM gs_X4_39 dX4_stepBehind_6 ?_
    refine sw_aload_n (i := 1) dX4_stepBehind_9 rfl rfl ?_
    refine sw_ord 12 (by decide) ml_Ord (Nat.le_of_ble_eq_true rfl) (Nat.le_of_ble_eq_true rfl) dX4_stepBehind_10 ?_
    refine sw_mapld 12 rfl (by decide) dX4_stepBehind_13 ?_
    refine sw_tabOut (tgt := 230) dX4_stepBehind_14 (by decide) (by decide) ?_
    refine sw_getE 12 (by decide) gs_X4_29 dX4_stepBehind_230 ?_
    refine sw_insR (by rfl) ?_
    exact sw_areturn rfl (Or.inl ⟨_, rfl⟩) dX4_stepBehind_233
  | s + 13, h => exact absurd h (by omega)
