/-! THE LAW'S WALK (own work, written by wip/tools) -/
section LAWS
theorem lg_same (x : Int64) : lg_cmp x x = 0 := by
  unfold lg_cmp
  simp
theorem cmp_self {x : UInt64} (h : f64 x) (op : CmpOp) : Op.cmpValue (FP.dcmp x x) op = 0 := by
  obtain ⟨s, c, q, h⟩ := h
  have e : FP.dcmp x x = some .eq := by
    show FP.Core.order (FP.Core.decode FP.Core.b64 x.toNat) (FP.Core.decode FP.Core.b64 x.toNat) = _
    rw [h]
    show some (compare (FP.Core.signed s (FP.Core.inUnits c q (min q q))) (FP.Core.signed s (FP.Core.inUnits c q (min q q)))) = _
    congr 1
    exact Std.ReflCmp.compare_self
  rw [e]
  cases op <;> rfl
theorem and31 (x : Int32) : ∃ w, w < 32 ∧ x &&& nI 31 = nI w := by
  refine ⟨x.toBitVec.toNat % 32, Nat.mod_lt _ (by decide), ?_⟩
  apply Int32.toBitVec_inj.mp
  rw [Int32.toBitVec_and]
  apply BitVec.eq_of_toNat_eq
  rw [BitVec.toNat_and]
  have e1 : (nI 31).toBitVec.toNat = 2 ^ 5 - 1 := by decide
  have e2 : (nI (x.toBitVec.toNat % 32)).toBitVec.toNat = x.toBitVec.toNat % 32 := by
    show (BitVec.ofNat 32 (x.toBitVec.toNat % 32)).toNat = _
    rw [BitVec.toNat_ofNat]
    omega
  rw [e1, e2, Nat.and_two_pow_sub_one_eq_mod]
theorem LI_s {c : Nat} {d : Nat → Nat → Int32} {r : Nat → Nat → Option Nat} (g : LI c d r) : LI (c + 1) d r := by
  obtain ⟨V, n, H, S, t, T, tl, h1, h2, h3, h4⟩ := g
  exact ⟨V, n, H, S, t, T, tl, h1, h2, h3, DI_same h4 (by omega)⟩
variable {y : MethodName} {cc : ByteArray} {nL : Nat} {ret : Option FieldType} {xt : List (Nat × Nat × Nat × Nat)} {lv : Nat} {sc : Option (Nat × (Nat → Int32))} {pc : Nat} {lo : List (Option Value)} {st : List Value} {k n : Nat} {o : Option Value ⊕ String} {N' : Nat} {aw' : Nat → am_E} {d : Nat → Nat → Int32} {r : Nat → Nat → Option Nat} {J : Nat → Nat → Int64}
variable {idx q ci na nL2 lv2 : Nat} {y2 : MethodName} {cc2 : ByteArray} {ret2 : Option FieldType} {As st0 : List Value} {x : Value} {E : String} {d1 : Nat → Nat → Int32} {r1 : Nat → Nat → Option Nat} {J1 : Nat → Nat → Int64}
theorem sw_less {N : Nat} {aw : Nat → am_E} {k2 n2 : Nat} (hk : k2 ≤ k) (hn : n2 ≤ n) (k9 : SW y cc nL ret xt lv sc pc lo st N aw k2 n2 o N' aw') : SW y cc nL ret xt lv sc pc lo st N aw k n o N' aw' := by
  intro p l e R s m args below meth c H locs cells slots kf nf D A al0 al ws ls st' F h1 h2 h3 h4 h5 h6 h7 h8 h9 h10 h11
  exact k9 p l e R s m args below meth c H locs cells slots kf nf D A al0 al ws ls st' F (by omega) (by omega) h3 h4 h5 h6 h7 h8 h9 h10 h11
theorem px_Wx {f9 : Nat} {xt2 : List (Nat × Nat × Nat × Nat)} (G : am_LS y.cls idx (.codeWith y2 cc2 nL2 ret2 xt2) y2 na) (hAC : WP (.codeWith y2 cc2 nL2 ret2 xt2) y2 lv2 As d r J (some x) d1 r1 J1) (hs : st0 = As.reverse ++ st) (hlen : As.length = na) (hlv2 : lv2 < lv) (hnL2 : nL2 ≤ 11) (hst9 : (st.map fun v => v.category).sum ≤ 8) (dd : decode cc pc = .ok (.invokestatic idx, 3))
    (k9 : SW y cc nL ret xt lv sc (pc + 3) (lo) (x :: st) 75 (W0 (d1) (r1) (J1)) f9 (6 * f9) o N' aw') : SW y cc nL ret xt lv sc (pc) (lo) (st0) 75 (W0 (d) (r) (J)) (f9 + 1) (6 * (f9 + 1)) o N' aw' :=
  sw_callWx (k2 := f9) (n2 := 6 * f9) G hAC hs hlen hlv2 hnL2 hst9 (by omega) (by omega) dd k9
end LAWS
section LAWB
set_option maxRecDepth 100000 in
set_option maxHeartbeats 4000000 in
theorem K_0 {xt : List (Nat × Nat × Nat × Nat)} {L : Nat} {xs : Nat → Int32} {c f : Nat} {d : Nat → Nat → Int32} {r : Nat → Nat → Option Nat} {J : Nat → Nat → Int64} (hL : L ≤ 3584) (h7 : 7 * c + 7 ≤ L) (g : LI c d r) (hx : ∀ (d : Nat → Nat → Int32) (r : Nat → Nat → Option Nat) (J : Nat → Nat → Int64), LI (c + 1) d r → ∃ d1 r1 J1, SW yL_law cL_law 9 (some .boolean) xt 12 (some (L, xs)) 23 [some (.ref 1100), some (.ref 0), some (.ref 65), some (.ref 74), some (.int (nI (7 * (c + 1)))), none, none, none, none] [] 75 (W0 d r J) f (6 * f) (.inl (some (.int (nI 1)))) 75 (W0 d1 r1 J1)) : ∃ d1 r1 J1, SW yL_law cL_law 9 (some .boolean) xt 12 (some (L, xs)) 40 [some (.ref 1100), some (.ref 0), some (.ref 65), some (.ref 74), some (.int (nI (7 * c))), none, none, none, none] [.int (nI 0)] 75 (W0 d r J) (f + 1) (6 * (f + 1)) (.inl (some (.int (nI 1)))) 75 (W0 d1 r1 J1) := by
  obtain ⟨kk, b, d1, r1, J1, e1, hk, hw, hm, ht, hb, g2⟩ := G_storm (J := J)  g (by omega)
  obtain ⟨d9, r9, J9, y9⟩ := hx e1 r1 J1 g2
  have hth := A_X7_thrown (d := e1) (r := r1) (J := J1) ht
  refine ⟨d9, r9, J9, ?_⟩
  by_cases kz : kk = 0
  ·
    refine sw_tabIn (off := 120) (tgt := 160) dL_law_40 (by decide) (by decide) (by decide) (by decide) ?_
    refine sw_aload_n (i := 1) dL_law_160 rfl rfl ?_
    refine sw_aload_n (i := 3) dL_law_161 rfl rfl ?_
    refine px_Wx ms_L_88 hw rfl rfl (by decide) (Nat.le_of_ble_eq_true rfl) (Nat.le_of_ble_eq_true rfl) dL_law_162 ?_
    refine sw_istore (i := 5) dL_law_165 (Nat.le_of_ble_eq_true rfl) rfl ?_
    refine sw_lo (lo2 := [some (.ref 1100), some (.ref 0), some (.ref 65), some (.ref 74), some (.int _), some (.int _), none, none, none]) rfl ?_
    refine sw_aload_n (i := 2) dL_law_167 rfl rfl ?_
    refine px_Vx mv_L_93 hm rfl rfl (Nat.le_of_ble_eq_true rfl) (Nat.le_of_ble_eq_true rfl) ko_65 (Nat.le_of_ble_eq_true rfl) dL_law_168 ?_
    refine sw_ins (pc2 := 171) rfl rfl ?_
    refine sw_istore (i := 6) dL_law_171 (Nat.le_of_ble_eq_true rfl) rfl ?_
    refine sw_lo (lo2 := [some (.ref 1100), some (.ref 0), some (.ref 65), some (.ref 74), some (.int _), some (.int _), some (.int _), none, none]) rfl ?_
    refine sw_aload_n (i := 2) dL_law_173 rfl rfl ?_
    refine px_Vx mv_L_94 hth rfl rfl (Nat.le_of_ble_eq_true rfl) (Nat.le_of_ble_eq_true rfl) ko_65 (Nat.le_of_ble_eq_true rfl) dL_law_174 ?_
    refine sw_iload (i := 5) dL_law_177 rfl ?_
    refine sw_ic_eq (tgt := 184) dL_law_179 rfl (fun _ => ?_) (fun h9 => absurd rfl h9)
    refine sw_iload (i := 5) dL_law_184 rfl ?_
    refine sw_if_ne (tgt := 201) dL_law_186 rfl (fun h9 => absurd (by rw [kz]; rfl) h9) (fun _ => ?_)
    refine sw_aload_n (i := 3) dL_law_189 rfl rfl ?_
    refine sw_ins (pc2 := 190) rfl rfl ?_
    refine sw_ic 0 dL_law_190 ?_
    refine sx_lald (0) rfl rfl (by omega) dL_law_191 ?_
    rw [hb kz]
    refine sw_iload (i := 6) dL_law_192 rfl ?_
    refine sw_i2l dL_law_194 ?_
    refine sw_lcmp dL_law_195 ?_
    rw [lg_same]
    refine sw_if_eq (tgt := 201) dL_law_196 rfl (fun _ => ?_) (fun h9 => absurd (by decide) h9)
    refine sw_goto (tgt := 1612) dL_law_201 rfl ?_
    refine sw_iinc (i := 4) (v := nI (7 * (c + 1))) dL_law_1612 rfl (by show nI (7 * c) + nI 7 = _; exact nI_add _ _) (Nat.le_of_ble_eq_true rfl) rfl ?_
    refine sw_lo (lo2 := [some (.ref 1100), some (.ref 0), some (.ref 65), some (.ref 74), some (.int _), some (.int _), some (.int _), none, none]) rfl ?_
    refine sw_ins (pc2 := 1615) rfl rfl ?_
    refine sw_goto (tgt := 23) dL_law_1615 rfl ?_
    refine sw_sub ?_ y9
    exact ⟨rfl, rfl, rfl, rfl, rfl, trivial⟩
  ·
    refine sw_tabIn (off := 120) (tgt := 160) dL_law_40 (by decide) (by decide) (by decide) (by decide) ?_
    refine sw_aload_n (i := 1) dL_law_160 rfl rfl ?_
    refine sw_aload_n (i := 3) dL_law_161 rfl rfl ?_
    refine px_Wx ms_L_88 hw rfl rfl (by decide) (Nat.le_of_ble_eq_true rfl) (Nat.le_of_ble_eq_true rfl) dL_law_162 ?_
    refine sw_istore (i := 5) dL_law_165 (Nat.le_of_ble_eq_true rfl) rfl ?_
    refine sw_lo (lo2 := [some (.ref 1100), some (.ref 0), some (.ref 65), some (.ref 74), some (.int _), some (.int _), none, none, none]) rfl ?_
    refine sw_aload_n (i := 2) dL_law_167 rfl rfl ?_
    refine px_Vx mv_L_93 hm rfl rfl (Nat.le_of_ble_eq_true rfl) (Nat.le_of_ble_eq_true rfl) ko_65 (Nat.le_of_ble_eq_true rfl) dL_law_168 ?_
    refine sw_ins (pc2 := 171) rfl rfl ?_
    refine sw_istore (i := 6) dL_law_171 (Nat.le_of_ble_eq_true rfl) rfl ?_
    refine sw_lo (lo2 := [some (.ref 1100), some (.ref 0), some (.ref 65), some (.ref 74), some (.int _), some (.int _), some (.int _), none, none]) rfl ?_
    refine sw_aload_n (i := 2) dL_law_173 rfl rfl ?_
    refine px_Vx mv_L_94 hth rfl rfl (Nat.le_of_ble_eq_true rfl) (Nat.le_of_ble_eq_true rfl) ko_65 (Nat.le_of_ble_eq_true rfl) dL_law_174 ?_
    refine sw_iload (i := 5) dL_law_177 rfl ?_
    refine sw_ic_eq (tgt := 184) dL_law_179 rfl (fun _ => ?_) (fun h9 => absurd rfl h9)
    refine sw_iload (i := 5) dL_law_184 rfl ?_
    refine sw_if_ne (tgt := 201) dL_law_186 rfl (fun _ => ?_) (fun h9 => absurd h9 (nI_ne0 (by omega) (by omega)))
    refine sw_goto (tgt := 1612) dL_law_201 rfl ?_
    refine sw_iinc (i := 4) (v := nI (7 * (c + 1))) dL_law_1612 rfl (by show nI (7 * c) + nI 7 = _; exact nI_add _ _) (Nat.le_of_ble_eq_true rfl) rfl ?_
    refine sw_lo (lo2 := [some (.ref 1100), some (.ref 0), some (.ref 65), some (.ref 74), some (.int _), some (.int _), some (.int _), none, none]) rfl ?_
    refine sw_goto (tgt := 23) dL_law_1615 rfl ?_
    refine sw_sub ?_ y9
    exact ⟨rfl, rfl, rfl, rfl, rfl, trivial⟩
set_option maxRecDepth 100000 in
set_option maxHeartbeats 4000000 in
theorem K_1 {xt : List (Nat × Nat × Nat × Nat)} {L : Nat} {xs : Nat → Int32} {c f : Nat} {d : Nat → Nat → Int32} {r : Nat → Nat → Option Nat} {J : Nat → Nat → Int64} (hL : L ≤ 3584) (h7 : 7 * c + 7 ≤ L) (g : LI c d r) (hx : ∀ (d : Nat → Nat → Int32) (r : Nat → Nat → Option Nat) (J : Nat → Nat → Int64), LI (c + 1) d r → ∃ d1 r1 J1, SW yL_law cL_law 9 (some .boolean) xt 12 (some (L, xs)) 23 [some (.ref 1100), some (.ref 0), some (.ref 65), some (.ref 74), some (.int (nI (7 * (c + 1)))), none, none, none, none] [] 75 (W0 d r J) f (6 * f) (.inl (some (.int (nI 1)))) 75 (W0 d1 r1 J1)) : ∃ d1 r1 J1, SW yL_law cL_law 9 (some .boolean) xt 12 (some (L, xs)) 40 [some (.ref 1100), some (.ref 0), some (.ref 65), some (.ref 74), some (.int (nI (7 * c))), none, none, none, none] [.int (nI 1)] 75 (W0 d r J) (f + 1) (6 * (f + 1)) (.inl (some (.int (nI 1)))) 75 (W0 d1 r1 J1) := by
  obtain ⟨kk, b, d1, r1, J1, e1, hk, hw, hm, ht, hb, g2⟩ := G_cross (J := J) (a1 := xs (7 * c + 1)) (a2 := xs (7 * c + 2)) g (by omega)
  obtain ⟨d9, r9, J9, y9⟩ := hx e1 r1 J1 g2
  have hth := A_X7_thrown (d := e1) (r := r1) (J := J1) ht
  refine ⟨d9, r9, J9, ?_⟩
  by_cases kz : kk = 0
  ·
    refine sw_tabIn (off := 164) (tgt := 204) dL_law_40 (by decide) (by decide) (by decide) (by decide) ?_
    refine sw_aload_n (i := 1) dL_law_204 rfl rfl ?_
    refine sw_aload_n (i := 0) dL_law_205 rfl rfl ?_
    refine sw_iload (i := 4) dL_law_206 rfl ?_
    refine sw_ic 1 dL_law_208 ?_
    refine sw_iadd dL_law_209 ?_
    refine sw_sld rfl ((7 * c) + 1) (by simp only [nI_add, pk_mul]) (by omega) (by omega) dL_law_210 ?_
    refine sw_ins (pc2 := 211) rfl rfl ?_
    refine sw_aload_n (i := 0) dL_law_211 rfl rfl ?_
    refine sw_iload (i := 4) dL_law_212 rfl ?_
    refine sw_ic 2 dL_law_214 ?_
    refine sw_iadd dL_law_215 ?_
    refine sw_sld rfl ((7 * c) + 2) (by simp only [nI_add, pk_mul]) (by omega) (by omega) dL_law_216 ?_
    refine sw_aload_n (i := 3) dL_law_217 rfl rfl ?_
    refine px_Wx ms_L_97 hw rfl rfl (by decide) (Nat.le_of_ble_eq_true rfl) (Nat.le_of_ble_eq_true rfl) dL_law_218 ?_
    refine sw_istore (i := 5) dL_law_221 (Nat.le_of_ble_eq_true rfl) rfl ?_
    refine sw_lo (lo2 := [some (.ref 1100), some (.ref 0), some (.ref 65), some (.ref 74), some (.int _), some (.int _), none, none, none]) rfl ?_
    refine sw_ins (pc2 := 223) rfl rfl ?_
    refine sw_aload_n (i := 2) dL_law_223 rfl rfl ?_
    refine sw_aload_n (i := 0) dL_law_224 rfl rfl ?_
    refine sw_iload (i := 4) dL_law_225 rfl ?_
    refine sw_ic 1 dL_law_227 ?_
    refine sw_iadd dL_law_228 ?_
    refine sw_sld rfl ((7 * c) + 1) (by simp only [nI_add, pk_mul]) (by omega) (by omega) dL_law_229 ?_
    refine sw_aload_n (i := 0) dL_law_230 rfl rfl ?_
    refine sw_iload (i := 4) dL_law_231 rfl ?_
    refine sw_ins (pc2 := 233) rfl rfl ?_
    refine sw_ic 2 dL_law_233 ?_
    refine sw_iadd dL_law_234 ?_
    refine sw_sld rfl ((7 * c) + 2) (by simp only [nI_add, pk_mul]) (by omega) (by omega) dL_law_235 ?_
    refine px_Vx mv_L_100 hm rfl rfl (Nat.le_of_ble_eq_true rfl) (Nat.le_of_ble_eq_true rfl) ko_65 (Nat.le_of_ble_eq_true rfl) dL_law_236 ?_
    refine sw_istore (i := 6) dL_law_239 (Nat.le_of_ble_eq_true rfl) rfl ?_
    refine sw_lo (lo2 := [some (.ref 1100), some (.ref 0), some (.ref 65), some (.ref 74), some (.int _), some (.int _), some (.int _), none, none]) rfl ?_
    refine sw_aload_n (i := 2) dL_law_241 rfl rfl ?_
    refine px_Vx mv_L_94 hth rfl rfl (Nat.le_of_ble_eq_true rfl) (Nat.le_of_ble_eq_true rfl) ko_65 (Nat.le_of_ble_eq_true rfl) dL_law_242 ?_
    refine sw_iload (i := 5) dL_law_245 rfl ?_
    refine sw_ins (pc2 := 247) rfl rfl ?_
    refine sw_ic_eq (tgt := 252) dL_law_247 rfl (fun _ => ?_) (fun h9 => absurd rfl h9)
    refine sw_iload (i := 5) dL_law_252 rfl ?_
    refine sw_if_ne (tgt := 269) dL_law_254 rfl (fun h9 => absurd (by rw [kz]; rfl) h9) (fun _ => ?_)
    refine sw_aload_n (i := 3) dL_law_257 rfl rfl ?_
    refine sw_ic 0 dL_law_258 ?_
    refine sx_lald (0) rfl rfl (by omega) dL_law_259 ?_
    rw [hb kz]
    refine sw_iload (i := 6) dL_law_260 rfl ?_
    refine sw_i2l dL_law_262 ?_
    refine sw_lcmp dL_law_263 ?_
    rw [lg_same]
    refine sw_if_eq (tgt := 269) dL_law_264 rfl (fun _ => ?_) (fun h9 => absurd (by decide) h9)
    refine sw_goto (tgt := 1612) dL_law_269 rfl ?_
    refine sw_iinc (i := 4) (v := nI (7 * (c + 1))) dL_law_1612 rfl (by show nI (7 * c) + nI 7 = _; exact nI_add _ _) (Nat.le_of_ble_eq_true rfl) rfl ?_
    refine sw_lo (lo2 := [some (.ref 1100), some (.ref 0), some (.ref 65), some (.ref 74), some (.int _), some (.int _), some (.int _), none, none]) rfl ?_
    refine sw_goto (tgt := 23) dL_law_1615 rfl ?_
    refine sw_sub ?_ y9
    exact ⟨rfl, rfl, rfl, rfl, rfl, trivial⟩
  ·
    refine sw_tabIn (off := 164) (tgt := 204) dL_law_40 (by decide) (by decide) (by decide) (by decide) ?_
    refine sw_aload_n (i := 1) dL_law_204 rfl rfl ?_
    refine sw_aload_n (i := 0) dL_law_205 rfl rfl ?_
    refine sw_iload (i := 4) dL_law_206 rfl ?_
    refine sw_ic 1 dL_law_208 ?_
    refine sw_iadd dL_law_209 ?_
    refine sw_sld rfl ((7 * c) + 1) (by simp only [nI_add, pk_mul]) (by omega) (by omega) dL_law_210 ?_
    refine sw_ins (pc2 := 211) rfl rfl ?_
    refine sw_aload_n (i := 0) dL_law_211 rfl rfl ?_
    refine sw_iload (i := 4) dL_law_212 rfl ?_
    refine sw_ic 2 dL_law_214 ?_
    refine sw_iadd dL_law_215 ?_
    refine sw_sld rfl ((7 * c) + 2) (by simp only [nI_add, pk_mul]) (by omega) (by omega) dL_law_216 ?_
    refine sw_aload_n (i := 3) dL_law_217 rfl rfl ?_
    refine px_Wx ms_L_97 hw rfl rfl (by decide) (Nat.le_of_ble_eq_true rfl) (Nat.le_of_ble_eq_true rfl) dL_law_218 ?_
    refine sw_istore (i := 5) dL_law_221 (Nat.le_of_ble_eq_true rfl) rfl ?_
    refine sw_lo (lo2 := [some (.ref 1100), some (.ref 0), some (.ref 65), some (.ref 74), some (.int _), some (.int _), none, none, none]) rfl ?_
    refine sw_ins (pc2 := 223) rfl rfl ?_
    refine sw_aload_n (i := 2) dL_law_223 rfl rfl ?_
    refine sw_aload_n (i := 0) dL_law_224 rfl rfl ?_
    refine sw_iload (i := 4) dL_law_225 rfl ?_
    refine sw_ic 1 dL_law_227 ?_
    refine sw_iadd dL_law_228 ?_
    refine sw_sld rfl ((7 * c) + 1) (by simp only [nI_add, pk_mul]) (by omega) (by omega) dL_law_229 ?_
    refine sw_aload_n (i := 0) dL_law_230 rfl rfl ?_
    refine sw_iload (i := 4) dL_law_231 rfl ?_
    refine sw_ins (pc2 := 233) rfl rfl ?_
    refine sw_ic 2 dL_law_233 ?_
    refine sw_iadd dL_law_234 ?_
    refine sw_sld rfl ((7 * c) + 2) (by simp only [nI_add, pk_mul]) (by omega) (by omega) dL_law_235 ?_
    refine px_Vx mv_L_100 hm rfl rfl (Nat.le_of_ble_eq_true rfl) (Nat.le_of_ble_eq_true rfl) ko_65 (Nat.le_of_ble_eq_true rfl) dL_law_236 ?_
    refine sw_istore (i := 6) dL_law_239 (Nat.le_of_ble_eq_true rfl) rfl ?_
    refine sw_lo (lo2 := [some (.ref 1100), some (.ref 0), some (.ref 65), some (.ref 74), some (.int _), some (.int _), some (.int _), none, none]) rfl ?_
    refine sw_aload_n (i := 2) dL_law_241 rfl rfl ?_
    refine px_Vx mv_L_94 hth rfl rfl (Nat.le_of_ble_eq_true rfl) (Nat.le_of_ble_eq_true rfl) ko_65 (Nat.le_of_ble_eq_true rfl) dL_law_242 ?_
    refine sw_iload (i := 5) dL_law_245 rfl ?_
    refine sw_ins (pc2 := 247) rfl rfl ?_
    refine sw_ic_eq (tgt := 252) dL_law_247 rfl (fun _ => ?_) (fun h9 => absurd rfl h9)
    refine sw_iload (i := 5) dL_law_252 rfl ?_
    refine sw_if_ne (tgt := 269) dL_law_254 rfl (fun _ => ?_) (fun h9 => absurd h9 (nI_ne0 (by omega) (by omega)))
    refine sw_goto (tgt := 1612) dL_law_269 rfl ?_
    refine sw_iinc (i := 4) (v := nI (7 * (c + 1))) dL_law_1612 rfl (by show nI (7 * c) + nI 7 = _; exact nI_add _ _) (Nat.le_of_ble_eq_true rfl) rfl ?_
    refine sw_lo (lo2 := [some (.ref 1100), some (.ref 0), some (.ref 65), some (.ref 74), some (.int _), some (.int _), some (.int _), none, none]) rfl ?_
    refine sw_goto (tgt := 23) dL_law_1615 rfl ?_
    refine sw_sub ?_ y9
    exact ⟨rfl, rfl, rfl, rfl, rfl, trivial⟩
set_option maxRecDepth 100000 in
set_option maxHeartbeats 4000000 in
theorem K_2 {xt : List (Nat × Nat × Nat × Nat)} {L : Nat} {xs : Nat → Int32} {c f : Nat} {d : Nat → Nat → Int32} {r : Nat → Nat → Option Nat} {J : Nat → Nat → Int64} (hL : L ≤ 3584) (h7 : 7 * c + 7 ≤ L) (g : LI c d r) (hx : ∀ (d : Nat → Nat → Int32) (r : Nat → Nat → Option Nat) (J : Nat → Nat → Int64), LI (c + 1) d r → ∃ d1 r1 J1, SW yL_law cL_law 9 (some .boolean) xt 12 (some (L, xs)) 23 [some (.ref 1100), some (.ref 0), some (.ref 65), some (.ref 74), some (.int (nI (7 * (c + 1)))), none, none, none, none] [] 75 (W0 d r J) f (6 * f) (.inl (some (.int (nI 1)))) 75 (W0 d1 r1 J1)) : ∃ d1 r1 J1, SW yL_law cL_law 9 (some .boolean) xt 12 (some (L, xs)) 40 [some (.ref 1100), some (.ref 0), some (.ref 65), some (.ref 74), some (.int (nI (7 * c))), none, none, none, none] [.int (nI 2)] 75 (W0 d r J) (f + 1) (6 * (f + 1)) (.inl (some (.int (nI 1)))) 75 (W0 d1 r1 J1) := by
  obtain ⟨kk, b, d1, r1, J1, e1, hk, hw, hm, ht, hb, g2⟩ := G_trade (J := J) (a1 := xs (7 * c + 1)) (a2 := xs (7 * c + 2)) (a3 := xs (7 * c + 3)) (a4 := xs (7 * c + 4)) (a5 := xs (7 * c + 5)) (a6 := xs (7 * c + 6)) g (by omega)
  obtain ⟨d9, r9, J9, y9⟩ := hx e1 r1 J1 g2
  have hth := A_X7_thrown (d := e1) (r := r1) (J := J1) ht
  refine ⟨d9, r9, J9, ?_⟩
  by_cases kz : kk = 0
  ·
    refine sw_tabIn (off := 232) (tgt := 272) dL_law_40 (by decide) (by decide) (by decide) (by decide) ?_
    refine sw_aload_n (i := 1) dL_law_272 rfl rfl ?_
    refine sw_aload_n (i := 0) dL_law_273 rfl rfl ?_
    refine sw_iload (i := 4) dL_law_274 rfl ?_
    refine sw_ic 1 dL_law_276 ?_
    refine sw_iadd dL_law_277 ?_
    refine sw_sld rfl ((7 * c) + 1) (by simp only [nI_add, pk_mul]) (by omega) (by omega) dL_law_278 ?_
    refine sw_ins (pc2 := 279) rfl rfl ?_
    refine sw_aload_n (i := 0) dL_law_279 rfl rfl ?_
    refine sw_iload (i := 4) dL_law_280 rfl ?_
    refine sw_ic 2 dL_law_282 ?_
    refine sw_iadd dL_law_283 ?_
    refine sw_sld rfl ((7 * c) + 2) (by simp only [nI_add, pk_mul]) (by omega) (by omega) dL_law_284 ?_
    refine sw_aload_n (i := 0) dL_law_285 rfl rfl ?_
    refine sw_iload (i := 4) dL_law_286 rfl ?_
    refine sw_ic 3 dL_law_288 ?_
    refine sw_ins (pc2 := 289) rfl rfl ?_
    refine sw_iadd dL_law_289 ?_
    refine sw_sld rfl ((7 * c) + 3) (by simp only [nI_add, pk_mul]) (by omega) (by omega) dL_law_290 ?_
    refine sw_aload_n (i := 0) dL_law_291 rfl rfl ?_
    refine sw_iload (i := 4) dL_law_292 rfl ?_
    refine sw_ic 4 dL_law_294 ?_
    refine sw_iadd dL_law_295 ?_
    refine sw_sld rfl ((7 * c) + 4) (by simp only [nI_add, pk_mul]) (by omega) (by omega) dL_law_296 ?_
    refine sw_aload_n (i := 0) dL_law_297 rfl rfl ?_
    refine sw_ins (pc2 := 298) rfl rfl ?_
    refine sw_iload (i := 4) dL_law_298 rfl ?_
    refine sw_ic 5 dL_law_300 ?_
    refine sw_iadd dL_law_301 ?_
    refine sw_sld rfl ((7 * c) + 5) (by simp only [nI_add, pk_mul]) (by omega) (by omega) dL_law_302 ?_
    refine sw_aload_n (i := 0) dL_law_303 rfl rfl ?_
    refine sw_iload (i := 4) dL_law_304 rfl ?_
    refine sw_bi 6 dL_law_306 (by decide +kernel) ?_
    refine sw_iadd dL_law_308 ?_
    refine sw_ins (pc2 := 309) rfl rfl ?_
    refine sw_sld rfl ((7 * c) + 6) (by simp only [nI_add, pk_mul]) (by omega) (by omega) dL_law_309 ?_
    refine sw_aload_n (i := 3) dL_law_310 rfl rfl ?_
    refine px_Wx ms_L_101 hw rfl rfl (by decide) (Nat.le_of_ble_eq_true rfl) (Nat.le_of_ble_eq_true rfl) dL_law_311 ?_
    refine sw_istore (i := 5) dL_law_314 (Nat.le_of_ble_eq_true rfl) rfl ?_
    refine sw_lo (lo2 := [some (.ref 1100), some (.ref 0), some (.ref 65), some (.ref 74), some (.int _), some (.int _), none, none, none]) rfl ?_
    refine sw_aload_n (i := 2) dL_law_316 rfl rfl ?_
    refine sw_aload_n (i := 0) dL_law_317 rfl rfl ?_
    refine sw_iload (i := 4) dL_law_318 rfl ?_
    refine sw_ic 1 dL_law_320 ?_
    refine sw_ins (pc2 := 321) rfl rfl ?_
    refine sw_iadd dL_law_321 ?_
    refine sw_sld rfl ((7 * c) + 1) (by simp only [nI_add, pk_mul]) (by omega) (by omega) dL_law_322 ?_
    refine sw_aload_n (i := 0) dL_law_323 rfl rfl ?_
    refine sw_iload (i := 4) dL_law_324 rfl ?_
    refine sw_ic 2 dL_law_326 ?_
    refine sw_iadd dL_law_327 ?_
    refine sw_sld rfl ((7 * c) + 2) (by simp only [nI_add, pk_mul]) (by omega) (by omega) dL_law_328 ?_
    refine sw_aload_n (i := 0) dL_law_329 rfl rfl ?_
    refine sw_ins (pc2 := 330) rfl rfl ?_
    refine sw_iload (i := 4) dL_law_330 rfl ?_
    refine sw_ic 3 dL_law_332 ?_
    refine sw_iadd dL_law_333 ?_
    refine sw_sld rfl ((7 * c) + 3) (by simp only [nI_add, pk_mul]) (by omega) (by omega) dL_law_334 ?_
    refine sw_aload_n (i := 0) dL_law_335 rfl rfl ?_
    refine sw_iload (i := 4) dL_law_336 rfl ?_
    refine sw_ic 4 dL_law_338 ?_
    refine sw_iadd dL_law_339 ?_
    refine sw_ins (pc2 := 340) rfl rfl ?_
    refine sw_sld rfl ((7 * c) + 4) (by simp only [nI_add, pk_mul]) (by omega) (by omega) dL_law_340 ?_
    refine sw_aload_n (i := 0) dL_law_341 rfl rfl ?_
    refine sw_iload (i := 4) dL_law_342 rfl ?_
    refine sw_ic 5 dL_law_344 ?_
    refine sw_iadd dL_law_345 ?_
    refine sw_sld rfl ((7 * c) + 5) (by simp only [nI_add, pk_mul]) (by omega) (by omega) dL_law_346 ?_
    refine sw_aload_n (i := 0) dL_law_347 rfl rfl ?_
    refine sw_iload (i := 4) dL_law_348 rfl ?_
    refine sw_ins (pc2 := 350) rfl rfl ?_
    refine sw_bi 6 dL_law_350 (by decide +kernel) ?_
    refine sw_iadd dL_law_352 ?_
    refine sw_sld rfl ((7 * c) + 6) (by simp only [nI_add, pk_mul]) (by omega) (by omega) dL_law_353 ?_
    refine px_Vx mv_L_104 hm rfl rfl (Nat.le_of_ble_eq_true rfl) (Nat.le_of_ble_eq_true rfl) ko_65 (Nat.le_of_ble_eq_true rfl) dL_law_354 ?_
    refine sw_istore (i := 6) dL_law_357 (Nat.le_of_ble_eq_true rfl) rfl ?_
    refine sw_lo (lo2 := [some (.ref 1100), some (.ref 0), some (.ref 65), some (.ref 74), some (.int _), some (.int _), some (.int _), none, none]) rfl ?_
    refine sw_aload_n (i := 2) dL_law_359 rfl rfl ?_
    refine px_Vx mv_L_94 hth rfl rfl (Nat.le_of_ble_eq_true rfl) (Nat.le_of_ble_eq_true rfl) ko_65 (Nat.le_of_ble_eq_true rfl) dL_law_360 ?_
    refine sw_iload (i := 5) dL_law_363 rfl ?_
    refine sw_ins (pc2 := 365) rfl rfl ?_
    refine sw_ic_eq (tgt := 370) dL_law_365 rfl (fun _ => ?_) (fun h9 => absurd rfl h9)
    refine sw_iload (i := 5) dL_law_370 rfl ?_
    refine sw_if_ne (tgt := 387) dL_law_372 rfl (fun h9 => absurd (by rw [kz]; rfl) h9) (fun _ => ?_)
    refine sw_aload_n (i := 3) dL_law_375 rfl rfl ?_
    refine sw_ic 0 dL_law_376 ?_
    refine sx_lald (0) rfl rfl (by omega) dL_law_377 ?_
    rw [hb kz]
    refine sw_iload (i := 6) dL_law_378 rfl ?_
    refine sw_i2l dL_law_380 ?_
    refine sw_lcmp dL_law_381 ?_
    rw [lg_same]
    refine sw_if_eq (tgt := 387) dL_law_382 rfl (fun _ => ?_) (fun h9 => absurd (by decide) h9)
    refine sw_goto (tgt := 1612) dL_law_387 rfl ?_
    refine sw_iinc (i := 4) (v := nI (7 * (c + 1))) dL_law_1612 rfl (by show nI (7 * c) + nI 7 = _; exact nI_add _ _) (Nat.le_of_ble_eq_true rfl) rfl ?_
    refine sw_lo (lo2 := [some (.ref 1100), some (.ref 0), some (.ref 65), some (.ref 74), some (.int _), some (.int _), some (.int _), none, none]) rfl ?_
    refine sw_goto (tgt := 23) dL_law_1615 rfl ?_
    refine sw_sub ?_ y9
    exact ⟨rfl, rfl, rfl, rfl, rfl, trivial⟩
  ·
    refine sw_tabIn (off := 232) (tgt := 272) dL_law_40 (by decide) (by decide) (by decide) (by decide) ?_
    refine sw_aload_n (i := 1) dL_law_272 rfl rfl ?_
    refine sw_aload_n (i := 0) dL_law_273 rfl rfl ?_
    refine sw_iload (i := 4) dL_law_274 rfl ?_
    refine sw_ic 1 dL_law_276 ?_
    refine sw_iadd dL_law_277 ?_
    refine sw_sld rfl ((7 * c) + 1) (by simp only [nI_add, pk_mul]) (by omega) (by omega) dL_law_278 ?_
    refine sw_ins (pc2 := 279) rfl rfl ?_
    refine sw_aload_n (i := 0) dL_law_279 rfl rfl ?_
    refine sw_iload (i := 4) dL_law_280 rfl ?_
    refine sw_ic 2 dL_law_282 ?_
    refine sw_iadd dL_law_283 ?_
    refine sw_sld rfl ((7 * c) + 2) (by simp only [nI_add, pk_mul]) (by omega) (by omega) dL_law_284 ?_
    refine sw_aload_n (i := 0) dL_law_285 rfl rfl ?_
    refine sw_iload (i := 4) dL_law_286 rfl ?_
    refine sw_ic 3 dL_law_288 ?_
    refine sw_ins (pc2 := 289) rfl rfl ?_
    refine sw_iadd dL_law_289 ?_
    refine sw_sld rfl ((7 * c) + 3) (by simp only [nI_add, pk_mul]) (by omega) (by omega) dL_law_290 ?_
    refine sw_aload_n (i := 0) dL_law_291 rfl rfl ?_
    refine sw_iload (i := 4) dL_law_292 rfl ?_
    refine sw_ic 4 dL_law_294 ?_
    refine sw_iadd dL_law_295 ?_
    refine sw_sld rfl ((7 * c) + 4) (by simp only [nI_add, pk_mul]) (by omega) (by omega) dL_law_296 ?_
    refine sw_aload_n (i := 0) dL_law_297 rfl rfl ?_
    refine sw_ins (pc2 := 298) rfl rfl ?_
    refine sw_iload (i := 4) dL_law_298 rfl ?_
    refine sw_ic 5 dL_law_300 ?_
    refine sw_iadd dL_law_301 ?_
    refine sw_sld rfl ((7 * c) + 5) (by simp only [nI_add, pk_mul]) (by omega) (by omega) dL_law_302 ?_
    refine sw_aload_n (i := 0) dL_law_303 rfl rfl ?_
    refine sw_iload (i := 4) dL_law_304 rfl ?_
    refine sw_bi 6 dL_law_306 (by decide +kernel) ?_
    refine sw_iadd dL_law_308 ?_
    refine sw_ins (pc2 := 309) rfl rfl ?_
    refine sw_sld rfl ((7 * c) + 6) (by simp only [nI_add, pk_mul]) (by omega) (by omega) dL_law_309 ?_
    refine sw_aload_n (i := 3) dL_law_310 rfl rfl ?_
    refine px_Wx ms_L_101 hw rfl rfl (by decide) (Nat.le_of_ble_eq_true rfl) (Nat.le_of_ble_eq_true rfl) dL_law_311 ?_
    refine sw_istore (i := 5) dL_law_314 (Nat.le_of_ble_eq_true rfl) rfl ?_
    refine sw_lo (lo2 := [some (.ref 1100), some (.ref 0), some (.ref 65), some (.ref 74), some (.int _), some (.int _), none, none, none]) rfl ?_
    refine sw_aload_n (i := 2) dL_law_316 rfl rfl ?_
    refine sw_aload_n (i := 0) dL_law_317 rfl rfl ?_
    refine sw_iload (i := 4) dL_law_318 rfl ?_
    refine sw_ic 1 dL_law_320 ?_
    refine sw_ins (pc2 := 321) rfl rfl ?_
    refine sw_iadd dL_law_321 ?_
    refine sw_sld rfl ((7 * c) + 1) (by simp only [nI_add, pk_mul]) (by omega) (by omega) dL_law_322 ?_
    refine sw_aload_n (i := 0) dL_law_323 rfl rfl ?_
    refine sw_iload (i := 4) dL_law_324 rfl ?_
    refine sw_ic 2 dL_law_326 ?_
    refine sw_iadd dL_law_327 ?_
    refine sw_sld rfl ((7 * c) + 2) (by simp only [nI_add, pk_mul]) (by omega) (by omega) dL_law_328 ?_
    refine sw_aload_n (i := 0) dL_law_329 rfl rfl ?_
    refine sw_ins (pc2 := 330) rfl rfl ?_
    refine sw_iload (i := 4) dL_law_330 rfl ?_
    refine sw_ic 3 dL_law_332 ?_
    refine sw_iadd dL_law_333 ?_
    refine sw_sld rfl ((7 * c) + 3) (by simp only [nI_add, pk_mul]) (by omega) (by omega) dL_law_334 ?_
    refine sw_aload_n (i := 0) dL_law_335 rfl rfl ?_
    refine sw_iload (i := 4) dL_law_336 rfl ?_
    refine sw_ic 4 dL_law_338 ?_
    refine sw_iadd dL_law_339 ?_
    refine sw_ins (pc2 := 340) rfl rfl ?_
    refine sw_sld rfl ((7 * c) + 4) (by simp only [nI_add, pk_mul]) (by omega) (by omega) dL_law_340 ?_
    refine sw_aload_n (i := 0) dL_law_341 rfl rfl ?_
    refine sw_iload (i := 4) dL_law_342 rfl ?_
    refine sw_ic 5 dL_law_344 ?_
    refine sw_iadd dL_law_345 ?_
    refine sw_sld rfl ((7 * c) + 5) (by simp only [nI_add, pk_mul]) (by omega) (by omega) dL_law_346 ?_
    refine sw_aload_n (i := 0) dL_law_347 rfl rfl ?_
    refine sw_iload (i := 4) dL_law_348 rfl ?_
    refine sw_ins (pc2 := 350) rfl rfl ?_
    refine sw_bi 6 dL_law_350 (by decide +kernel) ?_
    refine sw_iadd dL_law_352 ?_
    refine sw_sld rfl ((7 * c) + 6) (by simp only [nI_add, pk_mul]) (by omega) (by omega) dL_law_353 ?_
    refine px_Vx mv_L_104 hm rfl rfl (Nat.le_of_ble_eq_true rfl) (Nat.le_of_ble_eq_true rfl) ko_65 (Nat.le_of_ble_eq_true rfl) dL_law_354 ?_
    refine sw_istore (i := 6) dL_law_357 (Nat.le_of_ble_eq_true rfl) rfl ?_
    refine sw_lo (lo2 := [some (.ref 1100), some (.ref 0), some (.ref 65), some (.ref 74), some (.int _), some (.int _), some (.int _), none, none]) rfl ?_
    refine sw_aload_n (i := 2) dL_law_359 rfl rfl ?_
    refine px_Vx mv_L_94 hth rfl rfl (Nat.le_of_ble_eq_true rfl) (Nat.le_of_ble_eq_true rfl) ko_65 (Nat.le_of_ble_eq_true rfl) dL_law_360 ?_
    refine sw_iload (i := 5) dL_law_363 rfl ?_
    refine sw_ins (pc2 := 365) rfl rfl ?_
    refine sw_ic_eq (tgt := 370) dL_law_365 rfl (fun _ => ?_) (fun h9 => absurd rfl h9)
    refine sw_iload (i := 5) dL_law_370 rfl ?_
    refine sw_if_ne (tgt := 387) dL_law_372 rfl (fun _ => ?_) (fun h9 => absurd h9 (nI_ne0 (by omega) (by omega)))
    refine sw_goto (tgt := 1612) dL_law_387 rfl ?_
    refine sw_iinc (i := 4) (v := nI (7 * (c + 1))) dL_law_1612 rfl (by show nI (7 * c) + nI 7 = _; exact nI_add _ _) (Nat.le_of_ble_eq_true rfl) rfl ?_
    refine sw_lo (lo2 := [some (.ref 1100), some (.ref 0), some (.ref 65), some (.ref 74), some (.int _), some (.int _), some (.int _), none, none]) rfl ?_
    refine sw_goto (tgt := 23) dL_law_1615 rfl ?_
    refine sw_sub ?_ y9
    exact ⟨rfl, rfl, rfl, rfl, rfl, trivial⟩
set_option maxRecDepth 100000 in
set_option maxHeartbeats 4000000 in
theorem K_3 {xt : List (Nat × Nat × Nat × Nat)} {L : Nat} {xs : Nat → Int32} {c f : Nat} {d : Nat → Nat → Int32} {r : Nat → Nat → Option Nat} {J : Nat → Nat → Int64} (hL : L ≤ 3584) (h7 : 7 * c + 7 ≤ L) (g : LI c d r) (hx : ∀ (d : Nat → Nat → Int32) (r : Nat → Nat → Option Nat) (J : Nat → Nat → Int64), LI (c + 1) d r → ∃ d1 r1 J1, SW yL_law cL_law 9 (some .boolean) xt 12 (some (L, xs)) 23 [some (.ref 1100), some (.ref 0), some (.ref 65), some (.ref 74), some (.int (nI (7 * (c + 1)))), none, none, none, none] [] 75 (W0 d r J) f (6 * f) (.inl (some (.int (nI 1)))) 75 (W0 d1 r1 J1)) : ∃ d1 r1 J1, SW yL_law cL_law 9 (some .boolean) xt 12 (some (L, xs)) 40 [some (.ref 1100), some (.ref 0), some (.ref 65), some (.ref 74), some (.int (nI (7 * c))), none, none, none, none] [.int (nI 3)] 75 (W0 d r J) (f + 1) (6 * (f + 1)) (.inl (some (.int (nI 1)))) 75 (W0 d1 r1 J1) := by
  obtain ⟨kk, b, d1, r1, J1, e1, hk, hw, hm, ht, hb, g2⟩ := G_worth (J := J) (a1 := xs (7 * c + 1)) (a2 := xs (7 * c + 2)) g (by omega)
  obtain ⟨d9, r9, J9, y9⟩ := hx e1 r1 J1 g2
  have hth := A_X7_thrown (d := e1) (r := r1) (J := J1) ht
  refine ⟨d9, r9, J9, ?_⟩
  by_cases kz : kk = 0
  ·
    refine sw_tabIn (off := 350) (tgt := 390) dL_law_40 (by decide) (by decide) (by decide) (by decide) ?_
    refine sw_aload_n (i := 1) dL_law_390 rfl rfl ?_
    refine sw_aload_n (i := 0) dL_law_391 rfl rfl ?_
    refine sw_iload (i := 4) dL_law_392 rfl ?_
    refine sw_ic 1 dL_law_394 ?_
    refine sw_iadd dL_law_395 ?_
    refine sw_sld rfl ((7 * c) + 1) (by simp only [nI_add, pk_mul]) (by omega) (by omega) dL_law_396 ?_
    refine sw_ins (pc2 := 397) rfl rfl ?_
    refine sw_aload_n (i := 0) dL_law_397 rfl rfl ?_
    refine sw_iload (i := 4) dL_law_398 rfl ?_
    refine sw_ic 2 dL_law_400 ?_
    refine sw_iadd dL_law_401 ?_
    refine sw_sld rfl ((7 * c) + 2) (by simp only [nI_add, pk_mul]) (by omega) (by omega) dL_law_402 ?_
    refine sw_aload_n (i := 3) dL_law_403 rfl rfl ?_
    refine px_Wx ms_L_105 hw rfl rfl (by decide) (Nat.le_of_ble_eq_true rfl) (Nat.le_of_ble_eq_true rfl) dL_law_404 ?_
    refine sw_istore (i := 5) dL_law_407 (Nat.le_of_ble_eq_true rfl) rfl ?_
    refine sw_lo (lo2 := [some (.ref 1100), some (.ref 0), some (.ref 65), some (.ref 74), some (.int _), some (.int _), none, none, none]) rfl ?_
    refine sw_ins (pc2 := 409) rfl rfl ?_
    refine sw_aload_n (i := 2) dL_law_409 rfl rfl ?_
    refine sw_aload_n (i := 0) dL_law_410 rfl rfl ?_
    refine sw_iload (i := 4) dL_law_411 rfl ?_
    refine sw_ic 1 dL_law_413 ?_
    refine sw_iadd dL_law_414 ?_
    refine sw_sld rfl ((7 * c) + 1) (by simp only [nI_add, pk_mul]) (by omega) (by omega) dL_law_415 ?_
    refine sw_aload_n (i := 0) dL_law_416 rfl rfl ?_
    refine sw_iload (i := 4) dL_law_417 rfl ?_
    refine sw_ins (pc2 := 419) rfl rfl ?_
    refine sw_ic 2 dL_law_419 ?_
    refine sw_iadd dL_law_420 ?_
    refine sw_sld rfl ((7 * c) + 2) (by simp only [nI_add, pk_mul]) (by omega) (by omega) dL_law_421 ?_
    refine px_Vx mv_L_107 hm rfl rfl (Nat.le_of_ble_eq_true rfl) (Nat.le_of_ble_eq_true rfl) ko_65 (Nat.le_of_ble_eq_true rfl) dL_law_422 ?_
    refine sw_istore (i := 6) dL_law_425 (Nat.le_of_ble_eq_true rfl) rfl ?_
    refine sw_lo (lo2 := [some (.ref 1100), some (.ref 0), some (.ref 65), some (.ref 74), some (.int _), some (.int _), some (.int _), none, none]) rfl ?_
    refine sw_aload_n (i := 2) dL_law_427 rfl rfl ?_
    refine px_Vx mv_L_94 hth rfl rfl (Nat.le_of_ble_eq_true rfl) (Nat.le_of_ble_eq_true rfl) ko_65 (Nat.le_of_ble_eq_true rfl) dL_law_428 ?_
    refine sw_iload (i := 5) dL_law_431 rfl ?_
    refine sw_ins (pc2 := 433) rfl rfl ?_
    refine sw_ic_eq (tgt := 438) dL_law_433 rfl (fun _ => ?_) (fun h9 => absurd rfl h9)
    refine sw_iload (i := 5) dL_law_438 rfl ?_
    refine sw_if_ne (tgt := 455) dL_law_440 rfl (fun h9 => absurd (by rw [kz]; rfl) h9) (fun _ => ?_)
    refine sw_aload_n (i := 3) dL_law_443 rfl rfl ?_
    refine sw_ic 0 dL_law_444 ?_
    refine sx_lald (0) rfl rfl (by omega) dL_law_445 ?_
    rw [hb kz]
    refine sw_iload (i := 6) dL_law_446 rfl ?_
    refine sw_i2l dL_law_448 ?_
    refine sw_lcmp dL_law_449 ?_
    rw [lg_same]
    refine sw_if_eq (tgt := 455) dL_law_450 rfl (fun _ => ?_) (fun h9 => absurd (by decide) h9)
    refine sw_goto (tgt := 1612) dL_law_455 rfl ?_
    refine sw_iinc (i := 4) (v := nI (7 * (c + 1))) dL_law_1612 rfl (by show nI (7 * c) + nI 7 = _; exact nI_add _ _) (Nat.le_of_ble_eq_true rfl) rfl ?_
    refine sw_lo (lo2 := [some (.ref 1100), some (.ref 0), some (.ref 65), some (.ref 74), some (.int _), some (.int _), some (.int _), none, none]) rfl ?_
    refine sw_goto (tgt := 23) dL_law_1615 rfl ?_
    refine sw_sub ?_ y9
    exact ⟨rfl, rfl, rfl, rfl, rfl, trivial⟩
  ·
    refine sw_tabIn (off := 350) (tgt := 390) dL_law_40 (by decide) (by decide) (by decide) (by decide) ?_
    refine sw_aload_n (i := 1) dL_law_390 rfl rfl ?_
    refine sw_aload_n (i := 0) dL_law_391 rfl rfl ?_
    refine sw_iload (i := 4) dL_law_392 rfl ?_
    refine sw_ic 1 dL_law_394 ?_
    refine sw_iadd dL_law_395 ?_
    refine sw_sld rfl ((7 * c) + 1) (by simp only [nI_add, pk_mul]) (by omega) (by omega) dL_law_396 ?_
    refine sw_ins (pc2 := 397) rfl rfl ?_
    refine sw_aload_n (i := 0) dL_law_397 rfl rfl ?_
    refine sw_iload (i := 4) dL_law_398 rfl ?_
    refine sw_ic 2 dL_law_400 ?_
    refine sw_iadd dL_law_401 ?_
    refine sw_sld rfl ((7 * c) + 2) (by simp only [nI_add, pk_mul]) (by omega) (by omega) dL_law_402 ?_
    refine sw_aload_n (i := 3) dL_law_403 rfl rfl ?_
    refine px_Wx ms_L_105 hw rfl rfl (by decide) (Nat.le_of_ble_eq_true rfl) (Nat.le_of_ble_eq_true rfl) dL_law_404 ?_
    refine sw_istore (i := 5) dL_law_407 (Nat.le_of_ble_eq_true rfl) rfl ?_
    refine sw_lo (lo2 := [some (.ref 1100), some (.ref 0), some (.ref 65), some (.ref 74), some (.int _), some (.int _), none, none, none]) rfl ?_
    refine sw_ins (pc2 := 409) rfl rfl ?_
    refine sw_aload_n (i := 2) dL_law_409 rfl rfl ?_
    refine sw_aload_n (i := 0) dL_law_410 rfl rfl ?_
    refine sw_iload (i := 4) dL_law_411 rfl ?_
    refine sw_ic 1 dL_law_413 ?_
    refine sw_iadd dL_law_414 ?_
    refine sw_sld rfl ((7 * c) + 1) (by simp only [nI_add, pk_mul]) (by omega) (by omega) dL_law_415 ?_
    refine sw_aload_n (i := 0) dL_law_416 rfl rfl ?_
    refine sw_iload (i := 4) dL_law_417 rfl ?_
    refine sw_ins (pc2 := 419) rfl rfl ?_
    refine sw_ic 2 dL_law_419 ?_
    refine sw_iadd dL_law_420 ?_
    refine sw_sld rfl ((7 * c) + 2) (by simp only [nI_add, pk_mul]) (by omega) (by omega) dL_law_421 ?_
    refine px_Vx mv_L_107 hm rfl rfl (Nat.le_of_ble_eq_true rfl) (Nat.le_of_ble_eq_true rfl) ko_65 (Nat.le_of_ble_eq_true rfl) dL_law_422 ?_
    refine sw_istore (i := 6) dL_law_425 (Nat.le_of_ble_eq_true rfl) rfl ?_
    refine sw_lo (lo2 := [some (.ref 1100), some (.ref 0), some (.ref 65), some (.ref 74), some (.int _), some (.int _), some (.int _), none, none]) rfl ?_
    refine sw_aload_n (i := 2) dL_law_427 rfl rfl ?_
    refine px_Vx mv_L_94 hth rfl rfl (Nat.le_of_ble_eq_true rfl) (Nat.le_of_ble_eq_true rfl) ko_65 (Nat.le_of_ble_eq_true rfl) dL_law_428 ?_
    refine sw_iload (i := 5) dL_law_431 rfl ?_
    refine sw_ins (pc2 := 433) rfl rfl ?_
    refine sw_ic_eq (tgt := 438) dL_law_433 rfl (fun _ => ?_) (fun h9 => absurd rfl h9)
    refine sw_iload (i := 5) dL_law_438 rfl ?_
    refine sw_if_ne (tgt := 455) dL_law_440 rfl (fun _ => ?_) (fun h9 => absurd h9 (nI_ne0 (by omega) (by omega)))
    refine sw_goto (tgt := 1612) dL_law_455 rfl ?_
    refine sw_iinc (i := 4) (v := nI (7 * (c + 1))) dL_law_1612 rfl (by show nI (7 * c) + nI 7 = _; exact nI_add _ _) (Nat.le_of_ble_eq_true rfl) rfl ?_
    refine sw_lo (lo2 := [some (.ref 1100), some (.ref 0), some (.ref 65), some (.ref 74), some (.int _), some (.int _), some (.int _), none, none]) rfl ?_
    refine sw_goto (tgt := 23) dL_law_1615 rfl ?_
    refine sw_sub ?_ y9
    exact ⟨rfl, rfl, rfl, rfl, rfl, trivial⟩
set_option maxRecDepth 100000 in
set_option maxHeartbeats 4000000 in
theorem K_4 {xt : List (Nat × Nat × Nat × Nat)} {L : Nat} {xs : Nat → Int32} {c f : Nat} {d : Nat → Nat → Int32} {r : Nat → Nat → Option Nat} {J : Nat → Nat → Int64} (hL : L ≤ 3584) (h7 : 7 * c + 7 ≤ L) (g : LI c d r) (hx : ∀ (d : Nat → Nat → Int32) (r : Nat → Nat → Option Nat) (J : Nat → Nat → Int64), LI (c + 1) d r → ∃ d1 r1 J1, SW yL_law cL_law 9 (some .boolean) xt 12 (some (L, xs)) 23 [some (.ref 1100), some (.ref 0), some (.ref 65), some (.ref 74), some (.int (nI (7 * (c + 1)))), none, none, none, none] [] 75 (W0 d r J) f (6 * f) (.inl (some (.int (nI 1)))) 75 (W0 d1 r1 J1)) : ∃ d1 r1 J1, SW yL_law cL_law 9 (some .boolean) xt 12 (some (L, xs)) 40 [some (.ref 1100), some (.ref 0), some (.ref 65), some (.ref 74), some (.int (nI (7 * c))), none, none, none, none] [.int (nI 4)] 75 (W0 d r J) (f + 1) (6 * (f + 1)) (.inl (some (.int (nI 1)))) 75 (W0 d1 r1 J1) := by
  obtain ⟨kk, b, d1, r1, J1, e1, hk, hw, hm, ht, hb, g2⟩ := G_set (J := J) (a1 := xs (7 * c + 1)) g (by omega)
  obtain ⟨d9, r9, J9, y9⟩ := hx e1 r1 J1 g2
  have hth := A_X7_thrown (d := e1) (r := r1) (J := J1) ht
  refine ⟨d9, r9, J9, ?_⟩
  by_cases kz : kk = 0
  ·
    refine sw_tabIn (off := 418) (tgt := 458) dL_law_40 (by decide) (by decide) (by decide) (by decide) ?_
    refine sw_aload_n (i := 1) dL_law_458 rfl rfl ?_
    refine sw_aload_n (i := 0) dL_law_459 rfl rfl ?_
    refine sw_iload (i := 4) dL_law_460 rfl ?_
    refine sw_ic 1 dL_law_462 ?_
    refine sw_iadd dL_law_463 ?_
    refine sw_sld rfl ((7 * c) + 1) (by simp only [nI_add, pk_mul]) (by omega) (by omega) dL_law_464 ?_
    refine sw_ins (pc2 := 465) rfl rfl ?_
    refine sw_aload_n (i := 3) dL_law_465 rfl rfl ?_
    refine px_Wx ms_L_108 hw rfl rfl (by decide) (Nat.le_of_ble_eq_true rfl) (Nat.le_of_ble_eq_true rfl) dL_law_466 ?_
    refine sw_istore (i := 5) dL_law_469 (Nat.le_of_ble_eq_true rfl) rfl ?_
    refine sw_lo (lo2 := [some (.ref 1100), some (.ref 0), some (.ref 65), some (.ref 74), some (.int _), some (.int _), none, none, none]) rfl ?_
    refine sw_aload_n (i := 2) dL_law_471 rfl rfl ?_
    refine sw_aload_n (i := 0) dL_law_472 rfl rfl ?_
    refine sw_iload (i := 4) dL_law_473 rfl ?_
    refine sw_ic 1 dL_law_475 ?_
    refine sw_iadd dL_law_476 ?_
    refine sw_ins (pc2 := 477) rfl rfl ?_
    refine sw_sld rfl ((7 * c) + 1) (by simp only [nI_add, pk_mul]) (by omega) (by omega) dL_law_477 ?_
    refine px_Vx mv_L_111 hm rfl rfl (Nat.le_of_ble_eq_true rfl) (Nat.le_of_ble_eq_true rfl) ko_65 (Nat.le_of_ble_eq_true rfl) dL_law_478 ?_
    refine sw_istore (i := 6) dL_law_481 (Nat.le_of_ble_eq_true rfl) rfl ?_
    refine sw_lo (lo2 := [some (.ref 1100), some (.ref 0), some (.ref 65), some (.ref 74), some (.int _), some (.int _), some (.int _), none, none]) rfl ?_
    refine sw_aload_n (i := 2) dL_law_483 rfl rfl ?_
    refine px_Vx mv_L_94 hth rfl rfl (Nat.le_of_ble_eq_true rfl) (Nat.le_of_ble_eq_true rfl) ko_65 (Nat.le_of_ble_eq_true rfl) dL_law_484 ?_
    refine sw_iload (i := 5) dL_law_487 rfl ?_
    refine sw_ic_eq (tgt := 494) dL_law_489 rfl (fun _ => ?_) (fun h9 => absurd rfl h9)
    refine sw_iload (i := 5) dL_law_494 rfl ?_
    refine sw_ins (pc2 := 496) rfl rfl ?_
    refine sw_if_ne (tgt := 511) dL_law_496 rfl (fun h9 => absurd (by rw [kz]; rfl) h9) (fun _ => ?_)
    refine sw_aload_n (i := 3) dL_law_499 rfl rfl ?_
    refine sw_ic 0 dL_law_500 ?_
    refine sx_lald (0) rfl rfl (by omega) dL_law_501 ?_
    rw [hb kz]
    refine sw_iload (i := 6) dL_law_502 rfl ?_
    refine sw_i2l dL_law_504 ?_
    refine sw_lcmp dL_law_505 ?_
    rw [lg_same]
    refine sw_if_eq (tgt := 511) dL_law_506 rfl (fun _ => ?_) (fun h9 => absurd (by decide) h9)
    refine sw_ins (pc2 := 511) rfl rfl ?_
    refine sw_goto (tgt := 1612) dL_law_511 rfl ?_
    refine sw_iinc (i := 4) (v := nI (7 * (c + 1))) dL_law_1612 rfl (by show nI (7 * c) + nI 7 = _; exact nI_add _ _) (Nat.le_of_ble_eq_true rfl) rfl ?_
    refine sw_lo (lo2 := [some (.ref 1100), some (.ref 0), some (.ref 65), some (.ref 74), some (.int _), some (.int _), some (.int _), none, none]) rfl ?_
    refine sw_goto (tgt := 23) dL_law_1615 rfl ?_
    refine sw_sub ?_ y9
    exact ⟨rfl, rfl, rfl, rfl, rfl, trivial⟩
  ·
    refine sw_tabIn (off := 418) (tgt := 458) dL_law_40 (by decide) (by decide) (by decide) (by decide) ?_
    refine sw_aload_n (i := 1) dL_law_458 rfl rfl ?_
    refine sw_aload_n (i := 0) dL_law_459 rfl rfl ?_
    refine sw_iload (i := 4) dL_law_460 rfl ?_
    refine sw_ic 1 dL_law_462 ?_
    refine sw_iadd dL_law_463 ?_
    refine sw_sld rfl ((7 * c) + 1) (by simp only [nI_add, pk_mul]) (by omega) (by omega) dL_law_464 ?_
    refine sw_ins (pc2 := 465) rfl rfl ?_
    refine sw_aload_n (i := 3) dL_law_465 rfl rfl ?_
    refine px_Wx ms_L_108 hw rfl rfl (by decide) (Nat.le_of_ble_eq_true rfl) (Nat.le_of_ble_eq_true rfl) dL_law_466 ?_
    refine sw_istore (i := 5) dL_law_469 (Nat.le_of_ble_eq_true rfl) rfl ?_
    refine sw_lo (lo2 := [some (.ref 1100), some (.ref 0), some (.ref 65), some (.ref 74), some (.int _), some (.int _), none, none, none]) rfl ?_
    refine sw_aload_n (i := 2) dL_law_471 rfl rfl ?_
    refine sw_aload_n (i := 0) dL_law_472 rfl rfl ?_
    refine sw_iload (i := 4) dL_law_473 rfl ?_
    refine sw_ic 1 dL_law_475 ?_
    refine sw_iadd dL_law_476 ?_
    refine sw_ins (pc2 := 477) rfl rfl ?_
    refine sw_sld rfl ((7 * c) + 1) (by simp only [nI_add, pk_mul]) (by omega) (by omega) dL_law_477 ?_
    refine px_Vx mv_L_111 hm rfl rfl (Nat.le_of_ble_eq_true rfl) (Nat.le_of_ble_eq_true rfl) ko_65 (Nat.le_of_ble_eq_true rfl) dL_law_478 ?_
    refine sw_istore (i := 6) dL_law_481 (Nat.le_of_ble_eq_true rfl) rfl ?_
    refine sw_lo (lo2 := [some (.ref 1100), some (.ref 0), some (.ref 65), some (.ref 74), some (.int _), some (.int _), some (.int _), none, none]) rfl ?_
    refine sw_aload_n (i := 2) dL_law_483 rfl rfl ?_
    refine px_Vx mv_L_94 hth rfl rfl (Nat.le_of_ble_eq_true rfl) (Nat.le_of_ble_eq_true rfl) ko_65 (Nat.le_of_ble_eq_true rfl) dL_law_484 ?_
    refine sw_iload (i := 5) dL_law_487 rfl ?_
    refine sw_ic_eq (tgt := 494) dL_law_489 rfl (fun _ => ?_) (fun h9 => absurd rfl h9)
    refine sw_iload (i := 5) dL_law_494 rfl ?_
    refine sw_ins (pc2 := 496) rfl rfl ?_
    refine sw_if_ne (tgt := 511) dL_law_496 rfl (fun _ => ?_) (fun h9 => absurd h9 (nI_ne0 (by omega) (by omega)))
    refine sw_goto (tgt := 1612) dL_law_511 rfl ?_
    refine sw_iinc (i := 4) (v := nI (7 * (c + 1))) dL_law_1612 rfl (by show nI (7 * c) + nI 7 = _; exact nI_add _ _) (Nat.le_of_ble_eq_true rfl) rfl ?_
    refine sw_lo (lo2 := [some (.ref 1100), some (.ref 0), some (.ref 65), some (.ref 74), some (.int _), some (.int _), some (.int _), none, none]) rfl ?_
    refine sw_goto (tgt := 23) dL_law_1615 rfl ?_
    refine sw_sub ?_ y9
    exact ⟨rfl, rfl, rfl, rfl, rfl, trivial⟩
set_option maxRecDepth 100000 in
set_option maxHeartbeats 4000000 in
theorem K_5 {xt : List (Nat × Nat × Nat × Nat)} {L : Nat} {xs : Nat → Int32} {c f : Nat} {d : Nat → Nat → Int32} {r : Nat → Nat → Option Nat} {J : Nat → Nat → Int64} (hL : L ≤ 3584) (h7 : 7 * c + 7 ≤ L) (g : LI c d r) (hx : ∀ (d : Nat → Nat → Int32) (r : Nat → Nat → Option Nat) (J : Nat → Nat → Int64), LI (c + 1) d r → ∃ d1 r1 J1, SW yL_law cL_law 9 (some .boolean) xt 12 (some (L, xs)) 23 [some (.ref 1100), some (.ref 0), some (.ref 65), some (.ref 74), some (.int (nI (7 * (c + 1)))), none, none, none, none] [] 75 (W0 d r J) f (6 * f) (.inl (some (.int (nI 1)))) 75 (W0 d1 r1 J1)) : ∃ d1 r1 J1, SW yL_law cL_law 9 (some .boolean) xt 12 (some (L, xs)) 40 [some (.ref 1100), some (.ref 0), some (.ref 65), some (.ref 74), some (.int (nI (7 * c))), none, none, none, none] [.int (nI 5)] 75 (W0 d r J) (f + 1) (6 * (f + 1)) (.inl (some (.int (nI 1)))) 75 (W0 d1 r1 J1) := by
  obtain ⟨kk, b, d1, r1, J1, e1, hk, hw, hm, ht, hb, g2⟩ := G_promise (J := J) (a1 := xs (7 * c + 1)) (a2 := xs (7 * c + 2)) (a3 := xs (7 * c + 3)) (a4 := xs (7 * c + 4)) g (by omega)
  obtain ⟨d9, r9, J9, y9⟩ := hx e1 r1 J1 g2
  have hth := A_X7_thrown (d := e1) (r := r1) (J := J1) ht
  refine ⟨d9, r9, J9, ?_⟩
  by_cases kz : kk = 0
  ·
    refine sw_tabIn (off := 474) (tgt := 514) dL_law_40 (by decide) (by decide) (by decide) (by decide) ?_
    refine sw_aload_n (i := 1) dL_law_514 rfl rfl ?_
    refine sw_aload_n (i := 0) dL_law_515 rfl rfl ?_
    refine sw_iload (i := 4) dL_law_516 rfl ?_
    refine sw_ic 1 dL_law_518 ?_
    refine sw_iadd dL_law_519 ?_
    refine sw_sld rfl ((7 * c) + 1) (by simp only [nI_add, pk_mul]) (by omega) (by omega) dL_law_520 ?_
    refine sw_ins (pc2 := 521) rfl rfl ?_
    refine sw_aload_n (i := 0) dL_law_521 rfl rfl ?_
    refine sw_iload (i := 4) dL_law_522 rfl ?_
    refine sw_ic 2 dL_law_524 ?_
    refine sw_iadd dL_law_525 ?_
    refine sw_sld rfl ((7 * c) + 2) (by simp only [nI_add, pk_mul]) (by omega) (by omega) dL_law_526 ?_
    refine sw_aload_n (i := 0) dL_law_527 rfl rfl ?_
    refine sw_iload (i := 4) dL_law_528 rfl ?_
    refine sw_ic 3 dL_law_530 ?_
    refine sw_ins (pc2 := 531) rfl rfl ?_
    refine sw_iadd dL_law_531 ?_
    refine sw_sld rfl ((7 * c) + 3) (by simp only [nI_add, pk_mul]) (by omega) (by omega) dL_law_532 ?_
    refine sw_aload_n (i := 0) dL_law_533 rfl rfl ?_
    refine sw_iload (i := 4) dL_law_534 rfl ?_
    refine sw_ic 4 dL_law_536 ?_
    refine sw_iadd dL_law_537 ?_
    refine sw_sld rfl ((7 * c) + 4) (by simp only [nI_add, pk_mul]) (by omega) (by omega) dL_law_538 ?_
    refine sw_aload_n (i := 3) dL_law_539 rfl rfl ?_
    refine px_Wx ms_L_112 hw rfl rfl (by decide) (Nat.le_of_ble_eq_true rfl) (Nat.le_of_ble_eq_true rfl) dL_law_540 ?_
    refine sw_istore (i := 5) dL_law_543 (Nat.le_of_ble_eq_true rfl) rfl ?_
    refine sw_lo (lo2 := [some (.ref 1100), some (.ref 0), some (.ref 65), some (.ref 74), some (.int _), some (.int _), none, none, none]) rfl ?_
    refine sw_aload_n (i := 2) dL_law_545 rfl rfl ?_
    refine sw_aload_n (i := 0) dL_law_546 rfl rfl ?_
    refine sw_iload (i := 4) dL_law_547 rfl ?_
    refine sw_ic 1 dL_law_549 ?_
    refine sw_iadd dL_law_550 ?_
    refine sw_sld rfl ((7 * c) + 1) (by simp only [nI_add, pk_mul]) (by omega) (by omega) dL_law_551 ?_
    refine sw_ins (pc2 := 552) rfl rfl ?_
    refine sw_aload_n (i := 0) dL_law_552 rfl rfl ?_
    refine sw_iload (i := 4) dL_law_553 rfl ?_
    refine sw_ic 2 dL_law_555 ?_
    refine sw_iadd dL_law_556 ?_
    refine sw_sld rfl ((7 * c) + 2) (by simp only [nI_add, pk_mul]) (by omega) (by omega) dL_law_557 ?_
    refine sw_aload_n (i := 0) dL_law_558 rfl rfl ?_
    refine sw_iload (i := 4) dL_law_559 rfl ?_
    refine sw_ic 3 dL_law_561 ?_
    refine sw_ins (pc2 := 562) rfl rfl ?_
    refine sw_iadd dL_law_562 ?_
    refine sw_sld rfl ((7 * c) + 3) (by simp only [nI_add, pk_mul]) (by omega) (by omega) dL_law_563 ?_
    refine sw_aload_n (i := 0) dL_law_564 rfl rfl ?_
    refine sw_iload (i := 4) dL_law_565 rfl ?_
    refine sw_ic 4 dL_law_567 ?_
    refine sw_iadd dL_law_568 ?_
    refine sw_sld rfl ((7 * c) + 4) (by simp only [nI_add, pk_mul]) (by omega) (by omega) dL_law_569 ?_
    refine px_Vx mv_L_115 hm rfl rfl (Nat.le_of_ble_eq_true rfl) (Nat.le_of_ble_eq_true rfl) ko_65 (Nat.le_of_ble_eq_true rfl) dL_law_570 ?_
    refine sw_ins (pc2 := 573) rfl rfl ?_
    refine sw_istore (i := 6) dL_law_573 (Nat.le_of_ble_eq_true rfl) rfl ?_
    refine sw_lo (lo2 := [some (.ref 1100), some (.ref 0), some (.ref 65), some (.ref 74), some (.int _), some (.int _), some (.int _), none, none]) rfl ?_
    refine sw_aload_n (i := 2) dL_law_575 rfl rfl ?_
    refine px_Vx mv_L_94 hth rfl rfl (Nat.le_of_ble_eq_true rfl) (Nat.le_of_ble_eq_true rfl) ko_65 (Nat.le_of_ble_eq_true rfl) dL_law_576 ?_
    refine sw_iload (i := 5) dL_law_579 rfl ?_
    refine sw_ic_eq (tgt := 586) dL_law_581 rfl (fun _ => ?_) (fun h9 => absurd rfl h9)
    refine sw_iload (i := 5) dL_law_586 rfl ?_
    refine sw_if_ne (tgt := 603) dL_law_588 rfl (fun h9 => absurd (by rw [kz]; rfl) h9) (fun _ => ?_)
    refine sw_aload_n (i := 3) dL_law_591 rfl rfl ?_
    refine sw_ins (pc2 := 592) rfl rfl ?_
    refine sw_ic 0 dL_law_592 ?_
    refine sx_lald (0) rfl rfl (by omega) dL_law_593 ?_
    rw [hb kz]
    refine sw_iload (i := 6) dL_law_594 rfl ?_
    refine sw_i2l dL_law_596 ?_
    refine sw_lcmp dL_law_597 ?_
    rw [lg_same]
    refine sw_if_eq (tgt := 603) dL_law_598 rfl (fun _ => ?_) (fun h9 => absurd (by decide) h9)
    refine sw_goto (tgt := 1612) dL_law_603 rfl ?_
    refine sw_iinc (i := 4) (v := nI (7 * (c + 1))) dL_law_1612 rfl (by show nI (7 * c) + nI 7 = _; exact nI_add _ _) (Nat.le_of_ble_eq_true rfl) rfl ?_
    refine sw_lo (lo2 := [some (.ref 1100), some (.ref 0), some (.ref 65), some (.ref 74), some (.int _), some (.int _), some (.int _), none, none]) rfl ?_
    refine sw_ins (pc2 := 1615) rfl rfl ?_
    refine sw_goto (tgt := 23) dL_law_1615 rfl ?_
    refine sw_sub ?_ y9
    exact ⟨rfl, rfl, rfl, rfl, rfl, trivial⟩
  ·
    refine sw_tabIn (off := 474) (tgt := 514) dL_law_40 (by decide) (by decide) (by decide) (by decide) ?_
    refine sw_aload_n (i := 1) dL_law_514 rfl rfl ?_
    refine sw_aload_n (i := 0) dL_law_515 rfl rfl ?_
    refine sw_iload (i := 4) dL_law_516 rfl ?_
    refine sw_ic 1 dL_law_518 ?_
    refine sw_iadd dL_law_519 ?_
    refine sw_sld rfl ((7 * c) + 1) (by simp only [nI_add, pk_mul]) (by omega) (by omega) dL_law_520 ?_
    refine sw_ins (pc2 := 521) rfl rfl ?_
    refine sw_aload_n (i := 0) dL_law_521 rfl rfl ?_
    refine sw_iload (i := 4) dL_law_522 rfl ?_
    refine sw_ic 2 dL_law_524 ?_
    refine sw_iadd dL_law_525 ?_
    refine sw_sld rfl ((7 * c) + 2) (by simp only [nI_add, pk_mul]) (by omega) (by omega) dL_law_526 ?_
    refine sw_aload_n (i := 0) dL_law_527 rfl rfl ?_
    refine sw_iload (i := 4) dL_law_528 rfl ?_
    refine sw_ic 3 dL_law_530 ?_
    refine sw_ins (pc2 := 531) rfl rfl ?_
    refine sw_iadd dL_law_531 ?_
    refine sw_sld rfl ((7 * c) + 3) (by simp only [nI_add, pk_mul]) (by omega) (by omega) dL_law_532 ?_
    refine sw_aload_n (i := 0) dL_law_533 rfl rfl ?_
    refine sw_iload (i := 4) dL_law_534 rfl ?_
    refine sw_ic 4 dL_law_536 ?_
    refine sw_iadd dL_law_537 ?_
    refine sw_sld rfl ((7 * c) + 4) (by simp only [nI_add, pk_mul]) (by omega) (by omega) dL_law_538 ?_
    refine sw_aload_n (i := 3) dL_law_539 rfl rfl ?_
    refine px_Wx ms_L_112 hw rfl rfl (by decide) (Nat.le_of_ble_eq_true rfl) (Nat.le_of_ble_eq_true rfl) dL_law_540 ?_
    refine sw_istore (i := 5) dL_law_543 (Nat.le_of_ble_eq_true rfl) rfl ?_
    refine sw_lo (lo2 := [some (.ref 1100), some (.ref 0), some (.ref 65), some (.ref 74), some (.int _), some (.int _), none, none, none]) rfl ?_
    refine sw_aload_n (i := 2) dL_law_545 rfl rfl ?_
    refine sw_aload_n (i := 0) dL_law_546 rfl rfl ?_
    refine sw_iload (i := 4) dL_law_547 rfl ?_
    refine sw_ic 1 dL_law_549 ?_
    refine sw_iadd dL_law_550 ?_
    refine sw_sld rfl ((7 * c) + 1) (by simp only [nI_add, pk_mul]) (by omega) (by omega) dL_law_551 ?_
    refine sw_ins (pc2 := 552) rfl rfl ?_
    refine sw_aload_n (i := 0) dL_law_552 rfl rfl ?_
    refine sw_iload (i := 4) dL_law_553 rfl ?_
    refine sw_ic 2 dL_law_555 ?_
    refine sw_iadd dL_law_556 ?_
    refine sw_sld rfl ((7 * c) + 2) (by simp only [nI_add, pk_mul]) (by omega) (by omega) dL_law_557 ?_
    refine sw_aload_n (i := 0) dL_law_558 rfl rfl ?_
    refine sw_iload (i := 4) dL_law_559 rfl ?_
    refine sw_ic 3 dL_law_561 ?_
    refine sw_ins (pc2 := 562) rfl rfl ?_
    refine sw_iadd dL_law_562 ?_
    refine sw_sld rfl ((7 * c) + 3) (by simp only [nI_add, pk_mul]) (by omega) (by omega) dL_law_563 ?_
    refine sw_aload_n (i := 0) dL_law_564 rfl rfl ?_
    refine sw_iload (i := 4) dL_law_565 rfl ?_
    refine sw_ic 4 dL_law_567 ?_
    refine sw_iadd dL_law_568 ?_
    refine sw_sld rfl ((7 * c) + 4) (by simp only [nI_add, pk_mul]) (by omega) (by omega) dL_law_569 ?_
    refine px_Vx mv_L_115 hm rfl rfl (Nat.le_of_ble_eq_true rfl) (Nat.le_of_ble_eq_true rfl) ko_65 (Nat.le_of_ble_eq_true rfl) dL_law_570 ?_
    refine sw_ins (pc2 := 573) rfl rfl ?_
    refine sw_istore (i := 6) dL_law_573 (Nat.le_of_ble_eq_true rfl) rfl ?_
    refine sw_lo (lo2 := [some (.ref 1100), some (.ref 0), some (.ref 65), some (.ref 74), some (.int _), some (.int _), some (.int _), none, none]) rfl ?_
    refine sw_aload_n (i := 2) dL_law_575 rfl rfl ?_
    refine px_Vx mv_L_94 hth rfl rfl (Nat.le_of_ble_eq_true rfl) (Nat.le_of_ble_eq_true rfl) ko_65 (Nat.le_of_ble_eq_true rfl) dL_law_576 ?_
    refine sw_iload (i := 5) dL_law_579 rfl ?_
    refine sw_ic_eq (tgt := 586) dL_law_581 rfl (fun _ => ?_) (fun h9 => absurd rfl h9)
    refine sw_iload (i := 5) dL_law_586 rfl ?_
    refine sw_if_ne (tgt := 603) dL_law_588 rfl (fun _ => ?_) (fun h9 => absurd h9 (nI_ne0 (by omega) (by omega)))
    refine sw_goto (tgt := 1612) dL_law_603 rfl ?_
    refine sw_iinc (i := 4) (v := nI (7 * (c + 1))) dL_law_1612 rfl (by show nI (7 * c) + nI 7 = _; exact nI_add _ _) (Nat.le_of_ble_eq_true rfl) rfl ?_
    refine sw_lo (lo2 := [some (.ref 1100), some (.ref 0), some (.ref 65), some (.ref 74), some (.int _), some (.int _), some (.int _), none, none]) rfl ?_
    refine sw_goto (tgt := 23) dL_law_1615 rfl ?_
    refine sw_sub ?_ y9
    exact ⟨rfl, rfl, rfl, rfl, rfl, trivial⟩
set_option maxRecDepth 100000 in
set_option maxHeartbeats 4000000 in
theorem K_6 {xt : List (Nat × Nat × Nat × Nat)} {L : Nat} {xs : Nat → Int32} {c f : Nat} {d : Nat → Nat → Int32} {r : Nat → Nat → Option Nat} {J : Nat → Nat → Int64} (hL : L ≤ 3584) (h7 : 7 * c + 7 ≤ L) (g : LI c d r) (hx : ∀ (d : Nat → Nat → Int32) (r : Nat → Nat → Option Nat) (J : Nat → Nat → Int64), LI (c + 1) d r → ∃ d1 r1 J1, SW yL_law cL_law 9 (some .boolean) xt 12 (some (L, xs)) 23 [some (.ref 1100), some (.ref 0), some (.ref 65), some (.ref 74), some (.int (nI (7 * (c + 1)))), none, none, none, none] [] 75 (W0 d r J) f (6 * f) (.inl (some (.int (nI 1)))) 75 (W0 d1 r1 J1)) : ∃ d1 r1 J1, SW yL_law cL_law 9 (some .boolean) xt 12 (some (L, xs)) 40 [some (.ref 1100), some (.ref 0), some (.ref 65), some (.ref 74), some (.int (nI (7 * c))), none, none, none, none] [.int (nI 6)] 75 (W0 d r J) (f + 1) (6 * (f + 1)) (.inl (some (.int (nI 1)))) 75 (W0 d1 r1 J1) := by
  obtain ⟨kk, b, d1, r1, J1, e1, hk, hw, hm, ht, hb, g2⟩ := G_fulfil (J := J) (a1 := xs (7 * c + 1)) g (by omega)
  obtain ⟨d9, r9, J9, y9⟩ := hx e1 r1 J1 g2
  have hth := A_X7_thrown (d := e1) (r := r1) (J := J1) ht
  refine ⟨d9, r9, J9, ?_⟩
  by_cases kz : kk = 0
  ·
    refine sw_tabIn (off := 566) (tgt := 606) dL_law_40 (by decide) (by decide) (by decide) (by decide) ?_
    refine sw_aload_n (i := 1) dL_law_606 rfl rfl ?_
    refine sw_aload_n (i := 0) dL_law_607 rfl rfl ?_
    refine sw_iload (i := 4) dL_law_608 rfl ?_
    refine sw_ic 1 dL_law_610 ?_
    refine sw_iadd dL_law_611 ?_
    refine sw_sld rfl ((7 * c) + 1) (by simp only [nI_add, pk_mul]) (by omega) (by omega) dL_law_612 ?_
    refine sw_ins (pc2 := 613) rfl rfl ?_
    refine sw_aload_n (i := 3) dL_law_613 rfl rfl ?_
    refine px_Wx ms_L_116 hw rfl rfl (by decide) (Nat.le_of_ble_eq_true rfl) (Nat.le_of_ble_eq_true rfl) dL_law_614 ?_
    refine sw_istore (i := 5) dL_law_617 (Nat.le_of_ble_eq_true rfl) rfl ?_
    refine sw_lo (lo2 := [some (.ref 1100), some (.ref 0), some (.ref 65), some (.ref 74), some (.int _), some (.int _), none, none, none]) rfl ?_
    refine sw_aload_n (i := 2) dL_law_619 rfl rfl ?_
    refine sw_aload_n (i := 0) dL_law_620 rfl rfl ?_
    refine sw_iload (i := 4) dL_law_621 rfl ?_
    refine sw_ic 1 dL_law_623 ?_
    refine sw_iadd dL_law_624 ?_
    refine sw_ins (pc2 := 625) rfl rfl ?_
    refine sw_sld rfl ((7 * c) + 1) (by simp only [nI_add, pk_mul]) (by omega) (by omega) dL_law_625 ?_
    refine px_Vx mv_L_118 hm rfl rfl (Nat.le_of_ble_eq_true rfl) (Nat.le_of_ble_eq_true rfl) ko_65 (Nat.le_of_ble_eq_true rfl) dL_law_626 ?_
    refine sw_istore (i := 6) dL_law_629 (Nat.le_of_ble_eq_true rfl) rfl ?_
    refine sw_lo (lo2 := [some (.ref 1100), some (.ref 0), some (.ref 65), some (.ref 74), some (.int _), some (.int _), some (.int _), none, none]) rfl ?_
    refine sw_aload_n (i := 2) dL_law_631 rfl rfl ?_
    refine px_Vx mv_L_94 hth rfl rfl (Nat.le_of_ble_eq_true rfl) (Nat.le_of_ble_eq_true rfl) ko_65 (Nat.le_of_ble_eq_true rfl) dL_law_632 ?_
    refine sw_iload (i := 5) dL_law_635 rfl ?_
    refine sw_ic_eq (tgt := 642) dL_law_637 rfl (fun _ => ?_) (fun h9 => absurd rfl h9)
    refine sw_iload (i := 5) dL_law_642 rfl ?_
    refine sw_ins (pc2 := 644) rfl rfl ?_
    refine sw_if_ne (tgt := 659) dL_law_644 rfl (fun h9 => absurd (by rw [kz]; rfl) h9) (fun _ => ?_)
    refine sw_aload_n (i := 3) dL_law_647 rfl rfl ?_
    refine sw_ic 0 dL_law_648 ?_
    refine sx_lald (0) rfl rfl (by omega) dL_law_649 ?_
    rw [hb kz]
    refine sw_iload (i := 6) dL_law_650 rfl ?_
    refine sw_i2l dL_law_652 ?_
    refine sw_lcmp dL_law_653 ?_
    rw [lg_same]
    refine sw_if_eq (tgt := 659) dL_law_654 rfl (fun _ => ?_) (fun h9 => absurd (by decide) h9)
    refine sw_ins (pc2 := 659) rfl rfl ?_
    refine sw_goto (tgt := 1612) dL_law_659 rfl ?_
    refine sw_iinc (i := 4) (v := nI (7 * (c + 1))) dL_law_1612 rfl (by show nI (7 * c) + nI 7 = _; exact nI_add _ _) (Nat.le_of_ble_eq_true rfl) rfl ?_
    refine sw_lo (lo2 := [some (.ref 1100), some (.ref 0), some (.ref 65), some (.ref 74), some (.int _), some (.int _), some (.int _), none, none]) rfl ?_
    refine sw_goto (tgt := 23) dL_law_1615 rfl ?_
    refine sw_sub ?_ y9
    exact ⟨rfl, rfl, rfl, rfl, rfl, trivial⟩
  ·
    refine sw_tabIn (off := 566) (tgt := 606) dL_law_40 (by decide) (by decide) (by decide) (by decide) ?_
    refine sw_aload_n (i := 1) dL_law_606 rfl rfl ?_
    refine sw_aload_n (i := 0) dL_law_607 rfl rfl ?_
    refine sw_iload (i := 4) dL_law_608 rfl ?_
    refine sw_ic 1 dL_law_610 ?_
    refine sw_iadd dL_law_611 ?_
    refine sw_sld rfl ((7 * c) + 1) (by simp only [nI_add, pk_mul]) (by omega) (by omega) dL_law_612 ?_
    refine sw_ins (pc2 := 613) rfl rfl ?_
    refine sw_aload_n (i := 3) dL_law_613 rfl rfl ?_
    refine px_Wx ms_L_116 hw rfl rfl (by decide) (Nat.le_of_ble_eq_true rfl) (Nat.le_of_ble_eq_true rfl) dL_law_614 ?_
    refine sw_istore (i := 5) dL_law_617 (Nat.le_of_ble_eq_true rfl) rfl ?_
    refine sw_lo (lo2 := [some (.ref 1100), some (.ref 0), some (.ref 65), some (.ref 74), some (.int _), some (.int _), none, none, none]) rfl ?_
    refine sw_aload_n (i := 2) dL_law_619 rfl rfl ?_
    refine sw_aload_n (i := 0) dL_law_620 rfl rfl ?_
    refine sw_iload (i := 4) dL_law_621 rfl ?_
    refine sw_ic 1 dL_law_623 ?_
    refine sw_iadd dL_law_624 ?_
    refine sw_ins (pc2 := 625) rfl rfl ?_
    refine sw_sld rfl ((7 * c) + 1) (by simp only [nI_add, pk_mul]) (by omega) (by omega) dL_law_625 ?_
    refine px_Vx mv_L_118 hm rfl rfl (Nat.le_of_ble_eq_true rfl) (Nat.le_of_ble_eq_true rfl) ko_65 (Nat.le_of_ble_eq_true rfl) dL_law_626 ?_
    refine sw_istore (i := 6) dL_law_629 (Nat.le_of_ble_eq_true rfl) rfl ?_
    refine sw_lo (lo2 := [some (.ref 1100), some (.ref 0), some (.ref 65), some (.ref 74), some (.int _), some (.int _), some (.int _), none, none]) rfl ?_
    refine sw_aload_n (i := 2) dL_law_631 rfl rfl ?_
    refine px_Vx mv_L_94 hth rfl rfl (Nat.le_of_ble_eq_true rfl) (Nat.le_of_ble_eq_true rfl) ko_65 (Nat.le_of_ble_eq_true rfl) dL_law_632 ?_
    refine sw_iload (i := 5) dL_law_635 rfl ?_
    refine sw_ic_eq (tgt := 642) dL_law_637 rfl (fun _ => ?_) (fun h9 => absurd rfl h9)
    refine sw_iload (i := 5) dL_law_642 rfl ?_
    refine sw_ins (pc2 := 644) rfl rfl ?_
    refine sw_if_ne (tgt := 659) dL_law_644 rfl (fun _ => ?_) (fun h9 => absurd h9 (nI_ne0 (by omega) (by omega)))
    refine sw_goto (tgt := 1612) dL_law_659 rfl ?_
    refine sw_iinc (i := 4) (v := nI (7 * (c + 1))) dL_law_1612 rfl (by show nI (7 * c) + nI 7 = _; exact nI_add _ _) (Nat.le_of_ble_eq_true rfl) rfl ?_
    refine sw_lo (lo2 := [some (.ref 1100), some (.ref 0), some (.ref 65), some (.ref 74), some (.int _), some (.int _), some (.int _), none, none]) rfl ?_
    refine sw_goto (tgt := 23) dL_law_1615 rfl ?_
    refine sw_sub ?_ y9
    exact ⟨rfl, rfl, rfl, rfl, rfl, trivial⟩
set_option maxRecDepth 100000 in
set_option maxHeartbeats 4000000 in
theorem K_7 {xt : List (Nat × Nat × Nat × Nat)} {L : Nat} {xs : Nat → Int32} {c f : Nat} {d : Nat → Nat → Int32} {r : Nat → Nat → Option Nat} {J : Nat → Nat → Int64} (hL : L ≤ 3584) (h7 : 7 * c + 7 ≤ L) (g : LI c d r) (hx : ∀ (d : Nat → Nat → Int32) (r : Nat → Nat → Option Nat) (J : Nat → Nat → Int64), LI (c + 1) d r → ∃ d1 r1 J1, SW yL_law cL_law 9 (some .boolean) xt 12 (some (L, xs)) 23 [some (.ref 1100), some (.ref 0), some (.ref 65), some (.ref 74), some (.int (nI (7 * (c + 1)))), none, none, none, none] [] 75 (W0 d r J) f (6 * f) (.inl (some (.int (nI 1)))) 75 (W0 d1 r1 J1)) : ∃ d1 r1 J1, SW yL_law cL_law 9 (some .boolean) xt 12 (some (L, xs)) 40 [some (.ref 1100), some (.ref 0), some (.ref 65), some (.ref 74), some (.int (nI (7 * c))), none, none, none, none] [.int (nI 7)] 75 (W0 d r J) (f + 1) (6 * (f + 1)) (.inl (some (.int (nI 1)))) 75 (W0 d1 r1 J1) := by
  obtain ⟨kk, b, d1, r1, J1, e1, hk, hw, hm, ht, hb, g2⟩ := G_append (J := J) (a1 := xs (7 * c + 1)) g (by omega)
  obtain ⟨d9, r9, J9, y9⟩ := hx e1 r1 J1 g2
  have hth := A_X7_thrown (d := e1) (r := r1) (J := J1) ht
  refine ⟨d9, r9, J9, ?_⟩
  by_cases kz : kk = 0
  ·
    refine sw_tabIn (off := 622) (tgt := 662) dL_law_40 (by decide) (by decide) (by decide) (by decide) ?_
    refine sw_aload_n (i := 1) dL_law_662 rfl rfl ?_
    refine sw_aload_n (i := 0) dL_law_663 rfl rfl ?_
    refine sw_iload (i := 4) dL_law_664 rfl ?_
    refine sw_ic 1 dL_law_666 ?_
    refine sw_iadd dL_law_667 ?_
    refine sw_sld rfl ((7 * c) + 1) (by simp only [nI_add, pk_mul]) (by omega) (by omega) dL_law_668 ?_
    refine sw_ins (pc2 := 669) rfl rfl ?_
    refine sw_aload_n (i := 3) dL_law_669 rfl rfl ?_
    refine px_Wx ms_L_119 hw rfl rfl (by decide) (Nat.le_of_ble_eq_true rfl) (Nat.le_of_ble_eq_true rfl) dL_law_670 ?_
    refine sw_istore (i := 5) dL_law_673 (Nat.le_of_ble_eq_true rfl) rfl ?_
    refine sw_lo (lo2 := [some (.ref 1100), some (.ref 0), some (.ref 65), some (.ref 74), some (.int _), some (.int _), none, none, none]) rfl ?_
    refine sw_aload_n (i := 2) dL_law_675 rfl rfl ?_
    refine sw_aload_n (i := 0) dL_law_676 rfl rfl ?_
    refine sw_iload (i := 4) dL_law_677 rfl ?_
    refine sw_ic 1 dL_law_679 ?_
    refine sw_iadd dL_law_680 ?_
    refine sw_ins (pc2 := 681) rfl rfl ?_
    refine sw_sld rfl ((7 * c) + 1) (by simp only [nI_add, pk_mul]) (by omega) (by omega) dL_law_681 ?_
    refine px_Vx mv_L_121 hm rfl rfl (Nat.le_of_ble_eq_true rfl) (Nat.le_of_ble_eq_true rfl) ko_65 (Nat.le_of_ble_eq_true rfl) dL_law_682 ?_
    refine sw_istore (i := 6) dL_law_685 (Nat.le_of_ble_eq_true rfl) rfl ?_
    refine sw_lo (lo2 := [some (.ref 1100), some (.ref 0), some (.ref 65), some (.ref 74), some (.int _), some (.int _), some (.int _), none, none]) rfl ?_
    refine sw_aload_n (i := 2) dL_law_687 rfl rfl ?_
    refine px_Vx mv_L_94 hth rfl rfl (Nat.le_of_ble_eq_true rfl) (Nat.le_of_ble_eq_true rfl) ko_65 (Nat.le_of_ble_eq_true rfl) dL_law_688 ?_
    refine sw_iload (i := 5) dL_law_691 rfl ?_
    refine sw_ic_eq (tgt := 698) dL_law_693 rfl (fun _ => ?_) (fun h9 => absurd rfl h9)
    refine sw_iload (i := 5) dL_law_698 rfl ?_
    refine sw_ins (pc2 := 700) rfl rfl ?_
    refine sw_if_ne (tgt := 715) dL_law_700 rfl (fun h9 => absurd (by rw [kz]; rfl) h9) (fun _ => ?_)
    refine sw_aload_n (i := 3) dL_law_703 rfl rfl ?_
    refine sw_ic 0 dL_law_704 ?_
    refine sx_lald (0) rfl rfl (by omega) dL_law_705 ?_
    rw [hb kz]
    refine sw_iload (i := 6) dL_law_706 rfl ?_
    refine sw_i2l dL_law_708 ?_
    refine sw_lcmp dL_law_709 ?_
    rw [lg_same]
    refine sw_if_eq (tgt := 715) dL_law_710 rfl (fun _ => ?_) (fun h9 => absurd (by decide) h9)
    refine sw_ins (pc2 := 715) rfl rfl ?_
    refine sw_goto (tgt := 1612) dL_law_715 rfl ?_
    refine sw_iinc (i := 4) (v := nI (7 * (c + 1))) dL_law_1612 rfl (by show nI (7 * c) + nI 7 = _; exact nI_add _ _) (Nat.le_of_ble_eq_true rfl) rfl ?_
    refine sw_lo (lo2 := [some (.ref 1100), some (.ref 0), some (.ref 65), some (.ref 74), some (.int _), some (.int _), some (.int _), none, none]) rfl ?_
    refine sw_goto (tgt := 23) dL_law_1615 rfl ?_
    refine sw_sub ?_ y9
    exact ⟨rfl, rfl, rfl, rfl, rfl, trivial⟩
  ·
    refine sw_tabIn (off := 622) (tgt := 662) dL_law_40 (by decide) (by decide) (by decide) (by decide) ?_
    refine sw_aload_n (i := 1) dL_law_662 rfl rfl ?_
    refine sw_aload_n (i := 0) dL_law_663 rfl rfl ?_
    refine sw_iload (i := 4) dL_law_664 rfl ?_
    refine sw_ic 1 dL_law_666 ?_
    refine sw_iadd dL_law_667 ?_
    refine sw_sld rfl ((7 * c) + 1) (by simp only [nI_add, pk_mul]) (by omega) (by omega) dL_law_668 ?_
    refine sw_ins (pc2 := 669) rfl rfl ?_
    refine sw_aload_n (i := 3) dL_law_669 rfl rfl ?_
    refine px_Wx ms_L_119 hw rfl rfl (by decide) (Nat.le_of_ble_eq_true rfl) (Nat.le_of_ble_eq_true rfl) dL_law_670 ?_
    refine sw_istore (i := 5) dL_law_673 (Nat.le_of_ble_eq_true rfl) rfl ?_
    refine sw_lo (lo2 := [some (.ref 1100), some (.ref 0), some (.ref 65), some (.ref 74), some (.int _), some (.int _), none, none, none]) rfl ?_
    refine sw_aload_n (i := 2) dL_law_675 rfl rfl ?_
    refine sw_aload_n (i := 0) dL_law_676 rfl rfl ?_
    refine sw_iload (i := 4) dL_law_677 rfl ?_
    refine sw_ic 1 dL_law_679 ?_
    refine sw_iadd dL_law_680 ?_
    refine sw_ins (pc2 := 681) rfl rfl ?_
    refine sw_sld rfl ((7 * c) + 1) (by simp only [nI_add, pk_mul]) (by omega) (by omega) dL_law_681 ?_
    refine px_Vx mv_L_121 hm rfl rfl (Nat.le_of_ble_eq_true rfl) (Nat.le_of_ble_eq_true rfl) ko_65 (Nat.le_of_ble_eq_true rfl) dL_law_682 ?_
    refine sw_istore (i := 6) dL_law_685 (Nat.le_of_ble_eq_true rfl) rfl ?_
    refine sw_lo (lo2 := [some (.ref 1100), some (.ref 0), some (.ref 65), some (.ref 74), some (.int _), some (.int _), some (.int _), none, none]) rfl ?_
    refine sw_aload_n (i := 2) dL_law_687 rfl rfl ?_
    refine px_Vx mv_L_94 hth rfl rfl (Nat.le_of_ble_eq_true rfl) (Nat.le_of_ble_eq_true rfl) ko_65 (Nat.le_of_ble_eq_true rfl) dL_law_688 ?_
    refine sw_iload (i := 5) dL_law_691 rfl ?_
    refine sw_ic_eq (tgt := 698) dL_law_693 rfl (fun _ => ?_) (fun h9 => absurd rfl h9)
    refine sw_iload (i := 5) dL_law_698 rfl ?_
    refine sw_ins (pc2 := 700) rfl rfl ?_
    refine sw_if_ne (tgt := 715) dL_law_700 rfl (fun _ => ?_) (fun h9 => absurd h9 (nI_ne0 (by omega) (by omega)))
    refine sw_goto (tgt := 1612) dL_law_715 rfl ?_
    refine sw_iinc (i := 4) (v := nI (7 * (c + 1))) dL_law_1612 rfl (by show nI (7 * c) + nI 7 = _; exact nI_add _ _) (Nat.le_of_ble_eq_true rfl) rfl ?_
    refine sw_lo (lo2 := [some (.ref 1100), some (.ref 0), some (.ref 65), some (.ref 74), some (.int _), some (.int _), some (.int _), none, none]) rfl ?_
    refine sw_goto (tgt := 23) dL_law_1615 rfl ?_
    refine sw_sub ?_ y9
    exact ⟨rfl, rfl, rfl, rfl, rfl, trivial⟩
set_option maxRecDepth 100000 in
set_option maxHeartbeats 4000000 in
theorem K_8 {xt : List (Nat × Nat × Nat × Nat)} {L : Nat} {xs : Nat → Int32} {c f : Nat} {d : Nat → Nat → Int32} {r : Nat → Nat → Option Nat} {J : Nat → Nat → Int64} (hL : L ≤ 3584) (h7 : 7 * c + 7 ≤ L) (g : LI c d r) (hx : ∀ (d : Nat → Nat → Int32) (r : Nat → Nat → Option Nat) (J : Nat → Nat → Int64), LI (c + 1) d r → ∃ d1 r1 J1, SW yL_law cL_law 9 (some .boolean) xt 12 (some (L, xs)) 23 [some (.ref 1100), some (.ref 0), some (.ref 65), some (.ref 74), some (.int (nI (7 * (c + 1)))), none, none, none, none] [] 75 (W0 d r J) f (6 * f) (.inl (some (.int (nI 1)))) 75 (W0 d1 r1 J1)) : ∃ d1 r1 J1, SW yL_law cL_law 9 (some .boolean) xt 12 (some (L, xs)) 40 [some (.ref 1100), some (.ref 0), some (.ref 65), some (.ref 74), some (.int (nI (7 * c))), none, none, none, none] [.int (nI 8)] 75 (W0 d r J) (f + 1) (6 * (f + 1)) (.inl (some (.int (nI 1)))) 75 (W0 d1 r1 J1) := by
  obtain ⟨b, d1, r1, e1, J1, hQ, hw, hm, g2⟩ := G_clearBuffer (J := J) g (by omega)
  obtain ⟨d9, r9, J9, y9⟩ := hx e1 r1 J1 g2
  refine ⟨d9, r9, J9, sw_less (k2 := f) (n2 := 6 * f) (by omega) (by omega) ?_⟩
  refine sw_tabIn (off := 678) (tgt := 718) dL_law_40 (by decide) (by decide) (by decide) (by decide) ?_
  refine sw_aload_n (i := 1) dL_law_718 rfl rfl ?_
  refine px_Vx mv_L_122 hw rfl rfl (Nat.le_of_ble_eq_true rfl) (Nat.le_of_ble_eq_true rfl) ko_0 (Nat.le_of_ble_eq_true rfl) dL_law_719 ?_
  refine sw_aload_n (i := 2) dL_law_722 rfl rfl ?_
  refine px_Vx mv_L_125 hm rfl rfl (Nat.le_of_ble_eq_true rfl) (Nat.le_of_ble_eq_true rfl) ko_65 (Nat.le_of_ble_eq_true rfl) dL_law_723 ?_
  refine sw_ic_eq (tgt := 1612) dL_law_726 rfl (fun _ => ?_) (fun h9 => absurd rfl h9)
  refine sw_iinc (i := 4) (v := nI (7 * (c + 1))) dL_law_1612 rfl (by show nI (7 * c) + nI 7 = _; exact nI_add _ _) (Nat.le_of_ble_eq_true rfl) rfl ?_
  refine sw_lo (lo2 := [some (.ref 1100), some (.ref 0), some (.ref 65), some (.ref 74), some (.int _), none, none, none, none]) rfl ?_
  refine sw_ins (pc2 := 1615) rfl rfl ?_
  refine sw_goto (tgt := 23) dL_law_1615 rfl ?_
  refine sw_sub ?_ y9
  exact ⟨rfl, rfl, rfl, rfl, rfl, trivial⟩
set_option maxRecDepth 100000 in
set_option maxHeartbeats 4000000 in
theorem K_9 {xt : List (Nat × Nat × Nat × Nat)} {L : Nat} {xs : Nat → Int32} {c f : Nat} {d : Nat → Nat → Int32} {r : Nat → Nat → Option Nat} {J : Nat → Nat → Int64} (hL : L ≤ 3584) (h7 : 7 * c + 7 ≤ L) (g : LI c d r) (hx : ∀ (d : Nat → Nat → Int32) (r : Nat → Nat → Option Nat) (J : Nat → Nat → Int64), LI (c + 1) d r → ∃ d1 r1 J1, SW yL_law cL_law 9 (some .boolean) xt 12 (some (L, xs)) 23 [some (.ref 1100), some (.ref 0), some (.ref 65), some (.ref 74), some (.int (nI (7 * (c + 1)))), none, none, none, none] [] 75 (W0 d r J) f (6 * f) (.inl (some (.int (nI 1)))) 75 (W0 d1 r1 J1)) : ∃ d1 r1 J1, SW yL_law cL_law 9 (some .boolean) xt 12 (some (L, xs)) 40 [some (.ref 1100), some (.ref 0), some (.ref 65), some (.ref 74), some (.int (nI (7 * c))), none, none, none, none] [.int (nI 9)] 75 (W0 d r J) (f + 1) (6 * (f + 1)) (.inl (some (.int (nI 1)))) 75 (W0 d1 r1 J1) := by
  obtain ⟨b, d1, r1, e1, J1, hQ, hw, hm, g2⟩ := G_firstError (J := J) g (by omega)
  obtain ⟨d9, r9, J9, y9⟩ := hx e1 r1 J1 g2
  refine ⟨d9, r9, J9, sw_less (k2 := f) (n2 := 6 * f) (by omega) (by omega) ?_⟩
  refine sw_tabIn (off := 691) (tgt := 731) dL_law_40 (by decide) (by decide) (by decide) (by decide) ?_
  refine sw_aload_n (i := 1) dL_law_731 rfl rfl ?_
  refine px_Vx mv_L_126 hw rfl rfl (Nat.le_of_ble_eq_true rfl) (Nat.le_of_ble_eq_true rfl) ko_0 (Nat.le_of_ble_eq_true rfl) dL_law_732 ?_
  refine sw_aload_n (i := 2) dL_law_735 rfl rfl ?_
  refine px_Vx mv_L_129 hm rfl rfl (Nat.le_of_ble_eq_true rfl) (Nat.le_of_ble_eq_true rfl) ko_65 (Nat.le_of_ble_eq_true rfl) dL_law_736 ?_
  refine sw_ic_eq (tgt := 1612) dL_law_739 rfl (fun _ => ?_) (fun h9 => absurd rfl h9)
  refine sw_iinc (i := 4) (v := nI (7 * (c + 1))) dL_law_1612 rfl (by show nI (7 * c) + nI 7 = _; exact nI_add _ _) (Nat.le_of_ble_eq_true rfl) rfl ?_
  refine sw_lo (lo2 := [some (.ref 1100), some (.ref 0), some (.ref 65), some (.ref 74), some (.int _), none, none, none, none]) rfl ?_
  refine sw_ins (pc2 := 1615) rfl rfl ?_
  refine sw_goto (tgt := 23) dL_law_1615 rfl ?_
  refine sw_sub ?_ y9
  exact ⟨rfl, rfl, rfl, rfl, rfl, trivial⟩
set_option maxRecDepth 100000 in
set_option maxHeartbeats 4000000 in
theorem K_10 {xt : List (Nat × Nat × Nat × Nat)} {L : Nat} {xs : Nat → Int32} {c f : Nat} {d : Nat → Nat → Int32} {r : Nat → Nat → Option Nat} {J : Nat → Nat → Int64} (hL : L ≤ 3584) (h7 : 7 * c + 7 ≤ L) (g : LI c d r) (hx : ∀ (d : Nat → Nat → Int32) (r : Nat → Nat → Option Nat) (J : Nat → Nat → Int64), LI (c + 1) d r → ∃ d1 r1 J1, SW yL_law cL_law 9 (some .boolean) xt 12 (some (L, xs)) 23 [some (.ref 1100), some (.ref 0), some (.ref 65), some (.ref 74), some (.int (nI (7 * (c + 1)))), none, none, none, none] [] 75 (W0 d r J) f (6 * f) (.inl (some (.int (nI 1)))) 75 (W0 d1 r1 J1)) : ∃ d1 r1 J1, SW yL_law cL_law 9 (some .boolean) xt 12 (some (L, xs)) 40 [some (.ref 1100), some (.ref 0), some (.ref 65), some (.ref 74), some (.int (nI (7 * c))), none, none, none, none] [.int (nI 10)] 75 (W0 d r J) (f + 1) (6 * (f + 1)) (.inl (some (.int (nI 1)))) 75 (W0 d1 r1 J1) := by
  obtain ⟨kk, b, d1, r1, J1, e1, hk, hw, hm, ht, hb, g2⟩ := G_run (J := J)  g (by omega)
  obtain ⟨d9, r9, J9, y9⟩ := hx e1 r1 J1 g2
  have hth := A_X7_thrown (d := e1) (r := r1) (J := J1) ht
  refine ⟨d9, r9, J9, ?_⟩
  by_cases kz : kk = 0
  ·
    refine sw_tabIn (off := 704) (tgt := 744) dL_law_40 (by decide) (by decide) (by decide) (by decide) ?_
    refine sw_aload_n (i := 1) dL_law_744 rfl rfl ?_
    refine sw_aload_n (i := 3) dL_law_745 rfl rfl ?_
    refine px_Wx ms_L_130 hw rfl rfl (by decide) (Nat.le_of_ble_eq_true rfl) (Nat.le_of_ble_eq_true rfl) dL_law_746 ?_
    refine sw_istore (i := 5) dL_law_749 (Nat.le_of_ble_eq_true rfl) rfl ?_
    refine sw_lo (lo2 := [some (.ref 1100), some (.ref 0), some (.ref 65), some (.ref 74), some (.int _), some (.int _), none, none, none]) rfl ?_
    refine sw_aload_n (i := 2) dL_law_751 rfl rfl ?_
    refine px_Vx mv_L_132 hm rfl rfl (Nat.le_of_ble_eq_true rfl) (Nat.le_of_ble_eq_true rfl) ko_65 (Nat.le_of_ble_eq_true rfl) dL_law_752 ?_
    refine sw_ins (pc2 := 755) rfl rfl ?_
    refine sw_istore (i := 6) dL_law_755 (Nat.le_of_ble_eq_true rfl) rfl ?_
    refine sw_lo (lo2 := [some (.ref 1100), some (.ref 0), some (.ref 65), some (.ref 74), some (.int _), some (.int _), some (.int _), none, none]) rfl ?_
    refine sw_aload_n (i := 2) dL_law_757 rfl rfl ?_
    refine px_Vx mv_L_94 hth rfl rfl (Nat.le_of_ble_eq_true rfl) (Nat.le_of_ble_eq_true rfl) ko_65 (Nat.le_of_ble_eq_true rfl) dL_law_758 ?_
    refine sw_iload (i := 5) dL_law_761 rfl ?_
    refine sw_ic_eq (tgt := 768) dL_law_763 rfl (fun _ => ?_) (fun h9 => absurd rfl h9)
    refine sw_iload (i := 5) dL_law_768 rfl ?_
    refine sw_if_ne (tgt := 785) dL_law_770 rfl (fun h9 => absurd (by rw [kz]; rfl) h9) (fun _ => ?_)
    refine sw_aload_n (i := 3) dL_law_773 rfl rfl ?_
    refine sw_ins (pc2 := 774) rfl rfl ?_
    refine sw_ic 0 dL_law_774 ?_
    refine sx_lald (0) rfl rfl (by omega) dL_law_775 ?_
    rw [hb kz]
    refine sw_iload (i := 6) dL_law_776 rfl ?_
    refine sw_i2l dL_law_778 ?_
    refine sw_lcmp dL_law_779 ?_
    rw [lg_same]
    refine sw_if_eq (tgt := 785) dL_law_780 rfl (fun _ => ?_) (fun h9 => absurd (by decide) h9)
    refine sw_goto (tgt := 1612) dL_law_785 rfl ?_
    refine sw_iinc (i := 4) (v := nI (7 * (c + 1))) dL_law_1612 rfl (by show nI (7 * c) + nI 7 = _; exact nI_add _ _) (Nat.le_of_ble_eq_true rfl) rfl ?_
    refine sw_lo (lo2 := [some (.ref 1100), some (.ref 0), some (.ref 65), some (.ref 74), some (.int _), some (.int _), some (.int _), none, none]) rfl ?_
    refine sw_ins (pc2 := 1615) rfl rfl ?_
    refine sw_goto (tgt := 23) dL_law_1615 rfl ?_
    refine sw_sub ?_ y9
    exact ⟨rfl, rfl, rfl, rfl, rfl, trivial⟩
  ·
    refine sw_tabIn (off := 704) (tgt := 744) dL_law_40 (by decide) (by decide) (by decide) (by decide) ?_
    refine sw_aload_n (i := 1) dL_law_744 rfl rfl ?_
    refine sw_aload_n (i := 3) dL_law_745 rfl rfl ?_
    refine px_Wx ms_L_130 hw rfl rfl (by decide) (Nat.le_of_ble_eq_true rfl) (Nat.le_of_ble_eq_true rfl) dL_law_746 ?_
    refine sw_istore (i := 5) dL_law_749 (Nat.le_of_ble_eq_true rfl) rfl ?_
    refine sw_lo (lo2 := [some (.ref 1100), some (.ref 0), some (.ref 65), some (.ref 74), some (.int _), some (.int _), none, none, none]) rfl ?_
    refine sw_aload_n (i := 2) dL_law_751 rfl rfl ?_
    refine px_Vx mv_L_132 hm rfl rfl (Nat.le_of_ble_eq_true rfl) (Nat.le_of_ble_eq_true rfl) ko_65 (Nat.le_of_ble_eq_true rfl) dL_law_752 ?_
    refine sw_ins (pc2 := 755) rfl rfl ?_
    refine sw_istore (i := 6) dL_law_755 (Nat.le_of_ble_eq_true rfl) rfl ?_
    refine sw_lo (lo2 := [some (.ref 1100), some (.ref 0), some (.ref 65), some (.ref 74), some (.int _), some (.int _), some (.int _), none, none]) rfl ?_
    refine sw_aload_n (i := 2) dL_law_757 rfl rfl ?_
    refine px_Vx mv_L_94 hth rfl rfl (Nat.le_of_ble_eq_true rfl) (Nat.le_of_ble_eq_true rfl) ko_65 (Nat.le_of_ble_eq_true rfl) dL_law_758 ?_
    refine sw_iload (i := 5) dL_law_761 rfl ?_
    refine sw_ic_eq (tgt := 768) dL_law_763 rfl (fun _ => ?_) (fun h9 => absurd rfl h9)
    refine sw_iload (i := 5) dL_law_768 rfl ?_
    refine sw_if_ne (tgt := 785) dL_law_770 rfl (fun _ => ?_) (fun h9 => absurd h9 (nI_ne0 (by omega) (by omega)))
    refine sw_goto (tgt := 1612) dL_law_785 rfl ?_
    refine sw_iinc (i := 4) (v := nI (7 * (c + 1))) dL_law_1612 rfl (by show nI (7 * c) + nI 7 = _; exact nI_add _ _) (Nat.le_of_ble_eq_true rfl) rfl ?_
    refine sw_lo (lo2 := [some (.ref 1100), some (.ref 0), some (.ref 65), some (.ref 74), some (.int _), some (.int _), some (.int _), none, none]) rfl ?_
    refine sw_goto (tgt := 23) dL_law_1615 rfl ?_
    refine sw_sub ?_ y9
    exact ⟨rfl, rfl, rfl, rfl, rfl, trivial⟩
set_option maxRecDepth 100000 in
set_option maxHeartbeats 4000000 in
theorem K_11 {xt : List (Nat × Nat × Nat × Nat)} {L : Nat} {xs : Nat → Int32} {c f : Nat} {d : Nat → Nat → Int32} {r : Nat → Nat → Option Nat} {J : Nat → Nat → Int64} (hL : L ≤ 3584) (h7 : 7 * c + 7 ≤ L) (g : LI c d r) (hx : ∀ (d : Nat → Nat → Int32) (r : Nat → Nat → Option Nat) (J : Nat → Nat → Int64), LI (c + 1) d r → ∃ d1 r1 J1, SW yL_law cL_law 9 (some .boolean) xt 12 (some (L, xs)) 23 [some (.ref 1100), some (.ref 0), some (.ref 65), some (.ref 74), some (.int (nI (7 * (c + 1)))), none, none, none, none] [] 75 (W0 d r J) f (6 * f) (.inl (some (.int (nI 1)))) 75 (W0 d1 r1 J1)) : ∃ d1 r1 J1, SW yL_law cL_law 9 (some .boolean) xt 12 (some (L, xs)) 40 [some (.ref 1100), some (.ref 0), some (.ref 65), some (.ref 74), some (.int (nI (7 * c))), none, none, none, none] [.int (nI 11)] 75 (W0 d r J) (f + 1) (6 * (f + 1)) (.inl (some (.int (nI 1)))) 75 (W0 d1 r1 J1) := by
  obtain ⟨kk, b, d1, r1, J1, e1, hk, hw, hm, ht, hb, g2⟩ := G_keep (J := J) (a1 := xs (7 * c + 1)) g (by omega)
  obtain ⟨d9, r9, J9, y9⟩ := hx e1 r1 J1 g2
  have hth := A_X7_thrown (d := e1) (r := r1) (J := J1) ht
  refine ⟨d9, r9, J9, ?_⟩
  by_cases kz : kk = 0
  ·
    refine sw_tabIn (off := 748) (tgt := 788) dL_law_40 (by decide) (by decide) (by decide) (by decide) ?_
    refine sw_aload_n (i := 1) dL_law_788 rfl rfl ?_
    refine sw_aload_n (i := 0) dL_law_789 rfl rfl ?_
    refine sw_iload (i := 4) dL_law_790 rfl ?_
    refine sw_ic 1 dL_law_792 ?_
    refine sw_iadd dL_law_793 ?_
    refine sw_sld rfl ((7 * c) + 1) (by simp only [nI_add, pk_mul]) (by omega) (by omega) dL_law_794 ?_
    refine sw_ins (pc2 := 795) rfl rfl ?_
    refine sw_aload_n (i := 3) dL_law_795 rfl rfl ?_
    refine px_Wx ms_L_133 hw rfl rfl (by decide) (Nat.le_of_ble_eq_true rfl) (Nat.le_of_ble_eq_true rfl) dL_law_796 ?_
    refine sw_istore (i := 5) dL_law_799 (Nat.le_of_ble_eq_true rfl) rfl ?_
    refine sw_lo (lo2 := [some (.ref 1100), some (.ref 0), some (.ref 65), some (.ref 74), some (.int _), some (.int _), none, none, none]) rfl ?_
    refine sw_aload_n (i := 2) dL_law_801 rfl rfl ?_
    refine sw_aload_n (i := 0) dL_law_802 rfl rfl ?_
    refine sw_iload (i := 4) dL_law_803 rfl ?_
    refine sw_ic 1 dL_law_805 ?_
    refine sw_iadd dL_law_806 ?_
    refine sw_ins (pc2 := 807) rfl rfl ?_
    refine sw_sld rfl ((7 * c) + 1) (by simp only [nI_add, pk_mul]) (by omega) (by omega) dL_law_807 ?_
    refine px_Vx mv_L_135 hm rfl rfl (Nat.le_of_ble_eq_true rfl) (Nat.le_of_ble_eq_true rfl) ko_65 (Nat.le_of_ble_eq_true rfl) dL_law_808 ?_
    refine sw_istore (i := 6) dL_law_811 (Nat.le_of_ble_eq_true rfl) rfl ?_
    refine sw_lo (lo2 := [some (.ref 1100), some (.ref 0), some (.ref 65), some (.ref 74), some (.int _), some (.int _), some (.int _), none, none]) rfl ?_
    refine sw_aload_n (i := 2) dL_law_813 rfl rfl ?_
    refine px_Vx mv_L_94 hth rfl rfl (Nat.le_of_ble_eq_true rfl) (Nat.le_of_ble_eq_true rfl) ko_65 (Nat.le_of_ble_eq_true rfl) dL_law_814 ?_
    refine sw_iload (i := 5) dL_law_817 rfl ?_
    refine sw_ic_eq (tgt := 824) dL_law_819 rfl (fun _ => ?_) (fun h9 => absurd rfl h9)
    refine sw_iload (i := 5) dL_law_824 rfl ?_
    refine sw_ins (pc2 := 826) rfl rfl ?_
    refine sw_if_ne (tgt := 841) dL_law_826 rfl (fun h9 => absurd (by rw [kz]; rfl) h9) (fun _ => ?_)
    refine sw_aload_n (i := 3) dL_law_829 rfl rfl ?_
    refine sw_ic 0 dL_law_830 ?_
    refine sx_lald (0) rfl rfl (by omega) dL_law_831 ?_
    rw [hb kz]
    refine sw_iload (i := 6) dL_law_832 rfl ?_
    refine sw_i2l dL_law_834 ?_
    refine sw_lcmp dL_law_835 ?_
    rw [lg_same]
    refine sw_if_eq (tgt := 841) dL_law_836 rfl (fun _ => ?_) (fun h9 => absurd (by decide) h9)
    refine sw_ins (pc2 := 841) rfl rfl ?_
    refine sw_goto (tgt := 1612) dL_law_841 rfl ?_
    refine sw_iinc (i := 4) (v := nI (7 * (c + 1))) dL_law_1612 rfl (by show nI (7 * c) + nI 7 = _; exact nI_add _ _) (Nat.le_of_ble_eq_true rfl) rfl ?_
    refine sw_lo (lo2 := [some (.ref 1100), some (.ref 0), some (.ref 65), some (.ref 74), some (.int _), some (.int _), some (.int _), none, none]) rfl ?_
    refine sw_goto (tgt := 23) dL_law_1615 rfl ?_
    refine sw_sub ?_ y9
    exact ⟨rfl, rfl, rfl, rfl, rfl, trivial⟩
  ·
    refine sw_tabIn (off := 748) (tgt := 788) dL_law_40 (by decide) (by decide) (by decide) (by decide) ?_
    refine sw_aload_n (i := 1) dL_law_788 rfl rfl ?_
    refine sw_aload_n (i := 0) dL_law_789 rfl rfl ?_
    refine sw_iload (i := 4) dL_law_790 rfl ?_
    refine sw_ic 1 dL_law_792 ?_
    refine sw_iadd dL_law_793 ?_
    refine sw_sld rfl ((7 * c) + 1) (by simp only [nI_add, pk_mul]) (by omega) (by omega) dL_law_794 ?_
    refine sw_ins (pc2 := 795) rfl rfl ?_
    refine sw_aload_n (i := 3) dL_law_795 rfl rfl ?_
    refine px_Wx ms_L_133 hw rfl rfl (by decide) (Nat.le_of_ble_eq_true rfl) (Nat.le_of_ble_eq_true rfl) dL_law_796 ?_
    refine sw_istore (i := 5) dL_law_799 (Nat.le_of_ble_eq_true rfl) rfl ?_
    refine sw_lo (lo2 := [some (.ref 1100), some (.ref 0), some (.ref 65), some (.ref 74), some (.int _), some (.int _), none, none, none]) rfl ?_
    refine sw_aload_n (i := 2) dL_law_801 rfl rfl ?_
    refine sw_aload_n (i := 0) dL_law_802 rfl rfl ?_
    refine sw_iload (i := 4) dL_law_803 rfl ?_
    refine sw_ic 1 dL_law_805 ?_
    refine sw_iadd dL_law_806 ?_
    refine sw_ins (pc2 := 807) rfl rfl ?_
    refine sw_sld rfl ((7 * c) + 1) (by simp only [nI_add, pk_mul]) (by omega) (by omega) dL_law_807 ?_
    refine px_Vx mv_L_135 hm rfl rfl (Nat.le_of_ble_eq_true rfl) (Nat.le_of_ble_eq_true rfl) ko_65 (Nat.le_of_ble_eq_true rfl) dL_law_808 ?_
    refine sw_istore (i := 6) dL_law_811 (Nat.le_of_ble_eq_true rfl) rfl ?_
    refine sw_lo (lo2 := [some (.ref 1100), some (.ref 0), some (.ref 65), some (.ref 74), some (.int _), some (.int _), some (.int _), none, none]) rfl ?_
    refine sw_aload_n (i := 2) dL_law_813 rfl rfl ?_
    refine px_Vx mv_L_94 hth rfl rfl (Nat.le_of_ble_eq_true rfl) (Nat.le_of_ble_eq_true rfl) ko_65 (Nat.le_of_ble_eq_true rfl) dL_law_814 ?_
    refine sw_iload (i := 5) dL_law_817 rfl ?_
    refine sw_ic_eq (tgt := 824) dL_law_819 rfl (fun _ => ?_) (fun h9 => absurd rfl h9)
    refine sw_iload (i := 5) dL_law_824 rfl ?_
    refine sw_ins (pc2 := 826) rfl rfl ?_
    refine sw_if_ne (tgt := 841) dL_law_826 rfl (fun _ => ?_) (fun h9 => absurd h9 (nI_ne0 (by omega) (by omega)))
    refine sw_goto (tgt := 1612) dL_law_841 rfl ?_
    refine sw_iinc (i := 4) (v := nI (7 * (c + 1))) dL_law_1612 rfl (by show nI (7 * c) + nI 7 = _; exact nI_add _ _) (Nat.le_of_ble_eq_true rfl) rfl ?_
    refine sw_lo (lo2 := [some (.ref 1100), some (.ref 0), some (.ref 65), some (.ref 74), some (.int _), some (.int _), some (.int _), none, none]) rfl ?_
    refine sw_goto (tgt := 23) dL_law_1615 rfl ?_
    refine sw_sub ?_ y9
    exact ⟨rfl, rfl, rfl, rfl, rfl, trivial⟩
set_option maxRecDepth 100000 in
set_option maxHeartbeats 4000000 in
theorem K_12 {xt : List (Nat × Nat × Nat × Nat)} {L : Nat} {xs : Nat → Int32} {c f : Nat} {d : Nat → Nat → Int32} {r : Nat → Nat → Option Nat} {J : Nat → Nat → Int64} (hL : L ≤ 3584) (h7 : 7 * c + 7 ≤ L) (g : LI c d r) (hx : ∀ (d : Nat → Nat → Int32) (r : Nat → Nat → Option Nat) (J : Nat → Nat → Int64), LI (c + 1) d r → ∃ d1 r1 J1, SW yL_law cL_law 9 (some .boolean) xt 12 (some (L, xs)) 23 [some (.ref 1100), some (.ref 0), some (.ref 65), some (.ref 74), some (.int (nI (7 * (c + 1)))), none, none, none, none] [] 75 (W0 d r J) f (6 * f) (.inl (some (.int (nI 1)))) 75 (W0 d1 r1 J1)) : ∃ d1 r1 J1, SW yL_law cL_law 9 (some .boolean) xt 12 (some (L, xs)) 40 [some (.ref 1100), some (.ref 0), some (.ref 65), some (.ref 74), some (.int (nI (7 * c))), none, none, none, none] [.int (nI 12)] 75 (W0 d r J) (f + 1) (6 * (f + 1)) (.inl (some (.int (nI 1)))) 75 (W0 d1 r1 J1) := by
  obtain ⟨kk, b, d1, r1, J1, e1, hk, hw, hm, ht, hb, g2⟩ := G_goBack (J := J) (a1 := xs (7 * c + 1)) g (by omega)
  obtain ⟨d9, r9, J9, y9⟩ := hx e1 r1 J1 g2
  have hth := A_X7_thrown (d := e1) (r := r1) (J := J1) ht
  refine ⟨d9, r9, J9, ?_⟩
  by_cases kz : kk = 0
  ·
    refine sw_tabIn (off := 804) (tgt := 844) dL_law_40 (by decide) (by decide) (by decide) (by decide) ?_
    refine sw_aload_n (i := 1) dL_law_844 rfl rfl ?_
    refine sw_aload_n (i := 0) dL_law_845 rfl rfl ?_
    refine sw_iload (i := 4) dL_law_846 rfl ?_
    refine sw_ic 1 dL_law_848 ?_
    refine sw_iadd dL_law_849 ?_
    refine sw_sld rfl ((7 * c) + 1) (by simp only [nI_add, pk_mul]) (by omega) (by omega) dL_law_850 ?_
    refine sw_ins (pc2 := 851) rfl rfl ?_
    refine sw_aload_n (i := 3) dL_law_851 rfl rfl ?_
    refine px_Wx ms_L_136 hw rfl rfl (by decide) (Nat.le_of_ble_eq_true rfl) (Nat.le_of_ble_eq_true rfl) dL_law_852 ?_
    refine sw_istore (i := 5) dL_law_855 (Nat.le_of_ble_eq_true rfl) rfl ?_
    refine sw_lo (lo2 := [some (.ref 1100), some (.ref 0), some (.ref 65), some (.ref 74), some (.int _), some (.int _), none, none, none]) rfl ?_
    refine sw_aload_n (i := 2) dL_law_857 rfl rfl ?_
    refine sw_aload_n (i := 0) dL_law_858 rfl rfl ?_
    refine sw_iload (i := 4) dL_law_859 rfl ?_
    refine sw_ic 1 dL_law_861 ?_
    refine sw_iadd dL_law_862 ?_
    refine sw_ins (pc2 := 863) rfl rfl ?_
    refine sw_sld rfl ((7 * c) + 1) (by simp only [nI_add, pk_mul]) (by omega) (by omega) dL_law_863 ?_
    refine px_Vx mv_L_138 hm rfl rfl (Nat.le_of_ble_eq_true rfl) (Nat.le_of_ble_eq_true rfl) ko_65 (Nat.le_of_ble_eq_true rfl) dL_law_864 ?_
    refine sw_istore (i := 6) dL_law_867 (Nat.le_of_ble_eq_true rfl) rfl ?_
    refine sw_lo (lo2 := [some (.ref 1100), some (.ref 0), some (.ref 65), some (.ref 74), some (.int _), some (.int _), some (.int _), none, none]) rfl ?_
    refine sw_aload_n (i := 2) dL_law_869 rfl rfl ?_
    refine px_Vx mv_L_94 hth rfl rfl (Nat.le_of_ble_eq_true rfl) (Nat.le_of_ble_eq_true rfl) ko_65 (Nat.le_of_ble_eq_true rfl) dL_law_870 ?_
    refine sw_iload (i := 5) dL_law_873 rfl ?_
    refine sw_ic_eq (tgt := 880) dL_law_875 rfl (fun _ => ?_) (fun h9 => absurd rfl h9)
    refine sw_iload (i := 5) dL_law_880 rfl ?_
    refine sw_ins (pc2 := 882) rfl rfl ?_
    refine sw_if_ne (tgt := 897) dL_law_882 rfl (fun h9 => absurd (by rw [kz]; rfl) h9) (fun _ => ?_)
    refine sw_aload_n (i := 3) dL_law_885 rfl rfl ?_
    refine sw_ic 0 dL_law_886 ?_
    refine sx_lald (0) rfl rfl (by omega) dL_law_887 ?_
    rw [hb kz]
    refine sw_iload (i := 6) dL_law_888 rfl ?_
    refine sw_i2l dL_law_890 ?_
    refine sw_lcmp dL_law_891 ?_
    rw [lg_same]
    refine sw_if_eq (tgt := 897) dL_law_892 rfl (fun _ => ?_) (fun h9 => absurd (by decide) h9)
    refine sw_ins (pc2 := 897) rfl rfl ?_
    refine sw_goto (tgt := 1612) dL_law_897 rfl ?_
    refine sw_iinc (i := 4) (v := nI (7 * (c + 1))) dL_law_1612 rfl (by show nI (7 * c) + nI 7 = _; exact nI_add _ _) (Nat.le_of_ble_eq_true rfl) rfl ?_
    refine sw_lo (lo2 := [some (.ref 1100), some (.ref 0), some (.ref 65), some (.ref 74), some (.int _), some (.int _), some (.int _), none, none]) rfl ?_
    refine sw_goto (tgt := 23) dL_law_1615 rfl ?_
    refine sw_sub ?_ y9
    exact ⟨rfl, rfl, rfl, rfl, rfl, trivial⟩
  ·
    refine sw_tabIn (off := 804) (tgt := 844) dL_law_40 (by decide) (by decide) (by decide) (by decide) ?_
    refine sw_aload_n (i := 1) dL_law_844 rfl rfl ?_
    refine sw_aload_n (i := 0) dL_law_845 rfl rfl ?_
    refine sw_iload (i := 4) dL_law_846 rfl ?_
    refine sw_ic 1 dL_law_848 ?_
    refine sw_iadd dL_law_849 ?_
    refine sw_sld rfl ((7 * c) + 1) (by simp only [nI_add, pk_mul]) (by omega) (by omega) dL_law_850 ?_
    refine sw_ins (pc2 := 851) rfl rfl ?_
    refine sw_aload_n (i := 3) dL_law_851 rfl rfl ?_
    refine px_Wx ms_L_136 hw rfl rfl (by decide) (Nat.le_of_ble_eq_true rfl) (Nat.le_of_ble_eq_true rfl) dL_law_852 ?_
    refine sw_istore (i := 5) dL_law_855 (Nat.le_of_ble_eq_true rfl) rfl ?_
    refine sw_lo (lo2 := [some (.ref 1100), some (.ref 0), some (.ref 65), some (.ref 74), some (.int _), some (.int _), none, none, none]) rfl ?_
    refine sw_aload_n (i := 2) dL_law_857 rfl rfl ?_
    refine sw_aload_n (i := 0) dL_law_858 rfl rfl ?_
    refine sw_iload (i := 4) dL_law_859 rfl ?_
    refine sw_ic 1 dL_law_861 ?_
    refine sw_iadd dL_law_862 ?_
    refine sw_ins (pc2 := 863) rfl rfl ?_
    refine sw_sld rfl ((7 * c) + 1) (by simp only [nI_add, pk_mul]) (by omega) (by omega) dL_law_863 ?_
    refine px_Vx mv_L_138 hm rfl rfl (Nat.le_of_ble_eq_true rfl) (Nat.le_of_ble_eq_true rfl) ko_65 (Nat.le_of_ble_eq_true rfl) dL_law_864 ?_
    refine sw_istore (i := 6) dL_law_867 (Nat.le_of_ble_eq_true rfl) rfl ?_
    refine sw_lo (lo2 := [some (.ref 1100), some (.ref 0), some (.ref 65), some (.ref 74), some (.int _), some (.int _), some (.int _), none, none]) rfl ?_
    refine sw_aload_n (i := 2) dL_law_869 rfl rfl ?_
    refine px_Vx mv_L_94 hth rfl rfl (Nat.le_of_ble_eq_true rfl) (Nat.le_of_ble_eq_true rfl) ko_65 (Nat.le_of_ble_eq_true rfl) dL_law_870 ?_
    refine sw_iload (i := 5) dL_law_873 rfl ?_
    refine sw_ic_eq (tgt := 880) dL_law_875 rfl (fun _ => ?_) (fun h9 => absurd rfl h9)
    refine sw_iload (i := 5) dL_law_880 rfl ?_
    refine sw_ins (pc2 := 882) rfl rfl ?_
    refine sw_if_ne (tgt := 897) dL_law_882 rfl (fun _ => ?_) (fun h9 => absurd h9 (nI_ne0 (by omega) (by omega)))
    refine sw_goto (tgt := 1612) dL_law_897 rfl ?_
    refine sw_iinc (i := 4) (v := nI (7 * (c + 1))) dL_law_1612 rfl (by show nI (7 * c) + nI 7 = _; exact nI_add _ _) (Nat.le_of_ble_eq_true rfl) rfl ?_
    refine sw_lo (lo2 := [some (.ref 1100), some (.ref 0), some (.ref 65), some (.ref 74), some (.int _), some (.int _), some (.int _), none, none]) rfl ?_
    refine sw_goto (tgt := 23) dL_law_1615 rfl ?_
    refine sw_sub ?_ y9
    exact ⟨rfl, rfl, rfl, rfl, rfl, trivial⟩
set_option maxRecDepth 100000 in
set_option maxHeartbeats 4000000 in
theorem K_13 {xt : List (Nat × Nat × Nat × Nat)} {L : Nat} {xs : Nat → Int32} {c f : Nat} {d : Nat → Nat → Int32} {r : Nat → Nat → Option Nat} {J : Nat → Nat → Int64} (hL : L ≤ 3584) (h7 : 7 * c + 7 ≤ L) (g : LI c d r) (hx : ∀ (d : Nat → Nat → Int32) (r : Nat → Nat → Option Nat) (J : Nat → Nat → Int64), LI (c + 1) d r → ∃ d1 r1 J1, SW yL_law cL_law 9 (some .boolean) xt 12 (some (L, xs)) 23 [some (.ref 1100), some (.ref 0), some (.ref 65), some (.ref 74), some (.int (nI (7 * (c + 1)))), none, none, none, none] [] 75 (W0 d r J) f (6 * f) (.inl (some (.int (nI 1)))) 75 (W0 d1 r1 J1)) : ∃ d1 r1 J1, SW yL_law cL_law 9 (some .boolean) xt 12 (some (L, xs)) 40 [some (.ref 1100), some (.ref 0), some (.ref 65), some (.ref 74), some (.int (nI (7 * c))), none, none, none, none] [.int (nI 13)] 75 (W0 d r J) (f + 1) (6 * (f + 1)) (.inl (some (.int (nI 1)))) 75 (W0 d1 r1 J1) := by
  obtain ⟨kk, b, d1, r1, J1, e1, hk, hw, hm, ht, hb, g2⟩ := G_undo (J := J)  g (by omega)
  obtain ⟨d9, r9, J9, y9⟩ := hx e1 r1 J1 g2
  have hth := A_X7_thrown (d := e1) (r := r1) (J := J1) ht
  refine ⟨d9, r9, J9, ?_⟩
  by_cases kz : kk = 0
  ·
    refine sw_tabIn (off := 860) (tgt := 900) dL_law_40 (by decide) (by decide) (by decide) (by decide) ?_
    refine sw_aload_n (i := 1) dL_law_900 rfl rfl ?_
    refine sw_aload_n (i := 3) dL_law_901 rfl rfl ?_
    refine px_Wx ms_L_139 hw rfl rfl (by decide) (Nat.le_of_ble_eq_true rfl) (Nat.le_of_ble_eq_true rfl) dL_law_902 ?_
    refine sw_istore (i := 5) dL_law_905 (Nat.le_of_ble_eq_true rfl) rfl ?_
    refine sw_lo (lo2 := [some (.ref 1100), some (.ref 0), some (.ref 65), some (.ref 74), some (.int _), some (.int _), none, none, none]) rfl ?_
    refine sw_aload_n (i := 2) dL_law_907 rfl rfl ?_
    refine px_Vx mv_L_141 hm rfl rfl (Nat.le_of_ble_eq_true rfl) (Nat.le_of_ble_eq_true rfl) ko_65 (Nat.le_of_ble_eq_true rfl) dL_law_908 ?_
    refine sw_ins (pc2 := 911) rfl rfl ?_
    refine sw_istore (i := 6) dL_law_911 (Nat.le_of_ble_eq_true rfl) rfl ?_
    refine sw_lo (lo2 := [some (.ref 1100), some (.ref 0), some (.ref 65), some (.ref 74), some (.int _), some (.int _), some (.int _), none, none]) rfl ?_
    refine sw_aload_n (i := 2) dL_law_913 rfl rfl ?_
    refine px_Vx mv_L_94 hth rfl rfl (Nat.le_of_ble_eq_true rfl) (Nat.le_of_ble_eq_true rfl) ko_65 (Nat.le_of_ble_eq_true rfl) dL_law_914 ?_
    refine sw_iload (i := 5) dL_law_917 rfl ?_
    refine sw_ic_eq (tgt := 924) dL_law_919 rfl (fun _ => ?_) (fun h9 => absurd rfl h9)
    refine sw_iload (i := 5) dL_law_924 rfl ?_
    refine sw_if_ne (tgt := 941) dL_law_926 rfl (fun h9 => absurd (by rw [kz]; rfl) h9) (fun _ => ?_)
    refine sw_aload_n (i := 3) dL_law_929 rfl rfl ?_
    refine sw_ins (pc2 := 930) rfl rfl ?_
    refine sw_ic 0 dL_law_930 ?_
    refine sx_lald (0) rfl rfl (by omega) dL_law_931 ?_
    rw [hb kz]
    refine sw_iload (i := 6) dL_law_932 rfl ?_
    refine sw_i2l dL_law_934 ?_
    refine sw_lcmp dL_law_935 ?_
    rw [lg_same]
    refine sw_if_eq (tgt := 941) dL_law_936 rfl (fun _ => ?_) (fun h9 => absurd (by decide) h9)
    refine sw_goto (tgt := 1612) dL_law_941 rfl ?_
    refine sw_iinc (i := 4) (v := nI (7 * (c + 1))) dL_law_1612 rfl (by show nI (7 * c) + nI 7 = _; exact nI_add _ _) (Nat.le_of_ble_eq_true rfl) rfl ?_
    refine sw_lo (lo2 := [some (.ref 1100), some (.ref 0), some (.ref 65), some (.ref 74), some (.int _), some (.int _), some (.int _), none, none]) rfl ?_
    refine sw_ins (pc2 := 1615) rfl rfl ?_
    refine sw_goto (tgt := 23) dL_law_1615 rfl ?_
    refine sw_sub ?_ y9
    exact ⟨rfl, rfl, rfl, rfl, rfl, trivial⟩
  ·
    refine sw_tabIn (off := 860) (tgt := 900) dL_law_40 (by decide) (by decide) (by decide) (by decide) ?_
    refine sw_aload_n (i := 1) dL_law_900 rfl rfl ?_
    refine sw_aload_n (i := 3) dL_law_901 rfl rfl ?_
    refine px_Wx ms_L_139 hw rfl rfl (by decide) (Nat.le_of_ble_eq_true rfl) (Nat.le_of_ble_eq_true rfl) dL_law_902 ?_
    refine sw_istore (i := 5) dL_law_905 (Nat.le_of_ble_eq_true rfl) rfl ?_
    refine sw_lo (lo2 := [some (.ref 1100), some (.ref 0), some (.ref 65), some (.ref 74), some (.int _), some (.int _), none, none, none]) rfl ?_
    refine sw_aload_n (i := 2) dL_law_907 rfl rfl ?_
    refine px_Vx mv_L_141 hm rfl rfl (Nat.le_of_ble_eq_true rfl) (Nat.le_of_ble_eq_true rfl) ko_65 (Nat.le_of_ble_eq_true rfl) dL_law_908 ?_
    refine sw_ins (pc2 := 911) rfl rfl ?_
    refine sw_istore (i := 6) dL_law_911 (Nat.le_of_ble_eq_true rfl) rfl ?_
    refine sw_lo (lo2 := [some (.ref 1100), some (.ref 0), some (.ref 65), some (.ref 74), some (.int _), some (.int _), some (.int _), none, none]) rfl ?_
    refine sw_aload_n (i := 2) dL_law_913 rfl rfl ?_
    refine px_Vx mv_L_94 hth rfl rfl (Nat.le_of_ble_eq_true rfl) (Nat.le_of_ble_eq_true rfl) ko_65 (Nat.le_of_ble_eq_true rfl) dL_law_914 ?_
    refine sw_iload (i := 5) dL_law_917 rfl ?_
    refine sw_ic_eq (tgt := 924) dL_law_919 rfl (fun _ => ?_) (fun h9 => absurd rfl h9)
    refine sw_iload (i := 5) dL_law_924 rfl ?_
    refine sw_if_ne (tgt := 941) dL_law_926 rfl (fun _ => ?_) (fun h9 => absurd h9 (nI_ne0 (by omega) (by omega)))
    refine sw_goto (tgt := 1612) dL_law_941 rfl ?_
    refine sw_iinc (i := 4) (v := nI (7 * (c + 1))) dL_law_1612 rfl (by show nI (7 * c) + nI 7 = _; exact nI_add _ _) (Nat.le_of_ble_eq_true rfl) rfl ?_
    refine sw_lo (lo2 := [some (.ref 1100), some (.ref 0), some (.ref 65), some (.ref 74), some (.int _), some (.int _), some (.int _), none, none]) rfl ?_
    refine sw_goto (tgt := 23) dL_law_1615 rfl ?_
    refine sw_sub ?_ y9
    exact ⟨rfl, rfl, rfl, rfl, rfl, trivial⟩
set_option maxRecDepth 100000 in
set_option maxHeartbeats 4000000 in
theorem K_14 {xt : List (Nat × Nat × Nat × Nat)} {L : Nat} {xs : Nat → Int32} {c f : Nat} {d : Nat → Nat → Int32} {r : Nat → Nat → Option Nat} {J : Nat → Nat → Int64} (hL : L ≤ 3584) (h7 : 7 * c + 7 ≤ L) (g : LI c d r) (hx : ∀ (d : Nat → Nat → Int32) (r : Nat → Nat → Option Nat) (J : Nat → Nat → Int64), LI (c + 1) d r → ∃ d1 r1 J1, SW yL_law cL_law 9 (some .boolean) xt 12 (some (L, xs)) 23 [some (.ref 1100), some (.ref 0), some (.ref 65), some (.ref 74), some (.int (nI (7 * (c + 1)))), none, none, none, none] [] 75 (W0 d r J) f (6 * f) (.inl (some (.int (nI 1)))) 75 (W0 d1 r1 J1)) : ∃ d1 r1 J1, SW yL_law cL_law 9 (some .boolean) xt 12 (some (L, xs)) 40 [some (.ref 1100), some (.ref 0), some (.ref 65), some (.ref 74), some (.int (nI (7 * c))), none, none, none, none] [.int (nI 14)] 75 (W0 d r J) (f + 1) (6 * (f + 1)) (.inl (some (.int (nI 1)))) 75 (W0 d1 r1 J1) := by
  obtain ⟨kk, b, d1, r1, J1, e1, hk, hw, hm, ht, hb, g2⟩ := G_caps (J := J) (a1 := xs (7 * c + 1)) (a2 := xs (7 * c + 2)) g (by omega)
  obtain ⟨d9, r9, J9, y9⟩ := hx e1 r1 J1 g2
  have hth := A_X7_thrown (d := e1) (r := r1) (J := J1) ht
  refine ⟨d9, r9, J9, ?_⟩
  by_cases kz : kk = 0
  ·
    refine sw_tabIn (off := 904) (tgt := 944) dL_law_40 (by decide) (by decide) (by decide) (by decide) ?_
    refine sw_aload_n (i := 1) dL_law_944 rfl rfl ?_
    refine sw_aload_n (i := 0) dL_law_945 rfl rfl ?_
    refine sw_iload (i := 4) dL_law_946 rfl ?_
    refine sw_ic 1 dL_law_948 ?_
    refine sw_iadd dL_law_949 ?_
    refine sw_sld rfl ((7 * c) + 1) (by simp only [nI_add, pk_mul]) (by omega) (by omega) dL_law_950 ?_
    refine sw_ins (pc2 := 951) rfl rfl ?_
    refine sw_aload_n (i := 0) dL_law_951 rfl rfl ?_
    refine sw_iload (i := 4) dL_law_952 rfl ?_
    refine sw_ic 2 dL_law_954 ?_
    refine sw_iadd dL_law_955 ?_
    refine sw_sld rfl ((7 * c) + 2) (by simp only [nI_add, pk_mul]) (by omega) (by omega) dL_law_956 ?_
    refine sw_aload_n (i := 3) dL_law_957 rfl rfl ?_
    refine px_Wx ms_L_142 hw rfl rfl (by decide) (Nat.le_of_ble_eq_true rfl) (Nat.le_of_ble_eq_true rfl) dL_law_958 ?_
    refine sw_istore (i := 5) dL_law_961 (Nat.le_of_ble_eq_true rfl) rfl ?_
    refine sw_lo (lo2 := [some (.ref 1100), some (.ref 0), some (.ref 65), some (.ref 74), some (.int _), some (.int _), none, none, none]) rfl ?_
    refine sw_ins (pc2 := 963) rfl rfl ?_
    refine sw_aload_n (i := 2) dL_law_963 rfl rfl ?_
    refine sw_aload_n (i := 0) dL_law_964 rfl rfl ?_
    refine sw_iload (i := 4) dL_law_965 rfl ?_
    refine sw_ic 1 dL_law_967 ?_
    refine sw_iadd dL_law_968 ?_
    refine sw_sld rfl ((7 * c) + 1) (by simp only [nI_add, pk_mul]) (by omega) (by omega) dL_law_969 ?_
    refine sw_aload_n (i := 0) dL_law_970 rfl rfl ?_
    refine sw_iload (i := 4) dL_law_971 rfl ?_
    refine sw_ins (pc2 := 973) rfl rfl ?_
    refine sw_ic 2 dL_law_973 ?_
    refine sw_iadd dL_law_974 ?_
    refine sw_sld rfl ((7 * c) + 2) (by simp only [nI_add, pk_mul]) (by omega) (by omega) dL_law_975 ?_
    refine px_Vx mv_L_144 hm rfl rfl (Nat.le_of_ble_eq_true rfl) (Nat.le_of_ble_eq_true rfl) ko_65 (Nat.le_of_ble_eq_true rfl) dL_law_976 ?_
    refine sw_istore (i := 6) dL_law_979 (Nat.le_of_ble_eq_true rfl) rfl ?_
    refine sw_lo (lo2 := [some (.ref 1100), some (.ref 0), some (.ref 65), some (.ref 74), some (.int _), some (.int _), some (.int _), none, none]) rfl ?_
    refine sw_aload_n (i := 2) dL_law_981 rfl rfl ?_
    refine px_Vx mv_L_94 hth rfl rfl (Nat.le_of_ble_eq_true rfl) (Nat.le_of_ble_eq_true rfl) ko_65 (Nat.le_of_ble_eq_true rfl) dL_law_982 ?_
    refine sw_iload (i := 5) dL_law_985 rfl ?_
    refine sw_ins (pc2 := 987) rfl rfl ?_
    refine sw_ic_eq (tgt := 992) dL_law_987 rfl (fun _ => ?_) (fun h9 => absurd rfl h9)
    refine sw_iload (i := 5) dL_law_992 rfl ?_
    refine sw_if_ne (tgt := 1009) dL_law_994 rfl (fun h9 => absurd (by rw [kz]; rfl) h9) (fun _ => ?_)
    refine sw_aload_n (i := 3) dL_law_997 rfl rfl ?_
    refine sw_ic 0 dL_law_998 ?_
    refine sx_lald (0) rfl rfl (by omega) dL_law_999 ?_
    rw [hb kz]
    refine sw_iload (i := 6) dL_law_1000 rfl ?_
    refine sw_i2l dL_law_1002 ?_
    refine sw_lcmp dL_law_1003 ?_
    rw [lg_same]
    refine sw_if_eq (tgt := 1009) dL_law_1004 rfl (fun _ => ?_) (fun h9 => absurd (by decide) h9)
    refine sw_goto (tgt := 1612) dL_law_1009 rfl ?_
    refine sw_iinc (i := 4) (v := nI (7 * (c + 1))) dL_law_1612 rfl (by show nI (7 * c) + nI 7 = _; exact nI_add _ _) (Nat.le_of_ble_eq_true rfl) rfl ?_
    refine sw_lo (lo2 := [some (.ref 1100), some (.ref 0), some (.ref 65), some (.ref 74), some (.int _), some (.int _), some (.int _), none, none]) rfl ?_
    refine sw_goto (tgt := 23) dL_law_1615 rfl ?_
    refine sw_sub ?_ y9
    exact ⟨rfl, rfl, rfl, rfl, rfl, trivial⟩
  ·
    refine sw_tabIn (off := 904) (tgt := 944) dL_law_40 (by decide) (by decide) (by decide) (by decide) ?_
    refine sw_aload_n (i := 1) dL_law_944 rfl rfl ?_
    refine sw_aload_n (i := 0) dL_law_945 rfl rfl ?_
    refine sw_iload (i := 4) dL_law_946 rfl ?_
    refine sw_ic 1 dL_law_948 ?_
    refine sw_iadd dL_law_949 ?_
    refine sw_sld rfl ((7 * c) + 1) (by simp only [nI_add, pk_mul]) (by omega) (by omega) dL_law_950 ?_
    refine sw_ins (pc2 := 951) rfl rfl ?_
    refine sw_aload_n (i := 0) dL_law_951 rfl rfl ?_
    refine sw_iload (i := 4) dL_law_952 rfl ?_
    refine sw_ic 2 dL_law_954 ?_
    refine sw_iadd dL_law_955 ?_
    refine sw_sld rfl ((7 * c) + 2) (by simp only [nI_add, pk_mul]) (by omega) (by omega) dL_law_956 ?_
    refine sw_aload_n (i := 3) dL_law_957 rfl rfl ?_
    refine px_Wx ms_L_142 hw rfl rfl (by decide) (Nat.le_of_ble_eq_true rfl) (Nat.le_of_ble_eq_true rfl) dL_law_958 ?_
    refine sw_istore (i := 5) dL_law_961 (Nat.le_of_ble_eq_true rfl) rfl ?_
    refine sw_lo (lo2 := [some (.ref 1100), some (.ref 0), some (.ref 65), some (.ref 74), some (.int _), some (.int _), none, none, none]) rfl ?_
    refine sw_ins (pc2 := 963) rfl rfl ?_
    refine sw_aload_n (i := 2) dL_law_963 rfl rfl ?_
    refine sw_aload_n (i := 0) dL_law_964 rfl rfl ?_
    refine sw_iload (i := 4) dL_law_965 rfl ?_
    refine sw_ic 1 dL_law_967 ?_
    refine sw_iadd dL_law_968 ?_
    refine sw_sld rfl ((7 * c) + 1) (by simp only [nI_add, pk_mul]) (by omega) (by omega) dL_law_969 ?_
    refine sw_aload_n (i := 0) dL_law_970 rfl rfl ?_
    refine sw_iload (i := 4) dL_law_971 rfl ?_
    refine sw_ins (pc2 := 973) rfl rfl ?_
    refine sw_ic 2 dL_law_973 ?_
    refine sw_iadd dL_law_974 ?_
    refine sw_sld rfl ((7 * c) + 2) (by simp only [nI_add, pk_mul]) (by omega) (by omega) dL_law_975 ?_
    refine px_Vx mv_L_144 hm rfl rfl (Nat.le_of_ble_eq_true rfl) (Nat.le_of_ble_eq_true rfl) ko_65 (Nat.le_of_ble_eq_true rfl) dL_law_976 ?_
    refine sw_istore (i := 6) dL_law_979 (Nat.le_of_ble_eq_true rfl) rfl ?_
    refine sw_lo (lo2 := [some (.ref 1100), some (.ref 0), some (.ref 65), some (.ref 74), some (.int _), some (.int _), some (.int _), none, none]) rfl ?_
    refine sw_aload_n (i := 2) dL_law_981 rfl rfl ?_
    refine px_Vx mv_L_94 hth rfl rfl (Nat.le_of_ble_eq_true rfl) (Nat.le_of_ble_eq_true rfl) ko_65 (Nat.le_of_ble_eq_true rfl) dL_law_982 ?_
    refine sw_iload (i := 5) dL_law_985 rfl ?_
    refine sw_ins (pc2 := 987) rfl rfl ?_
    refine sw_ic_eq (tgt := 992) dL_law_987 rfl (fun _ => ?_) (fun h9 => absurd rfl h9)
    refine sw_iload (i := 5) dL_law_992 rfl ?_
    refine sw_if_ne (tgt := 1009) dL_law_994 rfl (fun _ => ?_) (fun h9 => absurd h9 (nI_ne0 (by omega) (by omega)))
    refine sw_goto (tgt := 1612) dL_law_1009 rfl ?_
    refine sw_iinc (i := 4) (v := nI (7 * (c + 1))) dL_law_1612 rfl (by show nI (7 * c) + nI 7 = _; exact nI_add _ _) (Nat.le_of_ble_eq_true rfl) rfl ?_
    refine sw_lo (lo2 := [some (.ref 1100), some (.ref 0), some (.ref 65), some (.ref 74), some (.int _), some (.int _), some (.int _), none, none]) rfl ?_
    refine sw_goto (tgt := 23) dL_law_1615 rfl ?_
    refine sw_sub ?_ y9
    exact ⟨rfl, rfl, rfl, rfl, rfl, trivial⟩
set_option maxRecDepth 100000 in
set_option maxHeartbeats 4000000 in
theorem K_15 {xt : List (Nat × Nat × Nat × Nat)} {L : Nat} {xs : Nat → Int32} {c f : Nat} {d : Nat → Nat → Int32} {r : Nat → Nat → Option Nat} {J : Nat → Nat → Int64} (hL : L ≤ 3584) (h7 : 7 * c + 7 ≤ L) (g : LI c d r) (hx : ∀ (d : Nat → Nat → Int32) (r : Nat → Nat → Option Nat) (J : Nat → Nat → Int64), LI (c + 1) d r → ∃ d1 r1 J1, SW yL_law cL_law 9 (some .boolean) xt 12 (some (L, xs)) 23 [some (.ref 1100), some (.ref 0), some (.ref 65), some (.ref 74), some (.int (nI (7 * (c + 1)))), none, none, none, none] [] 75 (W0 d r J) f (6 * f) (.inl (some (.int (nI 1)))) 75 (W0 d1 r1 J1)) : ∃ d1 r1 J1, SW yL_law cL_law 9 (some .boolean) xt 12 (some (L, xs)) 40 [some (.ref 1100), some (.ref 0), some (.ref 65), some (.ref 74), some (.int (nI (7 * c))), none, none, none, none] [.int (nI 15)] 75 (W0 d r J) (f + 1) (6 * (f + 1)) (.inl (some (.int (nI 1)))) 75 (W0 d1 r1 J1) := by
  obtain ⟨kk, b, d1, r1, J1, e1, hk, hw, hm, ht, hb, g2⟩ := G_islanderOf (J := J) (a1 := xs (7 * c + 1)) (a2 := xs (7 * c + 2)) g (by omega)
  obtain ⟨d9, r9, J9, y9⟩ := hx e1 r1 J1 g2
  have hth := A_X7_thrown (d := e1) (r := r1) (J := J1) ht
  refine ⟨d9, r9, J9, ?_⟩
  by_cases kz : kk = 0
  ·
    refine sw_tabIn (off := 972) (tgt := 1012) dL_law_40 (by decide) (by decide) (by decide) (by decide) ?_
    refine sw_aload_n (i := 1) dL_law_1012 rfl rfl ?_
    refine sw_aload_n (i := 0) dL_law_1013 rfl rfl ?_
    refine sw_iload (i := 4) dL_law_1014 rfl ?_
    refine sw_ic 1 dL_law_1016 ?_
    refine sw_iadd dL_law_1017 ?_
    refine sw_sld rfl ((7 * c) + 1) (by simp only [nI_add, pk_mul]) (by omega) (by omega) dL_law_1018 ?_
    refine sw_ins (pc2 := 1019) rfl rfl ?_
    refine sw_aload_n (i := 0) dL_law_1019 rfl rfl ?_
    refine sw_iload (i := 4) dL_law_1020 rfl ?_
    refine sw_ic 2 dL_law_1022 ?_
    refine sw_iadd dL_law_1023 ?_
    refine sw_sld rfl ((7 * c) + 2) (by simp only [nI_add, pk_mul]) (by omega) (by omega) dL_law_1024 ?_
    refine sw_aload_n (i := 3) dL_law_1025 rfl rfl ?_
    refine px_Wx ms_L_145 hw rfl rfl (by decide) (Nat.le_of_ble_eq_true rfl) (Nat.le_of_ble_eq_true rfl) dL_law_1026 ?_
    refine sw_istore (i := 5) dL_law_1029 (Nat.le_of_ble_eq_true rfl) rfl ?_
    refine sw_lo (lo2 := [some (.ref 1100), some (.ref 0), some (.ref 65), some (.ref 74), some (.int _), some (.int _), none, none, none]) rfl ?_
    refine sw_ins (pc2 := 1031) rfl rfl ?_
    refine sw_aload_n (i := 2) dL_law_1031 rfl rfl ?_
    refine sw_aload_n (i := 0) dL_law_1032 rfl rfl ?_
    refine sw_iload (i := 4) dL_law_1033 rfl ?_
    refine sw_ic 1 dL_law_1035 ?_
    refine sw_iadd dL_law_1036 ?_
    refine sw_sld rfl ((7 * c) + 1) (by simp only [nI_add, pk_mul]) (by omega) (by omega) dL_law_1037 ?_
    refine sw_aload_n (i := 0) dL_law_1038 rfl rfl ?_
    refine sw_iload (i := 4) dL_law_1039 rfl ?_
    refine sw_ins (pc2 := 1041) rfl rfl ?_
    refine sw_ic 2 dL_law_1041 ?_
    refine sw_iadd dL_law_1042 ?_
    refine sw_sld rfl ((7 * c) + 2) (by simp only [nI_add, pk_mul]) (by omega) (by omega) dL_law_1043 ?_
    refine px_Vx mv_L_147 hm rfl rfl (Nat.le_of_ble_eq_true rfl) (Nat.le_of_ble_eq_true rfl) ko_65 (Nat.le_of_ble_eq_true rfl) dL_law_1044 ?_
    refine sw_istore (i := 6) dL_law_1047 (Nat.le_of_ble_eq_true rfl) rfl ?_
    refine sw_lo (lo2 := [some (.ref 1100), some (.ref 0), some (.ref 65), some (.ref 74), some (.int _), some (.int _), some (.int _), none, none]) rfl ?_
    refine sw_aload_n (i := 2) dL_law_1049 rfl rfl ?_
    refine px_Vx mv_L_94 hth rfl rfl (Nat.le_of_ble_eq_true rfl) (Nat.le_of_ble_eq_true rfl) ko_65 (Nat.le_of_ble_eq_true rfl) dL_law_1050 ?_
    refine sw_iload (i := 5) dL_law_1053 rfl ?_
    refine sw_ins (pc2 := 1055) rfl rfl ?_
    refine sw_ic_eq (tgt := 1060) dL_law_1055 rfl (fun _ => ?_) (fun h9 => absurd rfl h9)
    refine sw_iload (i := 5) dL_law_1060 rfl ?_
    refine sw_if_ne (tgt := 1077) dL_law_1062 rfl (fun h9 => absurd (by rw [kz]; rfl) h9) (fun _ => ?_)
    refine sw_aload_n (i := 3) dL_law_1065 rfl rfl ?_
    refine sw_ic 0 dL_law_1066 ?_
    refine sx_lald (0) rfl rfl (by omega) dL_law_1067 ?_
    rw [hb kz]
    refine sw_iload (i := 6) dL_law_1068 rfl ?_
    refine sw_i2l dL_law_1070 ?_
    refine sw_lcmp dL_law_1071 ?_
    rw [lg_same]
    refine sw_if_eq (tgt := 1077) dL_law_1072 rfl (fun _ => ?_) (fun h9 => absurd (by decide) h9)
    refine sw_goto (tgt := 1612) dL_law_1077 rfl ?_
    refine sw_iinc (i := 4) (v := nI (7 * (c + 1))) dL_law_1612 rfl (by show nI (7 * c) + nI 7 = _; exact nI_add _ _) (Nat.le_of_ble_eq_true rfl) rfl ?_
    refine sw_lo (lo2 := [some (.ref 1100), some (.ref 0), some (.ref 65), some (.ref 74), some (.int _), some (.int _), some (.int _), none, none]) rfl ?_
    refine sw_goto (tgt := 23) dL_law_1615 rfl ?_
    refine sw_sub ?_ y9
    exact ⟨rfl, rfl, rfl, rfl, rfl, trivial⟩
  ·
    refine sw_tabIn (off := 972) (tgt := 1012) dL_law_40 (by decide) (by decide) (by decide) (by decide) ?_
    refine sw_aload_n (i := 1) dL_law_1012 rfl rfl ?_
    refine sw_aload_n (i := 0) dL_law_1013 rfl rfl ?_
    refine sw_iload (i := 4) dL_law_1014 rfl ?_
    refine sw_ic 1 dL_law_1016 ?_
    refine sw_iadd dL_law_1017 ?_
    refine sw_sld rfl ((7 * c) + 1) (by simp only [nI_add, pk_mul]) (by omega) (by omega) dL_law_1018 ?_
    refine sw_ins (pc2 := 1019) rfl rfl ?_
    refine sw_aload_n (i := 0) dL_law_1019 rfl rfl ?_
    refine sw_iload (i := 4) dL_law_1020 rfl ?_
    refine sw_ic 2 dL_law_1022 ?_
    refine sw_iadd dL_law_1023 ?_
    refine sw_sld rfl ((7 * c) + 2) (by simp only [nI_add, pk_mul]) (by omega) (by omega) dL_law_1024 ?_
    refine sw_aload_n (i := 3) dL_law_1025 rfl rfl ?_
    refine px_Wx ms_L_145 hw rfl rfl (by decide) (Nat.le_of_ble_eq_true rfl) (Nat.le_of_ble_eq_true rfl) dL_law_1026 ?_
    refine sw_istore (i := 5) dL_law_1029 (Nat.le_of_ble_eq_true rfl) rfl ?_
    refine sw_lo (lo2 := [some (.ref 1100), some (.ref 0), some (.ref 65), some (.ref 74), some (.int _), some (.int _), none, none, none]) rfl ?_
    refine sw_ins (pc2 := 1031) rfl rfl ?_
    refine sw_aload_n (i := 2) dL_law_1031 rfl rfl ?_
    refine sw_aload_n (i := 0) dL_law_1032 rfl rfl ?_
    refine sw_iload (i := 4) dL_law_1033 rfl ?_
    refine sw_ic 1 dL_law_1035 ?_
    refine sw_iadd dL_law_1036 ?_
    refine sw_sld rfl ((7 * c) + 1) (by simp only [nI_add, pk_mul]) (by omega) (by omega) dL_law_1037 ?_
    refine sw_aload_n (i := 0) dL_law_1038 rfl rfl ?_
    refine sw_iload (i := 4) dL_law_1039 rfl ?_
    refine sw_ins (pc2 := 1041) rfl rfl ?_
    refine sw_ic 2 dL_law_1041 ?_
    refine sw_iadd dL_law_1042 ?_
    refine sw_sld rfl ((7 * c) + 2) (by simp only [nI_add, pk_mul]) (by omega) (by omega) dL_law_1043 ?_
    refine px_Vx mv_L_147 hm rfl rfl (Nat.le_of_ble_eq_true rfl) (Nat.le_of_ble_eq_true rfl) ko_65 (Nat.le_of_ble_eq_true rfl) dL_law_1044 ?_
    refine sw_istore (i := 6) dL_law_1047 (Nat.le_of_ble_eq_true rfl) rfl ?_
    refine sw_lo (lo2 := [some (.ref 1100), some (.ref 0), some (.ref 65), some (.ref 74), some (.int _), some (.int _), some (.int _), none, none]) rfl ?_
    refine sw_aload_n (i := 2) dL_law_1049 rfl rfl ?_
    refine px_Vx mv_L_94 hth rfl rfl (Nat.le_of_ble_eq_true rfl) (Nat.le_of_ble_eq_true rfl) ko_65 (Nat.le_of_ble_eq_true rfl) dL_law_1050 ?_
    refine sw_iload (i := 5) dL_law_1053 rfl ?_
    refine sw_ins (pc2 := 1055) rfl rfl ?_
    refine sw_ic_eq (tgt := 1060) dL_law_1055 rfl (fun _ => ?_) (fun h9 => absurd rfl h9)
    refine sw_iload (i := 5) dL_law_1060 rfl ?_
    refine sw_if_ne (tgt := 1077) dL_law_1062 rfl (fun _ => ?_) (fun h9 => absurd h9 (nI_ne0 (by omega) (by omega)))
    refine sw_goto (tgt := 1612) dL_law_1077 rfl ?_
    refine sw_iinc (i := 4) (v := nI (7 * (c + 1))) dL_law_1612 rfl (by show nI (7 * c) + nI 7 = _; exact nI_add _ _) (Nat.le_of_ble_eq_true rfl) rfl ?_
    refine sw_lo (lo2 := [some (.ref 1100), some (.ref 0), some (.ref 65), some (.ref 74), some (.int _), some (.int _), some (.int _), none, none]) rfl ?_
    refine sw_goto (tgt := 23) dL_law_1615 rfl ?_
    refine sw_sub ?_ y9
    exact ⟨rfl, rfl, rfl, rfl, rfl, trivial⟩
set_option maxRecDepth 100000 in
set_option maxHeartbeats 4000000 in
theorem K_16 {xt : List (Nat × Nat × Nat × Nat)} {L : Nat} {xs : Nat → Int32} {c f : Nat} {d : Nat → Nat → Int32} {r : Nat → Nat → Option Nat} {J : Nat → Nat → Int64} (hL : L ≤ 3584) (h7 : 7 * c + 7 ≤ L) (g : LI c d r) (hx : ∀ (d : Nat → Nat → Int32) (r : Nat → Nat → Option Nat) (J : Nat → Nat → Int64), LI (c + 1) d r → ∃ d1 r1 J1, SW yL_law cL_law 9 (some .boolean) xt 12 (some (L, xs)) 23 [some (.ref 1100), some (.ref 0), some (.ref 65), some (.ref 74), some (.int (nI (7 * (c + 1)))), none, none, none, none] [] 75 (W0 d r J) f (6 * f) (.inl (some (.int (nI 1)))) 75 (W0 d1 r1 J1)) : ∃ d1 r1 J1, SW yL_law cL_law 9 (some .boolean) xt 12 (some (L, xs)) 40 [some (.ref 1100), some (.ref 0), some (.ref 65), some (.ref 74), some (.int (nI (7 * c))), none, none, none, none] [.int (nI 16)] 75 (W0 d r J) (f + 1) (6 * (f + 1)) (.inl (some (.int (nI 1)))) 75 (W0 d1 r1 J1) := by
  obtain ⟨kk, b, d1, r1, J1, e1, hk, hw, hm, ht, hb, g2⟩ := G_promiseOf (J := J) (a1 := xs (7 * c + 1)) (a2 := xs (7 * c + 2)) g (by omega)
  obtain ⟨d9, r9, J9, y9⟩ := hx e1 r1 J1 g2
  have hth := A_X7_thrown (d := e1) (r := r1) (J := J1) ht
  refine ⟨d9, r9, J9, ?_⟩
  by_cases kz : kk = 0
  ·
    refine sw_tabIn (off := 1040) (tgt := 1080) dL_law_40 (by decide) (by decide) (by decide) (by decide) ?_
    refine sw_aload_n (i := 1) dL_law_1080 rfl rfl ?_
    refine sw_aload_n (i := 0) dL_law_1081 rfl rfl ?_
    refine sw_iload (i := 4) dL_law_1082 rfl ?_
    refine sw_ic 1 dL_law_1084 ?_
    refine sw_iadd dL_law_1085 ?_
    refine sw_sld rfl ((7 * c) + 1) (by simp only [nI_add, pk_mul]) (by omega) (by omega) dL_law_1086 ?_
    refine sw_ins (pc2 := 1087) rfl rfl ?_
    refine sw_aload_n (i := 0) dL_law_1087 rfl rfl ?_
    refine sw_iload (i := 4) dL_law_1088 rfl ?_
    refine sw_ic 2 dL_law_1090 ?_
    refine sw_iadd dL_law_1091 ?_
    refine sw_sld rfl ((7 * c) + 2) (by simp only [nI_add, pk_mul]) (by omega) (by omega) dL_law_1092 ?_
    refine sw_aload_n (i := 3) dL_law_1093 rfl rfl ?_
    refine px_Wx ms_L_148 hw rfl rfl (by decide) (Nat.le_of_ble_eq_true rfl) (Nat.le_of_ble_eq_true rfl) dL_law_1094 ?_
    refine sw_istore (i := 5) dL_law_1097 (Nat.le_of_ble_eq_true rfl) rfl ?_
    refine sw_lo (lo2 := [some (.ref 1100), some (.ref 0), some (.ref 65), some (.ref 74), some (.int _), some (.int _), none, none, none]) rfl ?_
    refine sw_ins (pc2 := 1099) rfl rfl ?_
    refine sw_aload_n (i := 2) dL_law_1099 rfl rfl ?_
    refine sw_aload_n (i := 0) dL_law_1100 rfl rfl ?_
    refine sw_iload (i := 4) dL_law_1101 rfl ?_
    refine sw_ic 1 dL_law_1103 ?_
    refine sw_iadd dL_law_1104 ?_
    refine sw_sld rfl ((7 * c) + 1) (by simp only [nI_add, pk_mul]) (by omega) (by omega) dL_law_1105 ?_
    refine sw_aload_n (i := 0) dL_law_1106 rfl rfl ?_
    refine sw_iload (i := 4) dL_law_1107 rfl ?_
    refine sw_ins (pc2 := 1109) rfl rfl ?_
    refine sw_ic 2 dL_law_1109 ?_
    refine sw_iadd dL_law_1110 ?_
    refine sw_sld rfl ((7 * c) + 2) (by simp only [nI_add, pk_mul]) (by omega) (by omega) dL_law_1111 ?_
    refine px_Vx mv_L_150 hm rfl rfl (Nat.le_of_ble_eq_true rfl) (Nat.le_of_ble_eq_true rfl) ko_65 (Nat.le_of_ble_eq_true rfl) dL_law_1112 ?_
    refine sw_istore (i := 6) dL_law_1115 (Nat.le_of_ble_eq_true rfl) rfl ?_
    refine sw_lo (lo2 := [some (.ref 1100), some (.ref 0), some (.ref 65), some (.ref 74), some (.int _), some (.int _), some (.int _), none, none]) rfl ?_
    refine sw_aload_n (i := 2) dL_law_1117 rfl rfl ?_
    refine px_Vx mv_L_94 hth rfl rfl (Nat.le_of_ble_eq_true rfl) (Nat.le_of_ble_eq_true rfl) ko_65 (Nat.le_of_ble_eq_true rfl) dL_law_1118 ?_
    refine sw_iload (i := 5) dL_law_1121 rfl ?_
    refine sw_ins (pc2 := 1123) rfl rfl ?_
    refine sw_ic_eq (tgt := 1128) dL_law_1123 rfl (fun _ => ?_) (fun h9 => absurd rfl h9)
    refine sw_iload (i := 5) dL_law_1128 rfl ?_
    refine sw_if_ne (tgt := 1145) dL_law_1130 rfl (fun h9 => absurd (by rw [kz]; rfl) h9) (fun _ => ?_)
    refine sw_aload_n (i := 3) dL_law_1133 rfl rfl ?_
    refine sw_ic 0 dL_law_1134 ?_
    refine sx_lald (0) rfl rfl (by omega) dL_law_1135 ?_
    rw [hb kz]
    refine sw_iload (i := 6) dL_law_1136 rfl ?_
    refine sw_i2l dL_law_1138 ?_
    refine sw_lcmp dL_law_1139 ?_
    rw [lg_same]
    refine sw_if_eq (tgt := 1145) dL_law_1140 rfl (fun _ => ?_) (fun h9 => absurd (by decide) h9)
    refine sw_goto (tgt := 1612) dL_law_1145 rfl ?_
    refine sw_iinc (i := 4) (v := nI (7 * (c + 1))) dL_law_1612 rfl (by show nI (7 * c) + nI 7 = _; exact nI_add _ _) (Nat.le_of_ble_eq_true rfl) rfl ?_
    refine sw_lo (lo2 := [some (.ref 1100), some (.ref 0), some (.ref 65), some (.ref 74), some (.int _), some (.int _), some (.int _), none, none]) rfl ?_
    refine sw_goto (tgt := 23) dL_law_1615 rfl ?_
    refine sw_sub ?_ y9
    exact ⟨rfl, rfl, rfl, rfl, rfl, trivial⟩
  ·
    refine sw_tabIn (off := 1040) (tgt := 1080) dL_law_40 (by decide) (by decide) (by decide) (by decide) ?_
    refine sw_aload_n (i := 1) dL_law_1080 rfl rfl ?_
    refine sw_aload_n (i := 0) dL_law_1081 rfl rfl ?_
    refine sw_iload (i := 4) dL_law_1082 rfl ?_
    refine sw_ic 1 dL_law_1084 ?_
    refine sw_iadd dL_law_1085 ?_
    refine sw_sld rfl ((7 * c) + 1) (by simp only [nI_add, pk_mul]) (by omega) (by omega) dL_law_1086 ?_
    refine sw_ins (pc2 := 1087) rfl rfl ?_
    refine sw_aload_n (i := 0) dL_law_1087 rfl rfl ?_
    refine sw_iload (i := 4) dL_law_1088 rfl ?_
    refine sw_ic 2 dL_law_1090 ?_
    refine sw_iadd dL_law_1091 ?_
    refine sw_sld rfl ((7 * c) + 2) (by simp only [nI_add, pk_mul]) (by omega) (by omega) dL_law_1092 ?_
    refine sw_aload_n (i := 3) dL_law_1093 rfl rfl ?_
    refine px_Wx ms_L_148 hw rfl rfl (by decide) (Nat.le_of_ble_eq_true rfl) (Nat.le_of_ble_eq_true rfl) dL_law_1094 ?_
    refine sw_istore (i := 5) dL_law_1097 (Nat.le_of_ble_eq_true rfl) rfl ?_
    refine sw_lo (lo2 := [some (.ref 1100), some (.ref 0), some (.ref 65), some (.ref 74), some (.int _), some (.int _), none, none, none]) rfl ?_
    refine sw_ins (pc2 := 1099) rfl rfl ?_
    refine sw_aload_n (i := 2) dL_law_1099 rfl rfl ?_
    refine sw_aload_n (i := 0) dL_law_1100 rfl rfl ?_
    refine sw_iload (i := 4) dL_law_1101 rfl ?_
    refine sw_ic 1 dL_law_1103 ?_
    refine sw_iadd dL_law_1104 ?_
    refine sw_sld rfl ((7 * c) + 1) (by simp only [nI_add, pk_mul]) (by omega) (by omega) dL_law_1105 ?_
    refine sw_aload_n (i := 0) dL_law_1106 rfl rfl ?_
    refine sw_iload (i := 4) dL_law_1107 rfl ?_
    refine sw_ins (pc2 := 1109) rfl rfl ?_
    refine sw_ic 2 dL_law_1109 ?_
    refine sw_iadd dL_law_1110 ?_
    refine sw_sld rfl ((7 * c) + 2) (by simp only [nI_add, pk_mul]) (by omega) (by omega) dL_law_1111 ?_
    refine px_Vx mv_L_150 hm rfl rfl (Nat.le_of_ble_eq_true rfl) (Nat.le_of_ble_eq_true rfl) ko_65 (Nat.le_of_ble_eq_true rfl) dL_law_1112 ?_
    refine sw_istore (i := 6) dL_law_1115 (Nat.le_of_ble_eq_true rfl) rfl ?_
    refine sw_lo (lo2 := [some (.ref 1100), some (.ref 0), some (.ref 65), some (.ref 74), some (.int _), some (.int _), some (.int _), none, none]) rfl ?_
    refine sw_aload_n (i := 2) dL_law_1117 rfl rfl ?_
    refine px_Vx mv_L_94 hth rfl rfl (Nat.le_of_ble_eq_true rfl) (Nat.le_of_ble_eq_true rfl) ko_65 (Nat.le_of_ble_eq_true rfl) dL_law_1118 ?_
    refine sw_iload (i := 5) dL_law_1121 rfl ?_
    refine sw_ins (pc2 := 1123) rfl rfl ?_
    refine sw_ic_eq (tgt := 1128) dL_law_1123 rfl (fun _ => ?_) (fun h9 => absurd rfl h9)
    refine sw_iload (i := 5) dL_law_1128 rfl ?_
    refine sw_if_ne (tgt := 1145) dL_law_1130 rfl (fun _ => ?_) (fun h9 => absurd h9 (nI_ne0 (by omega) (by omega)))
    refine sw_goto (tgt := 1612) dL_law_1145 rfl ?_
    refine sw_iinc (i := 4) (v := nI (7 * (c + 1))) dL_law_1612 rfl (by show nI (7 * c) + nI 7 = _; exact nI_add _ _) (Nat.le_of_ble_eq_true rfl) rfl ?_
    refine sw_lo (lo2 := [some (.ref 1100), some (.ref 0), some (.ref 65), some (.ref 74), some (.int _), some (.int _), some (.int _), none, none]) rfl ?_
    refine sw_goto (tgt := 23) dL_law_1615 rfl ?_
    refine sw_sub ?_ y9
    exact ⟨rfl, rfl, rfl, rfl, rfl, trivial⟩
set_option maxRecDepth 100000 in
set_option maxHeartbeats 4000000 in
theorem K_17 {xt : List (Nat × Nat × Nat × Nat)} {L : Nat} {xs : Nat → Int32} {c f : Nat} {d : Nat → Nat → Int32} {r : Nat → Nat → Option Nat} {J : Nat → Nat → Int64} (hL : L ≤ 3584) (h7 : 7 * c + 7 ≤ L) (g : LI c d r) (hx : ∀ (d : Nat → Nat → Int32) (r : Nat → Nat → Option Nat) (J : Nat → Nat → Int64), LI (c + 1) d r → ∃ d1 r1 J1, SW yL_law cL_law 9 (some .boolean) xt 12 (some (L, xs)) 23 [some (.ref 1100), some (.ref 0), some (.ref 65), some (.ref 74), some (.int (nI (7 * (c + 1)))), none, none, none, none] [] 75 (W0 d r J) f (6 * f) (.inl (some (.int (nI 1)))) 75 (W0 d1 r1 J1)) : ∃ d1 r1 J1, SW yL_law cL_law 9 (some .boolean) xt 12 (some (L, xs)) 40 [some (.ref 1100), some (.ref 0), some (.ref 65), some (.ref 74), some (.int (nI (7 * c))), none, none, none, none] [.int (nI 17)] 75 (W0 d r J) (f + 1) (6 * (f + 1)) (.inl (some (.int (nI 1)))) 75 (W0 d1 r1 J1) := by
  obtain ⟨kk, b, d1, r1, J1, e1, hk, hw, hm, ht, hb, g2⟩ := G_owed (J := J) (a1 := xs (7 * c + 1)) (a2 := xs (7 * c + 2)) g (by omega)
  obtain ⟨d9, r9, J9, y9⟩ := hx e1 r1 J1 g2
  have hth := A_X7_thrown (d := e1) (r := r1) (J := J1) ht
  refine ⟨d9, r9, J9, ?_⟩
  by_cases kz : kk = 0
  ·
    refine sw_tabIn (off := 1108) (tgt := 1148) dL_law_40 (by decide) (by decide) (by decide) (by decide) ?_
    refine sw_aload_n (i := 1) dL_law_1148 rfl rfl ?_
    refine sw_aload_n (i := 0) dL_law_1149 rfl rfl ?_
    refine sw_iload (i := 4) dL_law_1150 rfl ?_
    refine sw_ic 1 dL_law_1152 ?_
    refine sw_iadd dL_law_1153 ?_
    refine sw_sld rfl ((7 * c) + 1) (by simp only [nI_add, pk_mul]) (by omega) (by omega) dL_law_1154 ?_
    refine sw_ins (pc2 := 1155) rfl rfl ?_
    refine sw_aload_n (i := 0) dL_law_1155 rfl rfl ?_
    refine sw_iload (i := 4) dL_law_1156 rfl ?_
    refine sw_ic 2 dL_law_1158 ?_
    refine sw_iadd dL_law_1159 ?_
    refine sw_sld rfl ((7 * c) + 2) (by simp only [nI_add, pk_mul]) (by omega) (by omega) dL_law_1160 ?_
    refine sw_aload_n (i := 3) dL_law_1161 rfl rfl ?_
    refine px_Wx ms_L_151 hw rfl rfl (by decide) (Nat.le_of_ble_eq_true rfl) (Nat.le_of_ble_eq_true rfl) dL_law_1162 ?_
    refine sw_istore (i := 5) dL_law_1165 (Nat.le_of_ble_eq_true rfl) rfl ?_
    refine sw_lo (lo2 := [some (.ref 1100), some (.ref 0), some (.ref 65), some (.ref 74), some (.int _), some (.int _), none, none, none]) rfl ?_
    refine sw_ins (pc2 := 1167) rfl rfl ?_
    refine sw_aload_n (i := 2) dL_law_1167 rfl rfl ?_
    refine sw_aload_n (i := 0) dL_law_1168 rfl rfl ?_
    refine sw_iload (i := 4) dL_law_1169 rfl ?_
    refine sw_ic 1 dL_law_1171 ?_
    refine sw_iadd dL_law_1172 ?_
    refine sw_sld rfl ((7 * c) + 1) (by simp only [nI_add, pk_mul]) (by omega) (by omega) dL_law_1173 ?_
    refine sw_aload_n (i := 0) dL_law_1174 rfl rfl ?_
    refine sw_iload (i := 4) dL_law_1175 rfl ?_
    refine sw_ins (pc2 := 1177) rfl rfl ?_
    refine sw_ic 2 dL_law_1177 ?_
    refine sw_iadd dL_law_1178 ?_
    refine sw_sld rfl ((7 * c) + 2) (by simp only [nI_add, pk_mul]) (by omega) (by omega) dL_law_1179 ?_
    refine px_Vx mv_L_153 hm rfl rfl (Nat.le_of_ble_eq_true rfl) (Nat.le_of_ble_eq_true rfl) ko_65 (Nat.le_of_ble_eq_true rfl) dL_law_1180 ?_
    refine sw_istore (i := 6) dL_law_1183 (Nat.le_of_ble_eq_true rfl) rfl ?_
    refine sw_lo (lo2 := [some (.ref 1100), some (.ref 0), some (.ref 65), some (.ref 74), some (.int _), some (.int _), some (.int _), none, none]) rfl ?_
    refine sw_aload_n (i := 2) dL_law_1185 rfl rfl ?_
    refine px_Vx mv_L_94 hth rfl rfl (Nat.le_of_ble_eq_true rfl) (Nat.le_of_ble_eq_true rfl) ko_65 (Nat.le_of_ble_eq_true rfl) dL_law_1186 ?_
    refine sw_iload (i := 5) dL_law_1189 rfl ?_
    refine sw_ins (pc2 := 1191) rfl rfl ?_
    refine sw_ic_eq (tgt := 1196) dL_law_1191 rfl (fun _ => ?_) (fun h9 => absurd rfl h9)
    refine sw_iload (i := 5) dL_law_1196 rfl ?_
    refine sw_if_ne (tgt := 1213) dL_law_1198 rfl (fun h9 => absurd (by rw [kz]; rfl) h9) (fun _ => ?_)
    refine sw_aload_n (i := 3) dL_law_1201 rfl rfl ?_
    refine sw_ic 0 dL_law_1202 ?_
    refine sx_lald (0) rfl rfl (by omega) dL_law_1203 ?_
    rw [hb kz]
    refine sw_iload (i := 6) dL_law_1204 rfl ?_
    refine sw_i2l dL_law_1206 ?_
    refine sw_lcmp dL_law_1207 ?_
    rw [lg_same]
    refine sw_if_eq (tgt := 1213) dL_law_1208 rfl (fun _ => ?_) (fun h9 => absurd (by decide) h9)
    refine sw_goto (tgt := 1612) dL_law_1213 rfl ?_
    refine sw_iinc (i := 4) (v := nI (7 * (c + 1))) dL_law_1612 rfl (by show nI (7 * c) + nI 7 = _; exact nI_add _ _) (Nat.le_of_ble_eq_true rfl) rfl ?_
    refine sw_lo (lo2 := [some (.ref 1100), some (.ref 0), some (.ref 65), some (.ref 74), some (.int _), some (.int _), some (.int _), none, none]) rfl ?_
    refine sw_goto (tgt := 23) dL_law_1615 rfl ?_
    refine sw_sub ?_ y9
    exact ⟨rfl, rfl, rfl, rfl, rfl, trivial⟩
  ·
    refine sw_tabIn (off := 1108) (tgt := 1148) dL_law_40 (by decide) (by decide) (by decide) (by decide) ?_
    refine sw_aload_n (i := 1) dL_law_1148 rfl rfl ?_
    refine sw_aload_n (i := 0) dL_law_1149 rfl rfl ?_
    refine sw_iload (i := 4) dL_law_1150 rfl ?_
    refine sw_ic 1 dL_law_1152 ?_
    refine sw_iadd dL_law_1153 ?_
    refine sw_sld rfl ((7 * c) + 1) (by simp only [nI_add, pk_mul]) (by omega) (by omega) dL_law_1154 ?_
    refine sw_ins (pc2 := 1155) rfl rfl ?_
    refine sw_aload_n (i := 0) dL_law_1155 rfl rfl ?_
    refine sw_iload (i := 4) dL_law_1156 rfl ?_
    refine sw_ic 2 dL_law_1158 ?_
    refine sw_iadd dL_law_1159 ?_
    refine sw_sld rfl ((7 * c) + 2) (by simp only [nI_add, pk_mul]) (by omega) (by omega) dL_law_1160 ?_
    refine sw_aload_n (i := 3) dL_law_1161 rfl rfl ?_
    refine px_Wx ms_L_151 hw rfl rfl (by decide) (Nat.le_of_ble_eq_true rfl) (Nat.le_of_ble_eq_true rfl) dL_law_1162 ?_
    refine sw_istore (i := 5) dL_law_1165 (Nat.le_of_ble_eq_true rfl) rfl ?_
    refine sw_lo (lo2 := [some (.ref 1100), some (.ref 0), some (.ref 65), some (.ref 74), some (.int _), some (.int _), none, none, none]) rfl ?_
    refine sw_ins (pc2 := 1167) rfl rfl ?_
    refine sw_aload_n (i := 2) dL_law_1167 rfl rfl ?_
    refine sw_aload_n (i := 0) dL_law_1168 rfl rfl ?_
    refine sw_iload (i := 4) dL_law_1169 rfl ?_
    refine sw_ic 1 dL_law_1171 ?_
    refine sw_iadd dL_law_1172 ?_
    refine sw_sld rfl ((7 * c) + 1) (by simp only [nI_add, pk_mul]) (by omega) (by omega) dL_law_1173 ?_
    refine sw_aload_n (i := 0) dL_law_1174 rfl rfl ?_
    refine sw_iload (i := 4) dL_law_1175 rfl ?_
    refine sw_ins (pc2 := 1177) rfl rfl ?_
    refine sw_ic 2 dL_law_1177 ?_
    refine sw_iadd dL_law_1178 ?_
    refine sw_sld rfl ((7 * c) + 2) (by simp only [nI_add, pk_mul]) (by omega) (by omega) dL_law_1179 ?_
    refine px_Vx mv_L_153 hm rfl rfl (Nat.le_of_ble_eq_true rfl) (Nat.le_of_ble_eq_true rfl) ko_65 (Nat.le_of_ble_eq_true rfl) dL_law_1180 ?_
    refine sw_istore (i := 6) dL_law_1183 (Nat.le_of_ble_eq_true rfl) rfl ?_
    refine sw_lo (lo2 := [some (.ref 1100), some (.ref 0), some (.ref 65), some (.ref 74), some (.int _), some (.int _), some (.int _), none, none]) rfl ?_
    refine sw_aload_n (i := 2) dL_law_1185 rfl rfl ?_
    refine px_Vx mv_L_94 hth rfl rfl (Nat.le_of_ble_eq_true rfl) (Nat.le_of_ble_eq_true rfl) ko_65 (Nat.le_of_ble_eq_true rfl) dL_law_1186 ?_
    refine sw_iload (i := 5) dL_law_1189 rfl ?_
    refine sw_ins (pc2 := 1191) rfl rfl ?_
    refine sw_ic_eq (tgt := 1196) dL_law_1191 rfl (fun _ => ?_) (fun h9 => absurd rfl h9)
    refine sw_iload (i := 5) dL_law_1196 rfl ?_
    refine sw_if_ne (tgt := 1213) dL_law_1198 rfl (fun _ => ?_) (fun h9 => absurd h9 (nI_ne0 (by omega) (by omega)))
    refine sw_goto (tgt := 1612) dL_law_1213 rfl ?_
    refine sw_iinc (i := 4) (v := nI (7 * (c + 1))) dL_law_1612 rfl (by show nI (7 * c) + nI 7 = _; exact nI_add _ _) (Nat.le_of_ble_eq_true rfl) rfl ?_
    refine sw_lo (lo2 := [some (.ref 1100), some (.ref 0), some (.ref 65), some (.ref 74), some (.int _), some (.int _), some (.int _), none, none]) rfl ?_
    refine sw_goto (tgt := 23) dL_law_1615 rfl ?_
    refine sw_sub ?_ y9
    exact ⟨rfl, rfl, rfl, rfl, rfl, trivial⟩
set_option maxRecDepth 100000 in
set_option maxHeartbeats 4000000 in
theorem K_18 {xt : List (Nat × Nat × Nat × Nat)} {L : Nat} {xs : Nat → Int32} {c f : Nat} {d : Nat → Nat → Int32} {r : Nat → Nat → Option Nat} {J : Nat → Nat → Int64} (hL : L ≤ 3584) (h7 : 7 * c + 7 ≤ L) (g : LI c d r) (hx : ∀ (d : Nat → Nat → Int32) (r : Nat → Nat → Option Nat) (J : Nat → Nat → Int64), LI (c + 1) d r → ∃ d1 r1 J1, SW yL_law cL_law 9 (some .boolean) xt 12 (some (L, xs)) 23 [some (.ref 1100), some (.ref 0), some (.ref 65), some (.ref 74), some (.int (nI (7 * (c + 1)))), none, none, none, none] [] 75 (W0 d r J) f (6 * f) (.inl (some (.int (nI 1)))) 75 (W0 d1 r1 J1)) : ∃ d1 r1 J1, SW yL_law cL_law 9 (some .boolean) xt 12 (some (L, xs)) 40 [some (.ref 1100), some (.ref 0), some (.ref 65), some (.ref 74), some (.int (nI (7 * c))), none, none, none, none] [.int (nI 18)] 75 (W0 d r J) (f + 1) (6 * (f + 1)) (.inl (some (.int (nI 1)))) 75 (W0 d1 r1 J1) := by
  obtain ⟨kk, b, d1, r1, J1, e1, hk, hw, hm, ht, hb, g2⟩ := G_count (J := J) (a1 := xs (7 * c + 1)) g (by omega)
  obtain ⟨d9, r9, J9, y9⟩ := hx e1 r1 J1 g2
  have hth := A_X7_thrown (d := e1) (r := r1) (J := J1) ht
  refine ⟨d9, r9, J9, ?_⟩
  by_cases kz : kk = 0
  ·
    refine sw_tabIn (off := 1176) (tgt := 1216) dL_law_40 (by decide) (by decide) (by decide) (by decide) ?_
    refine sw_aload_n (i := 1) dL_law_1216 rfl rfl ?_
    refine sw_aload_n (i := 0) dL_law_1217 rfl rfl ?_
    refine sw_iload (i := 4) dL_law_1218 rfl ?_
    refine sw_ic 1 dL_law_1220 ?_
    refine sw_iadd dL_law_1221 ?_
    refine sw_sld rfl ((7 * c) + 1) (by simp only [nI_add, pk_mul]) (by omega) (by omega) dL_law_1222 ?_
    refine sw_ins (pc2 := 1223) rfl rfl ?_
    refine sw_aload_n (i := 3) dL_law_1223 rfl rfl ?_
    refine px_Wx ms_L_154 hw rfl rfl (by decide) (Nat.le_of_ble_eq_true rfl) (Nat.le_of_ble_eq_true rfl) dL_law_1224 ?_
    refine sw_istore (i := 5) dL_law_1227 (Nat.le_of_ble_eq_true rfl) rfl ?_
    refine sw_lo (lo2 := [some (.ref 1100), some (.ref 0), some (.ref 65), some (.ref 74), some (.int _), some (.int _), none, none, none]) rfl ?_
    refine sw_aload_n (i := 2) dL_law_1229 rfl rfl ?_
    refine sw_aload_n (i := 0) dL_law_1230 rfl rfl ?_
    refine sw_iload (i := 4) dL_law_1231 rfl ?_
    refine sw_ic 1 dL_law_1233 ?_
    refine sw_iadd dL_law_1234 ?_
    refine sw_ins (pc2 := 1235) rfl rfl ?_
    refine sw_sld rfl ((7 * c) + 1) (by simp only [nI_add, pk_mul]) (by omega) (by omega) dL_law_1235 ?_
    refine px_Vx mv_L_156 hm rfl rfl (Nat.le_of_ble_eq_true rfl) (Nat.le_of_ble_eq_true rfl) ko_65 (Nat.le_of_ble_eq_true rfl) dL_law_1236 ?_
    refine sw_istore (i := 6) dL_law_1239 (Nat.le_of_ble_eq_true rfl) rfl ?_
    refine sw_lo (lo2 := [some (.ref 1100), some (.ref 0), some (.ref 65), some (.ref 74), some (.int _), some (.int _), some (.int _), none, none]) rfl ?_
    refine sw_aload_n (i := 2) dL_law_1241 rfl rfl ?_
    refine px_Vx mv_L_94 hth rfl rfl (Nat.le_of_ble_eq_true rfl) (Nat.le_of_ble_eq_true rfl) ko_65 (Nat.le_of_ble_eq_true rfl) dL_law_1242 ?_
    refine sw_iload (i := 5) dL_law_1245 rfl ?_
    refine sw_ic_eq (tgt := 1252) dL_law_1247 rfl (fun _ => ?_) (fun h9 => absurd rfl h9)
    refine sw_iload (i := 5) dL_law_1252 rfl ?_
    refine sw_ins (pc2 := 1254) rfl rfl ?_
    refine sw_if_ne (tgt := 1269) dL_law_1254 rfl (fun h9 => absurd (by rw [kz]; rfl) h9) (fun _ => ?_)
    refine sw_aload_n (i := 3) dL_law_1257 rfl rfl ?_
    refine sw_ic 0 dL_law_1258 ?_
    refine sx_lald (0) rfl rfl (by omega) dL_law_1259 ?_
    rw [hb kz]
    refine sw_iload (i := 6) dL_law_1260 rfl ?_
    refine sw_i2l dL_law_1262 ?_
    refine sw_lcmp dL_law_1263 ?_
    rw [lg_same]
    refine sw_if_eq (tgt := 1269) dL_law_1264 rfl (fun _ => ?_) (fun h9 => absurd (by decide) h9)
    refine sw_ins (pc2 := 1269) rfl rfl ?_
    refine sw_goto (tgt := 1612) dL_law_1269 rfl ?_
    refine sw_iinc (i := 4) (v := nI (7 * (c + 1))) dL_law_1612 rfl (by show nI (7 * c) + nI 7 = _; exact nI_add _ _) (Nat.le_of_ble_eq_true rfl) rfl ?_
    refine sw_lo (lo2 := [some (.ref 1100), some (.ref 0), some (.ref 65), some (.ref 74), some (.int _), some (.int _), some (.int _), none, none]) rfl ?_
    refine sw_goto (tgt := 23) dL_law_1615 rfl ?_
    refine sw_sub ?_ y9
    exact ⟨rfl, rfl, rfl, rfl, rfl, trivial⟩
  ·
    refine sw_tabIn (off := 1176) (tgt := 1216) dL_law_40 (by decide) (by decide) (by decide) (by decide) ?_
    refine sw_aload_n (i := 1) dL_law_1216 rfl rfl ?_
    refine sw_aload_n (i := 0) dL_law_1217 rfl rfl ?_
    refine sw_iload (i := 4) dL_law_1218 rfl ?_
    refine sw_ic 1 dL_law_1220 ?_
    refine sw_iadd dL_law_1221 ?_
    refine sw_sld rfl ((7 * c) + 1) (by simp only [nI_add, pk_mul]) (by omega) (by omega) dL_law_1222 ?_
    refine sw_ins (pc2 := 1223) rfl rfl ?_
    refine sw_aload_n (i := 3) dL_law_1223 rfl rfl ?_
    refine px_Wx ms_L_154 hw rfl rfl (by decide) (Nat.le_of_ble_eq_true rfl) (Nat.le_of_ble_eq_true rfl) dL_law_1224 ?_
    refine sw_istore (i := 5) dL_law_1227 (Nat.le_of_ble_eq_true rfl) rfl ?_
    refine sw_lo (lo2 := [some (.ref 1100), some (.ref 0), some (.ref 65), some (.ref 74), some (.int _), some (.int _), none, none, none]) rfl ?_
    refine sw_aload_n (i := 2) dL_law_1229 rfl rfl ?_
    refine sw_aload_n (i := 0) dL_law_1230 rfl rfl ?_
    refine sw_iload (i := 4) dL_law_1231 rfl ?_
    refine sw_ic 1 dL_law_1233 ?_
    refine sw_iadd dL_law_1234 ?_
    refine sw_ins (pc2 := 1235) rfl rfl ?_
    refine sw_sld rfl ((7 * c) + 1) (by simp only [nI_add, pk_mul]) (by omega) (by omega) dL_law_1235 ?_
    refine px_Vx mv_L_156 hm rfl rfl (Nat.le_of_ble_eq_true rfl) (Nat.le_of_ble_eq_true rfl) ko_65 (Nat.le_of_ble_eq_true rfl) dL_law_1236 ?_
    refine sw_istore (i := 6) dL_law_1239 (Nat.le_of_ble_eq_true rfl) rfl ?_
    refine sw_lo (lo2 := [some (.ref 1100), some (.ref 0), some (.ref 65), some (.ref 74), some (.int _), some (.int _), some (.int _), none, none]) rfl ?_
    refine sw_aload_n (i := 2) dL_law_1241 rfl rfl ?_
    refine px_Vx mv_L_94 hth rfl rfl (Nat.le_of_ble_eq_true rfl) (Nat.le_of_ble_eq_true rfl) ko_65 (Nat.le_of_ble_eq_true rfl) dL_law_1242 ?_
    refine sw_iload (i := 5) dL_law_1245 rfl ?_
    refine sw_ic_eq (tgt := 1252) dL_law_1247 rfl (fun _ => ?_) (fun h9 => absurd rfl h9)
    refine sw_iload (i := 5) dL_law_1252 rfl ?_
    refine sw_ins (pc2 := 1254) rfl rfl ?_
    refine sw_if_ne (tgt := 1269) dL_law_1254 rfl (fun _ => ?_) (fun h9 => absurd h9 (nI_ne0 (by omega) (by omega)))
    refine sw_goto (tgt := 1612) dL_law_1269 rfl ?_
    refine sw_iinc (i := 4) (v := nI (7 * (c + 1))) dL_law_1612 rfl (by show nI (7 * c) + nI 7 = _; exact nI_add _ _) (Nat.le_of_ble_eq_true rfl) rfl ?_
    refine sw_lo (lo2 := [some (.ref 1100), some (.ref 0), some (.ref 65), some (.ref 74), some (.int _), some (.int _), some (.int _), none, none]) rfl ?_
    refine sw_goto (tgt := 23) dL_law_1615 rfl ?_
    refine sw_sub ?_ y9
    exact ⟨rfl, rfl, rfl, rfl, rfl, trivial⟩
set_option maxRecDepth 100000 in
set_option maxHeartbeats 4000000 in
theorem K_19 {xt : List (Nat × Nat × Nat × Nat)} {L : Nat} {xs : Nat → Int32} {c f : Nat} {d : Nat → Nat → Int32} {r : Nat → Nat → Option Nat} {J : Nat → Nat → Int64} (hL : L ≤ 3584) (h7 : 7 * c + 7 ≤ L) (g : LI c d r) (hx : ∀ (d : Nat → Nat → Int32) (r : Nat → Nat → Option Nat) (J : Nat → Nat → Int64), LI (c + 1) d r → ∃ d1 r1 J1, SW yL_law cL_law 9 (some .boolean) xt 12 (some (L, xs)) 23 [some (.ref 1100), some (.ref 0), some (.ref 65), some (.ref 74), some (.int (nI (7 * (c + 1)))), none, none, none, none] [] 75 (W0 d r J) f (6 * f) (.inl (some (.int (nI 1)))) 75 (W0 d1 r1 J1)) : ∃ d1 r1 J1, SW yL_law cL_law 9 (some .boolean) xt 12 (some (L, xs)) 40 [some (.ref 1100), some (.ref 0), some (.ref 65), some (.ref 74), some (.int (nI (7 * c))), none, none, none, none] [.int (nI 19)] 75 (W0 d r J) (f + 1) (6 * (f + 1)) (.inl (some (.int (nI 1)))) 75 (W0 d1 r1 J1) := by
  obtain ⟨kk, b, d1, r1, J1, e1, hk, hw, hm, ht, hb, g2⟩ := G_where (J := J) (a1 := xs (7 * c + 1)) (a2 := xs (7 * c + 2)) (a3 := xs (7 * c + 3)) g (by omega)
  obtain ⟨d9, r9, J9, y9⟩ := hx e1 r1 J1 g2
  have hth := A_X7_thrown (d := e1) (r := r1) (J := J1) ht
  refine ⟨d9, r9, J9, ?_⟩
  by_cases kz : kk = 0
  ·
    refine sw_tabIn (off := 1232) (tgt := 1272) dL_law_40 (by decide) (by decide) (by decide) (by decide) ?_
    refine sw_aload_n (i := 1) dL_law_1272 rfl rfl ?_
    refine sw_aload_n (i := 0) dL_law_1273 rfl rfl ?_
    refine sw_iload (i := 4) dL_law_1274 rfl ?_
    refine sw_ic 1 dL_law_1276 ?_
    refine sw_iadd dL_law_1277 ?_
    refine sw_sld rfl ((7 * c) + 1) (by simp only [nI_add, pk_mul]) (by omega) (by omega) dL_law_1278 ?_
    refine sw_ins (pc2 := 1279) rfl rfl ?_
    refine sw_aload_n (i := 0) dL_law_1279 rfl rfl ?_
    refine sw_iload (i := 4) dL_law_1280 rfl ?_
    refine sw_ic 2 dL_law_1282 ?_
    refine sw_iadd dL_law_1283 ?_
    refine sw_sld rfl ((7 * c) + 2) (by simp only [nI_add, pk_mul]) (by omega) (by omega) dL_law_1284 ?_
    refine sw_aload_n (i := 0) dL_law_1285 rfl rfl ?_
    refine sw_iload (i := 4) dL_law_1286 rfl ?_
    refine sw_ic 3 dL_law_1288 ?_
    refine sw_ins (pc2 := 1289) rfl rfl ?_
    refine sw_iadd dL_law_1289 ?_
    refine sw_sld rfl ((7 * c) + 3) (by simp only [nI_add, pk_mul]) (by omega) (by omega) dL_law_1290 ?_
    refine sw_aload_n (i := 3) dL_law_1291 rfl rfl ?_
    refine px_Wx ms_L_157 hw rfl rfl (by decide) (Nat.le_of_ble_eq_true rfl) (Nat.le_of_ble_eq_true rfl) dL_law_1292 ?_
    refine sw_istore (i := 5) dL_law_1295 (Nat.le_of_ble_eq_true rfl) rfl ?_
    refine sw_lo (lo2 := [some (.ref 1100), some (.ref 0), some (.ref 65), some (.ref 74), some (.int _), some (.int _), none, none, none]) rfl ?_
    refine sw_aload_n (i := 2) dL_law_1297 rfl rfl ?_
    refine sw_aload_n (i := 0) dL_law_1298 rfl rfl ?_
    refine sw_iload (i := 4) dL_law_1299 rfl ?_
    refine sw_ins (pc2 := 1301) rfl rfl ?_
    refine sw_ic 1 dL_law_1301 ?_
    refine sw_iadd dL_law_1302 ?_
    refine sw_sld rfl ((7 * c) + 1) (by simp only [nI_add, pk_mul]) (by omega) (by omega) dL_law_1303 ?_
    refine sw_aload_n (i := 0) dL_law_1304 rfl rfl ?_
    refine sw_iload (i := 4) dL_law_1305 rfl ?_
    refine sw_ic 2 dL_law_1307 ?_
    refine sw_iadd dL_law_1308 ?_
    refine sw_sld rfl ((7 * c) + 2) (by simp only [nI_add, pk_mul]) (by omega) (by omega) dL_law_1309 ?_
    refine sw_ins (pc2 := 1310) rfl rfl ?_
    refine sw_aload_n (i := 0) dL_law_1310 rfl rfl ?_
    refine sw_iload (i := 4) dL_law_1311 rfl ?_
    refine sw_ic 3 dL_law_1313 ?_
    refine sw_iadd dL_law_1314 ?_
    refine sw_sld rfl ((7 * c) + 3) (by simp only [nI_add, pk_mul]) (by omega) (by omega) dL_law_1315 ?_
    refine px_Vx mv_L_160 hm rfl rfl (Nat.le_of_ble_eq_true rfl) (Nat.le_of_ble_eq_true rfl) ko_65 (Nat.le_of_ble_eq_true rfl) dL_law_1316 ?_
    refine sw_istore (i := 6) dL_law_1319 (Nat.le_of_ble_eq_true rfl) rfl ?_
    refine sw_lo (lo2 := [some (.ref 1100), some (.ref 0), some (.ref 65), some (.ref 74), some (.int _), some (.int _), some (.int _), none, none]) rfl ?_
    refine sw_aload_n (i := 2) dL_law_1321 rfl rfl ?_
    refine sw_ins (pc2 := 1322) rfl rfl ?_
    refine px_Vx mv_L_94 hth rfl rfl (Nat.le_of_ble_eq_true rfl) (Nat.le_of_ble_eq_true rfl) ko_65 (Nat.le_of_ble_eq_true rfl) dL_law_1322 ?_
    refine sw_iload (i := 5) dL_law_1325 rfl ?_
    refine sw_ic_eq (tgt := 1332) dL_law_1327 rfl (fun _ => ?_) (fun h9 => absurd rfl h9)
    refine sw_iload (i := 5) dL_law_1332 rfl ?_
    refine sw_if_ne (tgt := 1349) dL_law_1334 rfl (fun h9 => absurd (by rw [kz]; rfl) h9) (fun _ => ?_)
    refine sw_aload_n (i := 3) dL_law_1337 rfl rfl ?_
    refine sw_ic 0 dL_law_1338 ?_
    refine sx_lald (0) rfl rfl (by omega) dL_law_1339 ?_
    rw [hb kz]
    refine sw_ins (pc2 := 1340) rfl rfl ?_
    refine sw_iload (i := 6) dL_law_1340 rfl ?_
    refine sw_i2l dL_law_1342 ?_
    refine sw_lcmp dL_law_1343 ?_
    rw [lg_same]
    refine sw_if_eq (tgt := 1349) dL_law_1344 rfl (fun _ => ?_) (fun h9 => absurd (by decide) h9)
    refine sw_goto (tgt := 1612) dL_law_1349 rfl ?_
    refine sw_iinc (i := 4) (v := nI (7 * (c + 1))) dL_law_1612 rfl (by show nI (7 * c) + nI 7 = _; exact nI_add _ _) (Nat.le_of_ble_eq_true rfl) rfl ?_
    refine sw_lo (lo2 := [some (.ref 1100), some (.ref 0), some (.ref 65), some (.ref 74), some (.int _), some (.int _), some (.int _), none, none]) rfl ?_
    refine sw_goto (tgt := 23) dL_law_1615 rfl ?_
    refine sw_sub ?_ y9
    exact ⟨rfl, rfl, rfl, rfl, rfl, trivial⟩
  ·
    refine sw_tabIn (off := 1232) (tgt := 1272) dL_law_40 (by decide) (by decide) (by decide) (by decide) ?_
    refine sw_aload_n (i := 1) dL_law_1272 rfl rfl ?_
    refine sw_aload_n (i := 0) dL_law_1273 rfl rfl ?_
    refine sw_iload (i := 4) dL_law_1274 rfl ?_
    refine sw_ic 1 dL_law_1276 ?_
    refine sw_iadd dL_law_1277 ?_
    refine sw_sld rfl ((7 * c) + 1) (by simp only [nI_add, pk_mul]) (by omega) (by omega) dL_law_1278 ?_
    refine sw_ins (pc2 := 1279) rfl rfl ?_
    refine sw_aload_n (i := 0) dL_law_1279 rfl rfl ?_
    refine sw_iload (i := 4) dL_law_1280 rfl ?_
    refine sw_ic 2 dL_law_1282 ?_
    refine sw_iadd dL_law_1283 ?_
    refine sw_sld rfl ((7 * c) + 2) (by simp only [nI_add, pk_mul]) (by omega) (by omega) dL_law_1284 ?_
    refine sw_aload_n (i := 0) dL_law_1285 rfl rfl ?_
    refine sw_iload (i := 4) dL_law_1286 rfl ?_
    refine sw_ic 3 dL_law_1288 ?_
    refine sw_ins (pc2 := 1289) rfl rfl ?_
    refine sw_iadd dL_law_1289 ?_
    refine sw_sld rfl ((7 * c) + 3) (by simp only [nI_add, pk_mul]) (by omega) (by omega) dL_law_1290 ?_
    refine sw_aload_n (i := 3) dL_law_1291 rfl rfl ?_
    refine px_Wx ms_L_157 hw rfl rfl (by decide) (Nat.le_of_ble_eq_true rfl) (Nat.le_of_ble_eq_true rfl) dL_law_1292 ?_
    refine sw_istore (i := 5) dL_law_1295 (Nat.le_of_ble_eq_true rfl) rfl ?_
    refine sw_lo (lo2 := [some (.ref 1100), some (.ref 0), some (.ref 65), some (.ref 74), some (.int _), some (.int _), none, none, none]) rfl ?_
    refine sw_aload_n (i := 2) dL_law_1297 rfl rfl ?_
    refine sw_aload_n (i := 0) dL_law_1298 rfl rfl ?_
    refine sw_iload (i := 4) dL_law_1299 rfl ?_
    refine sw_ins (pc2 := 1301) rfl rfl ?_
    refine sw_ic 1 dL_law_1301 ?_
    refine sw_iadd dL_law_1302 ?_
    refine sw_sld rfl ((7 * c) + 1) (by simp only [nI_add, pk_mul]) (by omega) (by omega) dL_law_1303 ?_
    refine sw_aload_n (i := 0) dL_law_1304 rfl rfl ?_
    refine sw_iload (i := 4) dL_law_1305 rfl ?_
    refine sw_ic 2 dL_law_1307 ?_
    refine sw_iadd dL_law_1308 ?_
    refine sw_sld rfl ((7 * c) + 2) (by simp only [nI_add, pk_mul]) (by omega) (by omega) dL_law_1309 ?_
    refine sw_ins (pc2 := 1310) rfl rfl ?_
    refine sw_aload_n (i := 0) dL_law_1310 rfl rfl ?_
    refine sw_iload (i := 4) dL_law_1311 rfl ?_
    refine sw_ic 3 dL_law_1313 ?_
    refine sw_iadd dL_law_1314 ?_
    refine sw_sld rfl ((7 * c) + 3) (by simp only [nI_add, pk_mul]) (by omega) (by omega) dL_law_1315 ?_
    refine px_Vx mv_L_160 hm rfl rfl (Nat.le_of_ble_eq_true rfl) (Nat.le_of_ble_eq_true rfl) ko_65 (Nat.le_of_ble_eq_true rfl) dL_law_1316 ?_
    refine sw_istore (i := 6) dL_law_1319 (Nat.le_of_ble_eq_true rfl) rfl ?_
    refine sw_lo (lo2 := [some (.ref 1100), some (.ref 0), some (.ref 65), some (.ref 74), some (.int _), some (.int _), some (.int _), none, none]) rfl ?_
    refine sw_aload_n (i := 2) dL_law_1321 rfl rfl ?_
    refine sw_ins (pc2 := 1322) rfl rfl ?_
    refine px_Vx mv_L_94 hth rfl rfl (Nat.le_of_ble_eq_true rfl) (Nat.le_of_ble_eq_true rfl) ko_65 (Nat.le_of_ble_eq_true rfl) dL_law_1322 ?_
    refine sw_iload (i := 5) dL_law_1325 rfl ?_
    refine sw_ic_eq (tgt := 1332) dL_law_1327 rfl (fun _ => ?_) (fun h9 => absurd rfl h9)
    refine sw_iload (i := 5) dL_law_1332 rfl ?_
    refine sw_if_ne (tgt := 1349) dL_law_1334 rfl (fun _ => ?_) (fun h9 => absurd h9 (nI_ne0 (by omega) (by omega)))
    refine sw_goto (tgt := 1612) dL_law_1349 rfl ?_
    refine sw_iinc (i := 4) (v := nI (7 * (c + 1))) dL_law_1612 rfl (by show nI (7 * c) + nI 7 = _; exact nI_add _ _) (Nat.le_of_ble_eq_true rfl) rfl ?_
    refine sw_lo (lo2 := [some (.ref 1100), some (.ref 0), some (.ref 65), some (.ref 74), some (.int _), some (.int _), some (.int _), none, none]) rfl ?_
    refine sw_goto (tgt := 23) dL_law_1615 rfl ?_
    refine sw_sub ?_ y9
    exact ⟨rfl, rfl, rfl, rfl, rfl, trivial⟩
set_option maxRecDepth 100000 in
set_option maxHeartbeats 4000000 in
theorem K_20 {xt : List (Nat × Nat × Nat × Nat)} {L : Nat} {xs : Nat → Int32} {c f : Nat} {d : Nat → Nat → Int32} {r : Nat → Nat → Option Nat} {J : Nat → Nat → Int64} (hL : L ≤ 3584) (h7 : 7 * c + 7 ≤ L) (g : LI c d r) (hx : ∀ (d : Nat → Nat → Int32) (r : Nat → Nat → Option Nat) (J : Nat → Nat → Int64), LI (c + 1) d r → ∃ d1 r1 J1, SW yL_law cL_law 9 (some .boolean) xt 12 (some (L, xs)) 23 [some (.ref 1100), some (.ref 0), some (.ref 65), some (.ref 74), some (.int (nI (7 * (c + 1)))), none, none, none, none] [] 75 (W0 d r J) f (6 * f) (.inl (some (.int (nI 1)))) 75 (W0 d1 r1 J1)) : ∃ d1 r1 J1, SW yL_law cL_law 9 (some .boolean) xt 12 (some (L, xs)) 40 [some (.ref 1100), some (.ref 0), some (.ref 65), some (.ref 74), some (.int (nI (7 * c))), none, none, none, none] [.int (nI 20)] 75 (W0 d r J) (f + 1) (6 * (f + 1)) (.inl (some (.int (nI 1)))) 75 (W0 d1 r1 J1) := by
  obtain ⟨kk, b, d1, r1, J1, e1, hk, hw, hm, ht, hb, g2⟩ := G_homeIn (J := J) (a1 := xs (7 * c + 1)) g (by omega)
  obtain ⟨d9, r9, J9, y9⟩ := hx e1 r1 J1 g2
  have hth := A_X7_thrown (d := e1) (r := r1) (J := J1) ht
  refine ⟨d9, r9, J9, ?_⟩
  by_cases kz : kk = 0
  ·
    refine sw_tabIn (off := 1312) (tgt := 1352) dL_law_40 (by decide) (by decide) (by decide) (by decide) ?_
    refine sw_aload_n (i := 1) dL_law_1352 rfl rfl ?_
    refine sw_aload_n (i := 0) dL_law_1353 rfl rfl ?_
    refine sw_iload (i := 4) dL_law_1354 rfl ?_
    refine sw_ic 1 dL_law_1356 ?_
    refine sw_iadd dL_law_1357 ?_
    refine sw_sld rfl ((7 * c) + 1) (by simp only [nI_add, pk_mul]) (by omega) (by omega) dL_law_1358 ?_
    refine sw_ins (pc2 := 1359) rfl rfl ?_
    refine sw_aload_n (i := 3) dL_law_1359 rfl rfl ?_
    refine px_Wx ms_L_161 hw rfl rfl (by decide) (Nat.le_of_ble_eq_true rfl) (Nat.le_of_ble_eq_true rfl) dL_law_1360 ?_
    refine sw_istore (i := 5) dL_law_1363 (Nat.le_of_ble_eq_true rfl) rfl ?_
    refine sw_lo (lo2 := [some (.ref 1100), some (.ref 0), some (.ref 65), some (.ref 74), some (.int _), some (.int _), none, none, none]) rfl ?_
    refine sw_aload_n (i := 2) dL_law_1365 rfl rfl ?_
    refine sw_aload_n (i := 0) dL_law_1366 rfl rfl ?_
    refine sw_iload (i := 4) dL_law_1367 rfl ?_
    refine sw_ic 1 dL_law_1369 ?_
    refine sw_iadd dL_law_1370 ?_
    refine sw_ins (pc2 := 1371) rfl rfl ?_
    refine sw_sld rfl ((7 * c) + 1) (by simp only [nI_add, pk_mul]) (by omega) (by omega) dL_law_1371 ?_
    refine px_Vx mv_L_163 hm rfl rfl (Nat.le_of_ble_eq_true rfl) (Nat.le_of_ble_eq_true rfl) ko_65 (Nat.le_of_ble_eq_true rfl) dL_law_1372 ?_
    refine sw_istore (i := 6) dL_law_1375 (Nat.le_of_ble_eq_true rfl) rfl ?_
    refine sw_lo (lo2 := [some (.ref 1100), some (.ref 0), some (.ref 65), some (.ref 74), some (.int _), some (.int _), some (.int _), none, none]) rfl ?_
    refine sw_aload_n (i := 2) dL_law_1377 rfl rfl ?_
    refine px_Vx mv_L_94 hth rfl rfl (Nat.le_of_ble_eq_true rfl) (Nat.le_of_ble_eq_true rfl) ko_65 (Nat.le_of_ble_eq_true rfl) dL_law_1378 ?_
    refine sw_iload (i := 5) dL_law_1381 rfl ?_
    refine sw_ic_eq (tgt := 1388) dL_law_1383 rfl (fun _ => ?_) (fun h9 => absurd rfl h9)
    refine sw_iload (i := 5) dL_law_1388 rfl ?_
    refine sw_ins (pc2 := 1390) rfl rfl ?_
    refine sw_if_ne (tgt := 1405) dL_law_1390 rfl (fun h9 => absurd (by rw [kz]; rfl) h9) (fun _ => ?_)
    refine sw_aload_n (i := 3) dL_law_1393 rfl rfl ?_
    refine sw_ic 0 dL_law_1394 ?_
    refine sx_lald (0) rfl rfl (by omega) dL_law_1395 ?_
    rw [hb kz]
    refine sw_iload (i := 6) dL_law_1396 rfl ?_
    refine sw_i2l dL_law_1398 ?_
    refine sw_lcmp dL_law_1399 ?_
    rw [lg_same]
    refine sw_if_eq (tgt := 1405) dL_law_1400 rfl (fun _ => ?_) (fun h9 => absurd (by decide) h9)
    refine sw_ins (pc2 := 1405) rfl rfl ?_
    refine sw_goto (tgt := 1612) dL_law_1405 rfl ?_
    refine sw_iinc (i := 4) (v := nI (7 * (c + 1))) dL_law_1612 rfl (by show nI (7 * c) + nI 7 = _; exact nI_add _ _) (Nat.le_of_ble_eq_true rfl) rfl ?_
    refine sw_lo (lo2 := [some (.ref 1100), some (.ref 0), some (.ref 65), some (.ref 74), some (.int _), some (.int _), some (.int _), none, none]) rfl ?_
    refine sw_goto (tgt := 23) dL_law_1615 rfl ?_
    refine sw_sub ?_ y9
    exact ⟨rfl, rfl, rfl, rfl, rfl, trivial⟩
  ·
    refine sw_tabIn (off := 1312) (tgt := 1352) dL_law_40 (by decide) (by decide) (by decide) (by decide) ?_
    refine sw_aload_n (i := 1) dL_law_1352 rfl rfl ?_
    refine sw_aload_n (i := 0) dL_law_1353 rfl rfl ?_
    refine sw_iload (i := 4) dL_law_1354 rfl ?_
    refine sw_ic 1 dL_law_1356 ?_
    refine sw_iadd dL_law_1357 ?_
    refine sw_sld rfl ((7 * c) + 1) (by simp only [nI_add, pk_mul]) (by omega) (by omega) dL_law_1358 ?_
    refine sw_ins (pc2 := 1359) rfl rfl ?_
    refine sw_aload_n (i := 3) dL_law_1359 rfl rfl ?_
    refine px_Wx ms_L_161 hw rfl rfl (by decide) (Nat.le_of_ble_eq_true rfl) (Nat.le_of_ble_eq_true rfl) dL_law_1360 ?_
    refine sw_istore (i := 5) dL_law_1363 (Nat.le_of_ble_eq_true rfl) rfl ?_
    refine sw_lo (lo2 := [some (.ref 1100), some (.ref 0), some (.ref 65), some (.ref 74), some (.int _), some (.int _), none, none, none]) rfl ?_
    refine sw_aload_n (i := 2) dL_law_1365 rfl rfl ?_
    refine sw_aload_n (i := 0) dL_law_1366 rfl rfl ?_
    refine sw_iload (i := 4) dL_law_1367 rfl ?_
    refine sw_ic 1 dL_law_1369 ?_
    refine sw_iadd dL_law_1370 ?_
    refine sw_ins (pc2 := 1371) rfl rfl ?_
    refine sw_sld rfl ((7 * c) + 1) (by simp only [nI_add, pk_mul]) (by omega) (by omega) dL_law_1371 ?_
    refine px_Vx mv_L_163 hm rfl rfl (Nat.le_of_ble_eq_true rfl) (Nat.le_of_ble_eq_true rfl) ko_65 (Nat.le_of_ble_eq_true rfl) dL_law_1372 ?_
    refine sw_istore (i := 6) dL_law_1375 (Nat.le_of_ble_eq_true rfl) rfl ?_
    refine sw_lo (lo2 := [some (.ref 1100), some (.ref 0), some (.ref 65), some (.ref 74), some (.int _), some (.int _), some (.int _), none, none]) rfl ?_
    refine sw_aload_n (i := 2) dL_law_1377 rfl rfl ?_
    refine px_Vx mv_L_94 hth rfl rfl (Nat.le_of_ble_eq_true rfl) (Nat.le_of_ble_eq_true rfl) ko_65 (Nat.le_of_ble_eq_true rfl) dL_law_1378 ?_
    refine sw_iload (i := 5) dL_law_1381 rfl ?_
    refine sw_ic_eq (tgt := 1388) dL_law_1383 rfl (fun _ => ?_) (fun h9 => absurd rfl h9)
    refine sw_iload (i := 5) dL_law_1388 rfl ?_
    refine sw_ins (pc2 := 1390) rfl rfl ?_
    refine sw_if_ne (tgt := 1405) dL_law_1390 rfl (fun _ => ?_) (fun h9 => absurd h9 (nI_ne0 (by omega) (by omega)))
    refine sw_goto (tgt := 1612) dL_law_1405 rfl ?_
    refine sw_iinc (i := 4) (v := nI (7 * (c + 1))) dL_law_1612 rfl (by show nI (7 * c) + nI 7 = _; exact nI_add _ _) (Nat.le_of_ble_eq_true rfl) rfl ?_
    refine sw_lo (lo2 := [some (.ref 1100), some (.ref 0), some (.ref 65), some (.ref 74), some (.int _), some (.int _), some (.int _), none, none]) rfl ?_
    refine sw_goto (tgt := 23) dL_law_1615 rfl ?_
    refine sw_sub ?_ y9
    exact ⟨rfl, rfl, rfl, rfl, rfl, trivial⟩
set_option maxRecDepth 100000 in
set_option maxHeartbeats 4000000 in
theorem K_21 {xt : List (Nat × Nat × Nat × Nat)} {L : Nat} {xs : Nat → Int32} {c f : Nat} {d : Nat → Nat → Int32} {r : Nat → Nat → Option Nat} {J : Nat → Nat → Int64} (hL : L ≤ 3584) (h7 : 7 * c + 7 ≤ L) (g : LI c d r) (hx : ∀ (d : Nat → Nat → Int32) (r : Nat → Nat → Option Nat) (J : Nat → Nat → Int64), LI (c + 1) d r → ∃ d1 r1 J1, SW yL_law cL_law 9 (some .boolean) xt 12 (some (L, xs)) 23 [some (.ref 1100), some (.ref 0), some (.ref 65), some (.ref 74), some (.int (nI (7 * (c + 1)))), none, none, none, none] [] 75 (W0 d r J) f (6 * f) (.inl (some (.int (nI 1)))) 75 (W0 d1 r1 J1)) : ∃ d1 r1 J1, SW yL_law cL_law 9 (some .boolean) xt 12 (some (L, xs)) 40 [some (.ref 1100), some (.ref 0), some (.ref 65), some (.ref 74), some (.int (nI (7 * c))), none, none, none, none] [.int (nI 21)] 75 (W0 d r J) (f + 1) (6 * (f + 1)) (.inl (some (.int (nI 1)))) 75 (W0 d1 r1 J1) := by
  obtain ⟨kk, b, d1, r1, J1, e1, hk, hw, hm, ht, hb, g2⟩ := G_fewest (J := J) (a1 := xs (7 * c + 1)) (a2 := xs (7 * c + 2)) (a3 := xs (7 * c + 3)) g (by omega)
  obtain ⟨d9, r9, J9, y9⟩ := hx e1 r1 J1 g2
  have hth := A_X7_thrown (d := e1) (r := r1) (J := J1) ht
  refine ⟨d9, r9, J9, ?_⟩
  by_cases kz : kk = 0
  ·
    refine sw_tabIn (off := 1368) (tgt := 1408) dL_law_40 (by decide) (by decide) (by decide) (by decide) ?_
    refine sw_aload_n (i := 1) dL_law_1408 rfl rfl ?_
    refine sw_aload_n (i := 0) dL_law_1409 rfl rfl ?_
    refine sw_iload (i := 4) dL_law_1410 rfl ?_
    refine sw_ic 1 dL_law_1412 ?_
    refine sw_iadd dL_law_1413 ?_
    refine sw_sld rfl ((7 * c) + 1) (by simp only [nI_add, pk_mul]) (by omega) (by omega) dL_law_1414 ?_
    refine sw_ins (pc2 := 1415) rfl rfl ?_
    refine sw_aload_n (i := 0) dL_law_1415 rfl rfl ?_
    refine sw_iload (i := 4) dL_law_1416 rfl ?_
    refine sw_ic 2 dL_law_1418 ?_
    refine sw_iadd dL_law_1419 ?_
    refine sw_sld rfl ((7 * c) + 2) (by simp only [nI_add, pk_mul]) (by omega) (by omega) dL_law_1420 ?_
    refine sw_aload_n (i := 0) dL_law_1421 rfl rfl ?_
    refine sw_iload (i := 4) dL_law_1422 rfl ?_
    refine sw_ic 3 dL_law_1424 ?_
    refine sw_ins (pc2 := 1425) rfl rfl ?_
    refine sw_iadd dL_law_1425 ?_
    refine sw_sld rfl ((7 * c) + 3) (by simp only [nI_add, pk_mul]) (by omega) (by omega) dL_law_1426 ?_
    refine sw_aload_n (i := 3) dL_law_1427 rfl rfl ?_
    refine px_Wx ms_L_164 hw rfl rfl (by decide) (Nat.le_of_ble_eq_true rfl) (Nat.le_of_ble_eq_true rfl) dL_law_1428 ?_
    refine sw_istore (i := 5) dL_law_1431 (Nat.le_of_ble_eq_true rfl) rfl ?_
    refine sw_lo (lo2 := [some (.ref 1100), some (.ref 0), some (.ref 65), some (.ref 74), some (.int _), some (.int _), none, none, none]) rfl ?_
    refine sw_aload_n (i := 2) dL_law_1433 rfl rfl ?_
    refine sw_aload_n (i := 0) dL_law_1434 rfl rfl ?_
    refine sw_iload (i := 4) dL_law_1435 rfl ?_
    refine sw_ins (pc2 := 1437) rfl rfl ?_
    refine sw_ic 1 dL_law_1437 ?_
    refine sw_iadd dL_law_1438 ?_
    refine sw_sld rfl ((7 * c) + 1) (by simp only [nI_add, pk_mul]) (by omega) (by omega) dL_law_1439 ?_
    refine sw_aload_n (i := 0) dL_law_1440 rfl rfl ?_
    refine sw_iload (i := 4) dL_law_1441 rfl ?_
    refine sw_ic 2 dL_law_1443 ?_
    refine sw_iadd dL_law_1444 ?_
    refine sw_sld rfl ((7 * c) + 2) (by simp only [nI_add, pk_mul]) (by omega) (by omega) dL_law_1445 ?_
    refine sw_ins (pc2 := 1446) rfl rfl ?_
    refine sw_aload_n (i := 0) dL_law_1446 rfl rfl ?_
    refine sw_iload (i := 4) dL_law_1447 rfl ?_
    refine sw_ic 3 dL_law_1449 ?_
    refine sw_iadd dL_law_1450 ?_
    refine sw_sld rfl ((7 * c) + 3) (by simp only [nI_add, pk_mul]) (by omega) (by omega) dL_law_1451 ?_
    refine px_Vx mv_L_166 hm rfl rfl (Nat.le_of_ble_eq_true rfl) (Nat.le_of_ble_eq_true rfl) ko_65 (Nat.le_of_ble_eq_true rfl) dL_law_1452 ?_
    refine sw_istore (i := 6) dL_law_1455 (Nat.le_of_ble_eq_true rfl) rfl ?_
    refine sw_lo (lo2 := [some (.ref 1100), some (.ref 0), some (.ref 65), some (.ref 74), some (.int _), some (.int _), some (.int _), none, none]) rfl ?_
    refine sw_aload_n (i := 2) dL_law_1457 rfl rfl ?_
    refine sw_ins (pc2 := 1458) rfl rfl ?_
    refine px_Vx mv_L_94 hth rfl rfl (Nat.le_of_ble_eq_true rfl) (Nat.le_of_ble_eq_true rfl) ko_65 (Nat.le_of_ble_eq_true rfl) dL_law_1458 ?_
    refine sw_iload (i := 5) dL_law_1461 rfl ?_
    refine sw_ic_eq (tgt := 1468) dL_law_1463 rfl (fun _ => ?_) (fun h9 => absurd rfl h9)
    refine sw_iload (i := 5) dL_law_1468 rfl ?_
    refine sw_if_ne (tgt := 1485) dL_law_1470 rfl (fun h9 => absurd (by rw [kz]; rfl) h9) (fun _ => ?_)
    refine sw_aload_n (i := 3) dL_law_1473 rfl rfl ?_
    refine sw_ic 0 dL_law_1474 ?_
    refine sx_lald (0) rfl rfl (by omega) dL_law_1475 ?_
    rw [hb kz]
    refine sw_ins (pc2 := 1476) rfl rfl ?_
    refine sw_iload (i := 6) dL_law_1476 rfl ?_
    refine sw_i2l dL_law_1478 ?_
    refine sw_lcmp dL_law_1479 ?_
    rw [lg_same]
    refine sw_if_eq (tgt := 1485) dL_law_1480 rfl (fun _ => ?_) (fun h9 => absurd (by decide) h9)
    refine sw_goto (tgt := 1612) dL_law_1485 rfl ?_
    refine sw_iinc (i := 4) (v := nI (7 * (c + 1))) dL_law_1612 rfl (by show nI (7 * c) + nI 7 = _; exact nI_add _ _) (Nat.le_of_ble_eq_true rfl) rfl ?_
    refine sw_lo (lo2 := [some (.ref 1100), some (.ref 0), some (.ref 65), some (.ref 74), some (.int _), some (.int _), some (.int _), none, none]) rfl ?_
    refine sw_goto (tgt := 23) dL_law_1615 rfl ?_
    refine sw_sub ?_ y9
    exact ⟨rfl, rfl, rfl, rfl, rfl, trivial⟩
  ·
    refine sw_tabIn (off := 1368) (tgt := 1408) dL_law_40 (by decide) (by decide) (by decide) (by decide) ?_
    refine sw_aload_n (i := 1) dL_law_1408 rfl rfl ?_
    refine sw_aload_n (i := 0) dL_law_1409 rfl rfl ?_
    refine sw_iload (i := 4) dL_law_1410 rfl ?_
    refine sw_ic 1 dL_law_1412 ?_
    refine sw_iadd dL_law_1413 ?_
    refine sw_sld rfl ((7 * c) + 1) (by simp only [nI_add, pk_mul]) (by omega) (by omega) dL_law_1414 ?_
    refine sw_ins (pc2 := 1415) rfl rfl ?_
    refine sw_aload_n (i := 0) dL_law_1415 rfl rfl ?_
    refine sw_iload (i := 4) dL_law_1416 rfl ?_
    refine sw_ic 2 dL_law_1418 ?_
    refine sw_iadd dL_law_1419 ?_
    refine sw_sld rfl ((7 * c) + 2) (by simp only [nI_add, pk_mul]) (by omega) (by omega) dL_law_1420 ?_
    refine sw_aload_n (i := 0) dL_law_1421 rfl rfl ?_
    refine sw_iload (i := 4) dL_law_1422 rfl ?_
    refine sw_ic 3 dL_law_1424 ?_
    refine sw_ins (pc2 := 1425) rfl rfl ?_
    refine sw_iadd dL_law_1425 ?_
    refine sw_sld rfl ((7 * c) + 3) (by simp only [nI_add, pk_mul]) (by omega) (by omega) dL_law_1426 ?_
    refine sw_aload_n (i := 3) dL_law_1427 rfl rfl ?_
    refine px_Wx ms_L_164 hw rfl rfl (by decide) (Nat.le_of_ble_eq_true rfl) (Nat.le_of_ble_eq_true rfl) dL_law_1428 ?_
    refine sw_istore (i := 5) dL_law_1431 (Nat.le_of_ble_eq_true rfl) rfl ?_
    refine sw_lo (lo2 := [some (.ref 1100), some (.ref 0), some (.ref 65), some (.ref 74), some (.int _), some (.int _), none, none, none]) rfl ?_
    refine sw_aload_n (i := 2) dL_law_1433 rfl rfl ?_
    refine sw_aload_n (i := 0) dL_law_1434 rfl rfl ?_
    refine sw_iload (i := 4) dL_law_1435 rfl ?_
    refine sw_ins (pc2 := 1437) rfl rfl ?_
    refine sw_ic 1 dL_law_1437 ?_
    refine sw_iadd dL_law_1438 ?_
    refine sw_sld rfl ((7 * c) + 1) (by simp only [nI_add, pk_mul]) (by omega) (by omega) dL_law_1439 ?_
    refine sw_aload_n (i := 0) dL_law_1440 rfl rfl ?_
    refine sw_iload (i := 4) dL_law_1441 rfl ?_
    refine sw_ic 2 dL_law_1443 ?_
    refine sw_iadd dL_law_1444 ?_
    refine sw_sld rfl ((7 * c) + 2) (by simp only [nI_add, pk_mul]) (by omega) (by omega) dL_law_1445 ?_
    refine sw_ins (pc2 := 1446) rfl rfl ?_
    refine sw_aload_n (i := 0) dL_law_1446 rfl rfl ?_
    refine sw_iload (i := 4) dL_law_1447 rfl ?_
    refine sw_ic 3 dL_law_1449 ?_
    refine sw_iadd dL_law_1450 ?_
    refine sw_sld rfl ((7 * c) + 3) (by simp only [nI_add, pk_mul]) (by omega) (by omega) dL_law_1451 ?_
    refine px_Vx mv_L_166 hm rfl rfl (Nat.le_of_ble_eq_true rfl) (Nat.le_of_ble_eq_true rfl) ko_65 (Nat.le_of_ble_eq_true rfl) dL_law_1452 ?_
    refine sw_istore (i := 6) dL_law_1455 (Nat.le_of_ble_eq_true rfl) rfl ?_
    refine sw_lo (lo2 := [some (.ref 1100), some (.ref 0), some (.ref 65), some (.ref 74), some (.int _), some (.int _), some (.int _), none, none]) rfl ?_
    refine sw_aload_n (i := 2) dL_law_1457 rfl rfl ?_
    refine sw_ins (pc2 := 1458) rfl rfl ?_
    refine px_Vx mv_L_94 hth rfl rfl (Nat.le_of_ble_eq_true rfl) (Nat.le_of_ble_eq_true rfl) ko_65 (Nat.le_of_ble_eq_true rfl) dL_law_1458 ?_
    refine sw_iload (i := 5) dL_law_1461 rfl ?_
    refine sw_ic_eq (tgt := 1468) dL_law_1463 rfl (fun _ => ?_) (fun h9 => absurd rfl h9)
    refine sw_iload (i := 5) dL_law_1468 rfl ?_
    refine sw_if_ne (tgt := 1485) dL_law_1470 rfl (fun _ => ?_) (fun h9 => absurd h9 (nI_ne0 (by omega) (by omega)))
    refine sw_goto (tgt := 1612) dL_law_1485 rfl ?_
    refine sw_iinc (i := 4) (v := nI (7 * (c + 1))) dL_law_1612 rfl (by show nI (7 * c) + nI 7 = _; exact nI_add _ _) (Nat.le_of_ble_eq_true rfl) rfl ?_
    refine sw_lo (lo2 := [some (.ref 1100), some (.ref 0), some (.ref 65), some (.ref 74), some (.int _), some (.int _), some (.int _), none, none]) rfl ?_
    refine sw_goto (tgt := 23) dL_law_1615 rfl ?_
    refine sw_sub ?_ y9
    exact ⟨rfl, rfl, rfl, rfl, rfl, trivial⟩
set_option maxRecDepth 100000 in
set_option maxHeartbeats 4000000 in
theorem K_22 {xt : List (Nat × Nat × Nat × Nat)} {L : Nat} {xs : Nat → Int32} {c f : Nat} {d : Nat → Nat → Int32} {r : Nat → Nat → Option Nat} {J : Nat → Nat → Int64} (hL : L ≤ 3584) (h7 : 7 * c + 7 ≤ L) (g : LI c d r) (hx : ∀ (d : Nat → Nat → Int32) (r : Nat → Nat → Option Nat) (J : Nat → Nat → Int64), LI (c + 1) d r → ∃ d1 r1 J1, SW yL_law cL_law 9 (some .boolean) xt 12 (some (L, xs)) 23 [some (.ref 1100), some (.ref 0), some (.ref 65), some (.ref 74), some (.int (nI (7 * (c + 1)))), none, none, none, none] [] 75 (W0 d r J) f (6 * f) (.inl (some (.int (nI 1)))) 75 (W0 d1 r1 J1)) : ∃ d1 r1 J1, SW yL_law cL_law 9 (some .boolean) xt 12 (some (L, xs)) 40 [some (.ref 1100), some (.ref 0), some (.ref 65), some (.ref 74), some (.int (nI (7 * c))), none, none, none, none] [.int (nI 22)] 75 (W0 d r J) (f + 1) (6 * (f + 1)) (.inl (some (.int (nI 1)))) 75 (W0 d1 r1 J1) := by
  obtain ⟨b, d1, r1, e1, J1, hQ, hw, hm, g2⟩ := G_richest (J := J) g (by omega)
  obtain ⟨d9, r9, J9, y9⟩ := hx e1 r1 J1 g2
  refine ⟨d9, r9, J9, sw_less (k2 := f) (n2 := 6 * f) (by omega) (by omega) ?_⟩
  refine sw_tabIn (off := 1448) (tgt := 1488) dL_law_40 (by decide) (by decide) (by decide) (by decide) ?_
  refine sw_aload_n (i := 1) dL_law_1488 rfl rfl ?_
  refine px_Vx mv_L_167 hw rfl rfl (Nat.le_of_ble_eq_true rfl) (Nat.le_of_ble_eq_true rfl) ko_0 (Nat.le_of_ble_eq_true rfl) dL_law_1489 ?_
  refine sw_aload_n (i := 2) dL_law_1492 rfl rfl ?_
  refine px_Vx mv_L_170 hm rfl rfl (Nat.le_of_ble_eq_true rfl) (Nat.le_of_ble_eq_true rfl) ko_65 (Nat.le_of_ble_eq_true rfl) dL_law_1493 ?_
  refine sw_ic_eq (tgt := 1612) dL_law_1496 rfl (fun _ => ?_) (fun h9 => absurd rfl h9)
  refine sw_iinc (i := 4) (v := nI (7 * (c + 1))) dL_law_1612 rfl (by show nI (7 * c) + nI 7 = _; exact nI_add _ _) (Nat.le_of_ble_eq_true rfl) rfl ?_
  refine sw_lo (lo2 := [some (.ref 1100), some (.ref 0), some (.ref 65), some (.ref 74), some (.int _), none, none, none, none]) rfl ?_
  refine sw_ins (pc2 := 1615) rfl rfl ?_
  refine sw_goto (tgt := 23) dL_law_1615 rfl ?_
  refine sw_sub ?_ y9
  exact ⟨rfl, rfl, rfl, rfl, rfl, trivial⟩
set_option maxRecDepth 100000 in
set_option maxHeartbeats 4000000 in
theorem K_23 {xt : List (Nat × Nat × Nat × Nat)} {L : Nat} {xs : Nat → Int32} {c f : Nat} {d : Nat → Nat → Int32} {r : Nat → Nat → Option Nat} {J : Nat → Nat → Int64} (hL : L ≤ 3584) (h7 : 7 * c + 7 ≤ L) (g : LI c d r) (hx : ∀ (d : Nat → Nat → Int32) (r : Nat → Nat → Option Nat) (J : Nat → Nat → Int64), LI (c + 1) d r → ∃ d1 r1 J1, SW yL_law cL_law 9 (some .boolean) xt 12 (some (L, xs)) 23 [some (.ref 1100), some (.ref 0), some (.ref 65), some (.ref 74), some (.int (nI (7 * (c + 1)))), none, none, none, none] [] 75 (W0 d r J) f (6 * f) (.inl (some (.int (nI 1)))) 75 (W0 d1 r1 J1)) : ∃ d1 r1 J1, SW yL_law cL_law 9 (some .boolean) xt 12 (some (L, xs)) 40 [some (.ref 1100), some (.ref 0), some (.ref 65), some (.ref 74), some (.int (nI (7 * c))), none, none, none, none] [.int (nI 23)] 75 (W0 d r J) (f + 1) (6 * (f + 1)) (.inl (some (.int (nI 1)))) 75 (W0 d1 r1 J1) := by
  obtain ⟨kk, b, d1, r1, J1, e1, hk, hw, hm, ht, hb, g2⟩ := G_canKeepIn (J := J) (a1 := xs (7 * c + 1)) g (by omega)
  obtain ⟨d9, r9, J9, y9⟩ := hx e1 r1 J1 g2
  have hth := A_X7_thrown (d := e1) (r := r1) (J := J1) ht
  refine ⟨d9, r9, J9, ?_⟩
  by_cases kz : kk = 0
  ·
    refine sw_tabIn (off := 1461) (tgt := 1501) dL_law_40 (by decide) (by decide) (by decide) (by decide) ?_
    refine sw_aload_n (i := 1) dL_law_1501 rfl rfl ?_
    refine sw_aload_n (i := 0) dL_law_1502 rfl rfl ?_
    refine sw_iload (i := 4) dL_law_1503 rfl ?_
    refine sw_ic 1 dL_law_1505 ?_
    refine sw_iadd dL_law_1506 ?_
    refine sw_sld rfl ((7 * c) + 1) (by simp only [nI_add, pk_mul]) (by omega) (by omega) dL_law_1507 ?_
    refine sw_ins (pc2 := 1508) rfl rfl ?_
    refine sw_aload_n (i := 3) dL_law_1508 rfl rfl ?_
    refine px_Wx ms_L_171 hw rfl rfl (by decide) (Nat.le_of_ble_eq_true rfl) (Nat.le_of_ble_eq_true rfl) dL_law_1509 ?_
    refine sw_istore (i := 5) dL_law_1512 (Nat.le_of_ble_eq_true rfl) rfl ?_
    refine sw_lo (lo2 := [some (.ref 1100), some (.ref 0), some (.ref 65), some (.ref 74), some (.int _), some (.int _), none, none, none]) rfl ?_
    refine sw_aload_n (i := 2) dL_law_1514 rfl rfl ?_
    refine sw_aload_n (i := 0) dL_law_1515 rfl rfl ?_
    refine sw_iload (i := 4) dL_law_1516 rfl ?_
    refine sw_ic 1 dL_law_1518 ?_
    refine sw_iadd dL_law_1519 ?_
    refine sw_ins (pc2 := 1520) rfl rfl ?_
    refine sw_sld rfl ((7 * c) + 1) (by simp only [nI_add, pk_mul]) (by omega) (by omega) dL_law_1520 ?_
    refine px_Vx mv_L_173 hm rfl rfl (Nat.le_of_ble_eq_true rfl) (Nat.le_of_ble_eq_true rfl) ko_65 (Nat.le_of_ble_eq_true rfl) dL_law_1521 ?_
    refine sw_istore (i := 6) dL_law_1524 (Nat.le_of_ble_eq_true rfl) rfl ?_
    refine sw_lo (lo2 := [some (.ref 1100), some (.ref 0), some (.ref 65), some (.ref 74), some (.int _), some (.int _), some (.int _), none, none]) rfl ?_
    refine sw_aload_n (i := 2) dL_law_1526 rfl rfl ?_
    refine px_Vx mv_L_94 hth rfl rfl (Nat.le_of_ble_eq_true rfl) (Nat.le_of_ble_eq_true rfl) ko_65 (Nat.le_of_ble_eq_true rfl) dL_law_1527 ?_
    refine sw_iload (i := 5) dL_law_1530 rfl ?_
    refine sw_ic_eq (tgt := 1537) dL_law_1532 rfl (fun _ => ?_) (fun h9 => absurd rfl h9)
    refine sw_iload (i := 5) dL_law_1537 rfl ?_
    refine sw_ins (pc2 := 1539) rfl rfl ?_
    refine sw_if_ne (tgt := 1554) dL_law_1539 rfl (fun h9 => absurd (by rw [kz]; rfl) h9) (fun _ => ?_)
    refine sw_aload_n (i := 3) dL_law_1542 rfl rfl ?_
    refine sw_ic 0 dL_law_1543 ?_
    refine sx_lald (0) rfl rfl (by omega) dL_law_1544 ?_
    rw [hb kz]
    refine sw_iload (i := 6) dL_law_1545 rfl ?_
    refine sw_i2l dL_law_1547 ?_
    refine sw_lcmp dL_law_1548 ?_
    rw [lg_same]
    refine sw_if_eq (tgt := 1554) dL_law_1549 rfl (fun _ => ?_) (fun h9 => absurd (by decide) h9)
    refine sw_ins (pc2 := 1554) rfl rfl ?_
    refine sw_goto (tgt := 1612) dL_law_1554 rfl ?_
    refine sw_iinc (i := 4) (v := nI (7 * (c + 1))) dL_law_1612 rfl (by show nI (7 * c) + nI 7 = _; exact nI_add _ _) (Nat.le_of_ble_eq_true rfl) rfl ?_
    refine sw_lo (lo2 := [some (.ref 1100), some (.ref 0), some (.ref 65), some (.ref 74), some (.int _), some (.int _), some (.int _), none, none]) rfl ?_
    refine sw_goto (tgt := 23) dL_law_1615 rfl ?_
    refine sw_sub ?_ y9
    exact ⟨rfl, rfl, rfl, rfl, rfl, trivial⟩
  ·
    refine sw_tabIn (off := 1461) (tgt := 1501) dL_law_40 (by decide) (by decide) (by decide) (by decide) ?_
    refine sw_aload_n (i := 1) dL_law_1501 rfl rfl ?_
    refine sw_aload_n (i := 0) dL_law_1502 rfl rfl ?_
    refine sw_iload (i := 4) dL_law_1503 rfl ?_
    refine sw_ic 1 dL_law_1505 ?_
    refine sw_iadd dL_law_1506 ?_
    refine sw_sld rfl ((7 * c) + 1) (by simp only [nI_add, pk_mul]) (by omega) (by omega) dL_law_1507 ?_
    refine sw_ins (pc2 := 1508) rfl rfl ?_
    refine sw_aload_n (i := 3) dL_law_1508 rfl rfl ?_
    refine px_Wx ms_L_171 hw rfl rfl (by decide) (Nat.le_of_ble_eq_true rfl) (Nat.le_of_ble_eq_true rfl) dL_law_1509 ?_
    refine sw_istore (i := 5) dL_law_1512 (Nat.le_of_ble_eq_true rfl) rfl ?_
    refine sw_lo (lo2 := [some (.ref 1100), some (.ref 0), some (.ref 65), some (.ref 74), some (.int _), some (.int _), none, none, none]) rfl ?_
    refine sw_aload_n (i := 2) dL_law_1514 rfl rfl ?_
    refine sw_aload_n (i := 0) dL_law_1515 rfl rfl ?_
    refine sw_iload (i := 4) dL_law_1516 rfl ?_
    refine sw_ic 1 dL_law_1518 ?_
    refine sw_iadd dL_law_1519 ?_
    refine sw_ins (pc2 := 1520) rfl rfl ?_
    refine sw_sld rfl ((7 * c) + 1) (by simp only [nI_add, pk_mul]) (by omega) (by omega) dL_law_1520 ?_
    refine px_Vx mv_L_173 hm rfl rfl (Nat.le_of_ble_eq_true rfl) (Nat.le_of_ble_eq_true rfl) ko_65 (Nat.le_of_ble_eq_true rfl) dL_law_1521 ?_
    refine sw_istore (i := 6) dL_law_1524 (Nat.le_of_ble_eq_true rfl) rfl ?_
    refine sw_lo (lo2 := [some (.ref 1100), some (.ref 0), some (.ref 65), some (.ref 74), some (.int _), some (.int _), some (.int _), none, none]) rfl ?_
    refine sw_aload_n (i := 2) dL_law_1526 rfl rfl ?_
    refine px_Vx mv_L_94 hth rfl rfl (Nat.le_of_ble_eq_true rfl) (Nat.le_of_ble_eq_true rfl) ko_65 (Nat.le_of_ble_eq_true rfl) dL_law_1527 ?_
    refine sw_iload (i := 5) dL_law_1530 rfl ?_
    refine sw_ic_eq (tgt := 1537) dL_law_1532 rfl (fun _ => ?_) (fun h9 => absurd rfl h9)
    refine sw_iload (i := 5) dL_law_1537 rfl ?_
    refine sw_ins (pc2 := 1539) rfl rfl ?_
    refine sw_if_ne (tgt := 1554) dL_law_1539 rfl (fun _ => ?_) (fun h9 => absurd h9 (nI_ne0 (by omega) (by omega)))
    refine sw_goto (tgt := 1612) dL_law_1554 rfl ?_
    refine sw_iinc (i := 4) (v := nI (7 * (c + 1))) dL_law_1612 rfl (by show nI (7 * c) + nI 7 = _; exact nI_add _ _) (Nat.le_of_ble_eq_true rfl) rfl ?_
    refine sw_lo (lo2 := [some (.ref 1100), some (.ref 0), some (.ref 65), some (.ref 74), some (.int _), some (.int _), some (.int _), none, none]) rfl ?_
    refine sw_goto (tgt := 23) dL_law_1615 rfl ?_
    refine sw_sub ?_ y9
    exact ⟨rfl, rfl, rfl, rfl, rfl, trivial⟩
set_option maxRecDepth 100000 in
set_option maxHeartbeats 4000000 in
theorem K_24 {xt : List (Nat × Nat × Nat × Nat)} {L : Nat} {xs : Nat → Int32} {c f : Nat} {d : Nat → Nat → Int32} {r : Nat → Nat → Option Nat} {J : Nat → Nat → Int64} (hL : L ≤ 3584) (h7 : 7 * c + 7 ≤ L) (g : LI c d r) (hx : ∀ (d : Nat → Nat → Int32) (r : Nat → Nat → Option Nat) (J : Nat → Nat → Int64), LI (c + 1) d r → ∃ d1 r1 J1, SW yL_law cL_law 9 (some .boolean) xt 12 (some (L, xs)) 23 [some (.ref 1100), some (.ref 0), some (.ref 65), some (.ref 74), some (.int (nI (7 * (c + 1)))), none, none, none, none] [] 75 (W0 d r J) f (6 * f) (.inl (some (.int (nI 1)))) 75 (W0 d1 r1 J1)) : ∃ d1 r1 J1, SW yL_law cL_law 9 (some .boolean) xt 12 (some (L, xs)) 40 [some (.ref 1100), some (.ref 0), some (.ref 65), some (.ref 74), some (.int (nI (7 * c))), none, none, none, none] [.int (nI 24)] 75 (W0 d r J) (f + 1) (6 * (f + 1)) (.inl (some (.int (nI 1)))) 75 (W0 d1 r1 J1) := by
  obtain ⟨b, d1, r1, e1, J1, hQ, hw, hm, g2⟩ := G_richShare (J := J) g (by omega)
  obtain ⟨d9, r9, J9, y9⟩ := hx e1 r1 J1 g2
  refine ⟨d9, r9, J9, sw_less (k2 := f) (n2 := 6 * f) (by omega) (by omega) ?_⟩
  refine sw_tabIn (off := 1517) (tgt := 1557) dL_law_40 (by decide) (by decide) (by decide) (by decide) ?_
  refine sw_aload_n (i := 1) dL_law_1557 rfl rfl ?_
  refine px_Vx mv_L_174 hw rfl rfl (Nat.le_of_ble_eq_true rfl) (Nat.le_of_ble_eq_true rfl) ko_0 (Nat.le_of_ble_eq_true rfl) dL_law_1558 ?_
  refine sw_dstore (i := 5) dL_law_1561 (Nat.le_of_ble_eq_true rfl) rfl ?_
  refine sw_lo (lo2 := [some (.ref 1100), some (.ref 0), some (.ref 65), some (.ref 74), some (.int _), some (.double _), none, none, none]) rfl ?_
  refine sw_aload_n (i := 2) dL_law_1563 rfl rfl ?_
  refine px_Vx mv_L_178 hm rfl rfl (Nat.le_of_ble_eq_true rfl) (Nat.le_of_ble_eq_true rfl) ko_65 (Nat.le_of_ble_eq_true rfl) dL_law_1564 ?_
  refine sw_dstore (i := 7) dL_law_1567 (Nat.le_of_ble_eq_true rfl) rfl ?_
  refine sw_lo (lo2 := [some (.ref 1100), some (.ref 0), some (.ref 65), some (.ref 74), some (.int _), some (.double _), none, some (.double _), none]) rfl ?_
  refine sw_ins (pc2 := 1569) rfl rfl ?_
  refine sw_dload (i := 5) dL_law_1569 rfl ?_
  refine sw_dload (i := 7) dL_law_1571 rfl ?_
  refine sw_dcmp dL_law_1573 ?_
  rw [cmp_self hQ]
  refine sw_if_eq (tgt := 1595) dL_law_1574 rfl (fun _ => ?_) (fun h9 => absurd (by decide) h9)
  refine sw_goto (tgt := 1612) dL_law_1595 rfl ?_
  refine sw_iinc (i := 4) (v := nI (7 * (c + 1))) dL_law_1612 rfl (by show nI (7 * c) + nI 7 = _; exact nI_add _ _) (Nat.le_of_ble_eq_true rfl) rfl ?_
  refine sw_lo (lo2 := [some (.ref 1100), some (.ref 0), some (.ref 65), some (.ref 74), some (.int _), some (.double _), none, some (.double _), none]) rfl ?_
  refine sw_goto (tgt := 23) dL_law_1615 rfl ?_
  refine sw_sub ?_ y9
  exact ⟨rfl, rfl, rfl, rfl, rfl, trivial⟩
set_option maxRecDepth 100000 in
set_option maxHeartbeats 4000000 in
theorem K_25 {xt : List (Nat × Nat × Nat × Nat)} {L : Nat} {xs : Nat → Int32} {c f : Nat} {d : Nat → Nat → Int32} {r : Nat → Nat → Option Nat} {J : Nat → Nat → Int64} (hL : L ≤ 3584) (h7 : 7 * c + 7 ≤ L) (g : LI c d r) (hx : ∀ (d : Nat → Nat → Int32) (r : Nat → Nat → Option Nat) (J : Nat → Nat → Int64), LI (c + 1) d r → ∃ d1 r1 J1, SW yL_law cL_law 9 (some .boolean) xt 12 (some (L, xs)) 23 [some (.ref 1100), some (.ref 0), some (.ref 65), some (.ref 74), some (.int (nI (7 * (c + 1)))), none, none, none, none] [] 75 (W0 d r J) f (6 * f) (.inl (some (.int (nI 1)))) 75 (W0 d1 r1 J1)) : ∃ d1 r1 J1, SW yL_law cL_law 9 (some .boolean) xt 12 (some (L, xs)) 40 [some (.ref 1100), some (.ref 0), some (.ref 65), some (.ref 74), some (.int (nI (7 * c))), none, none, none, none] [.int (nI 25)] 75 (W0 d r J) (f + 1) (6 * (f + 1)) (.inl (some (.int (nI 1)))) 75 (W0 d1 r1 J1) := by
  obtain ⟨b, d1, r1, e1, J1, hQ, hw, hm, g2⟩ := G_digest (J := J) g (by omega)
  obtain ⟨d9, r9, J9, y9⟩ := hx e1 r1 J1 g2
  refine ⟨d9, r9, J9, sw_less (k2 := f) (n2 := 6 * f) (by omega) (by omega) ?_⟩
  refine sw_tabIn (off := 1558) (tgt := 1598) dL_law_40 (by decide) (by decide) (by decide) (by decide) ?_
  refine sw_aload_n (i := 1) dL_law_1598 rfl rfl ?_
  refine px_Vx mv_L_179 hw rfl rfl (Nat.le_of_ble_eq_true rfl) (Nat.le_of_ble_eq_true rfl) ko_0 (Nat.le_of_ble_eq_true rfl) dL_law_1599 ?_
  refine sw_aload_n (i := 2) dL_law_1602 rfl rfl ?_
  refine px_Vx mv_L_183 hm rfl rfl (Nat.le_of_ble_eq_true rfl) (Nat.le_of_ble_eq_true rfl) ko_65 (Nat.le_of_ble_eq_true rfl) dL_law_1603 ?_
  refine sw_lcmp dL_law_1606 ?_
  rw [lg_same]
  refine sw_if_eq (tgt := 1612) dL_law_1607 rfl (fun _ => ?_) (fun h9 => absurd (by decide) h9)
  refine sw_iinc (i := 4) (v := nI (7 * (c + 1))) dL_law_1612 rfl (by show nI (7 * c) + nI 7 = _; exact nI_add _ _) (Nat.le_of_ble_eq_true rfl) rfl ?_
  refine sw_lo (lo2 := [some (.ref 1100), some (.ref 0), some (.ref 65), some (.ref 74), some (.int _), none, none, none, none]) rfl ?_
  refine sw_goto (tgt := 23) dL_law_1615 rfl ?_
  refine sw_sub ?_ y9
  exact ⟨rfl, rfl, rfl, rfl, rfl, trivial⟩
set_option maxRecDepth 100000 in
set_option maxHeartbeats 4000000 in
theorem K_26 {xt : List (Nat × Nat × Nat × Nat)} {L : Nat} {xs : Nat → Int32} {c f : Nat} {d : Nat → Nat → Int32} {r : Nat → Nat → Option Nat} {J : Nat → Nat → Int64} (hL : L ≤ 3584) (h7 : 7 * c + 7 ≤ L) (g : LI c d r) (hx : ∀ (d : Nat → Nat → Int32) (r : Nat → Nat → Option Nat) (J : Nat → Nat → Int64), LI (c + 1) d r → ∃ d1 r1 J1, SW yL_law cL_law 9 (some .boolean) xt 12 (some (L, xs)) 23 [some (.ref 1100), some (.ref 0), some (.ref 65), some (.ref 74), some (.int (nI (7 * (c + 1)))), none, none, none, none] [] 75 (W0 d r J) f (6 * f) (.inl (some (.int (nI 1)))) 75 (W0 d1 r1 J1)) : ∃ d1 r1 J1, SW yL_law cL_law 9 (some .boolean) xt 12 (some (L, xs)) 40 [some (.ref 1100), some (.ref 0), some (.ref 65), some (.ref 74), some (.int (nI (7 * c))), none, none, none, none] [.int (nI 26)] 75 (W0 d r J) (f + 1) (6 * (f + 1)) (.inl (some (.int (nI 1)))) 75 (W0 d1 r1 J1) := by
  obtain ⟨d9, r9, J9, y9⟩ := hx d r J (LI_s g)
  refine ⟨d9, r9, J9, sw_less (k2 := f) (n2 := 6 * f) (by omega) (by omega) ?_⟩
  refine sw_tabOut (tgt := 1612) dL_law_40 (by decide) (by decide) ?_
  refine sw_iinc (i := 4) (v := nI (7 * (c + 1))) dL_law_1612 rfl (by show nI (7 * c) + nI 7 = _; exact nI_add _ _) (Nat.le_of_ble_eq_true rfl) rfl ?_
  refine sw_lo (lo2 := [some (.ref 1100), some (.ref 0), some (.ref 65), some (.ref 74), some (.int _), none, none, none, none]) rfl ?_
  refine sw_goto (tgt := 23) dL_law_1615 rfl ?_
  refine sw_sub ?_ y9
  exact ⟨rfl, rfl, rfl, rfl, rfl, trivial⟩
set_option maxRecDepth 100000 in
set_option maxHeartbeats 4000000 in
theorem K_27 {xt : List (Nat × Nat × Nat × Nat)} {L : Nat} {xs : Nat → Int32} {c f : Nat} {d : Nat → Nat → Int32} {r : Nat → Nat → Option Nat} {J : Nat → Nat → Int64} (hL : L ≤ 3584) (h7 : 7 * c + 7 ≤ L) (g : LI c d r) (hx : ∀ (d : Nat → Nat → Int32) (r : Nat → Nat → Option Nat) (J : Nat → Nat → Int64), LI (c + 1) d r → ∃ d1 r1 J1, SW yL_law cL_law 9 (some .boolean) xt 12 (some (L, xs)) 23 [some (.ref 1100), some (.ref 0), some (.ref 65), some (.ref 74), some (.int (nI (7 * (c + 1)))), none, none, none, none] [] 75 (W0 d r J) f (6 * f) (.inl (some (.int (nI 1)))) 75 (W0 d1 r1 J1)) : ∃ d1 r1 J1, SW yL_law cL_law 9 (some .boolean) xt 12 (some (L, xs)) 40 [some (.ref 1100), some (.ref 0), some (.ref 65), some (.ref 74), some (.int (nI (7 * c))), none, none, none, none] [.int (nI 27)] 75 (W0 d r J) (f + 1) (6 * (f + 1)) (.inl (some (.int (nI 1)))) 75 (W0 d1 r1 J1) := by
  obtain ⟨d9, r9, J9, y9⟩ := hx d r J (LI_s g)
  refine ⟨d9, r9, J9, sw_less (k2 := f) (n2 := 6 * f) (by omega) (by omega) ?_⟩
  refine sw_tabOut (tgt := 1612) dL_law_40 (by decide) (by decide) ?_
  refine sw_iinc (i := 4) (v := nI (7 * (c + 1))) dL_law_1612 rfl (by show nI (7 * c) + nI 7 = _; exact nI_add _ _) (Nat.le_of_ble_eq_true rfl) rfl ?_
  refine sw_lo (lo2 := [some (.ref 1100), some (.ref 0), some (.ref 65), some (.ref 74), some (.int _), none, none, none, none]) rfl ?_
  refine sw_goto (tgt := 23) dL_law_1615 rfl ?_
  refine sw_sub ?_ y9
  exact ⟨rfl, rfl, rfl, rfl, rfl, trivial⟩
set_option maxRecDepth 100000 in
set_option maxHeartbeats 4000000 in
theorem K_28 {xt : List (Nat × Nat × Nat × Nat)} {L : Nat} {xs : Nat → Int32} {c f : Nat} {d : Nat → Nat → Int32} {r : Nat → Nat → Option Nat} {J : Nat → Nat → Int64} (hL : L ≤ 3584) (h7 : 7 * c + 7 ≤ L) (g : LI c d r) (hx : ∀ (d : Nat → Nat → Int32) (r : Nat → Nat → Option Nat) (J : Nat → Nat → Int64), LI (c + 1) d r → ∃ d1 r1 J1, SW yL_law cL_law 9 (some .boolean) xt 12 (some (L, xs)) 23 [some (.ref 1100), some (.ref 0), some (.ref 65), some (.ref 74), some (.int (nI (7 * (c + 1)))), none, none, none, none] [] 75 (W0 d r J) f (6 * f) (.inl (some (.int (nI 1)))) 75 (W0 d1 r1 J1)) : ∃ d1 r1 J1, SW yL_law cL_law 9 (some .boolean) xt 12 (some (L, xs)) 40 [some (.ref 1100), some (.ref 0), some (.ref 65), some (.ref 74), some (.int (nI (7 * c))), none, none, none, none] [.int (nI 28)] 75 (W0 d r J) (f + 1) (6 * (f + 1)) (.inl (some (.int (nI 1)))) 75 (W0 d1 r1 J1) := by
  obtain ⟨d9, r9, J9, y9⟩ := hx d r J (LI_s g)
  refine ⟨d9, r9, J9, sw_less (k2 := f) (n2 := 6 * f) (by omega) (by omega) ?_⟩
  refine sw_tabOut (tgt := 1612) dL_law_40 (by decide) (by decide) ?_
  refine sw_iinc (i := 4) (v := nI (7 * (c + 1))) dL_law_1612 rfl (by show nI (7 * c) + nI 7 = _; exact nI_add _ _) (Nat.le_of_ble_eq_true rfl) rfl ?_
  refine sw_lo (lo2 := [some (.ref 1100), some (.ref 0), some (.ref 65), some (.ref 74), some (.int _), none, none, none, none]) rfl ?_
  refine sw_goto (tgt := 23) dL_law_1615 rfl ?_
  refine sw_sub ?_ y9
  exact ⟨rfl, rfl, rfl, rfl, rfl, trivial⟩
set_option maxRecDepth 100000 in
set_option maxHeartbeats 4000000 in
theorem K_29 {xt : List (Nat × Nat × Nat × Nat)} {L : Nat} {xs : Nat → Int32} {c f : Nat} {d : Nat → Nat → Int32} {r : Nat → Nat → Option Nat} {J : Nat → Nat → Int64} (hL : L ≤ 3584) (h7 : 7 * c + 7 ≤ L) (g : LI c d r) (hx : ∀ (d : Nat → Nat → Int32) (r : Nat → Nat → Option Nat) (J : Nat → Nat → Int64), LI (c + 1) d r → ∃ d1 r1 J1, SW yL_law cL_law 9 (some .boolean) xt 12 (some (L, xs)) 23 [some (.ref 1100), some (.ref 0), some (.ref 65), some (.ref 74), some (.int (nI (7 * (c + 1)))), none, none, none, none] [] 75 (W0 d r J) f (6 * f) (.inl (some (.int (nI 1)))) 75 (W0 d1 r1 J1)) : ∃ d1 r1 J1, SW yL_law cL_law 9 (some .boolean) xt 12 (some (L, xs)) 40 [some (.ref 1100), some (.ref 0), some (.ref 65), some (.ref 74), some (.int (nI (7 * c))), none, none, none, none] [.int (nI 29)] 75 (W0 d r J) (f + 1) (6 * (f + 1)) (.inl (some (.int (nI 1)))) 75 (W0 d1 r1 J1) := by
  obtain ⟨d9, r9, J9, y9⟩ := hx d r J (LI_s g)
  refine ⟨d9, r9, J9, sw_less (k2 := f) (n2 := 6 * f) (by omega) (by omega) ?_⟩
  refine sw_tabOut (tgt := 1612) dL_law_40 (by decide) (by decide) ?_
  refine sw_iinc (i := 4) (v := nI (7 * (c + 1))) dL_law_1612 rfl (by show nI (7 * c) + nI 7 = _; exact nI_add _ _) (Nat.le_of_ble_eq_true rfl) rfl ?_
  refine sw_lo (lo2 := [some (.ref 1100), some (.ref 0), some (.ref 65), some (.ref 74), some (.int _), none, none, none, none]) rfl ?_
  refine sw_goto (tgt := 23) dL_law_1615 rfl ?_
  refine sw_sub ?_ y9
  exact ⟨rfl, rfl, rfl, rfl, rfl, trivial⟩
set_option maxRecDepth 100000 in
set_option maxHeartbeats 4000000 in
theorem K_30 {xt : List (Nat × Nat × Nat × Nat)} {L : Nat} {xs : Nat → Int32} {c f : Nat} {d : Nat → Nat → Int32} {r : Nat → Nat → Option Nat} {J : Nat → Nat → Int64} (hL : L ≤ 3584) (h7 : 7 * c + 7 ≤ L) (g : LI c d r) (hx : ∀ (d : Nat → Nat → Int32) (r : Nat → Nat → Option Nat) (J : Nat → Nat → Int64), LI (c + 1) d r → ∃ d1 r1 J1, SW yL_law cL_law 9 (some .boolean) xt 12 (some (L, xs)) 23 [some (.ref 1100), some (.ref 0), some (.ref 65), some (.ref 74), some (.int (nI (7 * (c + 1)))), none, none, none, none] [] 75 (W0 d r J) f (6 * f) (.inl (some (.int (nI 1)))) 75 (W0 d1 r1 J1)) : ∃ d1 r1 J1, SW yL_law cL_law 9 (some .boolean) xt 12 (some (L, xs)) 40 [some (.ref 1100), some (.ref 0), some (.ref 65), some (.ref 74), some (.int (nI (7 * c))), none, none, none, none] [.int (nI 30)] 75 (W0 d r J) (f + 1) (6 * (f + 1)) (.inl (some (.int (nI 1)))) 75 (W0 d1 r1 J1) := by
  obtain ⟨d9, r9, J9, y9⟩ := hx d r J (LI_s g)
  refine ⟨d9, r9, J9, sw_less (k2 := f) (n2 := 6 * f) (by omega) (by omega) ?_⟩
  refine sw_tabOut (tgt := 1612) dL_law_40 (by decide) (by decide) ?_
  refine sw_iinc (i := 4) (v := nI (7 * (c + 1))) dL_law_1612 rfl (by show nI (7 * c) + nI 7 = _; exact nI_add _ _) (Nat.le_of_ble_eq_true rfl) rfl ?_
  refine sw_lo (lo2 := [some (.ref 1100), some (.ref 0), some (.ref 65), some (.ref 74), some (.int _), none, none, none, none]) rfl ?_
  refine sw_goto (tgt := 23) dL_law_1615 rfl ?_
  refine sw_sub ?_ y9
  exact ⟨rfl, rfl, rfl, rfl, rfl, trivial⟩
set_option maxRecDepth 100000 in
set_option maxHeartbeats 4000000 in
theorem K_31 {xt : List (Nat × Nat × Nat × Nat)} {L : Nat} {xs : Nat → Int32} {c f : Nat} {d : Nat → Nat → Int32} {r : Nat → Nat → Option Nat} {J : Nat → Nat → Int64} (hL : L ≤ 3584) (h7 : 7 * c + 7 ≤ L) (g : LI c d r) (hx : ∀ (d : Nat → Nat → Int32) (r : Nat → Nat → Option Nat) (J : Nat → Nat → Int64), LI (c + 1) d r → ∃ d1 r1 J1, SW yL_law cL_law 9 (some .boolean) xt 12 (some (L, xs)) 23 [some (.ref 1100), some (.ref 0), some (.ref 65), some (.ref 74), some (.int (nI (7 * (c + 1)))), none, none, none, none] [] 75 (W0 d r J) f (6 * f) (.inl (some (.int (nI 1)))) 75 (W0 d1 r1 J1)) : ∃ d1 r1 J1, SW yL_law cL_law 9 (some .boolean) xt 12 (some (L, xs)) 40 [some (.ref 1100), some (.ref 0), some (.ref 65), some (.ref 74), some (.int (nI (7 * c))), none, none, none, none] [.int (nI 31)] 75 (W0 d r J) (f + 1) (6 * (f + 1)) (.inl (some (.int (nI 1)))) 75 (W0 d1 r1 J1) := by
  obtain ⟨d9, r9, J9, y9⟩ := hx d r J (LI_s g)
  refine ⟨d9, r9, J9, sw_less (k2 := f) (n2 := 6 * f) (by omega) (by omega) ?_⟩
  refine sw_tabOut (tgt := 1612) dL_law_40 (by decide) (by decide) ?_
  refine sw_iinc (i := 4) (v := nI (7 * (c + 1))) dL_law_1612 rfl (by show nI (7 * c) + nI 7 = _; exact nI_add _ _) (Nat.le_of_ble_eq_true rfl) rfl ?_
  refine sw_lo (lo2 := [some (.ref 1100), some (.ref 0), some (.ref 65), some (.ref 74), some (.int _), none, none, none, none]) rfl ?_
  refine sw_goto (tgt := 23) dL_law_1615 rfl ?_
  refine sw_sub ?_ y9
  exact ⟨rfl, rfl, rfl, rfl, rfl, trivial⟩
set_option maxRecDepth 100000 in
set_option maxHeartbeats 4000000 in
theorem LOOP {xt : List (Nat × Nat × Nat × Nat)} {L : Nat} {xs : Nat → Int32} (hL : L ≤ 3584) : ∀ (f c : Nat) (d : Nat → Nat → Int32) (r : Nat → Nat → Option Nat) (J : Nat → Nat → Int64), f + c = L / 7 → LI c d r → ∃ d1 r1 J1, SW yL_law cL_law 9 (some .boolean) xt 12 (some (L, xs)) 23 [some (.ref 1100), some (.ref 0), some (.ref 65), some (.ref 74), some (.int (nI (7 * c))), none, none, none, none] [] 75 (W0 d r J) f (6 * f) (.inl (some (.int (nI 1)))) 75 (W0 d1 r1 J1)
  | 0, c, d, r, J, hf, g => by
    refine ⟨d, r, J, ?_⟩
    refine sw_iload (i := 4) dL_law_23 rfl ?_
    refine sw_aload_n (i := 0) dL_law_25 rfl rfl ?_
    refine sw_slen rfl dL_law_26 ?_
    refine sw_bi 7 dL_law_27 (by decide +kernel) ?_
    refine sw_isub dL_law_29 ?_
    refine sw_ic_gt (tgt := 1618) dL_law_30 rfl (fun _ => ?_) (fun h9 => absurd ((sub_lt (by omega) (by omega) (by omega)).mpr (by omega)) h9)
    refine sw_ic 1 dL_law_1618 ?_
    refine sw_ins (pc2 := 1619) rfl rfl ?_
    exact sw_zreturnE rfl rfl rfl dL_law_1619
  | f + 1, c, d, r, J, hf, g => by
    have hx : ∀ (d : Nat → Nat → Int32) (r : Nat → Nat → Option Nat) (J : Nat → Nat → Int64), LI (c + 1) d r → ∃ d1 r1 J1, SW yL_law cL_law 9 (some .boolean) xt 12 (some (L, xs)) 23 [some (.ref 1100), some (.ref 0), some (.ref 65), some (.ref 74), some (.int (nI (7 * (c + 1)))), none, none, none, none] [] 75 (W0 d r J) f (6 * f) (.inl (some (.int (nI 1)))) 75 (W0 d1 r1 J1) := fun d r J g => LOOP hL f (c + 1) d r J (by omega) g
    have h7 : 7 * c + 7 ≤ L := by omega
    obtain ⟨w, hw, he⟩ := and31 (xs (7 * c))
    have HH : ∀ w, w < 32 → ∃ d1 r1 J1, SW yL_law cL_law 9 (some .boolean) xt 12 (some (L, xs)) 40 [some (.ref 1100), some (.ref 0), some (.ref 65), some (.ref 74), some (.int (nI (7 * c))), none, none, none, none] [.int (nI w)] 75 (W0 d r J) (f + 1) (6 * (f + 1)) (.inl (some (.int (nI 1)))) 75 (W0 d1 r1 J1) := by
      intro w hw
      match w, hw with
      | 0, _ => exact K_0 hL h7 g hx
      | 1, _ => exact K_1 hL h7 g hx
      | 2, _ => exact K_2 hL h7 g hx
      | 3, _ => exact K_3 hL h7 g hx
      | 4, _ => exact K_4 hL h7 g hx
      | 5, _ => exact K_5 hL h7 g hx
      | 6, _ => exact K_6 hL h7 g hx
      | 7, _ => exact K_7 hL h7 g hx
      | 8, _ => exact K_8 hL h7 g hx
      | 9, _ => exact K_9 hL h7 g hx
      | 10, _ => exact K_10 hL h7 g hx
      | 11, _ => exact K_11 hL h7 g hx
      | 12, _ => exact K_12 hL h7 g hx
      | 13, _ => exact K_13 hL h7 g hx
      | 14, _ => exact K_14 hL h7 g hx
      | 15, _ => exact K_15 hL h7 g hx
      | 16, _ => exact K_16 hL h7 g hx
      | 17, _ => exact K_17 hL h7 g hx
      | 18, _ => exact K_18 hL h7 g hx
      | 19, _ => exact K_19 hL h7 g hx
      | 20, _ => exact K_20 hL h7 g hx
      | 21, _ => exact K_21 hL h7 g hx
      | 22, _ => exact K_22 hL h7 g hx
      | 23, _ => exact K_23 hL h7 g hx
      | 24, _ => exact K_24 hL h7 g hx
      | 25, _ => exact K_25 hL h7 g hx
      | 26, _ => exact K_26 hL h7 g hx
      | 27, _ => exact K_27 hL h7 g hx
      | 28, _ => exact K_28 hL h7 g hx
      | 29, _ => exact K_29 hL h7 g hx
      | 30, _ => exact K_30 hL h7 g hx
      | 31, _ => exact K_31 hL h7 g hx
      | w + 32, h9 => exact absurd h9 (by omega)
    obtain ⟨d9, r9, J9, y9⟩ := HH w hw
    refine ⟨d9, r9, J9, ?_⟩
    refine sw_iload (i := 4) dL_law_23 rfl ?_
    refine sw_aload_n (i := 0) dL_law_25 rfl rfl ?_
    refine sw_slen rfl dL_law_26 ?_
    refine sw_bi 7 dL_law_27 (by decide +kernel) ?_
    refine sw_isub dL_law_29 ?_
    refine sw_ic_gt (tgt := 1618) dL_law_30 rfl (fun h9 => absurd h9 (fun q => absurd ((sub_lt (by omega) (by omega) (by omega)).mp q) (by omega))) (fun _ => ?_)
    refine sw_aload_n (i := 0) dL_law_33 rfl rfl ?_
    refine sw_ins (pc2 := 34) rfl rfl ?_
    refine sw_iload (i := 4) dL_law_34 rfl ?_
    refine sw_sld rfl (7 * c) rfl (by omega) (by omega) dL_law_36 ?_
    refine sw_bi 31 dL_law_37 (by decide +kernel) ?_
    refine sw_iand dL_law_39 ?_
    refine sw_topE (v := nI w) he ?_
    exact y9
end LAWB
