section S_CAQ
abbrev ws_X10_meanPrice : List Cond := Cond.code yX10_meanPrice cX10_meanPrice 2 (some .double) :: W0
abbrev rm_X10_meanPrice : Room := ({ frames := 17, cells := 0, slots := 0, locals := 514 } : Room)
def wp_X10_meanPrice (P : UInt64 → HS → Prop) (X : String → HS → Prop) (x0 : Nat) (p0 : Int32) (S : HS) (mc ms : Nat) : Prop := ∃ cc1 cc2 : Nat, (cc1 ≤ mc ∧ cc2 ≤ ms) ∧ (∃ (m4 : (Nat → Nat)) (m5 : (Nat → Nat → Int32)) (m6 : (Nat → Int32)) (m7 : (Nat → Int32)) (m8 : (List Int32)), ((FrS S m4 m5 m6 m7 m8 ∧ x0 = m4 50 ∧ 1 ≤ cc1 ∧ 6 ≤ cc2) ∧ ((∀ (E9 : String) (S9 : HS), ext S S9 → (grpF (m5 0) p0 = 0 ∧ E9 = "java/lang/IndexOutOfBoundsException" ∧ S9 = S) → X E9 S9) ∧ (∀ (S10 : HS), ext S S10 → (grpF (m5 0) p0 = 1 ∧ S10 = S) → (∃ cc18 cc19 : Nat, (cc18 ≤ (mc - cc1) ∧ cc19 ≤ (ms - cc2)) ∧ (∃ (m21 : (Nat → Nat)) (m22 : (Nat → Nat → Int32)) (m23 : (Nat → Int32)) (m24 : (Nat → Int32)) (m25 : (List Int32)), ((FrS S10 m21 m22 m23 m24 m25 ∧ x0 = m21 50 ∧ gok (m22 0) p0 ∧ 1 ≤ cc18 ∧ 6 ≤ cc19) ∧ ((∀ (E9 : String) (S9 : HS), ext S10 S9 → (¬ (rsnD (m22 0) (iv p0)).1 = 0 ∧ E9 = "java/lang/IllegalStateException" ∧ FrS S9 m21 m22 m23 m24 m25) → X E9 S9) ∧ (∀ (S27 : HS), ext S10 S27 → ((rsnD (m22 0) (iv p0)).1 = 0 ∧ wkP S27 (m21 54) (m22 0) (iv p0) ∧ FrS S27 m21 m22 m23 m24 m25) → (∃ b36 : Nat, hR S27 232 x0 = some b36 ∧ (hK S27 b36 = 3 → ((1 ≤ (hI S27 67 b36) → (∃ b40 : Nat, hR S27 232 x0 = some b40 ∧ (hK S27 b40 = 3 → (∃ b47 : Nat, hR S27 232 x0 = some b47 ∧ (hK S27 b47 = 3 → (vf_n64 (FP.ddiv (FP.i2d (hI S27 71 b40 + hI S27 74 b40 + hI S27 76 b40 + hI S27 77 b40)) (FP.i2d (hI S27 67 b47))) ∧ (P (FP.ddiv (FP.i2d (hI S27 71 b40 + hI S27 74 b40 + hI S27 76 b40 + hI S27 77 b40)) (FP.i2d (hI S27 67 b47))) S27))))))) ∧ (¬ 1 ≤ (hI S27 67 b36) → (P FP.dconst0 S27))))))))))))))
set_option maxRecDepth 100000 in
set_option maxHeartbeats 4000000 in
theorem t_X10_meanPrice {p : Program} {l : Launch} {e : Env} {s : State} {m : MethodId} {args : Array Value} {below : List Frame} {meth : Method} {c : Code} {D : va_G} {A : Nat → Prop} {T : Nat → ClassId} (C : GC p s m args meth c cX10_meanPrice "FreightRater" (ws_X10_meanPrice) 2 D A (zty T)) (E : GE T A s) (hst : l.stackTraces = false) (htab : ∀ z ∈ c.exceptionTable.toList, False) (hr : meth.sig.returnType = (some .double)) (P : UInt64 → HS → Prop) (X : String → HS → Prop) : ∀ (x0 : Nat) (p0 : Int32) (S0 S : HS) (mc ms : Nat) (L : List Nat), S0 = S → wt S → hL S L → (hK S x0 = 11) → wp_X10_meanPrice P X x0 p0 S mc ms → GW p l e { rm_X10_meanPrice with cells := mc, slots := ms } s m args below meth c D A 2 mc ms (vx_MQ below (va_Qd (fun v (u : HS × List Nat) => P v u.1 ∧ CO S0 u) (CE D T A) A) (CXX D T A S0 X) args s mc ms A) (CW T S L) mc ms 0 [(0, .ref x0), (1, .int p0)] [] := by
  have hW : ∀ {w : Cond}, w ∈ W0 → w.before args s = true := fun h => C.2.2.2.2.1 _ (List.mem_cons_of_mem _ h)
  intro x0 p0 S0 S mc ms L hS0 hw hL hx0 h
  have he : ext S0 S := by rw [hS0]; exact ext_rf
  unfold wp_X10_meanPrice at h
  refine g_aload_n C dX10_meanPrice_0 rfl 0 rfl ?_
  refine g_iload_n C dX10_meanPrice_1 rfl 1 rfl ?_
  obtain ⟨cc1, cc2, g3, h⟩ := h
  obtain ⟨m4, m5, m6, m7, m8, h⟩ := h
  obtain ⟨g9, h⟩ := h
  obtain ⟨g15, h⟩ := h
  refine gx_callvV (host := "") C E hw hL hx0 (by decide) (by decide) rfl [.int p0] rfl (k_X10_requireGroup l hst D T x0 p0 S m4 m5 m6 m7 m8 cc1 cc2 hx0 g9) (w0_V 1 C.2.2.2.2.1 kw_1191 kw_1193 ks_26 kw_1 kw_1194 rfl rfl (by decide +kernel) ⟨Nat.le_of_ble_eq_true rfl, Nat.le_of_ble_eq_true rfl⟩) rfl (Nat.le_of_ble_eq_true rfl) (Nat.le_refl _) (Nat.le_refl _) g3.1 g3.2 dX10_meanPrice_2 he htab g15 (fun S10 L11 e12 w13 w14 hp => ?_)
  replace h := h S10 e12 hp
  have g16 := ext_K e12 hx0 (by decide)
  have w17 := ext_tr he e12
  refine g_aload_n C dX10_meanPrice_5 rfl 0 rfl ?_
  refine g_iload_n C dX10_meanPrice_6 rfl 1 rfl ?_
  obtain ⟨cc18, cc19, g20, h⟩ := h
  obtain ⟨m21, m22, m23, m24, m25, h⟩ := h
  obtain ⟨g26, h⟩ := h
  obtain ⟨g32, h⟩ := h
  refine gx_callvV (host := "") C E w13 w14 g16 (by decide) (by decide) rfl [.int p0] rfl (k_X10_requireRated l hst D T x0 p0 S10 m21 m22 m23 m24 m25 cc18 cc19 g16 g26) (w0_V 1 C.2.2.2.2.1 kw_1298 kw_1300 ks_39 kw_1 kw_1301 rfl rfl (by decide +kernel) ⟨Nat.le_of_ble_eq_true rfl, Nat.le_of_ble_eq_true rfl⟩) rfl (Nat.le_of_ble_eq_true rfl) (Nat.le_refl _) (Nat.le_refl _) g20.1 g20.2 dX10_meanPrice_7 w17 htab g32 (fun S27 L28 e29 w30 w31 hp => ?_)
  replace h := h S27 e29 hp
  have g33 := ext_K e29 g16 (by decide)
  have w34 := ext_tr w17 e29
  refine g_aload_n C dX10_meanPrice_10 rfl 0 rfl ?_
  refine gc_getR C w30 iwx_X10 w31 g33 (by decide) (by decide) rfl 12 (by decide) (hW kw_254) rfl rfl rfl dX10_meanPrice_11 (fun o35 eo35 ko35 => ?_)
  obtain ⟨b36, hb9, h⟩ := h
  have g37 : hK S27 b36 = 3 := ko35 b36 (eo35.trans hb9)
  replace h := h g37
  refine g_opt (eo35.trans hb9) ?_
  refine gc_getI C iwx_X2 w31 g37 (by decide) (by decide) rfl 7 (by decide) (hW kw_149) rfl rfl rfl dX10_meanPrice_14 ?_
  refine g_iconst (v := 1) C dX10_meanPrice_17 (by decide) ?_
  refine g_icmp_ge (tgt := 23) C dX10_meanPrice_18 (by decide) (fun z38 => ?_) (fun z38 => ?_)
  · replace h := h.1 z38
    refine g_aload_n C dX10_meanPrice_23 rfl 0 rfl ?_
    refine gc_getR C w30 iwx_X10 w31 g33 (by decide) (by decide) rfl 12 (by decide) (hW kw_254) rfl rfl rfl dX10_meanPrice_24 (fun o39 eo39 ko39 => ?_)
    obtain ⟨b40, hb9, h⟩ := h
    have g41 : hK S27 b40 = 3 := ko39 b40 (eo39.trans hb9)
    replace h := h g41
    refine g_opt (eo39.trans hb9) ?_
    refine gc_calliV (host := "") C E w30 w31 g41 (by decide) (by decide) rfl [] rfl (k_X2_total l D T b40 S27 g41) (w0_V 0 C.2.2.2.2.1 kw_1287 kw_1288 kw_1289 kw_7 kw_1290 rfl rfl (by decide +kernel) ⟨Nat.le_of_ble_eq_true rfl, Nat.le_of_ble_eq_true rfl⟩) rfl (Nat.le_of_ble_eq_true rfl) (Nat.le_refl _) (Nat.le_refl _) (Nat.zero_le _) (Nat.zero_le _) dX10_meanPrice_27 (fun v9 S9 L42 he9 hw9 hL9 hp => ?_)
    obtain ⟨hv9, hs9⟩ := hp
    replace hs9 := hs9.symm
    subst hs9
    replace hv9 := hv9.symm
    subst hv9
    have w45 := hL9
    refine g_i2d C dX10_meanPrice_30 ?_
    refine g_aload_n C dX10_meanPrice_31 rfl 0 rfl ?_
    refine gc_getR C w30 iwx_X10 w45 g33 (by decide) (by decide) rfl 12 (by decide) (hW kw_254) rfl rfl rfl dX10_meanPrice_32 (fun o46 eo46 ko46 => ?_)
    obtain ⟨b47, hb9, h⟩ := h
    have g48 : hK S27 b47 = 3 := ko46 b47 (eo46.trans hb9)
    replace h := h g48
    refine g_opt (eo46.trans hb9) ?_
    refine gc_getI C iwx_X2 w45 g48 (by decide) (by decide) rfl 7 (by decide) (hW kw_149) rfl rfl rfl dX10_meanPrice_35 ?_
    refine g_i2d C dX10_meanPrice_38 ?_
    obtain ⟨g49, h⟩ := h
    refine g_ddiv C dX10_meanPrice_39 g49 ?_
    exact gx_dret C w30 w45 w34 hr dX10_meanPrice_40 h
  · replace h := h.2 z38
    refine g_dconst0 C dX10_meanPrice_21 ?_
    exact gx_dret C w30 w31 w34 hr dX10_meanPrice_22 h
theorem c_X10_meanPrice (l : Launch) (hst : l.stackTraces = false) (D : va_G) (T : Nat → ClassId) (x0 : Nat) (p0 : Int32) (S : HS) (mc ms : Nat) (hx0 : hK S x0 = 11) (P : UInt64 → HS → Prop) (X : String → HS → Prop) (h : wp_X10_meanPrice P X x0 p0 S mc ms) : CXd l yX10_meanPrice (ws_X10_meanPrice) rm_X10_meanPrice D T [.ref x0, .int p0] S mc ms P X := gx_metd (by decide) rfl rfl (Nat.le_of_ble_eq_true rfl) (fun p e s m args below meth c A L C E hnm hr htab hw hL => t_X10_meanPrice C E hst htab hr P X x0 p0 S S mc ms L rfl hw hL hx0 h)
theorem n64_of {r : UInt64} (h : FP.Core.dIsNaN r = false) : vf_n64 r := by
  have h1 : ¬ 9218868437227405312 < r.toNat % 2 ^ 63 := fun z => by
    rw [(FP.Core.isNaN_bits r).mpr z] at h
    cases h
  have e : r.toNat &&& (2 ^ 63 - 1) = r.toNat % 2 ^ 63 := Nat.and_two_pow_sub_one_eq_mod r.toNat 63
  unfold vf_n64
  rw [UInt64.le_iff_toNat_le, UInt64.toNat_and]
  show r.toNat &&& (2 ^ 63 - 1) ≤ 9218868437227405312
  rw [e]
  exact Nat.le_of_not_lt h1
theorem div_n64 {x y : Int32} (hy : ¬ y = 0) : vf_n64 (FP.ddiv (FP.i2d x) (FP.i2d y)) := n64_of (FP.Core.ddiv_out (FP.Core.DFin.notNaN (FP.Core.i2d_fin x)) (FP.Core.i2d_fin y) (fun z => FP.Core.i2d_ne_zero hy ((FP.Core.zero_bits2 _).mp z)))
theorem k_X10_meanPrice (l : Launch) (hst : l.stackTraces = false) (D : va_G) (T : Nat → ClassId) (x0 : Nat) (p0 : Int32) (S : HS) (e0 : (Nat → Nat)) (e1 : (Nat → Nat → Int32)) (e2 : (Nat → Int32)) (e3 : (Nat → Int32)) (e4 : (List Int32)) (mc ms : Nat) (hx0 : hK S x0 = 11) (h : FrS S e0 e1 e2 e3 e4 ∧ x0 = e0 50 ∧ 200 ≤ mc ∧ 2000 ≤ ms) : CXd l yX10_meanPrice (ws_X10_meanPrice) rm_X10_meanPrice D T [.ref x0, .int p0] S mc ms (fun v S1 => (rateC (e1 0) p0 = 0 ∧ v = mpF (e1 0) (iv p0) ∧ FrS S1 e0 e1 e2 e3 e4)) (fun E9 S1 => ((rateC (e1 0) p0 = 1 ∧ E9 = "java/lang/IndexOutOfBoundsException") ∨ (rateC (e1 0) p0 = 2 ∧ E9 = "java/lang/IllegalStateException")) ∧ FrS S1 e0 e1 e2 e3 e4) := c_X10_meanPrice l hst D T x0 p0 S mc ms hx0 _ _ <|
  (by
    obtain ⟨h, e, hmc, hms⟩ := h
    unfold wp_X10_meanPrice
    refine ⟨1, 6, ⟨by omega, by omega⟩, e0, e1, e2, e3, e4, ⟨h, e, Nat.le_refl _, Nat.le_refl _⟩, fun E9 S9 _ h9 => ?_, fun S10 _ h10 => ?_⟩
    · obtain ⟨c, eE, eS⟩ := h9
      subst eS
      exact ⟨Or.inl ⟨by unfold rateC; rw [if_pos c], eE⟩, h⟩
    obtain ⟨c, eS⟩ := h10
    subst eS e
    have c0 : ¬ grpF (e1 0) p0 = 0 := by rw [c]; decide
    have hg := grp_gok h.now.1 c0
    have rC : rateC (e1 0) p0 = if (rsnD (e1 0) (iv p0)).1 = 0 then 0 else 2 := by unfold rateC; rw [if_neg c0]
    refine ⟨1, 6, ⟨by omega, by omega⟩, e0, e1, e2, e3, e4, ⟨h, rfl, hg, Nat.le_refl _, Nat.le_refl _⟩, fun E9 S9 _ h9 => ?_, fun S27 _ h27 => ?_⟩
    · obtain ⟨c2, eE, H9⟩ := h9
      exact ⟨Or.inr ⟨by rw [rC, if_neg c2], eE⟩, H9⟩
    obtain ⟨c2, w27, H27⟩ := h27
    obtain ⟨_, _, w67, w71, _, _, w74, _, w76, w77⟩ := w27.2.2 c2
    refine ⟨e0 54, H27.r12, fun _ => ⟨fun z => ⟨e0 54, H27.r12, fun _ => ⟨e0 54, H27.r12, fun _ => ?_⟩⟩, fun z => ?_⟩⟩
    · have nz9 : ¬ hI S27 67 (e0 54) = 0 := fun q => by rw [q] at z; exact absurd z (by decide)
      refine ⟨div_n64 nz9, by rw [rC, if_pos c2], ?_, H27⟩
      unfold mpF
      rw [if_neg (fun q => by
        rw [w67] at z
        rw [Int32.lt_iff_toInt_lt] at q
        rw [Int32.le_iff_toInt_le] at z
        omega)]
      rw [w67, w71, w74, w76, w77]
      rfl
    · refine ⟨by rw [rC, if_pos c2], ?_, H27⟩
      unfold mpF
      rw [if_pos (by rw [← w67]; exact Int32.not_le.mp z)])

end S_CAQ
