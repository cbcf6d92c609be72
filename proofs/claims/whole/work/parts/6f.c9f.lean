section S_C9F
abbrev ws_X10_pack : List Cond := Cond.code yX10_pack cX10_pack 8 (some .int) :: W0
abbrev rm_X10_pack : Room := ({ frames := 7, cells := 0, slots := 0, locals := 122 } : Room)
def wp_X10_pack (P : Int32 → HS → Prop) (X : String → HS → Prop) (x0 : Nat) (p0 : Int32) (p1 : Int32) (p2 : Int32) (p3 : Int32) (p4 : Int32) (S : HS) (mc ms : Nat) : Prop := ∃ cc1 cc2 : Nat, (cc1 ≤ mc ∧ cc2 ≤ ms) ∧ (∃ (m4 : (Nat → Nat)) (m5 : (Nat → Nat → Int32)) (m6 : (Nat → Int32)) (m7 : (Nat → Int32)) (m8 : (List Int32)), ((FrS S m4 m5 m6 m7 m8 ∧ x0 = m4 50 ∧ 1 ≤ cc1 ∧ 6 ≤ cc2) ∧ ((∀ (E9 : String) (S9 : HS), ext S S9 → (zin p0 0 (m5 0 1 - 1) = 0 ∧ E9 = "java/lang/IndexOutOfBoundsException" ∧ S9 = S) → X E9 S9) ∧ (∀ (o15 : Option Nat) (S10 : HS), ext S S10 → (∀ b, o15 = some b → hK S10 b = 6) → (S10 = S ∧ ¬ zin p0 0 (m5 0 1 - 1) = 0 ∧ ∃ y, o15 = some y ∧ RelS S (fxM m4) y (m5 0) (iv p0)) → (∃ b19 : Nat, o15 = some b19 ∧ (hK S10 b19 = 6 → (((zin p1 1 200) = 0 → ((1 ≤ (mc - cc1) ∧ 6 ≤ (ms - cc2)) ∧ X "java/lang/IllegalArgumentException" S10)) ∧ (¬ (zin p1 1 200) = 0 → (((zin p2 1 200) = 0 → ((1 ≤ (mc - cc1) ∧ 6 ≤ (ms - cc2)) ∧ X "java/lang/IllegalArgumentException" S10)) ∧ (¬ (zin p2 1 200) = 0 → (((zin p3 1 200) = 0 → ((1 ≤ (mc - cc1) ∧ 6 ≤ (ms - cc2)) ∧ X "java/lang/IllegalArgumentException" S10)) ∧ (¬ (zin p3 1 200) = 0 → ((¬ (zin p4 1 999) = 0 → (∃ (m44 : (Nat → Prop)) (m45 : Nat → Int32) (m46 : Nat), ((WF m45 ∧ m46 < 10 ∧ RelS S10 m44 b19 m45 m46) ∧ ((¬ (psF m45 m46) = 0 → ((1 ≤ (mc - cc1) ∧ 6 ≤ (ms - cc2)) ∧ X "java/lang/IllegalStateException" S10)) ∧ ((psF m45 m46) = 0 → (((hI S10 124 b19) < 5 → (∃ (m55 : (Nat → Nat)) (m56 : (Nat → Nat → Int32)) (m57 : (Nat → Int32)) (m58 : (Nat → Int32)) (m59 : (List Int32)), ((FrS S10 m55 m56 m57 m58 m59 ∧ x0 = m55 50) ∧ (∀ (S61 : HS), ext S10 S61 → (FrS S61 m55 (rmU m56 m57) (rmG m57) m58 m59 ∧ frM S10 S61 (fxM m55) ∧ hK S61 = hK S10 ∧ hR S61 = hR S10 ∧ (∀ i, 54 ≤ i → i < 64 → sam S10 S61 (m55 i))) → ((1 ≤ (mc - cc1) ∧ 9 ≤ (ms - cc2)) ∧ (∀ q69 : Nat, hK S61 q69 = 0 → zr S61 q69 → (∀ S77 : HS, S77 = newO S61 q69 6 → (∃ cc84 cc85 : Nat, (cc84 ≤ ((mc - cc1) - 1) ∧ cc85 ≤ ((ms - cc2) - 9)) ∧ (∃ (m87 : (Nat → Prop)) (m88 : Nat → Int32) (m89 : Nat), ((RelS S77 m87 b19 m88 m89 ∧ b19 ≠ q69 ∧ ¬ m87 q69 ∧ (∀ b, m87 b → hK S77 b ≠ 0) ∧ 1 ≤ cc84 ∧ 5 ≤ cc85) ∧ (∀ (S91 : HS), ext S77 S91 → (frM S77 S91 (fun b => b = q69) ∧ RelS S91 m87 q69 m88 m89 ∧ ∃ b, hR S91 125 q69 = some b ∧ hK S77 b = 0) → (∃ (m100 : (Nat → Prop)) (m101 : Nat → Int32) (m102 : Nat), ((RelS S91 m100 q69 m101 m102 ∧ ∃ n : Nat, n < 5 ∧ m101 (14 + 26 * m102 + 4) = nI n) ∧ (∀ (S104 : HS), ext S91 S104 → (frM S91 S104 (fun b => b = q69 ∨ hR S91 125 q69 = some b) ∧ RelS S104 m100 q69 (pakF m101 m102 p1 p2 p3 p4) m102 ∧ hK S104 = hK S91 ∧ hN S104 = hN S91 ∧ hR S104 = hR S91) → (∃ b114 : Nat, hR S104 220 x0 = some b114 ∧ (hK S104 b114 = 7 → (∃ b117 : Nat, hR S104 142 b114 = some b117 ∧ (hK S104 b117 = 27 → (vp_in p0 (hN S104 b117) ∧ (∀ S121 : HS, S121 = putB S104 b117 (Int32.toNatClampNeg p0) (some q69) → (P (hI S121 124 q69) S121))))))))))))))))))))) ∧ (¬ (hI S10 124 b19) < 5 → ((1 ≤ (mc - cc1) ∧ 6 ≤ (ms - cc2)) ∧ X "java/lang/IllegalStateException" S10)))))))) ∧ ((zin p4 1 999) = 0 → ((1 ≤ (mc - cc1) ∧ 6 ≤ (ms - cc2)) ∧ X "java/lang/IllegalArgumentException" S10)))))))))))))))
set_option maxRecDepth 100000 in
set_option maxHeartbeats 4000000 in
theorem t_X10_pack {p : Program} {l : Launch} {e : Env} {s : State} {m : MethodId} {args : Array Value} {below : List Frame} {meth : Method} {c : Code} {D : va_G} {A : Nat → Prop} {T : Nat → ClassId} (C : GC p s m args meth c cX10_pack "FreightRater" (ws_X10_pack) 8 D A (zty T)) (E : GE T A s) (hst : l.stackTraces = false) (htab : ∀ z ∈ c.exceptionTable.toList, False) (hr : meth.sig.returnType = (some .int)) (P : Int32 → HS → Prop) (X : String → HS → Prop) : ∀ (x0 : Nat) (p0 : Int32) (p1 : Int32) (p2 : Int32) (p3 : Int32) (p4 : Int32) (S0 S : HS) (mc ms : Nat) (L : List Nat), S0 = S → wt S → hL S L → (hK S x0 = 11) → wp_X10_pack P X x0 p0 p1 p2 p3 p4 S mc ms → GW p l e { rm_X10_pack with cells := mc, slots := ms } s m args below meth c D A 8 mc ms (vx_MQ below (va_Qi (fun v (u : HS × List Nat) => P v u.1 ∧ CO S0 u) (CE D T A) A) (CXX D T A S0 X) args s mc ms A) (CW T S L) mc ms 0 [(0, .ref x0), (1, .int p0), (2, .int p1), (3, .int p2), (4, .int p3), (5, .int p4)] [] := by
  have hW : ∀ {w : Cond}, w ∈ W0 → w.before args s = true := fun h => C.2.2.2.2.1 _ (List.mem_cons_of_mem _ h)
  intro x0 p0 p1 p2 p3 p4 S0 S mc ms L hS0 hw hL hx0 h
  have he : ext S0 S := by rw [hS0]; exact ext_rf
  unfold wp_X10_pack at h
  refine g_aload_n C dX10_pack_0 rfl 0 rfl ?_
  refine g_iload_n C dX10_pack_1 rfl 1 rfl ?_
  obtain ⟨cc1, cc2, g3, h⟩ := h
  obtain ⟨m4, m5, m6, m7, m8, h⟩ := h
  obtain ⟨g9, h⟩ := h
  obtain ⟨g16, h⟩ := h
  refine gx_callqV (host := "") C E hw hL hx0 (by decide) (by decide) rfl [.int p0] rfl (k_X10_requireShipment l hst D T x0 p0 S m4 m5 m6 m7 m8 cc1 cc2 hx0 g9) (w0_V 1 C.2.2.2.2.1 kw_1134 kw_1136 ks_25 kw_1 kw_1137 rfl rfl (by decide +kernel) ⟨Nat.le_of_ble_eq_true rfl, Nat.le_of_ble_eq_true rfl⟩) rfl (Nat.le_of_ble_eq_true rfl) (Nat.le_refl _) (Nat.le_refl _) g3.1 g3.2 dX10_pack_2 he htab g16 (fun o15 S10 L11 e12 w13 w14 ko15 hp => ?_)
  replace h := h o15 S10 e12 ko15 hp
  have g17 := ext_K e12 hx0 (by decide)
  have w18 := ext_tr he e12
  obtain ⟨b19, rfl, h⟩ := h
  have g20 : hK S10 b19 = 6 := ko15 b19 rfl
  replace h := h g20
  refine g_astore (lv' := [(6, .ref b19), (0, .ref x0), (1, .int p0), (2, .int p1), (3, .int p2), (4, .int p3), (5, .int p4)]) C dX10_pack_5 (by decide) rfl ?_
  refine g_iload_n C dX10_pack_7 rfl 3 rfl ?_
  refine gc_calliS (host := "") C E w13 w14 [.int p1] rfl (k_X10_isSide l D T p1 S10 ) (w0_S 1 C.2.2.2.2.1 kw_1142 kw_1143 kw_1 kw_1144 rfl rfl (by decide +kernel) ⟨Nat.le_of_ble_eq_true rfl, Nat.le_of_ble_eq_true rfl⟩) rfl (Nat.le_of_ble_eq_true rfl) (Nat.le_refl _) (Nat.le_refl _) (Nat.zero_le _) (Nat.zero_le _) dX10_pack_8 (fun v9 S9 L21 he9 hw9 hL9 hp => ?_)
  obtain ⟨hv9, hs9⟩ := hp
  replace hs9 := hs9.symm
  subst hs9
  replace hv9 := hv9.symm
  subst hv9
  have w24 := hL9
  refine g_if_eq (tgt := 41) C dX10_pack_11 (by decide) (fun z25 => ?_) (fun z25 => ?_)
  · replace h := h.1 z25
    obtain ⟨g26, h⟩ := h
    exact gx_throw (cls := "java/lang/IllegalArgumentException") (names := ["java/lang/RuntimeException", "java/lang/Exception"]) C E hst w13 w24 w18 (Nat.le_refl _) (Nat.le_refl _) (by decide) (by decide) (hW kw_310) (hW kw_13) (th_FreightRater_62 hW E) tv_FreightRater_62 dX10_pack_41 dX10_pack_44 dX10_pack_45 dX10_pack_48 htab (Nat.le_of_ble_eq_true rfl) (Nat.le_of_ble_eq_true rfl) g26.1 g26.2 h
  · replace h := h.2 z25
    refine g_iload_n C dX10_pack_14 rfl 4 rfl ?_
    refine gc_calliS (host := "") C E w13 w24 [.int p2] rfl (k_X10_isSide l D T p2 S10 ) (w0_S 1 C.2.2.2.2.1 kw_1142 kw_1143 kw_1 kw_1144 rfl rfl (by decide +kernel) ⟨Nat.le_of_ble_eq_true rfl, Nat.le_of_ble_eq_true rfl⟩) rfl (Nat.le_of_ble_eq_true rfl) (Nat.le_refl _) (Nat.le_refl _) (Nat.zero_le _) (Nat.zero_le _) dX10_pack_15 (fun v9 S9 L27 he9 hw9 hL9 hp => ?_)
    obtain ⟨hv9, hs9⟩ := hp
    replace hs9 := hs9.symm
    subst hs9
    replace hv9 := hv9.symm
    subst hv9
    have w30 := hL9
    refine g_if_eq (tgt := 41) C dX10_pack_18 (by decide) (fun z31 => ?_) (fun z31 => ?_)
    · replace h := h.1 z31
      obtain ⟨g32, h⟩ := h
      exact gx_throw (cls := "java/lang/IllegalArgumentException") (names := ["java/lang/RuntimeException", "java/lang/Exception"]) C E hst w13 w30 w18 (Nat.le_refl _) (Nat.le_refl _) (by decide) (by decide) (hW kw_310) (hW kw_13) (th_FreightRater_62 hW E) tv_FreightRater_62 dX10_pack_41 dX10_pack_44 dX10_pack_45 dX10_pack_48 htab (Nat.le_of_ble_eq_true rfl) (Nat.le_of_ble_eq_true rfl) g32.1 g32.2 h
    · replace h := h.2 z31
      refine g_iload C dX10_pack_21 5 rfl ?_
      refine gc_calliS (host := "") C E w13 w30 [.int p3] rfl (k_X10_isSide l D T p3 S10 ) (w0_S 1 C.2.2.2.2.1 kw_1142 kw_1143 kw_1 kw_1144 rfl rfl (by decide +kernel) ⟨Nat.le_of_ble_eq_true rfl, Nat.le_of_ble_eq_true rfl⟩) rfl (Nat.le_of_ble_eq_true rfl) (Nat.le_refl _) (Nat.le_refl _) (Nat.zero_le _) (Nat.zero_le _) dX10_pack_23 (fun v9 S9 L33 he9 hw9 hL9 hp => ?_)
      obtain ⟨hv9, hs9⟩ := hp
      replace hs9 := hs9.symm
      subst hs9
      replace hv9 := hv9.symm
      subst hv9
      have w36 := hL9
      refine g_if_eq (tgt := 41) C dX10_pack_26 (by decide) (fun z37 => ?_) (fun z37 => ?_)
      · replace h := h.1 z37
        obtain ⟨g38, h⟩ := h
        exact gx_throw (cls := "java/lang/IllegalArgumentException") (names := ["java/lang/RuntimeException", "java/lang/Exception"]) C E hst w13 w36 w18 (Nat.le_refl _) (Nat.le_refl _) (by decide) (by decide) (hW kw_310) (hW kw_13) (th_FreightRater_62 hW E) tv_FreightRater_62 dX10_pack_41 dX10_pack_44 dX10_pack_45 dX10_pack_48 htab (Nat.le_of_ble_eq_true rfl) (Nat.le_of_ble_eq_true rfl) g38.1 g38.2 h
      · replace h := h.2 z37
        refine g_iload C dX10_pack_29 6 rfl ?_
        refine g_iconst (v := 1) C dX10_pack_31 (by decide) ?_
        refine g_sipush (v := 999) C dX10_pack_32 (by decide) ?_
        refine gc_calliS (host := "") C E w13 w36 [.int p4, .int 1, .int 999] rfl (k_X10_isBetween l D T p4 1 999 S10 ) (w0_S 3 C.2.2.2.2.1 kw_303 kw_304 kw_1 kw_305 rfl rfl (by decide +kernel) ⟨Nat.le_of_ble_eq_true rfl, Nat.le_of_ble_eq_true rfl⟩) rfl (Nat.le_of_ble_eq_true rfl) (Nat.le_refl _) (Nat.le_refl _) (Nat.zero_le _) (Nat.zero_le _) dX10_pack_35 (fun v9 S9 L39 he9 hw9 hL9 hp => ?_)
        obtain ⟨hv9, hs9⟩ := hp
        replace hs9 := hs9.symm
        subst hs9
        replace hv9 := hv9.symm
        subst hv9
        have w42 := hL9
        refine g_if_ne (tgt := 49) C dX10_pack_38 (by decide) (fun z43 => ?_) (fun z43 => ?_)
        · replace h := h.1 z43
          refine g_aload C dX10_pack_49 0 rfl ?_
          obtain ⟨m44, m45, m46, h⟩ := h
          obtain ⟨g47, h⟩ := h
          refine gc_calliV (host := "") C E w13 w42 g20 (by decide) (by decide) rfl [] rfl (k_X5_isPosted l D T b19 S10 m44 m45 m46 g20 g47) (w0_V 0 C.2.2.2.2.1 kw_1145 kw_1146 kw_1147 kw_35 kw_1148 rfl rfl (by decide +kernel) ⟨Nat.le_of_ble_eq_true rfl, Nat.le_of_ble_eq_true rfl⟩) rfl (Nat.le_of_ble_eq_true rfl) (Nat.le_refl _) (Nat.le_refl _) (Nat.zero_le _) (Nat.zero_le _) dX10_pack_51 (fun v9 S9 L48 he9 hw9 hL9 hp => ?_)
          obtain ⟨hv9, hs9⟩ := hp
          replace hs9 := hs9.symm
          subst hs9
          replace hv9 := hv9.symm
          subst hv9
          have w51 := hL9
          refine g_if_ne (tgt := 66) C dX10_pack_54 (by decide) (fun z52 => ?_) (fun z52 => ?_)
          · replace h := h.1 z52
            obtain ⟨g53, h⟩ := h
            exact gx_throw (cls := "java/lang/IllegalStateException") (names := ["java/lang/RuntimeException", "java/lang/Exception"]) C E hst w13 w51 w18 (Nat.le_refl _) (Nat.le_refl _) (by decide) (by decide) (hW kw_480) (hW kw_17) (th_FreightRater_78 hW E) tv_FreightRater_78 dX10_pack_66 dX10_pack_69 dX10_pack_70 dX10_pack_73 htab (Nat.le_of_ble_eq_true rfl) (Nat.le_of_ble_eq_true rfl) g53.1 g53.2 h
          · replace h := h.2 z52
            refine g_aload C dX10_pack_57 0 rfl ?_
            refine gc_getI C iwx_X5 w51 g20 (by decide) (by decide) rfl 4 (by decide) (hW kw_1093) rfl rfl rfl dX10_pack_59 ?_
            refine g_iconst (v := 5) C dX10_pack_62 (by decide) ?_
            refine g_icmp_lt (tgt := 74) C dX10_pack_63 (by decide) (fun z54 => ?_) (fun z54 => ?_)
            · replace h := h.1 z54
              refine g_aload_n C dX10_pack_74 rfl 1 rfl ?_
              obtain ⟨m55, m56, m57, m58, m59, h⟩ := h
              obtain ⟨g60, h⟩ := h
              refine gc_callvV (host := "") C E w13 w51 g17 (by decide) (by decide) rfl [] rfl (k_X10_remember l D T x0 S10 m55 m56 m57 m58 m59 g17 g60) (w0_V 0 C.2.2.2.2.1 kw_495 kw_497 ks_1 kw_1 kw_498 rfl rfl (by decide +kernel) ⟨Nat.le_of_ble_eq_true rfl, Nat.le_of_ble_eq_true rfl⟩) rfl (Nat.le_of_ble_eq_true rfl) (Nat.le_refl _) (Nat.le_refl _) (Nat.zero_le _) (Nat.zero_le _) dX10_pack_75 (fun S61 L62 e63 w64 w65 hp => ?_)
              replace h := h S61 e63 hp
              have g66 := ext_K e63 g20 (by decide)
              have g67 := ext_K e63 g17 (by decide)
              have w68 := ext_tr w18 e63
              obtain ⟨g70, h⟩ := h
              refine gc_new (kd := 6) (N := 9) C E w64 w65 (Nat.le_refl _) (Nat.le_refl _) iwx_X5 tyX5 tyX5_ok (by decide) (by decide) rfl (fun j hj => by rcases (show j = 0 ∨ j = 1 ∨ j = 2 ∨ j = 3 ∨ j = 4 ∨ j = 5 ∨ j = 6 ∨ j = 7 ∨ j = 8 by omega) with rfl | rfl | rfl | rfl | rfl | rfl | rfl | rfl | rfl <;> rfl) (hW kw_1073) (hW kw_1074) (hW kw_35) g70.1 g70.2 dX10_pack_78 (fun q69 h0q69 zq69 => ?_)
              replace h := h q69 h0q69 zq69
              have g71 := newO_old 6 g66 (by decide) h0q69
              have g72 := newO_old 6 g67 (by decide) h0q69
              have w73 := wt_newO w64 6 h0q69 (by decide)
              have w74 := hL_new (S' := newO S61 q69 6) w65 (show 6 ≠ 0 by decide) rfl
              have w75 := ext_newO w68 h0q69 6
              have g76 := newO_self S61 q69 6
              refine gc_nS (fun S77 eS77 => ?_)
              replace h := h S77 eS77
              have w78 : wt S77 := by rw [eS77]; exact w73
              have w79 : isL S77 (L62 ++ [q69]) := by rw [eS77]; exact w74
              have w80 : ext S0 S77 := by rw [eS77]; exact w75
              have g81 : hK S77 q69 = 6 := by rw [eS77]; exact g76
              have g82 : hK S77 b19 = 6 := by rw [eS77]; exact g71
              have g83 : hK S77 x0 = 11 := by rw [eS77]; exact g72
              refine g_dup C dX10_pack_81 rfl ?_
              refine g_aload C dX10_pack_82 0 rfl ?_
              obtain ⟨cc84, cc85, g86, h⟩ := h
              obtain ⟨m87, m88, m89, h⟩ := h
              obtain ⟨g90, h⟩ := h
              refine gc_callvI (host := "") (ret := none) C E w78 w79 [.ref b19] rfl (k_X5_init_ l D T q69 b19 S77 m87 m88 m89 cc84 cc85 g81 g82 g90) (w0_I 1 C.2.2.2.2.1 kw_1149 kw_1150 kw_35 kw_1151 rfl rfl rfl (by decide +kernel) ⟨Nat.le_of_ble_eq_true rfl, Nat.le_of_ble_eq_true rfl⟩) rfl (Nat.le_of_ble_eq_true rfl) (Nat.le_refl _) (Nat.le_refl _) g86.1 g86.2 dX10_pack_84 (fun S91 L92 e93 w94 w95 hp => ?_)
              replace h := h S91 e93 hp
              have g96 := ext_K e93 g81 (by decide)
              have g97 := ext_K e93 g82 (by decide)
              have g98 := ext_K e93 g83 (by decide)
              have w99 := ext_tr w80 e93
              refine g_astore (lv' := [(7, .ref q69), (6, .ref b19), (0, .ref x0), (1, .int p0), (2, .int p1), (3, .int p2), (4, .int p3), (5, .int p4)]) C dX10_pack_87 (by decide) rfl ?_
              refine g_aload C dX10_pack_89 0 rfl ?_
              refine g_iload_n C dX10_pack_91 rfl 4 rfl ?_
              refine g_iload_n C dX10_pack_92 rfl 5 rfl ?_
              refine g_iload C dX10_pack_93 6 rfl ?_
              refine g_iload C dX10_pack_95 7 rfl ?_
              obtain ⟨m100, m101, m102, h⟩ := h
              obtain ⟨g103, h⟩ := h
              refine gc_callvV (host := "") C E w94 w95 g96 (by decide) (by decide) rfl [.int p1, .int p2, .int p3, .int p4] rfl (k_X5_addPiece l D T q69 p1 p2 p3 p4 S91 m100 m101 m102 g96 g103) (w0_V 4 C.2.2.2.2.1 kw_1154 kw_1155 kw_1156 kw_35 kw_1157 rfl rfl (by decide +kernel) ⟨Nat.le_of_ble_eq_true rfl, Nat.le_of_ble_eq_true rfl⟩) rfl (Nat.le_of_ble_eq_true rfl) (Nat.le_refl _) (Nat.le_refl _) (Nat.zero_le _) (Nat.zero_le _) dX10_pack_97 (fun S104 L105 e106 w107 w108 hp => ?_)
              replace h := h S104 e106 hp
              have g109 := ext_K e106 g96 (by decide)
              have g110 := ext_K e106 g97 (by decide)
              have g111 := ext_K e106 g98 (by decide)
              have w112 := ext_tr w99 e106
              refine g_aload_n C dX10_pack_100 rfl 2 rfl ?_
              refine gc_getR C w107 iwx_X10 w108 g111 (by decide) (by decide) rfl 0 (by decide) (hW kw_242) rfl rfl rfl dX10_pack_101 (fun o113 eo113 ko113 => ?_)
              obtain ⟨b114, hb9, h⟩ := h
              have g115 : hK S104 b114 = 7 := ko113 b114 (eo113.trans hb9)
              replace h := h g115
              refine g_opt (eo113.trans hb9) ?_
              refine gc_getR C w107 iwx_X6 w108 g115 (by decide) (by decide) rfl 2 (by decide) (hW kw_64) rfl rfl rfl dX10_pack_104 (fun o116 eo116 ko116 => ?_)
              obtain ⟨b117, hb9, h⟩ := h
              have g118 : hK S104 b117 = 27 := ko116 b117 (eo116.trans hb9)
              replace h := h g118
              refine g_opt (eo116.trans hb9) ?_
              refine g_iload_n C dX10_pack_107 rfl 3 rfl ?_
              refine g_aload C dX10_pack_108 0 rfl ?_
              obtain ⟨g119, h⟩ := h
              refine gc_aast C w108 g118 (by decide) rfl g109 (by decide) (by decide) rfl g119 dX10_pack_110 ?_
              have w120 := wt_putB w107 (Int32.toNatClampNeg p0) (some q69) (k_ne g118 (by decide)) (fun b hb => by cases hb; rw [show hK S104 b117 = 27 from g118]; exact g109)
              refine gc_nS (fun S121 eS121 => ?_)
              replace h := h S121 eS121
              have w122 : wt S121 := by rw [eS121]; exact w120
              have w123 : isL S121 L105 := by rw [eS121]; exact w108
              have w124 : ext S0 S121 := by rw [eS121]; exact w112
              have g125 : hK S121 q69 = 6 := by rw [eS121]; exact g109
              have g126 : hK S121 b19 = 6 := by rw [eS121]; exact g110
              have g127 : hK S121 x0 = 11 := by rw [eS121]; exact g111
              refine g_aload C dX10_pack_111 0 rfl ?_
              refine gc_getI C iwx_X5 w123 g125 (by decide) (by decide) rfl 4 (by decide) (hW kw_1093) rfl rfl rfl dX10_pack_113 ?_
              exact gx_iret C w122 w123 w124 hr dX10_pack_116 h
            · replace h := h.2 z54
              obtain ⟨g128, h⟩ := h
              exact gx_throw (cls := "java/lang/IllegalStateException") (names := ["java/lang/RuntimeException", "java/lang/Exception"]) C E hst w13 w51 w18 (Nat.le_refl _) (Nat.le_refl _) (by decide) (by decide) (hW kw_480) (hW kw_17) (th_FreightRater_78 hW E) tv_FreightRater_78 dX10_pack_66 dX10_pack_69 dX10_pack_70 dX10_pack_73 htab (Nat.le_of_ble_eq_true rfl) (Nat.le_of_ble_eq_true rfl) g128.1 g128.2 h
        · replace h := h.2 z43
          obtain ⟨g129, h⟩ := h
          exact gx_throw (cls := "java/lang/IllegalArgumentException") (names := ["java/lang/RuntimeException", "java/lang/Exception"]) C E hst w13 w42 w18 (Nat.le_refl _) (Nat.le_refl _) (by decide) (by decide) (hW kw_310) (hW kw_13) (th_FreightRater_62 hW E) tv_FreightRater_62 dX10_pack_41 dX10_pack_44 dX10_pack_45 dX10_pack_48 htab (Nat.le_of_ble_eq_true rfl) (Nat.le_of_ble_eq_true rfl) g129.1 g129.2 h
theorem c_X10_pack (l : Launch) (hst : l.stackTraces = false) (D : va_G) (T : Nat → ClassId) (x0 : Nat) (p0 : Int32) (p1 : Int32) (p2 : Int32) (p3 : Int32) (p4 : Int32) (S : HS) (mc ms : Nat) (hx0 : hK S x0 = 11) (P : Int32 → HS → Prop) (X : String → HS → Prop) (h : wp_X10_pack P X x0 p0 p1 p2 p3 p4 S mc ms) : CXi l yX10_pack (ws_X10_pack) rm_X10_pack D T [.ref x0, .int p0, .int p1, .int p2, .int p3, .int p4] S mc ms P X := gx_meti (by decide) rfl rfl (Nat.le_of_ble_eq_true rfl) (fun p e s m args below meth c A L C E hnm hr htab hw hL => t_X10_pack C E hst htab hr P X x0 p0 p1 p2 p3 p4 S S mc ms L rfl hw hL hx0 h)
theorem FxO.nM {S : HS} {a : Nat → Nat} (h : FxO S a) {q : Nat} (h0 : hK S q = 0) : ¬ fxM a q := fun ⟨i, hi, e⟩ => h.k hi (by rw [← e]; exact h0)
theorem FxO.xM {S S1 : HS} {a : Nat → Nat} (h : FxO S a) (he : ext S S1) : ∀ b, fxM a b → hK S1 b ≠ 0 := fun b ⟨i, hi, e⟩ => by
  rw [e, (he _ (h.k hi)).1]
  exact h.k hi
theorem ext_0 {S S1 : HS} (he : ext S S1) {b : Nat} (h : hK S1 b = 0) : hK S b = 0 := by
  by_cases c : hK S b = 0
  · exact c
  · exact absurd ((he b c).1.symm.trans h) c
theorem vp_iv {p : Int32} {N : Nat} (h : p = nI (iv p)) (hN : iv p < N) (h2 : N < 2 ^ 31) : vp_in p N := by
  have := vp_of (j := iv p) (N := N) (by omega) hN
  rw [← h] at this
  exact this
theorem k_X10_pack (l : Launch) (hst : l.stackTraces = false) (D : va_G) (T : Nat → ClassId) (x0 : Nat) (p0 : Int32) (p1 : Int32) (p2 : Int32) (p3 : Int32) (p4 : Int32) (S : HS) (e0 : (Nat → Nat)) (e1 : (Nat → Nat → Int32)) (e2 : (Nat → Int32)) (e3 : (Nat → Int32)) (e4 : (List Int32)) (mc ms : Nat) (hx0 : hK S x0 = 11) (h : FrS S e0 e1 e2 e3 e4 ∧ x0 = e0 50 ∧ 200 ≤ mc ∧ 2000 ≤ ms) : CXi l yX10_pack (ws_X10_pack) rm_X10_pack D T [.ref x0, .int p0, .int p1, .int p2, .int p3, .int p4] S mc ms (fun v S1 => (pakC (e1 0) p0 p1 p2 p3 p4 = 0 ∧ v = e1 0 (14 + 26 * iv p0 + 4) + 1 ∧ FrS S1 e0 (fun t => if t = 0 then pakF (e1 0) (iv p0) p1 p2 p3 p4 else rmU e1 e2 t) (rmG e2) e3 e4)) (fun E9 S1 => ((pakC (e1 0) p0 p1 p2 p3 p4 = 1 ∧ E9 = "java/lang/IndexOutOfBoundsException") ∨ (pakC (e1 0) p0 p1 p2 p3 p4 = 2 ∧ E9 = "java/lang/IllegalArgumentException") ∨ (pakC (e1 0) p0 p1 p2 p3 p4 = 3 ∧ E9 = "java/lang/IllegalStateException")) ∧ FrS S1 e0 e1 e2 e3 e4) := c_X10_pack l hst D T x0 p0 p1 p2 p3 p4 S mc ms hx0 _ _ <|
  (by
    obtain ⟨h, e, hmc, hms⟩ := h
    unfold wp_X10_pack
    refine ⟨1, 6, ⟨by omega, by omega⟩, e0, e1, e2, e3, e4, ⟨h, e, Nat.le_refl _, Nat.le_refl _⟩, fun E9 S9 _ h9 => ?_, fun o S10 _ _ h10 => ?_⟩
    · obtain ⟨c, eE, eS⟩ := h9
      subst eS
      exact ⟨Or.inl ⟨by unfold pakC; rw [if_pos c], eE⟩, h⟩
    obtain ⟨eS, c, y, ey, hy⟩ := h10
    subst eS e
    refine ⟨y, ey, fun _ => ?_⟩
    obtain ⟨hs10, hsn, es⟩ := zs h.now.1 c
    obtain ⟨n, hn, en⟩ := h.now.1.pcs hs10
    refine ⟨fun c2 => ⟨⟨by omega, by omega⟩, Or.inr (Or.inl ⟨by unfold pakC; rw [if_neg c, if_pos c2], rfl⟩), h⟩, fun c2 => ⟨fun c3' => ⟨⟨by omega, by omega⟩, Or.inr (Or.inl ⟨by unfold pakC; rw [if_neg c, if_neg c2, if_pos c3'], rfl⟩), h⟩, fun c3' => ⟨fun c4 => ⟨⟨by omega, by omega⟩, Or.inr (Or.inl ⟨by unfold pakC; rw [if_neg c, if_neg c2, if_neg c3', if_pos c4], rfl⟩), h⟩, fun c4 => ⟨fun c5 => ?_, fun c5 => ⟨⟨by omega, by omega⟩, Or.inr (Or.inl ⟨by unfold pakC; rw [if_neg c, if_neg c2, if_neg c3', if_neg c4, if_pos c5], rfl⟩), h⟩⟩⟩⟩⟩
    refine ⟨fxM e0, e1 0, iv p0, ⟨h.now.1, hs10, hy⟩, fun c6 => ⟨⟨by omega, by omega⟩, Or.inr (Or.inr ⟨by unfold pakC; rw [if_neg c, if_neg c2, if_neg c3', if_neg c4, if_neg c5, if_pos c6], rfl⟩), h⟩, fun c6 => ?_⟩
    have eC : pakC (e1 0) p0 p1 p2 p3 p4 = if n = 5 then 3 else 0 := by
      unfold pakC
      rw [if_neg c, if_neg c2, if_neg c3', if_neg c4, if_neg c5, if_neg (fun z => z c6), en]
      exact ite_congr (propext (nI_eq (b := 5) (by omega) (by decide))) (fun _ => rfl) (fun _ => rfl)
    rw [hy.2.2.2.2.2.2.1.trans en, show (nI n < (5 : Int32)) = (n < 5) from propext (nI_ltI (b := 5) (by omega) (by decide))]
    refine ⟨fun c7 => ⟨e0, e1, e2, e3, e4, ⟨h, rfl⟩, fun S61 he61 h61 => ?_⟩, fun c7 => ⟨⟨by omega, by omega⟩, Or.inr (Or.inr ⟨by rw [eC, if_pos (by omega)], rfl⟩), h⟩⟩
    obtain ⟨H61, f61, k61, r61, s61⟩ := h61
    refine ⟨⟨by omega, by omega⟩, fun q q0 qz S77 e77 => ?_⟩
    have f77 : frM S61 S77 (fun _ => False) := by rw [e77]; exact frM.rf.nO ext_rf q0 6
    have x77 : ext S61 S77 := by rw [e77]; exact ext_newO ext_rf q0 6
    have y61 := hy.fm f61
    have y77 := y61.fm (f77.sub (fun _ z => z.elim))
    have yq : y ≠ q := fun z => by have := y61.1; rw [z, q0] at this; exact absurd this (by decide)
    refine ⟨1, 5, ⟨by omega, by omega⟩, fxM e0, e1 0, iv p0, ⟨y77, yq, H61.1.nM q0, H61.1.xM x77, Nat.le_refl _, Nat.le_refl _⟩, fun S91 he91 h91 => ?_⟩
    obtain ⟨f91, R91, w, rw91, w0⟩ := h91
    have f91' : frM S61 S91 (fun _ => False) := f77.nw f91 (fun b hb z => hb (by rw [z]; exact q0))
    refine ⟨fxM e0, e1 0, iv p0, ⟨R91, n, c7, en⟩, fun S104 he104 h104 => ?_⟩
    obtain ⟨f104, R104, k104, n104, r104⟩ := h104
    have f104' : frM S61 S104 (fun _ => False) := f91'.nw f104 (fun b hb z => by
      rcases z with z | z
      · exact hb (by rw [z]; exact q0)
      · have : b = w := Option.some.inj (z.symm.trans rw91)
        exact hb (by rw [this]; exact ext_0 x77 w0))
    have H104 := H61.nw (ext_tr x77 (ext_tr he91 he104)) f104'
    refine ⟨e0 0, H104.r0, fun _ => ⟨e0 2, H104.s2, fun _ => ?_⟩⟩
    rw [H104.n2]
    refine ⟨vp_iv es hs10 (by decide), fun S121 e121 => ?_⟩
    subst e121
    obtain ⟨d1, d2, d3, _⟩ := pak_c (a := p1) (b := p2) (c := p3) (w := p4) en c7
    refine ⟨by rw [eC, if_neg (by omega)], ?_, H104.ps (s := iv p0) hs10 R104 (fun k hk => by rw [rmU_0]; exact d1 k hk) (pak_gw (h.2.1 0 (by omega)).1 hs10 en c7 c2 c3' c4 c5)⟩
    rw [px_IB, R104.2.2.2.2.2.2.1, d3, en, nI_1])
abbrev ws_X10_route : List Cond := Cond.code yX10_route cX10_route 6 (some .int) :: W0
abbrev rm_X10_route : Room := ({ frames := 7, cells := 0, slots := 0, locals := 122 } : Room)
def wp_X10_route (P : Int32 → HS → Prop) (X : String → HS → Prop) (x0 : Nat) (p0 : Int32) (p1 : Int32) (p2 : Int32) (S : HS) (mc ms : Nat) : Prop := ∃ cc1 cc2 : Nat, (cc1 ≤ mc ∧ cc2 ≤ ms) ∧ (∃ (m4 : (Nat → Nat)) (m5 : (Nat → Nat → Int32)) (m6 : (Nat → Int32)) (m7 : (Nat → Int32)) (m8 : (List Int32)), ((FrS S m4 m5 m6 m7 m8 ∧ x0 = m4 50 ∧ 1 ≤ cc1 ∧ 6 ≤ cc2) ∧ ((∀ (E9 : String) (S9 : HS), ext S S9 → (zin p0 0 (m5 0 1 - 1) = 0 ∧ E9 = "java/lang/IndexOutOfBoundsException" ∧ S9 = S) → X E9 S9) ∧ (∀ (o15 : Option Nat) (S10 : HS), ext S S10 → (∀ b, o15 = some b → hK S10 b = 6) → (S10 = S ∧ ¬ zin p0 0 (m5 0 1 - 1) = 0 ∧ ∃ y, o15 = some y ∧ RelS S (fxM m4) y (m5 0) (iv p0)) → (∃ b19 : Nat, o15 = some b19 ∧ (hK S10 b19 = 6 → ((¬ (andF (zin p1 0 999) (zin p2 0 999)) = 0 → (∃ (m26 : (Nat → Prop)) (m27 : Nat → Int32) (m28 : Nat), ((WF m27 ∧ m28 < 10 ∧ RelS S10 m26 b19 m27 m28) ∧ (((psF m27 m28) = 0 → (∃ (m35 : (Nat → Nat)) (m36 : (Nat → Nat → Int32)) (m37 : (Nat → Int32)) (m38 : (Nat → Int32)) (m39 : (List Int32)), ((FrS S10 m35 m36 m37 m38 m39 ∧ x0 = m35 50) ∧ (∀ (S41 : HS), ext S10 S41 → (FrS S41 m35 (rmU m36 m37) (rmG m37) m38 m39 ∧ frM S10 S41 (fxM m35) ∧ hK S41 = hK S10 ∧ hR S41 = hR S10 ∧ (∀ i, 54 ≤ i → i < 64 → sam S10 S41 (m35 i))) → ((1 ≤ (mc - cc1) ∧ 9 ≤ (ms - cc2)) ∧ (∀ q49 : Nat, hK S41 q49 = 0 → zr S41 q49 → (∀ S57 : HS, S57 = newO S41 q49 6 → (∃ cc64 cc65 : Nat, (cc64 ≤ ((mc - cc1) - 1) ∧ cc65 ≤ ((ms - cc2) - 9)) ∧ (∃ (m67 : (Nat → Prop)) (m68 : Nat → Int32) (m69 : Nat), ((RelS S57 m67 b19 m68 m69 ∧ b19 ≠ q49 ∧ ¬ m67 q49 ∧ (∀ b, m67 b → hK S57 b ≠ 0) ∧ 1 ≤ cc64 ∧ 5 ≤ cc65) ∧ (∀ (S71 : HS), ext S57 S71 → (frM S57 S71 (fun b => b = q49) ∧ RelS S71 m67 q49 m68 m69 ∧ ∃ b, hR S71 125 q49 = some b ∧ hK S57 b = 0) → (∀ S81 : HS, S81 = putI S71 120 q49 p1 → (∀ S89 : HS, S89 = putI S81 121 q49 p2 → (∃ b97 : Nat, hR S89 220 x0 = some b97 ∧ (hK S89 b97 = 7 → (∃ b100 : Nat, hR S89 142 b97 = some b100 ∧ (hK S89 b100 = 27 → (vp_in p0 (hN S89 b100) ∧ (∀ S104 : HS, S104 = putB S89 b100 (Int32.toNatClampNeg p0) (some q49) → (P (hI S104 120 b19) S104)))))))))))))))))))) ∧ (¬ (psF m27 m28) = 0 → ((1 ≤ (mc - cc1) ∧ 6 ≤ (ms - cc2)) ∧ X "java/lang/IllegalStateException" S10)))))) ∧ ((andF (zin p1 0 999) (zin p2 0 999)) = 0 → ((1 ≤ (mc - cc1) ∧ 6 ≤ (ms - cc2)) ∧ X "java/lang/IllegalArgumentException" S10)))))))))
set_option maxRecDepth 100000 in
set_option maxHeartbeats 4000000 in
theorem t_X10_route {p : Program} {l : Launch} {e : Env} {s : State} {m : MethodId} {args : Array Value} {below : List Frame} {meth : Method} {c : Code} {D : va_G} {A : Nat → Prop} {T : Nat → ClassId} (C : GC p s m args meth c cX10_route "FreightRater" (ws_X10_route) 6 D A (zty T)) (E : GE T A s) (hst : l.stackTraces = false) (htab : ∀ z ∈ c.exceptionTable.toList, False) (hr : meth.sig.returnType = (some .int)) (P : Int32 → HS → Prop) (X : String → HS → Prop) : ∀ (x0 : Nat) (p0 : Int32) (p1 : Int32) (p2 : Int32) (S0 S : HS) (mc ms : Nat) (L : List Nat), S0 = S → wt S → hL S L → (hK S x0 = 11) → wp_X10_route P X x0 p0 p1 p2 S mc ms → GW p l e { rm_X10_route with cells := mc, slots := ms } s m args below meth c D A 6 mc ms (vx_MQ below (va_Qi (fun v (u : HS × List Nat) => P v u.1 ∧ CO S0 u) (CE D T A) A) (CXX D T A S0 X) args s mc ms A) (CW T S L) mc ms 0 [(0, .ref x0), (1, .int p0), (2, .int p1), (3, .int p2)] [] := by
  have hW : ∀ {w : Cond}, w ∈ W0 → w.before args s = true := fun h => C.2.2.2.2.1 _ (List.mem_cons_of_mem _ h)
  intro x0 p0 p1 p2 S0 S mc ms L hS0 hw hL hx0 h
  have he : ext S0 S := by rw [hS0]; exact ext_rf
  unfold wp_X10_route at h
  refine g_aload_n C dX10_route_0 rfl 0 rfl ?_
  refine g_iload_n C dX10_route_1 rfl 1 rfl ?_
  obtain ⟨cc1, cc2, g3, h⟩ := h
  obtain ⟨m4, m5, m6, m7, m8, h⟩ := h
  obtain ⟨g9, h⟩ := h
  obtain ⟨g16, h⟩ := h
  refine gx_callqV (host := "") C E hw hL hx0 (by decide) (by decide) rfl [.int p0] rfl (k_X10_requireShipment l hst D T x0 p0 S m4 m5 m6 m7 m8 cc1 cc2 hx0 g9) (w0_V 1 C.2.2.2.2.1 kw_1134 kw_1136 ks_25 kw_1 kw_1137 rfl rfl (by decide +kernel) ⟨Nat.le_of_ble_eq_true rfl, Nat.le_of_ble_eq_true rfl⟩) rfl (Nat.le_of_ble_eq_true rfl) (Nat.le_refl _) (Nat.le_refl _) g3.1 g3.2 dX10_route_2 he htab g16 (fun o15 S10 L11 e12 w13 w14 ko15 hp => ?_)
  replace h := h o15 S10 e12 ko15 hp
  have g17 := ext_K e12 hx0 (by decide)
  have w18 := ext_tr he e12
  obtain ⟨b19, rfl, h⟩ := h
  have g20 : hK S10 b19 = 6 := ko15 b19 rfl
  replace h := h g20
  refine g_astore (lv' := [(4, .ref b19), (0, .ref x0), (1, .int p0), (2, .int p1), (3, .int p2)]) C dX10_route_5 (by decide) rfl ?_
  refine g_iload_n C dX10_route_7 rfl 3 rfl ?_
  refine g_iload_n C dX10_route_8 rfl 4 rfl ?_
  refine gc_calliS (host := "") C E w13 w14 [.int p1, .int p2] rfl (k_X10_isRoute l D T p1 p2 S10 ) (w0_S 2 C.2.2.2.2.1 kw_1070 kw_1071 kw_1 kw_1072 rfl rfl (by decide +kernel) ⟨Nat.le_of_ble_eq_true rfl, Nat.le_of_ble_eq_true rfl⟩) rfl (Nat.le_of_ble_eq_true rfl) (Nat.le_refl _) (Nat.le_refl _) (Nat.zero_le _) (Nat.zero_le _) dX10_route_9 (fun v9 S9 L21 he9 hw9 hL9 hp => ?_)
  obtain ⟨hv9, hs9⟩ := hp
  replace hs9 := hs9.symm
  subst hs9
  replace hv9 := hv9.symm
  subst hv9
  have w24 := hL9
  refine g_if_ne (tgt := 23) C dX10_route_12 (by decide) (fun z25 => ?_) (fun z25 => ?_)
  · replace h := h.1 z25
    refine g_aload C dX10_route_23 0 rfl ?_
    obtain ⟨m26, m27, m28, h⟩ := h
    obtain ⟨g29, h⟩ := h
    refine gc_calliV (host := "") C E w13 w24 g20 (by decide) (by decide) rfl [] rfl (k_X5_isPosted l D T b19 S10 m26 m27 m28 g20 g29) (w0_V 0 C.2.2.2.2.1 kw_1145 kw_1146 kw_1147 kw_35 kw_1148 rfl rfl (by decide +kernel) ⟨Nat.le_of_ble_eq_true rfl, Nat.le_of_ble_eq_true rfl⟩) rfl (Nat.le_of_ble_eq_true rfl) (Nat.le_refl _) (Nat.le_refl _) (Nat.zero_le _) (Nat.zero_le _) dX10_route_25 (fun v9 S9 L30 he9 hw9 hL9 hp => ?_)
    obtain ⟨hv9, hs9⟩ := hp
    replace hs9 := hs9.symm
    subst hs9
    replace hv9 := hv9.symm
    subst hv9
    have w33 := hL9
    refine g_if_eq (tgt := 39) C dX10_route_28 (by decide) (fun z34 => ?_) (fun z34 => ?_)
    · replace h := h.1 z34
      refine g_aload_n C dX10_route_39 rfl 1 rfl ?_
      obtain ⟨m35, m36, m37, m38, m39, h⟩ := h
      obtain ⟨g40, h⟩ := h
      refine gc_callvV (host := "") C E w13 w33 g17 (by decide) (by decide) rfl [] rfl (k_X10_remember l D T x0 S10 m35 m36 m37 m38 m39 g17 g40) (w0_V 0 C.2.2.2.2.1 kw_495 kw_497 ks_1 kw_1 kw_498 rfl rfl (by decide +kernel) ⟨Nat.le_of_ble_eq_true rfl, Nat.le_of_ble_eq_true rfl⟩) rfl (Nat.le_of_ble_eq_true rfl) (Nat.le_refl _) (Nat.le_refl _) (Nat.zero_le _) (Nat.zero_le _) dX10_route_40 (fun S41 L42 e43 w44 w45 hp => ?_)
      replace h := h S41 e43 hp
      have g46 := ext_K e43 g20 (by decide)
      have g47 := ext_K e43 g17 (by decide)
      have w48 := ext_tr w18 e43
      obtain ⟨g50, h⟩ := h
      refine gc_new (kd := 6) (N := 9) C E w44 w45 (Nat.le_refl _) (Nat.le_refl _) iwx_X5 tyX5 tyX5_ok (by decide) (by decide) rfl (fun j hj => by rcases (show j = 0 ∨ j = 1 ∨ j = 2 ∨ j = 3 ∨ j = 4 ∨ j = 5 ∨ j = 6 ∨ j = 7 ∨ j = 8 by omega) with rfl | rfl | rfl | rfl | rfl | rfl | rfl | rfl | rfl <;> rfl) (hW kw_1073) (hW kw_1074) (hW kw_35) g50.1 g50.2 dX10_route_43 (fun q49 h0q49 zq49 => ?_)
      replace h := h q49 h0q49 zq49
      have g51 := newO_old 6 g46 (by decide) h0q49
      have g52 := newO_old 6 g47 (by decide) h0q49
      have w53 := wt_newO w44 6 h0q49 (by decide)
      have w54 := hL_new (S' := newO S41 q49 6) w45 (show 6 ≠ 0 by decide) rfl
      have w55 := ext_newO w48 h0q49 6
      have g56 := newO_self S41 q49 6
      refine gc_nS (fun S57 eS57 => ?_)
      replace h := h S57 eS57
      have w58 : wt S57 := by rw [eS57]; exact w53
      have w59 : isL S57 (L42 ++ [q49]) := by rw [eS57]; exact w54
      have w60 : ext S0 S57 := by rw [eS57]; exact w55
      have g61 : hK S57 q49 = 6 := by rw [eS57]; exact g56
      have g62 : hK S57 b19 = 6 := by rw [eS57]; exact g51
      have g63 : hK S57 x0 = 11 := by rw [eS57]; exact g52
      refine g_dup C dX10_route_46 rfl ?_
      refine g_aload C dX10_route_47 0 rfl ?_
      obtain ⟨cc64, cc65, g66, h⟩ := h
      obtain ⟨m67, m68, m69, h⟩ := h
      obtain ⟨g70, h⟩ := h
      refine gc_callvI (host := "") (ret := none) C E w58 w59 [.ref b19] rfl (k_X5_init_ l D T q49 b19 S57 m67 m68 m69 cc64 cc65 g61 g62 g70) (w0_I 1 C.2.2.2.2.1 kw_1149 kw_1150 kw_35 kw_1151 rfl rfl rfl (by decide +kernel) ⟨Nat.le_of_ble_eq_true rfl, Nat.le_of_ble_eq_true rfl⟩) rfl (Nat.le_of_ble_eq_true rfl) (Nat.le_refl _) (Nat.le_refl _) g66.1 g66.2 dX10_route_49 (fun S71 L72 e73 w74 w75 hp => ?_)
      replace h := h S71 e73 hp
      have g76 := ext_K e73 g61 (by decide)
      have g77 := ext_K e73 g62 (by decide)
      have g78 := ext_K e73 g63 (by decide)
      have w79 := ext_tr w60 e73
      refine g_astore (lv' := [(5, .ref q49), (4, .ref b19), (0, .ref x0), (1, .int p0), (2, .int p1), (3, .int p2)]) C dX10_route_52 (by decide) rfl ?_
      refine g_aload C dX10_route_54 0 rfl ?_
      refine g_iload_n C dX10_route_56 rfl 4 rfl ?_
      refine gc_putI C iwx_X5 w75 g76 (by decide) (by decide) rfl 0 (by decide) (hW kw_1081) rfl tyX5 tyX5_ok nmX5 rfl rfl rfl rfl rfl dX10_route_57 ?_
      have w80 := wt_putI w74 120 p1 (k_ne g76 (by decide))
      refine gc_nS (fun S81 eS81 => ?_)
      replace h := h S81 eS81
      have w82 : wt S81 := by rw [eS81]; exact w80
      have w83 : isL S81 L72 := by rw [eS81]; exact w75
      have w84 : ext S0 S81 := by rw [eS81]; exact w79
      have g85 : hK S81 q49 = 6 := by rw [eS81]; exact g76
      have g86 : hK S81 b19 = 6 := by rw [eS81]; exact g77
      have g87 : hK S81 x0 = 11 := by rw [eS81]; exact g78
      refine g_aload C dX10_route_60 0 rfl ?_
      refine g_iload_n C dX10_route_62 rfl 5 rfl ?_
      refine gc_putI C iwx_X5 w83 g85 (by decide) (by decide) rfl 1 (by decide) (hW kw_1084) rfl tyX5 tyX5_ok nmX5 rfl rfl rfl rfl rfl dX10_route_63 ?_
      have w88 := wt_putI w82 121 p2 (k_ne g85 (by decide))
      refine gc_nS (fun S89 eS89 => ?_)
      replace h := h S89 eS89
      have w90 : wt S89 := by rw [eS89]; exact w88
      have w91 : isL S89 L72 := by rw [eS89]; exact w83
      have w92 : ext S0 S89 := by rw [eS89]; exact w84
      have g93 : hK S89 q49 = 6 := by rw [eS89]; exact g85
      have g94 : hK S89 b19 = 6 := by rw [eS89]; exact g86
      have g95 : hK S89 x0 = 11 := by rw [eS89]; exact g87
      refine g_aload_n C dX10_route_66 rfl 2 rfl ?_
      refine gc_getR C w90 iwx_X10 w91 g95 (by decide) (by decide) rfl 0 (by decide) (hW kw_242) rfl rfl rfl dX10_route_67 (fun o96 eo96 ko96 => ?_)
      obtain ⟨b97, hb9, h⟩ := h
      have g98 : hK S89 b97 = 7 := ko96 b97 (eo96.trans hb9)
      replace h := h g98
      refine g_opt (eo96.trans hb9) ?_
      refine gc_getR C w90 iwx_X6 w91 g98 (by decide) (by decide) rfl 2 (by decide) (hW kw_64) rfl rfl rfl dX10_route_70 (fun o99 eo99 ko99 => ?_)
      obtain ⟨b100, hb9, h⟩ := h
      have g101 : hK S89 b100 = 27 := ko99 b100 (eo99.trans hb9)
      replace h := h g101
      refine g_opt (eo99.trans hb9) ?_
      refine g_iload_n C dX10_route_73 rfl 3 rfl ?_
      refine g_aload C dX10_route_74 0 rfl ?_
      obtain ⟨g102, h⟩ := h
      refine gc_aast C w91 g101 (by decide) rfl g93 (by decide) (by decide) rfl g102 dX10_route_76 ?_
      have w103 := wt_putB w90 (Int32.toNatClampNeg p0) (some q49) (k_ne g101 (by decide)) (fun b hb => by cases hb; rw [show hK S89 b100 = 27 from g101]; exact g93)
      refine gc_nS (fun S104 eS104 => ?_)
      replace h := h S104 eS104
      have w105 : wt S104 := by rw [eS104]; exact w103
      have w106 : isL S104 L72 := by rw [eS104]; exact w91
      have w107 : ext S0 S104 := by rw [eS104]; exact w92
      have g108 : hK S104 q49 = 6 := by rw [eS104]; exact g93
      have g109 : hK S104 b19 = 6 := by rw [eS104]; exact g94
      have g110 : hK S104 x0 = 11 := by rw [eS104]; exact g95
      refine g_aload C dX10_route_77 1 rfl ?_
      refine gc_getI C iwx_X5 w106 g109 (by decide) (by decide) rfl 0 (by decide) (hW kw_1081) rfl rfl rfl dX10_route_79 ?_
      exact gx_iret C w105 w106 w107 hr dX10_route_82 h
    · replace h := h.2 z34
      obtain ⟨g111, h⟩ := h
      exact gx_throw (cls := "java/lang/IllegalStateException") (names := ["java/lang/RuntimeException", "java/lang/Exception"]) C E hst w13 w33 w18 (Nat.le_refl _) (Nat.le_refl _) (by decide) (by decide) (hW kw_480) (hW kw_17) (th_FreightRater_78 hW E) tv_FreightRater_78 dX10_route_31 dX10_route_34 dX10_route_35 dX10_route_38 htab (Nat.le_of_ble_eq_true rfl) (Nat.le_of_ble_eq_true rfl) g111.1 g111.2 h
  · replace h := h.2 z25
    obtain ⟨g112, h⟩ := h
    exact gx_throw (cls := "java/lang/IllegalArgumentException") (names := ["java/lang/RuntimeException", "java/lang/Exception"]) C E hst w13 w24 w18 (Nat.le_refl _) (Nat.le_refl _) (by decide) (by decide) (hW kw_310) (hW kw_13) (th_FreightRater_62 hW E) tv_FreightRater_62 dX10_route_15 dX10_route_18 dX10_route_19 dX10_route_22 htab (Nat.le_of_ble_eq_true rfl) (Nat.le_of_ble_eq_true rfl) g112.1 g112.2 h
theorem c_X10_route (l : Launch) (hst : l.stackTraces = false) (D : va_G) (T : Nat → ClassId) (x0 : Nat) (p0 : Int32) (p1 : Int32) (p2 : Int32) (S : HS) (mc ms : Nat) (hx0 : hK S x0 = 11) (P : Int32 → HS → Prop) (X : String → HS → Prop) (h : wp_X10_route P X x0 p0 p1 p2 S mc ms) : CXi l yX10_route (ws_X10_route) rm_X10_route D T [.ref x0, .int p0, .int p1, .int p2] S mc ms P X := gx_meti (by decide) rfl rfl (Nat.le_of_ble_eq_true rfl) (fun p e s m args below meth c A L C E hnm hr htab hw hL => t_X10_route C E hst htab hr P X x0 p0 p1 p2 S S mc ms L rfl hw hL hx0 h)
theorem k_X10_route (l : Launch) (hst : l.stackTraces = false) (D : va_G) (T : Nat → ClassId) (x0 : Nat) (p0 : Int32) (p1 : Int32) (p2 : Int32) (S : HS) (e0 : (Nat → Nat)) (e1 : (Nat → Nat → Int32)) (e2 : (Nat → Int32)) (e3 : (Nat → Int32)) (e4 : (List Int32)) (mc ms : Nat) (hx0 : hK S x0 = 11) (h : FrS S e0 e1 e2 e3 e4 ∧ x0 = e0 50 ∧ 200 ≤ mc ∧ 2000 ≤ ms) : CXi l yX10_route (ws_X10_route) rm_X10_route D T [.ref x0, .int p0, .int p1, .int p2] S mc ms (fun v S1 => (rouC (e1 0) p0 p1 p2 = 0 ∧ v = e1 0 (14 + 26 * iv p0) ∧ FrS S1 e0 (fun t => if t = 0 then rouF (e1 0) (iv p0) p1 p2 else rmU e1 e2 t) (rmG e2) e3 e4)) (fun E9 S1 => ((rouC (e1 0) p0 p1 p2 = 1 ∧ E9 = "java/lang/IndexOutOfBoundsException") ∨ (rouC (e1 0) p0 p1 p2 = 2 ∧ E9 = "java/lang/IllegalArgumentException") ∨ (rouC (e1 0) p0 p1 p2 = 3 ∧ E9 = "java/lang/IllegalStateException")) ∧ FrS S1 e0 e1 e2 e3 e4) := c_X10_route l hst D T x0 p0 p1 p2 S mc ms hx0 _ _ <|
  (by
    obtain ⟨h, e, hmc, hms⟩ := h
    unfold wp_X10_route
    refine ⟨1, 6, ⟨by omega, by omega⟩, e0, e1, e2, e3, e4, ⟨h, e, Nat.le_refl _, Nat.le_refl _⟩, fun E9 S9 _ h9 => ?_, fun o S10 _ _ h10 => ?_⟩
    · obtain ⟨c, eE, eS⟩ := h9
      subst eS
      exact ⟨Or.inl ⟨by unfold rouC; rw [if_pos c], eE⟩, h⟩
    obtain ⟨eS, c, y, ey, hy⟩ := h10
    subst eS e
    refine ⟨y, ey, fun _ => ?_⟩
    obtain ⟨hs10, hsn, es⟩ := zs h.now.1 c
    have h5 := h.now.1.pcs hs10
    refine ⟨fun ca => ?_, fun ca => ⟨⟨by omega, by omega⟩, Or.inr (Or.inl ⟨?_, rfl⟩), h⟩⟩
    rotate_left
    · unfold andF at ca
      unfold rouC
      rw [if_neg c]
      by_cases c1 : zin p1 0 999 = 0
      · rw [if_pos c1]
      · rw [if_neg c1] at ca ⊢
        by_cases c2 : zin p2 0 999 = 0
        · rw [if_pos c2]
        · rw [if_neg c2] at ca; exact absurd ca (by decide)
    have cc : ¬ zin p1 0 999 = 0 ∧ ¬ zin p2 0 999 = 0 := by
      unfold andF at ca
      by_cases c1 : zin p1 0 999 = 0
      · rw [if_pos c1] at ca; exact absurd rfl ca
      · rw [if_neg c1] at ca
        by_cases c2 : zin p2 0 999 = 0
        · rw [if_pos c2] at ca; exact absurd rfl ca
        · exact ⟨c1, c2⟩
    have eC : rouC (e1 0) p0 p1 p2 = if ¬ psF (e1 0) (iv p0) = 0 then 3 else 0 := by
      unfold rouC
      rw [if_neg c, if_neg cc.1, if_neg cc.2]
    refine ⟨fxM e0, e1 0, iv p0, ⟨h.now.1, hs10, hy⟩, fun c6 => ⟨e0, e1, e2, e3, e4, ⟨h, rfl⟩, fun S61 he61 h61 => ?_⟩, fun c6 => ⟨⟨by omega, by omega⟩, Or.inr (Or.inr ⟨by rw [eC, if_pos c6], rfl⟩), h⟩⟩
    obtain ⟨H61, f61, k61, r61, s61⟩ := h61
    refine ⟨⟨by omega, by omega⟩, fun q q0 qz S77 e77 => ?_⟩
    have f77 : frM S61 S77 (fun _ => False) := by rw [e77]; exact frM.rf.nO ext_rf q0 6
    have x77 : ext S61 S77 := by rw [e77]; exact ext_newO ext_rf q0 6
    have y61 := hy.fm f61
    have y77 := y61.fm (f77.sub (fun _ z => z.elim))
    have yq : y ≠ q := fun z => by have := y61.1; rw [z, q0] at this; exact absurd this (by decide)
    refine ⟨1, 5, ⟨by omega, by omega⟩, fxM e0, e1 0, iv p0, ⟨y77, yq, H61.1.nM q0, H61.1.xM x77, Nat.le_refl _, Nat.le_refl _⟩, fun S91 he91 h91 S97 e97 S104 e104 => ?_⟩
    obtain ⟨f91, R91, w, rw91, w0⟩ := h91
    have f91' : frM S61 S91 (fun _ => False) := f77.nw f91 (fun b hb z => hb (by rw [z]; exact q0))
    have f104 : frM S91 S104 (fun b => b = q) := by
      rw [e104, e97]
      exact (frM.pI (M := fun b => b = q) frM.rf rfl _ _).pI (M := fun b => b = q) rfl _ _
    have f104' : frM S61 S104 (fun _ => False) := f91'.nw f104 (fun b hb z => hb (by rw [z]; exact q0))
    have x104 : ext S91 S104 := by rw [e104, e97]; exact ext_rf
    have H104 := H61.nw (ext_tr x77 (ext_tr he91 x104)) f104'
    have R104 : RelS S104 (fxM e0) q (rouF (e1 0) (iv p0) p1 p2) (iv p0) := by
      refine R91.ch h5 (by rw [e104, e97, px_KI, px_KI]) (by rw [e104, e97, px_NI, px_NI]) (by rw [e104, e97, px_RI, px_RI]) (by rw [e104, e97, px_AI, px_AI]) (fun i h1 h2 _ _ => by rw [e104, e97, px_II, if_neg (fun z => h2 z.1), px_II, if_neg (fun z => h1 z.1)]) ?_ ?_ ?_ ?_ (fun k h1 h2 _ => by unfold rouF upd; rw [if_neg (by omega), if_neg (by omega)])
      · rw [e104, e97, px_II, if_neg (by omega), px_II, if_pos ⟨rfl, rfl⟩]
        unfold rouF upd
        rw [if_neg (by omega), if_pos rfl]
      · rw [e104, e97, px_II, if_pos ⟨rfl, rfl⟩]
        unfold rouF upd
        rw [if_pos rfl]
      · rw [e104, e97, px_II, if_neg (by omega), px_II, if_neg (by omega), R91.2.2.2.2.1]
        unfold rouF upd
        rw [if_neg (by omega), if_neg (by omega)]
      · rw [e104, e97, px_II, if_neg (by omega), px_II, if_neg (by omega), R91.2.2.2.2.2.2.2.2.2.1]
        unfold rouF upd
        rw [if_neg (by omega), if_neg (by omega)]
    refine ⟨e0 0, H104.r0, fun _ => ⟨e0 2, H104.s2, fun _ => ?_⟩⟩
    rw [H104.n2]
    refine ⟨vp_iv es hs10 (by decide), fun S121 e121 => ?_⟩
    subst e121
    refine ⟨by rw [eC, if_neg (fun z => z c6)], ?_, H104.ps (s := iv p0) hs10 R104 (fun k hk => by rw [rmU_0]; unfold rouF upd; rw [if_neg (by omega), if_neg (by omega)]) (rou_gw (h.2.1 0 (by omega)).1 hs10)⟩
    rw [px_IB, (f104' y (fun z => z) (nz_of y61.1 (by decide))).2.2.1 120]
    exact y61.2.2.1)
abbrev ws_X10_handle : List Cond := Cond.code yX10_handle cX10_handle 5 (some .int) :: W0
abbrev rm_X10_handle : Room := ({ frames := 7, cells := 0, slots := 0, locals := 122 } : Room)
def wp_X10_handle (P : Int32 → HS → Prop) (X : String → HS → Prop) (x0 : Nat) (p0 : Int32) (p1 : Int32) (S : HS) (mc ms : Nat) : Prop := ∃ cc1 cc2 : Nat, (cc1 ≤ mc ∧ cc2 ≤ ms) ∧ (∃ (m4 : (Nat → Nat)) (m5 : (Nat → Nat → Int32)) (m6 : (Nat → Int32)) (m7 : (Nat → Int32)) (m8 : (List Int32)), ((FrS S m4 m5 m6 m7 m8 ∧ x0 = m4 50 ∧ 1 ≤ cc1 ∧ 6 ≤ cc2) ∧ ((∀ (E9 : String) (S9 : HS), ext S S9 → (zin p0 0 (m5 0 1 - 1) = 0 ∧ E9 = "java/lang/IndexOutOfBoundsException" ∧ S9 = S) → X E9 S9) ∧ (∀ (o15 : Option Nat) (S10 : HS), ext S S10 → (∀ b, o15 = some b → hK S10 b = 6) → (S10 = S ∧ ¬ zin p0 0 (m5 0 1 - 1) = 0 ∧ ∃ y, o15 = some y ∧ RelS S (fxM m4) y (m5 0) (iv p0)) → (∃ b19 : Nat, o15 = some b19 ∧ (hK S10 b19 = 6 → ((¬ (zin p1 0 255) = 0 → (∃ (m26 : (Nat → Prop)) (m27 : Nat → Int32) (m28 : Nat), ((WF m27 ∧ m28 < 10 ∧ RelS S10 m26 b19 m27 m28) ∧ (((psF m27 m28) = 0 → (∃ (m35 : (Nat → Nat)) (m36 : (Nat → Nat → Int32)) (m37 : (Nat → Int32)) (m38 : (Nat → Int32)) (m39 : (List Int32)), ((FrS S10 m35 m36 m37 m38 m39 ∧ x0 = m35 50) ∧ (∀ (S41 : HS), ext S10 S41 → (FrS S41 m35 (rmU m36 m37) (rmG m37) m38 m39 ∧ frM S10 S41 (fxM m35) ∧ hK S41 = hK S10 ∧ hR S41 = hR S10 ∧ (∀ i, 54 ≤ i → i < 64 → sam S10 S41 (m35 i))) → ((1 ≤ (mc - cc1) ∧ 9 ≤ (ms - cc2)) ∧ (∀ q49 : Nat, hK S41 q49 = 0 → zr S41 q49 → (∀ S57 : HS, S57 = newO S41 q49 6 → (∃ cc64 cc65 : Nat, (cc64 ≤ ((mc - cc1) - 1) ∧ cc65 ≤ ((ms - cc2) - 9)) ∧ (∃ (m67 : (Nat → Prop)) (m68 : Nat → Int32) (m69 : Nat), ((RelS S57 m67 b19 m68 m69 ∧ b19 ≠ q49 ∧ ¬ m67 q49 ∧ (∀ b, m67 b → hK S57 b ≠ 0) ∧ 1 ≤ cc64 ∧ 5 ≤ cc65) ∧ (∀ (S71 : HS), ext S57 S71 → (frM S57 S71 (fun b => b = q49) ∧ RelS S71 m67 q49 m68 m69 ∧ ∃ b, hR S71 125 q49 = some b ∧ hK S57 b = 0) → (∀ S81 : HS, S81 = putI S71 122 q49 p1 → (∃ b89 : Nat, hR S81 220 x0 = some b89 ∧ (hK S81 b89 = 7 → (∃ b92 : Nat, hR S81 142 b89 = some b92 ∧ (hK S81 b92 = 27 → (vp_in p0 (hN S81 b92) ∧ (∀ S96 : HS, S96 = putB S81 b92 (Int32.toNatClampNeg p0) (some q49) → (P (hI S96 122 b19) S96))))))))))))))))))) ∧ (¬ (psF m27 m28) = 0 → ((1 ≤ (mc - cc1) ∧ 6 ≤ (ms - cc2)) ∧ X "java/lang/IllegalStateException" S10)))))) ∧ ((zin p1 0 255) = 0 → ((1 ≤ (mc - cc1) ∧ 6 ≤ (ms - cc2)) ∧ X "java/lang/IllegalArgumentException" S10)))))))))
set_option maxRecDepth 100000 in
set_option maxHeartbeats 4000000 in
theorem t_X10_handle {p : Program} {l : Launch} {e : Env} {s : State} {m : MethodId} {args : Array Value} {below : List Frame} {meth : Method} {c : Code} {D : va_G} {A : Nat → Prop} {T : Nat → ClassId} (C : GC p s m args meth c cX10_handle "FreightRater" (ws_X10_handle) 5 D A (zty T)) (E : GE T A s) (hst : l.stackTraces = false) (htab : ∀ z ∈ c.exceptionTable.toList, False) (hr : meth.sig.returnType = (some .int)) (P : Int32 → HS → Prop) (X : String → HS → Prop) : ∀ (x0 : Nat) (p0 : Int32) (p1 : Int32) (S0 S : HS) (mc ms : Nat) (L : List Nat), S0 = S → wt S → hL S L → (hK S x0 = 11) → wp_X10_handle P X x0 p0 p1 S mc ms → GW p l e { rm_X10_handle with cells := mc, slots := ms } s m args below meth c D A 5 mc ms (vx_MQ below (va_Qi (fun v (u : HS × List Nat) => P v u.1 ∧ CO S0 u) (CE D T A) A) (CXX D T A S0 X) args s mc ms A) (CW T S L) mc ms 0 [(0, .ref x0), (1, .int p0), (2, .int p1)] [] := by
  have hW : ∀ {w : Cond}, w ∈ W0 → w.before args s = true := fun h => C.2.2.2.2.1 _ (List.mem_cons_of_mem _ h)
  intro x0 p0 p1 S0 S mc ms L hS0 hw hL hx0 h
  have he : ext S0 S := by rw [hS0]; exact ext_rf
  unfold wp_X10_handle at h
  refine g_aload_n C dX10_handle_0 rfl 0 rfl ?_
  refine g_iload_n C dX10_handle_1 rfl 1 rfl ?_
  obtain ⟨cc1, cc2, g3, h⟩ := h
  obtain ⟨m4, m5, m6, m7, m8, h⟩ := h
  obtain ⟨g9, h⟩ := h
  obtain ⟨g16, h⟩ := h
  refine gx_callqV (host := "") C E hw hL hx0 (by decide) (by decide) rfl [.int p0] rfl (k_X10_requireShipment l hst D T x0 p0 S m4 m5 m6 m7 m8 cc1 cc2 hx0 g9) (w0_V 1 C.2.2.2.2.1 kw_1134 kw_1136 ks_25 kw_1 kw_1137 rfl rfl (by decide +kernel) ⟨Nat.le_of_ble_eq_true rfl, Nat.le_of_ble_eq_true rfl⟩) rfl (Nat.le_of_ble_eq_true rfl) (Nat.le_refl _) (Nat.le_refl _) g3.1 g3.2 dX10_handle_2 he htab g16 (fun o15 S10 L11 e12 w13 w14 ko15 hp => ?_)
  replace h := h o15 S10 e12 ko15 hp
  have g17 := ext_K e12 hx0 (by decide)
  have w18 := ext_tr he e12
  obtain ⟨b19, rfl, h⟩ := h
  have g20 : hK S10 b19 = 6 := ko15 b19 rfl
  replace h := h g20
  refine g_astore_n (lv' := [(3, .ref b19), (0, .ref x0), (1, .int p0), (2, .int p1)]) C dX10_handle_5 rfl (by decide) rfl ?_
  refine g_iload_n C dX10_handle_6 rfl 3 rfl ?_
  refine g_iconst (v := 0) C dX10_handle_7 (by decide) ?_
  refine g_sipush (v := 255) C dX10_handle_8 (by decide) ?_
  refine gc_calliS (host := "") C E w13 w14 [.int p1, .int 0, .int 255] rfl (k_X10_isBetween l D T p1 0 255 S10 ) (w0_S 3 C.2.2.2.2.1 kw_303 kw_304 kw_1 kw_305 rfl rfl (by decide +kernel) ⟨Nat.le_of_ble_eq_true rfl, Nat.le_of_ble_eq_true rfl⟩) rfl (Nat.le_of_ble_eq_true rfl) (Nat.le_refl _) (Nat.le_refl _) (Nat.zero_le _) (Nat.zero_le _) dX10_handle_11 (fun v9 S9 L21 he9 hw9 hL9 hp => ?_)
  obtain ⟨hv9, hs9⟩ := hp
  replace hs9 := hs9.symm
  subst hs9
  replace hv9 := hv9.symm
  subst hv9
  have w24 := hL9
  refine g_if_ne (tgt := 25) C dX10_handle_14 (by decide) (fun z25 => ?_) (fun z25 => ?_)
  · replace h := h.1 z25
    refine g_aload_n C dX10_handle_25 rfl 0 rfl ?_
    obtain ⟨m26, m27, m28, h⟩ := h
    obtain ⟨g29, h⟩ := h
    refine gc_calliV (host := "") C E w13 w24 g20 (by decide) (by decide) rfl [] rfl (k_X5_isPosted l D T b19 S10 m26 m27 m28 g20 g29) (w0_V 0 C.2.2.2.2.1 kw_1145 kw_1146 kw_1147 kw_35 kw_1148 rfl rfl (by decide +kernel) ⟨Nat.le_of_ble_eq_true rfl, Nat.le_of_ble_eq_true rfl⟩) rfl (Nat.le_of_ble_eq_true rfl) (Nat.le_refl _) (Nat.le_refl _) (Nat.zero_le _) (Nat.zero_le _) dX10_handle_26 (fun v9 S9 L30 he9 hw9 hL9 hp => ?_)
    obtain ⟨hv9, hs9⟩ := hp
    replace hs9 := hs9.symm
    subst hs9
    replace hv9 := hv9.symm
    subst hv9
    have w33 := hL9
    refine g_if_eq (tgt := 40) C dX10_handle_29 (by decide) (fun z34 => ?_) (fun z34 => ?_)
    · replace h := h.1 z34
      refine g_aload_n C dX10_handle_40 rfl 1 rfl ?_
      obtain ⟨m35, m36, m37, m38, m39, h⟩ := h
      obtain ⟨g40, h⟩ := h
      refine gc_callvV (host := "") C E w13 w33 g17 (by decide) (by decide) rfl [] rfl (k_X10_remember l D T x0 S10 m35 m36 m37 m38 m39 g17 g40) (w0_V 0 C.2.2.2.2.1 kw_495 kw_497 ks_1 kw_1 kw_498 rfl rfl (by decide +kernel) ⟨Nat.le_of_ble_eq_true rfl, Nat.le_of_ble_eq_true rfl⟩) rfl (Nat.le_of_ble_eq_true rfl) (Nat.le_refl _) (Nat.le_refl _) (Nat.zero_le _) (Nat.zero_le _) dX10_handle_41 (fun S41 L42 e43 w44 w45 hp => ?_)
      replace h := h S41 e43 hp
      have g46 := ext_K e43 g20 (by decide)
      have g47 := ext_K e43 g17 (by decide)
      have w48 := ext_tr w18 e43
      obtain ⟨g50, h⟩ := h
      refine gc_new (kd := 6) (N := 9) C E w44 w45 (Nat.le_refl _) (Nat.le_refl _) iwx_X5 tyX5 tyX5_ok (by decide) (by decide) rfl (fun j hj => by rcases (show j = 0 ∨ j = 1 ∨ j = 2 ∨ j = 3 ∨ j = 4 ∨ j = 5 ∨ j = 6 ∨ j = 7 ∨ j = 8 by omega) with rfl | rfl | rfl | rfl | rfl | rfl | rfl | rfl | rfl <;> rfl) (hW kw_1073) (hW kw_1074) (hW kw_35) g50.1 g50.2 dX10_handle_44 (fun q49 h0q49 zq49 => ?_)
      replace h := h q49 h0q49 zq49
      have g51 := newO_old 6 g46 (by decide) h0q49
      have g52 := newO_old 6 g47 (by decide) h0q49
      have w53 := wt_newO w44 6 h0q49 (by decide)
      have w54 := hL_new (S' := newO S41 q49 6) w45 (show 6 ≠ 0 by decide) rfl
      have w55 := ext_newO w48 h0q49 6
      have g56 := newO_self S41 q49 6
      refine gc_nS (fun S57 eS57 => ?_)
      replace h := h S57 eS57
      have w58 : wt S57 := by rw [eS57]; exact w53
      have w59 : isL S57 (L42 ++ [q49]) := by rw [eS57]; exact w54
      have w60 : ext S0 S57 := by rw [eS57]; exact w55
      have g61 : hK S57 q49 = 6 := by rw [eS57]; exact g56
      have g62 : hK S57 b19 = 6 := by rw [eS57]; exact g51
      have g63 : hK S57 x0 = 11 := by rw [eS57]; exact g52
      refine g_dup C dX10_handle_47 rfl ?_
      refine g_aload_n C dX10_handle_48 rfl 0 rfl ?_
      obtain ⟨cc64, cc65, g66, h⟩ := h
      obtain ⟨m67, m68, m69, h⟩ := h
      obtain ⟨g70, h⟩ := h
      refine gc_callvI (host := "") (ret := none) C E w58 w59 [.ref b19] rfl (k_X5_init_ l D T q49 b19 S57 m67 m68 m69 cc64 cc65 g61 g62 g70) (w0_I 1 C.2.2.2.2.1 kw_1149 kw_1150 kw_35 kw_1151 rfl rfl rfl (by decide +kernel) ⟨Nat.le_of_ble_eq_true rfl, Nat.le_of_ble_eq_true rfl⟩) rfl (Nat.le_of_ble_eq_true rfl) (Nat.le_refl _) (Nat.le_refl _) g66.1 g66.2 dX10_handle_49 (fun S71 L72 e73 w74 w75 hp => ?_)
      replace h := h S71 e73 hp
      have g76 := ext_K e73 g61 (by decide)
      have g77 := ext_K e73 g62 (by decide)
      have g78 := ext_K e73 g63 (by decide)
      have w79 := ext_tr w60 e73
      refine g_astore (lv' := [(4, .ref q49), (3, .ref b19), (0, .ref x0), (1, .int p0), (2, .int p1)]) C dX10_handle_52 (by decide) rfl ?_
      refine g_aload C dX10_handle_54 0 rfl ?_
      refine g_iload_n C dX10_handle_56 rfl 4 rfl ?_
      refine gc_putI C iwx_X5 w75 g76 (by decide) (by decide) rfl 2 (by decide) (hW kw_1087) rfl tyX5 tyX5_ok nmX5 rfl rfl rfl rfl rfl dX10_handle_57 ?_
      have w80 := wt_putI w74 122 p1 (k_ne g76 (by decide))
      refine gc_nS (fun S81 eS81 => ?_)
      replace h := h S81 eS81
      have w82 : wt S81 := by rw [eS81]; exact w80
      have w83 : isL S81 L72 := by rw [eS81]; exact w75
      have w84 : ext S0 S81 := by rw [eS81]; exact w79
      have g85 : hK S81 q49 = 6 := by rw [eS81]; exact g76
      have g86 : hK S81 b19 = 6 := by rw [eS81]; exact g77
      have g87 : hK S81 x0 = 11 := by rw [eS81]; exact g78
      refine g_aload_n C dX10_handle_60 rfl 2 rfl ?_
      refine gc_getR C w82 iwx_X10 w83 g87 (by decide) (by decide) rfl 0 (by decide) (hW kw_242) rfl rfl rfl dX10_handle_61 (fun o88 eo88 ko88 => ?_)
      obtain ⟨b89, hb9, h⟩ := h
      have g90 : hK S81 b89 = 7 := ko88 b89 (eo88.trans hb9)
      replace h := h g90
      refine g_opt (eo88.trans hb9) ?_
      refine gc_getR C w82 iwx_X6 w83 g90 (by decide) (by decide) rfl 2 (by decide) (hW kw_64) rfl rfl rfl dX10_handle_64 (fun o91 eo91 ko91 => ?_)
      obtain ⟨b92, hb9, h⟩ := h
      have g93 : hK S81 b92 = 27 := ko91 b92 (eo91.trans hb9)
      replace h := h g93
      refine g_opt (eo91.trans hb9) ?_
      refine g_iload_n C dX10_handle_67 rfl 3 rfl ?_
      refine g_aload C dX10_handle_68 0 rfl ?_
      obtain ⟨g94, h⟩ := h
      refine gc_aast C w83 g93 (by decide) rfl g85 (by decide) (by decide) rfl g94 dX10_handle_70 ?_
      have w95 := wt_putB w82 (Int32.toNatClampNeg p0) (some q49) (k_ne g93 (by decide)) (fun b hb => by cases hb; rw [show hK S81 b92 = 27 from g93]; exact g85)
      refine gc_nS (fun S96 eS96 => ?_)
      replace h := h S96 eS96
      have w97 : wt S96 := by rw [eS96]; exact w95
      have w98 : isL S96 L72 := by rw [eS96]; exact w83
      have w99 : ext S0 S96 := by rw [eS96]; exact w84
      have g100 : hK S96 q49 = 6 := by rw [eS96]; exact g85
      have g101 : hK S96 b19 = 6 := by rw [eS96]; exact g86
      have g102 : hK S96 x0 = 11 := by rw [eS96]; exact g87
      refine g_aload_n C dX10_handle_71 rfl 1 rfl ?_
      refine gc_getI C iwx_X5 w98 g101 (by decide) (by decide) rfl 2 (by decide) (hW kw_1087) rfl rfl rfl dX10_handle_72 ?_
      exact gx_iret C w97 w98 w99 hr dX10_handle_75 h
    · replace h := h.2 z34
      obtain ⟨g103, h⟩ := h
      exact gx_throw (cls := "java/lang/IllegalStateException") (names := ["java/lang/RuntimeException", "java/lang/Exception"]) C E hst w13 w33 w18 (Nat.le_refl _) (Nat.le_refl _) (by decide) (by decide) (hW kw_480) (hW kw_17) (th_FreightRater_78 hW E) tv_FreightRater_78 dX10_handle_32 dX10_handle_35 dX10_handle_36 dX10_handle_39 htab (Nat.le_of_ble_eq_true rfl) (Nat.le_of_ble_eq_true rfl) g103.1 g103.2 h
  · replace h := h.2 z25
    obtain ⟨g104, h⟩ := h
    exact gx_throw (cls := "java/lang/IllegalArgumentException") (names := ["java/lang/RuntimeException", "java/lang/Exception"]) C E hst w13 w24 w18 (Nat.le_refl _) (Nat.le_refl _) (by decide) (by decide) (hW kw_310) (hW kw_13) (th_FreightRater_62 hW E) tv_FreightRater_62 dX10_handle_17 dX10_handle_20 dX10_handle_21 dX10_handle_24 htab (Nat.le_of_ble_eq_true rfl) (Nat.le_of_ble_eq_true rfl) g104.1 g104.2 h
theorem c_X10_handle (l : Launch) (hst : l.stackTraces = false) (D : va_G) (T : Nat → ClassId) (x0 : Nat) (p0 : Int32) (p1 : Int32) (S : HS) (mc ms : Nat) (hx0 : hK S x0 = 11) (P : Int32 → HS → Prop) (X : String → HS → Prop) (h : wp_X10_handle P X x0 p0 p1 S mc ms) : CXi l yX10_handle (ws_X10_handle) rm_X10_handle D T [.ref x0, .int p0, .int p1] S mc ms P X := gx_meti (by decide) rfl rfl (Nat.le_of_ble_eq_true rfl) (fun p e s m args below meth c A L C E hnm hr htab hw hL => t_X10_handle C E hst htab hr P X x0 p0 p1 S S mc ms L rfl hw hL hx0 h)
theorem k_X10_handle (l : Launch) (hst : l.stackTraces = false) (D : va_G) (T : Nat → ClassId) (x0 : Nat) (p0 : Int32) (p1 : Int32) (S : HS) (e0 : (Nat → Nat)) (e1 : (Nat → Nat → Int32)) (e2 : (Nat → Int32)) (e3 : (Nat → Int32)) (e4 : (List Int32)) (mc ms : Nat) (hx0 : hK S x0 = 11) (h : FrS S e0 e1 e2 e3 e4 ∧ x0 = e0 50 ∧ 200 ≤ mc ∧ 2000 ≤ ms) : CXi l yX10_handle (ws_X10_handle) rm_X10_handle D T [.ref x0, .int p0, .int p1] S mc ms (fun v S1 => (hanC (e1 0) p0 p1 = 0 ∧ v = e1 0 (14 + 26 * iv p0 + 2) ∧ FrS S1 e0 (fun t => if t = 0 then upd (e1 0) (14 + 26 * iv p0 + 2) p1 else rmU e1 e2 t) (rmG e2) e3 e4)) (fun E9 S1 => ((hanC (e1 0) p0 p1 = 1 ∧ E9 = "java/lang/IndexOutOfBoundsException") ∨ (hanC (e1 0) p0 p1 = 2 ∧ E9 = "java/lang/IllegalArgumentException") ∨ (hanC (e1 0) p0 p1 = 3 ∧ E9 = "java/lang/IllegalStateException")) ∧ FrS S1 e0 e1 e2 e3 e4) := c_X10_handle l hst D T x0 p0 p1 S mc ms hx0 _ _ <|
  (by
    obtain ⟨h, e, hmc, hms⟩ := h
    unfold wp_X10_handle
    refine ⟨1, 6, ⟨by omega, by omega⟩, e0, e1, e2, e3, e4, ⟨h, e, Nat.le_refl _, Nat.le_refl _⟩, fun E9 S9 _ h9 => ?_, fun o S10 _ _ h10 => ?_⟩
    · obtain ⟨c, eE, eS⟩ := h9
      subst eS
      exact ⟨Or.inl ⟨by unfold hanC; rw [if_pos c], eE⟩, h⟩
    obtain ⟨eS, c, y, ey, hy⟩ := h10
    subst eS e
    refine ⟨y, ey, fun _ => ?_⟩
    obtain ⟨hs10, hsn, es⟩ := zs h.now.1 c
    have h5 := h.now.1.pcs hs10
    refine ⟨fun ca => ?_, fun ca => ⟨⟨by omega, by omega⟩, Or.inr (Or.inl ⟨by unfold hanC; rw [if_neg c, if_pos ca], rfl⟩), h⟩⟩
    have eC : hanC (e1 0) p0 p1 = if ¬ psF (e1 0) (iv p0) = 0 then 3 else 0 := by
      unfold hanC
      rw [if_neg c, if_neg ca]
    refine ⟨fxM e0, e1 0, iv p0, ⟨h.now.1, hs10, hy⟩, fun c6 => ⟨e0, e1, e2, e3, e4, ⟨h, rfl⟩, fun S61 he61 h61 => ?_⟩, fun c6 => ⟨⟨by omega, by omega⟩, Or.inr (Or.inr ⟨by rw [eC, if_pos c6], rfl⟩), h⟩⟩
    obtain ⟨H61, f61, k61, r61, s61⟩ := h61
    refine ⟨⟨by omega, by omega⟩, fun q q0 qz S77 e77 => ?_⟩
    have f77 : frM S61 S77 (fun _ => False) := by rw [e77]; exact frM.rf.nO ext_rf q0 6
    have x77 : ext S61 S77 := by rw [e77]; exact ext_newO ext_rf q0 6
    have y61 := hy.fm f61
    have y77 := y61.fm (f77.sub (fun _ z => z.elim))
    have yq : y ≠ q := fun z => by have := y61.1; rw [z, q0] at this; exact absurd this (by decide)
    refine ⟨1, 5, ⟨by omega, by omega⟩, fxM e0, e1 0, iv p0, ⟨y77, yq, H61.1.nM q0, H61.1.xM x77, Nat.le_refl _, Nat.le_refl _⟩, fun S91 he91 h91 S104 e104 => ?_⟩
    obtain ⟨f91, R91, w, rw91, w0⟩ := h91
    have f91' : frM S61 S91 (fun _ => False) := f77.nw f91 (fun b hb z => hb (by rw [z]; exact q0))
    have f104 : frM S91 S104 (fun b => b = q) := by
      rw [e104]
      exact frM.pI (M := fun b => b = q) frM.rf rfl _ _
    have f104' : frM S61 S104 (fun _ => False) := f91'.nw f104 (fun b hb z => hb (by rw [z]; exact q0))
    have x104 : ext S91 S104 := by rw [e104]; exact ext_rf
    have H104 := H61.nw (ext_tr x77 (ext_tr he91 x104)) f104'
    have R104 : RelS S104 (fxM e0) q (upd (e1 0) (14 + 26 * iv p0 + 2) p1) (iv p0) := by
      refine R91.ch h5 (by rw [e104, px_KI]) (by rw [e104, px_NI]) (by rw [e104, px_RI]) (by rw [e104, px_AI]) (fun i _ _ h1 _ => by rw [e104, px_II, if_neg (fun z => h1 z.1)]) ?_ ?_ ?_ ?_ (fun k h1 h2 _ => by unfold upd; rw [if_neg (by omega)])
      · rw [e104, px_II, if_neg (by omega), R91.2.2.1]
        unfold upd
        rw [if_neg (by omega)]
      · rw [e104, px_II, if_neg (by omega), R91.2.2.2.1]
        unfold upd
        rw [if_neg (by omega)]
      · rw [e104, px_II, if_pos ⟨rfl, rfl⟩]
        unfold upd
        rw [if_pos rfl]
      · rw [e104, px_II, if_neg (by omega), R91.2.2.2.2.2.2.2.2.2.1]
        unfold upd
        rw [if_neg (by omega)]
    refine ⟨e0 0, H104.r0, fun _ => ⟨e0 2, H104.s2, fun _ => ?_⟩⟩
    rw [H104.n2]
    refine ⟨vp_iv es hs10 (by decide), fun S121 e121 => ?_⟩
    subst e121
    refine ⟨by rw [eC, if_neg (fun z => z c6)], ?_, H104.ps (s := iv p0) hs10 R104 (fun k hk => by rw [rmU_0]; unfold upd; rw [if_neg (by omega)]) (han_gw (h.2.1 0 (by omega)).1 hs10 (zin_n (m := 255) (by decide) ca))⟩
    rw [px_IB, (f104' y (fun z => z) (nz_of y61.1 (by decide))).2.2.1 122]
    exact y61.2.2.2.2.1)

end S_C9F
