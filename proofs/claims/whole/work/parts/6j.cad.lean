section S_CAD
abbrev ws_X10_merged : List Cond := Cond.code yX10_merged cX10_merged 3 (some .int) :: W0
abbrev rm_X10_merged : Room := ({ frames := 17, cells := 0, slots := 0, locals := 517 } : Room)
def wp_X10_merged (P : Int32 → HS → Prop) (X : String → HS → Prop) (x0 : Nat) (p0 : Int32) (p1 : Int32) (S : HS) (mc ms : Nat) : Prop := ∃ cc1 cc2 : Nat, (cc1 ≤ mc ∧ cc2 ≤ ms) ∧ (∃ (m4 : (Nat → Nat)) (m5 : (Nat → Nat → Int32)) (m6 : (Nat → Int32)) (m7 : (Nat → Int32)) (m8 : (List Int32)), ((FrS S m4 m5 m6 m7 m8 ∧ x0 = m4 50 ∧ 2 ≤ cc1 ∧ 12 ≤ cc2) ∧ ((∀ (E9 : String) (S9 : HS), ext S S9 → (((lckF (m5 0) p0 8 = 1 ∧ E9 = "java/lang/IndexOutOfBoundsException") ∨ (lckF (m5 0) p0 8 = 2 ∧ E9 = "java/lang/IllegalArgumentException")) ∧ S9 = S) → X E9 S9) ∧ (∀ (S10 : HS), ext S S10 → (lckF (m5 0) p0 8 = 0 ∧ S10 = S) → ((¬ (zin p1 0 2) = 0 → (∃ cc23 cc24 : Nat, (cc23 ≤ (mc - cc1) ∧ cc24 ≤ (ms - cc2)) ∧ (∃ (m26 : (Nat → Nat)) (m27 : (Nat → Nat → Int32)) (m28 : (Nat → Int32)) (m29 : (Nat → Int32)) (m30 : (List Int32)), ((FrS S10 m26 m27 m28 m29 m30 ∧ x0 = m26 50 ∧ gok (m27 0) p0 ∧ 1 ≤ cc23 ∧ 6 ≤ cc24) ∧ ((∀ (E9 : String) (S9 : HS), ext S10 S9 → (E9 = "java/lang/IllegalStateException" ∧ ∃ t, rfF (m27 0) (iv p0) = some t ∧ FrS S9 m26 m27 (if (0 : Int32) = 0 then m28 else kpG m28 (nI (rsnD (m27 0) (2 ^ t)).1) (rsnD (m27 0) (2 ^ t)).2) m29 m30) → X E9 S9) ∧ (∀ (S32 : HS), ext S10 S32 → (rfF (m27 0) (iv p0) = none ∧ FrS S32 m26 m27 m28 m29 m30) → (∃ b41 : Nat, hR S32 233 x0 = some b41 ∧ (hK S32 b41 = 2 → (∃ b44 : Nat, hR S32 220 x0 = some b44 ∧ (hK S32 b44 = 7 → (∃ b47 : Nat, hR S32 232 x0 = some b47 ∧ (hK S32 b47 = 3 → (∃ (m49 : (Nat → Prop)) (m50 : Nat → Int32) (m51 : Nat → Nat) (m52 : Nat), ((prC S32 m49 b44 m50 b47 b41 m51 ∧ m52 < 2 ^ iv (m50 1) ∧ p0 = nI m52 ∧ (memL m52 10 0).length ≤ 8 ∧ hA S32 (m51 0) 0 = 0) ∧ (∀ (S54 : HS), ext S32 S54 → (frQ S32 S54 b41 b47 m51 ∧ hI S54 40 b41 = nI (memL m52 10 0).length ∧ hI S54 47 b41 = hI S32 47 b41 ∧ (∀ p, p < 2 ^ (memL m52 10 0).length → hA S54 (m51 0) p = nI (spr (memL m52 10 0) (memL m52 10 0).length p)) ∧ ∀ p, 0 < p → p < 2 ^ (memL m52 10 0).length → hA S54 (m51 1) p = ttF m50 (spr (memL m52 10 0) (memL m52 10 0).length p)) → (∃ b62 : Nat, hR S54 233 x0 = some b62 ∧ (hK S54 b62 = 2 → (∃ (m64 : Nat → Nat) (m65 : Nat), ((PlO S54 b62 m64 ∧ hI S54 40 b62 = nI m65 ∧ m65 ≤ 8 ∧ ∀ p, 0 < p → p < 2 ^ m65 → hA S54 (m64 1) p = -1 ∨ 0 ≤ hA S54 (m64 1) p) ∧ (∀ (S67 : HS), ext S54 S67 → (frP S54 S67 b62 m64 [47] [5] ∧ PlP S67 b62 m64 (mgL (hA S54 (m64 1)) (m65 - 1) (siC m65 0))) → ((p1 = 0 → (∃ b76 : Nat, hR S67 233 x0 = some b76 ∧ (hK S67 b76 = 2 → (∃ (m78 : Nat → Nat) (m79 : List Nat), ((PlO S67 b76 m78 ∧ PlP S67 b76 m78 m79) ∧ (P (suL (hA S67 (m78 1)) m79 0) S67)))))) ∧ (¬ p1 = 0 → ((p1 = 1 → (∃ b87 : Nat, hR S67 233 x0 = some b87 ∧ (hK S67 b87 = 2 → (P (hI S67 47 b87) S67)))) ∧ (¬ p1 = 1 → (∃ b90 : Nat, hR S67 233 x0 = some b90 ∧ (hK S67 b90 = 2 → (∃ (m92 : Nat → Nat) (m93 : List Nat), ((PlO S67 b90 m92 ∧ PlP S67 b90 m92 m93) ∧ (P (loP (hA S67 (m92 0)) m93) S67))))))))))))))))))))))))))))) ∧ ((zin p1 0 2) = 0 → ((1 ≤ (mc - cc1) ∧ 6 ≤ (ms - cc2)) ∧ X "java/lang/IllegalArgumentException" S10)))))))
set_option maxRecDepth 100000 in
set_option maxHeartbeats 4000000 in
theorem t_X10_merged {p : Program} {l : Launch} {e : Env} {s : State} {m : MethodId} {args : Array Value} {below : List Frame} {meth : Method} {c : Code} {D : va_G} {A : Nat → Prop} {T : Nat → ClassId} (C : GC p s m args meth c cX10_merged "FreightRater" (ws_X10_merged) 3 D A (zty T)) (E : GE T A s) (hst : l.stackTraces = false) (htab : ∀ z ∈ c.exceptionTable.toList, False) (hr : meth.sig.returnType = (some .int)) (P : Int32 → HS → Prop) (X : String → HS → Prop) : ∀ (x0 : Nat) (p0 : Int32) (p1 : Int32) (S0 S : HS) (mc ms : Nat) (L : List Nat), S0 = S → wt S → hL S L → (hK S x0 = 11) → wp_X10_merged P X x0 p0 p1 S mc ms → GW p l e { rm_X10_merged with cells := mc, slots := ms } s m args below meth c D A 3 mc ms (vx_MQ below (va_Qi (fun v (u : HS × List Nat) => P v u.1 ∧ CO S0 u) (CE D T A) A) (CXX D T A S0 X) args s mc ms A) (CW T S L) mc ms 0 [(0, .ref x0), (1, .int p0), (2, .int p1)] [] := by
  have hW : ∀ {w : Cond}, w ∈ W0 → w.before args s = true := fun h => C.2.2.2.2.1 _ (List.mem_cons_of_mem _ h)
  intro x0 p0 p1 S0 S mc ms L hS0 hw hL hx0 h
  have he : ext S0 S := by rw [hS0]; exact ext_rf
  unfold wp_X10_merged at h
  refine g_aload_n C dX10_merged_0 rfl 0 rfl ?_
  refine g_iload_n C dX10_merged_1 rfl 1 rfl ?_
  obtain ⟨cc1, cc2, g3, h⟩ := h
  obtain ⟨m4, m5, m6, m7, m8, h⟩ := h
  obtain ⟨g9, h⟩ := h
  obtain ⟨g15, h⟩ := h
  refine gx_callvV (host := "") C E hw hL hx0 (by decide) (by decide) rfl [.int p0] rfl (k_X10_requireSet l hst D T x0 p0 S m4 m5 m6 m7 m8 cc1 cc2 hx0 g9) (w0_V 1 C.2.2.2.2.1 kw_1330 kw_1332 ks_40 kw_1 kw_1333 rfl rfl (by decide +kernel) ⟨Nat.le_of_ble_eq_true rfl, Nat.le_of_ble_eq_true rfl⟩) rfl (Nat.le_of_ble_eq_true rfl) (Nat.le_refl _) (Nat.le_refl _) g3.1 g3.2 dX10_merged_2 he htab g15 (fun S10 L11 e12 w13 w14 hp => ?_)
  replace h := h S10 e12 hp
  have g16 := ext_K e12 hx0 (by decide)
  have w17 := ext_tr he e12
  refine g_iload_n C dX10_merged_5 rfl 2 rfl ?_
  refine g_iconst (v := 0) C dX10_merged_6 (by decide) ?_
  refine g_iconst (v := 2) C dX10_merged_7 (by decide) ?_
  refine gc_calliS (host := "") C E w13 w14 [.int p1, .int 0, .int 2] rfl (k_X10_isBetween l D T p1 0 2 S10 ) (w0_S 3 C.2.2.2.2.1 kw_303 kw_304 kw_1 kw_305 rfl rfl (by decide +kernel) ⟨Nat.le_of_ble_eq_true rfl, Nat.le_of_ble_eq_true rfl⟩) rfl (Nat.le_of_ble_eq_true rfl) (Nat.le_refl _) (Nat.le_refl _) (Nat.zero_le _) (Nat.zero_le _) dX10_merged_8 (fun v9 S9 L18 he9 hw9 hL9 hp => ?_)
  obtain ⟨hv9, hs9⟩ := hp
  replace hs9 := hs9.symm
  subst hs9
  replace hv9 := hv9.symm
  subst hv9
  have w21 := hL9
  refine g_if_ne (tgt := 22) C dX10_merged_11 (by decide) (fun z22 => ?_) (fun z22 => ?_)
  · replace h := h.1 z22
    refine g_aload_n C dX10_merged_22 rfl 0 rfl ?_
    refine g_iload_n C dX10_merged_23 rfl 1 rfl ?_
    refine g_iconst (v := 0) C dX10_merged_24 (by decide) ?_
    obtain ⟨cc23, cc24, g25, h⟩ := h
    obtain ⟨m26, m27, m28, m29, m30, h⟩ := h
    obtain ⟨g31, h⟩ := h
    obtain ⟨g37, h⟩ := h
    refine gx_callvV (host := "") C E w13 w21 g16 (by decide) (by decide) rfl [.int p0, .int 0] rfl (k_X10_requireSingles l hst D T x0 p0 0 S10 m26 m27 m28 m29 m30 cc23 cc24 g16 g31) (w0_V 2 C.2.2.2.2.1 kw_1340 kw_1342 ks_41 kw_1 kw_1343 rfl rfl (by decide +kernel) ⟨Nat.le_of_ble_eq_true rfl, Nat.le_of_ble_eq_true rfl⟩) rfl (Nat.le_of_ble_eq_true rfl) (Nat.le_refl _) (Nat.le_refl _) g25.1 g25.2 dX10_merged_25 w17 htab g37 (fun S32 L33 e34 w35 w36 hp => ?_)
    replace h := h S32 e34 hp
    have g38 := ext_K e34 g16 (by decide)
    have w39 := ext_tr w17 e34
    refine g_aload_n C dX10_merged_28 rfl 0 rfl ?_
    refine gc_getR C w35 iwx_X10 w36 g38 (by decide) (by decide) rfl 13 (by decide) (hW kw_255) rfl rfl rfl dX10_merged_29 (fun o40 eo40 ko40 => ?_)
    obtain ⟨b41, hb9, h⟩ := h
    have g42 : hK S32 b41 = 2 := ko40 b41 (eo40.trans hb9)
    replace h := h g42
    refine g_opt (eo40.trans hb9) ?_
    refine g_aload_n C dX10_merged_32 rfl 0 rfl ?_
    refine gc_getR C w35 iwx_X10 w36 g38 (by decide) (by decide) rfl 0 (by decide) (hW kw_242) rfl rfl rfl dX10_merged_33 (fun o43 eo43 ko43 => ?_)
    obtain ⟨b44, hb9, h⟩ := h
    have g45 : hK S32 b44 = 7 := ko43 b44 (eo43.trans hb9)
    replace h := h g45
    refine g_opt (eo43.trans hb9) ?_
    refine g_iload_n C dX10_merged_36 rfl 1 rfl ?_
    refine g_aload_n C dX10_merged_37 rfl 0 rfl ?_
    refine gc_getR C w35 iwx_X10 w36 g38 (by decide) (by decide) rfl 12 (by decide) (hW kw_254) rfl rfl rfl dX10_merged_38 (fun o46 eo46 ko46 => ?_)
    obtain ⟨b47, hb9, h⟩ := h
    have g48 : hK S32 b47 = 3 := ko46 b47 (eo46.trans hb9)
    replace h := h g48
    refine g_opt (eo46.trans hb9) ?_
    obtain ⟨m49, m50, m51, m52, h⟩ := h
    obtain ⟨g53, h⟩ := h
    refine gc_callvV (host := "") C E w35 w36 g42 (by decide) (by decide) rfl [.ref b44, .int p0, .ref b47] rfl (k_X1_prepare l D T b41 b44 p0 b47 S32 m49 m50 m51 m52 g42 g45 g48 g53) (w0_V 3 C.2.2.2.2.1 kw_1345 kw_1346 kw_1347 kw_8 kw_1348 rfl rfl (by decide +kernel) ⟨Nat.le_of_ble_eq_true rfl, Nat.le_of_ble_eq_true rfl⟩) rfl (Nat.le_of_ble_eq_true rfl) (Nat.le_refl _) (Nat.le_refl _) (Nat.zero_le _) (Nat.zero_le _) dX10_merged_41 (fun S54 L55 e56 w57 w58 hp => ?_)
    replace h := h S54 e56 hp
    have g59 := ext_K e56 g38 (by decide)
    have w60 := ext_tr w39 e56
    refine g_aload_n C dX10_merged_44 rfl 0 rfl ?_
    refine gc_getR C w57 iwx_X10 w58 g59 (by decide) (by decide) rfl 13 (by decide) (hW kw_255) rfl rfl rfl dX10_merged_45 (fun o61 eo61 ko61 => ?_)
    obtain ⟨b62, hb9, h⟩ := h
    have g63 : hK S54 b62 = 2 := ko61 b62 (eo61.trans hb9)
    replace h := h g63
    refine g_opt (eo61.trans hb9) ?_
    obtain ⟨m64, m65, h⟩ := h
    obtain ⟨g66, h⟩ := h
    refine gc_callvV (host := "") C E w57 w58 g63 (by decide) (by decide) rfl [] rfl (k_X1_merge l D T b62 S54 m64 m65 g63 g66) (w0_V 0 C.2.2.2.2.1 kw_1406 kw_1407 kw_1408 kw_8 kw_1409 rfl rfl (by decide +kernel) ⟨Nat.le_of_ble_eq_true rfl, Nat.le_of_ble_eq_true rfl⟩) rfl (Nat.le_of_ble_eq_true rfl) (Nat.le_refl _) (Nat.le_refl _) (Nat.zero_le _) (Nat.zero_le _) dX10_merged_48 (fun S67 L68 e69 w70 w71 hp => ?_)
    replace h := h S67 e69 hp
    have g72 := ext_K e69 g59 (by decide)
    have w73 := ext_tr w60 e69
    refine g_iload_n C dX10_merged_51 rfl 2 rfl ?_
    rcases Decidable.em (p1 = 0) with z74 | z74
    · refine g_lookup (off := 28) (tgt := 80) C dX10_merged_52 (by decide) (by rw [z74]; decide) (by decide) ?_
      replace h := h.1 z74
      refine g_aload_n C dX10_merged_80 rfl 0 rfl ?_
      refine gc_getR C w70 iwx_X10 w71 g72 (by decide) (by decide) rfl 13 (by decide) (hW kw_255) rfl rfl rfl dX10_merged_81 (fun o75 eo75 ko75 => ?_)
      obtain ⟨b76, hb9, h⟩ := h
      have g77 : hK S67 b76 = 2 := ko75 b76 (eo75.trans hb9)
      replace h := h g77
      refine g_opt (eo75.trans hb9) ?_
      obtain ⟨m78, m79, h⟩ := h
      obtain ⟨g80, h⟩ := h
      refine gc_calliV (host := "") C E w70 w71 g77 (by decide) (by decide) rfl [] rfl (k_X1_total l D T b76 S67 m78 m79 g77 g80) (w0_V 0 C.2.2.2.2.1 kw_1369 kw_1370 kw_1371 kw_8 kw_1372 rfl rfl (by decide +kernel) ⟨Nat.le_of_ble_eq_true rfl, Nat.le_of_ble_eq_true rfl⟩) rfl (Nat.le_of_ble_eq_true rfl) (Nat.le_refl _) (Nat.le_refl _) (Nat.zero_le _) (Nat.zero_le _) dX10_merged_84 (fun v9 S9 L81 he9 hw9 hL9 hp => ?_)
      obtain ⟨hv9, hs9⟩ := hp
      replace hs9 := hs9.symm
      subst hs9
      replace hv9 := hv9.symm
      subst hv9
      have w84 := hL9
      exact gx_iret C w70 w84 w73 hr dX10_merged_87 h
    replace h := h.2 z74
    rcases Decidable.em (p1 = 1) with z85 | z85
    · refine g_lookup (off := 36) (tgt := 88) C dX10_merged_52 (by decide) (by rw [z85]; decide) (by decide) ?_
      replace h := h.1 z85
      refine g_aload_n C dX10_merged_88 rfl 0 rfl ?_
      refine gc_getR C w70 iwx_X10 w71 g72 (by decide) (by decide) rfl 13 (by decide) (hW kw_255) rfl rfl rfl dX10_merged_89 (fun o86 eo86 ko86 => ?_)
      obtain ⟨b87, hb9, h⟩ := h
      have g88 : hK S67 b87 = 2 := ko86 b87 (eo86.trans hb9)
      replace h := h g88
      refine g_opt (eo86.trans hb9) ?_
      refine gc_getI C iwx_X1 w71 g88 (by decide) (by decide) rfl 7 (by decide) (hW kw_224) rfl rfl rfl dX10_merged_92 ?_
      exact gx_iret C w70 w71 w73 hr dX10_merged_95 h
    replace h := h.2 z85
    refine g_lookup (off := 44) (tgt := 96) C dX10_merged_52 (by decide) ((lv_osw z74 rfl).trans ((lv_osw z85 rfl).trans rfl)) (by decide) ?_
    refine g_aload_n C dX10_merged_96 rfl 0 rfl ?_
    refine gc_getR C w70 iwx_X10 w71 g72 (by decide) (by decide) rfl 13 (by decide) (hW kw_255) rfl rfl rfl dX10_merged_97 (fun o89 eo89 ko89 => ?_)
    obtain ⟨b90, hb9, h⟩ := h
    have g91 : hK S67 b90 = 2 := ko89 b90 (eo89.trans hb9)
    replace h := h g91
    refine g_opt (eo89.trans hb9) ?_
    obtain ⟨m92, m93, h⟩ := h
    obtain ⟨g94, h⟩ := h
    refine gc_calliV (host := "") C E w70 w71 g91 (by decide) (by decide) rfl [] rfl (k_X1_lowestGroup l D T b90 S67 m92 m93 g91 g94) (w0_V 0 C.2.2.2.2.1 kw_1422 kw_1423 kw_1424 kw_8 kw_1425 rfl rfl (by decide +kernel) ⟨Nat.le_of_ble_eq_true rfl, Nat.le_of_ble_eq_true rfl⟩) rfl (Nat.le_of_ble_eq_true rfl) (Nat.le_refl _) (Nat.le_refl _) (Nat.zero_le _) (Nat.zero_le _) dX10_merged_100 (fun v9 S9 L95 he9 hw9 hL9 hp => ?_)
    obtain ⟨hv9, hs9⟩ := hp
    replace hs9 := hs9.symm
    subst hs9
    replace hv9 := hv9.symm
    subst hv9
    have w98 := hL9
    exact gx_iret C w70 w98 w73 hr dX10_merged_103 h
  · replace h := h.2 z22
    obtain ⟨g99, h⟩ := h
    exact gx_throw (cls := "java/lang/IllegalArgumentException") (names := ["java/lang/RuntimeException", "java/lang/Exception"]) C E hst w13 w21 w17 (Nat.le_refl _) (Nat.le_refl _) (by decide) (by decide) (hW kw_310) (hW kw_13) (th_FreightRater_62 hW E) tv_FreightRater_62 dX10_merged_14 dX10_merged_17 dX10_merged_18 dX10_merged_21 htab (Nat.le_of_ble_eq_true rfl) (Nat.le_of_ble_eq_true rfl) g99.1 g99.2 h
theorem c_X10_merged (l : Launch) (hst : l.stackTraces = false) (D : va_G) (T : Nat → ClassId) (x0 : Nat) (p0 : Int32) (p1 : Int32) (S : HS) (mc ms : Nat) (hx0 : hK S x0 = 11) (P : Int32 → HS → Prop) (X : String → HS → Prop) (h : wp_X10_merged P X x0 p0 p1 S mc ms) : CXi l yX10_merged (ws_X10_merged) rm_X10_merged D T [.ref x0, .int p0, .int p1] S mc ms P X := gx_meti (by decide) rfl rfl (Nat.le_of_ble_eq_true rfl) (fun p e s m args below meth c A L C E hnm hr htab hw hL => t_X10_merged C E hst htab hr P X x0 p0 p1 S S mc ms L rfl hw hL hx0 h)
theorem gl_mp {u : Nat → Nat} {G : List Nat} {i : Nat} (h : i < G.length) : gl (G.map u) i = u (gl G i) := by
  unfold gl
  rw [List.getElem?_map, List.getElem?_eq_getElem h]
  rfl
/-- parts of a plan -/
def pgO (G : List Nat) (m : Nat) : Prop := ∀ i, i < G.length → 0 < gl G i ∧ gl G i < 2 ^ m
theorem pgO.or {G : List Nat} {m i j : Nat} (h : pgO G m) (hi : i < G.length) (hj : j < G.length) : 0 < gl G i ||| gl G j ∧ gl G i ||| gl G j < 2 ^ m := ⟨or_pos (h i hi).1, Nat.or_lt_two_pow (h i hi).2 (h j hj).2⟩
theorem pgO.mg {G : List Nat} {m a b : Nat} (h : pgO G m) (ha : a < G.length) (hb : b < G.length) : pgO (mgS G a b) m := fun i hi => by
  rw [mgS_len] at hi
  rw [mgS_gl ha hb hi]
  by_cases c : i = b
  · rw [if_pos c]
    by_cases d : G.length - 1 = a
    · rw [if_pos d]; exact h.or ha hb
    · rw [if_neg d]; exact h _ (by omega)
  · rw [if_neg c]
    by_cases d : i = a
    · rw [if_pos d]; exact h.or ha hb
    · rw [if_neg d]; exact h _ (by omega)
theorem mgS_mp {n m : Nat} {L G : List Nat} (hG : pgO G m) {a b : Nat} (ha : a < G.length) (hb : b < G.length) : mgS (G.map (spr L m)) a b = (mgS G a b).map (spr L m) := by
  have hl : (G.map (spr L m)).length = G.length := List.length_map _
  refine gl_ext (by rw [mgS_len, hl, List.length_map, mgS_len]) (fun i hi => ?_)
  rw [mgS_len, hl] at hi
  rw [gl_mp (by rw [mgS_len]; exact hi), mgS_gl (by rw [hl]; exact ha) (by rw [hl]; exact hb) (by rw [hl]; exact hi), mgS_gl ha hb hi, hl, gl_mp ha, gl_mp hb, gl_mp (show G.length - 1 < G.length by omega), gl_mp (show i < G.length by omega)]
  by_cases c : i = b
  · rw [if_pos c, if_pos c]
    by_cases d : G.length - 1 = a
    · rw [if_pos d, if_pos d, spr_or (hG a ha).2 (hG b hb).2]
    · rw [if_neg d, if_neg d]
  · rw [if_neg c, if_neg c]
    by_cases d : i = a
    · rw [if_pos d, if_pos d, spr_or (hG a ha).2 (hG b hb).2]
    · rw [if_neg d, if_neg d]
theorem spr_lt {n m p q : Nat} {L : List Nat} (hl : plc n m L) (hp : p < 2 ^ m) (hq : q < 2 ^ m) : (spr L m p < spr L m q) = (p < q) := propext ⟨fun h => by
  rcases Nat.lt_or_ge p q with c | c
  · exact c
  · have := spr_le hl.2.2.1 c hp; omega, fun h => spr_mono m hl.2.2.1 p q h hq⟩
theorem spr_eq {n m p q : Nat} {L : List Nat} (hl : plc n m L) (hp : p < 2 ^ m) (hq : q < 2 ^ m) : (spr L m p = spr L m q) = (p = q) := propext ⟨fun h => spr_inj hl.2.2.1 hp hq h, fun h => by rw [h]⟩
def agP (T T' : Nat → Int32) (m : Nat) (L : List Nat) : Prop := ∀ p, 0 < p → p < 2 ^ m → T' p = T (spr L m p)
def msO (G : List Nat) (s : MS) : Prop := ∀ x y, s.2 = some (x, y) → x < G.length ∧ y < G.length ∧ gl G x < gl G y
theorem fpS_mp {T T' : Nat → Int32} {n m : Nat} {L G : List Nat} (hl : plc n m L) (hE : agP T T' m L) (hG : pgO G m) {a b : Nat} {s : MS} (ha : a < G.length) (hb : b < G.length) (hs : msO G s) : fpS T (G.map (spr L m)) a b s = fpS T' G a b s := by
  have e1 := hE _ (hG a ha).1 (hG a ha).2
  have e2 := hE _ (hG b hb).1 (hG b hb).2
  have o := hG.or ha hb
  have e3 := hE _ o.1 o.2
  rw [spr_or (hG a ha).2 (hG b hb).2] at e3
  have eg : gaF T (G.map (spr L m)) a b = gaF T' G a b := by
    unfold gaF
    rw [gl_mp ha, gl_mp hb, e1, e2, e3]
  have es : sonB T (G.map (spr L m)) a b s = sonB T' G a b s := by
    unfold sonB
    cases h : s.2 with
    | none => rfl
    | some xy =>
      obtain ⟨x, y⟩ := xy
      obtain ⟨hx, hy, _⟩ := hs x y h
      dsimp only
      rw [eg, gl_mp ha, gl_mp hb, gl_mp hx, gl_mp hy]
      simp only [spr_lt hl (hG a ha).2 (hG x hx).2, spr_eq hl (hG a ha).2 (hG x hx).2, spr_lt hl (hG b hb).2 (hG y hy).2]
  unfold fpS
  rw [es, eg, gl_mp ha, gl_mp hb, ← e3]
  simp only [spr_lt hl (hG a ha).2 (hG b hb).2]
theorem fpB_mp {T T' : Nat → Int32} {n m : Nat} {L G : List Nat} (hl : plc n m L) (hE : agP T T' m L) (hG : pgO G m) {a : Nat} (ha : a < G.length) : ∀ (k b : Nat) (s : MS), b + k = G.length → msO G s → fpB T (G.map (spr L m)) a k b s = fpB T' G a k b s := by
  intro k
  induction k with
  | zero => intro b s _ _; rfl
  | succ k ih =>
    intro b s hb hs
    rw [fpB, fpB, fpS_mp hl hE hG ha (by omega) hs]
    exact ih (b + 1) _ (by omega) (fpS_ok ha (by omega) hs)
theorem fpA_mp {T T' : Nat → Int32} {n m : Nat} {L G : List Nat} (hl : plc n m L) (hE : agP T T' m L) (hG : pgO G m) : ∀ (k a : Nat) (s : MS), a + k = G.length → msO G s → fpA T (G.map (spr L m)) k a s = fpA T' G k a s := by
  intro k
  induction k with
  | zero => intro a s _ _; rfl
  | succ k ih =>
    intro a s ha hs
    rw [fpA, fpA, List.length_map, fpB_mp hl hE hG (show a < G.length by omega) _ _ _ (by omega) hs]
    exact ih (a + 1) _ (by omega) (fpB_ok (by omega) G.length 0 s (by omega) hs)
theorem fpF_mp {T T' : Nat → Int32} {n m : Nat} {L G : List Nat} (hl : plc n m L) (hE : agP T T' m L) (hG : pgO G m) : fpF T (G.map (spr L m)) = fpF T' G := by
  unfold fpF
  rw [List.length_map]
  exact fpA_mp hl hE hG G.length 0 (0, none) (by omega) (fun x y z => by cases z)
theorem mgL_mp {T T' : Nat → Int32} {n m : Nat} {L : List Nat} (hl : plc n m L) (hE : agP T T' m L) : ∀ (k : Nat) (G : List Nat), pgO G m → mgL T k (G.map (spr L m)) = (mgL T' k G).map (spr L m) ∧ pgO (mgL T' k G) m := by
  intro k
  induction k with
  | zero => intro G hG; exact ⟨rfl, hG⟩
  | succ k ih =>
    intro G hG
    rw [mgL, mgL, fpF_mp hl hE hG]
    cases h : (fpF T' G).2 with
    | none => exact ⟨rfl, hG⟩
    | some ab =>
      obtain ⟨a, b⟩ := ab
      obtain ⟨ha, hb, _⟩ := fpF_ok h
      dsimp only
      rw [mgS_mp (n := n) hG ha hb]
      exact ih _ (hG.mg ha hb)
theorem mgL_1 {T : Nat → Int32} {G : List Nat} (h : G.length ≤ 1) : ∀ k, mgL T k G = G := by
  intro k
  cases k with
  | zero => rfl
  | succ k =>
    rw [mgL]
    cases e : (fpF T G).2 with
    | none => rfl
    | some ab =>
      obtain ⟨a, b⟩ := ab
      obtain ⟨ha, hb, hh⟩ := fpF_ok e
      rw [show a = b by omega] at hh
      omega
theorem mgL_k {T : Nat → Int32} : ∀ (k j : Nat) (G : List Nat), G.length ≤ k + 1 → mgL T (k + j) G = mgL T k G := by
  intro k
  induction k with
  | zero => intro j G h; rw [mgL_1 h, mgL_1 h]
  | succ k ih =>
    intro j G h
    rw [show k + 1 + j = (k + j) + 1 by omega, mgL, mgL]
    cases e : (fpF T G).2 with
    | none => rfl
    | some ab =>
      obtain ⟨a, b⟩ := ab
      dsimp only
      exact ih j _ (by rw [mgS_len]; omega)
theorem si_me {n : Nat} : ∀ k s, siL n k s = (memL n k s).map (fun t => 2 ^ t) := by
  intro k
  induction k with
  | zero => intro s; rfl
  | succ k ih =>
    intro s
    rw [siL, memL]
    by_cases c : n.testBit s = true
    · rw [if_pos c, if_pos c, List.map_cons, ih]
    · rw [if_neg c, if_neg c, ih]
theorem siC_pg (m : Nat) : pgO (siC m 0) m := fun i hi => by
  rw [siC_l] at hi
  rw [siC_g m 0 i hi, Nat.zero_add]
  exact ⟨Nat.two_pow_pos _, Nat.pow_lt_pow_right (by decide) hi⟩
theorem siC_mp {n m : Nat} {L : List Nat} (hl : plc n m L) (hm : m = L.length) : (siC m 0).map (spr L m) = L.map (fun t => 2 ^ t) := by
  refine gl_ext (by rw [List.length_map, List.length_map, siC_l, hm]) (fun i hi => ?_)
  rw [List.length_map, siC_l] at hi
  rw [gl_mp (by rw [siC_l]; exact hi), gl_mp (by rw [← hm]; exact hi), siC_g m 0 i hi, Nat.zero_add, hl.one hi]
/-- the merged groups of class and reference -/
theorem me_mp {μ : Nat → Int32} {T' : Nat → Int32} {n ns m : Nat} (hl : plc n m (memL n 10 0)) (hm : m = (memL n 10 0).length) (hE : agP (ttF μ) T' m (memL n 10 0)) (e1 : μ 1 = nI ns) (hns : ns ≤ 10) (hn : n < 2 ^ ns) : meF μ n = (mgL T' (m - 1) (siC m 0)).map (spr (memL n 10 0) m) ∧ pgO (mgL T' (m - 1) (siC m 0)) m := by
  obtain ⟨h1, h2⟩ := mgL_mp hl hE (m - 1) (siC m 0) (siC_pg m)
  refine ⟨?_, h2⟩
  unfold meF
  rw [← h1, siC_mp hl hm, e1, show iv (nI ns) = ns from nI_clamp (by omega), si_me, ← mem_10 hn hns]
  have h8 := hl.2.1
  have := mgL_k (T := ttF μ) (m - 1) (10 - (m - 1)) ((memL n 10 0).map (fun t => 2 ^ t)) (by rw [List.length_map]; omega)
  rw [show m - 1 + (10 - (m - 1)) = 10 by omega] at this
  exact this
theorem suL_mp {T T' : Nat → Int32} {m : Nat} {L : List Nat} (hE : agP T T' m L) : ∀ (G : List Nat) (x : Int32), pgO G m → suL T (G.map (spr L m)) x = suL T' G x := by
  intro G
  induction G with
  | nil => intro x _; rfl
  | cons g G ih =>
    intro x hG
    have h0 := hG 0 (Nat.succ_pos _)
    rw [List.map_cons, suL, suL, ih _ (fun i hi => hG (i + 1) (Nat.succ_lt_succ hi)), hE g h0.1 h0.2]
/-- just one group has the lowest -/
def onL (s : Nat) (G : List Nat) : Prop := ∃ i, i < G.length ∧ (gl G i).testBit s = true ∧ ∀ j, j < G.length → (gl G j).testBit s = true → j = i
theorem onL.mg {s : Nat} {G : List Nat} {a b : Nat} (h : onL s G) (ha : a < G.length) (hb : b < G.length) (hab : a ≠ b) : onL s (mgS G a b) := by
  obtain ⟨i, hi, hb1, hu⟩ := h
  have el : (mgS G a b).length = G.length - 1 := mgS_len
  -- where the member stands afterwards
  have key : ∀ j, j < G.length - 1 → (gl (mgS G a b) j).testBit s = if j = b then (if G.length - 1 = a then (gl G a).testBit s || (gl G b).testBit s else (gl G (G.length - 1)).testBit s) else if j = a then (gl G a).testBit s || (gl G b).testBit s else (gl G j).testBit s := fun j hj => by
    rw [mgS_gl ha hb hj]
    by_cases c : j = b
    · rw [if_pos c, if_pos c]
      by_cases d : G.length - 1 = a
      · rw [if_pos d, if_pos d, Nat.testBit_or]
      · rw [if_neg d, if_neg d]
    · rw [if_neg c, if_neg c]
      by_cases d : j = a
      · rw [if_pos d, if_pos d, Nat.testBit_or]
      · rw [if_neg d, if_neg d]
  have fa : ∀ j, j < G.length → j ≠ i → (gl G j).testBit s = false := fun j hj c => by
    cases e : (gl G j).testBit s with
    | false => rfl
    | true => exact absurd (hu j hj e) c
  by_cases cab : i = a ∨ i = b
  · have hor : ((gl G a).testBit s || (gl G b).testBit s) = true := by
      rcases cab with c | c
      · rw [← c, hb1]; rfl
      · rw [← c, hb1, Bool.or_true]
    by_cases d : G.length - 1 = a
    · refine ⟨b, by rw [el]; omega, by rw [key b (by omega), if_pos rfl, if_pos d, hor], fun j hj e => ?_⟩
      rw [el] at hj
      by_cases c : j = b
      · exact c
      · rw [key j hj, if_neg c, if_neg (by omega)] at e
        have := hu j (by omega) e
        rcases cab with q | q <;> omega
    · refine ⟨a, by rw [el]; omega, by rw [key a (by omega), if_neg hab, if_pos rfl, hor], fun j hj e => ?_⟩
      rw [el] at hj
      by_cases c : j = a
      · exact c
      · rw [key j hj] at e
        by_cases c2 : j = b
        · rw [if_pos c2, if_neg d] at e
          have := hu _ (by omega) e
          rcases cab with q | q <;> omega
        · rw [if_neg c2, if_neg c] at e
          have := hu j (by omega) e
          rcases cab with q | q <;> omega
  · have na : (gl G a).testBit s = false := fa a ha (by omega)
    have nb : (gl G b).testBit s = false := fa b hb (by omega)
    have hor : ((gl G a).testBit s || (gl G b).testBit s) = false := by rw [na, nb]; rfl
    by_cases d : i = G.length - 1
    · refine ⟨b, by rw [el]; omega, by rw [key b (by omega), if_pos rfl, if_neg (by omega), ← d]; exact hb1, fun j hj e => ?_⟩
      rw [el] at hj
      by_cases c : j = b
      · exact c
      · rw [key j hj, if_neg c] at e
        by_cases c2 : j = a
        · rw [if_pos c2, hor] at e; exact absurd e (by decide)
        · rw [if_neg c2] at e
          have := hu j (by omega) e
          omega
    · refine ⟨i, by rw [el]; omega, by rw [key i (by omega), if_neg (by omega), if_neg (by omega)]; exact hb1, fun j hj e => ?_⟩
      rw [el] at hj
      rw [key j hj] at e
      by_cases c : j = b
      · rw [if_pos c] at e
        by_cases c2 : G.length - 1 = a
        · rw [if_pos c2, hor] at e; exact absurd e (by decide)
        · rw [if_neg c2] at e
          have := hu _ (by omega) e
          omega
      · rw [if_neg c] at e
        by_cases c2 : j = a
        · rw [if_pos c2, hor] at e; exact absurd e (by decide)
        · rw [if_neg c2] at e
          exact hu j (by omega) e
theorem onL.ml {T : Nat → Int32} {s : Nat} : ∀ (k : Nat) (G : List Nat), onL s G → onL s (mgL T k G) := by
  intro k
  induction k with
  | zero => intro G h; exact h
  | succ k ih =>
    intro G h
    rw [mgL]
    cases e : (fpF T G).2 with
    | none => exact h
    | some ab =>
      obtain ⟨a, b⟩ := ab
      obtain ⟨ha, hb, hh⟩ := fpF_ok e
      exact ih _ (h.mg ha hb (fun z => by rw [z] at hh; omega))
theorem onL_c {s g : Nat} {G : List Nat} (h : onL s (g :: G)) : (g.testBit s = true ∧ ∀ j, j < G.length → (gl G j).testBit s = false) ∨ (g.testBit s = false ∧ onL s G) := by
  obtain ⟨i, hi, h1, h2⟩ := h
  cases i with
  | zero =>
    refine Or.inl ⟨h1, fun j hj => ?_⟩
    cases e : (gl G j).testBit s with
    | false => rfl
    | true => have := h2 (j + 1) (Nat.succ_lt_succ hj) e; omega
  | succ i =>
    refine Or.inr ⟨?_, i, Nat.lt_of_succ_lt_succ hi, h1, fun j hj e => ?_⟩
    · cases e : g.testBit s with
      | false => rfl
      | true => have := h2 0 (Nat.succ_pos _) e; omega
    · have := h2 (j + 1) (Nat.succ_lt_succ hj) e; omega
theorem loL_no {s : Nat} : ∀ (G : List Nat) (x : Int32), (∀ j, j < G.length → (gl G j).testBit s = false) → loL s G x = x := by
  intro G
  induction G with
  | nil => intro x _; rfl
  | cons g G ih =>
    intro x h
    rw [loL, if_neg (by have := h 0 (Nat.succ_pos _); rw [gl_0] at this; rw [this]; decide)]
    exact ih x (fun j hj => h (j + 1) (Nat.succ_lt_succ hj))
/-- the group with the lowest -/
theorem lo_mp {n m : Nat} {L : List Nat} {A : Nat → Int32} (hl : plc n m L) (h0 : 0 < m) (hA : ∀ p, p < 2 ^ m → A p = nI (spr L m p)) : ∀ (G : List Nat) (x : Int32), pgO G m → onL 0 G → loL (gl L 0) (G.map (spr L m)) x = loP A G := by
  intro G
  induction G with
  | nil => intro x _ h; obtain ⟨i, hi, _⟩ := h; exact absurd hi (Nat.not_lt_zero i)
  | cons g G ih =>
    intro x hG h
    have g0 := hG 0 (Nat.succ_pos _)
    rw [gl_0] at g0
    have hb : (spr L m g).testBit (gl L 0) = g.testBit 0 := spr_bit hl.2.2.1 g0.2 h0
    rw [List.map_cons, loL, hb, loP]
    rcases onL_c h with ⟨h1, h2⟩ | ⟨h1, h2⟩
    · rw [if_pos h1, if_pos h1, loL_no _ _ (fun j hj => by
        rw [List.length_map] at hj
        rw [gl_mp hj, spr_bit (p := gl G j) hl.2.2.1 (hG (j + 1) (Nat.succ_lt_succ hj)).2 h0]
        exact h2 j hj), hA g g0.2]
    · rw [if_neg (by rw [h1]; decide), if_neg (by rw [h1]; decide)]
      exact ih x (fun j hj => hG (j + 1) (Nat.succ_lt_succ hj)) h2
theorem siC_on {m : Nat} (h : 0 < m) : onL 0 (siC m 0) := by
  refine ⟨0, by rw [siC_l]; exact h, by rw [siC_g m 0 0 h]; rfl, fun j hj e => ?_⟩
  rw [siC_l] at hj
  rw [siC_g m 0 j hj, Nat.zero_add, Nat.testBit_two_pow] at e
  exact of_decide_eq_true e
theorem k_X10_merged (l : Launch) (hst : l.stackTraces = false) (D : va_G) (T : Nat → ClassId) (x0 : Nat) (p0 : Int32) (p1 : Int32) (S : HS) (e0 : (Nat → Nat)) (e1 : (Nat → Nat → Int32)) (e2 : (Nat → Int32)) (e3 : (Nat → Int32)) (e4 : (List Int32)) (mc ms : Nat) (hx0 : hK S x0 = 11) (h : FrS S e0 e1 e2 e3 e4 ∧ x0 = e0 50 ∧ 200 ≤ mc ∧ 2000 ≤ ms) : CXi l yX10_merged (ws_X10_merged) rm_X10_merged D T [.ref x0, .int p0, .int p1] S mc ms (fun v S1 => (meC (e1 0) p0 p1 = 0 ∧ v = meA (e1 0) (iv p0) p1 ∧ FrS S1 e0 e1 e2 e3 e4)) (fun E9 S1 => ((meC (e1 0) p0 p1 = 1 ∧ E9 = "java/lang/IndexOutOfBoundsException") ∨ (meC (e1 0) p0 p1 = 2 ∧ E9 = "java/lang/IllegalArgumentException") ∨ (meC (e1 0) p0 p1 = 3 ∧ E9 = "java/lang/IllegalStateException")) ∧ FrS S1 e0 e1 e2 e3 e4) := c_X10_merged l hst D T x0 p0 p1 S mc ms hx0 _ _ <|
  (by
    obtain ⟨h, e, hmc, hms⟩ := h
    unfold wp_X10_merged
    refine ⟨2, 12, ⟨by omega, by omega⟩, e0, e1, e2, e3, e4, ⟨h, e, Nat.le_refl _, Nat.le_refl _⟩, fun E9 S9 _ h9 => ?_, fun S10 _ h10 => ?_⟩
    · obtain ⟨c, eS⟩ := h9
      subst eS
      rcases c with ⟨c, eE⟩ | ⟨c, eE⟩
      · exact ⟨Or.inl ⟨by unfold meC; rw [if_neg (by rw [c]; decide)]; exact c, eE⟩, h⟩
      · exact ⟨Or.inr (Or.inl ⟨by unfold meC; rw [if_neg (by rw [c]; decide)]; exact c, eE⟩), h⟩
    obtain ⟨c, eS⟩ := h10
    subst eS e
    obtain ⟨n, ns, ens, hns, hn0, hn, hn1, eg, ei, h8⟩ := lck_n h.now.1 c
    refine ⟨fun cw => ?_, fun cw => ⟨⟨by omega, by omega⟩, Or.inr (Or.inl ⟨by unfold meC; rw [if_pos c, if_pos cw], rfl⟩), h⟩⟩
    refine ⟨1, 6, ⟨by omega, by omega⟩, e0, e1, e2, e3, e4, ⟨h, rfl, lck_0 h.now.1 c, Nat.le_refl _, Nat.le_refl _⟩, fun E9 S9 _ h9 => ?_, fun S27 _ h27 => ?_⟩
    · obtain ⟨eE, t, er, h9⟩ := h9
      rw [if_pos rfl] at h9
      exact ⟨Or.inr (Or.inr ⟨by unfold meC; rw [if_pos c, if_neg cw, er], eE⟩), h9⟩
    obtain ⟨er, H27⟩ := h27
    have cc : meC (e1 0) p0 p1 = 0 := by unfold meC; rw [if_pos c, if_neg cw, er]
    refine ⟨e0 57, H27.r13, fun _ => ⟨e0 0, H27.r0, fun _ => ⟨e0 54, H27.r12, fun _ => ⟨fxM e0, e1 0, fun i => e0 (58 + i), n, ⟨H27.pr, by rw [ens, show iv (nI ns) = ns from nI_clamp (by omega)]; exact hn, eg, h8, H27.1.2.2.2.2.2.2.2.2.1⟩, fun S49 he49 h49 => ?_⟩⟩⟩⟩
    obtain ⟨f49, i40, i47, sets, tots⟩ := h49
    have H49 := H27.fq he49 f49 (by rw [sets 0 (Nat.two_pow_pos _), spr_z]; rfl)
    rw [ei] at er
    obtain ⟨tt, hl, _⟩ := H49.bb ens hns hn0 hn er h8 tots
    have hE : agP (ttF (e1 0)) (hA S49 (e0 59)) (memL n 10 0).length (memL n 10 0) := tots
    obtain ⟨me1, me2⟩ := me_mp hl rfl hE ens hns hn
    have hm0 : 0 < (memL n 10 0).length := by rw [mem_10 hn hns]; exact mem_ne hn0 hn hns
    refine ⟨e0 57, H49.r13, fun _ => ⟨fun i => e0 (58 + i), (memL n 10 0).length, ⟨H49.1.pl, i40, h8, fun p hp0 hp => ?_⟩, fun S67 he67 h67 => ?_⟩⟩
    · show hA S49 (e0 59) p = -1 ∨ 0 ≤ hA S49 (e0 59) p
      rw [hE p hp0 hp]
      rcases tt.v ((hl.ok hp).2 hp0) (hl.sb hp) hn1 with ⟨q, _⟩ | q
      · exact Or.inr q
      · exact Or.inl q
    obtain ⟨f67, P67⟩ := h67
    have H67 := H49.fp5 he67 f67
    have k1 : hA S67 (e0 59) = hA S49 (e0 59) := f67.2.2.2.2.2 _ (fun j hj => by
      simp only [List.mem_cons, List.not_mem_nil, or_false] at hj
      exact H49.1.ne (by omega) (by omega) (by omega))
    have k0 : hA S67 (e0 58) = hA S49 (e0 58) := f67.2.2.2.2.2 _ (fun j hj => by
      simp only [List.mem_cons, List.not_mem_nil, or_false] at hj
      exact H49.1.ne (by omega) (by omega) (by omega))
    have P67' : PlP S67 (e0 57) (fun i => e0 (58 + i)) (mgL (hA S49 (e0 59)) ((memL n 10 0).length - 1) (siC (memL n 10 0).length 0)) := P67
    refine ⟨fun c0 => ⟨e0 57, H67.r13, fun _ => ⟨fun i => e0 (58 + i), _, ⟨H67.1.pl, P67'⟩, cc, ?_, H67⟩⟩, fun d0 => ⟨fun c1 => ⟨e0 57, H67.r13, fun _ => ⟨cc, ?_, H67⟩⟩, fun d1 => ⟨e0 57, H67.r13, fun _ => ⟨fun i => e0 (58 + i), _, ⟨H67.1.pl, P67'⟩, cc, ?_, H67⟩⟩⟩⟩
    · unfold meA
      rw [if_pos c0, ei, me1, suL_mp hE _ _ me2]
      show suL (hA S67 (e0 59)) _ 0 = _
      rw [k1]
    · unfold meA
      rw [if_neg d0, if_pos c1, ei, me1, List.length_map]
      exact P67'.1
    · unfold meA
      rw [if_neg d0, if_neg d1, ei, me1]
      have ml : gl (memL n 10 0) 0 = lowN n := by rw [mem_10 hn hns]; exact mem_low hn0 hn hns
      rw [← ml]
      show loP (hA S67 (e0 58)) _ = _
      rw [k0]
      exact (lo_mp hl hm0 sets _ _ me2 (onL.ml _ _ (siC_on hm0))).symm)

end S_CAD
