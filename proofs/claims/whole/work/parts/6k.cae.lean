section S_CAE
abbrev ws_X10_searched : List Cond := Cond.code yX10_searched cX10_searched 2 (some .int) :: W0
abbrev rm_X10_searched : Room := ({ frames := 17, cells := 0, slots := 0, locals := 517 } : Room)
def wp_X10_searched (P : Int32 → HS → Prop) (X : String → HS → Prop) (x0 : Nat) (p0 : Int32) (S : HS) (mc ms : Nat) : Prop := ∃ cc1 cc2 : Nat, (cc1 ≤ mc ∧ cc2 ≤ ms) ∧ (∃ (m4 : (Nat → Nat)) (m5 : (Nat → Nat → Int32)) (m6 : (Nat → Int32)) (m7 : (Nat → Int32)) (m8 : (List Int32)), ((FrS S m4 m5 m6 m7 m8 ∧ x0 = m4 50 ∧ 2 ≤ cc1 ∧ 12 ≤ cc2) ∧ ((∀ (E9 : String) (S9 : HS), ext S S9 → (((lckF (m5 0) p0 8 = 1 ∧ E9 = "java/lang/IndexOutOfBoundsException") ∨ (lckF (m5 0) p0 8 = 2 ∧ E9 = "java/lang/IllegalArgumentException")) ∧ S9 = S) → X E9 S9) ∧ (∀ (S10 : HS), ext S S10 → (lckF (m5 0) p0 8 = 0 ∧ S10 = S) → (∃ (m18 : Nat), ((m18 < 1024 ∧ p0 = nI m18) ∧ (((nI (popN m18)) ≤ 6 → (∃ cc25 cc26 : Nat, (cc25 ≤ (mc - cc1) ∧ cc26 ≤ (ms - cc2)) ∧ (∃ (m28 : (Nat → Nat)) (m29 : (Nat → Nat → Int32)) (m30 : (Nat → Int32)) (m31 : (Nat → Int32)) (m32 : (List Int32)), ((FrS S10 m28 m29 m30 m31 m32 ∧ x0 = m28 50 ∧ gok (m29 0) p0 ∧ 1 ≤ cc25 ∧ 6 ≤ cc26) ∧ ((∀ (E9 : String) (S9 : HS), ext S10 S9 → (E9 = "java/lang/IllegalStateException" ∧ ∃ t, rfF (m29 0) (iv p0) = some t ∧ FrS S9 m28 m29 (if (0 : Int32) = 0 then m30 else kpG m30 (nI (rsnD (m29 0) (2 ^ t)).1) (rsnD (m29 0) (2 ^ t)).2) m31 m32) → X E9 S9) ∧ (∀ (S34 : HS), ext S10 S34 → (rfF (m29 0) (iv p0) = none ∧ FrS S34 m28 m29 m30 m31 m32) → (∃ b43 : Nat, hR S34 233 x0 = some b43 ∧ (hK S34 b43 = 2 → (∃ b46 : Nat, hR S34 220 x0 = some b46 ∧ (hK S34 b46 = 7 → (∃ b49 : Nat, hR S34 232 x0 = some b49 ∧ (hK S34 b49 = 3 → (∃ (m51 : (Nat → Prop)) (m52 : Nat → Int32) (m53 : Nat → Nat) (m54 : Nat), ((prC S34 m51 b46 m52 b49 b43 m53 ∧ m54 < 2 ^ iv (m52 1) ∧ p0 = nI m54 ∧ (memL m54 10 0).length ≤ 8 ∧ hA S34 (m53 0) 0 = 0) ∧ (∀ (S56 : HS), ext S34 S56 → (frQ S34 S56 b43 b49 m53 ∧ hI S56 40 b43 = nI (memL m54 10 0).length ∧ hI S56 47 b43 = hI S34 47 b43 ∧ (∀ p, p < 2 ^ (memL m54 10 0).length → hA S56 (m53 0) p = nI (spr (memL m54 10 0) (memL m54 10 0).length p)) ∧ ∀ p, 0 < p → p < 2 ^ (memL m54 10 0).length → hA S56 (m53 1) p = ttF m52 (spr (memL m54 10 0) (memL m54 10 0).length p)) → (∃ b64 : Nat, hR S56 233 x0 = some b64 ∧ (hK S56 b64 = 2 → (∃ (m66 : Nat → Nat) (m67 : Nat), ((PlO S56 b64 m66 ∧ hI S56 40 b64 = nI m67 ∧ m67 ≤ 6) ∧ (∀ (v74 : Int32) (S69 : HS), ext S56 S69 → (frP S56 S69 b64 m66 [47] [5] ∧ v74 = trF (hA S56 (m66 1)) m67 0 []) → (P v74 S69))))))))))))))))))))) ∧ (¬ (nI (popN m18)) ≤ 6 → ((1 ≤ (mc - cc1) ∧ 6 ≤ (ms - cc2)) ∧ X "java/lang/IllegalArgumentException" S10)))))))))
set_option maxRecDepth 100000 in
set_option maxHeartbeats 4000000 in
theorem t_X10_searched {p : Program} {l : Launch} {e : Env} {s : State} {m : MethodId} {args : Array Value} {below : List Frame} {meth : Method} {c : Code} {D : va_G} {A : Nat → Prop} {T : Nat → ClassId} (C : GC p s m args meth c cX10_searched "FreightRater" (ws_X10_searched) 2 D A (zty T)) (E : GE T A s) (hst : l.stackTraces = false) (htab : ∀ z ∈ c.exceptionTable.toList, False) (hr : meth.sig.returnType = (some .int)) (P : Int32 → HS → Prop) (X : String → HS → Prop) : ∀ (x0 : Nat) (p0 : Int32) (S0 S : HS) (mc ms : Nat) (L : List Nat), S0 = S → wt S → hL S L → (hK S x0 = 11) → wp_X10_searched P X x0 p0 S mc ms → GW p l e { rm_X10_searched with cells := mc, slots := ms } s m args below meth c D A 2 mc ms (vx_MQ below (va_Qi (fun v (u : HS × List Nat) => P v u.1 ∧ CO S0 u) (CE D T A) A) (CXX D T A S0 X) args s mc ms A) (CW T S L) mc ms 0 [(0, .ref x0), (1, .int p0)] [] := by
  have hW : ∀ {w : Cond}, w ∈ W0 → w.before args s = true := fun h => C.2.2.2.2.1 _ (List.mem_cons_of_mem _ h)
  intro x0 p0 S0 S mc ms L hS0 hw hL hx0 h
  have he : ext S0 S := by rw [hS0]; exact ext_rf
  unfold wp_X10_searched at h
  refine g_aload_n C dX10_searched_0 rfl 0 rfl ?_
  refine g_iload_n C dX10_searched_1 rfl 1 rfl ?_
  obtain ⟨cc1, cc2, g3, h⟩ := h
  obtain ⟨m4, m5, m6, m7, m8, h⟩ := h
  obtain ⟨g9, h⟩ := h
  obtain ⟨g15, h⟩ := h
  refine gx_callvV (host := "") C E hw hL hx0 (by decide) (by decide) rfl [.int p0] rfl (k_X10_requireSet l hst D T x0 p0 S m4 m5 m6 m7 m8 cc1 cc2 hx0 g9) (w0_V 1 C.2.2.2.2.1 kw_1330 kw_1332 ks_40 kw_1 kw_1333 rfl rfl (by decide +kernel) ⟨Nat.le_of_ble_eq_true rfl, Nat.le_of_ble_eq_true rfl⟩) rfl (Nat.le_of_ble_eq_true rfl) (Nat.le_refl _) (Nat.le_refl _) g3.1 g3.2 dX10_searched_2 he htab g15 (fun S10 L11 e12 w13 w14 hp => ?_)
  replace h := h S10 e12 hp
  have g16 := ext_K e12 hx0 (by decide)
  have w17 := ext_tr he e12
  refine g_iload_n C dX10_searched_5 rfl 1 rfl ?_
  obtain ⟨m18, h⟩ := h
  obtain ⟨g19, h⟩ := h
  refine gc_calliS (host := "") C E w13 w14 [.int p0] rfl (k_J6_bitCount_0f7a4 l D T p0 S10 m18  g19) (w0_S 1 C.2.2.2.2.1 kw_1334 kw_1335 kw_37 kw_1336 rfl rfl (by decide +kernel) ⟨Nat.le_of_ble_eq_true rfl, Nat.le_of_ble_eq_true rfl⟩) rfl (Nat.le_of_ble_eq_true rfl) (Nat.le_refl _) (Nat.le_refl _) (Nat.zero_le _) (Nat.zero_le _) dX10_searched_6 (fun v9 S9 L20 he9 hw9 hL9 hp => ?_)
  obtain ⟨hv9, hs9⟩ := hp
  replace hs9 := hs9.symm
  subst hs9
  replace hv9 := hv9.symm
  subst hv9
  have w23 := hL9
  refine g_bipush (v := 6) C dX10_searched_9 (by decide) ?_
  refine g_icmp_le (tgt := 22) C dX10_searched_11 (by decide) (fun z24 => ?_) (fun z24 => ?_)
  · replace h := h.1 z24
    refine g_aload_n C dX10_searched_22 rfl 0 rfl ?_
    refine g_iload_n C dX10_searched_23 rfl 1 rfl ?_
    refine g_iconst (v := 0) C dX10_searched_24 (by decide) ?_
    obtain ⟨cc25, cc26, g27, h⟩ := h
    obtain ⟨m28, m29, m30, m31, m32, h⟩ := h
    obtain ⟨g33, h⟩ := h
    obtain ⟨g39, h⟩ := h
    refine gx_callvV (host := "") C E w13 w23 g16 (by decide) (by decide) rfl [.int p0, .int 0] rfl (k_X10_requireSingles l hst D T x0 p0 0 S10 m28 m29 m30 m31 m32 cc25 cc26 g16 g33) (w0_V 2 C.2.2.2.2.1 kw_1340 kw_1342 ks_41 kw_1 kw_1343 rfl rfl (by decide +kernel) ⟨Nat.le_of_ble_eq_true rfl, Nat.le_of_ble_eq_true rfl⟩) rfl (Nat.le_of_ble_eq_true rfl) (Nat.le_refl _) (Nat.le_refl _) g27.1 g27.2 dX10_searched_25 w17 htab g39 (fun S34 L35 e36 w37 w38 hp => ?_)
    replace h := h S34 e36 hp
    have g40 := ext_K e36 g16 (by decide)
    have w41 := ext_tr w17 e36
    refine g_aload_n C dX10_searched_28 rfl 0 rfl ?_
    refine gc_getR C w37 iwx_X10 w38 g40 (by decide) (by decide) rfl 13 (by decide) (hW kw_255) rfl rfl rfl dX10_searched_29 (fun o42 eo42 ko42 => ?_)
    obtain ⟨b43, hb9, h⟩ := h
    have g44 : hK S34 b43 = 2 := ko42 b43 (eo42.trans hb9)
    replace h := h g44
    refine g_opt (eo42.trans hb9) ?_
    refine g_aload_n C dX10_searched_32 rfl 0 rfl ?_
    refine gc_getR C w37 iwx_X10 w38 g40 (by decide) (by decide) rfl 0 (by decide) (hW kw_242) rfl rfl rfl dX10_searched_33 (fun o45 eo45 ko45 => ?_)
    obtain ⟨b46, hb9, h⟩ := h
    have g47 : hK S34 b46 = 7 := ko45 b46 (eo45.trans hb9)
    replace h := h g47
    refine g_opt (eo45.trans hb9) ?_
    refine g_iload_n C dX10_searched_36 rfl 1 rfl ?_
    refine g_aload_n C dX10_searched_37 rfl 0 rfl ?_
    refine gc_getR C w37 iwx_X10 w38 g40 (by decide) (by decide) rfl 12 (by decide) (hW kw_254) rfl rfl rfl dX10_searched_38 (fun o48 eo48 ko48 => ?_)
    obtain ⟨b49, hb9, h⟩ := h
    have g50 : hK S34 b49 = 3 := ko48 b49 (eo48.trans hb9)
    replace h := h g50
    refine g_opt (eo48.trans hb9) ?_
    obtain ⟨m51, m52, m53, m54, h⟩ := h
    obtain ⟨g55, h⟩ := h
    refine gc_callvV (host := "") C E w37 w38 g44 (by decide) (by decide) rfl [.ref b46, .int p0, .ref b49] rfl (k_X1_prepare l D T b43 b46 p0 b49 S34 m51 m52 m53 m54 g44 g47 g50 g55) (w0_V 3 C.2.2.2.2.1 kw_1345 kw_1346 kw_1347 kw_8 kw_1348 rfl rfl (by decide +kernel) ⟨Nat.le_of_ble_eq_true rfl, Nat.le_of_ble_eq_true rfl⟩) rfl (Nat.le_of_ble_eq_true rfl) (Nat.le_refl _) (Nat.le_refl _) (Nat.zero_le _) (Nat.zero_le _) dX10_searched_41 (fun S56 L57 e58 w59 w60 hp => ?_)
    replace h := h S56 e58 hp
    have g61 := ext_K e58 g40 (by decide)
    have w62 := ext_tr w41 e58
    refine g_aload_n C dX10_searched_44 rfl 0 rfl ?_
    refine gc_getR C w59 iwx_X10 w60 g61 (by decide) (by decide) rfl 13 (by decide) (hW kw_255) rfl rfl rfl dX10_searched_45 (fun o63 eo63 ko63 => ?_)
    obtain ⟨b64, hb9, h⟩ := h
    have g65 : hK S56 b64 = 2 := ko63 b64 (eo63.trans hb9)
    replace h := h g65
    refine g_opt (eo63.trans hb9) ?_
    obtain ⟨m66, m67, h⟩ := h
    obtain ⟨g68, h⟩ := h
    refine gc_calliV (host := "") C E w59 w60 g65 (by decide) (by decide) rfl [] rfl (k_X1_search l D T b64 S56 m66 m67 g65 g68) (w0_V 0 C.2.2.2.2.1 kw_1387 kw_1388 kw_1389 kw_8 kw_1390 rfl rfl (by decide +kernel) ⟨Nat.le_of_ble_eq_true rfl, Nat.le_of_ble_eq_true rfl⟩) rfl (Nat.le_of_ble_eq_true rfl) (Nat.le_refl _) (Nat.le_refl _) (Nat.zero_le _) (Nat.zero_le _) dX10_searched_48 (fun v74 S69 L70 e71 w72 w73 hp => ?_)
    replace h := h v74 S69 e71 hp
    have g75 := ext_K e71 g61 (by decide)
    have w76 := ext_tr w62 e71
    exact gx_iret C w72 w73 w76 hr dX10_searched_51 h
  · replace h := h.2 z24
    obtain ⟨g77, h⟩ := h
    exact gx_throw (cls := "java/lang/IllegalArgumentException") (names := ["java/lang/RuntimeException", "java/lang/Exception"]) C E hst w13 w23 w17 (Nat.le_refl _) (Nat.le_refl _) (by decide) (by decide) (hW kw_310) (hW kw_13) (th_FreightRater_62 hW E) tv_FreightRater_62 dX10_searched_14 dX10_searched_17 dX10_searched_18 dX10_searched_21 htab (Nat.le_of_ble_eq_true rfl) (Nat.le_of_ble_eq_true rfl) g77.1 g77.2 h
theorem c_X10_searched (l : Launch) (hst : l.stackTraces = false) (D : va_G) (T : Nat → ClassId) (x0 : Nat) (p0 : Int32) (S : HS) (mc ms : Nat) (hx0 : hK S x0 = 11) (P : Int32 → HS → Prop) (X : String → HS → Prop) (h : wp_X10_searched P X x0 p0 S mc ms) : CXi l yX10_searched (ws_X10_searched) rm_X10_searched D T [.ref x0, .int p0] S mc ms P X := gx_meti (by decide) rfl rfl (Nat.le_of_ble_eq_true rfl) (fun p e s m args below meth c A L C E hnm hr htab hw hL => t_X10_searched C E hst htab hr P X x0 p0 S S mc ms L rfl hw hL hx0 h)
/-- as small as, -1 standing for none -/
def leN (y f : Int32) : Prop := f = -1 ∨ (¬ y = -1 ∧ y ≤ f)
theorem leN.rf (y : Int32) : leN y y := by
  by_cases c : y = -1
  · exact Or.inl c
  · exact Or.inr ⟨c, Int32.le_refl _⟩
theorem leN.tr {x y z : Int32} (h : leN x y) (h2 : leN y z) : leN x z := by
  rcases h2 with h2 | ⟨h2, h3⟩
  · exact Or.inl h2
  · rcases h with h | ⟨h, h4⟩
    · exact absurd h h2
    · exact Or.inr ⟨h, Int32.le_trans h4 h3⟩
theorem lsF_le (y f : Int32) : leN (lsF y f) y ∧ leN (lsF y f) f ∧ (lsF y f = y ∨ lsF y f = f) := by
  unfold lsF
  by_cases c : f = -1
  · rw [if_pos c]; exact ⟨leN.rf y, Or.inl c, Or.inl rfl⟩
  · rw [if_neg c]
    by_cases d : y = -1
    · rw [if_pos d]; exact ⟨Or.inl d, leN.rf f, Or.inr rfl⟩
    · rw [if_neg d]
      by_cases e : f < y
      · rw [if_pos e]; exact ⟨Or.inr ⟨c, Int32.le_of_lt e⟩, leN.rf f, Or.inr rfl⟩
      · rw [if_neg e]; exact ⟨leN.rf y, Or.inr ⟨d, Int32.not_lt.mp e⟩, Or.inl rfl⟩
theorem trI_le {f : Nat → Int32} : ∀ (m i : Nat) (y : Int32), leN (trI f m i y) y ∧ (∀ j, i ≤ j → j < i + m → leN (trI f m i y) (f j)) ∧ (trI f m i y = y ∨ ∃ j, i ≤ j ∧ j < i + m ∧ trI f m i y = f j) := by
  intro m
  induction m with
  | zero => intro i y; exact ⟨leN.rf y, fun j h1 h2 => by omega, Or.inl rfl⟩
  | succ m ih =>
    intro i y
    rw [trI]
    obtain ⟨h1, h2, h3⟩ := ih (i + 1) (lsF y (f i))
    obtain ⟨l1, l2, l3⟩ := lsF_le y (f i)
    refine ⟨h1.tr l1, fun j q1 q2 => ?_, ?_⟩
    · by_cases c : j = i
      · rw [c]; exact h1.tr l2
      · exact h2 j (by omega) (by omega)
    · rcases h3 with h3 | ⟨j, q1, q2, q3⟩
      · rcases l3 with l3 | l3
        · exact Or.inl (h3.trans l3)
        · exact Or.inr ⟨i, Nat.le_refl _, by omega, h3.trans l3⟩
      · exact Or.inr ⟨j, by omega, by omega, q3⟩
theorem low_p2 {k : Nat} (h : k < 10) : lowN (2 ^ k) = k := by
  have : ∀ k : Nat, k < 10 → lowN (2 ^ k) = k := by decide +kernel
  exact this k h
theorem low_or {w k : Nat} (hk : k ≤ 7) (hw : w < 2 ^ k) (h0 : 0 < w) : lowN (w ||| 2 ^ k) = lowN w := by
  have p : 2 ^ k ≤ 128 := Nat.pow_le_pow_right (n := 2) (by decide) hk
  have po := pow_or hw
  have t1 := low_tb' (show w < 1024 by omega) h0
  have k1 := tb_lt hw t1
  have a1 := low_mn (w ||| 2 ^ k) (by omega) (lowN w) (by omega) (by rw [Nat.testBit_or, t1]; rfl)
  have t2 := low_tb' (show w ||| 2 ^ k < 1024 by omega) (by omega)
  rw [Nat.testBit_or, Bool.or_eq_true] at t2
  rcases t2 with t2 | t2
  · have := low_mn w (by omega) _ (by omega) t2
    omega
  · rw [Nat.testBit_two_pow, decide_eq_true_eq] at t2
    omega
theorem addG_c (g : Nat) (l : List Nat) (i b : Nat) : addG (g :: l) (i + 1) b = g :: addG l i b := by
  unfold addG
  by_cases c : i < l.length
  · rw [if_pos c, if_pos (show i + 1 < (g :: l).length from Nat.succ_lt_succ c)]; rfl
  · rw [if_neg c, if_neg (show ¬ i + 1 < (g :: l).length from fun z => c (Nat.lt_of_succ_lt_succ z))]; rfl
theorem addG_z (g : Nat) (l : List Nat) (b : Nat) : addG (g :: l) 0 b = (g ||| b) :: l := by
  unfold addG
  rw [if_pos (show 0 < (g :: l).length from Nat.succ_pos _)]
  rfl
theorem addG_n (b : Nat) : addG [] 0 b = [b] := by
  unfold addG
  rw [if_neg (show ¬ 0 < ([] : List Nat).length from Nat.lt_irrefl _)]
  rfl
theorem ch_z {l : List Nat} (h : chP 0 l) : l = [] := by
  cases l with
  | nil => rfl
  | cons g l => exact absurd h.1 (Nat.lt_irrefl _)
theorem sub_orr {g w b : Nat} (h : sub g w) : sub g (w ||| b) := sub_tb.mpr fun i hi => by rw [Nat.testBit_or, sub_tb.mp h i hi]; rfl
theorem ch_add {k : Nat} (hk : k ≤ 7) : ∀ (G : List Nat) (w i : Nat), w < 2 ^ k → chP w G → i ≤ G.length → chP (w + 2 ^ k) (addG G i (2 ^ k)) := by
  have p0 := Nat.two_pow_pos k
  intro G
  induction G with
  | nil =>
    intro w i hw h hi
    have w0 : w = 0 := h
    rw [show i = 0 from Nat.le_zero.mp hi, addG_n, w0, Nat.zero_add]
    exact ⟨p0, sub_rf _, by rw [low_p2 (by omega)]; exact Nat.testBit_two_pow_self, Nat.sub_self _⟩
  | cons g l ih =>
    intro w i hw h hi
    obtain ⟨h0, hs, hl, hr⟩ := h
    have po := pow_or hw
    have gle := sub_le hs
    have pg := pow_or (show g < 2 ^ k by omega)
    cases i with
    | zero =>
      rw [addG_z, ← po]
      refine ⟨by omega, sub_tb.mpr fun j hj => ?_, ?_, ?_⟩
      · rw [Nat.testBit_or, Bool.or_eq_true] at hj ⊢
        rcases hj with hj | hj
        · exact Or.inl (sub_tb.mp hs j hj)
        · exact Or.inr hj
      · rw [low_or hk hw h0, Nat.testBit_or, hl]; rfl
      · rw [po, pg, show w + 2 ^ k - (g + 2 ^ k) = w - g by omega]; exact hr
    | succ i =>
      rw [addG_c, ← po]
      refine ⟨by omega, sub_orr hs, by rw [low_or hk hw h0]; exact hl, ?_⟩
      rw [po, show w + 2 ^ k - g = (w - g) + 2 ^ k by omega]
      exact ih (w - g) i (by omega) hr (Nat.le_of_succ_le_succ hi)
theorem ch_del {k : Nat} (hk : k ≤ 7) : ∀ (G : List Nat) (w : Nat), w < 2 ^ k → chP (w + 2 ^ k) G → ∃ G' i, i ≤ G'.length ∧ chP w G' ∧ G = addG G' i (2 ^ k) := by
  have p0 := Nat.two_pow_pos k
  have p7 : 2 ^ k ≤ 128 := Nat.pow_le_pow_right (n := 2) (by decide) hk
  intro G
  induction G with
  | nil => intro w hw h; have : w + 2 ^ k = 0 := h; omega
  | cons g l ih =>
    intro w hw h
    obtain ⟨h0, hs, hl, hr⟩ := h
    have po := pow_or hw
    have gle := sub_le hs
    by_cases t : g.testBit k = true
    · have sb : sub (2 ^ k) g := sub_tb.mpr fun i hi => by
        rw [Nat.testBit_two_pow] at hi
        rw [← of_decide_eq_true hi]
        exact t
      have ble := sub_le sb
      rcases Nat.eq_zero_or_pos w with z | z
      · subst z
        have eg : g = 2 ^ k := by omega
        subst eg
        rw [Nat.zero_add, Nat.sub_self] at hr
        exact ⟨[], 0, Nat.le_refl _, rfl, by rw [ch_z hr, addG_n]⟩
      · have ed : g - 2 ^ k = dif g (2 ^ k) := dif_s (by omega) sb
        rw [← po] at hs hl
        rw [low_or hk hw z] at hl
        have sw : sub (g - 2 ^ k) w := sub_tb.mpr fun i hi => by
          rw [ed, dif_tb, Bool.and_eq_true] at hi
          have := sub_tb.mp hs i hi.1
          rw [Nat.testBit_or, Bool.or_eq_true] at this
          rcases this with q | q
          · exact q
          · rw [q] at hi; exact absurd hi.2 (by decide)
        have lw := tb_lt hw (low_tb' (show w < 1024 by omega) z)
        refine ⟨(g - 2 ^ k) :: l, 0, Nat.zero_le _, ⟨z, sw, ?_, ?_⟩, ?_⟩
        · rw [ed, dif_tb, hl, Nat.testBit_two_pow, decide_eq_false (by omega)]; rfl
        · rw [show w - (g - 2 ^ k) = w + 2 ^ k - g by omega]; exact hr
        · have := sub_le sw
          rw [addG_z, pow_or (show g - 2 ^ k < 2 ^ k by omega), show g - 2 ^ k + 2 ^ k = g by omega]
    · rcases Nat.eq_zero_or_pos w with z | z
      · subst z
        rw [Nat.zero_add, low_p2 (by omega)] at hl
        exact absurd hl t
      · rw [← po] at hs hl
        rw [low_or hk hw z] at hl
        have sw : sub g w := sub_tb.mpr fun i hi => by
          have := sub_tb.mp hs i hi
          rw [Nat.testBit_or, Bool.or_eq_true] at this
          rcases this with q | q
          · exact q
          · rw [Nat.testBit_two_pow, decide_eq_true_eq] at q
            rw [← q] at hi
            exact absurd hi t
        have g2 := sub_le sw
        rw [show w + 2 ^ k - g = (w - g) + 2 ^ k by omega] at hr
        obtain ⟨G', i, q1, q2, q3⟩ := ih (w - g) (by omega) hr
        exact ⟨g :: G', i + 1, Nat.succ_le_succ q1, ⟨z, sw, hl, q2⟩, by rw [addG_c, q3]⟩
theorem p2_s (k : Nat) : 2 ^ (k + 1) - 1 = (2 ^ k - 1) + 2 ^ k := by
  have p0 := Nat.two_pow_pos k
  rw [Nat.pow_succ]
  omega
theorem tr_lo {T : Nat → Int32} : ∀ (k nx : Nat) (G : List Nat), nx + k ≤ 8 → chP (2 ^ nx - 1) G → trF T k nx G = -1 ∨ ∃ H, chP (2 ^ (nx + k) - 1) H ∧ raL T H = true ∧ trF T k nx G = suL T H 0 := by
  intro k
  induction k with
  | zero =>
    intro nx G _ h
    rw [trF]
    by_cases c : raL T G = true
    · rw [if_pos c]; exact Or.inr ⟨G, h, c, rfl⟩
    · rw [if_neg c]; exact Or.inl rfl
  | succ k ih =>
    intro nx G hk h
    have p0 := Nat.two_pow_pos nx
    rw [trF]
    rcases (trI_le (f := fun i => trF T k (nx + 1) (addG G i (2 ^ nx))) (G.length + 1) 0 (-1)).2.2 with e | ⟨j, _, q2, e⟩
    · exact Or.inl e
    · have hc := ch_add (k := nx) (by omega) G (2 ^ nx - 1) j (by omega) h (by omega)
      rw [← p2_s] at hc
      rcases ih (nx + 1) _ (by omega) hc with z | ⟨H, z1, z2, z3⟩
      · exact Or.inl (e.trans z)
      · rw [show nx + 1 + k = nx + (k + 1) by omega] at z1
        exact Or.inr ⟨H, z1, z2, e.trans z3⟩
theorem tr_up {T : Nat → Int32} {m : Nat} (hm : m ≤ 8) : ∀ (nx : Nat) (G : List Nat), nx ≤ m → chP (2 ^ nx - 1) G → leN (trF T m 0 []) (trF T (m - nx) nx G) := by
  intro nx
  induction nx with
  | zero =>
    intro G _ h
    rw [ch_z (show chP 0 G from h)]
    exact leN.rf _
  | succ nx ih =>
    intro G hn h
    have p0 := Nat.two_pow_pos nx
    rw [p2_s] at h
    obtain ⟨G', i, h1, h2, h3⟩ := ch_del (k := nx) (by omega) G (2 ^ nx - 1) (by omega) h
    refine (ih G' (by omega) h2).tr ?_
    rw [show m - nx = (m - (nx + 1)) + 1 by omega, trF, h3]
    exact (trI_le (f := fun i => trF T (m - (nx + 1)) (nx + 1) (addG G' i (2 ^ nx))) (G'.length + 1) 0 (-1)).2.1 i (Nat.zero_le _) (by omega)
theorem ch_lb {T T' : Nat → Int32} {n m : Nat} {L : List Nat} (hl : plc n m L) (hT : ttO T n) (hE : ∀ p, 0 < p → p < 2 ^ m → T' p = T (spr L m p)) (hM : ∀ v, v < 2 ^ m → ∀ g, 0 < v → Vc T' v g → (dpZ T n).1 (spr L m v) ≤ T' g + (dpZ T n).1 (spr L m (v - g))) : ∀ (H : List Nat) (w : Nat), w < 2 ^ m → chP w H → raL T' H = true → bn (suL T' H 0) (100000000 * popN (spr L m w)) ∧ (dpZ T n).1 (spr L m w) ≤ suL T' H 0 := by
  have h256 := hl.p
  intro H
  induction H with
  | nil =>
    intro w _ h _
    have w0 : w = 0 := h
    subst w0
    exact ⟨bn.z, by rw [spr_z, dpZ_0.1]; exact Int32.le_refl _⟩
  | cons g l ih =>
    intro w hw h hr
    obtain ⟨h0, hs, hb, hc⟩ := h
    have gle := sub_le hs
    have g0 : 0 < g := by
      rcases Nat.eq_zero_or_pos g with q | q
      · rw [q, Nat.zero_testBit] at hb; exact absurd hb (by decide)
      · exact q
    rw [raL] at hr
    have hv : ¬ T' g = -1 := fun q => by rw [if_pos q] at hr; exact absurd hr (by decide)
    rw [if_neg hv] at hr
    obtain ⟨i1, i2⟩ := ih (w - g) (by omega) hc hr
    have ed : w - g = dif w g := dif_s (by omega) hs
    have es : spr L m (w - g) = dif (spr L m w) (spr L m g) := by rw [ed, spr_dif hl.2.2.1 hw (by omega)]
    have mm := hM w hw g h0 ⟨hs, hb, hv⟩
    have sg := hl.ok (show g < 2 ^ m by omega)
    have eT := hE g g0 (by omega)
    rcases hT.v (sg.2 g0) (hl.sb (show g < 2 ^ m by omega)) hl.1 with ⟨_, q⟩ | q
    · rw [← eT] at q
      rw [suL, suL_x l (0 + T' g), Int32.zero_add]
      have ps := pop_sp ((spr_sub hl.2.2.1 (show g < 2 ^ m by omega) hw).mp hs)
      rw [← es] at ps
      have p10 := (pop_1 (hl.ok hw).1 ((hl.ok hw).2 h0)).2
      have db := dp_bn hl.1 hT (fun q q0 qs => dpZ_Q hl.1 hT q0 qs) dpZ_0.1 (spr L m (w - g) + 1) (spr L m (w - g)) (Nat.lt_succ_self _) (hl.sb (by omega))
      refine ⟨by rw [ps, Nat.mul_add]; exact q.add i1, Int32.le_trans mm ?_⟩
      obtain ⟨a, a1, a2⟩ := q
      obtain ⟨b, b1, b2⟩ := i1
      obtain ⟨c, c1, c2⟩ := db
      rw [c2, b2] at i2
      have cb := (nI_leI (by omega) (by omega)).mp i2
      rw [a2, b2, c2, nI_add, nI_add]
      exact (nI_leI (by omega) (by omega)).mpr (by omega)
    · exact absurd (eT.trans q) hv
/-- trying all ways finds the same least total -/
theorem sr_all {T T' : Nat → Int32} {n m : Nat} {L G : List Nat} (hl : plc n m L) (hT : ttO T n) (hE : ∀ p, 0 < p → p < 2 ^ m → T' p = T (spr L m p)) (hM : ∀ v, v < 2 ^ m → ∀ g, 0 < v → Vc T' v g → (dpZ T n).1 (spr L m v) ≤ T' g + (dpZ T n).1 (spr L m (v - g))) (hc : chP (2 ^ m - 1) G) (hr : raL T' G = true) (hs : (dpZ T n).1 n = suL T' G 0) : trF T' m 0 [] = (dpZ T n).1 n := by
  have p0 := Nat.two_pow_pos m
  have db := dp_bn hl.1 hT (fun q q0 qs => dpZ_Q hl.1 hT q0 qs) dpZ_0.1 (n + 1) n (Nat.lt_succ_self _) (sub_rf n)
  have hn0 : ¬ (dpZ T n).1 n = -1 := fun z => by
    rcases Nat.eq_zero_or_pos n with q | q
    · rw [q, dpZ_0.1] at z; exact absurd z (by decide)
    · have p10 := (pop_1 hl.1 q).2
      have := db.ge (by omega)
      rw [z] at this
      exact n1_neg this
  have up := tr_up (T := T') hl.2.1 m G (Nat.le_refl _) hc
  rw [Nat.sub_self, trF, if_pos hr, ← hs] at up
  rcases up with u | ⟨u1, u2⟩
  · exact absurd u hn0
  rcases tr_lo (T := T') m 0 [] (by have := hl.2.1; omega) rfl with l | ⟨H, l1, l2, l3⟩
  · exact absurd l u1
  · rw [Nat.zero_add] at l1
    have lb := (ch_lb hl hT hE hM H _ (by omega) l1 l2).2
    rw [hl.fl, ← l3] at lb
    exact Int32.le_antisymm u2 lb
theorem k_X10_searched (l : Launch) (hst : l.stackTraces = false) (D : va_G) (T : Nat → ClassId) (x0 : Nat) (p0 : Int32) (S : HS) (e0 : (Nat → Nat)) (e1 : (Nat → Nat → Int32)) (e2 : (Nat → Int32)) (e3 : (Nat → Int32)) (e4 : (List Int32)) (mc ms : Nat) (hx0 : hK S x0 = 11) (h : FrS S e0 e1 e2 e3 e4 ∧ x0 = e0 50 ∧ 200 ≤ mc ∧ 2000 ≤ ms) : CXi l yX10_searched (ws_X10_searched) rm_X10_searched D T [.ref x0, .int p0] S mc ms (fun v S1 => (conC (e1 0) p0 6 = 0 ∧ v = (dpZ (ttF (e1 0)) (iv p0)).1 (iv p0) ∧ FrS S1 e0 e1 e2 e3 e4)) (fun E9 S1 => ((conC (e1 0) p0 6 = 1 ∧ E9 = "java/lang/IndexOutOfBoundsException") ∨ (conC (e1 0) p0 6 = 2 ∧ E9 = "java/lang/IllegalArgumentException") ∨ (conC (e1 0) p0 6 = 3 ∧ E9 = "java/lang/IllegalStateException")) ∧ FrS S1 e0 e1 e2 e3 e4) := c_X10_searched l hst D T x0 p0 S mc ms hx0 _ _ <|
  (by
    obtain ⟨h, e, hmc, hms⟩ := h
    unfold wp_X10_searched
    refine ⟨2, 12, ⟨by omega, by omega⟩, e0, e1, e2, e3, e4, ⟨h, e, Nat.le_refl _, Nat.le_refl _⟩, fun E9 S9 _ h9 => ?_, fun S10 _ h10 => ?_⟩
    · obtain ⟨c, eS⟩ := h9
      subst eS
      have g1 : ∀ {m : Nat}, lckF (e1 0) p0 8 = 1 → lckF (e1 0) p0 m = 1 := fun {m} z => by
        unfold lckF at z ⊢
        by_cases q : grpF (e1 0) p0 = 0
        · rw [if_pos q]
        · rw [if_neg q] at z
          by_cases q2 : 8 < popN (iv p0)
          · rw [if_pos q2] at z; exact absurd z (by decide)
          · rw [if_neg q2] at z; exact absurd z (by decide)
      have g2 : lckF (e1 0) p0 8 = 2 → lckF (e1 0) p0 6 = 2 := fun z => by
        unfold lckF at z ⊢
        by_cases q : grpF (e1 0) p0 = 0
        · rw [if_pos q] at z; exact absurd z (by decide)
        · rw [if_neg q] at z ⊢
          by_cases q2 : 8 < popN (iv p0)
          · rw [if_pos (by omega)]
          · rw [if_neg q2] at z; exact absurd z (by decide)
      rcases c with ⟨c, eE⟩ | ⟨c, eE⟩
      · have c6 := g1 (m := 6) c
        exact ⟨Or.inl ⟨(con_l (by rw [c6]; decide)).trans c6, eE⟩, h⟩
      · have c6 := g2 c
        exact ⟨Or.inr (Or.inl ⟨(con_l (by rw [c6]; decide)).trans c6, eE⟩), h⟩
    obtain ⟨c, eS⟩ := h10
    subst eS e
    obtain ⟨n, ns, ens, hns, hn0, hn, hn1, eg, ei, h8⟩ := lck_n h.now.1 c
    have hp := (ones_pop hn1).2
    have l6 : lckF (e1 0) p0 6 = if 6 < popN n then 2 else 0 := by
      unfold lckF at c ⊢
      by_cases q : grpF (e1 0) p0 = 0
      · rw [if_pos q] at c; exact absurd c (by decide)
      · rw [if_neg q, ei]
    refine ⟨n, ⟨hn1, eg⟩, ?_⟩
    rw [show (nI (popN n) ≤ (6 : Int32)) = (popN n ≤ 6) from propext (nI_leI (b := 6) (by omega) (by decide))]
    refine ⟨fun c6 => ?_, fun c6 => ⟨⟨by omega, by omega⟩, Or.inr (Or.inl ⟨?_, rfl⟩), h⟩⟩
    rotate_left
    · rw [if_pos (by omega)] at l6
      exact (con_l (by rw [l6]; decide)).trans l6
    rw [if_neg (by omega)] at l6
    have m6 : (memL n 10 0).length ≤ 6 := by rw [mem_10 hn hns, mem_pop hn hns]; exact c6
    refine ⟨1, 6, ⟨by omega, by omega⟩, e0, e1, e2, e3, e4, ⟨h, rfl, lck_0 h.now.1 c, Nat.le_refl _, Nat.le_refl _⟩, fun E9 S9 _ h9 => ?_, fun S27 _ h27 => ?_⟩
    · obtain ⟨eE, t, er, h9⟩ := h9
      rw [if_pos rfl] at h9
      exact ⟨Or.inr (Or.inr ⟨con_3 l6 er, eE⟩), h9⟩
    obtain ⟨er, H27⟩ := h27
    have cc := con_0 l6 er
    refine ⟨e0 57, H27.r13, fun _ => ⟨e0 0, H27.r0, fun _ => ⟨e0 54, H27.r12, fun _ => ⟨fxM e0, e1 0, fun i => e0 (58 + i), n, ⟨H27.pr, by rw [ens, show iv (nI ns) = ns from nI_clamp (by omega)]; exact hn, eg, h8, H27.1.2.2.2.2.2.2.2.2.1⟩, fun S49 he49 h49 => ?_⟩⟩⟩⟩
    obtain ⟨f49, i40, i47, sets, tots⟩ := h49
    have H49 := H27.fq he49 f49 (by rw [sets 0 (Nat.two_pow_pos _), spr_z]; rfl)
    rw [ei] at er
    obtain ⟨tt, hl, G, g8, gC, gch, gM, gS, gD, gx, gg⟩ := H49.bb ens hns hn0 hn er h8 tots
    refine ⟨e0 57, H49.r13, fun _ => ⟨fun i => e0 (58 + i), (memL n 10 0).length, ⟨H49.1.pl, i40, m6⟩, fun v S69 he69 h69 => ?_⟩⟩
    obtain ⟨f69, ev⟩ := h69
    refine ⟨cc, ?_, H49.fp5 he69 f69⟩
    rw [ei]
    exact ev.trans (sr_all hl tt tots gx.2.2 gx.1 gx.2.1 gS))

end S_CAE
