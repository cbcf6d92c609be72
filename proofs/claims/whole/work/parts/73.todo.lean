section S_CW
def wp_X10_versionOn (P : Int32 → HS → Prop) (X : String → HS → Prop) (x0 : Nat) (p0 : Int32) (S : HS) (mc ms : Nat) : Prop := (¬ (zin p0 0 999) = 0 → (∃ b7 : Nat, hR S 220 x0 = some b7 ∧ (hK S b7 = 7 → (∃ (m9 : (Nat → Prop)) (m10 : Nat → Int32), ((WF m10 ∧ RelSt S m9 b7 m10) ∧ (∀ v16 : Int32, v16 = (vOf m10 p0) → ((0 ≤ v16 → (P v16 S)) ∧ (¬ 0 ≤ v16 → ((1 ≤ mc ∧ 6 ≤ ms) ∧ X "java/util/NoSuchElementException" S))))))))) ∧ ((zin p0 0 999) = 0 → ((1 ≤ mc ∧ 6 ≤ ms) ∧ X "java/lang/IllegalArgumentException" S))
set_option maxRecDepth 100000 in
set_option maxHeartbeats 4000000 in
theorem t_X10_versionOn {p : Program} {l : Launch} {e : Env} {s : State} {m : MethodId} {args : Array Value} {below : List Frame} {meth : Method} {c : Code} {D : va_G} {A : Nat → Prop} {T : Nat → ClassId} (C : GC p s m args meth c cX10_versionOn "FreightRater" (ws_X10_versionOn) 3 D A (zty T)) (E : GE T A s) (hst : l.stackTraces = false) (htab : ∀ z ∈ c.exceptionTable.toList, False) (hr : meth.sig.returnType = (some .int)) (P : Int32 → HS → Prop) (X : String → HS → Prop) : ∀ (x0 : Nat) (p0 : Int32) (S0 S : HS) (mc ms : Nat) (L : List Nat), S0 = S → wt S → hL S L → (hK S x0 = 11) → wp_X10_versionOn P X x0 p0 S mc ms → GW p l e { rm_X10_versionOn with cells := mc, slots := ms } s m args below meth c D A 3 mc ms (vx_MQ below (va_Qi (fun v (u : HS × List Nat) => P v u.1 ∧ CO S0 u) (CE D T A) A) (CXX D T A S0 X) args s mc ms A) (CW T S L) mc ms 0 [(0, .ref x0), (1, .int p0)] [] := by
  have hW : ∀ {w : Cond}, w ∈ W0 → w.before args s = true := fun h => C.2.2.2.2.1 _ (List.mem_cons_of_mem _ h)
  intro x0 p0 S0 S mc ms L hS0 hw hL hx0 h
  have he : ext S0 S := by rw [hS0]; exact ext_rf
  unfold wp_X10_versionOn at h
  refine g_iload_n C dX10_versionOn_0 rfl 1 rfl ?_
  refine g_iconst (v := 0) C dX10_versionOn_1 (by decide) ?_
  refine g_sipush (v := 999) C dX10_versionOn_2 (by decide) ?_
  refine gc_calliS (host := "") C E hw hL [.int p0, .int 0, .int 999] rfl (k_X10_isBetween l D T p0 0 999 S ) (w0_S 3 C.2.2.2.2.1 kw_303 kw_304 kw_1 kw_305 rfl rfl (by decide +kernel) ⟨Nat.le_of_ble_eq_true rfl, Nat.le_of_ble_eq_true rfl⟩) rfl (Nat.le_of_ble_eq_true rfl) (Nat.le_refl _) (Nat.le_refl _) (Nat.zero_le _) (Nat.zero_le _) dX10_versionOn_5 (fun v9 S9 L1 he9 hw9 hL9 hp => ?_)
  obtain ⟨hv9, hs9⟩ := hp
  replace hs9 := hs9.symm
  subst hs9
  replace hv9 := hv9.symm
  subst hv9
  have w4 := hL9
  refine g_if_ne (tgt := 19) C dX10_versionOn_8 (by decide) (fun z5 => ?_) (fun z5 => ?_)
  · replace h := h.1 z5
    refine g_aload_n C dX10_versionOn_19 rfl 0 rfl ?_
    refine gc_getR C hw iwx_X10 w4 hx0 (by decide) (by decide) rfl 0 (by decide) (hW kw_242) rfl rfl rfl dX10_versionOn_20 (fun o6 eo6 ko6 => ?_)
    obtain ⟨b7, hb9, h⟩ := h
    have g8 : hK S b7 = 7 := ko6 b7 (eo6.trans hb9)
    replace h := h g8
    refine g_opt (eo6.trans hb9) ?_
    refine g_iload_n C dX10_versionOn_23 rfl 1 rfl ?_
    obtain ⟨m9, m10, h⟩ := h
    obtain ⟨g11, h⟩ := h
    refine gc_calliV (host := "") C E hw w4 g8 (by decide) (by decide) rfl [.int p0] rfl (k_X6_versionFor l D T b7 p0 S m9 m10 g8 g11) (w0_V 1 C.2.2.2.2.1 kw_988 kw_989 kw_990 kw_2 kw_991 rfl rfl (by decide +kernel) ⟨Nat.le_of_ble_eq_true rfl, Nat.le_of_ble_eq_true rfl⟩) rfl (Nat.le_of_ble_eq_true rfl) (Nat.le_refl _) (Nat.le_refl _) (Nat.zero_le _) (Nat.zero_le _) dX10_versionOn_24 (fun v9 S9 L12 he9 hw9 hL9 hp => ?_)
    obtain ⟨hv9, hs9⟩ := hp
    replace hs9 := hs9.symm
    subst hs9
    replace hv9 := hv9.symm
    subst hv9
    have w15 := hL9
    refine g_topi (fun v16 ev16 => ?_)
    replace h := h v16 ev16
    refine g_istore_n (lv' := [(2, .int v16), (0, .ref x0), (1, .int p0)]) C dX10_versionOn_27 rfl (by decide) rfl ?_
    refine g_iload_n C dX10_versionOn_28 rfl 0 rfl ?_
    refine g_if_ge (tgt := 40) C dX10_versionOn_29 (by decide) (fun z17 => ?_) (fun z17 => ?_)
    · replace h := h.1 z17
      refine g_iload_n C dX10_versionOn_40 rfl 0 rfl ?_
      exact gx_iret C hw w15 he hr dX10_versionOn_41 h
    · replace h := h.2 z17
      obtain ⟨g18, h⟩ := h
      exact gx_throw (cls := "java/util/NoSuchElementException") (names := ["java/lang/RuntimeException", "java/lang/Exception"]) C E hst hw w15 he (Nat.le_refl _) (Nat.le_refl _) (by decide) (by decide) (hW kw_966) (hW kw_34) (th_FreightRater_136 hW E) tv_FreightRater_136 dX10_versionOn_32 dX10_versionOn_35 dX10_versionOn_36 dX10_versionOn_39 htab (Nat.le_of_ble_eq_true rfl) (Nat.le_of_ble_eq_true rfl) g18.1 g18.2 h
  · replace h := h.2 z5
    obtain ⟨g19, h⟩ := h
    exact gx_throw (cls := "java/lang/IllegalArgumentException") (names := ["java/lang/RuntimeException", "java/lang/Exception"]) C E hst hw w4 he (Nat.le_refl _) (Nat.le_refl _) (by decide) (by decide) (hW kw_310) (hW kw_13) (th_FreightRater_62 hW E) tv_FreightRater_62 dX10_versionOn_11 dX10_versionOn_14 dX10_versionOn_15 dX10_versionOn_18 htab (Nat.le_of_ble_eq_true rfl) (Nat.le_of_ble_eq_true rfl) g19.1 g19.2 h
theorem c_X10_versionOn (l : Launch) (hst : l.stackTraces = false) (D : va_G) (T : Nat → ClassId) (x0 : Nat) (p0 : Int32) (S : HS) (mc ms : Nat) (hx0 : hK S x0 = 11) (P : Int32 → HS → Prop) (X : String → HS → Prop) (h : wp_X10_versionOn P X x0 p0 S mc ms) : CXi l yX10_versionOn (ws_X10_versionOn) rm_X10_versionOn D T [.ref x0, .int p0] S mc ms P X := gx_meti (by decide) rfl rfl (Nat.le_of_ble_eq_true rfl) (fun p e s m args below meth c A L C E hnm hr htab hw hL => t_X10_versionOn C E hst htab hr P X x0 p0 S S mc ms L rfl hw hL hx0 h)
def wp_X10_requireSet (P : HS → Prop) (X : String → HS → Prop) (x0 : Nat) (p0 : Int32) (S : HS) (mc ms : Nat) : Prop := ∃ cc1 cc2 : Nat, (cc1 ≤ mc ∧ cc2 ≤ ms) ∧ (∃ (m4 : (Nat → Nat)) (m5 : (Nat → Nat → Int32)) (m6 : (Nat → Int32)) (m7 : (Nat → Int32)) (m8 : (List Int32)), ((FrS S m4 m5 m6 m7 m8 ∧ x0 = m4 50 ∧ 1 ≤ cc1 ∧ 6 ≤ cc2) ∧ ((∀ (E9 : String) (S9 : HS), ext S S9 → (grpF (m5 0) p0 = 0 ∧ E9 = "java/lang/IndexOutOfBoundsException" ∧ S9 = S) → X E9 S9) ∧ (∀ (S10 : HS), ext S S10 → (grpF (m5 0) p0 = 1 ∧ S10 = S) → (∃ (m18 : Nat), ((m18 < 1024 ∧ p0 = nI m18) ∧ (((nI (popN m18)) ≤ 8 → (P S10)) ∧ (¬ (nI (popN m18)) ≤ 8 → ((1 ≤ (mc - cc1) ∧ 6 ≤ (ms - cc2)) ∧ X "java/lang/IllegalArgumentException" S10)))))))))
set_option maxRecDepth 100000 in
set_option maxHeartbeats 4000000 in
theorem t_X10_requireSet {p : Program} {l : Launch} {e : Env} {s : State} {m : MethodId} {args : Array Value} {below : List Frame} {meth : Method} {c : Code} {D : va_G} {A : Nat → Prop} {T : Nat → ClassId} (C : GC p s m args meth c cX10_requireSet "FreightRater" (ws_X10_requireSet) 2 D A (zty T)) (E : GE T A s) (hst : l.stackTraces = false) (htab : ∀ z ∈ c.exceptionTable.toList, False) (hr : meth.sig.returnType = none) (P : HS → Prop) (X : String → HS → Prop) : ∀ (x0 : Nat) (p0 : Int32) (S0 S : HS) (mc ms : Nat) (L : List Nat), S0 = S → wt S → hL S L → (hK S x0 = 11) → wp_X10_requireSet P X x0 p0 S mc ms → GW p l e { rm_X10_requireSet with cells := mc, slots := ms } s m args below meth c D A 2 mc ms (vx_MQ below (va_Qv (fun (u : HS × List Nat) => P u.1 ∧ CO S0 u) (CE D T A) A) (CXX D T A S0 X) args s mc ms A) (CW T S L) mc ms 0 [(0, .ref x0), (1, .int p0)] [] := by
  have hW : ∀ {w : Cond}, w ∈ W0 → w.before args s = true := fun h => C.2.2.2.2.1 _ (List.mem_cons_of_mem _ h)
  intro x0 p0 S0 S mc ms L hS0 hw hL hx0 h
  have he : ext S0 S := by rw [hS0]; exact ext_rf
  unfold wp_X10_requireSet at h
  refine g_aload_n C dX10_requireSet_0 rfl 0 rfl ?_
  refine g_iload_n C dX10_requireSet_1 rfl 1 rfl ?_
  obtain ⟨cc1, cc2, g3, h⟩ := h
  obtain ⟨m4, m5, m6, m7, m8, h⟩ := h
  obtain ⟨g9, h⟩ := h
  obtain ⟨g15, h⟩ := h
  refine gx_callvV (host := "") C E hw hL hx0 (by decide) (by decide) rfl [.int p0] rfl (k_X10_requireGroup l hst D T x0 p0 S m4 m5 m6 m7 m8 cc1 cc2 hx0 g9) (w0_V 1 C.2.2.2.2.1 kw_1191 kw_1193 ks_26 kw_1 kw_1194 rfl rfl (by decide +kernel) ⟨Nat.le_of_ble_eq_true rfl, Nat.le_of_ble_eq_true rfl⟩) rfl (Nat.le_of_ble_eq_true rfl) (Nat.le_refl _) (Nat.le_refl _) g3.1 g3.2 dX10_requireSet_2 he htab g15 (fun S10 L11 e12 w13 w14 hp => ?_)
  replace h := h S10 e12 hp
  have g16 := ext_K e12 hx0 (by decide)
  have w17 := ext_tr he e12
  refine g_iload_n C dX10_requireSet_5 rfl 1 rfl ?_
  obtain ⟨m18, h⟩ := h
  obtain ⟨g19, h⟩ := h
  refine gc_calliS (host := "") C E w13 w14 [.int p0] rfl (k_J6_bitCount_0f7a4 l D T p0 S10 m18  g19) (w0_S 1 C.2.2.2.2.1 kw_1334 kw_1335 kw_37 kw_1336 rfl rfl (by decide +kernel) ⟨Nat.le_of_ble_eq_true rfl, Nat.le_of_ble_eq_true rfl⟩) rfl (Nat.le_of_ble_eq_true rfl) (Nat.le_refl _) (Nat.le_refl _) (Nat.zero_le _) (Nat.zero_le _) dX10_requireSet_6 (fun v9 S9 L20 he9 hw9 hL9 hp => ?_)
  obtain ⟨hv9, hs9⟩ := hp
  replace hs9 := hs9.symm
  subst hs9
  replace hv9 := hv9.symm
  subst hv9
  have w23 := hL9
  refine g_bipush (v := 8) C dX10_requireSet_9 (by decide) ?_
  refine g_icmp_le (tgt := 22) C dX10_requireSet_11 (by decide) (fun z24 => ?_) (fun z24 => ?_)
  · replace h := h.1 z24
    exact gx_vret C w13 w23 w17 hr dX10_requireSet_22 h
  · replace h := h.2 z24
    obtain ⟨g25, h⟩ := h
    exact gx_throw (cls := "java/lang/IllegalArgumentException") (names := ["java/lang/RuntimeException", "java/lang/Exception"]) C E hst w13 w23 w17 (Nat.le_refl _) (Nat.le_refl _) (by decide) (by decide) (hW kw_310) (hW kw_13) (th_FreightRater_62 hW E) tv_FreightRater_62 dX10_requireSet_14 dX10_requireSet_17 dX10_requireSet_18 dX10_requireSet_21 htab (Nat.le_of_ble_eq_true rfl) (Nat.le_of_ble_eq_true rfl) g25.1 g25.2 h
theorem c_X10_requireSet (l : Launch) (hst : l.stackTraces = false) (D : va_G) (T : Nat → ClassId) (x0 : Nat) (p0 : Int32) (S : HS) (mc ms : Nat) (hx0 : hK S x0 = 11) (P : HS → Prop) (X : String → HS → Prop) (h : wp_X10_requireSet P X x0 p0 S mc ms) : CXv l yX10_requireSet (ws_X10_requireSet) rm_X10_requireSet D T [.ref x0, .int p0] S mc ms P X := gx_metv (by decide) rfl rfl (Nat.le_of_ble_eq_true rfl) (fun p e s m args below meth c A L C E hnm hr htab hw hL => t_X10_requireSet C E hst htab hr P X x0 p0 S S mc ms L rfl hw hL hx0 h)
def wp_X10_makeVersion_53 (P : Int32 → HS → Prop) (X : String → HS → Prop) (x0 : Nat) (x1 : Int32) (s0 : (Option Nat)) (S : HS) (kc ks : Nat) : Prop := (s0 = none → ((1 ≤ kc ∧ 6 ≤ ks) ∧ X "java/lang/IndexOutOfBoundsException" S)) ∧ (∀ b33 : Nat, s0 = some b33 → hK S b33 = 10 → (∃ b37 : Nat, hR S 220 x0 = some b37 ∧ (hK S b37 = 7 → (((hI S 141 b37) < 6 → (∃ (m40 : (Nat → Nat)) (m41 : (Nat → Nat → Int32)) (m42 : (Nat → Int32)) (m43 : (Nat → Int32)) (m44 : (List Int32)), ((FrS S m40 m41 m42 m43 m44 ∧ x0 = m40 50) ∧ (∀ (S46 : HS), ext S S46 → (FrS S46 m40 (rmU m41 m42) (rmG m42) m43 m44 ∧ frM S S46 (fxM m40) ∧ hK S46 = hK S ∧ hR S46 = hR S ∧ (∀ i, 54 ≤ i → i < 64 → sam S S46 (m40 i))) → ((1 ≤ kc ∧ 11 ≤ ks) ∧ (∀ q54 : Nat, hK S46 q54 = 0 → zr S46 q54 → (∀ S62 : HS, S62 = newO S46 q54 10 → (∃ cc69 cc70 : Nat, (cc69 ≤ (kc - 1) ∧ cc70 ≤ (ks - 11)) ∧ (∃ (m72 : (Nat → Prop)) (m73 : Nat → Int32) (m74 : Nat), ((WF m73 ∧ m74 < 6 ∧ RelV S62 m72 b33 m73 m74 ∧ b33 ≠ q54 ∧ ¬ m72 q54 ∧ (∀ b, m72 b → hK S62 b ≠ 0) ∧ 32 ≤ cc69 ∧ 181 ≤ cc70) ∧ (∀ (S76 : HS), ext S62 S76 → (frM S62 S76 (fun b => b = q54) ∧ RelV S76 m72 q54 m73 m74 ∧ ∃ a, OwV S76 q54 a ∧ ∀ i, 0 < i → i < 33 → hK S62 (a i) = 0) → (∀ S86 : HS, S86 = putI S76 200 q54 x1 → (∃ b94 : Nat, hR S86 220 x0 = some b94 ∧ (hK S86 b94 = 7 → (∃ (m96 : Nat) (m97 : Nat), ((hR S86 140 b94 = some m96 ∧ hK S86 m96 = 29 ∧ hN S86 m96 = 6 ∧ hI S86 141 b94 = nI m97 ∧ m97 < 6) ∧ (∀ (v104 : Int32) (S99 : HS), ext S86 S99 → (v104 = nI m97 ∧ S99 = putI (putB S86 m96 m97 (some q54)) 141 b94 (nI (m97 + 1))) → (P v104 S99)))))))))))))))))) ∧ (¬ (hI S 141 b37) < 6 → ((1 ≤ kc ∧ 6 ≤ ks) ∧ X "java/lang/IllegalStateException" S))))))
set_option maxRecDepth 100000 in
set_option maxHeartbeats 4000000 in
theorem t_X10_makeVersion_53 {p : Program} {l : Launch} {e : Env} {s : State} {m : MethodId} {args : Array Value} {below : List Frame} {meth : Method} {c : Code} {D : va_G} {A : Nat → Prop} {T : Nat → ClassId} {mc ms : Nat} (C : GC p s m args meth c cX10_makeVersion "FreightRater" (ws_X10_makeVersion) 5 D A (zty T)) (E : GE T A s) (hst : l.stackTraces = false) (htab : ∀ z ∈ c.exceptionTable.toList, False) (hr : meth.sig.returnType = (some .int)) (S0 : HS) (P : Int32 → HS → Prop) (X : String → HS → Prop) : ∀ (x0 : Nat) (x1 : Int32) (s0 : (Option Nat)) (S : HS) (kc ks : Nat) (L : List Nat), wt S → hL S L → ext S0 S → (hK S x0 = 11) → (∀ b, s0 = some b → hK S b = 10) → wp_X10_makeVersion_53  P X x0 x1 s0 S kc ks → GW p l e { rm_X10_makeVersion with cells := mc, slots := ms } s m args below meth c D A 5 mc ms (vx_MQ below (va_Qi (fun v (u : HS × List Nat) => P v u.1 ∧ CO S0 u) (CE D T A) A) (CXX D T A S0 X) args s mc ms A) (CW T S L) kc ks 53 [(0, .ref x0), (1, .int x1)] [va_rf s0] := by
  have hW : ∀ {w : Cond}, w ∈ W0 → w.before args s = true := fun h => C.2.2.2.2.1 _ (List.mem_cons_of_mem _ h)
  intro x0 x1 s0 S kc ks L hw hL he hx0 hs0 h
  unfold wp_X10_makeVersion_53 at h
  refine g_qstore_n (lv' := [(3, va_rf s0), (0, .ref x0), (1, .int x1)]) C dX10_makeVersion_53 rfl (by decide) rfl ?_
  refine g_qload_n C dX10_makeVersion_54 rfl 0 rfl ?_
  rcases s0 with _ | b33
  · replace h := h.1 rfl
    refine g_ifnonnullN C dX10_makeVersion_55 ?_
    obtain ⟨g35, h⟩ := h
    exact gx_throw (cls := "java/lang/IndexOutOfBoundsException") (names := ["java/lang/RuntimeException", "java/lang/Exception"]) C E hst hw hL he (Nat.le_refl _) (Nat.le_refl _) (by decide) (by decide) (hW kw_465) (hW kw_16) (th_FreightRater_72 hW E) tv_FreightRater_72 dX10_makeVersion_58 dX10_makeVersion_61 dX10_makeVersion_62 dX10_makeVersion_65 htab (Nat.le_of_ble_eq_true rfl) (Nat.le_of_ble_eq_true rfl) g35.1 g35.2 h
  · have g34 : hK S b33 = 10 := hs0 b33 rfl
    replace h := h.2 b33 rfl g34
    refine g_ifnonnull (tgt := 66) C dX10_makeVersion_55 (by decide) ?_
    refine g_aload_n C dX10_makeVersion_66 rfl 1 rfl ?_
    refine gc_getR C hw iwx_X10 hL hx0 (by decide) (by decide) rfl 0 (by decide) (hW kw_242) rfl rfl rfl dX10_makeVersion_67 (fun o36 eo36 ko36 => ?_)
    obtain ⟨b37, hb9, h⟩ := h
    have g38 : hK S b37 = 7 := ko36 b37 (eo36.trans hb9)
    replace h := h g38
    refine g_opt (eo36.trans hb9) ?_
    refine gc_getI C iwx_X6 hL g38 (by decide) (by decide) rfl 1 (by decide) (hW kw_60) rfl rfl rfl dX10_makeVersion_70 ?_
    refine g_bipush (v := 6) C dX10_makeVersion_73 (by decide) ?_
    refine g_icmp_lt (tgt := 86) C dX10_makeVersion_75 (by decide) (fun z39 => ?_) (fun z39 => ?_)
    · replace h := h.1 z39
      refine g_aload_n C dX10_makeVersion_86 rfl 1 rfl ?_
      obtain ⟨m40, m41, m42, m43, m44, h⟩ := h
      obtain ⟨g45, h⟩ := h
      refine gc_callvV (host := "") C E hw hL hx0 (by decide) (by decide) rfl [] rfl (k_X10_remember l D T x0 S m40 m41 m42 m43 m44 hx0 g45) (w0_V 0 C.2.2.2.2.1 kw_495 kw_497 ks_1 kw_1 kw_498 rfl rfl (by decide +kernel) ⟨Nat.le_of_ble_eq_true rfl, Nat.le_of_ble_eq_true rfl⟩) rfl (Nat.le_of_ble_eq_true rfl) (Nat.le_refl _) (Nat.le_refl _) (Nat.zero_le _) (Nat.zero_le _) dX10_makeVersion_87 (fun S46 L47 e48 w49 w50 hp => ?_)
      replace h := h S46 e48 hp
      have g51 := ext_K e48 g34 (by decide)
      have g52 := ext_K e48 hx0 (by decide)
      have w53 := ext_tr he e48
      obtain ⟨g55, h⟩ := h
      refine gc_new (kd := 10) (N := 11) C w49 w50 (Nat.le_refl _) (Nat.le_refl _) iwx_X9 tyX9 tyX9_ok (by decide) (by decide) rfl (fun j hj => by rcases (show j = 0 ∨ j = 1 ∨ j = 2 ∨ j = 3 ∨ j = 4 ∨ j = 5 ∨ j = 6 ∨ j = 7 ∨ j = 8 ∨ j = 9 ∨ j = 10 by omega) with rfl | rfl | rfl | rfl | rfl | rfl | rfl | rfl | rfl | rfl | rfl <;> rfl) (hW kw_378) (hW kw_379) (hW kw_14) g55.1 g55.2 dX10_makeVersion_90 (fun q54 h0q54 zq54 => ?_)
      replace h := h q54 h0q54 zq54
      have g56 := newO_old 10 g51 (by decide) h0q54
      have g57 := newO_old 10 g52 (by decide) h0q54
      have w58 := wt_newO w49 10 h0q54 (by decide)
      have w59 := hL_new (S' := newO S46 q54 10) w50 (show 10 ≠ 0 by decide) rfl
      have w60 := ext_newO w53 h0q54 10
      have g61 := newO_self S46 q54 10
      refine gc_nS (fun S62 eS62 => ?_)
      replace h := h S62 eS62
      have w63 : wt S62 := by rw [eS62]; exact w58
      have w64 : isL S62 (L47 ++ [q54]) := by rw [eS62]; exact w59
      have w65 : ext S0 S62 := by rw [eS62]; exact w60
      have g66 : hK S62 q54 = 10 := by rw [eS62]; exact g61
      have g67 : hK S62 b33 = 10 := by rw [eS62]; exact g56
      have g68 : hK S62 x0 = 11 := by rw [eS62]; exact g57
      refine g_dup C dX10_makeVersion_93 rfl ?_
      refine g_aload_n C dX10_makeVersion_94 rfl 0 rfl ?_
      obtain ⟨cc69, cc70, g71, h⟩ := h
      obtain ⟨m72, m73, m74, h⟩ := h
      obtain ⟨g75, h⟩ := h
      refine gc_callvI (host := "") (ret := none) C E w63 w64 [.ref b33] rfl (k_X9_init_ l D T q54 b33 S62 m72 m73 m74 cc69 cc70 g66 g67 g75) (w0_I 1 C.2.2.2.2.1 kw_502 kw_503 kw_14 kw_504 rfl rfl rfl (by decide +kernel) ⟨Nat.le_of_ble_eq_true rfl, Nat.le_of_ble_eq_true rfl⟩) rfl (Nat.le_of_ble_eq_true rfl) (Nat.le_refl _) (Nat.le_refl _) g71.1 g71.2 dX10_makeVersion_95 (fun S76 L77 e78 w79 w80 hp => ?_)
      replace h := h S76 e78 hp
      have g81 := ext_K e78 g66 (by decide)
      have g82 := ext_K e78 g67 (by decide)
      have g83 := ext_K e78 g68 (by decide)
      have w84 := ext_tr w65 e78
      refine g_astore (lv' := [(4, .ref q54), (3, .ref b33), (0, .ref x0), (1, .int x1)]) C dX10_makeVersion_98 (by decide) rfl ?_
      refine g_aload C dX10_makeVersion_100 0 rfl ?_
      refine g_iload_n C dX10_makeVersion_102 rfl 3 rfl ?_
      refine gc_putI C iwx_X9 w80 g81 (by decide) (by decide) rfl 0 (by decide) (hW kw_415) rfl tyX9 tyX9_ok nmX9 rfl rfl rfl rfl rfl dX10_makeVersion_103 ?_
      have w85 := wt_putI w79 200 x1 (k_ne g81 (by decide))
      refine gc_nS (fun S86 eS86 => ?_)
      replace h := h S86 eS86
      have w87 : wt S86 := by rw [eS86]; exact w85
      have w88 : isL S86 L77 := by rw [eS86]; exact w80
      have w89 : ext S0 S86 := by rw [eS86]; exact w84
      have g90 : hK S86 q54 = 10 := by rw [eS86]; exact g81
      have g91 : hK S86 b33 = 10 := by rw [eS86]; exact g82
      have g92 : hK S86 x0 = 11 := by rw [eS86]; exact g83
      refine g_aload_n C dX10_makeVersion_106 rfl 2 rfl ?_
      refine gc_getR C w87 iwx_X10 w88 g92 (by decide) (by decide) rfl 0 (by decide) (hW kw_242) rfl rfl rfl dX10_makeVersion_107 (fun o93 eo93 ko93 => ?_)
      obtain ⟨b94, hb9, h⟩ := h
      have g95 : hK S86 b94 = 7 := ko93 b94 (eo93.trans hb9)
      replace h := h g95
      refine g_opt (eo93.trans hb9) ?_
      refine g_aload C dX10_makeVersion_110 0 rfl ?_
      obtain ⟨m96, m97, h⟩ := h
      obtain ⟨g98, h⟩ := h
      refine gc_calliV (host := "") C E w87 w88 g95 (by decide) (by decide) rfl [.ref q54] rfl (k_X6_addVersion l D T b94 q54 S86 m96 m97 g95 g90 g98) (w0_V 1 C.2.2.2.2.1 kw_517 kw_518 kw_519 kw_2 kw_520 rfl rfl (by decide +kernel) ⟨Nat.le_of_ble_eq_true rfl, Nat.le_of_ble_eq_true rfl⟩) rfl (Nat.le_of_ble_eq_true rfl) (Nat.le_refl _) (Nat.le_refl _) (Nat.zero_le _) (Nat.zero_le _) dX10_makeVersion_112 (fun v104 S99 L100 e101 w102 w103 hp => ?_)
      replace h := h v104 S99 e101 hp
      have g105 := ext_K e101 g90 (by decide)
      have g106 := ext_K e101 g91 (by decide)
      have g107 := ext_K e101 g92 (by decide)
      have w108 := ext_tr w89 e101
      exact gx_iret C w102 w103 w108 hr dX10_makeVersion_115 h
    · replace h := h.2 z39
      obtain ⟨g109, h⟩ := h
      exact gx_throw (cls := "java/lang/IllegalStateException") (names := ["java/lang/RuntimeException", "java/lang/Exception"]) C E hst hw hL he (Nat.le_refl _) (Nat.le_refl _) (by decide) (by decide) (hW kw_480) (hW kw_17) (th_FreightRater_78 hW E) tv_FreightRater_78 dX10_makeVersion_78 dX10_makeVersion_81 dX10_makeVersion_82 dX10_makeVersion_85 htab (Nat.le_of_ble_eq_true rfl) (Nat.le_of_ble_eq_true rfl) g109.1 g109.2 h
def wp_X10_makeVersion (P : Int32 → HS → Prop) (X : String → HS → Prop) (x0 : Nat) (p0 : Int32) (p1 : Int32) (S : HS) (mc ms : Nat) : Prop := ((zin p0 0 999) = 0 → ((1 ≤ mc ∧ 6 ≤ ms) ∧ X "java/lang/IllegalArgumentException" S)) ∧ (¬ (zin p0 0 999) = 0 → (∃ b8 : Nat, hR S 220 x0 = some b8 ∧ (hK S b8 = 7 → (∃ (m10 : (Nat → Prop)) (m11 : Nat → Int32), ((WF m11 ∧ RelSt S m10 b8 m11) ∧ (((b2i (hdF' m11 p0 (iv (m11 0)) 0)) = 0 → ((¬ p1 = (-1) → (∃ b20 : Nat, hR S 220 x0 = some b20 ∧ (hK S b20 = 7 → (∃ (m22 : (Nat → Prop)) (m23 : Nat → Int32), ((WF m23 ∧ RelSt S m22 b20 m23) ∧ (∀ (o30 : Option Nat) (S25 : HS), ext S S25 → (∀ b, o30 = some b → hK S25 b = 10) → (S25 = S ∧ (zin p1 0 (m23 0 - 1) = 0 → o30 = none) ∧ (¬ zin p1 0 (m23 0 - 1) = 0 → ∃ y, o30 = some y ∧ RelV S m22 y m23 (iv p1))) → (wp_X10_makeVersion_53  P X x0 p0 o30 S25 mc ms))))))) ∧ (p1 = (-1) → ((1 ≤ mc ∧ 11 ≤ ms) ∧ (∀ q110 : Nat, hK S q110 = 0 → zr S q110 → (∀ S117 : HS, S117 = newO S q110 10 → (∃ cc123 cc124 : Nat, (cc123 ≤ (mc - 1) ∧ cc124 ≤ (ms - 11)) ∧ (∃ (m126 : (Nat → Prop)), ((zr S117 q110 ∧ ¬ m126 q110 ∧ (∀ b, m126 b → hK S117 b ≠ 0) ∧ 32 ≤ cc123 ∧ 181 ≤ cc124) ∧ (∀ (S128 : HS), ext S117 S128 → (frM S117 S128 (fun b => b = q110) ∧ RelV S128 m126 q110 dfV 0) → (wp_X10_makeVersion_53  P X x0 p0 (some q110) S128 ((mc - 1) - cc123) ((ms - 11) - cc124)))))))))))) ∧ (¬ (b2i (hdF' m11 p0 (iv (m11 0)) 0)) = 0 → ((1 ≤ mc ∧ 6 ≤ ms) ∧ X "java/lang/IllegalArgumentException" S))))))))
set_option maxRecDepth 100000 in
set_option maxHeartbeats 4000000 in
theorem t_X10_makeVersion {p : Program} {l : Launch} {e : Env} {s : State} {m : MethodId} {args : Array Value} {below : List Frame} {meth : Method} {c : Code} {D : va_G} {A : Nat → Prop} {T : Nat → ClassId} (C : GC p s m args meth c cX10_makeVersion "FreightRater" (ws_X10_makeVersion) 5 D A (zty T)) (E : GE T A s) (hst : l.stackTraces = false) (htab : ∀ z ∈ c.exceptionTable.toList, False) (hr : meth.sig.returnType = (some .int)) (P : Int32 → HS → Prop) (X : String → HS → Prop) : ∀ (x0 : Nat) (p0 : Int32) (p1 : Int32) (S0 S : HS) (mc ms : Nat) (L : List Nat), S0 = S → wt S → hL S L → (hK S x0 = 11) → wp_X10_makeVersion P X x0 p0 p1 S mc ms → GW p l e { rm_X10_makeVersion with cells := mc, slots := ms } s m args below meth c D A 5 mc ms (vx_MQ below (va_Qi (fun v (u : HS × List Nat) => P v u.1 ∧ CO S0 u) (CE D T A) A) (CXX D T A S0 X) args s mc ms A) (CW T S L) mc ms 0 [(0, .ref x0), (1, .int p0), (2, .int p1)] [] := by
  have hW : ∀ {w : Cond}, w ∈ W0 → w.before args s = true := fun h => C.2.2.2.2.1 _ (List.mem_cons_of_mem _ h)
  intro x0 p0 p1 S0 S mc ms L hS0 hw hL hx0 h
  have he : ext S0 S := by rw [hS0]; exact ext_rf
  unfold wp_X10_makeVersion at h
  refine g_iload_n C dX10_makeVersion_0 rfl 1 rfl ?_
  refine g_iconst (v := 0) C dX10_makeVersion_1 (by decide) ?_
  refine g_sipush (v := 999) C dX10_makeVersion_2 (by decide) ?_
  refine gc_calliS (host := "") C E hw hL [.int p0, .int 0, .int 999] rfl (k_X10_isBetween l D T p0 0 999 S ) (w0_S 3 C.2.2.2.2.1 kw_303 kw_304 kw_1 kw_305 rfl rfl (by decide +kernel) ⟨Nat.le_of_ble_eq_true rfl, Nat.le_of_ble_eq_true rfl⟩) rfl (Nat.le_of_ble_eq_true rfl) (Nat.le_refl _) (Nat.le_refl _) (Nat.zero_le _) (Nat.zero_le _) dX10_makeVersion_5 (fun v9 S9 L1 he9 hw9 hL9 hp => ?_)
  obtain ⟨hv9, hs9⟩ := hp
  replace hs9 := hs9.symm
  subst hs9
  replace hv9 := hv9.symm
  subst hv9
  have w4 := hL9
  refine g_if_eq (tgt := 22) C dX10_makeVersion_8 (by decide) (fun z5 => ?_) (fun z5 => ?_)
  · replace h := h.1 z5
    obtain ⟨g6, h⟩ := h
    exact gx_throw (cls := "java/lang/IllegalArgumentException") (names := ["java/lang/RuntimeException", "java/lang/Exception"]) C E hst hw w4 he (Nat.le_refl _) (Nat.le_refl _) (by decide) (by decide) (hW kw_310) (hW kw_13) (th_FreightRater_62 hW E) tv_FreightRater_62 dX10_makeVersion_22 dX10_makeVersion_25 dX10_makeVersion_26 dX10_makeVersion_29 htab (Nat.le_of_ble_eq_true rfl) (Nat.le_of_ble_eq_true rfl) g6.1 g6.2 h
  · replace h := h.2 z5
    refine g_aload_n C dX10_makeVersion_11 rfl 0 rfl ?_
    refine gc_getR C hw iwx_X10 w4 hx0 (by decide) (by decide) rfl 0 (by decide) (hW kw_242) rfl rfl rfl dX10_makeVersion_12 (fun o7 eo7 ko7 => ?_)
    obtain ⟨b8, hb9, h⟩ := h
    have g9 : hK S b8 = 7 := ko7 b8 (eo7.trans hb9)
    replace h := h g9
    refine g_opt (eo7.trans hb9) ?_
    refine g_iload_n C dX10_makeVersion_15 rfl 1 rfl ?_
    obtain ⟨m10, m11, h⟩ := h
    obtain ⟨g12, h⟩ := h
    refine gc_calliV (host := "") C E hw w4 g9 (by decide) (by decide) rfl [.int p0] rfl (k_X6_hasFirstDay l D T b8 p0 S m10 m11 g9 g12) (w0_V 1 C.2.2.2.2.1 kw_306 kw_307 kw_308 kw_2 kw_309 rfl rfl (by decide +kernel) ⟨Nat.le_of_ble_eq_true rfl, Nat.le_of_ble_eq_true rfl⟩) rfl (Nat.le_of_ble_eq_true rfl) (Nat.le_refl _) (Nat.le_refl _) (Nat.zero_le _) (Nat.zero_le _) dX10_makeVersion_16 (fun v9 S9 L13 he9 hw9 hL9 hp => ?_)
    obtain ⟨hv9, hs9⟩ := hp
    replace hs9 := hs9.symm
    subst hs9
    replace hv9 := hv9.symm
    subst hv9
    have w16 := hL9
    refine g_if_eq (tgt := 30) C dX10_makeVersion_19 (by decide) (fun z17 => ?_) (fun z17 => ?_)
    · replace h := h.1 z17
      refine g_iload_n C dX10_makeVersion_30 rfl 2 rfl ?_
      refine g_iconst (v := -1) C dX10_makeVersion_31 (by decide) ?_
      refine g_icmp_ne (tgt := 45) C dX10_makeVersion_32 (by decide) (fun z18 => ?_) (fun z18 => ?_)
      · replace h := h.1 z18
        refine g_aload_n C dX10_makeVersion_45 rfl 0 rfl ?_
        refine gc_getR C hw iwx_X10 w16 hx0 (by decide) (by decide) rfl 0 (by decide) (hW kw_242) rfl rfl rfl dX10_makeVersion_46 (fun o19 eo19 ko19 => ?_)
        obtain ⟨b20, hb9, h⟩ := h
        have g21 : hK S b20 = 7 := ko19 b20 (eo19.trans hb9)
        replace h := h g21
        refine g_opt (eo19.trans hb9) ?_
        refine g_iload_n C dX10_makeVersion_49 rfl 2 rfl ?_
        obtain ⟨m22, m23, h⟩ := h
        obtain ⟨g24, h⟩ := h
        refine gc_callqV (host := "") C E hw w16 g21 (by decide) (by decide) rfl [.int p1] rfl (k_X6_versionAt l D T b20 p1 S m22 m23 g21 g24) (w0_V 1 C.2.2.2.2.1 kw_460 kw_461 kw_462 kw_2 kw_463 rfl rfl (by decide +kernel) ⟨Nat.le_of_ble_eq_true rfl, Nat.le_of_ble_eq_true rfl⟩) rfl (Nat.le_of_ble_eq_true rfl) (Nat.le_refl _) (Nat.le_refl _) (Nat.zero_le _) (Nat.zero_le _) dX10_makeVersion_50 (fun o30 S25 L26 e27 w28 w29 ko30 hp => ?_)
        replace h := h o30 S25 e27 ko30 hp
        have g31 := ext_K e27 hx0 (by decide)
        have w32 := ext_tr he e27
        refine g_locals [0, 1] rfl ?_
        refine t_X10_makeVersion_53 C E hst htab hr S0  P X  x0 p0 o30 S25 mc ms L26 w28 w29 w32 g31 ko30 h
      · replace h := h.2 z18
        obtain ⟨g111, h⟩ := h
        refine gc_new (kd := 10) (N := 11) C hw w16 (Nat.le_refl _) (Nat.le_refl _) iwx_X9 tyX9 tyX9_ok (by decide) (by decide) rfl (fun j hj => by rcases (show j = 0 ∨ j = 1 ∨ j = 2 ∨ j = 3 ∨ j = 4 ∨ j = 5 ∨ j = 6 ∨ j = 7 ∨ j = 8 ∨ j = 9 ∨ j = 10 by omega) with rfl | rfl | rfl | rfl | rfl | rfl | rfl | rfl | rfl | rfl | rfl <;> rfl) (hW kw_378) (hW kw_379) (hW kw_14) g111.1 g111.2 dX10_makeVersion_35 (fun q110 h0q110 zq110 => ?_)
        replace h := h q110 h0q110 zq110
        have g112 := newO_old 10 hx0 (by decide) h0q110
        have w113 := wt_newO hw 10 h0q110 (by decide)
        have w114 := hL_new (S' := newO S q110 10) w16 (show 10 ≠ 0 by decide) rfl
        have w115 := ext_newO he h0q110 10
        have g116 := newO_self S q110 10
        refine gc_nS (fun S117 eS117 => ?_)
        replace h := h S117 eS117
        have w118 : wt S117 := by rw [eS117]; exact w113
        have w119 : isL S117 (L13 ++ [q110]) := by rw [eS117]; exact w114
        have w120 : ext S0 S117 := by rw [eS117]; exact w115
        have g121 : hK S117 q110 = 10 := by rw [eS117]; exact g116
        have g122 : hK S117 x0 = 11 := by rw [eS117]; exact g112
        refine g_dup C dX10_makeVersion_38 rfl ?_
        obtain ⟨cc123, cc124, g125, h⟩ := h
        obtain ⟨m126, h⟩ := h
        obtain ⟨g127, h⟩ := h
        refine gc_callvI (host := "") (ret := none) C E w118 w119 [] rfl (k_X9_init l D T q110 S117 m126 cc123 cc124 g121 g127) (w0_I 0 C.2.2.2.2.1 kw_380 kw_381 kw_14 kw_382 rfl rfl rfl (by decide +kernel) ⟨Nat.le_of_ble_eq_true rfl, Nat.le_of_ble_eq_true rfl⟩) rfl (Nat.le_of_ble_eq_true rfl) (Nat.le_refl _) (Nat.le_refl _) g125.1 g125.2 dX10_makeVersion_39 (fun S128 L129 e130 w131 w132 hp => ?_)
        replace h := h S128 e130 hp
        have g133 := ext_K e130 g121 (by decide)
        have g134 := ext_K e130 g122 (by decide)
        have w135 := ext_tr w120 e130
        refine g_goto (tgt := 53) C dX10_makeVersion_42 (by decide) ?_
        refine g_locals [0, 1] rfl ?_
        refine t_X10_makeVersion_53 C E hst htab hr S0  P X  x0 p0 (some q110) S128 ((mc - 1) - cc123) ((ms - 11) - cc124) L129 w131 w132 w135 g134 (fun b hb => by cases hb; exact g133) h
    · replace h := h.2 z17
      obtain ⟨g136, h⟩ := h
      exact gx_throw (cls := "java/lang/IllegalArgumentException") (names := ["java/lang/RuntimeException", "java/lang/Exception"]) C E hst hw w16 he (Nat.le_refl _) (Nat.le_refl _) (by decide) (by decide) (hW kw_310) (hW kw_13) (th_FreightRater_62 hW E) tv_FreightRater_62 dX10_makeVersion_22 dX10_makeVersion_25 dX10_makeVersion_26 dX10_makeVersion_29 htab (Nat.le_of_ble_eq_true rfl) (Nat.le_of_ble_eq_true rfl) g136.1 g136.2 h
theorem c_X10_makeVersion (l : Launch) (hst : l.stackTraces = false) (D : va_G) (T : Nat → ClassId) (x0 : Nat) (p0 : Int32) (p1 : Int32) (S : HS) (mc ms : Nat) (hx0 : hK S x0 = 11) (P : Int32 → HS → Prop) (X : String → HS → Prop) (h : wp_X10_makeVersion P X x0 p0 p1 S mc ms) : CXi l yX10_makeVersion (ws_X10_makeVersion) rm_X10_makeVersion D T [.ref x0, .int p0, .int p1] S mc ms P X := gx_meti (by decide) rfl rfl (Nat.le_of_ble_eq_true rfl) (fun p e s m args below meth c A L C E hnm hr htab hw hL => t_X10_makeVersion C E hst htab hr P X x0 p0 p1 S S mc ms L rfl hw hL hx0 h)
def wp_X10_version (P : Int32 → HS → Prop) (X : String → HS → Prop) (x0 : Nat) (p0 : Int32) (p1 : Int32) (S : HS) (mc ms : Nat) : Prop := ∃ b2 : Nat, hR S 220 x0 = some b2 ∧ (hK S b2 = 7 → (∃ (m4 : (Nat → Prop)) (m5 : Nat → Int32), ((WF m5 ∧ RelSt S m4 b2 m5) ∧ (∀ (o12 : Option Nat) (S7 : HS), ext S S7 → (∀ b, o12 = some b → hK S7 b = 10) → (S7 = S ∧ (zin p0 0 (m5 0 - 1) = 0 → o12 = none) ∧ (¬ zin p0 0 (m5 0 - 1) = 0 → ∃ y, o12 = some y ∧ RelV S m4 y m5 (iv p0))) → ((o12 = none → ((1 ≤ mc ∧ 6 ≤ ms) ∧ X "java/lang/IndexOutOfBoundsException" S7)) ∧ (∀ b15 : Nat, o12 = some b15 → hK S7 b15 = 10 → ((p1 = 0 → (P (hI S7 200 b15) S7)) ∧ (¬ p1 = 0 → ((p1 = 1 → (P (hI S7 201 b15) S7)) ∧ (¬ p1 = 1 → ((p1 = 2 → (P (hI S7 206 b15) S7)) ∧ (¬ p1 = 2 → ((p1 = 3 → (P (hI S7 207 b15) S7)) ∧ (¬ p1 = 3 → ((p1 = 4 → (P (hI S7 208 b15) S7)) ∧ (¬ p1 = 4 → ((p1 = 5 → (P (hI S7 209 b15) S7)) ∧ (¬ p1 = 5 → ((p1 = 6 → (∃ (m25 : (Nat → Prop)) (m26 : Nat → Int32) (m27 : Nat), ((WF m26 ∧ m27 < 6 ∧ RelV S7 m25 b15 m26 m27) ∧ (P (eSet m26 m27) S7)))) ∧ (¬ p1 = 6 → ((p1 = 7 → (∃ (m34 : (Nat → Prop)) (m35 : Nat → Int32) (m36 : Nat), ((WF m35 ∧ m36 < 6 ∧ RelV S7 m34 b15 m35 m36) ∧ (P (aBr m35 m36) S7)))) ∧ (¬ p1 = 7 → ((1 ≤ mc ∧ 6 ≤ ms) ∧ X "java/lang/IllegalArgumentException" S7)))))))))))))))))))))))
set_option maxRecDepth 100000 in
set_option maxHeartbeats 4000000 in
theorem t_X10_version {p : Program} {l : Launch} {e : Env} {s : State} {m : MethodId} {args : Array Value} {below : List Frame} {meth : Method} {c : Code} {D : va_G} {A : Nat → Prop} {T : Nat → ClassId} (C : GC p s m args meth c cX10_version "FreightRater" (ws_X10_version) 4 D A (zty T)) (E : GE T A s) (hst : l.stackTraces = false) (htab : ∀ z ∈ c.exceptionTable.toList, False) (hr : meth.sig.returnType = (some .int)) (P : Int32 → HS → Prop) (X : String → HS → Prop) : ∀ (x0 : Nat) (p0 : Int32) (p1 : Int32) (S0 S : HS) (mc ms : Nat) (L : List Nat), S0 = S → wt S → hL S L → (hK S x0 = 11) → wp_X10_version P X x0 p0 p1 S mc ms → GW p l e { rm_X10_version with cells := mc, slots := ms } s m args below meth c D A 4 mc ms (vx_MQ below (va_Qi (fun v (u : HS × List Nat) => P v u.1 ∧ CO S0 u) (CE D T A) A) (CXX D T A S0 X) args s mc ms A) (CW T S L) mc ms 0 [(0, .ref x0), (1, .int p0), (2, .int p1)] [] := by
  have hW : ∀ {w : Cond}, w ∈ W0 → w.before args s = true := fun h => C.2.2.2.2.1 _ (List.mem_cons_of_mem _ h)
  intro x0 p0 p1 S0 S mc ms L hS0 hw hL hx0 h
  have he : ext S0 S := by rw [hS0]; exact ext_rf
  unfold wp_X10_version at h
  refine g_aload_n C dX10_version_0 rfl 0 rfl ?_
  refine gc_getR C hw iwx_X10 hL hx0 (by decide) (by decide) rfl 0 (by decide) (hW kw_242) rfl rfl rfl dX10_version_1 (fun o1 eo1 ko1 => ?_)
  obtain ⟨b2, hb9, h⟩ := h
  have g3 : hK S b2 = 7 := ko1 b2 (eo1.trans hb9)
  replace h := h g3
  refine g_opt (eo1.trans hb9) ?_
  refine g_iload_n C dX10_version_4 rfl 1 rfl ?_
  obtain ⟨m4, m5, h⟩ := h
  obtain ⟨g6, h⟩ := h
  refine gc_callqV (host := "") C E hw hL g3 (by decide) (by decide) rfl [.int p0] rfl (k_X6_versionAt l D T b2 p0 S m4 m5 g3 g6) (w0_V 1 C.2.2.2.2.1 kw_460 kw_461 kw_462 kw_2 kw_463 rfl rfl (by decide +kernel) ⟨Nat.le_of_ble_eq_true rfl, Nat.le_of_ble_eq_true rfl⟩) rfl (Nat.le_of_ble_eq_true rfl) (Nat.le_refl _) (Nat.le_refl _) (Nat.zero_le _) (Nat.zero_le _) dX10_version_5 (fun o12 S7 L8 e9 w10 w11 ko12 hp => ?_)
  replace h := h o12 S7 e9 ko12 hp
  have g13 := ext_K e9 hx0 (by decide)
  have w14 := ext_tr he e9
  refine g_qstore_n (lv' := [(3, va_rf o12), (0, .ref x0), (1, .int p0), (2, .int p1)]) C dX10_version_8 rfl (by decide) rfl ?_
  refine g_qload_n C dX10_version_9 rfl 0 rfl ?_
  rcases o12 with _ | b15
  · replace h := h.1 rfl
    refine g_ifnonnullN C dX10_version_10 ?_
    obtain ⟨g17, h⟩ := h
    exact gx_throw (cls := "java/lang/IndexOutOfBoundsException") (names := ["java/lang/RuntimeException", "java/lang/Exception"]) C E hst w10 w11 w14 (Nat.le_refl _) (Nat.le_refl _) (by decide) (by decide) (hW kw_465) (hW kw_16) (th_FreightRater_72 hW E) tv_FreightRater_72 dX10_version_13 dX10_version_16 dX10_version_17 dX10_version_20 htab (Nat.le_of_ble_eq_true rfl) (Nat.le_of_ble_eq_true rfl) g17.1 g17.2 h
  · have g16 : hK S7 b15 = 10 := ko12 b15 rfl
    replace h := h.2 b15 rfl g16
    refine g_ifnonnull (tgt := 21) C dX10_version_10 (by decide) ?_
    refine g_iload_n C dX10_version_21 rfl 3 rfl ?_
    rcases Decidable.em (p1 = 0) with z18 | z18
    · refine g_tableIn (off := 46) (tgt := 68) C dX10_version_22 (by rw [z18]; decide) (by rw [z18]; decide) (by rw [z18]; decide) (by decide) ?_
      replace h := h.1 z18
      refine g_aload_n C dX10_version_68 rfl 0 rfl ?_
      refine gc_getI C iwx_X9 w11 g16 (by decide) (by decide) rfl 0 (by decide) (hW kw_415) rfl rfl rfl dX10_version_69 ?_
      exact gx_iret C w10 w11 w14 hr dX10_version_72 h
    replace h := h.2 z18
    rcases Decidable.em (p1 = 1) with z19 | z19
    · refine g_tableIn (off := 51) (tgt := 73) C dX10_version_22 (by rw [z19]; decide) (by rw [z19]; decide) (by rw [z19]; decide) (by decide) ?_
      replace h := h.1 z19
      refine g_aload_n C dX10_version_73 rfl 0 rfl ?_
      refine gc_getI C iwx_X9 w11 g16 (by decide) (by decide) rfl 1 (by decide) (hW kw_418) rfl rfl rfl dX10_version_74 ?_
      exact gx_iret C w10 w11 w14 hr dX10_version_77 h
    replace h := h.2 z19
    rcases Decidable.em (p1 = 2) with z20 | z20
    · refine g_tableIn (off := 56) (tgt := 78) C dX10_version_22 (by rw [z20]; decide) (by rw [z20]; decide) (by rw [z20]; decide) (by decide) ?_
      replace h := h.1 z20
      refine g_aload_n C dX10_version_78 rfl 0 rfl ?_
      refine gc_getI C iwx_X9 w11 g16 (by decide) (by decide) rfl 6 (by decide) (hW kw_424) rfl rfl rfl dX10_version_79 ?_
      exact gx_iret C w10 w11 w14 hr dX10_version_82 h
    replace h := h.2 z20
    rcases Decidable.em (p1 = 3) with z21 | z21
    · refine g_tableIn (off := 61) (tgt := 83) C dX10_version_22 (by rw [z21]; decide) (by rw [z21]; decide) (by rw [z21]; decide) (by decide) ?_
      replace h := h.1 z21
      refine g_aload_n C dX10_version_83 rfl 0 rfl ?_
      refine gc_getI C iwx_X9 w11 g16 (by decide) (by decide) rfl 7 (by decide) (hW kw_428) rfl rfl rfl dX10_version_84 ?_
      exact gx_iret C w10 w11 w14 hr dX10_version_87 h
    replace h := h.2 z21
    rcases Decidable.em (p1 = 4) with z22 | z22
    · refine g_tableIn (off := 66) (tgt := 88) C dX10_version_22 (by rw [z22]; decide) (by rw [z22]; decide) (by rw [z22]; decide) (by decide) ?_
      replace h := h.1 z22
      refine g_aload_n C dX10_version_88 rfl 0 rfl ?_
      refine gc_getI C iwx_X9 w11 g16 (by decide) (by decide) rfl 8 (by decide) (hW kw_431) rfl rfl rfl dX10_version_89 ?_
      exact gx_iret C w10 w11 w14 hr dX10_version_92 h
    replace h := h.2 z22
    rcases Decidable.em (p1 = 5) with z23 | z23
    · refine g_tableIn (off := 71) (tgt := 93) C dX10_version_22 (by rw [z23]; decide) (by rw [z23]; decide) (by rw [z23]; decide) (by decide) ?_
      replace h := h.1 z23
      refine g_aload_n C dX10_version_93 rfl 0 rfl ?_
      refine gc_getI C iwx_X9 w11 g16 (by decide) (by decide) rfl 9 (by decide) (hW kw_433) rfl rfl rfl dX10_version_94 ?_
      exact gx_iret C w10 w11 w14 hr dX10_version_97 h
    replace h := h.2 z23
    rcases Decidable.em (p1 = 6) with z24 | z24
    · refine g_tableIn (off := 76) (tgt := 98) C dX10_version_22 (by rw [z24]; decide) (by rw [z24]; decide) (by rw [z24]; decide) (by decide) ?_
      replace h := h.1 z24
      refine g_aload_n C dX10_version_98 rfl 0 rfl ?_
      obtain ⟨m25, m26, m27, h⟩ := h
      obtain ⟨g28, h⟩ := h
      refine gc_calliV (host := "") C E w10 w11 g16 (by decide) (by decide) rfl [] rfl (k_X9_accessorialSet l D T b15 S7 m25 m26 m27 g16 g28) (w0_V 0 C.2.2.2.2.1 kw_999 kw_1000 kw_1001 kw_14 kw_1002 rfl rfl (by decide +kernel) ⟨Nat.le_of_ble_eq_true rfl, Nat.le_of_ble_eq_true rfl⟩) rfl (Nat.le_of_ble_eq_true rfl) (Nat.le_refl _) (Nat.le_refl _) (Nat.zero_le _) (Nat.zero_le _) dX10_version_99 (fun v9 S9 L29 he9 hw9 hL9 hp => ?_)
      obtain ⟨hv9, hs9⟩ := hp
      replace hs9 := hs9.symm
      subst hs9
      replace hv9 := hv9.symm
      subst hv9
      have w32 := hL9
      exact gx_iret C w10 w32 w14 hr dX10_version_102 h
    replace h := h.2 z24
    rcases Decidable.em (p1 = 7) with z33 | z33
    · refine g_tableIn (off := 81) (tgt := 103) C dX10_version_22 (by rw [z33]; decide) (by rw [z33]; decide) (by rw [z33]; decide) (by decide) ?_
      replace h := h.1 z33
      refine g_aload_n C dX10_version_103 rfl 0 rfl ?_
      obtain ⟨m34, m35, m36, h⟩ := h
      obtain ⟨g37, h⟩ := h
      refine gc_calliV (host := "") C E w10 w11 g16 (by decide) (by decide) rfl [] rfl (k_X9_countBreaks l D T b15 S7 m34 m35 m36 g16 g37) (w0_V 0 C.2.2.2.2.1 kw_1003 kw_1004 kw_1005 kw_14 kw_1006 rfl rfl (by decide +kernel) ⟨Nat.le_of_ble_eq_true rfl, Nat.le_of_ble_eq_true rfl⟩) rfl (Nat.le_of_ble_eq_true rfl) (Nat.le_refl _) (Nat.le_refl _) (Nat.zero_le _) (Nat.zero_le _) dX10_version_104 (fun v9 S9 L38 he9 hw9 hL9 hp => ?_)
      obtain ⟨hv9, hs9⟩ := hp
      replace hs9 := hs9.symm
      subst hs9
      replace hv9 := hv9.symm
      subst hv9
      have w41 := hL9
      exact gx_iret C w10 w41 w14 hr dX10_version_107 h
    replace h := h.2 z33
    refine g_tableD (tgt := 108) C dX10_version_22 (by decide) (fun j hj => ?_) (by decide) ?_
    · rcases (show j = 0 ∨ j = 1 ∨ j = 2 ∨ j = 3 ∨ j = 4 ∨ j = 5 ∨ j = 6 ∨ j = 7 by have hj2 : j < 8 := hj; omega) with rfl | rfl | rfl | rfl | rfl | rfl | rfl | rfl <;> first | exact Or.inr rfl | exact Or.inl (by first | exact lv_neT z18 rfl | exact lv_neT z19 rfl | exact lv_neT z20 rfl | exact lv_neT z21 rfl | exact lv_neT z22 rfl | exact lv_neT z23 rfl | exact lv_neT z24 rfl | exact lv_neT z33 rfl)
    obtain ⟨g42, h⟩ := h
    exact gx_throw (cls := "java/lang/IllegalArgumentException") (names := ["java/lang/RuntimeException", "java/lang/Exception"]) C E hst w10 w11 w14 (Nat.le_refl _) (Nat.le_refl _) (by decide) (by decide) (hW kw_310) (hW kw_13) (th_FreightRater_62 hW E) tv_FreightRater_62 dX10_version_108 dX10_version_111 dX10_version_112 dX10_version_115 htab (Nat.le_of_ble_eq_true rfl) (Nat.le_of_ble_eq_true rfl) g42.1 g42.2 h
theorem c_X10_version (l : Launch) (hst : l.stackTraces = false) (D : va_G) (T : Nat → ClassId) (x0 : Nat) (p0 : Int32) (p1 : Int32) (S : HS) (mc ms : Nat) (hx0 : hK S x0 = 11) (P : Int32 → HS → Prop) (X : String → HS → Prop) (h : wp_X10_version P X x0 p0 p1 S mc ms) : CXi l yX10_version (ws_X10_version) rm_X10_version D T [.ref x0, .int p0, .int p1] S mc ms P X := gx_meti (by decide) rfl rfl (Nat.le_of_ble_eq_true rfl) (fun p e s m args below meth c A L C E hnm hr htab hw hL => t_X10_version C E hst htab hr P X x0 p0 p1 S S mc ms L rfl hw hL hx0 h)
def wp_X10_zoneOf (P : Int32 → HS → Prop) (X : String → HS → Prop) (x0 : Nat) (p0 : Int32) (p1 : Int32) (S : HS) (mc ms : Nat) : Prop := ∃ b2 : Nat, hR S 220 x0 = some b2 ∧ (hK S b2 = 7 → (∃ (m4 : (Nat → Prop)) (m5 : Nat → Int32), ((WF m5 ∧ RelSt S m4 b2 m5) ∧ (∀ (o12 : Option Nat) (S7 : HS), ext S S7 → (∀ b, o12 = some b → hK S7 b = 10) → (S7 = S ∧ (zin p0 0 (m5 0 - 1) = 0 → o12 = none) ∧ (¬ zin p0 0 (m5 0 - 1) = 0 → ∃ y, o12 = some y ∧ RelV S m4 y m5 (iv p0))) → ((o12 = none → ((1 ≤ mc ∧ 6 ≤ ms) ∧ X "java/lang/IndexOutOfBoundsException" S7)) ∧ (∀ b15 : Nat, o12 = some b15 → hK S7 b15 = 10 → ((¬ (zin p1 0 999) = 0 → (∃ (m23 : (Nat → Prop)) (m24 : Nat → Int32) (m25 : Nat), ((WF m24 ∧ m25 < 6 ∧ RelV S7 m23 b15 m24 m25) ∧ (∀ v31 : Int32, v31 = (zIn m24 m25 p1) → ((¬ v31 = 0 → (P v31 S7)) ∧ (v31 = 0 → ((1 ≤ mc ∧ 6 ≤ ms) ∧ X "java/util/NoSuchElementException" S7))))))) ∧ ((zin p1 0 999) = 0 → ((1 ≤ mc ∧ 6 ≤ ms) ∧ X "java/lang/IndexOutOfBoundsException" S7)))))))))
set_option maxRecDepth 100000 in
set_option maxHeartbeats 4000000 in
theorem t_X10_zoneOf {p : Program} {l : Launch} {e : Env} {s : State} {m : MethodId} {args : Array Value} {below : List Frame} {meth : Method} {c : Code} {D : va_G} {A : Nat → Prop} {T : Nat → ClassId} (C : GC p s m args meth c cX10_zoneOf "FreightRater" (ws_X10_zoneOf) 5 D A (zty T)) (E : GE T A s) (hst : l.stackTraces = false) (htab : ∀ z ∈ c.exceptionTable.toList, False) (hr : meth.sig.returnType = (some .int)) (P : Int32 → HS → Prop) (X : String → HS → Prop) : ∀ (x0 : Nat) (p0 : Int32) (p1 : Int32) (S0 S : HS) (mc ms : Nat) (L : List Nat), S0 = S → wt S → hL S L → (hK S x0 = 11) → wp_X10_zoneOf P X x0 p0 p1 S mc ms → GW p l e { rm_X10_zoneOf with cells := mc, slots := ms } s m args below meth c D A 5 mc ms (vx_MQ below (va_Qi (fun v (u : HS × List Nat) => P v u.1 ∧ CO S0 u) (CE D T A) A) (CXX D T A S0 X) args s mc ms A) (CW T S L) mc ms 0 [(0, .ref x0), (1, .int p0), (2, .int p1)] [] := by
  have hW : ∀ {w : Cond}, w ∈ W0 → w.before args s = true := fun h => C.2.2.2.2.1 _ (List.mem_cons_of_mem _ h)
  intro x0 p0 p1 S0 S mc ms L hS0 hw hL hx0 h
  have he : ext S0 S := by rw [hS0]; exact ext_rf
  unfold wp_X10_zoneOf at h
  refine g_aload_n C dX10_zoneOf_0 rfl 0 rfl ?_
  refine gc_getR C hw iwx_X10 hL hx0 (by decide) (by decide) rfl 0 (by decide) (hW kw_242) rfl rfl rfl dX10_zoneOf_1 (fun o1 eo1 ko1 => ?_)
  obtain ⟨b2, hb9, h⟩ := h
  have g3 : hK S b2 = 7 := ko1 b2 (eo1.trans hb9)
  replace h := h g3
  refine g_opt (eo1.trans hb9) ?_
  refine g_iload_n C dX10_zoneOf_4 rfl 1 rfl ?_
  obtain ⟨m4, m5, h⟩ := h
  obtain ⟨g6, h⟩ := h
  refine gc_callqV (host := "") C E hw hL g3 (by decide) (by decide) rfl [.int p0] rfl (k_X6_versionAt l D T b2 p0 S m4 m5 g3 g6) (w0_V 1 C.2.2.2.2.1 kw_460 kw_461 kw_462 kw_2 kw_463 rfl rfl (by decide +kernel) ⟨Nat.le_of_ble_eq_true rfl, Nat.le_of_ble_eq_true rfl⟩) rfl (Nat.le_of_ble_eq_true rfl) (Nat.le_refl _) (Nat.le_refl _) (Nat.zero_le _) (Nat.zero_le _) dX10_zoneOf_5 (fun o12 S7 L8 e9 w10 w11 ko12 hp => ?_)
  replace h := h o12 S7 e9 ko12 hp
  have g13 := ext_K e9 hx0 (by decide)
  have w14 := ext_tr he e9
  refine g_qstore_n (lv' := [(3, va_rf o12), (0, .ref x0), (1, .int p0), (2, .int p1)]) C dX10_zoneOf_8 rfl (by decide) rfl ?_
  refine g_qload_n C dX10_zoneOf_9 rfl 0 rfl ?_
  rcases o12 with _ | b15
  · replace h := h.1 rfl
    refine g_ifnullN (tgt := 24) C dX10_zoneOf_10 (by decide) ?_
    obtain ⟨g17, h⟩ := h
    exact gx_throw (cls := "java/lang/IndexOutOfBoundsException") (names := ["java/lang/RuntimeException", "java/lang/Exception"]) C E hst w10 w11 w14 (Nat.le_refl _) (Nat.le_refl _) (by decide) (by decide) (hW kw_465) (hW kw_16) (th_FreightRater_72 hW E) tv_FreightRater_72 dX10_zoneOf_24 dX10_zoneOf_27 dX10_zoneOf_28 dX10_zoneOf_31 htab (Nat.le_of_ble_eq_true rfl) (Nat.le_of_ble_eq_true rfl) g17.1 g17.2 h
  · have g16 : hK S7 b15 = 10 := ko12 b15 rfl
    replace h := h.2 b15 rfl g16
    refine g_ifnull C dX10_zoneOf_10 ?_
    refine g_iload_n C dX10_zoneOf_13 rfl 3 rfl ?_
    refine g_iconst (v := 0) C dX10_zoneOf_14 (by decide) ?_
    refine g_sipush (v := 999) C dX10_zoneOf_15 (by decide) ?_
    refine gc_calliS (host := "") C E w10 w11 [.int p1, .int 0, .int 999] rfl (k_X10_isBetween l D T p1 0 999 S7 ) (w0_S 3 C.2.2.2.2.1 kw_303 kw_304 kw_1 kw_305 rfl rfl (by decide +kernel) ⟨Nat.le_of_ble_eq_true rfl, Nat.le_of_ble_eq_true rfl⟩) rfl (Nat.le_of_ble_eq_true rfl) (Nat.le_refl _) (Nat.le_refl _) (Nat.zero_le _) (Nat.zero_le _) dX10_zoneOf_18 (fun v9 S9 L18 he9 hw9 hL9 hp => ?_)
    obtain ⟨hv9, hs9⟩ := hp
    replace hs9 := hs9.symm
    subst hs9
    replace hv9 := hv9.symm
    subst hv9
    have w21 := hL9
    refine g_if_ne (tgt := 32) C dX10_zoneOf_21 (by decide) (fun z22 => ?_) (fun z22 => ?_)
    · replace h := h.1 z22
      refine g_aload_n C dX10_zoneOf_32 rfl 0 rfl ?_
      refine g_iload_n C dX10_zoneOf_33 rfl 3 rfl ?_
      obtain ⟨m23, m24, m25, h⟩ := h
      obtain ⟨g26, h⟩ := h
      refine gc_calliV (host := "") C E w10 w21 g16 (by decide) (by decide) rfl [.int p1] rfl (k_X9_findZone l D T b15 p1 S7 m23 m24 m25 g16 g26) (w0_V 1 C.2.2.2.2.1 kw_1014 kw_1015 kw_1016 kw_14 kw_1017 rfl rfl (by decide +kernel) ⟨Nat.le_of_ble_eq_true rfl, Nat.le_of_ble_eq_true rfl⟩) rfl (Nat.le_of_ble_eq_true rfl) (Nat.le_refl _) (Nat.le_refl _) (Nat.zero_le _) (Nat.zero_le _) dX10_zoneOf_34 (fun v9 S9 L27 he9 hw9 hL9 hp => ?_)
      obtain ⟨hv9, hs9⟩ := hp
      replace hs9 := hs9.symm
      subst hs9
      replace hv9 := hv9.symm
      subst hv9
      have w30 := hL9
      refine g_topi (fun v31 ev31 => ?_)
      replace h := h v31 ev31
      refine g_istore (lv' := [(4, .int v31), (3, .ref b15), (0, .ref x0), (1, .int p0), (2, .int p1)]) C dX10_zoneOf_37 (by decide) rfl ?_
      refine g_iload C dX10_zoneOf_39 0 rfl ?_
      refine g_if_ne (tgt := 52) C dX10_zoneOf_41 (by decide) (fun z32 => ?_) (fun z32 => ?_)
      · replace h := h.1 z32
        refine g_iload C dX10_zoneOf_52 0 rfl ?_
        exact gx_iret C w10 w30 w14 hr dX10_zoneOf_54 h
      · replace h := h.2 z32
        obtain ⟨g33, h⟩ := h
        exact gx_throw (cls := "java/util/NoSuchElementException") (names := ["java/lang/RuntimeException", "java/lang/Exception"]) C E hst w10 w30 w14 (Nat.le_refl _) (Nat.le_refl _) (by decide) (by decide) (hW kw_966) (hW kw_34) (th_FreightRater_136 hW E) tv_FreightRater_136 dX10_zoneOf_44 dX10_zoneOf_47 dX10_zoneOf_48 dX10_zoneOf_51 htab (Nat.le_of_ble_eq_true rfl) (Nat.le_of_ble_eq_true rfl) g33.1 g33.2 h
    · replace h := h.2 z22
      obtain ⟨g34, h⟩ := h
      exact gx_throw (cls := "java/lang/IndexOutOfBoundsException") (names := ["java/lang/RuntimeException", "java/lang/Exception"]) C E hst w10 w21 w14 (Nat.le_refl _) (Nat.le_refl _) (by decide) (by decide) (hW kw_465) (hW kw_16) (th_FreightRater_72 hW E) tv_FreightRater_72 dX10_zoneOf_24 dX10_zoneOf_27 dX10_zoneOf_28 dX10_zoneOf_31 htab (Nat.le_of_ble_eq_true rfl) (Nat.le_of_ble_eq_true rfl) g34.1 g34.2 h
theorem c_X10_zoneOf (l : Launch) (hst : l.stackTraces = false) (D : va_G) (T : Nat → ClassId) (x0 : Nat) (p0 : Int32) (p1 : Int32) (S : HS) (mc ms : Nat) (hx0 : hK S x0 = 11) (P : Int32 → HS → Prop) (X : String → HS → Prop) (h : wp_X10_zoneOf P X x0 p0 p1 S mc ms) : CXi l yX10_zoneOf (ws_X10_zoneOf) rm_X10_zoneOf D T [.ref x0, .int p0, .int p1] S mc ms P X := gx_meti (by decide) rfl rfl (Nat.le_of_ble_eq_true rfl) (fun p e s m args below meth c A L C E hnm hr htab hw hL => t_X10_zoneOf C E hst htab hr P X x0 p0 p1 S S mc ms L rfl hw hL hx0 h)
def wp_X10_ship (P : Int32 → HS → Prop) (X : String → HS → Prop) (x0 : Nat) (p0 : Int32) (p1 : Int32) (p2 : Int32) (p3 : Int32) (S : HS) (mc ms : Nat) : Prop := ((andF (zin p0 0 999) (zin p1 0 999)) = 0 → ((1 ≤ mc ∧ 6 ≤ ms) ∧ X "java/lang/IllegalArgumentException" S)) ∧ (¬ (andF (zin p0 0 999) (zin p1 0 999)) = 0 → (((zin p2 0 255) = 0 → ((1 ≤ mc ∧ 6 ≤ ms) ∧ X "java/lang/IllegalArgumentException" S)) ∧ (¬ (zin p2 0 255) = 0 → ((¬ (zin p3 0 3) = 0 → (∃ b19 : Nat, hR S 220 x0 = some b19 ∧ (hK S b19 = 7 → (((hI S 143 b19) < 10 → (∃ (m22 : (Nat → Nat)) (m23 : (Nat → Nat → Int32)) (m24 : (Nat → Int32)) (m25 : (Nat → Int32)) (m26 : (List Int32)), ((FrS S m22 m23 m24 m25 m26 ∧ x0 = m22 50) ∧ (∀ (S28 : HS), ext S S28 → (FrS S28 m22 (rmU m23 m24) (rmG m24) m25 m26 ∧ frM S S28 (fxM m22) ∧ hK S28 = hK S ∧ hR S28 = hR S ∧ (∀ i, 54 ≤ i → i < 64 → sam S S28 (m22 i))) → (∃ b36 : Nat, hR S28 220 x0 = some b36 ∧ (hK S28 b36 = 7 → ((1 ≤ mc ∧ 9 ≤ ms) ∧ (∀ q38 : Nat, hK S28 q38 = 0 → zr S28 q38 → (∀ S46 : HS, S46 = newO S28 q38 6 → (∃ cc53 cc54 : Nat, (cc53 ≤ (mc - 1) ∧ cc54 ≤ (ms - 9)) ∧ ((1 ≤ cc53 ∧ 5 ≤ cc54) ∧ (∀ (S57 : HS), ext S46 S57 → (∃ b, hK (putI (putI (putI (putI (putI S46 128 q38 (-1)) 120 q38 p0) 121 q38 p1) 122 q38 p2) 123 q38 p3) b = 0 ∧ zr (putI (putI (putI (putI (putI S46 128 q38 (-1)) 120 q38 p0) 121 q38 p1) 122 q38 p2) 123 q38 p3) b ∧ S57 = putR (newA (putI (putI (putI (putI (putI S46 128 q38 (-1)) 120 q38 p0) 121 q38 p1) 122 q38 p2) 123 q38 p3) b 22 5) 125 q38 (some b)) → (∃ (m66 : Nat) (m67 : Nat), ((hR S57 142 b36 = some m66 ∧ hK S57 m66 = 27 ∧ hN S57 m66 = 10 ∧ hI S57 143 b36 = nI m67 ∧ m67 < 10) ∧ (∀ (v74 : Int32) (S69 : HS), ext S57 S69 → (v74 = nI m67 ∧ S69 = putI (putB S57 m66 m67 (some q38)) 143 b36 (nI (m67 + 1))) → (P v74 S69)))))))))))))))) ∧ (¬ (hI S 143 b19) < 10 → ((1 ≤ mc ∧ 6 ≤ ms) ∧ X "java/lang/IllegalStateException" S)))))) ∧ ((zin p3 0 3) = 0 → ((1 ≤ mc ∧ 6 ≤ ms) ∧ X "java/lang/IllegalArgumentException" S))))))
set_option maxRecDepth 100000 in
set_option maxHeartbeats 4000000 in
theorem t_X10_ship {p : Program} {l : Launch} {e : Env} {s : State} {m : MethodId} {args : Array Value} {below : List Frame} {meth : Method} {c : Code} {D : va_G} {A : Nat → Prop} {T : Nat → ClassId} (C : GC p s m args meth c cX10_ship "FreightRater" (ws_X10_ship) 5 D A (zty T)) (E : GE T A s) (hst : l.stackTraces = false) (htab : ∀ z ∈ c.exceptionTable.toList, False) (hr : meth.sig.returnType = (some .int)) (P : Int32 → HS → Prop) (X : String → HS → Prop) : ∀ (x0 : Nat) (p0 : Int32) (p1 : Int32) (p2 : Int32) (p3 : Int32) (S0 S : HS) (mc ms : Nat) (L : List Nat), S0 = S → wt S → hL S L → (hK S x0 = 11) → wp_X10_ship P X x0 p0 p1 p2 p3 S mc ms → GW p l e { rm_X10_ship with cells := mc, slots := ms } s m args below meth c D A 5 mc ms (vx_MQ below (va_Qi (fun v (u : HS × List Nat) => P v u.1 ∧ CO S0 u) (CE D T A) A) (CXX D T A S0 X) args s mc ms A) (CW T S L) mc ms 0 [(0, .ref x0), (1, .int p0), (2, .int p1), (3, .int p2), (4, .int p3)] [] := by
  have hW : ∀ {w : Cond}, w ∈ W0 → w.before args s = true := fun h => C.2.2.2.2.1 _ (List.mem_cons_of_mem _ h)
  intro x0 p0 p1 p2 p3 S0 S mc ms L hS0 hw hL hx0 h
  have he : ext S0 S := by rw [hS0]; exact ext_rf
  unfold wp_X10_ship at h
  refine g_iload_n C dX10_ship_0 rfl 1 rfl ?_
  refine g_iload_n C dX10_ship_1 rfl 2 rfl ?_
  refine gc_calliS (host := "") C E hw hL [.int p0, .int p1] rfl (k_X10_isRoute l D T p0 p1 S ) (w0_S 2 C.2.2.2.2.1 kw_1070 kw_1071 kw_1 kw_1072 rfl rfl (by decide +kernel) ⟨Nat.le_of_ble_eq_true rfl, Nat.le_of_ble_eq_true rfl⟩) rfl (Nat.le_of_ble_eq_true rfl) (Nat.le_refl _) (Nat.le_refl _) (Nat.zero_le _) (Nat.zero_le _) dX10_ship_2 (fun v9 S9 L1 he9 hw9 hL9 hp => ?_)
  obtain ⟨hv9, hs9⟩ := hp
  replace hs9 := hs9.symm
  subst hs9
  replace hv9 := hv9.symm
  subst hv9
  have w4 := hL9
  refine g_if_eq (tgt := 29) C dX10_ship_5 (by decide) (fun z5 => ?_) (fun z5 => ?_)
  · replace h := h.1 z5
    obtain ⟨g6, h⟩ := h
    exact gx_throw (cls := "java/lang/IllegalArgumentException") (names := ["java/lang/RuntimeException", "java/lang/Exception"]) C E hst hw w4 he (Nat.le_refl _) (Nat.le_refl _) (by decide) (by decide) (hW kw_310) (hW kw_13) (th_FreightRater_62 hW E) tv_FreightRater_62 dX10_ship_29 dX10_ship_32 dX10_ship_33 dX10_ship_36 htab (Nat.le_of_ble_eq_true rfl) (Nat.le_of_ble_eq_true rfl) g6.1 g6.2 h
  · replace h := h.2 z5
    refine g_iload_n C dX10_ship_8 rfl 3 rfl ?_
    refine g_iconst (v := 0) C dX10_ship_9 (by decide) ?_
    refine g_sipush (v := 255) C dX10_ship_10 (by decide) ?_
    refine gc_calliS (host := "") C E hw w4 [.int p2, .int 0, .int 255] rfl (k_X10_isBetween l D T p2 0 255 S ) (w0_S 3 C.2.2.2.2.1 kw_303 kw_304 kw_1 kw_305 rfl rfl (by decide +kernel) ⟨Nat.le_of_ble_eq_true rfl, Nat.le_of_ble_eq_true rfl⟩) rfl (Nat.le_of_ble_eq_true rfl) (Nat.le_refl _) (Nat.le_refl _) (Nat.zero_le _) (Nat.zero_le _) dX10_ship_13 (fun v9 S9 L7 he9 hw9 hL9 hp => ?_)
    obtain ⟨hv9, hs9⟩ := hp
    replace hs9 := hs9.symm
    subst hs9
    replace hv9 := hv9.symm
    subst hv9
    have w10 := hL9
    refine g_if_eq (tgt := 29) C dX10_ship_16 (by decide) (fun z11 => ?_) (fun z11 => ?_)
    · replace h := h.1 z11
      obtain ⟨g12, h⟩ := h
      exact gx_throw (cls := "java/lang/IllegalArgumentException") (names := ["java/lang/RuntimeException", "java/lang/Exception"]) C E hst hw w10 he (Nat.le_refl _) (Nat.le_refl _) (by decide) (by decide) (hW kw_310) (hW kw_13) (th_FreightRater_62 hW E) tv_FreightRater_62 dX10_ship_29 dX10_ship_32 dX10_ship_33 dX10_ship_36 htab (Nat.le_of_ble_eq_true rfl) (Nat.le_of_ble_eq_true rfl) g12.1 g12.2 h
    · replace h := h.2 z11
      refine g_iload C dX10_ship_19 4 rfl ?_
      refine g_iconst (v := 0) C dX10_ship_21 (by decide) ?_
      refine g_iconst (v := 3) C dX10_ship_22 (by decide) ?_
      refine gc_calliS (host := "") C E hw w10 [.int p3, .int 0, .int 3] rfl (k_X10_isBetween l D T p3 0 3 S ) (w0_S 3 C.2.2.2.2.1 kw_303 kw_304 kw_1 kw_305 rfl rfl (by decide +kernel) ⟨Nat.le_of_ble_eq_true rfl, Nat.le_of_ble_eq_true rfl⟩) rfl (Nat.le_of_ble_eq_true rfl) (Nat.le_refl _) (Nat.le_refl _) (Nat.zero_le _) (Nat.zero_le _) dX10_ship_23 (fun v9 S9 L13 he9 hw9 hL9 hp => ?_)
      obtain ⟨hv9, hs9⟩ := hp
      replace hs9 := hs9.symm
      subst hs9
      replace hv9 := hv9.symm
      subst hv9
      have w16 := hL9
      refine g_if_ne (tgt := 37) C dX10_ship_26 (by decide) (fun z17 => ?_) (fun z17 => ?_)
      · replace h := h.1 z17
        refine g_aload_n C dX10_ship_37 rfl 0 rfl ?_
        refine gc_getR C hw iwx_X10 w16 hx0 (by decide) (by decide) rfl 0 (by decide) (hW kw_242) rfl rfl rfl dX10_ship_38 (fun o18 eo18 ko18 => ?_)
        obtain ⟨b19, hb9, h⟩ := h
        have g20 : hK S b19 = 7 := ko18 b19 (eo18.trans hb9)
        replace h := h g20
        refine g_opt (eo18.trans hb9) ?_
        refine gc_getI C iwx_X6 w16 g20 (by decide) (by decide) rfl 3 (by decide) (hW kw_67) rfl rfl rfl dX10_ship_41 ?_
        refine g_bipush (v := 10) C dX10_ship_44 (by decide) ?_
        refine g_icmp_lt (tgt := 57) C dX10_ship_46 (by decide) (fun z21 => ?_) (fun z21 => ?_)
        · replace h := h.1 z21
          refine g_aload_n C dX10_ship_57 rfl 0 rfl ?_
          obtain ⟨m22, m23, m24, m25, m26, h⟩ := h
          obtain ⟨g27, h⟩ := h
          refine gc_callvV (host := "") C E hw w16 hx0 (by decide) (by decide) rfl [] rfl (k_X10_remember l D T x0 S m22 m23 m24 m25 m26 hx0 g27) (w0_V 0 C.2.2.2.2.1 kw_495 kw_497 ks_1 kw_1 kw_498 rfl rfl (by decide +kernel) ⟨Nat.le_of_ble_eq_true rfl, Nat.le_of_ble_eq_true rfl⟩) rfl (Nat.le_of_ble_eq_true rfl) (Nat.le_refl _) (Nat.le_refl _) (Nat.zero_le _) (Nat.zero_le _) dX10_ship_58 (fun S28 L29 e30 w31 w32 hp => ?_)
          replace h := h S28 e30 hp
          have g33 := ext_K e30 hx0 (by decide)
          have w34 := ext_tr he e30
          refine g_aload_n C dX10_ship_61 rfl 0 rfl ?_
          refine gc_getR C w31 iwx_X10 w32 g33 (by decide) (by decide) rfl 0 (by decide) (hW kw_242) rfl rfl rfl dX10_ship_62 (fun o35 eo35 ko35 => ?_)
          obtain ⟨b36, hb9, h⟩ := h
          have g37 : hK S28 b36 = 7 := ko35 b36 (eo35.trans hb9)
          replace h := h g37
          refine g_opt (eo35.trans hb9) ?_
          obtain ⟨g39, h⟩ := h
          refine gc_new (kd := 6) (N := 9) C w31 w32 (Nat.le_refl _) (Nat.le_refl _) iwx_X5 tyX5 tyX5_ok (by decide) (by decide) rfl (fun j hj => by rcases (show j = 0 ∨ j = 1 ∨ j = 2 ∨ j = 3 ∨ j = 4 ∨ j = 5 ∨ j = 6 ∨ j = 7 ∨ j = 8 by omega) with rfl | rfl | rfl | rfl | rfl | rfl | rfl | rfl | rfl <;> rfl) (hW kw_1073) (hW kw_1074) (hW kw_35) g39.1 g39.2 dX10_ship_65 (fun q38 h0q38 zq38 => ?_)
          replace h := h q38 h0q38 zq38
          have g40 := newO_old 6 g37 (by decide) h0q38
          have g41 := newO_old 6 g33 (by decide) h0q38
          have w42 := wt_newO w31 6 h0q38 (by decide)
          have w43 := hL_new (S' := newO S28 q38 6) w32 (show 6 ≠ 0 by decide) rfl
          have w44 := ext_newO w34 h0q38 6
          have g45 := newO_self S28 q38 6
          refine gc_nS (fun S46 eS46 => ?_)
          replace h := h S46 eS46
          have w47 : wt S46 := by rw [eS46]; exact w42
          have w48 : isL S46 (L29 ++ [q38]) := by rw [eS46]; exact w43
          have w49 : ext S0 S46 := by rw [eS46]; exact w44
          have g50 : hK S46 q38 = 6 := by rw [eS46]; exact g45
          have g51 : hK S46 b36 = 7 := by rw [eS46]; exact g40
          have g52 : hK S46 x0 = 11 := by rw [eS46]; exact g41
          refine g_dup C dX10_ship_68 rfl ?_
          refine g_iload_n C dX10_ship_69 rfl 1 rfl ?_
          refine g_iload_n C dX10_ship_70 rfl 2 rfl ?_
          refine g_iload_n C dX10_ship_71 rfl 3 rfl ?_
          refine g_iload C dX10_ship_72 4 rfl ?_
          obtain ⟨cc53, cc54, g55, h⟩ := h
          obtain ⟨g56, h⟩ := h
          refine gc_callvI (host := "") (ret := none) C E w47 w48 [.int p0, .int p1, .int p2, .int p3] rfl (k_X5_init l D T q38 p0 p1 p2 p3 S46 cc53 cc54 g50 g56) (w0_I 4 C.2.2.2.2.1 kw_1075 kw_1076 kw_35 kw_1077 rfl rfl rfl (by decide +kernel) ⟨Nat.le_of_ble_eq_true rfl, Nat.le_of_ble_eq_true rfl⟩) rfl (Nat.le_of_ble_eq_true rfl) (Nat.le_refl _) (Nat.le_refl _) g55.1 g55.2 dX10_ship_74 (fun S57 L58 e59 w60 w61 hp => ?_)
          replace h := h S57 e59 hp
          have g62 := ext_K e59 g50 (by decide)
          have g63 := ext_K e59 g51 (by decide)
          have g64 := ext_K e59 g52 (by decide)
          have w65 := ext_tr w49 e59
          obtain ⟨m66, m67, h⟩ := h
          obtain ⟨g68, h⟩ := h
          refine gc_calliV (host := "") C E w60 w61 g63 (by decide) (by decide) rfl [.ref q38] rfl (k_X6_addShipment l D T b36 q38 S57 m66 m67 g63 g62 g68) (w0_V 1 C.2.2.2.2.1 kw_1123 kw_1124 kw_1125 kw_2 kw_1126 rfl rfl (by decide +kernel) ⟨Nat.le_of_ble_eq_true rfl, Nat.le_of_ble_eq_true rfl⟩) rfl (Nat.le_of_ble_eq_true rfl) (Nat.le_refl _) (Nat.le_refl _) (Nat.zero_le _) (Nat.zero_le _) dX10_ship_77 (fun v74 S69 L70 e71 w72 w73 hp => ?_)
          replace h := h v74 S69 e71 hp
          have g75 := ext_K e71 g64 (by decide)
          have w76 := ext_tr w65 e71
          exact gx_iret C w72 w73 w76 hr dX10_ship_80 h
        · replace h := h.2 z21
          obtain ⟨g77, h⟩ := h
          exact gx_throw (cls := "java/lang/IllegalStateException") (names := ["java/lang/RuntimeException", "java/lang/Exception"]) C E hst hw w16 he (Nat.le_refl _) (Nat.le_refl _) (by decide) (by decide) (hW kw_480) (hW kw_17) (th_FreightRater_78 hW E) tv_FreightRater_78 dX10_ship_49 dX10_ship_52 dX10_ship_53 dX10_ship_56 htab (Nat.le_of_ble_eq_true rfl) (Nat.le_of_ble_eq_true rfl) g77.1 g77.2 h
      · replace h := h.2 z17
        obtain ⟨g78, h⟩ := h
        exact gx_throw (cls := "java/lang/IllegalArgumentException") (names := ["java/lang/RuntimeException", "java/lang/Exception"]) C E hst hw w16 he (Nat.le_refl _) (Nat.le_refl _) (by decide) (by decide) (hW kw_310) (hW kw_13) (th_FreightRater_62 hW E) tv_FreightRater_62 dX10_ship_29 dX10_ship_32 dX10_ship_33 dX10_ship_36 htab (Nat.le_of_ble_eq_true rfl) (Nat.le_of_ble_eq_true rfl) g78.1 g78.2 h
theorem c_X10_ship (l : Launch) (hst : l.stackTraces = false) (D : va_G) (T : Nat → ClassId) (x0 : Nat) (p0 : Int32) (p1 : Int32) (p2 : Int32) (p3 : Int32) (S : HS) (mc ms : Nat) (hx0 : hK S x0 = 11) (P : Int32 → HS → Prop) (X : String → HS → Prop) (h : wp_X10_ship P X x0 p0 p1 p2 p3 S mc ms) : CXi l yX10_ship (ws_X10_ship) rm_X10_ship D T [.ref x0, .int p0, .int p1, .int p2, .int p3] S mc ms P X := gx_meti (by decide) rfl rfl (Nat.le_of_ble_eq_true rfl) (fun p e s m args below meth c A L C E hnm hr htab hw hL => t_X10_ship C E hst htab hr P X x0 p0 p1 p2 p3 S S mc ms L rfl hw hL hx0 h)
def wp_X10_setRebate_47 (P : Int32 → HS → Prop) (X : String → HS → Prop) (x0 : Nat) (x1 : Int32) (x2 : Int32) (x3 : Int32) (S : HS) (kc ks : Nat) : Prop := (0 ≤ x3 → (∃ (m21 : (Nat → Nat)) (m22 : (Nat → Nat → Int32)) (m23 : (Nat → Int32)) (m24 : (Nat → Int32)) (m25 : (List Int32)), ((FrS S m21 m22 m23 m24 m25 ∧ x0 = m21 50) ∧ (∀ (S27 : HS), ext S S27 → (FrS S27 m21 (rmU m22 m23) (rmG m23) m24 m25 ∧ frM S S27 (fxM m21) ∧ hK S27 = hK S ∧ hR S27 = hR S ∧ (∀ i, 54 ≤ i → i < 64 → sam S S27 (m21 i))) → ((¬ x2 = 0 → (∃ b36 : Nat, hR S27 220 x0 = some b36 ∧ (hK S27 b36 = 7 → (∃ (m38 : (Nat → Prop)) (m39 : Nat → Int32), (((WF m39 ∧ RelSt S27 m38 b36 m39) ∧ StO S27 b36 ∧ (∀ b, stA S27 b36 b → m38 b) ∧ ¬ x2 = 0 ∧ (stx m39 x1 < iv (m39 2) ∨ iv (m39 2) < 5)) ∧ (∀ (S41 : HS), ext S27 S41 → (frM S27 S41 (stA S27 b36) ∧ hK S41 = hK S27 ∧ hN S41 = hN S27 ∧ hR S41 = hR S27 ∧ RelSt S41 m38 b36 (rebS m39 x1 x2)) → (∃ b49 : Nat, hR S41 220 x0 = some b49 ∧ (hK S41 b49 = 7 → (P (hI S41 146 b49) S41))))))))) ∧ (x2 = 0 → (∃ b52 : Nat, hR S27 220 x0 = some b52 ∧ (hK S27 b52 = 7 → (∃ (m54 : (Nat → Prop)) (m55 : Nat → Int32) (m56 : Int32), (((WF m55 ∧ RelSt S27 m54 b52 m55) ∧ StO S27 b52 ∧ (∀ b, stA S27 b52 b → m54 b) ∧ stx m55 m56 < iv (m55 2) ∧ x3 = nI (stx m55 m56)) ∧ (∀ (S58 : HS), ext S27 S58 → (frM S27 S58 (stA S27 b52) ∧ hK S58 = hK S27 ∧ hN S58 = hN S27 ∧ hR S58 = hR S27 ∧ RelSt S58 m54 b52 (rebS m55 m56 0)) → (∃ b66 : Nat, hR S58 220 x0 = some b66 ∧ (hK S58 b66 = 7 → (P (hI S58 146 b66) S58)))))))))))))) ∧ (¬ 0 ≤ x3 → (∃ b69 : Nat, hR S 220 x0 = some b69 ∧ (hK S b69 = 7 → (((hI S 146 b69) < 5 → (∃ (m72 : (Nat → Nat)) (m73 : (Nat → Nat → Int32)) (m74 : (Nat → Int32)) (m75 : (Nat → Int32)) (m76 : (List Int32)), ((FrS S m72 m73 m74 m75 m76 ∧ x0 = m72 50) ∧ (∀ (S78 : HS), ext S S78 → (FrS S78 m72 (rmU m73 m74) (rmG m74) m75 m76 ∧ frM S S78 (fxM m72) ∧ hK S78 = hK S ∧ hR S78 = hR S ∧ (∀ i, 54 ≤ i → i < 64 → sam S S78 (m72 i))) → ((¬ x2 = 0 → (∃ b87 : Nat, hR S78 220 x0 = some b87 ∧ (hK S78 b87 = 7 → (∃ (m89 : (Nat → Prop)) (m90 : Nat → Int32), (((WF m90 ∧ RelSt S78 m89 b87 m90) ∧ StO S78 b87 ∧ (∀ b, stA S78 b87 b → m89 b) ∧ ¬ x2 = 0 ∧ (stx m90 x1 < iv (m90 2) ∨ iv (m90 2) < 5)) ∧ (∀ (S92 : HS), ext S78 S92 → (frM S78 S92 (stA S78 b87) ∧ hK S92 = hK S78 ∧ hN S92 = hN S78 ∧ hR S92 = hR S78 ∧ RelSt S92 m89 b87 (rebS m90 x1 x2)) → (∃ b100 : Nat, hR S92 220 x0 = some b100 ∧ (hK S92 b100 = 7 → (P (hI S92 146 b100) S92))))))))) ∧ (x2 = 0 → (∃ b103 : Nat, hR S78 220 x0 = some b103 ∧ (hK S78 b103 = 7 → (∃ (m105 : (Nat → Prop)) (m106 : Nat → Int32) (m107 : Int32), (((WF m106 ∧ RelSt S78 m105 b103 m106) ∧ StO S78 b103 ∧ (∀ b, stA S78 b103 b → m105 b) ∧ stx m106 m107 < iv (m106 2) ∧ x3 = nI (stx m106 m107)) ∧ (∀ (S109 : HS), ext S78 S109 → (frM S78 S109 (stA S78 b103) ∧ hK S109 = hK S78 ∧ hN S109 = hN S78 ∧ hR S109 = hR S78 ∧ RelSt S109 m105 b103 (rebS m106 m107 0)) → (∃ b117 : Nat, hR S109 220 x0 = some b117 ∧ (hK S109 b117 = 7 → (P (hI S109 146 b117) S109)))))))))))))) ∧ (¬ (hI S 146 b69) < 5 → ((1 ≤ kc ∧ 6 ≤ ks) ∧ X "java/lang/IllegalStateException" S))))))
set_option maxRecDepth 100000 in
set_option maxHeartbeats 4000000 in
theorem t_X10_setRebate_47 {p : Program} {l : Launch} {e : Env} {s : State} {m : MethodId} {args : Array Value} {below : List Frame} {meth : Method} {c : Code} {D : va_G} {A : Nat → Prop} {T : Nat → ClassId} {mc ms : Nat} (C : GC p s m args meth c cX10_setRebate "FreightRater" (ws_X10_setRebate) 4 D A (zty T)) (E : GE T A s) (hst : l.stackTraces = false) (htab : ∀ z ∈ c.exceptionTable.toList, False) (hr : meth.sig.returnType = (some .int)) (S0 : HS) (P : Int32 → HS → Prop) (X : String → HS → Prop) : ∀ (x0 : Nat) (x1 : Int32) (x2 : Int32) (x3 : Int32) (S : HS) (kc ks : Nat) (L : List Nat), wt S → hL S L → ext S0 S → (hK S x0 = 11) → wp_X10_setRebate_47  P X x0 x1 x2 x3 S kc ks → GW p l e { rm_X10_setRebate with cells := mc, slots := ms } s m args below meth c D A 4 mc ms (vx_MQ below (va_Qi (fun v (u : HS × List Nat) => P v u.1 ∧ CO S0 u) (CE D T A) A) (CXX D T A S0 X) args s mc ms A) (CW T S L) kc ks 47 [(0, .ref x0), (1, .int x1), (2, .int x2), (3, .int x3)] [] := by
  have hW : ∀ {w : Cond}, w ∈ W0 → w.before args s = true := fun h => C.2.2.2.2.1 _ (List.mem_cons_of_mem _ h)
  intro x0 x1 x2 x3 S kc ks L hw hL he hx0 h
  unfold wp_X10_setRebate_47 at h
  refine g_iload_n C dX10_setRebate_47 rfl 3 rfl ?_
  refine g_if_ge (tgt := 70) C dX10_setRebate_48 (by decide) (fun z20 => ?_) (fun z20 => ?_)
  · replace h := h.1 z20
    refine g_aload_n C dX10_setRebate_70 rfl 0 rfl ?_
    obtain ⟨m21, m22, m23, m24, m25, h⟩ := h
    obtain ⟨g26, h⟩ := h
    refine gc_callvV (host := "") C E hw hL hx0 (by decide) (by decide) rfl [] rfl (k_X10_remember l D T x0 S m21 m22 m23 m24 m25 hx0 g26) (w0_V 0 C.2.2.2.2.1 kw_495 kw_497 ks_1 kw_1 kw_498 rfl rfl (by decide +kernel) ⟨Nat.le_of_ble_eq_true rfl, Nat.le_of_ble_eq_true rfl⟩) rfl (Nat.le_of_ble_eq_true rfl) (Nat.le_refl _) (Nat.le_refl _) (Nat.zero_le _) (Nat.zero_le _) dX10_setRebate_71 (fun S27 L28 e29 w30 w31 hp => ?_)
    replace h := h S27 e29 hp
    have g32 := ext_K e29 hx0 (by decide)
    have w33 := ext_tr he e29
    refine g_iload_n C dX10_setRebate_74 rfl 2 rfl ?_
    refine g_if_ne (tgt := 89) C dX10_setRebate_75 (by decide) (fun z34 => ?_) (fun z34 => ?_)
    · replace h := h.1 z34
      refine g_aload_n C dX10_setRebate_89 rfl 0 rfl ?_
      refine gc_getR C w30 iwx_X10 w31 g32 (by decide) (by decide) rfl 0 (by decide) (hW kw_242) rfl rfl rfl dX10_setRebate_90 (fun o35 eo35 ko35 => ?_)
      obtain ⟨b36, hb9, h⟩ := h
      have g37 : hK S27 b36 = 7 := ko35 b36 (eo35.trans hb9)
      replace h := h g37
      refine g_opt (eo35.trans hb9) ?_
      refine g_iload_n C dX10_setRebate_93 rfl 1 rfl ?_
      refine g_iload_n C dX10_setRebate_94 rfl 2 rfl ?_
      obtain ⟨m38, m39, h⟩ := h
      obtain ⟨g40, h⟩ := h
      refine gc_callvV (host := "") C E w30 w31 g37 (by decide) (by decide) rfl [.int x1, .int x2] rfl (k_X6_putStep l D T b36 x1 x2 S27 m38 m39 g37 g40) (w0_V 2 C.2.2.2.2.1 kw_1473 kw_1474 kw_1475 kw_2 kw_1476 rfl rfl (by decide +kernel) ⟨Nat.le_of_ble_eq_true rfl, Nat.le_of_ble_eq_true rfl⟩) rfl (Nat.le_of_ble_eq_true rfl) (Nat.le_refl _) (Nat.le_refl _) (Nat.zero_le _) (Nat.zero_le _) dX10_setRebate_95 (fun S41 L42 e43 w44 w45 hp => ?_)
      replace h := h S41 e43 hp
      have g46 := ext_K e43 g32 (by decide)
      have w47 := ext_tr w33 e43
      refine g_aload_n C dX10_setRebate_98 rfl 0 rfl ?_
      refine gc_getR C w44 iwx_X10 w45 g46 (by decide) (by decide) rfl 0 (by decide) (hW kw_242) rfl rfl rfl dX10_setRebate_99 (fun o48 eo48 ko48 => ?_)
      obtain ⟨b49, hb9, h⟩ := h
      have g50 : hK S41 b49 = 7 := ko48 b49 (eo48.trans hb9)
      replace h := h g50
      refine g_opt (eo48.trans hb9) ?_
      refine gc_getI C iwx_X6 w45 g50 (by decide) (by decide) rfl 6 (by decide) (hW kw_71) rfl rfl rfl dX10_setRebate_102 ?_
      exact gx_iret C w44 w45 w47 hr dX10_setRebate_105 h
    · replace h := h.2 z34
      refine g_aload_n C dX10_setRebate_78 rfl 0 rfl ?_
      refine gc_getR C w30 iwx_X10 w31 g32 (by decide) (by decide) rfl 0 (by decide) (hW kw_242) rfl rfl rfl dX10_setRebate_79 (fun o51 eo51 ko51 => ?_)
      obtain ⟨b52, hb9, h⟩ := h
      have g53 : hK S27 b52 = 7 := ko51 b52 (eo51.trans hb9)
      replace h := h g53
      refine g_opt (eo51.trans hb9) ?_
      refine g_iload_n C dX10_setRebate_82 rfl 3 rfl ?_
      obtain ⟨m54, m55, m56, h⟩ := h
      obtain ⟨g57, h⟩ := h
      refine gc_callvV (host := "") C E w30 w31 g53 (by decide) (by decide) rfl [.int x3] rfl (k_X6_removeStep l D T b52 x3 S27 m54 m55 m56 g53 g57) (w0_V 1 C.2.2.2.2.1 kw_1469 kw_1470 kw_1471 kw_2 kw_1472 rfl rfl (by decide +kernel) ⟨Nat.le_of_ble_eq_true rfl, Nat.le_of_ble_eq_true rfl⟩) rfl (Nat.le_of_ble_eq_true rfl) (Nat.le_refl _) (Nat.le_refl _) (Nat.zero_le _) (Nat.zero_le _) dX10_setRebate_83 (fun S58 L59 e60 w61 w62 hp => ?_)
      replace h := h S58 e60 hp
      have g63 := ext_K e60 g32 (by decide)
      have w64 := ext_tr w33 e60
      refine g_goto (tgt := 98) C dX10_setRebate_86 (by decide) ?_
      refine g_aload_n C dX10_setRebate_98 rfl 0 rfl ?_
      refine gc_getR C w61 iwx_X10 w62 g63 (by decide) (by decide) rfl 0 (by decide) (hW kw_242) rfl rfl rfl dX10_setRebate_99 (fun o65 eo65 ko65 => ?_)
      obtain ⟨b66, hb9, h⟩ := h
      have g67 : hK S58 b66 = 7 := ko65 b66 (eo65.trans hb9)
      replace h := h g67
      refine g_opt (eo65.trans hb9) ?_
      refine gc_getI C iwx_X6 w62 g67 (by decide) (by decide) rfl 6 (by decide) (hW kw_71) rfl rfl rfl dX10_setRebate_102 ?_
      exact gx_iret C w61 w62 w64 hr dX10_setRebate_105 h
  · replace h := h.2 z20
    refine g_aload_n C dX10_setRebate_51 rfl 0 rfl ?_
    refine gc_getR C hw iwx_X10 hL hx0 (by decide) (by decide) rfl 0 (by decide) (hW kw_242) rfl rfl rfl dX10_setRebate_52 (fun o68 eo68 ko68 => ?_)
    obtain ⟨b69, hb9, h⟩ := h
    have g70 : hK S b69 = 7 := ko68 b69 (eo68.trans hb9)
    replace h := h g70
    refine g_opt (eo68.trans hb9) ?_
    refine gc_getI C iwx_X6 hL g70 (by decide) (by decide) rfl 6 (by decide) (hW kw_71) rfl rfl rfl dX10_setRebate_55 ?_
    refine g_iconst (v := 5) C dX10_setRebate_58 (by decide) ?_
    refine g_icmp_lt (tgt := 70) C dX10_setRebate_59 (by decide) (fun z71 => ?_) (fun z71 => ?_)
    · replace h := h.1 z71
      refine g_aload_n C dX10_setRebate_70 rfl 0 rfl ?_
      obtain ⟨m72, m73, m74, m75, m76, h⟩ := h
      obtain ⟨g77, h⟩ := h
      refine gc_callvV (host := "") C E hw hL hx0 (by decide) (by decide) rfl [] rfl (k_X10_remember l D T x0 S m72 m73 m74 m75 m76 hx0 g77) (w0_V 0 C.2.2.2.2.1 kw_495 kw_497 ks_1 kw_1 kw_498 rfl rfl (by decide +kernel) ⟨Nat.le_of_ble_eq_true rfl, Nat.le_of_ble_eq_true rfl⟩) rfl (Nat.le_of_ble_eq_true rfl) (Nat.le_refl _) (Nat.le_refl _) (Nat.zero_le _) (Nat.zero_le _) dX10_setRebate_71 (fun S78 L79 e80 w81 w82 hp => ?_)
      replace h := h S78 e80 hp
      have g83 := ext_K e80 hx0 (by decide)
      have w84 := ext_tr he e80
      refine g_iload_n C dX10_setRebate_74 rfl 2 rfl ?_
      refine g_if_ne (tgt := 89) C dX10_setRebate_75 (by decide) (fun z85 => ?_) (fun z85 => ?_)
      · replace h := h.1 z85
        refine g_aload_n C dX10_setRebate_89 rfl 0 rfl ?_
        refine gc_getR C w81 iwx_X10 w82 g83 (by decide) (by decide) rfl 0 (by decide) (hW kw_242) rfl rfl rfl dX10_setRebate_90 (fun o86 eo86 ko86 => ?_)
        obtain ⟨b87, hb9, h⟩ := h
        have g88 : hK S78 b87 = 7 := ko86 b87 (eo86.trans hb9)
        replace h := h g88
        refine g_opt (eo86.trans hb9) ?_
        refine g_iload_n C dX10_setRebate_93 rfl 1 rfl ?_
        refine g_iload_n C dX10_setRebate_94 rfl 2 rfl ?_
        obtain ⟨m89, m90, h⟩ := h
        obtain ⟨g91, h⟩ := h
        refine gc_callvV (host := "") C E w81 w82 g88 (by decide) (by decide) rfl [.int x1, .int x2] rfl (k_X6_putStep l D T b87 x1 x2 S78 m89 m90 g88 g91) (w0_V 2 C.2.2.2.2.1 kw_1473 kw_1474 kw_1475 kw_2 kw_1476 rfl rfl (by decide +kernel) ⟨Nat.le_of_ble_eq_true rfl, Nat.le_of_ble_eq_true rfl⟩) rfl (Nat.le_of_ble_eq_true rfl) (Nat.le_refl _) (Nat.le_refl _) (Nat.zero_le _) (Nat.zero_le _) dX10_setRebate_95 (fun S92 L93 e94 w95 w96 hp => ?_)
        replace h := h S92 e94 hp
        have g97 := ext_K e94 g83 (by decide)
        have w98 := ext_tr w84 e94
        refine g_aload_n C dX10_setRebate_98 rfl 0 rfl ?_
        refine gc_getR C w95 iwx_X10 w96 g97 (by decide) (by decide) rfl 0 (by decide) (hW kw_242) rfl rfl rfl dX10_setRebate_99 (fun o99 eo99 ko99 => ?_)
        obtain ⟨b100, hb9, h⟩ := h
        have g101 : hK S92 b100 = 7 := ko99 b100 (eo99.trans hb9)
        replace h := h g101
        refine g_opt (eo99.trans hb9) ?_
        refine gc_getI C iwx_X6 w96 g101 (by decide) (by decide) rfl 6 (by decide) (hW kw_71) rfl rfl rfl dX10_setRebate_102 ?_
        exact gx_iret C w95 w96 w98 hr dX10_setRebate_105 h
      · replace h := h.2 z85
        refine g_aload_n C dX10_setRebate_78 rfl 0 rfl ?_
        refine gc_getR C w81 iwx_X10 w82 g83 (by decide) (by decide) rfl 0 (by decide) (hW kw_242) rfl rfl rfl dX10_setRebate_79 (fun o102 eo102 ko102 => ?_)
        obtain ⟨b103, hb9, h⟩ := h
        have g104 : hK S78 b103 = 7 := ko102 b103 (eo102.trans hb9)
        replace h := h g104
        refine g_opt (eo102.trans hb9) ?_
        refine g_iload_n C dX10_setRebate_82 rfl 3 rfl ?_
        obtain ⟨m105, m106, m107, h⟩ := h
        obtain ⟨g108, h⟩ := h
        refine gc_callvV (host := "") C E w81 w82 g104 (by decide) (by decide) rfl [.int x3] rfl (k_X6_removeStep l D T b103 x3 S78 m105 m106 m107 g104 g108) (w0_V 1 C.2.2.2.2.1 kw_1469 kw_1470 kw_1471 kw_2 kw_1472 rfl rfl (by decide +kernel) ⟨Nat.le_of_ble_eq_true rfl, Nat.le_of_ble_eq_true rfl⟩) rfl (Nat.le_of_ble_eq_true rfl) (Nat.le_refl _) (Nat.le_refl _) (Nat.zero_le _) (Nat.zero_le _) dX10_setRebate_83 (fun S109 L110 e111 w112 w113 hp => ?_)
        replace h := h S109 e111 hp
        have g114 := ext_K e111 g83 (by decide)
        have w115 := ext_tr w84 e111
        refine g_goto (tgt := 98) C dX10_setRebate_86 (by decide) ?_
        refine g_aload_n C dX10_setRebate_98 rfl 0 rfl ?_
        refine gc_getR C w112 iwx_X10 w113 g114 (by decide) (by decide) rfl 0 (by decide) (hW kw_242) rfl rfl rfl dX10_setRebate_99 (fun o116 eo116 ko116 => ?_)
        obtain ⟨b117, hb9, h⟩ := h
        have g118 : hK S109 b117 = 7 := ko116 b117 (eo116.trans hb9)
        replace h := h g118
        refine g_opt (eo116.trans hb9) ?_
        refine gc_getI C iwx_X6 w113 g118 (by decide) (by decide) rfl 6 (by decide) (hW kw_71) rfl rfl rfl dX10_setRebate_102 ?_
        exact gx_iret C w112 w113 w115 hr dX10_setRebate_105 h
    · replace h := h.2 z71
      obtain ⟨g119, h⟩ := h
      exact gx_throw (cls := "java/lang/IllegalStateException") (names := ["java/lang/RuntimeException", "java/lang/Exception"]) C E hst hw hL he (Nat.le_refl _) (Nat.le_refl _) (by decide) (by decide) (hW kw_480) (hW kw_17) (th_FreightRater_78 hW E) tv_FreightRater_78 dX10_setRebate_62 dX10_setRebate_65 dX10_setRebate_66 dX10_setRebate_69 htab (Nat.le_of_ble_eq_true rfl) (Nat.le_of_ble_eq_true rfl) g119.1 g119.2 h
def wp_X10_setRebate (P : Int32 → HS → Prop) (X : String → HS → Prop) (x0 : Nat) (p0 : Int32) (p1 : Int32) (S : HS) (mc ms : Nat) : Prop := (p0 < 0 → ((1 ≤ mc ∧ 6 ≤ ms) ∧ X "java/lang/IllegalArgumentException" S)) ∧ (¬ p0 < 0 → ((¬ (zin p1 0 50) = 0 → (∃ b9 : Nat, hR S 220 x0 = some b9 ∧ (hK S b9 = 7 → (∃ (m11 : (Nat → Prop)) (m12 : Nat → Int32), ((WF m12 ∧ RelSt S m11 b9 m12) ∧ (∀ v18 : Int32, v18 = ((if stx m12 p0 < iv (m12 2) then nI (stx m12 p0) else -1)) → ((0 ≤ v18 → (wp_X10_setRebate_47  P X x0 p0 p1 v18 S mc ms)) ∧ (¬ 0 ≤ v18 → ((¬ p1 = 0 → (wp_X10_setRebate_47  P X x0 p0 p1 v18 S mc ms)) ∧ (p1 = 0 → ((1 ≤ mc ∧ 6 ≤ ms) ∧ X "java/util/NoSuchElementException" S))))))))))) ∧ ((zin p1 0 50) = 0 → ((1 ≤ mc ∧ 6 ≤ ms) ∧ X "java/lang/IllegalArgumentException" S))))
set_option maxRecDepth 100000 in
set_option maxHeartbeats 4000000 in
theorem t_X10_setRebate {p : Program} {l : Launch} {e : Env} {s : State} {m : MethodId} {args : Array Value} {below : List Frame} {meth : Method} {c : Code} {D : va_G} {A : Nat → Prop} {T : Nat → ClassId} (C : GC p s m args meth c cX10_setRebate "FreightRater" (ws_X10_setRebate) 4 D A (zty T)) (E : GE T A s) (hst : l.stackTraces = false) (htab : ∀ z ∈ c.exceptionTable.toList, False) (hr : meth.sig.returnType = (some .int)) (P : Int32 → HS → Prop) (X : String → HS → Prop) : ∀ (x0 : Nat) (p0 : Int32) (p1 : Int32) (S0 S : HS) (mc ms : Nat) (L : List Nat), S0 = S → wt S → hL S L → (hK S x0 = 11) → wp_X10_setRebate P X x0 p0 p1 S mc ms → GW p l e { rm_X10_setRebate with cells := mc, slots := ms } s m args below meth c D A 4 mc ms (vx_MQ below (va_Qi (fun v (u : HS × List Nat) => P v u.1 ∧ CO S0 u) (CE D T A) A) (CXX D T A S0 X) args s mc ms A) (CW T S L) mc ms 0 [(0, .ref x0), (1, .int p0), (2, .int p1)] [] := by
  have hW : ∀ {w : Cond}, w ∈ W0 → w.before args s = true := fun h => C.2.2.2.2.1 _ (List.mem_cons_of_mem _ h)
  intro x0 p0 p1 S0 S mc ms L hS0 hw hL hx0 h
  have he : ext S0 S := by rw [hS0]; exact ext_rf
  unfold wp_X10_setRebate at h
  refine g_iload_n C dX10_setRebate_0 rfl 1 rfl ?_
  refine g_if_lt (tgt := 14) C dX10_setRebate_1 (by decide) (fun z1 => ?_) (fun z1 => ?_)
  · replace h := h.1 z1
    obtain ⟨g2, h⟩ := h
    exact gx_throw (cls := "java/lang/IllegalArgumentException") (names := ["java/lang/RuntimeException", "java/lang/Exception"]) C E hst hw hL he (Nat.le_refl _) (Nat.le_refl _) (by decide) (by decide) (hW kw_310) (hW kw_13) (th_FreightRater_62 hW E) tv_FreightRater_62 dX10_setRebate_14 dX10_setRebate_17 dX10_setRebate_18 dX10_setRebate_21 htab (Nat.le_of_ble_eq_true rfl) (Nat.le_of_ble_eq_true rfl) g2.1 g2.2 h
  · replace h := h.2 z1
    refine g_iload_n C dX10_setRebate_4 rfl 2 rfl ?_
    refine g_iconst (v := 0) C dX10_setRebate_5 (by decide) ?_
    refine g_bipush (v := 50) C dX10_setRebate_6 (by decide) ?_
    refine gc_calliS (host := "") C E hw hL [.int p1, .int 0, .int 50] rfl (k_X10_isBetween l D T p1 0 50 S ) (w0_S 3 C.2.2.2.2.1 kw_303 kw_304 kw_1 kw_305 rfl rfl (by decide +kernel) ⟨Nat.le_of_ble_eq_true rfl, Nat.le_of_ble_eq_true rfl⟩) rfl (Nat.le_of_ble_eq_true rfl) (Nat.le_refl _) (Nat.le_refl _) (Nat.zero_le _) (Nat.zero_le _) dX10_setRebate_8 (fun v9 S9 L3 he9 hw9 hL9 hp => ?_)
    obtain ⟨hv9, hs9⟩ := hp
    replace hs9 := hs9.symm
    subst hs9
    replace hv9 := hv9.symm
    subst hv9
    have w6 := hL9
    refine g_if_ne (tgt := 22) C dX10_setRebate_11 (by decide) (fun z7 => ?_) (fun z7 => ?_)
    · replace h := h.1 z7
      refine g_aload_n C dX10_setRebate_22 rfl 0 rfl ?_
      refine gc_getR C hw iwx_X10 w6 hx0 (by decide) (by decide) rfl 0 (by decide) (hW kw_242) rfl rfl rfl dX10_setRebate_23 (fun o8 eo8 ko8 => ?_)
      obtain ⟨b9, hb9, h⟩ := h
      have g10 : hK S b9 = 7 := ko8 b9 (eo8.trans hb9)
      replace h := h g10
      refine g_opt (eo8.trans hb9) ?_
      refine g_iload_n C dX10_setRebate_26 rfl 1 rfl ?_
      obtain ⟨m11, m12, h⟩ := h
      obtain ⟨g13, h⟩ := h
      refine gc_calliV (host := "") C E hw w6 g10 (by decide) (by decide) rfl [.int p0] rfl (k_X6_findStep l D T b9 p0 S m11 m12 g10 g13) (w0_V 1 C.2.2.2.2.1 kw_1465 kw_1466 kw_1467 kw_2 kw_1468 rfl rfl (by decide +kernel) ⟨Nat.le_of_ble_eq_true rfl, Nat.le_of_ble_eq_true rfl⟩) rfl (Nat.le_of_ble_eq_true rfl) (Nat.le_refl _) (Nat.le_refl _) (Nat.zero_le _) (Nat.zero_le _) dX10_setRebate_27 (fun v9 S9 L14 he9 hw9 hL9 hp => ?_)
      obtain ⟨hv9, hs9⟩ := hp
      replace hs9 := hs9.symm
      subst hs9
      replace hv9 := hv9.symm
      subst hv9
      have w17 := hL9
      refine g_topi (fun v18 ev18 => ?_)
      replace h := h v18 ev18
      refine g_istore_n (lv' := [(3, .int v18), (0, .ref x0), (1, .int p0), (2, .int p1)]) C dX10_setRebate_30 rfl (by decide) rfl ?_
      refine g_iload_n C dX10_setRebate_31 rfl 0 rfl ?_
      refine g_if_ge (tgt := 47) C dX10_setRebate_32 (by decide) (fun z19 => ?_) (fun z19 => ?_)
      · replace h := h.1 z19
        refine g_locals [1, 2, 3, 0] rfl ?_
        refine t_X10_setRebate_47 C E hst htab hr S0  P X  x0 p0 p1 v18 S mc ms L14 hw w17 he hx0 h
      · replace h := h.2 z19
        refine g_iload_n C dX10_setRebate_35 rfl 3 rfl ?_
        refine g_if_ne (tgt := 47) C dX10_setRebate_36 (by decide) (fun z120 => ?_) (fun z120 => ?_)
        · replace h := h.1 z120
          refine g_locals [1, 2, 3, 0] rfl ?_
          refine t_X10_setRebate_47 C E hst htab hr S0  P X  x0 p0 p1 v18 S mc ms L14 hw w17 he hx0 h
        · replace h := h.2 z120
          obtain ⟨g121, h⟩ := h
          exact gx_throw (cls := "java/util/NoSuchElementException") (names := ["java/lang/RuntimeException", "java/lang/Exception"]) C E hst hw w17 he (Nat.le_refl _) (Nat.le_refl _) (by decide) (by decide) (hW kw_966) (hW kw_34) (th_FreightRater_136 hW E) tv_FreightRater_136 dX10_setRebate_39 dX10_setRebate_42 dX10_setRebate_43 dX10_setRebate_46 htab (Nat.le_of_ble_eq_true rfl) (Nat.le_of_ble_eq_true rfl) g121.1 g121.2 h
    · replace h := h.2 z7
      obtain ⟨g122, h⟩ := h
      exact gx_throw (cls := "java/lang/IllegalArgumentException") (names := ["java/lang/RuntimeException", "java/lang/Exception"]) C E hst hw w6 he (Nat.le_refl _) (Nat.le_refl _) (by decide) (by decide) (hW kw_310) (hW kw_13) (th_FreightRater_62 hW E) tv_FreightRater_62 dX10_setRebate_14 dX10_setRebate_17 dX10_setRebate_18 dX10_setRebate_21 htab (Nat.le_of_ble_eq_true rfl) (Nat.le_of_ble_eq_true rfl) g122.1 g122.2 h
theorem c_X10_setRebate (l : Launch) (hst : l.stackTraces = false) (D : va_G) (T : Nat → ClassId) (x0 : Nat) (p0 : Int32) (p1 : Int32) (S : HS) (mc ms : Nat) (hx0 : hK S x0 = 11) (P : Int32 → HS → Prop) (X : String → HS → Prop) (h : wp_X10_setRebate P X x0 p0 p1 S mc ms) : CXi l yX10_setRebate (ws_X10_setRebate) rm_X10_setRebate D T [.ref x0, .int p0, .int p1] S mc ms P X := gx_meti (by decide) rfl rfl (Nat.le_of_ble_eq_true rfl) (fun p e s m args below meth c A L C E hnm hr htab hw hL => t_X10_setRebate C E hst htab hr P X x0 p0 p1 S S mc ms L rfl hw hL hx0 h)
def wp_X10_rebate (P : Int32 → HS → Prop) (X : String → HS → Prop) (x0 : Nat) (p0 : Int32) (S : HS) (mc ms : Nat) : Prop := (¬ (zin p0 0 3) = 0 → (∃ b7 : Nat, hR S 220 x0 = some b7 ∧ (hK S b7 = 7 → (∃ (m9 : (Nat → Prop)) (m10 : Nat → Int32), ((WF m10 ∧ RelSt S m9 b7 m10 ∧ ¬ p0 = (4 : Int32)) ∧ (∀ v16 : Int32, v16 = (accF m10 p0) → (∃ b18 : Nat, hR S 220 x0 = some b18 ∧ (hK S b18 = 7 → (∃ (m20 : (Nat → Prop)) (m21 : Nat → Int32), ((WF m21 ∧ RelSt S m20 b18 m21 ∧ stO m21) ∧ (P (pctF v16 (rbFold m21 v16 (iv (m21 2)) 0 (-1) 0)) S))))))))))) ∧ ((zin p0 0 3) = 0 → ((1 ≤ mc ∧ 6 ≤ ms) ∧ X "java/lang/IllegalArgumentException" S))
set_option maxRecDepth 100000 in
set_option maxHeartbeats 4000000 in
theorem t_X10_rebate {p : Program} {l : Launch} {e : Env} {s : State} {m : MethodId} {args : Array Value} {below : List Frame} {meth : Method} {c : Code} {D : va_G} {A : Nat → Prop} {T : Nat → ClassId} (C : GC p s m args meth c cX10_rebate "FreightRater" (ws_X10_rebate) 3 D A (zty T)) (E : GE T A s) (hst : l.stackTraces = false) (htab : ∀ z ∈ c.exceptionTable.toList, False) (hr : meth.sig.returnType = (some .int)) (P : Int32 → HS → Prop) (X : String → HS → Prop) : ∀ (x0 : Nat) (p0 : Int32) (S0 S : HS) (mc ms : Nat) (L : List Nat), S0 = S → wt S → hL S L → (hK S x0 = 11) → wp_X10_rebate P X x0 p0 S mc ms → GW p l e { rm_X10_rebate with cells := mc, slots := ms } s m args below meth c D A 3 mc ms (vx_MQ below (va_Qi (fun v (u : HS × List Nat) => P v u.1 ∧ CO S0 u) (CE D T A) A) (CXX D T A S0 X) args s mc ms A) (CW T S L) mc ms 0 [(0, .ref x0), (1, .int p0)] [] := by
  have hW : ∀ {w : Cond}, w ∈ W0 → w.before args s = true := fun h => C.2.2.2.2.1 _ (List.mem_cons_of_mem _ h)
  intro x0 p0 S0 S mc ms L hS0 hw hL hx0 h
  have he : ext S0 S := by rw [hS0]; exact ext_rf
  unfold wp_X10_rebate at h
  refine g_iload_n C dX10_rebate_0 rfl 1 rfl ?_
  refine g_iconst (v := 0) C dX10_rebate_1 (by decide) ?_
  refine g_iconst (v := 3) C dX10_rebate_2 (by decide) ?_
  refine gc_calliS (host := "") C E hw hL [.int p0, .int 0, .int 3] rfl (k_X10_isBetween l D T p0 0 3 S ) (w0_S 3 C.2.2.2.2.1 kw_303 kw_304 kw_1 kw_305 rfl rfl (by decide +kernel) ⟨Nat.le_of_ble_eq_true rfl, Nat.le_of_ble_eq_true rfl⟩) rfl (Nat.le_of_ble_eq_true rfl) (Nat.le_refl _) (Nat.le_refl _) (Nat.zero_le _) (Nat.zero_le _) dX10_rebate_3 (fun v9 S9 L1 he9 hw9 hL9 hp => ?_)
  obtain ⟨hv9, hs9⟩ := hp
  replace hs9 := hs9.symm
  subst hs9
  replace hv9 := hv9.symm
  subst hv9
  have w4 := hL9
  refine g_if_ne (tgt := 17) C dX10_rebate_6 (by decide) (fun z5 => ?_) (fun z5 => ?_)
  · replace h := h.1 z5
    refine g_aload_n C dX10_rebate_17 rfl 0 rfl ?_
    refine gc_getR C hw iwx_X10 w4 hx0 (by decide) (by decide) rfl 0 (by decide) (hW kw_242) rfl rfl rfl dX10_rebate_18 (fun o6 eo6 ko6 => ?_)
    obtain ⟨b7, hb9, h⟩ := h
    have g8 : hK S b7 = 7 := ko6 b7 (eo6.trans hb9)
    replace h := h g8
    refine g_opt (eo6.trans hb9) ?_
    refine g_iload_n C dX10_rebate_21 rfl 1 rfl ?_
    obtain ⟨m9, m10, h⟩ := h
    obtain ⟨g11, h⟩ := h
    refine gc_calliV (host := "") C E hw w4 g8 (by decide) (by decide) rfl [.int p0] rfl (k_X6_accountOf l D T b7 p0 S m9 m10 g8 g11) (w0_V 1 C.2.2.2.2.1 kw_1457 kw_1454 kw_1455 kw_2 kw_1456 rfl rfl (by decide +kernel) ⟨Nat.le_of_ble_eq_true rfl, Nat.le_of_ble_eq_true rfl⟩) rfl (Nat.le_of_ble_eq_true rfl) (Nat.le_refl _) (Nat.le_refl _) (Nat.zero_le _) (Nat.zero_le _) dX10_rebate_22 (fun v9 S9 L12 he9 hw9 hL9 hp => ?_)
    obtain ⟨hv9, hs9⟩ := hp
    replace hs9 := hs9.symm
    subst hs9
    replace hv9 := hv9.symm
    subst hv9
    have w15 := hL9
    refine g_topi (fun v16 ev16 => ?_)
    replace h := h v16 ev16
    refine g_istore_n (lv' := [(2, .int v16), (0, .ref x0), (1, .int p0)]) C dX10_rebate_25 rfl (by decide) rfl ?_
    refine g_iload_n C dX10_rebate_26 rfl 0 rfl ?_
    refine g_aload_n C dX10_rebate_27 rfl 1 rfl ?_
    refine gc_getR C hw iwx_X10 w15 hx0 (by decide) (by decide) rfl 0 (by decide) (hW kw_242) rfl rfl rfl dX10_rebate_28 (fun o17 eo17 ko17 => ?_)
    obtain ⟨b18, hb9, h⟩ := h
    have g19 : hK S b18 = 7 := ko17 b18 (eo17.trans hb9)
    replace h := h g19
    refine g_opt (eo17.trans hb9) ?_
    refine g_iload_n C dX10_rebate_31 rfl 0 rfl ?_
    obtain ⟨m20, m21, h⟩ := h
    obtain ⟨g22, h⟩ := h
    refine gc_calliV (host := "") C E hw w15 g19 (by decide) (by decide) rfl [.int v16] rfl (k_X6_rebatePercentage l D T b18 v16 S m20 m21 g19 g22) (w0_V 1 C.2.2.2.2.1 kw_1485 kw_1486 kw_1487 kw_2 kw_1488 rfl rfl (by decide +kernel) ⟨Nat.le_of_ble_eq_true rfl, Nat.le_of_ble_eq_true rfl⟩) rfl (Nat.le_of_ble_eq_true rfl) (Nat.le_refl _) (Nat.le_refl _) (Nat.zero_le _) (Nat.zero_le _) dX10_rebate_32 (fun v9 S9 L23 he9 hw9 hL9 hp => ?_)
    obtain ⟨hv9, hs9⟩ := hp
    replace hs9 := hs9.symm
    subst hs9
    replace hv9 := hv9.symm
    subst hv9
    have w26 := hL9
    refine gc_calliS (host := "") C E hw w26 [.int v16, .int (rbFold m21 v16 (iv (m21 2)) 0 (-1) 0)] rfl (k_X10_percentOf l D T v16 (rbFold m21 v16 (iv (m21 2)) 0 (-1) 0) S ) (w0_S 2 C.2.2.2.2.1 kw_1489 kw_1278 kw_1 kw_1279 rfl rfl (by decide +kernel) ⟨Nat.le_of_ble_eq_true rfl, Nat.le_of_ble_eq_true rfl⟩) rfl (Nat.le_of_ble_eq_true rfl) (Nat.le_refl _) (Nat.le_refl _) (Nat.zero_le _) (Nat.zero_le _) dX10_rebate_35 (fun v9 S9 L27 he9 hw9 hL9 hp => ?_)
    obtain ⟨hv9, hs9⟩ := hp
    replace hs9 := hs9.symm
    subst hs9
    replace hv9 := hv9.symm
    subst hv9
    have w30 := hL9
    exact gx_iret C hw w30 he hr dX10_rebate_38 h
  · replace h := h.2 z5
    obtain ⟨g31, h⟩ := h
    exact gx_throw (cls := "java/lang/IllegalArgumentException") (names := ["java/lang/RuntimeException", "java/lang/Exception"]) C E hst hw w4 he (Nat.le_refl _) (Nat.le_refl _) (by decide) (by decide) (hW kw_310) (hW kw_13) (th_FreightRater_62 hW E) tv_FreightRater_62 dX10_rebate_9 dX10_rebate_12 dX10_rebate_13 dX10_rebate_16 htab (Nat.le_of_ble_eq_true rfl) (Nat.le_of_ble_eq_true rfl) g31.1 g31.2 h
theorem c_X10_rebate (l : Launch) (hst : l.stackTraces = false) (D : va_G) (T : Nat → ClassId) (x0 : Nat) (p0 : Int32) (S : HS) (mc ms : Nat) (hx0 : hK S x0 = 11) (P : Int32 → HS → Prop) (X : String → HS → Prop) (h : wp_X10_rebate P X x0 p0 S mc ms) : CXi l yX10_rebate (ws_X10_rebate) rm_X10_rebate D T [.ref x0, .int p0] S mc ms P X := gx_meti (by decide) rfl rfl (Nat.le_of_ble_eq_true rfl) (fun p e s m args below meth c A L C E hnm hr htab hw hL => t_X10_rebate C E hst htab hr P X x0 p0 S S mc ms L rfl hw hL hx0 h)
def wp_X10_findScale (P : Option Nat → HS → Prop) (x0 : Nat) (p0 : Int32) (p1 : Int32) (S : HS) : Prop := ∃ b2 : Nat, hR S 220 x0 = some b2 ∧ (hK S b2 = 7 → (∃ (m4 : (Nat → Prop)) (m5 : Nat → Int32), ((WF m5 ∧ RelSt S m4 b2 m5) ∧ (∀ (o12 : Option Nat) (S7 : HS), ext S S7 → (∀ b, o12 = some b → hK S7 b = 10) → (S7 = S ∧ (zin p0 0 (m5 0 - 1) = 0 → o12 = none) ∧ (¬ zin p0 0 (m5 0 - 1) = 0 → ∃ y, o12 = some y ∧ RelV S m4 y m5 (iv p0))) → ((o12 = none → (P none S7)) ∧ (∀ b15 : Nat, o12 = some b15 → hK S7 b15 = 10 → (∃ (m17 : (Nat → Prop)) (m18 : Nat → Int32) (m19 : Nat), ((WF m18 ∧ m19 < 6 ∧ RelV S7 m17 b15 m18 m19) ∧ (∀ (o26 : Option Nat) (S21 : HS), ext S7 S21 → (∀ b, o26 = some b → hK S21 b = 5) → (S21 = S7 ∧ (zin p1 1 9 = 0 → o26 = none) ∧ (¬ zin p1 1 9 = 0 → ∃ y, o26 = some y ∧ RelSc S7 m17 y m18 m19 (iv p1) ∧ ∃ sc, hR S7 205 b15 = some sc ∧ hB S7 sc (iv p1 - 1) = some y)) → (P o26 S21))))))))))
set_option maxRecDepth 100000 in
set_option maxHeartbeats 4000000 in
theorem t_X10_findScale {p : Program} {l : Launch} {e : Env} {s : State} {m : MethodId} {args : Array Value} {below : List Frame} {meth : Method} {c : Code} {D : va_G} {A : Nat → Prop} {T : Nat → ClassId} (C : GC p s m args meth c cX10_findScale "FreightRater" (ws_X10_findScale) 4 D A (zty T)) (E : GE T A s) (hr : meth.sig.returnType = (some (.object "FreightRater$Scale"))) (P : Option Nat → HS → Prop) : ∀ (x0 : Nat) (p0 : Int32) (p1 : Int32) (S0 S : HS) (L : List Nat), S0 = S → wt S → hL S L → (hK S x0 = 11) → wp_X10_findScale P x0 p0 p1 S → GW p l e { rm_X10_findScale with cells := 0, slots := 0 } s m args below meth c D A 4 0 0 (MQ below (va_Qq (fun v (u : HS × List Nat) => (P v u.1 ∧ ∀ b, v = some b → hK u.1 b = 5) ∧ CO S0 u) (CE D T A) A) args s 0 0 A) (CW T S L) 0 0 0 [(0, .ref x0), (1, .int p0), (2, .int p1)] [] := by
  have hW : ∀ {w : Cond}, w ∈ W0 → w.before args s = true := fun h => C.2.2.2.2.1 _ (List.mem_cons_of_mem _ h)
  intro x0 p0 p1 S0 S L hS0 hw hL hx0 h
  have he : ext S0 S := by rw [hS0]; exact ext_rf
  unfold wp_X10_findScale at h
  refine g_aload_n C dX10_findScale_0 rfl 0 rfl ?_
  refine gc_getR C hw iwx_X10 hL hx0 (by decide) (by decide) rfl 0 (by decide) (hW kw_242) rfl rfl rfl dX10_findScale_1 (fun o1 eo1 ko1 => ?_)
  obtain ⟨b2, hb9, h⟩ := h
  have g3 : hK S b2 = 7 := ko1 b2 (eo1.trans hb9)
  replace h := h g3
  refine g_opt (eo1.trans hb9) ?_
  refine g_iload_n C dX10_findScale_4 rfl 1 rfl ?_
  obtain ⟨m4, m5, h⟩ := h
  obtain ⟨g6, h⟩ := h
  refine gc_callqV (host := "") C E hw hL g3 (by decide) (by decide) rfl [.int p0] rfl (k_X6_versionAt l D T b2 p0 S m4 m5 g3 g6) (w0_V 1 C.2.2.2.2.1 kw_460 kw_461 kw_462 kw_2 kw_463 rfl rfl (by decide +kernel) ⟨Nat.le_of_ble_eq_true rfl, Nat.le_of_ble_eq_true rfl⟩) rfl (Nat.le_of_ble_eq_true rfl) (Nat.le_refl _) (Nat.le_refl _) (Nat.zero_le _) (Nat.zero_le _) dX10_findScale_5 (fun o12 S7 L8 e9 w10 w11 ko12 hp => ?_)
  replace h := h o12 S7 e9 ko12 hp
  have g13 := ext_K e9 hx0 (by decide)
  have w14 := ext_tr he e9
  refine g_qstore_n (lv' := [(3, va_rf o12), (0, .ref x0), (1, .int p0), (2, .int p1)]) C dX10_findScale_8 rfl (by decide) rfl ?_
  refine g_qload_n C dX10_findScale_9 rfl 0 rfl ?_
  rcases o12 with _ | b15
  · replace h := h.1 rfl
    refine g_ifnonnullN C dX10_findScale_10 ?_
    refine g_null C dX10_findScale_13 ?_
    refine g_goto (tgt := 22) C dX10_findScale_14 (by decide) ?_
    exact gc_aret (v := none) (kd := 5) C (Or.inl ⟨_, rfl⟩) (fun b hb => by cases hb) w10 w11 w14 hr dX10_findScale_22 h
  · have g16 : hK S7 b15 = 10 := ko12 b15 rfl
    replace h := h.2 b15 rfl g16
    refine g_ifnonnull (tgt := 17) C dX10_findScale_10 (by decide) ?_
    refine g_aload_n C dX10_findScale_17 rfl 0 rfl ?_
    refine g_iload_n C dX10_findScale_18 rfl 3 rfl ?_
    obtain ⟨m17, m18, m19, h⟩ := h
    obtain ⟨g20, h⟩ := h
    refine gc_callqV (host := "") C E w10 w11 g16 (by decide) (by decide) rfl [.int p1] rfl (k_X9_scaleOf l D T b15 p1 S7 m17 m18 m19 g16 g20) (w0_V 1 C.2.2.2.2.1 kw_1029 kw_907 kw_908 kw_14 kw_909 rfl rfl (by decide +kernel) ⟨Nat.le_of_ble_eq_true rfl, Nat.le_of_ble_eq_true rfl⟩) rfl (Nat.le_of_ble_eq_true rfl) (Nat.le_refl _) (Nat.le_refl _) (Nat.zero_le _) (Nat.zero_le _) dX10_findScale_19 (fun o26 S21 L22 e23 w24 w25 ko26 hp => ?_)
    replace h := h o26 S21 e23 ko26 hp
    have g27 := ext_K e23 g16 (by decide)
    have g28 := ext_K e23 g13 (by decide)
    have w29 := ext_tr w14 e23
    exact gc_aret (v := o26) (kd := 5) C (Or.inl ⟨_, rfl⟩) ko26 w24 w25 w29 hr dX10_findScale_22 h
theorem c_X10_findScale (l : Launch) (D : va_G) (T : Nat → ClassId) (x0 : Nat) (p0 : Int32) (p1 : Int32) (S : HS) (hx0 : hK S x0 = 11) (P : Option Nat → HS → Prop) (h : wp_X10_findScale P x0 p0 p1 S) : CMq l yX10_findScale (ws_X10_findScale) rm_X10_findScale D T [.ref x0, .int p0, .int p1] S 0 0 5 P := gc_metq (by decide) rfl rfl (Nat.le_of_ble_eq_true rfl) (fun p e s m args below meth c A L C E hnm hr hw hL => t_X10_findScale C E   hr P x0 p0 p1 S S L rfl hw hL hx0 h)
def wp_X10_requireAccessorial (P : Option Nat → HS → Prop) (X : String → HS → Prop) (x0 : Nat) (p0 : Int32) (p1 : Int32) (S : HS) (mc ms : Nat) : Prop := ∃ b2 : Nat, hR S 220 x0 = some b2 ∧ (hK S b2 = 7 → (∃ (m4 : (Nat → Prop)) (m5 : Nat → Int32), ((WF m5 ∧ RelSt S m4 b2 m5) ∧ (∀ (o12 : Option Nat) (S7 : HS), ext S S7 → (∀ b, o12 = some b → hK S7 b = 10) → (S7 = S ∧ (zin p0 0 (m5 0 - 1) = 0 → o12 = none) ∧ (¬ zin p0 0 (m5 0 - 1) = 0 → ∃ y, o12 = some y ∧ RelV S m4 y m5 (iv p0))) → ((o12 = none → ((1 ≤ mc ∧ 6 ≤ ms) ∧ X "java/lang/IndexOutOfBoundsException" S7)) ∧ (∀ b15 : Nat, o12 = some b15 → hK S7 b15 = 10 → (∃ (m18 : (Nat → Prop)) (m19 : Nat → Int32) (m20 : Nat), ((WF m19 ∧ m20 < 6 ∧ RelV S7 m18 b15 m19 m20) ∧ (∀ (o27 : Option Nat) (S22 : HS), ext S7 S22 → (∀ b, o27 = some b → hK S22 b = 1) → (S22 = S7 ∧ (¬ acX m19 m20 p1 → o27 = none) ∧ (acX m19 m20 p1 → ∃ y, o27 = some y ∧ RelA S7 m18 y m19 m20 (iv p1))) → ((o27 = none → ((1 ≤ mc ∧ 6 ≤ ms) ∧ X "java/util/NoSuchElementException" S22)) ∧ (∀ b31 : Nat, o27 = some b31 → hK S22 b31 = 1 → (P (some b31) S22))))))))))))
set_option maxRecDepth 100000 in
set_option maxHeartbeats 4000000 in
theorem t_X10_requireAccessorial {p : Program} {l : Launch} {e : Env} {s : State} {m : MethodId} {args : Array Value} {below : List Frame} {meth : Method} {c : Code} {D : va_G} {A : Nat → Prop} {T : Nat → ClassId} (C : GC p s m args meth c cX10_requireAccessorial "FreightRater" (ws_X10_requireAccessorial) 5 D A (zty T)) (E : GE T A s) (hst : l.stackTraces = false) (htab : ∀ z ∈ c.exceptionTable.toList, False) (hr : meth.sig.returnType = (some (.object "FreightRater$Accessorial"))) (P : Option Nat → HS → Prop) (X : String → HS → Prop) : ∀ (x0 : Nat) (p0 : Int32) (p1 : Int32) (S0 S : HS) (mc ms : Nat) (L : List Nat), S0 = S → wt S → hL S L → (hK S x0 = 11) → wp_X10_requireAccessorial P X x0 p0 p1 S mc ms → GW p l e { rm_X10_requireAccessorial with cells := mc, slots := ms } s m args below meth c D A 5 mc ms (vx_MQ below (va_Qq (fun v (u : HS × List Nat) => (P v u.1 ∧ ∀ b, v = some b → hK u.1 b = 1) ∧ CO S0 u) (CE D T A) A) (CXX D T A S0 X) args s mc ms A) (CW T S L) mc ms 0 [(0, .ref x0), (1, .int p0), (2, .int p1)] [] := by
  have hW : ∀ {w : Cond}, w ∈ W0 → w.before args s = true := fun h => C.2.2.2.2.1 _ (List.mem_cons_of_mem _ h)
  intro x0 p0 p1 S0 S mc ms L hS0 hw hL hx0 h
  have he : ext S0 S := by rw [hS0]; exact ext_rf
  unfold wp_X10_requireAccessorial at h
  refine g_aload_n C dX10_requireAccessorial_0 rfl 0 rfl ?_
  refine gc_getR C hw iwx_X10 hL hx0 (by decide) (by decide) rfl 0 (by decide) (hW kw_242) rfl rfl rfl dX10_requireAccessorial_1 (fun o1 eo1 ko1 => ?_)
  obtain ⟨b2, hb9, h⟩ := h
  have g3 : hK S b2 = 7 := ko1 b2 (eo1.trans hb9)
  replace h := h g3
  refine g_opt (eo1.trans hb9) ?_
  refine g_iload_n C dX10_requireAccessorial_4 rfl 1 rfl ?_
  obtain ⟨m4, m5, h⟩ := h
  obtain ⟨g6, h⟩ := h
  refine gc_callqV (host := "") C E hw hL g3 (by decide) (by decide) rfl [.int p0] rfl (k_X6_versionAt l D T b2 p0 S m4 m5 g3 g6) (w0_V 1 C.2.2.2.2.1 kw_460 kw_461 kw_462 kw_2 kw_463 rfl rfl (by decide +kernel) ⟨Nat.le_of_ble_eq_true rfl, Nat.le_of_ble_eq_true rfl⟩) rfl (Nat.le_of_ble_eq_true rfl) (Nat.le_refl _) (Nat.le_refl _) (Nat.zero_le _) (Nat.zero_le _) dX10_requireAccessorial_5 (fun o12 S7 L8 e9 w10 w11 ko12 hp => ?_)
  replace h := h o12 S7 e9 ko12 hp
  have g13 := ext_K e9 hx0 (by decide)
  have w14 := ext_tr he e9
  refine g_qstore_n (lv' := [(3, va_rf o12), (0, .ref x0), (1, .int p0), (2, .int p1)]) C dX10_requireAccessorial_8 rfl (by decide) rfl ?_
  refine g_qload_n C dX10_requireAccessorial_9 rfl 0 rfl ?_
  rcases o12 with _ | b15
  · replace h := h.1 rfl
    refine g_ifnonnullN C dX10_requireAccessorial_10 ?_
    obtain ⟨g17, h⟩ := h
    exact gx_throw (cls := "java/lang/IndexOutOfBoundsException") (names := ["java/lang/RuntimeException", "java/lang/Exception"]) C E hst w10 w11 w14 (Nat.le_refl _) (Nat.le_refl _) (by decide) (by decide) (hW kw_465) (hW kw_16) (th_FreightRater_72 hW E) tv_FreightRater_72 dX10_requireAccessorial_13 dX10_requireAccessorial_16 dX10_requireAccessorial_17 dX10_requireAccessorial_20 htab (Nat.le_of_ble_eq_true rfl) (Nat.le_of_ble_eq_true rfl) g17.1 g17.2 h
  · have g16 : hK S7 b15 = 10 := ko12 b15 rfl
    replace h := h.2 b15 rfl g16
    refine g_ifnonnull (tgt := 21) C dX10_requireAccessorial_10 (by decide) ?_
    refine g_aload_n C dX10_requireAccessorial_21 rfl 0 rfl ?_
    refine g_iload_n C dX10_requireAccessorial_22 rfl 3 rfl ?_
    obtain ⟨m18, m19, m20, h⟩ := h
    obtain ⟨g21, h⟩ := h
    refine gc_callqV (host := "") C E w10 w11 g16 (by decide) (by decide) rfl [.int p1] rfl (k_X9_accessorialAt l D T b15 p1 S7 m18 m19 m20 g16 g21) (w0_V 1 C.2.2.2.2.1 kw_1041 kw_940 kw_941 kw_14 kw_942 rfl rfl (by decide +kernel) ⟨Nat.le_of_ble_eq_true rfl, Nat.le_of_ble_eq_true rfl⟩) rfl (Nat.le_of_ble_eq_true rfl) (Nat.le_refl _) (Nat.le_refl _) (Nat.zero_le _) (Nat.zero_le _) dX10_requireAccessorial_23 (fun o27 S22 L23 e24 w25 w26 ko27 hp => ?_)
    replace h := h o27 S22 e24 ko27 hp
    have g28 := ext_K e24 g16 (by decide)
    have g29 := ext_K e24 g13 (by decide)
    have w30 := ext_tr w14 e24
    refine g_qstore (lv' := [(4, va_rf o27), (3, .ref b15), (0, .ref x0), (1, .int p0), (2, .int p1)]) C dX10_requireAccessorial_26 (by decide) rfl ?_
    refine g_qload C dX10_requireAccessorial_28 0 rfl ?_
    rcases o27 with _ | b31
    · replace h := h.1 rfl
      refine g_ifnonnullN C dX10_requireAccessorial_30 ?_
      obtain ⟨g33, h⟩ := h
      exact gx_throw (cls := "java/util/NoSuchElementException") (names := ["java/lang/RuntimeException", "java/lang/Exception"]) C E hst w25 w26 w30 (Nat.le_refl _) (Nat.le_refl _) (by decide) (by decide) (hW kw_966) (hW kw_34) (th_FreightRater_136 hW E) tv_FreightRater_136 dX10_requireAccessorial_33 dX10_requireAccessorial_36 dX10_requireAccessorial_37 dX10_requireAccessorial_40 htab (Nat.le_of_ble_eq_true rfl) (Nat.le_of_ble_eq_true rfl) g33.1 g33.2 h
    · have g32 : hK S22 b31 = 1 := ko27 b31 rfl
      replace h := h.2 b31 rfl g32
      refine g_ifnonnull (tgt := 41) C dX10_requireAccessorial_30 (by decide) ?_
      refine g_aload C dX10_requireAccessorial_41 0 rfl ?_
      exact gx_aret (v := (some b31)) (kd := 1) C (Or.inl ⟨_, rfl⟩) (fun b hb => by cases hb; exact g32) w25 w26 w30 hr dX10_requireAccessorial_43 h
theorem c_X10_requireAccessorial (l : Launch) (hst : l.stackTraces = false) (D : va_G) (T : Nat → ClassId) (x0 : Nat) (p0 : Int32) (p1 : Int32) (S : HS) (mc ms : Nat) (hx0 : hK S x0 = 11) (P : Option Nat → HS → Prop) (X : String → HS → Prop) (h : wp_X10_requireAccessorial P X x0 p0 p1 S mc ms) : CXq l yX10_requireAccessorial (ws_X10_requireAccessorial) rm_X10_requireAccessorial D T [.ref x0, .int p0, .int p1] S mc ms 1 P X := gx_metq (by decide) rfl rfl (Nat.le_of_ble_eq_true rfl) (fun p e s m args below meth c A L C E hnm hr htab hw hL => t_X10_requireAccessorial C E hst htab hr P X x0 p0 p1 S S mc ms L rfl hw hL hx0 h)
def wp_X10_requireShipment (P : Option Nat → HS → Prop) (X : String → HS → Prop) (x0 : Nat) (p0 : Int32) (S : HS) (mc ms : Nat) : Prop := ∃ b2 : Nat, hR S 220 x0 = some b2 ∧ (hK S b2 = 7 → (∃ (m4 : (Nat → Prop)) (m5 : Nat → Int32), ((WF m5 ∧ RelSt S m4 b2 m5) ∧ (∀ (o12 : Option Nat) (S7 : HS), ext S S7 → (∀ b, o12 = some b → hK S7 b = 6) → (S7 = S ∧ (zin p0 0 (m5 1 - 1) = 0 → o12 = none) ∧ (¬ zin p0 0 (m5 1 - 1) = 0 → ∃ y, o12 = some y ∧ RelS S m4 y m5 (iv p0))) → ((o12 = none → ((1 ≤ mc ∧ 6 ≤ ms) ∧ X "java/lang/IndexOutOfBoundsException" S7)) ∧ (∀ b15 : Nat, o12 = some b15 → hK S7 b15 = 6 → (P (some b15) S7)))))))
set_option maxRecDepth 100000 in
set_option maxHeartbeats 4000000 in
theorem t_X10_requireShipment {p : Program} {l : Launch} {e : Env} {s : State} {m : MethodId} {args : Array Value} {below : List Frame} {meth : Method} {c : Code} {D : va_G} {A : Nat → Prop} {T : Nat → ClassId} (C : GC p s m args meth c cX10_requireShipment "FreightRater" (ws_X10_requireShipment) 3 D A (zty T)) (E : GE T A s) (hst : l.stackTraces = false) (htab : ∀ z ∈ c.exceptionTable.toList, False) (hr : meth.sig.returnType = (some (.object "FreightRater$Shipment"))) (P : Option Nat → HS → Prop) (X : String → HS → Prop) : ∀ (x0 : Nat) (p0 : Int32) (S0 S : HS) (mc ms : Nat) (L : List Nat), S0 = S → wt S → hL S L → (hK S x0 = 11) → wp_X10_requireShipment P X x0 p0 S mc ms → GW p l e { rm_X10_requireShipment with cells := mc, slots := ms } s m args below meth c D A 3 mc ms (vx_MQ below (va_Qq (fun v (u : HS × List Nat) => (P v u.1 ∧ ∀ b, v = some b → hK u.1 b = 6) ∧ CO S0 u) (CE D T A) A) (CXX D T A S0 X) args s mc ms A) (CW T S L) mc ms 0 [(0, .ref x0), (1, .int p0)] [] := by
  have hW : ∀ {w : Cond}, w ∈ W0 → w.before args s = true := fun h => C.2.2.2.2.1 _ (List.mem_cons_of_mem _ h)
  intro x0 p0 S0 S mc ms L hS0 hw hL hx0 h
  have he : ext S0 S := by rw [hS0]; exact ext_rf
  unfold wp_X10_requireShipment at h
  refine g_aload_n C dX10_requireShipment_0 rfl 0 rfl ?_
  refine gc_getR C hw iwx_X10 hL hx0 (by decide) (by decide) rfl 0 (by decide) (hW kw_242) rfl rfl rfl dX10_requireShipment_1 (fun o1 eo1 ko1 => ?_)
  obtain ⟨b2, hb9, h⟩ := h
  have g3 : hK S b2 = 7 := ko1 b2 (eo1.trans hb9)
  replace h := h g3
  refine g_opt (eo1.trans hb9) ?_
  refine g_iload_n C dX10_requireShipment_4 rfl 1 rfl ?_
  obtain ⟨m4, m5, h⟩ := h
  obtain ⟨g6, h⟩ := h
  refine gc_callqV (host := "") C E hw hL g3 (by decide) (by decide) rfl [.int p0] rfl (k_X6_shipmentAt l D T b2 p0 S m4 m5 g3 g6) (w0_V 1 C.2.2.2.2.1 kw_1138 kw_1139 kw_1140 kw_2 kw_1141 rfl rfl (by decide +kernel) ⟨Nat.le_of_ble_eq_true rfl, Nat.le_of_ble_eq_true rfl⟩) rfl (Nat.le_of_ble_eq_true rfl) (Nat.le_refl _) (Nat.le_refl _) (Nat.zero_le _) (Nat.zero_le _) dX10_requireShipment_5 (fun o12 S7 L8 e9 w10 w11 ko12 hp => ?_)
  replace h := h o12 S7 e9 ko12 hp
  have g13 := ext_K e9 hx0 (by decide)
  have w14 := ext_tr he e9
  refine g_qstore_n (lv' := [(2, va_rf o12), (0, .ref x0), (1, .int p0)]) C dX10_requireShipment_8 rfl (by decide) rfl ?_
  refine g_qload_n C dX10_requireShipment_9 rfl 0 rfl ?_
  rcases o12 with _ | b15
  · replace h := h.1 rfl
    refine g_ifnonnullN C dX10_requireShipment_10 ?_
    obtain ⟨g17, h⟩ := h
    exact gx_throw (cls := "java/lang/IndexOutOfBoundsException") (names := ["java/lang/RuntimeException", "java/lang/Exception"]) C E hst w10 w11 w14 (Nat.le_refl _) (Nat.le_refl _) (by decide) (by decide) (hW kw_465) (hW kw_16) (th_FreightRater_72 hW E) tv_FreightRater_72 dX10_requireShipment_13 dX10_requireShipment_16 dX10_requireShipment_17 dX10_requireShipment_20 htab (Nat.le_of_ble_eq_true rfl) (Nat.le_of_ble_eq_true rfl) g17.1 g17.2 h
  · have g16 : hK S7 b15 = 6 := ko12 b15 rfl
    replace h := h.2 b15 rfl g16
    refine g_ifnonnull (tgt := 21) C dX10_requireShipment_10 (by decide) ?_
    refine g_aload_n C dX10_requireShipment_21 rfl 0 rfl ?_
    exact gx_aret (v := (some b15)) (kd := 6) C (Or.inl ⟨_, rfl⟩) (fun b hb => by cases hb; exact g16) w10 w11 w14 hr dX10_requireShipment_22 h
theorem c_X10_requireShipment (l : Launch) (hst : l.stackTraces = false) (D : va_G) (T : Nat → ClassId) (x0 : Nat) (p0 : Int32) (S : HS) (mc ms : Nat) (hx0 : hK S x0 = 11) (P : Option Nat → HS → Prop) (X : String → HS → Prop) (h : wp_X10_requireShipment P X x0 p0 S mc ms) : CXq l yX10_requireShipment (ws_X10_requireShipment) rm_X10_requireShipment D T [.ref x0, .int p0] S mc ms 6 P X := gx_metq (by decide) rfl rfl (Nat.le_of_ble_eq_true rfl) (fun p e s m args below meth c A L C E hnm hr htab hw hL => t_X10_requireShipment C E hst htab hr P X x0 p0 S S mc ms L rfl hw hL hx0 h)
def wp_X10_breakOf (P : Int32 → HS → Prop) (X : String → HS → Prop) (x0 : Nat) (p0 : Int32) (p1 : Int32) (p2 : Int32) (p3 : Int32) (S : HS) (mc ms : Nat) : Prop := ∃ (m1 : (Nat → Nat)) (m2 : (Nat → Nat → Int32)) (m3 : (Nat → Int32)) (m4 : (Nat → Int32)) (m5 : (List Int32)), ((FrS S m1 m2 m3 m4 m5 ∧ x0 = m1 50) ∧ (∀ (o12 : Option Nat) (S7 : HS), ext S S7 → (∀ b, o12 = some b → hK S7 b = 5) → (S7 = S ∧ ((zin p0 0 (m2 0 0 - 1) = 0 ∨ zin p1 1 9 = 0) → o12 = none) ∧ (¬ zin p0 0 (m2 0 0 - 1) = 0 → ¬ zin p1 1 9 = 0 → ∃ y, o12 = some y ∧ RelSc S (fxM m1) y (m2 0) (iv p0) (iv p1))) → ((o12 = none → ((1 ≤ mc ∧ 6 ≤ ms) ∧ X "java/lang/IndexOutOfBoundsException" S7)) ∧ (∀ b15 : Nat, o12 = some b15 → hK S7 b15 = 5 → ((¬ (zin p2 (-1) ((hI S7 100 b15) - 1)) = 0 → ((¬ p2 = (-1) → ((p3 = 0 → (∃ b26 : Nat, hR S7 101 b15 = some b26 ∧ (hK S7 b26 = 22 → (vp_in p2 (hN S7 b26) ∧ (P (hA S7 b26 (Int32.toNatClampNeg p2)) S7))))) ∧ (¬ p3 = 0 → (∃ b30 : Nat, hR S7 102 b15 = some b30 ∧ (hK S7 b30 = 22 → (vp_in p2 (hN S7 b30) ∧ (P (hA S7 b30 (Int32.toNatClampNeg p2)) S7))))))) ∧ (p2 = (-1) → ((p3 = 0 → (P (hI S7 100 b15) S7)) ∧ (¬ p3 = 0 → (P (hI S7 103 b15) S7)))))) ∧ ((zin p2 (-1) ((hI S7 100 b15) - 1)) = 0 → ((1 ≤ mc ∧ 6 ≤ ms) ∧ X "java/lang/IndexOutOfBoundsException" S7)))))))
set_option maxRecDepth 100000 in
set_option maxHeartbeats 4000000 in
theorem t_X10_breakOf {p : Program} {l : Launch} {e : Env} {s : State} {m : MethodId} {args : Array Value} {below : List Frame} {meth : Method} {c : Code} {D : va_G} {A : Nat → Prop} {T : Nat → ClassId} (C : GC p s m args meth c cX10_breakOf "FreightRater" (ws_X10_breakOf) 6 D A (zty T)) (E : GE T A s) (hst : l.stackTraces = false) (htab : ∀ z ∈ c.exceptionTable.toList, False) (hr : meth.sig.returnType = (some .int)) (P : Int32 → HS → Prop) (X : String → HS → Prop) : ∀ (x0 : Nat) (p0 : Int32) (p1 : Int32) (p2 : Int32) (p3 : Int32) (S0 S : HS) (mc ms : Nat) (L : List Nat), S0 = S → wt S → hL S L → (hK S x0 = 11) → wp_X10_breakOf P X x0 p0 p1 p2 p3 S mc ms → GW p l e { rm_X10_breakOf with cells := mc, slots := ms } s m args below meth c D A 6 mc ms (vx_MQ below (va_Qi (fun v (u : HS × List Nat) => P v u.1 ∧ CO S0 u) (CE D T A) A) (CXX D T A S0 X) args s mc ms A) (CW T S L) mc ms 0 [(0, .ref x0), (1, .int p0), (2, .int p1), (3, .int p2), (4, .int p3)] [] := by
  have hW : ∀ {w : Cond}, w ∈ W0 → w.before args s = true := fun h => C.2.2.2.2.1 _ (List.mem_cons_of_mem _ h)
  intro x0 p0 p1 p2 p3 S0 S mc ms L hS0 hw hL hx0 h
  have he : ext S0 S := by rw [hS0]; exact ext_rf
  unfold wp_X10_breakOf at h
  refine g_aload_n C dX10_breakOf_0 rfl 0 rfl ?_
  refine g_iload_n C dX10_breakOf_1 rfl 1 rfl ?_
  refine g_iload_n C dX10_breakOf_2 rfl 2 rfl ?_
  obtain ⟨m1, m2, m3, m4, m5, h⟩ := h
  obtain ⟨g6, h⟩ := h
  refine gc_callqV (host := "") C E hw hL hx0 (by decide) (by decide) rfl [.int p0, .int p1] rfl (k_X10_findScale l D T x0 p0 p1 S m1 m2 m3 m4 m5 hx0 g6) (w0_V 2 C.2.2.2.2.1 kw_1025 kw_1027 ks_22 kw_1 kw_1028 rfl rfl (by decide +kernel) ⟨Nat.le_of_ble_eq_true rfl, Nat.le_of_ble_eq_true rfl⟩) rfl (Nat.le_of_ble_eq_true rfl) (Nat.le_refl _) (Nat.le_refl _) (Nat.zero_le _) (Nat.zero_le _) dX10_breakOf_3 (fun o12 S7 L8 e9 w10 w11 ko12 hp => ?_)
  replace h := h o12 S7 e9 ko12 hp
  have g13 := ext_K e9 hx0 (by decide)
  have w14 := ext_tr he e9
  refine g_qstore (lv' := [(5, va_rf o12), (0, .ref x0), (1, .int p0), (2, .int p1), (3, .int p2), (4, .int p3)]) C dX10_breakOf_6 (by decide) rfl ?_
  refine g_qload C dX10_breakOf_8 0 rfl ?_
  rcases o12 with _ | b15
  · replace h := h.1 rfl
    refine g_ifnullN (tgt := 28) C dX10_breakOf_10 (by decide) ?_
    obtain ⟨g17, h⟩ := h
    exact gx_throw (cls := "java/lang/IndexOutOfBoundsException") (names := ["java/lang/RuntimeException", "java/lang/Exception"]) C E hst w10 w11 w14 (Nat.le_refl _) (Nat.le_refl _) (by decide) (by decide) (hW kw_465) (hW kw_16) (th_FreightRater_72 hW E) tv_FreightRater_72 dX10_breakOf_28 dX10_breakOf_31 dX10_breakOf_32 dX10_breakOf_35 htab (Nat.le_of_ble_eq_true rfl) (Nat.le_of_ble_eq_true rfl) g17.1 g17.2 h
  · have g16 : hK S7 b15 = 5 := ko12 b15 rfl
    replace h := h.2 b15 rfl g16
    refine g_ifnull C dX10_breakOf_10 ?_
    refine g_iload_n C dX10_breakOf_13 rfl 4 rfl ?_
    refine g_iconst (v := -1) C dX10_breakOf_14 (by decide) ?_
    refine g_aload C dX10_breakOf_15 0 rfl ?_
    refine gc_getI C iwx_X4 w11 g16 (by decide) (by decide) rfl 0 (by decide) (hW kw_396) rfl rfl rfl dX10_breakOf_17 ?_
    refine g_iconst (v := 1) C dX10_breakOf_20 (by decide) ?_
    refine g_isub C dX10_breakOf_21 ?_
    refine gc_calliS (host := "") C E w10 w11 [.int p2, .int (-1), .int ((hI S7 100 b15) - 1)] rfl (k_X10_isBetween l D T p2 (-1) ((hI S7 100 b15) - 1) S7 ) (w0_S 3 C.2.2.2.2.1 kw_303 kw_304 kw_1 kw_305 rfl rfl (by decide +kernel) ⟨Nat.le_of_ble_eq_true rfl, Nat.le_of_ble_eq_true rfl⟩) rfl (Nat.le_of_ble_eq_true rfl) (Nat.le_refl _) (Nat.le_refl _) (Nat.zero_le _) (Nat.zero_le _) dX10_breakOf_22 (fun v9 S9 L18 he9 hw9 hL9 hp => ?_)
    obtain ⟨hv9, hs9⟩ := hp
    replace hs9 := hs9.symm
    subst hs9
    replace hv9 := hv9.symm
    subst hv9
    have w21 := hL9
    refine g_if_ne (tgt := 36) C dX10_breakOf_25 (by decide) (fun z22 => ?_) (fun z22 => ?_)
    · replace h := h.1 z22
      refine g_iload_n C dX10_breakOf_36 rfl 4 rfl ?_
      refine g_iconst (v := -1) C dX10_breakOf_37 (by decide) ?_
      refine g_icmp_ne (tgt := 60) C dX10_breakOf_38 (by decide) (fun z23 => ?_) (fun z23 => ?_)
      · replace h := h.1 z23
        refine g_iload C dX10_breakOf_60 5 rfl ?_
        refine g_if_eq (tgt := 75) C dX10_breakOf_62 (by decide) (fun z24 => ?_) (fun z24 => ?_)
        · replace h := h.1 z24
          refine g_aload C dX10_breakOf_75 0 rfl ?_
          refine gc_getR C w10 iwx_X4 w21 g16 (by decide) (by decide) rfl 1 (by decide) (hW kw_398) rfl rfl rfl dX10_breakOf_77 (fun o25 eo25 ko25 => ?_)
          obtain ⟨b26, hb9, h⟩ := h
          have g27 : hK S7 b26 = 22 := ko25 b26 (eo25.trans hb9)
          replace h := h g27
          refine g_opt (eo25.trans hb9) ?_
          refine g_iload_n C dX10_breakOf_80 rfl 4 rfl ?_
          obtain ⟨g28, h⟩ := h
          refine gc_iald C w21 g27 g28 dX10_breakOf_81 ?_
          exact gx_iret C w10 w21 w14 hr dX10_breakOf_82 h
        · replace h := h.2 z24
          refine g_aload C dX10_breakOf_65 0 rfl ?_
          refine gc_getR C w10 iwx_X4 w21 g16 (by decide) (by decide) rfl 2 (by decide) (hW kw_401) rfl rfl rfl dX10_breakOf_67 (fun o29 eo29 ko29 => ?_)
          obtain ⟨b30, hb9, h⟩ := h
          have g31 : hK S7 b30 = 22 := ko29 b30 (eo29.trans hb9)
          replace h := h g31
          refine g_opt (eo29.trans hb9) ?_
          refine g_iload_n C dX10_breakOf_70 rfl 4 rfl ?_
          obtain ⟨g32, h⟩ := h
          refine gc_iald C w21 g31 g32 dX10_breakOf_71 ?_
          refine g_goto (tgt := 82) C dX10_breakOf_72 (by decide) ?_
          exact gx_iret C w10 w21 w14 hr dX10_breakOf_82 h
      · replace h := h.2 z23
        refine g_iload C dX10_breakOf_41 5 rfl ?_
        refine g_if_eq (tgt := 54) C dX10_breakOf_43 (by decide) (fun z33 => ?_) (fun z33 => ?_)
        · replace h := h.1 z33
          refine g_aload C dX10_breakOf_54 0 rfl ?_
          refine gc_getI C iwx_X4 w21 g16 (by decide) (by decide) rfl 0 (by decide) (hW kw_396) rfl rfl rfl dX10_breakOf_56 ?_
          exact gx_iret C w10 w21 w14 hr dX10_breakOf_59 h
        · replace h := h.2 z33
          refine g_aload C dX10_breakOf_46 0 rfl ?_
          refine gc_getI C iwx_X4 w21 g16 (by decide) (by decide) rfl 3 (by decide) (hW kw_403) rfl rfl rfl dX10_breakOf_48 ?_
          refine g_goto (tgt := 59) C dX10_breakOf_51 (by decide) ?_
          exact gx_iret C w10 w21 w14 hr dX10_breakOf_59 h
    · replace h := h.2 z22
      obtain ⟨g34, h⟩ := h
      exact gx_throw (cls := "java/lang/IndexOutOfBoundsException") (names := ["java/lang/RuntimeException", "java/lang/Exception"]) C E hst w10 w21 w14 (Nat.le_refl _) (Nat.le_refl _) (by decide) (by decide) (hW kw_465) (hW kw_16) (th_FreightRater_72 hW E) tv_FreightRater_72 dX10_breakOf_28 dX10_breakOf_31 dX10_breakOf_32 dX10_breakOf_35 htab (Nat.le_of_ble_eq_true rfl) (Nat.le_of_ble_eq_true rfl) g34.1 g34.2 h
theorem c_X10_breakOf (l : Launch) (hst : l.stackTraces = false) (D : va_G) (T : Nat → ClassId) (x0 : Nat) (p0 : Int32) (p1 : Int32) (p2 : Int32) (p3 : Int32) (S : HS) (mc ms : Nat) (hx0 : hK S x0 = 11) (P : Int32 → HS → Prop) (X : String → HS → Prop) (h : wp_X10_breakOf P X x0 p0 p1 p2 p3 S mc ms) : CXi l yX10_breakOf (ws_X10_breakOf) rm_X10_breakOf D T [.ref x0, .int p0, .int p1, .int p2, .int p3] S mc ms P X := gx_meti (by decide) rfl rfl (Nat.le_of_ble_eq_true rfl) (fun p e s m args below meth c A L C E hnm hr htab hw hL => t_X10_breakOf C E hst htab hr P X x0 p0 p1 p2 p3 S S mc ms L rfl hw hL hx0 h)
def wp_X10_accessorial (P : Int32 → HS → Prop) (X : String → HS → Prop) (x0 : Nat) (p0 : Int32) (p1 : Int32) (p2 : Int32) (S : HS) (mc ms : Nat) : Prop := ∃ cc1 cc2 : Nat, (cc1 ≤ mc ∧ cc2 ≤ ms) ∧ (∃ (m4 : (Nat → Nat)) (m5 : (Nat → Nat → Int32)) (m6 : (Nat → Int32)) (m7 : (Nat → Int32)) (m8 : (List Int32)), ((FrS S m4 m5 m6 m7 m8 ∧ x0 = m4 50 ∧ 1 ≤ cc1 ∧ 6 ≤ cc2) ∧ ((∀ (E9 : String) (S9 : HS), ext S S9 → (((wrC (m5 0) p0 p1 = 1 ∧ E9 = "java/lang/IndexOutOfBoundsException") ∨ (wrC (m5 0) p0 p1 = 2 ∧ E9 = "java/util/NoSuchElementException")) ∧ S9 = S) → X E9 S9) ∧ (∀ (o15 : Option Nat) (S10 : HS), ext S S10 → (∀ b, o15 = some b → hK S10 b = 1) → (S10 = S ∧ wrC (m5 0) p0 p1 = 0 ∧ ∃ y, o15 = some y ∧ RelA S (fxM m4) y (m5 0) (iv p0) (iv p1)) → (∃ b19 : Nat, o15 = some b19 ∧ (hK S10 b19 = 1 → ((p2 = 0 → (P (hI S10 20 b19) S10)) ∧ (¬ p2 = 0 → ((p2 = 1 → (P (hI S10 21 b19) S10)) ∧ (¬ p2 = 1 → ((p2 = 2 → (P (hI S10 23 b19) S10)) ∧ (¬ p2 = 2 → ((p2 = 3 → (∃ b26 : Nat, hR S10 24 b19 = some b26 ∧ (hK S10 b26 = 13 → (P (hI S10 262 b26) S10)))) ∧ (¬ p2 = 3 → ((p2 = 4 → (P (hI S10 22 b19) S10)) ∧ (¬ p2 = 4 → ((1 ≤ (mc - cc1) ∧ 6 ≤ (ms - cc2)) ∧ X "java/lang/IllegalArgumentException" S10)))))))))))))))))
set_option maxRecDepth 100000 in
set_option maxHeartbeats 4000000 in
theorem t_X10_accessorial {p : Program} {l : Launch} {e : Env} {s : State} {m : MethodId} {args : Array Value} {below : List Frame} {meth : Method} {c : Code} {D : va_G} {A : Nat → Prop} {T : Nat → ClassId} (C : GC p s m args meth c cX10_accessorial "FreightRater" (ws_X10_accessorial) 5 D A (zty T)) (E : GE T A s) (hst : l.stackTraces = false) (htab : ∀ z ∈ c.exceptionTable.toList, False) (hr : meth.sig.returnType = (some .int)) (P : Int32 → HS → Prop) (X : String → HS → Prop) : ∀ (x0 : Nat) (p0 : Int32) (p1 : Int32) (p2 : Int32) (S0 S : HS) (mc ms : Nat) (L : List Nat), S0 = S → wt S → hL S L → (hK S x0 = 11) → wp_X10_accessorial P X x0 p0 p1 p2 S mc ms → GW p l e { rm_X10_accessorial with cells := mc, slots := ms } s m args below meth c D A 5 mc ms (vx_MQ below (va_Qi (fun v (u : HS × List Nat) => P v u.1 ∧ CO S0 u) (CE D T A) A) (CXX D T A S0 X) args s mc ms A) (CW T S L) mc ms 0 [(0, .ref x0), (1, .int p0), (2, .int p1), (3, .int p2)] [] := by
  have hW : ∀ {w : Cond}, w ∈ W0 → w.before args s = true := fun h => C.2.2.2.2.1 _ (List.mem_cons_of_mem _ h)
  intro x0 p0 p1 p2 S0 S mc ms L hS0 hw hL hx0 h
  have he : ext S0 S := by rw [hS0]; exact ext_rf
  unfold wp_X10_accessorial at h
  refine g_aload_n C dX10_accessorial_0 rfl 0 rfl ?_
  refine g_iload_n C dX10_accessorial_1 rfl 1 rfl ?_
  refine g_iload_n C dX10_accessorial_2 rfl 2 rfl ?_
  obtain ⟨cc1, cc2, g3, h⟩ := h
  obtain ⟨m4, m5, m6, m7, m8, h⟩ := h
  obtain ⟨g9, h⟩ := h
  obtain ⟨g16, h⟩ := h
  refine gx_callqV (host := "") C E hw hL hx0 (by decide) (by decide) rfl [.int p0, .int p1] rfl (k_X10_requireAccessorial l hst D T x0 p0 p1 S m4 m5 m6 m7 m8 cc1 cc2 hx0 g9) (w0_V 2 C.2.2.2.2.1 kw_1037 kw_1039 ks_23 kw_1 kw_1040 rfl rfl (by decide +kernel) ⟨Nat.le_of_ble_eq_true rfl, Nat.le_of_ble_eq_true rfl⟩) rfl (Nat.le_of_ble_eq_true rfl) (Nat.le_refl _) (Nat.le_refl _) g3.1 g3.2 dX10_accessorial_3 he htab g16 (fun o15 S10 L11 e12 w13 w14 ko15 hp => ?_)
  replace h := h o15 S10 e12 ko15 hp
  have g17 := ext_K e12 hx0 (by decide)
  have w18 := ext_tr he e12
  obtain ⟨b19, rfl, h⟩ := h
  have g20 : hK S10 b19 = 1 := ko15 b19 rfl
  replace h := h g20
  refine g_astore (lv' := [(4, .ref b19), (0, .ref x0), (1, .int p0), (2, .int p1), (3, .int p2)]) C dX10_accessorial_6 (by decide) rfl ?_
  refine g_iload_n C dX10_accessorial_8 rfl 4 rfl ?_
  rcases Decidable.em (p2 = 0) with z21 | z21
  · refine g_tableIn (off := 35) (tgt := 44) C dX10_accessorial_9 (by rw [z21]; decide) (by rw [z21]; decide) (by rw [z21]; decide) (by decide) ?_
    replace h := h.1 z21
    refine g_aload C dX10_accessorial_44 0 rfl ?_
    refine gc_getI C iwx_X0 w14 g20 (by decide) (by decide) rfl 0 (by decide) (hW kw_741) rfl rfl rfl dX10_accessorial_46 ?_
    exact gx_iret C w13 w14 w18 hr dX10_accessorial_49 h
  replace h := h.2 z21
  rcases Decidable.em (p2 = 1) with z22 | z22
  · refine g_tableIn (off := 41) (tgt := 50) C dX10_accessorial_9 (by rw [z22]; decide) (by rw [z22]; decide) (by rw [z22]; decide) (by decide) ?_
    replace h := h.1 z22
    refine g_aload C dX10_accessorial_50 0 rfl ?_
    refine gc_getI C iwx_X0 w14 g20 (by decide) (by decide) rfl 1 (by decide) (hW kw_744) rfl rfl rfl dX10_accessorial_52 ?_
    exact gx_iret C w13 w14 w18 hr dX10_accessorial_55 h
  replace h := h.2 z22
  rcases Decidable.em (p2 = 2) with z23 | z23
  · refine g_tableIn (off := 47) (tgt := 56) C dX10_accessorial_9 (by rw [z23]; decide) (by rw [z23]; decide) (by rw [z23]; decide) (by decide) ?_
    replace h := h.1 z23
    refine g_aload C dX10_accessorial_56 0 rfl ?_
    refine gc_getI C iwx_X0 w14 g20 (by decide) (by decide) rfl 3 (by decide) (hW kw_750) rfl rfl rfl dX10_accessorial_58 ?_
    exact gx_iret C w13 w14 w18 hr dX10_accessorial_61 h
  replace h := h.2 z23
  rcases Decidable.em (p2 = 3) with z24 | z24
  · refine g_tableIn (off := 53) (tgt := 62) C dX10_accessorial_9 (by rw [z24]; decide) (by rw [z24]; decide) (by rw [z24]; decide) (by decide) ?_
    replace h := h.1 z24
    refine g_aload C dX10_accessorial_62 0 rfl ?_
    refine gc_getR C w13 iwx_X0 w14 g20 (by decide) (by decide) rfl 4 (by decide) (hW kw_752) rfl rfl rfl dX10_accessorial_64 (fun o25 eo25 ko25 => ?_)
    obtain ⟨b26, hb9, h⟩ := h
    have g27 : hK S10 b26 = 13 := ko25 b26 (eo25.trans hb9)
    replace h := h g27
    refine g_opt (eo25.trans hb9) ?_
    refine gc_calliV (host := "") C E w13 w14 g27 (by decide) (by decide) rfl [] rfl (k_Jx4a65c_size_8abf5 l D T b26 S10 g27) (w0_V 0 C.2.2.2.2.1 kw_875 kw_876 kw_877 kw_22 kw_878 rfl rfl (by decide +kernel) ⟨Nat.le_of_ble_eq_true rfl, Nat.le_of_ble_eq_true rfl⟩) rfl (Nat.le_of_ble_eq_true rfl) (Nat.le_refl _) (Nat.le_refl _) (Nat.zero_le _) (Nat.zero_le _) dX10_accessorial_67 (fun v9 S9 L28 he9 hw9 hL9 hp => ?_)
    obtain ⟨hv9, hs9⟩ := hp
    replace hs9 := hs9.symm
    subst hs9
    replace hv9 := hv9.symm
    subst hv9
    have w31 := hL9
    exact gx_iret C w13 w31 w18 hr dX10_accessorial_70 h
  replace h := h.2 z24
  rcases Decidable.em (p2 = 4) with z32 | z32
  · refine g_tableIn (off := 62) (tgt := 71) C dX10_accessorial_9 (by rw [z32]; decide) (by rw [z32]; decide) (by rw [z32]; decide) (by decide) ?_
    replace h := h.1 z32
    refine g_aload C dX10_accessorial_71 0 rfl ?_
    refine gc_getI C iwx_X0 w14 g20 (by decide) (by decide) rfl 2 (by decide) (hW kw_747) rfl rfl rfl dX10_accessorial_73 ?_
    exact gx_iret C w13 w14 w18 hr dX10_accessorial_76 h
  replace h := h.2 z32
  refine g_tableD (tgt := 77) C dX10_accessorial_9 (by decide) (fun j hj => ?_) (by decide) ?_
  · rcases (show j = 0 ∨ j = 1 ∨ j = 2 ∨ j = 3 ∨ j = 4 by have hj2 : j < 5 := hj; omega) with rfl | rfl | rfl | rfl | rfl <;> first | exact Or.inr rfl | exact Or.inl (by first | exact lv_neT z21 rfl | exact lv_neT z22 rfl | exact lv_neT z23 rfl | exact lv_neT z24 rfl | exact lv_neT z32 rfl)
  obtain ⟨g33, h⟩ := h
  exact gx_throw (cls := "java/lang/IllegalArgumentException") (names := ["java/lang/RuntimeException", "java/lang/Exception"]) C E hst w13 w14 w18 (Nat.le_refl _) (Nat.le_refl _) (by decide) (by decide) (hW kw_310) (hW kw_13) (th_FreightRater_62 hW E) tv_FreightRater_62 dX10_accessorial_77 dX10_accessorial_80 dX10_accessorial_81 dX10_accessorial_84 htab (Nat.le_of_ble_eq_true rfl) (Nat.le_of_ble_eq_true rfl) g33.1 g33.2 h
theorem c_X10_accessorial (l : Launch) (hst : l.stackTraces = false) (D : va_G) (T : Nat → ClassId) (x0 : Nat) (p0 : Int32) (p1 : Int32) (p2 : Int32) (S : HS) (mc ms : Nat) (hx0 : hK S x0 = 11) (P : Int32 → HS → Prop) (X : String → HS → Prop) (h : wp_X10_accessorial P X x0 p0 p1 p2 S mc ms) : CXi l yX10_accessorial (ws_X10_accessorial) rm_X10_accessorial D T [.ref x0, .int p0, .int p1, .int p2] S mc ms P X := gx_meti (by decide) rfl rfl (Nat.le_of_ble_eq_true rfl) (fun p e s m args below meth c A L C E hnm hr htab hw hL => t_X10_accessorial C E hst htab hr P X x0 p0 p1 p2 S S mc ms L rfl hw hL hx0 h)
def wp_X10_base (P : Int32 → HS → Prop) (X : String → HS → Prop) (x0 : Nat) (p0 : Int32) (p1 : Int32) (p2 : Int32) (S : HS) (mc ms : Nat) : Prop := ∃ (m1 : (Nat → Nat)) (m2 : (Nat → Nat → Int32)) (m3 : (Nat → Int32)) (m4 : (Nat → Int32)) (m5 : (List Int32)), ((FrS S m1 m2 m3 m4 m5 ∧ x0 = m1 50) ∧ (∀ (o12 : Option Nat) (S7 : HS), ext S S7 → (∀ b, o12 = some b → hK S7 b = 5) → (S7 = S ∧ ((zin p0 0 (m2 0 0 - 1) = 0 ∨ zin p1 1 9 = 0) → o12 = none) ∧ (¬ zin p0 0 (m2 0 0 - 1) = 0 → ¬ zin p1 1 9 = 0 → ∃ y, o12 = some y ∧ RelSc S (fxM m1) y (m2 0) (iv p0) (iv p1))) → ((o12 = none → ((1 ≤ mc ∧ 6 ≤ ms) ∧ X "java/lang/IndexOutOfBoundsException" S7)) ∧ (∀ b15 : Nat, o12 = some b15 → hK S7 b15 = 5 → ((¬ (zin p2 0 99999) = 0 → (∃ (m23 : (Nat → Prop)) (m24 : Nat → Int32) (m25 : Nat) (m26 : Nat), ((WF m24 ∧ m25 < 6 ∧ 1 ≤ m26 ∧ m26 ≤ 9 ∧ RelSc S7 m23 b15 m24 m25 m26) ∧ (∀ v32 : Int32, v32 = ((if m24 (274 + 510 * m25 + 38 + m26 - 1) = 0 then -1 else nI (chpF m24 m25 m26 p2))) → ((0 ≤ v32 → (∃ (m34 : (Nat → Prop)) (m35 : Nat → Int32) (m36 : Nat) (m37 : Nat), ((WF m35 ∧ m36 < 6 ∧ 1 ≤ m37 ∧ m37 ≤ 9 ∧ RelSc S7 m34 b15 m35 m36 m37 ∧ v32 = nI (chpF m35 m36 m37 p2) ∧ ¬ m35 (274 + 510 * m36 + 38 + m37 - 1) = 0) ∧ (P (baseF m35 m36 m37 p2) S7)))) ∧ (¬ 0 ≤ v32 → ((1 ≤ mc ∧ 6 ≤ ms) ∧ X "java/util/NoSuchElementException" S7))))))) ∧ ((zin p2 0 99999) = 0 → ((1 ≤ mc ∧ 6 ≤ ms) ∧ X "java/lang/IllegalArgumentException" S7)))))))
set_option maxRecDepth 100000 in
set_option maxHeartbeats 4000000 in
theorem t_X10_base {p : Program} {l : Launch} {e : Env} {s : State} {m : MethodId} {args : Array Value} {below : List Frame} {meth : Method} {c : Code} {D : va_G} {A : Nat → Prop} {T : Nat → ClassId} (C : GC p s m args meth c cX10_base "FreightRater" (ws_X10_base) 6 D A (zty T)) (E : GE T A s) (hst : l.stackTraces = false) (htab : ∀ z ∈ c.exceptionTable.toList, False) (hr : meth.sig.returnType = (some .int)) (P : Int32 → HS → Prop) (X : String → HS → Prop) : ∀ (x0 : Nat) (p0 : Int32) (p1 : Int32) (p2 : Int32) (S0 S : HS) (mc ms : Nat) (L : List Nat), S0 = S → wt S → hL S L → (hK S x0 = 11) → wp_X10_base P X x0 p0 p1 p2 S mc ms → GW p l e { rm_X10_base with cells := mc, slots := ms } s m args below meth c D A 6 mc ms (vx_MQ below (va_Qi (fun v (u : HS × List Nat) => P v u.1 ∧ CO S0 u) (CE D T A) A) (CXX D T A S0 X) args s mc ms A) (CW T S L) mc ms 0 [(0, .ref x0), (1, .int p0), (2, .int p1), (3, .int p2)] [] := by
  have hW : ∀ {w : Cond}, w ∈ W0 → w.before args s = true := fun h => C.2.2.2.2.1 _ (List.mem_cons_of_mem _ h)
  intro x0 p0 p1 p2 S0 S mc ms L hS0 hw hL hx0 h
  have he : ext S0 S := by rw [hS0]; exact ext_rf
  unfold wp_X10_base at h
  refine g_aload_n C dX10_base_0 rfl 0 rfl ?_
  refine g_iload_n C dX10_base_1 rfl 1 rfl ?_
  refine g_iload_n C dX10_base_2 rfl 2 rfl ?_
  obtain ⟨m1, m2, m3, m4, m5, h⟩ := h
  obtain ⟨g6, h⟩ := h
  refine gc_callqV (host := "") C E hw hL hx0 (by decide) (by decide) rfl [.int p0, .int p1] rfl (k_X10_findScale l D T x0 p0 p1 S m1 m2 m3 m4 m5 hx0 g6) (w0_V 2 C.2.2.2.2.1 kw_1025 kw_1027 ks_22 kw_1 kw_1028 rfl rfl (by decide +kernel) ⟨Nat.le_of_ble_eq_true rfl, Nat.le_of_ble_eq_true rfl⟩) rfl (Nat.le_of_ble_eq_true rfl) (Nat.le_refl _) (Nat.le_refl _) (Nat.zero_le _) (Nat.zero_le _) dX10_base_3 (fun o12 S7 L8 e9 w10 w11 ko12 hp => ?_)
  replace h := h o12 S7 e9 ko12 hp
  have g13 := ext_K e9 hx0 (by decide)
  have w14 := ext_tr he e9
  refine g_qstore (lv' := [(4, va_rf o12), (0, .ref x0), (1, .int p0), (2, .int p1), (3, .int p2)]) C dX10_base_6 (by decide) rfl ?_
  refine g_qload C dX10_base_8 0 rfl ?_
  rcases o12 with _ | b15
  · replace h := h.1 rfl
    refine g_ifnonnullN C dX10_base_10 ?_
    obtain ⟨g17, h⟩ := h
    exact gx_throw (cls := "java/lang/IndexOutOfBoundsException") (names := ["java/lang/RuntimeException", "java/lang/Exception"]) C E hst w10 w11 w14 (Nat.le_refl _) (Nat.le_refl _) (by decide) (by decide) (hW kw_465) (hW kw_16) (th_FreightRater_72 hW E) tv_FreightRater_72 dX10_base_13 dX10_base_16 dX10_base_17 dX10_base_20 htab (Nat.le_of_ble_eq_true rfl) (Nat.le_of_ble_eq_true rfl) g17.1 g17.2 h
  · have g16 : hK S7 b15 = 5 := ko12 b15 rfl
    replace h := h.2 b15 rfl g16
    refine g_ifnonnull (tgt := 21) C dX10_base_10 (by decide) ?_
    refine g_iload_n C dX10_base_21 rfl 4 rfl ?_
    refine g_iconst (v := 0) C dX10_base_22 (by decide) ?_
    refine g_ldc (v := 99999) C dX10_base_23 (hW kw_1049) ?_
    refine gc_calliS (host := "") C E w10 w11 [.int p2, .int 0, .int 99999] rfl (k_X10_isBetween l D T p2 0 99999 S7 ) (w0_S 3 C.2.2.2.2.1 kw_303 kw_304 kw_1 kw_305 rfl rfl (by decide +kernel) ⟨Nat.le_of_ble_eq_true rfl, Nat.le_of_ble_eq_true rfl⟩) rfl (Nat.le_of_ble_eq_true rfl) (Nat.le_refl _) (Nat.le_refl _) (Nat.zero_le _) (Nat.zero_le _) dX10_base_25 (fun v9 S9 L18 he9 hw9 hL9 hp => ?_)
    obtain ⟨hv9, hs9⟩ := hp
    replace hs9 := hs9.symm
    subst hs9
    replace hv9 := hv9.symm
    subst hv9
    have w21 := hL9
    refine g_if_ne (tgt := 39) C dX10_base_28 (by decide) (fun z22 => ?_) (fun z22 => ?_)
    · replace h := h.1 z22
      refine g_aload C dX10_base_39 0 rfl ?_
      refine g_iload_n C dX10_base_41 rfl 4 rfl ?_
      obtain ⟨m23, m24, m25, m26, h⟩ := h
      obtain ⟨g27, h⟩ := h
      refine gc_calliV (host := "") C E w10 w21 g16 (by decide) (by decide) rfl [.int p2] rfl (k_X4_findCheapest l D T b15 p2 S7 m23 m24 m25 m26 g16 g27) (w0_V 1 C.2.2.2.2.1 kw_1050 kw_1051 kw_1052 kw_15 kw_1053 rfl rfl (by decide +kernel) ⟨Nat.le_of_ble_eq_true rfl, Nat.le_of_ble_eq_true rfl⟩) rfl (Nat.le_of_ble_eq_true rfl) (Nat.le_refl _) (Nat.le_refl _) (Nat.zero_le _) (Nat.zero_le _) dX10_base_42 (fun v9 S9 L28 he9 hw9 hL9 hp => ?_)
      obtain ⟨hv9, hs9⟩ := hp
      replace hs9 := hs9.symm
      subst hs9
      replace hv9 := hv9.symm
      subst hv9
      have w31 := hL9
      refine g_topi (fun v32 ev32 => ?_)
      replace h := h v32 ev32
      refine g_istore (lv' := [(5, .int v32), (4, .ref b15), (0, .ref x0), (1, .int p0), (2, .int p1), (3, .int p2)]) C dX10_base_45 (by decide) rfl ?_
      refine g_iload C dX10_base_47 0 rfl ?_
      refine g_if_ge (tgt := 60) C dX10_base_49 (by decide) (fun z33 => ?_) (fun z33 => ?_)
      · replace h := h.1 z33
        refine g_aload C dX10_base_60 1 rfl ?_
        refine g_iload C dX10_base_62 0 rfl ?_
        refine g_iload_n C dX10_base_64 rfl 5 rfl ?_
        obtain ⟨m34, m35, m36, m37, h⟩ := h
        obtain ⟨g38, h⟩ := h
        refine gc_calliV (host := "") C E w10 w31 g16 (by decide) (by decide) rfl [.int v32, .int p2] rfl (k_X4_chargeFor l D T b15 v32 p2 S7 m34 m35 m36 m37 g16 g38) (w0_V 2 C.2.2.2.2.1 kw_1059 kw_1060 kw_1061 kw_15 kw_1062 rfl rfl (by decide +kernel) ⟨Nat.le_of_ble_eq_true rfl, Nat.le_of_ble_eq_true rfl⟩) rfl (Nat.le_of_ble_eq_true rfl) (Nat.le_refl _) (Nat.le_refl _) (Nat.zero_le _) (Nat.zero_le _) dX10_base_65 (fun v9 S9 L39 he9 hw9 hL9 hp => ?_)
        obtain ⟨hv9, hs9⟩ := hp
        replace hs9 := hs9.symm
        subst hs9
        replace hv9 := hv9.symm
        subst hv9
        have w42 := hL9
        exact gx_iret C w10 w42 w14 hr dX10_base_68 h
      · replace h := h.2 z33
        obtain ⟨g43, h⟩ := h
        exact gx_throw (cls := "java/util/NoSuchElementException") (names := ["java/lang/RuntimeException", "java/lang/Exception"]) C E hst w10 w31 w14 (Nat.le_refl _) (Nat.le_refl _) (by decide) (by decide) (hW kw_966) (hW kw_34) (th_FreightRater_136 hW E) tv_FreightRater_136 dX10_base_52 dX10_base_55 dX10_base_56 dX10_base_59 htab (Nat.le_of_ble_eq_true rfl) (Nat.le_of_ble_eq_true rfl) g43.1 g43.2 h
    · replace h := h.2 z22
      obtain ⟨g44, h⟩ := h
      exact gx_throw (cls := "java/lang/IllegalArgumentException") (names := ["java/lang/RuntimeException", "java/lang/Exception"]) C E hst w10 w21 w14 (Nat.le_refl _) (Nat.le_refl _) (by decide) (by decide) (hW kw_310) (hW kw_13) (th_FreightRater_62 hW E) tv_FreightRater_62 dX10_base_31 dX10_base_34 dX10_base_35 dX10_base_38 htab (Nat.le_of_ble_eq_true rfl) (Nat.le_of_ble_eq_true rfl) g44.1 g44.2 h
theorem c_X10_base (l : Launch) (hst : l.stackTraces = false) (D : va_G) (T : Nat → ClassId) (x0 : Nat) (p0 : Int32) (p1 : Int32) (p2 : Int32) (S : HS) (mc ms : Nat) (hx0 : hK S x0 = 11) (P : Int32 → HS → Prop) (X : String → HS → Prop) (h : wp_X10_base P X x0 p0 p1 p2 S mc ms) : CXi l yX10_base (ws_X10_base) rm_X10_base D T [.ref x0, .int p0, .int p1, .int p2] S mc ms P X := gx_meti (by decide) rfl rfl (Nat.le_of_ble_eq_true rfl) (fun p e s m args below meth c A L C E hnm hr htab hw hL => t_X10_base C E hst htab hr P X x0 p0 p1 p2 S S mc ms L rfl hw hL hx0 h)
def wp_X10_pack (P : Int32 → HS → Prop) (X : String → HS → Prop) (x0 : Nat) (p0 : Int32) (p1 : Int32) (p2 : Int32) (p3 : Int32) (p4 : Int32) (S : HS) (mc ms : Nat) : Prop := ∃ cc1 cc2 : Nat, (cc1 ≤ mc ∧ cc2 ≤ ms) ∧ (∃ (m4 : (Nat → Nat)) (m5 : (Nat → Nat → Int32)) (m6 : (Nat → Int32)) (m7 : (Nat → Int32)) (m8 : (List Int32)), ((FrS S m4 m5 m6 m7 m8 ∧ x0 = m4 50 ∧ 1 ≤ cc1 ∧ 6 ≤ cc2) ∧ ((∀ (E9 : String) (S9 : HS), ext S S9 → (zin p0 0 (m5 0 1 - 1) = 0 ∧ E9 = "java/lang/IndexOutOfBoundsException" ∧ S9 = S) → X E9 S9) ∧ (∀ (o15 : Option Nat) (S10 : HS), ext S S10 → (∀ b, o15 = some b → hK S10 b = 6) → (S10 = S ∧ ¬ zin p0 0 (m5 0 1 - 1) = 0 ∧ ∃ y, o15 = some y ∧ RelS S (fxM m4) y (m5 0) (iv p0)) → (∃ b19 : Nat, o15 = some b19 ∧ (hK S10 b19 = 6 → (((zin p1 1 200) = 0 → ((1 ≤ (mc - cc1) ∧ 6 ≤ (ms - cc2)) ∧ X "java/lang/IllegalArgumentException" S10)) ∧ (¬ (zin p1 1 200) = 0 → (((zin p2 1 200) = 0 → ((1 ≤ (mc - cc1) ∧ 6 ≤ (ms - cc2)) ∧ X "java/lang/IllegalArgumentException" S10)) ∧ (¬ (zin p2 1 200) = 0 → (((zin p3 1 200) = 0 → ((1 ≤ (mc - cc1) ∧ 6 ≤ (ms - cc2)) ∧ X "java/lang/IllegalArgumentException" S10)) ∧ (¬ (zin p3 1 200) = 0 → ((¬ (zin p4 1 999) = 0 → (∃ (m44 : (Nat → Prop)) (m45 : Nat → Int32) (m46 : Nat), ((WF m45 ∧ m46 < 10 ∧ RelS S10 m44 b19 m45 m46) ∧ ((¬ (psF m45 m46) = 0 → ((1 ≤ (mc - cc1) ∧ 6 ≤ (ms - cc2)) ∧ X "java/lang/IllegalStateException" S10)) ∧ ((psF m45 m46) = 0 → (((hI S10 124 b19) < 5 → (∃ (m55 : (Nat → Nat)) (m56 : (Nat → Nat → Int32)) (m57 : (Nat → Int32)) (m58 : (Nat → Int32)) (m59 : (List Int32)), ((FrS S10 m55 m56 m57 m58 m59 ∧ x0 = m55 50) ∧ (∀ (S61 : HS), ext S10 S61 → (FrS S61 m55 (rmU m56 m57) (rmG m57) m58 m59 ∧ frM S10 S61 (fxM m55) ∧ hK S61 = hK S10 ∧ hR S61 = hR S10 ∧ (∀ i, 54 ≤ i → i < 64 → sam S10 S61 (m55 i))) → ((1 ≤ (mc - cc1) ∧ 9 ≤ (ms - cc2)) ∧ (∀ q69 : Nat, hK S61 q69 = 0 → zr S61 q69 → (∀ S77 : HS, S77 = newO S61 q69 6 → (∃ cc84 cc85 : Nat, (cc84 ≤ ((mc - cc1) - 1) ∧ cc85 ≤ ((ms - cc2) - 9)) ∧ (∃ (m87 : (Nat → Prop)) (m88 : Nat → Int32) (m89 : Nat), ((RelS S77 m87 b19 m88 m89 ∧ b19 ≠ q69 ∧ ¬ m87 q69 ∧ (∀ b, m87 b → hK S77 b ≠ 0) ∧ 1 ≤ cc84 ∧ 5 ≤ cc85) ∧ (∀ (S91 : HS), ext S77 S91 → (frM S77 S91 (fun b => b = q69) ∧ RelS S91 m87 q69 m88 m89 ∧ ∃ b, hR S91 125 q69 = some b ∧ hK S77 b = 0) → (∃ (m100 : (Nat → Prop)) (m101 : Nat → Int32) (m102 : Nat), ((RelS S91 m100 q69 m101 m102 ∧ ∃ n : Nat, n < 5 ∧ m101 (14 + 26 * m102 + 4) = nI n) ∧ (∀ (S104 : HS), ext S91 S104 → (frM S91 S104 (fun b => b = q69 ∨ hR S91 125 q69 = some b) ∧ RelS S104 m100 q69 (pakF m101 m102 p1 p2 p3 p4) m102 ∧ hK S104 = hK S91 ∧ hN S104 = hN S91 ∧ hR S104 = hR S91) → (∃ b114 : Nat, hR S104 220 x0 = some b114 ∧ (hK S104 b114 = 7 → (∃ b117 : Nat, hR S104 142 b114 = some b117 ∧ (hK S104 b117 = 27 → (vp_in p0 (hN S104 b117) ∧ (∀ S121 : HS, S121 = putB S104 b117 (Int32.toNatClampNeg p0) (some q69) → (P (hI S121 124 q69) S121))))))))))))))))))))) ∧ (¬ (hI S10 124 b19) < 5 → ((1 ≤ (mc - cc1) ∧ 6 ≤ (ms - cc2)) ∧ X "java/lang/IllegalStateException" S10)))))))) ∧ ((zin p4 1 999) = 0 → ((1 ≤ (mc - cc1) ∧ 6 ≤ (ms - cc2)) ∧ X "java/lang/IllegalArgumentException" S10)))))))))))))))
set_option maxRecDepth 100000 in
set_option maxHeartbeats 4000000 in
theorem t_X10_pack {p : Program} {l : Launch} {e : Env} {s : State} {m : MethodId} {args : Array Value} {below : List Frame} {meth : Method} {c : Code} {D : va_G} {A : Nat → Prop} {T : Nat → ClassId} (C : GC p s m args meth c cX10_pack "FreightRater" (ws_X10_pack) 8 D A (zty T)) (E : GE T A s) (hst : l.stackTraces = false) (htab : ∀ z ∈ c.exceptionTable.toList, False) (hr : meth.sig.returnType = (some .int)) (P : Int32 → HS → Prop) (X : String → HS → Prop) : ∀ (x0 : Nat) (p0 : Int32) (p1 : Int32) (p2 : Int32) (p3 : Int32) (p4 : Int32) (S0 S : HS) (mc ms : Nat) (L : List Nat), S0 = S → wt S → hL S L → (hK S x0 = 11) → wp_X10_pack P X x0 p0 p1 p2 p3 p4 S mc ms → GW p l e { rm_X10_pack with cells := mc, slots := ms } s m args below meth c D A 8 mc ms (vx_MQ below (va_Qi (fun v (u : HS × List Nat) => P v u.1 ∧ CO S0 u) (CE D T A) A) (CXX D T A S0 X) args s mc ms A) (CW T S L) mc ms 0 [(0, .ref x0), (1, .int p0), (2, .int p1), (3, .int p2), (4, .int p3), (5, .int p4)] [] := by
  have hW : ∀ {w : Cond}, w ∈ W0 → w.before args s = true := fun h => C.2.2.2.2.1 _ (List.mem_cons_of_mem _ h)
  intro x0 p0 p1 p2 p3 p4 S0 S mc ms L hS0 hw hL hx0 h
  have he : ext S0 S := by rw [hS0]; exact ext_rf
  unfold wp_X10_pack at h
  refine g_aload_n C dX10_pack_0 rfl 0 rfl ?_
  refine g_iload_n C dX10_pack_1 rfl 1 rfl ?_
  obtain ⟨cc1, cc2, g3, h⟩ := h
  obtain ⟨m4, m5, m6, m7, m8, h⟩ := h
  obtain ⟨g9, h⟩ := h
  obtain ⟨g16, h⟩ := h
  refine gx_callqV (host := "") C E hw hL hx0 (by decide) (by decide) rfl [.int p0] rfl (k_X10_requireShipment l hst D T x0 p0 S m4 m5 m6 m7 m8 cc1 cc2 hx0 g9) (w0_V 1 C.2.2.2.2.1 kw_1134 kw_1136 ks_25 kw_1 kw_1137 rfl rfl (by decide +kernel) ⟨Nat.le_of_ble_eq_true rfl, Nat.le_of_ble_eq_true rfl⟩) rfl (Nat.le_of_ble_eq_true rfl) (Nat.le_refl _) (Nat.le_refl _) g3.1 g3.2 dX10_pack_2 he htab g16 (fun o15 S10 L11 e12 w13 w14 ko15 hp => ?_)
  replace h := h o15 S10 e12 ko15 hp
  have g17 := ext_K e12 hx0 (by decide)
  have w18 := ext_tr he e12
  obtain ⟨b19, rfl, h⟩ := h
  have g20 : hK S10 b19 = 6 := ko15 b19 rfl
  replace h := h g20
  refine g_astore (lv' := [(6, .ref b19), (0, .ref x0), (1, .int p0), (2, .int p1), (3, .int p2), (4, .int p3), (5, .int p4)]) C dX10_pack_5 (by decide) rfl ?_
  refine g_iload_n C dX10_pack_7 rfl 3 rfl ?_
  refine gc_calliS (host := "") C E w13 w14 [.int p1] rfl (k_X10_isSide l D T p1 S10 ) (w0_S 1 C.2.2.2.2.1 kw_1142 kw_1143 kw_1 kw_1144 rfl rfl (by decide +kernel) ⟨Nat.le_of_ble_eq_true rfl, Nat.le_of_ble_eq_true rfl⟩) rfl (Nat.le_of_ble_eq_true rfl) (Nat.le_refl _) (Nat.le_refl _) (Nat.zero_le _) (Nat.zero_le _) dX10_pack_8 (fun v9 S9 L21 he9 hw9 hL9 hp => ?_)
  obtain ⟨hv9, hs9⟩ := hp
  replace hs9 := hs9.symm
  subst hs9
  replace hv9 := hv9.symm
  subst hv9
  have w24 := hL9
  refine g_if_eq (tgt := 41) C dX10_pack_11 (by decide) (fun z25 => ?_) (fun z25 => ?_)
  · replace h := h.1 z25
    obtain ⟨g26, h⟩ := h
    exact gx_throw (cls := "java/lang/IllegalArgumentException") (names := ["java/lang/RuntimeException", "java/lang/Exception"]) C E hst w13 w24 w18 (Nat.le_refl _) (Nat.le_refl _) (by decide) (by decide) (hW kw_310) (hW kw_13) (th_FreightRater_62 hW E) tv_FreightRater_62 dX10_pack_41 dX10_pack_44 dX10_pack_45 dX10_pack_48 htab (Nat.le_of_ble_eq_true rfl) (Nat.le_of_ble_eq_true rfl) g26.1 g26.2 h
  · replace h := h.2 z25
    refine g_iload_n C dX10_pack_14 rfl 4 rfl ?_
    refine gc_calliS (host := "") C E w13 w24 [.int p2] rfl (k_X10_isSide l D T p2 S10 ) (w0_S 1 C.2.2.2.2.1 kw_1142 kw_1143 kw_1 kw_1144 rfl rfl (by decide +kernel) ⟨Nat.le_of_ble_eq_true rfl, Nat.le_of_ble_eq_true rfl⟩) rfl (Nat.le_of_ble_eq_true rfl) (Nat.le_refl _) (Nat.le_refl _) (Nat.zero_le _) (Nat.zero_le _) dX10_pack_15 (fun v9 S9 L27 he9 hw9 hL9 hp => ?_)
    obtain ⟨hv9, hs9⟩ := hp
    replace hs9 := hs9.symm
    subst hs9
    replace hv9 := hv9.symm
    subst hv9
    have w30 := hL9
    refine g_if_eq (tgt := 41) C dX10_pack_18 (by decide) (fun z31 => ?_) (fun z31 => ?_)
    · replace h := h.1 z31
      obtain ⟨g32, h⟩ := h
      exact gx_throw (cls := "java/lang/IllegalArgumentException") (names := ["java/lang/RuntimeException", "java/lang/Exception"]) C E hst w13 w30 w18 (Nat.le_refl _) (Nat.le_refl _) (by decide) (by decide) (hW kw_310) (hW kw_13) (th_FreightRater_62 hW E) tv_FreightRater_62 dX10_pack_41 dX10_pack_44 dX10_pack_45 dX10_pack_48 htab (Nat.le_of_ble_eq_true rfl) (Nat.le_of_ble_eq_true rfl) g32.1 g32.2 h
    · replace h := h.2 z31
      refine g_iload C dX10_pack_21 5 rfl ?_
      refine gc_calliS (host := "") C E w13 w30 [.int p3] rfl (k_X10_isSide l D T p3 S10 ) (w0_S 1 C.2.2.2.2.1 kw_1142 kw_1143 kw_1 kw_1144 rfl rfl (by decide +kernel) ⟨Nat.le_of_ble_eq_true rfl, Nat.le_of_ble_eq_true rfl⟩) rfl (Nat.le_of_ble_eq_true rfl) (Nat.le_refl _) (Nat.le_refl _) (Nat.zero_le _) (Nat.zero_le _) dX10_pack_23 (fun v9 S9 L33 he9 hw9 hL9 hp => ?_)
      obtain ⟨hv9, hs9⟩ := hp
      replace hs9 := hs9.symm
      subst hs9
      replace hv9 := hv9.symm
      subst hv9
      have w36 := hL9
      refine g_if_eq (tgt := 41) C dX10_pack_26 (by decide) (fun z37 => ?_) (fun z37 => ?_)
      · replace h := h.1 z37
        obtain ⟨g38, h⟩ := h
        exact gx_throw (cls := "java/lang/IllegalArgumentException") (names := ["java/lang/RuntimeException", "java/lang/Exception"]) C E hst w13 w36 w18 (Nat.le_refl _) (Nat.le_refl _) (by decide) (by decide) (hW kw_310) (hW kw_13) (th_FreightRater_62 hW E) tv_FreightRater_62 dX10_pack_41 dX10_pack_44 dX10_pack_45 dX10_pack_48 htab (Nat.le_of_ble_eq_true rfl) (Nat.le_of_ble_eq_true rfl) g38.1 g38.2 h
      · replace h := h.2 z37
        refine g_iload C dX10_pack_29 6 rfl ?_
        refine g_iconst (v := 1) C dX10_pack_31 (by decide) ?_
        refine g_sipush (v := 999) C dX10_pack_32 (by decide) ?_
        refine gc_calliS (host := "") C E w13 w36 [.int p4, .int 1, .int 999] rfl (k_X10_isBetween l D T p4 1 999 S10 ) (w0_S 3 C.2.2.2.2.1 kw_303 kw_304 kw_1 kw_305 rfl rfl (by decide +kernel) ⟨Nat.le_of_ble_eq_true rfl, Nat.le_of_ble_eq_true rfl⟩) rfl (Nat.le_of_ble_eq_true rfl) (Nat.le_refl _) (Nat.le_refl _) (Nat.zero_le _) (Nat.zero_le _) dX10_pack_35 (fun v9 S9 L39 he9 hw9 hL9 hp => ?_)
        obtain ⟨hv9, hs9⟩ := hp
        replace hs9 := hs9.symm
        subst hs9
        replace hv9 := hv9.symm
        subst hv9
        have w42 := hL9
        refine g_if_ne (tgt := 49) C dX10_pack_38 (by decide) (fun z43 => ?_) (fun z43 => ?_)
        · replace h := h.1 z43
          refine g_aload C dX10_pack_49 0 rfl ?_
          obtain ⟨m44, m45, m46, h⟩ := h
          obtain ⟨g47, h⟩ := h
          refine gc_calliV (host := "") C E w13 w42 g20 (by decide) (by decide) rfl [] rfl (k_X5_isPosted l D T b19 S10 m44 m45 m46 g20 g47) (w0_V 0 C.2.2.2.2.1 kw_1145 kw_1146 kw_1147 kw_35 kw_1148 rfl rfl (by decide +kernel) ⟨Nat.le_of_ble_eq_true rfl, Nat.le_of_ble_eq_true rfl⟩) rfl (Nat.le_of_ble_eq_true rfl) (Nat.le_refl _) (Nat.le_refl _) (Nat.zero_le _) (Nat.zero_le _) dX10_pack_51 (fun v9 S9 L48 he9 hw9 hL9 hp => ?_)
          obtain ⟨hv9, hs9⟩ := hp
          replace hs9 := hs9.symm
          subst hs9
          replace hv9 := hv9.symm
          subst hv9
          have w51 := hL9
          refine g_if_ne (tgt := 66) C dX10_pack_54 (by decide) (fun z52 => ?_) (fun z52 => ?_)
          · replace h := h.1 z52
            obtain ⟨g53, h⟩ := h
            exact gx_throw (cls := "java/lang/IllegalStateException") (names := ["java/lang/RuntimeException", "java/lang/Exception"]) C E hst w13 w51 w18 (Nat.le_refl _) (Nat.le_refl _) (by decide) (by decide) (hW kw_480) (hW kw_17) (th_FreightRater_78 hW E) tv_FreightRater_78 dX10_pack_66 dX10_pack_69 dX10_pack_70 dX10_pack_73 htab (Nat.le_of_ble_eq_true rfl) (Nat.le_of_ble_eq_true rfl) g53.1 g53.2 h
          · replace h := h.2 z52
            refine g_aload C dX10_pack_57 0 rfl ?_
            refine gc_getI C iwx_X5 w51 g20 (by decide) (by decide) rfl 4 (by decide) (hW kw_1093) rfl rfl rfl dX10_pack_59 ?_
            refine g_iconst (v := 5) C dX10_pack_62 (by decide) ?_
            refine g_icmp_lt (tgt := 74) C dX10_pack_63 (by decide) (fun z54 => ?_) (fun z54 => ?_)
            · replace h := h.1 z54
              refine g_aload_n C dX10_pack_74 rfl 1 rfl ?_
              obtain ⟨m55, m56, m57, m58, m59, h⟩ := h
              obtain ⟨g60, h⟩ := h
              refine gc_callvV (host := "") C E w13 w51 g17 (by decide) (by decide) rfl [] rfl (k_X10_remember l D T x0 S10 m55 m56 m57 m58 m59 g17 g60) (w0_V 0 C.2.2.2.2.1 kw_495 kw_497 ks_1 kw_1 kw_498 rfl rfl (by decide +kernel) ⟨Nat.le_of_ble_eq_true rfl, Nat.le_of_ble_eq_true rfl⟩) rfl (Nat.le_of_ble_eq_true rfl) (Nat.le_refl _) (Nat.le_refl _) (Nat.zero_le _) (Nat.zero_le _) dX10_pack_75 (fun S61 L62 e63 w64 w65 hp => ?_)
              replace h := h S61 e63 hp
              have g66 := ext_K e63 g20 (by decide)
              have g67 := ext_K e63 g17 (by decide)
              have w68 := ext_tr w18 e63
              obtain ⟨g70, h⟩ := h
              refine gc_new (kd := 6) (N := 9) C w64 w65 (Nat.le_refl _) (Nat.le_refl _) iwx_X5 tyX5 tyX5_ok (by decide) (by decide) rfl (fun j hj => by rcases (show j = 0 ∨ j = 1 ∨ j = 2 ∨ j = 3 ∨ j = 4 ∨ j = 5 ∨ j = 6 ∨ j = 7 ∨ j = 8 by omega) with rfl | rfl | rfl | rfl | rfl | rfl | rfl | rfl | rfl <;> rfl) (hW kw_1073) (hW kw_1074) (hW kw_35) g70.1 g70.2 dX10_pack_78 (fun q69 h0q69 zq69 => ?_)
              replace h := h q69 h0q69 zq69
              have g71 := newO_old 6 g66 (by decide) h0q69
              have g72 := newO_old 6 g67 (by decide) h0q69
              have w73 := wt_newO w64 6 h0q69 (by decide)
              have w74 := hL_new (S' := newO S61 q69 6) w65 (show 6 ≠ 0 by decide) rfl
              have w75 := ext_newO w68 h0q69 6
              have g76 := newO_self S61 q69 6
              refine gc_nS (fun S77 eS77 => ?_)
              replace h := h S77 eS77
              have w78 : wt S77 := by rw [eS77]; exact w73
              have w79 : isL S77 (L62 ++ [q69]) := by rw [eS77]; exact w74
              have w80 : ext S0 S77 := by rw [eS77]; exact w75
              have g81 : hK S77 q69 = 6 := by rw [eS77]; exact g76
              have g82 : hK S77 b19 = 6 := by rw [eS77]; exact g71
              have g83 : hK S77 x0 = 11 := by rw [eS77]; exact g72
              refine g_dup C dX10_pack_81 rfl ?_
              refine g_aload C dX10_pack_82 0 rfl ?_
              obtain ⟨cc84, cc85, g86, h⟩ := h
              obtain ⟨m87, m88, m89, h⟩ := h
              obtain ⟨g90, h⟩ := h
              refine gc_callvI (host := "") (ret := none) C E w78 w79 [.ref b19] rfl (k_X5_init_ l D T q69 b19 S77 m87 m88 m89 cc84 cc85 g81 g82 g90) (w0_I 1 C.2.2.2.2.1 kw_1149 kw_1150 kw_35 kw_1151 rfl rfl rfl (by decide +kernel) ⟨Nat.le_of_ble_eq_true rfl, Nat.le_of_ble_eq_true rfl⟩) rfl (Nat.le_of_ble_eq_true rfl) (Nat.le_refl _) (Nat.le_refl _) g86.1 g86.2 dX10_pack_84 (fun S91 L92 e93 w94 w95 hp => ?_)
              replace h := h S91 e93 hp
              have g96 := ext_K e93 g81 (by decide)
              have g97 := ext_K e93 g82 (by decide)
              have g98 := ext_K e93 g83 (by decide)
              have w99 := ext_tr w80 e93
              refine g_astore (lv' := [(7, .ref q69), (6, .ref b19), (0, .ref x0), (1, .int p0), (2, .int p1), (3, .int p2), (4, .int p3), (5, .int p4)]) C dX10_pack_87 (by decide) rfl ?_
              refine g_aload C dX10_pack_89 0 rfl ?_
              refine g_iload_n C dX10_pack_91 rfl 4 rfl ?_
              refine g_iload_n C dX10_pack_92 rfl 5 rfl ?_
              refine g_iload C dX10_pack_93 6 rfl ?_
              refine g_iload C dX10_pack_95 7 rfl ?_
              obtain ⟨m100, m101, m102, h⟩ := h
              obtain ⟨g103, h⟩ := h
              refine gc_callvV (host := "") C E w94 w95 g96 (by decide) (by decide) rfl [.int p1, .int p2, .int p3, .int p4] rfl (k_X5_addPiece l D T q69 p1 p2 p3 p4 S91 m100 m101 m102 g96 g103) (w0_V 4 C.2.2.2.2.1 kw_1154 kw_1155 kw_1156 kw_35 kw_1157 rfl rfl (by decide +kernel) ⟨Nat.le_of_ble_eq_true rfl, Nat.le_of_ble_eq_true rfl⟩) rfl (Nat.le_of_ble_eq_true rfl) (Nat.le_refl _) (Nat.le_refl _) (Nat.zero_le _) (Nat.zero_le _) dX10_pack_97 (fun S104 L105 e106 w107 w108 hp => ?_)
              replace h := h S104 e106 hp
              have g109 := ext_K e106 g96 (by decide)
              have g110 := ext_K e106 g97 (by decide)
              have g111 := ext_K e106 g98 (by decide)
              have w112 := ext_tr w99 e106
              refine g_aload_n C dX10_pack_100 rfl 2 rfl ?_
              refine gc_getR C w107 iwx_X10 w108 g111 (by decide) (by decide) rfl 0 (by decide) (hW kw_242) rfl rfl rfl dX10_pack_101 (fun o113 eo113 ko113 => ?_)
              obtain ⟨b114, hb9, h⟩ := h
              have g115 : hK S104 b114 = 7 := ko113 b114 (eo113.trans hb9)
              replace h := h g115
              refine g_opt (eo113.trans hb9) ?_
              refine gc_getR C w107 iwx_X6 w108 g115 (by decide) (by decide) rfl 2 (by decide) (hW kw_64) rfl rfl rfl dX10_pack_104 (fun o116 eo116 ko116 => ?_)
              obtain ⟨b117, hb9, h⟩ := h
              have g118 : hK S104 b117 = 27 := ko116 b117 (eo116.trans hb9)
              replace h := h g118
              refine g_opt (eo116.trans hb9) ?_
              refine g_iload_n C dX10_pack_107 rfl 3 rfl ?_
              refine g_aload C dX10_pack_108 0 rfl ?_
              obtain ⟨g119, h⟩ := h
              refine gc_aast C w108 g118 (by decide) rfl g109 (by decide) (by decide) rfl g119 dX10_pack_110 ?_
              have w120 := wt_putB w107 (Int32.toNatClampNeg p0) (some q69) (k_ne g118 (by decide)) (fun b hb => by cases hb; rw [show hK S104 b117 = 27 from g118]; exact g109)
              refine gc_nS (fun S121 eS121 => ?_)
              replace h := h S121 eS121
              have w122 : wt S121 := by rw [eS121]; exact w120
              have w123 : isL S121 L105 := by rw [eS121]; exact w108
              have w124 : ext S0 S121 := by rw [eS121]; exact w112
              have g125 : hK S121 q69 = 6 := by rw [eS121]; exact g109
              have g126 : hK S121 b19 = 6 := by rw [eS121]; exact g110
              have g127 : hK S121 x0 = 11 := by rw [eS121]; exact g111
              refine g_aload C dX10_pack_111 0 rfl ?_
              refine gc_getI C iwx_X5 w123 g125 (by decide) (by decide) rfl 4 (by decide) (hW kw_1093) rfl rfl rfl dX10_pack_113 ?_
              exact gx_iret C w122 w123 w124 hr dX10_pack_116 h
            · replace h := h.2 z54
              obtain ⟨g128, h⟩ := h
              exact gx_throw (cls := "java/lang/IllegalStateException") (names := ["java/lang/RuntimeException", "java/lang/Exception"]) C E hst w13 w51 w18 (Nat.le_refl _) (Nat.le_refl _) (by decide) (by decide) (hW kw_480) (hW kw_17) (th_FreightRater_78 hW E) tv_FreightRater_78 dX10_pack_66 dX10_pack_69 dX10_pack_70 dX10_pack_73 htab (Nat.le_of_ble_eq_true rfl) (Nat.le_of_ble_eq_true rfl) g128.1 g128.2 h
        · replace h := h.2 z43
          obtain ⟨g129, h⟩ := h
          exact gx_throw (cls := "java/lang/IllegalArgumentException") (names := ["java/lang/RuntimeException", "java/lang/Exception"]) C E hst w13 w42 w18 (Nat.le_refl _) (Nat.le_refl _) (by decide) (by decide) (hW kw_310) (hW kw_13) (th_FreightRater_62 hW E) tv_FreightRater_62 dX10_pack_41 dX10_pack_44 dX10_pack_45 dX10_pack_48 htab (Nat.le_of_ble_eq_true rfl) (Nat.le_of_ble_eq_true rfl) g129.1 g129.2 h
theorem c_X10_pack (l : Launch) (hst : l.stackTraces = false) (D : va_G) (T : Nat → ClassId) (x0 : Nat) (p0 : Int32) (p1 : Int32) (p2 : Int32) (p3 : Int32) (p4 : Int32) (S : HS) (mc ms : Nat) (hx0 : hK S x0 = 11) (P : Int32 → HS → Prop) (X : String → HS → Prop) (h : wp_X10_pack P X x0 p0 p1 p2 p3 p4 S mc ms) : CXi l yX10_pack (ws_X10_pack) rm_X10_pack D T [.ref x0, .int p0, .int p1, .int p2, .int p3, .int p4] S mc ms P X := gx_meti (by decide) rfl rfl (Nat.le_of_ble_eq_true rfl) (fun p e s m args below meth c A L C E hnm hr htab hw hL => t_X10_pack C E hst htab hr P X x0 p0 p1 p2 p3 p4 S S mc ms L rfl hw hL hx0 h)
def wp_X10_route (P : Int32 → HS → Prop) (X : String → HS → Prop) (x0 : Nat) (p0 : Int32) (p1 : Int32) (p2 : Int32) (S : HS) (mc ms : Nat) : Prop := ∃ cc1 cc2 : Nat, (cc1 ≤ mc ∧ cc2 ≤ ms) ∧ (∃ (m4 : (Nat → Nat)) (m5 : (Nat → Nat → Int32)) (m6 : (Nat → Int32)) (m7 : (Nat → Int32)) (m8 : (List Int32)), ((FrS S m4 m5 m6 m7 m8 ∧ x0 = m4 50 ∧ 1 ≤ cc1 ∧ 6 ≤ cc2) ∧ ((∀ (E9 : String) (S9 : HS), ext S S9 → (zin p0 0 (m5 0 1 - 1) = 0 ∧ E9 = "java/lang/IndexOutOfBoundsException" ∧ S9 = S) → X E9 S9) ∧ (∀ (o15 : Option Nat) (S10 : HS), ext S S10 → (∀ b, o15 = some b → hK S10 b = 6) → (S10 = S ∧ ¬ zin p0 0 (m5 0 1 - 1) = 0 ∧ ∃ y, o15 = some y ∧ RelS S (fxM m4) y (m5 0) (iv p0)) → (∃ b19 : Nat, o15 = some b19 ∧ (hK S10 b19 = 6 → ((¬ (andF (zin p1 0 999) (zin p2 0 999)) = 0 → (∃ (m26 : (Nat → Prop)) (m27 : Nat → Int32) (m28 : Nat), ((WF m27 ∧ m28 < 10 ∧ RelS S10 m26 b19 m27 m28) ∧ (((psF m27 m28) = 0 → (∃ (m35 : (Nat → Nat)) (m36 : (Nat → Nat → Int32)) (m37 : (Nat → Int32)) (m38 : (Nat → Int32)) (m39 : (List Int32)), ((FrS S10 m35 m36 m37 m38 m39 ∧ x0 = m35 50) ∧ (∀ (S41 : HS), ext S10 S41 → (FrS S41 m35 (rmU m36 m37) (rmG m37) m38 m39 ∧ frM S10 S41 (fxM m35) ∧ hK S41 = hK S10 ∧ hR S41 = hR S10 ∧ (∀ i, 54 ≤ i → i < 64 → sam S10 S41 (m35 i))) → ((1 ≤ (mc - cc1) ∧ 9 ≤ (ms - cc2)) ∧ (∀ q49 : Nat, hK S41 q49 = 0 → zr S41 q49 → (∀ S57 : HS, S57 = newO S41 q49 6 → (∃ cc64 cc65 : Nat, (cc64 ≤ ((mc - cc1) - 1) ∧ cc65 ≤ ((ms - cc2) - 9)) ∧ (∃ (m67 : (Nat → Prop)) (m68 : Nat → Int32) (m69 : Nat), ((RelS S57 m67 b19 m68 m69 ∧ b19 ≠ q49 ∧ ¬ m67 q49 ∧ (∀ b, m67 b → hK S57 b ≠ 0) ∧ 1 ≤ cc64 ∧ 5 ≤ cc65) ∧ (∀ (S71 : HS), ext S57 S71 → (frM S57 S71 (fun b => b = q49) ∧ RelS S71 m67 q49 m68 m69 ∧ ∃ b, hR S71 125 q49 = some b ∧ hK S57 b = 0) → (∀ S81 : HS, S81 = putI S71 120 q49 p1 → (∀ S89 : HS, S89 = putI S81 121 q49 p2 → (∃ b97 : Nat, hR S89 220 x0 = some b97 ∧ (hK S89 b97 = 7 → (∃ b100 : Nat, hR S89 142 b97 = some b100 ∧ (hK S89 b100 = 27 → (vp_in p0 (hN S89 b100) ∧ (∀ S104 : HS, S104 = putB S89 b100 (Int32.toNatClampNeg p0) (some q49) → (P (hI S104 120 b19) S104)))))))))))))))))))) ∧ (¬ (psF m27 m28) = 0 → ((1 ≤ (mc - cc1) ∧ 6 ≤ (ms - cc2)) ∧ X "java/lang/IllegalStateException" S10)))))) ∧ ((andF (zin p1 0 999) (zin p2 0 999)) = 0 → ((1 ≤ (mc - cc1) ∧ 6 ≤ (ms - cc2)) ∧ X "java/lang/IllegalArgumentException" S10)))))))))
set_option maxRecDepth 100000 in
set_option maxHeartbeats 4000000 in
theorem t_X10_route {p : Program} {l : Launch} {e : Env} {s : State} {m : MethodId} {args : Array Value} {below : List Frame} {meth : Method} {c : Code} {D : va_G} {A : Nat → Prop} {T : Nat → ClassId} (C : GC p s m args meth c cX10_route "FreightRater" (ws_X10_route) 6 D A (zty T)) (E : GE T A s) (hst : l.stackTraces = false) (htab : ∀ z ∈ c.exceptionTable.toList, False) (hr : meth.sig.returnType = (some .int)) (P : Int32 → HS → Prop) (X : String → HS → Prop) : ∀ (x0 : Nat) (p0 : Int32) (p1 : Int32) (p2 : Int32) (S0 S : HS) (mc ms : Nat) (L : List Nat), S0 = S → wt S → hL S L → (hK S x0 = 11) → wp_X10_route P X x0 p0 p1 p2 S mc ms → GW p l e { rm_X10_route with cells := mc, slots := ms } s m args below meth c D A 6 mc ms (vx_MQ below (va_Qi (fun v (u : HS × List Nat) => P v u.1 ∧ CO S0 u) (CE D T A) A) (CXX D T A S0 X) args s mc ms A) (CW T S L) mc ms 0 [(0, .ref x0), (1, .int p0), (2, .int p1), (3, .int p2)] [] := by
  have hW : ∀ {w : Cond}, w ∈ W0 → w.before args s = true := fun h => C.2.2.2.2.1 _ (List.mem_cons_of_mem _ h)
  intro x0 p0 p1 p2 S0 S mc ms L hS0 hw hL hx0 h
  have he : ext S0 S := by rw [hS0]; exact ext_rf
  unfold wp_X10_route at h
  refine g_aload_n C dX10_route_0 rfl 0 rfl ?_
  refine g_iload_n C dX10_route_1 rfl 1 rfl ?_
  obtain ⟨cc1, cc2, g3, h⟩ := h
  obtain ⟨m4, m5, m6, m7, m8, h⟩ := h
  obtain ⟨g9, h⟩ := h
  obtain ⟨g16, h⟩ := h
  refine gx_callqV (host := "") C E hw hL hx0 (by decide) (by decide) rfl [.int p0] rfl (k_X10_requireShipment l hst D T x0 p0 S m4 m5 m6 m7 m8 cc1 cc2 hx0 g9) (w0_V 1 C.2.2.2.2.1 kw_1134 kw_1136 ks_25 kw_1 kw_1137 rfl rfl (by decide +kernel) ⟨Nat.le_of_ble_eq_true rfl, Nat.le_of_ble_eq_true rfl⟩) rfl (Nat.le_of_ble_eq_true rfl) (Nat.le_refl _) (Nat.le_refl _) g3.1 g3.2 dX10_route_2 he htab g16 (fun o15 S10 L11 e12 w13 w14 ko15 hp => ?_)
  replace h := h o15 S10 e12 ko15 hp
  have g17 := ext_K e12 hx0 (by decide)
  have w18 := ext_tr he e12
  obtain ⟨b19, rfl, h⟩ := h
  have g20 : hK S10 b19 = 6 := ko15 b19 rfl
  replace h := h g20
  refine g_astore (lv' := [(4, .ref b19), (0, .ref x0), (1, .int p0), (2, .int p1), (3, .int p2)]) C dX10_route_5 (by decide) rfl ?_
  refine g_iload_n C dX10_route_7 rfl 3 rfl ?_
  refine g_iload_n C dX10_route_8 rfl 4 rfl ?_
  refine gc_calliS (host := "") C E w13 w14 [.int p1, .int p2] rfl (k_X10_isRoute l D T p1 p2 S10 ) (w0_S 2 C.2.2.2.2.1 kw_1070 kw_1071 kw_1 kw_1072 rfl rfl (by decide +kernel) ⟨Nat.le_of_ble_eq_true rfl, Nat.le_of_ble_eq_true rfl⟩) rfl (Nat.le_of_ble_eq_true rfl) (Nat.le_refl _) (Nat.le_refl _) (Nat.zero_le _) (Nat.zero_le _) dX10_route_9 (fun v9 S9 L21 he9 hw9 hL9 hp => ?_)
  obtain ⟨hv9, hs9⟩ := hp
  replace hs9 := hs9.symm
  subst hs9
  replace hv9 := hv9.symm
  subst hv9
  have w24 := hL9
  refine g_if_ne (tgt := 23) C dX10_route_12 (by decide) (fun z25 => ?_) (fun z25 => ?_)
  · replace h := h.1 z25
    refine g_aload C dX10_route_23 0 rfl ?_
    obtain ⟨m26, m27, m28, h⟩ := h
    obtain ⟨g29, h⟩ := h
    refine gc_calliV (host := "") C E w13 w24 g20 (by decide) (by decide) rfl [] rfl (k_X5_isPosted l D T b19 S10 m26 m27 m28 g20 g29) (w0_V 0 C.2.2.2.2.1 kw_1145 kw_1146 kw_1147 kw_35 kw_1148 rfl rfl (by decide +kernel) ⟨Nat.le_of_ble_eq_true rfl, Nat.le_of_ble_eq_true rfl⟩) rfl (Nat.le_of_ble_eq_true rfl) (Nat.le_refl _) (Nat.le_refl _) (Nat.zero_le _) (Nat.zero_le _) dX10_route_25 (fun v9 S9 L30 he9 hw9 hL9 hp => ?_)
    obtain ⟨hv9, hs9⟩ := hp
    replace hs9 := hs9.symm
    subst hs9
    replace hv9 := hv9.symm
    subst hv9
    have w33 := hL9
    refine g_if_eq (tgt := 39) C dX10_route_28 (by decide) (fun z34 => ?_) (fun z34 => ?_)
    · replace h := h.1 z34
      refine g_aload_n C dX10_route_39 rfl 1 rfl ?_
      obtain ⟨m35, m36, m37, m38, m39, h⟩ := h
      obtain ⟨g40, h⟩ := h
      refine gc_callvV (host := "") C E w13 w33 g17 (by decide) (by decide) rfl [] rfl (k_X10_remember l D T x0 S10 m35 m36 m37 m38 m39 g17 g40) (w0_V 0 C.2.2.2.2.1 kw_495 kw_497 ks_1 kw_1 kw_498 rfl rfl (by decide +kernel) ⟨Nat.le_of_ble_eq_true rfl, Nat.le_of_ble_eq_true rfl⟩) rfl (Nat.le_of_ble_eq_true rfl) (Nat.le_refl _) (Nat.le_refl _) (Nat.zero_le _) (Nat.zero_le _) dX10_route_40 (fun S41 L42 e43 w44 w45 hp => ?_)
      replace h := h S41 e43 hp
      have g46 := ext_K e43 g20 (by decide)
      have g47 := ext_K e43 g17 (by decide)
      have w48 := ext_tr w18 e43
      obtain ⟨g50, h⟩ := h
      refine gc_new (kd := 6) (N := 9) C w44 w45 (Nat.le_refl _) (Nat.le_refl _) iwx_X5 tyX5 tyX5_ok (by decide) (by decide) rfl (fun j hj => by rcases (show j = 0 ∨ j = 1 ∨ j = 2 ∨ j = 3 ∨ j = 4 ∨ j = 5 ∨ j = 6 ∨ j = 7 ∨ j = 8 by omega) with rfl | rfl | rfl | rfl | rfl | rfl | rfl | rfl | rfl <;> rfl) (hW kw_1073) (hW kw_1074) (hW kw_35) g50.1 g50.2 dX10_route_43 (fun q49 h0q49 zq49 => ?_)
      replace h := h q49 h0q49 zq49
      have g51 := newO_old 6 g46 (by decide) h0q49
      have g52 := newO_old 6 g47 (by decide) h0q49
      have w53 := wt_newO w44 6 h0q49 (by decide)
      have w54 := hL_new (S' := newO S41 q49 6) w45 (show 6 ≠ 0 by decide) rfl
      have w55 := ext_newO w48 h0q49 6
      have g56 := newO_self S41 q49 6
      refine gc_nS (fun S57 eS57 => ?_)
      replace h := h S57 eS57
      have w58 : wt S57 := by rw [eS57]; exact w53
      have w59 : isL S57 (L42 ++ [q49]) := by rw [eS57]; exact w54
      have w60 : ext S0 S57 := by rw [eS57]; exact w55
      have g61 : hK S57 q49 = 6 := by rw [eS57]; exact g56
      have g62 : hK S57 b19 = 6 := by rw [eS57]; exact g51
      have g63 : hK S57 x0 = 11 := by rw [eS57]; exact g52
      refine g_dup C dX10_route_46 rfl ?_
      refine g_aload C dX10_route_47 0 rfl ?_
      obtain ⟨cc64, cc65, g66, h⟩ := h
      obtain ⟨m67, m68, m69, h⟩ := h
      obtain ⟨g70, h⟩ := h
      refine gc_callvI (host := "") (ret := none) C E w58 w59 [.ref b19] rfl (k_X5_init_ l D T q49 b19 S57 m67 m68 m69 cc64 cc65 g61 g62 g70) (w0_I 1 C.2.2.2.2.1 kw_1149 kw_1150 kw_35 kw_1151 rfl rfl rfl (by decide +kernel) ⟨Nat.le_of_ble_eq_true rfl, Nat.le_of_ble_eq_true rfl⟩) rfl (Nat.le_of_ble_eq_true rfl) (Nat.le_refl _) (Nat.le_refl _) g66.1 g66.2 dX10_route_49 (fun S71 L72 e73 w74 w75 hp => ?_)
      replace h := h S71 e73 hp
      have g76 := ext_K e73 g61 (by decide)
      have g77 := ext_K e73 g62 (by decide)
      have g78 := ext_K e73 g63 (by decide)
      have w79 := ext_tr w60 e73
      refine g_astore (lv' := [(5, .ref q49), (4, .ref b19), (0, .ref x0), (1, .int p0), (2, .int p1), (3, .int p2)]) C dX10_route_52 (by decide) rfl ?_
      refine g_aload C dX10_route_54 0 rfl ?_
      refine g_iload_n C dX10_route_56 rfl 4 rfl ?_
      refine gc_putI C iwx_X5 w75 g76 (by decide) (by decide) rfl 0 (by decide) (hW kw_1081) rfl tyX5 tyX5_ok nmX5 rfl rfl rfl rfl rfl dX10_route_57 ?_
      have w80 := wt_putI w74 120 p1 (k_ne g76 (by decide))
      refine gc_nS (fun S81 eS81 => ?_)
      replace h := h S81 eS81
      have w82 : wt S81 := by rw [eS81]; exact w80
      have w83 : isL S81 L72 := by rw [eS81]; exact w75
      have w84 : ext S0 S81 := by rw [eS81]; exact w79
      have g85 : hK S81 q49 = 6 := by rw [eS81]; exact g76
      have g86 : hK S81 b19 = 6 := by rw [eS81]; exact g77
      have g87 : hK S81 x0 = 11 := by rw [eS81]; exact g78
      refine g_aload C dX10_route_60 0 rfl ?_
      refine g_iload_n C dX10_route_62 rfl 5 rfl ?_
      refine gc_putI C iwx_X5 w83 g85 (by decide) (by decide) rfl 1 (by decide) (hW kw_1084) rfl tyX5 tyX5_ok nmX5 rfl rfl rfl rfl rfl dX10_route_63 ?_
      have w88 := wt_putI w82 121 p2 (k_ne g85 (by decide))
      refine gc_nS (fun S89 eS89 => ?_)
      replace h := h S89 eS89
      have w90 : wt S89 := by rw [eS89]; exact w88
      have w91 : isL S89 L72 := by rw [eS89]; exact w83
      have w92 : ext S0 S89 := by rw [eS89]; exact w84
      have g93 : hK S89 q49 = 6 := by rw [eS89]; exact g85
      have g94 : hK S89 b19 = 6 := by rw [eS89]; exact g86
      have g95 : hK S89 x0 = 11 := by rw [eS89]; exact g87
      refine g_aload_n C dX10_route_66 rfl 2 rfl ?_
      refine gc_getR C w90 iwx_X10 w91 g95 (by decide) (by decide) rfl 0 (by decide) (hW kw_242) rfl rfl rfl dX10_route_67 (fun o96 eo96 ko96 => ?_)
      obtain ⟨b97, hb9, h⟩ := h
      have g98 : hK S89 b97 = 7 := ko96 b97 (eo96.trans hb9)
      replace h := h g98
      refine g_opt (eo96.trans hb9) ?_
      refine gc_getR C w90 iwx_X6 w91 g98 (by decide) (by decide) rfl 2 (by decide) (hW kw_64) rfl rfl rfl dX10_route_70 (fun o99 eo99 ko99 => ?_)
      obtain ⟨b100, hb9, h⟩ := h
      have g101 : hK S89 b100 = 27 := ko99 b100 (eo99.trans hb9)
      replace h := h g101
      refine g_opt (eo99.trans hb9) ?_
      refine g_iload_n C dX10_route_73 rfl 3 rfl ?_
      refine g_aload C dX10_route_74 0 rfl ?_
      obtain ⟨g102, h⟩ := h
      refine gc_aast C w91 g101 (by decide) rfl g93 (by decide) (by decide) rfl g102 dX10_route_76 ?_
      have w103 := wt_putB w90 (Int32.toNatClampNeg p0) (some q49) (k_ne g101 (by decide)) (fun b hb => by cases hb; rw [show hK S89 b100 = 27 from g101]; exact g93)
      refine gc_nS (fun S104 eS104 => ?_)
      replace h := h S104 eS104
      have w105 : wt S104 := by rw [eS104]; exact w103
      have w106 : isL S104 L72 := by rw [eS104]; exact w91
      have w107 : ext S0 S104 := by rw [eS104]; exact w92
      have g108 : hK S104 q49 = 6 := by rw [eS104]; exact g93
      have g109 : hK S104 b19 = 6 := by rw [eS104]; exact g94
      have g110 : hK S104 x0 = 11 := by rw [eS104]; exact g95
      refine g_aload C dX10_route_77 1 rfl ?_
      refine gc_getI C iwx_X5 w106 g109 (by decide) (by decide) rfl 0 (by decide) (hW kw_1081) rfl rfl rfl dX10_route_79 ?_
      exact gx_iret C w105 w106 w107 hr dX10_route_82 h
    · replace h := h.2 z34
      obtain ⟨g111, h⟩ := h
      exact gx_throw (cls := "java/lang/IllegalStateException") (names := ["java/lang/RuntimeException", "java/lang/Exception"]) C E hst w13 w33 w18 (Nat.le_refl _) (Nat.le_refl _) (by decide) (by decide) (hW kw_480) (hW kw_17) (th_FreightRater_78 hW E) tv_FreightRater_78 dX10_route_31 dX10_route_34 dX10_route_35 dX10_route_38 htab (Nat.le_of_ble_eq_true rfl) (Nat.le_of_ble_eq_true rfl) g111.1 g111.2 h
  · replace h := h.2 z25
    obtain ⟨g112, h⟩ := h
    exact gx_throw (cls := "java/lang/IllegalArgumentException") (names := ["java/lang/RuntimeException", "java/lang/Exception"]) C E hst w13 w24 w18 (Nat.le_refl _) (Nat.le_refl _) (by decide) (by decide) (hW kw_310) (hW kw_13) (th_FreightRater_62 hW E) tv_FreightRater_62 dX10_route_15 dX10_route_18 dX10_route_19 dX10_route_22 htab (Nat.le_of_ble_eq_true rfl) (Nat.le_of_ble_eq_true rfl) g112.1 g112.2 h
theorem c_X10_route (l : Launch) (hst : l.stackTraces = false) (D : va_G) (T : Nat → ClassId) (x0 : Nat) (p0 : Int32) (p1 : Int32) (p2 : Int32) (S : HS) (mc ms : Nat) (hx0 : hK S x0 = 11) (P : Int32 → HS → Prop) (X : String → HS → Prop) (h : wp_X10_route P X x0 p0 p1 p2 S mc ms) : CXi l yX10_route (ws_X10_route) rm_X10_route D T [.ref x0, .int p0, .int p1, .int p2] S mc ms P X := gx_meti (by decide) rfl rfl (Nat.le_of_ble_eq_true rfl) (fun p e s m args below meth c A L C E hnm hr htab hw hL => t_X10_route C E hst htab hr P X x0 p0 p1 p2 S S mc ms L rfl hw hL hx0 h)
def wp_X10_handle (P : Int32 → HS → Prop) (X : String → HS → Prop) (x0 : Nat) (p0 : Int32) (p1 : Int32) (S : HS) (mc ms : Nat) : Prop := ∃ cc1 cc2 : Nat, (cc1 ≤ mc ∧ cc2 ≤ ms) ∧ (∃ (m4 : (Nat → Nat)) (m5 : (Nat → Nat → Int32)) (m6 : (Nat → Int32)) (m7 : (Nat → Int32)) (m8 : (List Int32)), ((FrS S m4 m5 m6 m7 m8 ∧ x0 = m4 50 ∧ 1 ≤ cc1 ∧ 6 ≤ cc2) ∧ ((∀ (E9 : String) (S9 : HS), ext S S9 → (zin p0 0 (m5 0 1 - 1) = 0 ∧ E9 = "java/lang/IndexOutOfBoundsException" ∧ S9 = S) → X E9 S9) ∧ (∀ (o15 : Option Nat) (S10 : HS), ext S S10 → (∀ b, o15 = some b → hK S10 b = 6) → (S10 = S ∧ ¬ zin p0 0 (m5 0 1 - 1) = 0 ∧ ∃ y, o15 = some y ∧ RelS S (fxM m4) y (m5 0) (iv p0)) → (∃ b19 : Nat, o15 = some b19 ∧ (hK S10 b19 = 6 → ((¬ (zin p1 0 255) = 0 → (∃ (m26 : (Nat → Prop)) (m27 : Nat → Int32) (m28 : Nat), ((WF m27 ∧ m28 < 10 ∧ RelS S10 m26 b19 m27 m28) ∧ (((psF m27 m28) = 0 → (∃ (m35 : (Nat → Nat)) (m36 : (Nat → Nat → Int32)) (m37 : (Nat → Int32)) (m38 : (Nat → Int32)) (m39 : (List Int32)), ((FrS S10 m35 m36 m37 m38 m39 ∧ x0 = m35 50) ∧ (∀ (S41 : HS), ext S10 S41 → (FrS S41 m35 (rmU m36 m37) (rmG m37) m38 m39 ∧ frM S10 S41 (fxM m35) ∧ hK S41 = hK S10 ∧ hR S41 = hR S10 ∧ (∀ i, 54 ≤ i → i < 64 → sam S10 S41 (m35 i))) → ((1 ≤ (mc - cc1) ∧ 9 ≤ (ms - cc2)) ∧ (∀ q49 : Nat, hK S41 q49 = 0 → zr S41 q49 → (∀ S57 : HS, S57 = newO S41 q49 6 → (∃ cc64 cc65 : Nat, (cc64 ≤ ((mc - cc1) - 1) ∧ cc65 ≤ ((ms - cc2) - 9)) ∧ (∃ (m67 : (Nat → Prop)) (m68 : Nat → Int32) (m69 : Nat), ((RelS S57 m67 b19 m68 m69 ∧ b19 ≠ q49 ∧ ¬ m67 q49 ∧ (∀ b, m67 b → hK S57 b ≠ 0) ∧ 1 ≤ cc64 ∧ 5 ≤ cc65) ∧ (∀ (S71 : HS), ext S57 S71 → (frM S57 S71 (fun b => b = q49) ∧ RelS S71 m67 q49 m68 m69 ∧ ∃ b, hR S71 125 q49 = some b ∧ hK S57 b = 0) → (∀ S81 : HS, S81 = putI S71 122 q49 p1 → (∃ b89 : Nat, hR S81 220 x0 = some b89 ∧ (hK S81 b89 = 7 → (∃ b92 : Nat, hR S81 142 b89 = some b92 ∧ (hK S81 b92 = 27 → (vp_in p0 (hN S81 b92) ∧ (∀ S96 : HS, S96 = putB S81 b92 (Int32.toNatClampNeg p0) (some q49) → (P (hI S96 122 b19) S96))))))))))))))))))) ∧ (¬ (psF m27 m28) = 0 → ((1 ≤ (mc - cc1) ∧ 6 ≤ (ms - cc2)) ∧ X "java/lang/IllegalStateException" S10)))))) ∧ ((zin p1 0 255) = 0 → ((1 ≤ (mc - cc1) ∧ 6 ≤ (ms - cc2)) ∧ X "java/lang/IllegalArgumentException" S10)))))))))
set_option maxRecDepth 100000 in
set_option maxHeartbeats 4000000 in
theorem t_X10_handle {p : Program} {l : Launch} {e : Env} {s : State} {m : MethodId} {args : Array Value} {below : List Frame} {meth : Method} {c : Code} {D : va_G} {A : Nat → Prop} {T : Nat → ClassId} (C : GC p s m args meth c cX10_handle "FreightRater" (ws_X10_handle) 5 D A (zty T)) (E : GE T A s) (hst : l.stackTraces = false) (htab : ∀ z ∈ c.exceptionTable.toList, False) (hr : meth.sig.returnType = (some .int)) (P : Int32 → HS → Prop) (X : String → HS → Prop) : ∀ (x0 : Nat) (p0 : Int32) (p1 : Int32) (S0 S : HS) (mc ms : Nat) (L : List Nat), S0 = S → wt S → hL S L → (hK S x0 = 11) → wp_X10_handle P X x0 p0 p1 S mc ms → GW p l e { rm_X10_handle with cells := mc, slots := ms } s m args below meth c D A 5 mc ms (vx_MQ below (va_Qi (fun v (u : HS × List Nat) => P v u.1 ∧ CO S0 u) (CE D T A) A) (CXX D T A S0 X) args s mc ms A) (CW T S L) mc ms 0 [(0, .ref x0), (1, .int p0), (2, .int p1)] [] := by
  have hW : ∀ {w : Cond}, w ∈ W0 → w.before args s = true := fun h => C.2.2.2.2.1 _ (List.mem_cons_of_mem _ h)
  intro x0 p0 p1 S0 S mc ms L hS0 hw hL hx0 h
  have he : ext S0 S := by rw [hS0]; exact ext_rf
  unfold wp_X10_handle at h
  refine g_aload_n C dX10_handle_0 rfl 0 rfl ?_
  refine g_iload_n C dX10_handle_1 rfl 1 rfl ?_
  obtain ⟨cc1, cc2, g3, h⟩ := h
  obtain ⟨m4, m5, m6, m7, m8, h⟩ := h
  obtain ⟨g9, h⟩ := h
  obtain ⟨g16, h⟩ := h
  refine gx_callqV (host := "") C E hw hL hx0 (by decide) (by decide) rfl [.int p0] rfl (k_X10_requireShipment l hst D T x0 p0 S m4 m5 m6 m7 m8 cc1 cc2 hx0 g9) (w0_V 1 C.2.2.2.2.1 kw_1134 kw_1136 ks_25 kw_1 kw_1137 rfl rfl (by decide +kernel) ⟨Nat.le_of_ble_eq_true rfl, Nat.le_of_ble_eq_true rfl⟩) rfl (Nat.le_of_ble_eq_true rfl) (Nat.le_refl _) (Nat.le_refl _) g3.1 g3.2 dX10_handle_2 he htab g16 (fun o15 S10 L11 e12 w13 w14 ko15 hp => ?_)
  replace h := h o15 S10 e12 ko15 hp
  have g17 := ext_K e12 hx0 (by decide)
  have w18 := ext_tr he e12
  obtain ⟨b19, rfl, h⟩ := h
  have g20 : hK S10 b19 = 6 := ko15 b19 rfl
  replace h := h g20
  refine g_astore_n (lv' := [(3, .ref b19), (0, .ref x0), (1, .int p0), (2, .int p1)]) C dX10_handle_5 rfl (by decide) rfl ?_
  refine g_iload_n C dX10_handle_6 rfl 3 rfl ?_
  refine g_iconst (v := 0) C dX10_handle_7 (by decide) ?_
  refine g_sipush (v := 255) C dX10_handle_8 (by decide) ?_
  refine gc_calliS (host := "") C E w13 w14 [.int p1, .int 0, .int 255] rfl (k_X10_isBetween l D T p1 0 255 S10 ) (w0_S 3 C.2.2.2.2.1 kw_303 kw_304 kw_1 kw_305 rfl rfl (by decide +kernel) ⟨Nat.le_of_ble_eq_true rfl, Nat.le_of_ble_eq_true rfl⟩) rfl (Nat.le_of_ble_eq_true rfl) (Nat.le_refl _) (Nat.le_refl _) (Nat.zero_le _) (Nat.zero_le _) dX10_handle_11 (fun v9 S9 L21 he9 hw9 hL9 hp => ?_)
  obtain ⟨hv9, hs9⟩ := hp
  replace hs9 := hs9.symm
  subst hs9
  replace hv9 := hv9.symm
  subst hv9
  have w24 := hL9
  refine g_if_ne (tgt := 25) C dX10_handle_14 (by decide) (fun z25 => ?_) (fun z25 => ?_)
  · replace h := h.1 z25
    refine g_aload_n C dX10_handle_25 rfl 0 rfl ?_
    obtain ⟨m26, m27, m28, h⟩ := h
    obtain ⟨g29, h⟩ := h
    refine gc_calliV (host := "") C E w13 w24 g20 (by decide) (by decide) rfl [] rfl (k_X5_isPosted l D T b19 S10 m26 m27 m28 g20 g29) (w0_V 0 C.2.2.2.2.1 kw_1145 kw_1146 kw_1147 kw_35 kw_1148 rfl rfl (by decide +kernel) ⟨Nat.le_of_ble_eq_true rfl, Nat.le_of_ble_eq_true rfl⟩) rfl (Nat.le_of_ble_eq_true rfl) (Nat.le_refl _) (Nat.le_refl _) (Nat.zero_le _) (Nat.zero_le _) dX10_handle_26 (fun v9 S9 L30 he9 hw9 hL9 hp => ?_)
    obtain ⟨hv9, hs9⟩ := hp
    replace hs9 := hs9.symm
    subst hs9
    replace hv9 := hv9.symm
    subst hv9
    have w33 := hL9
    refine g_if_eq (tgt := 40) C dX10_handle_29 (by decide) (fun z34 => ?_) (fun z34 => ?_)
    · replace h := h.1 z34
      refine g_aload_n C dX10_handle_40 rfl 1 rfl ?_
      obtain ⟨m35, m36, m37, m38, m39, h⟩ := h
      obtain ⟨g40, h⟩ := h
      refine gc_callvV (host := "") C E w13 w33 g17 (by decide) (by decide) rfl [] rfl (k_X10_remember l D T x0 S10 m35 m36 m37 m38 m39 g17 g40) (w0_V 0 C.2.2.2.2.1 kw_495 kw_497 ks_1 kw_1 kw_498 rfl rfl (by decide +kernel) ⟨Nat.le_of_ble_eq_true rfl, Nat.le_of_ble_eq_true rfl⟩) rfl (Nat.le_of_ble_eq_true rfl) (Nat.le_refl _) (Nat.le_refl _) (Nat.zero_le _) (Nat.zero_le _) dX10_handle_41 (fun S41 L42 e43 w44 w45 hp => ?_)
      replace h := h S41 e43 hp
      have g46 := ext_K e43 g20 (by decide)
      have g47 := ext_K e43 g17 (by decide)
      have w48 := ext_tr w18 e43
      obtain ⟨g50, h⟩ := h
      refine gc_new (kd := 6) (N := 9) C w44 w45 (Nat.le_refl _) (Nat.le_refl _) iwx_X5 tyX5 tyX5_ok (by decide) (by decide) rfl (fun j hj => by rcases (show j = 0 ∨ j = 1 ∨ j = 2 ∨ j = 3 ∨ j = 4 ∨ j = 5 ∨ j = 6 ∨ j = 7 ∨ j = 8 by omega) with rfl | rfl | rfl | rfl | rfl | rfl | rfl | rfl | rfl <;> rfl) (hW kw_1073) (hW kw_1074) (hW kw_35) g50.1 g50.2 dX10_handle_44 (fun q49 h0q49 zq49 => ?_)
      replace h := h q49 h0q49 zq49
      have g51 := newO_old 6 g46 (by decide) h0q49
      have g52 := newO_old 6 g47 (by decide) h0q49
      have w53 := wt_newO w44 6 h0q49 (by decide)
      have w54 := hL_new (S' := newO S41 q49 6) w45 (show 6 ≠ 0 by decide) rfl
      have w55 := ext_newO w48 h0q49 6
      have g56 := newO_self S41 q49 6
      refine gc_nS (fun S57 eS57 => ?_)
      replace h := h S57 eS57
      have w58 : wt S57 := by rw [eS57]; exact w53
      have w59 : isL S57 (L42 ++ [q49]) := by rw [eS57]; exact w54
      have w60 : ext S0 S57 := by rw [eS57]; exact w55
      have g61 : hK S57 q49 = 6 := by rw [eS57]; exact g56
      have g62 : hK S57 b19 = 6 := by rw [eS57]; exact g51
      have g63 : hK S57 x0 = 11 := by rw [eS57]; exact g52
      refine g_dup C dX10_handle_47 rfl ?_
      refine g_aload_n C dX10_handle_48 rfl 0 rfl ?_
      obtain ⟨cc64, cc65, g66, h⟩ := h
      obtain ⟨m67, m68, m69, h⟩ := h
      obtain ⟨g70, h⟩ := h
      refine gc_callvI (host := "") (ret := none) C E w58 w59 [.ref b19] rfl (k_X5_init_ l D T q49 b19 S57 m67 m68 m69 cc64 cc65 g61 g62 g70) (w0_I 1 C.2.2.2.2.1 kw_1149 kw_1150 kw_35 kw_1151 rfl rfl rfl (by decide +kernel) ⟨Nat.le_of_ble_eq_true rfl, Nat.le_of_ble_eq_true rfl⟩) rfl (Nat.le_of_ble_eq_true rfl) (Nat.le_refl _) (Nat.le_refl _) g66.1 g66.2 dX10_handle_49 (fun S71 L72 e73 w74 w75 hp => ?_)
      replace h := h S71 e73 hp
      have g76 := ext_K e73 g61 (by decide)
      have g77 := ext_K e73 g62 (by decide)
      have g78 := ext_K e73 g63 (by decide)
      have w79 := ext_tr w60 e73
      refine g_astore (lv' := [(4, .ref q49), (3, .ref b19), (0, .ref x0), (1, .int p0), (2, .int p1)]) C dX10_handle_52 (by decide) rfl ?_
      refine g_aload C dX10_handle_54 0 rfl ?_
      refine g_iload_n C dX10_handle_56 rfl 4 rfl ?_
      refine gc_putI C iwx_X5 w75 g76 (by decide) (by decide) rfl 2 (by decide) (hW kw_1087) rfl tyX5 tyX5_ok nmX5 rfl rfl rfl rfl rfl dX10_handle_57 ?_
      have w80 := wt_putI w74 122 p1 (k_ne g76 (by decide))
      refine gc_nS (fun S81 eS81 => ?_)
      replace h := h S81 eS81
      have w82 : wt S81 := by rw [eS81]; exact w80
      have w83 : isL S81 L72 := by rw [eS81]; exact w75
      have w84 : ext S0 S81 := by rw [eS81]; exact w79
      have g85 : hK S81 q49 = 6 := by rw [eS81]; exact g76
      have g86 : hK S81 b19 = 6 := by rw [eS81]; exact g77
      have g87 : hK S81 x0 = 11 := by rw [eS81]; exact g78
      refine g_aload_n C dX10_handle_60 rfl 2 rfl ?_
      refine gc_getR C w82 iwx_X10 w83 g87 (by decide) (by decide) rfl 0 (by decide) (hW kw_242) rfl rfl rfl dX10_handle_61 (fun o88 eo88 ko88 => ?_)
      obtain ⟨b89, hb9, h⟩ := h
      have g90 : hK S81 b89 = 7 := ko88 b89 (eo88.trans hb9)
      replace h := h g90
      refine g_opt (eo88.trans hb9) ?_
      refine gc_getR C w82 iwx_X6 w83 g90 (by decide) (by decide) rfl 2 (by decide) (hW kw_64) rfl rfl rfl dX10_handle_64 (fun o91 eo91 ko91 => ?_)
      obtain ⟨b92, hb9, h⟩ := h
      have g93 : hK S81 b92 = 27 := ko91 b92 (eo91.trans hb9)
      replace h := h g93
      refine g_opt (eo91.trans hb9) ?_
      refine g_iload_n C dX10_handle_67 rfl 3 rfl ?_
      refine g_aload C dX10_handle_68 0 rfl ?_
      obtain ⟨g94, h⟩ := h
      refine gc_aast C w83 g93 (by decide) rfl g85 (by decide) (by decide) rfl g94 dX10_handle_70 ?_
      have w95 := wt_putB w82 (Int32.toNatClampNeg p0) (some q49) (k_ne g93 (by decide)) (fun b hb => by cases hb; rw [show hK S81 b92 = 27 from g93]; exact g85)
      refine gc_nS (fun S96 eS96 => ?_)
      replace h := h S96 eS96
      have w97 : wt S96 := by rw [eS96]; exact w95
      have w98 : isL S96 L72 := by rw [eS96]; exact w83
      have w99 : ext S0 S96 := by rw [eS96]; exact w84
      have g100 : hK S96 q49 = 6 := by rw [eS96]; exact g85
      have g101 : hK S96 b19 = 6 := by rw [eS96]; exact g86
      have g102 : hK S96 x0 = 11 := by rw [eS96]; exact g87
      refine g_aload_n C dX10_handle_71 rfl 1 rfl ?_
      refine gc_getI C iwx_X5 w98 g101 (by decide) (by decide) rfl 2 (by decide) (hW kw_1087) rfl rfl rfl dX10_handle_72 ?_
      exact gx_iret C w97 w98 w99 hr dX10_handle_75 h
    · replace h := h.2 z34
      obtain ⟨g103, h⟩ := h
      exact gx_throw (cls := "java/lang/IllegalStateException") (names := ["java/lang/RuntimeException", "java/lang/Exception"]) C E hst w13 w33 w18 (Nat.le_refl _) (Nat.le_refl _) (by decide) (by decide) (hW kw_480) (hW kw_17) (th_FreightRater_78 hW E) tv_FreightRater_78 dX10_handle_32 dX10_handle_35 dX10_handle_36 dX10_handle_39 htab (Nat.le_of_ble_eq_true rfl) (Nat.le_of_ble_eq_true rfl) g103.1 g103.2 h
  · replace h := h.2 z25
    obtain ⟨g104, h⟩ := h
    exact gx_throw (cls := "java/lang/IllegalArgumentException") (names := ["java/lang/RuntimeException", "java/lang/Exception"]) C E hst w13 w24 w18 (Nat.le_refl _) (Nat.le_refl _) (by decide) (by decide) (hW kw_310) (hW kw_13) (th_FreightRater_62 hW E) tv_FreightRater_62 dX10_handle_17 dX10_handle_20 dX10_handle_21 dX10_handle_24 htab (Nat.le_of_ble_eq_true rfl) (Nat.le_of_ble_eq_true rfl) g104.1 g104.2 h
theorem c_X10_handle (l : Launch) (hst : l.stackTraces = false) (D : va_G) (T : Nat → ClassId) (x0 : Nat) (p0 : Int32) (p1 : Int32) (S : HS) (mc ms : Nat) (hx0 : hK S x0 = 11) (P : Int32 → HS → Prop) (X : String → HS → Prop) (h : wp_X10_handle P X x0 p0 p1 S mc ms) : CXi l yX10_handle (ws_X10_handle) rm_X10_handle D T [.ref x0, .int p0, .int p1] S mc ms P X := gx_meti (by decide) rfl rfl (Nat.le_of_ble_eq_true rfl) (fun p e s m args below meth c A L C E hnm hr htab hw hL => t_X10_handle C E hst htab hr P X x0 p0 p1 S S mc ms L rfl hw hL hx0 h)
def wp_X10_shipment (P : Int32 → HS → Prop) (X : String → HS → Prop) (x0 : Nat) (p0 : Int32) (p1 : Int32) (S : HS) (mc ms : Nat) : Prop := ∃ cc1 cc2 : Nat, (cc1 ≤ mc ∧ cc2 ≤ ms) ∧ (∃ (m4 : (Nat → Nat)) (m5 : (Nat → Nat → Int32)) (m6 : (Nat → Int32)) (m7 : (Nat → Int32)) (m8 : (List Int32)), ((FrS S m4 m5 m6 m7 m8 ∧ x0 = m4 50 ∧ 1 ≤ cc1 ∧ 6 ≤ cc2) ∧ ((∀ (E9 : String) (S9 : HS), ext S S9 → (zin p0 0 (m5 0 1 - 1) = 0 ∧ E9 = "java/lang/IndexOutOfBoundsException" ∧ S9 = S) → X E9 S9) ∧ (∀ (o15 : Option Nat) (S10 : HS), ext S S10 → (∀ b, o15 = some b → hK S10 b = 6) → (S10 = S ∧ ¬ zin p0 0 (m5 0 1 - 1) = 0 ∧ ∃ y, o15 = some y ∧ RelS S (fxM m4) y (m5 0) (iv p0)) → (∃ b19 : Nat, o15 = some b19 ∧ (hK S10 b19 = 6 → ((p1 = 0 → (P (hI S10 120 b19) S10)) ∧ (¬ p1 = 0 → ((p1 = 1 → (P (hI S10 121 b19) S10)) ∧ (¬ p1 = 1 → ((p1 = 2 → (P (hI S10 122 b19) S10)) ∧ (¬ p1 = 2 → ((p1 = 3 → (P (hI S10 123 b19) S10)) ∧ (¬ p1 = 3 → ((p1 = 4 → (P (hI S10 124 b19) S10)) ∧ (¬ p1 = 4 → ((p1 = 5 → (P (hI S10 126 b19) S10)) ∧ (¬ p1 = 5 → ((p1 = 6 → (∃ (m28 : (Nat → Prop)) (m29 : Nat → Int32) (m30 : Nat), ((WF m29 ∧ m30 < 10 ∧ RelS S10 m28 b19 m29 m30) ∧ (P (dimF m29 m30 1) S10)))) ∧ (¬ p1 = 6 → ((p1 = 7 → (P (hI S10 127 b19) S10)) ∧ (¬ p1 = 7 → ((p1 = 8 → (P (hI S10 128 b19) S10)) ∧ (¬ p1 = 8 → ((1 ≤ (mc - cc1) ∧ 6 ≤ (ms - cc2)) ∧ X "java/lang/IllegalArgumentException" S10)))))))))))))))))))))))))
set_option maxRecDepth 100000 in
set_option maxHeartbeats 4000000 in
theorem t_X10_shipment {p : Program} {l : Launch} {e : Env} {s : State} {m : MethodId} {args : Array Value} {below : List Frame} {meth : Method} {c : Code} {D : va_G} {A : Nat → Prop} {T : Nat → ClassId} (C : GC p s m args meth c cX10_shipment "FreightRater" (ws_X10_shipment) 4 D A (zty T)) (E : GE T A s) (hst : l.stackTraces = false) (htab : ∀ z ∈ c.exceptionTable.toList, False) (hr : meth.sig.returnType = (some .int)) (P : Int32 → HS → Prop) (X : String → HS → Prop) : ∀ (x0 : Nat) (p0 : Int32) (p1 : Int32) (S0 S : HS) (mc ms : Nat) (L : List Nat), S0 = S → wt S → hL S L → (hK S x0 = 11) → wp_X10_shipment P X x0 p0 p1 S mc ms → GW p l e { rm_X10_shipment with cells := mc, slots := ms } s m args below meth c D A 4 mc ms (vx_MQ below (va_Qi (fun v (u : HS × List Nat) => P v u.1 ∧ CO S0 u) (CE D T A) A) (CXX D T A S0 X) args s mc ms A) (CW T S L) mc ms 0 [(0, .ref x0), (1, .int p0), (2, .int p1)] [] := by
  have hW : ∀ {w : Cond}, w ∈ W0 → w.before args s = true := fun h => C.2.2.2.2.1 _ (List.mem_cons_of_mem _ h)
  intro x0 p0 p1 S0 S mc ms L hS0 hw hL hx0 h
  have he : ext S0 S := by rw [hS0]; exact ext_rf
  unfold wp_X10_shipment at h
  refine g_aload_n C dX10_shipment_0 rfl 0 rfl ?_
  refine g_iload_n C dX10_shipment_1 rfl 1 rfl ?_
  obtain ⟨cc1, cc2, g3, h⟩ := h
  obtain ⟨m4, m5, m6, m7, m8, h⟩ := h
  obtain ⟨g9, h⟩ := h
  obtain ⟨g16, h⟩ := h
  refine gx_callqV (host := "") C E hw hL hx0 (by decide) (by decide) rfl [.int p0] rfl (k_X10_requireShipment l hst D T x0 p0 S m4 m5 m6 m7 m8 cc1 cc2 hx0 g9) (w0_V 1 C.2.2.2.2.1 kw_1134 kw_1136 ks_25 kw_1 kw_1137 rfl rfl (by decide +kernel) ⟨Nat.le_of_ble_eq_true rfl, Nat.le_of_ble_eq_true rfl⟩) rfl (Nat.le_of_ble_eq_true rfl) (Nat.le_refl _) (Nat.le_refl _) g3.1 g3.2 dX10_shipment_2 he htab g16 (fun o15 S10 L11 e12 w13 w14 ko15 hp => ?_)
  replace h := h o15 S10 e12 ko15 hp
  have g17 := ext_K e12 hx0 (by decide)
  have w18 := ext_tr he e12
  obtain ⟨b19, rfl, h⟩ := h
  have g20 : hK S10 b19 = 6 := ko15 b19 rfl
  replace h := h g20
  refine g_astore_n (lv' := [(3, .ref b19), (0, .ref x0), (1, .int p0), (2, .int p1)]) C dX10_shipment_5 rfl (by decide) rfl ?_
  refine g_iload_n C dX10_shipment_6 rfl 3 rfl ?_
  rcases Decidable.em (p1 = 0) with z21 | z21
  · refine g_tableIn (off := 49) (tgt := 56) C dX10_shipment_7 (by rw [z21]; decide) (by rw [z21]; decide) (by rw [z21]; decide) (by decide) ?_
    replace h := h.1 z21
    refine g_aload_n C dX10_shipment_56 rfl 0 rfl ?_
    refine gc_getI C iwx_X5 w14 g20 (by decide) (by decide) rfl 0 (by decide) (hW kw_1081) rfl rfl rfl dX10_shipment_57 ?_
    exact gx_iret C w13 w14 w18 hr dX10_shipment_60 h
  replace h := h.2 z21
  rcases Decidable.em (p1 = 1) with z22 | z22
  · refine g_tableIn (off := 54) (tgt := 61) C dX10_shipment_7 (by rw [z22]; decide) (by rw [z22]; decide) (by rw [z22]; decide) (by decide) ?_
    replace h := h.1 z22
    refine g_aload_n C dX10_shipment_61 rfl 0 rfl ?_
    refine gc_getI C iwx_X5 w14 g20 (by decide) (by decide) rfl 1 (by decide) (hW kw_1084) rfl rfl rfl dX10_shipment_62 ?_
    exact gx_iret C w13 w14 w18 hr dX10_shipment_65 h
  replace h := h.2 z22
  rcases Decidable.em (p1 = 2) with z23 | z23
  · refine g_tableIn (off := 59) (tgt := 66) C dX10_shipment_7 (by rw [z23]; decide) (by rw [z23]; decide) (by rw [z23]; decide) (by decide) ?_
    replace h := h.1 z23
    refine g_aload_n C dX10_shipment_66 rfl 0 rfl ?_
    refine gc_getI C iwx_X5 w14 g20 (by decide) (by decide) rfl 2 (by decide) (hW kw_1087) rfl rfl rfl dX10_shipment_67 ?_
    exact gx_iret C w13 w14 w18 hr dX10_shipment_70 h
  replace h := h.2 z23
  rcases Decidable.em (p1 = 3) with z24 | z24
  · refine g_tableIn (off := 64) (tgt := 71) C dX10_shipment_7 (by rw [z24]; decide) (by rw [z24]; decide) (by rw [z24]; decide) (by decide) ?_
    replace h := h.1 z24
    refine g_aload_n C dX10_shipment_71 rfl 0 rfl ?_
    refine gc_getI C iwx_X5 w14 g20 (by decide) (by decide) rfl 3 (by decide) (hW kw_1090) rfl rfl rfl dX10_shipment_72 ?_
    exact gx_iret C w13 w14 w18 hr dX10_shipment_75 h
  replace h := h.2 z24
  rcases Decidable.em (p1 = 4) with z25 | z25
  · refine g_tableIn (off := 69) (tgt := 76) C dX10_shipment_7 (by rw [z25]; decide) (by rw [z25]; decide) (by rw [z25]; decide) (by decide) ?_
    replace h := h.1 z25
    refine g_aload_n C dX10_shipment_76 rfl 0 rfl ?_
    refine gc_getI C iwx_X5 w14 g20 (by decide) (by decide) rfl 4 (by decide) (hW kw_1093) rfl rfl rfl dX10_shipment_77 ?_
    exact gx_iret C w13 w14 w18 hr dX10_shipment_80 h
  replace h := h.2 z25
  rcases Decidable.em (p1 = 5) with z26 | z26
  · refine g_tableIn (off := 74) (tgt := 81) C dX10_shipment_7 (by rw [z26]; decide) (by rw [z26]; decide) (by rw [z26]; decide) (by decide) ?_
    replace h := h.1 z26
    refine g_aload_n C dX10_shipment_81 rfl 0 rfl ?_
    refine gc_getI C iwx_X5 w14 g20 (by decide) (by decide) rfl 6 (by decide) (hW kw_1097) rfl rfl rfl dX10_shipment_82 ?_
    exact gx_iret C w13 w14 w18 hr dX10_shipment_85 h
  replace h := h.2 z26
  rcases Decidable.em (p1 = 6) with z27 | z27
  · refine g_tableIn (off := 79) (tgt := 86) C dX10_shipment_7 (by rw [z27]; decide) (by rw [z27]; decide) (by rw [z27]; decide) (by decide) ?_
    replace h := h.1 z27
    refine g_aload_n C dX10_shipment_86 rfl 0 rfl ?_
    obtain ⟨m28, m29, m30, h⟩ := h
    obtain ⟨g31, h⟩ := h
    refine gc_calliV (host := "") C E w13 w14 g20 (by decide) (by decide) rfl [] rfl (k_X5_volume l D T b19 S10 m28 m29 m30 g20 g31) (w0_V 0 C.2.2.2.2.1 kw_1180 kw_1181 kw_1182 kw_35 kw_1183 rfl rfl (by decide +kernel) ⟨Nat.le_of_ble_eq_true rfl, Nat.le_of_ble_eq_true rfl⟩) rfl (Nat.le_of_ble_eq_true rfl) (Nat.le_refl _) (Nat.le_refl _) (Nat.zero_le _) (Nat.zero_le _) dX10_shipment_87 (fun v9 S9 L32 he9 hw9 hL9 hp => ?_)
    obtain ⟨hv9, hs9⟩ := hp
    replace hs9 := hs9.symm
    subst hs9
    replace hv9 := hv9.symm
    subst hv9
    have w35 := hL9
    exact gx_iret C w13 w35 w18 hr dX10_shipment_90 h
  replace h := h.2 z27
  rcases Decidable.em (p1 = 7) with z36 | z36
  · refine g_tableIn (off := 84) (tgt := 91) C dX10_shipment_7 (by rw [z36]; decide) (by rw [z36]; decide) (by rw [z36]; decide) (by decide) ?_
    replace h := h.1 z36
    refine g_aload_n C dX10_shipment_91 rfl 0 rfl ?_
    refine gc_getI C iwx_X5 w14 g20 (by decide) (by decide) rfl 7 (by decide) (hW kw_1100) rfl rfl rfl dX10_shipment_92 ?_
    exact gx_iret C w13 w14 w18 hr dX10_shipment_95 h
  replace h := h.2 z36
  rcases Decidable.em (p1 = 8) with z37 | z37
  · refine g_tableIn (off := 89) (tgt := 96) C dX10_shipment_7 (by rw [z37]; decide) (by rw [z37]; decide) (by rw [z37]; decide) (by decide) ?_
    replace h := h.1 z37
    refine g_aload_n C dX10_shipment_96 rfl 0 rfl ?_
    refine gc_getI C iwx_X5 w14 g20 (by decide) (by decide) rfl 8 (by decide) (hW kw_1103) rfl rfl rfl dX10_shipment_97 ?_
    exact gx_iret C w13 w14 w18 hr dX10_shipment_100 h
  replace h := h.2 z37
  refine g_tableD (tgt := 101) C dX10_shipment_7 (by decide) (fun j hj => ?_) (by decide) ?_
  · rcases (show j = 0 ∨ j = 1 ∨ j = 2 ∨ j = 3 ∨ j = 4 ∨ j = 5 ∨ j = 6 ∨ j = 7 ∨ j = 8 by have hj2 : j < 9 := hj; omega) with rfl | rfl | rfl | rfl | rfl | rfl | rfl | rfl | rfl <;> first | exact Or.inr rfl | exact Or.inl (by first | exact lv_neT z21 rfl | exact lv_neT z22 rfl | exact lv_neT z23 rfl | exact lv_neT z24 rfl | exact lv_neT z25 rfl | exact lv_neT z26 rfl | exact lv_neT z27 rfl | exact lv_neT z36 rfl | exact lv_neT z37 rfl)
  obtain ⟨g38, h⟩ := h
  exact gx_throw (cls := "java/lang/IllegalArgumentException") (names := ["java/lang/RuntimeException", "java/lang/Exception"]) C E hst w13 w14 w18 (Nat.le_refl _) (Nat.le_refl _) (by decide) (by decide) (hW kw_310) (hW kw_13) (th_FreightRater_62 hW E) tv_FreightRater_62 dX10_shipment_101 dX10_shipment_104 dX10_shipment_105 dX10_shipment_108 htab (Nat.le_of_ble_eq_true rfl) (Nat.le_of_ble_eq_true rfl) g38.1 g38.2 h
theorem c_X10_shipment (l : Launch) (hst : l.stackTraces = false) (D : va_G) (T : Nat → ClassId) (x0 : Nat) (p0 : Int32) (p1 : Int32) (S : HS) (mc ms : Nat) (hx0 : hK S x0 = 11) (P : Int32 → HS → Prop) (X : String → HS → Prop) (h : wp_X10_shipment P X x0 p0 p1 S mc ms) : CXi l yX10_shipment (ws_X10_shipment) rm_X10_shipment D T [.ref x0, .int p0, .int p1] S mc ms P X := gx_meti (by decide) rfl rfl (Nat.le_of_ble_eq_true rfl) (fun p e s m args below meth c A L C E hnm hr htab hw hL => t_X10_shipment C E hst htab hr P X x0 p0 p1 S S mc ms L rfl hw hL hx0 h)
def wp_X10_account (P : Int32 → HS → Prop) (X : String → HS → Prop) (x0 : Nat) (p0 : Int32) (S : HS) (mc ms : Nat) : Prop := (¬ (zin p0 0 6) = 0 → ((p0 = 4 → (∃ b8 : Nat, hR S 220 x0 = some b8 ∧ (hK S b8 = 7 → (∃ (m10 : (Nat → Prop)) (m11 : Nat → Int32), ((WF m11 ∧ RelSt S m10 b8 m11) ∧ (P (accF m11 4) S)))))) ∧ (¬ p0 = 4 → ((p0 = 5 → (∃ b19 : Nat, hR S 220 x0 = some b19 ∧ (hK S b19 = 7 → (P (hI S 147 b19) S)))) ∧ (¬ p0 = 5 → ((p0 = 6 → (∃ b23 : Nat, hR S 220 x0 = some b23 ∧ (hK S b23 = 7 → (∃ (m25 : (Nat → Prop)) (m26 : Nat → Int32), ((WF m26 ∧ RelSt S m25 b23 m26) ∧ (P (posF m26) S)))))) ∧ (¬ p0 = 6 → (∃ b33 : Nat, hR S 220 x0 = some b33 ∧ (hK S b33 = 7 → (∃ (m35 : (Nat → Prop)) (m36 : Nat → Int32), ((WF m36 ∧ RelSt S m35 b33 m36 ∧ ¬ p0 = (4 : Int32)) ∧ (P (accF m36 p0) S)))))))))))) ∧ ((zin p0 0 6) = 0 → ((1 ≤ mc ∧ 6 ≤ ms) ∧ X "java/lang/IllegalArgumentException" S))
set_option maxRecDepth 100000 in
set_option maxHeartbeats 4000000 in
theorem t_X10_account {p : Program} {l : Launch} {e : Env} {s : State} {m : MethodId} {args : Array Value} {below : List Frame} {meth : Method} {c : Code} {D : va_G} {A : Nat → Prop} {T : Nat → ClassId} (C : GC p s m args meth c cX10_account "FreightRater" (ws_X10_account) 2 D A (zty T)) (E : GE T A s) (hst : l.stackTraces = false) (htab : ∀ z ∈ c.exceptionTable.toList, False) (hr : meth.sig.returnType = (some .int)) (P : Int32 → HS → Prop) (X : String → HS → Prop) : ∀ (x0 : Nat) (p0 : Int32) (S0 S : HS) (mc ms : Nat) (L : List Nat), S0 = S → wt S → hL S L → (hK S x0 = 11) → wp_X10_account P X x0 p0 S mc ms → GW p l e { rm_X10_account with cells := mc, slots := ms } s m args below meth c D A 2 mc ms (vx_MQ below (va_Qi (fun v (u : HS × List Nat) => P v u.1 ∧ CO S0 u) (CE D T A) A) (CXX D T A S0 X) args s mc ms A) (CW T S L) mc ms 0 [(0, .ref x0), (1, .int p0)] [] := by
  have hW : ∀ {w : Cond}, w ∈ W0 → w.before args s = true := fun h => C.2.2.2.2.1 _ (List.mem_cons_of_mem _ h)
  intro x0 p0 S0 S mc ms L hS0 hw hL hx0 h
  have he : ext S0 S := by rw [hS0]; exact ext_rf
  unfold wp_X10_account at h
  refine g_iload_n C dX10_account_0 rfl 1 rfl ?_
  refine g_iconst (v := 0) C dX10_account_1 (by decide) ?_
  refine g_bipush (v := 6) C dX10_account_2 (by decide) ?_
  refine gc_calliS (host := "") C E hw hL [.int p0, .int 0, .int 6] rfl (k_X10_isBetween l D T p0 0 6 S ) (w0_S 3 C.2.2.2.2.1 kw_303 kw_304 kw_1 kw_305 rfl rfl (by decide +kernel) ⟨Nat.le_of_ble_eq_true rfl, Nat.le_of_ble_eq_true rfl⟩) rfl (Nat.le_of_ble_eq_true rfl) (Nat.le_refl _) (Nat.le_refl _) (Nat.zero_le _) (Nat.zero_le _) dX10_account_4 (fun v9 S9 L1 he9 hw9 hL9 hp => ?_)
  obtain ⟨hv9, hs9⟩ := hp
  replace hs9 := hs9.symm
  subst hs9
  replace hv9 := hv9.symm
  subst hv9
  have w4 := hL9
  refine g_if_ne (tgt := 18) C dX10_account_7 (by decide) (fun z5 => ?_) (fun z5 => ?_)
  · replace h := h.1 z5
    refine g_iload_n C dX10_account_18 rfl 1 rfl ?_
    rcases Decidable.em (p0 = 4) with z6 | z6
    · refine g_tableIn (off := 25) (tgt := 44) C dX10_account_19 (by rw [z6]; decide) (by rw [z6]; decide) (by rw [z6]; decide) (by decide) ?_
      replace h := h.1 z6
      refine g_aload_n C dX10_account_44 rfl 0 rfl ?_
      refine gc_getR C hw iwx_X10 w4 hx0 (by decide) (by decide) rfl 0 (by decide) (hW kw_242) rfl rfl rfl dX10_account_45 (fun o7 eo7 ko7 => ?_)
      obtain ⟨b8, hb9, h⟩ := h
      have g9 : hK S b8 = 7 := ko7 b8 (eo7.trans hb9)
      replace h := h g9
      refine g_opt (eo7.trans hb9) ?_
      obtain ⟨m10, m11, h⟩ := h
      obtain ⟨g12, h⟩ := h
      refine gc_calliV (host := "") C E hw w4 g9 (by decide) (by decide) rfl [] rfl (k_X6_sumOfAccounts l D T b8 S m10 m11 g9 g12) (w0_V 0 C.2.2.2.2.1 kw_1449 kw_1450 kw_1451 kw_2 kw_1452 rfl rfl (by decide +kernel) ⟨Nat.le_of_ble_eq_true rfl, Nat.le_of_ble_eq_true rfl⟩) rfl (Nat.le_of_ble_eq_true rfl) (Nat.le_refl _) (Nat.le_refl _) (Nat.zero_le _) (Nat.zero_le _) dX10_account_48 (fun v9 S9 L13 he9 hw9 hL9 hp => ?_)
      obtain ⟨hv9, hs9⟩ := hp
      replace hs9 := hs9.symm
      subst hs9
      replace hv9 := hv9.symm
      subst hv9
      have w16 := hL9
      exact gx_iret C hw w16 he hr dX10_account_51 h
    replace h := h.2 z6
    rcases Decidable.em (p0 = 5) with z17 | z17
    · refine g_tableIn (off := 33) (tgt := 52) C dX10_account_19 (by rw [z17]; decide) (by rw [z17]; decide) (by rw [z17]; decide) (by decide) ?_
      replace h := h.1 z17
      refine g_aload_n C dX10_account_52 rfl 0 rfl ?_
      refine gc_getR C hw iwx_X10 w4 hx0 (by decide) (by decide) rfl 0 (by decide) (hW kw_242) rfl rfl rfl dX10_account_53 (fun o18 eo18 ko18 => ?_)
      obtain ⟨b19, hb9, h⟩ := h
      have g20 : hK S b19 = 7 := ko18 b19 (eo18.trans hb9)
      replace h := h g20
      refine g_opt (eo18.trans hb9) ?_
      refine gc_getI C iwx_X6 w4 g20 (by decide) (by decide) rfl 7 (by decide) (hW kw_73) rfl rfl rfl dX10_account_56 ?_
      exact gx_iret C hw w4 he hr dX10_account_59 h
    replace h := h.2 z17
    rcases Decidable.em (p0 = 6) with z21 | z21
    · refine g_tableIn (off := 41) (tgt := 60) C dX10_account_19 (by rw [z21]; decide) (by rw [z21]; decide) (by rw [z21]; decide) (by decide) ?_
      replace h := h.1 z21
      refine g_aload_n C dX10_account_60 rfl 0 rfl ?_
      refine gc_getR C hw iwx_X10 w4 hx0 (by decide) (by decide) rfl 0 (by decide) (hW kw_242) rfl rfl rfl dX10_account_61 (fun o22 eo22 ko22 => ?_)
      obtain ⟨b23, hb9, h⟩ := h
      have g24 : hK S b23 = 7 := ko22 b23 (eo22.trans hb9)
      replace h := h g24
      refine g_opt (eo22.trans hb9) ?_
      obtain ⟨m25, m26, h⟩ := h
      obtain ⟨g27, h⟩ := h
      refine gc_calliV (host := "") C E hw w4 g24 (by decide) (by decide) rfl [] rfl (k_X6_postedSet l D T b23 S m25 m26 g24 g27) (w0_V 0 C.2.2.2.2.1 kw_1433 kw_1434 kw_1435 kw_2 kw_1436 rfl rfl (by decide +kernel) ⟨Nat.le_of_ble_eq_true rfl, Nat.le_of_ble_eq_true rfl⟩) rfl (Nat.le_of_ble_eq_true rfl) (Nat.le_refl _) (Nat.le_refl _) (Nat.zero_le _) (Nat.zero_le _) dX10_account_64 (fun v9 S9 L28 he9 hw9 hL9 hp => ?_)
      obtain ⟨hv9, hs9⟩ := hp
      replace hs9 := hs9.symm
      subst hs9
      replace hv9 := hv9.symm
      subst hv9
      have w31 := hL9
      exact gx_iret C hw w31 he hr dX10_account_67 h
    replace h := h.2 z21
    refine g_tableD (tgt := 68) C dX10_account_19 (by decide) (fun j hj => ?_) (by decide) ?_
    · rcases (show j = 0 ∨ j = 1 ∨ j = 2 by have hj2 : j < 3 := hj; omega) with rfl | rfl | rfl <;> first | exact Or.inr rfl | exact Or.inl (by first | exact lv_neT z6 rfl | exact lv_neT z17 rfl | exact lv_neT z21 rfl)
    refine g_aload_n C dX10_account_68 rfl 0 rfl ?_
    refine gc_getR C hw iwx_X10 w4 hx0 (by decide) (by decide) rfl 0 (by decide) (hW kw_242) rfl rfl rfl dX10_account_69 (fun o32 eo32 ko32 => ?_)
    obtain ⟨b33, hb9, h⟩ := h
    have g34 : hK S b33 = 7 := ko32 b33 (eo32.trans hb9)
    replace h := h g34
    refine g_opt (eo32.trans hb9) ?_
    refine g_iload_n C dX10_account_72 rfl 1 rfl ?_
    obtain ⟨m35, m36, h⟩ := h
    obtain ⟨g37, h⟩ := h
    refine gc_calliV (host := "") C E hw w4 g34 (by decide) (by decide) rfl [.int p0] rfl (k_X6_accountOf l D T b33 p0 S m35 m36 g34 g37) (w0_V 1 C.2.2.2.2.1 kw_1457 kw_1454 kw_1455 kw_2 kw_1456 rfl rfl (by decide +kernel) ⟨Nat.le_of_ble_eq_true rfl, Nat.le_of_ble_eq_true rfl⟩) rfl (Nat.le_of_ble_eq_true rfl) (Nat.le_refl _) (Nat.le_refl _) (Nat.zero_le _) (Nat.zero_le _) dX10_account_73 (fun v9 S9 L38 he9 hw9 hL9 hp => ?_)
    obtain ⟨hv9, hs9⟩ := hp
    replace hs9 := hs9.symm
    subst hs9
    replace hv9 := hv9.symm
    subst hv9
    have w41 := hL9
    exact gx_iret C hw w41 he hr dX10_account_76 h
  · replace h := h.2 z5
    obtain ⟨g42, h⟩ := h
    exact gx_throw (cls := "java/lang/IllegalArgumentException") (names := ["java/lang/RuntimeException", "java/lang/Exception"]) C E hst hw w4 he (Nat.le_refl _) (Nat.le_refl _) (by decide) (by decide) (hW kw_310) (hW kw_13) (th_FreightRater_62 hW E) tv_FreightRater_62 dX10_account_10 dX10_account_13 dX10_account_14 dX10_account_17 htab (Nat.le_of_ble_eq_true rfl) (Nat.le_of_ble_eq_true rfl) g42.1 g42.2 h
theorem c_X10_account (l : Launch) (hst : l.stackTraces = false) (D : va_G) (T : Nat → ClassId) (x0 : Nat) (p0 : Int32) (S : HS) (mc ms : Nat) (hx0 : hK S x0 = 11) (P : Int32 → HS → Prop) (X : String → HS → Prop) (h : wp_X10_account P X x0 p0 S mc ms) : CXi l yX10_account (ws_X10_account) rm_X10_account D T [.ref x0, .int p0] S mc ms P X := gx_meti (by decide) rfl rfl (Nat.le_of_ble_eq_true rfl) (fun p e s m args below meth c A L C E hnm hr htab hw hL => t_X10_account C E hst htab hr P X x0 p0 S S mc ms L rfl hw hL hx0 h)
def wp_X10_rate (P : Int32 → HS → Prop) (X : String → HS → Prop) (x0 : Nat) (p0 : Int32) (S : HS) (mc ms : Nat) : Prop := ∃ cc1 cc2 : Nat, (cc1 ≤ mc ∧ cc2 ≤ ms) ∧ (∃ (m4 : (Nat → Nat)) (m5 : (Nat → Nat → Int32)) (m6 : (Nat → Int32)) (m7 : (Nat → Int32)) (m8 : (List Int32)), ((FrS S m4 m5 m6 m7 m8 ∧ x0 = m4 50 ∧ 1 ≤ cc1 ∧ 6 ≤ cc2) ∧ ((∀ (E9 : String) (S9 : HS), ext S S9 → (grpF (m5 0) p0 = 0 ∧ E9 = "java/lang/IndexOutOfBoundsException" ∧ S9 = S) → X E9 S9) ∧ (∀ (S10 : HS), ext S S10 → (grpF (m5 0) p0 = 1 ∧ S10 = S) → (∃ b19 : Nat, hR S10 232 x0 = some b19 ∧ (hK S10 b19 = 3 → (∃ b22 : Nat, hR S10 220 x0 = some b22 ∧ (hK S10 b22 = 7 → (∃ (m24 : (Nat → Prop)) (m25 : Nat → Int32), ((WF m25 ∧ WFR m25 ∧ RelSt S10 m24 b22 m25 ∧ RtO S10 m24 b19 b22 ∧ gok m25 p0) ∧ (∀ (S27 : HS), ext S10 S27 → (frR S10 S27 b19 ∧ wkP S27 b19 m25 (iv p0)) → (∃ b35 : Nat, hR S27 232 x0 = some b35 ∧ (hK S27 b35 = 3 → (((hI S27 63 b35) = 0 → (∃ b39 : Nat, hR S27 232 x0 = some b39 ∧ (hK S27 b39 = 3 → (P (hI S27 71 b39 + hI S27 74 b39 + hI S27 76 b39 + hI S27 77 b39) S27)))) ∧ (¬ (hI S27 63 b35) = 0 → (∃ (m45 : (Nat → Nat)) (m46 : (Nat → Nat → Int32)) (m47 : (Nat → Int32)) (m48 : (Nat → Int32)) (m49 : (List Int32)), ((FrS S27 m45 m46 m47 m48 m49 ∧ x0 = m45 50) ∧ (∀ (S51 : HS), ext S27 S51 → (FrS S51 m45 m46 (kpG m47 (hI S27 63 (m45 54)) (hI S27 64 (m45 54))) m48 m49) → ((1 ≤ (mc - cc1) ∧ 6 ≤ (ms - cc2)) ∧ X "java/lang/IllegalStateException" S51)))))))))))))))))))
set_option maxRecDepth 100000 in
set_option maxHeartbeats 4000000 in
theorem t_X10_rate {p : Program} {l : Launch} {e : Env} {s : State} {m : MethodId} {args : Array Value} {below : List Frame} {meth : Method} {c : Code} {D : va_G} {A : Nat → Prop} {T : Nat → ClassId} (C : GC p s m args meth c cX10_rate "FreightRater" (ws_X10_rate) 2 D A (zty T)) (E : GE T A s) (hst : l.stackTraces = false) (htab : ∀ z ∈ c.exceptionTable.toList, False) (hr : meth.sig.returnType = (some .int)) (P : Int32 → HS → Prop) (X : String → HS → Prop) : ∀ (x0 : Nat) (p0 : Int32) (S0 S : HS) (mc ms : Nat) (L : List Nat), S0 = S → wt S → hL S L → (hK S x0 = 11) → wp_X10_rate P X x0 p0 S mc ms → GW p l e { rm_X10_rate with cells := mc, slots := ms } s m args below meth c D A 2 mc ms (vx_MQ below (va_Qi (fun v (u : HS × List Nat) => P v u.1 ∧ CO S0 u) (CE D T A) A) (CXX D T A S0 X) args s mc ms A) (CW T S L) mc ms 0 [(0, .ref x0), (1, .int p0)] [] := by
  have hW : ∀ {w : Cond}, w ∈ W0 → w.before args s = true := fun h => C.2.2.2.2.1 _ (List.mem_cons_of_mem _ h)
  intro x0 p0 S0 S mc ms L hS0 hw hL hx0 h
  have he : ext S0 S := by rw [hS0]; exact ext_rf
  unfold wp_X10_rate at h
  refine g_aload_n C dX10_rate_0 rfl 0 rfl ?_
  refine g_iload_n C dX10_rate_1 rfl 1 rfl ?_
  obtain ⟨cc1, cc2, g3, h⟩ := h
  obtain ⟨m4, m5, m6, m7, m8, h⟩ := h
  obtain ⟨g9, h⟩ := h
  obtain ⟨g15, h⟩ := h
  refine gx_callvV (host := "") C E hw hL hx0 (by decide) (by decide) rfl [.int p0] rfl (k_X10_requireGroup l hst D T x0 p0 S m4 m5 m6 m7 m8 cc1 cc2 hx0 g9) (w0_V 1 C.2.2.2.2.1 kw_1191 kw_1193 ks_26 kw_1 kw_1194 rfl rfl (by decide +kernel) ⟨Nat.le_of_ble_eq_true rfl, Nat.le_of_ble_eq_true rfl⟩) rfl (Nat.le_of_ble_eq_true rfl) (Nat.le_refl _) (Nat.le_refl _) g3.1 g3.2 dX10_rate_2 he htab g15 (fun S10 L11 e12 w13 w14 hp => ?_)
  replace h := h S10 e12 hp
  have g16 := ext_K e12 hx0 (by decide)
  have w17 := ext_tr he e12
  refine g_aload_n C dX10_rate_5 rfl 0 rfl ?_
  refine gc_getR C w13 iwx_X10 w14 g16 (by decide) (by decide) rfl 12 (by decide) (hW kw_254) rfl rfl rfl dX10_rate_6 (fun o18 eo18 ko18 => ?_)
  obtain ⟨b19, hb9, h⟩ := h
  have g20 : hK S10 b19 = 3 := ko18 b19 (eo18.trans hb9)
  replace h := h g20
  refine g_opt (eo18.trans hb9) ?_
  refine g_aload_n C dX10_rate_9 rfl 0 rfl ?_
  refine gc_getR C w13 iwx_X10 w14 g16 (by decide) (by decide) rfl 0 (by decide) (hW kw_242) rfl rfl rfl dX10_rate_10 (fun o21 eo21 ko21 => ?_)
  obtain ⟨b22, hb9, h⟩ := h
  have g23 : hK S10 b22 = 7 := ko21 b22 (eo21.trans hb9)
  replace h := h g23
  refine g_opt (eo21.trans hb9) ?_
  refine g_iload_n C dX10_rate_13 rfl 1 rfl ?_
  obtain ⟨m24, m25, h⟩ := h
  obtain ⟨g26, h⟩ := h
  refine gc_callvV (host := "") C E w13 w14 g20 (by decide) (by decide) rfl [.ref b22, .int p0] rfl (k_X2_work l D T b19 b22 p0 S10 m24 m25 g20 g23 g26) (w0_V 2 C.2.2.2.2.1 kw_1195 kw_1196 kw_1197 kw_7 kw_1198 rfl rfl (by decide +kernel) ⟨Nat.le_of_ble_eq_true rfl, Nat.le_of_ble_eq_true rfl⟩) rfl (Nat.le_of_ble_eq_true rfl) (Nat.le_refl _) (Nat.le_refl _) (Nat.zero_le _) (Nat.zero_le _) dX10_rate_14 (fun S27 L28 e29 w30 w31 hp => ?_)
  replace h := h S27 e29 hp
  have g32 := ext_K e29 g16 (by decide)
  have w33 := ext_tr w17 e29
  refine g_aload_n C dX10_rate_17 rfl 0 rfl ?_
  refine gc_getR C w30 iwx_X10 w31 g32 (by decide) (by decide) rfl 12 (by decide) (hW kw_254) rfl rfl rfl dX10_rate_18 (fun o34 eo34 ko34 => ?_)
  obtain ⟨b35, hb9, h⟩ := h
  have g36 : hK S27 b35 = 3 := ko34 b35 (eo34.trans hb9)
  replace h := h g36
  refine g_opt (eo34.trans hb9) ?_
  refine gc_getI C iwx_X2 w31 g36 (by decide) (by decide) rfl 3 (by decide) (hW kw_139) rfl rfl rfl dX10_rate_21 ?_
  refine g_if_eq (tgt := 39) C dX10_rate_24 (by decide) (fun z37 => ?_) (fun z37 => ?_)
  · replace h := h.1 z37
    refine g_aload_n C dX10_rate_39 rfl 0 rfl ?_
    refine gc_getR C w30 iwx_X10 w31 g32 (by decide) (by decide) rfl 12 (by decide) (hW kw_254) rfl rfl rfl dX10_rate_40 (fun o38 eo38 ko38 => ?_)
    obtain ⟨b39, hb9, h⟩ := h
    have g40 : hK S27 b39 = 3 := ko38 b39 (eo38.trans hb9)
    replace h := h g40
    refine g_opt (eo38.trans hb9) ?_
    refine gc_calliV (host := "") C E w30 w31 g40 (by decide) (by decide) rfl [] rfl (k_X2_total l D T b39 S27 g40) (w0_V 0 C.2.2.2.2.1 kw_1287 kw_1288 kw_1289 kw_7 kw_1290 rfl rfl (by decide +kernel) ⟨Nat.le_of_ble_eq_true rfl, Nat.le_of_ble_eq_true rfl⟩) rfl (Nat.le_of_ble_eq_true rfl) (Nat.le_refl _) (Nat.le_refl _) (Nat.zero_le _) (Nat.zero_le _) dX10_rate_43 (fun v9 S9 L41 he9 hw9 hL9 hp => ?_)
    obtain ⟨hv9, hs9⟩ := hp
    replace hs9 := hs9.symm
    subst hs9
    replace hv9 := hv9.symm
    subst hv9
    have w44 := hL9
    exact gx_iret C w30 w44 w33 hr dX10_rate_46 h
  · replace h := h.2 z37
    refine g_aload_n C dX10_rate_27 rfl 0 rfl ?_
    obtain ⟨m45, m46, m47, m48, m49, h⟩ := h
    obtain ⟨g50, h⟩ := h
    refine gc_callvV (host := "") C E w30 w31 g32 (by decide) (by decide) rfl [] rfl (k_X10_keepReason l D T x0 S27 m45 m46 m47 m48 m49 g32 g50) (w0_V 0 C.2.2.2.2.1 kw_1283 kw_1285 ks_38 kw_1 kw_1286 rfl rfl (by decide +kernel) ⟨Nat.le_of_ble_eq_true rfl, Nat.le_of_ble_eq_true rfl⟩) rfl (Nat.le_of_ble_eq_true rfl) (Nat.le_refl _) (Nat.le_refl _) (Nat.zero_le _) (Nat.zero_le _) dX10_rate_28 (fun S51 L52 e53 w54 w55 hp => ?_)
    replace h := h S51 e53 hp
    have g56 := ext_K e53 g32 (by decide)
    have w57 := ext_tr w33 e53
    obtain ⟨g58, h⟩ := h
    exact gx_throw (cls := "java/lang/IllegalStateException") (names := ["java/lang/RuntimeException", "java/lang/Exception"]) C E hst w54 w55 w57 (Nat.le_refl _) (Nat.le_refl _) (by decide) (by decide) (hW kw_480) (hW kw_17) (th_FreightRater_78 hW E) tv_FreightRater_78 dX10_rate_31 dX10_rate_34 dX10_rate_35 dX10_rate_38 htab (Nat.le_of_ble_eq_true rfl) (Nat.le_of_ble_eq_true rfl) g58.1 g58.2 h
theorem c_X10_rate (l : Launch) (hst : l.stackTraces = false) (D : va_G) (T : Nat → ClassId) (x0 : Nat) (p0 : Int32) (S : HS) (mc ms : Nat) (hx0 : hK S x0 = 11) (P : Int32 → HS → Prop) (X : String → HS → Prop) (h : wp_X10_rate P X x0 p0 S mc ms) : CXi l yX10_rate (ws_X10_rate) rm_X10_rate D T [.ref x0, .int p0] S mc ms P X := gx_meti (by decide) rfl rfl (Nat.le_of_ble_eq_true rfl) (fun p e s m args below meth c A L C E hnm hr htab hw hL => t_X10_rate C E hst htab hr P X x0 p0 S S mc ms L rfl hw hL hx0 h)
def wp_X10_refuses (P : Int32 → HS → Prop) (X : String → HS → Prop) (x0 : Nat) (p0 : Int32) (S : HS) (mc ms : Nat) : Prop := ∃ cc1 cc2 : Nat, (cc1 ≤ mc ∧ cc2 ≤ ms) ∧ (∃ (m4 : (Nat → Nat)) (m5 : (Nat → Nat → Int32)) (m6 : (Nat → Int32)) (m7 : (Nat → Int32)) (m8 : (List Int32)), ((FrS S m4 m5 m6 m7 m8 ∧ x0 = m4 50 ∧ 1 ≤ cc1 ∧ 6 ≤ cc2) ∧ ((∀ (E9 : String) (S9 : HS), ext S S9 → (grpF (m5 0) p0 = 0 ∧ E9 = "java/lang/IndexOutOfBoundsException" ∧ S9 = S) → X E9 S9) ∧ (∀ (S10 : HS), ext S S10 → (grpF (m5 0) p0 = 1 ∧ S10 = S) → (∃ b19 : Nat, hR S10 232 x0 = some b19 ∧ (hK S10 b19 = 3 → (∃ b22 : Nat, hR S10 220 x0 = some b22 ∧ (hK S10 b22 = 7 → (∃ (m24 : (Nat → Prop)) (m25 : Nat → Int32), ((WF m25 ∧ WFR m25 ∧ RelSt S10 m24 b22 m25 ∧ RtO S10 m24 b19 b22 ∧ gok m25 p0) ∧ (∀ (S27 : HS), ext S10 S27 → (frR S10 S27 b19 ∧ wkP S27 b19 m25 (iv p0)) → (∃ b35 : Nat, hR S27 232 x0 = some b35 ∧ (hK S27 b35 = 3 → (P (hI S27 63 b35) S27))))))))))))))
set_option maxRecDepth 100000 in
set_option maxHeartbeats 4000000 in
theorem t_X10_refuses {p : Program} {l : Launch} {e : Env} {s : State} {m : MethodId} {args : Array Value} {below : List Frame} {meth : Method} {c : Code} {D : va_G} {A : Nat → Prop} {T : Nat → ClassId} (C : GC p s m args meth c cX10_refuses "FreightRater" (ws_X10_refuses) 2 D A (zty T)) (E : GE T A s) (hst : l.stackTraces = false) (htab : ∀ z ∈ c.exceptionTable.toList, False) (hr : meth.sig.returnType = (some .int)) (P : Int32 → HS → Prop) (X : String → HS → Prop) : ∀ (x0 : Nat) (p0 : Int32) (S0 S : HS) (mc ms : Nat) (L : List Nat), S0 = S → wt S → hL S L → (hK S x0 = 11) → wp_X10_refuses P X x0 p0 S mc ms → GW p l e { rm_X10_refuses with cells := mc, slots := ms } s m args below meth c D A 2 mc ms (vx_MQ below (va_Qi (fun v (u : HS × List Nat) => P v u.1 ∧ CO S0 u) (CE D T A) A) (CXX D T A S0 X) args s mc ms A) (CW T S L) mc ms 0 [(0, .ref x0), (1, .int p0)] [] := by
  have hW : ∀ {w : Cond}, w ∈ W0 → w.before args s = true := fun h => C.2.2.2.2.1 _ (List.mem_cons_of_mem _ h)
  intro x0 p0 S0 S mc ms L hS0 hw hL hx0 h
  have he : ext S0 S := by rw [hS0]; exact ext_rf
  unfold wp_X10_refuses at h
  refine g_aload_n C dX10_refuses_0 rfl 0 rfl ?_
  refine g_iload_n C dX10_refuses_1 rfl 1 rfl ?_
  obtain ⟨cc1, cc2, g3, h⟩ := h
  obtain ⟨m4, m5, m6, m7, m8, h⟩ := h
  obtain ⟨g9, h⟩ := h
  obtain ⟨g15, h⟩ := h
  refine gx_callvV (host := "") C E hw hL hx0 (by decide) (by decide) rfl [.int p0] rfl (k_X10_requireGroup l hst D T x0 p0 S m4 m5 m6 m7 m8 cc1 cc2 hx0 g9) (w0_V 1 C.2.2.2.2.1 kw_1191 kw_1193 ks_26 kw_1 kw_1194 rfl rfl (by decide +kernel) ⟨Nat.le_of_ble_eq_true rfl, Nat.le_of_ble_eq_true rfl⟩) rfl (Nat.le_of_ble_eq_true rfl) (Nat.le_refl _) (Nat.le_refl _) g3.1 g3.2 dX10_refuses_2 he htab g15 (fun S10 L11 e12 w13 w14 hp => ?_)
  replace h := h S10 e12 hp
  have g16 := ext_K e12 hx0 (by decide)
  have w17 := ext_tr he e12
  refine g_aload_n C dX10_refuses_5 rfl 0 rfl ?_
  refine gc_getR C w13 iwx_X10 w14 g16 (by decide) (by decide) rfl 12 (by decide) (hW kw_254) rfl rfl rfl dX10_refuses_6 (fun o18 eo18 ko18 => ?_)
  obtain ⟨b19, hb9, h⟩ := h
  have g20 : hK S10 b19 = 3 := ko18 b19 (eo18.trans hb9)
  replace h := h g20
  refine g_opt (eo18.trans hb9) ?_
  refine g_aload_n C dX10_refuses_9 rfl 0 rfl ?_
  refine gc_getR C w13 iwx_X10 w14 g16 (by decide) (by decide) rfl 0 (by decide) (hW kw_242) rfl rfl rfl dX10_refuses_10 (fun o21 eo21 ko21 => ?_)
  obtain ⟨b22, hb9, h⟩ := h
  have g23 : hK S10 b22 = 7 := ko21 b22 (eo21.trans hb9)
  replace h := h g23
  refine g_opt (eo21.trans hb9) ?_
  refine g_iload_n C dX10_refuses_13 rfl 1 rfl ?_
  obtain ⟨m24, m25, h⟩ := h
  obtain ⟨g26, h⟩ := h
  refine gc_callvV (host := "") C E w13 w14 g20 (by decide) (by decide) rfl [.ref b22, .int p0] rfl (k_X2_work l D T b19 b22 p0 S10 m24 m25 g20 g23 g26) (w0_V 2 C.2.2.2.2.1 kw_1195 kw_1196 kw_1197 kw_7 kw_1198 rfl rfl (by decide +kernel) ⟨Nat.le_of_ble_eq_true rfl, Nat.le_of_ble_eq_true rfl⟩) rfl (Nat.le_of_ble_eq_true rfl) (Nat.le_refl _) (Nat.le_refl _) (Nat.zero_le _) (Nat.zero_le _) dX10_refuses_14 (fun S27 L28 e29 w30 w31 hp => ?_)
  replace h := h S27 e29 hp
  have g32 := ext_K e29 g16 (by decide)
  have w33 := ext_tr w17 e29
  refine g_aload_n C dX10_refuses_17 rfl 0 rfl ?_
  refine gc_getR C w30 iwx_X10 w31 g32 (by decide) (by decide) rfl 12 (by decide) (hW kw_254) rfl rfl rfl dX10_refuses_18 (fun o34 eo34 ko34 => ?_)
  obtain ⟨b35, hb9, h⟩ := h
  have g36 : hK S27 b35 = 3 := ko34 b35 (eo34.trans hb9)
  replace h := h g36
  refine g_opt (eo34.trans hb9) ?_
  refine gc_getI C iwx_X2 w31 g36 (by decide) (by decide) rfl 3 (by decide) (hW kw_139) rfl rfl rfl dX10_refuses_21 ?_
  exact gx_iret C w30 w31 w33 hr dX10_refuses_24 h
theorem c_X10_refuses (l : Launch) (hst : l.stackTraces = false) (D : va_G) (T : Nat → ClassId) (x0 : Nat) (p0 : Int32) (S : HS) (mc ms : Nat) (hx0 : hK S x0 = 11) (P : Int32 → HS → Prop) (X : String → HS → Prop) (h : wp_X10_refuses P X x0 p0 S mc ms) : CXi l yX10_refuses (ws_X10_refuses) rm_X10_refuses D T [.ref x0, .int p0] S mc ms P X := gx_meti (by decide) rfl rfl (Nat.le_of_ble_eq_true rfl) (fun p e s m args below meth c A L C E hnm hr htab hw hL => t_X10_refuses C E hst htab hr P X x0 p0 S S mc ms L rfl hw hL hx0 h)
def wp_X10_requireRated (P : HS → Prop) (X : String → HS → Prop) (x0 : Nat) (p0 : Int32) (S : HS) (mc ms : Nat) : Prop := ∃ b2 : Nat, hR S 232 x0 = some b2 ∧ (hK S b2 = 3 → (∃ b5 : Nat, hR S 220 x0 = some b5 ∧ (hK S b5 = 7 → (∃ (m7 : (Nat → Prop)) (m8 : Nat → Int32), ((WF m8 ∧ WFR m8 ∧ RelSt S m7 b5 m8 ∧ RtO S m7 b2 b5 ∧ gok m8 p0) ∧ (∀ (S10 : HS), ext S S10 → (frR S S10 b2 ∧ wkP S10 b2 m8 (iv p0)) → (∃ b18 : Nat, hR S10 232 x0 = some b18 ∧ (hK S10 b18 = 3 → (((hI S10 63 b18) = 0 → (P S10)) ∧ (¬ (hI S10 63 b18) = 0 → ((1 ≤ mc ∧ 6 ≤ ms) ∧ X "java/lang/IllegalStateException" S10)))))))))))
set_option maxRecDepth 100000 in
set_option maxHeartbeats 4000000 in
theorem t_X10_requireRated {p : Program} {l : Launch} {e : Env} {s : State} {m : MethodId} {args : Array Value} {below : List Frame} {meth : Method} {c : Code} {D : va_G} {A : Nat → Prop} {T : Nat → ClassId} (C : GC p s m args meth c cX10_requireRated "FreightRater" (ws_X10_requireRated) 2 D A (zty T)) (E : GE T A s) (hst : l.stackTraces = false) (htab : ∀ z ∈ c.exceptionTable.toList, False) (hr : meth.sig.returnType = none) (P : HS → Prop) (X : String → HS → Prop) : ∀ (x0 : Nat) (p0 : Int32) (S0 S : HS) (mc ms : Nat) (L : List Nat), S0 = S → wt S → hL S L → (hK S x0 = 11) → wp_X10_requireRated P X x0 p0 S mc ms → GW p l e { rm_X10_requireRated with cells := mc, slots := ms } s m args below meth c D A 2 mc ms (vx_MQ below (va_Qv (fun (u : HS × List Nat) => P u.1 ∧ CO S0 u) (CE D T A) A) (CXX D T A S0 X) args s mc ms A) (CW T S L) mc ms 0 [(0, .ref x0), (1, .int p0)] [] := by
  have hW : ∀ {w : Cond}, w ∈ W0 → w.before args s = true := fun h => C.2.2.2.2.1 _ (List.mem_cons_of_mem _ h)
  intro x0 p0 S0 S mc ms L hS0 hw hL hx0 h
  have he : ext S0 S := by rw [hS0]; exact ext_rf
  unfold wp_X10_requireRated at h
  refine g_aload_n C dX10_requireRated_0 rfl 0 rfl ?_
  refine gc_getR C hw iwx_X10 hL hx0 (by decide) (by decide) rfl 12 (by decide) (hW kw_254) rfl rfl rfl dX10_requireRated_1 (fun o1 eo1 ko1 => ?_)
  obtain ⟨b2, hb9, h⟩ := h
  have g3 : hK S b2 = 3 := ko1 b2 (eo1.trans hb9)
  replace h := h g3
  refine g_opt (eo1.trans hb9) ?_
  refine g_aload_n C dX10_requireRated_4 rfl 0 rfl ?_
  refine gc_getR C hw iwx_X10 hL hx0 (by decide) (by decide) rfl 0 (by decide) (hW kw_242) rfl rfl rfl dX10_requireRated_5 (fun o4 eo4 ko4 => ?_)
  obtain ⟨b5, hb9, h⟩ := h
  have g6 : hK S b5 = 7 := ko4 b5 (eo4.trans hb9)
  replace h := h g6
  refine g_opt (eo4.trans hb9) ?_
  refine g_iload_n C dX10_requireRated_8 rfl 1 rfl ?_
  obtain ⟨m7, m8, h⟩ := h
  obtain ⟨g9, h⟩ := h
  refine gc_callvV (host := "") C E hw hL g3 (by decide) (by decide) rfl [.ref b5, .int p0] rfl (k_X2_work l D T b2 b5 p0 S m7 m8 g3 g6 g9) (w0_V 2 C.2.2.2.2.1 kw_1195 kw_1196 kw_1197 kw_7 kw_1198 rfl rfl (by decide +kernel) ⟨Nat.le_of_ble_eq_true rfl, Nat.le_of_ble_eq_true rfl⟩) rfl (Nat.le_of_ble_eq_true rfl) (Nat.le_refl _) (Nat.le_refl _) (Nat.zero_le _) (Nat.zero_le _) dX10_requireRated_9 (fun S10 L11 e12 w13 w14 hp => ?_)
  replace h := h S10 e12 hp
  have g15 := ext_K e12 hx0 (by decide)
  have w16 := ext_tr he e12
  refine g_aload_n C dX10_requireRated_12 rfl 0 rfl ?_
  refine gc_getR C w13 iwx_X10 w14 g15 (by decide) (by decide) rfl 12 (by decide) (hW kw_254) rfl rfl rfl dX10_requireRated_13 (fun o17 eo17 ko17 => ?_)
  obtain ⟨b18, hb9, h⟩ := h
  have g19 : hK S10 b18 = 3 := ko17 b18 (eo17.trans hb9)
  replace h := h g19
  refine g_opt (eo17.trans hb9) ?_
  refine gc_getI C iwx_X2 w14 g19 (by decide) (by decide) rfl 3 (by decide) (hW kw_139) rfl rfl rfl dX10_requireRated_16 ?_
  refine g_if_eq (tgt := 30) C dX10_requireRated_19 (by decide) (fun z20 => ?_) (fun z20 => ?_)
  · replace h := h.1 z20
    exact gx_vret C w13 w14 w16 hr dX10_requireRated_30 h
  · replace h := h.2 z20
    obtain ⟨g21, h⟩ := h
    exact gx_throw (cls := "java/lang/IllegalStateException") (names := ["java/lang/RuntimeException", "java/lang/Exception"]) C E hst w13 w14 w16 (Nat.le_refl _) (Nat.le_refl _) (by decide) (by decide) (hW kw_480) (hW kw_17) (th_FreightRater_78 hW E) tv_FreightRater_78 dX10_requireRated_22 dX10_requireRated_25 dX10_requireRated_26 dX10_requireRated_29 htab (Nat.le_of_ble_eq_true rfl) (Nat.le_of_ble_eq_true rfl) g21.1 g21.2 h
theorem c_X10_requireRated (l : Launch) (hst : l.stackTraces = false) (D : va_G) (T : Nat → ClassId) (x0 : Nat) (p0 : Int32) (S : HS) (mc ms : Nat) (hx0 : hK S x0 = 11) (P : HS → Prop) (X : String → HS → Prop) (h : wp_X10_requireRated P X x0 p0 S mc ms) : CXv l yX10_requireRated (ws_X10_requireRated) rm_X10_requireRated D T [.ref x0, .int p0] S mc ms P X := gx_metv (by decide) rfl rfl (Nat.le_of_ble_eq_true rfl) (fun p e s m args below meth c A L C E hnm hr htab hw hL => t_X10_requireRated C E hst htab hr P X x0 p0 S S mc ms L rfl hw hL hx0 h)
def wb_X10_requireSingles_2 (rec : Nat → Int32 → Int32 → Int32 → HS → Nat → Nat → Prop) (P : HS → Prop) (X : String → HS → Prop) (x0 : Nat) (x1 : Int32) (x2 : Int32) (x3 : Int32) (S : HS) (kc ks : Nat) : Prop := (10 ≤ x3 → (P S)) ∧ (¬ 10 ≤ x3 → ((¬ (hasF x1 x3) = 0 → (∃ b8 : Nat, hR S 232 x0 = some b8 ∧ (hK S b8 = 3 → (∃ b11 : Nat, hR S 220 x0 = some b11 ∧ (hK S b11 = 7 → (∃ (m13 : (Nat → Prop)) (m14 : Nat → Int32), ((WF m14 ∧ WFR m14 ∧ RelSt S m13 b11 m14 ∧ RtO S m13 b8 b11 ∧ gok m14 ((1 : Int32) <<< (x3 &&& 31))) ∧ (∀ (S16 : HS), ext S S16 → (frR S S16 b8 ∧ wkP S16 b8 m14 (iv ((1 : Int32) <<< (x3 &&& 31)))) → (∃ b24 : Nat, hR S16 232 x0 = some b24 ∧ (hK S16 b24 = 3 → (((hI S16 63 b24) = 0 → (∀ v27 : Int32, v27 = x3 + 1 → (rec x0 x1 x2 v27 S16 kc ks))) ∧ (¬ (hI S16 63 b24) = 0 → ((x2 = 0 → ((1 ≤ kc ∧ 6 ≤ ks) ∧ X "java/lang/IllegalStateException" S16)) ∧ (¬ x2 = 0 → (∃ (m30 : (Nat → Nat)) (m31 : (Nat → Nat → Int32)) (m32 : (Nat → Int32)) (m33 : (Nat → Int32)) (m34 : (List Int32)), ((FrS S16 m30 m31 m32 m33 m34 ∧ x0 = m30 50) ∧ (∀ (S36 : HS), ext S16 S36 → (FrS S36 m30 m31 (kpG m32 (hI S16 63 (m30 54)) (hI S16 64 (m30 54))) m33 m34) → ((1 ≤ kc ∧ 6 ≤ ks) ∧ X "java/lang/IllegalStateException" S36)))))))))))))))))) ∧ ((hasF x1 x3) = 0 → (∀ v44 : Int32, v44 = x3 + 1 → (rec x0 x1 x2 v44 S kc ks)))))
def wp_X10_requireSingles_2 (P : HS → Prop) (X : String → HS → Prop) : Nat → Nat → Int32 → Int32 → Int32 → HS → Nat → Nat → Prop
  | 0 => fun _ _ _ _ _ _ _ => False
  | n + 1 => fun x0 x1 x2 x3 S kc ks => wb_X10_requireSingles_2 (wp_X10_requireSingles_2  P X n)  P X x0 x1 x2 x3 S kc ks
set_option maxRecDepth 100000 in
set_option maxHeartbeats 4000000 in
theorem t_X10_requireSingles_2 {p : Program} {l : Launch} {e : Env} {s : State} {m : MethodId} {args : Array Value} {below : List Frame} {meth : Method} {c : Code} {D : va_G} {A : Nat → Prop} {T : Nat → ClassId} {mc ms : Nat} (C : GC p s m args meth c cX10_requireSingles "FreightRater" (ws_X10_requireSingles) 4 D A (zty T)) (E : GE T A s) (hst : l.stackTraces = false) (htab : ∀ z ∈ c.exceptionTable.toList, False) (hr : meth.sig.returnType = none) (S0 : HS) (P : HS → Prop) (X : String → HS → Prop) : ∀ (n : Nat) (x0 : Nat) (x1 : Int32) (x2 : Int32) (x3 : Int32) (S : HS) (kc ks : Nat) (L : List Nat), wt S → hL S L → ext S0 S → (hK S x0 = 11) → wp_X10_requireSingles_2  P X n x0 x1 x2 x3 S kc ks → GW p l e { rm_X10_requireSingles with cells := mc, slots := ms } s m args below meth c D A 4 mc ms (vx_MQ below (va_Qv (fun (u : HS × List Nat) => P u.1 ∧ CO S0 u) (CE D T A) A) (CXX D T A S0 X) args s mc ms A) (CW T S L) kc ks 2 [(0, .ref x0), (1, .int x1), (2, .int x2), (3, .int x3)] [] := by
  have hW : ∀ {w : Cond}, w ∈ W0 → w.before args s = true := fun h => C.2.2.2.2.1 _ (List.mem_cons_of_mem _ h)
  intro n
  induction n with
  | zero => intro x0 x1 x2 x3 S kc ks L hw hL he hx0 h; exact h.elim
  | succ n ih =>
    intro x0 x1 x2 x3 S kc ks L hw hL he hx0 h
    replace h : wb_X10_requireSingles_2 (wp_X10_requireSingles_2  P X n)  P X x0 x1 x2 x3 S kc ks := h
    unfold wb_X10_requireSingles_2 at h
    refine g_iload_n C dX10_requireSingles_2 rfl 3 rfl ?_
    refine g_bipush (v := 10) C dX10_requireSingles_3 (by decide) ?_
    refine g_icmp_ge (tgt := 65) C dX10_requireSingles_5 (by decide) (fun z1 => ?_) (fun z1 => ?_)
    · replace h := h.1 z1
      exact gx_vret C hw hL he hr dX10_requireSingles_65 h
    · replace h := h.2 z1
      refine g_iload_n C dX10_requireSingles_8 rfl 1 rfl ?_
      refine g_iload_n C dX10_requireSingles_9 rfl 3 rfl ?_
      refine gc_calliS (host := "") C E hw hL [.int x1, .int x3] rfl (k_X10_isIn l D T x1 x3 S ) (w0_S 2 C.2.2.2.2.1 kw_1344 kw_1204 kw_1 kw_1205 rfl rfl (by decide +kernel) ⟨Nat.le_of_ble_eq_true rfl, Nat.le_of_ble_eq_true rfl⟩) rfl (Nat.le_of_ble_eq_true rfl) (Nat.le_refl _) (Nat.le_refl _) (Nat.zero_le _) (Nat.zero_le _) dX10_requireSingles_10 (fun v9 S9 L2 he9 hw9 hL9 hp => ?_)
      obtain ⟨hv9, hs9⟩ := hp
      replace hs9 := hs9.symm
      subst hs9
      replace hv9 := hv9.symm
      subst hv9
      have w5 := hL9
      refine g_if_ne (tgt := 19) C dX10_requireSingles_13 (by decide) (fun z6 => ?_) (fun z6 => ?_)
      · replace h := h.1 z6
        refine g_aload_n C dX10_requireSingles_19 rfl 0 rfl ?_
        refine gc_getR C hw iwx_X10 w5 hx0 (by decide) (by decide) rfl 12 (by decide) (hW kw_254) rfl rfl rfl dX10_requireSingles_20 (fun o7 eo7 ko7 => ?_)
        obtain ⟨b8, hb9, h⟩ := h
        have g9 : hK S b8 = 3 := ko7 b8 (eo7.trans hb9)
        replace h := h g9
        refine g_opt (eo7.trans hb9) ?_
        refine g_aload_n C dX10_requireSingles_23 rfl 0 rfl ?_
        refine gc_getR C hw iwx_X10 w5 hx0 (by decide) (by decide) rfl 0 (by decide) (hW kw_242) rfl rfl rfl dX10_requireSingles_24 (fun o10 eo10 ko10 => ?_)
        obtain ⟨b11, hb9, h⟩ := h
        have g12 : hK S b11 = 7 := ko10 b11 (eo10.trans hb9)
        replace h := h g12
        refine g_opt (eo10.trans hb9) ?_
        refine g_iconst (v := 1) C dX10_requireSingles_27 (by decide) ?_
        refine g_iload_n C dX10_requireSingles_28 rfl 3 rfl ?_
        refine g_ishl C dX10_requireSingles_29 ?_
        obtain ⟨m13, m14, h⟩ := h
        obtain ⟨g15, h⟩ := h
        refine gc_callvV (host := "") C E hw w5 g9 (by decide) (by decide) rfl [.ref b11, .int ((1 : Int32) <<< (x3 &&& 31))] rfl (k_X2_work l D T b8 b11 ((1 : Int32) <<< (x3 &&& 31)) S m13 m14 g9 g12 g15) (w0_V 2 C.2.2.2.2.1 kw_1195 kw_1196 kw_1197 kw_7 kw_1198 rfl rfl (by decide +kernel) ⟨Nat.le_of_ble_eq_true rfl, Nat.le_of_ble_eq_true rfl⟩) rfl (Nat.le_of_ble_eq_true rfl) (Nat.le_refl _) (Nat.le_refl _) (Nat.zero_le _) (Nat.zero_le _) dX10_requireSingles_30 (fun S16 L17 e18 w19 w20 hp => ?_)
        replace h := h S16 e18 hp
        have g21 := ext_K e18 hx0 (by decide)
        have w22 := ext_tr he e18
        refine g_aload_n C dX10_requireSingles_33 rfl 0 rfl ?_
        refine gc_getR C w19 iwx_X10 w20 g21 (by decide) (by decide) rfl 12 (by decide) (hW kw_254) rfl rfl rfl dX10_requireSingles_34 (fun o23 eo23 ko23 => ?_)
        obtain ⟨b24, hb9, h⟩ := h
        have g25 : hK S16 b24 = 3 := ko23 b24 (eo23.trans hb9)
        replace h := h g25
        refine g_opt (eo23.trans hb9) ?_
        refine gc_getI C iwx_X2 w20 g25 (by decide) (by decide) rfl 3 (by decide) (hW kw_139) rfl rfl rfl dX10_requireSingles_37 ?_
        refine g_if_eq (tgt := 59) C dX10_requireSingles_40 (by decide) (fun z26 => ?_) (fun z26 => ?_)
        · replace h := h.1 z26
          obtain ⟨v27, ev27⟩ : ∃ y : Int32, y = x3 + 1 := ⟨_, rfl⟩
          replace h := h v27 ev27
          refine g_iinc (v := v27) (lv' := [(3, .int v27), (0, .ref x0), (1, .int x1), (2, .int x2)]) C dX10_requireSingles_59 (j := 3) rfl (by rw [ev27]; rfl) (by decide) rfl ?_
          refine g_goto (tgt := 2) C dX10_requireSingles_62 (by decide) ?_
          refine g_locals [1, 2, 3, 0] rfl ?_
          exact ih x0 x1 x2 v27 S16 kc ks L17 w19 w20 w22 g21 h
        · replace h := h.2 z26
          refine g_iload_n C dX10_requireSingles_43 rfl 2 rfl ?_
          refine g_if_eq (tgt := 51) C dX10_requireSingles_44 (by decide) (fun z28 => ?_) (fun z28 => ?_)
          · replace h := h.1 z28
            obtain ⟨g29, h⟩ := h
            exact gx_throw (cls := "java/lang/IllegalStateException") (names := ["java/lang/RuntimeException", "java/lang/Exception"]) C E hst w19 w20 w22 (Nat.le_refl _) (Nat.le_refl _) (by decide) (by decide) (hW kw_480) (hW kw_17) (th_FreightRater_78 hW E) tv_FreightRater_78 dX10_requireSingles_51 dX10_requireSingles_54 dX10_requireSingles_55 dX10_requireSingles_58 htab (Nat.le_of_ble_eq_true rfl) (Nat.le_of_ble_eq_true rfl) g29.1 g29.2 h
          · replace h := h.2 z28
            refine g_aload_n C dX10_requireSingles_47 rfl 0 rfl ?_
            obtain ⟨m30, m31, m32, m33, m34, h⟩ := h
            obtain ⟨g35, h⟩ := h
            refine gc_callvV (host := "") C E w19 w20 g21 (by decide) (by decide) rfl [] rfl (k_X10_keepReason l D T x0 S16 m30 m31 m32 m33 m34 g21 g35) (w0_V 0 C.2.2.2.2.1 kw_1283 kw_1285 ks_38 kw_1 kw_1286 rfl rfl (by decide +kernel) ⟨Nat.le_of_ble_eq_true rfl, Nat.le_of_ble_eq_true rfl⟩) rfl (Nat.le_of_ble_eq_true rfl) (Nat.le_refl _) (Nat.le_refl _) (Nat.zero_le _) (Nat.zero_le _) dX10_requireSingles_48 (fun S36 L37 e38 w39 w40 hp => ?_)
            replace h := h S36 e38 hp
            have g41 := ext_K e38 g21 (by decide)
            have w42 := ext_tr w22 e38
            obtain ⟨g43, h⟩ := h
            exact gx_throw (cls := "java/lang/IllegalStateException") (names := ["java/lang/RuntimeException", "java/lang/Exception"]) C E hst w39 w40 w42 (Nat.le_refl _) (Nat.le_refl _) (by decide) (by decide) (hW kw_480) (hW kw_17) (th_FreightRater_78 hW E) tv_FreightRater_78 dX10_requireSingles_51 dX10_requireSingles_54 dX10_requireSingles_55 dX10_requireSingles_58 htab (Nat.le_of_ble_eq_true rfl) (Nat.le_of_ble_eq_true rfl) g43.1 g43.2 h
      · replace h := h.2 z6
        refine g_goto (tgt := 59) C dX10_requireSingles_16 (by decide) ?_
        obtain ⟨v44, ev44⟩ : ∃ y : Int32, y = x3 + 1 := ⟨_, rfl⟩
        replace h := h v44 ev44
        refine g_iinc (v := v44) (lv' := [(3, .int v44), (0, .ref x0), (1, .int x1), (2, .int x2)]) C dX10_requireSingles_59 (j := 3) rfl (by rw [ev44]; rfl) (by decide) rfl ?_
        refine g_goto (tgt := 2) C dX10_requireSingles_62 (by decide) ?_
        refine g_locals [1, 2, 3, 0] rfl ?_
        exact ih x0 x1 x2 v44 S kc ks L2 hw w5 he hx0 h
def wp_X10_requireSingles (P : HS → Prop) (X : String → HS → Prop) (x0 : Nat) (p0 : Int32) (p1 : Int32) (S : HS) (mc ms : Nat) : Prop := ∃ k45 : Nat, wp_X10_requireSingles_2  P X k45 x0 p0 p1 0 S mc ms
set_option maxRecDepth 100000 in
set_option maxHeartbeats 4000000 in
theorem t_X10_requireSingles {p : Program} {l : Launch} {e : Env} {s : State} {m : MethodId} {args : Array Value} {below : List Frame} {meth : Method} {c : Code} {D : va_G} {A : Nat → Prop} {T : Nat → ClassId} (C : GC p s m args meth c cX10_requireSingles "FreightRater" (ws_X10_requireSingles) 4 D A (zty T)) (E : GE T A s) (hst : l.stackTraces = false) (htab : ∀ z ∈ c.exceptionTable.toList, False) (hr : meth.sig.returnType = none) (P : HS → Prop) (X : String → HS → Prop) : ∀ (x0 : Nat) (p0 : Int32) (p1 : Int32) (S0 S : HS) (mc ms : Nat) (L : List Nat), S0 = S → wt S → hL S L → (hK S x0 = 11) → wp_X10_requireSingles P X x0 p0 p1 S mc ms → GW p l e { rm_X10_requireSingles with cells := mc, slots := ms } s m args below meth c D A 4 mc ms (vx_MQ below (va_Qv (fun (u : HS × List Nat) => P u.1 ∧ CO S0 u) (CE D T A) A) (CXX D T A S0 X) args s mc ms A) (CW T S L) mc ms 0 [(0, .ref x0), (1, .int p0), (2, .int p1)] [] := by
  have hW : ∀ {w : Cond}, w ∈ W0 → w.before args s = true := fun h => C.2.2.2.2.1 _ (List.mem_cons_of_mem _ h)
  intro x0 p0 p1 S0 S mc ms L hS0 hw hL hx0 h
  have he : ext S0 S := by rw [hS0]; exact ext_rf
  unfold wp_X10_requireSingles at h
  refine g_iconst (v := 0) C dX10_requireSingles_0 (by decide) ?_
  refine g_istore_n (lv' := [(3, .int 0), (0, .ref x0), (1, .int p0), (2, .int p1)]) C dX10_requireSingles_1 rfl (by decide) rfl ?_
  refine g_locals [1, 2, 3, 0] rfl ?_
  obtain ⟨k45, h⟩ := h
  refine t_X10_requireSingles_2 C E hst htab hr S0  P X  k45 x0 p0 p1 0 S mc ms L hw hL he hx0 h
theorem c_X10_requireSingles (l : Launch) (hst : l.stackTraces = false) (D : va_G) (T : Nat → ClassId) (x0 : Nat) (p0 : Int32) (p1 : Int32) (S : HS) (mc ms : Nat) (hx0 : hK S x0 = 11) (P : HS → Prop) (X : String → HS → Prop) (h : wp_X10_requireSingles P X x0 p0 p1 S mc ms) : CXv l yX10_requireSingles (ws_X10_requireSingles) rm_X10_requireSingles D T [.ref x0, .int p0, .int p1] S mc ms P X := gx_metv (by decide) rfl rfl (Nat.le_of_ble_eq_true rfl) (fun p e s m args below meth c A L C E hnm hr htab hw hL => t_X10_requireSingles C E hst htab hr P X x0 p0 p1 S S mc ms L rfl hw hL hx0 h)
def wp_X10_rating (P : Int32 → HS → Prop) (X : String → HS → Prop) (x0 : Nat) (p0 : Int32) (p1 : Int32) (S : HS) (mc ms : Nat) : Prop := ∃ cc1 cc2 : Nat, (cc1 ≤ mc ∧ cc2 ≤ ms) ∧ (∃ (m4 : (Nat → Nat)) (m5 : (Nat → Nat → Int32)) (m6 : (Nat → Int32)) (m7 : (Nat → Int32)) (m8 : (List Int32)), ((FrS S m4 m5 m6 m7 m8 ∧ x0 = m4 50 ∧ 1 ≤ cc1 ∧ 6 ≤ cc2) ∧ ((∀ (E9 : String) (S9 : HS), ext S S9 → (grpF (m5 0) p0 = 0 ∧ E9 = "java/lang/IndexOutOfBoundsException" ∧ S9 = S) → X E9 S9) ∧ (∀ (S10 : HS), ext S S10 → (grpF (m5 0) p0 = 1 ∧ S10 = S) → ((¬ (zin p1 0 9) = 0 → (∃ cc23 cc24 : Nat, (cc23 ≤ (mc - cc1) ∧ cc24 ≤ (ms - cc2)) ∧ (∃ (m26 : (Nat → Nat)) (m27 : (Nat → Nat → Int32)) (m28 : (Nat → Int32)) (m29 : (Nat → Int32)) (m30 : (List Int32)), ((FrS S10 m26 m27 m28 m29 m30 ∧ x0 = m26 50 ∧ gok (m27 0) p0 ∧ 1 ≤ cc23 ∧ 6 ≤ cc24) ∧ ((∀ (E9 : String) (S9 : HS), ext S10 S9 → (¬ (rsnD (m27 0) (iv p0)).1 = 0 ∧ E9 = "java/lang/IllegalStateException" ∧ FrS S9 m26 m27 m28 m29 m30) → X E9 S9) ∧ (∀ (S32 : HS), ext S10 S32 → ((rsnD (m27 0) (iv p0)).1 = 0 ∧ wkP S32 (m26 54) (m27 0) (iv p0) ∧ FrS S32 m26 m27 m28 m29 m30) → ((p1 = 0 → (∃ b42 : Nat, hR S32 232 x0 = some b42 ∧ (hK S32 b42 = 3 → (P (hI S32 71 b42) S32)))) ∧ (¬ p1 = 0 → ((p1 = 1 → (∃ b46 : Nat, hR S32 232 x0 = some b46 ∧ (hK S32 b46 = 3 → (P (hI S32 74 b46) S32)))) ∧ (¬ p1 = 1 → ((p1 = 2 → (∃ b50 : Nat, hR S32 232 x0 = some b50 ∧ (hK S32 b50 = 3 → (P (hI S32 76 b50) S32)))) ∧ (¬ p1 = 2 → ((p1 = 3 → (∃ b54 : Nat, hR S32 232 x0 = some b54 ∧ (hK S32 b54 = 3 → (P (hI S32 77 b54) S32)))) ∧ (¬ p1 = 3 → ((p1 = 4 → (∃ b58 : Nat, hR S32 232 x0 = some b58 ∧ (hK S32 b58 = 3 → (P (hI S32 67 b58) S32)))) ∧ (¬ p1 = 4 → ((p1 = 5 → (∃ b62 : Nat, hR S32 232 x0 = some b62 ∧ (hK S32 b62 = 3 → (P (hI S32 72 b62) S32)))) ∧ (¬ p1 = 5 → ((p1 = 6 → (∃ b66 : Nat, hR S32 232 x0 = some b66 ∧ (hK S32 b66 = 3 → (P (hI S32 73 b66) S32)))) ∧ (¬ p1 = 6 → ((p1 = 7 → (∃ b70 : Nat, hR S32 232 x0 = some b70 ∧ (hK S32 b70 = 3 → (P (hI S32 75 b70) S32)))) ∧ (¬ p1 = 7 → ((p1 = 8 → (∃ b74 : Nat, hR S32 232 x0 = some b74 ∧ (hK S32 b74 = 3 → (P (hI S32 66 b74) S32)))) ∧ (¬ p1 = 8 → (∃ b77 : Nat, hR S32 232 x0 = some b77 ∧ (hK S32 b77 = 3 → (P (hI S32 65 b77) S32))))))))))))))))))))))))))) ∧ ((zin p1 0 9) = 0 → ((1 ≤ (mc - cc1) ∧ 6 ≤ (ms - cc2)) ∧ X "java/lang/IllegalArgumentException" S10)))))))
set_option maxRecDepth 100000 in
set_option maxHeartbeats 4000000 in
theorem t_X10_rating {p : Program} {l : Launch} {e : Env} {s : State} {m : MethodId} {args : Array Value} {below : List Frame} {meth : Method} {c : Code} {D : va_G} {A : Nat → Prop} {T : Nat → ClassId} (C : GC p s m args meth c cX10_rating "FreightRater" (ws_X10_rating) 3 D A (zty T)) (E : GE T A s) (hst : l.stackTraces = false) (htab : ∀ z ∈ c.exceptionTable.toList, False) (hr : meth.sig.returnType = (some .int)) (P : Int32 → HS → Prop) (X : String → HS → Prop) : ∀ (x0 : Nat) (p0 : Int32) (p1 : Int32) (S0 S : HS) (mc ms : Nat) (L : List Nat), S0 = S → wt S → hL S L → (hK S x0 = 11) → wp_X10_rating P X x0 p0 p1 S mc ms → GW p l e { rm_X10_rating with cells := mc, slots := ms } s m args below meth c D A 3 mc ms (vx_MQ below (va_Qi (fun v (u : HS × List Nat) => P v u.1 ∧ CO S0 u) (CE D T A) A) (CXX D T A S0 X) args s mc ms A) (CW T S L) mc ms 0 [(0, .ref x0), (1, .int p0), (2, .int p1)] [] := by
  have hW : ∀ {w : Cond}, w ∈ W0 → w.before args s = true := fun h => C.2.2.2.2.1 _ (List.mem_cons_of_mem _ h)
  intro x0 p0 p1 S0 S mc ms L hS0 hw hL hx0 h
  have he : ext S0 S := by rw [hS0]; exact ext_rf
  unfold wp_X10_rating at h
  refine g_aload_n C dX10_rating_0 rfl 0 rfl ?_
  refine g_iload_n C dX10_rating_1 rfl 1 rfl ?_
  obtain ⟨cc1, cc2, g3, h⟩ := h
  obtain ⟨m4, m5, m6, m7, m8, h⟩ := h
  obtain ⟨g9, h⟩ := h
  obtain ⟨g15, h⟩ := h
  refine gx_callvV (host := "") C E hw hL hx0 (by decide) (by decide) rfl [.int p0] rfl (k_X10_requireGroup l hst D T x0 p0 S m4 m5 m6 m7 m8 cc1 cc2 hx0 g9) (w0_V 1 C.2.2.2.2.1 kw_1191 kw_1193 ks_26 kw_1 kw_1194 rfl rfl (by decide +kernel) ⟨Nat.le_of_ble_eq_true rfl, Nat.le_of_ble_eq_true rfl⟩) rfl (Nat.le_of_ble_eq_true rfl) (Nat.le_refl _) (Nat.le_refl _) g3.1 g3.2 dX10_rating_2 he htab g15 (fun S10 L11 e12 w13 w14 hp => ?_)
  replace h := h S10 e12 hp
  have g16 := ext_K e12 hx0 (by decide)
  have w17 := ext_tr he e12
  refine g_iload_n C dX10_rating_5 rfl 2 rfl ?_
  refine g_iconst (v := 0) C dX10_rating_6 (by decide) ?_
  refine g_bipush (v := 9) C dX10_rating_7 (by decide) ?_
  refine gc_calliS (host := "") C E w13 w14 [.int p1, .int 0, .int 9] rfl (k_X10_isBetween l D T p1 0 9 S10 ) (w0_S 3 C.2.2.2.2.1 kw_303 kw_304 kw_1 kw_305 rfl rfl (by decide +kernel) ⟨Nat.le_of_ble_eq_true rfl, Nat.le_of_ble_eq_true rfl⟩) rfl (Nat.le_of_ble_eq_true rfl) (Nat.le_refl _) (Nat.le_refl _) (Nat.zero_le _) (Nat.zero_le _) dX10_rating_9 (fun v9 S9 L18 he9 hw9 hL9 hp => ?_)
  obtain ⟨hv9, hs9⟩ := hp
  replace hs9 := hs9.symm
  subst hs9
  replace hv9 := hv9.symm
  subst hv9
  have w21 := hL9
  refine g_if_ne (tgt := 23) C dX10_rating_12 (by decide) (fun z22 => ?_) (fun z22 => ?_)
  · replace h := h.1 z22
    refine g_aload_n C dX10_rating_23 rfl 0 rfl ?_
    refine g_iload_n C dX10_rating_24 rfl 1 rfl ?_
    obtain ⟨cc23, cc24, g25, h⟩ := h
    obtain ⟨m26, m27, m28, m29, m30, h⟩ := h
    obtain ⟨g31, h⟩ := h
    obtain ⟨g37, h⟩ := h
    refine gx_callvV (host := "") C E w13 w21 g16 (by decide) (by decide) rfl [.int p0] rfl (k_X10_requireRated l hst D T x0 p0 S10 m26 m27 m28 m29 m30 cc23 cc24 g16 g31) (w0_V 1 C.2.2.2.2.1 kw_1298 kw_1300 ks_39 kw_1 kw_1301 rfl rfl (by decide +kernel) ⟨Nat.le_of_ble_eq_true rfl, Nat.le_of_ble_eq_true rfl⟩) rfl (Nat.le_of_ble_eq_true rfl) (Nat.le_refl _) (Nat.le_refl _) g25.1 g25.2 dX10_rating_25 w17 htab g37 (fun S32 L33 e34 w35 w36 hp => ?_)
    replace h := h S32 e34 hp
    have g38 := ext_K e34 g16 (by decide)
    have w39 := ext_tr w17 e34
    refine g_iload_n C dX10_rating_28 rfl 2 rfl ?_
    rcases Decidable.em (p1 = 0) with z40 | z40
    · refine g_tableIn (off := 51) (tgt := 80) C dX10_rating_29 (by rw [z40]; decide) (by rw [z40]; decide) (by rw [z40]; decide) (by decide) ?_
      replace h := h.1 z40
      refine g_aload_n C dX10_rating_80 rfl 0 rfl ?_
      refine gc_getR C w35 iwx_X10 w36 g38 (by decide) (by decide) rfl 12 (by decide) (hW kw_254) rfl rfl rfl dX10_rating_81 (fun o41 eo41 ko41 => ?_)
      obtain ⟨b42, hb9, h⟩ := h
      have g43 : hK S32 b42 = 3 := ko41 b42 (eo41.trans hb9)
      replace h := h g43
      refine g_opt (eo41.trans hb9) ?_
      refine gc_getI C iwx_X2 w36 g43 (by decide) (by decide) rfl 11 (by decide) (hW kw_157) rfl rfl rfl dX10_rating_84 ?_
      exact gx_iret C w35 w36 w39 hr dX10_rating_87 h
    replace h := h.2 z40
    rcases Decidable.em (p1 = 1) with z44 | z44
    · refine g_tableIn (off := 59) (tgt := 88) C dX10_rating_29 (by rw [z44]; decide) (by rw [z44]; decide) (by rw [z44]; decide) (by decide) ?_
      replace h := h.1 z44
      refine g_aload_n C dX10_rating_88 rfl 0 rfl ?_
      refine gc_getR C w35 iwx_X10 w36 g38 (by decide) (by decide) rfl 12 (by decide) (hW kw_254) rfl rfl rfl dX10_rating_89 (fun o45 eo45 ko45 => ?_)
      obtain ⟨b46, hb9, h⟩ := h
      have g47 : hK S32 b46 = 3 := ko45 b46 (eo45.trans hb9)
      replace h := h g47
      refine g_opt (eo45.trans hb9) ?_
      refine gc_getI C iwx_X2 w36 g47 (by decide) (by decide) rfl 14 (by decide) (hW kw_163) rfl rfl rfl dX10_rating_92 ?_
      exact gx_iret C w35 w36 w39 hr dX10_rating_95 h
    replace h := h.2 z44
    rcases Decidable.em (p1 = 2) with z48 | z48
    · refine g_tableIn (off := 67) (tgt := 96) C dX10_rating_29 (by rw [z48]; decide) (by rw [z48]; decide) (by rw [z48]; decide) (by decide) ?_
      replace h := h.1 z48
      refine g_aload_n C dX10_rating_96 rfl 0 rfl ?_
      refine gc_getR C w35 iwx_X10 w36 g38 (by decide) (by decide) rfl 12 (by decide) (hW kw_254) rfl rfl rfl dX10_rating_97 (fun o49 eo49 ko49 => ?_)
      obtain ⟨b50, hb9, h⟩ := h
      have g51 : hK S32 b50 = 3 := ko49 b50 (eo49.trans hb9)
      replace h := h g51
      refine g_opt (eo49.trans hb9) ?_
      refine gc_getI C iwx_X2 w36 g51 (by decide) (by decide) rfl 16 (by decide) (hW kw_167) rfl rfl rfl dX10_rating_100 ?_
      exact gx_iret C w35 w36 w39 hr dX10_rating_103 h
    replace h := h.2 z48
    rcases Decidable.em (p1 = 3) with z52 | z52
    · refine g_tableIn (off := 75) (tgt := 104) C dX10_rating_29 (by rw [z52]; decide) (by rw [z52]; decide) (by rw [z52]; decide) (by decide) ?_
      replace h := h.1 z52
      refine g_aload_n C dX10_rating_104 rfl 0 rfl ?_
      refine gc_getR C w35 iwx_X10 w36 g38 (by decide) (by decide) rfl 12 (by decide) (hW kw_254) rfl rfl rfl dX10_rating_105 (fun o53 eo53 ko53 => ?_)
      obtain ⟨b54, hb9, h⟩ := h
      have g55 : hK S32 b54 = 3 := ko53 b54 (eo53.trans hb9)
      replace h := h g55
      refine g_opt (eo53.trans hb9) ?_
      refine gc_getI C iwx_X2 w36 g55 (by decide) (by decide) rfl 17 (by decide) (hW kw_169) rfl rfl rfl dX10_rating_108 ?_
      exact gx_iret C w35 w36 w39 hr dX10_rating_111 h
    replace h := h.2 z52
    rcases Decidable.em (p1 = 4) with z56 | z56
    · refine g_tableIn (off := 83) (tgt := 112) C dX10_rating_29 (by rw [z56]; decide) (by rw [z56]; decide) (by rw [z56]; decide) (by decide) ?_
      replace h := h.1 z56
      refine g_aload_n C dX10_rating_112 rfl 0 rfl ?_
      refine gc_getR C w35 iwx_X10 w36 g38 (by decide) (by decide) rfl 12 (by decide) (hW kw_254) rfl rfl rfl dX10_rating_113 (fun o57 eo57 ko57 => ?_)
      obtain ⟨b58, hb9, h⟩ := h
      have g59 : hK S32 b58 = 3 := ko57 b58 (eo57.trans hb9)
      replace h := h g59
      refine g_opt (eo57.trans hb9) ?_
      refine gc_getI C iwx_X2 w36 g59 (by decide) (by decide) rfl 7 (by decide) (hW kw_149) rfl rfl rfl dX10_rating_116 ?_
      exact gx_iret C w35 w36 w39 hr dX10_rating_119 h
    replace h := h.2 z56
    rcases Decidable.em (p1 = 5) with z60 | z60
    · refine g_tableIn (off := 91) (tgt := 120) C dX10_rating_29 (by rw [z60]; decide) (by rw [z60]; decide) (by rw [z60]; decide) (by decide) ?_
      replace h := h.1 z60
      refine g_aload_n C dX10_rating_120 rfl 0 rfl ?_
      refine gc_getR C w35 iwx_X10 w36 g38 (by decide) (by decide) rfl 12 (by decide) (hW kw_254) rfl rfl rfl dX10_rating_121 (fun o61 eo61 ko61 => ?_)
      obtain ⟨b62, hb9, h⟩ := h
      have g63 : hK S32 b62 = 3 := ko61 b62 (eo61.trans hb9)
      replace h := h g63
      refine g_opt (eo61.trans hb9) ?_
      refine gc_getI C iwx_X2 w36 g63 (by decide) (by decide) rfl 12 (by decide) (hW kw_159) rfl rfl rfl dX10_rating_124 ?_
      exact gx_iret C w35 w36 w39 hr dX10_rating_127 h
    replace h := h.2 z60
    rcases Decidable.em (p1 = 6) with z64 | z64
    · refine g_tableIn (off := 99) (tgt := 128) C dX10_rating_29 (by rw [z64]; decide) (by rw [z64]; decide) (by rw [z64]; decide) (by decide) ?_
      replace h := h.1 z64
      refine g_aload_n C dX10_rating_128 rfl 0 rfl ?_
      refine gc_getR C w35 iwx_X10 w36 g38 (by decide) (by decide) rfl 12 (by decide) (hW kw_254) rfl rfl rfl dX10_rating_129 (fun o65 eo65 ko65 => ?_)
      obtain ⟨b66, hb9, h⟩ := h
      have g67 : hK S32 b66 = 3 := ko65 b66 (eo65.trans hb9)
      replace h := h g67
      refine g_opt (eo65.trans hb9) ?_
      refine gc_getI C iwx_X2 w36 g67 (by decide) (by decide) rfl 13 (by decide) (hW kw_161) rfl rfl rfl dX10_rating_132 ?_
      exact gx_iret C w35 w36 w39 hr dX10_rating_135 h
    replace h := h.2 z64
    rcases Decidable.em (p1 = 7) with z68 | z68
    · refine g_tableIn (off := 107) (tgt := 136) C dX10_rating_29 (by rw [z68]; decide) (by rw [z68]; decide) (by rw [z68]; decide) (by decide) ?_
      replace h := h.1 z68
      refine g_aload_n C dX10_rating_136 rfl 0 rfl ?_
      refine gc_getR C w35 iwx_X10 w36 g38 (by decide) (by decide) rfl 12 (by decide) (hW kw_254) rfl rfl rfl dX10_rating_137 (fun o69 eo69 ko69 => ?_)
      obtain ⟨b70, hb9, h⟩ := h
      have g71 : hK S32 b70 = 3 := ko69 b70 (eo69.trans hb9)
      replace h := h g71
      refine g_opt (eo69.trans hb9) ?_
      refine gc_getI C iwx_X2 w36 g71 (by decide) (by decide) rfl 15 (by decide) (hW kw_165) rfl rfl rfl dX10_rating_140 ?_
      exact gx_iret C w35 w36 w39 hr dX10_rating_143 h
    replace h := h.2 z68
    rcases Decidable.em (p1 = 8) with z72 | z72
    · refine g_tableIn (off := 115) (tgt := 144) C dX10_rating_29 (by rw [z72]; decide) (by rw [z72]; decide) (by rw [z72]; decide) (by decide) ?_
      replace h := h.1 z72
      refine g_aload_n C dX10_rating_144 rfl 0 rfl ?_
      refine gc_getR C w35 iwx_X10 w36 g38 (by decide) (by decide) rfl 12 (by decide) (hW kw_254) rfl rfl rfl dX10_rating_145 (fun o73 eo73 ko73 => ?_)
      obtain ⟨b74, hb9, h⟩ := h
      have g75 : hK S32 b74 = 3 := ko73 b74 (eo73.trans hb9)
      replace h := h g75
      refine g_opt (eo73.trans hb9) ?_
      refine gc_getI C iwx_X2 w36 g75 (by decide) (by decide) rfl 6 (by decide) (hW kw_146) rfl rfl rfl dX10_rating_148 ?_
      exact gx_iret C w35 w36 w39 hr dX10_rating_151 h
    replace h := h.2 z72
    refine g_tableD (tgt := 152) C dX10_rating_29 (by decide) (fun j hj => ?_) (by decide) ?_
    · rcases (show j = 0 ∨ j = 1 ∨ j = 2 ∨ j = 3 ∨ j = 4 ∨ j = 5 ∨ j = 6 ∨ j = 7 ∨ j = 8 by have hj2 : j < 9 := hj; omega) with rfl | rfl | rfl | rfl | rfl | rfl | rfl | rfl | rfl <;> first | exact Or.inr rfl | exact Or.inl (by first | exact lv_neT z40 rfl | exact lv_neT z44 rfl | exact lv_neT z48 rfl | exact lv_neT z52 rfl | exact lv_neT z56 rfl | exact lv_neT z60 rfl | exact lv_neT z64 rfl | exact lv_neT z68 rfl | exact lv_neT z72 rfl)
    refine g_aload_n C dX10_rating_152 rfl 0 rfl ?_
    refine gc_getR C w35 iwx_X10 w36 g38 (by decide) (by decide) rfl 12 (by decide) (hW kw_254) rfl rfl rfl dX10_rating_153 (fun o76 eo76 ko76 => ?_)
    obtain ⟨b77, hb9, h⟩ := h
    have g78 : hK S32 b77 = 3 := ko76 b77 (eo76.trans hb9)
    replace h := h g78
    refine g_opt (eo76.trans hb9) ?_
    refine gc_getI C iwx_X2 w36 g78 (by decide) (by decide) rfl 5 (by decide) (hW kw_143) rfl rfl rfl dX10_rating_156 ?_
    exact gx_iret C w35 w36 w39 hr dX10_rating_159 h
  · replace h := h.2 z22
    obtain ⟨g79, h⟩ := h
    exact gx_throw (cls := "java/lang/IllegalArgumentException") (names := ["java/lang/RuntimeException", "java/lang/Exception"]) C E hst w13 w21 w17 (Nat.le_refl _) (Nat.le_refl _) (by decide) (by decide) (hW kw_310) (hW kw_13) (th_FreightRater_62 hW E) tv_FreightRater_62 dX10_rating_15 dX10_rating_18 dX10_rating_19 dX10_rating_22 htab (Nat.le_of_ble_eq_true rfl) (Nat.le_of_ble_eq_true rfl) g79.1 g79.2 h
theorem c_X10_rating (l : Launch) (hst : l.stackTraces = false) (D : va_G) (T : Nat → ClassId) (x0 : Nat) (p0 : Int32) (p1 : Int32) (S : HS) (mc ms : Nat) (hx0 : hK S x0 = 11) (P : Int32 → HS → Prop) (X : String → HS → Prop) (h : wp_X10_rating P X x0 p0 p1 S mc ms) : CXi l yX10_rating (ws_X10_rating) rm_X10_rating D T [.ref x0, .int p0, .int p1] S mc ms P X := gx_meti (by decide) rfl rfl (Nat.le_of_ble_eq_true rfl) (fun p e s m args below meth c A L C E hnm hr htab hw hL => t_X10_rating C E hst htab hr P X x0 p0 p1 S S mc ms L rfl hw hL hx0 h)
def wp_X10_consolidate (P : Int32 → HS → Prop) (X : String → HS → Prop) (x0 : Nat) (p0 : Int32) (S : HS) (mc ms : Nat) : Prop := ∃ cc1 cc2 : Nat, (cc1 ≤ mc ∧ cc2 ≤ ms) ∧ (∃ (m4 : (Nat → Nat)) (m5 : (Nat → Nat → Int32)) (m6 : (Nat → Int32)) (m7 : (Nat → Int32)) (m8 : (List Int32)), ((FrS S m4 m5 m6 m7 m8 ∧ x0 = m4 50 ∧ 2 ≤ cc1 ∧ 12 ≤ cc2) ∧ ((∀ (E9 : String) (S9 : HS), ext S S9 → (((lckF (m5 0) p0 8 = 1 ∧ E9 = "java/lang/IndexOutOfBoundsException") ∨ (lckF (m5 0) p0 8 = 2 ∧ E9 = "java/lang/IllegalArgumentException")) ∧ S9 = S) → X E9 S9) ∧ (∀ (S10 : HS), ext S S10 → (lckF (m5 0) p0 8 = 0 ∧ S10 = S) → (∃ cc18 cc19 : Nat, (cc18 ≤ (mc - cc1) ∧ cc19 ≤ (ms - cc2)) ∧ (∃ (m21 : (Nat → Nat)) (m22 : (Nat → Nat → Int32)) (m23 : (Nat → Int32)) (m24 : (Nat → Int32)) (m25 : (List Int32)), ((FrS S10 m21 m22 m23 m24 m25 ∧ x0 = m21 50 ∧ gok (m22 0) p0 ∧ 1 ≤ cc18 ∧ 6 ≤ cc19) ∧ ((∀ (E9 : String) (S9 : HS), ext S10 S9 → (E9 = "java/lang/IllegalStateException" ∧ ∃ t, rfF (m22 0) (iv p0) = some t ∧ FrS S9 m21 m22 (if (1 : Int32) = 0 then m23 else kpG m23 (nI (rsnD (m22 0) (2 ^ t)).1) (rsnD (m22 0) (2 ^ t)).2) m24 m25) → X E9 S9) ∧ (∀ (S27 : HS), ext S10 S27 → (rfF (m22 0) (iv p0) = none ∧ FrS S27 m21 m22 m23 m24 m25) → (∃ b36 : Nat, hR S27 233 x0 = some b36 ∧ (hK S27 b36 = 2 → (∃ b39 : Nat, hR S27 220 x0 = some b39 ∧ (hK S27 b39 = 7 → (∃ b42 : Nat, hR S27 232 x0 = some b42 ∧ (hK S27 b42 = 3 → (∃ (m44 : (Nat → Prop)) (m45 : Nat → Int32) (m46 : Nat → Nat) (m47 : Nat), ((prC S27 m44 b39 m45 b42 b36 m46 ∧ m47 < 2 ^ iv (m45 1) ∧ p0 = nI m47 ∧ (memL m47 10 0).length ≤ 8 ∧ hA S27 (m46 0) 0 = 0) ∧ (∀ (S49 : HS), ext S27 S49 → (frQ S27 S49 b36 b42 m46 ∧ hI S49 40 b36 = nI (memL m47 10 0).length ∧ hI S49 47 b36 = hI S27 47 b36 ∧ (∀ p, p < 2 ^ (memL m47 10 0).length → hA S49 (m46 0) p = nI (spr (memL m47 10 0) (memL m47 10 0).length p)) ∧ ∀ p, 0 < p → p < 2 ^ (memL m47 10 0).length → hA S49 (m46 1) p = ttF m45 (spr (memL m47 10 0) (memL m47 10 0).length p)) → (∃ b57 : Nat, hR S49 233 x0 = some b57 ∧ (hK S49 b57 = 2 → (∃ (m59 : Nat → Nat) (m60 : Nat) (m61 : List Nat), ((PlO S49 b57 m59 ∧ hI S49 40 b57 = nI m60 ∧ m60 ≤ 8 ∧ m61.length ≤ 8 ∧ (fbK (hA S49 (m59 1)) (2 ^ m60 - 1) 1 (roW S49 m59)).2.1 (2 ^ m60 - 1) = nI m61.length ∧ chn (fbK (hA S49 (m59 1)) (2 ^ m60 - 1) 1 (roW S49 m59)).2.2 (2 ^ m60 - 1) m61) ∧ (∀ (S63 : HS), ext S49 S63 → (frP S49 S63 b57 m59 [47] [2, 3, 4, 5] ∧ PlP S63 b57 m59 m61 ∧ hA S63 (m59 2) 0 = hA S49 (m59 2) 0 ∧ hA S63 (m59 3) 0 = hA S49 (m59 3) 0) → (∃ b71 : Nat, hR S63 233 x0 = some b71 ∧ (hK S63 b71 = 2 → (∃ (m73 : Nat → Nat) (m74 : List Nat), ((PlO S63 b71 m73 ∧ PlP S63 b71 m73 m74) ∧ (P (suL (hA S63 (m73 1)) m74 0) S63))))))))))))))))))))))))))))
set_option maxRecDepth 100000 in
set_option maxHeartbeats 4000000 in
theorem t_X10_consolidate {p : Program} {l : Launch} {e : Env} {s : State} {m : MethodId} {args : Array Value} {below : List Frame} {meth : Method} {c : Code} {D : va_G} {A : Nat → Prop} {T : Nat → ClassId} (C : GC p s m args meth c cX10_consolidate "FreightRater" (ws_X10_consolidate) 2 D A (zty T)) (E : GE T A s) (hst : l.stackTraces = false) (htab : ∀ z ∈ c.exceptionTable.toList, False) (hr : meth.sig.returnType = (some .int)) (P : Int32 → HS → Prop) (X : String → HS → Prop) : ∀ (x0 : Nat) (p0 : Int32) (S0 S : HS) (mc ms : Nat) (L : List Nat), S0 = S → wt S → hL S L → (hK S x0 = 11) → wp_X10_consolidate P X x0 p0 S mc ms → GW p l e { rm_X10_consolidate with cells := mc, slots := ms } s m args below meth c D A 2 mc ms (vx_MQ below (va_Qi (fun v (u : HS × List Nat) => P v u.1 ∧ CO S0 u) (CE D T A) A) (CXX D T A S0 X) args s mc ms A) (CW T S L) mc ms 0 [(0, .ref x0), (1, .int p0)] [] := by
  have hW : ∀ {w : Cond}, w ∈ W0 → w.before args s = true := fun h => C.2.2.2.2.1 _ (List.mem_cons_of_mem _ h)
  intro x0 p0 S0 S mc ms L hS0 hw hL hx0 h
  have he : ext S0 S := by rw [hS0]; exact ext_rf
  unfold wp_X10_consolidate at h
  refine g_aload_n C dX10_consolidate_0 rfl 0 rfl ?_
  refine g_iload_n C dX10_consolidate_1 rfl 1 rfl ?_
  obtain ⟨cc1, cc2, g3, h⟩ := h
  obtain ⟨m4, m5, m6, m7, m8, h⟩ := h
  obtain ⟨g9, h⟩ := h
  obtain ⟨g15, h⟩ := h
  refine gx_callvV (host := "") C E hw hL hx0 (by decide) (by decide) rfl [.int p0] rfl (k_X10_requireSet l hst D T x0 p0 S m4 m5 m6 m7 m8 cc1 cc2 hx0 g9) (w0_V 1 C.2.2.2.2.1 kw_1330 kw_1332 ks_40 kw_1 kw_1333 rfl rfl (by decide +kernel) ⟨Nat.le_of_ble_eq_true rfl, Nat.le_of_ble_eq_true rfl⟩) rfl (Nat.le_of_ble_eq_true rfl) (Nat.le_refl _) (Nat.le_refl _) g3.1 g3.2 dX10_consolidate_2 he htab g15 (fun S10 L11 e12 w13 w14 hp => ?_)
  replace h := h S10 e12 hp
  have g16 := ext_K e12 hx0 (by decide)
  have w17 := ext_tr he e12
  refine g_aload_n C dX10_consolidate_5 rfl 0 rfl ?_
  refine g_iload_n C dX10_consolidate_6 rfl 1 rfl ?_
  refine g_iconst (v := 1) C dX10_consolidate_7 (by decide) ?_
  obtain ⟨cc18, cc19, g20, h⟩ := h
  obtain ⟨m21, m22, m23, m24, m25, h⟩ := h
  obtain ⟨g26, h⟩ := h
  obtain ⟨g32, h⟩ := h
  refine gx_callvV (host := "") C E w13 w14 g16 (by decide) (by decide) rfl [.int p0, .int 1] rfl (k_X10_requireSingles l hst D T x0 p0 1 S10 m21 m22 m23 m24 m25 cc18 cc19 g16 g26) (w0_V 2 C.2.2.2.2.1 kw_1340 kw_1342 ks_41 kw_1 kw_1343 rfl rfl (by decide +kernel) ⟨Nat.le_of_ble_eq_true rfl, Nat.le_of_ble_eq_true rfl⟩) rfl (Nat.le_of_ble_eq_true rfl) (Nat.le_refl _) (Nat.le_refl _) g20.1 g20.2 dX10_consolidate_8 w17 htab g32 (fun S27 L28 e29 w30 w31 hp => ?_)
  replace h := h S27 e29 hp
  have g33 := ext_K e29 g16 (by decide)
  have w34 := ext_tr w17 e29
  refine g_aload_n C dX10_consolidate_11 rfl 0 rfl ?_
  refine gc_getR C w30 iwx_X10 w31 g33 (by decide) (by decide) rfl 13 (by decide) (hW kw_255) rfl rfl rfl dX10_consolidate_12 (fun o35 eo35 ko35 => ?_)
  obtain ⟨b36, hb9, h⟩ := h
  have g37 : hK S27 b36 = 2 := ko35 b36 (eo35.trans hb9)
  replace h := h g37
  refine g_opt (eo35.trans hb9) ?_
  refine g_aload_n C dX10_consolidate_15 rfl 0 rfl ?_
  refine gc_getR C w30 iwx_X10 w31 g33 (by decide) (by decide) rfl 0 (by decide) (hW kw_242) rfl rfl rfl dX10_consolidate_16 (fun o38 eo38 ko38 => ?_)
  obtain ⟨b39, hb9, h⟩ := h
  have g40 : hK S27 b39 = 7 := ko38 b39 (eo38.trans hb9)
  replace h := h g40
  refine g_opt (eo38.trans hb9) ?_
  refine g_iload_n C dX10_consolidate_19 rfl 1 rfl ?_
  refine g_aload_n C dX10_consolidate_20 rfl 0 rfl ?_
  refine gc_getR C w30 iwx_X10 w31 g33 (by decide) (by decide) rfl 12 (by decide) (hW kw_254) rfl rfl rfl dX10_consolidate_21 (fun o41 eo41 ko41 => ?_)
  obtain ⟨b42, hb9, h⟩ := h
  have g43 : hK S27 b42 = 3 := ko41 b42 (eo41.trans hb9)
  replace h := h g43
  refine g_opt (eo41.trans hb9) ?_
  obtain ⟨m44, m45, m46, m47, h⟩ := h
  obtain ⟨g48, h⟩ := h
  refine gc_callvV (host := "") C E w30 w31 g37 (by decide) (by decide) rfl [.ref b39, .int p0, .ref b42] rfl (k_X1_prepare l D T b36 b39 p0 b42 S27 m44 m45 m46 m47 g37 g40 g43 g48) (w0_V 3 C.2.2.2.2.1 kw_1345 kw_1346 kw_1347 kw_8 kw_1348 rfl rfl (by decide +kernel) ⟨Nat.le_of_ble_eq_true rfl, Nat.le_of_ble_eq_true rfl⟩) rfl (Nat.le_of_ble_eq_true rfl) (Nat.le_refl _) (Nat.le_refl _) (Nat.zero_le _) (Nat.zero_le _) dX10_consolidate_24 (fun S49 L50 e51 w52 w53 hp => ?_)
  replace h := h S49 e51 hp
  have g54 := ext_K e51 g33 (by decide)
  have w55 := ext_tr w34 e51
  refine g_aload_n C dX10_consolidate_27 rfl 0 rfl ?_
  refine gc_getR C w52 iwx_X10 w53 g54 (by decide) (by decide) rfl 13 (by decide) (hW kw_255) rfl rfl rfl dX10_consolidate_28 (fun o56 eo56 ko56 => ?_)
  obtain ⟨b57, hb9, h⟩ := h
  have g58 : hK S49 b57 = 2 := ko56 b57 (eo56.trans hb9)
  replace h := h g58
  refine g_opt (eo56.trans hb9) ?_
  obtain ⟨m59, m60, m61, h⟩ := h
  obtain ⟨g62, h⟩ := h
  refine gc_callvV (host := "") C E w52 w53 g58 (by decide) (by decide) rfl [] rfl (k_X1_findBest l D T b57 S49 m59 m60 m61 g58 g62) (w0_V 0 C.2.2.2.2.1 kw_1356 kw_1357 kw_1358 kw_8 kw_1359 rfl rfl (by decide +kernel) ⟨Nat.le_of_ble_eq_true rfl, Nat.le_of_ble_eq_true rfl⟩) rfl (Nat.le_of_ble_eq_true rfl) (Nat.le_refl _) (Nat.le_refl _) (Nat.zero_le _) (Nat.zero_le _) dX10_consolidate_31 (fun S63 L64 e65 w66 w67 hp => ?_)
  replace h := h S63 e65 hp
  have g68 := ext_K e65 g54 (by decide)
  have w69 := ext_tr w55 e65
  refine g_aload_n C dX10_consolidate_34 rfl 0 rfl ?_
  refine gc_getR C w66 iwx_X10 w67 g68 (by decide) (by decide) rfl 13 (by decide) (hW kw_255) rfl rfl rfl dX10_consolidate_35 (fun o70 eo70 ko70 => ?_)
  obtain ⟨b71, hb9, h⟩ := h
  have g72 : hK S63 b71 = 2 := ko70 b71 (eo70.trans hb9)
  replace h := h g72
  refine g_opt (eo70.trans hb9) ?_
  obtain ⟨m73, m74, h⟩ := h
  obtain ⟨g75, h⟩ := h
  refine gc_calliV (host := "") C E w66 w67 g72 (by decide) (by decide) rfl [] rfl (k_X1_total l D T b71 S63 m73 m74 g72 g75) (w0_V 0 C.2.2.2.2.1 kw_1369 kw_1370 kw_1371 kw_8 kw_1372 rfl rfl (by decide +kernel) ⟨Nat.le_of_ble_eq_true rfl, Nat.le_of_ble_eq_true rfl⟩) rfl (Nat.le_of_ble_eq_true rfl) (Nat.le_refl _) (Nat.le_refl _) (Nat.zero_le _) (Nat.zero_le _) dX10_consolidate_38 (fun v9 S9 L76 he9 hw9 hL9 hp => ?_)
  obtain ⟨hv9, hs9⟩ := hp
  replace hs9 := hs9.symm
  subst hs9
  replace hv9 := hv9.symm
  subst hv9
  have w79 := hL9
  exact gx_iret C w66 w79 w69 hr dX10_consolidate_41 h
theorem c_X10_consolidate (l : Launch) (hst : l.stackTraces = false) (D : va_G) (T : Nat → ClassId) (x0 : Nat) (p0 : Int32) (S : HS) (mc ms : Nat) (hx0 : hK S x0 = 11) (P : Int32 → HS → Prop) (X : String → HS → Prop) (h : wp_X10_consolidate P X x0 p0 S mc ms) : CXi l yX10_consolidate (ws_X10_consolidate) rm_X10_consolidate D T [.ref x0, .int p0] S mc ms P X := gx_meti (by decide) rfl rfl (Nat.le_of_ble_eq_true rfl) (fun p e s m args below meth c A L C E hnm hr htab hw hL => t_X10_consolidate C E hst htab hr P X x0 p0 S S mc ms L rfl hw hL hx0 h)
def wp_X10_group (P : Int32 → HS → Prop) (X : String → HS → Prop) (x0 : Nat) (p0 : Int32) (p1 : Int32) (S : HS) (mc ms : Nat) : Prop := ∃ cc1 cc2 : Nat, (cc1 ≤ mc ∧ cc2 ≤ ms) ∧ (∃ (m4 : (Nat → Nat)) (m5 : (Nat → Nat → Int32)) (m6 : (Nat → Int32)) (m7 : (Nat → Int32)) (m8 : (List Int32)), ((FrS S m4 m5 m6 m7 m8 ∧ x0 = m4 50 ∧ 2 ≤ cc1 ∧ 12 ≤ cc2) ∧ ((∀ (E9 : String) (S9 : HS), ext S S9 → (((lckF (m5 0) p0 8 = 1 ∧ E9 = "java/lang/IndexOutOfBoundsException") ∨ (lckF (m5 0) p0 8 = 2 ∧ E9 = "java/lang/IllegalArgumentException")) ∧ S9 = S) → X E9 S9) ∧ (∀ (S10 : HS), ext S S10 → (lckF (m5 0) p0 8 = 0 ∧ S10 = S) → (∃ cc18 cc19 : Nat, (cc18 ≤ (mc - cc1) ∧ cc19 ≤ (ms - cc2)) ∧ (∃ (m21 : (Nat → Nat)) (m22 : (Nat → Nat → Int32)) (m23 : (Nat → Int32)) (m24 : (Nat → Int32)) (m25 : (List Int32)), ((FrS S10 m21 m22 m23 m24 m25 ∧ x0 = m21 50 ∧ gok (m22 0) p0 ∧ 1 ≤ cc18 ∧ 6 ≤ cc19) ∧ ((∀ (E9 : String) (S9 : HS), ext S10 S9 → (E9 = "java/lang/IllegalStateException" ∧ ∃ t, rfF (m22 0) (iv p0) = some t ∧ FrS S9 m21 m22 (if (0 : Int32) = 0 then m23 else kpG m23 (nI (rsnD (m22 0) (2 ^ t)).1) (rsnD (m22 0) (2 ^ t)).2) m24 m25) → X E9 S9) ∧ (∀ (S27 : HS), ext S10 S27 → (rfF (m22 0) (iv p0) = none ∧ FrS S27 m21 m22 m23 m24 m25) → (∃ b36 : Nat, hR S27 233 x0 = some b36 ∧ (hK S27 b36 = 2 → (∃ b39 : Nat, hR S27 220 x0 = some b39 ∧ (hK S27 b39 = 7 → (∃ b42 : Nat, hR S27 232 x0 = some b42 ∧ (hK S27 b42 = 3 → (∃ (m44 : (Nat → Prop)) (m45 : Nat → Int32) (m46 : Nat → Nat) (m47 : Nat), ((prC S27 m44 b39 m45 b42 b36 m46 ∧ m47 < 2 ^ iv (m45 1) ∧ p0 = nI m47 ∧ (memL m47 10 0).length ≤ 8 ∧ hA S27 (m46 0) 0 = 0) ∧ (∀ (S49 : HS), ext S27 S49 → (frQ S27 S49 b36 b42 m46 ∧ hI S49 40 b36 = nI (memL m47 10 0).length ∧ hI S49 47 b36 = hI S27 47 b36 ∧ (∀ p, p < 2 ^ (memL m47 10 0).length → hA S49 (m46 0) p = nI (spr (memL m47 10 0) (memL m47 10 0).length p)) ∧ ∀ p, 0 < p → p < 2 ^ (memL m47 10 0).length → hA S49 (m46 1) p = ttF m45 (spr (memL m47 10 0) (memL m47 10 0).length p)) → (∃ b57 : Nat, hR S49 233 x0 = some b57 ∧ (hK S49 b57 = 2 → (∃ (m59 : Nat → Nat) (m60 : Nat) (m61 : List Nat), ((PlO S49 b57 m59 ∧ hI S49 40 b57 = nI m60 ∧ m60 ≤ 8 ∧ m61.length ≤ 8 ∧ (fbK (hA S49 (m59 1)) (2 ^ m60 - 1) 1 (roW S49 m59)).2.1 (2 ^ m60 - 1) = nI m61.length ∧ chn (fbK (hA S49 (m59 1)) (2 ^ m60 - 1) 1 (roW S49 m59)).2.2 (2 ^ m60 - 1) m61) ∧ (∀ (S63 : HS), ext S49 S63 → (frP S49 S63 b57 m59 [47] [2, 3, 4, 5] ∧ PlP S63 b57 m59 m61 ∧ hA S63 (m59 2) 0 = hA S49 (m59 2) 0 ∧ hA S63 (m59 3) 0 = hA S49 (m59 3) 0) → (∃ b71 : Nat, hR S63 233 x0 = some b71 ∧ (hK S63 b71 = 2 → ((¬ (zin p1 (-1) ((hI S63 47 b71) - 1)) = 0 → ((¬ p1 = (-1) → (∃ b80 : Nat, hR S63 233 x0 = some b80 ∧ (hK S63 b80 = 2 → (∃ b83 : Nat, hR S63 41 b80 = some b83 ∧ (hK S63 b83 = 22 → (∃ b86 : Nat, hR S63 233 x0 = some b86 ∧ (hK S63 b86 = 2 → (∃ b89 : Nat, hR S63 46 b86 = some b89 ∧ (hK S63 b89 = 22 → (vp_in p1 (hN S63 b89) ∧ (vp_in (hA S63 b89 (Int32.toNatClampNeg p1)) (hN S63 b83) ∧ (P (hA S63 b83 (Int32.toNatClampNeg (hA S63 b89 (Int32.toNatClampNeg p1)))) S63)))))))))))) ∧ (p1 = (-1) → (∃ b94 : Nat, hR S63 233 x0 = some b94 ∧ (hK S63 b94 = 2 → (P (hI S63 47 b94) S63)))))) ∧ ((zin p1 (-1) ((hI S63 47 b71) - 1)) = 0 → ((1 ≤ ((mc - cc1) - cc18) ∧ 6 ≤ ((ms - cc2) - cc19)) ∧ X "java/util/NoSuchElementException" S63))))))))))))))))))))))))))))
set_option maxRecDepth 100000 in
set_option maxHeartbeats 4000000 in
theorem t_X10_group {p : Program} {l : Launch} {e : Env} {s : State} {m : MethodId} {args : Array Value} {below : List Frame} {meth : Method} {c : Code} {D : va_G} {A : Nat → Prop} {T : Nat → ClassId} (C : GC p s m args meth c cX10_group "FreightRater" (ws_X10_group) 3 D A (zty T)) (E : GE T A s) (hst : l.stackTraces = false) (htab : ∀ z ∈ c.exceptionTable.toList, False) (hr : meth.sig.returnType = (some .int)) (P : Int32 → HS → Prop) (X : String → HS → Prop) : ∀ (x0 : Nat) (p0 : Int32) (p1 : Int32) (S0 S : HS) (mc ms : Nat) (L : List Nat), S0 = S → wt S → hL S L → (hK S x0 = 11) → wp_X10_group P X x0 p0 p1 S mc ms → GW p l e { rm_X10_group with cells := mc, slots := ms } s m args below meth c D A 3 mc ms (vx_MQ below (va_Qi (fun v (u : HS × List Nat) => P v u.1 ∧ CO S0 u) (CE D T A) A) (CXX D T A S0 X) args s mc ms A) (CW T S L) mc ms 0 [(0, .ref x0), (1, .int p0), (2, .int p1)] [] := by
  have hW : ∀ {w : Cond}, w ∈ W0 → w.before args s = true := fun h => C.2.2.2.2.1 _ (List.mem_cons_of_mem _ h)
  intro x0 p0 p1 S0 S mc ms L hS0 hw hL hx0 h
  have he : ext S0 S := by rw [hS0]; exact ext_rf
  unfold wp_X10_group at h
  refine g_aload_n C dX10_group_0 rfl 0 rfl ?_
  refine g_iload_n C dX10_group_1 rfl 1 rfl ?_
  obtain ⟨cc1, cc2, g3, h⟩ := h
  obtain ⟨m4, m5, m6, m7, m8, h⟩ := h
  obtain ⟨g9, h⟩ := h
  obtain ⟨g15, h⟩ := h
  refine gx_callvV (host := "") C E hw hL hx0 (by decide) (by decide) rfl [.int p0] rfl (k_X10_requireSet l hst D T x0 p0 S m4 m5 m6 m7 m8 cc1 cc2 hx0 g9) (w0_V 1 C.2.2.2.2.1 kw_1330 kw_1332 ks_40 kw_1 kw_1333 rfl rfl (by decide +kernel) ⟨Nat.le_of_ble_eq_true rfl, Nat.le_of_ble_eq_true rfl⟩) rfl (Nat.le_of_ble_eq_true rfl) (Nat.le_refl _) (Nat.le_refl _) g3.1 g3.2 dX10_group_2 he htab g15 (fun S10 L11 e12 w13 w14 hp => ?_)
  replace h := h S10 e12 hp
  have g16 := ext_K e12 hx0 (by decide)
  have w17 := ext_tr he e12
  refine g_aload_n C dX10_group_5 rfl 0 rfl ?_
  refine g_iload_n C dX10_group_6 rfl 1 rfl ?_
  refine g_iconst (v := 0) C dX10_group_7 (by decide) ?_
  obtain ⟨cc18, cc19, g20, h⟩ := h
  obtain ⟨m21, m22, m23, m24, m25, h⟩ := h
  obtain ⟨g26, h⟩ := h
  obtain ⟨g32, h⟩ := h
  refine gx_callvV (host := "") C E w13 w14 g16 (by decide) (by decide) rfl [.int p0, .int 0] rfl (k_X10_requireSingles l hst D T x0 p0 0 S10 m21 m22 m23 m24 m25 cc18 cc19 g16 g26) (w0_V 2 C.2.2.2.2.1 kw_1340 kw_1342 ks_41 kw_1 kw_1343 rfl rfl (by decide +kernel) ⟨Nat.le_of_ble_eq_true rfl, Nat.le_of_ble_eq_true rfl⟩) rfl (Nat.le_of_ble_eq_true rfl) (Nat.le_refl _) (Nat.le_refl _) g20.1 g20.2 dX10_group_8 w17 htab g32 (fun S27 L28 e29 w30 w31 hp => ?_)
  replace h := h S27 e29 hp
  have g33 := ext_K e29 g16 (by decide)
  have w34 := ext_tr w17 e29
  refine g_aload_n C dX10_group_11 rfl 0 rfl ?_
  refine gc_getR C w30 iwx_X10 w31 g33 (by decide) (by decide) rfl 13 (by decide) (hW kw_255) rfl rfl rfl dX10_group_12 (fun o35 eo35 ko35 => ?_)
  obtain ⟨b36, hb9, h⟩ := h
  have g37 : hK S27 b36 = 2 := ko35 b36 (eo35.trans hb9)
  replace h := h g37
  refine g_opt (eo35.trans hb9) ?_
  refine g_aload_n C dX10_group_15 rfl 0 rfl ?_
  refine gc_getR C w30 iwx_X10 w31 g33 (by decide) (by decide) rfl 0 (by decide) (hW kw_242) rfl rfl rfl dX10_group_16 (fun o38 eo38 ko38 => ?_)
  obtain ⟨b39, hb9, h⟩ := h
  have g40 : hK S27 b39 = 7 := ko38 b39 (eo38.trans hb9)
  replace h := h g40
  refine g_opt (eo38.trans hb9) ?_
  refine g_iload_n C dX10_group_19 rfl 1 rfl ?_
  refine g_aload_n C dX10_group_20 rfl 0 rfl ?_
  refine gc_getR C w30 iwx_X10 w31 g33 (by decide) (by decide) rfl 12 (by decide) (hW kw_254) rfl rfl rfl dX10_group_21 (fun o41 eo41 ko41 => ?_)
  obtain ⟨b42, hb9, h⟩ := h
  have g43 : hK S27 b42 = 3 := ko41 b42 (eo41.trans hb9)
  replace h := h g43
  refine g_opt (eo41.trans hb9) ?_
  obtain ⟨m44, m45, m46, m47, h⟩ := h
  obtain ⟨g48, h⟩ := h
  refine gc_callvV (host := "") C E w30 w31 g37 (by decide) (by decide) rfl [.ref b39, .int p0, .ref b42] rfl (k_X1_prepare l D T b36 b39 p0 b42 S27 m44 m45 m46 m47 g37 g40 g43 g48) (w0_V 3 C.2.2.2.2.1 kw_1345 kw_1346 kw_1347 kw_8 kw_1348 rfl rfl (by decide +kernel) ⟨Nat.le_of_ble_eq_true rfl, Nat.le_of_ble_eq_true rfl⟩) rfl (Nat.le_of_ble_eq_true rfl) (Nat.le_refl _) (Nat.le_refl _) (Nat.zero_le _) (Nat.zero_le _) dX10_group_24 (fun S49 L50 e51 w52 w53 hp => ?_)
  replace h := h S49 e51 hp
  have g54 := ext_K e51 g33 (by decide)
  have w55 := ext_tr w34 e51
  refine g_aload_n C dX10_group_27 rfl 0 rfl ?_
  refine gc_getR C w52 iwx_X10 w53 g54 (by decide) (by decide) rfl 13 (by decide) (hW kw_255) rfl rfl rfl dX10_group_28 (fun o56 eo56 ko56 => ?_)
  obtain ⟨b57, hb9, h⟩ := h
  have g58 : hK S49 b57 = 2 := ko56 b57 (eo56.trans hb9)
  replace h := h g58
  refine g_opt (eo56.trans hb9) ?_
  obtain ⟨m59, m60, m61, h⟩ := h
  obtain ⟨g62, h⟩ := h
  refine gc_callvV (host := "") C E w52 w53 g58 (by decide) (by decide) rfl [] rfl (k_X1_findBest l D T b57 S49 m59 m60 m61 g58 g62) (w0_V 0 C.2.2.2.2.1 kw_1356 kw_1357 kw_1358 kw_8 kw_1359 rfl rfl (by decide +kernel) ⟨Nat.le_of_ble_eq_true rfl, Nat.le_of_ble_eq_true rfl⟩) rfl (Nat.le_of_ble_eq_true rfl) (Nat.le_refl _) (Nat.le_refl _) (Nat.zero_le _) (Nat.zero_le _) dX10_group_31 (fun S63 L64 e65 w66 w67 hp => ?_)
  replace h := h S63 e65 hp
  have g68 := ext_K e65 g54 (by decide)
  have w69 := ext_tr w55 e65
  refine g_iload_n C dX10_group_34 rfl 2 rfl ?_
  refine g_iconst (v := -1) C dX10_group_35 (by decide) ?_
  refine g_aload_n C dX10_group_36 rfl 0 rfl ?_
  refine gc_getR C w66 iwx_X10 w67 g68 (by decide) (by decide) rfl 13 (by decide) (hW kw_255) rfl rfl rfl dX10_group_37 (fun o70 eo70 ko70 => ?_)
  obtain ⟨b71, hb9, h⟩ := h
  have g72 : hK S63 b71 = 2 := ko70 b71 (eo70.trans hb9)
  replace h := h g72
  refine g_opt (eo70.trans hb9) ?_
  refine gc_getI C iwx_X1 w67 g72 (by decide) (by decide) rfl 7 (by decide) (hW kw_224) rfl rfl rfl dX10_group_40 ?_
  refine g_iconst (v := 1) C dX10_group_43 (by decide) ?_
  refine g_isub C dX10_group_44 ?_
  refine gc_calliS (host := "") C E w66 w67 [.int p1, .int (-1), .int ((hI S63 47 b71) - 1)] rfl (k_X10_isBetween l D T p1 (-1) ((hI S63 47 b71) - 1) S63 ) (w0_S 3 C.2.2.2.2.1 kw_303 kw_304 kw_1 kw_305 rfl rfl (by decide +kernel) ⟨Nat.le_of_ble_eq_true rfl, Nat.le_of_ble_eq_true rfl⟩) rfl (Nat.le_of_ble_eq_true rfl) (Nat.le_refl _) (Nat.le_refl _) (Nat.zero_le _) (Nat.zero_le _) dX10_group_45 (fun v9 S9 L73 he9 hw9 hL9 hp => ?_)
  obtain ⟨hv9, hs9⟩ := hp
  replace hs9 := hs9.symm
  subst hs9
  replace hv9 := hv9.symm
  subst hv9
  have w76 := hL9
  refine g_if_ne (tgt := 59) C dX10_group_48 (by decide) (fun z77 => ?_) (fun z77 => ?_)
  · replace h := h.1 z77
    refine g_iload_n C dX10_group_59 rfl 2 rfl ?_
    refine g_iconst (v := -1) C dX10_group_60 (by decide) ?_
    refine g_icmp_ne (tgt := 74) C dX10_group_61 (by decide) (fun z78 => ?_) (fun z78 => ?_)
    · replace h := h.1 z78
      refine g_aload_n C dX10_group_74 rfl 0 rfl ?_
      refine gc_getR C w66 iwx_X10 w76 g68 (by decide) (by decide) rfl 13 (by decide) (hW kw_255) rfl rfl rfl dX10_group_75 (fun o79 eo79 ko79 => ?_)
      obtain ⟨b80, hb9, h⟩ := h
      have g81 : hK S63 b80 = 2 := ko79 b80 (eo79.trans hb9)
      replace h := h g81
      refine g_opt (eo79.trans hb9) ?_
      refine gc_getR C w66 iwx_X1 w76 g81 (by decide) (by decide) rfl 1 (by decide) (hW kw_215) rfl rfl rfl dX10_group_78 (fun o82 eo82 ko82 => ?_)
      obtain ⟨b83, hb9, h⟩ := h
      have g84 : hK S63 b83 = 22 := ko82 b83 (eo82.trans hb9)
      replace h := h g84
      refine g_opt (eo82.trans hb9) ?_
      refine g_aload_n C dX10_group_81 rfl 0 rfl ?_
      refine gc_getR C w66 iwx_X10 w76 g68 (by decide) (by decide) rfl 13 (by decide) (hW kw_255) rfl rfl rfl dX10_group_82 (fun o85 eo85 ko85 => ?_)
      obtain ⟨b86, hb9, h⟩ := h
      have g87 : hK S63 b86 = 2 := ko85 b86 (eo85.trans hb9)
      replace h := h g87
      refine g_opt (eo85.trans hb9) ?_
      refine gc_getR C w66 iwx_X1 w76 g87 (by decide) (by decide) rfl 6 (by decide) (hW kw_222) rfl rfl rfl dX10_group_85 (fun o88 eo88 ko88 => ?_)
      obtain ⟨b89, hb9, h⟩ := h
      have g90 : hK S63 b89 = 22 := ko88 b89 (eo88.trans hb9)
      replace h := h g90
      refine g_opt (eo88.trans hb9) ?_
      refine g_iload_n C dX10_group_88 rfl 2 rfl ?_
      obtain ⟨g91, h⟩ := h
      refine gc_iald C w76 g90 g91 dX10_group_89 ?_
      obtain ⟨g92, h⟩ := h
      refine gc_iald C w76 g84 g92 dX10_group_90 ?_
      exact gx_iret C w66 w76 w69 hr dX10_group_91 h
    · replace h := h.2 z78
      refine g_aload_n C dX10_group_64 rfl 0 rfl ?_
      refine gc_getR C w66 iwx_X10 w76 g68 (by decide) (by decide) rfl 13 (by decide) (hW kw_255) rfl rfl rfl dX10_group_65 (fun o93 eo93 ko93 => ?_)
      obtain ⟨b94, hb9, h⟩ := h
      have g95 : hK S63 b94 = 2 := ko93 b94 (eo93.trans hb9)
      replace h := h g95
      refine g_opt (eo93.trans hb9) ?_
      refine gc_getI C iwx_X1 w76 g95 (by decide) (by decide) rfl 7 (by decide) (hW kw_224) rfl rfl rfl dX10_group_68 ?_
      refine g_goto (tgt := 91) C dX10_group_71 (by decide) ?_
      exact gx_iret C w66 w76 w69 hr dX10_group_91 h
  · replace h := h.2 z77
    obtain ⟨g96, h⟩ := h
    exact gx_throw (cls := "java/util/NoSuchElementException") (names := ["java/lang/RuntimeException", "java/lang/Exception"]) C E hst w66 w76 w69 (Nat.le_refl _) (Nat.le_refl _) (by decide) (by decide) (hW kw_966) (hW kw_34) (th_FreightRater_136 hW E) tv_FreightRater_136 dX10_group_51 dX10_group_54 dX10_group_55 dX10_group_58 htab (Nat.le_of_ble_eq_true rfl) (Nat.le_of_ble_eq_true rfl) g96.1 g96.2 h
theorem c_X10_group (l : Launch) (hst : l.stackTraces = false) (D : va_G) (T : Nat → ClassId) (x0 : Nat) (p0 : Int32) (p1 : Int32) (S : HS) (mc ms : Nat) (hx0 : hK S x0 = 11) (P : Int32 → HS → Prop) (X : String → HS → Prop) (h : wp_X10_group P X x0 p0 p1 S mc ms) : CXi l yX10_group (ws_X10_group) rm_X10_group D T [.ref x0, .int p0, .int p1] S mc ms P X := gx_meti (by decide) rfl rfl (Nat.le_of_ble_eq_true rfl) (fun p e s m args below meth c A L C E hnm hr htab hw hL => t_X10_group C E hst htab hr P X x0 p0 p1 S S mc ms L rfl hw hL hx0 h)
def wp_X10_searched (P : Int32 → HS → Prop) (X : String → HS → Prop) (x0 : Nat) (p0 : Int32) (S : HS) (mc ms : Nat) : Prop := ∃ cc1 cc2 : Nat, (cc1 ≤ mc ∧ cc2 ≤ ms) ∧ (∃ (m4 : (Nat → Nat)) (m5 : (Nat → Nat → Int32)) (m6 : (Nat → Int32)) (m7 : (Nat → Int32)) (m8 : (List Int32)), ((FrS S m4 m5 m6 m7 m8 ∧ x0 = m4 50 ∧ 2 ≤ cc1 ∧ 12 ≤ cc2) ∧ ((∀ (E9 : String) (S9 : HS), ext S S9 → (((lckF (m5 0) p0 8 = 1 ∧ E9 = "java/lang/IndexOutOfBoundsException") ∨ (lckF (m5 0) p0 8 = 2 ∧ E9 = "java/lang/IllegalArgumentException")) ∧ S9 = S) → X E9 S9) ∧ (∀ (S10 : HS), ext S S10 → (lckF (m5 0) p0 8 = 0 ∧ S10 = S) → (∃ (m18 : Nat), ((m18 < 1024 ∧ p0 = nI m18) ∧ (((nI (popN m18)) ≤ 6 → (∃ cc25 cc26 : Nat, (cc25 ≤ (mc - cc1) ∧ cc26 ≤ (ms - cc2)) ∧ (∃ (m28 : (Nat → Nat)) (m29 : (Nat → Nat → Int32)) (m30 : (Nat → Int32)) (m31 : (Nat → Int32)) (m32 : (List Int32)), ((FrS S10 m28 m29 m30 m31 m32 ∧ x0 = m28 50 ∧ gok (m29 0) p0 ∧ 1 ≤ cc25 ∧ 6 ≤ cc26) ∧ ((∀ (E9 : String) (S9 : HS), ext S10 S9 → (E9 = "java/lang/IllegalStateException" ∧ ∃ t, rfF (m29 0) (iv p0) = some t ∧ FrS S9 m28 m29 (if (0 : Int32) = 0 then m30 else kpG m30 (nI (rsnD (m29 0) (2 ^ t)).1) (rsnD (m29 0) (2 ^ t)).2) m31 m32) → X E9 S9) ∧ (∀ (S34 : HS), ext S10 S34 → (rfF (m29 0) (iv p0) = none ∧ FrS S34 m28 m29 m30 m31 m32) → (∃ b43 : Nat, hR S34 233 x0 = some b43 ∧ (hK S34 b43 = 2 → (∃ b46 : Nat, hR S34 220 x0 = some b46 ∧ (hK S34 b46 = 7 → (∃ b49 : Nat, hR S34 232 x0 = some b49 ∧ (hK S34 b49 = 3 → (∃ (m51 : (Nat → Prop)) (m52 : Nat → Int32) (m53 : Nat → Nat) (m54 : Nat), ((prC S34 m51 b46 m52 b49 b43 m53 ∧ m54 < 2 ^ iv (m52 1) ∧ p0 = nI m54 ∧ (memL m54 10 0).length ≤ 8 ∧ hA S34 (m53 0) 0 = 0) ∧ (∀ (S56 : HS), ext S34 S56 → (frQ S34 S56 b43 b49 m53 ∧ hI S56 40 b43 = nI (memL m54 10 0).length ∧ hI S56 47 b43 = hI S34 47 b43 ∧ (∀ p, p < 2 ^ (memL m54 10 0).length → hA S56 (m53 0) p = nI (spr (memL m54 10 0) (memL m54 10 0).length p)) ∧ ∀ p, 0 < p → p < 2 ^ (memL m54 10 0).length → hA S56 (m53 1) p = ttF m52 (spr (memL m54 10 0) (memL m54 10 0).length p)) → (∃ b64 : Nat, hR S56 233 x0 = some b64 ∧ (hK S56 b64 = 2 → (∃ (m66 : Nat → Nat) (m67 : Nat), ((PlO S56 b64 m66 ∧ hI S56 40 b64 = nI m67 ∧ m67 ≤ 6) ∧ (∀ (v74 : Int32) (S69 : HS), ext S56 S69 → (frP S56 S69 b64 m66 [47] [5] ∧ v74 = trF (hA S56 (m66 1)) m67 0 []) → (P v74 S69))))))))))))))))))))) ∧ (¬ (nI (popN m18)) ≤ 6 → ((1 ≤ (mc - cc1) ∧ 6 ≤ (ms - cc2)) ∧ X "java/lang/IllegalArgumentException" S10)))))))))
set_option maxRecDepth 100000 in
set_option maxHeartbeats 4000000 in
theorem t_X10_searched {p : Program} {l : Launch} {e : Env} {s : State} {m : MethodId} {args : Array Value} {below : List Frame} {meth : Method} {c : Code} {D : va_G} {A : Nat → Prop} {T : Nat → ClassId} (C : GC p s m args meth c cX10_searched "FreightRater" (ws_X10_searched) 2 D A (zty T)) (E : GE T A s) (hst : l.stackTraces = false) (htab : ∀ z ∈ c.exceptionTable.toList, False) (hr : meth.sig.returnType = (some .int)) (P : Int32 → HS → Prop) (X : String → HS → Prop) : ∀ (x0 : Nat) (p0 : Int32) (S0 S : HS) (mc ms : Nat) (L : List Nat), S0 = S → wt S → hL S L → (hK S x0 = 11) → wp_X10_searched P X x0 p0 S mc ms → GW p l e { rm_X10_searched with cells := mc, slots := ms } s m args below meth c D A 2 mc ms (vx_MQ below (va_Qi (fun v (u : HS × List Nat) => P v u.1 ∧ CO S0 u) (CE D T A) A) (CXX D T A S0 X) args s mc ms A) (CW T S L) mc ms 0 [(0, .ref x0), (1, .int p0)] [] := by
  have hW : ∀ {w : Cond}, w ∈ W0 → w.before args s = true := fun h => C.2.2.2.2.1 _ (List.mem_cons_of_mem _ h)
  intro x0 p0 S0 S mc ms L hS0 hw hL hx0 h
  have he : ext S0 S := by rw [hS0]; exact ext_rf
  unfold wp_X10_searched at h
  refine g_aload_n C dX10_searched_0 rfl 0 rfl ?_
  refine g_iload_n C dX10_searched_1 rfl 1 rfl ?_
  obtain ⟨cc1, cc2, g3, h⟩ := h
  obtain ⟨m4, m5, m6, m7, m8, h⟩ := h
  obtain ⟨g9, h⟩ := h
  obtain ⟨g15, h⟩ := h
  refine gx_callvV (host := "") C E hw hL hx0 (by decide) (by decide) rfl [.int p0] rfl (k_X10_requireSet l hst D T x0 p0 S m4 m5 m6 m7 m8 cc1 cc2 hx0 g9) (w0_V 1 C.2.2.2.2.1 kw_1330 kw_1332 ks_40 kw_1 kw_1333 rfl rfl (by decide +kernel) ⟨Nat.le_of_ble_eq_true rfl, Nat.le_of_ble_eq_true rfl⟩) rfl (Nat.le_of_ble_eq_true rfl) (Nat.le_refl _) (Nat.le_refl _) g3.1 g3.2 dX10_searched_2 he htab g15 (fun S10 L11 e12 w13 w14 hp => ?_)
  replace h := h S10 e12 hp
  have g16 := ext_K e12 hx0 (by decide)
  have w17 := ext_tr he e12
  refine g_iload_n C dX10_searched_5 rfl 1 rfl ?_
  obtain ⟨m18, h⟩ := h
  obtain ⟨g19, h⟩ := h
  refine gc_calliS (host := "") C E w13 w14 [.int p0] rfl (k_J6_bitCount_0f7a4 l D T p0 S10 m18  g19) (w0_S 1 C.2.2.2.2.1 kw_1334 kw_1335 kw_37 kw_1336 rfl rfl (by decide +kernel) ⟨Nat.le_of_ble_eq_true rfl, Nat.le_of_ble_eq_true rfl⟩) rfl (Nat.le_of_ble_eq_true rfl) (Nat.le_refl _) (Nat.le_refl _) (Nat.zero_le _) (Nat.zero_le _) dX10_searched_6 (fun v9 S9 L20 he9 hw9 hL9 hp => ?_)
  obtain ⟨hv9, hs9⟩ := hp
  replace hs9 := hs9.symm
  subst hs9
  replace hv9 := hv9.symm
  subst hv9
  have w23 := hL9
  refine g_bipush (v := 6) C dX10_searched_9 (by decide) ?_
  refine g_icmp_le (tgt := 22) C dX10_searched_11 (by decide) (fun z24 => ?_) (fun z24 => ?_)
  · replace h := h.1 z24
    refine g_aload_n C dX10_searched_22 rfl 0 rfl ?_
    refine g_iload_n C dX10_searched_23 rfl 1 rfl ?_
    refine g_iconst (v := 0) C dX10_searched_24 (by decide) ?_
    obtain ⟨cc25, cc26, g27, h⟩ := h
    obtain ⟨m28, m29, m30, m31, m32, h⟩ := h
    obtain ⟨g33, h⟩ := h
    obtain ⟨g39, h⟩ := h
    refine gx_callvV (host := "") C E w13 w23 g16 (by decide) (by decide) rfl [.int p0, .int 0] rfl (k_X10_requireSingles l hst D T x0 p0 0 S10 m28 m29 m30 m31 m32 cc25 cc26 g16 g33) (w0_V 2 C.2.2.2.2.1 kw_1340 kw_1342 ks_41 kw_1 kw_1343 rfl rfl (by decide +kernel) ⟨Nat.le_of_ble_eq_true rfl, Nat.le_of_ble_eq_true rfl⟩) rfl (Nat.le_of_ble_eq_true rfl) (Nat.le_refl _) (Nat.le_refl _) g27.1 g27.2 dX10_searched_25 w17 htab g39 (fun S34 L35 e36 w37 w38 hp => ?_)
    replace h := h S34 e36 hp
    have g40 := ext_K e36 g16 (by decide)
    have w41 := ext_tr w17 e36
    refine g_aload_n C dX10_searched_28 rfl 0 rfl ?_
    refine gc_getR C w37 iwx_X10 w38 g40 (by decide) (by decide) rfl 13 (by decide) (hW kw_255) rfl rfl rfl dX10_searched_29 (fun o42 eo42 ko42 => ?_)
    obtain ⟨b43, hb9, h⟩ := h
    have g44 : hK S34 b43 = 2 := ko42 b43 (eo42.trans hb9)
    replace h := h g44
    refine g_opt (eo42.trans hb9) ?_
    refine g_aload_n C dX10_searched_32 rfl 0 rfl ?_
    refine gc_getR C w37 iwx_X10 w38 g40 (by decide) (by decide) rfl 0 (by decide) (hW kw_242) rfl rfl rfl dX10_searched_33 (fun o45 eo45 ko45 => ?_)
    obtain ⟨b46, hb9, h⟩ := h
    have g47 : hK S34 b46 = 7 := ko45 b46 (eo45.trans hb9)
    replace h := h g47
    refine g_opt (eo45.trans hb9) ?_
    refine g_iload_n C dX10_searched_36 rfl 1 rfl ?_
    refine g_aload_n C dX10_searched_37 rfl 0 rfl ?_
    refine gc_getR C w37 iwx_X10 w38 g40 (by decide) (by decide) rfl 12 (by decide) (hW kw_254) rfl rfl rfl dX10_searched_38 (fun o48 eo48 ko48 => ?_)
    obtain ⟨b49, hb9, h⟩ := h
    have g50 : hK S34 b49 = 3 := ko48 b49 (eo48.trans hb9)
    replace h := h g50
    refine g_opt (eo48.trans hb9) ?_
    obtain ⟨m51, m52, m53, m54, h⟩ := h
    obtain ⟨g55, h⟩ := h
    refine gc_callvV (host := "") C E w37 w38 g44 (by decide) (by decide) rfl [.ref b46, .int p0, .ref b49] rfl (k_X1_prepare l D T b43 b46 p0 b49 S34 m51 m52 m53 m54 g44 g47 g50 g55) (w0_V 3 C.2.2.2.2.1 kw_1345 kw_1346 kw_1347 kw_8 kw_1348 rfl rfl (by decide +kernel) ⟨Nat.le_of_ble_eq_true rfl, Nat.le_of_ble_eq_true rfl⟩) rfl (Nat.le_of_ble_eq_true rfl) (Nat.le_refl _) (Nat.le_refl _) (Nat.zero_le _) (Nat.zero_le _) dX10_searched_41 (fun S56 L57 e58 w59 w60 hp => ?_)
    replace h := h S56 e58 hp
    have g61 := ext_K e58 g40 (by decide)
    have w62 := ext_tr w41 e58
    refine g_aload_n C dX10_searched_44 rfl 0 rfl ?_
    refine gc_getR C w59 iwx_X10 w60 g61 (by decide) (by decide) rfl 13 (by decide) (hW kw_255) rfl rfl rfl dX10_searched_45 (fun o63 eo63 ko63 => ?_)
    obtain ⟨b64, hb9, h⟩ := h
    have g65 : hK S56 b64 = 2 := ko63 b64 (eo63.trans hb9)
    replace h := h g65
    refine g_opt (eo63.trans hb9) ?_
    obtain ⟨m66, m67, h⟩ := h
    obtain ⟨g68, h⟩ := h
    refine gc_calliV (host := "") C E w59 w60 g65 (by decide) (by decide) rfl [] rfl (k_X1_search l D T b64 S56 m66 m67 g65 g68) (w0_V 0 C.2.2.2.2.1 kw_1387 kw_1388 kw_1389 kw_8 kw_1390 rfl rfl (by decide +kernel) ⟨Nat.le_of_ble_eq_true rfl, Nat.le_of_ble_eq_true rfl⟩) rfl (Nat.le_of_ble_eq_true rfl) (Nat.le_refl _) (Nat.le_refl _) (Nat.zero_le _) (Nat.zero_le _) dX10_searched_48 (fun v74 S69 L70 e71 w72 w73 hp => ?_)
    replace h := h v74 S69 e71 hp
    have g75 := ext_K e71 g61 (by decide)
    have w76 := ext_tr w62 e71
    exact gx_iret C w72 w73 w76 hr dX10_searched_51 h
  · replace h := h.2 z24
    obtain ⟨g77, h⟩ := h
    exact gx_throw (cls := "java/lang/IllegalArgumentException") (names := ["java/lang/RuntimeException", "java/lang/Exception"]) C E hst w13 w23 w17 (Nat.le_refl _) (Nat.le_refl _) (by decide) (by decide) (hW kw_310) (hW kw_13) (th_FreightRater_62 hW E) tv_FreightRater_62 dX10_searched_14 dX10_searched_17 dX10_searched_18 dX10_searched_21 htab (Nat.le_of_ble_eq_true rfl) (Nat.le_of_ble_eq_true rfl) g77.1 g77.2 h
theorem c_X10_searched (l : Launch) (hst : l.stackTraces = false) (D : va_G) (T : Nat → ClassId) (x0 : Nat) (p0 : Int32) (S : HS) (mc ms : Nat) (hx0 : hK S x0 = 11) (P : Int32 → HS → Prop) (X : String → HS → Prop) (h : wp_X10_searched P X x0 p0 S mc ms) : CXi l yX10_searched (ws_X10_searched) rm_X10_searched D T [.ref x0, .int p0] S mc ms P X := gx_meti (by decide) rfl rfl (Nat.le_of_ble_eq_true rfl) (fun p e s m args below meth c A L C E hnm hr htab hw hL => t_X10_searched C E hst htab hr P X x0 p0 S S mc ms L rfl hw hL hx0 h)
def wp_X10_merged (P : Int32 → HS → Prop) (X : String → HS → Prop) (x0 : Nat) (p0 : Int32) (p1 : Int32) (S : HS) (mc ms : Nat) : Prop := ∃ cc1 cc2 : Nat, (cc1 ≤ mc ∧ cc2 ≤ ms) ∧ (∃ (m4 : (Nat → Nat)) (m5 : (Nat → Nat → Int32)) (m6 : (Nat → Int32)) (m7 : (Nat → Int32)) (m8 : (List Int32)), ((FrS S m4 m5 m6 m7 m8 ∧ x0 = m4 50 ∧ 2 ≤ cc1 ∧ 12 ≤ cc2) ∧ ((∀ (E9 : String) (S9 : HS), ext S S9 → (((lckF (m5 0) p0 8 = 1 ∧ E9 = "java/lang/IndexOutOfBoundsException") ∨ (lckF (m5 0) p0 8 = 2 ∧ E9 = "java/lang/IllegalArgumentException")) ∧ S9 = S) → X E9 S9) ∧ (∀ (S10 : HS), ext S S10 → (lckF (m5 0) p0 8 = 0 ∧ S10 = S) → ((¬ (zin p1 0 2) = 0 → (∃ cc23 cc24 : Nat, (cc23 ≤ (mc - cc1) ∧ cc24 ≤ (ms - cc2)) ∧ (∃ (m26 : (Nat → Nat)) (m27 : (Nat → Nat → Int32)) (m28 : (Nat → Int32)) (m29 : (Nat → Int32)) (m30 : (List Int32)), ((FrS S10 m26 m27 m28 m29 m30 ∧ x0 = m26 50 ∧ gok (m27 0) p0 ∧ 1 ≤ cc23 ∧ 6 ≤ cc24) ∧ ((∀ (E9 : String) (S9 : HS), ext S10 S9 → (E9 = "java/lang/IllegalStateException" ∧ ∃ t, rfF (m27 0) (iv p0) = some t ∧ FrS S9 m26 m27 (if (0 : Int32) = 0 then m28 else kpG m28 (nI (rsnD (m27 0) (2 ^ t)).1) (rsnD (m27 0) (2 ^ t)).2) m29 m30) → X E9 S9) ∧ (∀ (S32 : HS), ext S10 S32 → (rfF (m27 0) (iv p0) = none ∧ FrS S32 m26 m27 m28 m29 m30) → (∃ b41 : Nat, hR S32 233 x0 = some b41 ∧ (hK S32 b41 = 2 → (∃ b44 : Nat, hR S32 220 x0 = some b44 ∧ (hK S32 b44 = 7 → (∃ b47 : Nat, hR S32 232 x0 = some b47 ∧ (hK S32 b47 = 3 → (∃ (m49 : (Nat → Prop)) (m50 : Nat → Int32) (m51 : Nat → Nat) (m52 : Nat), ((prC S32 m49 b44 m50 b47 b41 m51 ∧ m52 < 2 ^ iv (m50 1) ∧ p0 = nI m52 ∧ (memL m52 10 0).length ≤ 8 ∧ hA S32 (m51 0) 0 = 0) ∧ (∀ (S54 : HS), ext S32 S54 → (frQ S32 S54 b41 b47 m51 ∧ hI S54 40 b41 = nI (memL m52 10 0).length ∧ hI S54 47 b41 = hI S32 47 b41 ∧ (∀ p, p < 2 ^ (memL m52 10 0).length → hA S54 (m51 0) p = nI (spr (memL m52 10 0) (memL m52 10 0).length p)) ∧ ∀ p, 0 < p → p < 2 ^ (memL m52 10 0).length → hA S54 (m51 1) p = ttF m50 (spr (memL m52 10 0) (memL m52 10 0).length p)) → (∃ b62 : Nat, hR S54 233 x0 = some b62 ∧ (hK S54 b62 = 2 → (∃ (m64 : Nat → Nat) (m65 : Nat), ((PlO S54 b62 m64 ∧ hI S54 40 b62 = nI m65 ∧ m65 ≤ 8 ∧ ∀ p, 0 < p → p < 2 ^ m65 → hA S54 (m64 1) p = -1 ∨ 0 ≤ hA S54 (m64 1) p) ∧ (∀ (S67 : HS), ext S54 S67 → (frP S54 S67 b62 m64 [47] [5] ∧ PlP S67 b62 m64 (mgL (hA S54 (m64 1)) (m65 - 1) (siC m65 0))) → ((p1 = 0 → (∃ b76 : Nat, hR S67 233 x0 = some b76 ∧ (hK S67 b76 = 2 → (∃ (m78 : Nat → Nat) (m79 : List Nat), ((PlO S67 b76 m78 ∧ PlP S67 b76 m78 m79) ∧ (P (suL (hA S67 (m78 1)) m79 0) S67)))))) ∧ (¬ p1 = 0 → ((p1 = 1 → (∃ b87 : Nat, hR S67 233 x0 = some b87 ∧ (hK S67 b87 = 2 → (P (hI S67 47 b87) S67)))) ∧ (¬ p1 = 1 → (∃ b90 : Nat, hR S67 233 x0 = some b90 ∧ (hK S67 b90 = 2 → (∃ (m92 : Nat → Nat) (m93 : List Nat), ((PlO S67 b90 m92 ∧ PlP S67 b90 m92 m93) ∧ (P (loP (hA S67 (m92 0)) m93) S67))))))))))))))))))))))))))))) ∧ ((zin p1 0 2) = 0 → ((1 ≤ (mc - cc1) ∧ 6 ≤ (ms - cc2)) ∧ X "java/lang/IllegalArgumentException" S10)))))))
set_option maxRecDepth 100000 in
set_option maxHeartbeats 4000000 in
theorem t_X10_merged {p : Program} {l : Launch} {e : Env} {s : State} {m : MethodId} {args : Array Value} {below : List Frame} {meth : Method} {c : Code} {D : va_G} {A : Nat → Prop} {T : Nat → ClassId} (C : GC p s m args meth c cX10_merged "FreightRater" (ws_X10_merged) 3 D A (zty T)) (E : GE T A s) (hst : l.stackTraces = false) (htab : ∀ z ∈ c.exceptionTable.toList, False) (hr : meth.sig.returnType = (some .int)) (P : Int32 → HS → Prop) (X : String → HS → Prop) : ∀ (x0 : Nat) (p0 : Int32) (p1 : Int32) (S0 S : HS) (mc ms : Nat) (L : List Nat), S0 = S → wt S → hL S L → (hK S x0 = 11) → wp_X10_merged P X x0 p0 p1 S mc ms → GW p l e { rm_X10_merged with cells := mc, slots := ms } s m args below meth c D A 3 mc ms (vx_MQ below (va_Qi (fun v (u : HS × List Nat) => P v u.1 ∧ CO S0 u) (CE D T A) A) (CXX D T A S0 X) args s mc ms A) (CW T S L) mc ms 0 [(0, .ref x0), (1, .int p0), (2, .int p1)] [] := by
  have hW : ∀ {w : Cond}, w ∈ W0 → w.before args s = true := fun h => C.2.2.2.2.1 _ (List.mem_cons_of_mem _ h)
  intro x0 p0 p1 S0 S mc ms L hS0 hw hL hx0 h
  have he : ext S0 S := by rw [hS0]; exact ext_rf
  unfold wp_X10_merged at h
  refine g_aload_n C dX10_merged_0 rfl 0 rfl ?_
  refine g_iload_n C dX10_merged_1 rfl 1 rfl ?_
  obtain ⟨cc1, cc2, g3, h⟩ := h
  obtain ⟨m4, m5, m6, m7, m8, h⟩ := h
  obtain ⟨g9, h⟩ := h
  obtain ⟨g15, h⟩ := h
  refine gx_callvV (host := "") C E hw hL hx0 (by decide) (by decide) rfl [.int p0] rfl (k_X10_requireSet l hst D T x0 p0 S m4 m5 m6 m7 m8 cc1 cc2 hx0 g9) (w0_V 1 C.2.2.2.2.1 kw_1330 kw_1332 ks_40 kw_1 kw_1333 rfl rfl (by decide +kernel) ⟨Nat.le_of_ble_eq_true rfl, Nat.le_of_ble_eq_true rfl⟩) rfl (Nat.le_of_ble_eq_true rfl) (Nat.le_refl _) (Nat.le_refl _) g3.1 g3.2 dX10_merged_2 he htab g15 (fun S10 L11 e12 w13 w14 hp => ?_)
  replace h := h S10 e12 hp
  have g16 := ext_K e12 hx0 (by decide)
  have w17 := ext_tr he e12
  refine g_iload_n C dX10_merged_5 rfl 2 rfl ?_
  refine g_iconst (v := 0) C dX10_merged_6 (by decide) ?_
  refine g_iconst (v := 2) C dX10_merged_7 (by decide) ?_
  refine gc_calliS (host := "") C E w13 w14 [.int p1, .int 0, .int 2] rfl (k_X10_isBetween l D T p1 0 2 S10 ) (w0_S 3 C.2.2.2.2.1 kw_303 kw_304 kw_1 kw_305 rfl rfl (by decide +kernel) ⟨Nat.le_of_ble_eq_true rfl, Nat.le_of_ble_eq_true rfl⟩) rfl (Nat.le_of_ble_eq_true rfl) (Nat.le_refl _) (Nat.le_refl _) (Nat.zero_le _) (Nat.zero_le _) dX10_merged_8 (fun v9 S9 L18 he9 hw9 hL9 hp => ?_)
  obtain ⟨hv9, hs9⟩ := hp
  replace hs9 := hs9.symm
  subst hs9
  replace hv9 := hv9.symm
  subst hv9
  have w21 := hL9
  refine g_if_ne (tgt := 22) C dX10_merged_11 (by decide) (fun z22 => ?_) (fun z22 => ?_)
  · replace h := h.1 z22
    refine g_aload_n C dX10_merged_22 rfl 0 rfl ?_
    refine g_iload_n C dX10_merged_23 rfl 1 rfl ?_
    refine g_iconst (v := 0) C dX10_merged_24 (by decide) ?_
    obtain ⟨cc23, cc24, g25, h⟩ := h
    obtain ⟨m26, m27, m28, m29, m30, h⟩ := h
    obtain ⟨g31, h⟩ := h
    obtain ⟨g37, h⟩ := h
    refine gx_callvV (host := "") C E w13 w21 g16 (by decide) (by decide) rfl [.int p0, .int 0] rfl (k_X10_requireSingles l hst D T x0 p0 0 S10 m26 m27 m28 m29 m30 cc23 cc24 g16 g31) (w0_V 2 C.2.2.2.2.1 kw_1340 kw_1342 ks_41 kw_1 kw_1343 rfl rfl (by decide +kernel) ⟨Nat.le_of_ble_eq_true rfl, Nat.le_of_ble_eq_true rfl⟩) rfl (Nat.le_of_ble_eq_true rfl) (Nat.le_refl _) (Nat.le_refl _) g25.1 g25.2 dX10_merged_25 w17 htab g37 (fun S32 L33 e34 w35 w36 hp => ?_)
    replace h := h S32 e34 hp
    have g38 := ext_K e34 g16 (by decide)
    have w39 := ext_tr w17 e34
    refine g_aload_n C dX10_merged_28 rfl 0 rfl ?_
    refine gc_getR C w35 iwx_X10 w36 g38 (by decide) (by decide) rfl 13 (by decide) (hW kw_255) rfl rfl rfl dX10_merged_29 (fun o40 eo40 ko40 => ?_)
    obtain ⟨b41, hb9, h⟩ := h
    have g42 : hK S32 b41 = 2 := ko40 b41 (eo40.trans hb9)
    replace h := h g42
    refine g_opt (eo40.trans hb9) ?_
    refine g_aload_n C dX10_merged_32 rfl 0 rfl ?_
    refine gc_getR C w35 iwx_X10 w36 g38 (by decide) (by decide) rfl 0 (by decide) (hW kw_242) rfl rfl rfl dX10_merged_33 (fun o43 eo43 ko43 => ?_)
    obtain ⟨b44, hb9, h⟩ := h
    have g45 : hK S32 b44 = 7 := ko43 b44 (eo43.trans hb9)
    replace h := h g45
    refine g_opt (eo43.trans hb9) ?_
    refine g_iload_n C dX10_merged_36 rfl 1 rfl ?_
    refine g_aload_n C dX10_merged_37 rfl 0 rfl ?_
    refine gc_getR C w35 iwx_X10 w36 g38 (by decide) (by decide) rfl 12 (by decide) (hW kw_254) rfl rfl rfl dX10_merged_38 (fun o46 eo46 ko46 => ?_)
    obtain ⟨b47, hb9, h⟩ := h
    have g48 : hK S32 b47 = 3 := ko46 b47 (eo46.trans hb9)
    replace h := h g48
    refine g_opt (eo46.trans hb9) ?_
    obtain ⟨m49, m50, m51, m52, h⟩ := h
    obtain ⟨g53, h⟩ := h
    refine gc_callvV (host := "") C E w35 w36 g42 (by decide) (by decide) rfl [.ref b44, .int p0, .ref b47] rfl (k_X1_prepare l D T b41 b44 p0 b47 S32 m49 m50 m51 m52 g42 g45 g48 g53) (w0_V 3 C.2.2.2.2.1 kw_1345 kw_1346 kw_1347 kw_8 kw_1348 rfl rfl (by decide +kernel) ⟨Nat.le_of_ble_eq_true rfl, Nat.le_of_ble_eq_true rfl⟩) rfl (Nat.le_of_ble_eq_true rfl) (Nat.le_refl _) (Nat.le_refl _) (Nat.zero_le _) (Nat.zero_le _) dX10_merged_41 (fun S54 L55 e56 w57 w58 hp => ?_)
    replace h := h S54 e56 hp
    have g59 := ext_K e56 g38 (by decide)
    have w60 := ext_tr w39 e56
    refine g_aload_n C dX10_merged_44 rfl 0 rfl ?_
    refine gc_getR C w57 iwx_X10 w58 g59 (by decide) (by decide) rfl 13 (by decide) (hW kw_255) rfl rfl rfl dX10_merged_45 (fun o61 eo61 ko61 => ?_)
    obtain ⟨b62, hb9, h⟩ := h
    have g63 : hK S54 b62 = 2 := ko61 b62 (eo61.trans hb9)
    replace h := h g63
    refine g_opt (eo61.trans hb9) ?_
    obtain ⟨m64, m65, h⟩ := h
    obtain ⟨g66, h⟩ := h
    refine gc_callvV (host := "") C E w57 w58 g63 (by decide) (by decide) rfl [] rfl (k_X1_merge l D T b62 S54 m64 m65 g63 g66) (w0_V 0 C.2.2.2.2.1 kw_1406 kw_1407 kw_1408 kw_8 kw_1409 rfl rfl (by decide +kernel) ⟨Nat.le_of_ble_eq_true rfl, Nat.le_of_ble_eq_true rfl⟩) rfl (Nat.le_of_ble_eq_true rfl) (Nat.le_refl _) (Nat.le_refl _) (Nat.zero_le _) (Nat.zero_le _) dX10_merged_48 (fun S67 L68 e69 w70 w71 hp => ?_)
    replace h := h S67 e69 hp
    have g72 := ext_K e69 g59 (by decide)
    have w73 := ext_tr w60 e69
    refine g_iload_n C dX10_merged_51 rfl 2 rfl ?_
    rcases Decidable.em (p1 = 0) with z74 | z74
    · refine g_lookup (off := 28) (tgt := 80) C dX10_merged_52 (by decide) (by rw [z74]; decide) (by decide) ?_
      replace h := h.1 z74
      refine g_aload_n C dX10_merged_80 rfl 0 rfl ?_
      refine gc_getR C w70 iwx_X10 w71 g72 (by decide) (by decide) rfl 13 (by decide) (hW kw_255) rfl rfl rfl dX10_merged_81 (fun o75 eo75 ko75 => ?_)
      obtain ⟨b76, hb9, h⟩ := h
      have g77 : hK S67 b76 = 2 := ko75 b76 (eo75.trans hb9)
      replace h := h g77
      refine g_opt (eo75.trans hb9) ?_
      obtain ⟨m78, m79, h⟩ := h
      obtain ⟨g80, h⟩ := h
      refine gc_calliV (host := "") C E w70 w71 g77 (by decide) (by decide) rfl [] rfl (k_X1_total l D T b76 S67 m78 m79 g77 g80) (w0_V 0 C.2.2.2.2.1 kw_1369 kw_1370 kw_1371 kw_8 kw_1372 rfl rfl (by decide +kernel) ⟨Nat.le_of_ble_eq_true rfl, Nat.le_of_ble_eq_true rfl⟩) rfl (Nat.le_of_ble_eq_true rfl) (Nat.le_refl _) (Nat.le_refl _) (Nat.zero_le _) (Nat.zero_le _) dX10_merged_84 (fun v9 S9 L81 he9 hw9 hL9 hp => ?_)
      obtain ⟨hv9, hs9⟩ := hp
      replace hs9 := hs9.symm
      subst hs9
      replace hv9 := hv9.symm
      subst hv9
      have w84 := hL9
      exact gx_iret C w70 w84 w73 hr dX10_merged_87 h
    replace h := h.2 z74
    rcases Decidable.em (p1 = 1) with z85 | z85
    · refine g_lookup (off := 36) (tgt := 88) C dX10_merged_52 (by decide) (by rw [z85]; decide) (by decide) ?_
      replace h := h.1 z85
      refine g_aload_n C dX10_merged_88 rfl 0 rfl ?_
      refine gc_getR C w70 iwx_X10 w71 g72 (by decide) (by decide) rfl 13 (by decide) (hW kw_255) rfl rfl rfl dX10_merged_89 (fun o86 eo86 ko86 => ?_)
      obtain ⟨b87, hb9, h⟩ := h
      have g88 : hK S67 b87 = 2 := ko86 b87 (eo86.trans hb9)
      replace h := h g88
      refine g_opt (eo86.trans hb9) ?_
      refine gc_getI C iwx_X1 w71 g88 (by decide) (by decide) rfl 7 (by decide) (hW kw_224) rfl rfl rfl dX10_merged_92 ?_
      exact gx_iret C w70 w71 w73 hr dX10_merged_95 h
    replace h := h.2 z85
    refine g_lookup (off := 44) (tgt := 96) C dX10_merged_52 (by decide) ((lv_osw z74 rfl).trans ((lv_osw z85 rfl).trans rfl)) (by decide) ?_
    refine g_aload_n C dX10_merged_96 rfl 0 rfl ?_
    refine gc_getR C w70 iwx_X10 w71 g72 (by decide) (by decide) rfl 13 (by decide) (hW kw_255) rfl rfl rfl dX10_merged_97 (fun o89 eo89 ko89 => ?_)
    obtain ⟨b90, hb9, h⟩ := h
    have g91 : hK S67 b90 = 2 := ko89 b90 (eo89.trans hb9)
    replace h := h g91
    refine g_opt (eo89.trans hb9) ?_
    obtain ⟨m92, m93, h⟩ := h
    obtain ⟨g94, h⟩ := h
    refine gc_calliV (host := "") C E w70 w71 g91 (by decide) (by decide) rfl [] rfl (k_X1_lowestGroup l D T b90 S67 m92 m93 g91 g94) (w0_V 0 C.2.2.2.2.1 kw_1422 kw_1423 kw_1424 kw_8 kw_1425 rfl rfl (by decide +kernel) ⟨Nat.le_of_ble_eq_true rfl, Nat.le_of_ble_eq_true rfl⟩) rfl (Nat.le_of_ble_eq_true rfl) (Nat.le_refl _) (Nat.le_refl _) (Nat.zero_le _) (Nat.zero_le _) dX10_merged_100 (fun v9 S9 L95 he9 hw9 hL9 hp => ?_)
    obtain ⟨hv9, hs9⟩ := hp
    replace hs9 := hs9.symm
    subst hs9
    replace hv9 := hv9.symm
    subst hv9
    have w98 := hL9
    exact gx_iret C w70 w98 w73 hr dX10_merged_103 h
  · replace h := h.2 z22
    obtain ⟨g99, h⟩ := h
    exact gx_throw (cls := "java/lang/IllegalArgumentException") (names := ["java/lang/RuntimeException", "java/lang/Exception"]) C E hst w13 w21 w17 (Nat.le_refl _) (Nat.le_refl _) (by decide) (by decide) (hW kw_310) (hW kw_13) (th_FreightRater_62 hW E) tv_FreightRater_62 dX10_merged_14 dX10_merged_17 dX10_merged_18 dX10_merged_21 htab (Nat.le_of_ble_eq_true rfl) (Nat.le_of_ble_eq_true rfl) g99.1 g99.2 h
theorem c_X10_merged (l : Launch) (hst : l.stackTraces = false) (D : va_G) (T : Nat → ClassId) (x0 : Nat) (p0 : Int32) (p1 : Int32) (S : HS) (mc ms : Nat) (hx0 : hK S x0 = 11) (P : Int32 → HS → Prop) (X : String → HS → Prop) (h : wp_X10_merged P X x0 p0 p1 S mc ms) : CXi l yX10_merged (ws_X10_merged) rm_X10_merged D T [.ref x0, .int p0, .int p1] S mc ms P X := gx_meti (by decide) rfl rfl (Nat.le_of_ble_eq_true rfl) (fun p e s m args below meth c A L C E hnm hr htab hw hL => t_X10_merged C E hst htab hr P X x0 p0 p1 S S mc ms L rfl hw hL hx0 h)
end S_CW
