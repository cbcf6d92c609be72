section S_CAF
abbrev ws_X10_setRebate : List Cond := Cond.code yX10_setRebate cX10_setRebate 4 (some .int) :: W0
abbrev rm_X10_setRebate : Room := ({ frames := 6, cells := 0, slots := 0, locals := 100 } : Room)
def wp_X10_setRebate_47 (P : Int32 → HS → Prop) (X : String → HS → Prop) (x0 : Nat) (x1 : Int32) (x2 : Int32) (x3 : Int32) (S : HS) (kc ks : Nat) : Prop := (0 ≤ x3 → (∃ (m21 : (Nat → Nat)) (m22 : (Nat → Nat → Int32)) (m23 : (Nat → Int32)) (m24 : (Nat → Int32)) (m25 : (List Int32)), ((FrS S m21 m22 m23 m24 m25 ∧ x0 = m21 50) ∧ (∀ (S27 : HS), ext S S27 → (FrS S27 m21 (rmU m22 m23) (rmG m23) m24 m25 ∧ frM S S27 (fxM m21) ∧ hK S27 = hK S ∧ hR S27 = hR S ∧ (∀ i, 54 ≤ i → i < 64 → sam S S27 (m21 i))) → ((¬ x2 = 0 → (∃ b36 : Nat, hR S27 220 x0 = some b36 ∧ (hK S27 b36 = 7 → (∃ (m38 : (Nat → Prop)) (m39 : Nat → Int32), (((WF m39 ∧ RelSt S27 m38 b36 m39) ∧ StO S27 b36 ∧ (∀ b, stA S27 b36 b → m38 b) ∧ ¬ x2 = 0 ∧ (stx m39 x1 < iv (m39 2) ∨ iv (m39 2) < 5)) ∧ (∀ (S41 : HS), ext S27 S41 → (frM S27 S41 (stA S27 b36) ∧ hK S41 = hK S27 ∧ hN S41 = hN S27 ∧ hR S41 = hR S27 ∧ RelSt S41 m38 b36 (rebS m39 x1 x2)) → (∃ b49 : Nat, hR S41 220 x0 = some b49 ∧ (hK S41 b49 = 7 → (P (hI S41 146 b49) S41))))))))) ∧ (x2 = 0 → (∃ b52 : Nat, hR S27 220 x0 = some b52 ∧ (hK S27 b52 = 7 → (∃ (m54 : (Nat → Prop)) (m55 : Nat → Int32) (m56 : Int32), (((WF m55 ∧ RelSt S27 m54 b52 m55) ∧ StO S27 b52 ∧ (∀ b, stA S27 b52 b → m54 b) ∧ stx m55 m56 < iv (m55 2) ∧ x3 = nI (stx m55 m56)) ∧ (∀ (S58 : HS), ext S27 S58 → (frM S27 S58 (stA S27 b52) ∧ hK S58 = hK S27 ∧ hN S58 = hN S27 ∧ hR S58 = hR S27 ∧ RelSt S58 m54 b52 (rebS m55 m56 0)) → (∃ b66 : Nat, hR S58 220 x0 = some b66 ∧ (hK S58 b66 = 7 → (P (hI S58 146 b66) S58)))))))))))))) ∧ (¬ 0 ≤ x3 → (∃ b69 : Nat, hR S 220 x0 = some b69 ∧ (hK S b69 = 7 → (((hI S 146 b69) < 5 → (∃ (m72 : (Nat → Nat)) (m73 : (Nat → Nat → Int32)) (m74 : (Nat → Int32)) (m75 : (Nat → Int32)) (m76 : (List Int32)), ((FrS S m72 m73 m74 m75 m76 ∧ x0 = m72 50) ∧ (∀ (S78 : HS), ext S S78 → (FrS S78 m72 (rmU m73 m74) (rmG m74) m75 m76 ∧ frM S S78 (fxM m72) ∧ hK S78 = hK S ∧ hR S78 = hR S ∧ (∀ i, 54 ≤ i → i < 64 → sam S S78 (m72 i))) → ((¬ x2 = 0 → (∃ b87 : Nat, hR S78 220 x0 = some b87 ∧ (hK S78 b87 = 7 → (∃ (m89 : (Nat → Prop)) (m90 : Nat → Int32), (((WF m90 ∧ RelSt S78 m89 b87 m90) ∧ StO S78 b87 ∧ (∀ b, stA S78 b87 b → m89 b) ∧ ¬ x2 = 0 ∧ (stx m90 x1 < iv (m90 2) ∨ iv (m90 2) < 5)) ∧ (∀ (S92 : HS), ext S78 S92 → (frM S78 S92 (stA S78 b87) ∧ hK S92 = hK S78 ∧ hN S92 = hN S78 ∧ hR S92 = hR S78 ∧ RelSt S92 m89 b87 (rebS m90 x1 x2)) → (∃ b100 : Nat, hR S92 220 x0 = some b100 ∧ (hK S92 b100 = 7 → (P (hI S92 146 b100) S92))))))))) ∧ (x2 = 0 → (∃ b103 : Nat, hR S78 220 x0 = some b103 ∧ (hK S78 b103 = 7 → (∃ (m105 : (Nat → Prop)) (m106 : Nat → Int32) (m107 : Int32), (((WF m106 ∧ RelSt S78 m105 b103 m106) ∧ StO S78 b103 ∧ (∀ b, stA S78 b103 b → m105 b) ∧ stx m106 m107 < iv (m106 2) ∧ x3 = nI (stx m106 m107)) ∧ (∀ (S109 : HS), ext S78 S109 → (frM S78 S109 (stA S78 b103) ∧ hK S109 = hK S78 ∧ hN S109 = hN S78 ∧ hR S109 = hR S78 ∧ RelSt S109 m105 b103 (rebS m106 m107 0)) → (∃ b117 : Nat, hR S109 220 x0 = some b117 ∧ (hK S109 b117 = 7 → (P (hI S109 146 b117) S109)))))))))))))) ∧ (¬ (hI S 146 b69) < 5 → ((1 ≤ kc ∧ 6 ≤ ks) ∧ X "java/lang/IllegalStateException" S))))))
set_option maxRecDepth 100000 in
set_option maxHeartbeats 4000000 in
theorem t_X10_setRebate_47 {p : Program} {l : Launch} {e : Env} {s : State} {m : MethodId} {args : Array Value} {below : List Frame} {meth : Method} {c : Code} {D : va_G} {A : Nat → Prop} {T : Nat → ClassId} {mc ms : Nat} (C : GC p s m args meth c cX10_setRebate "FreightRater" (ws_X10_setRebate) 4 D A (zty T)) (E : GE T A s) (hst : l.stackTraces = false) (htab : ∀ z ∈ c.exceptionTable.toList, False) (hr : meth.sig.returnType = (some .int)) (S0 : HS) (P : Int32 → HS → Prop) (X : String → HS → Prop) : ∀ (x0 : Nat) (x1 : Int32) (x2 : Int32) (x3 : Int32) (S : HS) (kc ks : Nat) (L : List Nat), wt S → hL S L → ext S0 S → (hK S x0 = 11) → wp_X10_setRebate_47  P X x0 x1 x2 x3 S kc ks → GW p l e { rm_X10_setRebate with cells := mc, slots := ms } s m args below meth c D A 4 mc ms (vx_MQ below (va_Qi (fun v (u : HS × List Nat) => P v u.1 ∧ CO S0 u) (CE D T A) A) (CXX D T A S0 X) args s mc ms A) (CW T S L) kc ks 47 [(0, .ref x0), (1, .int x1), (2, .int x2), (3, .int x3)] [] := by
  have hW : ∀ {w : Cond}, w ∈ W0 → w.before args s = true := fun h => C.2.2.2.2.1 _ (List.mem_cons_of_mem _ h)
  intro x0 x1 x2 x3 S kc ks L hw hL he hx0 h
  unfold wp_X10_setRebate_47 at h
  refine g_iload_n C dX10_setRebate_47 rfl 3 rfl ?_
  refine g_if_ge (tgt := 70) C dX10_setRebate_48 (by decide) (fun z20 => ?_) (fun z20 => ?_)
  · replace h := h.1 z20
    refine g_aload_n C dX10_setRebate_70 rfl 0 rfl ?_
    obtain ⟨m21, m22, m23, m24, m25, h⟩ := h
    obtain ⟨g26, h⟩ := h
    refine gc_callvV (host := "") C E hw hL hx0 (by decide) (by decide) rfl [] rfl (k_X10_remember l D T x0 S m21 m22 m23 m24 m25 hx0 g26) (w0_V 0 C.2.2.2.2.1 kw_495 kw_497 ks_1 kw_1 kw_498 rfl rfl (by decide +kernel) ⟨Nat.le_of_ble_eq_true rfl, Nat.le_of_ble_eq_true rfl⟩) rfl (Nat.le_of_ble_eq_true rfl) (Nat.le_refl _) (Nat.le_refl _) (Nat.zero_le _) (Nat.zero_le _) dX10_setRebate_71 (fun S27 L28 e29 w30 w31 hp => ?_)
    replace h := h S27 e29 hp
    have g32 := ext_K e29 hx0 (by decide)
    have w33 := ext_tr he e29
    refine g_iload_n C dX10_setRebate_74 rfl 2 rfl ?_
    refine g_if_ne (tgt := 89) C dX10_setRebate_75 (by decide) (fun z34 => ?_) (fun z34 => ?_)
    · replace h := h.1 z34
      refine g_aload_n C dX10_setRebate_89 rfl 0 rfl ?_
      refine gc_getR C w30 iwx_X10 w31 g32 (by decide) (by decide) rfl 0 (by decide) (hW kw_242) rfl rfl rfl dX10_setRebate_90 (fun o35 eo35 ko35 => ?_)
      obtain ⟨b36, hb9, h⟩ := h
      have g37 : hK S27 b36 = 7 := ko35 b36 (eo35.trans hb9)
      replace h := h g37
      refine g_opt (eo35.trans hb9) ?_
      refine g_iload_n C dX10_setRebate_93 rfl 1 rfl ?_
      refine g_iload_n C dX10_setRebate_94 rfl 2 rfl ?_
      obtain ⟨m38, m39, h⟩ := h
      obtain ⟨g40, h⟩ := h
      refine gc_callvV (host := "") C E w30 w31 g37 (by decide) (by decide) rfl [.int x1, .int x2] rfl (k_X6_putStep l D T b36 x1 x2 S27 m38 m39 g37 g40) (w0_V 2 C.2.2.2.2.1 kw_1473 kw_1474 kw_1475 kw_2 kw_1476 rfl rfl (by decide +kernel) ⟨Nat.le_of_ble_eq_true rfl, Nat.le_of_ble_eq_true rfl⟩) rfl (Nat.le_of_ble_eq_true rfl) (Nat.le_refl _) (Nat.le_refl _) (Nat.zero_le _) (Nat.zero_le _) dX10_setRebate_95 (fun S41 L42 e43 w44 w45 hp => ?_)
      replace h := h S41 e43 hp
      have g46 := ext_K e43 g32 (by decide)
      have w47 := ext_tr w33 e43
      refine g_aload_n C dX10_setRebate_98 rfl 0 rfl ?_
      refine gc_getR C w44 iwx_X10 w45 g46 (by decide) (by decide) rfl 0 (by decide) (hW kw_242) rfl rfl rfl dX10_setRebate_99 (fun o48 eo48 ko48 => ?_)
      obtain ⟨b49, hb9, h⟩ := h
      have g50 : hK S41 b49 = 7 := ko48 b49 (eo48.trans hb9)
      replace h := h g50
      refine g_opt (eo48.trans hb9) ?_
      refine gc_getI C iwx_X6 w45 g50 (by decide) (by decide) rfl 6 (by decide) (hW kw_71) rfl rfl rfl dX10_setRebate_102 ?_
      exact gx_iret C w44 w45 w47 hr dX10_setRebate_105 h
    · replace h := h.2 z34
      refine g_aload_n C dX10_setRebate_78 rfl 0 rfl ?_
      refine gc_getR C w30 iwx_X10 w31 g32 (by decide) (by decide) rfl 0 (by decide) (hW kw_242) rfl rfl rfl dX10_setRebate_79 (fun o51 eo51 ko51 => ?_)
      obtain ⟨b52, hb9, h⟩ := h
      have g53 : hK S27 b52 = 7 := ko51 b52 (eo51.trans hb9)
      replace h := h g53
      refine g_opt (eo51.trans hb9) ?_
      refine g_iload_n C dX10_setRebate_82 rfl 3 rfl ?_
      obtain ⟨m54, m55, m56, h⟩ := h
      obtain ⟨g57, h⟩ := h
      refine gc_callvV (host := "") C E w30 w31 g53 (by decide) (by decide) rfl [.int x3] rfl (k_X6_removeStep l D T b52 x3 S27 m54 m55 m56 g53 g57) (w0_V 1 C.2.2.2.2.1 kw_1469 kw_1470 kw_1471 kw_2 kw_1472 rfl rfl (by decide +kernel) ⟨Nat.le_of_ble_eq_true rfl, Nat.le_of_ble_eq_true rfl⟩) rfl (Nat.le_of_ble_eq_true rfl) (Nat.le_refl _) (Nat.le_refl _) (Nat.zero_le _) (Nat.zero_le _) dX10_setRebate_83 (fun S58 L59 e60 w61 w62 hp => ?_)
      replace h := h S58 e60 hp
      have g63 := ext_K e60 g32 (by decide)
      have w64 := ext_tr w33 e60
      refine g_goto (tgt := 98) C dX10_setRebate_86 (by decide) ?_
      refine g_aload_n C dX10_setRebate_98 rfl 0 rfl ?_
      refine gc_getR C w61 iwx_X10 w62 g63 (by decide) (by decide) rfl 0 (by decide) (hW kw_242) rfl rfl rfl dX10_setRebate_99 (fun o65 eo65 ko65 => ?_)
      obtain ⟨b66, hb9, h⟩ := h
      have g67 : hK S58 b66 = 7 := ko65 b66 (eo65.trans hb9)
      replace h := h g67
      refine g_opt (eo65.trans hb9) ?_
      refine gc_getI C iwx_X6 w62 g67 (by decide) (by decide) rfl 6 (by decide) (hW kw_71) rfl rfl rfl dX10_setRebate_102 ?_
      exact gx_iret C w61 w62 w64 hr dX10_setRebate_105 h
  · replace h := h.2 z20
    refine g_aload_n C dX10_setRebate_51 rfl 0 rfl ?_
    refine gc_getR C hw iwx_X10 hL hx0 (by decide) (by decide) rfl 0 (by decide) (hW kw_242) rfl rfl rfl dX10_setRebate_52 (fun o68 eo68 ko68 => ?_)
    obtain ⟨b69, hb9, h⟩ := h
    have g70 : hK S b69 = 7 := ko68 b69 (eo68.trans hb9)
    replace h := h g70
    refine g_opt (eo68.trans hb9) ?_
    refine gc_getI C iwx_X6 hL g70 (by decide) (by decide) rfl 6 (by decide) (hW kw_71) rfl rfl rfl dX10_setRebate_55 ?_
    refine g_iconst (v := 5) C dX10_setRebate_58 (by decide) ?_
    refine g_icmp_lt (tgt := 70) C dX10_setRebate_59 (by decide) (fun z71 => ?_) (fun z71 => ?_)
    · replace h := h.1 z71
      refine g_aload_n C dX10_setRebate_70 rfl 0 rfl ?_
      obtain ⟨m72, m73, m74, m75, m76, h⟩ := h
      obtain ⟨g77, h⟩ := h
      refine gc_callvV (host := "") C E hw hL hx0 (by decide) (by decide) rfl [] rfl (k_X10_remember l D T x0 S m72 m73 m74 m75 m76 hx0 g77) (w0_V 0 C.2.2.2.2.1 kw_495 kw_497 ks_1 kw_1 kw_498 rfl rfl (by decide +kernel) ⟨Nat.le_of_ble_eq_true rfl, Nat.le_of_ble_eq_true rfl⟩) rfl (Nat.le_of_ble_eq_true rfl) (Nat.le_refl _) (Nat.le_refl _) (Nat.zero_le _) (Nat.zero_le _) dX10_setRebate_71 (fun S78 L79 e80 w81 w82 hp => ?_)
      replace h := h S78 e80 hp
      have g83 := ext_K e80 hx0 (by decide)
      have w84 := ext_tr he e80
      refine g_iload_n C dX10_setRebate_74 rfl 2 rfl ?_
      refine g_if_ne (tgt := 89) C dX10_setRebate_75 (by decide) (fun z85 => ?_) (fun z85 => ?_)
      · replace h := h.1 z85
        refine g_aload_n C dX10_setRebate_89 rfl 0 rfl ?_
        refine gc_getR C w81 iwx_X10 w82 g83 (by decide) (by decide) rfl 0 (by decide) (hW kw_242) rfl rfl rfl dX10_setRebate_90 (fun o86 eo86 ko86 => ?_)
        obtain ⟨b87, hb9, h⟩ := h
        have g88 : hK S78 b87 = 7 := ko86 b87 (eo86.trans hb9)
        replace h := h g88
        refine g_opt (eo86.trans hb9) ?_
        refine g_iload_n C dX10_setRebate_93 rfl 1 rfl ?_
        refine g_iload_n C dX10_setRebate_94 rfl 2 rfl ?_
        obtain ⟨m89, m90, h⟩ := h
        obtain ⟨g91, h⟩ := h
        refine gc_callvV (host := "") C E w81 w82 g88 (by decide) (by decide) rfl [.int x1, .int x2] rfl (k_X6_putStep l D T b87 x1 x2 S78 m89 m90 g88 g91) (w0_V 2 C.2.2.2.2.1 kw_1473 kw_1474 kw_1475 kw_2 kw_1476 rfl rfl (by decide +kernel) ⟨Nat.le_of_ble_eq_true rfl, Nat.le_of_ble_eq_true rfl⟩) rfl (Nat.le_of_ble_eq_true rfl) (Nat.le_refl _) (Nat.le_refl _) (Nat.zero_le _) (Nat.zero_le _) dX10_setRebate_95 (fun S92 L93 e94 w95 w96 hp => ?_)
        replace h := h S92 e94 hp
        have g97 := ext_K e94 g83 (by decide)
        have w98 := ext_tr w84 e94
        refine g_aload_n C dX10_setRebate_98 rfl 0 rfl ?_
        refine gc_getR C w95 iwx_X10 w96 g97 (by decide) (by decide) rfl 0 (by decide) (hW kw_242) rfl rfl rfl dX10_setRebate_99 (fun o99 eo99 ko99 => ?_)
        obtain ⟨b100, hb9, h⟩ := h
        have g101 : hK S92 b100 = 7 := ko99 b100 (eo99.trans hb9)
        replace h := h g101
        refine g_opt (eo99.trans hb9) ?_
        refine gc_getI C iwx_X6 w96 g101 (by decide) (by decide) rfl 6 (by decide) (hW kw_71) rfl rfl rfl dX10_setRebate_102 ?_
        exact gx_iret C w95 w96 w98 hr dX10_setRebate_105 h
      · replace h := h.2 z85
        refine g_aload_n C dX10_setRebate_78 rfl 0 rfl ?_
        refine gc_getR C w81 iwx_X10 w82 g83 (by decide) (by decide) rfl 0 (by decide) (hW kw_242) rfl rfl rfl dX10_setRebate_79 (fun o102 eo102 ko102 => ?_)
        obtain ⟨b103, hb9, h⟩ := h
        have g104 : hK S78 b103 = 7 := ko102 b103 (eo102.trans hb9)
        replace h := h g104
        refine g_opt (eo102.trans hb9) ?_
        refine g_iload_n C dX10_setRebate_82 rfl 3 rfl ?_
        obtain ⟨m105, m106, m107, h⟩ := h
        obtain ⟨g108, h⟩ := h
        refine gc_callvV (host := "") C E w81 w82 g104 (by decide) (by decide) rfl [.int x3] rfl (k_X6_removeStep l D T b103 x3 S78 m105 m106 m107 g104 g108) (w0_V 1 C.2.2.2.2.1 kw_1469 kw_1470 kw_1471 kw_2 kw_1472 rfl rfl (by decide +kernel) ⟨Nat.le_of_ble_eq_true rfl, Nat.le_of_ble_eq_true rfl⟩) rfl (Nat.le_of_ble_eq_true rfl) (Nat.le_refl _) (Nat.le_refl _) (Nat.zero_le _) (Nat.zero_le _) dX10_setRebate_83 (fun S109 L110 e111 w112 w113 hp => ?_)
        replace h := h S109 e111 hp
        have g114 := ext_K e111 g83 (by decide)
        have w115 := ext_tr w84 e111
        refine g_goto (tgt := 98) C dX10_setRebate_86 (by decide) ?_
        refine g_aload_n C dX10_setRebate_98 rfl 0 rfl ?_
        refine gc_getR C w112 iwx_X10 w113 g114 (by decide) (by decide) rfl 0 (by decide) (hW kw_242) rfl rfl rfl dX10_setRebate_99 (fun o116 eo116 ko116 => ?_)
        obtain ⟨b117, hb9, h⟩ := h
        have g118 : hK S109 b117 = 7 := ko116 b117 (eo116.trans hb9)
        replace h := h g118
        refine g_opt (eo116.trans hb9) ?_
        refine gc_getI C iwx_X6 w113 g118 (by decide) (by decide) rfl 6 (by decide) (hW kw_71) rfl rfl rfl dX10_setRebate_102 ?_
        exact gx_iret C w112 w113 w115 hr dX10_setRebate_105 h
    · replace h := h.2 z71
      obtain ⟨g119, h⟩ := h
      exact gx_throw (cls := "java/lang/IllegalStateException") (names := ["java/lang/RuntimeException", "java/lang/Exception"]) C E hst hw hL he (Nat.le_refl _) (Nat.le_refl _) (by decide) (by decide) (hW kw_480) (hW kw_17) (th_FreightRater_78 hW E) tv_FreightRater_78 dX10_setRebate_62 dX10_setRebate_65 dX10_setRebate_66 dX10_setRebate_69 htab (Nat.le_of_ble_eq_true rfl) (Nat.le_of_ble_eq_true rfl) g119.1 g119.2 h
def wp_X10_setRebate (P : Int32 → HS → Prop) (X : String → HS → Prop) (x0 : Nat) (p0 : Int32) (p1 : Int32) (S : HS) (mc ms : Nat) : Prop := (p0 < 0 → ((1 ≤ mc ∧ 6 ≤ ms) ∧ X "java/lang/IllegalArgumentException" S)) ∧ (¬ p0 < 0 → ((¬ (zin p1 0 50) = 0 → (∃ b9 : Nat, hR S 220 x0 = some b9 ∧ (hK S b9 = 7 → (∃ (m11 : (Nat → Prop)) (m12 : Nat → Int32), ((WF m12 ∧ RelSt S m11 b9 m12) ∧ (∀ v18 : Int32, v18 = ((if stx m12 p0 < iv (m12 2) then nI (stx m12 p0) else -1)) → ((0 ≤ v18 → (wp_X10_setRebate_47  P X x0 p0 p1 v18 S mc ms)) ∧ (¬ 0 ≤ v18 → ((¬ p1 = 0 → (wp_X10_setRebate_47  P X x0 p0 p1 v18 S mc ms)) ∧ (p1 = 0 → ((1 ≤ mc ∧ 6 ≤ ms) ∧ X "java/util/NoSuchElementException" S))))))))))) ∧ ((zin p1 0 50) = 0 → ((1 ≤ mc ∧ 6 ≤ ms) ∧ X "java/lang/IllegalArgumentException" S))))
set_option maxRecDepth 100000 in
set_option maxHeartbeats 4000000 in
theorem t_X10_setRebate {p : Program} {l : Launch} {e : Env} {s : State} {m : MethodId} {args : Array Value} {below : List Frame} {meth : Method} {c : Code} {D : va_G} {A : Nat → Prop} {T : Nat → ClassId} (C : GC p s m args meth c cX10_setRebate "FreightRater" (ws_X10_setRebate) 4 D A (zty T)) (E : GE T A s) (hst : l.stackTraces = false) (htab : ∀ z ∈ c.exceptionTable.toList, False) (hr : meth.sig.returnType = (some .int)) (P : Int32 → HS → Prop) (X : String → HS → Prop) : ∀ (x0 : Nat) (p0 : Int32) (p1 : Int32) (S0 S : HS) (mc ms : Nat) (L : List Nat), S0 = S → wt S → hL S L → (hK S x0 = 11) → wp_X10_setRebate P X x0 p0 p1 S mc ms → GW p l e { rm_X10_setRebate with cells := mc, slots := ms } s m args below meth c D A 4 mc ms (vx_MQ below (va_Qi (fun v (u : HS × List Nat) => P v u.1 ∧ CO S0 u) (CE D T A) A) (CXX D T A S0 X) args s mc ms A) (CW T S L) mc ms 0 [(0, .ref x0), (1, .int p0), (2, .int p1)] [] := by
  have hW : ∀ {w : Cond}, w ∈ W0 → w.before args s = true := fun h => C.2.2.2.2.1 _ (List.mem_cons_of_mem _ h)
  intro x0 p0 p1 S0 S mc ms L hS0 hw hL hx0 h
  have he : ext S0 S := by rw [hS0]; exact ext_rf
  unfold wp_X10_setRebate at h
  refine g_iload_n C dX10_setRebate_0 rfl 1 rfl ?_
  refine g_if_lt (tgt := 14) C dX10_setRebate_1 (by decide) (fun z1 => ?_) (fun z1 => ?_)
  · replace h := h.1 z1
    obtain ⟨g2, h⟩ := h
    exact gx_throw (cls := "java/lang/IllegalArgumentException") (names := ["java/lang/RuntimeException", "java/lang/Exception"]) C E hst hw hL he (Nat.le_refl _) (Nat.le_refl _) (by decide) (by decide) (hW kw_310) (hW kw_13) (th_FreightRater_62 hW E) tv_FreightRater_62 dX10_setRebate_14 dX10_setRebate_17 dX10_setRebate_18 dX10_setRebate_21 htab (Nat.le_of_ble_eq_true rfl) (Nat.le_of_ble_eq_true rfl) g2.1 g2.2 h
  · replace h := h.2 z1
    refine g_iload_n C dX10_setRebate_4 rfl 2 rfl ?_
    refine g_iconst (v := 0) C dX10_setRebate_5 (by decide) ?_
    refine g_bipush (v := 50) C dX10_setRebate_6 (by decide) ?_
    refine gc_calliS (host := "") C E hw hL [.int p1, .int 0, .int 50] rfl (k_X10_isBetween l D T p1 0 50 S ) (w0_S 3 C.2.2.2.2.1 kw_303 kw_304 kw_1 kw_305 rfl rfl (by decide +kernel) ⟨Nat.le_of_ble_eq_true rfl, Nat.le_of_ble_eq_true rfl⟩) rfl (Nat.le_of_ble_eq_true rfl) (Nat.le_refl _) (Nat.le_refl _) (Nat.zero_le _) (Nat.zero_le _) dX10_setRebate_8 (fun v9 S9 L3 he9 hw9 hL9 hp => ?_)
    obtain ⟨hv9, hs9⟩ := hp
    replace hs9 := hs9.symm
    subst hs9
    replace hv9 := hv9.symm
    subst hv9
    have w6 := hL9
    refine g_if_ne (tgt := 22) C dX10_setRebate_11 (by decide) (fun z7 => ?_) (fun z7 => ?_)
    · replace h := h.1 z7
      refine g_aload_n C dX10_setRebate_22 rfl 0 rfl ?_
      refine gc_getR C hw iwx_X10 w6 hx0 (by decide) (by decide) rfl 0 (by decide) (hW kw_242) rfl rfl rfl dX10_setRebate_23 (fun o8 eo8 ko8 => ?_)
      obtain ⟨b9, hb9, h⟩ := h
      have g10 : hK S b9 = 7 := ko8 b9 (eo8.trans hb9)
      replace h := h g10
      refine g_opt (eo8.trans hb9) ?_
      refine g_iload_n C dX10_setRebate_26 rfl 1 rfl ?_
      obtain ⟨m11, m12, h⟩ := h
      obtain ⟨g13, h⟩ := h
      refine gc_calliV (host := "") C E hw w6 g10 (by decide) (by decide) rfl [.int p0] rfl (k_X6_findStep l D T b9 p0 S m11 m12 g10 g13) (w0_V 1 C.2.2.2.2.1 kw_1465 kw_1466 kw_1467 kw_2 kw_1468 rfl rfl (by decide +kernel) ⟨Nat.le_of_ble_eq_true rfl, Nat.le_of_ble_eq_true rfl⟩) rfl (Nat.le_of_ble_eq_true rfl) (Nat.le_refl _) (Nat.le_refl _) (Nat.zero_le _) (Nat.zero_le _) dX10_setRebate_27 (fun v9 S9 L14 he9 hw9 hL9 hp => ?_)
      obtain ⟨hv9, hs9⟩ := hp
      replace hs9 := hs9.symm
      subst hs9
      replace hv9 := hv9.symm
      subst hv9
      have w17 := hL9
      refine g_topi (fun v18 ev18 => ?_)
      replace h := h v18 ev18
      refine g_istore_n (lv' := [(3, .int v18), (0, .ref x0), (1, .int p0), (2, .int p1)]) C dX10_setRebate_30 rfl (by decide) rfl ?_
      refine g_iload_n C dX10_setRebate_31 rfl 0 rfl ?_
      refine g_if_ge (tgt := 47) C dX10_setRebate_32 (by decide) (fun z19 => ?_) (fun z19 => ?_)
      · replace h := h.1 z19
        refine g_locals [1, 2, 3, 0] rfl ?_
        refine t_X10_setRebate_47 C E hst htab hr S0  P X  x0 p0 p1 v18 S mc ms L14 hw w17 he hx0 h
      · replace h := h.2 z19
        refine g_iload_n C dX10_setRebate_35 rfl 3 rfl ?_
        refine g_if_ne (tgt := 47) C dX10_setRebate_36 (by decide) (fun z120 => ?_) (fun z120 => ?_)
        · replace h := h.1 z120
          refine g_locals [1, 2, 3, 0] rfl ?_
          refine t_X10_setRebate_47 C E hst htab hr S0  P X  x0 p0 p1 v18 S mc ms L14 hw w17 he hx0 h
        · replace h := h.2 z120
          obtain ⟨g121, h⟩ := h
          exact gx_throw (cls := "java/util/NoSuchElementException") (names := ["java/lang/RuntimeException", "java/lang/Exception"]) C E hst hw w17 he (Nat.le_refl _) (Nat.le_refl _) (by decide) (by decide) (hW kw_966) (hW kw_34) (th_FreightRater_136 hW E) tv_FreightRater_136 dX10_setRebate_39 dX10_setRebate_42 dX10_setRebate_43 dX10_setRebate_46 htab (Nat.le_of_ble_eq_true rfl) (Nat.le_of_ble_eq_true rfl) g121.1 g121.2 h
    · replace h := h.2 z7
      obtain ⟨g122, h⟩ := h
      exact gx_throw (cls := "java/lang/IllegalArgumentException") (names := ["java/lang/RuntimeException", "java/lang/Exception"]) C E hst hw w6 he (Nat.le_refl _) (Nat.le_refl _) (by decide) (by decide) (hW kw_310) (hW kw_13) (th_FreightRater_62 hW E) tv_FreightRater_62 dX10_setRebate_14 dX10_setRebate_17 dX10_setRebate_18 dX10_setRebate_21 htab (Nat.le_of_ble_eq_true rfl) (Nat.le_of_ble_eq_true rfl) g122.1 g122.2 h
theorem c_X10_setRebate (l : Launch) (hst : l.stackTraces = false) (D : va_G) (T : Nat → ClassId) (x0 : Nat) (p0 : Int32) (p1 : Int32) (S : HS) (mc ms : Nat) (hx0 : hK S x0 = 11) (P : Int32 → HS → Prop) (X : String → HS → Prop) (h : wp_X10_setRebate P X x0 p0 p1 S mc ms) : CXi l yX10_setRebate (ws_X10_setRebate) rm_X10_setRebate D T [.ref x0, .int p0, .int p1] S mc ms P X := gx_meti (by decide) rfl rfl (Nat.le_of_ble_eq_true rfl) (fun p e s m args below meth c A L C E hnm hr htab hw hL => t_X10_setRebate C E hst htab hr P X x0 p0 p1 S S mc ms L rfl hw hL hx0 h)
theorem WF_r {μ μ' : Nat → Int32} (e : ∀ k, k < 2 ∨ k = 3 ∨ 14 ≤ k → μ' k = μ k) (h2 : sm μ' 2 5) (h : WF μ) : WF μ' := by
  obtain ⟨a1, a2, _, a4, a5⟩ := h
  exact ⟨sm_cg (e 0 (by omega)) a1, sm_cg (e 1 (by omega)) a2, h2, fun v hv => WFV_cg (e 0 (by omega)) (fun o ho => e _ (by omega)) (a4 v hv), fun t ht => WFS_cg (fun o ho => e _ (by omega)) (a5 t ht)⟩
theorem stx_n {μ : Nat → Int32} {t : Int32} {n : Nat} (ei : iv (μ 2) = n) : stx μ t ≤ n := by
  have := (stx_le (μ := μ) (t := t) (iv (μ 2)) 0).2
  unfold stx
  omega
theorem reb_gw {μ : Nat → Int32} {t p : Int32} {n : Nat} (hG : GWF μ) (en : μ 2 = nI n) (hn : n ≤ 5) (ht : 0 ≤ t) (hc : (p = 0 → stx μ t < n) ∧ (¬ p = 0 → stx μ t < n ∨ n < 5)) : GWF (rebS μ t p) := by
  obtain ⟨w, r, o, pp⟩ := hG
  have ei : iv (μ 2) = n := by rw [en]; exact nI_clamp (by omega)
  have sx := stx_n (t := t) ei
  have o9 : ∀ i, i < n → 0 ≤ μ (4 + 2 * i) := fun i hi => o i (by rw [ei]; exact hi)
  by_cases c : p = 0
  · have hx := hc.1 c
    have e : rebS μ t p = upd (upd (upd μ 2 (nI (n - 1))) (4 + 2 * stx μ t) (μ (4 + 2 * (n - 1)))) (4 + 2 * stx μ t + 1) (μ (4 + 2 * (n - 1) + 1)) := by
      unfold rebS
      rw [if_pos c, ei, en, show nI n - 1 = nI (n - 1) from sub_k (b := 1) (by omega)]
    rw [e]
    have f : ∀ k, k < 2 ∨ k = 3 ∨ 14 ≤ k → upd (upd (upd μ 2 (nI (n - 1))) (4 + 2 * stx μ t) (μ (4 + 2 * (n - 1)))) (4 + 2 * stx μ t + 1) (μ (4 + 2 * (n - 1) + 1)) k = μ k := fun k hk => by
      unfold upd
      rw [if_neg (by omega), if_neg (by omega), if_neg (by omega)]
    have f2 : upd (upd (upd μ 2 (nI (n - 1))) (4 + 2 * stx μ t) (μ (4 + 2 * (n - 1)))) (4 + 2 * stx μ t + 1) (μ (4 + 2 * (n - 1) + 1)) 2 = nI (n - 1) := by
      unfold upd
      rw [if_neg (by omega), if_neg (by omega), if_pos rfl]
    refine ⟨WF_r f ⟨n - 1, by omega, f2⟩ w, WFR_cg (fun k hk => f k (by omega)) r, fun i hi => ?_, WFP_cg w (fun k hk => f k (by omega)) pp⟩
    rw [f2, show iv (nI (n - 1)) = n - 1 from nI_clamp (by omega)] at hi
    unfold upd
    rw [if_neg (by omega)]
    by_cases d : i = stx μ t
    · rw [if_pos (by omega)]; exact o9 _ (by omega)
    · rw [if_neg (by omega), if_neg (by omega)]; exact o9 _ (by omega)
  · have hx := hc.2 c
    have e : rebS μ t p = upd (upd (upd μ 2 (nI (if stx μ t < n then n else n + 1))) (4 + 2 * stx μ t) t) (4 + 2 * stx μ t + 1) p := by
      unfold rebS
      rw [if_neg c, ei, en]
      by_cases d : stx μ t < n
      · rw [if_pos d, if_pos d]
      · rw [if_neg d, if_neg d, nI_1]
    have m5 : (if stx μ t < n then n else n + 1) ≤ 5 := by split <;> omega
    rw [e]
    have f : ∀ k, k < 2 ∨ k = 3 ∨ 14 ≤ k → upd (upd (upd μ 2 (nI (if stx μ t < n then n else n + 1))) (4 + 2 * stx μ t) t) (4 + 2 * stx μ t + 1) p k = μ k := fun k hk => by
      unfold upd
      rw [if_neg (by omega), if_neg (by omega), if_neg (by omega)]
    have f2 : upd (upd (upd μ 2 (nI (if stx μ t < n then n else n + 1))) (4 + 2 * stx μ t) t) (4 + 2 * stx μ t + 1) p 2 = nI (if stx μ t < n then n else n + 1) := by
      unfold upd
      rw [if_neg (by omega), if_neg (by omega), if_pos rfl]
    refine ⟨WF_r f ⟨_, m5, f2⟩ w, WFR_cg (fun k hk => f k (by omega)) r, fun i hi => ?_, WFP_cg w (fun k hk => f k (by omega)) pp⟩
    rw [f2, show iv (nI (if stx μ t < n then n else n + 1)) = (if stx μ t < n then n else n + 1) from nI_clamp (by omega)] at hi
    unfold upd
    rw [if_neg (by omega)]
    by_cases d : i = stx μ t
    · rw [if_pos (by omega)]; exact ht
    · rw [if_neg (by omega), if_neg (by omega)]
      refine o9 _ ?_
      by_cases d2 : stx μ t < n
      · rw [if_pos d2] at hi; exact hi
      · rw [if_neg d2] at hi; omega
theorem rl_sr {P : Int32 → HS → Prop} {X : String → HS → Prop} {S : HS} {a : Nat → Nat} {mu : Nat → Nat → Int32} {g b : Nat → Int32} {sh : List Int32} {t p v : Int32} {n mc ms : Nat} (h : FrS S a mu g b sh) (en : mu 0 2 = nI n) (hn : n ≤ 5) (ht : ¬ t < 0) (hv : v = if stx (mu 0) t < n then nI (stx (mu 0) t) else -1) (hp : ¬ (p = 0 ∧ ¬ stx (mu 0) t < n)) (hmc : 1 ≤ mc) (hms : 6 ≤ ms) (hP : ∀ S1, ¬ (¬ stx (mu 0) t < n ∧ n = 5) → FrS S1 a (fun u => if u = 0 then rebS (mu 0) t p else rmU mu g u) (rmG g) b sh → P (rebS (mu 0) t p 2) S1) (hX : (¬ stx (mu 0) t < n ∧ n = 5) → X "java/lang/IllegalStateException" S) : wp_X10_setRebate_47 P X (a 50) t p v S mc ms := by
  have ei : iv (mu 0 2) = n := by rw [en]; exact nI_clamp (by omega)
  have sx := stx_n (t := t) ei
  have hG := (h.2.1 0 (by omega)).1
  have ht9 := Int32.not_lt.mp ht
  unfold wp_X10_setRebate_47
  by_cases c : stx (mu 0) t < n
  · rw [if_pos c] at hv
    refine ⟨fun _ => ⟨a, mu, g, b, sh, ⟨h, rfl⟩, fun S27 he27 h27 => ?_⟩, fun z => absurd (by rw [hv]; exact nI_pos' (by omega)) z⟩
    obtain ⟨H27, f27, k27, r27, s27⟩ := h27
    have hnow := H27.now
    rw [rmU_0] at hnow
    refine ⟨fun q => ⟨a 0, H27.r0, fun _ => ⟨fxM a, mu 0, ⟨hnow, H27.1.st (s := 0) (by omega), fun b9 hb => H27.1.sM (s := 0) (by omega) hb, q, Or.inl (by rw [ei]; exact c)⟩, fun S41 he41 h41 => ?_⟩⟩, fun q => ⟨a 0, H27.r0, fun _ => ⟨fxM a, mu 0, t, ⟨hnow, H27.1.st (s := 0) (by omega), fun b9 hb => H27.1.sM (s := 0) (by omega) hb, by rw [ei]; exact c, hv⟩, fun S41 he41 h41 => ?_⟩⟩⟩
    · obtain ⟨f41, k41, n41, r41, R41⟩ := h41
      have H41 := H27.st (s := 0) (by omega) he41 f41 (fun i _ j => by rw [r41]) (reb_gw hG en hn ht9 ⟨fun _ => c, fun _ => Or.inl c⟩) R41
      refine ⟨a 0, H41.r0, fun _ => ?_⟩
      rw [R41.1.2.2.2.1]
      exact hP S41 (fun z => z.1 c) H41
    · obtain ⟨f41, k41, n41, r41, R41⟩ := h41
      rw [← q] at R41
      have H41 := H27.st (s := 0) (by omega) he41 f41 (fun i _ j => by rw [r41]) (reb_gw hG en hn ht9 ⟨fun _ => c, fun _ => Or.inl c⟩) R41
      refine ⟨a 0, H41.r0, fun _ => ?_⟩
      rw [R41.1.2.2.2.1]
      exact hP S41 (fun z => z.1 c) H41
  · rw [if_neg c] at hv
    refine ⟨fun z => absurd z (by rw [hv]; decide), fun _ => ⟨a 0, h.r0, fun _ => ?_⟩⟩
    rw [h.now.2.1.2.2.2.1, en, show (nI n < (5 : Int32)) = (n < 5) from propext (nI_ltI (b := 5) (by omega) (by decide))]
    refine ⟨fun c5 => ⟨a, mu, g, b, sh, ⟨h, rfl⟩, fun S27 he27 h27 => ?_⟩, fun c5 => ⟨⟨hmc, hms⟩, hX ⟨c, by omega⟩⟩⟩
    obtain ⟨H27, f27, k27, r27, s27⟩ := h27
    have hnow := H27.now
    rw [rmU_0] at hnow
    refine ⟨fun q => ⟨a 0, H27.r0, fun _ => ⟨fxM a, mu 0, ⟨hnow, H27.1.st (s := 0) (by omega), fun b9 hb => H27.1.sM (s := 0) (by omega) hb, q, Or.inr (by rw [ei]; exact c5)⟩, fun S41 he41 h41 => ?_⟩⟩, fun q => absurd ⟨q, c⟩ hp⟩
    obtain ⟨f41, k41, n41, r41, R41⟩ := h41
    have H41 := H27.st (s := 0) (by omega) he41 f41 (fun i _ j => by rw [r41]) (reb_gw hG en hn ht9 ⟨fun z => absurd ⟨z, c⟩ hp, fun _ => Or.inr c5⟩) R41
    refine ⟨a 0, H41.r0, fun _ => ?_⟩
    rw [R41.1.2.2.2.1]
    exact hP S41 (fun z => by omega) H41
theorem k_X10_setRebate (l : Launch) (hst : l.stackTraces = false) (D : va_G) (T : Nat → ClassId) (x0 : Nat) (p0 : Int32) (p1 : Int32) (S : HS) (e0 : (Nat → Nat)) (e1 : (Nat → Nat → Int32)) (e2 : (Nat → Int32)) (e3 : (Nat → Int32)) (e4 : (List Int32)) (mc ms : Nat) (hx0 : hK S x0 = 11) (h : FrS S e0 e1 e2 e3 e4 ∧ x0 = e0 50 ∧ 200 ≤ mc ∧ 2000 ≤ ms) : CXi l yX10_setRebate (ws_X10_setRebate) rm_X10_setRebate D T [.ref x0, .int p0, .int p1] S mc ms (fun v S1 => (rebC (e1 0) p0 p1 = 0 ∧ v = rebS (e1 0) p0 p1 2 ∧ FrS S1 e0 (fun t => if t = 0 then rebS (e1 0) p0 p1 else rmU e1 e2 t) (rmG e2) e3 e4)) (fun E9 S1 => ((rebC (e1 0) p0 p1 = 1 ∧ E9 = "java/lang/IllegalArgumentException") ∨ (rebC (e1 0) p0 p1 = 2 ∧ E9 = "java/util/NoSuchElementException") ∨ (rebC (e1 0) p0 p1 = 3 ∧ E9 = "java/lang/IllegalStateException")) ∧ FrS S1 e0 e1 e2 e3 e4) := c_X10_setRebate l hst D T x0 p0 p1 S mc ms hx0 _ _ <|
  (by
    obtain ⟨h, e, hmc, hms⟩ := h
    subst e
    obtain ⟨n, hn, en⟩ := h.now.1.2.2.1
    have ei : iv (e1 0 2) = n := by rw [en]; exact nI_clamp (by omega)
    unfold wp_X10_setRebate
    refine ⟨fun c => ⟨⟨by omega, by omega⟩, Or.inl ⟨by unfold rebC; rw [if_pos c], rfl⟩, h⟩, fun c => ⟨fun c2 => ⟨e0 0, h.r0, fun _ => ⟨fxM e0, e1 0, h.now, fun v ev => ?_⟩⟩, fun c2 => ⟨⟨by omega, by omega⟩, Or.inl ⟨by unfold rebC; rw [if_neg c, if_pos c2], rfl⟩, h⟩⟩⟩
    rw [ei] at ev
    have eC : rebC (e1 0) p0 p1 = if p1 = 0 ∧ ¬ stx (e1 0) p0 < n then 2 else if ¬ stx (e1 0) p0 < n ∧ n = 5 then 3 else 0 := by
      unfold rebC
      rw [if_neg c, if_neg c2, ei]
    refine ⟨fun c3' => ?_, fun c3' => ⟨fun c4 => ?_, fun c4 => ⟨⟨by omega, by omega⟩, Or.inr (Or.inl ⟨?_, rfl⟩), h⟩⟩⟩
    · have q : ¬ (p1 = 0 ∧ ¬ stx (e1 0) p0 < n) := fun z => by
        rw [if_neg z.2] at ev
        rw [ev] at c3'
        exact absurd c3' (by decide)
      exact rl_sr h en hn c ev q (by omega) (by omega) (fun S1 q1 q2 => ⟨by rw [eC, if_neg q, if_neg q1], rfl, q2⟩) (fun q1 => ⟨Or.inr (Or.inr ⟨by rw [eC, if_neg q, if_pos q1], rfl⟩), h⟩)
    · have q : ¬ (p1 = 0 ∧ ¬ stx (e1 0) p0 < n) := fun z => c4 z.1
      exact rl_sr h en hn c ev q (by omega) (by omega) (fun S1 q1 q2 => ⟨by rw [eC, if_neg q, if_neg q1], rfl, q2⟩) (fun q1 => ⟨Or.inr (Or.inr ⟨by rw [eC, if_neg q, if_pos q1], rfl⟩), h⟩)
    · have q : ¬ stx (e1 0) p0 < n := fun z => by
        rw [if_pos z] at ev
        exact c3' (by rw [ev]; exact nI_pos' (by omega))
      rw [eC, if_pos ⟨c4, q⟩])
abbrev ws_X10_makeVersion : List Cond := Cond.code yX10_makeVersion cX10_makeVersion 5 (some .int) :: W0
abbrev rm_X10_makeVersion : Room := ({ frames := 6, cells := 0, slots := 0, locals := 100 } : Room)
def wp_X10_makeVersion_53 (P : Int32 → HS → Prop) (X : String → HS → Prop) (x0 : Nat) (x1 : Int32) (s0 : (Option Nat)) (S : HS) (kc ks : Nat) : Prop := (s0 = none → ((1 ≤ kc ∧ 6 ≤ ks) ∧ X "java/lang/IndexOutOfBoundsException" S)) ∧ (∀ b33 : Nat, s0 = some b33 → hK S b33 = 10 → (∃ b37 : Nat, hR S 220 x0 = some b37 ∧ (hK S b37 = 7 → (((hI S 141 b37) < 6 → (∃ (m40 : (Nat → Nat)) (m41 : (Nat → Nat → Int32)) (m42 : (Nat → Int32)) (m43 : (Nat → Int32)) (m44 : (List Int32)), ((FrS S m40 m41 m42 m43 m44 ∧ x0 = m40 50) ∧ (∀ (S46 : HS), ext S S46 → (FrS S46 m40 (rmU m41 m42) (rmG m42) m43 m44 ∧ frM S S46 (fxM m40) ∧ hK S46 = hK S ∧ hR S46 = hR S ∧ (∀ i, 54 ≤ i → i < 64 → sam S S46 (m40 i))) → ((1 ≤ kc ∧ 11 ≤ ks) ∧ (∀ q54 : Nat, hK S46 q54 = 0 → zr S46 q54 → (∀ S62 : HS, S62 = newO S46 q54 10 → (∃ cc69 cc70 : Nat, (cc69 ≤ (kc - 1) ∧ cc70 ≤ (ks - 11)) ∧ (∃ (m72 : (Nat → Prop)) (m73 : Nat → Int32) (m74 : Nat), ((WF m73 ∧ m74 < 6 ∧ RelV S62 m72 b33 m73 m74 ∧ b33 ≠ q54 ∧ ¬ m72 q54 ∧ (∀ b, m72 b → hK S62 b ≠ 0) ∧ 32 ≤ cc69 ∧ 181 ≤ cc70) ∧ (∀ (S76 : HS), ext S62 S76 → (frM S62 S76 (fun b => b = q54) ∧ RelV S76 m72 q54 m73 m74 ∧ ∃ a, OwV S76 q54 a ∧ ∀ i, 0 < i → i < 33 → hK S62 (a i) = 0) → (∀ S86 : HS, S86 = putI S76 200 q54 x1 → (∃ b94 : Nat, hR S86 220 x0 = some b94 ∧ (hK S86 b94 = 7 → (∃ (m96 : Nat) (m97 : Nat), ((hR S86 140 b94 = some m96 ∧ hK S86 m96 = 29 ∧ hN S86 m96 = 6 ∧ hI S86 141 b94 = nI m97 ∧ m97 < 6) ∧ (∀ (v104 : Int32) (S99 : HS), ext S86 S99 → (v104 = nI m97 ∧ S99 = putI (putB S86 m96 m97 (some q54)) 141 b94 (nI (m97 + 1))) → (P v104 S99)))))))))))))))))) ∧ (¬ (hI S 141 b37) < 6 → ((1 ≤ kc ∧ 6 ≤ ks) ∧ X "java/lang/IllegalStateException" S))))))
set_option maxRecDepth 100000 in
set_option maxHeartbeats 4000000 in
theorem t_X10_makeVersion_53 {p : Program} {l : Launch} {e : Env} {s : State} {m : MethodId} {args : Array Value} {below : List Frame} {meth : Method} {c : Code} {D : va_G} {A : Nat → Prop} {T : Nat → ClassId} {mc ms : Nat} (C : GC p s m args meth c cX10_makeVersion "FreightRater" (ws_X10_makeVersion) 5 D A (zty T)) (E : GE T A s) (hst : l.stackTraces = false) (htab : ∀ z ∈ c.exceptionTable.toList, False) (hr : meth.sig.returnType = (some .int)) (S0 : HS) (P : Int32 → HS → Prop) (X : String → HS → Prop) : ∀ (x0 : Nat) (x1 : Int32) (s0 : (Option Nat)) (S : HS) (kc ks : Nat) (L : List Nat), wt S → hL S L → ext S0 S → (hK S x0 = 11) → (∀ b, s0 = some b → hK S b = 10) → wp_X10_makeVersion_53  P X x0 x1 s0 S kc ks → GW p l e { rm_X10_makeVersion with cells := mc, slots := ms } s m args below meth c D A 5 mc ms (vx_MQ below (va_Qi (fun v (u : HS × List Nat) => P v u.1 ∧ CO S0 u) (CE D T A) A) (CXX D T A S0 X) args s mc ms A) (CW T S L) kc ks 53 [(0, .ref x0), (1, .int x1)] [va_rf s0] := by
  have hW : ∀ {w : Cond}, w ∈ W0 → w.before args s = true := fun h => C.2.2.2.2.1 _ (List.mem_cons_of_mem _ h)
  intro x0 x1 s0 S kc ks L hw hL he hx0 hs0 h
  unfold wp_X10_makeVersion_53 at h
  refine g_qstore_n (lv' := [(3, va_rf s0), (0, .ref x0), (1, .int x1)]) C dX10_makeVersion_53 rfl (by decide) rfl ?_
  refine g_qload_n C dX10_makeVersion_54 rfl 0 rfl ?_
  rcases s0 with _ | b33
  · replace h := h.1 rfl
    refine g_ifnonnullN C dX10_makeVersion_55 ?_
    obtain ⟨g35, h⟩ := h
    exact gx_throw (cls := "java/lang/IndexOutOfBoundsException") (names := ["java/lang/RuntimeException", "java/lang/Exception"]) C E hst hw hL he (Nat.le_refl _) (Nat.le_refl _) (by decide) (by decide) (hW kw_465) (hW kw_16) (th_FreightRater_72 hW E) tv_FreightRater_72 dX10_makeVersion_58 dX10_makeVersion_61 dX10_makeVersion_62 dX10_makeVersion_65 htab (Nat.le_of_ble_eq_true rfl) (Nat.le_of_ble_eq_true rfl) g35.1 g35.2 h
  · have g34 : hK S b33 = 10 := hs0 b33 rfl
    replace h := h.2 b33 rfl g34
    refine g_ifnonnull (tgt := 66) C dX10_makeVersion_55 (by decide) ?_
    refine g_aload_n C dX10_makeVersion_66 rfl 1 rfl ?_
    refine gc_getR C hw iwx_X10 hL hx0 (by decide) (by decide) rfl 0 (by decide) (hW kw_242) rfl rfl rfl dX10_makeVersion_67 (fun o36 eo36 ko36 => ?_)
    obtain ⟨b37, hb9, h⟩ := h
    have g38 : hK S b37 = 7 := ko36 b37 (eo36.trans hb9)
    replace h := h g38
    refine g_opt (eo36.trans hb9) ?_
    refine gc_getI C iwx_X6 hL g38 (by decide) (by decide) rfl 1 (by decide) (hW kw_60) rfl rfl rfl dX10_makeVersion_70 ?_
    refine g_bipush (v := 6) C dX10_makeVersion_73 (by decide) ?_
    refine g_icmp_lt (tgt := 86) C dX10_makeVersion_75 (by decide) (fun z39 => ?_) (fun z39 => ?_)
    · replace h := h.1 z39
      refine g_aload_n C dX10_makeVersion_86 rfl 1 rfl ?_
      obtain ⟨m40, m41, m42, m43, m44, h⟩ := h
      obtain ⟨g45, h⟩ := h
      refine gc_callvV (host := "") C E hw hL hx0 (by decide) (by decide) rfl [] rfl (k_X10_remember l D T x0 S m40 m41 m42 m43 m44 hx0 g45) (w0_V 0 C.2.2.2.2.1 kw_495 kw_497 ks_1 kw_1 kw_498 rfl rfl (by decide +kernel) ⟨Nat.le_of_ble_eq_true rfl, Nat.le_of_ble_eq_true rfl⟩) rfl (Nat.le_of_ble_eq_true rfl) (Nat.le_refl _) (Nat.le_refl _) (Nat.zero_le _) (Nat.zero_le _) dX10_makeVersion_87 (fun S46 L47 e48 w49 w50 hp => ?_)
      replace h := h S46 e48 hp
      have g51 := ext_K e48 g34 (by decide)
      have g52 := ext_K e48 hx0 (by decide)
      have w53 := ext_tr he e48
      obtain ⟨g55, h⟩ := h
      refine gc_new (kd := 10) (N := 11) C E w49 w50 (Nat.le_refl _) (Nat.le_refl _) iwx_X9 tyX9 tyX9_ok (by decide) (by decide) rfl (fun j hj => by rcases (show j = 0 ∨ j = 1 ∨ j = 2 ∨ j = 3 ∨ j = 4 ∨ j = 5 ∨ j = 6 ∨ j = 7 ∨ j = 8 ∨ j = 9 ∨ j = 10 by omega) with rfl | rfl | rfl | rfl | rfl | rfl | rfl | rfl | rfl | rfl | rfl <;> rfl) (hW kw_378) (hW kw_379) (hW kw_14) g55.1 g55.2 dX10_makeVersion_90 (fun q54 h0q54 zq54 => ?_)
      replace h := h q54 h0q54 zq54
      have g56 := newO_old 10 g51 (by decide) h0q54
      have g57 := newO_old 10 g52 (by decide) h0q54
      have w58 := wt_newO w49 10 h0q54 (by decide)
      have w59 := hL_new (S' := newO S46 q54 10) w50 (show 10 ≠ 0 by decide) rfl
      have w60 := ext_newO w53 h0q54 10
      have g61 := newO_self S46 q54 10
      refine gc_nS (fun S62 eS62 => ?_)
      replace h := h S62 eS62
      have w63 : wt S62 := by rw [eS62]; exact w58
      have w64 : isL S62 (L47 ++ [q54]) := by rw [eS62]; exact w59
      have w65 : ext S0 S62 := by rw [eS62]; exact w60
      have g66 : hK S62 q54 = 10 := by rw [eS62]; exact g61
      have g67 : hK S62 b33 = 10 := by rw [eS62]; exact g56
      have g68 : hK S62 x0 = 11 := by rw [eS62]; exact g57
      refine g_dup C dX10_makeVersion_93 rfl ?_
      refine g_aload_n C dX10_makeVersion_94 rfl 0 rfl ?_
      obtain ⟨cc69, cc70, g71, h⟩ := h
      obtain ⟨m72, m73, m74, h⟩ := h
      obtain ⟨g75, h⟩ := h
      refine gc_callvI (host := "") (ret := none) C E w63 w64 [.ref b33] rfl (k_X9_init_ l D T q54 b33 S62 m72 m73 m74 cc69 cc70 g66 g67 g75) (w0_I 1 C.2.2.2.2.1 kw_502 kw_503 kw_14 kw_504 rfl rfl rfl (by decide +kernel) ⟨Nat.le_of_ble_eq_true rfl, Nat.le_of_ble_eq_true rfl⟩) rfl (Nat.le_of_ble_eq_true rfl) (Nat.le_refl _) (Nat.le_refl _) g71.1 g71.2 dX10_makeVersion_95 (fun S76 L77 e78 w79 w80 hp => ?_)
      replace h := h S76 e78 hp
      have g81 := ext_K e78 g66 (by decide)
      have g82 := ext_K e78 g67 (by decide)
      have g83 := ext_K e78 g68 (by decide)
      have w84 := ext_tr w65 e78
      refine g_astore (lv' := [(4, .ref q54), (3, .ref b33), (0, .ref x0), (1, .int x1)]) C dX10_makeVersion_98 (by decide) rfl ?_
      refine g_aload C dX10_makeVersion_100 0 rfl ?_
      refine g_iload_n C dX10_makeVersion_102 rfl 3 rfl ?_
      refine gc_putI C iwx_X9 w80 g81 (by decide) (by decide) rfl 0 (by decide) (hW kw_415) rfl tyX9 tyX9_ok nmX9 rfl rfl rfl rfl rfl dX10_makeVersion_103 ?_
      have w85 := wt_putI w79 200 x1 (k_ne g81 (by decide))
      refine gc_nS (fun S86 eS86 => ?_)
      replace h := h S86 eS86
      have w87 : wt S86 := by rw [eS86]; exact w85
      have w88 : isL S86 L77 := by rw [eS86]; exact w80
      have w89 : ext S0 S86 := by rw [eS86]; exact w84
      have g90 : hK S86 q54 = 10 := by rw [eS86]; exact g81
      have g91 : hK S86 b33 = 10 := by rw [eS86]; exact g82
      have g92 : hK S86 x0 = 11 := by rw [eS86]; exact g83
      refine g_aload_n C dX10_makeVersion_106 rfl 2 rfl ?_
      refine gc_getR C w87 iwx_X10 w88 g92 (by decide) (by decide) rfl 0 (by decide) (hW kw_242) rfl rfl rfl dX10_makeVersion_107 (fun o93 eo93 ko93 => ?_)
      obtain ⟨b94, hb9, h⟩ := h
      have g95 : hK S86 b94 = 7 := ko93 b94 (eo93.trans hb9)
      replace h := h g95
      refine g_opt (eo93.trans hb9) ?_
      refine g_aload C dX10_makeVersion_110 0 rfl ?_
      obtain ⟨m96, m97, h⟩ := h
      obtain ⟨g98, h⟩ := h
      refine gc_calliV (host := "") C E w87 w88 g95 (by decide) (by decide) rfl [.ref q54] rfl (k_X6_addVersion l D T b94 q54 S86 m96 m97 g95 g90 g98) (w0_V 1 C.2.2.2.2.1 kw_517 kw_518 kw_519 kw_2 kw_520 rfl rfl (by decide +kernel) ⟨Nat.le_of_ble_eq_true rfl, Nat.le_of_ble_eq_true rfl⟩) rfl (Nat.le_of_ble_eq_true rfl) (Nat.le_refl _) (Nat.le_refl _) (Nat.zero_le _) (Nat.zero_le _) dX10_makeVersion_112 (fun v104 S99 L100 e101 w102 w103 hp => ?_)
      replace h := h v104 S99 e101 hp
      have g105 := ext_K e101 g90 (by decide)
      have g106 := ext_K e101 g91 (by decide)
      have g107 := ext_K e101 g92 (by decide)
      have w108 := ext_tr w89 e101
      exact gx_iret C w102 w103 w108 hr dX10_makeVersion_115 h
    · replace h := h.2 z39
      obtain ⟨g109, h⟩ := h
      exact gx_throw (cls := "java/lang/IllegalStateException") (names := ["java/lang/RuntimeException", "java/lang/Exception"]) C E hst hw hL he (Nat.le_refl _) (Nat.le_refl _) (by decide) (by decide) (hW kw_480) (hW kw_17) (th_FreightRater_78 hW E) tv_FreightRater_78 dX10_makeVersion_78 dX10_makeVersion_81 dX10_makeVersion_82 dX10_makeVersion_85 htab (Nat.le_of_ble_eq_true rfl) (Nat.le_of_ble_eq_true rfl) g109.1 g109.2 h
def wp_X10_makeVersion (P : Int32 → HS → Prop) (X : String → HS → Prop) (x0 : Nat) (p0 : Int32) (p1 : Int32) (S : HS) (mc ms : Nat) : Prop := ((zin p0 0 999) = 0 → ((1 ≤ mc ∧ 6 ≤ ms) ∧ X "java/lang/IllegalArgumentException" S)) ∧ (¬ (zin p0 0 999) = 0 → (∃ b8 : Nat, hR S 220 x0 = some b8 ∧ (hK S b8 = 7 → (∃ (m10 : (Nat → Prop)) (m11 : Nat → Int32), ((WF m11 ∧ RelSt S m10 b8 m11) ∧ (((b2i (hdF' m11 p0 (iv (m11 0)) 0)) = 0 → ((¬ p1 = (-1) → (∃ b20 : Nat, hR S 220 x0 = some b20 ∧ (hK S b20 = 7 → (∃ (m22 : (Nat → Prop)) (m23 : Nat → Int32), ((WF m23 ∧ RelSt S m22 b20 m23) ∧ (∀ (o30 : Option Nat) (S25 : HS), ext S S25 → (∀ b, o30 = some b → hK S25 b = 10) → (S25 = S ∧ (zin p1 0 (m23 0 - 1) = 0 → o30 = none) ∧ (¬ zin p1 0 (m23 0 - 1) = 0 → ∃ y, o30 = some y ∧ RelV S m22 y m23 (iv p1))) → (wp_X10_makeVersion_53  P X x0 p0 o30 S25 mc ms))))))) ∧ (p1 = (-1) → ((1 ≤ mc ∧ 11 ≤ ms) ∧ (∀ q110 : Nat, hK S q110 = 0 → zr S q110 → (∀ S117 : HS, S117 = newO S q110 10 → (∃ cc123 cc124 : Nat, (cc123 ≤ (mc - 1) ∧ cc124 ≤ (ms - 11)) ∧ (∃ (m126 : (Nat → Prop)), ((zr S117 q110 ∧ ¬ m126 q110 ∧ (∀ b, m126 b → hK S117 b ≠ 0) ∧ 32 ≤ cc123 ∧ 181 ≤ cc124) ∧ (∀ (S128 : HS), ext S117 S128 → (frM S117 S128 (fun b => b = q110) ∧ RelV S128 m126 q110 dfV 0) → (wp_X10_makeVersion_53  P X x0 p0 (some q110) S128 ((mc - 1) - cc123) ((ms - 11) - cc124)))))))))))) ∧ (¬ (b2i (hdF' m11 p0 (iv (m11 0)) 0)) = 0 → ((1 ≤ mc ∧ 6 ≤ ms) ∧ X "java/lang/IllegalArgumentException" S))))))))
set_option maxRecDepth 100000 in
set_option maxHeartbeats 4000000 in
theorem t_X10_makeVersion {p : Program} {l : Launch} {e : Env} {s : State} {m : MethodId} {args : Array Value} {below : List Frame} {meth : Method} {c : Code} {D : va_G} {A : Nat → Prop} {T : Nat → ClassId} (C : GC p s m args meth c cX10_makeVersion "FreightRater" (ws_X10_makeVersion) 5 D A (zty T)) (E : GE T A s) (hst : l.stackTraces = false) (htab : ∀ z ∈ c.exceptionTable.toList, False) (hr : meth.sig.returnType = (some .int)) (P : Int32 → HS → Prop) (X : String → HS → Prop) : ∀ (x0 : Nat) (p0 : Int32) (p1 : Int32) (S0 S : HS) (mc ms : Nat) (L : List Nat), S0 = S → wt S → hL S L → (hK S x0 = 11) → wp_X10_makeVersion P X x0 p0 p1 S mc ms → GW p l e { rm_X10_makeVersion with cells := mc, slots := ms } s m args below meth c D A 5 mc ms (vx_MQ below (va_Qi (fun v (u : HS × List Nat) => P v u.1 ∧ CO S0 u) (CE D T A) A) (CXX D T A S0 X) args s mc ms A) (CW T S L) mc ms 0 [(0, .ref x0), (1, .int p0), (2, .int p1)] [] := by
  have hW : ∀ {w : Cond}, w ∈ W0 → w.before args s = true := fun h => C.2.2.2.2.1 _ (List.mem_cons_of_mem _ h)
  intro x0 p0 p1 S0 S mc ms L hS0 hw hL hx0 h
  have he : ext S0 S := by rw [hS0]; exact ext_rf
  unfold wp_X10_makeVersion at h
  refine g_iload_n C dX10_makeVersion_0 rfl 1 rfl ?_
  refine g_iconst (v := 0) C dX10_makeVersion_1 (by decide) ?_
  refine g_sipush (v := 999) C dX10_makeVersion_2 (by decide) ?_
  refine gc_calliS (host := "") C E hw hL [.int p0, .int 0, .int 999] rfl (k_X10_isBetween l D T p0 0 999 S ) (w0_S 3 C.2.2.2.2.1 kw_303 kw_304 kw_1 kw_305 rfl rfl (by decide +kernel) ⟨Nat.le_of_ble_eq_true rfl, Nat.le_of_ble_eq_true rfl⟩) rfl (Nat.le_of_ble_eq_true rfl) (Nat.le_refl _) (Nat.le_refl _) (Nat.zero_le _) (Nat.zero_le _) dX10_makeVersion_5 (fun v9 S9 L1 he9 hw9 hL9 hp => ?_)
  obtain ⟨hv9, hs9⟩ := hp
  replace hs9 := hs9.symm
  subst hs9
  replace hv9 := hv9.symm
  subst hv9
  have w4 := hL9
  refine g_if_eq (tgt := 22) C dX10_makeVersion_8 (by decide) (fun z5 => ?_) (fun z5 => ?_)
  · replace h := h.1 z5
    obtain ⟨g6, h⟩ := h
    exact gx_throw (cls := "java/lang/IllegalArgumentException") (names := ["java/lang/RuntimeException", "java/lang/Exception"]) C E hst hw w4 he (Nat.le_refl _) (Nat.le_refl _) (by decide) (by decide) (hW kw_310) (hW kw_13) (th_FreightRater_62 hW E) tv_FreightRater_62 dX10_makeVersion_22 dX10_makeVersion_25 dX10_makeVersion_26 dX10_makeVersion_29 htab (Nat.le_of_ble_eq_true rfl) (Nat.le_of_ble_eq_true rfl) g6.1 g6.2 h
  · replace h := h.2 z5
    refine g_aload_n C dX10_makeVersion_11 rfl 0 rfl ?_
    refine gc_getR C hw iwx_X10 w4 hx0 (by decide) (by decide) rfl 0 (by decide) (hW kw_242) rfl rfl rfl dX10_makeVersion_12 (fun o7 eo7 ko7 => ?_)
    obtain ⟨b8, hb9, h⟩ := h
    have g9 : hK S b8 = 7 := ko7 b8 (eo7.trans hb9)
    replace h := h g9
    refine g_opt (eo7.trans hb9) ?_
    refine g_iload_n C dX10_makeVersion_15 rfl 1 rfl ?_
    obtain ⟨m10, m11, h⟩ := h
    obtain ⟨g12, h⟩ := h
    refine gc_calliV (host := "") C E hw w4 g9 (by decide) (by decide) rfl [.int p0] rfl (k_X6_hasFirstDay l D T b8 p0 S m10 m11 g9 g12) (w0_V 1 C.2.2.2.2.1 kw_306 kw_307 kw_308 kw_2 kw_309 rfl rfl (by decide +kernel) ⟨Nat.le_of_ble_eq_true rfl, Nat.le_of_ble_eq_true rfl⟩) rfl (Nat.le_of_ble_eq_true rfl) (Nat.le_refl _) (Nat.le_refl _) (Nat.zero_le _) (Nat.zero_le _) dX10_makeVersion_16 (fun v9 S9 L13 he9 hw9 hL9 hp => ?_)
    obtain ⟨hv9, hs9⟩ := hp
    replace hs9 := hs9.symm
    subst hs9
    replace hv9 := hv9.symm
    subst hv9
    have w16 := hL9
    refine g_if_eq (tgt := 30) C dX10_makeVersion_19 (by decide) (fun z17 => ?_) (fun z17 => ?_)
    · replace h := h.1 z17
      refine g_iload_n C dX10_makeVersion_30 rfl 2 rfl ?_
      refine g_iconst (v := -1) C dX10_makeVersion_31 (by decide) ?_
      refine g_icmp_ne (tgt := 45) C dX10_makeVersion_32 (by decide) (fun z18 => ?_) (fun z18 => ?_)
      · replace h := h.1 z18
        refine g_aload_n C dX10_makeVersion_45 rfl 0 rfl ?_
        refine gc_getR C hw iwx_X10 w16 hx0 (by decide) (by decide) rfl 0 (by decide) (hW kw_242) rfl rfl rfl dX10_makeVersion_46 (fun o19 eo19 ko19 => ?_)
        obtain ⟨b20, hb9, h⟩ := h
        have g21 : hK S b20 = 7 := ko19 b20 (eo19.trans hb9)
        replace h := h g21
        refine g_opt (eo19.trans hb9) ?_
        refine g_iload_n C dX10_makeVersion_49 rfl 2 rfl ?_
        obtain ⟨m22, m23, h⟩ := h
        obtain ⟨g24, h⟩ := h
        refine gc_callqV (host := "") C E hw w16 g21 (by decide) (by decide) rfl [.int p1] rfl (k_X6_versionAt l D T b20 p1 S m22 m23 g21 g24) (w0_V 1 C.2.2.2.2.1 kw_460 kw_461 kw_462 kw_2 kw_463 rfl rfl (by decide +kernel) ⟨Nat.le_of_ble_eq_true rfl, Nat.le_of_ble_eq_true rfl⟩) rfl (Nat.le_of_ble_eq_true rfl) (Nat.le_refl _) (Nat.le_refl _) (Nat.zero_le _) (Nat.zero_le _) dX10_makeVersion_50 (fun o30 S25 L26 e27 w28 w29 ko30 hp => ?_)
        replace h := h o30 S25 e27 ko30 hp
        have g31 := ext_K e27 hx0 (by decide)
        have w32 := ext_tr he e27
        refine g_locals [0, 1] rfl ?_
        refine t_X10_makeVersion_53 C E hst htab hr S0  P X  x0 p0 o30 S25 mc ms L26 w28 w29 w32 g31 ko30 h
      · replace h := h.2 z18
        obtain ⟨g111, h⟩ := h
        refine gc_new (kd := 10) (N := 11) C E hw w16 (Nat.le_refl _) (Nat.le_refl _) iwx_X9 tyX9 tyX9_ok (by decide) (by decide) rfl (fun j hj => by rcases (show j = 0 ∨ j = 1 ∨ j = 2 ∨ j = 3 ∨ j = 4 ∨ j = 5 ∨ j = 6 ∨ j = 7 ∨ j = 8 ∨ j = 9 ∨ j = 10 by omega) with rfl | rfl | rfl | rfl | rfl | rfl | rfl | rfl | rfl | rfl | rfl <;> rfl) (hW kw_378) (hW kw_379) (hW kw_14) g111.1 g111.2 dX10_makeVersion_35 (fun q110 h0q110 zq110 => ?_)
        replace h := h q110 h0q110 zq110
        have g112 := newO_old 10 hx0 (by decide) h0q110
        have w113 := wt_newO hw 10 h0q110 (by decide)
        have w114 := hL_new (S' := newO S q110 10) w16 (show 10 ≠ 0 by decide) rfl
        have w115 := ext_newO he h0q110 10
        have g116 := newO_self S q110 10
        refine gc_nS (fun S117 eS117 => ?_)
        replace h := h S117 eS117
        have w118 : wt S117 := by rw [eS117]; exact w113
        have w119 : isL S117 (L13 ++ [q110]) := by rw [eS117]; exact w114
        have w120 : ext S0 S117 := by rw [eS117]; exact w115
        have g121 : hK S117 q110 = 10 := by rw [eS117]; exact g116
        have g122 : hK S117 x0 = 11 := by rw [eS117]; exact g112
        refine g_dup C dX10_makeVersion_38 rfl ?_
        obtain ⟨cc123, cc124, g125, h⟩ := h
        obtain ⟨m126, h⟩ := h
        obtain ⟨g127, h⟩ := h
        refine gc_callvI (host := "") (ret := none) C E w118 w119 [] rfl (k_X9_init l D T q110 S117 m126 cc123 cc124 g121 g127) (w0_I 0 C.2.2.2.2.1 kw_380 kw_381 kw_14 kw_382 rfl rfl rfl (by decide +kernel) ⟨Nat.le_of_ble_eq_true rfl, Nat.le_of_ble_eq_true rfl⟩) rfl (Nat.le_of_ble_eq_true rfl) (Nat.le_refl _) (Nat.le_refl _) g125.1 g125.2 dX10_makeVersion_39 (fun S128 L129 e130 w131 w132 hp => ?_)
        replace h := h S128 e130 hp
        have g133 := ext_K e130 g121 (by decide)
        have g134 := ext_K e130 g122 (by decide)
        have w135 := ext_tr w120 e130
        refine g_goto (tgt := 53) C dX10_makeVersion_42 (by decide) ?_
        refine g_locals [0, 1] rfl ?_
        refine t_X10_makeVersion_53 C E hst htab hr S0  P X  x0 p0 (some q110) S128 ((mc - 1) - cc123) ((ms - 11) - cc124) L129 w131 w132 w135 g134 (fun b hb => by cases hb; exact g133) h
    · replace h := h.2 z17
      obtain ⟨g136, h⟩ := h
      exact gx_throw (cls := "java/lang/IllegalArgumentException") (names := ["java/lang/RuntimeException", "java/lang/Exception"]) C E hst hw w16 he (Nat.le_refl _) (Nat.le_refl _) (by decide) (by decide) (hW kw_310) (hW kw_13) (th_FreightRater_62 hW E) tv_FreightRater_62 dX10_makeVersion_22 dX10_makeVersion_25 dX10_makeVersion_26 dX10_makeVersion_29 htab (Nat.le_of_ble_eq_true rfl) (Nat.le_of_ble_eq_true rfl) g136.1 g136.2 h
theorem c_X10_makeVersion (l : Launch) (hst : l.stackTraces = false) (D : va_G) (T : Nat → ClassId) (x0 : Nat) (p0 : Int32) (p1 : Int32) (S : HS) (mc ms : Nat) (hx0 : hK S x0 = 11) (P : Int32 → HS → Prop) (X : String → HS → Prop) (h : wp_X10_makeVersion P X x0 p0 p1 S mc ms) : CXi l yX10_makeVersion (ws_X10_makeVersion) rm_X10_makeVersion D T [.ref x0, .int p0, .int p1] S mc ms P X := gx_meti (by decide) rfl rfl (Nat.le_of_ble_eq_true rfl) (fun p e s m args below meth c A L C E hnm hr htab hw hL => t_X10_makeVersion C E hst htab hr P X x0 p0 p1 S S mc ms L rfl hw hL hx0 h)
theorem mk_c {μ : Nat → Int32} {d f : Int32} {n : Nat} (en : μ 0 = nI n) (hn : n < 6) : (∀ k, k ≠ 0 → k < 274 + 510 * n ∨ 274 + 510 * n + 510 ≤ k → mkF μ d f k = μ k) ∧ mkF μ d f 0 = nI (n + 1) ∧ mkF μ d f (274 + 510 * n) = d ∧ ∀ o, 1 ≤ o → o < 510 → mkF μ d f (274 + 510 * n + o) = if f < 0 then dfV (274 + o) else μ (274 + 510 * iv f + o) := by
  have ei : iv (μ 0) = n := by rw [en]; exact nI_clamp (by omega)
  have co : ∀ k, k < 274 + 510 * n ∨ 274 + 510 * n + 510 ≤ k → cpv μ n f k = μ k := fun k hk => by
    unfold cpv
    rw [if_neg (by omega)]
  have ci : ∀ o, o < 510 → cpv μ n f (274 + 510 * n + o) = if f < 0 then 0 else μ (274 + 510 * iv f + o) := fun o ho => by
    unfold cpv
    rw [if_pos ⟨by omega, by omega⟩, show 274 + 510 * n + o - (274 + 510 * n) = o by omega]
  unfold mkF
  rw [ei, en, nI_1]
  by_cases c : f < 0
  · rw [if_pos c]
    unfold upd dfV
    refine ⟨fun k h1 h2 => ?_, ?_, ?_, fun o h1 h2 => ?_⟩
    · rw [if_neg h1, if_neg (by omega), if_neg (by omega), if_neg (by omega), co k h2]
    · rw [if_pos rfl]
    · rw [if_neg (by omega), if_pos rfl]
    · rw [if_neg (by omega), if_neg (by omega), if_pos c]
      by_cases d1 : o = 149
      · rw [if_pos (by omega), if_neg (by omega), if_pos (by omega)]
      · rw [if_neg (by omega)]
        by_cases d2 : o = 146
        · rw [if_pos (by omega), if_pos (by omega)]
        · rw [if_neg (by omega), ci o h2, if_pos c, if_neg (by omega), if_neg (by omega)]
  · rw [if_neg c]
    unfold upd
    refine ⟨fun k h1 h2 => ?_, ?_, ?_, fun o h1 h2 => ?_⟩
    · rw [if_neg h1, if_neg (by omega), co k h2]
    · rw [if_pos rfl]
    · rw [if_neg (by omega), if_pos rfl]
    · rw [if_neg (by omega), if_neg (by omega), ci o h2, if_neg c, if_neg c]
theorem rwO_c3 {μ μ' : Nat → Int32} {v v' a : Nat} (e : ∀ c, 1 ≤ c → c < 36 → μ' (274 + 510 * v' + 150 + 36 * a + c) = μ (274 + 510 * v + 150 + 36 * a + c)) (h30 : iv (μ (274 + 510 * v + 150 + 36 * a + 4)) ≤ 30) (h : rwO μ v a) : rwO μ' v' a := by
  have e6 : ∀ j, j < 30 → μ' (274 + 510 * v' + 150 + 36 * a + 6 + j) = μ (274 + 510 * v + 150 + 36 * a + 6 + j) := fun j hj => by
    have := e (6 + j) (by omega) (by omega)
    rw [← Nat.add_assoc, ← Nat.add_assoc] at this
    exact this
  have e3 := e 3 (by omega) (by omega)
  have e4 := e 4 (by omega) (by omega)
  have e60 := e 6 (by omega) (by omega)
  obtain ⟨h1, h2⟩ := h
  unfold rwO
  rw [e3, e4, e60]
  refine ⟨h1, fun q => ?_⟩
  obtain ⟨a1, a2, a3⟩ := h2 q
  refine ⟨a1, fun j hj => ?_, ?_⟩
  · rw [e6 (j + 1) (by omega), e6 j (by omega)]; exact a2 j hj
  · rw [e6 _ (by omega)]; exact a3
theorem paT_c2 {μ μ' : Nat → Int32} {e e' : Nat} : ∀ k j, (∀ i, j ≤ i → i < j + k → μ' (e' + 6 + i) = μ (e + 6 + i)) → (paT μ' e' k j).length = (paT μ e k j).length := by
  intro k
  induction k with
  | zero => intro j _; rfl
  | succ k ih =>
    intro j h
    rw [paT, paT, List.length_cons, List.length_cons, List.length_append, List.length_append, h j (Nat.le_refl _) (by omega), ih (j + 1) (fun i h1 h2 => h i (by omega) (by omega))]
theorem dfV_z {k : Nat} (h : k ≠ 420 ∧ k ≠ 423) : dfV k = 0 := dfV_0 h.1 h.2
theorem dfV_WF : WF dfV := by
  have z : ∀ k B, k ≠ 420 ∧ k ≠ 423 → sm dfV k B := fun k B h => ⟨0, Nat.zero_le _, dfV_z h⟩
  have b9 : ∀ k, sm dfV k 9999 := fun k => by
    unfold sm dfV
    by_cases c : k = 274 + 146
    · rw [if_pos c]; exact ⟨5000, by omega, rfl⟩
    · rw [if_neg c]
      by_cases d : k = 274 + 149
      · rw [if_pos d]; exact ⟨999, by omega, rfl⟩
      · rw [if_neg d]; exact ⟨0, by omega, rfl⟩
  have nn : ∀ {k n B : Nat}, k ≠ 420 ∧ k ≠ 423 → dfV k = nI n → n ≤ B → B < 2 ^ 31 → n = 0 := fun h e hb hB => by
    rw [dfV_z h] at e
    have := (nI_eq (a := 0) (by decide) (by omega)).mp e
    omega
  refine ⟨z _ _ (by omega), z _ _ (by omega), z _ _ (by omega), fun v hv => ⟨z _ _ (by omega), fun y y1 y9 => ⟨z _ _ (by omega), b9 _, fun i hi => ⟨b9 _, z _ _ (by omega)⟩⟩, fun i hi => z _ _ (by omega), b9 _, z _ _ (by omega), b9 _, b9 _, fun a ha => ⟨Or.inl (dfV_z (by omega)), b9 _, z _ _ (by omega), z _ _ (by omega), z _ _ (by omega), Or.inr (z _ _ (by omega)), fun k hk => z _ _ (by omega), fun _ => z _ _ (by omega), fun _ => z _ _ (by omega)⟩, fun n e h6 hvn => ?_⟩, fun s hs => ⟨z _ _ (by omega), z _ _ (by omega), z _ _ (by omega), Or.inr (by rw [dfV_z (by omega)]; exact Int32.le_refl _), fun p hp => ⟨fun k hk => z _ _ (by omega), z _ _ (by omega)⟩, fun n e h5 p hp k hk => ?_⟩⟩
  · have := nn (k := 0) (by omega) e h6 (by decide); omega
  · have := nn (by omega) e h5 (by decide); omega
theorem mk_gw {μ : Nat → Int32} {d f : Int32} {n : Nat} (hG : GWF μ) (en : μ 0 = nI n) (hn : n < 6) (hf : f < 0 ∨ (¬ f < 0 ∧ iv f < n)) : GWF (mkF μ d f) := by
  obtain ⟨c1, c2, c3, c4⟩ := mk_c (d := d) (f := f) en hn
  obtain ⟨w, r, o, pp⟩ := hG
  have ei : iv (μ 0) = n := by rw [en]; exact nI_clamp (by omega)
  -- the row and version it is made of
  have src : ∃ (μs : Nat → Int32) (vs : Nat), WFV μs vs ∧ (∃ q : Nat, 1000 ≤ q ∧ q ≤ 9999 ∧ μs (274 + 510 * vs + 146) = nI q) ∧ (∀ a, a < 10 → rwO μs vs a ∧ iv (μs (274 + 510 * vs + 150 + 36 * a + 4)) ≤ 30 ∧ (paT μs (274 + 510 * vs + 150 + 36 * a) (iv (μs (274 + 510 * vs + 150 + 36 * a + 4))) 0).length ≤ 80) ∧ ∀ o, 1 ≤ o → o < 510 → mkF μ d f (274 + 510 * n + o) = μs (274 + 510 * vs + o) := by
    rcases hf with q | ⟨q, q2⟩
    · refine ⟨dfV, 0, dfV_WF.v (by omega), ⟨5000, by omega, by omega, rfl⟩, fun a ha => ?_, fun o h1 h2 => by rw [c4 o h1 h2, if_pos q]⟩
      have e4 : iv (dfV (274 + 510 * 0 + 150 + 36 * a + 4)) = 0 := by rw [dfV_z (by omega)]; rfl
      have e3 : iv (dfV (274 + 510 * 0 + 150 + 36 * a + 3)) = 0 := by rw [dfV_z (by omega)]; rfl
      refine ⟨⟨fun _ => e3, fun z => by omega⟩, by omega, ?_⟩
      rw [e4]; exact Nat.zero_le _
    · have v6 : iv f < 6 := by omega
      exact ⟨μ, iv f, w.v v6, w.div en (by omega) q2, fun a ha => ⟨r _ v6 a ha, w.v30 v6 a ha, pp _ v6 a ha⟩, fun o h1 h2 => by rw [c4 o h1 h2, if_neg q]⟩
  obtain ⟨μs, vs, s1, s2, s3, s4⟩ := src
  have sA : ∀ a c, a < 10 → c < 36 → mkF μ d f (274 + 510 * n + 150 + 36 * a + c) = μs (274 + 510 * vs + 150 + 36 * a + c) := fun a c ha hc => by
    have := s4 (150 + 36 * a + c) (by omega) (by omega)
    rw [← Nat.add_assoc, ← Nat.add_assoc, ← Nat.add_assoc, ← Nat.add_assoc] at this
    exact this
  have sO : ∀ v, v ≠ n → ∀ o, o < 510 → mkF μ d f (274 + 510 * v + o) = μ (274 + 510 * v + o) := fun v hv o ho => c1 _ (by omega) (by omega)
  refine ⟨⟨⟨n + 1, by omega, c2⟩, sm_cg (c1 1 (by omega) (by omega)) w.2.1, sm_cg (c1 2 (by omega) (by omega)) w.2.2.1, fun v hv => ?_, fun s hs => WFS_cg (fun q hq => c1 _ (by omega) (by omega)) (w.s hs)⟩, fun v hv a ha => ?_, fun i hi => ?_, fun v hv a ha => ?_⟩
  · by_cases e : v = n
    · subst e
      exact WFV_c2 s4 s1 (fun _ _ _ _ => by obtain ⟨q, q1, q2, q3⟩ := s2; exact ⟨q, q1, q2, (s4 146 (by omega) (by omega)).trans q3⟩)
    · refine WFV_c2 (fun q _ q2 => sO v e q q2) (w.v hv) (fun n' e' h6 hvn => ?_)
      rw [c2] at e'
      have := (nI_eq (by omega) (by omega)).mp e'
      obtain ⟨q, q1, q2, q3⟩ := w.div en (by omega) (show v < n by omega)
      exact ⟨q, q1, q2, (sO v e 146 (by omega)).trans q3⟩
  · by_cases e : v = n
    · subst e
      exact rwO_c3 (fun c _ hc => sA a c ha hc) (s3 a ha).2.1 (s3 a ha).1
    · exact rwO_c3 (fun c _ hc => by
        have := sO v e (150 + 36 * a + c) (by omega)
        rw [← Nat.add_assoc, ← Nat.add_assoc] at this
        exact this) (w.v30 hv a ha) (r v hv a ha)
  · rw [c1 2 (by omega) (by omega)] at hi
    obtain ⟨ns, hns, ens⟩ := w.2.2.1
    have hi9 := hi
    rw [ens, show iv (nI ns) = ns from nI_clamp (by omega)] at hi9
    rw [c1 (4 + 2 * i) (by omega) (by omega)]
    exact o i hi
  · by_cases e : v = n
    · subst e
      have h3 := s3 a ha
      rw [sA a 4 ha (by omega), paT_c2 (μ := μs) (e := 274 + 510 * vs + 150 + 36 * a) _ 0 (fun i _ hi => by
        have := sA a (6 + i) ha (by omega)
        rw [← Nat.add_assoc, ← Nat.add_assoc] at this
        exact this)]
      exact h3.2.2
    · exact paE w hv ha (fun c hc => by
        have := sO v e (150 + 36 * a + c) (by omega)
        rw [← Nat.add_assoc, ← Nat.add_assoc] at this
        exact this) (pp v hv a ha)
theorem RelV.n2 {S : HS} {M : Nat → Prop} {x v : Nat} {μ : Nat → Int32} {a : Nat → Nat} {y : Int32} (hw : WF μ) (hv : v < 6) (hV : RelV S M x μ v) (hO : OwV S x a) : RelV (putI S 200 x y) M x (upd μ (274 + 510 * v) y) v := by
  have hf : frM S (putI S 200 x y) (fun b => b = x) := frM.pI (M := fun b => b = x) frM.rf rfl _ _
  have hk : hK (putI S 200 x y) = hK S := by simp only [px_KI, px_KR, px_KA, px_KB, px_KO, px_KW, px_KC, px_NI, px_NR, px_NA, px_NB, px_NO, px_NW, px_NC, px_II, px_IR, px_IA, px_IB, px_IO, px_IW, px_IC, px_RI, px_RR, px_RA, px_RB, px_RO, px_RW, px_RC, px_AI, px_AR, px_AA, px_AB, px_AO, px_AW, px_AC, px_BI, px_BR, px_BA, px_BB, px_BO, px_BW, px_BC]
  have hn : hN (putI S 200 x y) = hN S := by simp only [px_KI, px_KR, px_KA, px_KB, px_KO, px_KW, px_KC, px_NI, px_NR, px_NA, px_NB, px_NO, px_NW, px_NC, px_II, px_IR, px_IA, px_IB, px_IO, px_IW, px_IC, px_RI, px_RR, px_RA, px_RB, px_RO, px_RW, px_RC, px_AI, px_AR, px_AA, px_AB, px_AO, px_AW, px_AC, px_BI, px_BR, px_BA, px_BB, px_BO, px_BW, px_BC]
  have hr : hR (putI S 200 x y) = hR S := by simp only [px_KI, px_KR, px_KA, px_KB, px_KO, px_KW, px_KC, px_NI, px_NR, px_NA, px_NB, px_NO, px_NW, px_NC, px_II, px_IR, px_IA, px_IB, px_IO, px_IW, px_IC, px_RI, px_RR, px_RA, px_RB, px_RO, px_RW, px_RC, px_AI, px_AR, px_AA, px_AB, px_AO, px_AW, px_AC, px_BI, px_BR, px_BA, px_BB, px_BO, px_BW, px_BC]
  have hb : hB (putI S 200 x y) = hB S := by simp only [px_KI, px_KR, px_KA, px_KB, px_KO, px_KW, px_KC, px_NI, px_NR, px_NA, px_NB, px_NO, px_NW, px_NC, px_II, px_IR, px_IA, px_IB, px_IO, px_IW, px_IC, px_RI, px_RR, px_RA, px_RB, px_RO, px_RW, px_RC, px_AI, px_AR, px_AA, px_AB, px_AO, px_AW, px_AC, px_BI, px_BR, px_BA, px_BB, px_BO, px_BW, px_BC]
  have hA9 : hA (putI S 200 x y) = hA S := by simp only [px_KI, px_KR, px_KA, px_KB, px_KO, px_KW, px_KC, px_NI, px_NR, px_NA, px_NB, px_NO, px_NW, px_NC, px_II, px_IR, px_IA, px_IB, px_IO, px_IW, px_IC, px_RI, px_RR, px_RA, px_RB, px_RO, px_RW, px_RC, px_AI, px_AR, px_AA, px_AB, px_AO, px_AW, px_AC, px_BI, px_BR, px_BA, px_BB, px_BO, px_BW, px_BC]
  have sa : ∀ j, j < 33 → j ≠ 0 → sam S (putI S 200 x y) (a j) := fun j hj h1 => hO.sa hf hj (fun q => hO.ne hj (j := 0) (by omega) h1 (q.trans hO.1.symm))
  have fo : frM S (putI S 200 x y) (owA a) := hf.sub (fun b hb => ⟨0, by omega, hb.trans hO.1.symm⟩)
  have hm : ∀ {k : Nat}, 274 + 510 * v < k → upd μ (274 + 510 * v) y k = μ k := fun hk => by unfold upd; rw [if_neg (by omega)]
  have hs : ∀ {j d : Nat}, j ≠ 200 → 0 < d → hI S j x = μ (274 + 510 * v + d) → hI (putI S 200 x y) j x = upd μ (274 + 510 * v) y (274 + 510 * v + d) := fun {j d} hj hd e => by
    rw [px_II, hm (by omega), if_neg (fun q => hj q.1)]; exact e
  have hV0 := hV
  obtain ⟨⟨h1, h2, h3, h4, h6, h7, h8, h9⟩, _⟩ := hV
  obtain ⟨g1, g2, g3, _⟩ := hV0.in hO
  refine hV0.of hO hk hn hr ⟨?_, hs (by decide) (by decide) h4, hs (by decide) (by decide) h6, hs (by decide) (by decide) h7, hs (by decide) (by decide) h8, hs (by decide) (by decide) h9⟩ (fun j hj => ?_) (by rw [hb]) (fun z9 hz9 => ?_) (fun b hb9 => ?_)
  · rw [px_II, if_pos ⟨rfl, rfl⟩]
    unfold upd
    rw [if_pos rfl]
  · rw [hm (by omega)] at hj
    rw [hA9, hm (by omega), hm (by omega), hm (by omega)]
    exact g1 j hj
  · exact (hO.scs hz9 (g2 z9 hz9) (sa _ (by omega) (by omega)) (sa _ (by omega) (by omega)) (sa _ (by omega) (by omega))).c1 ⟨by omega, by omega⟩ (hm (by omega)) (hm (by omega)) (fun k hk9 => hm (by omega)) (hw.b5 hv _ (by omega) (by omega))
  · exact hO.acs hV0 fo hb9 (by rw [hb]) (fun k hk9 => hm (by omega)) (hw.v30 hv b hb9)
theorem RelSt.vs {S S1 : HS} {M : Nat → Prop} {y b : Nat} {μ μ' : Nat → Int32} (h : RelSt S M y μ) (hw : WF μ) (r1 : hR S 140 y = some b) (hf : frM S S1 M) (eK : hK S1 = hK S) (eN : hN S1 = hN S) (eR : hR S1 = hR S) (eI : ∀ i, i ≠ 141 → hI S1 i y = hI S i y) (e41 : hI S1 141 y = μ' 0) (eA : hA S1 = hA S) (eB : ∀ c, c ≠ b → hB S1 c = hB S c) (hc : ∀ k, k ≠ 0 → k < 274 → μ' k = μ k) (hs : ∀ v, v < iv (μ' 0) → ∃ z, hB S1 b v = some z ∧ RelV S1 M z μ' v) : RelSt S1 M y μ' := by
  obtain ⟨⟨h1, h2, h3, h4, h5⟩, ⟨b1, r1', k1, n1, _⟩, ⟨c, r2, k2, n2, hb⟩, ⟨t, p, r3, r4, k3, k4, n3, n4, ht⟩⟩ := h
  have ec : b1 = b := Option.some.inj (r1'.symm.trans r1)
  subst ec
  have hb1 : c ≠ b1 := fun z => by rw [z, k1] at k2; exact absurd k2 (by decide)
  have c1 : μ' 1 = μ 1 := hc 1 (by omega) (by omega)
  have c2 : μ' 2 = μ 2 := hc 2 (by omega) (by omega)
  refine ⟨⟨by rw [eK]; exact h1, e41, by rw [eI 143 (by decide), c1]; exact h3, by rw [eI 146 (by decide), c2]; exact h4, by rw [eI 147 (by decide), hc 3 (by omega) (by omega)]; exact h5⟩, ⟨b1, by rw [eR]; exact r1', by rw [eK]; exact k1, by rw [eN]; exact n1, hs⟩, ⟨c, by rw [eR]; exact r2, by rw [eK]; exact k2, by rw [eN]; exact n2, fun s hs9 => ?_⟩, ⟨t, p, by rw [eR]; exact r3, by rw [eR]; exact r4, by rw [eK]; exact k3, by rw [eK]; exact k4, by rw [eN]; exact n3, by rw [eN]; exact n4, fun i hi => ?_⟩⟩
  · rw [c1] at hs9
    obtain ⟨nv, hn6, en⟩ := hw.2.1
    have hv9 := hs9
    rw [en, show iv (nI nv) = nv from nI_clamp (by omega)] at hv9
    obtain ⟨u, u1, u2⟩ := hb s hs9
    exact ⟨u, by rw [eB c hb1]; exact u1, (u2.fm hf).cg (fun k hk => hc _ (by omega) (by omega)) (hw.pcs (by omega))⟩
  · rw [c2] at hi
    obtain ⟨ns, hn5, en⟩ := hw.2.2.1
    have hi9 := hi
    rw [en, show iv (nI ns) = ns from nI_clamp (by omega)] at hi9
    rw [eA, hc (4 + 2 * i) (by omega) (by omega), hc (4 + 2 * i + 1) (by omega) (by omega)]
    exact ht i hi
theorem rl_mv {P : Int32 → HS → Prop} {X : String → HS → Prop} {S : HS} {a : Nat → Nat} {mu : Nat → Nat → Int32} {g b : Nat → Int32} {sh : List Int32} {d f : Int32} {s0 : Option Nat} {n kc ks : Nat} (h : FrS S a mu g b sh) (en : mu 0 0 = nI n) (hn : n ≤ 6) (hs : ∀ y, s0 = some y → ∃ (μs : Nat → Int32) (vs : Nat), WF μs ∧ vs < 6 ∧ RelV S (fxM a) y μs vs ∧ (n < 6 → ∀ o, 1 ≤ o → o < 510 → mkF (mu 0) d f (274 + 510 * n + o) = μs (274 + 510 * vs + o))) (hG : n < 6 → s0 ≠ none → GWF (mkF (mu 0) d f)) (hkc : 33 ≤ kc) (hks : 192 ≤ ks) (hP : ∀ S1, n < 6 → s0 ≠ none → FrS S1 a (fun t => if t = 0 then mkF (mu 0) d f else rmU mu g t) (rmG g) b sh → P (nI n) S1) (hX1 : s0 = none → X "java/lang/IndexOutOfBoundsException" S) (hX2 : s0 ≠ none → n = 6 → X "java/lang/IllegalStateException" S) : wp_X10_makeVersion_53 P X (a 50) d s0 S kc ks := by
  unfold wp_X10_makeVersion_53
  refine ⟨fun z => ⟨⟨by omega, by omega⟩, hX1 z⟩, fun y ey hy => ⟨a 0, h.r0, fun _ => ?_⟩⟩
  obtain ⟨μs, vs, ws, hvs, Rs, es⟩ := hs y ey
  have ne : s0 ≠ none := by rw [ey]; exact fun z => by cases z
  rw [h.now.2.1.2.1, en, show (nI n < (6 : Int32)) = (n < 6) from propext (nI_ltI (b := 6) (by omega) (by decide))]
  refine ⟨fun c => ⟨a, mu, g, b, sh, ⟨h, rfl⟩, fun S46 he46 h46 => ?_⟩, fun c => ⟨⟨by omega, by omega⟩, hX2 ne (by omega)⟩⟩
  obtain ⟨H46, f46, k46, r46, s46⟩ := h46
  refine ⟨⟨by omega, by omega⟩, fun q q0 qz S62 e62 => ?_⟩
  have f62 : frM S46 S62 (fun _ => False) := by rw [e62]; exact frM.rf.nO ext_rf q0 10
  have x62 : ext S46 S62 := by rw [e62]; exact ext_newO ext_rf q0 10
  have R46 := Rs.fm f46
  have yq : y ≠ q := fun z => by have := R46.1.1; rw [z, q0] at this; exact absurd this (by decide)
  refine ⟨32, 181, ⟨by omega, by omega⟩, fxM a, μs, vs, ⟨ws, hvs, R46.fm (f62.sub (fun _ z => z.elim)), yq, H46.1.nM q0, H46.1.xM x62, Nat.le_refl _, Nat.le_refl _⟩, fun S76 he76 h76 S86 e86 => ?_⟩
  obtain ⟨f76, R76, aw, OW, o0⟩ := h76
  have f76' : frM S46 S76 (fun _ => False) := f62.nw f76 (fun b9 hb z => hb (by rw [z]; exact q0))
  have f86 : frM S76 S86 (fun c9 => c9 = q) := by
    rw [e86]
    exact frM.pI (M := fun c9 => c9 = q) frM.rf rfl _ _
  have f86' : frM S46 S86 (fun _ => False) := f76'.nw f86 (fun b9 hb z => hb (by rw [z]; exact q0))
  have x86 : ext S76 S86 := by rw [e86]; exact ext_rf
  have H86 := H46.nw (ext_tr x62 (ext_tr he76 x86)) f86'
  obtain ⟨c1, c2, c3, c4⟩ := mk_c (d := d) (f := f) en c
  have Rq : RelV S86 (fxM a) q (mkF (mu 0) d f) n := by
    have r2 := R76.n2 (y := d) ws hvs OW
    rw [← e86] at r2
    have um : ∀ {k : Nat}, 274 + 510 * vs < k → upd μs (274 + 510 * vs) d k = μs k := fun hk => by unfold upd; rw [if_neg (by omega)]
    refine r2.cg (fun k hk => ?_) (sm_cg (um (by omega)) (ws.rng hvs)) (fun z z1 z9 => sm_cg (um (by omega)) (ws.brk hvs z1 z9)) (fun a9 ha9 => by rw [um (by omega)]; exact ws.v30 hvs a9 ha9)
    rcases Nat.eq_zero_or_pos k with z | z
    · subst z
      rw [Nat.add_zero, Nat.add_zero, c3]
      unfold upd
      rw [if_pos rfl]
    · rw [um (by omega)]
      exact es c k z hk
  have i86 : hI S86 141 (a 0) = nI n := by
    rw [H86.now.2.1.2.1, rmU_0]; exact en
  refine ⟨a 0, H86.r0, fun _ => ⟨a 1, n, ⟨H86.s1, H86.1.1 1 (by omega), H86.n1, i86, c⟩, fun v S99 he99 h99 => ?_⟩⟩
  obtain ⟨ev, e99⟩ := h99
  subst ev
  have f99 : frM S86 S99 (fxM a) := by
    rw [e99]
    exact (frM.pB (M := fxM a) frM.rf ⟨1, by omega, rfl⟩ _ _).pI (M := fxM a) ⟨0, by omega, rfl⟩ _ _
  refine hP S99 c ne ?_
  refine H86.st (s := 0) (by omega) he99 (by rw [e99]; exact (frM.rf.pB (Or.inr (Or.inl H86.s1)) _ _).pI (Or.inl rfl) _ _) (fun i _ j => by rw [e99, px_RI, px_RB]) (hG c ne) ?_
  refine H86.now.2.vs H86.now.1 H86.s1 f99 (by rw [e99, px_KI, px_KB]) (by rw [e99, px_NI, px_NB]) (by rw [e99, px_RI, px_RB]) (fun i hi => by rw [e99, px_II, if_neg (fun z => hi z.1), px_IB]) (by rw [e99, px_II, if_pos ⟨rfl, rfl⟩, c2]) (by rw [e99, px_AI, px_AB]) (fun c9 hc9 => by rw [e99, px_BI]; exact putB_o _ _ _ hc9) (fun k h1 h2 => by rw [rmU_0]; exact c1 k h1 (by omega)) (fun t ht => ?_)
  rw [c2, show iv (nI (n + 1)) = n + 1 from nI_clamp (by omega)] at ht
  rw [e99, px_BI, px_BB]
  rw [← e99]
  by_cases c9 : t = n
  · subst c9
    exact ⟨q, by rw [if_pos ⟨rfl, rfl⟩], Rq.fm f99⟩
  · obtain ⟨c', r, _, _, hh⟩ := H86.now.2.2.1
    have ec : c' = a 1 := Option.some.inj (r.symm.trans H86.s1)
    rw [ec] at hh
    obtain ⟨u, u1, u2⟩ := hh t (by rw [rmU_0, en, show iv (nI n) = n from nI_clamp (by omega)]; omega)
    have t6 : t < 6 := by omega
    exact ⟨u, by rw [if_neg (fun z => c9 z.2)]; exact u1, (u2.fm f99).cg (fun k hk => by rw [rmU_0]; exact c1 _ (by omega) (by omega)) (H86.now.1.rng t6) (fun z z1 z9 => H86.now.1.brk t6 z1 z9) (H86.now.1.v30 t6)⟩
theorem k_X10_makeVersion (l : Launch) (hst : l.stackTraces = false) (D : va_G) (T : Nat → ClassId) (x0 : Nat) (p0 : Int32) (p1 : Int32) (S : HS) (e0 : (Nat → Nat)) (e1 : (Nat → Nat → Int32)) (e2 : (Nat → Int32)) (e3 : (Nat → Int32)) (e4 : (List Int32)) (mc ms : Nat) (hx0 : hK S x0 = 11) (h : FrS S e0 e1 e2 e3 e4 ∧ x0 = e0 50 ∧ 200 ≤ mc ∧ 2000 ≤ ms) : CXi l yX10_makeVersion (ws_X10_makeVersion) rm_X10_makeVersion D T [.ref x0, .int p0, .int p1] S mc ms (fun v S1 => (mkC (e1 0) p0 p1 = 0 ∧ v = e1 0 0 ∧ FrS S1 e0 (fun t => if t = 0 then mkF (e1 0) p0 p1 else rmU e1 e2 t) (rmG e2) e3 e4)) (fun E9 S1 => ((mkC (e1 0) p0 p1 = 1 ∧ E9 = "java/lang/IllegalArgumentException") ∨ (mkC (e1 0) p0 p1 = 2 ∧ E9 = "java/lang/IndexOutOfBoundsException") ∨ (mkC (e1 0) p0 p1 = 3 ∧ E9 = "java/lang/IllegalStateException")) ∧ FrS S1 e0 e1 e2 e3 e4) := c_X10_makeVersion l hst D T x0 p0 p1 S mc ms hx0 _ _ <|
  (by
    obtain ⟨h, e, hmc, hms⟩ := h
    subst e
    obtain ⟨n, hn, en⟩ := h.now.1.1
    have hG0 := (h.2.1 0 (by omega)).1
    unfold wp_X10_makeVersion
    refine ⟨fun c => ⟨⟨by omega, by omega⟩, Or.inl ⟨by unfold mkC; rw [if_pos (Or.inl c)], rfl⟩, h⟩, fun c => ⟨e0 0, h.r0, fun _ => ⟨fxM e0, e1 0, h.now, fun c2 => ?_, fun c2 => ⟨⟨by omega, by omega⟩, Or.inl ⟨?_, rfl⟩, h⟩⟩⟩⟩
    rotate_left
    · unfold mkC
      rw [if_pos (Or.inr ?_)]
      cases z : hdF' (e1 0) p0 (iv (e1 0 0)) 0 with
      | true => rfl
      | false => rw [z] at c2; exact absurd rfl c2
    have hd : ¬ (zin p0 0 999 = 0 ∨ hdF' (e1 0) p0 (iv (e1 0 0)) 0 = true) := fun z => by
      rcases z with z | z
      · exact c z
      · rw [z] at c2; exact absurd c2 (by decide)
    have eC : mkC (e1 0) p0 p1 = if ¬ p1 = -1 ∧ zin p1 0 (e1 0 0 - 1) = 0 then 2 else if n = 6 then 3 else 0 := by
      unfold mkC
      rw [if_neg hd, en]
      by_cases q : ¬ p1 = -1 ∧ zin p1 0 (nI n - 1) = 0
      · rw [if_pos q, if_pos q]
      · rw [if_neg q, if_neg q]
        exact ite_congr (propext (nI_eq (b := 6) (by omega) (by decide))) (fun _ => rfl) (fun _ => rfl)
    refine ⟨fun c3' => ⟨e0 0, h.r0, fun _ => ⟨fxM e0, e1 0, h.now, fun o S25 _ ho h25 => ?_⟩⟩, fun c3' => ⟨⟨by omega, by omega⟩, fun q q0 qz S117 e117 => ?_⟩⟩
    · obtain ⟨eS, hno, hso⟩ := h25
      subst eS
      by_cases z : zin p1 0 (e1 0 0 - 1) = 0
      · have eN := hno z
        refine rl_mv (f := p1) h en hn (fun y ey => by rw [eN] at ey; cases ey) (fun _ w => absurd eN w) (by omega) (by omega) (fun _ _ w _ => absurd eN w) (fun _ => ⟨Or.inr (Or.inl ⟨by rw [eC, if_pos ⟨c3', z⟩], rfl⟩), h⟩) (fun w _ => absurd eN w)
      · obtain ⟨y, ey, Ry⟩ := hso z
        obtain ⟨v6, vn, ev⟩ := zv h.now.1 z
        rw [en, show iv (nI n) = n from nI_clamp (by omega)] at vn
        have f0 : ¬ p1 < 0 := by rw [ev]; exact nI_pos (by omega)
        have e2 : mkC (e1 0) p0 p1 = if n = 6 then 3 else 0 := by rw [eC, if_neg (fun w => z w.2)]
        refine rl_mv (f := p1) h en hn (fun y9 ey9 => ?_) (fun w _ => mk_gw hG0 en w (Or.inr ⟨f0, vn⟩)) (by omega) (by omega) (fun S1 w _ h1 => ⟨by rw [e2, if_neg (by omega)], by rw [en], h1⟩) (fun w => by rw [ey] at w; cases w) (fun _ w => ⟨Or.inr (Or.inr ⟨by rw [e2, if_pos w], rfl⟩), h⟩)
        rw [ey] at ey9
        cases ey9
        exact ⟨e1 0, iv p1, h.now.1, v6, Ry, fun w o h1 h2 => by rw [(mk_c en w).2.2.2 o h1 h2, if_neg f0]⟩
    · have f117 : frM S S117 (fun _ => False) := by rw [e117]; exact frM.rf.nO ext_rf q0 10
      have x117 : ext S S117 := by rw [e117]; exact ext_newO ext_rf q0 10
      refine ⟨32, 181, ⟨by omega, by omega⟩, fxM e0, ⟨by rw [e117]; exact qz, h.1.nM q0, h.1.xM x117, Nat.le_refl _, Nat.le_refl _⟩, fun S128 he128 h128 => ?_⟩
      obtain ⟨f128, R128⟩ := h128
      have H128 := h.nw (ext_tr x117 he128) (f117.nw f128 (fun b hb z => hb (by rw [z]; exact q0)))
      have e2 : mkC (e1 0) p0 p1 = if n = 6 then 3 else 0 := by rw [eC, if_neg (fun w => w.1 c3')]
      have f0 : p1 < 0 := by rw [c3']; decide
      refine rl_mv (f := p1) H128 en hn (fun y9 ey9 => ?_) (fun w _ => mk_gw hG0 en w (Or.inl f0)) (by omega) (by omega) (fun S1 w _ h1 => ⟨by rw [e2, if_neg (by omega)], by rw [en], h1⟩) (fun w => by cases w) (fun _ w => ⟨Or.inr (Or.inr ⟨by rw [e2, if_pos w], rfl⟩), H128⟩)
      cases ey9
      exact ⟨dfV, 0, dfV_WF, by omega, R128, fun w o h1 h2 => by rw [(mk_c en w).2.2.2 o h1 h2, if_pos f0]⟩)

end S_CAF
