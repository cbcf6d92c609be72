section S_CAM
abbrev ws_X8_appendTo : List Cond := Cond.code yX8_appendTo cX8_appendTo 2 none :: W0
abbrev rm_X8_appendTo : Room := ({ frames := 12, cells := 0, slots := 0, locals := 521 } : Room)
def wp_X8_appendTo (P : HS → Prop) (x0 : Nat) (p0 : Nat) (S : HS) (mc ms : Nat) : Prop := ((hI S 181 x0) = 0 → (∃ cc2 cc3 : Nat, (cc2 ≤ mc ∧ cc3 ≤ ms) ∧ (∃ (m5 : List Int32), ((SbO S p0 m5 ∧ m5.length + 1 ≤ 200 ∧ (∃ c : Nat, c < 128 ∧ (hI S 182 x0) = nI c) ∧ sbB S p0 (m5.length + 1) cc2 cc3) ∧ (∀ (o12 : Option Nat) (S7 : HS), ext S S7 → (∀ b, o12 = some b → hK S7 b = 12) → (o12 = some p0 ∧ sbT S S7 p0 m5 (m5 ++ [(hI S 182 x0)])) → (((hI S7 182 x0) = 104 → (∃ cc17 cc18 : Nat, (cc17 ≤ (mc - cc2) ∧ cc18 ≤ (ms - cc3)) ∧ (∃ (m20 : List Int32) (m21 : Nat), ((SbO S7 p0 m20 ∧ (hI S7 184 x0) = nI m21 ∧ m21 ≤ 9999 ∧ m20.length + (nuL m21).length ≤ 200 ∧ sbB S7 p0 (m20.length + (nuL m21).length) cc17 cc18) ∧ (∀ (o28 : Option Nat) (S23 : HS), ext S7 S23 → (∀ b, o28 = some b → hK S23 b = 12) → (o28 = some p0 ∧ sbT S7 S23 p0 m20 (m20 ++ nuL m21)) → (P S23)))))) ∧ (¬ (hI S7 182 x0) = 104 → (∃ cc32 cc33 : Nat, (cc32 ≤ (mc - cc2) ∧ cc33 ≤ (ms - cc3)) ∧ (∃ (m35 : List Int32), ((SbO S7 p0 m35 ∧ m35.length + 1 ≤ 200 ∧ (∃ c : Nat, c < 128 ∧ (hI S7 183 x0) = nI c) ∧ sbB S7 p0 (m35.length + 1) cc32 cc33) ∧ (∀ (o42 : Option Nat) (S37 : HS), ext S7 S37 → (∀ b, o42 = some b → hK S37 b = 12) → (o42 = some p0 ∧ sbT S7 S37 p0 m35 (m35 ++ [(hI S7 183 x0)])) → (∃ cc46 cc47 : Nat, (cc46 ≤ ((mc - cc2) - cc32) ∧ cc47 ≤ ((ms - cc3) - cc33)) ∧ (∃ (m49 : List Int32) (m50 : Nat), ((SbO S37 p0 m49 ∧ (hI S37 184 x0) = nI m50 ∧ m50 ≤ 9999 ∧ m49.length + (nuL m50).length ≤ 200 ∧ sbB S37 p0 (m49.length + (nuL m50).length) cc46 cc47) ∧ (∀ (o57 : Option Nat) (S52 : HS), ext S37 S52 → (∀ b, o57 = some b → hK S52 b = 12) → (o57 = some p0 ∧ sbT S37 S52 p0 m49 (m49 ++ nuL m50)) → (P S52)))))))))))))))) ∧ (¬ (hI S 181 x0) = 0 → (∃ cc61 cc62 : Nat, (cc61 ≤ mc ∧ cc62 ≤ ms) ∧ (∃ (m64 : List Int32), ((SbO S p0 m64 ∧ m64.length + 1 ≤ 200 ∧ (∃ c : Nat, c < 128 ∧ 45 = nI c) ∧ sbB S p0 (m64.length + 1) cc61 cc62) ∧ (∀ (o71 : Option Nat) (S66 : HS), ext S S66 → (∀ b, o71 = some b → hK S66 b = 12) → (o71 = some p0 ∧ sbT S S66 p0 m64 (m64 ++ [45])) → (∃ cc75 cc76 : Nat, (cc75 ≤ (mc - cc61) ∧ cc76 ≤ (ms - cc62)) ∧ (∃ (m78 : List Int32), ((SbO S66 p0 m78 ∧ m78.length + 1 ≤ 200 ∧ (∃ c : Nat, c < 128 ∧ (hI S66 182 x0) = nI c) ∧ sbB S66 p0 (m78.length + 1) cc75 cc76) ∧ (∀ (o85 : Option Nat) (S80 : HS), ext S66 S80 → (∀ b, o85 = some b → hK S80 b = 12) → (o85 = some p0 ∧ sbT S66 S80 p0 m78 (m78 ++ [(hI S66 182 x0)])) → (((hI S80 182 x0) = 104 → (∃ cc90 cc91 : Nat, (cc90 ≤ ((mc - cc61) - cc75) ∧ cc91 ≤ ((ms - cc62) - cc76)) ∧ (∃ (m93 : List Int32) (m94 : Nat), ((SbO S80 p0 m93 ∧ (hI S80 184 x0) = nI m94 ∧ m94 ≤ 9999 ∧ m93.length + (nuL m94).length ≤ 200 ∧ sbB S80 p0 (m93.length + (nuL m94).length) cc90 cc91) ∧ (∀ (o101 : Option Nat) (S96 : HS), ext S80 S96 → (∀ b, o101 = some b → hK S96 b = 12) → (o101 = some p0 ∧ sbT S80 S96 p0 m93 (m93 ++ nuL m94)) → (P S96)))))) ∧ (¬ (hI S80 182 x0) = 104 → (∃ cc105 cc106 : Nat, (cc105 ≤ ((mc - cc61) - cc75) ∧ cc106 ≤ ((ms - cc62) - cc76)) ∧ (∃ (m108 : List Int32), ((SbO S80 p0 m108 ∧ m108.length + 1 ≤ 200 ∧ (∃ c : Nat, c < 128 ∧ (hI S80 183 x0) = nI c) ∧ sbB S80 p0 (m108.length + 1) cc105 cc106) ∧ (∀ (o115 : Option Nat) (S110 : HS), ext S80 S110 → (∀ b, o115 = some b → hK S110 b = 12) → (o115 = some p0 ∧ sbT S80 S110 p0 m108 (m108 ++ [(hI S80 183 x0)])) → (∃ cc119 cc120 : Nat, (cc119 ≤ (((mc - cc61) - cc75) - cc105) ∧ cc120 ≤ (((ms - cc62) - cc76) - cc106)) ∧ (∃ (m122 : List Int32) (m123 : Nat), ((SbO S110 p0 m122 ∧ (hI S110 184 x0) = nI m123 ∧ m123 ≤ 9999 ∧ m122.length + (nuL m123).length ≤ 200 ∧ sbB S110 p0 (m122.length + (nuL m123).length) cc119 cc120) ∧ (∀ (o130 : Option Nat) (S125 : HS), ext S110 S125 → (∀ b, o130 = some b → hK S125 b = 12) → (o130 = some p0 ∧ sbT S110 S125 p0 m122 (m122 ++ nuL m123)) → (P S125))))))))))))))))))))
set_option maxRecDepth 100000 in
set_option maxHeartbeats 4000000 in
theorem t_X8_appendTo {p : Program} {l : Launch} {e : Env} {s : State} {m : MethodId} {args : Array Value} {below : List Frame} {meth : Method} {c : Code} {D : va_G} {A : Nat → Prop} {T : Nat → ClassId} (C : GC p s m args meth c cX8_appendTo "FreightRater$Test" (ws_X8_appendTo) 2 D A (zty T)) (E : GE T A s) (hr : meth.sig.returnType = none) (P : HS → Prop) : ∀ (x0 : Nat) (p0 : Nat) (S0 S : HS) (mc ms : Nat) (L : List Nat), S0 = S → wt S → hL S L → (hK S x0 = 9) → (hK S p0 = 12) → wp_X8_appendTo P x0 p0 S mc ms → GW p l e { rm_X8_appendTo with cells := mc, slots := ms } s m args below meth c D A 2 mc ms (MQ below (va_Qv (fun (u : HS × List Nat) => P u.1 ∧ CO S0 u) (CE D T A) A) args s mc ms A) (CW T S L) mc ms 0 [(0, .ref x0), (1, .ref p0)] [] := by
  have hW : ∀ {w : Cond}, w ∈ W0 → w.before args s = true := fun h => C.2.2.2.2.1 _ (List.mem_cons_of_mem _ h)
  intro x0 p0 S0 S mc ms L hS0 hw hL hx0 hp0 h
  have he : ext S0 S := by rw [hS0]; exact ext_rf
  unfold wp_X8_appendTo at h
  refine g_aload_n C dX8_appendTo_0 rfl 0 rfl ?_
  refine gc_getI C iwx_X8 hL hx0 (by decide) (by decide) rfl 1 (by decide) (hW kw_780) rfl rfl rfl dX8_appendTo_1 ?_
  refine g_if_eq (tgt := 14) C dX8_appendTo_4 (by decide) (fun z1 => ?_) (fun z1 => ?_)
  · replace h := h.1 z1
    refine g_aload_n C dX8_appendTo_14 rfl 1 rfl ?_
    refine g_aload_n C dX8_appendTo_15 rfl 0 rfl ?_
    refine gc_getI C iwx_X8 hL hx0 (by decide) (by decide) rfl 2 (by decide) (hW kw_782) rfl rfl rfl dX8_appendTo_16 ?_
    obtain ⟨cc2, cc3, g4, h⟩ := h
    obtain ⟨m5, h⟩ := h
    obtain ⟨g6, h⟩ := h
    refine gc_callqV (host := "") C E hw hL hp0 (by decide) (by decide) rfl [.int (hI S 182 x0)] rfl (k_J4_append_cf468 l D T p0 (hI S 182 x0) S m5 cc2 cc3 hp0 g6) (w0_V 1 C.2.2.2.2.1 kw_1783 kw_1753 kw_1754 kw_4 kw_1755 rfl rfl (by decide +kernel) ⟨Nat.le_of_ble_eq_true rfl, Nat.le_of_ble_eq_true rfl⟩) rfl (Nat.le_of_ble_eq_true rfl) (Nat.le_refl _) (Nat.le_refl _) g4.1 g4.2 dX8_appendTo_19 (fun o12 S7 L8 e9 w10 w11 ko12 hp => ?_)
    replace h := h o12 S7 e9 ko12 hp
    have g13 := ext_K e9 hx0 (by decide)
    have g14 := ext_K e9 hp0 (by decide)
    have w15 := ext_tr he e9
    refine g_pop C dX8_appendTo_22 (rf_cat _) ?_
    refine g_aload_n C dX8_appendTo_23 rfl 0 rfl ?_
    refine gc_getI C iwx_X8 w11 g13 (by decide) (by decide) rfl 2 (by decide) (hW kw_782) rfl rfl rfl dX8_appendTo_24 ?_
    refine g_bipush (v := 104) C dX8_appendTo_27 (by decide) ?_
    refine g_icmp_eq (tgt := 41) C dX8_appendTo_29 (by decide) (fun z16 => ?_) (fun z16 => ?_)
    · replace h := h.1 z16
      refine g_aload_n C dX8_appendTo_41 rfl 1 rfl ?_
      refine g_aload_n C dX8_appendTo_42 rfl 0 rfl ?_
      refine gc_getI C iwx_X8 w11 g13 (by decide) (by decide) rfl 4 (by decide) (hW kw_786) rfl rfl rfl dX8_appendTo_43 ?_
      obtain ⟨cc17, cc18, g19, h⟩ := h
      obtain ⟨m20, m21, h⟩ := h
      obtain ⟨g22, h⟩ := h
      refine gc_callqV (host := "") C E w10 w11 g14 (by decide) (by decide) rfl [.int (hI S7 184 x0)] rfl (k_J4_append_bf812 l D T p0 (hI S7 184 x0) S7 m20 m21 cc17 cc18 g14 g22) (w0_V 1 C.2.2.2.2.1 kw_1784 kw_1602 kw_1603 kw_4 kw_1604 rfl rfl (by decide +kernel) ⟨Nat.le_of_ble_eq_true rfl, Nat.le_of_ble_eq_true rfl⟩) rfl (Nat.le_of_ble_eq_true rfl) (Nat.le_refl _) (Nat.le_refl _) g19.1 g19.2 dX8_appendTo_46 (fun o28 S23 L24 e25 w26 w27 ko28 hp => ?_)
      replace h := h o28 S23 e25 ko28 hp
      have g29 := ext_K e25 g13 (by decide)
      have g30 := ext_K e25 g14 (by decide)
      have w31 := ext_tr w15 e25
      refine g_pop C dX8_appendTo_49 (rf_cat _) ?_
      exact gc_vret C w26 w27 w31 hr dX8_appendTo_50 h
    · replace h := h.2 z16
      refine g_aload_n C dX8_appendTo_32 rfl 1 rfl ?_
      refine g_aload_n C dX8_appendTo_33 rfl 0 rfl ?_
      refine gc_getI C iwx_X8 w11 g13 (by decide) (by decide) rfl 3 (by decide) (hW kw_784) rfl rfl rfl dX8_appendTo_34 ?_
      obtain ⟨cc32, cc33, g34, h⟩ := h
      obtain ⟨m35, h⟩ := h
      obtain ⟨g36, h⟩ := h
      refine gc_callqV (host := "") C E w10 w11 g14 (by decide) (by decide) rfl [.int (hI S7 183 x0)] rfl (k_J4_append_cf468 l D T p0 (hI S7 183 x0) S7 m35 cc32 cc33 g14 g36) (w0_V 1 C.2.2.2.2.1 kw_1783 kw_1753 kw_1754 kw_4 kw_1755 rfl rfl (by decide +kernel) ⟨Nat.le_of_ble_eq_true rfl, Nat.le_of_ble_eq_true rfl⟩) rfl (Nat.le_of_ble_eq_true rfl) (Nat.le_refl _) (Nat.le_refl _) g34.1 g34.2 dX8_appendTo_37 (fun o42 S37 L38 e39 w40 w41 ko42 hp => ?_)
      replace h := h o42 S37 e39 ko42 hp
      have g43 := ext_K e39 g13 (by decide)
      have g44 := ext_K e39 g14 (by decide)
      have w45 := ext_tr w15 e39
      refine g_pop C dX8_appendTo_40 (rf_cat _) ?_
      refine g_aload_n C dX8_appendTo_41 rfl 1 rfl ?_
      refine g_aload_n C dX8_appendTo_42 rfl 0 rfl ?_
      refine gc_getI C iwx_X8 w41 g43 (by decide) (by decide) rfl 4 (by decide) (hW kw_786) rfl rfl rfl dX8_appendTo_43 ?_
      obtain ⟨cc46, cc47, g48, h⟩ := h
      obtain ⟨m49, m50, h⟩ := h
      obtain ⟨g51, h⟩ := h
      refine gc_callqV (host := "") C E w40 w41 g44 (by decide) (by decide) rfl [.int (hI S37 184 x0)] rfl (k_J4_append_bf812 l D T p0 (hI S37 184 x0) S37 m49 m50 cc46 cc47 g44 g51) (w0_V 1 C.2.2.2.2.1 kw_1784 kw_1602 kw_1603 kw_4 kw_1604 rfl rfl (by decide +kernel) ⟨Nat.le_of_ble_eq_true rfl, Nat.le_of_ble_eq_true rfl⟩) rfl (Nat.le_of_ble_eq_true rfl) (Nat.le_refl _) (Nat.le_refl _) g48.1 g48.2 dX8_appendTo_46 (fun o57 S52 L53 e54 w55 w56 ko57 hp => ?_)
      replace h := h o57 S52 e54 ko57 hp
      have g58 := ext_K e54 g43 (by decide)
      have g59 := ext_K e54 g44 (by decide)
      have w60 := ext_tr w45 e54
      refine g_pop C dX8_appendTo_49 (rf_cat _) ?_
      exact gc_vret C w55 w56 w60 hr dX8_appendTo_50 h
  · replace h := h.2 z1
    refine g_aload_n C dX8_appendTo_7 rfl 1 rfl ?_
    refine g_bipush (v := 45) C dX8_appendTo_8 (by decide) ?_
    obtain ⟨cc61, cc62, g63, h⟩ := h
    obtain ⟨m64, h⟩ := h
    obtain ⟨g65, h⟩ := h
    refine gc_callqV (host := "") C E hw hL hp0 (by decide) (by decide) rfl [.int 45] rfl (k_J4_append_cf468 l D T p0 45 S m64 cc61 cc62 hp0 g65) (w0_V 1 C.2.2.2.2.1 kw_1783 kw_1753 kw_1754 kw_4 kw_1755 rfl rfl (by decide +kernel) ⟨Nat.le_of_ble_eq_true rfl, Nat.le_of_ble_eq_true rfl⟩) rfl (Nat.le_of_ble_eq_true rfl) (Nat.le_refl _) (Nat.le_refl _) g63.1 g63.2 dX8_appendTo_10 (fun o71 S66 L67 e68 w69 w70 ko71 hp => ?_)
    replace h := h o71 S66 e68 ko71 hp
    have g72 := ext_K e68 hx0 (by decide)
    have g73 := ext_K e68 hp0 (by decide)
    have w74 := ext_tr he e68
    refine g_pop C dX8_appendTo_13 (rf_cat _) ?_
    refine g_aload_n C dX8_appendTo_14 rfl 1 rfl ?_
    refine g_aload_n C dX8_appendTo_15 rfl 0 rfl ?_
    refine gc_getI C iwx_X8 w70 g72 (by decide) (by decide) rfl 2 (by decide) (hW kw_782) rfl rfl rfl dX8_appendTo_16 ?_
    obtain ⟨cc75, cc76, g77, h⟩ := h
    obtain ⟨m78, h⟩ := h
    obtain ⟨g79, h⟩ := h
    refine gc_callqV (host := "") C E w69 w70 g73 (by decide) (by decide) rfl [.int (hI S66 182 x0)] rfl (k_J4_append_cf468 l D T p0 (hI S66 182 x0) S66 m78 cc75 cc76 g73 g79) (w0_V 1 C.2.2.2.2.1 kw_1783 kw_1753 kw_1754 kw_4 kw_1755 rfl rfl (by decide +kernel) ⟨Nat.le_of_ble_eq_true rfl, Nat.le_of_ble_eq_true rfl⟩) rfl (Nat.le_of_ble_eq_true rfl) (Nat.le_refl _) (Nat.le_refl _) g77.1 g77.2 dX8_appendTo_19 (fun o85 S80 L81 e82 w83 w84 ko85 hp => ?_)
    replace h := h o85 S80 e82 ko85 hp
    have g86 := ext_K e82 g72 (by decide)
    have g87 := ext_K e82 g73 (by decide)
    have w88 := ext_tr w74 e82
    refine g_pop C dX8_appendTo_22 (rf_cat _) ?_
    refine g_aload_n C dX8_appendTo_23 rfl 0 rfl ?_
    refine gc_getI C iwx_X8 w84 g86 (by decide) (by decide) rfl 2 (by decide) (hW kw_782) rfl rfl rfl dX8_appendTo_24 ?_
    refine g_bipush (v := 104) C dX8_appendTo_27 (by decide) ?_
    refine g_icmp_eq (tgt := 41) C dX8_appendTo_29 (by decide) (fun z89 => ?_) (fun z89 => ?_)
    · replace h := h.1 z89
      refine g_aload_n C dX8_appendTo_41 rfl 1 rfl ?_
      refine g_aload_n C dX8_appendTo_42 rfl 0 rfl ?_
      refine gc_getI C iwx_X8 w84 g86 (by decide) (by decide) rfl 4 (by decide) (hW kw_786) rfl rfl rfl dX8_appendTo_43 ?_
      obtain ⟨cc90, cc91, g92, h⟩ := h
      obtain ⟨m93, m94, h⟩ := h
      obtain ⟨g95, h⟩ := h
      refine gc_callqV (host := "") C E w83 w84 g87 (by decide) (by decide) rfl [.int (hI S80 184 x0)] rfl (k_J4_append_bf812 l D T p0 (hI S80 184 x0) S80 m93 m94 cc90 cc91 g87 g95) (w0_V 1 C.2.2.2.2.1 kw_1784 kw_1602 kw_1603 kw_4 kw_1604 rfl rfl (by decide +kernel) ⟨Nat.le_of_ble_eq_true rfl, Nat.le_of_ble_eq_true rfl⟩) rfl (Nat.le_of_ble_eq_true rfl) (Nat.le_refl _) (Nat.le_refl _) g92.1 g92.2 dX8_appendTo_46 (fun o101 S96 L97 e98 w99 w100 ko101 hp => ?_)
      replace h := h o101 S96 e98 ko101 hp
      have g102 := ext_K e98 g86 (by decide)
      have g103 := ext_K e98 g87 (by decide)
      have w104 := ext_tr w88 e98
      refine g_pop C dX8_appendTo_49 (rf_cat _) ?_
      exact gc_vret C w99 w100 w104 hr dX8_appendTo_50 h
    · replace h := h.2 z89
      refine g_aload_n C dX8_appendTo_32 rfl 1 rfl ?_
      refine g_aload_n C dX8_appendTo_33 rfl 0 rfl ?_
      refine gc_getI C iwx_X8 w84 g86 (by decide) (by decide) rfl 3 (by decide) (hW kw_784) rfl rfl rfl dX8_appendTo_34 ?_
      obtain ⟨cc105, cc106, g107, h⟩ := h
      obtain ⟨m108, h⟩ := h
      obtain ⟨g109, h⟩ := h
      refine gc_callqV (host := "") C E w83 w84 g87 (by decide) (by decide) rfl [.int (hI S80 183 x0)] rfl (k_J4_append_cf468 l D T p0 (hI S80 183 x0) S80 m108 cc105 cc106 g87 g109) (w0_V 1 C.2.2.2.2.1 kw_1783 kw_1753 kw_1754 kw_4 kw_1755 rfl rfl (by decide +kernel) ⟨Nat.le_of_ble_eq_true rfl, Nat.le_of_ble_eq_true rfl⟩) rfl (Nat.le_of_ble_eq_true rfl) (Nat.le_refl _) (Nat.le_refl _) g107.1 g107.2 dX8_appendTo_37 (fun o115 S110 L111 e112 w113 w114 ko115 hp => ?_)
      replace h := h o115 S110 e112 ko115 hp
      have g116 := ext_K e112 g86 (by decide)
      have g117 := ext_K e112 g87 (by decide)
      have w118 := ext_tr w88 e112
      refine g_pop C dX8_appendTo_40 (rf_cat _) ?_
      refine g_aload_n C dX8_appendTo_41 rfl 1 rfl ?_
      refine g_aload_n C dX8_appendTo_42 rfl 0 rfl ?_
      refine gc_getI C iwx_X8 w114 g116 (by decide) (by decide) rfl 4 (by decide) (hW kw_786) rfl rfl rfl dX8_appendTo_43 ?_
      obtain ⟨cc119, cc120, g121, h⟩ := h
      obtain ⟨m122, m123, h⟩ := h
      obtain ⟨g124, h⟩ := h
      refine gc_callqV (host := "") C E w113 w114 g117 (by decide) (by decide) rfl [.int (hI S110 184 x0)] rfl (k_J4_append_bf812 l D T p0 (hI S110 184 x0) S110 m122 m123 cc119 cc120 g117 g124) (w0_V 1 C.2.2.2.2.1 kw_1784 kw_1602 kw_1603 kw_4 kw_1604 rfl rfl (by decide +kernel) ⟨Nat.le_of_ble_eq_true rfl, Nat.le_of_ble_eq_true rfl⟩) rfl (Nat.le_of_ble_eq_true rfl) (Nat.le_refl _) (Nat.le_refl _) g121.1 g121.2 dX8_appendTo_46 (fun o130 S125 L126 e127 w128 w129 ko130 hp => ?_)
      replace h := h o130 S125 e127 ko130 hp
      have g131 := ext_K e127 g116 (by decide)
      have g132 := ext_K e127 g117 (by decide)
      have w133 := ext_tr w118 e127
      refine g_pop C dX8_appendTo_49 (rf_cat _) ?_
      exact gc_vret C w128 w129 w133 hr dX8_appendTo_50 h
theorem c_X8_appendTo (l : Launch) (D : va_G) (T : Nat → ClassId) (x0 : Nat) (p0 : Nat) (S : HS) (mc ms : Nat) (hx0 : hK S x0 = 9) (hp0 : hK S p0 = 12) (P : HS → Prop) (h : wp_X8_appendTo P x0 p0 S mc ms) : CMv l yX8_appendTo (ws_X8_appendTo) rm_X8_appendTo D T [.ref x0, .ref p0] S mc ms P := gc_metv (by decide) rfl rfl (Nat.le_of_ble_eq_true rfl) (fun p e s m args below meth c A L C E hnm hr hw hL => t_X8_appendTo C E   hr P x0 p0 S S mc ms L rfl hw hL hx0 hp0 h)
/-- an accessorial's text behind its number -/
def pxF (μ : Nat → Int32) (e : Nat) : List Int32 := nuL (iv (μ (e + 1))) ++ ((if μ (e + 2) = 0 then [] else [if μ (e + 2) = 1 then (42 : Int32) else 37]) ++ (paT μ e (iv (μ (e + 4))) 0 ++ (if μ (e + 5) < 0 then [] else 33 :: nuL (iv (μ (e + 5))))))
theorem ap_c {Q : Option Nat → HS → Nat → Nat → Prop} {S : HS} {x q kc ks : Nat} {w : Int32} {sh : List Int32} (h0 : SbO S x sh) (hb : sbB S x q kc ks) (h1 : sh.length + 1 ≤ q) (h2 : q ≤ 200) (hc : ∃ c : Nat, c < 128 ∧ w = nI c) (hQ : ∀ o S1 c1 s1, ext S S1 → o = some x → sbT S S1 x sh (sh ++ [w]) → sbB S1 x q (kc - c1) (ks - s1) → Q o S1 c1 s1) : ∃ cc1 cc2 : Nat, (cc1 ≤ kc ∧ cc2 ≤ ks) ∧ (∃ (m : List Int32), ((SbO S x m ∧ m.length + 1 ≤ 200 ∧ (∃ c : Nat, c < 128 ∧ w = nI c) ∧ sbB S x (m.length + 1) cc1 cc2) ∧ (∀ (o : Option Nat) (S1 : HS), ext S S1 → (∀ b, o = some b → hK S1 b = 12) → (o = some x ∧ sbT S S1 x m (m ++ [w])) → Q o S1 cc1 cc2))) := by
  obtain ⟨b1, b2, b3⟩ := sbB.sp h0 hb h1 h2
  exact ⟨_, _, b2, sh, ⟨h0, by omega, hc, b1⟩, fun o S1 he _ h => hQ o S1 _ _ he h.1 h.2 (b3 S1 _ h.2 (by rw [List.length_append]; rfl))⟩
theorem ap_i {Q : Option Nat → HS → Nat → Nat → Prop} {S : HS} {x q kc ks n : Nat} {w : Int32} {sh : List Int32} (h0 : SbO S x sh) (hb : sbB S x q kc ks) (hw : w = nI n) (hn : n ≤ 9999) (h1 : sh.length + (nuL n).length ≤ q) (h2 : q ≤ 200) (hQ : ∀ o S1 c1 s1, ext S S1 → o = some x → sbT S S1 x sh (sh ++ nuL n) → sbB S1 x q (kc - c1) (ks - s1) → Q o S1 c1 s1) : ∃ cc1 cc2 : Nat, (cc1 ≤ kc ∧ cc2 ≤ ks) ∧ (∃ (m : List Int32) (m2 : Nat), ((SbO S x m ∧ w = nI m2 ∧ m2 ≤ 9999 ∧ m.length + (nuL m2).length ≤ 200 ∧ sbB S x (m.length + (nuL m2).length) cc1 cc2) ∧ (∀ (o : Option Nat) (S1 : HS), ext S S1 → (∀ b, o = some b → hK S1 b = 12) → (o = some x ∧ sbT S S1 x m (m ++ nuL m2)) → Q o S1 cc1 cc2))) := by
  obtain ⟨b1, b2, b3⟩ := sbB.sp h0 hb h1 h2
  exact ⟨_, _, b2, sh, n, ⟨h0, hw, hn, by omega, b1⟩, fun o S1 he _ h => hQ o S1 _ _ he h.1 h.2 (b3 S1 _ h.2 List.length_append)⟩
theorem l104 (k : Nat) (h : k < 5) : letF (nI k) = 104 ↔ k = 0 := by
  have : ∀ k, k < 5 → (letF (nI k) = 104 ↔ k = 0) := by decide +kernel
  exact this k h
theorem lle (k : Nat) (h : k < 5) : ∃ c : Nat, c < 128 ∧ letF (nI k) = nI c := by
  rcases (by omega : k = 0 ∨ k = 1 ∨ k = 2 ∨ k = 3 ∨ k = 4) with e | e | e | e | e <;> subst e
  · exact ⟨104, by decide, rfl⟩
  · exact ⟨119, by decide, rfl⟩
  · exact ⟨110, by decide, rfl⟩
  · exact ⟨108, by decide, rfl⟩
  · exact ⟨122, by decide, rfl⟩
theorem pC_4 (m : Nat) : pC m ≤ 4 := by
  unfold pC
  repeat' split
  all_goals omega
theorem pS_8 (m : Nat) : pS m ≤ 804 := by
  unfold pS
  split
  all_goals omega
/-- what a builder's change leaves -/
theorem sbT.kp {S S1 : HS} {x b k : Nat} {sh sh1 : List Int32} (h : sbT S S1 x sh sh1) (h0 : SbO S x sh) (hb : hK S b = k) (h1 : k ≠ 0) (h2 : k ≠ 12) (h3 : k ≠ 20) : sam S S1 b := h.2.1 b (fun z => by
  rcases z with z | z
  · rw [z, h0.1] at hb; exact h2 hb.symm
  · obtain ⟨r, r1, r2, _⟩ := h0.C
    rw [← Option.some.inj (r1.symm.trans z), r2] at hb
    exact h3 hb.symm) (by rw [hb]; exact h1)
theorem k_X8_appendTo (l : Launch) (D : va_G) (T : Nat → ClassId) (x0 : Nat) (p0 : Nat) (S : HS) (e0 : (Nat → Prop)) (e1 : List Int32) (e2 : Nat) (e3 : Prop) (mc ms : Nat) (hx0 : hK S x0 = 9) (hp0 : hK S p0 = 12) (h : RelT S e0 x0 e2 e3 ∧ SbO S p0 e1 ∧ e1.length + (teL e2).length ≤ 200 ∧ sbB S p0 (e1.length + (teL e2).length) mc ms) : CMv l yX8_appendTo (ws_X8_appendTo) rm_X8_appendTo D T [.ref x0, .ref p0] S mc ms (fun S1 => (sbT S S1 p0 e1 (e1 ++ teL e2))) := c_X8_appendTo l D T x0 p0 S mc ms hx0 hp0 _ <|
  (by
    obtain ⟨⟨k9, nM, _, _, i181, i182, i183, i184⟩, h0, h200, hb⟩ := h
    have kp : ∀ i S9 {sh9}, sbT S S9 p0 e1 sh9 → hI S9 i x0 = hI S i x0 := fun i S9 sh9 t => (t.kp h0 k9 (by decide) (by decide) (by decide)).2.2.1 i
    have fin : ∀ S9 sh9, sh9 = e1 ++ teL e2 → sbT S S9 p0 e1 sh9 → sbT S S9 p0 e1 (e1 ++ teL e2) := fun S9 sh9 e t => by rw [← e]; exact t
    have nl := nuL_len (e2 % 10000)
    have hle := lle (e2 / 30000 % 5) (by omega)
    rw [← i182] at hle
    have hby : ∃ c : Nat, c < 128 ∧ (if e2 / 10000 % 3 = 0 then (60 : Int32) else if e2 / 10000 % 3 = 1 then 62 else 61) = nI c := by
      split
      · exact ⟨60, by decide, rfl⟩
      split
      · exact ⟨62, by decide, rfl⟩
      · exact ⟨61, by decide, rfl⟩
    unfold wp_X8_appendTo
    have hn5 : e2 / 30000 % 5 < 5 := by omega
    obtain ⟨n5, en5⟩ : ∃ n5, n5 = e2 / 30000 % 5 := ⟨_, rfl⟩
    rw [← en5] at i182 i183 hn5
    by_cases ng : e2 / 150000 % 2 = 1
    · rw [if_pos ng] at i181
      refine ⟨fun z => absurd (i181.symm.trans z) (by decide), fun _ => ?_⟩
      have tT : teL e2 = 45 :: (letF (nI n5) :: ((if 0 < n5 then [if e2 / 10000 % 3 = 0 then (60 : Int32) else if e2 / 10000 % 3 = 1 then 62 else 61] else []) ++ nuL (e2 % 10000))) := by
        unfold teL
        rw [if_pos ng, en5]
        rfl
      have q1 : (nuL (e2 % 10000)).length + 2 ≤ (teL e2).length := by
        rw [tT, List.length_cons, List.length_cons, List.length_append]; omega
      have q2 : 0 < n5 → (nuL (e2 % 10000)).length + 3 ≤ (teL e2).length := fun k => by
        rw [tT, if_pos k, List.length_cons, List.length_cons, List.length_append, List.length_singleton]; omega
      refine ap_c h0 hb (by omega) h200 ⟨45, by decide, rfl⟩ (fun o0 S0 c0 s0 he0 _ t0 b0 => ?_)
      refine ap_c t0.1 b0 (by (try simp only [List.length_append, List.length_singleton]); omega) h200 (by rw [kp 182 S0 t0]; exact hle) (fun o1 S1 c1 s1 he1 _ t1 b1 => ?_)
      have T1 := t0.tr h0 he0 t1 (by simp only [List.length_append]; omega)
      have E1 := ext_tr he0 he1
      rw [kp 182 S0 t0] at T1
      refine ⟨fun c => ?_, fun c => ?_⟩
      · rw [kp 182 S1 T1] at c
        have k0 := (l104 _ hn5).mp (i182.symm.trans c)
        refine ap_i T1.1 b1 (by rw [kp 184 S1 T1]; exact i184) (by omega) (by (try simp only [List.length_append, List.length_singleton]); omega) h200 (fun o2 S2 c2 s2 he2 _ t2 b2 => ?_)
        have T2 := T1.tr h0 E1 t2 (by simp only [List.length_append]; omega)
        refine fin _ _ ?_ T2
        rw [tT, i182, if_neg (show ¬ 0 < n5 by omega)]
        simp only [List.append_assoc, List.singleton_append, List.nil_append, List.cons_append]
      · rw [kp 182 S1 T1] at c
        have k0 : 0 < n5 := Nat.pos_of_ne_zero (fun z => c (i182.trans ((l104 _ hn5).mpr z)))
        have q9 := q2 k0
        refine ap_c T1.1 b1 (by (try simp only [List.length_append, List.length_singleton]); omega) h200 (by rw [kp 183 S1 T1, i183 k0]; exact hby) (fun o2 S2 c2 s2 he2 _ t2 b2 => ?_)
        have T2 := T1.tr h0 E1 t2 (by simp only [List.length_append]; omega)
        rw [kp 183 S1 T1, i183 k0] at T2
        have E2 := ext_tr E1 he2
        refine ap_i T2.1 b2 (by rw [kp 184 S2 T2]; exact i184) (by omega) (by (try simp only [List.length_append, List.length_singleton]); omega) h200 (fun o3 S3 c3 s3 he3 _ t3 b3 => ?_)
        have T3 := T2.tr h0 E2 t3 (by simp only [List.length_append]; omega)
        refine fin _ _ ?_ T3
        rw [tT, i182, if_pos k0]
        simp only [List.append_assoc, List.singleton_append, List.nil_append, List.cons_append]
    · rw [if_neg ng] at i181
      refine ⟨fun _ => ?_, fun z => absurd i181 z⟩
      have tT : teL e2 = letF (nI n5) :: ((if 0 < n5 then [if e2 / 10000 % 3 = 0 then (60 : Int32) else if e2 / 10000 % 3 = 1 then 62 else 61] else []) ++ nuL (e2 % 10000)) := by
        unfold teL
        rw [if_neg ng, en5]
        rfl
      have q1 : (nuL (e2 % 10000)).length + 1 ≤ (teL e2).length := by
        rw [tT, List.length_cons, List.length_append]; omega
      have q2 : 0 < n5 → (nuL (e2 % 10000)).length + 2 ≤ (teL e2).length := fun k => by
        rw [tT, if_pos k, List.length_cons, List.length_append, List.length_singleton]; omega
      have t0 := sbT.rf h0
      have he0 : ext S S := ext_rf
      refine ap_c t0.1 hb (by (try simp only [List.length_append, List.length_singleton]); omega) h200 (by rw [kp 182 S t0]; exact hle) (fun o1 S1 c1 s1 he1 _ t1 b1 => ?_)
      have T1 := t0.tr h0 he0 t1 (by simp only [List.length_append]; omega)
      have E1 := ext_tr he0 he1
      rw [kp 182 S t0] at T1
      refine ⟨fun c => ?_, fun c => ?_⟩
      · rw [kp 182 S1 T1] at c
        have k0 := (l104 _ hn5).mp (i182.symm.trans c)
        refine ap_i T1.1 b1 (by rw [kp 184 S1 T1]; exact i184) (by omega) (by (try simp only [List.length_append, List.length_singleton]); omega) h200 (fun o2 S2 c2 s2 he2 _ t2 b2 => ?_)
        have T2 := T1.tr h0 E1 t2 (by simp only [List.length_append]; omega)
        refine fin _ _ ?_ T2
        rw [tT, i182, if_neg (show ¬ 0 < n5 by omega)]
        simp only [List.append_assoc, List.singleton_append, List.nil_append, List.cons_append]
      · rw [kp 182 S1 T1] at c
        have k0 : 0 < n5 := Nat.pos_of_ne_zero (fun z => c (i182.trans ((l104 _ hn5).mpr z)))
        have q9 := q2 k0
        refine ap_c T1.1 b1 (by (try simp only [List.length_append, List.length_singleton]); omega) h200 (by rw [kp 183 S1 T1, i183 k0]; exact hby) (fun o2 S2 c2 s2 he2 _ t2 b2 => ?_)
        have T2 := T1.tr h0 E1 t2 (by simp only [List.length_append]; omega)
        rw [kp 183 S1 T1, i183 k0] at T2
        have E2 := ext_tr E1 he2
        refine ap_i T2.1 b2 (by rw [kp 184 S2 T2]; exact i184) (by omega) (by (try simp only [List.length_append, List.length_singleton]); omega) h200 (fun o3 S3 c3 s3 he3 _ t3 b3 => ?_)
        have T3 := T2.tr h0 E2 t3 (by simp only [List.length_append]; omega)
        refine fin _ _ ?_ T3
        rw [tT, i182, if_pos k0]
        simp only [List.append_assoc, List.singleton_append, List.nil_append, List.cons_append])
abbrev ws_X0_appendTo : List Cond := Cond.code yX0_appendTo cX0_appendTo 4 none :: W0
abbrev rm_X0_appendTo : Room := ({ frames := 13, cells := 0, slots := 0, locals := 542 } : Room)
def wb_X0_appendTo_44 (rec : Nat → Nat → Int32 → HS → Nat → Nat → Prop) (P : HS → Prop) (x0 : Nat) (x1 : Nat) (x2 : Int32) (S : HS) (kc ks : Nat) : Prop := ∃ b19 : Nat, hR S 24 x0 = some b19 ∧ (hK S b19 = 13 → (((hI S 262 b19) ≤ x2 → (((hI S 22 x0) < 0 → (P S)) ∧ (¬ (hI S 22 x0) < 0 → (∃ cc27 cc28 : Nat, (cc27 ≤ kc ∧ cc28 ≤ ks) ∧ (∃ (m30 : List Int32), ((SbO S x1 m30 ∧ m30.length + 1 ≤ 200 ∧ (∃ c : Nat, c < 128 ∧ 33 = nI c) ∧ sbB S x1 (m30.length + 1) cc27 cc28) ∧ (∀ (o37 : Option Nat) (S32 : HS), ext S S32 → (∀ b, o37 = some b → hK S32 b = 12) → (o37 = some x1 ∧ sbT S S32 x1 m30 (m30 ++ [33])) → (∃ b41 : Nat, o37 = some b41 ∧ (hK S32 b41 = 12 → (∃ cc43 cc44 : Nat, (cc43 ≤ (kc - cc27) ∧ cc44 ≤ (ks - cc28)) ∧ (∃ (m46 : List Int32) (m47 : Nat), ((SbO S32 b41 m46 ∧ (hI S32 22 x0) = nI m47 ∧ m47 ≤ 9999 ∧ m46.length + (nuL m47).length ≤ 200 ∧ sbB S32 b41 (m46.length + (nuL m47).length) cc43 cc44) ∧ (∀ (o54 : Option Nat) (S49 : HS), ext S32 S49 → (∀ b, o54 = some b → hK S49 b = 12) → (o54 = some b41 ∧ sbT S32 S49 b41 m46 (m46 ++ nuL m47)) → (P S49)))))))))))))) ∧ (¬ (hI S 262 b19) ≤ x2 → (∃ b59 : Nat, hR S 24 x0 = some b59 ∧ (hK S b59 = 13 → ((∃ ar n j : Nat, hR S 261 b59 = some ar ∧ hK S ar = 30 ∧ hI S 262 b59 = nI n ∧ n < 2 ^ 31 ∧ j < n ∧ n ≤ hN S ar ∧ x2 = nI j ∧ ∃ b, hB S ar j = some b ∧ hK S b = 9) ∧ (∀ (o67 : Option Nat) (S62 : HS), ext S S62 → (∀ b, o67 = some b → hK S62 b = 9) → (S62 = S ∧ ∃ ar, hR S 261 b59 = some ar ∧ o67 = hB S ar (iv x2)) → (∃ b71 : Nat, o67 = some b71 ∧ (hK S62 b71 = 9 → ((¬ x2 = 0 → (((hI S62 180 b71) = 0 → (∃ cc75 cc76 : Nat, (cc75 ≤ kc ∧ cc76 ≤ ks) ∧ (∃ (m78 : List Int32), ((SbO S62 x1 m78 ∧ m78.length + 1 ≤ 200 ∧ (∃ c : Nat, c < 128 ∧ 38 = nI c) ∧ sbB S62 x1 (m78.length + 1) cc75 cc76) ∧ (∀ (o85 : Option Nat) (S80 : HS), ext S62 S80 → (∀ b, o85 = some b → hK S80 b = 12) → (o85 = some x1 ∧ sbT S62 S80 x1 m78 (m78 ++ [38])) → (∃ cc90 cc91 : Nat, (cc90 ≤ (kc - cc75) ∧ cc91 ≤ (ks - cc76)) ∧ (∃ (m93 : (Nat → Prop)) (m94 : List Int32) (m95 : Nat) (m96 : Prop), ((RelT S80 m93 b71 m95 m96 ∧ SbO S80 x1 m94 ∧ m94.length + (teL m95).length ≤ 200 ∧ sbB S80 x1 (m94.length + (teL m95).length) cc90 cc91) ∧ (∀ (S98 : HS), ext S80 S98 → (sbT S80 S98 x1 m94 (m94 ++ teL m95)) → (∀ v107 : Int32, v107 = x2 + 1 → (rec x0 x1 v107 S98 ((kc - cc75) - cc90) ((ks - cc76) - cc91)))))))))))) ∧ (¬ (hI S62 180 b71) = 0 → (∃ cc108 cc109 : Nat, (cc108 ≤ kc ∧ cc109 ≤ ks) ∧ (∃ (m111 : List Int32), ((SbO S62 x1 m111 ∧ m111.length + 1 ≤ 200 ∧ (∃ c : Nat, c < 128 ∧ 124 = nI c) ∧ sbB S62 x1 (m111.length + 1) cc108 cc109) ∧ (∀ (o118 : Option Nat) (S113 : HS), ext S62 S113 → (∀ b, o118 = some b → hK S113 b = 12) → (o118 = some x1 ∧ sbT S62 S113 x1 m111 (m111 ++ [124])) → (∃ cc123 cc124 : Nat, (cc123 ≤ (kc - cc108) ∧ cc124 ≤ (ks - cc109)) ∧ (∃ (m126 : (Nat → Prop)) (m127 : List Int32) (m128 : Nat) (m129 : Prop), ((RelT S113 m126 b71 m128 m129 ∧ SbO S113 x1 m127 ∧ m127.length + (teL m128).length ≤ 200 ∧ sbB S113 x1 (m127.length + (teL m128).length) cc123 cc124) ∧ (∀ (S131 : HS), ext S113 S131 → (sbT S113 S131 x1 m127 (m127 ++ teL m128)) → (∀ v140 : Int32, v140 = x2 + 1 → (rec x0 x1 v140 S131 ((kc - cc108) - cc123) ((ks - cc109) - cc124)))))))))))))) ∧ (x2 = 0 → (∃ cc141 cc142 : Nat, (cc141 ≤ kc ∧ cc142 ≤ ks) ∧ (∃ (m144 : List Int32), ((SbO S62 x1 m144 ∧ m144.length + 1 ≤ 200 ∧ (∃ c : Nat, c < 128 ∧ 63 = nI c) ∧ sbB S62 x1 (m144.length + 1) cc141 cc142) ∧ (∀ (o151 : Option Nat) (S146 : HS), ext S62 S146 → (∀ b, o151 = some b → hK S146 b = 12) → (o151 = some x1 ∧ sbT S62 S146 x1 m144 (m144 ++ [63])) → (∃ cc156 cc157 : Nat, (cc156 ≤ (kc - cc141) ∧ cc157 ≤ (ks - cc142)) ∧ (∃ (m159 : (Nat → Prop)) (m160 : List Int32) (m161 : Nat) (m162 : Prop), ((RelT S146 m159 b71 m161 m162 ∧ SbO S146 x1 m160 ∧ m160.length + (teL m161).length ≤ 200 ∧ sbB S146 x1 (m160.length + (teL m161).length) cc156 cc157) ∧ (∀ (S164 : HS), ext S146 S164 → (sbT S146 S164 x1 m160 (m160 ++ teL m161)) → (∀ v173 : Int32, v173 = x2 + 1 → (rec x0 x1 v173 S164 ((kc - cc141) - cc156) ((ks - cc142) - cc157))))))))))))))))))))))
def wp_X0_appendTo_44 (P : HS → Prop) : Nat → Nat → Nat → Int32 → HS → Nat → Nat → Prop
  | 0 => fun _ _ _ _ _ _ => False
  | n + 1 => fun x0 x1 x2 S kc ks => wb_X0_appendTo_44 (wp_X0_appendTo_44  P n)  P x0 x1 x2 S kc ks
set_option maxRecDepth 100000 in
set_option maxHeartbeats 4000000 in
theorem t_X0_appendTo_44 {p : Program} {l : Launch} {e : Env} {s : State} {m : MethodId} {args : Array Value} {below : List Frame} {meth : Method} {c : Code} {D : va_G} {A : Nat → Prop} {T : Nat → ClassId} {mc ms : Nat} (C : GC p s m args meth c cX0_appendTo "FreightRater$Accessorial" (ws_X0_appendTo) 4 D A (zty T)) (E : GE T A s) (hr : meth.sig.returnType = none) (S0 : HS) (P : HS → Prop) : ∀ (n : Nat) (x0 : Nat) (x1 : Nat) (x2 : Int32) (S : HS) (kc ks : Nat) (L : List Nat), wt S → hL S L → ext S0 S → (hK S x0 = 1) → (hK S x1 = 12) → wp_X0_appendTo_44  P n x0 x1 x2 S kc ks → GW p l e { rm_X0_appendTo with cells := mc, slots := ms } s m args below meth c D A 4 mc ms (MQ below (va_Qv (fun (u : HS × List Nat) => P u.1 ∧ CO S0 u) (CE D T A) A) args s mc ms A) (CW T S L) kc ks 44 [(0, .ref x0), (1, .ref x1), (2, .int x2)] [] := by
  have hW : ∀ {w : Cond}, w ∈ W0 → w.before args s = true := fun h => C.2.2.2.2.1 _ (List.mem_cons_of_mem _ h)
  intro n
  induction n with
  | zero => intro x0 x1 x2 S kc ks L hw hL he hx0 hx1 h; exact h.elim
  | succ n ih =>
    intro x0 x1 x2 S kc ks L hw hL he hx0 hx1 h
    replace h : wb_X0_appendTo_44 (wp_X0_appendTo_44  P n)  P x0 x1 x2 S kc ks := h
    unfold wb_X0_appendTo_44 at h
    refine g_iload_n C dX0_appendTo_44 rfl 2 rfl ?_
    refine g_aload_n C dX0_appendTo_45 rfl 0 rfl ?_
    refine gc_getR C hw iwx_X0 hL hx0 (by decide) (by decide) rfl 4 (by decide) (hW kw_751) rfl rfl rfl dX0_appendTo_46 (fun o18 eo18 ko18 => ?_)
    obtain ⟨b19, hb9, h⟩ := h
    have g20 : hK S b19 = 13 := ko18 b19 (eo18.trans hb9)
    replace h := h g20
    refine g_opt (eo18.trans hb9) ?_
    refine gc_calliV (host := "") C E hw hL g20 (by decide) (by decide) rfl [] rfl (k_Jx4a65c_size_8abf5 l D T b19 S g20) (w0_V 0 C.2.2.2.2.1 kw_1261 kw_876 kw_877 kw_22 kw_878 rfl rfl (by decide +kernel) ⟨Nat.le_of_ble_eq_true rfl, Nat.le_of_ble_eq_true rfl⟩) rfl (Nat.le_of_ble_eq_true rfl) (Nat.le_refl _) (Nat.le_refl _) (Nat.zero_le _) (Nat.zero_le _) dX0_appendTo_49 (fun v9 S9 L21 he9 hw9 hL9 hp => ?_)
    obtain ⟨hv9, hs9⟩ := hp
    replace hs9 := hs9.symm
    subst hs9
    replace hv9 := hv9.symm
    subst hv9
    have w24 := hL9
    refine g_icmp_ge (tgt := 106) C dX0_appendTo_52 (by decide) (fun z25 => ?_) (fun z25 => ?_)
    · replace h := h.1 z25
      refine g_aload_n C dX0_appendTo_106 rfl 0 rfl ?_
      refine gc_getI C iwx_X0 w24 hx0 (by decide) (by decide) rfl 2 (by decide) (hW kw_745) rfl rfl rfl dX0_appendTo_107 ?_
      refine g_if_lt (tgt := 127) C dX0_appendTo_110 (by decide) (fun z26 => ?_) (fun z26 => ?_)
      · replace h := h.1 z26
        exact gc_vret C hw w24 he hr dX0_appendTo_127 h
      · replace h := h.2 z26
        refine g_aload_n C dX0_appendTo_113 rfl 1 rfl ?_
        refine g_bipush (v := 33) C dX0_appendTo_114 (by decide) ?_
        obtain ⟨cc27, cc28, g29, h⟩ := h
        obtain ⟨m30, h⟩ := h
        obtain ⟨g31, h⟩ := h
        refine gc_callqV (host := "") C E hw w24 hx1 (by decide) (by decide) rfl [.int 33] rfl (k_J4_append_cf468 l D T x1 33 S m30 cc27 cc28 hx1 g31) (w0_V 1 C.2.2.2.2.1 kw_1778 kw_1753 kw_1754 kw_4 kw_1755 rfl rfl (by decide +kernel) ⟨Nat.le_of_ble_eq_true rfl, Nat.le_of_ble_eq_true rfl⟩) rfl (Nat.le_of_ble_eq_true rfl) (Nat.le_refl _) (Nat.le_refl _) g29.1 g29.2 dX0_appendTo_116 (fun o37 S32 L33 e34 w35 w36 ko37 hp => ?_)
        replace h := h o37 S32 e34 ko37 hp
        have g38 := ext_K e34 hx0 (by decide)
        have g39 := ext_K e34 hx1 (by decide)
        have w40 := ext_tr he e34
        refine g_aload_n C dX0_appendTo_119 rfl 0 rfl ?_
        refine gc_getI C iwx_X0 w36 g38 (by decide) (by decide) rfl 2 (by decide) (hW kw_745) rfl rfl rfl dX0_appendTo_120 ?_
        obtain ⟨b41, rfl, h⟩ := h
        have g42 : hK S32 b41 = 12 := ko37 b41 rfl
        replace h := h g42
        obtain ⟨cc43, cc44, g45, h⟩ := h
        obtain ⟨m46, m47, h⟩ := h
        obtain ⟨g48, h⟩ := h
        refine gc_callqV (host := "") C E w35 w36 g42 (by decide) (by decide) rfl [.int (hI S32 22 x0)] rfl (k_J4_append_bf812 l D T b41 (hI S32 22 x0) S32 m46 m47 cc43 cc44 g42 g48) (w0_V 1 C.2.2.2.2.1 kw_1777 kw_1602 kw_1603 kw_4 kw_1604 rfl rfl (by decide +kernel) ⟨Nat.le_of_ble_eq_true rfl, Nat.le_of_ble_eq_true rfl⟩) rfl (Nat.le_of_ble_eq_true rfl) (Nat.le_refl _) (Nat.le_refl _) g45.1 g45.2 dX0_appendTo_123 (fun o54 S49 L50 e51 w52 w53 ko54 hp => ?_)
        replace h := h o54 S49 e51 ko54 hp
        have g55 := ext_K e51 g38 (by decide)
        have g56 := ext_K e51 g39 (by decide)
        have w57 := ext_tr w40 e51
        refine g_pop C dX0_appendTo_126 (rf_cat _) ?_
        exact gc_vret C w52 w53 w57 hr dX0_appendTo_127 h
    · replace h := h.2 z25
      refine g_aload_n C dX0_appendTo_55 rfl 0 rfl ?_
      refine gc_getR C hw iwx_X0 w24 hx0 (by decide) (by decide) rfl 4 (by decide) (hW kw_751) rfl rfl rfl dX0_appendTo_56 (fun o58 eo58 ko58 => ?_)
      obtain ⟨b59, hb9, h⟩ := h
      have g60 : hK S b59 = 13 := ko58 b59 (eo58.trans hb9)
      replace h := h g60
      refine g_opt (eo58.trans hb9) ?_
      refine g_iload_n C dX0_appendTo_59 rfl 2 rfl ?_
      obtain ⟨g61, h⟩ := h
      refine gc_callqV (host := "") C E hw w24 g60 (by decide) (by decide) rfl [.int x2] rfl (k_Jx4a65c_get_915e3 l D T b59 x2 S 9 g60 g61) (w0_V 1 C.2.2.2.2.1 kw_1262 kw_880 kw_881 kw_22 kw_882 rfl rfl (by decide +kernel) ⟨Nat.le_of_ble_eq_true rfl, Nat.le_of_ble_eq_true rfl⟩) rfl (Nat.le_of_ble_eq_true rfl) (Nat.le_refl _) (Nat.le_refl _) (Nat.zero_le _) (Nat.zero_le _) dX0_appendTo_60 (fun o67 S62 L63 e64 w65 w66 ko67 hp => ?_)
      replace h := h o67 S62 e64 ko67 hp
      have g68 := ext_K e64 hx0 (by decide)
      have g69 := ext_K e64 hx1 (by decide)
      have w70 := ext_tr he e64
      obtain ⟨b71, rfl, h⟩ := h
      have g72 : hK S62 b71 = 9 := ko67 b71 rfl
      replace h := h g72
      refine gc_castP C w66 g72 (by decide) (by decide) rfl (hW kw_1263) dX0_appendTo_63 ?_
      refine g_astore_n (lv' := [(3, .ref b71), (0, .ref x0), (1, .ref x1), (2, .int x2)]) C dX0_appendTo_66 rfl (by decide) rfl ?_
      refine g_aload_n C dX0_appendTo_67 rfl 2 rfl ?_
      refine g_iload_n C dX0_appendTo_68 rfl 3 rfl ?_
      refine g_if_ne (tgt := 77) C dX0_appendTo_69 (by decide) (fun z73 => ?_) (fun z73 => ?_)
      · replace h := h.1 z73
        refine g_aload_n C dX0_appendTo_77 rfl 0 rfl ?_
        refine gc_getI C iwx_X8 w66 g72 (by decide) (by decide) rfl 0 (by decide) (hW kw_779) rfl rfl rfl dX0_appendTo_78 ?_
        refine g_if_eq (tgt := 89) C dX0_appendTo_81 (by decide) (fun z74 => ?_) (fun z74 => ?_)
        · replace h := h.1 z74
          refine g_bipush (v := 38) C dX0_appendTo_89 (by decide) ?_
          obtain ⟨cc75, cc76, g77, h⟩ := h
          obtain ⟨m78, h⟩ := h
          obtain ⟨g79, h⟩ := h
          refine gc_callqV (host := "") C E w65 w66 g69 (by decide) (by decide) rfl [.int 38] rfl (k_J4_append_cf468 l D T x1 38 S62 m78 cc75 cc76 g69 g79) (w0_V 1 C.2.2.2.2.1 kw_1778 kw_1753 kw_1754 kw_4 kw_1755 rfl rfl (by decide +kernel) ⟨Nat.le_of_ble_eq_true rfl, Nat.le_of_ble_eq_true rfl⟩) rfl (Nat.le_of_ble_eq_true rfl) (Nat.le_refl _) (Nat.le_refl _) g77.1 g77.2 dX0_appendTo_91 (fun o85 S80 L81 e82 w83 w84 ko85 hp => ?_)
          replace h := h o85 S80 e82 ko85 hp
          have g86 := ext_K e82 g72 (by decide)
          have g87 := ext_K e82 g68 (by decide)
          have g88 := ext_K e82 g69 (by decide)
          have w89 := ext_tr w70 e82
          refine g_pop C dX0_appendTo_94 (rf_cat _) ?_
          refine g_aload_n C dX0_appendTo_95 rfl 0 rfl ?_
          refine g_aload_n C dX0_appendTo_96 rfl 2 rfl ?_
          obtain ⟨cc90, cc91, g92, h⟩ := h
          obtain ⟨m93, m94, m95, m96, h⟩ := h
          obtain ⟨g97, h⟩ := h
          refine gc_callvV (host := "") C E w83 w84 g86 (by decide) (by decide) rfl [.ref x1] rfl (k_X8_appendTo l D T b71 x1 S80 m93 m94 m95 m96 cc90 cc91 g86 g88 g97) (w0_V 1 C.2.2.2.2.1 kw_1779 kw_1780 kw_1781 kw_28 kw_1782 rfl rfl (by decide +kernel) ⟨Nat.le_of_ble_eq_true rfl, Nat.le_of_ble_eq_true rfl⟩) rfl (Nat.le_of_ble_eq_true rfl) (Nat.le_refl _) (Nat.le_refl _) g92.1 g92.2 dX0_appendTo_97 (fun S98 L99 e100 w101 w102 hp => ?_)
          replace h := h S98 e100 hp
          have g103 := ext_K e100 g86 (by decide)
          have g104 := ext_K e100 g87 (by decide)
          have g105 := ext_K e100 g88 (by decide)
          have w106 := ext_tr w89 e100
          obtain ⟨v107, ev107⟩ : ∃ y : Int32, y = x2 + 1 := ⟨_, rfl⟩
          replace h := h v107 ev107
          refine g_iinc (v := v107) (lv' := [(2, .int v107), (3, .ref b71), (0, .ref x0), (1, .ref x1)]) C dX0_appendTo_100 (j := 3) rfl (by rw [ev107]; rfl) (by decide) rfl ?_
          refine g_goto (tgt := 44) C dX0_appendTo_103 (by decide) ?_
          refine g_locals [2, 3, 0] rfl ?_
          exact ih x0 x1 v107 S98 ((kc - cc75) - cc90) ((ks - cc76) - cc91) L99 w101 w102 w106 g104 g105 h
        · replace h := h.2 z74
          refine g_bipush (v := 124) C dX0_appendTo_84 (by decide) ?_
          refine g_goto (tgt := 91) C dX0_appendTo_86 (by decide) ?_
          obtain ⟨cc108, cc109, g110, h⟩ := h
          obtain ⟨m111, h⟩ := h
          obtain ⟨g112, h⟩ := h
          refine gc_callqV (host := "") C E w65 w66 g69 (by decide) (by decide) rfl [.int 124] rfl (k_J4_append_cf468 l D T x1 124 S62 m111 cc108 cc109 g69 g112) (w0_V 1 C.2.2.2.2.1 kw_1778 kw_1753 kw_1754 kw_4 kw_1755 rfl rfl (by decide +kernel) ⟨Nat.le_of_ble_eq_true rfl, Nat.le_of_ble_eq_true rfl⟩) rfl (Nat.le_of_ble_eq_true rfl) (Nat.le_refl _) (Nat.le_refl _) g110.1 g110.2 dX0_appendTo_91 (fun o118 S113 L114 e115 w116 w117 ko118 hp => ?_)
          replace h := h o118 S113 e115 ko118 hp
          have g119 := ext_K e115 g72 (by decide)
          have g120 := ext_K e115 g68 (by decide)
          have g121 := ext_K e115 g69 (by decide)
          have w122 := ext_tr w70 e115
          refine g_pop C dX0_appendTo_94 (rf_cat _) ?_
          refine g_aload_n C dX0_appendTo_95 rfl 0 rfl ?_
          refine g_aload_n C dX0_appendTo_96 rfl 2 rfl ?_
          obtain ⟨cc123, cc124, g125, h⟩ := h
          obtain ⟨m126, m127, m128, m129, h⟩ := h
          obtain ⟨g130, h⟩ := h
          refine gc_callvV (host := "") C E w116 w117 g119 (by decide) (by decide) rfl [.ref x1] rfl (k_X8_appendTo l D T b71 x1 S113 m126 m127 m128 m129 cc123 cc124 g119 g121 g130) (w0_V 1 C.2.2.2.2.1 kw_1779 kw_1780 kw_1781 kw_28 kw_1782 rfl rfl (by decide +kernel) ⟨Nat.le_of_ble_eq_true rfl, Nat.le_of_ble_eq_true rfl⟩) rfl (Nat.le_of_ble_eq_true rfl) (Nat.le_refl _) (Nat.le_refl _) g125.1 g125.2 dX0_appendTo_97 (fun S131 L132 e133 w134 w135 hp => ?_)
          replace h := h S131 e133 hp
          have g136 := ext_K e133 g119 (by decide)
          have g137 := ext_K e133 g120 (by decide)
          have g138 := ext_K e133 g121 (by decide)
          have w139 := ext_tr w122 e133
          obtain ⟨v140, ev140⟩ : ∃ y : Int32, y = x2 + 1 := ⟨_, rfl⟩
          replace h := h v140 ev140
          refine g_iinc (v := v140) (lv' := [(2, .int v140), (3, .ref b71), (0, .ref x0), (1, .ref x1)]) C dX0_appendTo_100 (j := 3) rfl (by rw [ev140]; rfl) (by decide) rfl ?_
          refine g_goto (tgt := 44) C dX0_appendTo_103 (by decide) ?_
          refine g_locals [2, 3, 0] rfl ?_
          exact ih x0 x1 v140 S131 ((kc - cc108) - cc123) ((ks - cc109) - cc124) L132 w134 w135 w139 g137 g138 h
      · replace h := h.2 z73
        refine g_bipush (v := 63) C dX0_appendTo_72 (by decide) ?_
        refine g_goto (tgt := 91) C dX0_appendTo_74 (by decide) ?_
        obtain ⟨cc141, cc142, g143, h⟩ := h
        obtain ⟨m144, h⟩ := h
        obtain ⟨g145, h⟩ := h
        refine gc_callqV (host := "") C E w65 w66 g69 (by decide) (by decide) rfl [.int 63] rfl (k_J4_append_cf468 l D T x1 63 S62 m144 cc141 cc142 g69 g145) (w0_V 1 C.2.2.2.2.1 kw_1778 kw_1753 kw_1754 kw_4 kw_1755 rfl rfl (by decide +kernel) ⟨Nat.le_of_ble_eq_true rfl, Nat.le_of_ble_eq_true rfl⟩) rfl (Nat.le_of_ble_eq_true rfl) (Nat.le_refl _) (Nat.le_refl _) g143.1 g143.2 dX0_appendTo_91 (fun o151 S146 L147 e148 w149 w150 ko151 hp => ?_)
        replace h := h o151 S146 e148 ko151 hp
        have g152 := ext_K e148 g72 (by decide)
        have g153 := ext_K e148 g68 (by decide)
        have g154 := ext_K e148 g69 (by decide)
        have w155 := ext_tr w70 e148
        refine g_pop C dX0_appendTo_94 (rf_cat _) ?_
        refine g_aload_n C dX0_appendTo_95 rfl 0 rfl ?_
        refine g_aload_n C dX0_appendTo_96 rfl 2 rfl ?_
        obtain ⟨cc156, cc157, g158, h⟩ := h
        obtain ⟨m159, m160, m161, m162, h⟩ := h
        obtain ⟨g163, h⟩ := h
        refine gc_callvV (host := "") C E w149 w150 g152 (by decide) (by decide) rfl [.ref x1] rfl (k_X8_appendTo l D T b71 x1 S146 m159 m160 m161 m162 cc156 cc157 g152 g154 g163) (w0_V 1 C.2.2.2.2.1 kw_1779 kw_1780 kw_1781 kw_28 kw_1782 rfl rfl (by decide +kernel) ⟨Nat.le_of_ble_eq_true rfl, Nat.le_of_ble_eq_true rfl⟩) rfl (Nat.le_of_ble_eq_true rfl) (Nat.le_refl _) (Nat.le_refl _) g158.1 g158.2 dX0_appendTo_97 (fun S164 L165 e166 w167 w168 hp => ?_)
        replace h := h S164 e166 hp
        have g169 := ext_K e166 g152 (by decide)
        have g170 := ext_K e166 g153 (by decide)
        have g171 := ext_K e166 g154 (by decide)
        have w172 := ext_tr w155 e166
        obtain ⟨v173, ev173⟩ : ∃ y : Int32, y = x2 + 1 := ⟨_, rfl⟩
        replace h := h v173 ev173
        refine g_iinc (v := v173) (lv' := [(2, .int v173), (3, .ref b71), (0, .ref x0), (1, .ref x1)]) C dX0_appendTo_100 (j := 3) rfl (by rw [ev173]; rfl) (by decide) rfl ?_
        refine g_goto (tgt := 44) C dX0_appendTo_103 (by decide) ?_
        refine g_locals [2, 3, 0] rfl ?_
        exact ih x0 x1 v173 S164 ((kc - cc141) - cc156) ((ks - cc142) - cc157) L165 w167 w168 w172 g170 g171 h
def wp_X0_appendTo (P : HS → Prop) (x0 : Nat) (p0 : Nat) (S : HS) (mc ms : Nat) : Prop := ∃ cc1 cc2 : Nat, (cc1 ≤ mc ∧ cc2 ≤ ms) ∧ (∃ (m4 : List Int32) (m5 : Nat), ((SbO S p0 m4 ∧ (hI S 20 x0) = nI m5 ∧ m5 ≤ 9999 ∧ m4.length + (nuL m5).length ≤ 200 ∧ sbB S p0 (m4.length + (nuL m5).length) cc1 cc2) ∧ (∀ (o12 : Option Nat) (S7 : HS), ext S S7 → (∀ b, o12 = some b → hK S7 b = 12) → (o12 = some p0 ∧ sbT S S7 p0 m4 (m4 ++ nuL m5)) → ((¬ (hI S7 21 x0) = 2 → ((¬ (hI S7 21 x0) = 1 → (∃ k174 : Nat, wp_X0_appendTo_44  P k174 x0 p0 0 S7 (mc - cc1) (ms - cc2))) ∧ ((hI S7 21 x0) = 1 → (∃ cc175 cc176 : Nat, (cc175 ≤ (mc - cc1) ∧ cc176 ≤ (ms - cc2)) ∧ (∃ (m178 : List Int32), ((SbO S7 p0 m178 ∧ m178.length + 1 ≤ 200 ∧ (∃ c : Nat, c < 128 ∧ 42 = nI c) ∧ sbB S7 p0 (m178.length + 1) cc175 cc176) ∧ (∀ (o185 : Option Nat) (S180 : HS), ext S7 S180 → (∀ b, o185 = some b → hK S180 b = 12) → (o185 = some p0 ∧ sbT S7 S180 p0 m178 (m178 ++ [42])) → (∃ k189 : Nat, wp_X0_appendTo_44  P k189 x0 p0 0 S180 ((mc - cc1) - cc175) ((ms - cc2) - cc176))))))))) ∧ ((hI S7 21 x0) = 2 → (∃ cc190 cc191 : Nat, (cc190 ≤ (mc - cc1) ∧ cc191 ≤ (ms - cc2)) ∧ (∃ (m193 : List Int32), ((SbO S7 p0 m193 ∧ m193.length + 1 ≤ 200 ∧ (∃ c : Nat, c < 128 ∧ 37 = nI c) ∧ sbB S7 p0 (m193.length + 1) cc190 cc191) ∧ (∀ (o200 : Option Nat) (S195 : HS), ext S7 S195 → (∀ b, o200 = some b → hK S195 b = 12) → (o200 = some p0 ∧ sbT S7 S195 p0 m193 (m193 ++ [37])) → (∃ k204 : Nat, wp_X0_appendTo_44  P k204 x0 p0 0 S195 ((mc - cc1) - cc190) ((ms - cc2) - cc191)))))))))))
set_option maxRecDepth 100000 in
set_option maxHeartbeats 4000000 in
theorem t_X0_appendTo {p : Program} {l : Launch} {e : Env} {s : State} {m : MethodId} {args : Array Value} {below : List Frame} {meth : Method} {c : Code} {D : va_G} {A : Nat → Prop} {T : Nat → ClassId} (C : GC p s m args meth c cX0_appendTo "FreightRater$Accessorial" (ws_X0_appendTo) 4 D A (zty T)) (E : GE T A s) (hr : meth.sig.returnType = none) (P : HS → Prop) : ∀ (x0 : Nat) (p0 : Nat) (S0 S : HS) (mc ms : Nat) (L : List Nat), S0 = S → wt S → hL S L → (hK S x0 = 1) → (hK S p0 = 12) → wp_X0_appendTo P x0 p0 S mc ms → GW p l e { rm_X0_appendTo with cells := mc, slots := ms } s m args below meth c D A 4 mc ms (MQ below (va_Qv (fun (u : HS × List Nat) => P u.1 ∧ CO S0 u) (CE D T A) A) args s mc ms A) (CW T S L) mc ms 0 [(0, .ref x0), (1, .ref p0)] [] := by
  have hW : ∀ {w : Cond}, w ∈ W0 → w.before args s = true := fun h => C.2.2.2.2.1 _ (List.mem_cons_of_mem _ h)
  intro x0 p0 S0 S mc ms L hS0 hw hL hx0 hp0 h
  have he : ext S0 S := by rw [hS0]; exact ext_rf
  unfold wp_X0_appendTo at h
  refine g_aload_n C dX0_appendTo_0 rfl 1 rfl ?_
  refine g_aload_n C dX0_appendTo_1 rfl 0 rfl ?_
  refine gc_getI C iwx_X0 hL hx0 (by decide) (by decide) rfl 0 (by decide) (hW kw_739) rfl rfl rfl dX0_appendTo_2 ?_
  obtain ⟨cc1, cc2, g3, h⟩ := h
  obtain ⟨m4, m5, h⟩ := h
  obtain ⟨g6, h⟩ := h
  refine gc_callqV (host := "") C E hw hL hp0 (by decide) (by decide) rfl [.int (hI S 20 x0)] rfl (k_J4_append_bf812 l D T p0 (hI S 20 x0) S m4 m5 cc1 cc2 hp0 g6) (w0_V 1 C.2.2.2.2.1 kw_1777 kw_1602 kw_1603 kw_4 kw_1604 rfl rfl (by decide +kernel) ⟨Nat.le_of_ble_eq_true rfl, Nat.le_of_ble_eq_true rfl⟩) rfl (Nat.le_of_ble_eq_true rfl) (Nat.le_refl _) (Nat.le_refl _) g3.1 g3.2 dX0_appendTo_5 (fun o12 S7 L8 e9 w10 w11 ko12 hp => ?_)
  replace h := h o12 S7 e9 ko12 hp
  have g13 := ext_K e9 hx0 (by decide)
  have g14 := ext_K e9 hp0 (by decide)
  have w15 := ext_tr he e9
  refine g_pop C dX0_appendTo_8 (rf_cat _) ?_
  refine g_aload_n C dX0_appendTo_9 rfl 0 rfl ?_
  refine gc_getI C iwx_X0 w11 g13 (by decide) (by decide) rfl 1 (by decide) (hW kw_742) rfl rfl rfl dX0_appendTo_10 ?_
  refine g_iconst (v := 2) C dX0_appendTo_13 (by decide) ?_
  refine g_icmp_ne (tgt := 27) C dX0_appendTo_14 (by decide) (fun z16 => ?_) (fun z16 => ?_)
  · replace h := h.1 z16
    refine g_aload_n C dX0_appendTo_27 rfl 0 rfl ?_
    refine gc_getI C iwx_X0 w11 g13 (by decide) (by decide) rfl 1 (by decide) (hW kw_742) rfl rfl rfl dX0_appendTo_28 ?_
    refine g_iconst (v := 1) C dX0_appendTo_31 (by decide) ?_
    refine g_icmp_ne (tgt := 42) C dX0_appendTo_32 (by decide) (fun z17 => ?_) (fun z17 => ?_)
    · replace h := h.1 z17
      refine g_iconst (v := 0) C dX0_appendTo_42 (by decide) ?_
      refine g_istore_n (lv' := [(2, .int 0), (0, .ref x0), (1, .ref p0)]) C dX0_appendTo_43 rfl (by decide) rfl ?_
      refine g_locals [1, 2, 0] rfl ?_
      obtain ⟨k174, h⟩ := h
      refine t_X0_appendTo_44 C E hr S0  P  k174 x0 p0 0 S7 (mc - cc1) (ms - cc2) L8 w10 w11 w15 g13 g14 h
    · replace h := h.2 z17
      refine g_aload_n C dX0_appendTo_35 rfl 1 rfl ?_
      refine g_bipush (v := 42) C dX0_appendTo_36 (by decide) ?_
      obtain ⟨cc175, cc176, g177, h⟩ := h
      obtain ⟨m178, h⟩ := h
      obtain ⟨g179, h⟩ := h
      refine gc_callqV (host := "") C E w10 w11 g14 (by decide) (by decide) rfl [.int 42] rfl (k_J4_append_cf468 l D T p0 42 S7 m178 cc175 cc176 g14 g179) (w0_V 1 C.2.2.2.2.1 kw_1778 kw_1753 kw_1754 kw_4 kw_1755 rfl rfl (by decide +kernel) ⟨Nat.le_of_ble_eq_true rfl, Nat.le_of_ble_eq_true rfl⟩) rfl (Nat.le_of_ble_eq_true rfl) (Nat.le_refl _) (Nat.le_refl _) g177.1 g177.2 dX0_appendTo_38 (fun o185 S180 L181 e182 w183 w184 ko185 hp => ?_)
      replace h := h o185 S180 e182 ko185 hp
      have g186 := ext_K e182 g13 (by decide)
      have g187 := ext_K e182 g14 (by decide)
      have w188 := ext_tr w15 e182
      refine g_pop C dX0_appendTo_41 (rf_cat _) ?_
      refine g_iconst (v := 0) C dX0_appendTo_42 (by decide) ?_
      refine g_istore_n (lv' := [(2, .int 0), (0, .ref x0), (1, .ref p0)]) C dX0_appendTo_43 rfl (by decide) rfl ?_
      refine g_locals [1, 2, 0] rfl ?_
      obtain ⟨k189, h⟩ := h
      refine t_X0_appendTo_44 C E hr S0  P  k189 x0 p0 0 S180 ((mc - cc1) - cc175) ((ms - cc2) - cc176) L181 w183 w184 w188 g186 g187 h
  · replace h := h.2 z16
    refine g_aload_n C dX0_appendTo_17 rfl 1 rfl ?_
    refine g_bipush (v := 37) C dX0_appendTo_18 (by decide) ?_
    obtain ⟨cc190, cc191, g192, h⟩ := h
    obtain ⟨m193, h⟩ := h
    obtain ⟨g194, h⟩ := h
    refine gc_callqV (host := "") C E w10 w11 g14 (by decide) (by decide) rfl [.int 37] rfl (k_J4_append_cf468 l D T p0 37 S7 m193 cc190 cc191 g14 g194) (w0_V 1 C.2.2.2.2.1 kw_1778 kw_1753 kw_1754 kw_4 kw_1755 rfl rfl (by decide +kernel) ⟨Nat.le_of_ble_eq_true rfl, Nat.le_of_ble_eq_true rfl⟩) rfl (Nat.le_of_ble_eq_true rfl) (Nat.le_refl _) (Nat.le_refl _) g192.1 g192.2 dX0_appendTo_20 (fun o200 S195 L196 e197 w198 w199 ko200 hp => ?_)
    replace h := h o200 S195 e197 ko200 hp
    have g201 := ext_K e197 g13 (by decide)
    have g202 := ext_K e197 g14 (by decide)
    have w203 := ext_tr w15 e197
    refine g_pop C dX0_appendTo_23 (rf_cat _) ?_
    refine g_goto (tgt := 42) C dX0_appendTo_24 (by decide) ?_
    refine g_iconst (v := 0) C dX0_appendTo_42 (by decide) ?_
    refine g_istore_n (lv' := [(2, .int 0), (0, .ref x0), (1, .ref p0)]) C dX0_appendTo_43 rfl (by decide) rfl ?_
    refine g_locals [1, 2, 0] rfl ?_
    obtain ⟨k204, h⟩ := h
    refine t_X0_appendTo_44 C E hr S0  P  k204 x0 p0 0 S195 ((mc - cc1) - cc190) ((ms - cc2) - cc191) L196 w198 w199 w203 g201 g202 h
theorem c_X0_appendTo (l : Launch) (D : va_G) (T : Nat → ClassId) (x0 : Nat) (p0 : Nat) (S : HS) (mc ms : Nat) (hx0 : hK S x0 = 1) (hp0 : hK S p0 = 12) (P : HS → Prop) (h : wp_X0_appendTo P x0 p0 S mc ms) : CMv l yX0_appendTo (ws_X0_appendTo) rm_X0_appendTo D T [.ref x0, .ref p0] S mc ms P := gc_metv (by decide) rfl rfl (Nat.le_of_ble_eq_true rfl) (fun p e s m args below meth c A L C E hnm hr hw hL => t_X0_appendTo C E   hr P x0 p0 S S mc ms L rfl hw hL hx0 hp0 h)
theorem rl_apx {P : HS → Prop} {S0 : HS} {x0 x v a c q : Nat} {M : Nat → Prop} {μ : Nat → Int32} {sh0 ex tgt : List Int32} (O0 : SbO S0 x sh0) (R0 : RelA S0 M x0 μ v a) (ec : iv (μ (274 + 510 * v + 150 + 36 * a + 4)) = c) (ec4 : μ (274 + 510 * v + 150 + 36 * a + 4) = nI c) (hc : c ≤ 30) (hex : ex = if μ (274 + 510 * v + 150 + 36 * a + 5) < 0 then [] else 33 :: nuL (iv (μ (274 + 510 * v + 150 + 36 * a + 5)))) (h5 : μ (274 + 510 * v + 150 + 36 * a + 5) = -1 ∨ bn (μ (274 + 510 * v + 150 + 36 * a + 5)) 9) (hq : tgt.length = q) (h200 : q ≤ 200) (hP : ∀ S1, sbT S0 S1 x sh0 tgt → P S1) : ∀ (k j fuel : Nat) (S : HS) (sh : List Int32) (kc ks : Nat), j + k = c → k < fuel → ext S0 S → sbT S0 S x sh0 sh → sbB S x q kc ks → sh ++ (paT μ (274 + 510 * v + 150 + 36 * a) k j ++ ex) = tgt → wp_X0_appendTo_44 P fuel x0 x (nI j) S kc ks := by
  obtain ⟨kx, nx, i20, i21, i22, i23, al, ar, r24, kal, nal, r61, kar, nar, i62, har, hts⟩ := R0
  rw [ec] at har hts
  rw [ec4] at i62
  have six : ∀ {S9 sh9}, sbT S0 S9 x sh0 sh9 → sam S0 S9 x0 ∧ sam S0 S9 al ∧ sam S0 S9 ar := fun t => ⟨t.kp O0 kx (by decide) (by decide) (by decide), t.kp O0 kal (by decide) (by decide) (by decide), t.kp O0 kar (by decide) (by decide) (by decide)⟩
  intro k
  induction k with
  | zero =>
    intro j fuel S sh kc ks hj hf he t b hT
    have ej : j = c := hj
    obtain ⟨s0, s1, s2⟩ := six t
    obtain ⟨f, rfl⟩ : ∃ f, fuel = f + 1 := ⟨fuel - 1, by omega⟩; rw [wp_X0_appendTo_44]; unfold wb_X0_appendTo_44; dsimp only
    refine ⟨al, by rw [s0.2.2.2.1]; exact r24, fun _ => ?_⟩
    rw [s1.2.2.1, i62, s0.2.2.1, i22, nI_leI (by omega) (by omega)]
    have hT' : sh ++ ex = tgt := by rw [← hT, paT]; rfl
    refine ⟨fun _ => ⟨fun z => ?_, fun z => ?_⟩, fun z => absurd (by omega) z⟩
    · rw [if_pos z] at hex
      rw [hex, List.append_nil] at hT'
      exact hP S (by rw [← hT']; exact t)
    · rw [if_neg z] at hex
      have b5 : bn (μ (274 + 510 * v + 150 + 36 * a + 5)) 9 := by
        rcases h5 with h5 | h5
        · rw [h5] at z; exact absurd (by decide) z
        · exact h5
      obtain ⟨m, hm, em⟩ := b5
      have im : iv (μ (274 + 510 * v + 150 + 36 * a + 5)) = m := by rw [em]; exact nI_clamp (by omega)
      rw [im] at hex
      have hl : sh.length + (1 + (nuL m).length) = q := by rw [← hq, ← hT', hex]; simp only [List.length_append, List.length_cons]; omega
      refine ap_c (w := 33) t.1 b (by omega) h200 ⟨33, by decide, rfl⟩ (fun o1 S1 c1 s1 he1 eo t1 b1 => ⟨x, eo, fun _ => ?_⟩)
      have T1 := t.tr O0 he t1 (by simp only [List.length_append]; omega)
      have E1 := ext_tr he he1
      refine ap_i T1.1 b1 (by rw [(six T1).1.2.2.1, i22]; exact em) (by omega) (by simp only [List.length_append, List.length_singleton]; omega) h200 (fun o2 S2 c2 s2 he2 _ t2 b2 => ?_)
      have T2 := T1.tr O0 E1 t2 (by simp only [List.length_append]; omega)
      refine hP S2 ?_
      rw [← hT', hex]
      rw [List.append_assoc] at T2
      exact T2
  | succ k ih =>
    intro j fuel S sh kc ks hj hf he t b hT
    obtain ⟨s0, s1, s2⟩ := six t
    obtain ⟨y, y1, y2⟩ := hts j (by omega)
    obtain ⟨N, eN⟩ : ∃ N, N = iv (μ (274 + 510 * v + 150 + 36 * a + 6 + j)) := ⟨_, rfl⟩
    have Rt := y2
    rw [← eN] at Rt
    have sy := t.kp O0 Rt.1 (by decide) (by decide) (by decide)
    have hl : sh.length + (1 + ((teL N).length + ((paT μ (274 + 510 * v + 150 + 36 * a) k (j + 1)).length + ex.length))) = q := by
      rw [← hq, ← hT, paT, ← eN]
      simp only [List.length_append, List.length_cons]
      omega
    obtain ⟨f, rfl⟩ : ∃ f, fuel = f + 1 := ⟨fuel - 1, by omega⟩; rw [wp_X0_appendTo_44]; unfold wb_X0_appendTo_44; dsimp only
    refine ⟨al, by rw [s0.2.2.2.1]; exact r24, fun _ => ?_⟩
    rw [s1.2.2.1, i62, nI_leI (by omega) (by omega)]
    refine ⟨fun z => absurd z (by omega), fun _ => ⟨al, by rw [s0.2.2.2.1]; exact r24, fun _ => ⟨⟨ar, c, j, by rw [s1.2.2.2.1]; exact r61, by rw [s2.1]; exact kar, by first | rfl | (rw [s1.2.2.1]; exact i62), by omega, by omega, by rw [s2.2.1]; exact har, rfl, y, by rw [s2.2.2.2.2.2]; exact y1, by rw [sy.1]; exact Rt.1⟩, fun o S62 he62 ho h62 => ?_⟩⟩⟩
    obtain ⟨eS, ar', r', eo⟩ := h62
    rw [eS]
    have ea : ar' = ar := Option.some.inj (r'.symm.trans (by rw [s1.2.2.2.1]; exact r61))
    rw [ea, show iv (nI j) = j from nI_clamp (by omega), s2.2.2.2.2.2, y1] at eo
    have hT2 := hT
    refine ⟨y, eo, fun _ => ⟨fun z => ?_, fun z => ?_⟩⟩
    · rw [nz_eq0 (by omega)] at z
      rw [sy.2.2.1]
      refine ⟨fun z2 => ?_, fun z2 => ?_⟩
      · have op : iv (μ (274 + 510 * v + 150 + 36 * a + 6 + j - 1)) / 300000 = iv (μ (274 + 510 * v + 150 + 36 * a + 6 + j)) / 300000 := Classical.byContradiction (fun g => by
          have := y2.2.2.1 (Or.inr (fun g2 => g g2.symm))
          rw [this] at z2
          exact absurd z2 (by decide))
        refine ap_c (w := 38) t.1 b (by omega) h200 ⟨38, by decide, rfl⟩ (fun o1 S1 c1 s1 he1 _ t1 b1 => ?_)
        have T1 := t.tr O0 he t1 (by simp only [List.length_append]; omega)
        have E1 := ext_tr he he1
        have R1 := Rt.km (T1.kp O0 Rt.1 (by decide) (by decide) (by decide))
        obtain ⟨g1, g2, g3⟩ := sbB.sp (q1 := (sh ++ [(38 : Int32)]).length + (teL N).length) T1.1 b1 (by simp only [List.length_append, List.length_singleton]; omega) h200
        refine ⟨_, _, g2, M, sh ++ [38], N, _, ⟨R1, T1.1, by simp only [List.length_append, List.length_singleton]; omega, g1⟩, fun S2 he2 t2 v2 ev2 => ?_⟩
        have T2 := T1.tr O0 E1 t2 (by simp only [List.length_append]; omega)
        rw [ev2, show nI j + 1 = nI (j + 1) from nI_add j 1]
        refine ih (j + 1) f S2 _ _ _ (by omega) (by omega) (ext_tr E1 he2) T2 (g3 S2 _ t2 List.length_append) ?_
        rw [← hT, paT, if_neg z, if_pos op, ← eN]
        simp only [List.append_assoc, List.singleton_append, List.nil_append, List.cons_append]
      · have op : ¬ iv (μ (274 + 510 * v + 150 + 36 * a + 6 + j - 1)) / 300000 = iv (μ (274 + 510 * v + 150 + 36 * a + 6 + j)) / 300000 := fun g => by
          have := y2.2.2.2.1 (fun g2 => g2.elim z (fun g3 => g3 g.symm))
          exact z2 this
        refine ap_c (w := 124) t.1 b (by omega) h200 ⟨124, by decide, rfl⟩ (fun o1 S1 c1 s1 he1 _ t1 b1 => ?_)
        have T1 := t.tr O0 he t1 (by simp only [List.length_append]; omega)
        have E1 := ext_tr he he1
        have R1 := Rt.km (T1.kp O0 Rt.1 (by decide) (by decide) (by decide))
        obtain ⟨g1, g2, g3⟩ := sbB.sp (q1 := (sh ++ [(124 : Int32)]).length + (teL N).length) T1.1 b1 (by simp only [List.length_append, List.length_singleton]; omega) h200
        refine ⟨_, _, g2, M, sh ++ [124], N, _, ⟨R1, T1.1, by simp only [List.length_append, List.length_singleton]; omega, g1⟩, fun S2 he2 t2 v2 ev2 => ?_⟩
        have T2 := T1.tr O0 E1 t2 (by simp only [List.length_append]; omega)
        rw [ev2, show nI j + 1 = nI (j + 1) from nI_add j 1]
        refine ih (j + 1) f S2 _ _ _ (by omega) (by omega) (ext_tr E1 he2) T2 (g3 S2 _ t2 List.length_append) ?_
        rw [← hT, paT, if_neg z, if_neg op, ← eN]
        simp only [List.append_assoc, List.singleton_append, List.nil_append, List.cons_append]
    · rw [nz_eq0 (by omega)] at z
      refine ap_c (w := 63) t.1 b (by omega) h200 ⟨63, by decide, rfl⟩ (fun o1 S1 c1 s1 he1 _ t1 b1 => ?_)
      have T1 := t.tr O0 he t1 (by simp only [List.length_append]; omega)
      have E1 := ext_tr he he1
      have R1 := Rt.km (T1.kp O0 Rt.1 (by decide) (by decide) (by decide))
      obtain ⟨g1, g2, g3⟩ := sbB.sp (q1 := (sh ++ [(63 : Int32)]).length + (teL N).length) T1.1 b1 (by simp only [List.length_append, List.length_singleton]; omega) h200
      refine ⟨_, _, g2, M, sh ++ [63], N, _, ⟨R1, T1.1, by simp only [List.length_append, List.length_singleton]; omega, g1⟩, fun S2 he2 t2 v2 ev2 => ?_⟩
      have T2 := T1.tr O0 E1 t2 (by simp only [List.length_append]; omega)
      rw [ev2, show nI j + 1 = nI (j + 1) from nI_add j 1]
      refine ih (j + 1) f S2 _ _ _ (by omega) (by omega) (ext_tr E1 he2) T2 (g3 S2 _ t2 List.length_append) ?_
      rw [← hT, paT, if_pos z, ← eN]
      simp only [List.append_assoc, List.singleton_append, List.nil_append, List.cons_append]
theorem k_X0_appendTo (l : Launch) (D : va_G) (T : Nat → ClassId) (x0 : Nat) (p0 : Nat) (S : HS) (e0 : (Nat → Prop)) (e1 : List Int32) (e2 : Nat → Int32) (e3 : Nat) (e4 : Nat) (mc ms : Nat) (hx0 : hK S x0 = 1) (hp0 : hK S p0 = 12) (h : RelA S e0 x0 e2 e3 e4 ∧ WF e2 ∧ e3 < 6 ∧ e4 < 10 ∧ SbO S p0 e1 ∧ e1.length + (pxF e2 (274 + 510 * e3 + 150 + 36 * e4)).length ≤ 200 ∧ sbB S p0 (e1.length + (pxF e2 (274 + 510 * e3 + 150 + 36 * e4)).length) mc ms) : CMv l yX0_appendTo (ws_X0_appendTo) rm_X0_appendTo D T [.ref x0, .ref p0] S mc ms (fun S1 => (sbT S S1 p0 e1 (e1 ++ (pxF e2 (274 + 510 * e3 + 150 + 36 * e4))))) := c_X0_appendTo l D T x0 p0 S mc ms hx0 hp0 _ <|
  (by
    obtain ⟨R0, hw, hv, ha, h0, h200, hb⟩ := h
    have hA := hw.acc hv ha
    obtain ⟨c, hc, ec4⟩ := hA.2.2.2.2.1
    have ec : iv (e2 (274 + 510 * e3 + 150 + 36 * e4 + 4)) = c := by rw [ec4]; exact nI_clamp (by omega)
    obtain ⟨m1, hm1, em1⟩ := hA.2.1
    have im1 : iv (e2 (274 + 510 * e3 + 150 + 36 * e4 + 1)) = m1 := by rw [em1]; exact nI_clamp (by omega)
    obtain ⟨m2, hm2, em2⟩ := hA.2.2.1
    have i20 := R0.2.2.1
    have i21 := R0.2.2.2.1
    have kx := R0.1
    have tT : pxF e2 (274 + 510 * e3 + 150 + 36 * e4) = nuL m1 ++ ((if m2 = 0 then [] else [if m2 = 1 then (42 : Int32) else 37]) ++ (paT e2 (274 + 510 * e3 + 150 + 36 * e4) c 0 ++ (if e2 (274 + 510 * e3 + 150 + 36 * e4 + 5) < 0 then [] else 33 :: nuL (iv (e2 (274 + 510 * e3 + 150 + 36 * e4 + 5)))))) := by
      unfold pxF
      rw [im1, ec, em2]
      congr 2
      clear em2
      rcases (by omega : m2 = 0 ∨ m2 = 1 ∨ m2 = 2) with c9 | c9 | c9 <;> subst c9 <;> decide
    have go : ∀ (S9 : HS) (sh9 : List Int32) (kc ks : Nat), ext S S9 → sbT S S9 p0 e1 sh9 → sbB S9 p0 (e1.length + (pxF e2 (274 + 510 * e3 + 150 + 36 * e4)).length) kc ks → sh9 = e1 ++ (nuL m1 ++ (if m2 = 0 then [] else [if m2 = 1 then (42 : Int32) else 37])) → ∃ k, wp_X0_appendTo_44 (fun S1 => sbT S S1 p0 e1 (e1 ++ pxF e2 (274 + 510 * e3 + 150 + 36 * e4))) k x0 p0 0 S9 kc ks := fun S9 sh9 kc ks he t b e => by
      refine ⟨c + 1, rl_apx (tgt := e1 ++ pxF e2 (274 + 510 * e3 + 150 + 36 * e4)) h0 R0 ec ec4 hc rfl hA.2.2.2.2.2.1 List.length_append h200 (fun S1 t1 => t1) c 0 (c + 1) S9 sh9 kc ks (Nat.zero_add _) (Nat.lt_succ_self _) he t b ?_⟩
      rw [e, tT]
      simp only [List.append_assoc]
    unfold wp_X0_appendTo
    have l1 : (nuL m1).length + (if m2 = 0 then [] else [if m2 = 1 then (42 : Int32) else 37]).length ≤ (pxF e2 (274 + 510 * e3 + 150 + 36 * e4)).length := by
      rw [tT]
      simp only [List.length_append]
      omega
    refine ap_i h0 hb (i20.trans em1) (by omega) (by omega) h200 (fun o1 S1 c1 s1 he1 _ t1 b1 => ?_)
    rw [(t1.kp h0 kx (by decide) (by decide) (by decide)).2.2.1, i21, em2, show (nI m2 = (2 : Int32)) = (m2 = 2) from propext (nI_eq (b := 2) (by omega) (by decide)), show (nI m2 = (1 : Int32)) = (m2 = 1) from propext (nI_eq (b := 1) (by omega) (by decide))]
    refine ⟨fun z => ⟨fun z1 => ?_, fun z1 => ?_⟩, fun z => ?_⟩
    · refine go S1 _ _ _ he1 t1 b1 ?_
      rw [if_pos (by omega), List.append_nil]
    · have l2 : ([if m2 = 1 then (42 : Int32) else 37]).length = 1 := rfl
      rw [if_neg (by omega), l2] at l1
      refine ap_c (w := 42) t1.1 b1 (by simp only [List.length_append]; omega) h200 ⟨42, by decide, rfl⟩ (fun o2 S2 c2 s2 he2 _ t2 b2 => ?_)
      refine go S2 _ _ _ (ext_tr he1 he2) (t1.tr h0 he1 t2 (by simp only [List.length_append]; omega)) b2 ?_
      rw [if_neg (by omega), if_pos z1, List.append_assoc]
    · have l2 : ([if m2 = 1 then (42 : Int32) else 37]).length = 1 := rfl
      rw [if_neg (by omega), l2] at l1
      refine ap_c (w := 37) t1.1 b1 (by simp only [List.length_append]; omega) h200 ⟨37, by decide, rfl⟩ (fun o2 S2 c2 s2 he2 _ t2 b2 => ?_)
      refine go S2 _ _ _ (ext_tr he1 he2) (t1.tr h0 he1 t2 (by simp only [List.length_append]; omega)) b2 ?_
      rw [if_neg (by omega), if_neg (by omega), List.append_assoc])

end S_CAM
