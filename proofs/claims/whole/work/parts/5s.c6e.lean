section S_C6E
abbrev ws_X3_readTest : List Cond := Cond.code yX3_readTest cX3_readTest 3 (some (.object "FreightRater$Test")) :: W0
abbrev rm_X3_readTest : Room := ({ frames := 13, cells := 0, slots := 0, locals := 542 } : Room)
def wp_X3_readTest (P : Option Nat → HS → Prop) (x0 : Nat) (p0 : Int32) (S : HS) (mc ms : Nat) : Prop := (1 ≤ mc ∧ 5 ≤ ms) ∧ (∀ q1 : Nat, hK S q1 = 0 → zr S q1 → (∀ S8 : HS, S8 = newO S q1 9 → ((vz p0) ∧ (∀ (S15 : HS), ext S8 S15 → (S15 = putI S8 180 q1 p0) → (∃ (m23 : Nat → Int32) (m24 : Nat) (m25 : PS), ((RdO S15 x0 m23 m24 m25 ∧ ¬ 45 = (-1 : Int32)) ∧ (∀ (v32 : Int32) (S27 : HS), ext S15 S27 → (v32 = b2i (tkB m23 m24 m25 45) ∧ c3 S15 S27 x0 [82, 83] ∧ RdO S27 x0 m23 m24 (tkS m23 m24 m25 45)) → (vz v32 ∧ (∀ S38 : HS, S38 = putI S27 181 q1 v32 → (∃ (m44 : Nat → Int32) (m45 : Nat) (m46 : PS), ((RdO S38 x0 m44 m45 m46 ∧ chO m44 m45) ∧ (∀ (v53 : Int32) (S48 : HS), ext S38 S48 → (v53 = (if toB m44 m45 m46 1 = true then m44 m46.1 else 0) ∧ c3 S38 S48 x0 [82, 83] ∧ RdO S48 x0 m44 m45 (toS m44 m45 m46 1)) → (vc v53 ∧ (∀ S59 : HS, S59 = putI S48 182 q1 v53 → ((¬ (hI S59 182 q1) = 104 → (∃ (m66 : Nat → Int32) (m67 : Nat) (m68 : PS), ((RdO S59 x0 m66 m67 m68 ∧ chO m66 m67) ∧ (∀ (v75 : Int32) (S70 : HS), ext S59 S70 → (v75 = (if toB m66 m67 m68 2 = true then m66 m68.1 else 0) ∧ c3 S59 S70 x0 [82, 83] ∧ RdO S70 x0 m66 m67 (toS m66 m67 m68 2)) → (vc v75 ∧ (∀ S81 : HS, S81 = putI S70 183 q1 v75 → (∃ (m87 : Nat → Int32) (m88 : Nat) (m89 : PS), ((RdO S81 x0 m87 m88 m89) ∧ (∀ (v96 : Int32) (S91 : HS), ext S81 S91 → (v96 = (nbF m87 m88 m89).1 ∧ c3 S81 S91 x0 [82, 83] ∧ RdO S91 x0 m87 m88 ((nbF m87 m88 m89).2)) → (∀ S101 : HS, S101 = putI S91 184 q1 v96 → (P (some q1) S101))))))))))) ∧ ((hI S59 182 q1) = 104 → (∃ (m107 : Nat → Int32) (m108 : Nat) (m109 : PS) (m110 : Int32) (m111 : Int32), ((RdO S59 x0 m107 m108 m109 ∧ 48 = 48 + m110 ∧ 55 = 48 + m111 ∧ dix m110 m111) ∧ (∀ (v118 : Int32) (S113 : HS), ext S59 S113 → (v118 = dgV m107 m108 m109 m110 m111 ∧ c3 S59 S113 x0 [82, 83] ∧ RdO S113 x0 m107 m108 (dgS m107 m108 m109 m110 m111)) → (∀ S123 : HS, S123 = putI S113 184 q1 v118 → (P (some q1) S123)))))))))))))))))))))
set_option maxRecDepth 100000 in
set_option maxHeartbeats 4000000 in
theorem t_X3_readTest {p : Program} {l : Launch} {e : Env} {s : State} {m : MethodId} {args : Array Value} {below : List Frame} {meth : Method} {c : Code} {D : va_G} {A : Nat → Prop} {T : Nat → ClassId} (C : GC p s m args meth c cX3_readTest "FreightRater$Reader" (ws_X3_readTest) 3 D A (zty T)) (E : GE T A s) (hr : meth.sig.returnType = (some (.object "FreightRater$Test"))) (P : Option Nat → HS → Prop) : ∀ (x0 : Nat) (p0 : Int32) (S0 S : HS) (mc ms : Nat) (L : List Nat), S0 = S → wt S → hL S L → (hK S x0 = 4) → wp_X3_readTest P x0 p0 S mc ms → GW p l e { rm_X3_readTest with cells := mc, slots := ms } s m args below meth c D A 3 mc ms (MQ below (va_Qq (fun v (u : HS × List Nat) => (P v u.1 ∧ ∀ b, v = some b → hK u.1 b = 9) ∧ CO S0 u) (CE D T A) A) args s mc ms A) (CW T S L) mc ms 0 [(0, .ref x0), (1, .int p0)] [] := by
  have hW : ∀ {w : Cond}, w ∈ W0 → w.before args s = true := fun h => C.2.2.2.2.1 _ (List.mem_cons_of_mem _ h)
  intro x0 p0 S0 S mc ms L hS0 hw hL hx0 h
  have he : ext S0 S := by rw [hS0]; exact ext_rf
  unfold wp_X3_readTest at h
  obtain ⟨g2, h⟩ := h
  refine gc_new (kd := 9) (N := 5) C E hw hL (Nat.le_refl _) (Nat.le_refl _) iwx_X8 tyX8 tyX8_ok (by decide) (by decide) rfl (fun j hj => by rcases (show j = 0 ∨ j = 1 ∨ j = 2 ∨ j = 3 ∨ j = 4 by omega) with rfl | rfl | rfl | rfl | rfl <;> rfl) (hW kw_772) (hW kw_773) (hW kw_28) g2.1 g2.2 dX3_readTest_0 (fun q1 h0q1 zq1 => ?_)
  replace h := h q1 h0q1 zq1
  have g3 := newO_old 9 hx0 (by decide) h0q1
  have w4 := wt_newO hw 9 h0q1 (by decide)
  have w5 := hL_new (S' := newO S q1 9) hL (show 9 ≠ 0 by decide) rfl
  have w6 := ext_newO he h0q1 9
  have g7 := newO_self S q1 9
  refine gc_nS (fun S8 eS8 => ?_)
  replace h := h S8 eS8
  have w9 : wt S8 := by rw [eS8]; exact w4
  have w10 : isL S8 (L ++ [q1]) := by rw [eS8]; exact w5
  have w11 : ext S0 S8 := by rw [eS8]; exact w6
  have g12 : hK S8 q1 = 9 := by rw [eS8]; exact g7
  have g13 : hK S8 x0 = 4 := by rw [eS8]; exact g3
  refine g_dup C dX3_readTest_3 rfl ?_
  refine g_iload_n C dX3_readTest_4 rfl 1 rfl ?_
  obtain ⟨g14, h⟩ := h
  refine gc_callvI (host := "") (ret := none) C E w9 w10 [.int p0] rfl (k_X8_init l D T q1 p0 S8 g12 g14) (w0_I 1 C.2.2.2.2.1 kw_774 kw_775 kw_28 kw_776 rfl rfl rfl (by decide +kernel) ⟨Nat.le_of_ble_eq_true rfl, Nat.le_of_ble_eq_true rfl⟩) rfl (Nat.le_of_ble_eq_true rfl) (Nat.le_refl _) (Nat.le_refl _) (Nat.zero_le _) (Nat.zero_le _) dX3_readTest_5 (fun S15 L16 e17 w18 w19 hp => ?_)
  replace h := h S15 e17 hp
  have g20 := ext_K e17 g12 (by decide)
  have g21 := ext_K e17 g13 (by decide)
  have w22 := ext_tr w11 e17
  refine g_astore_n (lv' := [(2, .ref q1), (0, .ref x0), (1, .int p0)]) C dX3_readTest_8 rfl (by decide) rfl ?_
  refine g_aload_n C dX3_readTest_9 rfl 0 rfl ?_
  refine g_aload_n C dX3_readTest_10 rfl 1 rfl ?_
  refine g_bipush (v := 45) C dX3_readTest_11 (by decide) ?_
  obtain ⟨m23, m24, m25, h⟩ := h
  obtain ⟨g26, h⟩ := h
  refine gc_calliV (host := "") C E w18 w19 g21 (by decide) (by decide) rfl [.int 45] rfl (k_X3_take l D T x0 45 S15 m23 m24 m25 g21 g26) (w0_V 1 C.2.2.2.2.1 kw_719 kw_721 ks_7 kw_19 kw_722 rfl rfl (by decide +kernel) ⟨Nat.le_of_ble_eq_true rfl, Nat.le_of_ble_eq_true rfl⟩) rfl (Nat.le_of_ble_eq_true rfl) (Nat.le_refl _) (Nat.le_refl _) (Nat.zero_le _) (Nat.zero_le _) dX3_readTest_13 (fun v32 S27 L28 e29 w30 w31 hp => ?_)
  replace h := h v32 S27 e29 hp
  have g33 := ext_K e29 g20 (by decide)
  have g34 := ext_K e29 g21 (by decide)
  have w35 := ext_tr w22 e29
  obtain ⟨g36, h⟩ := h
  refine gc_putI C iwx_X8 w31 g33 (by decide) (by decide) rfl 1 (by decide) (hW kw_781) rfl tyX8 tyX8_ok nmX8 rfl rfl rfl (vz_n g36) (vz_f g36) dX3_readTest_16 ?_
  have w37 := wt_putI w30 181 v32 (k_ne g33 (by decide))
  refine gc_nS (fun S38 eS38 => ?_)
  replace h := h S38 eS38
  have w39 : wt S38 := by rw [eS38]; exact w37
  have w40 : isL S38 L28 := by rw [eS38]; exact w31
  have w41 : ext S0 S38 := by rw [eS38]; exact w35
  have g42 : hK S38 q1 = 9 := by rw [eS38]; exact g33
  have g43 : hK S38 x0 = 4 := by rw [eS38]; exact g34
  refine g_aload_n C dX3_readTest_19 rfl 0 rfl ?_
  refine g_aload_n C dX3_readTest_20 rfl 1 rfl ?_
  refine gt_ldc C E.2.2.2.2.2.2.2.2.1 dX3_readTest_21 ?_
  obtain ⟨m44, m45, m46, h⟩ := h
  obtain ⟨g47, h⟩ := h
  refine gc_calliV (host := "") C E w39 w40 g43 (by decide) (by decide) rfl [.ref (T (100 + 1))] rfl (k_X3_takeOneOf l D T x0 1 S38 m44 m45 m46 g43 (show 1 < 3 by decide) g47) (w0_V 1 C.2.2.2.2.1 kw_594 kw_596 ks_3 kw_19 kw_597 rfl rfl (by decide +kernel) ⟨Nat.le_of_ble_eq_true rfl, Nat.le_of_ble_eq_true rfl⟩) rfl (Nat.le_of_ble_eq_true rfl) (Nat.le_refl _) (Nat.le_refl _) (Nat.zero_le _) (Nat.zero_le _) dX3_readTest_23 (fun v53 S48 L49 e50 w51 w52 hp => ?_)
  replace h := h v53 S48 e50 hp
  have g54 := ext_K e50 g42 (by decide)
  have g55 := ext_K e50 g43 (by decide)
  have w56 := ext_tr w41 e50
  obtain ⟨g57, h⟩ := h
  refine gc_putI C iwx_X8 w52 g54 (by decide) (by decide) rfl 2 (by decide) (hW kw_783) rfl tyX8 tyX8_ok nmX8 rfl rfl rfl g57.1 (vc_f g57) dX3_readTest_26 ?_
  have w58 := wt_putI w51 182 v53 (k_ne g54 (by decide))
  refine gc_nS (fun S59 eS59 => ?_)
  replace h := h S59 eS59
  have w60 : wt S59 := by rw [eS59]; exact w58
  have w61 : isL S59 L49 := by rw [eS59]; exact w52
  have w62 : ext S0 S59 := by rw [eS59]; exact w56
  have g63 : hK S59 q1 = 9 := by rw [eS59]; exact g54
  have g64 : hK S59 x0 = 4 := by rw [eS59]; exact g55
  refine g_aload_n C dX3_readTest_29 rfl 0 rfl ?_
  refine gc_getI C iwx_X8 w61 g63 (by decide) (by decide) rfl 2 (by decide) (hW kw_783) rfl rfl rfl dX3_readTest_30 ?_
  refine g_bipush (v := 104) C dX3_readTest_33 (by decide) ?_
  refine g_icmp_ne (tgt := 53) C dX3_readTest_35 (by decide) (fun z65 => ?_) (fun z65 => ?_)
  · replace h := h.1 z65
    refine g_aload_n C dX3_readTest_53 rfl 0 rfl ?_
    refine g_aload_n C dX3_readTest_54 rfl 1 rfl ?_
    refine gt_ldc C E.2.2.2.2.2.2.2.2.2.1 dX3_readTest_55 ?_
    obtain ⟨m66, m67, m68, h⟩ := h
    obtain ⟨g69, h⟩ := h
    refine gc_calliV (host := "") C E w60 w61 g64 (by decide) (by decide) rfl [.ref (T (100 + 2))] rfl (k_X3_takeOneOf l D T x0 2 S59 m66 m67 m68 g64 (show 2 < 3 by decide) g69) (w0_V 1 C.2.2.2.2.1 kw_594 kw_596 ks_3 kw_19 kw_597 rfl rfl (by decide +kernel) ⟨Nat.le_of_ble_eq_true rfl, Nat.le_of_ble_eq_true rfl⟩) rfl (Nat.le_of_ble_eq_true rfl) (Nat.le_refl _) (Nat.le_refl _) (Nat.zero_le _) (Nat.zero_le _) dX3_readTest_57 (fun v75 S70 L71 e72 w73 w74 hp => ?_)
    replace h := h v75 S70 e72 hp
    have g76 := ext_K e72 g63 (by decide)
    have g77 := ext_K e72 g64 (by decide)
    have w78 := ext_tr w62 e72
    obtain ⟨g79, h⟩ := h
    refine gc_putI C iwx_X8 w74 g76 (by decide) (by decide) rfl 3 (by decide) (hW kw_785) rfl tyX8 tyX8_ok nmX8 rfl rfl rfl g79.1 (vc_f g79) dX3_readTest_60 ?_
    have w80 := wt_putI w73 183 v75 (k_ne g76 (by decide))
    refine gc_nS (fun S81 eS81 => ?_)
    replace h := h S81 eS81
    have w82 : wt S81 := by rw [eS81]; exact w80
    have w83 : isL S81 L71 := by rw [eS81]; exact w74
    have w84 : ext S0 S81 := by rw [eS81]; exact w78
    have g85 : hK S81 q1 = 9 := by rw [eS81]; exact g76
    have g86 : hK S81 x0 = 4 := by rw [eS81]; exact g77
    refine g_aload_n C dX3_readTest_63 rfl 0 rfl ?_
    refine g_aload_n C dX3_readTest_64 rfl 1 rfl ?_
    obtain ⟨m87, m88, m89, h⟩ := h
    obtain ⟨g90, h⟩ := h
    refine gc_calliV (host := "") C E w82 w83 g86 (by decide) (by decide) rfl [] rfl (k_X3_readNumber l D T x0 S81 m87 m88 m89 g86 g90) (w0_V 0 C.2.2.2.2.1 kw_723 kw_725 ks_8 kw_19 kw_726 rfl rfl (by decide +kernel) ⟨Nat.le_of_ble_eq_true rfl, Nat.le_of_ble_eq_true rfl⟩) rfl (Nat.le_of_ble_eq_true rfl) (Nat.le_refl _) (Nat.le_refl _) (Nat.zero_le _) (Nat.zero_le _) dX3_readTest_65 (fun v96 S91 L92 e93 w94 w95 hp => ?_)
    replace h := h v96 S91 e93 hp
    have g97 := ext_K e93 g85 (by decide)
    have g98 := ext_K e93 g86 (by decide)
    have w99 := ext_tr w84 e93
    refine gc_putI C iwx_X8 w95 g97 (by decide) (by decide) rfl 4 (by decide) (hW kw_787) rfl tyX8 tyX8_ok nmX8 rfl rfl rfl rfl rfl dX3_readTest_68 ?_
    have w100 := wt_putI w94 184 v96 (k_ne g97 (by decide))
    refine gc_nS (fun S101 eS101 => ?_)
    replace h := h S101 eS101
    have w102 : wt S101 := by rw [eS101]; exact w100
    have w103 : isL S101 L92 := by rw [eS101]; exact w95
    have w104 : ext S0 S101 := by rw [eS101]; exact w99
    have g105 : hK S101 q1 = 9 := by rw [eS101]; exact g97
    have g106 : hK S101 x0 = 4 := by rw [eS101]; exact g98
    refine g_aload_n C dX3_readTest_71 rfl 0 rfl ?_
    exact gc_aret (v := (some q1)) (kd := 9) C (Or.inl ⟨_, rfl⟩) (fun b hb => by cases hb; exact g105) w102 w103 w104 hr dX3_readTest_72 h
  · replace h := h.2 z65
    refine g_aload_n C dX3_readTest_38 rfl 0 rfl ?_
    refine g_aload_n C dX3_readTest_39 rfl 1 rfl ?_
    refine g_bipush (v := 48) C dX3_readTest_40 (by decide) ?_
    refine g_bipush (v := 55) C dX3_readTest_42 (by decide) ?_
    obtain ⟨m107, m108, m109, m110, m111, h⟩ := h
    obtain ⟨g112, h⟩ := h
    refine gc_calliV (host := "") C E w60 w61 g64 (by decide) (by decide) rfl [.int 48, .int 55] rfl (k_X3_readDigit l D T x0 48 55 S59 m107 m108 m109 m110 m111 g64 g112) (w0_V 2 C.2.2.2.2.1 kw_711 kw_713 ks_5 kw_19 kw_714 rfl rfl (by decide +kernel) ⟨Nat.le_of_ble_eq_true rfl, Nat.le_of_ble_eq_true rfl⟩) rfl (Nat.le_of_ble_eq_true rfl) (Nat.le_refl _) (Nat.le_refl _) (Nat.zero_le _) (Nat.zero_le _) dX3_readTest_44 (fun v118 S113 L114 e115 w116 w117 hp => ?_)
    replace h := h v118 S113 e115 hp
    have g119 := ext_K e115 g63 (by decide)
    have g120 := ext_K e115 g64 (by decide)
    have w121 := ext_tr w62 e115
    refine gc_putI C iwx_X8 w117 g119 (by decide) (by decide) rfl 4 (by decide) (hW kw_787) rfl tyX8 tyX8_ok nmX8 rfl rfl rfl rfl rfl dX3_readTest_47 ?_
    have w122 := wt_putI w116 184 v118 (k_ne g119 (by decide))
    refine gc_nS (fun S123 eS123 => ?_)
    replace h := h S123 eS123
    have w124 : wt S123 := by rw [eS123]; exact w122
    have w125 : isL S123 L114 := by rw [eS123]; exact w117
    have w126 : ext S0 S123 := by rw [eS123]; exact w121
    have g127 : hK S123 q1 = 9 := by rw [eS123]; exact g119
    have g128 : hK S123 x0 = 4 := by rw [eS123]; exact g120
    refine g_goto (tgt := 71) C dX3_readTest_50 (by decide) ?_
    refine g_aload_n C dX3_readTest_71 rfl 0 rfl ?_
    exact gc_aret (v := (some q1)) (kd := 9) C (Or.inl ⟨_, rfl⟩) (fun b hb => by cases hb; exact g127) w124 w125 w126 hr dX3_readTest_72 h
theorem c_X3_readTest (l : Launch) (D : va_G) (T : Nat → ClassId) (x0 : Nat) (p0 : Int32) (S : HS) (mc ms : Nat) (hx0 : hK S x0 = 4) (P : Option Nat → HS → Prop) (h : wp_X3_readTest P x0 p0 S mc ms) : CMq l yX3_readTest (ws_X3_readTest) rm_X3_readTest D T [.ref x0, .int p0] S mc ms 9 P := gc_metq (by decide) rfl rfl (Nat.le_of_ble_eq_true rfl) (fun p e s m args below meth c A L C E hnm hr hw hL => t_X3_readTest C E   hr P x0 p0 S S mc ms L rfl hw hL hx0 h)
/-- a test's object against what has been read -/
def RelX (S : HS) (M : Nat → Prop) (q : Nat) (op : Prop) (t : TS) : Prop := hK S q = 9 ∧ ¬ M q ∧ (op → hI S 180 q = 1) ∧ (¬ op → hI S 180 q = 0) ∧ hI S 181 q = b2i t.1 ∧ hI S 182 q = letF t.2.1 ∧ (¬ t.2.1 = 0 → hI S 183 q = (if t.2.2.1 = 0 then 60 else if t.2.2.1 = 1 then 62 else 61)) ∧ hI S 184 q = t.2.2.2
theorem RelX.rel {S : HS} {M : Nat → Prop} {q row : Nat} {op : Prop} {t : TS} (h : RelX S M q op t) (hw : tsW t) (hr : row ≤ 30) : RelT S M q (iv (tsE (nI row) t)) op := by
  obtain ⟨kd, by_, v, e1, e2, e3, hk, hb, hv⟩ := hw
  obtain ⟨h1, h2, h3, h4, h5, h6, h7, h8⟩ := h
  obtain ⟨mi, em, hm⟩ : ∃ mi : Nat, (if t.1 = true then 1 else 0) = mi ∧ mi ≤ 1 := ⟨_, rfl, by split <;> omega⟩
  have eN : iv (tsE (nI row) t) = ((((row * 2 + mi) * 5 + kd) * 3) + by_) * 10000 + v := by
    rw [tsE_n e1 e2 e3 hk hb hv hr, em]
    exact nI_clamp (by omega)
  have a1 : iv (tsE (nI row) t) / 150000 % 2 = mi := by rw [eN]; omega
  have a2 : iv (tsE (nI row) t) / 30000 % 5 = kd := by rw [eN]; omega
  have a3 : iv (tsE (nI row) t) / 10000 % 3 = by_ := by rw [eN]; omega
  have a4 : iv (tsE (nI row) t) % 10000 = v := by rw [eN]; omega
  refine ⟨h1, h2, h3, h4, ?_, ?_, fun hk0 => ?_, ?_⟩
  · rw [h5, a1, ← em]
    cases t.1 <;> rfl
  · rw [h6, a2, e1]
  · rw [a2] at hk0
    rw [h7 (by rw [e1]; exact fun z => by have := (nI_eq (b := 0) (by omega) (by decide)).mp z; omega), a3, e2]
    by_cases c0 : by_ = 0
    · rw [c0]; rfl
    · by_cases c1 : by_ = 1
      · rw [c1]; rfl
      · rw [if_neg c0, if_neg c1, if_neg (show ¬ nI by_ = (0 : Int32) from fun z => c0 ((nI_eq (b := 0) (by omega) (by decide)).mp z)), if_neg (show ¬ nI by_ = (1 : Int32) from fun z => c1 ((nI_eq (b := 1) (by omega) (by decide)).mp z))]
  · rw [h8, a4, e3]
theorem k_X3_readTest (l : Launch) (D : va_G) (T : Nat → ClassId) (x0 : Nat) (p0 : Int32) (S : HS) (e0 : Nat → Int32) (e1 : Nat) (e2 : PS) (e3 : (Nat → Prop)) (mc ms : Nat) (hx0 : hK S x0 = 4) (h : RdO S x0 e0 e1 e2 ∧ chO e0 e1 ∧ vz p0 ∧ (∀ b, e3 b → hK S b ≠ 0) ∧ 1 ≤ mc ∧ 5 ≤ ms) : CMq l yX3_readTest (ws_X3_readTest) rm_X3_readTest D T [.ref x0, .int p0] S mc ms 9 (fun v S1 => (frM S S1 (fun b => b = x0) ∧ RdO S1 x0 e0 e1 (tsR e0 e1 e2).2 ∧ ∃ y, v = some y ∧ hK S y = 0 ∧ ((tsR e0 e1 e2).2.2 = false → RelX S1 e3 y (p0 = 1) (tsR e0 e1 e2).1))) := c_X3_readTest l D T x0 p0 S mc ms hx0 _ <|
  (by
    obtain ⟨h, hch, hz, hM, hmc, hms⟩ := h
    unfold wp_X3_readTest
    refine ⟨⟨hmc, hms⟩, fun q q0 qz S8 e8 => ⟨hz, fun S15 _ e15 => ?_⟩⟩
    have hqx : q ≠ x0 := fun z => by rw [z, hx0] at q0; exact absurd q0 (by decide)
    have kq8 : hK S8 q = 9 := by rw [e8, px_KO, if_pos rfl]
    have kx8 : hK S8 x0 = 4 := by rw [e8, px_KO, if_neg (Ne.symm hqx)]; exact hx0
    have f8 : frM S S8 (fun b => b = x0) := by rw [e8]; exact frM.nO frM.rf ext_rf q0 9
    have R8 : RdO S8 x0 e0 e1 e2 := h.fm (N := fun _ => False) (by rw [e8]; exact frM.nO frM.rf ext_rf q0 9) hx0 (fun z => z) (fun _ _ z => z)
    have R15 : RdO S15 x0 e0 e1 e2 := R8.pI kx8 (by rw [kq8]; decide) (by rw [kq8]; decide) e15
    have k15 : hK S15 = hK S8 := by rw [e15, px_KI]
    have i15 : hI S15 180 q = p0 := by rw [e15, putI_s]
    have x8 : ext S S8 := by rw [e8]; exact ext_newO ext_rf q0 9
    have nq : ∀ b, hK S b ≠ 0 → b ≠ q := fun b hb z => hb (by rw [z]; exact q0)
    have fq : ∀ {S' S'' : HS} {i : Nat} {v : Int32}, frM S S' (fun b => b = x0) → S'' = putI S' i q v → frM S S'' (fun b => b = x0) := fun {_ _ _ _} hf e => by
      rw [e]
      exact hf.nw (frM.pI (M := fun b => b = q) frM.rf rfl _ _) (fun b hb z => absurd z (nq b hb))
    have f15 : frM S S15 (fun b => b = x0) := fq f8 e15
    refine ⟨e0, e1, e2, ⟨R15, by decide⟩, fun v32 S27 _ h27 => ?_⟩
    obtain ⟨ev, c27, R27⟩ := h27
    have f27 : frM S S27 (fun b => b = x0) := f15.nw c27.fm (fun _ _ z => z)
    refine ⟨by rw [ev]; exact b2i_vz _, fun S38 e38 => ?_⟩
    have k27 : hK S27 = hK S8 := c27.1.trans k15
    have R38 := R27.pI (by rw [k27]; exact kx8) (by rw [k27, kq8]; decide) (by rw [k27, kq8]; decide) e38
    have k38 : hK S38 = hK S8 := by rw [e38, px_KI]; exact k27
    have f38 : frM S S38 (fun b => b = x0) := fq f27 e38
    have q27 : ∀ i, hI S27 i q = hI S15 i q := fun i => c27.2.2.2.2.2 i q (Or.inl hqx)
    have i38 : hI S38 180 q = p0 ∧ hI S38 181 q = b2i (tkB e0 e1 e2 45) := ⟨by rw [e38, px_II, if_neg (fun z => absurd z.1 (by decide)), q27]; exact i15, by rw [e38, putI_s, ev]⟩
    refine ⟨e0, e1, tkS e0 e1 e2 45, ⟨R38, hch⟩, fun v49 S44 _ h44 => ?_⟩
    obtain ⟨ev4, c44, R44⟩ := h44
    have f44 : frM S S44 (fun b => b = x0) := f38.nw c44.fm (fun _ _ z => z)
    have k44 : hK S44 = hK S8 := c44.1.trans k38
    have q44 : ∀ i, hI S44 i q = hI S38 i q := fun i => c44.2.2.2.2.2 i q (Or.inl hqx)
    have vch : ∀ (σ : PS) (i : Nat), vc (if toB e0 e1 σ i = true then e0 σ.1 else 0) := fun σ i => by
      by_cases c : toB e0 e1 σ i = true
      · rw [if_pos c]; exact (hch _ (toB_in c).2.1).1
      · rw [if_neg c]; exact vc_n (n := 0) (by decide)
    refine ⟨by rw [ev4]; exact vch _ _, fun S55 e55 => ?_⟩
    have R55 := R44.pI (by rw [k44]; exact kx8) (by rw [k44, kq8]; decide) (by rw [k44, kq8]; decide) e55
    have k55 : hK S55 = hK S8 := by rw [e55, px_KI]; exact k44
    have f55 : frM S S55 (fun b => b = x0) := fq f44 e55
    have i55 : hI S55 182 q = v49 := by rw [e55, putI_s]
    have j55 : hI S55 180 q = p0 ∧ hI S55 181 q = b2i (tkB e0 e1 e2 45) := by
      rw [e55, px_II, if_neg (fun z => absurd z.1 (by decide)), px_II, if_neg (fun z => absurd z.1 (by decide)), q44, q44]
      exact i38
    have hMq : ¬ e3 q := fun z => hM q z q0
    -- the end of every way
    have fin : ∀ (S9 : HS) (t : TS) (τ : PS), tsR e0 e1 e2 = (t, τ) → frM S S9 (fun b => b = x0) → hK S9 = hK S8 → RdO S9 x0 e0 e1 τ → (τ.2 = false → (p0 = 1 → hI S9 180 q = 1) ∧ (¬ p0 = 1 → hI S9 180 q = 0) ∧ hI S9 181 q = b2i t.1 ∧ hI S9 182 q = letF t.2.1 ∧ (¬ t.2.1 = 0 → hI S9 183 q = (if t.2.2.1 = 0 then 60 else if t.2.2.1 = 1 then 62 else 61)) ∧ hI S9 184 q = t.2.2.2) → frM S S9 (fun b => b = x0) ∧ RdO S9 x0 e0 e1 (tsR e0 e1 e2).2 ∧ ∃ y, some q = some y ∧ hK S y = 0 ∧ ((tsR e0 e1 e2).2.2 = false → RelX S9 e3 y (p0 = 1) (tsR e0 e1 e2).1) := fun S9 t τ eT f9 k9 R9 h9 => by
      rw [eT]
      refine ⟨f9, R9, q, rfl, q0, fun hf => ?_⟩
      obtain ⟨a1, a2, a3, a4, a5, a6⟩ := h9 hf
      exact ⟨by rw [k9]; exact kq8, hMq, a1, a2, a3, a4, a5, a6⟩
    have p01 : (p0 = 1 → p0 = 1) ∧ (¬ p0 = 1 → p0 = 0) := ⟨id, fun z => hz.resolve_right z⟩
    have kf := toB_k (b := e0) (n := e1) (σ := tkS e0 e1 e2 45)
    by_cases hB : toB e0 e1 (tkS e0 e1 e2 45) 1 = true
    · obtain ⟨s2, sl, sgv⟩ := toB_in hB
      rw [hB, s2, Bool.not_false, Bool.true_and] at kf
      have hk0 : 0 ≤ kindF (sg e0 e1 (tkS e0 e1 e2 45)) := of_decide_eq_true kf.symm
      rw [if_pos hB] at ev4
      have eS : toS e0 e1 (tkS e0 e1 e2 45) 1 = ((tkS e0 e1 e2 45).1 + 1, (tkS e0 e1 e2 45).2) := by unfold toS; rw [if_pos hB]
      rw [eS] at R55
      have elet : letF (kindF (sg e0 e1 (tkS e0 e1 e2 45))) = v49 := by rw [let_kind hk0, sgv, ev4]
      have hkd : (if (tkS e0 e1 e2 45).2 = true then (-1 : Int32) else kindF (sg e0 e1 (tkS e0 e1 e2 45))) = kindF (sg e0 e1 (tkS e0 e1 e2 45)) := by rw [s2]; rfl
      rw [i55]
      refine ⟨fun c => ?_, fun c => ?_⟩
      · have hkn : ¬ kindF (sg e0 e1 (tkS e0 e1 e2 45)) = 0 := fun z => c (by rw [← elet, z]; rfl)
        refine ⟨e0, e1, _, ⟨R55, hch⟩, fun v67 S62 _ h62 => ?_⟩
        obtain ⟨ev6, c62, R62⟩ := h62
        refine ⟨by rw [ev6]; exact vch _ _, fun S73 e73 => ?_⟩
        have k62 : hK S62 = hK S8 := c62.1.trans k55
        have q62 : ∀ i, hI S62 i q = hI S55 i q := fun i => c62.2.2.2.2.2 i q (Or.inl hqx)
        have R73 := R62.pI (by rw [k62]; exact kx8) (by rw [k62, kq8]; decide) (by rw [k62, kq8]; decide) e73
        have k73 : hK S73 = hK S8 := by rw [e73, px_KI]; exact k62
        have f73 : frM S S73 (fun b => b = x0) := fq (f55.nw c62.fm (fun _ _ z => z)) e73
        refine ⟨e0, e1, _, R73, fun v88 S83 _ h83 S93 e93 => ?_⟩
        obtain ⟨ev8, c83, R83⟩ := h83
        have k83 : hK S83 = hK S8 := c83.1.trans k73
        have q83 : ∀ i, hI S83 i q = hI S73 i q := fun i => c83.2.2.2.2.2 i q (Or.inl hqx)
        have R93 := R83.pI (by rw [k83]; exact kx8) (by rw [k83, kq8]; decide) (by rw [k83, kq8]; decide) e93
        have k93 : hK S93 = hK S8 := by rw [e93, px_KI]; exact k83
        have f93 : frM S S93 (fun b => b = x0) := fq (f73.nw c83.fm (fun _ _ z => z)) e93
        have kc9 := toB_c (b := e0) (n := e1) (σ := ((tkS e0 e1 e2 45).1 + 1, (tkS e0 e1 e2 45).2))
        have old : ∀ i, i ≠ 184 → i ≠ 183 → hI S93 i q = hI S55 i q := fun i h4 h3 => by
          rw [e93, px_II, if_neg (fun z => h4 z.1), q83, e73, px_II, if_neg (fun z => h3 z.1), q62]
        by_cases hC : toB e0 e1 ((tkS e0 e1 e2 45).1 + 1, (tkS e0 e1 e2 45).2) 2 = true
        · obtain ⟨_, tl, tv⟩ := toB_in hC
          rw [hC, s2, Bool.not_false, Bool.true_and] at kc9
          have hc0 : 0 ≤ compF (sg e0 e1 ((tkS e0 e1 e2 45).1 + 1, false)) := of_decide_eq_true kc9.symm
          rw [if_pos hC] at ev6
          have eS2 : toS e0 e1 ((tkS e0 e1 e2 45).1 + 1, (tkS e0 e1 e2 45).2) 2 = ((tkS e0 e1 e2 45).1 + 2, (tkS e0 e1 e2 45).2) := by unfold toS; rw [if_pos hC]
          rw [eS2] at R93 ev8
          have hT : tsR e0 e1 e2 = ((tkB e0 e1 e2 45, kindF (sg e0 e1 (tkS e0 e1 e2 45)), compF (sg e0 e1 ((tkS e0 e1 e2 45).1 + 1, false)), (nbF e0 e1 ((tkS e0 e1 e2 45).1 + 2, false)).1), (nbF e0 e1 ((tkS e0 e1 e2 45).1 + 2, false)).2) := by
            unfold tsR
            dsimp only
            rw [hkd, if_pos hk0, if_neg hkn, s2, if_pos hc0]
          refine fin S93 _ _ hT f93 k93 (by rw [s2] at R93; exact R93) (fun _ => ⟨fun z => by rw [old _ (by decide) (by decide), j55.1]; exact z, fun z => by rw [old _ (by decide) (by decide), j55.1]; exact p01.2 z, by rw [old _ (by decide) (by decide)]; exact j55.2, by rw [old _ (by decide) (by decide), i55]; exact elet.symm, fun _ => ?_, by rw [e93, putI_s, ev8, s2]⟩)
          have i73 : hI S93 183 q = v67 := by rw [e93, px_II, if_neg (fun z => absurd z.1 (by decide)), q83, e73, putI_s]
          rw [s2] at tv
          rw [i73, ev6]
          rw [show e0 ((tkS e0 e1 e2 45).1 + 1) = sg e0 e1 ((tkS e0 e1 e2 45).1 + 1, false) from tv.symm]
          revert hc0
          generalize sg e0 e1 ((tkS e0 e1 e2 45).1 + 1, false) = c9
          intro hc0
          unfold compF at hc0 ⊢
          by_cases c60 : c9 = 60
          · subst c60; rfl
          by_cases c62' : c9 = 62
          · subst c62'; rfl
          by_cases c61 : c9 = 61
          · subst c61; rfl
          rw [if_neg c60, if_neg c62', if_neg c61] at hc0
          exact absurd hc0 (by decide)
        · have eS2 : toS e0 e1 ((tkS e0 e1 e2 45).1 + 1, (tkS e0 e1 e2 45).2) 2 = ((tkS e0 e1 e2 45).1 + 1, true) := by unfold toS; rw [if_neg hC]
          rw [eS2, nbF_bad] at R93
          have hcn : ¬ 0 ≤ compF (sg e0 e1 ((tkS e0 e1 e2 45).1 + 1, (tkS e0 e1 e2 45).2)) := fun z => by
            rw [s2] at z
            rw [s2, Bool.not_false, Bool.true_and, decide_eq_true z] at kc9
            exact hC (by rw [s2]; exact kc9)
          have hT : tsR e0 e1 e2 = ((tkB e0 e1 e2 45, kindF (sg e0 e1 (tkS e0 e1 e2 45)), 0, (0 : Int32)), ((tkS e0 e1 e2 45).1 + 1, true)) := by
            unfold tsR
            dsimp only
            rw [hkd, if_pos hk0, if_neg hkn, if_neg hcn, nbF_bad]
          exact fin S93 _ _ hT f93 k93 R93 (fun z => by cases z)
      · have hk1 : kindF (sg e0 e1 (tkS e0 e1 e2 45)) = 0 := by rw [sgv, ← ev4, c]; rfl
        refine ⟨e0, e1, _, 0, 7, ⟨R55, rfl, rfl, 0, 7, by decide, by decide, rfl, rfl⟩, fun v110 S105 _ h105 S115 e115 => ?_⟩
        obtain ⟨ev1, c105, R105⟩ := h105
        have k105 : hK S105 = hK S8 := c105.1.trans k55
        have q105 : ∀ i, hI S105 i q = hI S55 i q := fun i => c105.2.2.2.2.2 i q (Or.inl hqx)
        have R115 := R105.pI (by rw [k105]; exact kx8) (by rw [k105, kq8]; decide) (by rw [k105, kq8]; decide) e115
        have k115 : hK S115 = hK S8 := by rw [e115, px_KI]; exact k105
        have f115 : frM S S115 (fun b => b = x0) := fq (f55.nw c105.fm (fun _ _ z => z)) e115
        have old : ∀ i, i ≠ 184 → hI S115 i q = hI S55 i q := fun i h4 => by
          rw [e115, px_II, if_neg (fun z => h4 z.1), q105]
        have hT : tsR e0 e1 e2 = ((tkB e0 e1 e2 45, kindF (sg e0 e1 (tkS e0 e1 e2 45)), 2, dgV e0 e1 ((tkS e0 e1 e2 45).1 + 1, (tkS e0 e1 e2 45).2) 0 7), dgS e0 e1 ((tkS e0 e1 e2 45).1 + 1, (tkS e0 e1 e2 45).2) 0 7) := by
          unfold tsR
          dsimp only
          rw [hkd, if_pos hk0, if_pos hk1]
        refine fin S115 _ _ hT f115 k115 R115 (fun _ => ⟨fun z => by rw [old _ (by decide), j55.1]; exact z, fun z => by rw [old _ (by decide), j55.1]; exact p01.2 z, by rw [old _ (by decide)]; exact j55.2, by rw [old _ (by decide), i55, ← elet], fun z => absurd hk1 z, by rw [e115, putI_s, ev1]⟩)
    · have eS : toS e0 e1 (tkS e0 e1 e2 45) 1 = ((tkS e0 e1 e2 45).1, true) := by unfold toS; rw [if_neg hB]
      rw [eS] at R55
      rw [if_neg hB] at ev4
      have hT : tsR e0 e1 e2 = ((tkB e0 e1 e2 45, 0, 0, 0), ((tkS e0 e1 e2 45).1, true)) := by
        unfold tsR
        dsimp only
        rw [if_neg]
        intro z
        cases hs : (tkS e0 e1 e2 45).2 with
        | true => rw [hs, if_pos rfl] at z; exact absurd z (by decide)
        | false =>
          rw [hs, if_neg (by decide)] at z
          rw [hs, Bool.not_false, Bool.true_and, decide_eq_true z] at kf
          exact hB kf
      rw [i55, ev4]
      refine ⟨fun _ => ?_, fun z => absurd z (by decide)⟩
      refine ⟨e0, e1, _, ⟨R55, hch⟩, fun v67 S62 _ h62 => ?_⟩
      obtain ⟨ev6, c62, R62⟩ := h62
      refine ⟨by rw [ev6]; exact vch _ _, fun S73 e73 => ?_⟩
      have k62 : hK S62 = hK S8 := c62.1.trans k55
      have R73 := R62.pI (by rw [k62]; exact kx8) (by rw [k62, kq8]; decide) (by rw [k62, kq8]; decide) e73
      have k73 : hK S73 = hK S8 := by rw [e73, px_KI]; exact k62
      have f73 : frM S S73 (fun b => b = x0) := fq (f55.nw c62.fm (fun _ _ z => z)) e73
      refine ⟨e0, e1, _, R73, fun v88 S83 _ h83 S93 e93 => ?_⟩
      obtain ⟨_, c83, R83⟩ := h83
      have k83 : hK S83 = hK S8 := c83.1.trans k73
      have R93 := R83.pI (by rw [k83]; exact kx8) (by rw [k83, kq8]; decide) (by rw [k83, kq8]; decide) e93
      have k93 : hK S93 = hK S8 := by rw [e93, px_KI]; exact k83
      have f93 : frM S S93 (fun b => b = x0) := fq (f73.nw c83.fm (fun _ _ z => z)) e93
      have eS3 : toS e0 e1 ((tkS e0 e1 e2 45).1, true) 2 = ((tkS e0 e1 e2 45).1, true) := by unfold toS toB; rfl
      rw [eS3, nbF_bad] at R93
      exact fin S93 _ _ hT f93 k93 R93 (fun z => by cases z))

end S_C6E
