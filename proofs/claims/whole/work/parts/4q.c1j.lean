section S_C1J
abbrev ws_X2_work : List Cond := Cond.code yX2_work cX2_work 5 none :: W0
abbrev rm_X2_work : Room := ({ frames := 15, cells := 0, slots := 0, locals := 469 } : Room)
def wp_X2_work (P : HS → Prop) (x0 : Nat) (p0 : Nat) (p1 : Int32) (S : HS) : Prop := ∃ (m1 : (Nat → Prop)) (m2 : Nat → Int32), ((WF m2 ∧ RelSt S m1 p0 m2 ∧ RtO S m1 x0 p0 ∧ gix p1) ∧ (∀ (S4 : HS), ext S S4 → (frR S S4 x0 ∧ RtM S4 m1 x0 m2 (memL (iv p1) (iv (m2 1)) 0)) → (∀ S13 : HS, S13 = putI S4 63 x0 0 → (∀ S20 : HS, S20 = putI S13 64 x0 0 → (((hI S20 60 x0) = 0 → (P S20)) ∧ (¬ (hI S20 60 x0) = 0 → (∃ (m27 : (Nat → Prop)) (m28 : Nat → Int32) (m29 : List Nat) (m30 : Nat), ((WF m28 ∧ RtM S20 m27 x0 m28 m29 ∧ (∀ b, hR S20 62 x0 = some b → m27 b) ∧ 0 < m29.length ∧ gl m29 0 = lowN m30) ∧ (∀ (v37 : Int32) (S32 : HS), ext S20 S32 → (c3 S20 S32 x0 [63, 64] ∧ (∀ s, fiX m28 0 1 m30 m29 m29.length 0 = some s → v37 = 1 ∧ hI S32 63 x0 = 1 ∧ hI S32 64 x0 = nI s) ∧ (fiX m28 0 1 m30 m29 m29.length 0 = none → (∀ s, fiX m28 0 2 m30 m29 m29.length 0 = some s → v37 = 1 ∧ hI S32 63 x0 = 2 ∧ hI S32 64 x0 = nI s) ∧ (fiX m28 0 2 m30 m29 m29.length 0 = none → v37 = 0 ∧ S32 = S20))) → ((¬ v37 = 0 → (P S32)) ∧ (v37 = 0 → (∃ (m42 : (Nat → Prop)) (m43 : Nat → Int32) (m44 : List Nat) (m45 : Nat), ((WF m43 ∧ RtM S32 m42 x0 m43 m44 ∧ (∀ b, hR S32 62 x0 = some b → m42 b) ∧ 0 < m44.length ∧ gl m44 0 = lowN m45 ∧ RelSt S32 m42 p0 m43) ∧ (∀ (v52 : Int32) (S47 : HS), ext S32 S47 → (c3 S32 S47 x0 [63, 64, 65] ∧ hI S47 65 x0 = gvF m43 m45 ∧ (gvF m43 m45 < 0 → v52 = 1 ∧ hI S47 63 x0 = 3 ∧ hI S47 64 x0 = dayF m43 m45) ∧ (¬ gvF m43 m45 < 0 → v52 = 0 ∧ hI S47 63 x0 = hI S32 63 x0 ∧ hI S47 64 x0 = hI S32 64 x0)) → ((v52 = 0 → (∃ (m57 : (Nat → Prop)) (m58 : Nat → Int32), ((WF m58 ∧ RelSt S47 m57 p0 m58) ∧ (∀ (o65 : Option Nat) (S60 : HS), ext S47 S60 → (∀ b, o65 = some b → hK S60 b = 10) → (S60 = S47 ∧ (zin (hI S47 65 x0) 0 (m58 0 - 1) = 0 → o65 = none) ∧ (¬ zin (hI S47 65 x0) 0 (m58 0 - 1) = 0 → ∃ y, o65 = some y ∧ RelV S47 m57 y m58 (iv (hI S47 65 x0)))) → ((o65 = none → (P S60)) ∧ (∀ b69 : Nat, o65 = some b69 → hK S60 b69 = 10 → (∃ (m71 : (Nat → Prop)) (m72 : Nat → Int32) (m73 : List Nat) (m74 : Nat) (m75 : Nat), ((WF m72 ∧ RtM S60 m71 x0 m72 m73 ∧ (∀ b, hR S60 62 x0 = some b → m71 b) ∧ 0 < m73.length ∧ gl m73 0 = lowN m74 ∧ m75 < 6 ∧ RelV S60 m71 b69 m72 m75 ∧ ∀ b, hR S60 61 x0 = some b → m71 b) ∧ (∀ (v82 : Int32) (S77 : HS), ext S60 S77 → (c3 S60 S77 x0 [63, 64, 66] ∧ (∀ s, fiX m72 m75 4 m74 m73 m73.length 0 = some s → v82 = 1 ∧ hI S77 63 x0 = 4 ∧ hI S77 64 x0 = nI s) ∧ (fiX m72 m75 4 m74 m73 m73.length 0 = none → hI S77 66 x0 = zIn m72 m75 (m72 (14 + 26 * lowN m74 + 0)) ∧ (∀ s, fiX m72 m75 5 m74 m73 m73.length 0 = some s → v82 = 1 ∧ hI S77 63 x0 = 5 ∧ hI S77 64 x0 = nI s) ∧ (fiX m72 m75 5 m74 m73 m73.length 0 = none → v82 = 0 ∧ hI S77 63 x0 = hI S60 63 x0 ∧ hI S77 64 x0 = hI S60 64 x0))) → ((v82 = 0 → (∃ (m88 : (Nat → Prop)) (m89 : Nat → Int32) (m90 : List Nat) (m91 : Nat) (m92 : Nat), ((WF m89 ∧ RtM S77 m88 x0 m89 m90 ∧ (∀ b, hR S77 62 x0 = some b → m88 b) ∧ 0 < m90.length ∧ gl m90 0 = lowN m91 ∧ m92 < 6 ∧ RelV S77 m88 b69 m89 m92 ∧ (∃ d : Nat, 1000 ≤ d ∧ d ≤ 9999 ∧ m89 (274 + 510 * m92 + 146) = nI d) ∧ ∀ b, hR S77 61 x0 = some b → m88 b) ∧ (∀ (S94 : HS), ext S77 S94 → (c3 S77 S94 x0 [67, 68, 69, 70] ∧ hI S94 67 x0 = mxF (gwX m89 (m89 (274 + 510 * m92 + 146)) m90 m90.length 0 0 0 0 0 0).1 (gwX m89 (m89 (274 + 510 * m92 + 146)) m90 m90.length 0 0 0 0 0 0).2.1 ∧ hI S94 69 x0 = (gwX m89 (m89 (274 + 510 * m92 + 146)) m90 m90.length 0 0 0 0 0 0).2.2.1 ∧ hI S94 70 x0 = (gwX m89 (m89 (274 + 510 * m92 + 146)) m90 m90.length 0 0 0 0 0 0).2.2.2.1 ∧ hI S94 68 x0 = (gwX m89 (m89 (274 + 510 * m92 + 146)) m90 m90.length 0 0 0 0 0 0).2.2.2.2) → (∃ (m103 : (Nat → Prop)) (m104 : Nat → Int32) (m105 : Nat), ((WF m104 ∧ m105 < 6 ∧ RelV S94 m103 b69 m104 m105) ∧ (∀ (o112 : Option Nat) (S107 : HS), ext S94 S107 → (∀ b, o112 = some b → hK S107 b = 5) → (S107 = S94 ∧ (zin (hI S94 66 x0) 1 9 = 0 → o112 = none) ∧ (¬ zin (hI S94 66 x0) 1 9 = 0 → ∃ y, o112 = some y ∧ RelSc S94 m103 y m104 m105 (iv (hI S94 66 x0)) ∧ ∃ sc, hR S94 205 b69 = some sc ∧ hB S94 sc (iv (hI S94 66 x0) - 1) = some y)) → ((o112 = none → (P S107)) ∧ (∀ b117 : Nat, o112 = some b117 → hK S107 b117 = 5 → (∃ (m119 : Nat), ((m119 ≤ 10 ∧ hI S107 60 x0 = nI m119) ∧ (∀ (v126 : Int32) (S121 : HS), ext S107 S121 → (c3 S107 S121 x0 [63, 64] ∧ (hI S107 100 b117 = 0 → v126 = 1 ∧ hI S121 63 x0 = 6 ∧ hI S121 64 x0 = hI S107 66 x0) ∧ (¬ hI S107 100 b117 = 0 → (1 < m119 ∧ hI S107 209 b69 < hI S107 67 x0 → v126 = 1 ∧ hI S121 63 x0 = 7 ∧ hI S121 64 x0 = hI S107 67 x0) ∧ (¬ (1 < m119 ∧ hI S107 209 b69 < hI S107 67 x0) → v126 = 0 ∧ S121 = S107))) → ((¬ v126 = 0 → (P S121)) ∧ (v126 = 0 → (∃ (m133 : (Nat → Prop)) (m134 : Nat → Int32) (m135 : List Nat) (m136 : Nat), ((WF m134 ∧ RtM S121 m133 x0 m134 m135 ∧ (∀ b, hR S121 62 x0 = some b → m133 b) ∧ 0 < m135.length ∧ gl m135 0 = lowN m136 ∧ ∃ ns, m134 1 = nI ns ∧ ns ≤ 10 ∧ m136 < 1024 ∧ m135 = memL m136 ns 0) ∧ (∀ (v143 : Int32) (S138 : HS), ext S121 S138 → (c3 S121 S138 x0 [63, 64] ∧ (∀ s, fiX m134 0 8 m136 m135 m135.length 0 = some s → v143 = 1 ∧ hI S138 63 x0 = 8 ∧ hI S138 64 x0 = nI s) ∧ (fiX m134 0 8 m136 m135 m135.length 0 = none → v143 = 0 ∧ S138 = S121)) → ((v143 = 0 → (∃ (m150 : (Nat → Prop)) (m151 : Nat → Int32) (m152 : Nat) (m153 : Nat), ((WF m151 ∧ m152 < 6 ∧ 1 ≤ m153 ∧ m153 ≤ 9 ∧ RelSc S138 m150 b117 m151 m152 m153 ∧ ¬ m151 (274 + 510 * m152 + 38 + m153 - 1) = 0 ∧ (∀ b, hR S138 62 x0 = some b → m150 b)) ∧ (∀ (S155 : HS), ext S138 S155 → (c3 S138 S155 x0 [71, 72, 73] ∧ hI S155 71 x0 = baseF m151 m152 m153 (hI S138 67 x0) ∧ hI S155 73 x0 = m151 (274 + 510 * m152 + 47 + 10 * (m153 - 1) + 2 * chpF m151 m152 m153 (hI S138 67 x0)) ∧ hI S155 72 x0 = mxF (hI S138 67 x0) (m151 (274 + 510 * m152 + 47 + 10 * (m153 - 1) + 2 * chpF m151 m152 m153 (hI S138 67 x0)))) → (∃ (m165 : (Nat → Prop)) (m166 : Nat → Int32) (m167 : Nat), ((WF m166 ∧ m167 < 6 ∧ RelV S155 m165 b69 m166 m167 ∧ (∀ a, a < 10 → rwO m166 m167 a) ∧ (∀ b, hR S155 61 x0 = some b → m165 b) ∧ (∀ b, hR S155 62 x0 = some b → m165 b)) ∧ (∀ (S169 : HS), ext S155 S169 → (c3 S155 S169 x0 [74, 75] ∧ hI S169 74 x0 = (exF m166 m167 (hI S155 67 x0) (hI S155 69 x0) (hI S155 70 x0) (hI S155 68 x0) (hI S155 66 x0) (hI S155 71 x0) 10 0 0 0 0).1 ∧ hI S169 75 x0 = (exF m166 m167 (hI S155 67 x0) (hI S155 69 x0) (hI S155 70 x0) (hI S155 68 x0) (hI S155 66 x0) (hI S155 71 x0) 10 0 0 0 0).2) → (∀ S180 : HS, S180 = putI S169 76 x0 ((hI S169 208 b69) * ((hI S169 60 x0) - 1)) → (∀ S193 : HS, S193 = putI S180 77 x0 (pctF (((hI S180 71 x0) + (hI S180 74 x0)) + (hI S180 76 x0)) (hI S180 207 b69)) → (P S193)))))))))) ∧ (¬ v143 = 0 → (P S138)))))))))))))))))))) ∧ (¬ v82 = 0 → (P S77)))))))))))) ∧ (¬ v52 = 0 → (P S47)))))))))))))))))
set_option maxRecDepth 100000 in
set_option maxHeartbeats 4000000 in
theorem t_X2_work {p : Program} {l : Launch} {e : Env} {s : State} {m : MethodId} {args : Array Value} {below : List Frame} {meth : Method} {c : Code} {D : va_G} {A : Nat → Prop} {T : Nat → ClassId} (C : GC p s m args meth c cX2_work "FreightRater$Rating" (ws_X2_work) 5 D A (zty T)) (E : GE T A s) (hr : meth.sig.returnType = none) (P : HS → Prop) : ∀ (x0 : Nat) (p0 : Nat) (p1 : Int32) (S0 S : HS) (L : List Nat), S0 = S → wt S → hL S L → (hK S x0 = 3) → (hK S p0 = 7) → wp_X2_work P x0 p0 p1 S → GW p l e { rm_X2_work with cells := 0, slots := 0 } s m args below meth c D A 5 0 0 (MQ below (va_Qv (fun (u : HS × List Nat) => P u.1 ∧ CO S0 u) (CE D T A) A) args s 0 0 A) (CW T S L) 0 0 0 [(0, .ref x0), (1, .ref p0), (2, .int p1)] [] := by
  have hW : ∀ {w : Cond}, w ∈ W0 → w.before args s = true := fun h => C.2.2.2.2.1 _ (List.mem_cons_of_mem _ h)
  intro x0 p0 p1 S0 S L hS0 hw hL hx0 hp0 h
  have he : ext S0 S := by rw [hS0]; exact ext_rf
  unfold wp_X2_work at h
  refine g_aload_n C dX2_work_0 rfl 0 rfl ?_
  refine g_aload_n C dX2_work_1 rfl 1 rfl ?_
  refine g_iload_n C dX2_work_2 rfl 2 rfl ?_
  obtain ⟨m1, m2, h⟩ := h
  obtain ⟨g3, h⟩ := h
  refine gc_callvV (host := "") C E hw hL hx0 (by decide) (by decide) rfl [.ref p0, .int p1] rfl (k_X2_gather l D T x0 p0 p1 S m1 m2 hx0 hp0 g3) (w0_V 2 C.2.2.2.2.1 kw_1199 kw_1201 ks_27 kw_7 kw_1202 rfl rfl (by decide +kernel) ⟨Nat.le_of_ble_eq_true rfl, Nat.le_of_ble_eq_true rfl⟩) rfl (Nat.le_of_ble_eq_true rfl) (Nat.le_refl _) (Nat.le_refl _) (Nat.zero_le _) (Nat.zero_le _) dX2_work_3 (fun S4 L5 e6 w7 w8 hp => ?_)
  replace h := h S4 e6 hp
  have g9 := ext_K e6 hx0 (by decide)
  have g10 := ext_K e6 hp0 (by decide)
  have w11 := ext_tr he e6
  refine g_aload_n C dX2_work_6 rfl 0 rfl ?_
  refine g_iconst (v := 0) C dX2_work_7 (by decide) ?_
  refine gc_putI C iwx_X2 w8 g9 (by decide) (by decide) rfl 3 (by decide) (hW kw_138) rfl tyX2 tyX2_ok nmX2 rfl rfl rfl rfl rfl dX2_work_8 ?_
  have w12 := wt_putI w7 63 0 (k_ne g9 (by decide))
  refine gc_nS (fun S13 eS13 => ?_)
  replace h := h S13 eS13
  have w14 : wt S13 := by rw [eS13]; exact w12
  have w15 : isL S13 L5 := by rw [eS13]; exact w8
  have w16 : ext S0 S13 := by rw [eS13]; exact w11
  have g17 : hK S13 x0 = 3 := by rw [eS13]; exact g9
  have g18 : hK S13 p0 = 7 := by rw [eS13]; exact g10
  refine g_aload_n C dX2_work_11 rfl 0 rfl ?_
  refine g_iconst (v := 0) C dX2_work_12 (by decide) ?_
  refine gc_putI C iwx_X2 w15 g17 (by decide) (by decide) rfl 4 (by decide) (hW kw_140) rfl tyX2 tyX2_ok nmX2 rfl rfl rfl rfl rfl dX2_work_13 ?_
  have w19 := wt_putI w14 64 0 (k_ne g17 (by decide))
  refine gc_nS (fun S20 eS20 => ?_)
  replace h := h S20 eS20
  have w21 : wt S20 := by rw [eS20]; exact w19
  have w22 : isL S20 L5 := by rw [eS20]; exact w15
  have w23 : ext S0 S20 := by rw [eS20]; exact w16
  have g24 : hK S20 x0 = 3 := by rw [eS20]; exact g17
  have g25 : hK S20 p0 = 7 := by rw [eS20]; exact g18
  refine g_aload_n C dX2_work_16 rfl 0 rfl ?_
  refine gc_getI C iwx_X2 w22 g24 (by decide) (by decide) rfl 0 (by decide) (hW kw_134) rfl rfl rfl dX2_work_17 ?_
  refine g_if_eq (tgt := 38) C dX2_work_20 (by decide) (fun z26 => ?_) (fun z26 => ?_)
  · replace h := h.1 z26
    exact gc_vret C w21 w22 w23 hr dX2_work_38 h
  · replace h := h.2 z26
    refine g_aload_n C dX2_work_23 rfl 0 rfl ?_
    obtain ⟨m27, m28, m29, m30, h⟩ := h
    obtain ⟨g31, h⟩ := h
    refine gc_calliV (host := "") C E w21 w22 g24 (by decide) (by decide) rfl [] rfl (k_X2_isRefusedForDays l D T x0 S20 m27 m28 m29 m30 g24 g31) (w0_V 0 C.2.2.2.2.1 kw_1206 kw_1208 ks_28 kw_7 kw_1209 rfl rfl (by decide +kernel) ⟨Nat.le_of_ble_eq_true rfl, Nat.le_of_ble_eq_true rfl⟩) rfl (Nat.le_of_ble_eq_true rfl) (Nat.le_refl _) (Nat.le_refl _) (Nat.zero_le _) (Nat.zero_le _) dX2_work_24 (fun v37 S32 L33 e34 w35 w36 hp => ?_)
    replace h := h v37 S32 e34 hp
    have g38 := ext_K e34 g24 (by decide)
    have g39 := ext_K e34 g25 (by decide)
    have w40 := ext_tr w23 e34
    refine g_if_ne (tgt := 38) C dX2_work_27 (by decide) (fun z41 => ?_) (fun z41 => ?_)
    · replace h := h.1 z41
      exact gc_vret C w35 w36 w40 hr dX2_work_38 h
    · replace h := h.2 z41
      refine g_aload_n C dX2_work_30 rfl 0 rfl ?_
      refine g_aload_n C dX2_work_31 rfl 1 rfl ?_
      obtain ⟨m42, m43, m44, m45, h⟩ := h
      obtain ⟨g46, h⟩ := h
      refine gc_calliV (host := "") C E w35 w36 g38 (by decide) (by decide) rfl [.ref p0] rfl (k_X2_isRefusedForVersion l D T x0 p0 S32 m42 m43 m44 m45 g38 g39 g46) (w0_V 1 C.2.2.2.2.1 kw_1214 kw_1216 ks_30 kw_7 kw_1217 rfl rfl (by decide +kernel) ⟨Nat.le_of_ble_eq_true rfl, Nat.le_of_ble_eq_true rfl⟩) rfl (Nat.le_of_ble_eq_true rfl) (Nat.le_refl _) (Nat.le_refl _) (Nat.zero_le _) (Nat.zero_le _) dX2_work_32 (fun v52 S47 L48 e49 w50 w51 hp => ?_)
      replace h := h v52 S47 e49 hp
      have g53 := ext_K e49 g38 (by decide)
      have g54 := ext_K e49 g39 (by decide)
      have w55 := ext_tr w40 e49
      refine g_if_eq (tgt := 39) C dX2_work_35 (by decide) (fun z56 => ?_) (fun z56 => ?_)
      · replace h := h.1 z56
        refine g_aload_n C dX2_work_39 rfl 1 rfl ?_
        refine g_aload_n C dX2_work_40 rfl 0 rfl ?_
        refine gc_getI C iwx_X2 w51 g53 (by decide) (by decide) rfl 5 (by decide) (hW kw_142) rfl rfl rfl dX2_work_41 ?_
        obtain ⟨m57, m58, h⟩ := h
        obtain ⟨g59, h⟩ := h
        refine gc_callqV (host := "") C E w50 w51 g54 (by decide) (by decide) rfl [.int (hI S47 65 x0)] rfl (k_X6_versionAt l D T p0 (hI S47 65 x0) S47 m57 m58 g54 g59) (w0_V 1 C.2.2.2.2.1 kw_1219 kw_461 kw_462 kw_2 kw_463 rfl rfl (by decide +kernel) ⟨Nat.le_of_ble_eq_true rfl, Nat.le_of_ble_eq_true rfl⟩) rfl (Nat.le_of_ble_eq_true rfl) (Nat.le_refl _) (Nat.le_refl _) (Nat.zero_le _) (Nat.zero_le _) dX2_work_44 (fun o65 S60 L61 e62 w63 w64 ko65 hp => ?_)
        replace h := h o65 S60 e62 ko65 hp
        have g66 := ext_K e62 g53 (by decide)
        have g67 := ext_K e62 g54 (by decide)
        have w68 := ext_tr w55 e62
        refine g_qstore_n (lv' := [(3, va_rf o65), (0, .ref x0), (1, .ref p0), (2, .int p1)]) C dX2_work_47 rfl (by decide) rfl ?_
        refine g_qload_n C dX2_work_48 rfl 0 rfl ?_
        rcases o65 with _ | b69
        · replace h := h.1 rfl
          refine g_ifnullN (tgt := 60) C dX2_work_49 (by decide) ?_
          exact gc_vret C w63 w64 w68 hr dX2_work_60 h
        · have g70 : hK S60 b69 = 10 := ko65 b69 rfl
          replace h := h.2 b69 rfl g70
          refine g_ifnull C dX2_work_49 ?_
          refine g_aload_n C dX2_work_52 rfl 1 rfl ?_
          refine g_aload_n C dX2_work_53 rfl 0 rfl ?_
          obtain ⟨m71, m72, m73, m74, m75, h⟩ := h
          obtain ⟨g76, h⟩ := h
          refine gc_calliV (host := "") C E w63 w64 g66 (by decide) (by decide) rfl [.ref b69] rfl (k_X2_isRefusedForZones l D T x0 b69 S60 m71 m72 m73 m74 m75 g66 g70 g76) (w0_V 1 C.2.2.2.2.1 kw_1220 kw_1222 ks_31 kw_7 kw_1223 rfl rfl (by decide +kernel) ⟨Nat.le_of_ble_eq_true rfl, Nat.le_of_ble_eq_true rfl⟩) rfl (Nat.le_of_ble_eq_true rfl) (Nat.le_refl _) (Nat.le_refl _) (Nat.zero_le _) (Nat.zero_le _) dX2_work_54 (fun v82 S77 L78 e79 w80 w81 hp => ?_)
          replace h := h v82 S77 e79 hp
          have g83 := ext_K e79 g70 (by decide)
          have g84 := ext_K e79 g66 (by decide)
          have g85 := ext_K e79 g67 (by decide)
          have w86 := ext_tr w68 e79
          refine g_if_eq (tgt := 61) C dX2_work_57 (by decide) (fun z87 => ?_) (fun z87 => ?_)
          · replace h := h.1 z87
            refine g_aload_n C dX2_work_61 rfl 1 rfl ?_
            refine g_aload_n C dX2_work_62 rfl 0 rfl ?_
            obtain ⟨m88, m89, m90, m91, m92, h⟩ := h
            obtain ⟨g93, h⟩ := h
            refine gc_callvV (host := "") C E w80 w81 g84 (by decide) (by decide) rfl [.ref b69] rfl (k_X2_addUp l D T x0 b69 S77 m88 m89 m90 m91 m92 g84 g83 g93) (w0_V 1 C.2.2.2.2.1 kw_1225 kw_1227 ks_32 kw_7 kw_1228 rfl rfl (by decide +kernel) ⟨Nat.le_of_ble_eq_true rfl, Nat.le_of_ble_eq_true rfl⟩) rfl (Nat.le_of_ble_eq_true rfl) (Nat.le_refl _) (Nat.le_refl _) (Nat.zero_le _) (Nat.zero_le _) dX2_work_63 (fun S94 L95 e96 w97 w98 hp => ?_)
            replace h := h S94 e96 hp
            have g99 := ext_K e96 g83 (by decide)
            have g100 := ext_K e96 g84 (by decide)
            have g101 := ext_K e96 g85 (by decide)
            have w102 := ext_tr w86 e96
            refine g_aload_n C dX2_work_66 rfl 0 rfl ?_
            refine g_aload_n C dX2_work_67 rfl 1 rfl ?_
            refine gc_getI C iwx_X2 w98 g100 (by decide) (by decide) rfl 6 (by decide) (hW kw_145) rfl rfl rfl dX2_work_68 ?_
            obtain ⟨m103, m104, m105, h⟩ := h
            obtain ⟨g106, h⟩ := h
            refine gc_callqV (host := "") C E w97 w98 g99 (by decide) (by decide) rfl [.int (hI S94 66 x0)] rfl (k_X9_scaleOf l D T b69 (hI S94 66 x0) S94 m103 m104 m105 g99 g106) (w0_V 1 C.2.2.2.2.1 kw_1234 kw_907 kw_908 kw_14 kw_909 rfl rfl (by decide +kernel) ⟨Nat.le_of_ble_eq_true rfl, Nat.le_of_ble_eq_true rfl⟩) rfl (Nat.le_of_ble_eq_true rfl) (Nat.le_refl _) (Nat.le_refl _) (Nat.zero_le _) (Nat.zero_le _) dX2_work_71 (fun o112 S107 L108 e109 w110 w111 ko112 hp => ?_)
            replace h := h o112 S107 e109 ko112 hp
            have g113 := ext_K e109 g99 (by decide)
            have g114 := ext_K e109 g100 (by decide)
            have g115 := ext_K e109 g101 (by decide)
            have w116 := ext_tr w102 e109
            refine g_qstore (lv' := [(4, va_rf o112), (3, .ref b69), (0, .ref x0), (1, .ref p0), (2, .int p1)]) C dX2_work_74 (by decide) rfl ?_
            refine g_qload C dX2_work_76 0 rfl ?_
            rcases o112 with _ | b117
            · replace h := h.1 rfl
              refine g_ifnullN (tgt := 98) C dX2_work_78 (by decide) ?_
              exact gc_vret C w110 w111 w116 hr dX2_work_98 h
            · have g118 : hK S107 b117 = 5 := ko112 b117 rfl
              replace h := h.2 b117 rfl g118
              refine g_ifnull C dX2_work_78 ?_
              refine g_aload_n C dX2_work_81 rfl 2 rfl ?_
              refine g_aload_n C dX2_work_82 rfl 1 rfl ?_
              refine g_aload C dX2_work_83 0 rfl ?_
              obtain ⟨m119, h⟩ := h
              obtain ⟨g120, h⟩ := h
              refine gc_calliV (host := "") C E w110 w111 g114 (by decide) (by decide) rfl [.ref b69, .ref b117] rfl (k_X2_isRefusedForCharges l D T x0 b69 b117 S107 m119 g114 g113 g118 g120) (w0_V 2 C.2.2.2.2.1 kw_1235 kw_1237 ks_33 kw_7 kw_1238 rfl rfl (by decide +kernel) ⟨Nat.le_of_ble_eq_true rfl, Nat.le_of_ble_eq_true rfl⟩) rfl (Nat.le_of_ble_eq_true rfl) (Nat.le_refl _) (Nat.le_refl _) (Nat.zero_le _) (Nat.zero_le _) dX2_work_85 (fun v126 S121 L122 e123 w124 w125 hp => ?_)
              replace h := h v126 S121 e123 hp
              have g127 := ext_K e123 g118 (by decide)
              have g128 := ext_K e123 g113 (by decide)
              have g129 := ext_K e123 g114 (by decide)
              have g130 := ext_K e123 g115 (by decide)
              have w131 := ext_tr w116 e123
              refine g_if_ne (tgt := 98) C dX2_work_88 (by decide) (fun z132 => ?_) (fun z132 => ?_)
              · replace h := h.1 z132
                exact gc_vret C w124 w125 w131 hr dX2_work_98 h
              · replace h := h.2 z132
                refine g_aload_n C dX2_work_91 rfl 2 rfl ?_
                obtain ⟨m133, m134, m135, m136, h⟩ := h
                obtain ⟨g137, h⟩ := h
                refine gc_calliV (host := "") C E w124 w125 g129 (by decide) (by decide) rfl [] rfl (k_X2_isRefusedForHandlings l D T x0 S121 m133 m134 m135 m136 g129 g137) (w0_V 0 C.2.2.2.2.1 kw_1239 kw_1241 ks_34 kw_7 kw_1242 rfl rfl (by decide +kernel) ⟨Nat.le_of_ble_eq_true rfl, Nat.le_of_ble_eq_true rfl⟩) rfl (Nat.le_of_ble_eq_true rfl) (Nat.le_refl _) (Nat.le_refl _) (Nat.zero_le _) (Nat.zero_le _) dX2_work_92 (fun v143 S138 L139 e140 w141 w142 hp => ?_)
                replace h := h v143 S138 e140 hp
                have g144 := ext_K e140 g127 (by decide)
                have g145 := ext_K e140 g128 (by decide)
                have g146 := ext_K e140 g129 (by decide)
                have g147 := ext_K e140 g130 (by decide)
                have w148 := ext_tr w131 e140
                refine g_if_eq (tgt := 99) C dX2_work_95 (by decide) (fun z149 => ?_) (fun z149 => ?_)
                · replace h := h.1 z149
                  refine g_aload_n C dX2_work_99 rfl 2 rfl ?_
                  refine g_aload C dX2_work_100 0 rfl ?_
                  obtain ⟨m150, m151, m152, m153, h⟩ := h
                  obtain ⟨g154, h⟩ := h
                  refine gc_callvV (host := "") C E w141 w142 g146 (by decide) (by decide) rfl [.ref b117] rfl (k_X2_chargeBase l D T x0 b117 S138 m150 m151 m152 m153 g146 g144 g154) (w0_V 1 C.2.2.2.2.1 kw_1243 kw_1245 ks_35 kw_7 kw_1246 rfl rfl (by decide +kernel) ⟨Nat.le_of_ble_eq_true rfl, Nat.le_of_ble_eq_true rfl⟩) rfl (Nat.le_of_ble_eq_true rfl) (Nat.le_refl _) (Nat.le_refl _) (Nat.zero_le _) (Nat.zero_le _) dX2_work_102 (fun S155 L156 e157 w158 w159 hp => ?_)
                  replace h := h S155 e157 hp
                  have g160 := ext_K e157 g144 (by decide)
                  have g161 := ext_K e157 g145 (by decide)
                  have g162 := ext_K e157 g146 (by decide)
                  have g163 := ext_K e157 g147 (by decide)
                  have w164 := ext_tr w148 e157
                  refine g_aload_n C dX2_work_105 rfl 2 rfl ?_
                  refine g_aload_n C dX2_work_106 rfl 1 rfl ?_
                  obtain ⟨m165, m166, m167, h⟩ := h
                  obtain ⟨g168, h⟩ := h
                  refine gc_callvV (host := "") C E w158 w159 g162 (by decide) (by decide) rfl [.ref b69] rfl (k_X2_addExtras l D T x0 b69 S155 m165 m166 m167 g162 g161 g168) (w0_V 1 C.2.2.2.2.1 kw_1249 kw_1251 ks_36 kw_7 kw_1252 rfl rfl (by decide +kernel) ⟨Nat.le_of_ble_eq_true rfl, Nat.le_of_ble_eq_true rfl⟩) rfl (Nat.le_of_ble_eq_true rfl) (Nat.le_refl _) (Nat.le_refl _) (Nat.zero_le _) (Nat.zero_le _) dX2_work_107 (fun S169 L170 e171 w172 w173 hp => ?_)
                  replace h := h S169 e171 hp
                  have g174 := ext_K e171 g160 (by decide)
                  have g175 := ext_K e171 g161 (by decide)
                  have g176 := ext_K e171 g162 (by decide)
                  have g177 := ext_K e171 g163 (by decide)
                  have w178 := ext_tr w164 e171
                  refine g_aload_n C dX2_work_110 rfl 2 rfl ?_
                  refine g_aload_n C dX2_work_111 rfl 1 rfl ?_
                  refine gc_getI C iwx_X9 w173 g175 (by decide) (by decide) rfl 8 (by decide) (hW kw_430) rfl rfl rfl dX2_work_112 ?_
                  refine g_aload_n C dX2_work_115 rfl 2 rfl ?_
                  refine gc_getI C iwx_X2 w173 g176 (by decide) (by decide) rfl 0 (by decide) (hW kw_134) rfl rfl rfl dX2_work_116 ?_
                  refine g_iconst (v := 1) C dX2_work_119 (by decide) ?_
                  refine g_isub C dX2_work_120 ?_
                  refine g_imul C dX2_work_121 ?_
                  refine gc_putI C iwx_X2 w173 g176 (by decide) (by decide) rfl 16 (by decide) (hW kw_166) rfl tyX2 tyX2_ok nmX2 rfl rfl rfl rfl rfl dX2_work_122 ?_
                  have w179 := wt_putI w172 76 ((hI S169 208 b69) * ((hI S169 60 x0) - 1)) (k_ne g176 (by decide))
                  refine gc_nS (fun S180 eS180 => ?_)
                  replace h := h S180 eS180
                  have w181 : wt S180 := by rw [eS180]; exact w179
                  have w182 : isL S180 L170 := by rw [eS180]; exact w173
                  have w183 : ext S0 S180 := by rw [eS180]; exact w178
                  have g184 : hK S180 b117 = 5 := by rw [eS180]; exact g174
                  have g185 : hK S180 b69 = 10 := by rw [eS180]; exact g175
                  have g186 : hK S180 x0 = 3 := by rw [eS180]; exact g176
                  have g187 : hK S180 p0 = 7 := by rw [eS180]; exact g177
                  refine g_aload_n C dX2_work_125 rfl 2 rfl ?_
                  refine g_aload_n C dX2_work_126 rfl 2 rfl ?_
                  refine gc_getI C iwx_X2 w182 g186 (by decide) (by decide) rfl 11 (by decide) (hW kw_156) rfl rfl rfl dX2_work_127 ?_
                  refine g_aload_n C dX2_work_130 rfl 2 rfl ?_
                  refine gc_getI C iwx_X2 w182 g186 (by decide) (by decide) rfl 14 (by decide) (hW kw_162) rfl rfl rfl dX2_work_131 ?_
                  refine g_iadd C dX2_work_134 ?_
                  refine g_aload_n C dX2_work_135 rfl 2 rfl ?_
                  refine gc_getI C iwx_X2 w182 g186 (by decide) (by decide) rfl 16 (by decide) (hW kw_166) rfl rfl rfl dX2_work_136 ?_
                  refine g_iadd C dX2_work_139 ?_
                  refine g_aload_n C dX2_work_140 rfl 1 rfl ?_
                  refine gc_getI C iwx_X9 w182 g185 (by decide) (by decide) rfl 7 (by decide) (hW kw_427) rfl rfl rfl dX2_work_141 ?_
                  refine gc_calliSN (host := "FreightRater") C E w181 w182 [.int (((hI S180 71 x0) + (hI S180 74 x0)) + (hI S180 76 x0)), .int (hI S180 207 b69)] rfl (k_X10_percentOf l D T (((hI S180 71 x0) + (hI S180 74 x0)) + (hI S180 76 x0)) (hI S180 207 b69) S180 ) (w0_SN 2 E C.2.2.2.2.1 (by decide) kw_1278 kw_1 kw_1279 rfl rfl (by decide +kernel) ⟨Nat.le_of_ble_eq_true rfl, Nat.le_of_ble_eq_true rfl⟩) rfl (Nat.le_of_ble_eq_true rfl) (Nat.le_refl _) (Nat.le_refl _) (Nat.zero_le _) (Nat.zero_le _) dX2_work_144 (fun v9 S9 L188 he9 hw9 hL9 hp => ?_)
                  obtain ⟨hv9, hs9⟩ := hp
                  replace hs9 := hs9.symm
                  subst hs9
                  replace hv9 := hv9.symm
                  subst hv9
                  have w191 := hL9
                  refine gc_putI C iwx_X2 w191 g186 (by decide) (by decide) rfl 17 (by decide) (hW kw_168) rfl tyX2 tyX2_ok nmX2 rfl rfl rfl rfl rfl dX2_work_147 ?_
                  have w192 := wt_putI w181 77 (pctF (((hI S180 71 x0) + (hI S180 74 x0)) + (hI S180 76 x0)) (hI S180 207 b69)) (k_ne g186 (by decide))
                  refine gc_nS (fun S193 eS193 => ?_)
                  replace h := h S193 eS193
                  have w194 : wt S193 := by rw [eS193]; exact w192
                  have w195 : isL S193 L188 := by rw [eS193]; exact w191
                  have w196 : ext S0 S193 := by rw [eS193]; exact w183
                  have g197 : hK S193 b117 = 5 := by rw [eS193]; exact g184
                  have g198 : hK S193 b69 = 10 := by rw [eS193]; exact g185
                  have g199 : hK S193 x0 = 3 := by rw [eS193]; exact g186
                  have g200 : hK S193 p0 = 7 := by rw [eS193]; exact g187
                  exact gc_vret C w194 w195 w196 hr dX2_work_150 h
                · replace h := h.2 z149
                  exact gc_vret C w141 w142 w148 hr dX2_work_98 h
          · replace h := h.2 z87
            exact gc_vret C w80 w81 w86 hr dX2_work_60 h
      · replace h := h.2 z56
        exact gc_vret C w50 w51 w55 hr dX2_work_38 h
theorem c_X2_work (l : Launch) (D : va_G) (T : Nat → ClassId) (x0 : Nat) (p0 : Nat) (p1 : Int32) (S : HS) (hx0 : hK S x0 = 3) (hp0 : hK S p0 = 7) (P : HS → Prop) (h : wp_X2_work P x0 p0 p1 S) : CMv l yX2_work (ws_X2_work) rm_X2_work D T [.ref x0, .ref p0, .int p1] S 0 0 P := gc_metv (by decide) rfl rfl (Nat.le_of_ble_eq_true rfl) (fun p e s m args below meth c A L C E hnm hr hw hL => t_X2_work C E   hr P x0 p0 p1 S S L rfl hw hL hx0 hp0 h)
/-- a list of members by its folds -/
theorem gl_at {s : Nat} {r : List Nat} : ∀ pre : List Nat, gl (pre ++ s :: r) pre.length = s := by
  intro pre
  induction pre with
  | nil => rfl
  | cons p pre ih => exact ih
theorem fi_m {μ : Nat → Int32} {gv rs g : Nat} : ∀ (k s : Nat) (pre : List Nat), fiX μ gv rs g (pre ++ memL g k s) (memL g k s).length pre.length = firFold μ gv rs g k s := by
  intro k
  induction k with
  | zero => intro s pre; rfl
  | succ k ih =>
    intro s pre
    rw [memL, firFold]
    by_cases c : g.testBit s = true
    · rw [if_pos c, List.length_cons, fiX, gl_at]
      by_cases d : rsF μ gv rs g s = 0
      · rw [if_neg (fun w => w d), if_neg (fun w => w.2 d)]
        have := ih (s + 1) (pre ++ [s])
        rw [List.append_assoc, List.length_append] at this
        exact this
      · rw [if_pos d, if_pos ⟨c, d⟩]
    · rw [if_neg c, if_neg (fun w => c w.1)]
      exact ih (s + 1) pre
theorem gw_m {μ : Nat → Int32} {g : Nat} {d : Int32} : ∀ (k s : Nat) (pre : List Nat) (a b c e h : Int32), gwX μ d (pre ++ memL g k s) (memL g k s).length pre.length a b c e h = gwF μ g d k s a b c e h := by
  intro k
  induction k with
  | zero => intro s pre a b c e h; rfl
  | succ k ih =>
    intro s pre a b c e h
    rw [memL, gwF]
    by_cases t : g.testBit s = true
    · rw [if_pos t, if_pos t, List.length_cons, gwX, gl_at]
      have := ih (s + 1) (pre ++ [s]) (a + realF μ s) (b + dimF μ s d) (c + μ (14 + 26 * s + 4)) (mxF e (longF μ s)) (h ||| μ (14 + 26 * s + 2))
      rw [List.append_assoc, List.length_append] at this
      exact this
    · rw [if_neg t, if_neg t]
      exact ih (s + 1) pre a b c e h
theorem mem_0 {g : Nat} : ∀ j s, (∀ t, s ≤ t → g.testBit t = false) → memL g j s = [] := by
  intro j
  induction j with
  | zero => intro s _; rfl
  | succ j ih => intro s h; rw [memL, if_neg (by rw [h s (Nat.le_refl _)]; decide)]; exact ih (s + 1) (fun t ht => h t (by omega))
theorem mem_more {g : Nat} : ∀ k j s, (∀ t, s + k ≤ t → g.testBit t = false) → memL g (k + j) s = memL g k s := by
  intro k
  induction k with
  | zero => intro j s h; rw [Nat.zero_add]; exact mem_0 j s h
  | succ k ih =>
    intro j s h
    rw [show k + 1 + j = (k + j) + 1 by omega, memL, memL, ih j (s + 1) (fun t ht => h t (by omega))]
theorem pop_m {g : Nat} : ∀ k s a, popFold g k s a = a + (memL g k s).length := by
  intro k
  induction k with
  | zero => intro s a; rfl
  | succ k ih =>
    intro s a
    rw [popFold, memL, ih]
    by_cases c : g.testBit s = true
    · rw [if_pos c, if_pos c, List.length_cons]; omega
    · rw [if_neg c, if_neg c]
theorem low_m {g : Nat} : ∀ k s, 0 < (memL g k s).length → gl (memL g k s) 0 = lowFold g k s := by
  intro k
  induction k with
  | zero => intro s h; exact absurd h (Nat.lt_irrefl _)
  | succ k ih =>
    intro s h
    rw [memL] at h ⊢
    rw [lowFold]
    by_cases c : g.testBit s = true
    · rw [if_pos c, if_pos c]; rfl
    · rw [if_neg c] at h ⊢
      rw [if_neg c]
      exact ih (s + 1) h
theorem tb_hi {g ns : Nat} (h : g < 2 ^ ns) : ∀ t, 0 + ns ≤ t → g.testBit t = false := fun t ht => Nat.testBit_lt_two_pow (Nat.lt_of_lt_of_le h (Nat.pow_le_pow_right (by decide) (by omega)))
theorem mem_10 {g ns : Nat} (h : g < 2 ^ ns) (hns : ns ≤ 10) : memL g 10 0 = memL g ns 0 := by
  have := mem_more (g := g) ns (10 - ns) 0 (tb_hi h)
  rwa [show ns + (10 - ns) = 10 by omega] at this
theorem mem_pop {g ns : Nat} (h : g < 2 ^ ns) (hns : ns ≤ 10) : (memL g ns 0).length = popN g := by
  unfold popN
  rw [pop_m, Nat.zero_add, mem_10 h hns]
theorem mem_ne {g ns : Nat} (h0 : 0 < g) (h : g < 2 ^ ns) (hns : ns ≤ 10) : 0 < (memL g ns 0).length := by
  have hg : g < 1024 := Nat.lt_of_lt_of_le h (p2_le hns)
  have ht := low_tb hg (by omega)
  have hl : lowN g < ns := by
    apply Decidable.byContradiction
    intro z
    rw [tb_hi h _ (by omega)] at ht
    cases ht
  obtain ⟨i, hi, _⟩ := (mem_gl ns 0 (lowN g)).mp ⟨by omega, by omega, ht⟩
  omega
theorem mem_low {g ns : Nat} (h0 : 0 < g) (h : g < 2 ^ ns) (hns : ns ≤ 10) : gl (memL g ns 0) 0 = lowN g := by
  have := mem_ne h0 h hns
  rw [← mem_10 h hns] at this ⊢
  exact low_m 10 0 this
theorem fir_no {μ : Nat → Int32} {gv rs g : Nat} : ∀ k s, firFold μ gv rs g k s = none → ∀ t, s ≤ t → t < s + k → g.testBit t = true → rsF μ gv rs g t = 0 := by
  intro k
  induction k with
  | zero => intro s _ t h1 h2; omega
  | succ k ih =>
    intro s h t h1 h2 h3
    rw [firFold] at h
    by_cases c : g.testBit s = true ∧ ¬ rsF μ gv rs g s = 0
    · rw [if_pos c] at h; cases h
    · rw [if_neg c] at h
      rcases Nat.eq_or_lt_of_le h1 with e9 | e9
      · subst e9
        exact Decidable.byContradiction (fun z => c ⟨h3, z⟩)
      · exact ih (s + 1) h t (by omega) (by omega) h3
theorem wk_r {S : HS} {x : Nat} {μ : Nat → Int32} {g r : Nat} {d : Int32} (h : rsnD μ g = (r, d)) (h0 : r ≠ 0) (h63 : hI S 63 x = nI r) (h64 : hI S 64 x = d) : wkP S x μ g := by
  unfold wkP
  rw [h]
  exact ⟨h63, fun _ => h64, fun z => absurd z h0⟩
theorem k_X2_work (l : Launch) (D : va_G) (T : Nat → ClassId) (x0 : Nat) (p0 : Nat) (p1 : Int32) (S : HS) (e0 : (Nat → Prop)) (e1 : Nat → Int32) (hx0 : hK S x0 = 3) (hp0 : hK S p0 = 7) (h : WF e1 ∧ WFR e1 ∧ RelSt S e0 p0 e1 ∧ RtO S e0 x0 p0 ∧ gok e1 p1) : CMv l yX2_work (ws_X2_work) rm_X2_work D T [.ref x0, .ref p0, .int p1] S 0 0 (fun S1 => (frR S S1 x0 ∧ wkP S1 x0 e1 (iv p1))) := c_X2_work l D T x0 p0 p1 S hx0 hp0 _ <|
  (by
    obtain ⟨hw, hwr, hSt, hO, n, ns, ens, hns, hn0, hn, eg⟩ := h
    subst eg
    have hg : n < 1024 := Nat.lt_of_lt_of_le hn (p2_le hns)
    have ig : iv (nI n) = n := nI_clamp (by omega)
    have ins : iv (e1 1) = ns := by rw [ens]; exact nI_clamp (by omega)
    obtain ⟨_, hMb, hMn⟩ := hO.m
    have hne := mem_ne hn0 hn hns
    have hlow := mem_low hn0 hn hns
    have hlen := mem_pop hn hns
    have hl10 := memL_le (g := n) ns 0
    have hfi : ∀ gv rs, fiX e1 gv rs n (memL n ns 0) (memL n ns 0).length 0 = firF e1 gv rs n := fun gv rs => by
      unfold firF
      rw [ins]
      exact fi_m ns 0 []
    have hgw : ∀ v, gwX e1 (e1 (274 + 510 * v + 146)) (memL n ns 0) (memL n ns 0).length 0 0 0 0 0 0 = gwt e1 v n := fun v => by
      unfold gwt
      rw [ins]
      exact gw_m ns 0 [] 0 0 0 0 0
    have MB : ∀ S' : HS, frR S S' x0 → ∀ b, hR S' 61 x0 = some b → e0 b := fun S' f b hb => hMb b (by rw [← f.2.2.1]; exact hb)
    have MN : ∀ S' : HS, frR S S' x0 → ∀ b, hR S' 62 x0 = some b → e0 b := fun S' f b hb => hMn b (by rw [← f.2.2.1]; exact hb)
    have ST : ∀ S' : HS, frR S S' x0 → RelSt S' e0 p0 e1 := fun S' f => hSt.fr hO f
    unfold wp_X2_work
    refine ⟨e0, e1, ⟨hw, hSt, hO, n, hg, rfl⟩, fun S4 _ h4 S13 e13 S20 e20 => ?_⟩
    rw [ig, ins] at h4
    obtain ⟨f4, R4⟩ := h4
    have c20 : c3 S4 S20 x0 [63, 64] := by rw [e20, e13]; exact (c3.rf.up (by decide) _).up (by decide) _
    have f20 : frR S S20 x0 := f4.tr c20.fr
    have R20 : RtM S20 e0 x0 e1 (memL n ns 0) := R4.c3 c20 (by decide) (MN _ f4)
    have z63 : hI S20 63 x0 = 0 := by rw [e20, putI_i _ _ _ (by decide), e13, putI_s]
    clear e20 e13
    rw [R20.2.2.1, nz_eq0 (by omega), ig]
    refine ⟨fun z9 => absurd z9 (by omega), fun _ => ⟨e0, e1, memL n ns 0, n, ⟨hw, R20, MN _ f20, hne, hlow⟩, fun v37 S32 _ h32 => ?_⟩⟩
    rw [hfi, hfi] at h32
    obtain ⟨c32, d1, d2⟩ := h32
    cases h1 : firF e1 0 1 n with
    | some s =>
      obtain ⟨v1, r1, r2⟩ := d1 s h1
      rw [v1]
      exact ⟨fun _ => ⟨f20.tr c32.fr, wk_r (by unfold rsnD; rw [h1]) (by decide) r1 r2⟩, fun z9 => absurd z9 (by decide)⟩
    | none =>
    cases h2 : firF e1 0 2 n with
    | some s =>
      obtain ⟨v1, r1, r2⟩ := (d2 h1).1 s h2
      rw [v1]
      exact ⟨fun _ => ⟨f20.tr c32.fr, wk_r (by unfold rsnD; rw [h1, h2]) (by decide) r1 r2⟩, fun z9 => absurd z9 (by decide)⟩
    | none =>
    obtain ⟨v0, eS⟩ := (d2 h1).2 h2
    subst eS
    rw [v0]
    refine ⟨fun z9 => absurd rfl z9, fun _ => ⟨e0, e1, memL n ns 0, n, ⟨hw, R20, MN _ f20, hne, hlow, ST _ f20⟩, fun v52 S47 _ h47 => ?_⟩⟩
    obtain ⟨c47, g65, n1, n2⟩ := h47
    have f47 := f20.tr c47.fr
    have R47 := R20.c3 c47 (by decide) (MN _ f20)
    by_cases hgv : gvF e1 n < 0
    · obtain ⟨v1, r1, r2⟩ := n1 hgv
      rw [v1]
      exact ⟨fun z9 => absurd z9 (by decide), fun _ => ⟨f47, wk_r (r := 3) (by unfold rsnD; rw [h1, h2]; exact if_pos hgv) (by decide) r1 r2⟩⟩
    obtain ⟨v1, q63, _⟩ := n2 hgv
    rw [v1]
    refine ⟨fun _ => ⟨e0, e1, ⟨hw, ST _ f47⟩, fun o65 S60 _ _ h60 => ?_⟩, fun z9 => absurd rfl z9⟩
    obtain ⟨eS60, z1, z2⟩ := h60
    subst eS60
    rcases vOf_ok hw (d := dayF e1 n) with e9 | ⟨nv, v, env, hnv, hv, ev⟩
    · exact absurd (show gvF e1 n < 0 by rw [show gvF e1 n = -1 from e9]; decide) hgv
    have ev : gvF e1 n = nI v := ev
    have ivg : iv (gvF e1 n) = v := by rw [ev]; exact nI_clamp (by omega)
    have hin : ¬ zin (gvF e1 n) 0 (e1 0 - 1) = 0 := by
      rw [zin_0, ev, env]
      refine ⟨Int32.not_lt.mp (nI_pos (by omega)), ?_⟩
      rw [show (nI nv - 1 : Int32) = nI (nv - 1) from ?_, nI_leI (by omega) (by omega)]
      · omega
      · have := nI_1 (nv - 1)
        rw [show nv - 1 + 1 = nv by omega] at this
        rw [← this, Int32.add_sub_cancel]
    rw [g65] at z2
    obtain ⟨y, ey, hV⟩ := z2 hin
    rw [ivg] at hV
    refine ⟨fun z9 => (by rw [ey] at z9; cases z9), fun b hb _ => ?_⟩
    rw [ey] at hb
    have e9 : y = b := Option.some.inj hb
    subst e9
    refine ⟨e0, e1, memL n ns 0, n, v, ⟨hw, R47, MN _ f47, hne, hlow, by omega, hV, MB _ f47⟩, fun v82 S77 _ h77 => ?_⟩
    rw [hfi, hfi] at h77
    obtain ⟨c77, k1, k2⟩ := h77
    have f77 := f47.tr c77.fr
    have R77 := R47.c3 c77 (by decide) (MN _ f47)
    have V77 := hV.fr c77.fr R47.1 (MB _ f47) (MN _ f47)
    cases h4 : firF e1 v 4 n with
    | some s =>
      obtain ⟨v2, r1, r2⟩ := k1 s h4
      rw [v2]
      exact ⟨fun z9 => absurd z9 (by decide), fun _ => ⟨f77, wk_r (r := 4) (by unfold rsnD; rw [h1, h2, ivg, h4]; exact if_neg hgv) (by decide) r1 r2⟩⟩
    | none =>
    obtain ⟨g66, k3, k4⟩ := k2 h4
    cases h5 : firF e1 v 5 n with
    | some s =>
      obtain ⟨v2, r1, r2⟩ := k3 s h5
      rw [v2]
      exact ⟨fun z9 => absurd z9 (by decide), fun _ => ⟨f77, wk_r (r := 5) (by unfold rsnD; rw [h1, h2, ivg, h4, h5]; exact if_neg hgv) (by decide) r1 r2⟩⟩
    | none =>
    obtain ⟨v2, q63', _⟩ := k4 h5
    rw [v2]
    refine ⟨fun _ => ⟨e0, e1, memL n ns 0, n, v, ⟨hw, R77, MN _ f77, hne, hlow, by omega, V77, hw.div env hnv hv, MB _ f77⟩, fun S94 _ h94 => ?_⟩, fun z9 => absurd rfl z9⟩
    obtain ⟨c94, w67, w69, w70, w68⟩ := h94
    rw [hgw] at w67 w69 w70 w68
    have f94 := f77.tr c94.fr
    have R94 := R77.c3 c94 (by decide) (MN _ f77)
    have V94 := V77.fr c94.fr R77.1 (MB _ f77) (MN _ f77)
    have s67 : hI S94 67 x0 = wtF e1 v n := w67
    have s69 : hI S94 69 x0 = pcF e1 v n := w69
    have s70 : hI S94 70 x0 = lgF e1 v n := w70
    have s68 : hI S94 68 x0 = hdF e1 v n := w68
    have gz : gzF e1 n = zIn e1 v (e1 (14 + 26 * lowN n + 0)) := by unfold gzF; rw [ivg]
    have s66 : hI S94 66 x0 = gzF e1 n := (c94.I (by decide)).trans (g66.trans gz.symm)
    have s63 : hI S94 63 x0 = 0 := (c94.I (by decide)).trans (q63'.trans (q63.trans z63))
    have s65 : hI S94 65 x0 = gvF e1 n := (c94.I (by decide)).trans ((c77.I (by decide)).trans g65)
    obtain ⟨zz, hz9, ez⟩ := zIn_sm hw (show v < 6 by omega) (p := e1 (14 + 26 * lowN n + 0))
    rw [← gz] at ez
    have izz : iv (gzF e1 n) = zz := by rw [ez]; exact nI_clamp (by omega)
    have hz1 : 1 ≤ zz := by
      rcases Nat.eq_zero_or_pos zz with z9 | z9
      · have hl : (lowN n) < ns := by
          rw [← hlow]
          have := (mem_gl ns 0 _).mpr ⟨0, hne, rfl⟩
          omega
        have := fir_no ns 0 (by rw [← ins]; exact h4) (lowN n) (Nat.zero_le _) (by omega) (low_tb hg (by omega))
        unfold rsF at this
        rw [if_neg (by decide), if_neg (by decide), if_pos (by rfl), ← gz, ez, z9, if_pos (by rfl)] at this
        exact absurd this (by decide)
      · exact z9
    have hin2 : ¬ zin (gzF e1 n) 1 9 = 0 := by
      rw [zin_0, ez]
      refine ⟨?_, ?_⟩
      · rw [show (1 : Int32) = nI 1 from rfl, nI_leI (by decide) (by omega)]; exact hz1
      · rw [show (9 : Int32) = nI 9 from rfl, nI_leI (by omega) (by decide)]; exact hz9
    refine ⟨e0, e1, v, ⟨hw, by omega, V94⟩, fun o112 S107 _ _ h107 => ?_⟩
    obtain ⟨eS107, z3, z4⟩ := h107
    subst eS107
    rw [s66] at z4
    obtain ⟨y2, ey2, hSc, _⟩ := z4 hin2
    rw [izz] at hSc
    refine ⟨fun z9 => (by rw [ey2] at z9; cases z9), fun b hb _ => ?_⟩
    rw [ey2] at hb
    have e9 : y2 = b := Option.some.inj hb
    subst e9
    refine ⟨(memL n ns 0).length, ⟨by omega, R94.2.2.1⟩, fun v126 S121 _ h121 => ?_⟩
    rw [hSc.2.2.1, V94.1.2.2.2.2.2.2.2, s66, s67] at h121
    obtain ⟨c121, t1, t2⟩ := h121
    have f121 := f94.tr c121.fr
    have rsn6 : rsnD e1 n = if e1 (274 + 510 * iv (gvF e1 n) + 38 + iv (gzF e1 n) - 1) = 0 then (6, gzF e1 n) else if 1 < popN n ∧ e1 (274 + 510 * iv (gvF e1 n) + 149) < wtF e1 (iv (gvF e1 n)) n then (7, wtF e1 (iv (gvF e1 n)) n) else match firF e1 0 8 n with
          | some s => (8, nI s)
          | none => (0, 0) := by
      unfold rsnD
      rw [h1, h2, ivg, h4, h5]
      exact if_neg hgv
    rw [ivg, izz] at rsn6
    rw [hlen] at t2
    by_cases h6 : e1 (274 + 510 * v + 38 + zz - 1) = 0
    · obtain ⟨v3, r1, r2⟩ := t1 h6
      rw [v3]
      exact ⟨fun _ => ⟨f121, wk_r (r := 6) (by rw [rsn6, if_pos h6]) (by decide) r1 r2⟩, fun z9 => absurd z9 (by decide)⟩
    by_cases h7 : 1 < popN n ∧ e1 (274 + 510 * v + 149) < wtF e1 v n
    · obtain ⟨v3, r1, r2⟩ := (t2 h6).1 h7
      rw [v3]
      exact ⟨fun _ => ⟨f121, wk_r (r := 7) (by rw [rsn6, if_neg h6, if_pos h7]) (by decide) r1 r2⟩, fun z9 => absurd z9 (by decide)⟩
    obtain ⟨v3, eS121⟩ := (t2 h6).2 h7
    subst eS121
    rw [v3]
    refine ⟨fun z9 => absurd rfl z9, fun _ => ⟨e0, e1, memL n ns 0, n, ⟨hw, R94, MN _ f94, hne, hlow, ns, ens, hns, hg, rfl⟩, fun v143 S138 _ h138 => ?_⟩⟩
    rw [hfi] at h138
    obtain ⟨c138, u1, u2⟩ := h138
    cases h8 : firF e1 0 8 n with
    | some s =>
      obtain ⟨v4, r1, r2⟩ := u1 s h8
      rw [v4]
      exact ⟨fun z9 => absurd z9 (by decide), fun _ => ⟨f94.tr c138.fr, wk_r (r := 8) (by rw [rsn6, if_neg h6, if_neg h7, h8]) (by decide) r1 r2⟩⟩
    | none =>
    obtain ⟨v4, eS138⟩ := u2 h8
    subst eS138
    rw [v4]
    refine ⟨fun _ => ⟨e0, e1, v, zz, ⟨hw, by omega, hz1, hz9, hSc, h6, MN _ f94⟩, fun S155 _ h155 => ?_⟩, fun z9 => absurd rfl z9⟩
    rw [s67] at h155
    obtain ⟨c155, b71, b73, b72⟩ := h155
    have f155 := f94.tr c155.fr
    have R155 := R94.c3 c155 (by decide) (MN _ f94)
    have V155 := V94.fr c155.fr R94.1 (MB _ f94) (MN _ f94)
    refine ⟨e0, e1, v, ⟨hw, by omega, V155, hwr v (by omega), MB _ f155, MN _ f155⟩, fun S169 _ h169 S180 e180 S193 e193 => ?_⟩
    obtain ⟨c169, x74, x75⟩ := h169
    have i67 : hI S155 67 x0 = wtF e1 v n := (c155.I (by decide)).trans s67
    have i69 : hI S155 69 x0 = pcF e1 v n := (c155.I (by decide)).trans s69
    have i70 : hI S155 70 x0 = lgF e1 v n := (c155.I (by decide)).trans s70
    have i68 : hI S155 68 x0 = hdF e1 v n := (c155.I (by decide)).trans s68
    have i66 : hI S155 66 x0 = nI zz := (c155.I (by decide)).trans (s66.trans ez)
    rw [i67, i69, i70, i68, i66, b71] at x74 x75
    have f169 := f155.tr c169.fr
    have V169 := V155.fr c169.fr R155.1 (MB _ f155) (MN _ f155)
    have R169 := R155.c3 c169 (by decide) (MN _ f155)
    rw [R169.2.2.1, V169.1.2.2.2.2.2.2.1, hlen] at e180
    have c180 : c3 S169 S180 x0 [76, 77] := by rw [e180]; exact c3.rf.up (by decide) _
    have c193 : c3 S169 S193 x0 [76, 77] := by rw [e193]; exact c180.up (by decide) _
    have V180 := V169.fr c180.fr R169.1 (MB _ f169) (MN _ f169)
    have keep : ∀ i, i ∉ [76, 77] → hI S193 i x0 = hI S169 i x0 := fun i hi => c193.I hi
    have keep9 : ∀ i, i ∉ [76, 77] → i ∉ [74, 75] → hI S193 i x0 = hI S155 i x0 := fun i h1 h2 => (c193.I h1).trans (c169.I h2)
    have j71 : hI S180 71 x0 = baseF e1 v zz (wtF e1 v n) := (c180.I (by decide)).trans ((c169.I (by decide)).trans b71)
    have j74 : hI S180 74 x0 = (exAC e1 v zz (wtF e1 v n) (pcF e1 v n) (lgF e1 v n) (hdF e1 v n)).1 := (c180.I (by decide)).trans x74
    have j76 : hI S180 76 x0 = stF e1 v n := by rw [e180]; exact putI_s _ _ _ _
    rw [j71, j74, j76, V180.1.2.2.2.2.2.1] at e193
    refine ⟨f169.tr c193.fr, ?_⟩
    unfold wkP
    rw [ivg, izz, rsn6, if_neg h6, if_neg h7, h8]
    refine ⟨?_, fun z9 => absurd rfl z9, fun _ => ⟨?_, ?_, ?_, ?_, ?_, ?_, ?_, ?_, ?_, ?_⟩⟩
    · exact (keep9 _ (by decide) (by decide)).trans ((c155.I (by decide)).trans s63)
    · exact (keep9 _ (by decide) (by decide)).trans ((c155.I (by decide)).trans s65)
    · exact (keep9 _ (by decide) (by decide)).trans (i66.trans ez.symm)
    · exact (keep9 _ (by decide) (by decide)).trans i67
    · exact (keep9 _ (by decide) (by decide)).trans b71
    · exact (keep9 _ (by decide) (by decide)).trans b73
    · exact (keep9 _ (by decide) (by decide)).trans b72
    · exact (keep _ (by decide)).trans x74
    · exact (keep _ (by decide)).trans x75
    · rw [e193, putI_i _ _ _ (by decide)]; exact j76
    · rw [e193, putI_s]; rfl)

end S_C1J
