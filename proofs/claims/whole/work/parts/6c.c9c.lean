section S_C9C
abbrev ws_X10_requireShipment : List Cond := Cond.code yX10_requireShipment cX10_requireShipment 3 (some (.object "FreightRater$Shipment")) :: W0
abbrev rm_X10_requireShipment : Room := ({ frames := 6, cells := 0, slots := 0, locals := 100 } : Room)
def wp_X10_requireShipment (P : Option Nat → HS → Prop) (X : String → HS → Prop) (x0 : Nat) (p0 : Int32) (S : HS) (mc ms : Nat) : Prop := ∃ b2 : Nat, hR S 220 x0 = some b2 ∧ (hK S b2 = 7 → (∃ (m4 : (Nat → Prop)) (m5 : Nat → Int32), ((WF m5 ∧ RelSt S m4 b2 m5) ∧ (∀ (o12 : Option Nat) (S7 : HS), ext S S7 → (∀ b, o12 = some b → hK S7 b = 6) → (S7 = S ∧ (zin p0 0 (m5 1 - 1) = 0 → o12 = none) ∧ (¬ zin p0 0 (m5 1 - 1) = 0 → ∃ y, o12 = some y ∧ RelS S m4 y m5 (iv p0))) → ((o12 = none → ((1 ≤ mc ∧ 6 ≤ ms) ∧ X "java/lang/IndexOutOfBoundsException" S7)) ∧ (∀ b15 : Nat, o12 = some b15 → hK S7 b15 = 6 → (P (some b15) S7)))))))
set_option maxRecDepth 100000 in
set_option maxHeartbeats 4000000 in
theorem t_X10_requireShipment {p : Program} {l : Launch} {e : Env} {s : State} {m : MethodId} {args : Array Value} {below : List Frame} {meth : Method} {c : Code} {D : va_G} {A : Nat → Prop} {T : Nat → ClassId} (C : GC p s m args meth c cX10_requireShipment "FreightRater" (ws_X10_requireShipment) 3 D A (zty T)) (E : GE T A s) (hst : l.stackTraces = false) (htab : ∀ z ∈ c.exceptionTable.toList, False) (hr : meth.sig.returnType = (some (.object "FreightRater$Shipment"))) (P : Option Nat → HS → Prop) (X : String → HS → Prop) : ∀ (x0 : Nat) (p0 : Int32) (S0 S : HS) (mc ms : Nat) (L : List Nat), S0 = S → wt S → hL S L → (hK S x0 = 11) → wp_X10_requireShipment P X x0 p0 S mc ms → GW p l e { rm_X10_requireShipment with cells := mc, slots := ms } s m args below meth c D A 3 mc ms (vx_MQ below (va_Qq (fun v (u : HS × List Nat) => (P v u.1 ∧ ∀ b, v = some b → hK u.1 b = 6) ∧ CO S0 u) (CE D T A) A) (CXX D T A S0 X) args s mc ms A) (CW T S L) mc ms 0 [(0, .ref x0), (1, .int p0)] [] := by
  have hW : ∀ {w : Cond}, w ∈ W0 → w.before args s = true := fun h => C.2.2.2.2.1 _ (List.mem_cons_of_mem _ h)
  intro x0 p0 S0 S mc ms L hS0 hw hL hx0 h
  have he : ext S0 S := by rw [hS0]; exact ext_rf
  unfold wp_X10_requireShipment at h
  refine g_aload_n C dX10_requireShipment_0 rfl 0 rfl ?_
  refine gc_getR C hw iwx_X10 hL hx0 (by decide) (by decide) rfl 0 (by decide) (hW kw_242) rfl rfl rfl dX10_requireShipment_1 (fun o1 eo1 ko1 => ?_)
  obtain ⟨b2, hb9, h⟩ := h
  have g3 : hK S b2 = 7 := ko1 b2 (eo1.trans hb9)
  replace h := h g3
  refine g_opt (eo1.trans hb9) ?_
  refine g_iload_n C dX10_requireShipment_4 rfl 1 rfl ?_
  obtain ⟨m4, m5, h⟩ := h
  obtain ⟨g6, h⟩ := h
  refine gc_callqV (host := "") C E hw hL g3 (by decide) (by decide) rfl [.int p0] rfl (k_X6_shipmentAt l D T b2 p0 S m4 m5 g3 g6) (w0_V 1 C.2.2.2.2.1 kw_1138 kw_1139 kw_1140 kw_2 kw_1141 rfl rfl (by decide +kernel) ⟨Nat.le_of_ble_eq_true rfl, Nat.le_of_ble_eq_true rfl⟩) rfl (Nat.le_of_ble_eq_true rfl) (Nat.le_refl _) (Nat.le_refl _) (Nat.zero_le _) (Nat.zero_le _) dX10_requireShipment_5 (fun o12 S7 L8 e9 w10 w11 ko12 hp => ?_)
  replace h := h o12 S7 e9 ko12 hp
  have g13 := ext_K e9 hx0 (by decide)
  have w14 := ext_tr he e9
  refine g_qstore_n (lv' := [(2, va_rf o12), (0, .ref x0), (1, .int p0)]) C dX10_requireShipment_8 rfl (by decide) rfl ?_
  refine g_qload_n C dX10_requireShipment_9 rfl 0 rfl ?_
  rcases o12 with _ | b15
  · replace h := h.1 rfl
    refine g_ifnonnullN C dX10_requireShipment_10 ?_
    obtain ⟨g17, h⟩ := h
    exact gx_throw (cls := "java/lang/IndexOutOfBoundsException") (names := ["java/lang/RuntimeException", "java/lang/Exception"]) C E hst w10 w11 w14 (Nat.le_refl _) (Nat.le_refl _) (by decide) (by decide) (hW kw_465) (hW kw_16) (th_FreightRater_72 hW E) tv_FreightRater_72 dX10_requireShipment_13 dX10_requireShipment_16 dX10_requireShipment_17 dX10_requireShipment_20 htab (Nat.le_of_ble_eq_true rfl) (Nat.le_of_ble_eq_true rfl) g17.1 g17.2 h
  · have g16 : hK S7 b15 = 6 := ko12 b15 rfl
    replace h := h.2 b15 rfl g16
    refine g_ifnonnull (tgt := 21) C dX10_requireShipment_10 (by decide) ?_
    refine g_aload_n C dX10_requireShipment_21 rfl 0 rfl ?_
    exact gx_aret (v := (some b15)) (kd := 6) C (Or.inl ⟨_, rfl⟩) (fun b hb => by cases hb; exact g16) w10 w11 w14 hr dX10_requireShipment_22 h
theorem c_X10_requireShipment (l : Launch) (hst : l.stackTraces = false) (D : va_G) (T : Nat → ClassId) (x0 : Nat) (p0 : Int32) (S : HS) (mc ms : Nat) (hx0 : hK S x0 = 11) (P : Option Nat → HS → Prop) (X : String → HS → Prop) (h : wp_X10_requireShipment P X x0 p0 S mc ms) : CXq l yX10_requireShipment (ws_X10_requireShipment) rm_X10_requireShipment D T [.ref x0, .int p0] S mc ms 6 P X := gx_metq (by decide) rfl rfl (Nat.le_of_ble_eq_true rfl) (fun p e s m args below meth c A L C E hnm hr htab hw hL => t_X10_requireShipment C E hst htab hr P X x0 p0 S S mc ms L rfl hw hL hx0 h)
theorem zv {μ : Nat → Int32} (hw : WF μ) {p : Int32} (h : ¬ zin p 0 (μ 0 - 1) = 0) : iv p < 6 ∧ iv p < iv (μ 0) ∧ p = nI (iv p) := by
  obtain ⟨n, hn, e⟩ := hw.1
  rw [e] at h ⊢
  obtain ⟨j, hj, ej⟩ := zin_m (by omega) h
  have e1 : iv p = j := by rw [ej]; exact nI_clamp (by omega)
  have e2 : iv (nI n) = n := nI_clamp (by omega)
  rw [e1, e2]
  exact ⟨by omega, hj, ej⟩
theorem zs {μ : Nat → Int32} (hw : WF μ) {p : Int32} (h : ¬ zin p 0 (μ 1 - 1) = 0) : iv p < 10 ∧ iv p < iv (μ 1) ∧ p = nI (iv p) := by
  obtain ⟨n, hn, e⟩ := hw.2.1
  rw [e] at h ⊢
  obtain ⟨j, hj, ej⟩ := zin_m (by omega) h
  have e1 : iv p = j := by rw [ej]; exact nI_clamp (by omega)
  have e2 : iv (nI n) = n := nI_clamp (by omega)
  rw [e1, e2]
  exact ⟨by omega, hj, ej⟩
theorem zz {p : Int32} (h : ¬ zin p 1 9 = 0) : 1 ≤ iv p ∧ iv p ≤ 9 ∧ p = nI (iv p) := by
  obtain ⟨j, h1, h2, e⟩ := zin_1 (m := 9) (by decide) h
  have e1 : iv p = j := by rw [e]; exact nI_clamp (by omega)
  rw [e1]
  exact ⟨h1, h2, e⟩
theorem k_X10_requireShipment (l : Launch) (hst : l.stackTraces = false) (D : va_G) (T : Nat → ClassId) (x0 : Nat) (p0 : Int32) (S : HS) (e0 : (Nat → Nat)) (e1 : (Nat → Nat → Int32)) (e2 : (Nat → Int32)) (e3 : (Nat → Int32)) (e4 : (List Int32)) (mc ms : Nat) (hx0 : hK S x0 = 11) (h : FrS S e0 e1 e2 e3 e4 ∧ x0 = e0 50 ∧ 1 ≤ mc ∧ 6 ≤ ms) : CXq l yX10_requireShipment (ws_X10_requireShipment) rm_X10_requireShipment D T [.ref x0, .int p0] S mc ms 6 (fun v S1 => (S1 = S ∧ ¬ zin p0 0 (e1 0 1 - 1) = 0 ∧ ∃ y, v = some y ∧ RelS S (fxM e0) y (e1 0) (iv p0))) (fun E9 S1 => zin p0 0 (e1 0 1 - 1) = 0 ∧ E9 = "java/lang/IndexOutOfBoundsException" ∧ S1 = S) := c_X10_requireShipment l hst D T x0 p0 S mc ms hx0 _ _ <|
  (by
    obtain ⟨h, e, hmc, hms⟩ := h
    subst e
    unfold wp_X10_requireShipment
    refine ⟨e0 0, h.r0, fun _ => ⟨fxM e0, e1 0, h.now, fun o S7 _ _ h7 => ?_⟩⟩
    obtain ⟨e7, hn, hs⟩ := h7
    subst e7
    by_cases c : zin p0 0 (e1 0 1 - 1) = 0
    · rw [hn c]
      exact ⟨fun _ => ⟨⟨hmc, hms⟩, c, rfl, rfl⟩, fun b hb => by cases hb⟩
    · obtain ⟨y, ey, hy⟩ := hs c
      rw [ey]
      refine ⟨fun z => (by cases z), fun b hb _ => ?_⟩
      cases hb
      exact ⟨rfl, c, _, rfl, hy⟩)
abbrev ws_X10_findScale : List Cond := Cond.code yX10_findScale cX10_findScale 4 (some (.object "FreightRater$Scale")) :: W0
abbrev rm_X10_findScale : Room := ({ frames := 2, cells := 0, slots := 0, locals := 43 } : Room)
def wp_X10_findScale (P : Option Nat → HS → Prop) (x0 : Nat) (p0 : Int32) (p1 : Int32) (S : HS) : Prop := ∃ b2 : Nat, hR S 220 x0 = some b2 ∧ (hK S b2 = 7 → (∃ (m4 : (Nat → Prop)) (m5 : Nat → Int32), ((WF m5 ∧ RelSt S m4 b2 m5) ∧ (∀ (o12 : Option Nat) (S7 : HS), ext S S7 → (∀ b, o12 = some b → hK S7 b = 10) → (S7 = S ∧ (zin p0 0 (m5 0 - 1) = 0 → o12 = none) ∧ (¬ zin p0 0 (m5 0 - 1) = 0 → ∃ y, o12 = some y ∧ RelV S m4 y m5 (iv p0))) → ((o12 = none → (P none S7)) ∧ (∀ b15 : Nat, o12 = some b15 → hK S7 b15 = 10 → (∃ (m17 : (Nat → Prop)) (m18 : Nat → Int32) (m19 : Nat), ((WF m18 ∧ m19 < 6 ∧ RelV S7 m17 b15 m18 m19) ∧ (∀ (o26 : Option Nat) (S21 : HS), ext S7 S21 → (∀ b, o26 = some b → hK S21 b = 5) → (S21 = S7 ∧ (zin p1 1 9 = 0 → o26 = none) ∧ (¬ zin p1 1 9 = 0 → ∃ y, o26 = some y ∧ RelSc S7 m17 y m18 m19 (iv p1) ∧ ∃ sc, hR S7 205 b15 = some sc ∧ hB S7 sc (iv p1 - 1) = some y)) → (P o26 S21))))))))))
set_option maxRecDepth 100000 in
set_option maxHeartbeats 4000000 in
theorem t_X10_findScale {p : Program} {l : Launch} {e : Env} {s : State} {m : MethodId} {args : Array Value} {below : List Frame} {meth : Method} {c : Code} {D : va_G} {A : Nat → Prop} {T : Nat → ClassId} (C : GC p s m args meth c cX10_findScale "FreightRater" (ws_X10_findScale) 4 D A (zty T)) (E : GE T A s) (hr : meth.sig.returnType = (some (.object "FreightRater$Scale"))) (P : Option Nat → HS → Prop) : ∀ (x0 : Nat) (p0 : Int32) (p1 : Int32) (S0 S : HS) (L : List Nat), S0 = S → wt S → hL S L → (hK S x0 = 11) → wp_X10_findScale P x0 p0 p1 S → GW p l e { rm_X10_findScale with cells := 0, slots := 0 } s m args below meth c D A 4 0 0 (MQ below (va_Qq (fun v (u : HS × List Nat) => (P v u.1 ∧ ∀ b, v = some b → hK u.1 b = 5) ∧ CO S0 u) (CE D T A) A) args s 0 0 A) (CW T S L) 0 0 0 [(0, .ref x0), (1, .int p0), (2, .int p1)] [] := by
  have hW : ∀ {w : Cond}, w ∈ W0 → w.before args s = true := fun h => C.2.2.2.2.1 _ (List.mem_cons_of_mem _ h)
  intro x0 p0 p1 S0 S L hS0 hw hL hx0 h
  have he : ext S0 S := by rw [hS0]; exact ext_rf
  unfold wp_X10_findScale at h
  refine g_aload_n C dX10_findScale_0 rfl 0 rfl ?_
  refine gc_getR C hw iwx_X10 hL hx0 (by decide) (by decide) rfl 0 (by decide) (hW kw_242) rfl rfl rfl dX10_findScale_1 (fun o1 eo1 ko1 => ?_)
  obtain ⟨b2, hb9, h⟩ := h
  have g3 : hK S b2 = 7 := ko1 b2 (eo1.trans hb9)
  replace h := h g3
  refine g_opt (eo1.trans hb9) ?_
  refine g_iload_n C dX10_findScale_4 rfl 1 rfl ?_
  obtain ⟨m4, m5, h⟩ := h
  obtain ⟨g6, h⟩ := h
  refine gc_callqV (host := "") C E hw hL g3 (by decide) (by decide) rfl [.int p0] rfl (k_X6_versionAt l D T b2 p0 S m4 m5 g3 g6) (w0_V 1 C.2.2.2.2.1 kw_460 kw_461 kw_462 kw_2 kw_463 rfl rfl (by decide +kernel) ⟨Nat.le_of_ble_eq_true rfl, Nat.le_of_ble_eq_true rfl⟩) rfl (Nat.le_of_ble_eq_true rfl) (Nat.le_refl _) (Nat.le_refl _) (Nat.zero_le _) (Nat.zero_le _) dX10_findScale_5 (fun o12 S7 L8 e9 w10 w11 ko12 hp => ?_)
  replace h := h o12 S7 e9 ko12 hp
  have g13 := ext_K e9 hx0 (by decide)
  have w14 := ext_tr he e9
  refine g_qstore_n (lv' := [(3, va_rf o12), (0, .ref x0), (1, .int p0), (2, .int p1)]) C dX10_findScale_8 rfl (by decide) rfl ?_
  refine g_qload_n C dX10_findScale_9 rfl 0 rfl ?_
  rcases o12 with _ | b15
  · replace h := h.1 rfl
    refine g_ifnonnullN C dX10_findScale_10 ?_
    refine g_null C dX10_findScale_13 ?_
    refine g_goto (tgt := 22) C dX10_findScale_14 (by decide) ?_
    exact gc_aret (v := none) (kd := 5) C (Or.inl ⟨_, rfl⟩) (fun b hb => by cases hb) w10 w11 w14 hr dX10_findScale_22 h
  · have g16 : hK S7 b15 = 10 := ko12 b15 rfl
    replace h := h.2 b15 rfl g16
    refine g_ifnonnull (tgt := 17) C dX10_findScale_10 (by decide) ?_
    refine g_aload_n C dX10_findScale_17 rfl 0 rfl ?_
    refine g_iload_n C dX10_findScale_18 rfl 3 rfl ?_
    obtain ⟨m17, m18, m19, h⟩ := h
    obtain ⟨g20, h⟩ := h
    refine gc_callqV (host := "") C E w10 w11 g16 (by decide) (by decide) rfl [.int p1] rfl (k_X9_scaleOf l D T b15 p1 S7 m17 m18 m19 g16 g20) (w0_V 1 C.2.2.2.2.1 kw_1029 kw_907 kw_908 kw_14 kw_909 rfl rfl (by decide +kernel) ⟨Nat.le_of_ble_eq_true rfl, Nat.le_of_ble_eq_true rfl⟩) rfl (Nat.le_of_ble_eq_true rfl) (Nat.le_refl _) (Nat.le_refl _) (Nat.zero_le _) (Nat.zero_le _) dX10_findScale_19 (fun o26 S21 L22 e23 w24 w25 ko26 hp => ?_)
    replace h := h o26 S21 e23 ko26 hp
    have g27 := ext_K e23 g16 (by decide)
    have g28 := ext_K e23 g13 (by decide)
    have w29 := ext_tr w14 e23
    exact gc_aret (v := o26) (kd := 5) C (Or.inl ⟨_, rfl⟩) ko26 w24 w25 w29 hr dX10_findScale_22 h
theorem c_X10_findScale (l : Launch) (D : va_G) (T : Nat → ClassId) (x0 : Nat) (p0 : Int32) (p1 : Int32) (S : HS) (hx0 : hK S x0 = 11) (P : Option Nat → HS → Prop) (h : wp_X10_findScale P x0 p0 p1 S) : CMq l yX10_findScale (ws_X10_findScale) rm_X10_findScale D T [.ref x0, .int p0, .int p1] S 0 0 5 P := gc_metq (by decide) rfl rfl (Nat.le_of_ble_eq_true rfl) (fun p e s m args below meth c A L C E hnm hr hw hL => t_X10_findScale C E   hr P x0 p0 p1 S S L rfl hw hL hx0 h)
theorem k_X10_findScale (l : Launch) (D : va_G) (T : Nat → ClassId) (x0 : Nat) (p0 : Int32) (p1 : Int32) (S : HS) (e0 : (Nat → Nat)) (e1 : (Nat → Nat → Int32)) (e2 : (Nat → Int32)) (e3 : (Nat → Int32)) (e4 : (List Int32)) (hx0 : hK S x0 = 11) (h : FrS S e0 e1 e2 e3 e4 ∧ x0 = e0 50) : CMq l yX10_findScale (ws_X10_findScale) rm_X10_findScale D T [.ref x0, .int p0, .int p1] S 0 0 5 (fun v S1 => (S1 = S ∧ ((zin p0 0 (e1 0 0 - 1) = 0 ∨ zin p1 1 9 = 0) → v = none) ∧ (¬ zin p0 0 (e1 0 0 - 1) = 0 → ¬ zin p1 1 9 = 0 → ∃ y, v = some y ∧ RelSc S (fxM e0) y (e1 0) (iv p0) (iv p1)))) := c_X10_findScale l D T x0 p0 p1 S hx0 _ <|
  (by
    obtain ⟨h, e⟩ := h
    subst e
    unfold wp_X10_findScale
    refine ⟨e0 0, h.r0, fun _ => ⟨fxM e0, e1 0, h.now, fun o S7 _ _ h7 => ?_⟩⟩
    obtain ⟨e7, hn, hs⟩ := h7
    subst e7
    by_cases c : zin p0 0 (e1 0 0 - 1) = 0
    · rw [hn c]
      exact ⟨fun _ => ⟨rfl, fun _ => rfl, fun z => absurd c z⟩, fun b hb => by cases hb⟩
    · obtain ⟨y, ey, hy⟩ := hs c
      rw [ey]
      refine ⟨fun z => (by cases z), fun b hb _ => ?_⟩
      cases hb
      refine ⟨fxM e0, e1 0, iv p0, ⟨h.now.1, (zv h.now.1 c).1, hy⟩, fun o S21 _ _ h21 => ?_⟩
      obtain ⟨e21, gn, gs⟩ := h21
      refine ⟨e21, fun z => ?_, fun _ z => ?_⟩
      · rcases z with z | z
        · exact absurd z c
        · exact gn z
      · obtain ⟨w, ew, hw, _⟩ := gs z
        exact ⟨w, ew, hw⟩)
abbrev ws_X10_requireAccessorial : List Cond := Cond.code yX10_requireAccessorial cX10_requireAccessorial 5 (some (.object "FreightRater$Accessorial")) :: W0
abbrev rm_X10_requireAccessorial : Room := ({ frames := 6, cells := 0, slots := 0, locals := 100 } : Room)
def wp_X10_requireAccessorial (P : Option Nat → HS → Prop) (X : String → HS → Prop) (x0 : Nat) (p0 : Int32) (p1 : Int32) (S : HS) (mc ms : Nat) : Prop := ∃ b2 : Nat, hR S 220 x0 = some b2 ∧ (hK S b2 = 7 → (∃ (m4 : (Nat → Prop)) (m5 : Nat → Int32), ((WF m5 ∧ RelSt S m4 b2 m5) ∧ (∀ (o12 : Option Nat) (S7 : HS), ext S S7 → (∀ b, o12 = some b → hK S7 b = 10) → (S7 = S ∧ (zin p0 0 (m5 0 - 1) = 0 → o12 = none) ∧ (¬ zin p0 0 (m5 0 - 1) = 0 → ∃ y, o12 = some y ∧ RelV S m4 y m5 (iv p0))) → ((o12 = none → ((1 ≤ mc ∧ 6 ≤ ms) ∧ X "java/lang/IndexOutOfBoundsException" S7)) ∧ (∀ b15 : Nat, o12 = some b15 → hK S7 b15 = 10 → (∃ (m18 : (Nat → Prop)) (m19 : Nat → Int32) (m20 : Nat), ((WF m19 ∧ m20 < 6 ∧ RelV S7 m18 b15 m19 m20) ∧ (∀ (o27 : Option Nat) (S22 : HS), ext S7 S22 → (∀ b, o27 = some b → hK S22 b = 1) → (S22 = S7 ∧ (¬ acX m19 m20 p1 → o27 = none) ∧ (acX m19 m20 p1 → ∃ y, o27 = some y ∧ RelA S7 m18 y m19 m20 (iv p1))) → ((o27 = none → ((1 ≤ mc ∧ 6 ≤ ms) ∧ X "java/util/NoSuchElementException" S22)) ∧ (∀ b31 : Nat, o27 = some b31 → hK S22 b31 = 1 → (P (some b31) S22))))))))))))
set_option maxRecDepth 100000 in
set_option maxHeartbeats 4000000 in
theorem t_X10_requireAccessorial {p : Program} {l : Launch} {e : Env} {s : State} {m : MethodId} {args : Array Value} {below : List Frame} {meth : Method} {c : Code} {D : va_G} {A : Nat → Prop} {T : Nat → ClassId} (C : GC p s m args meth c cX10_requireAccessorial "FreightRater" (ws_X10_requireAccessorial) 5 D A (zty T)) (E : GE T A s) (hst : l.stackTraces = false) (htab : ∀ z ∈ c.exceptionTable.toList, False) (hr : meth.sig.returnType = (some (.object "FreightRater$Accessorial"))) (P : Option Nat → HS → Prop) (X : String → HS → Prop) : ∀ (x0 : Nat) (p0 : Int32) (p1 : Int32) (S0 S : HS) (mc ms : Nat) (L : List Nat), S0 = S → wt S → hL S L → (hK S x0 = 11) → wp_X10_requireAccessorial P X x0 p0 p1 S mc ms → GW p l e { rm_X10_requireAccessorial with cells := mc, slots := ms } s m args below meth c D A 5 mc ms (vx_MQ below (va_Qq (fun v (u : HS × List Nat) => (P v u.1 ∧ ∀ b, v = some b → hK u.1 b = 1) ∧ CO S0 u) (CE D T A) A) (CXX D T A S0 X) args s mc ms A) (CW T S L) mc ms 0 [(0, .ref x0), (1, .int p0), (2, .int p1)] [] := by
  have hW : ∀ {w : Cond}, w ∈ W0 → w.before args s = true := fun h => C.2.2.2.2.1 _ (List.mem_cons_of_mem _ h)
  intro x0 p0 p1 S0 S mc ms L hS0 hw hL hx0 h
  have he : ext S0 S := by rw [hS0]; exact ext_rf
  unfold wp_X10_requireAccessorial at h
  refine g_aload_n C dX10_requireAccessorial_0 rfl 0 rfl ?_
  refine gc_getR C hw iwx_X10 hL hx0 (by decide) (by decide) rfl 0 (by decide) (hW kw_242) rfl rfl rfl dX10_requireAccessorial_1 (fun o1 eo1 ko1 => ?_)
  obtain ⟨b2, hb9, h⟩ := h
  have g3 : hK S b2 = 7 := ko1 b2 (eo1.trans hb9)
  replace h := h g3
  refine g_opt (eo1.trans hb9) ?_
  refine g_iload_n C dX10_requireAccessorial_4 rfl 1 rfl ?_
  obtain ⟨m4, m5, h⟩ := h
  obtain ⟨g6, h⟩ := h
  refine gc_callqV (host := "") C E hw hL g3 (by decide) (by decide) rfl [.int p0] rfl (k_X6_versionAt l D T b2 p0 S m4 m5 g3 g6) (w0_V 1 C.2.2.2.2.1 kw_460 kw_461 kw_462 kw_2 kw_463 rfl rfl (by decide +kernel) ⟨Nat.le_of_ble_eq_true rfl, Nat.le_of_ble_eq_true rfl⟩) rfl (Nat.le_of_ble_eq_true rfl) (Nat.le_refl _) (Nat.le_refl _) (Nat.zero_le _) (Nat.zero_le _) dX10_requireAccessorial_5 (fun o12 S7 L8 e9 w10 w11 ko12 hp => ?_)
  replace h := h o12 S7 e9 ko12 hp
  have g13 := ext_K e9 hx0 (by decide)
  have w14 := ext_tr he e9
  refine g_qstore_n (lv' := [(3, va_rf o12), (0, .ref x0), (1, .int p0), (2, .int p1)]) C dX10_requireAccessorial_8 rfl (by decide) rfl ?_
  refine g_qload_n C dX10_requireAccessorial_9 rfl 0 rfl ?_
  rcases o12 with _ | b15
  · replace h := h.1 rfl
    refine g_ifnonnullN C dX10_requireAccessorial_10 ?_
    obtain ⟨g17, h⟩ := h
    exact gx_throw (cls := "java/lang/IndexOutOfBoundsException") (names := ["java/lang/RuntimeException", "java/lang/Exception"]) C E hst w10 w11 w14 (Nat.le_refl _) (Nat.le_refl _) (by decide) (by decide) (hW kw_465) (hW kw_16) (th_FreightRater_72 hW E) tv_FreightRater_72 dX10_requireAccessorial_13 dX10_requireAccessorial_16 dX10_requireAccessorial_17 dX10_requireAccessorial_20 htab (Nat.le_of_ble_eq_true rfl) (Nat.le_of_ble_eq_true rfl) g17.1 g17.2 h
  · have g16 : hK S7 b15 = 10 := ko12 b15 rfl
    replace h := h.2 b15 rfl g16
    refine g_ifnonnull (tgt := 21) C dX10_requireAccessorial_10 (by decide) ?_
    refine g_aload_n C dX10_requireAccessorial_21 rfl 0 rfl ?_
    refine g_iload_n C dX10_requireAccessorial_22 rfl 3 rfl ?_
    obtain ⟨m18, m19, m20, h⟩ := h
    obtain ⟨g21, h⟩ := h
    refine gc_callqV (host := "") C E w10 w11 g16 (by decide) (by decide) rfl [.int p1] rfl (k_X9_accessorialAt l D T b15 p1 S7 m18 m19 m20 g16 g21) (w0_V 1 C.2.2.2.2.1 kw_1041 kw_940 kw_941 kw_14 kw_942 rfl rfl (by decide +kernel) ⟨Nat.le_of_ble_eq_true rfl, Nat.le_of_ble_eq_true rfl⟩) rfl (Nat.le_of_ble_eq_true rfl) (Nat.le_refl _) (Nat.le_refl _) (Nat.zero_le _) (Nat.zero_le _) dX10_requireAccessorial_23 (fun o27 S22 L23 e24 w25 w26 ko27 hp => ?_)
    replace h := h o27 S22 e24 ko27 hp
    have g28 := ext_K e24 g16 (by decide)
    have g29 := ext_K e24 g13 (by decide)
    have w30 := ext_tr w14 e24
    refine g_qstore (lv' := [(4, va_rf o27), (3, .ref b15), (0, .ref x0), (1, .int p0), (2, .int p1)]) C dX10_requireAccessorial_26 (by decide) rfl ?_
    refine g_qload C dX10_requireAccessorial_28 0 rfl ?_
    rcases o27 with _ | b31
    · replace h := h.1 rfl
      refine g_ifnonnullN C dX10_requireAccessorial_30 ?_
      obtain ⟨g33, h⟩ := h
      exact gx_throw (cls := "java/util/NoSuchElementException") (names := ["java/lang/RuntimeException", "java/lang/Exception"]) C E hst w25 w26 w30 (Nat.le_refl _) (Nat.le_refl _) (by decide) (by decide) (hW kw_966) (hW kw_34) (th_FreightRater_136 hW E) tv_FreightRater_136 dX10_requireAccessorial_33 dX10_requireAccessorial_36 dX10_requireAccessorial_37 dX10_requireAccessorial_40 htab (Nat.le_of_ble_eq_true rfl) (Nat.le_of_ble_eq_true rfl) g33.1 g33.2 h
    · have g32 : hK S22 b31 = 1 := ko27 b31 rfl
      replace h := h.2 b31 rfl g32
      refine g_ifnonnull (tgt := 41) C dX10_requireAccessorial_30 (by decide) ?_
      refine g_aload C dX10_requireAccessorial_41 0 rfl ?_
      exact gx_aret (v := (some b31)) (kd := 1) C (Or.inl ⟨_, rfl⟩) (fun b hb => by cases hb; exact g32) w25 w26 w30 hr dX10_requireAccessorial_43 h
theorem c_X10_requireAccessorial (l : Launch) (hst : l.stackTraces = false) (D : va_G) (T : Nat → ClassId) (x0 : Nat) (p0 : Int32) (p1 : Int32) (S : HS) (mc ms : Nat) (hx0 : hK S x0 = 11) (P : Option Nat → HS → Prop) (X : String → HS → Prop) (h : wp_X10_requireAccessorial P X x0 p0 p1 S mc ms) : CXq l yX10_requireAccessorial (ws_X10_requireAccessorial) rm_X10_requireAccessorial D T [.ref x0, .int p0, .int p1] S mc ms 1 P X := gx_metq (by decide) rfl rfl (Nat.le_of_ble_eq_true rfl) (fun p e s m args below meth c A L C E hnm hr htab hw hL => t_X10_requireAccessorial C E hst htab hr P X x0 p0 p1 S S mc ms L rfl hw hL hx0 h)
theorem k_X10_requireAccessorial (l : Launch) (hst : l.stackTraces = false) (D : va_G) (T : Nat → ClassId) (x0 : Nat) (p0 : Int32) (p1 : Int32) (S : HS) (e0 : (Nat → Nat)) (e1 : (Nat → Nat → Int32)) (e2 : (Nat → Int32)) (e3 : (Nat → Int32)) (e4 : (List Int32)) (mc ms : Nat) (hx0 : hK S x0 = 11) (h : FrS S e0 e1 e2 e3 e4 ∧ x0 = e0 50 ∧ 1 ≤ mc ∧ 6 ≤ ms) : CXq l yX10_requireAccessorial (ws_X10_requireAccessorial) rm_X10_requireAccessorial D T [.ref x0, .int p0, .int p1] S mc ms 1 (fun v S1 => (S1 = S ∧ wrC (e1 0) p0 p1 = 0 ∧ ∃ y, v = some y ∧ RelA S (fxM e0) y (e1 0) (iv p0) (iv p1))) (fun E9 S1 => ((wrC (e1 0) p0 p1 = 1 ∧ E9 = "java/lang/IndexOutOfBoundsException") ∨ (wrC (e1 0) p0 p1 = 2 ∧ E9 = "java/util/NoSuchElementException")) ∧ S1 = S) := c_X10_requireAccessorial l hst D T x0 p0 p1 S mc ms hx0 _ _ <|
  (by
    obtain ⟨h, e, hmc, hms⟩ := h
    subst e
    unfold wp_X10_requireAccessorial
    refine ⟨e0 0, h.r0, fun _ => ⟨fxM e0, e1 0, h.now, fun o S7 _ _ h7 => ?_⟩⟩
    obtain ⟨e7, hn, hs⟩ := h7
    subst e7
    by_cases c : zin p0 0 (e1 0 0 - 1) = 0
    · rw [hn c]
      exact ⟨fun _ => ⟨⟨hmc, hms⟩, Or.inl ⟨by unfold wrC; rw [if_pos c], rfl⟩, rfl⟩, fun b hb => by cases hb⟩
    · obtain ⟨y, ey, hy⟩ := hs c
      rw [ey]
      refine ⟨fun z => (by cases z), fun b hb _ => ?_⟩
      cases hb
      refine ⟨fxM e0, e1 0, iv p0, ⟨h.now.1, (zv h.now.1 c).1, hy⟩, fun o S22 _ _ h22 => ?_⟩
      obtain ⟨e22, gn, gs⟩ := h22
      subst e22
      by_cases c2 : acX (e1 0) (iv p0) p1
      · obtain ⟨w, ew, hw⟩ := gs c2
        rw [ew]
        refine ⟨fun z => (by cases z), fun b9 hb _ => ?_⟩
        cases hb
        exact ⟨rfl, by unfold wrC; rw [if_neg c, if_neg c2.1, if_neg c2.2], _, rfl, hw⟩
      · rw [gn c2]
        refine ⟨fun _ => ⟨⟨hmc, hms⟩, Or.inr ⟨?_, rfl⟩, rfl⟩, fun b hb => by cases hb⟩
        unfold wrC
        rw [if_neg c]
        by_cases c3' : zin p1 0 9 = 0
        · rw [if_pos c3']
        · rw [if_neg c3', if_pos]
          by_cases c4 : e1 0 (274 + 510 * iv p0 + 150 + 36 * iv p1) = 0
          · exact c4
          · exact absurd ⟨c3', c4⟩ c2)
abbrev ws_X10_versionOn : List Cond := Cond.code yX10_versionOn cX10_versionOn 3 (some .int) :: W0
abbrev rm_X10_versionOn : Room := ({ frames := 6, cells := 0, slots := 0, locals := 100 } : Room)
def wp_X10_versionOn (P : Int32 → HS → Prop) (X : String → HS → Prop) (x0 : Nat) (p0 : Int32) (S : HS) (mc ms : Nat) : Prop := (¬ (zin p0 0 999) = 0 → (∃ b7 : Nat, hR S 220 x0 = some b7 ∧ (hK S b7 = 7 → (∃ (m9 : (Nat → Prop)) (m10 : Nat → Int32), ((WF m10 ∧ RelSt S m9 b7 m10) ∧ (∀ v16 : Int32, v16 = (vOf m10 p0) → ((0 ≤ v16 → (P v16 S)) ∧ (¬ 0 ≤ v16 → ((1 ≤ mc ∧ 6 ≤ ms) ∧ X "java/util/NoSuchElementException" S))))))))) ∧ ((zin p0 0 999) = 0 → ((1 ≤ mc ∧ 6 ≤ ms) ∧ X "java/lang/IllegalArgumentException" S))
set_option maxRecDepth 100000 in
set_option maxHeartbeats 4000000 in
theorem t_X10_versionOn {p : Program} {l : Launch} {e : Env} {s : State} {m : MethodId} {args : Array Value} {below : List Frame} {meth : Method} {c : Code} {D : va_G} {A : Nat → Prop} {T : Nat → ClassId} (C : GC p s m args meth c cX10_versionOn "FreightRater" (ws_X10_versionOn) 3 D A (zty T)) (E : GE T A s) (hst : l.stackTraces = false) (htab : ∀ z ∈ c.exceptionTable.toList, False) (hr : meth.sig.returnType = (some .int)) (P : Int32 → HS → Prop) (X : String → HS → Prop) : ∀ (x0 : Nat) (p0 : Int32) (S0 S : HS) (mc ms : Nat) (L : List Nat), S0 = S → wt S → hL S L → (hK S x0 = 11) → wp_X10_versionOn P X x0 p0 S mc ms → GW p l e { rm_X10_versionOn with cells := mc, slots := ms } s m args below meth c D A 3 mc ms (vx_MQ below (va_Qi (fun v (u : HS × List Nat) => P v u.1 ∧ CO S0 u) (CE D T A) A) (CXX D T A S0 X) args s mc ms A) (CW T S L) mc ms 0 [(0, .ref x0), (1, .int p0)] [] := by
  have hW : ∀ {w : Cond}, w ∈ W0 → w.before args s = true := fun h => C.2.2.2.2.1 _ (List.mem_cons_of_mem _ h)
  intro x0 p0 S0 S mc ms L hS0 hw hL hx0 h
  have he : ext S0 S := by rw [hS0]; exact ext_rf
  unfold wp_X10_versionOn at h
  refine g_iload_n C dX10_versionOn_0 rfl 1 rfl ?_
  refine g_iconst (v := 0) C dX10_versionOn_1 (by decide) ?_
  refine g_sipush (v := 999) C dX10_versionOn_2 (by decide) ?_
  refine gc_calliS (host := "") C E hw hL [.int p0, .int 0, .int 999] rfl (k_X10_isBetween l D T p0 0 999 S ) (w0_S 3 C.2.2.2.2.1 kw_303 kw_304 kw_1 kw_305 rfl rfl (by decide +kernel) ⟨Nat.le_of_ble_eq_true rfl, Nat.le_of_ble_eq_true rfl⟩) rfl (Nat.le_of_ble_eq_true rfl) (Nat.le_refl _) (Nat.le_refl _) (Nat.zero_le _) (Nat.zero_le _) dX10_versionOn_5 (fun v9 S9 L1 he9 hw9 hL9 hp => ?_)
  obtain ⟨hv9, hs9⟩ := hp
  replace hs9 := hs9.symm
  subst hs9
  replace hv9 := hv9.symm
  subst hv9
  have w4 := hL9
  refine g_if_ne (tgt := 19) C dX10_versionOn_8 (by decide) (fun z5 => ?_) (fun z5 => ?_)
  · replace h := h.1 z5
    refine g_aload_n C dX10_versionOn_19 rfl 0 rfl ?_
    refine gc_getR C hw iwx_X10 w4 hx0 (by decide) (by decide) rfl 0 (by decide) (hW kw_242) rfl rfl rfl dX10_versionOn_20 (fun o6 eo6 ko6 => ?_)
    obtain ⟨b7, hb9, h⟩ := h
    have g8 : hK S b7 = 7 := ko6 b7 (eo6.trans hb9)
    replace h := h g8
    refine g_opt (eo6.trans hb9) ?_
    refine g_iload_n C dX10_versionOn_23 rfl 1 rfl ?_
    obtain ⟨m9, m10, h⟩ := h
    obtain ⟨g11, h⟩ := h
    refine gc_calliV (host := "") C E hw w4 g8 (by decide) (by decide) rfl [.int p0] rfl (k_X6_versionFor l D T b7 p0 S m9 m10 g8 g11) (w0_V 1 C.2.2.2.2.1 kw_988 kw_989 kw_990 kw_2 kw_991 rfl rfl (by decide +kernel) ⟨Nat.le_of_ble_eq_true rfl, Nat.le_of_ble_eq_true rfl⟩) rfl (Nat.le_of_ble_eq_true rfl) (Nat.le_refl _) (Nat.le_refl _) (Nat.zero_le _) (Nat.zero_le _) dX10_versionOn_24 (fun v9 S9 L12 he9 hw9 hL9 hp => ?_)
    obtain ⟨hv9, hs9⟩ := hp
    replace hs9 := hs9.symm
    subst hs9
    replace hv9 := hv9.symm
    subst hv9
    have w15 := hL9
    refine g_topi (fun v16 ev16 => ?_)
    replace h := h v16 ev16
    refine g_istore_n (lv' := [(2, .int v16), (0, .ref x0), (1, .int p0)]) C dX10_versionOn_27 rfl (by decide) rfl ?_
    refine g_iload_n C dX10_versionOn_28 rfl 0 rfl ?_
    refine g_if_ge (tgt := 40) C dX10_versionOn_29 (by decide) (fun z17 => ?_) (fun z17 => ?_)
    · replace h := h.1 z17
      refine g_iload_n C dX10_versionOn_40 rfl 0 rfl ?_
      exact gx_iret C hw w15 he hr dX10_versionOn_41 h
    · replace h := h.2 z17
      obtain ⟨g18, h⟩ := h
      exact gx_throw (cls := "java/util/NoSuchElementException") (names := ["java/lang/RuntimeException", "java/lang/Exception"]) C E hst hw w15 he (Nat.le_refl _) (Nat.le_refl _) (by decide) (by decide) (hW kw_966) (hW kw_34) (th_FreightRater_136 hW E) tv_FreightRater_136 dX10_versionOn_32 dX10_versionOn_35 dX10_versionOn_36 dX10_versionOn_39 htab (Nat.le_of_ble_eq_true rfl) (Nat.le_of_ble_eq_true rfl) g18.1 g18.2 h
  · replace h := h.2 z5
    obtain ⟨g19, h⟩ := h
    exact gx_throw (cls := "java/lang/IllegalArgumentException") (names := ["java/lang/RuntimeException", "java/lang/Exception"]) C E hst hw w4 he (Nat.le_refl _) (Nat.le_refl _) (by decide) (by decide) (hW kw_310) (hW kw_13) (th_FreightRater_62 hW E) tv_FreightRater_62 dX10_versionOn_11 dX10_versionOn_14 dX10_versionOn_15 dX10_versionOn_18 htab (Nat.le_of_ble_eq_true rfl) (Nat.le_of_ble_eq_true rfl) g19.1 g19.2 h
theorem c_X10_versionOn (l : Launch) (hst : l.stackTraces = false) (D : va_G) (T : Nat → ClassId) (x0 : Nat) (p0 : Int32) (S : HS) (mc ms : Nat) (hx0 : hK S x0 = 11) (P : Int32 → HS → Prop) (X : String → HS → Prop) (h : wp_X10_versionOn P X x0 p0 S mc ms) : CXi l yX10_versionOn (ws_X10_versionOn) rm_X10_versionOn D T [.ref x0, .int p0] S mc ms P X := gx_meti (by decide) rfl rfl (Nat.le_of_ble_eq_true rfl) (fun p e s m args below meth c A L C E hnm hr htab hw hL => t_X10_versionOn C E hst htab hr P X x0 p0 S S mc ms L rfl hw hL hx0 h)
theorem k_X10_versionOn (l : Launch) (hst : l.stackTraces = false) (D : va_G) (T : Nat → ClassId) (x0 : Nat) (p0 : Int32) (S : HS) (e0 : (Nat → Nat)) (e1 : (Nat → Nat → Int32)) (e2 : (Nat → Int32)) (e3 : (Nat → Int32)) (e4 : (List Int32)) (mc ms : Nat) (hx0 : hK S x0 = 11) (h : FrS S e0 e1 e2 e3 e4 ∧ x0 = e0 50 ∧ 200 ≤ mc ∧ 2000 ≤ ms) : CXi l yX10_versionOn (ws_X10_versionOn) rm_X10_versionOn D T [.ref x0, .int p0] S mc ms (fun v S1 => (vonC (e1 0) p0 = 0 ∧ v = vOf (e1 0) p0 ∧ FrS S1 e0 e1 e2 e3 e4)) (fun E9 S1 => ((vonC (e1 0) p0 = 1 ∧ E9 = "java/lang/IllegalArgumentException") ∨ (vonC (e1 0) p0 = 2 ∧ E9 = "java/util/NoSuchElementException")) ∧ FrS S1 e0 e1 e2 e3 e4) := c_X10_versionOn l hst D T x0 p0 S mc ms hx0 _ _ <|
  (by
    obtain ⟨h, e, hmc, hms⟩ := h
    subst e
    unfold wp_X10_versionOn vonC
    refine ⟨fun c => ⟨e0 0, h.r0, fun _ => ⟨fxM e0, e1 0, h.now, fun v ev => ⟨fun c2 => ?_, fun c2 => ⟨⟨by omega, by omega⟩, ?_⟩⟩⟩⟩, fun c => ⟨⟨by omega, by omega⟩, Or.inl ⟨by rw [if_pos c], rfl⟩, h⟩⟩
    · rw [ev] at c2
      rw [if_neg c, if_neg (Int32.not_lt.mpr c2)]
      exact ⟨rfl, ev, h⟩
    · rw [ev] at c2
      exact ⟨Or.inr ⟨by rw [if_neg c, if_pos (Int32.not_le.mp c2)], rfl⟩, h⟩)
abbrev ws_X10_version : List Cond := Cond.code yX10_version cX10_version 4 (some .int) :: W0
abbrev rm_X10_version : Room := ({ frames := 6, cells := 0, slots := 0, locals := 100 } : Room)
def wp_X10_version (P : Int32 → HS → Prop) (X : String → HS → Prop) (x0 : Nat) (p0 : Int32) (p1 : Int32) (S : HS) (mc ms : Nat) : Prop := ∃ b2 : Nat, hR S 220 x0 = some b2 ∧ (hK S b2 = 7 → (∃ (m4 : (Nat → Prop)) (m5 : Nat → Int32), ((WF m5 ∧ RelSt S m4 b2 m5) ∧ (∀ (o12 : Option Nat) (S7 : HS), ext S S7 → (∀ b, o12 = some b → hK S7 b = 10) → (S7 = S ∧ (zin p0 0 (m5 0 - 1) = 0 → o12 = none) ∧ (¬ zin p0 0 (m5 0 - 1) = 0 → ∃ y, o12 = some y ∧ RelV S m4 y m5 (iv p0))) → ((o12 = none → ((1 ≤ mc ∧ 6 ≤ ms) ∧ X "java/lang/IndexOutOfBoundsException" S7)) ∧ (∀ b15 : Nat, o12 = some b15 → hK S7 b15 = 10 → ((p1 = 0 → (P (hI S7 200 b15) S7)) ∧ (¬ p1 = 0 → ((p1 = 1 → (P (hI S7 201 b15) S7)) ∧ (¬ p1 = 1 → ((p1 = 2 → (P (hI S7 206 b15) S7)) ∧ (¬ p1 = 2 → ((p1 = 3 → (P (hI S7 207 b15) S7)) ∧ (¬ p1 = 3 → ((p1 = 4 → (P (hI S7 208 b15) S7)) ∧ (¬ p1 = 4 → ((p1 = 5 → (P (hI S7 209 b15) S7)) ∧ (¬ p1 = 5 → ((p1 = 6 → (∃ (m25 : (Nat → Prop)) (m26 : Nat → Int32) (m27 : Nat), ((WF m26 ∧ m27 < 6 ∧ RelV S7 m25 b15 m26 m27) ∧ (P (eSet m26 m27) S7)))) ∧ (¬ p1 = 6 → ((p1 = 7 → (∃ (m34 : (Nat → Prop)) (m35 : Nat → Int32) (m36 : Nat), ((WF m35 ∧ m36 < 6 ∧ RelV S7 m34 b15 m35 m36) ∧ (P (aBr m35 m36) S7)))) ∧ (¬ p1 = 7 → ((1 ≤ mc ∧ 6 ≤ ms) ∧ X "java/lang/IllegalArgumentException" S7)))))))))))))))))))))))
set_option maxRecDepth 100000 in
set_option maxHeartbeats 4000000 in
theorem t_X10_version {p : Program} {l : Launch} {e : Env} {s : State} {m : MethodId} {args : Array Value} {below : List Frame} {meth : Method} {c : Code} {D : va_G} {A : Nat → Prop} {T : Nat → ClassId} (C : GC p s m args meth c cX10_version "FreightRater" (ws_X10_version) 4 D A (zty T)) (E : GE T A s) (hst : l.stackTraces = false) (htab : ∀ z ∈ c.exceptionTable.toList, False) (hr : meth.sig.returnType = (some .int)) (P : Int32 → HS → Prop) (X : String → HS → Prop) : ∀ (x0 : Nat) (p0 : Int32) (p1 : Int32) (S0 S : HS) (mc ms : Nat) (L : List Nat), S0 = S → wt S → hL S L → (hK S x0 = 11) → wp_X10_version P X x0 p0 p1 S mc ms → GW p l e { rm_X10_version with cells := mc, slots := ms } s m args below meth c D A 4 mc ms (vx_MQ below (va_Qi (fun v (u : HS × List Nat) => P v u.1 ∧ CO S0 u) (CE D T A) A) (CXX D T A S0 X) args s mc ms A) (CW T S L) mc ms 0 [(0, .ref x0), (1, .int p0), (2, .int p1)] [] := by
  have hW : ∀ {w : Cond}, w ∈ W0 → w.before args s = true := fun h => C.2.2.2.2.1 _ (List.mem_cons_of_mem _ h)
  intro x0 p0 p1 S0 S mc ms L hS0 hw hL hx0 h
  have he : ext S0 S := by rw [hS0]; exact ext_rf
  unfold wp_X10_version at h
  refine g_aload_n C dX10_version_0 rfl 0 rfl ?_
  refine gc_getR C hw iwx_X10 hL hx0 (by decide) (by decide) rfl 0 (by decide) (hW kw_242) rfl rfl rfl dX10_version_1 (fun o1 eo1 ko1 => ?_)
  obtain ⟨b2, hb9, h⟩ := h
  have g3 : hK S b2 = 7 := ko1 b2 (eo1.trans hb9)
  replace h := h g3
  refine g_opt (eo1.trans hb9) ?_
  refine g_iload_n C dX10_version_4 rfl 1 rfl ?_
  obtain ⟨m4, m5, h⟩ := h
  obtain ⟨g6, h⟩ := h
  refine gc_callqV (host := "") C E hw hL g3 (by decide) (by decide) rfl [.int p0] rfl (k_X6_versionAt l D T b2 p0 S m4 m5 g3 g6) (w0_V 1 C.2.2.2.2.1 kw_460 kw_461 kw_462 kw_2 kw_463 rfl rfl (by decide +kernel) ⟨Nat.le_of_ble_eq_true rfl, Nat.le_of_ble_eq_true rfl⟩) rfl (Nat.le_of_ble_eq_true rfl) (Nat.le_refl _) (Nat.le_refl _) (Nat.zero_le _) (Nat.zero_le _) dX10_version_5 (fun o12 S7 L8 e9 w10 w11 ko12 hp => ?_)
  replace h := h o12 S7 e9 ko12 hp
  have g13 := ext_K e9 hx0 (by decide)
  have w14 := ext_tr he e9
  refine g_qstore_n (lv' := [(3, va_rf o12), (0, .ref x0), (1, .int p0), (2, .int p1)]) C dX10_version_8 rfl (by decide) rfl ?_
  refine g_qload_n C dX10_version_9 rfl 0 rfl ?_
  rcases o12 with _ | b15
  · replace h := h.1 rfl
    refine g_ifnonnullN C dX10_version_10 ?_
    obtain ⟨g17, h⟩ := h
    exact gx_throw (cls := "java/lang/IndexOutOfBoundsException") (names := ["java/lang/RuntimeException", "java/lang/Exception"]) C E hst w10 w11 w14 (Nat.le_refl _) (Nat.le_refl _) (by decide) (by decide) (hW kw_465) (hW kw_16) (th_FreightRater_72 hW E) tv_FreightRater_72 dX10_version_13 dX10_version_16 dX10_version_17 dX10_version_20 htab (Nat.le_of_ble_eq_true rfl) (Nat.le_of_ble_eq_true rfl) g17.1 g17.2 h
  · have g16 : hK S7 b15 = 10 := ko12 b15 rfl
    replace h := h.2 b15 rfl g16
    refine g_ifnonnull (tgt := 21) C dX10_version_10 (by decide) ?_
    refine g_iload_n C dX10_version_21 rfl 3 rfl ?_
    rcases Decidable.em (p1 = 0) with z18 | z18
    · refine g_tableIn (off := 46) (tgt := 68) C dX10_version_22 (by rw [z18]; decide) (by rw [z18]; decide) (by rw [z18]; decide) (by decide) ?_
      replace h := h.1 z18
      refine g_aload_n C dX10_version_68 rfl 0 rfl ?_
      refine gc_getI C iwx_X9 w11 g16 (by decide) (by decide) rfl 0 (by decide) (hW kw_415) rfl rfl rfl dX10_version_69 ?_
      exact gx_iret C w10 w11 w14 hr dX10_version_72 h
    replace h := h.2 z18
    rcases Decidable.em (p1 = 1) with z19 | z19
    · refine g_tableIn (off := 51) (tgt := 73) C dX10_version_22 (by rw [z19]; decide) (by rw [z19]; decide) (by rw [z19]; decide) (by decide) ?_
      replace h := h.1 z19
      refine g_aload_n C dX10_version_73 rfl 0 rfl ?_
      refine gc_getI C iwx_X9 w11 g16 (by decide) (by decide) rfl 1 (by decide) (hW kw_418) rfl rfl rfl dX10_version_74 ?_
      exact gx_iret C w10 w11 w14 hr dX10_version_77 h
    replace h := h.2 z19
    rcases Decidable.em (p1 = 2) with z20 | z20
    · refine g_tableIn (off := 56) (tgt := 78) C dX10_version_22 (by rw [z20]; decide) (by rw [z20]; decide) (by rw [z20]; decide) (by decide) ?_
      replace h := h.1 z20
      refine g_aload_n C dX10_version_78 rfl 0 rfl ?_
      refine gc_getI C iwx_X9 w11 g16 (by decide) (by decide) rfl 6 (by decide) (hW kw_424) rfl rfl rfl dX10_version_79 ?_
      exact gx_iret C w10 w11 w14 hr dX10_version_82 h
    replace h := h.2 z20
    rcases Decidable.em (p1 = 3) with z21 | z21
    · refine g_tableIn (off := 61) (tgt := 83) C dX10_version_22 (by rw [z21]; decide) (by rw [z21]; decide) (by rw [z21]; decide) (by decide) ?_
      replace h := h.1 z21
      refine g_aload_n C dX10_version_83 rfl 0 rfl ?_
      refine gc_getI C iwx_X9 w11 g16 (by decide) (by decide) rfl 7 (by decide) (hW kw_428) rfl rfl rfl dX10_version_84 ?_
      exact gx_iret C w10 w11 w14 hr dX10_version_87 h
    replace h := h.2 z21
    rcases Decidable.em (p1 = 4) with z22 | z22
    · refine g_tableIn (off := 66) (tgt := 88) C dX10_version_22 (by rw [z22]; decide) (by rw [z22]; decide) (by rw [z22]; decide) (by decide) ?_
      replace h := h.1 z22
      refine g_aload_n C dX10_version_88 rfl 0 rfl ?_
      refine gc_getI C iwx_X9 w11 g16 (by decide) (by decide) rfl 8 (by decide) (hW kw_431) rfl rfl rfl dX10_version_89 ?_
      exact gx_iret C w10 w11 w14 hr dX10_version_92 h
    replace h := h.2 z22
    rcases Decidable.em (p1 = 5) with z23 | z23
    · refine g_tableIn (off := 71) (tgt := 93) C dX10_version_22 (by rw [z23]; decide) (by rw [z23]; decide) (by rw [z23]; decide) (by decide) ?_
      replace h := h.1 z23
      refine g_aload_n C dX10_version_93 rfl 0 rfl ?_
      refine gc_getI C iwx_X9 w11 g16 (by decide) (by decide) rfl 9 (by decide) (hW kw_433) rfl rfl rfl dX10_version_94 ?_
      exact gx_iret C w10 w11 w14 hr dX10_version_97 h
    replace h := h.2 z23
    rcases Decidable.em (p1 = 6) with z24 | z24
    · refine g_tableIn (off := 76) (tgt := 98) C dX10_version_22 (by rw [z24]; decide) (by rw [z24]; decide) (by rw [z24]; decide) (by decide) ?_
      replace h := h.1 z24
      refine g_aload_n C dX10_version_98 rfl 0 rfl ?_
      obtain ⟨m25, m26, m27, h⟩ := h
      obtain ⟨g28, h⟩ := h
      refine gc_calliV (host := "") C E w10 w11 g16 (by decide) (by decide) rfl [] rfl (k_X9_accessorialSet l D T b15 S7 m25 m26 m27 g16 g28) (w0_V 0 C.2.2.2.2.1 kw_999 kw_1000 kw_1001 kw_14 kw_1002 rfl rfl (by decide +kernel) ⟨Nat.le_of_ble_eq_true rfl, Nat.le_of_ble_eq_true rfl⟩) rfl (Nat.le_of_ble_eq_true rfl) (Nat.le_refl _) (Nat.le_refl _) (Nat.zero_le _) (Nat.zero_le _) dX10_version_99 (fun v9 S9 L29 he9 hw9 hL9 hp => ?_)
      obtain ⟨hv9, hs9⟩ := hp
      replace hs9 := hs9.symm
      subst hs9
      replace hv9 := hv9.symm
      subst hv9
      have w32 := hL9
      exact gx_iret C w10 w32 w14 hr dX10_version_102 h
    replace h := h.2 z24
    rcases Decidable.em (p1 = 7) with z33 | z33
    · refine g_tableIn (off := 81) (tgt := 103) C dX10_version_22 (by rw [z33]; decide) (by rw [z33]; decide) (by rw [z33]; decide) (by decide) ?_
      replace h := h.1 z33
      refine g_aload_n C dX10_version_103 rfl 0 rfl ?_
      obtain ⟨m34, m35, m36, h⟩ := h
      obtain ⟨g37, h⟩ := h
      refine gc_calliV (host := "") C E w10 w11 g16 (by decide) (by decide) rfl [] rfl (k_X9_countBreaks l D T b15 S7 m34 m35 m36 g16 g37) (w0_V 0 C.2.2.2.2.1 kw_1003 kw_1004 kw_1005 kw_14 kw_1006 rfl rfl (by decide +kernel) ⟨Nat.le_of_ble_eq_true rfl, Nat.le_of_ble_eq_true rfl⟩) rfl (Nat.le_of_ble_eq_true rfl) (Nat.le_refl _) (Nat.le_refl _) (Nat.zero_le _) (Nat.zero_le _) dX10_version_104 (fun v9 S9 L38 he9 hw9 hL9 hp => ?_)
      obtain ⟨hv9, hs9⟩ := hp
      replace hs9 := hs9.symm
      subst hs9
      replace hv9 := hv9.symm
      subst hv9
      have w41 := hL9
      exact gx_iret C w10 w41 w14 hr dX10_version_107 h
    replace h := h.2 z33
    refine g_tableD (tgt := 108) C dX10_version_22 (by decide) (fun j hj => ?_) (by decide) ?_
    · rcases (show j = 0 ∨ j = 1 ∨ j = 2 ∨ j = 3 ∨ j = 4 ∨ j = 5 ∨ j = 6 ∨ j = 7 by have hj2 : j < 8 := hj; omega) with rfl | rfl | rfl | rfl | rfl | rfl | rfl | rfl <;> first | exact Or.inr rfl | exact Or.inl (by first | exact lv_neT z18 rfl | exact lv_neT z19 rfl | exact lv_neT z20 rfl | exact lv_neT z21 rfl | exact lv_neT z22 rfl | exact lv_neT z23 rfl | exact lv_neT z24 rfl | exact lv_neT z33 rfl)
    obtain ⟨g42, h⟩ := h
    exact gx_throw (cls := "java/lang/IllegalArgumentException") (names := ["java/lang/RuntimeException", "java/lang/Exception"]) C E hst w10 w11 w14 (Nat.le_refl _) (Nat.le_refl _) (by decide) (by decide) (hW kw_310) (hW kw_13) (th_FreightRater_62 hW E) tv_FreightRater_62 dX10_version_108 dX10_version_111 dX10_version_112 dX10_version_115 htab (Nat.le_of_ble_eq_true rfl) (Nat.le_of_ble_eq_true rfl) g42.1 g42.2 h
theorem c_X10_version (l : Launch) (hst : l.stackTraces = false) (D : va_G) (T : Nat → ClassId) (x0 : Nat) (p0 : Int32) (p1 : Int32) (S : HS) (mc ms : Nat) (hx0 : hK S x0 = 11) (P : Int32 → HS → Prop) (X : String → HS → Prop) (h : wp_X10_version P X x0 p0 p1 S mc ms) : CXi l yX10_version (ws_X10_version) rm_X10_version D T [.ref x0, .int p0, .int p1] S mc ms P X := gx_meti (by decide) rfl rfl (Nat.le_of_ble_eq_true rfl) (fun p e s m args below meth c A L C E hnm hr htab hw hL => t_X10_version C E hst htab hr P X x0 p0 p1 S S mc ms L rfl hw hL hx0 h)
theorem k_X10_version (l : Launch) (hst : l.stackTraces = false) (D : va_G) (T : Nat → ClassId) (x0 : Nat) (p0 : Int32) (p1 : Int32) (S : HS) (e0 : (Nat → Nat)) (e1 : (Nat → Nat → Int32)) (e2 : (Nat → Int32)) (e3 : (Nat → Int32)) (e4 : (List Int32)) (mc ms : Nat) (hx0 : hK S x0 = 11) (h : FrS S e0 e1 e2 e3 e4 ∧ x0 = e0 50 ∧ 200 ≤ mc ∧ 2000 ≤ ms) : CXi l yX10_version (ws_X10_version) rm_X10_version D T [.ref x0, .int p0, .int p1] S mc ms (fun v S1 => (verC (e1 0) p0 p1 = 0 ∧ v = verA (e1 0) (iv p0) p1 ∧ FrS S1 e0 e1 e2 e3 e4)) (fun E9 S1 => ((verC (e1 0) p0 p1 = 1 ∧ E9 = "java/lang/IndexOutOfBoundsException") ∨ (verC (e1 0) p0 p1 = 2 ∧ E9 = "java/lang/IllegalArgumentException")) ∧ FrS S1 e0 e1 e2 e3 e4) := c_X10_version l hst D T x0 p0 p1 S mc ms hx0 _ _ <|
  (by
    obtain ⟨h, e, hmc, hms⟩ := h
    subst e
    unfold wp_X10_version
    refine ⟨e0 0, h.r0, fun _ => ⟨fxM e0, e1 0, h.now, fun o S7 _ _ h7 => ?_⟩⟩
    obtain ⟨e7, hn, hs⟩ := h7
    subst e7
    by_cases c : zin p0 0 (e1 0 0 - 1) = 0
    · rw [hn c]
      exact ⟨fun _ => ⟨⟨by omega, by omega⟩, Or.inl ⟨by unfold verC; rw [if_pos c], rfl⟩, h⟩, fun b hb => by cases hb⟩
    · obtain ⟨y, ey, hy⟩ := hs c
      rw [ey]
      refine ⟨fun z => (by cases z), fun b hb _ => ?_⟩
      cases hb
      have hv := (zv h.now.1 c).1
      obtain ⟨_, _, v0, v1, v6, v7, v8, v9⟩ := hy.1
      have va : ∀ w : Nat, 2 ≤ w → w < 6 → verA (e1 0) (iv p0) (nI w) = e1 0 (274 + 510 * iv p0 + (144 + w)) := fun w h2 h6 => by
        unfold verA
        rw [if_neg (fun z => by have := (nI_eq (b := 0) (by omega) (by decide)).mp z; omega), if_neg (fun z => by have := (nI_eq (b := 1) (by omega) (by decide)).mp z; omega), if_neg (fun z => by have := (nI_eq (b := 6) (by omega) (by decide)).mp z; omega), if_neg (fun z => by have := (nI_eq (b := 7) (by omega) (by decide)).mp z; omega), show iv (nI w) = w from nI_clamp (by omega), show 274 + 510 * iv p0 + 146 + w - 2 = 274 + 510 * iv p0 + (144 + w) by omega]
      have ok : ∀ w : Int32, ¬ zin w 0 7 = 0 → verC (e1 0) p0 w = 0 := fun w hw => by unfold verC; rw [if_neg c, if_neg hw]
      refine ⟨fun c0 => ?_, fun d0 => ⟨fun c1 => ?_, fun d1 => ⟨fun c2 => ?_, fun d2 => ⟨fun c3' => ?_, fun d3 => ⟨fun c4 => ?_, fun d4 => ⟨fun c5 => ?_, fun d5 => ⟨fun c6 => ?_, fun d6 => ⟨fun c7 => ?_, fun d7 => ?_⟩⟩⟩⟩⟩⟩⟩⟩
      · subst c0; exact ⟨ok _ (by decide), by rw [v0]; rfl, h⟩
      · subst c1; exact ⟨ok _ (by decide), by rw [v1]; rfl, h⟩
      · subst c2; exact ⟨ok _ (by decide), v6.trans (va 2 (by omega) (by omega)).symm, h⟩
      · subst c3'; exact ⟨ok _ (by decide), v7.trans (va 3 (by omega) (by omega)).symm, h⟩
      · subst c4; exact ⟨ok _ (by decide), v8.trans (va 4 (by omega) (by omega)).symm, h⟩
      · subst c5; exact ⟨ok _ (by decide), v9.trans (va 5 (by omega) (by omega)).symm, h⟩
      · subst c6; exact ⟨fxM e0, e1 0, iv p0, ⟨h.now.1, hv, hy⟩, ok _ (by decide), rfl, h⟩
      · subst c7; exact ⟨fxM e0, e1 0, iv p0, ⟨h.now.1, hv, hy⟩, ok _ (by decide), rfl, h⟩
      · refine ⟨⟨by omega, by omega⟩, Or.inr ⟨?_, rfl⟩, h⟩
        unfold verC
        rw [if_neg c, if_pos]
        by_cases g : zin p1 0 7 = 0
        · exact g
        · obtain ⟨j, hj, ej⟩ := zin_n (m := 7) (by decide) g
          subst ej
          have : j = 0 ∨ j = 1 ∨ j = 2 ∨ j = 3 ∨ j = 4 ∨ j = 5 ∨ j = 6 ∨ j = 7 := by omega
          rcases this with z | z | z | z | z | z | z | z <;> subst z
          · exact absurd rfl d0
          · exact absurd rfl d1
          · exact absurd rfl d2
          · exact absurd rfl d3
          · exact absurd rfl d4
          · exact absurd rfl d5
          · exact absurd rfl d6
          · exact absurd rfl d7)
abbrev ws_X10_zoneOf : List Cond := Cond.code yX10_zoneOf cX10_zoneOf 5 (some .int) :: W0
abbrev rm_X10_zoneOf : Room := ({ frames := 6, cells := 0, slots := 0, locals := 100 } : Room)
def wp_X10_zoneOf (P : Int32 → HS → Prop) (X : String → HS → Prop) (x0 : Nat) (p0 : Int32) (p1 : Int32) (S : HS) (mc ms : Nat) : Prop := ∃ b2 : Nat, hR S 220 x0 = some b2 ∧ (hK S b2 = 7 → (∃ (m4 : (Nat → Prop)) (m5 : Nat → Int32), ((WF m5 ∧ RelSt S m4 b2 m5) ∧ (∀ (o12 : Option Nat) (S7 : HS), ext S S7 → (∀ b, o12 = some b → hK S7 b = 10) → (S7 = S ∧ (zin p0 0 (m5 0 - 1) = 0 → o12 = none) ∧ (¬ zin p0 0 (m5 0 - 1) = 0 → ∃ y, o12 = some y ∧ RelV S m4 y m5 (iv p0))) → ((o12 = none → ((1 ≤ mc ∧ 6 ≤ ms) ∧ X "java/lang/IndexOutOfBoundsException" S7)) ∧ (∀ b15 : Nat, o12 = some b15 → hK S7 b15 = 10 → ((¬ (zin p1 0 999) = 0 → (∃ (m23 : (Nat → Prop)) (m24 : Nat → Int32) (m25 : Nat), ((WF m24 ∧ m25 < 6 ∧ RelV S7 m23 b15 m24 m25) ∧ (∀ v31 : Int32, v31 = (zIn m24 m25 p1) → ((¬ v31 = 0 → (P v31 S7)) ∧ (v31 = 0 → ((1 ≤ mc ∧ 6 ≤ ms) ∧ X "java/util/NoSuchElementException" S7))))))) ∧ ((zin p1 0 999) = 0 → ((1 ≤ mc ∧ 6 ≤ ms) ∧ X "java/lang/IndexOutOfBoundsException" S7)))))))))
set_option maxRecDepth 100000 in
set_option maxHeartbeats 4000000 in
theorem t_X10_zoneOf {p : Program} {l : Launch} {e : Env} {s : State} {m : MethodId} {args : Array Value} {below : List Frame} {meth : Method} {c : Code} {D : va_G} {A : Nat → Prop} {T : Nat → ClassId} (C : GC p s m args meth c cX10_zoneOf "FreightRater" (ws_X10_zoneOf) 5 D A (zty T)) (E : GE T A s) (hst : l.stackTraces = false) (htab : ∀ z ∈ c.exceptionTable.toList, False) (hr : meth.sig.returnType = (some .int)) (P : Int32 → HS → Prop) (X : String → HS → Prop) : ∀ (x0 : Nat) (p0 : Int32) (p1 : Int32) (S0 S : HS) (mc ms : Nat) (L : List Nat), S0 = S → wt S → hL S L → (hK S x0 = 11) → wp_X10_zoneOf P X x0 p0 p1 S mc ms → GW p l e { rm_X10_zoneOf with cells := mc, slots := ms } s m args below meth c D A 5 mc ms (vx_MQ below (va_Qi (fun v (u : HS × List Nat) => P v u.1 ∧ CO S0 u) (CE D T A) A) (CXX D T A S0 X) args s mc ms A) (CW T S L) mc ms 0 [(0, .ref x0), (1, .int p0), (2, .int p1)] [] := by
  have hW : ∀ {w : Cond}, w ∈ W0 → w.before args s = true := fun h => C.2.2.2.2.1 _ (List.mem_cons_of_mem _ h)
  intro x0 p0 p1 S0 S mc ms L hS0 hw hL hx0 h
  have he : ext S0 S := by rw [hS0]; exact ext_rf
  unfold wp_X10_zoneOf at h
  refine g_aload_n C dX10_zoneOf_0 rfl 0 rfl ?_
  refine gc_getR C hw iwx_X10 hL hx0 (by decide) (by decide) rfl 0 (by decide) (hW kw_242) rfl rfl rfl dX10_zoneOf_1 (fun o1 eo1 ko1 => ?_)
  obtain ⟨b2, hb9, h⟩ := h
  have g3 : hK S b2 = 7 := ko1 b2 (eo1.trans hb9)
  replace h := h g3
  refine g_opt (eo1.trans hb9) ?_
  refine g_iload_n C dX10_zoneOf_4 rfl 1 rfl ?_
  obtain ⟨m4, m5, h⟩ := h
  obtain ⟨g6, h⟩ := h
  refine gc_callqV (host := "") C E hw hL g3 (by decide) (by decide) rfl [.int p0] rfl (k_X6_versionAt l D T b2 p0 S m4 m5 g3 g6) (w0_V 1 C.2.2.2.2.1 kw_460 kw_461 kw_462 kw_2 kw_463 rfl rfl (by decide +kernel) ⟨Nat.le_of_ble_eq_true rfl, Nat.le_of_ble_eq_true rfl⟩) rfl (Nat.le_of_ble_eq_true rfl) (Nat.le_refl _) (Nat.le_refl _) (Nat.zero_le _) (Nat.zero_le _) dX10_zoneOf_5 (fun o12 S7 L8 e9 w10 w11 ko12 hp => ?_)
  replace h := h o12 S7 e9 ko12 hp
  have g13 := ext_K e9 hx0 (by decide)
  have w14 := ext_tr he e9
  refine g_qstore_n (lv' := [(3, va_rf o12), (0, .ref x0), (1, .int p0), (2, .int p1)]) C dX10_zoneOf_8 rfl (by decide) rfl ?_
  refine g_qload_n C dX10_zoneOf_9 rfl 0 rfl ?_
  rcases o12 with _ | b15
  · replace h := h.1 rfl
    refine g_ifnullN (tgt := 24) C dX10_zoneOf_10 (by decide) ?_
    obtain ⟨g17, h⟩ := h
    exact gx_throw (cls := "java/lang/IndexOutOfBoundsException") (names := ["java/lang/RuntimeException", "java/lang/Exception"]) C E hst w10 w11 w14 (Nat.le_refl _) (Nat.le_refl _) (by decide) (by decide) (hW kw_465) (hW kw_16) (th_FreightRater_72 hW E) tv_FreightRater_72 dX10_zoneOf_24 dX10_zoneOf_27 dX10_zoneOf_28 dX10_zoneOf_31 htab (Nat.le_of_ble_eq_true rfl) (Nat.le_of_ble_eq_true rfl) g17.1 g17.2 h
  · have g16 : hK S7 b15 = 10 := ko12 b15 rfl
    replace h := h.2 b15 rfl g16
    refine g_ifnull C dX10_zoneOf_10 ?_
    refine g_iload_n C dX10_zoneOf_13 rfl 3 rfl ?_
    refine g_iconst (v := 0) C dX10_zoneOf_14 (by decide) ?_
    refine g_sipush (v := 999) C dX10_zoneOf_15 (by decide) ?_
    refine gc_calliS (host := "") C E w10 w11 [.int p1, .int 0, .int 999] rfl (k_X10_isBetween l D T p1 0 999 S7 ) (w0_S 3 C.2.2.2.2.1 kw_303 kw_304 kw_1 kw_305 rfl rfl (by decide +kernel) ⟨Nat.le_of_ble_eq_true rfl, Nat.le_of_ble_eq_true rfl⟩) rfl (Nat.le_of_ble_eq_true rfl) (Nat.le_refl _) (Nat.le_refl _) (Nat.zero_le _) (Nat.zero_le _) dX10_zoneOf_18 (fun v9 S9 L18 he9 hw9 hL9 hp => ?_)
    obtain ⟨hv9, hs9⟩ := hp
    replace hs9 := hs9.symm
    subst hs9
    replace hv9 := hv9.symm
    subst hv9
    have w21 := hL9
    refine g_if_ne (tgt := 32) C dX10_zoneOf_21 (by decide) (fun z22 => ?_) (fun z22 => ?_)
    · replace h := h.1 z22
      refine g_aload_n C dX10_zoneOf_32 rfl 0 rfl ?_
      refine g_iload_n C dX10_zoneOf_33 rfl 3 rfl ?_
      obtain ⟨m23, m24, m25, h⟩ := h
      obtain ⟨g26, h⟩ := h
      refine gc_calliV (host := "") C E w10 w21 g16 (by decide) (by decide) rfl [.int p1] rfl (k_X9_findZone l D T b15 p1 S7 m23 m24 m25 g16 g26) (w0_V 1 C.2.2.2.2.1 kw_1014 kw_1015 kw_1016 kw_14 kw_1017 rfl rfl (by decide +kernel) ⟨Nat.le_of_ble_eq_true rfl, Nat.le_of_ble_eq_true rfl⟩) rfl (Nat.le_of_ble_eq_true rfl) (Nat.le_refl _) (Nat.le_refl _) (Nat.zero_le _) (Nat.zero_le _) dX10_zoneOf_34 (fun v9 S9 L27 he9 hw9 hL9 hp => ?_)
      obtain ⟨hv9, hs9⟩ := hp
      replace hs9 := hs9.symm
      subst hs9
      replace hv9 := hv9.symm
      subst hv9
      have w30 := hL9
      refine g_topi (fun v31 ev31 => ?_)
      replace h := h v31 ev31
      refine g_istore (lv' := [(4, .int v31), (3, .ref b15), (0, .ref x0), (1, .int p0), (2, .int p1)]) C dX10_zoneOf_37 (by decide) rfl ?_
      refine g_iload C dX10_zoneOf_39 0 rfl ?_
      refine g_if_ne (tgt := 52) C dX10_zoneOf_41 (by decide) (fun z32 => ?_) (fun z32 => ?_)
      · replace h := h.1 z32
        refine g_iload C dX10_zoneOf_52 0 rfl ?_
        exact gx_iret C w10 w30 w14 hr dX10_zoneOf_54 h
      · replace h := h.2 z32
        obtain ⟨g33, h⟩ := h
        exact gx_throw (cls := "java/util/NoSuchElementException") (names := ["java/lang/RuntimeException", "java/lang/Exception"]) C E hst w10 w30 w14 (Nat.le_refl _) (Nat.le_refl _) (by decide) (by decide) (hW kw_966) (hW kw_34) (th_FreightRater_136 hW E) tv_FreightRater_136 dX10_zoneOf_44 dX10_zoneOf_47 dX10_zoneOf_48 dX10_zoneOf_51 htab (Nat.le_of_ble_eq_true rfl) (Nat.le_of_ble_eq_true rfl) g33.1 g33.2 h
    · replace h := h.2 z22
      obtain ⟨g34, h⟩ := h
      exact gx_throw (cls := "java/lang/IndexOutOfBoundsException") (names := ["java/lang/RuntimeException", "java/lang/Exception"]) C E hst w10 w21 w14 (Nat.le_refl _) (Nat.le_refl _) (by decide) (by decide) (hW kw_465) (hW kw_16) (th_FreightRater_72 hW E) tv_FreightRater_72 dX10_zoneOf_24 dX10_zoneOf_27 dX10_zoneOf_28 dX10_zoneOf_31 htab (Nat.le_of_ble_eq_true rfl) (Nat.le_of_ble_eq_true rfl) g34.1 g34.2 h
theorem c_X10_zoneOf (l : Launch) (hst : l.stackTraces = false) (D : va_G) (T : Nat → ClassId) (x0 : Nat) (p0 : Int32) (p1 : Int32) (S : HS) (mc ms : Nat) (hx0 : hK S x0 = 11) (P : Int32 → HS → Prop) (X : String → HS → Prop) (h : wp_X10_zoneOf P X x0 p0 p1 S mc ms) : CXi l yX10_zoneOf (ws_X10_zoneOf) rm_X10_zoneOf D T [.ref x0, .int p0, .int p1] S mc ms P X := gx_meti (by decide) rfl rfl (Nat.le_of_ble_eq_true rfl) (fun p e s m args below meth c A L C E hnm hr htab hw hL => t_X10_zoneOf C E hst htab hr P X x0 p0 p1 S S mc ms L rfl hw hL hx0 h)
theorem k_X10_zoneOf (l : Launch) (hst : l.stackTraces = false) (D : va_G) (T : Nat → ClassId) (x0 : Nat) (p0 : Int32) (p1 : Int32) (S : HS) (e0 : (Nat → Nat)) (e1 : (Nat → Nat → Int32)) (e2 : (Nat → Int32)) (e3 : (Nat → Int32)) (e4 : (List Int32)) (mc ms : Nat) (hx0 : hK S x0 = 11) (h : FrS S e0 e1 e2 e3 e4 ∧ x0 = e0 50 ∧ 200 ≤ mc ∧ 2000 ≤ ms) : CXi l yX10_zoneOf (ws_X10_zoneOf) rm_X10_zoneOf D T [.ref x0, .int p0, .int p1] S mc ms (fun v S1 => (zonC (e1 0) p0 p1 = 0 ∧ v = zIn (e1 0) (iv p0) p1 ∧ FrS S1 e0 e1 e2 e3 e4)) (fun E9 S1 => ((zonC (e1 0) p0 p1 = 1 ∧ E9 = "java/lang/IndexOutOfBoundsException") ∨ (zonC (e1 0) p0 p1 = 2 ∧ E9 = "java/util/NoSuchElementException")) ∧ FrS S1 e0 e1 e2 e3 e4) := c_X10_zoneOf l hst D T x0 p0 p1 S mc ms hx0 _ _ <|
  (by
    obtain ⟨h, e, hmc, hms⟩ := h
    subst e
    unfold wp_X10_zoneOf
    refine ⟨e0 0, h.r0, fun _ => ⟨fxM e0, e1 0, h.now, fun o S7 _ _ h7 => ?_⟩⟩
    obtain ⟨e7, hn, hs⟩ := h7
    subst e7
    by_cases c : zin p0 0 (e1 0 0 - 1) = 0
    · rw [hn c]
      exact ⟨fun _ => ⟨⟨by omega, by omega⟩, Or.inl ⟨by unfold zonC; rw [if_pos c], rfl⟩, h⟩, fun b hb => by cases hb⟩
    · obtain ⟨y, ey, hy⟩ := hs c
      rw [ey]
      refine ⟨fun z => (by cases z), fun b hb _ => ?_⟩
      cases hb
      refine ⟨fun c2 => ⟨fxM e0, e1 0, iv p0, ⟨h.now.1, (zv h.now.1 c).1, hy⟩, fun v ev => ⟨fun c4 => ?_, fun c4 => ⟨⟨by omega, by omega⟩, ?_⟩⟩⟩, fun c2 => ⟨⟨by omega, by omega⟩, Or.inl ⟨by unfold zonC; rw [if_neg c, if_pos c2], rfl⟩, h⟩⟩
      · rw [ev] at c4
        exact ⟨by unfold zonC; rw [if_neg c, if_neg c2, if_neg c4], ev, h⟩
      · rw [ev] at c4
        exact ⟨Or.inr ⟨by unfold zonC; rw [if_neg c, if_neg c2, if_pos c4], rfl⟩, h⟩)
abbrev ws_X10_base : List Cond := Cond.code yX10_base cX10_base 6 (some .int) :: W0
abbrev rm_X10_base : Room := ({ frames := 6, cells := 0, slots := 0, locals := 100 } : Room)
def wp_X10_base (P : Int32 → HS → Prop) (X : String → HS → Prop) (x0 : Nat) (p0 : Int32) (p1 : Int32) (p2 : Int32) (S : HS) (mc ms : Nat) : Prop := ∃ (m1 : (Nat → Nat)) (m2 : (Nat → Nat → Int32)) (m3 : (Nat → Int32)) (m4 : (Nat → Int32)) (m5 : (List Int32)), ((FrS S m1 m2 m3 m4 m5 ∧ x0 = m1 50) ∧ (∀ (o12 : Option Nat) (S7 : HS), ext S S7 → (∀ b, o12 = some b → hK S7 b = 5) → (S7 = S ∧ ((zin p0 0 (m2 0 0 - 1) = 0 ∨ zin p1 1 9 = 0) → o12 = none) ∧ (¬ zin p0 0 (m2 0 0 - 1) = 0 → ¬ zin p1 1 9 = 0 → ∃ y, o12 = some y ∧ RelSc S (fxM m1) y (m2 0) (iv p0) (iv p1))) → ((o12 = none → ((1 ≤ mc ∧ 6 ≤ ms) ∧ X "java/lang/IndexOutOfBoundsException" S7)) ∧ (∀ b15 : Nat, o12 = some b15 → hK S7 b15 = 5 → ((¬ (zin p2 0 99999) = 0 → (∃ (m23 : (Nat → Prop)) (m24 : Nat → Int32) (m25 : Nat) (m26 : Nat), ((WF m24 ∧ m25 < 6 ∧ 1 ≤ m26 ∧ m26 ≤ 9 ∧ RelSc S7 m23 b15 m24 m25 m26) ∧ (∀ v32 : Int32, v32 = ((if m24 (274 + 510 * m25 + 38 + m26 - 1) = 0 then -1 else nI (chpF m24 m25 m26 p2))) → ((0 ≤ v32 → (∃ (m34 : (Nat → Prop)) (m35 : Nat → Int32) (m36 : Nat) (m37 : Nat), ((WF m35 ∧ m36 < 6 ∧ 1 ≤ m37 ∧ m37 ≤ 9 ∧ RelSc S7 m34 b15 m35 m36 m37 ∧ v32 = nI (chpF m35 m36 m37 p2) ∧ ¬ m35 (274 + 510 * m36 + 38 + m37 - 1) = 0) ∧ (P (baseF m35 m36 m37 p2) S7)))) ∧ (¬ 0 ≤ v32 → ((1 ≤ mc ∧ 6 ≤ ms) ∧ X "java/util/NoSuchElementException" S7))))))) ∧ ((zin p2 0 99999) = 0 → ((1 ≤ mc ∧ 6 ≤ ms) ∧ X "java/lang/IllegalArgumentException" S7)))))))
set_option maxRecDepth 100000 in
set_option maxHeartbeats 4000000 in
theorem t_X10_base {p : Program} {l : Launch} {e : Env} {s : State} {m : MethodId} {args : Array Value} {below : List Frame} {meth : Method} {c : Code} {D : va_G} {A : Nat → Prop} {T : Nat → ClassId} (C : GC p s m args meth c cX10_base "FreightRater" (ws_X10_base) 6 D A (zty T)) (E : GE T A s) (hst : l.stackTraces = false) (htab : ∀ z ∈ c.exceptionTable.toList, False) (hr : meth.sig.returnType = (some .int)) (P : Int32 → HS → Prop) (X : String → HS → Prop) : ∀ (x0 : Nat) (p0 : Int32) (p1 : Int32) (p2 : Int32) (S0 S : HS) (mc ms : Nat) (L : List Nat), S0 = S → wt S → hL S L → (hK S x0 = 11) → wp_X10_base P X x0 p0 p1 p2 S mc ms → GW p l e { rm_X10_base with cells := mc, slots := ms } s m args below meth c D A 6 mc ms (vx_MQ below (va_Qi (fun v (u : HS × List Nat) => P v u.1 ∧ CO S0 u) (CE D T A) A) (CXX D T A S0 X) args s mc ms A) (CW T S L) mc ms 0 [(0, .ref x0), (1, .int p0), (2, .int p1), (3, .int p2)] [] := by
  have hW : ∀ {w : Cond}, w ∈ W0 → w.before args s = true := fun h => C.2.2.2.2.1 _ (List.mem_cons_of_mem _ h)
  intro x0 p0 p1 p2 S0 S mc ms L hS0 hw hL hx0 h
  have he : ext S0 S := by rw [hS0]; exact ext_rf
  unfold wp_X10_base at h
  refine g_aload_n C dX10_base_0 rfl 0 rfl ?_
  refine g_iload_n C dX10_base_1 rfl 1 rfl ?_
  refine g_iload_n C dX10_base_2 rfl 2 rfl ?_
  obtain ⟨m1, m2, m3, m4, m5, h⟩ := h
  obtain ⟨g6, h⟩ := h
  refine gc_callqV (host := "") C E hw hL hx0 (by decide) (by decide) rfl [.int p0, .int p1] rfl (k_X10_findScale l D T x0 p0 p1 S m1 m2 m3 m4 m5 hx0 g6) (w0_V 2 C.2.2.2.2.1 kw_1025 kw_1027 ks_22 kw_1 kw_1028 rfl rfl (by decide +kernel) ⟨Nat.le_of_ble_eq_true rfl, Nat.le_of_ble_eq_true rfl⟩) rfl (Nat.le_of_ble_eq_true rfl) (Nat.le_refl _) (Nat.le_refl _) (Nat.zero_le _) (Nat.zero_le _) dX10_base_3 (fun o12 S7 L8 e9 w10 w11 ko12 hp => ?_)
  replace h := h o12 S7 e9 ko12 hp
  have g13 := ext_K e9 hx0 (by decide)
  have w14 := ext_tr he e9
  refine g_qstore (lv' := [(4, va_rf o12), (0, .ref x0), (1, .int p0), (2, .int p1), (3, .int p2)]) C dX10_base_6 (by decide) rfl ?_
  refine g_qload C dX10_base_8 0 rfl ?_
  rcases o12 with _ | b15
  · replace h := h.1 rfl
    refine g_ifnonnullN C dX10_base_10 ?_
    obtain ⟨g17, h⟩ := h
    exact gx_throw (cls := "java/lang/IndexOutOfBoundsException") (names := ["java/lang/RuntimeException", "java/lang/Exception"]) C E hst w10 w11 w14 (Nat.le_refl _) (Nat.le_refl _) (by decide) (by decide) (hW kw_465) (hW kw_16) (th_FreightRater_72 hW E) tv_FreightRater_72 dX10_base_13 dX10_base_16 dX10_base_17 dX10_base_20 htab (Nat.le_of_ble_eq_true rfl) (Nat.le_of_ble_eq_true rfl) g17.1 g17.2 h
  · have g16 : hK S7 b15 = 5 := ko12 b15 rfl
    replace h := h.2 b15 rfl g16
    refine g_ifnonnull (tgt := 21) C dX10_base_10 (by decide) ?_
    refine g_iload_n C dX10_base_21 rfl 4 rfl ?_
    refine g_iconst (v := 0) C dX10_base_22 (by decide) ?_
    refine g_ldc (v := 99999) C dX10_base_23 (hW kw_1049) ?_
    refine gc_calliS (host := "") C E w10 w11 [.int p2, .int 0, .int 99999] rfl (k_X10_isBetween l D T p2 0 99999 S7 ) (w0_S 3 C.2.2.2.2.1 kw_303 kw_304 kw_1 kw_305 rfl rfl (by decide +kernel) ⟨Nat.le_of_ble_eq_true rfl, Nat.le_of_ble_eq_true rfl⟩) rfl (Nat.le_of_ble_eq_true rfl) (Nat.le_refl _) (Nat.le_refl _) (Nat.zero_le _) (Nat.zero_le _) dX10_base_25 (fun v9 S9 L18 he9 hw9 hL9 hp => ?_)
    obtain ⟨hv9, hs9⟩ := hp
    replace hs9 := hs9.symm
    subst hs9
    replace hv9 := hv9.symm
    subst hv9
    have w21 := hL9
    refine g_if_ne (tgt := 39) C dX10_base_28 (by decide) (fun z22 => ?_) (fun z22 => ?_)
    · replace h := h.1 z22
      refine g_aload C dX10_base_39 0 rfl ?_
      refine g_iload_n C dX10_base_41 rfl 4 rfl ?_
      obtain ⟨m23, m24, m25, m26, h⟩ := h
      obtain ⟨g27, h⟩ := h
      refine gc_calliV (host := "") C E w10 w21 g16 (by decide) (by decide) rfl [.int p2] rfl (k_X4_findCheapest l D T b15 p2 S7 m23 m24 m25 m26 g16 g27) (w0_V 1 C.2.2.2.2.1 kw_1050 kw_1051 kw_1052 kw_15 kw_1053 rfl rfl (by decide +kernel) ⟨Nat.le_of_ble_eq_true rfl, Nat.le_of_ble_eq_true rfl⟩) rfl (Nat.le_of_ble_eq_true rfl) (Nat.le_refl _) (Nat.le_refl _) (Nat.zero_le _) (Nat.zero_le _) dX10_base_42 (fun v9 S9 L28 he9 hw9 hL9 hp => ?_)
      obtain ⟨hv9, hs9⟩ := hp
      replace hs9 := hs9.symm
      subst hs9
      replace hv9 := hv9.symm
      subst hv9
      have w31 := hL9
      refine g_topi (fun v32 ev32 => ?_)
      replace h := h v32 ev32
      refine g_istore (lv' := [(5, .int v32), (4, .ref b15), (0, .ref x0), (1, .int p0), (2, .int p1), (3, .int p2)]) C dX10_base_45 (by decide) rfl ?_
      refine g_iload C dX10_base_47 0 rfl ?_
      refine g_if_ge (tgt := 60) C dX10_base_49 (by decide) (fun z33 => ?_) (fun z33 => ?_)
      · replace h := h.1 z33
        refine g_aload C dX10_base_60 1 rfl ?_
        refine g_iload C dX10_base_62 0 rfl ?_
        refine g_iload_n C dX10_base_64 rfl 5 rfl ?_
        obtain ⟨m34, m35, m36, m37, h⟩ := h
        obtain ⟨g38, h⟩ := h
        refine gc_calliV (host := "") C E w10 w31 g16 (by decide) (by decide) rfl [.int v32, .int p2] rfl (k_X4_chargeFor l D T b15 v32 p2 S7 m34 m35 m36 m37 g16 g38) (w0_V 2 C.2.2.2.2.1 kw_1059 kw_1060 kw_1061 kw_15 kw_1062 rfl rfl (by decide +kernel) ⟨Nat.le_of_ble_eq_true rfl, Nat.le_of_ble_eq_true rfl⟩) rfl (Nat.le_of_ble_eq_true rfl) (Nat.le_refl _) (Nat.le_refl _) (Nat.zero_le _) (Nat.zero_le _) dX10_base_65 (fun v9 S9 L39 he9 hw9 hL9 hp => ?_)
        obtain ⟨hv9, hs9⟩ := hp
        replace hs9 := hs9.symm
        subst hs9
        replace hv9 := hv9.symm
        subst hv9
        have w42 := hL9
        exact gx_iret C w10 w42 w14 hr dX10_base_68 h
      · replace h := h.2 z33
        obtain ⟨g43, h⟩ := h
        exact gx_throw (cls := "java/util/NoSuchElementException") (names := ["java/lang/RuntimeException", "java/lang/Exception"]) C E hst w10 w31 w14 (Nat.le_refl _) (Nat.le_refl _) (by decide) (by decide) (hW kw_966) (hW kw_34) (th_FreightRater_136 hW E) tv_FreightRater_136 dX10_base_52 dX10_base_55 dX10_base_56 dX10_base_59 htab (Nat.le_of_ble_eq_true rfl) (Nat.le_of_ble_eq_true rfl) g43.1 g43.2 h
    · replace h := h.2 z22
      obtain ⟨g44, h⟩ := h
      exact gx_throw (cls := "java/lang/IllegalArgumentException") (names := ["java/lang/RuntimeException", "java/lang/Exception"]) C E hst w10 w21 w14 (Nat.le_refl _) (Nat.le_refl _) (by decide) (by decide) (hW kw_310) (hW kw_13) (th_FreightRater_62 hW E) tv_FreightRater_62 dX10_base_31 dX10_base_34 dX10_base_35 dX10_base_38 htab (Nat.le_of_ble_eq_true rfl) (Nat.le_of_ble_eq_true rfl) g44.1 g44.2 h
theorem c_X10_base (l : Launch) (hst : l.stackTraces = false) (D : va_G) (T : Nat → ClassId) (x0 : Nat) (p0 : Int32) (p1 : Int32) (p2 : Int32) (S : HS) (mc ms : Nat) (hx0 : hK S x0 = 11) (P : Int32 → HS → Prop) (X : String → HS → Prop) (h : wp_X10_base P X x0 p0 p1 p2 S mc ms) : CXi l yX10_base (ws_X10_base) rm_X10_base D T [.ref x0, .int p0, .int p1, .int p2] S mc ms P X := gx_meti (by decide) rfl rfl (Nat.le_of_ble_eq_true rfl) (fun p e s m args below meth c A L C E hnm hr htab hw hL => t_X10_base C E hst htab hr P X x0 p0 p1 p2 S S mc ms L rfl hw hL hx0 h)
theorem k_X10_base (l : Launch) (hst : l.stackTraces = false) (D : va_G) (T : Nat → ClassId) (x0 : Nat) (p0 : Int32) (p1 : Int32) (p2 : Int32) (S : HS) (e0 : (Nat → Nat)) (e1 : (Nat → Nat → Int32)) (e2 : (Nat → Int32)) (e3 : (Nat → Int32)) (e4 : (List Int32)) (mc ms : Nat) (hx0 : hK S x0 = 11) (h : FrS S e0 e1 e2 e3 e4 ∧ x0 = e0 50 ∧ 200 ≤ mc ∧ 2000 ≤ ms) : CXi l yX10_base (ws_X10_base) rm_X10_base D T [.ref x0, .int p0, .int p1, .int p2] S mc ms (fun v S1 => (basC (e1 0) p0 p1 p2 = 0 ∧ v = baseF (e1 0) (iv p0) (iv p1) p2 ∧ FrS S1 e0 e1 e2 e3 e4)) (fun E9 S1 => ((basC (e1 0) p0 p1 p2 = 1 ∧ E9 = "java/lang/IndexOutOfBoundsException") ∨ (basC (e1 0) p0 p1 p2 = 2 ∧ E9 = "java/lang/IllegalArgumentException") ∨ (basC (e1 0) p0 p1 p2 = 3 ∧ E9 = "java/util/NoSuchElementException")) ∧ FrS S1 e0 e1 e2 e3 e4) := c_X10_base l hst D T x0 p0 p1 p2 S mc ms hx0 _ _ <|
  (by
    obtain ⟨h, e, hmc, hms⟩ := h
    have hh : FrS S e0 e1 e2 e3 e4 ∧ x0 = e0 50 := ⟨h, e⟩
    unfold wp_X10_base
    refine ⟨e0, e1, e2, e3, e4, hh, fun o S1 _ _ h1 => ?_⟩
    obtain ⟨e1', hn, hs⟩ := h1
    subst e1'
    by_cases c : zin p0 0 (e1 0 0 - 1) = 0
    · rw [hn (Or.inl c)]
      exact ⟨fun _ => ⟨⟨by omega, by omega⟩, Or.inl ⟨by unfold basC; rw [if_pos c], rfl⟩, h⟩, fun b hb => by cases hb⟩
    by_cases c2 : zin p1 1 9 = 0
    · rw [hn (Or.inr c2)]
      exact ⟨fun _ => ⟨⟨by omega, by omega⟩, Or.inl ⟨by unfold basC; rw [if_neg c, if_pos c2], rfl⟩, h⟩, fun b hb => by cases hb⟩
    obtain ⟨y, ey, hy⟩ := hs c c2
    rw [ey]
    refine ⟨fun z => (by cases z), fun b hb _ => ?_⟩
    cases hb
    have hv := zv h.now.1 c
    have hz := zz c2
    refine ⟨fun c4 => ⟨fxM e0, e1 0, iv p0, iv p1, ⟨h.now.1, hv.1, hz.1, hz.2.1, hy⟩, fun v ev => ?_⟩, fun c4 => ⟨⟨by omega, by omega⟩, Or.inr (Or.inl ⟨by unfold basC; rw [if_neg c, if_neg c2, if_pos c4], rfl⟩), h⟩⟩
    by_cases c5 : e1 0 (274 + 510 * iv p0 + 38 + iv p1 - 1) = 0
    · rw [if_pos c5] at ev
      refine ⟨fun z => absurd z (by rw [ev]; decide), fun _ => ⟨⟨by omega, by omega⟩, Or.inr (Or.inr ⟨by unfold basC; rw [if_neg c, if_neg c2, if_neg c4, if_pos c5], rfl⟩), h⟩⟩
    · rw [if_neg c5] at ev
      have hb : chpF (e1 0) (iv p0) (iv p1) p2 < 2 ^ 31 := Nat.lt_trans (chpF_lt h.now.1 hv.1 hz.1 hz.2.1) (by decide)
      refine ⟨fun _ => ⟨fxM e0, e1 0, iv p0, iv p1, ⟨h.now.1, hv.1, hz.1, hz.2.1, hy, ev, c5⟩, by unfold basC; rw [if_neg c, if_neg c2, if_neg c4, if_neg c5], rfl, h⟩, fun z => absurd (by rw [ev]; exact nI_pos' hb) z⟩)
abbrev ws_X10_account : List Cond := Cond.code yX10_account cX10_account 2 (some .int) :: W0
abbrev rm_X10_account : Room := ({ frames := 6, cells := 0, slots := 0, locals := 100 } : Room)
def wp_X10_account (P : Int32 → HS → Prop) (X : String → HS → Prop) (x0 : Nat) (p0 : Int32) (S : HS) (mc ms : Nat) : Prop := (¬ (zin p0 0 6) = 0 → ((p0 = 4 → (∃ b8 : Nat, hR S 220 x0 = some b8 ∧ (hK S b8 = 7 → (∃ (m10 : (Nat → Prop)) (m11 : Nat → Int32), ((WF m11 ∧ RelSt S m10 b8 m11) ∧ (P (accF m11 4) S)))))) ∧ (¬ p0 = 4 → ((p0 = 5 → (∃ b19 : Nat, hR S 220 x0 = some b19 ∧ (hK S b19 = 7 → (P (hI S 147 b19) S)))) ∧ (¬ p0 = 5 → ((p0 = 6 → (∃ b23 : Nat, hR S 220 x0 = some b23 ∧ (hK S b23 = 7 → (∃ (m25 : (Nat → Prop)) (m26 : Nat → Int32), ((WF m26 ∧ RelSt S m25 b23 m26) ∧ (P (posF m26) S)))))) ∧ (¬ p0 = 6 → (∃ b33 : Nat, hR S 220 x0 = some b33 ∧ (hK S b33 = 7 → (∃ (m35 : (Nat → Prop)) (m36 : Nat → Int32), ((WF m36 ∧ RelSt S m35 b33 m36 ∧ ¬ p0 = (4 : Int32)) ∧ (P (accF m36 p0) S)))))))))))) ∧ ((zin p0 0 6) = 0 → ((1 ≤ mc ∧ 6 ≤ ms) ∧ X "java/lang/IllegalArgumentException" S))
set_option maxRecDepth 100000 in
set_option maxHeartbeats 4000000 in
theorem t_X10_account {p : Program} {l : Launch} {e : Env} {s : State} {m : MethodId} {args : Array Value} {below : List Frame} {meth : Method} {c : Code} {D : va_G} {A : Nat → Prop} {T : Nat → ClassId} (C : GC p s m args meth c cX10_account "FreightRater" (ws_X10_account) 2 D A (zty T)) (E : GE T A s) (hst : l.stackTraces = false) (htab : ∀ z ∈ c.exceptionTable.toList, False) (hr : meth.sig.returnType = (some .int)) (P : Int32 → HS → Prop) (X : String → HS → Prop) : ∀ (x0 : Nat) (p0 : Int32) (S0 S : HS) (mc ms : Nat) (L : List Nat), S0 = S → wt S → hL S L → (hK S x0 = 11) → wp_X10_account P X x0 p0 S mc ms → GW p l e { rm_X10_account with cells := mc, slots := ms } s m args below meth c D A 2 mc ms (vx_MQ below (va_Qi (fun v (u : HS × List Nat) => P v u.1 ∧ CO S0 u) (CE D T A) A) (CXX D T A S0 X) args s mc ms A) (CW T S L) mc ms 0 [(0, .ref x0), (1, .int p0)] [] := by
  have hW : ∀ {w : Cond}, w ∈ W0 → w.before args s = true := fun h => C.2.2.2.2.1 _ (List.mem_cons_of_mem _ h)
  intro x0 p0 S0 S mc ms L hS0 hw hL hx0 h
  have he : ext S0 S := by rw [hS0]; exact ext_rf
  unfold wp_X10_account at h
  refine g_iload_n C dX10_account_0 rfl 1 rfl ?_
  refine g_iconst (v := 0) C dX10_account_1 (by decide) ?_
  refine g_bipush (v := 6) C dX10_account_2 (by decide) ?_
  refine gc_calliS (host := "") C E hw hL [.int p0, .int 0, .int 6] rfl (k_X10_isBetween l D T p0 0 6 S ) (w0_S 3 C.2.2.2.2.1 kw_303 kw_304 kw_1 kw_305 rfl rfl (by decide +kernel) ⟨Nat.le_of_ble_eq_true rfl, Nat.le_of_ble_eq_true rfl⟩) rfl (Nat.le_of_ble_eq_true rfl) (Nat.le_refl _) (Nat.le_refl _) (Nat.zero_le _) (Nat.zero_le _) dX10_account_4 (fun v9 S9 L1 he9 hw9 hL9 hp => ?_)
  obtain ⟨hv9, hs9⟩ := hp
  replace hs9 := hs9.symm
  subst hs9
  replace hv9 := hv9.symm
  subst hv9
  have w4 := hL9
  refine g_if_ne (tgt := 18) C dX10_account_7 (by decide) (fun z5 => ?_) (fun z5 => ?_)
  · replace h := h.1 z5
    refine g_iload_n C dX10_account_18 rfl 1 rfl ?_
    rcases Decidable.em (p0 = 4) with z6 | z6
    · refine g_tableIn (off := 25) (tgt := 44) C dX10_account_19 (by rw [z6]; decide) (by rw [z6]; decide) (by rw [z6]; decide) (by decide) ?_
      replace h := h.1 z6
      refine g_aload_n C dX10_account_44 rfl 0 rfl ?_
      refine gc_getR C hw iwx_X10 w4 hx0 (by decide) (by decide) rfl 0 (by decide) (hW kw_242) rfl rfl rfl dX10_account_45 (fun o7 eo7 ko7 => ?_)
      obtain ⟨b8, hb9, h⟩ := h
      have g9 : hK S b8 = 7 := ko7 b8 (eo7.trans hb9)
      replace h := h g9
      refine g_opt (eo7.trans hb9) ?_
      obtain ⟨m10, m11, h⟩ := h
      obtain ⟨g12, h⟩ := h
      refine gc_calliV (host := "") C E hw w4 g9 (by decide) (by decide) rfl [] rfl (k_X6_sumOfAccounts l D T b8 S m10 m11 g9 g12) (w0_V 0 C.2.2.2.2.1 kw_1449 kw_1450 kw_1451 kw_2 kw_1452 rfl rfl (by decide +kernel) ⟨Nat.le_of_ble_eq_true rfl, Nat.le_of_ble_eq_true rfl⟩) rfl (Nat.le_of_ble_eq_true rfl) (Nat.le_refl _) (Nat.le_refl _) (Nat.zero_le _) (Nat.zero_le _) dX10_account_48 (fun v9 S9 L13 he9 hw9 hL9 hp => ?_)
      obtain ⟨hv9, hs9⟩ := hp
      replace hs9 := hs9.symm
      subst hs9
      replace hv9 := hv9.symm
      subst hv9
      have w16 := hL9
      exact gx_iret C hw w16 he hr dX10_account_51 h
    replace h := h.2 z6
    rcases Decidable.em (p0 = 5) with z17 | z17
    · refine g_tableIn (off := 33) (tgt := 52) C dX10_account_19 (by rw [z17]; decide) (by rw [z17]; decide) (by rw [z17]; decide) (by decide) ?_
      replace h := h.1 z17
      refine g_aload_n C dX10_account_52 rfl 0 rfl ?_
      refine gc_getR C hw iwx_X10 w4 hx0 (by decide) (by decide) rfl 0 (by decide) (hW kw_242) rfl rfl rfl dX10_account_53 (fun o18 eo18 ko18 => ?_)
      obtain ⟨b19, hb9, h⟩ := h
      have g20 : hK S b19 = 7 := ko18 b19 (eo18.trans hb9)
      replace h := h g20
      refine g_opt (eo18.trans hb9) ?_
      refine gc_getI C iwx_X6 w4 g20 (by decide) (by decide) rfl 7 (by decide) (hW kw_73) rfl rfl rfl dX10_account_56 ?_
      exact gx_iret C hw w4 he hr dX10_account_59 h
    replace h := h.2 z17
    rcases Decidable.em (p0 = 6) with z21 | z21
    · refine g_tableIn (off := 41) (tgt := 60) C dX10_account_19 (by rw [z21]; decide) (by rw [z21]; decide) (by rw [z21]; decide) (by decide) ?_
      replace h := h.1 z21
      refine g_aload_n C dX10_account_60 rfl 0 rfl ?_
      refine gc_getR C hw iwx_X10 w4 hx0 (by decide) (by decide) rfl 0 (by decide) (hW kw_242) rfl rfl rfl dX10_account_61 (fun o22 eo22 ko22 => ?_)
      obtain ⟨b23, hb9, h⟩ := h
      have g24 : hK S b23 = 7 := ko22 b23 (eo22.trans hb9)
      replace h := h g24
      refine g_opt (eo22.trans hb9) ?_
      obtain ⟨m25, m26, h⟩ := h
      obtain ⟨g27, h⟩ := h
      refine gc_calliV (host := "") C E hw w4 g24 (by decide) (by decide) rfl [] rfl (k_X6_postedSet l D T b23 S m25 m26 g24 g27) (w0_V 0 C.2.2.2.2.1 kw_1433 kw_1434 kw_1435 kw_2 kw_1436 rfl rfl (by decide +kernel) ⟨Nat.le_of_ble_eq_true rfl, Nat.le_of_ble_eq_true rfl⟩) rfl (Nat.le_of_ble_eq_true rfl) (Nat.le_refl _) (Nat.le_refl _) (Nat.zero_le _) (Nat.zero_le _) dX10_account_64 (fun v9 S9 L28 he9 hw9 hL9 hp => ?_)
      obtain ⟨hv9, hs9⟩ := hp
      replace hs9 := hs9.symm
      subst hs9
      replace hv9 := hv9.symm
      subst hv9
      have w31 := hL9
      exact gx_iret C hw w31 he hr dX10_account_67 h
    replace h := h.2 z21
    refine g_tableD (tgt := 68) C dX10_account_19 (by decide) (fun j hj => ?_) (by decide) ?_
    · rcases (show j = 0 ∨ j = 1 ∨ j = 2 by have hj2 : j < 3 := hj; omega) with rfl | rfl | rfl <;> first | exact Or.inr rfl | exact Or.inl (by first | exact lv_neT z6 rfl | exact lv_neT z17 rfl | exact lv_neT z21 rfl)
    refine g_aload_n C dX10_account_68 rfl 0 rfl ?_
    refine gc_getR C hw iwx_X10 w4 hx0 (by decide) (by decide) rfl 0 (by decide) (hW kw_242) rfl rfl rfl dX10_account_69 (fun o32 eo32 ko32 => ?_)
    obtain ⟨b33, hb9, h⟩ := h
    have g34 : hK S b33 = 7 := ko32 b33 (eo32.trans hb9)
    replace h := h g34
    refine g_opt (eo32.trans hb9) ?_
    refine g_iload_n C dX10_account_72 rfl 1 rfl ?_
    obtain ⟨m35, m36, h⟩ := h
    obtain ⟨g37, h⟩ := h
    refine gc_calliV (host := "") C E hw w4 g34 (by decide) (by decide) rfl [.int p0] rfl (k_X6_accountOf l D T b33 p0 S m35 m36 g34 g37) (w0_V 1 C.2.2.2.2.1 kw_1457 kw_1454 kw_1455 kw_2 kw_1456 rfl rfl (by decide +kernel) ⟨Nat.le_of_ble_eq_true rfl, Nat.le_of_ble_eq_true rfl⟩) rfl (Nat.le_of_ble_eq_true rfl) (Nat.le_refl _) (Nat.le_refl _) (Nat.zero_le _) (Nat.zero_le _) dX10_account_73 (fun v9 S9 L38 he9 hw9 hL9 hp => ?_)
    obtain ⟨hv9, hs9⟩ := hp
    replace hs9 := hs9.symm
    subst hs9
    replace hv9 := hv9.symm
    subst hv9
    have w41 := hL9
    exact gx_iret C hw w41 he hr dX10_account_76 h
  · replace h := h.2 z5
    obtain ⟨g42, h⟩ := h
    exact gx_throw (cls := "java/lang/IllegalArgumentException") (names := ["java/lang/RuntimeException", "java/lang/Exception"]) C E hst hw w4 he (Nat.le_refl _) (Nat.le_refl _) (by decide) (by decide) (hW kw_310) (hW kw_13) (th_FreightRater_62 hW E) tv_FreightRater_62 dX10_account_10 dX10_account_13 dX10_account_14 dX10_account_17 htab (Nat.le_of_ble_eq_true rfl) (Nat.le_of_ble_eq_true rfl) g42.1 g42.2 h
theorem c_X10_account (l : Launch) (hst : l.stackTraces = false) (D : va_G) (T : Nat → ClassId) (x0 : Nat) (p0 : Int32) (S : HS) (mc ms : Nat) (hx0 : hK S x0 = 11) (P : Int32 → HS → Prop) (X : String → HS → Prop) (h : wp_X10_account P X x0 p0 S mc ms) : CXi l yX10_account (ws_X10_account) rm_X10_account D T [.ref x0, .int p0] S mc ms P X := gx_meti (by decide) rfl rfl (Nat.le_of_ble_eq_true rfl) (fun p e s m args below meth c A L C E hnm hr htab hw hL => t_X10_account C E hst htab hr P X x0 p0 S S mc ms L rfl hw hL hx0 h)
theorem k_X10_account (l : Launch) (hst : l.stackTraces = false) (D : va_G) (T : Nat → ClassId) (x0 : Nat) (p0 : Int32) (S : HS) (e0 : (Nat → Nat)) (e1 : (Nat → Nat → Int32)) (e2 : (Nat → Int32)) (e3 : (Nat → Int32)) (e4 : (List Int32)) (mc ms : Nat) (hx0 : hK S x0 = 11) (h : FrS S e0 e1 e2 e3 e4 ∧ x0 = e0 50 ∧ 200 ≤ mc ∧ 2000 ≤ ms) : CXi l yX10_account (ws_X10_account) rm_X10_account D T [.ref x0, .int p0] S mc ms (fun v S1 => (auC p0 = 0 ∧ v = auA (e1 0) p0 ∧ FrS S1 e0 e1 e2 e3 e4)) (fun E9 S1 => ((auC p0 = 1 ∧ E9 = "java/lang/IllegalArgumentException")) ∧ FrS S1 e0 e1 e2 e3 e4) := c_X10_account l hst D T x0 p0 S mc ms hx0 _ _ <|
  (by
    obtain ⟨h, e, hmc, hms⟩ := h
    subst e
    unfold wp_X10_account
    refine ⟨fun c => ⟨fun c4 => ⟨e0 0, h.r0, fun _ => ⟨fxM e0, e1 0, h.now, ?_⟩⟩, fun d4 => ⟨fun c5 => ⟨e0 0, h.r0, fun _ => ?_⟩, fun d5 => ⟨fun c6 => ⟨e0 0, h.r0, fun _ => ⟨fxM e0, e1 0, h.now, ?_⟩⟩, fun d6 => ⟨e0 0, h.r0, fun _ => ⟨fxM e0, e1 0, ⟨h.now.1, h.now.2, d4⟩, ?_⟩⟩⟩⟩⟩, fun c => ⟨⟨by omega, by omega⟩, ⟨by unfold auC; rw [if_pos c], rfl⟩, h⟩⟩
    · subst c4; exact ⟨by unfold auC; rw [if_neg c], by unfold auA; rw [if_neg (by decide)], h⟩
    · subst c5; exact ⟨by unfold auC; rw [if_neg c], by rw [h.now.2.1.2.2.2.2]; rfl, h⟩
    · subst c6; exact ⟨by unfold auC; rw [if_neg c], by unfold auA; rw [if_pos (by decide), if_neg (by decide)], h⟩
    · refine ⟨by unfold auC; rw [if_neg c], ?_, h⟩
      unfold auA
      rw [if_neg]
      intro z
      obtain ⟨j, hj, ej⟩ := zin_n (m := 6) (by decide) c
      subst ej
      have z := (nI_leI (a := 5) (by decide) (by omega)).mp z
      have : j = 5 ∨ j = 6 := by omega
      rcases this with q | q <;> subst q
      · exact d5 rfl
      · exact d6 rfl)
abbrev ws_X10_rebate : List Cond := Cond.code yX10_rebate cX10_rebate 3 (some .int) :: W0
abbrev rm_X10_rebate : Room := ({ frames := 6, cells := 0, slots := 0, locals := 100 } : Room)
def wp_X10_rebate (P : Int32 → HS → Prop) (X : String → HS → Prop) (x0 : Nat) (p0 : Int32) (S : HS) (mc ms : Nat) : Prop := (¬ (zin p0 0 3) = 0 → (∃ b7 : Nat, hR S 220 x0 = some b7 ∧ (hK S b7 = 7 → (∃ (m9 : (Nat → Prop)) (m10 : Nat → Int32), ((WF m10 ∧ RelSt S m9 b7 m10 ∧ ¬ p0 = (4 : Int32)) ∧ (∀ v16 : Int32, v16 = (accF m10 p0) → (∃ b18 : Nat, hR S 220 x0 = some b18 ∧ (hK S b18 = 7 → (∃ (m20 : (Nat → Prop)) (m21 : Nat → Int32), ((WF m21 ∧ RelSt S m20 b18 m21 ∧ stO m21) ∧ (P (pctF v16 (rbFold m21 v16 (iv (m21 2)) 0 (-1) 0)) S))))))))))) ∧ ((zin p0 0 3) = 0 → ((1 ≤ mc ∧ 6 ≤ ms) ∧ X "java/lang/IllegalArgumentException" S))
set_option maxRecDepth 100000 in
set_option maxHeartbeats 4000000 in
theorem t_X10_rebate {p : Program} {l : Launch} {e : Env} {s : State} {m : MethodId} {args : Array Value} {below : List Frame} {meth : Method} {c : Code} {D : va_G} {A : Nat → Prop} {T : Nat → ClassId} (C : GC p s m args meth c cX10_rebate "FreightRater" (ws_X10_rebate) 3 D A (zty T)) (E : GE T A s) (hst : l.stackTraces = false) (htab : ∀ z ∈ c.exceptionTable.toList, False) (hr : meth.sig.returnType = (some .int)) (P : Int32 → HS → Prop) (X : String → HS → Prop) : ∀ (x0 : Nat) (p0 : Int32) (S0 S : HS) (mc ms : Nat) (L : List Nat), S0 = S → wt S → hL S L → (hK S x0 = 11) → wp_X10_rebate P X x0 p0 S mc ms → GW p l e { rm_X10_rebate with cells := mc, slots := ms } s m args below meth c D A 3 mc ms (vx_MQ below (va_Qi (fun v (u : HS × List Nat) => P v u.1 ∧ CO S0 u) (CE D T A) A) (CXX D T A S0 X) args s mc ms A) (CW T S L) mc ms 0 [(0, .ref x0), (1, .int p0)] [] := by
  have hW : ∀ {w : Cond}, w ∈ W0 → w.before args s = true := fun h => C.2.2.2.2.1 _ (List.mem_cons_of_mem _ h)
  intro x0 p0 S0 S mc ms L hS0 hw hL hx0 h
  have he : ext S0 S := by rw [hS0]; exact ext_rf
  unfold wp_X10_rebate at h
  refine g_iload_n C dX10_rebate_0 rfl 1 rfl ?_
  refine g_iconst (v := 0) C dX10_rebate_1 (by decide) ?_
  refine g_iconst (v := 3) C dX10_rebate_2 (by decide) ?_
  refine gc_calliS (host := "") C E hw hL [.int p0, .int 0, .int 3] rfl (k_X10_isBetween l D T p0 0 3 S ) (w0_S 3 C.2.2.2.2.1 kw_303 kw_304 kw_1 kw_305 rfl rfl (by decide +kernel) ⟨Nat.le_of_ble_eq_true rfl, Nat.le_of_ble_eq_true rfl⟩) rfl (Nat.le_of_ble_eq_true rfl) (Nat.le_refl _) (Nat.le_refl _) (Nat.zero_le _) (Nat.zero_le _) dX10_rebate_3 (fun v9 S9 L1 he9 hw9 hL9 hp => ?_)
  obtain ⟨hv9, hs9⟩ := hp
  replace hs9 := hs9.symm
  subst hs9
  replace hv9 := hv9.symm
  subst hv9
  have w4 := hL9
  refine g_if_ne (tgt := 17) C dX10_rebate_6 (by decide) (fun z5 => ?_) (fun z5 => ?_)
  · replace h := h.1 z5
    refine g_aload_n C dX10_rebate_17 rfl 0 rfl ?_
    refine gc_getR C hw iwx_X10 w4 hx0 (by decide) (by decide) rfl 0 (by decide) (hW kw_242) rfl rfl rfl dX10_rebate_18 (fun o6 eo6 ko6 => ?_)
    obtain ⟨b7, hb9, h⟩ := h
    have g8 : hK S b7 = 7 := ko6 b7 (eo6.trans hb9)
    replace h := h g8
    refine g_opt (eo6.trans hb9) ?_
    refine g_iload_n C dX10_rebate_21 rfl 1 rfl ?_
    obtain ⟨m9, m10, h⟩ := h
    obtain ⟨g11, h⟩ := h
    refine gc_calliV (host := "") C E hw w4 g8 (by decide) (by decide) rfl [.int p0] rfl (k_X6_accountOf l D T b7 p0 S m9 m10 g8 g11) (w0_V 1 C.2.2.2.2.1 kw_1457 kw_1454 kw_1455 kw_2 kw_1456 rfl rfl (by decide +kernel) ⟨Nat.le_of_ble_eq_true rfl, Nat.le_of_ble_eq_true rfl⟩) rfl (Nat.le_of_ble_eq_true rfl) (Nat.le_refl _) (Nat.le_refl _) (Nat.zero_le _) (Nat.zero_le _) dX10_rebate_22 (fun v9 S9 L12 he9 hw9 hL9 hp => ?_)
    obtain ⟨hv9, hs9⟩ := hp
    replace hs9 := hs9.symm
    subst hs9
    replace hv9 := hv9.symm
    subst hv9
    have w15 := hL9
    refine g_topi (fun v16 ev16 => ?_)
    replace h := h v16 ev16
    refine g_istore_n (lv' := [(2, .int v16), (0, .ref x0), (1, .int p0)]) C dX10_rebate_25 rfl (by decide) rfl ?_
    refine g_iload_n C dX10_rebate_26 rfl 0 rfl ?_
    refine g_aload_n C dX10_rebate_27 rfl 1 rfl ?_
    refine gc_getR C hw iwx_X10 w15 hx0 (by decide) (by decide) rfl 0 (by decide) (hW kw_242) rfl rfl rfl dX10_rebate_28 (fun o17 eo17 ko17 => ?_)
    obtain ⟨b18, hb9, h⟩ := h
    have g19 : hK S b18 = 7 := ko17 b18 (eo17.trans hb9)
    replace h := h g19
    refine g_opt (eo17.trans hb9) ?_
    refine g_iload_n C dX10_rebate_31 rfl 0 rfl ?_
    obtain ⟨m20, m21, h⟩ := h
    obtain ⟨g22, h⟩ := h
    refine gc_calliV (host := "") C E hw w15 g19 (by decide) (by decide) rfl [.int v16] rfl (k_X6_rebatePercentage l D T b18 v16 S m20 m21 g19 g22) (w0_V 1 C.2.2.2.2.1 kw_1485 kw_1486 kw_1487 kw_2 kw_1488 rfl rfl (by decide +kernel) ⟨Nat.le_of_ble_eq_true rfl, Nat.le_of_ble_eq_true rfl⟩) rfl (Nat.le_of_ble_eq_true rfl) (Nat.le_refl _) (Nat.le_refl _) (Nat.zero_le _) (Nat.zero_le _) dX10_rebate_32 (fun v9 S9 L23 he9 hw9 hL9 hp => ?_)
    obtain ⟨hv9, hs9⟩ := hp
    replace hs9 := hs9.symm
    subst hs9
    replace hv9 := hv9.symm
    subst hv9
    have w26 := hL9
    refine gc_calliS (host := "") C E hw w26 [.int v16, .int (rbFold m21 v16 (iv (m21 2)) 0 (-1) 0)] rfl (k_X10_percentOf l D T v16 (rbFold m21 v16 (iv (m21 2)) 0 (-1) 0) S ) (w0_S 2 C.2.2.2.2.1 kw_1489 kw_1278 kw_1 kw_1279 rfl rfl (by decide +kernel) ⟨Nat.le_of_ble_eq_true rfl, Nat.le_of_ble_eq_true rfl⟩) rfl (Nat.le_of_ble_eq_true rfl) (Nat.le_refl _) (Nat.le_refl _) (Nat.zero_le _) (Nat.zero_le _) dX10_rebate_35 (fun v9 S9 L27 he9 hw9 hL9 hp => ?_)
    obtain ⟨hv9, hs9⟩ := hp
    replace hs9 := hs9.symm
    subst hs9
    replace hv9 := hv9.symm
    subst hv9
    have w30 := hL9
    exact gx_iret C hw w30 he hr dX10_rebate_38 h
  · replace h := h.2 z5
    obtain ⟨g31, h⟩ := h
    exact gx_throw (cls := "java/lang/IllegalArgumentException") (names := ["java/lang/RuntimeException", "java/lang/Exception"]) C E hst hw w4 he (Nat.le_refl _) (Nat.le_refl _) (by decide) (by decide) (hW kw_310) (hW kw_13) (th_FreightRater_62 hW E) tv_FreightRater_62 dX10_rebate_9 dX10_rebate_12 dX10_rebate_13 dX10_rebate_16 htab (Nat.le_of_ble_eq_true rfl) (Nat.le_of_ble_eq_true rfl) g31.1 g31.2 h
theorem c_X10_rebate (l : Launch) (hst : l.stackTraces = false) (D : va_G) (T : Nat → ClassId) (x0 : Nat) (p0 : Int32) (S : HS) (mc ms : Nat) (hx0 : hK S x0 = 11) (P : Int32 → HS → Prop) (X : String → HS → Prop) (h : wp_X10_rebate P X x0 p0 S mc ms) : CXi l yX10_rebate (ws_X10_rebate) rm_X10_rebate D T [.ref x0, .int p0] S mc ms P X := gx_meti (by decide) rfl rfl (Nat.le_of_ble_eq_true rfl) (fun p e s m args below meth c A L C E hnm hr htab hw hL => t_X10_rebate C E hst htab hr P X x0 p0 S S mc ms L rfl hw hL hx0 h)
theorem k_X10_rebate (l : Launch) (hst : l.stackTraces = false) (D : va_G) (T : Nat → ClassId) (x0 : Nat) (p0 : Int32) (S : HS) (e0 : (Nat → Nat)) (e1 : (Nat → Nat → Int32)) (e2 : (Nat → Int32)) (e3 : (Nat → Int32)) (e4 : (List Int32)) (mc ms : Nat) (hx0 : hK S x0 = 11) (h : FrS S e0 e1 e2 e3 e4 ∧ x0 = e0 50 ∧ 200 ≤ mc ∧ 2000 ≤ ms) : CXi l yX10_rebate (ws_X10_rebate) rm_X10_rebate D T [.ref x0, .int p0] S mc ms (fun v S1 => (rbC p0 = 0 ∧ v = rebF (e1 0) p0 ∧ FrS S1 e0 e1 e2 e3 e4)) (fun E9 S1 => ((rbC p0 = 1 ∧ E9 = "java/lang/IllegalArgumentException")) ∧ FrS S1 e0 e1 e2 e3 e4) := c_X10_rebate l hst D T x0 p0 S mc ms hx0 _ _ <|
  (by
    obtain ⟨h, e, hmc, hms⟩ := h
    subst e
    unfold wp_X10_rebate
    refine ⟨fun c => ⟨e0 0, h.r0, fun _ => ⟨fxM e0, e1 0, ⟨h.now.1, h.now.2, fun z => c (by rw [z]; rfl)⟩, fun v ev => ⟨e0 0, h.r0, fun _ => ⟨fxM e0, e1 0, ⟨h.now.1, h.now.2, (h.2.1 0 (by omega)).1.2.2.1⟩, ?_⟩⟩⟩⟩, fun c => ⟨⟨by omega, by omega⟩, ⟨by unfold rbC; rw [if_pos c], rfl⟩, h⟩⟩
    refine ⟨by unfold rbC; rw [if_neg c], ?_, h⟩
    rw [ev]
    rfl)
abbrev ws_X10_shipment : List Cond := Cond.code yX10_shipment cX10_shipment 4 (some .int) :: W0
abbrev rm_X10_shipment : Room := ({ frames := 7, cells := 0, slots := 0, locals := 122 } : Room)
def wp_X10_shipment (P : Int32 → HS → Prop) (X : String → HS → Prop) (x0 : Nat) (p0 : Int32) (p1 : Int32) (S : HS) (mc ms : Nat) : Prop := ∃ cc1 cc2 : Nat, (cc1 ≤ mc ∧ cc2 ≤ ms) ∧ (∃ (m4 : (Nat → Nat)) (m5 : (Nat → Nat → Int32)) (m6 : (Nat → Int32)) (m7 : (Nat → Int32)) (m8 : (List Int32)), ((FrS S m4 m5 m6 m7 m8 ∧ x0 = m4 50 ∧ 1 ≤ cc1 ∧ 6 ≤ cc2) ∧ ((∀ (E9 : String) (S9 : HS), ext S S9 → (zin p0 0 (m5 0 1 - 1) = 0 ∧ E9 = "java/lang/IndexOutOfBoundsException" ∧ S9 = S) → X E9 S9) ∧ (∀ (o15 : Option Nat) (S10 : HS), ext S S10 → (∀ b, o15 = some b → hK S10 b = 6) → (S10 = S ∧ ¬ zin p0 0 (m5 0 1 - 1) = 0 ∧ ∃ y, o15 = some y ∧ RelS S (fxM m4) y (m5 0) (iv p0)) → (∃ b19 : Nat, o15 = some b19 ∧ (hK S10 b19 = 6 → ((p1 = 0 → (P (hI S10 120 b19) S10)) ∧ (¬ p1 = 0 → ((p1 = 1 → (P (hI S10 121 b19) S10)) ∧ (¬ p1 = 1 → ((p1 = 2 → (P (hI S10 122 b19) S10)) ∧ (¬ p1 = 2 → ((p1 = 3 → (P (hI S10 123 b19) S10)) ∧ (¬ p1 = 3 → ((p1 = 4 → (P (hI S10 124 b19) S10)) ∧ (¬ p1 = 4 → ((p1 = 5 → (P (hI S10 126 b19) S10)) ∧ (¬ p1 = 5 → ((p1 = 6 → (∃ (m28 : (Nat → Prop)) (m29 : Nat → Int32) (m30 : Nat), ((WF m29 ∧ m30 < 10 ∧ RelS S10 m28 b19 m29 m30) ∧ (P (dimF m29 m30 1) S10)))) ∧ (¬ p1 = 6 → ((p1 = 7 → (P (hI S10 127 b19) S10)) ∧ (¬ p1 = 7 → ((p1 = 8 → (P (hI S10 128 b19) S10)) ∧ (¬ p1 = 8 → ((1 ≤ (mc - cc1) ∧ 6 ≤ (ms - cc2)) ∧ X "java/lang/IllegalArgumentException" S10)))))))))))))))))))))))))
set_option maxRecDepth 100000 in
set_option maxHeartbeats 4000000 in
theorem t_X10_shipment {p : Program} {l : Launch} {e : Env} {s : State} {m : MethodId} {args : Array Value} {below : List Frame} {meth : Method} {c : Code} {D : va_G} {A : Nat → Prop} {T : Nat → ClassId} (C : GC p s m args meth c cX10_shipment "FreightRater" (ws_X10_shipment) 4 D A (zty T)) (E : GE T A s) (hst : l.stackTraces = false) (htab : ∀ z ∈ c.exceptionTable.toList, False) (hr : meth.sig.returnType = (some .int)) (P : Int32 → HS → Prop) (X : String → HS → Prop) : ∀ (x0 : Nat) (p0 : Int32) (p1 : Int32) (S0 S : HS) (mc ms : Nat) (L : List Nat), S0 = S → wt S → hL S L → (hK S x0 = 11) → wp_X10_shipment P X x0 p0 p1 S mc ms → GW p l e { rm_X10_shipment with cells := mc, slots := ms } s m args below meth c D A 4 mc ms (vx_MQ below (va_Qi (fun v (u : HS × List Nat) => P v u.1 ∧ CO S0 u) (CE D T A) A) (CXX D T A S0 X) args s mc ms A) (CW T S L) mc ms 0 [(0, .ref x0), (1, .int p0), (2, .int p1)] [] := by
  have hW : ∀ {w : Cond}, w ∈ W0 → w.before args s = true := fun h => C.2.2.2.2.1 _ (List.mem_cons_of_mem _ h)
  intro x0 p0 p1 S0 S mc ms L hS0 hw hL hx0 h
  have he : ext S0 S := by rw [hS0]; exact ext_rf
  unfold wp_X10_shipment at h
  refine g_aload_n C dX10_shipment_0 rfl 0 rfl ?_
  refine g_iload_n C dX10_shipment_1 rfl 1 rfl ?_
  obtain ⟨cc1, cc2, g3, h⟩ := h
  obtain ⟨m4, m5, m6, m7, m8, h⟩ := h
  obtain ⟨g9, h⟩ := h
  obtain ⟨g16, h⟩ := h
  refine gx_callqV (host := "") C E hw hL hx0 (by decide) (by decide) rfl [.int p0] rfl (k_X10_requireShipment l hst D T x0 p0 S m4 m5 m6 m7 m8 cc1 cc2 hx0 g9) (w0_V 1 C.2.2.2.2.1 kw_1134 kw_1136 ks_25 kw_1 kw_1137 rfl rfl (by decide +kernel) ⟨Nat.le_of_ble_eq_true rfl, Nat.le_of_ble_eq_true rfl⟩) rfl (Nat.le_of_ble_eq_true rfl) (Nat.le_refl _) (Nat.le_refl _) g3.1 g3.2 dX10_shipment_2 he htab g16 (fun o15 S10 L11 e12 w13 w14 ko15 hp => ?_)
  replace h := h o15 S10 e12 ko15 hp
  have g17 := ext_K e12 hx0 (by decide)
  have w18 := ext_tr he e12
  obtain ⟨b19, rfl, h⟩ := h
  have g20 : hK S10 b19 = 6 := ko15 b19 rfl
  replace h := h g20
  refine g_astore_n (lv' := [(3, .ref b19), (0, .ref x0), (1, .int p0), (2, .int p1)]) C dX10_shipment_5 rfl (by decide) rfl ?_
  refine g_iload_n C dX10_shipment_6 rfl 3 rfl ?_
  rcases Decidable.em (p1 = 0) with z21 | z21
  · refine g_tableIn (off := 49) (tgt := 56) C dX10_shipment_7 (by rw [z21]; decide) (by rw [z21]; decide) (by rw [z21]; decide) (by decide) ?_
    replace h := h.1 z21
    refine g_aload_n C dX10_shipment_56 rfl 0 rfl ?_
    refine gc_getI C iwx_X5 w14 g20 (by decide) (by decide) rfl 0 (by decide) (hW kw_1081) rfl rfl rfl dX10_shipment_57 ?_
    exact gx_iret C w13 w14 w18 hr dX10_shipment_60 h
  replace h := h.2 z21
  rcases Decidable.em (p1 = 1) with z22 | z22
  · refine g_tableIn (off := 54) (tgt := 61) C dX10_shipment_7 (by rw [z22]; decide) (by rw [z22]; decide) (by rw [z22]; decide) (by decide) ?_
    replace h := h.1 z22
    refine g_aload_n C dX10_shipment_61 rfl 0 rfl ?_
    refine gc_getI C iwx_X5 w14 g20 (by decide) (by decide) rfl 1 (by decide) (hW kw_1084) rfl rfl rfl dX10_shipment_62 ?_
    exact gx_iret C w13 w14 w18 hr dX10_shipment_65 h
  replace h := h.2 z22
  rcases Decidable.em (p1 = 2) with z23 | z23
  · refine g_tableIn (off := 59) (tgt := 66) C dX10_shipment_7 (by rw [z23]; decide) (by rw [z23]; decide) (by rw [z23]; decide) (by decide) ?_
    replace h := h.1 z23
    refine g_aload_n C dX10_shipment_66 rfl 0 rfl ?_
    refine gc_getI C iwx_X5 w14 g20 (by decide) (by decide) rfl 2 (by decide) (hW kw_1087) rfl rfl rfl dX10_shipment_67 ?_
    exact gx_iret C w13 w14 w18 hr dX10_shipment_70 h
  replace h := h.2 z23
  rcases Decidable.em (p1 = 3) with z24 | z24
  · refine g_tableIn (off := 64) (tgt := 71) C dX10_shipment_7 (by rw [z24]; decide) (by rw [z24]; decide) (by rw [z24]; decide) (by decide) ?_
    replace h := h.1 z24
    refine g_aload_n C dX10_shipment_71 rfl 0 rfl ?_
    refine gc_getI C iwx_X5 w14 g20 (by decide) (by decide) rfl 3 (by decide) (hW kw_1090) rfl rfl rfl dX10_shipment_72 ?_
    exact gx_iret C w13 w14 w18 hr dX10_shipment_75 h
  replace h := h.2 z24
  rcases Decidable.em (p1 = 4) with z25 | z25
  · refine g_tableIn (off := 69) (tgt := 76) C dX10_shipment_7 (by rw [z25]; decide) (by rw [z25]; decide) (by rw [z25]; decide) (by decide) ?_
    replace h := h.1 z25
    refine g_aload_n C dX10_shipment_76 rfl 0 rfl ?_
    refine gc_getI C iwx_X5 w14 g20 (by decide) (by decide) rfl 4 (by decide) (hW kw_1093) rfl rfl rfl dX10_shipment_77 ?_
    exact gx_iret C w13 w14 w18 hr dX10_shipment_80 h
  replace h := h.2 z25
  rcases Decidable.em (p1 = 5) with z26 | z26
  · refine g_tableIn (off := 74) (tgt := 81) C dX10_shipment_7 (by rw [z26]; decide) (by rw [z26]; decide) (by rw [z26]; decide) (by decide) ?_
    replace h := h.1 z26
    refine g_aload_n C dX10_shipment_81 rfl 0 rfl ?_
    refine gc_getI C iwx_X5 w14 g20 (by decide) (by decide) rfl 6 (by decide) (hW kw_1097) rfl rfl rfl dX10_shipment_82 ?_
    exact gx_iret C w13 w14 w18 hr dX10_shipment_85 h
  replace h := h.2 z26
  rcases Decidable.em (p1 = 6) with z27 | z27
  · refine g_tableIn (off := 79) (tgt := 86) C dX10_shipment_7 (by rw [z27]; decide) (by rw [z27]; decide) (by rw [z27]; decide) (by decide) ?_
    replace h := h.1 z27
    refine g_aload_n C dX10_shipment_86 rfl 0 rfl ?_
    obtain ⟨m28, m29, m30, h⟩ := h
    obtain ⟨g31, h⟩ := h
    refine gc_calliV (host := "") C E w13 w14 g20 (by decide) (by decide) rfl [] rfl (k_X5_volume l D T b19 S10 m28 m29 m30 g20 g31) (w0_V 0 C.2.2.2.2.1 kw_1180 kw_1181 kw_1182 kw_35 kw_1183 rfl rfl (by decide +kernel) ⟨Nat.le_of_ble_eq_true rfl, Nat.le_of_ble_eq_true rfl⟩) rfl (Nat.le_of_ble_eq_true rfl) (Nat.le_refl _) (Nat.le_refl _) (Nat.zero_le _) (Nat.zero_le _) dX10_shipment_87 (fun v9 S9 L32 he9 hw9 hL9 hp => ?_)
    obtain ⟨hv9, hs9⟩ := hp
    replace hs9 := hs9.symm
    subst hs9
    replace hv9 := hv9.symm
    subst hv9
    have w35 := hL9
    exact gx_iret C w13 w35 w18 hr dX10_shipment_90 h
  replace h := h.2 z27
  rcases Decidable.em (p1 = 7) with z36 | z36
  · refine g_tableIn (off := 84) (tgt := 91) C dX10_shipment_7 (by rw [z36]; decide) (by rw [z36]; decide) (by rw [z36]; decide) (by decide) ?_
    replace h := h.1 z36
    refine g_aload_n C dX10_shipment_91 rfl 0 rfl ?_
    refine gc_getI C iwx_X5 w14 g20 (by decide) (by decide) rfl 7 (by decide) (hW kw_1100) rfl rfl rfl dX10_shipment_92 ?_
    exact gx_iret C w13 w14 w18 hr dX10_shipment_95 h
  replace h := h.2 z36
  rcases Decidable.em (p1 = 8) with z37 | z37
  · refine g_tableIn (off := 89) (tgt := 96) C dX10_shipment_7 (by rw [z37]; decide) (by rw [z37]; decide) (by rw [z37]; decide) (by decide) ?_
    replace h := h.1 z37
    refine g_aload_n C dX10_shipment_96 rfl 0 rfl ?_
    refine gc_getI C iwx_X5 w14 g20 (by decide) (by decide) rfl 8 (by decide) (hW kw_1103) rfl rfl rfl dX10_shipment_97 ?_
    exact gx_iret C w13 w14 w18 hr dX10_shipment_100 h
  replace h := h.2 z37
  refine g_tableD (tgt := 101) C dX10_shipment_7 (by decide) (fun j hj => ?_) (by decide) ?_
  · rcases (show j = 0 ∨ j = 1 ∨ j = 2 ∨ j = 3 ∨ j = 4 ∨ j = 5 ∨ j = 6 ∨ j = 7 ∨ j = 8 by have hj2 : j < 9 := hj; omega) with rfl | rfl | rfl | rfl | rfl | rfl | rfl | rfl | rfl <;> first | exact Or.inr rfl | exact Or.inl (by first | exact lv_neT z21 rfl | exact lv_neT z22 rfl | exact lv_neT z23 rfl | exact lv_neT z24 rfl | exact lv_neT z25 rfl | exact lv_neT z26 rfl | exact lv_neT z27 rfl | exact lv_neT z36 rfl | exact lv_neT z37 rfl)
  obtain ⟨g38, h⟩ := h
  exact gx_throw (cls := "java/lang/IllegalArgumentException") (names := ["java/lang/RuntimeException", "java/lang/Exception"]) C E hst w13 w14 w18 (Nat.le_refl _) (Nat.le_refl _) (by decide) (by decide) (hW kw_310) (hW kw_13) (th_FreightRater_62 hW E) tv_FreightRater_62 dX10_shipment_101 dX10_shipment_104 dX10_shipment_105 dX10_shipment_108 htab (Nat.le_of_ble_eq_true rfl) (Nat.le_of_ble_eq_true rfl) g38.1 g38.2 h
theorem c_X10_shipment (l : Launch) (hst : l.stackTraces = false) (D : va_G) (T : Nat → ClassId) (x0 : Nat) (p0 : Int32) (p1 : Int32) (S : HS) (mc ms : Nat) (hx0 : hK S x0 = 11) (P : Int32 → HS → Prop) (X : String → HS → Prop) (h : wp_X10_shipment P X x0 p0 p1 S mc ms) : CXi l yX10_shipment (ws_X10_shipment) rm_X10_shipment D T [.ref x0, .int p0, .int p1] S mc ms P X := gx_meti (by decide) rfl rfl (Nat.le_of_ble_eq_true rfl) (fun p e s m args below meth c A L C E hnm hr htab hw hL => t_X10_shipment C E hst htab hr P X x0 p0 p1 S S mc ms L rfl hw hL hx0 h)
theorem k_X10_shipment (l : Launch) (hst : l.stackTraces = false) (D : va_G) (T : Nat → ClassId) (x0 : Nat) (p0 : Int32) (p1 : Int32) (S : HS) (e0 : (Nat → Nat)) (e1 : (Nat → Nat → Int32)) (e2 : (Nat → Int32)) (e3 : (Nat → Int32)) (e4 : (List Int32)) (mc ms : Nat) (hx0 : hK S x0 = 11) (h : FrS S e0 e1 e2 e3 e4 ∧ x0 = e0 50 ∧ 200 ≤ mc ∧ 2000 ≤ ms) : CXi l yX10_shipment (ws_X10_shipment) rm_X10_shipment D T [.ref x0, .int p0, .int p1] S mc ms (fun v S1 => (shpC (e1 0) p0 p1 = 0 ∧ v = shpA (e1 0) (iv p0) p1 ∧ FrS S1 e0 e1 e2 e3 e4)) (fun E9 S1 => ((shpC (e1 0) p0 p1 = 1 ∧ E9 = "java/lang/IndexOutOfBoundsException") ∨ (shpC (e1 0) p0 p1 = 2 ∧ E9 = "java/lang/IllegalArgumentException")) ∧ FrS S1 e0 e1 e2 e3 e4) := c_X10_shipment l hst D T x0 p0 p1 S mc ms hx0 _ _ <|
  (by
    obtain ⟨h, e, hmc, hms⟩ := h
    unfold wp_X10_shipment
    refine ⟨1, 6, ⟨by omega, by omega⟩, e0, e1, e2, e3, e4, ⟨h, e, Nat.le_refl _, Nat.le_refl _⟩, fun E9 S9 _ h9 => ?_, fun o S10 _ _ h10 => ?_⟩
    · obtain ⟨c, eE, eS⟩ := h9
      subst eS
      exact ⟨Or.inl ⟨by unfold shpC; rw [if_pos c], eE⟩, h⟩
    obtain ⟨eS, c, y, ey, hy⟩ := h10
    subst eS
    refine ⟨y, ey, fun _ => ?_⟩
    have hv := (zs h.now.1 c).1
    have hy9 := hy
    obtain ⟨_, _, v0, v1, v2, v3, v4, v6, v7, v8, _⟩ := hy9
    have va : ∀ w : Nat, w < 5 → shpA (e1 0) (iv p0) (nI w) = e1 0 (14 + 26 * iv p0 + w) := fun w h6 => by
      unfold shpA
      rw [if_neg (fun z => by have := (nI_eq (b := 5) (by omega) (by decide)).mp z; omega), if_neg (fun z => by have := (nI_eq (b := 6) (by omega) (by decide)).mp z; omega), if_neg (fun z => by have := (nI_eq (b := 7) (by omega) (by decide)).mp z; omega), if_neg (fun z => by have := (nI_eq (b := 8) (by omega) (by decide)).mp z; omega), show iv (nI w) = w from nI_clamp (by omega)]
    have ok : ∀ w : Int32, ¬ zin w 0 8 = 0 → shpC (e1 0) p0 w = 0 := fun w hw => by unfold shpC; rw [if_neg c, if_neg hw]
    refine ⟨fun c0 => ?_, fun d0 => ⟨fun c1 => ?_, fun d1 => ⟨fun c2 => ?_, fun d2 => ⟨fun c3' => ?_, fun d3 => ⟨fun c4 => ?_, fun d4 => ⟨fun c5 => ?_, fun d5 => ⟨fun c6 => ?_, fun d6 => ⟨fun c7 => ?_, fun d7 => ⟨fun c8 => ?_, fun d8 => ?_⟩⟩⟩⟩⟩⟩⟩⟩⟩
    · subst c0; exact ⟨ok _ (by decide), v0.trans (va 0 (by omega)).symm, h⟩
    · subst c1; exact ⟨ok _ (by decide), v1.trans (va 1 (by omega)).symm, h⟩
    · subst c2; exact ⟨ok _ (by decide), v2.trans (va 2 (by omega)).symm, h⟩
    · subst c3'; exact ⟨ok _ (by decide), v3.trans (va 3 (by omega)).symm, h⟩
    · subst c4; exact ⟨ok _ (by decide), v4.trans (va 4 (by omega)).symm, h⟩
    · subst c5; exact ⟨ok _ (by decide), by rw [v6]; rfl, h⟩
    · subst c6; exact ⟨fxM e0, e1 0, iv p0, ⟨h.now.1, hv, hy⟩, ok _ (by decide), rfl, h⟩
    · subst c7; exact ⟨ok _ (by decide), by rw [v7]; rfl, h⟩
    · subst c8; exact ⟨ok _ (by decide), by rw [v8]; rfl, h⟩
    · refine ⟨⟨by omega, by omega⟩, Or.inr ⟨?_, rfl⟩, h⟩
      unfold shpC
      rw [if_neg c, if_pos]
      by_cases g : zin p1 0 8 = 0
      · exact g
      · obtain ⟨j, hj, ej⟩ := zin_n (m := 8) (by decide) g
        subst ej
        have : j = 0 ∨ j = 1 ∨ j = 2 ∨ j = 3 ∨ j = 4 ∨ j = 5 ∨ j = 6 ∨ j = 7 ∨ j = 8 := by omega
        rcases this with z | z | z | z | z | z | z | z | z <;> subst z
        · exact absurd rfl d0
        · exact absurd rfl d1
        · exact absurd rfl d2
        · exact absurd rfl d3
        · exact absurd rfl d4
        · exact absurd rfl d5
        · exact absurd rfl d6
        · exact absurd rfl d7
        · exact absurd rfl d8)
abbrev ws_X10_accessorial : List Cond := Cond.code yX10_accessorial cX10_accessorial 5 (some .int) :: W0
abbrev rm_X10_accessorial : Room := ({ frames := 13, cells := 0, slots := 0, locals := 420 } : Room)
def wp_X10_accessorial (P : Int32 → HS → Prop) (X : String → HS → Prop) (x0 : Nat) (p0 : Int32) (p1 : Int32) (p2 : Int32) (S : HS) (mc ms : Nat) : Prop := ∃ cc1 cc2 : Nat, (cc1 ≤ mc ∧ cc2 ≤ ms) ∧ (∃ (m4 : (Nat → Nat)) (m5 : (Nat → Nat → Int32)) (m6 : (Nat → Int32)) (m7 : (Nat → Int32)) (m8 : (List Int32)), ((FrS S m4 m5 m6 m7 m8 ∧ x0 = m4 50 ∧ 1 ≤ cc1 ∧ 6 ≤ cc2) ∧ ((∀ (E9 : String) (S9 : HS), ext S S9 → (((wrC (m5 0) p0 p1 = 1 ∧ E9 = "java/lang/IndexOutOfBoundsException") ∨ (wrC (m5 0) p0 p1 = 2 ∧ E9 = "java/util/NoSuchElementException")) ∧ S9 = S) → X E9 S9) ∧ (∀ (o15 : Option Nat) (S10 : HS), ext S S10 → (∀ b, o15 = some b → hK S10 b = 1) → (S10 = S ∧ wrC (m5 0) p0 p1 = 0 ∧ ∃ y, o15 = some y ∧ RelA S (fxM m4) y (m5 0) (iv p0) (iv p1)) → (∃ b19 : Nat, o15 = some b19 ∧ (hK S10 b19 = 1 → ((p2 = 0 → (P (hI S10 20 b19) S10)) ∧ (¬ p2 = 0 → ((p2 = 1 → (P (hI S10 21 b19) S10)) ∧ (¬ p2 = 1 → ((p2 = 2 → (P (hI S10 23 b19) S10)) ∧ (¬ p2 = 2 → ((p2 = 3 → (∃ b26 : Nat, hR S10 24 b19 = some b26 ∧ (hK S10 b26 = 13 → (P (hI S10 262 b26) S10)))) ∧ (¬ p2 = 3 → ((p2 = 4 → (P (hI S10 22 b19) S10)) ∧ (¬ p2 = 4 → ((1 ≤ (mc - cc1) ∧ 6 ≤ (ms - cc2)) ∧ X "java/lang/IllegalArgumentException" S10)))))))))))))))))
set_option maxRecDepth 100000 in
set_option maxHeartbeats 4000000 in
theorem t_X10_accessorial {p : Program} {l : Launch} {e : Env} {s : State} {m : MethodId} {args : Array Value} {below : List Frame} {meth : Method} {c : Code} {D : va_G} {A : Nat → Prop} {T : Nat → ClassId} (C : GC p s m args meth c cX10_accessorial "FreightRater" (ws_X10_accessorial) 5 D A (zty T)) (E : GE T A s) (hst : l.stackTraces = false) (htab : ∀ z ∈ c.exceptionTable.toList, False) (hr : meth.sig.returnType = (some .int)) (P : Int32 → HS → Prop) (X : String → HS → Prop) : ∀ (x0 : Nat) (p0 : Int32) (p1 : Int32) (p2 : Int32) (S0 S : HS) (mc ms : Nat) (L : List Nat), S0 = S → wt S → hL S L → (hK S x0 = 11) → wp_X10_accessorial P X x0 p0 p1 p2 S mc ms → GW p l e { rm_X10_accessorial with cells := mc, slots := ms } s m args below meth c D A 5 mc ms (vx_MQ below (va_Qi (fun v (u : HS × List Nat) => P v u.1 ∧ CO S0 u) (CE D T A) A) (CXX D T A S0 X) args s mc ms A) (CW T S L) mc ms 0 [(0, .ref x0), (1, .int p0), (2, .int p1), (3, .int p2)] [] := by
  have hW : ∀ {w : Cond}, w ∈ W0 → w.before args s = true := fun h => C.2.2.2.2.1 _ (List.mem_cons_of_mem _ h)
  intro x0 p0 p1 p2 S0 S mc ms L hS0 hw hL hx0 h
  have he : ext S0 S := by rw [hS0]; exact ext_rf
  unfold wp_X10_accessorial at h
  refine g_aload_n C dX10_accessorial_0 rfl 0 rfl ?_
  refine g_iload_n C dX10_accessorial_1 rfl 1 rfl ?_
  refine g_iload_n C dX10_accessorial_2 rfl 2 rfl ?_
  obtain ⟨cc1, cc2, g3, h⟩ := h
  obtain ⟨m4, m5, m6, m7, m8, h⟩ := h
  obtain ⟨g9, h⟩ := h
  obtain ⟨g16, h⟩ := h
  refine gx_callqV (host := "") C E hw hL hx0 (by decide) (by decide) rfl [.int p0, .int p1] rfl (k_X10_requireAccessorial l hst D T x0 p0 p1 S m4 m5 m6 m7 m8 cc1 cc2 hx0 g9) (w0_V 2 C.2.2.2.2.1 kw_1037 kw_1039 ks_23 kw_1 kw_1040 rfl rfl (by decide +kernel) ⟨Nat.le_of_ble_eq_true rfl, Nat.le_of_ble_eq_true rfl⟩) rfl (Nat.le_of_ble_eq_true rfl) (Nat.le_refl _) (Nat.le_refl _) g3.1 g3.2 dX10_accessorial_3 he htab g16 (fun o15 S10 L11 e12 w13 w14 ko15 hp => ?_)
  replace h := h o15 S10 e12 ko15 hp
  have g17 := ext_K e12 hx0 (by decide)
  have w18 := ext_tr he e12
  obtain ⟨b19, rfl, h⟩ := h
  have g20 : hK S10 b19 = 1 := ko15 b19 rfl
  replace h := h g20
  refine g_astore (lv' := [(4, .ref b19), (0, .ref x0), (1, .int p0), (2, .int p1), (3, .int p2)]) C dX10_accessorial_6 (by decide) rfl ?_
  refine g_iload_n C dX10_accessorial_8 rfl 4 rfl ?_
  rcases Decidable.em (p2 = 0) with z21 | z21
  · refine g_tableIn (off := 35) (tgt := 44) C dX10_accessorial_9 (by rw [z21]; decide) (by rw [z21]; decide) (by rw [z21]; decide) (by decide) ?_
    replace h := h.1 z21
    refine g_aload C dX10_accessorial_44 0 rfl ?_
    refine gc_getI C iwx_X0 w14 g20 (by decide) (by decide) rfl 0 (by decide) (hW kw_741) rfl rfl rfl dX10_accessorial_46 ?_
    exact gx_iret C w13 w14 w18 hr dX10_accessorial_49 h
  replace h := h.2 z21
  rcases Decidable.em (p2 = 1) with z22 | z22
  · refine g_tableIn (off := 41) (tgt := 50) C dX10_accessorial_9 (by rw [z22]; decide) (by rw [z22]; decide) (by rw [z22]; decide) (by decide) ?_
    replace h := h.1 z22
    refine g_aload C dX10_accessorial_50 0 rfl ?_
    refine gc_getI C iwx_X0 w14 g20 (by decide) (by decide) rfl 1 (by decide) (hW kw_744) rfl rfl rfl dX10_accessorial_52 ?_
    exact gx_iret C w13 w14 w18 hr dX10_accessorial_55 h
  replace h := h.2 z22
  rcases Decidable.em (p2 = 2) with z23 | z23
  · refine g_tableIn (off := 47) (tgt := 56) C dX10_accessorial_9 (by rw [z23]; decide) (by rw [z23]; decide) (by rw [z23]; decide) (by decide) ?_
    replace h := h.1 z23
    refine g_aload C dX10_accessorial_56 0 rfl ?_
    refine gc_getI C iwx_X0 w14 g20 (by decide) (by decide) rfl 3 (by decide) (hW kw_750) rfl rfl rfl dX10_accessorial_58 ?_
    exact gx_iret C w13 w14 w18 hr dX10_accessorial_61 h
  replace h := h.2 z23
  rcases Decidable.em (p2 = 3) with z24 | z24
  · refine g_tableIn (off := 53) (tgt := 62) C dX10_accessorial_9 (by rw [z24]; decide) (by rw [z24]; decide) (by rw [z24]; decide) (by decide) ?_
    replace h := h.1 z24
    refine g_aload C dX10_accessorial_62 0 rfl ?_
    refine gc_getR C w13 iwx_X0 w14 g20 (by decide) (by decide) rfl 4 (by decide) (hW kw_752) rfl rfl rfl dX10_accessorial_64 (fun o25 eo25 ko25 => ?_)
    obtain ⟨b26, hb9, h⟩ := h
    have g27 : hK S10 b26 = 13 := ko25 b26 (eo25.trans hb9)
    replace h := h g27
    refine g_opt (eo25.trans hb9) ?_
    refine gc_calliV (host := "") C E w13 w14 g27 (by decide) (by decide) rfl [] rfl (k_Jx4a65c_size_8abf5 l D T b26 S10 g27) (w0_V 0 C.2.2.2.2.1 kw_875 kw_876 kw_877 kw_22 kw_878 rfl rfl (by decide +kernel) ⟨Nat.le_of_ble_eq_true rfl, Nat.le_of_ble_eq_true rfl⟩) rfl (Nat.le_of_ble_eq_true rfl) (Nat.le_refl _) (Nat.le_refl _) (Nat.zero_le _) (Nat.zero_le _) dX10_accessorial_67 (fun v9 S9 L28 he9 hw9 hL9 hp => ?_)
    obtain ⟨hv9, hs9⟩ := hp
    replace hs9 := hs9.symm
    subst hs9
    replace hv9 := hv9.symm
    subst hv9
    have w31 := hL9
    exact gx_iret C w13 w31 w18 hr dX10_accessorial_70 h
  replace h := h.2 z24
  rcases Decidable.em (p2 = 4) with z32 | z32
  · refine g_tableIn (off := 62) (tgt := 71) C dX10_accessorial_9 (by rw [z32]; decide) (by rw [z32]; decide) (by rw [z32]; decide) (by decide) ?_
    replace h := h.1 z32
    refine g_aload C dX10_accessorial_71 0 rfl ?_
    refine gc_getI C iwx_X0 w14 g20 (by decide) (by decide) rfl 2 (by decide) (hW kw_747) rfl rfl rfl dX10_accessorial_73 ?_
    exact gx_iret C w13 w14 w18 hr dX10_accessorial_76 h
  replace h := h.2 z32
  refine g_tableD (tgt := 77) C dX10_accessorial_9 (by decide) (fun j hj => ?_) (by decide) ?_
  · rcases (show j = 0 ∨ j = 1 ∨ j = 2 ∨ j = 3 ∨ j = 4 by have hj2 : j < 5 := hj; omega) with rfl | rfl | rfl | rfl | rfl <;> first | exact Or.inr rfl | exact Or.inl (by first | exact lv_neT z21 rfl | exact lv_neT z22 rfl | exact lv_neT z23 rfl | exact lv_neT z24 rfl | exact lv_neT z32 rfl)
  obtain ⟨g33, h⟩ := h
  exact gx_throw (cls := "java/lang/IllegalArgumentException") (names := ["java/lang/RuntimeException", "java/lang/Exception"]) C E hst w13 w14 w18 (Nat.le_refl _) (Nat.le_refl _) (by decide) (by decide) (hW kw_310) (hW kw_13) (th_FreightRater_62 hW E) tv_FreightRater_62 dX10_accessorial_77 dX10_accessorial_80 dX10_accessorial_81 dX10_accessorial_84 htab (Nat.le_of_ble_eq_true rfl) (Nat.le_of_ble_eq_true rfl) g33.1 g33.2 h
theorem c_X10_accessorial (l : Launch) (hst : l.stackTraces = false) (D : va_G) (T : Nat → ClassId) (x0 : Nat) (p0 : Int32) (p1 : Int32) (p2 : Int32) (S : HS) (mc ms : Nat) (hx0 : hK S x0 = 11) (P : Int32 → HS → Prop) (X : String → HS → Prop) (h : wp_X10_accessorial P X x0 p0 p1 p2 S mc ms) : CXi l yX10_accessorial (ws_X10_accessorial) rm_X10_accessorial D T [.ref x0, .int p0, .int p1, .int p2] S mc ms P X := gx_meti (by decide) rfl rfl (Nat.le_of_ble_eq_true rfl) (fun p e s m args below meth c A L C E hnm hr htab hw hL => t_X10_accessorial C E hst htab hr P X x0 p0 p1 p2 S S mc ms L rfl hw hL hx0 h)
theorem k_X10_accessorial (l : Launch) (hst : l.stackTraces = false) (D : va_G) (T : Nat → ClassId) (x0 : Nat) (p0 : Int32) (p1 : Int32) (p2 : Int32) (S : HS) (e0 : (Nat → Nat)) (e1 : (Nat → Nat → Int32)) (e2 : (Nat → Int32)) (e3 : (Nat → Int32)) (e4 : (List Int32)) (mc ms : Nat) (hx0 : hK S x0 = 11) (h : FrS S e0 e1 e2 e3 e4 ∧ x0 = e0 50 ∧ 200 ≤ mc ∧ 2000 ≤ ms) : CXi l yX10_accessorial (ws_X10_accessorial) rm_X10_accessorial D T [.ref x0, .int p0, .int p1, .int p2] S mc ms (fun v S1 => (accC (e1 0) p0 p1 p2 = 0 ∧ v = e1 0 (274 + 510 * iv p0 + 150 + 36 * iv p1 + 1 + iv p2) ∧ FrS S1 e0 e1 e2 e3 e4)) (fun E9 S1 => ((accC (e1 0) p0 p1 p2 = 1 ∧ E9 = "java/lang/IndexOutOfBoundsException") ∨ (accC (e1 0) p0 p1 p2 = 2 ∧ E9 = "java/util/NoSuchElementException") ∨ (accC (e1 0) p0 p1 p2 = 3 ∧ E9 = "java/lang/IllegalArgumentException")) ∧ FrS S1 e0 e1 e2 e3 e4) := c_X10_accessorial l hst D T x0 p0 p1 p2 S mc ms hx0 _ _ <|
  (by
    obtain ⟨h, e, hmc, hms⟩ := h
    unfold wp_X10_accessorial
    refine ⟨1, 6, ⟨by omega, by omega⟩, e0, e1, e2, e3, e4, ⟨h, e, Nat.le_refl _, Nat.le_refl _⟩, fun E9 S9 _ h9 => ?_, fun o S10 _ _ h10 => ?_⟩
    · obtain ⟨c, eS⟩ := h9
      subst eS
      have cc : ∀ k : Int32, ¬ k = 0 → wrC (e1 0) p0 p1 = k → accC (e1 0) p0 p1 p2 = k := fun k hk z => by
        unfold wrC at z
        unfold accC
        by_cases c1 : zin p0 0 (e1 0 0 - 1) = 0
        · rw [if_pos c1] at z ⊢; exact z
        · rw [if_neg c1] at z ⊢
          by_cases c2 : zin p1 0 9 = 0
          · rw [if_pos c2] at z ⊢; exact z
          · rw [if_neg c2] at z ⊢
            by_cases c4 : e1 0 (274 + 510 * iv p0 + 150 + 36 * iv p1) = 0
            · rw [if_pos c4] at z ⊢; exact z
            · rw [if_neg c4] at z; exact absurd z.symm hk
      rcases c with ⟨c, eE⟩ | ⟨c, eE⟩
      · exact ⟨Or.inl ⟨cc 1 (by decide) c, eE⟩, h⟩
      · exact ⟨Or.inr (Or.inl ⟨cc 2 (by decide) c, eE⟩), h⟩
    obtain ⟨eS, c, y, ey, hy⟩ := h10
    subst eS
    refine ⟨y, ey, fun _ => ?_⟩
    have ac : ∀ w, accC (e1 0) p0 p1 w = if zin w 0 4 = 0 then 3 else 0 := fun w => by
      unfold wrC at c
      unfold accC
      by_cases c1 : zin p0 0 (e1 0 0 - 1) = 0
      · rw [if_pos c1] at c; exact absurd c (by decide)
      · rw [if_neg c1] at c ⊢
        by_cases c2 : zin p1 0 9 = 0
        · rw [if_pos c2] at c; exact absurd c (by decide)
        · rw [if_neg c2] at c ⊢
          by_cases c4 : e1 0 (274 + 510 * iv p0 + 150 + 36 * iv p1) = 0
          · rw [if_pos c4] at c; exact absurd c (by decide)
          · rw [if_neg c4]
    have ok : ∀ w : Int32, ¬ zin w 0 4 = 0 → accC (e1 0) p0 p1 w = 0 := fun w hw => by rw [ac, if_neg hw]
    obtain ⟨_, _, v1, v2, v5, v3, al, ar, g1, g2, _, _, _, _, v4, _⟩ := hy
    have va : ∀ w : Nat, w < 5 → ∀ x : Int32, x = e1 0 (274 + 510 * iv p0 + 150 + 36 * iv p1 + (1 + w)) → x = e1 0 (274 + 510 * iv p0 + 150 + 36 * iv p1 + 1 + iv (nI w)) := fun w hw x hx => by
      rw [show iv (nI w) = w from nI_clamp (by omega), Nat.add_assoc]; exact hx
    refine ⟨fun c0 => ?_, fun d0 => ⟨fun c1 => ?_, fun d1 => ⟨fun c2 => ?_, fun d2 => ⟨fun c3' => ?_, fun d3 => ⟨fun c4 => ?_, fun d4 => ?_⟩⟩⟩⟩⟩
    · subst c0; exact ⟨ok _ (by decide), va 0 (by omega) _ v1, h⟩
    · subst c1; exact ⟨ok _ (by decide), va 1 (by omega) _ v2, h⟩
    · subst c2; exact ⟨ok _ (by decide), va 2 (by omega) _ v3, h⟩
    · subst c3'; exact ⟨al, g1, fun _ => ⟨ok _ (by decide), va 3 (by omega) _ v4, h⟩⟩
    · subst c4; exact ⟨ok _ (by decide), va 4 (by omega) _ v5, h⟩
    · refine ⟨⟨by omega, by omega⟩, Or.inr (Or.inr ⟨?_, rfl⟩), h⟩
      rw [ac, if_pos]
      by_cases g : zin p2 0 4 = 0
      · exact g
      · obtain ⟨j, hj, ej⟩ := zin_n (m := 4) (by decide) g
        subst ej
        have : j = 0 ∨ j = 1 ∨ j = 2 ∨ j = 3 ∨ j = 4 := by omega
        rcases this with z | z | z | z | z <;> subst z
        · exact absurd rfl d0
        · exact absurd rfl d1
        · exact absurd rfl d2
        · exact absurd rfl d3
        · exact absurd rfl d4)
abbrev ws_X10_breakOf : List Cond := Cond.code yX10_breakOf cX10_breakOf 6 (some .int) :: W0
abbrev rm_X10_breakOf : Room := ({ frames := 6, cells := 0, slots := 0, locals := 100 } : Room)
def wp_X10_breakOf (P : Int32 → HS → Prop) (X : String → HS → Prop) (x0 : Nat) (p0 : Int32) (p1 : Int32) (p2 : Int32) (p3 : Int32) (S : HS) (mc ms : Nat) : Prop := ∃ (m1 : (Nat → Nat)) (m2 : (Nat → Nat → Int32)) (m3 : (Nat → Int32)) (m4 : (Nat → Int32)) (m5 : (List Int32)), ((FrS S m1 m2 m3 m4 m5 ∧ x0 = m1 50) ∧ (∀ (o12 : Option Nat) (S7 : HS), ext S S7 → (∀ b, o12 = some b → hK S7 b = 5) → (S7 = S ∧ ((zin p0 0 (m2 0 0 - 1) = 0 ∨ zin p1 1 9 = 0) → o12 = none) ∧ (¬ zin p0 0 (m2 0 0 - 1) = 0 → ¬ zin p1 1 9 = 0 → ∃ y, o12 = some y ∧ RelSc S (fxM m1) y (m2 0) (iv p0) (iv p1))) → ((o12 = none → ((1 ≤ mc ∧ 6 ≤ ms) ∧ X "java/lang/IndexOutOfBoundsException" S7)) ∧ (∀ b15 : Nat, o12 = some b15 → hK S7 b15 = 5 → ((¬ (zin p2 (-1) ((hI S7 100 b15) - 1)) = 0 → ((¬ p2 = (-1) → ((p3 = 0 → (∃ b26 : Nat, hR S7 101 b15 = some b26 ∧ (hK S7 b26 = 22 → (vp_in p2 (hN S7 b26) ∧ (P (hA S7 b26 (Int32.toNatClampNeg p2)) S7))))) ∧ (¬ p3 = 0 → (∃ b30 : Nat, hR S7 102 b15 = some b30 ∧ (hK S7 b30 = 22 → (vp_in p2 (hN S7 b30) ∧ (P (hA S7 b30 (Int32.toNatClampNeg p2)) S7))))))) ∧ (p2 = (-1) → ((p3 = 0 → (P (hI S7 100 b15) S7)) ∧ (¬ p3 = 0 → (P (hI S7 103 b15) S7)))))) ∧ ((zin p2 (-1) ((hI S7 100 b15) - 1)) = 0 → ((1 ≤ mc ∧ 6 ≤ ms) ∧ X "java/lang/IndexOutOfBoundsException" S7)))))))
set_option maxRecDepth 100000 in
set_option maxHeartbeats 4000000 in
theorem t_X10_breakOf {p : Program} {l : Launch} {e : Env} {s : State} {m : MethodId} {args : Array Value} {below : List Frame} {meth : Method} {c : Code} {D : va_G} {A : Nat → Prop} {T : Nat → ClassId} (C : GC p s m args meth c cX10_breakOf "FreightRater" (ws_X10_breakOf) 6 D A (zty T)) (E : GE T A s) (hst : l.stackTraces = false) (htab : ∀ z ∈ c.exceptionTable.toList, False) (hr : meth.sig.returnType = (some .int)) (P : Int32 → HS → Prop) (X : String → HS → Prop) : ∀ (x0 : Nat) (p0 : Int32) (p1 : Int32) (p2 : Int32) (p3 : Int32) (S0 S : HS) (mc ms : Nat) (L : List Nat), S0 = S → wt S → hL S L → (hK S x0 = 11) → wp_X10_breakOf P X x0 p0 p1 p2 p3 S mc ms → GW p l e { rm_X10_breakOf with cells := mc, slots := ms } s m args below meth c D A 6 mc ms (vx_MQ below (va_Qi (fun v (u : HS × List Nat) => P v u.1 ∧ CO S0 u) (CE D T A) A) (CXX D T A S0 X) args s mc ms A) (CW T S L) mc ms 0 [(0, .ref x0), (1, .int p0), (2, .int p1), (3, .int p2), (4, .int p3)] [] := by
  have hW : ∀ {w : Cond}, w ∈ W0 → w.before args s = true := fun h => C.2.2.2.2.1 _ (List.mem_cons_of_mem _ h)
  intro x0 p0 p1 p2 p3 S0 S mc ms L hS0 hw hL hx0 h
  have he : ext S0 S := by rw [hS0]; exact ext_rf
  unfold wp_X10_breakOf at h
  refine g_aload_n C dX10_breakOf_0 rfl 0 rfl ?_
  refine g_iload_n C dX10_breakOf_1 rfl 1 rfl ?_
  refine g_iload_n C dX10_breakOf_2 rfl 2 rfl ?_
  obtain ⟨m1, m2, m3, m4, m5, h⟩ := h
  obtain ⟨g6, h⟩ := h
  refine gc_callqV (host := "") C E hw hL hx0 (by decide) (by decide) rfl [.int p0, .int p1] rfl (k_X10_findScale l D T x0 p0 p1 S m1 m2 m3 m4 m5 hx0 g6) (w0_V 2 C.2.2.2.2.1 kw_1025 kw_1027 ks_22 kw_1 kw_1028 rfl rfl (by decide +kernel) ⟨Nat.le_of_ble_eq_true rfl, Nat.le_of_ble_eq_true rfl⟩) rfl (Nat.le_of_ble_eq_true rfl) (Nat.le_refl _) (Nat.le_refl _) (Nat.zero_le _) (Nat.zero_le _) dX10_breakOf_3 (fun o12 S7 L8 e9 w10 w11 ko12 hp => ?_)
  replace h := h o12 S7 e9 ko12 hp
  have g13 := ext_K e9 hx0 (by decide)
  have w14 := ext_tr he e9
  refine g_qstore (lv' := [(5, va_rf o12), (0, .ref x0), (1, .int p0), (2, .int p1), (3, .int p2), (4, .int p3)]) C dX10_breakOf_6 (by decide) rfl ?_
  refine g_qload C dX10_breakOf_8 0 rfl ?_
  rcases o12 with _ | b15
  · replace h := h.1 rfl
    refine g_ifnullN (tgt := 28) C dX10_breakOf_10 (by decide) ?_
    obtain ⟨g17, h⟩ := h
    exact gx_throw (cls := "java/lang/IndexOutOfBoundsException") (names := ["java/lang/RuntimeException", "java/lang/Exception"]) C E hst w10 w11 w14 (Nat.le_refl _) (Nat.le_refl _) (by decide) (by decide) (hW kw_465) (hW kw_16) (th_FreightRater_72 hW E) tv_FreightRater_72 dX10_breakOf_28 dX10_breakOf_31 dX10_breakOf_32 dX10_breakOf_35 htab (Nat.le_of_ble_eq_true rfl) (Nat.le_of_ble_eq_true rfl) g17.1 g17.2 h
  · have g16 : hK S7 b15 = 5 := ko12 b15 rfl
    replace h := h.2 b15 rfl g16
    refine g_ifnull C dX10_breakOf_10 ?_
    refine g_iload_n C dX10_breakOf_13 rfl 4 rfl ?_
    refine g_iconst (v := -1) C dX10_breakOf_14 (by decide) ?_
    refine g_aload C dX10_breakOf_15 0 rfl ?_
    refine gc_getI C iwx_X4 w11 g16 (by decide) (by decide) rfl 0 (by decide) (hW kw_396) rfl rfl rfl dX10_breakOf_17 ?_
    refine g_iconst (v := 1) C dX10_breakOf_20 (by decide) ?_
    refine g_isub C dX10_breakOf_21 ?_
    refine gc_calliS (host := "") C E w10 w11 [.int p2, .int (-1), .int ((hI S7 100 b15) - 1)] rfl (k_X10_isBetween l D T p2 (-1) ((hI S7 100 b15) - 1) S7 ) (w0_S 3 C.2.2.2.2.1 kw_303 kw_304 kw_1 kw_305 rfl rfl (by decide +kernel) ⟨Nat.le_of_ble_eq_true rfl, Nat.le_of_ble_eq_true rfl⟩) rfl (Nat.le_of_ble_eq_true rfl) (Nat.le_refl _) (Nat.le_refl _) (Nat.zero_le _) (Nat.zero_le _) dX10_breakOf_22 (fun v9 S9 L18 he9 hw9 hL9 hp => ?_)
    obtain ⟨hv9, hs9⟩ := hp
    replace hs9 := hs9.symm
    subst hs9
    replace hv9 := hv9.symm
    subst hv9
    have w21 := hL9
    refine g_if_ne (tgt := 36) C dX10_breakOf_25 (by decide) (fun z22 => ?_) (fun z22 => ?_)
    · replace h := h.1 z22
      refine g_iload_n C dX10_breakOf_36 rfl 4 rfl ?_
      refine g_iconst (v := -1) C dX10_breakOf_37 (by decide) ?_
      refine g_icmp_ne (tgt := 60) C dX10_breakOf_38 (by decide) (fun z23 => ?_) (fun z23 => ?_)
      · replace h := h.1 z23
        refine g_iload C dX10_breakOf_60 5 rfl ?_
        refine g_if_eq (tgt := 75) C dX10_breakOf_62 (by decide) (fun z24 => ?_) (fun z24 => ?_)
        · replace h := h.1 z24
          refine g_aload C dX10_breakOf_75 0 rfl ?_
          refine gc_getR C w10 iwx_X4 w21 g16 (by decide) (by decide) rfl 1 (by decide) (hW kw_398) rfl rfl rfl dX10_breakOf_77 (fun o25 eo25 ko25 => ?_)
          obtain ⟨b26, hb9, h⟩ := h
          have g27 : hK S7 b26 = 22 := ko25 b26 (eo25.trans hb9)
          replace h := h g27
          refine g_opt (eo25.trans hb9) ?_
          refine g_iload_n C dX10_breakOf_80 rfl 4 rfl ?_
          obtain ⟨g28, h⟩ := h
          refine gc_iald C w21 g27 g28 dX10_breakOf_81 ?_
          exact gx_iret C w10 w21 w14 hr dX10_breakOf_82 h
        · replace h := h.2 z24
          refine g_aload C dX10_breakOf_65 0 rfl ?_
          refine gc_getR C w10 iwx_X4 w21 g16 (by decide) (by decide) rfl 2 (by decide) (hW kw_401) rfl rfl rfl dX10_breakOf_67 (fun o29 eo29 ko29 => ?_)
          obtain ⟨b30, hb9, h⟩ := h
          have g31 : hK S7 b30 = 22 := ko29 b30 (eo29.trans hb9)
          replace h := h g31
          refine g_opt (eo29.trans hb9) ?_
          refine g_iload_n C dX10_breakOf_70 rfl 4 rfl ?_
          obtain ⟨g32, h⟩ := h
          refine gc_iald C w21 g31 g32 dX10_breakOf_71 ?_
          refine g_goto (tgt := 82) C dX10_breakOf_72 (by decide) ?_
          exact gx_iret C w10 w21 w14 hr dX10_breakOf_82 h
      · replace h := h.2 z23
        refine g_iload C dX10_breakOf_41 5 rfl ?_
        refine g_if_eq (tgt := 54) C dX10_breakOf_43 (by decide) (fun z33 => ?_) (fun z33 => ?_)
        · replace h := h.1 z33
          refine g_aload C dX10_breakOf_54 0 rfl ?_
          refine gc_getI C iwx_X4 w21 g16 (by decide) (by decide) rfl 0 (by decide) (hW kw_396) rfl rfl rfl dX10_breakOf_56 ?_
          exact gx_iret C w10 w21 w14 hr dX10_breakOf_59 h
        · replace h := h.2 z33
          refine g_aload C dX10_breakOf_46 0 rfl ?_
          refine gc_getI C iwx_X4 w21 g16 (by decide) (by decide) rfl 3 (by decide) (hW kw_403) rfl rfl rfl dX10_breakOf_48 ?_
          refine g_goto (tgt := 59) C dX10_breakOf_51 (by decide) ?_
          exact gx_iret C w10 w21 w14 hr dX10_breakOf_59 h
    · replace h := h.2 z22
      obtain ⟨g34, h⟩ := h
      exact gx_throw (cls := "java/lang/IndexOutOfBoundsException") (names := ["java/lang/RuntimeException", "java/lang/Exception"]) C E hst w10 w21 w14 (Nat.le_refl _) (Nat.le_refl _) (by decide) (by decide) (hW kw_465) (hW kw_16) (th_FreightRater_72 hW E) tv_FreightRater_72 dX10_breakOf_28 dX10_breakOf_31 dX10_breakOf_32 dX10_breakOf_35 htab (Nat.le_of_ble_eq_true rfl) (Nat.le_of_ble_eq_true rfl) g34.1 g34.2 h
theorem c_X10_breakOf (l : Launch) (hst : l.stackTraces = false) (D : va_G) (T : Nat → ClassId) (x0 : Nat) (p0 : Int32) (p1 : Int32) (p2 : Int32) (p3 : Int32) (S : HS) (mc ms : Nat) (hx0 : hK S x0 = 11) (P : Int32 → HS → Prop) (X : String → HS → Prop) (h : wp_X10_breakOf P X x0 p0 p1 p2 p3 S mc ms) : CXi l yX10_breakOf (ws_X10_breakOf) rm_X10_breakOf D T [.ref x0, .int p0, .int p1, .int p2, .int p3] S mc ms P X := gx_meti (by decide) rfl rfl (Nat.le_of_ble_eq_true rfl) (fun p e s m args below meth c A L C E hnm hr htab hw hL => t_X10_breakOf C E hst htab hr P X x0 p0 p1 p2 p3 S S mc ms L rfl hw hL hx0 h)
theorem zin_k {x : Int32} {n : Nat} (hn : n < 2 ^ 31) (h : ¬ zin x (-1) (nI n - 1) = 0) : x = -1 ∨ ∃ j : Nat, j < n ∧ x = nI j := by
  by_cases c : x = -1
  · exact Or.inl c
  · refine Or.inr (zin_m hn (zin_0.mpr ⟨?_, (zin_0.mp h).2⟩))
    have h1 := (zin_0.mp h).1
    rw [le_toInt] at h1 ⊢
    rw [Int32.toInt_zero]
    have e1 : (-1 : Int32).toInt = -1 := by decide
    have : x.toInt ≠ -1 := fun z => c (Int32.toInt_inj.mp (z.trans e1.symm))
    omega
theorem k_X10_breakOf (l : Launch) (hst : l.stackTraces = false) (D : va_G) (T : Nat → ClassId) (x0 : Nat) (p0 : Int32) (p1 : Int32) (p2 : Int32) (p3 : Int32) (S : HS) (e0 : (Nat → Nat)) (e1 : (Nat → Nat → Int32)) (e2 : (Nat → Int32)) (e3 : (Nat → Int32)) (e4 : (List Int32)) (mc ms : Nat) (hx0 : hK S x0 = 11) (h : FrS S e0 e1 e2 e3 e4 ∧ x0 = e0 50 ∧ 200 ≤ mc ∧ 2000 ≤ ms) : CXi l yX10_breakOf (ws_X10_breakOf) rm_X10_breakOf D T [.ref x0, .int p0, .int p1, .int p2, .int p3] S mc ms (fun v S1 => (brkC (e1 0) p0 p1 p2 = 0 ∧ v = brkA (e1 0) (iv p0) (iv p1) p2 p3 ∧ FrS S1 e0 e1 e2 e3 e4)) (fun E9 S1 => ((brkC (e1 0) p0 p1 p2 = 1 ∧ E9 = "java/lang/IndexOutOfBoundsException")) ∧ FrS S1 e0 e1 e2 e3 e4) := c_X10_breakOf l hst D T x0 p0 p1 p2 p3 S mc ms hx0 _ _ <|
  (by
    obtain ⟨h, e, hmc, hms⟩ := h
    have hh : FrS S e0 e1 e2 e3 e4 ∧ x0 = e0 50 := ⟨h, e⟩
    unfold wp_X10_breakOf
    refine ⟨e0, e1, e2, e3, e4, hh, fun o S1 _ _ h1 => ?_⟩
    obtain ⟨e1', hn, hs⟩ := h1
    subst e1'
    by_cases c : zin p0 0 (e1 0 0 - 1) = 0
    · rw [hn (Or.inl c)]
      exact ⟨fun _ => ⟨⟨by omega, by omega⟩, ⟨by unfold brkC; rw [if_pos c], rfl⟩, h⟩, fun b hb => by cases hb⟩
    by_cases c2 : zin p1 1 9 = 0
    · rw [hn (Or.inr c2)]
      exact ⟨fun _ => ⟨⟨by omega, by omega⟩, ⟨by unfold brkC; rw [if_neg c, if_pos c2], rfl⟩, h⟩, fun b hb => by cases hb⟩
    obtain ⟨y, ey, hy⟩ := hs c c2
    rw [ey]
    refine ⟨fun z => (by cases z), fun b hb _ => ?_⟩
    cases hb
    have hv := zv h.now.1 c
    have hz := zz c2
    obtain ⟨_, _, i100, i103, w, p, rw', rp, fw, fp, hwp⟩ := hy
    obtain ⟨n, hn5, en⟩ : sm (e1 0) (274 + 510 * iv p0 + 38 + iv p1 - 1) 5 := h.now.1.brk hv.1 hz.1 hz.2.1
    rw [i100, i103]
    refine ⟨fun c4 => ?_, fun c4 => ⟨⟨by omega, by omega⟩, ⟨by unfold brkC; rw [if_neg c, if_neg c2, if_pos c4], rfl⟩, h⟩⟩
    have ok : brkC (e1 0) p0 p1 p2 = 0 := by unfold brkC; rw [if_neg c, if_neg c2, if_neg c4]
    refine ⟨fun c5 => ?_, fun c5 => ?_⟩
    · rw [en] at c4
      rcases zin_k (by omega) c4 with z | ⟨j, hj, ej⟩
      · exact absurd z c5
      · subst ej
        have hj5 := hwp j (by rw [en, show iv (nI n) = n from nI_clamp (by omega)]; exact hj)
        have ij : iv (nI j) = j := nI_clamp (by omega)
        refine ⟨fun c6 => ⟨w, rw', fun _ => ?_⟩, fun c6 => ⟨p, rp, fun _ => ?_⟩⟩
        · rw [fw.2.1, nz_vp (by omega) (by decide), show Int32.toNatClampNeg (nI j) = j from nI_clamp (by omega)]
          refine ⟨by omega, ok, ?_, h⟩
          unfold brkA
          rw [if_pos (nI_pos' (by omega)), if_pos c6, ij]
          exact hj5.1
        · rw [fp.2.1, nz_vp (by omega) (by decide), show Int32.toNatClampNeg (nI j) = j from nI_clamp (by omega)]
          refine ⟨by omega, ok, ?_, h⟩
          unfold brkA
          rw [if_pos (nI_pos' (by omega)), if_neg c6, ij]
          exact hj5.2
    · subst c5
      refine ⟨fun c6 => ⟨ok, ?_, h⟩, fun c6 => ⟨ok, ?_, h⟩⟩
      · unfold brkA
        rw [if_neg (by decide), if_pos c6]
      · unfold brkA
        rw [if_neg (by decide), if_neg c6])

end S_C9C
