section S_DRAFT
theorem zv {μ : Nat → Int32} (hw : WF μ) {p : Int32} (h : ¬ zin p 0 (μ 0 - 1) = 0) : iv p < 6 ∧ iv p < iv (μ 0) ∧ p = nI (iv p) := by
  obtain ⟨n, hn, e⟩ := hw.1
  rw [e] at h ⊢
  obtain ⟨j, hj, ej⟩ := zin_m (by omega) h
  have e1 : iv p = j := by rw [ej]; exact nI_clamp (by omega)
  have e2 : iv (nI n) = n := nI_clamp (by omega)
  rw [e1, e2]
  exact ⟨by omega, hj, ej⟩
theorem zs {μ : Nat → Int32} (hw : WF μ) {p : Int32} (h : ¬ zin p 0 (μ 1 - 1) = 0) : iv p < 10 ∧ iv p < iv (μ 1) ∧ p = nI (iv p) := by
  obtain ⟨n, hn, e⟩ := hw.2.1
  rw [e] at h ⊢
  obtain ⟨j, hj, ej⟩ := zin_m (by omega) h
  have e1 : iv p = j := by rw [ej]; exact nI_clamp (by omega)
  have e2 : iv (nI n) = n := nI_clamp (by omega)
  rw [e1, e2]
  exact ⟨by omega, hj, ej⟩
theorem zz {p : Int32} (h : ¬ zin p 1 9 = 0) : 1 ≤ iv p ∧ iv p ≤ 9 ∧ p = nI (iv p) := by
  obtain ⟨j, h1, h2, e⟩ := zin_1 (m := 9) (by decide) h
  have e1 : iv p = j := by rw [e]; exact nI_clamp (by omega)
  rw [e1]
  exact ⟨h1, h2, e⟩
theorem kd_X10_requireShipment (l : Launch) (hst : l.stackTraces = false) (D : va_G) (T : Nat → ClassId) (x0 : Nat) (p0 : Int32) (S : HS) (e0 : (Nat → Nat)) (e1 : (Nat → Nat → Int32)) (e2 : (Nat → Int32)) (e3 : (Nat → Int32)) (e4 : (List Int32)) (mc ms : Nat) (hx0 : hK S x0 = 11) (h : FrS S e0 e1 e2 e3 e4 ∧ x0 = e0 50 ∧ 1 ≤ mc ∧ 6 ≤ ms) : CXq l yX10_requireShipment (ws_X10_requireShipment) rm_X10_requireShipment D T [.ref x0, .int p0] S mc ms 6 (fun v S1 => (S1 = S ∧ ¬ zin p0 0 (e1 0 1 - 1) = 0 ∧ ∃ y, v = some y ∧ RelS S (fxM e0) y (e1 0) (iv p0))) (fun E9 S1 => zin p0 0 (e1 0 1 - 1) = 0 ∧ E9 = "java/lang/IndexOutOfBoundsException" ∧ S1 = S) := c_X10_requireShipment l hst D T x0 p0 S mc ms hx0 _ _ <|
  (by
    obtain ⟨h, e, hmc, hms⟩ := h
    subst e
    unfold wp_X10_requireShipment
    refine ⟨e0 0, h.r0, fun _ => ⟨fxM e0, e1 0, h.now, fun o S7 _ _ h7 => ?_⟩⟩
    obtain ⟨e7, hn, hs⟩ := h7
    subst e7
    by_cases c : zin p0 0 (e1 0 1 - 1) = 0
    · rw [hn c]
      exact ⟨fun _ => ⟨⟨hmc, hms⟩, c, rfl, rfl⟩, fun b hb => by cases hb⟩
    · obtain ⟨y, ey, hy⟩ := hs c
      rw [ey]
      refine ⟨fun z => (by cases z), fun b hb _ => ?_⟩
      cases hb
      exact ⟨rfl, c, _, rfl, hy⟩)
theorem kd_X10_findScale (l : Launch) (D : va_G) (T : Nat → ClassId) (x0 : Nat) (p0 : Int32) (p1 : Int32) (S : HS) (e0 : (Nat → Nat)) (e1 : (Nat → Nat → Int32)) (e2 : (Nat → Int32)) (e3 : (Nat → Int32)) (e4 : (List Int32)) (hx0 : hK S x0 = 11) (h : FrS S e0 e1 e2 e3 e4 ∧ x0 = e0 50) : CMq l yX10_findScale (ws_X10_findScale) rm_X10_findScale D T [.ref x0, .int p0, .int p1] S 0 0 5 (fun v S1 => (S1 = S ∧ ((zin p0 0 (e1 0 0 - 1) = 0 ∨ zin p1 1 9 = 0) → v = none) ∧ (¬ zin p0 0 (e1 0 0 - 1) = 0 → ¬ zin p1 1 9 = 0 → ∃ y, v = some y ∧ RelSc S (fxM e0) y (e1 0) (iv p0) (iv p1)))) := c_X10_findScale l D T x0 p0 p1 S hx0 _ <|
  (by
    obtain ⟨h, e⟩ := h
    subst e
    unfold wp_X10_findScale
    refine ⟨e0 0, h.r0, fun _ => ⟨fxM e0, e1 0, h.now, fun o S7 _ _ h7 => ?_⟩⟩
    obtain ⟨e7, hn, hs⟩ := h7
    subst e7
    by_cases c : zin p0 0 (e1 0 0 - 1) = 0
    · rw [hn c]
      exact ⟨fun _ => ⟨rfl, fun _ => rfl, fun z => absurd c z⟩, fun b hb => by cases hb⟩
    · obtain ⟨y, ey, hy⟩ := hs c
      rw [ey]
      refine ⟨fun z => (by cases z), fun b hb _ => ?_⟩
      cases hb
      refine ⟨fxM e0, e1 0, iv p0, ⟨h.now.1, (zv h.now.1 c).1, hy⟩, fun o S21 _ _ h21 => ?_⟩
      obtain ⟨e21, gn, gs⟩ := h21
      refine ⟨e21, fun z => ?_, fun _ z => ?_⟩
      · rcases z with z | z
        · exact absurd z c
        · exact gn z
      · obtain ⟨w, ew, hw, _⟩ := gs z
        exact ⟨w, ew, hw⟩)
theorem kd_X10_requireAccessorial (l : Launch) (hst : l.stackTraces = false) (D : va_G) (T : Nat → ClassId) (x0 : Nat) (p0 : Int32) (p1 : Int32) (S : HS) (e0 : (Nat → Nat)) (e1 : (Nat → Nat → Int32)) (e2 : (Nat → Int32)) (e3 : (Nat → Int32)) (e4 : (List Int32)) (mc ms : Nat) (hx0 : hK S x0 = 11) (h : FrS S e0 e1 e2 e3 e4 ∧ x0 = e0 50 ∧ 1 ≤ mc ∧ 6 ≤ ms) : CXq l yX10_requireAccessorial (ws_X10_requireAccessorial) rm_X10_requireAccessorial D T [.ref x0, .int p0, .int p1] S mc ms 1 (fun v S1 => (S1 = S ∧ wrC (e1 0) p0 p1 = 0 ∧ ∃ y, v = some y ∧ RelA S (fxM e0) y (e1 0) (iv p0) (iv p1))) (fun E9 S1 => ((wrC (e1 0) p0 p1 = 1 ∧ E9 = "java/lang/IndexOutOfBoundsException") ∨ (wrC (e1 0) p0 p1 = 2 ∧ E9 = "java/util/NoSuchElementException")) ∧ S1 = S) := c_X10_requireAccessorial l hst D T x0 p0 p1 S mc ms hx0 _ _ <|
  (by
    obtain ⟨h, e, hmc, hms⟩ := h
    subst e
    unfold wp_X10_requireAccessorial
    refine ⟨e0 0, h.r0, fun _ => ⟨fxM e0, e1 0, h.now, fun o S7 _ _ h7 => ?_⟩⟩
    obtain ⟨e7, hn, hs⟩ := h7
    subst e7
    by_cases c : zin p0 0 (e1 0 0 - 1) = 0
    · rw [hn c]
      exact ⟨fun _ => ⟨⟨hmc, hms⟩, Or.inl ⟨by unfold wrC; rw [if_pos c], rfl⟩, rfl⟩, fun b hb => by cases hb⟩
    · obtain ⟨y, ey, hy⟩ := hs c
      rw [ey]
      refine ⟨fun z => (by cases z), fun b hb _ => ?_⟩
      cases hb
      refine ⟨fxM e0, e1 0, iv p0, ⟨h.now.1, (zv h.now.1 c).1, hy⟩, fun o S22 _ _ h22 => ?_⟩
      obtain ⟨e22, gn, gs⟩ := h22
      subst e22
      by_cases c2 : acX (e1 0) (iv p0) p1
      · obtain ⟨w, ew, hw⟩ := gs c2
        rw [ew]
        refine ⟨fun z => (by cases z), fun b9 hb _ => ?_⟩
        cases hb
        exact ⟨rfl, by unfold wrC; rw [if_neg c, if_neg c2.1, if_neg c2.2], _, rfl, hw⟩
      · rw [gn c2]
        refine ⟨fun _ => ⟨⟨hmc, hms⟩, Or.inr ⟨?_, rfl⟩, rfl⟩, fun b hb => by cases hb⟩
        unfold wrC
        rw [if_neg c]
        by_cases c3' : zin p1 0 9 = 0
        · rw [if_pos c3']
        · rw [if_neg c3', if_pos]
          by_cases c4 : e1 0 (274 + 510 * iv p0 + 150 + 36 * iv p1) = 0
          · exact c4
          · exact absurd ⟨c3', c4⟩ c2)
theorem kd_X10_versionOn (l : Launch) (hst : l.stackTraces = false) (D : va_G) (T : Nat → ClassId) (x0 : Nat) (p0 : Int32) (S : HS) (e0 : (Nat → Nat)) (e1 : (Nat → Nat → Int32)) (e2 : (Nat → Int32)) (e3 : (Nat → Int32)) (e4 : (List Int32)) (mc ms : Nat) (hx0 : hK S x0 = 11) (h : FrS S e0 e1 e2 e3 e4 ∧ x0 = e0 50 ∧ 200 ≤ mc ∧ 2000 ≤ ms) : CXi l yX10_versionOn (ws_X10_versionOn) rm_X10_versionOn D T [.ref x0, .int p0] S mc ms (fun v S1 => (vonC (e1 0) p0 = 0 ∧ v = vOf (e1 0) p0 ∧ FrS S1 e0 e1 e2 e3 e4)) (fun E9 S1 => ((vonC (e1 0) p0 = 1 ∧ E9 = "java/lang/IllegalArgumentException") ∨ (vonC (e1 0) p0 = 2 ∧ E9 = "java/util/NoSuchElementException")) ∧ FrS S1 e0 e1 e2 e3 e4) := c_X10_versionOn l hst D T x0 p0 S mc ms hx0 _ _ <|
  (by
    obtain ⟨h, e, hmc, hms⟩ := h
    subst e
    unfold wp_X10_versionOn vonC
    refine ⟨fun c => ⟨e0 0, h.r0, fun _ => ⟨fxM e0, e1 0, h.now, fun v ev => ⟨fun c2 => ?_, fun c2 => ⟨⟨by omega, by omega⟩, ?_⟩⟩⟩⟩, fun c => ⟨⟨by omega, by omega⟩, Or.inl ⟨by rw [if_pos c], rfl⟩, h⟩⟩
    · rw [ev] at c2
      rw [if_neg c, if_neg (Int32.not_lt.mpr c2)]
      exact ⟨rfl, ev, h⟩
    · rw [ev] at c2
      exact ⟨Or.inr ⟨by rw [if_neg c, if_pos (Int32.not_le.mp c2)], rfl⟩, h⟩)
theorem kd_X10_version (l : Launch) (hst : l.stackTraces = false) (D : va_G) (T : Nat → ClassId) (x0 : Nat) (p0 : Int32) (p1 : Int32) (S : HS) (e0 : (Nat → Nat)) (e1 : (Nat → Nat → Int32)) (e2 : (Nat → Int32)) (e3 : (Nat → Int32)) (e4 : (List Int32)) (mc ms : Nat) (hx0 : hK S x0 = 11) (h : FrS S e0 e1 e2 e3 e4 ∧ x0 = e0 50 ∧ 200 ≤ mc ∧ 2000 ≤ ms) : CXi l yX10_version (ws_X10_version) rm_X10_version D T [.ref x0, .int p0, .int p1] S mc ms (fun v S1 => (verC (e1 0) p0 p1 = 0 ∧ v = verA (e1 0) (iv p0) p1 ∧ FrS S1 e0 e1 e2 e3 e4)) (fun E9 S1 => ((verC (e1 0) p0 p1 = 1 ∧ E9 = "java/lang/IndexOutOfBoundsException") ∨ (verC (e1 0) p0 p1 = 2 ∧ E9 = "java/lang/IllegalArgumentException")) ∧ FrS S1 e0 e1 e2 e3 e4) := c_X10_version l hst D T x0 p0 p1 S mc ms hx0 _ _ <|
  (by
    obtain ⟨h, e, hmc, hms⟩ := h
    subst e
    unfold wp_X10_version
    refine ⟨e0 0, h.r0, fun _ => ⟨fxM e0, e1 0, h.now, fun o S7 _ _ h7 => ?_⟩⟩
    obtain ⟨e7, hn, hs⟩ := h7
    subst e7
    by_cases c : zin p0 0 (e1 0 0 - 1) = 0
    · rw [hn c]
      exact ⟨fun _ => ⟨⟨by omega, by omega⟩, Or.inl ⟨by unfold verC; rw [if_pos c], rfl⟩, h⟩, fun b hb => by cases hb⟩
    · obtain ⟨y, ey, hy⟩ := hs c
      rw [ey]
      refine ⟨fun z => (by cases z), fun b hb _ => ?_⟩
      cases hb
      have hv := (zv h.now.1 c).1
      obtain ⟨_, _, v0, v1, v6, v7, v8, v9⟩ := hy.1
      have va : ∀ w : Nat, 2 ≤ w → w < 6 → verA (e1 0) (iv p0) (nI w) = e1 0 (274 + 510 * iv p0 + (144 + w)) := fun w h2 h6 => by
        unfold verA
        rw [if_neg (fun z => by have := (nI_eq (b := 0) (by omega) (by decide)).mp z; omega), if_neg (fun z => by have := (nI_eq (b := 1) (by omega) (by decide)).mp z; omega), if_neg (fun z => by have := (nI_eq (b := 6) (by omega) (by decide)).mp z; omega), if_neg (fun z => by have := (nI_eq (b := 7) (by omega) (by decide)).mp z; omega), show iv (nI w) = w from nI_clamp (by omega), show 274 + 510 * iv p0 + 146 + w - 2 = 274 + 510 * iv p0 + (144 + w) by omega]
      have ok : ∀ w : Int32, ¬ zin w 0 7 = 0 → verC (e1 0) p0 w = 0 := fun w hw => by unfold verC; rw [if_neg c, if_neg hw]
      refine ⟨fun c0 => ?_, fun d0 => ⟨fun c1 => ?_, fun d1 => ⟨fun c2 => ?_, fun d2 => ⟨fun c3' => ?_, fun d3 => ⟨fun c4 => ?_, fun d4 => ⟨fun c5 => ?_, fun d5 => ⟨fun c6 => ?_, fun d6 => ⟨fun c7 => ?_, fun d7 => ?_⟩⟩⟩⟩⟩⟩⟩⟩
      · subst c0; exact ⟨ok _ (by decide), by rw [v0]; rfl, h⟩
      · subst c1; exact ⟨ok _ (by decide), by rw [v1]; rfl, h⟩
      · subst c2; exact ⟨ok _ (by decide), v6.trans (va 2 (by omega) (by omega)).symm, h⟩
      · subst c3'; exact ⟨ok _ (by decide), v7.trans (va 3 (by omega) (by omega)).symm, h⟩
      · subst c4; exact ⟨ok _ (by decide), v8.trans (va 4 (by omega) (by omega)).symm, h⟩
      · subst c5; exact ⟨ok _ (by decide), v9.trans (va 5 (by omega) (by omega)).symm, h⟩
      · subst c6; exact ⟨fxM e0, e1 0, iv p0, ⟨h.now.1, hv, hy⟩, ok _ (by decide), rfl, h⟩
      · subst c7; exact ⟨fxM e0, e1 0, iv p0, ⟨h.now.1, hv, hy⟩, ok _ (by decide), rfl, h⟩
      · refine ⟨⟨by omega, by omega⟩, Or.inr ⟨?_, rfl⟩, h⟩
        unfold verC
        rw [if_neg c, if_pos]
        by_cases g : zin p1 0 7 = 0
        · exact g
        · obtain ⟨j, hj, ej⟩ := zin_n (m := 7) (by decide) g
          subst ej
          have : j = 0 ∨ j = 1 ∨ j = 2 ∨ j = 3 ∨ j = 4 ∨ j = 5 ∨ j = 6 ∨ j = 7 := by omega
          rcases this with z | z | z | z | z | z | z | z <;> subst z
          · exact absurd rfl d0
          · exact absurd rfl d1
          · exact absurd rfl d2
          · exact absurd rfl d3
          · exact absurd rfl d4
          · exact absurd rfl d5
          · exact absurd rfl d6
          · exact absurd rfl d7)
theorem kd_X10_zoneOf (l : Launch) (hst : l.stackTraces = false) (D : va_G) (T : Nat → ClassId) (x0 : Nat) (p0 : Int32) (p1 : Int32) (S : HS) (e0 : (Nat → Nat)) (e1 : (Nat → Nat → Int32)) (e2 : (Nat → Int32)) (e3 : (Nat → Int32)) (e4 : (List Int32)) (mc ms : Nat) (hx0 : hK S x0 = 11) (h : FrS S e0 e1 e2 e3 e4 ∧ x0 = e0 50 ∧ 200 ≤ mc ∧ 2000 ≤ ms) : CXi l yX10_zoneOf (ws_X10_zoneOf) rm_X10_zoneOf D T [.ref x0, .int p0, .int p1] S mc ms (fun v S1 => (zonC (e1 0) p0 p1 = 0 ∧ v = zIn (e1 0) (iv p0) p1 ∧ FrS S1 e0 e1 e2 e3 e4)) (fun E9 S1 => ((zonC (e1 0) p0 p1 = 1 ∧ E9 = "java/lang/IndexOutOfBoundsException") ∨ (zonC (e1 0) p0 p1 = 2 ∧ E9 = "java/util/NoSuchElementException")) ∧ FrS S1 e0 e1 e2 e3 e4) := c_X10_zoneOf l hst D T x0 p0 p1 S mc ms hx0 _ _ <|
  (by
    obtain ⟨h, e, hmc, hms⟩ := h
    subst e
    unfold wp_X10_zoneOf
    refine ⟨e0 0, h.r0, fun _ => ⟨fxM e0, e1 0, h.now, fun o S7 _ _ h7 => ?_⟩⟩
    obtain ⟨e7, hn, hs⟩ := h7
    subst e7
    by_cases c : zin p0 0 (e1 0 0 - 1) = 0
    · rw [hn c]
      exact ⟨fun _ => ⟨⟨by omega, by omega⟩, Or.inl ⟨by unfold zonC; rw [if_pos c], rfl⟩, h⟩, fun b hb => by cases hb⟩
    · obtain ⟨y, ey, hy⟩ := hs c
      rw [ey]
      refine ⟨fun z => (by cases z), fun b hb _ => ?_⟩
      cases hb
      refine ⟨fun c2 => ⟨fxM e0, e1 0, iv p0, ⟨h.now.1, (zv h.now.1 c).1, hy⟩, fun v ev => ⟨fun c4 => ?_, fun c4 => ⟨⟨by omega, by omega⟩, ?_⟩⟩⟩, fun c2 => ⟨⟨by omega, by omega⟩, Or.inl ⟨by unfold zonC; rw [if_neg c, if_pos c2], rfl⟩, h⟩⟩
      · rw [ev] at c4
        exact ⟨by unfold zonC; rw [if_neg c, if_neg c2, if_neg c4], ev, h⟩
      · rw [ev] at c4
        exact ⟨Or.inr ⟨by unfold zonC; rw [if_neg c, if_neg c2, if_pos c4], rfl⟩, h⟩)
theorem kd_X10_base (l : Launch) (hst : l.stackTraces = false) (D : va_G) (T : Nat → ClassId) (x0 : Nat) (p0 : Int32) (p1 : Int32) (p2 : Int32) (S : HS) (e0 : (Nat → Nat)) (e1 : (Nat → Nat → Int32)) (e2 : (Nat → Int32)) (e3 : (Nat → Int32)) (e4 : (List Int32)) (mc ms : Nat) (hx0 : hK S x0 = 11) (h : FrS S e0 e1 e2 e3 e4 ∧ x0 = e0 50 ∧ 200 ≤ mc ∧ 2000 ≤ ms) : CXi l yX10_base (ws_X10_base) rm_X10_base D T [.ref x0, .int p0, .int p1, .int p2] S mc ms (fun v S1 => (basC (e1 0) p0 p1 p2 = 0 ∧ v = baseF (e1 0) (iv p0) (iv p1) p2 ∧ FrS S1 e0 e1 e2 e3 e4)) (fun E9 S1 => ((basC (e1 0) p0 p1 p2 = 1 ∧ E9 = "java/lang/IndexOutOfBoundsException") ∨ (basC (e1 0) p0 p1 p2 = 2 ∧ E9 = "java/lang/IllegalArgumentException") ∨ (basC (e1 0) p0 p1 p2 = 3 ∧ E9 = "java/util/NoSuchElementException")) ∧ FrS S1 e0 e1 e2 e3 e4) := c_X10_base l hst D T x0 p0 p1 p2 S mc ms hx0 _ _ <|
  (by
    obtain ⟨h, e, hmc, hms⟩ := h
    have hh : FrS S e0 e1 e2 e3 e4 ∧ x0 = e0 50 := ⟨h, e⟩
    unfold wp_X10_base
    refine ⟨e0, e1, e2, e3, e4, hh, fun o S1 _ _ h1 => ?_⟩
    obtain ⟨e1', hn, hs⟩ := h1
    subst e1'
    by_cases c : zin p0 0 (e1 0 0 - 1) = 0
    · rw [hn (Or.inl c)]
      exact ⟨fun _ => ⟨⟨by omega, by omega⟩, Or.inl ⟨by unfold basC; rw [if_pos c], rfl⟩, h⟩, fun b hb => by cases hb⟩
    by_cases c2 : zin p1 1 9 = 0
    · rw [hn (Or.inr c2)]
      exact ⟨fun _ => ⟨⟨by omega, by omega⟩, Or.inl ⟨by unfold basC; rw [if_neg c, if_pos c2], rfl⟩, h⟩, fun b hb => by cases hb⟩
    obtain ⟨y, ey, hy⟩ := hs c c2
    rw [ey]
    refine ⟨fun z => (by cases z), fun b hb _ => ?_⟩
    cases hb
    have hv := zv h.now.1 c
    have hz := zz c2
    refine ⟨fun c4 => ⟨fxM e0, e1 0, iv p0, iv p1, ⟨h.now.1, hv.1, hz.1, hz.2.1, hy⟩, fun v ev => ?_⟩, fun c4 => ⟨⟨by omega, by omega⟩, Or.inr (Or.inl ⟨by unfold basC; rw [if_neg c, if_neg c2, if_pos c4], rfl⟩), h⟩⟩
    by_cases c5 : e1 0 (274 + 510 * iv p0 + 38 + iv p1 - 1) = 0
    · rw [if_pos c5] at ev
      refine ⟨fun z => absurd z (by rw [ev]; decide), fun _ => ⟨⟨by omega, by omega⟩, Or.inr (Or.inr ⟨by unfold basC; rw [if_neg c, if_neg c2, if_neg c4, if_pos c5], rfl⟩), h⟩⟩
    · rw [if_neg c5] at ev
      have hb : chpF (e1 0) (iv p0) (iv p1) p2 < 2 ^ 31 := Nat.lt_trans (chpF_lt h.now.1 hv.1 hz.1 hz.2.1) (by decide)
      refine ⟨fun _ => ⟨fxM e0, e1 0, iv p0, iv p1, ⟨h.now.1, hv.1, hz.1, hz.2.1, hy, ev, c5⟩, by unfold basC; rw [if_neg c, if_neg c2, if_neg c4, if_neg c5], rfl, h⟩, fun z => absurd (by rw [ev]; exact nI_pos' hb) z⟩)
theorem kd_X10_account (l : Launch) (hst : l.stackTraces = false) (D : va_G) (T : Nat → ClassId) (x0 : Nat) (p0 : Int32) (S : HS) (e0 : (Nat → Nat)) (e1 : (Nat → Nat → Int32)) (e2 : (Nat → Int32)) (e3 : (Nat → Int32)) (e4 : (List Int32)) (mc ms : Nat) (hx0 : hK S x0 = 11) (h : FrS S e0 e1 e2 e3 e4 ∧ x0 = e0 50 ∧ 200 ≤ mc ∧ 2000 ≤ ms) : CXi l yX10_account (ws_X10_account) rm_X10_account D T [.ref x0, .int p0] S mc ms (fun v S1 => (auC p0 = 0 ∧ v = auA (e1 0) p0 ∧ FrS S1 e0 e1 e2 e3 e4)) (fun E9 S1 => ((auC p0 = 1 ∧ E9 = "java/lang/IllegalArgumentException")) ∧ FrS S1 e0 e1 e2 e3 e4) := c_X10_account l hst D T x0 p0 S mc ms hx0 _ _ <|
  (by
    obtain ⟨h, e, hmc, hms⟩ := h
    subst e
    unfold wp_X10_account
    refine ⟨fun c => ⟨fun c4 => ⟨e0 0, h.r0, fun _ => ⟨fxM e0, e1 0, h.now, ?_⟩⟩, fun d4 => ⟨fun c5 => ⟨e0 0, h.r0, fun _ => ?_⟩, fun d5 => ⟨fun c6 => ⟨e0 0, h.r0, fun _ => ⟨fxM e0, e1 0, h.now, ?_⟩⟩, fun d6 => ⟨e0 0, h.r0, fun _ => ⟨fxM e0, e1 0, ⟨h.now.1, h.now.2, d4⟩, ?_⟩⟩⟩⟩⟩, fun c => ⟨⟨by omega, by omega⟩, ⟨by unfold auC; rw [if_pos c], rfl⟩, h⟩⟩
    · subst c4; exact ⟨by unfold auC; rw [if_neg c], by unfold auA; rw [if_neg (by decide)], h⟩
    · subst c5; exact ⟨by unfold auC; rw [if_neg c], by rw [h.now.2.1.2.2.2.2]; rfl, h⟩
    · subst c6; exact ⟨by unfold auC; rw [if_neg c], by unfold auA; rw [if_pos (by decide), if_neg (by decide)], h⟩
    · refine ⟨by unfold auC; rw [if_neg c], ?_, h⟩
      unfold auA
      rw [if_neg]
      intro z
      obtain ⟨j, hj, ej⟩ := zin_n (m := 6) (by decide) c
      subst ej
      have z := (nI_leI (a := 5) (by decide) (by omega)).mp z
      have : j = 5 ∨ j = 6 := by omega
      rcases this with q | q <;> subst q
      · exact d5 rfl
      · exact d6 rfl)
theorem kd_X10_rebate (l : Launch) (hst : l.stackTraces = false) (D : va_G) (T : Nat → ClassId) (x0 : Nat) (p0 : Int32) (S : HS) (e0 : (Nat → Nat)) (e1 : (Nat → Nat → Int32)) (e2 : (Nat → Int32)) (e3 : (Nat → Int32)) (e4 : (List Int32)) (mc ms : Nat) (hx0 : hK S x0 = 11) (h : FrS S e0 e1 e2 e3 e4 ∧ x0 = e0 50 ∧ 200 ≤ mc ∧ 2000 ≤ ms) : CXi l yX10_rebate (ws_X10_rebate) rm_X10_rebate D T [.ref x0, .int p0] S mc ms (fun v S1 => (rbC p0 = 0 ∧ v = rebF (e1 0) p0 ∧ FrS S1 e0 e1 e2 e3 e4)) (fun E9 S1 => ((rbC p0 = 1 ∧ E9 = "java/lang/IllegalArgumentException")) ∧ FrS S1 e0 e1 e2 e3 e4) := c_X10_rebate l hst D T x0 p0 S mc ms hx0 _ _ <|
  (by
    obtain ⟨h, e, hmc, hms⟩ := h
    subst e
    unfold wp_X10_rebate
    refine ⟨fun c => ⟨e0 0, h.r0, fun _ => ⟨fxM e0, e1 0, ⟨h.now.1, h.now.2, fun z => c (by rw [z]; rfl)⟩, fun v ev => ⟨e0 0, h.r0, fun _ => ⟨fxM e0, e1 0, ⟨h.now.1, h.now.2, (h.2.1 0 (by omega)).1.2.2.1⟩, ?_⟩⟩⟩⟩, fun c => ⟨⟨by omega, by omega⟩, ⟨by unfold rbC; rw [if_pos c], rfl⟩, h⟩⟩
    refine ⟨by unfold rbC; rw [if_neg c], ?_, h⟩
    rw [ev]
    rfl)
theorem kd_X10_shipment (l : Launch) (hst : l.stackTraces = false) (D : va_G) (T : Nat → ClassId) (x0 : Nat) (p0 : Int32) (p1 : Int32) (S : HS) (e0 : (Nat → Nat)) (e1 : (Nat → Nat → Int32)) (e2 : (Nat → Int32)) (e3 : (Nat → Int32)) (e4 : (List Int32)) (mc ms : Nat) (hx0 : hK S x0 = 11) (h : FrS S e0 e1 e2 e3 e4 ∧ x0 = e0 50 ∧ 200 ≤ mc ∧ 2000 ≤ ms) : CXi l yX10_shipment (ws_X10_shipment) rm_X10_shipment D T [.ref x0, .int p0, .int p1] S mc ms (fun v S1 => (shpC (e1 0) p0 p1 = 0 ∧ v = shpA (e1 0) (iv p0) p1 ∧ FrS S1 e0 e1 e2 e3 e4)) (fun E9 S1 => ((shpC (e1 0) p0 p1 = 1 ∧ E9 = "java/lang/IndexOutOfBoundsException") ∨ (shpC (e1 0) p0 p1 = 2 ∧ E9 = "java/lang/IllegalArgumentException")) ∧ FrS S1 e0 e1 e2 e3 e4) := c_X10_shipment l hst D T x0 p0 p1 S mc ms hx0 _ _ <|
  (by
    obtain ⟨h, e, hmc, hms⟩ := h
    unfold wp_X10_shipment
    refine ⟨1, 6, ⟨by omega, by omega⟩, e0, e1, e2, e3, e4, ⟨h, e, Nat.le_refl _, Nat.le_refl _⟩, fun E9 S9 _ h9 => ?_, fun o S10 _ _ h10 => ?_⟩
    · obtain ⟨c, eE, eS⟩ := h9
      subst eS
      exact ⟨Or.inl ⟨by unfold shpC; rw [if_pos c], eE⟩, h⟩
    obtain ⟨eS, c, y, ey, hy⟩ := h10
    subst eS
    refine ⟨y, ey, fun _ => ?_⟩
    have hv := (zs h.now.1 c).1
    have hy9 := hy
    obtain ⟨_, _, v0, v1, v2, v3, v4, v6, v7, v8, _⟩ := hy9
    have va : ∀ w : Nat, w < 5 → shpA (e1 0) (iv p0) (nI w) = e1 0 (14 + 26 * iv p0 + w) := fun w h6 => by
      unfold shpA
      rw [if_neg (fun z => by have := (nI_eq (b := 5) (by omega) (by decide)).mp z; omega), if_neg (fun z => by have := (nI_eq (b := 6) (by omega) (by decide)).mp z; omega), if_neg (fun z => by have := (nI_eq (b := 7) (by omega) (by decide)).mp z; omega), if_neg (fun z => by have := (nI_eq (b := 8) (by omega) (by decide)).mp z; omega), show iv (nI w) = w from nI_clamp (by omega)]
    have ok : ∀ w : Int32, ¬ zin w 0 8 = 0 → shpC (e1 0) p0 w = 0 := fun w hw => by unfold shpC; rw [if_neg c, if_neg hw]
    refine ⟨fun c0 => ?_, fun d0 => ⟨fun c1 => ?_, fun d1 => ⟨fun c2 => ?_, fun d2 => ⟨fun c3' => ?_, fun d3 => ⟨fun c4 => ?_, fun d4 => ⟨fun c5 => ?_, fun d5 => ⟨fun c6 => ?_, fun d6 => ⟨fun c7 => ?_, fun d7 => ⟨fun c8 => ?_, fun d8 => ?_⟩⟩⟩⟩⟩⟩⟩⟩⟩
    · subst c0; exact ⟨ok _ (by decide), v0.trans (va 0 (by omega)).symm, h⟩
    · subst c1; exact ⟨ok _ (by decide), v1.trans (va 1 (by omega)).symm, h⟩
    · subst c2; exact ⟨ok _ (by decide), v2.trans (va 2 (by omega)).symm, h⟩
    · subst c3'; exact ⟨ok _ (by decide), v3.trans (va 3 (by omega)).symm, h⟩
    · subst c4; exact ⟨ok _ (by decide), v4.trans (va 4 (by omega)).symm, h⟩
    · subst c5; exact ⟨ok _ (by decide), by rw [v6]; rfl, h⟩
    · subst c6; exact ⟨fxM e0, e1 0, iv p0, ⟨h.now.1, hv, hy⟩, ok _ (by decide), rfl, h⟩
    · subst c7; exact ⟨ok _ (by decide), by rw [v7]; rfl, h⟩
    · subst c8; exact ⟨ok _ (by decide), by rw [v8]; rfl, h⟩
    · refine ⟨⟨by omega, by omega⟩, Or.inr ⟨?_, rfl⟩, h⟩
      unfold shpC
      rw [if_neg c, if_pos]
      by_cases g : zin p1 0 8 = 0
      · exact g
      · obtain ⟨j, hj, ej⟩ := zin_n (m := 8) (by decide) g
        subst ej
        have : j = 0 ∨ j = 1 ∨ j = 2 ∨ j = 3 ∨ j = 4 ∨ j = 5 ∨ j = 6 ∨ j = 7 ∨ j = 8 := by omega
        rcases this with z | z | z | z | z | z | z | z | z <;> subst z
        · exact absurd rfl d0
        · exact absurd rfl d1
        · exact absurd rfl d2
        · exact absurd rfl d3
        · exact absurd rfl d4
        · exact absurd rfl d5
        · exact absurd rfl d6
        · exact absurd rfl d7
        · exact absurd rfl d8)
theorem kd_X10_accessorial (l : Launch) (hst : l.stackTraces = false) (D : va_G) (T : Nat → ClassId) (x0 : Nat) (p0 : Int32) (p1 : Int32) (p2 : Int32) (S : HS) (e0 : (Nat → Nat)) (e1 : (Nat → Nat → Int32)) (e2 : (Nat → Int32)) (e3 : (Nat → Int32)) (e4 : (List Int32)) (mc ms : Nat) (hx0 : hK S x0 = 11) (h : FrS S e0 e1 e2 e3 e4 ∧ x0 = e0 50 ∧ 200 ≤ mc ∧ 2000 ≤ ms) : CXi l yX10_accessorial (ws_X10_accessorial) rm_X10_accessorial D T [.ref x0, .int p0, .int p1, .int p2] S mc ms (fun v S1 => (accC (e1 0) p0 p1 p2 = 0 ∧ v = e1 0 (274 + 510 * iv p0 + 150 + 36 * iv p1 + 1 + iv p2) ∧ FrS S1 e0 e1 e2 e3 e4)) (fun E9 S1 => ((accC (e1 0) p0 p1 p2 = 1 ∧ E9 = "java/lang/IndexOutOfBoundsException") ∨ (accC (e1 0) p0 p1 p2 = 2 ∧ E9 = "java/util/NoSuchElementException") ∨ (accC (e1 0) p0 p1 p2 = 3 ∧ E9 = "java/lang/IllegalArgumentException")) ∧ FrS S1 e0 e1 e2 e3 e4) := c_X10_accessorial l hst D T x0 p0 p1 p2 S mc ms hx0 _ _ <|
  (by
    obtain ⟨h, e, hmc, hms⟩ := h
    unfold wp_X10_accessorial
    refine ⟨1, 6, ⟨by omega, by omega⟩, e0, e1, e2, e3, e4, ⟨h, e, Nat.le_refl _, Nat.le_refl _⟩, fun E9 S9 _ h9 => ?_, fun o S10 _ _ h10 => ?_⟩
    · obtain ⟨c, eS⟩ := h9
      subst eS
      have cc : ∀ k : Int32, ¬ k = 0 → wrC (e1 0) p0 p1 = k → accC (e1 0) p0 p1 p2 = k := fun k hk z => by
        unfold wrC at z
        unfold accC
        by_cases c1 : zin p0 0 (e1 0 0 - 1) = 0
        · rw [if_pos c1] at z ⊢; exact z
        · rw [if_neg c1] at z ⊢
          by_cases c2 : zin p1 0 9 = 0
          · rw [if_pos c2] at z ⊢; exact z
          · rw [if_neg c2] at z ⊢
            by_cases c4 : e1 0 (274 + 510 * iv p0 + 150 + 36 * iv p1) = 0
            · rw [if_pos c4] at z ⊢; exact z
            · rw [if_neg c4] at z; exact absurd z.symm hk
      rcases c with ⟨c, eE⟩ | ⟨c, eE⟩
      · exact ⟨Or.inl ⟨cc 1 (by decide) c, eE⟩, h⟩
      · exact ⟨Or.inr (Or.inl ⟨cc 2 (by decide) c, eE⟩), h⟩
    obtain ⟨eS, c, y, ey, hy⟩ := h10
    subst eS
    refine ⟨y, ey, fun _ => ?_⟩
    have ac : ∀ w, accC (e1 0) p0 p1 w = if zin w 0 4 = 0 then 3 else 0 := fun w => by
      unfold wrC at c
      unfold accC
      by_cases c1 : zin p0 0 (e1 0 0 - 1) = 0
      · rw [if_pos c1] at c; exact absurd c (by decide)
      · rw [if_neg c1] at c ⊢
        by_cases c2 : zin p1 0 9 = 0
        · rw [if_pos c2] at c; exact absurd c (by decide)
        · rw [if_neg c2] at c ⊢
          by_cases c4 : e1 0 (274 + 510 * iv p0 + 150 + 36 * iv p1) = 0
          · rw [if_pos c4] at c; exact absurd c (by decide)
          · rw [if_neg c4]
    have ok : ∀ w : Int32, ¬ zin w 0 4 = 0 → accC (e1 0) p0 p1 w = 0 := fun w hw => by rw [ac, if_neg hw]
    obtain ⟨_, _, v1, v2, v5, v3, al, ar, g1, g2, _, _, _, _, v4, _⟩ := hy
    have va : ∀ w : Nat, w < 5 → ∀ x : Int32, x = e1 0 (274 + 510 * iv p0 + 150 + 36 * iv p1 + (1 + w)) → x = e1 0 (274 + 510 * iv p0 + 150 + 36 * iv p1 + 1 + iv (nI w)) := fun w hw x hx => by
      rw [show iv (nI w) = w from nI_clamp (by omega), Nat.add_assoc]; exact hx
    refine ⟨fun c0 => ?_, fun d0 => ⟨fun c1 => ?_, fun d1 => ⟨fun c2 => ?_, fun d2 => ⟨fun c3' => ?_, fun d3 => ⟨fun c4 => ?_, fun d4 => ?_⟩⟩⟩⟩⟩
    · subst c0; exact ⟨ok _ (by decide), va 0 (by omega) _ v1, h⟩
    · subst c1; exact ⟨ok _ (by decide), va 1 (by omega) _ v2, h⟩
    · subst c2; exact ⟨ok _ (by decide), va 2 (by omega) _ v3, h⟩
    · subst c3'; exact ⟨al, g1, fun _ => ⟨ok _ (by decide), va 3 (by omega) _ v4, h⟩⟩
    · subst c4; exact ⟨ok _ (by decide), va 4 (by omega) _ v5, h⟩
    · refine ⟨⟨by omega, by omega⟩, Or.inr (Or.inr ⟨?_, rfl⟩), h⟩
      rw [ac, if_pos]
      by_cases g : zin p2 0 4 = 0
      · exact g
      · obtain ⟨j, hj, ej⟩ := zin_n (m := 4) (by decide) g
        subst ej
        have : j = 0 ∨ j = 1 ∨ j = 2 ∨ j = 3 ∨ j = 4 := by omega
        rcases this with z | z | z | z | z <;> subst z
        · exact absurd rfl d0
        · exact absurd rfl d1
        · exact absurd rfl d2
        · exact absurd rfl d3
        · exact absurd rfl d4)
theorem zin_k {x : Int32} {n : Nat} (hn : n < 2 ^ 31) (h : ¬ zin x (-1) (nI n - 1) = 0) : x = -1 ∨ ∃ j : Nat, j < n ∧ x = nI j := by
  by_cases c : x = -1
  · exact Or.inl c
  · refine Or.inr (zin_m hn (zin_0.mpr ⟨?_, (zin_0.mp h).2⟩))
    have h1 := (zin_0.mp h).1
    rw [le_toInt] at h1 ⊢
    rw [Int32.toInt_zero]
    have e1 : (-1 : Int32).toInt = -1 := by decide
    have : x.toInt ≠ -1 := fun z => c (Int32.toInt_inj.mp (z.trans e1.symm))
    omega
theorem kd_X10_breakOf (l : Launch) (hst : l.stackTraces = false) (D : va_G) (T : Nat → ClassId) (x0 : Nat) (p0 : Int32) (p1 : Int32) (p2 : Int32) (p3 : Int32) (S : HS) (e0 : (Nat → Nat)) (e1 : (Nat → Nat → Int32)) (e2 : (Nat → Int32)) (e3 : (Nat → Int32)) (e4 : (List Int32)) (mc ms : Nat) (hx0 : hK S x0 = 11) (h : FrS S e0 e1 e2 e3 e4 ∧ x0 = e0 50 ∧ 200 ≤ mc ∧ 2000 ≤ ms) : CXi l yX10_breakOf (ws_X10_breakOf) rm_X10_breakOf D T [.ref x0, .int p0, .int p1, .int p2, .int p3] S mc ms (fun v S1 => (brkC (e1 0) p0 p1 p2 = 0 ∧ v = brkA (e1 0) (iv p0) (iv p1) p2 p3 ∧ FrS S1 e0 e1 e2 e3 e4)) (fun E9 S1 => ((brkC (e1 0) p0 p1 p2 = 1 ∧ E9 = "java/lang/IndexOutOfBoundsException")) ∧ FrS S1 e0 e1 e2 e3 e4) := c_X10_breakOf l hst D T x0 p0 p1 p2 p3 S mc ms hx0 _ _ <|
  (by
    obtain ⟨h, e, hmc, hms⟩ := h
    have hh : FrS S e0 e1 e2 e3 e4 ∧ x0 = e0 50 := ⟨h, e⟩
    unfold wp_X10_breakOf
    refine ⟨e0, e1, e2, e3, e4, hh, fun o S1 _ _ h1 => ?_⟩
    obtain ⟨e1', hn, hs⟩ := h1
    subst e1'
    by_cases c : zin p0 0 (e1 0 0 - 1) = 0
    · rw [hn (Or.inl c)]
      exact ⟨fun _ => ⟨⟨by omega, by omega⟩, ⟨by unfold brkC; rw [if_pos c], rfl⟩, h⟩, fun b hb => by cases hb⟩
    by_cases c2 : zin p1 1 9 = 0
    · rw [hn (Or.inr c2)]
      exact ⟨fun _ => ⟨⟨by omega, by omega⟩, ⟨by unfold brkC; rw [if_neg c, if_pos c2], rfl⟩, h⟩, fun b hb => by cases hb⟩
    obtain ⟨y, ey, hy⟩ := hs c c2
    rw [ey]
    refine ⟨fun z => (by cases z), fun b hb _ => ?_⟩
    cases hb
    have hv := zv h.now.1 c
    have hz := zz c2
    obtain ⟨_, _, i100, i103, w, p, rw', rp, fw, fp, hwp⟩ := hy
    obtain ⟨n, hn5, en⟩ : sm (e1 0) (274 + 510 * iv p0 + 38 + iv p1 - 1) 5 := h.now.1.brk hv.1 hz.1 hz.2.1
    rw [i100, i103]
    refine ⟨fun c4 => ?_, fun c4 => ⟨⟨by omega, by omega⟩, ⟨by unfold brkC; rw [if_neg c, if_neg c2, if_pos c4], rfl⟩, h⟩⟩
    have ok : brkC (e1 0) p0 p1 p2 = 0 := by unfold brkC; rw [if_neg c, if_neg c2, if_neg c4]
    refine ⟨fun c5 => ?_, fun c5 => ?_⟩
    · rw [en] at c4
      rcases zin_k (by omega) c4 with z | ⟨j, hj, ej⟩
      · exact absurd z c5
      · subst ej
        have hj5 := hwp j (by rw [en, show iv (nI n) = n from nI_clamp (by omega)]; exact hj)
        have ij : iv (nI j) = j := nI_clamp (by omega)
        refine ⟨fun c6 => ⟨w, rw', fun _ => ?_⟩, fun c6 => ⟨p, rp, fun _ => ?_⟩⟩
        · rw [fw.2.1, nz_vp (by omega) (by decide), show Int32.toNatClampNeg (nI j) = j from nI_clamp (by omega)]
          refine ⟨by omega, ok, ?_, h⟩
          unfold brkA
          rw [if_pos (nI_pos' (by omega)), if_pos c6, ij]
          exact hj5.1
        · rw [fp.2.1, nz_vp (by omega) (by decide), show Int32.toNatClampNeg (nI j) = j from nI_clamp (by omega)]
          refine ⟨by omega, ok, ?_, h⟩
          unfold brkA
          rw [if_pos (nI_pos' (by omega)), if_neg c6, ij]
          exact hj5.2
    · subst c5
      refine ⟨fun c6 => ⟨ok, ?_, h⟩, fun c6 => ⟨ok, ?_, h⟩⟩
      · unfold brkA
        rw [if_neg (by decide), if_pos c6]
      · unfold brkA
        rw [if_neg (by decide), if_neg c6])

/-- the rater through a rating's work -/
theorem FrS.wk {S S1 : HS} {a : Nat → Nat} {mu : Nat → Nat → Int32} {g b : Nat → Int32} {sh : List Int32} (h : FrS S a mu g b sh) (he : ext S S1) (hf : frR S S1 (a 54)) : FrS S1 a mu g b sh := by
  have q := h.1.2.2.2.2.2.2.1
  refine h.sc (N := fun c => c = a 54 ∨ c = a 55 ∨ c = a 56) he (hf.M (Or.inl rfl) (fun b9 hb => Or.inr (Or.inl (Option.some.inj (hb.symm.trans q.1)))) (fun b9 hb => Or.inr (Or.inr (Option.some.inj (hb.symm.trans q.2))))) (fun c _ hc => ?_) (fun i _ _ j => by rw [hf.2.2.1]) ?_
  · rcases hc with e | e | e
    · exact ⟨54, by omega, by omega, e⟩
    · exact ⟨55, by omega, by omega, e⟩
    · exact ⟨56, by omega, by omega, e⟩
  · exact h.1.z8 (fun i h1 h2 => by rw [hf.2.2.2.2.1 (a i) (fun z => h.1.ne (i := 56) (j := i) (by omega) (by omega) (by omega) (Option.some.inj (q.2.symm.trans z)))])
theorem FrS.wfr {S : HS} {a : Nat → Nat} {mu : Nat → Nat → Int32} {g b : Nat → Int32} {sh : List Int32} (h : FrS S a mu g b sh) : WFR (mu 0) := (h.2.1 0 (by omega)).1.2.1
theorem kd_X10_requireSet (l : Launch) (hst : l.stackTraces = false) (D : va_G) (T : Nat → ClassId) (x0 : Nat) (p0 : Int32) (S : HS) (e0 : (Nat → Nat)) (e1 : (Nat → Nat → Int32)) (e2 : (Nat → Int32)) (e3 : (Nat → Int32)) (e4 : (List Int32)) (mc ms : Nat) (hx0 : hK S x0 = 11) (h : FrS S e0 e1 e2 e3 e4 ∧ x0 = e0 50 ∧ 2 ≤ mc ∧ 12 ≤ ms) : CXv l yX10_requireSet (ws_X10_requireSet) rm_X10_requireSet D T [.ref x0, .int p0] S mc ms (fun S1 => (lckF (e1 0) p0 8 = 0 ∧ S1 = S)) (fun E9 S1 => ((lckF (e1 0) p0 8 = 1 ∧ E9 = "java/lang/IndexOutOfBoundsException") ∨ (lckF (e1 0) p0 8 = 2 ∧ E9 = "java/lang/IllegalArgumentException")) ∧ S1 = S) := c_X10_requireSet l hst D T x0 p0 S mc ms hx0 _ _ <|
  (by
    obtain ⟨h, e, hmc, hms⟩ := h
    unfold wp_X10_requireSet
    refine ⟨1, 6, ⟨by omega, by omega⟩, e0, e1, e2, e3, e4, ⟨h, e, Nat.le_refl _, Nat.le_refl _⟩, fun E9 S9 _ h9 => ?_, fun S10 _ h10 => ?_⟩
    · obtain ⟨c, eE, eS⟩ := h9
      exact ⟨Or.inl ⟨by unfold lckF; rw [if_pos c], eE⟩, eS⟩
    obtain ⟨c, eS⟩ := h10
    have c0 : ¬ grpF (e1 0) p0 = 0 := by rw [c]; decide
    obtain ⟨n, hn, hn0, ep, ei⟩ := (grp_gok h.now.1 c0).n
    have hp := (ones_pop hn).2
    refine ⟨n, ⟨hn, ep⟩, ?_⟩
    rw [show (nI (popN n) ≤ (8 : Int32)) = (popN n ≤ 8) from propext (nI_leI (b := 8) (by omega) (by decide))]
    have el : lckF (e1 0) p0 8 = if 8 < popN n then 2 else 0 := by unfold lckF; rw [if_neg c0, ei]
    exact ⟨fun c8 => ⟨by rw [el, if_neg (by omega)], eS⟩, fun c8 => ⟨⟨by omega, by omega⟩, Or.inr ⟨by rw [el, if_pos (by omega)], rfl⟩, eS⟩⟩)
theorem kd_X10_requireRated (l : Launch) (hst : l.stackTraces = false) (D : va_G) (T : Nat → ClassId) (x0 : Nat) (p0 : Int32) (S : HS) (e0 : (Nat → Nat)) (e1 : (Nat → Nat → Int32)) (e2 : (Nat → Int32)) (e3 : (Nat → Int32)) (e4 : (List Int32)) (mc ms : Nat) (hx0 : hK S x0 = 11) (h : FrS S e0 e1 e2 e3 e4 ∧ x0 = e0 50 ∧ gok (e1 0) p0 ∧ 1 ≤ mc ∧ 6 ≤ ms) : CXv l yX10_requireRated (ws_X10_requireRated) rm_X10_requireRated D T [.ref x0, .int p0] S mc ms (fun S1 => ((rsnD (e1 0) (iv p0)).1 = 0 ∧ wkP S1 (e0 54) (e1 0) (iv p0) ∧ FrS S1 e0 e1 e2 e3 e4)) (fun E9 S1 => ¬ (rsnD (e1 0) (iv p0)).1 = 0 ∧ E9 = "java/lang/IllegalStateException" ∧ FrS S1 e0 e1 e2 e3 e4) := c_X10_requireRated l hst D T x0 p0 S mc ms hx0 _ _ <|
  (by
    obtain ⟨h, e, hg, hmc, hms⟩ := h
    subst e
    unfold wp_X10_requireRated
    refine ⟨e0 54, h.r12, fun _ => ⟨e0 0, h.r0, fun _ => ⟨fxM e0, e1 0, ⟨h.now.1, h.wfr, h.now.2, h.1.rt, hg⟩, fun S10 he10 h10 => ?_⟩⟩⟩
    obtain ⟨f10, w10⟩ := h10
    have h10 := h.wk he10 f10
    refine ⟨e0 54, h10.r12, fun _ => ?_⟩
    have h8 := rsnD_8 (μ := e1 0) (g := iv p0)
    rw [w10.1, nz_eq0 (by omega)]
    exact ⟨fun c => ⟨c, w10, h10⟩, fun c => ⟨⟨hmc, hms⟩, c, rfl, h10⟩⟩)
theorem rl_rs {P : HS → Prop} {X : String → HS → Prop} {a : Nat → Nat} {mu : Nat → Nat → Int32} {g b : Nat → Int32} {sh : List Int32} {n ns mc ms : Nat} {x2 : Int32} (hns : mu 0 1 = nI ns) (hn10 : ns ≤ 10) (hn : n < 2 ^ ns) (hmc : 1 ≤ mc) (hms : 6 ≤ ms) : ∀ (k s fuel : Nat) (S : HS), s + k = 10 → k < fuel → FrS S a mu g b sh → (∀ S1, rfFold (mu 0) n (ns - s) s = none → FrS S1 a mu g b sh → P S1) → (∀ S1 t, rfFold (mu 0) n (ns - s) s = some t → FrS S1 a mu (if x2 = 0 then g else kpG g (nI (rsnD (mu 0) (2 ^ t)).1) (rsnD (mu 0) (2 ^ t)).2) b sh → X "java/lang/IllegalStateException" S1) → wp_X10_requireSingles_2 P X fuel (a 50) (nI n) x2 (nI s) S mc ms := by
  have hn1 : n < 1024 := Nat.lt_of_lt_of_le hn (p2_le hn10)
  intro k
  induction k with
  | zero =>
    intro s fuel S hs hf h hP hX
    obtain ⟨f, rfl⟩ : ∃ f, fuel = f + 1 := ⟨fuel - 1, by omega⟩; rw [wp_X10_requireSingles_2]; unfold wb_X10_requireSingles_2; dsimp only
    rw [show ((10 : Int32) ≤ nI s) = (10 ≤ s) from propext (nI_leI (a := 10) (by decide) (by omega))]
    exact ⟨fun _ => hP S (by rw [show ns - s = 0 by omega, rfFold]) h, fun c => absurd (by omega) c⟩
  | succ k ih =>
    intro s fuel S hs hf h hP hX
    obtain ⟨f, rfl⟩ : ∃ f, fuel = f + 1 := ⟨fuel - 1, by omega⟩; rw [wp_X10_requireSingles_2]; unfold wb_X10_requireSingles_2; dsimp only
    rw [show ((10 : Int32) ≤ nI s) = (10 ≤ s) from propext (nI_leI (a := 10) (by decide) (by omega)), nI_1]
    refine ⟨fun c => absurd c (by omega), fun _ => ⟨fun c => ?_, fun c v e => ?_⟩⟩
    · have tb : n.testBit s = true := by
        by_cases t : n.testBit s = true
        · exact t
        · exact absurd ((has_0 hn1 (by omega)).mpr t) c
      have hsn : s < ns := by
        rcases Nat.lt_or_ge s ns with q | q
        · exact q
        · exact absurd tb (by rw [Nat.testBit_lt_two_pow (Nat.lt_of_lt_of_le hn (Nat.pow_le_pow_right (by decide) q))]; decide)
      have hg : gok (mu 0) (nI (2 ^ s)) := gok.tb (n := 0) hns hn10 hsn
      have hp : 2 ^ s ≤ 512 := Nat.pow_le_pow_right (n := 2) (by decide) (show s ≤ 9 by omega)
      rw [sh1 (by omega)]
      refine ⟨a 54, h.r12, fun _ => ⟨a 0, h.r0, fun _ => ⟨fxM a, mu 0, ⟨h.now.1, h.wfr, h.now.2, h.1.rt, hg⟩, fun S16 he16 h16 => ?_⟩⟩⟩
      obtain ⟨f16, w16⟩ := h16
      have h16 := h.wk he16 f16
      rw [show iv (nI (2 ^ s)) = 2 ^ s from nI_clamp (by omega)] at w16
      have h8 := rsnD_8 (μ := mu 0) (g := 2 ^ s)
      refine ⟨a 54, h16.r12, fun _ => ?_⟩
      rw [w16.1, nz_eq0 (by omega)]
      have er : rfFold (mu 0) n (ns - s) s = if n.testBit s = true ∧ ¬ (rsnD (mu 0) (2 ^ s)).1 = 0 then some s else rfFold (mu 0) n (ns - (s + 1)) (s + 1) := by
        rw [show ns - s = (ns - (s + 1)) + 1 by omega, rfFold]
      refine ⟨fun c2 v e => ?_, fun c2 => ⟨fun c3 => ⟨⟨hmc, hms⟩, ?_⟩, fun c3 => ?_⟩⟩
      · subst e
        exact ih (s + 1) f S16 (by omega) (by omega) h16 (fun S1 q1 => hP S1 (by rw [er, if_neg (fun z => z.2 c2)]; exact q1)) (fun S1 t q1 => hX S1 t (by rw [er, if_neg (fun z => z.2 c2)]; exact q1))
      · refine hX S16 s (by rw [er, if_pos ⟨tb, c2⟩]) ?_
        rw [if_pos c3]
        exact h16
      · refine ⟨a, mu, g, b, sh, ⟨h16, rfl⟩, fun S36 _ h36 => ⟨⟨hmc, hms⟩, hX S36 s (by rw [er, if_pos ⟨tb, c2⟩]) ?_⟩⟩
        rw [if_neg c3]
        rw [w16.1, w16.2.1 c2] at h36
        exact h36
    · subst e
      have tb := (has_0 hn1 (show s < 10 by omega)).mp c
      have er : rfFold (mu 0) n (ns - s) s = rfFold (mu 0) n (ns - (s + 1)) (s + 1) := by
        rcases Nat.lt_or_ge s ns with q | q
        · rw [show ns - s = (ns - (s + 1)) + 1 by omega, rfFold, if_neg (fun z => tb z.1)]
        · rw [show ns - s = 0 by omega, show ns - (s + 1) = 0 by omega]; rfl
      exact ih (s + 1) f S (by omega) (by omega) h (fun S1 q1 => hP S1 (by rw [er]; exact q1)) (fun S1 t q1 => hX S1 t (by rw [er]; exact q1))
theorem kd_X10_requireSingles (l : Launch) (hst : l.stackTraces = false) (D : va_G) (T : Nat → ClassId) (x0 : Nat) (p0 : Int32) (p1 : Int32) (S : HS) (e0 : (Nat → Nat)) (e1 : (Nat → Nat → Int32)) (e2 : (Nat → Int32)) (e3 : (Nat → Int32)) (e4 : (List Int32)) (mc ms : Nat) (hx0 : hK S x0 = 11) (h : FrS S e0 e1 e2 e3 e4 ∧ x0 = e0 50 ∧ gok (e1 0) p0 ∧ 1 ≤ mc ∧ 6 ≤ ms) : CXv l yX10_requireSingles (ws_X10_requireSingles) rm_X10_requireSingles D T [.ref x0, .int p0, .int p1] S mc ms (fun S1 => (rfF (e1 0) (iv p0) = none ∧ FrS S1 e0 e1 e2 e3 e4)) (fun E9 S1 => E9 = "java/lang/IllegalStateException" ∧ ∃ t, rfF (e1 0) (iv p0) = some t ∧ FrS S1 e0 e1 (if (p1 : Int32) = 0 then e2 else kpG e2 (nI (rsnD (e1 0) (2 ^ t)).1) (rsnD (e1 0) (2 ^ t)).2) e3 e4) := c_X10_requireSingles l hst D T x0 p0 p1 S mc ms hx0 _ _ <|
  (by
    obtain ⟨h, e, hg, hmc, hms⟩ := h
    subst e
    obtain ⟨n, ns, ens, hns, hn0, hn, eg⟩ := hg
    subst eg
    have hn1 : n < 1024 := Nat.lt_of_lt_of_le hn (p2_le hns)
    have ig : iv (nI n) = n := nI_clamp (by omega)
    have ins : iv (e1 0 1) = ns := by rw [ens]; exact nI_clamp (by omega)
    have er : rfF (e1 0) n = rfFold (e1 0) n (ns - 0) 0 := by unfold rfF; rw [ins]; rfl
    unfold wp_X10_requireSingles
    rw [ig, er]
    exact ⟨20, rl_rs ens hns hn hmc hms 10 0 20 S (by omega) (by omega) h (fun S1 q1 q2 => ⟨q1, q2⟩) (fun S1 t q1 q2 => ⟨rfl, t, q1, q2⟩)⟩)
theorem kd_X10_rate (l : Launch) (hst : l.stackTraces = false) (D : va_G) (T : Nat → ClassId) (x0 : Nat) (p0 : Int32) (S : HS) (e0 : (Nat → Nat)) (e1 : (Nat → Nat → Int32)) (e2 : (Nat → Int32)) (e3 : (Nat → Int32)) (e4 : (List Int32)) (mc ms : Nat) (hx0 : hK S x0 = 11) (h : FrS S e0 e1 e2 e3 e4 ∧ x0 = e0 50 ∧ 200 ≤ mc ∧ 2000 ≤ ms) : CXi l yX10_rate (ws_X10_rate) rm_X10_rate D T [.ref x0, .int p0] S mc ms (fun v S1 => (rateC (e1 0) p0 = 0 ∧ v = totF (e1 0) (iv p0) ∧ FrS S1 e0 e1 e2 e3 e4)) (fun E9 S1 => ((rateC (e1 0) p0 = 1 ∧ E9 = "java/lang/IndexOutOfBoundsException") ∨ (rateC (e1 0) p0 = 2 ∧ E9 = "java/lang/IllegalStateException")) ∧ FrS S1 e0 e1 (if rateC (e1 0) p0 = 2 then kpG e2 (nI (rsnD (e1 0) (iv p0)).1) (rsnD (e1 0) (iv p0)).2 else e2) e3 e4) := c_X10_rate l hst D T x0 p0 S mc ms hx0 _ _ <|
  (by
    obtain ⟨h, e, hmc, hms⟩ := h
    unfold wp_X10_rate
    refine ⟨1, 6, ⟨by omega, by omega⟩, e0, e1, e2, e3, e4, ⟨h, e, Nat.le_refl _, Nat.le_refl _⟩, fun E9 S9 _ h9 => ?_, fun S10 _ h10 => ?_⟩
    · obtain ⟨c, eE, eS⟩ := h9
      subst eS
      have rC : rateC (e1 0) p0 = 1 := by unfold rateC; rw [if_pos c]
      refine ⟨Or.inl ⟨rC, eE⟩, ?_⟩
      rw [rC, if_neg (by decide)]
      exact h
    obtain ⟨c, eS⟩ := h10
    subst eS e
    have c0 : ¬ grpF (e1 0) p0 = 0 := by rw [c]; decide
    have hg := grp_gok h.now.1 c0
    have rC : rateC (e1 0) p0 = if (rsnD (e1 0) (iv p0)).1 = 0 then 0 else 2 := by unfold rateC; rw [if_neg c0]
    refine ⟨e0 54, h.r12, fun _ => ⟨e0 0, h.r0, fun _ => ⟨fxM e0, e1 0, ⟨h.now.1, h.wfr, h.now.2, h.1.rt, hg⟩, fun S27 he27 h27 => ?_⟩⟩⟩
    obtain ⟨f27, w27⟩ := h27
    have h27 := h.wk he27 f27
    have h8 := rsnD_8 (μ := e1 0) (g := iv p0)
    refine ⟨e0 54, h27.r12, fun _ => ?_⟩
    rw [w27.1, nz_eq0 (by omega)]
    refine ⟨fun c2 => ⟨e0 54, h27.r12, fun _ => ⟨by rw [rC, if_pos c2], ?_, h27⟩⟩, fun c2 => ⟨e0, e1, e2, e3, e4, ⟨h27, rfl⟩, fun S51 _ h51 => ⟨⟨by omega, by omega⟩, Or.inr ⟨by rw [rC, if_neg c2], rfl⟩, ?_⟩⟩⟩
    · obtain ⟨_, _, _, w71, _, _, w74, _, w76, w77⟩ := w27.2.2 c2
      rw [w71, w74, w76, w77]
      rfl
    · rw [if_pos (show rateC (e1 0) p0 = 2 by rw [rC, if_neg c2])]
      rw [w27.1, w27.2.1 c2] at h51
      exact h51)
theorem kd_X10_refuses (l : Launch) (hst : l.stackTraces = false) (D : va_G) (T : Nat → ClassId) (x0 : Nat) (p0 : Int32) (S : HS) (e0 : (Nat → Nat)) (e1 : (Nat → Nat → Int32)) (e2 : (Nat → Int32)) (e3 : (Nat → Int32)) (e4 : (List Int32)) (mc ms : Nat) (hx0 : hK S x0 = 11) (h : FrS S e0 e1 e2 e3 e4 ∧ x0 = e0 50 ∧ 200 ≤ mc ∧ 2000 ≤ ms) : CXi l yX10_refuses (ws_X10_refuses) rm_X10_refuses D T [.ref x0, .int p0] S mc ms (fun v S1 => ((if grpF (e1 0) p0 = 0 then 1 else 0) = 0 ∧ v = nI (rsnD (e1 0) (iv p0)).1 ∧ FrS S1 e0 e1 e2 e3 e4)) (fun E9 S1 => (((if grpF (e1 0) p0 = 0 then 1 else 0) = 1 ∧ E9 = "java/lang/IndexOutOfBoundsException")) ∧ FrS S1 e0 e1 e2 e3 e4) := c_X10_refuses l hst D T x0 p0 S mc ms hx0 _ _ <|
  (by
    obtain ⟨h, e, hmc, hms⟩ := h
    unfold wp_X10_refuses
    refine ⟨1, 6, ⟨by omega, by omega⟩, e0, e1, e2, e3, e4, ⟨h, e, Nat.le_refl _, Nat.le_refl _⟩, fun E9 S9 _ h9 => ?_, fun S10 _ h10 => ?_⟩
    · obtain ⟨c, eE, eS⟩ := h9
      subst eS
      exact ⟨⟨by rw [if_pos c], eE⟩, h⟩
    obtain ⟨c, eS⟩ := h10
    subst eS e
    have c0 : ¬ grpF (e1 0) p0 = 0 := by rw [c]; decide
    refine ⟨e0 54, h.r12, fun _ => ⟨e0 0, h.r0, fun _ => ⟨fxM e0, e1 0, ⟨h.now.1, h.wfr, h.now.2, h.1.rt, grp_gok h.now.1 c0⟩, fun S27 he27 h27 => ?_⟩⟩⟩
    obtain ⟨f27, w27⟩ := h27
    have h27 := h.wk he27 f27
    exact ⟨e0 54, h27.r12, fun _ => ⟨by rw [if_neg c0], w27.1, h27⟩⟩)
theorem ra_0 {μ : Nat → Int32} {g : Nat} : raF μ g 0 = baseF μ (iv (gvF μ g)) (iv (gzF μ g)) (wtF μ (iv (gvF μ g)) g) := by
  unfold raF
  dsimp only
  rw [if_pos rfl]
theorem ra_1 {μ : Nat → Int32} {g : Nat} : raF μ g 1 = (exAC μ (iv (gvF μ g)) (iv (gzF μ g)) (wtF μ (iv (gvF μ g)) g) (pcF μ (iv (gvF μ g)) g) (lgF μ (iv (gvF μ g)) g) (hdF μ (iv (gvF μ g)) g)).1 := by
  unfold raF
  dsimp only
  rw [if_neg (show ¬ (1 : Int32) = 0 by decide), if_pos rfl]
theorem ra_2 {μ : Nat → Int32} {g : Nat} : raF μ g 2 = stF μ (iv (gvF μ g)) g := by
  unfold raF
  dsimp only
  rw [if_neg (show ¬ (2 : Int32) = 0 by decide), if_neg (show ¬ (2 : Int32) = 1 by decide), if_pos rfl]
theorem ra_3 {μ : Nat → Int32} {g : Nat} : raF μ g 3 = fuF μ (iv (gvF μ g)) (iv (gzF μ g)) g (wtF μ (iv (gvF μ g)) g) (pcF μ (iv (gvF μ g)) g) (lgF μ (iv (gvF μ g)) g) (hdF μ (iv (gvF μ g)) g) := by
  unfold raF
  dsimp only
  rw [if_neg (show ¬ (3 : Int32) = 0 by decide), if_neg (show ¬ (3 : Int32) = 1 by decide), if_neg (show ¬ (3 : Int32) = 2 by decide), if_pos rfl]
theorem ra_4 {μ : Nat → Int32} {g : Nat} : raF μ g 4 = wtF μ (iv (gvF μ g)) g := by
  unfold raF
  dsimp only
  rw [if_neg (show ¬ (4 : Int32) = 0 by decide), if_neg (show ¬ (4 : Int32) = 1 by decide), if_neg (show ¬ (4 : Int32) = 2 by decide), if_neg (show ¬ (4 : Int32) = 3 by decide), if_pos rfl]
theorem ra_5 {μ : Nat → Int32} {g : Nat} : raF μ g 5 = mxF (wtF μ (iv (gvF μ g)) g) (μ (274 + 510 * iv (gvF μ g) + 47 + 10 * (iv (gzF μ g) - 1) + 2 * chpF μ (iv (gvF μ g)) (iv (gzF μ g)) (wtF μ (iv (gvF μ g)) g))) := by
  unfold raF
  dsimp only
  rw [if_neg (show ¬ (5 : Int32) = 0 by decide), if_neg (show ¬ (5 : Int32) = 1 by decide), if_neg (show ¬ (5 : Int32) = 2 by decide), if_neg (show ¬ (5 : Int32) = 3 by decide), if_neg (show ¬ (5 : Int32) = 4 by decide), if_pos rfl]
theorem ra_6 {μ : Nat → Int32} {g : Nat} : raF μ g 6 = μ (274 + 510 * iv (gvF μ g) + 47 + 10 * (iv (gzF μ g) - 1) + 2 * chpF μ (iv (gvF μ g)) (iv (gzF μ g)) (wtF μ (iv (gvF μ g)) g)) := by
  unfold raF
  dsimp only
  rw [if_neg (show ¬ (6 : Int32) = 0 by decide), if_neg (show ¬ (6 : Int32) = 1 by decide), if_neg (show ¬ (6 : Int32) = 2 by decide), if_neg (show ¬ (6 : Int32) = 3 by decide), if_neg (show ¬ (6 : Int32) = 4 by decide), if_neg (show ¬ (6 : Int32) = 5 by decide), if_pos rfl]
theorem ra_7 {μ : Nat → Int32} {g : Nat} : raF μ g 7 = (exAC μ (iv (gvF μ g)) (iv (gzF μ g)) (wtF μ (iv (gvF μ g)) g) (pcF μ (iv (gvF μ g)) g) (lgF μ (iv (gvF μ g)) g) (hdF μ (iv (gvF μ g)) g)).2 := by
  unfold raF
  dsimp only
  rw [if_neg (show ¬ (7 : Int32) = 0 by decide), if_neg (show ¬ (7 : Int32) = 1 by decide), if_neg (show ¬ (7 : Int32) = 2 by decide), if_neg (show ¬ (7 : Int32) = 3 by decide), if_neg (show ¬ (7 : Int32) = 4 by decide), if_neg (show ¬ (7 : Int32) = 5 by decide), if_neg (show ¬ (7 : Int32) = 6 by decide), if_pos rfl]
theorem ra_8 {μ : Nat → Int32} {g : Nat} : raF μ g 8 = gzF μ g := by
  unfold raF
  dsimp only
  rw [if_neg (show ¬ (8 : Int32) = 0 by decide), if_neg (show ¬ (8 : Int32) = 1 by decide), if_neg (show ¬ (8 : Int32) = 2 by decide), if_neg (show ¬ (8 : Int32) = 3 by decide), if_neg (show ¬ (8 : Int32) = 4 by decide), if_neg (show ¬ (8 : Int32) = 5 by decide), if_neg (show ¬ (8 : Int32) = 6 by decide), if_neg (show ¬ (8 : Int32) = 7 by decide), if_pos rfl]
theorem kd_X10_rating (l : Launch) (hst : l.stackTraces = false) (D : va_G) (T : Nat → ClassId) (x0 : Nat) (p0 : Int32) (p1 : Int32) (S : HS) (e0 : (Nat → Nat)) (e1 : (Nat → Nat → Int32)) (e2 : (Nat → Int32)) (e3 : (Nat → Int32)) (e4 : (List Int32)) (mc ms : Nat) (hx0 : hK S x0 = 11) (h : FrS S e0 e1 e2 e3 e4 ∧ x0 = e0 50 ∧ 200 ≤ mc ∧ 2000 ≤ ms) : CXi l yX10_rating (ws_X10_rating) rm_X10_rating D T [.ref x0, .int p0, .int p1] S mc ms (fun v S1 => (ratC (e1 0) p0 p1 = 0 ∧ v = raF (e1 0) (iv p0) p1 ∧ FrS S1 e0 e1 e2 e3 e4)) (fun E9 S1 => ((ratC (e1 0) p0 p1 = 1 ∧ E9 = "java/lang/IndexOutOfBoundsException") ∨ (ratC (e1 0) p0 p1 = 2 ∧ E9 = "java/lang/IllegalArgumentException") ∨ (ratC (e1 0) p0 p1 = 3 ∧ E9 = "java/lang/IllegalStateException")) ∧ FrS S1 e0 e1 e2 e3 e4) := c_X10_rating l hst D T x0 p0 p1 S mc ms hx0 _ _ <|
  (by
    obtain ⟨h, e, hmc, hms⟩ := h
    unfold wp_X10_rating
    refine ⟨1, 6, ⟨by omega, by omega⟩, e0, e1, e2, e3, e4, ⟨h, e, Nat.le_refl _, Nat.le_refl _⟩, fun E9 S9 _ h9 => ?_, fun S10 _ h10 => ?_⟩
    · obtain ⟨c, eE, eS⟩ := h9
      subst eS
      exact ⟨Or.inl ⟨by unfold ratC; rw [if_pos c], eE⟩, h⟩
    obtain ⟨c, eS⟩ := h10
    subst eS e
    have c0 : ¬ grpF (e1 0) p0 = 0 := by rw [c]; decide
    have hg := grp_gok h.now.1 c0
    refine ⟨fun c1 => ⟨1, 6, ⟨by omega, by omega⟩, e0, e1, e2, e3, e4, ⟨h, rfl, hg, Nat.le_refl _, Nat.le_refl _⟩, fun E9 S9 _ h9 => ?_, fun S26 _ h26 => ?_⟩, fun c1 => ⟨⟨by omega, by omega⟩, Or.inr (Or.inl ⟨by unfold ratC; rw [if_neg c0, if_pos c1], rfl⟩), h⟩⟩
    · obtain ⟨c2, eE, h9⟩ := h9
      exact ⟨Or.inr (Or.inr ⟨by unfold ratC; rw [if_neg c0, if_neg c1, if_neg c2], eE⟩), h9⟩
    obtain ⟨z26, w26, h26⟩ := h26
    obtain ⟨w65, w66, w67, w71, w73, w72, w74, w75, w76, w77⟩ := w26.2.2 z26
    have ok : ratC (e1 0) p0 p1 = 0 := by unfold ratC; rw [if_neg c0, if_neg c1, if_pos z26]
    refine ⟨fun c => ⟨e0 54, h26.r12, fun _ => ⟨ok, ?_, h26⟩⟩, fun d0 => ⟨fun c => ⟨e0 54, h26.r12, fun _ => ⟨ok, ?_, h26⟩⟩, fun d1 => ⟨fun c => ⟨e0 54, h26.r12, fun _ => ⟨ok, ?_, h26⟩⟩, fun d2 => ⟨fun c => ⟨e0 54, h26.r12, fun _ => ⟨ok, ?_, h26⟩⟩, fun d3 => ⟨fun c => ⟨e0 54, h26.r12, fun _ => ⟨ok, ?_, h26⟩⟩, fun d4 => ⟨fun c => ⟨e0 54, h26.r12, fun _ => ⟨ok, ?_, h26⟩⟩, fun d5 => ⟨fun c => ⟨e0 54, h26.r12, fun _ => ⟨ok, ?_, h26⟩⟩, fun d6 => ⟨fun c => ⟨e0 54, h26.r12, fun _ => ⟨ok, ?_, h26⟩⟩, fun d7 => ⟨fun c => ⟨e0 54, h26.r12, fun _ => ⟨ok, ?_, h26⟩⟩, fun d8 => ⟨e0 54, h26.r12, fun _ => ⟨ok, ?_, h26⟩⟩⟩⟩⟩⟩⟩⟩⟩⟩⟩
    · subst c; exact w71.trans ra_0.symm
    · subst c; exact w74.trans ra_1.symm
    · subst c; exact w76.trans ra_2.symm
    · subst c; exact w77.trans ra_3.symm
    · subst c; exact w67.trans ra_4.symm
    · subst c; exact w72.trans ra_5.symm
    · subst c; exact w73.trans ra_6.symm
    · subst c; exact w75.trans ra_7.symm
    · subst c; exact w66.trans ra_8.symm
    · unfold raF
      dsimp only
      rw [if_neg d0, if_neg d1, if_neg d2, if_neg d3, if_neg d4, if_neg d5, if_neg d6, if_neg d7, if_neg d8]
      exact w65)

/-- what calls leave of the rows: everything of a version but its number -/
theorem WFA_c2 {μ μ' : Nat → Int32} {v v' a : Nat} (e : ∀ c, c < 36 → μ' (274 + 510 * v' + 150 + 36 * a + c) = μ (274 + 510 * v + 150 + 36 * a + c)) (h : WFA μ v a) : WFA μ' v' a := by
  obtain ⟨h1, h2, h3, h4, h5, h6, h7, h8, h9⟩ := h
  have e0 : μ' (274 + 510 * v' + 150 + 36 * a) = μ (274 + 510 * v + 150 + 36 * a) := e 0 (by decide)
  have s0 : ∀ {i j B : Nat}, μ' i = μ j → sm μ j B → sm μ' i B := fun he ⟨n, hn, en⟩ => ⟨n, hn, he.trans en⟩
  refine ⟨by rw [e0]; exact h1, s0 (e 1 (by decide)) h2, s0 (e 2 (by decide)) h3, s0 (e 3 (by decide)) h4, s0 (e 4 (by decide)) h5, by rw [e 5 (by decide)]; exact h6.imp id (s0 (e 5 (by decide))), fun k hk => s0 (by have := e (6 + k) (by omega); rw [← Nat.add_assoc, ← Nat.add_assoc] at this; exact this) (h7 k hk), fun z9 => ?_, fun z9 => ?_⟩
  · rw [e 2 (by decide)] at z9
    exact s0 (e 1 (by decide)) (h8 z9)
  · rw [e 2 (by decide)] at z9
    exact s0 (e 1 (by decide)) (h9 z9)
theorem WFV_c2 {μ μ' : Nat → Int32} {v v' : Nat} (e : ∀ o, 1 ≤ o → o < 510 → μ' (274 + 510 * v' + o) = μ (274 + 510 * v + o)) (h : WFV μ v) (hl : ∀ n, μ' 0 = nI n → n ≤ 6 → v' < n → ∃ d : Nat, 1000 ≤ d ∧ d ≤ 9999 ∧ μ' (274 + 510 * v' + 146) = nI d) : WFV μ' v' := by
  obtain ⟨h1, h2, h3, h4, h5, h6, h7, h8, h9⟩ := h
  have s0 : ∀ {i j B : Nat}, μ' i = μ j → sm μ j B → sm μ' i B := fun he ⟨n, hn, en⟩ => ⟨n, hn, he.trans en⟩
  have e9 : ∀ {i j : Nat} (o : Nat), i = 274 + 510 * v' + o → j = 274 + 510 * v + o → 1 ≤ o → o < 510 → μ' i = μ j := fun o hi hj h1 h5 => by rw [hi, hj]; exact e o h1 h5
  refine ⟨s0 (e 1 (by decide) (by decide)) h1, fun z z1 z9 => ?_, fun i hi => ?_, s0 (e 146 (by decide) (by decide)) h4, s0 (e 147 (by decide) (by decide)) h5, s0 (e 148 (by decide) (by decide)) h6, s0 (e 149 (by decide) (by decide)) h7, fun a ha => WFA_c2 (fun c hc => ?_) (h8 a ha), hl⟩
  · obtain ⟨a1, a2, a3⟩ := h2 z z1 z9
    exact ⟨s0 (e9 (38 + z - 1) (by omega) (by omega) (by omega) (by omega)) a1, s0 (e9 (137 + z - 1) (by omega) (by omega) (by omega) (by omega)) a2, fun i hi => ⟨s0 (e9 (47 + 10 * (z - 1) + 2 * i) (by omega) (by omega) (by omega) (by omega)) (a3 i hi).1, s0 (e9 (47 + 10 * (z - 1) + 2 * i + 1) (by omega) (by omega) (by omega) (by omega)) (a3 i hi).2⟩⟩
  · exact s0 (e9 (2 + 3 * i + 2) (by omega) (by omega) (by omega) (by omega)) (h3 i hi)
  · exact e9 (150 + 36 * a + c) (by omega) (by omega) (by omega) (by omega)
theorem rwO_c2 {μ μ' : Nat → Int32} {v v' a : Nat} (e : ∀ c, 1 ≤ c → μ' (274 + 510 * v' + 150 + 36 * a + c) = μ (274 + 510 * v + 150 + 36 * a + c)) (h : rwO μ v a) : rwO μ' v' a := by
  have e6 : ∀ j, μ' (274 + 510 * v' + 150 + 36 * a + 6 + j) = μ (274 + 510 * v + 150 + 36 * a + 6 + j) := fun j => by
    have := e (6 + j) (by omega)
    rw [← Nat.add_assoc, ← Nat.add_assoc] at this
    exact this
  have e60 : μ' (274 + 510 * v' + 150 + 36 * a + 6) = μ (274 + 510 * v + 150 + 36 * a + 6) := e 6 (by omega)
  unfold rwO at h ⊢
  simp only [e 3 (by omega), e 4 (by omega), e60, e6]
  exact h
theorem WFR_cg {μ μ' : Nat → Int32} (e : ∀ k, 274 ≤ k → μ' k = μ k) (h : WFR μ) : WFR μ' := fun v hv a ha => rwO_c2 (fun c _ => e _ (by omega)) (h v hv a ha)
theorem WFP_cg {μ μ' : Nat → Int32} (hw : WF μ) (e : ∀ k, 274 ≤ k → μ' k = μ k) (h : WFP μ) : WFP μ' := fun v hv a ha => paE hw hv ha (fun c _ => e _ (by omega)) (h v hv a ha)
theorem WF_s {μ μ' : Nat → Int32} {s : Nat} (e : ∀ k, k ≠ 1 → k < 14 + 26 * s ∨ 14 + 26 * s + 26 ≤ k → μ' k = μ k) (hs : s < 10) (h1 : sm μ' 1 10) (h : WF μ) (hS : WFS μ' s) : WF μ' := by
  obtain ⟨a1, _, a3, a4, a5⟩ := h
  refine ⟨sm_cg (e 0 (by omega) (by omega)) a1, h1, sm_cg (e 2 (by omega) (by omega)) a3, fun v hv => WFV_cg (e 0 (by omega) (by omega)) (fun o ho => e _ (by omega) (by omega)) (a4 v hv), fun t ht => ?_⟩
  by_cases c : t = s
  · rw [c]; exact hS
  · exact WFS_cg (fun o ho => e _ (by omega) (by omega)) (a5 t ht)
/-- one shipment's cells (and the number of shipments) change -/
theorem GWF_s {μ μ' : Nat → Int32} {s : Nat} (e : ∀ k, k ≠ 1 → k < 14 + 26 * s ∨ 14 + 26 * s + 26 ≤ k → μ' k = μ k) (hs : s < 10) (h1 : sm μ' 1 10) (h : GWF μ) (hS : WFS μ' s) : GWF μ' := by
  obtain ⟨w, r, o, p⟩ := h
  refine ⟨WF_s e hs h1 w hS, WFR_cg (fun k hk => e k (by omega) (by omega)) r, fun i hi => ?_, WFP_cg w (fun k hk => e k (by omega) (by omega)) p⟩
  rw [e 2 (by omega) (by omega)] at hi
  obtain ⟨n, hn, en⟩ := w.2.2.1
  have hi9 := hi
  rw [en, show iv (nI n) = n from nI_clamp (by omega)] at hi9
  rw [e (4 + 2 * i) (by omega) (by omega)]
  exact o i hi
theorem shi_c {μ : Nat → Int32} {n : Nat} (en : μ 1 = nI n) (hn : n < 10) (p d h c : Int32) : (∀ k, k ≠ 1 → k < 14 + 26 * n ∨ 14 + 26 * n + 26 ≤ k → shiF μ p d h c k = μ k) ∧ shiF μ p d h c 1 = nI (n + 1) ∧ shiF μ p d h c (14 + 26 * n) = p ∧ shiF μ p d h c (14 + 26 * n + 1) = d ∧ shiF μ p d h c (14 + 26 * n + 2) = h ∧ shiF μ p d h c (14 + 26 * n + 3) = c ∧ shiF μ p d h c (14 + 26 * n + 4) = 0 ∧ shiF μ p d h c (14 + 26 * n + 5) = -1 ∧ ∀ k, 6 ≤ k → k < 26 → shiF μ p d h c (14 + 26 * n + k) = 0 := by
  have ei : iv (μ 1) = n := by rw [en]; exact nI_clamp (by omega)
  unfold shiF
  rw [ei, en, nI_1]
  unfold upd zf
  refine ⟨fun k h1 h2 => ?_, ?_, ?_, ?_, ?_, ?_, ?_, ?_, fun k h1 h2 => ?_⟩ <;> (repeat' split) <;> first | rfl | omega
theorem shi_gw {μ : Nat → Int32} (hG : GWF μ) {n : Nat} (en : μ 1 = nI n) (hn : n < 10) {p d h c : Int32} (hh : bn h 255) (hc : bn c 3) : GWF (shiF μ p d h c) := by
  obtain ⟨c1, c2, c3, c4, c5, c6, c7, c8, c9⟩ := shi_c en hn p d h c
  have z6 : ∀ k B, 6 ≤ k → k < 26 → sm (shiF μ p d h c) (14 + 26 * n + k) B := fun k B h1 h2 => ⟨0, Nat.zero_le _, c9 k h1 h2⟩
  refine GWF_s c1 hn ⟨n + 1, by omega, c2⟩ hG ⟨?_, ?_, ⟨0, Nat.zero_le _, c7⟩, Or.inl c8, fun q hq => ⟨fun k hk => z6 _ _ (by omega) (by omega), z6 _ _ (by omega) (by omega)⟩, fun m hm hm5 q hq => ?_⟩
  · obtain ⟨m, hm, em⟩ := hh; exact ⟨m, hm, c5.trans em⟩
  · obtain ⟨m, hm, em⟩ := hc; exact ⟨m, hm, c6.trans em⟩
  · rw [c7] at hm
    have := (nI_eq (a := 0) (b := m) (by decide) (by omega)).mp hm
    omega
theorem pak_c2 {μ : Nat → Int32} {s n : Nat} {a b c w : Int32} (en : μ (14 + 26 * s + 4) = nI n) (hn : n < 5) : ∀ j i, j ≠ n → j < 5 → i < 4 → pakF μ s a b c w (14 + 26 * s + (6 + 4 * j + i)) = μ (14 + 26 * s + (6 + 4 * j + i)) := fun j i hj h5 hi => by
  have ei : iv (μ (14 + 26 * s + 4)) = n := by rw [en]; exact nI_clamp (by omega)
  unfold pakF
  rw [ei]
  unfold upd
  rw [if_neg (by omega), if_neg (by omega), if_neg (by omega), if_neg (by omega), if_neg (by omega)]
theorem pak_gw {μ : Nat → Int32} (hG : GWF μ) {s n : Nat} {a b c w : Int32} (hs : s < 10) (en : μ (14 + 26 * s + 4) = nI n) (hn : n < 5) (ha : ¬ zin a 1 200 = 0) (hb : ¬ zin b 1 200 = 0) (hc : ¬ zin c 1 200 = 0) (hw : ¬ zin w 1 999 = 0) : GWF (pakF μ s a b c w) := by
  obtain ⟨c1, c2, c3, c4, c5, c6, c7, c8⟩ := pak_c (a := a) (b := b) (c := c) (w := w) en hn
  have d4 := pak_c2 (a := a) (b := b) (c := c) (w := w) en hn
  obtain ⟨a1, a2, a3, a4⟩ := zin_1 (m := 200) (by decide) ha
  obtain ⟨b1, b2, b3, b4⟩ := zin_1 (m := 200) (by decide) hb
  obtain ⟨g1, g2, g3, g4⟩ := zin_1 (m := 200) (by decide) hc
  obtain ⟨w1, w2, w3, w4⟩ := zin_1 (m := 999) (by decide) hw
  obtain ⟨s1, s2, s3, s4, s5, s6⟩ := hG.1.s hs
  have nz : ∀ {x : Int32} {j : Nat}, x = nI j → 1 ≤ j → j ≤ 999 → ¬ x = 0 := fun e h1 h2 z => by
    have := (nI_eq (b := 0) (by omega) (by decide)).mp (e.symm.trans z)
    omega
  have ca : ∀ i, i < 4 → pakF μ s a b c w (14 + 26 * s + (6 + 4 * n + i)) = if i = 0 then a else if i = 1 then b else if i = 2 then c else w := fun i hi => by
    have : i = 0 ∨ i = 1 ∨ i = 2 ∨ i = 3 := by omega
    rcases this with q | q | q | q <;> subst q
    · exact c5
    · exact c6
    · exact c7
    · exact c8
  refine GWF_s (fun k _ h2 => c1 k h2) hs (sm_cg (c1 1 (by omega)) hG.1.2.1) hG ⟨sm_cg (c2 2 (by omega) (by omega)) s1, sm_cg (c2 3 (by omega) (by omega)) s2, ⟨n + 1, by omega, c3⟩, by rw [c2 5 (by omega) (by omega)]; exact s4, fun p hp => ⟨fun k hk => ?_, ?_⟩, fun m hm hm5 p hp k hk => ?_⟩
  · by_cases q : p = n
    · subst q
      refine ⟨if k = 0 then a1 else if k = 1 then b1 else g1, by (repeat' split) <;> omega, ?_⟩
      rw [ca k (by omega)]
      (repeat' split) <;> first | assumption | omega
    · exact sm_cg (d4 p k q hp (by omega)) ((s5 p hp).1 k hk)
  · by_cases q : p = n
    · subst q
      exact ⟨w1, w3, c8.trans w4⟩
    · exact sm_cg (d4 p 3 q hp (by omega)) (s5 p hp).2
  · rw [c3] at hm
    have := (nI_eq (by omega) (by omega)).mp hm
    by_cases q : p = n
    · subst q
      rw [ca k hk]
      (repeat' split)
      · exact nz a4 a2 (by omega)
      · exact nz b4 b2 (by omega)
      · exact nz g4 g2 (by omega)
      · exact nz w4 w2 w3
    · rw [d4 p k q (by omega) hk]
      exact s6 n en (by omega) p (by omega) k hk
/-- place, day, handlings and share may change -/
theorem WFS_c4 {μ μ' : Nat → Int32} {s : Nat} (e : ∀ o, 3 ≤ o → o < 26 → o ≠ 5 → μ' (14 + 26 * s + o) = μ (14 + 26 * s + o)) (h2 : sm μ' (14 + 26 * s + 2) 255) (h5 : μ' (14 + 26 * s + 5) = -1 ∨ 0 ≤ μ' (14 + 26 * s + 5)) (h : WFS μ s) : WFS μ' s := by
  obtain ⟨a1, a2, a3, a4, a5, a6⟩ := h
  refine ⟨h2, sm_cg (e 3 (by omega) (by omega) (by omega)) a2, sm_cg (e 4 (by omega) (by omega) (by omega)) a3, h5, fun p hp => ⟨fun k hk => sm_cg (e (6 + 4 * p + k) (by omega) (by omega) (by omega)) ((a5 p hp).1 k hk), sm_cg (e (6 + 4 * p + 3) (by omega) (by omega) (by omega)) (a5 p hp).2⟩, fun n hn hn5 p hp k hk => ?_⟩
  rw [e 4 (by omega) (by omega) (by omega)] at hn
  rw [e (6 + 4 * p + k) (by omega) (by omega) (by omega)]
  exact a6 n hn hn5 p hp k hk
theorem rou_gw {μ : Nat → Int32} (hG : GWF μ) {s : Nat} (hs : s < 10) {p d : Int32} : GWF (rouF μ s p d) := by
  have e : ∀ k, k ≠ 14 + 26 * s → k ≠ 14 + 26 * s + 1 → rouF μ s p d k = μ k := fun k h1 h2 => by
    unfold rouF upd
    rw [if_neg h2, if_neg h1]
  refine GWF_s (fun k _ h2 => e k (by omega) (by omega)) hs (sm_cg (e 1 (by omega) (by omega)) hG.1.2.1) hG (WFS_c4 (fun o h1 h2 _ => e _ (by omega) (by omega)) (sm_cg (e _ (by omega) (by omega)) (hG.1.s hs).1) ?_ (hG.1.s hs))
  rw [e _ (by omega) (by omega)]
  exact (hG.1.s hs).2.2.2.1
theorem han_gw {μ : Nat → Int32} (hG : GWF μ) {s : Nat} (hs : s < 10) {x : Int32} (hx : bn x 255) : GWF (upd μ (14 + 26 * s + 2) x) := by
  have e : ∀ k, k ≠ 14 + 26 * s + 2 → upd μ (14 + 26 * s + 2) x k = μ k := fun k h1 => by
    unfold upd
    rw [if_neg h1]
  obtain ⟨n, hn, en⟩ := hx
  refine GWF_s (fun k _ h2 => e k (by omega)) hs (sm_cg (e 1 (by omega)) hG.1.2.1) hG (WFS_c4 (fun o h1 h2 _ => e _ (by omega)) ⟨n, hn, by unfold upd; rw [if_pos rfl]; exact en⟩ ?_ (hG.1.s hs))
  rw [e _ (by omega)]
  exact (hG.1.s hs).2.2.2.1
theorem RelS.ch {S S1 : HS} {M : Nat → Prop} {x s : Nat} {μ μ' : Nat → Int32} (h : RelS S M x μ s) (h5 : sm μ (14 + 26 * s + 4) 5) (eK : hK S1 = hK S) (eN : hN S1 = hN S) (eR : hR S1 = hR S) (eA : hA S1 = hA S) (eI : ∀ i, i ≠ 120 → i ≠ 121 → i ≠ 122 → i ≠ 128 → hI S1 i x = hI S i x) (h120 : hI S1 120 x = μ' (14 + 26 * s)) (h121 : hI S1 121 x = μ' (14 + 26 * s + 1)) (h122 : hI S1 122 x = μ' (14 + 26 * s + 2)) (h128 : hI S1 128 x = μ' (14 + 26 * s + 5)) (hc : ∀ k, 3 ≤ k → k < 26 → k ≠ 5 → μ' (14 + 26 * s + k) = μ (14 + 26 * s + k)) : RelS S1 M x μ' s := by
  obtain ⟨h1, h2, _, _, _, h6, h7, h8, h9, _, b, g1, g2, g3⟩ := h
  obtain ⟨n, hn, en⟩ := h5
  have ei : iv (μ (14 + 26 * s + 4)) = n := by rw [en]; exact nI_clamp (by omega)
  have e4 := hc 4 (by omega) (by omega) (by omega)
  have ei' : iv (μ' (14 + 26 * s + 4)) = n := by rw [e4]; exact ei
  refine ⟨by rw [eK]; exact h1, h2, h120, h121, h122, by rw [eI 123 (by decide) (by decide) (by decide) (by decide), hc 3 (by omega) (by omega) (by omega)]; exact h6, by rw [eI 124 (by decide) (by decide) (by decide) (by decide), e4]; exact h7, ?_, ?_, h128, b, by rw [eR]; exact g1, ⟨by rw [eK]; exact g2.1, by rw [eN]; exact g2.2.1, g2.2.2⟩, fun p hp => ?_⟩
  · rw [eI 126 (by decide) (by decide) (by decide) (by decide), h8]
    unfold realF
    rw [ei', ei]
    exact (rf_c1 _ _ _ (fun j _ hj => hc _ (by omega) (by omega) (by omega))).symm
  · rw [eI 127 (by decide) (by decide) (by decide) (by decide), h9]
    unfold longF
    rw [ei', ei]
    exact (lf_c1 _ _ _ (fun j i _ hj hi => hc _ (by omega) (by omega) (by omega))).symm
  · rw [ei'] at hp
    rw [eA, g3 p (by rw [ei]; exact hp)]
    unfold volF
    rw [hc (6 + 4 * p) (by omega) (by omega) (by omega), hc (6 + 4 * p + 1) (by omega) (by omega) (by omega), hc (6 + 4 * p + 2) (by omega) (by omega) (by omega)]
theorem RelSt.sh {S S1 : HS} {M : Nat → Prop} {y b : Nat} {μ μ' : Nat → Int32} (h : RelSt S M y μ) (hw : WF μ) (r2 : hR S 142 y = some b) (hf : frM S S1 M) (eK : hK S1 = hK S) (eN : hN S1 = hN S) (eR : hR S1 = hR S) (eI : ∀ i, i ≠ 143 → hI S1 i y = hI S i y) (e43 : hI S1 143 y = μ' 1) (eA : hA S1 = hA S) (eB : ∀ c, c ≠ b → hB S1 c = hB S c) (hc : ∀ k, k ≠ 1 → k < 14 ∨ 274 ≤ k → μ' k = μ k) (hs : ∀ s, s < iv (μ' 1) → ∃ z, hB S1 b s = some z ∧ RelS S1 M z μ' s) : RelSt S1 M y μ' := by
  obtain ⟨⟨h1, h2, h3, h4, h5⟩, ⟨b1, r1, k1, n1, hb⟩, ⟨c, r2', k2, n2, _⟩, ⟨t, p, r3, r4, k3, k4, n3, n4, ht⟩⟩ := h
  have ec : c = b := Option.some.inj (r2'.symm.trans r2)
  subst ec
  have hb1 : b1 ≠ c := fun z => by rw [z, k2] at k1; exact absurd k1 (by decide)
  have c0 : μ' 0 = μ 0 := hc 0 (by omega) (by omega)
  have c2 : μ' 2 = μ 2 := hc 2 (by omega) (by omega)
  refine ⟨⟨by rw [eK]; exact h1, by rw [eI 141 (by decide), c0]; exact h2, e43, by rw [eI 146 (by decide), c2]; exact h4, by rw [eI 147 (by decide), hc 3 (by omega) (by omega)]; exact h5⟩, ⟨b1, by rw [eR]; exact r1, by rw [eK]; exact k1, by rw [eN]; exact n1, fun v hv => ?_⟩, ⟨c, by rw [eR]; exact r2', by rw [eK]; exact k2, by rw [eN]; exact n2, hs⟩, ⟨t, p, by rw [eR]; exact r3, by rw [eR]; exact r4, by rw [eK]; exact k3, by rw [eK]; exact k4, by rw [eN]; exact n3, by rw [eN]; exact n4, fun i hi => ?_⟩⟩
  · rw [c0] at hv
    obtain ⟨nv, hn6, en⟩ := hw.1
    have hv9 := hv
    rw [en, show iv (nI nv) = nv from nI_clamp (by omega)] at hv9
    have hv6 : v < 6 := by omega
    obtain ⟨u, u1, u2⟩ := hb v hv
    exact ⟨u, by rw [eB b1 hb1]; exact u1, (u2.fm hf).cg (fun k hk => hc _ (by omega) (by omega)) (hw.rng hv6) (fun z z1 z9 => hw.brk hv6 z1 z9) (hw.v30 hv6)⟩
  · rw [c2] at hi
    obtain ⟨ns, hn5, en⟩ := hw.2.2.1
    have hi9 := hi
    rw [en, show iv (nI ns) = ns from nI_clamp (by omega)] at hi9
    rw [eA, hc (4 + 2 * i) (by omega) (by omega), hc (4 + 2 * i + 1) (by omega) (by omega)]
    exact ht i hi
theorem FrS.nw {S S1 : HS} {a : Nat → Nat} {mu : Nat → Nat → Int32} {g b : Nat → Int32} {sh : List Int32} (h : FrS S a mu g b sh) (he : ext S S1) (hf : frM S S1 (fun _ => False)) : FrS S1 a mu g b sh :=
  h.sc he hf (fun _ _ z => z.elim) (fun i _ h2 j => (hf (a i) (fun z => z) (h.1.k h2)).2.2.2.1 j) (h.1.z8 (fun i h1 h2 => by rw [(hf (a i) (fun z => z) (h.1.k (by omega))).2.2.2.2.1]))
theorem FrS.s2 {S : HS} {a : Nat → Nat} {mu : Nat → Nat → Int32} {g b : Nat → Int32} {sh : List Int32} (h : FrS S a mu g b sh) : hR S 142 (a 0) = some (a 2) := (h.1.2.2.2.1 0 (by omega)).2.1
theorem FrS.s1 {S : HS} {a : Nat → Nat} {mu : Nat → Nat → Int32} {g b : Nat → Int32} {sh : List Int32} (h : FrS S a mu g b sh) : hR S 140 (a 0) = some (a 1) := (h.1.2.2.2.1 0 (by omega)).1
theorem FrS.n2 {S : HS} {a : Nat → Nat} {mu : Nat → Nat → Int32} {g b : Nat → Int32} {sh : List Int32} (h : FrS S a mu g b sh) : hN S (a 2) = 10 := h.1.2.1 2 (by omega) (by unfold fxA; omega)
theorem FrS.n1 {S : HS} {a : Nat → Nat} {mu : Nat → Nat → Int32} {g b : Nat → Int32} {sh : List Int32} (h : FrS S a mu g b sh) : hN S (a 1) = 6 := h.1.2.1 1 (by omega) (by unfold fxA; omega)
/-- a shipment's object is replaced -/
theorem FrS.ps {S : HS} {a : Nat → Nat} {mu : Nat → Nat → Int32} {g b : Nat → Int32} {sh : List Int32} {s q : Nat} {μ : Nat → Int32} (h : FrS S a mu g b sh) (hs : s < 10) (hq : RelS S (fxM a) q μ s) (hc : ∀ k, k < 14 + 26 * s ∨ 14 + 26 * s + 26 ≤ k → μ k = mu 0 k) (hG : GWF μ) : FrS (putB S (a 2) s (some q)) a (fun t => if t = 0 then μ else mu t) g b sh := by
  have f0 : frM S (putB S (a 2) s (some q)) (fxM a) := frM.pB (M := fxM a) frM.rf ⟨2, by omega, rfl⟩ _ _
  refine h.st (s := 0) (by omega) (ext_putB ext_rf _ _ _) (frM.rf.pB (Or.inr (Or.inr (Or.inl h.s2))) _ _) (fun i _ j => rfl) hG ?_
  refine h.now.2.sh h.now.1 h.s2 f0 rfl rfl rfl (fun _ _ => rfl) ?_ rfl (fun c hc9 => putB_o _ _ _ hc9) (fun k h1 h2 => hc k (by omega)) (fun t ht => ?_)
  · rw [hc 1 (by omega)]
    exact h.now.2.1.2.2.1
  · rw [hc 1 (by omega)] at ht
    rw [px_BB]
    by_cases e : t = s
    · subst e
      exact ⟨q, by rw [if_pos ⟨rfl, rfl⟩], hq.fm f0⟩
    · obtain ⟨c, r, _, _, hh⟩ := h.now.2.2.2.1
      obtain ⟨u, u1, u2⟩ := hh t ht
      have ec : c = a 2 := Option.some.inj (r.symm.trans h.s2)
      subst ec
      obtain ⟨ns, hns, ens⟩ := h.now.1.2.1
      have ht9 := ht
      rw [ens, show iv (nI ns) = ns from nI_clamp (by omega)] at ht9
      exact ⟨u, by rw [if_neg (fun z => e z.2)]; exact u1, (u2.fm f0).cg (fun k hk => hc _ (by omega)) (h.now.1.pcs (by omega))⟩
theorem rmU_0 {mu : Nat → Nat → Int32} {g : Nat → Int32} : rmU mu g 0 = mu 0 := by
  unfold rmU
  rw [if_neg (by omega)]
theorem kd_X10_ship (l : Launch) (hst : l.stackTraces = false) (D : va_G) (T : Nat → ClassId) (x0 : Nat) (p0 : Int32) (p1 : Int32) (p2 : Int32) (p3 : Int32) (S : HS) (e0 : (Nat → Nat)) (e1 : (Nat → Nat → Int32)) (e2 : (Nat → Int32)) (e3 : (Nat → Int32)) (e4 : (List Int32)) (mc ms : Nat) (hx0 : hK S x0 = 11) (h : FrS S e0 e1 e2 e3 e4 ∧ x0 = e0 50 ∧ 200 ≤ mc ∧ 2000 ≤ ms) : CXi l yX10_ship (ws_X10_ship) rm_X10_ship D T [.ref x0, .int p0, .int p1, .int p2, .int p3] S mc ms (fun v S1 => (shiC (e1 0) p0 p1 p2 p3 = 0 ∧ v = e1 0 1 ∧ FrS S1 e0 (fun t => if t = 0 then shiF (e1 0) p0 p1 p2 p3 else rmU e1 e2 t) (rmG e2) e3 e4)) (fun E9 S1 => ((shiC (e1 0) p0 p1 p2 p3 = 1 ∧ E9 = "java/lang/IllegalArgumentException") ∨ (shiC (e1 0) p0 p1 p2 p3 = 2 ∧ E9 = "java/lang/IllegalStateException")) ∧ FrS S1 e0 e1 e2 e3 e4) := c_X10_ship l hst D T x0 p0 p1 p2 p3 S mc ms hx0 _ _ <|
  (by
    obtain ⟨h, e, hmc, hms⟩ := h
    subst e
    obtain ⟨n, hn, en⟩ := h.now.1.2.1
    have i43 := h.now.2.1.2.2.1.trans en
    have aF : andF (zin p0 0 999) (zin p1 0 999) = 0 → shiC (e1 0) p0 p1 p2 p3 = 1 := fun z => by
      unfold andF at z
      unfold shiC
      by_cases c : zin p0 0 999 = 0
      · rw [if_pos c]
      · rw [if_neg c] at z ⊢
        by_cases c' : zin p1 0 999 = 0
        · rw [if_pos c']
        · rw [if_neg c'] at z; exact absurd z (by decide)
    have aG : ¬ andF (zin p0 0 999) (zin p1 0 999) = 0 → ¬ zin p0 0 999 = 0 ∧ ¬ zin p1 0 999 = 0 := fun z => by
      unfold andF at z
      by_cases c : zin p0 0 999 = 0
      · rw [if_pos c] at z; exact absurd rfl z
      · rw [if_neg c] at z
        by_cases c' : zin p1 0 999 = 0
        · rw [if_pos c'] at z; exact absurd rfl z
        · exact ⟨c, c'⟩
    unfold wp_X10_ship
    refine ⟨fun c => ⟨⟨by omega, by omega⟩, Or.inl ⟨aF c, rfl⟩, h⟩, fun c => ?_⟩
    obtain ⟨ca, cb⟩ := aG c
    refine ⟨fun c2 => ⟨⟨by omega, by omega⟩, Or.inl ⟨by unfold shiC; rw [if_neg ca, if_neg cb, if_pos c2], rfl⟩, h⟩, fun c2 => ⟨fun c3' => ⟨e0 0, h.r0, fun _ => ?_⟩, fun c3' => ⟨⟨by omega, by omega⟩, Or.inl ⟨by unfold shiC; rw [if_neg ca, if_neg cb, if_neg c2, if_pos c3'], rfl⟩, h⟩⟩⟩
    rw [i43, show (nI n < (10 : Int32)) = (n < 10) from propext (nI_ltI (b := 10) (by omega) (by decide))]
    have eC : shiC (e1 0) p0 p1 p2 p3 = if n = 10 then 2 else 0 := by
      unfold shiC
      rw [if_neg ca, if_neg cb, if_neg c2, if_neg c3', en]
      exact ite_congr (propext (nI_eq (b := 10) (by omega) (by decide))) (fun _ => rfl) (fun _ => rfl)
    refine ⟨fun c4 => ⟨e0, e1, e2, e3, e4, ⟨h, rfl⟩, fun S28 he28 h28 => ?_⟩, fun c4 => ⟨⟨by omega, by omega⟩, Or.inr ⟨by rw [eC, if_pos (by omega)], rfl⟩, h⟩⟩
    obtain ⟨H28, f28, k28, r28, s28⟩ := h28
    refine ⟨e0 0, H28.r0, fun _ => ⟨⟨by omega, by omega⟩, fun q q0 qz S46 e46 => ?_⟩⟩
    refine ⟨1, 5, ⟨by omega, by omega⟩, ⟨by omega, by omega⟩, fun S57 he57 h57 => ?_⟩
    obtain ⟨b, b0, bz, e57⟩ := h57
    have x46 : ext S28 S46 := by rw [e46]; exact ext_newO ext_rf q0 6
    have x57 := ext_tr x46 he57
    subst e46
    have b0' : (if b = q then 6 else hK S28 b) = 0 := b0
    have hbq : b ≠ q := fun z => by rw [if_pos z] at b0'; exact absurd b0' (by decide)
    rw [if_neg hbq] at b0'
    have hqb : q ≠ b := fun z => hbq z.symm
    have f57 : frM S28 S57 (fun _ => False) := by
      rw [e57]
      intro c9 _ h0
      have n1 : c9 ≠ q := fun z => h0 (by rw [z]; exact q0)
      have n2 : c9 ≠ b := fun z => h0 (by rw [z]; exact b0')
      refine ⟨?_, ?_, fun i => ?_, fun i => ?_, ?_, ?_⟩ <;> simp only [px_KI, px_KR, px_KA, px_KB, px_KO, px_KW, px_KC, px_NI, px_NR, px_NA, px_NB, px_NO, px_NW, px_NC, px_II, px_IR, px_IA, px_IB, px_IO, px_IW, px_IC, px_RI, px_RR, px_RA, px_RB, px_RO, px_RW, px_RC, px_AI, px_AR, px_AA, px_AB, px_AO, px_AW, px_AC, px_BI, px_BR, px_BA, px_BB, px_BO, px_BW, px_BC, n1, n2, and_false, if_false]
    have H57 := H28.nw x57 f57
    have qM : ¬ fxM e0 q := fun ⟨i, hi, e⟩ => H28.1.k hi (by rw [← e]; exact q0)
    have bM : ¬ fxM e0 b := fun ⟨i, hi, e⟩ => H28.1.k hi (by rw [← e]; exact b0')
    obtain ⟨c1, k2, k3, k4, k5, k6, k7, k8, k9⟩ := shi_c en c4 p0 p1 p2 p3
    have i57 : hI S57 143 (e0 0) = nI n := by
      rw [H57.now.2.1.2.2.1, rmU_0]; exact en
    refine ⟨e0 2, n, ⟨H57.s2, H57.1.1 2 (by omega), H57.n2, i57, c4⟩, fun v S69 he69 h69 => ?_⟩
    obtain ⟨ev, e69⟩ := h69
    have f69 : frM S57 S69 (fxM e0) := by
      rw [e69]
      exact (frM.pB (M := fxM e0) frM.rf ⟨2, by omega, rfl⟩ _ _).pI (M := fxM e0) ⟨0, by omega, rfl⟩ _ _
    have Rq : RelS S57 (fxM e0) q (shiF (e1 0) p0 p1 p2 p3) n := by
      obtain ⟨z1, z2, z3, z4⟩ := qz
      refine ⟨?_, qM, ?_, ?_, ?_, ?_, ?_, ?_, ?_, ?_, b, ?_, ⟨?_, ?_, bM⟩, fun p hp => ?_⟩
      · rw [e57]; simp (disch := decide) only [px_KI, px_KR, px_KA, px_KB, px_KO, px_KW, px_KC, px_NI, px_NR, px_NA, px_NB, px_NO, px_NW, px_NC, px_II, px_IR, px_IA, px_IB, px_IO, px_IW, px_IC, px_RI, px_RR, px_RA, px_RB, px_RO, px_RW, px_RC, px_AI, px_AR, px_AA, px_AB, px_AO, px_AW, px_AC, px_BI, px_BR, px_BA, px_BB, px_BO, px_BW, px_BC, hqb, hbq, if_true, if_false]
      · rw [k3, e57]; simp (disch := decide) only [px_KI, px_KR, px_KA, px_KB, px_KO, px_KW, px_KC, px_NI, px_NR, px_NA, px_NB, px_NO, px_NW, px_NC, px_II, px_IR, px_IA, px_IB, px_IO, px_IW, px_IC, px_RI, px_RR, px_RA, px_RB, px_RO, px_RW, px_RC, px_AI, px_AR, px_AA, px_AB, px_AO, px_AW, px_AC, px_BI, px_BR, px_BA, px_BB, px_BO, px_BW, px_BC, hqb, hbq, Nat.reduceEqDiff, and_true, and_false, true_and, false_and, if_true, if_false]
      · rw [k4, e57]; simp (disch := decide) only [px_KI, px_KR, px_KA, px_KB, px_KO, px_KW, px_KC, px_NI, px_NR, px_NA, px_NB, px_NO, px_NW, px_NC, px_II, px_IR, px_IA, px_IB, px_IO, px_IW, px_IC, px_RI, px_RR, px_RA, px_RB, px_RO, px_RW, px_RC, px_AI, px_AR, px_AA, px_AB, px_AO, px_AW, px_AC, px_BI, px_BR, px_BA, px_BB, px_BO, px_BW, px_BC, hqb, hbq, Nat.reduceEqDiff, and_true, and_false, true_and, false_and, if_true, if_false]
      · rw [k5, e57]; simp (disch := decide) only [px_KI, px_KR, px_KA, px_KB, px_KO, px_KW, px_KC, px_NI, px_NR, px_NA, px_NB, px_NO, px_NW, px_NC, px_II, px_IR, px_IA, px_IB, px_IO, px_IW, px_IC, px_RI, px_RR, px_RA, px_RB, px_RO, px_RW, px_RC, px_AI, px_AR, px_AA, px_AB, px_AO, px_AW, px_AC, px_BI, px_BR, px_BA, px_BB, px_BO, px_BW, px_BC, hqb, hbq, Nat.reduceEqDiff, and_true, and_false, true_and, false_and, if_true, if_false]
      · rw [k6, e57]; simp (disch := decide) only [px_KI, px_KR, px_KA, px_KB, px_KO, px_KW, px_KC, px_NI, px_NR, px_NA, px_NB, px_NO, px_NW, px_NC, px_II, px_IR, px_IA, px_IB, px_IO, px_IW, px_IC, px_RI, px_RR, px_RA, px_RB, px_RO, px_RW, px_RC, px_AI, px_AR, px_AA, px_AB, px_AO, px_AW, px_AC, px_BI, px_BR, px_BA, px_BB, px_BO, px_BW, px_BC, hqb, hbq, Nat.reduceEqDiff, and_true, and_false, true_and, false_and, if_true, if_false]
      · rw [k7, e57]; simp (disch := decide) only [px_KI, px_KR, px_KA, px_KB, px_KO, px_KW, px_KC, px_NI, px_NR, px_NA, px_NB, px_NO, px_NW, px_NC, px_II, px_IR, px_IA, px_IB, px_IO, px_IW, px_IC, px_RI, px_RR, px_RA, px_RB, px_RO, px_RW, px_RC, px_AI, px_AR, px_AA, px_AB, px_AO, px_AW, px_AC, px_BI, px_BR, px_BA, px_BB, px_BO, px_BW, px_BC, hqb, hbq, Nat.reduceEqDiff, and_true, and_false, true_and, false_and, if_true, if_false]; exact z1 124
      · have : realF (shiF (e1 0) p0 p1 p2 p3) n = 0 := by unfold realF; rw [k7]; rfl
        rw [this, e57]; simp (disch := decide) only [px_KI, px_KR, px_KA, px_KB, px_KO, px_KW, px_KC, px_NI, px_NR, px_NA, px_NB, px_NO, px_NW, px_NC, px_II, px_IR, px_IA, px_IB, px_IO, px_IW, px_IC, px_RI, px_RR, px_RA, px_RB, px_RO, px_RW, px_RC, px_AI, px_AR, px_AA, px_AB, px_AO, px_AW, px_AC, px_BI, px_BR, px_BA, px_BB, px_BO, px_BW, px_BC, hqb, hbq, Nat.reduceEqDiff, and_true, and_false, true_and, false_and, if_true, if_false]; exact z1 126
      · have : longF (shiF (e1 0) p0 p1 p2 p3) n = 0 := by unfold longF; rw [k7]; rfl
        rw [this, e57]; simp (disch := decide) only [px_KI, px_KR, px_KA, px_KB, px_KO, px_KW, px_KC, px_NI, px_NR, px_NA, px_NB, px_NO, px_NW, px_NC, px_II, px_IR, px_IA, px_IB, px_IO, px_IW, px_IC, px_RI, px_RR, px_RA, px_RB, px_RO, px_RW, px_RC, px_AI, px_AR, px_AA, px_AB, px_AO, px_AW, px_AC, px_BI, px_BR, px_BA, px_BB, px_BO, px_BW, px_BC, hqb, hbq, Nat.reduceEqDiff, and_true, and_false, true_and, false_and, if_true, if_false]; exact z1 127
      · rw [k8, e57]; simp (disch := decide) only [px_KI, px_KR, px_KA, px_KB, px_KO, px_KW, px_KC, px_NI, px_NR, px_NA, px_NB, px_NO, px_NW, px_NC, px_II, px_IR, px_IA, px_IB, px_IO, px_IW, px_IC, px_RI, px_RR, px_RA, px_RB, px_RO, px_RW, px_RC, px_AI, px_AR, px_AA, px_AB, px_AO, px_AW, px_AC, px_BI, px_BR, px_BA, px_BB, px_BO, px_BW, px_BC, hqb, hbq, Nat.reduceEqDiff, and_true, and_false, true_and, false_and, if_true, if_false]
      · rw [e57]; simp (disch := decide) only [px_KI, px_KR, px_KA, px_KB, px_KO, px_KW, px_KC, px_NI, px_NR, px_NA, px_NB, px_NO, px_NW, px_NC, px_II, px_IR, px_IA, px_IB, px_IO, px_IW, px_IC, px_RI, px_RR, px_RA, px_RB, px_RO, px_RW, px_RC, px_AI, px_AR, px_AA, px_AB, px_AO, px_AW, px_AC, px_BI, px_BR, px_BA, px_BB, px_BO, px_BW, px_BC, and_true, true_and, if_true]
      · rw [e57]; simp (disch := decide) only [px_KI, px_KR, px_KA, px_KB, px_KO, px_KW, px_KC, px_NI, px_NR, px_NA, px_NB, px_NO, px_NW, px_NC, px_II, px_IR, px_IA, px_IB, px_IO, px_IW, px_IC, px_RI, px_RR, px_RA, px_RB, px_RO, px_RW, px_RC, px_AI, px_AR, px_AA, px_AB, px_AO, px_AW, px_AC, px_BI, px_BR, px_BA, px_BB, px_BO, px_BW, px_BC, if_true]
      · rw [e57]; simp (disch := decide) only [px_KI, px_KR, px_KA, px_KB, px_KO, px_KW, px_KC, px_NI, px_NR, px_NA, px_NB, px_NO, px_NW, px_NC, px_II, px_IR, px_IA, px_IB, px_IO, px_IW, px_IC, px_RI, px_RR, px_RA, px_RB, px_RO, px_RW, px_RC, px_AI, px_AR, px_AA, px_AB, px_AO, px_AW, px_AC, px_BI, px_BR, px_BA, px_BB, px_BO, px_BW, px_BC, if_true]
      · rw [k7] at hp; exact absurd hp (Nat.not_lt_zero p)
    refine ⟨by rw [eC, if_neg (by omega)], by rw [ev, en], ?_⟩
    refine H57.st (s := 0) (by omega) he69 (by rw [e69]; exact (frM.rf.pB (Or.inr (Or.inr (Or.inl H57.s2))) _ _).pI (Or.inl rfl) _ _) (fun i _ j => by rw [e69, px_RI, px_RB]) (shi_gw (h.2.1 0 (by omega)).1 en c4 (zin_n (m := 255) (by decide) c2) (zin_n (m := 3) (by decide) c3')) ?_
    refine H57.now.2.sh H57.now.1 H57.s2 f69 (by rw [e69, px_KI, px_KB]) (by rw [e69, px_NI, px_NB]) (by rw [e69, px_RI, px_RB]) (fun i hi => by rw [e69, px_II, if_neg (fun z => hi z.1), px_IB]) (by rw [e69, px_II, if_pos ⟨rfl, rfl⟩, k2]) (by rw [e69, px_AI, px_AB]) (fun c9 hc9 => by rw [e69, px_BI]; exact putB_o _ _ _ hc9) (fun k h1 h2 => by rw [rmU_0]; exact c1 k h1 (by omega)) (fun t ht => ?_)
    rw [k2, show iv (nI (n + 1)) = n + 1 from nI_clamp (by omega)] at ht
    rw [e69, px_BI, px_BB]
    rw [← e69]
    by_cases c9 : t = n
    · subst c9
      exact ⟨q, by rw [if_pos ⟨rfl, rfl⟩], Rq.fm f69⟩
    · obtain ⟨c, r, _, _, hh⟩ := H57.now.2.2.2.1
      have ec : c = e0 2 := Option.some.inj (r.symm.trans H57.s2)
      rw [ec] at hh
      obtain ⟨u, u1, u2⟩ := hh t (by rw [rmU_0, en, show iv (nI n) = n from nI_clamp (by omega)]; omega)
      exact ⟨u, by rw [if_neg (fun z => c9 z.2)]; exact u1, (u2.fm f69).cg (fun k hk => by rw [rmU_0]; exact c1 _ (by omega) (by omega)) (H57.now.1.pcs (by omega))⟩)

theorem FxO.nM {S : HS} {a : Nat → Nat} (h : FxO S a) {q : Nat} (h0 : hK S q = 0) : ¬ fxM a q := fun ⟨i, hi, e⟩ => h.k hi (by rw [← e]; exact h0)
theorem FxO.xM {S S1 : HS} {a : Nat → Nat} (h : FxO S a) (he : ext S S1) : ∀ b, fxM a b → hK S1 b ≠ 0 := fun b ⟨i, hi, e⟩ => by
  rw [e, (he _ (h.k hi)).1]
  exact h.k hi
theorem ext_0 {S S1 : HS} (he : ext S S1) {b : Nat} (h : hK S1 b = 0) : hK S b = 0 := by
  by_cases c : hK S b = 0
  · exact c
  · exact absurd ((he b c).1.symm.trans h) c
theorem vp_iv {p : Int32} {N : Nat} (h : p = nI (iv p)) (hN : iv p < N) (h2 : N < 2 ^ 31) : vp_in p N := by
  have := vp_of (j := iv p) (N := N) (by omega) hN
  rw [← h] at this
  exact this
theorem kd_X10_pack (l : Launch) (hst : l.stackTraces = false) (D : va_G) (T : Nat → ClassId) (x0 : Nat) (p0 : Int32) (p1 : Int32) (p2 : Int32) (p3 : Int32) (p4 : Int32) (S : HS) (e0 : (Nat → Nat)) (e1 : (Nat → Nat → Int32)) (e2 : (Nat → Int32)) (e3 : (Nat → Int32)) (e4 : (List Int32)) (mc ms : Nat) (hx0 : hK S x0 = 11) (h : FrS S e0 e1 e2 e3 e4 ∧ x0 = e0 50 ∧ 200 ≤ mc ∧ 2000 ≤ ms) : CXi l yX10_pack (ws_X10_pack) rm_X10_pack D T [.ref x0, .int p0, .int p1, .int p2, .int p3, .int p4] S mc ms (fun v S1 => (pakC (e1 0) p0 p1 p2 p3 p4 = 0 ∧ v = e1 0 (14 + 26 * iv p0 + 4) + 1 ∧ FrS S1 e0 (fun t => if t = 0 then pakF (e1 0) (iv p0) p1 p2 p3 p4 else rmU e1 e2 t) (rmG e2) e3 e4)) (fun E9 S1 => ((pakC (e1 0) p0 p1 p2 p3 p4 = 1 ∧ E9 = "java/lang/IndexOutOfBoundsException") ∨ (pakC (e1 0) p0 p1 p2 p3 p4 = 2 ∧ E9 = "java/lang/IllegalArgumentException") ∨ (pakC (e1 0) p0 p1 p2 p3 p4 = 3 ∧ E9 = "java/lang/IllegalStateException")) ∧ FrS S1 e0 e1 e2 e3 e4) := c_X10_pack l hst D T x0 p0 p1 p2 p3 p4 S mc ms hx0 _ _ <|
  (by
    obtain ⟨h, e, hmc, hms⟩ := h
    unfold wp_X10_pack
    refine ⟨1, 6, ⟨by omega, by omega⟩, e0, e1, e2, e3, e4, ⟨h, e, Nat.le_refl _, Nat.le_refl _⟩, fun E9 S9 _ h9 => ?_, fun o S10 _ _ h10 => ?_⟩
    · obtain ⟨c, eE, eS⟩ := h9
      subst eS
      exact ⟨Or.inl ⟨by unfold pakC; rw [if_pos c], eE⟩, h⟩
    obtain ⟨eS, c, y, ey, hy⟩ := h10
    subst eS e
    refine ⟨y, ey, fun _ => ?_⟩
    obtain ⟨hs10, hsn, es⟩ := zs h.now.1 c
    obtain ⟨n, hn, en⟩ := h.now.1.pcs hs10
    refine ⟨fun c2 => ⟨⟨by omega, by omega⟩, Or.inr (Or.inl ⟨by unfold pakC; rw [if_neg c, if_pos c2], rfl⟩), h⟩, fun c2 => ⟨fun c3' => ⟨⟨by omega, by omega⟩, Or.inr (Or.inl ⟨by unfold pakC; rw [if_neg c, if_neg c2, if_pos c3'], rfl⟩), h⟩, fun c3' => ⟨fun c4 => ⟨⟨by omega, by omega⟩, Or.inr (Or.inl ⟨by unfold pakC; rw [if_neg c, if_neg c2, if_neg c3', if_pos c4], rfl⟩), h⟩, fun c4 => ⟨fun c5 => ?_, fun c5 => ⟨⟨by omega, by omega⟩, Or.inr (Or.inl ⟨by unfold pakC; rw [if_neg c, if_neg c2, if_neg c3', if_neg c4, if_pos c5], rfl⟩), h⟩⟩⟩⟩⟩
    refine ⟨fxM e0, e1 0, iv p0, ⟨h.now.1, hs10, hy⟩, fun c6 => ⟨⟨by omega, by omega⟩, Or.inr (Or.inr ⟨by unfold pakC; rw [if_neg c, if_neg c2, if_neg c3', if_neg c4, if_neg c5, if_pos c6], rfl⟩), h⟩, fun c6 => ?_⟩
    have eC : pakC (e1 0) p0 p1 p2 p3 p4 = if n = 5 then 3 else 0 := by
      unfold pakC
      rw [if_neg c, if_neg c2, if_neg c3', if_neg c4, if_neg c5, if_neg (fun z => z c6), en]
      exact ite_congr (propext (nI_eq (b := 5) (by omega) (by decide))) (fun _ => rfl) (fun _ => rfl)
    rw [hy.2.2.2.2.2.2.1.trans en, show (nI n < (5 : Int32)) = (n < 5) from propext (nI_ltI (b := 5) (by omega) (by decide))]
    refine ⟨fun c7 => ⟨e0, e1, e2, e3, e4, ⟨h, rfl⟩, fun S61 he61 h61 => ?_⟩, fun c7 => ⟨⟨by omega, by omega⟩, Or.inr (Or.inr ⟨by rw [eC, if_pos (by omega)], rfl⟩), h⟩⟩
    obtain ⟨H61, f61, k61, r61, s61⟩ := h61
    refine ⟨⟨by omega, by omega⟩, fun q q0 qz S77 e77 => ?_⟩
    have f77 : frM S61 S77 (fun _ => False) := by rw [e77]; exact frM.rf.nO ext_rf q0 6
    have x77 : ext S61 S77 := by rw [e77]; exact ext_newO ext_rf q0 6
    have y61 := hy.fm f61
    have y77 := y61.fm (f77.sub (fun _ z => z.elim))
    have yq : y ≠ q := fun z => by have := y61.1; rw [z, q0] at this; exact absurd this (by decide)
    refine ⟨1, 5, ⟨by omega, by omega⟩, fxM e0, e1 0, iv p0, ⟨y77, yq, H61.1.nM q0, H61.1.xM x77, Nat.le_refl _, Nat.le_refl _⟩, fun S91 he91 h91 => ?_⟩
    obtain ⟨f91, R91, w, rw91, w0⟩ := h91
    have f91' : frM S61 S91 (fun _ => False) := f77.nw f91 (fun b hb z => hb (by rw [z]; exact q0))
    refine ⟨fxM e0, e1 0, iv p0, ⟨R91, n, c7, en⟩, fun S104 he104 h104 => ?_⟩
    obtain ⟨f104, R104, k104, n104, r104⟩ := h104
    have f104' : frM S61 S104 (fun _ => False) := f91'.nw f104 (fun b hb z => by
      rcases z with z | z
      · exact hb (by rw [z]; exact q0)
      · have : b = w := Option.some.inj (z.symm.trans rw91)
        exact hb (by rw [this]; exact ext_0 x77 w0))
    have H104 := H61.nw (ext_tr x77 (ext_tr he91 he104)) f104'
    refine ⟨e0 0, H104.r0, fun _ => ⟨e0 2, H104.s2, fun _ => ?_⟩⟩
    rw [H104.n2]
    refine ⟨vp_iv es hs10 (by decide), fun S121 e121 => ?_⟩
    subst e121
    obtain ⟨d1, d2, d3, _⟩ := pak_c (a := p1) (b := p2) (c := p3) (w := p4) en c7
    refine ⟨by rw [eC, if_neg (by omega)], ?_, H104.ps (s := iv p0) hs10 R104 (fun k hk => by rw [rmU_0]; exact d1 k hk) (pak_gw (h.2.1 0 (by omega)).1 hs10 en c7 c2 c3' c4 c5)⟩
    rw [px_IB, R104.2.2.2.2.2.2.1, d3, en, nI_1])
theorem kd_X10_route (l : Launch) (hst : l.stackTraces = false) (D : va_G) (T : Nat → ClassId) (x0 : Nat) (p0 : Int32) (p1 : Int32) (p2 : Int32) (S : HS) (e0 : (Nat → Nat)) (e1 : (Nat → Nat → Int32)) (e2 : (Nat → Int32)) (e3 : (Nat → Int32)) (e4 : (List Int32)) (mc ms : Nat) (hx0 : hK S x0 = 11) (h : FrS S e0 e1 e2 e3 e4 ∧ x0 = e0 50 ∧ 200 ≤ mc ∧ 2000 ≤ ms) : CXi l yX10_route (ws_X10_route) rm_X10_route D T [.ref x0, .int p0, .int p1, .int p2] S mc ms (fun v S1 => (rouC (e1 0) p0 p1 p2 = 0 ∧ v = e1 0 (14 + 26 * iv p0) ∧ FrS S1 e0 (fun t => if t = 0 then rouF (e1 0) (iv p0) p1 p2 else rmU e1 e2 t) (rmG e2) e3 e4)) (fun E9 S1 => ((rouC (e1 0) p0 p1 p2 = 1 ∧ E9 = "java/lang/IndexOutOfBoundsException") ∨ (rouC (e1 0) p0 p1 p2 = 2 ∧ E9 = "java/lang/IllegalArgumentException") ∨ (rouC (e1 0) p0 p1 p2 = 3 ∧ E9 = "java/lang/IllegalStateException")) ∧ FrS S1 e0 e1 e2 e3 e4) := c_X10_route l hst D T x0 p0 p1 p2 S mc ms hx0 _ _ <|
  (by
    obtain ⟨h, e, hmc, hms⟩ := h
    unfold wp_X10_route
    refine ⟨1, 6, ⟨by omega, by omega⟩, e0, e1, e2, e3, e4, ⟨h, e, Nat.le_refl _, Nat.le_refl _⟩, fun E9 S9 _ h9 => ?_, fun o S10 _ _ h10 => ?_⟩
    · obtain ⟨c, eE, eS⟩ := h9
      subst eS
      exact ⟨Or.inl ⟨by unfold rouC; rw [if_pos c], eE⟩, h⟩
    obtain ⟨eS, c, y, ey, hy⟩ := h10
    subst eS e
    refine ⟨y, ey, fun _ => ?_⟩
    obtain ⟨hs10, hsn, es⟩ := zs h.now.1 c
    have h5 := h.now.1.pcs hs10
    refine ⟨fun ca => ?_, fun ca => ⟨⟨by omega, by omega⟩, Or.inr (Or.inl ⟨?_, rfl⟩), h⟩⟩
    rotate_left
    · unfold andF at ca
      unfold rouC
      rw [if_neg c]
      by_cases c1 : zin p1 0 999 = 0
      · rw [if_pos c1]
      · rw [if_neg c1] at ca ⊢
        by_cases c2 : zin p2 0 999 = 0
        · rw [if_pos c2]
        · rw [if_neg c2] at ca; exact absurd ca (by decide)
    have cc : ¬ zin p1 0 999 = 0 ∧ ¬ zin p2 0 999 = 0 := by
      unfold andF at ca
      by_cases c1 : zin p1 0 999 = 0
      · rw [if_pos c1] at ca; exact absurd rfl ca
      · rw [if_neg c1] at ca
        by_cases c2 : zin p2 0 999 = 0
        · rw [if_pos c2] at ca; exact absurd rfl ca
        · exact ⟨c1, c2⟩
    have eC : rouC (e1 0) p0 p1 p2 = if ¬ psF (e1 0) (iv p0) = 0 then 3 else 0 := by
      unfold rouC
      rw [if_neg c, if_neg cc.1, if_neg cc.2]
    refine ⟨fxM e0, e1 0, iv p0, ⟨h.now.1, hs10, hy⟩, fun c6 => ⟨e0, e1, e2, e3, e4, ⟨h, rfl⟩, fun S61 he61 h61 => ?_⟩, fun c6 => ⟨⟨by omega, by omega⟩, Or.inr (Or.inr ⟨by rw [eC, if_pos c6], rfl⟩), h⟩⟩
    obtain ⟨H61, f61, k61, r61, s61⟩ := h61
    refine ⟨⟨by omega, by omega⟩, fun q q0 qz S77 e77 => ?_⟩
    have f77 : frM S61 S77 (fun _ => False) := by rw [e77]; exact frM.rf.nO ext_rf q0 6
    have x77 : ext S61 S77 := by rw [e77]; exact ext_newO ext_rf q0 6
    have y61 := hy.fm f61
    have y77 := y61.fm (f77.sub (fun _ z => z.elim))
    have yq : y ≠ q := fun z => by have := y61.1; rw [z, q0] at this; exact absurd this (by decide)
    refine ⟨1, 5, ⟨by omega, by omega⟩, fxM e0, e1 0, iv p0, ⟨y77, yq, H61.1.nM q0, H61.1.xM x77, Nat.le_refl _, Nat.le_refl _⟩, fun S91 he91 h91 S97 e97 S104 e104 => ?_⟩
    obtain ⟨f91, R91, w, rw91, w0⟩ := h91
    have f91' : frM S61 S91 (fun _ => False) := f77.nw f91 (fun b hb z => hb (by rw [z]; exact q0))
    have f104 : frM S91 S104 (fun b => b = q) := by
      rw [e104, e97]
      exact (frM.pI (M := fun b => b = q) frM.rf rfl _ _).pI (M := fun b => b = q) rfl _ _
    have f104' : frM S61 S104 (fun _ => False) := f91'.nw f104 (fun b hb z => hb (by rw [z]; exact q0))
    have x104 : ext S91 S104 := by rw [e104, e97]; exact ext_rf
    have H104 := H61.nw (ext_tr x77 (ext_tr he91 x104)) f104'
    have R104 : RelS S104 (fxM e0) q (rouF (e1 0) (iv p0) p1 p2) (iv p0) := by
      refine R91.ch h5 (by rw [e104, e97, px_KI, px_KI]) (by rw [e104, e97, px_NI, px_NI]) (by rw [e104, e97, px_RI, px_RI]) (by rw [e104, e97, px_AI, px_AI]) (fun i h1 h2 _ _ => by rw [e104, e97, px_II, if_neg (fun z => h2 z.1), px_II, if_neg (fun z => h1 z.1)]) ?_ ?_ ?_ ?_ (fun k h1 h2 _ => by unfold rouF upd; rw [if_neg (by omega), if_neg (by omega)])
      · rw [e104, e97, px_II, if_neg (by omega), px_II, if_pos ⟨rfl, rfl⟩]
        unfold rouF upd
        rw [if_neg (by omega), if_pos rfl]
      · rw [e104, e97, px_II, if_pos ⟨rfl, rfl⟩]
        unfold rouF upd
        rw [if_pos rfl]
      · rw [e104, e97, px_II, if_neg (by omega), px_II, if_neg (by omega), R91.2.2.2.2.1]
        unfold rouF upd
        rw [if_neg (by omega), if_neg (by omega)]
      · rw [e104, e97, px_II, if_neg (by omega), px_II, if_neg (by omega), R91.2.2.2.2.2.2.2.2.2.1]
        unfold rouF upd
        rw [if_neg (by omega), if_neg (by omega)]
    refine ⟨e0 0, H104.r0, fun _ => ⟨e0 2, H104.s2, fun _ => ?_⟩⟩
    rw [H104.n2]
    refine ⟨vp_iv es hs10 (by decide), fun S121 e121 => ?_⟩
    subst e121
    refine ⟨by rw [eC, if_neg (fun z => z c6)], ?_, H104.ps (s := iv p0) hs10 R104 (fun k hk => by rw [rmU_0]; unfold rouF upd; rw [if_neg (by omega), if_neg (by omega)]) (rou_gw (h.2.1 0 (by omega)).1 hs10)⟩
    rw [px_IB, (f104' y (fun z => z) (nz_of y61.1 (by decide))).2.2.1 120]
    exact y61.2.2.1)
theorem kd_X10_handle (l : Launch) (hst : l.stackTraces = false) (D : va_G) (T : Nat → ClassId) (x0 : Nat) (p0 : Int32) (p1 : Int32) (S : HS) (e0 : (Nat → Nat)) (e1 : (Nat → Nat → Int32)) (e2 : (Nat → Int32)) (e3 : (Nat → Int32)) (e4 : (List Int32)) (mc ms : Nat) (hx0 : hK S x0 = 11) (h : FrS S e0 e1 e2 e3 e4 ∧ x0 = e0 50 ∧ 200 ≤ mc ∧ 2000 ≤ ms) : CXi l yX10_handle (ws_X10_handle) rm_X10_handle D T [.ref x0, .int p0, .int p1] S mc ms (fun v S1 => (hanC (e1 0) p0 p1 = 0 ∧ v = e1 0 (14 + 26 * iv p0 + 2) ∧ FrS S1 e0 (fun t => if t = 0 then upd (e1 0) (14 + 26 * iv p0 + 2) p1 else rmU e1 e2 t) (rmG e2) e3 e4)) (fun E9 S1 => ((hanC (e1 0) p0 p1 = 1 ∧ E9 = "java/lang/IndexOutOfBoundsException") ∨ (hanC (e1 0) p0 p1 = 2 ∧ E9 = "java/lang/IllegalArgumentException") ∨ (hanC (e1 0) p0 p1 = 3 ∧ E9 = "java/lang/IllegalStateException")) ∧ FrS S1 e0 e1 e2 e3 e4) := c_X10_handle l hst D T x0 p0 p1 S mc ms hx0 _ _ <|
  (by
    obtain ⟨h, e, hmc, hms⟩ := h
    unfold wp_X10_handle
    refine ⟨1, 6, ⟨by omega, by omega⟩, e0, e1, e2, e3, e4, ⟨h, e, Nat.le_refl _, Nat.le_refl _⟩, fun E9 S9 _ h9 => ?_, fun o S10 _ _ h10 => ?_⟩
    · obtain ⟨c, eE, eS⟩ := h9
      subst eS
      exact ⟨Or.inl ⟨by unfold hanC; rw [if_pos c], eE⟩, h⟩
    obtain ⟨eS, c, y, ey, hy⟩ := h10
    subst eS e
    refine ⟨y, ey, fun _ => ?_⟩
    obtain ⟨hs10, hsn, es⟩ := zs h.now.1 c
    have h5 := h.now.1.pcs hs10
    refine ⟨fun ca => ?_, fun ca => ⟨⟨by omega, by omega⟩, Or.inr (Or.inl ⟨by unfold hanC; rw [if_neg c, if_pos ca], rfl⟩), h⟩⟩
    have eC : hanC (e1 0) p0 p1 = if ¬ psF (e1 0) (iv p0) = 0 then 3 else 0 := by
      unfold hanC
      rw [if_neg c, if_neg ca]
    refine ⟨fxM e0, e1 0, iv p0, ⟨h.now.1, hs10, hy⟩, fun c6 => ⟨e0, e1, e2, e3, e4, ⟨h, rfl⟩, fun S61 he61 h61 => ?_⟩, fun c6 => ⟨⟨by omega, by omega⟩, Or.inr (Or.inr ⟨by rw [eC, if_pos c6], rfl⟩), h⟩⟩
    obtain ⟨H61, f61, k61, r61, s61⟩ := h61
    refine ⟨⟨by omega, by omega⟩, fun q q0 qz S77 e77 => ?_⟩
    have f77 : frM S61 S77 (fun _ => False) := by rw [e77]; exact frM.rf.nO ext_rf q0 6
    have x77 : ext S61 S77 := by rw [e77]; exact ext_newO ext_rf q0 6
    have y61 := hy.fm f61
    have y77 := y61.fm (f77.sub (fun _ z => z.elim))
    have yq : y ≠ q := fun z => by have := y61.1; rw [z, q0] at this; exact absurd this (by decide)
    refine ⟨1, 5, ⟨by omega, by omega⟩, fxM e0, e1 0, iv p0, ⟨y77, yq, H61.1.nM q0, H61.1.xM x77, Nat.le_refl _, Nat.le_refl _⟩, fun S91 he91 h91 S104 e104 => ?_⟩
    obtain ⟨f91, R91, w, rw91, w0⟩ := h91
    have f91' : frM S61 S91 (fun _ => False) := f77.nw f91 (fun b hb z => hb (by rw [z]; exact q0))
    have f104 : frM S91 S104 (fun b => b = q) := by
      rw [e104]
      exact frM.pI (M := fun b => b = q) frM.rf rfl _ _
    have f104' : frM S61 S104 (fun _ => False) := f91'.nw f104 (fun b hb z => hb (by rw [z]; exact q0))
    have x104 : ext S91 S104 := by rw [e104]; exact ext_rf
    have H104 := H61.nw (ext_tr x77 (ext_tr he91 x104)) f104'
    have R104 : RelS S104 (fxM e0) q (upd (e1 0) (14 + 26 * iv p0 + 2) p1) (iv p0) := by
      refine R91.ch h5 (by rw [e104, px_KI]) (by rw [e104, px_NI]) (by rw [e104, px_RI]) (by rw [e104, px_AI]) (fun i _ _ h1 _ => by rw [e104, px_II, if_neg (fun z => h1 z.1)]) ?_ ?_ ?_ ?_ (fun k h1 h2 _ => by unfold upd; rw [if_neg (by omega)])
      · rw [e104, px_II, if_neg (by omega), R91.2.2.1]
        unfold upd
        rw [if_neg (by omega)]
      · rw [e104, px_II, if_neg (by omega), R91.2.2.2.1]
        unfold upd
        rw [if_neg (by omega)]
      · rw [e104, px_II, if_pos ⟨rfl, rfl⟩]
        unfold upd
        rw [if_pos rfl]
      · rw [e104, px_II, if_neg (by omega), R91.2.2.2.2.2.2.2.2.2.1]
        unfold upd
        rw [if_neg (by omega)]
    refine ⟨e0 0, H104.r0, fun _ => ⟨e0 2, H104.s2, fun _ => ?_⟩⟩
    rw [H104.n2]
    refine ⟨vp_iv es hs10 (by decide), fun S121 e121 => ?_⟩
    subst e121
    refine ⟨by rw [eC, if_neg (fun z => z c6)], ?_, H104.ps (s := iv p0) hs10 R104 (fun k hk => by rw [rmU_0]; unfold upd; rw [if_neg (by omega)]) (han_gw (h.2.1 0 (by omega)).1 hs10 (zin_n (m := 255) (by decide) ca))⟩
    rw [px_IB, (f104' y (fun z => z) (nz_of y61.1 (by decide))).2.2.1 122]
    exact y61.2.2.2.2.1)

/-- ascending -/
def asc (L : List Nat) (m : Nat) : Prop := ∀ i j, i < j → j < m → gl L i < gl L j
/-- the best one: least total, then fewest, then least number -/
def bst (V : Nat → Prop) (f c : Nat → Int32) (x : X3) : Prop := ∃ g, V g ∧ x = (f g, c g, nI g) ∧ ∀ h, V h → f g < f h ∨ (f g = f h ∧ (c g < c h ∨ (c g = c h ∧ g ≤ h)))
/-- a group that may come first: of the reference, of the class -/
def Vv (T : Nat → Int32) (p g : Nat) : Prop := sub g p ∧ g.testBit (lowN p) = true ∧ 0 ≤ T g
def Vc (T : Nat → Int32) (w g : Nat) : Prop := sub g w ∧ g.testBit (lowN w) = true ∧ ¬ T g = -1
theorem mem_asc {g : Nat} : ∀ k s, (∀ i, i < (memL g k s).length → s ≤ gl (memL g k s) i) ∧ asc (memL g k s) (memL g k s).length := by
  intro k
  induction k with
  | zero => intro s; exact ⟨fun i hi => absurd hi (Nat.not_lt_zero i), fun i j _ hj => absurd hj (Nat.not_lt_zero j)⟩
  | succ k ih =>
    intro s
    obtain ⟨h1, h2⟩ := ih (s + 1)
    rw [memL]
    by_cases c : g.testBit s = true
    · rw [if_pos c]
      refine ⟨fun i hi => ?_, fun i j hij hj => ?_⟩
      · cases i with
        | zero => exact Nat.le_refl _
        | succ i =>
          rw [gl_c]
          have := h1 i (by rw [List.length_cons] at hi; omega)
          omega
      · cases j with
        | zero => omega
        | succ j =>
          rw [List.length_cons] at hj
          rw [gl_c]
          cases i with
          | zero => rw [gl_0]; have := h1 j (by omega); omega
          | succ i => rw [gl_c]; exact h2 i j (by omega) (by omega)
    · rw [if_neg c]
      exact ⟨fun i hi => by have := h1 i hi; omega, h2⟩
theorem asc.in {L : List Nat} {k i j : Nat} (ha : asc L k) (hi : i < k) (hj : j < k) (e : gl L i = gl L j) : i = j := by
  rcases Nat.lt_trichotomy i j with h | h | h
  · have := ha i j h hj; omega
  · exact h
  · have := ha j i h hi; omega
theorem p2_or {k p : Nat} (h1 : 2 ^ k ≤ p) (h2 : p < 2 ^ (k + 1)) : (p - 2 ^ k) ||| 2 ^ k = p := by
  rw [pow_or (by rw [Nat.pow_succ] at h2; omega)]
  omega
theorem tb_lt {p k i : Nat} (hp : p < 2 ^ k) (h : p.testBit i = true) : i < k := by
  rcases Nat.lt_or_ge i k with q | q
  · exact q
  · rw [Nat.testBit_lt_two_pow (Nat.lt_of_lt_of_le hp (Nat.pow_le_pow_right (by decide) q))] at h
    exact absurd h (by decide)
theorem spr_tb {L : List Nat} : ∀ k p, p < 2 ^ k → ∀ j, (spr L k p).testBit j = true ↔ ∃ i, i < k ∧ gl L i = j ∧ p.testBit i = true := by
  intro k
  induction k with
  | zero =>
    intro p hp j
    rw [spr, Nat.zero_testBit]
    exact ⟨fun h => absurd h (by decide), fun ⟨i, hi, _⟩ => absurd hi (Nat.not_lt_zero i)⟩
  | succ k ih =>
    intro p hp j
    rw [spr]
    by_cases c : 2 ^ k ≤ p
    · have hr : p - 2 ^ k < 2 ^ k := by rw [Nat.pow_succ] at hp; omega
      have hb : ∀ i, p.testBit i = ((p - 2 ^ k).testBit i || decide (k = i)) := fun i => by
        have e := congrArg (fun z => Nat.testBit z i) (p2_or c hp)
        rw [Nat.testBit_or, Nat.testBit_two_pow] at e
        exact e.symm
      rw [if_pos c, Nat.testBit_or, Bool.or_eq_true, Nat.testBit_two_pow, decide_eq_true_eq, ih _ hr j]
      constructor
      · rintro (⟨i, h1, h2, h3⟩ | h)
        · exact ⟨i, by omega, h2, by rw [hb, h3]; rfl⟩
        · exact ⟨k, by omega, h, by rw [hb, decide_eq_true rfl, Bool.or_true]⟩
      · rintro ⟨i, h1, h2, h3⟩
        by_cases e : i = k
        · right; rw [← e]; exact h2
        · left
          refine ⟨i, by omega, h2, ?_⟩
          rw [hb, decide_eq_false (fun q => e q.symm), Bool.or_false] at h3
          exact h3
    · rw [if_neg c, ih p (by omega) j]
      constructor
      · rintro ⟨i, h1, h2⟩; exact ⟨i, by omega, h2⟩
      · rintro ⟨i, h1, h2, h3⟩
        exact ⟨i, tb_lt (by omega) h3, h2, h3⟩
theorem spr_mono {L : List Nat} : ∀ k, asc L k → ∀ p q, p < q → q < 2 ^ k → spr L k p < spr L k q := by
  intro k
  induction k with
  | zero => intro _ p q h1 h2; rw [Nat.pow_zero] at h2; omega
  | succ k ih =>
    intro ha p q h1 h2
    have ha' : asc L k := fun i j q1 q2 => ha i j q1 (by omega)
    have hb : ∀ r, r < 2 ^ k → spr L k r < 2 ^ gl L k := fun r hr => (spr_ok k (fun i hi => ha i k hi (by omega)) r hr).1
    rw [Nat.pow_succ] at h2
    have e : ∀ r, spr L (k + 1) r = if 2 ^ k ≤ r then spr L k (r - 2 ^ k) ||| 2 ^ gl L k else spr L k r := fun r => by rw [spr]
    rw [e, e]
    by_cases c : 2 ^ k ≤ p
    · rw [if_pos c, if_pos (by omega), pow_or (hb _ (by omega)), pow_or (hb _ (by omega))]
      have := ih ha' (p - 2 ^ k) (q - 2 ^ k) (by omega) (by omega)
      omega
    · rw [if_neg c]
      by_cases d : 2 ^ k ≤ q
      · rw [if_pos d, pow_or (hb _ (by omega))]
        have := hb p (by omega)
        omega
      · rw [if_neg d]; exact ih ha' p q h1 (by omega)
theorem spr_le {L : List Nat} {k p q : Nat} (ha : asc L k) (h : p ≤ q) (hq : q < 2 ^ k) : spr L k p ≤ spr L k q := by
  rcases Nat.lt_or_ge p q with c | c
  · exact Nat.le_of_lt (spr_mono k ha p q c hq)
  · rw [show p = q by omega]; exact Nat.le_refl _
theorem spr_inj {L : List Nat} {k p q : Nat} (ha : asc L k) (hp : p < 2 ^ k) (hq : q < 2 ^ k) (h : spr L k p = spr L k q) : p = q := by
  rcases Nat.lt_trichotomy p q with c | c | c
  · have := spr_mono k ha p q c hq; omega
  · exact c
  · have := spr_mono k ha q p c hp; omega
theorem spr_sur {L : List Nat} : ∀ k, ∀ h : Nat, (∀ j, h.testBit j = true → ∃ i, i < k ∧ gl L i = j) → ∃ p, p < 2 ^ k ∧ spr L k p = h := by
  intro k
  induction k with
  | zero =>
    intro h hh
    refine ⟨0, by rw [Nat.pow_zero]; omega, ?_⟩
    rw [spr]
    apply Nat.eq_of_testBit_eq
    intro j
    rw [Nat.zero_testBit]
    cases e : h.testBit j with
    | false => rfl
    | true => obtain ⟨i, hi, _⟩ := hh j e; omega
  | succ k ih =>
    intro h hh
    by_cases c : h.testBit (gl L k) = true
    · have hd : ∀ j, (dif h (2 ^ gl L k)).testBit j = true → ∃ i, i < k ∧ gl L i = j := fun j hj => by
        rw [dif_tb, Bool.and_eq_true, Nat.testBit_two_pow] at hj
        obtain ⟨i, hi, ei⟩ := hh j hj.1
        have : i ≠ k := fun q => by
          have h2 := hj.2
          rw [← ei, q, decide_eq_true rfl] at h2
          exact absurd h2 (by decide)
        exact ⟨i, by omega, ei⟩
      obtain ⟨p, hp, e⟩ := ih _ hd
      refine ⟨p + 2 ^ k, by rw [Nat.pow_succ]; omega, ?_⟩
      rw [spr, if_pos (by omega), Nat.add_sub_cancel, e]
      apply Nat.eq_of_testBit_eq
      intro j
      rw [Nat.testBit_or, dif_tb, Nat.testBit_two_pow]
      by_cases g : gl L k = j
      · rw [← g, c, decide_eq_true rfl]; rfl
      · rw [decide_eq_false g]; cases h.testBit j <;> rfl
    · obtain ⟨p, hp, e⟩ := ih h (fun j hj => by
        obtain ⟨i, hi, ei⟩ := hh j hj
        have : i ≠ k := fun q => c (by rw [← q, ei]; exact hj)
        exact ⟨i, by omega, ei⟩)
      refine ⟨p, by rw [Nat.pow_succ]; omega, ?_⟩
      rw [spr, if_neg (by omega)]
      exact e
theorem spr_sub {L : List Nat} {k p q : Nat} (ha : asc L k) (hp : p < 2 ^ k) (hq : q < 2 ^ k) : sub p q ↔ sub (spr L k p) (spr L k q) := by
  rw [sub_tb, sub_tb]
  constructor
  · intro h j hj
    obtain ⟨i, h1, h2, h3⟩ := (spr_tb k p hp j).mp hj
    exact (spr_tb k q hq j).mpr ⟨i, h1, h2, h i h3⟩
  · intro h i hi
    have hk := tb_lt hp hi
    obtain ⟨i', h1, h2, h3⟩ := (spr_tb k q hq _).mp (h _ ((spr_tb k p hp _).mpr ⟨i, hk, rfl, hi⟩))
    rw [← ha.in h1 hk h2]
    exact h3
theorem spr_bit {L : List Nat} {k p i : Nat} (ha : asc L k) (hp : p < 2 ^ k) (hi : i < k) : (spr L k p).testBit (gl L i) = p.testBit i := by
  rw [Bool.eq_iff_iff, spr_tb k p hp]
  constructor
  · rintro ⟨j, h1, h2, h3⟩
    rw [← ha.in h1 hi h2]; exact h3
  · intro h; exact ⟨i, hi, rfl, h⟩
theorem spr_dif {L : List Nat} {k p q : Nat} (ha : asc L k) (hp : p < 2 ^ k) (hq : q < 2 ^ k) : spr L k (dif p q) = dif (spr L k p) (spr L k q) := by
  have hd : dif p q < 2 ^ k := Nat.lt_of_le_of_lt (sub_le (sub_dif p q)) hp
  apply Nat.eq_of_testBit_eq
  intro j
  rw [dif_tb, Bool.eq_iff_iff, spr_tb k _ hd, Bool.and_eq_true]
  constructor
  · rintro ⟨i, h1, h2, h3⟩
    rw [dif_tb, Bool.and_eq_true] at h3
    subst h2
    rw [spr_bit ha hp h1, spr_bit ha hq h1]
    exact h3
  · rintro ⟨h1, h2⟩
    obtain ⟨i, h3, h4, h5⟩ := (spr_tb k p hp j).mp h1
    subst h4
    refine ⟨i, h3, rfl, ?_⟩
    rw [dif_tb, Bool.and_eq_true]
    rw [spr_bit ha hq h3] at h2
    exact ⟨h5, h2⟩
theorem spr_or {L : List Nat} {k p q : Nat} (hp : p < 2 ^ k) (hq : q < 2 ^ k) : spr L k (p ||| q) = spr L k p ||| spr L k q := by
  apply Nat.eq_of_testBit_eq
  intro j
  rw [Nat.testBit_or, Bool.eq_iff_iff, spr_tb k _ (Nat.or_lt_two_pow hp hq), Bool.or_eq_true, spr_tb k p hp, spr_tb k q hq]
  constructor
  · rintro ⟨i, h1, h2, h3⟩
    rw [Nat.testBit_or, Bool.or_eq_true] at h3
    rcases h3 with h3 | h3
    · exact Or.inl ⟨i, h1, h2, h3⟩
    · exact Or.inr ⟨i, h1, h2, h3⟩
  · rintro (⟨i, h1, h2, h3⟩ | ⟨i, h1, h2, h3⟩)
    · exact ⟨i, h1, h2, by rw [Nat.testBit_or, h3]; rfl⟩
    · exact ⟨i, h1, h2, by rw [Nat.testBit_or, h3, Bool.or_true]⟩
theorem low_mn : ∀ n : Nat, n < 1024 → ∀ j : Nat, j < 10 → n.testBit j = true → lowN n ≤ j := by decide +kernel
theorem spr_low {L : List Nat} {k w : Nat} (ha : asc L k) (h8 : k ≤ 8) (hL : ∀ i, i < k → gl L i < 10) (h0 : 0 < w) (hw : w < 2 ^ k) : lowN (spr L k w) = gl L (lowN w) := by
  have h256 : 2 ^ k ≤ 256 := Nat.pow_le_pow_right (n := 2) (by decide) h8
  obtain ⟨s1, s2⟩ := spr_ok k hL w hw
  have t1 := low_tb' (show w < 1024 by omega) h0
  have k1 := tb_lt hw t1
  have g1 := hL _ k1
  have a1 := low_mn _ s1 _ g1 (by rw [spr_bit ha hw k1]; exact t1)
  obtain ⟨i, h1, h2, h3⟩ := (spr_tb k w hw _).mp (low_tb' s1 (s2 h0))
  have a2 := low_mn w (by omega) i (by omega) h3
  rcases Nat.lt_or_ge (lowN w) i with q | q
  · have := ha _ _ q h1; omega
  · rw [← h2, show i = lowN w by omega]
theorem dif_sb : ∀ w : Nat, w < 256 → ∀ a : Nat, a < 256 → a &&& w = a → w - a = w ^^^ (w &&& a) := by decide +kernel
theorem dif_s {w a : Nat} (hw : w < 256) (h : sub a w) : w - a = dif w a := dif_sb w hw a (Nat.lt_of_le_of_lt (sub_le h) hw) h
theorem bst.uq {V : Nat → Prop} {f c : Nat → Int32} {x y : X3} (h : bst V f c x) (h2 : bst V f c y) : x = y := by
  obtain ⟨g, v, e, m⟩ := h
  obtain ⟨g', v', e', m'⟩ := h2
  have a1 := m g' v'
  have a2 := m' g v
  simp only [Int32.lt_iff_toInt_lt, ← Int32.toInt_inj] at a1 a2
  have : g = g' := by omega
  subst this
  rw [e, e']
theorem bst.tr {V V' : Nat → Prop} {f f' c c' : Nat → Int32} {u : Nat → Nat} {x : X3} (h : bst V' f' c' x) (hv : ∀ g, V' g → V (u g)) (hs : ∀ h, V h → ∃ g, V' g ∧ u g = h) (hf : ∀ g, V' g → f' g = f (u g) ∧ c' g = c (u g)) (hm : ∀ g g', V' g → V' g' → g ≤ g' → u g ≤ u g') : ∃ g, V' g ∧ x = (f' g, c' g, nI g) ∧ bst V f c (f (u g), c (u g), nI (u g)) := by
  obtain ⟨g, v, e, m⟩ := h
  refine ⟨g, v, e, u g, hv g v, rfl, fun h hh => ?_⟩
  obtain ⟨g', v', e'⟩ := hs h hh
  subst e'
  obtain ⟨f1, c1⟩ := hf g v
  obtain ⟨f2, c2⟩ := hf g' v'
  rw [← f1, ← c1, ← f2, ← c2]
  rcases m g' v' with a | ⟨a, b | ⟨b, d⟩⟩
  · exact Or.inl a
  · exact Or.inr ⟨a, Or.inl b⟩
  · exact Or.inr ⟨a, Or.inr ⟨b, hm g g' v v' d⟩⟩
theorem lp_bs {T B C : Nat → Int32} {p : Nat} (nn : ∀ g, Vv T p g → 0 ≤ T g + B (dif p g)) : ∀ (m k : Nat) (x : X3), ((x.1 = -1 ∧ ∀ h, Vv T p h → k ≤ h) ∨ bst (fun g => Vv T p g ∧ g < k) (fun g => T g + B (dif p g)) (fun g => 1 + C (dif p g)) x) → (((lpF T B C p m k x).1 = -1 ∧ ∀ h, Vv T p h → k + m ≤ h) ∨ bst (fun g => Vv T p g ∧ g < k + m) (fun g => T g + B (dif p g)) (fun g => 1 + C (dif p g)) (lpF T B C p m k x)) := by
  intro m
  induction m with
  | zero => intro k x h; rw [lpF, Nat.add_zero]; exact h
  | succ m ih =>
    intro k x h
    rw [lpF, show k + (m + 1) = k + 1 + m by omega]
    refine ih (k + 1) _ ?_
    unfold lpS
    by_cases v : Vv T p k
    · rw [if_pos (show k &&& p = k ∧ k.testBit (lowN p) = true ∧ 0 ≤ T k from v)]
      rcases h with ⟨h1, h2⟩ | ⟨g, ⟨v1, v2⟩, e, hm⟩
      · rw [if_pos (Or.inl (by rw [h1]; decide))]
        refine Or.inr ⟨k, ⟨v, by omega⟩, rfl, fun h ⟨q1, q2⟩ => ?_⟩
        have : h = k := by have := h2 h q1; omega
        subst this
        exact Or.inr ⟨rfl, Or.inr ⟨rfl, Nat.le_refl _⟩⟩
      · right
        have n0 := nn g v1
        subst e
        dsimp only at hm ⊢
        by_cases cc : T k + B (dif p k) < T g + B (dif p g) ∨ (T k + B (dif p k) = T g + B (dif p g) ∧ 1 + C (dif p k) < 1 + C (dif p g))
        · rw [if_pos (Or.inr cc)]
          refine ⟨k, ⟨v, by omega⟩, rfl, fun h ⟨q1, q2⟩ => ?_⟩
          by_cases q : h = k
          · subst q; exact Or.inr ⟨rfl, Or.inr ⟨rfl, Nat.le_refl _⟩⟩
          · have := hm h ⟨q1, by omega⟩
            simp only [Int32.lt_iff_toInt_lt, ← Int32.toInt_inj] at this cc ⊢
            omega
        · rw [if_neg (fun q => by
            rcases q with q | q
            · exact absurd q (Int32.not_lt.mpr n0)
            · exact cc q)]
          refine ⟨g, ⟨v1, by omega⟩, rfl, fun h ⟨q1, q2⟩ => ?_⟩
          by_cases q : h = k
          · subst q
            simp only [Int32.lt_iff_toInt_lt, ← Int32.toInt_inj] at cc ⊢
            omega
          · exact hm h ⟨q1, by omega⟩
    · rw [if_neg (show ¬ (k &&& p = k ∧ k.testBit (lowN p) = true ∧ 0 ≤ T k) from v)]
      have nk : ∀ h, Vv T p h → h ≠ k := fun h q e => v (by rw [← e]; exact q)
      rcases h with ⟨h1, h2⟩ | ⟨g, ⟨v1, v2⟩, e, hm⟩
      · refine Or.inl ⟨h1, fun h q => ?_⟩
        have := h2 h q
        have := nk h q
        omega
      · exact Or.inr ⟨g, ⟨v1, by omega⟩, e, fun h ⟨q1, q2⟩ => hm h ⟨q1, by have := nk h q1; omega⟩⟩
theorem dpX_bs {T : Nat → Int32} {u : T3} {p : Nat} (hp : p < 1024) (h0 : 0 < p) (h1 : 0 ≤ T (2 ^ lowN p)) (nn : ∀ g, Vv T p g → 0 ≤ T g + u.1 (dif p g)) : bst (Vv T p) (fun g => T g + u.1 (dif p g)) (fun g => 1 + u.2.1 (dif p g)) (dpX T u p) := by
  have hv : Vv T p (2 ^ lowN p) := ⟨sub_tb.mpr fun i hi => by
    rw [Nat.testBit_two_pow] at hi
    rw [← of_decide_eq_true hi]
    exact low_tb' hp h0, Nat.testBit_two_pow_self, h1⟩
  have gp : ∀ g, Vv T p g → 1 ≤ g := fun g v => by
    rcases Nat.eq_zero_or_pos g with q | q
    · have := v.2.1
      rw [q, Nat.zero_testBit] at this
      exact absurd this (by decide)
    · exact q
  rcases lp_bs (T := T) (B := u.1) (C := u.2.1) nn p 1 (-1, u.2.1 p, u.2.2 p) (Or.inl ⟨rfl, gp⟩) with ⟨_, q⟩ | ⟨g, ⟨v1, v2⟩, e, hm⟩
  · have a := q _ hv
    have b := sub_le hv.1
    omega
  · exact ⟨g, v1, e, fun h q => hm h ⟨q, by have := sub_le q.1; omega⟩⟩
/-- the class's subsets one by one -/
def enL (ot : Nat) : Nat → Nat → List Nat
  | 0, _ => []
  | k + 1, s => s :: enL ot k ((s + 4294967296 - ot) &&& ot)
def flL (ot : Nat) : Nat → Nat → List Nat
  | 0, _ => []
  | k + 1, t => if t &&& ot = t then t :: flL ot k (t + 1) else flL ot k (t + 1)
theorem en_fl : ∀ ot : Nat, ot < 256 → enL ot (2 ^ popN ot) 0 = flL ot 256 0 := by decide +kernel
def gfF (T B C : Nat → Int32) (w lo ot : Nat) : Nat → Nat → X3 → X3
  | 0, _, x => x
  | k + 1, t, x => gfF T B C w lo ot k (t + 1) (if t &&& ot = t then ffS T B C w (lo ||| t) x else x)
theorem ff_en {T B C : Nat → Int32} {w lo ot : Nat} : ∀ (k s : Nat) (x : X3), ffF T B C w lo ot k s x = (enL ot k s).foldl (fun x s => ffS T B C w (lo ||| s) x) x := by
  intro k
  induction k with
  | zero => intro s x; rfl
  | succ k ih => intro s x; rw [ffF, ih, enL, List.foldl_cons]
theorem gf_fl {T B C : Nat → Int32} {w lo ot : Nat} : ∀ (k t : Nat) (x : X3), gfF T B C w lo ot k t x = (flL ot k t).foldl (fun x s => ffS T B C w (lo ||| s) x) x := by
  intro k
  induction k with
  | zero => intro s x; rfl
  | succ k ih =>
    intro t x
    rw [gfF, ih, flL]
    by_cases c : t &&& ot = t
    · rw [if_pos c, if_pos c, List.foldl_cons]
    · rw [if_neg c, if_neg c]
theorem ffX_g {T B C : Nat → Int32} {w : Nat} (hw : w < 256) : ffX T B C w = gfF T B C w (2 ^ lowN w) (w - 2 ^ lowN w) 256 0 (B w, C w, 0) := by
  unfold ffX
  rw [ff_en, en_fl _ (Nat.lt_of_le_of_lt (Nat.sub_le _ _) hw), gf_fl]
theorem nI_n0 {g : Nat} (h : 0 < g) (h2 : g < 2 ^ 31) : ¬ nI g = 0 := fun e => by
  have := (nI_eq (b := 0) h2 (by decide)).mp e
  omega
theorem gf_bs {T B C : Nat → Int32} {w : Nat} (hw : w < 256) (h0 : 0 < w) : ∀ (m k : Nat) (x : X3), k + m ≤ 256 → ((x.2.2 = 0 ∧ ∀ h, Vc T w h → 2 ^ lowN w + k ≤ h) ∨ bst (fun g => Vc T w g ∧ g < 2 ^ lowN w + k) (fun g => T g + B (w - g)) (fun g => C (w - g) + 1) x) → (((gfF T B C w (2 ^ lowN w) (w - 2 ^ lowN w) m k x).2.2 = 0 ∧ ∀ h, Vc T w h → 2 ^ lowN w + (k + m) ≤ h) ∨ bst (fun g => Vc T w g ∧ g < 2 ^ lowN w + (k + m)) (fun g => T g + B (w - g)) (fun g => C (w - g) + 1) (gfF T B C w (2 ^ lowN w) (w - 2 ^ lowN w) m k x)) := by
  have hl := low_tb' (show w < 1024 by omega) h0
  have hlw : sub (2 ^ lowN w) w := sub_tb.mpr fun i hi => by
    rw [Nat.testBit_two_pow] at hi
    rw [← of_decide_eq_true hi]
    exact hl
  have e_ot := dif_s hw hlw
  have l8 := low_le hw h0
  have lp : 0 < 2 ^ lowN w := Nat.two_pow_pos _
  -- a group and what it holds beside the lowest
  have back : ∀ h, sub h w → h.testBit (lowN w) = true → 2 ^ lowN w ≤ h ∧ (h - 2 ^ lowN w) &&& (w - 2 ^ lowN w) = h - 2 ^ lowN w := fun h q1 q2 => by
    have hh : h < 256 := Nat.lt_of_le_of_lt (sub_le q1) hw
    have s2 : sub (2 ^ lowN w) h := sub_tb.mpr fun i hi => by
      rw [Nat.testBit_two_pow] at hi
      rw [← of_decide_eq_true hi]
      exact q2
    refine ⟨sub_le s2, ?_⟩
    rw [e_ot, dif_s hh s2]
    exact sub_tb.mpr fun i hi => by
      rw [dif_tb, Bool.and_eq_true] at hi ⊢
      exact ⟨sub_tb.mp q1 i hi.1, hi.2⟩
  have forth : ∀ t, t &&& (w - 2 ^ lowN w) = t → 2 ^ lowN w ||| t = 2 ^ lowN w + t ∧ sub (2 ^ lowN w ||| t) w ∧ (2 ^ lowN w ||| t).testBit (lowN w) = true := fun t ht => by
    rw [e_ot] at ht
    have ht9 : sub t (dif w (2 ^ lowN w)) := ht
    have b1 : sub (2 ^ lowN w ||| t) w := sub_tb.mpr fun i hi => by
      rw [Nat.testBit_or, Bool.or_eq_true] at hi
      rcases hi with hi | hi
      · exact sub_tb.mp hlw i hi
      · exact sub_tb.mp (sub_dif _ _) i (sub_tb.mp ht9 i hi)
    have b2 : (2 ^ lowN w ||| t).testBit (lowN w) = true := by rw [Nat.testBit_or, Nat.testBit_two_pow_self, Bool.true_or]
    have hh : 2 ^ lowN w ||| t < 256 := Nat.lt_of_le_of_lt (sub_le b1) hw
    have s2 : sub (2 ^ lowN w) (2 ^ lowN w ||| t) := sub_tb.mpr fun i hi => by rw [Nat.testBit_or, hi]; rfl
    have e3 : (2 ^ lowN w ||| t) - 2 ^ lowN w = t := by
      rw [dif_s hh s2]
      apply Nat.eq_of_testBit_eq
      intro i
      rw [dif_tb, Nat.testBit_or]
      cases e : (2 ^ lowN w).testBit i with
      | false => cases t.testBit i <;> rfl
      | true =>
        cases e2 : t.testBit i with
        | false => rfl
        | true =>
          have := sub_tb.mp ht9 i e2
          rw [dif_tb, e, Bool.and_eq_true] at this
          exact absurd this.2 (by decide)
    have := sub_le s2
    exact ⟨by omega, b1, b2⟩
  intro m
  induction m with
  | zero => intro k x _ h; rw [gfF, Nat.add_zero]; exact h
  | succ m ih =>
    intro k x hk h
    rw [gfF, show k + (m + 1) = k + 1 + m by omega]
    refine ih (k + 1) _ (by omega) ?_
    by_cases c : k &&& (w - 2 ^ lowN w) = k
    · rw [if_pos c]
      obtain ⟨f1, f2, f3⟩ := forth k c
      unfold ffS
      rw [f1] at f2 f3 ⊢
      have g256 : 2 ^ lowN w + k < 256 := Nat.lt_of_le_of_lt (sub_le f2) hw
      by_cases c2 : T (2 ^ lowN w + k) = -1
      · rw [if_pos c2]
        have nk : ∀ h, Vc T w h → h ≠ 2 ^ lowN w + k := fun h q e => q.2.2 (by rw [e]; exact c2)
        rcases h with ⟨h1, h2⟩ | ⟨g, ⟨v1, v2⟩, e, hm⟩
        · refine Or.inl ⟨h1, fun h q => ?_⟩
          have := h2 h q
          have := nk h q
          omega
        · exact Or.inr ⟨g, ⟨v1, by omega⟩, e, fun h ⟨q1, q2⟩ => hm h ⟨q1, by have := nk h q1; omega⟩⟩
      · rw [if_neg c2]
        have v : Vc T w (2 ^ lowN w + k) := ⟨f2, f3, c2⟩
        right
        rcases h with ⟨h1, h2⟩ | ⟨g, ⟨v1, v2⟩, e, hm⟩
        · rw [if_pos (Or.inl h1)]
          refine ⟨2 ^ lowN w + k, ⟨v, by omega⟩, rfl, fun h ⟨q1, q2⟩ => ?_⟩
          have : h = 2 ^ lowN w + k := by have := h2 h q1; omega
          subst this
          exact Or.inr ⟨rfl, Or.inr ⟨rfl, Nat.le_refl _⟩⟩
        · have gpos := (back g v1.1 v1.2.1).1
          subst e
          dsimp only at hm ⊢
          by_cases cc : T (2 ^ lowN w + k) + B (w - (2 ^ lowN w + k)) < T g + B (w - g) ∨ (T (2 ^ lowN w + k) + B (w - (2 ^ lowN w + k)) = T g + B (w - g) ∧ C (w - (2 ^ lowN w + k)) + 1 < C (w - g) + 1)
          · rw [if_pos (Or.inr cc)]
            refine ⟨2 ^ lowN w + k, ⟨v, by omega⟩, rfl, fun h ⟨q1, q2⟩ => ?_⟩
            by_cases q : h = 2 ^ lowN w + k
            · subst q; exact Or.inr ⟨rfl, Or.inr ⟨rfl, Nat.le_refl _⟩⟩
            · have := hm h ⟨q1, by omega⟩
              simp only [Int32.lt_iff_toInt_lt, ← Int32.toInt_inj] at this cc ⊢
              omega
          · rw [if_neg (fun q => by
              rcases q with q | q
              · exact nI_n0 (by omega) (by omega) q
              · exact cc q)]
            refine ⟨g, ⟨v1, by omega⟩, rfl, fun h ⟨q1, q2⟩ => ?_⟩
            by_cases q : h = 2 ^ lowN w + k
            · subst q
              simp only [Int32.lt_iff_toInt_lt, ← Int32.toInt_inj] at cc ⊢
              omega
            · exact hm h ⟨q1, by omega⟩
    · rw [if_neg c]
      have nk : ∀ h, Vc T w h → h ≠ 2 ^ lowN w + k := fun h q e => by
        have b := (back h q.1 q.2.1).2
        rw [e, Nat.add_sub_cancel_left] at b
        exact c b
      rcases h with ⟨h1, h2⟩ | ⟨g, ⟨v1, v2⟩, e, hm⟩
      · refine Or.inl ⟨h1, fun h q => ?_⟩
        have := h2 h q
        have := nk h q
        omega
      · exact Or.inr ⟨g, ⟨v1, by omega⟩, e, fun h ⟨q1, q2⟩ => hm h ⟨q1, by have := nk h q1; omega⟩⟩
theorem ffX_bs {T B C : Nat → Int32} {w : Nat} (hw : w < 256) (h0 : 0 < w) (h1 : ¬ T (2 ^ lowN w) = -1) : bst (Vc T w) (fun g => T g + B (w - g)) (fun g => C (w - g) + 1) (ffX T B C w) := by
  have hl := low_tb' (show w < 1024 by omega) h0
  have hlw : sub (2 ^ lowN w) w := sub_tb.mpr fun i hi => by
    rw [Nat.testBit_two_pow] at hi
    rw [← of_decide_eq_true hi]
    exact hl
  have hv : Vc T w (2 ^ lowN w) := ⟨hlw, Nat.testBit_two_pow_self, h1⟩
  have lp : 0 < 2 ^ lowN w := Nat.two_pow_pos _
  have ge : ∀ h, Vc T w h → 2 ^ lowN w ≤ h := fun h q => sub_le (sub_tb.mpr fun i hi => by
    rw [Nat.testBit_two_pow] at hi
    rw [← of_decide_eq_true hi]
    exact q.2.1)
  rw [ffX_g hw]
  rcases gf_bs (B := B) (C := C) (T := T) hw h0 256 0 (B w, C w, 0) (by omega) (Or.inl ⟨rfl, fun h q => by have := ge h q; omega⟩) with ⟨_, q⟩ | ⟨g, ⟨v1, v2⟩, e, hm⟩
  · have a := q _ hv
    have b := sub_le hlw
    omega
  · exact ⟨g, v1, e, fun h q => hm h ⟨q, by have := sub_le q.1; omega⟩⟩

/-- places stand for members -/
def plc (n m : Nat) (L : List Nat) : Prop := n < 1024 ∧ m ≤ 8 ∧ asc L m ∧ (∀ i, i < m → gl L i < 10 ∧ n.testBit (gl L i) = true) ∧ ∀ j, n.testBit j = true → ∃ i, i < m ∧ gl L i = j
/-- totals as they are: -1, or not negative and not too great -/
def ttO (T : Nat → Int32) (n : Nat) : Prop := (∀ g, 0 < g → sub g n → T g = -1 ∨ bn (T g) (100000000 * popN g)) ∧ ∀ s, n.testBit s = true → 0 ≤ T (2 ^ s)
/-- the best divisions of a part and of what it stands for -/
def rlB (T T' : Nat → Int32) (n m : Nat) (L : List Nat) (t : T3) (v : Nat) : Prop := t.1 v = (dpZ T n).1 (spr L m v) ∧ t.2.1 v = (dpZ T n).2.1 (spr L m v) ∧ (∀ g, 0 < v → Vc T' v g → (dpZ T n).1 (spr L m v) ≤ T' g + (dpZ T n).1 (spr L m (v - g))) ∧ (0 < v → ∃ g, 0 < g ∧ sub g v ∧ g.testBit (lowN v) = true ∧ t.2.2 v = nI g ∧ ¬ T' g = -1 ∧ (dpZ T n).1 (spr L m v) = T' g + (dpZ T n).1 (spr L m (v - g)) ∧ (dpZ T n).2.1 (spr L m v) = 1 + (dpZ T n).2.1 (spr L m (v - g)) ∧ (dpZ T n).2.2 (spr L m v) = nI (spr L m g))
/-- groups, each with the lowest of what is left -/
def chP : Nat → List Nat → Prop
  | w, [] => w = 0
  | w, g :: l => 0 < w ∧ sub g w ∧ g.testBit (lowN w) = true ∧ chP (w - g) l
/-- the groups one by one -/
def chM (u : Nat → Nat) (F : Nat → Int32) : Nat → List Nat → Prop
  | p, [] => p = 0
  | p, g :: l => 0 < p ∧ F p = nI (u g) ∧ sub (u g) p ∧ chM u F (dif p (u g)) l
theorem plc_mem {n : Nat} (hn : n < 1024) (h8 : (memL n 10 0).length ≤ 8) : plc n (memL n 10 0).length (memL n 10 0) := by
  refine ⟨hn, h8, (mem_asc 10 0).2, fun i hi => ?_, fun j hj => ?_⟩
  · have := (mem_gl (g := n) 10 0 (gl (memL n 10 0) i)).mpr ⟨i, hi, rfl⟩
    exact ⟨by omega, this.2.2⟩
  · have j10 : j < 10 := tb_lt (show n < 2 ^ 10 from hn) hj
    exact (mem_gl (g := n) 10 0 j).mp ⟨Nat.zero_le _, by omega, hj⟩
theorem plc.p {n m : Nat} {L : List Nat} (h : plc n m L) : 2 ^ m ≤ 256 := Nat.pow_le_pow_right (n := 2) (by decide) h.2.1
theorem plc.ok {n m p : Nat} {L : List Nat} (h : plc n m L) (hp : p < 2 ^ m) : spr L m p < 1024 ∧ (0 < p → 0 < spr L m p) := spr_ok m (ns := 10) (fun i hi => (h.2.2.2.1 i hi).1) p hp
theorem plc.sb {n m p : Nat} {L : List Nat} (h : plc n m L) (hp : p < 2 ^ m) : sub (spr L m p) n := sub_tb.mpr fun j hj => by
  obtain ⟨i, h1, h2, _⟩ := (spr_tb m p hp j).mp hj
  rw [← h2]
  exact (h.2.2.2.1 i h1).2
theorem plc.fl {n m : Nat} {L : List Nat} (h : plc n m L) : spr L m (2 ^ m - 1) = n := by
  have hp : 2 ^ m - 1 < 2 ^ m := by have := Nat.two_pow_pos m; omega
  apply Nat.eq_of_testBit_eq
  intro j
  rw [Bool.eq_iff_iff]
  constructor
  · exact sub_tb.mp (h.sb hp) j
  · intro hj
    obtain ⟨i, h1, h2⟩ := h.2.2.2.2 j hj
    exact (spr_tb m _ hp j).mpr ⟨i, h1, h2, by rw [Nat.testBit_two_pow_sub_one, decide_eq_true h1]⟩
theorem plc.one {n m i : Nat} {L : List Nat} (h : plc n m L) (hi : i < m) : spr L m (2 ^ i) = 2 ^ gl L i := by
  have hp : 2 ^ i < 2 ^ m := Nat.pow_lt_pow_right (by decide) hi
  apply Nat.eq_of_testBit_eq
  intro j
  rw [Bool.eq_iff_iff, spr_tb m _ hp, Nat.testBit_two_pow, decide_eq_true_eq]
  constructor
  · rintro ⟨i', h1, h2, h3⟩
    rw [Nat.testBit_two_pow, decide_eq_true_eq] at h3
    rw [h3]; exact h2
  · intro e
    exact ⟨i, hi, e, Nat.testBit_two_pow_self⟩
theorem plc.su {n m h : Nat} {L : List Nat} (hl : plc n m L) (hs : sub h n) : ∃ p, p < 2 ^ m ∧ spr L m p = h := spr_sur m h (fun j hj => hl.2.2.2.2 j (sub_tb.mp hs j hj))
theorem pop_ad {p g : Nat} (h : sub g p) : ∀ k s a b, popFold p k s (a + b) = popFold g k s a + popFold (dif p g) k s b := by
  intro k
  induction k with
  | zero => intro s a b; rfl
  | succ k ih =>
    intro s a b
    rw [popFold, popFold, popFold, dif_tb]
    cases e1 : p.testBit s with
    | true =>
      cases e2 : g.testBit s with
      | true => rw [if_pos rfl, if_pos rfl, if_neg (by decide), show a + b + 1 = (a + 1) + b by omega, ih]
      | false => rw [if_pos rfl, if_neg (by decide), if_pos (by decide), show a + b + 1 = a + (b + 1) by omega, ih]
    | false =>
      cases e2 : g.testBit s with
      | true => exact absurd (sub_tb.mp h s e2) (by rw [e1]; decide)
      | false => rw [if_neg (by decide), if_neg (by decide), if_neg (by decide), ih]
theorem pop_sp {p g : Nat} (h : sub g p) : popN p = popN g + popN (dif p g) := by
  unfold popN
  exact pop_ad h 10 0 0 0
theorem bn.ge {x : Int32} {B : Nat} (h : bn x B) (hB : B < 2 ^ 31) : 0 ≤ x := by
  obtain ⟨k, hk, e⟩ := h
  rw [e]
  exact nI_pos' (by omega)
theorem ttO.v {T : Nat → Int32} {n g : Nat} (h : ttO T n) (h0 : 0 < g) (hs : sub g n) (hn : n < 1024) : (0 ≤ T g ∧ bn (T g) (100000000 * popN g)) ∨ T g = -1 := by
  rcases h.1 g h0 hs with e | e
  · exact Or.inr e
  · have := (pop_1 (Nat.lt_of_le_of_lt (sub_le hs) hn) h0).2
    exact Or.inl ⟨e.ge (by omega), e⟩
theorem n1_neg : ¬ (0 : Int32) ≤ -1 := by decide
theorem dp_bn {T : Nat → Int32} {n : Nat} {D : T3} (hn : n < 1024) (hT : ttO T n) (hQ : ∀ p, 0 < p → sub p n → dpQ T D p) (h0 : D.1 0 = 0) : ∀ B p, p < B → sub p n → bn (D.1 p) (100000000 * popN p) := by
  intro B
  induction B with
  | zero => intro p hp; omega
  | succ B ih =>
    intro p hp hs
    rcases Nat.eq_zero_or_pos p with c | c
    · rw [c, h0]; exact bn.z
    · obtain ⟨g, g0, g1, g2, g3, g4, _⟩ := hQ p c hs
      have p10 : p < 1024 := Nat.lt_of_le_of_lt (sub_le hs) hn
      have hd := dif_lt (low_tb' p10 c) g2
      have hb := ih (dif p g) (by omega) (sub_tr (sub_dif p g) hs)
      rcases hT.v g0 (sub_tr g1 hs) hn with ⟨_, e⟩ | e
      · rw [g4, pop_sp g1, Nat.mul_add]
        exact e.add hb
      · rw [e] at g3; exact absurd g3 n1_neg
theorem dp_st {T : Nat → Int32} {n : Nat} {t : T3} : ∀ k p, p ≤ k → (dpK T n t k).1 p = (dpK T n t p).1 p ∧ (dpK T n t k).2.1 p = (dpK T n t p).2.1 p ∧ (dpK T n t k).2.2 p = (dpK T n t p).2.2 p := by
  intro k
  induction k with
  | zero => intro p hp; rw [show p = 0 by omega]; exact ⟨rfl, rfl, rfl⟩
  | succ k ih =>
    intro p hp
    by_cases e : p = k + 1
    · rw [e]; exact ⟨rfl, rfl, rfl⟩
    · obtain ⟨a, b, c⟩ := ih p (by omega)
      have ek : dpK T n t (k + 1) = if (k + 1) &&& n = k + 1 then dpU T (dpK T n t k) (k + 1) else dpK T n t k := by rw [dpK]
      rw [ek]
      by_cases d : (k + 1) &&& n = k + 1
      · rw [if_pos d]
        unfold dpU upd
        dsimp only
        rw [if_neg e, if_neg e, if_neg e]
        exact ⟨a, b, c⟩
      · rw [if_neg d]; exact ⟨a, b, c⟩
theorem dp_at {T : Nat → Int32} {n p : Nat} {t : T3} (h0 : 0 < p) (hs : sub p n) : ((dpK T n t p).1 p, (dpK T n t p).2.1 p, (dpK T n t p).2.2 p) = dpX T (dpK T n t (p - 1)) p := by
  obtain ⟨k, rfl⟩ : ∃ k, p = k + 1 := ⟨p - 1, by omega⟩
  have ek : dpK T n t (k + 1) = dpU T (dpK T n t k) (k + 1) := by rw [dpK, if_pos (show (k + 1) &&& n = k + 1 from hs)]
  rw [ek, Nat.add_sub_cancel]
  unfold dpU upd
  dsimp only
  rw [if_pos rfl, if_pos rfl, if_pos rfl]
theorem bst.cg {V : Nat → Prop} {f f' c c' : Nat → Int32} {x : X3} (h : bst V f c x) (e : ∀ g, V g → f g = f' g ∧ c g = c' g) : bst V f' c' x := by
  obtain ⟨g, v, ex, m⟩ := h
  refine ⟨g, v, by rw [ex, (e g v).1, (e g v).2], fun h hh => ?_⟩
  rw [← (e g v).1, ← (e g v).2, ← (e h hh).1, ← (e h hh).2]
  exact m h hh
theorem dpZ_Q {T : Nat → Int32} {n : Nat} (hn : n < 1024) (hT : ttO T n) {p : Nat} (h0 : 0 < p) (hs : sub p n) : dpQ T (dpZ T n) p := dp_ok hn hT.2 _ n p (sub_le hs) h0 hs
theorem dpZ_0 {T : Nat → Int32} {n : Nat} : (dpZ T n).1 0 = 0 ∧ (dpZ T n).2.1 0 = 0 := dp_0 n
theorem dpZ_bs {T : Nat → Int32} {n p : Nat} (hn : n < 1024) (hT : ttO T n) (h0 : 0 < p) (hs : sub p n) : bst (Vv T p) (fun g => T g + (dpZ T n).1 (dif p g)) (fun g => 1 + (dpZ T n).2.1 (dif p g)) ((dpZ T n).1 p, (dpZ T n).2.1 p, (dpZ T n).2.2 p) := by
  have p10 : p < 1024 := Nat.lt_of_le_of_lt (sub_le hs) hn
  have hl := low_tb' p10 h0
  obtain ⟨a1, a2, a3⟩ := dp_st (T := T) (n := n) (t := (fun _ => 0, fun _ => 0, fun _ => 0)) n p (sub_le hs)
  have sd : ∀ g, Vv T p g → (dpK T n (fun _ => 0, fun _ => 0, fun _ => 0) (p - 1)).1 (dif p g) = (dpZ T n).1 (dif p g) ∧ (dpK T n (fun _ => 0, fun _ => 0, fun _ => 0) (p - 1)).2.1 (dif p g) = (dpZ T n).2.1 (dif p g) := fun g v => by
    have hd := dif_lt hl v.2.1
    obtain ⟨b1, b2, _⟩ := dp_st (T := T) (n := n) (t := (fun _ => 0, fun _ => 0, fun _ => 0)) n (dif p g) (by have := sub_le hs; omega)
    obtain ⟨c1, c2, _⟩ := dp_st (T := T) (n := n) (t := (fun _ => 0, fun _ => 0, fun _ => 0)) (p - 1) (dif p g) (by omega)
    exact ⟨c1.trans b1.symm, c2.trans b2.symm⟩
  have e : ((dpZ T n).1 p, (dpZ T n).2.1 p, (dpZ T n).2.2 p) = dpX T (dpK T n (fun _ => 0, fun _ => 0, fun _ => 0) (p - 1)) p := by
    rw [← dp_at h0 hs]
    unfold dpZ
    rw [a1, a2, a3]
  rw [e]
  refine (dpX_bs p10 h0 (hT.2 _ (sub_tb.mp hs _ hl)) (fun g v => ?_)).cg (fun g v => ⟨by rw [(sd g v).1], by rw [(sd g v).2]⟩)
  rw [(sd g v).1]
  have hb := dp_bn hn hT (fun q q0 qs => dpZ_Q hn hT q0 qs) dpZ_0.1 (dif p g + 1) (dif p g) (by omega) (sub_tr (sub_dif p g) hs)
  have g0 : 0 < g := by
    rcases Nat.eq_zero_or_pos g with q | q
    · have := v.2.1
      rw [q, Nat.zero_testBit] at this
      exact absurd this (by decide)
    · exact q
  rcases hT.v g0 (sub_tr v.1 hs) hn with ⟨_, eb⟩ | eb
  · have hs9 := eb.add hb
    rw [← Nat.mul_add, ← pop_sp v.1] at hs9
    have := (pop_1 p10 h0).2
    exact hs9.ge (by omega)
  · have := v.2.2
    rw [eb] at this
    exact absurd this n1_neg
theorem fb_st {T T' : Nat → Int32} {n m w : Nat} {L : List Nat} {t : T3} (hl : plc n m L) (hT : ttO T n) (hE : ∀ p, 0 < p → p < 2 ^ m → T' p = T (spr L m p)) (h0 : 0 < w) (hw : w < 2 ^ m) (h : ∀ v, v < w → rlB T T' n m L t v) : rlB T T' n m L (fbS T' w t) w := by
  have h256 := hl.p
  have ha := hl.2.2.1
  have hn := hl.1
  have k1 := tb_lt hw (low_tb' (show w < 1024 by omega) h0)
  have ep : spr L m (2 ^ lowN w) = 2 ^ gl L (lowN w) := hl.one k1
  have g0 : ∀ g, g.testBit (lowN w) = true → 0 < g := fun g q => by
    rcases Nat.eq_zero_or_pos g with z | z
    · rw [z, Nat.zero_testBit] at q; exact absurd q (by decide)
    · exact z
  have low : ∀ g, g < 2 ^ m → (spr L m g).testBit (lowN (spr L m w)) = g.testBit (lowN w) := fun g hg => by
    rw [spr_low ha hl.2.1 (fun i hi => (hl.2.2.2.1 i hi).1) h0 hw, spr_bit ha hg k1]
  have sn := hl.sb hw
  have h1 : ¬ T' (2 ^ lowN w) = -1 := fun z => by
    rw [hE _ (Nat.two_pow_pos _) (Nat.pow_lt_pow_right (by decide) k1), ep] at z
    have := hT.2 _ (hl.2.2.2.1 _ k1).2
    rw [z] at this
    exact n1_neg this
  have neg : ∀ g, 0 < g → g < 2 ^ m → ¬ T' g = -1 → 0 ≤ T (spr L m g) := fun g q1 q2 q3 => by
    rw [hE g q1 q2] at q3
    rcases hT.v ((hl.ok q2).2 q1) (hl.sb q2) hn with ⟨q, _⟩ | q
    · exact q
    · exact absurd q q3
  have B := ffX_bs (B := t.1) (C := t.2.1) (T := T') (show w < 256 by omega) h0 h1
  have hg2 : ∀ g, Vc T' w g → g < 2 ^ m := fun g v => Nat.lt_of_le_of_lt (sub_le v.1) hw
  have D := dpZ_bs hn hT ((hl.ok hw).2 h0) sn
  obtain ⟨g, v, ex, b2⟩ := B.tr (V := Vv T (spr L m w)) (u := spr L m) (f := fun h => T h + (dpZ T n).1 (dif (spr L m w) h)) (c := fun h => 1 + (dpZ T n).2.1 (dif (spr L m w) h)) (fun g v => ⟨(spr_sub ha (hg2 g v) hw).mp v.1, by rw [low g (hg2 g v)]; exact v.2.1, neg g (g0 g v.2.1) (hg2 g v) v.2.2⟩) (fun h v => by
    obtain ⟨g, q1, q2⟩ := hl.su (sub_tr v.1 sn)
    subst q2
    refine ⟨g, ⟨(spr_sub ha q1 hw).mpr v.1, by rw [← low g q1]; exact v.2.1, fun z => ?_⟩, rfl⟩
    have tb := v.2.1
    rw [low g q1] at tb
    have := v.2.2
    rw [← hE g (g0 g tb) q1, z] at this
    exact n1_neg this) (fun g v => by
    have q2 := hg2 g v
    have q0 := g0 g v.2.1
    have ed : w - g = dif w g := dif_s (by omega) v.1
    obtain ⟨r1, r2, _⟩ := h (w - g) (by have := sub_le v.1; omega)
    show T' g + t.1 (w - g) = T (spr L m g) + (dpZ T n).1 (dif (spr L m w) (spr L m g)) ∧ t.2.1 (w - g) + 1 = 1 + (dpZ T n).2.1 (dif (spr L m w) (spr L m g))
    rw [r1, r2, hE g q0 q2, ed, spr_dif ha hw q2]
    exact ⟨rfl, Int32.add_comm _ _⟩) (fun g g' v v' q => spr_le ha q (hg2 g' v'))
  have u := D.uq b2
  have u1 := congrArg (fun z : X3 => z.1) u
  have u2 := congrArg (fun z : X3 => z.2.1) u
  have u3 := congrArg (fun z : X3 => z.2.2) u
  dsimp only at u1 u2 u3
  have q2 := hg2 g v
  have q0 := g0 g v.2.1
  have ed : w - g = dif w g := dif_s (by omega) v.1
  obtain ⟨r1, r2, _⟩ := h (w - g) (by have := sub_le v.1; omega)
  have es : spr L m (w - g) = dif (spr L m w) (spr L m g) := by rw [ed, spr_dif ha hw q2]
  have x1 : (fbS T' w t).1 w = T' g + t.1 (w - g) := by unfold fbS; dsimp only; rw [va_up_self, ex]
  have x2 : (fbS T' w t).2.1 w = t.2.1 (w - g) + 1 := by unfold fbS; dsimp only; rw [va_up_self, ex]
  have x3 : (fbS T' w t).2.2 w = nI g := by unfold fbS; dsimp only; rw [va_up_self, ex]
  refine ⟨?_, ?_, fun g9 _ v9 => ?_, fun _ => ⟨g, q0, v.1, v.2.1, x3, v.2.2, ?_, ?_, u3⟩⟩
  · rw [x1, u1, r1, es, hE g q0 q2]
  · rw [x2, u2, r2, es, Int32.add_comm]
  · have q9 := hg2 g9 v9
    have q8 := g0 g9 v9.2.1
    have ed9 : w - g9 = dif w g9 := dif_s (by omega) v9.1
    obtain ⟨g', _, e', m'⟩ := D
    have e1' := congrArg (fun z : X3 => z.1) e'
    dsimp only at e1'
    have mm := m' (spr L m g9) ⟨(spr_sub ha q9 hw).mp v9.1, by rw [low g9 q9]; exact v9.2.1, neg g9 q8 q9 v9.2.2⟩
    dsimp only at mm
    rw [e1', ed9, spr_dif ha hw q9, hE g9 q8 q9]
    rcases mm with mm | ⟨mm, _⟩
    · exact Int32.le_of_lt mm
    · rw [mm]; exact Int32.le_refl _
  · rw [u1, es, hE g q0 q2]
  · rw [u2, es]
theorem fb_al {T T' : Nat → Int32} {n m : Nat} {L : List Nat} (hl : plc n m L) (hT : ttO T n) (hE : ∀ p, 0 < p → p < 2 ^ m → T' p = T (spr L m p)) : ∀ (k w : Nat) (t : T3), 0 < w → w + k = 2 ^ m → (∀ v, v < w → rlB T T' n m L t v) → ∀ v, v < 2 ^ m → rlB T T' n m L (fbK T' k w t) v := by
  intro k
  induction k with
  | zero => intro w t _ hk h v hv; rw [fbK]; exact h v (by omega)
  | succ k ih =>
    intro w t h0 hk h v hv
    rw [fbK]
    refine ih (w + 1) _ (by omega) (by omega) (fun v hv => ?_) v hv
    by_cases e : v = w
    · subst e
      exact fb_st hl hT hE h0 (by omega) h
    · have hh := h v (by omega)
      unfold rlB at hh ⊢
      unfold fbS
      dsimp only
      rw [va_up_ne _ _ e, va_up_ne _ _ e, va_up_ne _ _ e]
      exact hh
theorem suL_x {T : Nat → Int32} : ∀ (l : List Nat) (x : Int32), suL T l x = x + suL T l 0 := by
  intro l
  induction l with
  | nil => intro x; rw [suL, suL, Int32.add_zero]
  | cons g l ih => intro x; rw [suL, ih, suL, ih (0 + T g), Int32.zero_add, Int32.add_assoc]
/-- the chain of groups -/
theorem br_ch {T T' : Nat → Int32} {n m : Nat} {L : List Nat} {R : T3} (hl : plc n m L) (hR : ∀ v, v < 2 ^ m → rlB T T' n m L R v) : ∀ (B v : Nat), v < B → v < 2 ^ m → ∃ G : List Nat, chn R.2.2 v G ∧ chM (spr L m) (dpZ T n).2.2 (spr L m v) G ∧ R.2.1 v = nI G.length ∧ G.length ≤ popN v ∧ (dpZ T n).1 (spr L m v) = suL T' G 0 ∧ (chP v G ∧ raL T' G = true) ∧ ∀ i, i < G.length → 0 < gl G i ∧ gl G i < 2 ^ m := by
  have h256 := hl.p
  intro B
  induction B with
  | zero => intro v hv; omega
  | succ B ih =>
    intro v hv hm
    obtain ⟨r1, r2, _, r3⟩ := hR v hm
    rcases Nat.eq_zero_or_pos v with c | c
    · subst c
      have e0 : spr L m 0 = 0 := by
        apply Nat.eq_of_testBit_eq
        intro j
        rw [Nat.zero_testBit, Bool.eq_iff_iff, spr_tb m 0 hm]
        exact ⟨fun ⟨i, _, _, h⟩ => by rw [Nat.zero_testBit] at h; exact h, fun h => absurd h (by decide)⟩
      refine ⟨[], trivial, e0, ?_, Nat.zero_le _, ?_, ⟨rfl, rfl⟩, fun i hi => absurd hi (Nat.not_lt_zero i)⟩
      · rw [r2, e0]; exact dpZ_0.2
      · rw [e0]; exact dpZ_0.1
    · obtain ⟨g, g0, g1, gb, g2, g3, g4, g5, g6⟩ := r3 c
      have gle := sub_le g1
      obtain ⟨G, c1, c2, c3', c4, c5, c7, c6⟩ := ih (v - g) (by omega) (by omega)
      have ed : v - g = dif v g := dif_s (by omega) g1
      have es : spr L m (v - g) = dif (spr L m v) (spr L m g) := by rw [ed, spr_dif hl.2.2.1 hm (by omega)]
      have hG8 : G.length < 1024 := by have := (pop_8 (show v - g < 256 by omega)); omega
      refine ⟨g :: G, ⟨by omega, g2, gle, c1⟩, ⟨(hl.ok hm).2 c, g6, (spr_sub hl.2.2.1 (by omega) hm).mp g1, by rw [← es]; exact c2⟩, ?_, ?_, ?_, ⟨⟨c, g1, gb, c7.1⟩, by rw [raL, if_neg g3]; exact c7.2⟩, fun i hi => ?_⟩
      · rw [r2, g5, ← (hR (v - g) (by omega)).2.1, c3', List.length_cons]
        exact (Int32.add_comm _ _).trans (nI_1 _)
      · have p1 := (pop_1 (show g < 1024 by omega) g0).1
        rw [List.length_cons, pop_sp g1, ← ed]
        omega
      · rw [g4, c5, suL, suL_x G (0 + T' g), Int32.zero_add]
      · cases i with
        | zero => exact ⟨g0, by show g < 2 ^ m; omega⟩
        | succ i => rw [gl_c]; exact c6 i (by rw [List.length_cons] at hi; omega)
theorem chM_g {u : Nat → Nat} {F : Nat → Int32} : ∀ (G : List Nat) (p i : Nat), p < 1024 → chM u F p G → i < G.length → F (gpL F i p) = nI (u (gl G i)) := by
  intro G
  induction G with
  | nil => intro p i _ _ hi; exact absurd hi (Nat.not_lt_zero i)
  | cons g G ih =>
    intro p i hp h hi
    obtain ⟨h0, h1, h2, h3⟩ := h
    have ule := sub_le h2
    cases i with
    | zero => exact h1
    | succ i =>
      rw [gl_c, gpL, h1, show iv (nI (u g)) = u g from nI_clamp (by omega)]
      exact ih _ i (Nat.lt_of_le_of_lt (sub_le (sub_dif _ _)) hp) h3 (by rw [List.length_cons] at hi; omega)
/-- the whole of it: what the class's tables say of a set that can be consolidated -/
theorem br_all {μ : Nat → Int32} {T' : Nat → Int32} {n m : Nat} {t0 : T3} (hw : WF μ) (hg : gok μ (nI n)) (hn : n < 1024) (hr : rfF μ n = none) (hm : m = (memL n 10 0).length) (h8 : m ≤ 8) (hE : ∀ p, 0 < p → p < 2 ^ m → T' p = ttF μ (spr (memL n 10 0) m p)) (h0 : t0.1 0 = 0 ∧ t0.2.1 0 = 0) : ttO (ttF μ) n ∧ plc n m (memL n 10 0) ∧ ∃ G : List Nat, G.length ≤ 8 ∧ (fbK T' (2 ^ m - 1) 1 t0).2.1 (2 ^ m - 1) = nI G.length ∧ chn (fbK T' (2 ^ m - 1) 1 t0).2.2 (2 ^ m - 1) G ∧ chM (spr (memL n 10 0) m) (dpZ (ttF μ) n).2.2 n G ∧ (dpZ (ttF μ) n).1 n = suL T' G 0 ∧ (dpZ (ttF μ) n).2.1 n = nI G.length ∧ (chP (2 ^ m - 1) G ∧ raL T' G = true ∧ ∀ v, v < 2 ^ m → ∀ g, 0 < v → Vc T' v g → (dpZ (ttF μ) n).1 (spr (memL n 10 0) m v) ≤ T' g + (dpZ (ttF μ) n).1 (spr (memL n 10 0) m (v - g))) ∧ ∀ i, i < G.length → 0 < gl G i ∧ gl G i < 2 ^ m := by
  subst hm
  have hl := plc_mem hn h8
  have n31 : n < 2 ^ 31 := by omega
  have hT : ttO (ttF μ) n := by
    refine ⟨fun g g0 gs => tt_bn hw ?_ (Nat.lt_of_le_of_lt (sub_le gs) hn), sgO_of hw hg hn hr⟩
    obtain ⟨n', ns, a1, a2, a3, a4, a5⟩ := hg
    have : n = n' := (nI_eq n31 (by have := p2_le a2; omega)).mp a5
    subst this
    exact ⟨g, ns, a1, a2, g0, Nat.lt_of_le_of_lt (sub_le gs) a4, rfl⟩
  have hp := Nat.two_pow_pos (memL n 10 0).length
  have h256 := hl.p
  have e0 : spr (memL n 10 0) (memL n 10 0).length 0 = 0 := by
    apply Nat.eq_of_testBit_eq
    intro j
    rw [Nat.zero_testBit, Bool.eq_iff_iff, spr_tb _ 0 hp]
    exact ⟨fun ⟨i, _, _, h⟩ => by rw [Nat.zero_testBit] at h; exact h, fun h => absurd h (by decide)⟩
  have hR := fb_al hl hT hE (2 ^ (memL n 10 0).length - 1) 1 t0 (by omega) (by omega) (fun v hv => by
    rw [show v = 0 by omega]
    refine ⟨?_, ?_, fun g z => absurd z (by omega), fun z => absurd z (by omega)⟩
    · rw [e0, h0.1]; exact dpZ_0.1.symm
    · rw [e0, h0.2]; exact dpZ_0.2.symm)
  obtain ⟨G, c1, c2, c3', c4, c5, c7, c6⟩ := br_ch hl hR _ (2 ^ (memL n 10 0).length - 1) (Nat.lt_succ_self _) (by omega)
  rw [hl.fl] at c2 c5
  have r2 := (hR (2 ^ (memL n 10 0).length - 1) (by omega)).2.1
  rw [hl.fl] at r2
  refine ⟨hT, hl, G, ?_, c3', c1, c2, c5, r2.symm.trans c3', ⟨c7.1, c7.2, fun v hv => (hR v hv).2.2.1⟩, c6⟩
  have := pop_8 (show 2 ^ (memL n 10 0).length - 1 < 256 by omega)
  omega

theorem FrS.pr {S : HS} {a : Nat → Nat} {mu : Nat → Nat → Int32} {g b : Nat → Int32} {sh : List Int32} (h : FrS S a mu g b sh) : prC S (fxM a) (a 0) (mu 0) (a 54) (a 57) (fun i => a (58 + i)) := by
  obtain ⟨_, _, r3, r4⟩ := h.1.2.2.2.1 0 (by omega)
  have q := h.1.2.2.2.2.2.2.1
  refine ⟨h.now.1, h.wfr, h.now.2, h.1.rt, h.1.pl, ⟨57, by omega, rfl⟩, ⟨58, by omega, rfl⟩, ⟨59, by omega, rfl⟩, fun i hi => ⟨fun z => ?_, fun z => ?_, fun z => ?_⟩⟩
  · exact h.1.ne (i := 3) (j := 58 + i) (by omega) (by omega) (by omega) (Option.some.inj (r3.symm.trans z))
  · exact h.1.ne (i := 4) (j := 58 + i) (by omega) (by omega) (by omega) (Option.some.inj (r4.symm.trans z))
  · exact h.1.ne (i := 56) (j := 58 + i) (by omega) (by omega) (by omega) (Option.some.inj (q.2.symm.trans z))
/-- the rater through a preparing of its plan -/
theorem FrS.fq {S S1 : HS} {a : Nat → Nat} {mu : Nat → Nat → Int32} {g b : Nat → Int32} {sh : List Int32} (h : FrS S a mu g b sh) (he : ext S S1) (hf : frQ S S1 (a 57) (a 54) (fun i => a (58 + i))) (h58 : hA S1 (a 58) 0 = 0) : FrS S1 a mu g b sh := by
  have q := h.1.2.2.2.2.2.2.1
  have sm9 : ∀ i, i < 64 → i ≠ 57 → i ≠ 58 → i ≠ 59 → i ≠ 54 → i ≠ 55 → i ≠ 56 → sam S S1 (a i) := fun i hi h1 h2 h3 h4 h5 h6 => hf.2.2.2 (a i) (h.1.ne hi (by omega) h1) (h.1.ne (j := 58) hi (by omega) h2) (h.1.ne (j := 59) hi (by omega) h3) (h.1.ne hi (by omega) h4) (fun z => h.1.ne (j := 55) hi (by omega) h5 (Option.some.inj (z.symm.trans q.1))) (fun z => h.1.ne (j := 56) hi (by omega) h6 (Option.some.inj (z.symm.trans q.2)))
  refine h.sc (N := fun c => c = a 57 ∨ c = a 58 ∨ c = a 59 ∨ c = a 54 ∨ c = a 55 ∨ c = a 56) he (fun c hc _ => hf.2.2.2 c (fun z => hc (Or.inl z)) (fun z => hc (Or.inr (Or.inl z))) (fun z => hc (Or.inr (Or.inr (Or.inl z)))) (fun z => hc (Or.inr (Or.inr (Or.inr (Or.inl z))))) (fun z => hc (Or.inr (Or.inr (Or.inr (Or.inr (Or.inl (Option.some.inj (z.symm.trans q.1)))))))) (fun z => hc (Or.inr (Or.inr (Or.inr (Or.inr (Or.inr (Option.some.inj (z.symm.trans q.2))))))))) (fun c _ hc => ?_) (fun i _ _ j => by rw [hf.2.2.1]) ⟨h58, ?_, ?_⟩
  · rcases hc with e | e | e | e | e | e
    · exact ⟨57, by omega, by omega, e⟩
    · exact ⟨58, by omega, by omega, e⟩
    · exact ⟨59, by omega, by omega, e⟩
    · exact ⟨54, by omega, by omega, e⟩
    · exact ⟨55, by omega, by omega, e⟩
    · exact ⟨56, by omega, by omega, e⟩
  · rw [(sm9 60 (by omega) (by omega) (by omega) (by omega) (by omega) (by omega) (by omega)).2.2.2.2.1]
    exact h.1.2.2.2.2.2.2.2.2.2.1
  · rw [(sm9 61 (by omega) (by omega) (by omega) (by omega) (by omega) (by omega) (by omega)).2.2.2.2.1]
    exact h.1.2.2.2.2.2.2.2.2.2.2
/-- the rater through a work of its plan -/
theorem FrS.fp {S S1 : HS} {a : Nat → Nat} {mu : Nat → Nat → Int32} {g b : Nat → Int32} {sh : List Int32} {I J : List Nat} (h : FrS S a mu g b sh) (he : ext S S1) (hf : frP S S1 (a 57) (fun i => a (58 + i)) I J) (hJ : ∀ j, j ∈ J → j < 6) (h58 : z58 S1 a) : FrS S1 a mu g b sh := by
  refine h.sc (N := fun c => c = a 57 ∨ ∃ j, j ∈ J ∧ c = a (58 + j)) he (hf.M (Or.inl rfl) (fun j hj => Or.inr ⟨j, hj, rfl⟩)) (fun c _ hc => ?_) (fun i _ _ j => by rw [hf.2.2.1]) h58
  rcases hc with e | ⟨j, hj, e⟩
  · exact ⟨57, by omega, by omega, e⟩
  · exact ⟨58 + j, by omega, by have := hJ j hj; omega, e⟩
theorem FrS.fp5 {S S1 : HS} {a : Nat → Nat} {mu : Nat → Nat → Int32} {g b : Nat → Int32} {sh : List Int32} {I : List Nat} (h : FrS S a mu g b sh) (he : ext S S1) (hf : frP S S1 (a 57) (fun i => a (58 + i)) I [5]) : FrS S1 a mu g b sh := by
  refine h.fp he hf (fun j hj => by simp only [List.mem_cons, List.not_mem_nil, or_false] at hj; omega) (h.1.z8 (fun i h1 h2 => ?_))
  rw [hf.2.2.2.2.2 (a i) (fun j hj => by
    simp only [List.mem_cons, List.not_mem_nil, or_false] at hj
    subst hj
    exact h.1.ne (by omega) (by omega) (by omega))]
theorem spr_z {L : List Nat} {m : Nat} : spr L m 0 = 0 := by
  have hp := Nat.two_pow_pos m
  apply Nat.eq_of_testBit_eq
  intro j
  rw [Nat.zero_testBit, Bool.eq_iff_iff, spr_tb _ 0 hp]
  exact ⟨fun ⟨i, _, _, h⟩ => by rw [Nat.zero_testBit] at h; exact h, fun h => absurd h (by decide)⟩
theorem con_3 {μ : Nat → Int32} {g : Int32} {m t : Nat} (h : lckF μ g m = 0) (hr : rfF μ (iv g) = some t) : conC μ g m = 3 := by unfold conC; rw [if_pos h, hr]
theorem con_0 {μ : Nat → Int32} {g : Int32} {m : Nat} (h : lckF μ g m = 0) (hr : rfF μ (iv g) = none) : conC μ g m = 0 := by unfold conC; rw [if_pos h, hr]
theorem con_l {μ : Nat → Int32} {g : Int32} {m : Nat} (h : ¬ lckF μ g m = 0) : conC μ g m = lckF μ g m := by unfold conC; rw [if_neg h]
/-- a set that can be consolidated -/
theorem lck_n {μ : Nat → Int32} {g : Int32} {m : Nat} (hw : WF μ) (h : lckF μ g m = 0) : ∃ n ns, μ 1 = nI ns ∧ ns ≤ 10 ∧ 0 < n ∧ n < 2 ^ ns ∧ n < 1024 ∧ g = nI n ∧ iv g = n ∧ (memL n 10 0).length ≤ m := by
  obtain ⟨n, ns, h1, h2, h3, h4, h5⟩ := lck_0 hw h
  have n10 : n < 1024 := Nat.lt_of_lt_of_le h4 (p2_le h2)
  have ei : iv g = n := by rw [h5]; exact nI_clamp (by omega)
  refine ⟨n, ns, h1, h2, h3, h4, n10, h5, ei, ?_⟩
  rw [mem_10 h4 h2, mem_pop h4 h2]
  unfold lckF at h
  by_cases c : grpF μ g = 0
  · rw [if_pos c] at h; exact absurd h (by decide)
  · rw [if_neg c, ei] at h
    by_cases d : m < popN n
    · rw [if_pos d] at h; exact absurd h (by decide)
    · omega
/-- what a prepared plan says -/
theorem FrS.bb {S1 : HS} {a : Nat → Nat} {mu : Nat → Nat → Int32} {g b : Nat → Int32} {sh : List Int32} {n ns : Nat} (h : FrS S1 a mu g b sh) (e1 : mu 0 1 = nI ns) (hns : ns ≤ 10) (h0 : 0 < n) (hn : n < 2 ^ ns) (hr : rfF (mu 0) n = none) (h8 : (memL n 10 0).length ≤ 8) (hE : ∀ p, 0 < p → p < 2 ^ (memL n 10 0).length → hA S1 (a 59) p = ttF (mu 0) (spr (memL n 10 0) (memL n 10 0).length p)) : ttO (ttF (mu 0)) n ∧ plc n (memL n 10 0).length (memL n 10 0) ∧ ∃ G : List Nat, G.length ≤ 8 ∧ (fbK (hA S1 (a 59)) (2 ^ (memL n 10 0).length - 1) 1 (roW S1 (fun i => a (58 + i)))).2.1 (2 ^ (memL n 10 0).length - 1) = nI G.length ∧ chn (fbK (hA S1 (a 59)) (2 ^ (memL n 10 0).length - 1) 1 (roW S1 (fun i => a (58 + i)))).2.2 (2 ^ (memL n 10 0).length - 1) G ∧ chM (spr (memL n 10 0) (memL n 10 0).length) (dpZ (ttF (mu 0)) n).2.2 n G ∧ (dpZ (ttF (mu 0)) n).1 n = suL (hA S1 (a 59)) G 0 ∧ (dpZ (ttF (mu 0)) n).2.1 n = nI G.length ∧ (chP (2 ^ (memL n 10 0).length - 1) G ∧ raL (hA S1 (a 59)) G = true ∧ ∀ v, v < 2 ^ (memL n 10 0).length → ∀ g, 0 < v → Vc (hA S1 (a 59)) v g → (dpZ (ttF (mu 0)) n).1 (spr (memL n 10 0) (memL n 10 0).length v) ≤ hA S1 (a 59) g + (dpZ (ttF (mu 0)) n).1 (spr (memL n 10 0) (memL n 10 0).length (v - g))) ∧ ∀ i, i < G.length → 0 < gl G i ∧ gl G i < 2 ^ (memL n 10 0).length :=
  br_all h.now.1 ⟨n, ns, e1, hns, h0, hn, rfl⟩ (Nat.lt_of_lt_of_le hn (p2_le hns)) hr rfl h8 hE ⟨h.1.2.2.2.2.2.2.2.2.2.1, h.1.2.2.2.2.2.2.2.2.2.2⟩
theorem kd_X10_consolidate (l : Launch) (hst : l.stackTraces = false) (D : va_G) (T : Nat → ClassId) (x0 : Nat) (p0 : Int32) (S : HS) (e0 : (Nat → Nat)) (e1 : (Nat → Nat → Int32)) (e2 : (Nat → Int32)) (e3 : (Nat → Int32)) (e4 : (List Int32)) (mc ms : Nat) (hx0 : hK S x0 = 11) (h : FrS S e0 e1 e2 e3 e4 ∧ x0 = e0 50 ∧ 200 ≤ mc ∧ 2000 ≤ ms) : CXi l yX10_consolidate (ws_X10_consolidate) rm_X10_consolidate D T [.ref x0, .int p0] S mc ms (fun v S1 => (conC (e1 0) p0 8 = 0 ∧ v = (dpZ (ttF (e1 0)) (iv p0)).1 (iv p0) ∧ FrS S1 e0 e1 e2 e3 e4)) (fun E9 S1 => ((conC (e1 0) p0 8 = 1 ∧ E9 = "java/lang/IndexOutOfBoundsException") ∨ (conC (e1 0) p0 8 = 2 ∧ E9 = "java/lang/IllegalArgumentException") ∨ (conC (e1 0) p0 8 = 3 ∧ E9 = "java/lang/IllegalStateException")) ∧ FrS S1 e0 e1 (if conC (e1 0) p0 8 = 3 then kpG e2 (rfR (e1 0) (iv p0)) (rfT (e1 0) (iv p0)) else e2) e3 e4) := c_X10_consolidate l hst D T x0 p0 S mc ms hx0 _ _ <|
  (by
    obtain ⟨h, e, hmc, hms⟩ := h
    unfold wp_X10_consolidate
    refine ⟨2, 12, ⟨by omega, by omega⟩, e0, e1, e2, e3, e4, ⟨h, e, Nat.le_refl _, Nat.le_refl _⟩, fun E9 S9 _ h9 => ?_, fun S10 _ h10 => ?_⟩
    · obtain ⟨c, eS⟩ := h9
      subst eS
      rcases c with ⟨c, eE⟩ | ⟨c, eE⟩
      · have cc : conC (e1 0) p0 8 = 1 := (con_l (by rw [c]; decide)).trans c
        refine ⟨Or.inl ⟨cc, eE⟩, ?_⟩
        rw [cc, if_neg (by decide)]; exact h
      · have cc : conC (e1 0) p0 8 = 2 := (con_l (by rw [c]; decide)).trans c
        refine ⟨Or.inr (Or.inl ⟨cc, eE⟩), ?_⟩
        rw [cc, if_neg (by decide)]; exact h
    obtain ⟨c, eS⟩ := h10
    subst eS e
    obtain ⟨n, ns, ens, hns, hn0, hn, hn1, eg, ei, h8⟩ := lck_n h.now.1 c
    refine ⟨1, 6, ⟨by omega, by omega⟩, e0, e1, e2, e3, e4, ⟨h, rfl, lck_0 h.now.1 c, Nat.le_refl _, Nat.le_refl _⟩, fun E9 S9 _ h9 => ?_, fun S27 _ h27 => ?_⟩
    · obtain ⟨eE, t, er, h9⟩ := h9
      have cc := con_3 c er
      refine ⟨Or.inr (Or.inr ⟨cc, eE⟩), ?_⟩
      rw [if_neg (by decide)] at h9
      rw [cc, if_pos rfl]
      unfold rfR rfT
      rw [er]
      exact h9
    obtain ⟨er, H27⟩ := h27
    refine ⟨e0 57, H27.r13, fun _ => ⟨e0 0, H27.r0, fun _ => ⟨e0 54, H27.r12, fun _ => ⟨fxM e0, e1 0, fun i => e0 (58 + i), n, ⟨H27.pr, by rw [ens, show iv (nI ns) = ns from nI_clamp (by omega)]; exact hn, eg, h8, H27.1.2.2.2.2.2.2.2.2.1⟩, fun S49 he49 h49 => ?_⟩⟩⟩⟩
    obtain ⟨f49, i40, i47, sets, tots⟩ := h49
    have H49 := H27.fq he49 f49 (by rw [sets 0 (Nat.two_pow_pos _), spr_z]; rfl)
    rw [ei] at er
    obtain ⟨tt, hl, G, g8, gC, gch, gM, gS, gD, gx, gg⟩ := H49.bb ens hns hn0 hn er h8 tots
    refine ⟨e0 57, H49.r13, fun _ => ⟨fun i => e0 (58 + i), (memL n 10 0).length, G, ⟨H49.1.pl, i40, h8, g8, gC, gch⟩, fun S63 he63 h63 => ?_⟩⟩
    obtain ⟨f63, P63, z2, z3⟩ := h63
    have k1 : hA S63 (e0 59) = hA S49 (e0 59) := f63.2.2.2.2.2 _ (fun j hj => by
      simp only [List.mem_cons, List.not_mem_nil, or_false] at hj
      exact H49.1.ne (by omega) (by omega) (by omega))
    have k0 : hA S63 (e0 58) = hA S49 (e0 58) := f63.2.2.2.2.2 _ (fun j hj => by
      simp only [List.mem_cons, List.not_mem_nil, or_false] at hj
      exact H49.1.ne (by omega) (by omega) (by omega))
    have H63 := H49.fp he63 f63 (fun j hj => by simp only [List.mem_cons, List.not_mem_nil, or_false] at hj; omega) ⟨by rw [k0]; exact H49.1.2.2.2.2.2.2.2.2.1, z2.trans H49.1.2.2.2.2.2.2.2.2.2.1, z3.trans H49.1.2.2.2.2.2.2.2.2.2.2⟩
    refine ⟨e0 57, H63.r13, fun _ => ⟨fun i => e0 (58 + i), G, ⟨H63.1.pl, P63⟩, con_0 c (by rw [ei]; exact er), ?_, H63⟩⟩
    rw [ei, gS]
    show suL (hA S63 (e0 59)) G 0 = _
    rw [k1])
theorem kd_X10_group (l : Launch) (hst : l.stackTraces = false) (D : va_G) (T : Nat → ClassId) (x0 : Nat) (p0 : Int32) (p1 : Int32) (S : HS) (e0 : (Nat → Nat)) (e1 : (Nat → Nat → Int32)) (e2 : (Nat → Int32)) (e3 : (Nat → Int32)) (e4 : (List Int32)) (mc ms : Nat) (hx0 : hK S x0 = 11) (h : FrS S e0 e1 e2 e3 e4 ∧ x0 = e0 50 ∧ 200 ≤ mc ∧ 2000 ≤ ms) : CXi l yX10_group (ws_X10_group) rm_X10_group D T [.ref x0, .int p0, .int p1] S mc ms (fun v S1 => (grC (e1 0) p0 p1 = 0 ∧ v = grA (e1 0) (iv p0) p1 ∧ FrS S1 e0 e1 e2 e3 e4)) (fun E9 S1 => ((grC (e1 0) p0 p1 = 1 ∧ E9 = "java/lang/IndexOutOfBoundsException") ∨ (grC (e1 0) p0 p1 = 2 ∧ E9 = "java/lang/IllegalArgumentException") ∨ (grC (e1 0) p0 p1 = 3 ∧ E9 = "java/lang/IllegalStateException") ∨ (grC (e1 0) p0 p1 = 4 ∧ E9 = "java/util/NoSuchElementException")) ∧ FrS S1 e0 e1 e2 e3 e4) := c_X10_group l hst D T x0 p0 p1 S mc ms hx0 _ _ <|
  (by
    obtain ⟨h, e, hmc, hms⟩ := h
    unfold wp_X10_group
    refine ⟨2, 12, ⟨by omega, by omega⟩, e0, e1, e2, e3, e4, ⟨h, e, Nat.le_refl _, Nat.le_refl _⟩, fun E9 S9 _ h9 => ?_, fun S10 _ h10 => ?_⟩
    · obtain ⟨c, eS⟩ := h9
      subst eS
      rcases c with ⟨c, eE⟩ | ⟨c, eE⟩
      · have cc : conC (e1 0) p0 8 = 1 := (con_l (by rw [c]; decide)).trans c
        exact ⟨Or.inl ⟨by unfold grC; rw [cc, if_neg (by decide)], eE⟩, h⟩
      · have cc : conC (e1 0) p0 8 = 2 := (con_l (by rw [c]; decide)).trans c
        exact ⟨Or.inr (Or.inl ⟨by unfold grC; rw [cc, if_neg (by decide)], eE⟩), h⟩
    obtain ⟨c, eS⟩ := h10
    subst eS e
    obtain ⟨n, ns, ens, hns, hn0, hn, hn1, eg, ei, h8⟩ := lck_n h.now.1 c
    refine ⟨1, 6, ⟨by omega, by omega⟩, e0, e1, e2, e3, e4, ⟨h, rfl, lck_0 h.now.1 c, Nat.le_refl _, Nat.le_refl _⟩, fun E9 S9 _ h9 => ?_, fun S27 _ h27 => ?_⟩
    · obtain ⟨eE, t, er, h9⟩ := h9
      have cc := con_3 c er
      rw [if_pos rfl] at h9
      exact ⟨Or.inr (Or.inr (Or.inl ⟨by unfold grC; rw [cc, if_neg (by decide)], eE⟩)), h9⟩
    obtain ⟨er, H27⟩ := h27
    have cc := con_0 c er
    refine ⟨e0 57, H27.r13, fun _ => ⟨e0 0, H27.r0, fun _ => ⟨e0 54, H27.r12, fun _ => ⟨fxM e0, e1 0, fun i => e0 (58 + i), n, ⟨H27.pr, by rw [ens, show iv (nI ns) = ns from nI_clamp (by omega)]; exact hn, eg, h8, H27.1.2.2.2.2.2.2.2.2.1⟩, fun S49 he49 h49 => ?_⟩⟩⟩⟩
    obtain ⟨f49, i40, i47, sets, tots⟩ := h49
    have H49 := H27.fq he49 f49 (by rw [sets 0 (Nat.two_pow_pos _), spr_z]; rfl)
    rw [ei] at er
    obtain ⟨tt, hl, G, g8, gC, gch, gM, gS, gD, gx, gg⟩ := H49.bb ens hns hn0 hn er h8 tots
    refine ⟨e0 57, H49.r13, fun _ => ⟨fun i => e0 (58 + i), (memL n 10 0).length, G, ⟨H49.1.pl, i40, h8, g8, gC, gch⟩, fun S63 he63 h63 => ?_⟩⟩
    obtain ⟨f63, P63, z2, z3⟩ := h63
    have k0 : hA S63 (e0 58) = hA S49 (e0 58) := f63.2.2.2.2.2 _ (fun j hj => by
      simp only [List.mem_cons, List.not_mem_nil, or_false] at hj
      exact H49.1.ne (by omega) (by omega) (by omega))
    have H63 := H49.fp he63 f63 (fun j hj => by simp only [List.mem_cons, List.not_mem_nil, or_false] at hj; omega) ⟨by rw [k0]; exact H49.1.2.2.2.2.2.2.2.2.1, z2.trans H49.1.2.2.2.2.2.2.2.2.2.1, z3.trans H49.1.2.2.2.2.2.2.2.2.2.2⟩
    have i47' : hI S63 47 (e0 57) = nI G.length := P63.1
    refine ⟨e0 57, H63.r13, fun _ => ?_⟩
    rw [i47']
    have gC' : grC (e1 0) p0 p1 = if p1 = -1 then 0 else if zin p1 0 (nI G.length - 1) = 0 then 4 else 0 := by
      unfold grC
      rw [if_pos cc, ei, gD]
    refine ⟨fun cz => ⟨fun c1 => ?_, fun c1 => ⟨e0 57, H63.r13, fun _ => ⟨by rw [gC', if_pos c1], ?_, H63⟩⟩⟩, fun cz => ⟨⟨by omega, by omega⟩, Or.inr (Or.inr (Or.inr ⟨?_, rfl⟩)), H63⟩⟩
    · rcases zin_k (by omega) cz with z | ⟨j, hj, ej⟩
      · exact absurd z c1
      · have ij : iv p1 = j := by rw [ej]; exact nI_clamp (by omega)
        have zj : ¬ zin p1 0 (nI G.length - 1) = 0 := by
          have := zin_0.mp cz
          exact zin_0.mpr ⟨by rw [ej]; exact nI_pos' (by omega), this.2⟩
        refine ⟨e0 57, H63.r13, fun _ => ⟨e0 58, H63.1.pl.sets, fun _ => ⟨e0 57, H63.r13, fun _ => ⟨e0 63, H63.1.pl.pts, fun _ => ?_⟩⟩⟩⟩
        have g1 := gg j hj
        have p8 := hl.p
        have pj := (P63.2.2 j hj).1
        rw [show hN S63 (e0 63) = 8 from H63.1.pl.n5, show hN S63 (e0 58) = 256 from H63.1.pl.n (show 0 < 5 by omega), show Int32.toNatClampNeg p1 = j from ij, show hA S63 (e0 63) j = nI (gl G j) from pj, nz_vp (by omega) (by decide), show Int32.toNatClampNeg (nI (gl G j)) = gl G j from nI_clamp (by omega), k0, show hA S49 (e0 58) (gl G j) = nI (spr (memL n 10 0) (memL n 10 0).length (gl G j)) from sets _ g1.2]
        refine ⟨by rw [ej, nz_vp (by omega) (by decide)]; omega, by omega, by rw [gC', if_neg c1, if_neg zj], ?_, H63⟩
        unfold grA
        rw [if_neg c1, ei, ij]
        exact (chM_g G n j hn1 gM hj).symm
    · unfold grA
      rw [if_pos c1, ei, gD, i47']
    · have n1 : ¬ p1 = -1 := fun z => by
        subst z
        refine absurd cz (zin_0.mpr ⟨Int32.le_refl _, ?_⟩)
        rw [le_toInt]
        rcases Nat.eq_zero_or_pos G.length with q | q
        · rw [q]; decide
        · rw [nI_p1 q]
          have := le_toInt.mp (nI_pos' (n := G.length - 1) (by omega))
          rw [Int32.toInt_zero] at this
          have e1 : (-1 : Int32).toInt = -1 := by decide
          omega
      have n2 : zin p1 0 (nI G.length - 1) = 0 := by
        by_cases q : zin p1 0 (nI G.length - 1) = 0
        · exact q
        · have := zin_0.mp q
          refine absurd cz (zin_0.mpr ⟨?_, this.2⟩)
          exact Int32.le_trans (by decide) this.1
      rw [gC', if_neg n1, if_pos n2])

theorem gl_mp {u : Nat → Nat} {G : List Nat} {i : Nat} (h : i < G.length) : gl (G.map u) i = u (gl G i) := by
  unfold gl
  rw [List.getElem?_map, List.getElem?_eq_getElem h]
  rfl
/-- parts of a plan -/
def pgO (G : List Nat) (m : Nat) : Prop := ∀ i, i < G.length → 0 < gl G i ∧ gl G i < 2 ^ m
theorem pgO.or {G : List Nat} {m i j : Nat} (h : pgO G m) (hi : i < G.length) (hj : j < G.length) : 0 < gl G i ||| gl G j ∧ gl G i ||| gl G j < 2 ^ m := ⟨or_pos (h i hi).1, Nat.or_lt_two_pow (h i hi).2 (h j hj).2⟩
theorem pgO.mg {G : List Nat} {m a b : Nat} (h : pgO G m) (ha : a < G.length) (hb : b < G.length) : pgO (mgS G a b) m := fun i hi => by
  rw [mgS_len] at hi
  rw [mgS_gl ha hb hi]
  by_cases c : i = b
  · rw [if_pos c]
    by_cases d : G.length - 1 = a
    · rw [if_pos d]; exact h.or ha hb
    · rw [if_neg d]; exact h _ (by omega)
  · rw [if_neg c]
    by_cases d : i = a
    · rw [if_pos d]; exact h.or ha hb
    · rw [if_neg d]; exact h _ (by omega)
theorem mgS_mp {n m : Nat} {L G : List Nat} (hG : pgO G m) {a b : Nat} (ha : a < G.length) (hb : b < G.length) : mgS (G.map (spr L m)) a b = (mgS G a b).map (spr L m) := by
  have hl : (G.map (spr L m)).length = G.length := List.length_map _
  refine gl_ext (by rw [mgS_len, hl, List.length_map, mgS_len]) (fun i hi => ?_)
  rw [mgS_len, hl] at hi
  rw [gl_mp (by rw [mgS_len]; exact hi), mgS_gl (by rw [hl]; exact ha) (by rw [hl]; exact hb) (by rw [hl]; exact hi), mgS_gl ha hb hi, hl, gl_mp ha, gl_mp hb, gl_mp (show G.length - 1 < G.length by omega), gl_mp (show i < G.length by omega)]
  by_cases c : i = b
  · rw [if_pos c, if_pos c]
    by_cases d : G.length - 1 = a
    · rw [if_pos d, if_pos d, spr_or (hG a ha).2 (hG b hb).2]
    · rw [if_neg d, if_neg d]
  · rw [if_neg c, if_neg c]
    by_cases d : i = a
    · rw [if_pos d, if_pos d, spr_or (hG a ha).2 (hG b hb).2]
    · rw [if_neg d, if_neg d]
theorem spr_lt {n m p q : Nat} {L : List Nat} (hl : plc n m L) (hp : p < 2 ^ m) (hq : q < 2 ^ m) : (spr L m p < spr L m q) = (p < q) := propext ⟨fun h => by
  rcases Nat.lt_or_ge p q with c | c
  · exact c
  · have := spr_le hl.2.2.1 c hp; omega, fun h => spr_mono m hl.2.2.1 p q h hq⟩
theorem spr_eq {n m p q : Nat} {L : List Nat} (hl : plc n m L) (hp : p < 2 ^ m) (hq : q < 2 ^ m) : (spr L m p = spr L m q) = (p = q) := propext ⟨fun h => spr_inj hl.2.2.1 hp hq h, fun h => by rw [h]⟩
def agP (T T' : Nat → Int32) (m : Nat) (L : List Nat) : Prop := ∀ p, 0 < p → p < 2 ^ m → T' p = T (spr L m p)
def msO (G : List Nat) (s : MS) : Prop := ∀ x y, s.2 = some (x, y) → x < G.length ∧ y < G.length ∧ gl G x < gl G y
theorem fpS_mp {T T' : Nat → Int32} {n m : Nat} {L G : List Nat} (hl : plc n m L) (hE : agP T T' m L) (hG : pgO G m) {a b : Nat} {s : MS} (ha : a < G.length) (hb : b < G.length) (hs : msO G s) : fpS T (G.map (spr L m)) a b s = fpS T' G a b s := by
  have e1 := hE _ (hG a ha).1 (hG a ha).2
  have e2 := hE _ (hG b hb).1 (hG b hb).2
  have o := hG.or ha hb
  have e3 := hE _ o.1 o.2
  rw [spr_or (hG a ha).2 (hG b hb).2] at e3
  have eg : gaF T (G.map (spr L m)) a b = gaF T' G a b := by
    unfold gaF
    rw [gl_mp ha, gl_mp hb, e1, e2, e3]
  have es : sonB T (G.map (spr L m)) a b s = sonB T' G a b s := by
    unfold sonB
    cases h : s.2 with
    | none => rfl
    | some xy =>
      obtain ⟨x, y⟩ := xy
      obtain ⟨hx, hy, _⟩ := hs x y h
      dsimp only
      rw [eg, gl_mp ha, gl_mp hb, gl_mp hx, gl_mp hy]
      simp only [spr_lt hl (hG a ha).2 (hG x hx).2, spr_eq hl (hG a ha).2 (hG x hx).2, spr_lt hl (hG b hb).2 (hG y hy).2]
  unfold fpS
  rw [es, eg, gl_mp ha, gl_mp hb, ← e3]
  simp only [spr_lt hl (hG a ha).2 (hG b hb).2]
theorem fpB_mp {T T' : Nat → Int32} {n m : Nat} {L G : List Nat} (hl : plc n m L) (hE : agP T T' m L) (hG : pgO G m) {a : Nat} (ha : a < G.length) : ∀ (k b : Nat) (s : MS), b + k = G.length → msO G s → fpB T (G.map (spr L m)) a k b s = fpB T' G a k b s := by
  intro k
  induction k with
  | zero => intro b s _ _; rfl
  | succ k ih =>
    intro b s hb hs
    rw [fpB, fpB, fpS_mp hl hE hG ha (by omega) hs]
    exact ih (b + 1) _ (by omega) (fpS_ok ha (by omega) hs)
theorem fpA_mp {T T' : Nat → Int32} {n m : Nat} {L G : List Nat} (hl : plc n m L) (hE : agP T T' m L) (hG : pgO G m) : ∀ (k a : Nat) (s : MS), a + k = G.length → msO G s → fpA T (G.map (spr L m)) k a s = fpA T' G k a s := by
  intro k
  induction k with
  | zero => intro a s _ _; rfl
  | succ k ih =>
    intro a s ha hs
    rw [fpA, fpA, List.length_map, fpB_mp hl hE hG (show a < G.length by omega) _ _ _ (by omega) hs]
    exact ih (a + 1) _ (by omega) (fpB_ok (by omega) G.length 0 s (by omega) hs)
theorem fpF_mp {T T' : Nat → Int32} {n m : Nat} {L G : List Nat} (hl : plc n m L) (hE : agP T T' m L) (hG : pgO G m) : fpF T (G.map (spr L m)) = fpF T' G := by
  unfold fpF
  rw [List.length_map]
  exact fpA_mp hl hE hG G.length 0 (0, none) (by omega) (fun x y z => by cases z)
theorem mgL_mp {T T' : Nat → Int32} {n m : Nat} {L : List Nat} (hl : plc n m L) (hE : agP T T' m L) : ∀ (k : Nat) (G : List Nat), pgO G m → mgL T k (G.map (spr L m)) = (mgL T' k G).map (spr L m) ∧ pgO (mgL T' k G) m := by
  intro k
  induction k with
  | zero => intro G hG; exact ⟨rfl, hG⟩
  | succ k ih =>
    intro G hG
    rw [mgL, mgL, fpF_mp hl hE hG]
    cases h : (fpF T' G).2 with
    | none => exact ⟨rfl, hG⟩
    | some ab =>
      obtain ⟨a, b⟩ := ab
      obtain ⟨ha, hb, _⟩ := fpF_ok h
      dsimp only
      rw [mgS_mp (n := n) hG ha hb]
      exact ih _ (hG.mg ha hb)
theorem mgL_1 {T : Nat → Int32} {G : List Nat} (h : G.length ≤ 1) : ∀ k, mgL T k G = G := by
  intro k
  cases k with
  | zero => rfl
  | succ k =>
    rw [mgL]
    cases e : (fpF T G).2 with
    | none => rfl
    | some ab =>
      obtain ⟨a, b⟩ := ab
      obtain ⟨ha, hb, hh⟩ := fpF_ok e
      rw [show a = b by omega] at hh
      omega
theorem mgL_k {T : Nat → Int32} : ∀ (k j : Nat) (G : List Nat), G.length ≤ k + 1 → mgL T (k + j) G = mgL T k G := by
  intro k
  induction k with
  | zero => intro j G h; rw [mgL_1 h, mgL_1 h]
  | succ k ih =>
    intro j G h
    rw [show k + 1 + j = (k + j) + 1 by omega, mgL, mgL]
    cases e : (fpF T G).2 with
    | none => rfl
    | some ab =>
      obtain ⟨a, b⟩ := ab
      dsimp only
      exact ih j _ (by rw [mgS_len]; omega)
theorem si_me {n : Nat} : ∀ k s, siL n k s = (memL n k s).map (fun t => 2 ^ t) := by
  intro k
  induction k with
  | zero => intro s; rfl
  | succ k ih =>
    intro s
    rw [siL, memL]
    by_cases c : n.testBit s = true
    · rw [if_pos c, if_pos c, List.map_cons, ih]
    · rw [if_neg c, if_neg c, ih]
theorem siC_pg (m : Nat) : pgO (siC m 0) m := fun i hi => by
  rw [siC_l] at hi
  rw [siC_g m 0 i hi, Nat.zero_add]
  exact ⟨Nat.two_pow_pos _, Nat.pow_lt_pow_right (by decide) hi⟩
theorem siC_mp {n m : Nat} {L : List Nat} (hl : plc n m L) (hm : m = L.length) : (siC m 0).map (spr L m) = L.map (fun t => 2 ^ t) := by
  refine gl_ext (by rw [List.length_map, List.length_map, siC_l, hm]) (fun i hi => ?_)
  rw [List.length_map, siC_l] at hi
  rw [gl_mp (by rw [siC_l]; exact hi), gl_mp (by rw [← hm]; exact hi), siC_g m 0 i hi, Nat.zero_add, hl.one hi]
/-- the merged groups of class and reference -/
theorem me_mp {μ : Nat → Int32} {T' : Nat → Int32} {n ns m : Nat} (hl : plc n m (memL n 10 0)) (hm : m = (memL n 10 0).length) (hE : agP (ttF μ) T' m (memL n 10 0)) (e1 : μ 1 = nI ns) (hns : ns ≤ 10) (hn : n < 2 ^ ns) : meF μ n = (mgL T' (m - 1) (siC m 0)).map (spr (memL n 10 0) m) ∧ pgO (mgL T' (m - 1) (siC m 0)) m := by
  obtain ⟨h1, h2⟩ := mgL_mp hl hE (m - 1) (siC m 0) (siC_pg m)
  refine ⟨?_, h2⟩
  unfold meF
  rw [← h1, siC_mp hl hm, e1, show iv (nI ns) = ns from nI_clamp (by omega), si_me, ← mem_10 hn hns]
  have h8 := hl.2.1
  have := mgL_k (T := ttF μ) (m - 1) (10 - (m - 1)) ((memL n 10 0).map (fun t => 2 ^ t)) (by rw [List.length_map]; omega)
  rw [show m - 1 + (10 - (m - 1)) = 10 by omega] at this
  exact this
theorem suL_mp {T T' : Nat → Int32} {m : Nat} {L : List Nat} (hE : agP T T' m L) : ∀ (G : List Nat) (x : Int32), pgO G m → suL T (G.map (spr L m)) x = suL T' G x := by
  intro G
  induction G with
  | nil => intro x _; rfl
  | cons g G ih =>
    intro x hG
    have h0 := hG 0 (Nat.succ_pos _)
    rw [List.map_cons, suL, suL, ih _ (fun i hi => hG (i + 1) (Nat.succ_lt_succ hi)), hE g h0.1 h0.2]
/-- just one group has the lowest -/
def onL (s : Nat) (G : List Nat) : Prop := ∃ i, i < G.length ∧ (gl G i).testBit s = true ∧ ∀ j, j < G.length → (gl G j).testBit s = true → j = i
theorem onL.mg {s : Nat} {G : List Nat} {a b : Nat} (h : onL s G) (ha : a < G.length) (hb : b < G.length) (hab : a ≠ b) : onL s (mgS G a b) := by
  obtain ⟨i, hi, hb1, hu⟩ := h
  have el : (mgS G a b).length = G.length - 1 := mgS_len
  -- where the member stands afterwards
  have key : ∀ j, j < G.length - 1 → (gl (mgS G a b) j).testBit s = if j = b then (if G.length - 1 = a then (gl G a).testBit s || (gl G b).testBit s else (gl G (G.length - 1)).testBit s) else if j = a then (gl G a).testBit s || (gl G b).testBit s else (gl G j).testBit s := fun j hj => by
    rw [mgS_gl ha hb hj]
    by_cases c : j = b
    · rw [if_pos c, if_pos c]
      by_cases d : G.length - 1 = a
      · rw [if_pos d, if_pos d, Nat.testBit_or]
      · rw [if_neg d, if_neg d]
    · rw [if_neg c, if_neg c]
      by_cases d : j = a
      · rw [if_pos d, if_pos d, Nat.testBit_or]
      · rw [if_neg d, if_neg d]
  have fa : ∀ j, j < G.length → j ≠ i → (gl G j).testBit s = false := fun j hj c => by
    cases e : (gl G j).testBit s with
    | false => rfl
    | true => exact absurd (hu j hj e) c
  by_cases cab : i = a ∨ i = b
  · have hor : ((gl G a).testBit s || (gl G b).testBit s) = true := by
      rcases cab with c | c
      · rw [← c, hb1]; rfl
      · rw [← c, hb1, Bool.or_true]
    by_cases d : G.length - 1 = a
    · refine ⟨b, by rw [el]; omega, by rw [key b (by omega), if_pos rfl, if_pos d, hor], fun j hj e => ?_⟩
      rw [el] at hj
      by_cases c : j = b
      · exact c
      · rw [key j hj, if_neg c, if_neg (by omega)] at e
        have := hu j (by omega) e
        rcases cab with q | q <;> omega
    · refine ⟨a, by rw [el]; omega, by rw [key a (by omega), if_neg hab, if_pos rfl, hor], fun j hj e => ?_⟩
      rw [el] at hj
      by_cases c : j = a
      · exact c
      · rw [key j hj] at e
        by_cases c2 : j = b
        · rw [if_pos c2, if_neg d] at e
          have := hu _ (by omega) e
          rcases cab with q | q <;> omega
        · rw [if_neg c2, if_neg c] at e
          have := hu j (by omega) e
          rcases cab with q | q <;> omega
  · have na : (gl G a).testBit s = false := fa a ha (by omega)
    have nb : (gl G b).testBit s = false := fa b hb (by omega)
    have hor : ((gl G a).testBit s || (gl G b).testBit s) = false := by rw [na, nb]; rfl
    by_cases d : i = G.length - 1
    · refine ⟨b, by rw [el]; omega, by rw [key b (by omega), if_pos rfl, if_neg (by omega), ← d]; exact hb1, fun j hj e => ?_⟩
      rw [el] at hj
      by_cases c : j = b
      · exact c
      · rw [key j hj, if_neg c] at e
        by_cases c2 : j = a
        · rw [if_pos c2, hor] at e; exact absurd e (by decide)
        · rw [if_neg c2] at e
          have := hu j (by omega) e
          omega
    · refine ⟨i, by rw [el]; omega, by rw [key i (by omega), if_neg (by omega), if_neg (by omega)]; exact hb1, fun j hj e => ?_⟩
      rw [el] at hj
      rw [key j hj] at e
      by_cases c : j = b
      · rw [if_pos c] at e
        by_cases c2 : G.length - 1 = a
        · rw [if_pos c2, hor] at e; exact absurd e (by decide)
        · rw [if_neg c2] at e
          have := hu _ (by omega) e
          omega
      · rw [if_neg c] at e
        by_cases c2 : j = a
        · rw [if_pos c2, hor] at e; exact absurd e (by decide)
        · rw [if_neg c2] at e
          exact hu j (by omega) e
theorem onL.ml {T : Nat → Int32} {s : Nat} : ∀ (k : Nat) (G : List Nat), onL s G → onL s (mgL T k G) := by
  intro k
  induction k with
  | zero => intro G h; exact h
  | succ k ih =>
    intro G h
    rw [mgL]
    cases e : (fpF T G).2 with
    | none => exact h
    | some ab =>
      obtain ⟨a, b⟩ := ab
      obtain ⟨ha, hb, hh⟩ := fpF_ok e
      exact ih _ (h.mg ha hb (fun z => by rw [z] at hh; omega))
theorem onL_c {s g : Nat} {G : List Nat} (h : onL s (g :: G)) : (g.testBit s = true ∧ ∀ j, j < G.length → (gl G j).testBit s = false) ∨ (g.testBit s = false ∧ onL s G) := by
  obtain ⟨i, hi, h1, h2⟩ := h
  cases i with
  | zero =>
    refine Or.inl ⟨h1, fun j hj => ?_⟩
    cases e : (gl G j).testBit s with
    | false => rfl
    | true => have := h2 (j + 1) (Nat.succ_lt_succ hj) e; omega
  | succ i =>
    refine Or.inr ⟨?_, i, Nat.lt_of_succ_lt_succ hi, h1, fun j hj e => ?_⟩
    · cases e : g.testBit s with
      | false => rfl
      | true => have := h2 0 (Nat.succ_pos _) e; omega
    · have := h2 (j + 1) (Nat.succ_lt_succ hj) e; omega
theorem loL_no {s : Nat} : ∀ (G : List Nat) (x : Int32), (∀ j, j < G.length → (gl G j).testBit s = false) → loL s G x = x := by
  intro G
  induction G with
  | nil => intro x _; rfl
  | cons g G ih =>
    intro x h
    rw [loL, if_neg (by have := h 0 (Nat.succ_pos _); rw [gl_0] at this; rw [this]; decide)]
    exact ih x (fun j hj => h (j + 1) (Nat.succ_lt_succ hj))
/-- the group with the lowest -/
theorem lo_mp {n m : Nat} {L : List Nat} {A : Nat → Int32} (hl : plc n m L) (h0 : 0 < m) (hA : ∀ p, p < 2 ^ m → A p = nI (spr L m p)) : ∀ (G : List Nat) (x : Int32), pgO G m → onL 0 G → loL (gl L 0) (G.map (spr L m)) x = loP A G := by
  intro G
  induction G with
  | nil => intro x _ h; obtain ⟨i, hi, _⟩ := h; exact absurd hi (Nat.not_lt_zero i)
  | cons g G ih =>
    intro x hG h
    have g0 := hG 0 (Nat.succ_pos _)
    rw [gl_0] at g0
    have hb : (spr L m g).testBit (gl L 0) = g.testBit 0 := spr_bit hl.2.2.1 g0.2 h0
    rw [List.map_cons, loL, hb, loP]
    rcases onL_c h with ⟨h1, h2⟩ | ⟨h1, h2⟩
    · rw [if_pos h1, if_pos h1, loL_no _ _ (fun j hj => by
        rw [List.length_map] at hj
        rw [gl_mp hj, spr_bit (p := gl G j) hl.2.2.1 (hG (j + 1) (Nat.succ_lt_succ hj)).2 h0]
        exact h2 j hj), hA g g0.2]
    · rw [if_neg (by rw [h1]; decide), if_neg (by rw [h1]; decide)]
      exact ih x (fun j hj => hG (j + 1) (Nat.succ_lt_succ hj)) h2
theorem siC_on {m : Nat} (h : 0 < m) : onL 0 (siC m 0) := by
  refine ⟨0, by rw [siC_l]; exact h, by rw [siC_g m 0 0 h]; rfl, fun j hj e => ?_⟩
  rw [siC_l] at hj
  rw [siC_g m 0 j hj, Nat.zero_add, Nat.testBit_two_pow] at e
  exact of_decide_eq_true e
theorem kd_X10_merged (l : Launch) (hst : l.stackTraces = false) (D : va_G) (T : Nat → ClassId) (x0 : Nat) (p0 : Int32) (p1 : Int32) (S : HS) (e0 : (Nat → Nat)) (e1 : (Nat → Nat → Int32)) (e2 : (Nat → Int32)) (e3 : (Nat → Int32)) (e4 : (List Int32)) (mc ms : Nat) (hx0 : hK S x0 = 11) (h : FrS S e0 e1 e2 e3 e4 ∧ x0 = e0 50 ∧ 200 ≤ mc ∧ 2000 ≤ ms) : CXi l yX10_merged (ws_X10_merged) rm_X10_merged D T [.ref x0, .int p0, .int p1] S mc ms (fun v S1 => (meC (e1 0) p0 p1 = 0 ∧ v = meA (e1 0) (iv p0) p1 ∧ FrS S1 e0 e1 e2 e3 e4)) (fun E9 S1 => ((meC (e1 0) p0 p1 = 1 ∧ E9 = "java/lang/IndexOutOfBoundsException") ∨ (meC (e1 0) p0 p1 = 2 ∧ E9 = "java/lang/IllegalArgumentException") ∨ (meC (e1 0) p0 p1 = 3 ∧ E9 = "java/lang/IllegalStateException")) ∧ FrS S1 e0 e1 e2 e3 e4) := c_X10_merged l hst D T x0 p0 p1 S mc ms hx0 _ _ <|
  (by
    obtain ⟨h, e, hmc, hms⟩ := h
    unfold wp_X10_merged
    refine ⟨2, 12, ⟨by omega, by omega⟩, e0, e1, e2, e3, e4, ⟨h, e, Nat.le_refl _, Nat.le_refl _⟩, fun E9 S9 _ h9 => ?_, fun S10 _ h10 => ?_⟩
    · obtain ⟨c, eS⟩ := h9
      subst eS
      rcases c with ⟨c, eE⟩ | ⟨c, eE⟩
      · exact ⟨Or.inl ⟨by unfold meC; rw [if_neg (by rw [c]; decide)]; exact c, eE⟩, h⟩
      · exact ⟨Or.inr (Or.inl ⟨by unfold meC; rw [if_neg (by rw [c]; decide)]; exact c, eE⟩), h⟩
    obtain ⟨c, eS⟩ := h10
    subst eS e
    obtain ⟨n, ns, ens, hns, hn0, hn, hn1, eg, ei, h8⟩ := lck_n h.now.1 c
    refine ⟨fun cw => ?_, fun cw => ⟨⟨by omega, by omega⟩, Or.inr (Or.inl ⟨by unfold meC; rw [if_pos c, if_pos cw], rfl⟩), h⟩⟩
    refine ⟨1, 6, ⟨by omega, by omega⟩, e0, e1, e2, e3, e4, ⟨h, rfl, lck_0 h.now.1 c, Nat.le_refl _, Nat.le_refl _⟩, fun E9 S9 _ h9 => ?_, fun S27 _ h27 => ?_⟩
    · obtain ⟨eE, t, er, h9⟩ := h9
      rw [if_pos rfl] at h9
      exact ⟨Or.inr (Or.inr ⟨by unfold meC; rw [if_pos c, if_neg cw, er], eE⟩), h9⟩
    obtain ⟨er, H27⟩ := h27
    have cc : meC (e1 0) p0 p1 = 0 := by unfold meC; rw [if_pos c, if_neg cw, er]
    refine ⟨e0 57, H27.r13, fun _ => ⟨e0 0, H27.r0, fun _ => ⟨e0 54, H27.r12, fun _ => ⟨fxM e0, e1 0, fun i => e0 (58 + i), n, ⟨H27.pr, by rw [ens, show iv (nI ns) = ns from nI_clamp (by omega)]; exact hn, eg, h8, H27.1.2.2.2.2.2.2.2.2.1⟩, fun S49 he49 h49 => ?_⟩⟩⟩⟩
    obtain ⟨f49, i40, i47, sets, tots⟩ := h49
    have H49 := H27.fq he49 f49 (by rw [sets 0 (Nat.two_pow_pos _), spr_z]; rfl)
    rw [ei] at er
    obtain ⟨tt, hl, _⟩ := H49.bb ens hns hn0 hn er h8 tots
    have hE : agP (ttF (e1 0)) (hA S49 (e0 59)) (memL n 10 0).length (memL n 10 0) := tots
    obtain ⟨me1, me2⟩ := me_mp hl rfl hE ens hns hn
    have hm0 : 0 < (memL n 10 0).length := by rw [mem_10 hn hns]; exact mem_ne hn0 hn hns
    refine ⟨e0 57, H49.r13, fun _ => ⟨fun i => e0 (58 + i), (memL n 10 0).length, ⟨H49.1.pl, i40, h8, fun p hp0 hp => ?_⟩, fun S67 he67 h67 => ?_⟩⟩
    · show hA S49 (e0 59) p = -1 ∨ 0 ≤ hA S49 (e0 59) p
      rw [hE p hp0 hp]
      rcases tt.v ((hl.ok hp).2 hp0) (hl.sb hp) hn1 with ⟨q, _⟩ | q
      · exact Or.inr q
      · exact Or.inl q
    obtain ⟨f67, P67⟩ := h67
    have H67 := H49.fp5 he67 f67
    have k1 : hA S67 (e0 59) = hA S49 (e0 59) := f67.2.2.2.2.2 _ (fun j hj => by
      simp only [List.mem_cons, List.not_mem_nil, or_false] at hj
      exact H49.1.ne (by omega) (by omega) (by omega))
    have k0 : hA S67 (e0 58) = hA S49 (e0 58) := f67.2.2.2.2.2 _ (fun j hj => by
      simp only [List.mem_cons, List.not_mem_nil, or_false] at hj
      exact H49.1.ne (by omega) (by omega) (by omega))
    have P67' : PlP S67 (e0 57) (fun i => e0 (58 + i)) (mgL (hA S49 (e0 59)) ((memL n 10 0).length - 1) (siC (memL n 10 0).length 0)) := P67
    refine ⟨fun c0 => ⟨e0 57, H67.r13, fun _ => ⟨fun i => e0 (58 + i), _, ⟨H67.1.pl, P67'⟩, cc, ?_, H67⟩⟩, fun d0 => ⟨fun c1 => ⟨e0 57, H67.r13, fun _ => ⟨cc, ?_, H67⟩⟩, fun d1 => ⟨e0 57, H67.r13, fun _ => ⟨fun i => e0 (58 + i), _, ⟨H67.1.pl, P67'⟩, cc, ?_, H67⟩⟩⟩⟩
    · unfold meA
      rw [if_pos c0, ei, me1, suL_mp hE _ _ me2]
      show suL (hA S67 (e0 59)) _ 0 = _
      rw [k1]
    · unfold meA
      rw [if_neg d0, if_pos c1, ei, me1, List.length_map]
      exact P67'.1
    · unfold meA
      rw [if_neg d0, if_neg d1, ei, me1]
      have ml : gl (memL n 10 0) 0 = lowN n := by rw [mem_10 hn hns]; exact mem_low hn0 hn hns
      rw [← ml]
      show loP (hA S67 (e0 58)) _ = _
      rw [k0]
      exact (lo_mp hl hm0 sets _ _ me2 (onL.ml _ _ (siC_on hm0))).symm)

/-- as small as, -1 standing for none -/
def leN (y f : Int32) : Prop := f = -1 ∨ (¬ y = -1 ∧ y ≤ f)
theorem leN.rf (y : Int32) : leN y y := by
  by_cases c : y = -1
  · exact Or.inl c
  · exact Or.inr ⟨c, Int32.le_refl _⟩
theorem leN.tr {x y z : Int32} (h : leN x y) (h2 : leN y z) : leN x z := by
  rcases h2 with h2 | ⟨h2, h3⟩
  · exact Or.inl h2
  · rcases h with h | ⟨h, h4⟩
    · exact absurd h h2
    · exact Or.inr ⟨h, Int32.le_trans h4 h3⟩
theorem lsF_le (y f : Int32) : leN (lsF y f) y ∧ leN (lsF y f) f ∧ (lsF y f = y ∨ lsF y f = f) := by
  unfold lsF
  by_cases c : f = -1
  · rw [if_pos c]; exact ⟨leN.rf y, Or.inl c, Or.inl rfl⟩
  · rw [if_neg c]
    by_cases d : y = -1
    · rw [if_pos d]; exact ⟨Or.inl d, leN.rf f, Or.inr rfl⟩
    · rw [if_neg d]
      by_cases e : f < y
      · rw [if_pos e]; exact ⟨Or.inr ⟨c, Int32.le_of_lt e⟩, leN.rf f, Or.inr rfl⟩
      · rw [if_neg e]; exact ⟨leN.rf y, Or.inr ⟨d, Int32.not_lt.mp e⟩, Or.inl rfl⟩
theorem trI_le {f : Nat → Int32} : ∀ (m i : Nat) (y : Int32), leN (trI f m i y) y ∧ (∀ j, i ≤ j → j < i + m → leN (trI f m i y) (f j)) ∧ (trI f m i y = y ∨ ∃ j, i ≤ j ∧ j < i + m ∧ trI f m i y = f j) := by
  intro m
  induction m with
  | zero => intro i y; exact ⟨leN.rf y, fun j h1 h2 => by omega, Or.inl rfl⟩
  | succ m ih =>
    intro i y
    rw [trI]
    obtain ⟨h1, h2, h3⟩ := ih (i + 1) (lsF y (f i))
    obtain ⟨l1, l2, l3⟩ := lsF_le y (f i)
    refine ⟨h1.tr l1, fun j q1 q2 => ?_, ?_⟩
    · by_cases c : j = i
      · rw [c]; exact h1.tr l2
      · exact h2 j (by omega) (by omega)
    · rcases h3 with h3 | ⟨j, q1, q2, q3⟩
      · rcases l3 with l3 | l3
        · exact Or.inl (h3.trans l3)
        · exact Or.inr ⟨i, Nat.le_refl _, by omega, h3.trans l3⟩
      · exact Or.inr ⟨j, by omega, by omega, q3⟩
theorem low_p2 {k : Nat} (h : k < 10) : lowN (2 ^ k) = k := by
  have : ∀ k : Nat, k < 10 → lowN (2 ^ k) = k := by decide +kernel
  exact this k h
theorem low_or {w k : Nat} (hk : k ≤ 7) (hw : w < 2 ^ k) (h0 : 0 < w) : lowN (w ||| 2 ^ k) = lowN w := by
  have p : 2 ^ k ≤ 128 := Nat.pow_le_pow_right (n := 2) (by decide) hk
  have po := pow_or hw
  have t1 := low_tb' (show w < 1024 by omega) h0
  have k1 := tb_lt hw t1
  have a1 := low_mn (w ||| 2 ^ k) (by omega) (lowN w) (by omega) (by rw [Nat.testBit_or, t1]; rfl)
  have t2 := low_tb' (show w ||| 2 ^ k < 1024 by omega) (by omega)
  rw [Nat.testBit_or, Bool.or_eq_true] at t2
  rcases t2 with t2 | t2
  · have := low_mn w (by omega) _ (by omega) t2
    omega
  · rw [Nat.testBit_two_pow, decide_eq_true_eq] at t2
    omega
theorem addG_c (g : Nat) (l : List Nat) (i b : Nat) : addG (g :: l) (i + 1) b = g :: addG l i b := by
  unfold addG
  by_cases c : i < l.length
  · rw [if_pos c, if_pos (show i + 1 < (g :: l).length from Nat.succ_lt_succ c)]; rfl
  · rw [if_neg c, if_neg (show ¬ i + 1 < (g :: l).length from fun z => c (Nat.lt_of_succ_lt_succ z))]; rfl
theorem addG_z (g : Nat) (l : List Nat) (b : Nat) : addG (g :: l) 0 b = (g ||| b) :: l := by
  unfold addG
  rw [if_pos (show 0 < (g :: l).length from Nat.succ_pos _)]
  rfl
theorem addG_n (b : Nat) : addG [] 0 b = [b] := by
  unfold addG
  rw [if_neg (show ¬ 0 < ([] : List Nat).length from Nat.lt_irrefl _)]
  rfl
theorem ch_z {l : List Nat} (h : chP 0 l) : l = [] := by
  cases l with
  | nil => rfl
  | cons g l => exact absurd h.1 (Nat.lt_irrefl _)
theorem sub_orr {g w b : Nat} (h : sub g w) : sub g (w ||| b) := sub_tb.mpr fun i hi => by rw [Nat.testBit_or, sub_tb.mp h i hi]; rfl
theorem ch_add {k : Nat} (hk : k ≤ 7) : ∀ (G : List Nat) (w i : Nat), w < 2 ^ k → chP w G → i ≤ G.length → chP (w + 2 ^ k) (addG G i (2 ^ k)) := by
  have p0 := Nat.two_pow_pos k
  intro G
  induction G with
  | nil =>
    intro w i hw h hi
    have w0 : w = 0 := h
    rw [show i = 0 from Nat.le_zero.mp hi, addG_n, w0, Nat.zero_add]
    exact ⟨p0, sub_rf _, by rw [low_p2 (by omega)]; exact Nat.testBit_two_pow_self, Nat.sub_self _⟩
  | cons g l ih =>
    intro w i hw h hi
    obtain ⟨h0, hs, hl, hr⟩ := h
    have po := pow_or hw
    have gle := sub_le hs
    have pg := pow_or (show g < 2 ^ k by omega)
    cases i with
    | zero =>
      rw [addG_z, ← po]
      refine ⟨by omega, sub_tb.mpr fun j hj => ?_, ?_, ?_⟩
      · rw [Nat.testBit_or, Bool.or_eq_true] at hj ⊢
        rcases hj with hj | hj
        · exact Or.inl (sub_tb.mp hs j hj)
        · exact Or.inr hj
      · rw [low_or hk hw h0, Nat.testBit_or, hl]; rfl
      · rw [po, pg, show w + 2 ^ k - (g + 2 ^ k) = w - g by omega]; exact hr
    | succ i =>
      rw [addG_c, ← po]
      refine ⟨by omega, sub_orr hs, by rw [low_or hk hw h0]; exact hl, ?_⟩
      rw [po, show w + 2 ^ k - g = (w - g) + 2 ^ k by omega]
      exact ih (w - g) i (by omega) hr (Nat.le_of_succ_le_succ hi)
theorem ch_del {k : Nat} (hk : k ≤ 7) : ∀ (G : List Nat) (w : Nat), w < 2 ^ k → chP (w + 2 ^ k) G → ∃ G' i, i ≤ G'.length ∧ chP w G' ∧ G = addG G' i (2 ^ k) := by
  have p0 := Nat.two_pow_pos k
  have p7 : 2 ^ k ≤ 128 := Nat.pow_le_pow_right (n := 2) (by decide) hk
  intro G
  induction G with
  | nil => intro w hw h; have : w + 2 ^ k = 0 := h; omega
  | cons g l ih =>
    intro w hw h
    obtain ⟨h0, hs, hl, hr⟩ := h
    have po := pow_or hw
    have gle := sub_le hs
    by_cases t : g.testBit k = true
    · have sb : sub (2 ^ k) g := sub_tb.mpr fun i hi => by
        rw [Nat.testBit_two_pow] at hi
        rw [← of_decide_eq_true hi]
        exact t
      have ble := sub_le sb
      rcases Nat.eq_zero_or_pos w with z | z
      · subst z
        have eg : g = 2 ^ k := by omega
        subst eg
        rw [Nat.zero_add, Nat.sub_self] at hr
        exact ⟨[], 0, Nat.le_refl _, rfl, by rw [ch_z hr, addG_n]⟩
      · have ed : g - 2 ^ k = dif g (2 ^ k) := dif_s (by omega) sb
        rw [← po] at hs hl
        rw [low_or hk hw z] at hl
        have sw : sub (g - 2 ^ k) w := sub_tb.mpr fun i hi => by
          rw [ed, dif_tb, Bool.and_eq_true] at hi
          have := sub_tb.mp hs i hi.1
          rw [Nat.testBit_or, Bool.or_eq_true] at this
          rcases this with q | q
          · exact q
          · rw [q] at hi; exact absurd hi.2 (by decide)
        have lw := tb_lt hw (low_tb' (show w < 1024 by omega) z)
        refine ⟨(g - 2 ^ k) :: l, 0, Nat.zero_le _, ⟨z, sw, ?_, ?_⟩, ?_⟩
        · rw [ed, dif_tb, hl, Nat.testBit_two_pow, decide_eq_false (by omega)]; rfl
        · rw [show w - (g - 2 ^ k) = w + 2 ^ k - g by omega]; exact hr
        · have := sub_le sw
          rw [addG_z, pow_or (show g - 2 ^ k < 2 ^ k by omega), show g - 2 ^ k + 2 ^ k = g by omega]
    · rcases Nat.eq_zero_or_pos w with z | z
      · subst z
        rw [Nat.zero_add, low_p2 (by omega)] at hl
        exact absurd hl t
      · rw [← po] at hs hl
        rw [low_or hk hw z] at hl
        have sw : sub g w := sub_tb.mpr fun i hi => by
          have := sub_tb.mp hs i hi
          rw [Nat.testBit_or, Bool.or_eq_true] at this
          rcases this with q | q
          · exact q
          · rw [Nat.testBit_two_pow, decide_eq_true_eq] at q
            rw [← q] at hi
            exact absurd hi t
        have g2 := sub_le sw
        rw [show w + 2 ^ k - g = (w - g) + 2 ^ k by omega] at hr
        obtain ⟨G', i, q1, q2, q3⟩ := ih (w - g) (by omega) hr
        exact ⟨g :: G', i + 1, Nat.succ_le_succ q1, ⟨z, sw, hl, q2⟩, by rw [addG_c, q3]⟩
theorem p2_s (k : Nat) : 2 ^ (k + 1) - 1 = (2 ^ k - 1) + 2 ^ k := by
  have p0 := Nat.two_pow_pos k
  rw [Nat.pow_succ]
  omega
theorem tr_lo {T : Nat → Int32} : ∀ (k nx : Nat) (G : List Nat), nx + k ≤ 8 → chP (2 ^ nx - 1) G → trF T k nx G = -1 ∨ ∃ H, chP (2 ^ (nx + k) - 1) H ∧ raL T H = true ∧ trF T k nx G = suL T H 0 := by
  intro k
  induction k with
  | zero =>
    intro nx G _ h
    rw [trF]
    by_cases c : raL T G = true
    · rw [if_pos c]; exact Or.inr ⟨G, h, c, rfl⟩
    · rw [if_neg c]; exact Or.inl rfl
  | succ k ih =>
    intro nx G hk h
    have p0 := Nat.two_pow_pos nx
    rw [trF]
    rcases (trI_le (f := fun i => trF T k (nx + 1) (addG G i (2 ^ nx))) (G.length + 1) 0 (-1)).2.2 with e | ⟨j, _, q2, e⟩
    · exact Or.inl e
    · have hc := ch_add (k := nx) (by omega) G (2 ^ nx - 1) j (by omega) h (by omega)
      rw [← p2_s] at hc
      rcases ih (nx + 1) _ (by omega) hc with z | ⟨H, z1, z2, z3⟩
      · exact Or.inl (e.trans z)
      · rw [show nx + 1 + k = nx + (k + 1) by omega] at z1
        exact Or.inr ⟨H, z1, z2, e.trans z3⟩
theorem tr_up {T : Nat → Int32} {m : Nat} (hm : m ≤ 8) : ∀ (nx : Nat) (G : List Nat), nx ≤ m → chP (2 ^ nx - 1) G → leN (trF T m 0 []) (trF T (m - nx) nx G) := by
  intro nx
  induction nx with
  | zero =>
    intro G _ h
    rw [ch_z (show chP 0 G from h)]
    exact leN.rf _
  | succ nx ih =>
    intro G hn h
    have p0 := Nat.two_pow_pos nx
    rw [p2_s] at h
    obtain ⟨G', i, h1, h2, h3⟩ := ch_del (k := nx) (by omega) G (2 ^ nx - 1) (by omega) h
    refine (ih G' (by omega) h2).tr ?_
    rw [show m - nx = (m - (nx + 1)) + 1 by omega, trF, h3]
    exact (trI_le (f := fun i => trF T (m - (nx + 1)) (nx + 1) (addG G' i (2 ^ nx))) (G'.length + 1) 0 (-1)).2.1 i (Nat.zero_le _) (by omega)
theorem ch_lb {T T' : Nat → Int32} {n m : Nat} {L : List Nat} (hl : plc n m L) (hT : ttO T n) (hE : ∀ p, 0 < p → p < 2 ^ m → T' p = T (spr L m p)) (hM : ∀ v, v < 2 ^ m → ∀ g, 0 < v → Vc T' v g → (dpZ T n).1 (spr L m v) ≤ T' g + (dpZ T n).1 (spr L m (v - g))) : ∀ (H : List Nat) (w : Nat), w < 2 ^ m → chP w H → raL T' H = true → bn (suL T' H 0) (100000000 * popN (spr L m w)) ∧ (dpZ T n).1 (spr L m w) ≤ suL T' H 0 := by
  have h256 := hl.p
  intro H
  induction H with
  | nil =>
    intro w _ h _
    have w0 : w = 0 := h
    subst w0
    exact ⟨bn.z, by rw [spr_z, dpZ_0.1]; exact Int32.le_refl _⟩
  | cons g l ih =>
    intro w hw h hr
    obtain ⟨h0, hs, hb, hc⟩ := h
    have gle := sub_le hs
    have g0 : 0 < g := by
      rcases Nat.eq_zero_or_pos g with q | q
      · rw [q, Nat.zero_testBit] at hb; exact absurd hb (by decide)
      · exact q
    rw [raL] at hr
    have hv : ¬ T' g = -1 := fun q => by rw [if_pos q] at hr; exact absurd hr (by decide)
    rw [if_neg hv] at hr
    obtain ⟨i1, i2⟩ := ih (w - g) (by omega) hc hr
    have ed : w - g = dif w g := dif_s (by omega) hs
    have es : spr L m (w - g) = dif (spr L m w) (spr L m g) := by rw [ed, spr_dif hl.2.2.1 hw (by omega)]
    have mm := hM w hw g h0 ⟨hs, hb, hv⟩
    have sg := hl.ok (show g < 2 ^ m by omega)
    have eT := hE g g0 (by omega)
    rcases hT.v (sg.2 g0) (hl.sb (show g < 2 ^ m by omega)) hl.1 with ⟨_, q⟩ | q
    · rw [← eT] at q
      rw [suL, suL_x l (0 + T' g), Int32.zero_add]
      have ps := pop_sp ((spr_sub hl.2.2.1 (show g < 2 ^ m by omega) hw).mp hs)
      rw [← es] at ps
      have p10 := (pop_1 (hl.ok hw).1 ((hl.ok hw).2 h0)).2
      have db := dp_bn hl.1 hT (fun q q0 qs => dpZ_Q hl.1 hT q0 qs) dpZ_0.1 (spr L m (w - g) + 1) (spr L m (w - g)) (Nat.lt_succ_self _) (hl.sb (by omega))
      refine ⟨by rw [ps, Nat.mul_add]; exact q.add i1, Int32.le_trans mm ?_⟩
      obtain ⟨a, a1, a2⟩ := q
      obtain ⟨b, b1, b2⟩ := i1
      obtain ⟨c, c1, c2⟩ := db
      rw [c2, b2] at i2
      have cb := (nI_leI (by omega) (by omega)).mp i2
      rw [a2, b2, c2, nI_add, nI_add]
      exact (nI_leI (by omega) (by omega)).mpr (by omega)
    · exact absurd (eT.trans q) hv
/-- trying all ways finds the same least total -/
theorem sr_all {T T' : Nat → Int32} {n m : Nat} {L G : List Nat} (hl : plc n m L) (hT : ttO T n) (hE : ∀ p, 0 < p → p < 2 ^ m → T' p = T (spr L m p)) (hM : ∀ v, v < 2 ^ m → ∀ g, 0 < v → Vc T' v g → (dpZ T n).1 (spr L m v) ≤ T' g + (dpZ T n).1 (spr L m (v - g))) (hc : chP (2 ^ m - 1) G) (hr : raL T' G = true) (hs : (dpZ T n).1 n = suL T' G 0) : trF T' m 0 [] = (dpZ T n).1 n := by
  have p0 := Nat.two_pow_pos m
  have db := dp_bn hl.1 hT (fun q q0 qs => dpZ_Q hl.1 hT q0 qs) dpZ_0.1 (n + 1) n (Nat.lt_succ_self _) (sub_rf n)
  have hn0 : ¬ (dpZ T n).1 n = -1 := fun z => by
    rcases Nat.eq_zero_or_pos n with q | q
    · rw [q, dpZ_0.1] at z; exact absurd z (by decide)
    · have p10 := (pop_1 hl.1 q).2
      have := db.ge (by omega)
      rw [z] at this
      exact n1_neg this
  have up := tr_up (T := T') hl.2.1 m G (Nat.le_refl _) hc
  rw [Nat.sub_self, trF, if_pos hr, ← hs] at up
  rcases up with u | ⟨u1, u2⟩
  · exact absurd u hn0
  rcases tr_lo (T := T') m 0 [] (by have := hl.2.1; omega) rfl with l | ⟨H, l1, l2, l3⟩
  · exact absurd l u1
  · rw [Nat.zero_add] at l1
    have lb := (ch_lb hl hT hE hM H _ (by omega) l1 l2).2
    rw [hl.fl, ← l3] at lb
    exact Int32.le_antisymm u2 lb
theorem kd_X10_searched (l : Launch) (hst : l.stackTraces = false) (D : va_G) (T : Nat → ClassId) (x0 : Nat) (p0 : Int32) (S : HS) (e0 : (Nat → Nat)) (e1 : (Nat → Nat → Int32)) (e2 : (Nat → Int32)) (e3 : (Nat → Int32)) (e4 : (List Int32)) (mc ms : Nat) (hx0 : hK S x0 = 11) (h : FrS S e0 e1 e2 e3 e4 ∧ x0 = e0 50 ∧ 200 ≤ mc ∧ 2000 ≤ ms) : CXi l yX10_searched (ws_X10_searched) rm_X10_searched D T [.ref x0, .int p0] S mc ms (fun v S1 => (conC (e1 0) p0 6 = 0 ∧ v = (dpZ (ttF (e1 0)) (iv p0)).1 (iv p0) ∧ FrS S1 e0 e1 e2 e3 e4)) (fun E9 S1 => ((conC (e1 0) p0 6 = 1 ∧ E9 = "java/lang/IndexOutOfBoundsException") ∨ (conC (e1 0) p0 6 = 2 ∧ E9 = "java/lang/IllegalArgumentException") ∨ (conC (e1 0) p0 6 = 3 ∧ E9 = "java/lang/IllegalStateException")) ∧ FrS S1 e0 e1 e2 e3 e4) := c_X10_searched l hst D T x0 p0 S mc ms hx0 _ _ <|
  (by
    obtain ⟨h, e, hmc, hms⟩ := h
    unfold wp_X10_searched
    refine ⟨2, 12, ⟨by omega, by omega⟩, e0, e1, e2, e3, e4, ⟨h, e, Nat.le_refl _, Nat.le_refl _⟩, fun E9 S9 _ h9 => ?_, fun S10 _ h10 => ?_⟩
    · obtain ⟨c, eS⟩ := h9
      subst eS
      have g1 : ∀ {m : Nat}, lckF (e1 0) p0 8 = 1 → lckF (e1 0) p0 m = 1 := fun {m} z => by
        unfold lckF at z ⊢
        by_cases q : grpF (e1 0) p0 = 0
        · rw [if_pos q]
        · rw [if_neg q] at z
          by_cases q2 : 8 < popN (iv p0)
          · rw [if_pos q2] at z; exact absurd z (by decide)
          · rw [if_neg q2] at z; exact absurd z (by decide)
      have g2 : lckF (e1 0) p0 8 = 2 → lckF (e1 0) p0 6 = 2 := fun z => by
        unfold lckF at z ⊢
        by_cases q : grpF (e1 0) p0 = 0
        · rw [if_pos q] at z; exact absurd z (by decide)
        · rw [if_neg q] at z ⊢
          by_cases q2 : 8 < popN (iv p0)
          · rw [if_pos (by omega)]
          · rw [if_neg q2] at z; exact absurd z (by decide)
      rcases c with ⟨c, eE⟩ | ⟨c, eE⟩
      · have c6 := g1 (m := 6) c
        exact ⟨Or.inl ⟨(con_l (by rw [c6]; decide)).trans c6, eE⟩, h⟩
      · have c6 := g2 c
        exact ⟨Or.inr (Or.inl ⟨(con_l (by rw [c6]; decide)).trans c6, eE⟩), h⟩
    obtain ⟨c, eS⟩ := h10
    subst eS e
    obtain ⟨n, ns, ens, hns, hn0, hn, hn1, eg, ei, h8⟩ := lck_n h.now.1 c
    have hp := (ones_pop hn1).2
    have l6 : lckF (e1 0) p0 6 = if 6 < popN n then 2 else 0 := by
      unfold lckF at c ⊢
      by_cases q : grpF (e1 0) p0 = 0
      · rw [if_pos q] at c; exact absurd c (by decide)
      · rw [if_neg q, ei]
    refine ⟨n, ⟨hn1, eg⟩, ?_⟩
    rw [show (nI (popN n) ≤ (6 : Int32)) = (popN n ≤ 6) from propext (nI_leI (b := 6) (by omega) (by decide))]
    refine ⟨fun c6 => ?_, fun c6 => ⟨⟨by omega, by omega⟩, Or.inr (Or.inl ⟨?_, rfl⟩), h⟩⟩
    rotate_left
    · rw [if_pos (by omega)] at l6
      exact (con_l (by rw [l6]; decide)).trans l6
    rw [if_neg (by omega)] at l6
    have m6 : (memL n 10 0).length ≤ 6 := by rw [mem_10 hn hns, mem_pop hn hns]; exact c6
    refine ⟨1, 6, ⟨by omega, by omega⟩, e0, e1, e2, e3, e4, ⟨h, rfl, lck_0 h.now.1 c, Nat.le_refl _, Nat.le_refl _⟩, fun E9 S9 _ h9 => ?_, fun S27 _ h27 => ?_⟩
    · obtain ⟨eE, t, er, h9⟩ := h9
      rw [if_pos rfl] at h9
      exact ⟨Or.inr (Or.inr ⟨con_3 l6 er, eE⟩), h9⟩
    obtain ⟨er, H27⟩ := h27
    have cc := con_0 l6 er
    refine ⟨e0 57, H27.r13, fun _ => ⟨e0 0, H27.r0, fun _ => ⟨e0 54, H27.r12, fun _ => ⟨fxM e0, e1 0, fun i => e0 (58 + i), n, ⟨H27.pr, by rw [ens, show iv (nI ns) = ns from nI_clamp (by omega)]; exact hn, eg, h8, H27.1.2.2.2.2.2.2.2.2.1⟩, fun S49 he49 h49 => ?_⟩⟩⟩⟩
    obtain ⟨f49, i40, i47, sets, tots⟩ := h49
    have H49 := H27.fq he49 f49 (by rw [sets 0 (Nat.two_pow_pos _), spr_z]; rfl)
    rw [ei] at er
    obtain ⟨tt, hl, G, g8, gC, gch, gM, gS, gD, gx, gg⟩ := H49.bb ens hns hn0 hn er h8 tots
    refine ⟨e0 57, H49.r13, fun _ => ⟨fun i => e0 (58 + i), (memL n 10 0).length, ⟨H49.1.pl, i40, m6⟩, fun v S69 he69 h69 => ?_⟩⟩
    obtain ⟨f69, ev⟩ := h69
    refine ⟨cc, ?_, H49.fp5 he69 f69⟩
    rw [ei]
    exact ev.trans (sr_all hl tt tots gx.2.2 gx.1 gx.2.1 gS))

theorem WF_r {μ μ' : Nat → Int32} (e : ∀ k, k < 2 ∨ k = 3 ∨ 14 ≤ k → μ' k = μ k) (h2 : sm μ' 2 5) (h : WF μ) : WF μ' := by
  obtain ⟨a1, a2, _, a4, a5⟩ := h
  exact ⟨sm_cg (e 0 (by omega)) a1, sm_cg (e 1 (by omega)) a2, h2, fun v hv => WFV_cg (e 0 (by omega)) (fun o ho => e _ (by omega)) (a4 v hv), fun t ht => WFS_cg (fun o ho => e _ (by omega)) (a5 t ht)⟩
theorem stx_n {μ : Nat → Int32} {t : Int32} {n : Nat} (ei : iv (μ 2) = n) : stx μ t ≤ n := by
  have := (stx_le (μ := μ) (t := t) (iv (μ 2)) 0).2
  unfold stx
  omega
theorem reb_gw {μ : Nat → Int32} {t p : Int32} {n : Nat} (hG : GWF μ) (en : μ 2 = nI n) (hn : n ≤ 5) (ht : 0 ≤ t) (hc : (p = 0 → stx μ t < n) ∧ (¬ p = 0 → stx μ t < n ∨ n < 5)) : GWF (rebS μ t p) := by
  obtain ⟨w, r, o, pp⟩ := hG
  have ei : iv (μ 2) = n := by rw [en]; exact nI_clamp (by omega)
  have sx := stx_n (t := t) ei
  have o9 : ∀ i, i < n → 0 ≤ μ (4 + 2 * i) := fun i hi => o i (by rw [ei]; exact hi)
  by_cases c : p = 0
  · have hx := hc.1 c
    have e : rebS μ t p = upd (upd (upd μ 2 (nI (n - 1))) (4 + 2 * stx μ t) (μ (4 + 2 * (n - 1)))) (4 + 2 * stx μ t + 1) (μ (4 + 2 * (n - 1) + 1)) := by
      unfold rebS
      rw [if_pos c, ei, en, show nI n - 1 = nI (n - 1) from sub_k (b := 1) (by omega)]
    rw [e]
    have f : ∀ k, k < 2 ∨ k = 3 ∨ 14 ≤ k → upd (upd (upd μ 2 (nI (n - 1))) (4 + 2 * stx μ t) (μ (4 + 2 * (n - 1)))) (4 + 2 * stx μ t + 1) (μ (4 + 2 * (n - 1) + 1)) k = μ k := fun k hk => by
      unfold upd
      rw [if_neg (by omega), if_neg (by omega), if_neg (by omega)]
    have f2 : upd (upd (upd μ 2 (nI (n - 1))) (4 + 2 * stx μ t) (μ (4 + 2 * (n - 1)))) (4 + 2 * stx μ t + 1) (μ (4 + 2 * (n - 1) + 1)) 2 = nI (n - 1) := by
      unfold upd
      rw [if_neg (by omega), if_neg (by omega), if_pos rfl]
    refine ⟨WF_r f ⟨n - 1, by omega, f2⟩ w, WFR_cg (fun k hk => f k (by omega)) r, fun i hi => ?_, WFP_cg w (fun k hk => f k (by omega)) pp⟩
    rw [f2, show iv (nI (n - 1)) = n - 1 from nI_clamp (by omega)] at hi
    unfold upd
    rw [if_neg (by omega)]
    by_cases d : i = stx μ t
    · rw [if_pos (by omega)]; exact o9 _ (by omega)
    · rw [if_neg (by omega), if_neg (by omega)]; exact o9 _ (by omega)
  · have hx := hc.2 c
    have e : rebS μ t p = upd (upd (upd μ 2 (nI (if stx μ t < n then n else n + 1))) (4 + 2 * stx μ t) t) (4 + 2 * stx μ t + 1) p := by
      unfold rebS
      rw [if_neg c, ei, en]
      by_cases d : stx μ t < n
      · rw [if_pos d, if_pos d]
      · rw [if_neg d, if_neg d, nI_1]
    have m5 : (if stx μ t < n then n else n + 1) ≤ 5 := by split <;> omega
    rw [e]
    have f : ∀ k, k < 2 ∨ k = 3 ∨ 14 ≤ k → upd (upd (upd μ 2 (nI (if stx μ t < n then n else n + 1))) (4 + 2 * stx μ t) t) (4 + 2 * stx μ t + 1) p k = μ k := fun k hk => by
      unfold upd
      rw [if_neg (by omega), if_neg (by omega), if_neg (by omega)]
    have f2 : upd (upd (upd μ 2 (nI (if stx μ t < n then n else n + 1))) (4 + 2 * stx μ t) t) (4 + 2 * stx μ t + 1) p 2 = nI (if stx μ t < n then n else n + 1) := by
      unfold upd
      rw [if_neg (by omega), if_neg (by omega), if_pos rfl]
    refine ⟨WF_r f ⟨_, m5, f2⟩ w, WFR_cg (fun k hk => f k (by omega)) r, fun i hi => ?_, WFP_cg w (fun k hk => f k (by omega)) pp⟩
    rw [f2, show iv (nI (if stx μ t < n then n else n + 1)) = (if stx μ t < n then n else n + 1) from nI_clamp (by omega)] at hi
    unfold upd
    rw [if_neg (by omega)]
    by_cases d : i = stx μ t
    · rw [if_pos (by omega)]; exact ht
    · rw [if_neg (by omega), if_neg (by omega)]
      refine o9 _ ?_
      by_cases d2 : stx μ t < n
      · rw [if_pos d2] at hi; exact hi
      · rw [if_neg d2] at hi; omega
theorem rl_sr {P : Int32 → HS → Prop} {X : String → HS → Prop} {S : HS} {a : Nat → Nat} {mu : Nat → Nat → Int32} {g b : Nat → Int32} {sh : List Int32} {t p v : Int32} {n mc ms : Nat} (h : FrS S a mu g b sh) (en : mu 0 2 = nI n) (hn : n ≤ 5) (ht : ¬ t < 0) (hv : v = if stx (mu 0) t < n then nI (stx (mu 0) t) else -1) (hp : ¬ (p = 0 ∧ ¬ stx (mu 0) t < n)) (hmc : 1 ≤ mc) (hms : 6 ≤ ms) (hP : ∀ S1, ¬ (¬ stx (mu 0) t < n ∧ n = 5) → FrS S1 a (fun u => if u = 0 then rebS (mu 0) t p else rmU mu g u) (rmG g) b sh → P (rebS (mu 0) t p 2) S1) (hX : (¬ stx (mu 0) t < n ∧ n = 5) → X "java/lang/IllegalStateException" S) : wp_X10_setRebate_47 P X (a 50) t p v S mc ms := by
  have ei : iv (mu 0 2) = n := by rw [en]; exact nI_clamp (by omega)
  have sx := stx_n (t := t) ei
  have hG := (h.2.1 0 (by omega)).1
  have ht9 := Int32.not_lt.mp ht
  unfold wp_X10_setRebate_47
  by_cases c : stx (mu 0) t < n
  · rw [if_pos c] at hv
    refine ⟨fun _ => ⟨a, mu, g, b, sh, ⟨h, rfl⟩, fun S27 he27 h27 => ?_⟩, fun z => absurd (by rw [hv]; exact nI_pos' (by omega)) z⟩
    obtain ⟨H27, f27, k27, r27, s27⟩ := h27
    have hnow := H27.now
    rw [rmU_0] at hnow
    refine ⟨fun q => ⟨a 0, H27.r0, fun _ => ⟨fxM a, mu 0, ⟨hnow, H27.1.st (s := 0) (by omega), fun b9 hb => H27.1.sM (s := 0) (by omega) hb, q, Or.inl (by rw [ei]; exact c)⟩, fun S41 he41 h41 => ?_⟩⟩, fun q => ⟨a 0, H27.r0, fun _ => ⟨fxM a, mu 0, t, ⟨hnow, H27.1.st (s := 0) (by omega), fun b9 hb => H27.1.sM (s := 0) (by omega) hb, by rw [ei]; exact c, hv⟩, fun S41 he41 h41 => ?_⟩⟩⟩
    · obtain ⟨f41, k41, n41, r41, R41⟩ := h41
      have H41 := H27.st (s := 0) (by omega) he41 f41 (fun i _ j => by rw [r41]) (reb_gw hG en hn ht9 ⟨fun _ => c, fun _ => Or.inl c⟩) R41
      refine ⟨a 0, H41.r0, fun _ => ?_⟩
      rw [R41.1.2.2.2.1]
      exact hP S41 (fun z => z.1 c) H41
    · obtain ⟨f41, k41, n41, r41, R41⟩ := h41
      rw [← q] at R41
      have H41 := H27.st (s := 0) (by omega) he41 f41 (fun i _ j => by rw [r41]) (reb_gw hG en hn ht9 ⟨fun _ => c, fun _ => Or.inl c⟩) R41
      refine ⟨a 0, H41.r0, fun _ => ?_⟩
      rw [R41.1.2.2.2.1]
      exact hP S41 (fun z => z.1 c) H41
  · rw [if_neg c] at hv
    refine ⟨fun z => absurd z (by rw [hv]; decide), fun _ => ⟨a 0, h.r0, fun _ => ?_⟩⟩
    rw [h.now.2.1.2.2.2.1, en, show (nI n < (5 : Int32)) = (n < 5) from propext (nI_ltI (b := 5) (by omega) (by decide))]
    refine ⟨fun c5 => ⟨a, mu, g, b, sh, ⟨h, rfl⟩, fun S27 he27 h27 => ?_⟩, fun c5 => ⟨⟨hmc, hms⟩, hX ⟨c, by omega⟩⟩⟩
    obtain ⟨H27, f27, k27, r27, s27⟩ := h27
    have hnow := H27.now
    rw [rmU_0] at hnow
    refine ⟨fun q => ⟨a 0, H27.r0, fun _ => ⟨fxM a, mu 0, ⟨hnow, H27.1.st (s := 0) (by omega), fun b9 hb => H27.1.sM (s := 0) (by omega) hb, q, Or.inr (by rw [ei]; exact c5)⟩, fun S41 he41 h41 => ?_⟩⟩, fun q => absurd ⟨q, c⟩ hp⟩
    obtain ⟨f41, k41, n41, r41, R41⟩ := h41
    have H41 := H27.st (s := 0) (by omega) he41 f41 (fun i _ j => by rw [r41]) (reb_gw hG en hn ht9 ⟨fun z => absurd ⟨z, c⟩ hp, fun _ => Or.inr c5⟩) R41
    refine ⟨a 0, H41.r0, fun _ => ?_⟩
    rw [R41.1.2.2.2.1]
    exact hP S41 (fun z => by omega) H41
theorem kd_X10_setRebate (l : Launch) (hst : l.stackTraces = false) (D : va_G) (T : Nat → ClassId) (x0 : Nat) (p0 : Int32) (p1 : Int32) (S : HS) (e0 : (Nat → Nat)) (e1 : (Nat → Nat → Int32)) (e2 : (Nat → Int32)) (e3 : (Nat → Int32)) (e4 : (List Int32)) (mc ms : Nat) (hx0 : hK S x0 = 11) (h : FrS S e0 e1 e2 e3 e4 ∧ x0 = e0 50 ∧ 200 ≤ mc ∧ 2000 ≤ ms) : CXi l yX10_setRebate (ws_X10_setRebate) rm_X10_setRebate D T [.ref x0, .int p0, .int p1] S mc ms (fun v S1 => (rebC (e1 0) p0 p1 = 0 ∧ v = rebS (e1 0) p0 p1 2 ∧ FrS S1 e0 (fun t => if t = 0 then rebS (e1 0) p0 p1 else rmU e1 e2 t) (rmG e2) e3 e4)) (fun E9 S1 => ((rebC (e1 0) p0 p1 = 1 ∧ E9 = "java/lang/IllegalArgumentException") ∨ (rebC (e1 0) p0 p1 = 2 ∧ E9 = "java/util/NoSuchElementException") ∨ (rebC (e1 0) p0 p1 = 3 ∧ E9 = "java/lang/IllegalStateException")) ∧ FrS S1 e0 e1 e2 e3 e4) := c_X10_setRebate l hst D T x0 p0 p1 S mc ms hx0 _ _ <|
  (by
    obtain ⟨h, e, hmc, hms⟩ := h
    subst e
    obtain ⟨n, hn, en⟩ := h.now.1.2.2.1
    have ei : iv (e1 0 2) = n := by rw [en]; exact nI_clamp (by omega)
    unfold wp_X10_setRebate
    refine ⟨fun c => ⟨⟨by omega, by omega⟩, Or.inl ⟨by unfold rebC; rw [if_pos c], rfl⟩, h⟩, fun c => ⟨fun c2 => ⟨e0 0, h.r0, fun _ => ⟨fxM e0, e1 0, h.now, fun v ev => ?_⟩⟩, fun c2 => ⟨⟨by omega, by omega⟩, Or.inl ⟨by unfold rebC; rw [if_neg c, if_pos c2], rfl⟩, h⟩⟩⟩
    rw [ei] at ev
    have eC : rebC (e1 0) p0 p1 = if p1 = 0 ∧ ¬ stx (e1 0) p0 < n then 2 else if ¬ stx (e1 0) p0 < n ∧ n = 5 then 3 else 0 := by
      unfold rebC
      rw [if_neg c, if_neg c2, ei]
    refine ⟨fun c3' => ?_, fun c3' => ⟨fun c4 => ?_, fun c4 => ⟨⟨by omega, by omega⟩, Or.inr (Or.inl ⟨?_, rfl⟩), h⟩⟩⟩
    · have q : ¬ (p1 = 0 ∧ ¬ stx (e1 0) p0 < n) := fun z => by
        rw [if_neg z.2] at ev
        rw [ev] at c3'
        exact absurd c3' (by decide)
      exact rl_sr h en hn c ev q (by omega) (by omega) (fun S1 q1 q2 => ⟨by rw [eC, if_neg q, if_neg q1], rfl, q2⟩) (fun q1 => ⟨Or.inr (Or.inr ⟨by rw [eC, if_neg q, if_pos q1], rfl⟩), h⟩)
    · have q : ¬ (p1 = 0 ∧ ¬ stx (e1 0) p0 < n) := fun z => c4 z.1
      exact rl_sr h en hn c ev q (by omega) (by omega) (fun S1 q1 q2 => ⟨by rw [eC, if_neg q, if_neg q1], rfl, q2⟩) (fun q1 => ⟨Or.inr (Or.inr ⟨by rw [eC, if_neg q, if_pos q1], rfl⟩), h⟩)
    · have q : ¬ stx (e1 0) p0 < n := fun z => by
        rw [if_pos z] at ev
        exact c3' (by rw [ev]; exact nI_pos' (by omega))
      rw [eC, if_pos ⟨c4, q⟩])
theorem mk_c {μ : Nat → Int32} {d f : Int32} {n : Nat} (en : μ 0 = nI n) (hn : n < 6) : (∀ k, k ≠ 0 → k < 274 + 510 * n ∨ 274 + 510 * n + 510 ≤ k → mkF μ d f k = μ k) ∧ mkF μ d f 0 = nI (n + 1) ∧ mkF μ d f (274 + 510 * n) = d ∧ ∀ o, 1 ≤ o → o < 510 → mkF μ d f (274 + 510 * n + o) = if f < 0 then dfV (274 + o) else μ (274 + 510 * iv f + o) := by
  have ei : iv (μ 0) = n := by rw [en]; exact nI_clamp (by omega)
  have co : ∀ k, k < 274 + 510 * n ∨ 274 + 510 * n + 510 ≤ k → cpv μ n f k = μ k := fun k hk => by
    unfold cpv
    dsimp only
    rw [if_neg (by omega)]
  have ci : ∀ o, o < 510 → cpv μ n f (274 + 510 * n + o) = if f < 0 then 0 else μ (274 + 510 * iv f + o) := fun o ho => by
    unfold cpv
    dsimp only
    rw [if_pos ⟨by omega, by omega⟩, show 274 + 510 * n + o - (274 + 510 * n) = o by omega]
  unfold mkF
  rw [ei, en, nI_1]
  by_cases c : f < 0
  · rw [if_pos c]
    unfold upd dfV
    refine ⟨fun k h1 h2 => ?_, ?_, ?_, fun o h1 h2 => ?_⟩
    · rw [if_neg h1, if_neg (by omega), if_neg (by omega), if_neg (by omega), co k h2]
    · rw [if_pos rfl]
    · rw [if_neg (by omega), if_pos rfl]
    · rw [if_neg (by omega), if_neg (by omega), if_pos c]
      by_cases d1 : o = 149
      · rw [if_pos (by omega), if_neg (by omega), if_pos (by omega)]
      · rw [if_neg (by omega)]
        by_cases d2 : o = 146
        · rw [if_pos (by omega), if_pos (by omega)]
        · rw [if_neg (by omega), ci o h2, if_pos c, if_neg (by omega), if_neg (by omega)]
  · rw [if_neg c]
    unfold upd
    refine ⟨fun k h1 h2 => ?_, ?_, ?_, fun o h1 h2 => ?_⟩
    · rw [if_neg h1, if_neg (by omega), co k h2]
    · rw [if_pos rfl]
    · rw [if_neg (by omega), if_pos rfl]
    · rw [if_neg (by omega), if_neg (by omega), ci o h2, if_neg c, if_neg c]
theorem rwO_c3 {μ μ' : Nat → Int32} {v v' a : Nat} (e : ∀ c, 1 ≤ c → c < 36 → μ' (274 + 510 * v' + 150 + 36 * a + c) = μ (274 + 510 * v + 150 + 36 * a + c)) (h30 : iv (μ (274 + 510 * v + 150 + 36 * a + 4)) ≤ 30) (h : rwO μ v a) : rwO μ' v' a := by
  have e6 : ∀ j, j < 30 → μ' (274 + 510 * v' + 150 + 36 * a + 6 + j) = μ (274 + 510 * v + 150 + 36 * a + 6 + j) := fun j hj => by
    have := e (6 + j) (by omega) (by omega)
    rw [← Nat.add_assoc, ← Nat.add_assoc] at this
    exact this
  have e3 := e 3 (by omega) (by omega)
  have e4 := e 4 (by omega) (by omega)
  have e60 := e 6 (by omega) (by omega)
  obtain ⟨h1, h2⟩ := h
  unfold rwO
  rw [e3, e4, e60]
  refine ⟨h1, fun q => ?_⟩
  obtain ⟨a1, a2, a3⟩ := h2 q
  refine ⟨a1, fun j hj => ?_, ?_⟩
  · rw [e6 (j + 1) (by omega), e6 j (by omega)]; exact a2 j hj
  · rw [e6 _ (by omega)]; exact a3
theorem paT_c2 {μ μ' : Nat → Int32} {e e' : Nat} : ∀ k j, (∀ i, j ≤ i → i < j + k → μ' (e' + 6 + i) = μ (e + 6 + i)) → (paT μ' e' k j).length = (paT μ e k j).length := by
  intro k
  induction k with
  | zero => intro j _; rfl
  | succ k ih =>
    intro j h
    rw [paT, paT, List.length_cons, List.length_cons, List.length_append, List.length_append, h j (Nat.le_refl _) (by omega), ih (j + 1) (fun i h1 h2 => h i (by omega) (by omega))]
theorem dfV_z {k : Nat} (h : k ≠ 420 ∧ k ≠ 423) : dfV k = 0 := dfV_0 h.1 h.2
theorem dfV_WF : WF dfV := by
  have z : ∀ k B, k ≠ 420 ∧ k ≠ 423 → sm dfV k B := fun k B h => ⟨0, Nat.zero_le _, dfV_z h⟩
  have b9 : ∀ k, sm dfV k 9999 := fun k => by
    unfold sm dfV
    by_cases c : k = 274 + 146
    · rw [if_pos c]; exact ⟨5000, by omega, rfl⟩
    · rw [if_neg c]
      by_cases d : k = 274 + 149
      · rw [if_pos d]; exact ⟨999, by omega, rfl⟩
      · rw [if_neg d]; exact ⟨0, by omega, rfl⟩
  have nn : ∀ {k n B : Nat}, k ≠ 420 ∧ k ≠ 423 → dfV k = nI n → n ≤ B → B < 2 ^ 31 → n = 0 := fun h e hb hB => by
    rw [dfV_z h] at e
    have := (nI_eq (a := 0) (by decide) (by omega)).mp e
    omega
  refine ⟨z _ _ (by omega), z _ _ (by omega), z _ _ (by omega), fun v hv => ⟨z _ _ (by omega), fun y y1 y9 => ⟨z _ _ (by omega), b9 _, fun i hi => ⟨b9 _, z _ _ (by omega)⟩⟩, fun i hi => z _ _ (by omega), b9 _, z _ _ (by omega), b9 _, b9 _, fun a ha => ⟨Or.inl (dfV_z (by omega)), b9 _, z _ _ (by omega), z _ _ (by omega), z _ _ (by omega), Or.inr (z _ _ (by omega)), fun k hk => z _ _ (by omega), fun _ => z _ _ (by omega), fun _ => z _ _ (by omega)⟩, fun n e h6 hvn => ?_⟩, fun s hs => ⟨z _ _ (by omega), z _ _ (by omega), z _ _ (by omega), Or.inr (by rw [dfV_z (by omega)]; exact Int32.le_refl _), fun p hp => ⟨fun k hk => z _ _ (by omega), z _ _ (by omega)⟩, fun n e h5 p hp k hk => ?_⟩⟩
  · have := nn (k := 0) (by omega) e h6 (by decide); omega
  · have := nn (by omega) e h5 (by decide); omega
theorem mk_gw {μ : Nat → Int32} {d f : Int32} {n : Nat} (hG : GWF μ) (en : μ 0 = nI n) (hn : n < 6) (hf : f < 0 ∨ (¬ f < 0 ∧ iv f < n)) : GWF (mkF μ d f) := by
  obtain ⟨c1, c2, c3, c4⟩ := mk_c (d := d) (f := f) en hn
  obtain ⟨w, r, o, pp⟩ := hG
  have ei : iv (μ 0) = n := by rw [en]; exact nI_clamp (by omega)
  -- the row and version it is made of
  have src : ∃ (μs : Nat → Int32) (vs : Nat), WFV μs vs ∧ (∃ q : Nat, 1000 ≤ q ∧ q ≤ 9999 ∧ μs (274 + 510 * vs + 146) = nI q) ∧ (∀ a, a < 10 → rwO μs vs a ∧ iv (μs (274 + 510 * vs + 150 + 36 * a + 4)) ≤ 30 ∧ (paT μs (274 + 510 * vs + 150 + 36 * a) (iv (μs (274 + 510 * vs + 150 + 36 * a + 4))) 0).length ≤ 80) ∧ ∀ o, 1 ≤ o → o < 510 → mkF μ d f (274 + 510 * n + o) = μs (274 + 510 * vs + o) := by
    rcases hf with q | ⟨q, q2⟩
    · refine ⟨dfV, 0, dfV_WF.v (by omega), ⟨5000, by omega, by omega, rfl⟩, fun a ha => ?_, fun o h1 h2 => by rw [c4 o h1 h2, if_pos q]⟩
      have e4 : iv (dfV (274 + 510 * 0 + 150 + 36 * a + 4)) = 0 := by rw [dfV_z (by omega)]; rfl
      have e3 : iv (dfV (274 + 510 * 0 + 150 + 36 * a + 3)) = 0 := by rw [dfV_z (by omega)]; rfl
      refine ⟨⟨fun _ => e3, fun z => by omega⟩, by omega, ?_⟩
      rw [e4]; exact Nat.zero_le _
    · have v6 : iv f < 6 := by omega
      exact ⟨μ, iv f, w.v v6, w.div en (by omega) q2, fun a ha => ⟨r _ v6 a ha, w.v30 v6 a ha, pp _ v6 a ha⟩, fun o h1 h2 => by rw [c4 o h1 h2, if_neg q]⟩
  obtain ⟨μs, vs, s1, s2, s3, s4⟩ := src
  have sA : ∀ a c, a < 10 → c < 36 → mkF μ d f (274 + 510 * n + 150 + 36 * a + c) = μs (274 + 510 * vs + 150 + 36 * a + c) := fun a c ha hc => by
    have := s4 (150 + 36 * a + c) (by omega) (by omega)
    rw [← Nat.add_assoc, ← Nat.add_assoc, ← Nat.add_assoc, ← Nat.add_assoc] at this
    exact this
  have sO : ∀ v, v ≠ n → ∀ o, o < 510 → mkF μ d f (274 + 510 * v + o) = μ (274 + 510 * v + o) := fun v hv o ho => c1 _ (by omega) (by omega)
  refine ⟨⟨⟨n + 1, by omega, c2⟩, sm_cg (c1 1 (by omega) (by omega)) w.2.1, sm_cg (c1 2 (by omega) (by omega)) w.2.2.1, fun v hv => ?_, fun s hs => WFS_cg (fun q hq => c1 _ (by omega) (by omega)) (w.s hs)⟩, fun v hv a ha => ?_, fun i hi => ?_, fun v hv a ha => ?_⟩
  · by_cases e : v = n
    · subst e
      exact WFV_c2 s4 s1 (fun _ _ _ _ => by obtain ⟨q, q1, q2, q3⟩ := s2; exact ⟨q, q1, q2, (s4 146 (by omega) (by omega)).trans q3⟩)
    · refine WFV_c2 (fun q _ q2 => sO v e q q2) (w.v hv) (fun n' e' h6 hvn => ?_)
      rw [c2] at e'
      have := (nI_eq (by omega) (by omega)).mp e'
      obtain ⟨q, q1, q2, q3⟩ := w.div en (by omega) (show v < n by omega)
      exact ⟨q, q1, q2, (sO v e 146 (by omega)).trans q3⟩
  · by_cases e : v = n
    · subst e
      exact rwO_c3 (fun c _ hc => sA a c ha hc) (s3 a ha).2.1 (s3 a ha).1
    · exact rwO_c3 (fun c _ hc => by
        have := sO v e (150 + 36 * a + c) (by omega)
        rw [← Nat.add_assoc, ← Nat.add_assoc] at this
        exact this) (w.v30 hv a ha) (r v hv a ha)
  · rw [c1 2 (by omega) (by omega)] at hi
    obtain ⟨ns, hns, ens⟩ := w.2.2.1
    have hi9 := hi
    rw [ens, show iv (nI ns) = ns from nI_clamp (by omega)] at hi9
    rw [c1 (4 + 2 * i) (by omega) (by omega)]
    exact o i hi
  · by_cases e : v = n
    · subst e
      have h3 := s3 a ha
      rw [sA a 4 ha (by omega), paT_c2 (μ := μs) (e := 274 + 510 * vs + 150 + 36 * a) _ 0 (fun i _ hi => by
        have := sA a (6 + i) ha (by omega)
        rw [← Nat.add_assoc, ← Nat.add_assoc] at this
        exact this)]
      exact h3.2.2
    · exact paE w hv ha (fun c hc => by
        have := sO v e (150 + 36 * a + c) (by omega)
        rw [← Nat.add_assoc, ← Nat.add_assoc] at this
        exact this) (pp v hv a ha)
theorem RelV.n2 {S : HS} {M : Nat → Prop} {x v : Nat} {μ : Nat → Int32} {a : Nat → Nat} {y : Int32} (hw : WF μ) (hv : v < 6) (hV : RelV S M x μ v) (hO : OwV S x a) : RelV (putI S 200 x y) M x (upd μ (274 + 510 * v) y) v := by
  have hf : frM S (putI S 200 x y) (fun b => b = x) := frM.pI (M := fun b => b = x) frM.rf rfl _ _
  have hk : hK (putI S 200 x y) = hK S := by simp only [px_KI, px_KR, px_KA, px_KB, px_KO, px_KW, px_KC, px_NI, px_NR, px_NA, px_NB, px_NO, px_NW, px_NC, px_II, px_IR, px_IA, px_IB, px_IO, px_IW, px_IC, px_RI, px_RR, px_RA, px_RB, px_RO, px_RW, px_RC, px_AI, px_AR, px_AA, px_AB, px_AO, px_AW, px_AC, px_BI, px_BR, px_BA, px_BB, px_BO, px_BW, px_BC]
  have hn : hN (putI S 200 x y) = hN S := by simp only [px_KI, px_KR, px_KA, px_KB, px_KO, px_KW, px_KC, px_NI, px_NR, px_NA, px_NB, px_NO, px_NW, px_NC, px_II, px_IR, px_IA, px_IB, px_IO, px_IW, px_IC, px_RI, px_RR, px_RA, px_RB, px_RO, px_RW, px_RC, px_AI, px_AR, px_AA, px_AB, px_AO, px_AW, px_AC, px_BI, px_BR, px_BA, px_BB, px_BO, px_BW, px_BC]
  have hr : hR (putI S 200 x y) = hR S := by simp only [px_KI, px_KR, px_KA, px_KB, px_KO, px_KW, px_KC, px_NI, px_NR, px_NA, px_NB, px_NO, px_NW, px_NC, px_II, px_IR, px_IA, px_IB, px_IO, px_IW, px_IC, px_RI, px_RR, px_RA, px_RB, px_RO, px_RW, px_RC, px_AI, px_AR, px_AA, px_AB, px_AO, px_AW, px_AC, px_BI, px_BR, px_BA, px_BB, px_BO, px_BW, px_BC]
  have hb : hB (putI S 200 x y) = hB S := by simp only [px_KI, px_KR, px_KA, px_KB, px_KO, px_KW, px_KC, px_NI, px_NR, px_NA, px_NB, px_NO, px_NW, px_NC, px_II, px_IR, px_IA, px_IB, px_IO, px_IW, px_IC, px_RI, px_RR, px_RA, px_RB, px_RO, px_RW, px_RC, px_AI, px_AR, px_AA, px_AB, px_AO, px_AW, px_AC, px_BI, px_BR, px_BA, px_BB, px_BO, px_BW, px_BC]
  have hA9 : hA (putI S 200 x y) = hA S := by simp only [px_KI, px_KR, px_KA, px_KB, px_KO, px_KW, px_KC, px_NI, px_NR, px_NA, px_NB, px_NO, px_NW, px_NC, px_II, px_IR, px_IA, px_IB, px_IO, px_IW, px_IC, px_RI, px_RR, px_RA, px_RB, px_RO, px_RW, px_RC, px_AI, px_AR, px_AA, px_AB, px_AO, px_AW, px_AC, px_BI, px_BR, px_BA, px_BB, px_BO, px_BW, px_BC]
  have sa : ∀ j, j < 33 → j ≠ 0 → sam S (putI S 200 x y) (a j) := fun j hj h1 => hO.sa hf hj (fun q => hO.ne hj (j := 0) (by omega) h1 (q.trans hO.1.symm))
  have fo : frM S (putI S 200 x y) (owA a) := hf.sub (fun b hb => ⟨0, by omega, hb.trans hO.1.symm⟩)
  have hm : ∀ {k : Nat}, 274 + 510 * v < k → upd μ (274 + 510 * v) y k = μ k := fun hk => by unfold upd; rw [if_neg (by omega)]
  have hs : ∀ {j d : Nat}, j ≠ 200 → 0 < d → hI S j x = μ (274 + 510 * v + d) → hI (putI S 200 x y) j x = upd μ (274 + 510 * v) y (274 + 510 * v + d) := fun {j d} hj hd e => by
    rw [px_II, hm (by omega), if_neg (fun q => hj q.1)]; exact e
  have hV0 := hV
  obtain ⟨⟨h1, h2, h3, h4, h6, h7, h8, h9⟩, _⟩ := hV
  obtain ⟨g1, g2, g3, _⟩ := hV0.in hO
  refine hV0.of hO hk hn hr ⟨?_, hs (by decide) (by decide) h4, hs (by decide) (by decide) h6, hs (by decide) (by decide) h7, hs (by decide) (by decide) h8, hs (by decide) (by decide) h9⟩ (fun j hj => ?_) (by rw [hb]) (fun z9 hz9 => ?_) (fun b hb9 => ?_)
  · rw [px_II, if_pos ⟨rfl, rfl⟩]
    unfold upd
    rw [if_pos rfl]
  · rw [hm (by omega)] at hj
    rw [hA9, hm (by omega), hm (by omega), hm (by omega)]
    exact g1 j hj
  · exact (hO.scs hz9 (g2 z9 hz9) (sa _ (by omega) (by omega)) (sa _ (by omega) (by omega)) (sa _ (by omega) (by omega))).c1 ⟨by omega, by omega⟩ (hm (by omega)) (hm (by omega)) (fun k hk9 => hm (by omega)) (hw.b5 hv _ (by omega) (by omega))
  · exact hO.acs hV0 fo hb9 (by rw [hb]) (fun k hk9 => hm (by omega)) (hw.v30 hv b hb9)
theorem RelSt.vs {S S1 : HS} {M : Nat → Prop} {y b : Nat} {μ μ' : Nat → Int32} (h : RelSt S M y μ) (hw : WF μ) (r1 : hR S 140 y = some b) (hf : frM S S1 M) (eK : hK S1 = hK S) (eN : hN S1 = hN S) (eR : hR S1 = hR S) (eI : ∀ i, i ≠ 141 → hI S1 i y = hI S i y) (e41 : hI S1 141 y = μ' 0) (eA : hA S1 = hA S) (eB : ∀ c, c ≠ b → hB S1 c = hB S c) (hc : ∀ k, k ≠ 0 → k < 274 → μ' k = μ k) (hs : ∀ v, v < iv (μ' 0) → ∃ z, hB S1 b v = some z ∧ RelV S1 M z μ' v) : RelSt S1 M y μ' := by
  obtain ⟨⟨h1, h2, h3, h4, h5⟩, ⟨b1, r1', k1, n1, _⟩, ⟨c, r2, k2, n2, hb⟩, ⟨t, p, r3, r4, k3, k4, n3, n4, ht⟩⟩ := h
  have ec : b1 = b := Option.some.inj (r1'.symm.trans r1)
  subst ec
  have hb1 : c ≠ b1 := fun z => by rw [z, k1] at k2; exact absurd k2 (by decide)
  have c1 : μ' 1 = μ 1 := hc 1 (by omega) (by omega)
  have c2 : μ' 2 = μ 2 := hc 2 (by omega) (by omega)
  refine ⟨⟨by rw [eK]; exact h1, e41, by rw [eI 143 (by decide), c1]; exact h3, by rw [eI 146 (by decide), c2]; exact h4, by rw [eI 147 (by decide), hc 3 (by omega) (by omega)]; exact h5⟩, ⟨b1, by rw [eR]; exact r1', by rw [eK]; exact k1, by rw [eN]; exact n1, hs⟩, ⟨c, by rw [eR]; exact r2, by rw [eK]; exact k2, by rw [eN]; exact n2, fun s hs9 => ?_⟩, ⟨t, p, by rw [eR]; exact r3, by rw [eR]; exact r4, by rw [eK]; exact k3, by rw [eK]; exact k4, by rw [eN]; exact n3, by rw [eN]; exact n4, fun i hi => ?_⟩⟩
  · rw [c1] at hs9
    obtain ⟨nv, hn6, en⟩ := hw.2.1
    have hv9 := hs9
    rw [en, show iv (nI nv) = nv from nI_clamp (by omega)] at hv9
    obtain ⟨u, u1, u2⟩ := hb s hs9
    exact ⟨u, by rw [eB c hb1]; exact u1, (u2.fm hf).cg (fun k hk => hc _ (by omega) (by omega)) (hw.pcs (by omega))⟩
  · rw [c2] at hi
    obtain ⟨ns, hn5, en⟩ := hw.2.2.1
    have hi9 := hi
    rw [en, show iv (nI ns) = ns from nI_clamp (by omega)] at hi9
    rw [eA, hc (4 + 2 * i) (by omega) (by omega), hc (4 + 2 * i + 1) (by omega) (by omega)]
    exact ht i hi
theorem rl_mv {P : Int32 → HS → Prop} {X : String → HS → Prop} {S : HS} {a : Nat → Nat} {mu : Nat → Nat → Int32} {g b : Nat → Int32} {sh : List Int32} {d f : Int32} {s0 : Option Nat} {n kc ks : Nat} (h : FrS S a mu g b sh) (en : mu 0 0 = nI n) (hn : n ≤ 6) (hs : ∀ y, s0 = some y → ∃ (μs : Nat → Int32) (vs : Nat), WF μs ∧ vs < 6 ∧ RelV S (fxM a) y μs vs ∧ (n < 6 → ∀ o, 1 ≤ o → o < 510 → mkF (mu 0) d f (274 + 510 * n + o) = μs (274 + 510 * vs + o))) (hG : n < 6 → s0 ≠ none → GWF (mkF (mu 0) d f)) (hkc : 33 ≤ kc) (hks : 192 ≤ ks) (hP : ∀ S1, n < 6 → s0 ≠ none → FrS S1 a (fun t => if t = 0 then mkF (mu 0) d f else rmU mu g t) (rmG g) b sh → P (nI n) S1) (hX1 : s0 = none → X "java/lang/IndexOutOfBoundsException" S) (hX2 : s0 ≠ none → n = 6 → X "java/lang/IllegalStateException" S) : wp_X10_makeVersion_53 P X (a 50) d s0 S kc ks := by
  unfold wp_X10_makeVersion_53
  refine ⟨fun z => ⟨⟨by omega, by omega⟩, hX1 z⟩, fun y ey hy => ⟨a 0, h.r0, fun _ => ?_⟩⟩
  obtain ⟨μs, vs, ws, hvs, Rs, es⟩ := hs y ey
  have ne : s0 ≠ none := by rw [ey]; exact fun z => by cases z
  rw [h.now.2.1.2.1, en, show (nI n < (6 : Int32)) = (n < 6) from propext (nI_ltI (b := 6) (by omega) (by decide))]
  refine ⟨fun c => ⟨a, mu, g, b, sh, ⟨h, rfl⟩, fun S46 he46 h46 => ?_⟩, fun c => ⟨⟨by omega, by omega⟩, hX2 ne (by omega)⟩⟩
  obtain ⟨H46, f46, k46, r46, s46⟩ := h46
  refine ⟨⟨by omega, by omega⟩, fun q q0 qz S62 e62 => ?_⟩
  have f62 : frM S46 S62 (fun _ => False) := by rw [e62]; exact frM.rf.nO ext_rf q0 10
  have x62 : ext S46 S62 := by rw [e62]; exact ext_newO ext_rf q0 10
  have R46 := Rs.fm f46
  have yq : y ≠ q := fun z => by have := R46.1.1; rw [z, q0] at this; exact absurd this (by decide)
  refine ⟨32, 181, ⟨by omega, by omega⟩, fxM a, μs, vs, ⟨ws, hvs, R46.fm (f62.sub (fun _ z => z.elim)), yq, H46.1.nM q0, H46.1.xM x62, Nat.le_refl _, Nat.le_refl _⟩, fun S76 he76 h76 S86 e86 => ?_⟩
  obtain ⟨f76, R76, aw, OW, o0⟩ := h76
  have f76' : frM S46 S76 (fun _ => False) := f62.nw f76 (fun b9 hb z => hb (by rw [z]; exact q0))
  have f86 : frM S76 S86 (fun c9 => c9 = q) := by
    rw [e86]
    exact frM.pI (M := fun c9 => c9 = q) frM.rf rfl _ _
  have f86' : frM S46 S86 (fun _ => False) := f76'.nw f86 (fun b9 hb z => hb (by rw [z]; exact q0))
  have x86 : ext S76 S86 := by rw [e86]; exact ext_rf
  have H86 := H46.nw (ext_tr x62 (ext_tr he76 x86)) f86'
  obtain ⟨c1, c2, c3, c4⟩ := mk_c (d := d) (f := f) en c
  have Rq : RelV S86 (fxM a) q (mkF (mu 0) d f) n := by
    have r2 := R76.n2 (y := d) ws hvs OW
    rw [← e86] at r2
    have um : ∀ {k : Nat}, 274 + 510 * vs < k → upd μs (274 + 510 * vs) d k = μs k := fun hk => by unfold upd; rw [if_neg (by omega)]
    refine r2.cg (fun k hk => ?_) (sm_cg (um (by omega)) (ws.rng hvs)) (fun z z1 z9 => sm_cg (um (by omega)) (ws.brk hvs z1 z9)) (fun a9 ha9 => by rw [um (by omega)]; exact ws.v30 hvs a9 ha9)
    rcases Nat.eq_zero_or_pos k with z | z
    · subst z
      rw [Nat.add_zero, Nat.add_zero, c3]
      unfold upd
      rw [if_pos rfl]
    · rw [um (by omega)]
      exact es c k z hk
  have i86 : hI S86 141 (a 0) = nI n := by
    rw [H86.now.2.1.2.1, rmU_0]; exact en
  refine ⟨a 0, H86.r0, fun _ => ⟨a 1, n, ⟨H86.s1, H86.1.1 1 (by omega), H86.n1, i86, c⟩, fun v S99 he99 h99 => ?_⟩⟩
  obtain ⟨ev, e99⟩ := h99
  subst ev
  have f99 : frM S86 S99 (fxM a) := by
    rw [e99]
    exact (frM.pB (M := fxM a) frM.rf ⟨1, by omega, rfl⟩ _ _).pI (M := fxM a) ⟨0, by omega, rfl⟩ _ _
  refine hP S99 c ne ?_
  refine H86.st (s := 0) (by omega) he99 (by rw [e99]; exact (frM.rf.pB (Or.inr (Or.inl H86.s1)) _ _).pI (Or.inl rfl) _ _) (fun i _ j => by rw [e99, px_RI, px_RB]) (hG c ne) ?_
  refine H86.now.2.vs H86.now.1 H86.s1 f99 (by rw [e99, px_KI, px_KB]) (by rw [e99, px_NI, px_NB]) (by rw [e99, px_RI, px_RB]) (fun i hi => by rw [e99, px_II, if_neg (fun z => hi z.1), px_IB]) (by rw [e99, px_II, if_pos ⟨rfl, rfl⟩, c2]) (by rw [e99, px_AI, px_AB]) (fun c9 hc9 => by rw [e99, px_BI]; exact putB_o _ _ _ hc9) (fun k h1 h2 => by rw [rmU_0]; exact c1 k h1 (by omega)) (fun t ht => ?_)
  rw [c2, show iv (nI (n + 1)) = n + 1 from nI_clamp (by omega)] at ht
  rw [e99, px_BI, px_BB]
  rw [← e99]
  by_cases c9 : t = n
  · subst c9
    exact ⟨q, by rw [if_pos ⟨rfl, rfl⟩], Rq.fm f99⟩
  · obtain ⟨c', r, _, _, hh⟩ := H86.now.2.2.1
    have ec : c' = a 1 := Option.some.inj (r.symm.trans H86.s1)
    rw [ec] at hh
    obtain ⟨u, u1, u2⟩ := hh t (by rw [rmU_0, en, show iv (nI n) = n from nI_clamp (by omega)]; omega)
    have t6 : t < 6 := by omega
    exact ⟨u, by rw [if_neg (fun z => c9 z.2)]; exact u1, (u2.fm f99).cg (fun k hk => by rw [rmU_0]; exact c1 _ (by omega) (by omega)) (H86.now.1.rng t6) (fun z z1 z9 => H86.now.1.brk t6 z1 z9) (H86.now.1.v30 t6)⟩
theorem kd_X10_makeVersion (l : Launch) (hst : l.stackTraces = false) (D : va_G) (T : Nat → ClassId) (x0 : Nat) (p0 : Int32) (p1 : Int32) (S : HS) (e0 : (Nat → Nat)) (e1 : (Nat → Nat → Int32)) (e2 : (Nat → Int32)) (e3 : (Nat → Int32)) (e4 : (List Int32)) (mc ms : Nat) (hx0 : hK S x0 = 11) (h : FrS S e0 e1 e2 e3 e4 ∧ x0 = e0 50 ∧ 200 ≤ mc ∧ 2000 ≤ ms) : CXi l yX10_makeVersion (ws_X10_makeVersion) rm_X10_makeVersion D T [.ref x0, .int p0, .int p1] S mc ms (fun v S1 => (mkC (e1 0) p0 p1 = 0 ∧ v = e1 0 0 ∧ FrS S1 e0 (fun t => if t = 0 then mkF (e1 0) p0 p1 else rmU e1 e2 t) (rmG e2) e3 e4)) (fun E9 S1 => ((mkC (e1 0) p0 p1 = 1 ∧ E9 = "java/lang/IllegalArgumentException") ∨ (mkC (e1 0) p0 p1 = 2 ∧ E9 = "java/lang/IndexOutOfBoundsException") ∨ (mkC (e1 0) p0 p1 = 3 ∧ E9 = "java/lang/IllegalStateException")) ∧ FrS S1 e0 e1 e2 e3 e4) := c_X10_makeVersion l hst D T x0 p0 p1 S mc ms hx0 _ _ <|
  (by
    obtain ⟨h, e, hmc, hms⟩ := h
    subst e
    obtain ⟨n, hn, en⟩ := h.now.1.1
    have hG0 := (h.2.1 0 (by omega)).1
    unfold wp_X10_makeVersion
    refine ⟨fun c => ⟨⟨by omega, by omega⟩, Or.inl ⟨by unfold mkC; rw [if_pos (Or.inl c)], rfl⟩, h⟩, fun c => ⟨e0 0, h.r0, fun _ => ⟨fxM e0, e1 0, h.now, fun c2 => ?_, fun c2 => ⟨⟨by omega, by omega⟩, Or.inl ⟨?_, rfl⟩, h⟩⟩⟩⟩
    rotate_left
    · unfold mkC
      rw [if_pos (Or.inr ?_)]
      cases z : hdF' (e1 0) p0 (iv (e1 0 0)) 0 with
      | true => rfl
      | false => rw [z] at c2; exact absurd rfl c2
    have hd : ¬ (zin p0 0 999 = 0 ∨ hdF' (e1 0) p0 (iv (e1 0 0)) 0 = true) := fun z => by
      rcases z with z | z
      · exact c z
      · rw [z] at c2; exact absurd c2 (by decide)
    have eC : mkC (e1 0) p0 p1 = if ¬ p1 = -1 ∧ zin p1 0 (e1 0 0 - 1) = 0 then 2 else if n = 6 then 3 else 0 := by
      unfold mkC
      rw [if_neg hd, en]
      by_cases q : ¬ p1 = -1 ∧ zin p1 0 (nI n - 1) = 0
      · rw [if_pos q, if_pos q]
      · rw [if_neg q, if_neg q]
        exact ite_congr (propext (nI_eq (b := 6) (by omega) (by decide))) (fun _ => rfl) (fun _ => rfl)
    refine ⟨fun c3' => ⟨e0 0, h.r0, fun _ => ⟨fxM e0, e1 0, h.now, fun o S25 _ ho h25 => ?_⟩⟩, fun c3' => ⟨⟨by omega, by omega⟩, fun q q0 qz S117 e117 => ?_⟩⟩
    · obtain ⟨eS, hno, hso⟩ := h25
      subst eS
      by_cases z : zin p1 0 (e1 0 0 - 1) = 0
      · have eN := hno z
        refine rl_mv (f := p1) h en hn (fun y ey => by rw [eN] at ey; cases ey) (fun _ w => absurd eN w) (by omega) (by omega) (fun _ _ w _ => absurd eN w) (fun _ => ⟨Or.inr (Or.inl ⟨by rw [eC, if_pos ⟨c3', z⟩], rfl⟩), h⟩) (fun w _ => absurd eN w)
      · obtain ⟨y, ey, Ry⟩ := hso z
        obtain ⟨v6, vn, ev⟩ := zv h.now.1 z
        rw [en, show iv (nI n) = n from nI_clamp (by omega)] at vn
        have f0 : ¬ p1 < 0 := by rw [ev]; exact nI_pos (by omega)
        have e2 : mkC (e1 0) p0 p1 = if n = 6 then 3 else 0 := by rw [eC, if_neg (fun w => z w.2)]
        refine rl_mv (f := p1) h en hn (fun y9 ey9 => ?_) (fun w _ => mk_gw hG0 en w (Or.inr ⟨f0, vn⟩)) (by omega) (by omega) (fun S1 w _ h1 => ⟨by rw [e2, if_neg (by omega)], by rw [en], h1⟩) (fun w => by rw [ey] at w; cases w) (fun _ w => ⟨Or.inr (Or.inr ⟨by rw [e2, if_pos w], rfl⟩), h⟩)
        rw [ey] at ey9
        cases ey9
        exact ⟨e1 0, iv p1, h.now.1, v6, Ry, fun w o h1 h2 => by rw [(mk_c en w).2.2.2 o h1 h2, if_neg f0]⟩
    · have f117 : frM S S117 (fun _ => False) := by rw [e117]; exact frM.rf.nO ext_rf q0 10
      have x117 : ext S S117 := by rw [e117]; exact ext_newO ext_rf q0 10
      refine ⟨32, 181, ⟨by omega, by omega⟩, fxM e0, ⟨by rw [e117]; exact qz, h.1.nM q0, h.1.xM x117, Nat.le_refl _, Nat.le_refl _⟩, fun S128 he128 h128 => ?_⟩
      obtain ⟨f128, R128⟩ := h128
      have H128 := h.nw (ext_tr x117 he128) (f117.nw f128 (fun b hb z => hb (by rw [z]; exact q0)))
      have e2 : mkC (e1 0) p0 p1 = if n = 6 then 3 else 0 := by rw [eC, if_neg (fun w => w.1 c3')]
      have f0 : p1 < 0 := by rw [c3']; decide
      refine rl_mv (f := p1) H128 en hn (fun y9 ey9 => ?_) (fun w _ => mk_gw hG0 en w (Or.inl f0)) (by omega) (by omega) (fun S1 w _ h1 => ⟨by rw [e2, if_neg (by omega)], by rw [en], h1⟩) (fun w => by cases w) (fun _ w => ⟨Or.inr (Or.inr ⟨by rw [e2, if_pos w], rfl⟩), H128⟩)
      cases ey9
      exact ⟨dfV, 0, dfV_WF, by omega, R128, fun w o h1 h2 => by rw [(mk_c en w).2.2.2 o h1 h2, if_pos f0]⟩)

end S_DRAFT
