section HELP
/-- what amend does, as numbers -/
def amC (mu : Nat → Nat → Int32) (g b : Nat → Int32) (p : Int32) : Int32 := if zin p 0 (mu 0 0 - 1) = 0 then 1 else if amZ g b = true then 0 else match (amG (iv p) (amA g b).1 0 (mu 0)).1 with
  | some _ => 2
  | none => 0
def amV (g b : Nat → Int32) : Int32 := if amZ g b = true then (-100) - nI (amA g b).2.1 else nI (amA g b).1.length
def amMu (mu : Nat → Nat → Int32) (g b : Nat → Int32) (p : Int32) : Nat → Nat → Int32 := if amZ g b = true then mu else fun t => if t = 0 then (amG (iv p) (amA g b).1 0 (mu 0)).2 else rmU mu (amU g) t
def amGs (g b : Nat → Int32) : Nat → Int32 := if amZ g b = true then amU g else rmG (amU g)
def amGx (mu : Nat → Nat → Int32) (g b : Nat → Int32) (p : Int32) : Nat → Int32 := if zin p 0 (mu 0 0 - 1) = 0 then amU g else match (amG (iv p) (amA g b).1 0 (mu 0)).1 with
  | some i => fun j => if j = 229 then nI i else amU g j
  | none => amU g
abbrev hh_L_makeVersion : List (Nat × Nat × Nat × Nat) := [(0, 10, 13, 13), (0, 10, 17, 15), (0, 10, 21, 17)]
abbrev ws_L_makeVersion : List Cond := Cond.codeWith yL_makeVersion cL_makeVersion 5 (some .int) hh_L_makeVersion :: W0
abbrev rm_L_makeVersion : Room := ({ frames := rm_X10_makeVersion.frames + 1, cells := 0, slots := 0, locals := 8 + (5 + 11) + rm_X10_makeVersion.locals } : Room)
set_option maxRecDepth 100000 in
set_option maxHeartbeats 4000000 in
theorem h_L_makeVersion (l : Launch) (hst : l.stackTraces = false) (D : va_G) (T : Nat → ClassId) (x0 ol : Nat) (p0 : Int32) (p1 : Int32) (S : HS) (f : Nat → Int64) (e0 : (Nat → Nat)) (e1 : (Nat → Nat → Int32)) (e2 : (Nat → Int32)) (e3 : (Nat → Int32)) (e4 : (List Int32)) (hx0 : hK S x0 = 11) (hF : FrS S e0 e1 e2 e3 e4 ∧ x0 = e0 50) : LHi (oJ T) l yL_makeVersion (ws_L_makeVersion) rm_L_makeVersion D T ol [.ref x0, .int p0, .int p1, .ref ol] S f 200 2000 (HP (mkC (e1 0) p0 p1) (Int32.toInt64 (e1 0 0)) (fun S1 => FrS S1 e0 (fun t => if t = 0 then mkF (e1 0) p0 p1 else rmU e1 e2 t) (rmG e2) e3 e4) (fun S1 => FrS S1 e0 e1 e2 e3 e4)) := by
  refine gl_met (own := RL) (by decide) rfl rfl (Nat.le_of_ble_eq_true rfl) ?_
  intro p e s m args below meth c A L C E N ht hr hw hL
  refine g_aload_n C dL_makeVersion_0 rfl 3 rfl ?_
  refine g_iconst (v := 0) C dL_makeVersion_1 (by decide) ?_
  refine g_aload_n C dL_makeVersion_2 rfl 0 rfl ?_
  refine g_iload_n C dL_makeVersion_3 rfl 1 rfl ?_
  refine g_iload_n C dL_makeVersion_4 rfl 2 rfl ?_
  have hT : HT cL_makeVersion 5 (ws_L_makeVersion) RL 5 hh_L_makeVersion ["java/lang/IllegalArgumentException", "java/lang/IndexOutOfBoundsException", "java/lang/IllegalStateException"] := ⟨rfl, fun i z nm h1 h2 => by
    match i, h1, h2 with
    | 0, h1, h2 => cases h1; cases h2; exact ⟨by decide, by decide, by decide, List.mem_cons_of_mem _ kw_296, 2, 4, Or.inr ⟨dL_makeVersion_13, rfl⟩, by decide, dL_makeVersion_15, dL_makeVersion_16⟩
    | 1, h1, h2 => cases h1; cases h2; exact ⟨by decide, by decide, by decide, List.mem_cons_of_mem _ kw_297, 2, 4, Or.inr ⟨dL_makeVersion_17, rfl⟩, by decide, dL_makeVersion_19, dL_makeVersion_20⟩
    | 2, h1, h2 => cases h1; cases h2; exact ⟨by decide, by decide, by decide, List.mem_cons_of_mem _ kw_298, 2, 4, Or.inr ⟨dL_makeVersion_21, rfl⟩, by decide, dL_makeVersion_23, dL_makeVersion_24⟩
    | n + 3, h1, h2 => simp at h1⟩
  refine gl_tailJ (names := ["java/lang/IllegalArgumentException", "java/lang/IndexOutOfBoundsException", "java/lang/IllegalStateException"]) C E N ht hr hw hL hx0 (by decide) (by decide) rfl [.int p0, .int p1] rfl (k_X10_makeVersion l hst D T x0 p0 p1 S e0 e1 e2 e3 e4 200 2000 hx0 ⟨hF.1, hF.2, by decide, by decide⟩) (w0_V 2 C.2.2.2.2.1 kw_299 kw_300 kw_301 kw_1 kw_302 rfl rfl (by decide +kernel) ⟨Nat.le_of_ble_eq_true rfl, Nat.le_of_ble_eq_true rfl⟩) rfl (Nat.le_refl _) (Nat.le_refl _) (Nat.le_refl _) (Nat.le_refl _) dL_makeVersion_5 dL_makeVersion_8 dL_makeVersion_9 dL_makeVersion_10 (z := 25) (by decide) dL_makeVersion_25 dL_makeVersion_26 hT (by decide +kernel) (exnB (by decide +kernel)) (fun E9 S1 h => ?_) (fun v S1 f1 hf h => ?_) (fun i E9 S1 hi h => ?_)
  · rcases h.1 with ⟨_, rfl⟩ | ⟨_, rfl⟩ | ⟨_, rfl⟩
    · decide +kernel
    · decide +kernel
    · decide +kernel
  · exact ⟨h.1.symm, fun _ => ⟨by rw [hf, h.2.1], h.2.2⟩, fun z => absurd h.1 z⟩
  · match i, hi with
    | 0, hi =>
      cases hi
      rcases h.1 with ⟨c, e9⟩ | ⟨c, e9⟩ | ⟨c, e9⟩
      · exact ⟨by rw [c]; decide, fun z => absurd (c.symm.trans z) (by decide), fun _ => h.2⟩
      · exact absurd e9 (by decide)
      · exact absurd e9 (by decide)
    | 1, hi =>
      cases hi
      rcases h.1 with ⟨c, e9⟩ | ⟨c, e9⟩ | ⟨c, e9⟩
      · exact absurd e9 (by decide)
      · exact ⟨by rw [c]; decide, fun z => absurd (c.symm.trans z) (by decide), fun _ => h.2⟩
      · exact absurd e9 (by decide)
    | 2, hi =>
      cases hi
      rcases h.1 with ⟨c, e9⟩ | ⟨c, e9⟩ | ⟨c, e9⟩
      · exact absurd e9 (by decide)
      · exact absurd e9 (by decide)
      · exact ⟨by rw [c]; decide, fun z => absurd (c.symm.trans z) (by decide), fun _ => h.2⟩
    | n + 3, hi => simp at hi
abbrev hh_L_feed : List (Nat × Nat × Nat × Nat) := [(0, 9, 12, 17)]
abbrev ws_L_feed : List Cond := Cond.codeWith yL_feed cL_feed 4 (some .int) hh_L_feed :: W0
abbrev rm_L_feed : Room := ({ frames := rm_X10_feed.frames + 1, cells := 0, slots := 0, locals := 8 + (2 + 11) + rm_X10_feed.locals } : Room)
set_option maxRecDepth 100000 in
set_option maxHeartbeats 4000000 in
theorem h_L_feed (l : Launch) (hst : l.stackTraces = false) (D : va_G) (T : Nat → ClassId) (x0 ol : Nat) (p0 : Int32) (S : HS) (f : Nat → Int64) (e0 : (Nat → Nat)) (e1 : (Nat → Nat → Int32)) (e2 : (Nat → Int32)) (e3 : (Nat → Int32)) (e4 : (List Int32)) (hx0 : hK S x0 = 11) (hF : FrS S e0 e1 e2 e3 e4 ∧ x0 = e0 50 ∧ vp_nar .char p0 = p0 ∧ vc p0 ∧ ∃ c : Nat, c < 65536 ∧ p0 = nI c) : LHi (oJ T) l yL_feed (ws_L_feed) rm_L_feed D T ol [.ref x0, .int p0, .ref ol] S f 200 2000 (HP ((if e2 227 = 80 then 1 else 0)) (Int32.toInt64 (e2 227 + 1)) (fun S1 => FrS S1 e0 e1 (fun i => if i = 227 then e2 227 + 1 else e2 i) (upd e3 (iv (e2 227)) p0) e4) (fun S1 => FrS S1 e0 e1 e2 e3 e4)) := by
  refine gl_met (own := RL) (by decide) rfl rfl (Nat.le_of_ble_eq_true rfl) ?_
  intro p e s m args below meth c A L C E N ht hr hw hL
  refine g_aload_n C dL_feed_0 rfl 2 rfl ?_
  refine g_iconst (v := 0) C dL_feed_1 (by decide) ?_
  refine g_aload_n C dL_feed_2 rfl 0 rfl ?_
  refine g_iload_n C dL_feed_3 rfl 1 rfl ?_
  have hT : HT cL_feed 4 (ws_L_feed) RL 4 hh_L_feed ["java/lang/IllegalStateException"] := ⟨rfl, fun i z nm h1 h2 => by
    match i, h1, h2 with
    | 0, h1, h2 => cases h1; cases h2; exact ⟨by decide, by decide, by decide, List.mem_cons_of_mem _ kw_298, 1, 3, Or.inl ⟨3, dL_feed_12, rfl, rfl⟩, by decide, dL_feed_13, dL_feed_14⟩
    | n + 1, h1, h2 => simp at h1⟩
  refine gl_tailJ (names := ["java/lang/IllegalStateException"]) C E N ht hr hw hL hx0 (by decide) (by decide) rfl [.int p0] rfl (k_X10_feed l hst D T x0 p0 S e0 e1 e2 e3 e4 200 2000 hx0 ⟨hF.1, hF.2.1, by decide, by decide, hF.2.2⟩) (w0_V 1 C.2.2.2.2.1 kw_524 kw_525 kw_526 kw_1 kw_527 rfl rfl (by decide +kernel) ⟨Nat.le_of_ble_eq_true rfl, Nat.le_of_ble_eq_true rfl⟩) rfl (Nat.le_refl _) (Nat.le_refl _) (Nat.le_refl _) (Nat.le_refl _) dL_feed_4 dL_feed_7 dL_feed_8 dL_feed_9 (z := 15) (by decide) dL_feed_15 dL_feed_16 hT (by decide +kernel) (exnB (by decide +kernel)) (fun E9 S1 h => ?_) (fun v S1 f1 hf h => ?_) (fun i E9 S1 hi h => ?_)
  · obtain ⟨_, rfl⟩ := h.1
    decide +kernel
  · have hc : ¬ e2 227 = 80 := fun z => by
      have h1 := h.1
      rw [if_pos z] at h1
      exact absurd h1 (by decide)
    exact ⟨(if_neg hc).symm, fun _ => ⟨by rw [hf, h.2.1], h.2.2⟩, fun z => absurd (if_neg hc) z⟩
  · match i, hi with
    | 0, hi =>
      cases hi
      obtain ⟨c, e9⟩ := h.1
      have hc : e2 227 = 80 := Classical.byContradiction (fun z => by rw [if_neg z] at c; exact absurd c (by decide))
      exact ⟨by rw [if_pos hc]; decide, fun z => absurd ((if_pos hc).symm.trans z) (by decide), fun _ => h.2⟩
    | n + 1, hi => simp at hi
abbrev hh_L_amend : List (Nat × Nat × Nat × Nat) := [(0, 9, 12, 15), (0, 9, 15, 27)]
abbrev ws_L_amend : List Cond := Cond.codeWith yL_amend cL_amend 4 (some .int) hh_L_amend :: W0
abbrev rm_L_amend : Room := ({ frames := rm_X10_amend.frames + 1, cells := 0, slots := 0, locals := 8 + (8 + 11) + rm_X10_amend.locals } : Room)
set_option maxRecDepth 100000 in
set_option maxHeartbeats 4000000 in
theorem h_L_amend (l : Launch) (hst : l.stackTraces = false) (D : va_G) (T : Nat → ClassId) (x0 ol : Nat) (p0 : Int32) (S : HS) (f : Nat → Int64) (e0 : (Nat → Nat)) (e1 : (Nat → Nat → Int32)) (e2 : (Nat → Int32)) (e3 : (Nat → Int32)) (e4 : (List Int32)) (hx0 : hK S x0 = 11) (hF : FrS S e0 e1 e2 e3 e4 ∧ x0 = e0 50 ∧ hK S (T 120) = 30 ∧ hN S (T 120) = 0) : LHi (oJ T) l yL_amend (ws_L_amend) rm_L_amend D T ol [.ref x0, .int p0, .ref ol] S f 210 12400 (HP (amC e1 e2 e3 p0) (Int32.toInt64 (amV e2 e3)) (fun S1 => FrS S1 e0 (amMu e1 e2 e3 p0) (amGs e2 e3) e3 e4) (fun S1 => FrS S1 e0 e1 (amGx e1 e2 e3 p0) e3 e4)) := by
  refine gl_met (own := RL) (by decide) rfl rfl (Nat.le_of_ble_eq_true rfl) ?_
  intro p e s m args below meth c A L C E N ht hr hw hL
  refine g_aload_n C dL_amend_0 rfl 2 rfl ?_
  refine g_iconst (v := 0) C dL_amend_1 (by decide) ?_
  refine g_aload_n C dL_amend_2 rfl 0 rfl ?_
  refine g_iload_n C dL_amend_3 rfl 1 rfl ?_
  have hT : HT cL_amend 4 (ws_L_amend) RL 4 hh_L_amend ["java/lang/IndexOutOfBoundsException", "java/lang/UnsupportedOperationException"] := ⟨rfl, fun i z nm h1 h2 => by
    match i, h1, h2 with
    | 0, h1, h2 => cases h1; cases h2; exact ⟨by decide, by decide, by decide, List.mem_cons_of_mem _ kw_297, 1, 3, Or.inl ⟨3, dL_amend_12, rfl, rfl⟩, by decide, dL_amend_13, dL_amend_14⟩
    | 1, h1, h2 => cases h1; cases h2; exact ⟨by decide, by decide, by decide, List.mem_cons_of_mem _ kw_531, 1, 3, Or.inl ⟨3, dL_amend_15, rfl, rfl⟩, by decide, dL_amend_16, dL_amend_17⟩
    | n + 2, h1, h2 => simp at h1⟩
  refine gl_tailJ (names := ["java/lang/IndexOutOfBoundsException", "java/lang/UnsupportedOperationException"]) C E N ht hr hw hL hx0 (by decide) (by decide) rfl [.int p0] rfl (k_X10_amend l hst D T x0 p0 S e0 e1 e2 e3 e4 210 12400 hx0 ⟨hF.1, hF.2.1, hF.2.2.1, hF.2.2.2, by decide, by decide⟩) (w0_V 1 C.2.2.2.2.1 kw_532 kw_533 kw_534 kw_1 kw_535 rfl rfl (by decide +kernel) ⟨Nat.le_of_ble_eq_true rfl, Nat.le_of_ble_eq_true rfl⟩) rfl (Nat.le_refl _) (Nat.le_refl _) (Nat.le_refl _) (Nat.le_refl _) dL_amend_4 dL_amend_7 dL_amend_8 dL_amend_9 (z := 18) (by decide) dL_amend_18 dL_amend_19 hT (by decide +kernel) (exnB (by decide +kernel)) (fun E9 S1 h => ?_) (fun v S1 f1 hf h => ?_) (fun i E9 S1 hi h => ?_)
  · rcases h with ⟨e9, _⟩ | ⟨e9, _⟩
    · subst e9; decide +kernel
    · subst e9; decide +kernel
  · obtain ⟨hz, h⟩ := h
    rcases h with ⟨hZ, hv, hS⟩ | ⟨hZ, hn, hv, hS⟩
    · have hC : amC e1 e2 e3 p0 = 0 := by unfold amC; rw [if_neg hz, if_pos hZ]
      refine ⟨hC.symm, fun _ => ⟨?_, ?_⟩, fun z => absurd hC z⟩
      · rw [hf, hv]; unfold amV; rw [if_pos hZ]
      · unfold amMu amGs; rw [if_pos hZ, if_pos hZ]; exact hS
    · have hZ' : ¬ amZ e2 e3 = true := by rw [hZ]; decide
      have hC : amC e1 e2 e3 p0 = 0 := by unfold amC; rw [if_neg hz, if_neg hZ', hn]
      refine ⟨hC.symm, fun _ => ⟨?_, ?_⟩, fun z => absurd hC z⟩
      · rw [hf, hv]; unfold amV; rw [if_neg hZ']
      · unfold amMu amGs; rw [if_neg hZ', if_neg hZ']; exact hS
  · match i, hi with
    | 0, hi =>
      cases hi
      rcases h with ⟨e9, hz, hS⟩ | ⟨e9, _⟩
      · have hC : amC e1 e2 e3 p0 = 1 := by unfold amC; rw [if_pos hz]
        exact ⟨by rw [hC]; decide, fun z => absurd (hC.symm.trans z) (by decide), fun _ => by unfold amGx; rw [if_pos hz]; exact hS⟩
      · exact absurd e9 (by decide)
    | 1, hi =>
      cases hi
      rcases h with ⟨e9, _⟩ | ⟨e9, hz, hZ, i, hi2, hS⟩
      · exact absurd e9 (by decide)
      · have hZ' : ¬ amZ e2 e3 = true := by rw [hZ]; decide
        have hC : amC e1 e2 e3 p0 = 2 := by unfold amC; rw [if_neg hz, if_neg hZ', hi2]
        exact ⟨by rw [hC]; decide, fun z => absurd (hC.symm.trans z) (by decide), fun _ => by unfold amGx; rw [if_neg hz, hi2]; exact hS⟩
    | n + 2, hi => simp at hi
abbrev hh_L_impossible : List (Nat × Nat × Nat × Nat) := [(0, 8, 11, 33)]
abbrev ws_L_impossible : List Cond := Cond.codeWith yL_impossible cL_impossible 3 (some .int) hh_L_impossible :: W0
abbrev rm_L_impossible : Room := ({ frames := rm_X10_impossible.frames + 1, cells := 0, slots := 0, locals := 8 + (1 + 11) + rm_X10_impossible.locals } : Room)
set_option maxRecDepth 100000 in
set_option maxHeartbeats 4000000 in
theorem h_L_impossible (l : Launch) (hst : l.stackTraces = false) (D : va_G) (T : Nat → ClassId) (x0 ol : Nat) (S : HS) (f : Nat → Int64) (e0 : (Nat → Nat)) (e1 : (Nat → Nat → Int32)) (e2 : (Nat → Int32)) (e3 : (Nat → Int32)) (e4 : (List Int32)) (hx0 : hK S x0 = 11) (hF : FrS S e0 e1 e2 e3 e4 ∧ x0 = e0 50) : LHi (oJ T) l yL_impossible (ws_L_impossible) rm_L_impossible D T ol [.ref x0, .ref ol] S f 200 2000 (HP (imX e2) (Int32.toInt64 (e2 229)) (fun S1 => FrS S1 e0 e1 e2 e3 e4) (fun S1 => FrS S1 e0 e1 e2 e3 e4)) := by
  refine gl_met (own := RL) (by decide) rfl rfl (Nat.le_of_ble_eq_true rfl) ?_
  intro p e s m args below meth c A L C E N ht hr hw hL
  refine g_aload_n C dL_impossible_0 rfl 1 rfl ?_
  refine g_iconst (v := 0) C dL_impossible_1 (by decide) ?_
  refine g_aload_n C dL_impossible_2 rfl 0 rfl ?_
  have hT : HT cL_impossible 3 (ws_L_impossible) RL 3 hh_L_impossible ["java/util/NoSuchElementException"] := ⟨rfl, fun i z nm h1 h2 => by
    match i, h1, h2 with
    | 0, h1, h2 => cases h1; cases h2; exact ⟨by decide, by decide, by decide, List.mem_cons_of_mem _ kw_961, 1, 2, Or.inl ⟨2, dL_impossible_11, rfl, rfl⟩, by decide, dL_impossible_12, dL_impossible_13⟩
    | n + 1, h1, h2 => simp at h1⟩
  refine gl_tailJ (names := ["java/util/NoSuchElementException"]) C E N ht hr hw hL hx0 (by decide) (by decide) rfl [] rfl (k_X10_impossible l hst D T x0 S e0 e1 e2 e3 e4 200 2000 hx0 ⟨hF.1, hF.2, by decide, by decide⟩) (w0_V 0 C.2.2.2.2.1 kw_962 kw_963 kw_964 kw_1 kw_965 rfl rfl (by decide +kernel) ⟨Nat.le_of_ble_eq_true rfl, Nat.le_of_ble_eq_true rfl⟩) rfl (Nat.le_refl _) (Nat.le_refl _) (Nat.le_refl _) (Nat.le_refl _) dL_impossible_3 dL_impossible_6 dL_impossible_7 dL_impossible_8 (z := 14) (by decide) dL_impossible_14 dL_impossible_15 hT (by decide +kernel) (exnB (by decide +kernel)) (fun E9 S1 h => ?_) (fun v S1 f1 hf h => ?_) (fun i E9 S1 hi h => ?_)
  · obtain ⟨_, rfl⟩ := h.1
    decide +kernel
  · exact ⟨h.1.symm, fun _ => ⟨by rw [hf, h.2.1], h.2.2⟩, fun z => absurd h.1 z⟩
  · match i, hi with
    | 0, hi =>
      cases hi
      obtain ⟨c, e9⟩ := h.1
      exact ⟨by rw [c]; decide, fun z => absurd (c.symm.trans z) (by decide), fun _ => h.2⟩
    | n + 1, hi => simp at hi
abbrev hh_L_versionOn : List (Nat × Nat × Nat × Nat) := [(0, 9, 12, 13), (0, 9, 15, 33)]
abbrev ws_L_versionOn : List Cond := Cond.codeWith yL_versionOn cL_versionOn 4 (some .int) hh_L_versionOn :: W0
abbrev rm_L_versionOn : Room := ({ frames := rm_X10_versionOn.frames + 1, cells := 0, slots := 0, locals := 8 + (3 + 11) + rm_X10_versionOn.locals } : Room)
set_option maxRecDepth 100000 in
set_option maxHeartbeats 4000000 in
theorem h_L_versionOn (l : Launch) (hst : l.stackTraces = false) (D : va_G) (T : Nat → ClassId) (x0 ol : Nat) (p0 : Int32) (S : HS) (f : Nat → Int64) (e0 : (Nat → Nat)) (e1 : (Nat → Nat → Int32)) (e2 : (Nat → Int32)) (e3 : (Nat → Int32)) (e4 : (List Int32)) (hx0 : hK S x0 = 11) (hF : FrS S e0 e1 e2 e3 e4 ∧ x0 = e0 50) : LHi (oJ T) l yL_versionOn (ws_L_versionOn) rm_L_versionOn D T ol [.ref x0, .int p0, .ref ol] S f 200 2000 (HP (vonC (e1 0) p0) (Int32.toInt64 (vOf (e1 0) p0)) (fun S1 => FrS S1 e0 e1 e2 e3 e4) (fun S1 => FrS S1 e0 e1 e2 e3 e4)) := by
  refine gl_met (own := RL) (by decide) rfl rfl (Nat.le_of_ble_eq_true rfl) ?_
  intro p e s m args below meth c A L C E N ht hr hw hL
  refine g_aload_n C dL_versionOn_0 rfl 2 rfl ?_
  refine g_iconst (v := 0) C dL_versionOn_1 (by decide) ?_
  refine g_aload_n C dL_versionOn_2 rfl 0 rfl ?_
  refine g_iload_n C dL_versionOn_3 rfl 1 rfl ?_
  have hT : HT cL_versionOn 4 (ws_L_versionOn) RL 4 hh_L_versionOn ["java/lang/IllegalArgumentException", "java/util/NoSuchElementException"] := ⟨rfl, fun i z nm h1 h2 => by
    match i, h1, h2 with
    | 0, h1, h2 => cases h1; cases h2; exact ⟨by decide, by decide, by decide, List.mem_cons_of_mem _ kw_296, 1, 3, Or.inl ⟨3, dL_versionOn_12, rfl, rfl⟩, by decide, dL_versionOn_13, dL_versionOn_14⟩
    | 1, h1, h2 => cases h1; cases h2; exact ⟨by decide, by decide, by decide, List.mem_cons_of_mem _ kw_961, 1, 3, Or.inl ⟨3, dL_versionOn_15, rfl, rfl⟩, by decide, dL_versionOn_16, dL_versionOn_17⟩
    | n + 2, h1, h2 => simp at h1⟩
  refine gl_tailJ (names := ["java/lang/IllegalArgumentException", "java/util/NoSuchElementException"]) C E N ht hr hw hL hx0 (by decide) (by decide) rfl [.int p0] rfl (k_X10_versionOn l hst D T x0 p0 S e0 e1 e2 e3 e4 200 2000 hx0 ⟨hF.1, hF.2, by decide, by decide⟩) (w0_V 1 C.2.2.2.2.1 kw_984 kw_985 kw_986 kw_1 kw_987 rfl rfl (by decide +kernel) ⟨Nat.le_of_ble_eq_true rfl, Nat.le_of_ble_eq_true rfl⟩) rfl (Nat.le_refl _) (Nat.le_refl _) (Nat.le_refl _) (Nat.le_refl _) dL_versionOn_4 dL_versionOn_7 dL_versionOn_8 dL_versionOn_9 (z := 18) (by decide) dL_versionOn_18 dL_versionOn_19 hT (by decide +kernel) (exnB (by decide +kernel)) (fun E9 S1 h => ?_) (fun v S1 f1 hf h => ?_) (fun i E9 S1 hi h => ?_)
  · rcases h.1 with ⟨_, rfl⟩ | ⟨_, rfl⟩
    · decide +kernel
    · decide +kernel
  · exact ⟨h.1.symm, fun _ => ⟨by rw [hf, h.2.1], h.2.2⟩, fun z => absurd h.1 z⟩
  · match i, hi with
    | 0, hi =>
      cases hi
      rcases h.1 with ⟨c, e9⟩ | ⟨c, e9⟩
      · exact ⟨by rw [c]; decide, fun z => absurd (c.symm.trans z) (by decide), fun _ => h.2⟩
      · exact absurd e9 (by decide)
    | 1, hi =>
      cases hi
      rcases h.1 with ⟨c, e9⟩ | ⟨c, e9⟩
      · exact absurd e9 (by decide)
      · exact ⟨by rw [c]; decide, fun z => absurd (c.symm.trans z) (by decide), fun _ => h.2⟩
    | n + 2, hi => simp at hi
abbrev hh_L_version : List (Nat × Nat × Nat × Nat) := [(0, 10, 13, 15), (0, 10, 17, 13)]
abbrev ws_L_version : List Cond := Cond.codeWith yL_version cL_version 5 (some .int) hh_L_version :: W0
abbrev rm_L_version : Room := ({ frames := rm_X10_version.frames + 1, cells := 0, slots := 0, locals := 8 + (4 + 11) + rm_X10_version.locals } : Room)
set_option maxRecDepth 100000 in
set_option maxHeartbeats 4000000 in
theorem h_L_version (l : Launch) (hst : l.stackTraces = false) (D : va_G) (T : Nat → ClassId) (x0 ol : Nat) (p0 : Int32) (p1 : Int32) (S : HS) (f : Nat → Int64) (e0 : (Nat → Nat)) (e1 : (Nat → Nat → Int32)) (e2 : (Nat → Int32)) (e3 : (Nat → Int32)) (e4 : (List Int32)) (hx0 : hK S x0 = 11) (hF : FrS S e0 e1 e2 e3 e4 ∧ x0 = e0 50) : LHi (oJ T) l yL_version (ws_L_version) rm_L_version D T ol [.ref x0, .int p0, .int p1, .ref ol] S f 200 2000 (HP (verC (e1 0) p0 p1) (Int32.toInt64 (verA (e1 0) (iv p0) p1)) (fun S1 => FrS S1 e0 e1 e2 e3 e4) (fun S1 => FrS S1 e0 e1 e2 e3 e4)) := by
  refine gl_met (own := RL) (by decide) rfl rfl (Nat.le_of_ble_eq_true rfl) ?_
  intro p e s m args below meth c A L C E N ht hr hw hL
  refine g_aload_n C dL_version_0 rfl 3 rfl ?_
  refine g_iconst (v := 0) C dL_version_1 (by decide) ?_
  refine g_aload_n C dL_version_2 rfl 0 rfl ?_
  refine g_iload_n C dL_version_3 rfl 1 rfl ?_
  refine g_iload_n C dL_version_4 rfl 2 rfl ?_
  have hT : HT cL_version 5 (ws_L_version) RL 5 hh_L_version ["java/lang/IndexOutOfBoundsException", "java/lang/IllegalArgumentException"] := ⟨rfl, fun i z nm h1 h2 => by
    match i, h1, h2 with
    | 0, h1, h2 => cases h1; cases h2; exact ⟨by decide, by decide, by decide, List.mem_cons_of_mem _ kw_297, 2, 4, Or.inr ⟨dL_version_13, rfl⟩, by decide, dL_version_15, dL_version_16⟩
    | 1, h1, h2 => cases h1; cases h2; exact ⟨by decide, by decide, by decide, List.mem_cons_of_mem _ kw_296, 2, 4, Or.inr ⟨dL_version_17, rfl⟩, by decide, dL_version_19, dL_version_20⟩
    | n + 2, h1, h2 => simp at h1⟩
  refine gl_tailJ (names := ["java/lang/IndexOutOfBoundsException", "java/lang/IllegalArgumentException"]) C E N ht hr hw hL hx0 (by decide) (by decide) rfl [.int p0, .int p1] rfl (k_X10_version l hst D T x0 p0 p1 S e0 e1 e2 e3 e4 200 2000 hx0 ⟨hF.1, hF.2, by decide, by decide⟩) (w0_V 2 C.2.2.2.2.1 kw_995 kw_996 kw_997 kw_1 kw_998 rfl rfl (by decide +kernel) ⟨Nat.le_of_ble_eq_true rfl, Nat.le_of_ble_eq_true rfl⟩) rfl (Nat.le_refl _) (Nat.le_refl _) (Nat.le_refl _) (Nat.le_refl _) dL_version_5 dL_version_8 dL_version_9 dL_version_10 (z := 21) (by decide) dL_version_21 dL_version_22 hT (by decide +kernel) (exnB (by decide +kernel)) (fun E9 S1 h => ?_) (fun v S1 f1 hf h => ?_) (fun i E9 S1 hi h => ?_)
  · rcases h.1 with ⟨_, rfl⟩ | ⟨_, rfl⟩
    · decide +kernel
    · decide +kernel
  · exact ⟨h.1.symm, fun _ => ⟨by rw [hf, h.2.1], h.2.2⟩, fun z => absurd h.1 z⟩
  · match i, hi with
    | 0, hi =>
      cases hi
      rcases h.1 with ⟨c, e9⟩ | ⟨c, e9⟩
      · exact ⟨by rw [c]; decide, fun z => absurd (c.symm.trans z) (by decide), fun _ => h.2⟩
      · exact absurd e9 (by decide)
    | 1, hi =>
      cases hi
      rcases h.1 with ⟨c, e9⟩ | ⟨c, e9⟩
      · exact absurd e9 (by decide)
      · exact ⟨by rw [c]; decide, fun z => absurd (c.symm.trans z) (by decide), fun _ => h.2⟩
    | n + 2, hi => simp at hi
abbrev hh_L_zoneOf : List (Nat × Nat × Nat × Nat) := [(0, 10, 13, 15), (0, 10, 17, 33)]
abbrev ws_L_zoneOf : List Cond := Cond.codeWith yL_zoneOf cL_zoneOf 5 (some .int) hh_L_zoneOf :: W0
abbrev rm_L_zoneOf : Room := ({ frames := rm_X10_zoneOf.frames + 1, cells := 0, slots := 0, locals := 8 + (5 + 11) + rm_X10_zoneOf.locals } : Room)
set_option maxRecDepth 100000 in
set_option maxHeartbeats 4000000 in
theorem h_L_zoneOf (l : Launch) (hst : l.stackTraces = false) (D : va_G) (T : Nat → ClassId) (x0 ol : Nat) (p0 : Int32) (p1 : Int32) (S : HS) (f : Nat → Int64) (e0 : (Nat → Nat)) (e1 : (Nat → Nat → Int32)) (e2 : (Nat → Int32)) (e3 : (Nat → Int32)) (e4 : (List Int32)) (hx0 : hK S x0 = 11) (hF : FrS S e0 e1 e2 e3 e4 ∧ x0 = e0 50) : LHi (oJ T) l yL_zoneOf (ws_L_zoneOf) rm_L_zoneOf D T ol [.ref x0, .int p0, .int p1, .ref ol] S f 200 2000 (HP (zonC (e1 0) p0 p1) (Int32.toInt64 (zIn (e1 0) (iv p0) p1)) (fun S1 => FrS S1 e0 e1 e2 e3 e4) (fun S1 => FrS S1 e0 e1 e2 e3 e4)) := by
  refine gl_met (own := RL) (by decide) rfl rfl (Nat.le_of_ble_eq_true rfl) ?_
  intro p e s m args below meth c A L C E N ht hr hw hL
  refine g_aload_n C dL_zoneOf_0 rfl 3 rfl ?_
  refine g_iconst (v := 0) C dL_zoneOf_1 (by decide) ?_
  refine g_aload_n C dL_zoneOf_2 rfl 0 rfl ?_
  refine g_iload_n C dL_zoneOf_3 rfl 1 rfl ?_
  refine g_iload_n C dL_zoneOf_4 rfl 2 rfl ?_
  have hT : HT cL_zoneOf 5 (ws_L_zoneOf) RL 5 hh_L_zoneOf ["java/lang/IndexOutOfBoundsException", "java/util/NoSuchElementException"] := ⟨rfl, fun i z nm h1 h2 => by
    match i, h1, h2 with
    | 0, h1, h2 => cases h1; cases h2; exact ⟨by decide, by decide, by decide, List.mem_cons_of_mem _ kw_297, 2, 4, Or.inr ⟨dL_zoneOf_13, rfl⟩, by decide, dL_zoneOf_15, dL_zoneOf_16⟩
    | 1, h1, h2 => cases h1; cases h2; exact ⟨by decide, by decide, by decide, List.mem_cons_of_mem _ kw_961, 2, 4, Or.inr ⟨dL_zoneOf_17, rfl⟩, by decide, dL_zoneOf_19, dL_zoneOf_20⟩
    | n + 2, h1, h2 => simp at h1⟩
  refine gl_tailJ (names := ["java/lang/IndexOutOfBoundsException", "java/util/NoSuchElementException"]) C E N ht hr hw hL hx0 (by decide) (by decide) rfl [.int p0, .int p1] rfl (k_X10_zoneOf l hst D T x0 p0 p1 S e0 e1 e2 e3 e4 200 2000 hx0 ⟨hF.1, hF.2, by decide, by decide⟩) (w0_V 2 C.2.2.2.2.1 kw_1010 kw_1011 kw_1012 kw_1 kw_1013 rfl rfl (by decide +kernel) ⟨Nat.le_of_ble_eq_true rfl, Nat.le_of_ble_eq_true rfl⟩) rfl (Nat.le_refl _) (Nat.le_refl _) (Nat.le_refl _) (Nat.le_refl _) dL_zoneOf_5 dL_zoneOf_8 dL_zoneOf_9 dL_zoneOf_10 (z := 21) (by decide) dL_zoneOf_21 dL_zoneOf_22 hT (by decide +kernel) (exnB (by decide +kernel)) (fun E9 S1 h => ?_) (fun v S1 f1 hf h => ?_) (fun i E9 S1 hi h => ?_)
  · rcases h.1 with ⟨_, rfl⟩ | ⟨_, rfl⟩
    · decide +kernel
    · decide +kernel
  · exact ⟨h.1.symm, fun _ => ⟨by rw [hf, h.2.1], h.2.2⟩, fun z => absurd h.1 z⟩
  · match i, hi with
    | 0, hi =>
      cases hi
      rcases h.1 with ⟨c, e9⟩ | ⟨c, e9⟩
      · exact ⟨by rw [c]; decide, fun z => absurd (c.symm.trans z) (by decide), fun _ => h.2⟩
      · exact absurd e9 (by decide)
    | 1, hi =>
      cases hi
      rcases h.1 with ⟨c, e9⟩ | ⟨c, e9⟩
      · exact absurd e9 (by decide)
      · exact ⟨by rw [c]; decide, fun z => absurd (c.symm.trans z) (by decide), fun _ => h.2⟩
    | n + 2, hi => simp at hi
abbrev hh_L_breakOf : List (Nat × Nat × Nat × Nat) := [(0, 14, 17, 15)]
abbrev ws_L_breakOf : List Cond := Cond.codeWith yL_breakOf cL_breakOf 7 (some .int) hh_L_breakOf :: W0
abbrev rm_L_breakOf : Room := ({ frames := rm_X10_breakOf.frames + 1, cells := 0, slots := 0, locals := 8 + (6 + 11) + rm_X10_breakOf.locals } : Room)
set_option maxRecDepth 100000 in
set_option maxHeartbeats 4000000 in
theorem h_L_breakOf (l : Launch) (hst : l.stackTraces = false) (D : va_G) (T : Nat → ClassId) (x0 ol : Nat) (p0 : Int32) (p1 : Int32) (p2 : Int32) (p3 : Int32) (S : HS) (f : Nat → Int64) (e0 : (Nat → Nat)) (e1 : (Nat → Nat → Int32)) (e2 : (Nat → Int32)) (e3 : (Nat → Int32)) (e4 : (List Int32)) (hx0 : hK S x0 = 11) (hF : FrS S e0 e1 e2 e3 e4 ∧ x0 = e0 50) : LHi (oJ T) l yL_breakOf (ws_L_breakOf) rm_L_breakOf D T ol [.ref x0, .int p0, .int p1, .int p2, .int p3, .ref ol] S f 200 2000 (HP (brkC (e1 0) p0 p1 p2) (Int32.toInt64 (brkA (e1 0) (iv p0) (iv p1) p2 p3)) (fun S1 => FrS S1 e0 e1 e2 e3 e4) (fun S1 => FrS S1 e0 e1 e2 e3 e4)) := by
  refine gl_met (own := RL) (by decide) rfl rfl (Nat.le_of_ble_eq_true rfl) ?_
  intro p e s m args below meth c A L C E N ht hr hw hL
  refine g_aload C dL_breakOf_0 5 rfl ?_
  refine g_iconst (v := 0) C dL_breakOf_2 (by decide) ?_
  refine g_aload_n C dL_breakOf_3 rfl 0 rfl ?_
  refine g_iload_n C dL_breakOf_4 rfl 1 rfl ?_
  refine g_iload_n C dL_breakOf_5 rfl 2 rfl ?_
  refine g_iload_n C dL_breakOf_6 rfl 3 rfl ?_
  refine g_iload C dL_breakOf_7 4 rfl ?_
  have hT : HT cL_breakOf 7 (ws_L_breakOf) RL 9 hh_L_breakOf ["java/lang/IndexOutOfBoundsException"] := ⟨rfl, fun i z nm h1 h2 => by
    match i, h1, h2 with
    | 0, h1, h2 => cases h1; cases h2; exact ⟨by decide, by decide, by decide, List.mem_cons_of_mem _ kw_297, 2, 6, Or.inr ⟨dL_breakOf_17, rfl⟩, by decide, dL_breakOf_19, dL_breakOf_20⟩
    | n + 1, h1, h2 => simp at h1⟩
  refine gl_tailJ (names := ["java/lang/IndexOutOfBoundsException"]) C E N ht hr hw hL hx0 (by decide) (by decide) rfl [.int p0, .int p1, .int p2, .int p3] rfl (k_X10_breakOf l hst D T x0 p0 p1 p2 p3 S e0 e1 e2 e3 e4 200 2000 hx0 ⟨hF.1, hF.2, by decide, by decide⟩) (w0_V 4 C.2.2.2.2.1 kw_1021 kw_1022 kw_1023 kw_1 kw_1024 rfl rfl (by decide +kernel) ⟨Nat.le_of_ble_eq_true rfl, Nat.le_of_ble_eq_true rfl⟩) rfl (Nat.le_refl _) (Nat.le_refl _) (Nat.le_refl _) (Nat.le_refl _) dL_breakOf_9 dL_breakOf_12 dL_breakOf_13 dL_breakOf_14 (z := 21) (by decide) dL_breakOf_21 dL_breakOf_22 hT (by decide +kernel) (exnB (by decide +kernel)) (fun E9 S1 h => ?_) (fun v S1 f1 hf h => ?_) (fun i E9 S1 hi h => ?_)
  · obtain ⟨_, rfl⟩ := h.1
    decide +kernel
  · exact ⟨h.1.symm, fun _ => ⟨by rw [hf, h.2.1], h.2.2⟩, fun z => absurd h.1 z⟩
  · match i, hi with
    | 0, hi =>
      cases hi
      obtain ⟨c, e9⟩ := h.1
      exact ⟨by rw [c]; decide, fun z => absurd (c.symm.trans z) (by decide), fun _ => h.2⟩
    | n + 1, hi => simp at hi
abbrev hh_L_accessorial : List (Nat × Nat × Nat × Nat) := [(0, 12, 15, 15), (0, 12, 19, 33), (0, 12, 23, 13)]
abbrev ws_L_accessorial : List Cond := Cond.codeWith yL_accessorial cL_accessorial 6 (some .int) hh_L_accessorial :: W0
abbrev rm_L_accessorial : Room := ({ frames := rm_X10_accessorial.frames + 1, cells := 0, slots := 0, locals := 8 + (5 + 11) + rm_X10_accessorial.locals } : Room)
set_option maxRecDepth 100000 in
set_option maxHeartbeats 4000000 in
theorem h_L_accessorial (l : Launch) (hst : l.stackTraces = false) (D : va_G) (T : Nat → ClassId) (x0 ol : Nat) (p0 : Int32) (p1 : Int32) (p2 : Int32) (S : HS) (f : Nat → Int64) (e0 : (Nat → Nat)) (e1 : (Nat → Nat → Int32)) (e2 : (Nat → Int32)) (e3 : (Nat → Int32)) (e4 : (List Int32)) (hx0 : hK S x0 = 11) (hF : FrS S e0 e1 e2 e3 e4 ∧ x0 = e0 50) : LHi (oJ T) l yL_accessorial (ws_L_accessorial) rm_L_accessorial D T ol [.ref x0, .int p0, .int p1, .int p2, .ref ol] S f 200 2000 (HP (accC (e1 0) p0 p1 p2) (Int32.toInt64 (e1 0 (274 + 510 * iv p0 + 150 + 36 * iv p1 + 1 + iv p2))) (fun S1 => FrS S1 e0 e1 e2 e3 e4) (fun S1 => FrS S1 e0 e1 e2 e3 e4)) := by
  refine gl_met (own := RL) (by decide) rfl rfl (Nat.le_of_ble_eq_true rfl) ?_
  intro p e s m args below meth c A L C E N ht hr hw hL
  refine g_aload C dL_accessorial_0 4 rfl ?_
  refine g_iconst (v := 0) C dL_accessorial_2 (by decide) ?_
  refine g_aload_n C dL_accessorial_3 rfl 0 rfl ?_
  refine g_iload_n C dL_accessorial_4 rfl 1 rfl ?_
  refine g_iload_n C dL_accessorial_5 rfl 2 rfl ?_
  refine g_iload_n C dL_accessorial_6 rfl 3 rfl ?_
  have hT : HT cL_accessorial 6 (ws_L_accessorial) RL 7 hh_L_accessorial ["java/lang/IndexOutOfBoundsException", "java/util/NoSuchElementException", "java/lang/IllegalArgumentException"] := ⟨rfl, fun i z nm h1 h2 => by
    match i, h1, h2 with
    | 0, h1, h2 => cases h1; cases h2; exact ⟨by decide, by decide, by decide, List.mem_cons_of_mem _ kw_297, 2, 5, Or.inr ⟨dL_accessorial_15, rfl⟩, by decide, dL_accessorial_17, dL_accessorial_18⟩
    | 1, h1, h2 => cases h1; cases h2; exact ⟨by decide, by decide, by decide, List.mem_cons_of_mem _ kw_961, 2, 5, Or.inr ⟨dL_accessorial_19, rfl⟩, by decide, dL_accessorial_21, dL_accessorial_22⟩
    | 2, h1, h2 => cases h1; cases h2; exact ⟨by decide, by decide, by decide, List.mem_cons_of_mem _ kw_296, 2, 5, Or.inr ⟨dL_accessorial_23, rfl⟩, by decide, dL_accessorial_25, dL_accessorial_26⟩
    | n + 3, h1, h2 => simp at h1⟩
  refine gl_tailJ (names := ["java/lang/IndexOutOfBoundsException", "java/util/NoSuchElementException", "java/lang/IllegalArgumentException"]) C E N ht hr hw hL hx0 (by decide) (by decide) rfl [.int p0, .int p1, .int p2] rfl (k_X10_accessorial l hst D T x0 p0 p1 p2 S e0 e1 e2 e3 e4 200 2000 hx0 ⟨hF.1, hF.2, by decide, by decide⟩) (w0_V 3 C.2.2.2.2.1 kw_1033 kw_1034 kw_1035 kw_1 kw_1036 rfl rfl (by decide +kernel) ⟨Nat.le_of_ble_eq_true rfl, Nat.le_of_ble_eq_true rfl⟩) rfl (Nat.le_refl _) (Nat.le_refl _) (Nat.le_refl _) (Nat.le_refl _) dL_accessorial_7 dL_accessorial_10 dL_accessorial_11 dL_accessorial_12 (z := 27) (by decide) dL_accessorial_27 dL_accessorial_28 hT (by decide +kernel) (exnB (by decide +kernel)) (fun E9 S1 h => ?_) (fun v S1 f1 hf h => ?_) (fun i E9 S1 hi h => ?_)
  · rcases h.1 with ⟨_, rfl⟩ | ⟨_, rfl⟩ | ⟨_, rfl⟩
    · decide +kernel
    · decide +kernel
    · decide +kernel
  · exact ⟨h.1.symm, fun _ => ⟨by rw [hf, h.2.1], h.2.2⟩, fun z => absurd h.1 z⟩
  · match i, hi with
    | 0, hi =>
      cases hi
      rcases h.1 with ⟨c, e9⟩ | ⟨c, e9⟩ | ⟨c, e9⟩
      · exact ⟨by rw [c]; decide, fun z => absurd (c.symm.trans z) (by decide), fun _ => h.2⟩
      · exact absurd e9 (by decide)
      · exact absurd e9 (by decide)
    | 1, hi =>
      cases hi
      rcases h.1 with ⟨c, e9⟩ | ⟨c, e9⟩ | ⟨c, e9⟩
      · exact absurd e9 (by decide)
      · exact ⟨by rw [c]; decide, fun z => absurd (c.symm.trans z) (by decide), fun _ => h.2⟩
      · exact absurd e9 (by decide)
    | 2, hi =>
      cases hi
      rcases h.1 with ⟨c, e9⟩ | ⟨c, e9⟩ | ⟨c, e9⟩
      · exact absurd e9 (by decide)
      · exact absurd e9 (by decide)
      · exact ⟨by rw [c]; decide, fun z => absurd (c.symm.trans z) (by decide), fun _ => h.2⟩
    | n + 3, hi => simp at hi
abbrev hh_L_base : List (Nat × Nat × Nat × Nat) := [(0, 12, 15, 15), (0, 12, 19, 13), (0, 12, 23, 33)]
abbrev ws_L_base : List Cond := Cond.codeWith yL_base cL_base 6 (some .int) hh_L_base :: W0
abbrev rm_L_base : Room := ({ frames := rm_X10_base.frames + 1, cells := 0, slots := 0, locals := 8 + (6 + 11) + rm_X10_base.locals } : Room)
set_option maxRecDepth 100000 in
set_option maxHeartbeats 4000000 in
theorem h_L_base (l : Launch) (hst : l.stackTraces = false) (D : va_G) (T : Nat → ClassId) (x0 ol : Nat) (p0 : Int32) (p1 : Int32) (p2 : Int32) (S : HS) (f : Nat → Int64) (e0 : (Nat → Nat)) (e1 : (Nat → Nat → Int32)) (e2 : (Nat → Int32)) (e3 : (Nat → Int32)) (e4 : (List Int32)) (hx0 : hK S x0 = 11) (hF : FrS S e0 e1 e2 e3 e4 ∧ x0 = e0 50) : LHi (oJ T) l yL_base (ws_L_base) rm_L_base D T ol [.ref x0, .int p0, .int p1, .int p2, .ref ol] S f 200 2000 (HP (basC (e1 0) p0 p1 p2) (Int32.toInt64 (baseF (e1 0) (iv p0) (iv p1) p2)) (fun S1 => FrS S1 e0 e1 e2 e3 e4) (fun S1 => FrS S1 e0 e1 e2 e3 e4)) := by
  refine gl_met (own := RL) (by decide) rfl rfl (Nat.le_of_ble_eq_true rfl) ?_
  intro p e s m args below meth c A L C E N ht hr hw hL
  refine g_aload C dL_base_0 4 rfl ?_
  refine g_iconst (v := 0) C dL_base_2 (by decide) ?_
  refine g_aload_n C dL_base_3 rfl 0 rfl ?_
  refine g_iload_n C dL_base_4 rfl 1 rfl ?_
  refine g_iload_n C dL_base_5 rfl 2 rfl ?_
  refine g_iload_n C dL_base_6 rfl 3 rfl ?_
  have hT : HT cL_base 6 (ws_L_base) RL 7 hh_L_base ["java/lang/IndexOutOfBoundsException", "java/lang/IllegalArgumentException", "java/util/NoSuchElementException"] := ⟨rfl, fun i z nm h1 h2 => by
    match i, h1, h2 with
    | 0, h1, h2 => cases h1; cases h2; exact ⟨by decide, by decide, by decide, List.mem_cons_of_mem _ kw_297, 2, 5, Or.inr ⟨dL_base_15, rfl⟩, by decide, dL_base_17, dL_base_18⟩
    | 1, h1, h2 => cases h1; cases h2; exact ⟨by decide, by decide, by decide, List.mem_cons_of_mem _ kw_296, 2, 5, Or.inr ⟨dL_base_19, rfl⟩, by decide, dL_base_21, dL_base_22⟩
    | 2, h1, h2 => cases h1; cases h2; exact ⟨by decide, by decide, by decide, List.mem_cons_of_mem _ kw_961, 2, 5, Or.inr ⟨dL_base_23, rfl⟩, by decide, dL_base_25, dL_base_26⟩
    | n + 3, h1, h2 => simp at h1⟩
  refine gl_tailJ (names := ["java/lang/IndexOutOfBoundsException", "java/lang/IllegalArgumentException", "java/util/NoSuchElementException"]) C E N ht hr hw hL hx0 (by decide) (by decide) rfl [.int p0, .int p1, .int p2] rfl (k_X10_base l hst D T x0 p0 p1 p2 S e0 e1 e2 e3 e4 200 2000 hx0 ⟨hF.1, hF.2, by decide, by decide⟩) (w0_V 3 C.2.2.2.2.1 kw_1045 kw_1046 kw_1047 kw_1 kw_1048 rfl rfl (by decide +kernel) ⟨Nat.le_of_ble_eq_true rfl, Nat.le_of_ble_eq_true rfl⟩) rfl (Nat.le_refl _) (Nat.le_refl _) (Nat.le_refl _) (Nat.le_refl _) dL_base_7 dL_base_10 dL_base_11 dL_base_12 (z := 27) (by decide) dL_base_27 dL_base_28 hT (by decide +kernel) (exnB (by decide +kernel)) (fun E9 S1 h => ?_) (fun v S1 f1 hf h => ?_) (fun i E9 S1 hi h => ?_)
  · rcases h.1 with ⟨_, rfl⟩ | ⟨_, rfl⟩ | ⟨_, rfl⟩
    · decide +kernel
    · decide +kernel
    · decide +kernel
  · exact ⟨h.1.symm, fun _ => ⟨by rw [hf, h.2.1], h.2.2⟩, fun z => absurd h.1 z⟩
  · match i, hi with
    | 0, hi =>
      cases hi
      rcases h.1 with ⟨c, e9⟩ | ⟨c, e9⟩ | ⟨c, e9⟩
      · exact ⟨by rw [c]; decide, fun z => absurd (c.symm.trans z) (by decide), fun _ => h.2⟩
      · exact absurd e9 (by decide)
      · exact absurd e9 (by decide)
    | 1, hi =>
      cases hi
      rcases h.1 with ⟨c, e9⟩ | ⟨c, e9⟩ | ⟨c, e9⟩
      · exact absurd e9 (by decide)
      · exact ⟨by rw [c]; decide, fun z => absurd (c.symm.trans z) (by decide), fun _ => h.2⟩
      · exact absurd e9 (by decide)
    | 2, hi =>
      cases hi
      rcases h.1 with ⟨c, e9⟩ | ⟨c, e9⟩ | ⟨c, e9⟩
      · exact absurd e9 (by decide)
      · exact absurd e9 (by decide)
      · exact ⟨by rw [c]; decide, fun z => absurd (c.symm.trans z) (by decide), fun _ => h.2⟩
    | n + 3, hi => simp at hi
abbrev hh_L_ship : List (Nat × Nat × Nat × Nat) := [(0, 14, 17, 13), (0, 14, 21, 17)]
abbrev ws_L_ship : List Cond := Cond.codeWith yL_ship cL_ship 7 (some .int) hh_L_ship :: W0
abbrev rm_L_ship : Room := ({ frames := rm_X10_ship.frames + 1, cells := 0, slots := 0, locals := 8 + (5 + 11) + rm_X10_ship.locals } : Room)
set_option maxRecDepth 100000 in
set_option maxHeartbeats 4000000 in
theorem h_L_ship (l : Launch) (hst : l.stackTraces = false) (D : va_G) (T : Nat → ClassId) (x0 ol : Nat) (p0 : Int32) (p1 : Int32) (p2 : Int32) (p3 : Int32) (S : HS) (f : Nat → Int64) (e0 : (Nat → Nat)) (e1 : (Nat → Nat → Int32)) (e2 : (Nat → Int32)) (e3 : (Nat → Int32)) (e4 : (List Int32)) (hx0 : hK S x0 = 11) (hF : FrS S e0 e1 e2 e3 e4 ∧ x0 = e0 50) : LHi (oJ T) l yL_ship (ws_L_ship) rm_L_ship D T ol [.ref x0, .int p0, .int p1, .int p2, .int p3, .ref ol] S f 200 2000 (HP (shiC (e1 0) p0 p1 p2 p3) (Int32.toInt64 (e1 0 1)) (fun S1 => FrS S1 e0 (fun t => if t = 0 then shiF (e1 0) p0 p1 p2 p3 else rmU e1 e2 t) (rmG e2) e3 e4) (fun S1 => FrS S1 e0 e1 e2 e3 e4)) := by
  refine gl_met (own := RL) (by decide) rfl rfl (Nat.le_of_ble_eq_true rfl) ?_
  intro p e s m args below meth c A L C E N ht hr hw hL
  refine g_aload C dL_ship_0 5 rfl ?_
  refine g_iconst (v := 0) C dL_ship_2 (by decide) ?_
  refine g_aload_n C dL_ship_3 rfl 0 rfl ?_
  refine g_iload_n C dL_ship_4 rfl 1 rfl ?_
  refine g_iload_n C dL_ship_5 rfl 2 rfl ?_
  refine g_iload_n C dL_ship_6 rfl 3 rfl ?_
  refine g_iload C dL_ship_7 4 rfl ?_
  have hT : HT cL_ship 7 (ws_L_ship) RL 9 hh_L_ship ["java/lang/IllegalArgumentException", "java/lang/IllegalStateException"] := ⟨rfl, fun i z nm h1 h2 => by
    match i, h1, h2 with
    | 0, h1, h2 => cases h1; cases h2; exact ⟨by decide, by decide, by decide, List.mem_cons_of_mem _ kw_296, 2, 6, Or.inr ⟨dL_ship_17, rfl⟩, by decide, dL_ship_19, dL_ship_20⟩
    | 1, h1, h2 => cases h1; cases h2; exact ⟨by decide, by decide, by decide, List.mem_cons_of_mem _ kw_298, 2, 6, Or.inr ⟨dL_ship_21, rfl⟩, by decide, dL_ship_23, dL_ship_24⟩
    | n + 2, h1, h2 => simp at h1⟩
  refine gl_tailJ (names := ["java/lang/IllegalArgumentException", "java/lang/IllegalStateException"]) C E N ht hr hw hL hx0 (by decide) (by decide) rfl [.int p0, .int p1, .int p2, .int p3] rfl (k_X10_ship l hst D T x0 p0 p1 p2 p3 S e0 e1 e2 e3 e4 200 2000 hx0 ⟨hF.1, hF.2, by decide, by decide⟩) (w0_V 4 C.2.2.2.2.1 kw_1066 kw_1067 kw_1068 kw_1 kw_1069 rfl rfl (by decide +kernel) ⟨Nat.le_of_ble_eq_true rfl, Nat.le_of_ble_eq_true rfl⟩) rfl (Nat.le_refl _) (Nat.le_refl _) (Nat.le_refl _) (Nat.le_refl _) dL_ship_9 dL_ship_12 dL_ship_13 dL_ship_14 (z := 25) (by decide) dL_ship_25 dL_ship_26 hT (by decide +kernel) (exnB (by decide +kernel)) (fun E9 S1 h => ?_) (fun v S1 f1 hf h => ?_) (fun i E9 S1 hi h => ?_)
  · rcases h.1 with ⟨_, rfl⟩ | ⟨_, rfl⟩
    · decide +kernel
    · decide +kernel
  · exact ⟨h.1.symm, fun _ => ⟨by rw [hf, h.2.1], h.2.2⟩, fun z => absurd h.1 z⟩
  · match i, hi with
    | 0, hi =>
      cases hi
      rcases h.1 with ⟨c, e9⟩ | ⟨c, e9⟩
      · exact ⟨by rw [c]; decide, fun z => absurd (c.symm.trans z) (by decide), fun _ => h.2⟩
      · exact absurd e9 (by decide)
    | 1, hi =>
      cases hi
      rcases h.1 with ⟨c, e9⟩ | ⟨c, e9⟩
      · exact absurd e9 (by decide)
      · exact ⟨by rw [c]; decide, fun z => absurd (c.symm.trans z) (by decide), fun _ => h.2⟩
    | n + 2, hi => simp at hi
abbrev hh_L_pack : List (Nat × Nat × Nat × Nat) := [(0, 16, 19, 15), (0, 16, 23, 13), (0, 16, 27, 17)]
abbrev ws_L_pack : List Cond := Cond.codeWith yL_pack cL_pack 8 (some .int) hh_L_pack :: W0
abbrev rm_L_pack : Room := ({ frames := rm_X10_pack.frames + 1, cells := 0, slots := 0, locals := 8 + (8 + 11) + rm_X10_pack.locals } : Room)
set_option maxRecDepth 100000 in
set_option maxHeartbeats 4000000 in
theorem h_L_pack (l : Launch) (hst : l.stackTraces = false) (D : va_G) (T : Nat → ClassId) (x0 ol : Nat) (p0 : Int32) (p1 : Int32) (p2 : Int32) (p3 : Int32) (p4 : Int32) (S : HS) (f : Nat → Int64) (e0 : (Nat → Nat)) (e1 : (Nat → Nat → Int32)) (e2 : (Nat → Int32)) (e3 : (Nat → Int32)) (e4 : (List Int32)) (hx0 : hK S x0 = 11) (hF : FrS S e0 e1 e2 e3 e4 ∧ x0 = e0 50) : LHi (oJ T) l yL_pack (ws_L_pack) rm_L_pack D T ol [.ref x0, .int p0, .int p1, .int p2, .int p3, .int p4, .ref ol] S f 200 2000 (HP (pakC (e1 0) p0 p1 p2 p3 p4) (Int32.toInt64 (e1 0 (14 + 26 * iv p0 + 4) + 1)) (fun S1 => FrS S1 e0 (fun t => if t = 0 then pakF (e1 0) (iv p0) p1 p2 p3 p4 else rmU e1 e2 t) (rmG e2) e3 e4) (fun S1 => FrS S1 e0 e1 e2 e3 e4)) := by
  refine gl_met (own := RL) (by decide) rfl rfl (Nat.le_of_ble_eq_true rfl) ?_
  intro p e s m args below meth c A L C E N ht hr hw hL
  refine g_aload C dL_pack_0 6 rfl ?_
  refine g_iconst (v := 0) C dL_pack_2 (by decide) ?_
  refine g_aload_n C dL_pack_3 rfl 0 rfl ?_
  refine g_iload_n C dL_pack_4 rfl 1 rfl ?_
  refine g_iload_n C dL_pack_5 rfl 2 rfl ?_
  refine g_iload_n C dL_pack_6 rfl 3 rfl ?_
  refine g_iload C dL_pack_7 4 rfl ?_
  refine g_iload C dL_pack_9 5 rfl ?_
  have hT : HT cL_pack 8 (ws_L_pack) RL 11 hh_L_pack ["java/lang/IndexOutOfBoundsException", "java/lang/IllegalArgumentException", "java/lang/IllegalStateException"] := ⟨rfl, fun i z nm h1 h2 => by
    match i, h1, h2 with
    | 0, h1, h2 => cases h1; cases h2; exact ⟨by decide, by decide, by decide, List.mem_cons_of_mem _ kw_297, 2, 7, Or.inr ⟨dL_pack_19, rfl⟩, by decide, dL_pack_21, dL_pack_22⟩
    | 1, h1, h2 => cases h1; cases h2; exact ⟨by decide, by decide, by decide, List.mem_cons_of_mem _ kw_296, 2, 7, Or.inr ⟨dL_pack_23, rfl⟩, by decide, dL_pack_25, dL_pack_26⟩
    | 2, h1, h2 => cases h1; cases h2; exact ⟨by decide, by decide, by decide, List.mem_cons_of_mem _ kw_298, 2, 7, Or.inr ⟨dL_pack_27, rfl⟩, by decide, dL_pack_29, dL_pack_30⟩
    | n + 3, h1, h2 => simp at h1⟩
  refine gl_tailJ (names := ["java/lang/IndexOutOfBoundsException", "java/lang/IllegalArgumentException", "java/lang/IllegalStateException"]) C E N ht hr hw hL hx0 (by decide) (by decide) rfl [.int p0, .int p1, .int p2, .int p3, .int p4] rfl (k_X10_pack l hst D T x0 p0 p1 p2 p3 p4 S e0 e1 e2 e3 e4 200 2000 hx0 ⟨hF.1, hF.2, by decide, by decide⟩) (w0_V 5 C.2.2.2.2.1 kw_1130 kw_1131 kw_1132 kw_1 kw_1133 rfl rfl (by decide +kernel) ⟨Nat.le_of_ble_eq_true rfl, Nat.le_of_ble_eq_true rfl⟩) rfl (Nat.le_refl _) (Nat.le_refl _) (Nat.le_refl _) (Nat.le_refl _) dL_pack_11 dL_pack_14 dL_pack_15 dL_pack_16 (z := 31) (by decide) dL_pack_31 dL_pack_32 hT (by decide +kernel) (exnB (by decide +kernel)) (fun E9 S1 h => ?_) (fun v S1 f1 hf h => ?_) (fun i E9 S1 hi h => ?_)
  · rcases h.1 with ⟨_, rfl⟩ | ⟨_, rfl⟩ | ⟨_, rfl⟩
    · decide +kernel
    · decide +kernel
    · decide +kernel
  · exact ⟨h.1.symm, fun _ => ⟨by rw [hf, h.2.1], h.2.2⟩, fun z => absurd h.1 z⟩
  · match i, hi with
    | 0, hi =>
      cases hi
      rcases h.1 with ⟨c, e9⟩ | ⟨c, e9⟩ | ⟨c, e9⟩
      · exact ⟨by rw [c]; decide, fun z => absurd (c.symm.trans z) (by decide), fun _ => h.2⟩
      · exact absurd e9 (by decide)
      · exact absurd e9 (by decide)
    | 1, hi =>
      cases hi
      rcases h.1 with ⟨c, e9⟩ | ⟨c, e9⟩ | ⟨c, e9⟩
      · exact absurd e9 (by decide)
      · exact ⟨by rw [c]; decide, fun z => absurd (c.symm.trans z) (by decide), fun _ => h.2⟩
      · exact absurd e9 (by decide)
    | 2, hi =>
      cases hi
      rcases h.1 with ⟨c, e9⟩ | ⟨c, e9⟩ | ⟨c, e9⟩
      · exact absurd e9 (by decide)
      · exact absurd e9 (by decide)
      · exact ⟨by rw [c]; decide, fun z => absurd (c.symm.trans z) (by decide), fun _ => h.2⟩
    | n + 3, hi => simp at hi
abbrev hh_L_route : List (Nat × Nat × Nat × Nat) := [(0, 12, 15, 15), (0, 12, 19, 13), (0, 12, 23, 17)]
abbrev ws_L_route : List Cond := Cond.codeWith yL_route cL_route 6 (some .int) hh_L_route :: W0
abbrev rm_L_route : Room := ({ frames := rm_X10_route.frames + 1, cells := 0, slots := 0, locals := 8 + (6 + 11) + rm_X10_route.locals } : Room)
set_option maxRecDepth 100000 in
set_option maxHeartbeats 4000000 in
theorem h_L_route (l : Launch) (hst : l.stackTraces = false) (D : va_G) (T : Nat → ClassId) (x0 ol : Nat) (p0 : Int32) (p1 : Int32) (p2 : Int32) (S : HS) (f : Nat → Int64) (e0 : (Nat → Nat)) (e1 : (Nat → Nat → Int32)) (e2 : (Nat → Int32)) (e3 : (Nat → Int32)) (e4 : (List Int32)) (hx0 : hK S x0 = 11) (hF : FrS S e0 e1 e2 e3 e4 ∧ x0 = e0 50) : LHi (oJ T) l yL_route (ws_L_route) rm_L_route D T ol [.ref x0, .int p0, .int p1, .int p2, .ref ol] S f 200 2000 (HP (rouC (e1 0) p0 p1 p2) (Int32.toInt64 (e1 0 (14 + 26 * iv p0))) (fun S1 => FrS S1 e0 (fun t => if t = 0 then rouF (e1 0) (iv p0) p1 p2 else rmU e1 e2 t) (rmG e2) e3 e4) (fun S1 => FrS S1 e0 e1 e2 e3 e4)) := by
  refine gl_met (own := RL) (by decide) rfl rfl (Nat.le_of_ble_eq_true rfl) ?_
  intro p e s m args below meth c A L C E N ht hr hw hL
  refine g_aload C dL_route_0 4 rfl ?_
  refine g_iconst (v := 0) C dL_route_2 (by decide) ?_
  refine g_aload_n C dL_route_3 rfl 0 rfl ?_
  refine g_iload_n C dL_route_4 rfl 1 rfl ?_
  refine g_iload_n C dL_route_5 rfl 2 rfl ?_
  refine g_iload_n C dL_route_6 rfl 3 rfl ?_
  have hT : HT cL_route 6 (ws_L_route) RL 7 hh_L_route ["java/lang/IndexOutOfBoundsException", "java/lang/IllegalArgumentException", "java/lang/IllegalStateException"] := ⟨rfl, fun i z nm h1 h2 => by
    match i, h1, h2 with
    | 0, h1, h2 => cases h1; cases h2; exact ⟨by decide, by decide, by decide, List.mem_cons_of_mem _ kw_297, 2, 5, Or.inr ⟨dL_route_15, rfl⟩, by decide, dL_route_17, dL_route_18⟩
    | 1, h1, h2 => cases h1; cases h2; exact ⟨by decide, by decide, by decide, List.mem_cons_of_mem _ kw_296, 2, 5, Or.inr ⟨dL_route_19, rfl⟩, by decide, dL_route_21, dL_route_22⟩
    | 2, h1, h2 => cases h1; cases h2; exact ⟨by decide, by decide, by decide, List.mem_cons_of_mem _ kw_298, 2, 5, Or.inr ⟨dL_route_23, rfl⟩, by decide, dL_route_25, dL_route_26⟩
    | n + 3, h1, h2 => simp at h1⟩
  refine gl_tailJ (names := ["java/lang/IndexOutOfBoundsException", "java/lang/IllegalArgumentException", "java/lang/IllegalStateException"]) C E N ht hr hw hL hx0 (by decide) (by decide) rfl [.int p0, .int p1, .int p2] rfl (k_X10_route l hst D T x0 p0 p1 p2 S e0 e1 e2 e3 e4 200 2000 hx0 ⟨hF.1, hF.2, by decide, by decide⟩) (w0_V 3 C.2.2.2.2.1 kw_1162 kw_1163 kw_1164 kw_1 kw_1165 rfl rfl (by decide +kernel) ⟨Nat.le_of_ble_eq_true rfl, Nat.le_of_ble_eq_true rfl⟩) rfl (Nat.le_refl _) (Nat.le_refl _) (Nat.le_refl _) (Nat.le_refl _) dL_route_7 dL_route_10 dL_route_11 dL_route_12 (z := 27) (by decide) dL_route_27 dL_route_28 hT (by decide +kernel) (exnB (by decide +kernel)) (fun E9 S1 h => ?_) (fun v S1 f1 hf h => ?_) (fun i E9 S1 hi h => ?_)
  · rcases h.1 with ⟨_, rfl⟩ | ⟨_, rfl⟩ | ⟨_, rfl⟩
    · decide +kernel
    · decide +kernel
    · decide +kernel
  · exact ⟨h.1.symm, fun _ => ⟨by rw [hf, h.2.1], h.2.2⟩, fun z => absurd h.1 z⟩
  · match i, hi with
    | 0, hi =>
      cases hi
      rcases h.1 with ⟨c, e9⟩ | ⟨c, e9⟩ | ⟨c, e9⟩
      · exact ⟨by rw [c]; decide, fun z => absurd (c.symm.trans z) (by decide), fun _ => h.2⟩
      · exact absurd e9 (by decide)
      · exact absurd e9 (by decide)
    | 1, hi =>
      cases hi
      rcases h.1 with ⟨c, e9⟩ | ⟨c, e9⟩ | ⟨c, e9⟩
      · exact absurd e9 (by decide)
      · exact ⟨by rw [c]; decide, fun z => absurd (c.symm.trans z) (by decide), fun _ => h.2⟩
      · exact absurd e9 (by decide)
    | 2, hi =>
      cases hi
      rcases h.1 with ⟨c, e9⟩ | ⟨c, e9⟩ | ⟨c, e9⟩
      · exact absurd e9 (by decide)
      · exact absurd e9 (by decide)
      · exact ⟨by rw [c]; decide, fun z => absurd (c.symm.trans z) (by decide), fun _ => h.2⟩
    | n + 3, hi => simp at hi
abbrev hh_L_handle : List (Nat × Nat × Nat × Nat) := [(0, 10, 13, 15), (0, 10, 17, 13), (0, 10, 21, 17)]
abbrev ws_L_handle : List Cond := Cond.codeWith yL_handle cL_handle 5 (some .int) hh_L_handle :: W0
abbrev rm_L_handle : Room := ({ frames := rm_X10_handle.frames + 1, cells := 0, slots := 0, locals := 8 + (5 + 11) + rm_X10_handle.locals } : Room)
set_option maxRecDepth 100000 in
set_option maxHeartbeats 4000000 in
theorem h_L_handle (l : Launch) (hst : l.stackTraces = false) (D : va_G) (T : Nat → ClassId) (x0 ol : Nat) (p0 : Int32) (p1 : Int32) (S : HS) (f : Nat → Int64) (e0 : (Nat → Nat)) (e1 : (Nat → Nat → Int32)) (e2 : (Nat → Int32)) (e3 : (Nat → Int32)) (e4 : (List Int32)) (hx0 : hK S x0 = 11) (hF : FrS S e0 e1 e2 e3 e4 ∧ x0 = e0 50) : LHi (oJ T) l yL_handle (ws_L_handle) rm_L_handle D T ol [.ref x0, .int p0, .int p1, .ref ol] S f 200 2000 (HP (hanC (e1 0) p0 p1) (Int32.toInt64 (e1 0 (14 + 26 * iv p0 + 2))) (fun S1 => FrS S1 e0 (fun t => if t = 0 then upd (e1 0) (14 + 26 * iv p0 + 2) p1 else rmU e1 e2 t) (rmG e2) e3 e4) (fun S1 => FrS S1 e0 e1 e2 e3 e4)) := by
  refine gl_met (own := RL) (by decide) rfl rfl (Nat.le_of_ble_eq_true rfl) ?_
  intro p e s m args below meth c A L C E N ht hr hw hL
  refine g_aload_n C dL_handle_0 rfl 3 rfl ?_
  refine g_iconst (v := 0) C dL_handle_1 (by decide) ?_
  refine g_aload_n C dL_handle_2 rfl 0 rfl ?_
  refine g_iload_n C dL_handle_3 rfl 1 rfl ?_
  refine g_iload_n C dL_handle_4 rfl 2 rfl ?_
  have hT : HT cL_handle 5 (ws_L_handle) RL 5 hh_L_handle ["java/lang/IndexOutOfBoundsException", "java/lang/IllegalArgumentException", "java/lang/IllegalStateException"] := ⟨rfl, fun i z nm h1 h2 => by
    match i, h1, h2 with
    | 0, h1, h2 => cases h1; cases h2; exact ⟨by decide, by decide, by decide, List.mem_cons_of_mem _ kw_297, 2, 4, Or.inr ⟨dL_handle_13, rfl⟩, by decide, dL_handle_15, dL_handle_16⟩
    | 1, h1, h2 => cases h1; cases h2; exact ⟨by decide, by decide, by decide, List.mem_cons_of_mem _ kw_296, 2, 4, Or.inr ⟨dL_handle_17, rfl⟩, by decide, dL_handle_19, dL_handle_20⟩
    | 2, h1, h2 => cases h1; cases h2; exact ⟨by decide, by decide, by decide, List.mem_cons_of_mem _ kw_298, 2, 4, Or.inr ⟨dL_handle_21, rfl⟩, by decide, dL_handle_23, dL_handle_24⟩
    | n + 3, h1, h2 => simp at h1⟩
  refine gl_tailJ (names := ["java/lang/IndexOutOfBoundsException", "java/lang/IllegalArgumentException", "java/lang/IllegalStateException"]) C E N ht hr hw hL hx0 (by decide) (by decide) rfl [.int p0, .int p1] rfl (k_X10_handle l hst D T x0 p0 p1 S e0 e1 e2 e3 e4 200 2000 hx0 ⟨hF.1, hF.2, by decide, by decide⟩) (w0_V 2 C.2.2.2.2.1 kw_1169 kw_1170 kw_1171 kw_1 kw_1172 rfl rfl (by decide +kernel) ⟨Nat.le_of_ble_eq_true rfl, Nat.le_of_ble_eq_true rfl⟩) rfl (Nat.le_refl _) (Nat.le_refl _) (Nat.le_refl _) (Nat.le_refl _) dL_handle_5 dL_handle_8 dL_handle_9 dL_handle_10 (z := 25) (by decide) dL_handle_25 dL_handle_26 hT (by decide +kernel) (exnB (by decide +kernel)) (fun E9 S1 h => ?_) (fun v S1 f1 hf h => ?_) (fun i E9 S1 hi h => ?_)
  · rcases h.1 with ⟨_, rfl⟩ | ⟨_, rfl⟩ | ⟨_, rfl⟩
    · decide +kernel
    · decide +kernel
    · decide +kernel
  · exact ⟨h.1.symm, fun _ => ⟨by rw [hf, h.2.1], h.2.2⟩, fun z => absurd h.1 z⟩
  · match i, hi with
    | 0, hi =>
      cases hi
      rcases h.1 with ⟨c, e9⟩ | ⟨c, e9⟩ | ⟨c, e9⟩
      · exact ⟨by rw [c]; decide, fun z => absurd (c.symm.trans z) (by decide), fun _ => h.2⟩
      · exact absurd e9 (by decide)
      · exact absurd e9 (by decide)
    | 1, hi =>
      cases hi
      rcases h.1 with ⟨c, e9⟩ | ⟨c, e9⟩ | ⟨c, e9⟩
      · exact absurd e9 (by decide)
      · exact ⟨by rw [c]; decide, fun z => absurd (c.symm.trans z) (by decide), fun _ => h.2⟩
      · exact absurd e9 (by decide)
    | 2, hi =>
      cases hi
      rcases h.1 with ⟨c, e9⟩ | ⟨c, e9⟩ | ⟨c, e9⟩
      · exact absurd e9 (by decide)
      · exact absurd e9 (by decide)
      · exact ⟨by rw [c]; decide, fun z => absurd (c.symm.trans z) (by decide), fun _ => h.2⟩
    | n + 3, hi => simp at hi
abbrev hh_L_shipment : List (Nat × Nat × Nat × Nat) := [(0, 10, 13, 15), (0, 10, 17, 13)]
abbrev ws_L_shipment : List Cond := Cond.codeWith yL_shipment cL_shipment 5 (some .int) hh_L_shipment :: W0
abbrev rm_L_shipment : Room := ({ frames := rm_X10_shipment.frames + 1, cells := 0, slots := 0, locals := 8 + (4 + 11) + rm_X10_shipment.locals } : Room)
set_option maxRecDepth 100000 in
set_option maxHeartbeats 4000000 in
theorem h_L_shipment (l : Launch) (hst : l.stackTraces = false) (D : va_G) (T : Nat → ClassId) (x0 ol : Nat) (p0 : Int32) (p1 : Int32) (S : HS) (f : Nat → Int64) (e0 : (Nat → Nat)) (e1 : (Nat → Nat → Int32)) (e2 : (Nat → Int32)) (e3 : (Nat → Int32)) (e4 : (List Int32)) (hx0 : hK S x0 = 11) (hF : FrS S e0 e1 e2 e3 e4 ∧ x0 = e0 50) : LHi (oJ T) l yL_shipment (ws_L_shipment) rm_L_shipment D T ol [.ref x0, .int p0, .int p1, .ref ol] S f 200 2000 (HP (shpC (e1 0) p0 p1) (Int32.toInt64 (shpA (e1 0) (iv p0) p1)) (fun S1 => FrS S1 e0 e1 e2 e3 e4) (fun S1 => FrS S1 e0 e1 e2 e3 e4)) := by
  refine gl_met (own := RL) (by decide) rfl rfl (Nat.le_of_ble_eq_true rfl) ?_
  intro p e s m args below meth c A L C E N ht hr hw hL
  refine g_aload_n C dL_shipment_0 rfl 3 rfl ?_
  refine g_iconst (v := 0) C dL_shipment_1 (by decide) ?_
  refine g_aload_n C dL_shipment_2 rfl 0 rfl ?_
  refine g_iload_n C dL_shipment_3 rfl 1 rfl ?_
  refine g_iload_n C dL_shipment_4 rfl 2 rfl ?_
  have hT : HT cL_shipment 5 (ws_L_shipment) RL 5 hh_L_shipment ["java/lang/IndexOutOfBoundsException", "java/lang/IllegalArgumentException"] := ⟨rfl, fun i z nm h1 h2 => by
    match i, h1, h2 with
    | 0, h1, h2 => cases h1; cases h2; exact ⟨by decide, by decide, by decide, List.mem_cons_of_mem _ kw_297, 2, 4, Or.inr ⟨dL_shipment_13, rfl⟩, by decide, dL_shipment_15, dL_shipment_16⟩
    | 1, h1, h2 => cases h1; cases h2; exact ⟨by decide, by decide, by decide, List.mem_cons_of_mem _ kw_296, 2, 4, Or.inr ⟨dL_shipment_17, rfl⟩, by decide, dL_shipment_19, dL_shipment_20⟩
    | n + 2, h1, h2 => simp at h1⟩
  refine gl_tailJ (names := ["java/lang/IndexOutOfBoundsException", "java/lang/IllegalArgumentException"]) C E N ht hr hw hL hx0 (by decide) (by decide) rfl [.int p0, .int p1] rfl (k_X10_shipment l hst D T x0 p0 p1 S e0 e1 e2 e3 e4 200 2000 hx0 ⟨hF.1, hF.2, by decide, by decide⟩) (w0_V 2 C.2.2.2.2.1 kw_1176 kw_1177 kw_1178 kw_1 kw_1179 rfl rfl (by decide +kernel) ⟨Nat.le_of_ble_eq_true rfl, Nat.le_of_ble_eq_true rfl⟩) rfl (Nat.le_refl _) (Nat.le_refl _) (Nat.le_refl _) (Nat.le_refl _) dL_shipment_5 dL_shipment_8 dL_shipment_9 dL_shipment_10 (z := 21) (by decide) dL_shipment_21 dL_shipment_22 hT (by decide +kernel) (exnB (by decide +kernel)) (fun E9 S1 h => ?_) (fun v S1 f1 hf h => ?_) (fun i E9 S1 hi h => ?_)
  · rcases h.1 with ⟨_, rfl⟩ | ⟨_, rfl⟩
    · decide +kernel
    · decide +kernel
  · exact ⟨h.1.symm, fun _ => ⟨by rw [hf, h.2.1], h.2.2⟩, fun z => absurd h.1 z⟩
  · match i, hi with
    | 0, hi =>
      cases hi
      rcases h.1 with ⟨c, e9⟩ | ⟨c, e9⟩
      · exact ⟨by rw [c]; decide, fun z => absurd (c.symm.trans z) (by decide), fun _ => h.2⟩
      · exact absurd e9 (by decide)
    | 1, hi =>
      cases hi
      rcases h.1 with ⟨c, e9⟩ | ⟨c, e9⟩
      · exact absurd e9 (by decide)
      · exact ⟨by rw [c]; decide, fun z => absurd (c.symm.trans z) (by decide), fun _ => h.2⟩
    | n + 2, hi => simp at hi
abbrev hh_L_rate : List (Nat × Nat × Nat × Nat) := [(0, 9, 12, 15), (0, 9, 15, 17)]
abbrev ws_L_rate : List Cond := Cond.codeWith yL_rate cL_rate 4 (some .int) hh_L_rate :: W0
abbrev rm_L_rate : Room := ({ frames := rm_X10_rate.frames + 1, cells := 0, slots := 0, locals := 8 + (2 + 11) + rm_X10_rate.locals } : Room)
set_option maxRecDepth 100000 in
set_option maxHeartbeats 4000000 in
theorem h_L_rate (l : Launch) (hst : l.stackTraces = false) (D : va_G) (T : Nat → ClassId) (x0 ol : Nat) (p0 : Int32) (S : HS) (f : Nat → Int64) (e0 : (Nat → Nat)) (e1 : (Nat → Nat → Int32)) (e2 : (Nat → Int32)) (e3 : (Nat → Int32)) (e4 : (List Int32)) (hx0 : hK S x0 = 11) (hF : FrS S e0 e1 e2 e3 e4 ∧ x0 = e0 50) : LHi (oJ T) l yL_rate (ws_L_rate) rm_L_rate D T ol [.ref x0, .int p0, .ref ol] S f 200 2000 (HP (rateC (e1 0) p0) (Int32.toInt64 (totF (e1 0) (iv p0))) (fun S1 => FrS S1 e0 e1 e2 e3 e4) (fun S1 => FrS S1 e0 e1 (if rateC (e1 0) p0 = 2 then kpG e2 (nI (rsnD (e1 0) (iv p0)).1) (rsnD (e1 0) (iv p0)).2 else e2) e3 e4)) := by
  refine gl_met (own := RL) (by decide) rfl rfl (Nat.le_of_ble_eq_true rfl) ?_
  intro p e s m args below meth c A L C E N ht hr hw hL
  refine g_aload_n C dL_rate_0 rfl 2 rfl ?_
  refine g_iconst (v := 0) C dL_rate_1 (by decide) ?_
  refine g_aload_n C dL_rate_2 rfl 0 rfl ?_
  refine g_iload_n C dL_rate_3 rfl 1 rfl ?_
  have hT : HT cL_rate 4 (ws_L_rate) RL 4 hh_L_rate ["java/lang/IndexOutOfBoundsException", "java/lang/IllegalStateException"] := ⟨rfl, fun i z nm h1 h2 => by
    match i, h1, h2 with
    | 0, h1, h2 => cases h1; cases h2; exact ⟨by decide, by decide, by decide, List.mem_cons_of_mem _ kw_297, 1, 3, Or.inl ⟨3, dL_rate_12, rfl, rfl⟩, by decide, dL_rate_13, dL_rate_14⟩
    | 1, h1, h2 => cases h1; cases h2; exact ⟨by decide, by decide, by decide, List.mem_cons_of_mem _ kw_298, 1, 3, Or.inl ⟨3, dL_rate_15, rfl, rfl⟩, by decide, dL_rate_16, dL_rate_17⟩
    | n + 2, h1, h2 => simp at h1⟩
  refine gl_tailJ (names := ["java/lang/IndexOutOfBoundsException", "java/lang/IllegalStateException"]) C E N ht hr hw hL hx0 (by decide) (by decide) rfl [.int p0] rfl (k_X10_rate l hst D T x0 p0 S e0 e1 e2 e3 e4 200 2000 hx0 ⟨hF.1, hF.2, by decide, by decide⟩) (w0_V 1 C.2.2.2.2.1 kw_1187 kw_1188 kw_1189 kw_1 kw_1190 rfl rfl (by decide +kernel) ⟨Nat.le_of_ble_eq_true rfl, Nat.le_of_ble_eq_true rfl⟩) rfl (Nat.le_refl _) (Nat.le_refl _) (Nat.le_refl _) (Nat.le_refl _) dL_rate_4 dL_rate_7 dL_rate_8 dL_rate_9 (z := 18) (by decide) dL_rate_18 dL_rate_19 hT (by decide +kernel) (exnB (by decide +kernel)) (fun E9 S1 h => ?_) (fun v S1 f1 hf h => ?_) (fun i E9 S1 hi h => ?_)
  · rcases h.1 with ⟨_, rfl⟩ | ⟨_, rfl⟩
    · decide +kernel
    · decide +kernel
  · exact ⟨h.1.symm, fun _ => ⟨by rw [hf, h.2.1], h.2.2⟩, fun z => absurd h.1 z⟩
  · match i, hi with
    | 0, hi =>
      cases hi
      rcases h.1 with ⟨c, e9⟩ | ⟨c, e9⟩
      · exact ⟨by rw [c]; decide, fun z => absurd (c.symm.trans z) (by decide), fun _ => h.2⟩
      · exact absurd e9 (by decide)
    | 1, hi =>
      cases hi
      rcases h.1 with ⟨c, e9⟩ | ⟨c, e9⟩
      · exact absurd e9 (by decide)
      · exact ⟨by rw [c]; decide, fun z => absurd (c.symm.trans z) (by decide), fun _ => h.2⟩
    | n + 2, hi => simp at hi
abbrev hh_L_rating : List (Nat × Nat × Nat × Nat) := [(0, 10, 13, 15), (0, 10, 17, 13), (0, 10, 21, 17)]
abbrev ws_L_rating : List Cond := Cond.codeWith yL_rating cL_rating 5 (some .int) hh_L_rating :: W0
abbrev rm_L_rating : Room := ({ frames := rm_X10_rating.frames + 1, cells := 0, slots := 0, locals := 8 + (3 + 11) + rm_X10_rating.locals } : Room)
set_option maxRecDepth 100000 in
set_option maxHeartbeats 4000000 in
theorem h_L_rating (l : Launch) (hst : l.stackTraces = false) (D : va_G) (T : Nat → ClassId) (x0 ol : Nat) (p0 : Int32) (p1 : Int32) (S : HS) (f : Nat → Int64) (e0 : (Nat → Nat)) (e1 : (Nat → Nat → Int32)) (e2 : (Nat → Int32)) (e3 : (Nat → Int32)) (e4 : (List Int32)) (hx0 : hK S x0 = 11) (hF : FrS S e0 e1 e2 e3 e4 ∧ x0 = e0 50) : LHi (oJ T) l yL_rating (ws_L_rating) rm_L_rating D T ol [.ref x0, .int p0, .int p1, .ref ol] S f 200 2000 (HP (ratC (e1 0) p0 p1) (Int32.toInt64 (raF (e1 0) (iv p0) p1)) (fun S1 => FrS S1 e0 e1 e2 e3 e4) (fun S1 => FrS S1 e0 e1 e2 e3 e4)) := by
  refine gl_met (own := RL) (by decide) rfl rfl (Nat.le_of_ble_eq_true rfl) ?_
  intro p e s m args below meth c A L C E N ht hr hw hL
  refine g_aload_n C dL_rating_0 rfl 3 rfl ?_
  refine g_iconst (v := 0) C dL_rating_1 (by decide) ?_
  refine g_aload_n C dL_rating_2 rfl 0 rfl ?_
  refine g_iload_n C dL_rating_3 rfl 1 rfl ?_
  refine g_iload_n C dL_rating_4 rfl 2 rfl ?_
  have hT : HT cL_rating 5 (ws_L_rating) RL 5 hh_L_rating ["java/lang/IndexOutOfBoundsException", "java/lang/IllegalArgumentException", "java/lang/IllegalStateException"] := ⟨rfl, fun i z nm h1 h2 => by
    match i, h1, h2 with
    | 0, h1, h2 => cases h1; cases h2; exact ⟨by decide, by decide, by decide, List.mem_cons_of_mem _ kw_297, 2, 4, Or.inr ⟨dL_rating_13, rfl⟩, by decide, dL_rating_15, dL_rating_16⟩
    | 1, h1, h2 => cases h1; cases h2; exact ⟨by decide, by decide, by decide, List.mem_cons_of_mem _ kw_296, 2, 4, Or.inr ⟨dL_rating_17, rfl⟩, by decide, dL_rating_19, dL_rating_20⟩
    | 2, h1, h2 => cases h1; cases h2; exact ⟨by decide, by decide, by decide, List.mem_cons_of_mem _ kw_298, 2, 4, Or.inr ⟨dL_rating_21, rfl⟩, by decide, dL_rating_23, dL_rating_24⟩
    | n + 3, h1, h2 => simp at h1⟩
  refine gl_tailJ (names := ["java/lang/IndexOutOfBoundsException", "java/lang/IllegalArgumentException", "java/lang/IllegalStateException"]) C E N ht hr hw hL hx0 (by decide) (by decide) rfl [.int p0, .int p1] rfl (k_X10_rating l hst D T x0 p0 p1 S e0 e1 e2 e3 e4 200 2000 hx0 ⟨hF.1, hF.2, by decide, by decide⟩) (w0_V 2 C.2.2.2.2.1 kw_1294 kw_1295 kw_1296 kw_1 kw_1297 rfl rfl (by decide +kernel) ⟨Nat.le_of_ble_eq_true rfl, Nat.le_of_ble_eq_true rfl⟩) rfl (Nat.le_refl _) (Nat.le_refl _) (Nat.le_refl _) (Nat.le_refl _) dL_rating_5 dL_rating_8 dL_rating_9 dL_rating_10 (z := 25) (by decide) dL_rating_25 dL_rating_26 hT (by decide +kernel) (exnB (by decide +kernel)) (fun E9 S1 h => ?_) (fun v S1 f1 hf h => ?_) (fun i E9 S1 hi h => ?_)
  · rcases h.1 with ⟨_, rfl⟩ | ⟨_, rfl⟩ | ⟨_, rfl⟩
    · decide +kernel
    · decide +kernel
    · decide +kernel
  · exact ⟨h.1.symm, fun _ => ⟨by rw [hf, h.2.1], h.2.2⟩, fun z => absurd h.1 z⟩
  · match i, hi with
    | 0, hi =>
      cases hi
      rcases h.1 with ⟨c, e9⟩ | ⟨c, e9⟩ | ⟨c, e9⟩
      · exact ⟨by rw [c]; decide, fun z => absurd (c.symm.trans z) (by decide), fun _ => h.2⟩
      · exact absurd e9 (by decide)
      · exact absurd e9 (by decide)
    | 1, hi =>
      cases hi
      rcases h.1 with ⟨c, e9⟩ | ⟨c, e9⟩ | ⟨c, e9⟩
      · exact absurd e9 (by decide)
      · exact ⟨by rw [c]; decide, fun z => absurd (c.symm.trans z) (by decide), fun _ => h.2⟩
      · exact absurd e9 (by decide)
    | 2, hi =>
      cases hi
      rcases h.1 with ⟨c, e9⟩ | ⟨c, e9⟩ | ⟨c, e9⟩
      · exact absurd e9 (by decide)
      · exact absurd e9 (by decide)
      · exact ⟨by rw [c]; decide, fun z => absurd (c.symm.trans z) (by decide), fun _ => h.2⟩
    | n + 3, hi => simp at hi
abbrev hh_L_refuses : List (Nat × Nat × Nat × Nat) := [(0, 9, 12, 15)]
abbrev ws_L_refuses : List Cond := Cond.codeWith yL_refuses cL_refuses 4 (some .int) hh_L_refuses :: W0
abbrev rm_L_refuses : Room := ({ frames := rm_X10_refuses.frames + 1, cells := 0, slots := 0, locals := 8 + (2 + 11) + rm_X10_refuses.locals } : Room)
set_option maxRecDepth 100000 in
set_option maxHeartbeats 4000000 in
theorem h_L_refuses (l : Launch) (hst : l.stackTraces = false) (D : va_G) (T : Nat → ClassId) (x0 ol : Nat) (p0 : Int32) (S : HS) (f : Nat → Int64) (e0 : (Nat → Nat)) (e1 : (Nat → Nat → Int32)) (e2 : (Nat → Int32)) (e3 : (Nat → Int32)) (e4 : (List Int32)) (hx0 : hK S x0 = 11) (hF : FrS S e0 e1 e2 e3 e4 ∧ x0 = e0 50) : LHi (oJ T) l yL_refuses (ws_L_refuses) rm_L_refuses D T ol [.ref x0, .int p0, .ref ol] S f 200 2000 (HP ((if grpF (e1 0) p0 = 0 then 1 else 0)) (Int32.toInt64 (nI (rsnD (e1 0) (iv p0)).1)) (fun S1 => FrS S1 e0 e1 e2 e3 e4) (fun S1 => FrS S1 e0 e1 e2 e3 e4)) := by
  refine gl_met (own := RL) (by decide) rfl rfl (Nat.le_of_ble_eq_true rfl) ?_
  intro p e s m args below meth c A L C E N ht hr hw hL
  refine g_aload_n C dL_refuses_0 rfl 2 rfl ?_
  refine g_iconst (v := 0) C dL_refuses_1 (by decide) ?_
  refine g_aload_n C dL_refuses_2 rfl 0 rfl ?_
  refine g_iload_n C dL_refuses_3 rfl 1 rfl ?_
  have hT : HT cL_refuses 4 (ws_L_refuses) RL 4 hh_L_refuses ["java/lang/IndexOutOfBoundsException"] := ⟨rfl, fun i z nm h1 h2 => by
    match i, h1, h2 with
    | 0, h1, h2 => cases h1; cases h2; exact ⟨by decide, by decide, by decide, List.mem_cons_of_mem _ kw_297, 1, 3, Or.inl ⟨3, dL_refuses_12, rfl, rfl⟩, by decide, dL_refuses_13, dL_refuses_14⟩
    | n + 1, h1, h2 => simp at h1⟩
  refine gl_tailJ (names := ["java/lang/IndexOutOfBoundsException"]) C E N ht hr hw hL hx0 (by decide) (by decide) rfl [.int p0] rfl (k_X10_refuses l hst D T x0 p0 S e0 e1 e2 e3 e4 200 2000 hx0 ⟨hF.1, hF.2, by decide, by decide⟩) (w0_V 1 C.2.2.2.2.1 kw_1305 kw_1306 kw_1307 kw_1 kw_1308 rfl rfl (by decide +kernel) ⟨Nat.le_of_ble_eq_true rfl, Nat.le_of_ble_eq_true rfl⟩) rfl (Nat.le_refl _) (Nat.le_refl _) (Nat.le_refl _) (Nat.le_refl _) dL_refuses_4 dL_refuses_7 dL_refuses_8 dL_refuses_9 (z := 15) (by decide) dL_refuses_15 dL_refuses_16 hT (by decide +kernel) (exnB (by decide +kernel)) (fun E9 S1 h => ?_) (fun v S1 f1 hf h => ?_) (fun i E9 S1 hi h => ?_)
  · obtain ⟨_, rfl⟩ := h.1
    decide +kernel
  · have hc : ¬ grpF (e1 0) p0 = 0 := fun z => by
      have h1 := h.1
      rw [if_pos z] at h1
      exact absurd h1 (by decide)
    exact ⟨(if_neg hc).symm, fun _ => ⟨by rw [hf, h.2.1], h.2.2⟩, fun z => absurd (if_neg hc) z⟩
  · match i, hi with
    | 0, hi =>
      cases hi
      obtain ⟨c, e9⟩ := h.1
      have hc : grpF (e1 0) p0 = 0 := Classical.byContradiction (fun z => by rw [if_neg z] at c; exact absurd c (by decide))
      exact ⟨by rw [if_pos hc]; decide, fun z => absurd ((if_pos hc).symm.trans z) (by decide), fun _ => h.2⟩
    | n + 1, hi => simp at hi
abbrev hh_L_refusal : List (Nat × Nat × Nat × Nat) := [(0, 9, 12, 33)]
abbrev ws_L_refusal : List Cond := Cond.codeWith yL_refusal cL_refusal 4 (some .int) hh_L_refusal :: W0
abbrev rm_L_refusal : Room := ({ frames := rm_X10_refusal.frames + 1, cells := 0, slots := 0, locals := 8 + (2 + 11) + rm_X10_refusal.locals } : Room)
set_option maxRecDepth 100000 in
set_option maxHeartbeats 4000000 in
theorem h_L_refusal (l : Launch) (hst : l.stackTraces = false) (D : va_G) (T : Nat → ClassId) (x0 ol : Nat) (p0 : Int32) (S : HS) (f : Nat → Int64) (e0 : (Nat → Nat)) (e1 : (Nat → Nat → Int32)) (e2 : (Nat → Int32)) (e3 : (Nat → Int32)) (e4 : (List Int32)) (hx0 : hK S x0 = 11) (hF : FrS S e0 e1 e2 e3 e4 ∧ x0 = e0 50) : LHi (oJ T) l yL_refusal (ws_L_refusal) rm_L_refusal D T ol [.ref x0, .int p0, .ref ol] S f 200 2000 (HP ((if e2 230 = 0 then 1 else 0)) (Int32.toInt64 ((if p0 = 0 then e2 230 else e2 231))) (fun S1 => FrS S1 e0 e1 e2 e3 e4) (fun S1 => FrS S1 e0 e1 e2 e3 e4)) := by
  refine gl_met (own := RL) (by decide) rfl rfl (Nat.le_of_ble_eq_true rfl) ?_
  intro p e s m args below meth c A L C E N ht hr hw hL
  refine g_aload_n C dL_refusal_0 rfl 2 rfl ?_
  refine g_iconst (v := 0) C dL_refusal_1 (by decide) ?_
  refine g_aload_n C dL_refusal_2 rfl 0 rfl ?_
  refine g_iload_n C dL_refusal_3 rfl 1 rfl ?_
  have hT : HT cL_refusal 4 (ws_L_refusal) RL 4 hh_L_refusal ["java/util/NoSuchElementException"] := ⟨rfl, fun i z nm h1 h2 => by
    match i, h1, h2 with
    | 0, h1, h2 => cases h1; cases h2; exact ⟨by decide, by decide, by decide, List.mem_cons_of_mem _ kw_961, 1, 3, Or.inl ⟨3, dL_refusal_12, rfl, rfl⟩, by decide, dL_refusal_13, dL_refusal_14⟩
    | n + 1, h1, h2 => simp at h1⟩
  refine gl_tailJ (names := ["java/util/NoSuchElementException"]) C E N ht hr hw hL hx0 (by decide) (by decide) rfl [.int p0] rfl (k_X10_refusal l hst D T x0 p0 S e0 e1 e2 e3 e4 200 2000 hx0 ⟨hF.1, hF.2, by decide, by decide⟩) (w0_V 1 C.2.2.2.2.1 kw_1312 kw_1313 kw_1314 kw_1 kw_1315 rfl rfl (by decide +kernel) ⟨Nat.le_of_ble_eq_true rfl, Nat.le_of_ble_eq_true rfl⟩) rfl (Nat.le_refl _) (Nat.le_refl _) (Nat.le_refl _) (Nat.le_refl _) dL_refusal_4 dL_refusal_7 dL_refusal_8 dL_refusal_9 (z := 15) (by decide) dL_refusal_15 dL_refusal_16 hT (by decide +kernel) (exnB (by decide +kernel)) (fun E9 S1 h => ?_) (fun v S1 f1 hf h => ?_) (fun i E9 S1 hi h => ?_)
  · obtain ⟨_, rfl⟩ := h.1
    decide +kernel
  · have hc : ¬ e2 230 = 0 := fun z => by
      have h1 := h.1
      rw [if_pos z] at h1
      exact absurd h1 (by decide)
    exact ⟨(if_neg hc).symm, fun _ => ⟨by rw [hf, h.2.1], h.2.2⟩, fun z => absurd (if_neg hc) z⟩
  · match i, hi with
    | 0, hi =>
      cases hi
      obtain ⟨c, e9⟩ := h.1
      have hc : e2 230 = 0 := Classical.byContradiction (fun z => by rw [if_neg z] at c; exact absurd c (by decide))
      exact ⟨by rw [if_pos hc]; decide, fun z => absurd ((if_pos hc).symm.trans z) (by decide), fun _ => h.2⟩
    | n + 1, hi => simp at hi
abbrev hh_L_meanPrice : List (Nat × Nat × Nat × Nat) := [(0, 8, 11, 15), (0, 8, 14, 17)]
abbrev ws_L_meanPrice : List Cond := Cond.codeWith yL_meanPrice cL_meanPrice 4 (some .int) hh_L_meanPrice :: W0
abbrev rm_L_meanPrice : Room := ({ frames := rm_X10_meanPrice.frames + 1, cells := 0, slots := 0, locals := 8 + (2 + 11) + rm_X10_meanPrice.locals } : Room)
set_option maxRecDepth 100000 in
set_option maxHeartbeats 4000000 in
theorem h_L_meanPrice (l : Launch) (hst : l.stackTraces = false) (D : va_G) (T : Nat → ClassId) (x0 ol : Nat) (p0 : Int32) (S : HS) (f : Nat → UInt64) (e0 : (Nat → Nat)) (e1 : (Nat → Nat → Int32)) (e2 : (Nat → Int32)) (e3 : (Nat → Int32)) (e4 : (List Int32)) (hx0 : hK S x0 = 11) (hF : FrS S e0 e1 e2 e3 e4 ∧ x0 = e0 50) : LHi (oD T) l yL_meanPrice (ws_L_meanPrice) rm_L_meanPrice D T ol [.ref x0, .int p0, .ref ol] S f 200 2000 (HP (rateC (e1 0) p0) (mpF (e1 0) (iv p0)) (fun S1 => FrS S1 e0 e1 e2 e3 e4) (fun S1 => FrS S1 e0 e1 e2 e3 e4)) := by
  refine gl_met (own := RL) (by decide) rfl rfl (Nat.le_of_ble_eq_true rfl) ?_
  intro p e s m args below meth c A L C E N ht hr hw hL
  refine g_aload_n C dL_meanPrice_0 rfl 2 rfl ?_
  refine g_iconst (v := 0) C dL_meanPrice_1 (by decide) ?_
  refine g_aload_n C dL_meanPrice_2 rfl 0 rfl ?_
  refine g_iload_n C dL_meanPrice_3 rfl 1 rfl ?_
  have hT : HT cL_meanPrice 4 (ws_L_meanPrice) RL 4 hh_L_meanPrice ["java/lang/IndexOutOfBoundsException", "java/lang/IllegalStateException"] := ⟨rfl, fun i z nm h1 h2 => by
    match i, h1, h2 with
    | 0, h1, h2 => cases h1; cases h2; exact ⟨by decide, by decide, by decide, List.mem_cons_of_mem _ kw_297, 1, 3, Or.inl ⟨3, dL_meanPrice_11, rfl, rfl⟩, by decide, dL_meanPrice_12, dL_meanPrice_13⟩
    | 1, h1, h2 => cases h1; cases h2; exact ⟨by decide, by decide, by decide, List.mem_cons_of_mem _ kw_298, 1, 3, Or.inl ⟨3, dL_meanPrice_14, rfl, rfl⟩, by decide, dL_meanPrice_15, dL_meanPrice_16⟩
    | n + 2, h1, h2 => simp at h1⟩
  refine gl_tailD (names := ["java/lang/IndexOutOfBoundsException", "java/lang/IllegalStateException"]) C E N ht hr hw hL hx0 (by decide) (by decide) rfl [.int p0] rfl (k_X10_meanPrice l hst D T x0 p0 S e0 e1 e2 e3 e4 200 2000 hx0 ⟨hF.1, hF.2, by decide, by decide⟩) (w0_V 1 C.2.2.2.2.1 kw_1319 kw_1320 kw_1321 kw_1 kw_1322 rfl rfl (by decide +kernel) ⟨Nat.le_of_ble_eq_true rfl, Nat.le_of_ble_eq_true rfl⟩) rfl (Nat.le_refl _) (Nat.le_refl _) (Nat.le_refl _) (Nat.le_refl _) dL_meanPrice_4 dL_meanPrice_7 dL_meanPrice_8 (z := 17) (by decide) dL_meanPrice_17 dL_meanPrice_18 hT (by decide +kernel) (exnB (by decide +kernel)) (fun E9 S1 h => ?_) (fun v S1 f1 hf h => ?_) (fun i E9 S1 hi h => ?_)
  · rcases h.1 with ⟨_, rfl⟩ | ⟨_, rfl⟩
    · decide +kernel
    · decide +kernel
  · exact ⟨h.1.symm, fun _ => ⟨by rw [hf, h.2.1], h.2.2⟩, fun z => absurd h.1 z⟩
  · match i, hi with
    | 0, hi =>
      cases hi
      rcases h.1 with ⟨c, e9⟩ | ⟨c, e9⟩
      · exact ⟨by rw [c]; decide, fun z => absurd (c.symm.trans z) (by decide), fun _ => h.2⟩
      · exact absurd e9 (by decide)
    | 1, hi =>
      cases hi
      rcases h.1 with ⟨c, e9⟩ | ⟨c, e9⟩
      · exact absurd e9 (by decide)
      · exact ⟨by rw [c]; decide, fun z => absurd (c.symm.trans z) (by decide), fun _ => h.2⟩
    | n + 2, hi => simp at hi
abbrev hh_L_consolidate : List (Nat × Nat × Nat × Nat) := [(0, 9, 12, 15), (0, 9, 15, 13), (0, 9, 18, 17)]
abbrev ws_L_consolidate : List Cond := Cond.codeWith yL_consolidate cL_consolidate 4 (some .int) hh_L_consolidate :: W0
abbrev rm_L_consolidate : Room := ({ frames := rm_X10_consolidate.frames + 1, cells := 0, slots := 0, locals := 8 + (2 + 11) + rm_X10_consolidate.locals } : Room)
set_option maxRecDepth 100000 in
set_option maxHeartbeats 4000000 in
theorem h_L_consolidate (l : Launch) (hst : l.stackTraces = false) (D : va_G) (T : Nat → ClassId) (x0 ol : Nat) (p0 : Int32) (S : HS) (f : Nat → Int64) (e0 : (Nat → Nat)) (e1 : (Nat → Nat → Int32)) (e2 : (Nat → Int32)) (e3 : (Nat → Int32)) (e4 : (List Int32)) (hx0 : hK S x0 = 11) (hF : FrS S e0 e1 e2 e3 e4 ∧ x0 = e0 50) : LHi (oJ T) l yL_consolidate (ws_L_consolidate) rm_L_consolidate D T ol [.ref x0, .int p0, .ref ol] S f 200 2000 (HP (conC (e1 0) p0 8) (Int32.toInt64 ((dpZ (ttF (e1 0)) (iv p0)).1 (iv p0))) (fun S1 => FrS S1 e0 e1 e2 e3 e4) (fun S1 => FrS S1 e0 e1 (if conC (e1 0) p0 8 = 3 then kpG e2 (rfR (e1 0) (iv p0)) (rfT (e1 0) (iv p0)) else e2) e3 e4)) := by
  refine gl_met (own := RL) (by decide) rfl rfl (Nat.le_of_ble_eq_true rfl) ?_
  intro p e s m args below meth c A L C E N ht hr hw hL
  refine g_aload_n C dL_consolidate_0 rfl 2 rfl ?_
  refine g_iconst (v := 0) C dL_consolidate_1 (by decide) ?_
  refine g_aload_n C dL_consolidate_2 rfl 0 rfl ?_
  refine g_iload_n C dL_consolidate_3 rfl 1 rfl ?_
  have hT : HT cL_consolidate 4 (ws_L_consolidate) RL 4 hh_L_consolidate ["java/lang/IndexOutOfBoundsException", "java/lang/IllegalArgumentException", "java/lang/IllegalStateException"] := ⟨rfl, fun i z nm h1 h2 => by
    match i, h1, h2 with
    | 0, h1, h2 => cases h1; cases h2; exact ⟨by decide, by decide, by decide, List.mem_cons_of_mem _ kw_297, 1, 3, Or.inl ⟨3, dL_consolidate_12, rfl, rfl⟩, by decide, dL_consolidate_13, dL_consolidate_14⟩
    | 1, h1, h2 => cases h1; cases h2; exact ⟨by decide, by decide, by decide, List.mem_cons_of_mem _ kw_296, 1, 3, Or.inl ⟨3, dL_consolidate_15, rfl, rfl⟩, by decide, dL_consolidate_16, dL_consolidate_17⟩
    | 2, h1, h2 => cases h1; cases h2; exact ⟨by decide, by decide, by decide, List.mem_cons_of_mem _ kw_298, 1, 3, Or.inl ⟨3, dL_consolidate_18, rfl, rfl⟩, by decide, dL_consolidate_19, dL_consolidate_20⟩
    | n + 3, h1, h2 => simp at h1⟩
  refine gl_tailJ (names := ["java/lang/IndexOutOfBoundsException", "java/lang/IllegalArgumentException", "java/lang/IllegalStateException"]) C E N ht hr hw hL hx0 (by decide) (by decide) rfl [.int p0] rfl (k_X10_consolidate l hst D T x0 p0 S e0 e1 e2 e3 e4 200 2000 hx0 ⟨hF.1, hF.2, by decide, by decide⟩) (w0_V 1 C.2.2.2.2.1 kw_1326 kw_1327 kw_1328 kw_1 kw_1329 rfl rfl (by decide +kernel) ⟨Nat.le_of_ble_eq_true rfl, Nat.le_of_ble_eq_true rfl⟩) rfl (Nat.le_refl _) (Nat.le_refl _) (Nat.le_refl _) (Nat.le_refl _) dL_consolidate_4 dL_consolidate_7 dL_consolidate_8 dL_consolidate_9 (z := 21) (by decide) dL_consolidate_21 dL_consolidate_22 hT (by decide +kernel) (exnB (by decide +kernel)) (fun E9 S1 h => ?_) (fun v S1 f1 hf h => ?_) (fun i E9 S1 hi h => ?_)
  · rcases h.1 with ⟨_, rfl⟩ | ⟨_, rfl⟩ | ⟨_, rfl⟩
    · decide +kernel
    · decide +kernel
    · decide +kernel
  · exact ⟨h.1.symm, fun _ => ⟨by rw [hf, h.2.1], h.2.2⟩, fun z => absurd h.1 z⟩
  · match i, hi with
    | 0, hi =>
      cases hi
      rcases h.1 with ⟨c, e9⟩ | ⟨c, e9⟩ | ⟨c, e9⟩
      · exact ⟨by rw [c]; decide, fun z => absurd (c.symm.trans z) (by decide), fun _ => h.2⟩
      · exact absurd e9 (by decide)
      · exact absurd e9 (by decide)
    | 1, hi =>
      cases hi
      rcases h.1 with ⟨c, e9⟩ | ⟨c, e9⟩ | ⟨c, e9⟩
      · exact absurd e9 (by decide)
      · exact ⟨by rw [c]; decide, fun z => absurd (c.symm.trans z) (by decide), fun _ => h.2⟩
      · exact absurd e9 (by decide)
    | 2, hi =>
      cases hi
      rcases h.1 with ⟨c, e9⟩ | ⟨c, e9⟩ | ⟨c, e9⟩
      · exact absurd e9 (by decide)
      · exact absurd e9 (by decide)
      · exact ⟨by rw [c]; decide, fun z => absurd (c.symm.trans z) (by decide), fun _ => h.2⟩
    | n + 3, hi => simp at hi
abbrev hh_L_group : List (Nat × Nat × Nat × Nat) := [(0, 10, 13, 15), (0, 10, 17, 13), (0, 10, 21, 17), (0, 10, 25, 33)]
abbrev ws_L_group : List Cond := Cond.codeWith yL_group cL_group 5 (some .int) hh_L_group :: W0
abbrev rm_L_group : Room := ({ frames := rm_X10_group.frames + 1, cells := 0, slots := 0, locals := 8 + (3 + 11) + rm_X10_group.locals } : Room)
set_option maxRecDepth 100000 in
set_option maxHeartbeats 4000000 in
theorem h_L_group (l : Launch) (hst : l.stackTraces = false) (D : va_G) (T : Nat → ClassId) (x0 ol : Nat) (p0 : Int32) (p1 : Int32) (S : HS) (f : Nat → Int64) (e0 : (Nat → Nat)) (e1 : (Nat → Nat → Int32)) (e2 : (Nat → Int32)) (e3 : (Nat → Int32)) (e4 : (List Int32)) (hx0 : hK S x0 = 11) (hF : FrS S e0 e1 e2 e3 e4 ∧ x0 = e0 50) : LHi (oJ T) l yL_group (ws_L_group) rm_L_group D T ol [.ref x0, .int p0, .int p1, .ref ol] S f 200 2000 (HP (grC (e1 0) p0 p1) (Int32.toInt64 (grA (e1 0) (iv p0) p1)) (fun S1 => FrS S1 e0 e1 e2 e3 e4) (fun S1 => FrS S1 e0 e1 e2 e3 e4)) := by
  refine gl_met (own := RL) (by decide) rfl rfl (Nat.le_of_ble_eq_true rfl) ?_
  intro p e s m args below meth c A L C E N ht hr hw hL
  refine g_aload_n C dL_group_0 rfl 3 rfl ?_
  refine g_iconst (v := 0) C dL_group_1 (by decide) ?_
  refine g_aload_n C dL_group_2 rfl 0 rfl ?_
  refine g_iload_n C dL_group_3 rfl 1 rfl ?_
  refine g_iload_n C dL_group_4 rfl 2 rfl ?_
  have hT : HT cL_group 5 (ws_L_group) RL 5 hh_L_group ["java/lang/IndexOutOfBoundsException", "java/lang/IllegalArgumentException", "java/lang/IllegalStateException", "java/util/NoSuchElementException"] := ⟨rfl, fun i z nm h1 h2 => by
    match i, h1, h2 with
    | 0, h1, h2 => cases h1; cases h2; exact ⟨by decide, by decide, by decide, List.mem_cons_of_mem _ kw_297, 2, 4, Or.inr ⟨dL_group_13, rfl⟩, by decide, dL_group_15, dL_group_16⟩
    | 1, h1, h2 => cases h1; cases h2; exact ⟨by decide, by decide, by decide, List.mem_cons_of_mem _ kw_296, 2, 4, Or.inr ⟨dL_group_17, rfl⟩, by decide, dL_group_19, dL_group_20⟩
    | 2, h1, h2 => cases h1; cases h2; exact ⟨by decide, by decide, by decide, List.mem_cons_of_mem _ kw_298, 2, 4, Or.inr ⟨dL_group_21, rfl⟩, by decide, dL_group_23, dL_group_24⟩
    | 3, h1, h2 => cases h1; cases h2; exact ⟨by decide, by decide, by decide, List.mem_cons_of_mem _ kw_961, 2, 4, Or.inr ⟨dL_group_25, rfl⟩, by decide, dL_group_27, dL_group_28⟩
    | n + 4, h1, h2 => simp at h1⟩
  refine gl_tailJ (names := ["java/lang/IndexOutOfBoundsException", "java/lang/IllegalArgumentException", "java/lang/IllegalStateException", "java/util/NoSuchElementException"]) C E N ht hr hw hL hx0 (by decide) (by decide) rfl [.int p0, .int p1] rfl (k_X10_group l hst D T x0 p0 p1 S e0 e1 e2 e3 e4 200 2000 hx0 ⟨hF.1, hF.2, by decide, by decide⟩) (w0_V 2 C.2.2.2.2.1 kw_1376 kw_1377 kw_1378 kw_1 kw_1379 rfl rfl (by decide +kernel) ⟨Nat.le_of_ble_eq_true rfl, Nat.le_of_ble_eq_true rfl⟩) rfl (Nat.le_refl _) (Nat.le_refl _) (Nat.le_refl _) (Nat.le_refl _) dL_group_5 dL_group_8 dL_group_9 dL_group_10 (z := 29) (by decide) dL_group_29 dL_group_30 hT (by decide +kernel) (exnB (by decide +kernel)) (fun E9 S1 h => ?_) (fun v S1 f1 hf h => ?_) (fun i E9 S1 hi h => ?_)
  · rcases h.1 with ⟨_, rfl⟩ | ⟨_, rfl⟩ | ⟨_, rfl⟩ | ⟨_, rfl⟩
    · decide +kernel
    · decide +kernel
    · decide +kernel
    · decide +kernel
  · exact ⟨h.1.symm, fun _ => ⟨by rw [hf, h.2.1], h.2.2⟩, fun z => absurd h.1 z⟩
  · match i, hi with
    | 0, hi =>
      cases hi
      rcases h.1 with ⟨c, e9⟩ | ⟨c, e9⟩ | ⟨c, e9⟩ | ⟨c, e9⟩
      · exact ⟨by rw [c]; decide, fun z => absurd (c.symm.trans z) (by decide), fun _ => h.2⟩
      · exact absurd e9 (by decide)
      · exact absurd e9 (by decide)
      · exact absurd e9 (by decide)
    | 1, hi =>
      cases hi
      rcases h.1 with ⟨c, e9⟩ | ⟨c, e9⟩ | ⟨c, e9⟩ | ⟨c, e9⟩
      · exact absurd e9 (by decide)
      · exact ⟨by rw [c]; decide, fun z => absurd (c.symm.trans z) (by decide), fun _ => h.2⟩
      · exact absurd e9 (by decide)
      · exact absurd e9 (by decide)
    | 2, hi =>
      cases hi
      rcases h.1 with ⟨c, e9⟩ | ⟨c, e9⟩ | ⟨c, e9⟩ | ⟨c, e9⟩
      · exact absurd e9 (by decide)
      · exact absurd e9 (by decide)
      · exact ⟨by rw [c]; decide, fun z => absurd (c.symm.trans z) (by decide), fun _ => h.2⟩
      · exact absurd e9 (by decide)
    | 3, hi =>
      cases hi
      rcases h.1 with ⟨c, e9⟩ | ⟨c, e9⟩ | ⟨c, e9⟩ | ⟨c, e9⟩
      · exact absurd e9 (by decide)
      · exact absurd e9 (by decide)
      · exact absurd e9 (by decide)
      · exact ⟨by rw [c]; decide, fun z => absurd (c.symm.trans z) (by decide), fun _ => h.2⟩
    | n + 4, hi => simp at hi
abbrev hh_L_searched : List (Nat × Nat × Nat × Nat) := [(0, 9, 12, 15), (0, 9, 15, 13), (0, 9, 18, 17)]
abbrev ws_L_searched : List Cond := Cond.codeWith yL_searched cL_searched 4 (some .int) hh_L_searched :: W0
abbrev rm_L_searched : Room := ({ frames := rm_X10_searched.frames + 1, cells := 0, slots := 0, locals := 8 + (2 + 11) + rm_X10_searched.locals } : Room)
set_option maxRecDepth 100000 in
set_option maxHeartbeats 4000000 in
theorem h_L_searched (l : Launch) (hst : l.stackTraces = false) (D : va_G) (T : Nat → ClassId) (x0 ol : Nat) (p0 : Int32) (S : HS) (f : Nat → Int64) (e0 : (Nat → Nat)) (e1 : (Nat → Nat → Int32)) (e2 : (Nat → Int32)) (e3 : (Nat → Int32)) (e4 : (List Int32)) (hx0 : hK S x0 = 11) (hF : FrS S e0 e1 e2 e3 e4 ∧ x0 = e0 50) : LHi (oJ T) l yL_searched (ws_L_searched) rm_L_searched D T ol [.ref x0, .int p0, .ref ol] S f 200 2000 (HP (conC (e1 0) p0 6) (Int32.toInt64 ((dpZ (ttF (e1 0)) (iv p0)).1 (iv p0))) (fun S1 => FrS S1 e0 e1 e2 e3 e4) (fun S1 => FrS S1 e0 e1 e2 e3 e4)) := by
  refine gl_met (own := RL) (by decide) rfl rfl (Nat.le_of_ble_eq_true rfl) ?_
  intro p e s m args below meth c A L C E N ht hr hw hL
  refine g_aload_n C dL_searched_0 rfl 2 rfl ?_
  refine g_iconst (v := 0) C dL_searched_1 (by decide) ?_
  refine g_aload_n C dL_searched_2 rfl 0 rfl ?_
  refine g_iload_n C dL_searched_3 rfl 1 rfl ?_
  have hT : HT cL_searched 4 (ws_L_searched) RL 4 hh_L_searched ["java/lang/IndexOutOfBoundsException", "java/lang/IllegalArgumentException", "java/lang/IllegalStateException"] := ⟨rfl, fun i z nm h1 h2 => by
    match i, h1, h2 with
    | 0, h1, h2 => cases h1; cases h2; exact ⟨by decide, by decide, by decide, List.mem_cons_of_mem _ kw_297, 1, 3, Or.inl ⟨3, dL_searched_12, rfl, rfl⟩, by decide, dL_searched_13, dL_searched_14⟩
    | 1, h1, h2 => cases h1; cases h2; exact ⟨by decide, by decide, by decide, List.mem_cons_of_mem _ kw_296, 1, 3, Or.inl ⟨3, dL_searched_15, rfl, rfl⟩, by decide, dL_searched_16, dL_searched_17⟩
    | 2, h1, h2 => cases h1; cases h2; exact ⟨by decide, by decide, by decide, List.mem_cons_of_mem _ kw_298, 1, 3, Or.inl ⟨3, dL_searched_18, rfl, rfl⟩, by decide, dL_searched_19, dL_searched_20⟩
    | n + 3, h1, h2 => simp at h1⟩
  refine gl_tailJ (names := ["java/lang/IndexOutOfBoundsException", "java/lang/IllegalArgumentException", "java/lang/IllegalStateException"]) C E N ht hr hw hL hx0 (by decide) (by decide) rfl [.int p0] rfl (k_X10_searched l hst D T x0 p0 S e0 e1 e2 e3 e4 200 2000 hx0 ⟨hF.1, hF.2, by decide, by decide⟩) (w0_V 1 C.2.2.2.2.1 kw_1383 kw_1384 kw_1385 kw_1 kw_1386 rfl rfl (by decide +kernel) ⟨Nat.le_of_ble_eq_true rfl, Nat.le_of_ble_eq_true rfl⟩) rfl (Nat.le_refl _) (Nat.le_refl _) (Nat.le_refl _) (Nat.le_refl _) dL_searched_4 dL_searched_7 dL_searched_8 dL_searched_9 (z := 21) (by decide) dL_searched_21 dL_searched_22 hT (by decide +kernel) (exnB (by decide +kernel)) (fun E9 S1 h => ?_) (fun v S1 f1 hf h => ?_) (fun i E9 S1 hi h => ?_)
  · rcases h.1 with ⟨_, rfl⟩ | ⟨_, rfl⟩ | ⟨_, rfl⟩
    · decide +kernel
    · decide +kernel
    · decide +kernel
  · exact ⟨h.1.symm, fun _ => ⟨by rw [hf, h.2.1], h.2.2⟩, fun z => absurd h.1 z⟩
  · match i, hi with
    | 0, hi =>
      cases hi
      rcases h.1 with ⟨c, e9⟩ | ⟨c, e9⟩ | ⟨c, e9⟩
      · exact ⟨by rw [c]; decide, fun z => absurd (c.symm.trans z) (by decide), fun _ => h.2⟩
      · exact absurd e9 (by decide)
      · exact absurd e9 (by decide)
    | 1, hi =>
      cases hi
      rcases h.1 with ⟨c, e9⟩ | ⟨c, e9⟩ | ⟨c, e9⟩
      · exact absurd e9 (by decide)
      · exact ⟨by rw [c]; decide, fun z => absurd (c.symm.trans z) (by decide), fun _ => h.2⟩
      · exact absurd e9 (by decide)
    | 2, hi =>
      cases hi
      rcases h.1 with ⟨c, e9⟩ | ⟨c, e9⟩ | ⟨c, e9⟩
      · exact absurd e9 (by decide)
      · exact absurd e9 (by decide)
      · exact ⟨by rw [c]; decide, fun z => absurd (c.symm.trans z) (by decide), fun _ => h.2⟩
    | n + 3, hi => simp at hi
abbrev hh_L_merged : List (Nat × Nat × Nat × Nat) := [(0, 10, 13, 15), (0, 10, 17, 13), (0, 10, 21, 17)]
abbrev ws_L_merged : List Cond := Cond.codeWith yL_merged cL_merged 5 (some .int) hh_L_merged :: W0
abbrev rm_L_merged : Room := ({ frames := rm_X10_merged.frames + 1, cells := 0, slots := 0, locals := 8 + (3 + 11) + rm_X10_merged.locals } : Room)
set_option maxRecDepth 100000 in
set_option maxHeartbeats 4000000 in
theorem h_L_merged (l : Launch) (hst : l.stackTraces = false) (D : va_G) (T : Nat → ClassId) (x0 ol : Nat) (p0 : Int32) (p1 : Int32) (S : HS) (f : Nat → Int64) (e0 : (Nat → Nat)) (e1 : (Nat → Nat → Int32)) (e2 : (Nat → Int32)) (e3 : (Nat → Int32)) (e4 : (List Int32)) (hx0 : hK S x0 = 11) (hF : FrS S e0 e1 e2 e3 e4 ∧ x0 = e0 50) : LHi (oJ T) l yL_merged (ws_L_merged) rm_L_merged D T ol [.ref x0, .int p0, .int p1, .ref ol] S f 200 2000 (HP (meC (e1 0) p0 p1) (Int32.toInt64 (meA (e1 0) (iv p0) p1)) (fun S1 => FrS S1 e0 e1 e2 e3 e4) (fun S1 => FrS S1 e0 e1 e2 e3 e4)) := by
  refine gl_met (own := RL) (by decide) rfl rfl (Nat.le_of_ble_eq_true rfl) ?_
  intro p e s m args below meth c A L C E N ht hr hw hL
  refine g_aload_n C dL_merged_0 rfl 3 rfl ?_
  refine g_iconst (v := 0) C dL_merged_1 (by decide) ?_
  refine g_aload_n C dL_merged_2 rfl 0 rfl ?_
  refine g_iload_n C dL_merged_3 rfl 1 rfl ?_
  refine g_iload_n C dL_merged_4 rfl 2 rfl ?_
  have hT : HT cL_merged 5 (ws_L_merged) RL 5 hh_L_merged ["java/lang/IndexOutOfBoundsException", "java/lang/IllegalArgumentException", "java/lang/IllegalStateException"] := ⟨rfl, fun i z nm h1 h2 => by
    match i, h1, h2 with
    | 0, h1, h2 => cases h1; cases h2; exact ⟨by decide, by decide, by decide, List.mem_cons_of_mem _ kw_297, 2, 4, Or.inr ⟨dL_merged_13, rfl⟩, by decide, dL_merged_15, dL_merged_16⟩
    | 1, h1, h2 => cases h1; cases h2; exact ⟨by decide, by decide, by decide, List.mem_cons_of_mem _ kw_296, 2, 4, Or.inr ⟨dL_merged_17, rfl⟩, by decide, dL_merged_19, dL_merged_20⟩
    | 2, h1, h2 => cases h1; cases h2; exact ⟨by decide, by decide, by decide, List.mem_cons_of_mem _ kw_298, 2, 4, Or.inr ⟨dL_merged_21, rfl⟩, by decide, dL_merged_23, dL_merged_24⟩
    | n + 3, h1, h2 => simp at h1⟩
  refine gl_tailJ (names := ["java/lang/IndexOutOfBoundsException", "java/lang/IllegalArgumentException", "java/lang/IllegalStateException"]) C E N ht hr hw hL hx0 (by decide) (by decide) rfl [.int p0, .int p1] rfl (k_X10_merged l hst D T x0 p0 p1 S e0 e1 e2 e3 e4 200 2000 hx0 ⟨hF.1, hF.2, by decide, by decide⟩) (w0_V 2 C.2.2.2.2.1 kw_1402 kw_1403 kw_1404 kw_1 kw_1405 rfl rfl (by decide +kernel) ⟨Nat.le_of_ble_eq_true rfl, Nat.le_of_ble_eq_true rfl⟩) rfl (Nat.le_refl _) (Nat.le_refl _) (Nat.le_refl _) (Nat.le_refl _) dL_merged_5 dL_merged_8 dL_merged_9 dL_merged_10 (z := 25) (by decide) dL_merged_25 dL_merged_26 hT (by decide +kernel) (exnB (by decide +kernel)) (fun E9 S1 h => ?_) (fun v S1 f1 hf h => ?_) (fun i E9 S1 hi h => ?_)
  · rcases h.1 with ⟨_, rfl⟩ | ⟨_, rfl⟩ | ⟨_, rfl⟩
    · decide +kernel
    · decide +kernel
    · decide +kernel
  · exact ⟨h.1.symm, fun _ => ⟨by rw [hf, h.2.1], h.2.2⟩, fun z => absurd h.1 z⟩
  · match i, hi with
    | 0, hi =>
      cases hi
      rcases h.1 with ⟨c, e9⟩ | ⟨c, e9⟩ | ⟨c, e9⟩
      · exact ⟨by rw [c]; decide, fun z => absurd (c.symm.trans z) (by decide), fun _ => h.2⟩
      · exact absurd e9 (by decide)
      · exact absurd e9 (by decide)
    | 1, hi =>
      cases hi
      rcases h.1 with ⟨c, e9⟩ | ⟨c, e9⟩ | ⟨c, e9⟩
      · exact absurd e9 (by decide)
      · exact ⟨by rw [c]; decide, fun z => absurd (c.symm.trans z) (by decide), fun _ => h.2⟩
      · exact absurd e9 (by decide)
    | 2, hi =>
      cases hi
      rcases h.1 with ⟨c, e9⟩ | ⟨c, e9⟩ | ⟨c, e9⟩
      · exact absurd e9 (by decide)
      · exact absurd e9 (by decide)
      · exact ⟨by rw [c]; decide, fun z => absurd (c.symm.trans z) (by decide), fun _ => h.2⟩
    | n + 3, hi => simp at hi
abbrev hh_L_post : List (Nat × Nat × Nat × Nat) := [(0, 9, 12, 15), (0, 9, 15, 13), (0, 9, 18, 27), (0, 9, 21, 17)]
abbrev ws_L_post : List Cond := Cond.codeWith yL_post cL_post 4 (some .int) hh_L_post :: W0
abbrev rm_L_post : Room := ({ frames := rm_X10_post.frames + 1, cells := 0, slots := 0, locals := 8 + (4 + 11) + rm_X10_post.locals } : Room)
set_option maxRecDepth 100000 in
set_option maxHeartbeats 4000000 in
theorem h_L_post (l : Launch) (hst : l.stackTraces = false) (D : va_G) (T : Nat → ClassId) (x0 ol : Nat) (p0 : Int32) (S : HS) (f : Nat → Int64) (e0 : (Nat → Nat)) (e1 : (Nat → Nat → Int32)) (e2 : (Nat → Int32)) (e3 : (Nat → Int32)) (e4 : (List Int32)) (hx0 : hK S x0 = 11) (hF : FrS S e0 e1 e2 e3 e4 ∧ x0 = e0 50) : LHi (oJ T) l yL_post (ws_L_post) rm_L_post D T ol [.ref x0, .int p0, .ref ol] S f 200 2000 (HP (poC (e1 0) p0) (Int32.toInt64 ((dpZ (ttF (e1 0)) (iv p0)).1 (iv p0))) (fun S1 => FrS S1 e0 (fun t => if t = 0 then poF (ttF (e1 0)) (dpZ (ttF (e1 0)) (iv p0)).2.2 1024 (iv p0) (e1 0) else rmU e1 e2 t) (rmG e2) e3 e4) (fun S1 => FrS S1 e0 e1 (if poC (e1 0) p0 = 4 then kpG e2 (rfR (e1 0) (iv p0)) (rfT (e1 0) (iv p0)) else e2) e3 e4)) := by
  refine gl_met (own := RL) (by decide) rfl rfl (Nat.le_of_ble_eq_true rfl) ?_
  intro p e s m args below meth c A L C E N ht hr hw hL
  refine g_aload_n C dL_post_0 rfl 2 rfl ?_
  refine g_iconst (v := 0) C dL_post_1 (by decide) ?_
  refine g_aload_n C dL_post_2 rfl 0 rfl ?_
  refine g_iload_n C dL_post_3 rfl 1 rfl ?_
  have hT : HT cL_post 4 (ws_L_post) RL 4 hh_L_post ["java/lang/IndexOutOfBoundsException", "java/lang/IllegalArgumentException", "java/lang/UnsupportedOperationException", "java/lang/IllegalStateException"] := ⟨rfl, fun i z nm h1 h2 => by
    match i, h1, h2 with
    | 0, h1, h2 => cases h1; cases h2; exact ⟨by decide, by decide, by decide, List.mem_cons_of_mem _ kw_297, 1, 3, Or.inl ⟨3, dL_post_12, rfl, rfl⟩, by decide, dL_post_13, dL_post_14⟩
    | 1, h1, h2 => cases h1; cases h2; exact ⟨by decide, by decide, by decide, List.mem_cons_of_mem _ kw_296, 1, 3, Or.inl ⟨3, dL_post_15, rfl, rfl⟩, by decide, dL_post_16, dL_post_17⟩
    | 2, h1, h2 => cases h1; cases h2; exact ⟨by decide, by decide, by decide, List.mem_cons_of_mem _ kw_531, 1, 3, Or.inl ⟨3, dL_post_18, rfl, rfl⟩, by decide, dL_post_19, dL_post_20⟩
    | 3, h1, h2 => cases h1; cases h2; exact ⟨by decide, by decide, by decide, List.mem_cons_of_mem _ kw_298, 1, 3, Or.inl ⟨3, dL_post_21, rfl, rfl⟩, by decide, dL_post_22, dL_post_23⟩
    | n + 4, h1, h2 => simp at h1⟩
  refine gl_tailJ (names := ["java/lang/IndexOutOfBoundsException", "java/lang/IllegalArgumentException", "java/lang/UnsupportedOperationException", "java/lang/IllegalStateException"]) C E N ht hr hw hL hx0 (by decide) (by decide) rfl [.int p0] rfl (k_X10_post l hst D T x0 p0 S e0 e1 e2 e3 e4 200 2000 hx0 ⟨hF.1, hF.2, by decide, by decide⟩) (w0_V 1 C.2.2.2.2.1 kw_1429 kw_1430 kw_1431 kw_1 kw_1432 rfl rfl (by decide +kernel) ⟨Nat.le_of_ble_eq_true rfl, Nat.le_of_ble_eq_true rfl⟩) rfl (Nat.le_refl _) (Nat.le_refl _) (Nat.le_refl _) (Nat.le_refl _) dL_post_4 dL_post_7 dL_post_8 dL_post_9 (z := 24) (by decide) dL_post_24 dL_post_25 hT (by decide +kernel) (exnB (by decide +kernel)) (fun E9 S1 h => ?_) (fun v S1 f1 hf h => ?_) (fun i E9 S1 hi h => ?_)
  · rcases h.1 with ⟨_, rfl⟩ | ⟨_, rfl⟩ | ⟨_, rfl⟩ | ⟨_, rfl⟩
    · decide +kernel
    · decide +kernel
    · decide +kernel
    · decide +kernel
  · exact ⟨h.1.symm, fun _ => ⟨by rw [hf, h.2.1], h.2.2⟩, fun z => absurd h.1 z⟩
  · match i, hi with
    | 0, hi =>
      cases hi
      rcases h.1 with ⟨c, e9⟩ | ⟨c, e9⟩ | ⟨c, e9⟩ | ⟨c, e9⟩
      · exact ⟨by rw [c]; decide, fun z => absurd (c.symm.trans z) (by decide), fun _ => h.2⟩
      · exact absurd e9 (by decide)
      · exact absurd e9 (by decide)
      · exact absurd e9 (by decide)
    | 1, hi =>
      cases hi
      rcases h.1 with ⟨c, e9⟩ | ⟨c, e9⟩ | ⟨c, e9⟩ | ⟨c, e9⟩
      · exact absurd e9 (by decide)
      · exact ⟨by rw [c]; decide, fun z => absurd (c.symm.trans z) (by decide), fun _ => h.2⟩
      · exact absurd e9 (by decide)
      · exact absurd e9 (by decide)
    | 2, hi =>
      cases hi
      rcases h.1 with ⟨c, e9⟩ | ⟨c, e9⟩ | ⟨c, e9⟩ | ⟨c, e9⟩
      · exact absurd e9 (by decide)
      · exact absurd e9 (by decide)
      · exact ⟨by rw [c]; decide, fun z => absurd (c.symm.trans z) (by decide), fun _ => h.2⟩
      · exact absurd e9 (by decide)
    | 3, hi =>
      cases hi
      rcases h.1 with ⟨c, e9⟩ | ⟨c, e9⟩ | ⟨c, e9⟩ | ⟨c, e9⟩
      · exact absurd e9 (by decide)
      · exact absurd e9 (by decide)
      · exact absurd e9 (by decide)
      · exact ⟨by rw [c]; decide, fun z => absurd (c.symm.trans z) (by decide), fun _ => h.2⟩
    | n + 4, hi => simp at hi
abbrev hh_L_account : List (Nat × Nat × Nat × Nat) := [(0, 9, 12, 13)]
abbrev ws_L_account : List Cond := Cond.codeWith yL_account cL_account 4 (some .int) hh_L_account :: W0
abbrev rm_L_account : Room := ({ frames := rm_X10_account.frames + 1, cells := 0, slots := 0, locals := 8 + (2 + 11) + rm_X10_account.locals } : Room)
set_option maxRecDepth 100000 in
set_option maxHeartbeats 4000000 in
theorem h_L_account (l : Launch) (hst : l.stackTraces = false) (D : va_G) (T : Nat → ClassId) (x0 ol : Nat) (p0 : Int32) (S : HS) (f : Nat → Int64) (e0 : (Nat → Nat)) (e1 : (Nat → Nat → Int32)) (e2 : (Nat → Int32)) (e3 : (Nat → Int32)) (e4 : (List Int32)) (hx0 : hK S x0 = 11) (hF : FrS S e0 e1 e2 e3 e4 ∧ x0 = e0 50) : LHi (oJ T) l yL_account (ws_L_account) rm_L_account D T ol [.ref x0, .int p0, .ref ol] S f 200 2000 (HP (auC p0) (Int32.toInt64 (auA (e1 0) p0)) (fun S1 => FrS S1 e0 e1 e2 e3 e4) (fun S1 => FrS S1 e0 e1 e2 e3 e4)) := by
  refine gl_met (own := RL) (by decide) rfl rfl (Nat.le_of_ble_eq_true rfl) ?_
  intro p e s m args below meth c A L C E N ht hr hw hL
  refine g_aload_n C dL_account_0 rfl 2 rfl ?_
  refine g_iconst (v := 0) C dL_account_1 (by decide) ?_
  refine g_aload_n C dL_account_2 rfl 0 rfl ?_
  refine g_iload_n C dL_account_3 rfl 1 rfl ?_
  have hT : HT cL_account 4 (ws_L_account) RL 4 hh_L_account ["java/lang/IllegalArgumentException"] := ⟨rfl, fun i z nm h1 h2 => by
    match i, h1, h2 with
    | 0, h1, h2 => cases h1; cases h2; exact ⟨by decide, by decide, by decide, List.mem_cons_of_mem _ kw_296, 1, 3, Or.inl ⟨3, dL_account_12, rfl, rfl⟩, by decide, dL_account_13, dL_account_14⟩
    | n + 1, h1, h2 => simp at h1⟩
  refine gl_tailJ (names := ["java/lang/IllegalArgumentException"]) C E N ht hr hw hL hx0 (by decide) (by decide) rfl [.int p0] rfl (k_X10_account l hst D T x0 p0 S e0 e1 e2 e3 e4 200 2000 hx0 ⟨hF.1, hF.2, by decide, by decide⟩) (w0_V 1 C.2.2.2.2.1 kw_1445 kw_1446 kw_1447 kw_1 kw_1448 rfl rfl (by decide +kernel) ⟨Nat.le_of_ble_eq_true rfl, Nat.le_of_ble_eq_true rfl⟩) rfl (Nat.le_refl _) (Nat.le_refl _) (Nat.le_refl _) (Nat.le_refl _) dL_account_4 dL_account_7 dL_account_8 dL_account_9 (z := 15) (by decide) dL_account_15 dL_account_16 hT (by decide +kernel) (exnB (by decide +kernel)) (fun E9 S1 h => ?_) (fun v S1 f1 hf h => ?_) (fun i E9 S1 hi h => ?_)
  · obtain ⟨_, rfl⟩ := h.1
    decide +kernel
  · exact ⟨h.1.symm, fun _ => ⟨by rw [hf, h.2.1], h.2.2⟩, fun z => absurd h.1 z⟩
  · match i, hi with
    | 0, hi =>
      cases hi
      obtain ⟨c, e9⟩ := h.1
      exact ⟨by rw [c]; decide, fun z => absurd (c.symm.trans z) (by decide), fun _ => h.2⟩
    | n + 1, hi => simp at hi
abbrev hh_L_setRebate : List (Nat × Nat × Nat × Nat) := [(0, 10, 13, 13), (0, 10, 17, 33), (0, 10, 21, 17)]
abbrev ws_L_setRebate : List Cond := Cond.codeWith yL_setRebate cL_setRebate 5 (some .int) hh_L_setRebate :: W0
abbrev rm_L_setRebate : Room := ({ frames := rm_X10_setRebate.frames + 1, cells := 0, slots := 0, locals := 8 + (4 + 11) + rm_X10_setRebate.locals } : Room)
set_option maxRecDepth 100000 in
set_option maxHeartbeats 4000000 in
theorem h_L_setRebate (l : Launch) (hst : l.stackTraces = false) (D : va_G) (T : Nat → ClassId) (x0 ol : Nat) (p0 : Int32) (p1 : Int32) (S : HS) (f : Nat → Int64) (e0 : (Nat → Nat)) (e1 : (Nat → Nat → Int32)) (e2 : (Nat → Int32)) (e3 : (Nat → Int32)) (e4 : (List Int32)) (hx0 : hK S x0 = 11) (hF : FrS S e0 e1 e2 e3 e4 ∧ x0 = e0 50) : LHi (oJ T) l yL_setRebate (ws_L_setRebate) rm_L_setRebate D T ol [.ref x0, .int p0, .int p1, .ref ol] S f 200 2000 (HP (rebC (e1 0) p0 p1) (Int32.toInt64 (rebS (e1 0) p0 p1 2)) (fun S1 => FrS S1 e0 (fun t => if t = 0 then rebS (e1 0) p0 p1 else rmU e1 e2 t) (rmG e2) e3 e4) (fun S1 => FrS S1 e0 e1 e2 e3 e4)) := by
  refine gl_met (own := RL) (by decide) rfl rfl (Nat.le_of_ble_eq_true rfl) ?_
  intro p e s m args below meth c A L C E N ht hr hw hL
  refine g_aload_n C dL_setRebate_0 rfl 3 rfl ?_
  refine g_iconst (v := 0) C dL_setRebate_1 (by decide) ?_
  refine g_aload_n C dL_setRebate_2 rfl 0 rfl ?_
  refine g_iload_n C dL_setRebate_3 rfl 1 rfl ?_
  refine g_iload_n C dL_setRebate_4 rfl 2 rfl ?_
  have hT : HT cL_setRebate 5 (ws_L_setRebate) RL 5 hh_L_setRebate ["java/lang/IllegalArgumentException", "java/util/NoSuchElementException", "java/lang/IllegalStateException"] := ⟨rfl, fun i z nm h1 h2 => by
    match i, h1, h2 with
    | 0, h1, h2 => cases h1; cases h2; exact ⟨by decide, by decide, by decide, List.mem_cons_of_mem _ kw_296, 2, 4, Or.inr ⟨dL_setRebate_13, rfl⟩, by decide, dL_setRebate_15, dL_setRebate_16⟩
    | 1, h1, h2 => cases h1; cases h2; exact ⟨by decide, by decide, by decide, List.mem_cons_of_mem _ kw_961, 2, 4, Or.inr ⟨dL_setRebate_17, rfl⟩, by decide, dL_setRebate_19, dL_setRebate_20⟩
    | 2, h1, h2 => cases h1; cases h2; exact ⟨by decide, by decide, by decide, List.mem_cons_of_mem _ kw_298, 2, 4, Or.inr ⟨dL_setRebate_21, rfl⟩, by decide, dL_setRebate_23, dL_setRebate_24⟩
    | n + 3, h1, h2 => simp at h1⟩
  refine gl_tailJ (names := ["java/lang/IllegalArgumentException", "java/util/NoSuchElementException", "java/lang/IllegalStateException"]) C E N ht hr hw hL hx0 (by decide) (by decide) rfl [.int p0, .int p1] rfl (k_X10_setRebate l hst D T x0 p0 p1 S e0 e1 e2 e3 e4 200 2000 hx0 ⟨hF.1, hF.2, by decide, by decide⟩) (w0_V 2 C.2.2.2.2.1 kw_1461 kw_1462 kw_1463 kw_1 kw_1464 rfl rfl (by decide +kernel) ⟨Nat.le_of_ble_eq_true rfl, Nat.le_of_ble_eq_true rfl⟩) rfl (Nat.le_refl _) (Nat.le_refl _) (Nat.le_refl _) (Nat.le_refl _) dL_setRebate_5 dL_setRebate_8 dL_setRebate_9 dL_setRebate_10 (z := 25) (by decide) dL_setRebate_25 dL_setRebate_26 hT (by decide +kernel) (exnB (by decide +kernel)) (fun E9 S1 h => ?_) (fun v S1 f1 hf h => ?_) (fun i E9 S1 hi h => ?_)
  · rcases h.1 with ⟨_, rfl⟩ | ⟨_, rfl⟩ | ⟨_, rfl⟩
    · decide +kernel
    · decide +kernel
    · decide +kernel
  · exact ⟨h.1.symm, fun _ => ⟨by rw [hf, h.2.1], h.2.2⟩, fun z => absurd h.1 z⟩
  · match i, hi with
    | 0, hi =>
      cases hi
      rcases h.1 with ⟨c, e9⟩ | ⟨c, e9⟩ | ⟨c, e9⟩
      · exact ⟨by rw [c]; decide, fun z => absurd (c.symm.trans z) (by decide), fun _ => h.2⟩
      · exact absurd e9 (by decide)
      · exact absurd e9 (by decide)
    | 1, hi =>
      cases hi
      rcases h.1 with ⟨c, e9⟩ | ⟨c, e9⟩ | ⟨c, e9⟩
      · exact absurd e9 (by decide)
      · exact ⟨by rw [c]; decide, fun z => absurd (c.symm.trans z) (by decide), fun _ => h.2⟩
      · exact absurd e9 (by decide)
    | 2, hi =>
      cases hi
      rcases h.1 with ⟨c, e9⟩ | ⟨c, e9⟩ | ⟨c, e9⟩
      · exact absurd e9 (by decide)
      · exact absurd e9 (by decide)
      · exact ⟨by rw [c]; decide, fun z => absurd (c.symm.trans z) (by decide), fun _ => h.2⟩
    | n + 3, hi => simp at hi
abbrev hh_L_rebate : List (Nat × Nat × Nat × Nat) := [(0, 9, 12, 13)]
abbrev ws_L_rebate : List Cond := Cond.codeWith yL_rebate cL_rebate 4 (some .int) hh_L_rebate :: W0
abbrev rm_L_rebate : Room := ({ frames := rm_X10_rebate.frames + 1, cells := 0, slots := 0, locals := 8 + (3 + 11) + rm_X10_rebate.locals } : Room)
set_option maxRecDepth 100000 in
set_option maxHeartbeats 4000000 in
theorem h_L_rebate (l : Launch) (hst : l.stackTraces = false) (D : va_G) (T : Nat → ClassId) (x0 ol : Nat) (p0 : Int32) (S : HS) (f : Nat → Int64) (e0 : (Nat → Nat)) (e1 : (Nat → Nat → Int32)) (e2 : (Nat → Int32)) (e3 : (Nat → Int32)) (e4 : (List Int32)) (hx0 : hK S x0 = 11) (hF : FrS S e0 e1 e2 e3 e4 ∧ x0 = e0 50) : LHi (oJ T) l yL_rebate (ws_L_rebate) rm_L_rebate D T ol [.ref x0, .int p0, .ref ol] S f 200 2000 (HP (rbC p0) (Int32.toInt64 (rebF (e1 0) p0)) (fun S1 => FrS S1 e0 e1 e2 e3 e4) (fun S1 => FrS S1 e0 e1 e2 e3 e4)) := by
  refine gl_met (own := RL) (by decide) rfl rfl (Nat.le_of_ble_eq_true rfl) ?_
  intro p e s m args below meth c A L C E N ht hr hw hL
  refine g_aload_n C dL_rebate_0 rfl 2 rfl ?_
  refine g_iconst (v := 0) C dL_rebate_1 (by decide) ?_
  refine g_aload_n C dL_rebate_2 rfl 0 rfl ?_
  refine g_iload_n C dL_rebate_3 rfl 1 rfl ?_
  have hT : HT cL_rebate 4 (ws_L_rebate) RL 4 hh_L_rebate ["java/lang/IllegalArgumentException"] := ⟨rfl, fun i z nm h1 h2 => by
    match i, h1, h2 with
    | 0, h1, h2 => cases h1; cases h2; exact ⟨by decide, by decide, by decide, List.mem_cons_of_mem _ kw_296, 1, 3, Or.inl ⟨3, dL_rebate_12, rfl, rfl⟩, by decide, dL_rebate_13, dL_rebate_14⟩
    | n + 1, h1, h2 => simp at h1⟩
  refine gl_tailJ (names := ["java/lang/IllegalArgumentException"]) C E N ht hr hw hL hx0 (by decide) (by decide) rfl [.int p0] rfl (k_X10_rebate l hst D T x0 p0 S e0 e1 e2 e3 e4 200 2000 hx0 ⟨hF.1, hF.2, by decide, by decide⟩) (w0_V 1 C.2.2.2.2.1 kw_1481 kw_1482 kw_1483 kw_1 kw_1484 rfl rfl (by decide +kernel) ⟨Nat.le_of_ble_eq_true rfl, Nat.le_of_ble_eq_true rfl⟩) rfl (Nat.le_refl _) (Nat.le_refl _) (Nat.le_refl _) (Nat.le_refl _) dL_rebate_4 dL_rebate_7 dL_rebate_8 dL_rebate_9 (z := 15) (by decide) dL_rebate_15 dL_rebate_16 hT (by decide +kernel) (exnB (by decide +kernel)) (fun E9 S1 h => ?_) (fun v S1 f1 hf h => ?_) (fun i E9 S1 hi h => ?_)
  · obtain ⟨_, rfl⟩ := h.1
    decide +kernel
  · exact ⟨h.1.symm, fun _ => ⟨by rw [hf, h.2.1], h.2.2⟩, fun z => absurd h.1 z⟩
  · match i, hi with
    | 0, hi =>
      cases hi
      obtain ⟨c, e9⟩ := h.1
      exact ⟨by rw [c]; decide, fun z => absurd (c.symm.trans z) (by decide), fun _ => h.2⟩
    | n + 1, hi => simp at hi
abbrev hh_L_undo : List (Nat × Nat × Nat × Nat) := [(0, 8, 11, 17)]
abbrev ws_L_undo : List Cond := Cond.codeWith yL_undo cL_undo 3 (some .int) hh_L_undo :: W0
abbrev rm_L_undo : Room := ({ frames := rm_X10_undo.frames + 1, cells := 0, slots := 0, locals := 8 + (1 + 11) + rm_X10_undo.locals } : Room)
set_option maxRecDepth 100000 in
set_option maxHeartbeats 4000000 in
theorem h_L_undo (l : Launch) (hst : l.stackTraces = false) (D : va_G) (T : Nat → ClassId) (x0 ol : Nat) (S : HS) (f : Nat → Int64) (e0 : (Nat → Nat)) (e1 : (Nat → Nat → Int32)) (e2 : (Nat → Int32)) (e3 : (Nat → Int32)) (e4 : (List Int32)) (hx0 : hK S x0 = 11) (hF : FrS S e0 e1 e2 e3 e4 ∧ x0 = e0 50) : LHi (oJ T) l yL_undo (ws_L_undo) rm_L_undo D T ol [.ref x0, .ref ol] S f 200 2000 (HP ((if e2 225 = 0 then 1 else 0)) (Int32.toInt64 (e2 225 - 1)) (fun S1 => FrS S1 e0 (fun t => if t = 0 then e1 (2 + (iv (e2 224) + 7) % 8) else e1 t) (fun i => if i = 224 then nI ((iv (e2 224) + 7) % 8) else if i = 225 then e2 225 - 1 else e2 i) e3 e4) (fun S1 => FrS S1 e0 e1 e2 e3 e4)) := by
  refine gl_met (own := RL) (by decide) rfl rfl (Nat.le_of_ble_eq_true rfl) ?_
  intro p e s m args below meth c A L C E N ht hr hw hL
  refine g_aload_n C dL_undo_0 rfl 1 rfl ?_
  refine g_iconst (v := 0) C dL_undo_1 (by decide) ?_
  refine g_aload_n C dL_undo_2 rfl 0 rfl ?_
  have hT : HT cL_undo 3 (ws_L_undo) RL 3 hh_L_undo ["java/lang/IllegalStateException"] := ⟨rfl, fun i z nm h1 h2 => by
    match i, h1, h2 with
    | 0, h1, h2 => cases h1; cases h2; exact ⟨by decide, by decide, by decide, List.mem_cons_of_mem _ kw_298, 1, 2, Or.inl ⟨2, dL_undo_11, rfl, rfl⟩, by decide, dL_undo_12, dL_undo_13⟩
    | n + 1, h1, h2 => simp at h1⟩
  refine gl_tailJ (names := ["java/lang/IllegalStateException"]) C E N ht hr hw hL hx0 (by decide) (by decide) rfl [] rfl (k_X10_undo l hst D T x0 S e0 e1 e2 e3 e4 200 2000 hx0 ⟨hF.1, hF.2, by decide, by decide⟩) (w0_V 0 C.2.2.2.2.1 kw_1493 kw_1494 kw_1495 kw_1 kw_1496 rfl rfl (by decide +kernel) ⟨Nat.le_of_ble_eq_true rfl, Nat.le_of_ble_eq_true rfl⟩) rfl (Nat.le_refl _) (Nat.le_refl _) (Nat.le_refl _) (Nat.le_refl _) dL_undo_3 dL_undo_6 dL_undo_7 dL_undo_8 (z := 14) (by decide) dL_undo_14 dL_undo_15 hT (by decide +kernel) (exnB (by decide +kernel)) (fun E9 S1 h => ?_) (fun v S1 f1 hf h => ?_) (fun i E9 S1 hi h => ?_)
  · obtain ⟨_, rfl⟩ := h.1
    decide +kernel
  · have hc : ¬ e2 225 = 0 := fun z => by
      have h1 := h.1
      rw [if_pos z] at h1
      exact absurd h1 (by decide)
    exact ⟨(if_neg hc).symm, fun _ => ⟨by rw [hf, h.2.1], h.2.2⟩, fun z => absurd (if_neg hc) z⟩
  · match i, hi with
    | 0, hi =>
      cases hi
      obtain ⟨c, e9⟩ := h.1
      have hc : e2 225 = 0 := Classical.byContradiction (fun z => by rw [if_neg z] at c; exact absurd c (by decide))
      exact ⟨by rw [if_pos hc]; decide, fun z => absurd ((if_pos hc).symm.trans z) (by decide), fun _ => h.2⟩
    | n + 1, hi => simp at hi
abbrev hh_L_restoreSnapshot : List (Nat × Nat × Nat × Nat) := [(0, 8, 11, 17)]
abbrev ws_L_restoreSnapshot : List Cond := Cond.codeWith yL_restoreSnapshot cL_restoreSnapshot 3 (some .int) hh_L_restoreSnapshot :: W0
abbrev rm_L_restoreSnapshot : Room := ({ frames := rm_X10_restoreSnapshot.frames + 1, cells := 0, slots := 0, locals := 8 + (1 + 11) + rm_X10_restoreSnapshot.locals } : Room)
set_option maxRecDepth 100000 in
set_option maxHeartbeats 4000000 in
theorem h_L_restoreSnapshot (l : Launch) (hst : l.stackTraces = false) (D : va_G) (T : Nat → ClassId) (x0 ol : Nat) (S : HS) (f : Nat → Int64) (e0 : (Nat → Nat)) (e1 : (Nat → Nat → Int32)) (e2 : (Nat → Int32)) (e3 : (Nat → Int32)) (e4 : (List Int32)) (hx0 : hK S x0 = 11) (hF : FrS S e0 e1 e2 e3 e4 ∧ x0 = e0 50) : LHi (oJ T) l yL_restoreSnapshot (ws_L_restoreSnapshot) rm_L_restoreSnapshot D T ol [.ref x0, .ref ol] S f 200 2000 (HP ((if e2 222 = 0 then 1 else 0)) (Int32.toInt64 (e1 1 1)) (fun S1 => FrS S1 e0 (fun t => if t = 0 then e1 1 else e1 t) (fun i => if i = 225 then 0 else e2 i) e3 e4) (fun S1 => FrS S1 e0 e1 e2 e3 e4)) := by
  refine gl_met (own := RL) (by decide) rfl rfl (Nat.le_of_ble_eq_true rfl) ?_
  intro p e s m args below meth c A L C E N ht hr hw hL
  refine g_aload_n C dL_restoreSnapshot_0 rfl 1 rfl ?_
  refine g_iconst (v := 0) C dL_restoreSnapshot_1 (by decide) ?_
  refine g_aload_n C dL_restoreSnapshot_2 rfl 0 rfl ?_
  have hT : HT cL_restoreSnapshot 3 (ws_L_restoreSnapshot) RL 3 hh_L_restoreSnapshot ["java/lang/IllegalStateException"] := ⟨rfl, fun i z nm h1 h2 => by
    match i, h1, h2 with
    | 0, h1, h2 => cases h1; cases h2; exact ⟨by decide, by decide, by decide, List.mem_cons_of_mem _ kw_298, 1, 2, Or.inl ⟨2, dL_restoreSnapshot_11, rfl, rfl⟩, by decide, dL_restoreSnapshot_12, dL_restoreSnapshot_13⟩
    | n + 1, h1, h2 => simp at h1⟩
  refine gl_tailJ (names := ["java/lang/IllegalStateException"]) C E N ht hr hw hL hx0 (by decide) (by decide) rfl [] rfl (k_X10_restoreSnapshot l hst D T x0 S e0 e1 e2 e3 e4 200 2000 hx0 ⟨hF.1, hF.2, by decide, by decide⟩) (w0_V 0 C.2.2.2.2.1 kw_1500 kw_1501 kw_1502 kw_1 kw_1503 rfl rfl (by decide +kernel) ⟨Nat.le_of_ble_eq_true rfl, Nat.le_of_ble_eq_true rfl⟩) rfl (Nat.le_refl _) (Nat.le_refl _) (Nat.le_refl _) (Nat.le_refl _) dL_restoreSnapshot_3 dL_restoreSnapshot_6 dL_restoreSnapshot_7 dL_restoreSnapshot_8 (z := 14) (by decide) dL_restoreSnapshot_14 dL_restoreSnapshot_15 hT (by decide +kernel) (exnB (by decide +kernel)) (fun E9 S1 h => ?_) (fun v S1 f1 hf h => ?_) (fun i E9 S1 hi h => ?_)
  · obtain ⟨_, rfl⟩ := h.1
    decide +kernel
  · have hc : ¬ e2 222 = 0 := fun z => by
      have h1 := h.1
      rw [if_pos z] at h1
      exact absurd h1 (by decide)
    exact ⟨(if_neg hc).symm, fun _ => ⟨by rw [hf, h.2.1], h.2.2⟩, fun z => absurd (if_neg hc) z⟩
  · match i, hi with
    | 0, hi =>
      cases hi
      obtain ⟨c, e9⟩ := h.1
      have hc : e2 222 = 0 := Classical.byContradiction (fun z => by rw [if_neg z] at c; exact absurd c (by decide))
      exact ⟨by rw [if_pos hc]; decide, fun z => absurd ((if_pos hc).symm.trans z) (by decide), fun _ => h.2⟩
    | n + 1, hi => simp at hi
abbrev hh_L_write : List (Nat × Nat × Nat × Nat) := [(0, 10, 13, 15), (0, 10, 17, 33)]
abbrev ws_L_write : List Cond := Cond.codeWith yL_write cL_write 5 (some .int) hh_L_write :: W0
abbrev rm_L_write : Room := ({ frames := rm_X10_write.frames + 1, cells := 0, slots := 0, locals := 8 + (4 + 11) + rm_X10_write.locals } : Room)
set_option maxRecDepth 100000 in
set_option maxHeartbeats 4000000 in
theorem h_L_write (l : Launch) (hst : l.stackTraces = false) (D : va_G) (T : Nat → ClassId) (x0 ol : Nat) (p0 : Int32) (p1 : Int32) (S : HS) (f : Nat → Int64) (e0 : (Nat → Nat)) (e1 : (Nat → Nat → Int32)) (e2 : (Nat → Int32)) (e3 : (Nat → Int32)) (e4 : (List Int32)) (hx0 : hK S x0 = 11) (hF : FrS S e0 e1 e2 e3 e4 ∧ x0 = e0 50) : LHi (oJ T) l yL_write (ws_L_write) rm_L_write D T ol [.ref x0, .int p0, .int p1, .ref ol] S f 200 2000 (HP (wrC (e1 0) p0 p1) (Int32.toInt64 (nI (paF (e1 0) (274 + 510 * iv p0 + 150 + 36 * iv p1) (iv p1)).length)) (fun S1 => FrS S1 e0 e1 e2 e3 (paF (e1 0) (274 + 510 * iv p0 + 150 + 36 * iv p1) (iv p1))) (fun S1 => FrS S1 e0 e1 e2 e3 e4)) := by
  refine gl_met (own := RL) (by decide) rfl rfl (Nat.le_of_ble_eq_true rfl) ?_
  intro p e s m args below meth c A L C E N ht hr hw hL
  refine g_aload_n C dL_write_0 rfl 3 rfl ?_
  refine g_iconst (v := 0) C dL_write_1 (by decide) ?_
  refine g_aload_n C dL_write_2 rfl 0 rfl ?_
  refine g_iload_n C dL_write_3 rfl 1 rfl ?_
  refine g_iload_n C dL_write_4 rfl 2 rfl ?_
  have hT : HT cL_write 5 (ws_L_write) RL 5 hh_L_write ["java/lang/IndexOutOfBoundsException", "java/util/NoSuchElementException"] := ⟨rfl, fun i z nm h1 h2 => by
    match i, h1, h2 with
    | 0, h1, h2 => cases h1; cases h2; exact ⟨by decide, by decide, by decide, List.mem_cons_of_mem _ kw_297, 2, 4, Or.inr ⟨dL_write_13, rfl⟩, by decide, dL_write_15, dL_write_16⟩
    | 1, h1, h2 => cases h1; cases h2; exact ⟨by decide, by decide, by decide, List.mem_cons_of_mem _ kw_961, 2, 4, Or.inr ⟨dL_write_17, rfl⟩, by decide, dL_write_19, dL_write_20⟩
    | n + 2, h1, h2 => simp at h1⟩
  refine gl_tailJ (names := ["java/lang/IndexOutOfBoundsException", "java/util/NoSuchElementException"]) C E N ht hr hw hL hx0 (by decide) (by decide) rfl [.int p0, .int p1] rfl (k_X10_write l hst D T x0 p0 p1 S e0 e1 e2 e3 e4 200 2000 hx0 ⟨hF.1, hF.2, by decide, by decide⟩) (w0_V 2 C.2.2.2.2.1 kw_1507 kw_1508 kw_1509 kw_1 kw_1510 rfl rfl (by decide +kernel) ⟨Nat.le_of_ble_eq_true rfl, Nat.le_of_ble_eq_true rfl⟩) rfl (Nat.le_refl _) (Nat.le_refl _) (Nat.le_refl _) (Nat.le_refl _) dL_write_5 dL_write_8 dL_write_9 dL_write_10 (z := 21) (by decide) dL_write_21 dL_write_22 hT (by decide +kernel) (exnB (by decide +kernel)) (fun E9 S1 h => ?_) (fun v S1 f1 hf h => ?_) (fun i E9 S1 hi h => ?_)
  · rcases h.1 with ⟨_, rfl⟩ | ⟨_, rfl⟩
    · decide +kernel
    · decide +kernel
  · exact ⟨h.1.symm, fun _ => ⟨by rw [hf, h.2.1], h.2.2⟩, fun z => absurd h.1 z⟩
  · match i, hi with
    | 0, hi =>
      cases hi
      rcases h.1 with ⟨c, e9⟩ | ⟨c, e9⟩
      · exact ⟨by rw [c]; decide, fun z => absurd (c.symm.trans z) (by decide), fun _ => h.2⟩
      · exact absurd e9 (by decide)
    | 1, hi =>
      cases hi
      rcases h.1 with ⟨c, e9⟩ | ⟨c, e9⟩
      · exact absurd e9 (by decide)
      · exact ⟨by rw [c]; decide, fun z => absurd (c.symm.trans z) (by decide), fun _ => h.2⟩
    | n + 2, hi => simp at hi
abbrev hh_L_paper : List (Nat × Nat × Nat × Nat) := [(0, 9, 12, 15)]
abbrev ws_L_paper : List Cond := Cond.codeWith yL_paper cL_paper 4 (some .int) hh_L_paper :: W0
abbrev rm_L_paper : Room := ({ frames := rm_X10_paper.frames + 1, cells := 0, slots := 0, locals := 8 + (2 + 11) + rm_X10_paper.locals } : Room)
set_option maxRecDepth 100000 in
set_option maxHeartbeats 4000000 in
theorem h_L_paper (l : Launch) (hst : l.stackTraces = false) (D : va_G) (T : Nat → ClassId) (x0 ol : Nat) (p0 : Int32) (S : HS) (f : Nat → Int64) (e0 : (Nat → Nat)) (e1 : (Nat → Nat → Int32)) (e2 : (Nat → Int32)) (e3 : (Nat → Int32)) (e4 : (List Int32)) (hx0 : hK S x0 = 11) (hF : FrS S e0 e1 e2 e3 e4 ∧ x0 = e0 50) : LHi (oJ T) l yL_paper (ws_L_paper) rm_L_paper D T ol [.ref x0, .int p0, .ref ol] S f 200 2000 (HP ((if zin p0 0 (nI e4.length - 1) = 0 then 1 else 0)) (Int32.toInt64 (e4.getD (Int32.toNatClampNeg p0) 0)) (fun S1 => FrS S1 e0 e1 e2 e3 e4) (fun S1 => FrS S1 e0 e1 e2 e3 e4)) := by
  refine gl_met (own := RL) (by decide) rfl rfl (Nat.le_of_ble_eq_true rfl) ?_
  intro p e s m args below meth c A L C E N ht hr hw hL
  refine g_aload_n C dL_paper_0 rfl 2 rfl ?_
  refine g_iconst (v := 0) C dL_paper_1 (by decide) ?_
  refine g_aload_n C dL_paper_2 rfl 0 rfl ?_
  refine g_iload_n C dL_paper_3 rfl 1 rfl ?_
  have hT : HT cL_paper 4 (ws_L_paper) RL 4 hh_L_paper ["java/lang/IndexOutOfBoundsException"] := ⟨rfl, fun i z nm h1 h2 => by
    match i, h1, h2 with
    | 0, h1, h2 => cases h1; cases h2; exact ⟨by decide, by decide, by decide, List.mem_cons_of_mem _ kw_297, 1, 3, Or.inl ⟨3, dL_paper_12, rfl, rfl⟩, by decide, dL_paper_13, dL_paper_14⟩
    | n + 1, h1, h2 => simp at h1⟩
  refine gl_tailJ (names := ["java/lang/IndexOutOfBoundsException"]) C E N ht hr hw hL hx0 (by decide) (by decide) rfl [.int p0] rfl (k_X10_paper l hst D T x0 p0 S e0 e1 e2 e3 e4 200 2000 hx0 ⟨hF.1, hF.2, by decide, by decide⟩) (w0_V 1 C.2.2.2.2.1 kw_1789 kw_1790 kw_1791 kw_1 kw_1792 rfl rfl (by decide +kernel) ⟨Nat.le_of_ble_eq_true rfl, Nat.le_of_ble_eq_true rfl⟩) rfl (Nat.le_refl _) (Nat.le_refl _) (Nat.le_refl _) (Nat.le_refl _) dL_paper_4 dL_paper_7 dL_paper_8 dL_paper_9 (z := 15) (by decide) dL_paper_15 dL_paper_16 hT (by decide +kernel) (exnB (by decide +kernel)) (fun E9 S1 h => ?_) (fun v S1 f1 hf h => ?_) (fun i E9 S1 hi h => ?_)
  · obtain ⟨_, rfl⟩ := h.1
    decide +kernel
  · have hc : ¬ zin p0 0 (nI e4.length - 1) = 0 := fun z => by
      have h1 := h.1
      rw [if_pos z] at h1
      exact absurd h1 (by decide)
    exact ⟨(if_neg hc).symm, fun _ => ⟨by rw [hf, h.2.1], h.2.2⟩, fun z => absurd (if_neg hc) z⟩
  · match i, hi with
    | 0, hi =>
      cases hi
      obtain ⟨c, e9⟩ := h.1
      have hc : zin p0 0 (nI e4.length - 1) = 0 := Classical.byContradiction (fun z => by rw [if_neg z] at c; exact absurd c (by decide))
      exact ⟨by rw [if_pos hc]; decide, fun z => absurd ((if_pos hc).symm.trans z) (by decide), fun _ => h.2⟩
    | n + 1, hi => simp at hi
end HELP
