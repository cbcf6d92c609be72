section S_CAN
abbrev ws_X10_write : List Cond := Cond.code yX10_write cX10_write 4 (some .int) :: W0
abbrev rm_X10_write : Room := ({ frames := 14, cells := 0, slots := 0, locals := 565 } : Room)
def wp_X10_write (P : Int32 → HS → Prop) (X : String → HS → Prop) (x0 : Nat) (p0 : Int32) (p1 : Int32) (S : HS) (mc ms : Nat) : Prop := ∃ cc1 cc2 : Nat, (cc1 ≤ mc ∧ cc2 ≤ ms) ∧ (∃ (m4 : (Nat → Nat)) (m5 : (Nat → Nat → Int32)) (m6 : (Nat → Int32)) (m7 : (Nat → Int32)) (m8 : (List Int32)), ((FrS S m4 m5 m6 m7 m8 ∧ x0 = m4 50 ∧ 1 ≤ cc1 ∧ 6 ≤ cc2) ∧ ((∀ (E9 : String) (S9 : HS), ext S S9 → (((wrC (m5 0) p0 p1 = 1 ∧ E9 = "java/lang/IndexOutOfBoundsException") ∨ (wrC (m5 0) p0 p1 = 2 ∧ E9 = "java/util/NoSuchElementException")) ∧ S9 = S) → X E9 S9) ∧ (∀ (o15 : Option Nat) (S10 : HS), ext S S10 → (∀ b, o15 = some b → hK S10 b = 1) → (S10 = S ∧ wrC (m5 0) p0 p1 = 0 ∧ ∃ y, o15 = some y ∧ RelA S (fxM m4) y (m5 0) (iv p0) (iv p1)) → (∃ b19 : Nat, o15 = some b19 ∧ (hK S10 b19 = 1 → (∃ b22 : Nat, hR S10 228 x0 = some b22 ∧ (hK S10 b22 = 12 → (∃ cc24 cc25 : Nat, (cc24 ≤ (mc - cc1) ∧ cc25 ≤ (ms - cc2)) ∧ (∃ (m27 : List Int32), ((SbO S10 b22 m27 ∧ 0 = (0 : Int32)) ∧ (∀ (S29 : HS), ext S10 S29 → (sbT S10 S29 b22 m27 []) → (∃ b38 : Nat, hR S29 228 x0 = some b38 ∧ (hK S29 b38 = 12 → (∃ cc40 cc41 : Nat, (cc40 ≤ ((mc - cc1) - cc24) ∧ cc41 ≤ ((ms - cc2) - cc25)) ∧ (∃ (m43 : List Int32), ((SbO S29 b38 m43 ∧ m43.length + 1 ≤ 200 ∧ (∃ c : Nat, c < 128 ∧ 97 = nI c) ∧ sbB S29 b38 (m43.length + 1) cc40 cc41) ∧ (∀ (o50 : Option Nat) (S45 : HS), ext S29 S45 → (∀ b, o50 = some b → hK S45 b = 12) → (o50 = some b38 ∧ sbT S29 S45 b38 m43 (m43 ++ [97])) → (∃ b54 : Nat, o50 = some b54 ∧ (hK S45 b54 = 12 → (∃ cc56 cc57 : Nat, (cc56 ≤ (((mc - cc1) - cc24) - cc40) ∧ cc57 ≤ (((ms - cc2) - cc25) - cc41)) ∧ (∃ (m59 : List Int32) (m60 : Nat), ((SbO S45 b54 m59 ∧ p1 = nI m60 ∧ m60 ≤ 9999 ∧ m59.length + (nuL m60).length ≤ 200 ∧ sbB S45 b54 (m59.length + (nuL m60).length) cc56 cc57) ∧ (∀ (o67 : Option Nat) (S62 : HS), ext S45 S62 → (∀ b, o67 = some b → hK S62 b = 12) → (o67 = some b54 ∧ sbT S45 S62 b54 m59 (m59 ++ nuL m60)) → (∃ b71 : Nat, o67 = some b71 ∧ (hK S62 b71 = 12 → (∃ cc73 cc74 : Nat, (cc73 ≤ ((((mc - cc1) - cc24) - cc40) - cc56) ∧ cc74 ≤ ((((ms - cc2) - cc25) - cc41) - cc57)) ∧ (∃ (m76 : List Int32), ((SbO S62 b71 m76 ∧ m76.length + 1 ≤ 200 ∧ (∃ c : Nat, c < 128 ∧ 58 = nI c) ∧ sbB S62 b71 (m76.length + 1) cc73 cc74) ∧ (∀ (o83 : Option Nat) (S78 : HS), ext S62 S78 → (∀ b, o83 = some b → hK S78 b = 12) → (o83 = some b71 ∧ sbT S62 S78 b71 m76 (m76 ++ [58])) → (∃ b88 : Nat, hR S78 228 x0 = some b88 ∧ (hK S78 b88 = 12 → (∃ cc90 cc91 : Nat, (cc90 ≤ (((((mc - cc1) - cc24) - cc40) - cc56) - cc73) ∧ cc91 ≤ (((((ms - cc2) - cc25) - cc41) - cc57) - cc74)) ∧ (∃ (m93 : (Nat → Prop)) (m94 : List Int32) (m95 : Nat → Int32) (m96 : Nat) (m97 : Nat), ((RelA S78 m93 b19 m95 m96 m97 ∧ WF m95 ∧ m96 < 6 ∧ m97 < 10 ∧ SbO S78 b88 m94 ∧ m94.length + (pxF m95 (274 + 510 * m96 + 150 + 36 * m97)).length ≤ 200 ∧ sbB S78 b88 (m94.length + (pxF m95 (274 + 510 * m96 + 150 + 36 * m97)).length) cc90 cc91) ∧ (∀ (S99 : HS), ext S78 S99 → (sbT S78 S99 b88 m94 (m94 ++ (pxF m95 (274 + 510 * m96 + 150 + 36 * m97)))) → (∃ b108 : Nat, hR S99 228 x0 = some b108 ∧ (hK S99 b108 = 12 → (P (hI S99 243 b108) S99)))))))))))))))))))))))))))))))))))))))
set_option maxRecDepth 100000 in
set_option maxHeartbeats 4000000 in
theorem t_X10_write {p : Program} {l : Launch} {e : Env} {s : State} {m : MethodId} {args : Array Value} {below : List Frame} {meth : Method} {c : Code} {D : va_G} {A : Nat → Prop} {T : Nat → ClassId} (C : GC p s m args meth c cX10_write "FreightRater" (ws_X10_write) 4 D A (zty T)) (E : GE T A s) (hst : l.stackTraces = false) (htab : ∀ z ∈ c.exceptionTable.toList, False) (hr : meth.sig.returnType = (some .int)) (P : Int32 → HS → Prop) (X : String → HS → Prop) : ∀ (x0 : Nat) (p0 : Int32) (p1 : Int32) (S0 S : HS) (mc ms : Nat) (L : List Nat), S0 = S → wt S → hL S L → (hK S x0 = 11) → wp_X10_write P X x0 p0 p1 S mc ms → GW p l e { rm_X10_write with cells := mc, slots := ms } s m args below meth c D A 4 mc ms (vx_MQ below (va_Qi (fun v (u : HS × List Nat) => P v u.1 ∧ CO S0 u) (CE D T A) A) (CXX D T A S0 X) args s mc ms A) (CW T S L) mc ms 0 [(0, .ref x0), (1, .int p0), (2, .int p1)] [] := by
  have hW : ∀ {w : Cond}, w ∈ W0 → w.before args s = true := fun h => C.2.2.2.2.1 _ (List.mem_cons_of_mem _ h)
  intro x0 p0 p1 S0 S mc ms L hS0 hw hL hx0 h
  have he : ext S0 S := by rw [hS0]; exact ext_rf
  unfold wp_X10_write at h
  refine g_aload_n C dX10_write_0 rfl 0 rfl ?_
  refine g_iload_n C dX10_write_1 rfl 1 rfl ?_
  refine g_iload_n C dX10_write_2 rfl 2 rfl ?_
  obtain ⟨cc1, cc2, g3, h⟩ := h
  obtain ⟨m4, m5, m6, m7, m8, h⟩ := h
  obtain ⟨g9, h⟩ := h
  obtain ⟨g16, h⟩ := h
  refine gx_callqV (host := "") C E hw hL hx0 (by decide) (by decide) rfl [.int p0, .int p1] rfl (k_X10_requireAccessorial l hst D T x0 p0 p1 S m4 m5 m6 m7 m8 cc1 cc2 hx0 g9) (w0_V 2 C.2.2.2.2.1 kw_1037 kw_1039 ks_23 kw_1 kw_1040 rfl rfl (by decide +kernel) ⟨Nat.le_of_ble_eq_true rfl, Nat.le_of_ble_eq_true rfl⟩) rfl (Nat.le_of_ble_eq_true rfl) (Nat.le_refl _) (Nat.le_refl _) g3.1 g3.2 dX10_write_3 he htab g16 (fun o15 S10 L11 e12 w13 w14 ko15 hp => ?_)
  replace h := h o15 S10 e12 ko15 hp
  have g17 := ext_K e12 hx0 (by decide)
  have w18 := ext_tr he e12
  obtain ⟨b19, rfl, h⟩ := h
  have g20 : hK S10 b19 = 1 := ko15 b19 rfl
  replace h := h g20
  refine g_astore_n (lv' := [(3, .ref b19), (0, .ref x0), (1, .int p0), (2, .int p1)]) C dX10_write_6 rfl (by decide) rfl ?_
  refine g_aload_n C dX10_write_7 rfl 1 rfl ?_
  refine gc_getR C w13 iwx_X10 w14 g17 (by decide) (by decide) rfl 8 (by decide) (hW kw_250) rfl rfl rfl dX10_write_8 (fun o21 eo21 ko21 => ?_)
  obtain ⟨b22, hb9, h⟩ := h
  have g23 : hK S10 b22 = 12 := ko21 b22 (eo21.trans hb9)
  replace h := h g23
  refine g_opt (eo21.trans hb9) ?_
  refine g_iconst (v := 0) C dX10_write_11 (by decide) ?_
  obtain ⟨cc24, cc25, g26, h⟩ := h
  obtain ⟨m27, h⟩ := h
  obtain ⟨g28, h⟩ := h
  refine gc_callvV (host := "") C E w13 w14 g23 (by decide) (by decide) rfl [.int 0] rfl (k_J4_setLength_d00df l D T b22 0 S10 m27 cc24 cc25 g23 g28) (w0_V 1 C.2.2.2.2.1 kw_1511 kw_1512 kw_1513 kw_4 kw_1514 rfl rfl (by decide +kernel) ⟨Nat.le_of_ble_eq_true rfl, Nat.le_of_ble_eq_true rfl⟩) rfl (Nat.le_of_ble_eq_true rfl) (Nat.le_refl _) (Nat.le_refl _) g26.1 g26.2 dX10_write_12 (fun S29 L30 e31 w32 w33 hp => ?_)
  replace h := h S29 e31 hp
  have g34 := ext_K e31 g20 (by decide)
  have g35 := ext_K e31 g17 (by decide)
  have w36 := ext_tr w18 e31
  refine g_aload_n C dX10_write_15 rfl 1 rfl ?_
  refine gc_getR C w32 iwx_X10 w33 g35 (by decide) (by decide) rfl 8 (by decide) (hW kw_250) rfl rfl rfl dX10_write_16 (fun o37 eo37 ko37 => ?_)
  obtain ⟨b38, hb9, h⟩ := h
  have g39 : hK S29 b38 = 12 := ko37 b38 (eo37.trans hb9)
  replace h := h g39
  refine g_opt (eo37.trans hb9) ?_
  refine g_bipush (v := 97) C dX10_write_19 (by decide) ?_
  obtain ⟨cc40, cc41, g42, h⟩ := h
  obtain ⟨m43, h⟩ := h
  obtain ⟨g44, h⟩ := h
  refine gc_callqV (host := "") C E w32 w33 g39 (by decide) (by decide) rfl [.int 97] rfl (k_J4_append_cf468 l D T b38 97 S29 m43 cc40 cc41 g39 g44) (w0_V 1 C.2.2.2.2.1 kw_1752 kw_1753 kw_1754 kw_4 kw_1755 rfl rfl (by decide +kernel) ⟨Nat.le_of_ble_eq_true rfl, Nat.le_of_ble_eq_true rfl⟩) rfl (Nat.le_of_ble_eq_true rfl) (Nat.le_refl _) (Nat.le_refl _) g42.1 g42.2 dX10_write_21 (fun o50 S45 L46 e47 w48 w49 ko50 hp => ?_)
  replace h := h o50 S45 e47 ko50 hp
  have g51 := ext_K e47 g34 (by decide)
  have g52 := ext_K e47 g35 (by decide)
  have w53 := ext_tr w36 e47
  refine g_iload_n C dX10_write_24 rfl 3 rfl ?_
  obtain ⟨b54, rfl, h⟩ := h
  have g55 : hK S45 b54 = 12 := ko50 b54 rfl
  replace h := h g55
  obtain ⟨cc56, cc57, g58, h⟩ := h
  obtain ⟨m59, m60, h⟩ := h
  obtain ⟨g61, h⟩ := h
  refine gc_callqV (host := "") C E w48 w49 g55 (by decide) (by decide) rfl [.int p1] rfl (k_J4_append_bf812 l D T b54 p1 S45 m59 m60 cc56 cc57 g55 g61) (w0_V 1 C.2.2.2.2.1 kw_1772 kw_1602 kw_1603 kw_4 kw_1604 rfl rfl (by decide +kernel) ⟨Nat.le_of_ble_eq_true rfl, Nat.le_of_ble_eq_true rfl⟩) rfl (Nat.le_of_ble_eq_true rfl) (Nat.le_refl _) (Nat.le_refl _) g58.1 g58.2 dX10_write_25 (fun o67 S62 L63 e64 w65 w66 ko67 hp => ?_)
  replace h := h o67 S62 e64 ko67 hp
  have g68 := ext_K e64 g51 (by decide)
  have g69 := ext_K e64 g52 (by decide)
  have w70 := ext_tr w53 e64
  refine g_bipush (v := 58) C dX10_write_28 (by decide) ?_
  obtain ⟨b71, rfl, h⟩ := h
  have g72 : hK S62 b71 = 12 := ko67 b71 rfl
  replace h := h g72
  obtain ⟨cc73, cc74, g75, h⟩ := h
  obtain ⟨m76, h⟩ := h
  obtain ⟨g77, h⟩ := h
  refine gc_callqV (host := "") C E w65 w66 g72 (by decide) (by decide) rfl [.int 58] rfl (k_J4_append_cf468 l D T b71 58 S62 m76 cc73 cc74 g72 g77) (w0_V 1 C.2.2.2.2.1 kw_1752 kw_1753 kw_1754 kw_4 kw_1755 rfl rfl (by decide +kernel) ⟨Nat.le_of_ble_eq_true rfl, Nat.le_of_ble_eq_true rfl⟩) rfl (Nat.le_of_ble_eq_true rfl) (Nat.le_refl _) (Nat.le_refl _) g75.1 g75.2 dX10_write_30 (fun o83 S78 L79 e80 w81 w82 ko83 hp => ?_)
  replace h := h o83 S78 e80 ko83 hp
  have g84 := ext_K e80 g68 (by decide)
  have g85 := ext_K e80 g69 (by decide)
  have w86 := ext_tr w70 e80
  refine g_pop C dX10_write_33 (rf_cat _) ?_
  refine g_aload_n C dX10_write_34 rfl 0 rfl ?_
  refine g_aload_n C dX10_write_35 rfl 1 rfl ?_
  refine gc_getR C w81 iwx_X10 w82 g85 (by decide) (by decide) rfl 8 (by decide) (hW kw_250) rfl rfl rfl dX10_write_36 (fun o87 eo87 ko87 => ?_)
  obtain ⟨b88, hb9, h⟩ := h
  have g89 : hK S78 b88 = 12 := ko87 b88 (eo87.trans hb9)
  replace h := h g89
  refine g_opt (eo87.trans hb9) ?_
  obtain ⟨cc90, cc91, g92, h⟩ := h
  obtain ⟨m93, m94, m95, m96, m97, h⟩ := h
  obtain ⟨g98, h⟩ := h
  refine gc_callvV (host := "") C E w81 w82 g84 (by decide) (by decide) rfl [.ref b88] rfl (k_X0_appendTo l D T b19 b88 S78 m93 m94 m95 m96 m97 cc90 cc91 g84 g89 g98) (w0_V 1 C.2.2.2.2.1 kw_1773 kw_1774 kw_1775 kw_27 kw_1776 rfl rfl (by decide +kernel) ⟨Nat.le_of_ble_eq_true rfl, Nat.le_of_ble_eq_true rfl⟩) rfl (Nat.le_of_ble_eq_true rfl) (Nat.le_refl _) (Nat.le_refl _) g92.1 g92.2 dX10_write_39 (fun S99 L100 e101 w102 w103 hp => ?_)
  replace h := h S99 e101 hp
  have g104 := ext_K e101 g84 (by decide)
  have g105 := ext_K e101 g85 (by decide)
  have w106 := ext_tr w86 e101
  refine g_aload_n C dX10_write_42 rfl 1 rfl ?_
  refine gc_getR C w102 iwx_X10 w103 g105 (by decide) (by decide) rfl 8 (by decide) (hW kw_250) rfl rfl rfl dX10_write_43 (fun o107 eo107 ko107 => ?_)
  obtain ⟨b108, hb9, h⟩ := h
  have g109 : hK S99 b108 = 12 := ko107 b108 (eo107.trans hb9)
  replace h := h g109
  refine g_opt (eo107.trans hb9) ?_
  refine gc_calliV (host := "") C E w102 w103 g109 (by decide) (by decide) rfl [] rfl (k_J4_length_8abf5 l D T b108 S99 g109) (w0_V 0 C.2.2.2.2.1 kw_1785 kw_1648 kw_2363 kw_4 kw_1649 rfl rfl (by decide +kernel) ⟨Nat.le_of_ble_eq_true rfl, Nat.le_of_ble_eq_true rfl⟩) rfl (Nat.le_of_ble_eq_true rfl) (Nat.le_refl _) (Nat.le_refl _) (Nat.zero_le _) (Nat.zero_le _) dX10_write_46 (fun v9 S9 L110 he9 hw9 hL9 hp => ?_)
  obtain ⟨hv9, hs9⟩ := hp
  replace hs9 := hs9.symm
  subst hs9
  replace hv9 := hv9.symm
  subst hv9
  have w113 := hL9
  exact gx_iret C w102 w113 w106 hr dX10_write_49 h
theorem c_X10_write (l : Launch) (hst : l.stackTraces = false) (D : va_G) (T : Nat → ClassId) (x0 : Nat) (p0 : Int32) (p1 : Int32) (S : HS) (mc ms : Nat) (hx0 : hK S x0 = 11) (P : Int32 → HS → Prop) (X : String → HS → Prop) (h : wp_X10_write P X x0 p0 p1 S mc ms) : CXi l yX10_write (ws_X10_write) rm_X10_write D T [.ref x0, .int p0, .int p1] S mc ms P X := gx_meti (by decide) rfl rfl (Nat.le_of_ble_eq_true rfl) (fun p e s m args below meth c A L C E hnm hr htab hw hL => t_X10_write C E hst htab hr P X x0 p0 p1 S S mc ms L rfl hw hL hx0 h)
/-- other things are left out: no object of a state is a row of bytes -/
theorem RelT.mg {S : HS} {M M2 : Nat → Prop} {t n : Nat} {op : Prop} (h : RelT S M t n op) (hm : ∀ b, hK S b ≠ 0 → hK S b ≠ 20 → M2 b → M b) : RelT S M2 t n op := ⟨h.1, fun z => h.2.1 (hm t (nz_of h.1 (by decide)) (by rw [h.1]; decide) z), h.2.2⟩
theorem fz.mg {S : HS} {M M2 : Nat → Prop} {x k n : Nat} (h : fz S M x k n) (hm : ∀ b, hK S b ≠ 0 → hK S b ≠ 20 → M2 b → M b) (h0 : k ≠ 0) (h20 : k ≠ 20) : fz S M2 x k n := ⟨h.1, h.2.1, fun z => h.2.2 (hm x (nz_of h.1 h0) (by rw [h.1]; exact h20) z)⟩
theorem RelA.mg {S : HS} {M M2 : Nat → Prop} {y v a : Nat} {μ : Nat → Int32} (h : RelA S M y μ v a) (hm : ∀ b, hK S b ≠ 0 → hK S b ≠ 20 → M2 b → M b) : RelA S M2 y μ v a := by
  obtain ⟨h1, h2, h3, h4, h5, h6, al, ar, g1, g2, g3, g4, g5, g6, g7, g8, g9⟩ := h
  refine ⟨h1, fun z => h2 (hm y (nz_of h1 (by decide)) (by rw [h1]; decide) z), h3, h4, h5, h6, al, ar, g1, g2, fun z => g3 (hm al (nz_of g2 (by decide)) (by rw [g2]; decide) z), g4, g5, fun z => g6 (hm ar (nz_of g5 (by decide)) (by rw [g5]; decide) z), g7, g8, fun j hj => ?_⟩
  obtain ⟨t, t1, t2⟩ := g9 j hj
  exact ⟨t, t1, t2.mg hm⟩
theorem RelSc.mg {S : HS} {M M2 : Nat → Prop} {x v z : Nat} {μ : Nat → Int32} (h : RelSc S M x μ v z) (hm : ∀ b, hK S b ≠ 0 → hK S b ≠ 20 → M2 b → M b) : RelSc S M2 x μ v z := by
  obtain ⟨h1, h2, h3, h4, w, p, g1, g2, g3, g4, g5⟩ := h
  exact ⟨h1, fun z => h2 (hm x (nz_of h1 (by decide)) (by rw [h1]; decide) z), h3, h4, w, p, g1, g2, g3.mg hm (by decide) (by decide), g4.mg hm (by decide) (by decide), g5⟩
theorem RelV.mg {S : HS} {M M2 : Nat → Prop} {x v : Nat} {μ : Nat → Int32} (h : RelV S M x μ v) (hm : ∀ b, hK S b ≠ 0 → hK S b ≠ 20 → M2 b → M b) : RelV S M2 x μ v := by
  obtain ⟨⟨h1, h2, h3⟩, ⟨f, t, z, r1, r2, r3, z1, z2, z3, z4⟩, ⟨sc, r4, z5, z6⟩, ⟨ac, r5, z7, z8⟩⟩ := h
  refine ⟨⟨h1, fun z => h2 (hm x (nz_of h1 (by decide)) (by rw [h1]; decide) z), h3⟩, ⟨f, t, z, r1, r2, r3, z1.mg hm (by decide) (by decide), z2.mg hm (by decide) (by decide), z3.mg hm (by decide) (by decide), z4⟩, ⟨sc, r4, z5.mg hm (by decide) (by decide), fun z hz => ?_⟩, ⟨ac, r5, z7.mg hm (by decide) (by decide), fun a ha => ?_⟩⟩
  · obtain ⟨y, y1, y2⟩ := z6 z hz
    exact ⟨y, y1, y2.mg hm⟩
  · rcases z8 a ha with h9 | ⟨h9, y, y1, y2⟩
    · exact Or.inl h9
    · exact Or.inr ⟨h9, y, y1, y2.mg hm⟩
theorem RelS.mg {S : HS} {M M2 : Nat → Prop} {x s : Nat} {μ : Nat → Int32} (h : RelS S M x μ s) (hm : ∀ b, hK S b ≠ 0 → hK S b ≠ 20 → M2 b → M b) : RelS S M2 x μ s := by
  obtain ⟨h1, h2, h3, h4, h5, h6, h7, h8, h9, ha, b, r, z, hb⟩ := h
  exact ⟨h1, fun z => h2 (hm x (nz_of h1 (by decide)) (by rw [h1]; decide) z), h3, h4, h5, h6, h7, h8, h9, ha, b, r, z.mg hm (by decide) (by decide), hb⟩
theorem RelSt.mg {S : HS} {M M2 : Nat → Prop} {x : Nat} {μ : Nat → Int32} (h : RelSt S M x μ) (hm : ∀ b, hK S b ≠ 0 → hK S b ≠ 20 → M2 b → M b) : RelSt S M2 x μ := by
  obtain ⟨h1, ⟨b, r1, k1, n1, hv⟩, ⟨c, r2, k2, n2, hs⟩, h4⟩ := h
  refine ⟨h1, ⟨b, r1, k1, n1, fun v hv9 => ?_⟩, ⟨c, r2, k2, n2, fun s hs9 => ?_⟩, h4⟩
  · obtain ⟨y, y1, y2⟩ := hv v hv9
    exact ⟨y, y1, y2.mg hm⟩
  · obtain ⟨y, y1, y2⟩ := hs s hs9
    exact ⟨y, y1, y2.mg hm⟩
theorem FxO.f2 {S S1 : HS} {a : Nat → Nat} (h : FxO S a) (he : ext S S1) (hr : ∀ i, i < 64 → i ≠ 53 → ∀ j, hR S1 j (a i) = hR S j (a i)) (hb : ∀ i, i < 8 → hB S1 (a 51) i = hB S (a 51) i) (h58 : z58 S1 a) : FxO S1 a := by
  have h0 := h
  obtain ⟨h1, h2, h3, h4, h5, h6, h7, h8, h9⟩ := h0
  refine ⟨fun i hi => by rw [(he _ (h.k hi)).1]; exact h1 i hi, fun i hi hA => by rw [(he _ (h.k hi)).2]; exact h2 i hi hA, h3, fun s hs => ?_, ?_, fun i hi => by rw [hb i hi]; exact h6 i hi, ?_, fun i hi => by rw [hr 57 (by omega) (by omega)]; exact h8 i hi, h58⟩
  · rw [hr _ (by omega) (by omega), hr _ (by omega) (by omega), hr _ (by omega) (by omega), hr _ (by omega) (by omega)]
    exact h4 s hs
  · simp only [hr 50 (by omega) (by omega)]
    exact h5
  · rw [hr 54 (by omega) (by omega), hr 54 (by omega) (by omega)]
    exact h7
/-- the rater through a change of its sheet -/
theorem FrS.sb {S S1 : HS} {a : Nat → Nat} {mu : Nat → Nat → Int32} {g b : Nat → Int32} {sh sh1 : List Int32} (h : FrS S a mu g b sh) (he : ext S S1) (t : sbT S S1 (a 53) sh sh1) : FrS S1 a mu g b sh1 := by
  obtain ⟨hX, hS, hG, hI9, hA9, hB9⟩ := h
  obtain ⟨r, r1, r2, _⟩ := hB9.C
  have nM : ∀ i, i < 64 → i ≠ 53 → ¬ sbM S (a 53) (a i) := fun i hi h53 z => by
    rcases z with z | z
    · exact hX.ne hi (by omega) h53 z
    · have e := Option.some.inj (r1.symm.trans z)
      have := hX.1 i hi
      rw [← e, r2] at this
      exact fxK_20 i this.symm
  have sm9 : ∀ i, i < 64 → i ≠ 53 → sam S S1 (a i) := fun i hi h53 => t.2.1 _ (nM i hi h53) (hX.k hi)
  have f20 : frM S S1 (fun c => fxM a c ∨ hK S c = 20) := t.2.1.mn (fun c _ z => by
    rcases z with z | z
    · exact Or.inl ⟨53, by omega, z⟩
    · have e := Option.some.inj (r1.symm.trans z)
      rw [← e]; exact Or.inr r2)
  refine ⟨hX.f2 he (fun i hi h53 j => (sm9 i hi h53).2.2.2.1 j) (fun i hi => by rw [(sm9 51 (by omega) (by omega)).2.2.2.2.2]) (hX.z8 (fun i h1 h2 => by rw [(sm9 i (by omega) (by omega)).2.2.2.2.1])), fun s hs => ⟨(hS s hs).1, ?_⟩, hG, fun i hi => by rw [(sm9 50 (by omega) (by omega)).2.2.1]; exact hI9 i hi, fun i hi => by rw [(sm9 52 (by omega) (by omega)).2.2.2.2.1]; exact hA9 i hi, t.1⟩
  have q := ((hS s hs).2.mg (M2 := fun c => fxM a c ∨ hK S c = 20) (fun c _ h20 z => by
    rcases z with z | z
    · exact z
    · exact absurd z h20)).fm f20 (fun c hc => by
      obtain ⟨j, hj, e⟩ := hX.sA hs hc
      rw [e]
      exact sm9 _ (by omega) (by omega))
  exact q.mg (fun c _ _ z => Or.inl z)
theorem FrS.r8 {S : HS} {a : Nat → Nat} {mu : Nat → Nat → Int32} {g b : Nat → Int32} {sh : List Int32} (h : FrS S a mu g b sh) : hR S 228 (a 50) = some (a 53) := h.1.2.2.2.2.1.2.2.2.2.1
theorem k_X10_write (l : Launch) (hst : l.stackTraces = false) (D : va_G) (T : Nat → ClassId) (x0 : Nat) (p0 : Int32) (p1 : Int32) (S : HS) (e0 : (Nat → Nat)) (e1 : (Nat → Nat → Int32)) (e2 : (Nat → Int32)) (e3 : (Nat → Int32)) (e4 : (List Int32)) (mc ms : Nat) (hx0 : hK S x0 = 11) (h : FrS S e0 e1 e2 e3 e4 ∧ x0 = e0 50 ∧ 200 ≤ mc ∧ 2000 ≤ ms) : CXi l yX10_write (ws_X10_write) rm_X10_write D T [.ref x0, .int p0, .int p1] S mc ms (fun v S1 => (wrC (e1 0) p0 p1 = 0 ∧ v = nI (paF (e1 0) (274 + 510 * iv p0 + 150 + 36 * iv p1) (iv p1)).length ∧ FrS S1 e0 e1 e2 e3 (paF (e1 0) (274 + 510 * iv p0 + 150 + 36 * iv p1) (iv p1)))) (fun E9 S1 => ((wrC (e1 0) p0 p1 = 1 ∧ E9 = "java/lang/IndexOutOfBoundsException") ∨ (wrC (e1 0) p0 p1 = 2 ∧ E9 = "java/util/NoSuchElementException")) ∧ FrS S1 e0 e1 e2 e3 e4) := c_X10_write l hst D T x0 p0 p1 S mc ms hx0 _ _ <|
  (by
    obtain ⟨h, e, hmc, hms⟩ := h
    subst e
    have O0 := h.2.2.2.2.2
    unfold wp_X10_write
    refine ⟨1, 6, ⟨by omega, by omega⟩, e0, e1, e2, e3, e4, ⟨h, rfl, Nat.le_refl _, Nat.le_refl _⟩, fun E9 S9 _ h9 => ?_, fun o S10 _ _ h10 => ?_⟩
    · obtain ⟨c, eS⟩ := h9
      rw [eS]
      exact ⟨c, h⟩
    obtain ⟨eS, c0, y, ey, Ry⟩ := h10
    rw [eS]
    have wf := h.now.1
    have wfp := (h.2.1 0 (by omega)).1.2.2.2
    have c1 : ¬ zin p0 0 (e1 0 0 - 1) = 0 := fun z => by unfold wrC at c0; rw [if_pos z] at c0; exact absurd c0 (by decide)
    have c2 : ¬ zin p1 0 9 = 0 := fun z => by unfold wrC at c0; rw [if_neg c1, if_pos z] at c0; exact absurd c0 (by decide)
    obtain ⟨v6, vn, ev⟩ := zv wf c1
    obtain ⟨q1, q2⟩ := zin_0.mp c2
    obtain ⟨a9, ea⟩ : iv p1 < 10 ∧ p1 = nI (iv p1) := by
      have h0 : (0 : Int) ≤ p1.toInt := by have := Int32.le_iff_toInt_le.mp q1; simpa using this
      have h9 : p1.toInt ≤ 9 := by have := Int32.le_iff_toInt_le.mp q2; simpa using this
      have e : ((iv p1 : Nat) : Int) = p1.toInt := by
        show ((p1.toInt.toNat : Nat) : Int) = _
        omega
      refine ⟨by omega, Int32.toInt_inj.mp ?_⟩
      rw [nI_toInt (by omega), e]
    refine ⟨y, ey, fun ky => ⟨e0 53, h.r8, fun _ => ⟨0, 0, ⟨by omega, by omega⟩, e4, ⟨O0, rfl⟩, fun S29 he29 t29 => ?_⟩⟩⟩
    obtain ⟨x, ex⟩ : ∃ x, x = 274 + 510 * iv p0 + 150 + 36 * iv p1 := ⟨_, rfl⟩
    have pL : (paF (e1 0) x (iv p1)).length ≤ 200 := by
      have l1 := nuL_len (iv p1)
      have l2 := nuL_len (iv (e1 0 (x + 1)))
      have l3 := nuL_len (iv (e1 0 (x + 5)))
      have l4 := wfp (iv p0) v6 (iv p1) a9
      rw [← ex] at l4
      unfold paF
      simp only [List.length_cons, List.length_append]
      have m1 : (if e1 0 (x + 2) = 0 then [] else [if e1 0 (x + 2) = 1 then (42 : Int32) else 37]).length ≤ 1 := by split <;> simp
      have m2 : (if e1 0 (x + 5) < 0 then [] else 33 :: nuL (iv (e1 0 (x + 5)))).length ≤ 5 := by
        split
        · simp
        · rw [List.length_cons]; omega
      omega
    have tE : paF (e1 0) x (iv p1) = 97 :: (nuL (iv p1) ++ (58 :: pxF (e1 0) x)) := rfl
    have pl2 : (paF (e1 0) x (iv p1)).length = 1 + ((nuL (iv p1)).length + (1 + (pxF (e1 0) x).length)) := by
      rw [tE]
      simp only [List.length_cons, List.length_append]
      omega
    have H29 := h.sb he29 t29
    have b0 : sbB S29 (e0 53) (paF (e1 0) x (iv p1)).length (mc - 1 - 0) (ms - 6 - 0) := by
      obtain ⟨r, _, _, _, m3, _⟩ := H29.2.2.2.2.2.C
      have g := gM_ge m3.2.1 pL
      have k1 := pC_4 (sbC S29 (e0 53))
      have k2 := pS_8 (sbC S29 (e0 53))
      exact ⟨by omega, by omega⟩
    refine ⟨e0 53, H29.r8, fun _ => ?_⟩
    have O29 := t29.1
    refine ap_c (w := 97) O29 b0 (by rw [List.length_nil]; omega) pL ⟨97, by decide, rfl⟩ (fun o1 S1 c1' s1 he1 eo1 t1 b1 => ⟨e0 53, eo1, fun _ => ?_⟩)
    refine ap_i t1.1 b1 ea (by omega) (by simp only [List.length_append, List.length_singleton, List.length_nil]; omega) pL (fun o2 S2 c2' s2 he2 eo2 t2 b2 => ⟨e0 53, eo2, fun _ => ?_⟩)
    have T2 := t1.tr O29 he1 t2 (by simp only [List.length_append]; omega)
    have E2 := ext_tr he1 he2
    refine ap_c (w := 58) t2.1 b2 (by simp only [List.length_append, List.length_singleton, List.length_nil]; omega) pL ⟨58, by decide, rfl⟩ (fun o3 S3 c3 s3 he3 eo3 t3 b3 => ?_)
    have T3 := T2.tr O29 E2 t3 (by simp only [List.length_append]; omega)
    have E3 := ext_tr E2 he3
    have H3 := H29.sb E3 T3
    have f29 := t29.tr O0 he29 T3 (Nat.zero_le _)
    have Ry3 : RelA S3 (fxM e0) y (e1 0) (iv p0) (iv p1) := Ry.km (fun b hb => by
      rcases hb with hb | hb | hb | hb <;> exact f29.kp O0 hb (by decide) (by decide) (by decide))
    refine ⟨e0 53, H3.r8, fun _ => ?_⟩
    obtain ⟨g1, g2, g3⟩ := sbB.sp (q1 := ([] ++ [(97 : Int32)] ++ nuL (iv p1) ++ [58]).length + (pxF (e1 0) x).length) t3.1 b3 (by simp only [List.length_append, List.length_singleton, List.length_nil]; omega) pL
    refine ⟨_, _, g2, fxM e0, [] ++ [(97 : Int32)] ++ nuL (iv p1) ++ [58], e1 0, iv p0, iv p1, ⟨Ry3, wf, v6, a9, t3.1, ?_, ?_⟩, fun S99 he99 t99 => ?_⟩
    · rw [← ex]
      simp only [List.length_append, List.length_singleton, List.length_nil]
      omega
    · rw [← ex]; exact g1
    rw [← ex] at t99 ⊢
    have T99 := T3.tr O29 E3 t99 (by simp only [List.length_append]; omega)
    have H99 := H29.sb (ext_tr E3 he99) T99
    have eL : [] ++ [(97 : Int32)] ++ nuL (iv p1) ++ [58] ++ pxF (e1 0) x = paF (e1 0) x (iv p1) := by
      rw [tE]
      simp only [List.append_assoc, List.singleton_append, List.nil_append, List.cons_append]
    rw [eL] at H99 t99
    exact ⟨e0 53, H99.r8, fun _ => ⟨c0, t99.1.2.2.1, H99⟩⟩)
abbrev ws_X10_paper : List Cond := Cond.code yX10_paper cX10_paper 2 (some .char) :: W0
abbrev rm_X10_paper : Room := ({ frames := 9, cells := 0, slots := 0, locals := 421 } : Room)
def wp_X10_paper (P : Int32 → HS → Prop) (X : String → HS → Prop) (x0 : Nat) (p0 : Int32) (S : HS) (mc ms : Nat) : Prop := ∃ b2 : Nat, hR S 228 x0 = some b2 ∧ (hK S b2 = 12 → ((¬ (zin p0 0 ((hI S 243 b2) - 1)) = 0 → (∃ b14 : Nat, hR S 228 x0 = some b14 ∧ (hK S b14 = 12 → (∃ (m16 : List Int32), ((SbO S b14 m16 ∧ ∃ j : Nat, p0 = nI j ∧ j < m16.length) ∧ (vc (m16.getD (Int32.toNatClampNeg p0) 0) ∧ P (m16.getD (Int32.toNatClampNeg p0) 0) S)))))) ∧ ((zin p0 0 ((hI S 243 b2) - 1)) = 0 → ((1 ≤ mc ∧ 6 ≤ ms) ∧ X "java/lang/IndexOutOfBoundsException" S))))
set_option maxRecDepth 100000 in
set_option maxHeartbeats 4000000 in
theorem t_X10_paper {p : Program} {l : Launch} {e : Env} {s : State} {m : MethodId} {args : Array Value} {below : List Frame} {meth : Method} {c : Code} {D : va_G} {A : Nat → Prop} {T : Nat → ClassId} (C : GC p s m args meth c cX10_paper "FreightRater" (ws_X10_paper) 2 D A (zty T)) (E : GE T A s) (hst : l.stackTraces = false) (htab : ∀ z ∈ c.exceptionTable.toList, False) (hr : meth.sig.returnType = (some .char)) (P : Int32 → HS → Prop) (X : String → HS → Prop) : ∀ (x0 : Nat) (p0 : Int32) (S0 S : HS) (mc ms : Nat) (L : List Nat), S0 = S → wt S → hL S L → (hK S x0 = 11) → wp_X10_paper P X x0 p0 S mc ms → GW p l e { rm_X10_paper with cells := mc, slots := ms } s m args below meth c D A 2 mc ms (vx_MQ below (va_Qi (fun v (u : HS × List Nat) => P v u.1 ∧ CO S0 u) (CE D T A) A) (CXX D T A S0 X) args s mc ms A) (CW T S L) mc ms 0 [(0, .ref x0), (1, .int p0)] [] := by
  have hW : ∀ {w : Cond}, w ∈ W0 → w.before args s = true := fun h => C.2.2.2.2.1 _ (List.mem_cons_of_mem _ h)
  intro x0 p0 S0 S mc ms L hS0 hw hL hx0 h
  have he : ext S0 S := by rw [hS0]; exact ext_rf
  unfold wp_X10_paper at h
  refine g_iload_n C dX10_paper_0 rfl 1 rfl ?_
  refine g_iconst (v := 0) C dX10_paper_1 (by decide) ?_
  refine g_aload_n C dX10_paper_2 rfl 0 rfl ?_
  refine gc_getR C hw iwx_X10 hL hx0 (by decide) (by decide) rfl 8 (by decide) (hW kw_250) rfl rfl rfl dX10_paper_3 (fun o1 eo1 ko1 => ?_)
  obtain ⟨b2, hb9, h⟩ := h
  have g3 : hK S b2 = 12 := ko1 b2 (eo1.trans hb9)
  replace h := h g3
  refine g_opt (eo1.trans hb9) ?_
  refine gc_calliV (host := "") C E hw hL g3 (by decide) (by decide) rfl [] rfl (k_J4_length_8abf5 l D T b2 S g3) (w0_V 0 C.2.2.2.2.1 kw_1785 kw_1648 kw_2363 kw_4 kw_1649 rfl rfl (by decide +kernel) ⟨Nat.le_of_ble_eq_true rfl, Nat.le_of_ble_eq_true rfl⟩) rfl (Nat.le_of_ble_eq_true rfl) (Nat.le_refl _) (Nat.le_refl _) (Nat.zero_le _) (Nat.zero_le _) dX10_paper_6 (fun v9 S9 L4 he9 hw9 hL9 hp => ?_)
  obtain ⟨hv9, hs9⟩ := hp
  replace hs9 := hs9.symm
  subst hs9
  replace hv9 := hv9.symm
  subst hv9
  have w7 := hL9
  refine g_iconst (v := 1) C dX10_paper_9 (by decide) ?_
  refine g_isub C dX10_paper_10 ?_
  refine gc_calliS (host := "") C E hw w7 [.int p0, .int 0, .int ((hI S 243 b2) - 1)] rfl (k_X10_isBetween l D T p0 0 ((hI S 243 b2) - 1) S ) (w0_S 3 C.2.2.2.2.1 kw_303 kw_304 kw_1 kw_305 rfl rfl (by decide +kernel) ⟨Nat.le_of_ble_eq_true rfl, Nat.le_of_ble_eq_true rfl⟩) rfl (Nat.le_of_ble_eq_true rfl) (Nat.le_refl _) (Nat.le_refl _) (Nat.zero_le _) (Nat.zero_le _) dX10_paper_11 (fun v9 S9 L8 he9 hw9 hL9 hp => ?_)
  obtain ⟨hv9, hs9⟩ := hp
  replace hs9 := hs9.symm
  subst hs9
  replace hv9 := hv9.symm
  subst hv9
  have w11 := hL9
  refine g_if_ne (tgt := 25) C dX10_paper_14 (by decide) (fun z12 => ?_) (fun z12 => ?_)
  · replace h := h.1 z12
    refine g_aload_n C dX10_paper_25 rfl 0 rfl ?_
    refine gc_getR C hw iwx_X10 w11 hx0 (by decide) (by decide) rfl 8 (by decide) (hW kw_250) rfl rfl rfl dX10_paper_26 (fun o13 eo13 ko13 => ?_)
    obtain ⟨b14, hb9, h⟩ := h
    have g15 : hK S b14 = 12 := ko13 b14 (eo13.trans hb9)
    replace h := h g15
    refine g_opt (eo13.trans hb9) ?_
    refine g_iload_n C dX10_paper_29 rfl 1 rfl ?_
    obtain ⟨m16, h⟩ := h
    obtain ⟨g17, h⟩ := h
    refine gc_calliV (host := "") C E hw w11 g15 (by decide) (by decide) rfl [.int p0] rfl (k_J4_charAt_5068e l D T b14 p0 S m16 g15 g17) (w0_V 1 C.2.2.2.2.1 kw_1793 kw_1794 kw_1795 kw_4 kw_1796 rfl rfl (by decide +kernel) ⟨Nat.le_of_ble_eq_true rfl, Nat.le_of_ble_eq_true rfl⟩) rfl (Nat.le_of_ble_eq_true rfl) (Nat.le_refl _) (Nat.le_refl _) (Nat.zero_le _) (Nat.zero_le _) dX10_paper_30 (fun v9 S9 L18 he9 hw9 hL9 hp => ?_)
    obtain ⟨hv9, hs9⟩ := hp
    replace hs9 := hs9.symm
    subst hs9
    replace hv9 := hv9.symm
    subst hv9
    have w21 := hL9
    exact gx_cret C h.1 hw w21 he hr dX10_paper_33 h.2
  · replace h := h.2 z12
    obtain ⟨g22, h⟩ := h
    exact gx_throw (cls := "java/lang/IndexOutOfBoundsException") (names := ["java/lang/RuntimeException", "java/lang/Exception"]) C E hst hw w11 he (Nat.le_refl _) (Nat.le_refl _) (by decide) (by decide) (hW kw_465) (hW kw_16) (th_FreightRater_72 hW E) tv_FreightRater_72 dX10_paper_17 dX10_paper_20 dX10_paper_21 dX10_paper_24 htab (Nat.le_of_ble_eq_true rfl) (Nat.le_of_ble_eq_true rfl) g22.1 g22.2 h
theorem c_X10_paper (l : Launch) (hst : l.stackTraces = false) (D : va_G) (T : Nat → ClassId) (x0 : Nat) (p0 : Int32) (S : HS) (mc ms : Nat) (hx0 : hK S x0 = 11) (P : Int32 → HS → Prop) (X : String → HS → Prop) (h : wp_X10_paper P X x0 p0 S mc ms) : CXi l yX10_paper (ws_X10_paper) rm_X10_paper D T [.ref x0, .int p0] S mc ms P X := gx_meti (by decide) rfl rfl (Nat.le_of_ble_eq_true rfl) (fun p e s m args below meth c A L C E hnm hr htab hw hL => t_X10_paper C E hst htab hr P X x0 p0 S S mc ms L rfl hw hL hx0 h)
theorem k_X10_paper (l : Launch) (hst : l.stackTraces = false) (D : va_G) (T : Nat → ClassId) (x0 : Nat) (p0 : Int32) (S : HS) (e0 : (Nat → Nat)) (e1 : (Nat → Nat → Int32)) (e2 : (Nat → Int32)) (e3 : (Nat → Int32)) (e4 : (List Int32)) (mc ms : Nat) (hx0 : hK S x0 = 11) (h : FrS S e0 e1 e2 e3 e4 ∧ x0 = e0 50 ∧ 200 ≤ mc ∧ 2000 ≤ ms) : CXi l yX10_paper (ws_X10_paper) rm_X10_paper D T [.ref x0, .int p0] S mc ms (fun v S1 => ((if zin p0 0 (nI e4.length - 1) = 0 then 1 else 0) = 0 ∧ v = e4.getD (Int32.toNatClampNeg p0) 0 ∧ FrS S1 e0 e1 e2 e3 e4)) (fun E9 S1 => (((if zin p0 0 (nI e4.length - 1) = 0 then 1 else 0) = 1 ∧ E9 = "java/lang/IndexOutOfBoundsException")) ∧ FrS S1 e0 e1 e2 e3 e4) := c_X10_paper l hst D T x0 p0 S mc ms hx0 _ _ <|
  (by
    obtain ⟨h, e, hmc, hms⟩ := h
    subst e
    have O0 := h.2.2.2.2.2
    have l2 := O0.2.2.2.1
    unfold wp_X10_paper
    refine ⟨e0 53, h.r8, fun _ => ?_⟩
    rw [O0.2.2.1]
    refine ⟨fun c => ⟨e0 53, h.r8, fun _ => ⟨e4, ⟨O0, ?_⟩, ?_⟩⟩, fun c => ⟨⟨by omega, by omega⟩, ⟨if_pos c, rfl⟩, h⟩⟩
    · obtain ⟨q1, q2⟩ := zin_0.mp c
      have h0 : (0 : Int) ≤ p0.toInt := by have := Int32.le_iff_toInt_le.mp q1; simpa using this
      have e1' : (nI e4.length - 1).toInt = (e4.length : Int) - 1 := pk_sub_toInt (b := 1) (by omega) (by decide)
      have h9 : p0.toInt ≤ (e4.length : Int) - 1 := by have := Int32.le_iff_toInt_le.mp q2; rw [e1'] at this; exact this
      have e : ((iv p0 : Nat) : Int) = p0.toInt := by
        show ((p0.toInt.toNat : Nat) : Int) = _
        omega
      refine ⟨iv p0, Int32.toInt_inj.mp ?_, by omega⟩
      rw [nI_toInt (by omega), e]
    · have hlt : iv p0 < e4.length := by
        obtain ⟨q1, q2⟩ := zin_0.mp c
        have e1' : (nI e4.length - 1).toInt = (e4.length : Int) - 1 := pk_sub_toInt (b := 1) (by omega) (by decide)
        have h9 : p0.toInt ≤ (e4.length : Int) - 1 := by have := Int32.le_iff_toInt_le.mp q2; rw [e1'] at this; exact this
        have h0 : (0 : Int) ≤ p0.toInt := by have := Int32.le_iff_toInt_le.mp q1; simpa using this
        have e : ((iv p0 : Nat) : Int) = p0.toInt := by
          show ((p0.toInt.toNat : Nat) : Int) = _
          omega
        omega
      obtain ⟨r, r1, r2, r3, r4, r7, r8⟩ := O0.C
      obtain ⟨c9, hc, ec⟩ := r7 (iv p0)
      have hy : e4[iv p0]? = some (e4[iv p0]'hlt) := List.getElem?_eq_getElem hlt
      refine ⟨?_, if_neg c, rfl, h⟩
      rw [List.getD_eq_getElem?_getD, show e4[Int32.toNatClampNeg p0]? = some (e4[iv p0]'hlt) from hy, show (some (e4[iv p0]'hlt)).getD 0 = nI c9 from (r8 _ _ hy).symm.trans ec]
      exact vc_n hc)

end S_CAN
