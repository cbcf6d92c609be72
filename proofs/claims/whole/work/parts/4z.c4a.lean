section S_C4A
abbrev ws_X8_init : List Cond := Cond.code yX8_init cX8_init 2 none :: W0
abbrev rm_X8_init : Room := ({ frames := 1, cells := 0, slots := 0, locals := 20 } : Room)
def wp_X8_init (P : HS → Prop) (x0 : Nat) (p0 : Int32) (S : HS) : Prop := vz p0 ∧ (∀ S3 : HS, S3 = putI S 180 x0 p0 → (P S3))
set_option maxRecDepth 100000 in
set_option maxHeartbeats 4000000 in
theorem t_X8_init {p : Program} {l : Launch} {e : Env} {s : State} {m : MethodId} {args : Array Value} {below : List Frame} {meth : Method} {c : Code} {D : va_G} {A : Nat → Prop} {T : Nat → ClassId} (C : GC p s m args meth c cX8_init "FreightRater$Test" (ws_X8_init) 2 D A (zty T)) (E : GE T A s) (hr : meth.sig.returnType = none) (hin : meth.name = "<init>") (P : HS → Prop) : ∀ (x0 : Nat) (p0 : Int32) (S0 S : HS) (L : List Nat), S0 = S → wt S → hL S L → (hK S x0 = 9) → wp_X8_init P x0 p0 S → GW p l e { rm_X8_init with cells := 0, slots := 0 } s m args below meth c D A 2 0 0 (MQ below (va_Qv (fun (u : HS × List Nat) => P u.1 ∧ CO S0 u) (CE D T A) A) args s 0 0 A) (CW T S L) 0 0 0 [(0, .ref x0), (1, .int p0)] [] := by
  have hW : ∀ {w : Cond}, w ∈ W0 → w.before args s = true := fun h => C.2.2.2.2.1 _ (List.mem_cons_of_mem _ h)
  intro x0 p0 S0 S L hS0 hw hL hx0 h
  have he : ext S0 S := by rw [hS0]; exact ext_rf
  unfold wp_X8_init at h
  refine g_aload_n C dX8_init_0 rfl 0 rfl ?_
  refine g_objInit C (hW kw_777) (hW kw_46) (hW kw_47) dX8_init_1 (Nat.le_of_ble_eq_true rfl) (Nat.le_of_ble_eq_true rfl) ?_
  refine g_aload_n C dX8_init_4 rfl 0 rfl ?_
  refine g_iload_n C dX8_init_5 rfl 1 rfl ?_
  obtain ⟨g1, h⟩ := h
  refine gc_putIF C iwx_X8 hL hx0 (by decide) (by decide) rfl 0 (by decide) (hW kw_778) rfl tyX8 tyX8_ok nmX8 rfl rfl rfl hin rfl (vz_n g1) (vz_f g1) dX8_init_6 ?_
  have w2 := wt_putI hw 180 p0 (k_ne hx0 (by decide))
  refine gc_nS (fun S3 eS3 => ?_)
  replace h := h S3 eS3
  have w4 : wt S3 := by rw [eS3]; exact w2
  have w5 : isL S3 L := by rw [eS3]; exact hL
  have w6 : ext S0 S3 := by rw [eS3]; exact he
  have g7 : hK S3 x0 = 9 := by rw [eS3]; exact hx0
  exact gc_vret C w4 w5 w6 hr dX8_init_9 h
theorem c_X8_init (l : Launch) (D : va_G) (T : Nat → ClassId) (x0 : Nat) (p0 : Int32) (S : HS) (hx0 : hK S x0 = 9) (P : HS → Prop) (h : wp_X8_init P x0 p0 S) : CMv l yX8_init (ws_X8_init) rm_X8_init D T [.ref x0, .int p0] S 0 0 P := gc_metv (by decide) rfl rfl (Nat.le_of_ble_eq_true rfl) (fun p e s m args below meth c A L C E hnm hr hw hL => t_X8_init C E   hr hnm P x0 p0 S S L rfl hw hL hx0 h)
theorem k_X8_init (l : Launch) (D : va_G) (T : Nat → ClassId) (x0 : Nat) (p0 : Int32) (S : HS) (hx0 : hK S x0 = 9) (h : vz p0) : CMv l yX8_init (ws_X8_init) rm_X8_init D T [.ref x0, .int p0] S 0 0 (fun S1 => (S1 = putI S 180 x0 p0)) := c_X8_init l D T x0 p0 S hx0 _ <|
  (by
    unfold wp_X8_init
    exact ⟨h, fun S2 e2 => e2⟩)
abbrev ws_X7_init : List Cond := Cond.code yX7_init cX7_init 2 none :: W0
abbrev rm_X7_init : Room := ({ frames := 1, cells := 0, slots := 0, locals := 20 } : Room)
def wp_X7_init (P : HS → Prop) (x0 : Nat) (p0 : Int32) (S : HS) : Prop := ∀ S2 : HS, S2 = putI S 160 x0 p0 → (P S2)
set_option maxRecDepth 100000 in
set_option maxHeartbeats 4000000 in
theorem t_X7_init {p : Program} {l : Launch} {e : Env} {s : State} {m : MethodId} {args : Array Value} {below : List Frame} {meth : Method} {c : Code} {D : va_G} {A : Nat → Prop} {T : Nat → ClassId} (C : GC p s m args meth c cX7_init "FreightRater$Statement" (ws_X7_init) 2 D A (zty T)) (E : GE T A s) (hr : meth.sig.returnType = none) (hin : meth.name = "<init>") (P : HS → Prop) : ∀ (x0 : Nat) (p0 : Int32) (S0 S : HS) (L : List Nat), S0 = S → wt S → hL S L → (hK S x0 = 8) → wp_X7_init P x0 p0 S → GW p l e { rm_X7_init with cells := 0, slots := 0 } s m args below meth c D A 2 0 0 (MQ below (va_Qv (fun (u : HS × List Nat) => P u.1 ∧ CO S0 u) (CE D T A) A) args s 0 0 A) (CW T S L) 0 0 0 [(0, .ref x0), (1, .int p0)] [] := by
  have hW : ∀ {w : Cond}, w ∈ W0 → w.before args s = true := fun h => C.2.2.2.2.1 _ (List.mem_cons_of_mem _ h)
  intro x0 p0 S0 S L hS0 hw hL hx0 h
  have he : ext S0 S := by rw [hS0]; exact ext_rf
  unfold wp_X7_init at h
  refine g_aload_n C dX7_init_0 rfl 0 rfl ?_
  refine g_objInit C (hW kw_684) (hW kw_46) (hW kw_47) dX7_init_1 (Nat.le_of_ble_eq_true rfl) (Nat.le_of_ble_eq_true rfl) ?_
  refine g_aload_n C dX7_init_4 rfl 0 rfl ?_
  refine g_iload_n C dX7_init_5 rfl 1 rfl ?_
  refine gc_putIF C iwx_X7 hL hx0 (by decide) (by decide) rfl 0 (by decide) (hW kw_685) rfl tyX7 tyX7_ok nmX7 rfl rfl rfl hin rfl rfl rfl dX7_init_6 ?_
  have w1 := wt_putI hw 160 p0 (k_ne hx0 (by decide))
  refine gc_nS (fun S2 eS2 => ?_)
  replace h := h S2 eS2
  have w3 : wt S2 := by rw [eS2]; exact w1
  have w4 : isL S2 L := by rw [eS2]; exact hL
  have w5 : ext S0 S2 := by rw [eS2]; exact he
  have g6 : hK S2 x0 = 8 := by rw [eS2]; exact hx0
  exact gc_vret C w3 w4 w5 hr dX7_init_9 h
theorem c_X7_init (l : Launch) (D : va_G) (T : Nat → ClassId) (x0 : Nat) (p0 : Int32) (S : HS) (hx0 : hK S x0 = 8) (P : HS → Prop) (h : wp_X7_init P x0 p0 S) : CMv l yX7_init (ws_X7_init) rm_X7_init D T [.ref x0, .int p0] S 0 0 P := gc_metv (by decide) rfl rfl (Nat.le_of_ble_eq_true rfl) (fun p e s m args below meth c A L C E hnm hr hw hL => t_X7_init C E   hr hnm P x0 p0 S S L rfl hw hL hx0 h)
theorem k_X7_init (l : Launch) (D : va_G) (T : Nat → ClassId) (x0 : Nat) (p0 : Int32) (S : HS) (hx0 : hK S x0 = 8) : CMv l yX7_init (ws_X7_init) rm_X7_init D T [.ref x0, .int p0] S 0 0 (fun S1 => (S1 = putI S 160 x0 p0)) := c_X7_init l D T x0 p0 S hx0 _ <|
  (by
    unfold wp_X7_init
    exact fun S2 e2 => e2)

end S_C4A
