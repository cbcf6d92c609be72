section S_C5I
abbrev ws_X9_init_ : List Cond := Cond.code yX9_init_ cX9_init_ 3 none :: W0
abbrev rm_X9_init_ : Room := ({ frames := 2, cells := 0, slots := 0, locals := 43 } : Room)
def wb_X9_init__96 (rec : Nat → Nat → Int32 → HS → Nat → Nat → Prop) (K127 : Nat → Nat → HS → Nat → Nat → Prop) (P : HS → Prop) (x0 : Nat) (x1 : Nat) (x2 : Int32) (S : HS) (kc ks : Nat) : Prop := (9 ≤ x2 → (K127 x0 x1 S kc ks)) ∧ (¬ 9 ≤ x2 → (∃ b150 : Nat, hR S 205 x0 = some b150 ∧ (hK S b150 = 26 → ((1 ≤ kc ∧ 4 ≤ ks) ∧ (∀ q152 : Nat, hK S q152 = 0 → zr S q152 → (∀ S161 : HS, S161 = newO S q152 5 → (∃ b170 : Nat, hR S161 205 x1 = some b170 ∧ (hK S161 b170 = 26 → (vp_in x2 (hN S161 b170) ∧ (∀ o173 : Option Nat, o173 = hB S161 b170 (Int32.toNatClampNeg x2) → (∀ b, o173 = some b → hK S161 b = 5) → (∃ b174 : Nat, o173 = some b174 ∧ (hK S161 b174 = 5 → (∃ cc176 cc177 : Nat, (cc176 ≤ (kc - 1) ∧ cc177 ≤ (ks - 4)) ∧ (∃ (m179 : (Nat → Prop)) (m180 : Nat → Int32) (m181 : Nat) (m182 : Nat), ((RelSc S161 m179 b174 m180 m181 m182 ∧ b174 ≠ q152 ∧ ¬ m179 q152 ∧ (∀ b, m179 b → hK S161 b ≠ 0) ∧ 2 ≤ cc176 ∧ 10 ≤ cc177) ∧ (∀ (S184 : HS), ext S161 S184 → (frM S161 S184 (fun b => b = q152) ∧ RelSc S184 m179 q152 m180 m181 m182 ∧ scN S161 S184 q152) → (vp_in x2 (hN S184 b150) ∧ (∀ S196 : HS, S196 = putB S184 b150 (Int32.toNatClampNeg x2) (some q152) → (∀ v202 : Int32, v202 = x2 + 1 → (rec x0 x1 v202 S196 ((kc - 1) - cc176) ((ks - 4) - cc177)))))))))))))))))))))
def wp_X9_init__96 (K127 : Nat → Nat → HS → Nat → Nat → Prop) (P : HS → Prop) : Nat → Nat → Nat → Int32 → HS → Nat → Nat → Prop
  | 0 => fun _ _ _ _ _ _ => False
  | n + 1 => fun x0 x1 x2 S kc ks => wb_X9_init__96 (wp_X9_init__96 K127 P n) K127 P x0 x1 x2 S kc ks
set_option maxRecDepth 100000 in
set_option maxHeartbeats 4000000 in
theorem t_X9_init__96 {p : Program} {l : Launch} {e : Env} {s : State} {m : MethodId} {args : Array Value} {below : List Frame} {meth : Method} {c : Code} {D : va_G} {A : Nat → Prop} {T : Nat → ClassId} {mc ms : Nat} (C : GC p s m args meth c cX9_init_ "FreightRater$Version" (ws_X9_init_) 3 D A (zty T)) (E : GE T A s) (hr : meth.sig.returnType = none) (hin : meth.name = "<init>") (S0 : HS) (K127 : Nat → Nat → HS → Nat → Nat → Prop) (P : HS → Prop) (hK127 : ∀ (x0 : Nat) (x1 : Nat) (S : HS) (kc ks : Nat) (L : List Nat), wt S → hL S L → ext S0 S → (hK S x0 = 10) → (hK S x1 = 10) → K127 x0 x1 S kc ks → GW p l e { rm_X9_init_ with cells := mc, slots := ms } s m args below meth c D A 3 mc ms (MQ below (va_Qv (fun (u : HS × List Nat) => P u.1 ∧ CO S0 u) (CE D T A) A) args s mc ms A) (CW T S L) kc ks 127 [(0, .ref x0), (1, .ref x1)] []) : ∀ (n : Nat) (x0 : Nat) (x1 : Nat) (x2 : Int32) (S : HS) (kc ks : Nat) (L : List Nat), wt S → hL S L → ext S0 S → (hK S x0 = 10) → (hK S x1 = 10) → wp_X9_init__96 K127 P n x0 x1 x2 S kc ks → GW p l e { rm_X9_init_ with cells := mc, slots := ms } s m args below meth c D A 3 mc ms (MQ below (va_Qv (fun (u : HS × List Nat) => P u.1 ∧ CO S0 u) (CE D T A) A) args s mc ms A) (CW T S L) kc ks 96 [(0, .ref x0), (1, .ref x1), (2, .int x2)] [] := by
  have hW : ∀ {w : Cond}, w ∈ W0 → w.before args s = true := fun h => C.2.2.2.2.1 _ (List.mem_cons_of_mem _ h)
  intro n
  induction n with
  | zero => intro x0 x1 x2 S kc ks L hw hL he hx0 hx1 h; exact h.elim
  | succ n ih =>
    intro x0 x1 x2 S kc ks L hw hL he hx0 hx1 h
    replace h : wb_X9_init__96 (wp_X9_init__96 K127 P n) K127 P x0 x1 x2 S kc ks := h
    unfold wb_X9_init__96 at h
    refine g_iload_n C dX9_init__96 rfl 2 rfl ?_
    refine g_bipush (v := 9) C dX9_init__97 (by decide) ?_
    refine g_icmp_ge (tgt := 127) C dX9_init__99 (by decide) (fun z148 => ?_) (fun z148 => ?_)
    · replace h := h.1 z148
      refine g_locals [0, 1] rfl ?_
      exact hK127 x0 x1 S kc ks L hw hL he hx0 hx1 h
    · replace h := h.2 z148
      refine g_aload_n C dX9_init__102 rfl 0 rfl ?_
      refine gc_getR C hw iwx_X9 hL hx0 (by decide) (by decide) rfl 5 (by decide) (hW kw_422) rfl rfl rfl dX9_init__103 (fun o149 eo149 ko149 => ?_)
      obtain ⟨b150, hb9, h⟩ := h
      have g151 : hK S b150 = 26 := ko149 b150 (eo149.trans hb9)
      replace h := h g151
      refine g_opt (eo149.trans hb9) ?_
      refine g_iload_n C dX9_init__106 rfl 2 rfl ?_
      obtain ⟨g153, h⟩ := h
      refine gc_new (kd := 5) (N := 4) C E hw hL (Nat.le_refl _) (Nat.le_refl _) iwx_X4 tyX4 tyX4_ok (by decide) (by decide) rfl (fun j hj => by rcases (show j = 0 ∨ j = 1 ∨ j = 2 ∨ j = 3 by omega) with rfl | rfl | rfl | rfl <;> rfl) (hW kw_384) (hW kw_388) (hW kw_15) g153.1 g153.2 dX9_init__107 (fun q152 h0q152 zq152 => ?_)
      replace h := h q152 h0q152 zq152
      have g154 := newO_old 5 g151 (by decide) h0q152
      have g155 := newO_old 5 hx0 (by decide) h0q152
      have g156 := newO_old 5 hx1 (by decide) h0q152
      have w157 := wt_newO hw 5 h0q152 (by decide)
      have w158 := hL_new (S' := newO S q152 5) hL (show 5 ≠ 0 by decide) rfl
      have w159 := ext_newO he h0q152 5
      have g160 := newO_self S q152 5
      refine gc_nS (fun S161 eS161 => ?_)
      replace h := h S161 eS161
      have w162 : wt S161 := by rw [eS161]; exact w157
      have w163 : isL S161 (L ++ [q152]) := by rw [eS161]; exact w158
      have w164 : ext S0 S161 := by rw [eS161]; exact w159
      have g165 : hK S161 q152 = 5 := by rw [eS161]; exact g160
      have g166 : hK S161 b150 = 26 := by rw [eS161]; exact g154
      have g167 : hK S161 x0 = 10 := by rw [eS161]; exact g155
      have g168 : hK S161 x1 = 10 := by rw [eS161]; exact g156
      refine g_dup C dX9_init__110 rfl ?_
      refine g_aload_n C dX9_init__111 rfl 1 rfl ?_
      refine gc_getR C w162 iwx_X9 w163 g168 (by decide) (by decide) rfl 5 (by decide) (hW kw_422) rfl rfl rfl dX9_init__112 (fun o169 eo169 ko169 => ?_)
      obtain ⟨b170, hb9, h⟩ := h
      have g171 : hK S161 b170 = 26 := ko169 b170 (eo169.trans hb9)
      replace h := h g171
      refine g_opt (eo169.trans hb9) ?_
      refine g_iload_n C dX9_init__115 rfl 2 rfl ?_
      obtain ⟨g172, h⟩ := h
      refine gc_aald C w162 w163 g171 (by decide) rfl g172 dX9_init__116 (fun o173 eo173 ko173 => ?_)
      replace h := h o173 eo173 ko173
      obtain ⟨b174, rfl, h⟩ := h
      have g175 : hK S161 b174 = 5 := ko173 b174 rfl
      replace h := h g175
      obtain ⟨cc176, cc177, g178, h⟩ := h
      obtain ⟨m179, m180, m181, m182, h⟩ := h
      obtain ⟨g183, h⟩ := h
      refine gc_callvI (host := "") (ret := none) C E w162 w163 [.ref b174] rfl (k_X4_init_ l D T q152 b174 S161 m179 m180 m181 m182 cc176 cc177 g165 g175 g183) (w0_I 1 C.2.2.2.2.1 kw_512 kw_513 kw_15 kw_514 rfl rfl rfl (by decide +kernel) ⟨Nat.le_of_ble_eq_true rfl, Nat.le_of_ble_eq_true rfl⟩) rfl (Nat.le_of_ble_eq_true rfl) (Nat.le_refl _) (Nat.le_refl _) g178.1 g178.2 dX9_init__117 (fun S184 L185 e186 w187 w188 hp => ?_)
      replace h := h S184 e186 hp
      have g189 := ext_K e186 g165 (by decide)
      have g190 := ext_K e186 g166 (by decide)
      have g191 := ext_K e186 g167 (by decide)
      have g192 := ext_K e186 g168 (by decide)
      have w193 := ext_tr w164 e186
      obtain ⟨g194, h⟩ := h
      refine gc_aast C w188 g190 (by decide) rfl g189 (by decide) (by decide) rfl g194 dX9_init__120 ?_
      have w195 := wt_putB w187 (Int32.toNatClampNeg x2) (some q152) (k_ne g190 (by decide)) (fun b hb => by cases hb; rw [show hK S184 b150 = 26 from g190]; exact g189)
      refine gc_nS (fun S196 eS196 => ?_)
      replace h := h S196 eS196
      have w197 : wt S196 := by rw [eS196]; exact w195
      have w198 : isL S196 L185 := by rw [eS196]; exact w188
      have w199 : ext S0 S196 := by rw [eS196]; exact w193
      have g200 : hK S196 x0 = 10 := by rw [eS196]; exact g191
      have g201 : hK S196 x1 = 10 := by rw [eS196]; exact g192
      obtain ⟨v202, ev202⟩ : ∃ y : Int32, y = x2 + 1 := ⟨_, rfl⟩
      replace h := h v202 ev202
      refine g_iinc (v := v202) (lv' := [(2, .int v202), (0, .ref x0), (1, .ref x1)]) C dX9_init__121 (j := 2) rfl (by rw [ev202]; rfl) (by decide) rfl ?_
      refine g_goto (tgt := 96) C dX9_init__124 (by decide) ?_
      refine g_locals [1, 2, 0] rfl ?_
      exact ih x0 x1 v202 S196 ((kc - 1) - cc176) ((ks - 4) - cc177) L185 w197 w198 w199 g200 g201 h
def wb_X9_init__161 (rec : Nat → Nat → Int32 → HS → Nat → Nat → Prop) (P : HS → Prop) (x0 : Nat) (x1 : Nat) (x2 : Int32) (S : HS) (kc ks : Nat) : Prop := (10 ≤ x2 → (P S)) ∧ (¬ 10 ≤ x2 → (∃ b234 : Nat, hR S 210 x0 = some b234 ∧ (hK S b234 = 25 → (∃ b237 : Nat, hR S 210 x1 = some b237 ∧ (hK S b237 = 25 → (vp_in x2 (hN S b237) ∧ (∀ o240 : Option Nat, o240 = hB S b237 (Int32.toNatClampNeg x2) → (∀ b, o240 = some b → hK S b = 1) → (vp_in x2 (hN S b234) ∧ (∀ S243 : HS, S243 = putB S b234 (Int32.toNatClampNeg x2) o240 → (∀ v249 : Int32, v249 = x2 + 1 → (rec x0 x1 v249 S243 kc ks)))))))))))
def wp_X9_init__161 (P : HS → Prop) : Nat → Nat → Nat → Int32 → HS → Nat → Nat → Prop
  | 0 => fun _ _ _ _ _ _ => False
  | n + 1 => fun x0 x1 x2 S kc ks => wb_X9_init__161 (wp_X9_init__161  P n)  P x0 x1 x2 S kc ks
set_option maxRecDepth 100000 in
set_option maxHeartbeats 4000000 in
theorem t_X9_init__161 {p : Program} {l : Launch} {e : Env} {s : State} {m : MethodId} {args : Array Value} {below : List Frame} {meth : Method} {c : Code} {D : va_G} {A : Nat → Prop} {T : Nat → ClassId} {mc ms : Nat} (C : GC p s m args meth c cX9_init_ "FreightRater$Version" (ws_X9_init_) 3 D A (zty T)) (E : GE T A s) (hr : meth.sig.returnType = none) (hin : meth.name = "<init>") (S0 : HS) (P : HS → Prop) : ∀ (n : Nat) (x0 : Nat) (x1 : Nat) (x2 : Int32) (S : HS) (kc ks : Nat) (L : List Nat), wt S → hL S L → ext S0 S → (hK S x0 = 10) → (hK S x1 = 10) → wp_X9_init__161  P n x0 x1 x2 S kc ks → GW p l e { rm_X9_init_ with cells := mc, slots := ms } s m args below meth c D A 3 mc ms (MQ below (va_Qv (fun (u : HS × List Nat) => P u.1 ∧ CO S0 u) (CE D T A) A) args s mc ms A) (CW T S L) kc ks 161 [(0, .ref x0), (1, .ref x1), (2, .int x2)] [] := by
  have hW : ∀ {w : Cond}, w ∈ W0 → w.before args s = true := fun h => C.2.2.2.2.1 _ (List.mem_cons_of_mem _ h)
  intro n
  induction n with
  | zero => intro x0 x1 x2 S kc ks L hw hL he hx0 hx1 h; exact h.elim
  | succ n ih =>
    intro x0 x1 x2 S kc ks L hw hL he hx0 hx1 h
    replace h : wb_X9_init__161 (wp_X9_init__161  P n)  P x0 x1 x2 S kc ks := h
    unfold wb_X9_init__161 at h
    refine g_iload_n C dX9_init__161 rfl 2 rfl ?_
    refine g_bipush (v := 10) C dX9_init__162 (by decide) ?_
    refine g_icmp_ge (tgt := 185) C dX9_init__164 (by decide) (fun z232 => ?_) (fun z232 => ?_)
    · replace h := h.1 z232
      exact gc_vret C hw hL he hr dX9_init__185 h
    · replace h := h.2 z232
      refine g_aload_n C dX9_init__167 rfl 0 rfl ?_
      refine gc_getR C hw iwx_X9 hL hx0 (by decide) (by decide) rfl 10 (by decide) (hW kw_435) rfl rfl rfl dX9_init__168 (fun o233 eo233 ko233 => ?_)
      obtain ⟨b234, hb9, h⟩ := h
      have g235 : hK S b234 = 25 := ko233 b234 (eo233.trans hb9)
      replace h := h g235
      refine g_opt (eo233.trans hb9) ?_
      refine g_iload_n C dX9_init__171 rfl 2 rfl ?_
      refine g_aload_n C dX9_init__172 rfl 1 rfl ?_
      refine gc_getR C hw iwx_X9 hL hx1 (by decide) (by decide) rfl 10 (by decide) (hW kw_435) rfl rfl rfl dX9_init__173 (fun o236 eo236 ko236 => ?_)
      obtain ⟨b237, hb9, h⟩ := h
      have g238 : hK S b237 = 25 := ko236 b237 (eo236.trans hb9)
      replace h := h g238
      refine g_opt (eo236.trans hb9) ?_
      refine g_iload_n C dX9_init__176 rfl 2 rfl ?_
      obtain ⟨g239, h⟩ := h
      refine gc_aald C hw hL g238 (by decide) rfl g239 dX9_init__177 (fun o240 eo240 ko240 => ?_)
      replace h := h o240 eo240 ko240
      obtain ⟨g241, h⟩ := h
      refine gc_aastq C hL g235 (by decide) rfl ko240 (by decide) (by decide) rfl g241 dX9_init__178 ?_
      have w242 := wt_putB hw (Int32.toNatClampNeg x2) o240 (k_ne g235 (by decide)) (fun b hb => by rw [show hK S b234 = 25 from g235]; exact ko240 b hb)
      refine gc_nS (fun S243 eS243 => ?_)
      replace h := h S243 eS243
      have w244 : wt S243 := by rw [eS243]; exact w242
      have w245 : isL S243 L := by rw [eS243]; exact hL
      have w246 : ext S0 S243 := by rw [eS243]; exact he
      have g247 : hK S243 x0 = 10 := by rw [eS243]; exact hx0
      have g248 : hK S243 x1 = 10 := by rw [eS243]; exact hx1
      obtain ⟨v249, ev249⟩ : ∃ y : Int32, y = x2 + 1 := ⟨_, rfl⟩
      replace h := h v249 ev249
      refine g_iinc (v := v249) (lv' := [(2, .int v249), (0, .ref x0), (1, .ref x1)]) C dX9_init__179 (j := 2) rfl (by rw [ev249]; rfl) (by decide) rfl ?_
      refine g_goto (tgt := 161) C dX9_init__182 (by decide) ?_
      refine g_locals [1, 2, 0] rfl ?_
      exact ih x0 x1 v249 S243 kc ks L w244 w245 w246 g247 g248 h
def wp_X9_init_ (P : HS → Prop) (x0 : Nat) (p0 : Nat) (S : HS) (mc ms : Nat) : Prop := ((¬ 9 < (0 : Int32) ∧ (Int32.toNatClampNeg 9) ≤ 100000000) ∧ 1 ≤ mc ∧ (Int32.toNatClampNeg 9) ≤ ms) ∧ (∀ q1 : Nat, hK S q1 = 0 → zr S q1 → (∀ S9 : HS, S9 = newA S q1 26 (Int32.toNatClampNeg 9) → (∀ S17 : HS, S17 = putR S9 205 x0 (some q1) → (∀ S24 : HS, S24 = putI S17 206 x0 5000 → (∀ S31 : HS, S31 = putI S24 209 x0 999 → (((¬ 10 < (0 : Int32) ∧ (Int32.toNatClampNeg 10) ≤ 100000000) ∧ 1 ≤ (mc - 1) ∧ (Int32.toNatClampNeg 10) ≤ (ms - (Int32.toNatClampNeg 9))) ∧ (∀ q37 : Nat, hK S31 q37 = 0 → zr S31 q37 → (∀ S45 : HS, S45 = newA S31 q37 25 (Int32.toNatClampNeg 10) → (∀ S53 : HS, S53 = putR S45 210 x0 (some q37) → (∀ S60 : HS, S60 = putI S53 200 x0 (hI S53 200 p0) → (∀ S67 : HS, S67 = putI S60 201 x0 (hI S60 201 p0) → (∃ b74 : Nat, hR S67 202 p0 = some b74 ∧ (hK S67 b74 = 22 → ((1 ≤ ((mc - 1) - 1) ∧ hN S67 b74 ≤ ((ms - (Int32.toNatClampNeg 9)) - (Int32.toNatClampNeg 10))) ∧ (∀ q76 : Nat, hK S67 q76 = 0 → zr S67 q76 → (∀ S84 : HS, S84 = newC S67 q76 22 (hN S67 b74) (hA S67 b74) → (∀ S92 : HS, S92 = putR S84 202 x0 (some q76) → (∃ b99 : Nat, hR S92 203 p0 = some b99 ∧ (hK S92 b99 = 22 → ((1 ≤ (((mc - 1) - 1) - 1) ∧ hN S92 b99 ≤ (((ms - (Int32.toNatClampNeg 9)) - (Int32.toNatClampNeg 10)) - (hN S67 b74))) ∧ (∀ q101 : Nat, hK S92 q101 = 0 → zr S92 q101 → (∀ S109 : HS, S109 = newC S92 q101 22 (hN S92 b99) (hA S92 b99) → (∀ S117 : HS, S117 = putR S109 203 x0 (some q101) → (∃ b124 : Nat, hR S117 204 p0 = some b124 ∧ (hK S117 b124 = 22 → ((1 ≤ ((((mc - 1) - 1) - 1) - 1) ∧ hN S117 b124 ≤ ((((ms - (Int32.toNatClampNeg 9)) - (Int32.toNatClampNeg 10)) - (hN S67 b74)) - (hN S92 b99))) ∧ (∀ q126 : Nat, hK S117 q126 = 0 → zr S117 q126 → (∀ S134 : HS, S134 = newC S117 q126 22 (hN S117 b124) (hA S117 b124) → (∀ S142 : HS, S142 = putR S134 204 x0 (some q126) → (∃ k251 : Nat, wp_X9_init__96 (fun (y203_x0 : Nat) (y203_x1 : Nat) (Sy203_ : HS) (kcy203_ ksy203_ : Nat) => (hK Sy203_ y203_x0 = 10) → (hK Sy203_ y203_x1 = 10) → (∀ S205 : HS, S205 = putI Sy203_ 206 y203_x0 (hI Sy203_ 206 y203_x1) → (∀ S212 : HS, S212 = putI S205 207 y203_x0 (hI S205 207 y203_x1) → (∀ S219 : HS, S219 = putI S212 208 y203_x0 (hI S212 208 y203_x1) → (∀ S226 : HS, S226 = putI S219 209 y203_x0 (hI S219 209 y203_x1) → (∃ k250 : Nat, wp_X9_init__161  P k250 y203_x0 y203_x1 0 S226 kcy203_ ksy203_)))))) P k251 x0 p0 0 S142 (((((mc - 1) - 1) - 1) - 1) - 1) (((((ms - (Int32.toNatClampNeg 9)) - (Int32.toNatClampNeg 10)) - (hN S67 b74)) - (hN S92 b99)) - (hN S117 b124))))))))))))))))))))))))))))))))
set_option maxRecDepth 100000 in
set_option maxHeartbeats 4000000 in
theorem t_X9_init_ {p : Program} {l : Launch} {e : Env} {s : State} {m : MethodId} {args : Array Value} {below : List Frame} {meth : Method} {c : Code} {D : va_G} {A : Nat → Prop} {T : Nat → ClassId} (C : GC p s m args meth c cX9_init_ "FreightRater$Version" (ws_X9_init_) 3 D A (zty T)) (E : GE T A s) (hr : meth.sig.returnType = none) (hin : meth.name = "<init>") (P : HS → Prop) : ∀ (x0 : Nat) (p0 : Nat) (S0 S : HS) (mc ms : Nat) (L : List Nat), S0 = S → wt S → hL S L → (hK S x0 = 10) → (hK S p0 = 10) → wp_X9_init_ P x0 p0 S mc ms → GW p l e { rm_X9_init_ with cells := mc, slots := ms } s m args below meth c D A 3 mc ms (MQ below (va_Qv (fun (u : HS × List Nat) => P u.1 ∧ CO S0 u) (CE D T A) A) args s mc ms A) (CW T S L) mc ms 0 [(0, .ref x0), (1, .ref p0)] [] := by
  have hW : ∀ {w : Cond}, w ∈ W0 → w.before args s = true := fun h => C.2.2.2.2.1 _ (List.mem_cons_of_mem _ h)
  intro x0 p0 S0 S mc ms L hS0 hw hL hx0 hp0 h
  have he : ext S0 S := by rw [hS0]; exact ext_rf
  unfold wp_X9_init_ at h
  refine g_aload_n C dX9_init__0 rfl 0 rfl ?_
  refine g_objInit C (hW kw_383) (hW kw_46) (hW kw_47) dX9_init__1 (Nat.le_of_ble_eq_true rfl) (Nat.le_of_ble_eq_true rfl) ?_
  refine g_aload_n C dX9_init__4 rfl 0 rfl ?_
  refine g_bipush (v := 9) C dX9_init__5 (by decide) ?_
  obtain ⟨g2, h⟩ := h
  refine gc_anew (kd := 26) C E hw hL (Nat.le_refl _) (Nat.le_refl _) (show "FreightRater$Scale" ∈ overL by decide) (by decide) rfl (hW kw_384) g2.1.1 g2.1.2 g2.2.1 g2.2.2 dX9_init__7 (fun q1 h0q1 zq1 => ?_)
  replace h := h q1 h0q1 zq1
  have g3 := newA_old 26 (Int32.toNatClampNeg 9) hx0 (by decide) h0q1
  have g4 := newA_old 26 (Int32.toNatClampNeg 9) hp0 (by decide) h0q1
  have w5 := wt_newA hw 26 (Int32.toNatClampNeg 9) h0q1 (by decide)
  have w6 := hL_new (S' := newA S q1 26 (Int32.toNatClampNeg 9)) hL (show 26 ≠ 0 by decide) rfl
  have w7 := ext_newA he h0q1 26 (Int32.toNatClampNeg 9)
  have g8 := newA_self S q1 26 (Int32.toNatClampNeg 9)
  refine gc_nS (fun S9 eS9 => ?_)
  replace h := h S9 eS9
  have w10 : wt S9 := by rw [eS9]; exact w5
  have w11 : isL S9 (L ++ [q1]) := by rw [eS9]; exact w6
  have w12 : ext S0 S9 := by rw [eS9]; exact w7
  have g13 : hK S9 q1 = 26 := by rw [eS9]; exact g8
  have g14 : hK S9 x0 = 10 := by rw [eS9]; exact g3
  have g15 : hK S9 p0 = 10 := by rw [eS9]; exact g4
  refine gc_putRF C iwx_X9 w11 g14 (by decide) (by decide) rfl 5 (by decide) (hW kw_422) rfl tyX9 tyX9_ok nmX9 rfl rfl rfl hin rfl (some q1) rfl rfl dX9_init__10 ?_
  have w16 := wt_putR w10 205 (some q1) (k_ne g14 (by decide)) (fun b hb => by cases hb; exact g13) (by decide)
  refine gc_nS (fun S17 eS17 => ?_)
  replace h := h S17 eS17
  have w18 : wt S17 := by rw [eS17]; exact w16
  have w19 : isL S17 (L ++ [q1]) := by rw [eS17]; exact w11
  have w20 : ext S0 S17 := by rw [eS17]; exact w12
  have g21 : hK S17 x0 = 10 := by rw [eS17]; exact g14
  have g22 : hK S17 p0 = 10 := by rw [eS17]; exact g15
  refine g_aload_n C dX9_init__13 rfl 0 rfl ?_
  refine g_sipush (v := 5000) C dX9_init__14 (by decide) ?_
  refine gc_putI C iwx_X9 w19 g21 (by decide) (by decide) rfl 6 (by decide) (hW kw_423) rfl tyX9 tyX9_ok nmX9 rfl rfl rfl rfl rfl dX9_init__17 ?_
  have w23 := wt_putI w18 206 5000 (k_ne g21 (by decide))
  refine gc_nS (fun S24 eS24 => ?_)
  replace h := h S24 eS24
  have w25 : wt S24 := by rw [eS24]; exact w23
  have w26 : isL S24 (L ++ [q1]) := by rw [eS24]; exact w19
  have w27 : ext S0 S24 := by rw [eS24]; exact w20
  have g28 : hK S24 x0 = 10 := by rw [eS24]; exact g21
  have g29 : hK S24 p0 = 10 := by rw [eS24]; exact g22
  refine g_aload_n C dX9_init__20 rfl 0 rfl ?_
  refine g_sipush (v := 999) C dX9_init__21 (by decide) ?_
  refine gc_putI C iwx_X9 w26 g28 (by decide) (by decide) rfl 9 (by decide) (hW kw_432) rfl tyX9 tyX9_ok nmX9 rfl rfl rfl rfl rfl dX9_init__24 ?_
  have w30 := wt_putI w25 209 999 (k_ne g28 (by decide))
  refine gc_nS (fun S31 eS31 => ?_)
  replace h := h S31 eS31
  have w32 : wt S31 := by rw [eS31]; exact w30
  have w33 : isL S31 (L ++ [q1]) := by rw [eS31]; exact w26
  have w34 : ext S0 S31 := by rw [eS31]; exact w27
  have g35 : hK S31 x0 = 10 := by rw [eS31]; exact g28
  have g36 : hK S31 p0 = 10 := by rw [eS31]; exact g29
  refine g_aload_n C dX9_init__27 rfl 0 rfl ?_
  refine g_bipush (v := 10) C dX9_init__28 (by decide) ?_
  obtain ⟨g38, h⟩ := h
  refine gc_anew (kd := 25) C E w32 w33 (Nat.le_refl _) (Nat.le_refl _) (show "FreightRater$Accessorial" ∈ overL by decide) (by decide) rfl (hW kw_386) g38.1.1 g38.1.2 g38.2.1 g38.2.2 dX9_init__30 (fun q37 h0q37 zq37 => ?_)
  replace h := h q37 h0q37 zq37
  have g39 := newA_old 25 (Int32.toNatClampNeg 10) g35 (by decide) h0q37
  have g40 := newA_old 25 (Int32.toNatClampNeg 10) g36 (by decide) h0q37
  have w41 := wt_newA w32 25 (Int32.toNatClampNeg 10) h0q37 (by decide)
  have w42 := hL_new (S' := newA S31 q37 25 (Int32.toNatClampNeg 10)) w33 (show 25 ≠ 0 by decide) rfl
  have w43 := ext_newA w34 h0q37 25 (Int32.toNatClampNeg 10)
  have g44 := newA_self S31 q37 25 (Int32.toNatClampNeg 10)
  refine gc_nS (fun S45 eS45 => ?_)
  replace h := h S45 eS45
  have w46 : wt S45 := by rw [eS45]; exact w41
  have w47 : isL S45 ((L ++ [q1]) ++ [q37]) := by rw [eS45]; exact w42
  have w48 : ext S0 S45 := by rw [eS45]; exact w43
  have g49 : hK S45 q37 = 25 := by rw [eS45]; exact g44
  have g50 : hK S45 x0 = 10 := by rw [eS45]; exact g39
  have g51 : hK S45 p0 = 10 := by rw [eS45]; exact g40
  refine gc_putRF C iwx_X9 w47 g50 (by decide) (by decide) rfl 10 (by decide) (hW kw_435) rfl tyX9 tyX9_ok nmX9 rfl rfl rfl hin rfl (some q37) rfl rfl dX9_init__33 ?_
  have w52 := wt_putR w46 210 (some q37) (k_ne g50 (by decide)) (fun b hb => by cases hb; exact g49) (by decide)
  refine gc_nS (fun S53 eS53 => ?_)
  replace h := h S53 eS53
  have w54 : wt S53 := by rw [eS53]; exact w52
  have w55 : isL S53 ((L ++ [q1]) ++ [q37]) := by rw [eS53]; exact w47
  have w56 : ext S0 S53 := by rw [eS53]; exact w48
  have g57 : hK S53 x0 = 10 := by rw [eS53]; exact g50
  have g58 : hK S53 p0 = 10 := by rw [eS53]; exact g51
  refine g_aload_n C dX9_init__36 rfl 0 rfl ?_
  refine g_aload_n C dX9_init__37 rfl 1 rfl ?_
  refine gc_getI C iwx_X9 w55 g58 (by decide) (by decide) rfl 0 (by decide) (hW kw_414) rfl rfl rfl dX9_init__38 ?_
  refine gc_putI C iwx_X9 w55 g57 (by decide) (by decide) rfl 0 (by decide) (hW kw_414) rfl tyX9 tyX9_ok nmX9 rfl rfl rfl rfl rfl dX9_init__41 ?_
  have w59 := wt_putI w54 200 (hI S53 200 p0) (k_ne g57 (by decide))
  refine gc_nS (fun S60 eS60 => ?_)
  replace h := h S60 eS60
  have w61 : wt S60 := by rw [eS60]; exact w59
  have w62 : isL S60 ((L ++ [q1]) ++ [q37]) := by rw [eS60]; exact w55
  have w63 : ext S0 S60 := by rw [eS60]; exact w56
  have g64 : hK S60 x0 = 10 := by rw [eS60]; exact g57
  have g65 : hK S60 p0 = 10 := by rw [eS60]; exact g58
  refine g_aload_n C dX9_init__44 rfl 0 rfl ?_
  refine g_aload_n C dX9_init__45 rfl 1 rfl ?_
  refine gc_getI C iwx_X9 w62 g65 (by decide) (by decide) rfl 1 (by decide) (hW kw_417) rfl rfl rfl dX9_init__46 ?_
  refine gc_putI C iwx_X9 w62 g64 (by decide) (by decide) rfl 1 (by decide) (hW kw_417) rfl tyX9 tyX9_ok nmX9 rfl rfl rfl rfl rfl dX9_init__49 ?_
  have w66 := wt_putI w61 201 (hI S60 201 p0) (k_ne g64 (by decide))
  refine gc_nS (fun S67 eS67 => ?_)
  replace h := h S67 eS67
  have w68 : wt S67 := by rw [eS67]; exact w66
  have w69 : isL S67 ((L ++ [q1]) ++ [q37]) := by rw [eS67]; exact w62
  have w70 : ext S0 S67 := by rw [eS67]; exact w63
  have g71 : hK S67 x0 = 10 := by rw [eS67]; exact g64
  have g72 : hK S67 p0 = 10 := by rw [eS67]; exact g65
  refine g_aload_n C dX9_init__52 rfl 0 rfl ?_
  refine g_aload_n C dX9_init__53 rfl 1 rfl ?_
  refine gc_getR C w68 iwx_X9 w69 g72 (by decide) (by decide) rfl 2 (by decide) (hW kw_419) rfl rfl rfl dX9_init__54 (fun o73 eo73 ko73 => ?_)
  obtain ⟨b74, hb9, h⟩ := h
  have g75 : hK S67 b74 = 22 := ko73 b74 (eo73.trans hb9)
  replace h := h g75
  refine g_opt (eo73.trans hb9) ?_
  obtain ⟨g77, h⟩ := h
  refine gc_clone C E w68 w69 (Nat.le_refl _) (Nat.le_refl _) g75 (hW kw_505) (hW kw_506) (hW kw_507) (hW kw_508) (hW kw_509) (by decide) (Nat.le_of_ble_eq_true rfl) (Nat.le_of_ble_eq_true rfl) g77.1 g77.2 dX9_init__57 (fun q76 h0q76 zq76 => ?_)
  replace h := h q76 h0q76 zq76
  have g78 := newC_old 22 (hN S67 b74) (hA S67 b74) g71 (by decide) h0q76
  have g79 := newC_old 22 (hN S67 b74) (hA S67 b74) g72 (by decide) h0q76
  have w80 := wt_newC w68 22 (hN S67 b74) (hA S67 b74) h0q76 (by decide)
  have w81 := hL_new (S' := newC S67 q76 22 (hN S67 b74) (hA S67 b74)) w69 (show 22 ≠ 0 by decide) rfl
  have w82 := ext_newC w70 h0q76 22 (hN S67 b74) (hA S67 b74)
  have g83 := newC_self S67 q76 22 (hN S67 b74) (hA S67 b74)
  refine gc_nS (fun S84 eS84 => ?_)
  replace h := h S84 eS84
  have w85 : wt S84 := by rw [eS84]; exact w80
  have w86 : isL S84 (((L ++ [q1]) ++ [q37]) ++ [q76]) := by rw [eS84]; exact w81
  have w87 : ext S0 S84 := by rw [eS84]; exact w82
  have g88 : hK S84 q76 = 22 := by rw [eS84]; exact g83
  have g89 : hK S84 x0 = 10 := by rw [eS84]; exact g78
  have g90 : hK S84 p0 = 10 := by rw [eS84]; exact g79
  refine gc_castI C w86 g88 (hW kw_511) dX9_init__60 ?_
  refine gc_putRF C iwx_X9 w86 g89 (by decide) (by decide) rfl 2 (by decide) (hW kw_419) rfl tyX9 tyX9_ok nmX9 rfl rfl rfl hin rfl (some q76) rfl rfl dX9_init__63 ?_
  have w91 := wt_putR w85 202 (some q76) (k_ne g89 (by decide)) (fun b hb => by cases hb; exact g88) (by decide)
  refine gc_nS (fun S92 eS92 => ?_)
  replace h := h S92 eS92
  have w93 : wt S92 := by rw [eS92]; exact w91
  have w94 : isL S92 (((L ++ [q1]) ++ [q37]) ++ [q76]) := by rw [eS92]; exact w86
  have w95 : ext S0 S92 := by rw [eS92]; exact w87
  have g96 : hK S92 x0 = 10 := by rw [eS92]; exact g89
  have g97 : hK S92 p0 = 10 := by rw [eS92]; exact g90
  refine g_aload_n C dX9_init__66 rfl 0 rfl ?_
  refine g_aload_n C dX9_init__67 rfl 1 rfl ?_
  refine gc_getR C w93 iwx_X9 w94 g97 (by decide) (by decide) rfl 3 (by decide) (hW kw_420) rfl rfl rfl dX9_init__68 (fun o98 eo98 ko98 => ?_)
  obtain ⟨b99, hb9, h⟩ := h
  have g100 : hK S92 b99 = 22 := ko98 b99 (eo98.trans hb9)
  replace h := h g100
  refine g_opt (eo98.trans hb9) ?_
  obtain ⟨g102, h⟩ := h
  refine gc_clone C E w93 w94 (Nat.le_refl _) (Nat.le_refl _) g100 (hW kw_505) (hW kw_506) (hW kw_507) (hW kw_508) (hW kw_509) (by decide) (Nat.le_of_ble_eq_true rfl) (Nat.le_of_ble_eq_true rfl) g102.1 g102.2 dX9_init__71 (fun q101 h0q101 zq101 => ?_)
  replace h := h q101 h0q101 zq101
  have g103 := newC_old 22 (hN S92 b99) (hA S92 b99) g96 (by decide) h0q101
  have g104 := newC_old 22 (hN S92 b99) (hA S92 b99) g97 (by decide) h0q101
  have w105 := wt_newC w93 22 (hN S92 b99) (hA S92 b99) h0q101 (by decide)
  have w106 := hL_new (S' := newC S92 q101 22 (hN S92 b99) (hA S92 b99)) w94 (show 22 ≠ 0 by decide) rfl
  have w107 := ext_newC w95 h0q101 22 (hN S92 b99) (hA S92 b99)
  have g108 := newC_self S92 q101 22 (hN S92 b99) (hA S92 b99)
  refine gc_nS (fun S109 eS109 => ?_)
  replace h := h S109 eS109
  have w110 : wt S109 := by rw [eS109]; exact w105
  have w111 : isL S109 ((((L ++ [q1]) ++ [q37]) ++ [q76]) ++ [q101]) := by rw [eS109]; exact w106
  have w112 : ext S0 S109 := by rw [eS109]; exact w107
  have g113 : hK S109 q101 = 22 := by rw [eS109]; exact g108
  have g114 : hK S109 x0 = 10 := by rw [eS109]; exact g103
  have g115 : hK S109 p0 = 10 := by rw [eS109]; exact g104
  refine gc_castI C w111 g113 (hW kw_511) dX9_init__74 ?_
  refine gc_putRF C iwx_X9 w111 g114 (by decide) (by decide) rfl 3 (by decide) (hW kw_420) rfl tyX9 tyX9_ok nmX9 rfl rfl rfl hin rfl (some q101) rfl rfl dX9_init__77 ?_
  have w116 := wt_putR w110 203 (some q101) (k_ne g114 (by decide)) (fun b hb => by cases hb; exact g113) (by decide)
  refine gc_nS (fun S117 eS117 => ?_)
  replace h := h S117 eS117
  have w118 : wt S117 := by rw [eS117]; exact w116
  have w119 : isL S117 ((((L ++ [q1]) ++ [q37]) ++ [q76]) ++ [q101]) := by rw [eS117]; exact w111
  have w120 : ext S0 S117 := by rw [eS117]; exact w112
  have g121 : hK S117 x0 = 10 := by rw [eS117]; exact g114
  have g122 : hK S117 p0 = 10 := by rw [eS117]; exact g115
  refine g_aload_n C dX9_init__80 rfl 0 rfl ?_
  refine g_aload_n C dX9_init__81 rfl 1 rfl ?_
  refine gc_getR C w118 iwx_X9 w119 g122 (by decide) (by decide) rfl 4 (by decide) (hW kw_421) rfl rfl rfl dX9_init__82 (fun o123 eo123 ko123 => ?_)
  obtain ⟨b124, hb9, h⟩ := h
  have g125 : hK S117 b124 = 22 := ko123 b124 (eo123.trans hb9)
  replace h := h g125
  refine g_opt (eo123.trans hb9) ?_
  obtain ⟨g127, h⟩ := h
  refine gc_clone C E w118 w119 (Nat.le_refl _) (Nat.le_refl _) g125 (hW kw_505) (hW kw_506) (hW kw_507) (hW kw_508) (hW kw_509) (by decide) (Nat.le_of_ble_eq_true rfl) (Nat.le_of_ble_eq_true rfl) g127.1 g127.2 dX9_init__85 (fun q126 h0q126 zq126 => ?_)
  replace h := h q126 h0q126 zq126
  have g128 := newC_old 22 (hN S117 b124) (hA S117 b124) g121 (by decide) h0q126
  have g129 := newC_old 22 (hN S117 b124) (hA S117 b124) g122 (by decide) h0q126
  have w130 := wt_newC w118 22 (hN S117 b124) (hA S117 b124) h0q126 (by decide)
  have w131 := hL_new (S' := newC S117 q126 22 (hN S117 b124) (hA S117 b124)) w119 (show 22 ≠ 0 by decide) rfl
  have w132 := ext_newC w120 h0q126 22 (hN S117 b124) (hA S117 b124)
  have g133 := newC_self S117 q126 22 (hN S117 b124) (hA S117 b124)
  refine gc_nS (fun S134 eS134 => ?_)
  replace h := h S134 eS134
  have w135 : wt S134 := by rw [eS134]; exact w130
  have w136 : isL S134 (((((L ++ [q1]) ++ [q37]) ++ [q76]) ++ [q101]) ++ [q126]) := by rw [eS134]; exact w131
  have w137 : ext S0 S134 := by rw [eS134]; exact w132
  have g138 : hK S134 q126 = 22 := by rw [eS134]; exact g133
  have g139 : hK S134 x0 = 10 := by rw [eS134]; exact g128
  have g140 : hK S134 p0 = 10 := by rw [eS134]; exact g129
  refine gc_castI C w136 g138 (hW kw_511) dX9_init__88 ?_
  refine gc_putRF C iwx_X9 w136 g139 (by decide) (by decide) rfl 4 (by decide) (hW kw_421) rfl tyX9 tyX9_ok nmX9 rfl rfl rfl hin rfl (some q126) rfl rfl dX9_init__91 ?_
  have w141 := wt_putR w135 204 (some q126) (k_ne g139 (by decide)) (fun b hb => by cases hb; exact g138) (by decide)
  refine gc_nS (fun S142 eS142 => ?_)
  replace h := h S142 eS142
  have w143 : wt S142 := by rw [eS142]; exact w141
  have w144 : isL S142 (((((L ++ [q1]) ++ [q37]) ++ [q76]) ++ [q101]) ++ [q126]) := by rw [eS142]; exact w136
  have w145 : ext S0 S142 := by rw [eS142]; exact w137
  have g146 : hK S142 x0 = 10 := by rw [eS142]; exact g139
  have g147 : hK S142 p0 = 10 := by rw [eS142]; exact g140
  refine g_iconst (v := 0) C dX9_init__94 (by decide) ?_
  refine g_istore_n (lv' := [(2, .int 0), (0, .ref x0), (1, .ref p0)]) C dX9_init__95 rfl (by decide) rfl ?_
  refine g_locals [1, 2, 0] rfl ?_
  obtain ⟨k251, h⟩ := h
  refine t_X9_init__96 C E hr hin S0 _ P ?_ k251 x0 p0 0 S142 (((((mc - 1) - 1) - 1) - 1) - 1) (((((ms - (Int32.toNatClampNeg 9)) - (Int32.toNatClampNeg 10)) - (hN S67 b74)) - (hN S92 b99)) - (hN S117 b124)) (((((L ++ [q1]) ++ [q37]) ++ [q76]) ++ [q101]) ++ [q126]) w143 w144 w145 g146 g147 h
  · intro y203_x0 y203_x1 Sy203_ kcy203_ ksy203_ Ly203_ hwy203_ hLy203_ hey203_ hy203_x0 hy203_x1 h
    replace h := h hy203_x0 hy203_x1
    refine g_aload_n C dX9_init__127 rfl 0 rfl ?_
    refine g_aload_n C dX9_init__128 rfl 1 rfl ?_
    refine gc_getI C iwx_X9 hLy203_ hy203_x1 (by decide) (by decide) rfl 6 (by decide) (hW kw_423) rfl rfl rfl dX9_init__129 ?_
    refine gc_putI C iwx_X9 hLy203_ hy203_x0 (by decide) (by decide) rfl 6 (by decide) (hW kw_423) rfl tyX9 tyX9_ok nmX9 rfl rfl rfl rfl rfl dX9_init__132 ?_
    have w204 := wt_putI hwy203_ 206 (hI Sy203_ 206 y203_x1) (k_ne hy203_x0 (by decide))
    refine gc_nS (fun S205 eS205 => ?_)
    replace h := h S205 eS205
    have w206 : wt S205 := by rw [eS205]; exact w204
    have w207 : isL S205 Ly203_ := by rw [eS205]; exact hLy203_
    have w208 : ext S0 S205 := by rw [eS205]; exact hey203_
    have g209 : hK S205 y203_x0 = 10 := by rw [eS205]; exact hy203_x0
    have g210 : hK S205 y203_x1 = 10 := by rw [eS205]; exact hy203_x1
    refine g_aload_n C dX9_init__135 rfl 0 rfl ?_
    refine g_aload_n C dX9_init__136 rfl 1 rfl ?_
    refine gc_getI C iwx_X9 w207 g210 (by decide) (by decide) rfl 7 (by decide) (hW kw_426) rfl rfl rfl dX9_init__137 ?_
    refine gc_putI C iwx_X9 w207 g209 (by decide) (by decide) rfl 7 (by decide) (hW kw_426) rfl tyX9 tyX9_ok nmX9 rfl rfl rfl rfl rfl dX9_init__140 ?_
    have w211 := wt_putI w206 207 (hI S205 207 y203_x1) (k_ne g209 (by decide))
    refine gc_nS (fun S212 eS212 => ?_)
    replace h := h S212 eS212
    have w213 : wt S212 := by rw [eS212]; exact w211
    have w214 : isL S212 Ly203_ := by rw [eS212]; exact w207
    have w215 : ext S0 S212 := by rw [eS212]; exact w208
    have g216 : hK S212 y203_x0 = 10 := by rw [eS212]; exact g209
    have g217 : hK S212 y203_x1 = 10 := by rw [eS212]; exact g210
    refine g_aload_n C dX9_init__143 rfl 0 rfl ?_
    refine g_aload_n C dX9_init__144 rfl 1 rfl ?_
    refine gc_getI C iwx_X9 w214 g217 (by decide) (by decide) rfl 8 (by decide) (hW kw_429) rfl rfl rfl dX9_init__145 ?_
    refine gc_putI C iwx_X9 w214 g216 (by decide) (by decide) rfl 8 (by decide) (hW kw_429) rfl tyX9 tyX9_ok nmX9 rfl rfl rfl rfl rfl dX9_init__148 ?_
    have w218 := wt_putI w213 208 (hI S212 208 y203_x1) (k_ne g216 (by decide))
    refine gc_nS (fun S219 eS219 => ?_)
    replace h := h S219 eS219
    have w220 : wt S219 := by rw [eS219]; exact w218
    have w221 : isL S219 Ly203_ := by rw [eS219]; exact w214
    have w222 : ext S0 S219 := by rw [eS219]; exact w215
    have g223 : hK S219 y203_x0 = 10 := by rw [eS219]; exact g216
    have g224 : hK S219 y203_x1 = 10 := by rw [eS219]; exact g217
    refine g_aload_n C dX9_init__151 rfl 0 rfl ?_
    refine g_aload_n C dX9_init__152 rfl 1 rfl ?_
    refine gc_getI C iwx_X9 w221 g224 (by decide) (by decide) rfl 9 (by decide) (hW kw_432) rfl rfl rfl dX9_init__153 ?_
    refine gc_putI C iwx_X9 w221 g223 (by decide) (by decide) rfl 9 (by decide) (hW kw_432) rfl tyX9 tyX9_ok nmX9 rfl rfl rfl rfl rfl dX9_init__156 ?_
    have w225 := wt_putI w220 209 (hI S219 209 y203_x1) (k_ne g223 (by decide))
    refine gc_nS (fun S226 eS226 => ?_)
    replace h := h S226 eS226
    have w227 : wt S226 := by rw [eS226]; exact w225
    have w228 : isL S226 Ly203_ := by rw [eS226]; exact w221
    have w229 : ext S0 S226 := by rw [eS226]; exact w222
    have g230 : hK S226 y203_x0 = 10 := by rw [eS226]; exact g223
    have g231 : hK S226 y203_x1 = 10 := by rw [eS226]; exact g224
    refine g_iconst (v := 0) C dX9_init__159 (by decide) ?_
    refine g_istore_n (lv' := [(2, .int 0), (0, .ref y203_x0), (1, .ref y203_x1)]) C dX9_init__160 rfl (by decide) rfl ?_
    refine g_locals [1, 2, 0] rfl ?_
    obtain ⟨k250, h⟩ := h
    refine t_X9_init__161 C E hr hin S0  P  k250 y203_x0 y203_x1 0 S226 kcy203_ ksy203_ Ly203_ w227 w228 w229 g230 g231 h
theorem c_X9_init_ (l : Launch) (D : va_G) (T : Nat → ClassId) (x0 : Nat) (p0 : Nat) (S : HS) (mc ms : Nat) (hx0 : hK S x0 = 10) (hp0 : hK S p0 = 10) (P : HS → Prop) (h : wp_X9_init_ P x0 p0 S mc ms) : CMv l yX9_init_ (ws_X9_init_) rm_X9_init_ D T [.ref x0, .ref p0] S mc ms P := gc_metv (by decide) rfl rfl (Nat.le_of_ble_eq_true rfl) (fun p e s m args below meth c A L C E hnm hr hw hL => t_X9_init_ C E   hr hnm P x0 p0 S S mc ms L rfl hw hL hx0 hp0 h)
/-- a version's addresses as far as i scales have been made -/
def VI (S0 S : HS) (M : Nat → Prop) (μ : Nat → Int32) (v : Nat) (a : Nat → Nat) (i : Nat) : Prop := frM S0 S (fun b => b = a 4) ∧ ext S0 S ∧ (∀ k, k < 6 + 3 * i → hK S (a k) = okd k) ∧ (∀ k, 6 ≤ k → k < 6 + 3 * i → hK S0 (a k) = 0) ∧ (∀ j k, j < 6 + 3 * i → k < 6 + 3 * i → a j = a k → j = k) ∧ ∀ z, z < i → hB S (a 4) z = some (a (6 + 3 * z)) ∧ hR S 101 (a (6 + 3 * z)) = some (a (7 + 3 * z)) ∧ hR S 102 (a (6 + 3 * z)) = some (a (8 + 3 * z)) ∧ RelSc S M (a (6 + 3 * z)) μ v (z + 1)
def upd9 (f : Nat → Option Nat) (k : Nat) (y : Option Nat) : Nat → Option Nat := fun j => if j = k then y else f j
theorem okd_0 {i : Nat} : okd i ≠ 0 := fun h => by have := okd_n h.symm.symm; omega
theorem okd_3 (i : Nat) : okd (6 + 3 * i) = 5 ∧ okd (7 + 3 * i) = 22 ∧ okd (8 + 3 * i) = 22 := by
  unfold okd
  refine ⟨?_, ?_, ?_⟩ <;> (repeat' split) <;> omega
/-- one scale more -/
theorem VI.st {S0 S S3 : HS} {M : Nat → Prop} {μ : Nat → Int32} {v i q w p : Nat} {a : Nat → Nat} (h : VI S0 S M μ v a i) (hi : i < 9) (hf : frM S S3 (fun b => b = a 4)) (he : ext S S3) (q0 : hK S q = 0) (w0 : hK S w = 0) (p0 : hK S p = 0) (hqw : q ≠ w) (hqp : q ≠ p) (hwp : w ≠ p) (kq : hK S3 q = 5) (kw : hK S3 w = 22) (kp : hK S3 p = 22) (hb : hB S3 (a 4) = upd9 (hB S (a 4)) i (some q)) (r1 : hR S3 101 q = some w) (r2 : hR S3 102 q = some p) (hr : RelSc S3 M q μ v (i + 1)) : ∃ a', (∀ k, k < 6 + 3 * i → a' k = a k) ∧ VI S0 S3 M μ v a' (i + 1) := by
  obtain ⟨h1, h2, h3, h4, h5, h6⟩ := h
  have kn : ∀ {k b : Nat}, k < 6 + 3 * i → hK S b = 0 → a k ≠ b := fun hk hb e => okd_0 ((h3 _ hk).symm.trans (by rw [e]; exact hb))
  refine ⟨fun k => if k = 6 + 3 * i then q else if k = 7 + 3 * i then w else if k = 8 + 3 * i then p else a k, fun k hk => by dsimp only; rw [if_neg (by omega), if_neg (by omega), if_neg (by omega)], ?_⟩
  have old : ∀ {k : Nat}, k < 6 + 3 * i → (if k = 6 + 3 * i then q else if k = 7 + 3 * i then w else if k = 8 + 3 * i then p else a k) = a k := fun hk => by rw [if_neg (by omega), if_neg (by omega), if_neg (by omega)]
  have e6 : (if 6 + 3 * i = 6 + 3 * i then q else if 6 + 3 * i = 7 + 3 * i then w else if 6 + 3 * i = 8 + 3 * i then p else a (6 + 3 * i)) = q := if_pos rfl
  have e7 : (if 7 + 3 * i = 6 + 3 * i then q else if 7 + 3 * i = 7 + 3 * i then w else if 7 + 3 * i = 8 + 3 * i then p else a (7 + 3 * i)) = w := by rw [if_neg (by omega), if_pos rfl]
  have e8 : (if 8 + 3 * i = 6 + 3 * i then q else if 8 + 3 * i = 7 + 3 * i then w else if 8 + 3 * i = 8 + 3 * i then p else a (8 + 3 * i)) = p := by rw [if_neg (by omega), if_neg (by omega), if_pos rfl]
  have sm3 : ∀ {k : Nat}, k < 6 + 3 * i → k ≠ 4 → sam S S3 (a k) := fun hk h9 => hf _ (fun e => h9 (h5 _ _ hk (by omega) e)) (by rw [h3 _ hk]; exact okd_0)
  have s00 : ∀ {b : Nat}, hK S b = 0 → hK S0 b = 0 := fun {b} hb => by
    by_cases c : hK S0 b = 0
    · exact c
    · exact absurd ((h2 b c).1.symm.trans hb) c
  unfold VI
  dsimp only
  rw [old (k := 4) (by omega)]
  refine ⟨h1.tr hf, ext_tr h2 he, fun k hk => ?_, fun k h6 hk => ?_, fun j k hj hk e => ?_, fun z hz => ?_⟩
  · by_cases c : k < 6 + 3 * i
    · rw [old c, (he _ (by rw [h3 _ c]; exact okd_0)).1]; exact h3 _ c
    · obtain rfl | rfl | rfl : k = 6 + 3 * i ∨ k = 7 + 3 * i ∨ k = 8 + 3 * i := by omega
      · rw [e6, kq]; exact (okd_3 i).1.symm
      · rw [e7, kw]; exact (okd_3 i).2.1.symm
      · rw [e8, kp]; exact (okd_3 i).2.2.symm
  · by_cases c : k < 6 + 3 * i
    · rw [old c]; exact h4 _ h6 c
    · obtain rfl | rfl | rfl : k = 6 + 3 * i ∨ k = 7 + 3 * i ∨ k = 8 + 3 * i := by omega
      · rw [e6]; exact s00 q0
      · rw [e7]; exact s00 w0
      · rw [e8]; exact s00 p0
  · by_cases c : j < 6 + 3 * i
    · rw [old c] at e
      by_cases d : k < 6 + 3 * i
      · rw [old d] at e; exact h5 _ _ c d e
      · obtain rfl | rfl | rfl : k = 6 + 3 * i ∨ k = 7 + 3 * i ∨ k = 8 + 3 * i := by omega
        · rw [e6] at e; exact absurd e (kn c q0)
        · rw [e7] at e; exact absurd e (kn c w0)
        · rw [e8] at e; exact absurd e (kn c p0)
    · by_cases d : k < 6 + 3 * i
      · rw [old d] at e
        obtain rfl | rfl | rfl : j = 6 + 3 * i ∨ j = 7 + 3 * i ∨ j = 8 + 3 * i := by omega
        · rw [e6] at e; exact absurd e.symm (kn d q0)
        · rw [e7] at e; exact absurd e.symm (kn d w0)
        · rw [e8] at e; exact absurd e.symm (kn d p0)
      · obtain rfl | rfl | rfl : j = 6 + 3 * i ∨ j = 7 + 3 * i ∨ j = 8 + 3 * i := by omega
        · obtain rfl | rfl | rfl : k = 6 + 3 * i ∨ k = 7 + 3 * i ∨ k = 8 + 3 * i := by omega
          · rfl
          · rw [e6, e7] at e; exact absurd e hqw
          · rw [e6, e8] at e; exact absurd e hqp
        · obtain rfl | rfl | rfl : k = 6 + 3 * i ∨ k = 7 + 3 * i ∨ k = 8 + 3 * i := by omega
          · rw [e6, e7] at e; exact absurd e.symm hqw
          · rfl
          · rw [e7, e8] at e; exact absurd e hwp
        · obtain rfl | rfl | rfl : k = 6 + 3 * i ∨ k = 7 + 3 * i ∨ k = 8 + 3 * i := by omega
          · rw [e6, e8] at e; exact absurd e.symm hqp
          · rw [e7, e8] at e; exact absurd e.symm hwp
          · rfl
  · rw [hb]
    by_cases c : z < i
    · obtain ⟨g1, g2, g3, g4⟩ := h6 z c
      rw [old (k := 6 + 3 * z) (by omega), old (k := 7 + 3 * z) (by omega), old (k := 8 + 3 * z) (by omega)]
      have s := sm3 (k := 6 + 3 * z) (by omega) (by omega)
      refine ⟨by unfold upd9; rw [if_neg (by omega)]; exact g1, by rw [s.2.2.2.1]; exact g2, by rw [s.2.2.2.1]; exact g3, ?_⟩
      exact g4.sx s (fun b hb => by rw [g2] at hb; rw [← Option.some.inj hb]; exact sm3 (by omega) (by omega)) (fun b hb => by rw [g3] at hb; rw [← Option.some.inj hb]; exact sm3 (by omega) (by omega))
    · obtain rfl : z = i := by omega
      rw [e6, e7, e8]
      exact ⟨by unfold upd9; rw [if_pos rfl], r1, r2, hr⟩
theorem frM.nw {S S1 S2 : HS} {M N : Nat → Prop} (h : frM S S1 M) (g : frM S1 S2 N) (hn : ∀ b, hK S b ≠ 0 → N b → M b) : frM S S2 M := fun b hb h0 => (h b hb h0).tr (g b (fun z => hb (hn b h0 z)) (by rw [(h b hb h0).1]; exact h0))
theorem rl_vs {K : Nat → Nat → HS → Nat → Nat → Prop} {P : HS → Prop} {S0 : HS} {M : Nat → Prop} {x y sc v : Nat} {A : Nat → Nat} {μ : Nat → Int32} (kx : hK S0 x = 10) (ky : hK S0 y = 10) (r0 : hR S0 205 x = some (A 4)) (k4 : hK S0 (A 4) = 26) (n4 : hN S0 (A 4) = 9) (r1 : hR S0 205 y = some sc) (ksc : hK S0 sc = 26) (nsc : hN S0 sc = 9) (hne : sc ≠ A 4) (hs : ∀ z, z < 9 → ∃ u, hB S0 sc z = some u ∧ RelSc S0 M u μ v (z + 1)) (hM : ∀ b, M b → hK S0 b ≠ 0) (hK0 : ∀ S1 a kc ks, (∀ k, k < 6 → a k = A k) → VI S0 S1 M μ v a 9 → K x y S1 kc ks) : ∀ (m i fuel : Nat) (S : HS) (a : Nat → Nat) (kc ks : Nat), i + m = 9 → m < fuel → (∀ k, k < 6 → a k = A k) → VI S0 S M μ v a i → 3 * m ≤ kc → 14 * m ≤ ks → wp_X9_init__96 K P fuel x y (nI i) S kc ks := by
  intro m
  induction m with
  | zero =>
    intro i fuel S a kc ks hi hf ha hV _ _
    obtain ⟨f, rfl⟩ : ∃ f, fuel = f + 1 := ⟨fuel - 1, by omega⟩; rw [wp_X9_init__96]; unfold wb_X9_init__96; dsimp only
    rw [show (9 : Int32) = nI 9 from rfl, nI_leI (by omega) (by omega)]
    rw [show i = 9 by omega] at hV
    exact ⟨fun _ => hK0 S a kc ks ha hV, fun z9 => absurd (by omega) z9⟩
  | succ m ih =>
    intro i fuel S a kc ks hi hf ha hV hkc hks
    have hV0 := hV
    obtain ⟨h1, h2, h3, h4, h5, h6⟩ := hV
    have a4 : a 4 = A 4 := ha 4 (by omega)
    rw [a4] at h1
    have sx := h1 x (fun e => by rw [e, k4] at kx; exact absurd kx (by decide)) (by rw [kx]; decide)
    have sy := h1 y (fun e => by rw [e, k4] at ky; exact absurd ky (by decide)) (by rw [ky]; decide)
    have ssc := h1 sc hne (by rw [ksc]; decide)
    have e4 := h2 (A 4) (by rw [k4]; decide)
    obtain ⟨f, rfl⟩ : ∃ f, fuel = f + 1 := ⟨fuel - 1, by omega⟩; rw [wp_X9_init__96]; unfold wb_X9_init__96; dsimp only
    rw [show (9 : Int32) = nI 9 from rfl, nI_leI (by omega) (by omega), nI_1]
    refine ⟨fun z9 => absurd z9 (by omega), fun _ => ⟨A 4, by rw [sx.2.2.2.1]; exact r0, fun _ => ⟨⟨by omega, by omega⟩, fun q q0 qz S161 e161 => ?_⟩⟩⟩
    obtain ⟨u, u1, u2⟩ := hs i (by omega)
    have f161 : frM S S161 (fun _ => False) := by rw [e161]; exact frM.rf.nO ext_rf q0 5
    have x161 : ext S S161 := by rw [e161]; exact ext_newO ext_rf q0 5
    have s161 : ∀ {b : Nat}, hK S b ≠ 0 → sam S S161 b := fun hb => f161 _ (fun z => z) hb
    have nsc9 : hK S sc ≠ 0 := by rw [ssc.1, ksc]; decide
    refine ⟨sc, by rw [(s161 (by rw [sy.1, ky]; decide)).2.2.2.1, sy.2.2.2.1]; exact r1, fun _ => ?_⟩
    rw [(s161 nsc9).2.1, ssc.2.1, nsc, nz_vp (by omega) (by decide), nI_clamp (n := i) (by omega)]
    refine ⟨by omega, fun o eo _ => ⟨u, by rw [eo, (s161 nsc9).2.2.2.2.2, ssc.2.2.2.2.2]; exact u1, fun _ => ⟨2, 10, ⟨by omega, by omega⟩, M, μ, v, i + 1, ⟨?_, ?_, ?_, ?_, by omega, by omega⟩, fun S184 x184 h184 => ?_⟩⟩⟩
    · have sb : ∀ {b : Nat}, hK S0 b = 5 ∨ hK S0 b = 22 → sam S0 S161 b := fun {b} hb => by
        have hne9 : b ≠ A 4 := fun e => by rw [e, k4] at hb; omega
        have s1 := h1 b hne9 (by omega)
        exact s1.tr (s161 (by rw [s1.1]; omega))
      obtain ⟨k1, k2, k3, k4', w, p, g1, g2, g3, g4, g5⟩ := u2
      exact RelSc.sx ⟨k1, k2, k3, k4', w, p, g1, g2, g3, g4, g5⟩ (sb (Or.inl k1)) (fun b hb => by rw [g1] at hb; rw [← Option.some.inj hb]; exact sb (Or.inr g3.1)) (fun b hb => by rw [g2] at hb; rw [← Option.some.inj hb]; exact sb (Or.inr g4.1))
    · intro e
      have := (h2 u (by rw [u2.1]; decide)).1
      rw [e, q0, ← e, u2.1] at this
      exact absurd this (by decide)
    · intro z
      exact absurd ((h2 q (hM q z)).1.symm.trans q0) (hM q z)
    · intro b hb
      rw [(x161 b (by rw [(h2 b (hM b hb)).1]; exact hM b hb)).1, (h2 b (hM b hb)).1]
      exact hM b hb
    · obtain ⟨f184, R184, w, p, w1, p1, w0, p0, hwp⟩ := h184
      have kq : hK S161 q = 5 := by rw [e161, px_KO, if_pos rfl]
      have old : ∀ {b : Nat}, hK S161 b = 0 → b ≠ q ∧ hK S b = 0 := fun {b} hb => by
        have hbq : b ≠ q := fun e => by rw [e, kq] at hb; exact absurd hb (by decide)
        rw [e161, px_KO, if_neg hbq] at hb
        exact ⟨hbq, hb⟩
      obtain ⟨nw, w0'⟩ := old w0
      obtain ⟨np, p0'⟩ := old p0
      have k4S : hK S (A 4) = 26 := by rw [e4.1]; exact k4
      have h4q : A 4 ≠ q := fun e => by rw [e, q0] at k4S; exact absurd k4S (by decide)
      have f1 : frM S S184 (fun b => b = A 4) := (f161.sub (fun _ z => z.elim)).nw f184 (fun b h0 e => absurd (show hK S b = 0 by rw [e]; exact q0) h0)
      have s4 : sam S161 S184 (A 4) := f184 _ h4q (by rw [(s161 (by rw [k4S]; decide)).1, k4S]; decide)
      have s4' : sam S S184 (A 4) := (s161 (by rw [k4S]; decide)).tr s4
      have x1 : ext S S184 := ext_tr x161 x184
      have kq1 : hK S184 q = 5 := by rw [(x184 q (by rw [kq]; decide)).1]; exact kq
      obtain ⟨c1, c2, c3, c4, w', p', g1, g2, g3, g4, g5⟩ := R184
      have ew : w' = w := Option.some.inj (g1.symm.trans w1)
      have ep : p' = p := Option.some.inj (g2.symm.trans p1)
      subst ew ep
      have k4' : hK S184 (A 4) = 26 := by rw [s4'.1]; exact k4S
      have n4k : ∀ {b k : Nat}, hK S184 b = k → k ≠ 26 → b ≠ A 4 := fun hb hk e => by rw [e, k4'] at hb; exact hk hb.symm
      rw [s4'.2.1, e4.2, n4, nz_vp (by omega) (by decide)]
      refine ⟨by omega, fun S196 e196 v9 e9 => ?_⟩
      subst e9
      have f196 : frM S184 S196 (fun b => b = A 4) := by rw [e196]; exact frM.pB (M := fun b => b = A 4) frM.rf rfl _ _
      have s196 : ∀ {b k : Nat}, hK S184 b = k → k ≠ 26 → k ≠ 0 → sam S184 S196 b := fun hb h26 h0 => f196 _ (n4k hb h26) (by rw [hb]; exact h0)
      have f2 : frM S S196 (fun b => b = a 4) := by rw [a4]; exact f1.nw f196 (fun _ _ e => e)
      have x2 : ext S S196 := by rw [e196]; exact ext_putB x1 _ _ _
      have kk : hK S196 = hK S184 := by rw [e196]; simp only [px_KI, px_KR, px_KA, px_KB, px_KO, px_KW, px_KC, px_NI, px_NR, px_NA, px_NB, px_NO, px_NW, px_NC, px_II, px_IR, px_IA, px_IB, px_IO, px_IW, px_IC, px_RI, px_RR, px_RA, px_RB, px_RO, px_RW, px_RC, px_AI, px_AR, px_AA, px_AB, px_AO, px_AW, px_AC, px_BI, px_BR, px_BA, px_BB, px_BO, px_BW, px_BC]
      have rr : hR S196 = hR S184 := by rw [e196]; simp only [px_KI, px_KR, px_KA, px_KB, px_KO, px_KW, px_KC, px_NI, px_NR, px_NA, px_NB, px_NO, px_NW, px_NC, px_II, px_IR, px_IA, px_IB, px_IO, px_IW, px_IC, px_RI, px_RR, px_RA, px_RB, px_RO, px_RW, px_RC, px_AI, px_AR, px_AA, px_AB, px_AO, px_AW, px_AC, px_BI, px_BR, px_BA, px_BB, px_BO, px_BW, px_BC]
      obtain ⟨a', ea, hV'⟩ := hV0.st (q := q) (w := w') (p := p') (S3 := S196) (by omega) f2 x2 q0 w0' p0' (fun e => nw e.symm) (fun e => np e.symm) hwp (by rw [kk]; exact kq1) (by rw [kk]; exact g3.1) (by rw [kk]; exact g4.1) (by
        funext j
        rw [a4, e196, px_BB]
        unfold upd9
        by_cases c : j = i
        · rw [if_pos ⟨rfl, c⟩, if_pos c]
        · rw [if_neg (fun z => c z.2), if_neg c, s4'.2.2.2.2.2]) (by rw [rr]; exact g1) (by rw [rr]; exact g2) (RelSc.sx ⟨c1, c2, c3, c4, w', p', g1, g2, g3, g4, g5⟩ (s196 c1 (by decide) (by decide)) (fun b hb => by rw [g1] at hb; rw [← Option.some.inj hb]; exact s196 g3.1 (by decide) (by decide)) (fun b hb => by rw [g2] at hb; rw [← Option.some.inj hb]; exact s196 g4.1 (by decide) (by decide)))
      exact ih (i + 1) f S196 a' _ _ (by omega) (by omega) (fun k hk => by rw [ea k (by omega)]; exact ha k hk) hV' (by omega) (by omega)
theorem rl_va {P : HS → Prop} {S0 : HS} {x y ac a : Nat} (ha : hR S0 210 x = some a) (hay : hR S0 210 y = some ac) (hna : hN S0 a = 10) (hny : hN S0 ac = 10) (hne : ac ≠ a) (hP : ∀ S1, frM S0 S1 (fun b => b = a) → hK S1 = hK S0 ∧ hN S1 = hN S0 ∧ hR S1 = hR S0 ∧ hI S1 = hI S0 ∧ hA S1 = hA S0 → (∀ b, b ≠ a → hB S1 b = hB S0 b) → (∀ j, j < 10 → hB S1 a j = hB S0 ac j) → P S1) : ∀ (k i fuel : Nat) (S : HS) (kc ks : Nat), i + k = 10 → k < fuel → frM S0 S (fun b => b = a) → hK S = hK S0 ∧ hN S = hN S0 ∧ hR S = hR S0 ∧ hI S = hI S0 ∧ hA S = hA S0 → (∀ b, b ≠ a → hB S b = hB S0 b) → (∀ j, j < i → hB S a j = hB S0 ac j) → wp_X9_init__161 P fuel x y (nI i) S kc ks := by
  intro k
  induction k with
  | zero =>
    intro i fuel S kc ks hi hf hF he hb hh
    obtain ⟨f, rfl⟩ : ∃ f, fuel = f + 1 := ⟨fuel - 1, by omega⟩; rw [wp_X9_init__161]; unfold wb_X9_init__161; dsimp only
    rw [show (10 : Int32) = nI 10 from rfl, nI_leI (by omega) (by omega)]
    exact ⟨fun _ => hP S hF he hb (fun j hj => hh j (by omega)), fun z9 => absurd (by omega) z9⟩
  | succ k ih =>
    intro i fuel S kc ks hi hf hF he hb hh
    have he0 := he
    obtain ⟨ek, en, er, ei, ea⟩ := he
    obtain ⟨f, rfl⟩ : ∃ f, fuel = f + 1 := ⟨fuel - 1, by omega⟩; rw [wp_X9_init__161]; unfold wb_X9_init__161; dsimp only
    rw [show (10 : Int32) = nI 10 from rfl, nI_leI (by omega) (by omega), nI_1]
    refine ⟨fun z9 => absurd z9 (by omega), fun _ => ⟨a, by rw [er]; exact ha, fun _ => ⟨ac, by rw [er]; exact hay, fun _ => ?_⟩⟩⟩
    rw [en, hny, hna, nz_vp (by omega) (by decide), nI_clamp (n := i) (by omega)]
    refine ⟨by omega, fun o9 e9 _ => ⟨by omega, fun S12 e12 v18 e18 => ?_⟩⟩
    subst e18
    refine ih (i + 1) f S12 kc ks (by omega) (by omega) (by rw [e12]; exact hF.pB rfl _ _) (by rw [e12]; simp only [px_KI, px_KR, px_KA, px_KB, px_KO, px_KW, px_KC, px_NI, px_NR, px_NA, px_NB, px_NO, px_NW, px_NC, px_II, px_IR, px_IA, px_IB, px_IO, px_IW, px_IC, px_RI, px_RR, px_RA, px_RB, px_RO, px_RW, px_RC, px_AI, px_AR, px_AA, px_AB, px_AO, px_AW, px_AC, px_BI, px_BR, px_BA, px_BB, px_BO, px_BW, px_BC]; exact he0) (fun b hb9 => by rw [e12, putB_o _ _ _ hb9]; exact hb b hb9) (fun j hj => ?_)
    rw [e12, px_BB]
    by_cases g : j = i
    · rw [if_pos ⟨rfl, g⟩, e9, g, hb ac hne]
    · rw [if_neg (fun z => g z.2)]; exact hh j (by omega)
/-- a new row, put into a field of x -/
theorem nw_st {S S1 S2 S3 : HS} {x q kd n j : Nat} {row : Nat → Int32} (hx : hK S x ≠ 0) (F : frM S S1 (fun b => b = x)) (X : ext S S1) (q0 : hK S1 q = 0) (e2 : S2 = newA S1 q kd n ∨ S2 = newC S1 q kd n row) (e3 : S3 = putR S2 j x (some q)) : frM S S3 (fun b => b = x) ∧ ext S1 S3 ∧ hK S q = 0 ∧ hK S3 q = kd ∧ hN S3 q = n ∧ hR S3 j x = some q ∧ (∀ i, i ≠ j → hR S3 i x = hR S1 i x) ∧ hI S3 = hI S1 ∧ (∀ b, hK S1 b ≠ 0 → hA S3 b = hA S1 b) ∧ hB S3 = hB S1 ∧ (S2 = newC S1 q kd n row → hA S3 q = row) := by
  have hq : hK S q = 0 := by
    by_cases c : hK S q = 0
    · exact c
    · exact absurd ((X q c).1.symm.trans q0) c
  have ne : ∀ {b : Nat}, hK S1 b ≠ 0 → b ≠ q := fun hb e => hb (by rw [e]; exact q0)
  rcases e2 with e2 | e2
  · subst e3
    refine ⟨by rw [e2]; exact (F.nW X q0 kd n).pR rfl _ _, by rw [e2]; exact ext_putR (ext_newA ext_rf q0 kd n) _ _ _, hq, by rw [px_KR, e2, px_KW, if_pos rfl], by rw [px_NR, e2, px_NW, if_pos rfl], by rw [px_RR, if_pos ⟨rfl, rfl⟩], fun i hi => by rw [px_RR, if_neg (fun z => hi z.1), e2, px_RW], by rw [px_IR, e2, px_IW], fun b hb => by rw [px_AR, e2, px_AW], by rw [px_BR, e2, px_BW], fun e => ?_⟩
    rw [px_AR, e, px_AC, if_pos rfl]
  · subst e3
    refine ⟨by rw [e2]; exact (F.nC X q0 kd n row).pR rfl _ _, by rw [e2]; exact ext_putR (ext_newC ext_rf q0 kd n row) _ _ _, hq, by rw [px_KR, e2, px_KC, if_pos rfl], by rw [px_NR, e2, px_NC, if_pos rfl], by rw [px_RR, if_pos ⟨rfl, rfl⟩], fun i hi => by rw [px_RR, if_neg (fun z => hi z.1), e2, px_RC], by rw [px_IR, e2, px_IC], fun b hb => by rw [px_AR, e2, px_AC, if_neg (ne hb)], by rw [px_BR, e2, px_BC], fun _ => by rw [px_AR, e2, px_AC, if_pos rfl]⟩
theorem k_X9_init_ (l : Launch) (D : va_G) (T : Nat → ClassId) (x0 : Nat) (p0 : Nat) (S : HS) (e0 : (Nat → Prop)) (e1 : Nat → Int32) (e2 : Nat) (mc ms : Nat) (hx0 : hK S x0 = 10) (hp0 : hK S p0 = 10) (h : WF e1 ∧ e2 < 6 ∧ RelV S e0 p0 e1 e2 ∧ p0 ≠ x0 ∧ ¬ e0 x0 ∧ (∀ b, e0 b → hK S b ≠ 0) ∧ 32 ≤ mc ∧ 181 ≤ ms) : CMv l yX9_init_ (ws_X9_init_) rm_X9_init_ D T [.ref x0, .ref p0] S mc ms (fun S1 => (frM S S1 (fun b => b = x0) ∧ RelV S1 e0 x0 e1 e2 ∧ ∃ a, OwV S1 x0 a ∧ ∀ i, 0 < i → i < 33 → hK S (a i) = 0)) := c_X9_init_ l D T x0 p0 S mc ms hx0 hp0 _ <|
  (by
    obtain ⟨hw, hv, hV, hxp, hMx, hM0, hmc, hms⟩ := h
    have hV0 := hV
    obtain ⟨⟨h1, h2, h3, h4, h6, h7, h8, h9⟩, ⟨fa, t, zz, r1, r2, r3, z1, z2, z3, hh⟩, ⟨sc, r4, z4, hs⟩, ⟨ac, r5, z5, ha⟩⟩ := hV
    have hx : hK S x0 ≠ 0 := by rw [hx0]; decide
    have np : ¬ p0 = x0 := hxp
    unfold wp_X9_init_
    rw [show Int32.toNatClampNeg 9 = 9 by decide, show Int32.toNatClampNeg 10 = 10 by decide]
    refine ⟨⟨⟨by decide, by decide⟩, by omega, by omega⟩, fun q1 q10 qz1 S9 e9 S17 e17 S24 e24 S31 e31 => ?_⟩
    obtain ⟨F17, X17, w1, k1, n1, g1, _, _, _, _, _⟩ := nw_st (row := fun _ => 0) hx frM.rf ext_rf q10 (Or.inl e9) e17
    have F31 : frM S S31 (fun b => b = x0) := by rw [e31, e24]; exact (F17.pI rfl _ _).pI rfl _ _
    have X31 : ext S S31 := by rw [e31, e24]; exact ext_putI (ext_putI X17 _ _ _) _ _ _
    have k31 : hK S31 q1 = 26 := by rw [e31, e24]; simp only [px_KI, px_KR, px_KA, px_KB, px_KO, px_KW, px_KC, px_NI, px_NR, px_NA, px_NB, px_NO, px_NW, px_NC, px_II, px_IR, px_IA, px_IB, px_IO, px_IW, px_IC, px_RI, px_RR, px_RA, px_RB, px_RO, px_RW, px_RC, px_AI, px_AR, px_AA, px_AB, px_AO, px_AW, px_AC, px_BI, px_BR, px_BA, px_BB, px_BO, px_BW, px_BC]; exact k1
    have n31 : hN S31 q1 = 9 := by rw [e31, e24]; simp only [px_KI, px_KR, px_KA, px_KB, px_KO, px_KW, px_KC, px_NI, px_NR, px_NA, px_NB, px_NO, px_NW, px_NC, px_II, px_IR, px_IA, px_IB, px_IO, px_IW, px_IC, px_RI, px_RR, px_RA, px_RB, px_RO, px_RW, px_RC, px_AI, px_AR, px_AA, px_AB, px_AO, px_AW, px_AC, px_BI, px_BR, px_BA, px_BB, px_BO, px_BW, px_BC]; exact n1
    have g31 : hR S31 205 x0 = some q1 := by rw [e31, e24]; simp only [px_KI, px_KR, px_KA, px_KB, px_KO, px_KW, px_KC, px_NI, px_NR, px_NA, px_NB, px_NO, px_NW, px_NC, px_II, px_IR, px_IA, px_IB, px_IO, px_IW, px_IC, px_RI, px_RR, px_RA, px_RB, px_RO, px_RW, px_RC, px_AI, px_AR, px_AA, px_AB, px_AO, px_AW, px_AC, px_BI, px_BR, px_BA, px_BB, px_BO, px_BW, px_BC]; exact g1
    clear e31 e24 e17 e9
    refine ⟨⟨⟨by decide, by decide⟩, by omega, by omega⟩, fun q2 q20 qz2 S45 e45 S53 e53 S60 e60 S67 e67 => ?_⟩
    obtain ⟨F53, X53, w2, k2, n2, g2, g2', _, _, _, _⟩ := nw_st (row := fun _ => 0) hx F31 X31 q20 (Or.inl e45) e53
    have sp53 := F53 p0 np (by rw [hp0]; decide)
    have v60 : hI S53 200 p0 = hI S 200 p0 := sp53.2.2.1 200
    rw [v60] at e60
    have v67 : hI S60 201 p0 = hI S 201 p0 := by rw [e60, px_II, if_neg (fun z => np z.2)]; exact sp53.2.2.1 201
    rw [v67] at e67
    have F67 : frM S S67 (fun b => b = x0) := by rw [e67, e60]; exact (F53.pI rfl _ _).pI rfl _ _
    have X67 : ext S S67 := by rw [e67, e60]; exact ext_putI (ext_putI (ext_tr X31 X53) _ _ _) _ _ _
    have k1b : hK S67 q1 = 26 ∧ hN S67 q1 = 9 := by
      have := X53 q1 (by rw [k31]; decide)
      rw [e67, e60]; simp only [px_KI, px_KR, px_KA, px_KB, px_KO, px_KW, px_KC, px_NI, px_NR, px_NA, px_NB, px_NO, px_NW, px_NC, px_II, px_IR, px_IA, px_IB, px_IO, px_IW, px_IC, px_RI, px_RR, px_RA, px_RB, px_RO, px_RW, px_RC, px_AI, px_AR, px_AA, px_AB, px_AO, px_AW, px_AC, px_BI, px_BR, px_BA, px_BB, px_BO, px_BW, px_BC]
      exact ⟨this.1.trans k31, this.2.trans n31⟩
    have k2b : hK S67 q2 = 25 ∧ hN S67 q2 = 10 := by
      rw [e67, e60]; simp only [px_KI, px_KR, px_KA, px_KB, px_KO, px_KW, px_KC, px_NI, px_NR, px_NA, px_NB, px_NO, px_NW, px_NC, px_II, px_IR, px_IA, px_IB, px_IO, px_IW, px_IC, px_RI, px_RR, px_RA, px_RB, px_RO, px_RW, px_RC, px_AI, px_AR, px_AA, px_AB, px_AO, px_AW, px_AC, px_BI, px_BR, px_BA, px_BB, px_BO, px_BW, px_BC]
      exact ⟨k2, n2⟩
    have g1b : hR S67 205 x0 = some q1 := by rw [e67, e60]; simp only [px_KI, px_KR, px_KA, px_KB, px_KO, px_KW, px_KC, px_NI, px_NR, px_NA, px_NB, px_NO, px_NW, px_NC, px_II, px_IR, px_IA, px_IB, px_IO, px_IW, px_IC, px_RI, px_RR, px_RA, px_RB, px_RO, px_RW, px_RC, px_AI, px_AR, px_AA, px_AB, px_AO, px_AW, px_AC, px_BI, px_BR, px_BA, px_BB, px_BO, px_BW, px_BC]; exact (g2' 205 (by decide)).trans g31
    have g2b : hR S67 210 x0 = some q2 := by rw [e67, e60]; simp only [px_KI, px_KR, px_KA, px_KB, px_KO, px_KW, px_KC, px_NI, px_NR, px_NA, px_NB, px_NO, px_NW, px_NC, px_II, px_IR, px_IA, px_IB, px_IO, px_IW, px_IC, px_RI, px_RR, px_RA, px_RB, px_RO, px_RW, px_RC, px_AI, px_AR, px_AA, px_AB, px_AO, px_AW, px_AC, px_BI, px_BR, px_BA, px_BB, px_BO, px_BW, px_BC]; exact g2
    have i200 : hI S67 200 x0 = hI S 200 p0 := by rw [e67, px_II, if_neg (fun z => absurd z.1 (by decide)), e60, px_II, if_pos ⟨rfl, rfl⟩]
    have i201 : hI S67 201 x0 = hI S 201 p0 := by rw [e67, px_II, if_pos ⟨rfl, rfl⟩]
    clear e67 e60 e53 e45
    have ol : ∀ {S' : HS}, frM S S' (fun b => b = x0) → ∀ {b k : Nat}, hK S b = k → k ≠ 10 → k ≠ 0 → sam S S' b := fun {_} hf {b k} hk h10 h0 => hf b (fun e => h10 (by rw [← hk, e]; exact hx0)) (by rw [hk]; exact h0)
    have sp67 := F67 p0 np (by rw [hp0]; decide)
    have sf := ol F67 z1.1 (by decide) (by decide)
    refine ⟨fa, by rw [sp67.2.2.2.1]; exact r1, fun _ => ?_⟩
    rw [sf.2.1, z1.2.1]
    refine ⟨⟨by omega, by omega⟩, fun q3 q30 qz3 S84 e84 S92 e92 => ?_⟩
    obtain ⟨F92, X92, w3, k3, n3, g3, g3', i3, _, _, a3⟩ := nw_st hx F67 X67 q30 (Or.inr e84) e92
    have a3 := a3 e84
    have x92 := ext_tr X67 X92
    have sp92 := F92 p0 np (by rw [hp0]; decide)
    have st := ol F92 z2.1 (by decide) (by decide)
    refine ⟨t, by rw [sp92.2.2.2.1]; exact r2, fun _ => ?_⟩
    rw [st.2.1, z2.2.1]
    refine ⟨⟨by omega, by omega⟩, fun q4 q40 qz4 S109 e109 S117 e117 => ?_⟩
    obtain ⟨F117, X117, w4, k4, n4, g4, g4', i4, o4, _, a4⟩ := nw_st hx F92 x92 q40 (Or.inr e109) e117
    have a4 := a4 e109
    have x117 := ext_tr x92 X117
    have sp117 := F117 p0 np (by rw [hp0]; decide)
    have sz := ol F117 z3.1 (by decide) (by decide)
    refine ⟨zz, by rw [sp117.2.2.2.1]; exact r3, fun _ => ?_⟩
    rw [sz.2.1, z3.2.1]
    refine ⟨⟨by omega, by omega⟩, fun q5 q50 qz5 S134 e134 S142 e142 => ?_⟩
    obtain ⟨F142, X142, w5, k5, n5, g5, g5', i5, o5, _, a5⟩ := nw_st hx F117 x117 q50 (Or.inr e134) e142
    have a5 := a5 e134
    have x142 := ext_tr x117 X142
    clear e142 e134 e117 e109 e92 e84
    have c1 : hK S92 q1 = 26 ∧ hN S92 q1 = 9 := by have := X92 q1 (by rw [k1b.1]; decide); exact ⟨this.1.trans k1b.1, this.2.trans k1b.2⟩
    have c2 : hK S92 q2 = 25 ∧ hN S92 q2 = 10 := by have := X92 q2 (by rw [k2b.1]; decide); exact ⟨this.1.trans k2b.1, this.2.trans k2b.2⟩
    have d1 : hK S117 q1 = 26 ∧ hN S117 q1 = 9 := by have := X117 q1 (by rw [c1.1]; decide); exact ⟨this.1.trans c1.1, this.2.trans c1.2⟩
    have d2 : hK S117 q2 = 25 ∧ hN S117 q2 = 10 := by have := X117 q2 (by rw [c2.1]; decide); exact ⟨this.1.trans c2.1, this.2.trans c2.2⟩
    have d3 : hK S117 q3 = 22 ∧ hN S117 q3 = 12 := by have := X117 q3 (by rw [k3]; decide); exact ⟨this.1.trans k3, this.2.trans n3⟩
    have u1 : hK S142 q1 = 26 ∧ hN S142 q1 = 9 := by have := X142 q1 (by rw [d1.1]; decide); exact ⟨this.1.trans d1.1, this.2.trans d1.2⟩
    have u2 : hK S142 q2 = 25 ∧ hN S142 q2 = 10 := by have := X142 q2 (by rw [d2.1]; decide); exact ⟨this.1.trans d2.1, this.2.trans d2.2⟩
    have u3 : hK S142 q3 = 22 ∧ hN S142 q3 = 12 := by have := X142 q3 (by rw [d3.1]; decide); exact ⟨this.1.trans d3.1, this.2.trans d3.2⟩
    have u4 : hK S142 q4 = 22 ∧ hN S142 q4 = 12 := by have := X142 q4 (by rw [k4]; decide); exact ⟨this.1.trans k4, this.2.trans n4⟩
    have n34 : q3 ≠ q4 := fun e => by rw [e, q40] at k3; exact absurd k3 (by decide)
    have n35 : q3 ≠ q5 := fun e => by have := d3.1; rw [e, q50] at this; exact absurd this (by decide)
    have n45 : q4 ≠ q5 := fun e => by rw [e, q50] at k4; exact absurd k4 (by decide)
    have a3b : hA S142 q3 = hA S fa := by
      rw [o5 q3 (by rw [d3.1]; decide), o4 q3 (by rw [k3]; decide), a3]; exact sf.2.2.2.2.1
    have a4b : hA S142 q4 = hA S t := by rw [o5 q4 (by rw [k4]; decide), a4]; exact st.2.2.2.2.1
    have a5b : hA S142 q5 = hA S zz := by rw [a5]; exact sz.2.2.2.2.1
    have kx : hK S142 x0 = 10 := (x142 x0 hx).1.trans hx0
    have R1 : hR S142 205 x0 = some q1 := (g5' 205 (by decide)).trans ((g4' 205 (by decide)).trans ((g3' 205 (by decide)).trans g1b))
    have R2 : hR S142 210 x0 = some q2 := (g5' 210 (by decide)).trans ((g4' 210 (by decide)).trans ((g3' 210 (by decide)).trans g2b))
    have R3 : hR S142 202 x0 = some q3 := (g5' 202 (by decide)).trans ((g4' 202 (by decide)).trans g3)
    have R4 : hR S142 203 x0 = some q4 := (g5' 203 (by decide)).trans g4
    have I142 : hI S142 200 x0 = hI S 200 p0 ∧ hI S142 201 x0 = hI S 201 p0 := by rw [i5, i4, i3]; exact ⟨i200, i201⟩
    have sp := F142 p0 np (by rw [hp0]; decide)
    have ssc := ol F142 z4.1 (by decide) (by decide)
    have fr0 : ∀ {b : Nat}, hK S b ≠ 0 → ∀ {q : Nat}, hK S q = 0 → b ≠ q := fun hb _ hq e => hb (by rw [e]; exact hq)
    refine ⟨20, rl_vs (S0 := S142) (M := e0) (v := e2) (μ := e1) (sc := sc) (A := fun k => if k = 0 then x0 else if k = 1 then q3 else if k = 2 then q4 else if k = 3 then q5 else if k = 4 then q1 else q2) kx (by rw [sp.1]; exact hp0) R1 u1.1 u1.2 (by rw [sp.2.2.2.1]; exact r4) (by rw [ssc.1]; exact z4.1) (by rw [ssc.2.1]; exact z4.2.1) (fr0 (by rw [z4.1]; decide) w1) (fun z hz => ?_) (fun b hb => by rw [(x142 b (hM0 b hb)).1]; exact hM0 b hb) (fun S1 a kc ks ea hVI => ?_) 9 0 20 S142 _ _ _ (by omega) (by omega) (fun k hk => rfl) ⟨frM.rf, ext_rf, fun k hk => ?_, fun k h6 hk => absurd hk (by omega), fun j k hj hk e => ?_, fun z hz => absurd hz (Nat.not_lt_zero z)⟩ (by omega) (by omega)⟩
    · obtain ⟨u, v1, v2⟩ := hs z hz
      refine ⟨u, by rw [ssc.2.2.2.2.2]; exact v1, ?_⟩
      obtain ⟨y1, y2, y3, y4, w, p, y5, y6, y7, y8, y9⟩ := v2
      exact RelSc.sx ⟨y1, y2, y3, y4, w, p, y5, y6, y7, y8, y9⟩ (ol F142 y1 (by decide) (by decide)) (fun b hb => by rw [y5] at hb; rw [← Option.some.inj hb]; exact ol F142 y7.1 (by decide) (by decide)) (fun b hb => by rw [y6] at hb; rw [← Option.some.inj hb]; exact ol F142 y8.1 (by decide) (by decide))
    · intro _ _ S205 e205 S212 e212 S219 e219 S226 e226
      obtain ⟨V1, V2, V3, V4, V5, V6⟩ := hVI
      have b0 : a 0 = x0 := ea 0 (by omega)
      have b1 : a 1 = q3 := ea 1 (by omega)
      have b2 : a 2 = q4 := ea 2 (by omega)
      have b3 : a 3 = q5 := ea 3 (by omega)
      have b4 : a 4 = q1 := ea 4 (by omega)
      have b5 : a 5 = q2 := ea 5 (by omega)
      have sv : ∀ {b : Nat}, hK S142 b ≠ 0 → b ≠ q1 → sam S142 S1 b := fun hb hn => V1 _ (by rw [b4]; exact hn) hb
      have F1 : frM S S1 (fun b => b = x0) := F142.nw V1 (fun b hb e => absurd w1 (by rw [← b4, ← e]; exact hb))
      have X1 : ext S S1 := ext_tr x142 V2
      have sx1 := sv (b := x0) (by rw [kx]; decide) (fr0 hx w1)
      have sp1 := F1 p0 np (by rw [hp0]; decide)
      have m1 : hI S205 207 p0 = hI S1 207 p0 := by rw [e205, px_II, if_neg (fun z => np z.2)]
      rw [m1] at e212
      have m2 : hI S212 208 p0 = hI S1 208 p0 := by rw [e212, px_II, if_neg (fun z => np z.2), e205, px_II, if_neg (fun z => np z.2)]
      rw [m2] at e219
      have m3 : hI S219 209 p0 = hI S1 209 p0 := by rw [e219, px_II, if_neg (fun z => np z.2), e212, px_II, if_neg (fun z => np z.2), e205, px_II, if_neg (fun z => np z.2)]
      rw [m3] at e226
      have F226 : frM S S226 (fun b => b = x0) := by rw [e226, e219, e212, e205]; exact (((F1.pI rfl _ _).pI rfl _ _).pI rfl _ _).pI rfl _ _
      have K226 : hK S226 = hK S1 := by rw [e226, e219, e212, e205]; simp only [px_KI, px_KR, px_KA, px_KB, px_KO, px_KW, px_KC, px_NI, px_NR, px_NA, px_NB, px_NO, px_NW, px_NC, px_II, px_IR, px_IA, px_IB, px_IO, px_IW, px_IC, px_RI, px_RR, px_RA, px_RB, px_RO, px_RW, px_RC, px_AI, px_AR, px_AA, px_AB, px_AO, px_AW, px_AC, px_BI, px_BR, px_BA, px_BB, px_BO, px_BW, px_BC]
      have N226 : hN S226 = hN S1 := by rw [e226, e219, e212, e205]; simp only [px_KI, px_KR, px_KA, px_KB, px_KO, px_KW, px_KC, px_NI, px_NR, px_NA, px_NB, px_NO, px_NW, px_NC, px_II, px_IR, px_IA, px_IB, px_IO, px_IW, px_IC, px_RI, px_RR, px_RA, px_RB, px_RO, px_RW, px_RC, px_AI, px_AR, px_AA, px_AB, px_AO, px_AW, px_AC, px_BI, px_BR, px_BA, px_BB, px_BO, px_BW, px_BC]
      have R226 : hR S226 = hR S1 := by rw [e226, e219, e212, e205]; simp only [px_KI, px_KR, px_KA, px_KB, px_KO, px_KW, px_KC, px_NI, px_NR, px_NA, px_NB, px_NO, px_NW, px_NC, px_II, px_IR, px_IA, px_IB, px_IO, px_IW, px_IC, px_RI, px_RR, px_RA, px_RB, px_RO, px_RW, px_RC, px_AI, px_AR, px_AA, px_AB, px_AO, px_AW, px_AC, px_BI, px_BR, px_BA, px_BB, px_BO, px_BW, px_BC]
      have A226 : hA S226 = hA S1 := by rw [e226, e219, e212, e205]; simp only [px_KI, px_KR, px_KA, px_KB, px_KO, px_KW, px_KC, px_NI, px_NR, px_NA, px_NB, px_NO, px_NW, px_NC, px_II, px_IR, px_IA, px_IB, px_IO, px_IW, px_IC, px_RI, px_RR, px_RA, px_RB, px_RO, px_RW, px_RC, px_AI, px_AR, px_AA, px_AB, px_AO, px_AW, px_AC, px_BI, px_BR, px_BA, px_BB, px_BO, px_BW, px_BC]
      have B226 : hB S226 = hB S1 := by rw [e226, e219, e212, e205]; simp only [px_KI, px_KR, px_KA, px_KB, px_KO, px_KW, px_KC, px_NI, px_NR, px_NA, px_NB, px_NO, px_NW, px_NC, px_II, px_IR, px_IA, px_IB, px_IO, px_IW, px_IC, px_RI, px_RR, px_RA, px_RB, px_RO, px_RW, px_RC, px_AI, px_AR, px_AA, px_AB, px_AO, px_AW, px_AC, px_BI, px_BR, px_BA, px_BB, px_BO, px_BW, px_BC]
      have I226 : hI S226 200 x0 = hI S1 200 x0 ∧ hI S226 201 x0 = hI S1 201 x0 ∧ hI S226 206 x0 = hI S1 206 p0 ∧ hI S226 207 x0 = hI S1 207 p0 ∧ hI S226 208 x0 = hI S1 208 p0 ∧ hI S226 209 x0 = hI S1 209 p0 := by
        rw [e226, e219, e212, e205]
        simp only [px_II, Nat.reduceEqDiff, and_true, and_false, true_and, false_and, if_true, if_false]
      have I226o : ∀ i b, b ≠ x0 → hI S226 i b = hI S1 i b := fun i b hb => by
        rw [e226, px_II, if_neg (fun z => hb z.2), e219, px_II, if_neg (fun z => hb z.2), e212, px_II, if_neg (fun z => hb z.2), e205, px_II, if_neg (fun z => hb z.2)]
      clear e226 e219 e212 e205
      have sac := ol F226 z5.1 (by decide) (by decide)
      have sp226 := F226 p0 np (by rw [hp0]; decide)
      have sq2 := sv (b := q2) (by rw [u2.1]; decide) (fun e => by have := u2.1; rw [e, u1.1] at this; exact absurd this (by decide))
      refine ⟨20, rl_va (S0 := S226) (a := q2) (ac := ac) (by rw [R226, sx1.2.2.2.1]; exact R2) (by rw [sp226.2.2.2.1]; exact r5) (by rw [N226, sq2.2.1]; exact u2.2) (by rw [sac.2.1]; exact z5.2.1) (fr0 (by rw [z5.1]; decide) w2) (fun S9 f9 e9 b9 h10 => ?_) 10 0 20 S226 _ _ (by omega) (by omega) frM.rf ⟨rfl, rfl, rfl, rfl, rfl⟩ (fun _ _ => rfl) (fun j hj => absurd hj (Nat.not_lt_zero j))⟩
      obtain ⟨e91, e92, e93, e94, e95⟩ := e9
      have F9 : frM S S9 (fun b => b = x0) := F226.nw f9 (fun b hb e => absurd w2 (by rw [← e]; exact hb))
      have K9 : hK S9 = hK S1 := e91.trans K226
      have N9 : hN S9 = hN S1 := e92.trans N226
      have R9 : hR S9 = hR S1 := e93.trans R226
      have A9 : hA S9 = hA S1 := e95.trans A226
      have sq : ∀ {q n : Nat}, hK S142 q = 22 ∧ hN S142 q = n → hK S9 q = 22 ∧ hN S9 q = n ∧ hA S9 q = hA S142 q := fun {q n} h => by
        have s := sv (b := q) (by rw [h.1]; decide) (fun e => by have := h.1; rw [e, u1.1] at this; exact absurd this (by decide))
        rw [K9, N9, A9]
        exact ⟨s.1.trans h.1, s.2.1.trans h.2, s.2.2.2.2.1⟩
      have nM : ∀ {q : Nat}, hK S q = 0 → ¬ e0 q := fun hq z => hM0 _ z hq
      have kx1 : hK S1 x0 = 10 := sx1.1.trans kx
      have hsc9 : ∀ z, z < 9 → RelSc S9 e0 (a (6 + 3 * z)) e1 e2 (z + 1) := fun z hz => by
        obtain ⟨y1, y2, y3, y4, w, p, y5, y6, y7, y8, y9⟩ := (V6 z hz).2.2.2
        have hn : a (6 + 3 * z) ≠ x0 := fun e => by rw [e, kx1] at y1; exact absurd y1 (by decide)
        exact ⟨by rw [K9]; exact y1, y2, by rw [e94, I226o _ _ hn]; exact y3, by rw [e94, I226o _ _ hn]; exact y4, w, p, by rw [R9]; exact y5, by rw [R9]; exact y6, ⟨by rw [K9]; exact y7.1, by rw [N9]; exact y7.2.1, y7.2.2⟩, ⟨by rw [K9]; exact y8.1, by rw [N9]; exact y8.2.1, y8.2.2⟩, fun i hi => by rw [A9]; exact y9 i hi⟩
      have T1 : hR S9 205 x0 = some q1 := by rw [R9, sx1.2.2.2.1]; exact R1
      have T2 : hR S9 210 x0 = some q2 := by rw [R9, sx1.2.2.2.1]; exact R2
      have T3 : hR S9 202 x0 = some q3 := by rw [R9, sx1.2.2.2.1]; exact R3
      have T4 : hR S9 203 x0 = some q4 := by rw [R9, sx1.2.2.2.1]; exact R4
      have T5 : hR S9 204 x0 = some q5 := by rw [R9, sx1.2.2.2.1]; exact g5
      obtain ⟨l1, l2, l3⟩ := sq u3
      obtain ⟨l4, l5, l6⟩ := sq u4
      obtain ⟨l7, l8, l9⟩ := sq ⟨k5, n5⟩
      have n12 : q1 ≠ q2 := fun e => by have := u1.1; rw [e, u2.1] at this; exact absurd this (by decide)
      have B1 : hB S9 q1 = hB S1 q1 := (b9 q1 n12).trans (by rw [B226])
      have e1q := V2 q1 (by rw [u1.1]; decide)
      refine ⟨F9, ⟨⟨by rw [K9]; exact kx1, hMx, ?_, ?_, ?_, ?_, ?_, ?_⟩, ⟨q3, q4, q5, T3, T4, T5, ⟨l1, l2, nM w3⟩, ⟨l4, l5, nM w4⟩, ⟨l7, l8, nM w5⟩, fun i hi => ?_⟩, ⟨q1, T1, ⟨by rw [K9, e1q.1]; exact u1.1, by rw [N9, e1q.2]; exact u1.2, nM w1⟩, fun z hz => ⟨a (6 + 3 * z), by rw [B1, ← b4]; exact (V6 z hz).1, hsc9 z hz⟩⟩, ⟨q2, T2, ⟨by rw [K9, sq2.1]; exact u2.1, by rw [N9, sq2.2.1]; exact u2.2, nM w2⟩, fun b hb => ?_⟩⟩, a, ⟨b0, by rw [b1]; exact T3, by rw [b2]; exact T4, by rw [b3]; exact T5, by rw [b4]; exact T1, by rw [b5]; exact T2, fun z hz => ⟨by rw [b4, B1, ← b4]; exact (V6 z hz).1, by rw [R9]; exact (V6 z hz).2.1, by rw [R9]; exact (V6 z hz).2.2.1⟩, fun i hi => by rw [K9]; exact V3 i (by omega), fun i j hi hj => V5 i j (by omega) (by omega)⟩, fun i h0 hi => ?_⟩
      · rw [e94, I226.1, sx1.2.2.1, I142.1]; exact h3
      · rw [e94, I226.2.1, sx1.2.2.1, I142.2]; exact h4
      · rw [e94, I226.2.2.1, sp1.2.2.1]; exact h6
      · rw [e94, I226.2.2.2.1, sp1.2.2.1]; exact h7
      · rw [e94, I226.2.2.2.2.1, sp1.2.2.1]; exact h8
      · rw [e94, I226.2.2.2.2.2, sp1.2.2.1]; exact h9
      · rw [l3, l6, l9, a3b, a4b, a5b]; exact hh i hi
      · rw [h10 b hb, sac.2.2.2.2.2]
        rcases ha b hb with h | ⟨y1, y, y2, y3⟩
        · exact Or.inl h
        · refine Or.inr ⟨y1, y, y2, y3.km (fun c hc => ?_)⟩
          rcases hc with e | e | e | e
          · exact ol F9 e (by decide) (by decide)
          · exact ol F9 e (by decide) (by decide)
          · exact ol F9 e (by decide) (by decide)
          · exact ol F9 e (by decide) (by decide)
      · by_cases c : 6 ≤ i
        · have q := V4 i c (by omega)
          by_cases c2 : hK S (a i) = 0
          · exact c2
          · exact absurd ((x142 _ c2).1.symm.trans q) c2
        · obtain rfl | rfl | rfl | rfl | rfl : i = 1 ∨ i = 2 ∨ i = 3 ∨ i = 4 ∨ i = 5 := by omega
          · rw [b1]; exact w3
          · rw [b2]; exact w4
          · rw [b3]; exact w5
          · rw [b4]; exact w1
          · rw [b5]; exact w2
    · have hk6 : k = 0 ∨ k = 1 ∨ k = 2 ∨ k = 3 ∨ k = 4 ∨ k = 5 := by omega
      rcases hk6 with e | e | e | e | e | e
      · subst e; exact kx
      · subst e; exact u3.1
      · subst e; exact u4.1
      · subst e; exact k5
      · subst e; exact u1.1
      · subst e; exact u2.1
    · have n31 : ∀ {q : Nat}, hK S142 q = 22 → q ≠ x0 ∧ q ≠ q1 ∧ q ≠ q2 := fun {q} hq => ⟨fun z => by rw [z, kx] at hq; exact absurd hq (by decide), fun z => by rw [z, u1.1] at hq; exact absurd hq (by decide), fun z => by rw [z, u2.1] at hq; exact absurd hq (by decide)⟩
      have n12 : q1 ≠ q2 := fun z => by have := u1.1; rw [z, u2.1] at this; exact absurd this (by decide)
      have nx1 : x0 ≠ q1 := fun z => by rw [z, u1.1] at kx; exact absurd kx (by decide)
      have nx2 : x0 ≠ q2 := fun z => by rw [z, u2.1] at kx; exact absurd kx (by decide)
      have hj6 : j = 0 ∨ j = 1 ∨ j = 2 ∨ j = 3 ∨ j = 4 ∨ j = 5 := by omega
      have hk6 : k = 0 ∨ k = 1 ∨ k = 2 ∨ k = 3 ∨ k = 4 ∨ k = 5 := by omega
      obtain ⟨a31, a32, a33⟩ := n31 u3.1
      obtain ⟨a41, a42, a43⟩ := n31 u4.1
      obtain ⟨a51, a52, a53⟩ := n31 k5
      rcases hj6 with e9 | e9 | e9 | e9 | e9 | e9 <;> rcases hk6 with e8 | e8 | e8 | e8 | e8 | e8 <;> subst e9 <;> subst e8 <;> first | rfl | exact absurd e nx1 | exact absurd e nx2 | exact absurd e.symm nx1 | exact absurd e.symm nx2 | exact absurd e n12 | exact absurd e.symm n12 | exact absurd e a31 | exact absurd e a32 | exact absurd e a33 | exact absurd e.symm a31 | exact absurd e.symm a32 | exact absurd e.symm a33 | exact absurd e a41 | exact absurd e a42 | exact absurd e a43 | exact absurd e.symm a41 | exact absurd e.symm a42 | exact absurd e.symm a43 | exact absurd e a51 | exact absurd e a52 | exact absurd e a53 | exact absurd e.symm a51 | exact absurd e.symm a52 | exact absurd e.symm a53 | exact absurd e n34 | exact absurd e n35 | exact absurd e n45 | exact absurd e.symm n34 | exact absurd e.symm n35 | exact absurd e.symm n45)

end S_C5I
