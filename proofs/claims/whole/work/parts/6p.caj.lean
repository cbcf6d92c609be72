section S_CAJ
abbrev ws_X10_amend : List Cond := Cond.code yX10_amend cX10_amend 8 (some .int) :: W0
abbrev rm_X10_amend : Room := ({ frames := 23, cells := 0, slots := 0, locals := 829 } : Room)
def wb_X10_amend_82 (T : Nat → ClassId) (rec : Nat → Int32 → Nat → Nat → Int32 → HS → Nat → Nat → Prop) (P : Int32 → HS → Prop) (X : String → HS → Prop) (x0 : Nat) (x1 : Int32) (x5 : Nat) (x6 : Nat) (x7 : Int32) (S : HS) (kc ks : Nat) : Prop := ((hI S 262 x5) ≤ x7 → (∃ (m122 : (Nat → Nat)) (m123 : (Nat → Nat → Int32)) (m124 : (Nat → Int32)) (m125 : (Nat → Int32)) (m126 : (List Int32)), ((FrS S m122 m123 m124 m125 m126 ∧ x0 = m122 50) ∧ (∀ (S128 : HS), ext S S128 → (FrS S128 m122 (rmU m123 m124) (rmG m124) m125 m126 ∧ frM S S128 (fxM m122) ∧ hK S128 = hK S ∧ hR S128 = hR S ∧ (∀ i, 54 ≤ i → i < 64 → sam S S128 (m122 i))) → (∃ b138 : Nat, hR S128 220 x0 = some b138 ∧ (hK S128 b138 = 7 → (∃ b141 : Nat, hR S128 140 b138 = some b141 ∧ (hK S128 b141 = 29 → (vp_in x1 (hN S128 b141) ∧ (∀ S145 : HS, S145 = putB S128 b141 (Int32.toNatClampNeg x1) (some x6) → (P (hI S145 262 x5) S145))))))))))) ∧ (¬ (hI S 262 x5) ≤ x7 → ((∃ ar n j : Nat, hR S 261 x5 = some ar ∧ hK S ar = 30 ∧ hI S 262 x5 = nI n ∧ n < 2 ^ 31 ∧ j < n ∧ n ≤ hN S ar ∧ x7 = nI j ∧ ∃ b, hB S ar j = some b ∧ hK S b = 8) ∧ (∀ (o162 : Option Nat) (S157 : HS), ext S S157 → (∀ b, o162 = some b → hK S157 b = 8) → (S157 = S ∧ ∃ ar, hR S 261 x5 = some ar ∧ o162 = hB S ar (iv x7)) → (∃ b167 : Nat, o162 = some b167 ∧ (hK S157 b167 = 8 → (∃ (m169 : (Nat → Prop)) (m170 : Nat → Int32) (m171 : Nat) (m172 : Nat → Nat) (m173 : STM), ((((WF m170 ∧ m171 < 6 ∧ RelV S157 m169 x6 m170 m171) ∧ OwV S157 x6 m172) ∧ stW m173 ∧ StmR S157 m169 b167 m173) ∧ (∀ (v180 : Int32) (S175 : HS), ext S157 S175 → (v180 = b2i (crBx m170 m171 m173) ∧ (crBx m170 m171 m173 = true → RelV S175 m169 x6 (crSx m170 m171 m173) m171) ∧ vmP S157 S175 x6 m172) → ((¬ v180 = 0 → (∀ v186 : Int32, v186 = x7 + 1 → (rec x0 x1 x5 x6 v186 S175 kc ks))) ∧ (v180 = 0 → (∀ S188 : HS, S188 = putI S175 229 x0 x7 → ((1 ≤ kc ∧ 6 ≤ ks) ∧ X "java/lang/UnsupportedOperationException" S188))))))))))))
def wp_X10_amend_82 (T : Nat → ClassId) (P : Int32 → HS → Prop) (X : String → HS → Prop) : Nat → Nat → Int32 → Nat → Nat → Int32 → HS → Nat → Nat → Prop
  | 0 => fun _ _ _ _ _ _ _ _ => False
  | n + 1 => fun x0 x1 x5 x6 x7 S kc ks => wb_X10_amend_82 T (wp_X10_amend_82 T  P X n)  P X x0 x1 x5 x6 x7 S kc ks
set_option maxRecDepth 100000 in
set_option maxHeartbeats 4000000 in
theorem t_X10_amend_82 {p : Program} {l : Launch} {e : Env} {s : State} {m : MethodId} {args : Array Value} {below : List Frame} {meth : Method} {c : Code} {D : va_G} {A : Nat → Prop} {T : Nat → ClassId} {mc ms : Nat} (C : GC p s m args meth c cX10_amend "FreightRater" (ws_X10_amend) 8 D A (zty T)) (E : GE T A s) (hst : l.stackTraces = false) (htab : ∀ z ∈ c.exceptionTable.toList, False) (hr : meth.sig.returnType = (some .int)) (S0 : HS) (P : Int32 → HS → Prop) (X : String → HS → Prop) : ∀ (n : Nat) (x0 : Nat) (x1 : Int32) (x5 : Nat) (x6 : Nat) (x7 : Int32) (S : HS) (kc ks : Nat) (L : List Nat), wt S → hL S L → ext S0 S → (hK S x0 = 11) → (hK S x5 = 13) → (hK S x6 = 10) → wp_X10_amend_82 T  P X n x0 x1 x5 x6 x7 S kc ks → GW p l e { rm_X10_amend with cells := mc, slots := ms } s m args below meth c D A 8 mc ms (vx_MQ below (va_Qi (fun v (u : HS × List Nat) => P v u.1 ∧ CO S0 u) (CE D T A) A) (CXX D T A S0 X) args s mc ms A) (CW T S L) kc ks 82 [(0, .ref x0), (1, .int x1), (5, .ref x5), (6, .ref x6), (7, .int x7)] [] := by
  have hW : ∀ {w : Cond}, w ∈ W0 → w.before args s = true := fun h => C.2.2.2.2.1 _ (List.mem_cons_of_mem _ h)
  intro n
  induction n with
  | zero => intro x0 x1 x5 x6 x7 S kc ks L hw hL he hx0 hx5 hx6 h; exact h.elim
  | succ n ih =>
    intro x0 x1 x5 x6 x7 S kc ks L hw hL he hx0 hx5 hx6 h
    replace h : wb_X10_amend_82 T (wp_X10_amend_82 T  P X n)  P X x0 x1 x5 x6 x7 S kc ks := h
    unfold wb_X10_amend_82 at h
    refine g_iload C dX10_amend_82 4 rfl ?_
    refine g_aload C dX10_amend_84 2 rfl ?_
    refine gc_calliV (host := "") C E hw hL hx5 (by decide) (by decide) rfl [] rfl (k_Jx4a65c_size_8abf5 l D T x5 S hx5) (w0_V 0 C.2.2.2.2.1 kw_875 kw_876 kw_877 kw_22 kw_878 rfl rfl (by decide +kernel) ⟨Nat.le_of_ble_eq_true rfl, Nat.le_of_ble_eq_true rfl⟩) rfl (Nat.le_of_ble_eq_true rfl) (Nat.le_refl _) (Nat.le_refl _) (Nat.zero_le _) (Nat.zero_le _) dX10_amend_86 (fun v9 S9 L117 he9 hw9 hL9 hp => ?_)
    obtain ⟨hv9, hs9⟩ := hp
    replace hs9 := hs9.symm
    subst hs9
    replace hv9 := hv9.symm
    subst hv9
    have w120 := hL9
    refine g_icmp_ge (tgt := 130) C dX10_amend_89 (by decide) (fun z121 => ?_) (fun z121 => ?_)
    · replace h := h.1 z121
      refine g_aload_n C dX10_amend_130 rfl 0 rfl ?_
      obtain ⟨m122, m123, m124, m125, m126, h⟩ := h
      obtain ⟨g127, h⟩ := h
      refine gc_callvV (host := "") C E hw w120 hx0 (by decide) (by decide) rfl [] rfl (k_X10_remember l D T x0 S m122 m123 m124 m125 m126 hx0 g127) (w0_V 0 C.2.2.2.2.1 kw_495 kw_497 ks_1 kw_1 kw_498 rfl rfl (by decide +kernel) ⟨Nat.le_of_ble_eq_true rfl, Nat.le_of_ble_eq_true rfl⟩) rfl (Nat.le_of_ble_eq_true rfl) (Nat.le_refl _) (Nat.le_refl _) (Nat.zero_le _) (Nat.zero_le _) dX10_amend_131 (fun S128 L129 e130 w131 w132 hp => ?_)
      replace h := h S128 e130 hp
      have g133 := ext_K e130 hx0 (by decide)
      have g134 := ext_K e130 hx5 (by decide)
      have g135 := ext_K e130 hx6 (by decide)
      have w136 := ext_tr he e130
      refine g_aload_n C dX10_amend_134 rfl 0 rfl ?_
      refine gc_getR C w131 iwx_X10 w132 g133 (by decide) (by decide) rfl 0 (by decide) (hW kw_242) rfl rfl rfl dX10_amend_135 (fun o137 eo137 ko137 => ?_)
      obtain ⟨b138, hb9, h⟩ := h
      have g139 : hK S128 b138 = 7 := ko137 b138 (eo137.trans hb9)
      replace h := h g139
      refine g_opt (eo137.trans hb9) ?_
      refine gc_getR C w131 iwx_X6 w132 g139 (by decide) (by decide) rfl 0 (by decide) (hW kw_59) rfl rfl rfl dX10_amend_138 (fun o140 eo140 ko140 => ?_)
      obtain ⟨b141, hb9, h⟩ := h
      have g142 : hK S128 b141 = 29 := ko140 b141 (eo140.trans hb9)
      replace h := h g142
      refine g_opt (eo140.trans hb9) ?_
      refine g_iload_n C dX10_amend_141 rfl 1 rfl ?_
      refine g_aload C dX10_amend_142 3 rfl ?_
      obtain ⟨g143, h⟩ := h
      refine gc_aast C w132 g142 (by decide) rfl g135 (by decide) (by decide) rfl g143 dX10_amend_144 ?_
      have w144 := wt_putB w131 (Int32.toNatClampNeg x1) (some x6) (k_ne g142 (by decide)) (fun b hb => by cases hb; rw [show hK S128 b141 = 29 from g142]; exact g135)
      refine gc_nS (fun S145 eS145 => ?_)
      replace h := h S145 eS145
      have w146 : wt S145 := by rw [eS145]; exact w144
      have w147 : isL S145 L129 := by rw [eS145]; exact w132
      have w148 : ext S0 S145 := by rw [eS145]; exact w136
      have g149 : hK S145 x0 = 11 := by rw [eS145]; exact g133
      have g150 : hK S145 x5 = 13 := by rw [eS145]; exact g134
      have g151 : hK S145 x6 = 10 := by rw [eS145]; exact g135
      refine g_aload C dX10_amend_145 2 rfl ?_
      refine gc_calliV (host := "") C E w146 w147 g150 (by decide) (by decide) rfl [] rfl (k_Jx4a65c_size_8abf5 l D T x5 S145 g150) (w0_V 0 C.2.2.2.2.1 kw_875 kw_876 kw_877 kw_22 kw_878 rfl rfl (by decide +kernel) ⟨Nat.le_of_ble_eq_true rfl, Nat.le_of_ble_eq_true rfl⟩) rfl (Nat.le_of_ble_eq_true rfl) (Nat.le_refl _) (Nat.le_refl _) (Nat.zero_le _) (Nat.zero_le _) dX10_amend_147 (fun v9 S9 L152 he9 hw9 hL9 hp => ?_)
      obtain ⟨hv9, hs9⟩ := hp
      replace hs9 := hs9.symm
      subst hs9
      replace hv9 := hv9.symm
      subst hv9
      have w155 := hL9
      exact gx_iret C w146 w155 w148 hr dX10_amend_150 h
    · replace h := h.2 z121
      refine g_aload C dX10_amend_92 3 rfl ?_
      refine g_aload C dX10_amend_94 2 rfl ?_
      refine g_iload C dX10_amend_96 4 rfl ?_
      obtain ⟨g156, h⟩ := h
      refine gc_callqV (host := "") C E hw w120 hx5 (by decide) (by decide) rfl [.int x7] rfl (k_Jx4a65c_get_915e3 l D T x5 x7 S 8 hx5 g156) (w0_V 1 C.2.2.2.2.1 kw_879 kw_880 kw_881 kw_22 kw_882 rfl rfl (by decide +kernel) ⟨Nat.le_of_ble_eq_true rfl, Nat.le_of_ble_eq_true rfl⟩) rfl (Nat.le_of_ble_eq_true rfl) (Nat.le_refl _) (Nat.le_refl _) (Nat.zero_le _) (Nat.zero_le _) dX10_amend_98 (fun o162 S157 L158 e159 w160 w161 ko162 hp => ?_)
      replace h := h o162 S157 e159 ko162 hp
      have g163 := ext_K e159 hx6 (by decide)
      have g164 := ext_K e159 hx0 (by decide)
      have g165 := ext_K e159 hx5 (by decide)
      have w166 := ext_tr he e159
      obtain ⟨b167, rfl, h⟩ := h
      have g168 : hK S157 b167 = 8 := ko162 b167 rfl
      replace h := h g168
      refine gc_castP C w161 g168 (by decide) (by decide) rfl (hW kw_893) dX10_amend_101 ?_
      obtain ⟨m169, m170, m171, m172, m173, h⟩ := h
      obtain ⟨g174, h⟩ := h
      refine gc_calliV (host := "") C E w160 w161 g163 (by decide) (by decide) rfl [.ref b167] rfl (k_X9_carryOut l D T x6 b167 S157 m169 m170 m171 m172 m173 g163 g168 g174) (w0_V 1 C.2.2.2.2.1 kw_894 kw_895 kw_896 kw_14 kw_897 rfl rfl (by decide +kernel) ⟨Nat.le_of_ble_eq_true rfl, Nat.le_of_ble_eq_true rfl⟩) rfl (Nat.le_of_ble_eq_true rfl) (Nat.le_refl _) (Nat.le_refl _) (Nat.zero_le _) (Nat.zero_le _) dX10_amend_104 (fun v180 S175 L176 e177 w178 w179 hp => ?_)
      replace h := h v180 S175 e177 hp
      have g181 := ext_K e177 g164 (by decide)
      have g182 := ext_K e177 g165 (by decide)
      have g183 := ext_K e177 g163 (by decide)
      have w184 := ext_tr w166 e177
      refine g_if_ne (tgt := 124) C dX10_amend_107 (by decide) (fun z185 => ?_) (fun z185 => ?_)
      · replace h := h.1 z185
        obtain ⟨v186, ev186⟩ : ∃ y : Int32, y = x7 + 1 := ⟨_, rfl⟩
        replace h := h v186 ev186
        refine g_iinc (v := v186) (lv' := [(7, .int v186), (0, .ref x0), (1, .int x1), (5, .ref x5), (6, .ref x6)]) C dX10_amend_124 (j := 4) rfl (by rw [ev186]; rfl) (by decide) rfl ?_
        refine g_goto (tgt := 82) C dX10_amend_127 (by decide) ?_
        refine g_locals [1, 2, 3, 4, 0] rfl ?_
        exact ih x0 x1 x5 x6 v186 S175 kc ks L176 w178 w179 w184 g181 g182 g183 h
      · replace h := h.2 z185
        refine g_aload_n C dX10_amend_110 rfl 0 rfl ?_
        refine g_iload C dX10_amend_111 4 rfl ?_
        refine gc_putI C iwx_X10 w179 g181 (by decide) (by decide) rfl 9 (by decide) (hW kw_251) rfl tyX10 tyX10_ok nmX10 rfl rfl rfl rfl rfl dX10_amend_113 ?_
        have w187 := wt_putI w178 229 x7 (k_ne g181 (by decide))
        refine gc_nS (fun S188 eS188 => ?_)
        replace h := h S188 eS188
        have w189 : wt S188 := by rw [eS188]; exact w187
        have w190 : isL S188 L176 := by rw [eS188]; exact w179
        have w191 : ext S0 S188 := by rw [eS188]; exact w184
        have g192 : hK S188 x0 = 11 := by rw [eS188]; exact g181
        have g193 : hK S188 x5 = 13 := by rw [eS188]; exact g182
        have g194 : hK S188 x6 = 10 := by rw [eS188]; exact g183
        obtain ⟨g195, h⟩ := h
        exact gx_throw (cls := "java/lang/UnsupportedOperationException") (names := ["java/lang/RuntimeException", "java/lang/Exception"]) C E hst w189 w190 w191 (Nat.le_refl _) (Nat.le_refl _) (by decide) (by decide) (hW kw_943) (hW kw_33) (th_FreightRater_129 hW E) tv_FreightRater_129 dX10_amend_116 dX10_amend_119 dX10_amend_120 dX10_amend_123 htab (Nat.le_of_ble_eq_true rfl) (Nat.le_of_ble_eq_true rfl) g195.1 g195.2 h
def wp_X10_amend (T : Nat → ClassId) (P : Int32 → HS → Prop) (X : String → HS → Prop) (x0 : Nat) (p0 : Int32) (S : HS) (mc ms : Nat) : Prop := ∀ v1 : Int32, v1 = (hI S 227 x0) → (∀ S3 : HS, S3 = putI S 227 x0 0 → (∃ b9 : Nat, hR S3 220 x0 = some b9 ∧ (hK S3 b9 = 7 → (∃ (m11 : (Nat → Prop)) (m12 : Nat → Int32), ((WF m12 ∧ RelSt S3 m11 b9 m12) ∧ (∀ (o19 : Option Nat) (S14 : HS), ext S3 S14 → (∀ b, o19 = some b → hK S14 b = 10) → (S14 = S3 ∧ (zin p0 0 (m12 0 - 1) = 0 → o19 = none) ∧ (¬ zin p0 0 (m12 0 - 1) = 0 → ∃ y, o19 = some y ∧ RelV S3 m11 y m12 (iv p0))) → ((o19 = none → ((1 ≤ mc ∧ 6 ≤ ms) ∧ X "java/lang/IndexOutOfBoundsException" S14)) ∧ (∀ b22 : Nat, o19 = some b22 → hK S14 b22 = 10 → ((1 ≤ mc ∧ 4 ≤ ms) ∧ (∀ q25 : Nat, hK S14 q25 = 0 → zr S14 q25 → (∀ S33 : HS, S33 = newO S14 q25 4 → (∃ b41 : Nat, hR S33 226 x0 = some b41 ∧ (hK S33 b41 = 21 → (∀ (S43 : HS), ext S33 S43 → (S43 = putI (putR S33 80 q25 (some b41)) 81 q25 (if Int32.ofNat (hN S33 b41) < v1 then Int32.ofNat (hN S33 b41) else v1)) → (∃ cc52 cc53 : Nat, (cc52 ≤ (mc - 1) ∧ cc53 ≤ (ms - 4)) ∧ (∃ (m55 : Nat → Int32) (m56 : Nat) (m57 : (Nat → Prop)), ((RdO S43 q25 m55 m56 (0, false) ∧ chO m55 m56 ∧ hK S43 (T 120) = 30 ∧ hN S43 (T 120) = 0 ∧ (∀ b, m57 b → hK S43 b ≠ 0) ∧ ¬ m57 (T 120) ∧ 1 + budC (amF m55 m56).1 ≤ cc52 ∧ 3 + budS (amF m55 m56).1 ≤ cc53) ∧ (∀ (o64 : Option Nat) (S59 : HS), ext S43 S59 → (∀ b, o64 = some b → hK S59 b = 13) → (frM S43 S59 (fun b => b = q25) ∧ RdO S59 q25 m55 m56 (amF m55 m56).2 ∧ ∃ y, o64 = some y ∧ hK S43 y = 0 ∧ ((amF m55 m56).2.2 = false → TxL S59 m57 (T 120) y (amF m55 m56).1)) → (∃ b69 : Nat, o64 = some b69 ∧ (hK S59 b69 = 13 → (∃ (m71 : Nat → Int32) (m72 : Nat) (m73 : PS), ((RdO S59 q25 m71 m72 m73) ∧ (((b2i (m73.2 || decide (m73.1 < m72))) = 0 → ((1 ≤ ((mc - 1) - cc52) ∧ 11 ≤ ((ms - 4) - cc53)) ∧ (∀ q80 : Nat, hK S59 q80 = 0 → zr S59 q80 → (∀ S90 : HS, S90 = newO S59 q80 10 → (∃ cc99 cc100 : Nat, (cc99 ≤ (((mc - 1) - cc52) - 1) ∧ cc100 ≤ (((ms - 4) - cc53) - 11)) ∧ (∃ (m102 : (Nat → Prop)) (m103 : Nat → Int32) (m104 : Nat), ((WF m103 ∧ m104 < 6 ∧ RelV S90 m102 b22 m103 m104 ∧ b22 ≠ q80 ∧ ¬ m102 q80 ∧ (∀ b, m102 b → hK S90 b ≠ 0) ∧ 32 ≤ cc99 ∧ 181 ≤ cc100) ∧ (∀ (S106 : HS), ext S90 S106 → (frM S90 S106 (fun b => b = q80) ∧ RelV S106 m102 q80 m103 m104 ∧ ∃ a, OwV S106 q80 a ∧ ∀ i, 0 < i → i < 33 → hK S90 (a i) = 0) → (∃ k196 : Nat, wp_X10_amend_82 T  P X k196 x0 p0 b69 q80 0 S106 ((((mc - 1) - cc52) - 1) - cc99) ((((ms - 4) - cc53) - 11) - cc100)))))))))) ∧ (¬ (b2i (m73.2 || decide (m73.1 < m72))) = 0 → (P ((-100) - (hI S59 82 q25)) S59)))))))))))))))))))))))))
set_option maxRecDepth 100000 in
set_option maxHeartbeats 4000000 in
theorem t_X10_amend {p : Program} {l : Launch} {e : Env} {s : State} {m : MethodId} {args : Array Value} {below : List Frame} {meth : Method} {c : Code} {D : va_G} {A : Nat → Prop} {T : Nat → ClassId} (C : GC p s m args meth c cX10_amend "FreightRater" (ws_X10_amend) 8 D A (zty T)) (E : GE T A s) (hst : l.stackTraces = false) (htab : ∀ z ∈ c.exceptionTable.toList, False) (hr : meth.sig.returnType = (some .int)) (P : Int32 → HS → Prop) (X : String → HS → Prop) : ∀ (x0 : Nat) (p0 : Int32) (S0 S : HS) (mc ms : Nat) (L : List Nat), S0 = S → wt S → hL S L → (hK S x0 = 11) → wp_X10_amend T P X x0 p0 S mc ms → GW p l e { rm_X10_amend with cells := mc, slots := ms } s m args below meth c D A 8 mc ms (vx_MQ below (va_Qi (fun v (u : HS × List Nat) => P v u.1 ∧ CO S0 u) (CE D T A) A) (CXX D T A S0 X) args s mc ms A) (CW T S L) mc ms 0 [(0, .ref x0), (1, .int p0)] [] := by
  have hW : ∀ {w : Cond}, w ∈ W0 → w.before args s = true := fun h => C.2.2.2.2.1 _ (List.mem_cons_of_mem _ h)
  intro x0 p0 S0 S mc ms L hS0 hw hL hx0 h
  have he : ext S0 S := by rw [hS0]; exact ext_rf
  unfold wp_X10_amend at h
  refine g_aload_n C dX10_amend_0 rfl 0 rfl ?_
  refine gc_getI C iwx_X10 hL hx0 (by decide) (by decide) rfl 7 (by decide) (hW kw_249) rfl rfl rfl dX10_amend_1 ?_
  refine g_topi (fun v1 ev1 => ?_)
  replace h := h v1 ev1
  refine g_istore_n (lv' := [(2, .int v1), (0, .ref x0), (1, .int p0)]) C dX10_amend_4 rfl (by decide) rfl ?_
  refine g_aload_n C dX10_amend_5 rfl 1 rfl ?_
  refine g_iconst (v := 0) C dX10_amend_6 (by decide) ?_
  refine gc_putI C iwx_X10 hL hx0 (by decide) (by decide) rfl 7 (by decide) (hW kw_249) rfl tyX10 tyX10_ok nmX10 rfl rfl rfl rfl rfl dX10_amend_7 ?_
  have w2 := wt_putI hw 227 0 (k_ne hx0 (by decide))
  refine gc_nS (fun S3 eS3 => ?_)
  replace h := h S3 eS3
  have w4 : wt S3 := by rw [eS3]; exact w2
  have w5 : isL S3 L := by rw [eS3]; exact hL
  have w6 : ext S0 S3 := by rw [eS3]; exact he
  have g7 : hK S3 x0 = 11 := by rw [eS3]; exact hx0
  refine g_aload_n C dX10_amend_10 rfl 1 rfl ?_
  refine gc_getR C w4 iwx_X10 w5 g7 (by decide) (by decide) rfl 0 (by decide) (hW kw_242) rfl rfl rfl dX10_amend_11 (fun o8 eo8 ko8 => ?_)
  obtain ⟨b9, hb9, h⟩ := h
  have g10 : hK S3 b9 = 7 := ko8 b9 (eo8.trans hb9)
  replace h := h g10
  refine g_opt (eo8.trans hb9) ?_
  refine g_iload_n C dX10_amend_14 rfl 2 rfl ?_
  obtain ⟨m11, m12, h⟩ := h
  obtain ⟨g13, h⟩ := h
  refine gc_callqV (host := "") C E w4 w5 g10 (by decide) (by decide) rfl [.int p0] rfl (k_X6_versionAt l D T b9 p0 S3 m11 m12 g10 g13) (w0_V 1 C.2.2.2.2.1 kw_460 kw_461 kw_462 kw_2 kw_463 rfl rfl (by decide +kernel) ⟨Nat.le_of_ble_eq_true rfl, Nat.le_of_ble_eq_true rfl⟩) rfl (Nat.le_of_ble_eq_true rfl) (Nat.le_refl _) (Nat.le_refl _) (Nat.zero_le _) (Nat.zero_le _) dX10_amend_15 (fun o19 S14 L15 e16 w17 w18 ko19 hp => ?_)
  replace h := h o19 S14 e16 ko19 hp
  have g20 := ext_K e16 g7 (by decide)
  have w21 := ext_tr w6 e16
  refine g_qstore_n (lv' := [(3, va_rf o19), (2, .int v1), (0, .ref x0), (1, .int p0)]) C dX10_amend_18 rfl (by decide) rfl ?_
  refine g_qload_n C dX10_amend_19 rfl 0 rfl ?_
  rcases o19 with _ | b22
  · replace h := h.1 rfl
    refine g_ifnonnullN C dX10_amend_20 ?_
    obtain ⟨g24, h⟩ := h
    exact gx_throw (cls := "java/lang/IndexOutOfBoundsException") (names := ["java/lang/RuntimeException", "java/lang/Exception"]) C E hst w17 w18 w21 (Nat.le_refl _) (Nat.le_refl _) (by decide) (by decide) (hW kw_465) (hW kw_16) (th_FreightRater_72 hW E) tv_FreightRater_72 dX10_amend_23 dX10_amend_26 dX10_amend_27 dX10_amend_30 htab (Nat.le_of_ble_eq_true rfl) (Nat.le_of_ble_eq_true rfl) g24.1 g24.2 h
  · have g23 : hK S14 b22 = 10 := ko19 b22 rfl
    replace h := h.2 b22 rfl g23
    refine g_ifnonnull (tgt := 31) C dX10_amend_20 (by decide) ?_
    obtain ⟨g26, h⟩ := h
    refine gc_new (kd := 4) (N := 4) C E w17 w18 (Nat.le_refl _) (Nat.le_refl _) iwx_X3 tyX3 tyX3_ok (by decide) (by decide) rfl (fun j hj => by rcases (show j = 0 ∨ j = 1 ∨ j = 2 ∨ j = 3 by omega) with rfl | rfl | rfl | rfl <;> rfl) (hW kw_536) (hW kw_537) (hW kw_19) g26.1 g26.2 dX10_amend_31 (fun q25 h0q25 zq25 => ?_)
    replace h := h q25 h0q25 zq25
    have g27 := newO_old 4 g23 (by decide) h0q25
    have g28 := newO_old 4 g20 (by decide) h0q25
    have w29 := wt_newO w17 4 h0q25 (by decide)
    have w30 := hL_new (S' := newO S14 q25 4) w18 (show 4 ≠ 0 by decide) rfl
    have w31 := ext_newO w21 h0q25 4
    have g32 := newO_self S14 q25 4
    refine gc_nS (fun S33 eS33 => ?_)
    replace h := h S33 eS33
    have w34 : wt S33 := by rw [eS33]; exact w29
    have w35 : isL S33 (L15 ++ [q25]) := by rw [eS33]; exact w30
    have w36 : ext S0 S33 := by rw [eS33]; exact w31
    have g37 : hK S33 q25 = 4 := by rw [eS33]; exact g32
    have g38 : hK S33 b22 = 10 := by rw [eS33]; exact g27
    have g39 : hK S33 x0 = 11 := by rw [eS33]; exact g28
    refine g_dup C dX10_amend_34 rfl ?_
    refine g_aload_n C dX10_amend_35 rfl 2 rfl ?_
    refine gc_getR C w34 iwx_X10 w35 g39 (by decide) (by decide) rfl 6 (by decide) (hW kw_248) rfl rfl rfl dX10_amend_36 (fun o40 eo40 ko40 => ?_)
    obtain ⟨b41, hb9, h⟩ := h
    have g42 : hK S33 b41 = 21 := ko40 b41 (eo40.trans hb9)
    replace h := h g42
    refine g_opt (eo40.trans hb9) ?_
    refine g_iload_n C dX10_amend_39 rfl 1 rfl ?_
    refine gc_callvI (host := "") (ret := none) C E w34 w35 [.ref b41, .int v1] rfl (k_X3_init l D T q25 b41 v1 S33 g37 g42) (w0_I 2 C.2.2.2.2.1 kw_538 kw_539 kw_19 kw_540 rfl rfl rfl (by decide +kernel) ⟨Nat.le_of_ble_eq_true rfl, Nat.le_of_ble_eq_true rfl⟩) rfl (Nat.le_of_ble_eq_true rfl) (Nat.le_refl _) (Nat.le_refl _) (Nat.zero_le _) (Nat.zero_le _) dX10_amend_40 (fun S43 L44 e45 w46 w47 hp => ?_)
    replace h := h S43 e45 hp
    have g48 := ext_K e45 g37 (by decide)
    have g49 := ext_K e45 g38 (by decide)
    have g50 := ext_K e45 g39 (by decide)
    have w51 := ext_tr w36 e45
    refine g_astore (lv' := [(4, .ref q25), (3, .ref b22), (2, .int v1), (0, .ref x0), (1, .int p0)]) C dX10_amend_43 (by decide) rfl ?_
    refine g_aload C dX10_amend_45 0 rfl ?_
    obtain ⟨cc52, cc53, g54, h⟩ := h
    obtain ⟨m55, m56, m57, h⟩ := h
    obtain ⟨g58, h⟩ := h
    refine gc_callqV (host := "") C E w46 w47 g48 (by decide) (by decide) rfl [] rfl (k_X3_readText l D T q25 S43 m55 m56 m57 cc52 cc53 g48 g58) (w0_V 0 C.2.2.2.2.1 kw_557 kw_558 kw_559 kw_19 kw_560 rfl rfl (by decide +kernel) ⟨Nat.le_of_ble_eq_true rfl, Nat.le_of_ble_eq_true rfl⟩) rfl (Nat.le_of_ble_eq_true rfl) (Nat.le_refl _) (Nat.le_refl _) g54.1 g54.2 dX10_amend_47 (fun o64 S59 L60 e61 w62 w63 ko64 hp => ?_)
    replace h := h o64 S59 e61 ko64 hp
    have g65 := ext_K e61 g48 (by decide)
    have g66 := ext_K e61 g49 (by decide)
    have g67 := ext_K e61 g50 (by decide)
    have w68 := ext_tr w51 e61
    obtain ⟨b69, rfl, h⟩ := h
    have g70 : hK S59 b69 = 13 := ko64 b69 rfl
    replace h := h g70
    refine g_astore (lv' := [(5, .ref b69), (4, .ref q25), (3, .ref b22), (2, .int v1), (0, .ref x0), (1, .int p0)]) C dX10_amend_50 (by decide) rfl ?_
    refine g_aload C dX10_amend_52 1 rfl ?_
    obtain ⟨m71, m72, m73, h⟩ := h
    obtain ⟨g74, h⟩ := h
    refine gc_calliV (host := "") C E w62 w63 g65 (by decide) (by decide) rfl [] rfl (k_X3_hasFault l D T q25 S59 m71 m72 m73 g65 g74) (w0_V 0 C.2.2.2.2.1 kw_871 kw_872 kw_873 kw_19 kw_874 rfl rfl (by decide +kernel) ⟨Nat.le_of_ble_eq_true rfl, Nat.le_of_ble_eq_true rfl⟩) rfl (Nat.le_of_ble_eq_true rfl) (Nat.le_refl _) (Nat.le_refl _) (Nat.zero_le _) (Nat.zero_le _) dX10_amend_54 (fun v9 S9 L75 he9 hw9 hL9 hp => ?_)
    obtain ⟨hv9, hs9⟩ := hp
    replace hs9 := hs9.symm
    subst hs9
    replace hv9 := hv9.symm
    subst hv9
    have w78 := hL9
    refine g_if_eq (tgt := 69) C dX10_amend_57 (by decide) (fun z79 => ?_) (fun z79 => ?_)
    · replace h := h.1 z79
      obtain ⟨g81, h⟩ := h
      refine gc_new (kd := 10) (N := 11) C E w62 w78 (Nat.le_refl _) (Nat.le_refl _) iwx_X9 tyX9 tyX9_ok (by decide) (by decide) rfl (fun j hj => by rcases (show j = 0 ∨ j = 1 ∨ j = 2 ∨ j = 3 ∨ j = 4 ∨ j = 5 ∨ j = 6 ∨ j = 7 ∨ j = 8 ∨ j = 9 ∨ j = 10 by omega) with rfl | rfl | rfl | rfl | rfl | rfl | rfl | rfl | rfl | rfl | rfl <;> rfl) (hW kw_378) (hW kw_379) (hW kw_14) g81.1 g81.2 dX10_amend_69 (fun q80 h0q80 zq80 => ?_)
      replace h := h q80 h0q80 zq80
      have g82 := newO_old 10 g70 (by decide) h0q80
      have g83 := newO_old 10 g65 (by decide) h0q80
      have g84 := newO_old 10 g66 (by decide) h0q80
      have g85 := newO_old 10 g67 (by decide) h0q80
      have w86 := wt_newO w62 10 h0q80 (by decide)
      have w87 := hL_new (S' := newO S59 q80 10) w78 (show 10 ≠ 0 by decide) rfl
      have w88 := ext_newO w68 h0q80 10
      have g89 := newO_self S59 q80 10
      refine gc_nS (fun S90 eS90 => ?_)
      replace h := h S90 eS90
      have w91 : wt S90 := by rw [eS90]; exact w86
      have w92 : isL S90 (L75 ++ [q80]) := by rw [eS90]; exact w87
      have w93 : ext S0 S90 := by rw [eS90]; exact w88
      have g94 : hK S90 q80 = 10 := by rw [eS90]; exact g89
      have g95 : hK S90 b69 = 13 := by rw [eS90]; exact g82
      have g96 : hK S90 q25 = 4 := by rw [eS90]; exact g83
      have g97 : hK S90 b22 = 10 := by rw [eS90]; exact g84
      have g98 : hK S90 x0 = 11 := by rw [eS90]; exact g85
      refine g_dup C dX10_amend_72 rfl ?_
      refine g_aload_n C dX10_amend_73 rfl 2 rfl ?_
      obtain ⟨cc99, cc100, g101, h⟩ := h
      obtain ⟨m102, m103, m104, h⟩ := h
      obtain ⟨g105, h⟩ := h
      refine gc_callvI (host := "") (ret := none) C E w91 w92 [.ref b22] rfl (k_X9_init_ l D T q80 b22 S90 m102 m103 m104 cc99 cc100 g94 g97 g105) (w0_I 1 C.2.2.2.2.1 kw_502 kw_503 kw_14 kw_504 rfl rfl rfl (by decide +kernel) ⟨Nat.le_of_ble_eq_true rfl, Nat.le_of_ble_eq_true rfl⟩) rfl (Nat.le_of_ble_eq_true rfl) (Nat.le_refl _) (Nat.le_refl _) g101.1 g101.2 dX10_amend_74 (fun S106 L107 e108 w109 w110 hp => ?_)
      replace h := h S106 e108 hp
      have g111 := ext_K e108 g94 (by decide)
      have g112 := ext_K e108 g95 (by decide)
      have g113 := ext_K e108 g96 (by decide)
      have g114 := ext_K e108 g97 (by decide)
      have g115 := ext_K e108 g98 (by decide)
      have w116 := ext_tr w93 e108
      refine g_astore (lv' := [(6, .ref q80), (5, .ref b69), (4, .ref q25), (3, .ref b22), (2, .int v1), (0, .ref x0), (1, .int p0)]) C dX10_amend_77 (by decide) rfl ?_
      refine g_iconst (v := 0) C dX10_amend_79 (by decide) ?_
      refine g_istore (lv' := [(7, .int 0), (6, .ref q80), (5, .ref b69), (4, .ref q25), (3, .ref b22), (2, .int v1), (0, .ref x0), (1, .int p0)]) C dX10_amend_80 (by decide) rfl ?_
      refine g_locals [6, 7, 2, 1, 0] rfl ?_
      obtain ⟨k196, h⟩ := h
      refine t_X10_amend_82 C E hst htab hr S0  P X  k196 x0 p0 b69 q80 0 S106 ((((mc - 1) - cc52) - 1) - cc99) ((((ms - 4) - cc53) - 11) - cc100) L107 w109 w110 w116 g115 g112 g111 h
    · replace h := h.2 z79
      refine g_bipush (v := -100) C dX10_amend_60 (by decide) ?_
      refine g_aload C dX10_amend_62 1 rfl ?_
      refine gc_getI C iwx_X3 w78 g65 (by decide) (by decide) rfl 2 (by decide) (hW kw_546) rfl rfl rfl dX10_amend_64 ?_
      refine g_isub C dX10_amend_67 ?_
      exact gx_iret C w62 w78 w68 hr dX10_amend_68 h
theorem c_X10_amend (l : Launch) (hst : l.stackTraces = false) (D : va_G) (T : Nat → ClassId) (x0 : Nat) (p0 : Int32) (S : HS) (mc ms : Nat) (hx0 : hK S x0 = 11) (P : Int32 → HS → Prop) (X : String → HS → Prop) (h : wp_X10_amend T P X x0 p0 S mc ms) : CXi l yX10_amend (ws_X10_amend) rm_X10_amend D T [.ref x0, .int p0] S mc ms P X := gx_meti (by decide) rfl rfl (Nat.le_of_ble_eq_true rfl) (fun p e s m args below meth c A L C E hnm hr htab hw hL => t_X10_amend C E hst htab hr P X x0 p0 S S mc ms L rfl hw hL hx0 h)
theorem fxK_13 (i : Nat) : fxK i ≠ 13 := by
  unfold fxK
  repeat' split
  all_goals decide
theorem fxK_30 (i : Nat) : fxK i ≠ 30 := by
  unfold fxK
  repeat' split
  all_goals decide
theorem OwV.nk {S : HS} {x : Nat} {a : Nat → Nat} (h : OwV S x a) {b : Nat} (hb : hK S b = 8 ∨ hK S b = 13 ∨ hK S b = 30) : ¬ owA a b := fun ⟨i, hi, e⟩ => by
  have := okd_n (h.2.2.2.2.2.2.2.1 i hi).symm
  rw [← e] at this
  omega
theorem StmR.ow {S S1 : HS} {M : Nat → Prop} {s x : Nat} {a : Nat → Nat} {y : STM} (h : StmR S M s y) (hO : OwV S x a) (hf : frM S S1 (owA a)) (ks : hK S s = 8) : StmR S1 M s y := by
  obtain ⟨_, _, e, r, _⟩ := hf s (hO.nk (Or.inl ks)) (nz_of ks (by decide))
  obtain ⟨h1, h2, h3, h4, h5, h6⟩ := h
  refine ⟨by rw [e]; exact h1, fun z => by rw [e]; exact h2 z, fun z => by rw [e]; exact h3 z, fun z => by rw [e]; exact h4 z, fun z => by rw [e]; exact h5 z, fun z => ?_⟩
  obtain ⟨t, t1, t2⟩ := h6 z
  exact ⟨t, by rw [r]; exact t1, t2.km (fun b hb => hO.ac hf hb)⟩
theorem rl_a82 {T : Nat → ClassId} {P : Int32 → HS → Prop} {X : String → HS → Prop} {S0 : HS} {a : Nat → Nat} {mu : Nat → Nat → Int32} {g b : Nat → Int32} {sh : List Int32} {y q v kc ks : Nat} {ys aw : Nat → Nat} {p0 : Int32} {L : List STM} (h0 : FrS S0 a mu g b sh) (hv : v < 6) (ep : p0 = nI v) (hL : ∀ x, x ∈ L → stW x ∧ rsO x) (hLn : L.length ≤ 100) (o0 : ∀ i, i < 33 → hK S0 (aw i) = 0) (hkc : 1 ≤ kc) (hks : 6 ≤ ks) (hX : ∀ S1 i, (amG v L 0 (mu 0)).1 = some i → FrS S1 a mu (fun j => if j = 229 then nI i else g j) b sh → X "java/lang/UnsupportedOperationException" S1) (hP : ∀ S1, (amG v L 0 (mu 0)).1 = none → FrS S1 a (fun t => if t = 0 then (amG v L 0 (mu 0)).2 else rmU mu g t) (rmG g) b sh → P (nI L.length) S1) : ∀ (l : List STM) (i fuel : Nat) (μ : Nat → Int32) (S : HS), i + l.length = L.length → (∀ j x, l[j]? = some x → L[i + j]? = some x) → l.length < fuel → amG v l i μ = amG v L 0 (mu 0) → ext S0 S → frM S0 S (fun _ => False) → GWF μ → (∀ k, k < 274 + 510 * v ∨ 274 + 510 * v + 510 ≤ k → μ k = mu 0 k) → RelV S (fxM a) q μ v → OwV S q aw → LiO S (T 120) y L.length 8 ys → (∀ j x, L[j]? = some x → StmR S (fxM a) (ys j) x) → wp_X10_amend_82 T P X fuel (a 50) p0 y q (nI i) S kc ks := by
  intro l
  induction l with
  | nil =>
    intro i fuel μ S hi hl hf hR he hm hG hc Rq OW LO hY
    have i0 : i = L.length := hi
    have H := h0.nw he hm
    have LO9 := LO
    obtain ⟨k13, i62, ar, r61, k30, _⟩ := LO9
    obtain ⟨f, rfl⟩ : ∃ f, fuel = f + 1 := ⟨fuel - 1, by omega⟩; rw [wp_X10_amend_82]; unfold wb_X10_amend_82; dsimp only
    rw [i62, nI_leI (by omega) (by omega)]
    refine ⟨fun _ => ⟨a, mu, g, b, sh, ⟨H, rfl⟩, fun S128 he128 h128 => ?_⟩, fun c => absurd (by omega) c⟩
    obtain ⟨H128, f128, k128, r128, s128⟩ := h128
    refine ⟨a 0, H128.r0, fun _ => ⟨a 1, H128.s1, fun _ => ⟨?_, fun S145 e145 => ?_⟩⟩⟩
    · rw [H128.n1, ep, nz_vp (by omega) (by decide)]; exact hv
    rw [ep, show (nI v).toNatClampNeg = v from nI_clamp (by omega)] at e145
    have yM : ¬ fxM a y := fun ⟨j, hj, e⟩ => by
      have := H.1.1 j hj
      rw [← e, k13] at this
      exact fxK_13 j this.symm
    have i145 : hI S145 262 y = nI L.length := by
      rw [e145, px_IB, (f128 y yM (nz_of k13 (by decide))).2.2.1]
      exact i62
    rw [i145]
    have eR1 : (amG v L 0 (mu 0)).1 = none := by rw [← hR]; rfl
    have eR2 : (amG v L 0 (mu 0)).2 = μ := by rw [← hR]; rfl
    refine hP S145 eR1 ?_
    rw [eR2]
    have f145 : frM S128 S145 (fxM a) := by
      rw [e145]
      exact frM.pB (M := fxM a) frM.rf ⟨1, by omega, rfl⟩ _ _
    have Rq145 := (Rq.fm f128).fm f145
    refine H128.st (s := 0) (by omega) (by rw [e145]; exact ext_rf) (by rw [e145]; exact frM.rf.pB (Or.inr (Or.inl H128.s1)) _ _) (fun i _ j => by rw [e145, px_RB]) hG ?_
    have en0 : μ 0 = mu 0 0 := hc 0 (by omega)
    refine H128.now.2.vs H128.now.1 H128.s1 f145 (by rw [e145, px_KB]) (by rw [e145, px_NB]) (by rw [e145, px_RB]) (fun i hi => by rw [e145, px_IB]) (by rw [e145, px_IB, H128.now.2.1.2.1, rmU_0, en0]) (by rw [e145, px_AB]) (fun c9 hc9 => by rw [e145]; exact putB_o _ _ _ hc9) (fun k h1 h2 => by rw [rmU_0]; exact hc k (by omega)) (fun t ht => ?_)
    rw [en0] at ht
    obtain ⟨n, hn, en⟩ := H128.now.1.1
    rw [rmU_0] at en
    have ht9 := ht
    rw [en, show iv (nI n) = n from nI_clamp (by omega)] at ht9
    rw [e145, px_BB]
    rw [← e145]
    by_cases c9 : t = v
    · subst c9
      exact ⟨q, by rw [if_pos ⟨rfl, rfl⟩], Rq145⟩
    · obtain ⟨c', r, _, _, hh⟩ := H128.now.2.2.1
      have ec : c' = a 1 := Option.some.inj (r.symm.trans H128.s1)
      rw [ec] at hh
      obtain ⟨u, u1, u2⟩ := hh t (by rw [rmU_0]; exact ht)
      have t6 : t < 6 := by omega
      exact ⟨u, by rw [if_neg (fun z => c9 z.2)]; exact u1, (u2.fm f145).cg (fun k hk => by rw [rmU_0]; exact hc _ (by omega)) (H128.now.1.rng t6) (fun z z1 z9 => H128.now.1.brk t6 z1 z9) (H128.now.1.v30 t6)⟩
  | cons x l ih =>
    intro i fuel μ S hi hl hf hR he hm hG hc Rq OW LO hY
    rw [List.length_cons] at hi hf
    have H := h0.nw he hm
    have hxL : L[i]? = some x := hl 0 x rfl
    have hxm := hL x (List.mem_of_getElem? hxL)
    have LO9 := LO
    obtain ⟨k13, i62, ar, r61, k30, ln, _, _, hb, _⟩ := LO9
    obtain ⟨f, rfl⟩ : ∃ f, fuel = f + 1 := ⟨fuel - 1, by omega⟩; rw [wp_X10_amend_82]; unfold wb_X10_amend_82; dsimp only
    rw [i62, nI_leI (by omega) (by omega)]
    refine ⟨fun c => absurd c (by omega), fun _ => ⟨⟨ar, L.length, i, r61, k30, rfl, by omega, by omega, ln, rfl, ys i, (hb i (by omega)).1, (hb i (by omega)).2⟩, fun o S157 he157 ho h157 => ?_⟩⟩
    obtain ⟨eS, ar', r', eo⟩ := h157
    rw [eS]
    have ea : ar' = ar := Option.some.inj (r'.symm.trans r61)
    rw [ea, show iv (nI i) = i from nI_clamp (by omega), (hb i (by omega)).1] at eo
    refine ⟨ys i, eo, fun k8 => ⟨fxM a, μ, v, aw, x, ⟨⟨⟨hG.1, hv, Rq⟩, OW⟩, hxm.1, hY i x hxL⟩, fun v180 S175 he175 h175 => ?_⟩⟩
    obtain ⟨e180, hR9, f175, OW9⟩ := h175
    have f175' : frM S0 S175 (fun _ => False) := hm.nw f175 (fun b9 hb9 ⟨j, hj, e⟩ => hb9 (by rw [e]; exact o0 j hj))
    have he9 := ext_tr he he175
    have k8' : ∀ j, j < L.length → hK S (ys j) = 8 := fun j hj => (hb j hj).2
    refine ⟨fun c v186 e186 => ?_, fun c S188 e188 => ⟨⟨hkc, hks⟩, ?_⟩⟩
    · have hB : crBx μ v x = true := by
        cases z : crBx μ v x with
        | true => rfl
        | false => rw [e180, z] at c; exact absurd rfl c
      rw [amG, if_pos hB] at hR
      rw [e186, show nI i + 1 = nI (i + 1) from nI_add i 1]
      refine ih (i + 1) f (crSx μ v x) S175 (by omega) (fun j z hz => ?_) (by omega) hR he9 f175' (cr_gw hG hv hxm.1 hxm.2 hB) (fun k hk => (cr_kp hG.1 hv hxm.1 hB hk).trans (hc k hk)) (hR9 hB) OW9 (LO.fx f175 he175 (OW.nk (Or.inr (Or.inl k13))) (fun ar9 h9 => by rw [← Option.some.inj (r61.symm.trans h9)]; exact OW.nk (Or.inr (Or.inr k30))) (by decide)) (fun j z hz => (hY j z hz).ow OW f175 (k8' j (List.getElem?_eq_some_iff.mp hz).1))
      have := hl (j + 1) z hz
      rw [show i + 1 + j = i + (j + 1) by omega]
      exact this
    · have hB : ¬ crBx μ v x = true := fun z => by rw [e180, z] at c; exact absurd c (by decide)
      rw [amG, if_neg hB] at hR
      refine hX S188 i (by rw [← hR]) ((h0.nw he9 f175').ob e188 (fun j _ => rfl) ?_)
      exact h0.2.2.1
theorem k_X10_amend (l : Launch) (hst : l.stackTraces = false) (D : va_G) (T : Nat → ClassId) (x0 : Nat) (p0 : Int32) (S : HS) (e0 : (Nat → Nat)) (e1 : (Nat → Nat → Int32)) (e2 : (Nat → Int32)) (e3 : (Nat → Int32)) (e4 : (List Int32)) (mc ms : Nat) (hx0 : hK S x0 = 11) (h : FrS S e0 e1 e2 e3 e4 ∧ x0 = e0 50 ∧ hK S (T 120) = 30 ∧ hN S (T 120) = 0 ∧ 210 ≤ mc ∧ 12400 ≤ ms) : CXi l yX10_amend (ws_X10_amend) rm_X10_amend D T [.ref x0, .int p0] S mc ms (fun v S1 => (¬ zin p0 0 (e1 0 0 - 1) = 0 ∧ ((amZ e2 e3 = true ∧ v = (-100) - nI (amA e2 e3).2.1 ∧ FrS S1 e0 e1 (amU e2) e3 e4) ∨ (amZ e2 e3 = false ∧ (amG (iv p0) (amA e2 e3).1 0 (e1 0)).1 = none ∧ v = nI (amA e2 e3).1.length ∧ FrS S1 e0 (fun t => if t = 0 then (amG (iv p0) (amA e2 e3).1 0 (e1 0)).2 else rmU e1 (amU e2) t) (rmG (amU e2)) e3 e4)))) (fun E9 S1 => (E9 = "java/lang/IndexOutOfBoundsException" ∧ zin p0 0 (e1 0 0 - 1) = 0 ∧ FrS S1 e0 e1 (amU e2) e3 e4) ∨ (E9 = "java/lang/UnsupportedOperationException" ∧ ¬ zin p0 0 (e1 0 0 - 1) = 0 ∧ amZ e2 e3 = false ∧ ∃ i, (amG (iv p0) (amA e2 e3).1 0 (e1 0)).1 = some i ∧ FrS S1 e0 e1 (fun j => if j = 229 then nI i else amU e2 j) e3 e4)) := c_X10_amend l hst D T x0 p0 S mc ms hx0 _ _ <|
  (by
    obtain ⟨h, e, k120, n120, hmc, hms⟩ := h
    subst e
    obtain ⟨⟨pe, pc, len, g1, g2, g3, g4, g5, g6, g7⟩, gz⟩ := h.2.2.1
    have il : iv (e2 227) = len := by rw [g6]; exact nI_clamp (by omega)
    subst il
    unfold wp_X10_amend
    intro w1 hw1 S3 hS3
    have iw : w1 = nI (iv (e2 227)) := hw1.trans ((h.2.2.2.1 227 (by unfold frI; omega)).trans g6)
    have H3 : FrS S3 e0 e1 (amU e2) e3 e4 := h.ob hS3 (fun j _ => rfl) ⟨⟨pe, pc, 0, g1, g2, by omega, g4, g5, rfl, fun i hi => absurd hi (by omega)⟩, gz⟩
    have kS3 : hK S3 (T 120) = 30 := by rw [hS3, px_KI]; exact k120
    have nS3 : hN S3 (T 120) = 0 := by rw [hS3, px_NI]; exact n120
    clear h hw1 hS3
    refine ⟨e0 0, H3.r0, fun _ => ⟨fxM e0, e1 0, H3.now, fun o S14 _ ho h14 => ?_⟩⟩
    obtain ⟨eS, hno, hso⟩ := h14
    rw [eS]
    refine ⟨fun eo => ⟨⟨by omega, by omega⟩, Or.inl ⟨rfl, ?_, H3⟩⟩, fun b22 eb kb => ⟨⟨by omega, by omega⟩, fun q q0 qz S33 e33 => ?_⟩⟩
    · exact Classical.byContradiction (fun z => by obtain ⟨y, ey, _⟩ := hso z; rw [eo] at ey; cases ey)
    have nz : ¬ zin p0 0 (e1 0 0 - 1) = 0 := fun z => by
      have := hno z
      rw [eb] at this
      cases this
    obtain ⟨y0, ey0, R0⟩ := hso nz
    have ey1 : y0 = b22 := Option.some.inj (ey0.symm.trans eb)
    subst ey1
    obtain ⟨v6, vn, ev⟩ := zv H3.now.1 nz
    have f33 : frM S3 S33 (fun _ => False) := by rw [e33]; exact frM.rf.nO ext_rf q0 4
    have x33 : ext S3 S33 := by rw [e33]; exact ext_newO ext_rf q0 4
    have H33 := H3.nw x33 f33
    have n52 : hN S33 (e0 52) = 80 := H33.1.2.1 52 (by omega) (by unfold fxA; omega)
    refine ⟨e0 52, H33.r6, fun _ S43 he43 e43 => ?_⟩
    have f43 : frM S33 S43 (fun c => c = q) := by
      rw [e43]
      exact (frM.pR (M := fun c => c = q) frM.rf rfl _ _).pI (M := fun c => c = q) rfl _ _
    have f43' : frM S3 S43 (fun _ => False) := f33.nw f43 (fun b9 hb z => hb (by rw [z]; exact q0))
    have x43 := ext_tr x33 he43
    have H43 := H3.nw x43 f43'
    have Rd : RdO S43 q e3 (iv (e2 227)) (0, false) := by
      refine ⟨?_, ?_, Nat.zero_le _, ?_, g3, e0 52, ?_, H43.1.1 52 (by omega), H43.1.2.1 52 (by omega) (by unfold fxA; omega), fun i hi => H43.2.2.2.2.1 i (by omega)⟩
      · rw [e43, px_II, if_neg (by omega), px_IR, e33, px_IO]; exact qz.1 82
      · rw [e43, px_II, if_neg (by omega), px_IR, e33, px_IO]; exact qz.1 83
      · rw [e43, px_II, if_pos ⟨rfl, rfl⟩, n52, iw]
        show (if nI 80 < nI (iv (e2 227)) then nI 80 else nI (iv (e2 227))) = nI (iv (e2 227))
        rw [if_neg (fun z => by have := (nI_ltI (by omega) (by omega)).mp z; omega)]
      · rw [e43, px_RI, px_RR, if_pos ⟨rfl, rfl⟩]
    have bC : budC (amF e3 (iv (e2 227))).1 ≤ 2 * iv (e2 227) + 9 := (am_bud (b := e3) (n := iv (e2 227)) 81 (0, false) (Nat.zero_le _)).1
    have bS : budS (amF e3 (iv (e2 227))).1 ≤ 138 * iv (e2 227) + 1088 := (am_bud (b := e3) (n := iv (e2 227)) 81 (0, false) (Nat.zero_le _)).2
    have s120 := f43' (T 120) (fun z => z) (nz_of kS3 (by decide))
    have tM : ¬ fxM e0 (T 120) := fun ⟨j, hj, e⟩ => by
      have := H3.1.1 j hj
      rw [← e, kS3] at this
      exact fxK_30 j this.symm
    refine ⟨1 + budC (amF e3 (iv (e2 227))).1, 3 + budS (amF e3 (iv (e2 227))).1, ⟨by omega, by omega⟩, e3, iv (e2 227), fxM e0, ⟨Rd, g7, s120.1.trans kS3, s120.2.1.trans nS3, H3.1.xM x43, tM, Nat.le_refl _, Nat.le_refl _⟩, fun o64 S59 he59 ho59 h59 => ?_⟩
    obtain ⟨f59, Rd59, y, ey, yz, hT⟩ := h59
    have f59' : frM S3 S59 (fun _ => False) := f43'.nw f59 (fun b9 hb z => hb (by rw [z]; exact q0))
    have x59 := ext_tr x43 he59
    have H59 := H3.nw x59 f59'
    refine ⟨y, ey, fun ky => ⟨e3, iv (e2 227), (amF e3 (iv (e2 227))).2, Rd59, fun cz => ⟨⟨by omega, by omega⟩, fun q9 q90 q9z S90 e90 => ?_⟩, fun cz => ⟨nz, Or.inl ⟨?_, ?_, H59⟩⟩⟩⟩
    rotate_left
    · show ((amF e3 (iv (e2 227))).2.2 || decide ((amF e3 (iv (e2 227))).2.1 < iv (e2 227))) = true
      cases z : ((amF e3 (iv (e2 227))).2.2 || decide ((amF e3 (iv (e2 227))).2.1 < iv (e2 227))) with
      | true => rfl
      | false => rw [z] at cz; exact absurd rfl cz
    · rw [Rd59.1]; rfl
    have zF : ((amF e3 (iv (e2 227))).2.2 || decide ((amF e3 (iv (e2 227))).2.1 < iv (e2 227))) = false := by
      cases z : ((amF e3 (iv (e2 227))).2.2 || decide ((amF e3 (iv (e2 227))).2.1 < iv (e2 227))) with
      | true => rw [z] at cz; exact absurd cz (by decide)
      | false => rfl
    have gf : (amF e3 (iv (e2 227))).2.2 = false := by
      cases z : (amF e3 (iv (e2 227))).2.2 with
      | true => rw [z] at zF; cases zF
      | false => rfl
    have f90 : frM S3 S90 (fun _ => False) := by rw [e90]; exact f59'.nO x59 q90 10
    have x90 : ext S3 S90 := by rw [e90]; exact ext_newO x59 q90 10
    have R90 := R0.fm (f90.sub (N := fxM e0) (fun _ z => z.elim))
    have bq : y0 ≠ q9 := fun z => by
      have := (R0.fm (f59'.sub (N := fxM e0) (fun _ z => z.elim))).1.1
      rw [z, q90] at this
      exact absurd this (by decide)
    refine ⟨32, 181, ⟨by omega, by omega⟩, fxM e0, e1 0, iv p0, ⟨H3.now.1, v6, R90, bq, H59.1.nM q90, H3.1.xM x90, Nat.le_refl _, Nat.le_refl _⟩, fun S106 he106 h106 => ?_⟩
    obtain ⟨f106, R106, aw, OW, o0⟩ := h106
    have f106' : frM S3 S106 (fun _ => False) := f90.nw f106 (fun b9 hb z => hb (by rw [z]; exact k0_of x59 q90))
    have x106 := ext_tr x90 he106
    have f5 : frM S59 S106 (fun _ => False) := by
      have f6 : frM S59 S90 (fun _ => False) := by rw [e90]; exact frM.rf.nO ext_rf q90 10
      exact f6.nw f106 (fun b9 hb z => hb (by rw [z]; exact q90))
    have x5 : ext S59 S106 := ext_tr (by rw [e90]; exact ext_newO ext_rf q90 10) he106
    obtain ⟨ys, LO, hY⟩ := hT gf
    have LO9 := LO
    obtain ⟨_, _, _, _, _, _, _, _, hb, _⟩ := LO9
    have hlen : (amF e3 (iv (e2 227))).1.length ≤ 100 := by
      have h1 : 0 + 2 * (amF e3 (iv (e2 227))).1.length ≤ (amF e3 (iv (e2 227))).2.1 + 1 := am_len (b := e3) (n := iv (e2 227)) 81 (0, false) (Nat.zero_le _) rfl gf
      have h2 := Rd59.2.2.1
      omega
    refine ⟨(amF e3 (iv (e2 227))).1.length + 1, rl_a82 (L := (amF e3 (iv (e2 227))).1) H3 v6 ev (fun x hx => ⟨am_gd g3 81 (0, false) (Nat.zero_le _) rfl gf x hx, am_rs 81 (0, false) x hx⟩) hlen (fun i hi => ?_) (by omega) (by omega) (fun S1 i hi h1 => Or.inr ⟨rfl, nz, zF, i, hi, h1⟩) (fun S1 hn h1 => ⟨nz, Or.inr ⟨zF, hn, rfl, h1⟩⟩) (amF e3 (iv (e2 227))).1 0 _ (e1 0) S106 (Nat.zero_add _) (fun j x hx => by rw [Nat.zero_add]; exact hx) (Nat.lt_succ_self _) rfl x106 f106' (H3.2.1 0 (by omega)).1 (fun _ _ => rfl) R106 OW (LO.fx f5 x5 (fun z => z) (fun _ _ z => z) (by decide)) (fun j x hx => ((hY j x hx).1.fm (f5.sub (N := fxM e0) (fun _ z => z.elim)) (hY j x hx).2 (nz_of (hb j (List.getElem?_eq_some_iff.mp hx).1).2 (by decide))))⟩
    rcases Nat.eq_zero_or_pos i with z | z
    · rw [z, OW.1]; exact k0_of x59 q90
    · exact k0_of x90 (o0 i z hi))

end S_CAJ
