section S_RMS
abbrev ws_X11_carries : List Cond := Cond.code yX11_carries cX11_carries 3 (some .boolean) :: W0
abbrev rm_X11_carries : Room := ({ frames := 3, cells := 0, slots := 0, locals := 70 } : Room)
def wp_X11_carries (P : Int32 → RST → Prop) (p0 : Int32) (p1 : Int32) (r : Nat → Int32) (q : Nat → Nat → Int32) : Prop := vp_in p1 640 ∧ (∀ v2 : Int32, v2 = (q 5 (Int32.toNatClampNeg p1)) → ((v2 = 97 → ((vix p0 ∧ s8 p1 ∧ six (q 5 (iv p1 + 1)) ∧ seO (q 5) (iv p1)) ∧ (∀ (v4 : Int32) (r5 : Nat → Int32) (q6 : Nat → Nat → Int32), (v4 = b2i (seB (q 5 (iv p1 + 2)) (q 5 (iv p1 + 3))) ∧ r5 = r ∧ kQ q q6 [0] ∧ (seB (q 5 (iv p1 + 2)) (q 5 (iv p1 + 3)) = true → q6 0 = seW (q 0) (q 5) (q 6) (iv p0) (iv p1))) → (vz v4 ∧ P v4 (r5, q6))))) ∧ (¬ v2 = 97 → ((v2 = 98 → (vp_in (p1 + 1) 640 ∧ (vp_in (p1 + 2) 640 ∧ (vp_in (p1 + 3) 640 ∧ ((WF (q 0) ∧ vix p0 ∧ zix (q 5 (Int32.toNatClampNeg (p1 + 1))) ∧ ∃ n : Nat, n ≤ 9999 ∧ (q 5 (Int32.toNatClampNeg (p1 + 3))) = nI n) ∧ (∀ (v12 : Int32) (r13 : Nat → Int32) (q14 : Nat → Nat → Int32), (v12 = b2i (bkB (q 0) (iv p0) (iv (q 5 (Int32.toNatClampNeg (p1 + 1)))) (q 5 (Int32.toNatClampNeg (p1 + 2))) (q 5 (Int32.toNatClampNeg (p1 + 3)))) ∧ r13 = r ∧ kQ q q14 [0] ∧ (bkB (q 0) (iv p0) (iv (q 5 (Int32.toNatClampNeg (p1 + 1)))) (q 5 (Int32.toNatClampNeg (p1 + 2))) (q 5 (Int32.toNatClampNeg (p1 + 3))) = true → q14 0 = bkS (q 0) (iv p0) (iv (q 5 (Int32.toNatClampNeg (p1 + 1)))) (q 5 (Int32.toNatClampNeg (p1 + 2))) (q 5 (Int32.toNatClampNeg (p1 + 3))))) → (vz v12 ∧ P v12 (r13, q14)))))))) ∧ (¬ v2 = 98 → ((v2 = 99 → (vp_in (p1 + 1) 640 ∧ ((∃ n : Nat, n < 3334 ∧ ((274 + 510 * p0) + 149) = nI n) ∧ (∀ (v18 : Int32) (r19 : Nat → Int32) (q20 : Nat → Nat → Int32), (v18 = zin (q 5 (Int32.toNatClampNeg (p1 + 1))) 0 9999 ∧ r19 = r ∧ q20 = va_up q 0 (upd (q 0) (iv ((274 + 510 * p0) + 149)) (q 5 (Int32.toNatClampNeg (p1 + 1))))) → (vz v18 ∧ P v18 (r19, q20)))))) ∧ (¬ v2 = 99 → ((v2 = 100 → (vp_in (p1 + 1) 640 ∧ ((∃ n : Nat, n < 3334 ∧ ((274 + 510 * p0) + 146) = nI n) ∧ (∀ (v24 : Int32) (r25 : Nat → Int32) (q26 : Nat → Nat → Int32), (v24 = zin (q 5 (Int32.toNatClampNeg (p1 + 1))) 1000 9999 ∧ r25 = r ∧ q26 = va_up q 0 (upd (q 0) (iv ((274 + 510 * p0) + 146)) (q 5 (Int32.toNatClampNeg (p1 + 1))))) → (vz v24 ∧ P v24 (r25, q26)))))) ∧ (¬ v2 = 100 → ((v2 = 102 → (vp_in (p1 + 1) 640 ∧ ((∃ n : Nat, n < 3334 ∧ ((274 + 510 * p0) + 147) = nI n) ∧ (∀ (v30 : Int32) (r31 : Nat → Int32) (q32 : Nat → Nat → Int32), (v30 = zin (q 5 (Int32.toNatClampNeg (p1 + 1))) 0 99 ∧ r31 = r ∧ q32 = va_up q 0 (upd (q 0) (iv ((274 + 510 * p0) + 147)) (q 5 (Int32.toNatClampNeg (p1 + 1))))) → (vz v30 ∧ P v30 (r31, q32)))))) ∧ (¬ v2 = 102 → ((v2 = 109 → (vp_in (p1 + 1) 640 ∧ (vp_in (p1 + 2) 640 ∧ ((∃ n : Nat, n < 3334 ∧ ((((274 + 510 * p0) + 137) + (q 5 (Int32.toNatClampNeg (p1 + 1)))) - 1) = nI n) ∧ (∀ (v37 : Int32) (r38 : Nat → Int32) (q39 : Nat → Nat → Int32), (v37 = zin (q 5 (Int32.toNatClampNeg (p1 + 2))) 0 9999 ∧ r38 = r ∧ q39 = va_up q 0 (upd (q 0) (iv ((((274 + 510 * p0) + 137) + (q 5 (Int32.toNatClampNeg (p1 + 1)))) - 1)) (q 5 (Int32.toNatClampNeg (p1 + 2))))) → (vz v37 ∧ P v37 (r38, q39))))))) ∧ (¬ v2 = 109 → ((v2 = 115 → (vp_in (p1 + 1) 640 ∧ ((∃ n : Nat, n < 3334 ∧ ((274 + 510 * p0) + 148) = nI n) ∧ (∀ (v43 : Int32) (r44 : Nat → Int32) (q45 : Nat → Nat → Int32), (v43 = zin (q 5 (Int32.toNatClampNeg (p1 + 1))) 0 9999 ∧ r44 = r ∧ q45 = va_up q 0 (upd (q 0) (iv ((274 + 510 * p0) + 148)) (q 5 (Int32.toNatClampNeg (p1 + 1))))) → (vz v43 ∧ P v43 (r44, q45)))))) ∧ (¬ v2 = 115 → ((v2 = 122 → ((WF (q 0) ∧ vix p0 ∧ s8 p1) ∧ (∀ (v48 : Int32) (r49 : Nat → Int32) (q50 : Nat → Nat → Int32), (v48 = b2i (ptB (q 0) (iv p0) (q 5 (iv p1 + 2)) (q 5 (iv p1 + 3))) ∧ r49 = r ∧ kQ q q50 [0] ∧ (ptB (q 0) (iv p0) (q 5 (iv p1 + 2)) (q 5 (iv p1 + 3)) = true → q50 0 = ptS (q 0) (iv p0) (q 5 (iv p1 + 1)) (q 5 (iv p1 + 2)) (q 5 (iv p1 + 3)))) → (vz v48 ∧ P v48 (r49, q50))))) ∧ (¬ v2 = 122 → (vp_in (p1 + 1) 640 ∧ ((vix p0 ∧ six (q 5 (Int32.toNatClampNeg (p1 + 1)))) ∧ (∀ (v53 : Int32) (r54 : Nat → Int32) (q55 : Nat → Nat → Int32), (v53 = b2i (decide (q 0 (274 + 510 * iv p0 + 150 + 36 * iv (q 5 (Int32.toNatClampNeg (p1 + 1)))) = 1)) ∧ r54 = r ∧ q55 = va_up q 0 (zf (q 0) (274 + 510 * iv p0 + 150 + 36 * iv (q 5 (Int32.toNatClampNeg (p1 + 1)))) 36)) → (vz v53 ∧ P v53 (r54, q55))))))))))))))))))))))
set_option maxRecDepth 100000 in
set_option maxHeartbeats 4000000 in
theorem t_X11_carries {p : Program} {l : Launch} {e : Env} {s : State} {m : MethodId} {args : Array Value} {below : List Frame} {meth : Method} {c : Code} {D : va_G} {A : Nat → Prop} {T : Nat → ClassId} {m0 : Nat} {a : Nat → Nat} (C : GC p s m args meth c cX11_carries "FreightRaterModel" (ws_X11_carries) 3 D A (zty T)) (hr : meth.sig.returnType = (some .boolean)) (P : Int32 → RST → Prop) : ∀ (p0 : Int32) (p1 : Int32) (r : Nat → Int32) (q : Nat → Nat → Int32), wp_X11_carries P p0 p1 r q → GW p l e rm_X11_carries s m args below meth c D A 3 0 0 (MQ below (va_Qi P (RE D T m0 a A) A) args s 0 0 A) (RW m0 a T r q) 0 0 0 [(0, .ref m0), (1, .int p0), (2, .int p1)] [] := by
  have hw : ∀ {w : Cond}, w ∈ W0 → w.before args s = true := fun h => C.2.2.2.2.1 _ (List.mem_cons_of_mem _ h)
  intro p0 p1 r q h
  unfold wp_X11_carries at h
  refine g_aload_n C dX11_carries_0 rfl 0 rfl ?_
  refine gr_get C iwx_X11 14 (hw kw_1823) (by decide) rfl rfl dX11_carries_1 ?_
  refine g_iload_n C dX11_carries_4 rfl 2 rfl ?_
  obtain ⟨g1, h⟩ := h
  refine gr_ald_5 C g1 dX11_carries_5 ?_
  refine g_topi (fun v2 ev2 => ?_)
  replace h := h v2 ev2
  rcases Decidable.em (v2 = 97) with z3 | z3
  · refine g_tableIn (off := 292) (tgt := 298) C dX11_carries_6 (by rw [z3]; decide) (by rw [z3]; decide) (by rw [z3]; decide) (by decide) ?_
    replace h := h.1 z3
    refine g_aload_n C dX11_carries_298 rfl 0 rfl ?_
    refine g_iload_n C dX11_carries_299 rfl 1 rfl ?_
    refine g_iload_n C dX11_carries_300 rfl 2 rfl ?_
    obtain ⟨g7, h⟩ := h
    refine gr_calliV C [.int p0, .int p1] rfl (k_X11_sets l D T m0 a p0 p1 r q g7) (w0_V 2 C.2.2.2.2.1 kw_2096 kw_2098 ks_75 kw_9 kw_2099 rfl rfl (by decide +kernel) ⟨by decide, by decide⟩) rfl (Nat.le_of_ble_eq_true rfl) (Nat.zero_le _) (Nat.zero_le _) dX11_carries_301 (fun v4 r5 q6 hp => ?_)
    replace h := h v4 r5 q6 hp
    exact gr_zret C hr h.1 dX11_carries_304 h.2
  replace h := h.2 z3
  rcases Decidable.em (v2 = 98) with z8 | z8
  · refine g_tableIn (off := 125) (tgt := 131) C dX11_carries_6 (by rw [z8]; decide) (by rw [z8]; decide) (by rw [z8]; decide) (by decide) ?_
    replace h := h.1 z8
    refine g_aload_n C dX11_carries_131 rfl 0 rfl ?_
    refine g_iload_n C dX11_carries_132 rfl 1 rfl ?_
    refine g_aload_n C dX11_carries_133 rfl 0 rfl ?_
    refine gr_get C iwx_X11 14 (hw kw_1823) (by decide) rfl rfl dX11_carries_134 ?_
    refine g_iload_n C dX11_carries_137 rfl 2 rfl ?_
    refine g_iconst (v := 1) C dX11_carries_138 (by decide) ?_
    refine g_iadd C dX11_carries_139 ?_
    obtain ⟨g9, h⟩ := h
    refine gr_ald_5 C g9 dX11_carries_140 ?_
    refine g_aload_n C dX11_carries_141 rfl 0 rfl ?_
    refine gr_get C iwx_X11 14 (hw kw_1823) (by decide) rfl rfl dX11_carries_142 ?_
    refine g_iload_n C dX11_carries_145 rfl 2 rfl ?_
    refine g_iconst (v := 2) C dX11_carries_146 (by decide) ?_
    refine g_iadd C dX11_carries_147 ?_
    obtain ⟨g10, h⟩ := h
    refine gr_ald_5 C g10 dX11_carries_148 ?_
    refine g_aload_n C dX11_carries_149 rfl 0 rfl ?_
    refine gr_get C iwx_X11 14 (hw kw_1823) (by decide) rfl rfl dX11_carries_150 ?_
    refine g_iload_n C dX11_carries_153 rfl 2 rfl ?_
    refine g_iconst (v := 3) C dX11_carries_154 (by decide) ?_
    refine g_iadd C dX11_carries_155 ?_
    obtain ⟨g11, h⟩ := h
    refine gr_ald_5 C g11 dX11_carries_156 ?_
    obtain ⟨g15, h⟩ := h
    refine gr_calliV C [.int p0, .int (q 5 (Int32.toNatClampNeg (p1 + 1))), .int (q 5 (Int32.toNatClampNeg (p1 + 2))), .int (q 5 (Int32.toNatClampNeg (p1 + 3)))] rfl (k_X11_setsBreak l D T m0 a p0 (q 5 (Int32.toNatClampNeg (p1 + 1))) (q 5 (Int32.toNatClampNeg (p1 + 2))) (q 5 (Int32.toNatClampNeg (p1 + 3))) r q g15) (w0_V 4 C.2.2.2.2.1 kw_2088 kw_2090 ks_73 kw_9 kw_2091 rfl rfl (by decide +kernel) ⟨by decide, by decide⟩) rfl (Nat.le_of_ble_eq_true rfl) (Nat.zero_le _) (Nat.zero_le _) dX11_carries_157 (fun v12 r13 q14 hp => ?_)
    replace h := h v12 r13 q14 hp
    exact gr_zret C hr h.1 dX11_carries_160 h.2
  replace h := h.2 z8
  rcases Decidable.em (v2 = 99) with z16 | z16
  · refine g_tableIn (off := 267) (tgt := 273) C dX11_carries_6 (by rw [z16]; decide) (by rw [z16]; decide) (by rw [z16]; decide) (by decide) ?_
    replace h := h.1 z16
    refine g_aload_n C dX11_carries_273 rfl 0 rfl ?_
    refine g_iload_n C dX11_carries_274 rfl 1 rfl ?_
    refine gr_callSf C [.int p0] rfl (k_X11_at l D T m0 a p0 r q) (w0_S 1 C.2.2.2.2.1 kw_1947 kw_1948 kw_9 kw_1949 rfl rfl (by decide +kernel) ⟨by decide, by decide⟩) rfl (Nat.le_of_ble_eq_true rfl) (Nat.zero_le _) (Nat.zero_le _) dX11_carries_275 ?_
    refine g_sipush (v := 149) C dX11_carries_278 (by decide) ?_
    refine g_iadd C dX11_carries_281 ?_
    refine g_aload_n C dX11_carries_282 rfl 0 rfl ?_
    refine gr_get C iwx_X11 14 (hw kw_1823) (by decide) rfl rfl dX11_carries_283 ?_
    refine g_iload_n C dX11_carries_286 rfl 2 rfl ?_
    refine g_iconst (v := 1) C dX11_carries_287 (by decide) ?_
    refine g_iadd C dX11_carries_288 ?_
    obtain ⟨g17, h⟩ := h
    refine gr_ald_5 C g17 dX11_carries_289 ?_
    refine g_iconst (v := 0) C dX11_carries_290 (by decide) ?_
    refine g_sipush (v := 9999) C dX11_carries_291 (by decide) ?_
    obtain ⟨g21, h⟩ := h
    refine gr_calliV C [.int ((274 + 510 * p0) + 149), .int (q 5 (Int32.toNatClampNeg (p1 + 1))), .int 0, .int 9999] rfl (k_X11_writes l D T m0 a ((274 + 510 * p0) + 149) (q 5 (Int32.toNatClampNeg (p1 + 1))) 0 9999 r q g21) (w0_V 4 C.2.2.2.2.1 kw_2092 kw_2094 ks_74 kw_9 kw_2095 rfl rfl (by decide +kernel) ⟨by decide, by decide⟩) rfl (Nat.le_of_ble_eq_true rfl) (Nat.zero_le _) (Nat.zero_le _) dX11_carries_294 (fun v18 r19 q20 hp => ?_)
    replace h := h v18 r19 q20 hp
    exact gr_zret C hr h.1 dX11_carries_297 h.2
  replace h := h.2 z16
  rcases Decidable.em (v2 = 100) with z22 | z22
  · refine g_tableIn (off := 191) (tgt := 197) C dX11_carries_6 (by rw [z22]; decide) (by rw [z22]; decide) (by rw [z22]; decide) (by decide) ?_
    replace h := h.1 z22
    refine g_aload_n C dX11_carries_197 rfl 0 rfl ?_
    refine g_iload_n C dX11_carries_198 rfl 1 rfl ?_
    refine gr_callSf C [.int p0] rfl (k_X11_at l D T m0 a p0 r q) (w0_S 1 C.2.2.2.2.1 kw_1947 kw_1948 kw_9 kw_1949 rfl rfl (by decide +kernel) ⟨by decide, by decide⟩) rfl (Nat.le_of_ble_eq_true rfl) (Nat.zero_le _) (Nat.zero_le _) dX11_carries_199 ?_
    refine g_sipush (v := 146) C dX11_carries_202 (by decide) ?_
    refine g_iadd C dX11_carries_205 ?_
    refine g_aload_n C dX11_carries_206 rfl 0 rfl ?_
    refine gr_get C iwx_X11 14 (hw kw_1823) (by decide) rfl rfl dX11_carries_207 ?_
    refine g_iload_n C dX11_carries_210 rfl 2 rfl ?_
    refine g_iconst (v := 1) C dX11_carries_211 (by decide) ?_
    refine g_iadd C dX11_carries_212 ?_
    obtain ⟨g23, h⟩ := h
    refine gr_ald_5 C g23 dX11_carries_213 ?_
    refine g_sipush (v := 1000) C dX11_carries_214 (by decide) ?_
    refine g_sipush (v := 9999) C dX11_carries_217 (by decide) ?_
    obtain ⟨g27, h⟩ := h
    refine gr_calliV C [.int ((274 + 510 * p0) + 146), .int (q 5 (Int32.toNatClampNeg (p1 + 1))), .int 1000, .int 9999] rfl (k_X11_writes l D T m0 a ((274 + 510 * p0) + 146) (q 5 (Int32.toNatClampNeg (p1 + 1))) 1000 9999 r q g27) (w0_V 4 C.2.2.2.2.1 kw_2092 kw_2094 ks_74 kw_9 kw_2095 rfl rfl (by decide +kernel) ⟨by decide, by decide⟩) rfl (Nat.le_of_ble_eq_true rfl) (Nat.zero_le _) (Nat.zero_le _) dX11_carries_220 (fun v24 r25 q26 hp => ?_)
    replace h := h v24 r25 q26 hp
    exact gr_zret C hr h.1 dX11_carries_223 h.2
  replace h := h.2 z22
  rcases Decidable.em (v2 = 102) with z28 | z28
  · refine g_tableIn (off := 218) (tgt := 224) C dX11_carries_6 (by rw [z28]; decide) (by rw [z28]; decide) (by rw [z28]; decide) (by decide) ?_
    replace h := h.1 z28
    refine g_aload_n C dX11_carries_224 rfl 0 rfl ?_
    refine g_iload_n C dX11_carries_225 rfl 1 rfl ?_
    refine gr_callSf C [.int p0] rfl (k_X11_at l D T m0 a p0 r q) (w0_S 1 C.2.2.2.2.1 kw_1947 kw_1948 kw_9 kw_1949 rfl rfl (by decide +kernel) ⟨by decide, by decide⟩) rfl (Nat.le_of_ble_eq_true rfl) (Nat.zero_le _) (Nat.zero_le _) dX11_carries_226 ?_
    refine g_sipush (v := 147) C dX11_carries_229 (by decide) ?_
    refine g_iadd C dX11_carries_232 ?_
    refine g_aload_n C dX11_carries_233 rfl 0 rfl ?_
    refine gr_get C iwx_X11 14 (hw kw_1823) (by decide) rfl rfl dX11_carries_234 ?_
    refine g_iload_n C dX11_carries_237 rfl 2 rfl ?_
    refine g_iconst (v := 1) C dX11_carries_238 (by decide) ?_
    refine g_iadd C dX11_carries_239 ?_
    obtain ⟨g29, h⟩ := h
    refine gr_ald_5 C g29 dX11_carries_240 ?_
    refine g_iconst (v := 0) C dX11_carries_241 (by decide) ?_
    refine g_bipush (v := 99) C dX11_carries_242 (by decide) ?_
    obtain ⟨g33, h⟩ := h
    refine gr_calliV C [.int ((274 + 510 * p0) + 147), .int (q 5 (Int32.toNatClampNeg (p1 + 1))), .int 0, .int 99] rfl (k_X11_writes l D T m0 a ((274 + 510 * p0) + 147) (q 5 (Int32.toNatClampNeg (p1 + 1))) 0 99 r q g33) (w0_V 4 C.2.2.2.2.1 kw_2092 kw_2094 ks_74 kw_9 kw_2095 rfl rfl (by decide +kernel) ⟨by decide, by decide⟩) rfl (Nat.le_of_ble_eq_true rfl) (Nat.zero_le _) (Nat.zero_le _) dX11_carries_244 (fun v30 r31 q32 hp => ?_)
    replace h := h v30 r31 q32 hp
    exact gr_zret C hr h.1 dX11_carries_247 h.2
  replace h := h.2 z28
  rcases Decidable.em (v2 = 109) with z34 | z34
  · refine g_tableIn (off := 155) (tgt := 161) C dX11_carries_6 (by rw [z34]; decide) (by rw [z34]; decide) (by rw [z34]; decide) (by decide) ?_
    replace h := h.1 z34
    refine g_aload_n C dX11_carries_161 rfl 0 rfl ?_
    refine g_iload_n C dX11_carries_162 rfl 1 rfl ?_
    refine gr_callSf C [.int p0] rfl (k_X11_at l D T m0 a p0 r q) (w0_S 1 C.2.2.2.2.1 kw_1947 kw_1948 kw_9 kw_1949 rfl rfl (by decide +kernel) ⟨by decide, by decide⟩) rfl (Nat.le_of_ble_eq_true rfl) (Nat.zero_le _) (Nat.zero_le _) dX11_carries_163 ?_
    refine g_sipush (v := 137) C dX11_carries_166 (by decide) ?_
    refine g_iadd C dX11_carries_169 ?_
    refine g_aload_n C dX11_carries_170 rfl 0 rfl ?_
    refine gr_get C iwx_X11 14 (hw kw_1823) (by decide) rfl rfl dX11_carries_171 ?_
    refine g_iload_n C dX11_carries_174 rfl 2 rfl ?_
    refine g_iconst (v := 1) C dX11_carries_175 (by decide) ?_
    refine g_iadd C dX11_carries_176 ?_
    obtain ⟨g35, h⟩ := h
    refine gr_ald_5 C g35 dX11_carries_177 ?_
    refine g_iadd C dX11_carries_178 ?_
    refine g_iconst (v := 1) C dX11_carries_179 (by decide) ?_
    refine g_isub C dX11_carries_180 ?_
    refine g_aload_n C dX11_carries_181 rfl 0 rfl ?_
    refine gr_get C iwx_X11 14 (hw kw_1823) (by decide) rfl rfl dX11_carries_182 ?_
    refine g_iload_n C dX11_carries_185 rfl 2 rfl ?_
    refine g_iconst (v := 2) C dX11_carries_186 (by decide) ?_
    refine g_iadd C dX11_carries_187 ?_
    obtain ⟨g36, h⟩ := h
    refine gr_ald_5 C g36 dX11_carries_188 ?_
    refine g_iconst (v := 0) C dX11_carries_189 (by decide) ?_
    refine g_sipush (v := 9999) C dX11_carries_190 (by decide) ?_
    obtain ⟨g40, h⟩ := h
    refine gr_calliV C [.int ((((274 + 510 * p0) + 137) + (q 5 (Int32.toNatClampNeg (p1 + 1)))) - 1), .int (q 5 (Int32.toNatClampNeg (p1 + 2))), .int 0, .int 9999] rfl (k_X11_writes l D T m0 a ((((274 + 510 * p0) + 137) + (q 5 (Int32.toNatClampNeg (p1 + 1)))) - 1) (q 5 (Int32.toNatClampNeg (p1 + 2))) 0 9999 r q g40) (w0_V 4 C.2.2.2.2.1 kw_2092 kw_2094 ks_74 kw_9 kw_2095 rfl rfl (by decide +kernel) ⟨by decide, by decide⟩) rfl (Nat.le_of_ble_eq_true rfl) (Nat.zero_le _) (Nat.zero_le _) dX11_carries_193 (fun v37 r38 q39 hp => ?_)
    replace h := h v37 r38 q39 hp
    exact gr_zret C hr h.1 dX11_carries_196 h.2
  replace h := h.2 z34
  rcases Decidable.em (v2 = 115) with z41 | z41
  · refine g_tableIn (off := 242) (tgt := 248) C dX11_carries_6 (by rw [z41]; decide) (by rw [z41]; decide) (by rw [z41]; decide) (by decide) ?_
    replace h := h.1 z41
    refine g_aload_n C dX11_carries_248 rfl 0 rfl ?_
    refine g_iload_n C dX11_carries_249 rfl 1 rfl ?_
    refine gr_callSf C [.int p0] rfl (k_X11_at l D T m0 a p0 r q) (w0_S 1 C.2.2.2.2.1 kw_1947 kw_1948 kw_9 kw_1949 rfl rfl (by decide +kernel) ⟨by decide, by decide⟩) rfl (Nat.le_of_ble_eq_true rfl) (Nat.zero_le _) (Nat.zero_le _) dX11_carries_250 ?_
    refine g_sipush (v := 148) C dX11_carries_253 (by decide) ?_
    refine g_iadd C dX11_carries_256 ?_
    refine g_aload_n C dX11_carries_257 rfl 0 rfl ?_
    refine gr_get C iwx_X11 14 (hw kw_1823) (by decide) rfl rfl dX11_carries_258 ?_
    refine g_iload_n C dX11_carries_261 rfl 2 rfl ?_
    refine g_iconst (v := 1) C dX11_carries_262 (by decide) ?_
    refine g_iadd C dX11_carries_263 ?_
    obtain ⟨g42, h⟩ := h
    refine gr_ald_5 C g42 dX11_carries_264 ?_
    refine g_iconst (v := 0) C dX11_carries_265 (by decide) ?_
    refine g_sipush (v := 9999) C dX11_carries_266 (by decide) ?_
    obtain ⟨g46, h⟩ := h
    refine gr_calliV C [.int ((274 + 510 * p0) + 148), .int (q 5 (Int32.toNatClampNeg (p1 + 1))), .int 0, .int 9999] rfl (k_X11_writes l D T m0 a ((274 + 510 * p0) + 148) (q 5 (Int32.toNatClampNeg (p1 + 1))) 0 9999 r q g46) (w0_V 4 C.2.2.2.2.1 kw_2092 kw_2094 ks_74 kw_9 kw_2095 rfl rfl (by decide +kernel) ⟨by decide, by decide⟩) rfl (Nat.le_of_ble_eq_true rfl) (Nat.zero_le _) (Nat.zero_le _) dX11_carries_269 (fun v43 r44 q45 hp => ?_)
    replace h := h v43 r44 q45 hp
    exact gr_zret C hr h.1 dX11_carries_272 h.2
  replace h := h.2 z41
  rcases Decidable.em (v2 = 122) with z47 | z47
  · refine g_tableIn (off := 118) (tgt := 124) C dX11_carries_6 (by rw [z47]; decide) (by rw [z47]; decide) (by rw [z47]; decide) (by decide) ?_
    replace h := h.1 z47
    refine g_aload_n C dX11_carries_124 rfl 0 rfl ?_
    refine g_iload_n C dX11_carries_125 rfl 1 rfl ?_
    refine g_iload_n C dX11_carries_126 rfl 2 rfl ?_
    obtain ⟨g51, h⟩ := h
    refine gr_calliV C [.int p0, .int p1] rfl (k_X11_puts l D T m0 a p0 p1 r q g51) (w0_V 2 C.2.2.2.2.1 kw_2084 kw_2086 ks_72 kw_9 kw_2087 rfl rfl (by decide +kernel) ⟨by decide, by decide⟩) rfl (Nat.le_of_ble_eq_true rfl) (Nat.zero_le _) (Nat.zero_le _) dX11_carries_127 (fun v48 r49 q50 hp => ?_)
    replace h := h v48 r49 q50 hp
    exact gr_zret C hr h.1 dX11_carries_130 h.2
  replace h := h.2 z47
  refine g_tableD (tgt := 305) C dX11_carries_6 (by decide) (fun j hj => ?_) (by decide) ?_
  · rcases (show j = 0 ∨ j = 1 ∨ j = 2 ∨ j = 3 ∨ j = 4 ∨ j = 5 ∨ j = 6 ∨ j = 7 ∨ j = 8 ∨ j = 9 ∨ j = 10 ∨ j = 11 ∨ j = 12 ∨ j = 13 ∨ j = 14 ∨ j = 15 ∨ j = 16 ∨ j = 17 ∨ j = 18 ∨ j = 19 ∨ j = 20 ∨ j = 21 ∨ j = 22 ∨ j = 23 ∨ j = 24 ∨ j = 25 by have hj2 : j < 26 := hj; omega) with rfl | rfl | rfl | rfl | rfl | rfl | rfl | rfl | rfl | rfl | rfl | rfl | rfl | rfl | rfl | rfl | rfl | rfl | rfl | rfl | rfl | rfl | rfl | rfl | rfl | rfl <;> first | exact Or.inr rfl | exact Or.inl (by first | exact lv_neT z3 rfl | exact lv_neT z8 rfl | exact lv_neT z16 rfl | exact lv_neT z22 rfl | exact lv_neT z28 rfl | exact lv_neT z34 rfl | exact lv_neT z41 rfl | exact lv_neT z47 rfl)
  refine g_aload_n C dX11_carries_305 rfl 0 rfl ?_
  refine g_iload_n C dX11_carries_306 rfl 1 rfl ?_
  refine g_aload_n C dX11_carries_307 rfl 0 rfl ?_
  refine gr_get C iwx_X11 14 (hw kw_1823) (by decide) rfl rfl dX11_carries_308 ?_
  refine g_iload_n C dX11_carries_311 rfl 2 rfl ?_
  refine g_iconst (v := 1) C dX11_carries_312 (by decide) ?_
  refine g_iadd C dX11_carries_313 ?_
  obtain ⟨g52, h⟩ := h
  refine gr_ald_5 C g52 dX11_carries_314 ?_
  obtain ⟨g56, h⟩ := h
  refine gr_calliV C [.int p0, .int (q 5 (Int32.toNatClampNeg (p1 + 1)))] rfl (k_X11_removes l D T m0 a p0 (q 5 (Int32.toNatClampNeg (p1 + 1))) r q g56) (w0_V 2 C.2.2.2.2.1 kw_2100 kw_2102 ks_76 kw_9 kw_2103 rfl rfl (by decide +kernel) ⟨by decide, by decide⟩) rfl (Nat.le_of_ble_eq_true rfl) (Nat.zero_le _) (Nat.zero_le _) dX11_carries_315 (fun v53 r54 q55 hp => ?_)
  replace h := h v53 r54 q55 hp
  exact gr_zret C hr h.1 dX11_carries_318 h.2
theorem c_X11_carries (l : Launch) (D : va_G) (T : Nat → ClassId) (m0 : Nat) (a : Nat → Nat) (p0 : Int32) (p1 : Int32) (r : Nat → Int32) (q : Nat → Nat → Int32) (P : Int32 → RST → Prop) (h : wp_X11_carries P p0 p1 r q) : RMi l yX11_carries (ws_X11_carries) rm_X11_carries D T m0 a [.ref m0, .int p0, .int p1] r q P := gr_meti (by decide) rfl rfl (Nat.le_of_ble_eq_true rfl) (fun p e s m args below meth c A C hr => t_X11_carries C hr P p0 p1 r q h)
theorem zin_b (x lo hi : Int32) : zin x lo hi = b2i (decide (¬ zin x lo hi = 0)) := by
  unfold zin
  split
  · rfl
  split
  · rfl
  · rfl
theorem k_X11_carries (l : Launch) (D : va_G) (T : Nat → ClassId) (m0 : Nat) (a : Nat → Nat) (p0 : Int32) (p1 : Int32) (r : Nat → Int32) (q : Nat → Nat → Int32) (h : WF (q 0) ∧ vix p0 ∧ s8 p1 ∧ crO (q 5) (iv p1)) : RMi l yX11_carries (ws_X11_carries) rm_X11_carries D T m0 a [.ref m0, .int p0, .int p1] r q (fun v u => (v = b2i (crB (q 0) (iv p0) (q 5 (iv p1)) (q 5 (iv p1 + 1)) (q 5 (iv p1 + 2)) (q 5 (iv p1 + 3))) ∧ u.1 = r ∧ kQ q u.2 [0] ∧ (crB (q 0) (iv p0) (q 5 (iv p1)) (q 5 (iv p1 + 1)) (q 5 (iv p1 + 2)) (q 5 (iv p1 + 3)) = true → u.2 0 = crS (q 0) (iv p0) (q 5 (iv p1)) (q 5 (iv p1 + 1)) (q 5 (iv p1 + 2)) (q 5 (iv p1 + 3)) (q 5 (iv p1 + 5)) (q 5 (iv p1 + 6) - q 5 (iv p1 + 4)) (fun j => q 6 (iv (q 5 (iv p1 + 4)) + j)) (q 5 (iv p1 + 7))))) := c_X11_carries l D T m0 a p0 p1 r q _ <|
  (by
    obtain ⟨hw, ⟨v, hv, e0⟩, ⟨s, hs, e1⟩, o1, o2, o3, o4⟩ := h
    subst e0 e1
    have ev : iv (nI v) = v := nI_clamp (by omega)
    have es : iv (nI s) = s := nI_clamp (by omega)
    rw [es] at o1 o2 o3 o4
    rw [ev, es]
    unfold wp_X11_carries
    simp (disch := omega) only [li_2, li_3, li_4, li_5, li_6, li_7, li_8, li_9, li_10, li_12, li_14, li_20, li_26, li_30, li_31, li_36, li_38, li_47, li_48, li_50, li_57, li_58, li_80, li_98, li_99, li_100, li_102, li_104, li_105, li_108, li_109, li_110, li_114, li_115, li_119, li_122, li_137, li_146, li_147, li_148, li_149, li_150, li_200, li_255, li_256, li_274, li_510, li_512, li_640, li_999, li_1000, li_1024, li_3334, li_5000, li_9999, li_10000, li_23338, li_26672, li_30000, li_99999, li_150000, li_300000, pk_mul, nI_add, pk_sub, nI_clamp, nI_1, nI_p1, nI_a0, nI_0a, nI_m0, nI_m1, cl_0, cl_1, z01, z11, nI_leI, nI_ltI, nI_eq, nz_lt0, nz_le, nz_eq0, nz_pos, nz_le0, nz_eq1, nz_lt1, nz_ge1, nz_le1, nz_gt1, nz_vp, nz_vp0, nz_vp1, six_nI, vix_nI, bix_nI, pix_nI, fix_nI, gix_nI, rix_nI, zix_nI, pix_0, pix_1, bix_0, fix_0, fix_1, rix_1, true_and, and_true]
    simp only [du_97, du_98, du_99, du_100, du_102, du_109, du_115, du_122, du_1000, du_9999]
    -- a number that is written
    have wr : ∀ (pl : Nat) (x lo hi v1 : Int32) (r1 : Nat → Int32) (q1 : Nat → Nat → Int32), crB (q 0) v (q 5 s) (q 5 (s + 1)) (q 5 (s + 2)) (q 5 (s + 3)) = decide (¬ zin x lo hi = 0) → (∀ rows tested tv excl, crS (q 0) v (q 5 s) (q 5 (s + 1)) (q 5 (s + 2)) (q 5 (s + 3)) rows tested tv excl = upd (q 0) pl x) → (v1 = zin x lo hi ∧ r1 = r ∧ q1 = va_up q 0 (upd (q 0) pl x)) → vz v1 ∧ v1 = b2i (crB (q 0) v (q 5 s) (q 5 (s + 1)) (q 5 (s + 2)) (q 5 (s + 3))) ∧ r1 = r ∧ kQ q q1 [0] ∧ (crB (q 0) v (q 5 s) (q 5 (s + 1)) (q 5 (s + 2)) (q 5 (s + 3)) = true → q1 0 = crS (q 0) v (q 5 s) (q 5 (s + 1)) (q 5 (s + 2)) (q 5 (s + 3)) (q 5 (s + 5)) (q 5 (s + 6) - q 5 (s + 4)) (fun j => q 6 (iv (q 5 (s + 4)) + j)) (q 5 (s + 7))) := by
      intro pl x lo hi v1 r1 q1 hB hS hh
      obtain ⟨h1, h2, h3⟩ := hh
      refine ⟨by rw [h1, zin_b]; exact b2i_vz _, by rw [hB, h1, ← zin_b], h2, by rw [h3]; exact kQ.rf.up (by decide) _, fun _ => by rw [hS, h3, va_up_self]⟩
    refine ⟨by omega, fun v2 e2 => ⟨fun c => ?_, fun c1 => ⟨fun c => ?_, fun c2 => ⟨fun c => ?_, fun c3 => ⟨fun c => ?_, fun c4 => ⟨fun c => ?_, fun c5 => ⟨fun c => ?_, fun c6 => ⟨fun c => ?_, fun c7 => ⟨fun c => ?_, fun c8 => ?_⟩⟩⟩⟩⟩⟩⟩⟩⟩
    · rw [e2] at c
      obtain ⟨y1, y2⟩ := o3 c
      refine ⟨⟨hv, ⟨s, hs, rfl⟩, y1, y2⟩, fun v4 r5 q6 hh => ?_⟩
      · obtain ⟨h1, h2, h3, h4⟩ := hh
        have hB : crB (q 0) v (q 5 s) (q 5 (s + 1)) (q 5 (s + 2)) (q 5 (s + 3)) = seB (q 5 (s + 2)) (q 5 (s + 3)) := by rw [c]; rfl
        refine ⟨by rw [h1]; exact b2i_vz _, by rw [hB]; exact h1, h2, h3, fun z => ?_⟩
        (try dsimp only)
        rw [h4 (by rw [← hB]; exact z), c]
        rfl
    · rw [e2] at c
      obtain ⟨z, h1, h9, ez⟩ := o1 (Or.inl c)
      obtain ⟨n, hn, en⟩ := o2 c
      refine ⟨by omega, by omega, by omega, ⟨hw, hv, ⟨z, h1, h9, ez⟩, n, hn, en⟩, fun v12 r13 q14 hh => ?_⟩
      obtain ⟨h1, h2, h3, h4⟩ := hh
      have hB : crB (q 0) v (q 5 s) (q 5 (s + 1)) (q 5 (s + 2)) (q 5 (s + 3)) = bkB (q 0) v (iv (q 5 (s + 1))) (q 5 (s + 2)) (q 5 (s + 3)) := by rw [c]; rfl
      refine ⟨by rw [h1]; exact b2i_vz _, by rw [hB]; exact h1, h2, h3, fun z => ?_⟩
      (try dsimp only)
      rw [h4 (by rw [← hB]; exact z), c]
      rfl
    · rw [e2] at c
      refine ⟨by omega, ⟨274 + 510 * v + 149, by omega, rfl⟩, fun v18 r19 q20 hh => ?_⟩
      exact wr _ _ _ _ _ _ _ (by rw [c]; rfl) (fun _ _ _ _ => by rw [c]; rfl) hh
    · rw [e2] at c
      refine ⟨by omega, ⟨274 + 510 * v + 146, by omega, rfl⟩, fun v18 r19 q20 hh => ?_⟩
      exact wr _ _ _ _ _ _ _ (by rw [c]; rfl) (fun _ _ _ _ => by rw [c]; rfl) hh
    · rw [e2] at c
      refine ⟨by omega, ⟨274 + 510 * v + 147, by omega, rfl⟩, fun v18 r19 q20 hh => ?_⟩
      exact wr _ _ _ _ _ _ _ (by rw [c]; rfl) (fun _ _ _ _ => by rw [c]; rfl) hh
    · rw [e2] at c
      obtain ⟨z, h1, h9, ez⟩ := o1 (Or.inr c)
      have ip : (nI (274 + 510 * v + 137) + q 5 (s + 1) - 1) = nI (274 + 510 * v + 137 + z - 1) := by rw [ez, nI_add, nI_p1 (by omega)]
      rw [ip, show iv (nI (274 + 510 * v + 137 + z - 1)) = 274 + 510 * v + 137 + z - 1 from nI_clamp (by omega)]
      refine ⟨by omega, by omega, ⟨274 + 510 * v + 137 + z - 1, by omega, rfl⟩, fun v18 r19 q20 hh => ?_⟩
      exact wr _ _ _ _ _ _ _ (by rw [c]; rfl) (fun _ _ _ _ => by rw [c, ez]; unfold crS; rw [if_neg (by decide), if_neg (by decide), if_pos rfl, show iv (nI z) = z from nI_clamp (by omega)]) hh
    · rw [e2] at c
      refine ⟨by omega, ⟨274 + 510 * v + 148, by omega, rfl⟩, fun v18 r19 q20 hh => ?_⟩
      exact wr _ _ _ _ _ _ _ (by rw [c]; rfl) (fun _ _ _ _ => by rw [c]; rfl) hh
    · rw [e2] at c
      refine ⟨⟨hw, hv, ⟨s, hs, rfl⟩⟩, fun v4 r5 q6 hh => ?_⟩
      obtain ⟨h1, h2, h3, h4⟩ := hh
      have hB : crB (q 0) v (q 5 s) (q 5 (s + 1)) (q 5 (s + 2)) (q 5 (s + 3)) = ptB (q 0) v (q 5 (s + 2)) (q 5 (s + 3)) := by rw [c]; rfl
      refine ⟨by rw [h1]; exact b2i_vz _, by rw [hB]; exact h1, h2, h3, fun z => ?_⟩
      (try dsimp only)
      rw [h4 (by rw [← hB]; exact z), c]
      rfl
    · rw [e2] at c1 c2 c3 c4 c5 c6 c7 c8
      have y1 := o4 ⟨c8, c2, c6, c4, c5, c7, c3, c1⟩
      refine ⟨by omega, ⟨hv, y1⟩, fun v53 r54 q55 hh => ?_⟩
      obtain ⟨h1, h2, h3⟩ := hh
      have hB : crB (q 0) v (q 5 s) (q 5 (s + 1)) (q 5 (s + 2)) (q 5 (s + 3)) = decide (q 0 (274 + 510 * v + 150 + 36 * iv (q 5 (s + 1))) = 1) := by
        unfold crB
        rw [if_neg c8, if_neg c2, if_neg c6, if_neg c4, if_neg c5, if_neg c7, if_neg c3, if_neg c1]
      refine ⟨by rw [h1]; exact b2i_vz _, by rw [hB]; exact h1, h2, by rw [h3]; exact kQ.rf.up (by decide) _, fun z => ?_⟩
      (try dsimp only)
      rw [h3, va_up_self]
      unfold crS
      rw [if_neg c8, if_neg c2, if_neg c6, if_neg c4, if_neg c5, if_neg c7, if_neg c3, if_neg c1])

end S_RMS
