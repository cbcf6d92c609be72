section S_RIS
abbrev ws_X11_readExtra : List Cond := Cond.code yX11_readExtra cX11_readExtra 2 none :: W0
abbrev rm_X11_readExtra : Room := ({ frames := 5, cells := 0, slots := 0, locals := 115 } : Room)
def wp_X11_readExtra_78 (P : RST → Prop) (x1 : Int32) (s0 : Int32) (s1 : Int32) (r : Nat → Int32) (q : Nat → Nat → Int32) : Prop := vp_in s1 640 ∧ (∀ q29 : Nat → Nat → Int32, q29 = va_up q 5 (upd (q 5) (Int32.toNatClampNeg s1) s0) → (vp_in (x1 + 4) 640 ∧ (∀ q31 : Nat → Nat → Int32, q31 = va_up q29 5 (upd (q29 5) (Int32.toNatClampNeg (x1 + 4)) (r 15)) → ((psO r ∧ ¬ 63 = (-1 : Int32)) ∧ (∀ (v32 : Int32) (r33 : Nat → Int32) (q34 : Nat → Nat → Int32), (v32 = b2i (tkB (q31 4) (iv (r 8)) (pσ r) 63) ∧ q34 = q31 ∧ kR r r33 [10] ∧ psO r33 ∧ pσ r33 = tkS (q31 4) (iv (r 8)) (pσ r) 63) → ((v32 = 0 → (vp_in (x1 + 5) 640 ∧ (∀ q38 : Nat → Nat → Int32, q38 = va_up q34 5 (upd (q34 5) (Int32.toNatClampNeg (x1 + 5)) 0) → (vp_in (x1 + 6) 640 ∧ (∀ q40 : Nat → Nat → Int32, q40 = va_up q38 5 (upd (q38 5) (Int32.toNatClampNeg (x1 + 6)) (r33 15)) → ((psO r33 ∧ ¬ 33 = (-1 : Int32)) ∧ (∀ (v41 : Int32) (r42 : Nat → Int32) (q43 : Nat → Nat → Int32), (v41 = b2i (tkB (q40 4) (iv (r33 8)) (pσ r33) 33) ∧ q43 = q40 ∧ kR r33 r42 [10] ∧ psO r42 ∧ pσ r42 = tkS (q40 4) (iv (r33 8)) (pσ r33) 33) → ((v41 = 0 → (vp_in (x1 + 7) 640 ∧ (∀ q47 : Nat → Nat → Int32, q47 = va_up q43 5 (upd (q43 5) (Int32.toNatClampNeg (x1 + 7)) (-1)) → (P (r42, q47))))) ∧ (¬ v41 = 0 → ((psO r42 ∧ dix 0 9) ∧ (∀ (v48 : Int32) (r49 : Nat → Int32) (q50 : Nat → Nat → Int32), (v48 = dgV (q43 4) (iv (r42 8)) (pσ r42) 0 9 ∧ q50 = q43 ∧ kR r42 r49 [10, 11] ∧ psO r49 ∧ pσ r49 = dgS (q43 4) (iv (r42 8)) (pσ r42) 0 9) → (vp_in (x1 + 7) 640 ∧ (∀ q53 : Nat → Nat → Int32, q53 = va_up q50 5 (upd (q50 5) (Int32.toNatClampNeg (x1 + 7)) v48) → (P (r49, q53))))))))))))))) ∧ (¬ v32 = 0 → ((psO r33 ∧ tsO r33) ∧ (∀ (v54 : Int32) (r55 : Nat → Int32) (q56 : Nat → Nat → Int32), (cnQ (cnF (q34 4) (iv (r33 8)) (pσ r33)) r33 q34 v54 r55 q56) → (vp_in (x1 + 5) 640 ∧ (∀ q59 : Nat → Nat → Int32, q59 = va_up q56 5 (upd (q56 5) (Int32.toNatClampNeg (x1 + 5)) v54) → (vp_in (x1 + 6) 640 ∧ (∀ q61 : Nat → Nat → Int32, q61 = va_up q59 5 (upd (q59 5) (Int32.toNatClampNeg (x1 + 6)) (r55 15)) → ((psO r55 ∧ ¬ 33 = (-1 : Int32)) ∧ (∀ (v62 : Int32) (r63 : Nat → Int32) (q64 : Nat → Nat → Int32), (v62 = b2i (tkB (q61 4) (iv (r55 8)) (pσ r55) 33) ∧ q64 = q61 ∧ kR r55 r63 [10] ∧ psO r63 ∧ pσ r63 = tkS (q61 4) (iv (r55 8)) (pσ r55) 33) → ((v62 = 0 → (vp_in (x1 + 7) 640 ∧ (∀ q68 : Nat → Nat → Int32, q68 = va_up q64 5 (upd (q64 5) (Int32.toNatClampNeg (x1 + 7)) (-1)) → (P (r63, q68))))) ∧ (¬ v62 = 0 → ((psO r63 ∧ dix 0 9) ∧ (∀ (v69 : Int32) (r70 : Nat → Int32) (q71 : Nat → Nat → Int32), (v69 = dgV (q64 4) (iv (r63 8)) (pσ r63) 0 9 ∧ q71 = q64 ∧ kR r63 r70 [10, 11] ∧ psO r70 ∧ pσ r70 = dgS (q64 4) (iv (r63 8)) (pσ r63) 0 9) → (vp_in (x1 + 7) 640 ∧ (∀ q74 : Nat → Nat → Int32, q74 = va_up q71 5 (upd (q71 5) (Int32.toNatClampNeg (x1 + 7)) v69) → (P (r70, q74)))))))))))))))))))))))
set_option maxRecDepth 100000 in
set_option maxHeartbeats 4000000 in
theorem t_X11_readExtra_78 {p : Program} {l : Launch} {e : Env} {s : State} {m : MethodId} {args : Array Value} {below : List Frame} {meth : Method} {c : Code} {D : va_G} {A : Nat → Prop} {T : Nat → ClassId} {m0 : Nat} {a : Nat → Nat} (C : GC p s m args meth c cX11_readExtra "FreightRaterModel" (ws_X11_readExtra) 2 D A (zty T)) (hr : meth.sig.returnType = none) (P : RST → Prop) : ∀ (x1 : Int32) (s0 : Int32) (s1 : Int32) (r : Nat → Int32) (q : Nat → Nat → Int32), wp_X11_readExtra_78  P x1 s0 s1 r q → GW p l e rm_X11_readExtra s m args below meth c D A 2 0 0 (MQ below (va_Qv P (RE D T m0 a A) A) args s 0 0 A) (RW m0 a T r q) 0 0 78 [(0, .ref m0), (1, .int x1)] [.int s0, .int s1, .ref (a 5)] := by
  have hw : ∀ {w : Cond}, w ∈ W0 → w.before args s = true := fun h => C.2.2.2.2.1 _ (List.mem_cons_of_mem _ h)
  intro x1 s0 s1 r q h
  unfold wp_X11_readExtra_78 at h
  obtain ⟨g28, h⟩ := h
  refine gr_ast_5 C g28 dX11_readExtra_78 ?_
  refine gr_nq (fun q29 eq29 => ?_)
  replace h := h q29 eq29
  refine g_aload_n C dX11_readExtra_79 rfl 0 rfl ?_
  refine gr_get C iwx_X11 14 (hw kw_1823) (by decide) rfl rfl dX11_readExtra_80 ?_
  refine g_iload_n C dX11_readExtra_83 rfl 1 rfl ?_
  refine g_iconst (v := 4) C dX11_readExtra_84 (by decide) ?_
  refine g_iadd C dX11_readExtra_85 ?_
  refine g_aload_n C dX11_readExtra_86 rfl 0 rfl ?_
  refine gr_get C iwx_X11 15 (hw kw_1824) (by decide) rfl rfl dX11_readExtra_87 ?_
  obtain ⟨g30, h⟩ := h
  refine gr_ast_5 C g30 dX11_readExtra_90 ?_
  refine gr_nq (fun q31 eq31 => ?_)
  replace h := h q31 eq31
  refine g_aload_n C dX11_readExtra_91 rfl 0 rfl ?_
  refine gr_get C iwx_X11 14 (hw kw_1823) (by decide) rfl rfl dX11_readExtra_92 ?_
  refine g_iload_n C dX11_readExtra_95 rfl 1 rfl ?_
  refine g_iconst (v := 5) C dX11_readExtra_96 (by decide) ?_
  refine g_iadd C dX11_readExtra_97 ?_
  refine g_aload_n C dX11_readExtra_98 rfl 0 rfl ?_
  refine g_bipush (v := 63) C dX11_readExtra_99 (by decide) ?_
  obtain ⟨g35, h⟩ := h
  refine gr_calliV C [.int 63] rfl (k_X11_takes l D T m0 a 63 r q31 g35) (w0_V 1 C.2.2.2.2.1 kw_2054 kw_2056 ks_66 kw_9 kw_2057 rfl rfl (by decide +kernel) ⟨by decide, by decide⟩) rfl (Nat.le_of_ble_eq_true rfl) (Nat.zero_le _) (Nat.zero_le _) dX11_readExtra_101 (fun v32 r33 q34 hp => ?_)
  replace h := h v32 r33 q34 hp
  refine g_if_eq (tgt := 114) C dX11_readExtra_104 (by decide) (fun z36 => ?_) (fun z36 => ?_)
  · replace h := h.1 z36
    refine g_iconst (v := 0) C dX11_readExtra_114 (by decide) ?_
    obtain ⟨g37, h⟩ := h
    refine gr_ast_5 C g37 dX11_readExtra_115 ?_
    refine gr_nq (fun q38 eq38 => ?_)
    replace h := h q38 eq38
    refine g_aload_n C dX11_readExtra_116 rfl 0 rfl ?_
    refine gr_get C iwx_X11 14 (hw kw_1823) (by decide) rfl rfl dX11_readExtra_117 ?_
    refine g_iload_n C dX11_readExtra_120 rfl 1 rfl ?_
    refine g_bipush (v := 6) C dX11_readExtra_121 (by decide) ?_
    refine g_iadd C dX11_readExtra_123 ?_
    refine g_aload_n C dX11_readExtra_124 rfl 0 rfl ?_
    refine gr_get C iwx_X11 15 (hw kw_1824) (by decide) rfl rfl dX11_readExtra_125 ?_
    obtain ⟨g39, h⟩ := h
    refine gr_ast_5 C g39 dX11_readExtra_128 ?_
    refine gr_nq (fun q40 eq40 => ?_)
    replace h := h q40 eq40
    refine g_aload_n C dX11_readExtra_129 rfl 0 rfl ?_
    refine gr_get C iwx_X11 14 (hw kw_1823) (by decide) rfl rfl dX11_readExtra_130 ?_
    refine g_iload_n C dX11_readExtra_133 rfl 1 rfl ?_
    refine g_bipush (v := 7) C dX11_readExtra_134 (by decide) ?_
    refine g_iadd C dX11_readExtra_136 ?_
    refine g_aload_n C dX11_readExtra_137 rfl 0 rfl ?_
    refine g_bipush (v := 33) C dX11_readExtra_138 (by decide) ?_
    obtain ⟨g44, h⟩ := h
    refine gr_calliV C [.int 33] rfl (k_X11_takes l D T m0 a 33 r33 q40 g44) (w0_V 1 C.2.2.2.2.1 kw_2054 kw_2056 ks_66 kw_9 kw_2057 rfl rfl (by decide +kernel) ⟨by decide, by decide⟩) rfl (Nat.le_of_ble_eq_true rfl) (Nat.zero_le _) (Nat.zero_le _) dX11_readExtra_140 (fun v41 r42 q43 hp => ?_)
    replace h := h v41 r42 q43 hp
    refine g_if_eq (tgt := 156) C dX11_readExtra_143 (by decide) (fun z45 => ?_) (fun z45 => ?_)
    · replace h := h.1 z45
      refine g_iconst (v := -1) C dX11_readExtra_156 (by decide) ?_
      obtain ⟨g46, h⟩ := h
      refine gr_ast_5 C g46 dX11_readExtra_157 ?_
      refine gr_nq (fun q47 eq47 => ?_)
      replace h := h q47 eq47
      exact gr_vret C hr dX11_readExtra_158 h
    · replace h := h.2 z45
      refine g_aload_n C dX11_readExtra_146 rfl 0 rfl ?_
      refine g_iconst (v := 0) C dX11_readExtra_147 (by decide) ?_
      refine g_bipush (v := 9) C dX11_readExtra_148 (by decide) ?_
      obtain ⟨g51, h⟩ := h
      refine gr_calliV C [.int 0, .int 9] rfl (k_X11_digit l D T m0 a 0 9 r42 q43 g51) (w0_V 2 C.2.2.2.2.1 kw_2046 kw_2048 ks_64 kw_9 kw_2049 rfl rfl (by decide +kernel) ⟨by decide, by decide⟩) rfl (Nat.le_of_ble_eq_true rfl) (Nat.zero_le _) (Nat.zero_le _) dX11_readExtra_150 (fun v48 r49 q50 hp => ?_)
      replace h := h v48 r49 q50 hp
      refine g_goto (tgt := 157) C dX11_readExtra_153 (by decide) ?_
      obtain ⟨g52, h⟩ := h
      refine gr_ast_5 C g52 dX11_readExtra_157 ?_
      refine gr_nq (fun q53 eq53 => ?_)
      replace h := h q53 eq53
      exact gr_vret C hr dX11_readExtra_158 h
  · replace h := h.2 z36
    refine g_aload_n C dX11_readExtra_107 rfl 0 rfl ?_
    obtain ⟨g57, h⟩ := h
    refine gr_calliV C [] rfl (k_X11_readCondition l D T m0 a  r33 q34 g57) (w0_V 0 C.2.2.2.2.1 kw_2066 kw_2068 ks_69 kw_9 kw_2069 rfl rfl (by decide +kernel) ⟨by decide, by decide⟩) rfl (Nat.le_of_ble_eq_true rfl) (Nat.zero_le _) (Nat.zero_le _) dX11_readExtra_108 (fun v54 r55 q56 hp => ?_)
    replace h := h v54 r55 q56 hp
    refine g_goto (tgt := 115) C dX11_readExtra_111 (by decide) ?_
    obtain ⟨g58, h⟩ := h
    refine gr_ast_5 C g58 dX11_readExtra_115 ?_
    refine gr_nq (fun q59 eq59 => ?_)
    replace h := h q59 eq59
    refine g_aload_n C dX11_readExtra_116 rfl 0 rfl ?_
    refine gr_get C iwx_X11 14 (hw kw_1823) (by decide) rfl rfl dX11_readExtra_117 ?_
    refine g_iload_n C dX11_readExtra_120 rfl 1 rfl ?_
    refine g_bipush (v := 6) C dX11_readExtra_121 (by decide) ?_
    refine g_iadd C dX11_readExtra_123 ?_
    refine g_aload_n C dX11_readExtra_124 rfl 0 rfl ?_
    refine gr_get C iwx_X11 15 (hw kw_1824) (by decide) rfl rfl dX11_readExtra_125 ?_
    obtain ⟨g60, h⟩ := h
    refine gr_ast_5 C g60 dX11_readExtra_128 ?_
    refine gr_nq (fun q61 eq61 => ?_)
    replace h := h q61 eq61
    refine g_aload_n C dX11_readExtra_129 rfl 0 rfl ?_
    refine gr_get C iwx_X11 14 (hw kw_1823) (by decide) rfl rfl dX11_readExtra_130 ?_
    refine g_iload_n C dX11_readExtra_133 rfl 1 rfl ?_
    refine g_bipush (v := 7) C dX11_readExtra_134 (by decide) ?_
    refine g_iadd C dX11_readExtra_136 ?_
    refine g_aload_n C dX11_readExtra_137 rfl 0 rfl ?_
    refine g_bipush (v := 33) C dX11_readExtra_138 (by decide) ?_
    obtain ⟨g65, h⟩ := h
    refine gr_calliV C [.int 33] rfl (k_X11_takes l D T m0 a 33 r55 q61 g65) (w0_V 1 C.2.2.2.2.1 kw_2054 kw_2056 ks_66 kw_9 kw_2057 rfl rfl (by decide +kernel) ⟨by decide, by decide⟩) rfl (Nat.le_of_ble_eq_true rfl) (Nat.zero_le _) (Nat.zero_le _) dX11_readExtra_140 (fun v62 r63 q64 hp => ?_)
    replace h := h v62 r63 q64 hp
    refine g_if_eq (tgt := 156) C dX11_readExtra_143 (by decide) (fun z66 => ?_) (fun z66 => ?_)
    · replace h := h.1 z66
      refine g_iconst (v := -1) C dX11_readExtra_156 (by decide) ?_
      obtain ⟨g67, h⟩ := h
      refine gr_ast_5 C g67 dX11_readExtra_157 ?_
      refine gr_nq (fun q68 eq68 => ?_)
      replace h := h q68 eq68
      exact gr_vret C hr dX11_readExtra_158 h
    · replace h := h.2 z66
      refine g_aload_n C dX11_readExtra_146 rfl 0 rfl ?_
      refine g_iconst (v := 0) C dX11_readExtra_147 (by decide) ?_
      refine g_bipush (v := 9) C dX11_readExtra_148 (by decide) ?_
      obtain ⟨g72, h⟩ := h
      refine gr_calliV C [.int 0, .int 9] rfl (k_X11_digit l D T m0 a 0 9 r63 q64 g72) (w0_V 2 C.2.2.2.2.1 kw_2046 kw_2048 ks_64 kw_9 kw_2049 rfl rfl (by decide +kernel) ⟨by decide, by decide⟩) rfl (Nat.le_of_ble_eq_true rfl) (Nat.zero_le _) (Nat.zero_le _) dX11_readExtra_150 (fun v69 r70 q71 hp => ?_)
      replace h := h v69 r70 q71 hp
      refine g_goto (tgt := 157) C dX11_readExtra_153 (by decide) ?_
      obtain ⟨g73, h⟩ := h
      refine gr_ast_5 C g73 dX11_readExtra_157 ?_
      refine gr_nq (fun q74 eq74 => ?_)
      replace h := h q74 eq74
      exact gr_vret C hr dX11_readExtra_158 h
def wp_X11_readExtra_43 (P : RST → Prop) (x1 : Int32) (s0 : Int32) (s1 : Int32) (r : Nat → Int32) (q : Nat → Nat → Int32) : Prop := vp_in s1 640 ∧ (∀ q17 : Nat → Nat → Int32, q17 = va_up q 5 (upd (q 5) (Int32.toNatClampNeg s1) s0) → ((psO r ∧ ¬ 37 = (-1 : Int32)) ∧ (∀ (v18 : Int32) (r19 : Nat → Int32) (q20 : Nat → Nat → Int32), (v18 = b2i (tkB (q17 4) (iv (r 8)) (pσ r) 37) ∧ q20 = q17 ∧ kR r r19 [10] ∧ psO r19 ∧ pσ r19 = tkS (q17 4) (iv (r 8)) (pσ r) 37) → ((v18 = 0 → ((psO r19 ∧ ¬ 42 = (-1 : Int32)) ∧ (∀ (v23 : Int32) (r24 : Nat → Int32) (q25 : Nat → Nat → Int32), (v23 = b2i (tkB (q20 4) (iv (r19 8)) (pσ r19) 42) ∧ q25 = q20 ∧ kR r19 r24 [10] ∧ psO r24 ∧ pσ r24 = tkS (q20 4) (iv (r19 8)) (pσ r19) 42) → ((v23 = 0 → (wp_X11_readExtra_78  P x1 0 (x1 + 3) r24 q25)) ∧ (¬ v23 = 0 → (wp_X11_readExtra_78  P x1 1 (x1 + 3) r24 q25)))))) ∧ (¬ v18 = 0 → (wp_X11_readExtra_78  P x1 2 (x1 + 3) r19 q20))))))
set_option maxRecDepth 100000 in
set_option maxHeartbeats 4000000 in
theorem t_X11_readExtra_43 {p : Program} {l : Launch} {e : Env} {s : State} {m : MethodId} {args : Array Value} {below : List Frame} {meth : Method} {c : Code} {D : va_G} {A : Nat → Prop} {T : Nat → ClassId} {m0 : Nat} {a : Nat → Nat} (C : GC p s m args meth c cX11_readExtra "FreightRaterModel" (ws_X11_readExtra) 2 D A (zty T)) (hr : meth.sig.returnType = none) (P : RST → Prop) : ∀ (x1 : Int32) (s0 : Int32) (s1 : Int32) (r : Nat → Int32) (q : Nat → Nat → Int32), wp_X11_readExtra_43  P x1 s0 s1 r q → GW p l e rm_X11_readExtra s m args below meth c D A 2 0 0 (MQ below (va_Qv P (RE D T m0 a A) A) args s 0 0 A) (RW m0 a T r q) 0 0 43 [(0, .ref m0), (1, .int x1)] [.int s0, .int s1, .ref (a 5)] := by
  have hw : ∀ {w : Cond}, w ∈ W0 → w.before args s = true := fun h => C.2.2.2.2.1 _ (List.mem_cons_of_mem _ h)
  intro x1 s0 s1 r q h
  unfold wp_X11_readExtra_43 at h
  obtain ⟨g16, h⟩ := h
  refine gr_ast_5 C g16 dX11_readExtra_43 ?_
  refine gr_nq (fun q17 eq17 => ?_)
  replace h := h q17 eq17
  refine g_aload_n C dX11_readExtra_44 rfl 0 rfl ?_
  refine gr_get C iwx_X11 14 (hw kw_1823) (by decide) rfl rfl dX11_readExtra_45 ?_
  refine g_iload_n C dX11_readExtra_48 rfl 1 rfl ?_
  refine g_iconst (v := 3) C dX11_readExtra_49 (by decide) ?_
  refine g_iadd C dX11_readExtra_50 ?_
  refine g_aload_n C dX11_readExtra_51 rfl 0 rfl ?_
  refine g_bipush (v := 37) C dX11_readExtra_52 (by decide) ?_
  obtain ⟨g21, h⟩ := h
  refine gr_calliV C [.int 37] rfl (k_X11_takes l D T m0 a 37 r q17 g21) (w0_V 1 C.2.2.2.2.1 kw_2054 kw_2056 ks_66 kw_9 kw_2057 rfl rfl (by decide +kernel) ⟨by decide, by decide⟩) rfl (Nat.le_of_ble_eq_true rfl) (Nat.zero_le _) (Nat.zero_le _) dX11_readExtra_54 (fun v18 r19 q20 hp => ?_)
  replace h := h v18 r19 q20 hp
  refine g_if_eq (tgt := 64) C dX11_readExtra_57 (by decide) (fun z22 => ?_) (fun z22 => ?_)
  · replace h := h.1 z22
    refine g_aload_n C dX11_readExtra_64 rfl 0 rfl ?_
    refine g_bipush (v := 42) C dX11_readExtra_65 (by decide) ?_
    obtain ⟨g26, h⟩ := h
    refine gr_calliV C [.int 42] rfl (k_X11_takes l D T m0 a 42 r19 q20 g26) (w0_V 1 C.2.2.2.2.1 kw_2054 kw_2056 ks_66 kw_9 kw_2057 rfl rfl (by decide +kernel) ⟨by decide, by decide⟩) rfl (Nat.le_of_ble_eq_true rfl) (Nat.zero_le _) (Nat.zero_le _) dX11_readExtra_67 (fun v23 r24 q25 hp => ?_)
    replace h := h v23 r24 q25 hp
    refine g_if_eq (tgt := 77) C dX11_readExtra_70 (by decide) (fun z27 => ?_) (fun z27 => ?_)
    · replace h := h.1 z27
      refine g_iconst (v := 0) C dX11_readExtra_77 (by decide) ?_
      refine g_locals [0, 1] rfl ?_
      refine t_X11_readExtra_78 C hr  P  x1 0 (x1 + 3) r24 q25 h
    · replace h := h.2 z27
      refine g_iconst (v := 1) C dX11_readExtra_73 (by decide) ?_
      refine g_goto (tgt := 78) C dX11_readExtra_74 (by decide) ?_
      refine g_locals [0, 1] rfl ?_
      refine t_X11_readExtra_78 C hr  P  x1 1 (x1 + 3) r24 q25 h
  · replace h := h.2 z22
    refine g_iconst (v := 2) C dX11_readExtra_60 (by decide) ?_
    refine g_goto (tgt := 78) C dX11_readExtra_61 (by decide) ?_
    refine g_locals [0, 1] rfl ?_
    refine t_X11_readExtra_78 C hr  P  x1 2 (x1 + 3) r19 q20 h
def wp_X11_readExtra (P : RST → Prop) (p0 : Int32) (r : Nat → Int32) (q : Nat → Nat → Int32) : Prop := (psO r ∧ dix 0 9) ∧ (∀ (v1 : Int32) (r2 : Nat → Int32) (q3 : Nat → Nat → Int32), (v1 = dgV (q 4) (iv (r 8)) (pσ r) 0 9 ∧ q3 = q ∧ kR r r2 [10, 11] ∧ psO r2 ∧ pσ r2 = dgS (q 4) (iv (r 8)) (pσ r) 0 9) → (vp_in (p0 + 1) 640 ∧ (∀ q6 : Nat → Nat → Int32, q6 = va_up q3 5 (upd (q3 5) (Int32.toNatClampNeg (p0 + 1)) v1) → ((psO r2 ∧ ¬ 58 = (-1 : Int32)) ∧ (∀ (r8 : Nat → Int32) (q9 : Nat → Nat → Int32), (q9 = q6 ∧ kR r2 r8 [10, 11] ∧ psO r8 ∧ pσ r8 = ndS (q6 4) (iv (r2 8)) (pσ r2) 58) → (((r8 11) = 0 → ((psO r8) ∧ (∀ (v12 : Int32) (r13 : Nat → Int32) (q14 : Nat → Nat → Int32), (v12 = (nbF (q9 4) (iv (r8 8)) (pσ r8)).1 ∧ q14 = q9 ∧ kR r8 r13 [10, 11] ∧ psO r13 ∧ pσ r13 = (nbF (q9 4) (iv (r8 8)) (pσ r8)).2) → (wp_X11_readExtra_43  P p0 v12 (p0 + 2) r13 q14)))) ∧ (¬ (r8 11) = 0 → (wp_X11_readExtra_43  P p0 0 (p0 + 2) r8 q9))))))))
set_option maxRecDepth 100000 in
set_option maxHeartbeats 4000000 in
theorem t_X11_readExtra {p : Program} {l : Launch} {e : Env} {s : State} {m : MethodId} {args : Array Value} {below : List Frame} {meth : Method} {c : Code} {D : va_G} {A : Nat → Prop} {T : Nat → ClassId} {m0 : Nat} {a : Nat → Nat} (C : GC p s m args meth c cX11_readExtra "FreightRaterModel" (ws_X11_readExtra) 2 D A (zty T)) (hr : meth.sig.returnType = none) (P : RST → Prop) : ∀ (p0 : Int32) (r : Nat → Int32) (q : Nat → Nat → Int32), wp_X11_readExtra P p0 r q → GW p l e rm_X11_readExtra s m args below meth c D A 2 0 0 (MQ below (va_Qv P (RE D T m0 a A) A) args s 0 0 A) (RW m0 a T r q) 0 0 0 [(0, .ref m0), (1, .int p0)] [] := by
  have hw : ∀ {w : Cond}, w ∈ W0 → w.before args s = true := fun h => C.2.2.2.2.1 _ (List.mem_cons_of_mem _ h)
  intro p0 r q h
  unfold wp_X11_readExtra at h
  refine g_aload_n C dX11_readExtra_0 rfl 0 rfl ?_
  refine gr_get C iwx_X11 14 (hw kw_1823) (by decide) rfl rfl dX11_readExtra_1 ?_
  refine g_iload_n C dX11_readExtra_4 rfl 1 rfl ?_
  refine g_iconst (v := 1) C dX11_readExtra_5 (by decide) ?_
  refine g_iadd C dX11_readExtra_6 ?_
  refine g_aload_n C dX11_readExtra_7 rfl 0 rfl ?_
  refine g_iconst (v := 0) C dX11_readExtra_8 (by decide) ?_
  refine g_bipush (v := 9) C dX11_readExtra_9 (by decide) ?_
  obtain ⟨g4, h⟩ := h
  refine gr_calliV C [.int 0, .int 9] rfl (k_X11_digit l D T m0 a 0 9 r q g4) (w0_V 2 C.2.2.2.2.1 kw_2046 kw_2048 ks_64 kw_9 kw_2049 rfl rfl (by decide +kernel) ⟨by decide, by decide⟩) rfl (Nat.le_of_ble_eq_true rfl) (Nat.zero_le _) (Nat.zero_le _) dX11_readExtra_11 (fun v1 r2 q3 hp => ?_)
  replace h := h v1 r2 q3 hp
  obtain ⟨g5, h⟩ := h
  refine gr_ast_5 C g5 dX11_readExtra_14 ?_
  refine gr_nq (fun q6 eq6 => ?_)
  replace h := h q6 eq6
  refine g_aload_n C dX11_readExtra_15 rfl 0 rfl ?_
  refine g_bipush (v := 58) C dX11_readExtra_16 (by decide) ?_
  obtain ⟨g10, h⟩ := h
  refine gr_callvV C [.int 58] rfl (k_X11_need l D T m0 a 58 r2 q6 g10) (w0_V 1 C.2.2.2.2.1 kw_2050 kw_2052 ks_65 kw_9 kw_2053 rfl rfl (by decide +kernel) ⟨by decide, by decide⟩) rfl (Nat.le_of_ble_eq_true rfl) (Nat.zero_le _) (Nat.zero_le _) dX11_readExtra_18 (fun r8 q9 hp => ?_)
  replace h := h r8 q9 hp
  refine g_aload_n C dX11_readExtra_21 rfl 0 rfl ?_
  refine gr_get C iwx_X11 14 (hw kw_1823) (by decide) rfl rfl dX11_readExtra_22 ?_
  refine g_iload_n C dX11_readExtra_25 rfl 1 rfl ?_
  refine g_iconst (v := 2) C dX11_readExtra_26 (by decide) ?_
  refine g_iadd C dX11_readExtra_27 ?_
  refine g_aload_n C dX11_readExtra_28 rfl 0 rfl ?_
  refine gr_get C iwx_X11 11 (hw kw_1820) (by decide) rfl rfl dX11_readExtra_29 ?_
  refine g_if_eq (tgt := 39) C dX11_readExtra_32 (by decide) (fun z11 => ?_) (fun z11 => ?_)
  · replace h := h.1 z11
    refine g_aload_n C dX11_readExtra_39 rfl 0 rfl ?_
    obtain ⟨g15, h⟩ := h
    refine gr_calliV C [] rfl (k_X11_number l D T m0 a  r8 q9 g15) (w0_V 0 C.2.2.2.2.1 kw_2058 kw_2060 ks_67 kw_9 kw_2061 rfl rfl (by decide +kernel) ⟨by decide, by decide⟩) rfl (Nat.le_of_ble_eq_true rfl) (Nat.zero_le _) (Nat.zero_le _) dX11_readExtra_40 (fun v12 r13 q14 hp => ?_)
    replace h := h v12 r13 q14 hp
    refine g_locals [0, 1] rfl ?_
    refine t_X11_readExtra_43 C hr  P  p0 v12 (p0 + 2) r13 q14 h
  · replace h := h.2 z11
    refine g_iconst (v := 0) C dX11_readExtra_35 (by decide) ?_
    refine g_goto (tgt := 43) C dX11_readExtra_36 (by decide) ?_
    refine g_locals [0, 1] rfl ?_
    refine t_X11_readExtra_43 C hr  P  p0 0 (p0 + 2) r8 q9 h
theorem c_X11_readExtra (l : Launch) (D : va_G) (T : Nat → ClassId) (m0 : Nat) (a : Nat → Nat) (p0 : Int32) (r : Nat → Int32) (q : Nat → Nat → Int32) (P : RST → Prop) (h : wp_X11_readExtra P p0 r q) : RMv l yX11_readExtra (ws_X11_readExtra) rm_X11_readExtra D T m0 a [.ref m0, .int p0] r q P := gr_metv (by decide) rfl rfl (Nat.le_of_ble_eq_true rfl) (fun p e s m args below meth c A C hr => t_X11_readExtra C hr P p0 r q h)
abbrev STM : Type := (Int32 × Int32 × Int32 × Int32) × (List (Nat × TS) × Nat) × Int32
/-- an accessorial's statement behind its letter: where the number ends -/
def exN (b : Nat → Int32) (n : Nat) (σ : PS) : Int32 × PS := nbF b n (ndS b n (dgS b n σ 0 9) 58)
def exU (b : Nat → Int32) (n : Nat) (σ : PS) : Int32 × PS := if tkB b n σ 37 = true then (2, tkS b n σ 37) else if tkB b n σ 42 = true then (1, tkS b n σ 42) else (0, σ)
def exC (b : Nat → Int32) (n : Nat) (σ : PS) : (List (Nat × TS) × Nat) × PS := if tkB b n σ 63 = true then (((cnF b n (tkS b n σ 63)).1, (cnF b n (tkS b n σ 63)).2.1 + 1), (cnF b n (tkS b n σ 63)).2.2) else (([], 0), σ)
def exX (b : Nat → Int32) (n : Nat) (σ : PS) : Int32 × PS := if tkB b n σ 33 = true then (dgV b n (tkS b n σ 33) 0 9, dgS b n (tkS b n σ 33) 0 9) else (-1, σ)
def exR (b : Nat → Int32) (n : Nat) (σ : PS) : STM × PS :=
  (((97, dgV b n σ 0 9, (exN b n σ).1, (exU b n (exN b n σ).2).1), (exC b n (exU b n (exN b n σ).2).2).1, (exX b n (exC b n (exU b n (exN b n σ).2).2).2).1), (exX b n (exC b n (exU b n (exN b n σ).2).2).2).2)
/-- where an accessorial's condition and exclusion stand -/
def exK (w u : Nat → Int32) (s hi : Nat) (x : STM) : Prop := ∃ t : Nat, t + x.2.1.1.length ≤ hi ∧ w (s + 4) = nI t ∧ w (s + 5) = nI x.2.1.2 ∧ w (s + 6) = nI (t + x.2.1.1.length) ∧ w (s + 7) = x.2.2 ∧ tsK u t x.2.1.1
def exP (r : Nat → Int32) (q : Nat → Nat → Int32) (s : Nat) (r1 : Nat → Int32) (q1 : Nat → Nat → Int32) : Prop := kR r r1 [10, 11, 15] ∧ kQ q q1 [5, 6] ∧ psO r1 ∧ pσ r1 = (exR (q 4) (iv (r 8)) (pσ r)).2 ∧ ((pσ r1).2 = false → kS (q 5) (q1 5) s ∧ (∀ i, i < iv (r 15) → q1 6 i = q 6 i) ∧ tsO r1 ∧ iv (r 15) ≤ iv (r1 15) ∧ q1 5 (s + 1) = (exR (q 4) (iv (r 8)) (pσ r)).1.1.2.1 ∧ q1 5 (s + 2) = (exR (q 4) (iv (r 8)) (pσ r)).1.1.2.2.1 ∧ q1 5 (s + 3) = (exR (q 4) (iv (r 8)) (pσ r)).1.1.2.2.2 ∧ exK (q1 5) (q1 6) s (iv (r1 15)) (exR (q 4) (iv (r 8)) (pσ r)).1)
theorem tkS_bd {b : Nat → Int32} {n : Nat} {σ : PS} {c : Int32} : (tkS b n σ c).2 = σ.2 := by
  unfold tkS
  split
  · rfl
  · rfl
theorem dgS_bd {b : Nat → Int32} {n : Nat} {σ : PS} {lo hi : Int32} (h : (dgS b n σ lo hi).2 = false) : σ.2 = false := by
  unfold dgS at h
  split at h
  · exact h
  · cases h
theorem exX_gd {b : Nat → Int32} {n : Nat} {σ : PS} (h : (exX b n σ).2.2 = false) : σ.2 = false := by
  unfold exX at h
  split at h
  · have := dgS_bd h; rw [tkS_bd] at this; exact this
  · exact h
theorem exC_gd {b : Nat → Int32} {n : Nat} {σ : PS} (h : (exC b n σ).2.2 = false) : σ.2 = false := by
  unfold exC at h
  split at h
  · rename_i c; exact (tkB_gd (by decide) c).1
  · exact h
theorem exU_bd {b : Nat → Int32} {n : Nat} {σ : PS} : (exU b n σ).2.2 = σ.2 := by
  unfold exU
  split
  · exact tkS_bd
  split
  · exact tkS_bd
  · rfl
theorem tsO.vv {r : Nat → Int32} (h : tsO r) (hp : psO r) : r 15 = nI (iv (r 15)) ∧ iv (r 15) < 80 := by
  obtain ⟨t, ht, e⟩ := h
  obtain ⟨p1, p2, p3⟩ := ps_1 hp
  have : iv (r 10) = (pσ r).1 := rfl
  have et : iv (r 15) = t := by rw [e]; exact nI_clamp (by omega)
  rw [et]
  exact ⟨e, by omega⟩
theorem bx_of {v : Int32} {t : Bool} (h : v = b2i t) (c : ¬ v = 0) : t = true := by
  cases t with
  | true => rfl
  | false => exact absurd h c
theorem cnL_len {b : Nat → Int32} {n : Nat} : ∀ (k row : Nat) (σ : PS), (cnL b n k row σ).1.length ≤ k := by
  intro k
  induction k with
  | zero => intro row σ; exact Nat.le_refl _
  | succ k ih =>
    intro row σ
    rw [cnL]
    split
    · exact Nat.zero_le _
    split
    · exact Nat.succ_le_succ (ih _ _)
    split
    · exact Nat.succ_le_succ (ih _ _)
    · exact Nat.zero_le _
theorem exC_len {b : Nat → Int32} {n : Nat} {σ : PS} : (exC b n σ).1.1.length ≤ 81 := by
  unfold exC
  split
  · exact Nat.succ_le_succ (cnL_len _ _ _)
  · exact Nat.zero_le _
/-- the last piece: from the condition's end on -/
theorem w_ext {P : RST → Prop} {r0 r : Nat → Int32} {q0 q : Nat → Nat → Int32} {s n : Nat} {b : Nat → Int32} {σ : PS} {rows : Int32} (hs : s + 8 ≤ 640) (h15 : iv (r0 15) < 80) (hb : q0 4 = b) (hn : iv (r0 8) = n) (hσ0 : σ = (exU b n (exN b n (pσ r0)).2).2) (hP : ∀ r1 q1, exP r0 q0 s r1 q1 → P (r1, q1)) (hk : kR r0 r [10, 11, 15]) (hq : kQ q0 q [5, 6]) (hp : psO r) (hσ : pσ r = (exC b n σ).2) (hG : (pσ r).2 = false → kS (q0 5) (q 5) s ∧ (∀ i, i < iv (r0 15) → q 6 i = q0 6 i) ∧ tsO r ∧ q 5 (s + 1) = dgV b n (pσ r0) 0 9 ∧ q 5 (s + 2) = (exN b n (pσ r0)).1 ∧ q 5 (s + 3) = (exU b n (exN b n (pσ r0)).2).1 ∧ q 5 (s + 4) = r0 15 ∧ r0 15 = nI (iv (r0 15)) ∧ r 15 = nI (iv (r0 15) + (exC b n σ).1.1.length) ∧ rows = nI (exC b n σ).1.2 ∧ tsK (q 6) (iv (r0 15)) (exC b n σ).1.1) : (vp_in (nI s + 5) 640 ∧ (∀ q58 : Nat → Nat → Int32, q58 = va_up q 5 (upd (q 5) (iv (nI s + 5)) rows) → (vp_in (nI s + 6) 640 ∧ (∀ q60 : Nat → Nat → Int32, q60 = va_up q58 5 (upd (q58 5) (iv (nI s + 6)) (r 15)) → ((psO r ∧ ¬ (33 : Int32) = (-1)) ∧ (∀ (v61 : Int32) (r62 : Nat → Int32) (q63 : Nat → Nat → Int32), (v61 = b2i (tkB (q60 4) (iv (r 8)) (pσ r) 33) ∧ q63 = q60 ∧ kR r r62 [10] ∧ psO r62 ∧ pσ r62 = tkS (q60 4) (iv (r 8)) (pσ r) 33) → ((v61 = 0 → (vp_in (nI s + 7) 640 ∧ (∀ q67 : Nat → Nat → Int32, q67 = va_up q63 5 (upd (q63 5) (iv (nI s + 7)) (-1)) → (P (r62, q67))))) ∧ (¬ v61 = 0 → ((psO r62 ∧ dix 0 9) ∧ (∀ (v68 : Int32) (r69 : Nat → Int32) (q70 : Nat → Nat → Int32), (v68 = dgV (q63 4) (iv (r62 8)) (pσ r62) 0 9 ∧ q70 = q63 ∧ kR r62 r69 [10, 11] ∧ psO r69 ∧ pσ r69 = dgS (q63 4) (iv (r62 8)) (pσ r62) 0 9) → (vp_in (nI s + 7) 640 ∧ (∀ q73 : Nat → Nat → Int32, q73 = va_up q70 5 (upd (q70 5) (iv (nI s + 7)) v68) → (P (r69, q73)))))))))))))) := by
  have e8 : iv (r 8) = n := by rw [hk 8 (by decide)]; exact hn
  have e4 : q 4 = b := (hq 4 (by decide)).trans hb
  simp (disch := omega) only [li_2, li_3, li_4, li_5, li_6, li_7, li_8, li_9, li_10, li_12, li_14, li_20, li_26, li_30, li_31, li_36, li_38, li_47, li_48, li_50, li_57, li_58, li_80, li_98, li_99, li_100, li_102, li_104, li_105, li_108, li_109, li_110, li_114, li_115, li_119, li_122, li_137, li_146, li_147, li_148, li_149, li_150, li_200, li_255, li_256, li_274, li_510, li_512, li_640, li_999, li_1000, li_1024, li_3334, li_5000, li_9999, li_10000, li_23338, li_26672, li_30000, li_99999, li_150000, li_300000, pk_mul, nI_add, pk_sub, nI_clamp, nI_1, nI_p1, nI_a0, nI_0a, nI_m0, nI_m1, cl_0, cl_1, z01, z11, nI_leI, nI_ltI, nI_eq, nz_lt0, nz_le, nz_eq0, nz_pos, nz_le0, nz_eq1, nz_lt1, nz_ge1, nz_le1, nz_gt1, nz_vp, nz_vp0, nz_vp1, six_nI, vix_nI, bix_nI, pix_nI, fix_nI, gix_nI, rix_nI, zix_nI, pix_0, pix_1, bix_0, fix_0, fix_1, rix_1, true_and, and_true]
  simp only [du_33, du_9]
  refine ⟨by omega, fun q58 e58 => ⟨by omega, fun q60 e60 => ⟨⟨hp, by decide⟩, fun v61 r62 q63 hh => ?_⟩⟩⟩
  obtain ⟨a1, a2, a3, a4, a5⟩ := hh
  subst a2
  have e604 : q63 4 = b := by rw [e60, va_up_ne _ _ (by decide), e58, va_up_ne _ _ (by decide)]; exact e4
  have k60 : kQ q0 q63 [5, 6] := by rw [e60, e58]; exact (hq.up (by decide) _).up (by decide) _
  rw [e604, e8] at a1 a5
  have k62 : kR r0 r62 [10, 11, 15] := hk.tr a3 (fun _ h => h) (by decide)
  have e628 : iv (r62 8) = n := by rw [k62 8 (by decide)]; exact hn
  have c5 : q63 5 = upd (upd (q 5) (s + 5) rows) (s + 6) (r 15) := by rw [e60, va_up_self, e58, va_up_self]
  have c6 : q63 6 = q 6 := by rw [e60, va_up_ne _ _ (by decide), e58, va_up_ne _ _ (by decide)]
  -- both ends
  have fin : ∀ (x : Int32) (r1 : Nat → Int32) (q1 : Nat → Nat → Int32), q1 = va_up q63 5 (upd (q63 5) (s + 7) x) → kR r0 r1 [10, 11, 15] → kR r r1 [10, 11] → psO r1 → (pσ r).1 ≤ (pσ r1).1 → (x, pσ r1) = exX b n (pσ r) → P (r1, q1) := by
    intro x r1 q1 e1 k1 k2 p1 hle hx
    refine hP _ _ ?_
    have hR : exR (q0 4) (iv (r0 8)) (pσ r0) = (((97, dgV b n (pσ r0) 0 9, (exN b n (pσ r0)).1, (exU b n (exN b n (pσ r0)).2).1), (exC b n σ).1, x), pσ r1) := by
      unfold exR
      rw [hb, hn, ← hσ0, ← hσ, ← hx]
    unfold exP
    rw [hR]
    refine ⟨k1, by rw [e1]; exact k60.up (by decide) _, p1, rfl, fun z => ?_⟩
    have hgd : (pσ r).2 = false := exX_gd (b := b) (n := n) (by rw [← hx]; exact z)
    obtain ⟨g1, g2, g3, g4, g5, g6, g7, g8, g9, g10, g11⟩ := hG hgd
    have f15 : r1 15 = nI (iv (r0 15) + (exC b n σ).1.1.length) := (k2 15 (by decide)).trans g9
    have hO1 : tsO r1 := g3.tk (k2 15 (by decide)) hle
    have d6 : q1 6 = q 6 := by rw [e1, va_up_ne _ _ (by decide)]; exact c6
    have d5 : q1 5 = upd (upd (upd (q 5) (s + 5) rows) (s + 6) (r 15)) (s + 7) x := by rw [e1, va_up_self, c5]
    have hlen : iv (r1 15) = iv (r0 15) + (exC b n σ).1.1.length := by
      have := exC_len (b := b) (n := n) (σ := σ)
      rw [f15]
      exact nI_clamp (by omega)
    rw [hlen]
    refine ⟨?_, fun i hi => by rw [d6]; exact g2 i hi, hO1, by omega, ?_, ?_, ?_, iv (r0 15), Nat.le_refl _, ?_, ?_, ?_, ?_, ?_⟩
    · rw [d5]; exact ((g1.up (by omega) (by omega) _).up (by omega) (by omega) _).up (by omega) (by omega) _
    · rw [d5, pk_un (by omega), pk_un (by omega), pk_un (by omega)]; exact g4
    · rw [d5, pk_un (by omega), pk_un (by omega), pk_un (by omega)]; exact g5
    · rw [d5, pk_un (by omega), pk_un (by omega), pk_un (by omega)]; exact g6
    · rw [d5, pk_un (by omega), pk_un (by omega), pk_un (by omega), g7]; exact g8
    · rw [d5, pk_un (by omega), pk_un (by omega), pk_us]; exact g10
    · rw [d5, pk_un (by omega), pk_us]; exact g9
    · rw [d5, pk_us]
    · rw [d6]; exact g11
  refine ⟨fun c => ⟨by omega, fun q67 e67 => ?_⟩, fun c => ⟨⟨a4, dix09⟩, fun v68 r69 q70 hh => ?_⟩⟩
  · have ht : tkB b n (pσ r) 33 = false := (b2i_0 _).mp (a1.symm.trans c)
    rw [tkS_no ht] at a5
    refine fin (-1) r62 q67 e67 k62 (a3.mn (by decide)) a4 (by rw [a5]; exact Nat.le_refl _) ?_
    unfold exX
    rw [ht, a5, if_neg (by decide)]
  · obtain ⟨d1, d2, d3, d4, d5⟩ := hh
    subst d2
    rw [e604, e628, a5] at d1 d5
    have ht := bx_of a1 c
    refine ⟨by omega, fun q73 e73 => ?_⟩
    refine fin v68 r69 q73 e73 (k62.tr d3 (fun _ h => h) (by decide)) (a3.tr d3 (by decide) (by decide)) d4 ?_ ?_
    · rw [d5]
      have h1 := tkS_le (b := b) (n := n) (σ := pσ r) (c := 33) (by decide) (by have := (ps_1 hp).1; omega)
      exact Nat.le_trans h1.2.1 (dgS_le dix09 h1.1).2
    · unfold exX
      rw [if_pos ht, d1, d5]
/-- from the kind on -/
theorem w_ex78 {P : RST → Prop} {r0 r : Nat → Int32} {q0 q : Nat → Nat → Int32} {s n : Nat} {b : Nat → Int32} {kd : Int32} (hs : s + 8 ≤ 640) (h15 : iv (r0 15) < 80) (hO : tsO r0) (hp0 : psO r0) (hb : q0 4 = b) (hn : iv (r0 8) = n) (hP : ∀ r1 q1, exP r0 q0 s r1 q1 → P (r1, q1)) (hk : kR r0 r [10, 11]) (hq : kQ q0 q [5]) (hp : psO r) (hle : (pσ r0).1 ≤ (pσ r).1) (hσ : (kd, pσ r) = exU b n (exN b n (pσ r0)).2) (hG : (pσ r).2 = false → kS (q0 5) (q 5) s ∧ q 5 (s + 1) = dgV b n (pσ r0) 0 9 ∧ q 5 (s + 2) = (exN b n (pσ r0)).1) : wp_X11_readExtra_78 P (nI s) kd (nI s + 3) r q := by
  have e8 : iv (r 8) = n := by rw [hk 8 (by decide)]; exact hn
  have e4 : q 4 = b := (hq 4 (by decide)).trans hb
  have e15 : r 15 = r0 15 := hk 15 (by decide)
  have hO1 : tsO r := hO.tk e15 hle
  unfold wp_X11_readExtra_78
  rw [show vp_in (nI s + 3) 640 = (s + 3 < 640) by simp (disch := omega) only [li_2, li_3, li_4, li_5, li_6, li_7, li_8, li_9, li_10, li_12, li_14, li_20, li_26, li_30, li_31, li_36, li_38, li_47, li_48, li_50, li_57, li_58, li_80, li_98, li_99, li_100, li_102, li_104, li_105, li_108, li_109, li_110, li_114, li_115, li_119, li_122, li_137, li_146, li_147, li_148, li_149, li_150, li_200, li_255, li_256, li_274, li_510, li_512, li_640, li_999, li_1000, li_1024, li_3334, li_5000, li_9999, li_10000, li_23338, li_26672, li_30000, li_99999, li_150000, li_300000, pk_mul, nI_add, pk_sub, nI_clamp, nI_1, nI_p1, nI_a0, nI_0a, nI_m0, nI_m1, cl_0, cl_1, z01, z11, nI_leI, nI_ltI, nI_eq, nz_lt0, nz_le, nz_eq0, nz_pos, nz_le0, nz_eq1, nz_lt1, nz_ge1, nz_le1, nz_gt1, nz_vp, nz_vp0, nz_vp1, six_nI, vix_nI, bix_nI, pix_nI, fix_nI, gix_nI, rix_nI, zix_nI, pix_0, pix_1, bix_0, fix_0, fix_1, rix_1, true_and, and_true], show Int32.toNatClampNeg (nI s + 3) = s + 3 by simp (disch := omega) only [li_2, li_3, li_4, li_5, li_6, li_7, li_8, li_9, li_10, li_12, li_14, li_20, li_26, li_30, li_31, li_36, li_38, li_47, li_48, li_50, li_57, li_58, li_80, li_98, li_99, li_100, li_102, li_104, li_105, li_108, li_109, li_110, li_114, li_115, li_119, li_122, li_137, li_146, li_147, li_148, li_149, li_150, li_200, li_255, li_256, li_274, li_510, li_512, li_640, li_999, li_1000, li_1024, li_3334, li_5000, li_9999, li_10000, li_23338, li_26672, li_30000, li_99999, li_150000, li_300000, pk_mul, nI_add, pk_sub, nI_clamp, nI_1, nI_p1, nI_a0, nI_0a, nI_m0, nI_m1, cl_0, cl_1, z01, z11, nI_leI, nI_ltI, nI_eq, nz_lt0, nz_le, nz_eq0, nz_pos, nz_le0, nz_eq1, nz_lt1, nz_ge1, nz_le1, nz_gt1, nz_vp, nz_vp0, nz_vp1, six_nI, vix_nI, bix_nI, pix_nI, fix_nI, gix_nI, rix_nI, zix_nI, pix_0, pix_1, bix_0, fix_0, fix_1, rix_1, true_and, and_true], show vp_in (nI s + 4) 640 = (s + 4 < 640) by simp (disch := omega) only [li_2, li_3, li_4, li_5, li_6, li_7, li_8, li_9, li_10, li_12, li_14, li_20, li_26, li_30, li_31, li_36, li_38, li_47, li_48, li_50, li_57, li_58, li_80, li_98, li_99, li_100, li_102, li_104, li_105, li_108, li_109, li_110, li_114, li_115, li_119, li_122, li_137, li_146, li_147, li_148, li_149, li_150, li_200, li_255, li_256, li_274, li_510, li_512, li_640, li_999, li_1000, li_1024, li_3334, li_5000, li_9999, li_10000, li_23338, li_26672, li_30000, li_99999, li_150000, li_300000, pk_mul, nI_add, pk_sub, nI_clamp, nI_1, nI_p1, nI_a0, nI_0a, nI_m0, nI_m1, cl_0, cl_1, z01, z11, nI_leI, nI_ltI, nI_eq, nz_lt0, nz_le, nz_eq0, nz_pos, nz_le0, nz_eq1, nz_lt1, nz_ge1, nz_le1, nz_gt1, nz_vp, nz_vp0, nz_vp1, six_nI, vix_nI, bix_nI, pix_nI, fix_nI, gix_nI, rix_nI, zix_nI, pix_0, pix_1, bix_0, fix_0, fix_1, rix_1, true_and, and_true], show Int32.toNatClampNeg (nI s + 4) = s + 4 by simp (disch := omega) only [li_2, li_3, li_4, li_5, li_6, li_7, li_8, li_9, li_10, li_12, li_14, li_20, li_26, li_30, li_31, li_36, li_38, li_47, li_48, li_50, li_57, li_58, li_80, li_98, li_99, li_100, li_102, li_104, li_105, li_108, li_109, li_110, li_114, li_115, li_119, li_122, li_137, li_146, li_147, li_148, li_149, li_150, li_200, li_255, li_256, li_274, li_510, li_512, li_640, li_999, li_1000, li_1024, li_3334, li_5000, li_9999, li_10000, li_23338, li_26672, li_30000, li_99999, li_150000, li_300000, pk_mul, nI_add, pk_sub, nI_clamp, nI_1, nI_p1, nI_a0, nI_0a, nI_m0, nI_m1, cl_0, cl_1, z01, z11, nI_leI, nI_ltI, nI_eq, nz_lt0, nz_le, nz_eq0, nz_pos, nz_le0, nz_eq1, nz_lt1, nz_ge1, nz_le1, nz_gt1, nz_vp, nz_vp0, nz_vp1, six_nI, vix_nI, bix_nI, pix_nI, fix_nI, gix_nI, rix_nI, zix_nI, pix_0, pix_1, bix_0, fix_0, fix_1, rix_1, true_and, and_true]]
  refine ⟨by omega, fun q29 e29 => ⟨by omega, fun q31 e31 => ⟨⟨hp, by decide⟩, fun v32 r33 q34 hh => ?_⟩⟩⟩
  obtain ⟨a1, a2, a3, a4, a5⟩ := hh
  subst a2
  have e314 : q34 4 = b := by rw [e31, va_up_ne _ _ (by decide), e29, va_up_ne _ _ (by decide)]; exact e4
  have k31 : kQ q0 q34 [5, 6] := by rw [e31, e29]; exact ((hq.mn (by decide)).up (by decide) _).up (by decide) _
  have c5 : q34 5 = upd (upd (q 5) (s + 3) kd) (s + 4) (r 15) := by rw [e31, va_up_self, e29, va_up_self]
  have c6 : q34 6 = q0 6 := by rw [e31, va_up_ne _ _ (by decide), e29, va_up_ne _ _ (by decide)]; exact hq 6 (by decide)
  rw [e314, e8] at a1 a5
  have k33 : kR r0 r33 [10, 11] := hk.tr a3 (fun _ h => h) (by decide)
  have hh0 : exU b n (exN b n (pσ r0)).2 = (kd, pσ r) := hσ.symm
  have G3 : (pσ r).2 = false → kS (q0 5) (q34 5) s ∧ q34 5 (s + 1) = dgV b n (pσ r0) 0 9 ∧ q34 5 (s + 2) = (exN b n (pσ r0)).1 ∧ q34 5 (s + 3) = (exU b n (exN b n (pσ r0)).2).1 ∧ q34 5 (s + 4) = r0 15 := fun z => by
    obtain ⟨g1, g2, g3⟩ := hG z
    rw [c5, hh0]
    refine ⟨(g1.up (by omega) (by omega) _).up (by omega) (by omega) _, ?_, ?_, ?_, ?_⟩
    · rw [pk_un (by omega), pk_un (by omega)]; exact g2
    · rw [pk_un (by omega), pk_un (by omega)]; exact g3
    · rw [pk_un (by omega), pk_us]
    · rw [pk_us]; exact e15
  have hσ' : pσ r = (exU b n (exN b n (pσ r0)).2).2 := by rw [hh0]
  refine ⟨fun c => ?_, fun c => ?_⟩
  · have ht : tkB b n (pσ r) 63 = false := (b2i_0 _).mp (a1.symm.trans c)
    rw [tkS_no ht] at a5
    have hC : exC b n (pσ r) = (([], 0), pσ r) := by unfold exC; rw [ht]; rfl
    refine w_ext (σ := pσ r) hs h15 hb hn hσ' hP (k33.mn (by decide)) k31 a4 (by rw [hC, a5]) (fun z => ?_)
    rw [a5] at z
    obtain ⟨g1, g2, g3, g4, g5⟩ := G3 z
    rw [hC]
    refine ⟨g1, fun i _ => by rw [c6], hO1.tk (a3 15 (by decide)) (by rw [a5]; exact Nat.le_refl _), g2, g3, g4, g5, (hO.vv hp0).1, ?_, rfl, tsK.nil⟩
    rw [k33 15 (by decide)]; exact (hO.vv hp0).1
  · have ht := bx_of a1 c
    obtain ⟨t1, t2, t3⟩ := tkB_gd (by decide) ht
    have hO33 : tsO r33 := hO1.tk (a3 15 (by decide)) (by rw [a5, t3]; exact Nat.le_succ _)
    refine ⟨⟨a4, hO33⟩, fun v54 r55 q56 hc => ?_⟩
    obtain ⟨b1, b2, b3, b4, b5⟩ := hc
    rw [e314, show iv (r33 8) = n by rw [k33 8 (by decide)]; exact hn, a5] at b4 b5
    have hC : exC b n (pσ r) = (((cnF b n (tkS b n (pσ r) 63)).1, (cnF b n (tkS b n (pσ r) 63)).2.1 + 1), (cnF b n (tkS b n (pσ r) 63)).2.2) := by unfold exC; rw [ht, if_pos rfl]
    refine w_ext (σ := pσ r) hs h15 hb hn hσ' hP (k33.tr b1 (by decide) (fun _ h => h)) (k31.tr b2 (fun _ h => h) (by decide)) b3 (by rw [hC]; exact b4) (fun z => ?_)
    obtain ⟨g1, g2, g3, g4, g5⟩ := G3 t1
    obtain ⟨d1, d2, d3, d4, d5⟩ := b5 z
    have e33 : r33 15 = r0 15 := k33 15 (by decide)
    rw [e33] at d1 d3 d5
    rw [hC, b2 5 (by decide)]
    exact ⟨g1, fun i hi => by rw [d1 i hi, c6], d2, g2, g3, g4, g5, (hO.vv hp0).1, d3, d4, d5⟩
theorem w_ex43 {P : RST → Prop} {r0 r : Nat → Int32} {q0 q : Nat → Nat → Int32} {s n : Nat} {b : Nat → Int32} {v : Int32} (hs : s + 8 ≤ 640) (h15 : iv (r0 15) < 80) (hO : tsO r0) (hp0 : psO r0) (hb : q0 4 = b) (hn : iv (r0 8) = n) (hP : ∀ r1 q1, exP r0 q0 s r1 q1 → P (r1, q1)) (hk : kR r0 r [10, 11]) (hq : kQ q0 q [5]) (hp : psO r) (hle : (pσ r0).1 ≤ (pσ r).1) (hσ : (v, pσ r) = exN b n (pσ r0)) (hG : (pσ r).2 = false → kS (q0 5) (q 5) s ∧ q 5 (s + 1) = dgV b n (pσ r0) 0 9) : wp_X11_readExtra_43 P (nI s) v (nI s + 2) r q := by
  have e8 : iv (r 8) = n := by rw [hk 8 (by decide)]; exact hn
  have e4 : q 4 = b := (hq 4 (by decide)).trans hb
  unfold wp_X11_readExtra_43
  rw [show vp_in (nI s + 2) 640 = (s + 2 < 640) by simp (disch := omega) only [li_2, li_3, li_4, li_5, li_6, li_7, li_8, li_9, li_10, li_12, li_14, li_20, li_26, li_30, li_31, li_36, li_38, li_47, li_48, li_50, li_57, li_58, li_80, li_98, li_99, li_100, li_102, li_104, li_105, li_108, li_109, li_110, li_114, li_115, li_119, li_122, li_137, li_146, li_147, li_148, li_149, li_150, li_200, li_255, li_256, li_274, li_510, li_512, li_640, li_999, li_1000, li_1024, li_3334, li_5000, li_9999, li_10000, li_23338, li_26672, li_30000, li_99999, li_150000, li_300000, pk_mul, nI_add, pk_sub, nI_clamp, nI_1, nI_p1, nI_a0, nI_0a, nI_m0, nI_m1, cl_0, cl_1, z01, z11, nI_leI, nI_ltI, nI_eq, nz_lt0, nz_le, nz_eq0, nz_pos, nz_le0, nz_eq1, nz_lt1, nz_ge1, nz_le1, nz_gt1, nz_vp, nz_vp0, nz_vp1, six_nI, vix_nI, bix_nI, pix_nI, fix_nI, gix_nI, rix_nI, zix_nI, pix_0, pix_1, bix_0, fix_0, fix_1, rix_1, true_and, and_true], show Int32.toNatClampNeg (nI s + 2) = s + 2 by simp (disch := omega) only [li_2, li_3, li_4, li_5, li_6, li_7, li_8, li_9, li_10, li_12, li_14, li_20, li_26, li_30, li_31, li_36, li_38, li_47, li_48, li_50, li_57, li_58, li_80, li_98, li_99, li_100, li_102, li_104, li_105, li_108, li_109, li_110, li_114, li_115, li_119, li_122, li_137, li_146, li_147, li_148, li_149, li_150, li_200, li_255, li_256, li_274, li_510, li_512, li_640, li_999, li_1000, li_1024, li_3334, li_5000, li_9999, li_10000, li_23338, li_26672, li_30000, li_99999, li_150000, li_300000, pk_mul, nI_add, pk_sub, nI_clamp, nI_1, nI_p1, nI_a0, nI_0a, nI_m0, nI_m1, cl_0, cl_1, z01, z11, nI_leI, nI_ltI, nI_eq, nz_lt0, nz_le, nz_eq0, nz_pos, nz_le0, nz_eq1, nz_lt1, nz_ge1, nz_le1, nz_gt1, nz_vp, nz_vp0, nz_vp1, six_nI, vix_nI, bix_nI, pix_nI, fix_nI, gix_nI, rix_nI, zix_nI, pix_0, pix_1, bix_0, fix_0, fix_1, rix_1, true_and, and_true]]
  refine ⟨by omega, fun q17 e17 => ⟨⟨hp, by decide⟩, fun v18 r19 q20 hh => ?_⟩⟩
  obtain ⟨a1, a2, a3, a4, a5⟩ := hh
  subst a2
  have e174 : q20 4 = b := by rw [e17, va_up_ne _ _ (by decide)]; exact e4
  have k17 : kQ q0 q20 [5] := by rw [e17]; exact hq.up (by decide) _
  rw [e174, e8] at a1 a5
  have k19 : kR r0 r19 [10, 11] := hk.tr a3 (fun _ h => h) (by decide)
  have e198 : iv (r19 8) = n := by rw [k19 8 (by decide)]; exact hn
  have hN : (exN b n (pσ r0)) = (v, pσ r) := hσ.symm
  have hpl := (ps_1 hp).1
  rw [e8] at hpl
  have G : ∀ σ' : PS, (pσ r).2 = σ'.2 → σ'.2 = false → kS (q0 5) (q20 5) s ∧ q20 5 (s + 1) = dgV b n (pσ r0) 0 9 ∧ q20 5 (s + 2) = (exN b n (pσ r0)).1 := fun σ' h1 z => by
    obtain ⟨g1, g2⟩ := hG (h1.trans z)
    rw [e17, va_up_self, hN]
    exact ⟨g1.up (by omega) (by omega) _, by rw [pk_un (by omega)]; exact g2, pk_us ..⟩
  refine ⟨fun c => ⟨⟨a4, by decide⟩, fun v23 r24 q25 hh => ?_⟩, fun c => ?_⟩
  · have t37 : tkB b n (pσ r) 37 = false := (b2i_0 _).mp (a1.symm.trans c)
    rw [tkS_no t37] at a5
    obtain ⟨d1, d2, d3, d4, d5⟩ := hh
    subst d2
    rw [e174, e198, a5] at d1 d5
    have k24 : kR r0 r24 [10, 11] := k19.tr d3 (fun _ h => h) (by decide)
    have hl24 : (pσ r0).1 ≤ (pσ r24).1 := by rw [d5]; exact Nat.le_trans hle (tkS_le (by decide) hpl).2.1
    refine ⟨fun c2 => ?_, fun c2 => ?_⟩
    · have t42 : tkB b n (pσ r) 42 = false := (b2i_0 _).mp (d1.symm.trans c2)
      refine w_ex78 hs h15 hO hp0 hb hn hP k24 k17 d4 hl24 ?_ (G (pσ r24) (by rw [d5, tkS_bd]))
      rw [hN]
      unfold exU
      dsimp only
      rw [t37, t42, if_neg (by decide), if_neg (by decide), d5, tkS_no t42]
    · have t42 := bx_of d1 c2
      refine w_ex78 hs h15 hO hp0 hb hn hP k24 k17 d4 hl24 ?_ (G (pσ r24) (by rw [d5, tkS_bd]))
      rw [hN]
      unfold exU
      dsimp only
      rw [t37, t42, if_neg (by decide), if_pos rfl, d5]
  · have t37 := bx_of a1 c
    refine w_ex78 hs h15 hO hp0 hb hn hP k19 k17 a4 (by rw [a5]; exact Nat.le_trans hle (tkS_le (by decide) hpl).2.1) ?_ (G (pσ r19) (by rw [a5, tkS_bd]))
    rw [hN]
    unfold exU
    dsimp only
    rw [t37, if_pos rfl, a5]
theorem k_X11_readExtra (l : Launch) (D : va_G) (T : Nat → ClassId) (m0 : Nat) (a : Nat → Nat) (p0 : Int32) (r : Nat → Int32) (q : Nat → Nat → Int32) (h : psO r ∧ tsO r ∧ s8 p0) : RMv l yX11_readExtra (ws_X11_readExtra) rm_X11_readExtra D T m0 a [.ref m0, .int p0] r q (fun u => (exP r q (iv p0) u.1 u.2)) := c_X11_readExtra l D T m0 a p0 r q _ <|
  (by
    obtain ⟨hp, hO, s, hs, e0⟩ := h
    subst e0
    have es : iv (nI s) = s := nI_clamp (by omega)
    rw [es]
    obtain ⟨o1, o2⟩ := hO.vv hp
    obtain ⟨p1, p2, p3⟩ := ps_1 hp
    unfold wp_X11_readExtra
    refine ⟨⟨hp, dix09⟩, fun v1 r2 q3 hh => ?_⟩
    obtain ⟨a1, a2, a3, a4, a5⟩ := hh
    subst a2
    have e8 : iv (r2 8) = iv (r 8) := by rw [a3 8 (by decide)]
    rw [nI_1, nz_vp (by omega) (by decide), nI_clamp (n := s + 1) (by omega)]
    refine ⟨by omega, fun q6 e6 => ⟨⟨a4, by decide⟩, fun r8 q9 hh => ?_⟩⟩
    obtain ⟨d2, d3, d4, d5⟩ := hh
    subst d2
    have e64 : q9 4 = q3 4 := by rw [e6, va_up_ne _ _ (by decide)]
    have k6 : kQ q3 q9 [5] := by rw [e6]; exact kQ.rf.up (by decide) _
    have G6 : kS (q3 5) (q9 5) s ∧ q9 5 (s + 1) = dgV (q3 4) (iv (r 8)) (pσ r) 0 9 := by
      rw [e6, va_up_self]
      exact ⟨kS.rf.up (by omega) (by omega) _, by rw [pk_us]; exact a1⟩
    rw [e64, e8, a5] at d5
    have k8 : kR r r8 [10, 11] := a3.tr d3 (fun _ h => h) (fun _ h => h)
    have e88 : iv (r8 8) = iv (r 8) := by rw [k8 8 (by decide)]
    have hD := dgS_le (b := q3 4) dix09 p1
    have h8 : (pσ r).1 ≤ (pσ r8).1 := by
      rw [d5]
      exact Nat.le_trans hD.2 (tkS_le (b := q3 4) (c := 58) (by decide) hD.1).2.1
    refine ⟨fun c => ⟨d4, fun v12 r13 q14 hh => ?_⟩, fun c => ?_⟩
    · obtain ⟨b1, b2, b3, b4, b5⟩ := hh
      subst b2
      have hle : (pσ r).1 ≤ (pσ r13).1 := by
        rw [b5]
        exact Nat.le_trans h8 (nbF_ok (ps_1 d4).1).2.1
      rw [e64, e88, d5] at b1 b5
      refine w_ex43 hs o2 hO hp rfl rfl (fun _ _ z => z) (k8.tr b3 (fun _ h => h) (fun _ h => h)) k6 b4 hle ?_ (fun _ => G6)
      unfold exN
      rw [b1, b5]
    · have hb := bd_of d4.2.2 c
      refine w_ex43 hs o2 hO hp rfl rfl (fun _ _ z => z) k8 k6 d4 h8 ?_ (fun z => by rw [hb] at z; cases z)
      unfold exN
      rw [← d5, nb_bad hb])

end S_RIS
