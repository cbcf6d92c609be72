section S_R8S
abbrev ws_X11_reasonOf : List Cond := Cond.code yX11_reasonOf cX11_reasonOf 3 (some .int) :: W0
abbrev rm_X11_reasonOf : Room := ({ frames := 5, cells := 0, slots := 0, locals := 117 } : Room)
def wp_X11_reasonOf (P : Int32 → RST → Prop) (p0 : Int32) (r : Nat → Int32) (q : Nat → Nat → Int32) : Prop := (gix p0 ∧ ¬ p0 = (0 : Int32)) ∧ (∀ v2 : Int32, v2 = (nI (lowN (iv p0))) → ((WF (q 0) ∧ rix 1 ∧ (gix p0 ∧ ¬ p0 = (0 : Int32)) ∧ ((iv 1 = 4 ∨ iv 1 = 5) → vix (r 18))) ∧ (∀ (v3 : Int32) (r4 : Nat → Int32) (q5 : Nat → Nat → Int32), (v3 = (match firF (q 0) (iv (r 18)) (iv 1) (iv p0) with | none => 0 | some _ => 1) ∧ r4 = (match firF (q 0) (iv (r 18)) (iv 1) (iv p0) with | none => r | some s => va_up r 17 (nI s)) ∧ q5 = q) → ((v3 = 0 → ((WF (q5 0) ∧ rix 2 ∧ (gix p0 ∧ ¬ p0 = (0 : Int32)) ∧ ((iv 2 = 4 ∨ iv 2 = 5) → vix (r4 18))) ∧ (∀ (v8 : Int32) (r9 : Nat → Int32) (q10 : Nat → Nat → Int32), (v8 = (match firF (q5 0) (iv (r4 18)) (iv 2) (iv p0) with | none => 0 | some _ => 1) ∧ r9 = (match firF (q5 0) (iv (r4 18)) (iv 2) (iv p0) with | none => r4 | some s => va_up r4 17 (nI s)) ∧ q10 = q5) → ((v8 = 0 → ((six v2 ∧ pix 1) ∧ ((WF (q10 0)) ∧ (∀ r15 : Nat → Int32, r15 = va_up r9 18 (vOf (q10 0) (q10 0 (14 + 26 * iv v2 + iv 1))) → ((six v2 ∧ pix 1) ∧ (∀ r17 : Nat → Int32, r17 = va_up r15 17 (q10 0 (14 + 26 * iv v2 + iv 1)) → ((0 ≤ (r17 18) → ((WF (q10 0) ∧ rix 4 ∧ (gix p0 ∧ ¬ p0 = (0 : Int32)) ∧ ((iv 4 = 4 ∨ iv 4 = 5) → vix (r17 18))) ∧ (∀ (v19 : Int32) (r20 : Nat → Int32) (q21 : Nat → Nat → Int32), (v19 = (match firF (q10 0) (iv (r17 18)) (iv 4) (iv p0) with | none => 0 | some _ => 1) ∧ r20 = (match firF (q10 0) (iv (r17 18)) (iv 4) (iv p0) with | none => r17 | some s => va_up r17 17 (nI s)) ∧ q21 = q10) → ((v19 = 0 → ((WF (q21 0) ∧ rix 5 ∧ (gix p0 ∧ ¬ p0 = (0 : Int32)) ∧ ((iv 5 = 4 ∨ iv 5 = 5) → vix (r20 18))) ∧ (∀ (v24 : Int32) (r25 : Nat → Int32) (q26 : Nat → Nat → Int32), (v24 = (match firF (q21 0) (iv (r20 18)) (iv 5) (iv p0) with | none => 0 | some _ => 1) ∧ r25 = (match firF (q21 0) (iv (r20 18)) (iv 5) (iv p0) with | none => r20 | some s => va_up r20 17 (nI s)) ∧ q26 = q21) → ((v24 = 0 → ((six v2 ∧ pix 0) ∧ ((WF (q26 0) ∧ vix (r25 18)) ∧ (∀ r31 : Nat → Int32, r31 = va_up r25 19 (zIn (q26 0) (iv (r25 18)) (q26 0 (14 + 26 * iv v2 + iv 0))) → (∀ r32 : Nat → Int32, r32 = va_up r31 17 (r31 19) → ((vix (r32 18) ∧ zix (r32 19)) ∧ ((¬ (q26 0 (274 + 510 * iv (r32 18) + 38 + iv (r32 19) - 1)) = 0 → ((WF (q26 0) ∧ gix p0 ∧ vok (q26 0) (r32 18)) ∧ (∀ (r36 : Nat → Int32) (q37 : Nat → Nat → Int32), (q37 = q26 ∧ kR r32 r36 [20, 21, 22, 23] ∧ r36 20 = wtF (q26 0) (iv (r32 18)) (iv p0) ∧ r36 21 = pcF (q26 0) (iv (r32 18)) (iv p0) ∧ r36 22 = lgF (q26 0) (iv (r32 18)) (iv p0) ∧ r36 23 = hdF (q26 0) (iv (r32 18)) (iv p0)) → (∀ r39 : Nat → Int32, r39 = va_up r36 17 (r36 20) → ((gix p0) ∧ (((nI (popN (iv p0))) ≤ 1 → ((WF (q37 0) ∧ rix 8 ∧ (gix p0 ∧ ¬ p0 = (0 : Int32)) ∧ ((iv 8 = 4 ∨ iv 8 = 5) → vix (r39 18))) ∧ (∀ (v42 : Int32) (r43 : Nat → Int32) (q44 : Nat → Nat → Int32), (v42 = (match firF (q37 0) (iv (r39 18)) (iv 8) (iv p0) with | none => 0 | some _ => 1) ∧ r43 = (match firF (q37 0) (iv (r39 18)) (iv 8) (iv p0) with | none => r39 | some s => va_up r39 17 (nI s)) ∧ q44 = q37) → ((v42 = 0 → (P 0 (r43, q44))) ∧ (¬ v42 = 0 → (P 8 (r43, q44))))))) ∧ (¬ (nI (popN (iv p0))) ≤ 1 → (vp_in ((274 + 510 * (r39 18)) + 149) 3334 ∧ (((r39 20) ≤ (q37 0 (Int32.toNatClampNeg ((274 + 510 * (r39 18)) + 149))) → ((WF (q37 0) ∧ rix 8 ∧ (gix p0 ∧ ¬ p0 = (0 : Int32)) ∧ ((iv 8 = 4 ∨ iv 8 = 5) → vix (r39 18))) ∧ (∀ (v49 : Int32) (r50 : Nat → Int32) (q51 : Nat → Nat → Int32), (v49 = (match firF (q37 0) (iv (r39 18)) (iv 8) (iv p0) with | none => 0 | some _ => 1) ∧ r50 = (match firF (q37 0) (iv (r39 18)) (iv 8) (iv p0) with | none => r39 | some s => va_up r39 17 (nI s)) ∧ q51 = q37) → ((v49 = 0 → (P 0 (r50, q51))) ∧ (¬ v49 = 0 → (P 8 (r50, q51))))))) ∧ (¬ (r39 20) ≤ (q37 0 (Int32.toNatClampNeg ((274 + 510 * (r39 18)) + 149))) → (P 7 (r39, q37)))))))))))) ∧ ((q26 0 (274 + 510 * iv (r32 18) + 38 + iv (r32 19) - 1)) = 0 → (P 6 (r32, q26)))))))))) ∧ (¬ v24 = 0 → (P 5 (r25, q26))))))) ∧ (¬ v19 = 0 → (P 4 (r20, q21))))))) ∧ (¬ 0 ≤ (r17 18) → (P 3 (r17, q10)))))))))) ∧ (¬ v8 = 0 → (P 2 (r9, q10))))))) ∧ (¬ v3 = 0 → (P 1 (r4, q5)))))))
set_option maxRecDepth 100000 in
set_option maxHeartbeats 4000000 in
theorem t_X11_reasonOf {p : Program} {l : Launch} {e : Env} {s : State} {m : MethodId} {args : Array Value} {below : List Frame} {meth : Method} {c : Code} {D : va_G} {A : Nat → Prop} {T : Nat → ClassId} {m0 : Nat} {a : Nat → Nat} (C : GC p s m args meth c cX11_reasonOf "FreightRaterModel" (ws_X11_reasonOf) 3 D A (zty T)) (hr : meth.sig.returnType = (some .int)) (P : Int32 → RST → Prop) : ∀ (p0 : Int32) (r : Nat → Int32) (q : Nat → Nat → Int32), wp_X11_reasonOf P p0 r q → GW p l e rm_X11_reasonOf s m args below meth c D A 3 0 0 (MQ below (va_Qi P (RE D T m0 a A) A) args s 0 0 A) (RW m0 a T r q) 0 0 0 [(0, .ref m0), (1, .int p0)] [] := by
  have hw : ∀ {w : Cond}, w ∈ W0 → w.before args s = true := fun h => C.2.2.2.2.1 _ (List.mem_cons_of_mem _ h)
  intro p0 r q h
  unfold wp_X11_reasonOf at h
  refine g_iload_n C dX11_reasonOf_0 rfl 1 rfl ?_
  obtain ⟨g1, h⟩ := h
  refine gr_callSf C [.int p0] rfl (k_X11_lowest l D T m0 a p0 r q g1) (w0_S 1 C.2.2.2.2.1 kw_2175 kw_2176 kw_9 kw_2177 rfl rfl (by decide +kernel) ⟨by decide, by decide⟩) rfl (Nat.le_of_ble_eq_true rfl) (Nat.zero_le _) (Nat.zero_le _) dX11_reasonOf_1 ?_
  refine g_topi (fun v2 ev2 => ?_)
  replace h := h v2 ev2
  refine g_istore_n (lv' := [(2, .int v2), (0, .ref m0), (1, .int p0)]) C dX11_reasonOf_4 rfl (by decide) rfl ?_
  refine g_aload_n C dX11_reasonOf_5 rfl 1 rfl ?_
  refine g_iconst (v := 1) C dX11_reasonOf_6 (by decide) ?_
  refine g_iload_n C dX11_reasonOf_7 rfl 2 rfl ?_
  obtain ⟨g6, h⟩ := h
  refine gr_calliV C [.int 1, .int p0] rfl (k_X11_isFirst l D T m0 a 1 p0 r q g6) (w0_V 2 C.2.2.2.2.1 kw_2181 kw_2183 ks_87 kw_9 kw_2184 rfl rfl (by decide +kernel) ⟨by decide, by decide⟩) rfl (Nat.le_of_ble_eq_true rfl) (Nat.zero_le _) (Nat.zero_le _) dX11_reasonOf_8 (fun v3 r4 q5 hp => ?_)
  replace h := h v3 r4 q5 hp
  refine g_if_eq (tgt := 16) C dX11_reasonOf_11 (by decide) (fun z7 => ?_) (fun z7 => ?_)
  · replace h := h.1 z7
    refine g_aload_n C dX11_reasonOf_16 rfl 1 rfl ?_
    refine g_iconst (v := 2) C dX11_reasonOf_17 (by decide) ?_
    refine g_iload_n C dX11_reasonOf_18 rfl 2 rfl ?_
    obtain ⟨g11, h⟩ := h
    refine gr_calliV C [.int 2, .int p0] rfl (k_X11_isFirst l D T m0 a 2 p0 r4 q5 g11) (w0_V 2 C.2.2.2.2.1 kw_2181 kw_2183 ks_87 kw_9 kw_2184 rfl rfl (by decide +kernel) ⟨by decide, by decide⟩) rfl (Nat.le_of_ble_eq_true rfl) (Nat.zero_le _) (Nat.zero_le _) dX11_reasonOf_19 (fun v8 r9 q10 hp => ?_)
    replace h := h v8 r9 q10 hp
    refine g_if_eq (tgt := 27) C dX11_reasonOf_22 (by decide) (fun z12 => ?_) (fun z12 => ?_)
    · replace h := h.1 z12
      refine g_aload_n C dX11_reasonOf_27 rfl 1 rfl ?_
      refine g_aload_n C dX11_reasonOf_28 rfl 1 rfl ?_
      refine g_aload_n C dX11_reasonOf_29 rfl 1 rfl ?_
      refine g_iload_n C dX11_reasonOf_30 rfl 0 rfl ?_
      refine g_iconst (v := 1) C dX11_reasonOf_31 (by decide) ?_
      obtain ⟨g13, h⟩ := h
      refine gr_callVf C [.int v2, .int 1] rfl (k_X11_of l D T m0 a v2 1 r9 q10 g13) (w0_V 2 C.2.2.2.2.1 kw_2127 kw_2129 ks_79 kw_9 kw_2130 rfl rfl (by decide +kernel) ⟨by decide, by decide⟩) rfl (Nat.le_of_ble_eq_true rfl) (Nat.zero_le _) (Nat.zero_le _) dX11_reasonOf_32 ?_
      obtain ⟨g14, h⟩ := h
      refine gr_callVf C [.int (q10 0 (14 + 26 * iv v2 + iv 1))] rfl (k_X11_versionOf l D T m0 a (q10 0 (14 + 26 * iv v2 + iv 1)) r9 q10 g14) (w0_V 1 C.2.2.2.2.1 kw_1966 kw_1968 ks_53 kw_9 kw_1969 rfl rfl (by decide +kernel) ⟨by decide, by decide⟩) rfl (Nat.le_of_ble_eq_true rfl) (Nat.zero_le _) (Nat.zero_le _) dX11_reasonOf_35 ?_
      refine gr_put_18 C iwx_X11 (hw kw_1827) dX11_reasonOf_38 ?_
      refine gr_nr (fun r15 er15 => ?_)
      replace h := h r15 er15
      refine g_aload_n C dX11_reasonOf_41 rfl 1 rfl ?_
      refine g_aload_n C dX11_reasonOf_42 rfl 1 rfl ?_
      refine g_iload_n C dX11_reasonOf_43 rfl 0 rfl ?_
      refine g_iconst (v := 1) C dX11_reasonOf_44 (by decide) ?_
      obtain ⟨g16, h⟩ := h
      refine gr_callVf C [.int v2, .int 1] rfl (k_X11_of l D T m0 a v2 1 r15 q10 g16) (w0_V 2 C.2.2.2.2.1 kw_2127 kw_2129 ks_79 kw_9 kw_2130 rfl rfl (by decide +kernel) ⟨by decide, by decide⟩) rfl (Nat.le_of_ble_eq_true rfl) (Nat.zero_le _) (Nat.zero_le _) dX11_reasonOf_45 ?_
      refine gr_put_17 C iwx_X11 (hw kw_1826) dX11_reasonOf_48 ?_
      refine gr_nr (fun r17 er17 => ?_)
      replace h := h r17 er17
      refine g_aload_n C dX11_reasonOf_51 rfl 1 rfl ?_
      refine gr_get C iwx_X11 18 (hw kw_1827) (by decide) rfl rfl dX11_reasonOf_52 ?_
      refine g_if_ge (tgt := 60) C dX11_reasonOf_55 (by decide) (fun z18 => ?_) (fun z18 => ?_)
      · replace h := h.1 z18
        refine g_aload_n C dX11_reasonOf_60 rfl 1 rfl ?_
        refine g_iconst (v := 4) C dX11_reasonOf_61 (by decide) ?_
        refine g_iload_n C dX11_reasonOf_62 rfl 2 rfl ?_
        obtain ⟨g22, h⟩ := h
        refine gr_calliV C [.int 4, .int p0] rfl (k_X11_isFirst l D T m0 a 4 p0 r17 q10 g22) (w0_V 2 C.2.2.2.2.1 kw_2181 kw_2183 ks_87 kw_9 kw_2184 rfl rfl (by decide +kernel) ⟨by decide, by decide⟩) rfl (Nat.le_of_ble_eq_true rfl) (Nat.zero_le _) (Nat.zero_le _) dX11_reasonOf_63 (fun v19 r20 q21 hp => ?_)
        replace h := h v19 r20 q21 hp
        refine g_if_eq (tgt := 71) C dX11_reasonOf_66 (by decide) (fun z23 => ?_) (fun z23 => ?_)
        · replace h := h.1 z23
          refine g_aload_n C dX11_reasonOf_71 rfl 1 rfl ?_
          refine g_iconst (v := 5) C dX11_reasonOf_72 (by decide) ?_
          refine g_iload_n C dX11_reasonOf_73 rfl 2 rfl ?_
          obtain ⟨g27, h⟩ := h
          refine gr_calliV C [.int 5, .int p0] rfl (k_X11_isFirst l D T m0 a 5 p0 r20 q21 g27) (w0_V 2 C.2.2.2.2.1 kw_2181 kw_2183 ks_87 kw_9 kw_2184 rfl rfl (by decide +kernel) ⟨by decide, by decide⟩) rfl (Nat.le_of_ble_eq_true rfl) (Nat.zero_le _) (Nat.zero_le _) dX11_reasonOf_74 (fun v24 r25 q26 hp => ?_)
          replace h := h v24 r25 q26 hp
          refine g_if_eq (tgt := 82) C dX11_reasonOf_77 (by decide) (fun z28 => ?_) (fun z28 => ?_)
          · replace h := h.1 z28
            refine g_aload_n C dX11_reasonOf_82 rfl 1 rfl ?_
            refine g_aload_n C dX11_reasonOf_83 rfl 1 rfl ?_
            refine g_aload_n C dX11_reasonOf_84 rfl 1 rfl ?_
            refine gr_get C iwx_X11 18 (hw kw_1827) (by decide) rfl rfl dX11_reasonOf_85 ?_
            refine g_aload_n C dX11_reasonOf_88 rfl 1 rfl ?_
            refine g_iload_n C dX11_reasonOf_89 rfl 0 rfl ?_
            refine g_iconst (v := 0) C dX11_reasonOf_90 (by decide) ?_
            obtain ⟨g29, h⟩ := h
            refine gr_callVf C [.int v2, .int 0] rfl (k_X11_of l D T m0 a v2 0 r25 q26 g29) (w0_V 2 C.2.2.2.2.1 kw_2127 kw_2129 ks_79 kw_9 kw_2130 rfl rfl (by decide +kernel) ⟨by decide, by decide⟩) rfl (Nat.le_of_ble_eq_true rfl) (Nat.zero_le _) (Nat.zero_le _) dX11_reasonOf_91 ?_
            obtain ⟨g30, h⟩ := h
            refine gr_callVf C [.int (r25 18), .int (q26 0 (14 + 26 * iv v2 + iv 0))] rfl (k_X11_zoneIn l D T m0 a (r25 18) (q26 0 (14 + 26 * iv v2 + iv 0)) r25 q26 g30) (w0_V 2 C.2.2.2.2.1 kw_1989 kw_1991 ks_56 kw_9 kw_1992 rfl rfl (by decide +kernel) ⟨by decide, by decide⟩) rfl (Nat.le_of_ble_eq_true rfl) (Nat.zero_le _) (Nat.zero_le _) dX11_reasonOf_94 ?_
            refine gr_put_19 C iwx_X11 (hw kw_1828) dX11_reasonOf_97 ?_
            refine gr_nr (fun r31 er31 => ?_)
            replace h := h r31 er31
            refine g_aload_n C dX11_reasonOf_100 rfl 1 rfl ?_
            refine g_aload_n C dX11_reasonOf_101 rfl 1 rfl ?_
            refine gr_get C iwx_X11 19 (hw kw_1828) (by decide) rfl rfl dX11_reasonOf_102 ?_
            refine gr_put_17 C iwx_X11 (hw kw_1826) dX11_reasonOf_105 ?_
            refine gr_nr (fun r32 er32 => ?_)
            replace h := h r32 er32
            refine g_aload_n C dX11_reasonOf_108 rfl 1 rfl ?_
            refine g_aload_n C dX11_reasonOf_109 rfl 1 rfl ?_
            refine gr_get C iwx_X11 18 (hw kw_1827) (by decide) rfl rfl dX11_reasonOf_110 ?_
            refine g_aload_n C dX11_reasonOf_113 rfl 1 rfl ?_
            refine gr_get C iwx_X11 19 (hw kw_1828) (by decide) rfl rfl dX11_reasonOf_114 ?_
            obtain ⟨g33, h⟩ := h
            refine gr_callVf C [.int (r32 18), .int (r32 19)] rfl (k_X11_breaks l D T m0 a (r32 18) (r32 19) r32 q26 g33) (w0_V 2 C.2.2.2.2.1 kw_1997 kw_1999 ks_57 kw_9 kw_2000 rfl rfl (by decide +kernel) ⟨by decide, by decide⟩) rfl (Nat.le_of_ble_eq_true rfl) (Nat.zero_le _) (Nat.zero_le _) dX11_reasonOf_117 ?_
            refine g_if_ne (tgt := 126) C dX11_reasonOf_120 (by decide) (fun z34 => ?_) (fun z34 => ?_)
            · replace h := h.1 z34
              refine g_aload_n C dX11_reasonOf_126 rfl 1 rfl ?_
              refine g_iload_n C dX11_reasonOf_127 rfl 2 rfl ?_
              obtain ⟨g38, h⟩ := h
              refine gr_callvV C [.int p0] rfl (k_X11_layWeight l D T m0 a p0 r32 q26 g38) (w0_V 1 C.2.2.2.2.1 kw_2197 kw_2199 ks_91 kw_9 kw_2200 rfl rfl (by decide +kernel) ⟨by decide, by decide⟩) rfl (Nat.le_of_ble_eq_true rfl) (Nat.zero_le _) (Nat.zero_le _) dX11_reasonOf_128 (fun r36 q37 hp => ?_)
              replace h := h r36 q37 hp
              refine g_aload_n C dX11_reasonOf_131 rfl 1 rfl ?_
              refine g_aload_n C dX11_reasonOf_132 rfl 1 rfl ?_
              refine gr_get C iwx_X11 20 (hw kw_1829) (by decide) rfl rfl dX11_reasonOf_133 ?_
              refine gr_put_17 C iwx_X11 (hw kw_1826) dX11_reasonOf_136 ?_
              refine gr_nr (fun r39 er39 => ?_)
              replace h := h r39 er39
              refine g_iload_n C dX11_reasonOf_139 rfl 2 rfl ?_
              obtain ⟨g40, h⟩ := h
              refine gr_callSf C [.int p0] rfl (k_X11_ones l D T m0 a p0 r39 q37 g40) (w0_S 1 C.2.2.2.2.1 kw_2201 kw_2202 kw_9 kw_2203 rfl rfl (by decide +kernel) ⟨by decide, by decide⟩) rfl (Nat.le_of_ble_eq_true rfl) (Nat.zero_le _) (Nat.zero_le _) dX11_reasonOf_140 ?_
              refine g_iconst (v := 1) C dX11_reasonOf_143 (by decide) ?_
              refine g_icmp_le (tgt := 173) C dX11_reasonOf_144 (by decide) (fun z41 => ?_) (fun z41 => ?_)
              · replace h := h.1 z41
                refine g_aload_n C dX11_reasonOf_173 rfl 1 rfl ?_
                refine g_bipush (v := 8) C dX11_reasonOf_174 (by decide) ?_
                refine g_iload_n C dX11_reasonOf_176 rfl 2 rfl ?_
                obtain ⟨g45, h⟩ := h
                refine gr_calliV C [.int 8, .int p0] rfl (k_X11_isFirst l D T m0 a 8 p0 r39 q37 g45) (w0_V 2 C.2.2.2.2.1 kw_2181 kw_2183 ks_87 kw_9 kw_2184 rfl rfl (by decide +kernel) ⟨by decide, by decide⟩) rfl (Nat.le_of_ble_eq_true rfl) (Nat.zero_le _) (Nat.zero_le _) dX11_reasonOf_177 (fun v42 r43 q44 hp => ?_)
                replace h := h v42 r43 q44 hp
                refine g_if_eq (tgt := 188) C dX11_reasonOf_180 (by decide) (fun z46 => ?_) (fun z46 => ?_)
                · replace h := h.1 z46
                  refine g_iconst (v := 0) C dX11_reasonOf_188 (by decide) ?_
                  exact gr_iret C hr dX11_reasonOf_189 h
                · replace h := h.2 z46
                  refine g_bipush (v := 8) C dX11_reasonOf_183 (by decide) ?_
                  refine g_goto (tgt := 189) C dX11_reasonOf_185 (by decide) ?_
                  exact gr_iret C hr dX11_reasonOf_189 h
              · replace h := h.2 z41
                refine g_aload_n C dX11_reasonOf_147 rfl 1 rfl ?_
                refine gr_get C iwx_X11 20 (hw kw_1829) (by decide) rfl rfl dX11_reasonOf_148 ?_
                refine g_aload_n C dX11_reasonOf_151 rfl 1 rfl ?_
                refine gr_get C iwx_X11 0 (hw kw_1809) (by decide) rfl rfl dX11_reasonOf_152 ?_
                refine g_aload_n C dX11_reasonOf_155 rfl 1 rfl ?_
                refine gr_get C iwx_X11 18 (hw kw_1827) (by decide) rfl rfl dX11_reasonOf_156 ?_
                refine gr_callSf C [.int (r39 18)] rfl (k_X11_at l D T m0 a (r39 18) r39 q37) (w0_S 1 C.2.2.2.2.1 kw_1947 kw_1948 kw_9 kw_1949 rfl rfl (by decide +kernel) ⟨by decide, by decide⟩) rfl (Nat.le_of_ble_eq_true rfl) (Nat.zero_le _) (Nat.zero_le _) dX11_reasonOf_159 ?_
                refine g_sipush (v := 149) C dX11_reasonOf_162 (by decide) ?_
                refine g_iadd C dX11_reasonOf_165 ?_
                obtain ⟨g47, h⟩ := h
                refine gr_ald_0 C g47 dX11_reasonOf_166 ?_
                refine g_icmp_le (tgt := 173) C dX11_reasonOf_167 (by decide) (fun z48 => ?_) (fun z48 => ?_)
                · replace h := h.1 z48
                  refine g_aload_n C dX11_reasonOf_173 rfl 1 rfl ?_
                  refine g_bipush (v := 8) C dX11_reasonOf_174 (by decide) ?_
                  refine g_iload_n C dX11_reasonOf_176 rfl 2 rfl ?_
                  obtain ⟨g52, h⟩ := h
                  refine gr_calliV C [.int 8, .int p0] rfl (k_X11_isFirst l D T m0 a 8 p0 r39 q37 g52) (w0_V 2 C.2.2.2.2.1 kw_2181 kw_2183 ks_87 kw_9 kw_2184 rfl rfl (by decide +kernel) ⟨by decide, by decide⟩) rfl (Nat.le_of_ble_eq_true rfl) (Nat.zero_le _) (Nat.zero_le _) dX11_reasonOf_177 (fun v49 r50 q51 hp => ?_)
                  replace h := h v49 r50 q51 hp
                  refine g_if_eq (tgt := 188) C dX11_reasonOf_180 (by decide) (fun z53 => ?_) (fun z53 => ?_)
                  · replace h := h.1 z53
                    refine g_iconst (v := 0) C dX11_reasonOf_188 (by decide) ?_
                    exact gr_iret C hr dX11_reasonOf_189 h
                  · replace h := h.2 z53
                    refine g_bipush (v := 8) C dX11_reasonOf_183 (by decide) ?_
                    refine g_goto (tgt := 189) C dX11_reasonOf_185 (by decide) ?_
                    exact gr_iret C hr dX11_reasonOf_189 h
                · replace h := h.2 z48
                  refine g_bipush (v := 7) C dX11_reasonOf_170 (by decide) ?_
                  exact gr_iret C hr dX11_reasonOf_172 h
            · replace h := h.2 z34
              refine g_bipush (v := 6) C dX11_reasonOf_123 (by decide) ?_
              exact gr_iret C hr dX11_reasonOf_125 h
          · replace h := h.2 z28
            refine g_iconst (v := 5) C dX11_reasonOf_80 (by decide) ?_
            exact gr_iret C hr dX11_reasonOf_81 h
        · replace h := h.2 z23
          refine g_iconst (v := 4) C dX11_reasonOf_69 (by decide) ?_
          exact gr_iret C hr dX11_reasonOf_70 h
      · replace h := h.2 z18
        refine g_iconst (v := 3) C dX11_reasonOf_58 (by decide) ?_
        exact gr_iret C hr dX11_reasonOf_59 h
    · replace h := h.2 z12
      refine g_iconst (v := 2) C dX11_reasonOf_25 (by decide) ?_
      exact gr_iret C hr dX11_reasonOf_26 h
  · replace h := h.2 z7
    refine g_iconst (v := 1) C dX11_reasonOf_14 (by decide) ?_
    exact gr_iret C hr dX11_reasonOf_15 h
theorem c_X11_reasonOf (l : Launch) (D : va_G) (T : Nat → ClassId) (m0 : Nat) (a : Nat → Nat) (p0 : Int32) (r : Nat → Int32) (q : Nat → Nat → Int32) (P : Int32 → RST → Prop) (h : wp_X11_reasonOf P p0 r q) : RMi l yX11_reasonOf (ws_X11_reasonOf) rm_X11_reasonOf D T m0 a [.ref m0, .int p0] r q P := gr_meti (by decide) rfl rfl (Nat.le_of_ble_eq_true rfl) (fun p e s m args below meth c A C hr => t_X11_reasonOf C hr P p0 r q h)
def rsP (r : Nat → Int32) (q : Nat → Nat → Int32) (g : Nat) (v : Int32) (u : RST) : Prop := v = nI (rsnD (q 0) g).1 ∧ u.2 = q ∧ kR r u.1 [17, 18, 19, 20, 21, 22, 23] ∧ (¬ (rsnD (q 0) g).1 = 0 → u.1 17 = (rsnD (q 0) g).2) ∧ ((rsnD (q 0) g).1 = 0 → u.1 18 = gvF (q 0) g ∧ u.1 19 = gzF (q 0) g ∧ u.1 20 = wtF (q 0) (iv (gvF (q 0) g)) g ∧ u.1 21 = pcF (q 0) (iv (gvF (q 0) g)) g ∧ u.1 22 = lgF (q 0) (iv (gvF (q 0) g)) g ∧ u.1 23 = hdF (q 0) (iv (gvF (q 0) g)) g)
theorem rP1 {r r1 : Nat → Int32} {q : Nat → Nat → Int32} {g n : Nat} {d : Int32} (h : rsnD (q 0) g = (n, d)) (hn : n ≠ 0) (hk : kR r r1 [17, 18, 19, 20, 21, 22, 23]) (h17 : r1 17 = d) : rsP r q g (nI n) (r1, q) := by
  unfold rsP
  rw [h]
  exact ⟨rfl, rfl, hk, fun _ => h17, fun z => absurd z hn⟩
theorem rP0 {r r1 : Nat → Int32} {q : Nat → Nat → Int32} {g : Nat} {d : Int32} (h : rsnD (q 0) g = (0, d)) (hk : kR r r1 [17, 18, 19, 20, 21, 22, 23]) (h18 : r1 18 = gvF (q 0) g) (h19 : r1 19 = gzF (q 0) g) (h20 : r1 20 = wtF (q 0) (iv (gvF (q 0) g)) g) (h21 : r1 21 = pcF (q 0) (iv (gvF (q 0) g)) g) (h22 : r1 22 = lgF (q 0) (iv (gvF (q 0) g)) g) (h23 : r1 23 = hdF (q 0) (iv (gvF (q 0) g)) g) : rsP r q g 0 (r1, q) := by
  unfold rsP
  rw [h]
  exact ⟨rfl, rfl, hk, fun z => absurd rfl z, fun _ => ⟨h18, h19, h20, h21, h22, h23⟩⟩
theorem w_reasonOf {P : Int32 → RST → Prop} {r : Nat → Int32} {q : Nat → Nat → Int32} {p0 : Int32} (h : WF (q 0) ∧ gok (q 0) p0) (hP : ∀ v u, rsP r q (iv p0) v u → P v u) : wp_X11_reasonOf P p0 r q := by
  obtain ⟨hw, hgk⟩ := h
  obtain ⟨hgx, hg0⟩ := hgk.gix
  obtain ⟨g, ns, hm1, hns, hg1, hg2, rfl⟩ := hgk
  rw [show iv (nI g) = g from nI_clamp (by have := p2_le hns; omega)] at hP
  have hls := low_ns hns hg1 hg2
  have hp2 := p2_le hns
  have hgx' : gix (nI g) ∧ ¬ nI g = 0 := ⟨hgx, hg0⟩
  have nv : ∀ z : Int32, iv 1 = 4 ∨ iv 1 = 5 → vix z := fun z h => by rcases h with h | h <;> exact absurd h (by decide)
  have nv2 : ∀ z : Int32, iv 2 = 4 ∨ iv 2 = 5 → vix z := fun z h => by rcases h with h | h <;> exact absurd h (by decide)
  have nv8 : ∀ z : Int32, iv 8 = 4 ∨ iv 8 = 5 → vix z := fun z h => by rcases h with h | h <;> exact absurd h (by decide)
  have r2 : rix 2 := ⟨2, by decide, rfl⟩
  have r4 : rix 4 := ⟨4, by decide, rfl⟩
  have r5 : rix 5 := ⟨5, by decide, rfl⟩
  have r8 : rix 8 := ⟨8, by decide, rfl⟩
  have eg : iv (nI g) = g := nI_clamp (by omega)
  have f1 : ∀ x, firF (q 0) x 1 g = firF (q 0) 0 1 g := fun x => firF_gv (by decide) (by decide)
  have f2 : ∀ x, firF (q 0) x 2 g = firF (q 0) 0 2 g := fun x => firF_gv (by decide) (by decide)
  have f8 : ∀ x, firF (q 0) x 8 g = firF (q 0) 0 8 g := fun x => firF_gv (by decide) (by decide)
  have el : iv (nI (lowN g)) = lowN g := nI_clamp (by omega)
  unfold wp_X11_reasonOf
  rw [eg]
  refine ⟨hgx', fun v2 e2 => ⟨⟨hw, by simp (disch := omega) only [li_2, li_3, li_4, li_5, li_6, li_7, li_8, li_9, li_10, li_12, li_14, li_20, li_26, li_30, li_31, li_36, li_38, li_47, li_48, li_50, li_57, li_58, li_80, li_98, li_99, li_100, li_102, li_104, li_105, li_108, li_109, li_110, li_114, li_115, li_119, li_122, li_137, li_146, li_147, li_148, li_149, li_150, li_200, li_255, li_256, li_274, li_510, li_512, li_640, li_999, li_1000, li_1024, li_3334, li_5000, li_9999, li_10000, li_23338, li_26672, li_30000, li_99999, li_150000, li_300000, pk_mul, nI_add, pk_sub, nI_clamp, nI_1, nI_p1, nI_a0, nI_0a, nI_m0, nI_m1, cl_0, cl_1, z01, z11, nI_leI, nI_ltI, nI_eq, nz_lt0, nz_le, nz_eq0, nz_pos, nz_le0, nz_eq1, nz_lt1, nz_ge1, nz_le1, nz_gt1, nz_vp, nz_vp0, nz_vp1, six_nI, vix_nI, bix_nI, pix_nI, fix_nI, gix_nI, rix_nI, zix_nI, pix_0, pix_1, bix_0, fix_0, fix_1, rix_1, true_and, and_true], hgx', nv _⟩, fun v3 r4_ q5 hh => ?_⟩⟩
  subst e2
  obtain ⟨e3, e4, e5⟩ := hh
  subst e5
  rw [show iv 1 = 1 from rfl, f1] at e3 e4
  cases c1 : firF (q5 0) 0 1 g with
  | some s =>
    rw [c1] at e3 e4
    subst e3 e4
    refine ⟨fun z => absurd (show (1 : Int32) = 0 from z) (by decide), fun _ => hP _ _ (rP1 (n := 1) (by unfold rsnD; simp only [c1]) (by decide) (kR.rf.up (by decide) _) (va_up_self _ _ _))⟩
  | none =>
  rw [c1] at e3 e4
  subst e3; have e4' : r = r4_ := e4.symm; subst e4'
  refine ⟨fun _ => ⟨⟨hw, r2, hgx', nv2 _⟩, fun v8 r9 q10 hh => ?_⟩, fun z => absurd rfl z⟩
  obtain ⟨e3, e4, e5⟩ := hh
  subst e5
  rw [show iv 2 = 2 from rfl, f2] at e3 e4
  cases c2 : firF (q10 0) 0 2 g with
  | some s =>
    rw [c2] at e3 e4
    subst e3 e4
    refine ⟨fun z => absurd (show (1 : Int32) = 0 from z) (by decide), fun _ => hP _ _ (rP1 (n := 2) (by unfold rsnD; simp only [c1, c2]) (by decide) (kR.rf.up (by decide) _) (va_up_self _ _ _))⟩
  | none =>
  rw [c2] at e3 e4
  subst e3; have e4' : r = r9 := e4.symm; subst e4'
  refine ⟨fun _ => ⟨⟨⟨_, by omega, rfl⟩, by simp (disch := omega) only [li_2, li_3, li_4, li_5, li_6, li_7, li_8, li_9, li_10, li_12, li_14, li_20, li_26, li_30, li_31, li_36, li_38, li_47, li_48, li_50, li_57, li_58, li_80, li_98, li_99, li_100, li_102, li_104, li_105, li_108, li_109, li_110, li_114, li_115, li_119, li_122, li_137, li_146, li_147, li_148, li_149, li_150, li_200, li_255, li_256, li_274, li_510, li_512, li_640, li_999, li_1000, li_1024, li_3334, li_5000, li_9999, li_10000, li_23338, li_26672, li_30000, li_99999, li_150000, li_300000, pk_mul, nI_add, pk_sub, nI_clamp, nI_1, nI_p1, nI_a0, nI_0a, nI_m0, nI_m1, cl_0, cl_1, z01, z11, nI_leI, nI_ltI, nI_eq, nz_lt0, nz_le, nz_eq0, nz_pos, nz_le0, nz_eq1, nz_lt1, nz_ge1, nz_le1, nz_gt1, nz_vp, nz_vp0, nz_vp1, six_nI, vix_nI, bix_nI, pix_nI, fix_nI, gix_nI, rix_nI, zix_nI, pix_0, pix_1, bix_0, fix_0, fix_1, rix_1, true_and, and_true]⟩, hw, fun r15 e15 => ⟨⟨⟨_, by omega, rfl⟩, by simp (disch := omega) only [li_2, li_3, li_4, li_5, li_6, li_7, li_8, li_9, li_10, li_12, li_14, li_20, li_26, li_30, li_31, li_36, li_38, li_47, li_48, li_50, li_57, li_58, li_80, li_98, li_99, li_100, li_102, li_104, li_105, li_108, li_109, li_110, li_114, li_115, li_119, li_122, li_137, li_146, li_147, li_148, li_149, li_150, li_200, li_255, li_256, li_274, li_510, li_512, li_640, li_999, li_1000, li_1024, li_3334, li_5000, li_9999, li_10000, li_23338, li_26672, li_30000, li_99999, li_150000, li_300000, pk_mul, nI_add, pk_sub, nI_clamp, nI_1, nI_p1, nI_a0, nI_0a, nI_m0, nI_m1, cl_0, cl_1, z01, z11, nI_leI, nI_ltI, nI_eq, nz_lt0, nz_le, nz_eq0, nz_pos, nz_le0, nz_eq1, nz_lt1, nz_ge1, nz_le1, nz_gt1, nz_vp, nz_vp0, nz_vp1, six_nI, vix_nI, bix_nI, pix_nI, fix_nI, gix_nI, rix_nI, zix_nI, pix_0, pix_1, bix_0, fix_0, fix_1, rix_1, true_and, and_true]⟩, fun r17 e17 => ?_⟩⟩, fun z => absurd rfl z⟩
  rw [el, show iv 1 = 1 from rfl] at e15 e17
  have g18 : r17 18 = gvF (q10 0) g := by rw [e17, va_up_ne _ _ (by decide), e15, va_up_self]; rfl
  have g17 : r17 17 = dayF (q10 0) g := by rw [e17, va_up_self]; rfl
  have k17 : kR r r17 [17, 18, 19, 20, 21, 22, 23] := by rw [e17, e15]; exact (kR.rf.up (by decide) _).up (by decide) _
  refine ⟨fun c3 => ?_, fun c3 => ?_⟩
  rotate_left
  · rw [g18] at c3
    have c3' := Int32.not_le.mp c3
    exact hP _ _ (rP1 (n := 3) (by unfold rsnD; simp only [c1, c2, if_pos c3']) (by decide) k17 g17)
  rw [g18] at c3
  have hvk : vok (q10 0) (gvF (q10 0) g) := by
    rcases vOf_ok hw (d := dayF (q10 0) g) with z | z
    · have z' : gvF (q10 0) g = -1 := z
      rw [z'] at c3; exact absurd c3 (by decide)
    · exact z
  have hvx : vix (gvF (q10 0) g) := by obtain ⟨n, v, _, h6, hv, e⟩ := hvk; exact ⟨v, by omega, e⟩
  refine ⟨⟨hw, r4, hgx', fun _ => by rw [g18]; exact hvx⟩, fun v19 r20 q21 hh => ?_⟩
  obtain ⟨e3, e4, e5⟩ := hh
  subst e5
  rw [show iv 4 = 4 from rfl, g18] at e3 e4
  cases c4 : firF (q21 0) (iv (gvF (q21 0) g)) 4 g with
  | some s =>
    rw [c4] at e3 e4
    subst e3 e4
    refine ⟨fun z => absurd (show (1 : Int32) = 0 from z) (by decide), fun _ => hP _ _ (rP1 (n := 4) (by unfold rsnD; simp only [c1, c2, c4, if_neg (Int32.not_lt.mpr c3)]) (by decide) (k17.up (by decide) _) (va_up_self _ _ _))⟩
  | none =>
  rw [c4] at e3 e4
  subst e3; have e4' : r17 = r20 := e4.symm; subst e4'
  refine ⟨fun _ => ⟨⟨hw, r5, hgx', fun _ => by rw [g18]; exact hvx⟩, fun v24 r25 q26 hh => ?_⟩, fun z => absurd rfl z⟩
  obtain ⟨e3, e4, e5⟩ := hh
  subst e5
  rw [show iv 5 = 5 from rfl, g18] at e3 e4
  cases c5 : firF (q26 0) (iv (gvF (q26 0) g)) 5 g with
  | some s =>
    rw [c5] at e3 e4
    subst e3 e4
    refine ⟨fun z => absurd (show (1 : Int32) = 0 from z) (by decide), fun _ => hP _ _ (rP1 (n := 5) (by unfold rsnD; simp only [c1, c2, c4, c5, if_neg (Int32.not_lt.mpr c3)]) (by decide) (k17.up (by decide) _) (va_up_self _ _ _))⟩
  | none =>
  rw [c5] at e3 e4
  subst e3; have e4' : r17 = r25 := e4.symm; subst e4'
  refine ⟨fun _ => ⟨⟨⟨_, by omega, rfl⟩, by simp (disch := omega) only [li_2, li_3, li_4, li_5, li_6, li_7, li_8, li_9, li_10, li_12, li_14, li_20, li_26, li_30, li_31, li_36, li_38, li_47, li_48, li_50, li_57, li_58, li_80, li_98, li_99, li_100, li_102, li_104, li_105, li_108, li_109, li_110, li_114, li_115, li_119, li_122, li_137, li_146, li_147, li_148, li_149, li_150, li_200, li_255, li_256, li_274, li_510, li_512, li_640, li_999, li_1000, li_1024, li_3334, li_5000, li_9999, li_10000, li_23338, li_26672, li_30000, li_99999, li_150000, li_300000, pk_mul, nI_add, pk_sub, nI_clamp, nI_1, nI_p1, nI_a0, nI_0a, nI_m0, nI_m1, cl_0, cl_1, z01, z11, nI_leI, nI_ltI, nI_eq, nz_lt0, nz_le, nz_eq0, nz_pos, nz_le0, nz_eq1, nz_lt1, nz_ge1, nz_le1, nz_gt1, nz_vp, nz_vp0, nz_vp1, six_nI, vix_nI, bix_nI, pix_nI, fix_nI, gix_nI, rix_nI, zix_nI, pix_0, pix_1, bix_0, fix_0, fix_1, rix_1, true_and, and_true]⟩, ⟨hw, by rw [g18]; exact hvx⟩, fun r31 e31 r32 e32 => ?_⟩, fun z => absurd rfl z⟩
  rw [el, show iv 0 = 0 from rfl, g18] at e31
  have g19 : r31 19 = gzF (q26 0) g := by rw [e31, va_up_self]; rfl
  have h19 : r32 19 = gzF (q26 0) g := by rw [e32, va_up_ne _ _ (by decide)]; exact g19
  have h18 : r32 18 = gvF (q26 0) g := by rw [e32, va_up_ne _ _ (by decide), e31, va_up_ne _ _ (by decide)]; exact g18
  have h17 : r32 17 = gzF (q26 0) g := by rw [e32, va_up_self]; exact g19
  have k32 : kR r r32 [17, 18, 19, 20, 21, 22, 23] := by rw [e32, e31]; exact (k17.up (by decide) _).up (by decide) _
  clear e31 e32
  have hzx : zix (gzF (q26 0) g) := by
    obtain ⟨n, v, hn, h6, hv, e⟩ := hvk
    have ev : iv (gvF (q26 0) g) = v := by rw [e]; exact nI_clamp (by omega)
    obtain ⟨z, hz, ez⟩ := zIn_sm hw (v := iv (gvF (q26 0) g)) (by omega) (p := q26 0 (14 + 26 * lowN g + 0))
    refine ⟨z, ?_, hz, ez⟩
    rcases Nat.eq_zero_or_pos z with z0 | z0
    · subst z0
      have := firFold_none _ _ c4 (lowN g) (Nat.zero_le _) (by rw [hm1, show iv (nI ns) = ns from nI_clamp (by omega)]; omega) (low_tb (by omega) (by omega))
      unfold rsF at this
      rw [if_neg (by decide), if_neg (by decide), if_pos rfl, if_pos (show zIn (q26 0) (iv (gvF (q26 0) g)) (q26 0 (14 + 26 * lowN g + 0)) = 0 from ez)] at this
      exact absurd this (by decide)
    · exact z0
  rw [h18, h19]
  refine ⟨⟨hvx, hzx⟩, fun c6 => ?_, fun c6 => ?_⟩
  rotate_left
  · exact hP _ _ (rP1 (n := 6) (by unfold rsnD; simp only [c1, c2, c4, c5, if_pos c6, if_neg (Int32.not_lt.mpr c3)]) (by decide) k32 h17)
  refine ⟨⟨hw, hgx, hvk⟩, fun r36 q37 hh => ?_⟩
  obtain ⟨e5, k36, a20, a21, a22, a23⟩ := hh
  subst e5
  intro r38 e38
  have b18 : r38 18 = gvF (q37 0) g := by rw [e38, va_up_ne _ _ (by decide), k36 18 (by decide), h18]
  have b19 : r38 19 = gzF (q37 0) g := by rw [e38, va_up_ne _ _ (by decide), k36 19 (by decide), h19]
  have b20 : r38 20 = wtF (q37 0) (iv (gvF (q37 0) g)) g := by rw [e38, va_up_ne _ _ (by decide), a20]
  have b17 : r38 17 = wtF (q37 0) (iv (gvF (q37 0) g)) g := by rw [e38, va_up_self, a20]
  have b21 : r38 21 = pcF (q37 0) (iv (gvF (q37 0) g)) g := by rw [e38, va_up_ne _ _ (by decide), a21]
  have b22 : r38 22 = lgF (q37 0) (iv (gvF (q37 0) g)) g := by rw [e38, va_up_ne _ _ (by decide), a22]
  have b23 : r38 23 = hdF (q37 0) (iv (gvF (q37 0) g)) g := by rw [e38, va_up_ne _ _ (by decide), a23]
  have k38 : kR r r38 [17, 18, 19, 20, 21, 22, 23] := by rw [e38]; exact (k32.tr k36 (by decide) (by decide)).up (by decide) _
  clear e38
  obtain ⟨n, v, hn, h6, hv, ev⟩ := hvk
  have evv : iv (gvF (q37 0) g) = v := by rw [ev]; exact nI_clamp (by omega)
  have pl := (ones_pop (n := g) (by omega)).2
  have last : ¬ (1 < popN g ∧ q37 0 (274 + 510 * iv (gvF (q37 0) g) + 149) < wtF (q37 0) (iv (gvF (q37 0) g)) g) → ∀ (v41 : Int32) (r42 : Nat → Int32) (q43 : Nat → Nat → Int32), v41 = (match firF (q37 0) (iv (r38 18)) (iv 8) g with | none => 0 | some _ => 1) ∧ r42 = (match firF (q37 0) (iv (r38 18)) (iv 8) g with | none => r38 | some s => va_up r38 17 (nI s)) ∧ q43 = q37 → (v41 = 0 → P 0 (r42, q43)) ∧ (¬ v41 = 0 → P 8 (r42, q43)) := by
    intro c7 v41 r42 q43 hh
    obtain ⟨e3, e4, e5⟩ := hh
    subst e5
    rw [show iv 8 = 8 from rfl, f8] at e3 e4
    cases c8 : firF (q43 0) 0 8 g with
    | some s =>
      rw [c8] at e3 e4
      subst e3 e4
      refine ⟨fun z => absurd (show (1 : Int32) = 0 from z) (by decide), fun _ => hP _ _ (rP1 (n := 8) (by unfold rsnD; simp only [c1, c2, c4, c5, c8, if_neg c6, if_neg c7, if_neg (Int32.not_lt.mpr c3)]) (by decide) (k38.up (by decide) _) (va_up_self _ _ _))⟩
    | none =>
      rw [c8] at e3 e4
      subst e3; have e4' : r38 = r42 := e4.symm; subst e4'
      exact ⟨fun _ => hP _ _ (rP0 (d := 0) (by unfold rsnD; simp only [c1, c2, c4, c5, c8, if_neg c6, if_neg c7, if_neg (Int32.not_lt.mpr c3)]) k38 b18 b19 b20 b21 b22 b23), fun z => absurd rfl z⟩
  refine ⟨hgx, fun c7 => ⟨⟨hw, r8, hgx', nv8 _⟩, last (fun z => ?_)⟩, fun c7 => ?_⟩
  · have := (nI_leI (b := 1) (by omega) (by decide)).mp c7
    omega
  have c7' : 1 < popN g := by
    have := mt (nI_leI (a := popN g) (b := 1) (by omega) (by decide)).mpr c7
    omega
  have ei : iv ((274 + 510 * (r38 18)) + 149) = 274 + 510 * v + 149 := by rw [b18, ev]; simp (disch := omega) only [li_2, li_3, li_4, li_5, li_6, li_7, li_8, li_9, li_10, li_12, li_14, li_20, li_26, li_30, li_31, li_36, li_38, li_47, li_48, li_50, li_57, li_58, li_80, li_98, li_99, li_100, li_102, li_104, li_105, li_108, li_109, li_110, li_114, li_115, li_119, li_122, li_137, li_146, li_147, li_148, li_149, li_150, li_200, li_255, li_256, li_274, li_510, li_512, li_640, li_999, li_1000, li_1024, li_3334, li_5000, li_9999, li_10000, li_23338, li_26672, li_30000, li_99999, li_150000, li_300000, pk_mul, nI_add, pk_sub, nI_clamp, nI_1, nI_p1, nI_a0, nI_0a, nI_m0, nI_m1, cl_0, cl_1, z01, z11]
  refine ⟨by rw [b18, ev]; simp (disch := omega) only [li_2, li_3, li_4, li_5, li_6, li_7, li_8, li_9, li_10, li_12, li_14, li_20, li_26, li_30, li_31, li_36, li_38, li_47, li_48, li_50, li_57, li_58, li_80, li_98, li_99, li_100, li_102, li_104, li_105, li_108, li_109, li_110, li_114, li_115, li_119, li_122, li_137, li_146, li_147, li_148, li_149, li_150, li_200, li_255, li_256, li_274, li_510, li_512, li_640, li_999, li_1000, li_1024, li_3334, li_5000, li_9999, li_10000, li_23338, li_26672, li_30000, li_99999, li_150000, li_300000, pk_mul, nI_add, pk_sub, nI_clamp, nI_1, nI_p1, nI_a0, nI_0a, nI_m0, nI_m1, cl_0, cl_1, z01, z11, nI_leI, nI_ltI, nI_eq, nz_lt0, nz_le, nz_eq0, nz_pos, nz_le0, nz_eq1, nz_lt1, nz_ge1, nz_le1, nz_gt1, nz_vp, nz_vp0, nz_vp1, six_nI, vix_nI, bix_nI, pix_nI, fix_nI, gix_nI, rix_nI, zix_nI, pix_0, pix_1, bix_0, fix_0, fix_1, rix_1, true_and, and_true]; omega, fun c9 => ⟨⟨hw, r8, hgx', nv8 _⟩, ?_⟩, fun c9 => ?_⟩
  · rw [show Int32.toNatClampNeg ((274 + 510 * (r38 18)) + 149) = 274 + 510 * v + 149 from ei, b20] at c9
    exact last (fun z => absurd z.2 (by rw [evv] at c9 ⊢; exact Int32.not_lt.mpr c9))
  · rw [show Int32.toNatClampNeg ((274 + 510 * (r38 18)) + 149) = 274 + 510 * v + 149 from ei, b20] at c9
    have c9' : q37 0 (274 + 510 * iv (gvF (q37 0) g) + 149) < wtF (q37 0) (iv (gvF (q37 0) g)) g := by rw [evv] at c9 ⊢; exact Int32.not_le.mp c9
    exact hP _ _ (rP1 (n := 7) (by unfold rsnD; simp only [c1, c2, c4, c5, if_neg c6, if_pos (And.intro c7' c9'), if_neg (Int32.not_lt.mpr c3)]) (by decide) k38 b17)
theorem k_X11_reasonOf (l : Launch) (D : va_G) (T : Nat → ClassId) (m0 : Nat) (a : Nat → Nat) (p0 : Int32) (r : Nat → Int32) (q : Nat → Nat → Int32) (h : WF (q 0) ∧ gok (q 0) p0) : RMi l yX11_reasonOf (ws_X11_reasonOf) rm_X11_reasonOf D T m0 a [.ref m0, .int p0] r q (fun v u => (v = nI (rsnD (q 0) (iv p0)).1 ∧ u.2 = q ∧ kR r u.1 [17, 18, 19, 20, 21, 22, 23] ∧ (¬ (rsnD (q 0) (iv p0)).1 = 0 → u.1 17 = (rsnD (q 0) (iv p0)).2) ∧ ((rsnD (q 0) (iv p0)).1 = 0 → u.1 18 = gvF (q 0) (iv p0) ∧ u.1 19 = gzF (q 0) (iv p0) ∧ u.1 20 = wtF (q 0) (iv (gvF (q 0) (iv p0))) (iv p0) ∧ u.1 21 = pcF (q 0) (iv (gvF (q 0) (iv p0))) (iv p0) ∧ u.1 22 = lgF (q 0) (iv (gvF (q 0) (iv p0))) (iv p0) ∧ u.1 23 = hdF (q 0) (iv (gvF (q 0) (iv p0))) (iv p0)))) := c_X11_reasonOf l D T m0 a p0 r q _ <|
  (w_reasonOf h (fun v u z => z))

end S_R8S
