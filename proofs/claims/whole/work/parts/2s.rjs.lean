section S_RJS
abbrev ws_X11_readStatement : List Cond := Cond.code yX11_readStatement cX11_readStatement 3 none :: W0
abbrev rm_X11_readStatement : Room := ({ frames := 6, cells := 0, slots := 0, locals := 136 } : Room)
def wp_X11_readStatement (P : RST → Prop)  (r : Nat → Int32) (q : Nat → Nat → Int32) : Prop := ∀ v1 : Int32, v1 = (8 * (r 13)) → ((r 10 < r 8 → vp_in (r 10) 80) ∧ (∀ v3 : Int32, v3 = (sgnF r q) → (vp_in v1 640 ∧ (∀ q5 : Nat → Nat → Int32, q5 = va_up q 5 (upd (q 5) (Int32.toNatClampNeg v1) v3) → (∀ r6 : Nat → Int32, r6 = va_up r 10 ((r 10) + 1) → ((v3 = 122 → ((psO r6 ∧ s8 v1 ∧ (v3 = 122 ∨ v3 = 98 ∨ v3 = 109)) ∧ (∀ (r9 : Nat → Int32) (q10 : Nat → Nat → Int32), (zoP r6 q5 (iv v1) v3 r9 q10) → (∀ r12 : Nat → Int32, r12 = va_up r9 13 ((r9 13) + 1) → (P (r12, q10)))))) ∧ (¬ v3 = 122 → ((v3 = 98 → ((psO r6 ∧ s8 v1 ∧ (v3 = 122 ∨ v3 = 98 ∨ v3 = 109)) ∧ (∀ (r15 : Nat → Int32) (q16 : Nat → Nat → Int32), (zoP r6 q5 (iv v1) v3 r15 q16) → (∀ r18 : Nat → Int32, r18 = va_up r15 13 ((r15 13) + 1) → (P (r18, q16)))))) ∧ (¬ v3 = 98 → ((¬ v3 = 109 → ((v3 = 100 → ((psO r6) ∧ (∀ (v21 : Int32) (r22 : Nat → Int32) (q23 : Nat → Nat → Int32), (v21 = (nbF (q5 4) (iv (r6 8)) (pσ r6)).1 ∧ q23 = q5 ∧ kR r6 r22 [10, 11] ∧ psO r22 ∧ pσ r22 = (nbF (q5 4) (iv (r6 8)) (pσ r6)).2) → (vp_in (v1 + 1) 640 ∧ (∀ q26 : Nat → Nat → Int32, q26 = va_up q23 5 (upd (q23 5) (Int32.toNatClampNeg (v1 + 1)) v21) → (∀ r27 : Nat → Int32, r27 = va_up r22 13 ((r22 13) + 1) → (P (r27, q26)))))))) ∧ (¬ v3 = 100 → ((v3 = 102 → ((psO r6) ∧ (∀ (v29 : Int32) (r30 : Nat → Int32) (q31 : Nat → Nat → Int32), (v29 = (nbF (q5 4) (iv (r6 8)) (pσ r6)).1 ∧ q31 = q5 ∧ kR r6 r30 [10, 11] ∧ psO r30 ∧ pσ r30 = (nbF (q5 4) (iv (r6 8)) (pσ r6)).2) → (vp_in (v1 + 1) 640 ∧ (∀ q34 : Nat → Nat → Int32, q34 = va_up q31 5 (upd (q31 5) (Int32.toNatClampNeg (v1 + 1)) v29) → (∀ r35 : Nat → Int32, r35 = va_up r30 13 ((r30 13) + 1) → (P (r35, q34)))))))) ∧ (¬ v3 = 102 → ((v3 = 115 → ((psO r6) ∧ (∀ (v37 : Int32) (r38 : Nat → Int32) (q39 : Nat → Nat → Int32), (v37 = (nbF (q5 4) (iv (r6 8)) (pσ r6)).1 ∧ q39 = q5 ∧ kR r6 r38 [10, 11] ∧ psO r38 ∧ pσ r38 = (nbF (q5 4) (iv (r6 8)) (pσ r6)).2) → (vp_in (v1 + 1) 640 ∧ (∀ q42 : Nat → Nat → Int32, q42 = va_up q39 5 (upd (q39 5) (Int32.toNatClampNeg (v1 + 1)) v37) → (∀ r43 : Nat → Int32, r43 = va_up r38 13 ((r38 13) + 1) → (P (r43, q42)))))))) ∧ (¬ v3 = 115 → ((¬ v3 = 99 → ((¬ v3 = 97 → ((¬ v3 = 114 → (∀ r47 : Nat → Int32, r47 = va_up r6 11 1 → (∀ r48 : Nat → Int32, r48 = va_up r47 10 ((r47 10) - 1) → (∀ r49 : Nat → Int32, r49 = va_up r48 13 ((r48 13) + 1) → (P (r49, q5)))))) ∧ (v3 = 114 → ((psO r6 ∧ dix 0 9) ∧ (∀ (v50 : Int32) (r51 : Nat → Int32) (q52 : Nat → Nat → Int32), (v50 = dgV (q5 4) (iv (r6 8)) (pσ r6) 0 9 ∧ q52 = q5 ∧ kR r6 r51 [10, 11] ∧ psO r51 ∧ pσ r51 = dgS (q5 4) (iv (r6 8)) (pσ r6) 0 9) → (vp_in (v1 + 1) 640 ∧ (∀ q55 : Nat → Nat → Int32, q55 = va_up q52 5 (upd (q52 5) (Int32.toNatClampNeg (v1 + 1)) v50) → (∀ r56 : Nat → Int32, r56 = va_up r51 13 ((r51 13) + 1) → (P (r56, q55)))))))))) ∧ (v3 = 97 → ((psO r6 ∧ tsO r6 ∧ s8 v1) ∧ (∀ (r58 : Nat → Int32) (q59 : Nat → Nat → Int32), (exP r6 q5 (iv v1) r58 q59) → (∀ r61 : Nat → Int32, r61 = va_up r58 13 ((r58 13) + 1) → (P (r61, q59)))))))) ∧ (v3 = 99 → ((psO r6) ∧ (∀ (v62 : Int32) (r63 : Nat → Int32) (q64 : Nat → Nat → Int32), (v62 = (nbF (q5 4) (iv (r6 8)) (pσ r6)).1 ∧ q64 = q5 ∧ kR r6 r63 [10, 11] ∧ psO r63 ∧ pσ r63 = (nbF (q5 4) (iv (r6 8)) (pσ r6)).2) → (vp_in (v1 + 1) 640 ∧ (∀ q67 : Nat → Nat → Int32, q67 = va_up q64 5 (upd (q64 5) (Int32.toNatClampNeg (v1 + 1)) v62) → (∀ r68 : Nat → Int32, r68 = va_up r63 13 ((r63 13) + 1) → (P (r68, q67)))))))))))))))) ∧ (v3 = 109 → ((psO r6 ∧ s8 v1 ∧ (v3 = 122 ∨ v3 = 98 ∨ v3 = 109)) ∧ (∀ (r70 : Nat → Int32) (q71 : Nat → Nat → Int32), (zoP r6 q5 (iv v1) v3 r70 q71) → (∀ r73 : Nat → Int32, r73 = va_up r70 13 ((r70 13) + 1) → (P (r73, q71))))))))))))))))
set_option maxRecDepth 100000 in
set_option maxHeartbeats 4000000 in
theorem t_X11_readStatement {p : Program} {l : Launch} {e : Env} {s : State} {m : MethodId} {args : Array Value} {below : List Frame} {meth : Method} {c : Code} {D : va_G} {A : Nat → Prop} {T : Nat → ClassId} {m0 : Nat} {a : Nat → Nat} (C : GC p s m args meth c cX11_readStatement "FreightRaterModel" (ws_X11_readStatement) 3 D A (zty T)) (hr : meth.sig.returnType = none) (P : RST → Prop) : ∀  (r : Nat → Int32) (q : Nat → Nat → Int32), wp_X11_readStatement P  r q → GW p l e rm_X11_readStatement s m args below meth c D A 3 0 0 (MQ below (va_Qv P (RE D T m0 a A) A) args s 0 0 A) (RW m0 a T r q) 0 0 0 [(0, .ref m0)] [] := by
  have hw : ∀ {w : Cond}, w ∈ W0 → w.before args s = true := fun h => C.2.2.2.2.1 _ (List.mem_cons_of_mem _ h)
  intro  r q h
  unfold wp_X11_readStatement at h
  refine g_bipush (v := 8) C dX11_readStatement_0 (by decide) ?_
  refine g_aload_n C dX11_readStatement_2 rfl 0 rfl ?_
  refine gr_get C iwx_X11 13 (hw kw_1822) (by decide) rfl rfl dX11_readStatement_3 ?_
  refine g_imul C dX11_readStatement_6 ?_
  refine g_topi (fun v1 ev1 => ?_)
  replace h := h v1 ev1
  refine g_istore_n (lv' := [(1, .int v1), (0, .ref m0)]) C dX11_readStatement_7 rfl (by decide) rfl ?_
  refine g_aload_n C dX11_readStatement_8 rfl 1 rfl ?_
  obtain ⟨g2, h⟩ := h
  refine gr_callVf C [] rfl (k_X11_sign l D T m0 a  r q g2) (w0_V 0 C.2.2.2.2.1 kw_2038 kw_2040 ks_62 kw_9 kw_2041 rfl rfl (by decide +kernel) ⟨by decide, by decide⟩) rfl (Nat.le_of_ble_eq_true rfl) (Nat.zero_le _) (Nat.zero_le _) dX11_readStatement_9 ?_
  refine g_topi (fun v3 ev3 => ?_)
  replace h := h v3 ev3
  refine g_istore_n (lv' := [(2, .int v3), (1, .int v1), (0, .ref m0)]) C dX11_readStatement_12 rfl (by decide) rfl ?_
  refine g_aload_n C dX11_readStatement_13 rfl 2 rfl ?_
  refine gr_get C iwx_X11 14 (hw kw_1823) (by decide) rfl rfl dX11_readStatement_14 ?_
  refine g_iload_n C dX11_readStatement_17 rfl 1 rfl ?_
  refine g_iload_n C dX11_readStatement_18 rfl 0 rfl ?_
  obtain ⟨g4, h⟩ := h
  refine gr_ast_5 C g4 dX11_readStatement_19 ?_
  refine gr_nq (fun q5 eq5 => ?_)
  replace h := h q5 eq5
  refine g_aload_n C dX11_readStatement_20 rfl 2 rfl ?_
  refine g_dup C dX11_readStatement_21 rfl ?_
  refine gr_get C iwx_X11 10 (hw kw_1819) (by decide) rfl rfl dX11_readStatement_22 ?_
  refine g_iconst (v := 1) C dX11_readStatement_25 (by decide) ?_
  refine g_iadd C dX11_readStatement_26 ?_
  refine gr_put_10 C iwx_X11 (hw kw_1819) dX11_readStatement_27 ?_
  refine gr_nr (fun r6 er6 => ?_)
  replace h := h r6 er6
  refine g_iload_n C dX11_readStatement_30 rfl 0 rfl ?_
  refine g_bipush (v := 122) C dX11_readStatement_31 (by decide) ?_
  refine g_icmp_eq (tgt := 48) C dX11_readStatement_33 (by decide) (fun z7 => ?_) (fun z7 => ?_)
  · replace h := h.1 z7
    refine g_aload_n C dX11_readStatement_48 rfl 2 rfl ?_
    refine g_iload_n C dX11_readStatement_49 rfl 1 rfl ?_
    refine g_iload_n C dX11_readStatement_50 rfl 0 rfl ?_
    obtain ⟨g11, h⟩ := h
    refine gr_callvV C [.int v1, .int v3] rfl (k_X11_readZone l D T m0 a v1 v3 r6 q5 g11) (w0_V 2 C.2.2.2.2.1 kw_2042 kw_2044 ks_63 kw_9 kw_2045 rfl rfl (by decide +kernel) ⟨by decide, by decide⟩) rfl (Nat.le_of_ble_eq_true rfl) (Nat.zero_le _) (Nat.zero_le _) dX11_readStatement_51 (fun r9 q10 hp => ?_)
    replace h := h r9 q10 hp
    refine g_goto (tgt := 149) C dX11_readStatement_54 (by decide) ?_
    refine g_aload_n C dX11_readStatement_149 rfl 2 rfl ?_
    refine g_dup C dX11_readStatement_150 rfl ?_
    refine gr_get C iwx_X11 13 (hw kw_1822) (by decide) rfl rfl dX11_readStatement_151 ?_
    refine g_iconst (v := 1) C dX11_readStatement_154 (by decide) ?_
    refine g_iadd C dX11_readStatement_155 ?_
    refine gr_put_13 C iwx_X11 (hw kw_1822) dX11_readStatement_156 ?_
    refine gr_nr (fun r12 er12 => ?_)
    replace h := h r12 er12
    exact gr_vret C hr dX11_readStatement_159 h
  · replace h := h.2 z7
    refine g_iload_n C dX11_readStatement_36 rfl 0 rfl ?_
    refine g_bipush (v := 98) C dX11_readStatement_37 (by decide) ?_
    refine g_icmp_eq (tgt := 48) C dX11_readStatement_39 (by decide) (fun z13 => ?_) (fun z13 => ?_)
    · replace h := h.1 z13
      refine g_aload_n C dX11_readStatement_48 rfl 2 rfl ?_
      refine g_iload_n C dX11_readStatement_49 rfl 1 rfl ?_
      refine g_iload_n C dX11_readStatement_50 rfl 0 rfl ?_
      obtain ⟨g17, h⟩ := h
      refine gr_callvV C [.int v1, .int v3] rfl (k_X11_readZone l D T m0 a v1 v3 r6 q5 g17) (w0_V 2 C.2.2.2.2.1 kw_2042 kw_2044 ks_63 kw_9 kw_2045 rfl rfl (by decide +kernel) ⟨by decide, by decide⟩) rfl (Nat.le_of_ble_eq_true rfl) (Nat.zero_le _) (Nat.zero_le _) dX11_readStatement_51 (fun r15 q16 hp => ?_)
      replace h := h r15 q16 hp
      refine g_goto (tgt := 149) C dX11_readStatement_54 (by decide) ?_
      refine g_aload_n C dX11_readStatement_149 rfl 2 rfl ?_
      refine g_dup C dX11_readStatement_150 rfl ?_
      refine gr_get C iwx_X11 13 (hw kw_1822) (by decide) rfl rfl dX11_readStatement_151 ?_
      refine g_iconst (v := 1) C dX11_readStatement_154 (by decide) ?_
      refine g_iadd C dX11_readStatement_155 ?_
      refine gr_put_13 C iwx_X11 (hw kw_1822) dX11_readStatement_156 ?_
      refine gr_nr (fun r18 er18 => ?_)
      replace h := h r18 er18
      exact gr_vret C hr dX11_readStatement_159 h
    · replace h := h.2 z13
      refine g_iload_n C dX11_readStatement_42 rfl 0 rfl ?_
      refine g_bipush (v := 109) C dX11_readStatement_43 (by decide) ?_
      refine g_icmp_ne (tgt := 57) C dX11_readStatement_45 (by decide) (fun z19 => ?_) (fun z19 => ?_)
      · replace h := h.1 z19
        refine g_iload_n C dX11_readStatement_57 rfl 0 rfl ?_
        refine g_bipush (v := 100) C dX11_readStatement_58 (by decide) ?_
        refine g_icmp_eq (tgt := 81) C dX11_readStatement_60 (by decide) (fun z20 => ?_) (fun z20 => ?_)
        · replace h := h.1 z20
          refine g_aload_n C dX11_readStatement_81 rfl 2 rfl ?_
          refine gr_get C iwx_X11 14 (hw kw_1823) (by decide) rfl rfl dX11_readStatement_82 ?_
          refine g_iload_n C dX11_readStatement_85 rfl 1 rfl ?_
          refine g_iconst (v := 1) C dX11_readStatement_86 (by decide) ?_
          refine g_iadd C dX11_readStatement_87 ?_
          refine g_aload_n C dX11_readStatement_88 rfl 2 rfl ?_
          obtain ⟨g24, h⟩ := h
          refine gr_calliV C [] rfl (k_X11_number l D T m0 a  r6 q5 g24) (w0_V 0 C.2.2.2.2.1 kw_2058 kw_2060 ks_67 kw_9 kw_2061 rfl rfl (by decide +kernel) ⟨by decide, by decide⟩) rfl (Nat.le_of_ble_eq_true rfl) (Nat.zero_le _) (Nat.zero_le _) dX11_readStatement_89 (fun v21 r22 q23 hp => ?_)
          replace h := h v21 r22 q23 hp
          obtain ⟨g25, h⟩ := h
          refine gr_ast_5 C g25 dX11_readStatement_92 ?_
          refine gr_nq (fun q26 eq26 => ?_)
          replace h := h q26 eq26
          refine g_goto (tgt := 149) C dX11_readStatement_93 (by decide) ?_
          refine g_aload_n C dX11_readStatement_149 rfl 2 rfl ?_
          refine g_dup C dX11_readStatement_150 rfl ?_
          refine gr_get C iwx_X11 13 (hw kw_1822) (by decide) rfl rfl dX11_readStatement_151 ?_
          refine g_iconst (v := 1) C dX11_readStatement_154 (by decide) ?_
          refine g_iadd C dX11_readStatement_155 ?_
          refine gr_put_13 C iwx_X11 (hw kw_1822) dX11_readStatement_156 ?_
          refine gr_nr (fun r27 er27 => ?_)
          replace h := h r27 er27
          exact gr_vret C hr dX11_readStatement_159 h
        · replace h := h.2 z20
          refine g_iload_n C dX11_readStatement_63 rfl 0 rfl ?_
          refine g_bipush (v := 102) C dX11_readStatement_64 (by decide) ?_
          refine g_icmp_eq (tgt := 81) C dX11_readStatement_66 (by decide) (fun z28 => ?_) (fun z28 => ?_)
          · replace h := h.1 z28
            refine g_aload_n C dX11_readStatement_81 rfl 2 rfl ?_
            refine gr_get C iwx_X11 14 (hw kw_1823) (by decide) rfl rfl dX11_readStatement_82 ?_
            refine g_iload_n C dX11_readStatement_85 rfl 1 rfl ?_
            refine g_iconst (v := 1) C dX11_readStatement_86 (by decide) ?_
            refine g_iadd C dX11_readStatement_87 ?_
            refine g_aload_n C dX11_readStatement_88 rfl 2 rfl ?_
            obtain ⟨g32, h⟩ := h
            refine gr_calliV C [] rfl (k_X11_number l D T m0 a  r6 q5 g32) (w0_V 0 C.2.2.2.2.1 kw_2058 kw_2060 ks_67 kw_9 kw_2061 rfl rfl (by decide +kernel) ⟨by decide, by decide⟩) rfl (Nat.le_of_ble_eq_true rfl) (Nat.zero_le _) (Nat.zero_le _) dX11_readStatement_89 (fun v29 r30 q31 hp => ?_)
            replace h := h v29 r30 q31 hp
            obtain ⟨g33, h⟩ := h
            refine gr_ast_5 C g33 dX11_readStatement_92 ?_
            refine gr_nq (fun q34 eq34 => ?_)
            replace h := h q34 eq34
            refine g_goto (tgt := 149) C dX11_readStatement_93 (by decide) ?_
            refine g_aload_n C dX11_readStatement_149 rfl 2 rfl ?_
            refine g_dup C dX11_readStatement_150 rfl ?_
            refine gr_get C iwx_X11 13 (hw kw_1822) (by decide) rfl rfl dX11_readStatement_151 ?_
            refine g_iconst (v := 1) C dX11_readStatement_154 (by decide) ?_
            refine g_iadd C dX11_readStatement_155 ?_
            refine gr_put_13 C iwx_X11 (hw kw_1822) dX11_readStatement_156 ?_
            refine gr_nr (fun r35 er35 => ?_)
            replace h := h r35 er35
            exact gr_vret C hr dX11_readStatement_159 h
          · replace h := h.2 z28
            refine g_iload_n C dX11_readStatement_69 rfl 0 rfl ?_
            refine g_bipush (v := 115) C dX11_readStatement_70 (by decide) ?_
            refine g_icmp_eq (tgt := 81) C dX11_readStatement_72 (by decide) (fun z36 => ?_) (fun z36 => ?_)
            · replace h := h.1 z36
              refine g_aload_n C dX11_readStatement_81 rfl 2 rfl ?_
              refine gr_get C iwx_X11 14 (hw kw_1823) (by decide) rfl rfl dX11_readStatement_82 ?_
              refine g_iload_n C dX11_readStatement_85 rfl 1 rfl ?_
              refine g_iconst (v := 1) C dX11_readStatement_86 (by decide) ?_
              refine g_iadd C dX11_readStatement_87 ?_
              refine g_aload_n C dX11_readStatement_88 rfl 2 rfl ?_
              obtain ⟨g40, h⟩ := h
              refine gr_calliV C [] rfl (k_X11_number l D T m0 a  r6 q5 g40) (w0_V 0 C.2.2.2.2.1 kw_2058 kw_2060 ks_67 kw_9 kw_2061 rfl rfl (by decide +kernel) ⟨by decide, by decide⟩) rfl (Nat.le_of_ble_eq_true rfl) (Nat.zero_le _) (Nat.zero_le _) dX11_readStatement_89 (fun v37 r38 q39 hp => ?_)
              replace h := h v37 r38 q39 hp
              obtain ⟨g41, h⟩ := h
              refine gr_ast_5 C g41 dX11_readStatement_92 ?_
              refine gr_nq (fun q42 eq42 => ?_)
              replace h := h q42 eq42
              refine g_goto (tgt := 149) C dX11_readStatement_93 (by decide) ?_
              refine g_aload_n C dX11_readStatement_149 rfl 2 rfl ?_
              refine g_dup C dX11_readStatement_150 rfl ?_
              refine gr_get C iwx_X11 13 (hw kw_1822) (by decide) rfl rfl dX11_readStatement_151 ?_
              refine g_iconst (v := 1) C dX11_readStatement_154 (by decide) ?_
              refine g_iadd C dX11_readStatement_155 ?_
              refine gr_put_13 C iwx_X11 (hw kw_1822) dX11_readStatement_156 ?_
              refine gr_nr (fun r43 er43 => ?_)
              replace h := h r43 er43
              exact gr_vret C hr dX11_readStatement_159 h
            · replace h := h.2 z36
              refine g_iload_n C dX11_readStatement_75 rfl 0 rfl ?_
              refine g_bipush (v := 99) C dX11_readStatement_76 (by decide) ?_
              refine g_icmp_ne (tgt := 96) C dX11_readStatement_78 (by decide) (fun z44 => ?_) (fun z44 => ?_)
              · replace h := h.1 z44
                refine g_iload_n C dX11_readStatement_96 rfl 0 rfl ?_
                refine g_bipush (v := 97) C dX11_readStatement_97 (by decide) ?_
                refine g_icmp_ne (tgt := 110) C dX11_readStatement_99 (by decide) (fun z45 => ?_) (fun z45 => ?_)
                · replace h := h.1 z45
                  refine g_iload_n C dX11_readStatement_110 rfl 0 rfl ?_
                  refine g_bipush (v := 114) C dX11_readStatement_111 (by decide) ?_
                  refine g_icmp_ne (tgt := 134) C dX11_readStatement_113 (by decide) (fun z46 => ?_) (fun z46 => ?_)
                  · replace h := h.1 z46
                    refine g_aload_n C dX11_readStatement_134 rfl 2 rfl ?_
                    refine g_iconst (v := 1) C dX11_readStatement_135 (by decide) ?_
                    refine gr_put_11 C iwx_X11 vz1 (hw kw_1820) dX11_readStatement_136 ?_
                    refine gr_nr (fun r47 er47 => ?_)
                    replace h := h r47 er47
                    refine g_aload_n C dX11_readStatement_139 rfl 2 rfl ?_
                    refine g_dup C dX11_readStatement_140 rfl ?_
                    refine gr_get C iwx_X11 10 (hw kw_1819) (by decide) rfl rfl dX11_readStatement_141 ?_
                    refine g_iconst (v := 1) C dX11_readStatement_144 (by decide) ?_
                    refine g_isub C dX11_readStatement_145 ?_
                    refine gr_put_10 C iwx_X11 (hw kw_1819) dX11_readStatement_146 ?_
                    refine gr_nr (fun r48 er48 => ?_)
                    replace h := h r48 er48
                    refine g_aload_n C dX11_readStatement_149 rfl 2 rfl ?_
                    refine g_dup C dX11_readStatement_150 rfl ?_
                    refine gr_get C iwx_X11 13 (hw kw_1822) (by decide) rfl rfl dX11_readStatement_151 ?_
                    refine g_iconst (v := 1) C dX11_readStatement_154 (by decide) ?_
                    refine g_iadd C dX11_readStatement_155 ?_
                    refine gr_put_13 C iwx_X11 (hw kw_1822) dX11_readStatement_156 ?_
                    refine gr_nr (fun r49 er49 => ?_)
                    replace h := h r49 er49
                    exact gr_vret C hr dX11_readStatement_159 h
                  · replace h := h.2 z46
                    refine g_aload_n C dX11_readStatement_116 rfl 2 rfl ?_
                    refine gr_get C iwx_X11 14 (hw kw_1823) (by decide) rfl rfl dX11_readStatement_117 ?_
                    refine g_iload_n C dX11_readStatement_120 rfl 1 rfl ?_
                    refine g_iconst (v := 1) C dX11_readStatement_121 (by decide) ?_
                    refine g_iadd C dX11_readStatement_122 ?_
                    refine g_aload_n C dX11_readStatement_123 rfl 2 rfl ?_
                    refine g_iconst (v := 0) C dX11_readStatement_124 (by decide) ?_
                    refine g_bipush (v := 9) C dX11_readStatement_125 (by decide) ?_
                    obtain ⟨g53, h⟩ := h
                    refine gr_calliV C [.int 0, .int 9] rfl (k_X11_digit l D T m0 a 0 9 r6 q5 g53) (w0_V 2 C.2.2.2.2.1 kw_2046 kw_2048 ks_64 kw_9 kw_2049 rfl rfl (by decide +kernel) ⟨by decide, by decide⟩) rfl (Nat.le_of_ble_eq_true rfl) (Nat.zero_le _) (Nat.zero_le _) dX11_readStatement_127 (fun v50 r51 q52 hp => ?_)
                    replace h := h v50 r51 q52 hp
                    obtain ⟨g54, h⟩ := h
                    refine gr_ast_5 C g54 dX11_readStatement_130 ?_
                    refine gr_nq (fun q55 eq55 => ?_)
                    replace h := h q55 eq55
                    refine g_goto (tgt := 149) C dX11_readStatement_131 (by decide) ?_
                    refine g_aload_n C dX11_readStatement_149 rfl 2 rfl ?_
                    refine g_dup C dX11_readStatement_150 rfl ?_
                    refine gr_get C iwx_X11 13 (hw kw_1822) (by decide) rfl rfl dX11_readStatement_151 ?_
                    refine g_iconst (v := 1) C dX11_readStatement_154 (by decide) ?_
                    refine g_iadd C dX11_readStatement_155 ?_
                    refine gr_put_13 C iwx_X11 (hw kw_1822) dX11_readStatement_156 ?_
                    refine gr_nr (fun r56 er56 => ?_)
                    replace h := h r56 er56
                    exact gr_vret C hr dX11_readStatement_159 h
                · replace h := h.2 z45
                  refine g_aload_n C dX11_readStatement_102 rfl 2 rfl ?_
                  refine g_iload_n C dX11_readStatement_103 rfl 1 rfl ?_
                  obtain ⟨g60, h⟩ := h
                  refine gr_callvV C [.int v1] rfl (k_X11_readExtra l D T m0 a v1 r6 q5 g60) (w0_V 1 C.2.2.2.2.1 kw_2062 kw_2064 ks_68 kw_9 kw_2065 rfl rfl (by decide +kernel) ⟨by decide, by decide⟩) rfl (Nat.le_of_ble_eq_true rfl) (Nat.zero_le _) (Nat.zero_le _) dX11_readStatement_104 (fun r58 q59 hp => ?_)
                  replace h := h r58 q59 hp
                  refine g_goto (tgt := 149) C dX11_readStatement_107 (by decide) ?_
                  refine g_aload_n C dX11_readStatement_149 rfl 2 rfl ?_
                  refine g_dup C dX11_readStatement_150 rfl ?_
                  refine gr_get C iwx_X11 13 (hw kw_1822) (by decide) rfl rfl dX11_readStatement_151 ?_
                  refine g_iconst (v := 1) C dX11_readStatement_154 (by decide) ?_
                  refine g_iadd C dX11_readStatement_155 ?_
                  refine gr_put_13 C iwx_X11 (hw kw_1822) dX11_readStatement_156 ?_
                  refine gr_nr (fun r61 er61 => ?_)
                  replace h := h r61 er61
                  exact gr_vret C hr dX11_readStatement_159 h
              · replace h := h.2 z44
                refine g_aload_n C dX11_readStatement_81 rfl 2 rfl ?_
                refine gr_get C iwx_X11 14 (hw kw_1823) (by decide) rfl rfl dX11_readStatement_82 ?_
                refine g_iload_n C dX11_readStatement_85 rfl 1 rfl ?_
                refine g_iconst (v := 1) C dX11_readStatement_86 (by decide) ?_
                refine g_iadd C dX11_readStatement_87 ?_
                refine g_aload_n C dX11_readStatement_88 rfl 2 rfl ?_
                obtain ⟨g65, h⟩ := h
                refine gr_calliV C [] rfl (k_X11_number l D T m0 a  r6 q5 g65) (w0_V 0 C.2.2.2.2.1 kw_2058 kw_2060 ks_67 kw_9 kw_2061 rfl rfl (by decide +kernel) ⟨by decide, by decide⟩) rfl (Nat.le_of_ble_eq_true rfl) (Nat.zero_le _) (Nat.zero_le _) dX11_readStatement_89 (fun v62 r63 q64 hp => ?_)
                replace h := h v62 r63 q64 hp
                obtain ⟨g66, h⟩ := h
                refine gr_ast_5 C g66 dX11_readStatement_92 ?_
                refine gr_nq (fun q67 eq67 => ?_)
                replace h := h q67 eq67
                refine g_goto (tgt := 149) C dX11_readStatement_93 (by decide) ?_
                refine g_aload_n C dX11_readStatement_149 rfl 2 rfl ?_
                refine g_dup C dX11_readStatement_150 rfl ?_
                refine gr_get C iwx_X11 13 (hw kw_1822) (by decide) rfl rfl dX11_readStatement_151 ?_
                refine g_iconst (v := 1) C dX11_readStatement_154 (by decide) ?_
                refine g_iadd C dX11_readStatement_155 ?_
                refine gr_put_13 C iwx_X11 (hw kw_1822) dX11_readStatement_156 ?_
                refine gr_nr (fun r68 er68 => ?_)
                replace h := h r68 er68
                exact gr_vret C hr dX11_readStatement_159 h
      · replace h := h.2 z19
        refine g_aload_n C dX11_readStatement_48 rfl 2 rfl ?_
        refine g_iload_n C dX11_readStatement_49 rfl 1 rfl ?_
        refine g_iload_n C dX11_readStatement_50 rfl 0 rfl ?_
        obtain ⟨g72, h⟩ := h
        refine gr_callvV C [.int v1, .int v3] rfl (k_X11_readZone l D T m0 a v1 v3 r6 q5 g72) (w0_V 2 C.2.2.2.2.1 kw_2042 kw_2044 ks_63 kw_9 kw_2045 rfl rfl (by decide +kernel) ⟨by decide, by decide⟩) rfl (Nat.le_of_ble_eq_true rfl) (Nat.zero_le _) (Nat.zero_le _) dX11_readStatement_51 (fun r70 q71 hp => ?_)
        replace h := h r70 q71 hp
        refine g_goto (tgt := 149) C dX11_readStatement_54 (by decide) ?_
        refine g_aload_n C dX11_readStatement_149 rfl 2 rfl ?_
        refine g_dup C dX11_readStatement_150 rfl ?_
        refine gr_get C iwx_X11 13 (hw kw_1822) (by decide) rfl rfl dX11_readStatement_151 ?_
        refine g_iconst (v := 1) C dX11_readStatement_154 (by decide) ?_
        refine g_iadd C dX11_readStatement_155 ?_
        refine gr_put_13 C iwx_X11 (hw kw_1822) dX11_readStatement_156 ?_
        refine gr_nr (fun r73 er73 => ?_)
        replace h := h r73 er73
        exact gr_vret C hr dX11_readStatement_159 h
theorem c_X11_readStatement (l : Launch) (D : va_G) (T : Nat → ClassId) (m0 : Nat) (a : Nat → Nat)  (r : Nat → Int32) (q : Nat → Nat → Int32) (P : RST → Prop) (h : wp_X11_readStatement P  r q) : RMv l yX11_readStatement (ws_X11_readStatement) rm_X11_readStatement D T m0 a [.ref m0] r q P := gr_metv (by decide) rfl rfl (Nat.le_of_ble_eq_true rfl) (fun p e s m args below meth c A C hr => t_X11_readStatement C hr P  r q h)
/-- one statement and the place behind it -/
def stR (b : Nat → Int32) (n : Nat) (σ : PS) : STM × PS :=
  if sg b n σ = 122 ∨ sg b n σ = 98 ∨ sg b n σ = 109 then (((sg b n σ, (zoR b n (sg b n σ) (σ.1 + 1, σ.2)).1), ([], 0), 0), (zoR b n (sg b n σ) (σ.1 + 1, σ.2)).2)
  else if sg b n σ = 100 ∨ sg b n σ = 102 ∨ sg b n σ = 115 ∨ sg b n σ = 99 then (((sg b n σ, (nbF b n (σ.1 + 1, σ.2)).1, 0, 0), ([], 0), 0), (nbF b n (σ.1 + 1, σ.2)).2)
  else if sg b n σ = 97 then exR b n (σ.1 + 1, σ.2)
  else if sg b n σ = 114 then (((114, dgV b n (σ.1 + 1, σ.2) 0 9, 0, 0), ([], 0), 0), dgS b n (σ.1 + 1, σ.2) 0 9)
  else (((0, 0, 0, 0), ([], 0), 0), (σ.1, true))
/-- where a statement stands -/
def stK (w u : Nat → Int32) (s hi : Nat) (x : STM) : Prop := w s = x.1.1 ∧ w (s + 1) = x.1.2.1 ∧ ((x.1.1 = 122 ∨ x.1.1 = 98 ∨ x.1.1 = 109 ∨ x.1.1 = 97) → w (s + 2) = x.1.2.2.1) ∧ ((x.1.1 = 122 ∨ x.1.1 = 98 ∨ x.1.1 = 97) → w (s + 3) = x.1.2.2.2) ∧ (x.1.1 = 97 → exK w u s hi x)
def tsL (r : Nat → Int32) : Prop := ∃ t : Nat, t ≤ iv (r 10) ∧ r 15 = nI t
def smX (r : Nat → Int32) : Prop := ∃ s : Nat, 2 * s ≤ iv (r 10) ∧ r 13 = nI s
def smP (r : Nat → Int32) (q : Nat → Nat → Int32) (r1 : Nat → Int32) (q1 : Nat → Nat → Int32) : Prop := kR r r1 [10, 11, 13, 15] ∧ kQ q q1 [5, 6] ∧ psO r1 ∧ pσ r1 = (stR (q 4) (iv (r 8)) (pσ r)).2 ∧ r1 13 = nI (iv (r 13) + 1) ∧ ((pσ r1).2 = false → (pσ r).1 + 1 ≤ (pσ r1).1 ∧ (∀ i, i < 8 * iv (r 13) → q1 5 i = q 5 i) ∧ (∀ i, i < iv (r 15) → q1 6 i = q 6 i) ∧ tsL r1 ∧ iv (r 15) ≤ iv (r1 15) ∧ stK (q1 5) (q1 6) (8 * iv (r 13)) (iv (r1 15)) (stR (q 4) (iv (r 8)) (pσ r)).1)
theorem tsO.L {r r1 : Nat → Int32} (h : tsO r) (e1 : r1 10 = r 10) (e2 : r1 15 = r 15) : tsL r1 := by
  obtain ⟨t, ht, e⟩ := h
  exact ⟨t, by rw [e1]; omega, e2.trans e⟩
theorem zoR_le {b : Nat → Int32} {n : Nat} {kd : Int32} {σ : PS} (h : σ.1 ≤ n) : (zoR b n kd σ).2.1 ≤ n ∧ σ.1 ≤ (zoR b n kd σ).2.1 := by
  have h1 := dgS_le (b := b) dix19 h
  have h2 := tkS_le (b := b) (c := 58) (by decide) h1.1
  have h3 := nbF_ok (b := b) (σ := ndS b n (dgS b n σ 1 9) 58) h2.1
  unfold zoR
  have h2' : (dgS b n σ 1 9).1 ≤ (ndS b n (dgS b n σ 1 9) 58).1 := h2.2.1
  split
  · exact ⟨h3.1, Nat.le_trans h1.2 (Nat.le_trans h2' h3.2.1)⟩
  · have h4 := tkS_le (b := b) (c := if kd = 122 then 45 else 42) (by split <;> decide) h3.1
    have h5 := nbF_ok (b := b) (σ := ndS b n (nbF b n (ndS b n (dgS b n σ 1 9) 58)).2 (if kd = 122 then 45 else 42)) h4.1
    have h4' : (nbF b n (ndS b n (dgS b n σ 1 9) 58)).2.1 ≤ (ndS b n (nbF b n (ndS b n (dgS b n σ 1 9) 58)).2 (if kd = 122 then 45 else 42)).1 := h4.2.1
    exact ⟨h5.1, Nat.le_trans h1.2 (Nat.le_trans h2' (Nat.le_trans h3.2.1 (Nat.le_trans h4' h5.2.1)))⟩
theorem cnL_le {b : Nat → Int32} {n : Nat} : ∀ (k row : Nat) (σ : PS), σ.1 ≤ n → (cnL b n k row σ).2.2.1 ≤ n ∧ σ.1 ≤ (cnL b n k row σ).2.2.1 := by
  intro k
  induction k with
  | zero => intro row σ h; exact ⟨h, Nat.le_refl _⟩
  | succ k ih =>
    intro row σ h
    rw [cnL]
    split
    · exact ⟨h, Nat.le_refl _⟩
    split
    · have h1 := tkS_le (b := b) (c := 38) (by decide) h
      have h2 := tsR_ok (b := b) h1.1
      have h3 := ih row (tsR b n (tkS b n σ 38)).2 h2.1
      exact ⟨h3.1, Nat.le_trans h1.2.1 (Nat.le_trans h2.2.1 h3.2)⟩
    split
    · have h1 := tkS_le (b := b) (c := 124) (by decide) h
      have h2 := tsR_ok (b := b) h1.1
      have h3 := ih (row + 1) (tsR b n (tkS b n σ 124)).2 h2.1
      exact ⟨h3.1, Nat.le_trans h1.2.1 (Nat.le_trans h2.2.1 h3.2)⟩
    · exact ⟨h, Nat.le_refl _⟩
theorem exR_le {b : Nat → Int32} {n : Nat} {σ : PS} (h : σ.1 ≤ n) : (exR b n σ).2.1 ≤ n ∧ σ.1 ≤ (exR b n σ).2.1 := by
  have h1 := dgS_le (b := b) dix09 h
  have h2 := tkS_le (b := b) (c := 58) (by decide) h1.1
  have h3 := nbF_ok (b := b) (σ := ndS b n (dgS b n σ 0 9) 58) h2.1
  have h2' : (dgS b n σ 0 9).1 ≤ (ndS b n (dgS b n σ 0 9) 58).1 := h2.2.1
  have hN : (exN b n σ).2.1 ≤ n ∧ σ.1 ≤ (exN b n σ).2.1 := ⟨h3.1, Nat.le_trans h1.2 (Nat.le_trans h2' h3.2.1)⟩
  have hU : (exU b n (exN b n σ).2).2.1 ≤ n ∧ σ.1 ≤ (exU b n (exN b n σ).2).2.1 := by
    unfold exU
    split
    · have := tkS_le (b := b) (c := 37) (by decide) hN.1; exact ⟨this.1, Nat.le_trans hN.2 this.2.1⟩
    split
    · have := tkS_le (b := b) (c := 42) (by decide) hN.1; exact ⟨this.1, Nat.le_trans hN.2 this.2.1⟩
    · exact hN
  have hC : (exC b n (exU b n (exN b n σ).2).2).2.1 ≤ n ∧ σ.1 ≤ (exC b n (exU b n (exN b n σ).2).2).2.1 := by
    unfold exC
    split
    · have g1 := tkS_le (b := b) (c := 63) (by decide) hU.1
      have g2 := tsR_ok (b := b) g1.1
      have g3 := cnL_le (b := b) 80 0 (tsR b n (tkS b n (exU b n (exN b n σ).2).2 63)).2 g2.1
      exact ⟨g3.1, Nat.le_trans hU.2 (Nat.le_trans g1.2.1 (Nat.le_trans g2.2.1 g3.2))⟩
    · exact hU
  show (exX b n (exC b n (exU b n (exN b n σ).2).2).2).2.1 ≤ n ∧ σ.1 ≤ (exX b n (exC b n (exU b n (exN b n σ).2).2).2).2.1
  unfold exX
  split
  · have g1 := tkS_le (b := b) (c := 33) (by decide) hC.1
    have g2 := dgS_le (b := b) dix09 g1.1
    exact ⟨g2.1, Nat.le_trans hC.2 (Nat.le_trans g1.2.1 g2.2)⟩
  · exact hC
theorem k_X11_readStatement (l : Launch) (D : va_G) (T : Nat → ClassId) (m0 : Nat) (a : Nat → Nat)  (r : Nat → Int32) (q : Nat → Nat → Int32) (h : psO r ∧ (pσ r).2 = false ∧ tsL r ∧ smX r) : RMv l yX11_readStatement (ws_X11_readStatement) rm_X11_readStatement D T m0 a [.ref m0] r q (fun u => (smP r q u.1 u.2)) := c_X11_readStatement l D T m0 a  r q _ <|
  (by
    obtain ⟨hp, hg, ⟨t, ht, e15⟩, ⟨s, hs, e13⟩⟩ := h
    obtain ⟨p1, p2, p3⟩ := ps_1 hp
    have e10 : iv (r 10) = (pσ r).1 := rfl
    rw [e10] at ht hs
    have es : iv (r 13) = s := by rw [e13]; exact nI_clamp (by omega)
    have et : iv (r 15) = t := by rw [e15]; exact nI_clamp (by omega)
    obtain ⟨s1, s2⟩ := sgn_sg (q := q) hp
    unfold wp_X11_readStatement
    intro v1 e1
    have e1' : v1 = nI (8 * s) := by rw [e1, e13]; exact pk_mul 8 s
    clear e1
    subst e1'
    refine ⟨s2, fun v3 e3 => ?_⟩
    rw [s1] at e3
    simp only [nI_clamp (n := 8 * s) (show 8 * s < 2 ^ 31 by omega)]
    rw [nz_vp (by omega) (by decide)]
    refine ⟨by omega, fun q5 e5 r6 e6 => ?_⟩
    rw [p3, nI_1] at e6
    have e54 : q5 4 = q 4 := by rw [e5, va_up_ne _ _ (by decide)]
    have e56 : q5 6 = q 6 := by rw [e5, va_up_ne _ _ (by decide)]
    have e55 : q5 5 = upd (q 5) (8 * s) v3 := by rw [e5, va_up_self]
    have k5 : kQ q q5 [5, 6] := by rw [e5]; exact kQ.rf.up (by decide) _
    have k6a : kR r r6 [10] := by rw [e6]; exact kR.rf.up (by decide) _
    have k6 : kR r r6 [10, 11, 15] := by rw [e6]; exact kR.rf.up (by decide) _
    have e68 : iv (r6 8) = iv (r 8) := by rw [k6 8 (by decide)]
    have hne : ∀ m : Int32, 97 ≤ m → v3 = m → psO r6 ∧ pσ r6 = ((pσ r).1 + 1, (pσ r).2) ∧ tsO r6 := fun m hm hv => by
      have hlt : (pσ r).1 < iv (r 8) := sg_lt (b := q 4) (by rw [← e3, hv]; intro z; rw [z] at hm; exact absurd hm (by decide))
      obtain ⟨g1, g2⟩ := psO_10 hp hlt e6
      refine ⟨g1, g2, t, ?_, ?_⟩
      · have : iv (r6 10) = (pσ r6).1 := rfl
        rw [this, g2]; exact Nat.lt_succ_of_le ht
      · rw [e6, va_up_ne _ _ (by decide)]; exact e15
    have fin : ∀ (r9 : Nat → Int32) (q9 : Nat → Nat → Int32), kR r r9 [10, 11, 15] → kQ q q9 [5, 6] → psO r9 → pσ r9 = (stR (q 4) (iv (r 8)) (pσ r)).2 → ((pσ r9).2 = false → (pσ r).1 + 1 ≤ (pσ r9).1 ∧ (∀ i, i < 8 * s → q9 5 i = q 5 i) ∧ (∀ i, i < t → q9 6 i = q 6 i) ∧ tsO r9 ∧ t ≤ iv (r9 15) ∧ stK (q9 5) (q9 6) (8 * s) (iv (r9 15)) (stR (q 4) (iv (r 8)) (pσ r)).1) → ∀ r12 : Nat → Int32, r12 = va_up r9 13 ((r9 13) + 1) → smP r q r12 q9 := by
      intro r9 q9 h1 h2 h3 h4 h5 r12 e12
      have f13 : r9 13 = nI s := (h1 13 (by decide)).trans e13
      rw [f13, nI_1] at e12
      have g8 : r12 8 = r9 8 := by rw [e12, va_up_ne _ _ (by decide)]
      have g10 : r12 10 = r9 10 := by rw [e12, va_up_ne _ _ (by decide)]
      have g11 : r12 11 = r9 11 := by rw [e12, va_up_ne _ _ (by decide)]
      have g15 : r12 15 = r9 15 := by rw [e12, va_up_ne _ _ (by decide)]
      have gσ : pσ r12 = pσ r9 := by unfold pσ; rw [g10, g11]
      refine ⟨by rw [e12]; exact (h1.mn (by decide)).up (by decide) _, h2, by unfold psO; rw [g8, g10, g11]; exact h3, by rw [gσ]; exact h4, by rw [e12, va_up_self, es], fun z => ?_⟩
      rw [gσ] at z ⊢
      obtain ⟨a0, a1, a2, a3, a4, a5⟩ := h5 z
      rw [es, et, g15]
      exact ⟨a0, a1, a2, a3.L g10 g15, a4, a5⟩
    -- a zone's statement
    have zone : (v3 = 122 ∨ v3 = 98 ∨ v3 = 109) → ((psO r6 ∧ s8 (nI (8 * s)) ∧ (v3 = 122 ∨ v3 = 98 ∨ v3 = 109)) ∧ (∀ (r9 : Nat → Int32) (q10 : Nat → Nat → Int32), (zoP r6 q5 (8 * s) v3 r9 q10) → (∀ r12 : Nat → Int32, r12 = va_up r9 13 ((r9 13) + 1) → smP r q r12 q10))) := by
      intro hk
      obtain ⟨g1, g2, g3⟩ : psO r6 ∧ pσ r6 = ((pσ r).1 + 1, (pσ r).2) ∧ tsO r6 := by
        rcases hk with z | z | z
        · exact hne _ (by decide) z
        · exact hne _ (by decide) z
        · exact hne _ (by decide) z
      refine ⟨⟨g1, ⟨8 * s, by omega, rfl⟩, hk⟩, fun r9 q10 hz => ?_⟩
      obtain ⟨a1, a2, a3, a4, a5⟩ := hz
      rw [e54, e68, g2] at a4 a5
      have hR : stR (q 4) (iv (r 8)) (pσ r) = (((v3, (zoR (q 4) (iv (r 8)) v3 ((pσ r).1 + 1, (pσ r).2)).1), ([], 0), 0), (zoR (q 4) (iv (r 8)) v3 ((pσ r).1 + 1, (pσ r).2)).2) := by
        unfold stR
        rw [← e3, if_pos hk]
      have hO9 : (pσ r6).1 ≤ (pσ r9).1 := by rw [g2, a4]; exact (zoR_le (σ := ((pσ r).1 + 1, (pσ r).2)) (by have := (ps_1 g1).1; rw [g2, e68] at this; exact this)).2
      refine fin r9 q10 (k6.tr a1 (fun _ h => h) (by decide)) (k5.tr a2 (fun _ h => h) (by decide)) a3 (by rw [hR]; exact a4) (fun z => ?_)
      obtain ⟨b1, b2, b3, b4⟩ := a5 z
      rw [hR]
      refine ⟨by rw [g2] at hO9; exact hO9, fun i hi => ?_, fun i _ => by rw [a2 6 (by decide), e56], g3.tk (a1 15 (by decide)) hO9, ?_, ?_, b2, fun _ => b3, fun c => b4 ?_, fun c => ?_⟩
      · rw [b1 i (by omega), e55, pk_un (by omega)]
      · rw [a1 15 (by decide), k6a 15 (by decide), et]; exact Nat.le_refl _
      · rw [b1 _ (by omega), e55, pk_us]
      · rcases c with c | c | c <;> (dsimp only at c; rw [c]; decide)
      · exfalso
        dsimp only at c
        rw [c] at hk
        exact absurd hk (by decide)
    -- a number's statement
    have num : (v3 = 100 ∨ v3 = 102 ∨ v3 = 115 ∨ v3 = 99) → ((psO r6) ∧ (∀ (v21 : Int32) (r22 : Nat → Int32) (q23 : Nat → Nat → Int32), (v21 = (nbF (q5 4) (iv (r6 8)) (pσ r6)).1 ∧ q23 = q5 ∧ kR r6 r22 [10, 11] ∧ psO r22 ∧ pσ r22 = (nbF (q5 4) (iv (r6 8)) (pσ r6)).2) → (vp_in (nI (8 * s) + 1) 640 ∧ (∀ q26 : Nat → Nat → Int32, q26 = va_up q23 5 (upd (q23 5) (iv (nI (8 * s) + 1)) v21) → (∀ r27 : Nat → Int32, r27 = va_up r22 13 ((r22 13) + 1) → smP r q r27 q26))))) := by
      intro hk
      obtain ⟨g1, g2, g3⟩ : psO r6 ∧ pσ r6 = ((pσ r).1 + 1, (pσ r).2) ∧ tsO r6 := by
        rcases hk with z | z | z | z
        · exact hne _ (by decide) z
        · exact hne _ (by decide) z
        · exact hne _ (by decide) z
        · exact hne _ (by decide) z
      refine ⟨g1, fun v21 r22 q23 hh => ?_⟩
      obtain ⟨a1, a2, a3, a4, a5⟩ := hh
      subst a2
      have hO9 : (pσ r6).1 ≤ (pσ r22).1 := by rw [a5]; exact (nbF_ok (ps_1 g1).1).2.1
      rw [e54, e68, g2] at a1 a5
      simp only [nI_1, nI_clamp (n := 8 * s + 1) (show 8 * s + 1 < 2 ^ 31 by omega)]
      rw [nz_vp (by omega) (by decide)]
      refine ⟨by omega, fun q26 e26 => ?_⟩
      have hn : ¬ (v3 = 122 ∨ v3 = 98 ∨ v3 = 109) := by rcases hk with z | z | z | z <;> rw [z] <;> decide
      have hR : stR (q 4) (iv (r 8)) (pσ r) = (((v3, v21, 0, 0), ([], 0), 0), pσ r22) := by
        unfold stR
        rw [← e3, if_neg hn, if_pos hk, a1, a5]
      refine fin r22 q26 (k6.tr a3 (fun _ h => h) (by decide)) (by rw [e26]; exact k5.up (by decide) _) a4 (by rw [hR]) (fun z => ?_)
      rw [hR]
      have f6 : q26 6 = q 6 := by rw [e26, va_up_ne _ _ (by decide), e56]
      have f5 : q26 5 = upd (upd (q 5) (8 * s) v3) (8 * s + 1) v21 := by rw [e26, va_up_self, e55]
      refine ⟨by rw [g2] at hO9; exact hO9, fun i hi => ?_, fun i _ => by rw [f6], g3.tk (a3 15 (by decide)) hO9, ?_, ?_, ?_, fun c => ?_, fun c => ?_, fun c => ?_⟩
      · rw [f5, pk_un (by omega), pk_un (by omega)]
      · rw [a3 15 (by decide), k6a 15 (by decide), et]; exact Nat.le_refl _
      · rw [f5, pk_un (by omega), pk_us]
      · rw [f5, pk_us]
      · exfalso
        dsimp only at c
        rcases c with c | c | c | c <;> rw [c] at hk <;> exact absurd hk (by decide)
      · exfalso
        dsimp only at c
        rcases c with c | c | c <;> rw [c] at hk <;> exact absurd hk (by decide)
      · exfalso
        dsimp only at c
        rw [c] at hk
        exact absurd hk (by decide)
    refine ⟨fun c => zone (Or.inl c), fun c1 => ⟨fun c => zone (Or.inr (Or.inl c)), fun c2 => ⟨fun c3 => ⟨fun c => num (Or.inl c), fun c4 => ⟨fun c => num (Or.inr (Or.inl c)), fun c5 => ⟨fun c => num (Or.inr (Or.inr (Or.inl c))), fun c6 => ⟨fun c7 => ⟨fun c8 => ⟨fun c9 => ?_, fun c => ?_⟩, fun c => ?_⟩, fun c => num (Or.inr (Or.inr (Or.inr c)))⟩⟩⟩⟩, fun c => zone (Or.inr (Or.inr c))⟩⟩⟩
    · -- no statement begins so
      intro r47 e47 r48 e48
      have hR : stR (q 4) (iv (r 8)) (pσ r) = (((0, 0, 0, 0), ([], 0), 0), ((pσ r).1, true)) := by
        unfold stR
        rw [← e3, if_neg (by rintro (z | z | z); exact c1 z; exact c2 z; exact c3 z), if_neg (by rintro (z | z | z | z); exact c4 z; exact c5 z; exact c6 z; exact c7 z), if_neg c8, if_neg c9]
      have f10 : r47 10 = nI ((pσ r).1 + 1) := by rw [e47, va_up_ne _ _ (by decide), e6, va_up_self]
      rw [f10, show nI ((pσ r).1 + 1) - 1 = nI (pσ r).1 from by rw [nI_p1 (by omega)]; rfl, ← p3] at e48
      have g : ∀ j, j ≠ 11 → r48 j = r j := fun j hj => by
        rw [e48]
        by_cases e : j = 10
        · rw [e, va_up_self]
        · rw [va_up_ne _ _ e, e47, va_up_ne _ _ hj, e6, va_up_ne _ _ e]
      have g11 : r48 11 = 1 := by rw [e48, va_up_ne _ _ (by decide), e47, va_up_self]
      have hp48 : psO r48 := by
        unfold psO
        rw [g 8 (by decide), g 10 (by decide), g11]
        exact ⟨hp.1, hp.2.1, vz1⟩
      have gσ : pσ r48 = ((pσ r).1, true) := by
        unfold pσ
        rw [g 10 (by decide), g11]
        rfl
      exact fin r48 q5 (fun j hj => g j (fun e => hj (by rw [e]; decide))) k5 hp48 (by rw [hR]; exact gσ) (fun z => by rw [gσ] at z; cases z)
    · -- an accessorial's end
      obtain ⟨g1, g2, g3⟩ := hne _ (by decide) c
      refine ⟨⟨g1, dix09⟩, fun v50 r51 q52 hh => ?_⟩
      obtain ⟨a1, a2, a3, a4, a5⟩ := hh
      subst a2
      have hO9 : (pσ r6).1 ≤ (pσ r51).1 := by rw [a5]; exact (dgS_le dix09 (ps_1 g1).1).2
      rw [e54, e68, g2] at a1 a5
      simp only [nI_1, nI_clamp (n := 8 * s + 1) (show 8 * s + 1 < 2 ^ 31 by omega)]
      rw [nz_vp (by omega) (by decide)]
      refine ⟨by omega, fun q55 e55' => ?_⟩
      have hR : stR (q 4) (iv (r 8)) (pσ r) = (((114, v50, 0, 0), ([], 0), 0), pσ r51) := by
        unfold stR
        rw [← e3, if_neg (by rintro (z | z | z); exact c1 z; exact c2 z; exact c3 z), if_neg (by rintro (z | z | z | z); exact c4 z; exact c5 z; exact c6 z; exact c7 z), if_neg c8, if_pos c, a1, a5]
      refine fin r51 q55 (k6.tr a3 (fun _ h => h) (by decide)) (by rw [e55']; exact k5.up (by decide) _) a4 (by rw [hR]) (fun z => ?_)
      rw [hR]
      have f6 : q55 6 = q 6 := by rw [e55', va_up_ne _ _ (by decide), e56]
      have f5 : q55 5 = upd (upd (q 5) (8 * s) v3) (8 * s + 1) v50 := by rw [e55', va_up_self, e55]
      refine ⟨by rw [g2] at hO9; exact hO9, fun i hi => ?_, fun i _ => by rw [f6], g3.tk (a3 15 (by decide)) hO9, ?_, ?_, ?_, fun c => ?_, fun c => ?_, fun c => ?_⟩
      · rw [f5, pk_un (by omega), pk_un (by omega)]
      · rw [a3 15 (by decide), k6a 15 (by decide), et]; exact Nat.le_refl _
      · rw [f5, pk_un (by omega), pk_us]; exact c
      · rw [f5, pk_us]
      · dsimp only at c; exact absurd c (by decide)
      · dsimp only at c; exact absurd c (by decide)
      · dsimp only at c; exact absurd c (by decide)
    · -- an accessorial
      obtain ⟨g1, g2, g3⟩ := hne _ (by decide) c
      refine ⟨⟨g1, g3, 8 * s, by omega, rfl⟩, fun r58 q59 hz => ?_⟩
      obtain ⟨a1, a2, a3, a4, a5⟩ := hz
      have hle := exR_le (b := q5 4) (ps_1 g1).1
      rw [← a4] at hle
      rw [e54, e68, g2] at a4 a5
      have hR : stR (q 4) (iv (r 8)) (pσ r) = exR (q 4) (iv (r 8)) ((pσ r).1 + 1, (pσ r).2) := by
        unfold stR
        rw [← e3, if_neg (by rintro (z | z | z); exact c1 z; exact c2 z; exact c3 z), if_neg (by rintro (z | z | z | z); exact c4 z; exact c5 z; exact c6 z; exact c7 z), if_pos c]
      have f15 : iv (r6 15) = t := by rw [e6, va_up_ne _ _ (by decide)]; exact et
      refine fin r58 q59 (k6.tr a1 (fun _ h => h) (fun _ h => h)) (k5.tr a2 (fun _ h => h) (fun _ h => h)) a3 (by rw [hR]; exact a4) (fun z => ?_)
      obtain ⟨b1, b2, b3, b4, b5, b6, b7, b8⟩ := a5 z
      rw [f15] at b2 b4
      rw [hR]
      have k97 : (exR (q 4) (iv (r 8)) ((pσ r).1 + 1, (pσ r).2)).1.1.1 = 97 := rfl
      refine ⟨by rw [g2] at hle; exact hle.2, fun i hi => ?_, fun i hi => by rw [b2 i hi, e56], b3, b4, ?_, b5, fun _ => b6, fun _ => b7, fun _ => b8⟩
      · rw [b1 i (by omega), e55, pk_un (by omega)]
      · rw [b1 _ (by omega), e55, pk_us, k97]; exact c)

end S_RJS
