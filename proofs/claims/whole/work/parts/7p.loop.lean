section LOOPL
variable {p : Program} {l : Launch} {e : Env} {s : State} {m : MethodId} {args : Array Value} {below : List Frame} {meth : Method} {c : Code} {D : va_G} {A : Nat → Prop} {Q : State → Prop} {cM : Cond}
variable {T : Nat → ClassId} {ol od m0 b Lx : Nat} {ar a : Nat → Nat} {xs : Nat → Int32}
theorem and63 (x : Int32) : ∃ n : Nat, n < 64 ∧ x &&& 63 = nI n := by
  have e : x = nI x.toUInt32.toNat := by
    show x = UInt32.toInt32 (UInt32.ofNat x.toUInt32.toNat)
    rw [UInt32.ofNat_toNat]
    rfl
  refine ⟨x.toUInt32.toNat &&& 63, Nat.lt_succ_of_le Nat.and_le_right, ?_⟩
  have h : nI x.toUInt32.toNat &&& nI 63 = nI (x.toUInt32.toNat &&& 63) := nI_and _ 63
  rw [← e] at h
  exact h
/-- an index is left, or the script is at its end -/
theorem lx_in {i Lx : Nat} (hLx : Lx ≤ 3072) (hi : i ≤ 3084) (h : ¬ Int32.ofNat Lx - 6 < nI i) : i + 6 ≤ Lx := by
  rcases Nat.lt_or_ge Lx 6 with g | g
  · exfalso
    apply h
    have h0 : (0 : Int32) ≤ nI i := nI_pos' (by omega)
    have h1 : Int32.ofNat Lx - 6 < 0 := by
      match Lx, g with
      | 0, _ => decide
      | 1, _ => decide
      | 2, _ => decide
      | 3, _ => decide
      | 4, _ => decide
      | 5, _ => decide
      | n + 6, g => omega
    exact Int32.lt_of_lt_of_le h1 h0
  · have e : Int32.ofNat Lx - 6 = nI (Lx - 6) := sub_k (a := Lx) (b := 6) g
    rw [e] at h
    have := mt (nI_ltI (a := Lx - 6) (b := i) (by omega) (by omega)).mpr h
    omega
set_option maxRecDepth 100000 in
set_option maxHeartbeats 4000000 in
/-- the loop: with n calls left at most -/
theorem loop_l (hst : l.stackTraces = false) (C : GC p s m args meth c code RL (cM :: W0) 9 D A (zty T)) (E : GE T A s) (N : NX s) (hX : va_X b Lx xs s s.heap) (hbl : b < s.heap.size) (hbA : ¬ A b) (hLx : Lx ≤ 3072) (K0 : ∀ (i : Nat) (kc ks : Nat) (S : HS) (L : List Nat) (r : Nat → Int32) (q : Nat → Nat → Int32) (f : Nat → Int64) (fd : Nat → UInt64), GW p l e room_1 s m args below meth c D A 9 601024 7293034 Q (LWW T ol od m0 ar f fd S L r q) kc ks 2334 [(0, .ref b), (1, .ref (a 50)), (2, .ref m0), (3, .ref ol), (4, .ref od), (5, .int (nI i))] []) : ∀ (n i : Nat), Lx < i + 6 + 6 * n → i ≤ 3078 → ∀ (S : HS) (L : List Nat) (mu : Nat → Nat → Int32) (g bb : Nat → Int32) (sh : List Int32) (r : Nat → Int32) (q : Nat → Nat → Int32) (f : Nat → Int64) (fd : Nat → UInt64), LInv T a S L mu g bb sh r q → GW p l e room_1 s m args below meth c D A 9 601024 7293034 Q (LWW T ol od m0 ar f fd S L r q) (210 * n) (12400 * n) 28 [(0, .ref b), (1, .ref (a 50)), (2, .ref m0), (3, .ref ol), (4, .ref od), (5, .int (nI i))] [] := by
  have head : ∀ (n i : Nat), i ≤ 3078 → ∀ (S : HS) (L : List Nat) (r : Nat → Int32) (q : Nat → Nat → Int32) (f : Nat → Int64) (fd : Nat → UInt64), (i + 6 ≤ Lx → GW p l e room_1 s m args below meth c D A 9 601024 7293034 Q (LWW T ol od m0 ar f fd S L r q) (210 * n) (12400 * n) 38 [(0, .ref b), (1, .ref (a 50)), (2, .ref m0), (3, .ref ol), (4, .ref od), (5, .int (nI i))] []) → GW p l e room_1 s m args below meth c D A 9 601024 7293034 Q (LWW T ol od m0 ar f fd S L r q) (210 * n) (12400 * n) 28 [(0, .ref b), (1, .ref (a 50)), (2, .ref m0), (3, .ref ol), (4, .ref od), (5, .int (nI i))] [] := fun n i hi S L r q f fd k => by
    refine g_iload C dL_law_28 5 rfl ?_
    refine g_aload_n C dL_law_30 rfl 0 rfl ?_
    refine gl_slen C hX hbl hbA dL_law_31 ?_
    refine g_bipush (v := 6) C dL_law_32 (by decide) ?_
    refine g_isub C dL_law_34 ?_
    exact g_icmp_gt (tgt := 2334) C dL_law_35 (by decide) (fun _ => K0 i _ _ S L r q f fd) (fun z => k (lx_in hLx (by omega) z))
  intro n
  induction n with
  | zero => exact fun i h1 h2 S L mu g bb sh r q f fd hI => head 0 i h2 S L r q f fd (fun z => by omega)
  | succ n ih =>
    intro i h1 h2 S L mu g bb sh r q f fd hI
    refine head (n + 1) i h2 S L r q f fd (fun hi => ?_)
    have K : LK p l e s m args below meth c D A Q T a ar ol od m0 b i (210 * n) (12400 * n) := fun S L mu g bb sh r q f fd hI => by
      refine g_iinc (lv' := [(5, .int (nI (i + 6))), (0, .ref b), (1, .ref (a 50)), (2, .ref m0), (3, .ref ol), (4, .ref od)]) C dL_law_2328 (j := 5) rfl (nI_add i 6) (by decide) rfl ?_
      refine g_goto (tgt := 28) C dL_law_2331 (by decide) ?_
      refine g_locals [1, 2, 3, 4, 5, 0] rfl ?_
      exact ih (i + 6) (by omega) (by omega) S L mu g bb sh r q f fd hI
    refine g_aload_n C dL_law_38 rfl 0 rfl ?_
    refine g_iload C dL_law_39 5 rfl ?_
    refine gl_sld C hX hbl hbA (vp_in_nI (by omega) (by omega)) dL_law_41 ?_
    refine g_bipush (v := 63) C dL_law_42 (by decide) ?_
    refine g_iand C dL_law_44 ?_
    obtain ⟨k, hk, ek⟩ := and63 (xs (Int32.toNatClampNeg (nI i)))
    rw [ek]
    match k, hk with
    | 0, _ => exact g_tableIn (off := 147) (tgt := 192) C dL_law_45 (by decide +kernel) (by decide +kernel) (by decide +kernel) (by decide) (lcs_0 hst C E N hX hbl hbA hLx hi (by omega) (by omega) hI K)
    | 1, _ => exact g_tableIn (off := 215) (tgt := 260) C dL_law_45 (by decide +kernel) (by decide +kernel) (by decide +kernel) (by decide) (lcs_1 hst C E N hX hbl hbA hLx hi (by omega) (by omega) hI K)
    | 2, _ => exact g_tableIn (off := 273) (tgt := 318) C dL_law_45 (by decide +kernel) (by decide +kernel) (by decide +kernel) (by decide) (lcs_2 hst C E N hX hbl hbA hLx hi (by omega) (by omega) hI K)
    | 3, _ => exact g_tableIn (off := 329) (tgt := 374) C dL_law_45 (by decide +kernel) (by decide +kernel) (by decide +kernel) (by decide) (lcs_3 hst C E N hX hbl hbA hLx hi (by omega) (by omega) hI K)
    | 4, _ => exact g_tableIn (off := 373) (tgt := 418) C dL_law_45 (by decide +kernel) (by decide +kernel) (by decide +kernel) (by decide) (lcs_4 hst C E N hX hbl hbA hLx hi (by omega) (by omega) hI K)
    | 5, _ => exact g_tableIn (off := 429) (tgt := 474) C dL_law_45 (by decide +kernel) (by decide +kernel) (by decide +kernel) (by decide) (lcs_5 hst C E N hX hbl hbA hLx hi (by omega) (by omega) hI K)
    | 6, _ => exact g_tableIn (off := 497) (tgt := 542) C dL_law_45 (by decide +kernel) (by decide +kernel) (by decide +kernel) (by decide) (lcs_6 hst C E N hX hbl hbA hLx hi (by omega) (by omega) hI K)
    | 7, _ => exact g_tableIn (off := 565) (tgt := 610) C dL_law_45 (by decide +kernel) (by decide +kernel) (by decide +kernel) (by decide) (lcs_7 hst C E N hX hbl hbA hLx hi (by omega) (by omega) hI K)
    | 8, _ => exact g_tableIn (off := 673) (tgt := 718) C dL_law_45 (by decide +kernel) (by decide +kernel) (by decide +kernel) (by decide) (lcs_8 hst C E N hX hbl hbA hLx hi (by omega) (by omega) hI K)
    | 9, _ => exact g_tableIn (off := 753) (tgt := 798) C dL_law_45 (by decide +kernel) (by decide +kernel) (by decide +kernel) (by decide) (lcs_9 hst C E N hX hbl hbA hLx hi (by omega) (by omega) hI K)
    | 10, _ => exact g_tableIn (off := 833) (tgt := 878) C dL_law_45 (by decide +kernel) (by decide +kernel) (by decide +kernel) (by decide) (lcs_10 hst C E N hX hbl hbA hLx hi (by omega) (by omega) hI K)
    | 11, _ => exact g_tableIn (off := 925) (tgt := 970) C dL_law_45 (by decide +kernel) (by decide +kernel) (by decide +kernel) (by decide) (lcs_11 hst C E N hX hbl hbA hLx hi (by omega) (by omega) hI K)
    | 12, _ => exact g_tableIn (off := 1029) (tgt := 1074) C dL_law_45 (by decide +kernel) (by decide +kernel) (by decide +kernel) (by decide) (lcs_12 hst C E N hX hbl hbA hLx hi (by omega) (by omega) hI K)
    | 13, _ => exact g_tableIn (off := 1109) (tgt := 1154) C dL_law_45 (by decide +kernel) (by decide +kernel) (by decide +kernel) (by decide) (lcs_13 hst C E N hX hbl hbA hLx hi (by omega) (by omega) hI K)
    | 14, _ => exact g_tableIn (off := 1177) (tgt := 1222) C dL_law_45 (by decide +kernel) (by decide +kernel) (by decide +kernel) (by decide) (lcs_14 hst C E N hX hbl hbA hLx hi (by omega) (by omega) hI K)
    | 15, _ => exact g_tableIn (off := 1245) (tgt := 1290) C dL_law_45 (by decide +kernel) (by decide +kernel) (by decide +kernel) (by decide) (lcs_15 hst C E N hX hbl hbA hLx hi (by omega) (by omega) hI K)
    | 16, _ => exact g_tableIn (off := 1301) (tgt := 1346) C dL_law_45 (by decide +kernel) (by decide +kernel) (by decide +kernel) (by decide) (lcs_16 hst C E N hX hbl hbA hLx hi (by omega) (by omega) hI K)
    | 17, _ => exact g_tableIn (off := 1369) (tgt := 1414) C dL_law_45 (by decide +kernel) (by decide +kernel) (by decide +kernel) (by decide) (lcs_17 hst C E N hX hbl hbA hLx hi (by omega) (by omega) hI K)
    | 18, _ => exact g_tableIn (off := 1425) (tgt := 1470) C dL_law_45 (by decide +kernel) (by decide +kernel) (by decide +kernel) (by decide) (lcs_18 hst C E N hX hbl hbA hLx hi (by omega) (by omega) hI K)
    | 19, _ => exact g_tableIn (off := 1497) (tgt := 1542) C dL_law_45 (by decide +kernel) (by decide +kernel) (by decide +kernel) (by decide) (lcs_19 hst C E N hX hbl hbA hLx hi (by omega) (by omega) hI K)
    | 20, _ => exact g_tableIn (off := 1574) (tgt := 1619) C dL_law_45 (by decide +kernel) (by decide +kernel) (by decide +kernel) (by decide) (lcs_20 hst C E N hX hbl hbA hLx hi (by omega) (by omega) hI K)
    | 21, _ => exact g_tableIn (off := 1630) (tgt := 1675) C dL_law_45 (by decide +kernel) (by decide +kernel) (by decide +kernel) (by decide) (lcs_21 hst C E N hX hbl hbA hLx hi (by omega) (by omega) hI K)
    | 22, _ => exact g_tableIn (off := 1698) (tgt := 1743) C dL_law_45 (by decide +kernel) (by decide +kernel) (by decide +kernel) (by decide) (lcs_22 hst C E N hX hbl hbA hLx hi (by omega) (by omega) hI K)
    | 23, _ => exact g_tableIn (off := 1754) (tgt := 1799) C dL_law_45 (by decide +kernel) (by decide +kernel) (by decide +kernel) (by decide) (lcs_23 hst C E N hX hbl hbA hLx hi (by omega) (by omega) hI K)
    | 24, _ => exact g_tableIn (off := 1822) (tgt := 1867) C dL_law_45 (by decide +kernel) (by decide +kernel) (by decide +kernel) (by decide) (lcs_24 hst C E N hX hbl hbA hLx hi (by omega) (by omega) hI K)
    | 25, _ => exact g_tableIn (off := 1878) (tgt := 1923) C dL_law_45 (by decide +kernel) (by decide +kernel) (by decide +kernel) (by decide) (lcs_25 hst C E N hX hbl hbA hLx hi (by omega) (by omega) hI K)
    | 26, _ => exact g_tableIn (off := 1934) (tgt := 1979) C dL_law_45 (by decide +kernel) (by decide +kernel) (by decide +kernel) (by decide) (lcs_26 hst C E N hX hbl hbA hLx hi (by omega) (by omega) hI K)
    | 27, _ => exact g_tableIn (off := 2002) (tgt := 2047) C dL_law_45 (by decide +kernel) (by decide +kernel) (by decide +kernel) (by decide) (lcs_27 hst C E N hX hbl hbA hLx hi (by omega) (by omega) hI K)
    | 28, _ => exact g_tableIn (off := 2058) (tgt := 2103) C dL_law_45 (by decide +kernel) (by decide +kernel) (by decide +kernel) (by decide) (lcs_28 hst C E N hX hbl hbA hLx hi (by omega) (by omega) hI K)
    | 29, _ => exact g_tableIn (off := 2102) (tgt := 2147) C dL_law_45 (by decide +kernel) (by decide +kernel) (by decide +kernel) (by decide) (lcs_29 hst C E N hX hbl hbA hLx hi (by omega) (by omega) hI K)
    | 30, _ => exact g_tableIn (off := 2115) (tgt := 2160) C dL_law_45 (by decide +kernel) (by decide +kernel) (by decide +kernel) (by decide) (lcs_30 hst C E N hX hbl hbA hLx hi (by omega) (by omega) hI K)
    | 31, _ => exact g_tableIn (off := 2159) (tgt := 2204) C dL_law_45 (by decide +kernel) (by decide +kernel) (by decide +kernel) (by decide) (lcs_31 hst C E N hX hbl hbA hLx hi (by omega) (by omega) hI K)
    | 32, _ => exact g_tableIn (off := 2227) (tgt := 2272) C dL_law_45 (by decide +kernel) (by decide +kernel) (by decide +kernel) (by decide) (lcs_32 hst C E N hX hbl hbA hLx hi (by omega) (by omega) hI K)
    | k + 33, hk =>
      refine g_tableOut (tgt := 2328) C dL_law_45 (Or.inr ?_) (by decide) ?_
      · rw [nI_toInt (by omega)]
        omega
      · obtain ⟨hL, hw, hF, hR, h120⟩ := hI
        exact gw_less (by omega) (by omega) (K S L mu g bb sh r q f fd ⟨hL, hw, hF, hR, h120⟩)
end LOOPL
