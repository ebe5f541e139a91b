/-! setTags, fold, setStart, setScheme, setRule, setFilter. -/
theorem ns_self {X : ol} {k : Nat} : nset X k (X.1 k) = X := by
  unfold nset
  have : (fun j => if j = k then X.1 k else X.1 j) = X.1 := by funext j; by_cases e : j = k <;> simp [e]
  rw [this]
theorem ST_chg0 {xs : List Int32} {h h1 : ox_H} {f g : ox_H → Option ox_R} {v : Int32} {X X' : ol} {c : Int} {A' : List Nat} {H I : Nat → ol} {K : List Int} {T U' Y : ol} {w' : List Int} (h0 : h[0]? = some (.inl (2, xs))) (hM : MA h 133 Y) (hS : SR X c H I K T Y) (hf : f h = some (some (.int v), h1)) (hC1 : CS h1 X' (if c < 8 then c + 1 else 8) A' (hiN H c X) I K T U') (hfr : ∀ a, (a < 4 ∨ 133 ≤ a) → h1[a]? = h[a]?) (hg : g (mput h1 133 Y) = some (some (.int v), mput h1 133 (oset (paN Y) 0 w'))) (hV : vx X') (hR : Rel X' w') : ST xs h f g := by
  have hk := paN_k Y
  have e : nset (oset (oset (oset (paN Y) 0 w') 4 ((oset (paN Y) 0 w').2 4)) 5 ((oset (paN Y) 0 w').2 5)) 3 ((oset (paN Y) 0 w').1 3) = oset (paN Y) 0 w' := by
    rw [os_self (X := oset (paN Y) 0 w') (k := 4), os_self (X := oset (paN Y) 0 w') (k := 5), ns_self (X := oset (paN Y) 0 w') (k := 3)]
  refine ST_chg (A := []) (U := T) (pt := (oset (paN Y) 0 w').2 4) (nu := (oset (paN Y) 0 w').2 5) (nm := (oset (paN Y) 0 w').1 3) h0 hM hS hf hC1 hfr (by rw [e]; exact hg) ?_ ?_ hV hR
  · rw [os_2, if_neg (by decide), hk.2.2.1 4 (by decide)]; exact hS.2.2.2.2.2.2.2.2.2.2.2.2.2.1
  · rw [os_2, if_neg (by decide), hk.2.2.1 5 (by decide)]; exact hS.2.2.2.2.2.2.2.2.2.2.2.2.2.2
theorem k3_setOne {h : ox_H} {m : Nat} {Y : ol} (hb : m + 6 < h.length) (hw : (Y.2 0).length = 218) (hp : (Y.2 1).length = 1744) (c0 : 0 ≤ Y.1 0) (c1 : Y.1 0 ≤ 8) {q v : Int} (q0 : 0 ≤ q) (q1 : q < 218) : oe 109 0 [.ref m, .int (iI q), .int (iI v), .null] [] (mput h m Y) = some (some (.int (iI (ig (Y.2 0) q))), mput h m (oset (paN Y) 0 (iu (Y.2 0) q v))) := by
  have hr := k3_remember hb hw hp c0 c1
  have e := (paN_k Y).2.2.1 0 (by decide)
  simp (disch := omega) only [eX3_setOne_0, eX3_setOne_1, eX3_setOne_4, eX3_setOne_5, eX3_setOne_8, eX3_setOne_9, eX3_setOne_10, eX3_setOne_11, eX3_setOne_12, eX3_setOne_15, eX3_setOne_16, eX3_setOne_17, eX3_setOne_18, eX3_setOne_19, ox_O_s, ox_B_s, ox_g_t, ox_A_s, ox_push_s, ox_push_n, ox_some, ox_z0, ox_z1, iI_lt, iI_eq, iI_add, iI_sub, ig_at, if_true, if_false, if_pos, if_neg, mp_obj, mp_f0, mp_f1, mp_f2, mp_f3, mp_f4, mp_f5, mp_f6, mp_f7, mp_f8, mp_f9, mp_i0, mp_i1, mp_i2, mp_i3, mp_i4, mp_i5, mp_j0, mp_j1, mp_j2, mp_j3, mp_j4, mp_j5, mp_s0, mp_s1, mp_s2, mp_s3, mp_s4, mp_s5, mp_w2, mp_w4, mp_w6, mp_w9, oa_gl, ma_gl, ig_set, os_2, os_1, ns_1, ns_2, os_os, ns_ns, hr, e]
/-- what is at hand at a call -/
theorem sm_parts {xs : List Int32} {h : ox_H} (hS : Sm xs h) : ∃ X c A H I K T U Y, h[0]? = some (.inl (2, xs)) ∧ CS h X c A H I K T U ∧ MA h 133 Y ∧ SR X c H I K T Y := by
  obtain ⟨h0, X, c, A, H, I, K, T, U, Y, hC, hM, hR⟩ := hS
  exact ⟨X, c, A, H, I, K, T, U, Y, h0, hC, hM, hR⟩
theorem st_setTags {xs : List Int32} {h : ox_H} (hS : Sm xs h) (a b : Int32) : ST xs h (fun h => oe 53 0 [.ref 4, .int a, .int b, .null] [] h) (fun h => oe 110 0 [.ref 133, .int a, .int b] [] h) := by
  obtain ⟨X, c, A, H, I, K, T, U, Y, h0, hC, hM, hR⟩ := sm_parts hS
  obtain ⟨s1, s2, s3, s4, s5, -⟩ := id hR
  obtain ⟨b1, b2, b3, -⟩ := id hC
  have hw : (Y.2 0).length = 218 := s2.1
  obtain ⟨f0, f1, f2, f3, f4, f5, f6, f7, f8, f9, f10, f11, f12, f13, f14, f15⟩ := CS_facts hC
  have mO := (ma_facts hM).1
  obtain ⟨z, rfl, z0, z1⟩ := iI_ex a
  obtain ⟨v, rfl, v0, v1⟩ := iI_ex b
  rcases ol_find X z with ⟨p, p0, p1, rfl⟩ | hz
  · have hh := k1_has1 b3 s1 p0 p1
    have ho := s1.2.2.1 p p0 p1
    have hwi := k2_within (h := h) (a := v) (b := 0) (c := 31) v0 v1 (by omega) (by omega) (by omega) (by omega)
    have hhd := k3_isHeading1 hM s2 s1 p0 p1
    by_cases r : 0 ≤ v ∧ v ≤ 31
    · rw [decide_eq_true r] at hwi
      obtain ⟨h', A', e1, hC', hfr⟩ := k2_remember hC s1.1 s3.1 s3.2
      have hO' := hC'.2.2.1
      have hl' : h'.length = 140 := hC'.1
      rw [← hput_self hO'] at e1
      have hC2 := CS_now (X' := X) hC'
      obtain ⟨g0, g1, g2, g3, g4, g5, g6, g7, g8, g9, g10, g11, g12, g13, g14, g15⟩ := CS_facts hC2
      have hb5 : 5 + 10 < h'.length := by omega
      have ll : (X.2 3).length = 30 := s1.1 3 (by decide)
      refine ST_chg0 (h1 := hput h' 5 (oset X 3 (iu (X.2 3) (ig (X.2 0) p) v))) (v := iI (ig (X.2 3) (ig (X.2 0) p))) h0 hM hR ?_ (CS_now hC') (fun a ha => by rw [gp_out (by omega)]; exact hfr a ha) (w' := iu (Y.2 0) (91 + ig (X.2 0) p) v) ?_ (vx_a3 s1 (by omega) (by omega) ho.1 ho.2) (rel_a3 s1 s2 ho.1 ho.2)
      · simp (disch := omega) only [eX2_setTags_0, eX2_setTags_1, eX2_setTags_4, eX2_setTags_5, eX2_setTags_8, eX2_setTags_11, eX2_setTags_12, eX2_setTags_13, eX2_setTags_15, eX2_setTags_18, eX2_setTags_21, eX2_setTags_22, eX2_setTags_23, eX2_setTags_24, eX2_setTags_27, eX2_setTags_28, eX2_setTags_31, eX2_setTags_34, eX2_setTags_35, eX2_setTags_36, eX2_setTags_37, eX2_setTags_38, eX2_setTags_41, eX2_setTags_44, eX2_setTags_45, eX2_setTags_46, eX2_setTags_47, eX2_setTags_48, ox_O_s, ox_B_s, ox_g_t, ox_A_s, ox_push_s, ox_push_n, ox_some, ox_z0, ox_z1, iI_lt, iI_eq, iI_add, iI_sub, ig_at, if_true, if_false, if_pos, if_neg, f0, f1, f2, f3, f4, f5, f6, f7, f8, f9, f10, f11, f12, f13, f14, f15, hh, hwi, e1, g0, g1, g2, g3, g4, g5, g6, g7, g8, g9, g10, g11, g12, g13, g14, g15, zb_t, hp_obj, hp_f0, hp_f1, hp_f2, hp_f3, hp_f4, hp_f5, hp_f6, hp_f7, hp_f8, hp_f9, hp_f10, hp_f11, hp_f12, hp_i0, hp_i1, hp_i2, hp_i3, hp_i4, hp_i5, hp_i6, hp_i7, hp_i8, hp_i9, hp_j0, hp_j1, hp_j2, hp_j3, hp_j4, hp_j5, hp_j6, hp_j7, hp_j8, hp_j9, hp_s0, hp_s1, hp_s2, hp_s3, hp_s4, hp_s5, hp_s6, hp_s7, hp_s8, hp_s9, hp_w0, hp_w9, hp_w10, oa_gl, ma_gl, ig_set, os_2, os_1, ns_1, ns_2, os_os, ns_ns]
      · have hb6 : 133 + 6 < (hput h' 5 (oset X 3 (iu (X.2 3) (ig (X.2 0) p) v))).length := by rw [gp_len]; omega
        have hhd2 := k3_isHeading1 (ma_put (X := Y) hb6) s2 s1 p0 p1
        have hin2 := k3_isIn (h := mput (hput h' 5 (oset X 3 (iu (X.2 3) (ig (X.2 0) p) v))) 133 Y) (a := v) (b := 0) (c := 31) v0 v1 (by omega) (by omega) (by omega) (by omega)
        rw [decide_eq_true r] at hin2
        have hso := k3_setOne hb6 hw s5 (by omega) (by omega) (q := 91 + ig (X.2 0) p) (v := v) (by omega) (by omega)
        have er := (s2.2.2.2.1 p p0 p1).2.2.1
        rw [er] at hso
        simp (disch := omega) only [eX3_setTags_0, eX3_setTags_1, eX3_setTags_2, eX3_setTags_5, eX3_setTags_8, eX3_setTags_9, eX3_setTags_10, eX3_setTags_12, eX3_setTags_15, eX3_setTags_18, eX3_setTags_19, eX3_setTags_21, eX3_setTags_22, eX3_setTags_23, eX3_setTags_24, eX3_setTags_27, eX3_setTags_30, eX3_setTags_31, ox_O_s, ox_B_s, ox_g_t, ox_A_s, ox_push_s, ox_push_n, ox_some, ox_z0, ox_z1, iI_lt, iI_eq, iI_add, iI_sub, ig_at, if_true, if_false, if_pos, if_neg, mp_obj, mp_f0, mp_f1, mp_f2, mp_f3, mp_f4, mp_f5, mp_f6, mp_f7, mp_f8, mp_f9, mp_i0, mp_i1, mp_i2, mp_i3, mp_i4, mp_i5, mp_j0, mp_j1, mp_j2, mp_j3, mp_j4, mp_j5, mp_s0, mp_s1, mp_s2, mp_s3, mp_s4, mp_s5, mp_w2, mp_w4, mp_w6, mp_w9, oa_gl, ma_gl, ig_set, os_2, os_1, ns_1, ns_2, os_os, ns_ns, hhd2, hin2, zb_t, hso]
    · rw [decide_eq_false r] at hwi
      have hin2 := k3_isIn (h := h) (a := v) (b := 0) (c := 31) v0 v1 (by omega) (by omega) (by omega) (by omega)
      rw [decide_eq_false r] at hin2
      refine ST_same (v := iI (-1)) hS ?_ ?_
      · simp (disch := omega) only [eX2_setTags_0, eX2_setTags_1, eX2_setTags_4, eX2_setTags_5, eX2_setTags_8, eX2_setTags_11, eX2_setTags_12, eX2_setTags_13, eX2_setTags_15, eX2_setTags_18, eX2_setTags_21, eX2_setTags_22, eX2_setTags_23, eX2_setTags_24, eX2_setTags_27, eX2_setTags_28, eX2_setTags_31, eX2_setTags_34, eX2_setTags_35, eX2_setTags_36, eX2_setTags_37, eX2_setTags_38, eX2_setTags_41, eX2_setTags_44, eX2_setTags_45, eX2_setTags_46, eX2_setTags_47, eX2_setTags_48, ox_O_s, ox_B_s, ox_g_t, ox_A_s, ox_push_s, ox_push_n, ox_some, ox_z0, ox_z1, iI_lt, iI_eq, iI_add, iI_sub, ig_at, if_true, if_false, if_pos, if_neg, f0, f1, f2, f3, f4, f5, f6, f7, f8, f9, f10, f11, f12, f13, f14, f15, hh, hwi, zb_f]
      · simp (disch := omega) only [eX3_setTags_0, eX3_setTags_1, eX3_setTags_2, eX3_setTags_5, eX3_setTags_8, eX3_setTags_9, eX3_setTags_10, eX3_setTags_12, eX3_setTags_15, eX3_setTags_18, eX3_setTags_19, eX3_setTags_21, eX3_setTags_22, eX3_setTags_23, eX3_setTags_24, eX3_setTags_27, eX3_setTags_30, eX3_setTags_31, ox_O_s, ox_B_s, ox_g_t, ox_A_s, ox_push_s, ox_push_n, ox_some, ox_z0, ox_z1, iI_lt, iI_eq, iI_add, iI_sub, ig_at, if_true, if_false, if_pos, if_neg, mO, hhd, hin2, zb_f]
  · have hh := k1_has0 b3 s1 z0 z1 hz
    have hhd := k3_isHeading0 hM s2 s1 z0 z1 hz
    refine ST_same (v := iI (-1)) hS ?_ ?_
    · simp (disch := omega) only [eX2_setTags_0, eX2_setTags_1, eX2_setTags_4, eX2_setTags_5, eX2_setTags_8, eX2_setTags_11, eX2_setTags_12, eX2_setTags_13, eX2_setTags_15, eX2_setTags_18, eX2_setTags_21, eX2_setTags_22, eX2_setTags_23, eX2_setTags_24, eX2_setTags_27, eX2_setTags_28, eX2_setTags_31, eX2_setTags_34, eX2_setTags_35, eX2_setTags_36, eX2_setTags_37, eX2_setTags_38, eX2_setTags_41, eX2_setTags_44, eX2_setTags_45, eX2_setTags_46, eX2_setTags_47, eX2_setTags_48, ox_O_s, ox_B_s, ox_g_t, ox_A_s, ox_push_s, ox_push_n, ox_some, ox_z0, ox_z1, iI_lt, iI_eq, iI_add, iI_sub, ig_at, if_true, if_false, if_pos, if_neg, f0, f1, f2, f3, f4, f5, f6, f7, f8, f9, f10, f11, f12, f13, f14, f15, hh]
    · simp (disch := omega) only [eX3_setTags_0, eX3_setTags_1, eX3_setTags_2, eX3_setTags_5, eX3_setTags_8, eX3_setTags_9, eX3_setTags_10, eX3_setTags_12, eX3_setTags_15, eX3_setTags_18, eX3_setTags_19, eX3_setTags_21, eX3_setTags_22, eX3_setTags_23, eX3_setTags_24, eX3_setTags_27, eX3_setTags_30, eX3_setTags_31, ox_O_s, ox_B_s, ox_g_t, ox_A_s, ox_push_s, ox_push_n, ox_some, ox_z0, ox_z1, iI_lt, iI_eq, iI_add, iI_sub, ig_at, if_true, if_false, if_pos, if_neg, mO, hhd]
theorem st_fold {xs : List Int32} {h : ox_H} (hS : Sm xs h) (a b : Int32) : ST xs h (fun h => oe 54 0 [.ref 4, .int a, .int b, .null] [] h) (fun h => oe 111 0 [.ref 133, .int a, .int b] [] h) := by
  obtain ⟨X, c, A, H, I, K, T, U, Y, h0, hC, hM, hR⟩ := sm_parts hS
  obtain ⟨s1, s2, s3, s4, s5, -⟩ := id hR
  obtain ⟨b1, b2, b3, -⟩ := id hC
  have hw : (Y.2 0).length = 218 := s2.1
  obtain ⟨f0, f1, f2, f3, f4, f5, f6, f7, f8, f9, f10, f11, f12, f13, f14, f15⟩ := CS_facts hC
  have mO := (ma_facts hM).1
  obtain ⟨z, rfl, z0, z1⟩ := iI_ex a
  obtain ⟨v, rfl, v0, v1⟩ := iI_ex b
  rcases ol_find X z with ⟨p, p0, p1, rfl⟩ | hz
  · have hh := k1_has1 b3 s1 p0 p1
    have ho := s1.2.2.1 p p0 p1
    have hwi := k2_within (h := h) (a := v) (b := 0) (c := 1) v0 v1 (by omega) (by omega) (by omega) (by omega)
    have hhd := k3_isHeading1 hM s2 s1 p0 p1
    by_cases r : 0 ≤ v ∧ v ≤ 1
    · rw [decide_eq_true r] at hwi
      obtain ⟨h', A', e1, hC', hfr⟩ := k2_remember hC s1.1 s3.1 s3.2
      have hO' := hC'.2.2.1
      have hl' : h'.length = 140 := hC'.1
      rw [← hput_self hO'] at e1
      have hC2 := CS_now (X' := X) hC'
      obtain ⟨g0, g1, g2, g3, g4, g5, g6, g7, g8, g9, g10, g11, g12, g13, g14, g15⟩ := CS_facts hC2
      have hb5 : 5 + 10 < h'.length := by omega
      have ll : (X.2 4).length = 30 := s1.1 4 (by decide)
      refine ST_chg0 (h1 := hput h' 5 (oset X 4 (iu (X.2 4) (ig (X.2 0) p) v))) (v := iI (ig (X.2 4) (ig (X.2 0) p))) h0 hM hR ?_ (CS_now hC') (fun a ha => by rw [gp_out (by omega)]; exact hfr a ha) (w' := iu (Y.2 0) (121 + ig (X.2 0) p) v) ?_ (vx_a4 s1 (by omega) (by omega) ho.1 ho.2) (rel_a4 s1 s2 ho.1 ho.2)
      · simp (disch := omega) only [eX2_fold_0, eX2_fold_1, eX2_fold_4, eX2_fold_5, eX2_fold_8, eX2_fold_11, eX2_fold_12, eX2_fold_13, eX2_fold_14, eX2_fold_17, eX2_fold_20, eX2_fold_21, eX2_fold_22, eX2_fold_23, eX2_fold_26, eX2_fold_27, eX2_fold_30, eX2_fold_33, eX2_fold_34, eX2_fold_35, eX2_fold_36, eX2_fold_37, eX2_fold_40, eX2_fold_43, eX2_fold_44, eX2_fold_45, eX2_fold_46, eX2_fold_47, ox_O_s, ox_B_s, ox_g_t, ox_A_s, ox_push_s, ox_push_n, ox_some, ox_z0, ox_z1, iI_lt, iI_eq, iI_add, iI_sub, ig_at, if_true, if_false, if_pos, if_neg, f0, f1, f2, f3, f4, f5, f6, f7, f8, f9, f10, f11, f12, f13, f14, f15, hh, hwi, e1, g0, g1, g2, g3, g4, g5, g6, g7, g8, g9, g10, g11, g12, g13, g14, g15, zb_t, hp_obj, hp_f0, hp_f1, hp_f2, hp_f3, hp_f4, hp_f5, hp_f6, hp_f7, hp_f8, hp_f9, hp_f10, hp_f11, hp_f12, hp_i0, hp_i1, hp_i2, hp_i3, hp_i4, hp_i5, hp_i6, hp_i7, hp_i8, hp_i9, hp_j0, hp_j1, hp_j2, hp_j3, hp_j4, hp_j5, hp_j6, hp_j7, hp_j8, hp_j9, hp_s0, hp_s1, hp_s2, hp_s3, hp_s4, hp_s5, hp_s6, hp_s7, hp_s8, hp_s9, hp_w0, hp_w9, hp_w10, oa_gl, ma_gl, ig_set, os_2, os_1, ns_1, ns_2, os_os, ns_ns]
      · have hb6 : 133 + 6 < (hput h' 5 (oset X 4 (iu (X.2 4) (ig (X.2 0) p) v))).length := by rw [gp_len]; omega
        have hhd2 := k3_isHeading1 (ma_put (X := Y) hb6) s2 s1 p0 p1
        have hin2 := k3_isIn (h := mput (hput h' 5 (oset X 4 (iu (X.2 4) (ig (X.2 0) p) v))) 133 Y) (a := v) (b := 0) (c := 1) v0 v1 (by omega) (by omega) (by omega) (by omega)
        rw [decide_eq_true r] at hin2
        have hso := k3_setOne hb6 hw s5 (by omega) (by omega) (q := 121 + ig (X.2 0) p) (v := v) (by omega) (by omega)
        have er := (s2.2.2.2.1 p p0 p1).2.2.2.1
        rw [er] at hso
        simp (disch := omega) only [eX3_fold_0, eX3_fold_1, eX3_fold_2, eX3_fold_5, eX3_fold_8, eX3_fold_9, eX3_fold_10, eX3_fold_11, eX3_fold_14, eX3_fold_17, eX3_fold_18, eX3_fold_20, eX3_fold_21, eX3_fold_22, eX3_fold_23, eX3_fold_26, eX3_fold_29, eX3_fold_30, ox_O_s, ox_B_s, ox_g_t, ox_A_s, ox_push_s, ox_push_n, ox_some, ox_z0, ox_z1, iI_lt, iI_eq, iI_add, iI_sub, ig_at, if_true, if_false, if_pos, if_neg, mp_obj, mp_f0, mp_f1, mp_f2, mp_f3, mp_f4, mp_f5, mp_f6, mp_f7, mp_f8, mp_f9, mp_i0, mp_i1, mp_i2, mp_i3, mp_i4, mp_i5, mp_j0, mp_j1, mp_j2, mp_j3, mp_j4, mp_j5, mp_s0, mp_s1, mp_s2, mp_s3, mp_s4, mp_s5, mp_w2, mp_w4, mp_w6, mp_w9, oa_gl, ma_gl, ig_set, os_2, os_1, ns_1, ns_2, os_os, ns_ns, hhd2, hin2, zb_t, hso]
    · rw [decide_eq_false r] at hwi
      have hin2 := k3_isIn (h := h) (a := v) (b := 0) (c := 1) v0 v1 (by omega) (by omega) (by omega) (by omega)
      rw [decide_eq_false r] at hin2
      refine ST_same (v := iI (-1)) hS ?_ ?_
      · simp (disch := omega) only [eX2_fold_0, eX2_fold_1, eX2_fold_4, eX2_fold_5, eX2_fold_8, eX2_fold_11, eX2_fold_12, eX2_fold_13, eX2_fold_14, eX2_fold_17, eX2_fold_20, eX2_fold_21, eX2_fold_22, eX2_fold_23, eX2_fold_26, eX2_fold_27, eX2_fold_30, eX2_fold_33, eX2_fold_34, eX2_fold_35, eX2_fold_36, eX2_fold_37, eX2_fold_40, eX2_fold_43, eX2_fold_44, eX2_fold_45, eX2_fold_46, eX2_fold_47, ox_O_s, ox_B_s, ox_g_t, ox_A_s, ox_push_s, ox_push_n, ox_some, ox_z0, ox_z1, iI_lt, iI_eq, iI_add, iI_sub, ig_at, if_true, if_false, if_pos, if_neg, f0, f1, f2, f3, f4, f5, f6, f7, f8, f9, f10, f11, f12, f13, f14, f15, hh, hwi, zb_f]
      · simp (disch := omega) only [eX3_fold_0, eX3_fold_1, eX3_fold_2, eX3_fold_5, eX3_fold_8, eX3_fold_9, eX3_fold_10, eX3_fold_11, eX3_fold_14, eX3_fold_17, eX3_fold_18, eX3_fold_20, eX3_fold_21, eX3_fold_22, eX3_fold_23, eX3_fold_26, eX3_fold_29, eX3_fold_30, ox_O_s, ox_B_s, ox_g_t, ox_A_s, ox_push_s, ox_push_n, ox_some, ox_z0, ox_z1, iI_lt, iI_eq, iI_add, iI_sub, ig_at, if_true, if_false, if_pos, if_neg, mO, hhd, hin2, zb_f]
  · have hh := k1_has0 b3 s1 z0 z1 hz
    have hhd := k3_isHeading0 hM s2 s1 z0 z1 hz
    refine ST_same (v := iI (-1)) hS ?_ ?_
    · simp (disch := omega) only [eX2_fold_0, eX2_fold_1, eX2_fold_4, eX2_fold_5, eX2_fold_8, eX2_fold_11, eX2_fold_12, eX2_fold_13, eX2_fold_14, eX2_fold_17, eX2_fold_20, eX2_fold_21, eX2_fold_22, eX2_fold_23, eX2_fold_26, eX2_fold_27, eX2_fold_30, eX2_fold_33, eX2_fold_34, eX2_fold_35, eX2_fold_36, eX2_fold_37, eX2_fold_40, eX2_fold_43, eX2_fold_44, eX2_fold_45, eX2_fold_46, eX2_fold_47, ox_O_s, ox_B_s, ox_g_t, ox_A_s, ox_push_s, ox_push_n, ox_some, ox_z0, ox_z1, iI_lt, iI_eq, iI_add, iI_sub, ig_at, if_true, if_false, if_pos, if_neg, f0, f1, f2, f3, f4, f5, f6, f7, f8, f9, f10, f11, f12, f13, f14, f15, hh]
    · simp (disch := omega) only [eX3_fold_0, eX3_fold_1, eX3_fold_2, eX3_fold_5, eX3_fold_8, eX3_fold_9, eX3_fold_10, eX3_fold_11, eX3_fold_14, eX3_fold_17, eX3_fold_18, eX3_fold_20, eX3_fold_21, eX3_fold_22, eX3_fold_23, eX3_fold_26, eX3_fold_29, eX3_fold_30, ox_O_s, ox_B_s, ox_g_t, ox_A_s, ox_push_s, ox_push_n, ox_some, ox_z0, ox_z1, iI_lt, iI_eq, iI_add, iI_sub, ig_at, if_true, if_false, if_pos, if_neg, mO, hhd]
theorem st_setStart {xs : List Int32} {h : ox_H} (hS : Sm xs h) (a b : Int32) : ST xs h (fun h => oe 55 0 [.ref 4, .int a, .int b, .null] [] h) (fun h => oe 112 0 [.ref 133, .int a, .int b] [] h) := by
  obtain ⟨X, c, A, H, I, K, T, U, Y, h0, hC, hM, hR⟩ := sm_parts hS
  obtain ⟨s1, s2, s3, s4, s5, -⟩ := id hR
  obtain ⟨b1, b2, b3, -⟩ := id hC
  have hw : (Y.2 0).length = 218 := s2.1
  obtain ⟨f0, f1, f2, f3, f4, f5, f6, f7, f8, f9, f10, f11, f12, f13, f14, f15⟩ := CS_facts hC
  have mO := (ma_facts hM).1
  obtain ⟨z, rfl, z0, z1⟩ := iI_ex a
  obtain ⟨v, rfl, v0, v1⟩ := iI_ex b
  rcases ol_find X z with ⟨p, p0, p1, rfl⟩ | hz
  · have hh := k1_has1 b3 s1 p0 p1
    have ho := s1.2.2.1 p p0 p1
    have hwi := k2_within (h := h) (a := v) (b := -1) (c := 60) v0 v1 (by omega) (by omega) (by omega) (by omega)
    have hhd := k3_isHeading1 hM s2 s1 p0 p1
    by_cases r : -1 ≤ v ∧ v ≤ 60
    · rw [decide_eq_true r] at hwi
      obtain ⟨h', A', e1, hC', hfr⟩ := k2_remember hC s1.1 s3.1 s3.2
      have hO' := hC'.2.2.1
      have hl' : h'.length = 140 := hC'.1
      rw [← hput_self hO'] at e1
      have hC2 := CS_now (X' := X) hC'
      obtain ⟨g0, g1, g2, g3, g4, g5, g6, g7, g8, g9, g10, g11, g12, g13, g14, g15⟩ := CS_facts hC2
      have hb5 : 5 + 10 < h'.length := by omega
      have ll : (X.2 5).length = 30 := s1.1 5 (by decide)
      refine ST_chg0 (h1 := hput h' 5 (oset X 5 (iu (X.2 5) (ig (X.2 0) p) v))) (v := iI (ig (X.2 5) (ig (X.2 0) p))) h0 hM hR ?_ (CS_now hC') (fun a ha => by rw [gp_out (by omega)]; exact hfr a ha) (w' := iu (Y.2 0) (151 + ig (X.2 0) p) v) ?_ (vx_a5 s1 (by omega) (by omega) ho.1 ho.2) (rel_a5 s1 s2 ho.1 ho.2)
      · simp (disch := omega) only [eX2_setStart_0, eX2_setStart_1, eX2_setStart_4, eX2_setStart_5, eX2_setStart_8, eX2_setStart_11, eX2_setStart_12, eX2_setStart_13, eX2_setStart_15, eX2_setStart_18, eX2_setStart_21, eX2_setStart_22, eX2_setStart_23, eX2_setStart_24, eX2_setStart_27, eX2_setStart_28, eX2_setStart_31, eX2_setStart_34, eX2_setStart_35, eX2_setStart_36, eX2_setStart_37, eX2_setStart_38, eX2_setStart_41, eX2_setStart_44, eX2_setStart_45, eX2_setStart_46, eX2_setStart_47, eX2_setStart_48, ox_O_s, ox_B_s, ox_g_t, ox_A_s, ox_push_s, ox_push_n, ox_some, ox_z0, ox_z1, iI_lt, iI_eq, iI_add, iI_sub, ig_at, if_true, if_false, if_pos, if_neg, f0, f1, f2, f3, f4, f5, f6, f7, f8, f9, f10, f11, f12, f13, f14, f15, hh, hwi, e1, g0, g1, g2, g3, g4, g5, g6, g7, g8, g9, g10, g11, g12, g13, g14, g15, zb_t, hp_obj, hp_f0, hp_f1, hp_f2, hp_f3, hp_f4, hp_f5, hp_f6, hp_f7, hp_f8, hp_f9, hp_f10, hp_f11, hp_f12, hp_i0, hp_i1, hp_i2, hp_i3, hp_i4, hp_i5, hp_i6, hp_i7, hp_i8, hp_i9, hp_j0, hp_j1, hp_j2, hp_j3, hp_j4, hp_j5, hp_j6, hp_j7, hp_j8, hp_j9, hp_s0, hp_s1, hp_s2, hp_s3, hp_s4, hp_s5, hp_s6, hp_s7, hp_s8, hp_s9, hp_w0, hp_w9, hp_w10, oa_gl, ma_gl, ig_set, os_2, os_1, ns_1, ns_2, os_os, ns_ns]
      · have hb6 : 133 + 6 < (hput h' 5 (oset X 5 (iu (X.2 5) (ig (X.2 0) p) v))).length := by rw [gp_len]; omega
        have hhd2 := k3_isHeading1 (ma_put (X := Y) hb6) s2 s1 p0 p1
        have hin2 := k3_isIn (h := mput (hput h' 5 (oset X 5 (iu (X.2 5) (ig (X.2 0) p) v))) 133 Y) (a := v) (b := -1) (c := 60) v0 v1 (by omega) (by omega) (by omega) (by omega)
        rw [decide_eq_true r] at hin2
        have hso := k3_setOne hb6 hw s5 (by omega) (by omega) (q := 151 + ig (X.2 0) p) (v := v) (by omega) (by omega)
        have er := (s2.2.2.2.1 p p0 p1).2.2.2.2
        rw [er] at hso
        simp (disch := omega) only [eX3_setStart_0, eX3_setStart_1, eX3_setStart_2, eX3_setStart_5, eX3_setStart_8, eX3_setStart_9, eX3_setStart_10, eX3_setStart_12, eX3_setStart_15, eX3_setStart_18, eX3_setStart_19, eX3_setStart_22, eX3_setStart_23, eX3_setStart_24, eX3_setStart_25, eX3_setStart_28, eX3_setStart_31, eX3_setStart_32, ox_O_s, ox_B_s, ox_g_t, ox_A_s, ox_push_s, ox_push_n, ox_some, ox_z0, ox_z1, iI_lt, iI_eq, iI_add, iI_sub, ig_at, if_true, if_false, if_pos, if_neg, mp_obj, mp_f0, mp_f1, mp_f2, mp_f3, mp_f4, mp_f5, mp_f6, mp_f7, mp_f8, mp_f9, mp_i0, mp_i1, mp_i2, mp_i3, mp_i4, mp_i5, mp_j0, mp_j1, mp_j2, mp_j3, mp_j4, mp_j5, mp_s0, mp_s1, mp_s2, mp_s3, mp_s4, mp_s5, mp_w2, mp_w4, mp_w6, mp_w9, oa_gl, ma_gl, ig_set, os_2, os_1, ns_1, ns_2, os_os, ns_ns, hhd2, hin2, zb_t, hso]
    · rw [decide_eq_false r] at hwi
      have hin2 := k3_isIn (h := h) (a := v) (b := -1) (c := 60) v0 v1 (by omega) (by omega) (by omega) (by omega)
      rw [decide_eq_false r] at hin2
      refine ST_same (v := iI (-1)) hS ?_ ?_
      · simp (disch := omega) only [eX2_setStart_0, eX2_setStart_1, eX2_setStart_4, eX2_setStart_5, eX2_setStart_8, eX2_setStart_11, eX2_setStart_12, eX2_setStart_13, eX2_setStart_15, eX2_setStart_18, eX2_setStart_21, eX2_setStart_22, eX2_setStart_23, eX2_setStart_24, eX2_setStart_27, eX2_setStart_28, eX2_setStart_31, eX2_setStart_34, eX2_setStart_35, eX2_setStart_36, eX2_setStart_37, eX2_setStart_38, eX2_setStart_41, eX2_setStart_44, eX2_setStart_45, eX2_setStart_46, eX2_setStart_47, eX2_setStart_48, ox_O_s, ox_B_s, ox_g_t, ox_A_s, ox_push_s, ox_push_n, ox_some, ox_z0, ox_z1, iI_lt, iI_eq, iI_add, iI_sub, ig_at, if_true, if_false, if_pos, if_neg, f0, f1, f2, f3, f4, f5, f6, f7, f8, f9, f10, f11, f12, f13, f14, f15, hh, hwi, zb_f]
      · simp (disch := omega) only [eX3_setStart_0, eX3_setStart_1, eX3_setStart_2, eX3_setStart_5, eX3_setStart_8, eX3_setStart_9, eX3_setStart_10, eX3_setStart_12, eX3_setStart_15, eX3_setStart_18, eX3_setStart_19, eX3_setStart_22, eX3_setStart_23, eX3_setStart_24, eX3_setStart_25, eX3_setStart_28, eX3_setStart_31, eX3_setStart_32, ox_O_s, ox_B_s, ox_g_t, ox_A_s, ox_push_s, ox_push_n, ox_some, ox_z0, ox_z1, iI_lt, iI_eq, iI_add, iI_sub, ig_at, if_true, if_false, if_pos, if_neg, mO, hhd, hin2, zb_f]
  · have hh := k1_has0 b3 s1 z0 z1 hz
    have hhd := k3_isHeading0 hM s2 s1 z0 z1 hz
    refine ST_same (v := iI (-1)) hS ?_ ?_
    · simp (disch := omega) only [eX2_setStart_0, eX2_setStart_1, eX2_setStart_4, eX2_setStart_5, eX2_setStart_8, eX2_setStart_11, eX2_setStart_12, eX2_setStart_13, eX2_setStart_15, eX2_setStart_18, eX2_setStart_21, eX2_setStart_22, eX2_setStart_23, eX2_setStart_24, eX2_setStart_27, eX2_setStart_28, eX2_setStart_31, eX2_setStart_34, eX2_setStart_35, eX2_setStart_36, eX2_setStart_37, eX2_setStart_38, eX2_setStart_41, eX2_setStart_44, eX2_setStart_45, eX2_setStart_46, eX2_setStart_47, eX2_setStart_48, ox_O_s, ox_B_s, ox_g_t, ox_A_s, ox_push_s, ox_push_n, ox_some, ox_z0, ox_z1, iI_lt, iI_eq, iI_add, iI_sub, ig_at, if_true, if_false, if_pos, if_neg, f0, f1, f2, f3, f4, f5, f6, f7, f8, f9, f10, f11, f12, f13, f14, f15, hh]
    · simp (disch := omega) only [eX3_setStart_0, eX3_setStart_1, eX3_setStart_2, eX3_setStart_5, eX3_setStart_8, eX3_setStart_9, eX3_setStart_10, eX3_setStart_12, eX3_setStart_15, eX3_setStart_18, eX3_setStart_19, eX3_setStart_22, eX3_setStart_23, eX3_setStart_24, eX3_setStart_25, eX3_setStart_28, eX3_setStart_31, eX3_setStart_32, ox_O_s, ox_B_s, ox_g_t, ox_A_s, ox_push_s, ox_push_n, ox_some, ox_z0, ox_z1, iI_lt, iI_eq, iI_add, iI_sub, ig_at, if_true, if_false, if_pos, if_neg, mO, hhd]
