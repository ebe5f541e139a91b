/-! remove. -/
theorem k2_cut {h : ox_H} {X : ol} (hV : vx X) (hb : 5 + 10 < h.length) {f t : Int} (f0 : 0 ≤ f) (f1 : f ≤ t) (t1 : t ≤ X.1 0) : oe 37 0 [.ref 5, .int (iI f), .int (iI t), .null] [] (hput h 5 X) = some (none, hput h 5 (cuX X f t)) :=
  k1_cut hb (vx_rfB hV) (hV.1 0 (by decide)) (hV.1 1 (by decide)) f0 f1 t1 hV.2.1.2 (fun q q0 q1 => hV.2.2.1 q q0 q1)
theorem sl_lvA {X : ol} (hV : vx X) {p e b q : Int} (p0 : 0 ≤ p) (e1 : e ≤ X.1 0) (q0 : 0 ≤ q) (q1 : q < X.1 0) : lvA (slX X p e b) q = if p ≤ q ∧ q < e then lvA X q + b else lvA X q := by
  rw [← sl_lv hV p0 e1 q0 q1]
  exact lvA_in (X := slX X p e b) q0 q1
theorem st_remove {xs : List Int32} {h : ox_H} (hS : Sm xs h) (a b : Int32) : ST xs h (fun h => oe 48 0 [.ref 4, .int a, .int b, .null, .null, .null, .null] [] h) (fun h => oe 103 0 [.ref 133, .int a, .int b, .null, .null] [] h) := by
  obtain ⟨X, c, A, H, I, K, T, U, Y, h0, hC, hM, hR⟩ := sm_parts hS
  obtain ⟨s1, s2, s3, s4, s5, -⟩ := id hR
  obtain ⟨b1, b2, b3, -⟩ := id hC
  have hw : (Y.2 0).length = 218 := s2.1
  obtain ⟨f0, f1, f2, f3, f4, f5, f6, f7, f8, f9, f10, f11, f12, f13, f14, f15⟩ := CS_facts hC
  have mO := (ma_facts hM).1
  obtain ⟨z, rfl, z0, z1⟩ := iI_ex a
  obtain ⟨v, rfl, v0, v1⟩ := iI_ex b
  have hn := s1.2.1
  rcases ol_find X z with ⟨p, p0, p1, rfl⟩ | hz
  · have hpl := k1_placeOf1 b3 s1 p0 p1
    have ho := s1.2.2.1 p p0 p1
    have hlb := lv_in s1 p0 p1
    have hwi := k2_within (h := h) (a := v) (b := 0) (c := 1) v0 v1 (by omega) (by omega) (by omega) (by omega)
    have hin := fun h' : ox_H => k3_isIn (h := h') (a := v) (b := 0) (c := 1) v0 v1 (by omega) (by omega) (by omega) (by omega)
    have hhd := k3_isHeading1 hM s2 s1 p0 p1
    by_cases r : 0 ≤ v ∧ v ≤ 1
    · simp only [decide_eq_true r, zb_t] at hwi hin
      have hl := k1_levelAt b3 s1 (p := p) (by omega) (by omega)
      have heb := enX_b (X := X) p1
      have hen := k1_endOfPart b3 s1 p0 p1
      have e0 := (paN_k Y).2.2.1 0 (by decide)
      have es : oset (paN Y) 0 (Y.2 0) = paN Y := by rw [← e0]; exact os_self
      have mAll := fun (h' : ox_H) (hM' : MA h' 133 Y) => And.intro (k3_isHeading1 hM' s2 s1 p0 p1) (And.intro (k3_placeOf1 hM' s2 s1 p0 p1) (And.intro (k3_endOf hM' s2 s1 p0 p1) (k3_mayMoveUp hM' s2 s1 p0 p1)))
      by_cases v_0 : v = 0
      · subst v_0
        obtain ⟨h', A', e1, hC', hfr⟩ := k2_remember hC s1.1 s3.1 s3.2
        have hO' := hC'.2.2.1
        have hl' : h'.length = 140 := hC'.1
        rw [← hput_self hO'] at e1
        have hC2 := CS_now (X' := X) hC'
        obtain ⟨g0, g1, g2, g3, g4, g5, g6, g7, g8, g9, g10, g11, g12, g13, g14, g15⟩ := CS_facts hC2
        have hb5 : 5 + 10 < h'.length := by omega
        have hcu := k2_cut s1 hb5 p0 (show p ≤ enX X p by omega) heb.2
        have hb6 : 133 + 6 < (hput h' 5 (cuX X p (enX X p))).length := by rw [gp_len]; omega
        obtain ⟨w1, d1, d2, d3⟩ := k3_cut (Y := paN Y) hb6 s2 s1 p0 (show p ≤ enX X p by omega) heb.2
        rw [es] at d1
        refine ST_chg0 (h1 := hput h' 5 (cuX X p (enX X p))) (v := iI (enX X p - p)) h0 hM hR ?_ (CS_now hC') (fun a ha => by rw [gp_out (by omega)]; exact hfr a ha) ?_ (vx_cut s1 p0 (by omega) heb.2 (fun c => en_end s1 p0 p1 c)) (rel_cut s1 s2 p0 (by omega) heb.2 d2 d3)
        · simp (disch := omega) only [eX2_remove_0, eX2_remove_1, eX2_remove_4, eX2_remove_5, eX2_remove_8, eX2_remove_9, eX2_remove_10, eX2_remove_13, eX2_remove_14, eX2_remove_15, eX2_remove_16, eX2_remove_19, eX2_remove_22, eX2_remove_23, eX2_remove_24, eX2_remove_25, eX2_remove_28, eX2_remove_29, eX2_remove_32, eX2_remove_34, eX2_remove_35, eX2_remove_38, eX2_remove_39, eX2_remove_42, eX2_remove_43, eX2_remove_46, eX2_remove_47, eX2_remove_49, eX2_remove_52, eX2_remove_54, eX2_remove_55, eX2_remove_56, eX2_remove_57, eX2_remove_58, eX2_remove_61, eX2_remove_62, eX2_remove_65, eX2_remove_67, eX2_remove_68, eX2_remove_71, eX2_remove_72, eX2_remove_74, eX2_remove_77, eX2_remove_79, eX2_remove_80, eX2_remove_83, eX2_remove_84, eX2_remove_87, eX2_remove_89, eX2_remove_92, eX2_remove_93, eX2_remove_94, eX2_remove_95, eX2_remove_97, eX2_remove_98, eX2_remove_99, eX2_remove_102, eX2_remove_105, eX2_remove_107, eX2_remove_108, eX2_remove_109, eX2_remove_112, eX2_remove_113, eX2_remove_116, eX2_remove_117, eX2_remove_118, eX2_remove_119, eX2_remove_121, eX2_remove_122, eX2_remove_125, eX2_remove_126, eX2_remove_129, eX2_remove_130, eX2_remove_131, eX2_remove_132, eX2_remove_133, eX2_remove_136, eX2_remove_137, ox_O_s, ox_B_s, ox_g_t, ox_A_s, ox_push_s, ox_push_n, ox_some, ox_z0, ox_z1, iI_lt, iI_eq, iI_add, iI_sub, ig_at, if_true, if_false, if_pos, if_neg, f0, f1, f2, f3, f4, f5, f6, f7, f8, f9, f10, f11, f12, f13, f14, f15, hpl, hwi, hen, e1, g0, g1, g2, g3, g4, g5, g6, g7, g8, g9, g10, g11, g12, g13, g14, g15, hcu]
        · obtain ⟨c1, c2, c3, c4⟩ := mAll _ (ma_put (X := Y) hb6)
          have hr := k3_remember hb6 hw s5 (by omega) (by omega)
          simp (disch := omega) only [eX3_remove_0, eX3_remove_1, eX3_remove_2, eX3_remove_5, eX3_remove_8, eX3_remove_9, eX3_remove_10, eX3_remove_11, eX3_remove_14, eX3_remove_17, eX3_remove_18, eX3_remove_19, eX3_remove_20, eX3_remove_21, eX3_remove_24, eX3_remove_25, eX3_remove_26, eX3_remove_27, eX3_remove_30, eX3_remove_32, eX3_remove_33, eX3_remove_34, eX3_remove_37, eX3_remove_38, eX3_remove_39, eX3_remove_42, eX3_remove_45, eX3_remove_47, eX3_remove_48, eX3_remove_49, eX3_remove_52, eX3_remove_53, eX3_remove_54, eX3_remove_57, eX3_remove_58, eX3_remove_59, eX3_remove_60, eX3_remove_61, eX3_remove_63, eX3_remove_64, eX3_remove_67, eX3_remove_68, eX3_remove_69, eX3_remove_70, eX3_remove_72, eX3_remove_73, eX3_remove_74, eX3_remove_76, eX3_remove_79, eX3_remove_81, eX3_remove_82, eX3_remove_83, ox_O_s, ox_B_s, ox_g_t, ox_A_s, ox_push_s, ox_push_n, ox_some, ox_z0, ox_z1, iI_lt, iI_eq, iI_add, iI_sub, ig_at, if_true, if_false, if_pos, if_neg, mp_obj, mp_f0, mp_f1, mp_f2, mp_f3, mp_f4, mp_f5, mp_f6, mp_f7, mp_f8, mp_f9, mp_i0, mp_i1, mp_i2, mp_i3, mp_i4, mp_i5, mp_j0, mp_j1, mp_j2, mp_j3, mp_j4, mp_j5, mp_s0, mp_s1, mp_s2, mp_s3, mp_s4, mp_s5, mp_w2, mp_w4, mp_w6, mp_w9, oa_gl, ma_gl, ig_set, os_2, os_1, ns_1, ns_2, os_os, ns_ns, c1, c2, c3, hin, hr, d1]
      · obtain rfl : v = 1 := by omega
        have hpa := k1_placeAbove b3 s1 (p := p) (lv := lvA X p) (by omega) (by omega) (by omega) (by omega)
        have hpb := pA_b (lvA X) (lvA X p) p.toNat
        have hka := k1_kindAt b3 s1 (p := pA (lvA X) (lvA X p) p.toNat) (by omega) (by omega)
        have hkb := kdA_b s1 (pA (lvA X) (lvA X p) p.toNat)
        have haa := k1_allowsAll b3 s1 (pk := kdA X (pA (lvA X) (lvA X p) p.toNat)) (p := p + 1) (lv := lvA X p + 1) hkb.1 hkb.2 (by omega) (by omega) (by omega) (by omega)
        cases ok : aaX X (kdA X (pA (lvA X) (lvA X p) p.toNat)) (p + 1) (lvA X p + 1) with
        | true =>
          rw [ok] at haa
          simp only [ok, zb_t] at mAll
          obtain ⟨h', A', e1, hC', hfr⟩ := k2_remember hC s1.1 s3.1 s3.2
          have hO' := hC'.2.2.1
          have hl' : h'.length = 140 := hC'.1
          rw [← hput_self hO'] at e1
          have hC2 := CS_now (X' := X) hC'
          obtain ⟨g0, g1, g2, g3, g4, g5, g6, g7, g8, g9, g10, g11, g12, g13, g14, g15⟩ := CS_facts hC2
          have hb5 : 5 + 10 < h'.length := by omega
          have hsh := k2_shift s1 hb5 (b := -1) (show 0 ≤ p + 1 by omega) (show p + 1 ≤ enX X p by omega) heb.2
          have hV1 : vx (slX X (p + 1) (enX X p) (-1)) := by
            refine vx_sl s1 (by omega) heb.2 (fun q a c => ?_) (fun c => ?_) (fun c c' => ?_)
            · have := (enX_in (X := X) (p := p) (q := q) a c).2
              have := lv_in s1 (q := q) (by omega) (by omega)
              omega
            · have := lv_step s1 (r := p) p0 (by omega)
              rw [show p + 1 - 1 = p by omega]
              omega
            · have := en_end s1 p0 p1 c'
              have := (enX_in (X := X) (p := p) (q := enX X p - 1) (by omega) (by omega)).2
              omega
          have hbd : p + 1 < X.1 0 → lvA (slX X (p + 1) (enX X p) (-1)) (p + 1) ≤ lvA (slX X (p + 1) (enX X p) (-1)) p := fun c => by
            rw [sl_lvA s1 (by omega) heb.2 (by omega) c, sl_lvA s1 (by omega) heb.2 p0 p1, if_neg (show ¬ (p + 1 ≤ p ∧ p < enX X p) by omega)]
            by_cases c2 : p + 1 < enX X p
            · rw [if_pos ⟨by omega, c2⟩]
              have := lv_step s1 (r := p) p0 (by omega)
              omega
            · rw [if_neg (by omega), show p + 1 = enX X p by omega]
              exact en_end s1 p0 p1 (by omega)
          have hcu := k2_cut hV1 hb5 p0 (show p ≤ p + 1 by omega) (show p + 1 ≤ X.1 0 by omega)
          have hC3 := CS_now (X' := slX X (p + 1) (enX X p) (-1)) hC'
          obtain ⟨q0, q1, q2, q3, q4, q5, q6, q7, q8, q9, q10, q11, q12, q13, q14, q15⟩ := CS_facts hC3
          have hb6 : 133 + 6 < (hput h' 5 (cuX (slX X (p + 1) (enX X p) (-1)) p (p + 1))).length := by rw [gp_len]; omega
          obtain ⟨w0, x1, x2⟩ := k3_shiftLevels (Y := paN Y) s1 hb6 s2 (b := -1) (show 0 ≤ p + 1 by omega) (show p + 1 ≤ enX X p by omega) heb.2
          rw [es] at x1
          have hR1 := rel_sl s1 s2 (show 0 ≤ p + 1 by omega) heb.2 x2
          obtain ⟨w1, d1, d2, d3⟩ := k3_cut (Y := paN Y) hb6 hR1 hV1 p0 (show p ≤ p + 1 by omega) (show p + 1 ≤ X.1 0 by omega)
          refine ST_chg0 (h1 := hput h' 5 (cuX (slX X (p + 1) (enX X p) (-1)) p (p + 1))) (v := iI 1) h0 hM hR ?_ (CS_now hC') (fun a ha => by rw [gp_out (by omega)]; exact hfr a ha) ?_ (vx_cut hV1 p0 (by omega) (show p + 1 ≤ X.1 0 by omega) hbd) (rel_cut hV1 hR1 p0 (by omega) (show p + 1 ≤ X.1 0 by omega) d2 d3)
          · simp (disch := omega) only [eX2_remove_0, eX2_remove_1, eX2_remove_4, eX2_remove_5, eX2_remove_8, eX2_remove_9, eX2_remove_10, eX2_remove_13, eX2_remove_14, eX2_remove_15, eX2_remove_16, eX2_remove_19, eX2_remove_22, eX2_remove_23, eX2_remove_24, eX2_remove_25, eX2_remove_28, eX2_remove_29, eX2_remove_32, eX2_remove_34, eX2_remove_35, eX2_remove_38, eX2_remove_39, eX2_remove_42, eX2_remove_43, eX2_remove_46, eX2_remove_47, eX2_remove_49, eX2_remove_52, eX2_remove_54, eX2_remove_55, eX2_remove_56, eX2_remove_57, eX2_remove_58, eX2_remove_61, eX2_remove_62, eX2_remove_65, eX2_remove_67, eX2_remove_68, eX2_remove_71, eX2_remove_72, eX2_remove_74, eX2_remove_77, eX2_remove_79, eX2_remove_80, eX2_remove_83, eX2_remove_84, eX2_remove_87, eX2_remove_89, eX2_remove_92, eX2_remove_93, eX2_remove_94, eX2_remove_95, eX2_remove_97, eX2_remove_98, eX2_remove_99, eX2_remove_102, eX2_remove_105, eX2_remove_107, eX2_remove_108, eX2_remove_109, eX2_remove_112, eX2_remove_113, eX2_remove_116, eX2_remove_117, eX2_remove_118, eX2_remove_119, eX2_remove_121, eX2_remove_122, eX2_remove_125, eX2_remove_126, eX2_remove_129, eX2_remove_130, eX2_remove_131, eX2_remove_132, eX2_remove_133, eX2_remove_136, eX2_remove_137, ox_O_s, ox_B_s, ox_g_t, ox_A_s, ox_push_s, ox_push_n, ox_some, ox_z0, ox_z1, iI_lt, iI_eq, iI_add, iI_sub, ig_at, if_true, if_false, if_pos, if_neg, f0, f1, f2, f3, f4, f5, f6, f7, f8, f9, f10, f11, f12, f13, f14, f15, hpl, hwi, hen, hl, hpa, hka, haa, zb_t, e1, g0, g1, g2, g3, g4, g5, g6, g7, g8, g9, g10, g11, g12, g13, g14, g15, hsh, q0, q1, q11, hcu]
          · obtain ⟨c1, c2, c3, c4⟩ := mAll _ (ma_put (X := Y) hb6)
            have hr := k3_remember hb6 hw s5 (by omega) (by omega)
            have e11 : iI (p + 1 - p) = iI 1 := congrArg iI (by omega)
            simp (disch := omega) only [eX3_remove_0, eX3_remove_1, eX3_remove_2, eX3_remove_5, eX3_remove_8, eX3_remove_9, eX3_remove_10, eX3_remove_11, eX3_remove_14, eX3_remove_17, eX3_remove_18, eX3_remove_19, eX3_remove_20, eX3_remove_21, eX3_remove_24, eX3_remove_25, eX3_remove_26, eX3_remove_27, eX3_remove_30, eX3_remove_32, eX3_remove_33, eX3_remove_34, eX3_remove_37, eX3_remove_38, eX3_remove_39, eX3_remove_42, eX3_remove_45, eX3_remove_47, eX3_remove_48, eX3_remove_49, eX3_remove_52, eX3_remove_53, eX3_remove_54, eX3_remove_57, eX3_remove_58, eX3_remove_59, eX3_remove_60, eX3_remove_61, eX3_remove_63, eX3_remove_64, eX3_remove_67, eX3_remove_68, eX3_remove_69, eX3_remove_70, eX3_remove_72, eX3_remove_73, eX3_remove_74, eX3_remove_76, eX3_remove_79, eX3_remove_81, eX3_remove_82, eX3_remove_83, ox_O_s, ox_B_s, ox_g_t, ox_A_s, ox_push_s, ox_push_n, ox_some, ox_z0, ox_z1, iI_lt, iI_eq, iI_add, iI_sub, ig_at, if_true, if_false, if_pos, if_neg, mp_obj, mp_f0, mp_f1, mp_f2, mp_f3, mp_f4, mp_f5, mp_f6, mp_f7, mp_f8, mp_f9, mp_i0, mp_i1, mp_i2, mp_i3, mp_i4, mp_i5, mp_j0, mp_j1, mp_j2, mp_j3, mp_j4, mp_j5, mp_s0, mp_s1, mp_s2, mp_s3, mp_s4, mp_s5, mp_w2, mp_w4, mp_w6, mp_w9, oa_gl, ma_gl, ig_set, os_2, os_1, ns_1, ns_2, os_os, ns_ns, c1, c2, c3, c4, hin, hr, x1, d1, e11]
        | false =>
          rw [ok] at haa
          simp only [ok, zb_f] at mAll
          refine ST_same (v := iI (-4)) hS ?_ ?_
          · simp (disch := omega) only [eX2_remove_0, eX2_remove_1, eX2_remove_4, eX2_remove_5, eX2_remove_8, eX2_remove_9, eX2_remove_10, eX2_remove_13, eX2_remove_14, eX2_remove_15, eX2_remove_16, eX2_remove_19, eX2_remove_22, eX2_remove_23, eX2_remove_24, eX2_remove_25, eX2_remove_28, eX2_remove_29, eX2_remove_32, eX2_remove_34, eX2_remove_35, eX2_remove_38, eX2_remove_39, eX2_remove_42, eX2_remove_43, eX2_remove_46, eX2_remove_47, eX2_remove_49, eX2_remove_52, eX2_remove_54, eX2_remove_55, eX2_remove_56, eX2_remove_57, eX2_remove_58, eX2_remove_61, eX2_remove_62, eX2_remove_65, eX2_remove_67, eX2_remove_68, eX2_remove_71, eX2_remove_72, eX2_remove_74, eX2_remove_77, eX2_remove_79, eX2_remove_80, eX2_remove_83, eX2_remove_84, eX2_remove_87, eX2_remove_89, eX2_remove_92, eX2_remove_93, eX2_remove_94, eX2_remove_95, eX2_remove_97, eX2_remove_98, eX2_remove_99, eX2_remove_102, eX2_remove_105, eX2_remove_107, eX2_remove_108, eX2_remove_109, eX2_remove_112, eX2_remove_113, eX2_remove_116, eX2_remove_117, eX2_remove_118, eX2_remove_119, eX2_remove_121, eX2_remove_122, eX2_remove_125, eX2_remove_126, eX2_remove_129, eX2_remove_130, eX2_remove_131, eX2_remove_132, eX2_remove_133, eX2_remove_136, eX2_remove_137, ox_O_s, ox_B_s, ox_g_t, ox_A_s, ox_push_s, ox_push_n, ox_some, ox_z0, ox_z1, iI_lt, iI_eq, iI_add, iI_sub, ig_at, if_true, if_false, if_pos, if_neg, f0, f1, f2, f3, f4, f5, f6, f7, f8, f9, f10, f11, f12, f13, f14, f15, hpl, hwi, hen, hl, hpa, hka, haa, zb_f]
          · obtain ⟨c1, c2, c3, c4⟩ := mAll _ hM
            simp (disch := omega) only [eX3_remove_0, eX3_remove_1, eX3_remove_2, eX3_remove_5, eX3_remove_8, eX3_remove_9, eX3_remove_10, eX3_remove_11, eX3_remove_14, eX3_remove_17, eX3_remove_18, eX3_remove_19, eX3_remove_20, eX3_remove_21, eX3_remove_24, eX3_remove_25, eX3_remove_26, eX3_remove_27, eX3_remove_30, eX3_remove_32, eX3_remove_33, eX3_remove_34, eX3_remove_37, eX3_remove_38, eX3_remove_39, eX3_remove_42, eX3_remove_45, eX3_remove_47, eX3_remove_48, eX3_remove_49, eX3_remove_52, eX3_remove_53, eX3_remove_54, eX3_remove_57, eX3_remove_58, eX3_remove_59, eX3_remove_60, eX3_remove_61, eX3_remove_63, eX3_remove_64, eX3_remove_67, eX3_remove_68, eX3_remove_69, eX3_remove_70, eX3_remove_72, eX3_remove_73, eX3_remove_74, eX3_remove_76, eX3_remove_79, eX3_remove_81, eX3_remove_82, eX3_remove_83, ox_O_s, ox_B_s, ox_g_t, ox_A_s, ox_push_s, ox_push_n, ox_some, ox_z0, ox_z1, iI_lt, iI_eq, iI_add, iI_sub, ig_at, if_true, if_false, if_pos, if_neg, mO, c1, c2, c3, c4, hin]
    · simp only [decide_eq_false r, zb_f] at hwi hin
      refine ST_same (v := iI (-1)) hS ?_ ?_
      · simp (disch := omega) only [eX2_remove_0, eX2_remove_1, eX2_remove_4, eX2_remove_5, eX2_remove_8, eX2_remove_9, eX2_remove_10, eX2_remove_13, eX2_remove_14, eX2_remove_15, eX2_remove_16, eX2_remove_19, eX2_remove_22, eX2_remove_23, eX2_remove_24, eX2_remove_25, eX2_remove_28, eX2_remove_29, eX2_remove_32, eX2_remove_34, eX2_remove_35, eX2_remove_38, eX2_remove_39, eX2_remove_42, eX2_remove_43, eX2_remove_46, eX2_remove_47, eX2_remove_49, eX2_remove_52, eX2_remove_54, eX2_remove_55, eX2_remove_56, eX2_remove_57, eX2_remove_58, eX2_remove_61, eX2_remove_62, eX2_remove_65, eX2_remove_67, eX2_remove_68, eX2_remove_71, eX2_remove_72, eX2_remove_74, eX2_remove_77, eX2_remove_79, eX2_remove_80, eX2_remove_83, eX2_remove_84, eX2_remove_87, eX2_remove_89, eX2_remove_92, eX2_remove_93, eX2_remove_94, eX2_remove_95, eX2_remove_97, eX2_remove_98, eX2_remove_99, eX2_remove_102, eX2_remove_105, eX2_remove_107, eX2_remove_108, eX2_remove_109, eX2_remove_112, eX2_remove_113, eX2_remove_116, eX2_remove_117, eX2_remove_118, eX2_remove_119, eX2_remove_121, eX2_remove_122, eX2_remove_125, eX2_remove_126, eX2_remove_129, eX2_remove_130, eX2_remove_131, eX2_remove_132, eX2_remove_133, eX2_remove_136, eX2_remove_137, ox_O_s, ox_B_s, ox_g_t, ox_A_s, ox_push_s, ox_push_n, ox_some, ox_z0, ox_z1, iI_lt, iI_eq, iI_add, iI_sub, ig_at, if_true, if_false, if_pos, if_neg, f0, f1, f2, f3, f4, f5, f6, f7, f8, f9, f10, f11, f12, f13, f14, f15, hpl, hwi]
      · simp (disch := omega) only [eX3_remove_0, eX3_remove_1, eX3_remove_2, eX3_remove_5, eX3_remove_8, eX3_remove_9, eX3_remove_10, eX3_remove_11, eX3_remove_14, eX3_remove_17, eX3_remove_18, eX3_remove_19, eX3_remove_20, eX3_remove_21, eX3_remove_24, eX3_remove_25, eX3_remove_26, eX3_remove_27, eX3_remove_30, eX3_remove_32, eX3_remove_33, eX3_remove_34, eX3_remove_37, eX3_remove_38, eX3_remove_39, eX3_remove_42, eX3_remove_45, eX3_remove_47, eX3_remove_48, eX3_remove_49, eX3_remove_52, eX3_remove_53, eX3_remove_54, eX3_remove_57, eX3_remove_58, eX3_remove_59, eX3_remove_60, eX3_remove_61, eX3_remove_63, eX3_remove_64, eX3_remove_67, eX3_remove_68, eX3_remove_69, eX3_remove_70, eX3_remove_72, eX3_remove_73, eX3_remove_74, eX3_remove_76, eX3_remove_79, eX3_remove_81, eX3_remove_82, eX3_remove_83, ox_O_s, ox_B_s, ox_g_t, ox_A_s, ox_push_s, ox_push_n, ox_some, ox_z0, ox_z1, iI_lt, iI_eq, iI_add, iI_sub, ig_at, if_true, if_false, if_pos, if_neg, mO, hhd, hin]
  · have hpl := k1_placeOf0 b3 s1 z0 z1 hz
    have hhd := k3_isHeading0 hM s2 s1 z0 z1 hz
    refine ST_same (v := iI (-1)) hS ?_ ?_
    · simp (disch := omega) only [eX2_remove_0, eX2_remove_1, eX2_remove_4, eX2_remove_5, eX2_remove_8, eX2_remove_9, eX2_remove_10, eX2_remove_13, eX2_remove_14, eX2_remove_15, eX2_remove_16, eX2_remove_19, eX2_remove_22, eX2_remove_23, eX2_remove_24, eX2_remove_25, eX2_remove_28, eX2_remove_29, eX2_remove_32, eX2_remove_34, eX2_remove_35, eX2_remove_38, eX2_remove_39, eX2_remove_42, eX2_remove_43, eX2_remove_46, eX2_remove_47, eX2_remove_49, eX2_remove_52, eX2_remove_54, eX2_remove_55, eX2_remove_56, eX2_remove_57, eX2_remove_58, eX2_remove_61, eX2_remove_62, eX2_remove_65, eX2_remove_67, eX2_remove_68, eX2_remove_71, eX2_remove_72, eX2_remove_74, eX2_remove_77, eX2_remove_79, eX2_remove_80, eX2_remove_83, eX2_remove_84, eX2_remove_87, eX2_remove_89, eX2_remove_92, eX2_remove_93, eX2_remove_94, eX2_remove_95, eX2_remove_97, eX2_remove_98, eX2_remove_99, eX2_remove_102, eX2_remove_105, eX2_remove_107, eX2_remove_108, eX2_remove_109, eX2_remove_112, eX2_remove_113, eX2_remove_116, eX2_remove_117, eX2_remove_118, eX2_remove_119, eX2_remove_121, eX2_remove_122, eX2_remove_125, eX2_remove_126, eX2_remove_129, eX2_remove_130, eX2_remove_131, eX2_remove_132, eX2_remove_133, eX2_remove_136, eX2_remove_137, ox_O_s, ox_B_s, ox_g_t, ox_A_s, ox_push_s, ox_push_n, ox_some, ox_z0, ox_z1, iI_lt, iI_eq, iI_add, iI_sub, ig_at, if_true, if_false, if_pos, if_neg, f0, f1, f2, f3, f4, f5, f6, f7, f8, f9, f10, f11, f12, f13, f14, f15, hpl]
    · simp (disch := omega) only [eX3_remove_0, eX3_remove_1, eX3_remove_2, eX3_remove_5, eX3_remove_8, eX3_remove_9, eX3_remove_10, eX3_remove_11, eX3_remove_14, eX3_remove_17, eX3_remove_18, eX3_remove_19, eX3_remove_20, eX3_remove_21, eX3_remove_24, eX3_remove_25, eX3_remove_26, eX3_remove_27, eX3_remove_30, eX3_remove_32, eX3_remove_33, eX3_remove_34, eX3_remove_37, eX3_remove_38, eX3_remove_39, eX3_remove_42, eX3_remove_45, eX3_remove_47, eX3_remove_48, eX3_remove_49, eX3_remove_52, eX3_remove_53, eX3_remove_54, eX3_remove_57, eX3_remove_58, eX3_remove_59, eX3_remove_60, eX3_remove_61, eX3_remove_63, eX3_remove_64, eX3_remove_67, eX3_remove_68, eX3_remove_69, eX3_remove_70, eX3_remove_72, eX3_remove_73, eX3_remove_74, eX3_remove_76, eX3_remove_79, eX3_remove_81, eX3_remove_82, eX3_remove_83, ox_O_s, ox_B_s, ox_g_t, ox_A_s, ox_push_s, ox_push_n, ox_some, ox_z0, ox_z1, iI_lt, iI_eq, iI_add, iI_sub, ig_at, if_true, if_false, if_pos, if_neg, mO, hhd]
