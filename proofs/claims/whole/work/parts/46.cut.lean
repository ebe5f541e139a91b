/-! forget; the reference's cut. -/
def dlF : Nat → Int → List Int → List Int
  | 0, _, w => w
  | k + 1, i, w => dlF k (i + 1) (iu (iu w (193 + i) (ig w (193 + i + 1))) (205 + i) (ig (iu w (193 + i) (ig w (193 + i + 1))) (205 + i + 1)))
theorem dlF_len : ∀ (k : Nat) (i : Int) (w : List Int), (dlF k i w).length = w.length
  | 0, _, _ => rfl
  | k + 1, i, w => by unfold dlF; rw [dlF_len k, iu_len, iu_len]
theorem dlF_ig : ∀ (k : Nat) (i : Int) (w : List Int) (q : Int), 0 ≤ i → i + k ≤ 11 → w.length = 218 → 0 ≤ q → ig (dlF k i w) q = if (193 + i ≤ q ∧ q < 193 + i + k) ∨ (205 + i ≤ q ∧ q < 205 + i + k) then ig w (q + 1) else ig w q
  | 0, i, w, q, _, _, _, _ => by rw [if_neg (by omega)]; rfl
  | k + 1, i, w, q, i0, i1, hl, q0 => by
    unfold dlF
    rw [dlF_ig k (i + 1) _ q (by omega) (by omega) (by rw [iu_len, iu_len]; exact hl) q0]
    by_cases c1 : (193 + (i + 1) ≤ q ∧ q < 193 + (i + 1) + k) ∨ (205 + (i + 1) ≤ q ∧ q < 205 + (i + 1) + k)
    · rw [if_pos c1, if_pos (by omega), ig_ne (by omega) (by omega) (by omega), ig_ne (by omega) (by omega) (by omega)]
    · rw [if_neg c1]
      by_cases c2 : q = 193 + i
      · rw [if_pos (by omega), ig_ne (by omega) (by omega) (by omega), c2, ig_self (by omega) (by omega)]
      · by_cases c3 : q = 205 + i
        · rw [if_pos (by omega), c3, ig_self (by omega) (by rw [iu_len]; omega), ig_ne (by omega) (by omega) (by omega)]
        · rw [if_neg (by omega), ig_ne (by omega) (by omega) (by omega), ig_ne (by omega) (by omega) (by omega)]
theorem k3_dl_loop {h : ox_H} {m : Nat} {Y : ol} (hb : m + 6 < h.length) {n : Int} (n1 : n ≤ 11) (v1 : Value) : ∀ (k : Nat) (i : Int) (w : List Int), 0 ≤ i → i + k = n → w.length = 218 → ig w 192 = n → oe 98 14 [.ref m, v1, .int (iI i)] [] (mput h m (oset Y 0 w)) = some (none, mput h m (oset Y 0 (dlF k i w))) := by
  intro k
  induction k with
  | zero =>
    intro i w a c hl hn
    rw [eX3_dropReference_14]
    simp (disch := omega) only [eX3_dropReference_0, eX3_dropReference_1, eX3_dropReference_4, eX3_dropReference_7, eX3_dropReference_8, eX3_dropReference_9, eX3_dropReference_10, eX3_dropReference_11, eX3_dropReference_12, eX3_dropReference_13, eX3_dropReference_15, eX3_dropReference_16, eX3_dropReference_19, eX3_dropReference_22, eX3_dropReference_23, eX3_dropReference_26, eX3_dropReference_27, eX3_dropReference_30, eX3_dropReference_33, eX3_dropReference_34, eX3_dropReference_35, eX3_dropReference_36, eX3_dropReference_39, eX3_dropReference_42, eX3_dropReference_43, eX3_dropReference_44, eX3_dropReference_45, eX3_dropReference_46, eX3_dropReference_47, eX3_dropReference_48, eX3_dropReference_49, eX3_dropReference_52, eX3_dropReference_55, eX3_dropReference_56, eX3_dropReference_57, eX3_dropReference_58, eX3_dropReference_61, eX3_dropReference_64, eX3_dropReference_65, eX3_dropReference_66, eX3_dropReference_67, eX3_dropReference_68, eX3_dropReference_69, eX3_dropReference_70, eX3_dropReference_73, eX3_dropReference_76, ox_O_s, ox_B_s, ox_g_t, ox_A_s, ox_push_s, ox_push_n, ox_some, ox_z0, ox_z1, iI_lt, iI_eq, iI_add, iI_sub, ig_at, if_true, if_false, if_pos, if_neg, mp_obj, mp_f0, mp_f1, mp_f2, mp_f3, mp_f4, mp_f5, mp_f6, mp_f7, mp_f8, mp_f9, mp_i0, mp_i1, mp_i2, mp_i3, mp_i4, mp_i5, mp_j0, mp_j1, mp_j2, mp_j3, mp_j4, mp_j5, mp_s0, mp_s1, mp_s2, mp_s3, mp_s4, mp_s5, mp_w2, mp_w4, mp_w6, mp_w9, oa_gl, ma_gl, ig_set, os_2, os_1, ns_1, ns_2, os_os, ns_ns, hn]
    rfl
  | succ k ih =>
    intro i w a c hl hn
    have l1 : (iu w (193 + i) (ig w (193 + i + 1))).length = 218 := by rw [iu_len]; exact hl
    have i1 := ih (i + 1) (iu (iu w (193 + i) (ig w (193 + i + 1))) (205 + i) (ig (iu w (193 + i) (ig w (193 + i + 1))) (205 + i + 1))) (by omega) (by omega) (by rw [iu_len]; exact l1) (by rw [ig_ne (by omega) (by omega) (by omega), ig_ne (by omega) (by omega) (by omega)]; exact hn)
    unfold dlF
    rw [← i1, eX3_dropReference_14]
    simp (disch := omega) only [eX3_dropReference_0, eX3_dropReference_1, eX3_dropReference_4, eX3_dropReference_7, eX3_dropReference_8, eX3_dropReference_9, eX3_dropReference_10, eX3_dropReference_11, eX3_dropReference_12, eX3_dropReference_13, eX3_dropReference_15, eX3_dropReference_16, eX3_dropReference_19, eX3_dropReference_22, eX3_dropReference_23, eX3_dropReference_26, eX3_dropReference_27, eX3_dropReference_30, eX3_dropReference_33, eX3_dropReference_34, eX3_dropReference_35, eX3_dropReference_36, eX3_dropReference_39, eX3_dropReference_42, eX3_dropReference_43, eX3_dropReference_44, eX3_dropReference_45, eX3_dropReference_46, eX3_dropReference_47, eX3_dropReference_48, eX3_dropReference_49, eX3_dropReference_52, eX3_dropReference_55, eX3_dropReference_56, eX3_dropReference_57, eX3_dropReference_58, eX3_dropReference_61, eX3_dropReference_64, eX3_dropReference_65, eX3_dropReference_66, eX3_dropReference_67, eX3_dropReference_68, eX3_dropReference_69, eX3_dropReference_70, eX3_dropReference_73, eX3_dropReference_76, ox_O_s, ox_B_s, ox_g_t, ox_A_s, ox_push_s, ox_push_n, ox_some, ox_z0, ox_z1, iI_lt, iI_eq, iI_add, iI_sub, ig_at, if_true, if_false, if_pos, if_neg, mp_obj, mp_f0, mp_f1, mp_f2, mp_f3, mp_f4, mp_f5, mp_f6, mp_f7, mp_f8, mp_f9, mp_i0, mp_i1, mp_i2, mp_i3, mp_i4, mp_i5, mp_j0, mp_j1, mp_j2, mp_j3, mp_j4, mp_j5, mp_s0, mp_s1, mp_s2, mp_s3, mp_s4, mp_s5, mp_w2, mp_w4, mp_w6, mp_w9, oa_gl, ma_gl, ig_set, os_2, os_1, ns_1, ns_2, os_os, ns_ns, hn]
theorem k3_dropReference {h : ox_H} {m : Nat} {X Y : ol} {w : List Int} (hb : m + 6 < h.length) (hR : RR X w) (hB : rfB X) {k : Int} (k0 : 0 ≤ k) (k1 : k < X.1 2) : ∃ w', oe 98 0 [.ref m, .int (iI k), .null] [] (mput h m (oset Y 0 w)) = some (none, mput h m (oset Y 0 w')) ∧ RR (ulX X k) w' ∧ wS w w' := by
  obtain ⟨rl, r6, r7⟩ := hR
  have b4 := hB.2.2.2.1
  have l1 : (iu w 192 (X.1 2 - 1)).length = 218 := by rw [iu_len]; exact rl
  have hk := k3_dl_loop (Y := Y) hb (n := X.1 2 - 1) (by omega) (.int (iI k)) (X.1 2 - 1 - k).toNat k (iu w 192 (X.1 2 - 1)) k0 (by omega) l1 (ig_self (by omega) (by omega))
  refine ⟨dlF (X.1 2 - 1 - k).toNat k (iu w 192 (X.1 2 - 1)), ?_, ⟨by rw [dlF_len]; exact l1, ?_, fun q q0 q1 => ?_⟩, by rw [dlF_len, iu_len], fun q q0 q1 => ?_⟩
  · simp (disch := omega) only [eX3_dropReference_0, eX3_dropReference_1, eX3_dropReference_4, eX3_dropReference_7, eX3_dropReference_8, eX3_dropReference_9, eX3_dropReference_10, eX3_dropReference_11, eX3_dropReference_12, eX3_dropReference_13, eX3_dropReference_15, eX3_dropReference_16, eX3_dropReference_19, eX3_dropReference_22, eX3_dropReference_23, eX3_dropReference_26, eX3_dropReference_27, eX3_dropReference_30, eX3_dropReference_33, eX3_dropReference_34, eX3_dropReference_35, eX3_dropReference_36, eX3_dropReference_39, eX3_dropReference_42, eX3_dropReference_43, eX3_dropReference_44, eX3_dropReference_45, eX3_dropReference_46, eX3_dropReference_47, eX3_dropReference_48, eX3_dropReference_49, eX3_dropReference_52, eX3_dropReference_55, eX3_dropReference_56, eX3_dropReference_57, eX3_dropReference_58, eX3_dropReference_61, eX3_dropReference_64, eX3_dropReference_65, eX3_dropReference_66, eX3_dropReference_67, eX3_dropReference_68, eX3_dropReference_69, eX3_dropReference_70, eX3_dropReference_73, eX3_dropReference_76, ox_O_s, ox_B_s, ox_g_t, ox_A_s, ox_push_s, ox_push_n, ox_some, ox_z0, ox_z1, iI_lt, iI_eq, iI_add, iI_sub, ig_at, if_true, if_false, if_pos, if_neg, mp_obj, mp_f0, mp_f1, mp_f2, mp_f3, mp_f4, mp_f5, mp_f6, mp_f7, mp_f8, mp_f9, mp_i0, mp_i1, mp_i2, mp_i3, mp_i4, mp_i5, mp_j0, mp_j1, mp_j2, mp_j3, mp_j4, mp_j5, mp_s0, mp_s1, mp_s2, mp_s3, mp_s4, mp_s5, mp_w2, mp_w4, mp_w6, mp_w9, oa_gl, ma_gl, ig_set, os_2, os_1, ns_1, ns_2, os_os, ns_ns, r6]
    exact hk
  · rw [dlF_ig _ _ _ _ k0 (by omega) l1 (by omega), if_neg (by omega), ig_self (by omega) (by omega)]
    rfl
  · have q1 : q < X.1 2 - 1 := q1
    have h8 := ulX_8 hB k0 k1 q0 q1
    rw [h8.1, h8.2, dlF_ig _ _ _ _ k0 (by omega) l1 (by omega), dlF_ig _ _ _ _ k0 (by omega) l1 (by omega)]
    by_cases c : q < k
    · rw [if_pos c, if_neg (by omega), if_neg (by omega), ig_ne (by omega) (by omega) (by omega), ig_ne (by omega) (by omega) (by omega)]
      exact r7 q q0 (by omega)
    · rw [if_neg c, if_pos (by omega), if_pos (by omega), ig_ne (by omega) (by omega) (by omega), ig_ne (by omega) (by omega) (by omega), show 193 + q + 1 = 193 + (q + 1) by omega, show 205 + q + 1 = 205 + (q + 1) by omega]
      exact r7 (q + 1) (by omega) (by omega)
  · rw [dlF_ig _ _ _ _ k0 (by omega) l1 q0, if_neg (by omega), ig_ne (by omega) (by omega) (by omega)]
theorem vx_rfB {X : ol} (hV : vx X) : rfB X := by
  have hm := hV.2.2.2.2.2.2.2.2.2.2.2.1
  refine ⟨hV.1 8 (by decide), hV.1 9 (by decide), hm.1, hm.2, fun k k0 k1 => ?_⟩
  obtain ⟨⟨p, p0, p1, e⟩, ht⟩ := hV.2.2.2.2.2.2.2.2.2.2.2.2 k k0 k1
  have ho := hV.2.2.1 p p0 p1
  have := tgt_b hV k0 k1
  omega
theorem st_forget {xs : List Int32} {h : ox_H} (hS : Sm xs h) (a : Int32) : ST xs h (fun h => oe 61 0 [.ref 4, .int a] [] h) (fun h => oe 129 0 [.ref 133, .int a] [] h) := by
  obtain ⟨X, c, A, H, I, K, T, U, Y, h0, hC, hM, hR⟩ := sm_parts hS
  obtain ⟨s1, s2, s3, s4, s5, -⟩ := id hR
  obtain ⟨b1, b2, b3, -⟩ := id hC
  have hw : (Y.2 0).length = 218 := s2.1
  obtain ⟨f0, f1, f2, f3, f4, f5, f6, f7, f8, f9, f10, f11, f12, f13, f14, f15⟩ := CS_facts hC
  have mO := (ma_facts hM).1
  obtain ⟨z, rfl, z0, z1⟩ := iI_ex a
  have hm := s1.2.2.2.2.2.2.2.2.2.2.2.1
  have ng := (oa_facts b3).2.2.2.2.2.2.2.2.2.2.2.1
  have wz := k2_within (h := h) (a := z) (b := 0) (c := X.1 2 - 1) z0 z1 (by omega) (by omega) (by omega) (by omega)
  by_cases rz : 0 ≤ z ∧ z ≤ X.1 2 - 1
  · simp only [decide_eq_true rz, zb_t] at wz
    obtain ⟨k0, k1'⟩ := rz
    have k1 : z < X.1 2 := by omega
    obtain ⟨h', A', e1, hC', hfr⟩ := k2_remember hC s1.1 s3.1 s3.2
    have hO' := hC'.2.2.1
    have hl' : h'.length = 140 := hC'.1
    rw [← hput_self hO'] at e1
    have hC2 := CS_now (X' := X) hC'
    obtain ⟨g0, g1, g2, g3, g4, g5, g6, g7, g8, g9, g10, g11, g12, g13, g14, g15⟩ := CS_facts hC2
    have hb5 : 5 + 10 < h'.length := by omega
    have hB := vx_rfB s1
    have hul := k1_unlink (h := h') (o := 5) (X := X) hb5 hm.2 hB.1 hB.2.1 k0 k1
    have hC3 := CS_now (X' := ulX X z) hC'
    have q1 := (CS_facts hC3).2.1
    have q10 := (oa_facts hC3.2.2.1).2.2.2.2.2.2.2.2.2.2.2.1
    rw [show (ulX X z).1 2 = X.1 2 - 1 from rfl] at q10
    have hb6 : 133 + 6 < (hput h' 5 (ulX X z)).length := by rw [gp_len]; omega
    obtain ⟨w', d1, d2, d3⟩ := k3_dropReference (Y := paN Y) hb6 (Rel_RR s2) hB k0 k1
    have e0 := (paN_k Y).2.2.1 0 (by decide)
    have es : oset (paN Y) 0 (Y.2 0) = paN Y := by rw [← e0]; exact os_self
    rw [es] at d1
    have d192 := d2.2.1
    rw [show (ulX X z).1 2 = X.1 2 - 1 from rfl] at d192
    refine ST_chg0 (h1 := hput h' 5 (ulX X z)) (v := iI (X.1 2 - 1)) h0 hM hR ?_ hC3 (fun a ha => by rw [gp_out (by omega)]; exact hfr a ha) (w' := w') ?_ ?_ (rel_rf s1 s2 (rfS_ul X z) d3 d2)
    · simp (disch := omega) only [eX2_forget_0, eX2_forget_1, eX2_forget_2, eX2_forget_3, eX2_forget_6, eX2_forget_9, eX2_forget_10, eX2_forget_11, eX2_forget_14, eX2_forget_17, eX2_forget_18, eX2_forget_19, eX2_forget_20, eX2_forget_23, eX2_forget_24, eX2_forget_27, eX2_forget_28, eX2_forget_31, eX2_forget_32, eX2_forget_35, eX2_forget_38, ox_O_s, ox_B_s, ox_g_t, ox_A_s, ox_push_s, ox_push_n, ox_some, ox_z0, ox_z1, iI_lt, iI_eq, iI_add, iI_sub, ig_at, if_true, if_false, if_pos, if_neg, f0, f1, f2, f3, f4, f5, f6, f7, f8, f9, f10, f11, f12, f13, f14, f15, wz, ng, e1, g0, g1, g2, g3, g4, g5, g6, g7, g8, g9, g10, g11, g12, g13, g14, g15, hp_obj, hul, q1, q10]
    · have hr := k3_remember hb6 hw s5 (by omega) (by omega)
      have iz := k3_isReference (ma_put (X := Y) hb6) s2 s1 z0 z1
      rw [decide_eq_true ⟨k0, k1'⟩, zb_t] at iz
      have wl : w'.length = 218 := d2.1
      simp (disch := omega) only [eX3_forget_0, eX3_forget_1, eX3_forget_2, eX3_forget_5, eX3_forget_8, eX3_forget_9, eX3_forget_10, eX3_forget_11, eX3_forget_14, eX3_forget_15, eX3_forget_16, eX3_forget_19, eX3_forget_20, eX3_forget_23, eX3_forget_26, eX3_forget_27, ox_O_s, ox_B_s, ox_g_t, ox_A_s, ox_push_s, ox_push_n, ox_some, ox_z0, ox_z1, iI_lt, iI_eq, iI_add, iI_sub, ig_at, if_true, if_false, if_pos, if_neg, mp_obj, mp_f0, mp_f1, mp_f2, mp_f3, mp_f4, mp_f5, mp_f6, mp_f7, mp_f8, mp_f9, mp_i0, mp_i1, mp_i2, mp_i3, mp_i4, mp_i5, mp_j0, mp_j1, mp_j2, mp_j3, mp_j4, mp_j5, mp_s0, mp_s1, mp_s2, mp_s3, mp_s4, mp_s5, mp_w2, mp_w4, mp_w6, mp_w9, oa_gl, ma_gl, ig_set, os_2, os_1, ns_1, ns_2, os_os, ns_ns, iz, hr, d1, d192]
    · refine vx_rf s1 (rfS_ul X z) (by show 0 ≤ X.1 2 - 1 ∧ X.1 2 - 1 ≤ 12; omega) (fun k k0' k1'' => ?_)
      have k1'' : k < X.1 2 - 1 := k1''
      have h8 := ulX_8 hB k0 k1 k0' k1''
      rw [h8.1, h8.2]
      exact s1.2.2.2.2.2.2.2.2.2.2.2.2 _ (by split <;> omega) (by split <;> omega)
  · have iz := k3_isReference hM s2 s1 z0 z1
    simp only [decide_eq_false rz, zb_f] at wz iz
    refine ST_same (v := iI (-1)) hS ?_ ?_
    · simp (disch := omega) only [eX2_forget_0, eX2_forget_1, eX2_forget_2, eX2_forget_3, eX2_forget_6, eX2_forget_9, eX2_forget_10, eX2_forget_11, eX2_forget_14, eX2_forget_17, eX2_forget_18, eX2_forget_19, eX2_forget_20, eX2_forget_23, eX2_forget_24, eX2_forget_27, eX2_forget_28, eX2_forget_31, eX2_forget_32, eX2_forget_35, eX2_forget_38, ox_O_s, ox_B_s, ox_g_t, ox_A_s, ox_push_s, ox_push_n, ox_some, ox_z0, ox_z1, iI_lt, iI_eq, iI_add, iI_sub, ig_at, if_true, if_false, if_pos, if_neg, f0, f1, f2, f3, f4, f5, f6, f7, f8, f9, f10, f11, f12, f13, f14, f15, ng, wz]
    · simp (disch := omega) only [eX3_forget_0, eX3_forget_1, eX3_forget_2, eX3_forget_5, eX3_forget_8, eX3_forget_9, eX3_forget_10, eX3_forget_11, eX3_forget_14, eX3_forget_15, eX3_forget_16, eX3_forget_19, eX3_forget_20, eX3_forget_23, eX3_forget_26, eX3_forget_27, ox_O_s, ox_B_s, ox_g_t, ox_A_s, ox_push_s, ox_push_n, ox_some, ox_z0, ox_z1, iI_lt, iI_eq, iI_add, iI_sub, ig_at, if_true, if_false, if_pos, if_neg, mO, iz]
theorem k3_fh_loop {h : ox_H} {m : Nat} {Y : ol} (hb : m + 6 < h.length) {z : Int} (z0 : 0 ≤ z) (z1 : z < 30) : ∀ (k : Nat) (X : ol) (w : List Int), RR X w → rfB X → (k : Int) ≤ X.1 2 → ∃ w', oe 99 11 [.ref m, .int (iI z), .int (iI ((k : Int) - 1))] [] (mput h m (oset Y 0 w)) = some (none, mput h m (oset Y 0 w')) ∧ RR (drF z k X) w' ∧ wS w w' := by
  intro k
  induction k with
  | zero =>
    intro X w hR hB hk
    refine ⟨w, ?_, hR, wS_rf w⟩
    rw [eX3_forgetHeading_11]
    simp (disch := omega) only [eX3_forgetHeading_0, eX3_forgetHeading_1, eX3_forgetHeading_4, eX3_forgetHeading_7, eX3_forgetHeading_8, eX3_forgetHeading_9, eX3_forgetHeading_10, eX3_forgetHeading_12, eX3_forgetHeading_15, eX3_forgetHeading_16, eX3_forgetHeading_19, eX3_forgetHeading_22, eX3_forgetHeading_23, eX3_forgetHeading_24, eX3_forgetHeading_25, eX3_forgetHeading_26, eX3_forgetHeading_29, eX3_forgetHeading_30, eX3_forgetHeading_31, eX3_forgetHeading_34, eX3_forgetHeading_37, eX3_forgetHeading_38, eX3_forgetHeading_41, eX3_forgetHeading_44, eX3_forgetHeading_45, eX3_forgetHeading_46, eX3_forgetHeading_47, eX3_forgetHeading_48, eX3_forgetHeading_51, eX3_forgetHeading_52, eX3_forgetHeading_55, eX3_forgetHeading_58, eX3_forgetHeading_59, eX3_forgetHeading_60, eX3_forgetHeading_62, eX3_forgetHeading_63, eX3_forgetHeading_66, eX3_forgetHeading_69, ox_O_s, ox_B_s, ox_g_t, ox_A_s, ox_push_s, ox_push_n, ox_some, ox_z0, ox_z1, iI_lt, iI_eq, iI_add, iI_sub, ig_at, if_true, if_false, if_pos, if_neg, mp_obj, mp_f0, mp_f1, mp_f2, mp_f3, mp_f4, mp_f5, mp_f6, mp_f7, mp_f8, mp_f9, mp_i0, mp_i1, mp_i2, mp_i3, mp_i4, mp_i5, mp_j0, mp_j1, mp_j2, mp_j3, mp_j4, mp_j5, mp_s0, mp_s1, mp_s2, mp_s3, mp_s4, mp_s5, mp_w2, mp_w4, mp_w6, mp_w9, oa_gl, ma_gl, ig_set, os_2, os_1, ns_1, ns_2, os_os, ns_ns]
  | succ k ih =>
    intro X w hR hB hk
    have b5 := hB.2.2.2.2 k (by omega) (by omega)
    have b1 := hB.1
    have b2 := hB.2.1
    have b4 := hB.2.2.2.1
    have rl := hR.1
    obtain ⟨e8, e9⟩ := hR.2.2 k (by omega) (by omega)
    rw [eX3_forgetHeading_11, show ((k + 1 : Nat) : Int) - 1 = (k : Int) by omega]
    unfold drF
    by_cases c : ig (X.2 8) k = z
    · rw [if_pos c]
      obtain ⟨w1, d1, d2, d3⟩ := k3_dropReference (Y := Y) hb hR hB (show (0 : Int) ≤ k by omega) (show (k : Int) < X.1 2 by omega)
      obtain ⟨w', i1, i2, i3⟩ := ih (ulX X k) w1 d2 (rfB_ul hB (by omega) (by omega)) (by show (k : Int) ≤ X.1 2 - 1; omega)
      refine ⟨w', ?_, i2, wS_tr d3 i3⟩
      simp (disch := omega) only [eX3_forgetHeading_0, eX3_forgetHeading_1, eX3_forgetHeading_4, eX3_forgetHeading_7, eX3_forgetHeading_8, eX3_forgetHeading_9, eX3_forgetHeading_10, eX3_forgetHeading_12, eX3_forgetHeading_15, eX3_forgetHeading_16, eX3_forgetHeading_19, eX3_forgetHeading_22, eX3_forgetHeading_23, eX3_forgetHeading_24, eX3_forgetHeading_25, eX3_forgetHeading_26, eX3_forgetHeading_29, eX3_forgetHeading_30, eX3_forgetHeading_31, eX3_forgetHeading_34, eX3_forgetHeading_37, eX3_forgetHeading_38, eX3_forgetHeading_41, eX3_forgetHeading_44, eX3_forgetHeading_45, eX3_forgetHeading_46, eX3_forgetHeading_47, eX3_forgetHeading_48, eX3_forgetHeading_51, eX3_forgetHeading_52, eX3_forgetHeading_55, eX3_forgetHeading_58, eX3_forgetHeading_59, eX3_forgetHeading_60, eX3_forgetHeading_62, eX3_forgetHeading_63, eX3_forgetHeading_66, eX3_forgetHeading_69, ox_O_s, ox_B_s, ox_g_t, ox_A_s, ox_push_s, ox_push_n, ox_some, ox_z0, ox_z1, iI_lt, iI_eq, iI_add, iI_sub, ig_at, if_true, if_false, if_pos, if_neg, mp_obj, mp_f0, mp_f1, mp_f2, mp_f3, mp_f4, mp_f5, mp_f6, mp_f7, mp_f8, mp_f9, mp_i0, mp_i1, mp_i2, mp_i3, mp_i4, mp_i5, mp_j0, mp_j1, mp_j2, mp_j3, mp_j4, mp_j5, mp_s0, mp_s1, mp_s2, mp_s3, mp_s4, mp_s5, mp_w2, mp_w4, mp_w6, mp_w9, oa_gl, ma_gl, ig_set, os_2, os_1, ns_1, ns_2, os_os, ns_ns, e8, e9, d1]
      exact i1
    · rw [if_neg c]
      by_cases c2 : ig (X.2 9) k = z
      · rw [if_pos c2]
        have hR2 : RR (oset X 9 (iu (X.2 9) k (-9))) (iu w (205 + k) (-9)) := by
          refine ⟨by rw [iu_len]; exact rl, by rw [ig_ne (by omega) (by omega) (by omega)]; exact hR.2.1, fun q q0 q1 => ?_⟩
          have q1 : q < X.1 2 := q1
          obtain ⟨x8, x9⟩ := hR.2.2 q q0 q1
          show _ = ig (X.2 8) q ∧ _ = ig (iu (X.2 9) k (-9)) q
          rw [ig_ne (by omega) (by omega) (by omega), ig_iu (by omega) (by omega) (by omega), ig_iu (by omega) (by omega) (by omega)]
          refine ⟨x8, ?_⟩
          by_cases e : (k : Int) = q
          · rw [if_pos e, if_pos (by omega)]
          · rw [if_neg e, if_neg (by omega)]; exact x9
        obtain ⟨w', i1, i2, i3⟩ := ih (oset X 9 (iu (X.2 9) k (-9))) (iu w (205 + k) (-9)) hR2 (rfB_br hB (by omega) (by omega)) (by show (k : Int) ≤ X.1 2; omega)
        refine ⟨w', ?_, i2, wS_tr ⟨iu_len _ _ _, fun q q0 q1 => ig_ne (by omega) (by omega) (by omega)⟩ i3⟩
        simp (disch := omega) only [eX3_forgetHeading_0, eX3_forgetHeading_1, eX3_forgetHeading_4, eX3_forgetHeading_7, eX3_forgetHeading_8, eX3_forgetHeading_9, eX3_forgetHeading_10, eX3_forgetHeading_12, eX3_forgetHeading_15, eX3_forgetHeading_16, eX3_forgetHeading_19, eX3_forgetHeading_22, eX3_forgetHeading_23, eX3_forgetHeading_24, eX3_forgetHeading_25, eX3_forgetHeading_26, eX3_forgetHeading_29, eX3_forgetHeading_30, eX3_forgetHeading_31, eX3_forgetHeading_34, eX3_forgetHeading_37, eX3_forgetHeading_38, eX3_forgetHeading_41, eX3_forgetHeading_44, eX3_forgetHeading_45, eX3_forgetHeading_46, eX3_forgetHeading_47, eX3_forgetHeading_48, eX3_forgetHeading_51, eX3_forgetHeading_52, eX3_forgetHeading_55, eX3_forgetHeading_58, eX3_forgetHeading_59, eX3_forgetHeading_60, eX3_forgetHeading_62, eX3_forgetHeading_63, eX3_forgetHeading_66, eX3_forgetHeading_69, ox_O_s, ox_B_s, ox_g_t, ox_A_s, ox_push_s, ox_push_n, ox_some, ox_z0, ox_z1, iI_lt, iI_eq, iI_add, iI_sub, ig_at, if_true, if_false, if_pos, if_neg, mp_obj, mp_f0, mp_f1, mp_f2, mp_f3, mp_f4, mp_f5, mp_f6, mp_f7, mp_f8, mp_f9, mp_i0, mp_i1, mp_i2, mp_i3, mp_i4, mp_i5, mp_j0, mp_j1, mp_j2, mp_j3, mp_j4, mp_j5, mp_s0, mp_s1, mp_s2, mp_s3, mp_s4, mp_s5, mp_w2, mp_w4, mp_w6, mp_w9, oa_gl, ma_gl, ig_set, os_2, os_1, ns_1, ns_2, os_os, ns_ns, e8, e9]
        exact i1
      · rw [if_neg c2]
        obtain ⟨w', i1, i2, i3⟩ := ih X w hR hB (by omega)
        refine ⟨w', ?_, i2, i3⟩
        simp (disch := omega) only [eX3_forgetHeading_0, eX3_forgetHeading_1, eX3_forgetHeading_4, eX3_forgetHeading_7, eX3_forgetHeading_8, eX3_forgetHeading_9, eX3_forgetHeading_10, eX3_forgetHeading_12, eX3_forgetHeading_15, eX3_forgetHeading_16, eX3_forgetHeading_19, eX3_forgetHeading_22, eX3_forgetHeading_23, eX3_forgetHeading_24, eX3_forgetHeading_25, eX3_forgetHeading_26, eX3_forgetHeading_29, eX3_forgetHeading_30, eX3_forgetHeading_31, eX3_forgetHeading_34, eX3_forgetHeading_37, eX3_forgetHeading_38, eX3_forgetHeading_41, eX3_forgetHeading_44, eX3_forgetHeading_45, eX3_forgetHeading_46, eX3_forgetHeading_47, eX3_forgetHeading_48, eX3_forgetHeading_51, eX3_forgetHeading_52, eX3_forgetHeading_55, eX3_forgetHeading_58, eX3_forgetHeading_59, eX3_forgetHeading_60, eX3_forgetHeading_62, eX3_forgetHeading_63, eX3_forgetHeading_66, eX3_forgetHeading_69, ox_O_s, ox_B_s, ox_g_t, ox_A_s, ox_push_s, ox_push_n, ox_some, ox_z0, ox_z1, iI_lt, iI_eq, iI_add, iI_sub, ig_at, if_true, if_false, if_pos, if_neg, mp_obj, mp_f0, mp_f1, mp_f2, mp_f3, mp_f4, mp_f5, mp_f6, mp_f7, mp_f8, mp_f9, mp_i0, mp_i1, mp_i2, mp_i3, mp_i4, mp_i5, mp_j0, mp_j1, mp_j2, mp_j3, mp_j4, mp_j5, mp_s0, mp_s1, mp_s2, mp_s3, mp_s4, mp_s5, mp_w2, mp_w4, mp_w6, mp_w9, oa_gl, ma_gl, ig_set, os_2, os_1, ns_1, ns_2, os_os, ns_ns, e8, e9]
        exact i1
theorem k3_forgetHeading {h : ox_H} {m : Nat} {X Y : ol} {w : List Int} (hb : m + 6 < h.length) (hR : RR X w) (hB : rfB X) {z : Int} (z0 : 0 ≤ z) (z1 : z < 30) : ∃ w', oe 99 0 [.ref m, .int (iI z), .null] [] (mput h m (oset Y 0 w)) = some (none, mput h m (oset Y 0 w')) ∧ RR (drX X z) w' ∧ wS w w' := by
  have b3 := hB.2.2.1
  have rl := hR.1
  have r6 := hR.2.1
  obtain ⟨w', i1, i2, i3⟩ := k3_fh_loop (Y := Y) hb z0 z1 (X.1 2).toNat X w hR hB (by omega)
  rw [show (((X.1 2).toNat : Nat) : Int) = X.1 2 by omega] at i1
  refine ⟨w', ?_, i2, i3⟩
  simp (disch := omega) only [eX3_forgetHeading_0, eX3_forgetHeading_1, eX3_forgetHeading_4, eX3_forgetHeading_7, eX3_forgetHeading_8, eX3_forgetHeading_9, eX3_forgetHeading_10, eX3_forgetHeading_12, eX3_forgetHeading_15, eX3_forgetHeading_16, eX3_forgetHeading_19, eX3_forgetHeading_22, eX3_forgetHeading_23, eX3_forgetHeading_24, eX3_forgetHeading_25, eX3_forgetHeading_26, eX3_forgetHeading_29, eX3_forgetHeading_30, eX3_forgetHeading_31, eX3_forgetHeading_34, eX3_forgetHeading_37, eX3_forgetHeading_38, eX3_forgetHeading_41, eX3_forgetHeading_44, eX3_forgetHeading_45, eX3_forgetHeading_46, eX3_forgetHeading_47, eX3_forgetHeading_48, eX3_forgetHeading_51, eX3_forgetHeading_52, eX3_forgetHeading_55, eX3_forgetHeading_58, eX3_forgetHeading_59, eX3_forgetHeading_60, eX3_forgetHeading_62, eX3_forgetHeading_63, eX3_forgetHeading_66, eX3_forgetHeading_69, ox_O_s, ox_B_s, ox_g_t, ox_A_s, ox_push_s, ox_push_n, ox_some, ox_z0, ox_z1, iI_lt, iI_eq, iI_add, iI_sub, ig_at, if_true, if_false, if_pos, if_neg, mp_obj, mp_f0, mp_f1, mp_f2, mp_f3, mp_f4, mp_f5, mp_f6, mp_f7, mp_f8, mp_f9, mp_i0, mp_i1, mp_i2, mp_i3, mp_i4, mp_i5, mp_j0, mp_j1, mp_j2, mp_j3, mp_j4, mp_j5, mp_s0, mp_s1, mp_s2, mp_s3, mp_s4, mp_s5, mp_w2, mp_w4, mp_w6, mp_w9, oa_gl, ma_gl, ig_set, os_2, os_1, ns_1, ns_2, os_os, ns_ns, r6]
  exact i1
theorem k3_at' {h : ox_H} {m : Nat} {Y : ol} (hb : m + 6 < h.length) (hw : (Y.2 0).length = 218) {p : Int} (p0 : 0 ≤ p) (p1 : p < 30) : oe 86 0 [.ref m, .int (iI p)] [] (mput h m Y) = some (some (.int (iI (ig (Y.2 0) (1 + p)))), mput h m Y) := by
  simp (disch := omega) only [eX3_at_0, eX3_at_1, eX3_at_4, eX3_at_5, eX3_at_6, eX3_at_7, eX3_at_8, ox_O_s, ox_B_s, ox_g_t, ox_A_s, ox_push_s, ox_push_n, ox_some, ox_z0, ox_z1, iI_lt, iI_eq, iI_add, iI_sub, ig_at, if_true, if_false, if_pos, if_neg, mp_obj, mp_f0, mp_f1, mp_f2, mp_f3, mp_f4, mp_f5, mp_f6, mp_f7, mp_f8, mp_f9, mp_i0, mp_i1, mp_i2, mp_i3, mp_i4, mp_i5, mp_j0, mp_j1, mp_j2, mp_j3, mp_j4, mp_j5, mp_s0, mp_s1, mp_s2, mp_s3, mp_s4, mp_s5, mp_w2, mp_w4, mp_w6, mp_w9, oa_gl, ma_gl, ig_set, os_2, os_1, ns_1, ns_2, os_os, ns_ns]
theorem k3_many' {h : ox_H} {m : Nat} {Y : ol} (hb : m + 6 < h.length) (hw : (Y.2 0).length = 218) : oe 85 0 [.ref m] [] (mput h m Y) = some (some (.int (iI (ig (Y.2 0) 0))), mput h m Y) := by
  simp (disch := omega) only [eX3_many_0, eX3_many_1, eX3_many_4, eX3_many_5, eX3_many_6, ox_O_s, ox_B_s, ox_g_t, ox_A_s, ox_push_s, ox_push_n, ox_some, ox_z0, ox_z1, iI_lt, iI_eq, iI_add, iI_sub, ig_at, if_true, if_false, if_pos, if_neg, mp_obj, mp_f0, mp_f1, mp_f2, mp_f3, mp_f4, mp_f5, mp_f6, mp_f7, mp_f8, mp_f9, mp_i0, mp_i1, mp_i2, mp_i3, mp_i4, mp_i5, mp_j0, mp_j1, mp_j2, mp_j3, mp_j4, mp_j5, mp_s0, mp_s1, mp_s2, mp_s3, mp_s4, mp_s5, mp_w2, mp_w4, mp_w6, mp_w9, oa_gl, ma_gl, ig_set, os_2, os_1, ns_1, ns_2, os_os, ns_ns]
theorem k3_cu_loop1 {h : ox_H} {m : Nat} {Y : ol} (hb : m + 6 < h.length) {to : Int} (t1 : to ≤ 30) (v1 : Value) : ∀ (k : Nat) (p : Int) (X : ol) (w : List Int), 0 ≤ p → p + k = to → RR X w → rfB X → (∀ q, 0 ≤ q → q < to → ig w (1 + q) = ig (X.2 0) q ∧ 0 ≤ ig (X.2 0) q ∧ ig (X.2 0) q < 30) → ∃ w', oe 100 2 [.ref m, v1, .int (iI to), .int (iI p)] [] (mput h m (oset Y 0 w)) = oe 100 22 [.ref m, v1, .int (iI to), .int (iI to)] [] (mput h m (oset Y 0 w')) ∧ RR (cuF k p X) w' ∧ wS w w' := by
  intro k
  induction k with
  | zero =>
    intro p X w p0 p1 hR hB hq
    refine ⟨w, ?_, hR, wS_rf w⟩
    rw [eX3_cut_2, show p = to by omega]
    simp (disch := omega) only [eX3_cut_3, eX3_cut_4, iI_lt, if_neg]
  | succ k ih =>
    intro p X w p0 p1 hR hB hq
    have rl := hR.1
    obtain ⟨e1, e2, e3⟩ := hq p p0 (by omega)
    have hat := k3_at' (Y := oset Y 0 w) hb rl p0 (by omega)
    rw [os_2, if_pos rfl, e1] at hat
    obtain ⟨w1, d1, d2, d3⟩ := k3_forgetHeading (X := oset X 1 (iu (X.2 1) (ig (X.2 0) p) 0)) (Y := Y) hb hR hB e2 e3
    have hB2 : rfB (drX (oset X 1 (iu (X.2 1) (ig (X.2 0) p) 0)) (ig (X.2 0) p)) := (k1_dropReferences (h := List.replicate 20 (Sum.inl (0, []))) (o := 0) (X := oset X 1 (iu (X.2 1) (ig (X.2 0) p) 0)) (by decide) hB e2 e3).2
    have hS := cuS_1 X (ig (X.2 0) p)
    have e0 := hS.2.1 0 (by decide) (by decide) (by decide)
    obtain ⟨w', i1, i2, i3⟩ := ih (p + 1) (drX (oset X 1 (iu (X.2 1) (ig (X.2 0) p) 0)) (ig (X.2 0) p)) w1 (by omega) (by omega) d2 hB2 (fun q q0 q1 => by
      rw [d3.2 _ (by omega) (by omega), e0]; exact hq q q0 q1)
    refine ⟨w', ?_, i2, wS_tr d3 i3⟩
    rw [← i1, eX3_cut_2]
    simp (disch := omega) only [eX3_cut_3, eX3_cut_4, eX3_cut_7, eX3_cut_8, eX3_cut_9, eX3_cut_10, eX3_cut_13, eX3_cut_16, eX3_cut_19, ox_O_s, ox_B_s, ox_g_t, ox_A_s, ox_push_s, ox_push_n, ox_some, ox_z0, ox_z1, iI_lt, iI_add, if_pos, hat, d1, mp_obj]
/-- headings behind a cut move down -/
def mcF (d : Int) : Nat → Int → List Int → List Int
  | 0, _, w => w
  | k + 1, p, w => mcF d k (p + 1) (iu w (1 + (p - d)) (ig w (1 + p)))
theorem mcF_len {d : Int} : ∀ (k : Nat) (p : Int) (w : List Int), (mcF d k p w).length = w.length
  | 0, _, _ => rfl
  | k + 1, p, w => by unfold mcF; rw [mcF_len k, iu_len]
theorem mcF_ig {d : Int} (d0 : 0 ≤ d) : ∀ (k : Nat) (p : Int) (w : List Int) (q : Int), d ≤ p → p + k ≤ 30 → w.length = 218 → 0 ≤ q → ig (mcF d k p w) q = if 1 + (p - d) ≤ q ∧ q < 1 + (p - d) + k then ig w (q + d) else ig w q
  | 0, p, w, q, _, _, _, _ => by rw [if_neg (by omega)]; rfl
  | k + 1, p, w, q, p0, p1, hl, q0 => by
    unfold mcF
    rw [mcF_ig d0 k (p + 1) _ q (by omega) (by omega) (by rw [iu_len]; exact hl) q0]
    by_cases c : 1 + (p + 1 - d) ≤ q ∧ q < 1 + (p + 1 - d) + k
    · rw [if_pos c, if_pos (by omega), ig_ne (by omega) (by omega) (by omega)]
    · rw [if_neg c]
      by_cases e : q = 1 + (p - d)
      · rw [if_pos (by omega), e, ig_self (by omega) (by omega)]
        exact congrArg (ig w) (by omega)
      · rw [if_neg (by omega), ig_ne (by omega) q0 (by omega)]
theorem coF_ig {d : Int} (d0 : 0 ≤ d) : ∀ (k : Nat) (p : Int) (l : List Int) (q : Int), d ≤ p → p + k ≤ 30 → l.length = 30 → 0 ≤ q → ig (coF d k p l) q = if p - d ≤ q ∧ q < p - d + k then ig l (q + d) else ig l q
  | 0, p, w, q, _, _, _, _ => by rw [if_neg (by omega)]; rfl
  | k + 1, p, w, q, p0, p1, hl, q0 => by
    unfold coF
    rw [coF_ig d0 k (p + 1) _ q (by omega) (by omega) (by rw [iu_len]; exact hl) q0]
    by_cases c : p + 1 - d ≤ q ∧ q < p + 1 - d + k
    · rw [if_pos c, if_pos (by omega), ig_ne (by omega) (by omega) (by omega)]
    · rw [if_neg c]
      by_cases e : q = p - d
      · rw [if_pos (by omega), e, ig_self (by omega) (by omega)]
        exact congrArg (ig w) (by omega)
      · rw [if_neg (by omega), ig_ne (by omega) q0 (by omega)]
theorem k3_cu_loop2 {h : ox_H} {m : Nat} {Y : ol} (hb : m + 6 < h.length) {f t n : Int} (f0 : 0 ≤ f) (f1 : f ≤ t) (t1 : t ≤ n) (n1 : n ≤ 30) : ∀ (k : Nat) (p : Int) (w : List Int), t ≤ p → p + k = n → w.length = 218 → ig w 0 = n → oe 100 24 [.ref m, .int (iI f), .int (iI t), .int (iI p)] [] (mput h m (oset Y 0 w)) = some (none, mput h m (oset Y 0 (iu (mcF (t - f) k p w) 0 (n - (t - f))))) := by
  intro k
  induction k with
  | zero =>
    intro p w p0 p1 hl hn
    have hm := k3_many' (Y := oset Y 0 w) hb hl
    rw [os_2, if_pos rfl, hn] at hm
    rw [eX3_cut_24]
    simp (disch := omega) only [eX3_cut_0, eX3_cut_1, eX3_cut_3, eX3_cut_4, eX3_cut_7, eX3_cut_8, eX3_cut_9, eX3_cut_10, eX3_cut_13, eX3_cut_16, eX3_cut_19, eX3_cut_22, eX3_cut_23, eX3_cut_25, eX3_cut_26, eX3_cut_29, eX3_cut_32, eX3_cut_33, eX3_cut_36, eX3_cut_37, eX3_cut_38, eX3_cut_39, eX3_cut_40, eX3_cut_41, eX3_cut_42, eX3_cut_43, eX3_cut_44, eX3_cut_45, eX3_cut_48, eX3_cut_49, eX3_cut_52, eX3_cut_55, eX3_cut_56, eX3_cut_59, eX3_cut_60, eX3_cut_61, eX3_cut_62, eX3_cut_63, eX3_cut_64, eX3_cut_65, eX3_cut_66, eX3_cut_67, ox_O_s, ox_B_s, ox_g_t, ox_A_s, ox_push_s, ox_push_n, ox_some, ox_z0, ox_z1, iI_lt, iI_eq, iI_add, iI_sub, ig_at, if_true, if_false, if_pos, if_neg, mp_obj, mp_f0, mp_f1, mp_f2, mp_f3, mp_f4, mp_f5, mp_f6, mp_f7, mp_f8, mp_f9, mp_i0, mp_i1, mp_i2, mp_i3, mp_i4, mp_i5, mp_j0, mp_j1, mp_j2, mp_j3, mp_j4, mp_j5, mp_s0, mp_s1, mp_s2, mp_s3, mp_s4, mp_s5, mp_w2, mp_w4, mp_w6, mp_w9, oa_gl, ma_gl, ig_set, os_2, os_1, ns_1, ns_2, os_os, ns_ns, hm, hn]
    rfl
  | succ k ih =>
    intro p w p0 p1 hl hn
    have hm := k3_many' (Y := oset Y 0 w) hb hl
    rw [os_2, if_pos rfl, hn] at hm
    have hat := k3_at' (Y := oset Y 0 w) hb hl (p := p) (by omega) (by omega)
    rw [os_2, if_pos rfl] at hat
    have i1 := ih (p + 1) (iu w (1 + (p - (t - f))) (ig w (1 + p))) (by omega) (by omega) (by rw [iu_len]; exact hl) (by rw [ig_ne (by omega) (by omega) (by omega)]; exact hn)
    unfold mcF
    rw [← i1, eX3_cut_24, show 1 + (p - (t - f)) = 1 + f + p - t by omega]
    simp (disch := omega) only [eX3_cut_0, eX3_cut_1, eX3_cut_3, eX3_cut_4, eX3_cut_7, eX3_cut_8, eX3_cut_9, eX3_cut_10, eX3_cut_13, eX3_cut_16, eX3_cut_19, eX3_cut_22, eX3_cut_23, eX3_cut_25, eX3_cut_26, eX3_cut_29, eX3_cut_32, eX3_cut_33, eX3_cut_36, eX3_cut_37, eX3_cut_38, eX3_cut_39, eX3_cut_40, eX3_cut_41, eX3_cut_42, eX3_cut_43, eX3_cut_44, eX3_cut_45, eX3_cut_48, eX3_cut_49, eX3_cut_52, eX3_cut_55, eX3_cut_56, eX3_cut_59, eX3_cut_60, eX3_cut_61, eX3_cut_62, eX3_cut_63, eX3_cut_64, eX3_cut_65, eX3_cut_66, eX3_cut_67, ox_O_s, ox_B_s, ox_g_t, ox_A_s, ox_push_s, ox_push_n, ox_some, ox_z0, ox_z1, iI_lt, iI_eq, iI_add, iI_sub, ig_at, if_true, if_false, if_pos, if_neg, mp_obj, mp_f0, mp_f1, mp_f2, mp_f3, mp_f4, mp_f5, mp_f6, mp_f7, mp_f8, mp_f9, mp_i0, mp_i1, mp_i2, mp_i3, mp_i4, mp_i5, mp_j0, mp_j1, mp_j2, mp_j3, mp_j4, mp_j5, mp_s0, mp_s1, mp_s2, mp_s3, mp_s4, mp_s5, mp_w2, mp_w4, mp_w6, mp_w9, oa_gl, ma_gl, ig_set, os_2, os_1, ns_1, ns_2, os_os, ns_ns, hm, hat]
theorem k3_cut {h : ox_H} {m : Nat} {X Y : ol} {w : List Int} (hb : m + 6 < h.length) (hR : Rel X w) (hV : vx X) {f t : Int} (f0 : 0 ≤ f) (f1 : f ≤ t) (t1 : t ≤ X.1 0) : ∃ w1, oe 100 0 [.ref m, .int (iI f), .int (iI t), .null] [] (mput h m (oset Y 0 w)) = some (none, mput h m (oset Y 0 (iu (mcF (t - f) (X.1 0 - t).toNat t w1) 0 (X.1 0 - (t - f))))) ∧ RR (cuF (t - f).toNat f X) w1 ∧ wS w w1 := by
  have hn := hV.2.1
  obtain ⟨w1, i1, i2, i3⟩ := k3_cu_loop1 (Y := Y) hb (to := t) (by omega) (.int (iI f)) (t - f).toNat f X w f0 (by omega) (Rel_RR hR) (vx_rfB hV) (fun q q0 q1 => ⟨hR.2.2.1 q q0 (by omega), hV.2.2.1 q q0 (by omega)⟩)
  have hk := k3_cu_loop2 (Y := Y) hb f0 f1 t1 hn.2 (X.1 0 - t).toNat t w1 (by omega) (by omega) i2.1 (by rw [i3.2 0 (by omega) (by omega)]; exact hR.2.1)
  refine ⟨w1, ?_, i2, i3⟩
  simp (disch := omega) only [eX3_cut_0, eX3_cut_1, i1]
  simp (disch := omega) only [eX3_cut_22, eX3_cut_23]
  exact hk
