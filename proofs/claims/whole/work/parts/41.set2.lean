/-! setScheme, setRule, setFilter, undo, write, wipe. -/
theorem vx_sch {X : ol} (hV : vx X) {l v : Int} (v0 : 0 ≤ v) (v1 : v ≤ 5) (l0 : 1 ≤ l) (l1 : l ≤ 6) : vx (oset X 7 (iu (X.2 7) l v)) := by
  obtain ⟨vl, vn, vo, vi, va, vfst, vs, vz, vr, vc, vt, vm, vk⟩ := hV
  have ll : (X.2 7).length = 7 := vl 7 (by decide)
  refine ⟨fun k hk => ?_, vn, vo, vi, va, vfst, vs, vz, vr, fun k k0 k1 => ?_, vt, vm, vk⟩
  · rw [os_2]
    split
    · rename_i e; subst e; rw [iu_len]; exact vl _ hk
    · exact vl k hk
  · have hv := vc k k0 k1
    show 0 ≤ ig (iu (X.2 7) l v) k ∧ ig (iu (X.2 7) l v) k ≤ 5
    rw [ig_iu (by omega) (by omega) (by omega)]
    split <;> omega
theorem vx_rul {X : ol} (hV : vx X) {l v : Int} (v0 : 0 ≤ v) (v1 : v ≤ 15) (l0 : 0 ≤ l) (l1 : l ≤ 4) : vx (oset X 6 (iu (X.2 6) l v)) := by
  obtain ⟨vl, vn, vo, vi, va, vfst, vs, vz, vr, vc, vt, vm, vk⟩ := hV
  have ll : (X.2 6).length = 5 := vl 6 (by decide)
  refine ⟨fun k hk => ?_, vn, vo, vi, va, vfst, vs, vz, fun k k0 k1 => ?_, vc, vt, vm, vk⟩
  · rw [os_2]
    split
    · rename_i e; subst e; rw [iu_len]; exact vl _ hk
    · exact vl k hk
  · have hv := vr k k0 k1
    show 0 ≤ ig (iu (X.2 6) l v) k ∧ ig (iu (X.2 6) l v) k ≤ 15
    rw [ig_iu (by omega) (by omega) (by omega)]
    split <;> omega
theorem vx_flt {X : ol} (hV : vx X) {v : Int} (v0 : 0 ≤ v) (v1 : v ≤ 31) : vx (nset X 1 v) := by
  obtain ⟨vl, vn, vo, vi, va, vfst, vs, vz, vr, vc, vt, vm, vk⟩ := hV
  exact ⟨vl, vn, vo, vi, va, vfst, vs, vz, vr, vc, ⟨v0, v1⟩, vm, vk⟩
/-- a place of w that isn't an outline's list or heading's -/
theorem rel_hi {X X' : ol} {w : List Int} (hV : vx X) (hR : Rel X w) {q v : Int} (q0 : 181 ≤ q) (q1 : q < 218) (e1 : X'.1 0 = X.1 0) (e2 : X'.1 2 = X.1 2) (e0 : ∀ j, j < 6 → X'.2 j = X.2 j) (e8 : X'.2 8 = X.2 8) (e9 : X'.2 9 = X.2 9) (h3 : ∀ k, 0 ≤ k → k < 4 → ig (iu w q v) (181 + k) = ig (X'.2 6) (k + 1)) (h4 : ig (iu w q v) 185 = ig (X'.2 6) 0) (h5 : ∀ l, 1 ≤ l → l ≤ 6 → ig (iu w q v) (185 + l) = ig (X'.2 7) l) (h8 : ig (iu w q v) 217 = X'.1 1) (hq : q < 192 ∨ q = 217) : Rel X' (iu w q v) := by
  obtain ⟨rl, r0, r1, r2, r3, r4, r5, r6, r7, r8⟩ := hR
  have hn := hV.2.1
  have hm := hV.2.2.2.2.2.2.2.2.2.2.2.1
  refine ⟨by rw [iu_len]; exact rl, by rw [ig_ne (by omega) (by omega) (by omega), e1]; exact r0, fun p p0 p1 => ?_, fun p p0 p1 => ?_, h3, h4, h5, by rw [ig_ne (by omega) (by omega) (by omega), e2]; exact r6, fun k k0 k1 => ?_, h8⟩
  · rw [e1] at p1
    rw [ig_ne (by omega) (by omega) (by omega), e0 0 (by decide)]
    exact r1 p p0 p1
  · rw [e1] at p1
    have ho := hV.2.2.1 p p0 p1
    rw [e0 0 (by decide), e0 1 (by decide), e0 2 (by decide), e0 3 (by decide), e0 4 (by decide), e0 5 (by decide), ig_ne (by omega) (by omega) (by omega), ig_ne (by omega) (by omega) (by omega), ig_ne (by omega) (by omega) (by omega), ig_ne (by omega) (by omega) (by omega), ig_ne (by omega) (by omega) (by omega)]
    exact r2 p p0 p1
  · rw [e2] at k1
    rw [ig_ne (by omega) (by omega) (by omega), ig_ne (by omega) (by omega) (by omega), e8, e9]
    exact r7 k k0 k1
theorem os_lt {X : ol} {k : Nat} {l : List Int} (hk : 6 ≤ k) : ∀ j, j < 6 → (oset X k l).2 j = X.2 j := fun j hj => by rw [os_2, if_neg (by omega)]
theorem rel_sch {X : ol} {w : List Int} (hV : vx X) (hR : Rel X w) {l v : Int} (l0 : 1 ≤ l) (l1 : l ≤ 6) : Rel (oset X 7 (iu (X.2 7) l v)) (iu w (185 + l) v) := by
  have rl := hR.1
  have ll : (X.2 7).length = 7 := hV.1 7 (by decide)
  refine rel_hi hV hR (by omega) (by omega) rfl rfl (os_lt (by omega)) rfl rfl (fun k k0 k1 => ?_) ?_ (fun k k0 k1 => ?_) ?_ (Or.inl (by omega))
  · rw [ig_ne (by omega) (by omega) (by omega)]; exact hR.2.2.2.2.1 k k0 k1
  · rw [ig_ne (by omega) (by omega) (by omega)]; exact hR.2.2.2.2.2.1
  · show _ = ig (iu (X.2 7) l v) k
    rw [ig_iu (by omega) (by omega) (by omega), ig_iu (by omega) (by omega) (by omega)]
    by_cases e : l = k
    · rw [if_pos (by omega), if_pos e]
    · rw [if_neg (by omega), if_neg e]; exact hR.2.2.2.2.2.2.1 k k0 k1
  · rw [ig_ne (by omega) (by omega) (by omega)]; exact hR.2.2.2.2.2.2.2.2.2
theorem rel_rul {X : ol} {w : List Int} (hV : vx X) (hR : Rel X w) {l v : Int} (l0 : -1 ≤ l) (l1 : l ≤ 3) : Rel (oset X 6 (iu (X.2 6) (l + 1) v)) (iu w (181 + (if l = -1 then 4 else l)) v) := by
  have rl := hR.1
  have ll : (X.2 6).length = 5 := hV.1 6 (by decide)
  have hq : (if l = -1 then (4 : Int) else l) = if l = -1 then 4 else l := rfl
  generalize hqe : (if l = -1 then (4 : Int) else l) = q
  have q0 : (l = -1 ∧ q = 4) ∨ (0 ≤ l ∧ q = l) := by
    rw [← hqe]
    split <;> omega
  refine rel_hi hV hR (by omega) (by omega) rfl rfl (os_lt (by omega)) rfl rfl (fun k k0 k1 => ?_) ?_ (fun k k0 k1 => ?_) ?_ (Or.inl (by omega))
  · show _ = ig (iu (X.2 6) (l + 1) v) (k + 1)
    rw [ig_iu (by omega) (by omega) (by omega), ig_iu (by omega) (by omega) (by omega)]
    by_cases e : l = k
    · rw [if_pos (by omega), if_pos (by omega)]
    · rw [if_neg (by omega), if_neg (by omega)]; exact hR.2.2.2.2.1 k k0 k1
  · show _ = ig (iu (X.2 6) (l + 1) v) 0
    rw [ig_iu (by omega) (by omega) (by omega), ig_iu (by omega) (by omega) (by omega)]
    by_cases e : l = -1
    · rw [if_pos (by omega), if_pos (by omega)]
    · rw [if_neg (by omega), if_neg (by omega)]; exact hR.2.2.2.2.2.1
  · rw [ig_ne (by omega) (by omega) (by omega)]; exact hR.2.2.2.2.2.2.1 k k0 k1
  · rw [ig_ne (by omega) (by omega) (by omega)]; exact hR.2.2.2.2.2.2.2.2.2
theorem rel_flt {X : ol} {w : List Int} (hV : vx X) (hR : Rel X w) {v : Int} : Rel (nset X 1 v) (iu w 217 v) := by
  have rl := hR.1
  refine rel_hi hV hR (by omega) (by omega) rfl rfl (fun _ _ => rfl) rfl rfl (fun k k0 k1 => ?_) ?_ (fun k k0 k1 => ?_) ?_ (Or.inr rfl)
  · rw [ig_ne (by omega) (by omega) (by omega)]; exact hR.2.2.2.2.1 k k0 k1
  · rw [ig_ne (by omega) (by omega) (by omega)]; exact hR.2.2.2.2.2.1
  · rw [ig_ne (by omega) (by omega) (by omega)]; exact hR.2.2.2.2.2.2.1 k k0 k1
  · rw [ig_self (by omega) (by omega)]; rfl
theorem st_setScheme {xs : List Int32} {h : ox_H} (hS : Sm xs h) (a b : Int32) : ST xs h (fun h => oe 56 0 [.ref 4, .int a, .int b, .null] [] h) (fun h => oe 113 0 [.ref 133, .int a, .int b] [] h) := by
  obtain ⟨X, c, A, H, I, K, T, U, Y, h0, hC, hM, hR⟩ := sm_parts hS
  obtain ⟨s1, s2, s3, s4, s5, -⟩ := id hR
  obtain ⟨b1, b2, b3, -⟩ := id hC
  have hw : (Y.2 0).length = 218 := s2.1
  obtain ⟨f0, f1, f2, f3, f4, f5, f6, f7, f8, f9, f10, f11, f12, f13, f14, f15⟩ := CS_facts hC
  have mO := (ma_facts hM).1
  obtain ⟨z, rfl, z0, z1⟩ := iI_ex a
  obtain ⟨v, rfl, v0, v1⟩ := iI_ex b
  have wz := k2_within (h := h) (a := z) (b := 1) (c := 6) z0 z1 (by omega) (by omega) (by omega) (by omega)
  have wv := k2_within (h := h) (a := v) (b := 0) (c := 5) v0 v1 (by omega) (by omega) (by omega) (by omega)
  have iz := fun h' : ox_H => k3_isIn (h := h') (a := z) (b := 1) (c := 6) z0 z1 (by omega) (by omega) (by omega) (by omega)
  have iv := fun h' : ox_H => k3_isIn (h := h') (a := v) (b := 0) (c := 5) v0 v1 (by omega) (by omega) (by omega) (by omega)
  by_cases rz : 1 ≤ z ∧ z ≤ 6
  · simp only [decide_eq_true rz, zb_t] at wz iz
    by_cases r : 0 ≤ v ∧ v ≤ 5
    · simp only [decide_eq_true r, zb_t] at wv iv
      obtain ⟨h', A', e1, hC', hfr⟩ := k2_remember hC s1.1 s3.1 s3.2
      have hO' := hC'.2.2.1
      have hl' : h'.length = 140 := hC'.1
      rw [← hput_self hO'] at e1
      have hC2 := CS_now (X' := X) hC'
      obtain ⟨g0, g1, g2, g3, g4, g5, g6, g7, g8, g9, g10, g11, g12, g13, g14, g15⟩ := CS_facts hC2
      have hb5 : 5 + 10 < h'.length := by omega
      have l6 : (X.2 6).length = 5 := s1.1 6 (by decide)
      have l7 : (X.2 7).length = 7 := s1.1 7 (by decide)
      refine ST_chg0 (h1 := hput h' 5 (oset X 7 (iu (X.2 7) z v))) (v := iI (ig (X.2 7) z)) h0 hM hR ?_ (CS_now hC') (fun a ha => by rw [gp_out (by omega)]; exact hfr a ha) (w' := iu (Y.2 0) (185 + z) v) ?_ (vx_sch s1 (by omega) (by omega) (by omega) (by omega)) (rel_sch s1 s2 (by omega) (by omega))
      · simp (disch := omega) only [eX2_setScheme_0, eX2_setScheme_1, eX2_setScheme_2, eX2_setScheme_4, eX2_setScheme_7, eX2_setScheme_10, eX2_setScheme_11, eX2_setScheme_12, eX2_setScheme_13, eX2_setScheme_16, eX2_setScheme_19, eX2_setScheme_20, eX2_setScheme_21, eX2_setScheme_22, eX2_setScheme_25, eX2_setScheme_26, eX2_setScheme_29, eX2_setScheme_32, eX2_setScheme_33, eX2_setScheme_34, eX2_setScheme_35, eX2_setScheme_36, eX2_setScheme_39, eX2_setScheme_42, eX2_setScheme_43, eX2_setScheme_44, eX2_setScheme_45, eX2_setScheme_46, ox_O_s, ox_B_s, ox_g_t, ox_A_s, ox_push_s, ox_push_n, ox_some, ox_z0, ox_z1, iI_lt, iI_eq, iI_add, iI_sub, ig_at, if_true, if_false, if_pos, if_neg, f0, f1, f2, f3, f4, f5, f6, f7, f8, f9, f10, f11, f12, f13, f14, f15, wz, wv, e1, g0, g1, g2, g3, g4, g5, g6, g7, g8, g9, g10, g11, g12, g13, g14, g15, hp_obj, hp_f0, hp_f1, hp_f2, hp_f3, hp_f4, hp_f5, hp_f6, hp_f7, hp_f8, hp_f9, hp_f10, hp_f11, hp_f12, hp_i0, hp_i1, hp_i2, hp_i3, hp_i4, hp_i5, hp_i6, hp_i7, hp_i8, hp_i9, hp_j0, hp_j1, hp_j2, hp_j3, hp_j4, hp_j5, hp_j6, hp_j7, hp_j8, hp_j9, hp_s0, hp_s1, hp_s2, hp_s3, hp_s4, hp_s5, hp_s6, hp_s7, hp_s8, hp_s9, hp_w0, hp_w9, hp_w10, oa_gl, ma_gl, ig_set, os_2, os_1, ns_1, ns_2, os_os, ns_ns]
      · have hb6 : 133 + 6 < (hput h' 5 (oset X 7 (iu (X.2 7) z v))).length := by rw [gp_len]; omega
        have hso := k3_setOne hb6 hw s5 (by omega) (by omega) (q := 186 + z - 1) (v := v) (by omega) (by omega)
        rw [show ig (Y.2 0) (186 + z - 1) = ig (X.2 7) z by rw [show 186 + z - 1 = 185 + z by omega]; exact s2.2.2.2.2.2.2.1 z (by omega) (by omega), show iu (Y.2 0) (186 + z - 1) v = iu (Y.2 0) (185 + z) v by rw [show 186 + z - 1 = 185 + z by omega]] at hso
        simp (disch := omega) only [eX3_setScheme_0, eX3_setScheme_1, eX3_setScheme_2, eX3_setScheme_4, eX3_setScheme_7, eX3_setScheme_10, eX3_setScheme_11, eX3_setScheme_12, eX3_setScheme_13, eX3_setScheme_16, eX3_setScheme_19, eX3_setScheme_20, eX3_setScheme_23, eX3_setScheme_24, eX3_setScheme_25, eX3_setScheme_26, eX3_setScheme_27, eX3_setScheme_28, eX3_setScheme_31, eX3_setScheme_34, eX3_setScheme_35, ox_O_s, ox_B_s, ox_g_t, ox_A_s, ox_push_s, ox_push_n, ox_some, ox_z0, ox_z1, iI_lt, iI_eq, iI_add, iI_sub, ig_at, if_true, if_false, if_pos, if_neg, mp_obj, mp_f0, mp_f1, mp_f2, mp_f3, mp_f4, mp_f5, mp_f6, mp_f7, mp_f8, mp_f9, mp_i0, mp_i1, mp_i2, mp_i3, mp_i4, mp_i5, mp_j0, mp_j1, mp_j2, mp_j3, mp_j4, mp_j5, mp_s0, mp_s1, mp_s2, mp_s3, mp_s4, mp_s5, mp_w2, mp_w4, mp_w6, mp_w9, oa_gl, ma_gl, ig_set, os_2, os_1, ns_1, ns_2, os_os, ns_ns, iz, iv, hso]
    · simp only [decide_eq_false r, zb_f] at wv iv
      refine ST_same (v := iI (-1)) hS ?_ ?_
      · simp (disch := omega) only [eX2_setScheme_0, eX2_setScheme_1, eX2_setScheme_2, eX2_setScheme_4, eX2_setScheme_7, eX2_setScheme_10, eX2_setScheme_11, eX2_setScheme_12, eX2_setScheme_13, eX2_setScheme_16, eX2_setScheme_19, eX2_setScheme_20, eX2_setScheme_21, eX2_setScheme_22, eX2_setScheme_25, eX2_setScheme_26, eX2_setScheme_29, eX2_setScheme_32, eX2_setScheme_33, eX2_setScheme_34, eX2_setScheme_35, eX2_setScheme_36, eX2_setScheme_39, eX2_setScheme_42, eX2_setScheme_43, eX2_setScheme_44, eX2_setScheme_45, eX2_setScheme_46, ox_O_s, ox_B_s, ox_g_t, ox_A_s, ox_push_s, ox_push_n, ox_some, ox_z0, ox_z1, iI_lt, iI_eq, iI_add, iI_sub, ig_at, if_true, if_false, if_pos, if_neg, f0, f1, f2, f3, f4, f5, f6, f7, f8, f9, f10, f11, f12, f13, f14, f15, wz, wv]
      · simp (disch := omega) only [eX3_setScheme_0, eX3_setScheme_1, eX3_setScheme_2, eX3_setScheme_4, eX3_setScheme_7, eX3_setScheme_10, eX3_setScheme_11, eX3_setScheme_12, eX3_setScheme_13, eX3_setScheme_16, eX3_setScheme_19, eX3_setScheme_20, eX3_setScheme_23, eX3_setScheme_24, eX3_setScheme_25, eX3_setScheme_26, eX3_setScheme_27, eX3_setScheme_28, eX3_setScheme_31, eX3_setScheme_34, eX3_setScheme_35, ox_O_s, ox_B_s, ox_g_t, ox_A_s, ox_push_s, ox_push_n, ox_some, ox_z0, ox_z1, iI_lt, iI_eq, iI_add, iI_sub, ig_at, if_true, if_false, if_pos, if_neg, mO, iz, iv]
  · simp only [decide_eq_false rz, zb_f] at wz iz
    refine ST_same (v := iI (-1)) hS ?_ ?_
    · simp (disch := omega) only [eX2_setScheme_0, eX2_setScheme_1, eX2_setScheme_2, eX2_setScheme_4, eX2_setScheme_7, eX2_setScheme_10, eX2_setScheme_11, eX2_setScheme_12, eX2_setScheme_13, eX2_setScheme_16, eX2_setScheme_19, eX2_setScheme_20, eX2_setScheme_21, eX2_setScheme_22, eX2_setScheme_25, eX2_setScheme_26, eX2_setScheme_29, eX2_setScheme_32, eX2_setScheme_33, eX2_setScheme_34, eX2_setScheme_35, eX2_setScheme_36, eX2_setScheme_39, eX2_setScheme_42, eX2_setScheme_43, eX2_setScheme_44, eX2_setScheme_45, eX2_setScheme_46, ox_O_s, ox_B_s, ox_g_t, ox_A_s, ox_push_s, ox_push_n, ox_some, ox_z0, ox_z1, iI_lt, iI_eq, iI_add, iI_sub, ig_at, if_true, if_false, if_pos, if_neg, f0, f1, f2, f3, f4, f5, f6, f7, f8, f9, f10, f11, f12, f13, f14, f15, wz]
    · simp (disch := omega) only [eX3_setScheme_0, eX3_setScheme_1, eX3_setScheme_2, eX3_setScheme_4, eX3_setScheme_7, eX3_setScheme_10, eX3_setScheme_11, eX3_setScheme_12, eX3_setScheme_13, eX3_setScheme_16, eX3_setScheme_19, eX3_setScheme_20, eX3_setScheme_23, eX3_setScheme_24, eX3_setScheme_25, eX3_setScheme_26, eX3_setScheme_27, eX3_setScheme_28, eX3_setScheme_31, eX3_setScheme_34, eX3_setScheme_35, ox_O_s, ox_B_s, ox_g_t, ox_A_s, ox_push_s, ox_push_n, ox_some, ox_z0, ox_z1, iI_lt, iI_eq, iI_add, iI_sub, ig_at, if_true, if_false, if_pos, if_neg, mO, iz]
theorem st_setRule {xs : List Int32} {h : ox_H} (hS : Sm xs h) (a b : Int32) : ST xs h (fun h => oe 57 0 [.ref 4, .int a, .int b, .null] [] h) (fun h => oe 114 0 [.ref 133, .int a, .int b] [] h) := by
  obtain ⟨X, c, A, H, I, K, T, U, Y, h0, hC, hM, hR⟩ := sm_parts hS
  obtain ⟨s1, s2, s3, s4, s5, -⟩ := id hR
  obtain ⟨b1, b2, b3, -⟩ := id hC
  have hw : (Y.2 0).length = 218 := s2.1
  obtain ⟨f0, f1, f2, f3, f4, f5, f6, f7, f8, f9, f10, f11, f12, f13, f14, f15⟩ := CS_facts hC
  have mO := (ma_facts hM).1
  obtain ⟨z, rfl, z0, z1⟩ := iI_ex a
  obtain ⟨v, rfl, v0, v1⟩ := iI_ex b
  have wz := k2_within (h := h) (a := z) (b := -1) (c := 3) z0 z1 (by omega) (by omega) (by omega) (by omega)
  have wv := k2_within (h := h) (a := v) (b := 0) (c := 15) v0 v1 (by omega) (by omega) (by omega) (by omega)
  have iz := fun h' : ox_H => k3_isIn (h := h') (a := z) (b := -1) (c := 3) z0 z1 (by omega) (by omega) (by omega) (by omega)
  have iv := fun h' : ox_H => k3_isIn (h := h') (a := v) (b := 0) (c := 15) v0 v1 (by omega) (by omega) (by omega) (by omega)
  by_cases rz : -1 ≤ z ∧ z ≤ 3
  · simp only [decide_eq_true rz, zb_t] at wz iz
    by_cases r : 0 ≤ v ∧ v ≤ 15
    · simp only [decide_eq_true r, zb_t] at wv iv
      obtain ⟨h', A', e1, hC', hfr⟩ := k2_remember hC s1.1 s3.1 s3.2
      have hO' := hC'.2.2.1
      have hl' : h'.length = 140 := hC'.1
      rw [← hput_self hO'] at e1
      have hC2 := CS_now (X' := X) hC'
      obtain ⟨g0, g1, g2, g3, g4, g5, g6, g7, g8, g9, g10, g11, g12, g13, g14, g15⟩ := CS_facts hC2
      have hb5 : 5 + 10 < h'.length := by omega
      have l6 : (X.2 6).length = 5 := s1.1 6 (by decide)
      have l7 : (X.2 7).length = 7 := s1.1 7 (by decide)
      refine ST_chg0 (h1 := hput h' 5 (oset X 6 (iu (X.2 6) (z + 1) v))) (v := iI (ig (X.2 6) (z + 1))) h0 hM hR ?_ (CS_now hC') (fun a ha => by rw [gp_out (by omega)]; exact hfr a ha) (w' := iu (Y.2 0) (181 + (if z = -1 then 4 else z)) v) ?_ (vx_rul s1 (by omega) (by omega) (by omega) (by omega)) (rel_rul s1 s2 (by omega) (by omega))
      · simp (disch := omega) only [eX2_setRule_0, eX2_setRule_1, eX2_setRule_2, eX2_setRule_3, eX2_setRule_6, eX2_setRule_9, eX2_setRule_10, eX2_setRule_11, eX2_setRule_13, eX2_setRule_16, eX2_setRule_19, eX2_setRule_20, eX2_setRule_21, eX2_setRule_22, eX2_setRule_25, eX2_setRule_26, eX2_setRule_29, eX2_setRule_32, eX2_setRule_33, eX2_setRule_34, eX2_setRule_35, eX2_setRule_36, eX2_setRule_37, eX2_setRule_38, eX2_setRule_41, eX2_setRule_44, eX2_setRule_45, eX2_setRule_46, eX2_setRule_47, eX2_setRule_48, eX2_setRule_49, eX2_setRule_50, ox_O_s, ox_B_s, ox_g_t, ox_A_s, ox_push_s, ox_push_n, ox_some, ox_z0, ox_z1, iI_lt, iI_eq, iI_add, iI_sub, ig_at, if_true, if_false, if_pos, if_neg, f0, f1, f2, f3, f4, f5, f6, f7, f8, f9, f10, f11, f12, f13, f14, f15, wz, wv, e1, g0, g1, g2, g3, g4, g5, g6, g7, g8, g9, g10, g11, g12, g13, g14, g15, hp_obj, hp_f0, hp_f1, hp_f2, hp_f3, hp_f4, hp_f5, hp_f6, hp_f7, hp_f8, hp_f9, hp_f10, hp_f11, hp_f12, hp_i0, hp_i1, hp_i2, hp_i3, hp_i4, hp_i5, hp_i6, hp_i7, hp_i8, hp_i9, hp_j0, hp_j1, hp_j2, hp_j3, hp_j4, hp_j5, hp_j6, hp_j7, hp_j8, hp_j9, hp_s0, hp_s1, hp_s2, hp_s3, hp_s4, hp_s5, hp_s6, hp_s7, hp_s8, hp_s9, hp_w0, hp_w9, hp_w10, oa_gl, ma_gl, ig_set, os_2, os_1, ns_1, ns_2, os_os, ns_ns]
      · have hb6 : 133 + 6 < (hput h' 5 (oset X 6 (iu (X.2 6) (z + 1) v))).length := by rw [gp_len]; omega
        by_cases e : z = -1
        · have hso := k3_setOne hb6 hw s5 (by omega) (by omega) (q := 181 + 4) (v := v) (by omega) (by omega)
          rw [show ig (Y.2 0) (181 + 4) = ig (X.2 6) (z + 1) by rw [e]; exact s2.2.2.2.2.2.1] at hso
          rw [if_pos e]
          simp (disch := omega) only [eX3_setRule_0, eX3_setRule_1, eX3_setRule_2, eX3_setRule_3, eX3_setRule_6, eX3_setRule_9, eX3_setRule_10, eX3_setRule_11, eX3_setRule_13, eX3_setRule_16, eX3_setRule_19, eX3_setRule_20, eX3_setRule_23, eX3_setRule_24, eX3_setRule_25, eX3_setRule_28, eX3_setRule_29, eX3_setRule_32, eX3_setRule_33, eX3_setRule_34, eX3_setRule_35, eX3_setRule_38, eX3_setRule_41, eX3_setRule_42, ox_O_s, ox_B_s, ox_g_t, ox_A_s, ox_push_s, ox_push_n, ox_some, ox_z0, ox_z1, iI_lt, iI_eq, iI_add, iI_sub, ig_at, if_true, if_false, if_pos, if_neg, mp_obj, mp_f0, mp_f1, mp_f2, mp_f3, mp_f4, mp_f5, mp_f6, mp_f7, mp_f8, mp_f9, mp_i0, mp_i1, mp_i2, mp_i3, mp_i4, mp_i5, mp_j0, mp_j1, mp_j2, mp_j3, mp_j4, mp_j5, mp_s0, mp_s1, mp_s2, mp_s3, mp_s4, mp_s5, mp_w2, mp_w4, mp_w6, mp_w9, oa_gl, ma_gl, ig_set, os_2, os_1, ns_1, ns_2, os_os, ns_ns, iz, iv, hso]
        · have hso := k3_setOne hb6 hw s5 (by omega) (by omega) (q := 181 + z) (v := v) (by omega) (by omega)
          rw [s2.2.2.2.2.1 z (by omega) (by omega)] at hso
          rw [if_neg e]
          simp (disch := omega) only [eX3_setRule_0, eX3_setRule_1, eX3_setRule_2, eX3_setRule_3, eX3_setRule_6, eX3_setRule_9, eX3_setRule_10, eX3_setRule_11, eX3_setRule_13, eX3_setRule_16, eX3_setRule_19, eX3_setRule_20, eX3_setRule_23, eX3_setRule_24, eX3_setRule_25, eX3_setRule_28, eX3_setRule_29, eX3_setRule_32, eX3_setRule_33, eX3_setRule_34, eX3_setRule_35, eX3_setRule_38, eX3_setRule_41, eX3_setRule_42, ox_O_s, ox_B_s, ox_g_t, ox_A_s, ox_push_s, ox_push_n, ox_some, ox_z0, ox_z1, iI_lt, iI_eq, iI_add, iI_sub, ig_at, if_true, if_false, if_pos, if_neg, mp_obj, mp_f0, mp_f1, mp_f2, mp_f3, mp_f4, mp_f5, mp_f6, mp_f7, mp_f8, mp_f9, mp_i0, mp_i1, mp_i2, mp_i3, mp_i4, mp_i5, mp_j0, mp_j1, mp_j2, mp_j3, mp_j4, mp_j5, mp_s0, mp_s1, mp_s2, mp_s3, mp_s4, mp_s5, mp_w2, mp_w4, mp_w6, mp_w9, oa_gl, ma_gl, ig_set, os_2, os_1, ns_1, ns_2, os_os, ns_ns, iz, iv, hso]
    · simp only [decide_eq_false r, zb_f] at wv iv
      refine ST_same (v := iI (-1)) hS ?_ ?_
      · simp (disch := omega) only [eX2_setRule_0, eX2_setRule_1, eX2_setRule_2, eX2_setRule_3, eX2_setRule_6, eX2_setRule_9, eX2_setRule_10, eX2_setRule_11, eX2_setRule_13, eX2_setRule_16, eX2_setRule_19, eX2_setRule_20, eX2_setRule_21, eX2_setRule_22, eX2_setRule_25, eX2_setRule_26, eX2_setRule_29, eX2_setRule_32, eX2_setRule_33, eX2_setRule_34, eX2_setRule_35, eX2_setRule_36, eX2_setRule_37, eX2_setRule_38, eX2_setRule_41, eX2_setRule_44, eX2_setRule_45, eX2_setRule_46, eX2_setRule_47, eX2_setRule_48, eX2_setRule_49, eX2_setRule_50, ox_O_s, ox_B_s, ox_g_t, ox_A_s, ox_push_s, ox_push_n, ox_some, ox_z0, ox_z1, iI_lt, iI_eq, iI_add, iI_sub, ig_at, if_true, if_false, if_pos, if_neg, f0, f1, f2, f3, f4, f5, f6, f7, f8, f9, f10, f11, f12, f13, f14, f15, wz, wv]
      · simp (disch := omega) only [eX3_setRule_0, eX3_setRule_1, eX3_setRule_2, eX3_setRule_3, eX3_setRule_6, eX3_setRule_9, eX3_setRule_10, eX3_setRule_11, eX3_setRule_13, eX3_setRule_16, eX3_setRule_19, eX3_setRule_20, eX3_setRule_23, eX3_setRule_24, eX3_setRule_25, eX3_setRule_28, eX3_setRule_29, eX3_setRule_32, eX3_setRule_33, eX3_setRule_34, eX3_setRule_35, eX3_setRule_38, eX3_setRule_41, eX3_setRule_42, ox_O_s, ox_B_s, ox_g_t, ox_A_s, ox_push_s, ox_push_n, ox_some, ox_z0, ox_z1, iI_lt, iI_eq, iI_add, iI_sub, ig_at, if_true, if_false, if_pos, if_neg, mO, iz, iv]
  · simp only [decide_eq_false rz, zb_f] at wz iz
    refine ST_same (v := iI (-1)) hS ?_ ?_
    · simp (disch := omega) only [eX2_setRule_0, eX2_setRule_1, eX2_setRule_2, eX2_setRule_3, eX2_setRule_6, eX2_setRule_9, eX2_setRule_10, eX2_setRule_11, eX2_setRule_13, eX2_setRule_16, eX2_setRule_19, eX2_setRule_20, eX2_setRule_21, eX2_setRule_22, eX2_setRule_25, eX2_setRule_26, eX2_setRule_29, eX2_setRule_32, eX2_setRule_33, eX2_setRule_34, eX2_setRule_35, eX2_setRule_36, eX2_setRule_37, eX2_setRule_38, eX2_setRule_41, eX2_setRule_44, eX2_setRule_45, eX2_setRule_46, eX2_setRule_47, eX2_setRule_48, eX2_setRule_49, eX2_setRule_50, ox_O_s, ox_B_s, ox_g_t, ox_A_s, ox_push_s, ox_push_n, ox_some, ox_z0, ox_z1, iI_lt, iI_eq, iI_add, iI_sub, ig_at, if_true, if_false, if_pos, if_neg, f0, f1, f2, f3, f4, f5, f6, f7, f8, f9, f10, f11, f12, f13, f14, f15, wz]
    · simp (disch := omega) only [eX3_setRule_0, eX3_setRule_1, eX3_setRule_2, eX3_setRule_3, eX3_setRule_6, eX3_setRule_9, eX3_setRule_10, eX3_setRule_11, eX3_setRule_13, eX3_setRule_16, eX3_setRule_19, eX3_setRule_20, eX3_setRule_23, eX3_setRule_24, eX3_setRule_25, eX3_setRule_28, eX3_setRule_29, eX3_setRule_32, eX3_setRule_33, eX3_setRule_34, eX3_setRule_35, eX3_setRule_38, eX3_setRule_41, eX3_setRule_42, ox_O_s, ox_B_s, ox_g_t, ox_A_s, ox_push_s, ox_push_n, ox_some, ox_z0, ox_z1, iI_lt, iI_eq, iI_add, iI_sub, ig_at, if_true, if_false, if_pos, if_neg, mO, iz]
theorem st_setFilter {xs : List Int32} {h : ox_H} (hS : Sm xs h) (a : Int32) : ST xs h (fun h => oe 58 0 [.ref 4, .int a, .null] [] h) (fun h => oe 115 0 [.ref 133, .int a] [] h) := by
  obtain ⟨X, c, A, H, I, K, T, U, Y, h0, hC, hM, hR⟩ := sm_parts hS
  obtain ⟨s1, s2, s3, s4, s5, -⟩ := id hR
  obtain ⟨b1, b2, b3, -⟩ := id hC
  have hw : (Y.2 0).length = 218 := s2.1
  obtain ⟨f0, f1, f2, f3, f4, f5, f6, f7, f8, f9, f10, f11, f12, f13, f14, f15⟩ := CS_facts hC
  have mO := (ma_facts hM).1
  obtain ⟨v, rfl, v0, v1⟩ := iI_ex a
  have wv := k2_within (h := h) (a := v) (b := 0) (c := 31) v0 v1 (by omega) (by omega) (by omega) (by omega)
  have iv := fun h' : ox_H => k3_isIn (h := h') (a := v) (b := 0) (c := 31) v0 v1 (by omega) (by omega) (by omega) (by omega)
  by_cases r : 0 ≤ v ∧ v ≤ 31
  · simp only [decide_eq_true r, zb_t] at wv iv
    obtain ⟨h', A', e1, hC', hfr⟩ := k2_remember hC s1.1 s3.1 s3.2
    have hO' := hC'.2.2.1
    have hl' : h'.length = 140 := hC'.1
    rw [← hput_self hO'] at e1
    have hC2 := CS_now (X' := X) hC'
    obtain ⟨g0, g1, g2, g3, g4, g5, g6, g7, g8, g9, g10, g11, g12, g13, g14, g15⟩ := CS_facts hC2
    have hb5 : 5 + 10 < h'.length := by omega
    refine ST_chg0 (h1 := hput h' 5 (nset X 1 v)) (v := iI (X.1 1)) h0 hM hR ?_ (CS_now hC') (fun a ha => by rw [gp_out (by omega)]; exact hfr a ha) (w' := iu (Y.2 0) 217 v) ?_ (vx_flt s1 r.1 r.2) (rel_flt s1 s2)
    · simp (disch := omega) only [eX2_setFilter_0, eX2_setFilter_1, eX2_setFilter_2, eX2_setFilter_4, eX2_setFilter_7, eX2_setFilter_10, eX2_setFilter_11, eX2_setFilter_12, eX2_setFilter_13, eX2_setFilter_16, eX2_setFilter_17, eX2_setFilter_20, eX2_setFilter_23, eX2_setFilter_24, eX2_setFilter_25, eX2_setFilter_28, eX2_setFilter_29, eX2_setFilter_32, eX2_setFilter_33, ox_O_s, ox_B_s, ox_g_t, ox_A_s, ox_push_s, ox_push_n, ox_some, ox_z0, ox_z1, iI_lt, iI_eq, iI_add, iI_sub, ig_at, if_true, if_false, if_pos, if_neg, f0, f1, f2, f3, f4, f5, f6, f7, f8, f9, f10, f11, f12, f13, f14, f15, wv, e1, g0, g1, g2, g3, g4, g5, g6, g7, g8, g9, g10, g11, g12, g13, g14, g15, hp_obj, hp_f0, hp_f1, hp_f2, hp_f3, hp_f4, hp_f5, hp_f6, hp_f7, hp_f8, hp_f9, hp_f10, hp_f11, hp_f12, hp_i0, hp_i1, hp_i2, hp_i3, hp_i4, hp_i5, hp_i6, hp_i7, hp_i8, hp_i9, hp_j0, hp_j1, hp_j2, hp_j3, hp_j4, hp_j5, hp_j6, hp_j7, hp_j8, hp_j9, hp_s0, hp_s1, hp_s2, hp_s3, hp_s4, hp_s5, hp_s6, hp_s7, hp_s8, hp_s9, hp_w0, hp_w9, hp_w10, oa_gl, ma_gl, ig_set, os_2, os_1, ns_1, ns_2, os_os, ns_ns]
    · have hb6 : 133 + 6 < (hput h' 5 (nset X 1 v)).length := by rw [gp_len]; omega
      have hso := k3_setOne hb6 hw s5 (by omega) (by omega) (q := 217) (v := v) (by omega) (by omega)
      rw [s2.2.2.2.2.2.2.2.2.2] at hso
      simp (disch := omega) only [eX3_setFilter_0, eX3_setFilter_1, eX3_setFilter_2, eX3_setFilter_4, eX3_setFilter_7, eX3_setFilter_10, eX3_setFilter_11, eX3_setFilter_14, eX3_setFilter_15, eX3_setFilter_18, eX3_setFilter_21, eX3_setFilter_22, ox_O_s, ox_B_s, ox_g_t, ox_A_s, ox_push_s, ox_push_n, ox_some, ox_z0, ox_z1, iI_lt, iI_eq, iI_add, iI_sub, ig_at, if_true, if_false, if_pos, if_neg, mp_obj, mp_f0, mp_f1, mp_f2, mp_f3, mp_f4, mp_f5, mp_f6, mp_f7, mp_f8, mp_f9, mp_i0, mp_i1, mp_i2, mp_i3, mp_i4, mp_i5, mp_j0, mp_j1, mp_j2, mp_j3, mp_j4, mp_j5, mp_s0, mp_s1, mp_s2, mp_s3, mp_s4, mp_s5, mp_w2, mp_w4, mp_w6, mp_w9, oa_gl, ma_gl, ig_set, os_2, os_1, ns_1, ns_2, os_os, ns_ns, iv, hso]
  · simp only [decide_eq_false r, zb_f] at wv iv
    refine ST_same (v := iI (-1)) hS ?_ ?_
    · simp (disch := omega) only [eX2_setFilter_0, eX2_setFilter_1, eX2_setFilter_2, eX2_setFilter_4, eX2_setFilter_7, eX2_setFilter_10, eX2_setFilter_11, eX2_setFilter_12, eX2_setFilter_13, eX2_setFilter_16, eX2_setFilter_17, eX2_setFilter_20, eX2_setFilter_23, eX2_setFilter_24, eX2_setFilter_25, eX2_setFilter_28, eX2_setFilter_29, eX2_setFilter_32, eX2_setFilter_33, ox_O_s, ox_B_s, ox_g_t, ox_A_s, ox_push_s, ox_push_n, ox_some, ox_z0, ox_z1, iI_lt, iI_eq, iI_add, iI_sub, ig_at, if_true, if_false, if_pos, if_neg, f0, f1, f2, f3, f4, f5, f6, f7, f8, f9, f10, f11, f12, f13, f14, f15, wv]
    · simp (disch := omega) only [eX3_setFilter_0, eX3_setFilter_1, eX3_setFilter_2, eX3_setFilter_4, eX3_setFilter_7, eX3_setFilter_10, eX3_setFilter_11, eX3_setFilter_14, eX3_setFilter_15, eX3_setFilter_18, eX3_setFilter_21, eX3_setFilter_22, ox_O_s, ox_B_s, ox_g_t, ox_A_s, ox_push_s, ox_push_n, ox_some, ox_z0, ox_z1, iI_lt, iI_eq, iI_add, iI_sub, ig_at, if_true, if_false, if_pos, if_neg, mO, iv]
/-- the class's object changes, then the reference's -/
theorem ST_gen {xs : List Int32} {h h1 : ox_H} {f g : ox_H → Option ox_R} {v : Int32} {X' : ol} {c' : Int} {A' : List Nat} {H' I' : Nat → ol} {K' : List Int} {T' U' Y Y' : ol} (h0 : h[0]? = some (.inl (2, xs))) (hM : MA h 133 Y) (hf : f h = some (some (.int v), h1)) (hC1 : CS h1 X' c' A' H' I' K' T' U') (hfr : ∀ a, (a < 4 ∨ 133 ≤ a) → h1[a]? = h[a]?) (hg : g (mput h1 133 Y) = some (some (.int v), mput h1 133 Y')) (hS' : SR X' c' H' I' K' T' Y') : ST xs h f g := by
  have hM1 : MA h1 133 Y := ⟨by rw [hfr 133 (by omega)]; exact hM.1, fun k hk => by rw [hfr _ (by omega)]; exact hM.2 k hk⟩
  have hb : 133 + 6 < h1.length := by rw [hC1.1]; omega
  exact ⟨v, h1, mput h1 133 Y', hf, by rw [← hg, mput_self hM1], ⟨by rw [gp_out (by omega), hfr 0 (by omega)]; exact h0, X', c', A', H', I', K', T', U', Y', CS_frame hC1 gp_len (fun a ha => gp_out (by omega)), ma_put hb, hS'⟩, by rw [(ma_facts hM1).1]; rfl, by rw [hfr 0 (by omega)]; exact h0⟩
theorem st_undo {xs : List Int32} {h : ox_H} (hS : Sm xs h) : ST xs h (fun h => oe 59 0 [.ref 4] [] h) (fun h => oe 116 0 [.ref 133, .null] [] h) := by
  obtain ⟨X, c, A, H, I, K, T, U, Y, h0, hC, hM, hR⟩ := sm_parts hS
  obtain ⟨s1, s2, s3, s4, s5, -⟩ := id hR
  obtain ⟨b1, b2, b3, -⟩ := id hC
  have hw : (Y.2 0).length = 218 := s2.1
  obtain ⟨f0, f1, f2, f3, f4, f5, f6, f7, f8, f9, f10, f11, f12, f13, f14, f15⟩ := CS_facts hC
  have mO := (ma_facts hM).1
  by_cases q : c = 0
  · refine ST_same (v := iI (-2)) hS ?_ ?_
    · simp (disch := omega) only [eX2_undo_0, eX2_undo_1, eX2_undo_4, eX2_undo_7, eX2_undo_9, eX2_undo_10, eX2_undo_11, eX2_undo_12, eX2_undo_15, eX2_undo_16, eX2_undo_17, eX2_undo_20, eX2_undo_21, eX2_undo_24, eX2_undo_25, eX2_undo_28, eX2_undo_29, eX2_undo_32, eX2_undo_33, eX2_undo_36, eX2_undo_37, eX2_undo_40, ox_O_s, ox_B_s, ox_g_t, ox_A_s, ox_push_s, ox_push_n, ox_some, ox_z0, ox_z1, iI_lt, iI_eq, iI_add, iI_sub, ig_at, if_true, if_false, if_pos, if_neg, f0, f1, f2, f3, f4, f5, f6, f7, f8, f9, f10, f11, f12, f13, f14, f15]
    · obtain ⟨m0, m1, m2, m3, -⟩ := ma_facts hM
      have e0 : Y.1 0 = 0 := by omega
      simp (disch := omega) only [eX3_undo_0, eX3_undo_1, eX3_undo_4, eX3_undo_7, eX3_undo_9, eX3_undo_10, eX3_undo_11, eX3_undo_12, eX3_undo_15, eX3_undo_16, eX3_undo_17, eX3_undo_20, eX3_undo_21, eX3_undo_23, eX3_undo_26, eX3_undo_29, eX3_undo_30, eX3_undo_33, eX3_undo_34, eX3_undo_35, eX3_undo_38, eX3_undo_41, eX3_undo_42, eX3_undo_45, eX3_undo_46, eX3_undo_47, eX3_undo_48, eX3_undo_49, eX3_undo_50, eX3_undo_53, eX3_undo_56, eX3_undo_57, eX3_undo_60, ox_O_s, ox_B_s, ox_g_t, ox_A_s, ox_push_s, ox_push_n, ox_some, ox_z0, ox_z1, iI_lt, iI_eq, iI_add, iI_sub, ig_at, if_true, if_false, if_pos, if_neg, m3, e0]
  · obtain ⟨h', e1, hC', hfr⟩ := k2_undo hC s1.1 (by omega) s3.2
    have hb6 : 133 + 6 < h'.length := by rw [hC'.1]; omega
    have hu := k3_undo (Y := Y) hb6 hw s5 (by omega) (by omega)
    rw [s4] at hu
    refine ST_gen h0 hM e1 hC' hfr hu ?_
    obtain ⟨-, -, -, -, -, s6, s7, s8, s9, s10, s11, s12, s13, s14, s15⟩ := id hR
    have hh := s6 (c - 1).toNat (by omega)
    rw [show (((c - 1).toNat : Nat) : Int) = c - 1 by omega] at hh
    exact ⟨hh.1, hh.2, by omega, rfl, s5, fun i hi => s6 i (by omega), s7, s8, s9, s10, s11, s12, s13, s14, s15⟩
theorem st_write {xs : List Int32} {h : ox_H} (hS : Sm xs h) (a : Int32) : ST xs h (fun h => oe 70 0 [.ref 4, .int a] [] h) (fun h => oe 148 0 [.ref 133, .int a] [] h) := by
  obtain ⟨X, c, A, H, I, K, T, U, Y, h0, hC, hM, hR⟩ := sm_parts hS
  obtain ⟨s1, s2, s3, s4, s5, -⟩ := id hR
  obtain ⟨b1, b2, b3, -⟩ := id hC
  have hw : (Y.2 0).length = 218 := s2.1
  obtain ⟨f0, f1, f2, f3, f4, f5, f6, f7, f8, f9, f10, f11, f12, f13, f14, f15⟩ := CS_facts hC
  have mO := (ma_facts hM).1
  obtain ⟨v, rfl, v0, v1⟩ := iI_ex a
  obtain ⟨-, -, -, -, -, s6, s7, s8, s9, s10, s11, s12, s13, s14, s15⟩ := id hR
  obtain ⟨m0, m1, m2, m3, m4, m5, m6, m7, -⟩ := ma_facts hM
  have wv := k2_within (h := h) (a := v) (b := 32) (c := 126) v0 v1 (by omega) (by omega) (by omega) (by omega)
  have iv := fun h' : ox_H => k3_isIn (h := h') (a := v) (b := 32) (c := 126) v0 v1 (by omega) (by omega) (by omega) (by omega)
  by_cases r : 32 ≤ v ∧ v ≤ 126
  · simp only [decide_eq_true r, zb_t] at wv iv
    by_cases r2 : T.1 0 = 40
    · refine ST_same (v := iI (-3)) hS ?_ ?_
      · simp (disch := omega) only [eX2_write_0, eX2_write_1, eX2_write_3, eX2_write_5, eX2_write_8, eX2_write_11, eX2_write_12, eX2_write_13, eX2_write_14, eX2_write_17, eX2_write_20, eX2_write_22, eX2_write_25, eX2_write_27, eX2_write_28, eX2_write_29, eX2_write_32, eX2_write_33, eX2_write_36, eX2_write_37, eX2_write_40, eX2_write_43, ox_O_s, ox_B_s, ox_g_t, ox_A_s, ox_push_s, ox_push_n, ox_some, ox_z0, ox_z1, iI_lt, iI_eq, iI_add, iI_sub, ig_at, if_true, if_false, if_pos, if_neg, f0, f1, f2, f3, f4, f5, f6, f7, f8, f9, f10, f11, f12, f13, f14, f15, wv]
      · simp (disch := omega) only [eX3_write_0, eX3_write_1, eX3_write_3, eX3_write_5, eX3_write_8, eX3_write_11, eX3_write_12, eX3_write_13, eX3_write_14, eX3_write_17, eX3_write_19, eX3_write_22, eX3_write_24, eX3_write_25, eX3_write_26, eX3_write_29, eX3_write_30, eX3_write_33, eX3_write_34, eX3_write_35, eX3_write_36, eX3_write_37, eX3_write_40, eX3_write_41, eX3_write_42, eX3_write_45, eX3_write_46, eX3_write_49, ox_O_s, ox_B_s, ox_g_t, ox_A_s, ox_push_s, ox_push_n, ox_some, ox_z0, ox_z1, iI_lt, iI_eq, iI_add, iI_sub, ig_at, if_true, if_false, if_pos, if_neg, mO, iv, m7, s11]
    · have hTO := hC.2.2.2.2.2.2.2.2.2.2.1
      have ap := k0_append (X := T) (h := h) (o := 129) (by omega) hTO.2 (by omega) (by omega) (c := v)
      rw [lput_self hTO.1] at ap
      have hC' := CS_text (T' := apL T v) hC (by rw [apL_l]; exact hTO.2)
      obtain ⟨g0, g1, g2, g3, g4, g5, g6, g7, g8, g9, g10, g11, g12, g13, g14, g15⟩ := CS_facts hC'
      rw [apL_n] at g14
      refine ST_gen (h1 := lput h 129 (apL T v)) (v := iI (T.1 0 + 1)) (Y' := nset (oset Y 3 (iu (Y.2 3) (Y.1 2) v)) 2 (Y.1 2 + 1)) h0 hM ?_ hC' (fun a ha => gp_out (by omega)) ?_ ?_
      · simp (disch := omega) only [eX2_write_0, eX2_write_1, eX2_write_3, eX2_write_5, eX2_write_8, eX2_write_11, eX2_write_12, eX2_write_13, eX2_write_14, eX2_write_17, eX2_write_20, eX2_write_22, eX2_write_25, eX2_write_27, eX2_write_28, eX2_write_29, eX2_write_32, eX2_write_33, eX2_write_36, eX2_write_37, eX2_write_40, eX2_write_43, ox_O_s, ox_B_s, ox_g_t, ox_A_s, ox_push_s, ox_push_n, ox_some, ox_z0, ox_z1, iI_lt, iI_eq, iI_add, iI_sub, ig_at, if_true, if_false, if_pos, if_neg, f0, f1, f2, f3, f4, f5, f6, f7, f8, f9, f10, f11, f12, f13, f14, f15, wv, ap, g6, g14]
      · have hb6 : 133 + 6 < (lput h 129 (apL T v)).length := by rw [gp_len]; omega
        rw [← s11]
        simp (disch := omega) only [eX3_write_0, eX3_write_1, eX3_write_3, eX3_write_5, eX3_write_8, eX3_write_11, eX3_write_12, eX3_write_13, eX3_write_14, eX3_write_17, eX3_write_19, eX3_write_22, eX3_write_24, eX3_write_25, eX3_write_26, eX3_write_29, eX3_write_30, eX3_write_33, eX3_write_34, eX3_write_35, eX3_write_36, eX3_write_37, eX3_write_40, eX3_write_41, eX3_write_42, eX3_write_45, eX3_write_46, eX3_write_49, ox_O_s, ox_B_s, ox_g_t, ox_A_s, ox_push_s, ox_push_n, ox_some, ox_z0, ox_z1, iI_lt, iI_eq, iI_add, iI_sub, ig_at, if_true, if_false, if_pos, if_neg, mp_obj, mp_f0, mp_f1, mp_f2, mp_f3, mp_f4, mp_f5, mp_f6, mp_f7, mp_f8, mp_f9, mp_i0, mp_i1, mp_i2, mp_i3, mp_i4, mp_i5, mp_j0, mp_j1, mp_j2, mp_j3, mp_j4, mp_j5, mp_s0, mp_s1, mp_s2, mp_s3, mp_s4, mp_s5, mp_w2, mp_w4, mp_w6, mp_w9, oa_gl, ma_gl, ig_set, os_2, os_1, ns_1, ns_2, os_os, ns_ns, iv]
      · refine ⟨s1, s2, s3, s4, s5, s6, s7, s8, s9, by rw [apL_n]; omega, by show Y.1 2 + 1 = T.1 0 + 1; omega, by show (iu (Y.2 3) (Y.1 2) v).length = 40; rw [iu_len]; exact s12, fun i i0 i1 => ?_, s14, s15⟩
        rw [apL_n] at i1
        have hT53 := hTO.2
        show ig (iu (Y.2 3) (Y.1 2) v) i = ig (iu (T.2 0) (T.1 0) v) i ∧ _ ≤ ig (iu (T.2 0) (T.1 0) v) i ∧ ig (iu (T.2 0) (T.1 0) v) i ≤ _
        rw [ig_iu (by omega) (by omega) i0, ig_iu (by omega) (by omega) i0]
        by_cases e : T.1 0 = i
        · rw [if_pos (by omega), if_pos e]; omega
        · rw [if_neg (by omega), if_neg e]; exact s13 i i0 (by omega)
  · simp only [decide_eq_false r, zb_f] at wv iv
    refine ST_same (v := iI (-1)) hS ?_ ?_
    · simp (disch := omega) only [eX2_write_0, eX2_write_1, eX2_write_3, eX2_write_5, eX2_write_8, eX2_write_11, eX2_write_12, eX2_write_13, eX2_write_14, eX2_write_17, eX2_write_20, eX2_write_22, eX2_write_25, eX2_write_27, eX2_write_28, eX2_write_29, eX2_write_32, eX2_write_33, eX2_write_36, eX2_write_37, eX2_write_40, eX2_write_43, ox_O_s, ox_B_s, ox_g_t, ox_A_s, ox_push_s, ox_push_n, ox_some, ox_z0, ox_z1, iI_lt, iI_eq, iI_add, iI_sub, ig_at, if_true, if_false, if_pos, if_neg, f0, f1, f2, f3, f4, f5, f6, f7, f8, f9, f10, f11, f12, f13, f14, f15, wv]
    · simp (disch := omega) only [eX3_write_0, eX3_write_1, eX3_write_3, eX3_write_5, eX3_write_8, eX3_write_11, eX3_write_12, eX3_write_13, eX3_write_14, eX3_write_17, eX3_write_19, eX3_write_22, eX3_write_24, eX3_write_25, eX3_write_26, eX3_write_29, eX3_write_30, eX3_write_33, eX3_write_34, eX3_write_35, eX3_write_36, eX3_write_37, eX3_write_40, eX3_write_41, eX3_write_42, eX3_write_45, eX3_write_46, eX3_write_49, ox_O_s, ox_B_s, ox_g_t, ox_A_s, ox_push_s, ox_push_n, ox_some, ox_z0, ox_z1, iI_lt, iI_eq, iI_add, iI_sub, ig_at, if_true, if_false, if_pos, if_neg, mO, iv]
theorem st_wipe {xs : List Int32} {h : ox_H} (hS : Sm xs h) : ST xs h (fun h => oe 71 0 [.ref 4, .null] [] h) (fun h => oe 149 0 [.ref 133, .null] [] h) := by
  obtain ⟨X, c, A, H, I, K, T, U, Y, h0, hC, hM, hR⟩ := sm_parts hS
  obtain ⟨s1, s2, s3, s4, s5, -⟩ := id hR
  obtain ⟨b1, b2, b3, -⟩ := id hC
  have hw : (Y.2 0).length = 218 := s2.1
  obtain ⟨f0, f1, f2, f3, f4, f5, f6, f7, f8, f9, f10, f11, f12, f13, f14, f15⟩ := CS_facts hC
  have mO := (ma_facts hM).1
  obtain ⟨-, -, -, -, -, s6, s7, s8, s9, s10, s11, s12, s13, s14, s15⟩ := id hR
  have hTO := hC.2.2.2.2.2.2.2.2.2.2.1
  have ap := k0_clear (X := T) (h := h) (o := 129) (by omega)
  rw [lput_self hTO.1] at ap
  have hC' := CS_text (T' := nset T 0 0) hC hTO.2
  refine ST_gen (h1 := lput h 129 (nset T 0 0)) (v := iI (T.1 0)) (Y' := nset Y 2 0) h0 hM ?_ hC' (fun a ha => gp_out (by omega)) ?_ ?_
  · simp (disch := omega) only [eX2_wipe_0, eX2_wipe_1, eX2_wipe_4, eX2_wipe_7, eX2_wipe_8, eX2_wipe_9, eX2_wipe_12, eX2_wipe_15, eX2_wipe_16, ox_O_s, ox_B_s, ox_g_t, ox_A_s, ox_push_s, ox_push_n, ox_some, ox_z0, ox_z1, iI_lt, iI_eq, iI_add, iI_sub, ig_at, if_true, if_false, if_pos, if_neg, f0, f1, f2, f3, f4, f5, f6, f7, f8, f9, f10, f11, f12, f13, f14, f15, ap]
  · have hb6 : 133 + 6 < (lput h 129 (nset T 0 0)).length := by rw [gp_len]; omega
    rw [← s11]
    simp (disch := omega) only [eX3_wipe_0, eX3_wipe_1, eX3_wipe_4, eX3_wipe_5, eX3_wipe_6, eX3_wipe_7, eX3_wipe_10, eX3_wipe_11, ox_O_s, ox_B_s, ox_g_t, ox_A_s, ox_push_s, ox_push_n, ox_some, ox_z0, ox_z1, iI_lt, iI_eq, iI_add, iI_sub, ig_at, if_true, if_false, if_pos, if_neg, mp_obj, mp_f0, mp_f1, mp_f2, mp_f3, mp_f4, mp_f5, mp_f6, mp_f7, mp_f8, mp_f9, mp_i0, mp_i1, mp_i2, mp_i3, mp_i4, mp_i5, mp_j0, mp_j1, mp_j2, mp_j3, mp_j4, mp_j5, mp_s0, mp_s1, mp_s2, mp_s3, mp_s4, mp_s5, mp_w2, mp_w4, mp_w6, mp_w9, oa_gl, ma_gl, ig_set, os_2, os_1, ns_1, ns_2, os_os, ns_ns]
  · exact ⟨s1, s2, s3, s4, s5, s6, s7, s8, s9, by show (0 : Int) ≤ 0 ∧ (0 : Int) ≤ 40; omega, rfl, s12, fun i i0 i1 => absurd i1 (by show ¬ i < 0; omega), s14, s15⟩
