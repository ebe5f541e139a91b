/-! headingAt, shownAt, child, told. -/
theorem idA_b {X : ol} (hV : vx X) (p : Int) : -9 ≤ idA X p ∧ idA X p < 30 := by
  unfold idA
  split
  · rename_i h
    have := hV.2.2.1 p h.1 h.2
    omega
  · omega
theorem st_headingAt {xs : List Int32} {h : ox_H} (hS : Sm xs h) (a : Int32) : ST xs h (fun h => oe 65 0 [.ref 4, .int a] [] h) (fun h => oe 139 0 [.ref 133, .int a] [] h) := by
  obtain ⟨X, c, A, H, I, K, T, U, Y, h0, hC, hM, hR⟩ := sm_parts hS
  obtain ⟨s1, s2, s3, s4, s5, -⟩ := id hR
  obtain ⟨b1, b2, b3, -⟩ := id hC
  have hw : (Y.2 0).length = 218 := s2.1
  obtain ⟨f0, f1, f2, f3, f4, f5, f6, f7, f8, f9, f10, f11, f12, f13, f14, f15⟩ := CS_facts hC
  have mO := (ma_facts hM).1
  obtain ⟨z, rfl, z0, z1⟩ := iI_ex a
  have hm := k3_many hM s2 s1
  have hn := s1.2.1
  by_cases q : z < 0
  · refine ST_same (v := iI (-1)) hS ?_ ?_
    · simp (disch := omega) only [eX2_headingAt_0, eX2_headingAt_1, eX2_headingAt_4, eX2_headingAt_5, eX2_headingAt_6, eX2_headingAt_7, eX2_headingAt_10, eX2_headingAt_11, eX2_headingAt_14, ox_O_s, ox_B_s, ox_g_t, ox_A_s, ox_push_s, ox_push_n, ox_some, ox_z0, ox_z1, iI_lt, iI_eq, iI_add, iI_sub, ig_at, if_true, if_false, if_pos, if_neg, f0, f1, f2, f3, f4, f5, f6, f7, f8, f9, f10, f11, f12, f13, f14, f15]
    · simp (disch := omega) only [eX3_headingAt_0, eX3_headingAt_1, eX3_headingAt_4, eX3_headingAt_5, eX3_headingAt_6, eX3_headingAt_7, eX3_headingAt_8, eX3_headingAt_11, eX3_headingAt_14, eX3_headingAt_15, eX3_headingAt_16, eX3_headingAt_19, eX3_headingAt_22, eX3_headingAt_24, ox_O_s, ox_B_s, ox_g_t, ox_A_s, ox_push_s, ox_push_n, ox_some, ox_z0, ox_z1, iI_lt, iI_eq, iI_add, iI_sub, ig_at, if_true, if_false, if_pos, if_neg, mO]
  · have hi := k1_idAt b3 s1 (p := z) z0 z1
    refine ST_same (v := iI (idA X z)) hS ?_ ?_
    · simp (disch := omega) only [eX2_headingAt_0, eX2_headingAt_1, eX2_headingAt_4, eX2_headingAt_5, eX2_headingAt_6, eX2_headingAt_7, eX2_headingAt_10, eX2_headingAt_11, eX2_headingAt_14, ox_O_s, ox_B_s, ox_g_t, ox_A_s, ox_push_s, ox_push_n, ox_some, ox_z0, ox_z1, iI_lt, iI_eq, iI_add, iI_sub, ig_at, if_true, if_false, if_pos, if_neg, f0, f1, f2, f3, f4, f5, f6, f7, f8, f9, f10, f11, f12, f13, f14, f15, hi]
    · by_cases q2 : z < X.1 0
      · have hat := k3_at hM s2 s1 (show 0 ≤ z by omega) q2
        rw [show idA X z = ig (X.2 0) z from if_pos ⟨by omega, q2⟩]
        simp (disch := omega) only [eX3_headingAt_0, eX3_headingAt_1, eX3_headingAt_4, eX3_headingAt_5, eX3_headingAt_6, eX3_headingAt_7, eX3_headingAt_8, eX3_headingAt_11, eX3_headingAt_14, eX3_headingAt_15, eX3_headingAt_16, eX3_headingAt_19, eX3_headingAt_22, eX3_headingAt_24, ox_O_s, ox_B_s, ox_g_t, ox_A_s, ox_push_s, ox_push_n, ox_some, ox_z0, ox_z1, iI_lt, iI_eq, iI_add, iI_sub, ig_at, if_true, if_false, if_pos, if_neg, mO, hm, hat]
      · rw [show idA X z = -9 from if_neg (by omega)]
        simp (disch := omega) only [eX3_headingAt_0, eX3_headingAt_1, eX3_headingAt_4, eX3_headingAt_5, eX3_headingAt_6, eX3_headingAt_7, eX3_headingAt_8, eX3_headingAt_11, eX3_headingAt_14, eX3_headingAt_15, eX3_headingAt_16, eX3_headingAt_19, eX3_headingAt_22, eX3_headingAt_24, ox_O_s, ox_B_s, ox_g_t, ox_A_s, ox_push_s, ox_push_n, ox_some, ox_z0, ox_z1, iI_lt, iI_eq, iI_add, iI_sub, ig_at, if_true, if_false, if_pos, if_neg, mO, hm]
def saF (X : ol) : Nat → Int → Int → Int
  | 0, _, _ => -9
  | k + 1, p, l => if p < X.1 0 then (if shX X p = true then (if l = 0 then ig (X.2 0) p else saF X k (p + 1) (l - 1)) else saF X k (p + 1) l) else -9
theorem k2_sa_loop {h : ox_H} {X : ol} {c : Int} {A : List Nat} {H I : Nat → ol} {K : List Int} {T U : ol} (hC : CS h X c A H I K T U) (s1 : vx X) (v1 : Value) : ∀ (k : Nat) (p l : Int), 0 ≤ p → p ≤ X.1 0 → X.1 0 - p < k → 0 ≤ l → l < 2147483648 → oe 66 10 [.ref 4, v1, .int (iI l), .int (iI p)] [] h = some (some (.int (iI (saF X k p l))), h) := by
  obtain ⟨f0, f1, f2, f3, f4, f5, f6, f7, f8, f9, f10, f11, f12, f13, f14, f15⟩ := CS_facts hC
  obtain ⟨b1, b2, b3, -⟩ := id hC
  have hn := s1.2.1
  have q0 := (oa_facts b3).2.1
  intro k
  induction k with
  | zero => intro p l a b c; omega
  | succ k ih =>
    intro p l a b cc d e
    rw [eX2_shownAt_10]
    unfold saF
    by_cases c1 : p < X.1 0
    · rw [if_pos c1]
      have hsh := k1_isShown b3 s1 a c1
      have hid := k1_idAt b3 s1 (p := p) (by omega) (by omega)
      rw [show idA X p = ig (X.2 0) p from if_pos ⟨a, c1⟩] at hid
      cases c2 : shX X p with
      | true =>
        rw [c2] at hsh
        rw [if_pos rfl]
        by_cases c3 : l = 0
        · rw [if_pos c3]
          simp (disch := omega) only [eX2_shownAt_0, eX2_shownAt_1, eX2_shownAt_4, eX2_shownAt_5, eX2_shownAt_6, eX2_shownAt_7, eX2_shownAt_8, eX2_shownAt_9, eX2_shownAt_11, eX2_shownAt_12, eX2_shownAt_15, eX2_shownAt_18, eX2_shownAt_21, eX2_shownAt_22, eX2_shownAt_25, eX2_shownAt_26, eX2_shownAt_29, eX2_shownAt_32, eX2_shownAt_33, eX2_shownAt_36, eX2_shownAt_37, eX2_shownAt_40, eX2_shownAt_41, eX2_shownAt_44, eX2_shownAt_45, eX2_shownAt_48, eX2_shownAt_51, eX2_shownAt_54, eX2_shownAt_56, ox_O_s, ox_B_s, ox_g_t, ox_A_s, ox_push_s, ox_push_n, ox_some, ox_z0, ox_z1, iI_lt, iI_eq, iI_add, iI_sub, ig_at, if_true, if_false, if_pos, if_neg, f0, f1, f2, f3, f4, f5, f6, f7, f8, f9, f10, f11, f12, f13, f14, f15, q0, hsh, hid, zb_t]
        · rw [if_neg c3]
          simp (disch := omega) only [eX2_shownAt_0, eX2_shownAt_1, eX2_shownAt_4, eX2_shownAt_5, eX2_shownAt_6, eX2_shownAt_7, eX2_shownAt_8, eX2_shownAt_9, eX2_shownAt_11, eX2_shownAt_12, eX2_shownAt_15, eX2_shownAt_18, eX2_shownAt_21, eX2_shownAt_22, eX2_shownAt_25, eX2_shownAt_26, eX2_shownAt_29, eX2_shownAt_32, eX2_shownAt_33, eX2_shownAt_36, eX2_shownAt_37, eX2_shownAt_40, eX2_shownAt_41, eX2_shownAt_44, eX2_shownAt_45, eX2_shownAt_48, eX2_shownAt_51, eX2_shownAt_54, eX2_shownAt_56, ox_O_s, ox_B_s, ox_g_t, ox_A_s, ox_push_s, ox_push_n, ox_some, ox_z0, ox_z1, iI_lt, iI_eq, iI_add, iI_sub, ig_at, if_true, if_false, if_pos, if_neg, f0, f1, f2, f3, f4, f5, f6, f7, f8, f9, f10, f11, f12, f13, f14, f15, q0, hsh, zb_t]
          exact ih (p + 1) (l - 1) (by omega) (by omega) (by omega) (by omega) (by omega)
      | false =>
        rw [c2] at hsh
        rw [if_neg (by decide)]
        simp (disch := omega) only [eX2_shownAt_0, eX2_shownAt_1, eX2_shownAt_4, eX2_shownAt_5, eX2_shownAt_6, eX2_shownAt_7, eX2_shownAt_8, eX2_shownAt_9, eX2_shownAt_11, eX2_shownAt_12, eX2_shownAt_15, eX2_shownAt_18, eX2_shownAt_21, eX2_shownAt_22, eX2_shownAt_25, eX2_shownAt_26, eX2_shownAt_29, eX2_shownAt_32, eX2_shownAt_33, eX2_shownAt_36, eX2_shownAt_37, eX2_shownAt_40, eX2_shownAt_41, eX2_shownAt_44, eX2_shownAt_45, eX2_shownAt_48, eX2_shownAt_51, eX2_shownAt_54, eX2_shownAt_56, ox_O_s, ox_B_s, ox_g_t, ox_A_s, ox_push_s, ox_push_n, ox_some, ox_z0, ox_z1, iI_lt, iI_eq, iI_add, iI_sub, ig_at, if_true, if_false, if_pos, if_neg, f0, f1, f2, f3, f4, f5, f6, f7, f8, f9, f10, f11, f12, f13, f14, f15, q0, hsh, zb_f]
        exact ih (p + 1) l (by omega) (by omega) (by omega) (by omega) (by omega)
    · rw [if_neg c1]
      simp (disch := omega) only [eX2_shownAt_0, eX2_shownAt_1, eX2_shownAt_4, eX2_shownAt_5, eX2_shownAt_6, eX2_shownAt_7, eX2_shownAt_8, eX2_shownAt_9, eX2_shownAt_11, eX2_shownAt_12, eX2_shownAt_15, eX2_shownAt_18, eX2_shownAt_21, eX2_shownAt_22, eX2_shownAt_25, eX2_shownAt_26, eX2_shownAt_29, eX2_shownAt_32, eX2_shownAt_33, eX2_shownAt_36, eX2_shownAt_37, eX2_shownAt_40, eX2_shownAt_41, eX2_shownAt_44, eX2_shownAt_45, eX2_shownAt_48, eX2_shownAt_51, eX2_shownAt_54, eX2_shownAt_56, ox_O_s, ox_B_s, ox_g_t, ox_A_s, ox_push_s, ox_push_n, ox_some, ox_z0, ox_z1, iI_lt, iI_eq, iI_add, iI_sub, ig_at, if_true, if_false, if_pos, if_neg, f0, f1, f2, f3, f4, f5, f6, f7, f8, f9, f10, f11, f12, f13, f14, f15, q0]
theorem k3_sa_loop {h : ox_H} {m : Nat} {X Y : ol} (hM : MA h m Y) (hR : Rel X (Y.2 0)) (hV : vx X) (v1 : Value) : ∀ (k : Nat) (p l : Int), 0 ≤ p → p ≤ X.1 0 → X.1 0 - p < k → 0 ≤ l → l < 2147483648 → oe 140 10 [.ref m, v1, .int (iI l), .int (iI p)] [] h = some (some (.int (iI (saF X k p l))), h) := by
  have hm := k3_many hM hR hV
  have mO := (ma_facts hM).1
  have hn := hV.2.1
  intro k
  induction k with
  | zero => intro p l a b c; omega
  | succ k ih =>
    intro p l a b cc d e
    rw [eX3_shownAt_10]
    unfold saF
    by_cases c1 : p < X.1 0
    · rw [if_pos c1]
      have hsh := k3_isShown hM hR hV a c1
      have hat := k3_at hM hR hV a c1
      cases c2 : shX X p with
      | true =>
        rw [c2] at hsh
        rw [if_pos rfl]
        by_cases c3 : l = 0
        · rw [if_pos c3]
          simp (disch := omega) only [eX3_shownAt_0, eX3_shownAt_1, eX3_shownAt_4, eX3_shownAt_5, eX3_shownAt_6, eX3_shownAt_7, eX3_shownAt_8, eX3_shownAt_9, eX3_shownAt_11, eX3_shownAt_12, eX3_shownAt_15, eX3_shownAt_18, eX3_shownAt_19, eX3_shownAt_20, eX3_shownAt_23, eX3_shownAt_26, eX3_shownAt_27, eX3_shownAt_30, eX3_shownAt_31, eX3_shownAt_32, eX3_shownAt_35, eX3_shownAt_36, eX3_shownAt_39, eX3_shownAt_42, eX3_shownAt_45, eX3_shownAt_47, ox_O_s, ox_B_s, ox_g_t, ox_A_s, ox_push_s, ox_push_n, ox_some, ox_z0, ox_z1, iI_lt, iI_eq, iI_add, iI_sub, ig_at, if_true, if_false, if_pos, if_neg, mO, hm, hsh, hat, zb_t]
        · rw [if_neg c3]
          simp (disch := omega) only [eX3_shownAt_0, eX3_shownAt_1, eX3_shownAt_4, eX3_shownAt_5, eX3_shownAt_6, eX3_shownAt_7, eX3_shownAt_8, eX3_shownAt_9, eX3_shownAt_11, eX3_shownAt_12, eX3_shownAt_15, eX3_shownAt_18, eX3_shownAt_19, eX3_shownAt_20, eX3_shownAt_23, eX3_shownAt_26, eX3_shownAt_27, eX3_shownAt_30, eX3_shownAt_31, eX3_shownAt_32, eX3_shownAt_35, eX3_shownAt_36, eX3_shownAt_39, eX3_shownAt_42, eX3_shownAt_45, eX3_shownAt_47, ox_O_s, ox_B_s, ox_g_t, ox_A_s, ox_push_s, ox_push_n, ox_some, ox_z0, ox_z1, iI_lt, iI_eq, iI_add, iI_sub, ig_at, if_true, if_false, if_pos, if_neg, mO, hm, hsh, zb_t]
          exact ih (p + 1) (l - 1) (by omega) (by omega) (by omega) (by omega) (by omega)
      | false =>
        rw [c2] at hsh
        rw [if_neg (by decide)]
        simp (disch := omega) only [eX3_shownAt_0, eX3_shownAt_1, eX3_shownAt_4, eX3_shownAt_5, eX3_shownAt_6, eX3_shownAt_7, eX3_shownAt_8, eX3_shownAt_9, eX3_shownAt_11, eX3_shownAt_12, eX3_shownAt_15, eX3_shownAt_18, eX3_shownAt_19, eX3_shownAt_20, eX3_shownAt_23, eX3_shownAt_26, eX3_shownAt_27, eX3_shownAt_30, eX3_shownAt_31, eX3_shownAt_32, eX3_shownAt_35, eX3_shownAt_36, eX3_shownAt_39, eX3_shownAt_42, eX3_shownAt_45, eX3_shownAt_47, ox_O_s, ox_B_s, ox_g_t, ox_A_s, ox_push_s, ox_push_n, ox_some, ox_z0, ox_z1, iI_lt, iI_eq, iI_add, iI_sub, ig_at, if_true, if_false, if_pos, if_neg, mO, hm, hsh, zb_f]
        exact ih (p + 1) l (by omega) (by omega) (by omega) (by omega) (by omega)
    · rw [if_neg c1]
      simp (disch := omega) only [eX3_shownAt_0, eX3_shownAt_1, eX3_shownAt_4, eX3_shownAt_5, eX3_shownAt_6, eX3_shownAt_7, eX3_shownAt_8, eX3_shownAt_9, eX3_shownAt_11, eX3_shownAt_12, eX3_shownAt_15, eX3_shownAt_18, eX3_shownAt_19, eX3_shownAt_20, eX3_shownAt_23, eX3_shownAt_26, eX3_shownAt_27, eX3_shownAt_30, eX3_shownAt_31, eX3_shownAt_32, eX3_shownAt_35, eX3_shownAt_36, eX3_shownAt_39, eX3_shownAt_42, eX3_shownAt_45, eX3_shownAt_47, ox_O_s, ox_B_s, ox_g_t, ox_A_s, ox_push_s, ox_push_n, ox_some, ox_z0, ox_z1, iI_lt, iI_eq, iI_add, iI_sub, ig_at, if_true, if_false, if_pos, if_neg, mO, hm]
theorem st_shownAt {xs : List Int32} {h : ox_H} (hS : Sm xs h) (a : Int32) : ST xs h (fun h => oe 66 0 [.ref 4, .int a, .null, .null] [] h) (fun h => oe 140 0 [.ref 133, .int a, .null, .null] [] h) := by
  obtain ⟨X, c, A, H, I, K, T, U, Y, h0, hC, hM, hR⟩ := sm_parts hS
  obtain ⟨s1, s2, s3, s4, s5, -⟩ := id hR
  obtain ⟨b1, b2, b3, -⟩ := id hC
  have hw : (Y.2 0).length = 218 := s2.1
  obtain ⟨f0, f1, f2, f3, f4, f5, f6, f7, f8, f9, f10, f11, f12, f13, f14, f15⟩ := CS_facts hC
  have mO := (ma_facts hM).1
  obtain ⟨z, rfl, z0, z1⟩ := iI_ex a
  have hn := s1.2.1
  by_cases q : z < 0
  · refine ST_same (v := iI (-1)) hS ?_ ?_
    · simp (disch := omega) only [eX2_shownAt_0, eX2_shownAt_1, eX2_shownAt_4, eX2_shownAt_5, eX2_shownAt_6, eX2_shownAt_7, eX2_shownAt_8, eX2_shownAt_9, eX2_shownAt_11, eX2_shownAt_12, eX2_shownAt_15, eX2_shownAt_18, eX2_shownAt_21, eX2_shownAt_22, eX2_shownAt_25, eX2_shownAt_26, eX2_shownAt_29, eX2_shownAt_32, eX2_shownAt_33, eX2_shownAt_36, eX2_shownAt_37, eX2_shownAt_40, eX2_shownAt_41, eX2_shownAt_44, eX2_shownAt_45, eX2_shownAt_48, eX2_shownAt_51, eX2_shownAt_54, eX2_shownAt_56, ox_O_s, ox_B_s, ox_g_t, ox_A_s, ox_push_s, ox_push_n, ox_some, ox_z0, ox_z1, iI_lt, iI_eq, iI_add, iI_sub, ig_at, if_true, if_false, if_pos, if_neg, f0, f1, f2, f3, f4, f5, f6, f7, f8, f9, f10, f11, f12, f13, f14, f15]
    · simp (disch := omega) only [eX3_shownAt_0, eX3_shownAt_1, eX3_shownAt_4, eX3_shownAt_5, eX3_shownAt_6, eX3_shownAt_7, eX3_shownAt_8, eX3_shownAt_9, eX3_shownAt_11, eX3_shownAt_12, eX3_shownAt_15, eX3_shownAt_18, eX3_shownAt_19, eX3_shownAt_20, eX3_shownAt_23, eX3_shownAt_26, eX3_shownAt_27, eX3_shownAt_30, eX3_shownAt_31, eX3_shownAt_32, eX3_shownAt_35, eX3_shownAt_36, eX3_shownAt_39, eX3_shownAt_42, eX3_shownAt_45, eX3_shownAt_47, ox_O_s, ox_B_s, ox_g_t, ox_A_s, ox_push_s, ox_push_n, ox_some, ox_z0, ox_z1, iI_lt, iI_eq, iI_add, iI_sub, ig_at, if_true, if_false, if_pos, if_neg, mO]
  · have k1 := k2_sa_loop hC s1 (.int (iI z)) 31 0 z (by omega) (by omega) (by omega) (by omega) (by omega)
    have k3 := k3_sa_loop hM s2 s1 (.int (iI z)) 31 0 z (by omega) (by omega) (by omega) (by omega) (by omega)
    refine ST_same (v := iI (saF X 31 0 z)) hS ?_ ?_
    · simp (disch := omega) only [eX2_shownAt_0, eX2_shownAt_1, eX2_shownAt_4, eX2_shownAt_5, eX2_shownAt_6, eX2_shownAt_7, eX2_shownAt_8, eX2_shownAt_9, eX2_shownAt_11, eX2_shownAt_12, eX2_shownAt_15, eX2_shownAt_18, eX2_shownAt_21, eX2_shownAt_22, eX2_shownAt_25, eX2_shownAt_26, eX2_shownAt_29, eX2_shownAt_32, eX2_shownAt_33, eX2_shownAt_36, eX2_shownAt_37, eX2_shownAt_40, eX2_shownAt_41, eX2_shownAt_44, eX2_shownAt_45, eX2_shownAt_48, eX2_shownAt_51, eX2_shownAt_54, eX2_shownAt_56, ox_O_s, ox_B_s, ox_g_t, ox_A_s, ox_push_s, ox_push_n, ox_some, ox_z0, ox_z1, iI_lt, iI_eq, iI_add, iI_sub, ig_at, if_true, if_false, if_pos, if_neg, f0, f1, f2, f3, f4, f5, f6, f7, f8, f9, f10, f11, f12, f13, f14, f15]
      exact k1
    · simp (disch := omega) only [eX3_shownAt_0, eX3_shownAt_1, eX3_shownAt_4, eX3_shownAt_5, eX3_shownAt_6, eX3_shownAt_7, eX3_shownAt_8, eX3_shownAt_9, eX3_shownAt_11, eX3_shownAt_12, eX3_shownAt_15, eX3_shownAt_18, eX3_shownAt_19, eX3_shownAt_20, eX3_shownAt_23, eX3_shownAt_26, eX3_shownAt_27, eX3_shownAt_30, eX3_shownAt_31, eX3_shownAt_32, eX3_shownAt_35, eX3_shownAt_36, eX3_shownAt_39, eX3_shownAt_42, eX3_shownAt_45, eX3_shownAt_47, ox_O_s, ox_B_s, ox_g_t, ox_A_s, ox_push_s, ox_push_n, ox_some, ox_z0, ox_z1, iI_lt, iI_eq, iI_add, iI_sub, ig_at, if_true, if_false, if_pos, if_neg, mO]
      exact k3
theorem st_child {xs : List Int32} {h : ox_H} (hS : Sm xs h) (a b : Int32) : ST xs h (fun h => oe 68 0 [.ref 4, .int a, .int b, .null] [] h) (fun h => oe 146 0 [.ref 133, .int a, .int b] [] h) := by
  obtain ⟨X, c, A, H, I, K, T, U, Y, h0, hC, hM, hR⟩ := sm_parts hS
  obtain ⟨s1, s2, s3, s4, s5, -⟩ := id hR
  obtain ⟨b1, b2, b3, -⟩ := id hC
  have hw : (Y.2 0).length = 218 := s2.1
  obtain ⟨f0, f1, f2, f3, f4, f5, f6, f7, f8, f9, f10, f11, f12, f13, f14, f15⟩ := CS_facts hC
  have mO := (ma_facts hM).1
  obtain ⟨z, rfl, z0, z1⟩ := iI_ex a
  obtain ⟨v, rfl, v0, v1⟩ := iI_ex b
  have hn := s1.2.1
  rcases ol_find X z with ⟨p, p0, p1, rfl⟩ | hz
  · have hpl := k1_placeOf1 b3 s1 p0 p1
    have ho := s1.2.2.1 p p0 p1
    have hhd := k3_isHeading1 hM s2 s1 p0 p1
    have hpl3 := k3_placeOf1 hM s2 s1 p0 p1
    by_cases q : v < 0
    · refine ST_same (v := iI (-1)) hS ?_ ?_
      · simp (disch := omega) only [eX2_child_0, eX2_child_1, eX2_child_4, eX2_child_5, eX2_child_8, eX2_child_9, eX2_child_10, eX2_child_13, eX2_child_14, eX2_child_15, eX2_child_18, eX2_child_19, eX2_child_22, eX2_child_23, eX2_child_24, eX2_child_25, eX2_child_28, eX2_child_29, eX2_child_32, eX2_child_33, eX2_child_34, eX2_child_37, eX2_child_40, ox_O_s, ox_B_s, ox_g_t, ox_A_s, ox_push_s, ox_push_n, ox_some, ox_z0, ox_z1, iI_lt, iI_eq, iI_add, iI_sub, ig_at, if_true, if_false, if_pos, if_neg, f0, f1, f2, f3, f4, f5, f6, f7, f8, f9, f10, f11, f12, f13, f14, f15, hpl]
      · simp (disch := omega) only [eX3_child_0, eX3_child_1, eX3_child_2, eX3_child_5, eX3_child_6, eX3_child_7, eX3_child_10, eX3_child_13, eX3_child_14, eX3_child_17, eX3_child_18, eX3_child_19, eX3_child_20, eX3_child_21, eX3_child_22, eX3_child_25, eX3_child_26, eX3_child_29, eX3_child_30, eX3_child_31, eX3_child_34, eX3_child_35, eX3_child_38, ox_O_s, ox_B_s, ox_g_t, ox_A_s, ox_push_s, ox_push_n, ox_some, ox_z0, ox_z1, iI_lt, iI_eq, iI_add, iI_sub, ig_at, if_true, if_false, if_pos, if_neg, mO, hhd]
    · have hc := k1_childPlace b3 s1 (p := p) (k := v) (by omega) p1 (by omega) v1
      have hcb : -1 ≤ chX X p v ∧ chX X p v < 2147483648 := by
        by_cases e : chX X p v = -1
        · omega
        · have := chX_in (show -1 ≤ p by omega) (show 0 ≤ v by omega) e
          omega
      have hi := k1_idAt b3 s1 (p := chX X p v) (by omega) (by omega)
      have hc3 := k3_childOf hM s2 s1 (p := p) (k := v) (by omega) p1 (by omega) v1
      refine ST_same (v := iI (idA X (chX X p v))) hS ?_ ?_
      · simp (disch := omega) only [eX2_child_0, eX2_child_1, eX2_child_4, eX2_child_5, eX2_child_8, eX2_child_9, eX2_child_10, eX2_child_13, eX2_child_14, eX2_child_15, eX2_child_18, eX2_child_19, eX2_child_22, eX2_child_23, eX2_child_24, eX2_child_25, eX2_child_28, eX2_child_29, eX2_child_32, eX2_child_33, eX2_child_34, eX2_child_37, eX2_child_40, ox_O_s, ox_B_s, ox_g_t, ox_A_s, ox_push_s, ox_push_n, ox_some, ox_z0, ox_z1, iI_lt, iI_eq, iI_add, iI_sub, ig_at, if_true, if_false, if_pos, if_neg, f0, f1, f2, f3, f4, f5, f6, f7, f8, f9, f10, f11, f12, f13, f14, f15, hpl, hc, hi]
      · simp (disch := omega) only [eX3_child_0, eX3_child_1, eX3_child_2, eX3_child_5, eX3_child_6, eX3_child_7, eX3_child_10, eX3_child_13, eX3_child_14, eX3_child_17, eX3_child_18, eX3_child_19, eX3_child_20, eX3_child_21, eX3_child_22, eX3_child_25, eX3_child_26, eX3_child_29, eX3_child_30, eX3_child_31, eX3_child_34, eX3_child_35, eX3_child_38, ox_O_s, ox_B_s, ox_g_t, ox_A_s, ox_push_s, ox_push_n, ox_some, ox_z0, ox_z1, iI_lt, iI_eq, iI_add, iI_sub, ig_at, if_true, if_false, if_pos, if_neg, mO, hhd, hpl3, hc3]
  · have hpl := k1_placeOf0 b3 s1 z0 z1 hz
    have hhd := k3_isHeading0 hM s2 s1 z0 z1 hz
    by_cases q1 : z = -1
    · subst q1
      by_cases q : v < 0
      · refine ST_same (v := iI (-1)) hS ?_ ?_
        · simp (disch := omega) only [eX2_child_0, eX2_child_1, eX2_child_4, eX2_child_5, eX2_child_8, eX2_child_9, eX2_child_10, eX2_child_13, eX2_child_14, eX2_child_15, eX2_child_18, eX2_child_19, eX2_child_22, eX2_child_23, eX2_child_24, eX2_child_25, eX2_child_28, eX2_child_29, eX2_child_32, eX2_child_33, eX2_child_34, eX2_child_37, eX2_child_40, ox_O_s, ox_B_s, ox_g_t, ox_A_s, ox_push_s, ox_push_n, ox_some, ox_z0, ox_z1, iI_lt, iI_eq, iI_add, iI_sub, ig_at, if_true, if_false, if_pos, if_neg, f0, f1, f2, f3, f4, f5, f6, f7, f8, f9, f10, f11, f12, f13, f14, f15, hpl]
        · simp (disch := omega) only [eX3_child_0, eX3_child_1, eX3_child_2, eX3_child_5, eX3_child_6, eX3_child_7, eX3_child_10, eX3_child_13, eX3_child_14, eX3_child_17, eX3_child_18, eX3_child_19, eX3_child_20, eX3_child_21, eX3_child_22, eX3_child_25, eX3_child_26, eX3_child_29, eX3_child_30, eX3_child_31, eX3_child_34, eX3_child_35, eX3_child_38, ox_O_s, ox_B_s, ox_g_t, ox_A_s, ox_push_s, ox_push_n, ox_some, ox_z0, ox_z1, iI_lt, iI_eq, iI_add, iI_sub, ig_at, if_true, if_false, if_pos, if_neg, mO]
      · have hc := k1_childPlace b3 s1 (p := -1) (k := v) (by omega) (by omega) (by omega) v1
        have hcb : -1 ≤ chX X (-1) v ∧ chX X (-1) v < 2147483648 := by
          by_cases e : chX X (-1) v = -1
          · omega
          · have := chX_in (show -1 ≤ (-1 : Int) by omega) (show 0 ≤ v by omega) e
            omega
        have hi := k1_idAt b3 s1 (p := chX X (-1) v) (by omega) (by omega)
        have hc3 := k3_childOf hM s2 s1 (p := -1) (k := v) (by omega) (by omega) (by omega) v1
        refine ST_same (v := iI (idA X (chX X (-1) v))) hS ?_ ?_
        · simp (disch := omega) only [eX2_child_0, eX2_child_1, eX2_child_4, eX2_child_5, eX2_child_8, eX2_child_9, eX2_child_10, eX2_child_13, eX2_child_14, eX2_child_15, eX2_child_18, eX2_child_19, eX2_child_22, eX2_child_23, eX2_child_24, eX2_child_25, eX2_child_28, eX2_child_29, eX2_child_32, eX2_child_33, eX2_child_34, eX2_child_37, eX2_child_40, ox_O_s, ox_B_s, ox_g_t, ox_A_s, ox_push_s, ox_push_n, ox_some, ox_z0, ox_z1, iI_lt, iI_eq, iI_add, iI_sub, ig_at, if_true, if_false, if_pos, if_neg, f0, f1, f2, f3, f4, f5, f6, f7, f8, f9, f10, f11, f12, f13, f14, f15, hpl, hc, hi]
        · simp (disch := omega) only [eX3_child_0, eX3_child_1, eX3_child_2, eX3_child_5, eX3_child_6, eX3_child_7, eX3_child_10, eX3_child_13, eX3_child_14, eX3_child_17, eX3_child_18, eX3_child_19, eX3_child_20, eX3_child_21, eX3_child_22, eX3_child_25, eX3_child_26, eX3_child_29, eX3_child_30, eX3_child_31, eX3_child_34, eX3_child_35, eX3_child_38, ox_O_s, ox_B_s, ox_g_t, ox_A_s, ox_push_s, ox_push_n, ox_some, ox_z0, ox_z1, iI_lt, iI_eq, iI_add, iI_sub, ig_at, if_true, if_false, if_pos, if_neg, mO, hc3]
    · refine ST_same (v := iI (-1)) hS ?_ ?_
      · simp (disch := omega) only [eX2_child_0, eX2_child_1, eX2_child_4, eX2_child_5, eX2_child_8, eX2_child_9, eX2_child_10, eX2_child_13, eX2_child_14, eX2_child_15, eX2_child_18, eX2_child_19, eX2_child_22, eX2_child_23, eX2_child_24, eX2_child_25, eX2_child_28, eX2_child_29, eX2_child_32, eX2_child_33, eX2_child_34, eX2_child_37, eX2_child_40, ox_O_s, ox_B_s, ox_g_t, ox_A_s, ox_push_s, ox_push_n, ox_some, ox_z0, ox_z1, iI_lt, iI_eq, iI_add, iI_sub, ig_at, if_true, if_false, if_pos, if_neg, f0, f1, f2, f3, f4, f5, f6, f7, f8, f9, f10, f11, f12, f13, f14, f15, hpl]
      · simp (disch := omega) only [eX3_child_0, eX3_child_1, eX3_child_2, eX3_child_5, eX3_child_6, eX3_child_7, eX3_child_10, eX3_child_13, eX3_child_14, eX3_child_17, eX3_child_18, eX3_child_19, eX3_child_20, eX3_child_21, eX3_child_22, eX3_child_25, eX3_child_26, eX3_child_29, eX3_child_30, eX3_child_31, eX3_child_34, eX3_child_35, eX3_child_38, ox_O_s, ox_B_s, ox_g_t, ox_A_s, ox_push_s, ox_push_n, ox_some, ox_z0, ox_z1, iI_lt, iI_eq, iI_add, iI_sub, ig_at, if_true, if_false, if_pos, if_neg, mO, hhd]
theorem st_told {xs : List Int32} {h : ox_H} (hS : Sm xs h) (a : Int32) : ST xs h (fun h => oe 64 0 [.ref 4, .int a] [] h) (fun h => oe 138 0 [.ref 133, .int a] [] h) := by
  obtain ⟨X, c, A, H, I, K, T, U, Y, h0, hC, hM, hR⟩ := sm_parts hS
  obtain ⟨s1, s2, s3, s4, s5, -⟩ := id hR
  obtain ⟨b1, b2, b3, -⟩ := id hC
  have hw : (Y.2 0).length = 218 := s2.1
  obtain ⟨f0, f1, f2, f3, f4, f5, f6, f7, f8, f9, f10, f11, f12, f13, f14, f15⟩ := CS_facts hC
  have mO := (ma_facts hM).1
  obtain ⟨z, rfl, z0, z1⟩ := iI_ex a
  have hn := s1.2.1
  obtain ⟨-, -, -, -, -, s6, s7, s8, s9, s10, s11, s12, s13, s14, s15⟩ := id hR
  obtain ⟨mO, m0, m1, m2, m3, m4, m5, m6, m7, m8, m9, mi0, mi1, mi2, mi3, mi4, mi5, mj0, mj1, mj2, mj3, mj4, mj5⟩ := ma_facts hM
  obtain ⟨gO, g0, g1, g2, g3, g4, g5, g6, g7, g8, g9, g10, g11, g12, gi0, gi1, gi2, gi3, gi4, gi5, gi6, gi7, gi8, gi9, gj0, gj1, gj2, gj3, gj4, gj5, gj6, gj7, gj8, gj9⟩ := oa_facts b3
  have hm := k3_many hM s2 s1
  obtain ⟨rl, r0, r1, r2, r3, r4, r5, r6, r7, r8⟩ := id s2
  by_cases q : z < 0 ∨ 9 < z
  · have d1 := eX2_told_1_d (v0 := .ref 4) (v1 := .int (iI z)) (x := iI z) (st := []) (h := h) (by rw [iI_toInt z0 z1]; exact q)
    have d3 := eX3_told_1_d (v0 := .ref 133) (v1 := .int (iI z)) (x := iI z) (st := []) (h := h) (by rw [iI_toInt z0 z1]; exact q)
    refine ST_same (v := iI (-1)) hS ?_ ?_
    · simp (disch := omega) only [eX2_told_0, eX2_told_1_k0, eX2_told_1_k1, eX2_told_1_k2, eX2_told_1_k3, eX2_told_1_k4, eX2_told_1_k5, eX2_told_1_k6, eX2_told_1_k7, eX2_told_1_k8, eX2_told_1_k9, eX2_told_56, eX2_told_57, eX2_told_60, eX2_told_63, eX2_told_64, eX2_told_65, eX2_told_68, eX2_told_71, eX2_told_72, eX2_told_73, eX2_told_76, eX2_told_78, eX2_told_81, eX2_told_82, eX2_told_83, eX2_told_86, eX2_told_89, eX2_told_90, eX2_told_91, eX2_told_94, eX2_told_97, eX2_told_98, eX2_told_99, eX2_told_102, eX2_told_103, eX2_told_104, eX2_told_107, eX2_told_110, eX2_told_113, eX2_told_114, eX2_told_115, eX2_told_118, eX2_told_121, eX2_told_122, eX2_told_123, eX2_told_126, eX2_told_127, eX2_told_128, eX2_told_131, eX2_told_134, eX2_told_135, eX2_told_136, eX2_told_139, eX2_told_142, eX2_told_143, eX2_told_144, ox_O_s, ox_B_s, ox_g_t, ox_A_s, ox_push_s, ox_push_n, ox_some, ox_z0, ox_z1, iI_lt, iI_eq, iI_add, iI_sub, ig_at, if_true, if_false, if_pos, if_neg, d1]
    · simp (disch := omega) only [eX3_told_0, eX3_told_1_k0, eX3_told_1_k1, eX3_told_1_k2, eX3_told_1_k3, eX3_told_1_k4, eX3_told_1_k5, eX3_told_1_k6, eX3_told_1_k7, eX3_told_1_k8, eX3_told_1_k9, eX3_told_56, eX3_told_57, eX3_told_60, eX3_told_61, eX3_told_62, eX3_told_65, eX3_told_68, eX3_told_69, eX3_told_70, eX3_told_71, eX3_told_74, eX3_told_75, eX3_told_76, eX3_told_77, eX3_told_80, eX3_told_81, eX3_told_82, eX3_told_85, eX3_told_88, eX3_told_89, eX3_told_90, eX3_told_91, eX3_told_94, eX3_told_95, eX3_told_96, eX3_told_99, eX3_told_100, eX3_told_101, ox_O_s, ox_B_s, ox_g_t, ox_A_s, ox_push_s, ox_push_n, ox_some, ox_z0, ox_z1, iI_lt, iI_eq, iI_add, iI_sub, ig_at, if_true, if_false, if_pos, if_neg, d3]
  · have hcases : z = 0 ∨ z = 1 ∨ z = 2 ∨ z = 3 ∨ z = 4 ∨ z = 5 ∨ z = 6 ∨ z = 7 ∨ z = 8 ∨ z = 9 := by omega
    rcases hcases with rfl | rfl | rfl | rfl | rfl | rfl | rfl | rfl | rfl | rfl
    · refine ST_same (v := iI (X.1 0)) hS ?_ ?_
      · simp (disch := omega) only [eX2_told_0, eX2_told_1_k0, eX2_told_1_k1, eX2_told_1_k2, eX2_told_1_k3, eX2_told_1_k4, eX2_told_1_k5, eX2_told_1_k6, eX2_told_1_k7, eX2_told_1_k8, eX2_told_1_k9, eX2_told_56, eX2_told_57, eX2_told_60, eX2_told_63, eX2_told_64, eX2_told_65, eX2_told_68, eX2_told_71, eX2_told_72, eX2_told_73, eX2_told_76, eX2_told_78, eX2_told_81, eX2_told_82, eX2_told_83, eX2_told_86, eX2_told_89, eX2_told_90, eX2_told_91, eX2_told_94, eX2_told_97, eX2_told_98, eX2_told_99, eX2_told_102, eX2_told_103, eX2_told_104, eX2_told_107, eX2_told_110, eX2_told_113, eX2_told_114, eX2_told_115, eX2_told_118, eX2_told_121, eX2_told_122, eX2_told_123, eX2_told_126, eX2_told_127, eX2_told_128, eX2_told_131, eX2_told_134, eX2_told_135, eX2_told_136, eX2_told_139, eX2_told_142, eX2_told_143, eX2_told_144, ox_O_s, ox_B_s, ox_g_t, ox_A_s, ox_push_s, ox_push_n, ox_some, ox_z0, ox_z1, iI_lt, iI_eq, iI_add, iI_sub, ig_at, if_true, if_false, if_pos, if_neg, f0, f1, f2, f3, f4, f5, f6, f7, f8, f9, f10, f11, f12, f13, f14, f15, g0]
      · simp (disch := omega) only [eX3_told_0, eX3_told_1_k0, eX3_told_1_k1, eX3_told_1_k2, eX3_told_1_k3, eX3_told_1_k4, eX3_told_1_k5, eX3_told_1_k6, eX3_told_1_k7, eX3_told_1_k8, eX3_told_1_k9, eX3_told_56, eX3_told_57, eX3_told_60, eX3_told_61, eX3_told_62, eX3_told_65, eX3_told_68, eX3_told_69, eX3_told_70, eX3_told_71, eX3_told_74, eX3_told_75, eX3_told_76, eX3_told_77, eX3_told_80, eX3_told_81, eX3_told_82, eX3_told_85, eX3_told_88, eX3_told_89, eX3_told_90, eX3_told_91, eX3_told_94, eX3_told_95, eX3_told_96, eX3_told_99, eX3_told_100, eX3_told_101, ox_O_s, ox_B_s, ox_g_t, ox_A_s, ox_push_s, ox_push_n, ox_some, ox_z0, ox_z1, iI_lt, iI_eq, iI_add, iI_sub, ig_at, if_true, if_false, if_pos, if_neg, mO, m0, m1, m2, m3, m4, m5, m6, m7, m8, m9, mi0, mi1, mi2, mi3, mi4, mi5, mj0, mj1, mj2, mj3, mj4, mj5, hm]
    · refine ST_same (v := iI (X.1 2)) hS ?_ ?_
      · simp (disch := omega) only [eX2_told_0, eX2_told_1_k0, eX2_told_1_k1, eX2_told_1_k2, eX2_told_1_k3, eX2_told_1_k4, eX2_told_1_k5, eX2_told_1_k6, eX2_told_1_k7, eX2_told_1_k8, eX2_told_1_k9, eX2_told_56, eX2_told_57, eX2_told_60, eX2_told_63, eX2_told_64, eX2_told_65, eX2_told_68, eX2_told_71, eX2_told_72, eX2_told_73, eX2_told_76, eX2_told_78, eX2_told_81, eX2_told_82, eX2_told_83, eX2_told_86, eX2_told_89, eX2_told_90, eX2_told_91, eX2_told_94, eX2_told_97, eX2_told_98, eX2_told_99, eX2_told_102, eX2_told_103, eX2_told_104, eX2_told_107, eX2_told_110, eX2_told_113, eX2_told_114, eX2_told_115, eX2_told_118, eX2_told_121, eX2_told_122, eX2_told_123, eX2_told_126, eX2_told_127, eX2_told_128, eX2_told_131, eX2_told_134, eX2_told_135, eX2_told_136, eX2_told_139, eX2_told_142, eX2_told_143, eX2_told_144, ox_O_s, ox_B_s, ox_g_t, ox_A_s, ox_push_s, ox_push_n, ox_some, ox_z0, ox_z1, iI_lt, iI_eq, iI_add, iI_sub, ig_at, if_true, if_false, if_pos, if_neg, f0, f1, f2, f3, f4, f5, f6, f7, f8, f9, f10, f11, f12, f13, f14, f15, g10]
      · simp (disch := omega) only [eX3_told_0, eX3_told_1_k0, eX3_told_1_k1, eX3_told_1_k2, eX3_told_1_k3, eX3_told_1_k4, eX3_told_1_k5, eX3_told_1_k6, eX3_told_1_k7, eX3_told_1_k8, eX3_told_1_k9, eX3_told_56, eX3_told_57, eX3_told_60, eX3_told_61, eX3_told_62, eX3_told_65, eX3_told_68, eX3_told_69, eX3_told_70, eX3_told_71, eX3_told_74, eX3_told_75, eX3_told_76, eX3_told_77, eX3_told_80, eX3_told_81, eX3_told_82, eX3_told_85, eX3_told_88, eX3_told_89, eX3_told_90, eX3_told_91, eX3_told_94, eX3_told_95, eX3_told_96, eX3_told_99, eX3_told_100, eX3_told_101, ox_O_s, ox_B_s, ox_g_t, ox_A_s, ox_push_s, ox_push_n, ox_some, ox_z0, ox_z1, iI_lt, iI_eq, iI_add, iI_sub, ig_at, if_true, if_false, if_pos, if_neg, mO, m0, m1, m2, m3, m4, m5, m6, m7, m8, m9, mi0, mi1, mi2, mi3, mi4, mi5, mj0, mj1, mj2, mj3, mj4, mj5, r6]
    · have h1 := k1_referencesTo b3 s1 (t := -9) (by omega) (by omega)
      have h3 := k3_brokenOnes hM s2 s1
      refine ST_same (v := iI (rtX X (-9))) hS ?_ ?_
      · simp (disch := omega) only [eX2_told_0, eX2_told_1_k0, eX2_told_1_k1, eX2_told_1_k2, eX2_told_1_k3, eX2_told_1_k4, eX2_told_1_k5, eX2_told_1_k6, eX2_told_1_k7, eX2_told_1_k8, eX2_told_1_k9, eX2_told_56, eX2_told_57, eX2_told_60, eX2_told_63, eX2_told_64, eX2_told_65, eX2_told_68, eX2_told_71, eX2_told_72, eX2_told_73, eX2_told_76, eX2_told_78, eX2_told_81, eX2_told_82, eX2_told_83, eX2_told_86, eX2_told_89, eX2_told_90, eX2_told_91, eX2_told_94, eX2_told_97, eX2_told_98, eX2_told_99, eX2_told_102, eX2_told_103, eX2_told_104, eX2_told_107, eX2_told_110, eX2_told_113, eX2_told_114, eX2_told_115, eX2_told_118, eX2_told_121, eX2_told_122, eX2_told_123, eX2_told_126, eX2_told_127, eX2_told_128, eX2_told_131, eX2_told_134, eX2_told_135, eX2_told_136, eX2_told_139, eX2_told_142, eX2_told_143, eX2_told_144, ox_O_s, ox_B_s, ox_g_t, ox_A_s, ox_push_s, ox_push_n, ox_some, ox_z0, ox_z1, iI_lt, iI_eq, iI_add, iI_sub, ig_at, if_true, if_false, if_pos, if_neg, f0, f1, f2, f3, f4, f5, f6, f7, f8, f9, f10, f11, f12, f13, f14, f15, h1]
      · simp (disch := omega) only [eX3_told_0, eX3_told_1_k0, eX3_told_1_k1, eX3_told_1_k2, eX3_told_1_k3, eX3_told_1_k4, eX3_told_1_k5, eX3_told_1_k6, eX3_told_1_k7, eX3_told_1_k8, eX3_told_1_k9, eX3_told_56, eX3_told_57, eX3_told_60, eX3_told_61, eX3_told_62, eX3_told_65, eX3_told_68, eX3_told_69, eX3_told_70, eX3_told_71, eX3_told_74, eX3_told_75, eX3_told_76, eX3_told_77, eX3_told_80, eX3_told_81, eX3_told_82, eX3_told_85, eX3_told_88, eX3_told_89, eX3_told_90, eX3_told_91, eX3_told_94, eX3_told_95, eX3_told_96, eX3_told_99, eX3_told_100, eX3_told_101, ox_O_s, ox_B_s, ox_g_t, ox_A_s, ox_push_s, ox_push_n, ox_some, ox_z0, ox_z1, iI_lt, iI_eq, iI_add, iI_sub, ig_at, if_true, if_false, if_pos, if_neg, mO, h3]
    · have h1 := k1_countOpen b3 s1
      have h3 := k3_headings hM s2 s1 (w := 3) (by omega) (by omega)
      rw [if_neg (by omega), show hdP X 3 = opX X from if_pos rfl] at h3
      refine ST_same (v := iI (cnF (opX X) (X.1 0) 31 0 0)) hS ?_ ?_
      · simp (disch := omega) only [eX2_told_0, eX2_told_1_k0, eX2_told_1_k1, eX2_told_1_k2, eX2_told_1_k3, eX2_told_1_k4, eX2_told_1_k5, eX2_told_1_k6, eX2_told_1_k7, eX2_told_1_k8, eX2_told_1_k9, eX2_told_56, eX2_told_57, eX2_told_60, eX2_told_63, eX2_told_64, eX2_told_65, eX2_told_68, eX2_told_71, eX2_told_72, eX2_told_73, eX2_told_76, eX2_told_78, eX2_told_81, eX2_told_82, eX2_told_83, eX2_told_86, eX2_told_89, eX2_told_90, eX2_told_91, eX2_told_94, eX2_told_97, eX2_told_98, eX2_told_99, eX2_told_102, eX2_told_103, eX2_told_104, eX2_told_107, eX2_told_110, eX2_told_113, eX2_told_114, eX2_told_115, eX2_told_118, eX2_told_121, eX2_told_122, eX2_told_123, eX2_told_126, eX2_told_127, eX2_told_128, eX2_told_131, eX2_told_134, eX2_told_135, eX2_told_136, eX2_told_139, eX2_told_142, eX2_told_143, eX2_told_144, ox_O_s, ox_B_s, ox_g_t, ox_A_s, ox_push_s, ox_push_n, ox_some, ox_z0, ox_z1, iI_lt, iI_eq, iI_add, iI_sub, ig_at, if_true, if_false, if_pos, if_neg, f0, f1, f2, f3, f4, f5, f6, f7, f8, f9, f10, f11, f12, f13, f14, f15, h1]
      · simp (disch := omega) only [eX3_told_0, eX3_told_1_k0, eX3_told_1_k1, eX3_told_1_k2, eX3_told_1_k3, eX3_told_1_k4, eX3_told_1_k5, eX3_told_1_k6, eX3_told_1_k7, eX3_told_1_k8, eX3_told_1_k9, eX3_told_56, eX3_told_57, eX3_told_60, eX3_told_61, eX3_told_62, eX3_told_65, eX3_told_68, eX3_told_69, eX3_told_70, eX3_told_71, eX3_told_74, eX3_told_75, eX3_told_76, eX3_told_77, eX3_told_80, eX3_told_81, eX3_told_82, eX3_told_85, eX3_told_88, eX3_told_89, eX3_told_90, eX3_told_91, eX3_told_94, eX3_told_95, eX3_told_96, eX3_told_99, eX3_told_100, eX3_told_101, ox_O_s, ox_B_s, ox_g_t, ox_A_s, ox_push_s, ox_push_n, ox_some, ox_z0, ox_z1, iI_lt, iI_eq, iI_add, iI_sub, ig_at, if_true, if_false, if_pos, if_neg, mO, h3]
    · have h1 := k1_countShown b3 s1
      have h3 := k3_headings hM s2 s1 (w := 4) (by omega) (by omega)
      rw [if_neg (by omega), show hdP X 4 = shX X from rfl] at h3
      refine ST_same (v := iI (cnF (shX X) (X.1 0) 31 0 0)) hS ?_ ?_
      · simp (disch := omega) only [eX2_told_0, eX2_told_1_k0, eX2_told_1_k1, eX2_told_1_k2, eX2_told_1_k3, eX2_told_1_k4, eX2_told_1_k5, eX2_told_1_k6, eX2_told_1_k7, eX2_told_1_k8, eX2_told_1_k9, eX2_told_56, eX2_told_57, eX2_told_60, eX2_told_63, eX2_told_64, eX2_told_65, eX2_told_68, eX2_told_71, eX2_told_72, eX2_told_73, eX2_told_76, eX2_told_78, eX2_told_81, eX2_told_82, eX2_told_83, eX2_told_86, eX2_told_89, eX2_told_90, eX2_told_91, eX2_told_94, eX2_told_97, eX2_told_98, eX2_told_99, eX2_told_102, eX2_told_103, eX2_told_104, eX2_told_107, eX2_told_110, eX2_told_113, eX2_told_114, eX2_told_115, eX2_told_118, eX2_told_121, eX2_told_122, eX2_told_123, eX2_told_126, eX2_told_127, eX2_told_128, eX2_told_131, eX2_told_134, eX2_told_135, eX2_told_136, eX2_told_139, eX2_told_142, eX2_told_143, eX2_told_144, ox_O_s, ox_B_s, ox_g_t, ox_A_s, ox_push_s, ox_push_n, ox_some, ox_z0, ox_z1, iI_lt, iI_eq, iI_add, iI_sub, ig_at, if_true, if_false, if_pos, if_neg, f0, f1, f2, f3, f4, f5, f6, f7, f8, f9, f10, f11, f12, f13, f14, f15, h1]
      · simp (disch := omega) only [eX3_told_0, eX3_told_1_k0, eX3_told_1_k1, eX3_told_1_k2, eX3_told_1_k3, eX3_told_1_k4, eX3_told_1_k5, eX3_told_1_k6, eX3_told_1_k7, eX3_told_1_k8, eX3_told_1_k9, eX3_told_56, eX3_told_57, eX3_told_60, eX3_told_61, eX3_told_62, eX3_told_65, eX3_told_68, eX3_told_69, eX3_told_70, eX3_told_71, eX3_told_74, eX3_told_75, eX3_told_76, eX3_told_77, eX3_told_80, eX3_told_81, eX3_told_82, eX3_told_85, eX3_told_88, eX3_told_89, eX3_told_90, eX3_told_91, eX3_told_94, eX3_told_95, eX3_told_96, eX3_told_99, eX3_told_100, eX3_told_101, ox_O_s, ox_B_s, ox_g_t, ox_A_s, ox_push_s, ox_push_n, ox_some, ox_z0, ox_z1, iI_lt, iI_eq, iI_add, iI_sub, ig_at, if_true, if_false, if_pos, if_neg, mO, h3]
    · have h1 := k1_deepest b3 s1 (p := 0) (q := X.1 0) (by omega) (by omega) (by omega) (by omega)
      have h3 := k3_headings hM s2 s1 (w := 5) (by omega) (by omega)
      rw [if_pos rfl] at h3
      refine ST_same (v := iI (dpX X 0 (X.1 0))) hS ?_ ?_
      · simp (disch := omega) only [eX2_told_0, eX2_told_1_k0, eX2_told_1_k1, eX2_told_1_k2, eX2_told_1_k3, eX2_told_1_k4, eX2_told_1_k5, eX2_told_1_k6, eX2_told_1_k7, eX2_told_1_k8, eX2_told_1_k9, eX2_told_56, eX2_told_57, eX2_told_60, eX2_told_63, eX2_told_64, eX2_told_65, eX2_told_68, eX2_told_71, eX2_told_72, eX2_told_73, eX2_told_76, eX2_told_78, eX2_told_81, eX2_told_82, eX2_told_83, eX2_told_86, eX2_told_89, eX2_told_90, eX2_told_91, eX2_told_94, eX2_told_97, eX2_told_98, eX2_told_99, eX2_told_102, eX2_told_103, eX2_told_104, eX2_told_107, eX2_told_110, eX2_told_113, eX2_told_114, eX2_told_115, eX2_told_118, eX2_told_121, eX2_told_122, eX2_told_123, eX2_told_126, eX2_told_127, eX2_told_128, eX2_told_131, eX2_told_134, eX2_told_135, eX2_told_136, eX2_told_139, eX2_told_142, eX2_told_143, eX2_told_144, ox_O_s, ox_B_s, ox_g_t, ox_A_s, ox_push_s, ox_push_n, ox_some, ox_z0, ox_z1, iI_lt, iI_eq, iI_add, iI_sub, ig_at, if_true, if_false, if_pos, if_neg, f0, f1, f2, f3, f4, f5, f6, f7, f8, f9, f10, f11, f12, f13, f14, f15, g0, h1]
      · simp (disch := omega) only [eX3_told_0, eX3_told_1_k0, eX3_told_1_k1, eX3_told_1_k2, eX3_told_1_k3, eX3_told_1_k4, eX3_told_1_k5, eX3_told_1_k6, eX3_told_1_k7, eX3_told_1_k8, eX3_told_1_k9, eX3_told_56, eX3_told_57, eX3_told_60, eX3_told_61, eX3_told_62, eX3_told_65, eX3_told_68, eX3_told_69, eX3_told_70, eX3_told_71, eX3_told_74, eX3_told_75, eX3_told_76, eX3_told_77, eX3_told_80, eX3_told_81, eX3_told_82, eX3_told_85, eX3_told_88, eX3_told_89, eX3_told_90, eX3_told_91, eX3_told_94, eX3_told_95, eX3_told_96, eX3_told_99, eX3_told_100, eX3_told_101, ox_O_s, ox_B_s, ox_g_t, ox_A_s, ox_push_s, ox_push_n, ox_some, ox_z0, ox_z1, iI_lt, iI_eq, iI_add, iI_sub, ig_at, if_true, if_false, if_pos, if_neg, mO, h3]
    · refine ST_same (v := iI (X.1 1)) hS ?_ ?_
      · simp (disch := omega) only [eX2_told_0, eX2_told_1_k0, eX2_told_1_k1, eX2_told_1_k2, eX2_told_1_k3, eX2_told_1_k4, eX2_told_1_k5, eX2_told_1_k6, eX2_told_1_k7, eX2_told_1_k8, eX2_told_1_k9, eX2_told_56, eX2_told_57, eX2_told_60, eX2_told_63, eX2_told_64, eX2_told_65, eX2_told_68, eX2_told_71, eX2_told_72, eX2_told_73, eX2_told_76, eX2_told_78, eX2_told_81, eX2_told_82, eX2_told_83, eX2_told_86, eX2_told_89, eX2_told_90, eX2_told_91, eX2_told_94, eX2_told_97, eX2_told_98, eX2_told_99, eX2_told_102, eX2_told_103, eX2_told_104, eX2_told_107, eX2_told_110, eX2_told_113, eX2_told_114, eX2_told_115, eX2_told_118, eX2_told_121, eX2_told_122, eX2_told_123, eX2_told_126, eX2_told_127, eX2_told_128, eX2_told_131, eX2_told_134, eX2_told_135, eX2_told_136, eX2_told_139, eX2_told_142, eX2_told_143, eX2_told_144, ox_O_s, ox_B_s, ox_g_t, ox_A_s, ox_push_s, ox_push_n, ox_some, ox_z0, ox_z1, iI_lt, iI_eq, iI_add, iI_sub, ig_at, if_true, if_false, if_pos, if_neg, f0, f1, f2, f3, f4, f5, f6, f7, f8, f9, f10, f11, f12, f13, f14, f15, g9]
      · simp (disch := omega) only [eX3_told_0, eX3_told_1_k0, eX3_told_1_k1, eX3_told_1_k2, eX3_told_1_k3, eX3_told_1_k4, eX3_told_1_k5, eX3_told_1_k6, eX3_told_1_k7, eX3_told_1_k8, eX3_told_1_k9, eX3_told_56, eX3_told_57, eX3_told_60, eX3_told_61, eX3_told_62, eX3_told_65, eX3_told_68, eX3_told_69, eX3_told_70, eX3_told_71, eX3_told_74, eX3_told_75, eX3_told_76, eX3_told_77, eX3_told_80, eX3_told_81, eX3_told_82, eX3_told_85, eX3_told_88, eX3_told_89, eX3_told_90, eX3_told_91, eX3_told_94, eX3_told_95, eX3_told_96, eX3_told_99, eX3_told_100, eX3_told_101, ox_O_s, ox_B_s, ox_g_t, ox_A_s, ox_push_s, ox_push_n, ox_some, ox_z0, ox_z1, iI_lt, iI_eq, iI_add, iI_sub, ig_at, if_true, if_false, if_pos, if_neg, mO, m0, m1, m2, m3, m4, m5, m6, m7, m8, m9, mi0, mi1, mi2, mi3, mi4, mi5, mj0, mj1, mj2, mj3, mj4, mj5, r8]
    · refine ST_same (v := iI c) hS ?_ ?_
      · simp (disch := omega) only [eX2_told_0, eX2_told_1_k0, eX2_told_1_k1, eX2_told_1_k2, eX2_told_1_k3, eX2_told_1_k4, eX2_told_1_k5, eX2_told_1_k6, eX2_told_1_k7, eX2_told_1_k8, eX2_told_1_k9, eX2_told_56, eX2_told_57, eX2_told_60, eX2_told_63, eX2_told_64, eX2_told_65, eX2_told_68, eX2_told_71, eX2_told_72, eX2_told_73, eX2_told_76, eX2_told_78, eX2_told_81, eX2_told_82, eX2_told_83, eX2_told_86, eX2_told_89, eX2_told_90, eX2_told_91, eX2_told_94, eX2_told_97, eX2_told_98, eX2_told_99, eX2_told_102, eX2_told_103, eX2_told_104, eX2_told_107, eX2_told_110, eX2_told_113, eX2_told_114, eX2_told_115, eX2_told_118, eX2_told_121, eX2_told_122, eX2_told_123, eX2_told_126, eX2_told_127, eX2_told_128, eX2_told_131, eX2_told_134, eX2_told_135, eX2_told_136, eX2_told_139, eX2_told_142, eX2_told_143, eX2_told_144, ox_O_s, ox_B_s, ox_g_t, ox_A_s, ox_push_s, ox_push_n, ox_some, ox_z0, ox_z1, iI_lt, iI_eq, iI_add, iI_sub, ig_at, if_true, if_false, if_pos, if_neg, f0, f1, f2, f3, f4, f5, f6, f7, f8, f9, f10, f11, f12, f13, f14, f15]
      · simp (disch := omega) only [eX3_told_0, eX3_told_1_k0, eX3_told_1_k1, eX3_told_1_k2, eX3_told_1_k3, eX3_told_1_k4, eX3_told_1_k5, eX3_told_1_k6, eX3_told_1_k7, eX3_told_1_k8, eX3_told_1_k9, eX3_told_56, eX3_told_57, eX3_told_60, eX3_told_61, eX3_told_62, eX3_told_65, eX3_told_68, eX3_told_69, eX3_told_70, eX3_told_71, eX3_told_74, eX3_told_75, eX3_told_76, eX3_told_77, eX3_told_80, eX3_told_81, eX3_told_82, eX3_told_85, eX3_told_88, eX3_told_89, eX3_told_90, eX3_told_91, eX3_told_94, eX3_told_95, eX3_told_96, eX3_told_99, eX3_told_100, eX3_told_101, ox_O_s, ox_B_s, ox_g_t, ox_A_s, ox_push_s, ox_push_n, ox_some, ox_z0, ox_z1, iI_lt, iI_eq, iI_add, iI_sub, ig_at, if_true, if_false, if_pos, if_neg, mO, m0, m1, m2, m3, m4, m5, m6, m7, m8, m9, mi0, mi1, mi2, mi3, mi4, mi5, mj0, mj1, mj2, mj3, mj4, mj5, s4]
    · refine ST_same (v := iI (T.1 0)) hS ?_ ?_
      · simp (disch := omega) only [eX2_told_0, eX2_told_1_k0, eX2_told_1_k1, eX2_told_1_k2, eX2_told_1_k3, eX2_told_1_k4, eX2_told_1_k5, eX2_told_1_k6, eX2_told_1_k7, eX2_told_1_k8, eX2_told_1_k9, eX2_told_56, eX2_told_57, eX2_told_60, eX2_told_63, eX2_told_64, eX2_told_65, eX2_told_68, eX2_told_71, eX2_told_72, eX2_told_73, eX2_told_76, eX2_told_78, eX2_told_81, eX2_told_82, eX2_told_83, eX2_told_86, eX2_told_89, eX2_told_90, eX2_told_91, eX2_told_94, eX2_told_97, eX2_told_98, eX2_told_99, eX2_told_102, eX2_told_103, eX2_told_104, eX2_told_107, eX2_told_110, eX2_told_113, eX2_told_114, eX2_told_115, eX2_told_118, eX2_told_121, eX2_told_122, eX2_told_123, eX2_told_126, eX2_told_127, eX2_told_128, eX2_told_131, eX2_told_134, eX2_told_135, eX2_told_136, eX2_told_139, eX2_told_142, eX2_told_143, eX2_told_144, ox_O_s, ox_B_s, ox_g_t, ox_A_s, ox_push_s, ox_push_n, ox_some, ox_z0, ox_z1, iI_lt, iI_eq, iI_add, iI_sub, ig_at, if_true, if_false, if_pos, if_neg, f0, f1, f2, f3, f4, f5, f6, f7, f8, f9, f10, f11, f12, f13, f14, f15]
      · simp (disch := omega) only [eX3_told_0, eX3_told_1_k0, eX3_told_1_k1, eX3_told_1_k2, eX3_told_1_k3, eX3_told_1_k4, eX3_told_1_k5, eX3_told_1_k6, eX3_told_1_k7, eX3_told_1_k8, eX3_told_1_k9, eX3_told_56, eX3_told_57, eX3_told_60, eX3_told_61, eX3_told_62, eX3_told_65, eX3_told_68, eX3_told_69, eX3_told_70, eX3_told_71, eX3_told_74, eX3_told_75, eX3_told_76, eX3_told_77, eX3_told_80, eX3_told_81, eX3_told_82, eX3_told_85, eX3_told_88, eX3_told_89, eX3_told_90, eX3_told_91, eX3_told_94, eX3_told_95, eX3_told_96, eX3_told_99, eX3_told_100, eX3_told_101, ox_O_s, ox_B_s, ox_g_t, ox_A_s, ox_push_s, ox_push_n, ox_some, ox_z0, ox_z1, iI_lt, iI_eq, iI_add, iI_sub, ig_at, if_true, if_false, if_pos, if_neg, mO, m0, m1, m2, m3, m4, m5, m6, m7, m8, m9, mi0, mi1, mi2, mi3, mi4, mi5, mj0, mj1, mj2, mj3, mj4, mj5, s11]
    · have h1 := k1_countMisplaced b3 s1
      have h3 := k3_headings hM s2 s1 (w := 9) (by omega) (by omega)
      rw [if_neg (by omega), show hdP X 9 = mpX X from rfl] at h3
      refine ST_same (v := iI (cnF (mpX X) (X.1 0) 31 0 0)) hS ?_ ?_
      · simp (disch := omega) only [eX2_told_0, eX2_told_1_k0, eX2_told_1_k1, eX2_told_1_k2, eX2_told_1_k3, eX2_told_1_k4, eX2_told_1_k5, eX2_told_1_k6, eX2_told_1_k7, eX2_told_1_k8, eX2_told_1_k9, eX2_told_56, eX2_told_57, eX2_told_60, eX2_told_63, eX2_told_64, eX2_told_65, eX2_told_68, eX2_told_71, eX2_told_72, eX2_told_73, eX2_told_76, eX2_told_78, eX2_told_81, eX2_told_82, eX2_told_83, eX2_told_86, eX2_told_89, eX2_told_90, eX2_told_91, eX2_told_94, eX2_told_97, eX2_told_98, eX2_told_99, eX2_told_102, eX2_told_103, eX2_told_104, eX2_told_107, eX2_told_110, eX2_told_113, eX2_told_114, eX2_told_115, eX2_told_118, eX2_told_121, eX2_told_122, eX2_told_123, eX2_told_126, eX2_told_127, eX2_told_128, eX2_told_131, eX2_told_134, eX2_told_135, eX2_told_136, eX2_told_139, eX2_told_142, eX2_told_143, eX2_told_144, ox_O_s, ox_B_s, ox_g_t, ox_A_s, ox_push_s, ox_push_n, ox_some, ox_z0, ox_z1, iI_lt, iI_eq, iI_add, iI_sub, ig_at, if_true, if_false, if_pos, if_neg, f0, f1, f2, f3, f4, f5, f6, f7, f8, f9, f10, f11, f12, f13, f14, f15, h1]
      · simp (disch := omega) only [eX3_told_0, eX3_told_1_k0, eX3_told_1_k1, eX3_told_1_k2, eX3_told_1_k3, eX3_told_1_k4, eX3_told_1_k5, eX3_told_1_k6, eX3_told_1_k7, eX3_told_1_k8, eX3_told_1_k9, eX3_told_56, eX3_told_57, eX3_told_60, eX3_told_61, eX3_told_62, eX3_told_65, eX3_told_68, eX3_told_69, eX3_told_70, eX3_told_71, eX3_told_74, eX3_told_75, eX3_told_76, eX3_told_77, eX3_told_80, eX3_told_81, eX3_told_82, eX3_told_85, eX3_told_88, eX3_told_89, eX3_told_90, eX3_told_91, eX3_told_94, eX3_told_95, eX3_told_96, eX3_told_99, eX3_told_100, eX3_told_101, ox_O_s, ox_B_s, ox_g_t, ox_A_s, ox_push_s, ox_push_n, ox_some, ox_z0, ox_z1, iI_lt, iI_eq, iI_add, iI_sub, ig_at, if_true, if_false, if_pos, if_neg, mO, h3]
