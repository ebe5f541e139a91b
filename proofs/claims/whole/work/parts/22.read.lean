/-! The class's outline: what its methods that change nothing answer. -/
theorem lev_b {X : ol} (hV : vx X) {z : Int} (h0 : 0 ≤ z) (h1 : z < 30) : 0 ≤ ig (X.2 1) z ∧ ig (X.2 1) z ≤ 6 := by
  by_cases q : ∃ p, 0 ≤ p ∧ p < X.1 0 ∧ ig (X.2 0) p = z
  · obtain ⟨p, a, b, rfl⟩ := q
    have := (hV.2.2.2.2.1 p a b).1
    omega
  · have := hV.2.2.2.2.2.2.2.1 z h0 h1 (fun p a b e => q ⟨p, a, b, e⟩)
    omega
theorem ol_find (X : ol) (z : Int) : (∃ p, 0 ≤ p ∧ p < X.1 0 ∧ ig (X.2 0) p = z) ∨ ∀ p, 0 ≤ p → p < X.1 0 → ig (X.2 0) p ≠ z := by
  by_cases q : ∃ p, 0 ≤ p ∧ p < X.1 0 ∧ ig (X.2 0) p = z
  · exact Or.inl q
  · exact Or.inr (fun p a b e => q ⟨p, a, b, e⟩)
theorem k1_idAt {h : ox_H} {o : Nat} {X : ol} (hO : OA h o X) (hV : vx X) {p : Int} (h1 : -2147483648 ≤ p) (h2 : p < 2147483648) : oe 14 0 [.ref o, .int (iI p)] [] h = some (some (.int (iI (idA X p))), h) := by
  obtain ⟨gO, g0, g1, g2, g3, g4, g5, g6, g7, g8, g9, g10, g11, g12, gi0, gi1, gi2, gi3, gi4, gi5, gi6, gi7, gi8, gi9, gj0, gj1, gj2, gj3, gj4, gj5, gj6, gj7, gj8, gj9⟩ := oa_facts hO
  obtain ⟨vl, vn, vo, vi, va, vfst, vs, vz, vr, vc, vt, vm, vk⟩ := id hV
  have l0 : (X.2 0).length = 30 := vl 0 (by omega)
  have l1 : (X.2 1).length = 30 := vl 1 (by omega)
  have l2 : (X.2 2).length = 30 := vl 2 (by omega)
  have l3 : (X.2 3).length = 30 := vl 3 (by omega)
  have l4 : (X.2 4).length = 30 := vl 4 (by omega)
  have l5 : (X.2 5).length = 30 := vl 5 (by omega)
  have l6 : (X.2 6).length = 5 := vl 6 (by omega)
  have l7 : (X.2 7).length = 7 := vl 7 (by omega)
  have l8 : (X.2 8).length = 12 := vl 8 (by omega)
  have l9 : (X.2 9).length = 12 := vl 9 (by omega)
  unfold idA
  by_cases q : 0 ≤ p ∧ p < X.1 0
  · have := vo p q.1 q.2
    rw [if_pos q]
    simp (disch := omega) only [eX1_idAt_0, eX1_idAt_1, eX1_idAt_4, eX1_idAt_5, eX1_idAt_6, eX1_idAt_9, eX1_idAt_12, eX1_idAt_13, eX1_idAt_16, eX1_idAt_17, eX1_idAt_18, eX1_idAt_21, eX1_idAt_23, ox_O_s, ox_B_s, ox_g_t, ox_A_s, ox_push_s, ox_push_n, ox_some, ox_z0, ox_z1, iI_lt, iI_eq, iI_add, iI_sub, ig_at, if_true, if_false, if_pos, if_neg, gO, g0, g1, g2, g3, g4, g5, g6, g7, g8, g9, g10, g11, g12, gi0, gi1, gi2, gi3, gi4, gi5, gi6, gi7, gi8, gi9, gj0, gj1, gj2, gj3, gj4, gj5, gj6, gj7, gj8, gj9]
  · rw [if_neg q]
    by_cases q0 : p < 0
    · simp (disch := omega) only [eX1_idAt_0, eX1_idAt_1, eX1_idAt_4, eX1_idAt_5, eX1_idAt_6, eX1_idAt_9, eX1_idAt_12, eX1_idAt_13, eX1_idAt_16, eX1_idAt_17, eX1_idAt_18, eX1_idAt_21, eX1_idAt_23, ox_O_s, ox_B_s, ox_g_t, ox_A_s, ox_push_s, ox_push_n, ox_some, ox_z0, ox_z1, iI_lt, iI_eq, iI_add, iI_sub, ig_at, if_true, if_false, if_pos, if_neg, gO, g0, g1, g2, g3, g4, g5, g6, g7, g8, g9, g10, g11, g12, gi0, gi1, gi2, gi3, gi4, gi5, gi6, gi7, gi8, gi9, gj0, gj1, gj2, gj3, gj4, gj5, gj6, gj7, gj8, gj9]
    · simp (disch := omega) only [eX1_idAt_0, eX1_idAt_1, eX1_idAt_4, eX1_idAt_5, eX1_idAt_6, eX1_idAt_9, eX1_idAt_12, eX1_idAt_13, eX1_idAt_16, eX1_idAt_17, eX1_idAt_18, eX1_idAt_21, eX1_idAt_23, ox_O_s, ox_B_s, ox_g_t, ox_A_s, ox_push_s, ox_push_n, ox_some, ox_z0, ox_z1, iI_lt, iI_eq, iI_add, iI_sub, ig_at, if_true, if_false, if_pos, if_neg, gO, g0, g1, g2, g3, g4, g5, g6, g7, g8, g9, g10, g11, g12, gi0, gi1, gi2, gi3, gi4, gi5, gi6, gi7, gi8, gi9, gj0, gj1, gj2, gj3, gj4, gj5, gj6, gj7, gj8, gj9]
theorem k1_kindAt {h : ox_H} {o : Nat} {X : ol} (hO : OA h o X) (hV : vx X) {p : Int} (h1 : -2147483648 ≤ p) (h2 : p < 2147483648) : oe 16 0 [.ref o, .int (iI p)] [] h = some (some (.int (iI (kdA X p))), h) := by
  obtain ⟨gO, g0, g1, g2, g3, g4, g5, g6, g7, g8, g9, g10, g11, g12, gi0, gi1, gi2, gi3, gi4, gi5, gi6, gi7, gi8, gi9, gj0, gj1, gj2, gj3, gj4, gj5, gj6, gj7, gj8, gj9⟩ := oa_facts hO
  obtain ⟨vl, vn, vo, vi, va, vfst, vs, vz, vr, vc, vt, vm, vk⟩ := id hV
  have l0 : (X.2 0).length = 30 := vl 0 (by omega)
  have l1 : (X.2 1).length = 30 := vl 1 (by omega)
  have l2 : (X.2 2).length = 30 := vl 2 (by omega)
  have l3 : (X.2 3).length = 30 := vl 3 (by omega)
  have l4 : (X.2 4).length = 30 := vl 4 (by omega)
  have l5 : (X.2 5).length = 30 := vl 5 (by omega)
  have l6 : (X.2 6).length = 5 := vl 6 (by omega)
  have l7 : (X.2 7).length = 7 := vl 7 (by omega)
  have l8 : (X.2 8).length = 12 := vl 8 (by omega)
  have l9 : (X.2 9).length = 12 := vl 9 (by omega)
  unfold kdA
  by_cases q : 0 ≤ p ∧ p < X.1 0
  · have := vo p q.1 q.2
    rw [if_pos q]
    simp (disch := omega) only [eX1_kindAt_0, eX1_kindAt_1, eX1_kindAt_4, eX1_kindAt_5, eX1_kindAt_6, eX1_kindAt_9, eX1_kindAt_12, eX1_kindAt_13, eX1_kindAt_16, eX1_kindAt_17, eX1_kindAt_20, eX1_kindAt_21, eX1_kindAt_22, eX1_kindAt_23, eX1_kindAt_26, eX1_kindAt_27, ox_O_s, ox_B_s, ox_g_t, ox_A_s, ox_push_s, ox_push_n, ox_some, ox_z0, ox_z1, iI_lt, iI_eq, iI_add, iI_sub, ig_at, if_true, if_false, if_pos, if_neg, gO, g0, g1, g2, g3, g4, g5, g6, g7, g8, g9, g10, g11, g12, gi0, gi1, gi2, gi3, gi4, gi5, gi6, gi7, gi8, gi9, gj0, gj1, gj2, gj3, gj4, gj5, gj6, gj7, gj8, gj9]
  · rw [if_neg q]
    by_cases q0 : p < 0
    · simp (disch := omega) only [eX1_kindAt_0, eX1_kindAt_1, eX1_kindAt_4, eX1_kindAt_5, eX1_kindAt_6, eX1_kindAt_9, eX1_kindAt_12, eX1_kindAt_13, eX1_kindAt_16, eX1_kindAt_17, eX1_kindAt_20, eX1_kindAt_21, eX1_kindAt_22, eX1_kindAt_23, eX1_kindAt_26, eX1_kindAt_27, ox_O_s, ox_B_s, ox_g_t, ox_A_s, ox_push_s, ox_push_n, ox_some, ox_z0, ox_z1, iI_lt, iI_eq, iI_add, iI_sub, ig_at, if_true, if_false, if_pos, if_neg, gO, g0, g1, g2, g3, g4, g5, g6, g7, g8, g9, g10, g11, g12, gi0, gi1, gi2, gi3, gi4, gi5, gi6, gi7, gi8, gi9, gj0, gj1, gj2, gj3, gj4, gj5, gj6, gj7, gj8, gj9]
    · simp (disch := omega) only [eX1_kindAt_0, eX1_kindAt_1, eX1_kindAt_4, eX1_kindAt_5, eX1_kindAt_6, eX1_kindAt_9, eX1_kindAt_12, eX1_kindAt_13, eX1_kindAt_16, eX1_kindAt_17, eX1_kindAt_20, eX1_kindAt_21, eX1_kindAt_22, eX1_kindAt_23, eX1_kindAt_26, eX1_kindAt_27, ox_O_s, ox_B_s, ox_g_t, ox_A_s, ox_push_s, ox_push_n, ox_some, ox_z0, ox_z1, iI_lt, iI_eq, iI_add, iI_sub, ig_at, if_true, if_false, if_pos, if_neg, gO, g0, g1, g2, g3, g4, g5, g6, g7, g8, g9, g10, g11, g12, gi0, gi1, gi2, gi3, gi4, gi5, gi6, gi7, gi8, gi9, gj0, gj1, gj2, gj3, gj4, gj5, gj6, gj7, gj8, gj9]
theorem k1_tagsAt {h : ox_H} {o : Nat} {X : ol} (hO : OA h o X) (hV : vx X) {p : Int} (h1 : -2147483648 ≤ p) (h2 : p < 2147483648) : oe 17 0 [.ref o, .int (iI p)] [] h = some (some (.int (iI (tgA X p))), h) := by
  obtain ⟨gO, g0, g1, g2, g3, g4, g5, g6, g7, g8, g9, g10, g11, g12, gi0, gi1, gi2, gi3, gi4, gi5, gi6, gi7, gi8, gi9, gj0, gj1, gj2, gj3, gj4, gj5, gj6, gj7, gj8, gj9⟩ := oa_facts hO
  obtain ⟨vl, vn, vo, vi, va, vfst, vs, vz, vr, vc, vt, vm, vk⟩ := id hV
  have l0 : (X.2 0).length = 30 := vl 0 (by omega)
  have l1 : (X.2 1).length = 30 := vl 1 (by omega)
  have l2 : (X.2 2).length = 30 := vl 2 (by omega)
  have l3 : (X.2 3).length = 30 := vl 3 (by omega)
  have l4 : (X.2 4).length = 30 := vl 4 (by omega)
  have l5 : (X.2 5).length = 30 := vl 5 (by omega)
  have l6 : (X.2 6).length = 5 := vl 6 (by omega)
  have l7 : (X.2 7).length = 7 := vl 7 (by omega)
  have l8 : (X.2 8).length = 12 := vl 8 (by omega)
  have l9 : (X.2 9).length = 12 := vl 9 (by omega)
  unfold tgA
  by_cases q : 0 ≤ p ∧ p < X.1 0
  · have := vo p q.1 q.2
    rw [if_pos q]
    simp (disch := omega) only [eX1_tagsAt_0, eX1_tagsAt_1, eX1_tagsAt_4, eX1_tagsAt_5, eX1_tagsAt_6, eX1_tagsAt_9, eX1_tagsAt_12, eX1_tagsAt_13, eX1_tagsAt_16, eX1_tagsAt_17, eX1_tagsAt_20, eX1_tagsAt_21, eX1_tagsAt_22, eX1_tagsAt_23, eX1_tagsAt_26, eX1_tagsAt_27, ox_O_s, ox_B_s, ox_g_t, ox_A_s, ox_push_s, ox_push_n, ox_some, ox_z0, ox_z1, iI_lt, iI_eq, iI_add, iI_sub, ig_at, if_true, if_false, if_pos, if_neg, gO, g0, g1, g2, g3, g4, g5, g6, g7, g8, g9, g10, g11, g12, gi0, gi1, gi2, gi3, gi4, gi5, gi6, gi7, gi8, gi9, gj0, gj1, gj2, gj3, gj4, gj5, gj6, gj7, gj8, gj9]
  · rw [if_neg q]
    by_cases q0 : p < 0
    · simp (disch := omega) only [eX1_tagsAt_0, eX1_tagsAt_1, eX1_tagsAt_4, eX1_tagsAt_5, eX1_tagsAt_6, eX1_tagsAt_9, eX1_tagsAt_12, eX1_tagsAt_13, eX1_tagsAt_16, eX1_tagsAt_17, eX1_tagsAt_20, eX1_tagsAt_21, eX1_tagsAt_22, eX1_tagsAt_23, eX1_tagsAt_26, eX1_tagsAt_27, ox_O_s, ox_B_s, ox_g_t, ox_A_s, ox_push_s, ox_push_n, ox_some, ox_z0, ox_z1, iI_lt, iI_eq, iI_add, iI_sub, ig_at, if_true, if_false, if_pos, if_neg, gO, g0, g1, g2, g3, g4, g5, g6, g7, g8, g9, g10, g11, g12, gi0, gi1, gi2, gi3, gi4, gi5, gi6, gi7, gi8, gi9, gj0, gj1, gj2, gj3, gj4, gj5, gj6, gj7, gj8, gj9]
    · simp (disch := omega) only [eX1_tagsAt_0, eX1_tagsAt_1, eX1_tagsAt_4, eX1_tagsAt_5, eX1_tagsAt_6, eX1_tagsAt_9, eX1_tagsAt_12, eX1_tagsAt_13, eX1_tagsAt_16, eX1_tagsAt_17, eX1_tagsAt_20, eX1_tagsAt_21, eX1_tagsAt_22, eX1_tagsAt_23, eX1_tagsAt_26, eX1_tagsAt_27, ox_O_s, ox_B_s, ox_g_t, ox_A_s, ox_push_s, ox_push_n, ox_some, ox_z0, ox_z1, iI_lt, iI_eq, iI_add, iI_sub, ig_at, if_true, if_false, if_pos, if_neg, gO, g0, g1, g2, g3, g4, g5, g6, g7, g8, g9, g10, g11, g12, gi0, gi1, gi2, gi3, gi4, gi5, gi6, gi7, gi8, gi9, gj0, gj1, gj2, gj3, gj4, gj5, gj6, gj7, gj8, gj9]
theorem k1_startAt {h : ox_H} {o : Nat} {X : ol} (hO : OA h o X) (hV : vx X) {p : Int} (h1 : -2147483648 ≤ p) (h2 : p < 2147483648) : oe 18 0 [.ref o, .int (iI p)] [] h = some (some (.int (iI (stA X p))), h) := by
  obtain ⟨gO, g0, g1, g2, g3, g4, g5, g6, g7, g8, g9, g10, g11, g12, gi0, gi1, gi2, gi3, gi4, gi5, gi6, gi7, gi8, gi9, gj0, gj1, gj2, gj3, gj4, gj5, gj6, gj7, gj8, gj9⟩ := oa_facts hO
  obtain ⟨vl, vn, vo, vi, va, vfst, vs, vz, vr, vc, vt, vm, vk⟩ := id hV
  have l0 : (X.2 0).length = 30 := vl 0 (by omega)
  have l1 : (X.2 1).length = 30 := vl 1 (by omega)
  have l2 : (X.2 2).length = 30 := vl 2 (by omega)
  have l3 : (X.2 3).length = 30 := vl 3 (by omega)
  have l4 : (X.2 4).length = 30 := vl 4 (by omega)
  have l5 : (X.2 5).length = 30 := vl 5 (by omega)
  have l6 : (X.2 6).length = 5 := vl 6 (by omega)
  have l7 : (X.2 7).length = 7 := vl 7 (by omega)
  have l8 : (X.2 8).length = 12 := vl 8 (by omega)
  have l9 : (X.2 9).length = 12 := vl 9 (by omega)
  unfold stA
  by_cases q : 0 ≤ p ∧ p < X.1 0
  · have := vo p q.1 q.2
    rw [if_pos q]
    simp (disch := omega) only [eX1_startAt_0, eX1_startAt_1, eX1_startAt_4, eX1_startAt_5, eX1_startAt_6, eX1_startAt_9, eX1_startAt_12, eX1_startAt_13, eX1_startAt_16, eX1_startAt_17, eX1_startAt_20, eX1_startAt_21, eX1_startAt_22, eX1_startAt_23, eX1_startAt_26, eX1_startAt_27, ox_O_s, ox_B_s, ox_g_t, ox_A_s, ox_push_s, ox_push_n, ox_some, ox_z0, ox_z1, iI_lt, iI_eq, iI_add, iI_sub, ig_at, if_true, if_false, if_pos, if_neg, gO, g0, g1, g2, g3, g4, g5, g6, g7, g8, g9, g10, g11, g12, gi0, gi1, gi2, gi3, gi4, gi5, gi6, gi7, gi8, gi9, gj0, gj1, gj2, gj3, gj4, gj5, gj6, gj7, gj8, gj9]
  · rw [if_neg q]
    by_cases q0 : p < 0
    · simp (disch := omega) only [eX1_startAt_0, eX1_startAt_1, eX1_startAt_4, eX1_startAt_5, eX1_startAt_6, eX1_startAt_9, eX1_startAt_12, eX1_startAt_13, eX1_startAt_16, eX1_startAt_17, eX1_startAt_20, eX1_startAt_21, eX1_startAt_22, eX1_startAt_23, eX1_startAt_26, eX1_startAt_27, ox_O_s, ox_B_s, ox_g_t, ox_A_s, ox_push_s, ox_push_n, ox_some, ox_z0, ox_z1, iI_lt, iI_eq, iI_add, iI_sub, ig_at, if_true, if_false, if_pos, if_neg, gO, g0, g1, g2, g3, g4, g5, g6, g7, g8, g9, g10, g11, g12, gi0, gi1, gi2, gi3, gi4, gi5, gi6, gi7, gi8, gi9, gj0, gj1, gj2, gj3, gj4, gj5, gj6, gj7, gj8, gj9]
    · simp (disch := omega) only [eX1_startAt_0, eX1_startAt_1, eX1_startAt_4, eX1_startAt_5, eX1_startAt_6, eX1_startAt_9, eX1_startAt_12, eX1_startAt_13, eX1_startAt_16, eX1_startAt_17, eX1_startAt_20, eX1_startAt_21, eX1_startAt_22, eX1_startAt_23, eX1_startAt_26, eX1_startAt_27, ox_O_s, ox_B_s, ox_g_t, ox_A_s, ox_push_s, ox_push_n, ox_some, ox_z0, ox_z1, iI_lt, iI_eq, iI_add, iI_sub, ig_at, if_true, if_false, if_pos, if_neg, gO, g0, g1, g2, g3, g4, g5, g6, g7, g8, g9, g10, g11, g12, gi0, gi1, gi2, gi3, gi4, gi5, gi6, gi7, gi8, gi9, gj0, gj1, gj2, gj3, gj4, gj5, gj6, gj7, gj8, gj9]
theorem k1_has1 {h : ox_H} {o : Nat} {X : ol} (hO : OA h o X) (hV : vx X) {p : Int} (h0 : 0 ≤ p) (h1 : p < X.1 0) : oe 12 0 [.ref o, .int (iI (ig (X.2 0) p))] [] h = some (some (.int (iI 1)), h) := by
  obtain ⟨gO, g0, g1, g2, g3, g4, g5, g6, g7, g8, g9, g10, g11, g12, gi0, gi1, gi2, gi3, gi4, gi5, gi6, gi7, gi8, gi9, gj0, gj1, gj2, gj3, gj4, gj5, gj6, gj7, gj8, gj9⟩ := oa_facts hO
  obtain ⟨vl, vn, vo, vi, va, vfst, vs, vz, vr, vc, vt, vm, vk⟩ := id hV
  have l0 : (X.2 0).length = 30 := vl 0 (by omega)
  have l1 : (X.2 1).length = 30 := vl 1 (by omega)
  have l2 : (X.2 2).length = 30 := vl 2 (by omega)
  have l3 : (X.2 3).length = 30 := vl 3 (by omega)
  have l4 : (X.2 4).length = 30 := vl 4 (by omega)
  have l5 : (X.2 5).length = 30 := vl 5 (by omega)
  have l6 : (X.2 6).length = 5 := vl 6 (by omega)
  have l7 : (X.2 7).length = 7 := vl 7 (by omega)
  have l8 : (X.2 8).length = 12 := vl 8 (by omega)
  have l9 : (X.2 9).length = 12 := vl 9 (by omega)
  have := vo p h0 h1
  have := (va p h0 h1).1
  simp (disch := omega) only [eX1_has_0, eX1_has_1, eX1_has_4, eX1_has_5, eX1_has_7, eX1_has_10, eX1_has_11, eX1_has_14, eX1_has_15, eX1_has_16, eX1_has_19, eX1_has_20, eX1_has_23, eX1_has_24, ox_O_s, ox_B_s, ox_g_t, ox_A_s, ox_push_s, ox_push_n, ox_some, ox_z0, ox_z1, iI_lt, iI_eq, iI_add, iI_sub, ig_at, if_true, if_false, if_pos, if_neg, gO, g0, g1, g2, g3, g4, g5, g6, g7, g8, g9, g10, g11, g12, gi0, gi1, gi2, gi3, gi4, gi5, gi6, gi7, gi8, gi9, gj0, gj1, gj2, gj3, gj4, gj5, gj6, gj7, gj8, gj9]
theorem k1_has0 {h : ox_H} {o : Nat} {X : ol} (hO : OA h o X) (hV : vx X) {z : Int} (h1 : -2147483648 ≤ z) (h2 : z < 2147483648) (hz : ∀ p, 0 ≤ p → p < X.1 0 → ig (X.2 0) p ≠ z) : oe 12 0 [.ref o, .int (iI z)] [] h = some (some (.int (iI 0)), h) := by
  obtain ⟨gO, g0, g1, g2, g3, g4, g5, g6, g7, g8, g9, g10, g11, g12, gi0, gi1, gi2, gi3, gi4, gi5, gi6, gi7, gi8, gi9, gj0, gj1, gj2, gj3, gj4, gj5, gj6, gj7, gj8, gj9⟩ := oa_facts hO
  obtain ⟨vl, vn, vo, vi, va, vfst, vs, vz, vr, vc, vt, vm, vk⟩ := id hV
  have l0 : (X.2 0).length = 30 := vl 0 (by omega)
  have l1 : (X.2 1).length = 30 := vl 1 (by omega)
  have l2 : (X.2 2).length = 30 := vl 2 (by omega)
  have l3 : (X.2 3).length = 30 := vl 3 (by omega)
  have l4 : (X.2 4).length = 30 := vl 4 (by omega)
  have l5 : (X.2 5).length = 30 := vl 5 (by omega)
  have l6 : (X.2 6).length = 5 := vl 6 (by omega)
  have l7 : (X.2 7).length = 7 := vl 7 (by omega)
  have l8 : (X.2 8).length = 12 := vl 8 (by omega)
  have l9 : (X.2 9).length = 12 := vl 9 (by omega)
  by_cases q0 : z < 0
  · simp (disch := omega) only [eX1_has_0, eX1_has_1, eX1_has_4, eX1_has_5, eX1_has_7, eX1_has_10, eX1_has_11, eX1_has_14, eX1_has_15, eX1_has_16, eX1_has_19, eX1_has_20, eX1_has_23, eX1_has_24, ox_O_s, ox_B_s, ox_g_t, ox_A_s, ox_push_s, ox_push_n, ox_some, ox_z0, ox_z1, iI_lt, iI_eq, iI_add, iI_sub, ig_at, if_true, if_false, if_pos, if_neg, gO, g0, g1, g2, g3, g4, g5, g6, g7, g8, g9, g10, g11, g12, gi0, gi1, gi2, gi3, gi4, gi5, gi6, gi7, gi8, gi9, gj0, gj1, gj2, gj3, gj4, gj5, gj6, gj7, gj8, gj9]
  · by_cases q1 : z < 30
    · have := vz z (by omega) q1 hz
      simp (disch := omega) only [eX1_has_0, eX1_has_1, eX1_has_4, eX1_has_5, eX1_has_7, eX1_has_10, eX1_has_11, eX1_has_14, eX1_has_15, eX1_has_16, eX1_has_19, eX1_has_20, eX1_has_23, eX1_has_24, ox_O_s, ox_B_s, ox_g_t, ox_A_s, ox_push_s, ox_push_n, ox_some, ox_z0, ox_z1, iI_lt, iI_eq, iI_add, iI_sub, ig_at, if_true, if_false, if_pos, if_neg, gO, g0, g1, g2, g3, g4, g5, g6, g7, g8, g9, g10, g11, g12, gi0, gi1, gi2, gi3, gi4, gi5, gi6, gi7, gi8, gi9, gj0, gj1, gj2, gj3, gj4, gj5, gj6, gj7, gj8, gj9]
    · simp (disch := omega) only [eX1_has_0, eX1_has_1, eX1_has_4, eX1_has_5, eX1_has_7, eX1_has_10, eX1_has_11, eX1_has_14, eX1_has_15, eX1_has_16, eX1_has_19, eX1_has_20, eX1_has_23, eX1_has_24, ox_O_s, ox_B_s, ox_g_t, ox_A_s, ox_push_s, ox_push_n, ox_some, ox_z0, ox_z1, iI_lt, iI_eq, iI_add, iI_sub, ig_at, if_true, if_false, if_pos, if_neg, gO, g0, g1, g2, g3, g4, g5, g6, g7, g8, g9, g10, g11, g12, gi0, gi1, gi2, gi3, gi4, gi5, gi6, gi7, gi8, gi9, gj0, gj1, gj2, gj3, gj4, gj5, gj6, gj7, gj8, gj9]
theorem k1_placeOf_loop {h : ox_H} {o : Nat} {X : ol} (hO : OA h o X) (hV : vx X) {p : Int} (h0 : 0 ≤ p) (h1 : p < X.1 0) : ∀ (m : Nat) (q : Int), 0 ≤ q → q + m = p → oe 13 12 [.ref o, .int (iI (ig (X.2 0) p)), .int (iI q)] [] h = some (some (.int (iI p)), h) := by
  obtain ⟨gO, g0, g1, g2, g3, g4, g5, g6, g7, g8, g9, g10, g11, g12, gi0, gi1, gi2, gi3, gi4, gi5, gi6, gi7, gi8, gi9, gj0, gj1, gj2, gj3, gj4, gj5, gj6, gj7, gj8, gj9⟩ := oa_facts hO
  obtain ⟨vl, vn, vo, vi, va, vfst, vs, vz, vr, vc, vt, vm, vk⟩ := id hV
  have l0 : (X.2 0).length = 30 := vl 0 (by omega)
  have l1 : (X.2 1).length = 30 := vl 1 (by omega)
  have l2 : (X.2 2).length = 30 := vl 2 (by omega)
  have l3 : (X.2 3).length = 30 := vl 3 (by omega)
  have l4 : (X.2 4).length = 30 := vl 4 (by omega)
  have l5 : (X.2 5).length = 30 := vl 5 (by omega)
  have l6 : (X.2 6).length = 5 := vl 6 (by omega)
  have l7 : (X.2 7).length = 7 := vl 7 (by omega)
  have l8 : (X.2 8).length = 12 := vl 8 (by omega)
  have l9 : (X.2 9).length = 12 := vl 9 (by omega)
  intro m
  induction m with
  | zero =>
    intro q hq e
    have e : q = p := by omega
    subst e
    have := vo q h0 h1
    rw [eX1_placeOf_12]
    simp (disch := omega) only [eX1_placeOf_0, eX1_placeOf_1, eX1_placeOf_2, eX1_placeOf_5, eX1_placeOf_8, eX1_placeOf_9, eX1_placeOf_10, eX1_placeOf_11, eX1_placeOf_13, eX1_placeOf_14, eX1_placeOf_17, eX1_placeOf_20, eX1_placeOf_21, eX1_placeOf_24, eX1_placeOf_25, eX1_placeOf_26, eX1_placeOf_27, eX1_placeOf_30, eX1_placeOf_31, eX1_placeOf_32, eX1_placeOf_35, eX1_placeOf_38, eX1_placeOf_39, ox_O_s, ox_B_s, ox_g_t, ox_A_s, ox_push_s, ox_push_n, ox_some, ox_z0, ox_z1, iI_lt, iI_eq, iI_add, iI_sub, ig_at, if_true, if_false, if_pos, if_neg, gO, g0, g1, g2, g3, g4, g5, g6, g7, g8, g9, g10, g11, g12, gi0, gi1, gi2, gi3, gi4, gi5, gi6, gi7, gi8, gi9, gj0, gj1, gj2, gj3, gj4, gj5, gj6, gj7, gj8, gj9]
  | succ m ih =>
    intro q hq e
    have b1 := vo q hq (by omega)
    have b2 := vo p h0 h1
    have ne : ¬ ig (X.2 0) q = ig (X.2 0) p := fun z => by
      have := vi q p hq (by omega) h0 h1 z
      omega
    rw [eX1_placeOf_12]
    simp (disch := omega) only [eX1_placeOf_0, eX1_placeOf_1, eX1_placeOf_2, eX1_placeOf_5, eX1_placeOf_8, eX1_placeOf_9, eX1_placeOf_10, eX1_placeOf_11, eX1_placeOf_13, eX1_placeOf_14, eX1_placeOf_17, eX1_placeOf_20, eX1_placeOf_21, eX1_placeOf_24, eX1_placeOf_25, eX1_placeOf_26, eX1_placeOf_27, eX1_placeOf_30, eX1_placeOf_31, eX1_placeOf_32, eX1_placeOf_35, eX1_placeOf_38, eX1_placeOf_39, ox_O_s, ox_B_s, ox_g_t, ox_A_s, ox_push_s, ox_push_n, ox_some, ox_z0, ox_z1, iI_lt, iI_eq, iI_add, iI_sub, ig_at, if_true, if_false, if_pos, if_neg, gO, g0, g1, g2, g3, g4, g5, g6, g7, g8, g9, g10, g11, g12, gi0, gi1, gi2, gi3, gi4, gi5, gi6, gi7, gi8, gi9, gj0, gj1, gj2, gj3, gj4, gj5, gj6, gj7, gj8, gj9, ne]
    exact ih (q + 1) (by omega) (by omega)
theorem k1_placeOf1 {h : ox_H} {o : Nat} {X : ol} (hO : OA h o X) (hV : vx X) {p : Int} (h0 : 0 ≤ p) (h1 : p < X.1 0) : oe 13 0 [.ref o, .int (iI (ig (X.2 0) p)), .null] [] h = some (some (.int (iI p)), h) := by
  have hh := k1_has1 hO hV h0 h1
  have hl := k1_placeOf_loop hO hV h0 h1 p.toNat 0 (by omega) (by omega)
  obtain ⟨gO, g0, g1, g2, g3, g4, g5, g6, g7, g8, g9, g10, g11, g12, gi0, gi1, gi2, gi3, gi4, gi5, gi6, gi7, gi8, gi9, gj0, gj1, gj2, gj3, gj4, gj5, gj6, gj7, gj8, gj9⟩ := oa_facts hO
  simp (disch := omega) only [eX1_placeOf_0, eX1_placeOf_1, eX1_placeOf_2, eX1_placeOf_5, eX1_placeOf_8, eX1_placeOf_9, eX1_placeOf_10, eX1_placeOf_11, eX1_placeOf_13, eX1_placeOf_14, eX1_placeOf_17, eX1_placeOf_20, eX1_placeOf_21, eX1_placeOf_24, eX1_placeOf_25, eX1_placeOf_26, eX1_placeOf_27, eX1_placeOf_30, eX1_placeOf_31, eX1_placeOf_32, eX1_placeOf_35, eX1_placeOf_38, eX1_placeOf_39, ox_O_s, ox_B_s, ox_g_t, ox_A_s, ox_push_s, ox_push_n, ox_some, ox_z0, ox_z1, iI_lt, iI_eq, iI_add, iI_sub, ig_at, if_true, if_false, if_pos, if_neg, gO, hh]
  exact hl
theorem k1_placeOf0 {h : ox_H} {o : Nat} {X : ol} (hO : OA h o X) (hV : vx X) {z : Int} (h1 : -2147483648 ≤ z) (h2 : z < 2147483648) (hz : ∀ p, 0 ≤ p → p < X.1 0 → ig (X.2 0) p ≠ z) : oe 13 0 [.ref o, .int (iI z), .null] [] h = some (some (.int (iI (-1))), h) := by
  have hh := k1_has0 hO hV h1 h2 hz
  obtain ⟨gO, g0, g1, g2, g3, g4, g5, g6, g7, g8, g9, g10, g11, g12, gi0, gi1, gi2, gi3, gi4, gi5, gi6, gi7, gi8, gi9, gj0, gj1, gj2, gj3, gj4, gj5, gj6, gj7, gj8, gj9⟩ := oa_facts hO
  simp (disch := omega) only [eX1_placeOf_0, eX1_placeOf_1, eX1_placeOf_2, eX1_placeOf_5, eX1_placeOf_8, eX1_placeOf_9, eX1_placeOf_10, eX1_placeOf_11, eX1_placeOf_13, eX1_placeOf_14, eX1_placeOf_17, eX1_placeOf_20, eX1_placeOf_21, eX1_placeOf_24, eX1_placeOf_25, eX1_placeOf_26, eX1_placeOf_27, eX1_placeOf_30, eX1_placeOf_31, eX1_placeOf_32, eX1_placeOf_35, eX1_placeOf_38, eX1_placeOf_39, ox_O_s, ox_B_s, ox_g_t, ox_A_s, ox_push_s, ox_push_n, ox_some, ox_z0, ox_z1, iI_lt, iI_eq, iI_add, iI_sub, ig_at, if_true, if_false, if_pos, if_neg, gO, hh]
def pA (L : Int → Int) (lv : Int) : Nat → Int
  | 0 => -1
  | k + 1 => if L k < lv then k else pA L lv k
theorem pA_b (L : Int → Int) (lv : Int) : ∀ k : Nat, -1 ≤ pA L lv k ∧ pA L lv k < k
  | 0 => by simp [pA]
  | k + 1 => by
    have := pA_b L lv k
    unfold pA
    split <;> omega
theorem k1_placeAbove_loop {h : ox_H} {o : Nat} {X : ol} (hO : OA h o X) (hV : vx X) {lv : Int} (h1 : -2147483648 ≤ lv) (h2 : lv < 2147483648) (v1 : Value) : ∀ k : Nat, k < 100 → oe 19 4 [.ref o, v1, .int (iI lv), .int (iI ((k : Int) - 1))] [] h = some (some (.int (iI (pA (lvA X) lv k))), h) := by
  obtain ⟨gO, g0, g1, g2, g3, g4, g5, g6, g7, g8, g9, g10, g11, g12, gi0, gi1, gi2, gi3, gi4, gi5, gi6, gi7, gi8, gi9, gj0, gj1, gj2, gj3, gj4, gj5, gj6, gj7, gj8, gj9⟩ := oa_facts hO
  intro k
  induction k with
  | zero =>
    intro hk
    rw [eX1_placeAbove_4]
    simp (disch := omega) only [eX1_placeAbove_0, eX1_placeAbove_1, eX1_placeAbove_2, eX1_placeAbove_3, eX1_placeAbove_5, eX1_placeAbove_8, eX1_placeAbove_9, eX1_placeAbove_10, eX1_placeAbove_13, eX1_placeAbove_14, eX1_placeAbove_17, eX1_placeAbove_20, eX1_placeAbove_23, eX1_placeAbove_24, ox_O_s, ox_B_s, ox_g_t, ox_A_s, ox_push_s, ox_push_n, ox_some, ox_z0, ox_z1, iI_lt, iI_eq, iI_add, iI_sub, ig_at, if_true, if_false, if_pos, if_neg, gO, g0, g1, g2, g3, g4, g5, g6, g7, g8, g9, g10, g11, g12, gi0, gi1, gi2, gi3, gi4, gi5, gi6, gi7, gi8, gi9, gj0, gj1, gj2, gj3, gj4, gj5, gj6, gj7, gj8, gj9]
    rfl
  | succ k ih =>
    intro hk
    have hl := k1_levelAt hO hV (p := (k : Int)) (by omega) (by omega)
    have hb := lvA_b hV (k : Int)
    rw [eX1_placeAbove_4, show ((k + 1 : Nat) : Int) - 1 = (k : Int) by omega]
    unfold pA
    by_cases c : lvA X k < lv
    · rw [if_pos c]
      simp (disch := omega) only [eX1_placeAbove_0, eX1_placeAbove_1, eX1_placeAbove_2, eX1_placeAbove_3, eX1_placeAbove_5, eX1_placeAbove_8, eX1_placeAbove_9, eX1_placeAbove_10, eX1_placeAbove_13, eX1_placeAbove_14, eX1_placeAbove_17, eX1_placeAbove_20, eX1_placeAbove_23, eX1_placeAbove_24, ox_O_s, ox_B_s, ox_g_t, ox_A_s, ox_push_s, ox_push_n, ox_some, ox_z0, ox_z1, iI_lt, iI_eq, iI_add, iI_sub, ig_at, if_true, if_false, if_pos, if_neg, gO, hl]
    · rw [if_neg c]
      simp (disch := omega) only [eX1_placeAbove_0, eX1_placeAbove_1, eX1_placeAbove_2, eX1_placeAbove_3, eX1_placeAbove_5, eX1_placeAbove_8, eX1_placeAbove_9, eX1_placeAbove_10, eX1_placeAbove_13, eX1_placeAbove_14, eX1_placeAbove_17, eX1_placeAbove_20, eX1_placeAbove_23, eX1_placeAbove_24, ox_O_s, ox_B_s, ox_g_t, ox_A_s, ox_push_s, ox_push_n, ox_some, ox_z0, ox_z1, iI_lt, iI_eq, iI_add, iI_sub, ig_at, if_true, if_false, if_pos, if_neg, gO, hl]
      exact ih (by omega)
theorem k1_placeAbove {h : ox_H} {o : Nat} {X : ol} (hO : OA h o X) (hV : vx X) {p lv : Int} (h1 : -2147483648 ≤ lv) (h2 : lv < 2147483648) (h0 : 0 ≤ p) (h3 : p < 100) : oe 19 0 [.ref o, .int (iI p), .int (iI lv), .null] [] h = some (some (.int (iI (pA (lvA X) lv p.toNat))), h) := by
  have hl := k1_placeAbove_loop hO hV h1 h2 (.int (iI p)) p.toNat (by omega)
  rw [show ((p.toNat : Nat) : Int) = p by omega] at hl
  simp (disch := omega) only [eX1_placeAbove_0, eX1_placeAbove_1, eX1_placeAbove_2, eX1_placeAbove_3, eX1_placeAbove_5, eX1_placeAbove_8, eX1_placeAbove_9, eX1_placeAbove_10, eX1_placeAbove_13, eX1_placeAbove_14, eX1_placeAbove_17, eX1_placeAbove_20, eX1_placeAbove_23, eX1_placeAbove_24, ox_O_s, ox_B_s, ox_g_t, ox_A_s, ox_push_s, ox_push_n, ox_some, ox_z0, ox_z1, iI_lt, iI_eq, iI_add, iI_sub, ig_at, if_true, if_false, if_pos, if_neg]
  exact hl
def eP (L : Int → Int) (n lv : Int) : Nat → Int → Int
  | 0, e => e
  | m + 1, e => if e < n ∧ lv < L e then eP L n lv m (e + 1) else e
theorem eP_b {L : Int → Int} {n lv : Int} : ∀ (m : Nat) (e : Int), e ≤ n → e ≤ eP L n lv m e ∧ eP L n lv m e ≤ n
  | 0, e, h => by simp [eP, h]
  | m + 1, e, h => by
    unfold eP
    split
    · have := eP_b (L := L) (n := n) (lv := lv) m (e + 1) (by omega)
      omega
    · omega
/-- the end of the part at a place -/
def enX (X : ol) (p : Int) : Int := eP (lvA X) (X.1 0) (lvA X p) 31 (p + 1)
theorem enX_b {X : ol} {p : Int} (h1 : p < X.1 0) : p + 1 ≤ enX X p ∧ enX X p ≤ X.1 0 := eP_b 31 (p + 1) (by omega)
theorem k1_end_loop {h : ox_H} {o : Nat} {X : ol} (hO : OA h o X) (hV : vx X) {lv : Int} (h1 : -2147483648 ≤ lv) (h2 : lv < 2147483648) (v1 : Value) : ∀ (m : Nat) (e : Int), 0 ≤ e → e ≤ X.1 0 → X.1 0 - e < m → oe 20 10 [.ref o, v1, .int (iI lv), .int (iI e)] [] h = some (some (.int (iI (eP (lvA X) (X.1 0) lv m e))), h) := by
  obtain ⟨gO, g0, g1, g2, g3, g4, g5, g6, g7, g8, g9, g10, g11, g12, gi0, gi1, gi2, gi3, gi4, gi5, gi6, gi7, gi8, gi9, gj0, gj1, gj2, gj3, gj4, gj5, gj6, gj7, gj8, gj9⟩ := oa_facts hO
  obtain ⟨vl, vn, vo, vi, va, vfst, vs, vz, vr, vc, vt, vm, vk⟩ := id hV
  have l0 : (X.2 0).length = 30 := vl 0 (by omega)
  have l1 : (X.2 1).length = 30 := vl 1 (by omega)
  have l2 : (X.2 2).length = 30 := vl 2 (by omega)
  have l3 : (X.2 3).length = 30 := vl 3 (by omega)
  have l4 : (X.2 4).length = 30 := vl 4 (by omega)
  have l5 : (X.2 5).length = 30 := vl 5 (by omega)
  have l6 : (X.2 6).length = 5 := vl 6 (by omega)
  have l7 : (X.2 7).length = 7 := vl 7 (by omega)
  have l8 : (X.2 8).length = 12 := vl 8 (by omega)
  have l9 : (X.2 9).length = 12 := vl 9 (by omega)
  intro m
  induction m with
  | zero => intro e a b c; omega
  | succ m ih =>
    intro e a b c
    have hl := k1_levelAt hO hV (p := e) (by omega) (by omega)
    have hb := lvA_b hV e
    rw [eX1_endOfPart_10]
    unfold eP
    by_cases c1 : e < X.1 0
    · by_cases c2 : lv < lvA X e
      · rw [if_pos ⟨c1, c2⟩]
        simp (disch := omega) only [eX1_endOfPart_0, eX1_endOfPart_1, eX1_endOfPart_2, eX1_endOfPart_5, eX1_endOfPart_6, eX1_endOfPart_7, eX1_endOfPart_8, eX1_endOfPart_9, eX1_endOfPart_11, eX1_endOfPart_12, eX1_endOfPart_15, eX1_endOfPart_18, eX1_endOfPart_19, eX1_endOfPart_20, eX1_endOfPart_23, eX1_endOfPart_24, eX1_endOfPart_27, eX1_endOfPart_30, eX1_endOfPart_33, eX1_endOfPart_34, ox_O_s, ox_B_s, ox_g_t, ox_A_s, ox_push_s, ox_push_n, ox_some, ox_z0, ox_z1, iI_lt, iI_eq, iI_add, iI_sub, ig_at, if_true, if_false, if_pos, if_neg, gO, g0, g1, g2, g3, g4, g5, g6, g7, g8, g9, g10, g11, g12, gi0, gi1, gi2, gi3, gi4, gi5, gi6, gi7, gi8, gi9, gj0, gj1, gj2, gj3, gj4, gj5, gj6, gj7, gj8, gj9, hl]
        exact ih (e + 1) (by omega) (by omega) (by omega)
      · rw [if_neg (fun z => c2 z.2)]
        simp (disch := omega) only [eX1_endOfPart_0, eX1_endOfPart_1, eX1_endOfPart_2, eX1_endOfPart_5, eX1_endOfPart_6, eX1_endOfPart_7, eX1_endOfPart_8, eX1_endOfPart_9, eX1_endOfPart_11, eX1_endOfPart_12, eX1_endOfPart_15, eX1_endOfPart_18, eX1_endOfPart_19, eX1_endOfPart_20, eX1_endOfPart_23, eX1_endOfPart_24, eX1_endOfPart_27, eX1_endOfPart_30, eX1_endOfPart_33, eX1_endOfPart_34, ox_O_s, ox_B_s, ox_g_t, ox_A_s, ox_push_s, ox_push_n, ox_some, ox_z0, ox_z1, iI_lt, iI_eq, iI_add, iI_sub, ig_at, if_true, if_false, if_pos, if_neg, gO, g0, g1, g2, g3, g4, g5, g6, g7, g8, g9, g10, g11, g12, gi0, gi1, gi2, gi3, gi4, gi5, gi6, gi7, gi8, gi9, gj0, gj1, gj2, gj3, gj4, gj5, gj6, gj7, gj8, gj9, hl]
    · rw [if_neg (fun z => c1 z.1)]
      simp (disch := omega) only [eX1_endOfPart_0, eX1_endOfPart_1, eX1_endOfPart_2, eX1_endOfPart_5, eX1_endOfPart_6, eX1_endOfPart_7, eX1_endOfPart_8, eX1_endOfPart_9, eX1_endOfPart_11, eX1_endOfPart_12, eX1_endOfPart_15, eX1_endOfPart_18, eX1_endOfPart_19, eX1_endOfPart_20, eX1_endOfPart_23, eX1_endOfPart_24, eX1_endOfPart_27, eX1_endOfPart_30, eX1_endOfPart_33, eX1_endOfPart_34, ox_O_s, ox_B_s, ox_g_t, ox_A_s, ox_push_s, ox_push_n, ox_some, ox_z0, ox_z1, iI_lt, iI_eq, iI_add, iI_sub, ig_at, if_true, if_false, if_pos, if_neg, gO, g0, g1, g2, g3, g4, g5, g6, g7, g8, g9, g10, g11, g12, gi0, gi1, gi2, gi3, gi4, gi5, gi6, gi7, gi8, gi9, gj0, gj1, gj2, gj3, gj4, gj5, gj6, gj7, gj8, gj9, hl]
theorem k1_endOfPart {h : ox_H} {o : Nat} {X : ol} (hO : OA h o X) (hV : vx X) {p : Int} (h0 : 0 ≤ p) (h1 : p < X.1 0) : oe 20 0 [.ref o, .int (iI p), .null, .null] [] h = some (some (.int (iI (enX X p))), h) := by
  have hn := hV.2.1
  have hl := k1_levelAt hO hV (p := p) (by omega) (by omega)
  have hb := lvA_b hV p
  have hk := k1_end_loop hO hV (lv := lvA X p) (by omega) (by omega) (.int (iI p)) 31 (p + 1) (by omega) (by omega) (by omega)
  obtain ⟨gO, g0, g1, g2, g3, g4, g5, g6, g7, g8, g9, g10, g11, g12, gi0, gi1, gi2, gi3, gi4, gi5, gi6, gi7, gi8, gi9, gj0, gj1, gj2, gj3, gj4, gj5, gj6, gj7, gj8, gj9⟩ := oa_facts hO
  simp (disch := omega) only [eX1_endOfPart_0, eX1_endOfPart_1, eX1_endOfPart_2, eX1_endOfPart_5, eX1_endOfPart_6, eX1_endOfPart_7, eX1_endOfPart_8, eX1_endOfPart_9, eX1_endOfPart_11, eX1_endOfPart_12, eX1_endOfPart_15, eX1_endOfPart_18, eX1_endOfPart_19, eX1_endOfPart_20, eX1_endOfPart_23, eX1_endOfPart_24, eX1_endOfPart_27, eX1_endOfPart_30, eX1_endOfPart_33, eX1_endOfPart_34, ox_O_s, ox_B_s, ox_g_t, ox_A_s, ox_push_s, ox_push_n, ox_some, ox_z0, ox_z1, iI_lt, iI_eq, iI_add, iI_sub, ig_at, if_true, if_false, if_pos, if_neg, gO, hl]
  exact hk
