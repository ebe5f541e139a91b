/-! The reference's object. Y.1: 0 pastMany, 1 filled, 2 length, 3 numberMany; Y.2: 0 w, 1 past, 2 images, 3 text, 4 part, 5 number. -/
def ma_fs (m : Nat) (Y : ol) : List Value := [.ref (m + 1), .ref (m + 2), .int (iI (Y.1 0)), .ref (m + 3), .int (iI (Y.1 1)), .ref (m + 4), .int (iI (Y.1 2)), .ref (m + 5), .ref (m + 6), .int (iI (Y.1 3))]
def MA (h : ox_H) (m : Nat) (Y : ol) : Prop := h[m]? = some (.inr (3, ma_fs m Y)) ∧ ∀ k, k < 6 → h[m + 1 + k]? = some (.inl (0, (Y.2 k).map iI))
theorem ma_facts {h : ox_H} {m : Nat} {Y : ol} (hM : MA h m Y) : ox_obj h m 3 = some (ma_fs m Y) ∧
    ox_fld h m 3 0 = some (.ref (m + 1)) ∧ ox_fld h m 3 1 = some (.ref (m + 2)) ∧ ox_fld h m 3 2 = some (.int (iI (Y.1 0))) ∧ ox_fld h m 3 3 = some (.ref (m + 3)) ∧ ox_fld h m 3 4 = some (.int (iI (Y.1 1))) ∧ ox_fld h m 3 5 = some (.ref (m + 4)) ∧ ox_fld h m 3 6 = some (.int (iI (Y.1 2))) ∧ ox_fld h m 3 7 = some (.ref (m + 5)) ∧ ox_fld h m 3 8 = some (.ref (m + 6)) ∧ ox_fld h m 3 9 = some (.int (iI (Y.1 3))) ∧
    ox_ints h (m + 1) ox_isI = some ((Y.2 0).map iI) ∧ ox_ints h (m + 2) ox_isI = some ((Y.2 1).map iI) ∧ ox_ints h (m + 3) ox_isI = some ((Y.2 2).map iI) ∧ ox_ints h (m + 4) ox_isI = some ((Y.2 3).map iI) ∧ ox_ints h (m + 5) ox_isI = some ((Y.2 4).map iI) ∧ ox_ints h (m + 6) ox_isI = some ((Y.2 5).map iI) ∧
    ox_ints h (m + 1) ox_is0 = some ((Y.2 0).map iI) ∧ ox_ints h (m + 2) ox_is0 = some ((Y.2 1).map iI) ∧ ox_ints h (m + 3) ox_is0 = some ((Y.2 2).map iI) ∧ ox_ints h (m + 4) ox_is0 = some ((Y.2 3).map iI) ∧ ox_ints h (m + 5) ox_is0 = some ((Y.2 4).map iI) ∧ ox_ints h (m + 6) ox_is0 = some ((Y.2 5).map iI) := by
  obtain ⟨h0, hk⟩ := hM
  have f := fun k => ox_fld_of (k := k) h0
  have i := fun k (hk' : k < 6) => ox_ints_of (ok := ox_isI) (hk k hk') rfl
  have j := fun k (hk' : k < 6) => ox_ints_of (ok := ox_is0) (hk k hk') rfl
  exact ⟨ox_obj_of h0, f 0, f 1, f 2, f 3, f 4, f 5, f 6, f 7, f 8, f 9, i 0 (by omega), i 1 (by omega), i 2 (by omega), i 3 (by omega), i 4 (by omega), i 5 (by omega), j 0 (by omega), j 1 (by omega), j 2 (by omega), j 3 (by omega), j 4 (by omega), j 5 (by omega)⟩
/-- the reference's row w holds the outline X -/
def Rel (X : ol) (w : List Int) : Prop := w.length = 218 ∧ ig w 0 = X.1 0 ∧ (∀ p, 0 ≤ p → p < X.1 0 → ig w (1 + p) = ig (X.2 0) p) ∧
  (∀ p, 0 ≤ p → p < X.1 0 → ig w (31 + ig (X.2 0) p) = ig (X.2 1) (ig (X.2 0) p) ∧ ig w (61 + ig (X.2 0) p) = ig (X.2 2) (ig (X.2 0) p) ∧ ig w (91 + ig (X.2 0) p) = ig (X.2 3) (ig (X.2 0) p) ∧ ig w (121 + ig (X.2 0) p) = ig (X.2 4) (ig (X.2 0) p) ∧ ig w (151 + ig (X.2 0) p) = ig (X.2 5) (ig (X.2 0) p)) ∧
  (∀ k, 0 ≤ k → k < 4 → ig w (181 + k) = ig (X.2 6) (k + 1)) ∧ ig w 185 = ig (X.2 6) 0 ∧ (∀ l, 1 ≤ l → l ≤ 6 → ig w (185 + l) = ig (X.2 7) l) ∧ ig w 192 = X.1 2 ∧ (∀ k, 0 ≤ k → k < X.1 2 → ig w (193 + k) = ig (X.2 8) k ∧ ig w (205 + k) = ig (X.2 9) k) ∧ ig w 217 = X.1 1
theorem k3_isIn {h : ox_H} {a b c : Int} (a0 : -2147483648 ≤ a) (a1 : a < 2147483648) (b0 : -2147483648 ≤ b) (b1 : b < 2147483648) (c0 : -2147483648 ≤ c) (c1 : c < 2147483648) : oe 83 0 [.int (iI a), .int (iI b), .int (iI c)] [] h = some (some (.int (iI (zb (decide (b ≤ a ∧ a ≤ c))))), h) := by
  by_cases q1 : b ≤ a
  · by_cases q2 : a ≤ c
    · rw [decide_eq_true ⟨q1, q2⟩, zb_t]
      simp (disch := omega) only [eX3_isIn_0, eX3_isIn_1, eX3_isIn_2, eX3_isIn_5, eX3_isIn_6, eX3_isIn_7, eX3_isIn_10, eX3_isIn_11, eX3_isIn_14, eX3_isIn_15, ox_O_s, ox_B_s, ox_g_t, ox_A_s, ox_push_s, ox_push_n, ox_some, ox_z0, ox_z1, iI_lt, iI_eq, iI_add, iI_sub, ig_at, if_true, if_false, if_pos, if_neg]
    · rw [decide_eq_false (fun z => q2 z.2), zb_f]
      simp (disch := omega) only [eX3_isIn_0, eX3_isIn_1, eX3_isIn_2, eX3_isIn_5, eX3_isIn_6, eX3_isIn_7, eX3_isIn_10, eX3_isIn_11, eX3_isIn_14, eX3_isIn_15, ox_O_s, ox_B_s, ox_g_t, ox_A_s, ox_push_s, ox_push_n, ox_some, ox_z0, ox_z1, iI_lt, iI_eq, iI_add, iI_sub, ig_at, if_true, if_false, if_pos, if_neg]
  · rw [decide_eq_false (fun z => q1 z.1), zb_f]
    simp (disch := omega) only [eX3_isIn_0, eX3_isIn_1, eX3_isIn_2, eX3_isIn_5, eX3_isIn_6, eX3_isIn_7, eX3_isIn_10, eX3_isIn_11, eX3_isIn_14, eX3_isIn_15, ox_O_s, ox_B_s, ox_g_t, ox_A_s, ox_push_s, ox_push_n, ox_some, ox_z0, ox_z1, iI_lt, iI_eq, iI_add, iI_sub, ig_at, if_true, if_false, if_pos, if_neg]
theorem k2_within {h : ox_H} {a b c : Int} (a0 : -2147483648 ≤ a) (a1 : a < 2147483648) (b0 : -2147483648 ≤ b) (b1 : b < 2147483648) (c0 : -2147483648 ≤ c) (c1 : c < 2147483648) : oe 75 0 [.int (iI a), .int (iI b), .int (iI c)] [] h = some (some (.int (iI (zb (decide (b ≤ a ∧ a ≤ c))))), h) := by
  by_cases q1 : b ≤ a
  · by_cases q2 : a ≤ c
    · rw [decide_eq_true ⟨q1, q2⟩, zb_t]
      simp (disch := omega) only [eX2_within_0, eX2_within_1, eX2_within_2, eX2_within_5, eX2_within_6, eX2_within_7, eX2_within_10, eX2_within_11, eX2_within_14, eX2_within_15, ox_O_s, ox_B_s, ox_g_t, ox_A_s, ox_push_s, ox_push_n, ox_some, ox_z0, ox_z1, iI_lt, iI_eq, iI_add, iI_sub, ig_at, if_true, if_false, if_pos, if_neg]
    · rw [decide_eq_false (fun z => q2 z.2), zb_f]
      simp (disch := omega) only [eX2_within_0, eX2_within_1, eX2_within_2, eX2_within_5, eX2_within_6, eX2_within_7, eX2_within_10, eX2_within_11, eX2_within_14, eX2_within_15, ox_O_s, ox_B_s, ox_g_t, ox_A_s, ox_push_s, ox_push_n, ox_some, ox_z0, ox_z1, iI_lt, iI_eq, iI_add, iI_sub, ig_at, if_true, if_false, if_pos, if_neg]
  · rw [decide_eq_false (fun z => q1 z.1), zb_f]
    simp (disch := omega) only [eX2_within_0, eX2_within_1, eX2_within_2, eX2_within_5, eX2_within_6, eX2_within_7, eX2_within_10, eX2_within_11, eX2_within_14, eX2_within_15, ox_O_s, ox_B_s, ox_g_t, ox_A_s, ox_push_s, ox_push_n, ox_some, ox_z0, ox_z1, iI_lt, iI_eq, iI_add, iI_sub, ig_at, if_true, if_false, if_pos, if_neg]
theorem k3_many {h : ox_H} {m : Nat} {X Y : ol} (hM : MA h m Y) (hR : Rel X (Y.2 0)) (hV : vx X) : oe 85 0 [.ref m] [] h = some (some (.int (iI (X.1 0))), h) := by
  obtain ⟨mO, m0, m1, m2, m3, m4, m5, m6, m7, m8, m9, mi0, mi1, mi2, mi3, mi4, mi5, mj0, mj1, mj2, mj3, mj4, mj5⟩ := ma_facts hM
  obtain ⟨rl, r0, r1, r2, r3, r4, r5, r6, r7, r8⟩ := id hR
  simp (disch := omega) only [eX3_many_0, eX3_many_1, eX3_many_4, eX3_many_5, eX3_many_6, ox_O_s, ox_B_s, ox_g_t, ox_A_s, ox_push_s, ox_push_n, ox_some, ox_z0, ox_z1, iI_lt, iI_eq, iI_add, iI_sub, ig_at, if_true, if_false, if_pos, if_neg, mO, m0, m1, m2, m3, m4, m5, m6, m7, m8, m9, mi0, mi1, mi2, mi3, mi4, mi5, mj0, mj1, mj2, mj3, mj4, mj5, r0]
theorem k3_at {h : ox_H} {m : Nat} {X Y : ol} (hM : MA h m Y) (hR : Rel X (Y.2 0)) (hV : vx X) {p : Int} (h0 : 0 ≤ p) (h1 : p < X.1 0) : oe 86 0 [.ref m, .int (iI p)] [] h = some (some (.int (iI (ig (X.2 0) p))), h) := by
  obtain ⟨mO, m0, m1, m2, m3, m4, m5, m6, m7, m8, m9, mi0, mi1, mi2, mi3, mi4, mi5, mj0, mj1, mj2, mj3, mj4, mj5⟩ := ma_facts hM
  obtain ⟨rl, r0, r1, r2, r3, r4, r5, r6, r7, r8⟩ := id hR
  have hn := hV.2.1
  have e := r1 p h0 h1
  simp (disch := omega) only [eX3_at_0, eX3_at_1, eX3_at_4, eX3_at_5, eX3_at_6, eX3_at_7, eX3_at_8, ox_O_s, ox_B_s, ox_g_t, ox_A_s, ox_push_s, ox_push_n, ox_some, ox_z0, ox_z1, iI_lt, iI_eq, iI_add, iI_sub, ig_at, if_true, if_false, if_pos, if_neg, mO, m0, m1, m2, m3, m4, m5, m6, m7, m8, m9, mi0, mi1, mi2, mi3, mi4, mi5, mj0, mj1, mj2, mj3, mj4, mj5, e]
theorem k3_levelAt {h : ox_H} {m : Nat} {X Y : ol} (hM : MA h m Y) (hR : Rel X (Y.2 0)) (hV : vx X) {p : Int} (h0 : 0 ≤ p) (h1 : p < X.1 0) : oe 87 0 [.ref m, .int (iI p)] [] h = some (some (.int (iI (lvA X p))), h) := by
  have ha := k3_at hM hR hV h0 h1
  obtain ⟨mO, m0, m1, m2, m3, m4, m5, m6, m7, m8, m9, mi0, mi1, mi2, mi3, mi4, mi5, mj0, mj1, mj2, mj3, mj4, mj5⟩ := ma_facts hM
  obtain ⟨rl, r0, r1, r2, r3, r4, r5, r6, r7, r8⟩ := id hR
  have hb := hV.2.2.1 p h0 h1
  have e := (r2 p h0 h1).1
  rw [lvA_in h0 h1]
  simp (disch := omega) only [eX3_levelAt_0, eX3_levelAt_1, eX3_levelAt_4, eX3_levelAt_6, eX3_levelAt_7, eX3_levelAt_8, eX3_levelAt_11, eX3_levelAt_12, eX3_levelAt_13, ox_O_s, ox_B_s, ox_g_t, ox_A_s, ox_push_s, ox_push_n, ox_some, ox_z0, ox_z1, iI_lt, iI_eq, iI_add, iI_sub, ig_at, if_true, if_false, if_pos, if_neg, mO, m0, m1, m2, m3, m4, m5, m6, m7, m8, m9, mi0, mi1, mi2, mi3, mi4, mi5, mj0, mj1, mj2, mj3, mj4, mj5, ha, e]
theorem k3_kindAt {h : ox_H} {m : Nat} {X Y : ol} (hM : MA h m Y) (hR : Rel X (Y.2 0)) (hV : vx X) {p : Int} (h0 : 0 ≤ p) (h1 : p < X.1 0) : oe 88 0 [.ref m, .int (iI p)] [] h = some (some (.int (iI (kdA X p))), h) := by
  have ha := k3_at hM hR hV h0 h1
  obtain ⟨mO, m0, m1, m2, m3, m4, m5, m6, m7, m8, m9, mi0, mi1, mi2, mi3, mi4, mi5, mj0, mj1, mj2, mj3, mj4, mj5⟩ := ma_facts hM
  obtain ⟨rl, r0, r1, r2, r3, r4, r5, r6, r7, r8⟩ := id hR
  have hb := hV.2.2.1 p h0 h1
  have e := (r2 p h0 h1).2.1
  rw [show kdA X p = ig (X.2 2) (ig (X.2 0) p) from if_pos ⟨h0, h1⟩]
  simp (disch := omega) only [eX3_kindAt_0, eX3_kindAt_1, eX3_kindAt_4, eX3_kindAt_6, eX3_kindAt_7, eX3_kindAt_8, eX3_kindAt_11, eX3_kindAt_12, eX3_kindAt_13, ox_O_s, ox_B_s, ox_g_t, ox_A_s, ox_push_s, ox_push_n, ox_some, ox_z0, ox_z1, iI_lt, iI_eq, iI_add, iI_sub, ig_at, if_true, if_false, if_pos, if_neg, mO, m0, m1, m2, m3, m4, m5, m6, m7, m8, m9, mi0, mi1, mi2, mi3, mi4, mi5, mj0, mj1, mj2, mj3, mj4, mj5, ha, e]
theorem k3_pf_loop {h : ox_H} {m : Nat} {X Y : ol} (hM : MA h m Y) (hR : Rel X (Y.2 0)) (hV : vx X) {p : Int} (h0 : 0 ≤ p) (h1 : p < X.1 0) : ∀ (k : Nat) (q : Int), 0 ≤ q → q + k = p → oe 89 2 [.ref m, .int (iI (ig (X.2 0) p)), .int (iI q)] [] h = some (some (.int (iI p)), h) := by
  have hm := k3_many hM hR hV
  obtain ⟨mO, m0, m1, m2, m3, m4, m5, m6, m7, m8, m9, mi0, mi1, mi2, mi3, mi4, mi5, mj0, mj1, mj2, mj3, mj4, mj5⟩ := ma_facts hM
  obtain ⟨vl, vn, vo, vi, va, vfst, vs, vz, vr, vc, vt, vm, vk⟩ := id hV
  have l0 : (X.2 0).length = 30 := vl 0 (by omega)
  have l1 : (X.2 1).length = 30 := vl 1 (by omega)
  have l2 : (X.2 2).length = 30 := vl 2 (by omega)
  have l3 : (X.2 3).length = 30 := vl 3 (by omega)
  have l4 : (X.2 4).length = 30 := vl 4 (by omega)
  have l5 : (X.2 5).length = 30 := vl 5 (by omega)
  have l6 : (X.2 6).length = 5 := vl 6 (by omega)
  have l7 : (X.2 7).length = 7 := vl 7 (by omega)
  have l8 : (X.2 8).length = 12 := vl 8 (by omega)
  have l9 : (X.2 9).length = 12 := vl 9 (by omega)
  intro k
  induction k with
  | zero =>
    intro q hq e
    have e : q = p := by omega
    subst e
    have ha := k3_at hM hR hV h0 h1
    have := vo q h0 h1
    rw [eX3_placeOf_2]
    simp (disch := omega) only [eX3_placeOf_0, eX3_placeOf_1, eX3_placeOf_3, eX3_placeOf_4, eX3_placeOf_7, eX3_placeOf_10, eX3_placeOf_11, eX3_placeOf_12, eX3_placeOf_15, eX3_placeOf_16, eX3_placeOf_19, eX3_placeOf_20, eX3_placeOf_21, eX3_placeOf_24, eX3_placeOf_27, eX3_placeOf_29, ox_O_s, ox_B_s, ox_g_t, ox_A_s, ox_push_s, ox_push_n, ox_some, ox_z0, ox_z1, iI_lt, iI_eq, iI_add, iI_sub, ig_at, if_true, if_false, if_pos, if_neg, mO, hm, ha]
  | succ k ih =>
    intro q hq e
    have b1 := vo q hq (by omega)
    have b2 := vo p h0 h1
    have ne : ¬ ig (X.2 0) q = ig (X.2 0) p := fun z => by
      have := vi q p hq (by omega) h0 h1 z
      omega
    have ha := k3_at hM hR hV hq (show q < X.1 0 by omega)
    rw [eX3_placeOf_2]
    simp (disch := omega) only [eX3_placeOf_0, eX3_placeOf_1, eX3_placeOf_3, eX3_placeOf_4, eX3_placeOf_7, eX3_placeOf_10, eX3_placeOf_11, eX3_placeOf_12, eX3_placeOf_15, eX3_placeOf_16, eX3_placeOf_19, eX3_placeOf_20, eX3_placeOf_21, eX3_placeOf_24, eX3_placeOf_27, eX3_placeOf_29, ox_O_s, ox_B_s, ox_g_t, ox_A_s, ox_push_s, ox_push_n, ox_some, ox_z0, ox_z1, iI_lt, iI_eq, iI_add, iI_sub, ig_at, if_true, if_false, if_pos, if_neg, mO, hm, ha, ne]
    exact ih (q + 1) (by omega) (by omega)
theorem k3_placeOf1 {h : ox_H} {m : Nat} {X Y : ol} (hM : MA h m Y) (hR : Rel X (Y.2 0)) (hV : vx X) {p : Int} (h0 : 0 ≤ p) (h1 : p < X.1 0) : oe 89 0 [.ref m, .int (iI (ig (X.2 0) p)), .null] [] h = some (some (.int (iI p)), h) := by
  have hl := k3_pf_loop hM hR hV h0 h1 p.toNat 0 (by omega) (by omega)
  simp (disch := omega) only [eX3_placeOf_0, eX3_placeOf_1, eX3_placeOf_3, eX3_placeOf_4, eX3_placeOf_7, eX3_placeOf_10, eX3_placeOf_11, eX3_placeOf_12, eX3_placeOf_15, eX3_placeOf_16, eX3_placeOf_19, eX3_placeOf_20, eX3_placeOf_21, eX3_placeOf_24, eX3_placeOf_27, eX3_placeOf_29, ox_O_s, ox_B_s, ox_g_t, ox_A_s, ox_push_s, ox_push_n, ox_some, ox_z0, ox_z1, iI_lt, iI_eq, iI_add, iI_sub, ig_at, if_true, if_false, if_pos, if_neg]
  exact hl
theorem k3_pn_loop {h : ox_H} {m : Nat} {X Y : ol} (hM : MA h m Y) (hR : Rel X (Y.2 0)) (hV : vx X) {z : Int} (z1 : -2147483648 ≤ z) (z2 : z < 2147483648) (hz : ∀ p, 0 ≤ p → p < X.1 0 → ig (X.2 0) p ≠ z) : ∀ (k : Nat) (q : Int), 0 ≤ q → q + k = X.1 0 → oe 89 2 [.ref m, .int (iI z), .int (iI q)] [] h = some (some (.int (iI (-9))), h) := by
  have hm := k3_many hM hR hV
  obtain ⟨mO, m0, m1, m2, m3, m4, m5, m6, m7, m8, m9, mi0, mi1, mi2, mi3, mi4, mi5, mj0, mj1, mj2, mj3, mj4, mj5⟩ := ma_facts hM
  obtain ⟨vl, vn, vo, vi, va, vfst, vs, vz, vr, vc, vt, vm, vk⟩ := id hV
  have l0 : (X.2 0).length = 30 := vl 0 (by omega)
  have l1 : (X.2 1).length = 30 := vl 1 (by omega)
  have l2 : (X.2 2).length = 30 := vl 2 (by omega)
  have l3 : (X.2 3).length = 30 := vl 3 (by omega)
  have l4 : (X.2 4).length = 30 := vl 4 (by omega)
  have l5 : (X.2 5).length = 30 := vl 5 (by omega)
  have l6 : (X.2 6).length = 5 := vl 6 (by omega)
  have l7 : (X.2 7).length = 7 := vl 7 (by omega)
  have l8 : (X.2 8).length = 12 := vl 8 (by omega)
  have l9 : (X.2 9).length = 12 := vl 9 (by omega)
  intro k
  induction k with
  | zero =>
    intro q hq e
    rw [eX3_placeOf_2]
    simp (disch := omega) only [eX3_placeOf_0, eX3_placeOf_1, eX3_placeOf_3, eX3_placeOf_4, eX3_placeOf_7, eX3_placeOf_10, eX3_placeOf_11, eX3_placeOf_12, eX3_placeOf_15, eX3_placeOf_16, eX3_placeOf_19, eX3_placeOf_20, eX3_placeOf_21, eX3_placeOf_24, eX3_placeOf_27, eX3_placeOf_29, ox_O_s, ox_B_s, ox_g_t, ox_A_s, ox_push_s, ox_push_n, ox_some, ox_z0, ox_z1, iI_lt, iI_eq, iI_add, iI_sub, ig_at, if_true, if_false, if_pos, if_neg, mO, hm]
  | succ k ih =>
    intro q hq e
    have b1 := vo q hq (by omega)
    have ne := hz q hq (by omega)
    have ha := k3_at hM hR hV hq (show q < X.1 0 by omega)
    rw [eX3_placeOf_2]
    simp (disch := omega) only [eX3_placeOf_0, eX3_placeOf_1, eX3_placeOf_3, eX3_placeOf_4, eX3_placeOf_7, eX3_placeOf_10, eX3_placeOf_11, eX3_placeOf_12, eX3_placeOf_15, eX3_placeOf_16, eX3_placeOf_19, eX3_placeOf_20, eX3_placeOf_21, eX3_placeOf_24, eX3_placeOf_27, eX3_placeOf_29, ox_O_s, ox_B_s, ox_g_t, ox_A_s, ox_push_s, ox_push_n, ox_some, ox_z0, ox_z1, iI_lt, iI_eq, iI_add, iI_sub, ig_at, if_true, if_false, if_pos, if_neg, mO, hm, ha, ne]
    exact ih (q + 1) (by omega) (by omega)
theorem k3_placeOf0 {h : ox_H} {m : Nat} {X Y : ol} (hM : MA h m Y) (hR : Rel X (Y.2 0)) (hV : vx X) {z : Int} (z1 : -2147483648 ≤ z) (z2 : z < 2147483648) (hz : ∀ p, 0 ≤ p → p < X.1 0 → ig (X.2 0) p ≠ z) : oe 89 0 [.ref m, .int (iI z), .null] [] h = some (some (.int (iI (-9))), h) := by
  have hn := hV.2.1
  have hl := k3_pn_loop hM hR hV z1 z2 hz (X.1 0).toNat 0 (by omega) (by omega)
  simp (disch := omega) only [eX3_placeOf_0, eX3_placeOf_1, eX3_placeOf_3, eX3_placeOf_4, eX3_placeOf_7, eX3_placeOf_10, eX3_placeOf_11, eX3_placeOf_12, eX3_placeOf_15, eX3_placeOf_16, eX3_placeOf_19, eX3_placeOf_20, eX3_placeOf_21, eX3_placeOf_24, eX3_placeOf_27, eX3_placeOf_29, ox_O_s, ox_B_s, ox_g_t, ox_A_s, ox_push_s, ox_push_n, ox_some, ox_z0, ox_z1, iI_lt, iI_eq, iI_add, iI_sub, ig_at, if_true, if_false, if_pos, if_neg]
  exact hl
theorem k3_isHeading1 {h : ox_H} {m : Nat} {X Y : ol} (hM : MA h m Y) (hR : Rel X (Y.2 0)) (hV : vx X) {p : Int} (h0 : 0 ≤ p) (h1 : p < X.1 0) : oe 90 0 [.ref m, .int (iI (ig (X.2 0) p))] [] h = some (some (.int (iI 1)), h) := by
  have hp := k3_placeOf1 hM hR hV h0 h1
  have hn := hV.2.1
  obtain ⟨mO, m0, m1, m2, m3, m4, m5, m6, m7, m8, m9, mi0, mi1, mi2, mi3, mi4, mi5, mj0, mj1, mj2, mj3, mj4, mj5⟩ := ma_facts hM
  simp (disch := omega) only [eX3_isHeading_0, eX3_isHeading_1, eX3_isHeading_2, eX3_isHeading_5, eX3_isHeading_7, eX3_isHeading_10, eX3_isHeading_11, eX3_isHeading_14, eX3_isHeading_15, ox_O_s, ox_B_s, ox_g_t, ox_A_s, ox_push_s, ox_push_n, ox_some, ox_z0, ox_z1, iI_lt, iI_eq, iI_add, iI_sub, ig_at, if_true, if_false, if_pos, if_neg, mO, hp]
theorem k3_isHeading0 {h : ox_H} {m : Nat} {X Y : ol} (hM : MA h m Y) (hR : Rel X (Y.2 0)) (hV : vx X) {z : Int} (z1 : -2147483648 ≤ z) (z2 : z < 2147483648) (hz : ∀ p, 0 ≤ p → p < X.1 0 → ig (X.2 0) p ≠ z) : oe 90 0 [.ref m, .int (iI z)] [] h = some (some (.int (iI 0)), h) := by
  have hp := k3_placeOf0 hM hR hV z1 z2 hz
  obtain ⟨mO, m0, m1, m2, m3, m4, m5, m6, m7, m8, m9, mi0, mi1, mi2, mi3, mi4, mi5, mj0, mj1, mj2, mj3, mj4, mj5⟩ := ma_facts hM
  simp (disch := omega) only [eX3_isHeading_0, eX3_isHeading_1, eX3_isHeading_2, eX3_isHeading_5, eX3_isHeading_7, eX3_isHeading_10, eX3_isHeading_11, eX3_isHeading_14, eX3_isHeading_15, ox_O_s, ox_B_s, ox_g_t, ox_A_s, ox_push_s, ox_push_n, ox_some, ox_z0, ox_z1, iI_lt, iI_eq, iI_add, iI_sub, ig_at, if_true, if_false, if_pos, if_neg, mO, hp]
theorem k3_end_loop {h : ox_H} {m : Nat} {X Y : ol} (hM : MA h m Y) (hR : Rel X (Y.2 0)) (hV : vx X) {p : Int} (p0 : 0 ≤ p) (p1 : p < X.1 0) : ∀ (k : Nat) (e : Int), 0 ≤ e → e ≤ X.1 0 → X.1 0 - e < k → oe 91 4 [.ref m, .int (iI p), .int (iI e)] [] h = some (some (.int (iI (eP (lvA X) (X.1 0) (lvA X p) k e))), h) := by
  have hm := k3_many hM hR hV
  have hlp := k3_levelAt hM hR hV p0 p1
  have hbp := lvA_b hV p
  obtain ⟨mO, m0, m1, m2, m3, m4, m5, m6, m7, m8, m9, mi0, mi1, mi2, mi3, mi4, mi5, mj0, mj1, mj2, mj3, mj4, mj5⟩ := ma_facts hM
  obtain ⟨vl, vn, vo, vi, va, vfst, vs, vz, vr, vc, vt, vm, vk⟩ := id hV
  have l0 : (X.2 0).length = 30 := vl 0 (by omega)
  have l1 : (X.2 1).length = 30 := vl 1 (by omega)
  have l2 : (X.2 2).length = 30 := vl 2 (by omega)
  have l3 : (X.2 3).length = 30 := vl 3 (by omega)
  have l4 : (X.2 4).length = 30 := vl 4 (by omega)
  have l5 : (X.2 5).length = 30 := vl 5 (by omega)
  have l6 : (X.2 6).length = 5 := vl 6 (by omega)
  have l7 : (X.2 7).length = 7 := vl 7 (by omega)
  have l8 : (X.2 8).length = 12 := vl 8 (by omega)
  have l9 : (X.2 9).length = 12 := vl 9 (by omega)
  intro k
  induction k with
  | zero => intro e a b c; omega
  | succ k ih =>
    intro e a b c
    rw [eX3_endOf_4]
    unfold eP
    by_cases c1 : e < X.1 0
    · have hl := k3_levelAt hM hR hV a c1
      have hb := lvA_b hV e
      by_cases c2 : lvA X p < lvA X e
      · rw [if_pos ⟨c1, c2⟩]
        simp (disch := omega) only [eX3_endOf_0, eX3_endOf_1, eX3_endOf_2, eX3_endOf_3, eX3_endOf_5, eX3_endOf_6, eX3_endOf_9, eX3_endOf_12, eX3_endOf_13, eX3_endOf_14, eX3_endOf_17, eX3_endOf_18, eX3_endOf_19, eX3_endOf_22, eX3_endOf_25, eX3_endOf_28, eX3_endOf_31, eX3_endOf_32, ox_O_s, ox_B_s, ox_g_t, ox_A_s, ox_push_s, ox_push_n, ox_some, ox_z0, ox_z1, iI_lt, iI_eq, iI_add, iI_sub, ig_at, if_true, if_false, if_pos, if_neg, mO, hm, hl, hlp]
        exact ih (e + 1) (by omega) (by omega) (by omega)
      · rw [if_neg (fun z => c2 z.2)]
        simp (disch := omega) only [eX3_endOf_0, eX3_endOf_1, eX3_endOf_2, eX3_endOf_3, eX3_endOf_5, eX3_endOf_6, eX3_endOf_9, eX3_endOf_12, eX3_endOf_13, eX3_endOf_14, eX3_endOf_17, eX3_endOf_18, eX3_endOf_19, eX3_endOf_22, eX3_endOf_25, eX3_endOf_28, eX3_endOf_31, eX3_endOf_32, ox_O_s, ox_B_s, ox_g_t, ox_A_s, ox_push_s, ox_push_n, ox_some, ox_z0, ox_z1, iI_lt, iI_eq, iI_add, iI_sub, ig_at, if_true, if_false, if_pos, if_neg, mO, hm, hl, hlp]
    · rw [if_neg (fun z => c1 z.1)]
      simp (disch := omega) only [eX3_endOf_0, eX3_endOf_1, eX3_endOf_2, eX3_endOf_3, eX3_endOf_5, eX3_endOf_6, eX3_endOf_9, eX3_endOf_12, eX3_endOf_13, eX3_endOf_14, eX3_endOf_17, eX3_endOf_18, eX3_endOf_19, eX3_endOf_22, eX3_endOf_25, eX3_endOf_28, eX3_endOf_31, eX3_endOf_32, ox_O_s, ox_B_s, ox_g_t, ox_A_s, ox_push_s, ox_push_n, ox_some, ox_z0, ox_z1, iI_lt, iI_eq, iI_add, iI_sub, ig_at, if_true, if_false, if_pos, if_neg, mO, hm]
theorem k3_endOf {h : ox_H} {m : Nat} {X Y : ol} (hM : MA h m Y) (hR : Rel X (Y.2 0)) (hV : vx X) {p : Int} (p0 : 0 ≤ p) (p1 : p < X.1 0) : oe 91 0 [.ref m, .int (iI p), .null] [] h = some (some (.int (iI (enX X p))), h) := by
  have hn := hV.2.1
  have hk := k3_end_loop hM hR hV p0 p1 31 (p + 1) (by omega) (by omega) (by omega)
  simp (disch := omega) only [eX3_endOf_0, eX3_endOf_1, eX3_endOf_2, eX3_endOf_3, eX3_endOf_5, eX3_endOf_6, eX3_endOf_9, eX3_endOf_12, eX3_endOf_13, eX3_endOf_14, eX3_endOf_17, eX3_endOf_18, eX3_endOf_19, eX3_endOf_22, eX3_endOf_25, eX3_endOf_28, eX3_endOf_31, eX3_endOf_32, ox_O_s, ox_B_s, ox_g_t, ox_A_s, ox_push_s, ox_push_n, ox_some, ox_z0, ox_z1, iI_lt, iI_eq, iI_add, iI_sub, ig_at, if_true, if_false, if_pos, if_neg]
  exact hk
/-- the reference's 'none' -/
def nz (q : Int) : Int := if q < 0 then -9 else q
theorem nz_n {q : Int} (h : q < 0) : nz q = -9 := if_pos h
theorem nz_p {q : Int} (h : 0 ≤ q) : nz q = q := if_neg (by omega)
theorem k3_po_loop {h : ox_H} {m : Nat} {X Y : ol} (hM : MA h m Y) (hR : Rel X (Y.2 0)) (hV : vx X) {p : Int} (p0 : 0 ≤ p) (p1 : p < X.1 0) : ∀ k : Nat, (k : Int) ≤ X.1 0 → oe 92 4 [.ref m, .int (iI p), .int (iI ((k : Int) - 1))] [] h = some (some (.int (iI (nz (pA (lvA X) (lvA X p) k)))), h) := by
  have hlp := k3_levelAt hM hR hV p0 p1
  have hbp := lvA_b hV p
  obtain ⟨mO, m0, m1, m2, m3, m4, m5, m6, m7, m8, m9, mi0, mi1, mi2, mi3, mi4, mi5, mj0, mj1, mj2, mj3, mj4, mj5⟩ := ma_facts hM
  have hn := hV.2.1
  intro k
  induction k with
  | zero =>
    intro hk
    rw [eX3_parentOf_4]
    simp (disch := omega) only [eX3_parentOf_0, eX3_parentOf_1, eX3_parentOf_2, eX3_parentOf_3, eX3_parentOf_5, eX3_parentOf_8, eX3_parentOf_9, eX3_parentOf_10, eX3_parentOf_13, eX3_parentOf_14, eX3_parentOf_15, eX3_parentOf_18, eX3_parentOf_21, eX3_parentOf_24, eX3_parentOf_27, eX3_parentOf_28, eX3_parentOf_31, eX3_parentOf_33, eX3_parentOf_36, eX3_parentOf_37, ox_O_s, ox_B_s, ox_g_t, ox_A_s, ox_push_s, ox_push_n, ox_some, ox_z0, ox_z1, iI_lt, iI_eq, iI_add, iI_sub, ig_at, if_true, if_false, if_pos, if_neg, mO]
    rfl
  | succ k ih =>
    intro hk
    have hl := k3_levelAt hM hR hV (show (0 : Int) ≤ k by omega) (show (k : Int) < X.1 0 by omega)
    have hb := lvA_b hV (k : Int)
    rw [eX3_parentOf_4, show ((k + 1 : Nat) : Int) - 1 = (k : Int) by omega]
    unfold pA
    by_cases c : lvA X k < lvA X p
    · rw [if_pos c, nz_p (by omega)]
      simp (disch := omega) only [eX3_parentOf_0, eX3_parentOf_1, eX3_parentOf_2, eX3_parentOf_3, eX3_parentOf_5, eX3_parentOf_8, eX3_parentOf_9, eX3_parentOf_10, eX3_parentOf_13, eX3_parentOf_14, eX3_parentOf_15, eX3_parentOf_18, eX3_parentOf_21, eX3_parentOf_24, eX3_parentOf_27, eX3_parentOf_28, eX3_parentOf_31, eX3_parentOf_33, eX3_parentOf_36, eX3_parentOf_37, ox_O_s, ox_B_s, ox_g_t, ox_A_s, ox_push_s, ox_push_n, ox_some, ox_z0, ox_z1, iI_lt, iI_eq, iI_add, iI_sub, ig_at, if_true, if_false, if_pos, if_neg, mO, hl, hlp]
    · rw [if_neg c]
      simp (disch := omega) only [eX3_parentOf_0, eX3_parentOf_1, eX3_parentOf_2, eX3_parentOf_3, eX3_parentOf_5, eX3_parentOf_8, eX3_parentOf_9, eX3_parentOf_10, eX3_parentOf_13, eX3_parentOf_14, eX3_parentOf_15, eX3_parentOf_18, eX3_parentOf_21, eX3_parentOf_24, eX3_parentOf_27, eX3_parentOf_28, eX3_parentOf_31, eX3_parentOf_33, eX3_parentOf_36, eX3_parentOf_37, ox_O_s, ox_B_s, ox_g_t, ox_A_s, ox_push_s, ox_push_n, ox_some, ox_z0, ox_z1, iI_lt, iI_eq, iI_add, iI_sub, ig_at, if_true, if_false, if_pos, if_neg, mO, hl, hlp]
      exact ih (by omega)
theorem k3_parentOf {h : ox_H} {m : Nat} {X Y : ol} (hM : MA h m Y) (hR : Rel X (Y.2 0)) (hV : vx X) {p : Int} (p0 : 0 ≤ p) (p1 : p < X.1 0) : oe 92 0 [.ref m, .int (iI p), .null] [] h = some (some (.int (iI (nz (pA (lvA X) (lvA X p) p.toNat)))), h) := by
  have hn := hV.2.1
  have hk := k3_po_loop hM hR hV p0 p1 p.toNat (by omega)
  rw [show ((p.toNat : Nat) : Int) = p by omega] at hk
  simp (disch := omega) only [eX3_parentOf_0, eX3_parentOf_1, eX3_parentOf_2, eX3_parentOf_3, eX3_parentOf_5, eX3_parentOf_8, eX3_parentOf_9, eX3_parentOf_10, eX3_parentOf_13, eX3_parentOf_14, eX3_parentOf_15, eX3_parentOf_18, eX3_parentOf_21, eX3_parentOf_24, eX3_parentOf_27, eX3_parentOf_28, eX3_parentOf_31, eX3_parentOf_33, eX3_parentOf_36, eX3_parentOf_37, ox_O_s, ox_B_s, ox_g_t, ox_A_s, ox_push_s, ox_push_n, ox_some, ox_z0, ox_z1, iI_lt, iI_eq, iI_add, iI_sub, ig_at, if_true, if_false, if_pos, if_neg]
  exact hk
theorem k3_pr_loop {h : ox_H} {m : Nat} {X Y : ol} (hM : MA h m Y) (hR : Rel X (Y.2 0)) (hV : vx X) {lv : Int} (a0 : -2147483648 ≤ lv) (a1 : lv < 2147483648) (v1 : Value) : ∀ k : Nat, (k : Int) ≤ X.1 0 → oe 95 4 [.ref m, v1, .int (iI lv), .int (iI ((k : Int) - 1))] [] h = some (some (.int (iI (nz (pA (lvA X) lv k)))), h) := by
  obtain ⟨mO, m0, m1, m2, m3, m4, m5, m6, m7, m8, m9, mi0, mi1, mi2, mi3, mi4, mi5, mj0, mj1, mj2, mj3, mj4, mj5⟩ := ma_facts hM
  have hn := hV.2.1
  intro k
  induction k with
  | zero =>
    intro hk
    rw [eX3_parentFor_4]
    simp (disch := omega) only [eX3_parentFor_0, eX3_parentFor_1, eX3_parentFor_2, eX3_parentFor_3, eX3_parentFor_5, eX3_parentFor_8, eX3_parentFor_9, eX3_parentFor_10, eX3_parentFor_13, eX3_parentFor_14, eX3_parentFor_17, eX3_parentFor_20, eX3_parentFor_23, eX3_parentFor_24, eX3_parentFor_27, eX3_parentFor_29, eX3_parentFor_32, eX3_parentFor_33, ox_O_s, ox_B_s, ox_g_t, ox_A_s, ox_push_s, ox_push_n, ox_some, ox_z0, ox_z1, iI_lt, iI_eq, iI_add, iI_sub, ig_at, if_true, if_false, if_pos, if_neg, mO]
    rfl
  | succ k ih =>
    intro hk
    have hl := k3_levelAt hM hR hV (show (0 : Int) ≤ k by omega) (show (k : Int) < X.1 0 by omega)
    have hb := lvA_b hV (k : Int)
    rw [eX3_parentFor_4, show ((k + 1 : Nat) : Int) - 1 = (k : Int) by omega]
    unfold pA
    by_cases c : lvA X k < lv
    · rw [if_pos c, nz_p (by omega)]
      simp (disch := omega) only [eX3_parentFor_0, eX3_parentFor_1, eX3_parentFor_2, eX3_parentFor_3, eX3_parentFor_5, eX3_parentFor_8, eX3_parentFor_9, eX3_parentFor_10, eX3_parentFor_13, eX3_parentFor_14, eX3_parentFor_17, eX3_parentFor_20, eX3_parentFor_23, eX3_parentFor_24, eX3_parentFor_27, eX3_parentFor_29, eX3_parentFor_32, eX3_parentFor_33, ox_O_s, ox_B_s, ox_g_t, ox_A_s, ox_push_s, ox_push_n, ox_some, ox_z0, ox_z1, iI_lt, iI_eq, iI_add, iI_sub, ig_at, if_true, if_false, if_pos, if_neg, mO, hl]
    · rw [if_neg c]
      simp (disch := omega) only [eX3_parentFor_0, eX3_parentFor_1, eX3_parentFor_2, eX3_parentFor_3, eX3_parentFor_5, eX3_parentFor_8, eX3_parentFor_9, eX3_parentFor_10, eX3_parentFor_13, eX3_parentFor_14, eX3_parentFor_17, eX3_parentFor_20, eX3_parentFor_23, eX3_parentFor_24, eX3_parentFor_27, eX3_parentFor_29, eX3_parentFor_32, eX3_parentFor_33, ox_O_s, ox_B_s, ox_g_t, ox_A_s, ox_push_s, ox_push_n, ox_some, ox_z0, ox_z1, iI_lt, iI_eq, iI_add, iI_sub, ig_at, if_true, if_false, if_pos, if_neg, mO, hl]
      exact ih (by omega)
theorem k3_parentFor {h : ox_H} {m : Nat} {X Y : ol} (hM : MA h m Y) (hR : Rel X (Y.2 0)) (hV : vx X) {p lv : Int} (a0 : -2147483648 ≤ lv) (a1 : lv < 2147483648) (p0 : 0 ≤ p) (p1 : p ≤ X.1 0) : oe 95 0 [.ref m, .int (iI p), .int (iI lv), .null] [] h = some (some (.int (iI (nz (pA (lvA X) lv p.toNat)))), h) := by
  have hn := hV.2.1
  have hk := k3_pr_loop hM hR hV a0 a1 (.int (iI p)) p.toNat (by omega)
  rw [show ((p.toNat : Nat) : Int) = p by omega] at hk
  simp (disch := omega) only [eX3_parentFor_0, eX3_parentFor_1, eX3_parentFor_2, eX3_parentFor_3, eX3_parentFor_5, eX3_parentFor_8, eX3_parentFor_9, eX3_parentFor_10, eX3_parentFor_13, eX3_parentFor_14, eX3_parentFor_17, eX3_parentFor_20, eX3_parentFor_23, eX3_parentFor_24, eX3_parentFor_27, eX3_parentFor_29, eX3_parentFor_32, eX3_parentFor_33, ox_O_s, ox_B_s, ox_g_t, ox_A_s, ox_push_s, ox_push_n, ox_some, ox_z0, ox_z1, iI_lt, iI_eq, iI_add, iI_sub, ig_at, if_true, if_false, if_pos, if_neg]
  exact hk
theorem k3_isAllowed {h : ox_H} {m : Nat} {X Y : ol} (hM : MA h m Y) (hR : Rel X (Y.2 0)) (hV : vx X) {q k : Int} (q0 : -1 ≤ q) (q1 : q < X.1 0) (k0 : 0 ≤ k) (k1 : k ≤ 3) : oe 93 0 [.ref m, .int (iI (nz q)), .int (iI k), .null] [] h = some (some (.int (iI (zb (alw X (kdA X q) k)))), h) := by
  obtain ⟨mO, m0, m1, m2, m3, m4, m5, m6, m7, m8, m9, mi0, mi1, mi2, mi3, mi4, mi5, mj0, mj1, mj2, mj3, mj4, mj5⟩ := ma_facts hM
  obtain ⟨rl, r0, r1, r2, r3, r4, r5, r6, r7, r8⟩ := id hR
  have hn := hV.2.1
  by_cases c : q < 0
  · have e : q = -1 := by omega
    subst e
    have hr := hV.2.2.2.2.2.2.2.2.1 0 (by omega) (by omega)
    have hb := bt_b (ig (X.2 6) 0) k
    rw [nz_n c, show kdA X (-1) = -1 from if_neg (by omega)]
    unfold alw
    rw [show (-1 : Int) + 1 = 0 by omega]
    by_cases c2 : bt (ig (X.2 6) 0) k = 1
    · rw [decide_eq_true c2, zb_t]
      simp (disch := omega) only [eX3_isAllowed_0, eX3_isAllowed_1, eX3_isAllowed_4, eX3_isAllowed_7, eX3_isAllowed_8, eX3_isAllowed_10, eX3_isAllowed_13, eX3_isAllowed_14, eX3_isAllowed_17, eX3_isAllowed_18, eX3_isAllowed_19, eX3_isAllowed_22, eX3_isAllowed_23, eX3_isAllowed_24, eX3_isAllowed_25, eX3_isAllowed_26, eX3_isAllowed_27, eX3_isAllowed_28, eX3_isAllowed_29, eX3_isAllowed_30, eX3_isAllowed_31, eX3_isAllowed_34, eX3_isAllowed_35, eX3_isAllowed_38, eX3_isAllowed_39, ox_O_s, ox_B_s, ox_g_t, ox_A_s, ox_push_s, ox_push_n, ox_some, ox_z0, ox_z1, iI_lt, iI_eq, iI_add, iI_sub, ig_at, if_true, if_false, if_pos, if_neg, mO, m0, m1, m2, m3, m4, m5, m6, m7, m8, m9, mi0, mi1, mi2, mi3, mi4, mi5, mj0, mj1, mj2, mj3, mj4, mj5, show (181 : Int) + 4 = 185 from rfl, r4, bt_eq]
    · rw [decide_eq_false c2, zb_f]
      simp (disch := omega) only [eX3_isAllowed_0, eX3_isAllowed_1, eX3_isAllowed_4, eX3_isAllowed_7, eX3_isAllowed_8, eX3_isAllowed_10, eX3_isAllowed_13, eX3_isAllowed_14, eX3_isAllowed_17, eX3_isAllowed_18, eX3_isAllowed_19, eX3_isAllowed_22, eX3_isAllowed_23, eX3_isAllowed_24, eX3_isAllowed_25, eX3_isAllowed_26, eX3_isAllowed_27, eX3_isAllowed_28, eX3_isAllowed_29, eX3_isAllowed_30, eX3_isAllowed_31, eX3_isAllowed_34, eX3_isAllowed_35, eX3_isAllowed_38, eX3_isAllowed_39, ox_O_s, ox_B_s, ox_g_t, ox_A_s, ox_push_s, ox_push_n, ox_some, ox_z0, ox_z1, iI_lt, iI_eq, iI_add, iI_sub, ig_at, if_true, if_false, if_pos, if_neg, mO, m0, m1, m2, m3, m4, m5, m6, m7, m8, m9, mi0, mi1, mi2, mi3, mi4, mi5, mj0, mj1, mj2, mj3, mj4, mj5, show (181 : Int) + 4 = 185 from rfl, r4, bt_eq]
  · have hk := k3_kindAt hM hR hV (show 0 ≤ q by omega) q1
    have hkd := kdA_in hV (show 0 ≤ q by omega) q1
    have hr := hV.2.2.2.2.2.2.2.2.1 (kdA X q + 1) (by omega) (by omega)
    have hb := bt_b (ig (X.2 6) (kdA X q + 1)) k
    have e := r3 (kdA X q) (by omega) (by omega)
    rw [nz_p (by omega)]
    unfold alw
    by_cases c2 : bt (ig (X.2 6) (kdA X q + 1)) k = 1
    · rw [decide_eq_true c2, zb_t]
      simp (disch := omega) only [eX3_isAllowed_0, eX3_isAllowed_1, eX3_isAllowed_4, eX3_isAllowed_7, eX3_isAllowed_8, eX3_isAllowed_10, eX3_isAllowed_13, eX3_isAllowed_14, eX3_isAllowed_17, eX3_isAllowed_18, eX3_isAllowed_19, eX3_isAllowed_22, eX3_isAllowed_23, eX3_isAllowed_24, eX3_isAllowed_25, eX3_isAllowed_26, eX3_isAllowed_27, eX3_isAllowed_28, eX3_isAllowed_29, eX3_isAllowed_30, eX3_isAllowed_31, eX3_isAllowed_34, eX3_isAllowed_35, eX3_isAllowed_38, eX3_isAllowed_39, ox_O_s, ox_B_s, ox_g_t, ox_A_s, ox_push_s, ox_push_n, ox_some, ox_z0, ox_z1, iI_lt, iI_eq, iI_add, iI_sub, ig_at, if_true, if_false, if_pos, if_neg, mO, m0, m1, m2, m3, m4, m5, m6, m7, m8, m9, mi0, mi1, mi2, mi3, mi4, mi5, mj0, mj1, mj2, mj3, mj4, mj5, hk, e, bt_eq]
    · rw [decide_eq_false c2, zb_f]
      simp (disch := omega) only [eX3_isAllowed_0, eX3_isAllowed_1, eX3_isAllowed_4, eX3_isAllowed_7, eX3_isAllowed_8, eX3_isAllowed_10, eX3_isAllowed_13, eX3_isAllowed_14, eX3_isAllowed_17, eX3_isAllowed_18, eX3_isAllowed_19, eX3_isAllowed_22, eX3_isAllowed_23, eX3_isAllowed_24, eX3_isAllowed_25, eX3_isAllowed_26, eX3_isAllowed_27, eX3_isAllowed_28, eX3_isAllowed_29, eX3_isAllowed_30, eX3_isAllowed_31, eX3_isAllowed_34, eX3_isAllowed_35, eX3_isAllowed_38, eX3_isAllowed_39, ox_O_s, ox_B_s, ox_g_t, ox_A_s, ox_push_s, ox_push_n, ox_some, ox_z0, ox_z1, iI_lt, iI_eq, iI_add, iI_sub, ig_at, if_true, if_false, if_pos, if_neg, mO, m0, m1, m2, m3, m4, m5, m6, m7, m8, m9, mi0, mi1, mi2, mi3, mi4, mi5, mj0, mj1, mj2, mj3, mj4, mj5, hk, e, bt_eq]
theorem k3_mh_loop {h : ox_H} {m : Nat} {X Y : ol} (hM : MA h m Y) (hR : Rel X (Y.2 0)) (hV : vx X) {pk lv : Int} (a0 : 0 ≤ pk) (a1 : pk ≤ 3) (h1 : 0 ≤ lv) (h2 : lv ≤ 7) (v2 : Value) : ∀ (k : Nat) (p : Int), 0 ≤ p → p ≤ X.1 0 → X.1 0 - p < k → oe 94 3 [.ref m, .int (iI pk), v2, .int (iI lv), .int (iI p)] [] h = some (some (.int (iI (zb (aaF X pk lv k p)))), h) := by
  have hm := k3_many hM hR hV
  obtain ⟨mO, m0, m1, m2, m3, m4, m5, m6, m7, m8, m9, mi0, mi1, mi2, mi3, mi4, mi5, mj0, mj1, mj2, mj3, mj4, mj5⟩ := ma_facts hM
  obtain ⟨rl, r0, r1, r2, r3, r4, r5, r6, r7, r8⟩ := id hR
  obtain ⟨vl, vn, vo, vi, va, vfst, vs, vz, vr, vc, vt, vm, vk⟩ := id hV
  have l0 : (X.2 0).length = 30 := vl 0 (by omega)
  have l1 : (X.2 1).length = 30 := vl 1 (by omega)
  have l2 : (X.2 2).length = 30 := vl 2 (by omega)
  have l3 : (X.2 3).length = 30 := vl 3 (by omega)
  have l4 : (X.2 4).length = 30 := vl 4 (by omega)
  have l5 : (X.2 5).length = 30 := vl 5 (by omega)
  have l6 : (X.2 6).length = 5 := vl 6 (by omega)
  have l7 : (X.2 7).length = 7 := vl 7 (by omega)
  have l8 : (X.2 8).length = 12 := vl 8 (by omega)
  have l9 : (X.2 9).length = 12 := vl 9 (by omega)
  intro k
  induction k with
  | zero => intro p a b c; omega
  | succ k ih =>
    intro p a b c
    rw [eX3_mayHave_3]
    unfold aaF
    by_cases c1 : p < X.1 0
    · have hl := k3_levelAt hM hR hV a c1
      have hb := lvA_b hV p
      have hkd := kdA_in hV a c1
      have hk := k3_kindAt hM hR hV a c1
      have hr := vr (pk + 1) (by omega) (by omega)
      have hbb := bt_b (ig (X.2 6) (pk + 1)) (kdA X p)
      have e := r3 pk (by omega) (by omega)
      by_cases c2 : lv ≤ lvA X p
      · rw [if_pos ⟨c1, c2⟩]
        by_cases c3 : lvA X p = lv
        · by_cases c4 : bt (ig (X.2 6) (pk + 1)) (kdA X p) = 1
          · rw [if_neg (fun z => by rw [alw, decide_eq_true c4] at z; exact Bool.noConfusion z.2)]
            simp (disch := omega) only [eX3_mayHave_0, eX3_mayHave_1, eX3_mayHave_5, eX3_mayHave_6, eX3_mayHave_9, eX3_mayHave_12, eX3_mayHave_13, eX3_mayHave_15, eX3_mayHave_18, eX3_mayHave_19, eX3_mayHave_22, eX3_mayHave_23, eX3_mayHave_25, eX3_mayHave_28, eX3_mayHave_29, eX3_mayHave_32, eX3_mayHave_33, eX3_mayHave_36, eX3_mayHave_39, eX3_mayHave_40, eX3_mayHave_41, eX3_mayHave_42, eX3_mayHave_43, eX3_mayHave_45, eX3_mayHave_48, eX3_mayHave_49, eX3_mayHave_50, eX3_mayHave_51, eX3_mayHave_54, eX3_mayHave_55, eX3_mayHave_56, eX3_mayHave_59, eX3_mayHave_62, eX3_mayHave_63, ox_O_s, ox_B_s, ox_g_t, ox_A_s, ox_push_s, ox_push_n, ox_some, ox_z0, ox_z1, iI_lt, iI_eq, iI_add, iI_sub, ig_at, if_true, if_false, if_pos, if_neg, mO, m0, m1, m2, m3, m4, m5, m6, m7, m8, m9, mi0, mi1, mi2, mi3, mi4, mi5, mj0, mj1, mj2, mj3, mj4, mj5, hm, hl, hk, e, bt_eq]
            exact ih (p + 1) (by omega) (by omega) (by omega)
          · rw [if_pos ⟨c3, by rw [alw, decide_eq_false c4]⟩]
            simp (disch := omega) only [eX3_mayHave_0, eX3_mayHave_1, eX3_mayHave_5, eX3_mayHave_6, eX3_mayHave_9, eX3_mayHave_12, eX3_mayHave_13, eX3_mayHave_15, eX3_mayHave_18, eX3_mayHave_19, eX3_mayHave_22, eX3_mayHave_23, eX3_mayHave_25, eX3_mayHave_28, eX3_mayHave_29, eX3_mayHave_32, eX3_mayHave_33, eX3_mayHave_36, eX3_mayHave_39, eX3_mayHave_40, eX3_mayHave_41, eX3_mayHave_42, eX3_mayHave_43, eX3_mayHave_45, eX3_mayHave_48, eX3_mayHave_49, eX3_mayHave_50, eX3_mayHave_51, eX3_mayHave_54, eX3_mayHave_55, eX3_mayHave_56, eX3_mayHave_59, eX3_mayHave_62, eX3_mayHave_63, ox_O_s, ox_B_s, ox_g_t, ox_A_s, ox_push_s, ox_push_n, ox_some, ox_z0, ox_z1, iI_lt, iI_eq, iI_add, iI_sub, ig_at, if_true, if_false, if_pos, if_neg, mO, m0, m1, m2, m3, m4, m5, m6, m7, m8, m9, mi0, mi1, mi2, mi3, mi4, mi5, mj0, mj1, mj2, mj3, mj4, mj5, hm, hl, hk, e, bt_eq, zb_f]
        · rw [if_neg (fun z => c3 z.1)]
          simp (disch := omega) only [eX3_mayHave_0, eX3_mayHave_1, eX3_mayHave_5, eX3_mayHave_6, eX3_mayHave_9, eX3_mayHave_12, eX3_mayHave_13, eX3_mayHave_15, eX3_mayHave_18, eX3_mayHave_19, eX3_mayHave_22, eX3_mayHave_23, eX3_mayHave_25, eX3_mayHave_28, eX3_mayHave_29, eX3_mayHave_32, eX3_mayHave_33, eX3_mayHave_36, eX3_mayHave_39, eX3_mayHave_40, eX3_mayHave_41, eX3_mayHave_42, eX3_mayHave_43, eX3_mayHave_45, eX3_mayHave_48, eX3_mayHave_49, eX3_mayHave_50, eX3_mayHave_51, eX3_mayHave_54, eX3_mayHave_55, eX3_mayHave_56, eX3_mayHave_59, eX3_mayHave_62, eX3_mayHave_63, ox_O_s, ox_B_s, ox_g_t, ox_A_s, ox_push_s, ox_push_n, ox_some, ox_z0, ox_z1, iI_lt, iI_eq, iI_add, iI_sub, ig_at, if_true, if_false, if_pos, if_neg, mO, m0, m1, m2, m3, m4, m5, m6, m7, m8, m9, mi0, mi1, mi2, mi3, mi4, mi5, mj0, mj1, mj2, mj3, mj4, mj5, hm, hl, hk]
          exact ih (p + 1) (by omega) (by omega) (by omega)
      · rw [if_neg (fun z => c2 z.2)]
        simp (disch := omega) only [eX3_mayHave_0, eX3_mayHave_1, eX3_mayHave_5, eX3_mayHave_6, eX3_mayHave_9, eX3_mayHave_12, eX3_mayHave_13, eX3_mayHave_15, eX3_mayHave_18, eX3_mayHave_19, eX3_mayHave_22, eX3_mayHave_23, eX3_mayHave_25, eX3_mayHave_28, eX3_mayHave_29, eX3_mayHave_32, eX3_mayHave_33, eX3_mayHave_36, eX3_mayHave_39, eX3_mayHave_40, eX3_mayHave_41, eX3_mayHave_42, eX3_mayHave_43, eX3_mayHave_45, eX3_mayHave_48, eX3_mayHave_49, eX3_mayHave_50, eX3_mayHave_51, eX3_mayHave_54, eX3_mayHave_55, eX3_mayHave_56, eX3_mayHave_59, eX3_mayHave_62, eX3_mayHave_63, ox_O_s, ox_B_s, ox_g_t, ox_A_s, ox_push_s, ox_push_n, ox_some, ox_z0, ox_z1, iI_lt, iI_eq, iI_add, iI_sub, ig_at, if_true, if_false, if_pos, if_neg, mO, m0, m1, m2, m3, m4, m5, m6, m7, m8, m9, mi0, mi1, mi2, mi3, mi4, mi5, mj0, mj1, mj2, mj3, mj4, mj5, hm, hl, zb_t]
    · rw [if_neg (fun z => c1 z.1)]
      simp (disch := omega) only [eX3_mayHave_0, eX3_mayHave_1, eX3_mayHave_5, eX3_mayHave_6, eX3_mayHave_9, eX3_mayHave_12, eX3_mayHave_13, eX3_mayHave_15, eX3_mayHave_18, eX3_mayHave_19, eX3_mayHave_22, eX3_mayHave_23, eX3_mayHave_25, eX3_mayHave_28, eX3_mayHave_29, eX3_mayHave_32, eX3_mayHave_33, eX3_mayHave_36, eX3_mayHave_39, eX3_mayHave_40, eX3_mayHave_41, eX3_mayHave_42, eX3_mayHave_43, eX3_mayHave_45, eX3_mayHave_48, eX3_mayHave_49, eX3_mayHave_50, eX3_mayHave_51, eX3_mayHave_54, eX3_mayHave_55, eX3_mayHave_56, eX3_mayHave_59, eX3_mayHave_62, eX3_mayHave_63, ox_O_s, ox_B_s, ox_g_t, ox_A_s, ox_push_s, ox_push_n, ox_some, ox_z0, ox_z1, iI_lt, iI_eq, iI_add, iI_sub, ig_at, if_true, if_false, if_pos, if_neg, mO, m0, m1, m2, m3, m4, m5, m6, m7, m8, m9, mi0, mi1, mi2, mi3, mi4, mi5, mj0, mj1, mj2, mj3, mj4, mj5, hm, zb_t]
theorem k3_mayHave {h : ox_H} {m : Nat} {X Y : ol} (hM : MA h m Y) (hR : Rel X (Y.2 0)) (hV : vx X) {pk p lv : Int} (a0 : 0 ≤ pk) (a1 : pk ≤ 3) (h1 : 0 ≤ lv) (h2 : lv ≤ 7) (p0 : 0 ≤ p) (p1 : p ≤ X.1 0) : oe 94 0 [.ref m, .int (iI pk), .int (iI p), .int (iI lv), .null] [] h = some (some (.int (iI (zb (aaX X pk p lv)))), h) := by
  have hn := hV.2.1
  have hk := k3_mh_loop hM hR hV a0 a1 h1 h2 (.int (iI p)) 31 p p0 p1 (by omega)
  simp (disch := omega) only [eX3_mayHave_0, eX3_mayHave_1, eX3_mayHave_5, eX3_mayHave_6, eX3_mayHave_9, eX3_mayHave_12, eX3_mayHave_13, eX3_mayHave_15, eX3_mayHave_18, eX3_mayHave_19, eX3_mayHave_22, eX3_mayHave_23, eX3_mayHave_25, eX3_mayHave_28, eX3_mayHave_29, eX3_mayHave_32, eX3_mayHave_33, eX3_mayHave_36, eX3_mayHave_39, eX3_mayHave_40, eX3_mayHave_41, eX3_mayHave_42, eX3_mayHave_43, eX3_mayHave_45, eX3_mayHave_48, eX3_mayHave_49, eX3_mayHave_50, eX3_mayHave_51, eX3_mayHave_54, eX3_mayHave_55, eX3_mayHave_56, eX3_mayHave_59, eX3_mayHave_62, eX3_mayHave_63, ox_O_s, ox_B_s, ox_g_t, ox_A_s, ox_push_s, ox_push_n, ox_some, ox_z0, ox_z1, iI_lt, iI_eq, iI_add, iI_sub, ig_at, if_true, if_false, if_pos, if_neg]
  exact hk
