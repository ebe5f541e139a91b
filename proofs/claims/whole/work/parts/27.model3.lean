/-! The reference's reads, third half. -/
theorem k3_isReference {h : ox_H} {m : Nat} {X Y : ol} (hM : MA h m Y) (hR : Rel X (Y.2 0)) (hV : vx X) {k : Int} (k0 : -2147483648 ≤ k) (k1 : k < 2147483648) : oe 127 0 [.ref m, .int (iI k)] [] h = some (some (.int (iI (zb (decide (0 ≤ k ∧ k ≤ X.1 2 - 1))))), h) := by
  have hb := hV.2.2.2.2.2.2.2.2.2.2.2.1
  have hi := k3_isIn (h := h) (a := k) (b := 0) (c := X.1 2 - 1) k0 k1 (by omega) (by omega) (by omega) (by omega)
  obtain ⟨mO, m0, m1, m2, m3, m4, m5, m6, m7, m8, m9, mi0, mi1, mi2, mi3, mi4, mi5, mj0, mj1, mj2, mj3, mj4, mj5⟩ := ma_facts hM
  obtain ⟨rl, r0, r1, r2, r3, r4, r5, r6, r7, r8⟩ := id hR
  cases c : decide (0 ≤ k ∧ k ≤ X.1 2 - 1) <;> rw [c] at hi
  · simp (disch := omega) only [eX3_isReference_0, eX3_isReference_1, eX3_isReference_2, eX3_isReference_3, eX3_isReference_6, eX3_isReference_9, eX3_isReference_10, eX3_isReference_11, eX3_isReference_12, eX3_isReference_15, ox_O_s, ox_B_s, ox_g_t, ox_A_s, ox_push_s, ox_push_n, ox_some, ox_z0, ox_z1, iI_lt, iI_eq, iI_add, iI_sub, ig_at, if_true, if_false, if_pos, if_neg, mO, m0, m1, m2, m3, m4, m5, m6, m7, m8, m9, mi0, mi1, mi2, mi3, mi4, mi5, mj0, mj1, mj2, mj3, mj4, mj5, r6, hi, zb_f]
  · simp (disch := omega) only [eX3_isReference_0, eX3_isReference_1, eX3_isReference_2, eX3_isReference_3, eX3_isReference_6, eX3_isReference_9, eX3_isReference_10, eX3_isReference_11, eX3_isReference_12, eX3_isReference_15, ox_O_s, ox_B_s, ox_g_t, ox_A_s, ox_push_s, ox_push_n, ox_some, ox_z0, ox_z1, iI_lt, iI_eq, iI_add, iI_sub, ig_at, if_true, if_false, if_pos, if_neg, mO, m0, m1, m2, m3, m4, m5, m6, m7, m8, m9, mi0, mi1, mi2, mi3, mi4, mi5, mj0, mj1, mj2, mj3, mj4, mj5, r6, hi, zb_t]
theorem k3_isBroken {h : ox_H} {m : Nat} {X Y : ol} (hM : MA h m Y) (hR : Rel X (Y.2 0)) (hV : vx X) {k : Int} (k0 : 0 ≤ k) (k1 : k < X.1 2) : oe 130 0 [.ref m, .int (iI k)] [] h = some (some (.int (iI (zb (decide (ig (X.2 9) k = -9))))), h) := by
  have hb := hV.2.2.2.2.2.2.2.2.2.2.2.1
  have ht := tgt_b hV k0 k1
  obtain ⟨mO, m0, m1, m2, m3, m4, m5, m6, m7, m8, m9, mi0, mi1, mi2, mi3, mi4, mi5, mj0, mj1, mj2, mj3, mj4, mj5⟩ := ma_facts hM
  obtain ⟨rl, r0, r1, r2, r3, r4, r5, r6, r7, r8⟩ := id hR
  have e := (r7 k k0 k1).2
  by_cases c : ig (X.2 9) k = -9
  · rw [decide_eq_true c, zb_t]
    simp (disch := omega) only [eX3_isBroken_0, eX3_isBroken_1, eX3_isBroken_4, eX3_isBroken_7, eX3_isBroken_8, eX3_isBroken_9, eX3_isBroken_10, eX3_isBroken_12, eX3_isBroken_15, eX3_isBroken_16, eX3_isBroken_19, eX3_isBroken_20, ox_O_s, ox_B_s, ox_g_t, ox_A_s, ox_push_s, ox_push_n, ox_some, ox_z0, ox_z1, iI_lt, iI_eq, iI_add, iI_sub, ig_at, if_true, if_false, if_pos, if_neg, mO, m0, m1, m2, m3, m4, m5, m6, m7, m8, m9, mi0, mi1, mi2, mi3, mi4, mi5, mj0, mj1, mj2, mj3, mj4, mj5, e]
  · rw [decide_eq_false c, zb_f]
    simp (disch := omega) only [eX3_isBroken_0, eX3_isBroken_1, eX3_isBroken_4, eX3_isBroken_7, eX3_isBroken_8, eX3_isBroken_9, eX3_isBroken_10, eX3_isBroken_12, eX3_isBroken_15, eX3_isBroken_16, eX3_isBroken_19, eX3_isBroken_20, ox_O_s, ox_B_s, ox_g_t, ox_A_s, ox_push_s, ox_push_n, ox_some, ox_z0, ox_z1, iI_lt, iI_eq, iI_add, iI_sub, ig_at, if_true, if_false, if_pos, if_neg, mO, m0, m1, m2, m3, m4, m5, m6, m7, m8, m9, mi0, mi1, mi2, mi3, mi4, mi5, mj0, mj1, mj2, mj3, mj4, mj5, e]
theorem k3_bo_loop {h : ox_H} {m : Nat} {X Y : ol} (hM : MA h m Y) (hR : Rel X (Y.2 0)) (hV : vx X) : ∀ (b : Nat) (k f : Int), 0 ≤ k → k ≤ X.1 2 → X.1 2 - k < b → 0 ≤ f → f ≤ k → oe 136 4 [.ref m, .int (iI f), .int (iI k)] [] h = some (some (.int (iI (cnF (fun k => decide (ig (X.2 9) k = -9)) (X.1 2) b k f))), h) := by
  have hn := hV.2.2.2.2.2.2.2.2.2.2.2.1
  obtain ⟨mO, m0, m1, m2, m3, m4, m5, m6, m7, m8, m9, mi0, mi1, mi2, mi3, mi4, mi5, mj0, mj1, mj2, mj3, mj4, mj5⟩ := ma_facts hM
  obtain ⟨rl, r0, r1, r2, r3, r4, r5, r6, r7, r8⟩ := id hR
  intro b
  induction b with
  | zero => intro k f a b c; omega
  | succ b ih =>
    intro k f a b c d e
    rw [eX3_brokenOnes_4]
    unfold cnF
    by_cases c1 : k < X.1 2
    · rw [if_pos c1]
      have hib := k3_isBroken hM hR hV a c1
      by_cases c4 : ig (X.2 9) k = -9
      · rw [decide_eq_true c4] at hib
        rw [if_pos (decide_eq_true c4)]
        simp (disch := omega) only [eX3_brokenOnes_0, eX3_brokenOnes_1, eX3_brokenOnes_2, eX3_brokenOnes_3, eX3_brokenOnes_5, eX3_brokenOnes_6, eX3_brokenOnes_9, eX3_brokenOnes_12, eX3_brokenOnes_13, eX3_brokenOnes_16, eX3_brokenOnes_17, eX3_brokenOnes_18, eX3_brokenOnes_19, eX3_brokenOnes_22, eX3_brokenOnes_25, eX3_brokenOnes_26, eX3_brokenOnes_29, eX3_brokenOnes_30, eX3_brokenOnes_31, eX3_brokenOnes_32, eX3_brokenOnes_35, eX3_brokenOnes_38, eX3_brokenOnes_39, ox_O_s, ox_B_s, ox_g_t, ox_A_s, ox_push_s, ox_push_n, ox_some, ox_z0, ox_z1, iI_lt, iI_eq, iI_add, iI_sub, ig_at, if_true, if_false, if_pos, if_neg, mO, m0, m1, m2, m3, m4, m5, m6, m7, m8, m9, mi0, mi1, mi2, mi3, mi4, mi5, mj0, mj1, mj2, mj3, mj4, mj5, r6, hib, zb_t]
        exact ih (k + 1) (f + 1) (by omega) (by omega) (by omega) (by omega) (by omega)
      · rw [decide_eq_false c4] at hib
        rw [if_neg (by rw [decide_eq_true_eq]; exact c4)]
        simp (disch := omega) only [eX3_brokenOnes_0, eX3_brokenOnes_1, eX3_brokenOnes_2, eX3_brokenOnes_3, eX3_brokenOnes_5, eX3_brokenOnes_6, eX3_brokenOnes_9, eX3_brokenOnes_12, eX3_brokenOnes_13, eX3_brokenOnes_16, eX3_brokenOnes_17, eX3_brokenOnes_18, eX3_brokenOnes_19, eX3_brokenOnes_22, eX3_brokenOnes_25, eX3_brokenOnes_26, eX3_brokenOnes_29, eX3_brokenOnes_30, eX3_brokenOnes_31, eX3_brokenOnes_32, eX3_brokenOnes_35, eX3_brokenOnes_38, eX3_brokenOnes_39, ox_O_s, ox_B_s, ox_g_t, ox_A_s, ox_push_s, ox_push_n, ox_some, ox_z0, ox_z1, iI_lt, iI_eq, iI_add, iI_sub, ig_at, if_true, if_false, if_pos, if_neg, mO, m0, m1, m2, m3, m4, m5, m6, m7, m8, m9, mi0, mi1, mi2, mi3, mi4, mi5, mj0, mj1, mj2, mj3, mj4, mj5, r6, hib, zb_f, Int.add_zero]
        exact ih (k + 1) f (by omega) (by omega) (by omega) (by omega) (by omega)
    · rw [if_neg c1]
      simp (disch := omega) only [eX3_brokenOnes_0, eX3_brokenOnes_1, eX3_brokenOnes_2, eX3_brokenOnes_3, eX3_brokenOnes_5, eX3_brokenOnes_6, eX3_brokenOnes_9, eX3_brokenOnes_12, eX3_brokenOnes_13, eX3_brokenOnes_16, eX3_brokenOnes_17, eX3_brokenOnes_18, eX3_brokenOnes_19, eX3_brokenOnes_22, eX3_brokenOnes_25, eX3_brokenOnes_26, eX3_brokenOnes_29, eX3_brokenOnes_30, eX3_brokenOnes_31, eX3_brokenOnes_32, eX3_brokenOnes_35, eX3_brokenOnes_38, eX3_brokenOnes_39, ox_O_s, ox_B_s, ox_g_t, ox_A_s, ox_push_s, ox_push_n, ox_some, ox_z0, ox_z1, iI_lt, iI_eq, iI_add, iI_sub, ig_at, if_true, if_false, if_pos, if_neg, mO, m0, m1, m2, m3, m4, m5, m6, m7, m8, m9, mi0, mi1, mi2, mi3, mi4, mi5, mj0, mj1, mj2, mj3, mj4, mj5, r6]
theorem k3_brokenOnes {h : ox_H} {m : Nat} {X Y : ol} (hM : MA h m Y) (hR : Rel X (Y.2 0)) (hV : vx X) : oe 136 0 [.ref m, .null, .null] [] h = some (some (.int (iI (rtX X (-9)))), h) := by
  have hn := hV.2.2.2.2.2.2.2.2.2.2.2.1
  have hk := k3_bo_loop hM hR hV 13 0 0 (by omega) (by omega) (by omega) (by omega) (by omega)
  simp (disch := omega) only [eX3_brokenOnes_0, eX3_brokenOnes_1, eX3_brokenOnes_2, eX3_brokenOnes_3, eX3_brokenOnes_5, eX3_brokenOnes_6, eX3_brokenOnes_9, eX3_brokenOnes_12, eX3_brokenOnes_13, eX3_brokenOnes_16, eX3_brokenOnes_17, eX3_brokenOnes_18, eX3_brokenOnes_19, eX3_brokenOnes_22, eX3_brokenOnes_25, eX3_brokenOnes_26, eX3_brokenOnes_29, eX3_brokenOnes_30, eX3_brokenOnes_31, eX3_brokenOnes_32, eX3_brokenOnes_35, eX3_brokenOnes_38, eX3_brokenOnes_39, ox_O_s, ox_B_s, ox_g_t, ox_A_s, ox_push_s, ox_push_n, ox_some, ox_z0, ox_z1, iI_lt, iI_eq, iI_add, iI_sub, ig_at, if_true, if_false, if_pos, if_neg]
  exact hk
theorem k3_tg_loop {h : ox_H} {m : Nat} {X Y : ol} (hM : MA h m Y) (hR : Rel X (Y.2 0)) (hV : vx X) {t : Int} (t0 : -2147483648 ≤ t) (t1 : t < 2147483648) : ∀ (b : Nat) (k f : Int), 0 ≤ k → k ≤ X.1 2 → X.1 2 - k < b → 0 ≤ f → f ≤ k → oe 143 4 [.ref m, .int (iI t), .int (iI f), .int (iI k)] [] h = some (some (.int (iI (cnF (fun k => decide (ig (X.2 9) k = t)) (X.1 2) b k f))), h) := by
  have hn := hV.2.2.2.2.2.2.2.2.2.2.2.1
  obtain ⟨mO, m0, m1, m2, m3, m4, m5, m6, m7, m8, m9, mi0, mi1, mi2, mi3, mi4, mi5, mj0, mj1, mj2, mj3, mj4, mj5⟩ := ma_facts hM
  obtain ⟨rl, r0, r1, r2, r3, r4, r5, r6, r7, r8⟩ := id hR
  intro b
  induction b with
  | zero => intro k f a b c; omega
  | succ b ih =>
    intro k f a b c d e
    rw [eX3_targeted_4]
    unfold cnF
    by_cases c1 : k < X.1 2
    · rw [if_pos c1]
      have hb := tgt_b hV a c1
      have et := (r7 k a c1).2
      by_cases c4 : ig (X.2 9) k = t
      · rw [if_pos (decide_eq_true c4)]
        simp (disch := omega) only [eX3_targeted_0, eX3_targeted_1, eX3_targeted_2, eX3_targeted_3, eX3_targeted_5, eX3_targeted_6, eX3_targeted_9, eX3_targeted_12, eX3_targeted_13, eX3_targeted_16, eX3_targeted_17, eX3_targeted_18, eX3_targeted_21, eX3_targeted_24, eX3_targeted_25, eX3_targeted_26, eX3_targeted_27, eX3_targeted_28, eX3_targeted_31, eX3_targeted_32, eX3_targeted_35, eX3_targeted_36, eX3_targeted_37, eX3_targeted_38, eX3_targeted_41, eX3_targeted_44, eX3_targeted_45, ox_O_s, ox_B_s, ox_g_t, ox_A_s, ox_push_s, ox_push_n, ox_some, ox_z0, ox_z1, iI_lt, iI_eq, iI_add, iI_sub, ig_at, if_true, if_false, if_pos, if_neg, mO, m0, m1, m2, m3, m4, m5, m6, m7, m8, m9, mi0, mi1, mi2, mi3, mi4, mi5, mj0, mj1, mj2, mj3, mj4, mj5, r6, et]
        exact ih (k + 1) (f + 1) (by omega) (by omega) (by omega) (by omega) (by omega)
      · rw [if_neg (by rw [decide_eq_true_eq]; exact c4)]
        simp (disch := omega) only [eX3_targeted_0, eX3_targeted_1, eX3_targeted_2, eX3_targeted_3, eX3_targeted_5, eX3_targeted_6, eX3_targeted_9, eX3_targeted_12, eX3_targeted_13, eX3_targeted_16, eX3_targeted_17, eX3_targeted_18, eX3_targeted_21, eX3_targeted_24, eX3_targeted_25, eX3_targeted_26, eX3_targeted_27, eX3_targeted_28, eX3_targeted_31, eX3_targeted_32, eX3_targeted_35, eX3_targeted_36, eX3_targeted_37, eX3_targeted_38, eX3_targeted_41, eX3_targeted_44, eX3_targeted_45, ox_O_s, ox_B_s, ox_g_t, ox_A_s, ox_push_s, ox_push_n, ox_some, ox_z0, ox_z1, iI_lt, iI_eq, iI_add, iI_sub, ig_at, if_true, if_false, if_pos, if_neg, mO, m0, m1, m2, m3, m4, m5, m6, m7, m8, m9, mi0, mi1, mi2, mi3, mi4, mi5, mj0, mj1, mj2, mj3, mj4, mj5, r6, et, Int.add_zero]
        exact ih (k + 1) f (by omega) (by omega) (by omega) (by omega) (by omega)
    · rw [if_neg c1]
      simp (disch := omega) only [eX3_targeted_0, eX3_targeted_1, eX3_targeted_2, eX3_targeted_3, eX3_targeted_5, eX3_targeted_6, eX3_targeted_9, eX3_targeted_12, eX3_targeted_13, eX3_targeted_16, eX3_targeted_17, eX3_targeted_18, eX3_targeted_21, eX3_targeted_24, eX3_targeted_25, eX3_targeted_26, eX3_targeted_27, eX3_targeted_28, eX3_targeted_31, eX3_targeted_32, eX3_targeted_35, eX3_targeted_36, eX3_targeted_37, eX3_targeted_38, eX3_targeted_41, eX3_targeted_44, eX3_targeted_45, ox_O_s, ox_B_s, ox_g_t, ox_A_s, ox_push_s, ox_push_n, ox_some, ox_z0, ox_z1, iI_lt, iI_eq, iI_add, iI_sub, ig_at, if_true, if_false, if_pos, if_neg, mO, m0, m1, m2, m3, m4, m5, m6, m7, m8, m9, mi0, mi1, mi2, mi3, mi4, mi5, mj0, mj1, mj2, mj3, mj4, mj5, r6]
theorem k3_targeted {h : ox_H} {m : Nat} {X Y : ol} (hM : MA h m Y) (hR : Rel X (Y.2 0)) (hV : vx X) {t : Int} (t0 : -2147483648 ≤ t) (t1 : t < 2147483648) : oe 143 0 [.ref m, .int (iI t), .null, .null] [] h = some (some (.int (iI (rtX X t))), h) := by
  have hn := hV.2.2.2.2.2.2.2.2.2.2.2.1
  have hk := k3_tg_loop hM hR hV t0 t1 13 0 0 (by omega) (by omega) (by omega) (by omega) (by omega)
  simp (disch := omega) only [eX3_targeted_0, eX3_targeted_1, eX3_targeted_2, eX3_targeted_3, eX3_targeted_5, eX3_targeted_6, eX3_targeted_9, eX3_targeted_12, eX3_targeted_13, eX3_targeted_16, eX3_targeted_17, eX3_targeted_18, eX3_targeted_21, eX3_targeted_24, eX3_targeted_25, eX3_targeted_26, eX3_targeted_27, eX3_targeted_28, eX3_targeted_31, eX3_targeted_32, eX3_targeted_35, eX3_targeted_36, eX3_targeted_37, eX3_targeted_38, eX3_targeted_41, eX3_targeted_44, eX3_targeted_45, ox_O_s, ox_B_s, ox_g_t, ox_A_s, ox_push_s, ox_push_n, ox_some, ox_z0, ox_z1, iI_lt, iI_eq, iI_add, iI_sub, ig_at, if_true, if_false, if_pos, if_neg]
  exact hk
theorem k3_parentHeading {h : ox_H} {m : Nat} {X Y : ol} (hM : MA h m Y) (hR : Rel X (Y.2 0)) (hV : vx X) {p : Int} (p0 : 0 ≤ p) (p1 : p < X.1 0) : oe 144 0 [.ref m, .int (iI p), .null] [] h = some (some (.int (iI (idA X (pA (lvA X) (lvA X p) p.toNat)))), h) := by
  have hn := hV.2.1
  have hpo := k3_parentOf hM hR hV p0 p1
  have hpb := pA_b (lvA X) (lvA X p) p.toNat
  obtain ⟨mO, m0, m1, m2, m3, m4, m5, m6, m7, m8, m9, mi0, mi1, mi2, mi3, mi4, mi5, mj0, mj1, mj2, mj3, mj4, mj5⟩ := ma_facts hM
  by_cases c : pA (lvA X) (lvA X p) p.toNat < 0
  · rw [nz_n c] at hpo
    rw [show idA X (pA (lvA X) (lvA X p) p.toNat) = -9 from if_neg (by omega)]
    simp (disch := omega) only [eX3_parentHeading_0, eX3_parentHeading_1, eX3_parentHeading_2, eX3_parentHeading_5, eX3_parentHeading_6, eX3_parentHeading_7, eX3_parentHeading_9, eX3_parentHeading_12, eX3_parentHeading_14, eX3_parentHeading_17, eX3_parentHeading_18, eX3_parentHeading_19, eX3_parentHeading_22, ox_O_s, ox_B_s, ox_g_t, ox_A_s, ox_push_s, ox_push_n, ox_some, ox_z0, ox_z1, iI_lt, iI_eq, iI_add, iI_sub, ig_at, if_true, if_false, if_pos, if_neg, mO, hpo]
  · rw [nz_p (by omega)] at hpo
    have hat := k3_at hM hR hV (p := pA (lvA X) (lvA X p) p.toNat) (by omega) (by omega)
    rw [show idA X (pA (lvA X) (lvA X p) p.toNat) = ig (X.2 0) (pA (lvA X) (lvA X p) p.toNat) from if_pos ⟨by omega, by omega⟩]
    simp (disch := omega) only [eX3_parentHeading_0, eX3_parentHeading_1, eX3_parentHeading_2, eX3_parentHeading_5, eX3_parentHeading_6, eX3_parentHeading_7, eX3_parentHeading_9, eX3_parentHeading_12, eX3_parentHeading_14, eX3_parentHeading_17, eX3_parentHeading_18, eX3_parentHeading_19, eX3_parentHeading_22, ox_O_s, ox_B_s, ox_g_t, ox_A_s, ox_push_s, ox_push_n, ox_some, ox_z0, ox_z1, iI_lt, iI_eq, iI_add, iI_sub, ig_at, if_true, if_false, if_pos, if_neg, mO, hpo, hat]
theorem k3_ch_loop {h : ox_H} {m : Nat} {X Y : ol} (hM : MA h m Y) (hR : Rel X (Y.2 0)) (hV : vx X) {lv : Int} (h1 : 0 ≤ lv) (h2 : lv ≤ 7) (v1 v2 : Value) : ∀ (b : Nat) (p l : Int), 0 ≤ p → p ≤ X.1 0 → X.1 0 - p < b → 0 ≤ l → l < 2147483648 → oe 141 24 [.ref m, v1, v2, .int (iI lv), .int (iI l), .int (iI p)] [] h = some (some (.int (iI (idA X (chF (lvA X) (X.1 0) lv b p l)))), h) := by
  have hm := k3_many hM hR hV
  obtain ⟨mO, m0, m1, m2, m3, m4, m5, m6, m7, m8, m9, mi0, mi1, mi2, mi3, mi4, mi5, mj0, mj1, mj2, mj3, mj4, mj5⟩ := ma_facts hM
  have hn := hV.2.1
  intro b
  induction b with
  | zero => intro p l a b c; omega
  | succ b ih =>
    intro p l a b c d e
    rw [eX3_childOf_24]
    unfold chF
    by_cases c1 : p < X.1 0
    · have hl := k3_levelAt hM hR hV a c1
      have hb := lvA_b hV p
      by_cases c2 : lv ≤ lvA X p
      · rw [if_pos ⟨c1, c2⟩]
        by_cases c3 : lvA X p = lv
        · rw [if_pos c3]
          by_cases c4 : l = 0
          · have hat := k3_at hM hR hV a c1
            rw [if_pos c4, show idA X p = ig (X.2 0) p from if_pos ⟨a, c1⟩]
            simp (disch := omega) only [eX3_childOf_0, eX3_childOf_1, eX3_childOf_4, eX3_childOf_5, eX3_childOf_8, eX3_childOf_9, eX3_childOf_10, eX3_childOf_13, eX3_childOf_14, eX3_childOf_15, eX3_childOf_16, eX3_childOf_17, eX3_childOf_19, eX3_childOf_20, eX3_childOf_21, eX3_childOf_22, eX3_childOf_26, eX3_childOf_27, eX3_childOf_30, eX3_childOf_33, eX3_childOf_34, eX3_childOf_36, eX3_childOf_39, eX3_childOf_40, eX3_childOf_43, eX3_childOf_44, eX3_childOf_46, eX3_childOf_49, eX3_childOf_50, eX3_childOf_53, eX3_childOf_55, eX3_childOf_58, eX3_childOf_59, eX3_childOf_61, eX3_childOf_64, eX3_childOf_65, eX3_childOf_68, eX3_childOf_71, eX3_childOf_74, eX3_childOf_76, ox_O_s, ox_B_s, ox_g_t, ox_A_s, ox_push_s, ox_push_n, ox_some, ox_z0, ox_z1, iI_lt, iI_eq, iI_add, iI_sub, ig_at, if_true, if_false, if_pos, if_neg, mO, hm, hl, hat]
          · rw [if_neg c4]
            simp (disch := omega) only [eX3_childOf_0, eX3_childOf_1, eX3_childOf_4, eX3_childOf_5, eX3_childOf_8, eX3_childOf_9, eX3_childOf_10, eX3_childOf_13, eX3_childOf_14, eX3_childOf_15, eX3_childOf_16, eX3_childOf_17, eX3_childOf_19, eX3_childOf_20, eX3_childOf_21, eX3_childOf_22, eX3_childOf_26, eX3_childOf_27, eX3_childOf_30, eX3_childOf_33, eX3_childOf_34, eX3_childOf_36, eX3_childOf_39, eX3_childOf_40, eX3_childOf_43, eX3_childOf_44, eX3_childOf_46, eX3_childOf_49, eX3_childOf_50, eX3_childOf_53, eX3_childOf_55, eX3_childOf_58, eX3_childOf_59, eX3_childOf_61, eX3_childOf_64, eX3_childOf_65, eX3_childOf_68, eX3_childOf_71, eX3_childOf_74, eX3_childOf_76, ox_O_s, ox_B_s, ox_g_t, ox_A_s, ox_push_s, ox_push_n, ox_some, ox_z0, ox_z1, iI_lt, iI_eq, iI_add, iI_sub, ig_at, if_true, if_false, if_pos, if_neg, mO, hm, hl]
            exact ih (p + 1) (l - 1) (by omega) (by omega) (by omega) (by omega) (by omega)
        · rw [if_neg c3]
          simp (disch := omega) only [eX3_childOf_0, eX3_childOf_1, eX3_childOf_4, eX3_childOf_5, eX3_childOf_8, eX3_childOf_9, eX3_childOf_10, eX3_childOf_13, eX3_childOf_14, eX3_childOf_15, eX3_childOf_16, eX3_childOf_17, eX3_childOf_19, eX3_childOf_20, eX3_childOf_21, eX3_childOf_22, eX3_childOf_26, eX3_childOf_27, eX3_childOf_30, eX3_childOf_33, eX3_childOf_34, eX3_childOf_36, eX3_childOf_39, eX3_childOf_40, eX3_childOf_43, eX3_childOf_44, eX3_childOf_46, eX3_childOf_49, eX3_childOf_50, eX3_childOf_53, eX3_childOf_55, eX3_childOf_58, eX3_childOf_59, eX3_childOf_61, eX3_childOf_64, eX3_childOf_65, eX3_childOf_68, eX3_childOf_71, eX3_childOf_74, eX3_childOf_76, ox_O_s, ox_B_s, ox_g_t, ox_A_s, ox_push_s, ox_push_n, ox_some, ox_z0, ox_z1, iI_lt, iI_eq, iI_add, iI_sub, ig_at, if_true, if_false, if_pos, if_neg, mO, hm, hl]
          exact ih (p + 1) l (by omega) (by omega) (by omega) (by omega) (by omega)
      · rw [if_neg (fun z => c2 z.2), show idA X (-1) = -9 from if_neg (by omega)]
        simp (disch := omega) only [eX3_childOf_0, eX3_childOf_1, eX3_childOf_4, eX3_childOf_5, eX3_childOf_8, eX3_childOf_9, eX3_childOf_10, eX3_childOf_13, eX3_childOf_14, eX3_childOf_15, eX3_childOf_16, eX3_childOf_17, eX3_childOf_19, eX3_childOf_20, eX3_childOf_21, eX3_childOf_22, eX3_childOf_26, eX3_childOf_27, eX3_childOf_30, eX3_childOf_33, eX3_childOf_34, eX3_childOf_36, eX3_childOf_39, eX3_childOf_40, eX3_childOf_43, eX3_childOf_44, eX3_childOf_46, eX3_childOf_49, eX3_childOf_50, eX3_childOf_53, eX3_childOf_55, eX3_childOf_58, eX3_childOf_59, eX3_childOf_61, eX3_childOf_64, eX3_childOf_65, eX3_childOf_68, eX3_childOf_71, eX3_childOf_74, eX3_childOf_76, ox_O_s, ox_B_s, ox_g_t, ox_A_s, ox_push_s, ox_push_n, ox_some, ox_z0, ox_z1, iI_lt, iI_eq, iI_add, iI_sub, ig_at, if_true, if_false, if_pos, if_neg, mO, hm, hl]
    · rw [if_neg (fun z => c1 z.1), show idA X (-1) = -9 from if_neg (by omega)]
      simp (disch := omega) only [eX3_childOf_0, eX3_childOf_1, eX3_childOf_4, eX3_childOf_5, eX3_childOf_8, eX3_childOf_9, eX3_childOf_10, eX3_childOf_13, eX3_childOf_14, eX3_childOf_15, eX3_childOf_16, eX3_childOf_17, eX3_childOf_19, eX3_childOf_20, eX3_childOf_21, eX3_childOf_22, eX3_childOf_26, eX3_childOf_27, eX3_childOf_30, eX3_childOf_33, eX3_childOf_34, eX3_childOf_36, eX3_childOf_39, eX3_childOf_40, eX3_childOf_43, eX3_childOf_44, eX3_childOf_46, eX3_childOf_49, eX3_childOf_50, eX3_childOf_53, eX3_childOf_55, eX3_childOf_58, eX3_childOf_59, eX3_childOf_61, eX3_childOf_64, eX3_childOf_65, eX3_childOf_68, eX3_childOf_71, eX3_childOf_74, eX3_childOf_76, ox_O_s, ox_B_s, ox_g_t, ox_A_s, ox_push_s, ox_push_n, ox_some, ox_z0, ox_z1, iI_lt, iI_eq, iI_add, iI_sub, ig_at, if_true, if_false, if_pos, if_neg, mO, hm]
theorem k3_childOf {h : ox_H} {m : Nat} {X Y : ol} (hM : MA h m Y) (hR : Rel X (Y.2 0)) (hV : vx X) {p k : Int} (h0 : -1 ≤ p) (h1 : p < X.1 0) (k0 : 0 ≤ k) (k1 : k < 2147483648) : oe 141 0 [.ref m, .int (iI p), .int (iI k), .null, .null, .null] [] h = some (some (.int (iI (idA X (chX X p k)))), h) := by
  have hn := hV.2.1
  have hb := lvA_b hV p
  have hk := k3_ch_loop hM hR hV (lv := lvA X p + 1) (by omega) (by omega) (.int (iI p)) (.int (iI k)) 31 (p + 1) k (by omega) (by omega) (by omega) (by omega) (by omega)
  obtain ⟨mO, m0, m1, m2, m3, m4, m5, m6, m7, m8, m9, mi0, mi1, mi2, mi3, mi4, mi5, mj0, mj1, mj2, mj3, mj4, mj5⟩ := ma_facts hM
  by_cases c : p < 0
  · rw [show lvA X p = 0 from if_neg (by omega), show (0 : Int) + 1 = 1 from rfl] at hk
    have e : lvA X p = 0 := if_neg (by omega)
    unfold chX
    rw [e, show (0 : Int) + 1 = 1 from rfl]
    simp (disch := omega) only [eX3_childOf_0, eX3_childOf_1, eX3_childOf_4, eX3_childOf_5, eX3_childOf_8, eX3_childOf_9, eX3_childOf_10, eX3_childOf_13, eX3_childOf_14, eX3_childOf_15, eX3_childOf_16, eX3_childOf_17, eX3_childOf_19, eX3_childOf_20, eX3_childOf_21, eX3_childOf_22, eX3_childOf_26, eX3_childOf_27, eX3_childOf_30, eX3_childOf_33, eX3_childOf_34, eX3_childOf_36, eX3_childOf_39, eX3_childOf_40, eX3_childOf_43, eX3_childOf_44, eX3_childOf_46, eX3_childOf_49, eX3_childOf_50, eX3_childOf_53, eX3_childOf_55, eX3_childOf_58, eX3_childOf_59, eX3_childOf_61, eX3_childOf_64, eX3_childOf_65, eX3_childOf_68, eX3_childOf_71, eX3_childOf_74, eX3_childOf_76, ox_O_s, ox_B_s, ox_g_t, ox_A_s, ox_push_s, ox_push_n, ox_some, ox_z0, ox_z1, iI_lt, iI_eq, iI_add, iI_sub, ig_at, if_true, if_false, if_pos, if_neg, mO]
    exact hk
  · have hl := k3_levelAt hM hR hV (show 0 ≤ p by omega) h1
    simp (disch := omega) only [eX3_childOf_0, eX3_childOf_1, eX3_childOf_4, eX3_childOf_5, eX3_childOf_8, eX3_childOf_9, eX3_childOf_10, eX3_childOf_13, eX3_childOf_14, eX3_childOf_15, eX3_childOf_16, eX3_childOf_17, eX3_childOf_19, eX3_childOf_20, eX3_childOf_21, eX3_childOf_22, eX3_childOf_26, eX3_childOf_27, eX3_childOf_30, eX3_childOf_33, eX3_childOf_34, eX3_childOf_36, eX3_childOf_39, eX3_childOf_40, eX3_childOf_43, eX3_childOf_44, eX3_childOf_46, eX3_childOf_49, eX3_childOf_50, eX3_childOf_53, eX3_childOf_55, eX3_childOf_58, eX3_childOf_59, eX3_childOf_61, eX3_childOf_64, eX3_childOf_65, eX3_childOf_68, eX3_childOf_71, eX3_childOf_74, eX3_childOf_76, ox_O_s, ox_B_s, ox_g_t, ox_A_s, ox_push_s, ox_push_n, ox_some, ox_z0, ox_z1, iI_lt, iI_eq, iI_add, iI_sub, ig_at, if_true, if_false, if_pos, if_neg, mO, hl]
    exact hk
theorem ch_cc {L : Int → Int} {n lv : Int} : ∀ (b : Nat) (p l f : Int), 0 ≤ p → 0 ≤ l → (chF L n lv b p l = -1 ↔ ccF L n lv b p f - f ≤ l) ∧ f ≤ ccF L n lv b p f ∧ (chF L n lv b p l ≠ -1 → 0 ≤ chF L n lv b p l ∧ (0 < b → chF L n lv b p l < n))
  | 0, p, l, f, hp, hl => by simp [chF, ccF]; omega
  | b + 1, p, l, f, hp, hl => by
    unfold chF ccF
    by_cases c : p < n ∧ lv ≤ L p
    · rw [if_pos c, if_pos c]
      by_cases c3 : L p = lv
      · rw [if_pos c3, if_pos c3]
        have i0 := ch_cc (L := L) (n := n) (lv := lv) b (p + 1) l (f + 1) (by omega) hl
        by_cases c4 : l = 0
        · rw [if_pos c4]
          refine ⟨⟨fun z => by omega, fun z => by omega⟩, by omega, fun _ => ⟨hp, fun _ => c.1⟩⟩
        · rw [if_neg c4]
          have i1 := ch_cc (L := L) (n := n) (lv := lv) b (p + 1) (l - 1) (f + 1) (by omega) (by omega)
          refine ⟨⟨fun z => by have := i1.1.mp z; omega, fun z => i1.1.mpr (by omega)⟩, by omega, fun z => ⟨(i1.2.2 z).1, fun _ => ?_⟩⟩
          cases b with
          | zero => exact absurd rfl z
          | succ b => exact (i1.2.2 z).2 (by omega)
      · rw [if_neg c3, if_neg c3]
        have i1 := ch_cc (L := L) (n := n) (lv := lv) b (p + 1) l f (by omega) hl
        refine ⟨i1.1, i1.2.1, fun z => ⟨(i1.2.2 z).1, fun _ => ?_⟩⟩
        cases b with
        | zero => exact absurd rfl z
        | succ b => exact (i1.2.2 z).2 (by omega)
    · rw [if_neg c, if_neg c]
      exact ⟨⟨fun _ => by omega, fun _ => rfl⟩, by omega, fun z => absurd rfl z⟩
theorem ccX_ch {X : ol} {p k : Int} (hp : -1 ≤ p) (hk : 0 ≤ k) : chX X p k = -1 ↔ ccX X p ≤ k := by
  have := (ch_cc (L := lvA X) (n := X.1 0) (lv := lvA X p + 1) 31 (p + 1) k 0 (by omega) hk).1
  unfold chX ccX
  rw [this]
  omega
theorem ccX_b {X : ol} (hV : vx X) {p : Int} (hp : -1 ≤ p) (p1 : p < X.1 0) : 0 ≤ ccX X p := (ch_cc (L := lvA X) (n := X.1 0) (lv := lvA X p + 1) 31 (p + 1) 0 0 (by omega) (by omega)).2.1
theorem ccF_ub {L : Int → Int} {n lv : Int} : ∀ (b : Nat) (p f : Int), ccF L n lv b p f ≤ f + b
  | 0, p, f => by simp [ccF]
  | b + 1, p, f => by
    unfold ccF
    split
    · by_cases c : L p = lv
      · rw [if_pos c]; have := ccF_ub (L := L) (n := n) (lv := lv) b (p + 1) (f + 1); omega
      · rw [if_neg c]; have := ccF_ub (L := L) (n := n) (lv := lv) b (p + 1) f; omega
    · omega
theorem chX_in {X : ol} {p k : Int} (hp : -1 ≤ p) (hk : 0 ≤ k) (hc : chX X p k ≠ -1) : 0 ≤ chX X p k ∧ chX X p k < X.1 0 := by
  have := (ch_cc (L := lvA X) (n := X.1 0) (lv := lvA X p + 1) 31 (p + 1) k 0 (by omega) hk).2.2 hc
  exact ⟨this.1, this.2 (by omega)⟩
theorem k3_cn_loop {h : ox_H} {m : Nat} {X Y : ol} (hM : MA h m Y) (hR : Rel X (Y.2 0)) (hV : vx X) {p : Int} (p0 : 0 ≤ p) (p1 : p < X.1 0) : ∀ (b : Nat) (k : Int), 0 ≤ k → k + b = ccX X p → oe 142 2 [.ref m, .int (iI p), .int (iI k)] [] h = some (some (.int (iI (ccX X p))), h) := by
  have hub := ccF_ub (L := lvA X) (n := X.1 0) (lv := lvA X p + 1) 31 (p + 1) 0
  have hub : ccX X p ≤ 0 + 31 := hub
  obtain ⟨mO, m0, m1, m2, m3, m4, m5, m6, m7, m8, m9, mi0, mi1, mi2, mi3, mi4, mi5, mj0, mj1, mj2, mj3, mj4, mj5⟩ := ma_facts hM
  intro b
  induction b with
  | zero =>
    intro k a c
    have hch := k3_childOf hM hR hV (p := p) (k := k) (by omega) p1 a (by omega)
    rw [(ccX_ch (by omega) a).mpr (by omega), show idA X (-1) = -9 from if_neg (by omega)] at hch
    rw [eX3_children_2]
    simp (disch := omega) only [eX3_children_0, eX3_children_1, eX3_children_3, eX3_children_4, eX3_children_5, eX3_children_8, eX3_children_10, eX3_children_13, eX3_children_16, eX3_children_19, eX3_children_20, ox_O_s, ox_B_s, ox_g_t, ox_A_s, ox_push_s, ox_push_n, ox_some, ox_z0, ox_z1, iI_lt, iI_eq, iI_add, iI_sub, ig_at, if_true, if_false, if_pos, if_neg, mO, hch]
    rw [show k = ccX X p by omega]
  | succ b ih =>
    intro k a c
    have hch := k3_childOf hM hR hV (p := p) (k := k) (by omega) p1 a (by omega)
    have hne : chX X p k ≠ -1 := fun z => by have := (ccX_ch (by omega) a).mp z; omega
    have hin := chX_in (by omega) a hne
    have hob := hV.2.2.1 _ hin.1 hin.2
    rw [show idA X (chX X p k) = ig (X.2 0) (chX X p k) from if_pos hin] at hch
    rw [eX3_children_2]
    simp (disch := omega) only [eX3_children_0, eX3_children_1, eX3_children_3, eX3_children_4, eX3_children_5, eX3_children_8, eX3_children_10, eX3_children_13, eX3_children_16, eX3_children_19, eX3_children_20, ox_O_s, ox_B_s, ox_g_t, ox_A_s, ox_push_s, ox_push_n, ox_some, ox_z0, ox_z1, iI_lt, iI_eq, iI_add, iI_sub, ig_at, if_true, if_false, if_pos, if_neg, mO, hch]
    exact ih (k + 1) (by omega) (by omega)
theorem k3_children {h : ox_H} {m : Nat} {X Y : ol} (hM : MA h m Y) (hR : Rel X (Y.2 0)) (hV : vx X) {p : Int} (p0 : 0 ≤ p) (p1 : p < X.1 0) : oe 142 0 [.ref m, .int (iI p), .null] [] h = some (some (.int (iI (ccX X p))), h) := by
  have hb := ccX_b hV (show -1 ≤ p by omega) p1
  have hk := k3_cn_loop hM hR hV p0 p1 (ccX X p).toNat 0 (by omega) (by omega)
  simp (disch := omega) only [eX3_children_0, eX3_children_1, eX3_children_3, eX3_children_4, eX3_children_5, eX3_children_8, eX3_children_10, eX3_children_13, eX3_children_16, eX3_children_19, eX3_children_20, ox_O_s, ox_B_s, ox_g_t, ox_A_s, ox_push_s, ox_push_n, ox_some, ox_z0, ox_z1, iI_lt, iI_eq, iI_add, iI_sub, ig_at, if_true, if_false, if_pos, if_neg]
  exact hk
def hdP (X : ol) (w : Int) : Int → Bool := if w = 3 then opX X else if w = 4 then shX X else mpX X
theorem k3_hd_loop {h : ox_H} {m : Nat} {X Y : ol} (hM : MA h m Y) (hR : Rel X (Y.2 0)) (hV : vx X) {w : Int} (w0 : 0 ≤ w) (w1 : w < 100) : ∀ (b : Nat) (p f g : Int) (v5 : Value), 0 ≤ p → p ≤ X.1 0 → X.1 0 - p < b → 0 ≤ f → f ≤ p → 0 ≤ g → g ≤ 6 → oe 137 7 [.ref m, .int (iI w), .int (iI f), .int (iI g), .int (iI p), v5] [] h = some (some (.int (iI (if w = 5 then dpF (lvA X) (X.1 0) b p g else cnF (hdP X w) (X.1 0) b p f))), h) := by
  have hm := k3_many hM hR hV
  obtain ⟨mO, m0, m1, m2, m3, m4, m5, m6, m7, m8, m9, mi0, mi1, mi2, mi3, mi4, mi5, mj0, mj1, mj2, mj3, mj4, mj5⟩ := ma_facts hM
  have hn := hV.2.1
  intro b
  induction b with
  | zero => intro p f g v5 a b c; omega
  | succ b ih =>
    intro p f g v5 a bq c d e d1 e1
    rw [eX3_headings_7]
    unfold cnF dpF
    by_cases c1 : p < X.1 0
    · have hl := k3_levelAt hM hR hV a c1
      have hb := lvA_b hV p
      have hop := k3_isOpen hM hR hV a c1
      have hsh := k3_isShown hM hR hV a c1
      have hpo := k3_parentOf hM hR hV a c1
      have hpb := pA_b (lvA X) (lvA X p) p.toNat
      have hkd := kdA_in hV a c1
      have hk := k3_kindAt hM hR hV a c1
      have hal := k3_isAllowed hM hR hV (q := pA (lvA X) (lvA X p) p.toNat) (k := kdA X p) (by omega) (by omega) hkd.1 hkd.2
      rw [if_pos c1, if_pos c1]
      have hgo : ∀ b' : Bool, hdP X w p = b' → oe 137 68 [.ref m, .int (iI w), .int (iI f), .int (iI g), .int (iI p), v5] [.int (iI (zb b'))] h = some (some (.int (iI (if w = 5 then dpF (lvA X) (X.1 0) b (p + 1) (if g < lvA X p then lvA X p else g) else cnF (hdP X w) (X.1 0) b (p + 1) (if hdP X w p = true then f + 1 else f)))), h) := by
        intro b' hb'
        by_cases c2 : g < lvA X p
        · rw [if_pos c2]
          cases b' with
          | true =>
            rw [if_pos (show hdP X w p = true from hb'), zb_t]
            simp (disch := omega) only [eX3_headings_0, eX3_headings_1, eX3_headings_2, eX3_headings_3, eX3_headings_4, eX3_headings_5, eX3_headings_9, eX3_headings_10, eX3_headings_13, eX3_headings_16, eX3_headings_17, eX3_headings_18, eX3_headings_21, eX3_headings_22, eX3_headings_24, eX3_headings_27, eX3_headings_30, eX3_headings_31, eX3_headings_32, eX3_headings_35, eX3_headings_36, eX3_headings_38, eX3_headings_41, eX3_headings_44, eX3_headings_45, eX3_headings_46, eX3_headings_48, eX3_headings_51, eX3_headings_52, eX3_headings_54, eX3_headings_57, eX3_headings_60, eX3_headings_63, eX3_headings_64, eX3_headings_67, eX3_headings_68, eX3_headings_70, eX3_headings_71, eX3_headings_73, eX3_headings_76, eX3_headings_77, eX3_headings_80, eX3_headings_81, eX3_headings_82, eX3_headings_83, eX3_headings_84, eX3_headings_86, eX3_headings_89, eX3_headings_90, eX3_headings_93, eX3_headings_94, eX3_headings_96, eX3_headings_99, eX3_headings_102, eX3_headings_103, eX3_headings_104, eX3_headings_107, eX3_headings_110, eX3_headings_111, eX3_headings_112, eX3_headings_115, eX3_headings_116, eX3_headings_119, eX3_headings_120, ox_O_s, ox_B_s, ox_g_t, ox_A_s, ox_push_s, ox_push_n, ox_some, ox_z0, ox_z1, iI_lt, iI_eq, iI_add, iI_sub, ig_at, if_true, if_false, if_pos, if_neg, mO, hl]
            exact ih (p + 1) (f + 1) (lvA X p) _ (by omega) (by omega) (by omega) (by omega) (by omega) (by omega) (by omega)
          | false =>
            rw [if_neg (show ¬ hdP X w p = true by rw [hb']; decide), zb_f]
            simp (disch := omega) only [eX3_headings_0, eX3_headings_1, eX3_headings_2, eX3_headings_3, eX3_headings_4, eX3_headings_5, eX3_headings_9, eX3_headings_10, eX3_headings_13, eX3_headings_16, eX3_headings_17, eX3_headings_18, eX3_headings_21, eX3_headings_22, eX3_headings_24, eX3_headings_27, eX3_headings_30, eX3_headings_31, eX3_headings_32, eX3_headings_35, eX3_headings_36, eX3_headings_38, eX3_headings_41, eX3_headings_44, eX3_headings_45, eX3_headings_46, eX3_headings_48, eX3_headings_51, eX3_headings_52, eX3_headings_54, eX3_headings_57, eX3_headings_60, eX3_headings_63, eX3_headings_64, eX3_headings_67, eX3_headings_68, eX3_headings_70, eX3_headings_71, eX3_headings_73, eX3_headings_76, eX3_headings_77, eX3_headings_80, eX3_headings_81, eX3_headings_82, eX3_headings_83, eX3_headings_84, eX3_headings_86, eX3_headings_89, eX3_headings_90, eX3_headings_93, eX3_headings_94, eX3_headings_96, eX3_headings_99, eX3_headings_102, eX3_headings_103, eX3_headings_104, eX3_headings_107, eX3_headings_110, eX3_headings_111, eX3_headings_112, eX3_headings_115, eX3_headings_116, eX3_headings_119, eX3_headings_120, ox_O_s, ox_B_s, ox_g_t, ox_A_s, ox_push_s, ox_push_n, ox_some, ox_z0, ox_z1, iI_lt, iI_eq, iI_add, iI_sub, ig_at, if_true, if_false, if_pos, if_neg, mO, hl, Int.add_zero]
            exact ih (p + 1) f (lvA X p) _ (by omega) (by omega) (by omega) (by omega) (by omega) (by omega) (by omega)
        · rw [if_neg c2]
          cases b' with
          | true =>
            rw [if_pos (show hdP X w p = true from hb'), zb_t]
            simp (disch := omega) only [eX3_headings_0, eX3_headings_1, eX3_headings_2, eX3_headings_3, eX3_headings_4, eX3_headings_5, eX3_headings_9, eX3_headings_10, eX3_headings_13, eX3_headings_16, eX3_headings_17, eX3_headings_18, eX3_headings_21, eX3_headings_22, eX3_headings_24, eX3_headings_27, eX3_headings_30, eX3_headings_31, eX3_headings_32, eX3_headings_35, eX3_headings_36, eX3_headings_38, eX3_headings_41, eX3_headings_44, eX3_headings_45, eX3_headings_46, eX3_headings_48, eX3_headings_51, eX3_headings_52, eX3_headings_54, eX3_headings_57, eX3_headings_60, eX3_headings_63, eX3_headings_64, eX3_headings_67, eX3_headings_68, eX3_headings_70, eX3_headings_71, eX3_headings_73, eX3_headings_76, eX3_headings_77, eX3_headings_80, eX3_headings_81, eX3_headings_82, eX3_headings_83, eX3_headings_84, eX3_headings_86, eX3_headings_89, eX3_headings_90, eX3_headings_93, eX3_headings_94, eX3_headings_96, eX3_headings_99, eX3_headings_102, eX3_headings_103, eX3_headings_104, eX3_headings_107, eX3_headings_110, eX3_headings_111, eX3_headings_112, eX3_headings_115, eX3_headings_116, eX3_headings_119, eX3_headings_120, ox_O_s, ox_B_s, ox_g_t, ox_A_s, ox_push_s, ox_push_n, ox_some, ox_z0, ox_z1, iI_lt, iI_eq, iI_add, iI_sub, ig_at, if_true, if_false, if_pos, if_neg, mO, hl]
            exact ih (p + 1) (f + 1) g _ (by omega) (by omega) (by omega) (by omega) (by omega) (by omega) (by omega)
          | false =>
            rw [if_neg (show ¬ hdP X w p = true by rw [hb']; decide), zb_f]
            simp (disch := omega) only [eX3_headings_0, eX3_headings_1, eX3_headings_2, eX3_headings_3, eX3_headings_4, eX3_headings_5, eX3_headings_9, eX3_headings_10, eX3_headings_13, eX3_headings_16, eX3_headings_17, eX3_headings_18, eX3_headings_21, eX3_headings_22, eX3_headings_24, eX3_headings_27, eX3_headings_30, eX3_headings_31, eX3_headings_32, eX3_headings_35, eX3_headings_36, eX3_headings_38, eX3_headings_41, eX3_headings_44, eX3_headings_45, eX3_headings_46, eX3_headings_48, eX3_headings_51, eX3_headings_52, eX3_headings_54, eX3_headings_57, eX3_headings_60, eX3_headings_63, eX3_headings_64, eX3_headings_67, eX3_headings_68, eX3_headings_70, eX3_headings_71, eX3_headings_73, eX3_headings_76, eX3_headings_77, eX3_headings_80, eX3_headings_81, eX3_headings_82, eX3_headings_83, eX3_headings_84, eX3_headings_86, eX3_headings_89, eX3_headings_90, eX3_headings_93, eX3_headings_94, eX3_headings_96, eX3_headings_99, eX3_headings_102, eX3_headings_103, eX3_headings_104, eX3_headings_107, eX3_headings_110, eX3_headings_111, eX3_headings_112, eX3_headings_115, eX3_headings_116, eX3_headings_119, eX3_headings_120, ox_O_s, ox_B_s, ox_g_t, ox_A_s, ox_push_s, ox_push_n, ox_some, ox_z0, ox_z1, iI_lt, iI_eq, iI_add, iI_sub, ig_at, if_true, if_false, if_pos, if_neg, mO, hl, Int.add_zero]
            exact ih (p + 1) f g _ (by omega) (by omega) (by omega) (by omega) (by omega) (by omega) (by omega)
      by_cases w3 : w = 3
      · have := hgo (opX X p) (by unfold hdP; rw [if_pos w3])
        simp (disch := omega) only [eX3_headings_9, eX3_headings_10, eX3_headings_13, eX3_headings_16, eX3_headings_17, eX3_headings_18, eX3_headings_21, eX3_headings_22, eX3_headings_24, eX3_headings_27, ox_O_s, ox_B_s, ox_g_t, ox_A_s, ox_push_s, ox_push_n, ox_some, ox_z0, ox_z1, iI_lt, iI_eq, if_true, if_false, if_pos, if_neg, mO, hm, hop]
        rw [if_neg (show ¬ w = 5 by omega)] at this
        exact this
      · by_cases w4 : w = 4
        · have := hgo (shX X p) (by unfold hdP; rw [if_neg w3, if_pos w4])
          simp (disch := omega) only [eX3_headings_9, eX3_headings_10, eX3_headings_13, eX3_headings_16, eX3_headings_17, eX3_headings_18, eX3_headings_30, eX3_headings_31, eX3_headings_32, eX3_headings_35, eX3_headings_36, eX3_headings_38, eX3_headings_41, ox_O_s, ox_B_s, ox_g_t, ox_A_s, ox_push_s, ox_push_n, ox_some, ox_z0, ox_z1, iI_lt, iI_eq, if_true, if_false, if_pos, if_neg, mO, hm, hsh]
          rw [if_neg (show ¬ w = 5 by omega)] at this
          exact this
        · have := hgo (mpX X p) (by unfold hdP; rw [if_neg w3, if_neg w4])
          unfold mpX at this
          cases c4 : alw X (kdA X (pA (lvA X) (lvA X p) p.toNat)) (kdA X p) <;> rw [c4] at hal this
          · rw [Bool.not_false, zb_t] at this
            simp (disch := omega) only [eX3_headings_9, eX3_headings_10, eX3_headings_13, eX3_headings_16, eX3_headings_17, eX3_headings_18, eX3_headings_30, eX3_headings_31, eX3_headings_32, eX3_headings_44, eX3_headings_45, eX3_headings_46, eX3_headings_48, eX3_headings_51, eX3_headings_52, eX3_headings_54, eX3_headings_57, eX3_headings_60, eX3_headings_63, eX3_headings_64, eX3_headings_67, ox_O_s, ox_B_s, ox_g_t, ox_A_s, ox_push_s, ox_push_n, ox_some, ox_z0, ox_z1, iI_lt, iI_eq, if_true, if_false, if_pos, if_neg, mO, hm, hpo, hk, hal, zb_f]
            exact this
          · rw [Bool.not_true, zb_f] at this
            simp (disch := omega) only [eX3_headings_9, eX3_headings_10, eX3_headings_13, eX3_headings_16, eX3_headings_17, eX3_headings_18, eX3_headings_30, eX3_headings_31, eX3_headings_32, eX3_headings_44, eX3_headings_45, eX3_headings_46, eX3_headings_48, eX3_headings_51, eX3_headings_52, eX3_headings_54, eX3_headings_57, eX3_headings_60, eX3_headings_63, eX3_headings_64, eX3_headings_67, ox_O_s, ox_B_s, ox_g_t, ox_A_s, ox_push_s, ox_push_n, ox_some, ox_z0, ox_z1, iI_lt, iI_eq, if_true, if_false, if_pos, if_neg, mO, hm, hpo, hk, hal, zb_t]
            exact this
    · rw [if_neg c1, if_neg c1]
      by_cases w5 : w = 5
      · rw [if_pos w5]
        simp (disch := omega) only [eX3_headings_0, eX3_headings_1, eX3_headings_2, eX3_headings_3, eX3_headings_4, eX3_headings_5, eX3_headings_9, eX3_headings_10, eX3_headings_13, eX3_headings_16, eX3_headings_17, eX3_headings_18, eX3_headings_21, eX3_headings_22, eX3_headings_24, eX3_headings_27, eX3_headings_30, eX3_headings_31, eX3_headings_32, eX3_headings_35, eX3_headings_36, eX3_headings_38, eX3_headings_41, eX3_headings_44, eX3_headings_45, eX3_headings_46, eX3_headings_48, eX3_headings_51, eX3_headings_52, eX3_headings_54, eX3_headings_57, eX3_headings_60, eX3_headings_63, eX3_headings_64, eX3_headings_67, eX3_headings_68, eX3_headings_70, eX3_headings_71, eX3_headings_73, eX3_headings_76, eX3_headings_77, eX3_headings_80, eX3_headings_81, eX3_headings_82, eX3_headings_83, eX3_headings_84, eX3_headings_86, eX3_headings_89, eX3_headings_90, eX3_headings_93, eX3_headings_94, eX3_headings_96, eX3_headings_99, eX3_headings_102, eX3_headings_103, eX3_headings_104, eX3_headings_107, eX3_headings_110, eX3_headings_111, eX3_headings_112, eX3_headings_115, eX3_headings_116, eX3_headings_119, eX3_headings_120, ox_O_s, ox_B_s, ox_g_t, ox_A_s, ox_push_s, ox_push_n, ox_some, ox_z0, ox_z1, iI_lt, iI_eq, iI_add, iI_sub, ig_at, if_true, if_false, if_pos, if_neg, mO, hm]
      · rw [if_neg w5]
        simp (disch := omega) only [eX3_headings_0, eX3_headings_1, eX3_headings_2, eX3_headings_3, eX3_headings_4, eX3_headings_5, eX3_headings_9, eX3_headings_10, eX3_headings_13, eX3_headings_16, eX3_headings_17, eX3_headings_18, eX3_headings_21, eX3_headings_22, eX3_headings_24, eX3_headings_27, eX3_headings_30, eX3_headings_31, eX3_headings_32, eX3_headings_35, eX3_headings_36, eX3_headings_38, eX3_headings_41, eX3_headings_44, eX3_headings_45, eX3_headings_46, eX3_headings_48, eX3_headings_51, eX3_headings_52, eX3_headings_54, eX3_headings_57, eX3_headings_60, eX3_headings_63, eX3_headings_64, eX3_headings_67, eX3_headings_68, eX3_headings_70, eX3_headings_71, eX3_headings_73, eX3_headings_76, eX3_headings_77, eX3_headings_80, eX3_headings_81, eX3_headings_82, eX3_headings_83, eX3_headings_84, eX3_headings_86, eX3_headings_89, eX3_headings_90, eX3_headings_93, eX3_headings_94, eX3_headings_96, eX3_headings_99, eX3_headings_102, eX3_headings_103, eX3_headings_104, eX3_headings_107, eX3_headings_110, eX3_headings_111, eX3_headings_112, eX3_headings_115, eX3_headings_116, eX3_headings_119, eX3_headings_120, ox_O_s, ox_B_s, ox_g_t, ox_A_s, ox_push_s, ox_push_n, ox_some, ox_z0, ox_z1, iI_lt, iI_eq, iI_add, iI_sub, ig_at, if_true, if_false, if_pos, if_neg, mO, hm]
theorem k3_headings {h : ox_H} {m : Nat} {X Y : ol} (hM : MA h m Y) (hR : Rel X (Y.2 0)) (hV : vx X) {w : Int} (w0 : 0 ≤ w) (w1 : w < 100) : oe 137 0 [.ref m, .int (iI w), .null, .null, .null, .null] [] h = some (some (.int (iI (if w = 5 then dpX X 0 (X.1 0) else cnF (hdP X w) (X.1 0) 31 0 0))), h) := by
  have hn := hV.2.1
  have hk := k3_hd_loop hM hR hV w0 w1 31 0 0 0 .null (by omega) (by omega) (by omega) (by omega) (by omega) (by omega) (by omega)
  simp (disch := omega) only [eX3_headings_0, eX3_headings_1, eX3_headings_2, eX3_headings_3, eX3_headings_4, eX3_headings_5, eX3_headings_9, eX3_headings_10, eX3_headings_13, eX3_headings_16, eX3_headings_17, eX3_headings_18, eX3_headings_21, eX3_headings_22, eX3_headings_24, eX3_headings_27, eX3_headings_30, eX3_headings_31, eX3_headings_32, eX3_headings_35, eX3_headings_36, eX3_headings_38, eX3_headings_41, eX3_headings_44, eX3_headings_45, eX3_headings_46, eX3_headings_48, eX3_headings_51, eX3_headings_52, eX3_headings_54, eX3_headings_57, eX3_headings_60, eX3_headings_63, eX3_headings_64, eX3_headings_67, eX3_headings_68, eX3_headings_70, eX3_headings_71, eX3_headings_73, eX3_headings_76, eX3_headings_77, eX3_headings_80, eX3_headings_81, eX3_headings_82, eX3_headings_83, eX3_headings_84, eX3_headings_86, eX3_headings_89, eX3_headings_90, eX3_headings_93, eX3_headings_94, eX3_headings_96, eX3_headings_99, eX3_headings_102, eX3_headings_103, eX3_headings_104, eX3_headings_107, eX3_headings_110, eX3_headings_111, eX3_headings_112, eX3_headings_115, eX3_headings_116, eX3_headings_119, eX3_headings_120, ox_O_s, ox_B_s, ox_g_t, ox_A_s, ox_push_s, ox_push_n, ox_some, ox_z0, ox_z1, iI_lt, iI_eq, iI_add, iI_sub, ig_at, if_true, if_false, if_pos, if_neg]
  exact hk
