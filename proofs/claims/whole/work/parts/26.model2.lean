/-! The reference's reads, second half. -/
theorem or_zb (a b : Bool) : iI (zb a) ||| iI (zb b) = iI (zb (a || b)) := by cases a <;> cases b <;> decide +kernel
theorem eP_in {L : Int → Int} {n lv : Int} : ∀ (m : Nat) (e q : Int), e ≤ q → q < eP L n lv m e → q < n ∧ lv < L q
  | 0, e, q, h1, h2 => by simp only [eP] at h2; omega
  | m + 1, e, q, h1, h2 => by
    unfold eP at h2
    split at h2
    · rename_i hc
      by_cases he : e = q
      · subst he; exact hc
      · exact eP_in m (e + 1) q (by omega) h2
    · omega
theorem eP_end {L : Int → Int} {n lv : Int} : ∀ (m : Nat) (e : Int), n - e < m → e ≤ n → ¬ (eP L n lv m e < n ∧ lv < L (eP L n lv m e))
  | 0, e, h1, h2 => by omega
  | m + 1, e, h1, h2 => by
    unfold eP
    split
    · exact eP_end m (e + 1) (by omega) (by omega)
    · assumption
theorem enX_in {X : ol} {p q : Int} (h1 : p + 1 ≤ q) (h2 : q < enX X p) : q < X.1 0 ∧ lvA X p < lvA X q := eP_in 31 (p + 1) q h1 h2
theorem enX_end {X : ol} (hV : vx X) {p : Int} (h0 : 0 ≤ p) (h1 : p < X.1 0) : ¬ (enX X p < X.1 0 ∧ lvA X p < lvA X (enX X p)) := eP_end 31 (p + 1) (by have := hV.2.1; omega) (by omega)
theorem k3_dp_loop {h : ox_H} {m : Nat} {X Y : ol} (hM : MA h m Y) (hR : Rel X (Y.2 0)) (hV : vx X) {to by' : Int} (b0 : -10 ≤ by') (b1 : by' ≤ 10) (t1 : to ≤ X.1 0) (v1 : Value) : ∀ (k : Nat) (p : Int), 0 ≤ p → p + k = to → oe 105 3 [.ref m, v1, .int (iI to), .int (iI by'), .int (iI p)] [] h = some (some (.int (iI (zb (anF (fun q => decide (6 < lvA X q + by')) k p)))), h) := by
  obtain ⟨mO, m0, m1, m2, m3, m4, m5, m6, m7, m8, m9, mi0, mi1, mi2, mi3, mi4, mi5, mj0, mj1, mj2, mj3, mj4, mj5⟩ := ma_facts hM
  have hn := hV.2.1
  intro k
  induction k with
  | zero =>
    intro p a b
    rw [eX3_isDeep_3]
    simp (disch := omega) only [eX3_isDeep_0, eX3_isDeep_1, eX3_isDeep_5, eX3_isDeep_6, eX3_isDeep_9, eX3_isDeep_10, eX3_isDeep_12, eX3_isDeep_15, eX3_isDeep_16, eX3_isDeep_17, eX3_isDeep_19, eX3_isDeep_22, eX3_isDeep_23, eX3_isDeep_24, eX3_isDeep_27, eX3_isDeep_30, eX3_isDeep_31, ox_O_s, ox_B_s, ox_g_t, ox_A_s, ox_push_s, ox_push_n, ox_some, ox_z0, ox_z1, iI_lt, iI_eq, iI_add, iI_sub, ig_at, if_true, if_false, if_pos, if_neg, mO]
    rfl
  | succ k ih =>
    intro p a b
    have hl := k3_levelAt hM hR hV a (show p < X.1 0 by omega)
    have hb := lvA_b hV p
    rw [eX3_isDeep_3]
    unfold anF
    by_cases c : 6 < lvA X p + by'
    · rw [decide_eq_true c, Bool.true_or, zb_t]
      simp (disch := omega) only [eX3_isDeep_0, eX3_isDeep_1, eX3_isDeep_5, eX3_isDeep_6, eX3_isDeep_9, eX3_isDeep_10, eX3_isDeep_12, eX3_isDeep_15, eX3_isDeep_16, eX3_isDeep_17, eX3_isDeep_19, eX3_isDeep_22, eX3_isDeep_23, eX3_isDeep_24, eX3_isDeep_27, eX3_isDeep_30, eX3_isDeep_31, ox_O_s, ox_B_s, ox_g_t, ox_A_s, ox_push_s, ox_push_n, ox_some, ox_z0, ox_z1, iI_lt, iI_eq, iI_add, iI_sub, ig_at, if_true, if_false, if_pos, if_neg, mO, hl]
    · rw [decide_eq_false c, Bool.false_or]
      simp (disch := omega) only [eX3_isDeep_0, eX3_isDeep_1, eX3_isDeep_5, eX3_isDeep_6, eX3_isDeep_9, eX3_isDeep_10, eX3_isDeep_12, eX3_isDeep_15, eX3_isDeep_16, eX3_isDeep_17, eX3_isDeep_19, eX3_isDeep_22, eX3_isDeep_23, eX3_isDeep_24, eX3_isDeep_27, eX3_isDeep_30, eX3_isDeep_31, ox_O_s, ox_B_s, ox_g_t, ox_A_s, ox_push_s, ox_push_n, ox_some, ox_z0, ox_z1, iI_lt, iI_eq, iI_add, iI_sub, ig_at, if_true, if_false, if_pos, if_neg, mO, hl]
      exact ih (p + 1) (by omega) (by omega)
theorem dp_an {L : Int → Int} {to by' : Int} : ∀ (m k : Nat) (p g : Int), p + k = to → k ≤ m → (decide (6 < dpF L to m p g + by')) = (decide (6 < g + by') || anF (fun q => decide (6 < L q + by')) k p)
  | 0, k, p, g, h1, h2 => by
    have : k = 0 := by omega
    subst this
    show _ = (_ || false)
    rw [Bool.or_false]
    rfl
  | m + 1, 0, p, g, h1, h2 => by
    unfold dpF
    rw [if_neg (by omega)]
    simp [anF]
  | m + 1, k + 1, p, g, h1, h2 => by
    unfold dpF anF
    rw [if_pos (by omega), dp_an m k (p + 1) _ (by omega) (by omega)]
    by_cases c : g < L p
    · rw [if_pos c]
      by_cases c1 : 6 < L p + by'
      · simp [c1]
      · have : ¬ 6 < g + by' := by omega
        simp [c1, this]
    · rw [if_neg c]
      by_cases c1 : 6 < L p + by'
      · have : 6 < g + by' := by omega
        simp [c1, this]
      · simp [c1]
theorem k3_isDeep {h : ox_H} {m : Nat} {X Y : ol} (hM : MA h m Y) (hR : Rel X (Y.2 0)) (hV : vx X) {p to by' : Int} (b0 : -10 ≤ by') (b1 : by' ≤ 6) (p0 : 0 ≤ p) (p1 : p ≤ to) (t1 : to ≤ X.1 0) : oe 105 0 [.ref m, .int (iI p), .int (iI to), .int (iI by'), .null] [] h = some (some (.int (iI (zb (decide (6 < dpX X p to + by'))))), h) := by
  have hn := hV.2.1
  have hk := k3_dp_loop hM hR hV b0 (by omega) t1 (.int (iI p)) (to - p).toNat p p0 (by omega)
  rw [show decide (6 < dpX X p to + by') = anF (fun q => decide (6 < lvA X q + by')) (to - p).toNat p by
    unfold dpX
    rw [dp_an 31 (to - p).toNat p 0 (by omega) (by omega), decide_eq_false (by omega), Bool.false_or]]
  simp (disch := omega) only [eX3_isDeep_0, eX3_isDeep_1, eX3_isDeep_5, eX3_isDeep_6, eX3_isDeep_9, eX3_isDeep_10, eX3_isDeep_12, eX3_isDeep_15, eX3_isDeep_16, eX3_isDeep_17, eX3_isDeep_19, eX3_isDeep_22, eX3_isDeep_23, eX3_isDeep_24, eX3_isDeep_27, eX3_isDeep_30, eX3_isDeep_31, ox_O_s, ox_B_s, ox_g_t, ox_A_s, ox_push_s, ox_push_n, ox_some, ox_z0, ox_z1, iI_lt, iI_eq, iI_add, iI_sub, ig_at, if_true, if_false, if_pos, if_neg]
  exact hk
theorem k3_mu_loop {h : ox_H} {m : Nat} {X Y : ol} (hM : MA h m Y) (hR : Rel X (Y.2 0)) (hV : vx X) {p : Int} (p0 : 0 ≤ p) (p1 : p < X.1 0) : ∀ (k : Nat) (q : Int), p + 1 ≤ q → q ≤ enX X p → X.1 0 - q < k → oe 102 10 [.ref m, .int (iI p), .int (iI (nz (pA (lvA X) (lvA X p) p.toNat))), .int (iI q)] [] h = some (some (.int (iI (zb (aaF X (kdA X (pA (lvA X) (lvA X p) p.toNat)) (lvA X p + 1) k q)))), h) := by
  have hn := hV.2.1
  have he := k3_endOf hM hR hV p0 p1
  have heb := enX_b p1
  have hlp := k3_levelAt hM hR hV p0 p1
  have hbp := lvA_b hV p
  have hpa := pA_b (lvA X) (lvA X p) p.toNat
  obtain ⟨mO, m0, m1, m2, m3, m4, m5, m6, m7, m8, m9, mi0, mi1, mi2, mi3, mi4, mi5, mj0, mj1, mj2, mj3, mj4, mj5⟩ := ma_facts hM
  intro k
  induction k with
  | zero => intro q a b c; omega
  | succ k ih =>
    intro q a b c
    rw [eX3_mayMoveUp_10]
    unfold aaF
    by_cases c1 : q < enX X p
    · have hi := enX_in a c1
      have hl := k3_levelAt hM hR hV (show 0 ≤ q by omega) hi.1
      have hb := lvA_b hV q
      have hk := k3_kindAt hM hR hV (show 0 ≤ q by omega) hi.1
      have hkd := kdA_in hV (show 0 ≤ q by omega) hi.1
      have hal := k3_isAllowed hM hR hV (q := pA (lvA X) (lvA X p) p.toNat) (k := kdA X q) (by omega) (by omega) hkd.1 hkd.2
      rw [if_pos ⟨hi.1, by omega⟩]
      by_cases c3 : lvA X q = lvA X p + 1
      · cases c4 : alw X (kdA X (pA (lvA X) (lvA X p) p.toNat)) (kdA X q) with
        | false =>
          rw [if_pos ⟨c3, rfl⟩]
          rw [c4] at hal
          simp (disch := omega) only [eX3_mayMoveUp_0, eX3_mayMoveUp_1, eX3_mayMoveUp_2, eX3_mayMoveUp_5, eX3_mayMoveUp_6, eX3_mayMoveUp_7, eX3_mayMoveUp_8, eX3_mayMoveUp_9, eX3_mayMoveUp_11, eX3_mayMoveUp_12, eX3_mayMoveUp_13, eX3_mayMoveUp_16, eX3_mayMoveUp_19, eX3_mayMoveUp_20, eX3_mayMoveUp_21, eX3_mayMoveUp_24, eX3_mayMoveUp_25, eX3_mayMoveUp_26, eX3_mayMoveUp_29, eX3_mayMoveUp_30, eX3_mayMoveUp_31, eX3_mayMoveUp_34, eX3_mayMoveUp_35, eX3_mayMoveUp_36, eX3_mayMoveUp_37, eX3_mayMoveUp_38, eX3_mayMoveUp_41, eX3_mayMoveUp_44, eX3_mayMoveUp_47, eX3_mayMoveUp_48, eX3_mayMoveUp_49, eX3_mayMoveUp_52, eX3_mayMoveUp_55, eX3_mayMoveUp_56, ox_O_s, ox_B_s, ox_g_t, ox_A_s, ox_push_s, ox_push_n, ox_some, ox_z0, ox_z1, iI_lt, iI_eq, iI_add, iI_sub, ig_at, if_true, if_false, if_pos, if_neg, mO, he, hl, hlp, hk, hal, zb_f]
        | true =>
          rw [if_neg (fun z => Bool.noConfusion z.2)]
          rw [c4] at hal
          simp (disch := omega) only [eX3_mayMoveUp_0, eX3_mayMoveUp_1, eX3_mayMoveUp_2, eX3_mayMoveUp_5, eX3_mayMoveUp_6, eX3_mayMoveUp_7, eX3_mayMoveUp_8, eX3_mayMoveUp_9, eX3_mayMoveUp_11, eX3_mayMoveUp_12, eX3_mayMoveUp_13, eX3_mayMoveUp_16, eX3_mayMoveUp_19, eX3_mayMoveUp_20, eX3_mayMoveUp_21, eX3_mayMoveUp_24, eX3_mayMoveUp_25, eX3_mayMoveUp_26, eX3_mayMoveUp_29, eX3_mayMoveUp_30, eX3_mayMoveUp_31, eX3_mayMoveUp_34, eX3_mayMoveUp_35, eX3_mayMoveUp_36, eX3_mayMoveUp_37, eX3_mayMoveUp_38, eX3_mayMoveUp_41, eX3_mayMoveUp_44, eX3_mayMoveUp_47, eX3_mayMoveUp_48, eX3_mayMoveUp_49, eX3_mayMoveUp_52, eX3_mayMoveUp_55, eX3_mayMoveUp_56, ox_O_s, ox_B_s, ox_g_t, ox_A_s, ox_push_s, ox_push_n, ox_some, ox_z0, ox_z1, iI_lt, iI_eq, iI_add, iI_sub, ig_at, if_true, if_false, if_pos, if_neg, mO, he, hl, hlp, hk, hal, zb_t]
          exact ih (q + 1) (by omega) (by omega) (by omega)
      · rw [if_neg (fun z => c3 z.1)]
        simp (disch := omega) only [eX3_mayMoveUp_0, eX3_mayMoveUp_1, eX3_mayMoveUp_2, eX3_mayMoveUp_5, eX3_mayMoveUp_6, eX3_mayMoveUp_7, eX3_mayMoveUp_8, eX3_mayMoveUp_9, eX3_mayMoveUp_11, eX3_mayMoveUp_12, eX3_mayMoveUp_13, eX3_mayMoveUp_16, eX3_mayMoveUp_19, eX3_mayMoveUp_20, eX3_mayMoveUp_21, eX3_mayMoveUp_24, eX3_mayMoveUp_25, eX3_mayMoveUp_26, eX3_mayMoveUp_29, eX3_mayMoveUp_30, eX3_mayMoveUp_31, eX3_mayMoveUp_34, eX3_mayMoveUp_35, eX3_mayMoveUp_36, eX3_mayMoveUp_37, eX3_mayMoveUp_38, eX3_mayMoveUp_41, eX3_mayMoveUp_44, eX3_mayMoveUp_47, eX3_mayMoveUp_48, eX3_mayMoveUp_49, eX3_mayMoveUp_52, eX3_mayMoveUp_55, eX3_mayMoveUp_56, ox_O_s, ox_B_s, ox_g_t, ox_A_s, ox_push_s, ox_push_n, ox_some, ox_z0, ox_z1, iI_lt, iI_eq, iI_add, iI_sub, ig_at, if_true, if_false, if_pos, if_neg, mO, he, hl, hlp]
        exact ih (q + 1) (by omega) (by omega) (by omega)
    · have e : q = enX X p := by omega
      have hend := enX_end hV p0 p1
      rw [if_neg (fun z => hend (by rw [e] at z; exact ⟨z.1, by omega⟩))]
      simp (disch := omega) only [eX3_mayMoveUp_0, eX3_mayMoveUp_1, eX3_mayMoveUp_2, eX3_mayMoveUp_5, eX3_mayMoveUp_6, eX3_mayMoveUp_7, eX3_mayMoveUp_8, eX3_mayMoveUp_9, eX3_mayMoveUp_11, eX3_mayMoveUp_12, eX3_mayMoveUp_13, eX3_mayMoveUp_16, eX3_mayMoveUp_19, eX3_mayMoveUp_20, eX3_mayMoveUp_21, eX3_mayMoveUp_24, eX3_mayMoveUp_25, eX3_mayMoveUp_26, eX3_mayMoveUp_29, eX3_mayMoveUp_30, eX3_mayMoveUp_31, eX3_mayMoveUp_34, eX3_mayMoveUp_35, eX3_mayMoveUp_36, eX3_mayMoveUp_37, eX3_mayMoveUp_38, eX3_mayMoveUp_41, eX3_mayMoveUp_44, eX3_mayMoveUp_47, eX3_mayMoveUp_48, eX3_mayMoveUp_49, eX3_mayMoveUp_52, eX3_mayMoveUp_55, eX3_mayMoveUp_56, ox_O_s, ox_B_s, ox_g_t, ox_A_s, ox_push_s, ox_push_n, ox_some, ox_z0, ox_z1, iI_lt, iI_eq, iI_add, iI_sub, ig_at, if_true, if_false, if_pos, if_neg, mO, he, zb_t]
theorem k3_mayMoveUp {h : ox_H} {m : Nat} {X Y : ol} (hM : MA h m Y) (hR : Rel X (Y.2 0)) (hV : vx X) {p : Int} (p0 : 0 ≤ p) (p1 : p < X.1 0) : oe 102 0 [.ref m, .int (iI p), .null, .null] [] h = some (some (.int (iI (zb (aaX X (kdA X (pA (lvA X) (lvA X p) p.toNat)) (p + 1) (lvA X p + 1))))), h) := by
  have hn := hV.2.1
  have heb := enX_b p1
  have hpo := k3_parentOf hM hR hV p0 p1
  have hk := k3_mu_loop hM hR hV p0 p1 31 (p + 1) (by omega) (by omega) (by omega)
  obtain ⟨mO, m0, m1, m2, m3, m4, m5, m6, m7, m8, m9, mi0, mi1, mi2, mi3, mi4, mi5, mj0, mj1, mj2, mj3, mj4, mj5⟩ := ma_facts hM
  simp (disch := omega) only [eX3_mayMoveUp_0, eX3_mayMoveUp_1, eX3_mayMoveUp_2, eX3_mayMoveUp_5, eX3_mayMoveUp_6, eX3_mayMoveUp_7, eX3_mayMoveUp_8, eX3_mayMoveUp_9, eX3_mayMoveUp_11, eX3_mayMoveUp_12, eX3_mayMoveUp_13, eX3_mayMoveUp_16, eX3_mayMoveUp_19, eX3_mayMoveUp_20, eX3_mayMoveUp_21, eX3_mayMoveUp_24, eX3_mayMoveUp_25, eX3_mayMoveUp_26, eX3_mayMoveUp_29, eX3_mayMoveUp_30, eX3_mayMoveUp_31, eX3_mayMoveUp_34, eX3_mayMoveUp_35, eX3_mayMoveUp_36, eX3_mayMoveUp_37, eX3_mayMoveUp_38, eX3_mayMoveUp_41, eX3_mayMoveUp_44, eX3_mayMoveUp_47, eX3_mayMoveUp_48, eX3_mayMoveUp_49, eX3_mayMoveUp_52, eX3_mayMoveUp_55, eX3_mayMoveUp_56, ox_O_s, ox_B_s, ox_g_t, ox_A_s, ox_push_s, ox_push_n, ox_some, ox_z0, ox_z1, iI_lt, iI_eq, iI_add, iI_sub, ig_at, if_true, if_false, if_pos, if_neg, mO, hpo]
  exact hk
theorem k3_va_loop {h : ox_H} {m : Nat} {X Y : ol} (hM : MA h m Y) (hR : Rel X (Y.2 0)) (hV : vx X) {p : Int} (p0 : 0 ≤ p) (p1 : p < X.1 0) (v2 : Value) : ∀ (k : Nat) (s : Int) (v5 : Value), (k : Int) ≤ X.1 0 → 0 ≤ s → s + k ≤ 100 → oe 117 36 [.ref m, .int (iI p), v2, .int (iI s), .int (iI ((k : Int) - 1)), v5] [] h = some (some (.int (iI (vaF X (lvA X p) k s))), h) := by
  have hlp := k3_levelAt hM hR hV p0 p1
  have hbp := lvA_b hV p
  obtain ⟨mO, m0, m1, m2, m3, m4, m5, m6, m7, m8, m9, mi0, mi1, mi2, mi3, mi4, mi5, mj0, mj1, mj2, mj3, mj4, mj5⟩ := ma_facts hM
  obtain ⟨rl, r0, r1, r2, r3, r4, r5, r6, r7, r8⟩ := id hR
  obtain ⟨vl, vn, vo, vi, va, vfst, vs, vz, vr, vc, vt, vm, vk⟩ := id hV
  have l0 : (X.2 0).length = 30 := vl 0 (by omega)
  have l1 : (X.2 1).length = 30 := vl 1 (by omega)
  have l2 : (X.2 2).length = 30 := vl 2 (by omega)
  have l3 : (X.2 3).length = 30 := vl 3 (by omega)
  have l4 : (X.2 4).length = 30 := vl 4 (by omega)
  have l5 : (X.2 5).length = 30 := vl 5 (by omega)
  have l6 : (X.2 6).length = 5 := vl 6 (by omega)
  have l7 : (X.2 7).length = 7 := vl 7 (by omega)
  have l8 : (X.2 8).length = 12 := vl 8 (by omega)
  have l9 : (X.2 9).length = 12 := vl 9 (by omega)
  intro k
  induction k with
  | zero =>
    intro s v5 a b c
    rw [eX3_valueOf_36]
    simp (disch := omega) only [eX3_valueOf_0, eX3_valueOf_1, eX3_valueOf_4, eX3_valueOf_7, eX3_valueOf_8, eX3_valueOf_9, eX3_valueOf_12, eX3_valueOf_13, eX3_valueOf_14, eX3_valueOf_15, eX3_valueOf_16, eX3_valueOf_19, eX3_valueOf_20, eX3_valueOf_23, eX3_valueOf_24, eX3_valueOf_27, eX3_valueOf_28, eX3_valueOf_29, eX3_valueOf_30, eX3_valueOf_31, eX3_valueOf_32, eX3_valueOf_33, eX3_valueOf_34, eX3_valueOf_38, eX3_valueOf_41, eX3_valueOf_42, eX3_valueOf_44, eX3_valueOf_47, eX3_valueOf_48, eX3_valueOf_49, eX3_valueOf_52, eX3_valueOf_55, eX3_valueOf_56, eX3_valueOf_59, eX3_valueOf_62, eX3_valueOf_63, eX3_valueOf_65, eX3_valueOf_68, eX3_valueOf_69, eX3_valueOf_70, eX3_valueOf_72, eX3_valueOf_73, eX3_valueOf_75, eX3_valueOf_78, eX3_valueOf_79, eX3_valueOf_80, eX3_valueOf_83, eX3_valueOf_86, eX3_valueOf_88, eX3_valueOf_91, eX3_valueOf_93, eX3_valueOf_96, eX3_valueOf_98, eX3_valueOf_99, eX3_valueOf_100, eX3_valueOf_101, eX3_valueOf_104, eX3_valueOf_107, eX3_valueOf_110, eX3_valueOf_111, ox_O_s, ox_B_s, ox_g_t, ox_A_s, ox_push_s, ox_push_n, ox_some, ox_z0, ox_z1, iI_lt, iI_eq, iI_add, iI_sub, ig_at, if_true, if_false, if_pos, if_neg, mO, m0, m1, m2, m3, m4, m5, m6, m7, m8, m9, mi0, mi1, mi2, mi3, mi4, mi5, mj0, mj1, mj2, mj3, mj4, mj5]
    rfl
  | succ k ih =>
    intro s v5 a b c
    have hl := k3_levelAt hM hR hV (show (0 : Int) ≤ k by omega) (show (k : Int) < X.1 0 by omega)
    have hat := k3_at hM hR hV (show (0 : Int) ≤ k by omega) (show (k : Int) < X.1 0 by omega)
    have hb := lvA_b hV (k : Int)
    have ho := vo k (by omega) (by omega)
    have es := (r2 k (by omega) (by omega)).2.2.2.2
    have est : stA X k = ig (X.2 5) (ig (X.2 0) k) := if_pos ⟨by omega, by omega⟩
    rw [← est] at es
    have hsb := stA_b hV (k : Int)
    rw [eX3_valueOf_36, show ((k + 1 : Nat) : Int) - 1 = (k : Int) by omega]
    unfold vaF
    by_cases c1 : lvA X p ≤ lvA X k
    · rw [if_pos c1]
      by_cases c2 : lvA X k = lvA X p
      · by_cases c3 : stA X k = -1
        · rw [if_neg (fun z => z.2 c3)]
          simp (disch := omega) only [eX3_valueOf_0, eX3_valueOf_1, eX3_valueOf_4, eX3_valueOf_7, eX3_valueOf_8, eX3_valueOf_9, eX3_valueOf_12, eX3_valueOf_13, eX3_valueOf_14, eX3_valueOf_15, eX3_valueOf_16, eX3_valueOf_19, eX3_valueOf_20, eX3_valueOf_23, eX3_valueOf_24, eX3_valueOf_27, eX3_valueOf_28, eX3_valueOf_29, eX3_valueOf_30, eX3_valueOf_31, eX3_valueOf_32, eX3_valueOf_33, eX3_valueOf_34, eX3_valueOf_38, eX3_valueOf_41, eX3_valueOf_42, eX3_valueOf_44, eX3_valueOf_47, eX3_valueOf_48, eX3_valueOf_49, eX3_valueOf_52, eX3_valueOf_55, eX3_valueOf_56, eX3_valueOf_59, eX3_valueOf_62, eX3_valueOf_63, eX3_valueOf_65, eX3_valueOf_68, eX3_valueOf_69, eX3_valueOf_70, eX3_valueOf_72, eX3_valueOf_73, eX3_valueOf_75, eX3_valueOf_78, eX3_valueOf_79, eX3_valueOf_80, eX3_valueOf_83, eX3_valueOf_86, eX3_valueOf_88, eX3_valueOf_91, eX3_valueOf_93, eX3_valueOf_96, eX3_valueOf_98, eX3_valueOf_99, eX3_valueOf_100, eX3_valueOf_101, eX3_valueOf_104, eX3_valueOf_107, eX3_valueOf_110, eX3_valueOf_111, ox_O_s, ox_B_s, ox_g_t, ox_A_s, ox_push_s, ox_push_n, ox_some, ox_z0, ox_z1, iI_lt, iI_eq, iI_add, iI_sub, ig_at, if_true, if_false, if_pos, if_neg, mO, m0, m1, m2, m3, m4, m5, m6, m7, m8, m9, mi0, mi1, mi2, mi3, mi4, mi5, mj0, mj1, mj2, mj3, mj4, mj5, hl, hlp, hat, es]
          exact ih s _ (by omega) (by omega) (by omega)
        · rw [if_pos ⟨c2, c3⟩]
          by_cases c4 : stA X k = 0
          · rw [if_pos c4]
            simp (disch := omega) only [eX3_valueOf_0, eX3_valueOf_1, eX3_valueOf_4, eX3_valueOf_7, eX3_valueOf_8, eX3_valueOf_9, eX3_valueOf_12, eX3_valueOf_13, eX3_valueOf_14, eX3_valueOf_15, eX3_valueOf_16, eX3_valueOf_19, eX3_valueOf_20, eX3_valueOf_23, eX3_valueOf_24, eX3_valueOf_27, eX3_valueOf_28, eX3_valueOf_29, eX3_valueOf_30, eX3_valueOf_31, eX3_valueOf_32, eX3_valueOf_33, eX3_valueOf_34, eX3_valueOf_38, eX3_valueOf_41, eX3_valueOf_42, eX3_valueOf_44, eX3_valueOf_47, eX3_valueOf_48, eX3_valueOf_49, eX3_valueOf_52, eX3_valueOf_55, eX3_valueOf_56, eX3_valueOf_59, eX3_valueOf_62, eX3_valueOf_63, eX3_valueOf_65, eX3_valueOf_68, eX3_valueOf_69, eX3_valueOf_70, eX3_valueOf_72, eX3_valueOf_73, eX3_valueOf_75, eX3_valueOf_78, eX3_valueOf_79, eX3_valueOf_80, eX3_valueOf_83, eX3_valueOf_86, eX3_valueOf_88, eX3_valueOf_91, eX3_valueOf_93, eX3_valueOf_96, eX3_valueOf_98, eX3_valueOf_99, eX3_valueOf_100, eX3_valueOf_101, eX3_valueOf_104, eX3_valueOf_107, eX3_valueOf_110, eX3_valueOf_111, ox_O_s, ox_B_s, ox_g_t, ox_A_s, ox_push_s, ox_push_n, ox_some, ox_z0, ox_z1, iI_lt, iI_eq, iI_add, iI_sub, ig_at, if_true, if_false, if_pos, if_neg, mO, m0, m1, m2, m3, m4, m5, m6, m7, m8, m9, mi0, mi1, mi2, mi3, mi4, mi5, mj0, mj1, mj2, mj3, mj4, mj5, hl, hlp, hat, es]
            exact ih (s + 1) _ (by omega) (by omega) (by omega)
          · rw [if_neg c4]
            simp (disch := omega) only [eX3_valueOf_0, eX3_valueOf_1, eX3_valueOf_4, eX3_valueOf_7, eX3_valueOf_8, eX3_valueOf_9, eX3_valueOf_12, eX3_valueOf_13, eX3_valueOf_14, eX3_valueOf_15, eX3_valueOf_16, eX3_valueOf_19, eX3_valueOf_20, eX3_valueOf_23, eX3_valueOf_24, eX3_valueOf_27, eX3_valueOf_28, eX3_valueOf_29, eX3_valueOf_30, eX3_valueOf_31, eX3_valueOf_32, eX3_valueOf_33, eX3_valueOf_34, eX3_valueOf_38, eX3_valueOf_41, eX3_valueOf_42, eX3_valueOf_44, eX3_valueOf_47, eX3_valueOf_48, eX3_valueOf_49, eX3_valueOf_52, eX3_valueOf_55, eX3_valueOf_56, eX3_valueOf_59, eX3_valueOf_62, eX3_valueOf_63, eX3_valueOf_65, eX3_valueOf_68, eX3_valueOf_69, eX3_valueOf_70, eX3_valueOf_72, eX3_valueOf_73, eX3_valueOf_75, eX3_valueOf_78, eX3_valueOf_79, eX3_valueOf_80, eX3_valueOf_83, eX3_valueOf_86, eX3_valueOf_88, eX3_valueOf_91, eX3_valueOf_93, eX3_valueOf_96, eX3_valueOf_98, eX3_valueOf_99, eX3_valueOf_100, eX3_valueOf_101, eX3_valueOf_104, eX3_valueOf_107, eX3_valueOf_110, eX3_valueOf_111, ox_O_s, ox_B_s, ox_g_t, ox_A_s, ox_push_s, ox_push_n, ox_some, ox_z0, ox_z1, iI_lt, iI_eq, iI_add, iI_sub, ig_at, if_true, if_false, if_pos, if_neg, mO, m0, m1, m2, m3, m4, m5, m6, m7, m8, m9, mi0, mi1, mi2, mi3, mi4, mi5, mj0, mj1, mj2, mj3, mj4, mj5, hl, hlp, hat, es]
      · rw [if_neg (fun z => c2 z.1)]
        simp (disch := omega) only [eX3_valueOf_0, eX3_valueOf_1, eX3_valueOf_4, eX3_valueOf_7, eX3_valueOf_8, eX3_valueOf_9, eX3_valueOf_12, eX3_valueOf_13, eX3_valueOf_14, eX3_valueOf_15, eX3_valueOf_16, eX3_valueOf_19, eX3_valueOf_20, eX3_valueOf_23, eX3_valueOf_24, eX3_valueOf_27, eX3_valueOf_28, eX3_valueOf_29, eX3_valueOf_30, eX3_valueOf_31, eX3_valueOf_32, eX3_valueOf_33, eX3_valueOf_34, eX3_valueOf_38, eX3_valueOf_41, eX3_valueOf_42, eX3_valueOf_44, eX3_valueOf_47, eX3_valueOf_48, eX3_valueOf_49, eX3_valueOf_52, eX3_valueOf_55, eX3_valueOf_56, eX3_valueOf_59, eX3_valueOf_62, eX3_valueOf_63, eX3_valueOf_65, eX3_valueOf_68, eX3_valueOf_69, eX3_valueOf_70, eX3_valueOf_72, eX3_valueOf_73, eX3_valueOf_75, eX3_valueOf_78, eX3_valueOf_79, eX3_valueOf_80, eX3_valueOf_83, eX3_valueOf_86, eX3_valueOf_88, eX3_valueOf_91, eX3_valueOf_93, eX3_valueOf_96, eX3_valueOf_98, eX3_valueOf_99, eX3_valueOf_100, eX3_valueOf_101, eX3_valueOf_104, eX3_valueOf_107, eX3_valueOf_110, eX3_valueOf_111, ox_O_s, ox_B_s, ox_g_t, ox_A_s, ox_push_s, ox_push_n, ox_some, ox_z0, ox_z1, iI_lt, iI_eq, iI_add, iI_sub, ig_at, if_true, if_false, if_pos, if_neg, mO, m0, m1, m2, m3, m4, m5, m6, m7, m8, m9, mi0, mi1, mi2, mi3, mi4, mi5, mj0, mj1, mj2, mj3, mj4, mj5, hl, hlp, hat, es]
        exact ih s _ (by omega) (by omega) (by omega)
    · rw [if_neg c1]
      simp (disch := omega) only [eX3_valueOf_0, eX3_valueOf_1, eX3_valueOf_4, eX3_valueOf_7, eX3_valueOf_8, eX3_valueOf_9, eX3_valueOf_12, eX3_valueOf_13, eX3_valueOf_14, eX3_valueOf_15, eX3_valueOf_16, eX3_valueOf_19, eX3_valueOf_20, eX3_valueOf_23, eX3_valueOf_24, eX3_valueOf_27, eX3_valueOf_28, eX3_valueOf_29, eX3_valueOf_30, eX3_valueOf_31, eX3_valueOf_32, eX3_valueOf_33, eX3_valueOf_34, eX3_valueOf_38, eX3_valueOf_41, eX3_valueOf_42, eX3_valueOf_44, eX3_valueOf_47, eX3_valueOf_48, eX3_valueOf_49, eX3_valueOf_52, eX3_valueOf_55, eX3_valueOf_56, eX3_valueOf_59, eX3_valueOf_62, eX3_valueOf_63, eX3_valueOf_65, eX3_valueOf_68, eX3_valueOf_69, eX3_valueOf_70, eX3_valueOf_72, eX3_valueOf_73, eX3_valueOf_75, eX3_valueOf_78, eX3_valueOf_79, eX3_valueOf_80, eX3_valueOf_83, eX3_valueOf_86, eX3_valueOf_88, eX3_valueOf_91, eX3_valueOf_93, eX3_valueOf_96, eX3_valueOf_98, eX3_valueOf_99, eX3_valueOf_100, eX3_valueOf_101, eX3_valueOf_104, eX3_valueOf_107, eX3_valueOf_110, eX3_valueOf_111, ox_O_s, ox_B_s, ox_g_t, ox_A_s, ox_push_s, ox_push_n, ox_some, ox_z0, ox_z1, iI_lt, iI_eq, iI_add, iI_sub, ig_at, if_true, if_false, if_pos, if_neg, mO, m0, m1, m2, m3, m4, m5, m6, m7, m8, m9, mi0, mi1, mi2, mi3, mi4, mi5, mj0, mj1, mj2, mj3, mj4, mj5, hl, hlp]
theorem k3_valueOf {h : ox_H} {m : Nat} {X Y : ol} (hM : MA h m Y) (hR : Rel X (Y.2 0)) (hV : vx X) {p : Int} (p0 : 0 ≤ p) (p1 : p < X.1 0) : oe 117 0 [.ref m, .int (iI p), .null, .null, .null, .null] [] h = some (some (.int (iI (vaX X p))), h) := by
  have hn := hV.2.1
  have hat := k3_at hM hR hV p0 p1
  obtain ⟨mO, m0, m1, m2, m3, m4, m5, m6, m7, m8, m9, mi0, mi1, mi2, mi3, mi4, mi5, mj0, mj1, mj2, mj3, mj4, mj5⟩ := ma_facts hM
  obtain ⟨rl, r0, r1, r2, r3, r4, r5, r6, r7, r8⟩ := id hR
  have ho := hV.2.2.1 p p0 p1
  have es := (r2 p p0 p1).2.2.2.2
  have est : stA X p = ig (X.2 5) (ig (X.2 0) p) := if_pos ⟨p0, p1⟩
  rw [← est] at es
  have hsb := stA_b hV p
  unfold vaX
  by_cases c : stA X p = -1
  · rw [if_pos c]
    simp (disch := omega) only [eX3_valueOf_0, eX3_valueOf_1, eX3_valueOf_4, eX3_valueOf_7, eX3_valueOf_8, eX3_valueOf_9, eX3_valueOf_12, eX3_valueOf_13, eX3_valueOf_14, eX3_valueOf_15, eX3_valueOf_16, eX3_valueOf_19, eX3_valueOf_20, eX3_valueOf_23, eX3_valueOf_24, eX3_valueOf_27, eX3_valueOf_28, eX3_valueOf_29, eX3_valueOf_30, eX3_valueOf_31, eX3_valueOf_32, eX3_valueOf_33, eX3_valueOf_34, eX3_valueOf_38, eX3_valueOf_41, eX3_valueOf_42, eX3_valueOf_44, eX3_valueOf_47, eX3_valueOf_48, eX3_valueOf_49, eX3_valueOf_52, eX3_valueOf_55, eX3_valueOf_56, eX3_valueOf_59, eX3_valueOf_62, eX3_valueOf_63, eX3_valueOf_65, eX3_valueOf_68, eX3_valueOf_69, eX3_valueOf_70, eX3_valueOf_72, eX3_valueOf_73, eX3_valueOf_75, eX3_valueOf_78, eX3_valueOf_79, eX3_valueOf_80, eX3_valueOf_83, eX3_valueOf_86, eX3_valueOf_88, eX3_valueOf_91, eX3_valueOf_93, eX3_valueOf_96, eX3_valueOf_98, eX3_valueOf_99, eX3_valueOf_100, eX3_valueOf_101, eX3_valueOf_104, eX3_valueOf_107, eX3_valueOf_110, eX3_valueOf_111, ox_O_s, ox_B_s, ox_g_t, ox_A_s, ox_push_s, ox_push_n, ox_some, ox_z0, ox_z1, iI_lt, iI_eq, iI_add, iI_sub, ig_at, if_true, if_false, if_pos, if_neg, mO, m0, m1, m2, m3, m4, m5, m6, m7, m8, m9, mi0, mi1, mi2, mi3, mi4, mi5, mj0, mj1, mj2, mj3, mj4, mj5, hat, es]
  · rw [if_neg c]
    unfold vaF
    rw [show ((p.toNat : Nat) : Int) = p by omega, if_pos (Int.le_refl _), if_pos ⟨rfl, c⟩]
    by_cases c4 : stA X p = 0
    · rw [if_pos c4]
      have hk := k3_va_loop hM hR hV p0 p1 (.int (iI (stA X p))) p.toNat 1 .null (by omega) (by omega) (by omega)
      rw [show ((p.toNat : Nat) : Int) = p by omega] at hk
      simp (disch := omega) only [eX3_valueOf_0, eX3_valueOf_1, eX3_valueOf_4, eX3_valueOf_7, eX3_valueOf_8, eX3_valueOf_9, eX3_valueOf_12, eX3_valueOf_13, eX3_valueOf_14, eX3_valueOf_15, eX3_valueOf_16, eX3_valueOf_19, eX3_valueOf_20, eX3_valueOf_23, eX3_valueOf_24, eX3_valueOf_27, eX3_valueOf_28, eX3_valueOf_29, eX3_valueOf_30, eX3_valueOf_31, eX3_valueOf_32, eX3_valueOf_33, eX3_valueOf_34, eX3_valueOf_38, eX3_valueOf_41, eX3_valueOf_42, eX3_valueOf_44, eX3_valueOf_47, eX3_valueOf_48, eX3_valueOf_49, eX3_valueOf_52, eX3_valueOf_55, eX3_valueOf_56, eX3_valueOf_59, eX3_valueOf_62, eX3_valueOf_63, eX3_valueOf_65, eX3_valueOf_68, eX3_valueOf_69, eX3_valueOf_70, eX3_valueOf_72, eX3_valueOf_73, eX3_valueOf_75, eX3_valueOf_78, eX3_valueOf_79, eX3_valueOf_80, eX3_valueOf_83, eX3_valueOf_86, eX3_valueOf_88, eX3_valueOf_91, eX3_valueOf_93, eX3_valueOf_96, eX3_valueOf_98, eX3_valueOf_99, eX3_valueOf_100, eX3_valueOf_101, eX3_valueOf_104, eX3_valueOf_107, eX3_valueOf_110, eX3_valueOf_111, ox_O_s, ox_B_s, ox_g_t, ox_A_s, ox_push_s, ox_push_n, ox_some, ox_z0, ox_z1, iI_lt, iI_eq, iI_add, iI_sub, ig_at, if_true, if_false, if_pos, if_neg, mO, m0, m1, m2, m3, m4, m5, m6, m7, m8, m9, mi0, mi1, mi2, mi3, mi4, mi5, mj0, mj1, mj2, mj3, mj4, mj5, hat, es]
      exact hk
    · rw [if_neg c4, show stA X p + 0 = stA X p by omega]
      simp (disch := omega) only [eX3_valueOf_0, eX3_valueOf_1, eX3_valueOf_4, eX3_valueOf_7, eX3_valueOf_8, eX3_valueOf_9, eX3_valueOf_12, eX3_valueOf_13, eX3_valueOf_14, eX3_valueOf_15, eX3_valueOf_16, eX3_valueOf_19, eX3_valueOf_20, eX3_valueOf_23, eX3_valueOf_24, eX3_valueOf_27, eX3_valueOf_28, eX3_valueOf_29, eX3_valueOf_30, eX3_valueOf_31, eX3_valueOf_32, eX3_valueOf_33, eX3_valueOf_34, eX3_valueOf_38, eX3_valueOf_41, eX3_valueOf_42, eX3_valueOf_44, eX3_valueOf_47, eX3_valueOf_48, eX3_valueOf_49, eX3_valueOf_52, eX3_valueOf_55, eX3_valueOf_56, eX3_valueOf_59, eX3_valueOf_62, eX3_valueOf_63, eX3_valueOf_65, eX3_valueOf_68, eX3_valueOf_69, eX3_valueOf_70, eX3_valueOf_72, eX3_valueOf_73, eX3_valueOf_75, eX3_valueOf_78, eX3_valueOf_79, eX3_valueOf_80, eX3_valueOf_83, eX3_valueOf_86, eX3_valueOf_88, eX3_valueOf_91, eX3_valueOf_93, eX3_valueOf_96, eX3_valueOf_98, eX3_valueOf_99, eX3_valueOf_100, eX3_valueOf_101, eX3_valueOf_104, eX3_valueOf_107, eX3_valueOf_110, eX3_valueOf_111, ox_O_s, ox_B_s, ox_g_t, ox_A_s, ox_push_s, ox_push_n, ox_some, ox_z0, ox_z1, iI_lt, iI_eq, iI_add, iI_sub, ig_at, if_true, if_false, if_pos, if_neg, mO, m0, m1, m2, m3, m4, m5, m6, m7, m8, m9, mi0, mi1, mi2, mi3, mi4, mi5, mj0, mj1, mj2, mj3, mj4, mj5, hat, es]
theorem k3_schemeAt {h : ox_H} {m : Nat} {X Y : ol} (hM : MA h m Y) (hR : Rel X (Y.2 0)) (hV : vx X) {p : Int} (p0 : 0 ≤ p) (p1 : p < X.1 0) : oe 123 0 [.ref m, .int (iI p)] [] h = some (some (.int (iI (ig (X.2 7) (lvA X p)))), h) := by
  have hl := k3_levelAt hM hR hV p0 p1
  obtain ⟨mO, m0, m1, m2, m3, m4, m5, m6, m7, m8, m9, mi0, mi1, mi2, mi3, mi4, mi5, mj0, mj1, mj2, mj3, mj4, mj5⟩ := ma_facts hM
  obtain ⟨rl, r0, r1, r2, r3, r4, r5, r6, r7, r8⟩ := id hR
  have hlv := (hV.2.2.2.2.1 p p0 p1).1
  rw [← lvA_in p0 p1] at hlv
  have e := r5 (lvA X p) (by omega) (by omega)
  simp (disch := omega) only [eX3_schemeAt_0, eX3_schemeAt_1, eX3_schemeAt_4, eX3_schemeAt_7, eX3_schemeAt_8, eX3_schemeAt_9, eX3_schemeAt_12, eX3_schemeAt_13, eX3_schemeAt_14, eX3_schemeAt_15, eX3_schemeAt_16, ox_O_s, ox_B_s, ox_g_t, ox_A_s, ox_push_s, ox_push_n, ox_some, ox_z0, ox_z1, iI_lt, iI_eq, iI_add, iI_sub, ig_at, if_true, if_false, if_pos, if_neg, mO, m0, m1, m2, m3, m4, m5, m6, m7, m8, m9, mi0, mi1, mi2, mi3, mi4, mi5, mj0, mj1, mj2, mj3, mj4, mj5, hl, show 186 + lvA X p - 1 = 185 + lvA X p by omega, e]
theorem k3_isNumbered {h : ox_H} {m : Nat} {X Y : ol} (hM : MA h m Y) (hR : Rel X (Y.2 0)) (hV : vx X) {p : Int} (p0 : 0 ≤ p) (p1 : p < X.1 0) : oe 124 0 [.ref m, .int (iI p)] [] h = some (some (.int (iI (zb (nbX X p)))), h) := by
  have hat := k3_at hM hR hV p0 p1
  have hs := k3_schemeAt hM hR hV p0 p1
  obtain ⟨mO, m0, m1, m2, m3, m4, m5, m6, m7, m8, m9, mi0, mi1, mi2, mi3, mi4, mi5, mj0, mj1, mj2, mj3, mj4, mj5⟩ := ma_facts hM
  obtain ⟨rl, r0, r1, r2, r3, r4, r5, r6, r7, r8⟩ := id hR
  obtain ⟨vl, vn, vo, vi, va, vfst, vs, vz, vr, vc, vt, vm, vk⟩ := id hV
  have l0 : (X.2 0).length = 30 := vl 0 (by omega)
  have l1 : (X.2 1).length = 30 := vl 1 (by omega)
  have l2 : (X.2 2).length = 30 := vl 2 (by omega)
  have l3 : (X.2 3).length = 30 := vl 3 (by omega)
  have l4 : (X.2 4).length = 30 := vl 4 (by omega)
  have l5 : (X.2 5).length = 30 := vl 5 (by omega)
  have l6 : (X.2 6).length = 5 := vl 6 (by omega)
  have l7 : (X.2 7).length = 7 := vl 7 (by omega)
  have l8 : (X.2 8).length = 12 := vl 8 (by omega)
  have l9 : (X.2 9).length = 12 := vl 9 (by omega)
  have ho := vo p p0 p1
  have hlv := (va p p0 p1).1
  rw [← lvA_in p0 p1] at hlv
  have hsc := vc (lvA X p) hlv.1 hlv.2
  have es := (r2 p p0 p1).2.2.2.2
  have est : stA X p = ig (X.2 5) (ig (X.2 0) p) := if_pos ⟨p0, p1⟩
  rw [← est] at es
  have hsb := stA_b hV p
  unfold nbX
  by_cases c : stA X p = -1
  · rw [decide_eq_false (fun z => z c), Bool.false_and, zb_f]
    simp (disch := omega) only [eX3_isNumbered_0, eX3_isNumbered_1, eX3_isNumbered_4, eX3_isNumbered_7, eX3_isNumbered_8, eX3_isNumbered_9, eX3_isNumbered_12, eX3_isNumbered_13, eX3_isNumbered_14, eX3_isNumbered_17, eX3_isNumbered_18, eX3_isNumbered_19, eX3_isNumbered_22, eX3_isNumbered_23, eX3_isNumbered_26, eX3_isNumbered_27, eX3_isNumbered_30, eX3_isNumbered_31, ox_O_s, ox_B_s, ox_g_t, ox_A_s, ox_push_s, ox_push_n, ox_some, ox_z0, ox_z1, iI_lt, iI_eq, iI_add, iI_sub, ig_at, if_true, if_false, if_pos, if_neg, mO, m0, m1, m2, m3, m4, m5, m6, m7, m8, m9, mi0, mi1, mi2, mi3, mi4, mi5, mj0, mj1, mj2, mj3, mj4, mj5, hat, es]
  · rw [decide_eq_true c, Bool.true_and]
    by_cases c2 : ig (X.2 7) (lvA X p) = 5
    · rw [decide_eq_false (fun z => z c2), zb_f]
      simp (disch := omega) only [eX3_isNumbered_0, eX3_isNumbered_1, eX3_isNumbered_4, eX3_isNumbered_7, eX3_isNumbered_8, eX3_isNumbered_9, eX3_isNumbered_12, eX3_isNumbered_13, eX3_isNumbered_14, eX3_isNumbered_17, eX3_isNumbered_18, eX3_isNumbered_19, eX3_isNumbered_22, eX3_isNumbered_23, eX3_isNumbered_26, eX3_isNumbered_27, eX3_isNumbered_30, eX3_isNumbered_31, ox_O_s, ox_B_s, ox_g_t, ox_A_s, ox_push_s, ox_push_n, ox_some, ox_z0, ox_z1, iI_lt, iI_eq, iI_add, iI_sub, ig_at, if_true, if_false, if_pos, if_neg, mO, m0, m1, m2, m3, m4, m5, m6, m7, m8, m9, mi0, mi1, mi2, mi3, mi4, mi5, mj0, mj1, mj2, mj3, mj4, mj5, hat, es, hs]
    · rw [decide_eq_true c2, zb_t]
      simp (disch := omega) only [eX3_isNumbered_0, eX3_isNumbered_1, eX3_isNumbered_4, eX3_isNumbered_7, eX3_isNumbered_8, eX3_isNumbered_9, eX3_isNumbered_12, eX3_isNumbered_13, eX3_isNumbered_14, eX3_isNumbered_17, eX3_isNumbered_18, eX3_isNumbered_19, eX3_isNumbered_22, eX3_isNumbered_23, eX3_isNumbered_26, eX3_isNumbered_27, eX3_isNumbered_30, eX3_isNumbered_31, ox_O_s, ox_B_s, ox_g_t, ox_A_s, ox_push_s, ox_push_n, ox_some, ox_z0, ox_z1, iI_lt, iI_eq, iI_add, iI_sub, ig_at, if_true, if_false, if_pos, if_neg, mO, m0, m1, m2, m3, m4, m5, m6, m7, m8, m9, mi0, mi1, mi2, mi3, mi4, mi5, mj0, mj1, mj2, mj3, mj4, mj5, hat, es, hs]
theorem pA_skip {L : Int → Int} {lv lv' : Int} (hl : lv' ≤ lv) : ∀ k : Nat, pA L lv' k = pA L lv' (pA L lv k + 1).toNat
  | 0 => by simp [pA]
  | k + 1 => by
    have e : pA L lv (k + 1) = if L k < lv then (k : Int) else pA L lv k := rfl
    by_cases c : L k < lv
    · rw [e, if_pos c]
      congr 1
    · rw [e, if_neg c, ← pA_skip hl k]
      show (if L k < lv' then (k : Int) else pA L lv' k) = _
      rw [if_neg (by omega)]
theorem pA_ge0 {X : ol} (hV : vx X) {lv : Int} (hl : 1 < lv) (hn : 0 < X.1 0) : ∀ k : Nat, 1 ≤ k → 0 ≤ pA (lvA X) lv k
  | 0, h => by omega
  | k + 1, h => by
    unfold pA
    split
    · omega
    · rename_i hc
      by_cases hk : k = 0
      · subst hk
        exfalso
        apply hc
        rw [lvA_in (by omega) (by omega)]
        have := hV.2.2.2.2.2.1 hn
        simpa [this] using hl
      · exact pA_ge0 hV hl hn k (by omega)
theorem k3_an_loop {h : ox_H} {m : Nat} {X Y : ol} (hM : MA h m Y) (hR : Rel X (Y.2 0)) (hV : vx X) {lv : Int} (l0 : 1 ≤ lv) (l1 : lv ≤ 6) (v1 : Value) : ∀ (b : Nat) (k : Int), 0 ≤ k → k < X.1 0 → k < b → oe 125 2 [.ref m, v1, .int (iI lv), .int (iI k)] [] h = some (some (.int (iI (pA (lvA X) (lv + 1) (k + 1).toNat))), h) := by
  obtain ⟨mO, m0, m1, m2, m3, m4, m5, m6, m7, m8, m9, mi0, mi1, mi2, mi3, mi4, mi5, mj0, mj1, mj2, mj3, mj4, mj5⟩ := ma_facts hM
  have hn := hV.2.1
  intro b
  induction b with
  | zero => intro k a c d; omega
  | succ b ih =>
    intro k a c d
    have hl := k3_levelAt hM hR hV a c
    have hb := lvA_b hV k
    have hpo := k3_parentOf hM hR hV a c
    rw [eX3_ancestorAt_2, show (k + 1).toNat = k.toNat + 1 by omega]
    by_cases c1 : lv < lvA X k
    · have hk0 : k ≠ 0 := fun z => by
        subst z
        have := hV.2.2.2.2.2.1 (by omega)
        rw [← lvA_in (by omega) (by omega)] at this
        omega
      have hge := pA_ge0 hV (show 1 < lvA X k by omega) (by omega) k.toNat (by omega)
      have hpb := pA_b (lvA X) (lvA X k) k.toNat
      rw [nz_p hge] at hpo
      simp (disch := omega) only [eX3_ancestorAt_0, eX3_ancestorAt_1, eX3_ancestorAt_3, eX3_ancestorAt_4, eX3_ancestorAt_7, eX3_ancestorAt_8, eX3_ancestorAt_11, eX3_ancestorAt_12, eX3_ancestorAt_13, eX3_ancestorAt_16, eX3_ancestorAt_17, eX3_ancestorAt_20, eX3_ancestorAt_21, ox_O_s, ox_B_s, ox_g_t, ox_A_s, ox_push_s, ox_push_n, ox_some, ox_z0, ox_z1, iI_lt, iI_eq, iI_add, iI_sub, ig_at, if_true, if_false, if_pos, if_neg, mO, hl, hpo]
      have := ih (pA (lvA X) (lvA X k) k.toNat) hge (by omega) (by omega)
      rw [this]
      show _ = some (some (Value.int (iI (if lvA X (k.toNat : Nat) < lv + 1 then ((k.toNat : Nat) : Int) else pA (lvA X) (lv + 1) k.toNat))), h)
      rw [show ((k.toNat : Nat) : Int) = k by omega, if_neg (by omega), ← pA_skip (by omega) k.toNat]
    · simp (disch := omega) only [eX3_ancestorAt_0, eX3_ancestorAt_1, eX3_ancestorAt_3, eX3_ancestorAt_4, eX3_ancestorAt_7, eX3_ancestorAt_8, eX3_ancestorAt_11, eX3_ancestorAt_12, eX3_ancestorAt_13, eX3_ancestorAt_16, eX3_ancestorAt_17, eX3_ancestorAt_20, eX3_ancestorAt_21, ox_O_s, ox_B_s, ox_g_t, ox_A_s, ox_push_s, ox_push_n, ox_some, ox_z0, ox_z1, iI_lt, iI_eq, iI_add, iI_sub, ig_at, if_true, if_false, if_pos, if_neg, mO, hl]
      show _ = some (some (Value.int (iI (if lvA X (k.toNat : Nat) < lv + 1 then ((k.toNat : Nat) : Int) else pA (lvA X) (lv + 1) k.toNat))), h)
      rw [show ((k.toNat : Nat) : Int) = k by omega, if_pos (by omega)]
theorem k3_ancestorAt {h : ox_H} {m : Nat} {X Y : ol} (hM : MA h m Y) (hR : Rel X (Y.2 0)) (hV : vx X) {p lv : Int} (l0 : 1 ≤ lv) (l1 : lv ≤ 6) (p0 : 0 ≤ p) (p1 : p < X.1 0) : oe 125 0 [.ref m, .int (iI p), .int (iI lv), .null] [] h = some (some (.int (iI (pA (lvA X) (lv + 1) (p + 1).toNat))), h) := by
  have hk := k3_an_loop hM hR hV l0 l1 (.int (iI p)) (p + 1).toNat p p0 p1 (by omega)
  simp (disch := omega) only [eX3_ancestorAt_0, eX3_ancestorAt_1, eX3_ancestorAt_3, eX3_ancestorAt_4, eX3_ancestorAt_7, eX3_ancestorAt_8, eX3_ancestorAt_11, eX3_ancestorAt_12, eX3_ancestorAt_13, eX3_ancestorAt_16, eX3_ancestorAt_17, eX3_ancestorAt_20, eX3_ancestorAt_21, ox_O_s, ox_B_s, ox_g_t, ox_A_s, ox_push_s, ox_push_n, ox_some, ox_z0, ox_z1, iI_lt, iI_eq, iI_add, iI_sub, ig_at, if_true, if_false, if_pos, if_neg]
  exact hk
def opQ (X : ol) (q : Int) : Bool := if q < 0 then true else if ig (X.2 4) (ig (X.2 0) q) = 1 then false else opF X q.toNat (lvA X q)
theorem opF_pA (X : ol) : ∀ (k : Nat) (lv : Int), opF X k lv = opQ X (pA (lvA X) lv k)
  | 0, lv => by simp [opF, pA, opQ]
  | k + 1, lv => by
    unfold opF pA
    by_cases c : lvA X k < lv
    · rw [if_pos c, if_pos c]
      unfold opQ
      rw [if_neg (show ¬ ((k : Int) < 0) by omega), show ((k : Int)).toNat = k from Int.toNat_natCast k]
    · rw [if_neg c, if_neg c]
      exact opF_pA X k lv
theorem k3_op_loop {h : ox_H} {m : Nat} {X Y : ol} (hM : MA h m Y) (hR : Rel X (Y.2 0)) (hV : vx X) (v1 : Value) : ∀ (b : Nat) (q : Int), -1 ≤ q → q < X.1 0 → q < b → oe 134 6 [.ref m, v1, .int (iI (nz q))] [] h = some (some (.int (iI (zb (opQ X q)))), h) := by
  obtain ⟨mO, m0, m1, m2, m3, m4, m5, m6, m7, m8, m9, mi0, mi1, mi2, mi3, mi4, mi5, mj0, mj1, mj2, mj3, mj4, mj5⟩ := ma_facts hM
  obtain ⟨rl, r0, r1, r2, r3, r4, r5, r6, r7, r8⟩ := id hR
  have hn := hV.2.1
  intro b
  induction b with
  | zero =>
    intro q a c d
    rw [eX3_isOpen_6, nz_n (by omega), show opQ X q = true from if_pos (by omega), zb_t]
    simp (disch := omega) only [eX3_isOpen_0, eX3_isOpen_1, eX3_isOpen_2, eX3_isOpen_5, eX3_isOpen_7, eX3_isOpen_9, eX3_isOpen_12, eX3_isOpen_13, eX3_isOpen_16, eX3_isOpen_18, eX3_isOpen_19, eX3_isOpen_20, eX3_isOpen_23, eX3_isOpen_24, eX3_isOpen_25, eX3_isOpen_26, eX3_isOpen_29, eX3_isOpen_30, eX3_isOpen_31, eX3_isOpen_32, eX3_isOpen_33, eX3_isOpen_36, eX3_isOpen_37, eX3_isOpen_40, eX3_isOpen_41, ox_O_s, ox_B_s, ox_g_t, ox_A_s, ox_push_s, ox_push_n, ox_some, ox_z0, ox_z1, iI_lt, iI_eq, iI_add, iI_sub, ig_at, if_true, if_false, if_pos, if_neg, mO, m0, m1, m2, m3, m4, m5, m6, m7, m8, m9, mi0, mi1, mi2, mi3, mi4, mi5, mj0, mj1, mj2, mj3, mj4, mj5]
  | succ b ih =>
    intro q a c d
    by_cases c0 : q < 0
    · rw [eX3_isOpen_6, nz_n c0, show opQ X q = true from if_pos c0, zb_t]
      simp (disch := omega) only [eX3_isOpen_0, eX3_isOpen_1, eX3_isOpen_2, eX3_isOpen_5, eX3_isOpen_7, eX3_isOpen_9, eX3_isOpen_12, eX3_isOpen_13, eX3_isOpen_16, eX3_isOpen_18, eX3_isOpen_19, eX3_isOpen_20, eX3_isOpen_23, eX3_isOpen_24, eX3_isOpen_25, eX3_isOpen_26, eX3_isOpen_29, eX3_isOpen_30, eX3_isOpen_31, eX3_isOpen_32, eX3_isOpen_33, eX3_isOpen_36, eX3_isOpen_37, eX3_isOpen_40, eX3_isOpen_41, ox_O_s, ox_B_s, ox_g_t, ox_A_s, ox_push_s, ox_push_n, ox_some, ox_z0, ox_z1, iI_lt, iI_eq, iI_add, iI_sub, ig_at, if_true, if_false, if_pos, if_neg, mO, m0, m1, m2, m3, m4, m5, m6, m7, m8, m9, mi0, mi1, mi2, mi3, mi4, mi5, mj0, mj1, mj2, mj3, mj4, mj5]
    · have q0 : 0 ≤ q := by omega
      have hat := k3_at hM hR hV q0 c
      have hpo := k3_parentOf hM hR hV q0 c
      have hpb := pA_b (lvA X) (lvA X q) q.toNat
      have ho := hV.2.2.1 q q0 c
      have hf := (hV.2.2.2.2.1 q q0 c).2.2.2.1
      have e := (r2 q q0 c).2.2.2.1
      rw [eX3_isOpen_6, nz_p q0]
      unfold opQ
      rw [if_neg c0]
      by_cases c1 : ig (X.2 4) (ig (X.2 0) q) = 1
      · rw [if_pos c1, zb_f]
        simp (disch := omega) only [eX3_isOpen_0, eX3_isOpen_1, eX3_isOpen_2, eX3_isOpen_5, eX3_isOpen_7, eX3_isOpen_9, eX3_isOpen_12, eX3_isOpen_13, eX3_isOpen_16, eX3_isOpen_18, eX3_isOpen_19, eX3_isOpen_20, eX3_isOpen_23, eX3_isOpen_24, eX3_isOpen_25, eX3_isOpen_26, eX3_isOpen_29, eX3_isOpen_30, eX3_isOpen_31, eX3_isOpen_32, eX3_isOpen_33, eX3_isOpen_36, eX3_isOpen_37, eX3_isOpen_40, eX3_isOpen_41, ox_O_s, ox_B_s, ox_g_t, ox_A_s, ox_push_s, ox_push_n, ox_some, ox_z0, ox_z1, iI_lt, iI_eq, iI_add, iI_sub, ig_at, if_true, if_false, if_pos, if_neg, mO, m0, m1, m2, m3, m4, m5, m6, m7, m8, m9, mi0, mi1, mi2, mi3, mi4, mi5, mj0, mj1, mj2, mj3, mj4, mj5, hat, e]
      · rw [if_neg c1, opF_pA]
        simp (disch := omega) only [eX3_isOpen_0, eX3_isOpen_1, eX3_isOpen_2, eX3_isOpen_5, eX3_isOpen_7, eX3_isOpen_9, eX3_isOpen_12, eX3_isOpen_13, eX3_isOpen_16, eX3_isOpen_18, eX3_isOpen_19, eX3_isOpen_20, eX3_isOpen_23, eX3_isOpen_24, eX3_isOpen_25, eX3_isOpen_26, eX3_isOpen_29, eX3_isOpen_30, eX3_isOpen_31, eX3_isOpen_32, eX3_isOpen_33, eX3_isOpen_36, eX3_isOpen_37, eX3_isOpen_40, eX3_isOpen_41, ox_O_s, ox_B_s, ox_g_t, ox_A_s, ox_push_s, ox_push_n, ox_some, ox_z0, ox_z1, iI_lt, iI_eq, iI_add, iI_sub, ig_at, if_true, if_false, if_pos, if_neg, mO, m0, m1, m2, m3, m4, m5, m6, m7, m8, m9, mi0, mi1, mi2, mi3, mi4, mi5, mj0, mj1, mj2, mj3, mj4, mj5, hat, e, hpo]
        exact ih _ (by omega) (by omega) (by omega)
theorem k3_isOpen {h : ox_H} {m : Nat} {X Y : ol} (hM : MA h m Y) (hR : Rel X (Y.2 0)) (hV : vx X) {p : Int} (p0 : 0 ≤ p) (p1 : p < X.1 0) : oe 134 0 [.ref m, .int (iI p), .null] [] h = some (some (.int (iI (zb (opX X p)))), h) := by
  have hpo := k3_parentOf hM hR hV p0 p1
  have hpb := pA_b (lvA X) (lvA X p) p.toNat
  have hk := k3_op_loop hM hR hV (.int (iI p)) (p + 1).toNat (pA (lvA X) (lvA X p) p.toNat) (by omega) (by omega) (by omega)
  obtain ⟨mO, m0, m1, m2, m3, m4, m5, m6, m7, m8, m9, mi0, mi1, mi2, mi3, mi4, mi5, mj0, mj1, mj2, mj3, mj4, mj5⟩ := ma_facts hM
  unfold opX
  rw [opF_pA]
  simp (disch := omega) only [eX3_isOpen_0, eX3_isOpen_1, eX3_isOpen_2, eX3_isOpen_5, eX3_isOpen_7, eX3_isOpen_9, eX3_isOpen_12, eX3_isOpen_13, eX3_isOpen_16, eX3_isOpen_18, eX3_isOpen_19, eX3_isOpen_20, eX3_isOpen_23, eX3_isOpen_24, eX3_isOpen_25, eX3_isOpen_26, eX3_isOpen_29, eX3_isOpen_30, eX3_isOpen_31, eX3_isOpen_32, eX3_isOpen_33, eX3_isOpen_36, eX3_isOpen_37, eX3_isOpen_40, eX3_isOpen_41, ox_O_s, ox_B_s, ox_g_t, ox_A_s, ox_push_s, ox_push_n, ox_some, ox_z0, ox_z1, iI_lt, iI_eq, iI_add, iI_sub, ig_at, if_true, if_false, if_pos, if_neg, mO, hpo]
  exact hk
theorem an_mt (X : ol) : ∀ (k : Nat) (p : Int), anF (mtX X) (k + 1) p = (decide (X.1 1 = 0) || anF (tgm X) (k + 1) p)
  | 0, p => by simp [anF, mtX]
  | k + 1, p => by
    unfold anF
    rw [an_mt X k (p + 1)]
    unfold mtX
    cases decide (X.1 1 = 0) <;> simp
theorem k3_sh_loop {h : ox_H} {m : Nat} {X Y : ol} (hM : MA h m Y) (hR : Rel X (Y.2 0)) (hV : vx X) {p : Int} (p0 : 0 ≤ p) (p1 : p < X.1 0) : ∀ (k : Nat) (q : Int) (b : Bool), p ≤ q → q + k = enX X p → oe 135 19 [.ref m, .int (iI p), .int (iI (zb b)), .int (iI q)] [] h = some (some (.int (iI (zb (opX X p && (b || anF (tgm X) k q))))), h) := by
  have hop := k3_isOpen hM hR hV p0 p1
  have he := k3_endOf hM hR hV p0 p1
  have heb := enX_b p1
  obtain ⟨mO, m0, m1, m2, m3, m4, m5, m6, m7, m8, m9, mi0, mi1, mi2, mi3, mi4, mi5, mj0, mj1, mj2, mj3, mj4, mj5⟩ := ma_facts hM
  obtain ⟨rl, r0, r1, r2, r3, r4, r5, r6, r7, r8⟩ := id hR
  have hn := hV.2.1
  intro k
  induction k with
  | zero =>
    intro q b a c
    rw [eX3_isShown_19, show anF (tgm X) 0 q = false from rfl, Bool.or_false]
    cases hb : opX X p <;> rw [hb] at hop <;> cases b
    · simp (disch := omega) only [eX3_isShown_0, eX3_isShown_1, eX3_isShown_4, eX3_isShown_7, eX3_isShown_8, eX3_isShown_11, eX3_isShown_12, eX3_isShown_15, eX3_isShown_16, eX3_isShown_17, eX3_isShown_18, eX3_isShown_20, eX3_isShown_21, eX3_isShown_22, eX3_isShown_25, eX3_isShown_28, eX3_isShown_29, eX3_isShown_30, eX3_isShown_33, eX3_isShown_35, eX3_isShown_36, eX3_isShown_37, eX3_isShown_40, eX3_isShown_41, eX3_isShown_42, eX3_isShown_43, eX3_isShown_46, eX3_isShown_49, eX3_isShown_50, eX3_isShown_51, eX3_isShown_54, eX3_isShown_55, eX3_isShown_58, eX3_isShown_59, eX3_isShown_60, eX3_isShown_61, eX3_isShown_64, eX3_isShown_67, eX3_isShown_68, eX3_isShown_71, eX3_isShown_72, eX3_isShown_73, eX3_isShown_76, eX3_isShown_79, eX3_isShown_80, eX3_isShown_83, eX3_isShown_84, ox_O_s, ox_B_s, ox_g_t, ox_A_s, ox_push_s, ox_push_n, ox_some, ox_z0, ox_z1, iI_lt, iI_eq, iI_add, iI_sub, ig_at, if_true, if_false, if_pos, if_neg, mO, m0, m1, m2, m3, m4, m5, m6, m7, m8, m9, mi0, mi1, mi2, mi3, mi4, mi5, mj0, mj1, mj2, mj3, mj4, mj5, he, zb_f, zb_t, Bool.false_and, Bool.true_and]
    · simp (disch := omega) only [eX3_isShown_0, eX3_isShown_1, eX3_isShown_4, eX3_isShown_7, eX3_isShown_8, eX3_isShown_11, eX3_isShown_12, eX3_isShown_15, eX3_isShown_16, eX3_isShown_17, eX3_isShown_18, eX3_isShown_20, eX3_isShown_21, eX3_isShown_22, eX3_isShown_25, eX3_isShown_28, eX3_isShown_29, eX3_isShown_30, eX3_isShown_33, eX3_isShown_35, eX3_isShown_36, eX3_isShown_37, eX3_isShown_40, eX3_isShown_41, eX3_isShown_42, eX3_isShown_43, eX3_isShown_46, eX3_isShown_49, eX3_isShown_50, eX3_isShown_51, eX3_isShown_54, eX3_isShown_55, eX3_isShown_58, eX3_isShown_59, eX3_isShown_60, eX3_isShown_61, eX3_isShown_64, eX3_isShown_67, eX3_isShown_68, eX3_isShown_71, eX3_isShown_72, eX3_isShown_73, eX3_isShown_76, eX3_isShown_79, eX3_isShown_80, eX3_isShown_83, eX3_isShown_84, ox_O_s, ox_B_s, ox_g_t, ox_A_s, ox_push_s, ox_push_n, ox_some, ox_z0, ox_z1, iI_lt, iI_eq, iI_add, iI_sub, ig_at, if_true, if_false, if_pos, if_neg, mO, m0, m1, m2, m3, m4, m5, m6, m7, m8, m9, mi0, mi1, mi2, mi3, mi4, mi5, mj0, mj1, mj2, mj3, mj4, mj5, he, hop, zb_f, zb_t, Bool.false_and, Bool.true_and]
    · simp (disch := omega) only [eX3_isShown_0, eX3_isShown_1, eX3_isShown_4, eX3_isShown_7, eX3_isShown_8, eX3_isShown_11, eX3_isShown_12, eX3_isShown_15, eX3_isShown_16, eX3_isShown_17, eX3_isShown_18, eX3_isShown_20, eX3_isShown_21, eX3_isShown_22, eX3_isShown_25, eX3_isShown_28, eX3_isShown_29, eX3_isShown_30, eX3_isShown_33, eX3_isShown_35, eX3_isShown_36, eX3_isShown_37, eX3_isShown_40, eX3_isShown_41, eX3_isShown_42, eX3_isShown_43, eX3_isShown_46, eX3_isShown_49, eX3_isShown_50, eX3_isShown_51, eX3_isShown_54, eX3_isShown_55, eX3_isShown_58, eX3_isShown_59, eX3_isShown_60, eX3_isShown_61, eX3_isShown_64, eX3_isShown_67, eX3_isShown_68, eX3_isShown_71, eX3_isShown_72, eX3_isShown_73, eX3_isShown_76, eX3_isShown_79, eX3_isShown_80, eX3_isShown_83, eX3_isShown_84, ox_O_s, ox_B_s, ox_g_t, ox_A_s, ox_push_s, ox_push_n, ox_some, ox_z0, ox_z1, iI_lt, iI_eq, iI_add, iI_sub, ig_at, if_true, if_false, if_pos, if_neg, mO, m0, m1, m2, m3, m4, m5, m6, m7, m8, m9, mi0, mi1, mi2, mi3, mi4, mi5, mj0, mj1, mj2, mj3, mj4, mj5, he, zb_f, zb_t, Bool.false_and, Bool.true_and]
    · simp (disch := omega) only [eX3_isShown_0, eX3_isShown_1, eX3_isShown_4, eX3_isShown_7, eX3_isShown_8, eX3_isShown_11, eX3_isShown_12, eX3_isShown_15, eX3_isShown_16, eX3_isShown_17, eX3_isShown_18, eX3_isShown_20, eX3_isShown_21, eX3_isShown_22, eX3_isShown_25, eX3_isShown_28, eX3_isShown_29, eX3_isShown_30, eX3_isShown_33, eX3_isShown_35, eX3_isShown_36, eX3_isShown_37, eX3_isShown_40, eX3_isShown_41, eX3_isShown_42, eX3_isShown_43, eX3_isShown_46, eX3_isShown_49, eX3_isShown_50, eX3_isShown_51, eX3_isShown_54, eX3_isShown_55, eX3_isShown_58, eX3_isShown_59, eX3_isShown_60, eX3_isShown_61, eX3_isShown_64, eX3_isShown_67, eX3_isShown_68, eX3_isShown_71, eX3_isShown_72, eX3_isShown_73, eX3_isShown_76, eX3_isShown_79, eX3_isShown_80, eX3_isShown_83, eX3_isShown_84, ox_O_s, ox_B_s, ox_g_t, ox_A_s, ox_push_s, ox_push_n, ox_some, ox_z0, ox_z1, iI_lt, iI_eq, iI_add, iI_sub, ig_at, if_true, if_false, if_pos, if_neg, mO, m0, m1, m2, m3, m4, m5, m6, m7, m8, m9, mi0, mi1, mi2, mi3, mi4, mi5, mj0, mj1, mj2, mj3, mj4, mj5, he, hop, zb_f, zb_t, Bool.false_and, Bool.true_and]
  | succ k ih =>
    intro q b a c
    have q1 : q < X.1 0 := by omega
    have hat := k3_at hM hR hV (show 0 ≤ q by omega) q1
    have ho := hV.2.2.1 q (by omega) q1
    have e := (r2 q (by omega) q1).2.2.1
    have et : tgA X q = ig (X.2 3) (ig (X.2 0) q) := if_pos ⟨by omega, q1⟩
    rw [← et] at e
    rw [eX3_isShown_19]
    unfold anF
    rw [← Bool.or_assoc]
    by_cases c2 : iI (tgA X q) &&& iI (X.1 1) = iI 0
    · rw [show tgm X q = false from decide_eq_false (fun z => z c2)]
      have o := or_zb b false
      rw [zb_f] at o
      simp (disch := omega) only [eX3_isShown_0, eX3_isShown_1, eX3_isShown_4, eX3_isShown_7, eX3_isShown_8, eX3_isShown_11, eX3_isShown_12, eX3_isShown_15, eX3_isShown_16, eX3_isShown_17, eX3_isShown_18, eX3_isShown_20, eX3_isShown_21, eX3_isShown_22, eX3_isShown_25, eX3_isShown_28, eX3_isShown_29, eX3_isShown_30, eX3_isShown_33, eX3_isShown_35, eX3_isShown_36, eX3_isShown_37, eX3_isShown_40, eX3_isShown_41, eX3_isShown_42, eX3_isShown_43, eX3_isShown_46, eX3_isShown_49, eX3_isShown_50, eX3_isShown_51, eX3_isShown_54, eX3_isShown_55, eX3_isShown_58, eX3_isShown_59, eX3_isShown_60, eX3_isShown_61, eX3_isShown_64, eX3_isShown_67, eX3_isShown_68, eX3_isShown_71, eX3_isShown_72, eX3_isShown_73, eX3_isShown_76, eX3_isShown_79, eX3_isShown_80, eX3_isShown_83, eX3_isShown_84, ox_O_s, ox_B_s, ox_g_t, ox_A_s, ox_push_s, ox_push_n, ox_some, ox_z0, ox_z1, iI_lt, iI_eq, iI_add, iI_sub, ig_at, if_true, if_false, if_pos, if_neg, mO, m0, m1, m2, m3, m4, m5, m6, m7, m8, m9, mi0, mi1, mi2, mi3, mi4, mi5, mj0, mj1, mj2, mj3, mj4, mj5, he, hat, e, r8, c2, o]
      exact ih (q + 1) (b || false) (by omega) (by omega)
    · rw [show tgm X q = true from decide_eq_true c2]
      have o := or_zb b true
      rw [zb_t] at o
      simp (disch := omega) only [eX3_isShown_0, eX3_isShown_1, eX3_isShown_4, eX3_isShown_7, eX3_isShown_8, eX3_isShown_11, eX3_isShown_12, eX3_isShown_15, eX3_isShown_16, eX3_isShown_17, eX3_isShown_18, eX3_isShown_20, eX3_isShown_21, eX3_isShown_22, eX3_isShown_25, eX3_isShown_28, eX3_isShown_29, eX3_isShown_30, eX3_isShown_33, eX3_isShown_35, eX3_isShown_36, eX3_isShown_37, eX3_isShown_40, eX3_isShown_41, eX3_isShown_42, eX3_isShown_43, eX3_isShown_46, eX3_isShown_49, eX3_isShown_50, eX3_isShown_51, eX3_isShown_54, eX3_isShown_55, eX3_isShown_58, eX3_isShown_59, eX3_isShown_60, eX3_isShown_61, eX3_isShown_64, eX3_isShown_67, eX3_isShown_68, eX3_isShown_71, eX3_isShown_72, eX3_isShown_73, eX3_isShown_76, eX3_isShown_79, eX3_isShown_80, eX3_isShown_83, eX3_isShown_84, ox_O_s, ox_B_s, ox_g_t, ox_A_s, ox_push_s, ox_push_n, ox_some, ox_z0, ox_z1, iI_lt, iI_eq, iI_add, iI_sub, ig_at, if_true, if_false, if_pos, if_neg, mO, m0, m1, m2, m3, m4, m5, m6, m7, m8, m9, mi0, mi1, mi2, mi3, mi4, mi5, mj0, mj1, mj2, mj3, mj4, mj5, he, hat, e, r8, c2, o]
      exact ih (q + 1) (b || true) (by omega) (by omega)
theorem k3_isShown {h : ox_H} {m : Nat} {X Y : ol} (hM : MA h m Y) (hR : Rel X (Y.2 0)) (hV : vx X) {p : Int} (p0 : 0 ≤ p) (p1 : p < X.1 0) : oe 135 0 [.ref m, .int (iI p), .null, .null] [] h = some (some (.int (iI (zb (shX X p)))), h) := by
  have heb := enX_b p1
  have hk := k3_sh_loop hM hR hV p0 p1 (enX X p - p).toNat p (decide (X.1 1 = 0)) (by omega) (by omega)
  obtain ⟨mO, m0, m1, m2, m3, m4, m5, m6, m7, m8, m9, mi0, mi1, mi2, mi3, mi4, mi5, mj0, mj1, mj2, mj3, mj4, mj5⟩ := ma_facts hM
  obtain ⟨rl, r0, r1, r2, r3, r4, r5, r6, r7, r8⟩ := id hR
  have hf := hV.2.2.2.2.2.2.2.2.2.2.1
  unfold shX
  rw [show (enX X p - p).toNat = (enX X p - p).toNat - 1 + 1 by omega] at hk ⊢
  rw [an_mt]
  by_cases c : X.1 1 = 0
  · rw [decide_eq_true c] at hk ⊢
    rw [zb_t] at hk
    simp (disch := omega) only [eX3_isShown_0, eX3_isShown_1, eX3_isShown_4, eX3_isShown_7, eX3_isShown_8, eX3_isShown_11, eX3_isShown_12, eX3_isShown_15, eX3_isShown_16, eX3_isShown_17, eX3_isShown_18, eX3_isShown_20, eX3_isShown_21, eX3_isShown_22, eX3_isShown_25, eX3_isShown_28, eX3_isShown_29, eX3_isShown_30, eX3_isShown_33, eX3_isShown_35, eX3_isShown_36, eX3_isShown_37, eX3_isShown_40, eX3_isShown_41, eX3_isShown_42, eX3_isShown_43, eX3_isShown_46, eX3_isShown_49, eX3_isShown_50, eX3_isShown_51, eX3_isShown_54, eX3_isShown_55, eX3_isShown_58, eX3_isShown_59, eX3_isShown_60, eX3_isShown_61, eX3_isShown_64, eX3_isShown_67, eX3_isShown_68, eX3_isShown_71, eX3_isShown_72, eX3_isShown_73, eX3_isShown_76, eX3_isShown_79, eX3_isShown_80, eX3_isShown_83, eX3_isShown_84, ox_O_s, ox_B_s, ox_g_t, ox_A_s, ox_push_s, ox_push_n, ox_some, ox_z0, ox_z1, iI_lt, iI_eq, iI_add, iI_sub, ig_at, if_true, if_false, if_pos, if_neg, mO, m0, m1, m2, m3, m4, m5, m6, m7, m8, m9, mi0, mi1, mi2, mi3, mi4, mi5, mj0, mj1, mj2, mj3, mj4, mj5, r8]
    exact hk
  · rw [decide_eq_false c] at hk ⊢
    rw [zb_f] at hk
    simp (disch := omega) only [eX3_isShown_0, eX3_isShown_1, eX3_isShown_4, eX3_isShown_7, eX3_isShown_8, eX3_isShown_11, eX3_isShown_12, eX3_isShown_15, eX3_isShown_16, eX3_isShown_17, eX3_isShown_18, eX3_isShown_20, eX3_isShown_21, eX3_isShown_22, eX3_isShown_25, eX3_isShown_28, eX3_isShown_29, eX3_isShown_30, eX3_isShown_33, eX3_isShown_35, eX3_isShown_36, eX3_isShown_37, eX3_isShown_40, eX3_isShown_41, eX3_isShown_42, eX3_isShown_43, eX3_isShown_46, eX3_isShown_49, eX3_isShown_50, eX3_isShown_51, eX3_isShown_54, eX3_isShown_55, eX3_isShown_58, eX3_isShown_59, eX3_isShown_60, eX3_isShown_61, eX3_isShown_64, eX3_isShown_67, eX3_isShown_68, eX3_isShown_71, eX3_isShown_72, eX3_isShown_73, eX3_isShown_76, eX3_isShown_79, eX3_isShown_80, eX3_isShown_83, eX3_isShown_84, ox_O_s, ox_B_s, ox_g_t, ox_A_s, ox_push_s, ox_push_n, ox_some, ox_z0, ox_z1, iI_lt, iI_eq, iI_add, iI_sub, ig_at, if_true, if_false, if_pos, if_neg, mO, m0, m1, m2, m3, m4, m5, m6, m7, m8, m9, mi0, mi1, mi2, mi3, mi4, mi5, mj0, mj1, mj2, mj3, mj4, mj5, r8]
    exact hk
