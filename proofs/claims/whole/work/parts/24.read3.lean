/-! The class's outline, reads, third half. -/
/-- counting places -/
def cnF (P : Int → Bool) (n : Int) : Nat → Int → Int → Int
  | 0, _, f => f
  | m + 1, p, f => if p < n then cnF P n m (p + 1) (if P p then f + 1 else f) else f
theorem cnF_b {P : Int → Bool} {n : Int} : ∀ (m : Nat) (p f : Int), f ≤ cnF P n m p f ∧ cnF P n m p f ≤ f + m
  | 0, p, f => by simp [cnF]
  | m + 1, p, f => by
    unfold cnF
    split
    · by_cases q : P p = true
      · rw [if_pos q]
        have := cnF_b (P := P) (n := n) m (p + 1) (f + 1)
        omega
      · rw [if_neg q]
        have := cnF_b (P := P) (n := n) m (p + 1) f
        omega
    · omega
def mpX (X : ol) (p : Int) : Bool := !alw X (kdA X (pA (lvA X) (lvA X p) p.toNat)) (kdA X p)
theorem k1_mp_loop {h : ox_H} {o : Nat} {X : ol} (hO : OA h o X) (hV : vx X) : ∀ (m : Nat) (p f : Int) (v3 : Value), 0 ≤ p → p ≤ X.1 0 → X.1 0 - p < m → 0 ≤ f → f ≤ p → oe 26 4 [.ref o, .int (iI f), .int (iI p), v3] [] h = some (some (.int (iI (cnF (mpX X) (X.1 0) m p f))), h) := by
  obtain ⟨gO, g0, g1, g2, g3, g4, g5, g6, g7, g8, g9, g10, g11, g12, gi0, gi1, gi2, gi3, gi4, gi5, gi6, gi7, gi8, gi9, gj0, gj1, gj2, gj3, gj4, gj5, gj6, gj7, gj8, gj9⟩ := oa_facts hO
  obtain ⟨vl, vn, vo, vi, va, vfst, vs, vz, vr, vc, vt, vm, vk⟩ := id hV
  have l0 : (X.2 0).length = 30 := vl 0 (by omega)
  have l1 : (X.2 1).length = 30 := vl 1 (by omega)
  have l2 : (X.2 2).length = 30 := vl 2 (by omega)
  have l3 : (X.2 3).length = 30 := vl 3 (by omega)
  have l4 : (X.2 4).length = 30 := vl 4 (by omega)
  have l5 : (X.2 5).length = 30 := vl 5 (by omega)
  have l6 : (X.2 6).length = 5 := vl 6 (by omega)
  have l7 : (X.2 7).length = 7 := vl 7 (by omega)
  have l8 : (X.2 8).length = 12 := vl 8 (by omega)
  have l9 : (X.2 9).length = 12 := vl 9 (by omega)
  intro m
  induction m with
  | zero => intro p f v3 a b c; omega
  | succ m ih =>
    intro p f v3 a b c d e
    have hl := k1_levelAt hO hV (p := p) (by omega) (by omega)
    have hb := lvA_b hV p
    rw [eX1_countMisplaced_4]
    unfold cnF
    by_cases c1 : p < X.1 0
    · rw [if_pos c1]
      have hpa := k1_placeAbove hO hV (p := p) (lv := lvA X p) (by omega) (by omega) a (by omega)
      have hpb := pA_b (lvA X) (lvA X p) p.toNat
      have hk1 := k1_kindAt hO hV (p := pA (lvA X) (lvA X p) p.toNat) (by omega) (by omega)
      have hk2 := k1_kindAt hO hV (p := p) (by omega) (by omega)
      have hkd := kdA_in hV a c1
      have hkb := kdA_b hV (pA (lvA X) (lvA X p) p.toNat)
      have ha := k1_allows hO hV (pk := kdA X (pA (lvA X) (lvA X p) p.toNat)) (k := kdA X p) hkb.1 hkb.2 hkd.1 hkd.2
      cases c4 : alw X (kdA X (pA (lvA X) (lvA X p) p.toNat)) (kdA X p) with
      | false =>
        rw [if_pos (show mpX X p = true by unfold mpX; rw [c4]; rfl)]
        rw [c4] at ha
        simp (disch := omega) only [eX1_countMisplaced_0, eX1_countMisplaced_1, eX1_countMisplaced_2, eX1_countMisplaced_3, eX1_countMisplaced_5, eX1_countMisplaced_6, eX1_countMisplaced_9, eX1_countMisplaced_12, eX1_countMisplaced_13, eX1_countMisplaced_14, eX1_countMisplaced_15, eX1_countMisplaced_16, eX1_countMisplaced_19, eX1_countMisplaced_22, eX1_countMisplaced_23, eX1_countMisplaced_24, eX1_countMisplaced_25, eX1_countMisplaced_26, eX1_countMisplaced_29, eX1_countMisplaced_30, eX1_countMisplaced_31, eX1_countMisplaced_34, eX1_countMisplaced_37, eX1_countMisplaced_40, eX1_countMisplaced_43, eX1_countMisplaced_46, eX1_countMisplaced_49, eX1_countMisplaced_50, ox_O_s, ox_B_s, ox_g_t, ox_A_s, ox_push_s, ox_push_n, ox_some, ox_z0, ox_z1, iI_lt, iI_eq, iI_add, iI_sub, ig_at, if_true, if_false, if_pos, if_neg, gO, g0, g1, g2, g3, g4, g5, g6, g7, g8, g9, g10, g11, g12, gi0, gi1, gi2, gi3, gi4, gi5, gi6, gi7, gi8, gi9, gj0, gj1, gj2, gj3, gj4, gj5, gj6, gj7, gj8, gj9, hl, hpa, hk1, hk2, ha, zb_f]
        exact ih (p + 1) (f + 1) _ (by omega) (by omega) (by omega) (by omega) (by omega)
      | true =>
        rw [if_neg (show ¬ mpX X p = true by unfold mpX; rw [c4]; decide)]
        rw [c4] at ha
        simp (disch := omega) only [eX1_countMisplaced_0, eX1_countMisplaced_1, eX1_countMisplaced_2, eX1_countMisplaced_3, eX1_countMisplaced_5, eX1_countMisplaced_6, eX1_countMisplaced_9, eX1_countMisplaced_12, eX1_countMisplaced_13, eX1_countMisplaced_14, eX1_countMisplaced_15, eX1_countMisplaced_16, eX1_countMisplaced_19, eX1_countMisplaced_22, eX1_countMisplaced_23, eX1_countMisplaced_24, eX1_countMisplaced_25, eX1_countMisplaced_26, eX1_countMisplaced_29, eX1_countMisplaced_30, eX1_countMisplaced_31, eX1_countMisplaced_34, eX1_countMisplaced_37, eX1_countMisplaced_40, eX1_countMisplaced_43, eX1_countMisplaced_46, eX1_countMisplaced_49, eX1_countMisplaced_50, ox_O_s, ox_B_s, ox_g_t, ox_A_s, ox_push_s, ox_push_n, ox_some, ox_z0, ox_z1, iI_lt, iI_eq, iI_add, iI_sub, ig_at, if_true, if_false, if_pos, if_neg, gO, g0, g1, g2, g3, g4, g5, g6, g7, g8, g9, g10, g11, g12, gi0, gi1, gi2, gi3, gi4, gi5, gi6, gi7, gi8, gi9, gj0, gj1, gj2, gj3, gj4, gj5, gj6, gj7, gj8, gj9, hl, hpa, hk1, hk2, ha, zb_t]
        exact ih (p + 1) f _ (by omega) (by omega) (by omega) (by omega) (by omega)
    · rw [if_neg c1]
      simp (disch := omega) only [eX1_countMisplaced_0, eX1_countMisplaced_1, eX1_countMisplaced_2, eX1_countMisplaced_3, eX1_countMisplaced_5, eX1_countMisplaced_6, eX1_countMisplaced_9, eX1_countMisplaced_12, eX1_countMisplaced_13, eX1_countMisplaced_14, eX1_countMisplaced_15, eX1_countMisplaced_16, eX1_countMisplaced_19, eX1_countMisplaced_22, eX1_countMisplaced_23, eX1_countMisplaced_24, eX1_countMisplaced_25, eX1_countMisplaced_26, eX1_countMisplaced_29, eX1_countMisplaced_30, eX1_countMisplaced_31, eX1_countMisplaced_34, eX1_countMisplaced_37, eX1_countMisplaced_40, eX1_countMisplaced_43, eX1_countMisplaced_46, eX1_countMisplaced_49, eX1_countMisplaced_50, ox_O_s, ox_B_s, ox_g_t, ox_A_s, ox_push_s, ox_push_n, ox_some, ox_z0, ox_z1, iI_lt, iI_eq, iI_add, iI_sub, ig_at, if_true, if_false, if_pos, if_neg, gO, g0, g1, g2, g3, g4, g5, g6, g7, g8, g9, g10, g11, g12, gi0, gi1, gi2, gi3, gi4, gi5, gi6, gi7, gi8, gi9, gj0, gj1, gj2, gj3, gj4, gj5, gj6, gj7, gj8, gj9]
theorem k1_countMisplaced {h : ox_H} {o : Nat} {X : ol} (hO : OA h o X) (hV : vx X) : oe 26 0 [.ref o, .null, .null, .null] [] h = some (some (.int (iI (cnF (mpX X) (X.1 0) 31 0 0))), h) := by
  have hn := hV.2.1
  have hk := k1_mp_loop hO hV 31 0 0 .null (by omega) (by omega) (by omega) (by omega) (by omega)
  simp (disch := omega) only [eX1_countMisplaced_0, eX1_countMisplaced_1, eX1_countMisplaced_2, eX1_countMisplaced_3, eX1_countMisplaced_5, eX1_countMisplaced_6, eX1_countMisplaced_9, eX1_countMisplaced_12, eX1_countMisplaced_13, eX1_countMisplaced_14, eX1_countMisplaced_15, eX1_countMisplaced_16, eX1_countMisplaced_19, eX1_countMisplaced_22, eX1_countMisplaced_23, eX1_countMisplaced_24, eX1_countMisplaced_25, eX1_countMisplaced_26, eX1_countMisplaced_29, eX1_countMisplaced_30, eX1_countMisplaced_31, eX1_countMisplaced_34, eX1_countMisplaced_37, eX1_countMisplaced_40, eX1_countMisplaced_43, eX1_countMisplaced_46, eX1_countMisplaced_49, eX1_countMisplaced_50, ox_O_s, ox_B_s, ox_g_t, ox_A_s, ox_push_s, ox_push_n, ox_some, ox_z0, ox_z1, iI_lt, iI_eq, iI_add, iI_sub, ig_at, if_true, if_false, if_pos, if_neg]
  exact hk
/-- is no heading above folded? from the places below k, with the level lv -/
def opF (X : ol) : Nat → Int → Bool
  | 0, _ => true
  | k + 1, lv => if lvA X k < lv then (if ig (X.2 4) (ig (X.2 0) k) = 1 then false else opF X k (lvA X k)) else opF X k lv
theorem k1_op_loop {h : ox_H} {o : Nat} {X : ol} (hO : OA h o X) (hV : vx X) (v1 : Value) : ∀ (k : Nat) (lv : Int), (k : Int) ≤ X.1 0 → 0 ≤ lv → lv ≤ 6 → oe 27 10 [.ref o, v1, .int (iI lv), .int (iI ((k : Int) - 1))] [] h = some (some (.int (iI (zb (opF X k lv)))), h) := by
  obtain ⟨gO, g0, g1, g2, g3, g4, g5, g6, g7, g8, g9, g10, g11, g12, gi0, gi1, gi2, gi3, gi4, gi5, gi6, gi7, gi8, gi9, gj0, gj1, gj2, gj3, gj4, gj5, gj6, gj7, gj8, gj9⟩ := oa_facts hO
  obtain ⟨vl, vn, vo, vi, va, vfst, vs, vz, vr, vc, vt, vm, vk⟩ := id hV
  have l0 : (X.2 0).length = 30 := vl 0 (by omega)
  have l1 : (X.2 1).length = 30 := vl 1 (by omega)
  have l2 : (X.2 2).length = 30 := vl 2 (by omega)
  have l3 : (X.2 3).length = 30 := vl 3 (by omega)
  have l4 : (X.2 4).length = 30 := vl 4 (by omega)
  have l5 : (X.2 5).length = 30 := vl 5 (by omega)
  have l6 : (X.2 6).length = 5 := vl 6 (by omega)
  have l7 : (X.2 7).length = 7 := vl 7 (by omega)
  have l8 : (X.2 8).length = 12 := vl 8 (by omega)
  have l9 : (X.2 9).length = 12 := vl 9 (by omega)
  intro k
  induction k with
  | zero =>
    intro lv a b c
    rw [eX1_isOpen_10]
    simp (disch := omega) only [eX1_isOpen_0, eX1_isOpen_1, eX1_isOpen_2, eX1_isOpen_5, eX1_isOpen_6, eX1_isOpen_7, eX1_isOpen_8, eX1_isOpen_9, eX1_isOpen_11, eX1_isOpen_14, eX1_isOpen_15, eX1_isOpen_16, eX1_isOpen_19, eX1_isOpen_20, eX1_isOpen_23, eX1_isOpen_24, eX1_isOpen_27, eX1_isOpen_28, eX1_isOpen_31, eX1_isOpen_32, eX1_isOpen_33, eX1_isOpen_34, eX1_isOpen_35, eX1_isOpen_38, eX1_isOpen_39, eX1_isOpen_40, eX1_isOpen_41, eX1_isOpen_42, eX1_isOpen_45, eX1_isOpen_46, eX1_isOpen_49, eX1_isOpen_52, eX1_isOpen_53, ox_O_s, ox_B_s, ox_g_t, ox_A_s, ox_push_s, ox_push_n, ox_some, ox_z0, ox_z1, iI_lt, iI_eq, iI_add, iI_sub, ig_at, if_true, if_false, if_pos, if_neg, gO, g0, g1, g2, g3, g4, g5, g6, g7, g8, g9, g10, g11, g12, gi0, gi1, gi2, gi3, gi4, gi5, gi6, gi7, gi8, gi9, gj0, gj1, gj2, gj3, gj4, gj5, gj6, gj7, gj8, gj9]
    rfl
  | succ k ih =>
    intro lv a b c
    have hl := k1_levelAt hO hV (p := (k : Int)) (by omega) (by omega)
    have hb := lvA_b hV (k : Int)
    have ho := vo k (by omega) (by omega)
    have hf := (va k (by omega) (by omega)).2.2.2.1
    rw [eX1_isOpen_10, show ((k + 1 : Nat) : Int) - 1 = (k : Int) by omega]
    unfold opF
    by_cases c1 : lvA X k < lv
    · rw [if_pos c1]
      by_cases c2 : ig (X.2 4) (ig (X.2 0) k) = 1
      · rw [if_pos c2]
        simp (disch := omega) only [eX1_isOpen_0, eX1_isOpen_1, eX1_isOpen_2, eX1_isOpen_5, eX1_isOpen_6, eX1_isOpen_7, eX1_isOpen_8, eX1_isOpen_9, eX1_isOpen_11, eX1_isOpen_14, eX1_isOpen_15, eX1_isOpen_16, eX1_isOpen_19, eX1_isOpen_20, eX1_isOpen_23, eX1_isOpen_24, eX1_isOpen_27, eX1_isOpen_28, eX1_isOpen_31, eX1_isOpen_32, eX1_isOpen_33, eX1_isOpen_34, eX1_isOpen_35, eX1_isOpen_38, eX1_isOpen_39, eX1_isOpen_40, eX1_isOpen_41, eX1_isOpen_42, eX1_isOpen_45, eX1_isOpen_46, eX1_isOpen_49, eX1_isOpen_52, eX1_isOpen_53, ox_O_s, ox_B_s, ox_g_t, ox_A_s, ox_push_s, ox_push_n, ox_some, ox_z0, ox_z1, iI_lt, iI_eq, iI_add, iI_sub, ig_at, if_true, if_false, if_pos, if_neg, gO, g0, g1, g2, g3, g4, g5, g6, g7, g8, g9, g10, g11, g12, gi0, gi1, gi2, gi3, gi4, gi5, gi6, gi7, gi8, gi9, gj0, gj1, gj2, gj3, gj4, gj5, gj6, gj7, gj8, gj9, hl, zb_f]
      · rw [if_neg c2]
        simp (disch := omega) only [eX1_isOpen_0, eX1_isOpen_1, eX1_isOpen_2, eX1_isOpen_5, eX1_isOpen_6, eX1_isOpen_7, eX1_isOpen_8, eX1_isOpen_9, eX1_isOpen_11, eX1_isOpen_14, eX1_isOpen_15, eX1_isOpen_16, eX1_isOpen_19, eX1_isOpen_20, eX1_isOpen_23, eX1_isOpen_24, eX1_isOpen_27, eX1_isOpen_28, eX1_isOpen_31, eX1_isOpen_32, eX1_isOpen_33, eX1_isOpen_34, eX1_isOpen_35, eX1_isOpen_38, eX1_isOpen_39, eX1_isOpen_40, eX1_isOpen_41, eX1_isOpen_42, eX1_isOpen_45, eX1_isOpen_46, eX1_isOpen_49, eX1_isOpen_52, eX1_isOpen_53, ox_O_s, ox_B_s, ox_g_t, ox_A_s, ox_push_s, ox_push_n, ox_some, ox_z0, ox_z1, iI_lt, iI_eq, iI_add, iI_sub, ig_at, if_true, if_false, if_pos, if_neg, gO, g0, g1, g2, g3, g4, g5, g6, g7, g8, g9, g10, g11, g12, gi0, gi1, gi2, gi3, gi4, gi5, gi6, gi7, gi8, gi9, gj0, gj1, gj2, gj3, gj4, gj5, gj6, gj7, gj8, gj9, hl]
        exact ih (lvA X k) (by omega) (by omega) (by omega)
    · rw [if_neg c1]
      simp (disch := omega) only [eX1_isOpen_0, eX1_isOpen_1, eX1_isOpen_2, eX1_isOpen_5, eX1_isOpen_6, eX1_isOpen_7, eX1_isOpen_8, eX1_isOpen_9, eX1_isOpen_11, eX1_isOpen_14, eX1_isOpen_15, eX1_isOpen_16, eX1_isOpen_19, eX1_isOpen_20, eX1_isOpen_23, eX1_isOpen_24, eX1_isOpen_27, eX1_isOpen_28, eX1_isOpen_31, eX1_isOpen_32, eX1_isOpen_33, eX1_isOpen_34, eX1_isOpen_35, eX1_isOpen_38, eX1_isOpen_39, eX1_isOpen_40, eX1_isOpen_41, eX1_isOpen_42, eX1_isOpen_45, eX1_isOpen_46, eX1_isOpen_49, eX1_isOpen_52, eX1_isOpen_53, ox_O_s, ox_B_s, ox_g_t, ox_A_s, ox_push_s, ox_push_n, ox_some, ox_z0, ox_z1, iI_lt, iI_eq, iI_add, iI_sub, ig_at, if_true, if_false, if_pos, if_neg, gO, g0, g1, g2, g3, g4, g5, g6, g7, g8, g9, g10, g11, g12, gi0, gi1, gi2, gi3, gi4, gi5, gi6, gi7, gi8, gi9, gj0, gj1, gj2, gj3, gj4, gj5, gj6, gj7, gj8, gj9, hl]
      exact ih lv (by omega) (by omega) (by omega)
def opX (X : ol) (p : Int) : Bool := opF X p.toNat (lvA X p)
theorem k1_isOpen {h : ox_H} {o : Nat} {X : ol} (hO : OA h o X) (hV : vx X) {p : Int} (h0 : 0 ≤ p) (h1 : p < X.1 0) : oe 27 0 [.ref o, .int (iI p), .null, .null] [] h = some (some (.int (iI (zb (opX X p)))), h) := by
  have hn := hV.2.1
  have hl := k1_levelAt hO hV (p := p) (by omega) (by omega)
  have hb := lvA_b hV p
  have hk := k1_op_loop hO hV (.int (iI p)) p.toNat (lvA X p) (by omega) (by omega) (by omega)
  rw [show ((p.toNat : Nat) : Int) = p by omega] at hk
  obtain ⟨gO, g0, g1, g2, g3, g4, g5, g6, g7, g8, g9, g10, g11, g12, gi0, gi1, gi2, gi3, gi4, gi5, gi6, gi7, gi8, gi9, gj0, gj1, gj2, gj3, gj4, gj5, gj6, gj7, gj8, gj9⟩ := oa_facts hO
  simp (disch := omega) only [eX1_isOpen_0, eX1_isOpen_1, eX1_isOpen_2, eX1_isOpen_5, eX1_isOpen_6, eX1_isOpen_7, eX1_isOpen_8, eX1_isOpen_9, eX1_isOpen_11, eX1_isOpen_14, eX1_isOpen_15, eX1_isOpen_16, eX1_isOpen_19, eX1_isOpen_20, eX1_isOpen_23, eX1_isOpen_24, eX1_isOpen_27, eX1_isOpen_28, eX1_isOpen_31, eX1_isOpen_32, eX1_isOpen_33, eX1_isOpen_34, eX1_isOpen_35, eX1_isOpen_38, eX1_isOpen_39, eX1_isOpen_40, eX1_isOpen_41, eX1_isOpen_42, eX1_isOpen_45, eX1_isOpen_46, eX1_isOpen_49, eX1_isOpen_52, eX1_isOpen_53, ox_O_s, ox_B_s, ox_g_t, ox_A_s, ox_push_s, ox_push_n, ox_some, ox_z0, ox_z1, iI_lt, iI_eq, iI_add, iI_sub, ig_at, if_true, if_false, if_pos, if_neg, gO, hl]
  exact hk
def tgm (X : ol) (p : Int) : Bool := decide (¬ iI (tgA X p) &&& iI (X.1 1) = iI 0)
def mtX (X : ol) (p : Int) : Bool := decide (X.1 1 = 0) || tgm X p
theorem k1_matches {h : ox_H} {o : Nat} {X : ol} (hO : OA h o X) (hV : vx X) {p : Int} (h1 : -2147483648 ≤ p) (h2 : p < 2147483648) : oe 28 0 [.ref o, .int (iI p)] [] h = some (some (.int (iI (zb (mtX X p)))), h) := by
  have ht := k1_tagsAt hO hV (p := p) h1 h2
  obtain ⟨gO, g0, g1, g2, g3, g4, g5, g6, g7, g8, g9, g10, g11, g12, gi0, gi1, gi2, gi3, gi4, gi5, gi6, gi7, gi8, gi9, gj0, gj1, gj2, gj3, gj4, gj5, gj6, gj7, gj8, gj9⟩ := oa_facts hO
  obtain ⟨vl, vn, vo, vi, va, vfst, vs, vz, vr, vc, vt, vm, vk⟩ := id hV
  have l0 : (X.2 0).length = 30 := vl 0 (by omega)
  have l1 : (X.2 1).length = 30 := vl 1 (by omega)
  have l2 : (X.2 2).length = 30 := vl 2 (by omega)
  have l3 : (X.2 3).length = 30 := vl 3 (by omega)
  have l4 : (X.2 4).length = 30 := vl 4 (by omega)
  have l5 : (X.2 5).length = 30 := vl 5 (by omega)
  have l6 : (X.2 6).length = 5 := vl 6 (by omega)
  have l7 : (X.2 7).length = 7 := vl 7 (by omega)
  have l8 : (X.2 8).length = 12 := vl 8 (by omega)
  have l9 : (X.2 9).length = 12 := vl 9 (by omega)
  unfold mtX
  by_cases c1 : X.1 1 = 0
  · rw [decide_eq_true c1, Bool.true_or, zb_t]
    simp (disch := omega) only [eX1_matches_0, eX1_matches_1, eX1_matches_4, eX1_matches_7, eX1_matches_8, eX1_matches_9, eX1_matches_12, eX1_matches_13, eX1_matches_16, eX1_matches_17, eX1_matches_20, eX1_matches_21, eX1_matches_24, eX1_matches_25, ox_O_s, ox_B_s, ox_g_t, ox_A_s, ox_push_s, ox_push_n, ox_some, ox_z0, ox_z1, iI_lt, iI_eq, iI_add, iI_sub, ig_at, if_true, if_false, if_pos, if_neg, gO, g0, g1, g2, g3, g4, g5, g6, g7, g8, g9, g10, g11, g12, gi0, gi1, gi2, gi3, gi4, gi5, gi6, gi7, gi8, gi9, gj0, gj1, gj2, gj3, gj4, gj5, gj6, gj7, gj8, gj9]
  · rw [decide_eq_false c1, Bool.false_or]
    unfold tgm
    by_cases c2 : iI (tgA X p) &&& iI (X.1 1) = iI 0
    · rw [decide_eq_false (fun z => z c2), zb_f]
      simp (disch := omega) only [eX1_matches_0, eX1_matches_1, eX1_matches_4, eX1_matches_7, eX1_matches_8, eX1_matches_9, eX1_matches_12, eX1_matches_13, eX1_matches_16, eX1_matches_17, eX1_matches_20, eX1_matches_21, eX1_matches_24, eX1_matches_25, ox_O_s, ox_B_s, ox_g_t, ox_A_s, ox_push_s, ox_push_n, ox_some, ox_z0, ox_z1, iI_lt, iI_eq, iI_add, iI_sub, ig_at, if_true, if_false, if_pos, if_neg, gO, g0, g1, g2, g3, g4, g5, g6, g7, g8, g9, g10, g11, g12, gi0, gi1, gi2, gi3, gi4, gi5, gi6, gi7, gi8, gi9, gj0, gj1, gj2, gj3, gj4, gj5, gj6, gj7, gj8, gj9, ht, c2]
    · rw [decide_eq_true c2, zb_t]
      simp (disch := omega) only [eX1_matches_0, eX1_matches_1, eX1_matches_4, eX1_matches_7, eX1_matches_8, eX1_matches_9, eX1_matches_12, eX1_matches_13, eX1_matches_16, eX1_matches_17, eX1_matches_20, eX1_matches_21, eX1_matches_24, eX1_matches_25, ox_O_s, ox_B_s, ox_g_t, ox_A_s, ox_push_s, ox_push_n, ox_some, ox_z0, ox_z1, iI_lt, iI_eq, iI_add, iI_sub, ig_at, if_true, if_false, if_pos, if_neg, gO, g0, g1, g2, g3, g4, g5, g6, g7, g8, g9, g10, g11, g12, gi0, gi1, gi2, gi3, gi4, gi5, gi6, gi7, gi8, gi9, gj0, gj1, gj2, gj3, gj4, gj5, gj6, gj7, gj8, gj9, ht, c2]
def anF (P : Int → Bool) : Nat → Int → Bool
  | 0, _ => false
  | m + 1, p => P p || anF P m (p + 1)
theorem k1_sh_loop {h : ox_H} {o : Nat} {X : ol} (hO : OA h o X) (hV : vx X) {e : Int} (e0 : 0 ≤ e) (e1 : e ≤ 30) (v1 : Value) : ∀ (m : Nat) (p : Int), 0 ≤ p → p + m = e → oe 29 18 [.ref o, v1, .int (iI e), .int (iI p)] [] h = some (some (.int (iI (zb (anF (mtX X) m p)))), h) := by
  obtain ⟨gO, g0, g1, g2, g3, g4, g5, g6, g7, g8, g9, g10, g11, g12, gi0, gi1, gi2, gi3, gi4, gi5, gi6, gi7, gi8, gi9, gj0, gj1, gj2, gj3, gj4, gj5, gj6, gj7, gj8, gj9⟩ := oa_facts hO
  intro m
  induction m with
  | zero =>
    intro p a b
    rw [eX1_isShown_18]
    simp (disch := omega) only [eX1_isShown_0, eX1_isShown_1, eX1_isShown_2, eX1_isShown_5, eX1_isShown_8, eX1_isShown_9, eX1_isShown_10, eX1_isShown_11, eX1_isShown_12, eX1_isShown_15, eX1_isShown_16, eX1_isShown_17, eX1_isShown_19, eX1_isShown_20, eX1_isShown_23, eX1_isShown_24, eX1_isShown_25, eX1_isShown_28, eX1_isShown_31, eX1_isShown_32, eX1_isShown_33, eX1_isShown_36, eX1_isShown_39, eX1_isShown_40, ox_O_s, ox_B_s, ox_g_t, ox_A_s, ox_push_s, ox_push_n, ox_some, ox_z0, ox_z1, iI_lt, iI_eq, iI_add, iI_sub, ig_at, if_true, if_false, if_pos, if_neg, gO, g0, g1, g2, g3, g4, g5, g6, g7, g8, g9, g10, g11, g12, gi0, gi1, gi2, gi3, gi4, gi5, gi6, gi7, gi8, gi9, gj0, gj1, gj2, gj3, gj4, gj5, gj6, gj7, gj8, gj9]
    rfl
  | succ m ih =>
    intro p a b
    have hm := k1_matches hO hV (p := p) (by omega) (by omega)
    rw [eX1_isShown_18]
    unfold anF
    cases c : mtX X p with
    | true =>
      rw [c] at hm
      simp (disch := omega) only [eX1_isShown_0, eX1_isShown_1, eX1_isShown_2, eX1_isShown_5, eX1_isShown_8, eX1_isShown_9, eX1_isShown_10, eX1_isShown_11, eX1_isShown_12, eX1_isShown_15, eX1_isShown_16, eX1_isShown_17, eX1_isShown_19, eX1_isShown_20, eX1_isShown_23, eX1_isShown_24, eX1_isShown_25, eX1_isShown_28, eX1_isShown_31, eX1_isShown_32, eX1_isShown_33, eX1_isShown_36, eX1_isShown_39, eX1_isShown_40, ox_O_s, ox_B_s, ox_g_t, ox_A_s, ox_push_s, ox_push_n, ox_some, ox_z0, ox_z1, iI_lt, iI_eq, iI_add, iI_sub, ig_at, if_true, if_false, if_pos, if_neg, gO, g0, g1, g2, g3, g4, g5, g6, g7, g8, g9, g10, g11, g12, gi0, gi1, gi2, gi3, gi4, gi5, gi6, gi7, gi8, gi9, gj0, gj1, gj2, gj3, gj4, gj5, gj6, gj7, gj8, gj9, hm, zb_t, Bool.true_or]
    | false =>
      rw [c] at hm
      simp (disch := omega) only [eX1_isShown_0, eX1_isShown_1, eX1_isShown_2, eX1_isShown_5, eX1_isShown_8, eX1_isShown_9, eX1_isShown_10, eX1_isShown_11, eX1_isShown_12, eX1_isShown_15, eX1_isShown_16, eX1_isShown_17, eX1_isShown_19, eX1_isShown_20, eX1_isShown_23, eX1_isShown_24, eX1_isShown_25, eX1_isShown_28, eX1_isShown_31, eX1_isShown_32, eX1_isShown_33, eX1_isShown_36, eX1_isShown_39, eX1_isShown_40, ox_O_s, ox_B_s, ox_g_t, ox_A_s, ox_push_s, ox_push_n, ox_some, ox_z0, ox_z1, iI_lt, iI_eq, iI_add, iI_sub, ig_at, if_true, if_false, if_pos, if_neg, gO, g0, g1, g2, g3, g4, g5, g6, g7, g8, g9, g10, g11, g12, gi0, gi1, gi2, gi3, gi4, gi5, gi6, gi7, gi8, gi9, gj0, gj1, gj2, gj3, gj4, gj5, gj6, gj7, gj8, gj9, hm, zb_f, Bool.false_or]
      exact ih (p + 1) (by omega) (by omega)
def shX (X : ol) (p : Int) : Bool := opX X p && anF (mtX X) (enX X p - p).toNat p
theorem k1_isShown {h : ox_H} {o : Nat} {X : ol} (hO : OA h o X) (hV : vx X) {p : Int} (h0 : 0 ≤ p) (h1 : p < X.1 0) : oe 29 0 [.ref o, .int (iI p), .null, .null] [] h = some (some (.int (iI (zb (shX X p)))), h) := by
  have hn := hV.2.1
  have ho := k1_isOpen hO hV h0 h1
  have he := k1_endOfPart hO hV h0 h1
  have hb := enX_b h1
  have hk := k1_sh_loop hO hV (e := enX X p) (by omega) (by omega) (.int (iI p)) (enX X p - p).toNat p h0 (by omega)
  obtain ⟨gO, g0, g1, g2, g3, g4, g5, g6, g7, g8, g9, g10, g11, g12, gi0, gi1, gi2, gi3, gi4, gi5, gi6, gi7, gi8, gi9, gj0, gj1, gj2, gj3, gj4, gj5, gj6, gj7, gj8, gj9⟩ := oa_facts hO
  unfold shX
  cases c : opX X p with
  | false =>
    rw [c] at ho
    simp (disch := omega) only [eX1_isShown_0, eX1_isShown_1, eX1_isShown_2, eX1_isShown_5, eX1_isShown_8, eX1_isShown_9, eX1_isShown_10, eX1_isShown_11, eX1_isShown_12, eX1_isShown_15, eX1_isShown_16, eX1_isShown_17, eX1_isShown_19, eX1_isShown_20, eX1_isShown_23, eX1_isShown_24, eX1_isShown_25, eX1_isShown_28, eX1_isShown_31, eX1_isShown_32, eX1_isShown_33, eX1_isShown_36, eX1_isShown_39, eX1_isShown_40, ox_O_s, ox_B_s, ox_g_t, ox_A_s, ox_push_s, ox_push_n, ox_some, ox_z0, ox_z1, iI_lt, iI_eq, iI_add, iI_sub, ig_at, if_true, if_false, if_pos, if_neg, gO, ho, zb_f, Bool.false_and]
  | true =>
    rw [c] at ho
    simp (disch := omega) only [eX1_isShown_0, eX1_isShown_1, eX1_isShown_2, eX1_isShown_5, eX1_isShown_8, eX1_isShown_9, eX1_isShown_10, eX1_isShown_11, eX1_isShown_12, eX1_isShown_15, eX1_isShown_16, eX1_isShown_17, eX1_isShown_19, eX1_isShown_20, eX1_isShown_23, eX1_isShown_24, eX1_isShown_25, eX1_isShown_28, eX1_isShown_31, eX1_isShown_32, eX1_isShown_33, eX1_isShown_36, eX1_isShown_39, eX1_isShown_40, ox_O_s, ox_B_s, ox_g_t, ox_A_s, ox_push_s, ox_push_n, ox_some, ox_z0, ox_z1, iI_lt, iI_eq, iI_add, iI_sub, ig_at, if_true, if_false, if_pos, if_neg, gO, ho, he, zb_t, Bool.true_and]
    exact hk
theorem k1_co_loop {h : ox_H} {o : Nat} {X : ol} (hO : OA h o X) (hV : vx X) : ∀ (m : Nat) (p f : Int), 0 ≤ p → p ≤ X.1 0 → X.1 0 - p < m → 0 ≤ f → f ≤ p → oe 30 4 [.ref o, .int (iI f), .int (iI p)] [] h = some (some (.int (iI (cnF (opX X) (X.1 0) m p f))), h) := by
  obtain ⟨gO, g0, g1, g2, g3, g4, g5, g6, g7, g8, g9, g10, g11, g12, gi0, gi1, gi2, gi3, gi4, gi5, gi6, gi7, gi8, gi9, gj0, gj1, gj2, gj3, gj4, gj5, gj6, gj7, gj8, gj9⟩ := oa_facts hO
  obtain ⟨vl, vn, vo, vi, va, vfst, vs, vz, vr, vc, vt, vm, vk⟩ := id hV
  have l0 : (X.2 0).length = 30 := vl 0 (by omega)
  have l1 : (X.2 1).length = 30 := vl 1 (by omega)
  have l2 : (X.2 2).length = 30 := vl 2 (by omega)
  have l3 : (X.2 3).length = 30 := vl 3 (by omega)
  have l4 : (X.2 4).length = 30 := vl 4 (by omega)
  have l5 : (X.2 5).length = 30 := vl 5 (by omega)
  have l6 : (X.2 6).length = 5 := vl 6 (by omega)
  have l7 : (X.2 7).length = 7 := vl 7 (by omega)
  have l8 : (X.2 8).length = 12 := vl 8 (by omega)
  have l9 : (X.2 9).length = 12 := vl 9 (by omega)
  intro m
  induction m with
  | zero => intro p f a b c; omega
  | succ m ih =>
    intro p f a b c d e
    rw [eX1_countOpen_4]
    unfold cnF
    by_cases c1 : p < X.1 0
    · rw [if_pos c1]
      have ho := k1_isOpen hO hV a c1
      cases c4 : opX X p with
      | false =>
        rw [c4] at ho
        simp (disch := omega) only [eX1_countOpen_0, eX1_countOpen_1, eX1_countOpen_2, eX1_countOpen_3, eX1_countOpen_5, eX1_countOpen_6, eX1_countOpen_9, eX1_countOpen_12, eX1_countOpen_13, eX1_countOpen_14, eX1_countOpen_17, eX1_countOpen_20, eX1_countOpen_23, eX1_countOpen_26, eX1_countOpen_29, eX1_countOpen_30, ox_O_s, ox_B_s, ox_g_t, ox_A_s, ox_push_s, ox_push_n, ox_some, ox_z0, ox_z1, iI_lt, iI_eq, iI_add, iI_sub, ig_at, if_true, if_false, if_pos, if_neg, gO, g0, g1, g2, g3, g4, g5, g6, g7, g8, g9, g10, g11, g12, gi0, gi1, gi2, gi3, gi4, gi5, gi6, gi7, gi8, gi9, gj0, gj1, gj2, gj3, gj4, gj5, gj6, gj7, gj8, gj9, ho, zb_f, Bool.false_eq_true]
        exact ih (p + 1) f (by omega) (by omega) (by omega) (by omega) (by omega)
      | true =>
        rw [c4] at ho
        simp (disch := omega) only [eX1_countOpen_0, eX1_countOpen_1, eX1_countOpen_2, eX1_countOpen_3, eX1_countOpen_5, eX1_countOpen_6, eX1_countOpen_9, eX1_countOpen_12, eX1_countOpen_13, eX1_countOpen_14, eX1_countOpen_17, eX1_countOpen_20, eX1_countOpen_23, eX1_countOpen_26, eX1_countOpen_29, eX1_countOpen_30, ox_O_s, ox_B_s, ox_g_t, ox_A_s, ox_push_s, ox_push_n, ox_some, ox_z0, ox_z1, iI_lt, iI_eq, iI_add, iI_sub, ig_at, if_true, if_false, if_pos, if_neg, gO, g0, g1, g2, g3, g4, g5, g6, g7, g8, g9, g10, g11, g12, gi0, gi1, gi2, gi3, gi4, gi5, gi6, gi7, gi8, gi9, gj0, gj1, gj2, gj3, gj4, gj5, gj6, gj7, gj8, gj9, ho, zb_t]
        exact ih (p + 1) (f + 1) (by omega) (by omega) (by omega) (by omega) (by omega)
    · rw [if_neg c1]
      simp (disch := omega) only [eX1_countOpen_0, eX1_countOpen_1, eX1_countOpen_2, eX1_countOpen_3, eX1_countOpen_5, eX1_countOpen_6, eX1_countOpen_9, eX1_countOpen_12, eX1_countOpen_13, eX1_countOpen_14, eX1_countOpen_17, eX1_countOpen_20, eX1_countOpen_23, eX1_countOpen_26, eX1_countOpen_29, eX1_countOpen_30, ox_O_s, ox_B_s, ox_g_t, ox_A_s, ox_push_s, ox_push_n, ox_some, ox_z0, ox_z1, iI_lt, iI_eq, iI_add, iI_sub, ig_at, if_true, if_false, if_pos, if_neg, gO, g0, g1, g2, g3, g4, g5, g6, g7, g8, g9, g10, g11, g12, gi0, gi1, gi2, gi3, gi4, gi5, gi6, gi7, gi8, gi9, gj0, gj1, gj2, gj3, gj4, gj5, gj6, gj7, gj8, gj9]
theorem k1_countOpen {h : ox_H} {o : Nat} {X : ol} (hO : OA h o X) (hV : vx X) : oe 30 0 [.ref o, .null, .null] [] h = some (some (.int (iI (cnF (opX X) (X.1 0) 31 0 0))), h) := by
  have hn := hV.2.1
  have hk := k1_co_loop hO hV 31 0 0 (by omega) (by omega) (by omega) (by omega) (by omega)
  simp (disch := omega) only [eX1_countOpen_0, eX1_countOpen_1, eX1_countOpen_2, eX1_countOpen_3, eX1_countOpen_5, eX1_countOpen_6, eX1_countOpen_9, eX1_countOpen_12, eX1_countOpen_13, eX1_countOpen_14, eX1_countOpen_17, eX1_countOpen_20, eX1_countOpen_23, eX1_countOpen_26, eX1_countOpen_29, eX1_countOpen_30, ox_O_s, ox_B_s, ox_g_t, ox_A_s, ox_push_s, ox_push_n, ox_some, ox_z0, ox_z1, iI_lt, iI_eq, iI_add, iI_sub, ig_at, if_true, if_false, if_pos, if_neg]
  exact hk
theorem k1_cs_loop {h : ox_H} {o : Nat} {X : ol} (hO : OA h o X) (hV : vx X) : ∀ (m : Nat) (p f : Int), 0 ≤ p → p ≤ X.1 0 → X.1 0 - p < m → 0 ≤ f → f ≤ p → oe 31 4 [.ref o, .int (iI f), .int (iI p)] [] h = some (some (.int (iI (cnF (shX X) (X.1 0) m p f))), h) := by
  obtain ⟨gO, g0, g1, g2, g3, g4, g5, g6, g7, g8, g9, g10, g11, g12, gi0, gi1, gi2, gi3, gi4, gi5, gi6, gi7, gi8, gi9, gj0, gj1, gj2, gj3, gj4, gj5, gj6, gj7, gj8, gj9⟩ := oa_facts hO
  obtain ⟨vl, vn, vo, vi, va, vfst, vs, vz, vr, vc, vt, vm, vk⟩ := id hV
  have l0 : (X.2 0).length = 30 := vl 0 (by omega)
  have l1 : (X.2 1).length = 30 := vl 1 (by omega)
  have l2 : (X.2 2).length = 30 := vl 2 (by omega)
  have l3 : (X.2 3).length = 30 := vl 3 (by omega)
  have l4 : (X.2 4).length = 30 := vl 4 (by omega)
  have l5 : (X.2 5).length = 30 := vl 5 (by omega)
  have l6 : (X.2 6).length = 5 := vl 6 (by omega)
  have l7 : (X.2 7).length = 7 := vl 7 (by omega)
  have l8 : (X.2 8).length = 12 := vl 8 (by omega)
  have l9 : (X.2 9).length = 12 := vl 9 (by omega)
  intro m
  induction m with
  | zero => intro p f a b c; omega
  | succ m ih =>
    intro p f a b c d e
    rw [eX1_countShown_4]
    unfold cnF
    by_cases c1 : p < X.1 0
    · rw [if_pos c1]
      have ho := k1_isShown hO hV a c1
      cases c4 : shX X p with
      | false =>
        rw [c4] at ho
        simp (disch := omega) only [eX1_countShown_0, eX1_countShown_1, eX1_countShown_2, eX1_countShown_3, eX1_countShown_5, eX1_countShown_6, eX1_countShown_9, eX1_countShown_12, eX1_countShown_13, eX1_countShown_14, eX1_countShown_17, eX1_countShown_20, eX1_countShown_23, eX1_countShown_26, eX1_countShown_29, eX1_countShown_30, ox_O_s, ox_B_s, ox_g_t, ox_A_s, ox_push_s, ox_push_n, ox_some, ox_z0, ox_z1, iI_lt, iI_eq, iI_add, iI_sub, ig_at, if_true, if_false, if_pos, if_neg, gO, g0, g1, g2, g3, g4, g5, g6, g7, g8, g9, g10, g11, g12, gi0, gi1, gi2, gi3, gi4, gi5, gi6, gi7, gi8, gi9, gj0, gj1, gj2, gj3, gj4, gj5, gj6, gj7, gj8, gj9, ho, zb_f, Bool.false_eq_true]
        exact ih (p + 1) f (by omega) (by omega) (by omega) (by omega) (by omega)
      | true =>
        rw [c4] at ho
        simp (disch := omega) only [eX1_countShown_0, eX1_countShown_1, eX1_countShown_2, eX1_countShown_3, eX1_countShown_5, eX1_countShown_6, eX1_countShown_9, eX1_countShown_12, eX1_countShown_13, eX1_countShown_14, eX1_countShown_17, eX1_countShown_20, eX1_countShown_23, eX1_countShown_26, eX1_countShown_29, eX1_countShown_30, ox_O_s, ox_B_s, ox_g_t, ox_A_s, ox_push_s, ox_push_n, ox_some, ox_z0, ox_z1, iI_lt, iI_eq, iI_add, iI_sub, ig_at, if_true, if_false, if_pos, if_neg, gO, g0, g1, g2, g3, g4, g5, g6, g7, g8, g9, g10, g11, g12, gi0, gi1, gi2, gi3, gi4, gi5, gi6, gi7, gi8, gi9, gj0, gj1, gj2, gj3, gj4, gj5, gj6, gj7, gj8, gj9, ho, zb_t]
        exact ih (p + 1) (f + 1) (by omega) (by omega) (by omega) (by omega) (by omega)
    · rw [if_neg c1]
      simp (disch := omega) only [eX1_countShown_0, eX1_countShown_1, eX1_countShown_2, eX1_countShown_3, eX1_countShown_5, eX1_countShown_6, eX1_countShown_9, eX1_countShown_12, eX1_countShown_13, eX1_countShown_14, eX1_countShown_17, eX1_countShown_20, eX1_countShown_23, eX1_countShown_26, eX1_countShown_29, eX1_countShown_30, ox_O_s, ox_B_s, ox_g_t, ox_A_s, ox_push_s, ox_push_n, ox_some, ox_z0, ox_z1, iI_lt, iI_eq, iI_add, iI_sub, ig_at, if_true, if_false, if_pos, if_neg, gO, g0, g1, g2, g3, g4, g5, g6, g7, g8, g9, g10, g11, g12, gi0, gi1, gi2, gi3, gi4, gi5, gi6, gi7, gi8, gi9, gj0, gj1, gj2, gj3, gj4, gj5, gj6, gj7, gj8, gj9]
theorem k1_countShown {h : ox_H} {o : Nat} {X : ol} (hO : OA h o X) (hV : vx X) : oe 31 0 [.ref o, .null, .null] [] h = some (some (.int (iI (cnF (shX X) (X.1 0) 31 0 0))), h) := by
  have hn := hV.2.1
  have hk := k1_cs_loop hO hV 31 0 0 (by omega) (by omega) (by omega) (by omega) (by omega)
  simp (disch := omega) only [eX1_countShown_0, eX1_countShown_1, eX1_countShown_2, eX1_countShown_3, eX1_countShown_5, eX1_countShown_6, eX1_countShown_9, eX1_countShown_12, eX1_countShown_13, eX1_countShown_14, eX1_countShown_17, eX1_countShown_20, eX1_countShown_23, eX1_countShown_26, eX1_countShown_29, eX1_countShown_30, ox_O_s, ox_B_s, ox_g_t, ox_A_s, ox_push_s, ox_push_n, ox_some, ox_z0, ox_z1, iI_lt, iI_eq, iI_add, iI_sub, ig_at, if_true, if_false, if_pos, if_neg]
  exact hk
theorem stA_b {X : ol} (hV : vx X) (p : Int) : -1 ≤ stA X p ∧ stA X p ≤ 60 := by
  unfold stA
  split
  · rename_i h
    have := (hV.2.2.2.2.1 p h.1 h.2).2.2.2.2
    omega
  · omega
def vaF (X : ol) (lv : Int) : Nat → Int → Int
  | 0, s => s
  | k + 1, s => if lv ≤ lvA X k then (if lvA X k = lv ∧ ¬ stA X k = -1 then (if stA X k = 0 then vaF X lv k (s + 1) else stA X k + s) else vaF X lv k s) else s
theorem k1_va_loop {h : ox_H} {o : Nat} {X : ol} (hO : OA h o X) (hV : vx X) {lv : Int} (h1 : 0 ≤ lv) (h2 : lv ≤ 7) (v1 : Value) : ∀ (k : Nat) (s : Int), (k : Int) ≤ X.1 0 → 0 ≤ s → s + k ≤ 100 → oe 32 22 [.ref o, v1, .int (iI lv), .int (iI s), .int (iI ((k : Int) - 1))] [] h = some (some (.int (iI (vaF X lv k s))), h) := by
  obtain ⟨gO, g0, g1, g2, g3, g4, g5, g6, g7, g8, g9, g10, g11, g12, gi0, gi1, gi2, gi3, gi4, gi5, gi6, gi7, gi8, gi9, gj0, gj1, gj2, gj3, gj4, gj5, gj6, gj7, gj8, gj9⟩ := oa_facts hO
  obtain ⟨vl, vn, vo, vi, va, vfst, vs, vz, vr, vc, vt, vm, vk⟩ := id hV
  have l0 : (X.2 0).length = 30 := vl 0 (by omega)
  have l1 : (X.2 1).length = 30 := vl 1 (by omega)
  have l2 : (X.2 2).length = 30 := vl 2 (by omega)
  have l3 : (X.2 3).length = 30 := vl 3 (by omega)
  have l4 : (X.2 4).length = 30 := vl 4 (by omega)
  have l5 : (X.2 5).length = 30 := vl 5 (by omega)
  have l6 : (X.2 6).length = 5 := vl 6 (by omega)
  have l7 : (X.2 7).length = 7 := vl 7 (by omega)
  have l8 : (X.2 8).length = 12 := vl 8 (by omega)
  have l9 : (X.2 9).length = 12 := vl 9 (by omega)
  intro k
  induction k with
  | zero =>
    intro s a b c
    rw [eX1_valueAt_22]
    simp (disch := omega) only [eX1_valueAt_0, eX1_valueAt_1, eX1_valueAt_2, eX1_valueAt_5, eX1_valueAt_6, eX1_valueAt_7, eX1_valueAt_8, eX1_valueAt_11, eX1_valueAt_12, eX1_valueAt_15, eX1_valueAt_16, eX1_valueAt_17, eX1_valueAt_18, eX1_valueAt_19, eX1_valueAt_20, eX1_valueAt_24, eX1_valueAt_27, eX1_valueAt_28, eX1_valueAt_30, eX1_valueAt_33, eX1_valueAt_34, eX1_valueAt_37, eX1_valueAt_38, eX1_valueAt_40, eX1_valueAt_43, eX1_valueAt_44, eX1_valueAt_47, eX1_valueAt_48, eX1_valueAt_50, eX1_valueAt_53, eX1_valueAt_54, eX1_valueAt_57, eX1_valueAt_58, eX1_valueAt_60, eX1_valueAt_63, eX1_valueAt_66, eX1_valueAt_67, eX1_valueAt_69, eX1_valueAt_72, eX1_valueAt_73, eX1_valueAt_74, eX1_valueAt_75, eX1_valueAt_78, eX1_valueAt_81, eX1_valueAt_84, eX1_valueAt_85, ox_O_s, ox_B_s, ox_g_t, ox_A_s, ox_push_s, ox_push_n, ox_some, ox_z0, ox_z1, iI_lt, iI_eq, iI_add, iI_sub, ig_at, if_true, if_false, if_pos, if_neg, gO, g0, g1, g2, g3, g4, g5, g6, g7, g8, g9, g10, g11, g12, gi0, gi1, gi2, gi3, gi4, gi5, gi6, gi7, gi8, gi9, gj0, gj1, gj2, gj3, gj4, gj5, gj6, gj7, gj8, gj9]
    rfl
  | succ k ih =>
    intro s a b c
    have hl := k1_levelAt hO hV (p := (k : Int)) (by omega) (by omega)
    have hb := lvA_b hV (k : Int)
    have hs := k1_startAt hO hV (p := (k : Int)) (by omega) (by omega)
    have hsb := stA_b hV (k : Int)
    rw [eX1_valueAt_22, show ((k + 1 : Nat) : Int) - 1 = (k : Int) by omega]
    unfold vaF
    by_cases c1 : lv ≤ lvA X k
    · rw [if_pos c1]
      by_cases c2 : lvA X k = lv
      · by_cases c3 : stA X k = -1
        · rw [if_neg (fun z => z.2 c3)]
          simp (disch := omega) only [eX1_valueAt_0, eX1_valueAt_1, eX1_valueAt_2, eX1_valueAt_5, eX1_valueAt_6, eX1_valueAt_7, eX1_valueAt_8, eX1_valueAt_11, eX1_valueAt_12, eX1_valueAt_15, eX1_valueAt_16, eX1_valueAt_17, eX1_valueAt_18, eX1_valueAt_19, eX1_valueAt_20, eX1_valueAt_24, eX1_valueAt_27, eX1_valueAt_28, eX1_valueAt_30, eX1_valueAt_33, eX1_valueAt_34, eX1_valueAt_37, eX1_valueAt_38, eX1_valueAt_40, eX1_valueAt_43, eX1_valueAt_44, eX1_valueAt_47, eX1_valueAt_48, eX1_valueAt_50, eX1_valueAt_53, eX1_valueAt_54, eX1_valueAt_57, eX1_valueAt_58, eX1_valueAt_60, eX1_valueAt_63, eX1_valueAt_66, eX1_valueAt_67, eX1_valueAt_69, eX1_valueAt_72, eX1_valueAt_73, eX1_valueAt_74, eX1_valueAt_75, eX1_valueAt_78, eX1_valueAt_81, eX1_valueAt_84, eX1_valueAt_85, ox_O_s, ox_B_s, ox_g_t, ox_A_s, ox_push_s, ox_push_n, ox_some, ox_z0, ox_z1, iI_lt, iI_eq, iI_add, iI_sub, ig_at, if_true, if_false, if_pos, if_neg, gO, g0, g1, g2, g3, g4, g5, g6, g7, g8, g9, g10, g11, g12, gi0, gi1, gi2, gi3, gi4, gi5, gi6, gi7, gi8, gi9, gj0, gj1, gj2, gj3, gj4, gj5, gj6, gj7, gj8, gj9, hl, hs]
          exact ih s (by omega) (by omega) (by omega)
        · rw [if_pos ⟨c2, c3⟩]
          by_cases c4 : stA X k = 0
          · rw [if_pos c4]
            simp (disch := omega) only [eX1_valueAt_0, eX1_valueAt_1, eX1_valueAt_2, eX1_valueAt_5, eX1_valueAt_6, eX1_valueAt_7, eX1_valueAt_8, eX1_valueAt_11, eX1_valueAt_12, eX1_valueAt_15, eX1_valueAt_16, eX1_valueAt_17, eX1_valueAt_18, eX1_valueAt_19, eX1_valueAt_20, eX1_valueAt_24, eX1_valueAt_27, eX1_valueAt_28, eX1_valueAt_30, eX1_valueAt_33, eX1_valueAt_34, eX1_valueAt_37, eX1_valueAt_38, eX1_valueAt_40, eX1_valueAt_43, eX1_valueAt_44, eX1_valueAt_47, eX1_valueAt_48, eX1_valueAt_50, eX1_valueAt_53, eX1_valueAt_54, eX1_valueAt_57, eX1_valueAt_58, eX1_valueAt_60, eX1_valueAt_63, eX1_valueAt_66, eX1_valueAt_67, eX1_valueAt_69, eX1_valueAt_72, eX1_valueAt_73, eX1_valueAt_74, eX1_valueAt_75, eX1_valueAt_78, eX1_valueAt_81, eX1_valueAt_84, eX1_valueAt_85, ox_O_s, ox_B_s, ox_g_t, ox_A_s, ox_push_s, ox_push_n, ox_some, ox_z0, ox_z1, iI_lt, iI_eq, iI_add, iI_sub, ig_at, if_true, if_false, if_pos, if_neg, gO, g0, g1, g2, g3, g4, g5, g6, g7, g8, g9, g10, g11, g12, gi0, gi1, gi2, gi3, gi4, gi5, gi6, gi7, gi8, gi9, gj0, gj1, gj2, gj3, gj4, gj5, gj6, gj7, gj8, gj9, hl, hs]
            exact ih (s + 1) (by omega) (by omega) (by omega)
          · rw [if_neg c4]
            simp (disch := omega) only [eX1_valueAt_0, eX1_valueAt_1, eX1_valueAt_2, eX1_valueAt_5, eX1_valueAt_6, eX1_valueAt_7, eX1_valueAt_8, eX1_valueAt_11, eX1_valueAt_12, eX1_valueAt_15, eX1_valueAt_16, eX1_valueAt_17, eX1_valueAt_18, eX1_valueAt_19, eX1_valueAt_20, eX1_valueAt_24, eX1_valueAt_27, eX1_valueAt_28, eX1_valueAt_30, eX1_valueAt_33, eX1_valueAt_34, eX1_valueAt_37, eX1_valueAt_38, eX1_valueAt_40, eX1_valueAt_43, eX1_valueAt_44, eX1_valueAt_47, eX1_valueAt_48, eX1_valueAt_50, eX1_valueAt_53, eX1_valueAt_54, eX1_valueAt_57, eX1_valueAt_58, eX1_valueAt_60, eX1_valueAt_63, eX1_valueAt_66, eX1_valueAt_67, eX1_valueAt_69, eX1_valueAt_72, eX1_valueAt_73, eX1_valueAt_74, eX1_valueAt_75, eX1_valueAt_78, eX1_valueAt_81, eX1_valueAt_84, eX1_valueAt_85, ox_O_s, ox_B_s, ox_g_t, ox_A_s, ox_push_s, ox_push_n, ox_some, ox_z0, ox_z1, iI_lt, iI_eq, iI_add, iI_sub, ig_at, if_true, if_false, if_pos, if_neg, gO, g0, g1, g2, g3, g4, g5, g6, g7, g8, g9, g10, g11, g12, gi0, gi1, gi2, gi3, gi4, gi5, gi6, gi7, gi8, gi9, gj0, gj1, gj2, gj3, gj4, gj5, gj6, gj7, gj8, gj9, hl, hs]
      · rw [if_neg (fun z => c2 z.1)]
        simp (disch := omega) only [eX1_valueAt_0, eX1_valueAt_1, eX1_valueAt_2, eX1_valueAt_5, eX1_valueAt_6, eX1_valueAt_7, eX1_valueAt_8, eX1_valueAt_11, eX1_valueAt_12, eX1_valueAt_15, eX1_valueAt_16, eX1_valueAt_17, eX1_valueAt_18, eX1_valueAt_19, eX1_valueAt_20, eX1_valueAt_24, eX1_valueAt_27, eX1_valueAt_28, eX1_valueAt_30, eX1_valueAt_33, eX1_valueAt_34, eX1_valueAt_37, eX1_valueAt_38, eX1_valueAt_40, eX1_valueAt_43, eX1_valueAt_44, eX1_valueAt_47, eX1_valueAt_48, eX1_valueAt_50, eX1_valueAt_53, eX1_valueAt_54, eX1_valueAt_57, eX1_valueAt_58, eX1_valueAt_60, eX1_valueAt_63, eX1_valueAt_66, eX1_valueAt_67, eX1_valueAt_69, eX1_valueAt_72, eX1_valueAt_73, eX1_valueAt_74, eX1_valueAt_75, eX1_valueAt_78, eX1_valueAt_81, eX1_valueAt_84, eX1_valueAt_85, ox_O_s, ox_B_s, ox_g_t, ox_A_s, ox_push_s, ox_push_n, ox_some, ox_z0, ox_z1, iI_lt, iI_eq, iI_add, iI_sub, ig_at, if_true, if_false, if_pos, if_neg, gO, g0, g1, g2, g3, g4, g5, g6, g7, g8, g9, g10, g11, g12, gi0, gi1, gi2, gi3, gi4, gi5, gi6, gi7, gi8, gi9, gj0, gj1, gj2, gj3, gj4, gj5, gj6, gj7, gj8, gj9, hl, hs]
        exact ih s (by omega) (by omega) (by omega)
    · rw [if_neg c1]
      simp (disch := omega) only [eX1_valueAt_0, eX1_valueAt_1, eX1_valueAt_2, eX1_valueAt_5, eX1_valueAt_6, eX1_valueAt_7, eX1_valueAt_8, eX1_valueAt_11, eX1_valueAt_12, eX1_valueAt_15, eX1_valueAt_16, eX1_valueAt_17, eX1_valueAt_18, eX1_valueAt_19, eX1_valueAt_20, eX1_valueAt_24, eX1_valueAt_27, eX1_valueAt_28, eX1_valueAt_30, eX1_valueAt_33, eX1_valueAt_34, eX1_valueAt_37, eX1_valueAt_38, eX1_valueAt_40, eX1_valueAt_43, eX1_valueAt_44, eX1_valueAt_47, eX1_valueAt_48, eX1_valueAt_50, eX1_valueAt_53, eX1_valueAt_54, eX1_valueAt_57, eX1_valueAt_58, eX1_valueAt_60, eX1_valueAt_63, eX1_valueAt_66, eX1_valueAt_67, eX1_valueAt_69, eX1_valueAt_72, eX1_valueAt_73, eX1_valueAt_74, eX1_valueAt_75, eX1_valueAt_78, eX1_valueAt_81, eX1_valueAt_84, eX1_valueAt_85, ox_O_s, ox_B_s, ox_g_t, ox_A_s, ox_push_s, ox_push_n, ox_some, ox_z0, ox_z1, iI_lt, iI_eq, iI_add, iI_sub, ig_at, if_true, if_false, if_pos, if_neg, gO, g0, g1, g2, g3, g4, g5, g6, g7, g8, g9, g10, g11, g12, gi0, gi1, gi2, gi3, gi4, gi5, gi6, gi7, gi8, gi9, gj0, gj1, gj2, gj3, gj4, gj5, gj6, gj7, gj8, gj9, hl]
theorem vaF_b {X : ol} (hV : vx X) {lv : Int} : ∀ (k : Nat) (s : Int), 0 ≤ s → 0 ≤ vaF X lv k s ∧ vaF X lv k s ≤ 60 + s + k
  | 0, s, h => by simp [vaF]; omega
  | k + 1, s, h => by
    have h1 := vaF_b hV (lv := lv) k (s + 1) (by omega)
    have h2 := vaF_b hV (lv := lv) k s h
    have h3 := stA_b hV (k : Int)
    unfold vaF
    split
    · split
      · split <;> omega
      · omega
    · omega
def vaX (X : ol) (p : Int) : Int := if stA X p = -1 then 0 else vaF X (lvA X p) (p.toNat + 1) 0
theorem k1_valueAt {h : ox_H} {o : Nat} {X : ol} (hO : OA h o X) (hV : vx X) {p : Int} (h0 : 0 ≤ p) (h1 : p < X.1 0) : oe 32 0 [.ref o, .int (iI p), .null, .null, .null] [] h = some (some (.int (iI (vaX X p))), h) := by
  have hn := hV.2.1
  have hl := k1_levelAt hO hV (p := p) (by omega) (by omega)
  have hb := lvA_b hV p
  have hs := k1_startAt hO hV (p := p) (by omega) (by omega)
  have hsb := stA_b hV p
  have hk := k1_va_loop hO hV (lv := lvA X p) (by omega) (by omega) (.int (iI p)) (p.toNat + 1) 0 (by omega) (by omega) (by omega)
  rw [show ((p.toNat + 1 : Nat) : Int) - 1 = p by omega] at hk
  obtain ⟨gO, g0, g1, g2, g3, g4, g5, g6, g7, g8, g9, g10, g11, g12, gi0, gi1, gi2, gi3, gi4, gi5, gi6, gi7, gi8, gi9, gj0, gj1, gj2, gj3, gj4, gj5, gj6, gj7, gj8, gj9⟩ := oa_facts hO
  unfold vaX
  by_cases c : stA X p = -1
  · rw [if_pos c]
    simp (disch := omega) only [eX1_valueAt_0, eX1_valueAt_1, eX1_valueAt_2, eX1_valueAt_5, eX1_valueAt_6, eX1_valueAt_7, eX1_valueAt_8, eX1_valueAt_11, eX1_valueAt_12, eX1_valueAt_15, eX1_valueAt_16, eX1_valueAt_17, eX1_valueAt_18, eX1_valueAt_19, eX1_valueAt_20, eX1_valueAt_24, eX1_valueAt_27, eX1_valueAt_28, eX1_valueAt_30, eX1_valueAt_33, eX1_valueAt_34, eX1_valueAt_37, eX1_valueAt_38, eX1_valueAt_40, eX1_valueAt_43, eX1_valueAt_44, eX1_valueAt_47, eX1_valueAt_48, eX1_valueAt_50, eX1_valueAt_53, eX1_valueAt_54, eX1_valueAt_57, eX1_valueAt_58, eX1_valueAt_60, eX1_valueAt_63, eX1_valueAt_66, eX1_valueAt_67, eX1_valueAt_69, eX1_valueAt_72, eX1_valueAt_73, eX1_valueAt_74, eX1_valueAt_75, eX1_valueAt_78, eX1_valueAt_81, eX1_valueAt_84, eX1_valueAt_85, ox_O_s, ox_B_s, ox_g_t, ox_A_s, ox_push_s, ox_push_n, ox_some, ox_z0, ox_z1, iI_lt, iI_eq, iI_add, iI_sub, ig_at, if_true, if_false, if_pos, if_neg, gO, hl, hs]
  · rw [if_neg c]
    simp (disch := omega) only [eX1_valueAt_0, eX1_valueAt_1, eX1_valueAt_2, eX1_valueAt_5, eX1_valueAt_6, eX1_valueAt_7, eX1_valueAt_8, eX1_valueAt_11, eX1_valueAt_12, eX1_valueAt_15, eX1_valueAt_16, eX1_valueAt_17, eX1_valueAt_18, eX1_valueAt_19, eX1_valueAt_20, eX1_valueAt_24, eX1_valueAt_27, eX1_valueAt_28, eX1_valueAt_30, eX1_valueAt_33, eX1_valueAt_34, eX1_valueAt_37, eX1_valueAt_38, eX1_valueAt_40, eX1_valueAt_43, eX1_valueAt_44, eX1_valueAt_47, eX1_valueAt_48, eX1_valueAt_50, eX1_valueAt_53, eX1_valueAt_54, eX1_valueAt_57, eX1_valueAt_58, eX1_valueAt_60, eX1_valueAt_63, eX1_valueAt_66, eX1_valueAt_67, eX1_valueAt_69, eX1_valueAt_72, eX1_valueAt_73, eX1_valueAt_74, eX1_valueAt_75, eX1_valueAt_78, eX1_valueAt_81, eX1_valueAt_84, eX1_valueAt_85, ox_O_s, ox_B_s, ox_g_t, ox_A_s, ox_push_s, ox_push_n, ox_some, ox_z0, ox_z1, iI_lt, iI_eq, iI_add, iI_sub, ig_at, if_true, if_false, if_pos, if_neg, gO, hl, hs]
    exact hk
def nbX (X : ol) (p : Int) : Bool := decide (¬ stA X p = -1) && decide (¬ ig (X.2 7) (lvA X p) = 5)
theorem k1_isNumbered {h : ox_H} {o : Nat} {X : ol} (hO : OA h o X) (hV : vx X) {p : Int} (h0 : 0 ≤ p) (h1 : p < X.1 0) : oe 33 0 [.ref o, .int (iI p)] [] h = some (some (.int (iI (zb (nbX X p)))), h) := by
  have hn := hV.2.1
  have hl := k1_levelAt hO hV (p := p) (by omega) (by omega)
  have hs := k1_startAt hO hV (p := p) (by omega) (by omega)
  have hsb := stA_b hV p
  obtain ⟨gO, g0, g1, g2, g3, g4, g5, g6, g7, g8, g9, g10, g11, g12, gi0, gi1, gi2, gi3, gi4, gi5, gi6, gi7, gi8, gi9, gj0, gj1, gj2, gj3, gj4, gj5, gj6, gj7, gj8, gj9⟩ := oa_facts hO
  obtain ⟨vl, vn, vo, vi, va, vfst, vs, vz, vr, vc, vt, vm, vk⟩ := id hV
  have l0 : (X.2 0).length = 30 := vl 0 (by omega)
  have l1 : (X.2 1).length = 30 := vl 1 (by omega)
  have l2 : (X.2 2).length = 30 := vl 2 (by omega)
  have l3 : (X.2 3).length = 30 := vl 3 (by omega)
  have l4 : (X.2 4).length = 30 := vl 4 (by omega)
  have l5 : (X.2 5).length = 30 := vl 5 (by omega)
  have l6 : (X.2 6).length = 5 := vl 6 (by omega)
  have l7 : (X.2 7).length = 7 := vl 7 (by omega)
  have l8 : (X.2 8).length = 12 := vl 8 (by omega)
  have l9 : (X.2 9).length = 12 := vl 9 (by omega)
  have hlv := (va p h0 h1).1
  rw [← lvA_in h0 h1] at hlv
  have hsc := vc (lvA X p) hlv.1 hlv.2
  unfold nbX
  by_cases c : stA X p = -1
  · rw [decide_eq_false (fun z => z c), Bool.false_and, zb_f]
    simp (disch := omega) only [eX1_isNumbered_0, eX1_isNumbered_1, eX1_isNumbered_2, eX1_isNumbered_5, eX1_isNumbered_6, eX1_isNumbered_9, eX1_isNumbered_10, eX1_isNumbered_13, eX1_isNumbered_14, eX1_isNumbered_15, eX1_isNumbered_18, eX1_isNumbered_19, eX1_isNumbered_20, eX1_isNumbered_23, eX1_isNumbered_24, eX1_isNumbered_27, eX1_isNumbered_28, ox_O_s, ox_B_s, ox_g_t, ox_A_s, ox_push_s, ox_push_n, ox_some, ox_z0, ox_z1, iI_lt, iI_eq, iI_add, iI_sub, ig_at, if_true, if_false, if_pos, if_neg, gO, g0, g1, g2, g3, g4, g5, g6, g7, g8, g9, g10, g11, g12, gi0, gi1, gi2, gi3, gi4, gi5, gi6, gi7, gi8, gi9, gj0, gj1, gj2, gj3, gj4, gj5, gj6, gj7, gj8, gj9, hl, hs]
  · rw [decide_eq_true c, Bool.true_and]
    by_cases c2 : ig (X.2 7) (lvA X p) = 5
    · rw [decide_eq_false (fun z => z c2), zb_f]
      simp (disch := omega) only [eX1_isNumbered_0, eX1_isNumbered_1, eX1_isNumbered_2, eX1_isNumbered_5, eX1_isNumbered_6, eX1_isNumbered_9, eX1_isNumbered_10, eX1_isNumbered_13, eX1_isNumbered_14, eX1_isNumbered_15, eX1_isNumbered_18, eX1_isNumbered_19, eX1_isNumbered_20, eX1_isNumbered_23, eX1_isNumbered_24, eX1_isNumbered_27, eX1_isNumbered_28, ox_O_s, ox_B_s, ox_g_t, ox_A_s, ox_push_s, ox_push_n, ox_some, ox_z0, ox_z1, iI_lt, iI_eq, iI_add, iI_sub, ig_at, if_true, if_false, if_pos, if_neg, gO, g0, g1, g2, g3, g4, g5, g6, g7, g8, g9, g10, g11, g12, gi0, gi1, gi2, gi3, gi4, gi5, gi6, gi7, gi8, gi9, gj0, gj1, gj2, gj3, gj4, gj5, gj6, gj7, gj8, gj9, hl, hs]
    · rw [decide_eq_true c2, zb_t]
      simp (disch := omega) only [eX1_isNumbered_0, eX1_isNumbered_1, eX1_isNumbered_2, eX1_isNumbered_5, eX1_isNumbered_6, eX1_isNumbered_9, eX1_isNumbered_10, eX1_isNumbered_13, eX1_isNumbered_14, eX1_isNumbered_15, eX1_isNumbered_18, eX1_isNumbered_19, eX1_isNumbered_20, eX1_isNumbered_23, eX1_isNumbered_24, eX1_isNumbered_27, eX1_isNumbered_28, ox_O_s, ox_B_s, ox_g_t, ox_A_s, ox_push_s, ox_push_n, ox_some, ox_z0, ox_z1, iI_lt, iI_eq, iI_add, iI_sub, ig_at, if_true, if_false, if_pos, if_neg, gO, g0, g1, g2, g3, g4, g5, g6, g7, g8, g9, g10, g11, g12, gi0, gi1, gi2, gi3, gi4, gi5, gi6, gi7, gi8, gi9, gj0, gj1, gj2, gj3, gj4, gj5, gj6, gj7, gj8, gj9, hl, hs]
def rtX (X : ol) (t : Int) : Int := cnF (fun k => decide (ig (X.2 9) k = t)) (X.1 2) 13 0 0
theorem tgt_b {X : ol} (hV : vx X) {k : Int} (h0 : 0 ≤ k) (h1 : k < X.1 2) : -9 ≤ ig (X.2 9) k ∧ ig (X.2 9) k < 30 := by
  rcases (hV.2.2.2.2.2.2.2.2.2.2.2.2 k h0 h1).2 with e | ⟨p, a, b, e⟩
  · omega
  · have := hV.2.2.1 p a b
    omega
theorem k1_rt_loop {h : ox_H} {o : Nat} {X : ol} (hO : OA h o X) (hV : vx X) {t : Int} (t0 : -2147483648 ≤ t) (t1 : t < 2147483648) : ∀ (m : Nat) (k f : Int), 0 ≤ k → k ≤ X.1 2 → X.1 2 - k < m → 0 ≤ f → f ≤ k → oe 45 4 [.ref o, .int (iI t), .int (iI f), .int (iI k)] [] h = some (some (.int (iI (cnF (fun k => decide (ig (X.2 9) k = t)) (X.1 2) m k f))), h) := by
  obtain ⟨gO, g0, g1, g2, g3, g4, g5, g6, g7, g8, g9, g10, g11, g12, gi0, gi1, gi2, gi3, gi4, gi5, gi6, gi7, gi8, gi9, gj0, gj1, gj2, gj3, gj4, gj5, gj6, gj7, gj8, gj9⟩ := oa_facts hO
  obtain ⟨vl, vn, vo, vi, va, vfst, vs, vz, vr, vc, vt, vm, vk⟩ := id hV
  have l0 : (X.2 0).length = 30 := vl 0 (by omega)
  have l1 : (X.2 1).length = 30 := vl 1 (by omega)
  have l2 : (X.2 2).length = 30 := vl 2 (by omega)
  have l3 : (X.2 3).length = 30 := vl 3 (by omega)
  have l4 : (X.2 4).length = 30 := vl 4 (by omega)
  have l5 : (X.2 5).length = 30 := vl 5 (by omega)
  have l6 : (X.2 6).length = 5 := vl 6 (by omega)
  have l7 : (X.2 7).length = 7 := vl 7 (by omega)
  have l8 : (X.2 8).length = 12 := vl 8 (by omega)
  have l9 : (X.2 9).length = 12 := vl 9 (by omega)
  intro m
  induction m with
  | zero => intro p f a b c; omega
  | succ m ih =>
    intro k f a b c d e
    rw [eX1_referencesTo_4]
    unfold cnF
    by_cases c1 : k < X.1 2
    · rw [if_pos c1]
      have hb := tgt_b hV a c1
      by_cases c4 : ig (X.2 9) k = t
      · rw [if_pos (decide_eq_true c4)]
        simp (disch := omega) only [eX1_referencesTo_0, eX1_referencesTo_1, eX1_referencesTo_2, eX1_referencesTo_3, eX1_referencesTo_5, eX1_referencesTo_6, eX1_referencesTo_9, eX1_referencesTo_12, eX1_referencesTo_13, eX1_referencesTo_16, eX1_referencesTo_17, eX1_referencesTo_18, eX1_referencesTo_19, eX1_referencesTo_22, eX1_referencesTo_25, eX1_referencesTo_28, eX1_referencesTo_31, eX1_referencesTo_32, ox_O_s, ox_B_s, ox_g_t, ox_A_s, ox_push_s, ox_push_n, ox_some, ox_z0, ox_z1, iI_lt, iI_eq, iI_add, iI_sub, ig_at, if_true, if_false, if_pos, if_neg, gO, g0, g1, g2, g3, g4, g5, g6, g7, g8, g9, g10, g11, g12, gi0, gi1, gi2, gi3, gi4, gi5, gi6, gi7, gi8, gi9, gj0, gj1, gj2, gj3, gj4, gj5, gj6, gj7, gj8, gj9]
        exact ih (k + 1) (f + 1) (by omega) (by omega) (by omega) (by omega) (by omega)
      · rw [if_neg (by rw [decide_eq_true_eq]; exact c4)]
        simp (disch := omega) only [eX1_referencesTo_0, eX1_referencesTo_1, eX1_referencesTo_2, eX1_referencesTo_3, eX1_referencesTo_5, eX1_referencesTo_6, eX1_referencesTo_9, eX1_referencesTo_12, eX1_referencesTo_13, eX1_referencesTo_16, eX1_referencesTo_17, eX1_referencesTo_18, eX1_referencesTo_19, eX1_referencesTo_22, eX1_referencesTo_25, eX1_referencesTo_28, eX1_referencesTo_31, eX1_referencesTo_32, ox_O_s, ox_B_s, ox_g_t, ox_A_s, ox_push_s, ox_push_n, ox_some, ox_z0, ox_z1, iI_lt, iI_eq, iI_add, iI_sub, ig_at, if_true, if_false, if_pos, if_neg, gO, g0, g1, g2, g3, g4, g5, g6, g7, g8, g9, g10, g11, g12, gi0, gi1, gi2, gi3, gi4, gi5, gi6, gi7, gi8, gi9, gj0, gj1, gj2, gj3, gj4, gj5, gj6, gj7, gj8, gj9]
        exact ih (k + 1) f (by omega) (by omega) (by omega) (by omega) (by omega)
    · rw [if_neg c1]
      simp (disch := omega) only [eX1_referencesTo_0, eX1_referencesTo_1, eX1_referencesTo_2, eX1_referencesTo_3, eX1_referencesTo_5, eX1_referencesTo_6, eX1_referencesTo_9, eX1_referencesTo_12, eX1_referencesTo_13, eX1_referencesTo_16, eX1_referencesTo_17, eX1_referencesTo_18, eX1_referencesTo_19, eX1_referencesTo_22, eX1_referencesTo_25, eX1_referencesTo_28, eX1_referencesTo_31, eX1_referencesTo_32, ox_O_s, ox_B_s, ox_g_t, ox_A_s, ox_push_s, ox_push_n, ox_some, ox_z0, ox_z1, iI_lt, iI_eq, iI_add, iI_sub, ig_at, if_true, if_false, if_pos, if_neg, gO, g0, g1, g2, g3, g4, g5, g6, g7, g8, g9, g10, g11, g12, gi0, gi1, gi2, gi3, gi4, gi5, gi6, gi7, gi8, gi9, gj0, gj1, gj2, gj3, gj4, gj5, gj6, gj7, gj8, gj9]
theorem k1_referencesTo {h : ox_H} {o : Nat} {X : ol} (hO : OA h o X) (hV : vx X) {t : Int} (t0 : -2147483648 ≤ t) (t1 : t < 2147483648) : oe 45 0 [.ref o, .int (iI t), .null, .null] [] h = some (some (.int (iI (rtX X t))), h) := by
  have hn := hV.2.2.2.2.2.2.2.2.2.2.2.1
  have hk := k1_rt_loop hO hV t0 t1 13 0 0 (by omega) (by omega) (by omega) (by omega) (by omega)
  simp (disch := omega) only [eX1_referencesTo_0, eX1_referencesTo_1, eX1_referencesTo_2, eX1_referencesTo_3, eX1_referencesTo_5, eX1_referencesTo_6, eX1_referencesTo_9, eX1_referencesTo_12, eX1_referencesTo_13, eX1_referencesTo_16, eX1_referencesTo_17, eX1_referencesTo_18, eX1_referencesTo_19, eX1_referencesTo_22, eX1_referencesTo_25, eX1_referencesTo_28, eX1_referencesTo_31, eX1_referencesTo_32, ox_O_s, ox_B_s, ox_g_t, ox_A_s, ox_push_s, ox_push_n, ox_some, ox_z0, ox_z1, iI_lt, iI_eq, iI_add, iI_sub, ig_at, if_true, if_false, if_pos, if_neg]
  exact hk
