/-! The number of a heading, by the class. -/
theorem OA_out {h : ox_H} {o : Nat} {X : ol} {tag N : Nat} {F : Nat → ol → List Value} {a : Nat} {Y : ol} (hO : OA h o X) (hd : a + N < o ∨ o + 10 < a) : OA (gp tag N F h a Y) o X := ⟨by rw [gp_out (by omega)]; exact hO.1, fun k hk => by rw [gp_out (by omega)]; exact hO.2 k hk⟩
theorem MA_out {h : ox_H} {o : Nat} {X : ol} {tag N : Nat} {F : Nat → ol → List Value} {a : Nat} {Y : ol} (hO : MA h o X) (hd : a + N < o ∨ o + 6 < a) : MA (gp tag N F h a Y) o X := ⟨by rw [gp_out (by omega)]; exact hO.1, fun k hk => by rw [gp_out (by omega)]; exact hO.2 k hk⟩
theorem vaF_ge {X : ol} (hV : vx X) {lv : Int} : ∀ (k : Nat) (s : Int), 0 ≤ s → s ≤ vaF X lv k s
  | 0, s, h => by simp [vaF]
  | k + 1, s, h => by
    have h1 := vaF_ge hV (lv := lv) k (s + 1) (by omega)
    have h2 := vaF_ge hV (lv := lv) k s h
    have h3 := stA_b hV (k : Int)
    unfold vaF
    split
    · split
      · split <;> omega
      · omega
    · omega
theorem vaX_pos {X : ol} (hV : vx X) {p : Int} (p0 : 0 ≤ p) (p1 : p < X.1 0) (hs : ¬ stA X p = -1) : 1 ≤ vaX X p ∧ vaX X p ≤ 99 := by
  have hn := hV.2.1
  have hb := vaF_b hV (lv := lvA X p) (p.toNat + 1) 0 (by omega)
  have h3 := stA_b hV p
  have h4 := vaF_ge hV (lv := lvA X p) p.toNat (0 + 1) (by omega)
  unfold vaX
  rw [if_neg hs]
  refine ⟨?_, by omega⟩
  unfold vaF
  rw [show ((p.toNat : Nat) : Int) = p by omega, if_pos (Int.le_refl _), if_pos ⟨rfl, hs⟩]
  split <;> omega
theorem pA_lv {X : ol} (hV : vx X) {lv : Int} (l0 : 1 ≤ lv) : ∀ k : Nat, 1 ≤ k → (k : Int) ≤ X.1 0 → lv ≤ lvA X ((k : Int) - 1) → lvA X (pA (lvA X) (lv + 1) k) = lv
  | 0, h, _, _ => by omega
  | k + 1, h, h1, h2 => by
    rw [show ((k + 1 : Nat) : Int) - 1 = (k : Int) by omega] at h2
    unfold pA
    by_cases c : lvA X k < lv + 1
    · rw [if_pos c]; omega
    · rw [if_neg c]
      by_cases hk : k = 0
      · subst hk
        have e := hV.2.2.2.2.2.1 (by omega)
        have e2 : lvA X ((0 : Nat) : Int) = 1 := by rw [lvA_in (by omega) (by omega)]; exact e
        omega
      · have hs := hV.2.2.2.2.2.2.1 ((k : Int) - 1) (by omega) (by omega)
        rw [show (k : Int) - 1 + 1 = k by omega, ← lvA_in (by omega) (by omega), ← lvA_in (by omega) (by omega)] at hs
        exact pA_lv hV l0 k (by omega) (by omega) (by omega)
/-- the signs of a number, level by level -/
def nuF (X : ol) (p : Int) : Nat → Int → List Int → List Int
  | 0, _, acc => acc
  | k + 1, lv, acc => nuF X p k (lv + 1) (if nbX X (pA (lvA X) (lv + 1) (p + 1).toNat) = true then acc ++ ((if acc = [] then [] else [46]) ++ txV (vaX X (pA (lvA X) (lv + 1) (p + 1).toNat)) (ig (X.2 7) lv)) else acc)
def numX (X : ol) (p : Int) : List Int := if nbX X p = true then nuF X p (lvA X p).toNat 1 [] else []
theorem nb_st {X : ol} {p : Int} (h : nbX X p = true) : ¬ stA X p = -1 := by
  unfold nbX at h
  rw [Bool.and_eq_true] at h
  exact of_decide_eq_true h.1
theorem nuF_len {X : ol} (hV : vx X) {p : Int} (p0 : 0 ≤ p) (p1 : p < X.1 0) : ∀ (k : Nat) (lv : Int) (acc : List Int), 1 ≤ lv → lv + k ≤ 7 → (acc = [] ∨ (acc.length : Int) + 1 ≤ 9 * (lv - 1)) → ((nuF X p k lv acc) = [] ∨ ((nuF X p k lv acc).length : Int) + 1 ≤ 9 * (lv + k - 1))
  | 0, lv, acc, a, b, c => by
    unfold nuF
    rcases c with c | c
    · exact Or.inl c
    · exact Or.inr (by omega)
  | k + 1, lv, acc, a, b, c => by
    have hn := hV.2.1
    have hg := pA_ge0 hV (show 1 < lv + 1 by omega) (by omega) (p + 1).toNat (by omega)
    have hb := pA_b (lvA X) (lv + 1) (p + 1).toNat
    unfold nuF
    have key := nuF_len hV p0 p1 k (lv + 1) (if nbX X (pA (lvA X) (lv + 1) (p + 1).toNat) = true then acc ++ ((if acc = [] then [] else [46]) ++ txV (vaX X (pA (lvA X) (lv + 1) (p + 1).toNat)) (ig (X.2 7) lv)) else acc) (by omega) (by omega) (by
      by_cases q : nbX X (pA (lvA X) (lv + 1) (p + 1).toNat) = true
      · rw [if_pos q]
        have hv := vaX_pos hV hg (by omega) (nb_st q)
        have ht := txV_len (v := vaX X (pA (lvA X) (lv + 1) (p + 1).toNat)) (s := ig (X.2 7) lv) (by omega) (by omega)
        right
        rcases c with c | c
        · rw [if_pos c, c]
          simp only [List.nil_append]
          omega
        · have : ¬ acc = [] ∨ acc = [] := by by_cases z : acc = [] <;> simp [z]
          rcases this with z | z
          · rw [if_neg z]
            simp only [List.length_append, List.length_cons, List.length_nil]
            omega
          · rw [if_pos z, z]
            simp only [List.nil_append]
            omega
      · rw [if_neg q]
        rcases c with c | c
        · exact Or.inl c
        · exact Or.inr (by omega))
    rcases key with z | z
    · exact Or.inl z
    · exact Or.inr (by rw [show lv + ((k + 1 : Nat) : Int) - 1 = lv + 1 + (k : Int) - 1 by omega]; exact z)
theorem k1_wn_loop {h : ox_H} {o a : Nat} {X L : ol} (hO : OA h o X) (hV : vx X) (hd : a + 1 < o ∨ o + 10 < a) (hb : a + 1 < h.length) (ha : 4 ≤ a) (hT : RT h) (hL : (L.2 0).length = 53) (hL0 : L.1 0 = 0) {p : Int} (p0 : 0 ≤ p) (p1 : p < X.1 0) : ∀ (k : Nat) (lv : Int) (acc : List Int) (v5 : Value), 1 ≤ lv → lv + k = lvA X p + 1 → (acc = [] ∨ (acc.length : Int) + 1 ≤ 9 * (lv - 1)) → oe 34 22 [.ref o, .int (iI p), .ref a, .int (iI (lvA X p)), .int (iI lv), v5] [] (lput h a (apS L acc)) = some (none, lput h a (apS L (nuF X p k lv acc))) := by
  have hn := hV.2.1
  have hlb := lvA_b hV p
  intro k
  induction k with
  | zero =>
    intro lv acc v5 l0 l1 hacc
    rw [eX1_writeNumber_22]
    simp (disch := omega) only [eX1_writeNumber_0, eX1_writeNumber_1, eX1_writeNumber_4, eX1_writeNumber_5, eX1_writeNumber_6, eX1_writeNumber_9, eX1_writeNumber_12, eX1_writeNumber_13, eX1_writeNumber_14, eX1_writeNumber_15, eX1_writeNumber_18, eX1_writeNumber_19, eX1_writeNumber_20, eX1_writeNumber_24, eX1_writeNumber_25, eX1_writeNumber_28, eX1_writeNumber_29, eX1_writeNumber_30, eX1_writeNumber_31, eX1_writeNumber_32, eX1_writeNumber_34, eX1_writeNumber_35, eX1_writeNumber_36, eX1_writeNumber_39, eX1_writeNumber_41, eX1_writeNumber_42, eX1_writeNumber_44, eX1_writeNumber_47, eX1_writeNumber_50, eX1_writeNumber_51, eX1_writeNumber_54, eX1_writeNumber_57, eX1_writeNumber_58, eX1_writeNumber_60, eX1_writeNumber_63, eX1_writeNumber_64, eX1_writeNumber_65, eX1_writeNumber_67, eX1_writeNumber_70, eX1_writeNumber_71, eX1_writeNumber_74, eX1_writeNumber_76, eX1_writeNumber_77, eX1_writeNumber_80, eX1_writeNumber_83, eX1_writeNumber_86, ox_O_s, ox_B_s, ox_g_t, ox_A_s, ox_push_s, ox_push_n, ox_some, ox_z0, ox_z1, iI_lt, iI_eq, iI_add, iI_sub, ig_at, if_true, if_false, if_pos, if_neg]
    rfl
  | succ k ih =>
    intro lv acc v5 l0 l1 hacc
    have hO' : OA (lput h a (apS L acc)) o X := OA_out hO (by omega)
    have hg := pA_ge0 hV (show 1 < lv + 1 by omega) (by omega) (p + 1).toNat (by omega)
    have hpb := pA_b (lvA X) (lv + 1) (p + 1).toNat
    have hpa := k1_placeAbove hO' hV (p := p + 1) (lv := lv + 1) (by omega) (by omega) (by omega) (by omega)
    have hnb := k1_isNumbered hO' hV hg (show pA (lvA X) (lv + 1) (p + 1).toNat < X.1 0 by omega)
    have hva := k1_valueAt hO' hV hg (show pA (lvA X) (lv + 1) (p + 1).toNat < X.1 0 by omega)
    have hsc := hV.2.2.2.2.2.2.2.2.2.1 lv l0 (by omega)
    have l7 : (X.2 7).length = 7 := hV.1 7 (by decide)
    have hln := apS_n acc L
    have hll := apS_l acc L
    obtain ⟨gO, g0, g1, g2, g3, g4, g5, g6, g7, g8, g9, g10, g11, g12, gi0, gi1, gi2, gi3, gi4, gi5, gi6, gi7, gi8, gi9, gj0, gj1, gj2, gj3, gj4, gj5, gj6, gj7, gj8, gj9⟩ := oa_facts hO'
    rw [eX1_writeNumber_22]
    unfold nuF
    have hnew := ih (lv + 1) (if nbX X (pA (lvA X) (lv + 1) (p + 1).toNat) = true then acc ++ ((if acc = [] then [] else [46]) ++ txV (vaX X (pA (lvA X) (lv + 1) (p + 1).toNat)) (ig (X.2 7) lv)) else acc) (.int (iI (pA (lvA X) (lv + 1) (p + 1).toNat))) (by omega) (by omega) (by
      have := nuF_len hV p0 p1 1 lv acc l0 (by omega) hacc
      unfold nuF nuF at this
      rw [show lv + ((1 : Nat) : Int) - 1 = lv + 1 - 1 by omega] at this
      exact this)
    cases q : nbX X (pA (lvA X) (lv + 1) (p + 1).toNat) with
    | false =>
      rw [q] at hnb hnew
      rw [if_neg (by decide)] at hnew ⊢
      simp (disch := omega) only [eX1_writeNumber_0, eX1_writeNumber_1, eX1_writeNumber_4, eX1_writeNumber_5, eX1_writeNumber_6, eX1_writeNumber_9, eX1_writeNumber_12, eX1_writeNumber_13, eX1_writeNumber_14, eX1_writeNumber_15, eX1_writeNumber_18, eX1_writeNumber_19, eX1_writeNumber_20, eX1_writeNumber_24, eX1_writeNumber_25, eX1_writeNumber_28, eX1_writeNumber_29, eX1_writeNumber_30, eX1_writeNumber_31, eX1_writeNumber_32, eX1_writeNumber_34, eX1_writeNumber_35, eX1_writeNumber_36, eX1_writeNumber_39, eX1_writeNumber_41, eX1_writeNumber_42, eX1_writeNumber_44, eX1_writeNumber_47, eX1_writeNumber_50, eX1_writeNumber_51, eX1_writeNumber_54, eX1_writeNumber_57, eX1_writeNumber_58, eX1_writeNumber_60, eX1_writeNumber_63, eX1_writeNumber_64, eX1_writeNumber_65, eX1_writeNumber_67, eX1_writeNumber_70, eX1_writeNumber_71, eX1_writeNumber_74, eX1_writeNumber_76, eX1_writeNumber_77, eX1_writeNumber_80, eX1_writeNumber_83, eX1_writeNumber_86, ox_O_s, ox_B_s, ox_g_t, ox_A_s, ox_push_s, ox_push_n, ox_some, ox_z0, ox_z1, iI_lt, iI_eq, iI_add, iI_sub, ig_at, if_true, if_false, if_pos, if_neg, gO, g0, g1, g2, g3, g4, g5, g6, g7, g8, g9, g10, g11, g12, gi0, gi1, gi2, gi3, gi4, gi5, gi6, gi7, gi8, gi9, gj0, gj1, gj2, gj3, gj4, gj5, gj6, gj7, gj8, gj9, hpa, hnb, zb_f]
      exact hnew
    | true =>
      rw [q] at hnb hnew
      rw [if_pos rfl] at hnew ⊢
      have hv := vaX_pos hV hg (by omega) (nb_st q)
      have ht := txV_len (v := vaX X (pA (lvA X) (lv + 1) (p + 1).toNat)) (s := ig (X.2 7) lv) (by omega) (by omega)
      by_cases z : acc = []
      · rw [if_pos z, List.nil_append] at hnew ⊢
        have z0 : acc.length = 0 := by rw [z]; rfl
        have av := k0_appendValue (X := apS L acc) hb ha hT (by rw [hll]; exact hL) (by omega) hv.1 hv.2 hsc.1 hsc.2 (by omega)
        rw [← apS_app] at av
        simp (disch := omega) only [eX1_writeNumber_0, eX1_writeNumber_1, eX1_writeNumber_4, eX1_writeNumber_5, eX1_writeNumber_6, eX1_writeNumber_9, eX1_writeNumber_12, eX1_writeNumber_13, eX1_writeNumber_14, eX1_writeNumber_15, eX1_writeNumber_18, eX1_writeNumber_19, eX1_writeNumber_20, eX1_writeNumber_24, eX1_writeNumber_25, eX1_writeNumber_28, eX1_writeNumber_29, eX1_writeNumber_30, eX1_writeNumber_31, eX1_writeNumber_32, eX1_writeNumber_34, eX1_writeNumber_35, eX1_writeNumber_36, eX1_writeNumber_39, eX1_writeNumber_41, eX1_writeNumber_42, eX1_writeNumber_44, eX1_writeNumber_47, eX1_writeNumber_50, eX1_writeNumber_51, eX1_writeNumber_54, eX1_writeNumber_57, eX1_writeNumber_58, eX1_writeNumber_60, eX1_writeNumber_63, eX1_writeNumber_64, eX1_writeNumber_65, eX1_writeNumber_67, eX1_writeNumber_70, eX1_writeNumber_71, eX1_writeNumber_74, eX1_writeNumber_76, eX1_writeNumber_77, eX1_writeNumber_80, eX1_writeNumber_83, eX1_writeNumber_86, ox_O_s, ox_B_s, ox_g_t, ox_A_s, ox_push_s, ox_push_n, ox_some, ox_z0, ox_z1, iI_lt, iI_eq, iI_add, iI_sub, ig_at, if_true, if_false, if_pos, if_neg, gO, g0, g1, g2, g3, g4, g5, g6, g7, g8, g9, g10, g11, g12, gi0, gi1, gi2, gi3, gi4, gi5, gi6, gi7, gi8, gi9, gj0, gj1, gj2, gj3, gj4, gj5, gj6, gj7, gj8, gj9, hpa, hnb, hva, zb_t, lp_obj, lp_f1, hln, hL0, z0, av]
        exact hnew
      · have z1 : 1 ≤ acc.length := by
          cases acc with
          | nil => exact absurd rfl z
          | cons x xs => simp
        have hacc' := hacc.resolve_left z
        rw [if_neg z] at hnew ⊢
        have ap := k0_append (X := apS L acc) hb (by rw [hll]; exact hL) (by omega) (by omega) (c := 46)
        have hO2 : OA (lput h a (apL (apS L acc) 46)) o X := OA_out hO (by omega)
        have hva2 := k1_valueAt hO2 hV hg (show pA (lvA X) (lv + 1) (p + 1).toNat < X.1 0 by omega)
        have av := k0_appendValue (X := apL (apS L acc) 46) hb ha hT (by rw [apL_l, hll]; exact hL) (by rw [apL_n]; omega) hv.1 hv.2 hsc.1 hsc.2 (by rw [apL_n]; omega)
        have e46 : apS (apL (apS L acc) 46) (txV (vaX X (pA (lvA X) (lv + 1) (p + 1).toNat)) (ig (X.2 7) lv)) = apS L (acc ++ ([46] ++ txV (vaX X (pA (lvA X) (lv + 1) (p + 1).toNat)) (ig (X.2 7) lv))) := by
          rw [apS_app, apS_app]
          rfl
        rw [e46] at av
        have oo := (oa_facts hO2).1
        have o8 := (oa_facts hO2).2.2.2.2.2.2.2.2.2.1
        have i7 := (oa_facts hO2).2.2.2.2.2.2.2.2.2.2.2.2.2.2.2.2.2.2.2.2.2.1
        simp (disch := omega) only [eX1_writeNumber_0, eX1_writeNumber_1, eX1_writeNumber_4, eX1_writeNumber_5, eX1_writeNumber_6, eX1_writeNumber_9, eX1_writeNumber_12, eX1_writeNumber_13, eX1_writeNumber_14, eX1_writeNumber_15, eX1_writeNumber_18, eX1_writeNumber_19, eX1_writeNumber_20, eX1_writeNumber_24, eX1_writeNumber_25, eX1_writeNumber_28, eX1_writeNumber_29, eX1_writeNumber_30, eX1_writeNumber_31, eX1_writeNumber_32, eX1_writeNumber_34, eX1_writeNumber_35, eX1_writeNumber_36, eX1_writeNumber_39, eX1_writeNumber_41, eX1_writeNumber_42, eX1_writeNumber_44, eX1_writeNumber_47, eX1_writeNumber_50, eX1_writeNumber_51, eX1_writeNumber_54, eX1_writeNumber_57, eX1_writeNumber_58, eX1_writeNumber_60, eX1_writeNumber_63, eX1_writeNumber_64, eX1_writeNumber_65, eX1_writeNumber_67, eX1_writeNumber_70, eX1_writeNumber_71, eX1_writeNumber_74, eX1_writeNumber_76, eX1_writeNumber_77, eX1_writeNumber_80, eX1_writeNumber_83, eX1_writeNumber_86, ox_O_s, ox_B_s, ox_g_t, ox_A_s, ox_push_s, ox_push_n, ox_some, ox_z0, ox_z1, iI_lt, iI_eq, iI_add, iI_sub, ig_at, if_true, if_false, if_pos, if_neg, gO, g0, g1, g2, g3, g4, g5, g6, g7, g8, g9, g10, g11, g12, gi0, gi1, gi2, gi3, gi4, gi5, gi6, gi7, gi8, gi9, gj0, gj1, gj2, gj3, gj4, gj5, gj6, gj7, gj8, gj9, oo, o8, i7, hpa, hnb, hva2, zb_t, lp_obj, lp_f1, hln, hL0, ap, av]
        exact hnew
theorem k1_writeNumber {h : ox_H} {o a : Nat} {X L : ol} (hO : OA h o X) (hV : vx X) (hd : a + 1 < o ∨ o + 10 < a) (hb : a + 1 < h.length) (ha : 4 ≤ a) (hT : RT h) (hL : (L.2 0).length = 53) {p : Int} (p0 : 0 ≤ p) (p1 : p < X.1 0) : oe 34 0 [.ref o, .int (iI p), .ref a, .null, .null, .null] [] (lput h a L) = some (none, lput h a (apS (nset L 0 0) (numX X p))) := by
  have hc := k0_clear (X := L) hb
  have hO' : OA (lput h a (nset L 0 0)) o X := OA_out hO (by omega)
  have hnb := k1_isNumbered hO' hV p0 p1
  have hl := k1_levelAt hO' hV (p := p) (by have := hV.2.1; omega) (by have := hV.2.1; omega)
  have hlb := lvA_b hV p
  have oo := (oa_facts hO').1
  unfold numX
  cases q : nbX X p with
  | false =>
    rw [q] at hnb
    rw [if_neg (by decide)]
    simp (disch := omega) only [eX1_writeNumber_0, eX1_writeNumber_1, eX1_writeNumber_4, eX1_writeNumber_5, eX1_writeNumber_6, eX1_writeNumber_9, eX1_writeNumber_12, eX1_writeNumber_13, eX1_writeNumber_14, eX1_writeNumber_15, eX1_writeNumber_18, eX1_writeNumber_19, eX1_writeNumber_20, eX1_writeNumber_24, eX1_writeNumber_25, eX1_writeNumber_28, eX1_writeNumber_29, eX1_writeNumber_30, eX1_writeNumber_31, eX1_writeNumber_32, eX1_writeNumber_34, eX1_writeNumber_35, eX1_writeNumber_36, eX1_writeNumber_39, eX1_writeNumber_41, eX1_writeNumber_42, eX1_writeNumber_44, eX1_writeNumber_47, eX1_writeNumber_50, eX1_writeNumber_51, eX1_writeNumber_54, eX1_writeNumber_57, eX1_writeNumber_58, eX1_writeNumber_60, eX1_writeNumber_63, eX1_writeNumber_64, eX1_writeNumber_65, eX1_writeNumber_67, eX1_writeNumber_70, eX1_writeNumber_71, eX1_writeNumber_74, eX1_writeNumber_76, eX1_writeNumber_77, eX1_writeNumber_80, eX1_writeNumber_83, eX1_writeNumber_86, ox_O_s, ox_B_s, ox_g_t, ox_A_s, ox_push_s, ox_push_n, ox_some, ox_z0, ox_z1, iI_lt, iI_eq, iI_add, iI_sub, ig_at, if_true, if_false, if_pos, if_neg, lp_obj, hc, oo, hnb, zb_f]
    rfl
  | true =>
    rw [q] at hnb
    rw [if_pos rfl]
    have hk := k1_wn_loop (L := nset L 0 0) hO hV hd hb ha hT hL rfl p0 p1 (lvA X p).toNat 1 [] .null (by omega) (by omega) (Or.inl rfl)
    rw [apS_nil] at hk
    simp (disch := omega) only [eX1_writeNumber_0, eX1_writeNumber_1, eX1_writeNumber_4, eX1_writeNumber_5, eX1_writeNumber_6, eX1_writeNumber_9, eX1_writeNumber_12, eX1_writeNumber_13, eX1_writeNumber_14, eX1_writeNumber_15, eX1_writeNumber_18, eX1_writeNumber_19, eX1_writeNumber_20, eX1_writeNumber_24, eX1_writeNumber_25, eX1_writeNumber_28, eX1_writeNumber_29, eX1_writeNumber_30, eX1_writeNumber_31, eX1_writeNumber_32, eX1_writeNumber_34, eX1_writeNumber_35, eX1_writeNumber_36, eX1_writeNumber_39, eX1_writeNumber_41, eX1_writeNumber_42, eX1_writeNumber_44, eX1_writeNumber_47, eX1_writeNumber_50, eX1_writeNumber_51, eX1_writeNumber_54, eX1_writeNumber_57, eX1_writeNumber_58, eX1_writeNumber_60, eX1_writeNumber_63, eX1_writeNumber_64, eX1_writeNumber_65, eX1_writeNumber_67, eX1_writeNumber_70, eX1_writeNumber_71, eX1_writeNumber_74, eX1_writeNumber_76, eX1_writeNumber_77, eX1_writeNumber_80, eX1_writeNumber_83, eX1_writeNumber_86, ox_O_s, ox_B_s, ox_g_t, ox_A_s, ox_push_s, ox_push_n, ox_some, ox_z0, ox_z1, iI_lt, iI_eq, iI_add, iI_sub, ig_at, if_true, if_false, if_pos, if_neg, lp_obj, hc, oo, hnb, hl, zb_t]
    exact hk
