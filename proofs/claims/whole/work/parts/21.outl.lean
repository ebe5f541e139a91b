/-! An outline of the class: X.1: 0 the number of headings, 1 the filter, 2 the number of references; X.2: 0 order, 1 levels, 2 kinds, 3 tags, 4 folded, 5 starts, 6 rules, 7 schemes, 8 sources, 9 targets. -/
abbrev ol : Type := (Nat → Int) × (Nat → List Int)
def oa_fs (o : Nat) (X : ol) : List Value := [.int (iI (X.1 0)), .ref (o + 1), .ref (o + 2), .ref (o + 3), .ref (o + 4), .ref (o + 5), .ref (o + 6), .ref (o + 7), .ref (o + 8), .int (iI (X.1 1)), .int (iI (X.1 2)), .ref (o + 9), .ref (o + 10)]
def OA (h : ox_H) (o : Nat) (X : ol) : Prop := h[o]? = some (.inr (1, oa_fs o X)) ∧ ∀ k, k < 10 → h[o + 1 + k]? = some (.inl (0, (X.2 k).map iI))
def oa_ln : List Nat := [30, 30, 30, 30, 30, 30, 5, 7, 12, 12]
/-- the lengths of its rows -/
def ol_len (X : ol) : Prop := ∀ k, k < 10 → (X.2 k).length = oa_ln.getD k 0
theorem oa_facts {h : ox_H} {o : Nat} {X : ol} (hO : OA h o X) : ox_obj h o 1 = some (oa_fs o X) ∧
    ox_fld h o 1 0 = some (.int (iI (X.1 0))) ∧ ox_fld h o 1 1 = some (.ref (o + 1)) ∧ ox_fld h o 1 2 = some (.ref (o + 2)) ∧ ox_fld h o 1 3 = some (.ref (o + 3)) ∧ ox_fld h o 1 4 = some (.ref (o + 4)) ∧ ox_fld h o 1 5 = some (.ref (o + 5)) ∧ ox_fld h o 1 6 = some (.ref (o + 6)) ∧ ox_fld h o 1 7 = some (.ref (o + 7)) ∧ ox_fld h o 1 8 = some (.ref (o + 8)) ∧ ox_fld h o 1 9 = some (.int (iI (X.1 1))) ∧ ox_fld h o 1 10 = some (.int (iI (X.1 2))) ∧ ox_fld h o 1 11 = some (.ref (o + 9)) ∧ ox_fld h o 1 12 = some (.ref (o + 10)) ∧
    ox_ints h (o + 1) ox_isI = some ((X.2 0).map iI) ∧ ox_ints h (o + 2) ox_isI = some ((X.2 1).map iI) ∧ ox_ints h (o + 3) ox_isI = some ((X.2 2).map iI) ∧ ox_ints h (o + 4) ox_isI = some ((X.2 3).map iI) ∧ ox_ints h (o + 5) ox_isI = some ((X.2 4).map iI) ∧ ox_ints h (o + 6) ox_isI = some ((X.2 5).map iI) ∧ ox_ints h (o + 7) ox_isI = some ((X.2 6).map iI) ∧ ox_ints h (o + 8) ox_isI = some ((X.2 7).map iI) ∧ ox_ints h (o + 9) ox_isI = some ((X.2 8).map iI) ∧ ox_ints h (o + 10) ox_isI = some ((X.2 9).map iI) ∧
    ox_ints h (o + 1) ox_is0 = some ((X.2 0).map iI) ∧ ox_ints h (o + 2) ox_is0 = some ((X.2 1).map iI) ∧ ox_ints h (o + 3) ox_is0 = some ((X.2 2).map iI) ∧ ox_ints h (o + 4) ox_is0 = some ((X.2 3).map iI) ∧ ox_ints h (o + 5) ox_is0 = some ((X.2 4).map iI) ∧ ox_ints h (o + 6) ox_is0 = some ((X.2 5).map iI) ∧ ox_ints h (o + 7) ox_is0 = some ((X.2 6).map iI) ∧ ox_ints h (o + 8) ox_is0 = some ((X.2 7).map iI) ∧ ox_ints h (o + 9) ox_is0 = some ((X.2 8).map iI) ∧ ox_ints h (o + 10) ox_is0 = some ((X.2 9).map iI) := by
  obtain ⟨h0, hk⟩ := hO
  have f := fun k => ox_fld_of (k := k) h0
  have i := fun k (hk' : k < 10) => ox_ints_of (ok := ox_isI) (hk k hk') rfl
  have j := fun k (hk' : k < 10) => ox_ints_of (ok := ox_is0) (hk k hk') rfl
  exact ⟨ox_obj_of h0, f 0, f 1, f 2, f 3, f 4, f 5, f 6, f 7, f 8, f 9, f 10, f 11, f 12, i 0 (by omega), i 1 (by omega), i 2 (by omega), i 3 (by omega), i 4 (by omega), i 5 (by omega), i 6 (by omega), i 7 (by omega), i 8 (by omega), i 9 (by omega), j 0 (by omega), j 1 (by omega), j 2 (by omega), j 3 (by omega), j 4 (by omega), j 5 (by omega), j 6 (by omega), j 7 (by omega), j 8 (by omega), j 9 (by omega)⟩
/-- what is kept true of an outline -/
def vx (X : ol) : Prop :=
  ol_len X ∧ (0 ≤ X.1 0 ∧ X.1 0 ≤ 30) ∧ (∀ p, 0 ≤ p → p < X.1 0 → 0 ≤ ig (X.2 0) p ∧ ig (X.2 0) p < 30) ∧ (∀ p q, 0 ≤ p → p < X.1 0 → 0 ≤ q → q < X.1 0 → ig (X.2 0) p = ig (X.2 0) q → p = q) ∧
  (∀ p, 0 ≤ p → p < X.1 0 → (1 ≤ ig (X.2 1) (ig (X.2 0) p) ∧ ig (X.2 1) (ig (X.2 0) p) ≤ 6) ∧ (0 ≤ ig (X.2 2) (ig (X.2 0) p) ∧ ig (X.2 2) (ig (X.2 0) p) ≤ 3) ∧ (0 ≤ ig (X.2 3) (ig (X.2 0) p) ∧ ig (X.2 3) (ig (X.2 0) p) ≤ 31) ∧ (0 ≤ ig (X.2 4) (ig (X.2 0) p) ∧ ig (X.2 4) (ig (X.2 0) p) ≤ 1) ∧ (-1 ≤ ig (X.2 5) (ig (X.2 0) p) ∧ ig (X.2 5) (ig (X.2 0) p) ≤ 60)) ∧
  (0 < X.1 0 → ig (X.2 1) (ig (X.2 0) 0) = 1) ∧ (∀ p, 0 ≤ p → p + 1 < X.1 0 → ig (X.2 1) (ig (X.2 0) (p + 1)) ≤ ig (X.2 1) (ig (X.2 0) p) + 1) ∧
  (∀ k, 0 ≤ k → k < 30 → (∀ p, 0 ≤ p → p < X.1 0 → ig (X.2 0) p ≠ k) → ig (X.2 1) k = 0) ∧
  (∀ k, 0 ≤ k → k < 5 → 0 ≤ ig (X.2 6) k ∧ ig (X.2 6) k ≤ 15) ∧ (∀ k, 1 ≤ k → k ≤ 6 → 0 ≤ ig (X.2 7) k ∧ ig (X.2 7) k ≤ 5) ∧ (0 ≤ X.1 1 ∧ X.1 1 ≤ 31) ∧ (0 ≤ X.1 2 ∧ X.1 2 ≤ 12) ∧
  (∀ k, 0 ≤ k → k < X.1 2 → (∃ p, 0 ≤ p ∧ p < X.1 0 ∧ ig (X.2 0) p = ig (X.2 8) k) ∧ (ig (X.2 9) k = -9 ∨ ∃ p, 0 ≤ p ∧ p < X.1 0 ∧ ig (X.2 0) p = ig (X.2 9) k))
/-- the level, kind, tags, start at a place -/
def lvA (X : ol) (p : Int) : Int := if 0 ≤ p ∧ p < X.1 0 then ig (X.2 1) (ig (X.2 0) p) else 0
def kdA (X : ol) (p : Int) : Int := if 0 ≤ p ∧ p < X.1 0 then ig (X.2 2) (ig (X.2 0) p) else -1
def tgA (X : ol) (p : Int) : Int := if 0 ≤ p ∧ p < X.1 0 then ig (X.2 3) (ig (X.2 0) p) else 0
def stA (X : ol) (p : Int) : Int := if 0 ≤ p ∧ p < X.1 0 then ig (X.2 5) (ig (X.2 0) p) else 0
def idA (X : ol) (p : Int) : Int := if 0 ≤ p ∧ p < X.1 0 then ig (X.2 0) p else -9
theorem lvA_in {X : ol} {p : Int} (h0 : 0 ≤ p) (h1 : p < X.1 0) : lvA X p = ig (X.2 1) (ig (X.2 0) p) := if_pos ⟨h0, h1⟩
theorem lvA_b {X : ol} (hV : vx X) (p : Int) : 0 ≤ lvA X p ∧ lvA X p ≤ 6 := by
  unfold lvA
  split
  · rename_i h
    have := (hV.2.2.2.2.1 p h.1 h.2).1
    omega
  · omega
theorem kdA_b {X : ol} (hV : vx X) (p : Int) : -1 ≤ kdA X p ∧ kdA X p ≤ 3 := by
  unfold kdA
  split
  · rename_i h
    have := (hV.2.2.2.2.1 p h.1 h.2).2.1
    omega
  · omega
theorem k1_levelAt {h : ox_H} {o : Nat} {X : ol} (hO : OA h o X) (hV : vx X) {p : Int} (h1 : -2147483648 ≤ p) (h2 : p < 2147483648) : oe 15 0 [.ref o, .int (iI p)] [] h = some (some (.int (iI (lvA X p))), h) := by
  obtain ⟨gO, g0, g1, g2, g3, g4, g5, g6, g7, g8, g9, g10, g11, g12, gi0, gi1, gi2, gi3, gi4, gi5, gi6, gi7, gi8, gi9, gj0, gj1, gj2, gj3, gj4, gj5, gj6, gj7, gj8, gj9⟩ := oa_facts hO
  obtain ⟨vl, vn, vo, -⟩ := hV
  have l0 := vl 0 (by omega)
  have l1 := vl 1 (by omega)
  simp only [oa_ln, List.getD_cons_zero, List.getD_cons_succ] at l0 l1
  unfold lvA
  by_cases q : 0 ≤ p ∧ p < X.1 0
  · have := vo p q.1 q.2
    rw [if_pos q]
    simp (disch := omega) only [eX1_levelAt_0, eX1_levelAt_1, eX1_levelAt_4, eX1_levelAt_5, eX1_levelAt_6, eX1_levelAt_9, eX1_levelAt_12, eX1_levelAt_13, eX1_levelAt_16, eX1_levelAt_17, eX1_levelAt_20, eX1_levelAt_21, eX1_levelAt_22, eX1_levelAt_23, eX1_levelAt_26, eX1_levelAt_27, ox_O_s, ox_B_s, ox_g_t, ox_A_s, ox_push_s, ox_push_n, ox_some, ox_z0, ox_z1, gO, g0, g1, g2, g3, g4, g5, g6, g7, g8, g9, g10, g11, g12, gi0, gi1, gi2, gi3, gi4, gi5, gi6, gi7, gi8, gi9, gj0, gj1, gj2, gj3, gj4, gj5, gj6, gj7, gj8, gj9, iI_lt, ig_at, show ¬ p < 0 by omega, q.2, if_true, if_false]
  · rw [if_neg q]
    by_cases q0 : p < 0
    · simp (disch := omega) only [eX1_levelAt_0, eX1_levelAt_1, eX1_levelAt_4, eX1_levelAt_5, eX1_levelAt_6, eX1_levelAt_9, eX1_levelAt_12, eX1_levelAt_13, eX1_levelAt_16, eX1_levelAt_17, eX1_levelAt_20, eX1_levelAt_21, eX1_levelAt_22, eX1_levelAt_23, eX1_levelAt_26, eX1_levelAt_27, ox_O_s, ox_B_s, ox_g_t, ox_A_s, ox_push_s, ox_push_n, ox_some, ox_z0, ox_z1, gO, g0, g1, g2, g3, g4, g5, g6, g7, g8, g9, g10, g11, g12, gi0, gi1, gi2, gi3, gi4, gi5, gi6, gi7, gi8, gi9, gj0, gj1, gj2, gj3, gj4, gj5, gj6, gj7, gj8, gj9, iI_lt, q0, if_true, if_false]
    · simp (disch := omega) only [eX1_levelAt_0, eX1_levelAt_1, eX1_levelAt_4, eX1_levelAt_5, eX1_levelAt_6, eX1_levelAt_9, eX1_levelAt_12, eX1_levelAt_13, eX1_levelAt_16, eX1_levelAt_17, eX1_levelAt_20, eX1_levelAt_21, eX1_levelAt_22, eX1_levelAt_23, eX1_levelAt_26, eX1_levelAt_27, ox_O_s, ox_B_s, ox_g_t, ox_A_s, ox_push_s, ox_push_n, ox_some, ox_z0, ox_z1, gO, g0, g1, g2, g3, g4, g5, g6, g7, g8, g9, g10, g11, g12, gi0, gi1, gi2, gi3, gi4, gi5, gi6, gi7, gi8, gi9, gj0, gj1, gj2, gj3, gj4, gj5, gj6, gj7, gj8, gj9, iI_lt, q0, show ¬ p < X.1 0 by omega, if_true, if_false]
