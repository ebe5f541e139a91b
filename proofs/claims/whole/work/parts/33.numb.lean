/-! Numbers written into a line. -/
theorem iI_div {a d : Int} (a0 : 0 ≤ a) (a1 : a < 2147483648) (d0 : 0 < d) (d1 : d < 2147483648) : iI a / iI d = iI (a / d) := by
  have := Int32.ofInt_tdiv (a := a) (b := d) (by show (-2147483648 : Int) ≤ a; omega) (by show a ≤ (2147483647 : Int); omega) (by show (-2147483648 : Int) ≤ d; omega) (by show d ≤ (2147483647 : Int); omega)
  rw [Int.tdiv_eq_ediv_of_nonneg a0] at this
  exact this.symm
theorem ox_nz10 {r : Option ox_R} : ox_g (!(iI 10 == 0)) r = r := rfl
theorem ox_nz26 {r : Option ox_R} : ox_g (!(iI 26 == 0)) r = r := rfl
def apS (X : ol) (bs : List Int) : ol := bs.foldl apL X
theorem apS_nil (X : ol) : apS X [] = X := rfl
theorem apS_cons (X : ol) (b : Int) (bs : List Int) : apS X (b :: bs) = apS (apL X b) bs := rfl
theorem apS_app (X : ol) (a b : List Int) : apS X (a ++ b) = apS (apS X a) b := by unfold apS; rw [List.foldl_append]
theorem apL_n (X : ol) (b : Int) : (apL X b).1 0 = X.1 0 + 1 := rfl
theorem apL_l (X : ol) (b : Int) : ((apL X b).2 0).length = (X.2 0).length := iu_len _ _ _
theorem apS_n : ∀ (bs : List Int) (X : ol), (apS X bs).1 0 = X.1 0 + bs.length
  | [], X => by simp [apS]
  | b :: bs, X => by rw [apS_cons, apS_n bs, apL_n]; simp; omega
theorem apS_l : ∀ (bs : List Int) (X : ol), ((apS X bs).2 0).length = (X.2 0).length
  | [], X => rfl
  | b :: bs, X => by rw [apS_cons, apS_l bs, apL_l]
def txD (v : Int) : List Int := if 10 ≤ v then [48 + v / 10, 48 + (v - v / 10 * 10)] else [48 + (v - v / 10 * 10)]
def txL (v f : Int) : List Int := if 0 < (v - 1) / 26 then [f + (v - 1) / 26 - 1, f + (v - 1 - (v - 1) / 26 * 26)] else [f + (v - 1 - (v - 1) / 26 * 26)]
theorem k0_decimal {h : ox_H} {o : Nat} {X : ol} (hb : o + 1 < h.length) (hl : (X.2 0).length = 53) (n0 : 0 ≤ X.1 0) {v : Int} (v0 : 0 ≤ v) (v1 : v ≤ 99) (hn : X.1 0 + (txD v).length ≤ 53) : oe 6 0 [.ref o, .int (iI v)] [] (lput h o X) = some (none, lput h o (apS X (txD v))) := by
  unfold txD at hn ⊢
  by_cases c : 10 ≤ v
  · rw [if_pos c] at hn ⊢
    simp only [List.length_cons, List.length_nil] at hn
    have a1 := k0_append hb hl n0 (by omega) (c := 48 + v / 10)
    have a2 := k0_append (X := apL X (48 + v / 10)) hb (by rw [apL_l]; exact hl) (by rw [apL_n]; omega) (by rw [apL_n]; omega) (c := 48 + (v - v / 10 * 10))
    simp (disch := omega) only [eX0_appendDecimal_0, eX0_appendDecimal_1, eX0_appendDecimal_3, eX0_appendDecimal_6, eX0_appendDecimal_7, eX0_appendDecimal_9, eX0_appendDecimal_10, eX0_appendDecimal_12, eX0_appendDecimal_13, eX0_appendDecimal_14, eX0_appendDecimal_17, eX0_appendDecimal_18, eX0_appendDecimal_20, eX0_appendDecimal_21, eX0_appendDecimal_23, eX0_appendDecimal_24, eX0_appendDecimal_25, eX0_appendDecimal_28, ox_O_s, ox_B_s, ox_g_t, ox_A_s, ox_push_s, ox_push_n, ox_some, ox_z0, ox_z1, iI_lt, iI_eq, iI_add, iI_sub, ig_at, if_true, if_false, if_pos, if_neg, lp_obj, iI_div, iI_mul, ox_nz10, a1, a2]
    rfl
  · rw [if_neg c] at hn ⊢
    simp only [List.length_cons, List.length_nil] at hn
    have a1 := k0_append hb hl n0 (by omega) (c := 48 + (v - v / 10 * 10))
    simp (disch := omega) only [eX0_appendDecimal_0, eX0_appendDecimal_1, eX0_appendDecimal_3, eX0_appendDecimal_6, eX0_appendDecimal_7, eX0_appendDecimal_9, eX0_appendDecimal_10, eX0_appendDecimal_12, eX0_appendDecimal_13, eX0_appendDecimal_14, eX0_appendDecimal_17, eX0_appendDecimal_18, eX0_appendDecimal_20, eX0_appendDecimal_21, eX0_appendDecimal_23, eX0_appendDecimal_24, eX0_appendDecimal_25, eX0_appendDecimal_28, ox_O_s, ox_B_s, ox_g_t, ox_A_s, ox_push_s, ox_push_n, ox_some, ox_z0, ox_z1, iI_lt, iI_eq, iI_add, iI_sub, ig_at, if_true, if_false, if_pos, if_neg, lp_obj, iI_div, iI_mul, ox_nz10, a1]
    rfl
theorem k0_letters {h : ox_H} {o : Nat} {X : ol} (hb : o + 1 < h.length) (hl : (X.2 0).length = 53) (n0 : 0 ≤ X.1 0) {v f : Int} (v0 : 1 ≤ v) (v1 : v ≤ 99) (hn : X.1 0 + (txL v f).length ≤ 53) : oe 7 0 [.ref o, .int (iI v), .int (iI f), .null] [] (lput h o X) = some (none, lput h o (apS X (txL v f))) := by
  unfold txL at hn ⊢
  by_cases c : 0 < (v - 1) / 26
  · rw [if_pos c] at hn ⊢
    simp only [List.length_cons, List.length_nil] at hn
    have a1 := k0_append hb hl n0 (by omega) (c := f + (v - 1) / 26 - 1)
    have a2 := k0_append (X := apL X (f + (v - 1) / 26 - 1)) hb (by rw [apL_l]; exact hl) (by rw [apL_n]; omega) (by rw [apL_n]; omega) (c := f + (v - 1 - (v - 1) / 26 * 26))
    simp (disch := omega) only [eX0_appendLetters_0, eX0_appendLetters_1, eX0_appendLetters_2, eX0_appendLetters_3, eX0_appendLetters_5, eX0_appendLetters_6, eX0_appendLetters_7, eX0_appendLetters_8, eX0_appendLetters_11, eX0_appendLetters_12, eX0_appendLetters_13, eX0_appendLetters_14, eX0_appendLetters_15, eX0_appendLetters_16, eX0_appendLetters_17, eX0_appendLetters_20, eX0_appendLetters_21, eX0_appendLetters_22, eX0_appendLetters_23, eX0_appendLetters_24, eX0_appendLetters_25, eX0_appendLetters_27, eX0_appendLetters_28, eX0_appendLetters_29, eX0_appendLetters_32, ox_O_s, ox_B_s, ox_g_t, ox_A_s, ox_push_s, ox_push_n, ox_some, ox_z0, ox_z1, iI_lt, iI_eq, iI_add, iI_sub, ig_at, if_true, if_false, if_pos, if_neg, lp_obj, iI_div, iI_mul, ox_nz26, a1, a2]
    rfl
  · rw [if_neg c] at hn ⊢
    simp only [List.length_cons, List.length_nil] at hn
    have a1 := k0_append hb hl n0 (by omega) (c := f + (v - 1 - (v - 1) / 26 * 26))
    simp (disch := omega) only [eX0_appendLetters_0, eX0_appendLetters_1, eX0_appendLetters_2, eX0_appendLetters_3, eX0_appendLetters_5, eX0_appendLetters_6, eX0_appendLetters_7, eX0_appendLetters_8, eX0_appendLetters_11, eX0_appendLetters_12, eX0_appendLetters_13, eX0_appendLetters_14, eX0_appendLetters_15, eX0_appendLetters_16, eX0_appendLetters_17, eX0_appendLetters_20, eX0_appendLetters_21, eX0_appendLetters_22, eX0_appendLetters_23, eX0_appendLetters_24, eX0_appendLetters_25, eX0_appendLetters_27, eX0_appendLetters_28, eX0_appendLetters_29, eX0_appendLetters_32, ox_O_s, ox_B_s, ox_g_t, ox_A_s, ox_push_s, ox_push_n, ox_some, ox_z0, ox_z1, iI_lt, iI_eq, iI_add, iI_sub, ig_at, if_true, if_false, if_pos, if_neg, lp_obj, iI_div, iI_mul, ox_nz26, a1]
    rfl
def rmV : List Int := [1000, 900, 500, 400, 100, 90, 50, 40, 10, 9, 5, 4, 1]
def rmA : List Int := [109, 99, 100, 99, 99, 120, 108, 120, 120, 105, 118, 105, 105]
def rmB : List Int := [32, 109, 32, 100, 32, 99, 32, 108, 32, 120, 32, 118, 32]
/-- Roman signs, by the table from the row i on -/
def rmF (s : Int) : Nat → Int → Int → List Int
  | 0, _, _ => []
  | k + 1, i, r => if i < 13 then (if ig rmV i ≤ r then (ig rmA i + s) :: ((if ig rmB i = 32 then [] else [ig rmB i + s]) ++ rmF s k i (r - ig rmV i)) else rmF s k (i + 1) r) else []
/-- the tables stand in the heap -/
def RT (h : ox_H) : Prop := h[1]? = some (.inl (2, ow_t1)) ∧ h[2]? = some (.inl (3, ow_t2)) ∧ h[3]? = some (.inl (3, ow_t3))
theorem rt_1 : ow_t1 = rmV.map iI := by decide +kernel
theorem rt_2 : ow_t2 = rmA.map iI := by decide +kernel
theorem rt_3 : ow_t3 = rmB.map iI := by decide +kernel
theorem rm_b : ∀ i : Nat, i < 13 → (1 ≤ ig rmV i ∧ ig rmV i ≤ 1000) ∧ (32 ≤ ig rmA i ∧ ig rmA i ≤ 126) ∧ 32 ≤ ig rmB i ∧ ig rmB i ≤ 126 := by decide +kernel
theorem k0_rm_loop {h : ox_H} {o : Nat} (hb : o + 1 < h.length) (ho : 4 ≤ o) (hT : RT h) {s : Int} (v1 : Value) : ∀ (k : Nat) (i r : Int) (X : ol), 0 ≤ i → i ≤ 13 → 0 ≤ r → r ≤ 200 → 13 - i + r < k → (X.2 0).length = 53 → 0 ≤ X.1 0 → X.1 0 + (rmF s k i r).length ≤ 53 → oe 8 5 [.ref o, v1, .int (iI s), .int (iI r), .int (iI i)] [] (lput h o X) = some (none, lput h o (apS X (rmF s k i r))) ∧ (i < 13 → oe 8 14 [.ref o, v1, .int (iI s), .int (iI r), .int (iI i)] [] (lput h o X) = some (none, lput h o (apS X (rmF s k i r)))) := by
  intro k
  induction k with
  | zero => intro i r X a b c d e; omega
  | succ k ih =>
    intro i r X a b c d e hl n0 hn
    have t1 : ox_ints (lput h o X) 1 ox_isI = some (rmV.map iI) := by rw [gp_intO (by omega), ← rt_1]; exact ox_ints_of hT.1 rfl
    have e1 : ox_len (lput h o X) 1 = some 13 := by rw [gp_lenO (by omega)]; exact ox_len_of hT.1
    have inner : i < 13 → oe 8 14 [.ref o, v1, .int (iI s), .int (iI r), .int (iI i)] [] (lput h o X) = some (none, lput h o (apS X (rmF s (k + 1) i r))) := by
      intro hi
      obtain ⟨j, rfl⟩ : ∃ j : Nat, i = j := ⟨i.toNat, by omega⟩
      have hbd := rm_b j (by omega)
      have lv : rmV.length = 13 := rfl
      have la : rmA.length = 13 := rfl
      have lb : rmB.length = 13 := rfl
      rw [eX0_appendRoman_14]
      unfold rmF at hn ⊢
      rw [if_pos hi] at hn ⊢
      by_cases c1 : ig rmV j ≤ r
      · rw [if_pos c1] at hn ⊢
        have t2 : ∀ X : ol, ox_ints (lput h o X) 2 ox_isC = some (rmA.map iI) := fun X => by rw [gp_intO (by omega), ← rt_2]; exact ox_ints_of hT.2.1 rfl
        have t3 : ∀ X : ol, ox_ints (lput h o X) 3 ox_isC = some (rmB.map iI) := fun X => by rw [gp_intO (by omega), ← rt_3]; exact ox_ints_of hT.2.2 rfl
        have t1' : ∀ X : ol, ox_ints (lput h o X) 1 ox_isI = some (rmV.map iI) := fun X => by rw [gp_intO (by omega), ← rt_1]; exact ox_ints_of hT.1 rfl
        have hlen : (if ig rmB j = 32 then ([] : List Int) else [ig rmB j + s]).length = if ig rmB j = 32 then 0 else 1 := by split <;> rfl
        simp only [List.length_cons, List.length_append, hlen] at hn
        have a1 := k0_append hb hl n0 (by split at hn <;> omega) (c := ig rmA j + s)
        by_cases c2 : ig rmB j = 32
        · rw [if_pos c2] at hn ⊢
          have i1 := (ih j (r - ig rmV j) (apL X (ig rmA j + s)) (by omega) (by omega) (by omega) (by omega) (by omega) (by rw [apL_l]; exact hl) (by rw [apL_n]; omega) (by rw [apL_n]; omega)).2 hi
          rw [List.nil_append, apS_cons]
          simp (disch := omega) only [eX0_appendRoman_0, eX0_appendRoman_1, eX0_appendRoman_2, eX0_appendRoman_3, eX0_appendRoman_7, eX0_appendRoman_10, eX0_appendRoman_11, eX0_appendRoman_15, eX0_appendRoman_18, eX0_appendRoman_20, eX0_appendRoman_21, eX0_appendRoman_24, eX0_appendRoman_25, eX0_appendRoman_28, eX0_appendRoman_30, eX0_appendRoman_31, eX0_appendRoman_32, eX0_appendRoman_33, eX0_appendRoman_36, eX0_appendRoman_39, eX0_appendRoman_41, eX0_appendRoman_42, eX0_appendRoman_44, eX0_appendRoman_47, eX0_appendRoman_48, eX0_appendRoman_51, eX0_appendRoman_53, eX0_appendRoman_54, eX0_appendRoman_55, eX0_appendRoman_56, eX0_appendRoman_59, eX0_appendRoman_60, eX0_appendRoman_63, eX0_appendRoman_65, eX0_appendRoman_66, eX0_appendRoman_67, eX0_appendRoman_68, eX0_appendRoman_71, eX0_appendRoman_74, eX0_appendRoman_77, ox_O_s, ox_B_s, ox_g_t, ox_A_s, ox_push_s, ox_push_n, ox_some, ox_z0, ox_z1, iI_lt, iI_eq, iI_add, iI_sub, ig_at, if_true, if_false, if_pos, if_neg, lp_obj, t1, t1', t2, t3, a1]
          exact i1
        · rw [if_neg c2] at hn ⊢
          have a2 := k0_append (X := apL X (ig rmA j + s)) hb (by rw [apL_l]; exact hl) (by rw [apL_n]; omega) (by rw [apL_n]; omega) (c := ig rmB j + s)
          have i1 := (ih j (r - ig rmV j) (apL (apL X (ig rmA j + s)) (ig rmB j + s)) (by omega) (by omega) (by omega) (by omega) (by omega) (by rw [apL_l, apL_l]; exact hl) (by rw [apL_n, apL_n]; omega) (by rw [apL_n, apL_n]; omega)).2 hi
          rw [List.singleton_append, apS_cons, apS_cons]
          simp (disch := omega) only [eX0_appendRoman_0, eX0_appendRoman_1, eX0_appendRoman_2, eX0_appendRoman_3, eX0_appendRoman_7, eX0_appendRoman_10, eX0_appendRoman_11, eX0_appendRoman_15, eX0_appendRoman_18, eX0_appendRoman_20, eX0_appendRoman_21, eX0_appendRoman_24, eX0_appendRoman_25, eX0_appendRoman_28, eX0_appendRoman_30, eX0_appendRoman_31, eX0_appendRoman_32, eX0_appendRoman_33, eX0_appendRoman_36, eX0_appendRoman_39, eX0_appendRoman_41, eX0_appendRoman_42, eX0_appendRoman_44, eX0_appendRoman_47, eX0_appendRoman_48, eX0_appendRoman_51, eX0_appendRoman_53, eX0_appendRoman_54, eX0_appendRoman_55, eX0_appendRoman_56, eX0_appendRoman_59, eX0_appendRoman_60, eX0_appendRoman_63, eX0_appendRoman_65, eX0_appendRoman_66, eX0_appendRoman_67, eX0_appendRoman_68, eX0_appendRoman_71, eX0_appendRoman_74, eX0_appendRoman_77, ox_O_s, ox_B_s, ox_g_t, ox_A_s, ox_push_s, ox_push_n, ox_some, ox_z0, ox_z1, iI_lt, iI_eq, iI_add, iI_sub, ig_at, if_true, if_false, if_pos, if_neg, lp_obj, t1, t1', t2, t3, a1, a2]
          exact i1
      · rw [if_neg c1] at hn ⊢
        have i1 := (ih (j + 1) r X (by omega) (by omega) (by omega) (by omega) (by omega) hl n0 hn).1
        simp (disch := omega) only [eX0_appendRoman_0, eX0_appendRoman_1, eX0_appendRoman_2, eX0_appendRoman_3, eX0_appendRoman_7, eX0_appendRoman_10, eX0_appendRoman_11, eX0_appendRoman_15, eX0_appendRoman_18, eX0_appendRoman_20, eX0_appendRoman_21, eX0_appendRoman_24, eX0_appendRoman_25, eX0_appendRoman_28, eX0_appendRoman_30, eX0_appendRoman_31, eX0_appendRoman_32, eX0_appendRoman_33, eX0_appendRoman_36, eX0_appendRoman_39, eX0_appendRoman_41, eX0_appendRoman_42, eX0_appendRoman_44, eX0_appendRoman_47, eX0_appendRoman_48, eX0_appendRoman_51, eX0_appendRoman_53, eX0_appendRoman_54, eX0_appendRoman_55, eX0_appendRoman_56, eX0_appendRoman_59, eX0_appendRoman_60, eX0_appendRoman_63, eX0_appendRoman_65, eX0_appendRoman_66, eX0_appendRoman_67, eX0_appendRoman_68, eX0_appendRoman_71, eX0_appendRoman_74, eX0_appendRoman_77, ox_O_s, ox_B_s, ox_g_t, ox_A_s, ox_push_s, ox_push_n, ox_some, ox_z0, ox_z1, iI_lt, iI_eq, iI_add, iI_sub, ig_at, if_true, if_false, if_pos, if_neg, lp_obj, t1]
        exact i1
    refine ⟨?_, inner⟩
    rw [eX0_appendRoman_5]
    by_cases hi : i < 13
    · have := inner hi
      simp (disch := omega) only [eX0_appendRoman_7, eX0_appendRoman_10, eX0_appendRoman_11, ox_O_s, ox_B_s, ox_g_t, ox_A_s, ox_push_s, ox_push_n, ox_some, ox_z0, ox_z1, e1, iI_len, iI_lt, if_true, if_false, if_pos, if_neg, show ((13 : Nat) : Int) = 13 from rfl]
      exact this
    · unfold rmF
      rw [if_neg hi]
      simp (disch := omega) only [eX0_appendRoman_7, eX0_appendRoman_10, eX0_appendRoman_11, eX0_appendRoman_77, ox_O_s, ox_B_s, ox_g_t, ox_A_s, ox_push_s, ox_push_n, ox_some, ox_z0, ox_z1, e1, iI_len, iI_lt, if_true, if_false, if_pos, if_neg, show ((13 : Nat) : Int) = 13 from rfl]
      rfl
def txR (v s : Int) : List Int := rmF s 200 0 v
theorem k0_roman {h : ox_H} {o : Nat} {X : ol} (hb : o + 1 < h.length) (ho : 4 ≤ o) (hT : RT h) (hl : (X.2 0).length = 53) (n0 : 0 ≤ X.1 0) {v s : Int} (v0 : 0 ≤ v) (v1 : v ≤ 99) (hn : X.1 0 + (txR v s).length ≤ 53) : oe 8 0 [.ref o, .int (iI v), .int (iI s), .null, .null] [] (lput h o X) = some (none, lput h o (apS X (txR v s))) := by
  have hk := (k0_rm_loop hb ho hT (s := s) (.int (iI v)) 200 0 v X (by omega) (by omega) (by omega) (by omega) (by omega) hl n0 hn).1
  simp only [eX0_appendRoman_0, eX0_appendRoman_1, eX0_appendRoman_2, eX0_appendRoman_3]
  exact hk
/-- a value in a scheme -/
def txV (v s : Int) : List Int := if s = 1 then txL v 97 else if s = 2 then txL v 65 else if s = 3 then txR v 0 else if s = 4 then txR v (-32) else txD v
theorem tx_len : ∀ v : Nat, v < 100 → (txD v).length ≤ 8 ∧ (txL v 97).length ≤ 8 ∧ (txL v 65).length ≤ 8 ∧ (txR v 0).length ≤ 8 ∧ (txR v (-32)).length ≤ 8 := by decide +kernel
theorem txV_len {v s : Int} (v0 : 0 ≤ v) (v1 : v < 100) : (txV v s).length ≤ 8 := by
  obtain ⟨j, rfl⟩ : ∃ j : Nat, v = j := ⟨v.toNat, by omega⟩
  have := tx_len j (by omega)
  unfold txV
  split
  · exact this.2.1
  · split
    · exact this.2.2.1
    · split
      · exact this.2.2.2.1
      · split
        · exact this.2.2.2.2
        · exact this.1
theorem k0_appendValue {h : ox_H} {o : Nat} {X : ol} (hb : o + 1 < h.length) (ho : 4 ≤ o) (hT : RT h) (hl : (X.2 0).length = 53) (n0 : 0 ≤ X.1 0) {v s : Int} (v0 : 1 ≤ v) (v1 : v ≤ 99) (s0 : 0 ≤ s) (s1 : s ≤ 5) (hn : X.1 0 + (txV v s).length ≤ 53) : oe 5 0 [.ref o, .int (iI v), .int (iI s)] [] (lput h o X) = some (none, lput h o (apS X (txV v s))) := by
  unfold txV at hn ⊢
  by_cases c1 : s = 1
  · subst c1
    rw [if_pos rfl] at hn ⊢
    have a1 := k0_letters hb hl n0 v0 v1 hn
    simp (disch := omega) only [eX0_appendValue_0, eX0_appendValue_1_k1, eX0_appendValue_1_k2, eX0_appendValue_1_k3, eX0_appendValue_1_k4, eX0_appendValue_32, eX0_appendValue_33, eX0_appendValue_34, eX0_appendValue_36, eX0_appendValue_39, eX0_appendValue_42, eX0_appendValue_43, eX0_appendValue_44, eX0_appendValue_46, eX0_appendValue_49, eX0_appendValue_52, eX0_appendValue_53, eX0_appendValue_54, eX0_appendValue_55, eX0_appendValue_58, eX0_appendValue_61, eX0_appendValue_62, eX0_appendValue_63, eX0_appendValue_65, eX0_appendValue_68, eX0_appendValue_71, eX0_appendValue_72, eX0_appendValue_73, eX0_appendValue_76, ox_O_s, ox_B_s, ox_g_t, ox_A_s, ox_push_s, ox_push_n, ox_some, ox_z0, ox_z1, iI_lt, iI_eq, iI_add, iI_sub, ig_at, if_true, if_false, if_pos, if_neg, lp_obj, a1]
  · rw [if_neg c1] at hn ⊢
    by_cases c2 : s = 2
    · subst c2
      rw [if_pos rfl] at hn ⊢
      have a1 := k0_letters hb hl n0 v0 v1 hn
      simp (disch := omega) only [eX0_appendValue_0, eX0_appendValue_1_k1, eX0_appendValue_1_k2, eX0_appendValue_1_k3, eX0_appendValue_1_k4, eX0_appendValue_32, eX0_appendValue_33, eX0_appendValue_34, eX0_appendValue_36, eX0_appendValue_39, eX0_appendValue_42, eX0_appendValue_43, eX0_appendValue_44, eX0_appendValue_46, eX0_appendValue_49, eX0_appendValue_52, eX0_appendValue_53, eX0_appendValue_54, eX0_appendValue_55, eX0_appendValue_58, eX0_appendValue_61, eX0_appendValue_62, eX0_appendValue_63, eX0_appendValue_65, eX0_appendValue_68, eX0_appendValue_71, eX0_appendValue_72, eX0_appendValue_73, eX0_appendValue_76, ox_O_s, ox_B_s, ox_g_t, ox_A_s, ox_push_s, ox_push_n, ox_some, ox_z0, ox_z1, iI_lt, iI_eq, iI_add, iI_sub, ig_at, if_true, if_false, if_pos, if_neg, lp_obj, a1]
    · rw [if_neg c2] at hn ⊢
      by_cases c3 : s = 3
      · subst c3
        rw [if_pos rfl] at hn ⊢
        have a1 := k0_roman hb ho hT hl n0 (by omega) v1 hn
        simp (disch := omega) only [eX0_appendValue_0, eX0_appendValue_1_k1, eX0_appendValue_1_k2, eX0_appendValue_1_k3, eX0_appendValue_1_k4, eX0_appendValue_32, eX0_appendValue_33, eX0_appendValue_34, eX0_appendValue_36, eX0_appendValue_39, eX0_appendValue_42, eX0_appendValue_43, eX0_appendValue_44, eX0_appendValue_46, eX0_appendValue_49, eX0_appendValue_52, eX0_appendValue_53, eX0_appendValue_54, eX0_appendValue_55, eX0_appendValue_58, eX0_appendValue_61, eX0_appendValue_62, eX0_appendValue_63, eX0_appendValue_65, eX0_appendValue_68, eX0_appendValue_71, eX0_appendValue_72, eX0_appendValue_73, eX0_appendValue_76, ox_O_s, ox_B_s, ox_g_t, ox_A_s, ox_push_s, ox_push_n, ox_some, ox_z0, ox_z1, iI_lt, iI_eq, iI_add, iI_sub, ig_at, if_true, if_false, if_pos, if_neg, lp_obj, a1]
      · rw [if_neg c3] at hn ⊢
        by_cases c4 : s = 4
        · subst c4
          rw [if_pos rfl] at hn ⊢
          have a1 := k0_roman hb ho hT hl n0 (by omega) v1 hn
          simp (disch := omega) only [eX0_appendValue_0, eX0_appendValue_1_k1, eX0_appendValue_1_k2, eX0_appendValue_1_k3, eX0_appendValue_1_k4, eX0_appendValue_32, eX0_appendValue_33, eX0_appendValue_34, eX0_appendValue_36, eX0_appendValue_39, eX0_appendValue_42, eX0_appendValue_43, eX0_appendValue_44, eX0_appendValue_46, eX0_appendValue_49, eX0_appendValue_52, eX0_appendValue_53, eX0_appendValue_54, eX0_appendValue_55, eX0_appendValue_58, eX0_appendValue_61, eX0_appendValue_62, eX0_appendValue_63, eX0_appendValue_65, eX0_appendValue_68, eX0_appendValue_71, eX0_appendValue_72, eX0_appendValue_73, eX0_appendValue_76, ox_O_s, ox_B_s, ox_g_t, ox_A_s, ox_push_s, ox_push_n, ox_some, ox_z0, ox_z1, iI_lt, iI_eq, iI_add, iI_sub, ig_at, if_true, if_false, if_pos, if_neg, lp_obj, a1]
        · rw [if_neg c4] at hn ⊢
          have a1 := k0_decimal hb hl n0 (by omega) v1 hn
          have sd := eX0_appendValue_1_d (v0 := .ref o) (v1 := .int (iI v)) (v2 := .int (iI s)) (x := iI s) (st := []) (h := lput h o X) (by rw [iI_toInt (by omega) (by omega)]; omega)
          simp (disch := omega) only [eX0_appendValue_0, eX0_appendValue_1_k1, eX0_appendValue_1_k2, eX0_appendValue_1_k3, eX0_appendValue_1_k4, eX0_appendValue_32, eX0_appendValue_33, eX0_appendValue_34, eX0_appendValue_36, eX0_appendValue_39, eX0_appendValue_42, eX0_appendValue_43, eX0_appendValue_44, eX0_appendValue_46, eX0_appendValue_49, eX0_appendValue_52, eX0_appendValue_53, eX0_appendValue_54, eX0_appendValue_55, eX0_appendValue_58, eX0_appendValue_61, eX0_appendValue_62, eX0_appendValue_63, eX0_appendValue_65, eX0_appendValue_68, eX0_appendValue_71, eX0_appendValue_72, eX0_appendValue_73, eX0_appendValue_76, ox_O_s, ox_B_s, ox_g_t, ox_A_s, ox_push_s, ox_push_n, ox_some, ox_z0, ox_z1, iI_lt, iI_eq, iI_add, iI_sub, ig_at, if_true, if_false, if_pos, if_neg, sd, lp_obj, a1]
