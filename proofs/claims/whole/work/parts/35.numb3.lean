/-! The number of a heading, by the reference. -/
def laY (Y : ol) (c : Int) : ol := nset (oset Y 5 (iu (Y.2 5) (Y.1 3) c)) 3 (Y.1 3 + 1)
def laS (Y : ol) (bs : List Int) : ol := bs.foldl laY Y
theorem laS_nil (Y : ol) : laS Y [] = Y := rfl
theorem laS_cons (Y : ol) (b : Int) (bs : List Int) : laS Y (b :: bs) = laS (laY Y b) bs := rfl
theorem laS_app (Y : ol) (a b : List Int) : laS Y (a ++ b) = laS (laS Y a) b := by unfold laS; rw [List.foldl_append]
theorem laY_n (Y : ol) (b : Int) : (laY Y b).1 3 = Y.1 3 + 1 := rfl
theorem laY_l (Y : ol) (b : Int) : ((laY Y b).2 5).length = (Y.2 5).length := iu_len _ _ _
theorem laY_k (Y : ol) (b : Int) : (∀ j, j ≠ 3 → (laY Y b).1 j = Y.1 j) ∧ ∀ j, j ≠ 5 → (laY Y b).2 j = Y.2 j := ⟨fun j h => by show (if j = 3 then _ else Y.1 j) = _; rw [if_neg h], fun j h => by show (if j = 5 then _ else Y.2 j) = _; rw [if_neg h]⟩
theorem laS_n : ∀ (bs : List Int) (Y : ol), (laS Y bs).1 3 = Y.1 3 + bs.length
  | [], Y => by simp [laS]
  | b :: bs, Y => by rw [laS_cons, laS_n bs, laY_n]; simp; omega
theorem laS_l : ∀ (bs : List Int) (Y : ol), ((laS Y bs).2 5).length = (Y.2 5).length
  | [], Y => rfl
  | b :: bs, Y => by rw [laS_cons, laS_l bs, laY_l]
theorem laS_k : ∀ (bs : List Int) (Y : ol), (∀ j, j ≠ 3 → (laS Y bs).1 j = Y.1 j) ∧ ∀ j, j ≠ 5 → (laS Y bs).2 j = Y.2 j
  | [], Y => ⟨fun _ _ => rfl, fun _ _ => rfl⟩
  | b :: bs, Y => by
    rw [laS_cons]
    have i1 := laS_k bs (laY Y b)
    have i2 := laY_k Y b
    exact ⟨fun j h => (i1.1 j h).trans (i2.1 j h), fun j h => (i1.2 j h).trans (i2.2 j h)⟩
theorem k3_lay {h : ox_H} {m : Nat} {Y : ol} (hb : m + 6 < h.length) (hl : (Y.2 5).length = 120) (n0 : 0 ≤ Y.1 3) (n1 : Y.1 3 < 120) {c : Int} : oe 118 0 [.ref m, .int (iI c)] [] (mput h m Y) = some (none, mput h m (laY Y c)) := by
  simp (disch := omega) only [eX3_lay_0, eX3_lay_1, eX3_lay_4, eX3_lay_5, eX3_lay_8, eX3_lay_9, eX3_lay_10, eX3_lay_11, eX3_lay_12, eX3_lay_15, eX3_lay_16, eX3_lay_17, eX3_lay_20, ox_O_s, ox_B_s, ox_g_t, ox_A_s, ox_push_s, ox_push_n, ox_some, ox_z0, ox_z1, iI_lt, iI_eq, iI_add, iI_sub, ig_at, if_true, if_false, if_pos, if_neg, mp_obj, mp_f0, mp_f1, mp_f2, mp_f3, mp_f4, mp_f5, mp_f6, mp_f7, mp_f8, mp_f9, mp_i0, mp_i1, mp_i2, mp_i3, mp_i4, mp_i5, mp_j0, mp_j1, mp_j2, mp_j3, mp_j4, mp_j5, mp_s0, mp_s1, mp_s2, mp_s3, mp_s4, mp_s5, mp_w2, mp_w4, mp_w6, mp_w9, oa_gl, ma_gl, ig_set, os_2, os_1, ns_1, ns_2, os_os, ns_ns]
  rfl
theorem k3_decimal {h : ox_H} {m : Nat} {Y : ol} (hb : m + 6 < h.length) (hl : (Y.2 5).length = 120) (n0 : 0 ≤ Y.1 3) (n1 : Y.1 3 ≤ 100) {v : Int} (v0 : 0 ≤ v) (v1 : v ≤ 99) : oe 119 0 [.ref m, .int (iI v)] [] (mput h m Y) = some (none, mput h m (laS Y (txD v))) := by
  unfold txD
  by_cases c : 10 ≤ v
  · rw [if_pos c]
    have a1 := k3_lay hb hl n0 (by omega) (c := 48 + v / 10)
    have a2 := k3_lay (Y := laY Y (48 + v / 10)) hb (by rw [laY_l]; exact hl) (by rw [laY_n]; omega) (by rw [laY_n]; omega) (c := 48 + (v - v / 10 * 10))
    simp (disch := omega) only [eX3_layDecimal_0, eX3_layDecimal_1, eX3_layDecimal_3, eX3_layDecimal_6, eX3_layDecimal_7, eX3_layDecimal_9, eX3_layDecimal_10, eX3_layDecimal_12, eX3_layDecimal_13, eX3_layDecimal_14, eX3_layDecimal_17, eX3_layDecimal_18, eX3_layDecimal_20, eX3_layDecimal_21, eX3_layDecimal_23, eX3_layDecimal_24, eX3_layDecimal_25, eX3_layDecimal_28, ox_O_s, ox_B_s, ox_g_t, ox_A_s, ox_push_s, ox_push_n, ox_some, ox_z0, ox_z1, iI_lt, iI_eq, iI_add, iI_sub, ig_at, if_true, if_false, if_pos, if_neg, mp_obj, iI_div, iI_mul, ox_nz10, a1, a2]
    rfl
  · rw [if_neg c]
    have a1 := k3_lay hb hl n0 (by omega) (c := 48 + (v - v / 10 * 10))
    simp (disch := omega) only [eX3_layDecimal_0, eX3_layDecimal_1, eX3_layDecimal_3, eX3_layDecimal_6, eX3_layDecimal_7, eX3_layDecimal_9, eX3_layDecimal_10, eX3_layDecimal_12, eX3_layDecimal_13, eX3_layDecimal_14, eX3_layDecimal_17, eX3_layDecimal_18, eX3_layDecimal_20, eX3_layDecimal_21, eX3_layDecimal_23, eX3_layDecimal_24, eX3_layDecimal_25, eX3_layDecimal_28, ox_O_s, ox_B_s, ox_g_t, ox_A_s, ox_push_s, ox_push_n, ox_some, ox_z0, ox_z1, iI_lt, iI_eq, iI_add, iI_sub, ig_at, if_true, if_false, if_pos, if_neg, mp_obj, iI_div, iI_mul, ox_nz10, a1]
    rfl
theorem k3_letters {h : ox_H} {m : Nat} {Y : ol} (hb : m + 6 < h.length) (hl : (Y.2 5).length = 120) (n0 : 0 ≤ Y.1 3) (n1 : Y.1 3 ≤ 100) {v f : Int} (v0 : 1 ≤ v) (v1 : v ≤ 99) : oe 120 0 [.ref m, .int (iI v), .int (iI f), .null] [] (mput h m Y) = some (none, mput h m (laS Y (txL v f))) := by
  unfold txL
  by_cases c : 0 < (v - 1) / 26
  · rw [if_pos c]
    have a1 := k3_lay hb hl n0 (by omega) (c := f + (v - 1) / 26 - 1)
    have a2 := k3_lay (Y := laY Y (f + (v - 1) / 26 - 1)) hb (by rw [laY_l]; exact hl) (by rw [laY_n]; omega) (by rw [laY_n]; omega) (c := f + (v - 1 - (v - 1) / 26 * 26))
    simp (disch := omega) only [eX3_layLetters_0, eX3_layLetters_1, eX3_layLetters_2, eX3_layLetters_3, eX3_layLetters_4, eX3_layLetters_5, eX3_layLetters_7, eX3_layLetters_10, eX3_layLetters_11, eX3_layLetters_12, eX3_layLetters_13, eX3_layLetters_15, eX3_layLetters_16, eX3_layLetters_17, eX3_layLetters_18, eX3_layLetters_19, eX3_layLetters_22, eX3_layLetters_23, eX3_layLetters_24, eX3_layLetters_25, eX3_layLetters_27, eX3_layLetters_28, eX3_layLetters_29, eX3_layLetters_32, ox_O_s, ox_B_s, ox_g_t, ox_A_s, ox_push_s, ox_push_n, ox_some, ox_z0, ox_z1, iI_lt, iI_eq, iI_add, iI_sub, ig_at, if_true, if_false, if_pos, if_neg, mp_obj, iI_div, iI_mul, ox_nz26, a1, a2]
    rfl
  · rw [if_neg c]
    have a1 := k3_lay hb hl n0 (by omega) (c := f + (v - 1 - (v - 1) / 26 * 26))
    simp (disch := omega) only [eX3_layLetters_0, eX3_layLetters_1, eX3_layLetters_2, eX3_layLetters_3, eX3_layLetters_4, eX3_layLetters_5, eX3_layLetters_7, eX3_layLetters_10, eX3_layLetters_11, eX3_layLetters_12, eX3_layLetters_13, eX3_layLetters_15, eX3_layLetters_16, eX3_layLetters_17, eX3_layLetters_18, eX3_layLetters_19, eX3_layLetters_22, eX3_layLetters_23, eX3_layLetters_24, eX3_layLetters_25, eX3_layLetters_27, eX3_layLetters_28, eX3_layLetters_29, eX3_layLetters_32, ox_O_s, ox_B_s, ox_g_t, ox_A_s, ox_push_s, ox_push_n, ox_some, ox_z0, ox_z1, iI_lt, iI_eq, iI_add, iI_sub, ig_at, if_true, if_false, if_pos, if_neg, mp_obj, iI_div, iI_mul, ox_nz26, a1]
    rfl
theorem k3_rl_loop {h : ox_H} {m : Nat} (hb : m + 6 < h.length) {a e : Int} (v1 v3 v4 : Value) : ∀ (k : Nat) (Y : ol), k ≤ 9 → (Y.2 5).length = 120 → 0 ≤ Y.1 3 → Y.1 3 + k ≤ 110 → oe 121 62 [.ref m, v1, .int (iI a), v3, v4, .int (iI e), .int (iI k)] [] (mput h m Y) = some (none, mput h m (laS Y (List.replicate k (a + e)))) := by
  intro k
  induction k with
  | zero =>
    intro Y hk hl n0 n1
    rw [eX3_layRoman_62]
    simp (disch := omega) only [eX3_layRoman_0, eX3_layRoman_1, eX3_layRoman_3, eX3_layRoman_5, eX3_layRoman_7, eX3_layRoman_10, eX3_layRoman_12, eX3_layRoman_13, eX3_layRoman_16, eX3_layRoman_17, eX3_layRoman_18, eX3_layRoman_20, eX3_layRoman_21, eX3_layRoman_24, eX3_layRoman_25, eX3_layRoman_27, eX3_layRoman_29, eX3_layRoman_32, eX3_layRoman_34, eX3_layRoman_37, eX3_layRoman_38, eX3_layRoman_40, eX3_layRoman_41, eX3_layRoman_44, eX3_layRoman_45, eX3_layRoman_47, eX3_layRoman_48, eX3_layRoman_51, eX3_layRoman_52, eX3_layRoman_53, eX3_layRoman_55, eX3_layRoman_56, eX3_layRoman_59, eX3_layRoman_64, eX3_layRoman_67, eX3_layRoman_68, eX3_layRoman_69, eX3_layRoman_71, eX3_layRoman_72, eX3_layRoman_75, eX3_layRoman_78, eX3_layRoman_81, ox_O_s, ox_B_s, ox_g_t, ox_A_s, ox_push_s, ox_push_n, ox_some, ox_z0, ox_z1, iI_lt, iI_eq, iI_add, iI_sub, ig_at, if_true, if_false, if_pos, if_neg]
    rfl
  | succ k ih =>
    intro Y hk hl n0 n1
    have a1 := k3_lay hb hl n0 (by omega) (c := a + e)
    have i1 := ih (laY Y (a + e)) (by omega) (by rw [laY_l]; exact hl) (by rw [laY_n]; omega) (by rw [laY_n]; omega)
    rw [eX3_layRoman_62, List.replicate_succ, laS_cons]
    simp (disch := omega) only [eX3_layRoman_0, eX3_layRoman_1, eX3_layRoman_3, eX3_layRoman_5, eX3_layRoman_7, eX3_layRoman_10, eX3_layRoman_12, eX3_layRoman_13, eX3_layRoman_16, eX3_layRoman_17, eX3_layRoman_18, eX3_layRoman_20, eX3_layRoman_21, eX3_layRoman_24, eX3_layRoman_25, eX3_layRoman_27, eX3_layRoman_29, eX3_layRoman_32, eX3_layRoman_34, eX3_layRoman_37, eX3_layRoman_38, eX3_layRoman_40, eX3_layRoman_41, eX3_layRoman_44, eX3_layRoman_45, eX3_layRoman_47, eX3_layRoman_48, eX3_layRoman_51, eX3_layRoman_52, eX3_layRoman_53, eX3_layRoman_55, eX3_layRoman_56, eX3_layRoman_59, eX3_layRoman_64, eX3_layRoman_67, eX3_layRoman_68, eX3_layRoman_69, eX3_layRoman_71, eX3_layRoman_72, eX3_layRoman_75, eX3_layRoman_78, eX3_layRoman_81, ox_O_s, ox_B_s, ox_g_t, ox_A_s, ox_push_s, ox_push_n, ox_some, ox_z0, ox_z1, iI_lt, iI_eq, iI_add, iI_sub, ig_at, if_true, if_false, if_pos, if_neg, mp_obj, a1]
    rw [show ((k + 1 : Nat) : Int) + -1 = (k : Int) by omega]
    exact i1
def lrF (d a b c e : Int) : List Int := if d = 9 then [a + e, c + e] else if d = 4 then [a + e, b + e] else if 4 < d then (b + e) :: List.replicate (d - 5).toNat (a + e) else List.replicate d.toNat (a + e)
theorem k3_roman {h : ox_H} {m : Nat} {Y : ol} (hb : m + 6 < h.length) (hl : (Y.2 5).length = 120) (n0 : 0 ≤ Y.1 3) (n1 : Y.1 3 ≤ 100) {d a b c e : Int} (d0 : 0 ≤ d) (d1 : d ≤ 9) : oe 121 0 [.ref m, .int (iI d), .int (iI a), .int (iI b), .int (iI c), .int (iI e), .null] [] (mput h m Y) = some (none, mput h m (laS Y (lrF d a b c e))) := by
  unfold lrF
  by_cases c9 : d = 9
  · rw [if_pos c9]
    have a1 := k3_lay hb hl n0 (by omega) (c := a + e)
    have a2 := k3_lay (Y := laY Y (a + e)) hb (by rw [laY_l]; exact hl) (by rw [laY_n]; omega) (by rw [laY_n]; omega) (c := c + e)
    simp (disch := omega) only [eX3_layRoman_0, eX3_layRoman_1, eX3_layRoman_3, eX3_layRoman_5, eX3_layRoman_7, eX3_layRoman_10, eX3_layRoman_12, eX3_layRoman_13, eX3_layRoman_16, eX3_layRoman_17, eX3_layRoman_18, eX3_layRoman_20, eX3_layRoman_21, eX3_layRoman_24, eX3_layRoman_25, eX3_layRoman_27, eX3_layRoman_29, eX3_layRoman_32, eX3_layRoman_34, eX3_layRoman_37, eX3_layRoman_38, eX3_layRoman_40, eX3_layRoman_41, eX3_layRoman_44, eX3_layRoman_45, eX3_layRoman_47, eX3_layRoman_48, eX3_layRoman_51, eX3_layRoman_52, eX3_layRoman_53, eX3_layRoman_55, eX3_layRoman_56, eX3_layRoman_59, eX3_layRoman_64, eX3_layRoman_67, eX3_layRoman_68, eX3_layRoman_69, eX3_layRoman_71, eX3_layRoman_72, eX3_layRoman_75, eX3_layRoman_78, eX3_layRoman_81, ox_O_s, ox_B_s, ox_g_t, ox_A_s, ox_push_s, ox_push_n, ox_some, ox_z0, ox_z1, iI_lt, iI_eq, iI_add, iI_sub, ig_at, if_true, if_false, if_pos, if_neg, mp_obj, a1, a2]
    rfl
  · rw [if_neg c9]
    by_cases c4 : d = 4
    · rw [if_pos c4]
      have a1 := k3_lay hb hl n0 (by omega) (c := a + e)
      have a2 := k3_lay (Y := laY Y (a + e)) hb (by rw [laY_l]; exact hl) (by rw [laY_n]; omega) (by rw [laY_n]; omega) (c := b + e)
      simp (disch := omega) only [eX3_layRoman_0, eX3_layRoman_1, eX3_layRoman_3, eX3_layRoman_5, eX3_layRoman_7, eX3_layRoman_10, eX3_layRoman_12, eX3_layRoman_13, eX3_layRoman_16, eX3_layRoman_17, eX3_layRoman_18, eX3_layRoman_20, eX3_layRoman_21, eX3_layRoman_24, eX3_layRoman_25, eX3_layRoman_27, eX3_layRoman_29, eX3_layRoman_32, eX3_layRoman_34, eX3_layRoman_37, eX3_layRoman_38, eX3_layRoman_40, eX3_layRoman_41, eX3_layRoman_44, eX3_layRoman_45, eX3_layRoman_47, eX3_layRoman_48, eX3_layRoman_51, eX3_layRoman_52, eX3_layRoman_53, eX3_layRoman_55, eX3_layRoman_56, eX3_layRoman_59, eX3_layRoman_64, eX3_layRoman_67, eX3_layRoman_68, eX3_layRoman_69, eX3_layRoman_71, eX3_layRoman_72, eX3_layRoman_75, eX3_layRoman_78, eX3_layRoman_81, ox_O_s, ox_B_s, ox_g_t, ox_A_s, ox_push_s, ox_push_n, ox_some, ox_z0, ox_z1, iI_lt, iI_eq, iI_add, iI_sub, ig_at, if_true, if_false, if_pos, if_neg, mp_obj, a1, a2]
      rfl
    · rw [if_neg c4]
      by_cases c5 : 4 < d
      · rw [if_pos c5]
        have a1 := k3_lay hb hl n0 (by omega) (c := b + e)
        have lp := k3_rl_loop hb (a := a) (e := e) (.int (iI d)) (.int (iI b)) (.int (iI c)) (d - 5).toNat (laY Y (b + e)) (by omega) (by rw [laY_l]; exact hl) (by rw [laY_n]; omega) (by rw [laY_n]; omega)
        rw [show (((d - 5).toNat : Nat) : Int) = d - 5 by omega] at lp
        simp (disch := omega) only [eX3_layRoman_0, eX3_layRoman_1, eX3_layRoman_3, eX3_layRoman_5, eX3_layRoman_7, eX3_layRoman_10, eX3_layRoman_12, eX3_layRoman_13, eX3_layRoman_16, eX3_layRoman_17, eX3_layRoman_18, eX3_layRoman_20, eX3_layRoman_21, eX3_layRoman_24, eX3_layRoman_25, eX3_layRoman_27, eX3_layRoman_29, eX3_layRoman_32, eX3_layRoman_34, eX3_layRoman_37, eX3_layRoman_38, eX3_layRoman_40, eX3_layRoman_41, eX3_layRoman_44, eX3_layRoman_45, eX3_layRoman_47, eX3_layRoman_48, eX3_layRoman_51, eX3_layRoman_52, eX3_layRoman_53, eX3_layRoman_55, eX3_layRoman_56, eX3_layRoman_59, eX3_layRoman_64, eX3_layRoman_67, eX3_layRoman_68, eX3_layRoman_69, eX3_layRoman_71, eX3_layRoman_72, eX3_layRoman_75, eX3_layRoman_78, eX3_layRoman_81, ox_O_s, ox_B_s, ox_g_t, ox_A_s, ox_push_s, ox_push_n, ox_some, ox_z0, ox_z1, iI_lt, iI_eq, iI_add, iI_sub, ig_at, if_true, if_false, if_pos, if_neg, mp_obj, a1]
        rw [show d + -5 = d - 5 by omega]
        exact lp
      · rw [if_neg c5]
        have lp := k3_rl_loop hb (a := a) (e := e) (.int (iI d)) (.int (iI b)) (.int (iI c)) d.toNat Y (by omega) hl n0 (by omega)
        rw [show ((d.toNat : Nat) : Int) = d by omega] at lp
        simp (disch := omega) only [eX3_layRoman_0, eX3_layRoman_1, eX3_layRoman_3, eX3_layRoman_5, eX3_layRoman_7, eX3_layRoman_10, eX3_layRoman_12, eX3_layRoman_13, eX3_layRoman_16, eX3_layRoman_17, eX3_layRoman_18, eX3_layRoman_20, eX3_layRoman_21, eX3_layRoman_24, eX3_layRoman_25, eX3_layRoman_27, eX3_layRoman_29, eX3_layRoman_32, eX3_layRoman_34, eX3_layRoman_37, eX3_layRoman_38, eX3_layRoman_40, eX3_layRoman_41, eX3_layRoman_44, eX3_layRoman_45, eX3_layRoman_47, eX3_layRoman_48, eX3_layRoman_51, eX3_layRoman_52, eX3_layRoman_53, eX3_layRoman_55, eX3_layRoman_56, eX3_layRoman_59, eX3_layRoman_64, eX3_layRoman_67, eX3_layRoman_68, eX3_layRoman_69, eX3_layRoman_71, eX3_layRoman_72, eX3_layRoman_75, eX3_layRoman_78, eX3_layRoman_81, ox_O_s, ox_B_s, ox_g_t, ox_A_s, ox_push_s, ox_push_n, ox_some, ox_z0, ox_z1, iI_lt, iI_eq, iI_add, iI_sub, ig_at, if_true, if_false, if_pos, if_neg, mp_obj]
        exact lp
theorem tx_rom : ∀ v : Nat, v < 100 → (txR v 0 = lrF ((v : Int) / 10) 120 108 99 0 ++ lrF ((v : Int) - (v : Int) / 10 * 10) 105 118 120 0) ∧ txR v (-32) = lrF ((v : Int) / 10) 120 108 99 (-32) ++ lrF ((v : Int) - (v : Int) / 10 * 10) 105 118 120 (-32) := by decide +kernel
theorem lrF_len : ∀ d : Nat, d < 10 → ∀ a b c e : Int, (lrF d a b c e).length ≤ 4 := by
  intro d hd a b c e
  unfold lrF
  split
  · simp
  · split
    · simp
    · split
      · simp; omega
      · simp; omega
theorem k3_layValue {h : ox_H} {m : Nat} {Y : ol} (hb : m + 6 < h.length) (hl : (Y.2 5).length = 120) (n0 : 0 ≤ Y.1 3) (n1 : Y.1 3 ≤ 90) {v s : Int} (v0 : 1 ≤ v) (v1 : v ≤ 99) (s0 : 0 ≤ s) (s1 : s ≤ 4) : oe 122 0 [.ref m, .int (iI v), .int (iI s), .null] [] (mput h m Y) = some (none, mput h m (laS Y (txV v s))) := by
  unfold txV
  by_cases c1 : s = 1
  · subst c1
    rw [if_pos rfl]
    have a1 := k3_letters hb hl n0 (by omega) (f := 97) v0 v1
    simp (disch := omega) only [eX3_layValue_0, eX3_layValue_1_k0, eX3_layValue_1_k1, eX3_layValue_1_k2, eX3_layValue_28, eX3_layValue_29, eX3_layValue_30, eX3_layValue_33, eX3_layValue_36, eX3_layValue_37, eX3_layValue_38, eX3_layValue_40, eX3_layValue_43, eX3_layValue_46, eX3_layValue_47, eX3_layValue_48, eX3_layValue_50, eX3_layValue_53, eX3_layValue_56, eX3_layValue_57, eX3_layValue_58, eX3_layValue_61, eX3_layValue_62, eX3_layValue_65, eX3_layValue_67, eX3_layValue_68, eX3_layValue_69, eX3_layValue_70, eX3_layValue_72, eX3_layValue_73, eX3_layValue_75, eX3_layValue_77, eX3_layValue_79, eX3_layValue_80, eX3_layValue_83, eX3_layValue_84, eX3_layValue_85, eX3_layValue_87, eX3_layValue_88, eX3_layValue_90, eX3_layValue_92, eX3_layValue_94, eX3_layValue_95, eX3_layValue_98, ox_O_s, ox_B_s, ox_g_t, ox_A_s, ox_push_s, ox_push_n, ox_some, ox_z0, ox_z1, iI_lt, iI_eq, iI_add, iI_sub, ig_at, if_true, if_false, if_pos, if_neg, mp_obj, a1]
  · rw [if_neg c1]
    by_cases c2 : s = 2
    · subst c2
      rw [if_pos rfl]
      have a1 := k3_letters hb hl n0 (by omega) (f := 65) v0 v1
      simp (disch := omega) only [eX3_layValue_0, eX3_layValue_1_k0, eX3_layValue_1_k1, eX3_layValue_1_k2, eX3_layValue_28, eX3_layValue_29, eX3_layValue_30, eX3_layValue_33, eX3_layValue_36, eX3_layValue_37, eX3_layValue_38, eX3_layValue_40, eX3_layValue_43, eX3_layValue_46, eX3_layValue_47, eX3_layValue_48, eX3_layValue_50, eX3_layValue_53, eX3_layValue_56, eX3_layValue_57, eX3_layValue_58, eX3_layValue_61, eX3_layValue_62, eX3_layValue_65, eX3_layValue_67, eX3_layValue_68, eX3_layValue_69, eX3_layValue_70, eX3_layValue_72, eX3_layValue_73, eX3_layValue_75, eX3_layValue_77, eX3_layValue_79, eX3_layValue_80, eX3_layValue_83, eX3_layValue_84, eX3_layValue_85, eX3_layValue_87, eX3_layValue_88, eX3_layValue_90, eX3_layValue_92, eX3_layValue_94, eX3_layValue_95, eX3_layValue_98, ox_O_s, ox_B_s, ox_g_t, ox_A_s, ox_push_s, ox_push_n, ox_some, ox_z0, ox_z1, iI_lt, iI_eq, iI_add, iI_sub, ig_at, if_true, if_false, if_pos, if_neg, mp_obj, a1]
    · rw [if_neg c2]
      obtain ⟨j, rfl⟩ : ∃ j : Nat, v = j := ⟨v.toNat, by omega⟩
      have htr := tx_rom j (by omega)
      by_cases c3 : s = 3
      · subst c3
        rw [if_pos rfl, htr.1, laS_app]
        have a1 := k3_roman hb hl n0 (by omega) (d := (j : Int) / 10) (a := 120) (b := 108) (c := 99) (e := 0) (by omega) (by omega)
        have hln := lrF_len ((j : Int) / 10).toNat (by omega) 120 108 99 0
        rw [show ((((j : Int) / 10).toNat : Nat) : Int) = (j : Int) / 10 by omega] at hln
        have a2 := k3_roman (Y := laS Y (lrF ((j : Int) / 10) 120 108 99 0)) hb (by rw [laS_l]; exact hl) (by rw [laS_n]; omega) (by rw [laS_n]; omega) (d := (j : Int) - (j : Int) / 10 * 10) (a := 105) (b := 118) (c := 120) (e := 0) (by omega) (by omega)
        have sd := eX3_layValue_1_d (v0 := .ref m) (v1 := .int (iI (j : Int))) (v2 := .int (iI 3)) (v3 := .null) (x := iI 3) (st := []) (h := mput h m Y) (by decide)
        simp (disch := omega) only [eX3_layValue_0, eX3_layValue_1_k0, eX3_layValue_1_k1, eX3_layValue_1_k2, eX3_layValue_28, eX3_layValue_29, eX3_layValue_30, eX3_layValue_33, eX3_layValue_36, eX3_layValue_37, eX3_layValue_38, eX3_layValue_40, eX3_layValue_43, eX3_layValue_46, eX3_layValue_47, eX3_layValue_48, eX3_layValue_50, eX3_layValue_53, eX3_layValue_56, eX3_layValue_57, eX3_layValue_58, eX3_layValue_61, eX3_layValue_62, eX3_layValue_65, eX3_layValue_67, eX3_layValue_68, eX3_layValue_69, eX3_layValue_70, eX3_layValue_72, eX3_layValue_73, eX3_layValue_75, eX3_layValue_77, eX3_layValue_79, eX3_layValue_80, eX3_layValue_83, eX3_layValue_84, eX3_layValue_85, eX3_layValue_87, eX3_layValue_88, eX3_layValue_90, eX3_layValue_92, eX3_layValue_94, eX3_layValue_95, eX3_layValue_98, ox_O_s, ox_B_s, ox_g_t, ox_A_s, ox_push_s, ox_push_n, ox_some, ox_z0, ox_z1, iI_lt, iI_eq, iI_add, iI_sub, ig_at, if_true, if_false, if_pos, if_neg, sd, mp_obj, iI_div, iI_mul, ox_nz10, a1, a2]
      · rw [if_neg c3]
        by_cases c4 : s = 4
        · subst c4
          rw [if_pos rfl, htr.2, laS_app]
          have a1 := k3_roman hb hl n0 (by omega) (d := (j : Int) / 10) (a := 120) (b := 108) (c := 99) (e := -32) (by omega) (by omega)
          have hln := lrF_len ((j : Int) / 10).toNat (by omega) 120 108 99 (-32)
          rw [show ((((j : Int) / 10).toNat : Nat) : Int) = (j : Int) / 10 by omega] at hln
          have a2 := k3_roman (Y := laS Y (lrF ((j : Int) / 10) 120 108 99 (-32))) hb (by rw [laS_l]; exact hl) (by rw [laS_n]; omega) (by rw [laS_n]; omega) (d := (j : Int) - (j : Int) / 10 * 10) (a := 105) (b := 118) (c := 120) (e := -32) (by omega) (by omega)
          have sd := eX3_layValue_1_d (v0 := .ref m) (v1 := .int (iI (j : Int))) (v2 := .int (iI 4)) (v3 := .null) (x := iI 4) (st := []) (h := mput h m Y) (by decide)
          simp (disch := omega) only [eX3_layValue_0, eX3_layValue_1_k0, eX3_layValue_1_k1, eX3_layValue_1_k2, eX3_layValue_28, eX3_layValue_29, eX3_layValue_30, eX3_layValue_33, eX3_layValue_36, eX3_layValue_37, eX3_layValue_38, eX3_layValue_40, eX3_layValue_43, eX3_layValue_46, eX3_layValue_47, eX3_layValue_48, eX3_layValue_50, eX3_layValue_53, eX3_layValue_56, eX3_layValue_57, eX3_layValue_58, eX3_layValue_61, eX3_layValue_62, eX3_layValue_65, eX3_layValue_67, eX3_layValue_68, eX3_layValue_69, eX3_layValue_70, eX3_layValue_72, eX3_layValue_73, eX3_layValue_75, eX3_layValue_77, eX3_layValue_79, eX3_layValue_80, eX3_layValue_83, eX3_layValue_84, eX3_layValue_85, eX3_layValue_87, eX3_layValue_88, eX3_layValue_90, eX3_layValue_92, eX3_layValue_94, eX3_layValue_95, eX3_layValue_98, ox_O_s, ox_B_s, ox_g_t, ox_A_s, ox_push_s, ox_push_n, ox_some, ox_z0, ox_z1, iI_lt, iI_eq, iI_add, iI_sub, ig_at, if_true, if_false, if_pos, if_neg, sd, mp_obj, iI_div, iI_mul, ox_nz10, a1, a2]
        · rw [if_neg c4]
          have e0 : s = 0 := by omega
          subst e0
          have a1 := k3_decimal hb hl n0 (by omega) (v := (j : Int)) (by omega) v1
          simp (disch := omega) only [eX3_layValue_0, eX3_layValue_1_k0, eX3_layValue_1_k1, eX3_layValue_1_k2, eX3_layValue_28, eX3_layValue_29, eX3_layValue_30, eX3_layValue_33, eX3_layValue_36, eX3_layValue_37, eX3_layValue_38, eX3_layValue_40, eX3_layValue_43, eX3_layValue_46, eX3_layValue_47, eX3_layValue_48, eX3_layValue_50, eX3_layValue_53, eX3_layValue_56, eX3_layValue_57, eX3_layValue_58, eX3_layValue_61, eX3_layValue_62, eX3_layValue_65, eX3_layValue_67, eX3_layValue_68, eX3_layValue_69, eX3_layValue_70, eX3_layValue_72, eX3_layValue_73, eX3_layValue_75, eX3_layValue_77, eX3_layValue_79, eX3_layValue_80, eX3_layValue_83, eX3_layValue_84, eX3_layValue_85, eX3_layValue_87, eX3_layValue_88, eX3_layValue_90, eX3_layValue_92, eX3_layValue_94, eX3_layValue_95, eX3_layValue_98, ox_O_s, ox_B_s, ox_g_t, ox_A_s, ox_push_s, ox_push_n, ox_some, ox_z0, ox_z1, iI_lt, iI_eq, iI_add, iI_sub, ig_at, if_true, if_false, if_pos, if_neg, mp_obj, a1]
theorem k3_ln_loop {h : ox_H} {m : Nat} {X Y : ol} (hR : Rel X (Y.2 0)) (hV : vx X) (hb : m + 6 < h.length) (hL : (Y.2 5).length = 120) (hL0 : Y.1 3 = 0) {p : Int} (p0 : 0 ≤ p) (p1 : p < X.1 0) : ∀ (k : Nat) (lv : Int) (acc : List Int) (v3 : Value), 1 ≤ lv → lv + k = lvA X p + 1 → (acc = [] ∨ (acc.length : Int) + 1 ≤ 9 * (lv - 1)) → oe 126 17 [.ref m, .int (iI p), .int (iI lv), v3] [] (mput h m (laS Y acc)) = some (some (.int (iI (nuF X p k lv acc).length)), mput h m (laS Y (nuF X p k lv acc))) := by
  have hn := hV.2.1
  have hlb := lvA_b hV p
  intro k
  induction k with
  | zero =>
    intro lv acc v3 l0 l1 hacc
    have hR' : Rel X ((laS Y acc).2 0) := by rw [(laS_k acc Y).2 0 (by decide)]; exact hR
    have hl := k3_levelAt (ma_put (X := laS Y acc) hb) hR' hV p0 p1
    have hln := laS_n acc Y
    rw [eX3_layNumber_17]
    simp (disch := omega) only [eX3_layNumber_0, eX3_layNumber_1, eX3_layNumber_2, eX3_layNumber_5, eX3_layNumber_6, eX3_layNumber_7, eX3_layNumber_10, eX3_layNumber_13, eX3_layNumber_14, eX3_layNumber_15, eX3_layNumber_16, eX3_layNumber_18, eX3_layNumber_19, eX3_layNumber_20, eX3_layNumber_23, eX3_layNumber_26, eX3_layNumber_27, eX3_layNumber_28, eX3_layNumber_29, eX3_layNumber_32, eX3_layNumber_33, eX3_layNumber_34, eX3_layNumber_35, eX3_layNumber_38, eX3_layNumber_41, eX3_layNumber_42, eX3_layNumber_45, eX3_layNumber_48, eX3_layNumber_49, eX3_layNumber_51, eX3_layNumber_54, eX3_layNumber_55, eX3_layNumber_56, eX3_layNumber_57, eX3_layNumber_60, eX3_layNumber_61, eX3_layNumber_62, eX3_layNumber_65, eX3_layNumber_68, eX3_layNumber_71, eX3_layNumber_74, eX3_layNumber_75, eX3_layNumber_78, ox_O_s, ox_B_s, ox_g_t, ox_A_s, ox_push_s, ox_push_n, ox_some, ox_z0, ox_z1, iI_lt, iI_eq, iI_add, iI_sub, ig_at, if_true, if_false, if_pos, if_neg, mp_obj, mp_f0, mp_f1, mp_f2, mp_f3, mp_f4, mp_f5, mp_f6, mp_f7, mp_f8, mp_f9, mp_i0, mp_i1, mp_i2, mp_i3, mp_i4, mp_i5, mp_j0, mp_j1, mp_j2, mp_j3, mp_j4, mp_j5, mp_s0, mp_s1, mp_s2, mp_s3, mp_s4, mp_s5, mp_w2, mp_w4, mp_w6, mp_w9, oa_gl, ma_gl, ig_set, os_2, os_1, ns_1, ns_2, os_os, ns_ns, hl, hln, hL0, Int.zero_add]
    rfl
  | succ k ih =>
    intro lv acc v3 l0 l1 hacc
    have hR' : Rel X ((laS Y acc).2 0) := by rw [(laS_k acc Y).2 0 (by decide)]; exact hR
    have hM' := ma_put (X := laS Y acc) hb
    have hl := k3_levelAt hM' hR' hV p0 p1
    have hg := pA_ge0 hV (show 1 < lv + 1 by omega) (by omega) (p + 1).toNat (by omega)
    have hpb := pA_b (lvA X) (lv + 1) (p + 1).toNat
    have han := k3_ancestorAt hM' hR' hV (p := p) (lv := lv) l0 (by omega) p0 p1
    have hnb := k3_isNumbered hM' hR' hV hg (show pA (lvA X) (lv + 1) (p + 1).toNat < X.1 0 by omega)
    have hva := k3_valueOf hM' hR' hV hg (show pA (lvA X) (lv + 1) (p + 1).toNat < X.1 0 by omega)
    have hsa := k3_schemeAt hM' hR' hV hg (show pA (lvA X) (lv + 1) (p + 1).toNat < X.1 0 by omega)
    have hlv := pA_lv hV l0 (p + 1).toNat (by omega) (by omega) (by rw [show (((p + 1).toNat : Nat) : Int) - 1 = p by omega]; omega)
    rw [hlv] at hsa
    have hsc := hV.2.2.2.2.2.2.2.2.2.1 lv l0 (by omega)
    have hln := laS_n acc Y
    have hll := laS_l acc Y
    rw [eX3_layNumber_17]
    unfold nuF
    have hnew := ih (lv + 1) (if nbX X (pA (lvA X) (lv + 1) (p + 1).toNat) = true then acc ++ ((if acc = [] then [] else [46]) ++ txV (vaX X (pA (lvA X) (lv + 1) (p + 1).toNat)) (ig (X.2 7) lv)) else acc) (.int (iI (pA (lvA X) (lv + 1) (p + 1).toNat))) (by omega) (by omega) (by
      have := nuF_len hV p0 p1 1 lv acc l0 (by omega) hacc
      unfold nuF nuF at this
      rw [show lv + ((1 : Nat) : Int) - 1 = lv + 1 - 1 by omega] at this
      exact this)
    cases q : nbX X (pA (lvA X) (lv + 1) (p + 1).toNat) with
    | false =>
      rw [q] at hnb hnew
      rw [if_neg (by decide)] at hnew ⊢
      simp (disch := omega) only [eX3_layNumber_0, eX3_layNumber_1, eX3_layNumber_2, eX3_layNumber_5, eX3_layNumber_6, eX3_layNumber_7, eX3_layNumber_10, eX3_layNumber_13, eX3_layNumber_14, eX3_layNumber_15, eX3_layNumber_16, eX3_layNumber_18, eX3_layNumber_19, eX3_layNumber_20, eX3_layNumber_23, eX3_layNumber_26, eX3_layNumber_27, eX3_layNumber_28, eX3_layNumber_29, eX3_layNumber_32, eX3_layNumber_33, eX3_layNumber_34, eX3_layNumber_35, eX3_layNumber_38, eX3_layNumber_41, eX3_layNumber_42, eX3_layNumber_45, eX3_layNumber_48, eX3_layNumber_49, eX3_layNumber_51, eX3_layNumber_54, eX3_layNumber_55, eX3_layNumber_56, eX3_layNumber_57, eX3_layNumber_60, eX3_layNumber_61, eX3_layNumber_62, eX3_layNumber_65, eX3_layNumber_68, eX3_layNumber_71, eX3_layNumber_74, eX3_layNumber_75, eX3_layNumber_78, ox_O_s, ox_B_s, ox_g_t, ox_A_s, ox_push_s, ox_push_n, ox_some, ox_z0, ox_z1, iI_lt, iI_eq, iI_add, iI_sub, ig_at, if_true, if_false, if_pos, if_neg, mp_obj, mp_f0, mp_f1, mp_f2, mp_f3, mp_f4, mp_f5, mp_f6, mp_f7, mp_f8, mp_f9, mp_i0, mp_i1, mp_i2, mp_i3, mp_i4, mp_i5, mp_j0, mp_j1, mp_j2, mp_j3, mp_j4, mp_j5, mp_s0, mp_s1, mp_s2, mp_s3, mp_s4, mp_s5, mp_w2, mp_w4, mp_w6, mp_w9, oa_gl, ma_gl, ig_set, os_2, os_1, ns_1, ns_2, os_os, ns_ns, hl, han, hnb, zb_f]
      exact hnew
    | true =>
      rw [q] at hnb hnew
      rw [if_pos rfl] at hnew ⊢
      have hv := vaX_pos hV hg (by omega) (nb_st q)
      have ht := txV_len (v := vaX X (pA (lvA X) (lv + 1) (p + 1).toNat)) (s := ig (X.2 7) lv) (by omega) (by omega)
      have hs5 : ig (X.2 7) lv ≤ 4 := by
        have h5 := q
        unfold nbX at h5
        rw [Bool.and_eq_true, hlv] at h5
        have := of_decide_eq_true h5.2
        omega
      by_cases z : acc = []
      · rw [if_pos z, List.nil_append] at hnew ⊢
        have z0 : acc.length = 0 := by rw [z]; rfl
        have av := k3_layValue (Y := laS Y acc) hb (by rw [hll]; exact hL) (by omega) (by omega) hv.1 hv.2 hsc.1 hs5
        rw [← laS_app] at av
        simp (disch := omega) only [eX3_layNumber_0, eX3_layNumber_1, eX3_layNumber_2, eX3_layNumber_5, eX3_layNumber_6, eX3_layNumber_7, eX3_layNumber_10, eX3_layNumber_13, eX3_layNumber_14, eX3_layNumber_15, eX3_layNumber_16, eX3_layNumber_18, eX3_layNumber_19, eX3_layNumber_20, eX3_layNumber_23, eX3_layNumber_26, eX3_layNumber_27, eX3_layNumber_28, eX3_layNumber_29, eX3_layNumber_32, eX3_layNumber_33, eX3_layNumber_34, eX3_layNumber_35, eX3_layNumber_38, eX3_layNumber_41, eX3_layNumber_42, eX3_layNumber_45, eX3_layNumber_48, eX3_layNumber_49, eX3_layNumber_51, eX3_layNumber_54, eX3_layNumber_55, eX3_layNumber_56, eX3_layNumber_57, eX3_layNumber_60, eX3_layNumber_61, eX3_layNumber_62, eX3_layNumber_65, eX3_layNumber_68, eX3_layNumber_71, eX3_layNumber_74, eX3_layNumber_75, eX3_layNumber_78, ox_O_s, ox_B_s, ox_g_t, ox_A_s, ox_push_s, ox_push_n, ox_some, ox_z0, ox_z1, iI_lt, iI_eq, iI_add, iI_sub, ig_at, if_true, if_false, if_pos, if_neg, mp_obj, mp_f0, mp_f1, mp_f2, mp_f3, mp_f4, mp_f5, mp_f6, mp_f7, mp_f8, mp_f9, mp_i0, mp_i1, mp_i2, mp_i3, mp_i4, mp_i5, mp_j0, mp_j1, mp_j2, mp_j3, mp_j4, mp_j5, mp_s0, mp_s1, mp_s2, mp_s3, mp_s4, mp_s5, mp_w2, mp_w4, mp_w6, mp_w9, oa_gl, ma_gl, ig_set, os_2, os_1, ns_1, ns_2, os_os, ns_ns, hl, han, hnb, hva, hsa, zb_t, hln, hL0, z0, av]
        exact hnew
      · have z1 : 1 ≤ acc.length := by
          cases acc with
          | nil => exact absurd rfl z
          | cons x xs => simp
        have hacc' := hacc.resolve_left z
        rw [if_neg z] at hnew ⊢
        have ap := k3_lay (Y := laS Y acc) hb (by rw [hll]; exact hL) (by omega) (by omega) (c := 46)
        have hR2 : Rel X ((laY (laS Y acc) 46).2 0) := hR'
        have hM2 := ma_put (X := laY (laS Y acc) 46) hb
        have hva2 := k3_valueOf hM2 hR2 hV hg (show pA (lvA X) (lv + 1) (p + 1).toNat < X.1 0 by omega)
        have hsa2 := k3_schemeAt hM2 hR2 hV hg (show pA (lvA X) (lv + 1) (p + 1).toNat < X.1 0 by omega)
        rw [hlv] at hsa2
        have av := k3_layValue (Y := laY (laS Y acc) 46) hb (by rw [laY_l, hll]; exact hL) (by rw [laY_n]; omega) (by rw [laY_n]; omega) hv.1 hv.2 hsc.1 hs5
        have e46 : laS (laY (laS Y acc) 46) (txV (vaX X (pA (lvA X) (lv + 1) (p + 1).toNat)) (ig (X.2 7) lv)) = laS Y (acc ++ ([46] ++ txV (vaX X (pA (lvA X) (lv + 1) (p + 1).toNat)) (ig (X.2 7) lv))) := by
          rw [laS_app, laS_app]
          rfl
        rw [e46] at av
        simp (disch := omega) only [eX3_layNumber_0, eX3_layNumber_1, eX3_layNumber_2, eX3_layNumber_5, eX3_layNumber_6, eX3_layNumber_7, eX3_layNumber_10, eX3_layNumber_13, eX3_layNumber_14, eX3_layNumber_15, eX3_layNumber_16, eX3_layNumber_18, eX3_layNumber_19, eX3_layNumber_20, eX3_layNumber_23, eX3_layNumber_26, eX3_layNumber_27, eX3_layNumber_28, eX3_layNumber_29, eX3_layNumber_32, eX3_layNumber_33, eX3_layNumber_34, eX3_layNumber_35, eX3_layNumber_38, eX3_layNumber_41, eX3_layNumber_42, eX3_layNumber_45, eX3_layNumber_48, eX3_layNumber_49, eX3_layNumber_51, eX3_layNumber_54, eX3_layNumber_55, eX3_layNumber_56, eX3_layNumber_57, eX3_layNumber_60, eX3_layNumber_61, eX3_layNumber_62, eX3_layNumber_65, eX3_layNumber_68, eX3_layNumber_71, eX3_layNumber_74, eX3_layNumber_75, eX3_layNumber_78, ox_O_s, ox_B_s, ox_g_t, ox_A_s, ox_push_s, ox_push_n, ox_some, ox_z0, ox_z1, iI_lt, iI_eq, iI_add, iI_sub, ig_at, if_true, if_false, if_pos, if_neg, mp_obj, mp_f0, mp_f1, mp_f2, mp_f3, mp_f4, mp_f5, mp_f6, mp_f7, mp_f8, mp_f9, mp_i0, mp_i1, mp_i2, mp_i3, mp_i4, mp_i5, mp_j0, mp_j1, mp_j2, mp_j3, mp_j4, mp_j5, mp_s0, mp_s1, mp_s2, mp_s3, mp_s4, mp_s5, mp_w2, mp_w4, mp_w6, mp_w9, oa_gl, ma_gl, ig_set, os_2, os_1, ns_1, ns_2, os_os, ns_ns, hl, han, hnb, hva2, hsa2, zb_t, hln, hL0, ap, av]
        exact hnew
theorem k3_layNumber {h : ox_H} {m : Nat} {X Y : ol} (hR : Rel X (Y.2 0)) (hV : vx X) (hb : m + 6 < h.length) (hL : (Y.2 5).length = 120) {p : Int} (p0 : 0 ≤ p) (p1 : p < X.1 0) : oe 126 0 [.ref m, .int (iI p), .null, .null] [] (mput h m Y) = some (some (.int (iI (numX X p).length)), mput h m (laS (nset Y 3 0) (numX X p))) := by
  have hR' : Rel X ((nset Y 3 0).2 0) := hR
  have hnb := k3_isNumbered (ma_put (X := nset Y 3 0) hb) hR' hV p0 p1
  have hlb := lvA_b hV p
  unfold numX
  cases q : nbX X p with
  | false =>
    rw [q] at hnb
    rw [if_neg (by decide)]
    simp (disch := omega) only [eX3_layNumber_0, eX3_layNumber_1, eX3_layNumber_2, eX3_layNumber_5, eX3_layNumber_6, eX3_layNumber_7, eX3_layNumber_10, eX3_layNumber_13, eX3_layNumber_14, eX3_layNumber_15, eX3_layNumber_16, eX3_layNumber_18, eX3_layNumber_19, eX3_layNumber_20, eX3_layNumber_23, eX3_layNumber_26, eX3_layNumber_27, eX3_layNumber_28, eX3_layNumber_29, eX3_layNumber_32, eX3_layNumber_33, eX3_layNumber_34, eX3_layNumber_35, eX3_layNumber_38, eX3_layNumber_41, eX3_layNumber_42, eX3_layNumber_45, eX3_layNumber_48, eX3_layNumber_49, eX3_layNumber_51, eX3_layNumber_54, eX3_layNumber_55, eX3_layNumber_56, eX3_layNumber_57, eX3_layNumber_60, eX3_layNumber_61, eX3_layNumber_62, eX3_layNumber_65, eX3_layNumber_68, eX3_layNumber_71, eX3_layNumber_74, eX3_layNumber_75, eX3_layNumber_78, ox_O_s, ox_B_s, ox_g_t, ox_A_s, ox_push_s, ox_push_n, ox_some, ox_z0, ox_z1, iI_lt, iI_eq, iI_add, iI_sub, ig_at, if_true, if_false, if_pos, if_neg, mp_obj, mp_f0, mp_f1, mp_f2, mp_f3, mp_f4, mp_f5, mp_f6, mp_f7, mp_f8, mp_f9, mp_i0, mp_i1, mp_i2, mp_i3, mp_i4, mp_i5, mp_j0, mp_j1, mp_j2, mp_j3, mp_j4, mp_j5, mp_s0, mp_s1, mp_s2, mp_s3, mp_s4, mp_s5, mp_w2, mp_w4, mp_w6, mp_w9, oa_gl, ma_gl, ig_set, os_2, os_1, ns_1, ns_2, os_os, ns_ns, hnb, zb_f]
    rfl
  | true =>
    rw [q] at hnb
    rw [if_pos rfl]
    have hk := k3_ln_loop (Y := nset Y 3 0) hR' hV hb hL rfl p0 p1 (lvA X p).toNat 1 [] .null (by omega) (by omega) (Or.inl rfl)
    rw [laS_nil] at hk
    simp (disch := omega) only [eX3_layNumber_0, eX3_layNumber_1, eX3_layNumber_2, eX3_layNumber_5, eX3_layNumber_6, eX3_layNumber_7, eX3_layNumber_10, eX3_layNumber_13, eX3_layNumber_14, eX3_layNumber_15, eX3_layNumber_16, eX3_layNumber_18, eX3_layNumber_19, eX3_layNumber_20, eX3_layNumber_23, eX3_layNumber_26, eX3_layNumber_27, eX3_layNumber_28, eX3_layNumber_29, eX3_layNumber_32, eX3_layNumber_33, eX3_layNumber_34, eX3_layNumber_35, eX3_layNumber_38, eX3_layNumber_41, eX3_layNumber_42, eX3_layNumber_45, eX3_layNumber_48, eX3_layNumber_49, eX3_layNumber_51, eX3_layNumber_54, eX3_layNumber_55, eX3_layNumber_56, eX3_layNumber_57, eX3_layNumber_60, eX3_layNumber_61, eX3_layNumber_62, eX3_layNumber_65, eX3_layNumber_68, eX3_layNumber_71, eX3_layNumber_74, eX3_layNumber_75, eX3_layNumber_78, ox_O_s, ox_B_s, ox_g_t, ox_A_s, ox_push_s, ox_push_n, ox_some, ox_z0, ox_z1, iI_lt, iI_eq, iI_add, iI_sub, ig_at, if_true, if_false, if_pos, if_neg, mp_obj, mp_f0, mp_f1, mp_f2, mp_f3, mp_f4, mp_f5, mp_f6, mp_f7, mp_f8, mp_f9, mp_i0, mp_i1, mp_i2, mp_i3, mp_i4, mp_i5, mp_j0, mp_j1, mp_j2, mp_j3, mp_j4, mp_j5, mp_s0, mp_s1, mp_s2, mp_s3, mp_s4, mp_s5, mp_w2, mp_w4, mp_w6, mp_w9, oa_gl, ma_gl, ig_set, os_2, os_1, ns_1, ns_2, os_os, ns_ns, hnb, zb_t]
    exact hk
