/-! The class's outline: methods that write, third part. -/
def cuF : Nat → Int → ol → ol
  | 0, _, X => X
  | k + 1, p, X => cuF k (p + 1) (drX (oset X 1 (iu (X.2 1) (ig (X.2 0) p) 0)) (ig (X.2 0) p))
def coF (d : Int) : Nat → Int → List Int → List Int
  | 0, _, l => l
  | k + 1, p, l => coF d k (p + 1) (iu l (p - d) (ig l p))
theorem coF_len {d : Int} : ∀ (k : Nat) (p : Int) (l : List Int), (coF d k p l).length = l.length
  | 0, _, _ => rfl
  | k + 1, p, l => by unfold coF; rw [coF_len k, iu_len]
def cuX (X : ol) (f t : Int) : ol := nset (oset (cuF (t - f).toNat f X) 0 (coF (t - f) (X.1 0 - t).toNat t (X.2 0))) 0 (X.1 0 - (t - f))
/-- only levels and references change -/
def cuS (X X' : ol) : Prop := (∀ j, j ≠ 2 → X'.1 j = X.1 j) ∧ (∀ j, j ≠ 1 → j ≠ 8 → j ≠ 9 → X'.2 j = X.2 j) ∧ (X'.2 1).length = (X.2 1).length
theorem cuS_rf (X : ol) : cuS X X := ⟨fun _ _ => rfl, fun _ _ _ _ => rfl, rfl⟩
theorem cuS_tr {X Y Z : ol} (a : cuS X Y) (b : cuS Y Z) : cuS X Z := ⟨fun j h => (b.1 j h).trans (a.1 j h), fun j h h' h'' => (b.2.1 j h h' h'').trans (a.2.1 j h h' h''), b.2.2.trans a.2.2⟩
theorem cuS_1 (X : ol) (z : Int) : cuS X (drX (oset X 1 (iu (X.2 1) z 0)) z) := by
  have hs := rfS_dr (z := z) ((oset X 1 (iu (X.2 1) z 0)).1 2).toNat (oset X 1 (iu (X.2 1) z 0))
  refine ⟨fun j h => hs.1 j h, fun j h h' h'' => ?_, ?_⟩
  · refine (hs.2.1 j h' h'').trans ?_
    show (if j = 1 then _ else X.2 j) = _
    rw [if_neg h]
  · rw [show (drX (oset X 1 (iu (X.2 1) z 0)) z).2 1 = (oset X 1 (iu (X.2 1) z 0)).2 1 from hs.2.1 1 (by decide) (by decide)]
    exact iu_len _ _ _
theorem k1_cu_loop1 {h : ox_H} {o : Nat} (hb : o + 10 < h.length) {to : Int} (t1 : to ≤ 30) (v1 : Value) : ∀ (k : Nat) (p : Int) (X : ol), 0 ≤ p → p + k = to → rfB X → (X.2 0).length = 30 → (X.2 1).length = 30 → (∀ q, 0 ≤ q → q < to → 0 ≤ ig (X.2 0) q ∧ ig (X.2 0) q < 30) → oe 37 2 [.ref o, v1, .int (iI to), .int (iI p)] [] (hput h o X) = oe 37 35 [.ref o, v1, .int (iI to), .int (iI to)] [] (hput h o (cuF k p X)) ∧ rfB (cuF k p X) ∧ cuS X (cuF k p X) := by
  intro k
  induction k with
  | zero =>
    intro p X a c hB l0 l1 hin
    refine ⟨?_, hB, cuS_rf X⟩
    rw [eX1_cut_2, show p = to by omega]
    simp (disch := omega) only [eX1_cut_3, eX1_cut_4, iI_lt, if_true, if_false, if_pos, if_neg]
    rfl
  | succ k ih =>
    intro p X a c hB l0 l1 hin
    have hi := hin p a (by omega)
    have hB1 : rfB (oset X 1 (iu (X.2 1) (ig (X.2 0) p) 0)) := hB
    have hd := k1_dropReferences hb hB1 hi.1 hi.2
    have hs := cuS_1 X (ig (X.2 0) p)
    have i1 := ih (p + 1) (drX (oset X 1 (iu (X.2 1) (ig (X.2 0) p) 0)) (ig (X.2 0) p)) (by omega) (by omega) hd.2 (by rw [hs.2.1 0 (by decide) (by decide) (by decide)]; exact l0) (by rw [hs.2.2]; exact l1) (by rw [hs.2.1 0 (by decide) (by decide) (by decide)]; exact hin)
    refine ⟨?_, i1.2.1, cuS_tr hs i1.2.2⟩
    unfold cuF
    rw [← i1.1, eX1_cut_2]
    have hd1 := hd.1
    simp (disch := omega) only [eX1_cut_0, eX1_cut_1, eX1_cut_3, eX1_cut_4, eX1_cut_7, eX1_cut_8, eX1_cut_11, eX1_cut_12, eX1_cut_15, eX1_cut_16, eX1_cut_17, eX1_cut_18, eX1_cut_19, eX1_cut_20, eX1_cut_21, eX1_cut_24, eX1_cut_25, eX1_cut_26, eX1_cut_29, eX1_cut_32, eX1_cut_35, eX1_cut_36, eX1_cut_38, eX1_cut_39, eX1_cut_42, eX1_cut_45, eX1_cut_46, eX1_cut_49, eX1_cut_50, eX1_cut_51, eX1_cut_52, eX1_cut_53, eX1_cut_54, eX1_cut_55, eX1_cut_58, eX1_cut_59, eX1_cut_60, eX1_cut_61, eX1_cut_64, eX1_cut_67, eX1_cut_68, eX1_cut_69, eX1_cut_72, eX1_cut_73, eX1_cut_74, eX1_cut_75, eX1_cut_76, eX1_cut_79, ox_O_s, ox_B_s, ox_g_t, ox_A_s, ox_push_s, ox_push_n, ox_some, ox_z0, ox_z1, iI_lt, iI_eq, iI_add, iI_sub, ig_at, if_true, if_false, if_pos, if_neg, hp_obj, hp_f0, hp_f1, hp_f2, hp_f3, hp_f4, hp_f5, hp_f6, hp_f7, hp_f8, hp_f9, hp_f10, hp_f11, hp_f12, hp_i0, hp_i1, hp_i2, hp_i3, hp_i4, hp_i5, hp_i6, hp_i7, hp_i8, hp_i9, hp_j0, hp_j1, hp_j2, hp_j3, hp_j4, hp_j5, hp_j6, hp_j7, hp_j8, hp_j9, hp_s0, hp_s1, hp_s2, hp_s3, hp_s4, hp_s5, hp_s6, hp_s7, hp_s8, hp_s9, hp_w0, hp_w9, hp_w10, oa_gl, ma_gl, ig_set, os_2, os_1, ns_1, ns_2, os_os, ns_ns, hd1]
theorem k1_cu_loop2 {h : ox_H} {o : Nat} {X : ol} (hb : o + 10 < h.length) {f t : Int} (f0 : 0 ≤ f) (f1 : f ≤ t) (t1 : t ≤ X.1 0) (n1 : X.1 0 ≤ 30) : ∀ (k : Nat) (p : Int) (l : List Int), t ≤ p → p + k = X.1 0 → l.length = 30 → oe 37 37 [.ref o, .int (iI f), .int (iI t), .int (iI p)] [] (hput h o (oset X 0 l)) = some (none, hput h o (nset (oset X 0 (coF (t - f) k p l)) 0 (X.1 0 - (t - f)))) := by
  intro k
  induction k with
  | zero =>
    intro p l a c hl
    rw [eX1_cut_37]
    simp (disch := omega) only [eX1_cut_0, eX1_cut_1, eX1_cut_3, eX1_cut_4, eX1_cut_7, eX1_cut_8, eX1_cut_11, eX1_cut_12, eX1_cut_15, eX1_cut_16, eX1_cut_17, eX1_cut_18, eX1_cut_19, eX1_cut_20, eX1_cut_21, eX1_cut_24, eX1_cut_25, eX1_cut_26, eX1_cut_29, eX1_cut_32, eX1_cut_35, eX1_cut_36, eX1_cut_38, eX1_cut_39, eX1_cut_42, eX1_cut_45, eX1_cut_46, eX1_cut_49, eX1_cut_50, eX1_cut_51, eX1_cut_52, eX1_cut_53, eX1_cut_54, eX1_cut_55, eX1_cut_58, eX1_cut_59, eX1_cut_60, eX1_cut_61, eX1_cut_64, eX1_cut_67, eX1_cut_68, eX1_cut_69, eX1_cut_72, eX1_cut_73, eX1_cut_74, eX1_cut_75, eX1_cut_76, eX1_cut_79, ox_O_s, ox_B_s, ox_g_t, ox_A_s, ox_push_s, ox_push_n, ox_some, ox_z0, ox_z1, iI_lt, iI_eq, iI_add, iI_sub, ig_at, if_true, if_false, if_pos, if_neg, hp_obj, hp_f0, hp_f1, hp_f2, hp_f3, hp_f4, hp_f5, hp_f6, hp_f7, hp_f8, hp_f9, hp_f10, hp_f11, hp_f12, hp_i0, hp_i1, hp_i2, hp_i3, hp_i4, hp_i5, hp_i6, hp_i7, hp_i8, hp_i9, hp_j0, hp_j1, hp_j2, hp_j3, hp_j4, hp_j5, hp_j6, hp_j7, hp_j8, hp_j9, hp_s0, hp_s1, hp_s2, hp_s3, hp_s4, hp_s5, hp_s6, hp_s7, hp_s8, hp_s9, hp_w0, hp_w9, hp_w10, oa_gl, ma_gl, ig_set, os_2, os_1, ns_1, ns_2, os_os, ns_ns]
    rfl
  | succ k ih =>
    intro p l a c hl
    rw [eX1_cut_37]
    simp (disch := omega) only [eX1_cut_0, eX1_cut_1, eX1_cut_3, eX1_cut_4, eX1_cut_7, eX1_cut_8, eX1_cut_11, eX1_cut_12, eX1_cut_15, eX1_cut_16, eX1_cut_17, eX1_cut_18, eX1_cut_19, eX1_cut_20, eX1_cut_21, eX1_cut_24, eX1_cut_25, eX1_cut_26, eX1_cut_29, eX1_cut_32, eX1_cut_35, eX1_cut_36, eX1_cut_38, eX1_cut_39, eX1_cut_42, eX1_cut_45, eX1_cut_46, eX1_cut_49, eX1_cut_50, eX1_cut_51, eX1_cut_52, eX1_cut_53, eX1_cut_54, eX1_cut_55, eX1_cut_58, eX1_cut_59, eX1_cut_60, eX1_cut_61, eX1_cut_64, eX1_cut_67, eX1_cut_68, eX1_cut_69, eX1_cut_72, eX1_cut_73, eX1_cut_74, eX1_cut_75, eX1_cut_76, eX1_cut_79, ox_O_s, ox_B_s, ox_g_t, ox_A_s, ox_push_s, ox_push_n, ox_some, ox_z0, ox_z1, iI_lt, iI_eq, iI_add, iI_sub, ig_at, if_true, if_false, if_pos, if_neg, hp_obj, hp_f0, hp_f1, hp_f2, hp_f3, hp_f4, hp_f5, hp_f6, hp_f7, hp_f8, hp_f9, hp_f10, hp_f11, hp_f12, hp_i0, hp_i1, hp_i2, hp_i3, hp_i4, hp_i5, hp_i6, hp_i7, hp_i8, hp_i9, hp_j0, hp_j1, hp_j2, hp_j3, hp_j4, hp_j5, hp_j6, hp_j7, hp_j8, hp_j9, hp_s0, hp_s1, hp_s2, hp_s3, hp_s4, hp_s5, hp_s6, hp_s7, hp_s8, hp_s9, hp_w0, hp_w9, hp_w10, oa_gl, ma_gl, ig_set, os_2, os_1, ns_1, ns_2, os_os, ns_ns]
    exact ih (p + 1) _ (by omega) (by omega) (by rw [iu_len]; exact hl)
theorem k1_cut {h : ox_H} {o : Nat} {X : ol} (hb : o + 10 < h.length) (hB : rfB X) (l0 : (X.2 0).length = 30) (l1 : (X.2 1).length = 30) {f t : Int} (f0 : 0 ≤ f) (f1 : f ≤ t) (t1 : t ≤ X.1 0) (n1 : X.1 0 ≤ 30) (hin : ∀ q, 0 ≤ q → q < X.1 0 → 0 ≤ ig (X.2 0) q ∧ ig (X.2 0) q < 30) : oe 37 0 [.ref o, .int (iI f), .int (iI t), .null] [] (hput h o X) = some (none, hput h o (cuX X f t)) := by
  have a1 := k1_cu_loop1 hb (to := t) (by omega) (.int (iI f)) (t - f).toNat f X f0 (by omega) hB l0 l1 (fun q q0 q1 => hin q q0 (by omega))
  have en : (cuF (t - f).toNat f X).1 0 = X.1 0 := a1.2.2.1 0 (by decide)
  have eo : (cuF (t - f).toNat f X).2 0 = X.2 0 := a1.2.2.2.1 0 (by decide) (by decide) (by decide)
  have a2 := k1_cu_loop2 (X := cuF (t - f).toNat f X) hb f0 f1 (by rw [en]; exact t1) (by rw [en]; exact n1) (X.1 0 - t).toNat t (X.2 0) (by omega) (by rw [en]; omega) l0
  rw [← eo, os_self, en, eo] at a2
  have hs : oe 37 0 [.ref o, .int (iI f), .int (iI t), .null] [] (hput h o X) = oe 37 2 [.ref o, .int (iI f), .int (iI t), .int (iI f)] [] (hput h o X) := by simp only [eX1_cut_0, eX1_cut_1]
  have hs2 : oe 37 35 [.ref o, .int (iI f), .int (iI t), .int (iI t)] [] (hput h o (cuF (t - f).toNat f X)) = oe 37 37 [.ref o, .int (iI f), .int (iI t), .int (iI t)] [] (hput h o (cuF (t - f).toNat f X)) := by simp only [eX1_cut_35, eX1_cut_36]
  rw [hs, a1.1, hs2]
  exact a2
def trF : Nat → Int → Int → List Int → List Int
  | 0, _, _, l => l
  | m + 1, a, b, l => if a < b then trF m (a + 1) (b - 1) (iu (iu l a (ig l b)) b (ig l a)) else l
theorem trF_len : ∀ (m : Nat) (a b : Int) (l : List Int), (trF m a b l).length = l.length
  | 0, _, _, _ => rfl
  | m + 1, a, b, l => by
    unfold trF
    split
    · rw [trF_len m, iu_len, iu_len]
    · rfl
theorem trF_ig : ∀ (m : Nat) (a b : Int) (l : List Int) (q : Int), b - a < m → 0 ≤ a → b < l.length → 0 ≤ q → ig (trF m a b l) q = if a ≤ q ∧ q ≤ b then ig l (a + b - q) else ig l q
  | 0, a, b, l, q, h1, h2, h3, h4 => by
    rw [if_neg (by omega)]
    rfl
  | m + 1, a, b, l, q, h1, h2, h3, h4 => by
    unfold trF
    by_cases c : a < b
    · rw [if_pos c, trF_ig m (a + 1) (b - 1) _ q (by omega) (by omega) (by rw [iu_len, iu_len]; omega) h4]
      by_cases c1 : a + 1 ≤ q ∧ q ≤ b - 1
      · rw [if_pos c1, if_pos (by omega), ig_ne (by omega) (by omega) (by omega), ig_ne (by omega) (by omega) (by omega), show a + 1 + (b - 1) - q = a + b - q by omega]
      · rw [if_neg c1]
        by_cases e1 : q = b
        · rw [e1, ig_self (by omega) (by rw [iu_len]; omega), if_pos (by omega), show a + b - b = a by omega]
        · rw [ig_ne (by omega) h4 (by omega)]
          by_cases e2 : q = a
          · rw [e2, ig_self (by omega) (by omega), if_pos (by omega), show a + b - a = b by omega]
          · rw [ig_ne (by omega) h4 (by omega), if_neg (by omega)]
    · rw [if_neg c]
      by_cases e : a ≤ q ∧ q ≤ b
      · rw [if_pos e, show a + b - q = q by omega]
      · rw [if_neg e]
theorem k1_tr_loop {h : ox_H} {o : Nat} {X : ol} (hb : o + 10 < h.length) (v1 v2 : Value) : ∀ (m : Nat) (a b : Int) (l : List Int) (v5 : Value), b - a < m → 0 ≤ a → a ≤ 40 → -1 ≤ b → b < 30 → l.length = 30 → oe 41 7 [.ref o, v1, v2, .int (iI a), .int (iI b), v5] [] (hput h o (oset X 0 l)) = some (none, hput h o (oset X 0 (trF m a b l))) := by
  intro m
  induction m with
  | zero =>
    intro a b l v5 c a0 a1 b0 b1 hl
    rw [eX1_turnRound_7]
    simp (disch := omega) only [eX1_turnRound_0, eX1_turnRound_1, eX1_turnRound_2, eX1_turnRound_3, eX1_turnRound_4, eX1_turnRound_5, eX1_turnRound_8, eX1_turnRound_10, eX1_turnRound_13, eX1_turnRound_14, eX1_turnRound_17, eX1_turnRound_18, eX1_turnRound_19, eX1_turnRound_21, eX1_turnRound_22, eX1_turnRound_25, eX1_turnRound_26, eX1_turnRound_27, eX1_turnRound_30, eX1_turnRound_32, eX1_turnRound_33, eX1_turnRound_34, eX1_turnRound_35, eX1_turnRound_38, eX1_turnRound_40, eX1_turnRound_42, eX1_turnRound_43, eX1_turnRound_46, eX1_turnRound_49, eX1_turnRound_52, ox_O_s, ox_B_s, ox_g_t, ox_A_s, ox_push_s, ox_push_n, ox_some, ox_z0, ox_z1, iI_lt, iI_eq, iI_add, iI_sub, ig_at, if_true, if_false, if_pos, if_neg, hp_obj, hp_f0, hp_f1, hp_f2, hp_f3, hp_f4, hp_f5, hp_f6, hp_f7, hp_f8, hp_f9, hp_f10, hp_f11, hp_f12, hp_i0, hp_i1, hp_i2, hp_i3, hp_i4, hp_i5, hp_i6, hp_i7, hp_i8, hp_i9, hp_j0, hp_j1, hp_j2, hp_j3, hp_j4, hp_j5, hp_j6, hp_j7, hp_j8, hp_j9, hp_s0, hp_s1, hp_s2, hp_s3, hp_s4, hp_s5, hp_s6, hp_s7, hp_s8, hp_s9, hp_w0, hp_w9, hp_w10, oa_gl, ma_gl, ig_set, os_2, os_1, ns_1, ns_2, os_os, ns_ns]
    rfl
  | succ m ih =>
    intro a b l v5 c a0 a1 b0 b1 hl
    rw [eX1_turnRound_7]
    unfold trF
    by_cases c1 : a < b
    · rw [if_pos c1]
      have hl2 : (iu l a (ig l b)).length = 30 := by rw [iu_len]; exact hl
      simp (disch := omega) only [eX1_turnRound_0, eX1_turnRound_1, eX1_turnRound_2, eX1_turnRound_3, eX1_turnRound_4, eX1_turnRound_5, eX1_turnRound_8, eX1_turnRound_10, eX1_turnRound_13, eX1_turnRound_14, eX1_turnRound_17, eX1_turnRound_18, eX1_turnRound_19, eX1_turnRound_21, eX1_turnRound_22, eX1_turnRound_25, eX1_turnRound_26, eX1_turnRound_27, eX1_turnRound_30, eX1_turnRound_32, eX1_turnRound_33, eX1_turnRound_34, eX1_turnRound_35, eX1_turnRound_38, eX1_turnRound_40, eX1_turnRound_42, eX1_turnRound_43, eX1_turnRound_46, eX1_turnRound_49, eX1_turnRound_52, ox_O_s, ox_B_s, ox_g_t, ox_A_s, ox_push_s, ox_push_n, ox_some, ox_z0, ox_z1, iI_lt, iI_eq, iI_add, iI_sub, ig_at, if_true, if_false, if_pos, if_neg, hp_obj, hp_f0, hp_f1, hp_f2, hp_f3, hp_f4, hp_f5, hp_f6, hp_f7, hp_f8, hp_f9, hp_f10, hp_f11, hp_f12, hp_i0, hp_i1, hp_i2, hp_i3, hp_i4, hp_i5, hp_i6, hp_i7, hp_i8, hp_i9, hp_j0, hp_j1, hp_j2, hp_j3, hp_j4, hp_j5, hp_j6, hp_j7, hp_j8, hp_j9, hp_s0, hp_s1, hp_s2, hp_s3, hp_s4, hp_s5, hp_s6, hp_s7, hp_s8, hp_s9, hp_w0, hp_w9, hp_w10, oa_gl, ma_gl, ig_set, os_2, os_1, ns_1, ns_2, os_os, ns_ns]
      exact ih (a + 1) (b - 1) _ _ (by omega) (by omega) (by omega) (by omega) (by omega) (by rw [iu_len, iu_len]; exact hl)
    · rw [if_neg c1]
      simp (disch := omega) only [eX1_turnRound_0, eX1_turnRound_1, eX1_turnRound_2, eX1_turnRound_3, eX1_turnRound_4, eX1_turnRound_5, eX1_turnRound_8, eX1_turnRound_10, eX1_turnRound_13, eX1_turnRound_14, eX1_turnRound_17, eX1_turnRound_18, eX1_turnRound_19, eX1_turnRound_21, eX1_turnRound_22, eX1_turnRound_25, eX1_turnRound_26, eX1_turnRound_27, eX1_turnRound_30, eX1_turnRound_32, eX1_turnRound_33, eX1_turnRound_34, eX1_turnRound_35, eX1_turnRound_38, eX1_turnRound_40, eX1_turnRound_42, eX1_turnRound_43, eX1_turnRound_46, eX1_turnRound_49, eX1_turnRound_52, ox_O_s, ox_B_s, ox_g_t, ox_A_s, ox_push_s, ox_push_n, ox_some, ox_z0, ox_z1, iI_lt, iI_eq, iI_add, iI_sub, ig_at, if_true, if_false, if_pos, if_neg, hp_obj, hp_f0, hp_f1, hp_f2, hp_f3, hp_f4, hp_f5, hp_f6, hp_f7, hp_f8, hp_f9, hp_f10, hp_f11, hp_f12, hp_i0, hp_i1, hp_i2, hp_i3, hp_i4, hp_i5, hp_i6, hp_i7, hp_i8, hp_i9, hp_j0, hp_j1, hp_j2, hp_j3, hp_j4, hp_j5, hp_j6, hp_j7, hp_j8, hp_j9, hp_s0, hp_s1, hp_s2, hp_s3, hp_s4, hp_s5, hp_s6, hp_s7, hp_s8, hp_s9, hp_w0, hp_w9, hp_w10, oa_gl, ma_gl, ig_set, os_2, os_1, ns_1, ns_2, os_os, ns_ns]
def trX (a b : Int) (l : List Int) : List Int := trF 31 a (b - 1) l
theorem k1_turnRound {h : ox_H} {o : Nat} {X : ol} (hb : o + 10 < h.length) (l0 : (X.2 0).length = 30) {a b : Int} (a0 : 0 ≤ a) (a1 : a ≤ 30) (b0 : 0 ≤ b) (b1 : b ≤ 30) : oe 41 0 [.ref o, .int (iI a), .int (iI b), .null, .null, .null] [] (hput h o X) = some (none, hput h o (oset X 0 (trX a b (X.2 0)))) := by
  have hk := k1_tr_loop (X := X) hb (.int (iI a)) (.int (iI b)) 31 a (b - 1) (X.2 0) .null (by omega) a0 (by omega) (by omega) (by omega) l0
  rw [os_self] at hk
  simp (disch := omega) only [eX1_turnRound_0, eX1_turnRound_1, eX1_turnRound_2, eX1_turnRound_3, eX1_turnRound_4, eX1_turnRound_5, eX1_turnRound_8, eX1_turnRound_10, eX1_turnRound_13, eX1_turnRound_14, eX1_turnRound_17, eX1_turnRound_18, eX1_turnRound_19, eX1_turnRound_21, eX1_turnRound_22, eX1_turnRound_25, eX1_turnRound_26, eX1_turnRound_27, eX1_turnRound_30, eX1_turnRound_32, eX1_turnRound_33, eX1_turnRound_34, eX1_turnRound_35, eX1_turnRound_38, eX1_turnRound_40, eX1_turnRound_42, eX1_turnRound_43, eX1_turnRound_46, eX1_turnRound_49, eX1_turnRound_52, ox_O_s, ox_B_s, ox_g_t, ox_A_s, ox_push_s, ox_push_n, ox_some, ox_z0, ox_z1, iI_lt, iI_eq, iI_add, iI_sub, ig_at, if_true, if_false, if_pos, if_neg, hp_obj, hp_f0, hp_f1, hp_f2, hp_f3, hp_f4, hp_f5, hp_f6, hp_f7, hp_f8, hp_f9, hp_f10, hp_f11, hp_f12, hp_i0, hp_i1, hp_i2, hp_i3, hp_i4, hp_i5, hp_i6, hp_i7, hp_i8, hp_i9, hp_j0, hp_j1, hp_j2, hp_j3, hp_j4, hp_j5, hp_j6, hp_j7, hp_j8, hp_j9, hp_s0, hp_s1, hp_s2, hp_s3, hp_s4, hp_s5, hp_s6, hp_s7, hp_s8, hp_s9, hp_w0, hp_w9, hp_w10, oa_gl, ma_gl, ig_set, os_2, os_1, ns_1, ns_2, os_os, ns_ns]
  exact hk
/-- two blocks side by side change places -/
def swX (a b c : Int) (l : List Int) : List Int := trX a c (trX b c (trX a b l))
theorem swX_len (a b c : Int) (l : List Int) : (swX a b c l).length = l.length := by unfold swX trX; rw [trF_len, trF_len, trF_len]
theorem swX_ig {a b c : Int} {l : List Int} (a0 : 0 ≤ a) (ab : a ≤ b) (bc : b ≤ c) (c1 : c ≤ 30) (hl : l.length = 30) {q : Int} (q0 : 0 ≤ q) : ig (swX a b c l) q = if a ≤ q ∧ q < c then (if q < a + (c - b) then ig l (q + (b - a)) else ig l (q - (c - b))) else ig l q := by
  have e1 : (trX a b l).length = 30 := by unfold trX; rw [trF_len]; exact hl
  have e2 : (trX b c (trX a b l)).length = 30 := by unfold trX; rw [trF_len]; exact e1
  unfold swX
  rw [show trX a c (trX b c (trX a b l)) = trF 31 a (c - 1) (trX b c (trX a b l)) from rfl, trF_ig 31 a (c - 1) _ q (by omega) a0 (by omega) q0]
  by_cases h1 : a ≤ q ∧ q < c
  · rw [if_pos (by omega), if_pos h1, show trX b c (trX a b l) = trF 31 b (c - 1) (trX a b l) from rfl, trF_ig 31 b (c - 1) _ _ (by omega) (by omega) (by omega) (by omega)]
    by_cases h2 : q < a + (c - b)
    · rw [if_pos (by omega), if_pos h2, show trX a b l = trF 31 a (b - 1) l from rfl, trF_ig 31 a (b - 1) _ _ (by omega) (by omega) (by omega) (by omega), if_neg (by omega)]
      congr 1
      omega
    · rw [if_neg (by omega), if_neg h2, show trX a b l = trF 31 a (b - 1) l from rfl, trF_ig 31 a (b - 1) _ _ (by omega) (by omega) (by omega) (by omega), if_pos (by omega)]
      congr 1
      omega
  · rw [if_neg (by omega), if_neg h1, show trX b c (trX a b l) = trF 31 b (c - 1) (trX a b l) from rfl, trF_ig 31 b (c - 1) _ _ (by omega) (by omega) (by omega) q0, if_neg (by omega), show trX a b l = trF 31 a (b - 1) l from rfl, trF_ig 31 a (b - 1) _ _ (by omega) (by omega) (by omega) q0, if_neg (by omega)]
theorem k1_swapBlocks {h : ox_H} {o : Nat} {X : ol} (hb : o + 10 < h.length) (l0 : (X.2 0).length = 30) {a b c : Int} (a0 : 0 ≤ a) (ab : a ≤ b) (bc : b ≤ c) (c1 : c ≤ 30) : oe 40 0 [.ref o, .int (iI a), .int (iI b), .int (iI c)] [] (hput h o X) = some (none, hput h o (oset X 0 (swX a b c (X.2 0)))) := by
  have h1 := k1_turnRound (X := X) hb l0 (a := a) (b := b) (by omega) (by omega) (by omega) (by omega)
  have h2 := k1_turnRound (X := oset X 0 (trX a b (X.2 0))) hb (by show (trX a b (X.2 0)).length = 30; unfold trX; rw [trF_len]; exact l0) (a := b) (b := c) (by omega) (by omega) (by omega) (by omega)
  rw [os_os] at h2
  have h2 : oe 41 0 [.ref o, .int (iI b), .int (iI c), .null, .null, .null] [] (hput h o (oset X 0 (trX a b (X.2 0)))) = some (none, hput h o (oset X 0 (trX b c (trX a b (X.2 0))))) := h2
  have h3 := k1_turnRound (X := oset X 0 (trX b c (trX a b (X.2 0)))) hb (by show (trX b c (trX a b (X.2 0))).length = 30; unfold trX; rw [trF_len, trF_len]; exact l0) (a := a) (b := c) (by omega) (by omega) (by omega) (by omega)
  rw [os_os] at h3
  have h3 : oe 41 0 [.ref o, .int (iI a), .int (iI c), .null, .null, .null] [] (hput h o (oset X 0 (trX b c (trX a b (X.2 0))))) = some (none, hput h o (oset X 0 (swX a b c (X.2 0)))) := h3
  simp (disch := omega) only [eX1_swapBlocks_0, eX1_swapBlocks_1, eX1_swapBlocks_2, eX1_swapBlocks_3, eX1_swapBlocks_6, eX1_swapBlocks_7, eX1_swapBlocks_8, eX1_swapBlocks_9, eX1_swapBlocks_12, eX1_swapBlocks_13, eX1_swapBlocks_14, eX1_swapBlocks_15, eX1_swapBlocks_18, ox_O_s, ox_B_s, ox_g_t, ox_A_s, ox_push_s, ox_push_n, ox_some, ox_z0, ox_z1, iI_lt, iI_eq, iI_add, iI_sub, ig_at, if_true, if_false, if_pos, if_neg, hp_obj, h1, h2, h3]
theorem k1_move {h : ox_H} {o : Nat} {X : ol} (hb : o + 10 < h.length) (l0 : (X.2 0).length = 30) {f t b : Int} (f0 : 0 ≤ f) (ft : f ≤ t) (t1 : t ≤ 30) (b0 : 0 ≤ b) (b1 : b ≤ 30) (hbb : b ≤ f ∨ t ≤ b) : oe 39 0 [.ref o, .int (iI f), .int (iI t), .int (iI b)] [] (hput h o X) = some (some (.int (iI (if b ≤ f then b else b - (t - f)))), hput h o (oset X 0 (if b ≤ f then swX b f t (X.2 0) else swX f t b (X.2 0)))) := by
  by_cases c : b ≤ f
  · have h1 := k1_swapBlocks (X := X) hb l0 (a := b) (b := f) (c := t) b0 c ft t1
    rw [if_pos c, if_pos c]
    simp (disch := omega) only [eX1_move_0, eX1_move_1, eX1_move_2, eX1_move_5, eX1_move_6, eX1_move_7, eX1_move_8, eX1_move_9, eX1_move_12, eX1_move_13, eX1_move_14, eX1_move_15, eX1_move_16, eX1_move_17, eX1_move_18, eX1_move_21, eX1_move_22, eX1_move_23, eX1_move_24, eX1_move_25, eX1_move_26, ox_O_s, ox_B_s, ox_g_t, ox_A_s, ox_push_s, ox_push_n, ox_some, ox_z0, ox_z1, iI_lt, iI_eq, iI_add, iI_sub, ig_at, if_true, if_false, if_pos, if_neg, hp_obj, h1]
  · have h1 := k1_swapBlocks (X := X) hb l0 (a := f) (b := t) (c := b) f0 ft (by omega) b1
    rw [if_neg c, if_neg c]
    simp (disch := omega) only [eX1_move_0, eX1_move_1, eX1_move_2, eX1_move_5, eX1_move_6, eX1_move_7, eX1_move_8, eX1_move_9, eX1_move_12, eX1_move_13, eX1_move_14, eX1_move_15, eX1_move_16, eX1_move_17, eX1_move_18, eX1_move_21, eX1_move_22, eX1_move_23, eX1_move_24, eX1_move_25, eX1_move_26, ox_O_s, ox_B_s, ox_g_t, ox_A_s, ox_push_s, ox_push_n, ox_some, ox_z0, ox_z1, iI_lt, iI_eq, iI_add, iI_sub, ig_at, if_true, if_false, if_pos, if_neg, hp_obj, h1]
