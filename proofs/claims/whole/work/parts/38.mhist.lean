/-! remember, undo, keep, back of the reference. -/
def sl (l : List Int) (j : Int) : List Int := (l.drop (218 * j).toNat).take 218
theorem sl_ig {l : List Int} {j q : Int} (j0 : 0 ≤ j) (q0 : 0 ≤ q) (q1 : q < 218) : ig (sl l j) q = ig l (218 * j + q) := by
  unfold sl ig
  rw [List.getD_eq_getElem?_getD, List.getElem?_take, if_pos (by omega), List.getElem?_drop, List.getD_eq_getElem?_getD, show (218 * j + q).toNat = (218 * j).toNat + q.toNat by omega]
theorem sl_len {l : List Int} {j : Int} (j0 : 0 ≤ j) (hl : 218 * j + 218 ≤ l.length) : (sl l j).length = 218 := by
  unfold sl
  rw [List.length_take, List.length_drop]
  omega
/-- a row copied into another -/
def cqF (s : List Int) (so d0 : Int) : Nat → Int → List Int → List Int
  | 0, _, d => d
  | k + 1, i, d => cqF s so d0 k (i + 1) (iu d (d0 + i) (ig s (so + i)))
theorem cqF_len {s : List Int} {so d0 : Int} : ∀ (k : Nat) (i : Int) (d : List Int), (cqF s so d0 k i d).length = d.length
  | 0, _, _ => rfl
  | k + 1, i, d => by unfold cqF; rw [cqF_len k, iu_len]
theorem cqF_ig {s : List Int} {so d0 : Int} (h0 : 0 ≤ d0) : ∀ (k : Nat) (i : Int) (d : List Int) (q : Int), 0 ≤ i → d0 + i + k ≤ d.length → 0 ≤ q → ig (cqF s so d0 k i d) q = if d0 + i ≤ q ∧ q < d0 + i + k then ig s (so + (q - d0)) else ig d q
  | 0, i, d, q, _, _, _ => by
    rw [if_neg (by omega)]
    rfl
  | k + 1, i, d, q, hi, hl, hq => by
    unfold cqF
    rw [cqF_ig h0 k (i + 1) _ q (by omega) (by rw [iu_len]; omega) hq]
    by_cases c : d0 + (i + 1) ≤ q ∧ q < d0 + (i + 1) + k
    · rw [if_pos c, if_pos (by omega)]
    · rw [if_neg c]
      by_cases e : q = d0 + i
      · rw [if_pos (by omega), e, ig_self (by omega) (by omega), show so + (d0 + i - d0) = so + i by omega]
      · rw [ig_ne (by omega) hq (by omega), if_neg (by omega)]
/-- the past moved one state down -/
def shF : Nat → Int → List Int → List Int
  | 0, _, l => l
  | k + 1, i, l => shF k (i + 1) (iu l i (ig l (i + 218)))
theorem shF_len : ∀ (k : Nat) (i : Int) (l : List Int), (shF k i l).length = l.length
  | 0, _, _ => rfl
  | k + 1, i, l => by unfold shF; rw [shF_len k, iu_len]
theorem shF_ig : ∀ (k : Nat) (i : Int) (l : List Int) (q : Int), 0 ≤ i → i + k ≤ l.length → 0 ≤ q → ig (shF k i l) q = if i ≤ q ∧ q < i + k then ig l (q + 218) else ig l q
  | 0, i, l, q, _, _, _ => by
    rw [if_neg (by omega)]
    rfl
  | k + 1, i, l, q, hi, hl, hq => by
    unfold shF
    rw [shF_ig k (i + 1) _ q (by omega) (by rw [iu_len]; omega) hq]
    by_cases c : i + 1 ≤ q ∧ q < i + 1 + k
    · rw [if_pos c, if_pos (by omega), ig_ne (by omega) (by omega) (by omega)]
    · rw [if_neg c]
      by_cases e : q = i
      · rw [if_pos (by omega), e, ig_self (by omega) (by omega)]
      · rw [ig_ne (by omega) hq (by omega), if_neg (by omega)]
/-- w laid into the past, as its state c -/
def pcy (w : List Int) (c : Int) (l : List Int) : List Int := cqF w 0 (218 * c) 218 0 l
theorem pcy_len (w : List Int) (c : Int) (l : List Int) : (pcy w c l).length = l.length := cqF_len _ _ _
theorem pcy_ig {w l : List Int} {c q : Int} (c0 : 0 ≤ c) (hl : 218 * c + 218 ≤ l.length) (q0 : 0 ≤ q) : ig (pcy w c l) q = if 218 * c ≤ q ∧ q < 218 * c + 218 then ig w (q - 218 * c) else ig l q := by
  unfold pcy
  rw [cqF_ig (by omega) _ _ _ _ (by omega) (by omega) q0]
  by_cases z : 218 * c ≤ q ∧ q < 218 * c + 218
  · rw [if_pos (by omega), if_pos z, Int.zero_add]
  · rw [if_neg (by omega), if_neg z]
def psh (l : List Int) : List Int := shF 1526 0 l
theorem psh_len (l : List Int) : (psh l).length = l.length := shF_len _ _ _
theorem psh_ig {l : List Int} {q : Int} (hl : 1526 ≤ l.length) (q0 : 0 ≤ q) : ig (psh l) q = if q < 1526 then ig l (q + 218) else ig l q := by
  unfold psh
  rw [shF_ig _ _ _ _ (by omega) (by omega) q0]
  by_cases z : q < 1526
  · rw [if_pos (by omega), if_pos z]
  · rw [if_neg (by omega), if_neg z]
theorem k3_rm_loop1 {h : ox_H} {m : Nat} {Y : ol} (hb : m + 6 < h.length) : ∀ (k : Nat) (i : Int) (l : List Int), 0 ≤ i → i + k = 1526 → l.length = 1744 → oe 84 11 [.ref m, .int (iI i)] [] (mput h m (oset Y 1 l)) = oe 84 40 [.ref m, .int (iI 1526)] [] (mput h m (oset Y 1 (shF k i l))) := by
  intro k
  induction k with
  | zero =>
    intro i l a c hl
    rw [eX3_remember_11, show i = 1526 by omega]
    simp (disch := omega) only [eX3_remember_12, eX3_remember_15, iI_lt, if_pos, if_neg, if_true, if_false]
    rfl
  | succ k ih =>
    intro i l a c hl
    have i1 := ih (i + 1) (iu l i (ig l (i + 218))) (by omega) (by omega) (by rw [iu_len]; exact hl)
    unfold shF
    rw [← i1, eX3_remember_11]
    simp (disch := omega) only [eX3_remember_0, eX3_remember_1, eX3_remember_4, eX3_remember_6, eX3_remember_9, eX3_remember_10, eX3_remember_12, eX3_remember_15, eX3_remember_18, eX3_remember_19, eX3_remember_22, eX3_remember_23, eX3_remember_24, eX3_remember_27, eX3_remember_28, eX3_remember_31, eX3_remember_32, eX3_remember_33, eX3_remember_34, eX3_remember_37, eX3_remember_40, eX3_remember_41, eX3_remember_42, eX3_remember_45, eX3_remember_46, eX3_remember_47, eX3_remember_50, eX3_remember_51, eX3_remember_53, eX3_remember_56, eX3_remember_59, eX3_remember_60, eX3_remember_63, eX3_remember_66, eX3_remember_67, eX3_remember_70, eX3_remember_71, eX3_remember_72, eX3_remember_73, eX3_remember_74, eX3_remember_77, eX3_remember_78, eX3_remember_79, eX3_remember_80, eX3_remember_83, eX3_remember_86, eX3_remember_87, eX3_remember_88, eX3_remember_91, eX3_remember_92, eX3_remember_93, eX3_remember_96, ox_O_s, ox_B_s, ox_g_t, ox_A_s, ox_push_s, ox_push_n, ox_some, ox_z0, ox_z1, iI_lt, iI_eq, iI_add, iI_sub, ig_at, if_true, if_false, if_pos, if_neg, mp_obj, mp_f0, mp_f1, mp_f2, mp_f3, mp_f4, mp_f5, mp_f6, mp_f7, mp_f8, mp_f9, mp_i0, mp_i1, mp_i2, mp_i3, mp_i4, mp_i5, mp_j0, mp_j1, mp_j2, mp_j3, mp_j4, mp_j5, mp_s0, mp_s1, mp_s2, mp_s3, mp_s4, mp_s5, mp_w2, mp_w4, mp_w6, mp_w9, oa_gl, ma_gl, ig_set, os_2, os_1, ns_1, ns_2, os_os, ns_ns]
theorem k3_rm_loop2 {h : ox_H} {m : Nat} {Y : ol} (hb : m + 6 < h.length) (hw : (Y.2 0).length = 218) (c0 : 0 ≤ Y.1 0) (c1 : Y.1 0 < 8) : ∀ (k : Nat) (i : Int) (l : List Int), 0 ≤ i → i + k = 218 → l.length = 1744 → oe 84 52 [.ref m, .int (iI i)] [] (mput h m (oset Y 1 l)) = some (none, mput h m (nset (oset Y 1 (cqF (Y.2 0) 0 (218 * Y.1 0) k i l)) 0 (Y.1 0 + 1))) := by
  intro k
  induction k with
  | zero =>
    intro i l a c hl
    rw [eX3_remember_52]
    simp (disch := omega) only [eX3_remember_0, eX3_remember_1, eX3_remember_4, eX3_remember_6, eX3_remember_9, eX3_remember_10, eX3_remember_12, eX3_remember_15, eX3_remember_18, eX3_remember_19, eX3_remember_22, eX3_remember_23, eX3_remember_24, eX3_remember_27, eX3_remember_28, eX3_remember_31, eX3_remember_32, eX3_remember_33, eX3_remember_34, eX3_remember_37, eX3_remember_40, eX3_remember_41, eX3_remember_42, eX3_remember_45, eX3_remember_46, eX3_remember_47, eX3_remember_50, eX3_remember_51, eX3_remember_53, eX3_remember_56, eX3_remember_59, eX3_remember_60, eX3_remember_63, eX3_remember_66, eX3_remember_67, eX3_remember_70, eX3_remember_71, eX3_remember_72, eX3_remember_73, eX3_remember_74, eX3_remember_77, eX3_remember_78, eX3_remember_79, eX3_remember_80, eX3_remember_83, eX3_remember_86, eX3_remember_87, eX3_remember_88, eX3_remember_91, eX3_remember_92, eX3_remember_93, eX3_remember_96, ox_O_s, ox_B_s, ox_g_t, ox_A_s, ox_push_s, ox_push_n, ox_some, ox_z0, ox_z1, iI_lt, iI_eq, iI_add, iI_sub, ig_at, if_true, if_false, if_pos, if_neg, mp_obj, mp_f0, mp_f1, mp_f2, mp_f3, mp_f4, mp_f5, mp_f6, mp_f7, mp_f8, mp_f9, mp_i0, mp_i1, mp_i2, mp_i3, mp_i4, mp_i5, mp_j0, mp_j1, mp_j2, mp_j3, mp_j4, mp_j5, mp_s0, mp_s1, mp_s2, mp_s3, mp_s4, mp_s5, mp_w2, mp_w4, mp_w6, mp_w9, oa_gl, ma_gl, ig_set, os_2, os_1, ns_1, ns_2, os_os, ns_ns]
    rfl
  | succ k ih =>
    intro i l a c hl
    have i1 := ih (i + 1) (iu l (218 * Y.1 0 + i) (ig (Y.2 0) (0 + i))) (by omega) (by omega) (by rw [iu_len]; exact hl)
    unfold cqF
    rw [← i1, eX3_remember_52, Int.zero_add]
    simp (disch := omega) only [eX3_remember_0, eX3_remember_1, eX3_remember_4, eX3_remember_6, eX3_remember_9, eX3_remember_10, eX3_remember_12, eX3_remember_15, eX3_remember_18, eX3_remember_19, eX3_remember_22, eX3_remember_23, eX3_remember_24, eX3_remember_27, eX3_remember_28, eX3_remember_31, eX3_remember_32, eX3_remember_33, eX3_remember_34, eX3_remember_37, eX3_remember_40, eX3_remember_41, eX3_remember_42, eX3_remember_45, eX3_remember_46, eX3_remember_47, eX3_remember_50, eX3_remember_51, eX3_remember_53, eX3_remember_56, eX3_remember_59, eX3_remember_60, eX3_remember_63, eX3_remember_66, eX3_remember_67, eX3_remember_70, eX3_remember_71, eX3_remember_72, eX3_remember_73, eX3_remember_74, eX3_remember_77, eX3_remember_78, eX3_remember_79, eX3_remember_80, eX3_remember_83, eX3_remember_86, eX3_remember_87, eX3_remember_88, eX3_remember_91, eX3_remember_92, eX3_remember_93, eX3_remember_96, ox_O_s, ox_B_s, ox_g_t, ox_A_s, ox_push_s, ox_push_n, ox_some, ox_z0, ox_z1, iI_lt, iI_eq, iI_add, iI_sub, ig_at, if_true, if_false, if_pos, if_neg, mp_obj, mp_f0, mp_f1, mp_f2, mp_f3, mp_f4, mp_f5, mp_f6, mp_f7, mp_f8, mp_f9, mp_i0, mp_i1, mp_i2, mp_i3, mp_i4, mp_i5, mp_j0, mp_j1, mp_j2, mp_j3, mp_j4, mp_j5, mp_s0, mp_s1, mp_s2, mp_s3, mp_s4, mp_s5, mp_w2, mp_w4, mp_w6, mp_w9, oa_gl, ma_gl, ig_set, os_2, os_1, ns_1, ns_2, os_os, ns_ns, iI_mul]
theorem k3_rem1 {h : ox_H} {m : Nat} {Y : ol} (hb : m + 6 < h.length) (hw : (Y.2 0).length = 218) (hp : (Y.2 1).length = 1744) (c0 : 0 ≤ Y.1 0) (c1 : Y.1 0 < 8) (v1 : Value) : oe 84 50 [.ref m, v1] [] (mput h m Y) = some (none, mput h m (nset (oset Y 1 (pcy (Y.2 0) (Y.1 0) (Y.2 1))) 0 (Y.1 0 + 1))) := by
  have hk := k3_rm_loop2 hb hw c0 c1 218 0 (Y.2 1) (by omega) (by omega) hp
  rw [os_self] at hk
  simp only [eX3_remember_50, eX3_remember_51]
  exact hk
/-- the reference's past behind a change -/
def paN (Y : ol) : ol := if Y.1 0 < 8 then nset (oset Y 1 (pcy (Y.2 0) (Y.1 0) (Y.2 1))) 0 (Y.1 0 + 1) else nset (oset (nset (oset Y 1 (psh (Y.2 1))) 0 7) 1 (pcy (Y.2 0) 7 (psh (Y.2 1)))) 0 8
theorem k3_remember {h : ox_H} {m : Nat} {Y : ol} (hb : m + 6 < h.length) (hw : (Y.2 0).length = 218) (hp : (Y.2 1).length = 1744) (c0 : 0 ≤ Y.1 0) (c1 : Y.1 0 ≤ 8) : oe 84 0 [.ref m, .null] [] (mput h m Y) = some (none, mput h m (paN Y)) := by
  unfold paN
  by_cases q : Y.1 0 < 8
  · rw [if_pos q]
    have hk := k3_rem1 hb hw hp c0 q .null
    simp (disch := omega) only [eX3_remember_0, eX3_remember_1, eX3_remember_4, eX3_remember_6, ox_O_s, ox_B_s, ox_g_t, ox_A_s, ox_push_s, ox_push_n, ox_some, ox_z0, ox_z1, mp_f2, iI_eq, if_neg]
    exact hk
  · rw [if_neg q]
    have e8 : Y.1 0 = 8 := by omega
    have h1 := k3_rm_loop1 (Y := Y) hb 1526 0 (Y.2 1) (by omega) (by omega) hp
    rw [os_self, show shF 1526 0 (Y.2 1) = psh (Y.2 1) from rfl] at h1
    have hk := k3_rem1 (Y := nset (oset Y 1 (psh (Y.2 1))) 0 7) hb (by rw [ns_2, os_2, if_neg (by decide)]; exact hw) (by rw [ns_2, os_2, if_pos rfl, psh_len]; exact hp) (by rw [ns_1, if_pos rfl]; omega) (by rw [ns_1, if_pos rfl]; omega) (.int (iI 1526))
    rw [ns_2, os_2, if_neg (by decide), ns_2, os_2, if_pos rfl, ns_1, if_pos rfl, show (7 : Int) + 1 = 8 from rfl] at hk
    simp (disch := omega) only [eX3_remember_0, eX3_remember_1, eX3_remember_4, eX3_remember_6, eX3_remember_9, eX3_remember_10, ox_O_s, ox_B_s, ox_g_t, ox_A_s, ox_push_s, ox_push_n, ox_some, ox_z0, ox_z1, mp_f2, iI_eq, if_pos, h1]
    simp (disch := omega) only [eX3_remember_40, eX3_remember_41, eX3_remember_42, eX3_remember_45, eX3_remember_46, eX3_remember_47, ox_O_s, ox_B_s, ox_g_t, ox_A_s, ox_push_s, ox_push_n, ox_some, ox_z0, ox_z1, mp_f2, mp_obj, mp_w2, ma_gl, os_1, iI_sub, e8, show (8 : Int) - 1 = 7 from rfl]
    exact hk
theorem paN_k (Y : ol) : (paN Y).1 0 = (if Y.1 0 < 8 then Y.1 0 + 1 else 8) ∧ (∀ j, j ≠ 0 → (paN Y).1 j = Y.1 j) ∧ (∀ j, j ≠ 1 → (paN Y).2 j = Y.2 j) ∧ ((paN Y).2 1).length = (Y.2 1).length := by
  unfold paN
  by_cases q : Y.1 0 < 8
  · rw [if_pos q, if_pos q]
    refine ⟨rfl, fun j hj => ?_, fun j hj => ?_, by rw [ns_2, os_2, if_pos rfl, pcy_len]⟩
    · show (if j = 0 then _ else Y.1 j) = _
      rw [if_neg hj]
    · show (if j = 1 then _ else Y.2 j) = _
      rw [if_neg hj]
  · rw [if_neg q, if_neg q]
    refine ⟨rfl, fun j hj => ?_, fun j hj => ?_, ?_⟩
    · show (if j = 0 then _ else if j = 0 then _ else Y.1 j) = _
      rw [if_neg hj, if_neg hj]
    · show (if j = 1 then _ else if j = 1 then _ else Y.2 j) = _
      rw [if_neg hj, if_neg hj]
    · rw [ns_2, os_2, if_pos rfl, pcy_len, psh_len]
theorem paN_sl {Y : ol} (hw : (Y.2 0).length = 218) (hp : (Y.2 1).length = 1744) (c0 : 0 ≤ Y.1 0) (c1 : Y.1 0 ≤ 8) {i : Int} (i0 : 0 ≤ i) (i1 : i < (paN Y).1 0) : sl ((paN Y).2 1) i = if i + 1 = (paN Y).1 0 then Y.2 0 else sl (Y.2 1) (if Y.1 0 < 8 then i else i + 1) := by
  have hk := paN_k Y
  rw [hk.1] at i1 ⊢
  have hlen : ((paN Y).2 1).length = 1744 := by rw [hk.2.2.2]; exact hp
  by_cases q : Y.1 0 < 8
  · rw [if_pos q] at i1 ⊢
    rw [if_pos q]
    have e : (paN Y).2 1 = pcy (Y.2 0) (Y.1 0) (Y.2 1) := by unfold paN; rw [if_pos q, ns_2, os_2, if_pos rfl]
    by_cases z : i + 1 = Y.1 0 + 1
    · rw [if_pos z]
      refine ig_ext (by rw [sl_len i0 (by omega), hw]) (fun p p0 p1 => ?_)
      rw [sl_len i0 (by omega)] at p1
      rw [sl_ig i0 p0 (by omega), e, pcy_ig c0 (by omega) (by omega), if_pos (by omega)]
      congr 1
      omega
    · rw [if_neg z]
      refine ig_ext (by rw [sl_len i0 (by omega), sl_len i0 (by omega)]) (fun p p0 p1 => ?_)
      rw [sl_len i0 (by omega)] at p1
      rw [sl_ig i0 p0 (by omega), sl_ig i0 p0 (by omega), e, pcy_ig c0 (by omega) (by omega), if_neg (by omega)]
  · rw [if_neg q] at i1 ⊢
    rw [if_neg q]
    have e : (paN Y).2 1 = pcy (Y.2 0) 7 (psh (Y.2 1)) := by unfold paN; rw [if_neg q, ns_2, os_2, if_pos rfl]
    have hsl := psh_len (Y.2 1)
    by_cases z : i + 1 = 8
    · rw [if_pos z]
      refine ig_ext (by rw [sl_len i0 (by omega), hw]) (fun p p0 p1 => ?_)
      rw [sl_len i0 (by omega)] at p1
      rw [sl_ig i0 p0 (by omega), e, pcy_ig (by omega) (by omega) (by omega), if_pos (by omega)]
      exact congrArg (ig (Y.2 0)) (by omega)
    · rw [if_neg z]
      refine ig_ext (by rw [sl_len i0 (by omega), sl_len (by omega) (by omega)]) (fun p p0 p1 => ?_)
      rw [sl_len i0 (by omega)] at p1
      rw [sl_ig i0 p0 (by omega), sl_ig (by omega) p0 (by omega), e, pcy_ig (by omega) (by omega) (by omega), if_neg (by omega), psh_ig (by omega) (by omega), if_pos (by omega)]
      exact congrArg (ig (Y.2 1)) (by omega)
theorem k3_un_loop {h : ox_H} {m : Nat} {Y : ol} (hb : m + 6 < h.length) (hp : (Y.2 1).length = 1744) (c0 : 0 ≤ Y.1 0) (c1 : Y.1 0 < 8) : ∀ (k : Nat) (i : Int) (l : List Int), 0 ≤ i → i + k = 218 → l.length = 218 → oe 116 22 [.ref m, .int (iI i)] [] (mput h m (oset Y 0 l)) = some (some (.int (iI (Y.1 0))), mput h m (oset Y 0 (cqF (Y.2 1) (218 * Y.1 0) 0 k i l))) := by
  intro k
  induction k with
  | zero =>
    intro i l a c hl
    rw [eX3_undo_22]
    simp (disch := omega) only [eX3_undo_0, eX3_undo_1, eX3_undo_4, eX3_undo_7, eX3_undo_9, eX3_undo_10, eX3_undo_11, eX3_undo_12, eX3_undo_15, eX3_undo_16, eX3_undo_17, eX3_undo_20, eX3_undo_21, eX3_undo_23, eX3_undo_26, eX3_undo_29, eX3_undo_30, eX3_undo_33, eX3_undo_34, eX3_undo_35, eX3_undo_38, eX3_undo_41, eX3_undo_42, eX3_undo_45, eX3_undo_46, eX3_undo_47, eX3_undo_48, eX3_undo_49, eX3_undo_50, eX3_undo_53, eX3_undo_56, eX3_undo_57, eX3_undo_60, ox_O_s, ox_B_s, ox_g_t, ox_A_s, ox_push_s, ox_push_n, ox_some, ox_z0, ox_z1, iI_lt, iI_eq, iI_add, iI_sub, ig_at, if_true, if_false, if_pos, if_neg, mp_obj, mp_f0, mp_f1, mp_f2, mp_f3, mp_f4, mp_f5, mp_f6, mp_f7, mp_f8, mp_f9, mp_i0, mp_i1, mp_i2, mp_i3, mp_i4, mp_i5, mp_j0, mp_j1, mp_j2, mp_j3, mp_j4, mp_j5, mp_s0, mp_s1, mp_s2, mp_s3, mp_s4, mp_s5, mp_w2, mp_w4, mp_w6, mp_w9, oa_gl, ma_gl, ig_set, os_2, os_1, ns_1, ns_2, os_os, ns_ns]
    rfl
  | succ k ih =>
    intro i l a c hl
    have i1 := ih (i + 1) (iu l (0 + i) (ig (Y.2 1) (218 * Y.1 0 + i))) (by omega) (by omega) (by rw [iu_len]; exact hl)
    unfold cqF
    rw [← i1, eX3_undo_22, Int.zero_add]
    simp (disch := omega) only [eX3_undo_0, eX3_undo_1, eX3_undo_4, eX3_undo_7, eX3_undo_9, eX3_undo_10, eX3_undo_11, eX3_undo_12, eX3_undo_15, eX3_undo_16, eX3_undo_17, eX3_undo_20, eX3_undo_21, eX3_undo_23, eX3_undo_26, eX3_undo_29, eX3_undo_30, eX3_undo_33, eX3_undo_34, eX3_undo_35, eX3_undo_38, eX3_undo_41, eX3_undo_42, eX3_undo_45, eX3_undo_46, eX3_undo_47, eX3_undo_48, eX3_undo_49, eX3_undo_50, eX3_undo_53, eX3_undo_56, eX3_undo_57, eX3_undo_60, ox_O_s, ox_B_s, ox_g_t, ox_A_s, ox_push_s, ox_push_n, ox_some, ox_z0, ox_z1, iI_lt, iI_eq, iI_add, iI_sub, ig_at, if_true, if_false, if_pos, if_neg, mp_obj, mp_f0, mp_f1, mp_f2, mp_f3, mp_f4, mp_f5, mp_f6, mp_f7, mp_f8, mp_f9, mp_i0, mp_i1, mp_i2, mp_i3, mp_i4, mp_i5, mp_j0, mp_j1, mp_j2, mp_j3, mp_j4, mp_j5, mp_s0, mp_s1, mp_s2, mp_s3, mp_s4, mp_s5, mp_w2, mp_w4, mp_w6, mp_w9, oa_gl, ma_gl, ig_set, os_2, os_1, ns_1, ns_2, os_os, ns_ns, iI_mul]
theorem cq_sl {s d : List Int} {j : Int} (j0 : 0 ≤ j) (hs : 218 * j + 218 ≤ s.length) (hd : d.length = 218) : cqF s (218 * j) 0 218 0 d = sl s j := by
  refine ig_ext (by rw [cqF_len, sl_len j0 hs, hd]) (fun p p0 p1 => ?_)
  rw [cqF_len] at p1
  rw [cqF_ig (by omega) _ _ _ _ (by omega) (by omega) (by omega), if_pos (by omega), sl_ig j0 p0 (by omega), show p - 0 = p by omega]
theorem k3_undo {h : ox_H} {m : Nat} {Y : ol} (hb : m + 6 < h.length) (hw : (Y.2 0).length = 218) (hp : (Y.2 1).length = 1744) (c0 : 0 < Y.1 0) (c1 : Y.1 0 ≤ 8) : oe 116 0 [.ref m, .null] [] (mput h m Y) = some (some (.int (iI (Y.1 0 - 1))), mput h m (oset (nset Y 0 (Y.1 0 - 1)) 0 (sl (Y.2 1) (Y.1 0 - 1)))) := by
  have hk := k3_un_loop (Y := nset Y 0 (Y.1 0 - 1)) hb hp (by show 0 ≤ Y.1 0 - 1; omega) (by show Y.1 0 - 1 < 8; omega) 218 0 (Y.2 0) (by omega) (by omega) hw
  have hcs := cq_sl (s := (nset Y 0 (Y.1 0 - 1)).2 1) (d := Y.2 0) (j := (nset Y 0 (Y.1 0 - 1)).1 0) (by show 0 ≤ Y.1 0 - 1; omega) (by show 218 * (Y.1 0 - 1) + 218 ≤ ((Y.2 1).length : Int); omega) hw
  rw [hcs] at hk
  rw [show oset (nset Y 0 (Y.1 0 - 1)) 0 (Y.2 0) = nset Y 0 (Y.1 0 - 1) from os_self (X := nset Y 0 (Y.1 0 - 1))] at hk
  simp (disch := omega) only [eX3_undo_0, eX3_undo_1, eX3_undo_4, eX3_undo_7, eX3_undo_9, eX3_undo_10, eX3_undo_11, eX3_undo_12, eX3_undo_15, eX3_undo_16, eX3_undo_17, eX3_undo_20, eX3_undo_21, eX3_undo_23, eX3_undo_26, eX3_undo_29, eX3_undo_30, eX3_undo_33, eX3_undo_34, eX3_undo_35, eX3_undo_38, eX3_undo_41, eX3_undo_42, eX3_undo_45, eX3_undo_46, eX3_undo_47, eX3_undo_48, eX3_undo_49, eX3_undo_50, eX3_undo_53, eX3_undo_56, eX3_undo_57, eX3_undo_60, ox_O_s, ox_B_s, ox_g_t, ox_A_s, ox_push_s, ox_push_n, ox_some, ox_z0, ox_z1, iI_lt, iI_eq, iI_add, iI_sub, ig_at, if_true, if_false, if_pos, if_neg, mp_obj, mp_f0, mp_f1, mp_f2, mp_f3, mp_f4, mp_f5, mp_f6, mp_f7, mp_f8, mp_f9, mp_i0, mp_i1, mp_i2, mp_i3, mp_i4, mp_i5, mp_j0, mp_j1, mp_j2, mp_j3, mp_j4, mp_j5, mp_s0, mp_s1, mp_s2, mp_s3, mp_s4, mp_s5, mp_w2, mp_w4, mp_w6, mp_w9, oa_gl, ma_gl, ig_set, os_2, os_1, ns_1, ns_2, os_os, ns_ns]
  exact hk
