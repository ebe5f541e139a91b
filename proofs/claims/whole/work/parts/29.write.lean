/-! The class's outline: methods that write. -/
section
variable {tag N : Nat} {F : Nat → ol → List Value} {h : ox_H} {o : Nat} {X : ol}
theorem gp_fldO {a ci k : Nat} (ha : a < o ∨ o + N < a) : ox_fld (gp tag N F h o X) a ci k = ox_fld h a ci k := by unfold ox_fld; rw [gp_out ha]
theorem gp_objO {a ci : Nat} (ha : a < o ∨ o + N < a) : ox_obj (gp tag N F h o X) a ci = ox_obj h a ci := by unfold ox_obj; rw [gp_out ha]
theorem gp_intO {a : Nat} {ok : Nat → Bool} (ha : a < o ∨ o + N < a) : ox_ints (gp tag N F h o X) a ok = ox_ints h a ok := by unfold ox_ints; rw [gp_out ha]
theorem gp_lenO {a : Nat} (ha : a < o ∨ o + N < a) : ox_len (gp tag N F h o X) a = ox_len h a := by unfold ox_len; rw [gp_out ha]
end
theorem ox_g_and {c d : Prop} {q : Decidable c} {q' : Decidable d} {r : Option ox_R} (hc : c) (hd : d) : ox_g (decide c && decide d) r = r := by rw [decide_eq_true hc, decide_eq_true hd]; rfl
theorem ox_len_of {h : ox_H} {a t : Nat} {l : List Int32} (e : h[a]? = some (.inl (t, l))) : ox_len h a = some l.length := by
  unfold ox_len
  rw [e]
theorem k1_copyRow {h : ox_H} {a b : Nat} {l l' : List Int} (ha : h[a]? = some (.inl (0, l.map iI))) (hb : h[b]? = some (.inl (0, l'.map iI))) (hl : l.length = l'.length) (h1 : l.length ≤ 1000) : oe 11 0 [.ref a, .ref b] [] h = some (none, h.set b (.inl (0, l.map iI))) := by
  have e1 := ox_len_of ha
  have e2 := ox_len_of hb
  have e3 := ox_ints_of (ok := ox_is0) ha rfl
  have e4 := ox_ints_of (ok := ox_is0) hb rfl
  rw [List.length_map] at e1 e2
  have hk : (0 : Int32) ≤ iI (l'.length : Int) := by
    rw [show (0 : Int32) = iI 0 from rfl, iI_le (by omega) (by omega) (by omega) (by omega)]
    omega
  have hn : (iI (l'.length : Int)).toNatClampNeg = l'.length := by rw [iI_nat (by omega) (by omega)]; omega
  simp (disch := omega) only [eX1_copyRow_0, eX1_copyRow_1, eX1_copyRow_2, eX1_copyRow_3, eX1_copyRow_4, eX1_copyRow_5, eX1_copyRow_6, eX1_copyRow_7, eX1_copyRow_8, ox_O_s, ox_B_s, ox_g_t, ox_A_s, ox_push_s, ox_push_n, ox_some, ox_z0, ox_z1, e1, e2, iI_len, iI_lt, if_true, if_false, if_pos, if_neg, hl]
  rw [eX1_copyRow_11 hk, e3, e4, ox_O_s, ox_O_s, hn, ox_g_and (by rw [List.length_map]; omega) (by rw [List.length_map]; omega), eX1_copyRow_14, List.take_of_length_le (by rw [List.length_map]; omega), List.drop_of_length_le (by rw [List.length_map]; omega), List.append_nil]
def slF (od : List Int) (b : Int) : Nat → Int → List Int → List Int
  | 0, _, l => l
  | k + 1, p, l => slF od b k (p + 1) (iu l (ig od p) (ig l (ig od p) + b))
theorem slF_len {od : List Int} {b : Int} : ∀ (k : Nat) (p : Int) (l : List Int), (slF od b k p l).length = l.length
  | 0, _, _ => rfl
  | k + 1, p, l => by unfold slF; rw [slF_len k, iu_len]
theorem k1_sl_loop {h : ox_H} {o : Nat} {X : ol} (hb : o + 10 < h.length) (l0 : (X.2 0).length = 30) {to b : Int} (t1 : to ≤ 30) (hin : ∀ q, 0 ≤ q → q < to → 0 ≤ ig (X.2 0) q ∧ ig (X.2 0) q < 30) (v1 : Value) : ∀ (k : Nat) (p : Int) (l : List Int), 0 ≤ p → p + k = to → l.length = 30 → oe 38 3 [.ref o, v1, .int (iI to), .int (iI b), .int (iI p)] [] (hput h o (oset X 1 l)) = some (none, hput h o (oset X 1 (slF (X.2 0) b k p l))) := by
  intro k
  induction k with
  | zero =>
    intro p l a c hl
    rw [eX1_shiftLevels_3]
    simp (disch := omega) only [eX1_shiftLevels_0, eX1_shiftLevels_1, eX1_shiftLevels_5, eX1_shiftLevels_6, eX1_shiftLevels_9, eX1_shiftLevels_10, eX1_shiftLevels_13, eX1_shiftLevels_14, eX1_shiftLevels_17, eX1_shiftLevels_19, eX1_shiftLevels_20, eX1_shiftLevels_21, eX1_shiftLevels_22, eX1_shiftLevels_23, eX1_shiftLevels_24, eX1_shiftLevels_25, eX1_shiftLevels_28, eX1_shiftLevels_31, ox_O_s, ox_B_s, ox_g_t, ox_A_s, ox_push_s, ox_push_n, ox_some, ox_z0, ox_z1, iI_lt, iI_eq, iI_add, iI_sub, ig_at, if_true, if_false, if_pos, if_neg, hp_obj, hp_f0, hp_f1, hp_f2, hp_f3, hp_f4, hp_f5, hp_f6, hp_f7, hp_f8, hp_f9, hp_f10, hp_f11, hp_f12, hp_i0, hp_i1, hp_i2, hp_i3, hp_i4, hp_i5, hp_i6, hp_i7, hp_i8, hp_i9, hp_j0, hp_j1, hp_j2, hp_j3, hp_j4, hp_j5, hp_j6, hp_j7, hp_j8, hp_j9, hp_s0, hp_s1, hp_s2, hp_s3, hp_s4, hp_s5, hp_s6, hp_s7, hp_s8, hp_s9, hp_w0, hp_w9, hp_w10, oa_gl, ma_gl, ig_set, os_2, os_1, ns_1, ns_2, os_os, ns_ns]
    rfl
  | succ k ih =>
    intro p l a c hl
    have hi := hin p a (by omega)
    rw [eX1_shiftLevels_3]
    simp (disch := omega) only [eX1_shiftLevels_0, eX1_shiftLevels_1, eX1_shiftLevels_5, eX1_shiftLevels_6, eX1_shiftLevels_9, eX1_shiftLevels_10, eX1_shiftLevels_13, eX1_shiftLevels_14, eX1_shiftLevels_17, eX1_shiftLevels_19, eX1_shiftLevels_20, eX1_shiftLevels_21, eX1_shiftLevels_22, eX1_shiftLevels_23, eX1_shiftLevels_24, eX1_shiftLevels_25, eX1_shiftLevels_28, eX1_shiftLevels_31, ox_O_s, ox_B_s, ox_g_t, ox_A_s, ox_push_s, ox_push_n, ox_some, ox_z0, ox_z1, iI_lt, iI_eq, iI_add, iI_sub, ig_at, if_true, if_false, if_pos, if_neg, hp_obj, hp_f0, hp_f1, hp_f2, hp_f3, hp_f4, hp_f5, hp_f6, hp_f7, hp_f8, hp_f9, hp_f10, hp_f11, hp_f12, hp_i0, hp_i1, hp_i2, hp_i3, hp_i4, hp_i5, hp_i6, hp_i7, hp_i8, hp_i9, hp_j0, hp_j1, hp_j2, hp_j3, hp_j4, hp_j5, hp_j6, hp_j7, hp_j8, hp_j9, hp_s0, hp_s1, hp_s2, hp_s3, hp_s4, hp_s5, hp_s6, hp_s7, hp_s8, hp_s9, hp_w0, hp_w9, hp_w10, oa_gl, ma_gl, ig_set, os_2, os_1, ns_1, ns_2, os_os, ns_ns]
    exact ih (p + 1) _ (by omega) (by omega) (by rw [iu_len]; exact hl)
theorem k1_shiftLevels {h : ox_H} {o : Nat} {X : ol} (hb : o + 10 < h.length) (l0 : (X.2 0).length = 30) (l1 : (X.2 1).length = 30) {p to b : Int} (p0 : 0 ≤ p) (p1 : p ≤ to) (t1 : to ≤ 30) (hin : ∀ q, 0 ≤ q → q < to → 0 ≤ ig (X.2 0) q ∧ ig (X.2 0) q < 30) : oe 38 0 [.ref o, .int (iI p), .int (iI to), .int (iI b), .null] [] (hput h o X) = some (none, hput h o (oset X 1 (slF (X.2 0) b (to - p).toNat p (X.2 1)))) := by
  have hk := k1_sl_loop hb l0 (b := b) t1 hin (.int (iI p)) (to - p).toNat p (X.2 1) p0 (by omega) l1
  rw [os_self] at hk
  simp only [eX1_shiftLevels_0, eX1_shiftLevels_1, eX1_shiftLevels_5, eX1_shiftLevels_6, eX1_shiftLevels_9, eX1_shiftLevels_10, eX1_shiftLevels_13, eX1_shiftLevels_14, eX1_shiftLevels_17, eX1_shiftLevels_19, eX1_shiftLevels_20, eX1_shiftLevels_21, eX1_shiftLevels_22, eX1_shiftLevels_23, eX1_shiftLevels_24, eX1_shiftLevels_25, eX1_shiftLevels_28, eX1_shiftLevels_31]
  exact hk
theorem k1_link {h : ox_H} {o : Nat} {X : ol} (hb : o + 10 < h.length) (l8 : (X.2 8).length = 12) (l9 : (X.2 9).length = 12) (r0 : 0 ≤ X.1 2) (r1 : X.1 2 < 12) {s t : Int} : oe 42 0 [.ref o, .int (iI s), .int (iI t), .null] [] (hput h o X) = some (some (.int (iI (X.1 2))), hput h o (nset (oset (oset X 8 (iu (X.2 8) (X.1 2) s)) 9 (iu (X.2 9) (X.1 2) t)) 2 (X.1 2 + 1))) := by
  simp (disch := omega) only [eX1_link_0, eX1_link_1, eX1_link_4, eX1_link_5, eX1_link_6, eX1_link_9, eX1_link_10, eX1_link_11, eX1_link_12, eX1_link_13, eX1_link_16, eX1_link_17, eX1_link_18, eX1_link_19, eX1_link_20, eX1_link_21, eX1_link_24, eX1_link_25, eX1_link_26, eX1_link_29, eX1_link_30, ox_O_s, ox_B_s, ox_g_t, ox_A_s, ox_push_s, ox_push_n, ox_some, ox_z0, ox_z1, iI_lt, iI_eq, iI_add, iI_sub, ig_at, if_true, if_false, if_pos, if_neg, hp_obj, hp_f0, hp_f1, hp_f2, hp_f3, hp_f4, hp_f5, hp_f6, hp_f7, hp_f8, hp_f9, hp_f10, hp_f11, hp_f12, hp_i0, hp_i1, hp_i2, hp_i3, hp_i4, hp_i5, hp_i6, hp_i7, hp_i8, hp_i9, hp_j0, hp_j1, hp_j2, hp_j3, hp_j4, hp_j5, hp_j6, hp_j7, hp_j8, hp_j9, hp_s0, hp_s1, hp_s2, hp_s3, hp_s4, hp_s5, hp_s6, hp_s7, hp_s8, hp_s9, hp_w0, hp_w9, hp_w10, oa_gl, ma_gl, ig_set, os_2, os_1, ns_1, ns_2, os_os, ns_ns]
/-- the least number that is no heading's -/
def lfP (X : ol) (z : Int) : Prop := 0 ≤ z ∧ z < 30 ∧ (∀ p, 0 ≤ p → p < X.1 0 → ig (X.2 0) p ≠ z) ∧ ∀ y, 0 ≤ y → y < z → ∃ p, 0 ≤ p ∧ p < X.1 0 ∧ ig (X.2 0) p = y
theorem k1_lf_loop {h : ox_H} {o : Nat} {X : ol} (hO : OA h o X) (hV : vx X) {z : Int} (hz : lfP X z) : ∀ (k : Nat) (y : Int), 0 ≤ y → y + k = z → oe 36 2 [.ref o, .int (iI y)] [] h = some (some (.int (iI z)), h) := by
  obtain ⟨gO, g0, g1, g2, g3, g4, g5, g6, g7, g8, g9, g10, g11, g12, gi0, gi1, gi2, gi3, gi4, gi5, gi6, gi7, gi8, gi9, gj0, gj1, gj2, gj3, gj4, gj5, gj6, gj7, gj8, gj9⟩ := oa_facts hO
  obtain ⟨vl, vn, vo, vi, va, vfst, vs, vz, vr, vc, vt, vm, vk⟩ := id hV
  have l0 : (X.2 0).length = 30 := vl 0 (by omega)
  have l1 : (X.2 1).length = 30 := vl 1 (by omega)
  have l2 : (X.2 2).length = 30 := vl 2 (by omega)
  have l3 : (X.2 3).length = 30 := vl 3 (by omega)
  have l4 : (X.2 4).length = 30 := vl 4 (by omega)
  have l5 : (X.2 5).length = 30 := vl 5 (by omega)
  have l6 : (X.2 6).length = 5 := vl 6 (by omega)
  have l7 : (X.2 7).length = 7 := vl 7 (by omega)
  have l8 : (X.2 8).length = 12 := vl 8 (by omega)
  have l9 : (X.2 9).length = 12 := vl 9 (by omega)
  obtain ⟨z0, z1, z2, z3⟩ := hz
  intro k
  induction k with
  | zero =>
    intro y a b
    have e : y = z := by omega
    subst e
    have e0 := vz y a z1 z2
    rw [eX1_lowestFree_2]
    simp (disch := omega) only [eX1_lowestFree_0, eX1_lowestFree_1, eX1_lowestFree_3, eX1_lowestFree_5, eX1_lowestFree_8, eX1_lowestFree_9, eX1_lowestFree_12, eX1_lowestFree_13, eX1_lowestFree_14, eX1_lowestFree_17, eX1_lowestFree_18, eX1_lowestFree_19, eX1_lowestFree_22, eX1_lowestFree_25, eX1_lowestFree_27, ox_O_s, ox_B_s, ox_g_t, ox_A_s, ox_push_s, ox_push_n, ox_some, ox_z0, ox_z1, iI_lt, iI_eq, iI_add, iI_sub, ig_at, if_true, if_false, if_pos, if_neg, gO, g0, g1, g2, g3, g4, g5, g6, g7, g8, g9, g10, g11, g12, gi0, gi1, gi2, gi3, gi4, gi5, gi6, gi7, gi8, gi9, gj0, gj1, gj2, gj3, gj4, gj5, gj6, gj7, gj8, gj9, e0]
  | succ k ih =>
    intro y a b
    obtain ⟨p, p0, p1, rfl⟩ := z3 y a (by omega)
    have := (va p p0 p1).1
    rw [eX1_lowestFree_2]
    simp (disch := omega) only [eX1_lowestFree_0, eX1_lowestFree_1, eX1_lowestFree_3, eX1_lowestFree_5, eX1_lowestFree_8, eX1_lowestFree_9, eX1_lowestFree_12, eX1_lowestFree_13, eX1_lowestFree_14, eX1_lowestFree_17, eX1_lowestFree_18, eX1_lowestFree_19, eX1_lowestFree_22, eX1_lowestFree_25, eX1_lowestFree_27, ox_O_s, ox_B_s, ox_g_t, ox_A_s, ox_push_s, ox_push_n, ox_some, ox_z0, ox_z1, iI_lt, iI_eq, iI_add, iI_sub, ig_at, if_true, if_false, if_pos, if_neg, gO, g0, g1, g2, g3, g4, g5, g6, g7, g8, g9, g10, g11, g12, gi0, gi1, gi2, gi3, gi4, gi5, gi6, gi7, gi8, gi9, gj0, gj1, gj2, gj3, gj4, gj5, gj6, gj7, gj8, gj9]
    exact ih _ (by omega) (by omega)
theorem k1_lowestFree {h : ox_H} {o : Nat} {X : ol} (hO : OA h o X) (hV : vx X) {z : Int} (hz : lfP X z) : oe 36 0 [.ref o, .null] [] h = some (some (.int (iI z)), h) := by
  have hk := k1_lf_loop hO hV hz z.toNat 0 (by omega) (by have := hz.1; omega)
  simp (disch := omega) only [eX1_lowestFree_0, eX1_lowestFree_1, eX1_lowestFree_3, eX1_lowestFree_5, eX1_lowestFree_8, eX1_lowestFree_9, eX1_lowestFree_12, eX1_lowestFree_13, eX1_lowestFree_14, eX1_lowestFree_17, eX1_lowestFree_18, eX1_lowestFree_19, eX1_lowestFree_22, eX1_lowestFree_25, eX1_lowestFree_27, ox_O_s, ox_B_s, ox_g_t, ox_A_s, ox_push_s, ox_push_n, ox_some, ox_z0, ox_z1, iI_lt, iI_eq, iI_add, iI_sub, ig_at, if_true, if_false, if_pos, if_neg]
  exact hk
/-- the row shifted by one from 'at' on, k steps from the place p down -/
def inF : Nat → Int → List Int → List Int
  | 0, _, l => l
  | k + 1, p, l => inF k (p - 1) (iu l p (ig l (p - 1)))
theorem inF_len : ∀ (k : Nat) (p : Int) (l : List Int), (inF k p l).length = l.length
  | 0, _, _ => rfl
  | k + 1, p, l => by unfold inF; rw [inF_len k, iu_len]
theorem k1_in_loop {h : ox_H} {o : Nat} {X : ol} (hb : o + 10 < h.length) {z at' lv kd : Int} (a0 : 0 ≤ at') (z0 : 0 ≤ z) (z1 : z < 30) (l1 : (X.2 1).length = 30) (l2 : (X.2 2).length = 30) (l3 : (X.2 3).length = 30) (l4 : (X.2 4).length = 30) (l5 : (X.2 5).length = 30) (n0 : 0 ≤ X.1 0) (n1 : X.1 0 < 30) (ha : at' ≤ X.1 0) : ∀ (k : Nat) (p : Int) (l : List Int), at' ≤ p → p < 30 → p = at' + k → l.length = 30 → oe 35 22 [.ref o, .int (iI at'), .int (iI lv), .int (iI kd), .int (iI z), .int (iI p)] [] (hput h o (oset X 0 l)) = some (some (.int (iI z)), hput h o (oset (oset (oset (oset (oset (nset (oset X 0 (iu (inF k p l) at' z)) 0 (X.1 0 + 1)) 1 (iu (X.2 1) z lv)) 2 (iu (X.2 2) z kd)) 3 (iu (X.2 3) z 0)) 4 (iu (X.2 4) z 0)) 5 (iu (X.2 5) z 0))) := by
  intro k
  induction k with
  | zero =>
    intro p l a b c hl
    rw [eX1_insert_22]
    simp (disch := omega) only [eX1_insert_0, eX1_insert_1, eX1_insert_4, eX1_insert_6, eX1_insert_8, eX1_insert_10, eX1_insert_13, eX1_insert_15, eX1_insert_16, eX1_insert_17, eX1_insert_20, eX1_insert_24, eX1_insert_25, eX1_insert_28, eX1_insert_29, eX1_insert_32, eX1_insert_34, eX1_insert_35, eX1_insert_38, eX1_insert_40, eX1_insert_41, eX1_insert_42, eX1_insert_43, eX1_insert_44, eX1_insert_47, eX1_insert_50, eX1_insert_51, eX1_insert_54, eX1_insert_55, eX1_insert_57, eX1_insert_58, eX1_insert_59, eX1_insert_60, eX1_insert_63, eX1_insert_64, eX1_insert_65, eX1_insert_68, eX1_insert_69, eX1_insert_72, eX1_insert_74, eX1_insert_75, eX1_insert_76, eX1_insert_77, eX1_insert_80, eX1_insert_82, eX1_insert_83, eX1_insert_84, eX1_insert_85, eX1_insert_88, eX1_insert_90, eX1_insert_91, eX1_insert_92, eX1_insert_93, eX1_insert_96, eX1_insert_98, eX1_insert_99, eX1_insert_100, eX1_insert_101, eX1_insert_104, eX1_insert_106, eX1_insert_107, eX1_insert_108, eX1_insert_110, ox_O_s, ox_B_s, ox_g_t, ox_A_s, ox_push_s, ox_push_n, ox_some, ox_z0, ox_z1, iI_lt, iI_eq, iI_add, iI_sub, ig_at, if_true, if_false, if_pos, if_neg, hp_obj, hp_f0, hp_f1, hp_f2, hp_f3, hp_f4, hp_f5, hp_f6, hp_f7, hp_f8, hp_f9, hp_f10, hp_f11, hp_f12, hp_i0, hp_i1, hp_i2, hp_i3, hp_i4, hp_i5, hp_i6, hp_i7, hp_i8, hp_i9, hp_j0, hp_j1, hp_j2, hp_j3, hp_j4, hp_j5, hp_j6, hp_j7, hp_j8, hp_j9, hp_s0, hp_s1, hp_s2, hp_s3, hp_s4, hp_s5, hp_s6, hp_s7, hp_s8, hp_s9, hp_w0, hp_w9, hp_w10, oa_gl, ma_gl, ig_set, os_2, os_1, ns_1, ns_2, os_os, ns_ns]
    rfl
  | succ k ih =>
    intro p l a b c hl
    rw [eX1_insert_22]
    simp (disch := omega) only [eX1_insert_0, eX1_insert_1, eX1_insert_4, eX1_insert_6, eX1_insert_8, eX1_insert_10, eX1_insert_13, eX1_insert_15, eX1_insert_16, eX1_insert_17, eX1_insert_20, eX1_insert_24, eX1_insert_25, eX1_insert_28, eX1_insert_29, eX1_insert_32, eX1_insert_34, eX1_insert_35, eX1_insert_38, eX1_insert_40, eX1_insert_41, eX1_insert_42, eX1_insert_43, eX1_insert_44, eX1_insert_47, eX1_insert_50, eX1_insert_51, eX1_insert_54, eX1_insert_55, eX1_insert_57, eX1_insert_58, eX1_insert_59, eX1_insert_60, eX1_insert_63, eX1_insert_64, eX1_insert_65, eX1_insert_68, eX1_insert_69, eX1_insert_72, eX1_insert_74, eX1_insert_75, eX1_insert_76, eX1_insert_77, eX1_insert_80, eX1_insert_82, eX1_insert_83, eX1_insert_84, eX1_insert_85, eX1_insert_88, eX1_insert_90, eX1_insert_91, eX1_insert_92, eX1_insert_93, eX1_insert_96, eX1_insert_98, eX1_insert_99, eX1_insert_100, eX1_insert_101, eX1_insert_104, eX1_insert_106, eX1_insert_107, eX1_insert_108, eX1_insert_110, ox_O_s, ox_B_s, ox_g_t, ox_A_s, ox_push_s, ox_push_n, ox_some, ox_z0, ox_z1, iI_lt, iI_eq, iI_add, iI_sub, ig_at, if_true, if_false, if_pos, if_neg, hp_obj, hp_f0, hp_f1, hp_f2, hp_f3, hp_f4, hp_f5, hp_f6, hp_f7, hp_f8, hp_f9, hp_f10, hp_f11, hp_f12, hp_i0, hp_i1, hp_i2, hp_i3, hp_i4, hp_i5, hp_i6, hp_i7, hp_i8, hp_i9, hp_j0, hp_j1, hp_j2, hp_j3, hp_j4, hp_j5, hp_j6, hp_j7, hp_j8, hp_j9, hp_s0, hp_s1, hp_s2, hp_s3, hp_s4, hp_s5, hp_s6, hp_s7, hp_s8, hp_s9, hp_w0, hp_w9, hp_w10, oa_gl, ma_gl, ig_set, os_2, os_1, ns_1, ns_2, os_os, ns_ns]
    exact ih (p - 1) _ (by omega) (by omega) (by omega) (by rw [iu_len]; exact hl)
