/-! The class's outline: methods that write, second part. -/
/-- the outline with a heading z put in at a place -/
def inX (X : ol) (z at' lv kd : Int) : ol := oset (oset (oset (oset (oset (nset (oset X 0 (iu (inF (X.1 0 - at').toNat (X.1 0) (X.2 0)) at' z)) 0 (X.1 0 + 1)) 1 (iu (X.2 1) z lv)) 2 (iu (X.2 2) z kd)) 3 (iu (X.2 3) z 0)) 4 (iu (X.2 4) z 0)) 5 (iu (X.2 5) z 0)
theorem k1_insert {h : ox_H} {o : Nat} {X : ol} (hb : o + 10 < h.length) (hV : vx X) {z at' lv kd : Int} (hz : lfP X z) (a0 : 0 ≤ at') (a1 : at' ≤ X.1 0) (n1 : X.1 0 < 30) : oe 35 0 [.ref o, .int (iI at'), .int (iI lv), .int (iI kd), .null, .null] [] (hput h o X) = some (some (.int (iI z)), hput h o (inX X z at' lv kd)) := by
  have hlf := k1_lowestFree (oa_put hb) hV hz
  obtain ⟨vl, vn, vo, vi, va, vfst, vs, vz, vr, vc, vt, vm, vk⟩ := id hV
  have l0 : (X.2 0).length = 30 := vl 0 (by omega)
  have l1 : (X.2 1).length = 30 := vl 1 (by omega)
  have l2 : (X.2 2).length = 30 := vl 2 (by omega)
  have l3 : (X.2 3).length = 30 := vl 3 (by omega)
  have l4 : (X.2 4).length = 30 := vl 4 (by omega)
  have l5 : (X.2 5).length = 30 := vl 5 (by omega)
  have l6 : (X.2 6).length = 5 := vl 6 (by omega)
  have l7 : (X.2 7).length = 7 := vl 7 (by omega)
  have l8 : (X.2 8).length = 12 := vl 8 (by omega)
  have l9 : (X.2 9).length = 12 := vl 9 (by omega)
  obtain ⟨z0, z1, -, -⟩ := hz
  have hk := k1_in_loop hb (lv := lv) (kd := kd) a0 z0 z1 l1 l2 l3 l4 l5 vn.1 n1 a1 (X.1 0 - at').toNat (X.1 0) (X.2 0) a1 n1 (by omega) l0
  rw [os_self] at hk
  simp (disch := omega) only [eX1_insert_0, eX1_insert_1, eX1_insert_4, eX1_insert_6, eX1_insert_8, eX1_insert_10, eX1_insert_13, eX1_insert_15, eX1_insert_16, eX1_insert_17, eX1_insert_20, eX1_insert_24, eX1_insert_25, eX1_insert_28, eX1_insert_29, eX1_insert_32, eX1_insert_34, eX1_insert_35, eX1_insert_38, eX1_insert_40, eX1_insert_41, eX1_insert_42, eX1_insert_43, eX1_insert_44, eX1_insert_47, eX1_insert_50, eX1_insert_51, eX1_insert_54, eX1_insert_55, eX1_insert_57, eX1_insert_58, eX1_insert_59, eX1_insert_60, eX1_insert_63, eX1_insert_64, eX1_insert_65, eX1_insert_68, eX1_insert_69, eX1_insert_72, eX1_insert_74, eX1_insert_75, eX1_insert_76, eX1_insert_77, eX1_insert_80, eX1_insert_82, eX1_insert_83, eX1_insert_84, eX1_insert_85, eX1_insert_88, eX1_insert_90, eX1_insert_91, eX1_insert_92, eX1_insert_93, eX1_insert_96, eX1_insert_98, eX1_insert_99, eX1_insert_100, eX1_insert_101, eX1_insert_104, eX1_insert_106, eX1_insert_107, eX1_insert_108, eX1_insert_110, ox_O_s, ox_B_s, ox_g_t, ox_A_s, ox_push_s, ox_push_n, ox_some, ox_z0, ox_z1, iI_lt, iI_eq, iI_add, iI_sub, ig_at, if_true, if_false, if_pos, if_neg, hp_obj, hp_f0, hp_f1, hp_f2, hp_f3, hp_f4, hp_f5, hp_f6, hp_f7, hp_f8, hp_f9, hp_f10, hp_f11, hp_f12, hp_i0, hp_i1, hp_i2, hp_i3, hp_i4, hp_i5, hp_i6, hp_i7, hp_i8, hp_i9, hp_j0, hp_j1, hp_j2, hp_j3, hp_j4, hp_j5, hp_j6, hp_j7, hp_j8, hp_j9, hp_s0, hp_s1, hp_s2, hp_s3, hp_s4, hp_s5, hp_s6, hp_s7, hp_s8, hp_s9, hp_w0, hp_w9, hp_w10, oa_gl, ma_gl, ig_set, os_2, os_1, ns_1, ns_2, os_os, ns_ns, hlf]
  exact hk
def ulF : Nat → Int → List Int → List Int
  | 0, _, l => l
  | m + 1, i, l => ulF m (i + 1) (iu l (i - 1) (ig l i))
theorem ulF_len : ∀ (k : Nat) (p : Int) (l : List Int), (ulF k p l).length = l.length
  | 0, _, _ => rfl
  | k + 1, p, l => by unfold ulF; rw [ulF_len k, iu_len]
theorem k1_ul_loop {h : ox_H} {o : Nat} {X : ol} (hb : o + 10 < h.length) (r0 : 0 ≤ X.1 2) (r1 : X.1 2 ≤ 12) (v1 : Value) : ∀ (m : Nat) (i : Int) (a b : List Int), 1 ≤ i → i + m = X.1 2 → a.length = 12 → b.length = 12 → oe 43 4 [.ref o, v1, .int (iI i)] [] (hput h o (oset (oset X 8 a) 9 b)) = some (none, hput h o (nset (oset (oset X 8 (ulF m i a)) 9 (ulF m i b)) 2 (X.1 2 - 1))) := by
  intro m
  induction m with
  | zero =>
    intro i a b i0 im ha hb'
    rw [eX1_unlink_4]
    simp (disch := omega) only [eX1_unlink_0, eX1_unlink_1, eX1_unlink_2, eX1_unlink_3, eX1_unlink_5, eX1_unlink_6, eX1_unlink_9, eX1_unlink_12, eX1_unlink_13, eX1_unlink_16, eX1_unlink_17, eX1_unlink_18, eX1_unlink_19, eX1_unlink_20, eX1_unlink_23, eX1_unlink_24, eX1_unlink_25, eX1_unlink_26, eX1_unlink_27, eX1_unlink_30, eX1_unlink_31, eX1_unlink_32, eX1_unlink_33, eX1_unlink_34, eX1_unlink_37, eX1_unlink_38, eX1_unlink_39, eX1_unlink_40, eX1_unlink_43, eX1_unlink_46, eX1_unlink_47, eX1_unlink_48, eX1_unlink_51, eX1_unlink_52, eX1_unlink_53, eX1_unlink_56, ox_O_s, ox_B_s, ox_g_t, ox_A_s, ox_push_s, ox_push_n, ox_some, ox_z0, ox_z1, iI_lt, iI_eq, iI_add, iI_sub, ig_at, if_true, if_false, if_pos, if_neg, hp_obj, hp_f0, hp_f1, hp_f2, hp_f3, hp_f4, hp_f5, hp_f6, hp_f7, hp_f8, hp_f9, hp_f10, hp_f11, hp_f12, hp_i0, hp_i1, hp_i2, hp_i3, hp_i4, hp_i5, hp_i6, hp_i7, hp_i8, hp_i9, hp_j0, hp_j1, hp_j2, hp_j3, hp_j4, hp_j5, hp_j6, hp_j7, hp_j8, hp_j9, hp_s0, hp_s1, hp_s2, hp_s3, hp_s4, hp_s5, hp_s6, hp_s7, hp_s8, hp_s9, hp_w0, hp_w9, hp_w10, oa_gl, ma_gl, ig_set, os_2, os_1, ns_1, ns_2, os_os, ns_ns]
    rfl
  | succ m ih =>
    intro i a b i0 im ha hb'
    have e1 : ∀ l : List Int, oset (oset (oset (oset X 8 a) 9 b) 8 l) 9 (iu b (i - 1) (ig b i)) = oset (oset X 8 l) 9 (iu b (i - 1) (ig b i)) := fun l => by
      unfold oset
      congr 1
      funext j
      by_cases c : j = 9 <;> by_cases c' : j = 8 <;> simp [c, c']
    rw [eX1_unlink_4]
    simp (disch := omega) only [eX1_unlink_0, eX1_unlink_1, eX1_unlink_2, eX1_unlink_3, eX1_unlink_5, eX1_unlink_6, eX1_unlink_9, eX1_unlink_12, eX1_unlink_13, eX1_unlink_16, eX1_unlink_17, eX1_unlink_18, eX1_unlink_19, eX1_unlink_20, eX1_unlink_23, eX1_unlink_24, eX1_unlink_25, eX1_unlink_26, eX1_unlink_27, eX1_unlink_30, eX1_unlink_31, eX1_unlink_32, eX1_unlink_33, eX1_unlink_34, eX1_unlink_37, eX1_unlink_38, eX1_unlink_39, eX1_unlink_40, eX1_unlink_43, eX1_unlink_46, eX1_unlink_47, eX1_unlink_48, eX1_unlink_51, eX1_unlink_52, eX1_unlink_53, eX1_unlink_56, ox_O_s, ox_B_s, ox_g_t, ox_A_s, ox_push_s, ox_push_n, ox_some, ox_z0, ox_z1, iI_lt, iI_eq, iI_add, iI_sub, ig_at, if_true, if_false, if_pos, if_neg, hp_obj, hp_f0, hp_f1, hp_f2, hp_f3, hp_f4, hp_f5, hp_f6, hp_f7, hp_f8, hp_f9, hp_f10, hp_f11, hp_f12, hp_i0, hp_i1, hp_i2, hp_i3, hp_i4, hp_i5, hp_i6, hp_i7, hp_i8, hp_i9, hp_j0, hp_j1, hp_j2, hp_j3, hp_j4, hp_j5, hp_j6, hp_j7, hp_j8, hp_j9, hp_s0, hp_s1, hp_s2, hp_s3, hp_s4, hp_s5, hp_s6, hp_s7, hp_s8, hp_s9, hp_w0, hp_w9, hp_w10, oa_gl, ma_gl, ig_set, os_2, os_1, ns_1, ns_2, os_os, ns_ns, e1]
    exact ih (i + 1) _ _ (by omega) (by omega) (by rw [iu_len]; exact ha) (by rw [iu_len]; exact hb')
def ulX (X : ol) (k : Int) : ol := nset (oset (oset X 8 (ulF (X.1 2 - k - 1).toNat (k + 1) (X.2 8))) 9 (ulF (X.1 2 - k - 1).toNat (k + 1) (X.2 9))) 2 (X.1 2 - 1)
theorem os_89 {X : ol} : oset (oset X 8 (X.2 8)) 9 (X.2 9) = X := by
  rw [os_self]
  exact os_self
theorem k1_unlink {h : ox_H} {o : Nat} {X : ol} (hb : o + 10 < h.length) (r1 : X.1 2 ≤ 12) (l8 : (X.2 8).length = 12) (l9 : (X.2 9).length = 12) {k : Int} (k0 : 0 ≤ k) (k1 : k < X.1 2) : oe 43 0 [.ref o, .int (iI k), .null] [] (hput h o X) = some (none, hput h o (ulX X k)) := by
  have hk := k1_ul_loop hb (by omega) r1 (.int (iI k)) (X.1 2 - k - 1).toNat (k + 1) (X.2 8) (X.2 9) (by omega) (by omega) l8 l9
  rw [os_89] at hk
  simp (disch := omega) only [eX1_unlink_0, eX1_unlink_1, eX1_unlink_2, eX1_unlink_3, eX1_unlink_5, eX1_unlink_6, eX1_unlink_9, eX1_unlink_12, eX1_unlink_13, eX1_unlink_16, eX1_unlink_17, eX1_unlink_18, eX1_unlink_19, eX1_unlink_20, eX1_unlink_23, eX1_unlink_24, eX1_unlink_25, eX1_unlink_26, eX1_unlink_27, eX1_unlink_30, eX1_unlink_31, eX1_unlink_32, eX1_unlink_33, eX1_unlink_34, eX1_unlink_37, eX1_unlink_38, eX1_unlink_39, eX1_unlink_40, eX1_unlink_43, eX1_unlink_46, eX1_unlink_47, eX1_unlink_48, eX1_unlink_51, eX1_unlink_52, eX1_unlink_53, eX1_unlink_56, ox_O_s, ox_B_s, ox_g_t, ox_A_s, ox_push_s, ox_push_n, ox_some, ox_z0, ox_z1, iI_lt, iI_eq, iI_add, iI_sub, ig_at, if_true, if_false, if_pos, if_neg, hp_obj, hp_f0, hp_f1, hp_f2, hp_f3, hp_f4, hp_f5, hp_f6, hp_f7, hp_f8, hp_f9, hp_f10, hp_f11, hp_f12, hp_i0, hp_i1, hp_i2, hp_i3, hp_i4, hp_i5, hp_i6, hp_i7, hp_i8, hp_i9, hp_j0, hp_j1, hp_j2, hp_j3, hp_j4, hp_j5, hp_j6, hp_j7, hp_j8, hp_j9, hp_s0, hp_s1, hp_s2, hp_s3, hp_s4, hp_s5, hp_s6, hp_s7, hp_s8, hp_s9, hp_w0, hp_w9, hp_w10, oa_gl, ma_gl, ig_set, os_2, os_1, ns_1, ns_2, os_os, ns_ns]
  exact hk
/-- the heading z goes: what becomes of the references below k -/
def drF (z : Int) : Nat → ol → ol
  | 0, X => X
  | k + 1, X => if ig (X.2 8) k = z then drF z k (ulX X k) else if ig (X.2 9) k = z then drF z k (oset X 9 (iu (X.2 9) k (-9))) else drF z k X
/-- only the references are looked at, and changed -/
def rfS (X X' : ol) : Prop := (∀ j, j ≠ 2 → X'.1 j = X.1 j) ∧ (∀ j, j ≠ 8 → j ≠ 9 → X'.2 j = X.2 j) ∧ (X'.2 8).length = (X.2 8).length ∧ (X'.2 9).length = (X.2 9).length
theorem rfS_rf (X : ol) : rfS X X := ⟨fun _ _ => rfl, fun _ _ _ => rfl, rfl, rfl⟩
theorem rfS_tr {X Y Z : ol} (a : rfS X Y) (b : rfS Y Z) : rfS X Z := ⟨fun j h => (b.1 j h).trans (a.1 j h), fun j h h' => (b.2.1 j h h').trans (a.2.1 j h h'), b.2.2.1.trans a.2.2.1, b.2.2.2.trans a.2.2.2⟩
theorem rfS_ul (X : ol) (k : Int) : rfS X (ulX X k) := by
  refine ⟨fun j h => ?_, fun j h h' => ?_, ?_, ?_⟩
  · show (if j = 2 then _ else X.1 j) = _
    rw [if_neg h]
  · show (if j = 9 then _ else if j = 8 then _ else X.2 j) = _
    rw [if_neg h', if_neg h]
  · exact ulF_len _ _ _
  · exact ulF_len _ _ _
theorem rfS_br (X : ol) (k : Int) : rfS X (oset X 9 (iu (X.2 9) k (-9))) := by
  refine ⟨fun j h => rfl, fun j h h' => ?_, rfl, iu_len _ _ _⟩
  show (if j = 9 then _ else X.2 j) = _
  rw [if_neg h']
theorem rfS_dr {z : Int} : ∀ (k : Nat) (X : ol), rfS X (drF z k X)
  | 0, X => rfS_rf X
  | k + 1, X => by
    unfold drF
    split
    · exact rfS_tr (rfS_ul X k) (rfS_dr k _)
    · split
      · exact rfS_tr (rfS_br X k) (rfS_dr k _)
      · exact rfS_dr k X
/-- the references are numbers that the machine can hold -/
def rfB (X : ol) : Prop := (X.2 8).length = 12 ∧ (X.2 9).length = 12 ∧ 0 ≤ X.1 2 ∧ X.1 2 ≤ 12 ∧ ∀ k, 0 ≤ k → k < X.1 2 → (-9 ≤ ig (X.2 8) k ∧ ig (X.2 8) k < 100) ∧ -9 ≤ ig (X.2 9) k ∧ ig (X.2 9) k < 100
theorem ulF_ig : ∀ (m : Nat) (i : Int) (l : List Int) (q : Int), 1 ≤ i → i + m ≤ l.length → 0 ≤ q → ig (ulF m i l) q = if i - 1 ≤ q ∧ q < i - 1 + m then ig l (q + 1) else ig l q
  | 0, i, l, q, h1, h2, h3 => by
    rw [if_neg (by omega)]
    rfl
  | m + 1, i, l, q, h1, h2, h3 => by
    unfold ulF
    rw [ulF_ig m (i + 1) _ q (by omega) (by rw [iu_len]; omega) h3]
    by_cases c : i + 1 - 1 ≤ q ∧ q < i + 1 - 1 + m
    · rw [if_pos c, if_pos (by omega), ig_ne (by omega) (by omega) (by omega)]
    · rw [if_neg c]
      by_cases e : q = i - 1
      · rw [e, ig_self (by omega) (by omega), if_pos (by omega), show i - 1 + 1 = i by omega]
      · rw [ig_ne (by omega) h3 (by omega), if_neg (by omega)]
theorem ulX_8 {X : ol} {k q : Int} (hB : rfB X) (k0 : 0 ≤ k) (k1 : k < X.1 2) (q0 : 0 ≤ q) (q1 : q < X.1 2 - 1) : ig ((ulX X k).2 8) q = ig (X.2 8) (if q < k then q else q + 1) ∧ ig ((ulX X k).2 9) q = ig (X.2 9) (if q < k then q else q + 1) := by
  obtain ⟨b1, b2, b3, b4, -⟩ := hB
  refine ⟨?_, ?_⟩
  · show ig (ulF _ _ (X.2 8)) q = _
    rw [ulF_ig _ _ _ _ (by omega) (by omega) q0]
    by_cases c : q < k
    · rw [if_neg (by omega), if_pos c]
    · rw [if_pos (by omega), if_neg c]
  · show ig (ulF _ _ (X.2 9)) q = _
    rw [ulF_ig _ _ _ _ (by omega) (by omega) q0]
    by_cases c : q < k
    · rw [if_neg (by omega), if_pos c]
    · rw [if_pos (by omega), if_neg c]
theorem rfB_ul {X : ol} {k : Int} (hB : rfB X) (k0 : 0 ≤ k) (k1 : k < X.1 2) : rfB (ulX X k) := by
  have hB' := hB
  obtain ⟨b1, b2, b3, b4, b5⟩ := hB
  refine ⟨by rw [(rfS_ul X k).2.2.1]; exact b1, by rw [(rfS_ul X k).2.2.2]; exact b2, by show 0 ≤ X.1 2 - 1; omega, by show X.1 2 - 1 ≤ 12; omega, fun q q0 q1 => ?_⟩
  have q1 : q < X.1 2 - 1 := q1
  rw [(ulX_8 hB' k0 k1 q0 q1).1, (ulX_8 hB' k0 k1 q0 q1).2]
  split
  · exact b5 q q0 (by omega)
  · exact b5 (q + 1) (by omega) (by omega)
theorem rfB_br {X : ol} {k : Int} (hB : rfB X) (k0 : 0 ≤ k) (k1 : k < X.1 2) : rfB (oset X 9 (iu (X.2 9) k (-9))) := by
  obtain ⟨b1, b2, b3, b4, b5⟩ := hB
  refine ⟨b1, by rw [(rfS_br X k).2.2.2]; exact b2, b3, b4, fun q q0 q1 => ⟨(b5 q q0 q1).1, ?_⟩⟩
  show -9 ≤ ig (iu (X.2 9) k (-9)) q ∧ ig (iu (X.2 9) k (-9)) q < 100
  rw [ig_iu k0 (by omega) q0]
  split
  · omega
  · exact (b5 q q0 q1).2
theorem k1_dr_loop {h : ox_H} {o : Nat} (hb : o + 10 < h.length) {z : Int} (z0 : 0 ≤ z) (z1 : z < 30) : ∀ (k : Nat) (X : ol), rfB X → (k : Int) ≤ X.1 2 → oe 44 7 [.ref o, .int (iI z), .int (iI ((k : Int) - 1))] [] (hput h o X) = some (none, hput h o (drF z k X)) ∧ rfB (drF z k X) := by
  intro k
  induction k with
  | zero =>
    intro X hB hk
    refine ⟨?_, hB⟩
    rw [eX1_dropReferences_7]
    simp (disch := omega) only [eX1_dropReferences_0, eX1_dropReferences_1, eX1_dropReferences_4, eX1_dropReferences_5, eX1_dropReferences_6, eX1_dropReferences_8, eX1_dropReferences_11, eX1_dropReferences_12, eX1_dropReferences_15, eX1_dropReferences_16, eX1_dropReferences_17, eX1_dropReferences_18, eX1_dropReferences_21, eX1_dropReferences_22, eX1_dropReferences_23, eX1_dropReferences_26, eX1_dropReferences_29, eX1_dropReferences_30, eX1_dropReferences_33, eX1_dropReferences_34, eX1_dropReferences_35, eX1_dropReferences_36, eX1_dropReferences_39, eX1_dropReferences_40, eX1_dropReferences_43, eX1_dropReferences_44, eX1_dropReferences_46, eX1_dropReferences_47, eX1_dropReferences_50, eX1_dropReferences_53, ox_O_s, ox_B_s, ox_g_t, ox_A_s, ox_push_s, ox_push_n, ox_some, ox_z0, ox_z1, iI_lt, iI_eq, iI_add, iI_sub, ig_at, if_true, if_false, if_pos, if_neg, hp_obj, hp_f0, hp_f1, hp_f2, hp_f3, hp_f4, hp_f5, hp_f6, hp_f7, hp_f8, hp_f9, hp_f10, hp_f11, hp_f12, hp_i0, hp_i1, hp_i2, hp_i3, hp_i4, hp_i5, hp_i6, hp_i7, hp_i8, hp_i9, hp_j0, hp_j1, hp_j2, hp_j3, hp_j4, hp_j5, hp_j6, hp_j7, hp_j8, hp_j9, hp_s0, hp_s1, hp_s2, hp_s3, hp_s4, hp_s5, hp_s6, hp_s7, hp_s8, hp_s9, hp_w0, hp_w9, hp_w10, oa_gl, ma_gl, ig_set, os_2, os_1, ns_1, ns_2, os_os, ns_ns]
    rfl
  | succ k ih =>
    intro X hB hk
    have b5 := hB.2.2.2.2 k (by omega) (by omega)
    have b1 := hB.1
    have b2 := hB.2.1
    have b4 := hB.2.2.2.1
    rw [eX1_dropReferences_7, show ((k + 1 : Nat) : Int) - 1 = (k : Int) by omega]
    unfold drF
    by_cases c : ig (X.2 8) k = z
    · rw [if_pos c]
      have hu := k1_unlink hb b4 b1 b2 (show (0 : Int) ≤ k by omega) (show (k : Int) < X.1 2 by omega)
      have i1 := ih (ulX X k) (rfB_ul hB (by omega) (by omega)) (by show (k : Int) ≤ X.1 2 - 1; omega)
      refine ⟨?_, i1.2⟩
      simp (disch := omega) only [eX1_dropReferences_0, eX1_dropReferences_1, eX1_dropReferences_4, eX1_dropReferences_5, eX1_dropReferences_6, eX1_dropReferences_8, eX1_dropReferences_11, eX1_dropReferences_12, eX1_dropReferences_15, eX1_dropReferences_16, eX1_dropReferences_17, eX1_dropReferences_18, eX1_dropReferences_21, eX1_dropReferences_22, eX1_dropReferences_23, eX1_dropReferences_26, eX1_dropReferences_29, eX1_dropReferences_30, eX1_dropReferences_33, eX1_dropReferences_34, eX1_dropReferences_35, eX1_dropReferences_36, eX1_dropReferences_39, eX1_dropReferences_40, eX1_dropReferences_43, eX1_dropReferences_44, eX1_dropReferences_46, eX1_dropReferences_47, eX1_dropReferences_50, eX1_dropReferences_53, ox_O_s, ox_B_s, ox_g_t, ox_A_s, ox_push_s, ox_push_n, ox_some, ox_z0, ox_z1, iI_lt, iI_eq, iI_add, iI_sub, ig_at, if_true, if_false, if_pos, if_neg, hp_obj, hp_f0, hp_f1, hp_f2, hp_f3, hp_f4, hp_f5, hp_f6, hp_f7, hp_f8, hp_f9, hp_f10, hp_f11, hp_f12, hp_i0, hp_i1, hp_i2, hp_i3, hp_i4, hp_i5, hp_i6, hp_i7, hp_i8, hp_i9, hp_j0, hp_j1, hp_j2, hp_j3, hp_j4, hp_j5, hp_j6, hp_j7, hp_j8, hp_j9, hp_s0, hp_s1, hp_s2, hp_s3, hp_s4, hp_s5, hp_s6, hp_s7, hp_s8, hp_s9, hp_w0, hp_w9, hp_w10, oa_gl, ma_gl, ig_set, os_2, os_1, ns_1, ns_2, os_os, ns_ns, hu]
      exact i1.1
    · rw [if_neg c]
      by_cases c2 : ig (X.2 9) k = z
      · rw [if_pos c2]
        have i1 := ih (oset X 9 (iu (X.2 9) k (-9))) (rfB_br hB (by omega) (by omega)) (by show (k : Int) ≤ X.1 2; omega)
        refine ⟨?_, i1.2⟩
        simp (disch := omega) only [eX1_dropReferences_0, eX1_dropReferences_1, eX1_dropReferences_4, eX1_dropReferences_5, eX1_dropReferences_6, eX1_dropReferences_8, eX1_dropReferences_11, eX1_dropReferences_12, eX1_dropReferences_15, eX1_dropReferences_16, eX1_dropReferences_17, eX1_dropReferences_18, eX1_dropReferences_21, eX1_dropReferences_22, eX1_dropReferences_23, eX1_dropReferences_26, eX1_dropReferences_29, eX1_dropReferences_30, eX1_dropReferences_33, eX1_dropReferences_34, eX1_dropReferences_35, eX1_dropReferences_36, eX1_dropReferences_39, eX1_dropReferences_40, eX1_dropReferences_43, eX1_dropReferences_44, eX1_dropReferences_46, eX1_dropReferences_47, eX1_dropReferences_50, eX1_dropReferences_53, ox_O_s, ox_B_s, ox_g_t, ox_A_s, ox_push_s, ox_push_n, ox_some, ox_z0, ox_z1, iI_lt, iI_eq, iI_add, iI_sub, ig_at, if_true, if_false, if_pos, if_neg, hp_obj, hp_f0, hp_f1, hp_f2, hp_f3, hp_f4, hp_f5, hp_f6, hp_f7, hp_f8, hp_f9, hp_f10, hp_f11, hp_f12, hp_i0, hp_i1, hp_i2, hp_i3, hp_i4, hp_i5, hp_i6, hp_i7, hp_i8, hp_i9, hp_j0, hp_j1, hp_j2, hp_j3, hp_j4, hp_j5, hp_j6, hp_j7, hp_j8, hp_j9, hp_s0, hp_s1, hp_s2, hp_s3, hp_s4, hp_s5, hp_s6, hp_s7, hp_s8, hp_s9, hp_w0, hp_w9, hp_w10, oa_gl, ma_gl, ig_set, os_2, os_1, ns_1, ns_2, os_os, ns_ns]
        exact i1.1
      · rw [if_neg c2]
        have i1 := ih X hB (by omega)
        refine ⟨?_, i1.2⟩
        simp (disch := omega) only [eX1_dropReferences_0, eX1_dropReferences_1, eX1_dropReferences_4, eX1_dropReferences_5, eX1_dropReferences_6, eX1_dropReferences_8, eX1_dropReferences_11, eX1_dropReferences_12, eX1_dropReferences_15, eX1_dropReferences_16, eX1_dropReferences_17, eX1_dropReferences_18, eX1_dropReferences_21, eX1_dropReferences_22, eX1_dropReferences_23, eX1_dropReferences_26, eX1_dropReferences_29, eX1_dropReferences_30, eX1_dropReferences_33, eX1_dropReferences_34, eX1_dropReferences_35, eX1_dropReferences_36, eX1_dropReferences_39, eX1_dropReferences_40, eX1_dropReferences_43, eX1_dropReferences_44, eX1_dropReferences_46, eX1_dropReferences_47, eX1_dropReferences_50, eX1_dropReferences_53, ox_O_s, ox_B_s, ox_g_t, ox_A_s, ox_push_s, ox_push_n, ox_some, ox_z0, ox_z1, iI_lt, iI_eq, iI_add, iI_sub, ig_at, if_true, if_false, if_pos, if_neg, hp_obj, hp_f0, hp_f1, hp_f2, hp_f3, hp_f4, hp_f5, hp_f6, hp_f7, hp_f8, hp_f9, hp_f10, hp_f11, hp_f12, hp_i0, hp_i1, hp_i2, hp_i3, hp_i4, hp_i5, hp_i6, hp_i7, hp_i8, hp_i9, hp_j0, hp_j1, hp_j2, hp_j3, hp_j4, hp_j5, hp_j6, hp_j7, hp_j8, hp_j9, hp_s0, hp_s1, hp_s2, hp_s3, hp_s4, hp_s5, hp_s6, hp_s7, hp_s8, hp_s9, hp_w0, hp_w9, hp_w10, oa_gl, ma_gl, ig_set, os_2, os_1, ns_1, ns_2, os_os, ns_ns]
        exact i1.1
def drX (X : ol) (z : Int) : ol := drF z (X.1 2).toNat X
theorem k1_dropReferences {h : ox_H} {o : Nat} {X : ol} (hb : o + 10 < h.length) (hB : rfB X) {z : Int} (z0 : 0 ≤ z) (z1 : z < 30) : oe 44 0 [.ref o, .int (iI z), .null] [] (hput h o X) = some (none, hput h o (drX X z)) ∧ rfB (drX X z) := by
  have b3 := hB.2.2.1
  have hk := k1_dr_loop hb z0 z1 (X.1 2).toNat X hB (by omega)
  refine ⟨?_, hk.2⟩
  have hk := hk.1
  rw [show (((X.1 2).toNat : Nat) : Int) = X.1 2 by omega] at hk
  simp (disch := omega) only [eX1_dropReferences_0, eX1_dropReferences_1, eX1_dropReferences_4, eX1_dropReferences_5, eX1_dropReferences_6, eX1_dropReferences_8, eX1_dropReferences_11, eX1_dropReferences_12, eX1_dropReferences_15, eX1_dropReferences_16, eX1_dropReferences_17, eX1_dropReferences_18, eX1_dropReferences_21, eX1_dropReferences_22, eX1_dropReferences_23, eX1_dropReferences_26, eX1_dropReferences_29, eX1_dropReferences_30, eX1_dropReferences_33, eX1_dropReferences_34, eX1_dropReferences_35, eX1_dropReferences_36, eX1_dropReferences_39, eX1_dropReferences_40, eX1_dropReferences_43, eX1_dropReferences_44, eX1_dropReferences_46, eX1_dropReferences_47, eX1_dropReferences_50, eX1_dropReferences_53, ox_O_s, ox_B_s, ox_g_t, ox_A_s, ox_push_s, ox_push_n, ox_some, ox_z0, ox_z1, iI_lt, iI_eq, iI_add, iI_sub, ig_at, if_true, if_false, if_pos, if_neg, hp_obj, hp_f0, hp_f1, hp_f2, hp_f3, hp_f4, hp_f5, hp_f6, hp_f7, hp_f8, hp_f9, hp_f10, hp_f11, hp_f12, hp_i0, hp_i1, hp_i2, hp_i3, hp_i4, hp_i5, hp_i6, hp_i7, hp_i8, hp_i9, hp_j0, hp_j1, hp_j2, hp_j3, hp_j4, hp_j5, hp_j6, hp_j7, hp_j8, hp_j9, hp_s0, hp_s1, hp_s2, hp_s3, hp_s4, hp_s5, hp_s6, hp_s7, hp_s8, hp_s9, hp_w0, hp_w9, hp_w10, oa_gl, ma_gl, ig_set, os_2, os_1, ns_1, ns_2, os_os, ns_ns]
  exact hk
