/-! copyFrom, and the line of signs. -/
theorem hput_congr {h : ox_H} {o : Nat} {X X' : ol} (hb : o + 10 < h.length) (h1 : ∀ j, j < 3 → X.1 j = X'.1 j) (h2 : ∀ j, j < 10 → X.2 j = X'.2 j) : hput h o X = hput h o X' := by
  have hg := gp_gO (tag := 1) (F := oa_fs) (X := X) hb
  refine gp_ext gp_len ⟨?_, fun k hk => ?_⟩ (fun a ha => gp_out ha)
  · rw [hg.1]
    unfold oa_fs
    rw [h1 0 (by decide), h1 1 (by decide), h1 2 (by decide)]
  · rw [hg.2 k hk, h2 k hk]
theorem k1_cr {h : ox_H} {o o' : Nat} {X Z : ol} (hb : o + 10 < h.length) (hO : OA h o' X) (hd : o' + 10 < o ∨ o + 10 < o') (hX : ol_len X) {k : Nat} (hk : k < 10) (hZ : (Z.2 k).length = oa_ln.getD k 0) : oe 11 0 [.ref (o' + 1 + k), .ref (o + 1 + k)] [] (hput h o Z) = some (none, hput h o (oset Z k (X.2 k))) := by
  have hg := gp_gO (tag := 1) (F := oa_fs) (X := Z) hb
  have h1 : oa_ln.getD k 0 ≤ 1000 := by
    match k, hk with
    | 0, _ => decide
    | 1, _ => decide
    | 2, _ => decide
    | 3, _ => decide
    | 4, _ => decide
    | 5, _ => decide
    | 6, _ => decide
    | 7, _ => decide
    | 8, _ => decide
    | 9, _ => decide
  rw [k1_copyRow (l := X.2 k) (l' := Z.2 k) (by rw [gp_out (by omega)]; exact hO.2 k hk) (hg.2 k hk) (by rw [hX k hk, hZ]) (by rw [hX k hk]; exact h1)]
  rw [gp_row (fun _ _ => rfl) hb hk]
theorem k1_copyFrom {h : ox_H} {o o' : Nat} {X Z : ol} (hb : o + 10 < h.length) (hO : OA h o' X) (hd : o' + 10 < o ∨ o + 10 < o') (hX : ol_len X) (hZ : ol_len Z) : oe 10 0 [.ref o, .ref o'] [] (hput h o Z) = some (none, hput h o X) := by
  obtain ⟨gO, g0, g1, g2, g3, g4, g5, g6, g7, g8, g9, g10, g11, g12, gi0, gi1, gi2, gi3, gi4, gi5, gi6, gi7, gi8, gi9, gj0, gj1, gj2, gj3, gj4, gj5, gj6, gj7, gj8, gj9⟩ := oa_facts hO
  have c0 : oe 11 0 [.ref (o' + 1), .ref (o + 1)] [] (hput h o (nset Z 0 (X.1 0))) = some (none, hput h o (oset (nset Z 0 (X.1 0)) 0 (X.2 0))) := k1_cr hb hO hd hX (show 0 < 10 by decide) (hZ 0 (by decide))
  have c1 : oe 11 0 [.ref (o' + 2), .ref (o + 2)] [] (hput h o (oset (nset Z 0 (X.1 0)) 0 (X.2 0))) = some (none, hput h o (oset (oset (nset Z 0 (X.1 0)) 0 (X.2 0)) 1 (X.2 1))) := k1_cr hb hO hd hX (show 1 < 10 by decide) (hZ 1 (by decide))
  have c2 : oe 11 0 [.ref (o' + 3), .ref (o + 3)] [] (hput h o (oset (oset (nset Z 0 (X.1 0)) 0 (X.2 0)) 1 (X.2 1))) = some (none, hput h o (oset (oset (oset (nset Z 0 (X.1 0)) 0 (X.2 0)) 1 (X.2 1)) 2 (X.2 2))) := k1_cr hb hO hd hX (show 2 < 10 by decide) (hZ 2 (by decide))
  have c3 : oe 11 0 [.ref (o' + 4), .ref (o + 4)] [] (hput h o (oset (oset (oset (nset Z 0 (X.1 0)) 0 (X.2 0)) 1 (X.2 1)) 2 (X.2 2))) = some (none, hput h o (oset (oset (oset (oset (nset Z 0 (X.1 0)) 0 (X.2 0)) 1 (X.2 1)) 2 (X.2 2)) 3 (X.2 3))) := k1_cr hb hO hd hX (show 3 < 10 by decide) (hZ 3 (by decide))
  have c4 : oe 11 0 [.ref (o' + 5), .ref (o + 5)] [] (hput h o (oset (oset (oset (oset (nset Z 0 (X.1 0)) 0 (X.2 0)) 1 (X.2 1)) 2 (X.2 2)) 3 (X.2 3))) = some (none, hput h o (oset (oset (oset (oset (oset (nset Z 0 (X.1 0)) 0 (X.2 0)) 1 (X.2 1)) 2 (X.2 2)) 3 (X.2 3)) 4 (X.2 4))) := k1_cr hb hO hd hX (show 4 < 10 by decide) (hZ 4 (by decide))
  have c5 : oe 11 0 [.ref (o' + 6), .ref (o + 6)] [] (hput h o (oset (oset (oset (oset (oset (nset Z 0 (X.1 0)) 0 (X.2 0)) 1 (X.2 1)) 2 (X.2 2)) 3 (X.2 3)) 4 (X.2 4))) = some (none, hput h o (oset (oset (oset (oset (oset (oset (nset Z 0 (X.1 0)) 0 (X.2 0)) 1 (X.2 1)) 2 (X.2 2)) 3 (X.2 3)) 4 (X.2 4)) 5 (X.2 5))) := k1_cr hb hO hd hX (show 5 < 10 by decide) (hZ 5 (by decide))
  have c6 : oe 11 0 [.ref (o' + 7), .ref (o + 7)] [] (hput h o (oset (oset (oset (oset (oset (oset (nset Z 0 (X.1 0)) 0 (X.2 0)) 1 (X.2 1)) 2 (X.2 2)) 3 (X.2 3)) 4 (X.2 4)) 5 (X.2 5))) = some (none, hput h o (oset (oset (oset (oset (oset (oset (oset (nset Z 0 (X.1 0)) 0 (X.2 0)) 1 (X.2 1)) 2 (X.2 2)) 3 (X.2 3)) 4 (X.2 4)) 5 (X.2 5)) 6 (X.2 6))) := k1_cr hb hO hd hX (show 6 < 10 by decide) (hZ 6 (by decide))
  have c7 : oe 11 0 [.ref (o' + 8), .ref (o + 8)] [] (hput h o (oset (oset (oset (oset (oset (oset (oset (nset Z 0 (X.1 0)) 0 (X.2 0)) 1 (X.2 1)) 2 (X.2 2)) 3 (X.2 3)) 4 (X.2 4)) 5 (X.2 5)) 6 (X.2 6))) = some (none, hput h o (oset (oset (oset (oset (oset (oset (oset (oset (nset Z 0 (X.1 0)) 0 (X.2 0)) 1 (X.2 1)) 2 (X.2 2)) 3 (X.2 3)) 4 (X.2 4)) 5 (X.2 5)) 6 (X.2 6)) 7 (X.2 7))) := k1_cr hb hO hd hX (show 7 < 10 by decide) (hZ 7 (by decide))
  have c8 : oe 11 0 [.ref (o' + 9), .ref (o + 9)] [] (hput h o (nset (nset (oset (oset (oset (oset (oset (oset (oset (oset (nset Z 0 (X.1 0)) 0 (X.2 0)) 1 (X.2 1)) 2 (X.2 2)) 3 (X.2 3)) 4 (X.2 4)) 5 (X.2 5)) 6 (X.2 6)) 7 (X.2 7)) 1 (X.1 1)) 2 (X.1 2))) = some (none, hput h o (oset (nset (nset (oset (oset (oset (oset (oset (oset (oset (oset (nset Z 0 (X.1 0)) 0 (X.2 0)) 1 (X.2 1)) 2 (X.2 2)) 3 (X.2 3)) 4 (X.2 4)) 5 (X.2 5)) 6 (X.2 6)) 7 (X.2 7)) 1 (X.1 1)) 2 (X.1 2)) 8 (X.2 8))) := k1_cr hb hO hd hX (show 8 < 10 by decide) (hZ 8 (by decide))
  have c9 : oe 11 0 [.ref (o' + 10), .ref (o + 10)] [] (hput h o (oset (nset (nset (oset (oset (oset (oset (oset (oset (oset (oset (nset Z 0 (X.1 0)) 0 (X.2 0)) 1 (X.2 1)) 2 (X.2 2)) 3 (X.2 3)) 4 (X.2 4)) 5 (X.2 5)) 6 (X.2 6)) 7 (X.2 7)) 1 (X.1 1)) 2 (X.1 2)) 8 (X.2 8))) = some (none, hput h o (oset (oset (nset (nset (oset (oset (oset (oset (oset (oset (oset (oset (nset Z 0 (X.1 0)) 0 (X.2 0)) 1 (X.2 1)) 2 (X.2 2)) 3 (X.2 3)) 4 (X.2 4)) 5 (X.2 5)) 6 (X.2 6)) 7 (X.2 7)) 1 (X.1 1)) 2 (X.1 2)) 8 (X.2 8)) 9 (X.2 9))) := k1_cr hb hO hd hX (show 9 < 10 by decide) (hZ 9 (by decide))
  have fin : hput h o (oset (oset (nset (nset (oset (oset (oset (oset (oset (oset (oset (oset (nset Z 0 (X.1 0)) 0 (X.2 0)) 1 (X.2 1)) 2 (X.2 2)) 3 (X.2 3)) 4 (X.2 4)) 5 (X.2 5)) 6 (X.2 6)) 7 (X.2 7)) 1 (X.1 1)) 2 (X.1 2)) 8 (X.2 8)) 9 (X.2 9)) = hput h o X := by
    refine hput_congr hb (fun j hj => ?_) (fun j hj => ?_)
    · match j, hj with
      | 0, _ => rfl
      | 1, _ => rfl
      | 2, _ => rfl
    · match j, hj with
      | 0, _ => rfl
      | 1, _ => rfl
      | 2, _ => rfl
      | 3, _ => rfl
      | 4, _ => rfl
      | 5, _ => rfl
      | 6, _ => rfl
      | 7, _ => rfl
      | 8, _ => rfl
      | 9, _ => rfl
  rw [← fin]
  simp (disch := omega) only [eX1_copyFrom_0, eX1_copyFrom_1, eX1_copyFrom_2, eX1_copyFrom_5, eX1_copyFrom_8, eX1_copyFrom_9, eX1_copyFrom_12, eX1_copyFrom_13, eX1_copyFrom_16, eX1_copyFrom_19, eX1_copyFrom_20, eX1_copyFrom_23, eX1_copyFrom_24, eX1_copyFrom_27, eX1_copyFrom_30, eX1_copyFrom_31, eX1_copyFrom_34, eX1_copyFrom_35, eX1_copyFrom_38, eX1_copyFrom_41, eX1_copyFrom_42, eX1_copyFrom_45, eX1_copyFrom_46, eX1_copyFrom_49, eX1_copyFrom_52, eX1_copyFrom_53, eX1_copyFrom_56, eX1_copyFrom_57, eX1_copyFrom_60, eX1_copyFrom_63, eX1_copyFrom_64, eX1_copyFrom_67, eX1_copyFrom_68, eX1_copyFrom_71, eX1_copyFrom_74, eX1_copyFrom_75, eX1_copyFrom_78, eX1_copyFrom_79, eX1_copyFrom_82, eX1_copyFrom_85, eX1_copyFrom_86, eX1_copyFrom_89, eX1_copyFrom_90, eX1_copyFrom_93, eX1_copyFrom_96, eX1_copyFrom_97, eX1_copyFrom_98, eX1_copyFrom_101, eX1_copyFrom_104, eX1_copyFrom_105, eX1_copyFrom_106, eX1_copyFrom_109, eX1_copyFrom_112, eX1_copyFrom_113, eX1_copyFrom_116, eX1_copyFrom_117, eX1_copyFrom_120, eX1_copyFrom_123, eX1_copyFrom_124, eX1_copyFrom_127, eX1_copyFrom_128, eX1_copyFrom_131, eX1_copyFrom_134, ox_O_s, ox_B_s, ox_g_t, ox_A_s, ox_push_s, ox_push_n, ox_some, ox_z0, ox_z1, gO, g0, g1, g2, g3, g4, g5, g6, g7, g8, g9, g10, g11, g12, gi0, gi1, gi2, gi3, gi4, gi5, gi6, gi7, gi8, gi9, gj0, gj1, gj2, gj3, gj4, gj5, gj6, gj7, gj8, gj9, gp_fldO, hp_obj, hp_f0, hp_f1, hp_f2, hp_f3, hp_f4, hp_f5, hp_f6, hp_f7, hp_f8, hp_f9, hp_f10, hp_f11, hp_f12, hp_w0, hp_w9, hp_w10, oa_gl, c0, c1, c2, c3, c4, c5, c6, c7, c8, c9]
/-- a line: its signs (the row behind it) and how many there are -/
def LA (h : ox_H) (a : Nat) (c : List Int) (n : Int) : Prop := h[a]? = some (.inr (0, [.ref (a + 1), .int (iI n)])) ∧ h[a + 1]? = some (.inl (0, c.map iI))
def la_fs (a : Nat) (X : ol) : List Value := [.ref (a + 1), .int (iI (X.1 0))]
abbrev lput : ox_H → Nat → ol → ox_H := gp 0 1 la_fs
theorem lp_obj {h : ox_H} {o : Nat} {X : ol} (hb : o + 1 < h.length) : ox_obj (lput h o X) o 0 = some (la_fs o X) := ox_obj_of (gp_gO (tag := 0) (F := la_fs) hb).1
theorem lp_f0 {h : ox_H} {o : Nat} {X : ol} (hb : o + 1 < h.length) : ox_fld (lput h o X) o 0 0 = some (.ref (o + 1)) := ox_fld_of (gp_gO (tag := 0) (F := la_fs) hb).1
theorem lp_f1 {h : ox_H} {o : Nat} {X : ol} (hb : o + 1 < h.length) : ox_fld (lput h o X) o 0 1 = some (.int (iI (X.1 0))) := ox_fld_of (gp_gO (tag := 0) (F := la_fs) hb).1
theorem lp_i0 {h : ox_H} {o : Nat} {X : ol} (hb : o + 1 < h.length) : ox_ints (lput h o X) (o + 1) ox_isI = some ((X.2 0).map iI) := ox_ints_of ((gp_gO (tag := 0) (F := la_fs) hb).2 0 (by decide)) rfl
theorem lp_j0 {h : ox_H} {o : Nat} {X : ol} (hb : o + 1 < h.length) : ox_ints (lput h o X) (o + 1) ox_is0 = some ((X.2 0).map iI) := ox_ints_of ((gp_gO (tag := 0) (F := la_fs) hb).2 0 (by decide)) rfl
theorem lp_s0 {h : ox_H} {o : Nat} {X : ol} (hb : o + 1 < h.length) {l : List Int} : (lput h o X).set (o + 1) (.inl (0, l.map iI)) = lput h o (oset X 0 l) := gp_row (fun _ _ => rfl) hb (show 0 < 1 by decide)
theorem lp_w1 {h : ox_H} {o : Nat} {X : ol} (hb : o + 1 < h.length) {v : Int} : (lput h o X).set o (.inr (0, (la_fs o X).set 1 (.int (iI v)))) = lput h o (nset X 0 v) := gp_fld hb rfl
theorem la_gl {k o : Nat} {X : ol} {r : Option ox_R} (hk : k < 2) : ox_g (decide (k < (la_fs o X).length)) r = r := ox_gd hk
theorem k0_clear {h : ox_H} {o : Nat} {X : ol} (hb : o + 1 < h.length) : oe 1 0 [.ref o] [] (lput h o X) = some (none, lput h o (nset X 0 0)) := by
  simp (disch := omega) only [eX0_clear_0, eX0_clear_1, eX0_clear_2, eX0_clear_5, ox_O_s, ox_B_s, ox_g_t, ox_A_s, ox_push_s, ox_push_n, ox_some, ox_z0, ox_z1, iI_lt, iI_eq, iI_add, iI_sub, ig_at, if_true, if_false, if_pos, if_neg, lp_obj, lp_f0, lp_f1, lp_i0, lp_j0, lp_s0, lp_w1, la_gl, ig_set, os_2, os_1, ns_1, ns_2, os_os, ns_ns]
/-- a line with a sign more -/
def apL (X : ol) (c : Int) : ol := nset (oset X 0 (iu (X.2 0) (X.1 0) c)) 0 (X.1 0 + 1)
theorem k0_append {h : ox_H} {o : Nat} {X : ol} (hb : o + 1 < h.length) (hl : (X.2 0).length = 53) (n0 : 0 ≤ X.1 0) (n1 : X.1 0 < 53) {c : Int} : oe 2 0 [.ref o, .int (iI c)] [] (lput h o X) = some (none, lput h o (apL X c)) := by
  simp (disch := omega) only [eX0_append_0, eX0_append_1, eX0_append_4, eX0_append_6, eX0_append_9, eX0_append_10, eX0_append_13, eX0_append_14, eX0_append_17, eX0_append_18, eX0_append_19, eX0_append_20, eX0_append_21, eX0_append_24, eX0_append_25, eX0_append_26, eX0_append_29, ox_O_s, ox_B_s, ox_g_t, ox_A_s, ox_push_s, ox_push_n, ox_some, ox_z0, ox_z1, iI_lt, iI_eq, iI_add, iI_sub, ig_at, if_true, if_false, if_pos, if_neg, lp_obj, lp_f0, lp_f1, lp_i0, lp_j0, lp_s0, lp_w1, la_gl, ig_set, os_2, os_1, ns_1, ns_2, os_os, ns_ns]
  rfl
theorem k0_codeAt {h : ox_H} {o : Nat} {X : ol} (hb : o + 1 < h.length) (hl : (X.2 0).length = 53) (n0 : 0 ≤ X.1 0) (n1 : X.1 0 ≤ 53) {i : Int} (i0 : -2147483648 ≤ i) (i1 : i < 2147483648) : oe 3 0 [.ref o, .int (iI i)] [] (lput h o X) = some (some (.int (iI (if 0 ≤ i ∧ i < X.1 0 then ig (X.2 0) i else -9))), lput h o X) := by
  by_cases c : 0 ≤ i ∧ i < X.1 0
  · rw [if_pos c]
    simp (disch := omega) only [eX0_codeAt_0, eX0_codeAt_1, eX0_codeAt_4, eX0_codeAt_5, eX0_codeAt_6, eX0_codeAt_9, eX0_codeAt_12, eX0_codeAt_13, eX0_codeAt_16, eX0_codeAt_17, eX0_codeAt_18, eX0_codeAt_21, eX0_codeAt_23, ox_O_s, ox_B_s, ox_g_t, ox_A_s, ox_push_s, ox_push_n, ox_some, ox_z0, ox_z1, iI_lt, iI_eq, iI_add, iI_sub, ig_at, if_true, if_false, if_pos, if_neg, lp_obj, lp_f0, lp_f1, lp_i0, lp_j0, lp_s0, lp_w1, la_gl, ig_set, os_2, os_1, ns_1, ns_2, os_os, ns_ns]
  · rw [if_neg c]
    by_cases c1 : i < 0
    · simp (disch := omega) only [eX0_codeAt_0, eX0_codeAt_1, eX0_codeAt_4, eX0_codeAt_5, eX0_codeAt_6, eX0_codeAt_9, eX0_codeAt_12, eX0_codeAt_13, eX0_codeAt_16, eX0_codeAt_17, eX0_codeAt_18, eX0_codeAt_21, eX0_codeAt_23, ox_O_s, ox_B_s, ox_g_t, ox_A_s, ox_push_s, ox_push_n, ox_some, ox_z0, ox_z1, iI_lt, iI_eq, iI_add, iI_sub, ig_at, if_true, if_false, if_pos, if_neg, lp_obj, lp_f0, lp_f1, lp_i0, lp_j0, lp_s0, lp_w1, la_gl, ig_set, os_2, os_1, ns_1, ns_2, os_os, ns_ns]
    · simp (disch := omega) only [eX0_codeAt_0, eX0_codeAt_1, eX0_codeAt_4, eX0_codeAt_5, eX0_codeAt_6, eX0_codeAt_9, eX0_codeAt_12, eX0_codeAt_13, eX0_codeAt_16, eX0_codeAt_17, eX0_codeAt_18, eX0_codeAt_21, eX0_codeAt_23, ox_O_s, ox_B_s, ox_g_t, ox_A_s, ox_push_s, ox_push_n, ox_some, ox_z0, ox_z1, iI_lt, iI_eq, iI_add, iI_sub, ig_at, if_true, if_false, if_pos, if_neg, lp_obj, lp_f0, lp_f1, lp_i0, lp_j0, lp_s0, lp_w1, la_gl, ig_set, os_2, os_1, ns_1, ns_2, os_os, ns_ns]
