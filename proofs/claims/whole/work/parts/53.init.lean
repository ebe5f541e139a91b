/-! The constructors. -/
theorem na_1 {r : Option ox_R} : ox_g (decide (0 ≤ iI 1) && decide ((iI 1).toNatClampNeg ≤ 100000)) r = r := rfl
theorem na_2 {r : Option ox_R} : ox_g (decide (0 ≤ iI 2) && decide ((iI 2).toNatClampNeg ≤ 100000)) r = r := rfl
theorem na_5 {r : Option ox_R} : ox_g (decide (0 ≤ iI 5) && decide ((iI 5).toNatClampNeg ≤ 100000)) r = r := rfl
theorem na_7 {r : Option ox_R} : ox_g (decide (0 ≤ iI 7) && decide ((iI 7).toNatClampNeg ≤ 100000)) r = r := rfl
theorem na_8 {r : Option ox_R} : ox_g (decide (0 ≤ iI 8) && decide ((iI 8).toNatClampNeg ≤ 100000)) r = r := rfl
theorem na_12 {r : Option ox_R} : ox_g (decide (0 ≤ iI 12) && decide ((iI 12).toNatClampNeg ≤ 100000)) r = r := rfl
theorem na_30 {r : Option ox_R} : ox_g (decide (0 ≤ iI 30) && decide ((iI 30).toNatClampNeg ≤ 100000)) r = r := rfl
theorem na_40 {r : Option ox_R} : ox_g (decide (0 ≤ iI 40) && decide ((iI 40).toNatClampNeg ≤ 100000)) r = r := rfl
theorem na_53 {r : Option ox_R} : ox_g (decide (0 ≤ iI 53) && decide ((iI 53).toNatClampNeg ≤ 100000)) r = r := rfl
theorem na_120 {r : Option ox_R} : ox_g (decide (0 ≤ iI 120) && decide ((iI 120).toNatClampNeg ≤ 100000)) r = r := rfl
theorem na_218 {r : Option ox_R} : ox_g (decide (0 ≤ iI 218) && decide ((iI 218).toNatClampNeg ≤ 100000)) r = r := rfl
theorem na_436 {r : Option ox_R} : ox_g (decide (0 ≤ iI 436) && decide ((iI 436).toNatClampNeg ≤ 100000)) r = r := rfl
theorem na_1744 {r : Option ox_R} : ox_g (decide (0 ≤ iI 1744) && decide ((iI 1744).toNatClampNeg ≤ 100000)) r = r := rfl
theorem nr_1 : List.replicate (iI 1).toNatClampNeg (0 : Int32) = (List.replicate 1 (0 : Int)).map iI := by rw [List.map_replicate]; rfl
theorem nr_2 : List.replicate (iI 2).toNatClampNeg (0 : Int32) = (List.replicate 2 (0 : Int)).map iI := by rw [List.map_replicate]; rfl
theorem nr_5 : List.replicate (iI 5).toNatClampNeg (0 : Int32) = (List.replicate 5 (0 : Int)).map iI := by rw [List.map_replicate]; rfl
theorem nr_7 : List.replicate (iI 7).toNatClampNeg (0 : Int32) = (List.replicate 7 (0 : Int)).map iI := by rw [List.map_replicate]; rfl
theorem nr_8 : List.replicate (iI 8).toNatClampNeg (0 : Int32) = (List.replicate 8 (0 : Int)).map iI := by rw [List.map_replicate]; rfl
theorem nr_12 : List.replicate (iI 12).toNatClampNeg (0 : Int32) = (List.replicate 12 (0 : Int)).map iI := by rw [List.map_replicate]; rfl
theorem nr_30 : List.replicate (iI 30).toNatClampNeg (0 : Int32) = (List.replicate 30 (0 : Int)).map iI := by rw [List.map_replicate]; rfl
theorem nr_40 : List.replicate (iI 40).toNatClampNeg (0 : Int32) = (List.replicate 40 (0 : Int)).map iI := by rw [List.map_replicate]; rfl
theorem nr_53 : List.replicate (iI 53).toNatClampNeg (0 : Int32) = (List.replicate 53 (0 : Int)).map iI := by rw [List.map_replicate]; rfl
theorem nr_120 : List.replicate (iI 120).toNatClampNeg (0 : Int32) = (List.replicate 120 (0 : Int)).map iI := by rw [List.map_replicate]; rfl
theorem nr_218 : List.replicate (iI 218).toNatClampNeg (0 : Int32) = (List.replicate 218 (0 : Int)).map iI := by rw [List.map_replicate]; rfl
theorem nr_436 : List.replicate (iI 436).toNatClampNeg (0 : Int32) = (List.replicate 436 (0 : Int)).map iI := by rw [List.map_replicate]; rfl
theorem nr_1744 : List.replicate (iI 1744).toNatClampNeg (0 : Int32) = (List.replicate 1744 (0 : Int)).map iI := by rw [List.map_replicate]; rfl
section
variable {g L : ox_H} {ci k : Nat} {fs : List Value} {c x : ox_C}
theorem gl_set0 : (g ++ (x :: L)).set g.length c = g ++ (c :: L) := by
  rw [List.set_append_right _ _ (Nat.le_refl _), Nat.sub_self]
  rfl
theorem gl_get0 : (g ++ (x :: L))[g.length]? = some x := by
  rw [List.getElem?_append_right (Nat.le_refl _), Nat.sub_self]
  rfl
theorem gl_get (n : Nat) : (g ++ L)[g.length + n]? = L[n]? := by
  rw [List.getElem?_append_right (by omega), show g.length + n - g.length = n by omega]
theorem gl_lt {a : Nat} (ha : a < g.length) : (g ++ L)[a]? = g[a]? := List.getElem?_append_left ha
theorem gl_set (n : Nat) : (g ++ L).set (g.length + n) c = g ++ L.set n c := by
  rw [List.set_append_right _ _ (by omega), show g.length + n - g.length = n by omega]
theorem gl_obj0 : ox_obj (g ++ (.inr (ci, fs) :: L)) g.length ci = some fs := ox_obj_of gl_get0
theorem gl_fld0 : ox_fld (g ++ (.inr (ci, fs) :: L)) g.length ci k = fs[k]? := ox_fld_of gl_get0
end
def E0 : ol := (fun _ => 0, fun k => if k = 6 then [15, 15, 15, 15, 15] else List.replicate (oa_ln.getD k 0) 0)
/-- the cells of a new outline -/
def nO (o : Nat) : ox_H := [.inr (1, [.int (iI 0), .ref (o + 1), .ref (o + 2), .ref (o + 3), .ref (o + 4), .ref (o + 5), .ref (o + 6), .ref (o + 7), .ref (o + 8), .int (iI 0), .int (iI 0), .ref (o + 9), .ref (o + 10)]), .inl (0, (List.replicate 30 0).map iI), .inl (0, (List.replicate 30 0).map iI), .inl (0, (List.replicate 30 0).map iI), .inl (0, (List.replicate 30 0).map iI), .inl (0, (List.replicate 30 0).map iI), .inl (0, (List.replicate 30 0).map iI), .inl (0, ([15, 15, 15, 15, 15] : List Int).map iI), .inl (0, (List.replicate 7 0).map iI), .inl (0, (List.replicate 12 0).map iI), .inl (0, (List.replicate 12 0).map iI)]
/-- its first cells, before the rules are laid -/
def nP (o : Nat) (l : List Int) : ox_H := [.inr (1, [.int (iI 0), .ref (o + 1), .ref (o + 2), .ref (o + 3), .ref (o + 4), .ref (o + 5), .ref (o + 6), .ref (o + 7), .null, .int (iI 0), .int (iI 0), .null, .null]), .inl (0, (List.replicate 30 0).map iI), .inl (0, (List.replicate 30 0).map iI), .inl (0, (List.replicate 30 0).map iI), .inl (0, (List.replicate 30 0).map iI), .inl (0, (List.replicate 30 0).map iI), .inl (0, (List.replicate 30 0).map iI), .inl (0, l.map iI)]
theorem dfl_1 : ox_dfl 1 = [.int (iI 0), .null, .null, .null, .null, .null, .null, .null, .null, .int (iI 0), .int (iI 0), .null, .null] := rfl
theorem ox_gd' {k n : Nat} {r : Option ox_R} (h : k < n) : ox_g (decide (k < n)) r = r := by rw [decide_eq_true h]; rfl
theorem k1_in1 {g : ox_H} : oe 9 0 [.ref g.length, .null] [] (g ++ [.inr (1, ox_dfl 1)]) = oe 9 61 [.ref g.length, .int (iI 0)] [] (g ++ nP g.length (List.replicate 5 0)) := by
  rw [dfl_1]
  simp (maxSteps := 1000000) (disch := omega) only [eX1_init_0, eX1_init_1, eX1_init_4, eX1_init_5, eX1_init_7, eX1_init_9, eX1_init_12, eX1_init_13, eX1_init_15, eX1_init_17, eX1_init_20, eX1_init_21, eX1_init_23, eX1_init_25, eX1_init_28, eX1_init_29, eX1_init_31, eX1_init_33, eX1_init_36, eX1_init_37, eX1_init_39, eX1_init_41, eX1_init_44, eX1_init_45, eX1_init_47, eX1_init_49, eX1_init_52, eX1_init_53, eX1_init_54, eX1_init_56, eX1_init_59, eX1_init_60, ox_O_s, ox_B_s, ox_g_t, ox_A_s, ox_push_s, ox_push_n, ox_some, ox_z0, ox_z1, iI_lt, iI_eq, iI_add, iI_sub, if_true, if_false, if_pos, if_neg, List.append_assoc, List.cons_append, List.nil_append, List.length_append, List.length_cons, List.length_nil, Nat.zero_add, Nat.reduceAdd, List.set_cons_zero, List.set_cons_succ, na_5, nr_5, na_7, nr_7, na_12, nr_12, na_30, nr_30, na_53, nr_53, gl_set0, gl_obj0, ox_gd']
  rfl
theorem k1_in2 {g : ox_H} {l : List Int} (hl : l.length = 5) {i : Int} (i0 : 0 ≤ i) (i1 : i < 5) : oe 9 61 [.ref g.length, .int (iI i)] [] (g ++ nP g.length l) = oe 9 61 [.ref g.length, .int (iI (i + 1))] [] (g ++ nP g.length (iu l i 15)) := by
  have q7 : ox_fld (g ++ nP g.length l) g.length 1 7 = some (.ref (g.length + 7)) := gl_fld0
  have ql : ox_len (g ++ nP g.length l) (g.length + 7) = some 5 := by
    rw [ox_len_of (gl_get 7), List.length_map, hl]
  have qi : ox_ints (g ++ nP g.length l) (g.length + 7) ox_is0 = some (l.map iI) := ox_ints_of (gl_get 7) rfl
  have qs : ∀ l' : List Int, (g ++ nP g.length l).set (g.length + 7) (.inl (0, l'.map iI)) = g ++ nP g.length l' := fun l' => gl_set 7
  rw [eX1_init_61]
  simp (disch := omega) only [eX1_init_62, eX1_init_63, eX1_init_66, eX1_init_67, eX1_init_70, eX1_init_71, eX1_init_74, eX1_init_75, eX1_init_77, eX1_init_78, eX1_init_81, ox_O_s, ox_B_s, ox_g_t, ox_A_s, ox_push_s, ox_push_n, ox_some, ox_z0, ox_z1, iI_lt, iI_eq, iI_add, iI_len, ig_at, ig_set, if_true, if_false, if_pos, if_neg, q7, ql, qi, qs, show ((5 : Nat) : Int) = 5 from rfl]
theorem k1_in3 {g : ox_H} {l : List Int} (hl : l.length = 5) : oe 9 61 [.ref g.length, .int (iI 5)] [] (g ++ nP g.length l) = oe 9 84 [.ref g.length, .int (iI 5)] [] (g ++ nP g.length l) := by
  have q7 : ox_fld (g ++ nP g.length l) g.length 1 7 = some (.ref (g.length + 7)) := gl_fld0
  have ql : ox_len (g ++ nP g.length l) (g.length + 7) = some 5 := by
    rw [ox_len_of (gl_get 7), List.length_map, hl]
  rw [eX1_init_61]
  simp (disch := omega) only [eX1_init_62, eX1_init_63, eX1_init_66, eX1_init_67, ox_O_s, ox_B_s, ox_g_t, ox_A_s, ox_push_s, ox_push_n, ox_some, ox_z0, ox_z1, iI_lt, iI_eq, iI_add, iI_len, if_true, if_false, if_pos, if_neg, q7, ql, show ((5 : Nat) : Int) = 5 from rfl]
theorem k1_in4 {g : ox_H} {v1 : Value} : oe 9 84 [.ref g.length, v1] [] (g ++ nP g.length [15, 15, 15, 15, 15]) = some (none, g ++ nO g.length) := by
  unfold nP nO
  simp (maxSteps := 1000000) (disch := omega) only [eX1_init_84, eX1_init_85, eX1_init_87, eX1_init_89, eX1_init_92, eX1_init_93, eX1_init_95, eX1_init_97, eX1_init_100, eX1_init_101, eX1_init_103, eX1_init_105, eX1_init_108, ox_O_s, ox_B_s, ox_g_t, ox_A_s, ox_push_s, ox_push_n, ox_some, ox_z0, ox_z1, iI_lt, iI_eq, iI_add, iI_sub, if_true, if_false, if_pos, if_neg, List.append_assoc, List.cons_append, List.nil_append, List.length_append, List.length_cons, List.length_nil, Nat.zero_add, Nat.reduceAdd, List.set_cons_zero, List.set_cons_succ, na_5, nr_5, na_7, nr_7, na_12, nr_12, na_30, nr_30, na_53, nr_53, gl_set0, gl_obj0, ox_gd']
theorem k1_init {g : ox_H} : oe 9 0 [.ref g.length, .null] [] (g ++ [.inr (1, ox_dfl 1)]) = some (none, g ++ nO g.length) := by
  have a0 := k1_in2 (g := g) (l := List.replicate 5 0) rfl (i := 0) (by omega) (by omega)
  have a1 := k1_in2 (g := g) (l := iu (List.replicate 5 0) 0 15) rfl (i := 0 + 1) (by omega) (by omega)
  have a2 := k1_in2 (g := g) (l := iu (iu (List.replicate 5 0) 0 15) (0 + 1) 15) rfl (i := 0 + 1 + 1) (by omega) (by omega)
  have a3 := k1_in2 (g := g) (l := iu (iu (iu (List.replicate 5 0) 0 15) (0 + 1) 15) (0 + 1 + 1) 15) rfl (i := 0 + 1 + 1 + 1) (by omega) (by omega)
  have a4 := k1_in2 (g := g) (l := iu (iu (iu (iu (List.replicate 5 0) 0 15) (0 + 1) 15) (0 + 1 + 1) 15) (0 + 1 + 1 + 1) 15) rfl (i := 0 + 1 + 1 + 1 + 1) (by omega) (by omega)
  have e : iu (iu (iu (iu (iu (List.replicate 5 0) 0 15) (0 + 1) 15) (0 + 1 + 1) 15) (0 + 1 + 1 + 1) 15) (0 + 1 + 1 + 1 + 1) 15 = [15, 15, 15, 15, 15] := by decide
  rw [e] at a4
  have a5 := k1_in3 (g := g) (l := [15, 15, 15, 15, 15]) rfl
  rw [k1_in1, a0, a1, a2, a3, a4, show (0 : Int) + 1 + 1 + 1 + 1 + 1 = 5 from rfl, a5]
  exact k1_in4
theorem nO_len (o : Nat) : (nO o).length = 11 := rfl
theorem nO_OA {g L : ox_H} : OA (g ++ (nO g.length ++ L)) g.length E0 := by
  refine ⟨?_, fun k hk => ?_⟩
  · rw [List.getElem?_append_right (Nat.le_refl _), Nat.sub_self]
    rfl
  · rw [show g.length + 1 + k = g.length + (1 + k) by omega, gl_get]
    match k, hk with
    | 0, _ => rfl
    | 1, _ => rfl
    | 2, _ => rfl
    | 3, _ => rfl
    | 4, _ => rfl
    | 5, _ => rfl
    | 6, _ => rfl
    | 7, _ => rfl
    | 8, _ => rfl
    | 9, _ => rfl
/-- a new line -/
def L0 : ol := (fun _ => 0, fun _ => List.replicate 53 0)
def nL (o : Nat) : ox_H := [.inr (0, [.ref (o + 1), .int (iI 0)]), .inl (0, (List.replicate 53 0).map iI)]
theorem dfl_0 : ox_dfl 0 = [.null, .int (iI 0)] := rfl
theorem k0_init {g : ox_H} : oe 0 0 [.ref g.length] [] (g ++ [.inr (0, ox_dfl 0)]) = some (none, g ++ nL g.length) := by
  rw [dfl_0]
  unfold nL
  simp (maxSteps := 1000000) (disch := omega) only [eX0_init_0, eX0_init_1, eX0_init_4, eX0_init_5, eX0_init_7, eX0_init_9, eX0_init_12, ox_O_s, ox_B_s, ox_g_t, ox_A_s, ox_push_s, ox_push_n, ox_some, ox_z0, ox_z1, iI_lt, iI_eq, iI_add, iI_sub, if_true, if_false, if_pos, if_neg, List.append_assoc, List.cons_append, List.nil_append, List.length_append, List.length_cons, List.length_nil, Nat.zero_add, Nat.reduceAdd, List.set_cons_zero, List.set_cons_succ, na_5, nr_5, na_7, nr_7, na_12, nr_12, na_30, nr_30, na_53, nr_53, gl_set0, gl_obj0, ox_gd']
