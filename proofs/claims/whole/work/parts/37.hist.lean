/-! remember, undo, keep, back of the class. -/
theorem hput_self {h : ox_H} {o : Nat} {X : ol} (hO : OA h o X) : hput h o X = h := gp_self (tag := 1) (N := 10) (F := oa_fs) hO
theorem mput_self {h : ox_H} {o : Nat} {X : ol} (hO : MA h o X) : mput h o X = h := gp_self (tag := 3) (N := 6) (F := ma_fs) hO
theorem lput_self {h : ox_H} {o : Nat} {X : ol} (hO : gO 0 1 la_fs h o X) : lput h o X = h := gp_self hO
theorem ox_at_i {α : Type} {l : List α} {k : Int} (k0 : 0 ≤ k) (k1 : k < 2147483648) : ox_at l (iI k) = l[k.toNat]? := by
  unfold ox_at
  rw [if_neg (by rw [show (0 : Int32) = iI 0 from rfl, iI_lt (by omega) (by omega) (by omega) (by omega)]; omega), iI_nat k0 k1]
theorem st_objN {h : ox_H} {a b ci : Nat} {c : ox_C} (hab : a ≠ b) : ox_obj (h.set a c) b ci = ox_obj h b ci := by unfold ox_obj; rw [List.getElem?_set_ne hab]
theorem st_fldN {h : ox_H} {a b ci k : Nat} {c : ox_C} (hab : a ≠ b) : ox_fld (h.set a c) b ci k = ox_fld h b ci k := by unfold ox_fld; rw [List.getElem?_set_ne hab]
theorem st_intN {h : ox_H} {a b : Nat} {ok : Nat → Bool} {c : ox_C} (hab : a ≠ b) : ox_ints (h.set a c) b ok = ox_ints h b ok := by unfold ox_ints; rw [List.getElem?_set_ne hab]
theorem st_objS {h : ox_H} {a ci : Nat} {fs : List Value} (ha : a < h.length) : ox_obj (h.set a (.inr (ci, fs))) a ci = some fs := ox_obj_of (List.getElem?_set_self ha)
theorem st_fldS {h : ox_H} {a ci k : Nat} {fs : List Value} (ha : a < h.length) : ox_fld (h.set a (.inr (ci, fs))) a ci k = fs[k]? := ox_fld_of (List.getElem?_set_self ha)
def doF : Nat → Nat → List Value → List Value
  | 0, _, L => L
  | m + 1, i, L => doF m (i + 1) (L.set (i - 1) (L.getD i .null))
theorem k2_do_loop {h : ox_H} (hl : h.length = 140) (hf : ox_fld h 4 2 1 = some (.ref 16)) (old : Nat) : ∀ (m i : Nat) (L : List Value), i + m = 8 → 1 ≤ i → L.length = 8 → (∀ j, j < 8 → ∃ a fs, L[j]? = some (.ref a) ∧ a ≠ 16 ∧ ox_obj h a 1 = some fs) → oe 78 9 [.ref 4, .ref old, .int (iI (i : Int))] [] (h.set 16 (.inr (4, L))) = oe 78 35 [.ref 4, .ref old, .int (iI 8)] [] (h.set 16 (.inr (4, doF m i L))) := by
  intro m
  induction m with
  | zero =>
    intro i L him hi hL hE
    have e : (i : Int) = 8 := by omega
    rw [eX2_dropOldest_9, e]
    simp (disch := omega) only [eX2_dropOldest_10, eX2_dropOldest_12, iI_lt, if_true, if_false, if_pos, if_neg]
    rfl
  | succ m ih =>
    intro i L him hi hL hE
    obtain ⟨a, fs, e1, e2, e3⟩ := hE i (by omega)
    have hgd : L.getD i .null = .ref a := by rw [List.getD_eq_getElem?_getD, e1]; rfl
    obtain ⟨b, fs', f1, f2, f3⟩ := hE (i - 1) (by omega)
    have hE' : ∀ j, j < 8 → ∃ a fs, (L.set (i - 1) (L.getD i .null))[j]? = some (.ref a) ∧ a ≠ 16 ∧ ox_obj h a 1 = some fs := by
      intro j hj
      by_cases c : i - 1 = j
      · subst c
        exact ⟨a, fs, by rw [List.getElem?_set_self (by omega), hgd], e2, e3⟩
      · rw [List.getElem?_set_ne c]
        exact hE j hj
    have i1 := ih (i + 1) (L.set (i - 1) (L.getD i .null)) (by omega) (by omega) (by rw [List.length_set]; exact hL) hE'
    unfold doF
    rw [← i1, eX2_dropOldest_9]
    have g1 : L[((i : Int)).toNat]? = some (.ref a) := by rw [show ((i : Int)).toNat = i by omega]; exact e1
    have g2 : L[((i : Int) - 1).toNat]? = some (.ref b) := by rw [show ((i : Int) - 1).toNat = i - 1 by omega]; exact f1
    have nn : (iI ((i : Int) - 1)).toNatClampNeg = i - 1 := by rw [iI_nat (by omega) (by omega)]; omega
    simp (disch := omega) only [eX2_dropOldest_10, eX2_dropOldest_12, eX2_dropOldest_15, eX2_dropOldest_16, eX2_dropOldest_19, eX2_dropOldest_20, eX2_dropOldest_21, eX2_dropOldest_22, eX2_dropOldest_23, eX2_dropOldest_26, eX2_dropOldest_27, eX2_dropOldest_28, eX2_dropOldest_29, eX2_dropOldest_32, ox_O_s, ox_B_s, ox_g_t, ox_A_s, ox_push_s, ox_push_n, ox_some, ox_z0, ox_z1, iI_lt, iI_sub, iI_add, if_true, if_false, if_pos, if_neg, st_fldN, hf, st_objS, st_objN, e3, ox_at_i, g1, g2, nn, List.set_set, hgd]
    rw [show ((i : Int) + 1) = ((i + 1 : Nat) : Int) by omega]
theorem rot8 {A : List Nat} (hl : A.length = 8) : ∃ a0 a1 a2 a3 a4 a5 a6 a7, A = [a0, a1, a2, a3, a4, a5, a6, a7] := by
  match A, hl with
  | [a0, a1, a2, a3, a4, a5, a6, a7], _ => exact ⟨a0, a1, a2, a3, a4, a5, a6, a7, rfl⟩
def rotA (A : List Nat) : List Nat := A.drop 1 ++ A.take 1
theorem k2_dropOldest {h : ox_H} {X : ol} {c : Int} {A : List Nat} {H I : Nat → ol} {K : List Int} {T U : ol} (hC : CS h X c A H I K T U) : ∃ h', oe 78 0 [.ref 4, .null, .null] [] h = some (none, h') ∧ CS h' X 7 (rotA A) (fun i => H (if i = 7 then 0 else i + 1)) I K T U ∧ ∀ a, (a < 4 ∨ 133 ≤ a) → h'[a]? = h[a]? := by
  obtain ⟨a0, a1, a2, a3, a4, a5, a6, a7, rfl⟩ := rot8 hC.2.2.2.2.1.1
  obtain ⟨b1, b2, b3, b4, b5, b6, -⟩ := id hC
  obtain ⟨f0, f1, f2, f3, -⟩ := CS_facts hC
  have hobj : ox_obj h 16 4 = some ([a0, a1, a2, a3, a4, a5, a6, a7].map Value.ref) := ox_obj_of b4
  have hE : ∀ j, j < 8 → ∃ a fs, ([a0, a1, a2, a3, a4, a5, a6, a7].map Value.ref)[j]? = some (.ref a) ∧ a ≠ 16 ∧ ox_obj h a 1 = some fs := by
    intro j hj
    have hO := (b6 j hj).1
    refine ⟨[a0, a1, a2, a3, a4, a5, a6, a7].getD j 0, _, ?_, by have := b5.2.1 j hj; omega, (oa_facts hO).1⟩
    rw [List.getElem?_map, List.getElem?_eq_getElem (by simpa using hj)]
    simp [List.getElem?_eq_getElem (show j < [a0, a1, a2, a3, a4, a5, a6, a7].length by simpa using hj)]
  have hlp := k2_do_loop b1 f2 a0 7 1 ([a0, a1, a2, a3, a4, a5, a6, a7].map Value.ref) rfl (by omega) (by simp) hE
  have hself : h.set 16 (.inr (4, [a0, a1, a2, a3, a4, a5, a6, a7].map Value.ref)) = h := by
    apply List.ext_getElem?
    intro i
    by_cases e : 16 = i
    · subst e; rw [List.getElem?_set_self (by omega), b4]
    · rw [List.getElem?_set_ne e]
  rw [hself] at hlp
  have hdo : doF 7 1 ([a0, a1, a2, a3, a4, a5, a6, a7].map Value.ref) = [.ref a1, .ref a2, .ref a3, .ref a4, .ref a5, .ref a6, .ref a7, .ref a7] := rfl
  rw [hdo] at hlp
  obtain ⟨fs0, e0⟩ : ∃ fs, ox_obj h a0 1 = some fs := ⟨_, (oa_facts (b6 0 (by omega)).1).1⟩
  have ne0 : a0 ≠ 16 := by have := b5.2.1 0 (by omega); simp at this; omega
  have nn : (iI 7).toNatClampNeg = 7 := by decide +kernel
  refine ⟨(h.set 16 (.inr (4, [.ref a1, .ref a2, .ref a3, .ref a4, .ref a5, .ref a6, .ref a7, .ref a0]))).set 4 (.inr (2, [.ref 5, .ref 16, .int (iI 7), .ref 105, .ref 128, .ref 129, .ref 131])), ?_, ?_, ?_⟩
  · have s1 : oe 78 0 [.ref 4, .null, .null] [] h = oe 78 9 [.ref 4, .ref a0, .int (iI ((1 : Nat) : Int))] [] h := by
      simp (disch := omega) only [eX2_dropOldest_0, eX2_dropOldest_1, eX2_dropOldest_4, eX2_dropOldest_5, eX2_dropOldest_6, eX2_dropOldest_7, eX2_dropOldest_8, ox_O_s, ox_B_s, ox_g_t, ox_A_s, ox_push_s, ox_push_n, ox_some, ox_z0, ox_z1, f2, hobj, ox_at_i]
      rfl
    rw [s1, hlp]
    simp (disch := omega) only [eX2_dropOldest_35, eX2_dropOldest_36, eX2_dropOldest_39, eX2_dropOldest_41, eX2_dropOldest_42, eX2_dropOldest_43, eX2_dropOldest_44, eX2_dropOldest_46, eX2_dropOldest_49, ox_O_s, ox_B_s, ox_g_t, ox_A_s, ox_push_s, ox_push_n, ox_some, ox_z0, ox_z1, st_fldN, f2, st_objS, st_objN, e0, f0, ox_at_i, nn, List.set_set]
    rfl
  · have hC1 : CS (h.set 16 (.inr (4, [.ref a1, .ref a2, .ref a3, .ref a4, .ref a5, .ref a6, .ref a7, .ref a0]))) X c [a1, a2, a3, a4, a5, a6, a7, a0] (fun i => H (if i = 7 then 0 else i + 1)) I K T U := by
      refine CS_set hC (Or.inr (Or.inl rfl)) (by rw [List.getElem?_set_ne (by omega)]; exact b2) (by rw [List.getElem?_set_self (by omega)]; rfl) ?_ ?_ (by rw [List.getElem?_set_ne (by omega)]; exact hC.2.2.2.2.2.2.2.2.1) hC.2.2.2.2.2.2.2.2.2.1
      · have key : ∀ i, i < 8 → [a1, a2, a3, a4, a5, a6, a7, a0].getD i 0 = [a0, a1, a2, a3, a4, a5, a6, a7].getD (if i = 7 then 0 else i + 1) 0 := by
          intro i hi
          match i, hi with
          | 0, _ => rfl
          | 1, _ => rfl
          | 2, _ => rfl
          | 3, _ => rfl
          | 4, _ => rfl
          | 5, _ => rfl
          | 6, _ => rfl
          | 7, _ => rfl
        have hlt : ∀ i, i < 8 → (if i = 7 then 0 else i + 1) < 8 := fun i hi => by split <;> omega
        refine ⟨rfl, fun i hi => by rw [key i hi]; exact b5.2.1 _ (hlt i hi), fun i j hi hj e => ?_⟩
        rw [key i hi, key j hj] at e
        have := b5.2.2 _ _ (hlt i hi) (hlt j hj) e
        split at this <;> split at this <;> omega
      · intro i hi
        refine ⟨if i = 7 then 0 else i + 1, by split <;> omega, ?_, rfl⟩
        match i, hi with
        | 0, _ => rfl
        | 1, _ => rfl
        | 2, _ => rfl
        | 3, _ => rfl
        | 4, _ => rfl
        | 5, _ => rfl
        | 6, _ => rfl
        | 7, _ => rfl
    exact CS_set hC1 (Or.inl rfl) (by rw [List.getElem?_set_self (by rw [List.length_set]; omega)]) (by rw [List.getElem?_set_ne (by omega)]; exact hC1.2.2.2.1) hC1.2.2.2.2.1 (fun i hi => ⟨i, hi, rfl, rfl⟩) (by rw [List.getElem?_set_ne (by omega)]; exact hC1.2.2.2.2.2.2.2.2.1) hC1.2.2.2.2.2.2.2.2.2.1
  · intro a ha
    rw [List.getElem?_set_ne (by omega), List.getElem?_set_ne (by omega)]
/-- changes becomes another number -/
theorem CS_chg {h : ox_H} {X : ol} {c c' : Int} {A : List Nat} {H I : Nat → ol} {K : List Int} {T U : ol} (hC : CS h X c A H I K T U) : CS (h.set 4 (.inr (2, [.ref 5, .ref 16, .int (iI c'), .ref 105, .ref 128, .ref 129, .ref 131]))) X c' A H I K T U :=
  CS_set hC (Or.inl rfl) (by rw [List.getElem?_set_self (by rw [hC.1]; omega)]) (by rw [List.getElem?_set_ne (by omega)]; exact hC.2.2.2.1) hC.2.2.2.2.1 (fun i hi => ⟨i, hi, rfl, rfl⟩) (by rw [List.getElem?_set_ne (by omega)]; exact hC.2.2.2.2.2.2.2.2.1) hC.2.2.2.2.2.2.2.2.2.1
theorem A_at {A : List Nat} (hA' : hA A) {c : Int} (c0 : 0 ≤ c) (c1 : c < 8) : (A.map Value.ref)[c.toNat]? = some (.ref (A.getD c.toNat 0)) := by
  have hl := hA'.1
  rw [List.getElem?_map, List.getElem?_eq_getElem (by omega)]
  simp [List.getElem?_eq_getElem (show c.toNat < A.length by omega)]
/-- recording a state where there is room -/
theorem k2_rem1 {h : ox_H} {X : ol} {c : Int} {A : List Nat} {H I : Nat → ol} {K : List Int} {T U : ol} (hC : CS h X c A H I K T U) (hX : ol_len X) (c0 : 0 ≤ c) (c1 : c < 8) : ∃ h', oe 77 13 [.ref 4] [] h = some (none, h') ∧ CS h' X (c + 1) A (fu H c.toNat X) I K T U ∧ ∀ a, (a < 4 ∨ 133 ≤ a) → h'[a]? = h[a]? := by
  obtain ⟨b1, b2, b3, b4, b5, b6, -⟩ := id hC
  obtain ⟨f0, f1, f2, f3, -⟩ := CS_facts hC
  have hobj : ox_obj h 16 4 = some (A.map Value.ref) := ox_obj_of b4
  have hat := A_at b5 c0 c1
  have hb := b5.2.1 c.toNat (by omega)
  have hOc := b6 c.toNat (by omega)
  have hcp := k1_copyFrom (h := h) (o := A.getD c.toNat 0) (o' := 5) (X := X) (Z := H c.toNat) (by omega) b3 (by omega) hX hOc.2
  rw [show hput h (A.getD c.toNat 0) (H c.toNat) = h from gp_self hOc.1] at hcp
  have hob := (oa_facts hOc.1).1
  have hC1 := CS_hist hC (show c.toNat < 8 by omega) hX
  obtain ⟨g0, g1, g2, g3, -⟩ := CS_facts hC1
  refine ⟨(hput h (A.getD c.toNat 0) X).set 4 (.inr (2, [.ref 5, .ref 16, .int (iI (c + 1)), .ref 105, .ref 128, .ref 129, .ref 131])), ?_, CS_chg hC1, fun a ha => ?_⟩
  · simp (disch := omega) only [eX2_remember_13, eX2_remember_14, eX2_remember_17, eX2_remember_18, eX2_remember_21, eX2_remember_22, eX2_remember_23, eX2_remember_26, eX2_remember_29, eX2_remember_30, eX2_remember_31, eX2_remember_34, eX2_remember_35, eX2_remember_36, eX2_remember_39, ox_O_s, ox_B_s, ox_g_t, ox_A_s, ox_push_s, ox_push_n, ox_some, ox_z0, ox_z1, f1, f2, f3, hobj, ox_at_i, hat, hob, hcp, g0, g3, iI_add]
    rfl
  · rw [List.getElem?_set_ne (by omega), gp_out (by omega)]
/-- the history behind a change -/
def hiN (H : Nat → ol) (c : Int) (X : ol) : Nat → ol := if c < 8 then fu H c.toNat X else fu (fun i => H (if i = 7 then 0 else i + 1)) 7 X
theorem k2_remember {h : ox_H} {X : ol} {c : Int} {A : List Nat} {H I : Nat → ol} {K : List Int} {T U : ol} (hC : CS h X c A H I K T U) (hX : ol_len X) (c0 : 0 ≤ c) (c1 : c ≤ 8) : ∃ h' A', oe 77 0 [.ref 4] [] h = some (none, h') ∧ CS h' X (if c < 8 then c + 1 else 8) A' (hiN H c X) I K T U ∧ ∀ a, (a < 4 ∨ 133 ≤ a) → h'[a]? = h[a]? := by
  obtain ⟨f0, f1, f2, f3, -⟩ := CS_facts hC
  by_cases q : c < 8
  · obtain ⟨h', r1, r2, r3⟩ := k2_rem1 hC hX c0 q
    refine ⟨h', A, ?_, ?_, r3⟩
    · simp (disch := omega) only [eX2_remember_0, eX2_remember_1, eX2_remember_4, eX2_remember_6, ox_O_s, ox_B_s, ox_g_t, ox_A_s, ox_push_s, ox_push_n, ox_some, ox_z0, ox_z1, f3, iI_lt, if_pos]
      exact r1
    · unfold hiN
      rw [if_pos q, if_pos q]
      exact r2
  · obtain ⟨h1, r1, r2, r3⟩ := k2_dropOldest hC
    obtain ⟨h2, s1, s2, s3⟩ := k2_rem1 r2 hX (by omega) (by omega)
    refine ⟨h2, rotA A, ?_, ?_, fun a ha => (s3 a ha).trans (r3 a ha)⟩
    · simp (disch := omega) only [eX2_remember_0, eX2_remember_1, eX2_remember_4, eX2_remember_6, eX2_remember_9, eX2_remember_10, ox_O_s, ox_B_s, ox_g_t, ox_A_s, ox_push_s, ox_push_n, ox_some, ox_z0, ox_z1, f0, f3, iI_lt, if_neg, r1]
      exact s1
    · unfold hiN
      rw [if_neg q, if_neg q]
      exact s2
theorem k2_undo {h : ox_H} {X : ol} {c : Int} {A : List Nat} {H I : Nat → ol} {K : List Int} {T U : ol} (hC : CS h X c A H I K T U) (hX : ol_len X) (c0 : 0 < c) (c1 : c ≤ 8) : ∃ h', oe 59 0 [.ref 4] [] h = some (some (.int (iI (c - 1))), h') ∧ CS h' (H (c - 1).toNat) (c - 1) A H I K T U ∧ ∀ a, (a < 4 ∨ 133 ≤ a) → h'[a]? = h[a]? := by
  have hC1 := CS_chg (c' := c - 1) hC
  obtain ⟨f0, f1, f2, f3, -⟩ := CS_facts hC
  obtain ⟨g0, g1, g2, g3, -⟩ := CS_facts hC1
  obtain ⟨b1, b2, b3, b4, b5, b6, -⟩ := id hC1
  have hobj := ox_obj_of b4
  have hat := A_at b5 (show 0 ≤ c - 1 by omega) (by omega)
  have hb := b5.2.1 (c - 1).toNat (by omega)
  have hOc := b6 (c - 1).toNat (by omega)
  have hcp := k1_copyFrom (o := 5) (o' := A.getD (c - 1).toNat 0) (X := H (c - 1).toNat) (Z := X) (by rw [b1]; omega) hOc.1 (by omega) hOc.2 hX
  rw [hput_self b3] at hcp
  have hC2 := CS_now (X' := H (c - 1).toNat) hC1
  obtain ⟨k0, k1, k2, k3, -⟩ := CS_facts hC2
  have hob := (oa_facts b3).1
  refine ⟨_, ?_, hC2, fun a ha => ?_⟩
  · simp (disch := omega) only [eX2_undo_0, eX2_undo_1, eX2_undo_4, eX2_undo_10, eX2_undo_11, eX2_undo_12, eX2_undo_15, eX2_undo_16, eX2_undo_17, ox_O_s, ox_B_s, ox_g_t, ox_A_s, ox_push_s, ox_push_n, ox_some, ox_z0, ox_z1, f0, f3, iI_lt, iI_sub, if_pos, if_true]
    show oe 59 20 [.ref 4] [] (h.set 4 (.inr (2, [.ref 5, .ref 16, .int (iI (c - 1)), .ref 105, .ref 128, .ref 129, .ref 131]))) = _
    simp (disch := omega) only [eX2_undo_20, eX2_undo_21, eX2_undo_24, eX2_undo_25, eX2_undo_28, eX2_undo_29, eX2_undo_32, eX2_undo_33, eX2_undo_36, eX2_undo_37, eX2_undo_40, ox_O_s, ox_B_s, ox_g_t, ox_A_s, ox_push_s, ox_push_n, ox_some, ox_z0, ox_z1, g1, g2, g3, hobj, ox_at_i, hat, hob, hcp, k3]
  · rw [gp_out (by omega), List.getElem?_set_ne (by omega)]
