/-! The class's object, whole: where its parts stand. -/
def hA (A : List Nat) : Prop := A.length = 8 ∧ (∀ i, i < 8 → 17 ≤ A.getD i 0 ∧ A.getD i 0 ≤ 94 ∧ (A.getD i 0 - 17) % 11 = 0) ∧ ∀ i j, i < 8 → j < 8 → A.getD i 0 = A.getD j 0 → i = j
def CS (h : ox_H) (X : ol) (c : Int) (A : List Nat) (H I : Nat → ol) (K : List Int) (T U : ol) : Prop :=
  h.length = 140 ∧ h[4]? = some (.inr (2, [.ref 5, .ref 16, .int (iI c), .ref 105, .ref 128, .ref 129, .ref 131])) ∧ OA h 5 X ∧ h[16]? = some (.inr (4, A.map Value.ref)) ∧ hA A ∧ (∀ i, i < 8 → OA h (A.getD i 0) (H i) ∧ ol_len (H i)) ∧ h[105]? = some (.inr (4, [.ref 106, .ref 117])) ∧ (∀ i, i < 2 → OA h (106 + 11 * i) (I i) ∧ ol_len (I i)) ∧ h[128]? = some (.inl (1, K.map iI)) ∧ K.length = 2 ∧ (gO 0 1 la_fs h 129 T ∧ (T.2 0).length = 53) ∧ (gO 0 1 la_fs h 131 U ∧ (U.2 0).length = 53) ∧ RT h
theorem OA_eq {h h' : ox_H} {o : Nat} {X : ol} (hO : OA h o X) (he : ∀ a, o ≤ a → a ≤ o + 10 → h'[a]? = h[a]?) : OA h' o X := ⟨by rw [he o (by omega) (by omega)]; exact hO.1, fun k hk => by rw [he _ (by omega) (by omega)]; exact hO.2 k hk⟩
theorem LA_eq {h h' : ox_H} {o : Nat} {X : ol} (hO : gO 0 1 la_fs h o X) (he : ∀ a, o ≤ a → a ≤ o + 1 → h'[a]? = h[a]?) : gO 0 1 la_fs h' o X := ⟨by rw [he o (by omega) (by omega)]; exact hO.1, fun k hk => by rw [he _ (by omega) (by omega)]; exact hO.2 k hk⟩
theorem RT_eq {h h' : ox_H} (hT : RT h) (he : ∀ a, a < 4 → h'[a]? = h[a]?) : RT h' := ⟨by rw [he 1 (by omega)]; exact hT.1, by rw [he 2 (by omega)]; exact hT.2.1, by rw [he 3 (by omega)]; exact hT.2.2⟩
/-- cells that aren't the class's may change -/
theorem CS_frame {h h' : ox_H} {X : ol} {c : Int} {A : List Nat} {H I : Nat → ol} {K : List Int} {T U : ol} (hC : CS h X c A H I K T U) (hl : h'.length = h.length) (he : ∀ a, a < 133 → h'[a]? = h[a]?) : CS h' X c A H I K T U := by
  obtain ⟨a1, a2, a3, a4, a5, a6, a7, a8, a9, a10, a11, a12, a13⟩ := hC
  refine ⟨by omega, by rw [he 4 (by omega)]; exact a2, OA_eq a3 (fun a _ _ => he a (by omega)), by rw [he 16 (by omega)]; exact a4, a5, fun i hi => ⟨OA_eq (a6 i hi).1 (fun a _ _ => he a (by have := a5.2.1 i hi; omega)), (a6 i hi).2⟩, by rw [he 105 (by omega)]; exact a7, fun i hi => ⟨OA_eq (a8 i hi).1 (fun a _ _ => he a (by omega)), (a8 i hi).2⟩, by rw [he 128 (by omega)]; exact a9, a10, ⟨LA_eq a11.1 (fun a _ _ => he a (by omega)), a11.2⟩, ⟨LA_eq a12.1 (fun a _ _ => he a (by omega)), a12.2⟩, RT_eq a13 (fun a _ => he a (by omega))⟩
theorem CS_now {h : ox_H} {X X' : ol} {c : Int} {A : List Nat} {H I : Nat → ol} {K : List Int} {T U : ol} (hC : CS h X c A H I K T U) : CS (hput h 5 X') X' c A H I K T U := by
  obtain ⟨a1, a2, a3, a4, a5, a6, a7, a8, a9, a10, a11, a12, a13⟩ := hC
  have he : ∀ a, (a < 5 ∨ 15 < a) → (hput h 5 X')[a]? = h[a]? := fun a ha => gp_out (by omega)
  refine ⟨by rw [gp_len]; exact a1, by rw [he 4 (by omega)]; exact a2, oa_put (by omega), by rw [he 16 (by omega)]; exact a4, a5, fun i hi => ⟨OA_eq (a6 i hi).1 (fun a _ _ => he a (by have := a5.2.1 i hi; omega)), (a6 i hi).2⟩, by rw [he 105 (by omega)]; exact a7, fun i hi => ⟨OA_eq (a8 i hi).1 (fun a _ _ => he a (by omega)), (a8 i hi).2⟩, by rw [he 128 (by omega)]; exact a9, a10, ⟨LA_eq a11.1 (fun a _ _ => he a (by omega)), a11.2⟩, ⟨LA_eq a12.1 (fun a _ _ => he a (by omega)), a12.2⟩, RT_eq a13 (fun a _ => he a (by omega))⟩
theorem CS_text {h : ox_H} {X : ol} {c : Int} {A : List Nat} {H I : Nat → ol} {K : List Int} {T T' U : ol} (hC : CS h X c A H I K T U) (hT' : (T'.2 0).length = 53) : CS (lput h 129 T') X c A H I K T' U := by
  obtain ⟨a1, a2, a3, a4, a5, a6, a7, a8, a9, a10, a11, a12, a13⟩ := hC
  have he : ∀ a, (a < 129 ∨ 130 < a) → (lput h 129 T')[a]? = h[a]? := fun a ha => gp_out (by omega)
  refine ⟨by rw [gp_len]; exact a1, by rw [he 4 (by omega)]; exact a2, OA_eq a3 (fun a _ _ => he a (by omega)), by rw [he 16 (by omega)]; exact a4, a5, fun i hi => ⟨OA_eq (a6 i hi).1 (fun a _ _ => he a (by have := a5.2.1 i hi; omega)), (a6 i hi).2⟩, by rw [he 105 (by omega)]; exact a7, fun i hi => ⟨OA_eq (a8 i hi).1 (fun a _ _ => he a (by omega)), (a8 i hi).2⟩, by rw [he 128 (by omega)]; exact a9, a10, ⟨gp_gO (by omega), hT'⟩, ⟨LA_eq a12.1 (fun a _ _ => he a (by omega)), a12.2⟩, RT_eq a13 (fun a _ => he a (by omega))⟩
theorem CS_num {h : ox_H} {X : ol} {c : Int} {A : List Nat} {H I : Nat → ol} {K : List Int} {T U U' : ol} (hC : CS h X c A H I K T U) (hU' : (U'.2 0).length = 53) : CS (lput h 131 U') X c A H I K T U' := by
  obtain ⟨a1, a2, a3, a4, a5, a6, a7, a8, a9, a10, a11, a12, a13⟩ := hC
  have he : ∀ a, (a < 131 ∨ 132 < a) → (lput h 131 U')[a]? = h[a]? := fun a ha => gp_out (by omega)
  refine ⟨by rw [gp_len]; exact a1, by rw [he 4 (by omega)]; exact a2, OA_eq a3 (fun a _ _ => he a (by omega)), by rw [he 16 (by omega)]; exact a4, a5, fun i hi => ⟨OA_eq (a6 i hi).1 (fun a _ _ => he a (by have := a5.2.1 i hi; omega)), (a6 i hi).2⟩, by rw [he 105 (by omega)]; exact a7, fun i hi => ⟨OA_eq (a8 i hi).1 (fun a _ _ => he a (by omega)), (a8 i hi).2⟩, by rw [he 128 (by omega)]; exact a9, a10, ⟨LA_eq a11.1 (fun a _ _ => he a (by omega)), a11.2⟩, ⟨gp_gO (by omega), hU'⟩, RT_eq a13 (fun a _ => he a (by omega))⟩
def fu {α : Type} (f : Nat → α) (k : Nat) (v : α) : Nat → α := fun j => if j = k then v else f j
theorem CS_hist {h : ox_H} {X Z : ol} {c : Int} {A : List Nat} {H I : Nat → ol} {K : List Int} {T U : ol} (hC : CS h X c A H I K T U) {i : Nat} (hi : i < 8) (hZ : ol_len Z) : CS (hput h (A.getD i 0) Z) X c A (fu H i Z) I K T U := by
  obtain ⟨a1, a2, a3, a4, a5, a6, a7, a8, a9, a10, a11, a12, a13⟩ := hC
  have hb := a5.2.1 i hi
  have he : ∀ a, (a < A.getD i 0 ∨ A.getD i 0 + 10 < a) → (hput h (A.getD i 0) Z)[a]? = h[a]? := fun a ha => gp_out (by omega)
  refine ⟨by rw [gp_len]; exact a1, by rw [he 4 (by omega)]; exact a2, OA_eq a3 (fun a _ _ => he a (by omega)), by rw [he 16 (by omega)]; exact a4, a5, fun j hj => ?_, by rw [he 105 (by omega)]; exact a7, fun i hi => ⟨OA_eq (a8 i hi).1 (fun a _ _ => he a (by omega)), (a8 i hi).2⟩, by rw [he 128 (by omega)]; exact a9, a10, ⟨LA_eq a11.1 (fun a _ _ => he a (by omega)), a11.2⟩, ⟨LA_eq a12.1 (fun a _ _ => he a (by omega)), a12.2⟩, RT_eq a13 (fun a _ => he a (by omega))⟩
  by_cases e : j = i
  · subst e
    rw [show fu H j Z j = Z from if_pos rfl]
    exact ⟨oa_put (by omega), hZ⟩
  · rw [show fu H i Z j = H j from if_neg e]
    have hbj := a5.2.1 j hj
    have hne : A.getD j 0 ≠ A.getD i 0 := fun z => e (a5.2.2 j i hj hi z)
    exact ⟨OA_eq (a6 j hj).1 (fun a _ _ => he a (by omega)), (a6 j hj).2⟩
theorem CS_img {h : ox_H} {X Z : ol} {c : Int} {A : List Nat} {H I : Nat → ol} {K : List Int} {T U : ol} (hC : CS h X c A H I K T U) {i : Nat} (hi : i < 2) (hZ : ol_len Z) : CS (hput h (106 + 11 * i) Z) X c A H (fu I i Z) K T U := by
  obtain ⟨a1, a2, a3, a4, a5, a6, a7, a8, a9, a10, a11, a12, a13⟩ := hC
  have he : ∀ a, (a < 106 + 11 * i ∨ 106 + 11 * i + 10 < a) → (hput h (106 + 11 * i) Z)[a]? = h[a]? := fun a ha => gp_out (by omega)
  refine ⟨by rw [gp_len]; exact a1, by rw [he 4 (by omega)]; exact a2, OA_eq a3 (fun a _ _ => he a (by omega)), by rw [he 16 (by omega)]; exact a4, a5, fun i hi => ⟨OA_eq (a6 i hi).1 (fun a _ _ => he a (by have := a5.2.1 i hi; omega)), (a6 i hi).2⟩, by rw [he 105 (by omega)]; exact a7, fun j hj => ?_, by rw [he 128 (by omega)]; exact a9, a10, ⟨LA_eq a11.1 (fun a _ _ => he a (by omega)), a11.2⟩, ⟨LA_eq a12.1 (fun a _ _ => he a (by omega)), a12.2⟩, RT_eq a13 (fun a _ => he a (by omega))⟩
  by_cases e : j = i
  · subst e
    rw [show fu I j Z j = Z from if_pos rfl]
    exact ⟨oa_put (by omega), hZ⟩
  · rw [show fu I i Z j = I j from if_neg e]
    exact ⟨OA_eq (a8 j hj).1 (fun a _ _ => he a (by omega)), (a8 j hj).2⟩
theorem CS_set {h : ox_H} {X : ol} {c c' : Int} {A A' : List Nat} {H H' I : Nat → ol} {K K' : List Int} {T U : ol} (hC : CS h X c A H I K T U) {b : Nat} {cell : ox_C} (hb : b = 4 ∨ b = 16 ∨ b = 128) (h4 : (h.set b cell)[4]? = some (.inr (2, [.ref 5, .ref 16, .int (iI c'), .ref 105, .ref 128, .ref 129, .ref 131]))) (h16 : (h.set b cell)[16]? = some (.inr (4, A'.map Value.ref))) (hA' : hA A') (hH : ∀ i, i < 8 → ∃ j, j < 8 ∧ A'.getD i 0 = A.getD j 0 ∧ H' i = H j) (h128 : (h.set b cell)[128]? = some (.inl (1, K'.map iI))) (hK : K'.length = 2) : CS (h.set b cell) X c' A' H' I K' T U := by
  obtain ⟨a1, a2, a3, a4, a5, a6, a7, a8, a9, a10, a11, a12, a13⟩ := hC
  have he : ∀ a, a ≠ 4 → a ≠ 16 → a ≠ 128 → (h.set b cell)[a]? = h[a]? := fun a ha hb' hc' => List.getElem?_set_ne (by omega)
  refine ⟨by rw [List.length_set]; exact a1, h4, OA_eq a3 (fun a _ _ => he a (by omega) (by omega) (by omega)), h16, hA', fun i hi => ?_, by rw [he 105 (by omega) (by omega) (by omega)]; exact a7, fun i hi => ⟨OA_eq (a8 i hi).1 (fun a _ _ => he a (by omega) (by omega) (by omega)), (a8 i hi).2⟩, h128, hK, ⟨LA_eq a11.1 (fun a _ _ => he a (by omega) (by omega) (by omega)), a11.2⟩, ⟨LA_eq a12.1 (fun a _ _ => he a (by omega) (by omega) (by omega)), a12.2⟩, RT_eq a13 (fun a _ => he a (by omega) (by omega) (by omega))⟩
  obtain ⟨j, hj, e1, e2⟩ := hH i hi
  rw [e1, e2]
  exact ⟨OA_eq (a6 j hj).1 (fun a _ _ => he a (by have := a5.2.1 j hj; omega) (by have := a5.2.1 j hj; omega) (by have := a5.2.1 j hj; omega)), (a6 j hj).2⟩
/-- the fields of the object -/
theorem CS_facts {h : ox_H} {X : ol} {c : Int} {A : List Nat} {H I : Nat → ol} {K : List Int} {T U : ol} (hC : CS h X c A H I K T U) : ox_obj h 4 2 = some [.ref 5, .ref 16, .int (iI c), .ref 105, .ref 128, .ref 129, .ref 131] ∧ ox_fld h 4 2 0 = some (.ref 5) ∧ ox_fld h 4 2 1 = some (.ref 16) ∧ ox_fld h 4 2 2 = some (.int (iI c)) ∧ ox_fld h 4 2 3 = some (.ref 105) ∧ ox_fld h 4 2 4 = some (.ref 128) ∧ ox_fld h 4 2 5 = some (.ref 129) ∧ ox_fld h 4 2 6 = some (.ref 131) ∧ ox_obj h 16 4 = some (A.map Value.ref) ∧ ox_obj h 105 4 = some [.ref 106, .ref 117] ∧ ox_ints h 128 ox_isZ = some (K.map iI) ∧ ox_obj h 5 1 = some (oa_fs 5 X) ∧ ox_obj h 129 0 = some (la_fs 129 T) ∧ ox_obj h 131 0 = some (la_fs 131 U) ∧ ox_fld h 129 0 1 = some (.int (iI (T.1 0))) ∧ ox_fld h 131 0 1 = some (.int (iI (U.1 0))) := by
  obtain ⟨a1, a2, a3, a4, a5, a6, a7, a8, a9, a10, a11, a12, a13⟩ := hC
  exact ⟨ox_obj_of a2, ox_fld_of a2, ox_fld_of a2, ox_fld_of a2, ox_fld_of a2, ox_fld_of a2, ox_fld_of a2, ox_fld_of a2, ox_obj_of a4, ox_obj_of a7, ox_ints_of a9 rfl, (oa_facts a3).1, ox_obj_of a11.1.1, ox_obj_of a12.1.1, ox_fld_of a11.1.1, ox_fld_of a12.1.1⟩
