/-! The constructors of the class and of the reference. -/
theorem gl7 {r : Option ox_R} {k : Nat} {a b c d e f g : Value} (h : k < 7) : ox_g (decide (k < [a, b, c, d, e, f, g].length)) r = r := ox_gd' h
def HS (K : ox_H) (f a : List Value) (M : ox_H) : ox_H := K ++ (.inr (2, f) :: (nO 5 ++ (.inr (4, a) :: M)))
section
variable {K M N : ox_H} {f f' a a' : List Value} {c : ox_C}
theorem hs_app : HS K f a M ++ N = HS K f a (M ++ N) := by
  unfold HS
  simp only [List.append_assoc, List.cons_append]
theorem hs_len (hK : K.length = 4) : (HS K f a M).length = 17 + M.length := by
  unfold HS
  simp only [List.length_append, List.length_cons, nO_len, hK]
  omega
theorem k4_set (hK : K.length = 4) {L : ox_H} {x : ox_C} : (K ++ (x :: L)).set 4 c = K ++ (c :: L) := by
  rw [← hK]; exact gl_set0
theorem k4_obj (hK : K.length = 4) {L : ox_H} : ox_obj (K ++ (.inr (2, f) :: L)) 4 2 = some f := by
  have := gl_obj0 (g := K) (L := L) (ci := 2) (fs := f)
  rw [hK] at this; exact this
theorem hs_set4 (hK : K.length = 4) : (HS K f a M).set 4 (.inr (2, f')) = HS K f' a M := k4_set hK
theorem hs_obj4 (hK : K.length = 4) : ox_obj (HS K f a M) 4 2 = some f := k4_obj hK
theorem hs_fld4 (hK : K.length = 4) {k : Nat} : ox_fld (HS K f a M) 4 2 k = f[k]? := by
  have := gl_fld0 (g := K) (L := nO 5 ++ (.inr (4, a) :: M)) (ci := 2) (fs := f) (k := k)
  rw [hK] at this; exact this
theorem hs_get (hK : K.length = 4) (n : Nat) : (HS K f a M)[17 + n]? = M[n]? := by
  have e : HS K f a M = (K ++ ((Sum.inr (2, f) : ox_C) :: (nO 5 ++ [(Sum.inr (4, a) : ox_C)]))) ++ M := by
    unfold HS
    simp only [List.append_assoc, List.cons_append, List.nil_append]
  have l : (K ++ ((Sum.inr (2, f) : ox_C) :: (nO 5 ++ [(Sum.inr (4, a) : ox_C)]))).length = 17 := by
    simp only [List.length_append, List.length_cons, List.length_nil, nO_len, hK]
  rw [e, ← l]
  exact gl_get n
theorem hs_16 (hK : K.length = 4) : (HS K f a M)[16]? = some (.inr (4, a)) := by
  have e : HS K f a M = (K ++ ((Sum.inr (2, f) : ox_C) :: nO 5)) ++ ((Sum.inr (4, a) : ox_C) :: M) := by
    unfold HS
    simp only [List.append_assoc, List.cons_append]
  have l : (K ++ ((Sum.inr (2, f) : ox_C) :: nO 5)).length = 16 := by
    simp only [List.length_append, List.length_cons, nO_len, hK]
  rw [e, ← l]
  exact gl_get0
theorem hs_set16 (hK : K.length = 4) : (HS K f a M).set 16 (.inr (4, a')) = HS K f a' M := by
  have e : ∀ a, HS K f a M = (K ++ ((Sum.inr (2, f) : ox_C) :: nO 5)) ++ ((Sum.inr (4, a) : ox_C) :: M) := fun a => by
    unfold HS
    simp only [List.append_assoc, List.cons_append]
  have l : (K ++ ((Sum.inr (2, f) : ox_C) :: nO 5)).length = 16 := by
    simp only [List.length_append, List.length_cons, nO_len, hK]
  rw [e, e, ← l]
  exact gl_set0
theorem hs_setM (hK : K.length = 4) (n : Nat) : (HS K f a M).set (17 + n) c = HS K f a (M.set n c) := by
  have e : ∀ M, HS K f a M = (K ++ ((Sum.inr (2, f) : ox_C) :: (nO 5 ++ [(Sum.inr (4, a) : ox_C)]))) ++ M := fun M => by
    unfold HS
    simp only [List.append_assoc, List.cons_append, List.nil_append]
  have l : (K ++ ((Sum.inr (2, f) : ox_C) :: (nO 5 ++ [(Sum.inr (4, a) : ox_C)]))).length = 17 := by
    simp only [List.length_append, List.length_cons, List.length_nil, nO_len, hK]
  rw [e, e, ← l]
  exact gl_set n
theorem k2_in0 (hK : K.length = 4) : oe 46 0 [.ref 4, .null] [] (K ++ [.inr (2, ox_dfl 2)]) = oe 46 26 [.ref 4, .int (iI 0)] [] (HS K [.ref 5, .ref 16, .int (iI 0), .null, .null, .null, .null] (List.replicate 8 .null) []) := by
  have hl5 : (K ++ [(Sum.inr (2, ox_dfl 2) : ox_C)]).length = 5 := by rw [List.length_append, hK]; rfl
  have hk := k1_init (g := K ++ [.inr (2, ox_dfl 2)])
  rw [hl5, show K ++ [(Sum.inr (2, ox_dfl 2) : ox_C)] ++ nO 5 = K ++ ((Sum.inr (2, ox_dfl 2) : ox_C) :: nO 5) by simp only [List.append_assoc, List.cons_append, List.nil_append]] at hk
  have ho := gl_obj0 (g := K ++ [.inr (2, ox_dfl 2)]) (L := []) (ci := 1) (fs := ox_dfl 1)
  rw [hl5] at ho
  have hl16 : ∀ f : List Value, (K ++ ((Sum.inr (2, f) : ox_C) :: nO 5)).length = 16 := fun f => by
    simp only [List.length_append, List.length_cons, nO_len, hK]
  have o4 := fun (f : List Value) (L : ox_H) => k4_obj (f := f) (L := L) hK
  have s4 := fun (f : List Value) (L : ox_H) (x : ox_C) => k4_set (c := .inr (2, f)) (L := L) (x := x) hK
  have eh : K ++ ((Sum.inr (2, (ox_dfl 2).set 0 (.ref 5)) : ox_C) :: nO 5) ++ [(Sum.inr (4, List.replicate (iI 8).toNatClampNeg .null) : ox_C)] = HS K ((ox_dfl 2).set 0 (.ref 5)) (List.replicate 8 .null) [] := by
    unfold HS
    simp only [List.append_assoc, List.cons_append, List.nil_append]
    rfl
  have d2 : ∀ {r : Option ox_R} {k : Nat} {f : List Value}, f.length = 7 → k < 7 → ox_g (decide (k < f.length)) r = r := fun {r k f} h1 h2 => by rw [h1]; exact ox_gd' h2
  have l2 : (ox_dfl 2).length = 7 := rfl
  have l2p : ((ox_dfl 2).set 0 (.ref 5)).length = 7 := rfl
  simp (maxSteps := 1000000) (disch := omega) only [eX2_init_0, eX2_init_1, eX2_init_4, eX2_init_5, eX2_init_8, eX2_init_9, eX2_init_12, eX2_init_15, eX2_init_16, eX2_init_18, eX2_init_21, eX2_init_24, eX2_init_25, ox_O_s, ox_B_s, ox_g_t, ox_A_s, ox_push_s, ox_push_n, ox_some, ox_z0, ox_z1, iI_lt, iI_eq, iI_add, iI_sub, if_true, if_false, if_pos, if_neg, hl5, ho, hk, o4, s4, d2 l2, na_8, hl16, eh, hs_obj4 hK, hs_set4 hK, d2 l2p]
  rfl
theorem k2_in1 (hK : K.length = 4) (hf : f[1]? = some (.ref 16)) (ha : a.length = 8) {i : Nat} (hi : i < 8) (hM : M.length = 11 * i) : oe 46 26 [.ref 4, .int (iI (i : Int))] [] (HS K f a M) = oe 46 26 [.ref 4, .int (iI ((i : Int) + 1))] [] (HS K f (a.set i (.ref (17 + 11 * i))) (M ++ nO (17 + 11 * i))) := by
  have hl : (HS K f a M).length = 17 + 11 * i := by rw [hs_len hK, hM]
  have hk := k1_init (g := HS K f a M)
  rw [hl, hs_app (N := nO _)] at hk
  have ho := gl_obj0 (g := HS K f a M) (L := []) (ci := 1) (fs := ox_dfl 1)
  rw [hl] at ho
  have ho2 : (ox_obj (HS K f a (M ++ nO (17 + 11 * i))) (17 + 11 * i) 1).isSome = true := by
    rw [← hs_app, ← hl]
    unfold nO
    rw [gl_obj0]
    rfl
  have q1 : ox_fld (HS K f a M) 4 2 1 = some (.ref 16) := by rw [hs_fld4 hK]; exact hf
  have q16 : ox_obj (HS K f a (M ++ nO (17 + 11 * i))) 16 4 = some a := ox_obj_of (hs_16 hK)
  have s16 := fun v => hs_set16 (K := K) (f := f) (a := a) (a' := a.set i v) (M := M ++ nO (17 + 11 * i)) hK
  obtain ⟨x, hx⟩ : ∃ x, ox_at a (iI (i : Int)) = some x := by
    rw [ox_at_i (by omega) (by omega), Int.toNat_natCast]
    exact ⟨_, List.getElem?_eq_getElem (by omega)⟩
  have hn : (iI (i : Int)).toNatClampNeg = i := by rw [iI_nat (by omega) (by omega), Int.toNat_natCast]
  rw [eX2_init_26]
  simp (maxSteps := 1000000) (disch := omega) only [eX2_init_27, eX2_init_29, eX2_init_32, eX2_init_33, eX2_init_36, eX2_init_37, eX2_init_40, eX2_init_41, eX2_init_44, eX2_init_45, eX2_init_48, ox_O_s, ox_B_s, ox_g_t, ox_A_s, ox_push_s, ox_push_n, ox_some, ox_z0, ox_z1, iI_lt, iI_eq, iI_add, iI_sub, if_true, if_false, if_pos, if_neg, q1, hl, ho, hk, ho2, q16, hx, hn, s16]
theorem k2_in2 (hK : K.length = 4) (i : Nat) (hi : 8 ≤ i) (hi' : i < 100) : oe 46 26 [.ref 4, .int (iI (i : Int))] [] (HS K f a M) = oe 46 51 [.ref 4, .int (iI (i : Int))] [] (HS K f a M) := by
  rw [eX2_init_26]
  simp (maxSteps := 1000000) (disch := omega) only [eX2_init_27, eX2_init_29, ox_O_s, ox_B_s, ox_g_t, ox_A_s, ox_push_s, ox_push_n, ox_some, ox_z0, ox_z1, iI_lt, iI_eq, iI_add, iI_sub, if_true, if_false, if_pos, if_neg]
theorem k2_in3 (hK : K.length = 4) {M8 : ox_H} {b : List Value} (hf : f[3]? = some (.ref 105)) (h8 : M8.length = 88) (hb : b.length = 2) {i : Nat} (hi : i < 2) (hN : N.length = 11 * i) : oe 46 61 [.ref 4, .int (iI (i : Int))] [] (HS K f a (M8 ++ (.inr (4, b) :: N))) = oe 46 61 [.ref 4, .int (iI ((i : Int) + 1))] [] (HS K f a (M8 ++ (.inr (4, b.set i (.ref (106 + 11 * i))) :: (N ++ nO (106 + 11 * i))))) := by
  have hl : (HS K f a (M8 ++ (.inr (4, b) :: N))).length = 106 + 11 * i := by rw [hs_len hK, List.length_append, List.length_cons, h8, hN]; omega
  have hk := k1_init (g := HS K f a (M8 ++ (.inr (4, b) :: N)))
  rw [hl, hs_app (N := nO _), List.append_assoc, List.cons_append] at hk
  have ho := gl_obj0 (g := HS K f a (M8 ++ (.inr (4, b) :: N))) (L := []) (ci := 1) (fs := ox_dfl 1)
  rw [hl] at ho
  have ho2 : (ox_obj (HS K f a (M8 ++ (.inr (4, b) :: (N ++ nO (106 + 11 * i))))) (106 + 11 * i) 1).isSome = true := by
    rw [← List.cons_append, ← List.append_assoc, ← hs_app, ← hl]
    unfold nO
    rw [gl_obj0]
    rfl
  have q3 : ox_fld (HS K f a (M8 ++ (.inr (4, b) :: N))) 4 2 3 = some (.ref 105) := by rw [hs_fld4 hK]; exact hf
  have g105 : ∀ b L, (HS K f a (M8 ++ ((Sum.inr (4, b) : ox_C) :: L)))[105]? = some ((Sum.inr (4, b) : ox_C)) := fun b L => by
    have := hs_get (K := K) (f := f) (a := a) (M := M8 ++ (.inr (4, b) :: L)) hK 88
    rw [show 17 + 88 = 105 from rfl] at this
    rw [this, ← h8]
    exact gl_get0
  have q105 : ox_obj (HS K f a (M8 ++ (.inr (4, b) :: (N ++ nO (106 + 11 * i))))) 105 4 = some b := ox_obj_of (g105 _ _)
  have s105 : ∀ b' L, (HS K f a (M8 ++ ((Sum.inr (4, b) : ox_C) :: L))).set 105 ((Sum.inr (4, b') : ox_C)) = HS K f a (M8 ++ ((Sum.inr (4, b') : ox_C) :: L)) := fun b' L => by
    have := hs_setM (K := K) (f := f) (a := a) (M := M8 ++ (.inr (4, b) :: L)) (c := .inr (4, b')) hK 88
    rw [show 17 + 88 = 105 from rfl] at this
    rw [this, ← h8, gl_set0]
  obtain ⟨x, hx⟩ : ∃ x, ox_at b (iI (i : Int)) = some x := by
    rw [ox_at_i (by omega) (by omega), Int.toNat_natCast]
    exact ⟨_, List.getElem?_eq_getElem (by omega)⟩
  have hn : (iI (i : Int)).toNatClampNeg = i := by rw [iI_nat (by omega) (by omega), Int.toNat_natCast]
  rw [eX2_init_61]
  simp (maxSteps := 1000000) (disch := omega) only [eX2_init_62, eX2_init_63, eX2_init_66, eX2_init_67, eX2_init_70, eX2_init_71, eX2_init_74, eX2_init_75, eX2_init_78, eX2_init_79, eX2_init_82, ox_O_s, ox_B_s, ox_g_t, ox_A_s, ox_push_s, ox_push_n, ox_some, ox_z0, ox_z1, iI_lt, iI_eq, iI_add, iI_sub, if_true, if_false, if_pos, if_neg, q3, hl, ho, hk, ho2, q105, hx, hn, s105]
theorem k2_in4 (hK : K.length = 4) (i : Nat) (hi : 2 ≤ i) (hi' : i < 100) : oe 46 61 [.ref 4, .int (iI (i : Int))] [] (HS K f a M) = oe 46 85 [.ref 4, .int (iI (i : Int))] [] (HS K f a M) := by
  rw [eX2_init_61]
  simp (maxSteps := 1000000) (disch := omega) only [eX2_init_62, eX2_init_63, ox_O_s, ox_B_s, ox_g_t, ox_A_s, ox_push_s, ox_push_n, ox_some, ox_z0, ox_z1, iI_lt, iI_eq, iI_add, iI_sub, if_true, if_false, if_pos, if_neg]
end
def aF : List Value := [.ref 17, .ref 28, .ref 39, .ref 50, .ref 61, .ref 72, .ref 83, .ref 94]
def M8 : ox_H := nO 17 ++ (nO 28 ++ (nO 39 ++ (nO 50 ++ (nO 61 ++ (nO 72 ++ (nO 83 ++ nO 94))))))
theorem M8_len : M8.length = 88 := rfl
theorem k2_ina {K : ox_H} (hK : K.length = 4) {f : List Value} (hf : f[1]? = some (.ref 16)) : oe 46 26 [.ref 4, .int (iI 0)] [] (HS K f (List.replicate 8 .null) []) = oe 46 51 [.ref 4, .int (iI 8)] [] (HS K f aF M8) := by
  have b0 := k2_in1 (f := f) (a := List.replicate 8 .null) (M := []) hK hf rfl (i := 0) (by omega) rfl
  have b1 := k2_in1 (f := f) (a := (List.replicate 8 .null).set 0 (.ref (17 + 11 * 0))) (M := [] ++ nO (17 + 11 * 0)) hK hf rfl (i := 1) (by omega) rfl
  have b2 := k2_in1 (f := f) (a := ((List.replicate 8 .null).set 0 (.ref (17 + 11 * 0))).set 1 (.ref (17 + 11 * 1))) (M := [] ++ nO (17 + 11 * 0) ++ nO (17 + 11 * 1)) hK hf rfl (i := 2) (by omega) rfl
  have b3 := k2_in1 (f := f) (a := (((List.replicate 8 .null).set 0 (.ref (17 + 11 * 0))).set 1 (.ref (17 + 11 * 1))).set 2 (.ref (17 + 11 * 2))) (M := [] ++ nO (17 + 11 * 0) ++ nO (17 + 11 * 1) ++ nO (17 + 11 * 2)) hK hf rfl (i := 3) (by omega) rfl
  have b4 := k2_in1 (f := f) (a := ((((List.replicate 8 .null).set 0 (.ref (17 + 11 * 0))).set 1 (.ref (17 + 11 * 1))).set 2 (.ref (17 + 11 * 2))).set 3 (.ref (17 + 11 * 3))) (M := [] ++ nO (17 + 11 * 0) ++ nO (17 + 11 * 1) ++ nO (17 + 11 * 2) ++ nO (17 + 11 * 3)) hK hf rfl (i := 4) (by omega) rfl
  have b5 := k2_in1 (f := f) (a := (((((List.replicate 8 .null).set 0 (.ref (17 + 11 * 0))).set 1 (.ref (17 + 11 * 1))).set 2 (.ref (17 + 11 * 2))).set 3 (.ref (17 + 11 * 3))).set 4 (.ref (17 + 11 * 4))) (M := [] ++ nO (17 + 11 * 0) ++ nO (17 + 11 * 1) ++ nO (17 + 11 * 2) ++ nO (17 + 11 * 3) ++ nO (17 + 11 * 4)) hK hf rfl (i := 5) (by omega) rfl
  have b6 := k2_in1 (f := f) (a := ((((((List.replicate 8 .null).set 0 (.ref (17 + 11 * 0))).set 1 (.ref (17 + 11 * 1))).set 2 (.ref (17 + 11 * 2))).set 3 (.ref (17 + 11 * 3))).set 4 (.ref (17 + 11 * 4))).set 5 (.ref (17 + 11 * 5))) (M := [] ++ nO (17 + 11 * 0) ++ nO (17 + 11 * 1) ++ nO (17 + 11 * 2) ++ nO (17 + 11 * 3) ++ nO (17 + 11 * 4) ++ nO (17 + 11 * 5)) hK hf rfl (i := 6) (by omega) rfl
  have b7 := k2_in1 (f := f) (a := (((((((List.replicate 8 .null).set 0 (.ref (17 + 11 * 0))).set 1 (.ref (17 + 11 * 1))).set 2 (.ref (17 + 11 * 2))).set 3 (.ref (17 + 11 * 3))).set 4 (.ref (17 + 11 * 4))).set 5 (.ref (17 + 11 * 5))).set 6 (.ref (17 + 11 * 6))) (M := [] ++ nO (17 + 11 * 0) ++ nO (17 + 11 * 1) ++ nO (17 + 11 * 2) ++ nO (17 + 11 * 3) ++ nO (17 + 11 * 4) ++ nO (17 + 11 * 5) ++ nO (17 + 11 * 6)) hK hf rfl (i := 7) (by omega) rfl
  have b8 := k2_in2 (K := K) (f := f) (a := ((((((((List.replicate 8 .null).set 0 (.ref (17 + 11 * 0))).set 1 (.ref (17 + 11 * 1))).set 2 (.ref (17 + 11 * 2))).set 3 (.ref (17 + 11 * 3))).set 4 (.ref (17 + 11 * 4))).set 5 (.ref (17 + 11 * 5))).set 6 (.ref (17 + 11 * 6))).set 7 (.ref (17 + 11 * 7))) (M := [] ++ nO (17 + 11 * 0) ++ nO (17 + 11 * 1) ++ nO (17 + 11 * 2) ++ nO (17 + 11 * 3) ++ nO (17 + 11 * 4) ++ nO (17 + 11 * 5) ++ nO (17 + 11 * 6) ++ nO (17 + 11 * 7)) hK 8 (by omega) (by omega)
  have eM : [] ++ nO (17 + 11 * 0) ++ nO (17 + 11 * 1) ++ nO (17 + 11 * 2) ++ nO (17 + 11 * 3) ++ nO (17 + 11 * 4) ++ nO (17 + 11 * 5) ++ nO (17 + 11 * 6) ++ nO (17 + 11 * 7) = M8 := by unfold M8; simp only [List.append_assoc, List.nil_append]
  have ea : ((((((((List.replicate 8 .null).set 0 (.ref (17 + 11 * 0))).set 1 (.ref (17 + 11 * 1))).set 2 (.ref (17 + 11 * 2))).set 3 (.ref (17 + 11 * 3))).set 4 (.ref (17 + 11 * 4))).set 5 (.ref (17 + 11 * 5))).set 6 (.ref (17 + 11 * 6))).set 7 (.ref (17 + 11 * 7)) = aF := rfl
  rw [eM, ea] at b8
  rw [eM, ea] at b7
  exact b0.trans (b1.trans (b2.trans (b3.trans (b4.trans (b5.trans (b6.trans (b7.trans (b8))))))))
theorem k2_inb {K : ox_H} (hK : K.length = 4) {f a : List Value} (hf : f[3]? = some (.ref 105)) : oe 46 61 [.ref 4, .int (iI 0)] [] (HS K f a (M8 ++ [.inr (4, List.replicate 2 .null)])) = oe 46 85 [.ref 4, .int (iI 2)] [] (HS K f a (M8 ++ (.inr (4, [.ref 106, .ref 117]) :: (nO 106 ++ nO 117)))) := by
  have b0 := k2_in3 (a := a) (N := []) hK hf M8_len (b := List.replicate 2 .null) rfl (i := 0) (by omega) rfl
  have b1 := k2_in3 (a := a) (N := [] ++ nO (106 + 11 * 0)) hK hf M8_len (b := (List.replicate 2 .null).set 0 (.ref (106 + 11 * 0))) rfl (i := 1) (by omega) rfl
  have b2 := k2_in4 (K := K) (f := f) (a := a) (M := M8 ++ (.inr (4, ((List.replicate 2 .null).set 0 (.ref (106 + 11 * 0))).set 1 (.ref (106 + 11 * 1))) :: ([] ++ nO (106 + 11 * 0) ++ nO (106 + 11 * 1)))) hK 2 (by omega) (by omega)
  exact b0.trans (b1.trans b2)
def fF : List Value := [.ref 5, .ref 16, .int (iI 0), .ref 105, .ref 128, .ref 129, .ref 131]
def MF : ox_H := M8 ++ (.inr (4, [.ref 106, .ref 117]) :: (nO 106 ++ (nO 117 ++ (.inl (1, ([0, 0] : List Int).map iI) :: (nL 129 ++ nL 131)))))
theorem k2_init {K : ox_H} (hK : K.length = 4) : oe 46 0 [.ref 4, .null] [] (K ++ [.inr (2, ox_dfl 2)]) = some (none, HS K fF aF MF) := by
  rw [k2_in0 hK, k2_ina hK rfl]
  have hl := fun (f a : List Value) (M : ox_H) => hs_len (f := f) (a := a) (M := M) hK
  have l105 : ∀ f : List Value, (HS K f aF M8).length = 105 := fun f => by rw [hl]; rfl
  have o4 := fun (f a : List Value) (M : ox_H) => hs_obj4 (f := f) (a := a) (M := M) hK
  have s4 := fun (f f' a : List Value) (M : ox_H) => hs_set4 (f := f) (f' := f') (a := a) (M := M) hK
  have d2 : ∀ {r : Option ox_R} {k : Nat} {f : List Value}, f.length = 7 → k < 7 → ox_g (decide (k < f.length)) r = r := fun {r k f} h1 h2 => by rw [h1]; exact ox_gd' h2
  have r2 : List.replicate (iI 2).toNatClampNeg Value.null = List.replicate 2 .null := rfl
  have hb := k2_inb (a := aF) hK (f := [.ref 5, .ref 16, .int (iI 0), .ref 105, .null, .null, .null]) rfl
  have e1 : ([.ref 5, .ref 16, .int (iI 0), .null, .null, .null, .null] : List Value).set 3 (.ref 105) = [.ref 5, .ref 16, .int (iI 0), .ref 105, .null, .null, .null] := rfl
  simp (maxSteps := 1000000) (disch := omega) only [eX2_init_51, eX2_init_52, eX2_init_53, eX2_init_56, eX2_init_59, eX2_init_60, ox_O_s, ox_B_s, ox_g_t, ox_A_s, ox_push_s, ox_push_n, ox_some, ox_z0, ox_z1, iI_lt, iI_eq, iI_add, iI_sub, if_true, if_false, if_pos, if_neg, na_2, r2, l105, hs_app, o4, gl7, s4, e1, hb]
  have l128 : ∀ f : List Value, (HS K f aF (M8 ++ ((Sum.inr (4, [.ref 106, .ref 117]) : ox_C) :: (nO 106 ++ nO 117)))).length = 128 := fun f => by rw [hl]; rfl
  have z2 : List.replicate (iI 2).toNatClampNeg (0 : Int32) = ([0, 0] : List Int).map iI := rfl
  have e2 : ([.ref 5, .ref 16, .int (iI 0), .ref 105, .null, .null, .null] : List Value).set 4 (.ref 128) = [.ref 5, .ref 16, .int (iI 0), .ref 105, .ref 128, .null, .null] := rfl
  simp (maxSteps := 1000000) (disch := omega) only [eX2_init_85, eX2_init_86, eX2_init_87, eX2_init_89, ox_O_s, ox_B_s, ox_g_t, ox_A_s, ox_push_s, ox_push_n, ox_some, ox_z0, ox_z1, iI_lt, iI_eq, iI_add, iI_sub, if_true, if_false, if_pos, if_neg, na_2, z2, l128, hs_app, o4, gl7, s4, e2]
  generalize hB : M8 ++ ((Sum.inr (4, [.ref 106, .ref 117]) : ox_C) :: (nO 106 ++ nO 117)) ++ [(Sum.inl (1, ([0, 0] : List Int).map iI) : ox_C)] = B
  have lB : B.length = 112 := by rw [← hB]; rfl
  have l129 : ∀ f : List Value, (HS K f aF B).length = 129 := fun f => by rw [hl, lB]
  have k129 := k0_init (g := HS K [.ref 5, .ref 16, .int (iI 0), .ref 105, .ref 128, .null, .null] aF B)
  rw [l129, hs_app (N := nL _)] at k129
  have o129 := gl_obj0 (g := HS K [.ref 5, .ref 16, .int (iI 0), .ref 105, .ref 128, .null, .null] aF B) (L := []) (ci := 0) (fs := ox_dfl 0)
  rw [l129] at o129
  have e3 : ([.ref 5, .ref 16, .int (iI 0), .ref 105, .ref 128, .null, .null] : List Value).set 5 (.ref 129) = [.ref 5, .ref 16, .int (iI 0), .ref 105, .ref 128, .ref 129, .null] := rfl
  have l131 : ∀ f : List Value, (HS K f aF (B ++ nL 129)).length = 131 := fun f => by rw [hl, List.length_append, lB]; rfl
  have k131 := k0_init (g := HS K [.ref 5, .ref 16, .int (iI 0), .ref 105, .ref 128, .ref 129, .null] aF (B ++ nL 129))
  rw [l131, hs_app (N := nL _)] at k131
  have o131 := gl_obj0 (g := HS K [.ref 5, .ref 16, .int (iI 0), .ref 105, .ref 128, .ref 129, .null] aF (B ++ nL 129)) (L := []) (ci := 0) (fs := ox_dfl 0)
  rw [l131] at o131
  have e4 : ([.ref 5, .ref 16, .int (iI 0), .ref 105, .ref 128, .ref 129, .null] : List Value).set 6 (.ref 131) = fF := rfl
  simp (maxSteps := 1000000) (disch := omega) only [eX2_init_92, eX2_init_93, eX2_init_96, eX2_init_97, eX2_init_100, eX2_init_103, eX2_init_104, eX2_init_107, eX2_init_108, eX2_init_111, eX2_init_114, ox_O_s, ox_B_s, ox_g_t, ox_A_s, ox_push_s, ox_push_n, ox_some, ox_z0, ox_z1, iI_lt, iI_eq, iI_add, iI_sub, if_true, if_false, if_pos, if_neg, l129, o129, k129, o4, gl7, s4, e3, l131, o131, k131, e4]
  rw [← hB, show M8 ++ ((Sum.inr (4, [.ref 106, .ref 117]) : ox_C) :: (nO 106 ++ nO 117)) ++ [(Sum.inl (1, ([0, 0] : List Int).map iI) : ox_C)] ++ nL 129 ++ nL 131 = MF by
    unfold MF
    simp only [List.append_assoc, List.cons_append, List.nil_append]]
