/-! The reference's constructor; the state at the start; the room. -/
def W0 : List Int := List.replicate 181 0 ++ ([15, 15, 15, 15, 15] ++ List.replicate 32 0)
def Y0 : ol := (fun _ => 0, fun k => if k = 0 then W0 else if k = 1 then List.replicate 1744 0 else if k = 2 then List.replicate 436 0 else if k = 3 then List.replicate 40 0 else if k = 4 then List.replicate 30 0 else List.replicate 120 0)
def nQ (o : Nat) (l : List Int) : ox_H := [.inr (3, [.ref (o + 1), .ref (o + 2), .int (iI 0), .ref (o + 3), .int (iI 0), .ref (o + 4), .int (iI 0), .ref (o + 5), .ref (o + 6), .int (iI 0)]), .inl (0, l.map iI), .inl (0, (List.replicate 1744 0).map iI), .inl (0, (List.replicate 436 0).map iI), .inl (0, (List.replicate 40 0).map iI), .inl (0, (List.replicate 30 0).map iI), .inl (0, (List.replicate 120 0).map iI)]
theorem dfl_3 : ox_dfl 3 = [.null, .null, .int (iI 0), .null, .int (iI 0), .null, .int (iI 0), .null, .null, .int (iI 0)] := rfl
theorem k3_in1 {g : ox_H} : oe 82 0 [.ref g.length, .null] [] (g ++ [.inr (3, ox_dfl 3)]) = oe 82 57 [.ref g.length, .int (iI 0)] [] (g ++ nQ g.length (List.replicate 218 0)) := by
  rw [dfl_3]
  unfold nQ
  simp (maxSteps := 1000000) (disch := omega) only [eX3_init_0, eX3_init_1, eX3_init_4, eX3_init_5, eX3_init_8, eX3_init_10, eX3_init_13, eX3_init_14, eX3_init_17, eX3_init_19, eX3_init_22, eX3_init_23, eX3_init_26, eX3_init_28, eX3_init_31, eX3_init_32, eX3_init_34, eX3_init_36, eX3_init_39, eX3_init_40, eX3_init_42, eX3_init_44, eX3_init_47, eX3_init_48, eX3_init_50, eX3_init_52, eX3_init_55, eX3_init_56, ox_O_s, ox_B_s, ox_g_t, ox_A_s, ox_push_s, ox_push_n, ox_some, ox_z0, ox_z1, iI_lt, iI_eq, iI_add, iI_sub, if_true, if_false, if_pos, if_neg, List.append_assoc, List.cons_append, List.nil_append, List.length_append, List.length_cons, List.length_nil, Nat.zero_add, Nat.reduceAdd, List.set_cons_zero, List.set_cons_succ, na_218, nr_218, na_1744, nr_1744, na_436, nr_436, na_40, nr_40, na_30, nr_30, na_120, nr_120, gl_set0, gl_obj0, ox_gd']
theorem k3_in2 {g : ox_H} {l : List Int} (hl : l.length = 218) {i : Int} (i0 : 0 ≤ i) (i1 : i < 5) : oe 82 57 [.ref g.length, .int (iI i)] [] (g ++ nQ g.length l) = oe 82 57 [.ref g.length, .int (iI (i + 1))] [] (g ++ nQ g.length (iu l (181 + i) 15)) := by
  have q0 : ox_fld (g ++ nQ g.length l) g.length 3 0 = some (.ref (g.length + 1)) := gl_fld0
  have qi : ox_ints (g ++ nQ g.length l) (g.length + 1) ox_is0 = some (l.map iI) := ox_ints_of (gl_get 1) rfl
  have qs : ∀ l' : List Int, (g ++ nQ g.length l).set (g.length + 1) (.inl (0, l'.map iI)) = g ++ nQ g.length l' := fun l' => gl_set 1
  rw [eX3_init_57]
  simp (disch := omega) only [eX3_init_58, eX3_init_59, eX3_init_62, eX3_init_63, eX3_init_66, eX3_init_69, eX3_init_70, eX3_init_71, eX3_init_73, eX3_init_74, eX3_init_77, ox_O_s, ox_B_s, ox_g_t, ox_A_s, ox_push_s, ox_push_n, ox_some, ox_z0, ox_z1, iI_lt, iI_eq, iI_add, ig_at, ig_set, if_true, if_false, if_pos, if_neg, q0, qi, qs]
theorem k3_in3 {g : ox_H} {l : List Int} : oe 82 57 [.ref g.length, .int (iI 5)] [] (g ++ nQ g.length l) = some (none, g ++ nQ g.length l) := by
  rw [eX3_init_57]
  simp (disch := omega) only [eX3_init_58, eX3_init_59, eX3_init_62, eX3_init_63, eX3_init_66, eX3_init_69, eX3_init_70, eX3_init_71, eX3_init_73, eX3_init_74, eX3_init_77, eX3_init_80, ox_O_s, ox_B_s, ox_g_t, ox_A_s, ox_push_s, ox_push_n, ox_some, ox_z0, ox_z1, iI_lt, iI_eq, if_true, if_false, if_pos, if_neg]
theorem W0_eq : iu (iu (iu (iu (iu (List.replicate 218 0) (181 + 0) 15) (181 + (0 + 1)) 15) (181 + (0 + 1 + 1)) 15) (181 + (0 + 1 + 1 + 1)) 15) (181 + (0 + 1 + 1 + 1 + 1)) 15 = W0 := by decide +kernel
theorem k3_init {g : ox_H} : oe 82 0 [.ref g.length, .null] [] (g ++ [.inr (3, ox_dfl 3)]) = some (none, g ++ nQ g.length W0) := by
  have r0 : (List.replicate 218 (0 : Int)).length = 218 := List.length_replicate
  have a0 := k3_in2 (g := g) (l := List.replicate 218 0) r0 (i := 0) (by omega) (by omega)
  have a1 := k3_in2 (g := g) (l := iu (List.replicate 218 0) (181 + 0) 15) (by simp only [iu_len]; exact r0) (i := 0 + 1) (by omega) (by omega)
  have a2 := k3_in2 (g := g) (l := iu (iu (List.replicate 218 0) (181 + 0) 15) (181 + (0 + 1)) 15) (by simp only [iu_len]; exact r0) (i := 0 + 1 + 1) (by omega) (by omega)
  have a3 := k3_in2 (g := g) (l := iu (iu (iu (List.replicate 218 0) (181 + 0) 15) (181 + (0 + 1)) 15) (181 + (0 + 1 + 1)) 15) (by simp only [iu_len]; exact r0) (i := 0 + 1 + 1 + 1) (by omega) (by omega)
  have a4 := k3_in2 (g := g) (l := iu (iu (iu (iu (List.replicate 218 0) (181 + 0) 15) (181 + (0 + 1)) 15) (181 + (0 + 1 + 1)) 15) (181 + (0 + 1 + 1 + 1)) 15) (by simp only [iu_len]; exact r0) (i := 0 + 1 + 1 + 1 + 1) (by omega) (by omega)
  rw [W0_eq] at a4
  rw [k3_in1, a0, a1, a2, a3, a4, show (0 : Int) + 1 + 1 + 1 + 1 + 1 = 5 from rfl]
  exact k3_in3
theorem W0_len : W0.length = 218 := by decide +kernel
theorem w0_all : ig W0 0 = 0 ∧ ig W0 185 = 15 ∧ ig W0 192 = 0 ∧ ig W0 217 = 0 ∧ (∀ k : Fin 4, ig W0 (181 + (k.val : Int)) = 15) ∧ ∀ k : Fin 7, ig W0 (185 + (k.val : Int)) = if k.val = 0 then 15 else 0 := by decide +kernel
theorem ig_rep {n : Nat} (q : Int) : ig (List.replicate n 0) q = 0 := by
  unfold ig
  rw [List.getD_eq_getElem?_getD]
  by_cases c : q.toNat < n
  · rw [List.getElem?_replicate_of_lt c]; rfl
  · rw [List.getElem?_eq_none (by rw [List.length_replicate]; omega)]; rfl
theorem vx_E0 : vx E0 := by
  have n0 : E0.1 0 = 0 := rfl
  have n2 : E0.1 2 = 0 := rfl
  have e1 : E0.2 1 = List.replicate 30 0 := rfl
  have e6 : E0.2 6 = [15, 15, 15, 15, 15] := rfl
  have e7 : E0.2 7 = List.replicate 7 0 := rfl
  refine ⟨fun k hk => ?_, by rw [n0]; omega, fun p a b => absurd b (by rw [n0]; omega), fun p q a b => absurd b (by rw [n0]; omega), fun p a b => absurd b (by rw [n0]; omega), fun b => absurd b (by rw [n0]; omega), fun p a b => absurd b (by rw [n0]; omega), fun k a b _ => by rw [e1]; exact ig_rep k, fun k a b => ?_, fun k a b => by rw [e7, ig_rep]; omega, by show (0 : Int) ≤ 0 ∧ (0 : Int) ≤ 31; omega, by rw [n2]; omega, fun k a b => absurd b (by rw [n2]; omega)⟩
  · match k, hk with
    | 0, _ => rfl
    | 1, _ => rfl
    | 2, _ => rfl
    | 3, _ => rfl
    | 4, _ => rfl
    | 5, _ => rfl
    | 6, _ => rfl
    | 7, _ => rfl
    | 8, _ => rfl
    | 9, _ => rfl
  · rw [e6]
    have hk : k = 0 ∨ k = 1 ∨ k = 2 ∨ k = 3 ∨ k = 4 := by omega
    rcases hk with rfl | rfl | rfl | rfl | rfl <;> decide
theorem rel_E0 : Rel E0 W0 := by
  obtain ⟨a0, a1, a2, a3, a4, a5⟩ := w0_all
  have n0 : E0.1 0 = 0 := rfl
  have n2 : E0.1 2 = 0 := rfl
  have e6 : E0.2 6 = [15, 15, 15, 15, 15] := rfl
  have e7 : E0.2 7 = List.replicate 7 0 := rfl
  refine ⟨W0_len, by rw [a0]; rfl, fun p a b => absurd b (by rw [n0]; omega), fun p a b => absurd b (by rw [n0]; omega), fun k k0 k1 => ?_, by rw [a1]; rfl, fun l l0 l1 => ?_, by rw [a2]; rfl, fun k a b => absurd b (by rw [n2]; omega), by rw [a3]; rfl⟩
  · have := a4 ⟨k.toNat, by omega⟩
    rw [show (((⟨k.toNat, by omega⟩ : Fin 4).val : Nat) : Int) = k by show ((k.toNat : Nat) : Int) = k; omega] at this
    rw [this, e6]
    have hk : k = 0 ∨ k = 1 ∨ k = 2 ∨ k = 3 := by omega
    rcases hk with rfl | rfl | rfl | rfl <;> rfl
  · have := a5 ⟨l.toNat, by omega⟩
    rw [show (((⟨l.toNat, by omega⟩ : Fin 7).val : Nat) : Int) = l by show ((l.toNat : Nat) : Int) = l; omega, if_neg (by show ¬ l.toNat = 0; omega)] at this
    rw [this, e7, ig_rep]
/-- the heap at the start of the loop -/
def hF (xs : List Int32) : ox_H := HS (ow_K4 xs) fF aF MF ++ nQ 133 W0
def A0 : List Nat := [17, 28, 39, 50, 61, 72, 83, 94]
theorem hF_oa (xs : List Int32) : OA (hF xs) 5 E0 := ⟨rfl, fun k hk => match k, hk with
    | 0, _ => rfl
    | 1, _ => rfl
    | 2, _ => rfl
    | 3, _ => rfl
    | 4, _ => rfl
    | 5, _ => rfl
    | 6, _ => rfl
    | 7, _ => rfl
    | 8, _ => rfl
    | 9, _ => rfl⟩
theorem hF_o17 (xs : List Int32) : OA (hF xs) 17 E0 := ⟨rfl, fun k hk => match k, hk with
    | 0, _ => rfl
    | 1, _ => rfl
    | 2, _ => rfl
    | 3, _ => rfl
    | 4, _ => rfl
    | 5, _ => rfl
    | 6, _ => rfl
    | 7, _ => rfl
    | 8, _ => rfl
    | 9, _ => rfl⟩
theorem hF_o28 (xs : List Int32) : OA (hF xs) 28 E0 := ⟨rfl, fun k hk => match k, hk with
    | 0, _ => rfl
    | 1, _ => rfl
    | 2, _ => rfl
    | 3, _ => rfl
    | 4, _ => rfl
    | 5, _ => rfl
    | 6, _ => rfl
    | 7, _ => rfl
    | 8, _ => rfl
    | 9, _ => rfl⟩
theorem hF_o39 (xs : List Int32) : OA (hF xs) 39 E0 := ⟨rfl, fun k hk => match k, hk with
    | 0, _ => rfl
    | 1, _ => rfl
    | 2, _ => rfl
    | 3, _ => rfl
    | 4, _ => rfl
    | 5, _ => rfl
    | 6, _ => rfl
    | 7, _ => rfl
    | 8, _ => rfl
    | 9, _ => rfl⟩
theorem hF_o50 (xs : List Int32) : OA (hF xs) 50 E0 := ⟨rfl, fun k hk => match k, hk with
    | 0, _ => rfl
    | 1, _ => rfl
    | 2, _ => rfl
    | 3, _ => rfl
    | 4, _ => rfl
    | 5, _ => rfl
    | 6, _ => rfl
    | 7, _ => rfl
    | 8, _ => rfl
    | 9, _ => rfl⟩
theorem hF_o61 (xs : List Int32) : OA (hF xs) 61 E0 := ⟨rfl, fun k hk => match k, hk with
    | 0, _ => rfl
    | 1, _ => rfl
    | 2, _ => rfl
    | 3, _ => rfl
    | 4, _ => rfl
    | 5, _ => rfl
    | 6, _ => rfl
    | 7, _ => rfl
    | 8, _ => rfl
    | 9, _ => rfl⟩
theorem hF_o72 (xs : List Int32) : OA (hF xs) 72 E0 := ⟨rfl, fun k hk => match k, hk with
    | 0, _ => rfl
    | 1, _ => rfl
    | 2, _ => rfl
    | 3, _ => rfl
    | 4, _ => rfl
    | 5, _ => rfl
    | 6, _ => rfl
    | 7, _ => rfl
    | 8, _ => rfl
    | 9, _ => rfl⟩
theorem hF_o83 (xs : List Int32) : OA (hF xs) 83 E0 := ⟨rfl, fun k hk => match k, hk with
    | 0, _ => rfl
    | 1, _ => rfl
    | 2, _ => rfl
    | 3, _ => rfl
    | 4, _ => rfl
    | 5, _ => rfl
    | 6, _ => rfl
    | 7, _ => rfl
    | 8, _ => rfl
    | 9, _ => rfl⟩
theorem hF_o94 (xs : List Int32) : OA (hF xs) 94 E0 := ⟨rfl, fun k hk => match k, hk with
    | 0, _ => rfl
    | 1, _ => rfl
    | 2, _ => rfl
    | 3, _ => rfl
    | 4, _ => rfl
    | 5, _ => rfl
    | 6, _ => rfl
    | 7, _ => rfl
    | 8, _ => rfl
    | 9, _ => rfl⟩
theorem hF_o106 (xs : List Int32) : OA (hF xs) 106 E0 := ⟨rfl, fun k hk => match k, hk with
    | 0, _ => rfl
    | 1, _ => rfl
    | 2, _ => rfl
    | 3, _ => rfl
    | 4, _ => rfl
    | 5, _ => rfl
    | 6, _ => rfl
    | 7, _ => rfl
    | 8, _ => rfl
    | 9, _ => rfl⟩
theorem hF_o117 (xs : List Int32) : OA (hF xs) 117 E0 := ⟨rfl, fun k hk => match k, hk with
    | 0, _ => rfl
    | 1, _ => rfl
    | 2, _ => rfl
    | 3, _ => rfl
    | 4, _ => rfl
    | 5, _ => rfl
    | 6, _ => rfl
    | 7, _ => rfl
    | 8, _ => rfl
    | 9, _ => rfl⟩
theorem hA_A0 : hA A0 := by
  refine ⟨rfl, fun i hi => ?_, fun i j hi hj e => ?_⟩
  · match i, hi with
    | 0, _ => decide
    | 1, _ => decide
    | 2, _ => decide
    | 3, _ => decide
    | 4, _ => decide
    | 5, _ => decide
    | 6, _ => decide
    | 7, _ => decide
  · have key : ∀ i : Fin 8, ∀ j : Fin 8, A0.getD i.val 0 = A0.getD j.val 0 → i = j := by decide
    have := key ⟨i, hi⟩ ⟨j, hj⟩ e
    exact congrArg Fin.val this
theorem hF_CS (xs : List Int32) : CS (hF xs) E0 0 A0 (fun _ => E0) (fun _ => E0) [0, 0] L0 L0 := by
  refine ⟨rfl, rfl, hF_oa xs, rfl, hA_A0, fun i hi => ⟨?_, vx_E0.1⟩, rfl, fun i hi => ⟨?_, vx_E0.1⟩, rfl, rfl, ⟨⟨rfl, fun k hk => ?_⟩, List.length_replicate⟩, ⟨⟨rfl, fun k hk => ?_⟩, List.length_replicate⟩, rfl, rfl, rfl⟩
  · match i, hi with
    | 0, _ => exact hF_o17 xs
    | 1, _ => exact hF_o28 xs
    | 2, _ => exact hF_o39 xs
    | 3, _ => exact hF_o50 xs
    | 4, _ => exact hF_o61 xs
    | 5, _ => exact hF_o72 xs
    | 6, _ => exact hF_o83 xs
    | 7, _ => exact hF_o94 xs
  · match i, hi with
    | 0, _ => exact hF_o106 xs
    | 1, _ => exact hF_o117 xs
  · match k, hk with
    | 0, _ => rfl
  · match k, hk with
    | 0, _ => rfl
theorem hF_MA (xs : List Int32) : MA (hF xs) 133 Y0 := ⟨rfl, fun k hk => match k, hk with
    | 0, _ => rfl
    | 1, _ => rfl
    | 2, _ => rfl
    | 3, _ => rfl
    | 4, _ => rfl
    | 5, _ => rfl⟩
theorem hF_Sm (xs : List Int32) : Sm xs (hF xs) := by
  refine ⟨rfl, E0, 0, A0, fun _ => E0, fun _ => E0, [0, 0], L0, L0, Y0, hF_CS xs, hF_MA xs, vx_E0, rel_E0, by omega, rfl, List.length_replicate, fun i hi => absurd hi (by omega), List.length_replicate, by show (0 : Int) ≤ 0 ∧ (0 : Int) ≤ 3; omega, fun i hi => ?_, by show (0 : Int) ≤ 0 ∧ (0 : Int) ≤ 40; omega, rfl, List.length_replicate, fun i a b => absurd b (by show ¬ i < 0; omega), List.length_replicate, List.length_replicate⟩
  have hk : ∀ i : Fin 2, ig [0, 0] (i.val : Int) = 0 ∧ bt 0 (i.val : Int) = 0 := by decide
  have := hk ⟨i, hi⟩
  refine ⟨?_, fun z => ?_⟩
  · show ig [0, 0] (i : Int) = bt 0 (i : Int)
    rw [this.1, this.2]
  · rw [this.1] at z
    exact absurd z (by omega)
/-- every cell of an outline is short -/
theorem oa_cl {h : ox_H} {o : Nat} {X : ol} (hO : OA h o X) (hl : ol_len X) {a : Nat} (h0 : o ≤ a) (h1 : a ≤ o + 10) : ∃ c, h[a]? = some c ∧ ox_cl c ≤ 2048 := by
  by_cases e : a = o
  · exact ⟨_, by rw [e]; exact hO.1, by show 13 ≤ 2048; omega⟩
  · have := hO.2 (a - o - 1) (by omega)
    rw [show o + 1 + (a - o - 1) = a by omega] at this
    refine ⟨_, this, ?_⟩
    show ((X.2 (a - o - 1)).map iI).length ≤ 2048
    rw [List.length_map, hl _ (by omega)]
    have key : ∀ k : Fin 10, oa_ln.getD k.val 0 ≤ 2048 := by decide
    exact key ⟨a - o - 1, by omega⟩
theorem A_sur {A : List Nat} (hA' : hA A) {j : Nat} (hj : j < 8) : ∃ i, i < 8 ∧ A.getD i 0 = 17 + 11 * j := by
  obtain ⟨h1, h2, h3⟩ := hA'
  by_cases c : ∃ i, i < 8 ∧ A.getD i 0 = 17 + 11 * j
  · exact c
  · exfalso
    have hne : ∀ i, i < 8 → A.getD i 0 ≠ 17 + 11 * j := fun i hi e => c ⟨i, hi, e⟩
    have := php 7 8 (fun i => if (A.getD i 0 - 17) / 11 < j then (A.getD i 0 - 17) / 11 else (A.getD i 0 - 17) / 11 - 1) (fun i hi => by
      have a1 := h2 i hi
      have a2 := hne i hi
      show (if (A.getD i 0 - 17) / 11 < j then (A.getD i 0 - 17) / 11 else (A.getD i 0 - 17) / 11 - 1) < 7
      split <;> omega) (fun i i' hi hi' e => by
      have a1 := h2 i hi
      have a2 := hne i hi
      have b1 := h2 i' hi'
      have b2 := hne i' hi'
      have e : (if (A.getD i 0 - 17) / 11 < j then (A.getD i 0 - 17) / 11 else (A.getD i 0 - 17) / 11 - 1) = (if (A.getD i' 0 - 17) / 11 < j then (A.getD i' 0 - 17) / 11 else (A.getD i' 0 - 17) / 11 - 1) := e
      refine h3 i i' hi hi' ?_
      split at e <;> split at e <;> omega)
    omega
theorem sm_cl {xs : List Int32} {h : ox_H} (hx : xs.length ≤ 2048) (hS : Sm xs h) {a : Nat} (ha : a < 140) : ∃ c, h[a]? = some c ∧ ox_cl c ≤ 2048 := by
  obtain ⟨h0, X, c, A, H, I, K, T, U, Y, hC, hM, hR⟩ := hS
  obtain ⟨a1, a2, a3, a4, a5, a6, a7, a8, a9, a10, a11, a12, a13⟩ := hC
  obtain ⟨s1, s2, s3, s4, s5, s6, s7, s8, s9, s10, s11, s12, s13, s14, s15⟩ := hR
  by_cases c0 : a = 0
  · exact ⟨.inl (2, xs), by rw [c0]; exact h0, hx⟩
  · by_cases c1 : a = 1
    · exact ⟨_, by rw [c1]; exact a13.1, by decide⟩
    · by_cases c2 : a = 2
      · exact ⟨_, by rw [c2]; exact a13.2.1, by decide⟩
      · by_cases c3 : a = 3
        · exact ⟨_, by rw [c3]; exact a13.2.2, by decide⟩
        · by_cases c4 : a = 4
          · exact ⟨_, by rw [c4]; exact a2, by show 7 ≤ 2048; omega⟩
          · by_cases c5 : a ≤ 15
            · exact oa_cl a3 s1.1 (by omega) (by omega)
            · by_cases c6 : a = 16
              · exact ⟨_, by rw [c6]; exact a4, by show (A.map Value.ref).length ≤ 2048; rw [List.length_map, a5.1]; omega⟩
              · by_cases c7 : a ≤ 104
                · obtain ⟨i, hi, e⟩ := A_sur a5 (j := (a - 17) / 11) (by omega)
                  have := a6 i hi
                  rw [e] at this
                  exact oa_cl this.1 this.2 (by omega) (by omega)
                · by_cases c8 : a = 105
                  · exact ⟨_, by rw [c8]; exact a7, by show 2 ≤ 2048; omega⟩
                  · by_cases c9 : a ≤ 127
                    · have := a8 ((a - 106) / 11) (by omega)
                      exact oa_cl this.1 this.2 (by omega) (by omega)
                    · by_cases d0 : a = 128
                      · exact ⟨_, by rw [d0]; exact a9, by show (K.map iI).length ≤ 2048; rw [List.length_map, a10]; omega⟩
                      · by_cases d1 : a = 129
                        · exact ⟨_, by rw [d1]; exact a11.1.1, by show 2 ≤ 2048; omega⟩
                        · by_cases d2 : a = 130
                          · exact ⟨_, by rw [d2]; exact a11.1.2 0 (by decide), by show ((T.2 0).map iI).length ≤ 2048; rw [List.length_map, a11.2]; omega⟩
                          · by_cases d3 : a = 131
                            · exact ⟨_, by rw [d3]; exact a12.1.1, by show 2 ≤ 2048; omega⟩
                            · by_cases d4 : a = 132
                              · exact ⟨_, by rw [d4]; exact a12.1.2 0 (by decide), by show ((U.2 0).map iI).length ≤ 2048; rw [List.length_map, a12.2]; omega⟩
                              · by_cases d5 : a = 133
                                · exact ⟨_, by rw [d5]; exact hM.1, by show 10 ≤ 2048; omega⟩
                                · have := hM.2 (a - 134) (by omega)
                                  rw [show 133 + 1 + (a - 134) = a by omega] at this
                                  refine ⟨_, this, ?_⟩
                                  show ((Y.2 (a - 134)).map iI).length ≤ 2048
                                  rw [List.length_map]
                                  have hk : a - 134 = 0 ∨ a - 134 = 1 ∨ a - 134 = 2 ∨ a - 134 = 3 ∨ a - 134 = 4 ∨ a - 134 = 5 := by omega
                                  rcases hk with e | e | e | e | e | e <;> rw [e]
                                  · rw [s2.1]; omega
                                  · rw [s5]; omega
                                  · rw [s7]; omega
                                  · rw [s12]; omega
                                  · rw [s14]; omega
                                  · rw [s15]; omega
theorem sl_bd : ∀ (h : ox_H), (∀ c, c ∈ h → ox_cl c ≤ 2048) → ox_sl h ≤ 2048 * h.length
  | [], _ => by decide
  | c :: h, hc => by
    have h1 := hc c List.mem_cons_self
    have h2 := sl_bd h (fun x hx => hc x (List.mem_cons_of_mem _ hx))
    have : ox_sl (c :: h) = ox_cl c + ox_sl h := by unfold ox_sl; rw [List.map_cons, List.sum_cons]
    rw [this, List.length_cons]
    omega
theorem sm_sl {xs : List Int32} {h : ox_H} (hx : xs.length ≤ 2048) (hS : Sm xs h) : h.length = 140 ∧ ox_sl h ≤ 7302250 := by
  have hl : h.length = 140 := by
    obtain ⟨h0, X, c, A, H, I, K, T, U, Y, hC, hM, hR⟩ := hS
    exact hC.1
  refine ⟨hl, ?_⟩
  have := sl_bd h (fun c hc => by
    obtain ⟨n, hn, e⟩ := List.mem_iff_getElem.mp hc
    obtain ⟨c', e1, e2⟩ := sm_cl hx hS (a := n) (by omega)
    rw [List.getElem?_eq_getElem hn, e] at e1
    rw [Option.some.inj e1]
    exact e2)
  rw [hl] at this
  omega
