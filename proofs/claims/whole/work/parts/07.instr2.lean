/-! Arrays, new cells, calls of the library. -/
theorem ow_ad4 {g : ow_G} {a : Nat} (h : a < 4) : ow_ad g a = g.2.1 a := if_pos h
theorem ow_isI {t : Nat} (h : ox_isI t = true) : t = 0 ∨ t = 2 := by simpa [ox_isI] using h
theorem ow_t13 (k : Nat) : (ow_tab k).length = 13 := by unfold ow_tab; split; rfl; split <;> rfl
theorem ow_map1 {g : ow_G} {st : List Value} (hst : st.all (fun v => v.category == 1) = true) : ((st.map (ow_cv g)).map fun v => v.category).sum = st.length := by
  induction st with
  | nil => rfl
  | cons v st ih =>
    simp only [List.all_cons, Bool.and_eq_true, beq_iff_eq] at hst
    simp only [List.map_cons, List.sum_cons, List.length_cons, ow_cat, hst.1, ih hst.2]
    omega
theorem ow_cpy {l l' : List Int32} {n : Nat} (h1 : n ≤ l.length) (h2 : n ≤ l'.length) : va_cpy (fun j => l.getD j 0) (fun j => l'.getD j 0) 0 0 n = fun j => (l.take n ++ l'.drop n).getD j 0 := by
  funext j
  simp only [va_cpy, Nat.zero_le, true_and, Nat.zero_add, Nat.sub_zero]
  by_cases hj : j < n
  · rw [if_pos hj]
    simp [List.getElem?_append_left (show j < (l.take n).length by simp; omega), List.getElem?_take, hj]
  · rw [if_neg hj]
    simp only [List.getD_eq_getElem?_getD]
    rw [List.getElem?_append_right (by simp; omega), List.getElem?_drop]
    congr 2
    simp
    omega
section
variable {g : ow_G} {xs : List Int32} {mi : Nat} {p : Program} {l : Launch} {e : Env} {R : Room} {s : State} {m : MethodId} {args : Array Value} {below : List Frame} {meth : Method} {c : Code} {Q : State → Prop} {n0 s0 pc : Nat} {ls st : List Value} {h : ox_H}
theorem os_iald (C : ow_Cx g xs mi p R s m args meth c) {a : Nat} {i x : Int32} {l0 : List Int32} (hd : decode (mt_c mi) pc = .ok (.iaload, 1)) (hf : ox_ints h a ox_isI = some l0) (hi : ox_at l0 i = some x) (kk : ow_Go g xs mi p l e R s m args below meth c Q n0 s0 (pc + 1) ls (.int x :: st) h) : ow_Go g xs mi p l e R s m args below meth c Q n0 s0 pc ls (.int i :: .ref a :: st) h := by
  intro H locs cells slots A hP hS hL hc hs hk
  obtain ⟨hx, hb, hml, hown, hts, hin, hSW, hR1, hR2, hb0⟩ := C
  obtain ⟨t, e1, e2⟩ := ox_ints_some hf
  obtain ⟨i1, i2, i3, i4⟩ := ox_at_some hi
  have k1 := kk H locs cells slots A hP hS hL hc hs hk
  rcases Nat.lt_or_ge a 4 with ha | ha
  · rw [ow_k4_get hk ha] at e1
    match a, ha, e1 with
    | 0, _, e1 =>
      cases e1
      refine va_sld hx hb hSW.2.2.2.1 hSW.2.2.2.2.1 (Nat.not_le.mpr hSW.2.2.2.2.2.1) hS i4 hd ?_
      rw [ow_getD i3]
      exact k1
    | 1, _, e1 =>
      cases e1
      exact va_ti hx hb (hSW.2.2.2.2.2.2 1 (by omega) (by omega)).2 hS (N := 13) i4 (by rw [show ow_tab 1 = ow_t1 from rfl, ow_getD i3]; rfl) hd k1
    | 2, _, e1 => cases e1; cases e2
    | 3, _, e1 => cases e1; cases e2
  · have hw := ow_ws_get (g := g) ha e1
    rw [ow_E_int (by rcases ow_isI e2 with q | q <;> omega)] at hw
    refine va_iald hx hb hSW.1 hP (a - 4) 0 hw rfl i4 hd ?_
    rw [ow_getD i3]
    exact k1
theorem os_bald (C : ow_Cx g xs mi p R s m args meth c) {a : Nat} {i x : Int32} {l0 : List Int32} (hd : decode (mt_c mi) pc = .ok (.baload, 1)) (hf : ox_ints h a ox_isZ = some l0) (hi : ox_at l0 i = some x) (kk : ow_Go g xs mi p l e R s m args below meth c Q n0 s0 (pc + 1) ls (.int x :: st) h) : ow_Go g xs mi p l e R s m args below meth c Q n0 s0 pc ls (.int i :: .ref a :: st) h := by
  intro H locs cells slots A hP hS hL hc hs hk
  obtain ⟨hx, hb, hml, hown, hts, hin, hSW, hR1, hR2, hb0⟩ := C
  obtain ⟨t, e1, e2⟩ := ox_ints_some hf
  obtain ⟨i1, i2, i3, i4⟩ := ox_at_some hi
  have ht : t = 1 := by simpa [ox_isZ] using e2
  subst ht
  have ha := ow_k4_inl hk e1 (by omega)
  have hw := ow_ws_get (g := g) ha e1
  rw [ow_E_bool] at hw
  refine va_zald hx hb hSW.1 hP (a - 4) 1 hw rfl i4 hd ?_
  rw [ow_getD i3]
  exact kk H locs cells slots A hP hS hL hc hs hk
theorem os_cald (C : ow_Cx g xs mi p R s m args meth c) {a : Nat} {i x : Int32} {l0 : List Int32} (hd : decode (mt_c mi) pc = .ok (.caload, 1)) (hf : (if a < 4 then ox_ints h a ox_isC else none) = some l0) (hi : ox_at l0 i = some x) (kk : ow_Go g xs mi p l e R s m args below meth c Q n0 s0 (pc + 1) ls (.int x :: st) h) : ow_Go g xs mi p l e R s m args below meth c Q n0 s0 pc ls (.int i :: .ref a :: st) h := by
  intro H locs cells slots A hP hS hL hc hs hk
  obtain ⟨hx, hb, hml, hown, hts, hin, hSW, hR1, hR2, hb0⟩ := C
  rcases Nat.lt_or_ge a 4 with ha | ha
  · rw [if_pos ha] at hf
    obtain ⟨t, e1, e2⟩ := ox_ints_some hf
    obtain ⟨i1, i2, i3, i4⟩ := ox_at_some hi
    have k1 := kk H locs cells slots A hP hS hL hc hs hk
    rw [ow_k4_get hk ha] at e1
    match a, ha, e1 with
    | 0, _, e1 => cases e1; cases e2
    | 1, _, e1 => cases e1; cases e2
    | 2, _, e1 =>
      cases e1
      exact va_tc hx hb (hSW.2.2.2.2.2.2 2 (by omega) (by omega)).2 hS (N := 13) i4 (by rw [show ow_tab 2 = ow_t2 from rfl, ow_getD i3]; rfl) hd k1
    | 3, _, e1 =>
      cases e1
      exact va_tc hx hb (hSW.2.2.2.2.2.2 3 (by omega) (by omega)).2 hS (N := 13) i4 (by rw [show ow_tab 3 = ow_t3 from rfl, ow_getD i3]; rfl) hd k1
  · rw [if_neg (Nat.not_lt.mpr ha)] at hf
    cases hf
theorem os_aald (C : ow_Cx g xs mi p R s m args meth c) {a b : Nat} {i : Int32} {l0 : List Value} (hd : decode (mt_c mi) pc = .ok (.aaload, 1)) (hf : ox_obj h a 4 = some l0) (hi : ox_at l0 i = some (.ref b)) (kk : ow_Go g xs mi p l e R s m args below meth c Q n0 s0 (pc + 1) ls (.ref b :: st) h) : ow_Go g xs mi p l e R s m args below meth c Q n0 s0 pc ls (.int i :: .ref a :: st) h := by
  intro H locs cells slots A hP hS hL hc hs hk
  obtain ⟨hx, hb, hml, hown, hts, hin, hSW, hR1, hR2, hb0⟩ := C
  have e1 := ox_obj_some hf
  obtain ⟨i1, i2, i3, i4⟩ := ox_at_some hi
  have ha := ow_k4_inr hk e1
  have hw := ow_ws_get (g := g) ha e1
  rw [ow_E_row] at hw
  refine va_aldq hx hb hSW.1 hP (a - 4) 2 hw rfl i4 hd ?_
  have e : va_rf (ow_ro g (l0.getD i.toNatClampNeg .null)) = ow_cv g (.ref b) := by simp [i3, ow_ro, va_rf, ow_cv]
  rw [e]
  exact kk H locs cells slots A hP hS hL hc hs hk
theorem os_iast (C : ow_Cx g xs mi p R s m args meth c) {a : Nat} {i x y : Int32} {l0 : List Int32} (hd : decode (mt_c mi) pc = .ok (.iastore, 1)) (hf : ox_ints h a ox_is0 = some l0) (hi : ox_at l0 i = some y) (kk : ow_Go g xs mi p l e R s m args below meth c Q n0 s0 (pc + 1) ls st (h.set a (.inl (0, l0.set i.toNatClampNeg x)))) : ow_Go g xs mi p l e R s m args below meth c Q n0 s0 pc ls (.int x :: .int i :: .ref a :: st) h := by
  intro H locs cells slots A hP hS hL hc hs hk
  obtain ⟨hx, hb, hml, hown, hts, hin, hSW, hR1, hR2, hb0⟩ := C
  obtain ⟨t, e1, e2⟩ := ox_ints_some hf
  obtain ⟨i1, i2, i3, i4⟩ := ox_at_some hi
  have ht : t = 0 := by simpa [ox_is0] using e2
  subst ht
  have ha := ow_k4_inl hk e1 (by omega)
  have hw := ow_ws_get (g := g) ha e1
  rw [ow_E_int (by omega)] at hw
  refine va_iast hx hb hSW.1 hP ow_D hS (a - 4) 0 hw rfl i4 hd (fun H1 locs1 hP1 _ hS1 => ?_)
  have heq : (ow_ws g h).set (a - 4) (ow_ad g a, .inl (g.2.2.2.1, l0.length, .inl (upd (fun j => l0.getD j 0) i.toNatClampNeg x))) = ow_ws g (h.set a (.inl (0, l0.set i.toNatClampNeg x))) := by
    rw [← ow_ws_set ha, ow_E_int (by omega), ow_upd i2, List.length_set]
  rw [heq] at hP1
  exact kk H1 locs1 cells slots A hP1 hS1 hL (by rw [List.length_set]; exact hc) (by rw [ox_sl_set e1 (by simp [ox_cl])]; exact hs) (ow_k4_set hk ha _)
theorem os_bast (C : ow_Cx g xs mi p R s m args meth c) {a : Nat} {i x y : Int32} {l0 : List Int32} (hd : decode (mt_c mi) pc = .ok (.bastore, 1)) (hx01 : x = 0 ∨ x = 1) (hf : ox_ints h a ox_isZ = some l0) (hi : ox_at l0 i = some y) (kk : ow_Go g xs mi p l e R s m args below meth c Q n0 s0 (pc + 1) ls st (h.set a (.inl (1, l0.set i.toNatClampNeg x)))) : ow_Go g xs mi p l e R s m args below meth c Q n0 s0 pc ls (.int x :: .int i :: .ref a :: st) h := by
  intro H locs cells slots A hP hS hL hc hs hk
  obtain ⟨hx, hb, hml, hown, hts, hin, hSW, hR1, hR2, hb0⟩ := C
  obtain ⟨t, e1, e2⟩ := ox_ints_some hf
  obtain ⟨i1, i2, i3, i4⟩ := ox_at_some hi
  have ht : t = 1 := by simpa [ox_isZ] using e2
  subst ht
  have ha := ow_k4_inl hk e1 (by omega)
  have hw := ow_ws_get (g := g) ha e1
  rw [ow_E_bool] at hw
  refine va_zast hx hb hSW.1 hP ow_D hS (a - 4) 1 hw rfl i4 hd (fun H1 locs1 hP1 _ hS1 => ?_)
  have hnar : vp_nar .boolean x = x := by rcases hx01 with rfl | rfl <;> rfl
  have heq : (ow_ws g h).set (a - 4) (ow_ad g a, .inl (g.2.2.2.2.1, l0.length, .inl (upd (fun j => l0.getD j 0) i.toNatClampNeg (vp_nar .boolean x)))) = ow_ws g (h.set a (.inl (1, l0.set i.toNatClampNeg x))) := by
    rw [← ow_ws_set ha, ow_E_bool, hnar, ow_upd i2, List.length_set]
  rw [heq] at hP1
  exact kk H1 locs1 cells slots A hP1 hS1 hL (by rw [List.length_set]; exact hc) (by rw [ox_sl_set e1 (by simp [ox_cl])]; exact hs) (ow_k4_set hk ha _)
theorem os_aast (C : ow_Cx g xs mi p R s m args meth c) {a b : Nat} {i : Int32} {y : Value} {l0 fs : List Value} (hd : decode (mt_c mi) pc = .ok (.aastore, 1)) (hob : ox_obj h b 1 = some fs) (hf : ox_obj h a 4 = some l0) (hi : ox_at l0 i = some y) (kk : ow_Go g xs mi p l e R s m args below meth c Q n0 s0 (pc + 1) ls st (h.set a (.inr (4, l0.set i.toNatClampNeg (.ref b))))) : ow_Go g xs mi p l e R s m args below meth c Q n0 s0 pc ls (.ref b :: .int i :: .ref a :: st) h := by
  intro H locs cells slots A hP hS hL hc hs hk
  obtain ⟨hx, hb, hml, hown, hts, hin, hSW, hR1, hR2, hb0⟩ := C
  have e1 := ox_obj_some hf
  have e2 := ox_obj_some hob
  obtain ⟨i1, i2, i3, i4⟩ := ox_at_some hi
  have ha := ow_k4_inr hk e1
  have hb4 := ow_k4_inr hk e2
  have hw := ow_ws_get (g := g) ha e1
  rw [ow_E_row] at hw
  have hw2 := ow_ws_get (g := g) hb4 e2
  rw [ow_E_obj (by omega)] at hw2
  refine va_astq hx hb hSW.1 hP ow_D hS (a - 4) 2 (b - 4) 1 (r := (mt_R 1, mt_T 1, mt_N 1)) hw rfl hw2 (ow_cl (by omega)) i4 hd (fun H1 locs1 hP1 _ hS1 => ?_)
  have heq : (ow_ws g h).set (a - 4) (ow_ad g a, .inl (g.2.2.2.2.2, l0.length, .inr (.inr (.inr (.inr (va_up (fun j => ow_ro g (l0.getD j .null)) i.toNatClampNeg (some (ow_ad g b)))))))) = ow_ws g (h.set a (.inr (4, l0.set i.toNatClampNeg (.ref b)))) := by
    have hfun : va_up (fun j => ow_ro g (l0.getD j .null)) i.toNatClampNeg (some (ow_ad g b)) = fun j => ow_ro g ((l0.set i.toNatClampNeg (.ref b)).getD j .null) := by
      funext j
      by_cases hj : j = i.toNatClampNeg
      · subst hj
        simp [va_up, i2, ow_ro]
      · simp [va_up, hj, List.getElem?_set_ne (Ne.symm hj)]
    rw [← ow_ws_set ha, ow_E_row, List.length_set, hfun]
  rw [heq] at hP1
  exact kk H1 locs1 cells slots A hP1 hS1 hL (by rw [List.length_set]; exact hc) (by rw [ox_sl_set e1 (by simp [ox_cl])]; exact hs) (ow_k4_set hk ha _)
theorem os_alen (C : ow_Cx g xs mi p R s m args meth c) {a n : Nat} (hd : decode (mt_c mi) pc = .ok (.arraylength, 1)) (hf : ox_len h a = some n) (kk : ow_Go g xs mi p l e R s m args below meth c Q n0 s0 (pc + 1) ls (.int (Int32.ofNat n) :: st) h) : ow_Go g xs mi p l e R s m args below meth c Q n0 s0 pc ls (.ref a :: st) h := by
  intro H locs cells slots A hP hS hL hc hs hk
  obtain ⟨hx, hb, hml, hown, hts, hin, hSW, hR1, hR2, hb0⟩ := C
  have k1 := kk H locs cells slots A hP hS hL hc hs hk
  unfold ox_len at hf
  rcases Nat.lt_or_ge a 4 with ha | ha
  · rw [ow_k4_get hk ha] at hf
    match a, ha, hf with
    | 0, _, hf => cases hf; exact va_slen hx hb hSW.2.2.2.1 hSW.2.2.2.2.1 (Nat.not_le.mpr hSW.2.2.2.2.2.1) hS hd k1
    | 1, _, hf => cases hf; exact va_tlen hx hb (hSW.2.2.2.2.2.2 1 (by omega) (by omega)).2 hS rfl hd k1
    | 2, _, hf => cases hf; exact va_tlen hx hb (hSW.2.2.2.2.2.2 2 (by omega) (by omega)).2 hS rfl hd k1
    | 3, _, hf => cases hf; exact va_tlen hx hb (hSW.2.2.2.2.2.2 3 (by omega) (by omega)).2 hS rfl hd k1
  · split at hf
    · rename_i q hq
      cases hf
      have hw := ow_ws_get (g := g) ha hq
      by_cases h1 : q.1 = 1
      · obtain ⟨t, l0⟩ := q
        cases h1
        rw [ow_E_bool] at hw
        exact va_alen hx hb hSW.1 hP (a - 4) 1 hw (ty := .boolean) rfl rfl hd k1
      · obtain ⟨t, l0⟩ := q
        rw [ow_E_int h1] at hw
        exact va_alen hx hb hSW.1 hP (a - 4) 0 hw (ty := .int) rfl rfl hd k1
    · rename_i q hq
      split at hf
      · rename_i h4
        obtain ⟨t, l0⟩ := q
        cases h4
        cases hf
        have hw := ow_ws_get (g := g) ha hq
        rw [ow_E_row] at hw
        exact va_alen hx hb hSW.1 hP (a - 4) 2 hw (ty := .object "OutlineEditor$Outline") rfl rfl hd k1
      · cases hf
    · cases hf
/-- behind a new cell -/
theorem os_pushed {q : Nat} {E : va_E} {x : ox_C} {H1 : Heap} {locs : List Loc} {cells slots : Nat} {A : Array Slot} (hn : s.heap.size + 4 = g.1 + n0) (hk : ow_k4 xs h) (hE : E = ow_E g x) (hP1 : va_P g.2.2.1 vwCl (ow_ws g h ++ [(q, E)]) H1) (hD1 : va_D (ow_A g) (ow_ws g h ++ [(q, E)])) (hc : cells + n0 = h.length) (hs : slots + s0 = ox_sl h)
    (hS1 : va_S (ow_A g) s.heap H1 locs) (hL : ow_L g A (mt_n mi) ls) {pc' : Nat} (kk : ow_Go g xs mi p l e R s m args below meth c Q n0 s0 pc' ls (.ref h.length :: st) (h ++ [x])) : W p l e R s m args below meth c H1 locs (cells + 1) (slots + ox_cl x) Q (F0 m pc' A (.ref q :: st.map (ow_cv g))) := by
  refine ow_sz (fun hz => ?_)
  have hlen := ow_k4_len hk
  have hlast : (ow_ws g h ++ [(q, E)])[(ow_ws g h).length]? = some (q, E) := by simp
  have hq := (hP1 _ _ hlast).lt
  have e := ow_newq hD1 hlen (by simp only at hq; omega)
  subst e
  subst hE
  rw [← ow_ws_push hlen] at hP1
  exact kk H1 locs (cells + 1) (slots + ox_cl x) A hP1 hS1 hL (by simp; omega) (by rw [ox_sl_push]; omega) (ow_k4_push hk x)
theorem os_new (C : ow_Cx g xs mi p R s m args meth c) (hn : s.heap.size + 4 = g.1 + n0) {i k : Nat} (hd : decode (mt_c mi) pc = .ok (.new i, 3)) (hr : rs_K (mt_k mi) i = some k) (hrc : h.length + 1 ≤ R.cells + n0) (hrs : ox_sl h + ox_cl (.inr (k, ox_dfl k)) ≤ R.slots + s0) (kk : ow_Go g xs mi p l e R s m args below meth c Q n0 s0 (pc + 3) ls (.ref h.length :: st) (h ++ [.inr (k, ox_dfl k)])) : ow_Go g xs mi p l e R s m args below meth c Q n0 s0 pc ls st h := by
  intro H locs cells slots A hP hS hL hc hs hk
  obtain ⟨hx, hb, hml, hown, hts, hin, hSW, hR1, hR2, hb0⟩ := C
  obtain ⟨g1, g2, g3, g4⟩ := rs_gk_all _ (rs_mem hr)
  have g2 : k < 4 := g2
  have hlen : (ox_dfl k).length = mt_N k := by
    match k, g2 with
    | 0, _ => rfl
    | 1, _ => rfl
    | 2, _ => rfl
    | 3, _ => rfl
  have hmap : (ox_dfl k).map (ow_cv g) = ox_dfl k := by
    match k, g2 with
    | 0, _ => rfl
    | 1, _ => rfl
    | 2, _ => rfl
    | 3, _ => rfl
  have hdef : ∀ j, j < mt_N k → defaultValue (mt_ty k j) = vp_V (ox_dfl k) j := by
    match k, g2 with
    | 0, _ => decide
    | 1, _ => decide
    | 2, _ => decide
    | 3, _ => decide
  have e0 : ox_cl (.inr (k, ox_dfl k)) = mt_N k := hlen
  rw [e0] at hrs
  refine va_new (ci := k) (fs := ox_dfl k) hx hb hts (ow_inT g2) (mt_ty k) (ow_tyok g2) hown (hts _ (gm_of g1 rfl)) (hts _ (gm_of g3 rfl)) (hts _ (gm_of g4 rfl)) hSW.1 hP ow_D hS (fun q hq => Nat.le_trans hb0 hq) (ow_cl g2) hdef (by omega) (by omega) hd (fun q H1 hP1 hD1 hS1 => ?_)
  rw [← e0]
  exact os_pushed hn hk (by rw [ow_E_obj g2, hmap]) hP1 hD1 hc hs hS1 hL kk
theorem os_newI (C : ow_Cx g xs mi p R s m args meth c) (hn : s.heap.size + 4 = g.1 + n0) {k : Int32} (hd : decode (mt_c mi) pc = .ok (.newarray .int, 2)) (h0 : 0 ≤ k) (h1 : k.toNatClampNeg ≤ 100000) (hrc : h.length + 1 ≤ R.cells + n0) (hrs : ox_sl h + k.toNatClampNeg ≤ R.slots + s0) (kk : ow_Go g xs mi p l e R s m args below meth c Q n0 s0 (pc + 2) ls (.ref h.length :: st) (h ++ [.inl (0, List.replicate k.toNatClampNeg 0)])) : ow_Go g xs mi p l e R s m args below meth c Q n0 s0 pc ls (.int k :: st) h := by
  intro H locs cells slots A hP hS hL hc hs hk
  obtain ⟨hx, hb, hml, hown, hts, hin, hSW, hR1, hR2, hb0⟩ := C
  refine va_newa (atype := .int) (ty := .int) (a0 := (k.toNatClampNeg, .inl (fun j => (List.replicate k.toNatClampNeg (0 : Int32)).getD j 0))) hx hb (hts _ (gm_of wd_aI rfl)) rfl hSW.1 hP ow_D hS (fun q hq => Nat.le_trans hb0 hq) (fun cA => ?_) (Int32.not_lt.mpr h0) rfl (by show k.toNatClampNeg * 4 ≤ _; omega) (by omega) (by omega) hd (fun q cA H1 hK1 hP1 hD1 hS1 => ?_)
  · rw [vp_cell_i]
    congr 1
    funext j
    by_cases hj : j < k.toNatClampNeg <;> simp [hj] <;> rfl
  · have h3 : s.vm.findClass ("[" ++ FieldType.int.toString) = some cA := (hK1.2 3 (cA, .int) rfl).2
    have h4 : s.vm.findClass ("[" ++ FieldType.int.toString) = some g.2.2.2.1 := (hK1.2 0 (g.2.2.2.1, .int) rfl).2
    have ec : cA = g.2.2.2.1 := Option.some.inj (h3.symm.trans h4)
    subst ec
    have e0 : ox_cl (.inl (0, List.replicate k.toNatClampNeg 0)) = k.toNatClampNeg := by simp [ox_cl]
    have r := os_pushed (x := .inl (0, List.replicate k.toNatClampNeg 0)) (slots := slots) hn hk (by rw [ow_E_int (by omega), List.length_replicate]) hP1 hD1 hc hs hS1 hL kk
    rw [e0] at r
    exact r
theorem os_newZ (C : ow_Cx g xs mi p R s m args meth c) (hn : s.heap.size + 4 = g.1 + n0) {k : Int32} (hd : decode (mt_c mi) pc = .ok (.newarray .boolean, 2)) (h0 : 0 ≤ k) (h1 : k.toNatClampNeg ≤ 100000) (hrc : h.length + 1 ≤ R.cells + n0) (hrs : ox_sl h + k.toNatClampNeg ≤ R.slots + s0) (kk : ow_Go g xs mi p l e R s m args below meth c Q n0 s0 (pc + 2) ls (.ref h.length :: st) (h ++ [.inl (1, List.replicate k.toNatClampNeg 0)])) : ow_Go g xs mi p l e R s m args below meth c Q n0 s0 pc ls (.int k :: st) h := by
  intro H locs cells slots A hP hS hL hc hs hk
  obtain ⟨hx, hb, hml, hown, hts, hin, hSW, hR1, hR2, hb0⟩ := C
  refine va_newa (atype := .boolean) (ty := .boolean) (a0 := (k.toNatClampNeg, .inl (fun j => (List.replicate k.toNatClampNeg (0 : Int32)).getD j 0))) hx hb (hts _ (gm_of wd_aZ rfl)) rfl hSW.1 hP ow_D hS (fun q hq => Nat.le_trans hb0 hq) (fun cA => ?_) (Int32.not_lt.mpr h0) rfl (by show k.toNatClampNeg * 1 ≤ _; omega) (by omega) (by omega) hd (fun q cA H1 hK1 hP1 hD1 hS1 => ?_)
  · rw [vp_cell_i]
    congr 1
    funext j
    by_cases hj : j < k.toNatClampNeg <;> simp [hj] <;> rfl
  · have h3 : s.vm.findClass ("[" ++ FieldType.boolean.toString) = some cA := (hK1.2 3 (cA, .boolean) rfl).2
    have h4 : s.vm.findClass ("[" ++ FieldType.boolean.toString) = some g.2.2.2.2.1 := (hK1.2 1 (g.2.2.2.2.1, .boolean) rfl).2
    have ec : cA = g.2.2.2.2.1 := Option.some.inj (h3.symm.trans h4)
    subst ec
    have e0 : ox_cl (.inl (1, List.replicate k.toNatClampNeg 0)) = k.toNatClampNeg := by simp [ox_cl]
    have r := os_pushed (x := .inl (1, List.replicate k.toNatClampNeg 0)) (slots := slots) hn hk (by rw [ow_E_bool, List.length_replicate]) hP1 hD1 hc hs hS1 hL kk
    rw [e0] at r
    exact r
theorem os_newq (C : ow_Cx g xs mi p R s m args meth c) (hn : s.heap.size + 4 = g.1 + n0) {i : Nat} {k : Int32} (hd : decode (mt_c mi) pc = .ok (.anewarray i, 3)) (hr : rs_K (mt_k mi) i = some 1) (h0 : 0 ≤ k) (h1 : k.toNatClampNeg ≤ 100000) (hrc : h.length + 1 ≤ R.cells + n0) (hrs : ox_sl h + k.toNatClampNeg ≤ R.slots + s0) (kk : ow_Go g xs mi p l e R s m args below meth c Q n0 s0 (pc + 3) ls (.ref h.length :: st) (h ++ [.inr (4, List.replicate k.toNatClampNeg .null)])) : ow_Go g xs mi p l e R s m args below meth c Q n0 s0 pc ls (.int k :: st) h := by
  intro H locs cells slots A hP hS hL hc hs hk
  obtain ⟨hx, hb, hml, hown, hts, hin, hSW, hR1, hR2, hb0⟩ := C
  obtain ⟨g1, g2, g3, g4⟩ := rs_gk_all _ (rs_mem hr)
  refine va_newq (C := "OutlineEditor$Outline") hx hb hown (hts _ (gm_of g1 rfl)) hSW.2.1 hSW.1 hP ow_D hS (fun q hq => Nat.le_trans hb0 hq) (Int32.not_lt.mpr h0) rfl (by omega) (by omega) (by omega) hd (fun q cA H1 hK1 hP1 hD1 hS1 => ?_)
  obtain ⟨-, -, -, -, -, h3⟩ := (hK1.2 3 (cA, .object "OutlineEditor$Outline") rfl).2
  obtain ⟨-, -, -, -, -, h4⟩ := (hK1.2 2 (g.2.2.2.2.2, .object "OutlineEditor$Outline") rfl).2
  have ec : cA = g.2.2.2.2.2 := Option.some.inj (h3.symm.trans h4)
  subst ec
  have e0 : ox_cl (.inr (4, List.replicate k.toNatClampNeg .null)) = k.toNatClampNeg := by simp [ox_cl]
  have hfun : (fun _ => none : Nat → Option Nat) = fun j => ow_ro g ((List.replicate k.toNatClampNeg Value.null).getD j .null) := by
    funext j
    by_cases hj : j < k.toNatClampNeg <;> simp [hj, ow_ro]
  have r := os_pushed (x := .inr (4, List.replicate k.toNatClampNeg .null)) (slots := slots) hn hk (by rw [ow_E_row, List.length_replicate, hfun]) hP1 hD1 hc hs hS1 hL kk
  rw [e0] at r
  exact r
theorem os_obj (C : ow_Cx g xs mi p R s m args meth c) {i a : Nat} (hd : decode (mt_c mi) pc = .ok (.invokespecial i, 3)) (hr : rs_M (mt_k mi) i = some 1000) (hk1 : 1 ≤ mt_r mi) (hst : st.length ≤ 8) (hst2 : st.all (fun v => v.category == 1) = true) (kk : ow_Go g xs mi p l e R s m args below meth c Q n0 s0 (pc + 3) ls st h) : ow_Go g xs mi p l e R s m args below meth c Q n0 s0 pc ls (.ref a :: st) h := by
  intro H locs cells slots A hP hS hL hc hs hk
  obtain ⟨hx, hb, hml, hown, hts, hin, hSW, hR1, hR2, hb0⟩ := C
  obtain ⟨g1, -⟩ := rs_gm_all _ (rs_mem hr)
  have hroom := ow_map1 (g := g) hst2
  exact W.objInit hx hb hown (hts _ (gm_of g1 rfl)) (hts _ (gm_of wd_objI rfl)) (hts _ (gm_of wd_objC rfl)) rfl (by rw [hml]; exact hL.1.1) rfl hd (by omega) (by show 2 * 0 + _ + 12 ≤ _; omega) (kk H locs cells slots A hP hS hL hc hs hk)
theorem os_max (C : ow_Cx g xs mi p R s m args meth c) {i : Nat} {x y : Int32} (hd : decode (mt_c mi) pc = .ok (.invokestatic i, 3)) (hr : rs_M (mt_k mi) i = some 1001) (hk1 : 1 ≤ mt_r mi) (hst : st.length ≤ 8) (hst2 : st.all (fun v => v.category == 1) = true) (hrc : h.length ≤ R.cells + n0) (hrs : ox_sl h ≤ R.slots + s0) (kk : ow_Go g xs mi p l e R s m args below meth c Q n0 s0 (pc + 3) ls (.int (if x < y then y else x) :: st) h) : ow_Go g xs mi p l e R s m args below meth c Q n0 s0 pc ls (.int y :: .int x :: st) h := by
  intro H locs cells slots A hP hS hL hc hs hk
  obtain ⟨hx, hb, hml, hown, hts, hin, hSW, hR1, hR2, hb0⟩ := C
  obtain ⟨g1, -⟩ := rs_gm_all _ (rs_mem hr)
  have hroom := ow_map1 (g := g) hst2
  exact va_mmax hx hb (by rw [hml]; exact hL.1.1.symm) hown (hts _ (gm_of g1 rfl)) (hts _ (gm_of wd_maxS rfl)) (hts _ (gm_of wd_mathI rfl)) (hts _ (gm_of wd_maxC rfl)) (by omega) (by omega) (by omega) (by omega) hd (kk H locs cells slots A hP hS hL hc hs hk)
theorem os_min (C : ow_Cx g xs mi p R s m args meth c) {i : Nat} {x y : Int32} (hd : decode (mt_c mi) pc = .ok (.invokestatic i, 3)) (hr : rs_M (mt_k mi) i = some 1002) (hk1 : 1 ≤ mt_r mi) (hst : st.length ≤ 8) (hst2 : st.all (fun v => v.category == 1) = true) (hrc : h.length ≤ R.cells + n0) (hrs : ox_sl h ≤ R.slots + s0) (kk : ow_Go g xs mi p l e R s m args below meth c Q n0 s0 (pc + 3) ls (.int (if y < x then y else x) :: st) h) : ow_Go g xs mi p l e R s m args below meth c Q n0 s0 pc ls (.int y :: .int x :: st) h := by
  intro H locs cells slots A hP hS hL hc hs hk
  obtain ⟨hx, hb, hml, hown, hts, hin, hSW, hR1, hR2, hb0⟩ := C
  obtain ⟨g1, -⟩ := rs_gm_all _ (rs_mem hr)
  have hroom := ow_map1 (g := g) hst2
  exact va_mmin hx hb (by rw [hml]; exact hL.1.1.symm) hown (hts _ (gm_of g1 rfl)) (hts _ (gm_of wd_minS rfl)) (hts _ (gm_of wd_mathI rfl)) (hts _ (gm_of wd_minC rfl)) (by omega) (by omega) (by omega) (by omega) hd (kk H locs cells slots A hP hS hL hc hs hk)
theorem os_copy (C : ow_Cx g xs mi p R s m args meth c) {i a b : Nat} {k : Int32} {l0 l1 : List Int32} (hd : decode (mt_c mi) pc = .ok (.invokestatic i, 3)) (hr : rs_M (mt_k mi) i = some 1003) (hk1 : 1 ≤ mt_r mi) (hst : st.length ≤ 8) (hst2 : st.all (fun v => v.category == 1) = true) (h0 : 0 ≤ k) (hf : ox_ints h a ox_is0 = some l0) (hf1 : ox_ints h b ox_is0 = some l1) (hl0 : k.toNatClampNeg ≤ l0.length) (hl1 : k.toNatClampNeg ≤ l1.length)
    (kk : ow_Go g xs mi p l e R s m args below meth c Q n0 s0 (pc + 3) ls st (h.set b (.inl (0, l0.take k.toNatClampNeg ++ l1.drop k.toNatClampNeg)))) : ow_Go g xs mi p l e R s m args below meth c Q n0 s0 pc ls (.int k :: .int 0 :: .ref b :: .int 0 :: .ref a :: st) h := by
  intro H locs cells slots A hP hS hL hc hs hk
  obtain ⟨hx, hb, hml, hown, hts, hin, hSW, hR1, hR2, hb0⟩ := C
  obtain ⟨g1, -⟩ := rs_gm_all _ (rs_mem hr)
  obtain ⟨t, e1, e2⟩ := ox_ints_some hf
  have ht : t = 0 := by simpa [ox_is0] using e2
  subst ht
  obtain ⟨t, f1, f2⟩ := ox_ints_some hf1
  have ht : t = 0 := by simpa [ox_is0] using f2
  subst ht
  have ha := ow_k4_inl hk e1 (by omega)
  have hb4 := ow_k4_inl hk f1 (by omega)
  have hw := ow_ws_get (g := g) ha e1
  have hw1 := ow_ws_get (g := g) hb4 f1
  rw [ow_E_int (by omega)] at hw hw1
  have hroom := ow_map1 (g := g) hst2
  refine va_copyi hx hb (by rw [hml]; exact hL.1.1.symm) hown (hts _ (gm_of g1 rfl)) (hts _ (gm_of wd_cpyN rfl)) (hts _ (gm_of wd_cpyS rfl)) (hts _ (gm_of wd_sysI rfl)) hSW.1 hP ow_D hS (a - 4) (b - 4) 0 0 (ty := .int) hw hw1 rfl rfl rfl (by decide) (by decide) (Int32.not_lt.mpr h0) (by show 0 + _ ≤ _; omega) (by show 0 + _ ≤ _; omega) (fun _ _ => rfl) (by omega) (by rw [show nativeFrameWords "java/lang/System" "arraycopy" 5 = 7 by decide]; omega) hd (fun H1 locs1 hP1 _ hS1 => ?_)
  have z0 : (0 : Int32).toNatClampNeg = 0 := rfl
  rw [z0, ow_cpy hl0 hl1] at hP1
  have heq : (ow_ws g h).set (b - 4) (ow_ad g b, .inl (g.2.2.2.1, l1.length, .inl (fun j => (l0.take k.toNatClampNeg ++ l1.drop k.toNatClampNeg).getD j 0))) = ow_ws g (h.set b (.inl (0, l0.take k.toNatClampNeg ++ l1.drop k.toNatClampNeg))) := by
    rw [← ow_ws_set hb4, ow_E_int (by omega)]
    congr 4
    simp
    omega
  rw [heq] at hP1
  exact kk H1 locs1 cells slots A hP1 hS1 hL (by rw [List.length_set]; exact hc) (by rw [ox_sl_set f1 (by simp [ox_cl]; omega)]; exact hs) (ow_k4_set hk hb4 _)
end
