/-! Each instruction, from the real machine to ours. -/
theorem ow_inT {ci : Nat} (hc : ci < 4) : ∀ w ∈ u_ws (mt_R ci) (mt_T ci) (mt_N ci), w ∈ gm_tbl := by
  intro w hw
  refine gm_of ?_ ?_
  · match ci, hc with
    | 0, _ => exact gm_in0 w hw
    | 1, _ => exact gm_in1 w hw
    | 2, _ => exact gm_in2 w hw
    | 3, _ => exact gm_in3 w hw
  · obtain ⟨k, -, rfl⟩ := List.mem_map.mp hw
    unfold u_lay
    split <;> rfl
theorem ow_cl {ci : Nat} (hc : ci < 4) : vwCl[ci]? = some (mt_R ci, mt_T ci, mt_N ci) := by
  match ci, hc with
  | 0, _ => rfl
  | 1, _ => rfl
  | 2, _ => rfl
  | 3, _ => rfl
theorem ow_tyok {ci : Nat} (hc : ci < 4) : ∀ k, k < mt_N ci → parseFieldDescriptor (mt_T ci k).2.2.1 = some (mt_ty ci k) := by
  match ci, hc with
  | 0, _ => exact tyX0_ok
  | 1, _ => exact tyX1_ok
  | 2, _ => exact tyX2_ok
  | 3, _ => exact tyX3_ok
theorem ow_nm {ci : Nat} (hc : ci < 4) : ∀ a, a < mt_N ci → ∀ b, b < mt_N ci → a ≠ b → (mt_T ci a).2.1 ≠ (mt_T ci b).2.1 := by
  match ci, hc with
  | 0, _ => exact nmX0
  | 1, _ => exact nmX1
  | 2, _ => exact nmX2
  | 3, _ => exact nmX3
theorem ow_tdecl {ci : Nat} (hc : ci < 4) : ∀ k, k < mt_N ci → (mt_T ci k).1 = mt_R ci := by
  match ci, hc with
  | 0, _ => decide
  | 1, _ => decide
  | 2, _ => decide
  | 3, _ => decide
theorem ow_tkind (ci k : Nat) : mt_ty ci k = .int ∨ (∃ t, mt_ty ci k = .array t) ∨ ∃ n, mt_ty ci k = .object n := by
  unfold mt_ty
  split
  · unfold tyX0; split <;> simp
  · unfold tyX1; split <;> simp
  · unfold tyX2; split <;> simp
  · unfold tyX3; split <;> simp
theorem ow_tyI {ci k : Nat} (h : ox_tyI ci k = true) : mt_ty ci k = .int := by
  unfold ox_tyI at h
  split at h
  · assumption
  · cases h
theorem ow_tyR {ci k : Nat} (h : ox_tyI ci k = false) : (∃ t, mt_ty ci k = .array t) ∨ ∃ n, mt_ty ci k = .object n := by
  rcases ow_tkind ci k with q | q
  · unfold ox_tyI at h
    rw [q] at h
    cases h
  · exact q
theorem ow_fit {ci k : Nat} {v : Value} {g : ow_G} (h : ox_okv ci k v = true) : narrow (mt_ty ci k) (ow_cv g v) = ow_cv g v ∧ fits (mt_ty ci k) (ow_cv g v) = true := by
  unfold ox_okv at h
  split at h
  · rw [ow_tyI h]
    exact ⟨rfl, rfl⟩
  · rcases ow_tyR (by simpa using h) with ⟨t, e⟩ | ⟨n, e⟩ <;> rw [e] <;> exact ⟨rfl, rfl⟩
  · cases h
theorem ow_E_obj {g : ow_G} {ci : Nat} {fs : List Value} (hc : ci < 4) : ow_E g (.inr (ci, fs)) = .inr (ci, fs.map (ow_cv g)) := by
  simp only [ow_E]
  rw [if_neg (by omega)]
theorem ow_E_row {g : ow_G} {fs : List Value} : ow_E g (.inr (4, fs)) = .inl (g.2.2.2.2.2, fs.length, .inr (.inr (.inr (.inr (fun j => ow_ro g (fs.getD j .null)))))) := by
  simp only [ow_E, if_true]
theorem ow_E_int {g : ow_G} {t : Nat} {l : List Int32} (ht : t ≠ 1) : ow_E g (.inl (t, l)) = .inl (g.2.2.2.1, l.length, .inl (fun j => l.getD j 0)) := by
  simp only [ow_E]
  rw [if_neg ht]
theorem ow_E_bool {g : ow_G} {l : List Int32} : ow_E g (.inl (1, l)) = .inl (g.2.2.2.2.1, l.length, .inl (fun j => l.getD j 0)) := by
  simp only [ow_E, if_true]
theorem ox_fld_some {h : ox_H} {a ci k : Nat} {v : Value} (e : ox_fld h a ci k = some v) : ∃ fs, h[a]? = some (.inr (ci, fs)) ∧ fs[k]? = some v := by
  unfold ox_fld at e
  split at e
  · rename_i q hq
    split at e
    · rename_i hc
      subst hc
      exact ⟨_, hq, e⟩
    · cases e
  · cases e
theorem ox_obj_some {h : ox_H} {a ci : Nat} {fs : List Value} (e : ox_obj h a ci = some fs) : h[a]? = some (.inr (ci, fs)) := by
  unfold ox_obj at e
  split at e
  · rename_i q hq
    split at e
    · rename_i hc
      subst hc
      cases e
      exact hq
    · cases e
  · cases e
theorem ox_ints_some {h : ox_H} {a : Nat} {ok : Nat → Bool} {l : List Int32} (e : ox_ints h a ok = some l) : ∃ t, h[a]? = some (.inl (t, l)) ∧ ok t = true := by
  unfold ox_ints at e
  split at e
  · rename_i q hq
    split at e
    · rename_i hc
      cases e
      exact ⟨_, hq, hc⟩
    · cases e
  · cases e
theorem ox_at_some {α : Type} {l : List α} {i : Int32} {x : α} (e : ox_at l i = some x) : ¬ i < 0 ∧ i.toNatClampNeg < l.length ∧ l[i.toNatClampNeg]? = some x ∧ vp_in i l.length := by
  unfold ox_at at e
  split at e
  · cases e
  · rename_i hi
    have hl := (List.getElem?_eq_some_iff.mp e).1
    exact ⟨hi, hl, e, fun q => q.elim hi (by omega)⟩
theorem ow_getD {l : List Int32} {i : Nat} {x : Int32} (e : l[i]? = some x) : l.getD i 0 = x := by simp [e]
theorem ow_upd {l : List Int32} {i : Nat} {x : Int32} (hi : i < l.length) : upd (fun j => l.getD j 0) i x = fun j => (l.set i x).getD j 0 := by
  funext j
  by_cases hj : j = i
  · subst hj
    simp [upd, hi]
  · simp [upd, hj, List.getElem?_set_ne (Ne.symm hj)]
section
variable {g : ow_G} {xs : List Int32} {mi : Nat} {p : Program} {l : Launch} {e : Env} {R : Room} {s : State} {m : MethodId} {args : Array Value} {below : List Frame} {meth : Method} {c : Code} {Q : State → Prop} {n0 s0 pc : Nat} {ls st : List Value} {h : ox_H}
theorem os_iconst (C : ow_Cx g xs mi p R s m args meth c) {k : Int} (hd : decode (mt_c mi) pc = .ok (.iconst k, 1)) (kk : ow_Go g xs mi p l e R s m args below meth c Q n0 s0 (pc + 1) ls (.int (Int32.ofInt k) :: st) h) : ow_Go g xs mi p l e R s m args below meth c Q n0 s0 pc ls st h :=
  fun H locs cells slots A hP hS hL hc hs hk => lv_iconst C.1 C.2.1 hd rfl (kk H locs cells slots A hP hS hL hc hs hk)
theorem os_bipush (C : ow_Cx g xs mi p R s m args meth c) {k : Int} (hd : decode (mt_c mi) pc = .ok (.bipush k, 2)) (kk : ow_Go g xs mi p l e R s m args below meth c Q n0 s0 (pc + 2) ls (.int (Int8.ofInt k).toInt32 :: st) h) : ow_Go g xs mi p l e R s m args below meth c Q n0 s0 pc ls st h :=
  fun H locs cells slots A hP hS hL hc hs hk => lv_bipush C.1 C.2.1 hd rfl (kk H locs cells slots A hP hS hL hc hs hk)
theorem os_sipush (C : ow_Cx g xs mi p R s m args meth c) {k : Int} (hd : decode (mt_c mi) pc = .ok (.sipush k, 3)) (kk : ow_Go g xs mi p l e R s m args below meth c Q n0 s0 (pc + 3) ls (.int (Int16.ofInt k).toInt32 :: st) h) : ow_Go g xs mi p l e R s m args below meth c Q n0 s0 pc ls st h :=
  fun H locs cells slots A hP hS hL hc hs hk => lv_sipush C.1 C.2.1 hd rfl (kk H locs cells slots A hP hS hL hc hs hk)
theorem os_iload_n (C : ow_Cx g xs mi p R s m args meth c) {k : Fin 4} {x : Int32} (hd : decode (mt_c mi) pc = .ok (.iload_n k, 1)) (hx : ls[k.val]? = some (.int x)) (kk : ow_Go g xs mi p l e R s m args below meth c Q n0 s0 (pc + 1) ls (.int x :: st) h) : ow_Go g xs mi p l e R s m args below meth c Q n0 s0 pc ls st h :=
  fun H locs cells slots A hP hS hL hc hs hk => lv_iload_n C.1 C.2.1 hd rfl (hL.1.2.2 _ (ow_pr_int hx)) (kk H locs cells slots A hP hS hL hc hs hk)
theorem os_iload (C : ow_Cx g xs mi p R s m args meth c) {k : Nat} {x : Int32} (hd : decode (mt_c mi) pc = .ok (.iload k, 2)) (hx : ls[k]? = some (.int x)) (kk : ow_Go g xs mi p l e R s m args below meth c Q n0 s0 (pc + 2) ls (.int x :: st) h) : ow_Go g xs mi p l e R s m args below meth c Q n0 s0 pc ls st h :=
  fun H locs cells slots A hP hS hL hc hs hk => lv_iload C.1 C.2.1 hd (hL.1.2.2 _ (ow_pr_int hx)) (kk H locs cells slots A hP hS hL hc hs hk)
theorem os_aload_n (C : ow_Cx g xs mi p R s m args meth c) {k : Fin 4} {x : Nat} (hd : decode (mt_c mi) pc = .ok (.aload_n k, 1)) (hx : ls[k.val]? = some (.ref x)) (kk : ow_Go g xs mi p l e R s m args below meth c Q n0 s0 (pc + 1) ls (.ref x :: st) h) : ow_Go g xs mi p l e R s m args below meth c Q n0 s0 pc ls st h :=
  fun H locs cells slots A hP hS hL hc hs hk => lv_aload_n C.1 C.2.1 hd rfl (hL.1.2.2 _ (ow_pr_ref hx)) (kk H locs cells slots A hP hS hL hc hs hk)
theorem os_aload (C : ow_Cx g xs mi p R s m args meth c) {k : Nat} {x : Nat} (hd : decode (mt_c mi) pc = .ok (.aload k, 2)) (hx : ls[k]? = some (.ref x)) (kk : ow_Go g xs mi p l e R s m args below meth c Q n0 s0 (pc + 2) ls (.ref x :: st) h) : ow_Go g xs mi p l e R s m args below meth c Q n0 s0 pc ls st h :=
  fun H locs cells slots A hP hS hL hc hs hk => lv_aload C.1 C.2.1 hd (hL.1.2.2 _ (ow_pr_ref hx)) (kk H locs cells slots A hP hS hL hc hs hk)
theorem os_istore_n (C : ow_Cx g xs mi p R s m args meth c) {k : Fin 4} {x : Int32} (hd : decode (mt_c mi) pc = .ok (.istore_n k, 1)) (hi : k.val < ls.length) (kk : ow_Go g xs mi p l e R s m args below meth c Q n0 s0 (pc + 1) (ls.set k.val (.int x)) st h) : ow_Go g xs mi p l e R s m args below meth c Q n0 s0 pc ls (.int x :: st) h :=
  fun H locs cells slots A hP hS hL hc hs hk => lv_istore_n C.1 C.2.1 hd rfl hL.1 (hL.2 ▸ hi) rfl (fun A' hA => kk H locs cells slots A' hP hS (ow_L_set hL.2 (hL.2 ▸ hi) (Or.inl ⟨_, rfl⟩) hA) hc hs hk)
theorem os_istore (C : ow_Cx g xs mi p R s m args meth c) {k : Nat} {x : Int32} (hd : decode (mt_c mi) pc = .ok (.istore k, 2)) (hi : k < ls.length) (kk : ow_Go g xs mi p l e R s m args below meth c Q n0 s0 (pc + 2) (ls.set k (.int x)) st h) : ow_Go g xs mi p l e R s m args below meth c Q n0 s0 pc ls (.int x :: st) h :=
  fun H locs cells slots A hP hS hL hc hs hk => lv_istore C.1 C.2.1 hd hL.1 (hL.2 ▸ hi) rfl (fun A' hA => kk H locs cells slots A' hP hS (ow_L_set hL.2 (hL.2 ▸ hi) (Or.inl ⟨_, rfl⟩) hA) hc hs hk)
theorem os_astore_n (C : ow_Cx g xs mi p R s m args meth c) {k : Fin 4} {x : Nat} (hd : decode (mt_c mi) pc = .ok (.astore_n k, 1)) (hi : k.val < ls.length) (kk : ow_Go g xs mi p l e R s m args below meth c Q n0 s0 (pc + 1) (ls.set k.val (.ref x)) st h) : ow_Go g xs mi p l e R s m args below meth c Q n0 s0 pc ls (.ref x :: st) h :=
  fun H locs cells slots A hP hS hL hc hs hk => lv_astore_n C.1 C.2.1 hd rfl hL.1 (hL.2 ▸ hi) rfl (fun A' hA => kk H locs cells slots A' hP hS (ow_L_set hL.2 (hL.2 ▸ hi) (Or.inr ⟨_, rfl⟩) hA) hc hs hk)
theorem os_astore (C : ow_Cx g xs mi p R s m args meth c) {k : Nat} {x : Nat} (hd : decode (mt_c mi) pc = .ok (.astore k, 2)) (hi : k < ls.length) (kk : ow_Go g xs mi p l e R s m args below meth c Q n0 s0 (pc + 2) (ls.set k (.ref x)) st h) : ow_Go g xs mi p l e R s m args below meth c Q n0 s0 pc ls (.ref x :: st) h :=
  fun H locs cells slots A hP hS hL hc hs hk => lv_astore C.1 C.2.1 hd hL.1 (hL.2 ▸ hi) rfl (fun A' hA => kk H locs cells slots A' hP hS (ow_L_set hL.2 (hL.2 ▸ hi) (Or.inr ⟨_, rfl⟩) hA) hc hs hk)
theorem os_iinc (C : ow_Cx g xs mi p R s m args meth c) {k : Nat} {d : Int} {x : Int32} (hd : decode (mt_c mi) pc = .ok (.iinc k d, 3)) (hx : ls[k]? = some (.int x)) (kk : ow_Go g xs mi p l e R s m args below meth c Q n0 s0 (pc + 3) (ls.set k (.int (x + Int32.ofInt d))) st h) : ow_Go g xs mi p l e R s m args below meth c Q n0 s0 pc ls st h := by
  intro H locs cells slots A hP hS hL hc hs hk
  have hi : k < mt_n mi := hL.2 ▸ (List.getElem?_eq_some_iff.mp hx).1
  obtain ⟨q, hq⟩ := List.getElem?_of_mem (ow_pr_int (g := g) hx)
  exact lv_iinc C.1 C.2.1 hd hL.1 hq rfl hi rfl (fun A' hA => kk H locs cells slots A' hP hS (ow_L_set hL.2 hi (Or.inl ⟨_, rfl⟩) hA) hc hs hk)
theorem os_iadd (C : ow_Cx g xs mi p R s m args meth c) {x y : Int32} (hd : decode (mt_c mi) pc = .ok (.iadd, 1)) (kk : ow_Go g xs mi p l e R s m args below meth c Q n0 s0 (pc + 1) ls (.int (x + y) :: st) h) : ow_Go g xs mi p l e R s m args below meth c Q n0 s0 pc ls (.int y :: .int x :: st) h :=
  fun H locs cells slots A hP hS hL hc hs hk => lv_iadd C.1 C.2.1 hd (kk H locs cells slots A hP hS hL hc hs hk)
theorem os_isub (C : ow_Cx g xs mi p R s m args meth c) {x y : Int32} (hd : decode (mt_c mi) pc = .ok (.isub, 1)) (kk : ow_Go g xs mi p l e R s m args below meth c Q n0 s0 (pc + 1) ls (.int (x - y) :: st) h) : ow_Go g xs mi p l e R s m args below meth c Q n0 s0 pc ls (.int y :: .int x :: st) h :=
  fun H locs cells slots A hP hS hL hc hs hk => lv_isub C.1 C.2.1 hd (kk H locs cells slots A hP hS hL hc hs hk)
theorem os_imul (C : ow_Cx g xs mi p R s m args meth c) {x y : Int32} (hd : decode (mt_c mi) pc = .ok (.imul, 1)) (kk : ow_Go g xs mi p l e R s m args below meth c Q n0 s0 (pc + 1) ls (.int (x * y) :: st) h) : ow_Go g xs mi p l e R s m args below meth c Q n0 s0 pc ls (.int y :: .int x :: st) h :=
  fun H locs cells slots A hP hS hL hc hs hk => lv_imul C.1 C.2.1 hd (kk H locs cells slots A hP hS hL hc hs hk)
theorem os_iand (C : ow_Cx g xs mi p R s m args meth c) {x y : Int32} (hd : decode (mt_c mi) pc = .ok (.iand, 1)) (kk : ow_Go g xs mi p l e R s m args below meth c Q n0 s0 (pc + 1) ls (.int (x &&& y) :: st) h) : ow_Go g xs mi p l e R s m args below meth c Q n0 s0 pc ls (.int y :: .int x :: st) h :=
  fun H locs cells slots A hP hS hL hc hs hk => lv_iand C.1 C.2.1 hd (kk H locs cells slots A hP hS hL hc hs hk)
theorem os_ior (C : ow_Cx g xs mi p R s m args meth c) {x y : Int32} (hd : decode (mt_c mi) pc = .ok (.ior, 1)) (kk : ow_Go g xs mi p l e R s m args below meth c Q n0 s0 (pc + 1) ls (.int (x ||| y) :: st) h) : ow_Go g xs mi p l e R s m args below meth c Q n0 s0 pc ls (.int y :: .int x :: st) h :=
  fun H locs cells slots A hP hS hL hc hs hk => lv_ior C.1 C.2.1 hd (kk H locs cells slots A hP hS hL hc hs hk)
theorem os_ishl (C : ow_Cx g xs mi p R s m args meth c) {x y : Int32} (hd : decode (mt_c mi) pc = .ok (.ishl, 1)) (kk : ow_Go g xs mi p l e R s m args below meth c Q n0 s0 (pc + 1) ls (.int (x <<< (y &&& 31)) :: st) h) : ow_Go g xs mi p l e R s m args below meth c Q n0 s0 pc ls (.int y :: .int x :: st) h :=
  fun H locs cells slots A hP hS hL hc hs hk => lv_ishl C.1 C.2.1 hd (kk H locs cells slots A hP hS hL hc hs hk)
theorem os_ishr (C : ow_Cx g xs mi p R s m args meth c) {x y : Int32} (hd : decode (mt_c mi) pc = .ok (.ishr, 1)) (kk : ow_Go g xs mi p l e R s m args below meth c Q n0 s0 (pc + 1) ls (.int (x >>> (y &&& 31)) :: st) h) : ow_Go g xs mi p l e R s m args below meth c Q n0 s0 pc ls (.int y :: .int x :: st) h :=
  fun H locs cells slots A hP hS hL hc hs hk => lv_ishr C.1 C.2.1 hd (kk H locs cells slots A hP hS hL hc hs hk)
theorem os_idiv (C : ow_Cx g xs mi p R s m args meth c) {x y : Int32} (hd : decode (mt_c mi) pc = .ok (.idiv, 1)) (hy : ¬ y = 0) (kk : ow_Go g xs mi p l e R s m args below meth c Q n0 s0 (pc + 1) ls (.int (x / y) :: st) h) : ow_Go g xs mi p l e R s m args below meth c Q n0 s0 pc ls (.int y :: .int x :: st) h :=
  fun H locs cells slots A hP hS hL hc hs hk => lv_idiv C.1 C.2.1 hd hy (kk H locs cells slots A hP hS hL hc hs hk)
theorem os_irem (C : ow_Cx g xs mi p R s m args meth c) {x y : Int32} (hd : decode (mt_c mi) pc = .ok (.irem, 1)) (hy : ¬ y = 0) (kk : ow_Go g xs mi p l e R s m args below meth c Q n0 s0 (pc + 1) ls (.int (x - x / y * y) :: st) h) : ow_Go g xs mi p l e R s m args below meth c Q n0 s0 pc ls (.int y :: .int x :: st) h :=
  fun H locs cells slots A hP hS hL hc hs hk => lv_irem C.1 C.2.1 hd hy (kk H locs cells slots A hP hS hL hc hs hk)
theorem os_dup (C : ow_Cx g xs mi p R s m args meth c) {v : Value} (hd : decode (mt_c mi) pc = .ok (.dup, 1)) (hv : v.category = 1) (kk : ow_Go g xs mi p l e R s m args below meth c Q n0 s0 (pc + 1) ls (v :: v :: st) h) : ow_Go g xs mi p l e R s m args below meth c Q n0 s0 pc ls (v :: st) h :=
  fun H locs cells slots A hP hS hL hc hs hk => lv_dup C.1 C.2.1 hd ((ow_cat v).trans hv) (kk H locs cells slots A hP hS hL hc hs hk)
theorem os_dup2 (C : ow_Cx g xs mi p R s m args meth c) {v w : Value} (hd : decode (mt_c mi) pc = .ok (.dup2, 1)) (hv : v.category = 1) (hw : w.category = 1) (kk : ow_Go g xs mi p l e R s m args below meth c Q n0 s0 (pc + 1) ls (v :: w :: v :: w :: st) h) : ow_Go g xs mi p l e R s m args below meth c Q n0 s0 pc ls (v :: w :: st) h :=
  fun H locs cells slots A hP hS hL hc hs hk => lv_dup2_11 C.1 C.2.1 hd ((ow_cat v).trans hv) ((ow_cat w).trans hw) (kk H locs cells slots A hP hS hL hc hs hk)
theorem os_goto (C : ow_Cx g xs mi p R s m args meth c) {off : Int} {t : Nat} (hd : decode (mt_c mi) pc = .ok (.goto off, 3)) (ht : (pc : Int) + off = (t : Int)) (kk : ow_Go g xs mi p l e R s m args below meth c Q n0 s0 t ls st h) : ow_Go g xs mi p l e R s m args below meth c Q n0 s0 pc ls st h :=
  fun H locs cells slots A hP hS hL hc hs hk => lv_goto C.1 C.2.1 hd ht (kk H locs cells slots A hP hS hL hc hs hk)
theorem os_if (C : ow_Cx g xs mi p R s m args meth c) {cnd : ClassFile.Cond} {off : Int} {t : Nat} {x : Int32} (hd : decode (mt_c mi) pc = .ok (.ifCond cnd off, 3)) (ht : (pc : Int) + off = (t : Int)) (kt : ox_cb cnd x 0 = true → ow_Go g xs mi p l e R s m args below meth c Q n0 s0 t ls st h) (kf : ox_cb cnd x 0 = false → ow_Go g xs mi p l e R s m args below meth c Q n0 s0 (pc + 3) ls st h) : ow_Go g xs mi p l e R s m args below meth c Q n0 s0 pc ls (.int x :: st) h := by
  intro H locs cells slots A hP hS hL hc hs hk
  have k1 := fun q => kt q H locs cells slots A hP hS hL hc hs hk
  have k2 := fun q => kf q H locs cells slots A hP hS hL hc hs hk
  cases cnd with
  | eq => exact lv_if_eq C.1 C.2.1 hd ht (fun q => k1 (decide_eq_true q)) (fun q => k2 (decide_eq_false q))
  | ne => exact lv_if_ne C.1 C.2.1 hd ht (fun q => k1 (decide_eq_true q)) (fun q => k2 (decide_eq_false (fun z => z q)))
  | lt => exact lv_if_lt C.1 C.2.1 hd ht (fun q => k1 (decide_eq_true q)) (fun q => k2 (decide_eq_false q))
  | ge => exact lv_if_ge C.1 C.2.1 hd ht (fun q => k1 (decide_eq_true q)) (fun q => k2 (decide_eq_false q))
  | gt => exact lv_if_gt C.1 C.2.1 hd ht (fun q => k1 (decide_eq_true q)) (fun q => k2 (decide_eq_false q))
  | le => exact lv_if_le C.1 C.2.1 hd ht (fun q => k1 (decide_eq_true q)) (fun q => k2 (decide_eq_false q))
theorem os_icmp (C : ow_Cx g xs mi p R s m args meth c) {cnd : ClassFile.Cond} {off : Int} {t : Nat} {x y : Int32} (hd : decode (mt_c mi) pc = .ok (.if_icmp cnd off, 3)) (ht : (pc : Int) + off = (t : Int)) (kt : ox_cb cnd x y = true → ow_Go g xs mi p l e R s m args below meth c Q n0 s0 t ls st h) (kf : ox_cb cnd x y = false → ow_Go g xs mi p l e R s m args below meth c Q n0 s0 (pc + 3) ls st h) : ow_Go g xs mi p l e R s m args below meth c Q n0 s0 pc ls (.int y :: .int x :: st) h := by
  intro H locs cells slots A hP hS hL hc hs hk
  have k1 := fun q => kt q H locs cells slots A hP hS hL hc hs hk
  have k2 := fun q => kf q H locs cells slots A hP hS hL hc hs hk
  cases cnd with
  | eq => exact lv_icmp_eq C.1 C.2.1 hd ht (fun q => k1 (decide_eq_true q)) (fun q => k2 (decide_eq_false q))
  | ne => exact lv_icmp_ne C.1 C.2.1 hd ht (fun q => k1 (decide_eq_true q)) (fun q => k2 (decide_eq_false (fun z => z q)))
  | lt => exact lv_icmp_lt C.1 C.2.1 hd ht (fun q => k1 (decide_eq_true q)) (fun q => k2 (decide_eq_false q))
  | ge => exact lv_icmp_ge C.1 C.2.1 hd ht (fun q => k1 (decide_eq_true q)) (fun q => k2 (decide_eq_false q))
  | gt => exact lv_icmp_gt C.1 C.2.1 hd ht (fun q => k1 (decide_eq_true q)) (fun q => k2 (decide_eq_false q))
  | le => exact lv_icmp_le C.1 C.2.1 hd ht (fun q => k1 (decide_eq_true q)) (fun q => k2 (decide_eq_false q))
theorem os_tabO (C : ow_Cx g xs mi p R s m args meth c) {d lo hi : Int} {offs : Array Int} {n t : Nat} {x : Int32} (hd : decode (mt_c mi) pc = .ok (.tableswitch d lo hi offs, n)) (hx : x.toInt < lo ∨ hi < x.toInt) (ht : (pc : Int) + d = (t : Int)) (kk : ow_Go g xs mi p l e R s m args below meth c Q n0 s0 t ls st h) : ow_Go g xs mi p l e R s m args below meth c Q n0 s0 pc ls (.int x :: st) h :=
  fun H locs cells slots A hP hS hL hc hs hk => lv_tableOut C.1 C.2.1 hd hx ht (kk H locs cells slots A hP hS hL hc hs hk)
theorem os_tabI (C : ow_Cx g xs mi p R s m args meth c) {d lo hi o : Int} {offs : Array Int} {n t : Nat} {x : Int32} (hd : decode (mt_c mi) pc = .ok (.tableswitch d lo hi offs, n)) (hx : ¬ (x.toInt < lo ∨ hi < x.toInt)) (ho : offs[(x.toInt - lo).toNat]? = some o) (ht : (pc : Int) + o = (t : Int)) (kk : ow_Go g xs mi p l e R s m args below meth c Q n0 s0 t ls st h) : ow_Go g xs mi p l e R s m args below meth c Q n0 s0 pc ls (.int x :: st) h :=
  fun H locs cells slots A hP hS hL hc hs hk => lv_tableIn C.1 C.2.1 hd (fun q => hx (Or.inl q)) (fun q => hx (Or.inr q)) ho ht (kk H locs cells slots A hP hS hL hc hs hk)
theorem os_look (C : ow_Cx g xs mi p R s m args meth c) {d : Int} {ps : Array (Int × Int)} {n t : Nat} {x : Int32} (hd : decode (mt_c mi) pc = .ok (.lookupswitch d ps, n)) (hp : (ps.toList.zip (ps.toList.drop 1)).all (fun (a, next) => a.1 < next.1) = true) (ht : (pc : Int) + Op.lookupswitch.offset ps.toList d x.toInt = (t : Int)) (kk : ow_Go g xs mi p l e R s m args below meth c Q n0 s0 t ls st h) : ow_Go g xs mi p l e R s m args below meth c Q n0 s0 pc ls (.int x :: st) h :=
  fun H locs cells slots A hP hS hL hc hs hk => lv_lookup C.1 C.2.1 hd hp rfl ht (kk H locs cells slots A hP hS hL hc hs hk)
theorem os_getf (C : ow_Cx g xs mi p R s m args meth c) {i a ci k : Nat} {v : Value} (hd : decode (mt_c mi) pc = .ok (.getfield i, 3)) (hr : rs_F (mt_k mi) i = some (ci, k)) (hf : ox_fld h a ci k = some v) (kk : ow_Go g xs mi p l e R s m args below meth c Q n0 s0 (pc + 3) ls (v :: st) h) : ow_Go g xs mi p l e R s m args below meth c Q n0 s0 pc ls (.ref a :: st) h := by
  intro H locs cells slots A hP hS hL hc hs hk
  obtain ⟨hx, hb, hml, hown, hts, hin, hSW, hR1, hR2, hb0⟩ := C
  obtain ⟨g1, g2, g3⟩ := rs_gf_all _ (rs_mem hr)
  obtain ⟨fs, e1, e2⟩ := ox_fld_some hf
  have ha := ow_k4_inr hk e1
  have hw := ow_ws_get (g := g) ha e1
  rw [ow_E_obj g2] at hw
  exact va_get hx hb hts (ow_inT g2) hown hSW.1 hP (a - 4) hw (ow_cl g2) k g3 (hts _ (gm_of g1 rfl)) (fun _ z => z) (by rw [List.getElem?_map, e2]; rfl) hd (kk H locs cells slots A hP hS hL hc hs hk)
theorem os_putf (C : ow_Cx g xs mi p R s m args meth c) {i a ci k : Nat} {v : Value} {fs : List Value} (hd : decode (mt_c mi) pc = .ok (.putfield i, 3)) (hr : rs_F (mt_k mi) i = some (ci, k)) (hv : ox_okv ci k v = true) (hfin : ox_fin mi ci k = true) (hf : ox_obj h a ci = some fs) (hl : k < fs.length) (kk : ow_Go g xs mi p l e R s m args below meth c Q n0 s0 (pc + 3) ls st (h.set a (.inr (ci, fs.set k v)))) : ow_Go g xs mi p l e R s m args below meth c Q n0 s0 pc ls (v :: .ref a :: st) h := by
  intro H locs cells slots A hP hS hL hc hs hk
  obtain ⟨hx, hb, hml, hown, hts, hin, hSW, hR1, hR2, hb0⟩ := C
  obtain ⟨g1, g2, g3⟩ := rs_gf_all _ (rs_mem hr)
  have e1 := ox_obj_some hf
  have ha := ow_k4_inr hk e1
  have hw := ow_ws_get (g := g) ha e1
  rw [ow_E_obj g2] at hw
  have hft := ow_fit (g := g) hv
  have hl' : k < (fs.map (ow_cv g)).length := by simpa using hl
  have heq : (ow_ws g h).set (a - 4) (ow_ad g a, .inr (ci, (fs.map (ow_cv g)).set k (ow_cv g v))) = ow_ws g (h.set a (.inr (ci, fs.set k v))) := by
    rw [← ow_ws_set ha, ow_E_obj g2, List.map_set]
  have kk' : ∀ (H1 : Heap) (locs1 : List Loc), va_P g.2.2.1 vwCl ((ow_ws g h).set (a - 4) (ow_ad g a, .inr (ci, (fs.map (ow_cv g)).set k (ow_cv g v)))) H1 → va_D (ow_A g) ((ow_ws g h).set (a - 4) (ow_ad g a, .inr (ci, (fs.map (ow_cv g)).set k (ow_cv g v)))) → va_S (ow_A g) s.heap H1 locs1 → W p l e R s m args below meth c H1 locs1 cells slots Q (F0 m (pc + 3) A (st.map (ow_cv g))) := by
    intro H1 locs1 hP1 _ hS1
    rw [heq] at hP1
    exact kk H1 locs1 cells slots A hP1 hS1 hL (by rw [List.length_set]; exact hc) (by rw [ox_sl_set e1 (by simp [ox_cl])]; exact hs) (ow_k4_set hk ha _)
  cases hfl : (mt_T ci k).2.2.2 with
  | false => exact va_put hx hb hts (ow_inT g2) (mt_ty ci) (ow_tyok g2) (ow_nm g2) hown hSW.1 hP ow_D hS (a - 4) hw (ow_cl g2) k g3 (hts _ (gm_of g1 rfl)) (fun _ z => z) hfl (ow_tyok g2 k g3) hft.1 hft.2 hl' hd kk'
  | true =>
    unfold ox_fin at hfin
    rw [hfl] at hfin
    simp only [Bool.not_true, Bool.false_or, Bool.and_eq_true, beq_iff_eq] at hfin
    exact va_putF hx hb hts (ow_inT g2) (mt_ty ci) (ow_tyok g2) (ow_nm g2) hown hSW.1 hP ow_D hS (a - 4) hw (ow_cl g2) k g3 (hts _ (gm_of g1 rfl)) (fun _ z => z) hfl (hin hfin.1) (by rw [ow_tdecl g2 k g3, hfin.2]) (ow_tyok g2 k g3) hft.1 hft.2 hl' hd kk'
theorem os_gets (C : ow_Cx g xs mi p R s m args meth c) {i k : Nat} (hd : decode (mt_c mi) pc = .ok (.getstatic i, 3)) (hr : rs_S (mt_k mi) i = some k) (kk : ow_Go g xs mi p l e R s m args below meth c Q n0 s0 (pc + 3) ls (.ref k :: st) h) : ow_Go g xs mi p l e R s m args below meth c Q n0 s0 pc ls st h := by
  intro H locs cells slots A hP hS hL hc hs hk
  obtain ⟨hx, hb, hml, hown, hts, hin, hSW, hR1, hR2, hb0⟩ := C
  obtain ⟨g1, g2, g3⟩ := rs_gs_all _ (rs_mem hr)
  have hZ := (hSW.2.2.2.2.2.2 k g2 g3).1
  have hn := hSW.2.2.1 _ (rs_mem hr)
  have k1 := kk H locs cells slots A hP hS hL hc hs hk
  have ek : ow_cv g (.ref k) = .ref (g.2.1 k) := by simp [ow_cv, ow_ad, show k < 4 by have : k ≤ 3 := g3; omega]
  rw [List.map_cons, ek] at k1
  exact va_getsN hx hb hZ hS hown (va_Nw.use rfl hn) (fun _ z => z) hd k1
end
