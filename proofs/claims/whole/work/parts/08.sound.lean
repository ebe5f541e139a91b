/-! Calls, and the whole: what our machine answers, the real one answers. -/
theorem ox_g_some {b : Bool} {r : Option ox_R} {x : ox_R} (h : ox_g b r = some x) : b = true ∧ r = some x := by
  unfold ox_g at h
  split at h
  · exact ⟨by assumption, h⟩
  · cases h
theorem ox_O_some {α : Type} {o : Option α} {f : α → Option ox_R} {x : ox_R} (h : ox_O o f = some x) : ∃ a, o = some a ∧ f a = some x := by
  unfold ox_O at h
  split at h
  · cases h
  · exact ⟨_, rfl, h⟩
theorem ox_B_some {o : Option ox_R} {f : Option Value → ox_H → Option ox_R} {x : ox_R} (h : ox_B o f = some x) : ∃ v h', o = some (v, h') ∧ f v h' = some x := by
  unfold ox_B at h
  split at h
  · cases h
  · exact ⟨_, _, rfl, h⟩
theorem ox_I_some {v : Option Value} {f : Int32 → Option ox_R} {x : ox_R} (h : ox_I v f = some x) : ∃ a, v = some (.int a) ∧ f a = some x := by
  unfold ox_I at h
  split at h
  · exact ⟨_, rfl, h⟩
  · cases h
theorem ox_A_some {v : Option Value} {f : Nat → Option ox_R} {x : ox_R} (h : ox_A v f = some x) : ∃ a, v = some (.ref a) ∧ f a = some x := by
  unfold ox_A at h
  split at h
  · exact ⟨_, rfl, h⟩
  · cases h
theorem ox_pI_some {st : List Value} {f : Int32 → List Value → Option ox_R} {x : ox_R} (h : ox_pI st f = some x) : ∃ a r, st = .int a :: r ∧ f a r = some x := by
  unfold ox_pI at h
  split at h
  · exact ⟨_, _, rfl, h⟩
  · cases h
theorem ox_pA_some {st : List Value} {f : Nat → List Value → Option ox_R} {x : ox_R} (h : ox_pA st f = some x) : ∃ a r, st = .ref a :: r ∧ f a r = some x := by
  unfold ox_pA at h
  split at h
  · exact ⟨_, _, rfl, h⟩
  · cases h
theorem ox_p2_some {st : List Value} {f : Int32 → Int32 → List Value → Option ox_R} {x : ox_R} (h : ox_p2 st f = some x) : ∃ a b r, st = .int b :: .int a :: r ∧ f a b r = some x := by
  unfold ox_p2 at h
  obtain ⟨b, r1, e1, h1⟩ := ox_pI_some h
  obtain ⟨a, r2, e2, h2⟩ := ox_pI_some h1
  exact ⟨a, b, r2, by rw [e1, e2], h2⟩
theorem ox_jmp_some {pc : Nat} {off : Int} {f : Nat → Option ox_R} {x : ox_R} (h : ox_jmp pc off f = some x) : ∃ t : Nat, (pc : Int) + off = (t : Int) ∧ f t = some x := by
  unfold ox_jmp at h
  split at h
  · rename_i hp
    exact ⟨_, (Int.toNat_of_nonneg hp).symm, h⟩
  · cases h
theorem ow_lvargs {vs : List Value} : ∀ (off : Nat), vs.all (fun v => v.category == 1) = true → ∀ (i : Nat) (v : Value), vs[i]? = some v → (off + i, v) ∈ lv_args off vs := by
  induction vs with
  | nil => intro off _ i v h; simp at h
  | cons w vs ih =>
    intro off hc i v h
    simp only [List.all_cons, Bool.and_eq_true, beq_iff_eq] at hc
    unfold lv_args
    rw [if_neg (by omega)]
    cases i with
    | zero => cases h; exact List.mem_cons_self
    | succ i =>
      rw [List.getElem?_cons_succ] at h
      have := ih (off + 1) hc.2 i v h
      rw [show off + 1 + i = off + (i + 1) by omega] at this
      exact List.mem_cons_of_mem _ this
theorem ow_lgsl {vs : List Value} (h : vs.all (fun v => v.category == 1) = true) : (lg_sl vs).length = vs.length := by
  induction vs with
  | nil => rfl
  | cons w vs ih =>
    simp only [List.all_cons, Bool.and_eq_true, beq_iff_eq] at h
    have e : lg_sl (w :: vs) = .val w :: lg_sl vs := by
      show (if w.category = 2 then _ else _) ++ lg_sl vs = _
      rw [if_neg (by omega)]
      rfl
    rw [e, List.length_cons, List.length_cons, ih h.2]
theorem ow_allmap {g : ow_G} {vs : List Value} (h : vs.all (fun v => v.category == 1) = true) : (vs.map (ow_cv g)).all (fun v => v.category == 1) = true := by
  rw [List.all_map]
  simpa [Function.comp_def, ow_cat] using h
theorem ow_entry {g : ow_G} {As : List Value} {n k : Nat} (hc : As.all (fun v => v.category == 1) = true) (hl : As.length = k) (hn : k ≤ n) : ow_L g ((lg_sl (As.map (ow_cv g)) ++ List.replicate (n - (lg_sl (As.map (ow_cv g))).length) Slot.unset).toArray) n (As ++ List.replicate (n - k) .null) := by
  have hc' := ow_allmap (g := g) hc
  have hle := lv_entry (As.map (ow_cv g)) (n := n) (by rw [ow_lgsl hc', List.length_map]; omega)
  refine ⟨⟨hle.1, hle.2.1, fun q hq => hle.2.2 q ?_⟩, by simp; omega⟩
  obtain ⟨i, hi, hp⟩ := List.mem_filterMap.mp hq
  unfold ow_p1 at hp
  rcases Nat.lt_or_ge i As.length with hlt | hge
  · rw [List.getElem?_append_left hlt] at hp
    have key : ∀ v, As[i]? = some v → (i, ow_cv g v) ∈ lv_args 0 (As.map (ow_cv g)) := fun v hv => by
      have := ow_lvargs 0 hc' i (ow_cv g v) (by rw [List.getElem?_map, hv]; rfl)
      rwa [Nat.zero_add] at this
    split at hp
    · rename_i x hx; cases hp; exact key _ hx
    · rename_i x hx; cases hp; exact key _ hx
    · cases hp
  · rw [List.getElem?_append_right hge] at hp
    have hnull : ∀ v, (List.replicate (n - k) Value.null)[i - As.length]? = some v → v = .null := fun v hv => List.eq_of_mem_replicate (List.mem_of_getElem? hv)
    split at hp
    · rename_i x hx; have := hnull _ hx; cases this
    · rename_i x hx; have := hnull _ hx; cases this
    · cases hp
theorem mt_plain (c : Nat) : plainName (mt_R c) = true := by unfold mt_R; split <;> decide
theorem mt_noMH (c : Nat) : mt_R c ≠ "java/lang/invoke/MethodHandle" ∧ mt_R c ≠ "java/lang/invoke/VarHandle" := by unfold mt_R; split <;> decide
def ow_inv (h h' : ox_H) : Prop := h.length ≤ h'.length ∧ ox_sl h ≤ ox_sl h' ∧ ∀ xs, ow_k4 xs h → ow_k4 xs h'
theorem ow_inv_rf (h : ox_H) : ow_inv h h := ⟨Nat.le_refl _, Nat.le_refl _, fun _ k => k⟩
theorem ow_inv_tr {h h1 h2 : ox_H} (a : ow_inv h h1) (b : ow_inv h1 h2) : ow_inv h h2 := ⟨Nat.le_trans a.1 b.1, Nat.le_trans a.2.1 b.2.1, fun xs k => b.2.2 xs (a.2.2 xs k)⟩
theorem ow_inv_set {h : ox_H} {a : Nat} {c0 c : ox_C} (hc : h[a]? = some c0) (he : ox_cl c = ox_cl c0) (h4 : ∀ xs, ow_k4 xs h → 4 ≤ a) : ow_inv h (h.set a c) := ⟨by simp, by rw [ox_sl_set hc he]; exact Nat.le_refl _, fun xs k => ow_k4_set k (h4 xs k) c⟩
theorem ow_inv_push {h : ox_H} {c : ox_C} : ow_inv h (h ++ [c]) := ⟨by simp, by rw [ox_sl_push]; omega, fun xs k => ow_k4_push k c⟩
/-- what is claimed of n steps of our machine -/
def ow_OK (n : Nat) : Prop := ∀ (mi pc : Nat) (ls st : List Value) (h : ox_H) (v : Option Value) (h' : ox_H), ox_run n mi pc ls st h = some (v, h') → ow_inv h h' ∧
  ∀ (g : ow_G) (xs : List Int32) (p : Program) (l : Launch) (e : Env) (R : Room) (s : State) (m : MethodId) (args : Array Value) (below : List Frame) (meth : Method) (c : Code) (Q : State → Prop) (n0 s0 : Nat), ow_Cx g xs mi p R s m args meth c → s.heap.size + 4 = g.1 + n0 → h'.length ≤ R.cells + n0 → ox_sl h' ≤ R.slots + s0 → ow_Rt g mi p l e R s m args below meth c Q n0 s0 v h' → ow_Go g xs mi p l e R s m args below meth c Q n0 s0 pc ls st h
def ow_Qc (g : ow_G) (v : Option Value) (h1 : ox_H) : Array Value → State → Outcome → State → Prop := fun _ st oc t => oc = .returned (v.map (ow_cv g)) ∧ va_P g.2.2.1 vwCl (ow_ws g h1) t.heap ∧ va_F (ow_A g) st t
def ow_Pc (g : ow_G) (xs : List Int32) (h : ox_H) (As : List Value) : Array Value → State → Prop := va_Pc (As.map (ow_cv g)) (fun U => ow_S g xs U ∧ va_P g.2.2.1 vwCl (ow_ws g h) U.heap ∧ U.heap.size + 4 = g.1 + h.length)
def ow_cw (j : Nat) : List Cond := Cond.code (mt_y j) (mt_c j) (mt_n j) (mt_ret j) :: gm_tbl
theorem ow_met {n : Nat} (IH : ow_OK n) (g : ow_G) (xs : List Int32) (l : Launch) {j : Nat} (hj : j < 154) {As : List Value} (hAs : As.length = mt_a j) (hcat : As.all (fun v => v.category == 1) = true) {h h1 : ox_H} {v : Option Value} (hrun : ox_run n j 0 (As ++ List.replicate (mt_n j - mt_a j) .null) [] h = some (v, h1)) (hk : ow_k4 xs h) {mc ms : Nat} (hmc : mc + h.length = h1.length) (hms : ms + ox_sl h = ox_sl h1) :
    Met l (mt_y j) (ow_cw j) ({ frames := mt_r j, cells := mc, slots := ms, locals := 34 * mt_r j }) (ow_Pc g xs h As) (ow_Qc g v h1) mc ms (ow_A g) := by
  obtain ⟨f1, f2, f3, f4, f5, f6, f7, f8, f9, f10, f11⟩ := rs_fm_ok j hj
  refine Met.ofW (cc := mt_c j) (maxL := mt_n j) (ret := mt_ret j) (by rw [f3]; exact mt_plain _) rfl ?_
  intro p e s m args below meth c s₁ B hml hv
  obtain ⟨rfl, hSW, hP, hsz⟩ := hv
  have hts : ∀ w ∈ ow_cw j, w.before (As.map (ow_cv g)).toArray s = true := atoms_spec (ws := ow_cw j) B.pre
  have hown : s.vm.findClass (mt_R (mt_k j)) = some m.cls := by
    have := findClass_of_methodNamed B.named
    rwa [f3] at this
  have hlocks := B.notSynchronized
  have hb0 : g.1 ≤ s.heap.size := by have := ow_k4_len hk; omega
  have C : ow_Cx g xs j p ({ frames := mt_r j, cells := mc, slots := ms, locals := 34 * mt_r j } : Room) s m (As.map (ow_cv g)).toArray meth c :=
    ⟨B.exec, B.bytes, hml, hown, fun w hw => hts w (List.mem_cons_of_mem _ hw), fun hs2 => ((name_of_methodNamed B.named B.method).1).trans (f7 hs2).1, hSW, Nat.le_refl _, Nat.le_refl _, hb0⟩
  have hr := B.returns
  rw [lg_entry_eq]
  refine (IH j 0 _ [] h v h1 hrun).2 g xs p l e _ s m _ below meth c _ h.length (ox_sl h) C hsz (by show h1.length ≤ mc + h.length; omega) (by show ox_sl h1 ≤ ms + ox_sl h; omega) ?_ s.heap [] 0 0 _ hP va_S.rf (ow_entry hcat hAs f10) (Nat.zero_add _) (Nat.zero_add _) hk
  intro pc A H locs cells slots hP1 hS1 hc1 hs1
  have e1 : cells = mc := by omega
  have e2 : slots = ms := by omega
  subst e1
  subst e2
  refine ⟨fun x hx hd ht => ?_, fun hx hd ht => ?_⟩
  · subst hx
    have hq : ∀ t : State, t.heap = H → s.WarmedH t.vm → ow_Qc g (some (.int x)) h1 (As.map (ow_cv g)).toArray s (.returned (some (.int x))) t := fun t ht _ => ⟨rfl, by rw [ht]; exact hP1, hS1.F ht⟩
    rcases ht with ht | ⟨ht, hx01⟩
    · exact W.iret B.exec B.bytes (by rw [hr]; unfold mt_ret; rw [ht]; rfl) hq hS1.2.2 hd
    · exact W.zret B.exec B.bytes (ty := .boolean) (by rw [hr]; unfold mt_ret; rw [ht]; rfl) (by rcases hx01 with rfl | rfl <;> rfl) hq hS1.2.2 hd
  · subst hx
    exact W.vret B.exec B.bytes (by rw [hr]; unfold mt_ret; rw [ht]; rfl) (fun t ht _ => ⟨rfl, by rw [ht]; exact hP1, hS1.F ht⟩) hS1.2.2 hd
theorem ow_blind {g : ow_G} {xs : List Int32} {h : ox_H} {As : List Value} : FrameBlind (ow_Pc g xs h As) := fun a U f mk q => ⟨q.1, ow_S_call q.2.1, q.2.2.1, q.2.2.2⟩
section
variable {g : ow_G} {xs : List Int32} {mi : Nat} {p : Program} {l : Launch} {e : Env} {R : Room} {s : State} {m : MethodId} {args : Array Value} {below : List Frame} {meth : Method} {c : Code} {Q : State → Prop} {n0 s0 pc : Nat} {ls st : List Value} {h : ox_H}
/-- behind a call -/
theorem os_back {H : Heap} {locs : List Loc} {cells slots mc ms : Nat} {A : Array Slot} {st0 rest : List Value} {a : Array Value} {v : Option Value} {h1 : ox_H} (hr : va_Run p l e R s m args below meth c H locs cells slots mc ms (F0 m pc A st0) rest (ow_Qc g v h1 a) (ow_A g)) (hS : va_S (ow_A g) s.heap H locs)
    (kk : ∀ (H1 : Heap) (locs1 : List Loc), va_P g.2.2.1 vwCl (ow_ws g h1) H1 → va_S (ow_A g) s.heap H1 locs1 → W p l e R s m args below meth c H1 locs1 (cells + mc) (slots + ms) Q (F0 m (pc + 3) A ((v.map (ow_cv g)).toList ++ rest))) : W p l e R s m args below meth c H locs cells slots Q (F0 m pc A st0) := by
  intro T hT X
  obtain ⟨v', st₀, t, T', L, h0, X', hL, e1, e2, ⟨hv, hp, hz, hk⟩, stp⟩ := hr T hT X
  have hv : v' = v.map (ow_cv g) := by cases hv; rfl
  subst hv
  rw [h0] at hz hk
  obtain ⟨t2, a1, b1⟩ := kk T'.heap (locs ++ L) (by rw [e1]; exact hp) ⟨Nat.le_trans hS.1 (by rw [e1]; exact hz), fun q h1 h2 => by rw [e1, hk q (Nat.lt_of_lt_of_le h1 hS.1) h2]; exact hS.2.1 q h1 h2, fun q hq => by
      rcases List.mem_append.mp hq with h | h
      · exact hS.2.2 q h
      · exact hL q h⟩ T' rfl X'
  exact ⟨t2, stp t2 a1, b1⟩
/-- a call of one of our methods -/
theorem os_call {n : Nat} (IH : ow_OK n) (C : ow_Cx g xs mi p R s m args meth c) (hn : s.heap.size + 4 = g.1 + n0) {i j : Nat} {ins : Instr} (hd : decode (mt_c mi) pc = .ok (ins, 3)) (hi : (ins = .invokevirtual i ∧ mt_s j = 0) ∨ (ins = .invokespecial i ∧ mt_s j = 2) ∨ (ins = .invokestatic i ∧ mt_s j = 1)) (hr : rs_M (mt_k mi) i = some j) (hj : j < 154) (hrk : mt_r j < mt_r mi) (ha : mt_a j ≤ st.length) (h8 : (st.drop (mt_a j)).length ≤ 8) (hcat : st.all (fun v => v.category == 1) = true)
    (hrcv : mt_s j = 1 ∨ ox_rcv h j st = true) {v : Option Value} {h1 : ox_H} (hrun : ox_run n j 0 ((st.take (mt_a j)).reverse ++ List.replicate (mt_n j - mt_a j) .null) [] h = some (v, h1)) (hrc : h1.length ≤ R.cells + n0) (hrs : ox_sl h1 ≤ R.slots + s0) (kk : ow_Go g xs mi p l e R s m args below meth c Q n0 s0 (pc + 3) ls (ox_push v (st.drop (mt_a j))) h1) : ow_Go g xs mi p l e R s m args below meth c Q n0 s0 pc ls st h := by
  intro H locs cells slots A hP hS hL hc hs hk
  have hinv := (IH j 0 _ [] h v h1 hrun).1
  obtain ⟨hx, hb, hml, hown, hts, hin, hSW, hR1, hR2, hb0⟩ := C
  obtain ⟨f1, f2, f3, f4, f5, f6, f7, f8, f9, f10, f11⟩ := rs_fm_ok j hj
  obtain ⟨g1, -⟩ := rs_gm_all _ (rs_mem hr)
  have g1 : Cond.methodLink (mt_R (mt_k mi)) i (mt_y j) ∈ lw_tbl := by
    have e : rs_nm j = mt_y j := by unfold rs_nm; rw [if_neg (by omega), if_neg (by omega), if_neg (by omega), if_neg (by omega)]
    rw [← e]
    exact g1
  have hta : (st.take (mt_a j)).all (fun v => v.category == 1) = true := by
    rw [List.all_eq_true] at hcat ⊢
    exact fun x hx => hcat x (List.mem_of_mem_take hx)
  have htd : (st.drop (mt_a j)).all (fun v => v.category == 1) = true := by
    rw [List.all_eq_true] at hcat ⊢
    exact fun x hx => hcat x (List.mem_of_mem_drop hx)
  have hAl : (st.take (mt_a j)).reverse.length = mt_a j := by simp; omega
  have hAc : (st.take (mt_a j)).reverse.all (fun v => v.category == 1) = true := by rw [List.all_reverse]; exact hta
  obtain ⟨mc, hmc⟩ : ∃ mc, mc + h.length = h1.length := ⟨h1.length - h.length, by have := hinv.1; omega⟩
  obtain ⟨ms, hms⟩ : ∃ ms, ms + ox_sl h = ox_sl h1 := ⟨ox_sl h1 - ox_sl h, by have := hinv.2.1; omega⟩
  have hM := ow_met IH g xs l hj hAl hAc hrun hk hmc hms
  have hG : GoodIn gm_tbl (ow_cw j) := by
    intro w hw
    rcases List.mem_cons.mp hw with rfl | hw
    · exact ⟨gm_of f1 rfl, good_of_word rfl⟩
    · exact gm_goodIn w hw
  have hroom := ow_map1 (g := g) htd
  have hsplit : st.map (ow_cv g) = ((st.take (mt_a j)).reverse.map (ow_cv g)).reverse ++ (st.drop (mt_a j)).map (ow_cv g) := by
    rw [← List.map_reverse, List.reverse_reverse, ← List.map_append, List.take_append_drop]
  have hszH : s.heap.size + 4 = g.1 + n0 → H.size ≤ s.heap.size + cells → H.size + 4 = g.1 + h.length := fun _ hz => by
    have := ow_lt hP (Nat.le_trans hb0 hS.1)
    omega
  refine ow_sz (fun hz => ?_)
  have hPre : ∀ U : State, U.heap = H → s.WarmedH U.vm → ow_Pc g xs h (st.take (mt_a j)).reverse ((st.take (mt_a j)).reverse.map (ow_cv g)).toArray U := fun U hU hW => ⟨rfl, ow_S_moved hSW hW (by rw [hU]; exact hS), by rw [hU]; exact hP, by rw [hU]; exact hszH hn hz⟩
  have hCF : CallFix p m c (mt_c mi) (mt_n mi) s args gm_tbl (mt_R (mt_k mi)) := ⟨hx, hb, hml, hown, hts⟩
  have hRm : mt_r j + 1 ≤ R.frames ∧ 8 + (mt_n j + 11) + 34 * mt_r j ≤ R.locals := ⟨by omega, by omega⟩
  have hfit : cells + mc ≤ R.cells ∧ slots + ms ≤ R.slots := ⟨by omega, by omega⟩
  have hno := mt_noMH (mt_k j)
  have hgo : ∀ (H1 : Heap) (locs1 : List Loc), va_P g.2.2.1 vwCl (ow_ws g h1) H1 → va_S (ow_A g) s.heap H1 locs1 → W p l e R s m args below meth c H1 locs1 (cells + mc) (slots + ms) Q (F0 m (pc + 3) A ((v.map (ow_cv g)).toList ++ (st.drop (mt_a j)).map (ow_cv g))) := by
    intro H1 locs1 hP1 hS1
    have k1 := kk H1 locs1 (cells + mc) (slots + ms) A hP1 hS1 hL (by omega) (by omega) (hinv.2.2 xs hk)
    have e : (ox_push v (st.drop (mt_a j))).map (ow_cv g) = (v.map (ow_cv g)).toList ++ (st.drop (mt_a j)).map (ow_cv g) := by cases v <;> rfl
    rw [e] at k1
    exact k1
  rcases hi with ⟨rfl, h0⟩ | ⟨rfl, h2⟩ | ⟨rfl, h3⟩
  · -- an instance method
    have hrv : ox_rcv h j st = true := hrcv.resolve_left (by omega)
    unfold ox_rcv at hrv
    rw [← List.head?_reverse] at hrv
    cases hAe : (st.take (mt_a j)).reverse with
    | nil => rw [hAe] at hrv; cases hrv
    | cons v0 As =>
      rw [hAe] at hrv hM hPre hsplit hAl
      rw [List.head?_cons] at hrv
      cases v0 with
      | ref b =>
        dsimp only at hrv
        obtain ⟨fs, hob⟩ := Option.isSome_iff_exists.mp hrv
        have e1 := ox_obj_some hob
        have hb4 := ow_k4_inr hk e1
        have hk4 : mt_k j < 4 := by
          rcases Nat.lt_or_ge j 154 with q | q
          · exact (show ∀ j, j < 154 → mt_k j < 4 by decide +kernel) j q
          · omega
        have hw := ow_ws_get (g := g) hb4 e1
        rw [ow_E_obj hk4] at hw
        have hT : GoodIn gm_tbl (wsV (mt_R (mt_k mi)) i (mt_R (mt_k j)) (mt_y j) (ow_cw j)) := by
          intro w hw'
          unfold wsV at hw'
          rcases List.mem_append.mp hw' with hw' | hw'
          · simp only [List.mem_cons, List.not_mem_nil, or_false] at hw'
            rcases hw' with rfl | rfl | rfl | rfl
            · exact ⟨gm_of g1 rfl, good_of_word rfl⟩
            · exact ⟨gm_of (f4 (Or.inl h0)) rfl, good_of_word rfl⟩
            · exact ⟨gm_of (f5 h0) rfl, good_of_word rfl⟩
            · exact ⟨gm_of f2 rfl, good_of_word rfl⟩
          · exact hG w hw'
        have hal : (As.map (ow_cv g)).length = mt_a j - 1 := by simp at hAl ⊢; omega
        have hcw := cwV (R := R) (s := s) (args := args) (rm := { frames := mt_r j, cells := mc, slots := ms, locals := 34 * mt_r j }) (mt_a j - 1) hts hT rfl rfl rfl ⟨f3, by rw [f3]; exact hno.1, by rw [f3]; exact hno.2, by rw [f8, if_neg (by omega)]⟩ hRm
        have hst : st.map (ow_cv g) = (As.map (ow_cv g)).reverse ++ .ref (ow_ad g b) :: (st.drop (mt_a j)).map (ow_cv g) := by
          rw [hsplit]
          simp [ow_cv]
        rw [hst]
        refine os_back (va_runV (As := As.map (ow_cv g)) (rest := (st.drop (mt_a j)).map (ow_cv g)) hCF hM hcw ⟨ow_blind, va_recv (hSW.1) hP (ow_cl hk4) hw, fun U hU hW => hPre U hU hW⟩ rfl hal hL.1.1 rfl (lv_room (by rw [hroom]; exact h8)) hd hfit) hS hgo
      | _ => cases hrv
  · -- a constructor
    have hrv : ox_rcv h j st = true := hrcv.resolve_left (by omega)
    unfold ox_rcv at hrv
    rw [← List.head?_reverse] at hrv
    cases hAe : (st.take (mt_a j)).reverse with
    | nil => rw [hAe] at hrv; cases hrv
    | cons v0 As =>
      rw [hAe] at hrv hM hPre hsplit hAl
      rw [List.head?_cons] at hrv
      cases v0 with
      | ref b =>
        have hal : (As.map (ow_cv g)).length = mt_a j - 1 := by simp at hAl ⊢; omega
        have hrn : mt_ret j = none := by unfold mt_ret; rw [(f7 h2).2]; rfl
        have hw : ow_cw j = Cond.code (mt_y j) (mt_c j) (mt_n j) none :: gm_tbl := by unfold ow_cw; rw [hrn]
        have hcw := cwI (R := R) (s := s) (args := args) (rm := { frames := mt_r j, cells := mc, slots := ms, locals := 34 * mt_r j }) (mt_a j - 1) hts hG hw rfl rfl (by rw [f3]; exact hts _ (gm_of f2 rfl)) (hts _ (gm_of g1 rfl)) (hts _ (gm_of (f4 (Or.inr h2)) rfl)) (f7 h2).1 ⟨by rw [f3]; exact hno.1, by rw [f3]; exact hno.2, by rw [f8, if_neg (by omega)]⟩ hRm
        have hst : st.map (ow_cv g) = (As.map (ow_cv g)).reverse ++ .ref (ow_ad g b) :: (st.drop (mt_a j)).map (ow_cv g) := by
          rw [hsplit]
          simp [ow_cv]
        rw [hst]
        refine os_back (va_runI (As := As.map (ow_cv g)) (rest := (st.drop (mt_a j)).map (ow_cv g)) hCF hM hcw ⟨ow_blind, fun U hU hW => hPre U hU hW⟩ rfl hal hL.1.1 rfl (lv_room (by rw [hroom]; exact h8)) hd hfit) hS hgo
      | _ => cases hrv
  · -- a static method
    have hT : GoodIn gm_tbl (va_wsS (mt_R (mt_k mi)) i (mt_y j) (ow_cw j)) := by
      intro w hw'
      unfold va_wsS at hw'
      rcases List.mem_append.mp hw' with hw' | hw'
      · simp only [List.mem_cons, List.not_mem_nil, or_false] at hw'
        rcases hw' with rfl | rfl | rfl
        · exact ⟨gm_of g1 rfl, good_of_word rfl⟩
        · exact ⟨gm_of (f6 h3) rfl, good_of_word rfl⟩
        · rw [f3]; exact ⟨gm_of f2 rfl, good_of_word rfl⟩
      · exact hG w hw'
    have hcw := va_cwS (R := R) (s := s) (args := args) (rm := { frames := mt_r j, cells := mc, slots := ms, locals := 34 * mt_r j }) (mt_a j) hts hT rfl rfl rfl ⟨by rw [f3]; exact hno.1, by rw [f3]; exact hno.2, by rw [f8, if_pos h3]⟩ hRm
    rw [hsplit]
    exact os_back (va_runS (As := (st.take (mt_a j)).reverse.map (ow_cv g)) (rest := (st.drop (mt_a j)).map (ow_cv g)) hCF hM hcw ⟨ow_blind, hPre⟩ rfl (by rw [List.length_map]; exact hAl) hL.1.1 rfl (lv_room (by rw [hroom]; exact h8)) hd hfit) hS hgo
end
