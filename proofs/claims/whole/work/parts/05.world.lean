/-! How a state of our own machine stands in the heap of the real one. -/
abbrev ow_G : Type := Nat × (Nat → Nat) × va_G × ClassId × ClassId × ClassId
def ow_ad (g : ow_G) (k : Nat) : Nat := if k < 4 then g.2.1 k else g.1 + (k - 4)
def ow_cv (g : ow_G) : Value → Value
  | .ref k => .ref (ow_ad g k)
  | v => v
def ow_ro (g : ow_G) : Value → Option Nat
  | .ref k => some (ow_ad g k)
  | _ => none
def ow_E (g : ow_G) (c : ox_C) : va_E := match c with
  | .inl q => .inl (if q.1 = 1 then g.2.2.2.2.1 else g.2.2.2.1, q.2.length, .inl (fun j => q.2.getD j 0))
  | .inr q => if q.1 = 4 then .inl (g.2.2.2.2.2, q.2.length, .inr (.inr (.inr (.inr (fun j => ow_ro g (q.2.getD j .null)))))) else .inr (q.1, q.2.map (ow_cv g))
def ow_ws (g : ow_G) (h : ox_H) : va_W := (h.drop 4).mapIdx fun i c => (g.1 + i, ow_E g c)
def ow_t1 : List Int32 := [1000, 900, 500, 400, 100, 90, 50, 40, 10, 9, 5, 4, 1]
def ow_t2 : List Int32 := [109, 99, 100, 99, 99, 120, 108, 120, 120, 105, 118, 105, 105]
def ow_t3 : List Int32 := [32, 109, 32, 100, 32, 99, 32, 108, 32, 120, 32, 118, 32]
def ow_tab (k : Nat) : List Int32 := if k = 1 then ow_t1 else if k = 2 then ow_t2 else ow_t3
def ow_K4 (xs : List Int32) : ox_H := [.inl (2, xs), .inl (2, ow_t1), .inl (3, ow_t2), .inl (3, ow_t3)]
def ow_k4 (xs : List Int32) (h : ox_H) : Prop := h.take 4 = ow_K4 xs
def ow_A (g : ow_G) : Nat → Prop := fun q => g.1 ≤ q
def ow_tys (g : ow_G) : List (ClassId × FieldType) := [(g.2.2.2.1, .int), (g.2.2.2.2.1, .boolean), (g.2.2.2.2.2, .object "OutlineEditor$Outline")]
/-- what holds of the tables and of the constant arrays at a method's start -/
def ow_S (g : ow_G) (xs : List Int32) (U : State) : Prop :=
  va_K g.2.2.1 vwCl (ow_tys g) U ∧ va_AO "OutlineEditor$Outline" U ∧ (∀ q ∈ rs_SL, va_Nw (.fieldLinkNest (mt_R q.1.1) q.1.2 "OutlineEditor" (rs_sn q.2).1 (rs_sn q.2).2 "OutlineEditor") U) ∧ va_X (g.2.1 0) xs.length (fun j => xs.getD j 0) U U.heap ∧ g.2.1 0 < U.heap.size ∧ g.2.1 0 < g.1 ∧
  ∀ k, 1 ≤ k → k ≤ 3 → va_Z "OutlineEditor" (rs_sn k).1 (rs_sn k).2 (.ref (g.2.1 k)) (ow_A g) U U.heap ∧ va_T (if k = 1 then .int else .char) (g.2.1 k) 13 (fun j => .int ((ow_tab k).getD j 0)) (ow_A g) U U.heap
theorem ow_S_moved {g : ow_G} {xs : List Int32} {s U : State} {locs : List Loc} (h : ow_S g xs s) (hW : s.WarmedH U.vm) (hS : va_S (ow_A g) s.heap U.heap locs) : ow_S g xs U := by
  obtain ⟨h1, h2, h3, h4, h5, h6, h7⟩ := h
  have hq : ∀ a : Nat, a < s.heap.size → ¬ ow_A g a → U.heap[a]? = s.heap[a]? := hS.2.1
  refine ⟨va_K.moved hW.alike h1, va_AO.moved hW.alike h2, fun q hm => va_Nw.warmF hW (h3 q hm), ?_, Nat.lt_of_lt_of_le h5 hS.1, h6, fun k a b => ⟨?_, ?_⟩⟩
  · exact va_X.kept (va_X.moved hW.alike h4) (hq _ h5 (Nat.not_le.mpr h6))
  · exact va_Z.kept (va_Z.moved hW.alike (h7 k a b).1) hq
  · exact va_T.kept (va_T.moved hW.alike (h7 k a b).2) hq
theorem ow_S_call {g : ow_G} {xs : List Int32} {U : State} {f : JFrame} {mk : MethodId} {a : Array Value} (h : ow_S g xs U) : ow_S g xs (U.calling f mk a) := by
  obtain ⟨h1, h2, h3, h4, h5, h6, h7⟩ := h
  have hv : U.vm.Alike (U.calling f mk a).vm := Vm.Alike.refl U.vm
  exact ⟨va_K.moved hv h1, va_AO.moved hv h2, fun q hm => va_Nw.same rfl rfl (h3 q hm), va_X.moved hv h4, h5, h6, fun k a b => ⟨va_Z.moved hv (h7 k a b).1, va_T.moved hv (h7 k a b).2⟩⟩
theorem ow_ws_get {g : ow_G} {h : ox_H} {a : Nat} {c : ox_C} (ha : 4 ≤ a) (hc : h[a]? = some c) : (ow_ws g h)[a - 4]? = some (ow_ad g a, ow_E g c) := by
  unfold ow_ws
  rw [List.getElem?_mapIdx, List.getElem?_drop, show 4 + (a - 4) = a by omega, hc]
  simp [ow_ad, Nat.not_lt.mpr ha]
theorem ow_ws_inv {g : ow_G} {h : ox_H} {i : Nat} {q : Nat × va_E} (hq : (ow_ws g h)[i]? = some q) : q.1 = g.1 + i ∧ i + 4 < h.length := by
  unfold ow_ws at hq
  rw [List.getElem?_mapIdx, List.getElem?_drop] at hq
  cases hc : h[4 + i]? with
  | none => rw [hc] at hq; cases hq
  | some c =>
    rw [hc] at hq
    cases hq
    exact ⟨rfl, by have := (List.getElem?_eq_some_iff.mp hc).1; omega⟩
theorem ow_ws_set {g : ow_G} {h : ox_H} {a : Nat} {c : ox_C} (ha : 4 ≤ a) : (ow_ws g h).set (a - 4) (ow_ad g a, ow_E g c) = ow_ws g (h.set a c) := by
  apply List.ext_getElem?
  intro i
  unfold ow_ws
  rw [List.getElem?_set, List.getElem?_mapIdx, List.getElem?_mapIdx, List.getElem?_drop, List.getElem?_drop, List.getElem?_set]
  simp only [List.length_mapIdx, List.length_drop]
  by_cases hi : a - 4 = i
  · subst hi
    by_cases hl : a < h.length
    · rw [if_pos rfl, if_pos (show a - 4 < h.length - 4 by omega), if_pos (show a = 4 + (a - 4) by omega), if_pos hl]
      simp [ow_ad, Nat.not_lt.mpr ha]
    · rw [if_pos rfl, if_neg (show ¬ a - 4 < h.length - 4 by omega), if_pos (show a = 4 + (a - 4) by omega), if_neg hl]
      rfl
  · rw [if_neg hi, if_neg (show ¬ a = 4 + i by omega)]
theorem ow_ws_push {g : ow_G} {h : ox_H} {c : ox_C} (hl : 4 ≤ h.length) : ow_ws g (h ++ [c]) = ow_ws g h ++ [(ow_ad g h.length, ow_E g c)] := by
  unfold ow_ws
  rw [List.drop_append_of_le_length hl, List.mapIdx_append]
  simp [ow_ad, Nat.not_lt.mpr hl]
theorem ow_D {g : ow_G} {h : ox_H} : va_D (ow_A g) (ow_ws g h) := by
  refine ⟨fun i j p q hi hj e => ?_, fun k q hk => ?_⟩
  · have h1 := (ow_ws_inv hi).1
    have h2 := (ow_ws_inv hj).1
    omega
  · rw [(ow_ws_inv hk).1]
    exact Nat.le_add_right _ _
theorem ow_lt {g : ow_G} {h : ox_H} {H : Heap} {D : va_G} (hP : va_P D vwCl (ow_ws g h) H) (hb : g.1 ≤ H.size) : g.1 + h.length ≤ H.size + 4 := by
  by_cases hl : h.length ≤ 4
  · omega
  · have hc : h[h.length - 1]? = some h[h.length - 1] := List.getElem?_eq_getElem (by omega)
    have h1 := ow_ws_get (g := g) (by omega) hc
    have h2 := (hP _ _ h1).lt
    simp only [ow_ad, show ¬ (h.length - 1 < 4) by omega, if_false] at h2
    omega
theorem ow_newq {g : ow_G} {h : ox_H} {q : Nat} {e : va_E} (hD : va_D (ow_A g) (ow_ws g h ++ [(q, e)])) (hl : 4 ≤ h.length) (hq : q + 4 < g.1 + h.length + 1) : q = ow_ad g h.length := by
  have hlen : (ow_ws g h).length = h.length - 4 := by simp [ow_ws]
  have hlast : (ow_ws g h ++ [(q, e)])[h.length - 4]? = some (q, e) := by rw [List.getElem?_append_right (by omega), hlen, Nat.sub_self]; rfl
  have hA : g.1 ≤ q := hD.2 _ _ hlast
  simp only [ow_ad, Nat.not_lt.mpr hl, if_false]
  by_cases hlt : q < g.1 + (h.length - 4)
  · exfalso
    have hi : q - g.1 < (ow_ws g h).length := by omega
    have hc : (ow_ws g h)[q - g.1]? = some (ow_ws g h)[q - g.1] := List.getElem?_eq_getElem hi
    have h1 := (ow_ws_inv hc).1
    have h2 : (ow_ws g h ++ [(q, e)])[q - g.1]? = some (ow_ws g h)[q - g.1] := by rw [List.getElem?_append_left hi]; exact hc
    have h3 := hD.1 _ _ _ _ h2 hlast (by rw [h1]; simp; omega)
    omega
  · omega
theorem ow_k4_len {xs : List Int32} {h : ox_H} (hk : ow_k4 xs h) : 4 ≤ h.length := by
  have h1 := congrArg List.length hk
  simp [ow_K4] at h1
  omega
theorem ow_k4_get {xs : List Int32} {h : ox_H} (hk : ow_k4 xs h) {a : Nat} (ha : a < 4) : h[a]? = (ow_K4 xs)[a]? := by
  rw [← hk, List.getElem?_take, if_pos ha]
theorem ow_k4_set {xs : List Int32} {h : ox_H} (hk : ow_k4 xs h) {a : Nat} (ha : 4 ≤ a) (c : ox_C) : ow_k4 xs (h.set a c) := by
  unfold ow_k4
  rw [List.take_set, List.set_eq_of_length_le (by simp; omega)]
  exact hk
theorem ow_k4_push {xs : List Int32} {h : ox_H} (hk : ow_k4 xs h) (c : ox_C) : ow_k4 xs (h ++ [c]) := by
  unfold ow_k4
  rw [List.take_append_of_le_length (ow_k4_len hk)]
  exact hk
theorem ow_k4_inl {xs : List Int32} {h : ox_H} (hk : ow_k4 xs h) {a t : Nat} {l : List Int32} (hc : h[a]? = some (.inl (t, l))) (ht : t < 2) : 4 ≤ a := by
  rcases Nat.lt_or_ge a 4 with q | q
  · rw [ow_k4_get hk q] at hc
    match a, q with
    | 0, _ => cases hc; omega
    | 1, _ => cases hc; omega
    | 2, _ => cases hc; omega
    | 3, _ => cases hc; omega
  · exact q
theorem ow_k4_inr {xs : List Int32} {h : ox_H} (hk : ow_k4 xs h) {a : Nat} {o : Nat × List Value} (hc : h[a]? = some (.inr o)) : 4 ≤ a := by
  rcases Nat.lt_or_ge a 4 with q | q
  · rw [ow_k4_get hk q] at hc
    match a, q with
    | 0, _ => cases hc
    | 1, _ => cases hc
    | 2, _ => cases hc
    | 3, _ => cases hc
  · exact q
/-- the locals -/
def ow_p1 (g : ow_G) (ls : List Value) (i : Nat) : Option (Nat × Value) := match ls[i]? with
  | some (.int x) => some (i, .int x)
  | some (.ref a) => some (i, .ref (ow_ad g a))
  | _ => none
def ow_pr (g : ow_G) (ls : List Value) : List (Nat × Value) := (List.range ls.length).filterMap (ow_p1 g ls)
def ow_L (g : ow_G) (A : Array Slot) (n : Nat) (ls : List Value) : Prop := lv_has A n (ow_pr g ls) ∧ ls.length = n
theorem ow_pr_int {g : ow_G} {ls : List Value} {i : Nat} {x : Int32} (h : ls[i]? = some (.int x)) : (i, Value.int x) ∈ ow_pr g ls :=
  List.mem_filterMap.mpr ⟨i, List.mem_range.mpr (List.getElem?_eq_some_iff.mp h).1, by simp [ow_p1, h]⟩
theorem ow_pr_ref {g : ow_G} {ls : List Value} {i : Nat} {x : Nat} (h : ls[i]? = some (.ref x)) : (i, Value.ref (ow_ad g x)) ∈ ow_pr g ls :=
  List.mem_filterMap.mpr ⟨i, List.mem_range.mpr (List.getElem?_eq_some_iff.mp h).1, by simp [ow_p1, h]⟩
theorem ow_p1_cat {g : ow_G} {ls : List Value} {i : Nat} {q : Nat × Value} (h : ow_p1 g ls i = some q) : q.1 = i ∧ q.2.category = 1 := by
  unfold ow_p1 at h
  split at h <;> cases h <;> exact ⟨rfl, rfl⟩
theorem ow_L_set {g : ow_G} {A' : Array Slot} {n i : Nat} {ls : List Value} {v : Value} (hlen : ls.length = n) (hi : i < n) (hv : (∃ x, v = .int x) ∨ ∃ x, v = .ref x) (h : lv_has A' n ((i, ow_cv g v) :: (ow_pr g ls).filter (fun q => !(q.1 == i) && !(q.1 + 1 == i && q.2.category == 2)))) : ow_L g A' n (ls.set i v) := by
  refine ⟨⟨h.1, h.2.1, fun q hq => h.2.2 q ?_⟩, by simp [hlen]⟩
  obtain ⟨j, hj, hp⟩ := List.mem_filterMap.mp hq
  have hc := ow_p1_cat hp
  by_cases hji : j = i
  · subst hji
    have e : (ls.set j v)[j]? = some v := by rw [List.getElem?_set_self (by omega)]
    unfold ow_p1 at hp
    rw [e] at hp
    rcases hv with ⟨x, rfl⟩ | ⟨x, rfl⟩ <;> cases hp <;> exact List.mem_cons_self
  · refine List.mem_cons_of_mem _ (List.mem_filter.mpr ⟨List.mem_filterMap.mpr ⟨j, ?_, ?_⟩, ?_⟩)
    · simpa using hj
    · unfold ow_p1 at hp ⊢
      rw [List.getElem?_set_ne (Ne.symm hji)] at hp
      exact hp
    · rw [hc.1, hc.2]
      simp [hji]
theorem ow_cat {g : ow_G} (v : Value) : (ow_cv g v).category = v.category := by cases v <;> rfl
section
variable {p : Program} {l : Launch} {e : Env} {R : Room} {s : State} {m : MethodId} {args : Array Value} {below : List Frame} {meth : Method} {c : Code} {H : Heap} {locs : List Loc} {cells slots : Nat} {Q : State → Prop}
theorem ow_sz {f : JFrame} (k : H.size ≤ s.heap.size + cells → W p l e R s m args below meth c H locs cells slots Q f) : W p l e R s m args below meth c H locs cells slots Q f := fun T hT X => k (by rw [← hT]; exact X.heapSize) T hT X
end
def ox_cl (c : ox_C) : Nat := match c with
  | .inl q => q.2.length
  | .inr q => q.2.length
def ox_sl (h : ox_H) : Nat := (h.map ox_cl).sum
theorem ox_sl_push (h : ox_H) (c : ox_C) : ox_sl (h ++ [c]) = ox_sl h + ox_cl c := by simp [ox_sl]
theorem ox_sl_set {h : ox_H} {a : Nat} {c0 c : ox_C} (hc : h[a]? = some c0) (he : ox_cl c = ox_cl c0) : ox_sl (h.set a c) = ox_sl h := by
  unfold ox_sl
  congr 1
  apply List.ext_getElem?
  intro i
  rw [List.getElem?_map, List.getElem?_map, List.getElem?_set]
  by_cases hi : a = i
  · subst hi
    rw [if_pos rfl, hc]
    have := (List.getElem?_eq_some_iff.mp hc).1
    simp [this, he]
  · rw [if_neg hi]
/-- what holds of the method mi at work -/
def ow_Cx (g : ow_G) (xs : List Int32) (mi : Nat) (p : Program) (R : Room) (s : State) (m : MethodId) (args : Array Value) (meth : Method) (c : Code) : Prop :=
  p.tables.exec = Jvm.exec ∧ c.code = mt_c mi ∧ c.maxLocals = mt_n mi ∧ s.vm.findClass (mt_R (mt_k mi)) = some m.cls ∧ (∀ w ∈ gm_tbl, w.before args s = true) ∧ (mt_s mi = 2 → meth.name = "<init>") ∧ ow_S g xs s ∧ mt_r mi ≤ R.frames ∧ 34 * mt_r mi ≤ R.locals ∧ g.1 ≤ s.heap.size
/-- the machine, at pc of the method mi with this state of ours, comes to Q -/
def ow_Go (g : ow_G) (xs : List Int32) (mi : Nat) (p : Program) (l : Launch) (e : Env) (R : Room) (s : State) (m : MethodId) (args : Array Value) (below : List Frame) (meth : Method) (c : Code) (Q : State → Prop) (n0 s0 pc : Nat) (ls st : List Value) (h : ox_H) : Prop :=
  ∀ (H : Heap) (locs : List Loc) (cells slots : Nat) (A : Array Slot), va_P g.2.2.1 vwCl (ow_ws g h) H → va_S (ow_A g) s.heap H locs → ow_L g A (mt_n mi) ls → cells + n0 = h.length → slots + s0 = ox_sl h → ow_k4 xs h → W p l e R s m args below meth c H locs cells slots Q (F0 m pc A (st.map (ow_cv g)))
/-- how it ends -/
def ow_Rt (g : ow_G) (mi : Nat) (p : Program) (l : Launch) (e : Env) (R : Room) (s : State) (m : MethodId) (args : Array Value) (below : List Frame) (meth : Method) (c : Code) (Q : State → Prop) (n0 s0 : Nat) (v : Option Value) (h' : ox_H) : Prop :=
  ∀ (pc : Nat) (A : Array Slot) (H : Heap) (locs : List Loc) (cells slots : Nat), va_P g.2.2.1 vwCl (ow_ws g h') H → va_S (ow_A g) s.heap H locs → cells + n0 = h'.length → slots + s0 = ox_sl h' →
    (∀ x, v = some (.int x) → decode (mt_c mi) pc = .ok (.ireturn, 1) → (mt_t mi = 1 ∨ (mt_t mi = 2 ∧ (x = 0 ∨ x = 1))) → W p l e R s m args below meth c H locs cells slots Q (F0 m pc A [.int x])) ∧
    (v = none → decode (mt_c mi) pc = .ok (.return_, 1) → mt_t mi = 0 → W p l e R s m args below meth c H locs cells slots Q (F0 m pc A []))
