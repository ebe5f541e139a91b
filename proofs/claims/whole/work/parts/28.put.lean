/-! An object of class tag with N int rows behind it, put into a heap at o. -/
def gp (tag N : Nat) (F : Nat → ol → List Value) (h : ox_H) (o : Nat) (X : ol) : ox_H := h.mapIdx fun a c => if a = o then .inr (tag, F o X) else if o < a ∧ a ≤ o + N then .inl (0, (X.2 (a - o - 1)).map iI) else c
def gO (tag N : Nat) (F : Nat → ol → List Value) (h : ox_H) (o : Nat) (X : ol) : Prop := h[o]? = some (.inr (tag, F o X)) ∧ ∀ k, k < N → h[o + 1 + k]? = some (.inl (0, (X.2 k).map iI))
def oset (X : ol) (k : Nat) (l : List Int) : ol := (X.1, fun j => if j = k then l else X.2 j)
def nset (X : ol) (k : Nat) (v : Int) : ol := (fun j => if j = k then v else X.1 j, X.2)
section
variable {tag N : Nat} {F : Nat → ol → List Value} {h : ox_H} {o : Nat} {X : ol}
theorem gp_len : (gp tag N F h o X).length = h.length := by simp [gp]
theorem gp_out {a : Nat} (ha : a < o ∨ o + N < a) : (gp tag N F h o X)[a]? = h[a]? := by
  unfold gp
  rw [List.getElem?_mapIdx]
  cases h[a]? with
  | none => rfl
  | some c =>
    simp only [Option.map_some]
    rw [if_neg (by omega), if_neg (by omega)]
theorem gp_gO (hb : o + N < h.length) : gO tag N F (gp tag N F h o X) o X := by
  refine ⟨?_, fun k hk => ?_⟩
  · unfold gp
    rw [List.getElem?_mapIdx, List.getElem?_eq_getElem (by omega), Option.map_some, if_pos rfl]
  · unfold gp
    rw [List.getElem?_mapIdx, List.getElem?_eq_getElem (by omega), Option.map_some, if_neg (by omega), if_pos ⟨by omega, by omega⟩, show o + 1 + k - o - 1 = k by omega]
theorem gp_ext {h1 : ox_H} (hl : h1.length = h.length) (hO : gO tag N F h1 o X) (hout : ∀ a, (a < o ∨ o + N < a) → h1[a]? = h[a]?) : h1 = gp tag N F h o X := by
  apply List.ext_getElem?
  intro a
  have hb : o + N < h.length ∨ N = 0 := by
    rcases Nat.eq_zero_or_pos N with q | q
    · exact Or.inr q
    · have := (List.getElem?_eq_some_iff.mp (hO.2 (N - 1) (by omega))).1
      exact Or.inl (by omega)
  have hb : o + N < h.length := by
    rcases hb with q | q
    · exact q
    · have := (List.getElem?_eq_some_iff.mp hO.1).1
      omega
  have hg := gp_gO (tag := tag) (F := F) (X := X) hb
  by_cases c : a < o ∨ o + N < a
  · rw [hout a c, gp_out c]
  · by_cases c1 : a = o
    · subst c1
      rw [hO.1, hg.1]
    · obtain ⟨k, rfl⟩ : ∃ k, a = o + 1 + k := ⟨a - o - 1, by omega⟩
      rw [hO.2 k (by omega), hg.2 k (by omega)]
theorem gp_self (hO : gO tag N F h o X) : gp tag N F h o X = h := (gp_ext rfl hO (fun _ _ => rfl)).symm
theorem gp_gp {X' : ol} (hb : o + N < h.length) : gp tag N F (gp tag N F h o X) o X' = gp tag N F h o X' := by
  refine gp_ext (by rw [gp_len, gp_len]) (gp_gO (by rw [gp_len]; exact hb)) (fun a ha => ?_)
  rw [gp_out ha, gp_out ha]
theorem gp_row (hF : ∀ k l, F o (oset X k l) = F o X) (hb : o + N < h.length) {k : Nat} (hk : k < N) {l : List Int} : (gp tag N F h o X).set (o + 1 + k) (.inl (0, l.map iI)) = gp tag N F h o (oset X k l) := by
  have hg := gp_gO (tag := tag) (F := F) (X := X) hb
  refine gp_ext (by rw [List.length_set, gp_len]) ⟨?_, fun j hj => ?_⟩ (fun a ha => ?_)
  · rw [List.getElem?_set_ne (by omega), hg.1, hF]
  · by_cases e : k = j
    · subst e
      rw [List.getElem?_set_self (by rw [gp_len]; omega)]
      simp [oset]
    · rw [List.getElem?_set_ne (by omega), hg.2 j hj]
      simp [oset, Ne.symm e]
  · rw [List.getElem?_set_ne (by omega), gp_out ha]
theorem gp_fld (hb : o + N < h.length) {k : Nat} {v : Int} {fs : List Value} (hF : fs = F o (nset X k v)) : (gp tag N F h o X).set o (.inr (tag, fs)) = gp tag N F h o (nset X k v) := by
  have hg := gp_gO (tag := tag) (F := F) (X := X) hb
  refine gp_ext (by rw [List.length_set, gp_len]) ⟨?_, fun j hj => ?_⟩ (fun a ha => ?_)
  · rw [List.getElem?_set_self (by rw [gp_len]; omega), hF]
  · rw [List.getElem?_set_ne (by omega), hg.2 j hj]
    rfl
  · rw [List.getElem?_set_ne (by omega), gp_out ha]
end
abbrev hput : ox_H → Nat → ol → ox_H := gp 1 10 oa_fs
abbrev mput : ox_H → Nat → ol → ox_H := gp 3 6 ma_fs
theorem oa_put {h : ox_H} {o : Nat} {X : ol} (hb : o + 10 < h.length) : OA (hput h o X) o X := gp_gO hb
theorem ma_put {h : ox_H} {o : Nat} {X : ol} (hb : o + 6 < h.length) : MA (mput h o X) o X := gp_gO hb
theorem oa_fsl {o : Nat} {X : ol} : (oa_fs o X).length = 13 := rfl
theorem ma_fsl {o : Nat} {X : ol} : (ma_fs o X).length = 10 := rfl
theorem ox_gd {c : Prop} {q : Decidable c} {r : Option ox_R} (hc : c) : ox_g (decide c) r = r := by rw [decide_eq_true hc]; rfl
theorem oa_gl {k o : Nat} {X : ol} {r : Option ox_R} (hk : k < 13) : ox_g (decide (k < (oa_fs o X).length)) r = r := ox_gd hk
theorem ma_gl {k o : Nat} {X : ol} {r : Option ox_R} (hk : k < 10) : ox_g (decide (k < (ma_fs o X).length)) r = r := ox_gd hk
theorem os_2 {X : ol} {k j : Nat} {l : List Int} : (oset X k l).2 j = if j = k then l else X.2 j := rfl
theorem os_1 {X : ol} {k j : Nat} {l : List Int} : (oset X k l).1 j = X.1 j := rfl
theorem ns_1 {X : ol} {k j : Nat} {v : Int} : (nset X k v).1 j = if j = k then v else X.1 j := rfl
theorem ns_2 {X : ol} {k j : Nat} {v : Int} : (nset X k v).2 j = X.2 j := rfl
theorem os_os {X : ol} {k : Nat} {l l' : List Int} : oset (oset X k l) k l' = oset X k l' := by
  unfold oset
  congr 1
  funext j
  by_cases e : j = k <;> simp [e]
theorem ns_ns {X : ol} {k : Nat} {v v' : Int} : nset (nset X k v) k v' = nset X k v' := by
  unfold nset
  congr 1
  funext j
  by_cases e : j = k <;> simp [e]
theorem os_self {X : ol} {k : Nat} : oset X k (X.2 k) = X := by
  unfold oset
  have : (fun j => if j = k then X.2 k else X.2 j) = X.2 := by funext j; by_cases e : j = k <;> simp [e]
  rw [this]
theorem hp_obj {h : ox_H} {o : Nat} {X : ol} (hb : o + 10 < h.length) : ox_obj (hput h o X) o 1 = some (oa_fs o X) := (oa_facts (oa_put hb)).1
theorem hp_f0 {h : ox_H} {o : Nat} {X : ol} (hb : o + 10 < h.length) : ox_fld (hput h o X) o 1 0 = some (.int (iI (X.1 0))) := (oa_facts (oa_put hb)).2.1
theorem hp_f1 {h : ox_H} {o : Nat} {X : ol} (hb : o + 10 < h.length) : ox_fld (hput h o X) o 1 1 = some (.ref (o + 1)) := (oa_facts (oa_put hb)).2.2.1
theorem hp_f2 {h : ox_H} {o : Nat} {X : ol} (hb : o + 10 < h.length) : ox_fld (hput h o X) o 1 2 = some (.ref (o + 2)) := (oa_facts (oa_put hb)).2.2.2.1
theorem hp_f3 {h : ox_H} {o : Nat} {X : ol} (hb : o + 10 < h.length) : ox_fld (hput h o X) o 1 3 = some (.ref (o + 3)) := (oa_facts (oa_put hb)).2.2.2.2.1
theorem hp_f4 {h : ox_H} {o : Nat} {X : ol} (hb : o + 10 < h.length) : ox_fld (hput h o X) o 1 4 = some (.ref (o + 4)) := (oa_facts (oa_put hb)).2.2.2.2.2.1
theorem hp_f5 {h : ox_H} {o : Nat} {X : ol} (hb : o + 10 < h.length) : ox_fld (hput h o X) o 1 5 = some (.ref (o + 5)) := (oa_facts (oa_put hb)).2.2.2.2.2.2.1
theorem hp_f6 {h : ox_H} {o : Nat} {X : ol} (hb : o + 10 < h.length) : ox_fld (hput h o X) o 1 6 = some (.ref (o + 6)) := (oa_facts (oa_put hb)).2.2.2.2.2.2.2.1
theorem hp_f7 {h : ox_H} {o : Nat} {X : ol} (hb : o + 10 < h.length) : ox_fld (hput h o X) o 1 7 = some (.ref (o + 7)) := (oa_facts (oa_put hb)).2.2.2.2.2.2.2.2.1
theorem hp_f8 {h : ox_H} {o : Nat} {X : ol} (hb : o + 10 < h.length) : ox_fld (hput h o X) o 1 8 = some (.ref (o + 8)) := (oa_facts (oa_put hb)).2.2.2.2.2.2.2.2.2.1
theorem hp_f9 {h : ox_H} {o : Nat} {X : ol} (hb : o + 10 < h.length) : ox_fld (hput h o X) o 1 9 = some (.int (iI (X.1 1))) := (oa_facts (oa_put hb)).2.2.2.2.2.2.2.2.2.2.1
theorem hp_f10 {h : ox_H} {o : Nat} {X : ol} (hb : o + 10 < h.length) : ox_fld (hput h o X) o 1 10 = some (.int (iI (X.1 2))) := (oa_facts (oa_put hb)).2.2.2.2.2.2.2.2.2.2.2.1
theorem hp_f11 {h : ox_H} {o : Nat} {X : ol} (hb : o + 10 < h.length) : ox_fld (hput h o X) o 1 11 = some (.ref (o + 9)) := (oa_facts (oa_put hb)).2.2.2.2.2.2.2.2.2.2.2.2.1
theorem hp_f12 {h : ox_H} {o : Nat} {X : ol} (hb : o + 10 < h.length) : ox_fld (hput h o X) o 1 12 = some (.ref (o + 10)) := (oa_facts (oa_put hb)).2.2.2.2.2.2.2.2.2.2.2.2.2.1
theorem hp_i0 {h : ox_H} {o : Nat} {X : ol} (hb : o + 10 < h.length) : ox_ints (hput h o X) (o + 1) ox_isI = some ((X.2 0).map iI) := (oa_facts (oa_put hb)).2.2.2.2.2.2.2.2.2.2.2.2.2.2.1
theorem hp_i1 {h : ox_H} {o : Nat} {X : ol} (hb : o + 10 < h.length) : ox_ints (hput h o X) (o + 2) ox_isI = some ((X.2 1).map iI) := (oa_facts (oa_put hb)).2.2.2.2.2.2.2.2.2.2.2.2.2.2.2.1
theorem hp_i2 {h : ox_H} {o : Nat} {X : ol} (hb : o + 10 < h.length) : ox_ints (hput h o X) (o + 3) ox_isI = some ((X.2 2).map iI) := (oa_facts (oa_put hb)).2.2.2.2.2.2.2.2.2.2.2.2.2.2.2.2.1
theorem hp_i3 {h : ox_H} {o : Nat} {X : ol} (hb : o + 10 < h.length) : ox_ints (hput h o X) (o + 4) ox_isI = some ((X.2 3).map iI) := (oa_facts (oa_put hb)).2.2.2.2.2.2.2.2.2.2.2.2.2.2.2.2.2.1
theorem hp_i4 {h : ox_H} {o : Nat} {X : ol} (hb : o + 10 < h.length) : ox_ints (hput h o X) (o + 5) ox_isI = some ((X.2 4).map iI) := (oa_facts (oa_put hb)).2.2.2.2.2.2.2.2.2.2.2.2.2.2.2.2.2.2.1
theorem hp_i5 {h : ox_H} {o : Nat} {X : ol} (hb : o + 10 < h.length) : ox_ints (hput h o X) (o + 6) ox_isI = some ((X.2 5).map iI) := (oa_facts (oa_put hb)).2.2.2.2.2.2.2.2.2.2.2.2.2.2.2.2.2.2.2.1
theorem hp_i6 {h : ox_H} {o : Nat} {X : ol} (hb : o + 10 < h.length) : ox_ints (hput h o X) (o + 7) ox_isI = some ((X.2 6).map iI) := (oa_facts (oa_put hb)).2.2.2.2.2.2.2.2.2.2.2.2.2.2.2.2.2.2.2.2.1
theorem hp_i7 {h : ox_H} {o : Nat} {X : ol} (hb : o + 10 < h.length) : ox_ints (hput h o X) (o + 8) ox_isI = some ((X.2 7).map iI) := (oa_facts (oa_put hb)).2.2.2.2.2.2.2.2.2.2.2.2.2.2.2.2.2.2.2.2.2.1
theorem hp_i8 {h : ox_H} {o : Nat} {X : ol} (hb : o + 10 < h.length) : ox_ints (hput h o X) (o + 9) ox_isI = some ((X.2 8).map iI) := (oa_facts (oa_put hb)).2.2.2.2.2.2.2.2.2.2.2.2.2.2.2.2.2.2.2.2.2.2.1
theorem hp_i9 {h : ox_H} {o : Nat} {X : ol} (hb : o + 10 < h.length) : ox_ints (hput h o X) (o + 10) ox_isI = some ((X.2 9).map iI) := (oa_facts (oa_put hb)).2.2.2.2.2.2.2.2.2.2.2.2.2.2.2.2.2.2.2.2.2.2.2.1
theorem hp_j0 {h : ox_H} {o : Nat} {X : ol} (hb : o + 10 < h.length) : ox_ints (hput h o X) (o + 1) ox_is0 = some ((X.2 0).map iI) := (oa_facts (oa_put hb)).2.2.2.2.2.2.2.2.2.2.2.2.2.2.2.2.2.2.2.2.2.2.2.2.1
theorem hp_j1 {h : ox_H} {o : Nat} {X : ol} (hb : o + 10 < h.length) : ox_ints (hput h o X) (o + 2) ox_is0 = some ((X.2 1).map iI) := (oa_facts (oa_put hb)).2.2.2.2.2.2.2.2.2.2.2.2.2.2.2.2.2.2.2.2.2.2.2.2.2.1
theorem hp_j2 {h : ox_H} {o : Nat} {X : ol} (hb : o + 10 < h.length) : ox_ints (hput h o X) (o + 3) ox_is0 = some ((X.2 2).map iI) := (oa_facts (oa_put hb)).2.2.2.2.2.2.2.2.2.2.2.2.2.2.2.2.2.2.2.2.2.2.2.2.2.2.1
theorem hp_j3 {h : ox_H} {o : Nat} {X : ol} (hb : o + 10 < h.length) : ox_ints (hput h o X) (o + 4) ox_is0 = some ((X.2 3).map iI) := (oa_facts (oa_put hb)).2.2.2.2.2.2.2.2.2.2.2.2.2.2.2.2.2.2.2.2.2.2.2.2.2.2.2.1
theorem hp_j4 {h : ox_H} {o : Nat} {X : ol} (hb : o + 10 < h.length) : ox_ints (hput h o X) (o + 5) ox_is0 = some ((X.2 4).map iI) := (oa_facts (oa_put hb)).2.2.2.2.2.2.2.2.2.2.2.2.2.2.2.2.2.2.2.2.2.2.2.2.2.2.2.2.1
theorem hp_j5 {h : ox_H} {o : Nat} {X : ol} (hb : o + 10 < h.length) : ox_ints (hput h o X) (o + 6) ox_is0 = some ((X.2 5).map iI) := (oa_facts (oa_put hb)).2.2.2.2.2.2.2.2.2.2.2.2.2.2.2.2.2.2.2.2.2.2.2.2.2.2.2.2.2.1
theorem hp_j6 {h : ox_H} {o : Nat} {X : ol} (hb : o + 10 < h.length) : ox_ints (hput h o X) (o + 7) ox_is0 = some ((X.2 6).map iI) := (oa_facts (oa_put hb)).2.2.2.2.2.2.2.2.2.2.2.2.2.2.2.2.2.2.2.2.2.2.2.2.2.2.2.2.2.2.1
theorem hp_j7 {h : ox_H} {o : Nat} {X : ol} (hb : o + 10 < h.length) : ox_ints (hput h o X) (o + 8) ox_is0 = some ((X.2 7).map iI) := (oa_facts (oa_put hb)).2.2.2.2.2.2.2.2.2.2.2.2.2.2.2.2.2.2.2.2.2.2.2.2.2.2.2.2.2.2.2.1
theorem hp_j8 {h : ox_H} {o : Nat} {X : ol} (hb : o + 10 < h.length) : ox_ints (hput h o X) (o + 9) ox_is0 = some ((X.2 8).map iI) := (oa_facts (oa_put hb)).2.2.2.2.2.2.2.2.2.2.2.2.2.2.2.2.2.2.2.2.2.2.2.2.2.2.2.2.2.2.2.2.1
theorem hp_j9 {h : ox_H} {o : Nat} {X : ol} (hb : o + 10 < h.length) : ox_ints (hput h o X) (o + 10) ox_is0 = some ((X.2 9).map iI) := (oa_facts (oa_put hb)).2.2.2.2.2.2.2.2.2.2.2.2.2.2.2.2.2.2.2.2.2.2.2.2.2.2.2.2.2.2.2.2.2
theorem hp_s0 {h : ox_H} {o : Nat} {X : ol} (hb : o + 10 < h.length) {l : List Int} : (hput h o X).set (o + 1) (.inl (0, l.map iI)) = hput h o (oset X 0 l) := gp_row (fun _ _ => rfl) hb (show 0 < 10 by decide)
theorem hp_s1 {h : ox_H} {o : Nat} {X : ol} (hb : o + 10 < h.length) {l : List Int} : (hput h o X).set (o + 2) (.inl (0, l.map iI)) = hput h o (oset X 1 l) := gp_row (fun _ _ => rfl) hb (show 1 < 10 by decide)
theorem hp_s2 {h : ox_H} {o : Nat} {X : ol} (hb : o + 10 < h.length) {l : List Int} : (hput h o X).set (o + 3) (.inl (0, l.map iI)) = hput h o (oset X 2 l) := gp_row (fun _ _ => rfl) hb (show 2 < 10 by decide)
theorem hp_s3 {h : ox_H} {o : Nat} {X : ol} (hb : o + 10 < h.length) {l : List Int} : (hput h o X).set (o + 4) (.inl (0, l.map iI)) = hput h o (oset X 3 l) := gp_row (fun _ _ => rfl) hb (show 3 < 10 by decide)
theorem hp_s4 {h : ox_H} {o : Nat} {X : ol} (hb : o + 10 < h.length) {l : List Int} : (hput h o X).set (o + 5) (.inl (0, l.map iI)) = hput h o (oset X 4 l) := gp_row (fun _ _ => rfl) hb (show 4 < 10 by decide)
theorem hp_s5 {h : ox_H} {o : Nat} {X : ol} (hb : o + 10 < h.length) {l : List Int} : (hput h o X).set (o + 6) (.inl (0, l.map iI)) = hput h o (oset X 5 l) := gp_row (fun _ _ => rfl) hb (show 5 < 10 by decide)
theorem hp_s6 {h : ox_H} {o : Nat} {X : ol} (hb : o + 10 < h.length) {l : List Int} : (hput h o X).set (o + 7) (.inl (0, l.map iI)) = hput h o (oset X 6 l) := gp_row (fun _ _ => rfl) hb (show 6 < 10 by decide)
theorem hp_s7 {h : ox_H} {o : Nat} {X : ol} (hb : o + 10 < h.length) {l : List Int} : (hput h o X).set (o + 8) (.inl (0, l.map iI)) = hput h o (oset X 7 l) := gp_row (fun _ _ => rfl) hb (show 7 < 10 by decide)
theorem hp_s8 {h : ox_H} {o : Nat} {X : ol} (hb : o + 10 < h.length) {l : List Int} : (hput h o X).set (o + 9) (.inl (0, l.map iI)) = hput h o (oset X 8 l) := gp_row (fun _ _ => rfl) hb (show 8 < 10 by decide)
theorem hp_s9 {h : ox_H} {o : Nat} {X : ol} (hb : o + 10 < h.length) {l : List Int} : (hput h o X).set (o + 10) (.inl (0, l.map iI)) = hput h o (oset X 9 l) := gp_row (fun _ _ => rfl) hb (show 9 < 10 by decide)
theorem hp_w0 {h : ox_H} {o : Nat} {X : ol} (hb : o + 10 < h.length) {v : Int} : (hput h o X).set o (.inr (1, (oa_fs o X).set 0 (.int (iI v)))) = hput h o (nset X 0 v) := gp_fld hb rfl
theorem hp_w9 {h : ox_H} {o : Nat} {X : ol} (hb : o + 10 < h.length) {v : Int} : (hput h o X).set o (.inr (1, (oa_fs o X).set 9 (.int (iI v)))) = hput h o (nset X 1 v) := gp_fld hb rfl
theorem hp_w10 {h : ox_H} {o : Nat} {X : ol} (hb : o + 10 < h.length) {v : Int} : (hput h o X).set o (.inr (1, (oa_fs o X).set 10 (.int (iI v)))) = hput h o (nset X 2 v) := gp_fld hb rfl
theorem mp_obj {h : ox_H} {o : Nat} {X : ol} (hb : o + 6 < h.length) : ox_obj (mput h o X) o 3 = some (ma_fs o X) := (ma_facts (ma_put hb)).1
theorem mp_f0 {h : ox_H} {o : Nat} {X : ol} (hb : o + 6 < h.length) : ox_fld (mput h o X) o 3 0 = some (.ref (o + 1)) := (ma_facts (ma_put hb)).2.1
theorem mp_f1 {h : ox_H} {o : Nat} {X : ol} (hb : o + 6 < h.length) : ox_fld (mput h o X) o 3 1 = some (.ref (o + 2)) := (ma_facts (ma_put hb)).2.2.1
theorem mp_f2 {h : ox_H} {o : Nat} {X : ol} (hb : o + 6 < h.length) : ox_fld (mput h o X) o 3 2 = some (.int (iI (X.1 0))) := (ma_facts (ma_put hb)).2.2.2.1
theorem mp_f3 {h : ox_H} {o : Nat} {X : ol} (hb : o + 6 < h.length) : ox_fld (mput h o X) o 3 3 = some (.ref (o + 3)) := (ma_facts (ma_put hb)).2.2.2.2.1
theorem mp_f4 {h : ox_H} {o : Nat} {X : ol} (hb : o + 6 < h.length) : ox_fld (mput h o X) o 3 4 = some (.int (iI (X.1 1))) := (ma_facts (ma_put hb)).2.2.2.2.2.1
theorem mp_f5 {h : ox_H} {o : Nat} {X : ol} (hb : o + 6 < h.length) : ox_fld (mput h o X) o 3 5 = some (.ref (o + 4)) := (ma_facts (ma_put hb)).2.2.2.2.2.2.1
theorem mp_f6 {h : ox_H} {o : Nat} {X : ol} (hb : o + 6 < h.length) : ox_fld (mput h o X) o 3 6 = some (.int (iI (X.1 2))) := (ma_facts (ma_put hb)).2.2.2.2.2.2.2.1
theorem mp_f7 {h : ox_H} {o : Nat} {X : ol} (hb : o + 6 < h.length) : ox_fld (mput h o X) o 3 7 = some (.ref (o + 5)) := (ma_facts (ma_put hb)).2.2.2.2.2.2.2.2.1
theorem mp_f8 {h : ox_H} {o : Nat} {X : ol} (hb : o + 6 < h.length) : ox_fld (mput h o X) o 3 8 = some (.ref (o + 6)) := (ma_facts (ma_put hb)).2.2.2.2.2.2.2.2.2.1
theorem mp_f9 {h : ox_H} {o : Nat} {X : ol} (hb : o + 6 < h.length) : ox_fld (mput h o X) o 3 9 = some (.int (iI (X.1 3))) := (ma_facts (ma_put hb)).2.2.2.2.2.2.2.2.2.2.1
theorem mp_i0 {h : ox_H} {o : Nat} {X : ol} (hb : o + 6 < h.length) : ox_ints (mput h o X) (o + 1) ox_isI = some ((X.2 0).map iI) := (ma_facts (ma_put hb)).2.2.2.2.2.2.2.2.2.2.2.1
theorem mp_i1 {h : ox_H} {o : Nat} {X : ol} (hb : o + 6 < h.length) : ox_ints (mput h o X) (o + 2) ox_isI = some ((X.2 1).map iI) := (ma_facts (ma_put hb)).2.2.2.2.2.2.2.2.2.2.2.2.1
theorem mp_i2 {h : ox_H} {o : Nat} {X : ol} (hb : o + 6 < h.length) : ox_ints (mput h o X) (o + 3) ox_isI = some ((X.2 2).map iI) := (ma_facts (ma_put hb)).2.2.2.2.2.2.2.2.2.2.2.2.2.1
theorem mp_i3 {h : ox_H} {o : Nat} {X : ol} (hb : o + 6 < h.length) : ox_ints (mput h o X) (o + 4) ox_isI = some ((X.2 3).map iI) := (ma_facts (ma_put hb)).2.2.2.2.2.2.2.2.2.2.2.2.2.2.1
theorem mp_i4 {h : ox_H} {o : Nat} {X : ol} (hb : o + 6 < h.length) : ox_ints (mput h o X) (o + 5) ox_isI = some ((X.2 4).map iI) := (ma_facts (ma_put hb)).2.2.2.2.2.2.2.2.2.2.2.2.2.2.2.1
theorem mp_i5 {h : ox_H} {o : Nat} {X : ol} (hb : o + 6 < h.length) : ox_ints (mput h o X) (o + 6) ox_isI = some ((X.2 5).map iI) := (ma_facts (ma_put hb)).2.2.2.2.2.2.2.2.2.2.2.2.2.2.2.2.1
theorem mp_j0 {h : ox_H} {o : Nat} {X : ol} (hb : o + 6 < h.length) : ox_ints (mput h o X) (o + 1) ox_is0 = some ((X.2 0).map iI) := (ma_facts (ma_put hb)).2.2.2.2.2.2.2.2.2.2.2.2.2.2.2.2.2.1
theorem mp_j1 {h : ox_H} {o : Nat} {X : ol} (hb : o + 6 < h.length) : ox_ints (mput h o X) (o + 2) ox_is0 = some ((X.2 1).map iI) := (ma_facts (ma_put hb)).2.2.2.2.2.2.2.2.2.2.2.2.2.2.2.2.2.2.1
theorem mp_j2 {h : ox_H} {o : Nat} {X : ol} (hb : o + 6 < h.length) : ox_ints (mput h o X) (o + 3) ox_is0 = some ((X.2 2).map iI) := (ma_facts (ma_put hb)).2.2.2.2.2.2.2.2.2.2.2.2.2.2.2.2.2.2.2.1
theorem mp_j3 {h : ox_H} {o : Nat} {X : ol} (hb : o + 6 < h.length) : ox_ints (mput h o X) (o + 4) ox_is0 = some ((X.2 3).map iI) := (ma_facts (ma_put hb)).2.2.2.2.2.2.2.2.2.2.2.2.2.2.2.2.2.2.2.2.1
theorem mp_j4 {h : ox_H} {o : Nat} {X : ol} (hb : o + 6 < h.length) : ox_ints (mput h o X) (o + 5) ox_is0 = some ((X.2 4).map iI) := (ma_facts (ma_put hb)).2.2.2.2.2.2.2.2.2.2.2.2.2.2.2.2.2.2.2.2.2.1
theorem mp_j5 {h : ox_H} {o : Nat} {X : ol} (hb : o + 6 < h.length) : ox_ints (mput h o X) (o + 6) ox_is0 = some ((X.2 5).map iI) := (ma_facts (ma_put hb)).2.2.2.2.2.2.2.2.2.2.2.2.2.2.2.2.2.2.2.2.2.2
theorem mp_s0 {h : ox_H} {o : Nat} {X : ol} (hb : o + 6 < h.length) {l : List Int} : (mput h o X).set (o + 1) (.inl (0, l.map iI)) = mput h o (oset X 0 l) := gp_row (fun _ _ => rfl) hb (show 0 < 6 by decide)
theorem mp_s1 {h : ox_H} {o : Nat} {X : ol} (hb : o + 6 < h.length) {l : List Int} : (mput h o X).set (o + 2) (.inl (0, l.map iI)) = mput h o (oset X 1 l) := gp_row (fun _ _ => rfl) hb (show 1 < 6 by decide)
theorem mp_s2 {h : ox_H} {o : Nat} {X : ol} (hb : o + 6 < h.length) {l : List Int} : (mput h o X).set (o + 3) (.inl (0, l.map iI)) = mput h o (oset X 2 l) := gp_row (fun _ _ => rfl) hb (show 2 < 6 by decide)
theorem mp_s3 {h : ox_H} {o : Nat} {X : ol} (hb : o + 6 < h.length) {l : List Int} : (mput h o X).set (o + 4) (.inl (0, l.map iI)) = mput h o (oset X 3 l) := gp_row (fun _ _ => rfl) hb (show 3 < 6 by decide)
theorem mp_s4 {h : ox_H} {o : Nat} {X : ol} (hb : o + 6 < h.length) {l : List Int} : (mput h o X).set (o + 5) (.inl (0, l.map iI)) = mput h o (oset X 4 l) := gp_row (fun _ _ => rfl) hb (show 4 < 6 by decide)
theorem mp_s5 {h : ox_H} {o : Nat} {X : ol} (hb : o + 6 < h.length) {l : List Int} : (mput h o X).set (o + 6) (.inl (0, l.map iI)) = mput h o (oset X 5 l) := gp_row (fun _ _ => rfl) hb (show 5 < 6 by decide)
theorem mp_w2 {h : ox_H} {o : Nat} {X : ol} (hb : o + 6 < h.length) {v : Int} : (mput h o X).set o (.inr (3, (ma_fs o X).set 2 (.int (iI v)))) = mput h o (nset X 0 v) := gp_fld hb rfl
theorem mp_w4 {h : ox_H} {o : Nat} {X : ol} (hb : o + 6 < h.length) {v : Int} : (mput h o X).set o (.inr (3, (ma_fs o X).set 4 (.int (iI v)))) = mput h o (nset X 1 v) := gp_fld hb rfl
theorem mp_w6 {h : ox_H} {o : Nat} {X : ol} (hb : o + 6 < h.length) {v : Int} : (mput h o X).set o (.inr (3, (ma_fs o X).set 6 (.int (iI v)))) = mput h o (nset X 2 v) := gp_fld hb rfl
theorem mp_w9 {h : ox_H} {o : Nat} {X : ol} (hb : o + 6 < h.length) {v : Int} : (mput h o X).set o (.inr (3, (ma_fs o X).set 9 (.int (iI v)))) = mput h o (nset X 3 v) := gp_fld hb rfl
