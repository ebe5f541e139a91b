/-! drag: the reference's lists. -/
def RLo (X : ol) (w : List Int) : Prop := w.length = 218 ∧ ig w 0 = X.1 0 ∧ (∀ p, 0 ≤ p → p < X.1 0 → ig w (1 + p) = ig (X.2 0) p) ∧ ∀ p, 0 ≤ p → p < X.1 0 → ig w (31 + ig (X.2 0) p) = ig (X.2 1) (ig (X.2 0) p)
theorem l3_many {h : ox_H} {m : Nat} {X Y : ol} (hM : MA h m Y) (hR : RLo X (Y.2 0)) (hV : vx X) : oe 85 0 [.ref m] [] h = some (some (.int (iI (X.1 0))), h) := by
  obtain ⟨mO, m0, m1, m2, m3, m4, m5, m6, m7, m8, m9, mi0, mi1, mi2, mi3, mi4, mi5, mj0, mj1, mj2, mj3, mj4, mj5⟩ := ma_facts hM
  obtain ⟨rl, r0, r1, r2⟩ := id hR
  simp (disch := omega) only [eX3_many_0, eX3_many_1, eX3_many_4, eX3_many_5, eX3_many_6, ox_O_s, ox_B_s, ox_g_t, ox_A_s, ox_push_s, ox_push_n, ox_some, ox_z0, ox_z1, iI_lt, iI_eq, iI_add, iI_sub, ig_at, if_true, if_false, if_pos, if_neg, mO, m0, m1, m2, m3, m4, m5, m6, m7, m8, m9, mi0, mi1, mi2, mi3, mi4, mi5, mj0, mj1, mj2, mj3, mj4, mj5, r0]
theorem l3_at {h : ox_H} {m : Nat} {X Y : ol} (hM : MA h m Y) (hR : RLo X (Y.2 0)) (hV : vx X) {p : Int} (h0 : 0 ≤ p) (h1 : p < X.1 0) : oe 86 0 [.ref m, .int (iI p)] [] h = some (some (.int (iI (ig (X.2 0) p))), h) := by
  obtain ⟨mO, m0, m1, m2, m3, m4, m5, m6, m7, m8, m9, mi0, mi1, mi2, mi3, mi4, mi5, mj0, mj1, mj2, mj3, mj4, mj5⟩ := ma_facts hM
  obtain ⟨rl, r0, r1, r2⟩ := id hR
  have hn := hV.2.1
  have e := r1 p h0 h1
  simp (disch := omega) only [eX3_at_0, eX3_at_1, eX3_at_4, eX3_at_5, eX3_at_6, eX3_at_7, eX3_at_8, ox_O_s, ox_B_s, ox_g_t, ox_A_s, ox_push_s, ox_push_n, ox_some, ox_z0, ox_z1, iI_lt, iI_eq, iI_add, iI_sub, ig_at, if_true, if_false, if_pos, if_neg, mO, m0, m1, m2, m3, m4, m5, m6, m7, m8, m9, mi0, mi1, mi2, mi3, mi4, mi5, mj0, mj1, mj2, mj3, mj4, mj5, e]
theorem l3_levelAt {h : ox_H} {m : Nat} {X Y : ol} (hM : MA h m Y) (hR : RLo X (Y.2 0)) (hV : vx X) {p : Int} (h0 : 0 ≤ p) (h1 : p < X.1 0) : oe 87 0 [.ref m, .int (iI p)] [] h = some (some (.int (iI (lvA X p))), h) := by
  have ha := l3_at hM hR hV h0 h1
  obtain ⟨mO, m0, m1, m2, m3, m4, m5, m6, m7, m8, m9, mi0, mi1, mi2, mi3, mi4, mi5, mj0, mj1, mj2, mj3, mj4, mj5⟩ := ma_facts hM
  obtain ⟨rl, r0, r1, r2⟩ := id hR
  have hb := hV.2.2.1 p h0 h1
  have e := r2 p h0 h1
  rw [lvA_in h0 h1]
  simp (disch := omega) only [eX3_levelAt_0, eX3_levelAt_1, eX3_levelAt_4, eX3_levelAt_6, eX3_levelAt_7, eX3_levelAt_8, eX3_levelAt_11, eX3_levelAt_12, eX3_levelAt_13, ox_O_s, ox_B_s, ox_g_t, ox_A_s, ox_push_s, ox_push_n, ox_some, ox_z0, ox_z1, iI_lt, iI_eq, iI_add, iI_sub, ig_at, if_true, if_false, if_pos, if_neg, mO, m0, m1, m2, m3, m4, m5, m6, m7, m8, m9, mi0, mi1, mi2, mi3, mi4, mi5, mj0, mj1, mj2, mj3, mj4, mj5, ha, e]
theorem l3_pf_loop {h : ox_H} {m : Nat} {X Y : ol} (hM : MA h m Y) (hR : RLo X (Y.2 0)) (hV : vx X) {p : Int} (h0 : 0 ≤ p) (h1 : p < X.1 0) : ∀ (k : Nat) (q : Int), 0 ≤ q → q + k = p → oe 89 2 [.ref m, .int (iI (ig (X.2 0) p)), .int (iI q)] [] h = some (some (.int (iI p)), h) := by
  have hm := l3_many hM hR hV
  obtain ⟨mO, m0, m1, m2, m3, m4, m5, m6, m7, m8, m9, mi0, mi1, mi2, mi3, mi4, mi5, mj0, mj1, mj2, mj3, mj4, mj5⟩ := ma_facts hM
  obtain ⟨vl, vn, vo, vi, va, vfst, vs, vz, vr, vc, vt, vm, vk⟩ := id hV
  have l0 : (X.2 0).length = 30 := vl 0 (by omega)
  have l1 : (X.2 1).length = 30 := vl 1 (by omega)
  have l2 : (X.2 2).length = 30 := vl 2 (by omega)
  have l3 : (X.2 3).length = 30 := vl 3 (by omega)
  have l4 : (X.2 4).length = 30 := vl 4 (by omega)
  have l5 : (X.2 5).length = 30 := vl 5 (by omega)
  have l6 : (X.2 6).length = 5 := vl 6 (by omega)
  have l7 : (X.2 7).length = 7 := vl 7 (by omega)
  have l8 : (X.2 8).length = 12 := vl 8 (by omega)
  have l9 : (X.2 9).length = 12 := vl 9 (by omega)
  intro k
  induction k with
  | zero =>
    intro q hq e
    have e : q = p := by omega
    subst e
    have ha := l3_at hM hR hV h0 h1
    have := vo q h0 h1
    rw [eX3_placeOf_2]
    simp (disch := omega) only [eX3_placeOf_0, eX3_placeOf_1, eX3_placeOf_3, eX3_placeOf_4, eX3_placeOf_7, eX3_placeOf_10, eX3_placeOf_11, eX3_placeOf_12, eX3_placeOf_15, eX3_placeOf_16, eX3_placeOf_19, eX3_placeOf_20, eX3_placeOf_21, eX3_placeOf_24, eX3_placeOf_27, eX3_placeOf_29, ox_O_s, ox_B_s, ox_g_t, ox_A_s, ox_push_s, ox_push_n, ox_some, ox_z0, ox_z1, iI_lt, iI_eq, iI_add, iI_sub, ig_at, if_true, if_false, if_pos, if_neg, mO, hm, ha]
  | succ k ih =>
    intro q hq e
    have b1 := vo q hq (by omega)
    have b2 := vo p h0 h1
    have ne : ¬ ig (X.2 0) q = ig (X.2 0) p := fun z => by
      have := vi q p hq (by omega) h0 h1 z
      omega
    have ha := l3_at hM hR hV hq (show q < X.1 0 by omega)
    rw [eX3_placeOf_2]
    simp (disch := omega) only [eX3_placeOf_0, eX3_placeOf_1, eX3_placeOf_3, eX3_placeOf_4, eX3_placeOf_7, eX3_placeOf_10, eX3_placeOf_11, eX3_placeOf_12, eX3_placeOf_15, eX3_placeOf_16, eX3_placeOf_19, eX3_placeOf_20, eX3_placeOf_21, eX3_placeOf_24, eX3_placeOf_27, eX3_placeOf_29, ox_O_s, ox_B_s, ox_g_t, ox_A_s, ox_push_s, ox_push_n, ox_some, ox_z0, ox_z1, iI_lt, iI_eq, iI_add, iI_sub, ig_at, if_true, if_false, if_pos, if_neg, mO, hm, ha, ne]
    exact ih (q + 1) (by omega) (by omega)
theorem l3_placeOf1 {h : ox_H} {m : Nat} {X Y : ol} (hM : MA h m Y) (hR : RLo X (Y.2 0)) (hV : vx X) {p : Int} (h0 : 0 ≤ p) (h1 : p < X.1 0) : oe 89 0 [.ref m, .int (iI (ig (X.2 0) p)), .null] [] h = some (some (.int (iI p)), h) := by
  have hl := l3_pf_loop hM hR hV h0 h1 p.toNat 0 (by omega) (by omega)
  simp (disch := omega) only [eX3_placeOf_0, eX3_placeOf_1, eX3_placeOf_3, eX3_placeOf_4, eX3_placeOf_7, eX3_placeOf_10, eX3_placeOf_11, eX3_placeOf_12, eX3_placeOf_15, eX3_placeOf_16, eX3_placeOf_19, eX3_placeOf_20, eX3_placeOf_21, eX3_placeOf_24, eX3_placeOf_27, eX3_placeOf_29, ox_O_s, ox_B_s, ox_g_t, ox_A_s, ox_push_s, ox_push_n, ox_some, ox_z0, ox_z1, iI_lt, iI_eq, iI_add, iI_sub, ig_at, if_true, if_false, if_pos, if_neg]
  exact hl
theorem l3_end_loop {h : ox_H} {m : Nat} {X Y : ol} (hM : MA h m Y) (hR : RLo X (Y.2 0)) (hV : vx X) {p : Int} (p0 : 0 ≤ p) (p1 : p < X.1 0) : ∀ (k : Nat) (e : Int), 0 ≤ e → e ≤ X.1 0 → X.1 0 - e < k → oe 91 4 [.ref m, .int (iI p), .int (iI e)] [] h = some (some (.int (iI (eP (lvA X) (X.1 0) (lvA X p) k e))), h) := by
  have hm := l3_many hM hR hV
  have hlp := l3_levelAt hM hR hV p0 p1
  have hbp := lvA_b hV p
  obtain ⟨mO, m0, m1, m2, m3, m4, m5, m6, m7, m8, m9, mi0, mi1, mi2, mi3, mi4, mi5, mj0, mj1, mj2, mj3, mj4, mj5⟩ := ma_facts hM
  obtain ⟨vl, vn, vo, vi, va, vfst, vs, vz, vr, vc, vt, vm, vk⟩ := id hV
  have l0 : (X.2 0).length = 30 := vl 0 (by omega)
  have l1 : (X.2 1).length = 30 := vl 1 (by omega)
  have l2 : (X.2 2).length = 30 := vl 2 (by omega)
  have l3 : (X.2 3).length = 30 := vl 3 (by omega)
  have l4 : (X.2 4).length = 30 := vl 4 (by omega)
  have l5 : (X.2 5).length = 30 := vl 5 (by omega)
  have l6 : (X.2 6).length = 5 := vl 6 (by omega)
  have l7 : (X.2 7).length = 7 := vl 7 (by omega)
  have l8 : (X.2 8).length = 12 := vl 8 (by omega)
  have l9 : (X.2 9).length = 12 := vl 9 (by omega)
  intro k
  induction k with
  | zero => intro e a b c; omega
  | succ k ih =>
    intro e a b c
    rw [eX3_endOf_4]
    unfold eP
    by_cases c1 : e < X.1 0
    · have hl := l3_levelAt hM hR hV a c1
      have hb := lvA_b hV e
      by_cases c2 : lvA X p < lvA X e
      · rw [if_pos ⟨c1, c2⟩]
        simp (disch := omega) only [eX3_endOf_0, eX3_endOf_1, eX3_endOf_2, eX3_endOf_3, eX3_endOf_5, eX3_endOf_6, eX3_endOf_9, eX3_endOf_12, eX3_endOf_13, eX3_endOf_14, eX3_endOf_17, eX3_endOf_18, eX3_endOf_19, eX3_endOf_22, eX3_endOf_25, eX3_endOf_28, eX3_endOf_31, eX3_endOf_32, ox_O_s, ox_B_s, ox_g_t, ox_A_s, ox_push_s, ox_push_n, ox_some, ox_z0, ox_z1, iI_lt, iI_eq, iI_add, iI_sub, ig_at, if_true, if_false, if_pos, if_neg, mO, hm, hl, hlp]
        exact ih (e + 1) (by omega) (by omega) (by omega)
      · rw [if_neg (fun z => c2 z.2)]
        simp (disch := omega) only [eX3_endOf_0, eX3_endOf_1, eX3_endOf_2, eX3_endOf_3, eX3_endOf_5, eX3_endOf_6, eX3_endOf_9, eX3_endOf_12, eX3_endOf_13, eX3_endOf_14, eX3_endOf_17, eX3_endOf_18, eX3_endOf_19, eX3_endOf_22, eX3_endOf_25, eX3_endOf_28, eX3_endOf_31, eX3_endOf_32, ox_O_s, ox_B_s, ox_g_t, ox_A_s, ox_push_s, ox_push_n, ox_some, ox_z0, ox_z1, iI_lt, iI_eq, iI_add, iI_sub, ig_at, if_true, if_false, if_pos, if_neg, mO, hm, hl, hlp]
    · rw [if_neg (fun z => c1 z.1)]
      simp (disch := omega) only [eX3_endOf_0, eX3_endOf_1, eX3_endOf_2, eX3_endOf_3, eX3_endOf_5, eX3_endOf_6, eX3_endOf_9, eX3_endOf_12, eX3_endOf_13, eX3_endOf_14, eX3_endOf_17, eX3_endOf_18, eX3_endOf_19, eX3_endOf_22, eX3_endOf_25, eX3_endOf_28, eX3_endOf_31, eX3_endOf_32, ox_O_s, ox_B_s, ox_g_t, ox_A_s, ox_push_s, ox_push_n, ox_some, ox_z0, ox_z1, iI_lt, iI_eq, iI_add, iI_sub, ig_at, if_true, if_false, if_pos, if_neg, mO, hm]
theorem l3_endOf {h : ox_H} {m : Nat} {X Y : ol} (hM : MA h m Y) (hR : RLo X (Y.2 0)) (hV : vx X) {p : Int} (p0 : 0 ≤ p) (p1 : p < X.1 0) : oe 91 0 [.ref m, .int (iI p), .null] [] h = some (some (.int (iI (enX X p))), h) := by
  have hn := hV.2.1
  have hk := l3_end_loop hM hR hV p0 p1 31 (p + 1) (by omega) (by omega) (by omega)
  simp (disch := omega) only [eX3_endOf_0, eX3_endOf_1, eX3_endOf_2, eX3_endOf_3, eX3_endOf_5, eX3_endOf_6, eX3_endOf_9, eX3_endOf_12, eX3_endOf_13, eX3_endOf_14, eX3_endOf_17, eX3_endOf_18, eX3_endOf_19, eX3_endOf_22, eX3_endOf_25, eX3_endOf_28, eX3_endOf_31, eX3_endOf_32, ox_O_s, ox_B_s, ox_g_t, ox_A_s, ox_push_s, ox_push_n, ox_some, ox_z0, ox_z1, iI_lt, iI_eq, iI_add, iI_sub, ig_at, if_true, if_false, if_pos, if_neg]
  exact hk
theorem en_uniq {X : ol} (hV : vx X) {p E : Int} (p0 : 0 ≤ p) (p1 : p < X.1 0) (h1 : p + 1 ≤ E) (h2 : E ≤ X.1 0) (h3 : ∀ q, p + 1 ≤ q → q < E → lvA X p < lvA X q) (h4 : E < X.1 0 → lvA X E ≤ lvA X p) : enX X p = E := by
  have hb := enX_b (X := X) p1
  have he := enX_end hV p0 p1
  by_cases c : enX X p < E
  · have := h3 _ hb.1 c
    exact absurd ⟨by omega, this⟩ he
  · by_cases c2 : E < enX X p
    · have := (enX_in (X := X) (p := p) (q := E) h1 c2).2
      have := h4 (by omega)
      omega
    · omega
theorem cut_lvA {X : ol} (hV : vx X) {f t : Int} (f0 : 0 ≤ f) (f1 : f ≤ t) (t1 : t ≤ X.1 0) {q : Int} (q0 : 0 ≤ q) (q1 : q < X.1 0 - (t - f)) : lvA (cuX X f t) q = lvA X (cuS' f (t - f) q) := by
  have hq : 0 ≤ cuS' f (t - f) q ∧ cuS' f (t - f) q < X.1 0 := by unfold cuS'; split <;> omega
  rw [lvA_in (X := cuX X f t) q0 q1, cut_od (hV.1 0 (by decide)) hV.2.1.2 f0 f1 t1 q0 q1, cut_lv hV f0 f1 t1 q0 q1, lvA_in hq.1 hq.2]
theorem cut_out {X : ol} {f t q : Int} (h : q < 0 ∨ X.1 0 - (t - f) ≤ q) : lvA (cuX X f t) q = 0 := if_neg (by show ¬ (0 ≤ q ∧ q < X.1 0 - (t - f)); omega)
/-- where a dragged list takes its headings from -/
def dS (p s P q : Int) : Int := if q < P then cuS' p s q else if q < P + s then p + (q - P) else cuS' p s (q - s)
def dI (p s P r : Int) : Int := if p ≤ r ∧ r < p + s then P + (r - p) else if (if r < p then r else r - s) < P then (if r < p then r else r - s) else (if r < p then r else r - s) + s
theorem dS_dI {p s P r : Int} (s0 : 0 ≤ s) : dS p s P (dI p s P r) = r := by
  unfold dI dS cuS'
  by_cases c1 : p ≤ r ∧ r < p + s
  · rw [if_pos c1, if_neg (by omega), if_pos (by omega)]; omega
  · rw [if_neg c1]
    by_cases c2 : r < p
    · simp only [if_pos c2]
      by_cases c3 : r < P
      · simp only [if_pos c3, if_pos c2]
      · simp only [if_neg c3]
        rw [if_neg (by omega), if_neg (by omega), if_pos (by omega)]; omega
    · simp only [if_neg c2]
      by_cases c3 : r - s < P
      · simp only [if_pos c3]
        rw [if_neg (by omega)]; omega
      · simp only [if_neg c3]
        rw [if_neg (by omega), if_neg (by omega), if_neg (by omega)]; omega
theorem dI_b {p s P r n : Int} (p0 : 0 ≤ p) (s0 : 0 ≤ s) (ps : p + s ≤ n) (P0 : 0 ≤ P) (P1 : P ≤ n - s) (r0 : 0 ≤ r) (r1 : r < n) : 0 ≤ dI p s P r ∧ dI p s P r < n := by
  unfold dI
  by_cases c1 : p ≤ r ∧ r < p + s
  · rw [if_pos c1]; omega
  · rw [if_neg c1]
    by_cases c2 : r < p
    · simp only [if_pos c2]
      split <;> omega
    · simp only [if_neg c2]
      split <;> omega
theorem dS_b {p s P q n : Int} (p0 : 0 ≤ p) (s0 : 0 ≤ s) (ps : p + s ≤ n) (P0 : 0 ≤ P) (P1 : P ≤ n - s) (q0 : 0 ≤ q) (q1 : q < n) : 0 ≤ dS p s P q ∧ dS p s P q < n := by
  unfold dS cuS'
  split
  · split <;> omega
  · split
    · omega
    · split <;> omega
theorem dS_inj {p s P q r : Int} (s0 : 0 ≤ s) (e : dS p s P q = dS p s P r) : q = r := by
  unfold dS cuS' at e
  by_cases a1 : q < P
  · rw [if_pos a1] at e
    by_cases b1 : r < P
    · rw [if_pos b1] at e
      split at e <;> split at e <;> omega
    · rw [if_neg b1] at e
      by_cases b2 : r < P + s
      · rw [if_pos b2] at e
        split at e <;> omega
      · rw [if_neg b2] at e
        split at e <;> split at e <;> omega
  · rw [if_neg a1] at e
    by_cases a2 : q < P + s
    · rw [if_pos a2] at e
      by_cases b1 : r < P
      · rw [if_pos b1] at e
        split at e <;> omega
      · rw [if_neg b1] at e
        by_cases b2 : r < P + s
        · rw [if_pos b2] at e; omega
        · rw [if_neg b2] at e
          split at e <;> omega
    · rw [if_neg a2] at e
      by_cases b1 : r < P
      · rw [if_pos b1] at e
        split at e <;> split at e <;> omega
      · rw [if_neg b1] at e
        by_cases b2 : r < P + s
        · rw [if_pos b2] at e
          split at e <;> omega
        · rw [if_neg b2] at e
          split at e <;> split at e <;> omega
theorem vx_drag {X : ol} (hV : vx X) {p b P : Int} {l : List Int} (p0 : 0 ≤ p) (p1 : p < X.1 0) (hl : l.length = 30) (P0 : 0 ≤ P) (P1 : P ≤ X.1 0 - (enX X p - p)) (ho : ∀ q, 0 ≤ q → q < X.1 0 → ig l q = ig (X.2 0) (dS p (enX X p - p) P q)) (hL : ∀ q, p ≤ q → q < enX X p → 1 ≤ lvA X q + b ∧ lvA X q + b ≤ 6) (h1 : lvA X p + b ≤ lvA (cuX X p (enX X p)) (P - 1) + 1) (h2 : lvA (cuX X p (enX X p)) P ≤ lvA X p + b + 1) : vx (oset (slX X p (enX X p) b) 0 l) := by
  have hn := hV.2.1
  have hb := enX_b (X := X) p1
  have hV1 := vx_cut hV p0 (show p < enX X p by omega) hb.2 (fun c => en_end hV p0 p1 c)
  have n1 : (cuX X p (enX X p)).1 0 = X.1 0 - (enX X p - p) := rfl
  have sb := fun q (a : 0 ≤ q) (c : q < X.1 0) => dS_b (P := P) p0 (show 0 ≤ enX X p - p by omega) (show p + (enX X p - p) ≤ X.1 0 by omega) P0 P1 a c
  have mem : ∀ z, (∃ r, 0 ≤ r ∧ r < X.1 0 ∧ ig (X.2 0) r = z) → ∃ q, 0 ≤ q ∧ q < X.1 0 ∧ ig l q = z := by
    intro z ⟨r, r0, r1, e⟩
    have hd := dI_b (P := P) p0 (show 0 ≤ enX X p - p by omega) (show p + (enX X p - p) ≤ X.1 0 by omega) P0 P1 r0 r1
    refine ⟨_, hd.1, hd.2, ?_⟩
    rw [ho _ hd.1 hd.2, dS_dI (by omega)]
    exact e
  have lev : ∀ q, 0 ≤ q → q < X.1 0 → ig ((slX X p (enX X p) b).2 1) (ig l q) = if p ≤ dS p (enX X p - p) P q ∧ dS p (enX X p - p) P q < enX X p then lvA X (dS p (enX X p - p) P q) + b else lvA X (dS p (enX X p - p) P q) := fun q a c => by
    rw [ho q a c, sl_lv hV p0 hb.2 (sb q a c).1 (sb q a c).2]
  have LA : ∀ q, 0 ≤ q → q < P → ig ((slX X p (enX X p) b).2 1) (ig l q) = lvA (cuX X p (enX X p)) q := fun q a c => by
    rw [lev q a (by omega), cut_lvA hV p0 (by omega) hb.2 a (by omega), show dS p (enX X p - p) P q = cuS' p (enX X p - p) q from if_pos c, if_neg (by unfold cuS'; split <;> omega)]
  have LB : ∀ q, P ≤ q → q < P + (enX X p - p) → ig ((slX X p (enX X p) b).2 1) (ig l q) = lvA X (p + (q - P)) + b := fun q a c => by
    rw [lev q (by omega) (by omega), show dS p (enX X p - p) P q = p + (q - P) by unfold dS; rw [if_neg (by omega), if_pos c], if_pos (by omega)]
  have LC : ∀ q, P + (enX X p - p) ≤ q → q < X.1 0 → ig ((slX X p (enX X p) b).2 1) (ig l q) = lvA (cuX X p (enX X p)) (q - (enX X p - p)) := fun q a c => by
    rw [lev q (by omega) c, cut_lvA hV p0 (by omega) hb.2 (by omega) (by omega), show dS p (enX X p - p) P q = cuS' p (enX X p - p) (q - (enX X p - p)) by unfold dS; rw [if_neg (by omega), if_neg (by omega)], if_neg (by unfold cuS'; split <;> omega)]
  refine vx_move hV (dS p (enX X p - p) P) (fun k hk => ?_) hn (fun q a c => sb q a c) (fun q r _ _ _ _ e => dS_inj (by omega) e) ho rfl rfl rfl rfl rfl rfl rfl (fun q a c => ?_) (fun a => ?_) (fun q a c => ?_) (fun k k0 k1 hk => ?_) hV.2.2.2.2.2.2.2.2.2.2.2.1 (fun k k0 k1 => ?_)
  · by_cases z : k = 0
    · subst z
      show l.length = 30
      exact hl
    · by_cases z1 : k = 1
      · subst z1
        show (slF (X.2 0) b (enX X p - p).toNat p (X.2 1)).length = _
        rw [slF_len]
        exact hV.1 1 hk
      · show (if k = 0 then l else if k = 1 then _ else X.2 k).length = _
        rw [if_neg z, if_neg z1]
        exact hV.1 k hk
  · show 1 ≤ ig ((slX X p (enX X p) b).2 1) (ig l q) ∧ ig ((slX X p (enX X p) b).2 1) (ig l q) ≤ 6
    have c : q < X.1 0 := c
    rw [lev q a c]
    split
    · rename_i z; exact hL _ z.1 z.2
    · exact lv_in hV (sb q a c).1 (sb q a c).2
  · show ig ((slX X p (enX X p) b).2 1) (ig l 0) = 1
    have a : 0 < X.1 0 := a
    by_cases c : P = 0
    · rw [LB 0 (by omega) (by omega), show p + (0 - P) = p by omega]
      rw [c, cut_out (by omega)] at h1
      have := (hL p (by omega) (by omega)).1
      omega
    · rw [LA 0 (by omega) (by omega)]
      exact lv_0 hV1 (by rw [n1]; omega)
  · show ig ((slX X p (enX X p) b).2 1) (ig l (q + 1)) ≤ ig ((slX X p (enX X p) b).2 1) (ig l q) + 1
    have c : q + 1 < X.1 0 := c
    by_cases c1 : q + 1 < P
    · rw [LA q a (by omega), LA (q + 1) (by omega) c1]
      exact lv_step hV1 a (by rw [n1]; omega)
    · by_cases c2 : q + 1 = P
      · rw [LA q a (by omega), LB (q + 1) (by omega) (by omega), show p + (q + 1 - P) = p by omega]
        rw [show P - 1 = q by omega] at h1
        exact h1
      · by_cases c3 : q + 1 < P + (enX X p - p)
        · rw [LB q (by omega) (by omega), LB (q + 1) (by omega) c3, show p + (q + 1 - P) = p + (q - P) + 1 by omega]
          have := lv_step hV (r := p + (q - P)) (by omega) (by omega)
          omega
        · by_cases c4 : q + 1 = P + (enX X p - p)
          · rw [LB q (by omega) (by omega), LC (q + 1) (by omega) (by omega), show q + 1 - (enX X p - p) = P by omega]
            have := en_lv hV p0 (q := p + (q - P)) (by omega) (by omega)
            omega
          · rw [LC q (by omega) (by omega), LC (q + 1) (by omega) (by omega), show q + 1 - (enX X p - p) = q - (enX X p - p) + 1 by omega]
            exact lv_step hV1 (by omega) (by rw [n1]; omega)
  · refine sl_z hV p0 hb.2 k0 k1 (fun r r0 r1 u => ?_)
    obtain ⟨q, a, c, e⟩ := mem k ⟨r, r0, r1, u⟩
    exact hk q a c e
  · obtain ⟨a, c⟩ := hV.2.2.2.2.2.2.2.2.2.2.2.2 k k0 k1
    refine ⟨mem _ a, ?_⟩
    rcases c with c | c
    · exact Or.inl c
    · exact Or.inr (mem _ c)
theorem rel_drag {X : ol} {w w0 w' : List Int} (hV : vx X) (hR : Rel X w) {p b P : Int} {l : List Int} (p0 : 0 ≤ p) (p1 : p < X.1 0) (P0 : 0 ≤ P) (P1 : P ≤ X.1 0 - (enX X p - p)) (ho : ∀ q, 0 ≤ q → q < X.1 0 → ig l q = ig (X.2 0) (dS p (enX X p - p) P q)) (hW : SLW X p (enX X p) b w w0) (wl : w'.length = 218) (hc : ig w' 0 = X.1 0) (hw1 : ∀ q, 0 ≤ q → q < X.1 0 → ig w' (1 + q) = ig (X.2 0) (dS p (enX X p - p) P q)) (hw2 : ∀ i, 31 ≤ i → ig w' i = ig w0 i) : Rel (oset (slX X p (enX X p) b) 0 l) w' := by
  have hn := hV.2.1
  have hm := hV.2.2.2.2.2.2.2.2.2.2.2.1
  have hb := enX_b (X := X) p1
  have sb := fun q (a : 0 ≤ q) (c : q < X.1 0) => dS_b (P := P) p0 (show 0 ≤ enX X p - p by omega) (show p + (enX X p - p) ≤ X.1 0 by omega) P0 P1 a c
  have hh := fun i hi hi' => SLW_hi hV hW p0 hb.2 (i := i) hi hi'
  refine rel_move hR hV (dS p (enX X p - p) P) (fun q a c => sb q a c) ho rfl rfl rfl rfl rfl rfl rfl hc (fun q a c => ?_) (fun q a c => ?_) (fun i i0 i1 => ?_) ⟨wl, ?_, fun k k0 k1 => ?_⟩
  · show ig w' (1 + q) = ig l q
    have c : q < X.1 0 := c
    rw [ho q a c, hw1 q a c]
  · show ig w' (31 + ig l q) = ig ((slX X p (enX X p) b).2 1) (ig l q)
    have c : q < X.1 0 := c
    have hoo := hV.2.2.1 _ (sb q a c).1 (sb q a c).2
    rw [ho q a c, hw2 _ (by omega), SLW_lv hV hR hW p0 hb.2 (sb q a c).1 (sb q a c).2, sl_lv hV p0 hb.2 (sb q a c).1 (sb q a c).2]
  · rw [hw2 _ (by omega), hh _ (by omega) (by omega)]
  · rw [hw2 _ (by omega), hh _ (by omega) (by omega)]; exact hR.2.2.2.2.2.2.2.1
  · have k1 : k < X.1 2 := k1
    rw [hw2 _ (by omega), hh _ (by omega) (by omega), hw2 _ (by omega), hh _ (by omega) (by omega)]; exact hR.2.2.2.2.2.2.2.2.1 k k0 k1
theorem os_comm {X : ol} {a b : Nat} (h : a ≠ b) {l l' : List Int} : oset (oset X a l) b l' = oset (oset X b l') a l := by
  unfold oset
  congr 1
  funext j
  show (if j = b then l' else if j = a then l else X.2 j) = (if j = a then l else if j = b then l' else X.2 j)
  by_cases c : j = b
  · rw [if_pos c]
    by_cases c2 : j = a
    · omega
    · rw [if_neg c2, if_pos c]
  · rw [if_neg c, if_neg c]
theorem k3_dA {h : ox_H} {m : Nat} {Y : ol} (hb : m + 6 < h.length) (hw : (Y.2 0).length = 218) {p e s : Int} (p0 : 0 ≤ p) (ps : p + s ≤ 30) (u1 u2 u3 u6 u7 u8 u11 u12 : Value) : ∀ (k : Nat) (i : Int) (l : List Int), 0 ≤ i → i + k = s → l.length = 30 → oe 107 168 [.ref m, u1, u2, u3, .int (iI p), .int (iI e), u6, u7, u8, .int (iI s), .int (iI i), u11, u12] [] (mput h m (oset Y 4 l)) = oe 107 197 [.ref m, u1, u2, u3, .int (iI p), .int (iI e), u6, u7, u8, .int (iI s), .int (iI s), u11, u12] [] (mput h m (oset Y 4 (cqF (Y.2 0) (1 + p) 0 k i l))) := by
  intro k
  induction k with
  | zero =>
    intro i l a c hl
    rw [eX3_drag_168, show i = s by omega]
    simp (maxSteps := 1000000) (disch := omega) only [eX3_drag_170, eX3_drag_172, ox_O_s, ox_B_s, ox_g_t, ox_A_s, ox_push_s, ox_push_n, ox_some, ox_z0, ox_z1, iI_lt, iI_eq, iI_add, iI_sub, ig_at, if_true, if_false, if_pos, if_neg]
    rfl
  | succ k ih =>
    intro i l a c hl
    have hat := k3_at' (Y := oset Y 4 l) hb hw (p := p + i) (by omega) (by omega)
    rw [os_2, if_neg (by decide)] at hat
    have i1 := ih (i + 1) (iu l (0 + i) (ig (Y.2 0) (1 + p + i))) (by omega) (by omega) (by rw [iu_len]; exact hl)
    unfold cqF
    rw [← i1, eX3_drag_168, Int.zero_add, show 1 + p + i = 1 + (p + i) by omega]
    simp (maxSteps := 1000000) (disch := omega) only [eX3_drag_170, eX3_drag_172, eX3_drag_175, eX3_drag_176, eX3_drag_179, eX3_drag_181, eX3_drag_182, eX3_drag_184, eX3_drag_186, eX3_drag_187, eX3_drag_190, eX3_drag_191, eX3_drag_194, ox_O_s, ox_B_s, ox_g_t, ox_A_s, ox_push_s, ox_push_n, ox_some, ox_z0, ox_z1, iI_lt, iI_eq, iI_add, iI_sub, ig_at, if_true, if_false, if_pos, if_neg, ig_set, mp_obj, mp_f0, mp_f1, mp_f2, mp_f3, mp_f4, mp_f5, mp_f6, mp_f7, mp_f8, mp_f9, mp_i0, mp_i1, mp_i2, mp_i3, mp_i4, mp_i5, mp_j0, mp_j1, mp_j2, mp_j3, mp_j4, mp_j5, mp_s0, mp_s1, mp_s2, mp_s3, mp_s4, mp_s5, mp_w2, mp_w4, mp_w6, mp_w9, oa_gl, ma_gl, os_2, os_1, ns_1, ns_2, os_os, ns_ns, hat]
theorem k3_dB {h : ox_H} {m : Nat} {Y : ol} (hb : m + 6 < h.length) {p e s n : Int} (s0 : 0 ≤ s) (se : s ≤ e) (n1 : n ≤ 30) (u1 u2 u3 u6 u7 u8 u11 u12 : Value) : ∀ (k : Nat) (q : Int) (w : List Int), e ≤ q → q + k = n → w.length = 218 → ig w 0 = n → oe 107 201 [.ref m, u1, u2, u3, .int (iI p), .int (iI e), u6, u7, u8, .int (iI s), .int (iI q), u11, u12] [] (mput h m (oset Y 0 w)) = oe 107 234 [.ref m, u1, u2, u3, .int (iI p), .int (iI e), u6, u7, u8, .int (iI s), .int (iI n), u11, u12] [] (mput h m (oset Y 0 (mcF s k q w))) := by
  intro k
  induction k with
  | zero =>
    intro q w a c hl hn
    have hm := k3_many' (Y := oset Y 0 w) hb hl
    rw [os_2, if_pos rfl, hn] at hm
    rw [eX3_drag_201, show q = n by omega]
    simp (maxSteps := 1000000) (disch := omega) only [eX3_drag_203, eX3_drag_204, eX3_drag_207, ox_O_s, ox_B_s, ox_g_t, ox_A_s, ox_push_s, ox_push_n, ox_some, ox_z0, ox_z1, iI_lt, iI_eq, iI_add, iI_sub, ig_at, if_true, if_false, if_pos, if_neg, ig_set, mp_obj, mp_f0, mp_f1, mp_f2, mp_f3, mp_f4, mp_f5, mp_f6, mp_f7, mp_f8, mp_f9, mp_i0, mp_i1, mp_i2, mp_i3, mp_i4, mp_i5, mp_j0, mp_j1, mp_j2, mp_j3, mp_j4, mp_j5, mp_s0, mp_s1, mp_s2, mp_s3, mp_s4, mp_s5, mp_w2, mp_w4, mp_w6, mp_w9, oa_gl, ma_gl, os_2, os_1, ns_1, ns_2, os_os, ns_ns, hm]
    rfl
  | succ k ih =>
    intro q w a c hl hn
    have hm := k3_many' (Y := oset Y 0 w) hb hl
    rw [os_2, if_pos rfl, hn] at hm
    have hat := k3_at' (Y := oset Y 0 w) hb hl (p := q) (by omega) (by omega)
    rw [os_2, if_pos rfl] at hat
    have i1 := ih (q + 1) (iu w (1 + (q - s)) (ig w (1 + q))) (by omega) (by omega) (by rw [iu_len]; exact hl) (by rw [ig_ne (by omega) (by omega) (by omega)]; exact hn)
    unfold mcF
    rw [← i1, eX3_drag_201, show 1 + (q - s) = 1 + q - s by omega]
    simp (maxSteps := 1000000) (disch := omega) only [eX3_drag_203, eX3_drag_204, eX3_drag_207, eX3_drag_210, eX3_drag_211, eX3_drag_214, eX3_drag_215, eX3_drag_217, eX3_drag_218, eX3_drag_220, eX3_drag_221, eX3_drag_222, eX3_drag_224, eX3_drag_227, eX3_drag_228, eX3_drag_231, ox_O_s, ox_B_s, ox_g_t, ox_A_s, ox_push_s, ox_push_n, ox_some, ox_z0, ox_z1, iI_lt, iI_eq, iI_add, iI_sub, ig_at, if_true, if_false, if_pos, if_neg, ig_set, mp_obj, mp_f0, mp_f1, mp_f2, mp_f3, mp_f4, mp_f5, mp_f6, mp_f7, mp_f8, mp_f9, mp_i0, mp_i1, mp_i2, mp_i3, mp_i4, mp_i5, mp_j0, mp_j1, mp_j2, mp_j3, mp_j4, mp_j5, mp_s0, mp_s1, mp_s2, mp_s3, mp_s4, mp_s5, mp_w2, mp_w4, mp_w6, mp_w9, oa_gl, ma_gl, os_2, os_1, ns_1, ns_2, os_os, ns_ns, hm, hat]
def mvF (s : Int) : Nat → Int → List Int → List Int
  | 0, _, w => w
  | k + 1, q, w => mvF s k (q - 1) (iu w (1 + q + s) (ig w (1 + q)))
theorem mvF_len {s : Int} : ∀ (k : Nat) (q : Int) (w : List Int), (mvF s k q w).length = w.length
  | 0, _, _ => rfl
  | k + 1, q, w => by unfold mvF; rw [mvF_len k, iu_len]
theorem mvF_ig {s : Int} (s0 : 0 ≤ s) : ∀ (k : Nat) (q : Int) (w : List Int) (r : Int), -1 ≤ q - k → q + s < 30 → w.length = 218 → 0 ≤ r → ig (mvF s k q w) r = if 1 + (q - k) + s < r ∧ r ≤ 1 + q + s then ig w (r - s) else ig w r
  | 0, q, w, r, _, _, _, _ => by rw [if_neg (by omega)]; rfl
  | k + 1, q, w, r, h0, h1, hl, r0 => by
    unfold mvF
    rw [mvF_ig s0 k (q - 1) _ r (by omega) (by omega) (by rw [iu_len]; exact hl) r0]
    by_cases c : 1 + (q - 1 - k) + s < r ∧ r ≤ 1 + (q - 1) + s
    · rw [if_pos c, if_pos (by omega), ig_ne (by omega) (by omega) (by omega)]
    · rw [if_neg c]
      by_cases e : r = 1 + q + s
      · rw [if_pos (by omega), e, ig_self (by omega) (by omega)]
        exact congrArg (ig w) (by omega)
      · rw [if_neg (by omega), ig_ne (by omega) r0 (by omega)]
theorem k3_dC {h : ox_H} {m : Nat} {Y : ol} (hb : m + 6 < h.length) {p e s P : Int} (s0 : 0 ≤ s) (P0 : 0 ≤ P) (u1 u2 u3 u6 u7 u8 u10 : Value) : ∀ (k : Nat) (q : Int) (w : List Int), q = P - 1 + k → q + s < 30 → w.length = 218 → oe 107 289 [.ref m, u1, u2, u3, .int (iI p), .int (iI e), u6, u7, u8, .int (iI s), u10, .int (iI P), .int (iI q)] [] (mput h m (oset Y 0 w)) = oe 107 320 [.ref m, u1, u2, u3, .int (iI p), .int (iI e), u6, u7, u8, .int (iI s), u10, .int (iI P), .int (iI (P - 1))] [] (mput h m (oset Y 0 (mvF s k q w))) := by
  intro k
  induction k with
  | zero =>
    intro q w c q1 hl
    rw [eX3_drag_289, show q = P - 1 by omega]
    simp (maxSteps := 1000000) (disch := omega) only [eX3_drag_291, eX3_drag_293, ox_O_s, ox_B_s, ox_g_t, ox_A_s, ox_push_s, ox_push_n, ox_some, ox_z0, ox_z1, iI_lt, iI_eq, iI_add, iI_sub, ig_at, if_true, if_false, if_pos, if_neg]
    rfl
  | succ k ih =>
    intro q w c q1 hl
    have hat := k3_at' (Y := oset Y 0 w) hb hl (p := q) (by omega) (by omega)
    rw [os_2, if_pos rfl] at hat
    have i1 := ih (q - 1) (iu w (1 + q + s) (ig w (1 + q))) (by omega) (by omega) (by rw [iu_len]; exact hl)
    unfold mvF
    rw [← i1, eX3_drag_289]
    simp (maxSteps := 1000000) (disch := omega) only [eX3_drag_291, eX3_drag_293, eX3_drag_296, eX3_drag_297, eX3_drag_300, eX3_drag_301, eX3_drag_303, eX3_drag_304, eX3_drag_306, eX3_drag_307, eX3_drag_308, eX3_drag_310, eX3_drag_313, eX3_drag_314, eX3_drag_317, ox_O_s, ox_B_s, ox_g_t, ox_A_s, ox_push_s, ox_push_n, ox_some, ox_z0, ox_z1, iI_lt, iI_eq, iI_add, iI_sub, ig_at, if_true, if_false, if_pos, if_neg, ig_set, mp_obj, mp_f0, mp_f1, mp_f2, mp_f3, mp_f4, mp_f5, mp_f6, mp_f7, mp_f8, mp_f9, mp_i0, mp_i1, mp_i2, mp_i3, mp_i4, mp_i5, mp_j0, mp_j1, mp_j2, mp_j3, mp_j4, mp_j5, mp_s0, mp_s1, mp_s2, mp_s3, mp_s4, mp_s5, mp_w2, mp_w4, mp_w6, mp_w9, oa_gl, ma_gl, os_2, os_1, ns_1, ns_2, os_os, ns_ns, hat]
    rw [show q + -1 = q - 1 from rfl]
theorem k3_dD {h : ox_H} {m : Nat} {Y : ol} (hb : m + 6 < h.length) (l4 : (Y.2 4).length = 30) {p e s P : Int} (s0 : 0 ≤ s) (P0 : 0 ≤ P) (Ps : P + s ≤ 30) (u1 u2 u3 u6 u7 u8 u10 : Value) : ∀ (k : Nat) (i : Int) (w : List Int), 0 ≤ i → i + k = s → w.length = 218 → oe 107 323 [.ref m, u1, u2, u3, .int (iI p), .int (iI e), u6, u7, u8, .int (iI s), u10, .int (iI P), .int (iI i)] [] (mput h m (oset Y 0 w)) = oe 107 355 [.ref m, u1, u2, u3, .int (iI p), .int (iI e), u6, u7, u8, .int (iI s), u10, .int (iI P), .int (iI s)] [] (mput h m (oset Y 0 (cqF (Y.2 4) 0 (1 + P) k i w))) := by
  intro k
  induction k with
  | zero =>
    intro i w a c hl
    rw [eX3_drag_323, show i = s by omega]
    simp (maxSteps := 1000000) (disch := omega) only [eX3_drag_325, eX3_drag_327, ox_O_s, ox_B_s, ox_g_t, ox_A_s, ox_push_s, ox_push_n, ox_some, ox_z0, ox_z1, iI_lt, iI_eq, iI_add, iI_sub, ig_at, if_true, if_false, if_pos, if_neg]
    rfl
  | succ k ih =>
    intro i w a c hl
    have i1 := ih (i + 1) (iu w (1 + P + i) (ig (Y.2 4) (0 + i))) (by omega) (by omega) (by rw [iu_len]; exact hl)
    unfold cqF
    rw [← i1, eX3_drag_323, Int.zero_add]
    simp (maxSteps := 1000000) (disch := omega) only [eX3_drag_325, eX3_drag_327, eX3_drag_330, eX3_drag_331, eX3_drag_334, eX3_drag_335, eX3_drag_337, eX3_drag_338, eX3_drag_340, eX3_drag_341, eX3_drag_342, eX3_drag_345, eX3_drag_347, eX3_drag_348, eX3_drag_349, eX3_drag_352, ox_O_s, ox_B_s, ox_g_t, ox_A_s, ox_push_s, ox_push_n, ox_some, ox_z0, ox_z1, iI_lt, iI_eq, iI_add, iI_sub, ig_at, if_true, if_false, if_pos, if_neg, ig_set, mp_obj, mp_f0, mp_f1, mp_f2, mp_f3, mp_f4, mp_f5, mp_f6, mp_f7, mp_f8, mp_f9, mp_i0, mp_i1, mp_i2, mp_i3, mp_i4, mp_i5, mp_j0, mp_j1, mp_j2, mp_j3, mp_j4, mp_j5, mp_s0, mp_s1, mp_s2, mp_s3, mp_s4, mp_s5, mp_w2, mp_w4, mp_w6, mp_w9, oa_gl, ma_gl, os_2, os_1, ns_1, ns_2, os_os, ns_ns]
