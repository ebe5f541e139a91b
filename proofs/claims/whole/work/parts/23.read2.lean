/-! The class's outline, reads, second half. -/
def zb (b : Bool) : Int := if b then 1 else 0
theorem zb_t : zb true = 1 := rfl
theorem zb_f : zb false = 0 := rfl
def bt (r k : Int) : Int := ((r.toNat >>> k.toNat) % 2 : Nat)
theorem bt_b (r k : Int) : 0 ≤ bt r k ∧ bt r k ≤ 1 := by unfold bt; omega
theorem bt_all : ∀ r : Fin 16, ∀ k : Fin 4, (iI (r.val : Int) >>> (iI (k.val : Int) &&& 31)) &&& iI 1 = iI (bt r.val k.val) := by decide +kernel
theorem bt_eq {r k : Int} (r0 : 0 ≤ r) (r1 : r ≤ 15) (k0 : 0 ≤ k) (k1 : k ≤ 3) : (iI r >>> (iI k &&& 31)) &&& iI 1 = iI (bt r k) := by
  have := bt_all ⟨r.toNat, by omega⟩ ⟨k.toNat, by omega⟩
  simp only at this
  rwa [show ((r.toNat : Nat) : Int) = r by omega, show ((k.toNat : Nat) : Int) = k by omega] at this
def alw (X : ol) (pk k : Int) : Bool := decide (bt (ig (X.2 6) (pk + 1)) k = 1)
theorem k1_allows {h : ox_H} {o : Nat} {X : ol} (hO : OA h o X) (hV : vx X) {pk k : Int} (a0 : -1 ≤ pk) (a1 : pk ≤ 3) (b0 : 0 ≤ k) (b1 : k ≤ 3) : oe 24 0 [.ref o, .int (iI pk), .int (iI k)] [] h = some (some (.int (iI (zb (alw X pk k)))), h) := by
  obtain ⟨gO, g0, g1, g2, g3, g4, g5, g6, g7, g8, g9, g10, g11, g12, gi0, gi1, gi2, gi3, gi4, gi5, gi6, gi7, gi8, gi9, gj0, gj1, gj2, gj3, gj4, gj5, gj6, gj7, gj8, gj9⟩ := oa_facts hO
  obtain ⟨vl, vn, vo, vi, va, vfst, vs, vz, vr, vc, vt, vm, vk⟩ := id hV
  have l0 : (X.2 0).length = 30 := vl 0 (by omega)
  have l1 : (X.2 1).length = 30 := vl 1 (by omega)
  have l2 : (X.2 2).length = 30 := vl 2 (by omega)
  have l3 : (X.2 3).length = 30 := vl 3 (by omega)
  have l4 : (X.2 4).length = 30 := vl 4 (by omega)
  have l5 : (X.2 5).length = 30 := vl 5 (by omega)
  have l6 : (X.2 6).length = 5 := vl 6 (by omega)
  have l7 : (X.2 7).length = 7 := vl 7 (by omega)
  have l8 : (X.2 8).length = 12 := vl 8 (by omega)
  have l9 : (X.2 9).length = 12 := vl 9 (by omega)
  have hr := vr (pk + 1) (by omega) (by omega)
  have hb := bt_b (ig (X.2 6) (pk + 1)) k
  unfold alw
  by_cases c : bt (ig (X.2 6) (pk + 1)) k = 1
  · rw [decide_eq_true c, zb_t]
    simp (disch := omega) only [eX1_allows_0, eX1_allows_1, eX1_allows_4, eX1_allows_5, eX1_allows_6, eX1_allows_7, eX1_allows_8, eX1_allows_9, eX1_allows_10, eX1_allows_11, eX1_allows_12, eX1_allows_13, eX1_allows_16, eX1_allows_17, eX1_allows_20, eX1_allows_21, ox_O_s, ox_B_s, ox_g_t, ox_A_s, ox_push_s, ox_push_n, ox_some, ox_z0, ox_z1, iI_lt, iI_eq, iI_add, iI_sub, ig_at, if_true, if_false, if_pos, if_neg, gO, g0, g1, g2, g3, g4, g5, g6, g7, g8, g9, g10, g11, g12, gi0, gi1, gi2, gi3, gi4, gi5, gi6, gi7, gi8, gi9, gj0, gj1, gj2, gj3, gj4, gj5, gj6, gj7, gj8, gj9, bt_eq]
  · rw [decide_eq_false c, zb_f]
    simp (disch := omega) only [eX1_allows_0, eX1_allows_1, eX1_allows_4, eX1_allows_5, eX1_allows_6, eX1_allows_7, eX1_allows_8, eX1_allows_9, eX1_allows_10, eX1_allows_11, eX1_allows_12, eX1_allows_13, eX1_allows_16, eX1_allows_17, eX1_allows_20, eX1_allows_21, ox_O_s, ox_B_s, ox_g_t, ox_A_s, ox_push_s, ox_push_n, ox_some, ox_z0, ox_z1, iI_lt, iI_eq, iI_add, iI_sub, ig_at, if_true, if_false, if_pos, if_neg, gO, g0, g1, g2, g3, g4, g5, g6, g7, g8, g9, g10, g11, g12, gi0, gi1, gi2, gi3, gi4, gi5, gi6, gi7, gi8, gi9, gj0, gj1, gj2, gj3, gj4, gj5, gj6, gj7, gj8, gj9, bt_eq]
def dpF (L : Int → Int) (to : Int) : Nat → Int → Int → Int
  | 0, _, g => g
  | m + 1, p, g => if p < to then dpF L to m (p + 1) (if g < L p then L p else g) else g
theorem k1_deep_loop {h : ox_H} {o : Nat} {X : ol} (hO : OA h o X) (hV : vx X) {to : Int} (h00 : 0 ≤ to) (h1 : to ≤ 100) (v1 : Value) : ∀ (m : Nat) (p g : Int), 0 ≤ p → to - p < m → 0 ≤ g → g ≤ 6 → p < 1000 → oe 21 5 [.ref o, v1, .int (iI to), .int (iI g), .int (iI p)] [] h = some (some (.int (iI (dpF (lvA X) to m p g))), h) := by
  obtain ⟨gO, g0, g1, g2, g3, g4, g5, g6, g7, g8, g9, g10, g11, g12, gi0, gi1, gi2, gi3, gi4, gi5, gi6, gi7, gi8, gi9, gj0, gj1, gj2, gj3, gj4, gj5, gj6, gj7, gj8, gj9⟩ := oa_facts hO
  intro m
  induction m with
  | zero =>
    intro p g a b c d _
    have hto : ¬ p < to := by omega
    rw [eX1_deepest_5]
    simp (disch := omega) only [eX1_deepest_0, eX1_deepest_1, eX1_deepest_2, eX1_deepest_3, eX1_deepest_7, eX1_deepest_8, eX1_deepest_11, eX1_deepest_12, eX1_deepest_13, eX1_deepest_15, eX1_deepest_18, eX1_deepest_21, eX1_deepest_22, eX1_deepest_25, eX1_deepest_28, eX1_deepest_29, ox_O_s, ox_B_s, ox_g_t, ox_A_s, ox_push_s, ox_push_n, ox_some, ox_z0, ox_z1, iI_lt, iI_eq, iI_add, iI_sub, ig_at, if_true, if_false, if_pos, if_neg, gO, g0, g1, g2, g3, g4, g5, g6, g7, g8, g9, g10, g11, g12, gi0, gi1, gi2, gi3, gi4, gi5, gi6, gi7, gi8, gi9, gj0, gj1, gj2, gj3, gj4, gj5, gj6, gj7, gj8, gj9]
    rfl
  | succ m ih =>
    intro p g a b c d hp
    have hl := k1_levelAt hO hV (p := p) (by omega) (by omega)
    have hb := lvA_b hV p
    rw [eX1_deepest_5]
    unfold dpF
    by_cases c1 : p < to
    · rw [if_pos c1]
      by_cases c2 : g < lvA X p
      · rw [if_pos c2]
        simp (disch := omega) only [eX1_deepest_0, eX1_deepest_1, eX1_deepest_2, eX1_deepest_3, eX1_deepest_7, eX1_deepest_8, eX1_deepest_11, eX1_deepest_12, eX1_deepest_13, eX1_deepest_15, eX1_deepest_18, eX1_deepest_21, eX1_deepest_22, eX1_deepest_25, eX1_deepest_28, eX1_deepest_29, ox_O_s, ox_B_s, ox_g_t, ox_A_s, ox_push_s, ox_push_n, ox_some, ox_z0, ox_z1, iI_lt, iI_eq, iI_add, iI_sub, ig_at, if_true, if_false, if_pos, if_neg, gO, hl]
        exact ih (p + 1) (lvA X p) (by omega) (by omega) (by omega) (by omega) (by omega)
      · rw [if_neg c2]
        simp (disch := omega) only [eX1_deepest_0, eX1_deepest_1, eX1_deepest_2, eX1_deepest_3, eX1_deepest_7, eX1_deepest_8, eX1_deepest_11, eX1_deepest_12, eX1_deepest_13, eX1_deepest_15, eX1_deepest_18, eX1_deepest_21, eX1_deepest_22, eX1_deepest_25, eX1_deepest_28, eX1_deepest_29, ox_O_s, ox_B_s, ox_g_t, ox_A_s, ox_push_s, ox_push_n, ox_some, ox_z0, ox_z1, iI_lt, iI_eq, iI_add, iI_sub, ig_at, if_true, if_false, if_pos, if_neg, gO, hl]
        exact ih (p + 1) g (by omega) (by omega) (by omega) (by omega) (by omega)
    · rw [if_neg c1]
      simp (disch := omega) only [eX1_deepest_0, eX1_deepest_1, eX1_deepest_2, eX1_deepest_3, eX1_deepest_7, eX1_deepest_8, eX1_deepest_11, eX1_deepest_12, eX1_deepest_13, eX1_deepest_15, eX1_deepest_18, eX1_deepest_21, eX1_deepest_22, eX1_deepest_25, eX1_deepest_28, eX1_deepest_29, ox_O_s, ox_B_s, ox_g_t, ox_A_s, ox_push_s, ox_push_n, ox_some, ox_z0, ox_z1, iI_lt, iI_eq, iI_add, iI_sub, ig_at, if_true, if_false, if_pos, if_neg, gO, hl]
/-- the greatest level of the places from .. to -/
def dpX (X : ol) (p q : Int) : Int := dpF (lvA X) q 31 p 0
theorem k1_deepest {h : ox_H} {o : Nat} {X : ol} (hO : OA h o X) (hV : vx X) {p q : Int} (h0 : 0 ≤ p) (h1 : p ≤ 30) (h2 : 0 ≤ q) (h3 : q ≤ 30) : oe 21 0 [.ref o, .int (iI p), .int (iI q), .null, .null] [] h = some (some (.int (iI (dpX X p q))), h) := by
  have hk := k1_deep_loop hO hV (to := q) (by omega) (by omega) (.int (iI p)) 31 p 0 (by omega) (by omega) (by omega) (by omega) (by omega)
  simp (disch := omega) only [eX1_deepest_0, eX1_deepest_1, eX1_deepest_2, eX1_deepest_3, eX1_deepest_7, eX1_deepest_8, eX1_deepest_11, eX1_deepest_12, eX1_deepest_13, eX1_deepest_15, eX1_deepest_18, eX1_deepest_21, eX1_deepest_22, eX1_deepest_25, eX1_deepest_28, eX1_deepest_29, ox_O_s, ox_B_s, ox_g_t, ox_A_s, ox_push_s, ox_push_n, ox_some, ox_z0, ox_z1, iI_lt, iI_eq, iI_add, iI_sub, ig_at, if_true, if_false, if_pos, if_neg]
  exact hk
def ccF (L : Int → Int) (n lv : Int) : Nat → Int → Int → Int
  | 0, _, f => f
  | m + 1, p, f => if p < n ∧ lv ≤ L p then ccF L n lv m (p + 1) (if L p = lv then f + 1 else f) else f
theorem k1_cc_loop {h : ox_H} {o : Nat} {X : ol} (hO : OA h o X) (hV : vx X) {lv : Int} (h1 : 0 ≤ lv) (h2 : lv ≤ 7) (v1 : Value) : ∀ (m : Nat) (p f : Int), 0 ≤ p → p ≤ X.1 0 → X.1 0 - p < m → 0 ≤ f → f ≤ p → oe 22 15 [.ref o, v1, .int (iI lv), .int (iI f), .int (iI p)] [] h = some (some (.int (iI (ccF (lvA X) (X.1 0) lv m p f))), h) := by
  obtain ⟨gO, g0, g1, g2, g3, g4, g5, g6, g7, g8, g9, g10, g11, g12, gi0, gi1, gi2, gi3, gi4, gi5, gi6, gi7, gi8, gi9, gj0, gj1, gj2, gj3, gj4, gj5, gj6, gj7, gj8, gj9⟩ := oa_facts hO
  obtain ⟨vl, vn, vo, vi, va, vfst, vs, vz, vr, vc, vt, vm, vk⟩ := id hV
  have l0 : (X.2 0).length = 30 := vl 0 (by omega)
  have l1 : (X.2 1).length = 30 := vl 1 (by omega)
  have l2 : (X.2 2).length = 30 := vl 2 (by omega)
  have l3 : (X.2 3).length = 30 := vl 3 (by omega)
  have l4 : (X.2 4).length = 30 := vl 4 (by omega)
  have l5 : (X.2 5).length = 30 := vl 5 (by omega)
  have l6 : (X.2 6).length = 5 := vl 6 (by omega)
  have l7 : (X.2 7).length = 7 := vl 7 (by omega)
  have l8 : (X.2 8).length = 12 := vl 8 (by omega)
  have l9 : (X.2 9).length = 12 := vl 9 (by omega)
  intro m
  induction m with
  | zero => intro p f a b c; omega
  | succ m ih =>
    intro p f a b c d e
    have hl := k1_levelAt hO hV (p := p) (by omega) (by omega)
    have hb := lvA_b hV p
    rw [eX1_countChildren_15]
    unfold ccF
    by_cases c1 : p < X.1 0
    · by_cases c2 : lv ≤ lvA X p
      · rw [if_pos ⟨c1, c2⟩]
        by_cases c3 : lvA X p = lv
        · rw [if_pos c3]
          simp (disch := omega) only [eX1_countChildren_0, eX1_countChildren_1, eX1_countChildren_2, eX1_countChildren_5, eX1_countChildren_6, eX1_countChildren_7, eX1_countChildren_8, eX1_countChildren_9, eX1_countChildren_10, eX1_countChildren_11, eX1_countChildren_12, eX1_countChildren_13, eX1_countChildren_17, eX1_countChildren_18, eX1_countChildren_21, eX1_countChildren_24, eX1_countChildren_25, eX1_countChildren_27, eX1_countChildren_30, eX1_countChildren_31, eX1_countChildren_34, eX1_countChildren_35, eX1_countChildren_37, eX1_countChildren_40, eX1_countChildren_41, eX1_countChildren_44, eX1_countChildren_47, eX1_countChildren_50, eX1_countChildren_53, eX1_countChildren_54, ox_O_s, ox_B_s, ox_g_t, ox_A_s, ox_push_s, ox_push_n, ox_some, ox_z0, ox_z1, iI_lt, iI_eq, iI_add, iI_sub, ig_at, if_true, if_false, if_pos, if_neg, gO, g0, g1, g2, g3, g4, g5, g6, g7, g8, g9, g10, g11, g12, gi0, gi1, gi2, gi3, gi4, gi5, gi6, gi7, gi8, gi9, gj0, gj1, gj2, gj3, gj4, gj5, gj6, gj7, gj8, gj9, hl]
          exact ih (p + 1) (f + 1) (by omega) (by omega) (by omega) (by omega) (by omega)
        · rw [if_neg c3]
          simp (disch := omega) only [eX1_countChildren_0, eX1_countChildren_1, eX1_countChildren_2, eX1_countChildren_5, eX1_countChildren_6, eX1_countChildren_7, eX1_countChildren_8, eX1_countChildren_9, eX1_countChildren_10, eX1_countChildren_11, eX1_countChildren_12, eX1_countChildren_13, eX1_countChildren_17, eX1_countChildren_18, eX1_countChildren_21, eX1_countChildren_24, eX1_countChildren_25, eX1_countChildren_27, eX1_countChildren_30, eX1_countChildren_31, eX1_countChildren_34, eX1_countChildren_35, eX1_countChildren_37, eX1_countChildren_40, eX1_countChildren_41, eX1_countChildren_44, eX1_countChildren_47, eX1_countChildren_50, eX1_countChildren_53, eX1_countChildren_54, ox_O_s, ox_B_s, ox_g_t, ox_A_s, ox_push_s, ox_push_n, ox_some, ox_z0, ox_z1, iI_lt, iI_eq, iI_add, iI_sub, ig_at, if_true, if_false, if_pos, if_neg, gO, g0, g1, g2, g3, g4, g5, g6, g7, g8, g9, g10, g11, g12, gi0, gi1, gi2, gi3, gi4, gi5, gi6, gi7, gi8, gi9, gj0, gj1, gj2, gj3, gj4, gj5, gj6, gj7, gj8, gj9, hl]
          exact ih (p + 1) f (by omega) (by omega) (by omega) (by omega) (by omega)
      · rw [if_neg (fun z => c2 z.2)]
        simp (disch := omega) only [eX1_countChildren_0, eX1_countChildren_1, eX1_countChildren_2, eX1_countChildren_5, eX1_countChildren_6, eX1_countChildren_7, eX1_countChildren_8, eX1_countChildren_9, eX1_countChildren_10, eX1_countChildren_11, eX1_countChildren_12, eX1_countChildren_13, eX1_countChildren_17, eX1_countChildren_18, eX1_countChildren_21, eX1_countChildren_24, eX1_countChildren_25, eX1_countChildren_27, eX1_countChildren_30, eX1_countChildren_31, eX1_countChildren_34, eX1_countChildren_35, eX1_countChildren_37, eX1_countChildren_40, eX1_countChildren_41, eX1_countChildren_44, eX1_countChildren_47, eX1_countChildren_50, eX1_countChildren_53, eX1_countChildren_54, ox_O_s, ox_B_s, ox_g_t, ox_A_s, ox_push_s, ox_push_n, ox_some, ox_z0, ox_z1, iI_lt, iI_eq, iI_add, iI_sub, ig_at, if_true, if_false, if_pos, if_neg, gO, g0, g1, g2, g3, g4, g5, g6, g7, g8, g9, g10, g11, g12, gi0, gi1, gi2, gi3, gi4, gi5, gi6, gi7, gi8, gi9, gj0, gj1, gj2, gj3, gj4, gj5, gj6, gj7, gj8, gj9, hl]
    · rw [if_neg (fun z => c1 z.1)]
      simp (disch := omega) only [eX1_countChildren_0, eX1_countChildren_1, eX1_countChildren_2, eX1_countChildren_5, eX1_countChildren_6, eX1_countChildren_7, eX1_countChildren_8, eX1_countChildren_9, eX1_countChildren_10, eX1_countChildren_11, eX1_countChildren_12, eX1_countChildren_13, eX1_countChildren_17, eX1_countChildren_18, eX1_countChildren_21, eX1_countChildren_24, eX1_countChildren_25, eX1_countChildren_27, eX1_countChildren_30, eX1_countChildren_31, eX1_countChildren_34, eX1_countChildren_35, eX1_countChildren_37, eX1_countChildren_40, eX1_countChildren_41, eX1_countChildren_44, eX1_countChildren_47, eX1_countChildren_50, eX1_countChildren_53, eX1_countChildren_54, ox_O_s, ox_B_s, ox_g_t, ox_A_s, ox_push_s, ox_push_n, ox_some, ox_z0, ox_z1, iI_lt, iI_eq, iI_add, iI_sub, ig_at, if_true, if_false, if_pos, if_neg, gO, g0, g1, g2, g3, g4, g5, g6, g7, g8, g9, g10, g11, g12, gi0, gi1, gi2, gi3, gi4, gi5, gi6, gi7, gi8, gi9, gj0, gj1, gj2, gj3, gj4, gj5, gj6, gj7, gj8, gj9, hl]
def ccX (X : ol) (p : Int) : Int := ccF (lvA X) (X.1 0) (lvA X p + 1) 31 (p + 1) 0
theorem k1_countChildren {h : ox_H} {o : Nat} {X : ol} (hO : OA h o X) (hV : vx X) {p : Int} (h0 : 0 ≤ p) (h1 : p < X.1 0) : oe 22 0 [.ref o, .int (iI p), .null, .null, .null] [] h = some (some (.int (iI (ccX X p))), h) := by
  have hn := hV.2.1
  have hl := k1_levelAt hO hV (p := p) (by omega) (by omega)
  have hb := lvA_b hV p
  have hk := k1_cc_loop hO hV (lv := lvA X p + 1) (by omega) (by omega) (.int (iI p)) 31 (p + 1) 0 (by omega) (by omega) (by omega) (by omega) (by omega)
  obtain ⟨gO, g0, g1, g2, g3, g4, g5, g6, g7, g8, g9, g10, g11, g12, gi0, gi1, gi2, gi3, gi4, gi5, gi6, gi7, gi8, gi9, gj0, gj1, gj2, gj3, gj4, gj5, gj6, gj7, gj8, gj9⟩ := oa_facts hO
  simp (disch := omega) only [eX1_countChildren_0, eX1_countChildren_1, eX1_countChildren_2, eX1_countChildren_5, eX1_countChildren_6, eX1_countChildren_7, eX1_countChildren_8, eX1_countChildren_9, eX1_countChildren_10, eX1_countChildren_11, eX1_countChildren_12, eX1_countChildren_13, eX1_countChildren_17, eX1_countChildren_18, eX1_countChildren_21, eX1_countChildren_24, eX1_countChildren_25, eX1_countChildren_27, eX1_countChildren_30, eX1_countChildren_31, eX1_countChildren_34, eX1_countChildren_35, eX1_countChildren_37, eX1_countChildren_40, eX1_countChildren_41, eX1_countChildren_44, eX1_countChildren_47, eX1_countChildren_50, eX1_countChildren_53, eX1_countChildren_54, ox_O_s, ox_B_s, ox_g_t, ox_A_s, ox_push_s, ox_push_n, ox_some, ox_z0, ox_z1, iI_lt, iI_eq, iI_add, iI_sub, ig_at, if_true, if_false, if_pos, if_neg, gO, hl]
  exact hk
def chF (L : Int → Int) (n lv : Int) : Nat → Int → Int → Int
  | 0, _, _ => -1
  | m + 1, p, l => if p < n ∧ lv ≤ L p then (if L p = lv then (if l = 0 then p else chF L n lv m (p + 1) (l - 1)) else chF L n lv m (p + 1) l) else -1
theorem k1_ch_loop {h : ox_H} {o : Nat} {X : ol} (hO : OA h o X) (hV : vx X) {lv : Int} (h1 : 0 ≤ lv) (h2 : lv ≤ 7) (v1 v2 : Value) : ∀ (m : Nat) (p l : Int), 0 ≤ p → p ≤ X.1 0 → X.1 0 - p < m → 0 ≤ l → l < 2147483648 → oe 23 16 [.ref o, v1, v2, .int (iI lv), .int (iI l), .int (iI p)] [] h = some (some (.int (iI (chF (lvA X) (X.1 0) lv m p l))), h) := by
  obtain ⟨gO, g0, g1, g2, g3, g4, g5, g6, g7, g8, g9, g10, g11, g12, gi0, gi1, gi2, gi3, gi4, gi5, gi6, gi7, gi8, gi9, gj0, gj1, gj2, gj3, gj4, gj5, gj6, gj7, gj8, gj9⟩ := oa_facts hO
  obtain ⟨vl, vn, vo, vi, va, vfst, vs, vz, vr, vc, vt, vm, vk⟩ := id hV
  have l0 : (X.2 0).length = 30 := vl 0 (by omega)
  have l1 : (X.2 1).length = 30 := vl 1 (by omega)
  have l2 : (X.2 2).length = 30 := vl 2 (by omega)
  have l3 : (X.2 3).length = 30 := vl 3 (by omega)
  have l4 : (X.2 4).length = 30 := vl 4 (by omega)
  have l5 : (X.2 5).length = 30 := vl 5 (by omega)
  have l6 : (X.2 6).length = 5 := vl 6 (by omega)
  have l7 : (X.2 7).length = 7 := vl 7 (by omega)
  have l8 : (X.2 8).length = 12 := vl 8 (by omega)
  have l9 : (X.2 9).length = 12 := vl 9 (by omega)
  intro m
  induction m with
  | zero => intro p f a b c; omega
  | succ m ih =>
    intro p l a b c d e
    have hl := k1_levelAt hO hV (p := p) (by omega) (by omega)
    have hb := lvA_b hV p
    rw [eX1_childPlace_16]
    unfold chF
    by_cases c1 : p < X.1 0
    · by_cases c2 : lv ≤ lvA X p
      · rw [if_pos ⟨c1, c2⟩]
        by_cases c3 : lvA X p = lv
        · rw [if_pos c3]
          by_cases c4 : l = 0
          · rw [if_pos c4]
            simp (disch := omega) only [eX1_childPlace_0, eX1_childPlace_1, eX1_childPlace_2, eX1_childPlace_5, eX1_childPlace_6, eX1_childPlace_7, eX1_childPlace_8, eX1_childPlace_9, eX1_childPlace_11, eX1_childPlace_12, eX1_childPlace_13, eX1_childPlace_14, eX1_childPlace_18, eX1_childPlace_19, eX1_childPlace_22, eX1_childPlace_25, eX1_childPlace_26, eX1_childPlace_28, eX1_childPlace_31, eX1_childPlace_32, eX1_childPlace_35, eX1_childPlace_36, eX1_childPlace_38, eX1_childPlace_41, eX1_childPlace_42, eX1_childPlace_45, eX1_childPlace_47, eX1_childPlace_50, eX1_childPlace_52, eX1_childPlace_53, eX1_childPlace_56, eX1_childPlace_59, eX1_childPlace_62, eX1_childPlace_63, ox_O_s, ox_B_s, ox_g_t, ox_A_s, ox_push_s, ox_push_n, ox_some, ox_z0, ox_z1, iI_lt, iI_eq, iI_add, iI_sub, ig_at, if_true, if_false, if_pos, if_neg, gO, g0, g1, g2, g3, g4, g5, g6, g7, g8, g9, g10, g11, g12, gi0, gi1, gi2, gi3, gi4, gi5, gi6, gi7, gi8, gi9, gj0, gj1, gj2, gj3, gj4, gj5, gj6, gj7, gj8, gj9, hl]
          · rw [if_neg c4]
            simp (disch := omega) only [eX1_childPlace_0, eX1_childPlace_1, eX1_childPlace_2, eX1_childPlace_5, eX1_childPlace_6, eX1_childPlace_7, eX1_childPlace_8, eX1_childPlace_9, eX1_childPlace_11, eX1_childPlace_12, eX1_childPlace_13, eX1_childPlace_14, eX1_childPlace_18, eX1_childPlace_19, eX1_childPlace_22, eX1_childPlace_25, eX1_childPlace_26, eX1_childPlace_28, eX1_childPlace_31, eX1_childPlace_32, eX1_childPlace_35, eX1_childPlace_36, eX1_childPlace_38, eX1_childPlace_41, eX1_childPlace_42, eX1_childPlace_45, eX1_childPlace_47, eX1_childPlace_50, eX1_childPlace_52, eX1_childPlace_53, eX1_childPlace_56, eX1_childPlace_59, eX1_childPlace_62, eX1_childPlace_63, ox_O_s, ox_B_s, ox_g_t, ox_A_s, ox_push_s, ox_push_n, ox_some, ox_z0, ox_z1, iI_lt, iI_eq, iI_add, iI_sub, ig_at, if_true, if_false, if_pos, if_neg, gO, g0, g1, g2, g3, g4, g5, g6, g7, g8, g9, g10, g11, g12, gi0, gi1, gi2, gi3, gi4, gi5, gi6, gi7, gi8, gi9, gj0, gj1, gj2, gj3, gj4, gj5, gj6, gj7, gj8, gj9, hl]
            exact ih (p + 1) (l - 1) (by omega) (by omega) (by omega) (by omega) (by omega)
        · rw [if_neg c3]
          simp (disch := omega) only [eX1_childPlace_0, eX1_childPlace_1, eX1_childPlace_2, eX1_childPlace_5, eX1_childPlace_6, eX1_childPlace_7, eX1_childPlace_8, eX1_childPlace_9, eX1_childPlace_11, eX1_childPlace_12, eX1_childPlace_13, eX1_childPlace_14, eX1_childPlace_18, eX1_childPlace_19, eX1_childPlace_22, eX1_childPlace_25, eX1_childPlace_26, eX1_childPlace_28, eX1_childPlace_31, eX1_childPlace_32, eX1_childPlace_35, eX1_childPlace_36, eX1_childPlace_38, eX1_childPlace_41, eX1_childPlace_42, eX1_childPlace_45, eX1_childPlace_47, eX1_childPlace_50, eX1_childPlace_52, eX1_childPlace_53, eX1_childPlace_56, eX1_childPlace_59, eX1_childPlace_62, eX1_childPlace_63, ox_O_s, ox_B_s, ox_g_t, ox_A_s, ox_push_s, ox_push_n, ox_some, ox_z0, ox_z1, iI_lt, iI_eq, iI_add, iI_sub, ig_at, if_true, if_false, if_pos, if_neg, gO, g0, g1, g2, g3, g4, g5, g6, g7, g8, g9, g10, g11, g12, gi0, gi1, gi2, gi3, gi4, gi5, gi6, gi7, gi8, gi9, gj0, gj1, gj2, gj3, gj4, gj5, gj6, gj7, gj8, gj9, hl]
          exact ih (p + 1) l (by omega) (by omega) (by omega) (by omega) (by omega)
      · rw [if_neg (fun z => c2 z.2)]
        simp (disch := omega) only [eX1_childPlace_0, eX1_childPlace_1, eX1_childPlace_2, eX1_childPlace_5, eX1_childPlace_6, eX1_childPlace_7, eX1_childPlace_8, eX1_childPlace_9, eX1_childPlace_11, eX1_childPlace_12, eX1_childPlace_13, eX1_childPlace_14, eX1_childPlace_18, eX1_childPlace_19, eX1_childPlace_22, eX1_childPlace_25, eX1_childPlace_26, eX1_childPlace_28, eX1_childPlace_31, eX1_childPlace_32, eX1_childPlace_35, eX1_childPlace_36, eX1_childPlace_38, eX1_childPlace_41, eX1_childPlace_42, eX1_childPlace_45, eX1_childPlace_47, eX1_childPlace_50, eX1_childPlace_52, eX1_childPlace_53, eX1_childPlace_56, eX1_childPlace_59, eX1_childPlace_62, eX1_childPlace_63, ox_O_s, ox_B_s, ox_g_t, ox_A_s, ox_push_s, ox_push_n, ox_some, ox_z0, ox_z1, iI_lt, iI_eq, iI_add, iI_sub, ig_at, if_true, if_false, if_pos, if_neg, gO, g0, g1, g2, g3, g4, g5, g6, g7, g8, g9, g10, g11, g12, gi0, gi1, gi2, gi3, gi4, gi5, gi6, gi7, gi8, gi9, gj0, gj1, gj2, gj3, gj4, gj5, gj6, gj7, gj8, gj9, hl]
    · rw [if_neg (fun z => c1 z.1)]
      simp (disch := omega) only [eX1_childPlace_0, eX1_childPlace_1, eX1_childPlace_2, eX1_childPlace_5, eX1_childPlace_6, eX1_childPlace_7, eX1_childPlace_8, eX1_childPlace_9, eX1_childPlace_11, eX1_childPlace_12, eX1_childPlace_13, eX1_childPlace_14, eX1_childPlace_18, eX1_childPlace_19, eX1_childPlace_22, eX1_childPlace_25, eX1_childPlace_26, eX1_childPlace_28, eX1_childPlace_31, eX1_childPlace_32, eX1_childPlace_35, eX1_childPlace_36, eX1_childPlace_38, eX1_childPlace_41, eX1_childPlace_42, eX1_childPlace_45, eX1_childPlace_47, eX1_childPlace_50, eX1_childPlace_52, eX1_childPlace_53, eX1_childPlace_56, eX1_childPlace_59, eX1_childPlace_62, eX1_childPlace_63, ox_O_s, ox_B_s, ox_g_t, ox_A_s, ox_push_s, ox_push_n, ox_some, ox_z0, ox_z1, iI_lt, iI_eq, iI_add, iI_sub, ig_at, if_true, if_false, if_pos, if_neg, gO, g0, g1, g2, g3, g4, g5, g6, g7, g8, g9, g10, g11, g12, gi0, gi1, gi2, gi3, gi4, gi5, gi6, gi7, gi8, gi9, gj0, gj1, gj2, gj3, gj4, gj5, gj6, gj7, gj8, gj9, hl]
def chX (X : ol) (p k : Int) : Int := chF (lvA X) (X.1 0) (lvA X p + 1) 31 (p + 1) k
theorem k1_childPlace {h : ox_H} {o : Nat} {X : ol} (hO : OA h o X) (hV : vx X) {p k : Int} (h0 : -1 ≤ p) (h1 : p < X.1 0) (k0 : 0 ≤ k) (k1 : k < 2147483648) : oe 23 0 [.ref o, .int (iI p), .int (iI k), .null, .null, .null] [] h = some (some (.int (iI (chX X p k))), h) := by
  have hn := hV.2.1
  have hl := k1_levelAt hO hV (p := p) (by omega) (by omega)
  have hb := lvA_b hV p
  have hk := k1_ch_loop hO hV (lv := lvA X p + 1) (by omega) (by omega) (.int (iI p)) (.int (iI k)) 31 (p + 1) k (by omega) (by omega) (by omega) (by omega) (by omega)
  obtain ⟨gO, g0, g1, g2, g3, g4, g5, g6, g7, g8, g9, g10, g11, g12, gi0, gi1, gi2, gi3, gi4, gi5, gi6, gi7, gi8, gi9, gj0, gj1, gj2, gj3, gj4, gj5, gj6, gj7, gj8, gj9⟩ := oa_facts hO
  simp (disch := omega) only [eX1_childPlace_0, eX1_childPlace_1, eX1_childPlace_2, eX1_childPlace_5, eX1_childPlace_6, eX1_childPlace_7, eX1_childPlace_8, eX1_childPlace_9, eX1_childPlace_11, eX1_childPlace_12, eX1_childPlace_13, eX1_childPlace_14, eX1_childPlace_18, eX1_childPlace_19, eX1_childPlace_22, eX1_childPlace_25, eX1_childPlace_26, eX1_childPlace_28, eX1_childPlace_31, eX1_childPlace_32, eX1_childPlace_35, eX1_childPlace_36, eX1_childPlace_38, eX1_childPlace_41, eX1_childPlace_42, eX1_childPlace_45, eX1_childPlace_47, eX1_childPlace_50, eX1_childPlace_52, eX1_childPlace_53, eX1_childPlace_56, eX1_childPlace_59, eX1_childPlace_62, eX1_childPlace_63, ox_O_s, ox_B_s, ox_g_t, ox_A_s, ox_push_s, ox_push_n, ox_some, ox_z0, ox_z1, iI_lt, iI_eq, iI_add, iI_sub, ig_at, if_true, if_false, if_pos, if_neg, gO, hl]
  exact hk
theorem kdA_in {X : ol} (hV : vx X) {p : Int} (h0 : 0 ≤ p) (h1 : p < X.1 0) : 0 ≤ kdA X p ∧ kdA X p ≤ 3 := by
  have := (hV.2.2.2.2.1 p h0 h1).2.1
  unfold kdA
  rw [if_pos ⟨h0, h1⟩]
  omega
def aaF (X : ol) (pk lv : Int) : Nat → Int → Bool
  | 0, _ => true
  | m + 1, p => if p < X.1 0 ∧ lv ≤ lvA X p then (if lvA X p = lv ∧ alw X pk (kdA X p) = false then false else aaF X pk lv m (p + 1)) else true
theorem k1_aa_loop {h : ox_H} {o : Nat} {X : ol} (hO : OA h o X) (hV : vx X) {pk lv : Int} (a0 : -1 ≤ pk) (a1 : pk ≤ 3) (h1 : 0 ≤ lv) (h2 : lv ≤ 7) (v2 : Value) : ∀ (m : Nat) (p : Int), 0 ≤ p → p ≤ X.1 0 → X.1 0 - p < m → oe 25 3 [.ref o, .int (iI pk), v2, .int (iI lv), .int (iI p)] [] h = some (some (.int (iI (zb (aaF X pk lv m p)))), h) := by
  obtain ⟨gO, g0, g1, g2, g3, g4, g5, g6, g7, g8, g9, g10, g11, g12, gi0, gi1, gi2, gi3, gi4, gi5, gi6, gi7, gi8, gi9, gj0, gj1, gj2, gj3, gj4, gj5, gj6, gj7, gj8, gj9⟩ := oa_facts hO
  obtain ⟨vl, vn, vo, vi, va, vfst, vs, vz, vr, vc, vt, vm, vk⟩ := id hV
  have l0 : (X.2 0).length = 30 := vl 0 (by omega)
  have l1 : (X.2 1).length = 30 := vl 1 (by omega)
  have l2 : (X.2 2).length = 30 := vl 2 (by omega)
  have l3 : (X.2 3).length = 30 := vl 3 (by omega)
  have l4 : (X.2 4).length = 30 := vl 4 (by omega)
  have l5 : (X.2 5).length = 30 := vl 5 (by omega)
  have l6 : (X.2 6).length = 5 := vl 6 (by omega)
  have l7 : (X.2 7).length = 7 := vl 7 (by omega)
  have l8 : (X.2 8).length = 12 := vl 8 (by omega)
  have l9 : (X.2 9).length = 12 := vl 9 (by omega)
  intro m
  induction m with
  | zero => intro p a b c; omega
  | succ m ih =>
    intro p a b c
    have hl := k1_levelAt hO hV (p := p) (by omega) (by omega)
    have hb := lvA_b hV p
    rw [eX1_allowsAll_3]
    unfold aaF
    by_cases c1 : p < X.1 0
    · have hkd := kdA_in hV a c1
      have hk := k1_kindAt hO hV (p := p) (by omega) (by omega)
      have ha := k1_allows hO hV (pk := pk) (k := kdA X p) a0 a1 hkd.1 hkd.2
      by_cases c2 : lv ≤ lvA X p
      · rw [if_pos ⟨c1, c2⟩]
        by_cases c3 : lvA X p = lv
        · cases c4 : alw X pk (kdA X p) with
          | false =>
            rw [if_pos ⟨c3, rfl⟩]
            rw [c4] at ha
            simp (disch := omega) only [eX1_allowsAll_0, eX1_allowsAll_1, eX1_allowsAll_5, eX1_allowsAll_6, eX1_allowsAll_9, eX1_allowsAll_12, eX1_allowsAll_13, eX1_allowsAll_15, eX1_allowsAll_18, eX1_allowsAll_19, eX1_allowsAll_22, eX1_allowsAll_23, eX1_allowsAll_25, eX1_allowsAll_28, eX1_allowsAll_29, eX1_allowsAll_32, eX1_allowsAll_33, eX1_allowsAll_34, eX1_allowsAll_35, eX1_allowsAll_37, eX1_allowsAll_40, eX1_allowsAll_43, eX1_allowsAll_46, eX1_allowsAll_47, eX1_allowsAll_48, eX1_allowsAll_51, eX1_allowsAll_54, eX1_allowsAll_55, ox_O_s, ox_B_s, ox_g_t, ox_A_s, ox_push_s, ox_push_n, ox_some, ox_z0, ox_z1, iI_lt, iI_eq, iI_add, iI_sub, ig_at, if_true, if_false, if_pos, if_neg, gO, g0, g1, g2, g3, g4, g5, g6, g7, g8, g9, g10, g11, g12, gi0, gi1, gi2, gi3, gi4, gi5, gi6, gi7, gi8, gi9, gj0, gj1, gj2, gj3, gj4, gj5, gj6, gj7, gj8, gj9, hl, hk, ha, zb_f]
          | true =>
            rw [if_neg (fun z => Bool.noConfusion z.2)]
            rw [c4] at ha
            simp (disch := omega) only [eX1_allowsAll_0, eX1_allowsAll_1, eX1_allowsAll_5, eX1_allowsAll_6, eX1_allowsAll_9, eX1_allowsAll_12, eX1_allowsAll_13, eX1_allowsAll_15, eX1_allowsAll_18, eX1_allowsAll_19, eX1_allowsAll_22, eX1_allowsAll_23, eX1_allowsAll_25, eX1_allowsAll_28, eX1_allowsAll_29, eX1_allowsAll_32, eX1_allowsAll_33, eX1_allowsAll_34, eX1_allowsAll_35, eX1_allowsAll_37, eX1_allowsAll_40, eX1_allowsAll_43, eX1_allowsAll_46, eX1_allowsAll_47, eX1_allowsAll_48, eX1_allowsAll_51, eX1_allowsAll_54, eX1_allowsAll_55, ox_O_s, ox_B_s, ox_g_t, ox_A_s, ox_push_s, ox_push_n, ox_some, ox_z0, ox_z1, iI_lt, iI_eq, iI_add, iI_sub, ig_at, if_true, if_false, if_pos, if_neg, gO, g0, g1, g2, g3, g4, g5, g6, g7, g8, g9, g10, g11, g12, gi0, gi1, gi2, gi3, gi4, gi5, gi6, gi7, gi8, gi9, gj0, gj1, gj2, gj3, gj4, gj5, gj6, gj7, gj8, gj9, hl, hk, ha, zb_t]
            exact ih (p + 1) (by omega) (by omega) (by omega)
        · rw [if_neg (fun z => c3 z.1)]
          simp (disch := omega) only [eX1_allowsAll_0, eX1_allowsAll_1, eX1_allowsAll_5, eX1_allowsAll_6, eX1_allowsAll_9, eX1_allowsAll_12, eX1_allowsAll_13, eX1_allowsAll_15, eX1_allowsAll_18, eX1_allowsAll_19, eX1_allowsAll_22, eX1_allowsAll_23, eX1_allowsAll_25, eX1_allowsAll_28, eX1_allowsAll_29, eX1_allowsAll_32, eX1_allowsAll_33, eX1_allowsAll_34, eX1_allowsAll_35, eX1_allowsAll_37, eX1_allowsAll_40, eX1_allowsAll_43, eX1_allowsAll_46, eX1_allowsAll_47, eX1_allowsAll_48, eX1_allowsAll_51, eX1_allowsAll_54, eX1_allowsAll_55, ox_O_s, ox_B_s, ox_g_t, ox_A_s, ox_push_s, ox_push_n, ox_some, ox_z0, ox_z1, iI_lt, iI_eq, iI_add, iI_sub, ig_at, if_true, if_false, if_pos, if_neg, gO, g0, g1, g2, g3, g4, g5, g6, g7, g8, g9, g10, g11, g12, gi0, gi1, gi2, gi3, gi4, gi5, gi6, gi7, gi8, gi9, gj0, gj1, gj2, gj3, gj4, gj5, gj6, gj7, gj8, gj9, hl, hk, ha]
          exact ih (p + 1) (by omega) (by omega) (by omega)
      · rw [if_neg (fun z => c2 z.2)]
        simp (disch := omega) only [eX1_allowsAll_0, eX1_allowsAll_1, eX1_allowsAll_5, eX1_allowsAll_6, eX1_allowsAll_9, eX1_allowsAll_12, eX1_allowsAll_13, eX1_allowsAll_15, eX1_allowsAll_18, eX1_allowsAll_19, eX1_allowsAll_22, eX1_allowsAll_23, eX1_allowsAll_25, eX1_allowsAll_28, eX1_allowsAll_29, eX1_allowsAll_32, eX1_allowsAll_33, eX1_allowsAll_34, eX1_allowsAll_35, eX1_allowsAll_37, eX1_allowsAll_40, eX1_allowsAll_43, eX1_allowsAll_46, eX1_allowsAll_47, eX1_allowsAll_48, eX1_allowsAll_51, eX1_allowsAll_54, eX1_allowsAll_55, ox_O_s, ox_B_s, ox_g_t, ox_A_s, ox_push_s, ox_push_n, ox_some, ox_z0, ox_z1, iI_lt, iI_eq, iI_add, iI_sub, ig_at, if_true, if_false, if_pos, if_neg, gO, g0, g1, g2, g3, g4, g5, g6, g7, g8, g9, g10, g11, g12, gi0, gi1, gi2, gi3, gi4, gi5, gi6, gi7, gi8, gi9, gj0, gj1, gj2, gj3, gj4, gj5, gj6, gj7, gj8, gj9, hl, zb_t]
    · rw [if_neg (fun z => c1 z.1)]
      simp (disch := omega) only [eX1_allowsAll_0, eX1_allowsAll_1, eX1_allowsAll_5, eX1_allowsAll_6, eX1_allowsAll_9, eX1_allowsAll_12, eX1_allowsAll_13, eX1_allowsAll_15, eX1_allowsAll_18, eX1_allowsAll_19, eX1_allowsAll_22, eX1_allowsAll_23, eX1_allowsAll_25, eX1_allowsAll_28, eX1_allowsAll_29, eX1_allowsAll_32, eX1_allowsAll_33, eX1_allowsAll_34, eX1_allowsAll_35, eX1_allowsAll_37, eX1_allowsAll_40, eX1_allowsAll_43, eX1_allowsAll_46, eX1_allowsAll_47, eX1_allowsAll_48, eX1_allowsAll_51, eX1_allowsAll_54, eX1_allowsAll_55, ox_O_s, ox_B_s, ox_g_t, ox_A_s, ox_push_s, ox_push_n, ox_some, ox_z0, ox_z1, iI_lt, iI_eq, iI_add, iI_sub, ig_at, if_true, if_false, if_pos, if_neg, gO, g0, g1, g2, g3, g4, g5, g6, g7, g8, g9, g10, g11, g12, gi0, gi1, gi2, gi3, gi4, gi5, gi6, gi7, gi8, gi9, gj0, gj1, gj2, gj3, gj4, gj5, gj6, gj7, gj8, gj9, hl, zb_t]
/-- may a parent of kind pk have the headings of the level lv from p on as children? -/
def aaX (X : ol) (pk p lv : Int) : Bool := aaF X pk lv 31 p
theorem k1_allowsAll {h : ox_H} {o : Nat} {X : ol} (hO : OA h o X) (hV : vx X) {pk p lv : Int} (a0 : -1 ≤ pk) (a1 : pk ≤ 3) (h1 : 0 ≤ lv) (h2 : lv ≤ 7) (p0 : 0 ≤ p) (p1 : p ≤ X.1 0) : oe 25 0 [.ref o, .int (iI pk), .int (iI p), .int (iI lv), .null] [] h = some (some (.int (iI (zb (aaX X pk p lv)))), h) := by
  have hn := hV.2.1
  have hk := k1_aa_loop hO hV a0 a1 h1 h2 (.int (iI p)) 31 p p0 p1 (by omega)
  simp (disch := omega) only [eX1_allowsAll_0, eX1_allowsAll_1, eX1_allowsAll_5, eX1_allowsAll_6, eX1_allowsAll_9, eX1_allowsAll_12, eX1_allowsAll_13, eX1_allowsAll_15, eX1_allowsAll_18, eX1_allowsAll_19, eX1_allowsAll_22, eX1_allowsAll_23, eX1_allowsAll_25, eX1_allowsAll_28, eX1_allowsAll_29, eX1_allowsAll_32, eX1_allowsAll_33, eX1_allowsAll_34, eX1_allowsAll_35, eX1_allowsAll_37, eX1_allowsAll_40, eX1_allowsAll_43, eX1_allowsAll_46, eX1_allowsAll_47, eX1_allowsAll_48, eX1_allowsAll_51, eX1_allowsAll_54, eX1_allowsAll_55, ox_O_s, ox_B_s, ox_g_t, ox_A_s, ox_push_s, ox_push_n, ox_some, ox_z0, ox_z1, iI_lt, iI_eq, iI_add, iI_sub, ig_at, if_true, if_false, if_pos, if_neg]
  exact hk
