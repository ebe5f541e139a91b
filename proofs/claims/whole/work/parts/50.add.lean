/-! add. -/
theorem php : ∀ (n m : Nat) (f : Nat → Nat), (∀ y, y < m → f y < n) → (∀ y y', y < m → y' < m → f y = f y' → y = y') → m ≤ n
  | 0, 0, _, _, _ => Nat.le_refl 0
  | 0, m + 1, f, h, _ => absurd (h 0 (by omega)) (by omega)
  | n + 1, 0, _, _, _ => by omega
  | n + 1, m + 1, f, h, hi => by
    have key := php n m (fun y => if f y = n then f m else f y) (fun y hy => by
      show (if f y = n then f m else f y) < n
      have h1 := h y (by omega)
      have h2 := h m (by omega)
      by_cases c : f y = n
      · rw [if_pos c]
        have : f m ≠ n := fun e => by have := hi y m (by omega) (by omega) (by omega); omega
        omega
      · rw [if_neg c]; omega) (fun y y' hy hy' e => by
      have e : (if f y = n then f m else f y) = (if f y' = n then f m else f y') := e
      by_cases c : f y = n
      · by_cases c' : f y' = n
        · exact hi y y' (by omega) (by omega) (by omega)
        · rw [if_pos c, if_neg c'] at e
          have := hi m y' (by omega) (by omega) e
          omega
      · by_cases c' : f y' = n
        · rw [if_neg c, if_pos c'] at e
          have := hi y m (by omega) (by omega) e
          omega
        · rw [if_neg c, if_neg c'] at e
          exact hi y y' (by omega) (by omega) e)
    omega
theorem lf_ex {X : ol} (hn : 0 ≤ X.1 0 ∧ X.1 0 < 30) : ∃ z, lfP X z := by
  have key : ∀ k : Nat, (∀ y : Nat, y < k → ∃ p, 0 ≤ p ∧ p < X.1 0 ∧ ig (X.2 0) p = y) ∨ ∃ z : Nat, z < k ∧ (∀ p, 0 ≤ p → p < X.1 0 → ig (X.2 0) p ≠ z) ∧ ∀ y : Nat, y < z → ∃ p, 0 ≤ p ∧ p < X.1 0 ∧ ig (X.2 0) p = y := by
    intro k
    induction k with
    | zero => exact Or.inl (fun y hy => absurd hy (by omega))
    | succ k ih =>
      rcases ih with ih | ⟨z, a, b, c⟩
      · rcases ol_find X k with h | h
        · refine Or.inl (fun y hy => ?_)
          by_cases e : y = k
          · rw [e]; exact h
          · exact ih y (by omega)
        · exact Or.inr ⟨k, by omega, h, ih⟩
      · exact Or.inr ⟨z, by omega, b, c⟩
  rcases key 30 with h | ⟨z, a, b, c⟩
  · exfalso
    classical
    have := php (X.1 0).toNat 30 (fun y => if hy : ∃ p, 0 ≤ p ∧ p < X.1 0 ∧ ig (X.2 0) p = (y : Int) then (Classical.choose hy).toNat else 0) (fun y hy => by
      simp only [dif_pos (h y hy)]
      have := Classical.choose_spec (h y hy)
      omega) (fun y y' hy hy' e => by
      simp only [dif_pos (h y hy), dif_pos (h y' hy')] at e
      have s := Classical.choose_spec (h y hy)
      have s' := Classical.choose_spec (h y' hy')
      have e2 : Classical.choose (h y hy) = Classical.choose (h y' hy') := by omega
      rw [e2] at s
      have := s.2.2.symm.trans s'.2.2
      omega)
    omega
  · refine ⟨z, by omega, by omega, b, fun y y0 y1 => ?_⟩
    obtain ⟨p, p0, p1, e⟩ := c y.toNat (by omega)
    exact ⟨p, p0, p1, by omega⟩
theorem inF_ig : ∀ (k : Nat) (p : Int) (l : List Int) (q : Int), 0 ≤ p - k → p < l.length → 0 ≤ q → ig (inF k p l) q = if p - k < q ∧ q ≤ p then ig l (q - 1) else ig l q
  | 0, p, l, q, _, _, _ => by rw [if_neg (by omega)]; rfl
  | k + 1, p, l, q, h0, h1, q0 => by
    unfold inF
    rw [inF_ig k (p - 1) _ q (by omega) (by rw [iu_len]; omega) q0]
    by_cases c : p - 1 - k < q ∧ q ≤ p - 1
    · rw [if_pos c, if_pos (by omega), ig_ne (by omega) (by omega) (by omega)]
    · rw [if_neg c]
      by_cases e : q = p
      · rw [if_pos (by omega), e, ig_self (by omega) h1]
      · rw [if_neg (by omega), ig_ne (by omega) q0 (by omega)]
def miF : Nat → Int → List Int → List Int
  | 0, _, w => w
  | k + 1, p, w => miF k (p - 1) (iu w (1 + p) (ig w (1 + (p - 1))))
theorem miF_len : ∀ (k : Nat) (p : Int) (l : List Int), (miF k p l).length = l.length
  | 0, _, _ => rfl
  | k + 1, p, l => by unfold miF; rw [miF_len k, iu_len]
theorem miF_ig : ∀ (k : Nat) (p : Int) (l : List Int) (q : Int), 0 ≤ p - k → p < 30 → l.length = 218 → 0 ≤ q → ig (miF k p l) q = if 1 + (p - k) < q ∧ q ≤ 1 + p then ig l (q - 1) else ig l q
  | 0, p, l, q, _, _, _, _ => by rw [if_neg (by omega)]; rfl
  | k + 1, p, l, q, h0, h1, hl, q0 => by
    unfold miF
    rw [miF_ig k (p - 1) _ q (by omega) (by omega) (by rw [iu_len]; exact hl) q0]
    by_cases c : 1 + (p - 1 - k) < q ∧ q ≤ 1 + (p - 1)
    · rw [if_pos c, if_pos (by omega), ig_ne (by omega) (by omega) (by omega)]
    · rw [if_neg c]
      by_cases e : q = 1 + p
      · rw [if_pos (by omega), e, ig_self (by omega) (by omega)]
        exact congrArg (ig l) (by omega)
      · rw [if_neg (by omega), ig_ne (by omega) q0 (by omega)]
def amW (W : List Int) (n at' z lv kd : Int) : List Int := iu (iu (iu (iu (iu (iu (iu W 0 (n + 1)) (1 + at') z) (31 + z) lv) (61 + z) kd) (91 + z) 0) (121 + z) 0) (151 + z) 0
theorem k3_ad_loop {h : ox_H} {m : Nat} {Y : ol} (hb : m + 6 < h.length) {n at' z lv kd : Int} (a0 : 0 ≤ at') (a1 : at' < 30) (z0 : 0 ≤ z) (z1 : z < 30) (v4 : Value) : ∀ (k : Nat) (p : Int) (W : List Int), p = at' + k → p < 30 → W.length = 218 → ig W 0 = n → oe 97 154 [.ref m, .int (iI at'), .int (iI lv), .int (iI kd), v4, .int (iI z), .int (iI p)] [] (mput h m (oset Y 0 W)) = some (some (.int (iI z)), mput h m (oset Y 0 (amW (miF k p W) n at' z lv kd))) := by
  intro k
  induction k with
  | zero =>
    intro p W hp p1 hl hn
    have n0 : (iu W 0 (n + 1)).length = 218 := by simp only [iu_len]; exact hl
    have n1 : (iu (iu W 0 (n + 1)) (1 + at') z).length = 218 := by simp only [iu_len]; exact hl
    have n2 : (iu (iu (iu W 0 (n + 1)) (1 + at') z) (31 + z) lv).length = 218 := by simp only [iu_len]; exact hl
    have n3 : (iu (iu (iu (iu W 0 (n + 1)) (1 + at') z) (31 + z) lv) (61 + z) kd).length = 218 := by simp only [iu_len]; exact hl
    have n4 : (iu (iu (iu (iu (iu W 0 (n + 1)) (1 + at') z) (31 + z) lv) (61 + z) kd) (91 + z) 0).length = 218 := by simp only [iu_len]; exact hl
    have n5 : (iu (iu (iu (iu (iu (iu W 0 (n + 1)) (1 + at') z) (31 + z) lv) (61 + z) kd) (91 + z) 0) (121 + z) 0).length = 218 := by simp only [iu_len]; exact hl
    rw [eX3_add_154]
    simp (maxSteps := 1000000) (disch := omega) only [eX3_add_156, eX3_add_157, eX3_add_160, eX3_add_161, eX3_add_164, eX3_add_165, eX3_add_167, eX3_add_168, eX3_add_169, eX3_add_171, eX3_add_172, eX3_add_173, eX3_add_176, eX3_add_177, eX3_add_180, eX3_add_183, eX3_add_184, eX3_add_187, eX3_add_188, eX3_add_189, eX3_add_190, eX3_add_191, eX3_add_192, eX3_add_193, eX3_add_194, eX3_add_197, eX3_add_198, eX3_add_199, eX3_add_200, eX3_add_202, eX3_add_203, eX3_add_204, eX3_add_207, eX3_add_209, eX3_add_211, eX3_add_212, eX3_add_213, eX3_add_214, eX3_add_215, eX3_add_218, eX3_add_220, eX3_add_222, eX3_add_223, eX3_add_224, eX3_add_225, eX3_add_226, eX3_add_229, eX3_add_231, eX3_add_233, eX3_add_234, eX3_add_235, eX3_add_236, eX3_add_237, eX3_add_240, eX3_add_242, eX3_add_244, eX3_add_245, eX3_add_246, eX3_add_247, eX3_add_248, eX3_add_251, eX3_add_254, eX3_add_256, eX3_add_257, eX3_add_258, eX3_add_259, eX3_add_261, ox_O_s, ox_B_s, ox_g_t, ox_A_s, ox_push_s, ox_push_n, ox_some, ox_z0, ox_z1, iI_lt, iI_eq, iI_add, iI_sub, ig_at, if_true, if_false, if_pos, if_neg, ig_set, mp_obj, mp_f0, mp_f1, mp_f2, mp_f3, mp_f4, mp_f5, mp_f6, mp_f7, mp_f8, mp_f9, mp_i0, mp_i1, mp_i2, mp_i3, mp_i4, mp_i5, mp_j0, mp_j1, mp_j2, mp_j3, mp_j4, mp_j5, mp_s0, mp_s1, mp_s2, mp_s3, mp_s4, mp_s5, mp_w2, mp_w4, mp_w6, mp_w9, oa_gl, ma_gl, os_2, os_1, ns_1, ns_2, os_os, ns_ns, hn]
    rfl
  | succ k ih =>
    intro p W hp p1 hl hn
    have hat := k3_at' (Y := oset Y 0 W) hb hl (p := p - 1) (by omega) (by omega)
    rw [os_2, if_pos rfl] at hat
    have i1 := ih (p - 1) (iu W (1 + p) (ig W (1 + (p - 1)))) (by omega) (by omega) (by rw [iu_len]; exact hl) (by rw [ig_ne (by omega) (by omega) (by omega)]; exact hn)
    unfold miF
    rw [← i1, eX3_add_154]
    simp (maxSteps := 1000000) (disch := omega) only [eX3_add_156, eX3_add_157, eX3_add_160, eX3_add_161, eX3_add_164, eX3_add_165, eX3_add_167, eX3_add_168, eX3_add_169, eX3_add_171, eX3_add_172, eX3_add_173, eX3_add_176, eX3_add_177, eX3_add_180, ox_O_s, ox_B_s, ox_g_t, ox_A_s, ox_push_s, ox_push_n, ox_some, ox_z0, ox_z1, iI_lt, iI_eq, iI_add, iI_sub, ig_at, if_true, if_false, if_pos, if_neg, ig_set, mp_obj, mp_f0, mp_f1, mp_f2, mp_f3, mp_f4, mp_f5, mp_f6, mp_f7, mp_f8, mp_f9, mp_i0, mp_i1, mp_i2, mp_i3, mp_i4, mp_i5, mp_j0, mp_j1, mp_j2, mp_j3, mp_j4, mp_j5, mp_s0, mp_s1, mp_s2, mp_s3, mp_s4, mp_s5, mp_w2, mp_w4, mp_w6, mp_w9, oa_gl, ma_gl, os_2, os_1, ns_1, ns_2, os_os, ns_ns, hat]
    rw [show p + -1 = p - 1 from rfl]
theorem k3_lf_loop {h : ox_H} {m : Nat} {X Y : ol} (hM : MA h m Y) (hR : Rel X (Y.2 0)) (hV : vx X) {z : Int} (hz : lfP X z) : ∀ (k : Nat) (y : Int), 0 ≤ y → y + k = z → oe 96 2 [.ref m, .int (iI y)] [] h = some (some (.int (iI z)), h) := by
  obtain ⟨z0, z1, z2, z3⟩ := hz
  have mO := (ma_facts hM).1
  intro k
  induction k with
  | zero =>
    intro y y0 e
    obtain rfl : y = z := by omega
    have hh := k3_isHeading0 hM hR hV (by omega) (by omega) z2
    rw [eX3_lowestFree_2]
    simp (disch := omega) only [eX3_lowestFree_0, eX3_lowestFree_1, eX3_lowestFree_3, eX3_lowestFree_4, eX3_lowestFree_7, eX3_lowestFree_10, eX3_lowestFree_13, eX3_lowestFree_16, eX3_lowestFree_17, ox_O_s, ox_B_s, ox_g_t, ox_A_s, ox_push_s, ox_push_n, ox_some, ox_z0, ox_z1, iI_lt, iI_eq, iI_add, iI_sub, ig_at, if_true, if_false, if_pos, if_neg, mO, hh]
  | succ k ih =>
    intro y y0 e
    obtain ⟨p, p0, p1, e1⟩ := z3 y y0 (by omega)
    have hh := k3_isHeading1 hM hR hV p0 p1
    rw [e1] at hh
    rw [eX3_lowestFree_2]
    simp (disch := omega) only [eX3_lowestFree_0, eX3_lowestFree_1, eX3_lowestFree_3, eX3_lowestFree_4, eX3_lowestFree_7, eX3_lowestFree_10, eX3_lowestFree_13, eX3_lowestFree_16, eX3_lowestFree_17, ox_O_s, ox_B_s, ox_g_t, ox_A_s, ox_push_s, ox_push_n, ox_some, ox_z0, ox_z1, iI_lt, iI_eq, iI_add, iI_sub, ig_at, if_true, if_false, if_pos, if_neg, mO, hh]
    exact ih (y + 1) (by omega) (by omega)
theorem k3_lowestFree {h : ox_H} {m : Nat} {X Y : ol} (hM : MA h m Y) (hR : Rel X (Y.2 0)) (hV : vx X) {z : Int} (hz : lfP X z) : oe 96 0 [.ref m, .null] [] h = some (some (.int (iI z)), h) := by
  have hk := k3_lf_loop hM hR hV hz z.toNat 0 (by omega) (by have := hz.1; omega)
  simp (disch := omega) only [eX3_lowestFree_0, eX3_lowestFree_1, eX3_lowestFree_3, eX3_lowestFree_4, eX3_lowestFree_7, eX3_lowestFree_10, eX3_lowestFree_13, eX3_lowestFree_16, eX3_lowestFree_17, ox_O_s, ox_B_s, ox_g_t, ox_A_s, ox_push_s, ox_push_n, ox_some, ox_z0, ox_z1, iI_lt, iI_eq, iI_add, iI_sub, ig_at, if_true, if_false, if_pos, if_neg]
  exact hk
/-- the first half of add: does it fit -/
theorem k3_ad_pre {h : ox_H} {m : Nat} {X Y : ol} (hM : MA h m Y) (hR : Rel X (Y.2 0)) (hV : vx X) {at' lv kd : Int} (a0 : 0 ≤ at') (a1 : at' ≤ X.1 0) (l0 : 1 ≤ lv) (l1 : lv ≤ 6) (q0 : 0 ≤ kd) (q1 : kd ≤ 3) : oe 97 0 [.ref m, .int (iI at'), .int (iI lv), .int (iI kd), .null, .null, .null] [] h = if lv ≤ lvA X (at' - 1) + 1 ∧ lvA X at' ≤ lv + 1 then oe 97 97 [.ref m, .int (iI at'), .int (iI lv), .int (iI kd), .int (iI 1), .null, .null] [] h else some (some (.int (iI (-2))), h) := by
  have mO := (ma_facts hM).1
  have hn := hV.2.1
  have hm := k3_many hM hR hV
  have i1 := k3_isIn (h := h) (a := at') (b := 0) (c := X.1 0) (by omega) (by omega) (by omega) (by omega) (by omega) (by omega)
  have i2 := k3_isIn (h := h) (a := lv) (b := 1) (c := 6) (by omega) (by omega) (by omega) (by omega) (by omega) (by omega)
  have i3 := k3_isIn (h := h) (a := kd) (b := 0) (c := 3) (by omega) (by omega) (by omega) (by omega) (by omega) (by omega)
  rw [decide_eq_true ⟨a0, a1⟩, zb_t] at i1
  rw [decide_eq_true ⟨l0, l1⟩, zb_t] at i2
  rw [decide_eq_true ⟨q0, q1⟩, zb_t] at i3
  have hb1 := lvA_b hV (at' - 1)
  have hb2 := lvA_b hV at'
  have key : ∀ f : Int, (f = 0 ∨ f = 1) → (f = 1 ↔ lv ≤ lvA X (at' - 1) + 1) → oe 97 68 [.ref m, .int (iI at'), .int (iI lv), .int (iI kd), .null, .null, .null] [.int (iI f)] h = if lv ≤ lvA X (at' - 1) + 1 ∧ lvA X at' ≤ lv + 1 then oe 97 97 [.ref m, .int (iI at'), .int (iI lv), .int (iI kd), .int (iI 1), .null, .null] [] h else some (some (.int (iI (-2))), h) := by
    intro f hf he
    by_cases c : f = 1
    · have h1 := he.mp c
      subst c
      by_cases c2 : at' < X.1 0
      · have hl := k3_levelAt hM hR hV a0 c2
        by_cases c3 : lvA X at' ≤ lv + 1
        · rw [if_pos ⟨h1, c3⟩]
          simp (maxSteps := 1000000) (disch := omega) only [eX3_add_68, eX3_add_70, eX3_add_72, eX3_add_75, eX3_add_76, eX3_add_77, eX3_add_80, eX3_add_83, eX3_add_84, eX3_add_85, eX3_add_88, eX3_add_89, eX3_add_90, eX3_add_91, eX3_add_94, eX3_add_96, ox_O_s, ox_B_s, ox_g_t, ox_A_s, ox_push_s, ox_push_n, ox_some, ox_z0, ox_z1, iI_lt, iI_eq, iI_add, iI_sub, ig_at, if_true, if_false, if_pos, if_neg, mO, hm, hl]
        · rw [if_neg (fun z => c3 z.2)]
          simp (maxSteps := 1000000) (disch := omega) only [eX3_add_68, eX3_add_70, eX3_add_72, eX3_add_75, eX3_add_76, eX3_add_77, eX3_add_80, eX3_add_83, eX3_add_84, eX3_add_85, eX3_add_88, eX3_add_89, eX3_add_90, eX3_add_91, eX3_add_94, eX3_add_96, ox_O_s, ox_B_s, ox_g_t, ox_A_s, ox_push_s, ox_push_n, ox_some, ox_z0, ox_z1, iI_lt, iI_eq, iI_add, iI_sub, ig_at, if_true, if_false, if_pos, if_neg, mO, hm, hl]
      · have : lvA X at' = 0 := if_neg (by omega)
        rw [if_pos ⟨h1, by omega⟩]
        simp (maxSteps := 1000000) (disch := omega) only [eX3_add_68, eX3_add_70, eX3_add_72, eX3_add_75, eX3_add_76, eX3_add_77, eX3_add_80, eX3_add_83, eX3_add_84, eX3_add_85, eX3_add_88, eX3_add_89, eX3_add_90, eX3_add_91, eX3_add_94, eX3_add_96, ox_O_s, ox_B_s, ox_g_t, ox_A_s, ox_push_s, ox_push_n, ox_some, ox_z0, ox_z1, iI_lt, iI_eq, iI_add, iI_sub, ig_at, if_true, if_false, if_pos, if_neg, mO, hm]
    · have h1 : ¬ lv ≤ lvA X (at' - 1) + 1 := fun z => c (he.mpr z)
      rw [if_neg (fun z => h1 z.1)]
      obtain rfl : f = 0 := by omega
      simp (maxSteps := 1000000) (disch := omega) only [eX3_add_68, eX3_add_70, eX3_add_72, eX3_add_75, eX3_add_76, eX3_add_77, eX3_add_80, eX3_add_83, eX3_add_84, eX3_add_85, eX3_add_88, eX3_add_89, eX3_add_90, eX3_add_91, eX3_add_94, eX3_add_96, ox_O_s, ox_B_s, ox_g_t, ox_A_s, ox_push_s, ox_push_n, ox_some, ox_z0, ox_z1, iI_lt, iI_eq, iI_add, iI_sub, ig_at, if_true, if_false, if_pos, if_neg, mO, hm]
  by_cases c : at' = 0
  · have hz : lvA X (at' - 1) = 0 := if_neg (by omega)
    by_cases c2 : lv = 1
    · have hk := key 1 (Or.inr rfl) ⟨fun _ => by omega, fun _ => rfl⟩
      rw [← hk]
      simp (maxSteps := 1000000) (disch := omega) only [eX3_add_0, eX3_add_1, eX3_add_2, eX3_add_3, eX3_add_6, eX3_add_9, eX3_add_12, eX3_add_13, eX3_add_14, eX3_add_16, eX3_add_19, eX3_add_22, eX3_add_23, eX3_add_24, eX3_add_25, eX3_add_28, eX3_add_31, eX3_add_32, eX3_add_33, eX3_add_34, eX3_add_37, eX3_add_38, eX3_add_39, eX3_add_42, eX3_add_43, eX3_add_46, eX3_add_47, eX3_add_50, eX3_add_51, eX3_add_52, eX3_add_53, eX3_add_54, eX3_add_55, eX3_add_58, eX3_add_59, eX3_add_60, eX3_add_63, eX3_add_64, eX3_add_67, ox_O_s, ox_B_s, ox_g_t, ox_A_s, ox_push_s, ox_push_n, ox_some, ox_z0, ox_z1, iI_lt, iI_eq, iI_add, iI_sub, ig_at, if_true, if_false, if_pos, if_neg, mO, hm, i1, i2, i3]
    · have hk := key 0 (Or.inl rfl) ⟨fun z => by omega, fun z => by omega⟩
      rw [← hk]
      simp (maxSteps := 1000000) (disch := omega) only [eX3_add_0, eX3_add_1, eX3_add_2, eX3_add_3, eX3_add_6, eX3_add_9, eX3_add_12, eX3_add_13, eX3_add_14, eX3_add_16, eX3_add_19, eX3_add_22, eX3_add_23, eX3_add_24, eX3_add_25, eX3_add_28, eX3_add_31, eX3_add_32, eX3_add_33, eX3_add_34, eX3_add_37, eX3_add_38, eX3_add_39, eX3_add_42, eX3_add_43, eX3_add_46, eX3_add_47, eX3_add_50, eX3_add_51, eX3_add_52, eX3_add_53, eX3_add_54, eX3_add_55, eX3_add_58, eX3_add_59, eX3_add_60, eX3_add_63, eX3_add_64, eX3_add_67, ox_O_s, ox_B_s, ox_g_t, ox_A_s, ox_push_s, ox_push_n, ox_some, ox_z0, ox_z1, iI_lt, iI_eq, iI_add, iI_sub, ig_at, if_true, if_false, if_pos, if_neg, mO, hm, i1, i2, i3]
  · have hl := k3_levelAt hM hR hV (p := at' - 1) (by omega) (by omega)
    by_cases c2 : lv ≤ lvA X (at' - 1) + 1
    · have hk := key 1 (Or.inr rfl) ⟨fun _ => c2, fun _ => rfl⟩
      rw [← hk]
      simp (maxSteps := 1000000) (disch := omega) only [eX3_add_0, eX3_add_1, eX3_add_2, eX3_add_3, eX3_add_6, eX3_add_9, eX3_add_12, eX3_add_13, eX3_add_14, eX3_add_16, eX3_add_19, eX3_add_22, eX3_add_23, eX3_add_24, eX3_add_25, eX3_add_28, eX3_add_31, eX3_add_32, eX3_add_33, eX3_add_34, eX3_add_37, eX3_add_38, eX3_add_39, eX3_add_42, eX3_add_43, eX3_add_46, eX3_add_47, eX3_add_50, eX3_add_51, eX3_add_52, eX3_add_53, eX3_add_54, eX3_add_55, eX3_add_58, eX3_add_59, eX3_add_60, eX3_add_63, eX3_add_64, eX3_add_67, ox_O_s, ox_B_s, ox_g_t, ox_A_s, ox_push_s, ox_push_n, ox_some, ox_z0, ox_z1, iI_lt, iI_eq, iI_add, iI_sub, ig_at, if_true, if_false, if_pos, if_neg, mO, hm, i1, i2, i3, hl]
    · have hk := key 0 (Or.inl rfl) ⟨fun z => by omega, fun z => by omega⟩
      rw [← hk]
      simp (maxSteps := 1000000) (disch := omega) only [eX3_add_0, eX3_add_1, eX3_add_2, eX3_add_3, eX3_add_6, eX3_add_9, eX3_add_12, eX3_add_13, eX3_add_14, eX3_add_16, eX3_add_19, eX3_add_22, eX3_add_23, eX3_add_24, eX3_add_25, eX3_add_28, eX3_add_31, eX3_add_32, eX3_add_33, eX3_add_34, eX3_add_37, eX3_add_38, eX3_add_39, eX3_add_42, eX3_add_43, eX3_add_46, eX3_add_47, eX3_add_50, eX3_add_51, eX3_add_52, eX3_add_53, eX3_add_54, eX3_add_55, eX3_add_58, eX3_add_59, eX3_add_60, eX3_add_63, eX3_add_64, eX3_add_67, ox_O_s, ox_B_s, ox_g_t, ox_A_s, ox_push_s, ox_push_n, ox_some, ox_z0, ox_z1, iI_lt, iI_eq, iI_add, iI_sub, ig_at, if_true, if_false, if_pos, if_neg, mO, hm, i1, i2, i3, hl]
/-- what stands at a place behind an insertion -/
theorem in_od {X : ol} (hV : vx X) {z at' lv kd : Int} (a0 : 0 ≤ at') (a1 : at' ≤ X.1 0) (n1 : X.1 0 < 30) {q : Int} (q0 : 0 ≤ q) (q1 : q < X.1 0 + 1) : ig ((inX X z at' lv kd).2 0) q = if at' = q then z else ig (X.2 0) (if at' < q then q - 1 else q) := by
  show ig (iu (inF (X.1 0 - at').toNat (X.1 0) (X.2 0)) at' z) q = _
  have l0 : (X.2 0).length = 30 := hV.1 0 (by decide)
  rw [ig_iu a0 (by rw [inF_len]; omega) q0]
  by_cases e : at' = q
  · rw [if_pos e, if_pos e]
  · rw [if_neg e, if_neg e, inF_ig _ _ _ _ (by omega) (by omega) q0]
    by_cases c : at' < q
    · rw [if_pos (by omega), if_pos c]
    · rw [if_neg (by omega), if_neg c]
theorem vx_in {X : ol} (hV : vx X) {z at' lv kd : Int} (hz : lfP X z) (a0 : 0 ≤ at') (a1 : at' ≤ X.1 0) (n1 : X.1 0 < 30) (l0 : 1 ≤ lv) (l1 : lv ≤ 6) (q0 : 0 ≤ kd) (q1 : kd ≤ 3) (h1 : lv ≤ lvA X (at' - 1) + 1) (h2 : lvA X at' ≤ lv + 1) : vx (inX X z at' lv kd) := by
  obtain ⟨z0, z1, z2, z3⟩ := hz
  have hn := hV.2.1
  have hod := fun q qa qb => in_od hV (z := z) (lv := lv) (kd := kd) a0 a1 n1 (q := q) qa qb
  have hn' : (inX X z at' lv kd).1 0 = X.1 0 + 1 := rfl
  have ll : ∀ j, j < 6 → (X.2 j).length = 30 := fun j hj => by
    have := hV.1 j (by omega)
    rw [this]
    match j, hj with
    | 0, _ => rfl
    | 1, _ => rfl
    | 2, _ => rfl
    | 3, _ => rfl
    | 4, _ => rfl
    | 5, _ => rfl
  have e1 : (inX X z at' lv kd).2 1 = iu (X.2 1) z lv := rfl
  have e2 : (inX X z at' lv kd).2 2 = iu (X.2 2) z kd := rfl
  have e3 : (inX X z at' lv kd).2 3 = iu (X.2 3) z 0 := rfl
  have e4 : (inX X z at' lv kd).2 4 = iu (X.2 4) z 0 := rfl
  have e5 : (inX X z at' lv kd).2 5 = iu (X.2 5) z 0 := rfl
  have g1 := ll 1 (by omega)
  have g2 := ll 2 (by omega)
  have g3 := ll 3 (by omega)
  have g4 := ll 4 (by omega)
  have g5 := ll 5 (by omega)
  have src : ∀ q, 0 ≤ q → q < X.1 0 + 1 → at' ≠ q → 0 ≤ (if at' < q then q - 1 else q) ∧ (if at' < q then q - 1 else q) < X.1 0 := fun q a b c => by split <;> omega
  have mem : ∀ s, (∃ p, 0 ≤ p ∧ p < X.1 0 ∧ ig (X.2 0) p = s) → ∃ p, 0 ≤ p ∧ p < X.1 0 + 1 ∧ ig ((inX X z at' lv kd).2 0) p = s := by
    intro s ⟨p, p0, p1, e⟩
    by_cases c : p < at'
    · refine ⟨p, p0, by omega, ?_⟩
      rw [hod p p0 (by omega), if_neg (by omega), if_neg (by omega)]; exact e
    · refine ⟨p + 1, by omega, by omega, ?_⟩
      rw [hod _ (by omega) (by omega), if_neg (by omega), if_pos (by omega), show p + 1 - 1 = p by omega]; exact e
  have lev : ∀ q, 0 ≤ q → q < X.1 0 + 1 → ig ((inX X z at' lv kd).2 1) (ig ((inX X z at' lv kd).2 0) q) = if at' = q then lv else lvA X (if at' < q then q - 1 else q) := fun q a b => by
    rw [e1, hod q a b]
    by_cases c : at' = q
    · rw [if_pos c, if_pos c, ig_self z0 (by omega)]
    · obtain ⟨x, y⟩ := src q a b c
      rw [if_neg c, if_neg c, ig_ne z0 (hV.2.2.1 _ x y).1 (fun u => z2 _ x y u.symm), lvA_in x y]
  refine ⟨fun k hk => ?_, by rw [hn']; omega, fun q a b => ?_, fun q r qa qb ra rb e => ?_, fun q a b => ?_, fun a => ?_, fun q a b => ?_, fun k k0 k1 hk => ?_, hV.2.2.2.2.2.2.2.2.1, hV.2.2.2.2.2.2.2.2.2.1, hV.2.2.2.2.2.2.2.2.2.2.1, hV.2.2.2.2.2.2.2.2.2.2.2.1, fun k k0 k1 => ?_⟩
  · by_cases c : 6 ≤ k
    · have : (inX X z at' lv kd).2 k = X.2 k := by
        unfold inX
        rw [os_2, if_neg (by omega), os_2, if_neg (by omega), os_2, if_neg (by omega), os_2, if_neg (by omega), os_2, if_neg (by omega), ns_2, os_2, if_neg (by omega)]
      rw [this]; exact hV.1 k hk
    · have := hV.1 k hk
      match k, c with
      | 0, _ => show (iu (inF (X.1 0 - at').toNat (X.1 0) (X.2 0)) at' z).length = _; rw [iu_len, inF_len]; exact this
      | 1, _ => rw [e1, iu_len]; exact this
      | 2, _ => rw [e2, iu_len]; exact this
      | 3, _ => rw [e3, iu_len]; exact this
      | 4, _ => rw [e4, iu_len]; exact this
      | 5, _ => rw [e5, iu_len]; exact this
      | k + 6, c => exact absurd c (by omega)
  · rw [hn'] at b
    rw [hod q a b]
    by_cases c : at' = q
    · rw [if_pos c]; omega
    · rw [if_neg c]; exact hV.2.2.1 _ (src q a b c).1 (src q a b c).2
  · rw [hn'] at qb rb
    rw [hod q qa qb, hod r ra rb] at e
    by_cases c : at' = q
    · by_cases c' : at' = r
      · omega
      · rw [if_pos c, if_neg c'] at e
        exact absurd e.symm (z2 _ (src r ra rb c').1 (src r ra rb c').2)
    · by_cases c' : at' = r
      · rw [if_neg c, if_pos c'] at e
        exact absurd e (z2 _ (src q qa qb c).1 (src q qa qb c).2)
      · rw [if_neg c, if_neg c'] at e
        have := hV.2.2.2.1 _ _ (src q qa qb c).1 (src q qa qb c).2 (src r ra rb c').1 (src r ra rb c').2 e
        split at this <;> split at this <;> omega
  · rw [hn'] at b
    rw [lev q a b, e2, e3, e4, e5, hod q a b]
    by_cases c : at' = q
    · rw [if_pos c, if_pos c, ig_self z0 (by omega), ig_self z0 (by omega), ig_self z0 (by omega), ig_self z0 (by omega)]
      omega
    · obtain ⟨x, y⟩ := src q a b c
      have hz' := (hV.2.2.1 _ x y).1
      have hne := fun u : z = ig (X.2 0) (if at' < q then q - 1 else q) => z2 _ x y u.symm
      rw [if_neg c, if_neg c, ig_ne z0 hz' hne, ig_ne z0 hz' hne, ig_ne z0 hz' hne, ig_ne z0 hz' hne, lvA_in x y]
      exact hV.2.2.2.2.1 _ x y
  · rw [lev 0 (by omega) (by omega)]
    by_cases c : at' = 0
    · rw [if_pos c]
      have : lvA X (at' - 1) = 0 := if_neg (by omega)
      omega
    · rw [if_neg c, if_neg (by omega)]
      exact lv_0 hV (by omega)
  · rw [hn'] at b
    rw [lev q a (by omega), lev (q + 1) (by omega) (by omega)]
    by_cases c : at' = q + 1
    · rw [if_pos c, if_neg (by omega), if_neg (by omega)]
      rw [c, show q + 1 - 1 = q by omega] at h1
      exact h1
    · rw [if_neg c]
      by_cases c' : at' = q
      · rw [if_pos c', if_pos (by omega), show q + 1 - 1 = q by omega, ← c']
        exact h2
      · rw [if_neg c']
        by_cases c2 : at' < q
        · rw [if_pos (by omega), if_pos c2]
          have := lv_step hV (r := q - 1) (by omega) (by omega)
          rw [show q - 1 + 1 = q + 1 - 1 by omega] at this
          exact this
        · rw [if_neg (by omega), if_neg c2]
          exact lv_step hV a (by omega)
  · have hne : z ≠ k := fun u => hk at' a0 (by rw [hn']; omega) (by rw [hod at' a0 (by omega), if_pos rfl]; exact u)
    rw [e1, ig_ne z0 k0 hne]
    refine hV.2.2.2.2.2.2.2.1 k k0 k1 (fun p p0 p1 u => ?_)
    obtain ⟨p', a, b, c⟩ := mem k ⟨p, p0, p1, u⟩
    exact hk p' a (by rw [hn']; exact b) c
  · obtain ⟨a, b⟩ := hV.2.2.2.2.2.2.2.2.2.2.2.2 k k0 k1
    refine ⟨mem _ a, ?_⟩
    rcases b with b | b
    · exact Or.inl b
    · exact Or.inr (mem _ b)
theorem am_ig {W : List Int} {n at' z lv kd : Int} (hl : W.length = 218) (a0 : 0 ≤ at') (a1 : at' < 30) (z0 : 0 ≤ z) (z1 : z < 30) {q : Int} (q0 : 0 ≤ q) : ig (amW W n at' z lv kd) q = if q = 151 + z then 0 else if q = 121 + z then 0 else if q = 91 + z then 0 else if q = 61 + z then kd else if q = 31 + z then lv else if q = 1 + at' then z else if q = 0 then n + 1 else ig W q := by
  have sw : ∀ {a b : Int} {x y : Int}, (if a = b then x else y) = if b = a then x else y := fun {a b x y} => by
    by_cases c : a = b
    · rw [if_pos c, if_pos c.symm]
    · rw [if_neg c, if_neg (fun u => c u.symm)]
  unfold amW
  rw [ig_iu (by omega) (by simp only [iu_len]; omega) q0, ig_iu (by omega) (by simp only [iu_len]; omega) q0, ig_iu (by omega) (by simp only [iu_len]; omega) q0, ig_iu (by omega) (by simp only [iu_len]; omega) q0, ig_iu (by omega) (by simp only [iu_len]; omega) q0, ig_iu (by omega) (by simp only [iu_len]; omega) q0, ig_iu (by omega) (by omega) q0, sw (a := 151 + z), sw (a := 121 + z), sw (a := 91 + z), sw (a := 61 + z), sw (a := 31 + z), sw (a := 1 + at'), sw (a := 0)]
theorem am_len {W : List Int} {n at' z lv kd : Int} : (amW W n at' z lv kd).length = W.length := by
  unfold amW
  simp only [iu_len]
theorem rel_in {X : ol} {w : List Int} (hV : vx X) (hR : Rel X w) {z at' lv kd : Int} (hz : lfP X z) (a0 : 0 ≤ at') (a1 : at' ≤ X.1 0) (n1 : X.1 0 < 30) : Rel (inX X z at' lv kd) (amW (miF (X.1 0 - at').toNat (X.1 0) w) (X.1 0) at' z lv kd) := by
  obtain ⟨z0, z1, z2, z3⟩ := hz
  obtain ⟨rl, r0, r1, r2, r3, r4, r5, r6, r7, r8⟩ := hR
  have hn := hV.2.1
  have hm := hV.2.2.2.2.2.2.2.2.2.2.2.1
  have hod := fun q qa qb => in_od hV (z := z) (lv := lv) (kd := kd) a0 a1 n1 (q := q) qa qb
  have hn' : (inX X z at' lv kd).1 0 = X.1 0 + 1 := rfl
  have ml : (miF (X.1 0 - at').toNat (X.1 0) w).length = 218 := by rw [miF_len]; exact rl
  have hig := fun q (qa : 0 ≤ q) => am_ig (n := X.1 0) (lv := lv) (kd := kd) ml a0 (show at' < 30 by omega) z0 z1 (q := q) qa
  have hmi : ∀ q, 31 ≤ q → ig (miF (X.1 0 - at').toNat (X.1 0) w) q = ig w q := fun q q0 => by rw [miF_ig _ _ _ _ (by omega) (by omega) rl (by omega), if_neg (by omega)]
  have hhi : ∀ q, 181 ≤ q → ig (amW (miF (X.1 0 - at').toNat (X.1 0) w) (X.1 0) at' z lv kd) q = ig w q := fun q q0 => by
    rw [hig q (by omega), if_neg (by omega), if_neg (by omega), if_neg (by omega), if_neg (by omega), if_neg (by omega), if_neg (by omega), if_neg (by omega), hmi q (by omega)]
  have src : ∀ q, 0 ≤ q → q < X.1 0 + 1 → at' ≠ q → 0 ≤ (if at' < q then q - 1 else q) ∧ (if at' < q then q - 1 else q) < X.1 0 := fun q a b c => by split <;> omega
  have l1 : (X.2 1).length = 30 := hV.1 1 (by decide)
  have l2 : (X.2 2).length = 30 := hV.1 2 (by decide)
  have l3 : (X.2 3).length = 30 := hV.1 3 (by decide)
  have l4 : (X.2 4).length = 30 := hV.1 4 (by decide)
  have l5 : (X.2 5).length = 30 := hV.1 5 (by decide)
  have e1 : (inX X z at' lv kd).2 1 = iu (X.2 1) z lv := rfl
  have e2 : (inX X z at' lv kd).2 2 = iu (X.2 2) z kd := rfl
  have e3 : (inX X z at' lv kd).2 3 = iu (X.2 3) z 0 := rfl
  have e4 : (inX X z at' lv kd).2 4 = iu (X.2 4) z 0 := rfl
  have e5 : (inX X z at' lv kd).2 5 = iu (X.2 5) z 0 := rfl
  refine ⟨by rw [am_len]; exact ml, ?_, fun q a b => ?_, fun q a b => ?_, fun k k0 k1 => ?_, ?_, fun l la lb => ?_, ?_, fun k k0 k1 => ?_, ?_⟩
  · rw [hig 0 (by omega), if_neg (by omega), if_neg (by omega), if_neg (by omega), if_neg (by omega), if_neg (by omega), if_neg (by omega), if_pos rfl]; rfl
  · rw [hn'] at b
    rw [hod q a b, hig _ (by omega), if_neg (by omega), if_neg (by omega), if_neg (by omega), if_neg (by omega), if_neg (by omega)]
    by_cases c : at' = q
    · rw [if_pos (by omega), if_pos c]
    · rw [if_neg (by omega), if_neg (by omega), if_neg c, miF_ig _ _ _ _ (by omega) (by omega) rl (by omega)]
      by_cases c2 : at' < q
      · rw [if_pos (by omega), if_pos c2, show 1 + q - 1 = 1 + (q - 1) by omega]; exact r1 _ (by omega) (by omega)
      · rw [if_neg (by omega), if_neg c2]; exact r1 _ a (by omega)
  · rw [hn'] at b
    rw [hod q a b, e1, e2, e3, e4, e5]
    by_cases c : at' = q
    · rw [if_pos c, ig_self z0 (by omega), ig_self z0 (by omega), ig_self z0 (by omega), ig_self z0 (by omega), ig_self z0 (by omega)]
      refine ⟨?_, ?_, ?_, ?_, ?_⟩
      · rw [hig _ (by omega), if_neg (by omega), if_neg (by omega), if_neg (by omega), if_neg (by omega), if_pos rfl]
      · rw [hig _ (by omega), if_neg (by omega), if_neg (by omega), if_neg (by omega), if_pos rfl]
      · rw [hig _ (by omega), if_neg (by omega), if_neg (by omega), if_pos rfl]
      · rw [hig _ (by omega), if_neg (by omega), if_pos rfl]
      · rw [hig _ (by omega), if_pos rfl]
    · obtain ⟨x, y⟩ := src q a b c
      rw [if_neg c]
      generalize hse : (if at' < q then q - 1 else q) = s at x y
      have hs := hV.2.2.1 s x y
      have hne : z ≠ ig (X.2 0) s := fun u => z2 s x y u.symm
      rw [ig_ne z0 hs.1 hne, ig_ne z0 hs.1 hne, ig_ne z0 hs.1 hne, ig_ne z0 hs.1 hne, ig_ne z0 hs.1 hne]
      have hh : ∀ i, 31 ≤ i → i < 181 → i ≠ 31 + z → i ≠ 61 + z → i ≠ 91 + z → i ≠ 121 + z → i ≠ 151 + z → ig (amW (miF (X.1 0 - at').toNat (X.1 0) w) (X.1 0) at' z lv kd) i = ig w i := fun i i0 i1 u1 u2 u3 u4 u5 => by
        rw [hig i (by omega), if_neg u5, if_neg u4, if_neg u3, if_neg u2, if_neg u1, if_neg (by omega), if_neg (by omega), hmi i i0]
      rw [hh _ (by omega) (by omega) (by omega) (by omega) (by omega) (by omega) (by omega), hh _ (by omega) (by omega) (by omega) (by omega) (by omega) (by omega) (by omega), hh _ (by omega) (by omega) (by omega) (by omega) (by omega) (by omega) (by omega), hh _ (by omega) (by omega) (by omega) (by omega) (by omega) (by omega) (by omega), hh _ (by omega) (by omega) (by omega) (by omega) (by omega) (by omega) (by omega)]
      exact r2 s x y
  · rw [hhi _ (by omega)]; exact r3 k k0 k1
  · rw [hhi _ (by omega)]; exact r4
  · rw [hhi _ (by omega)]; exact r5 l la lb
  · rw [hhi _ (by omega)]; exact r6
  · rw [hhi _ (by omega), hhi _ (by omega)]; exact r7 k k0 k1
  · rw [hhi _ (by omega)]; exact r8
theorem st_add {xs : List Int32} {h : ox_H} (hS : Sm xs h) (a b d : Int32) : ST xs h (fun h => oe 47 0 [.ref 4, .int a, .int b, .int d, .null] [] h) (fun h => oe 97 0 [.ref 133, .int a, .int b, .int d, .null, .null, .null] [] h) := by
  obtain ⟨X, c, A, H, I, K, T, U, Y, h0, hC, hM, hR⟩ := sm_parts hS
  obtain ⟨s1, s2, s3, s4, s5, -⟩ := id hR
  obtain ⟨b1, b2, b3, -⟩ := id hC
  have hw : (Y.2 0).length = 218 := s2.1
  obtain ⟨f0, f1, f2, f3, f4, f5, f6, f7, f8, f9, f10, f11, f12, f13, f14, f15⟩ := CS_facts hC
  have mO := (ma_facts hM).1
  obtain ⟨at', rfl, a0, a1⟩ := iI_ex a
  obtain ⟨lv, rfl, l0, l1⟩ := iI_ex b
  obtain ⟨kd, rfl, k0, k1⟩ := iI_ex d
  have hn := s1.2.1
  have ng := (oa_facts b3).2.1
  have hm := k3_many hM s2 s1
  have w1 := k2_within (h := h) (a := at') (b := 0) (c := X.1 0) a0 a1 (by omega) (by omega) (by omega) (by omega)
  have w2 := k2_within (h := h) (a := lv) (b := 1) (c := 6) l0 l1 (by omega) (by omega) (by omega) (by omega)
  have w3 := k2_within (h := h) (a := kd) (b := 0) (c := 3) k0 k1 (by omega) (by omega) (by omega) (by omega)
  have i1 := k3_isIn (h := h) (a := at') (b := 0) (c := X.1 0) a0 a1 (by omega) (by omega) (by omega) (by omega)
  have i2 := k3_isIn (h := h) (a := lv) (b := 1) (c := 6) l0 l1 (by omega) (by omega) (by omega) (by omega)
  have i3 := k3_isIn (h := h) (a := kd) (b := 0) (c := 3) k0 k1 (by omega) (by omega) (by omega) (by omega)
  by_cases r1 : 0 ≤ at' ∧ at' ≤ X.1 0
  · rw [decide_eq_true r1, zb_t] at w1 i1
    by_cases r2 : 1 ≤ lv ∧ lv ≤ 6
    · rw [decide_eq_true r2, zb_t] at w2 i2
      by_cases r3 : 0 ≤ kd ∧ kd ≤ 3
      · rw [decide_eq_true r3, zb_t] at w3 i3
        have hb1 := lvA_b s1 (at' - 1)
        have hb2 := lvA_b s1 at'
        have x1 := k1_levelAt b3 s1 (p := at' - 1) (by omega) (by omega)
        have x2 := k1_levelAt b3 s1 (p := at') (by omega) (by omega)
        have mPre := fun (h' : ox_H) (hM' : MA h' 133 Y) => k3_ad_pre hM' s2 s1 r1.1 r1.2 r2.1 r2.2 r3.1 r3.2
        by_cases fit : lv ≤ lvA X (at' - 1) + 1 ∧ lvA X at' ≤ lv + 1
        · simp only [if_pos fit] at mPre
          by_cases full : X.1 0 = 30
          · refine ST_same (v := iI (-3)) hS ?_ ?_
            · simp (disch := omega) only [eX2_add_0, eX2_add_1, eX2_add_2, eX2_add_3, eX2_add_6, eX2_add_9, eX2_add_12, eX2_add_15, eX2_add_16, eX2_add_17, eX2_add_19, eX2_add_22, eX2_add_25, eX2_add_26, eX2_add_27, eX2_add_28, eX2_add_31, eX2_add_34, eX2_add_35, eX2_add_36, eX2_add_37, eX2_add_38, eX2_add_41, eX2_add_42, eX2_add_43, eX2_add_44, eX2_add_47, eX2_add_48, eX2_add_49, eX2_add_52, eX2_add_53, eX2_add_56, eX2_add_57, eX2_add_60, eX2_add_61, eX2_add_62, eX2_add_63, eX2_add_66, eX2_add_68, eX2_add_69, eX2_add_70, eX2_add_73, eX2_add_76, eX2_add_78, eX2_add_81, eX2_add_83, eX2_add_84, eX2_add_85, eX2_add_88, eX2_add_89, eX2_add_90, eX2_add_93, eX2_add_95, eX2_add_96, eX2_add_99, eX2_add_100, eX2_add_103, eX2_add_105, eX2_add_108, eX2_add_109, eX2_add_112, eX2_add_115, eX2_add_116, eX2_add_119, eX2_add_120, eX2_add_121, eX2_add_122, eX2_add_123, eX2_add_124, eX2_add_127, eX2_add_130, eX2_add_132, eX2_add_133, eX2_add_134, eX2_add_137, eX2_add_138, eX2_add_141, eX2_add_142, eX2_add_143, eX2_add_144, eX2_add_147, ox_O_s, ox_B_s, ox_g_t, ox_A_s, ox_push_s, ox_push_n, ox_some, ox_z0, ox_z1, iI_lt, iI_eq, iI_add, iI_sub, ig_at, if_true, if_false, if_pos, if_neg, f0, f1, f2, f3, f4, f5, f6, f7, f8, f9, f10, f11, f12, f13, f14, f15, ng, w1, w2, w3, x1, x2]
            · simp only [mPre _ hM]
              simp (maxSteps := 1000000) (disch := omega) only [eX3_add_97, eX3_add_98, eX3_add_101, eX3_add_103, eX3_add_106, eX3_add_108, eX3_add_109, eX3_add_110, eX3_add_111, eX3_add_112, eX3_add_113, eX3_add_116, eX3_add_117, eX3_add_120, eX3_add_123, eX3_add_124, eX3_add_125, eX3_add_126, eX3_add_127, eX3_add_128, eX3_add_129, eX3_add_132, eX3_add_135, eX3_add_137, eX3_add_138, eX3_add_139, eX3_add_142, eX3_add_143, eX3_add_146, eX3_add_148, eX3_add_149, eX3_add_152, ox_O_s, ox_B_s, ox_g_t, ox_A_s, ox_push_s, ox_push_n, ox_some, ox_z0, ox_z1, iI_lt, iI_eq, iI_add, iI_sub, ig_at, if_true, if_false, if_pos, if_neg, mO, hm]
          · have hpa := k1_placeAbove b3 s1 (p := at') (lv := lv) (by omega) (by omega) (by omega) (by omega)
            have hpb := pA_b (lvA X) lv at'.toNat
            have hka := k1_kindAt b3 s1 (p := pA (lvA X) lv at'.toNat) (by omega) (by omega)
            have hkb := kdA_b s1 (pA (lvA X) lv at'.toNat)
            have hal := k1_allows b3 s1 (pk := kdA X (pA (lvA X) lv at'.toNat)) (k := kd) hkb.1 hkb.2 r3.1 r3.2
            have haa := k1_allowsAll b3 s1 (pk := kd) (p := at') (lv := lv + 1) (by omega) r3.2 (by omega) (by omega) r1.1 r1.2
            have mAll := fun (h' : ox_H) (hM' : MA h' 133 Y) => And.intro (k3_many hM' s2 s1) (And.intro (k3_parentFor hM' s2 s1 (p := at') (lv := lv) (by omega) (by omega) r1.1 r1.2) (And.intro (k3_isAllowed hM' s2 s1 (q := pA (lvA X) lv at'.toNat) (k := kd) (by omega) (by omega) r3.1 r3.2) (k3_mayHave hM' s2 s1 (pk := kd) (p := at') (lv := lv + 1) r3.1 r3.2 (by omega) (by omega) r1.1 r1.2)))
            by_cases ok : alw X (kdA X (pA (lvA X) lv at'.toNat)) kd = true ∧ aaX X kd at' (lv + 1) = true
            · rw [ok.1] at hal
              rw [ok.2] at haa
              simp only [ok.1, ok.2, zb_t] at mAll
              obtain ⟨z, hz⟩ := lf_ex (X := X) ⟨hn.1, by omega⟩
              obtain ⟨h', A', e1, hC', hfr⟩ := k2_remember hC s1.1 s3.1 s3.2
              have hO' := hC'.2.2.1
              have hl' : h'.length = 140 := hC'.1
              rw [← hput_self hO'] at e1
              have hC2 := CS_now (X' := X) hC'
              obtain ⟨g0, g1, g2, g3, g4, g5, g6, g7, g8, g9, g10, g11, g12, g13, g14, g15⟩ := CS_facts hC2
              have hb5 : 5 + 10 < h'.length := by omega
              have hin := k1_insert (h := h') (lv := lv) (kd := kd) hb5 s1 hz r1.1 r1.2 (by omega)
              have hb6 : 133 + 6 < (hput h' 5 (inX X z at' lv kd)).length := by rw [gp_len]; omega
              have e0 := (paN_k Y).2.2.1 0 (by decide)
              have es : oset (paN Y) 0 (Y.2 0) = paN Y := by rw [← e0]; exact os_self
              refine ST_chg0 (h1 := hput h' 5 (inX X z at' lv kd)) (v := iI z) h0 hM hR ?_ (CS_now hC') (fun a ha => by rw [gp_out (by omega)]; exact hfr a ha) (w' := amW (miF (X.1 0 - at').toNat (X.1 0) (Y.2 0)) (X.1 0) at' z lv kd) ?_ (vx_in s1 hz r1.1 r1.2 (by omega) r2.1 r2.2 r3.1 r3.2 fit.1 fit.2) (rel_in s1 s2 hz r1.1 r1.2 (by omega))
              · simp (disch := omega) only [eX2_add_0, eX2_add_1, eX2_add_2, eX2_add_3, eX2_add_6, eX2_add_9, eX2_add_12, eX2_add_15, eX2_add_16, eX2_add_17, eX2_add_19, eX2_add_22, eX2_add_25, eX2_add_26, eX2_add_27, eX2_add_28, eX2_add_31, eX2_add_34, eX2_add_35, eX2_add_36, eX2_add_37, eX2_add_38, eX2_add_41, eX2_add_42, eX2_add_43, eX2_add_44, eX2_add_47, eX2_add_48, eX2_add_49, eX2_add_52, eX2_add_53, eX2_add_56, eX2_add_57, eX2_add_60, eX2_add_61, eX2_add_62, eX2_add_63, eX2_add_66, eX2_add_68, eX2_add_69, eX2_add_70, eX2_add_73, eX2_add_76, eX2_add_78, eX2_add_81, eX2_add_83, eX2_add_84, eX2_add_85, eX2_add_88, eX2_add_89, eX2_add_90, eX2_add_93, eX2_add_95, eX2_add_96, eX2_add_99, eX2_add_100, eX2_add_103, eX2_add_105, eX2_add_108, eX2_add_109, eX2_add_112, eX2_add_115, eX2_add_116, eX2_add_119, eX2_add_120, eX2_add_121, eX2_add_122, eX2_add_123, eX2_add_124, eX2_add_127, eX2_add_130, eX2_add_132, eX2_add_133, eX2_add_134, eX2_add_137, eX2_add_138, eX2_add_141, eX2_add_142, eX2_add_143, eX2_add_144, eX2_add_147, ox_O_s, ox_B_s, ox_g_t, ox_A_s, ox_push_s, ox_push_n, ox_some, ox_z0, ox_z1, iI_lt, iI_eq, iI_add, iI_sub, ig_at, if_true, if_false, if_pos, if_neg, f0, f1, f2, f3, f4, f5, f6, f7, f8, f9, f10, f11, f12, f13, f14, f15, ng, w1, w2, w3, x1, x2, hpa, hka, hal, haa, zb_t, e1, g0, g1, g2, g3, g4, g5, g6, g7, g8, g9, g10, g11, g12, g13, g14, g15, hin]
              · obtain ⟨c1, c2, c3, c4⟩ := mAll _ (ma_put (X := Y) hb6)
                have hr := k3_remember hb6 hw s5 (by omega) (by omega)
                have hlf := k3_lowestFree (ma_put (X := paN Y) hb6) (by rw [e0]; exact s2) s1 hz
                have hm2 := k3_many (ma_put (X := paN Y) hb6) (by rw [e0]; exact s2) s1
                have hlp := k3_ad_loop (Y := paN Y) (n := X.1 0) (lv := lv) (kd := kd) hb6 r1.1 (by omega) hz.1 hz.2.1 (.int (iI 1)) (X.1 0 - at').toNat (X.1 0) (Y.2 0) (by omega) (by omega) hw s2.2.1
                rw [es] at hlp
                simp only [mPre _ (ma_put (X := Y) hb6)]
                simp (maxSteps := 1000000) (disch := omega) only [eX3_add_97, eX3_add_98, eX3_add_101, eX3_add_103, eX3_add_106, eX3_add_108, eX3_add_109, eX3_add_110, eX3_add_111, eX3_add_112, eX3_add_113, eX3_add_116, eX3_add_117, eX3_add_120, eX3_add_123, eX3_add_124, eX3_add_125, eX3_add_126, eX3_add_127, eX3_add_128, eX3_add_129, eX3_add_132, eX3_add_135, eX3_add_137, eX3_add_138, eX3_add_139, eX3_add_142, eX3_add_143, eX3_add_146, eX3_add_148, eX3_add_149, eX3_add_152, ox_O_s, ox_B_s, ox_g_t, ox_A_s, ox_push_s, ox_push_n, ox_some, ox_z0, ox_z1, iI_lt, iI_eq, iI_add, iI_sub, ig_at, if_true, if_false, if_pos, if_neg, mp_obj, c1, c2, c3, c4, hr, hlf, hm2]
                exact hlp
            · refine ST_same (v := iI (-4)) hS ?_ ?_
              · cases q1 : alw X (kdA X (pA (lvA X) lv at'.toNat)) kd with
                | false =>
                  rw [q1] at hal
                  simp (disch := omega) only [eX2_add_0, eX2_add_1, eX2_add_2, eX2_add_3, eX2_add_6, eX2_add_9, eX2_add_12, eX2_add_15, eX2_add_16, eX2_add_17, eX2_add_19, eX2_add_22, eX2_add_25, eX2_add_26, eX2_add_27, eX2_add_28, eX2_add_31, eX2_add_34, eX2_add_35, eX2_add_36, eX2_add_37, eX2_add_38, eX2_add_41, eX2_add_42, eX2_add_43, eX2_add_44, eX2_add_47, eX2_add_48, eX2_add_49, eX2_add_52, eX2_add_53, eX2_add_56, eX2_add_57, eX2_add_60, eX2_add_61, eX2_add_62, eX2_add_63, eX2_add_66, eX2_add_68, eX2_add_69, eX2_add_70, eX2_add_73, eX2_add_76, eX2_add_78, eX2_add_81, eX2_add_83, eX2_add_84, eX2_add_85, eX2_add_88, eX2_add_89, eX2_add_90, eX2_add_93, eX2_add_95, eX2_add_96, eX2_add_99, eX2_add_100, eX2_add_103, eX2_add_105, eX2_add_108, eX2_add_109, eX2_add_112, eX2_add_115, eX2_add_116, eX2_add_119, eX2_add_120, eX2_add_121, eX2_add_122, eX2_add_123, eX2_add_124, eX2_add_127, eX2_add_130, eX2_add_132, eX2_add_133, eX2_add_134, eX2_add_137, eX2_add_138, eX2_add_141, eX2_add_142, eX2_add_143, eX2_add_144, eX2_add_147, ox_O_s, ox_B_s, ox_g_t, ox_A_s, ox_push_s, ox_push_n, ox_some, ox_z0, ox_z1, iI_lt, iI_eq, iI_add, iI_sub, ig_at, if_true, if_false, if_pos, if_neg, f0, f1, f2, f3, f4, f5, f6, f7, f8, f9, f10, f11, f12, f13, f14, f15, ng, w1, w2, w3, x1, x2, hpa, hka, hal, zb_f]
                | true =>
                  have q2 : aaX X kd at' (lv + 1) = false := by
                    cases q2 : aaX X kd at' (lv + 1) with
                    | false => rfl
                    | true => exact absurd ⟨q1, q2⟩ ok
                  rw [q1] at hal
                  rw [q2] at haa
                  simp (disch := omega) only [eX2_add_0, eX2_add_1, eX2_add_2, eX2_add_3, eX2_add_6, eX2_add_9, eX2_add_12, eX2_add_15, eX2_add_16, eX2_add_17, eX2_add_19, eX2_add_22, eX2_add_25, eX2_add_26, eX2_add_27, eX2_add_28, eX2_add_31, eX2_add_34, eX2_add_35, eX2_add_36, eX2_add_37, eX2_add_38, eX2_add_41, eX2_add_42, eX2_add_43, eX2_add_44, eX2_add_47, eX2_add_48, eX2_add_49, eX2_add_52, eX2_add_53, eX2_add_56, eX2_add_57, eX2_add_60, eX2_add_61, eX2_add_62, eX2_add_63, eX2_add_66, eX2_add_68, eX2_add_69, eX2_add_70, eX2_add_73, eX2_add_76, eX2_add_78, eX2_add_81, eX2_add_83, eX2_add_84, eX2_add_85, eX2_add_88, eX2_add_89, eX2_add_90, eX2_add_93, eX2_add_95, eX2_add_96, eX2_add_99, eX2_add_100, eX2_add_103, eX2_add_105, eX2_add_108, eX2_add_109, eX2_add_112, eX2_add_115, eX2_add_116, eX2_add_119, eX2_add_120, eX2_add_121, eX2_add_122, eX2_add_123, eX2_add_124, eX2_add_127, eX2_add_130, eX2_add_132, eX2_add_133, eX2_add_134, eX2_add_137, eX2_add_138, eX2_add_141, eX2_add_142, eX2_add_143, eX2_add_144, eX2_add_147, ox_O_s, ox_B_s, ox_g_t, ox_A_s, ox_push_s, ox_push_n, ox_some, ox_z0, ox_z1, iI_lt, iI_eq, iI_add, iI_sub, ig_at, if_true, if_false, if_pos, if_neg, f0, f1, f2, f3, f4, f5, f6, f7, f8, f9, f10, f11, f12, f13, f14, f15, ng, w1, w2, w3, x1, x2, hpa, hka, hal, haa, zb_f, zb_t]
              · obtain ⟨c1, c2, c3, c4⟩ := mAll _ hM
                simp only [mPre _ hM]
                cases q1 : alw X (kdA X (pA (lvA X) lv at'.toNat)) kd with
                | false =>
                  rw [q1] at c3
                  simp (maxSteps := 1000000) (disch := omega) only [eX3_add_97, eX3_add_98, eX3_add_101, eX3_add_103, eX3_add_106, eX3_add_108, eX3_add_109, eX3_add_110, eX3_add_111, eX3_add_112, eX3_add_113, eX3_add_116, eX3_add_117, eX3_add_120, eX3_add_123, eX3_add_124, eX3_add_125, eX3_add_126, eX3_add_127, eX3_add_128, eX3_add_129, eX3_add_132, eX3_add_135, eX3_add_137, eX3_add_138, eX3_add_139, eX3_add_142, eX3_add_143, eX3_add_146, eX3_add_148, eX3_add_149, eX3_add_152, ox_O_s, ox_B_s, ox_g_t, ox_A_s, ox_push_s, ox_push_n, ox_some, ox_z0, ox_z1, iI_lt, iI_eq, iI_add, iI_sub, ig_at, if_true, if_false, if_pos, if_neg, mO, c1, c2, c3, c4, zb_t, zb_f]
                | true =>
                  have q2 : aaX X kd at' (lv + 1) = false := by
                    cases q2 : aaX X kd at' (lv + 1) with
                    | false => rfl
                    | true => exact absurd ⟨q1, q2⟩ ok
                  rw [q1] at c3
                  rw [q2] at c4
                  simp (maxSteps := 1000000) (disch := omega) only [eX3_add_97, eX3_add_98, eX3_add_101, eX3_add_103, eX3_add_106, eX3_add_108, eX3_add_109, eX3_add_110, eX3_add_111, eX3_add_112, eX3_add_113, eX3_add_116, eX3_add_117, eX3_add_120, eX3_add_123, eX3_add_124, eX3_add_125, eX3_add_126, eX3_add_127, eX3_add_128, eX3_add_129, eX3_add_132, eX3_add_135, eX3_add_137, eX3_add_138, eX3_add_139, eX3_add_142, eX3_add_143, eX3_add_146, eX3_add_148, eX3_add_149, eX3_add_152, ox_O_s, ox_B_s, ox_g_t, ox_A_s, ox_push_s, ox_push_n, ox_some, ox_z0, ox_z1, iI_lt, iI_eq, iI_add, iI_sub, ig_at, if_true, if_false, if_pos, if_neg, mO, c1, c2, c3, c4, zb_t, zb_f]
        · simp only [if_neg fit] at mPre
          refine ST_same (v := iI (-2)) hS ?_ (mPre _ hM)
          by_cases c1 : lv ≤ lvA X (at' - 1) + 1
          · have c2 : ¬ lvA X at' ≤ lv + 1 := fun u => fit ⟨c1, u⟩
            simp (disch := omega) only [eX2_add_0, eX2_add_1, eX2_add_2, eX2_add_3, eX2_add_6, eX2_add_9, eX2_add_12, eX2_add_15, eX2_add_16, eX2_add_17, eX2_add_19, eX2_add_22, eX2_add_25, eX2_add_26, eX2_add_27, eX2_add_28, eX2_add_31, eX2_add_34, eX2_add_35, eX2_add_36, eX2_add_37, eX2_add_38, eX2_add_41, eX2_add_42, eX2_add_43, eX2_add_44, eX2_add_47, eX2_add_48, eX2_add_49, eX2_add_52, eX2_add_53, eX2_add_56, eX2_add_57, eX2_add_60, eX2_add_61, eX2_add_62, eX2_add_63, eX2_add_66, eX2_add_68, eX2_add_69, eX2_add_70, eX2_add_73, eX2_add_76, eX2_add_78, eX2_add_81, eX2_add_83, eX2_add_84, eX2_add_85, eX2_add_88, eX2_add_89, eX2_add_90, eX2_add_93, eX2_add_95, eX2_add_96, eX2_add_99, eX2_add_100, eX2_add_103, eX2_add_105, eX2_add_108, eX2_add_109, eX2_add_112, eX2_add_115, eX2_add_116, eX2_add_119, eX2_add_120, eX2_add_121, eX2_add_122, eX2_add_123, eX2_add_124, eX2_add_127, eX2_add_130, eX2_add_132, eX2_add_133, eX2_add_134, eX2_add_137, eX2_add_138, eX2_add_141, eX2_add_142, eX2_add_143, eX2_add_144, eX2_add_147, ox_O_s, ox_B_s, ox_g_t, ox_A_s, ox_push_s, ox_push_n, ox_some, ox_z0, ox_z1, iI_lt, iI_eq, iI_add, iI_sub, ig_at, if_true, if_false, if_pos, if_neg, f0, f1, f2, f3, f4, f5, f6, f7, f8, f9, f10, f11, f12, f13, f14, f15, ng, w1, w2, w3, x1, x2]
          · simp (disch := omega) only [eX2_add_0, eX2_add_1, eX2_add_2, eX2_add_3, eX2_add_6, eX2_add_9, eX2_add_12, eX2_add_15, eX2_add_16, eX2_add_17, eX2_add_19, eX2_add_22, eX2_add_25, eX2_add_26, eX2_add_27, eX2_add_28, eX2_add_31, eX2_add_34, eX2_add_35, eX2_add_36, eX2_add_37, eX2_add_38, eX2_add_41, eX2_add_42, eX2_add_43, eX2_add_44, eX2_add_47, eX2_add_48, eX2_add_49, eX2_add_52, eX2_add_53, eX2_add_56, eX2_add_57, eX2_add_60, eX2_add_61, eX2_add_62, eX2_add_63, eX2_add_66, eX2_add_68, eX2_add_69, eX2_add_70, eX2_add_73, eX2_add_76, eX2_add_78, eX2_add_81, eX2_add_83, eX2_add_84, eX2_add_85, eX2_add_88, eX2_add_89, eX2_add_90, eX2_add_93, eX2_add_95, eX2_add_96, eX2_add_99, eX2_add_100, eX2_add_103, eX2_add_105, eX2_add_108, eX2_add_109, eX2_add_112, eX2_add_115, eX2_add_116, eX2_add_119, eX2_add_120, eX2_add_121, eX2_add_122, eX2_add_123, eX2_add_124, eX2_add_127, eX2_add_130, eX2_add_132, eX2_add_133, eX2_add_134, eX2_add_137, eX2_add_138, eX2_add_141, eX2_add_142, eX2_add_143, eX2_add_144, eX2_add_147, ox_O_s, ox_B_s, ox_g_t, ox_A_s, ox_push_s, ox_push_n, ox_some, ox_z0, ox_z1, iI_lt, iI_eq, iI_add, iI_sub, ig_at, if_true, if_false, if_pos, if_neg, f0, f1, f2, f3, f4, f5, f6, f7, f8, f9, f10, f11, f12, f13, f14, f15, ng, w1, w2, w3, x1, x2]
      · rw [decide_eq_false r3, zb_f] at w3 i3
        refine ST_same (v := iI (-1)) hS ?_ ?_
        · simp (disch := omega) only [eX2_add_0, eX2_add_1, eX2_add_2, eX2_add_3, eX2_add_6, eX2_add_9, eX2_add_12, eX2_add_15, eX2_add_16, eX2_add_17, eX2_add_19, eX2_add_22, eX2_add_25, eX2_add_26, eX2_add_27, eX2_add_28, eX2_add_31, eX2_add_34, eX2_add_35, eX2_add_36, eX2_add_37, eX2_add_38, eX2_add_41, eX2_add_42, eX2_add_43, eX2_add_44, eX2_add_47, eX2_add_48, eX2_add_49, eX2_add_52, eX2_add_53, eX2_add_56, eX2_add_57, eX2_add_60, eX2_add_61, eX2_add_62, eX2_add_63, eX2_add_66, eX2_add_68, eX2_add_69, eX2_add_70, eX2_add_73, eX2_add_76, eX2_add_78, eX2_add_81, eX2_add_83, eX2_add_84, eX2_add_85, eX2_add_88, eX2_add_89, eX2_add_90, eX2_add_93, eX2_add_95, eX2_add_96, eX2_add_99, eX2_add_100, eX2_add_103, eX2_add_105, eX2_add_108, eX2_add_109, eX2_add_112, eX2_add_115, eX2_add_116, eX2_add_119, eX2_add_120, eX2_add_121, eX2_add_122, eX2_add_123, eX2_add_124, eX2_add_127, eX2_add_130, eX2_add_132, eX2_add_133, eX2_add_134, eX2_add_137, eX2_add_138, eX2_add_141, eX2_add_142, eX2_add_143, eX2_add_144, eX2_add_147, ox_O_s, ox_B_s, ox_g_t, ox_A_s, ox_push_s, ox_push_n, ox_some, ox_z0, ox_z1, iI_lt, iI_eq, iI_add, iI_sub, ig_at, if_true, if_false, if_pos, if_neg, f0, f1, f2, f3, f4, f5, f6, f7, f8, f9, f10, f11, f12, f13, f14, f15, ng, w1, w2, w3]
        · simp (disch := omega) only [eX3_add_0, eX3_add_1, eX3_add_2, eX3_add_3, eX3_add_6, eX3_add_9, eX3_add_12, eX3_add_13, eX3_add_14, eX3_add_16, eX3_add_19, eX3_add_22, eX3_add_23, eX3_add_24, eX3_add_25, eX3_add_28, eX3_add_31, eX3_add_32, eX3_add_33, eX3_add_34, eX3_add_37, eX3_add_38, eX3_add_39, eX3_add_42, eX3_add_43, eX3_add_46, eX3_add_47, eX3_add_50, eX3_add_51, eX3_add_52, eX3_add_53, eX3_add_54, eX3_add_55, eX3_add_58, eX3_add_59, eX3_add_60, eX3_add_63, eX3_add_64, eX3_add_67, eX3_add_68, eX3_add_70, eX3_add_72, eX3_add_75, eX3_add_76, eX3_add_77, eX3_add_80, eX3_add_83, eX3_add_84, eX3_add_85, eX3_add_88, eX3_add_89, eX3_add_90, eX3_add_91, eX3_add_94, eX3_add_96, eX3_add_97, eX3_add_98, eX3_add_101, eX3_add_103, eX3_add_106, eX3_add_108, eX3_add_109, eX3_add_110, eX3_add_111, eX3_add_112, eX3_add_113, eX3_add_116, eX3_add_117, eX3_add_120, eX3_add_123, eX3_add_124, eX3_add_125, eX3_add_126, eX3_add_127, eX3_add_128, eX3_add_129, eX3_add_132, eX3_add_135, eX3_add_137, eX3_add_138, eX3_add_139, eX3_add_142, eX3_add_143, eX3_add_146, eX3_add_148, eX3_add_149, eX3_add_152, eX3_add_156, eX3_add_157, eX3_add_160, eX3_add_161, eX3_add_164, eX3_add_165, eX3_add_167, eX3_add_168, eX3_add_169, eX3_add_171, eX3_add_172, eX3_add_173, eX3_add_176, eX3_add_177, eX3_add_180, eX3_add_183, eX3_add_184, eX3_add_187, eX3_add_188, eX3_add_189, eX3_add_190, eX3_add_191, eX3_add_192, eX3_add_193, eX3_add_194, eX3_add_197, eX3_add_198, eX3_add_199, eX3_add_200, eX3_add_202, eX3_add_203, eX3_add_204, eX3_add_207, eX3_add_209, eX3_add_211, eX3_add_212, eX3_add_213, eX3_add_214, eX3_add_215, eX3_add_218, eX3_add_220, eX3_add_222, eX3_add_223, eX3_add_224, eX3_add_225, eX3_add_226, eX3_add_229, eX3_add_231, eX3_add_233, eX3_add_234, eX3_add_235, eX3_add_236, eX3_add_237, eX3_add_240, eX3_add_242, eX3_add_244, eX3_add_245, eX3_add_246, eX3_add_247, eX3_add_248, eX3_add_251, eX3_add_254, eX3_add_256, eX3_add_257, eX3_add_258, eX3_add_259, eX3_add_261, ox_O_s, ox_B_s, ox_g_t, ox_A_s, ox_push_s, ox_push_n, ox_some, ox_z0, ox_z1, iI_lt, iI_eq, iI_add, iI_sub, ig_at, if_true, if_false, if_pos, if_neg, mO, hm, i1, i2, i3]
    · rw [decide_eq_false r2, zb_f] at w2 i2
      refine ST_same (v := iI (-1)) hS ?_ ?_
      · simp (disch := omega) only [eX2_add_0, eX2_add_1, eX2_add_2, eX2_add_3, eX2_add_6, eX2_add_9, eX2_add_12, eX2_add_15, eX2_add_16, eX2_add_17, eX2_add_19, eX2_add_22, eX2_add_25, eX2_add_26, eX2_add_27, eX2_add_28, eX2_add_31, eX2_add_34, eX2_add_35, eX2_add_36, eX2_add_37, eX2_add_38, eX2_add_41, eX2_add_42, eX2_add_43, eX2_add_44, eX2_add_47, eX2_add_48, eX2_add_49, eX2_add_52, eX2_add_53, eX2_add_56, eX2_add_57, eX2_add_60, eX2_add_61, eX2_add_62, eX2_add_63, eX2_add_66, eX2_add_68, eX2_add_69, eX2_add_70, eX2_add_73, eX2_add_76, eX2_add_78, eX2_add_81, eX2_add_83, eX2_add_84, eX2_add_85, eX2_add_88, eX2_add_89, eX2_add_90, eX2_add_93, eX2_add_95, eX2_add_96, eX2_add_99, eX2_add_100, eX2_add_103, eX2_add_105, eX2_add_108, eX2_add_109, eX2_add_112, eX2_add_115, eX2_add_116, eX2_add_119, eX2_add_120, eX2_add_121, eX2_add_122, eX2_add_123, eX2_add_124, eX2_add_127, eX2_add_130, eX2_add_132, eX2_add_133, eX2_add_134, eX2_add_137, eX2_add_138, eX2_add_141, eX2_add_142, eX2_add_143, eX2_add_144, eX2_add_147, ox_O_s, ox_B_s, ox_g_t, ox_A_s, ox_push_s, ox_push_n, ox_some, ox_z0, ox_z1, iI_lt, iI_eq, iI_add, iI_sub, ig_at, if_true, if_false, if_pos, if_neg, f0, f1, f2, f3, f4, f5, f6, f7, f8, f9, f10, f11, f12, f13, f14, f15, ng, w1, w2]
      · simp (disch := omega) only [eX3_add_0, eX3_add_1, eX3_add_2, eX3_add_3, eX3_add_6, eX3_add_9, eX3_add_12, eX3_add_13, eX3_add_14, eX3_add_16, eX3_add_19, eX3_add_22, eX3_add_23, eX3_add_24, eX3_add_25, eX3_add_28, eX3_add_31, eX3_add_32, eX3_add_33, eX3_add_34, eX3_add_37, eX3_add_38, eX3_add_39, eX3_add_42, eX3_add_43, eX3_add_46, eX3_add_47, eX3_add_50, eX3_add_51, eX3_add_52, eX3_add_53, eX3_add_54, eX3_add_55, eX3_add_58, eX3_add_59, eX3_add_60, eX3_add_63, eX3_add_64, eX3_add_67, eX3_add_68, eX3_add_70, eX3_add_72, eX3_add_75, eX3_add_76, eX3_add_77, eX3_add_80, eX3_add_83, eX3_add_84, eX3_add_85, eX3_add_88, eX3_add_89, eX3_add_90, eX3_add_91, eX3_add_94, eX3_add_96, eX3_add_97, eX3_add_98, eX3_add_101, eX3_add_103, eX3_add_106, eX3_add_108, eX3_add_109, eX3_add_110, eX3_add_111, eX3_add_112, eX3_add_113, eX3_add_116, eX3_add_117, eX3_add_120, eX3_add_123, eX3_add_124, eX3_add_125, eX3_add_126, eX3_add_127, eX3_add_128, eX3_add_129, eX3_add_132, eX3_add_135, eX3_add_137, eX3_add_138, eX3_add_139, eX3_add_142, eX3_add_143, eX3_add_146, eX3_add_148, eX3_add_149, eX3_add_152, eX3_add_156, eX3_add_157, eX3_add_160, eX3_add_161, eX3_add_164, eX3_add_165, eX3_add_167, eX3_add_168, eX3_add_169, eX3_add_171, eX3_add_172, eX3_add_173, eX3_add_176, eX3_add_177, eX3_add_180, eX3_add_183, eX3_add_184, eX3_add_187, eX3_add_188, eX3_add_189, eX3_add_190, eX3_add_191, eX3_add_192, eX3_add_193, eX3_add_194, eX3_add_197, eX3_add_198, eX3_add_199, eX3_add_200, eX3_add_202, eX3_add_203, eX3_add_204, eX3_add_207, eX3_add_209, eX3_add_211, eX3_add_212, eX3_add_213, eX3_add_214, eX3_add_215, eX3_add_218, eX3_add_220, eX3_add_222, eX3_add_223, eX3_add_224, eX3_add_225, eX3_add_226, eX3_add_229, eX3_add_231, eX3_add_233, eX3_add_234, eX3_add_235, eX3_add_236, eX3_add_237, eX3_add_240, eX3_add_242, eX3_add_244, eX3_add_245, eX3_add_246, eX3_add_247, eX3_add_248, eX3_add_251, eX3_add_254, eX3_add_256, eX3_add_257, eX3_add_258, eX3_add_259, eX3_add_261, ox_O_s, ox_B_s, ox_g_t, ox_A_s, ox_push_s, ox_push_n, ox_some, ox_z0, ox_z1, iI_lt, iI_eq, iI_add, iI_sub, ig_at, if_true, if_false, if_pos, if_neg, mO, hm, i1, i2]
  · rw [decide_eq_false r1, zb_f] at w1 i1
    refine ST_same (v := iI (-1)) hS ?_ ?_
    · simp (disch := omega) only [eX2_add_0, eX2_add_1, eX2_add_2, eX2_add_3, eX2_add_6, eX2_add_9, eX2_add_12, eX2_add_15, eX2_add_16, eX2_add_17, eX2_add_19, eX2_add_22, eX2_add_25, eX2_add_26, eX2_add_27, eX2_add_28, eX2_add_31, eX2_add_34, eX2_add_35, eX2_add_36, eX2_add_37, eX2_add_38, eX2_add_41, eX2_add_42, eX2_add_43, eX2_add_44, eX2_add_47, eX2_add_48, eX2_add_49, eX2_add_52, eX2_add_53, eX2_add_56, eX2_add_57, eX2_add_60, eX2_add_61, eX2_add_62, eX2_add_63, eX2_add_66, eX2_add_68, eX2_add_69, eX2_add_70, eX2_add_73, eX2_add_76, eX2_add_78, eX2_add_81, eX2_add_83, eX2_add_84, eX2_add_85, eX2_add_88, eX2_add_89, eX2_add_90, eX2_add_93, eX2_add_95, eX2_add_96, eX2_add_99, eX2_add_100, eX2_add_103, eX2_add_105, eX2_add_108, eX2_add_109, eX2_add_112, eX2_add_115, eX2_add_116, eX2_add_119, eX2_add_120, eX2_add_121, eX2_add_122, eX2_add_123, eX2_add_124, eX2_add_127, eX2_add_130, eX2_add_132, eX2_add_133, eX2_add_134, eX2_add_137, eX2_add_138, eX2_add_141, eX2_add_142, eX2_add_143, eX2_add_144, eX2_add_147, ox_O_s, ox_B_s, ox_g_t, ox_A_s, ox_push_s, ox_push_n, ox_some, ox_z0, ox_z1, iI_lt, iI_eq, iI_add, iI_sub, ig_at, if_true, if_false, if_pos, if_neg, f0, f1, f2, f3, f4, f5, f6, f7, f8, f9, f10, f11, f12, f13, f14, f15, ng, w1]
    · simp (disch := omega) only [eX3_add_0, eX3_add_1, eX3_add_2, eX3_add_3, eX3_add_6, eX3_add_9, eX3_add_12, eX3_add_13, eX3_add_14, eX3_add_16, eX3_add_19, eX3_add_22, eX3_add_23, eX3_add_24, eX3_add_25, eX3_add_28, eX3_add_31, eX3_add_32, eX3_add_33, eX3_add_34, eX3_add_37, eX3_add_38, eX3_add_39, eX3_add_42, eX3_add_43, eX3_add_46, eX3_add_47, eX3_add_50, eX3_add_51, eX3_add_52, eX3_add_53, eX3_add_54, eX3_add_55, eX3_add_58, eX3_add_59, eX3_add_60, eX3_add_63, eX3_add_64, eX3_add_67, eX3_add_68, eX3_add_70, eX3_add_72, eX3_add_75, eX3_add_76, eX3_add_77, eX3_add_80, eX3_add_83, eX3_add_84, eX3_add_85, eX3_add_88, eX3_add_89, eX3_add_90, eX3_add_91, eX3_add_94, eX3_add_96, eX3_add_97, eX3_add_98, eX3_add_101, eX3_add_103, eX3_add_106, eX3_add_108, eX3_add_109, eX3_add_110, eX3_add_111, eX3_add_112, eX3_add_113, eX3_add_116, eX3_add_117, eX3_add_120, eX3_add_123, eX3_add_124, eX3_add_125, eX3_add_126, eX3_add_127, eX3_add_128, eX3_add_129, eX3_add_132, eX3_add_135, eX3_add_137, eX3_add_138, eX3_add_139, eX3_add_142, eX3_add_143, eX3_add_146, eX3_add_148, eX3_add_149, eX3_add_152, eX3_add_156, eX3_add_157, eX3_add_160, eX3_add_161, eX3_add_164, eX3_add_165, eX3_add_167, eX3_add_168, eX3_add_169, eX3_add_171, eX3_add_172, eX3_add_173, eX3_add_176, eX3_add_177, eX3_add_180, eX3_add_183, eX3_add_184, eX3_add_187, eX3_add_188, eX3_add_189, eX3_add_190, eX3_add_191, eX3_add_192, eX3_add_193, eX3_add_194, eX3_add_197, eX3_add_198, eX3_add_199, eX3_add_200, eX3_add_202, eX3_add_203, eX3_add_204, eX3_add_207, eX3_add_209, eX3_add_211, eX3_add_212, eX3_add_213, eX3_add_214, eX3_add_215, eX3_add_218, eX3_add_220, eX3_add_222, eX3_add_223, eX3_add_224, eX3_add_225, eX3_add_226, eX3_add_229, eX3_add_231, eX3_add_233, eX3_add_234, eX3_add_235, eX3_add_236, eX3_add_237, eX3_add_240, eX3_add_242, eX3_add_244, eX3_add_245, eX3_add_246, eX3_add_247, eX3_add_248, eX3_add_251, eX3_add_254, eX3_add_256, eX3_add_257, eX3_add_258, eX3_add_259, eX3_add_261, ox_O_s, ox_B_s, ox_g_t, ox_A_s, ox_push_s, ox_push_n, ox_some, ox_z0, ox_z1, iI_lt, iI_eq, iI_add, iI_sub, ig_at, if_true, if_false, if_pos, if_neg, mO, hm, i1]
