/-! promote, demote, remove. -/
theorem slF_out {od : List Int} {b z : Int} (z0 : 0 ≤ z) : ∀ (k : Nat) (p : Int) (l : List Int), (∀ q, p ≤ q → q < p + k → 0 ≤ ig od q) → (∀ q, p ≤ q → q < p + k → ig od q ≠ z) → ig (slF od b k p l) z = ig l z
  | 0, _, _, _, _ => rfl
  | k + 1, p, l, h0, h => by
    unfold slF
    rw [slF_out z0 k (p + 1) _ (fun q a b => h0 q (by omega) (by omega)) (fun q a b => h q (by omega) (by omega)), ig_ne (h0 p (by omega) (by omega)) z0 (h p (by omega) (by omega))]
theorem slF_in {od : List Int} {b : Int} : ∀ (k : Nat) (p : Int) (l : List Int), l.length = 30 → (∀ q, p ≤ q → q < p + k → 0 ≤ ig od q ∧ ig od q < 30) → (∀ q r, p ≤ q → q < p + k → p ≤ r → r < p + k → ig od q = ig od r → q = r) → ∀ q, p ≤ q → q < p + k → ig (slF od b k p l) (ig od q) = ig l (ig od q) + b
  | 0, p, _, _, _, _, q, a, c => absurd c (by omega)
  | k + 1, p, l, hl, h0, hi, q, a, c => by
    have hp := h0 p (by omega) (by omega)
    unfold slF
    by_cases e : q = p
    · subst e
      rw [slF_out hp.1 k (q + 1) _ (fun r x y => (h0 r (by omega) (by omega)).1) (fun r x y z => by have := hi r q (by omega) (by omega) (by omega) (by omega) z; omega), ig_self hp.1 (by omega)]
    · have hq := h0 q a c
      rw [slF_in k (p + 1) _ (by rw [iu_len]; exact hl) (fun r x y => h0 r (by omega) (by omega)) (fun r s x y z t u => hi r s (by omega) (by omega) (by omega) (by omega) u) q (by omega) (by omega), ig_ne hp.1 hq.1 (fun z => e (hi p q (by omega) (by omega) (by omega) (by omega) z).symm)]
def slX (X : ol) (p e b : Int) : ol := oset X 1 (slF (X.2 0) b (e - p).toNat p (X.2 1))
theorem sl_lv {X : ol} (hV : vx X) {p e b q : Int} (p0 : 0 ≤ p) (e1 : e ≤ X.1 0) (q0 : 0 ≤ q) (q1 : q < X.1 0) : ig ((slX X p e b).2 1) (ig (X.2 0) q) = if p ≤ q ∧ q < e then lvA X q + b else lvA X q := by
  show ig (slF (X.2 0) b (e - p).toNat p (X.2 1)) (ig (X.2 0) q) = _
  have ho := hV.2.2.1 q q0 q1
  rw [lvA_in q0 q1]
  by_cases c : p ≤ q ∧ q < e
  · rw [if_pos c]
    exact slF_in _ _ _ (hV.1 1 (by decide)) (fun r x y => hV.2.2.1 r (by omega) (by omega)) (fun r s x y z t u => hV.2.2.2.1 r s (by omega) (by omega) (by omega) (by omega) u) q c.1 (by omega)
  · rw [if_neg c]
    exact slF_out ho.1 _ _ _ (fun r x y => (hV.2.2.1 r (by omega) (by omega)).1) (fun r x y z => by have := hV.2.2.2.1 r q (by omega) (by omega) q0 q1 z; omega)
theorem lv_in {X : ol} (hV : vx X) {q : Int} (q0 : 0 ≤ q) (q1 : q < X.1 0) : 1 ≤ lvA X q ∧ lvA X q ≤ 6 := by
  rw [lvA_in q0 q1]; exact (hV.2.2.2.2.1 q q0 q1).1
theorem lv_step {X : ol} (hV : vx X) {r : Int} (r0 : 0 ≤ r) (r1 : r + 1 < X.1 0) : lvA X (r + 1) ≤ lvA X r + 1 := by
  have := hV.2.2.2.2.2.2.1 r r0 r1
  rw [← lvA_in (by omega) (by omega), ← lvA_in (by omega) (by omega)] at this
  exact this
theorem lv_0 {X : ol} (hV : vx X) (h : 0 < X.1 0) : lvA X 0 = 1 := by
  rw [lvA_in (by omega) h]; exact hV.2.2.2.2.2.1 h
theorem sl_z {X : ol} (hV : vx X) {p e b : Int} (p0 : 0 ≤ p) (e1 : e ≤ X.1 0) {k : Int} (k0 : 0 ≤ k) (k1 : k < 30) (hk : ∀ q, 0 ≤ q → q < X.1 0 → ig (X.2 0) q ≠ k) : ig ((slX X p e b).2 1) k = 0 := by
  show ig (slF (X.2 0) b (e - p).toNat p (X.2 1)) k = 0
  rw [slF_out k0 _ _ _ (fun r x y => (hV.2.2.1 r (by omega) (by omega)).1) (fun r x y => hk r (by omega) (by omega))]
  exact hV.2.2.2.2.2.2.2.1 k k0 k1 hk
theorem vx_sl {X : ol} (hV : vx X) {p e b : Int} (p0 : 0 < p) (e1 : e ≤ X.1 0) (hL : ∀ q, p ≤ q → q < e → 1 ≤ lvA X q + b ∧ lvA X q + b ≤ 6) (hp : p < e → lvA X p + b ≤ lvA X (p - 1) + 1) (he : p < e → e < X.1 0 → lvA X e ≤ lvA X (e - 1) + b + 1) : vx (slX X p e b) := by
  have hlv := fun q q0 q1 => sl_lv hV (b := b) (show 0 ≤ p by omega) e1 (q := q) q0 q1
  refine vx_move hV (fun q => q) (fun k hk => ?_) hV.2.1 (fun q a b => ⟨a, b⟩) (fun q r _ _ _ _ e => e) (fun q _ _ => rfl) rfl rfl rfl rfl rfl rfl rfl (fun q a c => ?_) (fun a => ?_) (fun q a c => ?_) (fun k k0 k1 hk => sl_z hV (by omega) e1 k0 k1 hk) hV.2.2.2.2.2.2.2.2.2.2.2.1 hV.2.2.2.2.2.2.2.2.2.2.2.2
  · by_cases z : k = 1
    · subst z
      show (slF (X.2 0) b (e - p).toNat p (X.2 1)).length = _
      rw [slF_len]
      exact hV.1 1 hk
    · show (if k = 1 then _ else X.2 k).length = _
      rw [if_neg z]
      exact hV.1 k hk
  · show 1 ≤ ig ((slX X p e b).2 1) (ig (X.2 0) q) ∧ ig ((slX X p e b).2 1) (ig (X.2 0) q) ≤ 6
    have c : q < X.1 0 := c
    rw [hlv q a c]
    split
    · rename_i z; exact hL q z.1 z.2
    · exact lv_in hV a c
  · show ig ((slX X p e b).2 1) (ig (X.2 0) 0) = 1
    have a : 0 < X.1 0 := a
    rw [hlv 0 (by omega) a, if_neg (by omega)]
    exact lv_0 hV a
  · show ig ((slX X p e b).2 1) (ig (X.2 0) (q + 1)) ≤ ig ((slX X p e b).2 1) (ig (X.2 0) q) + 1
    have c : q + 1 < X.1 0 := c
    rw [hlv q a (by omega), hlv (q + 1) (by omega) c]
    have hs := lv_step hV a c
    by_cases c1 : p ≤ q + 1 ∧ q + 1 < e
    · rw [if_pos c1]
      by_cases c2 : p ≤ q ∧ q < e
      · rw [if_pos c2]; omega
      · rw [if_neg c2]
        have := hp (by omega)
        rw [show p = q + 1 by omega, show q + 1 - 1 = q by omega] at this
        exact this
    · rw [if_neg c1]
      by_cases c2 : p ≤ q ∧ q < e
      · rw [if_pos c2]
        have := he (by omega) (by omega)
        rw [show e = q + 1 by omega, show q + 1 - 1 = q by omega] at this
        exact this
      · rw [if_neg c2]; exact hs
/-- the reference's levels shifted -/
def SLW (X : ol) (p e b : Int) (w w' : List Int) : Prop := w'.length = 218 ∧ (∀ q, p ≤ q → q < e → ig w' (31 + ig (X.2 0) q) = ig w (31 + ig (X.2 0) q) + b) ∧ ∀ i, 0 ≤ i → (∀ q, p ≤ q → q < e → i ≠ 31 + ig (X.2 0) q) → ig w' i = ig w i
theorem k3_sl_loop {h : ox_H} {m : Nat} {X Y : ol} (hV : vx X) (hb : m + 6 < h.length) {e b : Int} (e1 : e ≤ X.1 0) (v1 : Value) : ∀ (k : Nat) (p : Int) (w : List Int), 0 ≤ p → p + k = e → w.length = 218 → (∀ q, 0 ≤ q → q < e → ig w (1 + q) = ig (X.2 0) q) → ∃ w', oe 101 3 [.ref m, v1, .int (iI e), .int (iI b), .int (iI p)] [] (mput h m (oset Y 0 w)) = some (none, mput h m (oset Y 0 w')) ∧ SLW X p e b w w' := by
  have hn := hV.2.1
  intro k
  induction k with
  | zero =>
    intro p w p0 p1 hl hq
    refine ⟨w, ?_, hl, fun q a c => absurd c (by omega), fun i _ _ => rfl⟩
    rw [eX3_shiftLevels_3]
    simp (disch := omega) only [eX3_shiftLevels_0, eX3_shiftLevels_1, eX3_shiftLevels_5, eX3_shiftLevels_6, eX3_shiftLevels_9, eX3_shiftLevels_10, eX3_shiftLevels_13, eX3_shiftLevels_15, eX3_shiftLevels_16, eX3_shiftLevels_18, eX3_shiftLevels_21, eX3_shiftLevels_22, eX3_shiftLevels_23, eX3_shiftLevels_24, eX3_shiftLevels_25, eX3_shiftLevels_26, eX3_shiftLevels_27, eX3_shiftLevels_30, eX3_shiftLevels_33, ox_O_s, ox_B_s, ox_g_t, ox_A_s, ox_push_s, ox_push_n, ox_some, ox_z0, ox_z1, iI_lt, iI_eq, iI_add, iI_sub, ig_at, if_true, if_false, if_pos, if_neg, mp_obj, mp_f0, mp_f1, mp_f2, mp_f3, mp_f4, mp_f5, mp_f6, mp_f7, mp_f8, mp_f9, mp_i0, mp_i1, mp_i2, mp_i3, mp_i4, mp_i5, mp_j0, mp_j1, mp_j2, mp_j3, mp_j4, mp_j5, mp_s0, mp_s1, mp_s2, mp_s3, mp_s4, mp_s5, mp_w2, mp_w4, mp_w6, mp_w9, oa_gl, ma_gl, ig_set, os_2, os_1, ns_1, ns_2, os_os, ns_ns]
  | succ k ih =>
    intro p w p0 p1 hl hq
    have ho := hV.2.2.1 p p0 (by omega)
    have e1' := hq p p0 (by omega)
    have hat := k3_at' (Y := oset Y 0 w) hb hl p0 (by omega)
    rw [os_2, if_pos rfl, e1'] at hat
    obtain ⟨w', i1, i2, i3, i4⟩ := ih (p + 1) (iu w (31 + ig (X.2 0) p) (ig w (31 + ig (X.2 0) p) + b)) (by omega) (by omega) (by rw [iu_len]; exact hl) (fun q q0 q1 => by rw [ig_ne (by omega) (by omega) (by omega)]; exact hq q q0 q1)
    refine ⟨w', ?_, i2, fun q a c => ?_, fun i i0 hi => ?_⟩
    · rw [eX3_shiftLevels_3]
      simp (disch := omega) only [eX3_shiftLevels_0, eX3_shiftLevels_1, eX3_shiftLevels_5, eX3_shiftLevels_6, eX3_shiftLevels_9, eX3_shiftLevels_10, eX3_shiftLevels_13, eX3_shiftLevels_15, eX3_shiftLevels_16, eX3_shiftLevels_18, eX3_shiftLevels_21, eX3_shiftLevels_22, eX3_shiftLevels_23, eX3_shiftLevels_24, eX3_shiftLevels_25, eX3_shiftLevels_26, eX3_shiftLevels_27, eX3_shiftLevels_30, eX3_shiftLevels_33, ox_O_s, ox_B_s, ox_g_t, ox_A_s, ox_push_s, ox_push_n, ox_some, ox_z0, ox_z1, iI_lt, iI_eq, iI_add, iI_sub, ig_at, if_true, if_false, if_pos, if_neg, mp_obj, mp_f0, mp_f1, mp_f2, mp_f3, mp_f4, mp_f5, mp_f6, mp_f7, mp_f8, mp_f9, mp_i0, mp_i1, mp_i2, mp_i3, mp_i4, mp_i5, mp_j0, mp_j1, mp_j2, mp_j3, mp_j4, mp_j5, mp_s0, mp_s1, mp_s2, mp_s3, mp_s4, mp_s5, mp_w2, mp_w4, mp_w6, mp_w9, oa_gl, ma_gl, ig_set, os_2, os_1, ns_1, ns_2, os_os, ns_ns, hat]
      exact i1
    · have hoq := hV.2.2.1 q (by omega) (by omega)
      by_cases z : q = p
      · subst z
        rw [i4 _ (by omega) (fun r x y u => by have := hV.2.2.2.1 r q (by omega) (by omega) (by omega) (by omega) (by omega); omega), ig_self (by omega) (by omega)]
      · rw [i3 q (by omega) c, ig_ne (by omega) (by omega) (fun u => by have := hV.2.2.2.1 p q (by omega) (by omega) (by omega) (by omega) (by omega); omega)]
    · rw [i4 i i0 (fun r x y => hi r (by omega) y), ig_ne (by omega) i0 (fun u => hi p (by omega) (by omega) u.symm)]
theorem k3_shiftLevels {h : ox_H} {m : Nat} {X Y : ol} {w : List Int} (hV : vx X) (hb : m + 6 < h.length) (hR : Rel X w) {p e b : Int} (p0 : 0 ≤ p) (pe : p ≤ e) (e1 : e ≤ X.1 0) : ∃ w', oe 101 0 [.ref m, .int (iI p), .int (iI e), .int (iI b), .null] [] (mput h m (oset Y 0 w)) = some (none, mput h m (oset Y 0 w')) ∧ SLW X p e b w w' := by
  obtain ⟨w', i1, i2⟩ := k3_sl_loop (Y := Y) (b := b) hV hb e1 (.int (iI p)) (e - p).toNat p w p0 (by omega) hR.1 (fun q q0 q1 => hR.2.2.1 q q0 (by omega))
  refine ⟨w', ?_, i2⟩
  simp (disch := omega) only [eX3_shiftLevels_0, eX3_shiftLevels_1, eX3_shiftLevels_5, eX3_shiftLevels_6, eX3_shiftLevels_9, eX3_shiftLevels_10, eX3_shiftLevels_13, eX3_shiftLevels_15, eX3_shiftLevels_16, eX3_shiftLevels_18, eX3_shiftLevels_21, eX3_shiftLevels_22, eX3_shiftLevels_23, eX3_shiftLevels_24, eX3_shiftLevels_25, eX3_shiftLevels_26, eX3_shiftLevels_27, eX3_shiftLevels_30, eX3_shiftLevels_33, ox_O_s, ox_B_s, ox_g_t, ox_A_s, ox_push_s, ox_push_n, ox_some, ox_z0, ox_z1, iI_lt, iI_eq, iI_add, iI_sub, ig_at, if_true, if_false, if_pos, if_neg, mp_obj, mp_f0, mp_f1, mp_f2, mp_f3, mp_f4, mp_f5, mp_f6, mp_f7, mp_f8, mp_f9, mp_i0, mp_i1, mp_i2, mp_i3, mp_i4, mp_i5, mp_j0, mp_j1, mp_j2, mp_j3, mp_j4, mp_j5, mp_s0, mp_s1, mp_s2, mp_s3, mp_s4, mp_s5, mp_w2, mp_w4, mp_w6, mp_w9, oa_gl, ma_gl, ig_set, os_2, os_1, ns_1, ns_2, os_os, ns_ns]
  exact i1
theorem SLW_hi {X : ol} (hV : vx X) {p e b : Int} {w w' : List Int} (hW : SLW X p e b w w') (p0 : 0 ≤ p) (e1 : e ≤ X.1 0) {i : Int} (hi : 0 ≤ i) (hi' : i < 31 ∨ 61 ≤ i) : ig w' i = ig w i := hW.2.2 i hi (fun q a c => by have := hV.2.2.1 q (by omega) (by omega); omega)
theorem SLW_lv {X : ol} (hV : vx X) {p e b : Int} {w w' : List Int} (hR : Rel X w) (hW : SLW X p e b w w') (p0 : 0 ≤ p) (e1 : e ≤ X.1 0) {q : Int} (q0 : 0 ≤ q) (q1 : q < X.1 0) : ig w' (31 + ig (X.2 0) q) = if p ≤ q ∧ q < e then lvA X q + b else lvA X q := by
  have e31 := (hR.2.2.2.1 q q0 q1).1
  have ho := hV.2.2.1 q q0 q1
  rw [lvA_in q0 q1]
  by_cases c : p ≤ q ∧ q < e
  · rw [if_pos c, hW.2.1 q c.1 c.2, e31]
  · rw [if_neg c, hW.2.2 _ (by omega) (fun r x y u => by have := hV.2.2.2.1 r q (by omega) (by omega) q0 q1 (by omega); omega), e31]
theorem rel_sl {X : ol} {w w' : List Int} (hV : vx X) (hR : Rel X w) {p e b : Int} (p0 : 0 ≤ p) (e1 : e ≤ X.1 0) (hW : SLW X p e b w w') : Rel (slX X p e b) w' := by
  have hn := hV.2.1
  have hm := hV.2.2.2.2.2.2.2.2.2.2.2.1
  have hh := fun i hi hi' => SLW_hi hV hW p0 e1 (i := i) hi hi'
  refine rel_move hR hV (fun q => q) (fun q a b => ⟨a, b⟩) (fun q _ _ => rfl) rfl rfl rfl rfl rfl rfl rfl ?_ (fun q a c => ?_) (fun q a c => ?_) (fun i i0 i1 => hh i (by omega) (by omega)) ⟨hW.1, ?_, fun k k0 k1 => ?_⟩
  · rw [hh 0 (by omega) (by omega)]; exact hR.2.1
  · have c : q < X.1 0 := c
    rw [hh _ (by omega) (by omega)]; exact hR.2.2.1 q a c
  · show ig w' (31 + ig (X.2 0) q) = ig ((slX X p e b).2 1) (ig (X.2 0) q)
    have c : q < X.1 0 := c
    rw [sl_lv hV p0 e1 a c, SLW_lv hV hR hW p0 e1 a c]
  · rw [hh _ (by omega) (by omega)]; exact hR.2.2.2.2.2.2.2.1
  · have k1 : k < X.1 2 := k1
    rw [hh _ (by omega) (by omega), hh _ (by omega) (by omega)]; exact hR.2.2.2.2.2.2.2.2.1 k k0 k1
theorem k2_shift {h : ox_H} {X : ol} (hV : vx X) (hb : 5 + 10 < h.length) {p e b : Int} (p0 : 0 ≤ p) (pe : p ≤ e) (e1 : e ≤ X.1 0) : oe 38 0 [.ref 5, .int (iI p), .int (iI e), .int (iI b), .null] [] (hput h 5 X) = some (none, hput h 5 (slX X p e b)) :=
  k1_shiftLevels hb (hV.1 0 (by decide)) (hV.1 1 (by decide)) p0 pe (by have := hV.2.1; omega) (fun q q0 q1 => hV.2.2.1 q q0 (by omega))
theorem en_lv {X : ol} (hV : vx X) {p q : Int} (p0 : 0 ≤ p) (h1 : p ≤ q) (h2 : q < enX X p) : lvA X p ≤ lvA X q := by
  by_cases c : q = p
  · rw [c]; omega
  · have := (enX_in (X := X) (p := p) (q := q) (by omega) h2).2; omega
theorem en_end {X : ol} (hV : vx X) {p : Int} (p0 : 0 ≤ p) (p1 : p < X.1 0) (h : enX X p < X.1 0) : lvA X (enX X p) ≤ lvA X p := by
  have := enX_end hV p0 p1; omega
theorem an_0 {P : Int → Bool} : ∀ (k : Nat) (p : Int), anF P k p = false → ∀ q, p ≤ q → q < p + k → P q = false
  | 0, p, _, q, a, b => absurd b (by omega)
  | k + 1, p, h, q, a, b => by
    unfold anF at h
    rw [Bool.or_eq_false_iff] at h
    by_cases c : q = p
    · rw [c]; exact h.1
    · exact an_0 k (p + 1) h.2 q (by omega) (by omega)
theorem dp_le {X : ol} (hV : vx X) {p e b : Int} (p0 : 0 ≤ p) (pe : p ≤ e) (e1 : e ≤ X.1 0) (hd : ¬ 6 < dpX X p e + b) {q : Int} (h1 : p ≤ q) (h2 : q < e) : lvA X q + b ≤ 6 := by
  have hn := hV.2.1
  have := dp_an (L := lvA X) (to := e) (by' := b) 31 (e - p).toNat p 0 (by omega) (by omega)
  rw [show dpF (lvA X) e 31 p 0 = dpX X p e from rfl, decide_eq_false hd] at this
  have h3 := Bool.or_eq_false_iff.mp this.symm
  have h4 := of_decide_eq_false (an_0 _ _ h3.2 q h1 (by omega))
  omega
theorem dp_b {X : ol} (hV : vx X) (p e : Int) : ∀ (m : Nat) (p g : Int), 0 ≤ g → g ≤ 6 → 0 ≤ dpF (lvA X) e m p g ∧ dpF (lvA X) e m p g ≤ 6
  | 0, p, g, a, b => ⟨a, b⟩
  | m + 1, p, g, a, b => by
    unfold dpF
    split
    · have := lvA_b hV p
      refine dp_b hV p e m (p + 1) _ ?_ ?_ <;> split <;> omega
    · exact ⟨a, b⟩
theorem dpX_b {X : ol} (hV : vx X) (p e : Int) : 0 ≤ dpX X p e ∧ dpX X p e ≤ 6 := dp_b hV p e 31 p 0 (by omega) (by omega)
theorem st_promote {xs : List Int32} {h : ox_H} (hS : Sm xs h) (a : Int32) : ST xs h (fun h => oe 49 0 [.ref 4, .int a, .null, .null, .null, .null, .null] [] h) (fun h => oe 104 0 [.ref 133, .int a, .null, .null, .null] [] h) := by
  obtain ⟨X, c, A, H, I, K, T, U, Y, h0, hC, hM, hR⟩ := sm_parts hS
  obtain ⟨s1, s2, s3, s4, s5, -⟩ := id hR
  obtain ⟨b1, b2, b3, -⟩ := id hC
  have hw : (Y.2 0).length = 218 := s2.1
  obtain ⟨f0, f1, f2, f3, f4, f5, f6, f7, f8, f9, f10, f11, f12, f13, f14, f15⟩ := CS_facts hC
  have mO := (ma_facts hM).1
  obtain ⟨z, rfl, z0, z1⟩ := iI_ex a
  have hn := s1.2.1
  rcases ol_find X z with ⟨p, p0, p1, rfl⟩ | hz
  · have hpl := k1_placeOf1 b3 s1 p0 p1
    have ho := s1.2.2.1 p p0 p1
    have hlb := lv_in s1 p0 p1
    have hl := k1_levelAt b3 s1 (p := p) (by omega) (by omega)
    by_cases l1 : lvA X p = 1
    · refine ST_same (v := iI (-2)) hS ?_ ?_
      · simp (disch := omega) only [eX2_promote_0, eX2_promote_1, eX2_promote_4, eX2_promote_5, eX2_promote_8, eX2_promote_9, eX2_promote_10, eX2_promote_13, eX2_promote_14, eX2_promote_15, eX2_promote_16, eX2_promote_19, eX2_promote_20, eX2_promote_23, eX2_promote_24, eX2_promote_25, eX2_promote_26, eX2_promote_29, eX2_promote_31, eX2_promote_32, eX2_promote_33, eX2_promote_36, eX2_promote_37, eX2_promote_40, eX2_promote_42, eX2_promote_43, eX2_promote_46, eX2_promote_47, eX2_promote_48, eX2_promote_49, eX2_promote_50, eX2_promote_53, eX2_promote_55, eX2_promote_56, eX2_promote_59, eX2_promote_60, eX2_promote_63, eX2_promote_65, eX2_promote_66, eX2_promote_69, eX2_promote_70, eX2_promote_73, eX2_promote_75, eX2_promote_78, eX2_promote_80, eX2_promote_83, eX2_promote_86, eX2_promote_87, eX2_promote_90, eX2_promote_92, eX2_promote_94, eX2_promote_95, eX2_promote_98, eX2_promote_101, eX2_promote_103, eX2_promote_104, eX2_promote_105, eX2_promote_108, eX2_promote_109, eX2_promote_112, eX2_promote_113, eX2_promote_115, eX2_promote_116, eX2_promote_119, eX2_promote_120, eX2_promote_121, eX2_promote_122, ox_O_s, ox_B_s, ox_g_t, ox_A_s, ox_push_s, ox_push_n, ox_some, ox_z0, ox_z1, iI_lt, iI_eq, iI_add, iI_sub, ig_at, if_true, if_false, if_pos, if_neg, f0, f1, f2, f3, f4, f5, f6, f7, f8, f9, f10, f11, f12, f13, f14, f15, hpl, hl]
      · have c1 := k3_isHeading1 hM s2 s1 p0 p1
        have c2 := k3_placeOf1 hM s2 s1 p0 p1
        have c3 := k3_levelAt hM s2 s1 p0 p1
        simp (disch := omega) only [eX3_promote_0, eX3_promote_1, eX3_promote_2, eX3_promote_5, eX3_promote_8, eX3_promote_9, eX3_promote_10, eX3_promote_11, eX3_promote_12, eX3_promote_15, eX3_promote_16, eX3_promote_17, eX3_promote_18, eX3_promote_21, eX3_promote_22, eX3_promote_23, eX3_promote_24, eX3_promote_27, eX3_promote_29, eX3_promote_30, eX3_promote_31, eX3_promote_32, eX3_promote_35, eX3_promote_37, eX3_promote_38, eX3_promote_39, eX3_promote_40, eX3_promote_41, eX3_promote_42, eX3_promote_43, eX3_promote_46, eX3_promote_47, eX3_promote_50, eX3_promote_52, eX3_promote_53, eX3_promote_54, eX3_promote_55, eX3_promote_58, eX3_promote_61, eX3_promote_62, eX3_promote_63, eX3_promote_66, eX3_promote_68, eX3_promote_69, eX3_promote_70, eX3_promote_71, eX3_promote_73, eX3_promote_74, eX3_promote_77, eX3_promote_80, eX3_promote_82, eX3_promote_83, eX3_promote_84, eX3_promote_87, eX3_promote_88, eX3_promote_89, eX3_promote_91, eX3_promote_92, eX3_promote_95, eX3_promote_96, eX3_promote_97, eX3_promote_98, ox_O_s, ox_B_s, ox_g_t, ox_A_s, ox_push_s, ox_push_n, ox_some, ox_z0, ox_z1, iI_lt, iI_eq, iI_add, iI_sub, ig_at, if_true, if_false, if_pos, if_neg, mO, c1, c2, c3]
    · have heb := enX_b (X := X) p1
      have hen := k1_endOfPart b3 s1 p0 p1
      have hpa := k1_placeAbove b3 s1 (p := p) (lv := lvA X p - 1) (by omega) (by omega) (by omega) (by omega)
      have hpb := pA_b (lvA X) (lvA X p - 1) p.toNat
      have hkp := k1_kindAt b3 s1 (p := p) (by omega) (by omega)
      have hkpb := kdA_in s1 p0 p1
      have hka := k1_kindAt b3 s1 (p := pA (lvA X) (lvA X p - 1) p.toNat) (by omega) (by omega)
      have hkb := kdA_b s1 (pA (lvA X) (lvA X p - 1) p.toNat)
      have hal := k1_allows b3 s1 (pk := kdA X (pA (lvA X) (lvA X p - 1) p.toNat)) (k := kdA X p) hkb.1 hkb.2 hkpb.1 hkpb.2
      have haa := k1_allowsAll b3 s1 (pk := kdA X p) (p := enX X p) (lv := lvA X p) (by omega) hkpb.2 (by omega) (by omega) (by omega) (by omega)
      have ek : ig (Y.2 0) (61 + ig (X.2 0) p) = kdA X p := by rw [(s2.2.2.2.1 p p0 p1).2.1]; exact (if_pos ⟨p0, p1⟩).symm
      have mAll := fun (h' : ox_H) (hM' : MA h' 133 Y) => And.intro (k3_isHeading1 hM' s2 s1 p0 p1) (And.intro (k3_placeOf1 hM' s2 s1 p0 p1) (And.intro (k3_levelAt hM' s2 s1 p0 p1) (And.intro (k3_endOf hM' s2 s1 p0 p1) (And.intro (k3_parentFor hM' s2 s1 (p := p) (lv := lvA X p - 1) (by omega) (by omega) p0 (by omega)) (And.intro (k3_isAllowed hM' s2 s1 (q := pA (lvA X) (lvA X p - 1) p.toNat) (k := kdA X p) (by omega) (by omega) hkpb.1 hkpb.2) (k3_mayHave hM' s2 s1 (pk := kdA X p) (p := enX X p) (lv := lvA X p) hkpb.1 hkpb.2 (by omega) (by omega) (by omega) (by omega)))))))
      by_cases ok : alw X (kdA X (pA (lvA X) (lvA X p - 1) p.toNat)) (kdA X p) = true ∧ aaX X (kdA X p) (enX X p) (lvA X p) = true
      · rw [ok.1] at hal
        rw [ok.2] at haa
        simp only [ok.1, ok.2, zb_t] at mAll
        obtain ⟨h', A', e1, hC', hfr⟩ := k2_remember hC s1.1 s3.1 s3.2
        have hO' := hC'.2.2.1
        have hl' : h'.length = 140 := hC'.1
        rw [← hput_self hO'] at e1
        have hC2 := CS_now (X' := X) hC'
        obtain ⟨g0, g1, g2, g3, g4, g5, g6, g7, g8, g9, g10, g11, g12, g13, g14, g15⟩ := CS_facts hC2
        have hb5 : 5 + 10 < h'.length := by omega
        have hsh := k2_shift s1 hb5 (b := -1) p0 (show p ≤ enX X p by omega) heb.2
        have hp0 : 0 < p := by
          by_cases c : p = 0
          · have := lv_0 s1 (by omega)
            rw [← c] at this
            exact absurd this l1
          · omega
        have hV' : vx (slX X p (enX X p) (-1)) := by
          refine vx_sl s1 hp0 heb.2 (fun q a c => ?_) (fun _ => ?_) (fun _ c => ?_)
          · have := en_lv s1 p0 a c
            have := lv_in s1 (q := q) (by omega) (by omega)
            omega
          · have := lv_step s1 (r := p - 1) (by omega) (by omega)
            rw [show p - 1 + 1 = p by omega] at this
            omega
          · have := en_end s1 p0 p1 c
            have := en_lv s1 p0 (q := enX X p - 1) (by omega) (by omega)
            omega
        have hb6 : 133 + 6 < (hput h' 5 (slX X p (enX X p) (-1))).length := by rw [gp_len]; omega
        have e0 := (paN_k Y).2.2.1 0 (by decide)
        have es : oset (paN Y) 0 (Y.2 0) = paN Y := by rw [← e0]; exact os_self
        obtain ⟨w', d1, d2⟩ := k3_shiftLevels (Y := paN Y) s1 hb6 s2 (b := -1) p0 (show p ≤ enX X p by omega) heb.2
        rw [es] at d1
        refine ST_chg0 (h1 := hput h' 5 (slX X p (enX X p) (-1))) (v := iI (lvA X p - 1)) h0 hM hR ?_ (CS_now hC') (fun a ha => by rw [gp_out (by omega)]; exact hfr a ha) (w' := w') ?_ hV' (rel_sl s1 s2 p0 heb.2 d2)
        · simp (disch := omega) only [eX2_promote_0, eX2_promote_1, eX2_promote_4, eX2_promote_5, eX2_promote_8, eX2_promote_9, eX2_promote_10, eX2_promote_13, eX2_promote_14, eX2_promote_15, eX2_promote_16, eX2_promote_19, eX2_promote_20, eX2_promote_23, eX2_promote_24, eX2_promote_25, eX2_promote_26, eX2_promote_29, eX2_promote_31, eX2_promote_32, eX2_promote_33, eX2_promote_36, eX2_promote_37, eX2_promote_40, eX2_promote_42, eX2_promote_43, eX2_promote_46, eX2_promote_47, eX2_promote_48, eX2_promote_49, eX2_promote_50, eX2_promote_53, eX2_promote_55, eX2_promote_56, eX2_promote_59, eX2_promote_60, eX2_promote_63, eX2_promote_65, eX2_promote_66, eX2_promote_69, eX2_promote_70, eX2_promote_73, eX2_promote_75, eX2_promote_78, eX2_promote_80, eX2_promote_83, eX2_promote_86, eX2_promote_87, eX2_promote_90, eX2_promote_92, eX2_promote_94, eX2_promote_95, eX2_promote_98, eX2_promote_101, eX2_promote_103, eX2_promote_104, eX2_promote_105, eX2_promote_108, eX2_promote_109, eX2_promote_112, eX2_promote_113, eX2_promote_115, eX2_promote_116, eX2_promote_119, eX2_promote_120, eX2_promote_121, eX2_promote_122, ox_O_s, ox_B_s, ox_g_t, ox_A_s, ox_push_s, ox_push_n, ox_some, ox_z0, ox_z1, iI_lt, iI_eq, iI_add, iI_sub, ig_at, if_true, if_false, if_pos, if_neg, f0, f1, f2, f3, f4, f5, f6, f7, f8, f9, f10, f11, f12, f13, f14, f15, hpl, hl, hen, hpa, hkp, hka, hal, haa, zb_t, e1, g0, g1, g2, g3, g4, g5, g6, g7, g8, g9, g10, g11, g12, g13, g14, g15, hsh]
        · obtain ⟨c1, c2, c3, c4, c5, c6, c7⟩ := mAll _ (ma_put (X := Y) hb6)
          have hr := k3_remember hb6 hw s5 (by omega) (by omega)
          simp (disch := omega) only [eX3_promote_0, eX3_promote_1, eX3_promote_2, eX3_promote_5, eX3_promote_8, eX3_promote_9, eX3_promote_10, eX3_promote_11, eX3_promote_12, eX3_promote_15, eX3_promote_16, eX3_promote_17, eX3_promote_18, eX3_promote_21, eX3_promote_22, eX3_promote_23, eX3_promote_24, eX3_promote_27, eX3_promote_29, eX3_promote_30, eX3_promote_31, eX3_promote_32, eX3_promote_35, eX3_promote_37, eX3_promote_38, eX3_promote_39, eX3_promote_40, eX3_promote_41, eX3_promote_42, eX3_promote_43, eX3_promote_46, eX3_promote_47, eX3_promote_50, eX3_promote_52, eX3_promote_53, eX3_promote_54, eX3_promote_55, eX3_promote_58, eX3_promote_61, eX3_promote_62, eX3_promote_63, eX3_promote_66, eX3_promote_68, eX3_promote_69, eX3_promote_70, eX3_promote_71, eX3_promote_73, eX3_promote_74, eX3_promote_77, eX3_promote_80, eX3_promote_82, eX3_promote_83, eX3_promote_84, eX3_promote_87, eX3_promote_88, eX3_promote_89, eX3_promote_91, eX3_promote_92, eX3_promote_95, eX3_promote_96, eX3_promote_97, eX3_promote_98, ox_O_s, ox_B_s, ox_g_t, ox_A_s, ox_push_s, ox_push_n, ox_some, ox_z0, ox_z1, iI_lt, iI_eq, iI_add, iI_sub, ig_at, if_true, if_false, if_pos, if_neg, mp_obj, mp_f0, mp_f1, mp_f2, mp_f3, mp_f4, mp_f5, mp_f6, mp_f7, mp_f8, mp_f9, mp_i0, mp_i1, mp_i2, mp_i3, mp_i4, mp_i5, mp_j0, mp_j1, mp_j2, mp_j3, mp_j4, mp_j5, mp_s0, mp_s1, mp_s2, mp_s3, mp_s4, mp_s5, mp_w2, mp_w4, mp_w6, mp_w9, oa_gl, ma_gl, ig_set, os_2, os_1, ns_1, ns_2, os_os, ns_ns, c1, c2, c3, c4, c5, ek, c6, c7, hr, d1]
      · refine ST_same (v := iI (-4)) hS ?_ ?_
        · cases q1 : alw X (kdA X (pA (lvA X) (lvA X p - 1) p.toNat)) (kdA X p) with
          | false =>
            rw [q1] at hal
            simp (disch := omega) only [eX2_promote_0, eX2_promote_1, eX2_promote_4, eX2_promote_5, eX2_promote_8, eX2_promote_9, eX2_promote_10, eX2_promote_13, eX2_promote_14, eX2_promote_15, eX2_promote_16, eX2_promote_19, eX2_promote_20, eX2_promote_23, eX2_promote_24, eX2_promote_25, eX2_promote_26, eX2_promote_29, eX2_promote_31, eX2_promote_32, eX2_promote_33, eX2_promote_36, eX2_promote_37, eX2_promote_40, eX2_promote_42, eX2_promote_43, eX2_promote_46, eX2_promote_47, eX2_promote_48, eX2_promote_49, eX2_promote_50, eX2_promote_53, eX2_promote_55, eX2_promote_56, eX2_promote_59, eX2_promote_60, eX2_promote_63, eX2_promote_65, eX2_promote_66, eX2_promote_69, eX2_promote_70, eX2_promote_73, eX2_promote_75, eX2_promote_78, eX2_promote_80, eX2_promote_83, eX2_promote_86, eX2_promote_87, eX2_promote_90, eX2_promote_92, eX2_promote_94, eX2_promote_95, eX2_promote_98, eX2_promote_101, eX2_promote_103, eX2_promote_104, eX2_promote_105, eX2_promote_108, eX2_promote_109, eX2_promote_112, eX2_promote_113, eX2_promote_115, eX2_promote_116, eX2_promote_119, eX2_promote_120, eX2_promote_121, eX2_promote_122, ox_O_s, ox_B_s, ox_g_t, ox_A_s, ox_push_s, ox_push_n, ox_some, ox_z0, ox_z1, iI_lt, iI_eq, iI_add, iI_sub, ig_at, if_true, if_false, if_pos, if_neg, f0, f1, f2, f3, f4, f5, f6, f7, f8, f9, f10, f11, f12, f13, f14, f15, hpl, hl, hen, hpa, hkp, hka, hal, zb_f]
          | true =>
            have q2 : aaX X (kdA X p) (enX X p) (lvA X p) = false := by
              cases q2 : aaX X (kdA X p) (enX X p) (lvA X p) with
              | false => rfl
              | true => exact absurd ⟨q1, q2⟩ ok
            rw [q1] at hal
            rw [q2] at haa
            simp (disch := omega) only [eX2_promote_0, eX2_promote_1, eX2_promote_4, eX2_promote_5, eX2_promote_8, eX2_promote_9, eX2_promote_10, eX2_promote_13, eX2_promote_14, eX2_promote_15, eX2_promote_16, eX2_promote_19, eX2_promote_20, eX2_promote_23, eX2_promote_24, eX2_promote_25, eX2_promote_26, eX2_promote_29, eX2_promote_31, eX2_promote_32, eX2_promote_33, eX2_promote_36, eX2_promote_37, eX2_promote_40, eX2_promote_42, eX2_promote_43, eX2_promote_46, eX2_promote_47, eX2_promote_48, eX2_promote_49, eX2_promote_50, eX2_promote_53, eX2_promote_55, eX2_promote_56, eX2_promote_59, eX2_promote_60, eX2_promote_63, eX2_promote_65, eX2_promote_66, eX2_promote_69, eX2_promote_70, eX2_promote_73, eX2_promote_75, eX2_promote_78, eX2_promote_80, eX2_promote_83, eX2_promote_86, eX2_promote_87, eX2_promote_90, eX2_promote_92, eX2_promote_94, eX2_promote_95, eX2_promote_98, eX2_promote_101, eX2_promote_103, eX2_promote_104, eX2_promote_105, eX2_promote_108, eX2_promote_109, eX2_promote_112, eX2_promote_113, eX2_promote_115, eX2_promote_116, eX2_promote_119, eX2_promote_120, eX2_promote_121, eX2_promote_122, ox_O_s, ox_B_s, ox_g_t, ox_A_s, ox_push_s, ox_push_n, ox_some, ox_z0, ox_z1, iI_lt, iI_eq, iI_add, iI_sub, ig_at, if_true, if_false, if_pos, if_neg, f0, f1, f2, f3, f4, f5, f6, f7, f8, f9, f10, f11, f12, f13, f14, f15, hpl, hl, hen, hpa, hkp, hka, hal, haa, zb_f, zb_t]
        · obtain ⟨c1, c2, c3, c4, c5, c6, c7⟩ := mAll _ hM
          have hm0 := (ma_facts hM).2.1
          have hmi := (ma_facts hM).2.2.2.2.2.2.2.2.2.2.2.1
          cases q1 : alw X (kdA X (pA (lvA X) (lvA X p - 1) p.toNat)) (kdA X p) with
          | false =>
            rw [q1] at c6
            simp (disch := omega) only [eX3_promote_0, eX3_promote_1, eX3_promote_2, eX3_promote_5, eX3_promote_8, eX3_promote_9, eX3_promote_10, eX3_promote_11, eX3_promote_12, eX3_promote_15, eX3_promote_16, eX3_promote_17, eX3_promote_18, eX3_promote_21, eX3_promote_22, eX3_promote_23, eX3_promote_24, eX3_promote_27, eX3_promote_29, eX3_promote_30, eX3_promote_31, eX3_promote_32, eX3_promote_35, eX3_promote_37, eX3_promote_38, eX3_promote_39, eX3_promote_40, eX3_promote_41, eX3_promote_42, eX3_promote_43, eX3_promote_46, eX3_promote_47, eX3_promote_50, eX3_promote_52, eX3_promote_53, eX3_promote_54, eX3_promote_55, eX3_promote_58, eX3_promote_61, eX3_promote_62, eX3_promote_63, eX3_promote_66, eX3_promote_68, eX3_promote_69, eX3_promote_70, eX3_promote_71, eX3_promote_73, eX3_promote_74, eX3_promote_77, eX3_promote_80, eX3_promote_82, eX3_promote_83, eX3_promote_84, eX3_promote_87, eX3_promote_88, eX3_promote_89, eX3_promote_91, eX3_promote_92, eX3_promote_95, eX3_promote_96, eX3_promote_97, eX3_promote_98, ox_O_s, ox_B_s, ox_g_t, ox_A_s, ox_push_s, ox_push_n, ox_some, ox_z0, ox_z1, iI_lt, iI_eq, iI_add, iI_sub, ig_at, if_true, if_false, if_pos, if_neg, mO, c1, c2, c3, c4, c5, hm0, hmi, ek, c6, zb_f]
          | true =>
            have q2 : aaX X (kdA X p) (enX X p) (lvA X p) = false := by
              cases q2 : aaX X (kdA X p) (enX X p) (lvA X p) with
              | false => rfl
              | true => exact absurd ⟨q1, q2⟩ ok
            rw [q1] at c6
            rw [q2] at c7
            simp (disch := omega) only [eX3_promote_0, eX3_promote_1, eX3_promote_2, eX3_promote_5, eX3_promote_8, eX3_promote_9, eX3_promote_10, eX3_promote_11, eX3_promote_12, eX3_promote_15, eX3_promote_16, eX3_promote_17, eX3_promote_18, eX3_promote_21, eX3_promote_22, eX3_promote_23, eX3_promote_24, eX3_promote_27, eX3_promote_29, eX3_promote_30, eX3_promote_31, eX3_promote_32, eX3_promote_35, eX3_promote_37, eX3_promote_38, eX3_promote_39, eX3_promote_40, eX3_promote_41, eX3_promote_42, eX3_promote_43, eX3_promote_46, eX3_promote_47, eX3_promote_50, eX3_promote_52, eX3_promote_53, eX3_promote_54, eX3_promote_55, eX3_promote_58, eX3_promote_61, eX3_promote_62, eX3_promote_63, eX3_promote_66, eX3_promote_68, eX3_promote_69, eX3_promote_70, eX3_promote_71, eX3_promote_73, eX3_promote_74, eX3_promote_77, eX3_promote_80, eX3_promote_82, eX3_promote_83, eX3_promote_84, eX3_promote_87, eX3_promote_88, eX3_promote_89, eX3_promote_91, eX3_promote_92, eX3_promote_95, eX3_promote_96, eX3_promote_97, eX3_promote_98, ox_O_s, ox_B_s, ox_g_t, ox_A_s, ox_push_s, ox_push_n, ox_some, ox_z0, ox_z1, iI_lt, iI_eq, iI_add, iI_sub, ig_at, if_true, if_false, if_pos, if_neg, mO, c1, c2, c3, c4, c5, hm0, hmi, ek, c6, c7, zb_f, zb_t]
  · have hpl := k1_placeOf0 b3 s1 z0 z1 hz
    have hhd := k3_isHeading0 hM s2 s1 z0 z1 hz
    refine ST_same (v := iI (-1)) hS ?_ ?_
    · simp (disch := omega) only [eX2_promote_0, eX2_promote_1, eX2_promote_4, eX2_promote_5, eX2_promote_8, eX2_promote_9, eX2_promote_10, eX2_promote_13, eX2_promote_14, eX2_promote_15, eX2_promote_16, eX2_promote_19, eX2_promote_20, eX2_promote_23, eX2_promote_24, eX2_promote_25, eX2_promote_26, eX2_promote_29, eX2_promote_31, eX2_promote_32, eX2_promote_33, eX2_promote_36, eX2_promote_37, eX2_promote_40, eX2_promote_42, eX2_promote_43, eX2_promote_46, eX2_promote_47, eX2_promote_48, eX2_promote_49, eX2_promote_50, eX2_promote_53, eX2_promote_55, eX2_promote_56, eX2_promote_59, eX2_promote_60, eX2_promote_63, eX2_promote_65, eX2_promote_66, eX2_promote_69, eX2_promote_70, eX2_promote_73, eX2_promote_75, eX2_promote_78, eX2_promote_80, eX2_promote_83, eX2_promote_86, eX2_promote_87, eX2_promote_90, eX2_promote_92, eX2_promote_94, eX2_promote_95, eX2_promote_98, eX2_promote_101, eX2_promote_103, eX2_promote_104, eX2_promote_105, eX2_promote_108, eX2_promote_109, eX2_promote_112, eX2_promote_113, eX2_promote_115, eX2_promote_116, eX2_promote_119, eX2_promote_120, eX2_promote_121, eX2_promote_122, ox_O_s, ox_B_s, ox_g_t, ox_A_s, ox_push_s, ox_push_n, ox_some, ox_z0, ox_z1, iI_lt, iI_eq, iI_add, iI_sub, ig_at, if_true, if_false, if_pos, if_neg, f0, f1, f2, f3, f4, f5, f6, f7, f8, f9, f10, f11, f12, f13, f14, f15, hpl]
    · simp (disch := omega) only [eX3_promote_0, eX3_promote_1, eX3_promote_2, eX3_promote_5, eX3_promote_8, eX3_promote_9, eX3_promote_10, eX3_promote_11, eX3_promote_12, eX3_promote_15, eX3_promote_16, eX3_promote_17, eX3_promote_18, eX3_promote_21, eX3_promote_22, eX3_promote_23, eX3_promote_24, eX3_promote_27, eX3_promote_29, eX3_promote_30, eX3_promote_31, eX3_promote_32, eX3_promote_35, eX3_promote_37, eX3_promote_38, eX3_promote_39, eX3_promote_40, eX3_promote_41, eX3_promote_42, eX3_promote_43, eX3_promote_46, eX3_promote_47, eX3_promote_50, eX3_promote_52, eX3_promote_53, eX3_promote_54, eX3_promote_55, eX3_promote_58, eX3_promote_61, eX3_promote_62, eX3_promote_63, eX3_promote_66, eX3_promote_68, eX3_promote_69, eX3_promote_70, eX3_promote_71, eX3_promote_73, eX3_promote_74, eX3_promote_77, eX3_promote_80, eX3_promote_82, eX3_promote_83, eX3_promote_84, eX3_promote_87, eX3_promote_88, eX3_promote_89, eX3_promote_91, eX3_promote_92, eX3_promote_95, eX3_promote_96, eX3_promote_97, eX3_promote_98, ox_O_s, ox_B_s, ox_g_t, ox_A_s, ox_push_s, ox_push_n, ox_some, ox_z0, ox_z1, iI_lt, iI_eq, iI_add, iI_sub, ig_at, if_true, if_false, if_pos, if_neg, mO, hhd]
/-- a sibling stands before -/
theorem dm_first {X : ol} (hV : vx X) {p : Int} (p0 : 0 ≤ p) (p1 : p < X.1 0) : lvA X (pA (lvA X) (lvA X p + 1) p.toNat) = lvA X p ↔ 0 < p ∧ lvA X p ≤ lvA X (p - 1) := by
  have hl := lv_in hV p0 p1
  constructor
  · intro e
    by_cases c : p = 0
    · rw [c, show (0 : Int).toNat = 0 from rfl, show pA (lvA X) (lvA X 0 + 1) 0 = -1 from rfl, show lvA X (-1) = 0 from if_neg (by omega)] at e
      rw [c] at hl
      omega
    · refine ⟨by omega, ?_⟩
      by_cases c2 : lvA X p ≤ lvA X (p - 1)
      · exact c2
      · exfalso
        rw [show p.toNat = (p - 1).toNat + 1 by omega] at e
        unfold pA at e
        rw [show (((p - 1).toNat : Nat) : Int) = p - 1 by omega, if_pos (by omega)] at e
        omega
  · intro ⟨c, c2⟩
    have := pA_lv hV hl.1 p.toNat (by omega) (by omega) (by rw [show ((p.toNat : Nat) : Int) - 1 = p - 1 by omega]; exact c2)
    exact this
theorem st_demote {xs : List Int32} {h : ox_H} (hS : Sm xs h) (a : Int32) : ST xs h (fun h => oe 50 0 [.ref 4, .int a, .null, .null, .null, .null] [] h) (fun h => oe 106 0 [.ref 133, .int a, .null, .null, .null] [] h) := by
  obtain ⟨X, c, A, H, I, K, T, U, Y, h0, hC, hM, hR⟩ := sm_parts hS
  obtain ⟨s1, s2, s3, s4, s5, -⟩ := id hR
  obtain ⟨b1, b2, b3, -⟩ := id hC
  have hw : (Y.2 0).length = 218 := s2.1
  obtain ⟨f0, f1, f2, f3, f4, f5, f6, f7, f8, f9, f10, f11, f12, f13, f14, f15⟩ := CS_facts hC
  have mO := (ma_facts hM).1
  obtain ⟨z, rfl, z0, z1⟩ := iI_ex a
  have hn := s1.2.1
  rcases ol_find X z with ⟨p, p0, p1, rfl⟩ | hz
  · have hpl := k1_placeOf1 b3 s1 p0 p1
    have ho := s1.2.2.1 p p0 p1
    have hlb := lv_in s1 p0 p1
    have hl := k1_levelAt b3 s1 (p := p) (by omega) (by omega)
    have heb := enX_b (X := X) p1
    have hen := k1_endOfPart b3 s1 p0 p1
    have hpa := k1_placeAbove b3 s1 (p := p) (lv := lvA X p + 1) (by omega) (by omega) (by omega) (by omega)
    have hpb := pA_b (lvA X) (lvA X p + 1) p.toNat
    have hlp := k1_levelAt b3 s1 (p := pA (lvA X) (lvA X p + 1) p.toNat) (by omega) (by omega)
    have hlpb := lvA_b s1 (pA (lvA X) (lvA X p + 1) p.toNat)
    have hdp := k1_deepest b3 s1 (p := p) (q := enX X p) (by omega) (by omega) (by omega) (by omega)
    have hdb := dpX_b s1 p (enX X p)
    have hfi := dm_first s1 p0 p1
    have mAll := fun (h' : ox_H) (hM' : MA h' 133 Y) => And.intro (k3_isHeading1 hM' s2 s1 p0 p1) (And.intro (k3_placeOf1 hM' s2 s1 p0 p1) (And.intro (k3_levelAt hM' s2 s1 p0 p1) (And.intro (k3_endOf hM' s2 s1 p0 p1) (k3_isDeep hM' s2 s1 (p := p) (to := enX X p) (by' := 1) (by omega) (by omega) p0 (by omega) heb.2))))
    by_cases fi : 0 < p ∧ lvA X p ≤ lvA X (p - 1)
    · have hf := hfi.mpr fi
      have hlm := lv_in s1 (q := p - 1) (by omega) (by omega)
      have mLev := fun (h' : ox_H) (hM' : MA h' 133 Y) => k3_levelAt hM' s2 s1 (p := p - 1) (by omega) (by omega)
      rw [hf] at hlp
      by_cases dp : 6 ≤ dpX X p (enX X p)
      · refine ST_same (v := iI (-2)) hS ?_ ?_
        · simp (disch := omega) only [eX2_demote_0, eX2_demote_1, eX2_demote_4, eX2_demote_5, eX2_demote_8, eX2_demote_9, eX2_demote_10, eX2_demote_13, eX2_demote_14, eX2_demote_15, eX2_demote_16, eX2_demote_19, eX2_demote_20, eX2_demote_23, eX2_demote_24, eX2_demote_25, eX2_demote_28, eX2_demote_29, eX2_demote_32, eX2_demote_34, eX2_demote_35, eX2_demote_38, eX2_demote_39, eX2_demote_40, eX2_demote_41, eX2_demote_42, eX2_demote_45, eX2_demote_47, eX2_demote_48, eX2_demote_51, eX2_demote_53, eX2_demote_56, eX2_demote_57, eX2_demote_60, eX2_demote_61, eX2_demote_64, eX2_demote_65, eX2_demote_67, eX2_demote_70, eX2_demote_72, eX2_demote_75, eX2_demote_77, eX2_demote_78, eX2_demote_79, eX2_demote_82, eX2_demote_83, eX2_demote_86, eX2_demote_88, eX2_demote_91, eX2_demote_92, eX2_demote_95, eX2_demote_96, eX2_demote_99, eX2_demote_102, eX2_demote_105, eX2_demote_107, eX2_demote_108, eX2_demote_109, eX2_demote_112, eX2_demote_113, eX2_demote_116, eX2_demote_117, eX2_demote_119, eX2_demote_120, eX2_demote_123, eX2_demote_124, eX2_demote_125, eX2_demote_126, ox_O_s, ox_B_s, ox_g_t, ox_A_s, ox_push_s, ox_push_n, ox_some, ox_z0, ox_z1, iI_lt, iI_eq, iI_add, iI_sub, ig_at, if_true, if_false, if_pos, if_neg, f0, f1, f2, f3, f4, f5, f6, f7, f8, f9, f10, f11, f12, f13, f14, f15, hpl, hl, hen, hpa, hlp, hdp]
        · obtain ⟨c1, c2, c3, c4, c5⟩ := mAll _ hM
          have c6 := mLev _ hM
          rw [decide_eq_true (by omega)] at c5
          simp (maxSteps := 1000000) (disch := omega) only [eX3_demote_0, eX3_demote_1, eX3_demote_2, eX3_demote_5, eX3_demote_8, eX3_demote_9, eX3_demote_10, eX3_demote_11, eX3_demote_12, eX3_demote_15, eX3_demote_16, eX3_demote_17, eX3_demote_18, eX3_demote_21, eX3_demote_22, eX3_demote_23, eX3_demote_26, eX3_demote_27, eX3_demote_28, eX3_demote_29, eX3_demote_30, eX3_demote_33, eX3_demote_34, eX3_demote_35, eX3_demote_38, eX3_demote_41, eX3_demote_42, eX3_demote_45, eX3_demote_46, eX3_demote_48, eX3_demote_50, eX3_demote_53, eX3_demote_54, eX3_demote_55, eX3_demote_56, eX3_demote_57, eX3_demote_60, eX3_demote_63, eX3_demote_65, eX3_demote_66, eX3_demote_67, eX3_demote_68, eX3_demote_69, eX3_demote_70, eX3_demote_71, eX3_demote_74, eX3_demote_75, eX3_demote_76, eX3_demote_79, eX3_demote_80, eX3_demote_83, eX3_demote_85, eX3_demote_86, eX3_demote_87, eX3_demote_88, eX3_demote_91, eX3_demote_94, eX3_demote_96, eX3_demote_97, eX3_demote_98, eX3_demote_101, eX3_demote_102, eX3_demote_103, eX3_demote_104, eX3_demote_105, eX3_demote_108, eX3_demote_109, eX3_demote_112, eX3_demote_114, eX3_demote_115, eX3_demote_116, eX3_demote_117, ox_O_s, ox_B_s, ox_g_t, ox_A_s, ox_push_s, ox_push_n, ox_some, ox_z0, ox_z1, iI_lt, iI_eq, iI_add, iI_sub, ig_at, if_true, if_false, if_pos, if_neg, mO, c1, c2, c3, c4, c5, c6, zb_t]
      · have hkp := k1_kindAt b3 s1 (p := p) (by omega) (by omega)
        have hkpb := kdA_in s1 p0 p1
        have hka := k1_kindAt b3 s1 (p := pA (lvA X) (lvA X p + 1) p.toNat) (by omega) (by omega)
        have hkb := kdA_b s1 (pA (lvA X) (lvA X p + 1) p.toNat)
        have hal := k1_allows b3 s1 (pk := kdA X (pA (lvA X) (lvA X p + 1) p.toNat)) (k := kdA X p) hkb.1 hkb.2 hkpb.1 hkpb.2
        have ek : ig (Y.2 0) (61 + ig (X.2 0) p) = kdA X p := by rw [(s2.2.2.2.1 p p0 p1).2.1]; exact (if_pos ⟨p0, p1⟩).symm
        have mAl := fun (h' : ox_H) (hM' : MA h' 133 Y) => And.intro (k3_parentFor hM' s2 s1 (p := p) (lv := lvA X p + 1) (by omega) (by omega) p0 (by omega)) (k3_isAllowed hM' s2 s1 (q := pA (lvA X) (lvA X p + 1) p.toNat) (k := kdA X p) (by omega) (by omega) hkpb.1 hkpb.2)
        rw [decide_eq_false (by omega)] at mAll
        cases ok : alw X (kdA X (pA (lvA X) (lvA X p + 1) p.toNat)) (kdA X p) with
        | true =>
          rw [ok] at hal
          simp only [ok, zb_t] at mAl
          obtain ⟨h', A', e1, hC', hfr⟩ := k2_remember hC s1.1 s3.1 s3.2
          have hO' := hC'.2.2.1
          have hl' : h'.length = 140 := hC'.1
          rw [← hput_self hO'] at e1
          have hC2 := CS_now (X' := X) hC'
          obtain ⟨g0, g1, g2, g3, g4, g5, g6, g7, g8, g9, g10, g11, g12, g13, g14, g15⟩ := CS_facts hC2
          have hb5 : 5 + 10 < h'.length := by omega
          have hsh := k2_shift s1 hb5 (b := 1) p0 (show p ≤ enX X p by omega) heb.2
          have hV' : vx (slX X p (enX X p) 1) := by
            refine vx_sl s1 fi.1 heb.2 (fun q a c => ?_) (fun _ => ?_) (fun _ c => ?_)
            · have := dp_le s1 (b := 1) p0 (show p ≤ enX X p by omega) heb.2 (by omega) a c
              have := lv_in s1 (q := q) (by omega) (by omega)
              omega
            · omega
            · have := en_end s1 p0 p1 c
              have := en_lv s1 p0 (q := enX X p - 1) (by omega) (by omega)
              omega
          have hb6 : 133 + 6 < (hput h' 5 (slX X p (enX X p) 1)).length := by rw [gp_len]; omega
          have e0 := (paN_k Y).2.2.1 0 (by decide)
          have es : oset (paN Y) 0 (Y.2 0) = paN Y := by rw [← e0]; exact os_self
          obtain ⟨w', d1, d2⟩ := k3_shiftLevels (Y := paN Y) s1 hb6 s2 (b := 1) p0 (show p ≤ enX X p by omega) heb.2
          rw [es] at d1
          refine ST_chg0 (h1 := hput h' 5 (slX X p (enX X p) 1)) (v := iI (lvA X p + 1)) h0 hM hR ?_ (CS_now hC') (fun a ha => by rw [gp_out (by omega)]; exact hfr a ha) (w' := w') ?_ hV' (rel_sl s1 s2 p0 heb.2 d2)
          · simp (disch := omega) only [eX2_demote_0, eX2_demote_1, eX2_demote_4, eX2_demote_5, eX2_demote_8, eX2_demote_9, eX2_demote_10, eX2_demote_13, eX2_demote_14, eX2_demote_15, eX2_demote_16, eX2_demote_19, eX2_demote_20, eX2_demote_23, eX2_demote_24, eX2_demote_25, eX2_demote_28, eX2_demote_29, eX2_demote_32, eX2_demote_34, eX2_demote_35, eX2_demote_38, eX2_demote_39, eX2_demote_40, eX2_demote_41, eX2_demote_42, eX2_demote_45, eX2_demote_47, eX2_demote_48, eX2_demote_51, eX2_demote_53, eX2_demote_56, eX2_demote_57, eX2_demote_60, eX2_demote_61, eX2_demote_64, eX2_demote_65, eX2_demote_67, eX2_demote_70, eX2_demote_72, eX2_demote_75, eX2_demote_77, eX2_demote_78, eX2_demote_79, eX2_demote_82, eX2_demote_83, eX2_demote_86, eX2_demote_88, eX2_demote_91, eX2_demote_92, eX2_demote_95, eX2_demote_96, eX2_demote_99, eX2_demote_102, eX2_demote_105, eX2_demote_107, eX2_demote_108, eX2_demote_109, eX2_demote_112, eX2_demote_113, eX2_demote_116, eX2_demote_117, eX2_demote_119, eX2_demote_120, eX2_demote_123, eX2_demote_124, eX2_demote_125, eX2_demote_126, ox_O_s, ox_B_s, ox_g_t, ox_A_s, ox_push_s, ox_push_n, ox_some, ox_z0, ox_z1, iI_lt, iI_eq, iI_add, iI_sub, ig_at, if_true, if_false, if_pos, if_neg, f0, f1, f2, f3, f4, f5, f6, f7, f8, f9, f10, f11, f12, f13, f14, f15, hpl, hl, hen, hpa, hlp, hdp, hkp, hka, hal, zb_t, e1, g0, g1, g2, g3, g4, g5, g6, g7, g8, g9, g10, g11, g12, g13, g14, g15, hsh]
          · obtain ⟨c1, c2, c3, c4, c5⟩ := mAll _ (ma_put (X := Y) hb6)
            have c6 := mLev _ (ma_put (X := Y) hb6)
            obtain ⟨c7, c8⟩ := mAl _ (ma_put (X := Y) hb6)
            have hr := k3_remember hb6 hw s5 (by omega) (by omega)
            have wl : w'.length = 218 := d2.1
            have elv := SLW_lv s1 s2 d2 p0 heb.2 p0 p1
            rw [if_pos ⟨by omega, by omega⟩] at elv
            simp (maxSteps := 1000000) (disch := omega) only [eX3_demote_0, eX3_demote_1, eX3_demote_2, eX3_demote_5, eX3_demote_8, eX3_demote_9, eX3_demote_10, eX3_demote_11, eX3_demote_12, eX3_demote_15, eX3_demote_16, eX3_demote_17, eX3_demote_18, eX3_demote_21, eX3_demote_22, eX3_demote_23, eX3_demote_26, eX3_demote_27, eX3_demote_28, eX3_demote_29, eX3_demote_30, eX3_demote_33, eX3_demote_34, eX3_demote_35, eX3_demote_38, eX3_demote_41, eX3_demote_42, eX3_demote_45, eX3_demote_46, eX3_demote_48, eX3_demote_50, eX3_demote_53, eX3_demote_54, eX3_demote_55, eX3_demote_56, eX3_demote_57, eX3_demote_60, eX3_demote_63, eX3_demote_65, eX3_demote_66, eX3_demote_67, eX3_demote_68, eX3_demote_69, eX3_demote_70, eX3_demote_71, eX3_demote_74, eX3_demote_75, eX3_demote_76, eX3_demote_79, eX3_demote_80, eX3_demote_83, eX3_demote_85, eX3_demote_86, eX3_demote_87, eX3_demote_88, eX3_demote_91, eX3_demote_94, eX3_demote_96, eX3_demote_97, eX3_demote_98, eX3_demote_101, eX3_demote_102, eX3_demote_103, eX3_demote_104, eX3_demote_105, eX3_demote_108, eX3_demote_109, eX3_demote_112, eX3_demote_114, eX3_demote_115, eX3_demote_116, eX3_demote_117, ox_O_s, ox_B_s, ox_g_t, ox_A_s, ox_push_s, ox_push_n, ox_some, ox_z0, ox_z1, iI_lt, iI_eq, iI_add, iI_sub, ig_at, if_true, if_false, if_pos, if_neg, mp_obj, mp_f0, mp_f1, mp_f2, mp_f3, mp_f4, mp_f5, mp_f6, mp_f7, mp_f8, mp_f9, mp_i0, mp_i1, mp_i2, mp_i3, mp_i4, mp_i5, mp_j0, mp_j1, mp_j2, mp_j3, mp_j4, mp_j5, mp_s0, mp_s1, mp_s2, mp_s3, mp_s4, mp_s5, mp_w2, mp_w4, mp_w6, mp_w9, oa_gl, ma_gl, ig_set, os_2, os_1, ns_1, ns_2, os_os, ns_ns, c1, c2, c3, c4, c5, c6, zb_f, c7, ek, c8, hr, d1, elv]
        | false =>
          rw [ok] at hal
          simp only [ok, zb_f] at mAl
          refine ST_same (v := iI (-4)) hS ?_ ?_
          · simp (disch := omega) only [eX2_demote_0, eX2_demote_1, eX2_demote_4, eX2_demote_5, eX2_demote_8, eX2_demote_9, eX2_demote_10, eX2_demote_13, eX2_demote_14, eX2_demote_15, eX2_demote_16, eX2_demote_19, eX2_demote_20, eX2_demote_23, eX2_demote_24, eX2_demote_25, eX2_demote_28, eX2_demote_29, eX2_demote_32, eX2_demote_34, eX2_demote_35, eX2_demote_38, eX2_demote_39, eX2_demote_40, eX2_demote_41, eX2_demote_42, eX2_demote_45, eX2_demote_47, eX2_demote_48, eX2_demote_51, eX2_demote_53, eX2_demote_56, eX2_demote_57, eX2_demote_60, eX2_demote_61, eX2_demote_64, eX2_demote_65, eX2_demote_67, eX2_demote_70, eX2_demote_72, eX2_demote_75, eX2_demote_77, eX2_demote_78, eX2_demote_79, eX2_demote_82, eX2_demote_83, eX2_demote_86, eX2_demote_88, eX2_demote_91, eX2_demote_92, eX2_demote_95, eX2_demote_96, eX2_demote_99, eX2_demote_102, eX2_demote_105, eX2_demote_107, eX2_demote_108, eX2_demote_109, eX2_demote_112, eX2_demote_113, eX2_demote_116, eX2_demote_117, eX2_demote_119, eX2_demote_120, eX2_demote_123, eX2_demote_124, eX2_demote_125, eX2_demote_126, ox_O_s, ox_B_s, ox_g_t, ox_A_s, ox_push_s, ox_push_n, ox_some, ox_z0, ox_z1, iI_lt, iI_eq, iI_add, iI_sub, ig_at, if_true, if_false, if_pos, if_neg, f0, f1, f2, f3, f4, f5, f6, f7, f8, f9, f10, f11, f12, f13, f14, f15, hpl, hl, hen, hpa, hlp, hdp, hkp, hka, hal, zb_f]
          · obtain ⟨c1, c2, c3, c4, c5⟩ := mAll _ hM
            have c6 := mLev _ hM
            obtain ⟨c7, c8⟩ := mAl _ hM
            have hm0 := (ma_facts hM).2.1
            have hmi := (ma_facts hM).2.2.2.2.2.2.2.2.2.2.2.1
            simp (maxSteps := 1000000) (disch := omega) only [eX3_demote_0, eX3_demote_1, eX3_demote_2, eX3_demote_5, eX3_demote_8, eX3_demote_9, eX3_demote_10, eX3_demote_11, eX3_demote_12, eX3_demote_15, eX3_demote_16, eX3_demote_17, eX3_demote_18, eX3_demote_21, eX3_demote_22, eX3_demote_23, eX3_demote_26, eX3_demote_27, eX3_demote_28, eX3_demote_29, eX3_demote_30, eX3_demote_33, eX3_demote_34, eX3_demote_35, eX3_demote_38, eX3_demote_41, eX3_demote_42, eX3_demote_45, eX3_demote_46, eX3_demote_48, eX3_demote_50, eX3_demote_53, eX3_demote_54, eX3_demote_55, eX3_demote_56, eX3_demote_57, eX3_demote_60, eX3_demote_63, eX3_demote_65, eX3_demote_66, eX3_demote_67, eX3_demote_68, eX3_demote_69, eX3_demote_70, eX3_demote_71, eX3_demote_74, eX3_demote_75, eX3_demote_76, eX3_demote_79, eX3_demote_80, eX3_demote_83, eX3_demote_85, eX3_demote_86, eX3_demote_87, eX3_demote_88, eX3_demote_91, eX3_demote_94, eX3_demote_96, eX3_demote_97, eX3_demote_98, eX3_demote_101, eX3_demote_102, eX3_demote_103, eX3_demote_104, eX3_demote_105, eX3_demote_108, eX3_demote_109, eX3_demote_112, eX3_demote_114, eX3_demote_115, eX3_demote_116, eX3_demote_117, ox_O_s, ox_B_s, ox_g_t, ox_A_s, ox_push_s, ox_push_n, ox_some, ox_z0, ox_z1, iI_lt, iI_eq, iI_add, iI_sub, ig_at, if_true, if_false, if_pos, if_neg, mO, c1, c2, c3, c4, c5, c6, zb_f, hm0, hmi, c7, ek, c8]
    · have hf : ¬ lvA X (pA (lvA X) (lvA X p + 1) p.toNat) = lvA X p := fun e => fi (hfi.mp e)
      refine ST_same (v := iI (-2)) hS ?_ ?_
      · simp (disch := omega) only [eX2_demote_0, eX2_demote_1, eX2_demote_4, eX2_demote_5, eX2_demote_8, eX2_demote_9, eX2_demote_10, eX2_demote_13, eX2_demote_14, eX2_demote_15, eX2_demote_16, eX2_demote_19, eX2_demote_20, eX2_demote_23, eX2_demote_24, eX2_demote_25, eX2_demote_28, eX2_demote_29, eX2_demote_32, eX2_demote_34, eX2_demote_35, eX2_demote_38, eX2_demote_39, eX2_demote_40, eX2_demote_41, eX2_demote_42, eX2_demote_45, eX2_demote_47, eX2_demote_48, eX2_demote_51, eX2_demote_53, eX2_demote_56, eX2_demote_57, eX2_demote_60, eX2_demote_61, eX2_demote_64, eX2_demote_65, eX2_demote_67, eX2_demote_70, eX2_demote_72, eX2_demote_75, eX2_demote_77, eX2_demote_78, eX2_demote_79, eX2_demote_82, eX2_demote_83, eX2_demote_86, eX2_demote_88, eX2_demote_91, eX2_demote_92, eX2_demote_95, eX2_demote_96, eX2_demote_99, eX2_demote_102, eX2_demote_105, eX2_demote_107, eX2_demote_108, eX2_demote_109, eX2_demote_112, eX2_demote_113, eX2_demote_116, eX2_demote_117, eX2_demote_119, eX2_demote_120, eX2_demote_123, eX2_demote_124, eX2_demote_125, eX2_demote_126, ox_O_s, ox_B_s, ox_g_t, ox_A_s, ox_push_s, ox_push_n, ox_some, ox_z0, ox_z1, iI_lt, iI_eq, iI_add, iI_sub, ig_at, if_true, if_false, if_pos, if_neg, f0, f1, f2, f3, f4, f5, f6, f7, f8, f9, f10, f11, f12, f13, f14, f15, hpl, hl, hen, hpa, hlp]
      · obtain ⟨c1, c2, c3, c4, c5⟩ := mAll _ hM
        by_cases pz : p = 0
        · simp (maxSteps := 1000000) (disch := omega) only [eX3_demote_0, eX3_demote_1, eX3_demote_2, eX3_demote_5, eX3_demote_8, eX3_demote_9, eX3_demote_10, eX3_demote_11, eX3_demote_12, eX3_demote_15, eX3_demote_16, eX3_demote_17, eX3_demote_18, eX3_demote_21, eX3_demote_22, eX3_demote_23, eX3_demote_26, eX3_demote_27, eX3_demote_28, eX3_demote_29, eX3_demote_30, eX3_demote_33, eX3_demote_34, eX3_demote_35, eX3_demote_38, eX3_demote_41, eX3_demote_42, eX3_demote_45, eX3_demote_46, eX3_demote_48, eX3_demote_50, eX3_demote_53, eX3_demote_54, eX3_demote_55, eX3_demote_56, eX3_demote_57, eX3_demote_60, eX3_demote_63, eX3_demote_65, eX3_demote_66, eX3_demote_67, eX3_demote_68, eX3_demote_69, eX3_demote_70, eX3_demote_71, eX3_demote_74, eX3_demote_75, eX3_demote_76, eX3_demote_79, eX3_demote_80, eX3_demote_83, eX3_demote_85, eX3_demote_86, eX3_demote_87, eX3_demote_88, eX3_demote_91, eX3_demote_94, eX3_demote_96, eX3_demote_97, eX3_demote_98, eX3_demote_101, eX3_demote_102, eX3_demote_103, eX3_demote_104, eX3_demote_105, eX3_demote_108, eX3_demote_109, eX3_demote_112, eX3_demote_114, eX3_demote_115, eX3_demote_116, eX3_demote_117, ox_O_s, ox_B_s, ox_g_t, ox_A_s, ox_push_s, ox_push_n, ox_some, ox_z0, ox_z1, iI_lt, iI_eq, iI_add, iI_sub, ig_at, if_true, if_false, if_pos, if_neg, mO, c1, c2, c3, c4]
        · have hlm := lv_in s1 (q := p - 1) (by omega) (by omega)
          have c6 := k3_levelAt hM s2 s1 (p := p - 1) (by omega) (by omega)
          simp (maxSteps := 1000000) (disch := omega) only [eX3_demote_0, eX3_demote_1, eX3_demote_2, eX3_demote_5, eX3_demote_8, eX3_demote_9, eX3_demote_10, eX3_demote_11, eX3_demote_12, eX3_demote_15, eX3_demote_16, eX3_demote_17, eX3_demote_18, eX3_demote_21, eX3_demote_22, eX3_demote_23, eX3_demote_26, eX3_demote_27, eX3_demote_28, eX3_demote_29, eX3_demote_30, eX3_demote_33, eX3_demote_34, eX3_demote_35, eX3_demote_38, eX3_demote_41, eX3_demote_42, eX3_demote_45, eX3_demote_46, eX3_demote_48, eX3_demote_50, eX3_demote_53, eX3_demote_54, eX3_demote_55, eX3_demote_56, eX3_demote_57, eX3_demote_60, eX3_demote_63, eX3_demote_65, eX3_demote_66, eX3_demote_67, eX3_demote_68, eX3_demote_69, eX3_demote_70, eX3_demote_71, eX3_demote_74, eX3_demote_75, eX3_demote_76, eX3_demote_79, eX3_demote_80, eX3_demote_83, eX3_demote_85, eX3_demote_86, eX3_demote_87, eX3_demote_88, eX3_demote_91, eX3_demote_94, eX3_demote_96, eX3_demote_97, eX3_demote_98, eX3_demote_101, eX3_demote_102, eX3_demote_103, eX3_demote_104, eX3_demote_105, eX3_demote_108, eX3_demote_109, eX3_demote_112, eX3_demote_114, eX3_demote_115, eX3_demote_116, eX3_demote_117, ox_O_s, ox_B_s, ox_g_t, ox_A_s, ox_push_s, ox_push_n, ox_some, ox_z0, ox_z1, iI_lt, iI_eq, iI_add, iI_sub, ig_at, if_true, if_false, if_pos, if_neg, mO, c1, c2, c3, c4, c6]
  · have hpl := k1_placeOf0 b3 s1 z0 z1 hz
    have hhd := k3_isHeading0 hM s2 s1 z0 z1 hz
    refine ST_same (v := iI (-1)) hS ?_ ?_
    · simp (disch := omega) only [eX2_demote_0, eX2_demote_1, eX2_demote_4, eX2_demote_5, eX2_demote_8, eX2_demote_9, eX2_demote_10, eX2_demote_13, eX2_demote_14, eX2_demote_15, eX2_demote_16, eX2_demote_19, eX2_demote_20, eX2_demote_23, eX2_demote_24, eX2_demote_25, eX2_demote_28, eX2_demote_29, eX2_demote_32, eX2_demote_34, eX2_demote_35, eX2_demote_38, eX2_demote_39, eX2_demote_40, eX2_demote_41, eX2_demote_42, eX2_demote_45, eX2_demote_47, eX2_demote_48, eX2_demote_51, eX2_demote_53, eX2_demote_56, eX2_demote_57, eX2_demote_60, eX2_demote_61, eX2_demote_64, eX2_demote_65, eX2_demote_67, eX2_demote_70, eX2_demote_72, eX2_demote_75, eX2_demote_77, eX2_demote_78, eX2_demote_79, eX2_demote_82, eX2_demote_83, eX2_demote_86, eX2_demote_88, eX2_demote_91, eX2_demote_92, eX2_demote_95, eX2_demote_96, eX2_demote_99, eX2_demote_102, eX2_demote_105, eX2_demote_107, eX2_demote_108, eX2_demote_109, eX2_demote_112, eX2_demote_113, eX2_demote_116, eX2_demote_117, eX2_demote_119, eX2_demote_120, eX2_demote_123, eX2_demote_124, eX2_demote_125, eX2_demote_126, ox_O_s, ox_B_s, ox_g_t, ox_A_s, ox_push_s, ox_push_n, ox_some, ox_z0, ox_z1, iI_lt, iI_eq, iI_add, iI_sub, ig_at, if_true, if_false, if_pos, if_neg, f0, f1, f2, f3, f4, f5, f6, f7, f8, f9, f10, f11, f12, f13, f14, f15, hpl]
    · simp (maxSteps := 1000000) (disch := omega) only [eX3_demote_0, eX3_demote_1, eX3_demote_2, eX3_demote_5, eX3_demote_8, eX3_demote_9, eX3_demote_10, eX3_demote_11, eX3_demote_12, eX3_demote_15, eX3_demote_16, eX3_demote_17, eX3_demote_18, eX3_demote_21, eX3_demote_22, eX3_demote_23, eX3_demote_26, eX3_demote_27, eX3_demote_28, eX3_demote_29, eX3_demote_30, eX3_demote_33, eX3_demote_34, eX3_demote_35, eX3_demote_38, eX3_demote_41, eX3_demote_42, eX3_demote_45, eX3_demote_46, eX3_demote_48, eX3_demote_50, eX3_demote_53, eX3_demote_54, eX3_demote_55, eX3_demote_56, eX3_demote_57, eX3_demote_60, eX3_demote_63, eX3_demote_65, eX3_demote_66, eX3_demote_67, eX3_demote_68, eX3_demote_69, eX3_demote_70, eX3_demote_71, eX3_demote_74, eX3_demote_75, eX3_demote_76, eX3_demote_79, eX3_demote_80, eX3_demote_83, eX3_demote_85, eX3_demote_86, eX3_demote_87, eX3_demote_88, eX3_demote_91, eX3_demote_94, eX3_demote_96, eX3_demote_97, eX3_demote_98, eX3_demote_101, eX3_demote_102, eX3_demote_103, eX3_demote_104, eX3_demote_105, eX3_demote_108, eX3_demote_109, eX3_demote_112, eX3_demote_114, eX3_demote_115, eX3_demote_116, eX3_demote_117, ox_O_s, ox_B_s, ox_g_t, ox_A_s, ox_push_s, ox_push_n, ox_some, ox_z0, ox_z1, iI_lt, iI_eq, iI_add, iI_sub, ig_at, if_true, if_false, if_pos, if_neg, mO, hhd]
