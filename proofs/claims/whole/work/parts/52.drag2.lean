/-! drag. -/
theorem dr_end {X : ol} (hV : vx X) {p g : Int} (p0 : 0 ≤ p) (p1 : p < X.1 0) (g0 : 0 ≤ g) (g1 : g < X.1 0) (hg : g < p ∨ enX X p ≤ g) : (enX X g ≤ p ∨ enX X p ≤ enX X g) ∧ enX (cuX X p (enX X p)) (if g < p then g else g - (enX X p - p)) = if enX X g ≤ p then enX X g else enX X g - (enX X p - p) := by
  have hb := enX_b (X := X) p1
  have hbg := enX_b (X := X) g1
  have hV1 := vx_cut hV p0 (show p < enX X p by omega) hb.2 (fun c => en_end hV p0 p1 c)
  have n1 : (cuX X p (enX X p)).1 0 = X.1 0 - (enX X p - p) := rfl
  have hlv := fun q (a : 0 ≤ q) c => cut_lvA hV p0 (show p ≤ enX X p by omega) hb.2 (q := q) a c
  have first : enX X g ≤ p ∨ enX X p ≤ enX X g := by
    by_cases c : enX X g ≤ p
    · exact Or.inl c
    · by_cases c2 : enX X p ≤ enX X g
      · exact Or.inr c2
      · exfalso
        have h1 := (enX_in (X := X) (p := p) (q := enX X g) (by omega) (by omega)).2
        have h2 := (enX_in (X := X) (p := g) (q := p) (by omega) (by omega)).2
        have h3 := en_end hV g0 g1 (by omega)
        omega
  refine ⟨first, ?_⟩
  have hsg : cuS' p (enX X p - p) (if g < p then g else g - (enX X p - p)) = g := by
    unfold cuS'
    by_cases c : g < p
    · rw [if_pos c, if_pos c]
    · rw [if_neg c, if_neg (by omega)]; omega
  have hg' : 0 ≤ (if g < p then g else g - (enX X p - p)) ∧ (if g < p then g else g - (enX X p - p)) < X.1 0 - (enX X p - p) := by split <;> omega
  have hlg : lvA (cuX X p (enX X p)) (if g < p then g else g - (enX X p - p)) = lvA X g := by rw [hlv _ hg'.1 hg'.2, hsg]
  refine en_uniq hV1 hg'.1 (by rw [n1]; exact hg'.2) ?_ ?_ (fun q qa qb => ?_) (fun c => ?_)
  · split <;> split <;> omega
  · rw [n1]; split <;> omega
  · have qn : q < X.1 0 - (enX X p - p) := by
      by_cases c : enX X g ≤ p
      · rw [if_pos c] at qb; omega
      · rw [if_neg c] at qb; omega
    have q0 : 0 ≤ q := by omega
    rw [hlg, hlv q q0 qn]
    have hs : g + 1 ≤ cuS' p (enX X p - p) q ∧ cuS' p (enX X p - p) q < enX X g := by
      unfold cuS'
      by_cases c : enX X g ≤ p
      · rw [if_pos c] at qb
        rw [if_pos (show g < p by omega)] at qa
        rw [if_pos (by omega)]; omega
      · rw [if_neg c] at qb
        by_cases c2 : g < p
        · rw [if_pos c2] at qa
          split <;> omega
        · rw [if_neg c2] at qa
          rw [if_neg (by omega)]; omega
    exact (enX_in hs.1 hs.2).2
  · rw [n1] at c
    rw [hlg]
    by_cases c1 : enX X g ≤ p
    · rw [if_pos c1] at c ⊢
      rw [hlv _ (by omega) c]
      unfold cuS'
      by_cases c2 : enX X g < p
      · rw [if_pos c2]; exact en_end hV g0 g1 (by omega)
      · rw [if_neg c2, show enX X g + (enX X p - p) = enX X p by omega]
        have h1 := en_end hV p0 p1 (by omega)
        have h2 := en_end hV g0 g1 (by omega)
        rw [show enX X g = p by omega] at h2
        omega
    · rw [if_neg c1] at c ⊢
      rw [hlv _ (by omega) c]
      unfold cuS'
      rw [if_neg (by omega), show enX X g - (enX X p - p) + (enX X p - p) = enX X g by omega]
      exact en_end hV g0 g1 (by omega)
theorem dr_mv {l : List Int} (hl : l.length = 30) {p e to n : Int} (p0 : 0 ≤ p) (pe : p ≤ e) (en : e ≤ n) (n1 : n ≤ 30) (t0 : 0 ≤ to) (t1 : to ≤ n) (ht : to ≤ p ∨ e ≤ to) {q : Int} (q0 : 0 ≤ q) (q1 : q < n) : ig (if to ≤ p then swX to p e l else swX p e to l) q = ig l (dS p (e - p) (if to ≤ p then to else to - (e - p)) q) := by
  unfold dS cuS'
  by_cases c : to ≤ p
  · rw [if_pos c, if_pos c, swX_ig t0 c pe (by omega) hl q0]
    by_cases c1 : q < to
    · rw [if_neg (by omega), if_pos c1, if_pos (by omega)]
    · rw [if_neg c1]
      by_cases c2 : q < to + (e - p)
      · rw [if_pos (by omega), if_pos c2, if_pos c2]
        exact congrArg (ig l) (by omega)
      · rw [if_neg c2]
        by_cases c3 : q < e
        · rw [if_pos (by omega), if_neg (by omega), if_pos (by omega)]
        · rw [if_neg (by omega), if_neg (by omega)]
          exact congrArg (ig l) (by omega)
  · rw [if_neg c, if_neg c, swX_ig p0 pe (by omega) (by omega) hl q0]
    by_cases c1 : q < to - (e - p)
    · rw [if_pos c1]
      by_cases c2 : q < p
      · rw [if_neg (by omega), if_pos c2]
      · rw [if_pos (by omega), if_pos (by omega), if_neg c2]
    · rw [if_neg c1]
      by_cases c2 : q < to - (e - p) + (e - p)
      · rw [if_pos (by omega), if_neg (by omega), if_pos c2]
        exact congrArg (ig l) (by omega)
      · rw [if_neg (by omega), if_neg c2, if_neg (by omega)]
        exact congrArg (ig l) (by omega)
/-- before which place a dragged part goes -/
def dP (v g e : Int) : Int := if v = 0 then g else if v = 2 then g + 1 else e
theorem k2_pfd {h : ox_H} {X : ol} {c : Int} {A : List Nat} {H I : Nat → ol} {K : List Int} {T U : ol} (hC : CS h X c A H I K T U) (s1 : vx X) {g v : Int} (g0 : 0 ≤ g) (g1 : g < X.1 0) (v0 : 0 ≤ v) (v1 : v ≤ 3) : oe 79 0 [.ref 4, .int (iI g), .int (iI v)] [] h = some (some (.int (iI (dP v g (enX X g)))), h) := by
  have b3 := hC.2.2.1
  obtain ⟨f0, f1, f2, f3, f4, f5, f6, f7, f8, f9, f10, f11, f12, f13, f14, f15⟩ := CS_facts hC
  have hen := k1_endOfPart b3 s1 g0 g1
  have hv : v = 0 ∨ v = 1 ∨ v = 2 ∨ v = 3 := by omega
  rcases hv with rfl | rfl | rfl | rfl
  · simp (disch := omega) only [eX2_placeForDrag_0, eX2_placeForDrag_1_k0, eX2_placeForDrag_1_k1, eX2_placeForDrag_1_k2, eX2_placeForDrag_1_k3, eX2_placeForDrag_28, eX2_placeForDrag_29, eX2_placeForDrag_30, eX2_placeForDrag_31, eX2_placeForDrag_32, eX2_placeForDrag_33, eX2_placeForDrag_34, eX2_placeForDrag_35, eX2_placeForDrag_38, eX2_placeForDrag_39, eX2_placeForDrag_42, ox_O_s, ox_B_s, ox_g_t, ox_A_s, ox_push_s, ox_push_n, ox_some, ox_z0, ox_z1, iI_lt, iI_eq, iI_add, iI_sub, ig_at, if_true, if_false, if_pos, if_neg, f0, f1, f2, f3, f4, f5, f6, f7, f8, f9, f10, f11, f12, f13, f14, f15]
    rfl
  · simp (disch := omega) only [eX2_placeForDrag_0, eX2_placeForDrag_1_k0, eX2_placeForDrag_1_k1, eX2_placeForDrag_1_k2, eX2_placeForDrag_1_k3, eX2_placeForDrag_28, eX2_placeForDrag_29, eX2_placeForDrag_30, eX2_placeForDrag_31, eX2_placeForDrag_32, eX2_placeForDrag_33, eX2_placeForDrag_34, eX2_placeForDrag_35, eX2_placeForDrag_38, eX2_placeForDrag_39, eX2_placeForDrag_42, ox_O_s, ox_B_s, ox_g_t, ox_A_s, ox_push_s, ox_push_n, ox_some, ox_z0, ox_z1, iI_lt, iI_eq, iI_add, iI_sub, ig_at, if_true, if_false, if_pos, if_neg, f0, f1, f2, f3, f4, f5, f6, f7, f8, f9, f10, f11, f12, f13, f14, f15, hen]
    rfl
  · simp (disch := omega) only [eX2_placeForDrag_0, eX2_placeForDrag_1_k0, eX2_placeForDrag_1_k1, eX2_placeForDrag_1_k2, eX2_placeForDrag_1_k3, eX2_placeForDrag_28, eX2_placeForDrag_29, eX2_placeForDrag_30, eX2_placeForDrag_31, eX2_placeForDrag_32, eX2_placeForDrag_33, eX2_placeForDrag_34, eX2_placeForDrag_35, eX2_placeForDrag_38, eX2_placeForDrag_39, eX2_placeForDrag_42, ox_O_s, ox_B_s, ox_g_t, ox_A_s, ox_push_s, ox_push_n, ox_some, ox_z0, ox_z1, iI_lt, iI_eq, iI_add, iI_sub, ig_at, if_true, if_false, if_pos, if_neg, f0, f1, f2, f3, f4, f5, f6, f7, f8, f9, f10, f11, f12, f13, f14, f15]
    rfl
  · simp (disch := omega) only [eX2_placeForDrag_0, eX2_placeForDrag_1_k0, eX2_placeForDrag_1_k1, eX2_placeForDrag_1_k2, eX2_placeForDrag_1_k3, eX2_placeForDrag_28, eX2_placeForDrag_29, eX2_placeForDrag_30, eX2_placeForDrag_31, eX2_placeForDrag_32, eX2_placeForDrag_33, eX2_placeForDrag_34, eX2_placeForDrag_35, eX2_placeForDrag_38, eX2_placeForDrag_39, eX2_placeForDrag_42, ox_O_s, ox_B_s, ox_g_t, ox_A_s, ox_push_s, ox_push_n, ox_some, ox_z0, ox_z1, iI_lt, iI_eq, iI_add, iI_sub, ig_at, if_true, if_false, if_pos, if_neg, f0, f1, f2, f3, f4, f5, f6, f7, f8, f9, f10, f11, f12, f13, f14, f15, hen]
    rfl
theorem k3_dr_tail {h : ox_H} {m : Nat} {X Y : ol} {w w0 : List Int} (hb : m + 6 < h.length) (hV : vx X) (hR : Rel X w) {p b g v : Int} (p0 : 0 ≤ p) (p1 : p < X.1 0) (g0 : 0 ≤ g) (g1 : g < X.1 0) (hg : g < p ∨ enX X p ≤ g) (v0 : 0 ≤ v) (v1 : v ≤ 3) (hW : SLW X p (enX X p) b w w0) (l4 : (Y.2 4).length = 30) (P : Int) (hP : P = dP v (if g < p then g else g - (enX X p - p)) (enX (cuX X p (enX X p)) (if g < p then g else g - (enX X p - p)))) (u1 u6 u7 u8 : Value) : ∃ pt w', oe 107 158 [.ref m, u1, .int (iI (ig (X.2 0) g)), .int (iI v), .int (iI p), .int (iI (enX X p)), u6, u7, u8, .null, .null, .null, .null] [] (mput h m (oset Y 0 w0)) = some (some (.int (iI P)), mput h m (oset (oset Y 4 pt) 0 w')) ∧ pt.length = 30 ∧ (0 ≤ P ∧ P ≤ X.1 0 - (enX X p - p)) ∧ w'.length = 218 ∧ ig w' 0 = X.1 0 ∧ (∀ q, 0 ≤ q → q < X.1 0 → ig w' (1 + q) = ig (X.2 0) (dS p (enX X p - p) P q)) ∧ ∀ i, 31 ≤ i → ig w' i = ig w0 i := by
  have hn := hV.2.1
  have heb := enX_b (X := X) p1
  have hV1 := vx_cut hV p0 (show p < enX X p by omega) heb.2 (fun c => en_end hV p0 p1 c)
  have n1 : (cuX X p (enX X p)).1 0 = X.1 0 - (enX X p - p) := rfl
  have hl0 : (X.2 0).length = 30 := hV.1 0 (by decide)
  have wl0 : w0.length = 218 := hW.1
  have hh := fun i hi hi' => SLW_hi hV hW p0 heb.2 (i := i) hi hi'
  have hg' : 0 ≤ (if g < p then g else g - (enX X p - p)) ∧ (if g < p then g else g - (enX X p - p)) < X.1 0 - (enX X p - p) := by split <;> omega
  have hsg : cuS' p (enX X p - p) (if g < p then g else g - (enX X p - p)) = g := by
    unfold cuS'
    by_cases c : g < p
    · rw [if_pos c, if_pos c]
    · rw [if_neg c, if_neg (by omega)]; omega
  generalize hge : (if g < p then g else g - (enX X p - p)) = g' at hP hg' hsg
  have hb1 := enX_b (X := cuX X p (enX X p)) (p := g') (by rw [n1]; exact hg'.2)
  rw [n1] at hb1
  have hPb : 0 ≤ P ∧ P ≤ X.1 0 - (enX X p - p) := by
    rw [hP]
    unfold dP
    split
    · omega
    · split <;> omega
  -- the part
  have hA := k3_dA (Y := oset Y 0 w0) (h := h) (e := enX X p) (s := enX X p - p) hb wl0 p0 (by omega) u1 (.int (iI (ig (X.2 0) g))) (.int (iI v)) u6 u7 u8 .null .null (enX X p - p).toNat 0 (Y.2 4) (by omega) (by omega) l4
  rw [show oset (oset Y 0 w0) 4 (Y.2 4) = oset Y 0 w0 from os_self (X := oset Y 0 w0) (k := 4), os_comm (by decide)] at hA
  generalize hpt : cqF ((oset Y 0 w0).2 0) (1 + p) 0 (enX X p - p).toNat 0 (Y.2 4) = pt at hA
  have ptl : pt.length = 30 := by rw [← hpt, cqF_len]; exact l4
  have ptg : ∀ q, 0 ≤ q → q < enX X p - p → ig pt q = ig (X.2 0) (p + q) := fun q a c => by
    rw [← hpt, cqF_ig (by omega) _ _ _ _ (by omega) (by omega) a, if_pos (by omega)]
    show ig w0 (1 + p + (q - 0)) = _
    rw [show 1 + p + (q - 0) = 1 + (p + q) by omega, hh _ (by omega) (by omega)]
    exact hR.2.2.1 _ (by omega) (by omega)
  -- the rest
  have w00 : ig w0 0 = X.1 0 := by rw [hh 0 (by omega) (by omega)]; exact hR.2.1
  have hB := k3_dB (Y := oset Y 4 pt) (h := h) (p := p) (e := enX X p) (s := enX X p - p) (n := X.1 0) hb (by omega) (by omega) hn.2 u1 (.int (iI (ig (X.2 0) g))) (.int (iI v)) u6 u7 u8 .null .null (X.1 0 - enX X p).toNat (enX X p) w0 (by omega) (by omega) wl0 w00
  generalize hwB : mcF (enX X p - p) (X.1 0 - enX X p).toNat (enX X p) w0 = wB at hB
  have wBl : wB.length = 218 := by rw [← hwB, mcF_len]; exact wl0
  have wBg : ∀ q, 0 ≤ q → ig wB q = if 1 + p ≤ q ∧ q < 1 + X.1 0 - (enX X p - p) then ig w0 (q + (enX X p - p)) else ig w0 q := fun q a => by
    rw [← hwB, mcF_ig (by omega) _ _ _ _ (by omega) (by omega) wl0 a]
    by_cases c : 1 + p ≤ q ∧ q < 1 + X.1 0 - (enX X p - p)
    · rw [if_pos (by omega), if_pos c]
    · rw [if_neg (by omega), if_neg c]
  have wB0 : ig wB 0 = X.1 0 := by rw [wBg 0 (by omega), if_neg (by omega)]; exact w00
  have w1l : (iu wB 0 (X.1 0 - (enX X p - p))).length = 218 := by rw [iu_len]; exact wBl
  have w1li : ∀ q, 0 ≤ q → q < X.1 0 - (enX X p - p) → ig (iu wB 0 (X.1 0 - (enX X p - p))) (1 + q) = ig (X.2 0) (cuS' p (enX X p - p) q) := fun q a c => by
    rw [ig_ne (by omega) (by omega) (by omega), wBg _ (by omega)]
    unfold cuS'
    by_cases c1 : q < p
    · rw [if_neg (by omega), if_pos c1, hh _ (by omega) (by omega)]
      exact hR.2.2.1 _ a (by omega)
    · rw [if_pos (by omega), if_neg c1, hh _ (by omega) (by omega), show 1 + q + (enX X p - p) = 1 + (q + (enX X p - p)) by omega]
      exact hR.2.2.1 _ (by omega) (by omega)
  have w1hi : ∀ q, 31 ≤ q → ig (iu wB 0 (X.1 0 - (enX X p - p))) q = ig w0 q := fun q a => by
    rw [ig_ne (by omega) (by omega) (by omega), wBg _ (by omega), if_neg (by omega)]
  have hRL : RLo (cuX X p (enX X p)) (iu wB 0 (X.1 0 - (enX X p - p))) := by
    refine ⟨w1l, ig_self (by omega) (by omega), fun q a c => ?_, fun q a c => ?_⟩
    · rw [w1li q a c, cut_od hl0 hn.2 p0 (by omega) heb.2 a c]
    · rw [n1] at c
      have hcs : 0 ≤ cuS' p (enX X p - p) q ∧ cuS' p (enX X p - p) q < X.1 0 ∧ ¬ (p ≤ cuS' p (enX X p - p) q ∧ cuS' p (enX X p - p) q < enX X p) := by unfold cuS'; split <;> omega
      have hoo := hV.2.2.1 _ hcs.1 hcs.2.1
      rw [cut_od hl0 hn.2 p0 (by omega) heb.2 a c, cut_lv hV p0 (by omega) heb.2 a c, w1hi _ (by omega), SLW_lv hV hR hW p0 heb.2 hcs.1 hcs.2.1, if_neg hcs.2.2, lvA_in hcs.1 hcs.2.1]
  have hM1 := ma_put (X := oset (oset Y 4 pt) 0 (iu wB 0 (X.1 0 - (enX X p - p)))) hb
  have hRL' : RLo (cuX X p (enX X p)) ((oset (oset Y 4 pt) 0 (iu wB 0 (X.1 0 - (enX X p - p)))).2 0) := by rw [os_2, if_pos rfl]; exact hRL
  have hpl := l3_placeOf1 hM1 hRL' hV1 hg'.1 (by rw [n1]; exact hg'.2)
  rw [cut_od hl0 hn.2 p0 (by omega) heb.2 hg'.1 hg'.2, hsg] at hpl
  have hen := l3_endOf hM1 hRL' hV1 hg'.1 (by rw [n1]; exact hg'.2)
  have hmm := l3_many hM1 hRL' hV1
  rw [n1] at hmm
  have hseg : oe 107 252 [.ref m, u1, .int (iI (ig (X.2 0) g)), .int (iI v), .int (iI p), .int (iI (enX X p)), u6, u7, u8, .int (iI (enX X p - p)), .int (iI g'), .null, .null] [] (mput h m (oset (oset Y 4 pt) 0 (iu wB 0 (X.1 0 - (enX X p - p))))) = oe 107 279 [.ref m, u1, .int (iI (ig (X.2 0) g)), .int (iI v), .int (iI p), .int (iI (enX X p)), u6, u7, u8, .int (iI (enX X p - p)), .int (iI g'), .null, .null] [.int (iI P)] (mput h m (oset (oset Y 4 pt) 0 (iu wB 0 (X.1 0 - (enX X p - p))))) := by
    have hv : v = 0 ∨ v = 1 ∨ v = 2 ∨ v = 3 := by omega
    rcases hv with rfl | rfl | rfl | rfl
    · rw [hP, show dP 0 g' (enX (cuX X p (enX X p)) g') = g' from rfl]
      simp (maxSteps := 1000000) (disch := omega) only [eX3_drag_252, eX3_drag_253, eX3_drag_256, eX3_drag_258, eX3_drag_261, eX3_drag_262, eX3_drag_263, eX3_drag_266, eX3_drag_268, eX3_drag_269, eX3_drag_270, eX3_drag_273, eX3_drag_274, eX3_drag_276, ox_O_s, ox_B_s, ox_g_t, ox_A_s, ox_push_s, ox_push_n, ox_some, ox_z0, ox_z1, iI_lt, iI_eq, iI_add, iI_sub, ig_at, if_true, if_false, if_pos, if_neg, mp_obj, hen]
    · rw [hP, show dP 1 g' (enX (cuX X p (enX X p)) g') = enX (cuX X p (enX X p)) g' from rfl]
      simp (maxSteps := 1000000) (disch := omega) only [eX3_drag_252, eX3_drag_253, eX3_drag_256, eX3_drag_258, eX3_drag_261, eX3_drag_262, eX3_drag_263, eX3_drag_266, eX3_drag_268, eX3_drag_269, eX3_drag_270, eX3_drag_273, eX3_drag_274, eX3_drag_276, ox_O_s, ox_B_s, ox_g_t, ox_A_s, ox_push_s, ox_push_n, ox_some, ox_z0, ox_z1, iI_lt, iI_eq, iI_add, iI_sub, ig_at, if_true, if_false, if_pos, if_neg, mp_obj, hen]
    · rw [hP, show dP 2 g' (enX (cuX X p (enX X p)) g') = g' + 1 from rfl]
      simp (maxSteps := 1000000) (disch := omega) only [eX3_drag_252, eX3_drag_253, eX3_drag_256, eX3_drag_258, eX3_drag_261, eX3_drag_262, eX3_drag_263, eX3_drag_266, eX3_drag_268, eX3_drag_269, eX3_drag_270, eX3_drag_273, eX3_drag_274, eX3_drag_276, ox_O_s, ox_B_s, ox_g_t, ox_A_s, ox_push_s, ox_push_n, ox_some, ox_z0, ox_z1, iI_lt, iI_eq, iI_add, iI_sub, ig_at, if_true, if_false, if_pos, if_neg, mp_obj, hen]
    · rw [hP, show dP 3 g' (enX (cuX X p (enX X p)) g') = enX (cuX X p (enX X p)) g' from rfl]
      simp (maxSteps := 1000000) (disch := omega) only [eX3_drag_252, eX3_drag_253, eX3_drag_256, eX3_drag_258, eX3_drag_261, eX3_drag_262, eX3_drag_263, eX3_drag_266, eX3_drag_268, eX3_drag_269, eX3_drag_270, eX3_drag_273, eX3_drag_274, eX3_drag_276, ox_O_s, ox_B_s, ox_g_t, ox_A_s, ox_push_s, ox_push_n, ox_some, ox_z0, ox_z1, iI_lt, iI_eq, iI_add, iI_sub, ig_at, if_true, if_false, if_pos, if_neg, mp_obj, hen]
  have hCl := k3_dC (Y := oset Y 4 pt) (h := h) (p := p) (e := enX X p) (s := enX X p - p) (P := P) hb (by omega) hPb.1 u1 (.int (iI (ig (X.2 0) g))) (.int (iI v)) u6 u7 u8 (.int (iI g')) (X.1 0 - (enX X p - p) - P).toNat (X.1 0 - (enX X p - p) - 1) (iu wB 0 (X.1 0 - (enX X p - p))) (by omega) (by omega) w1l
  generalize hwC : mvF (enX X p - p) (X.1 0 - (enX X p - p) - P).toNat (X.1 0 - (enX X p - p) - 1) (iu wB 0 (X.1 0 - (enX X p - p))) = wC at hCl
  have wCl : wC.length = 218 := by rw [← hwC, mvF_len]; exact w1l
  have wCg : ∀ q, 0 ≤ q → ig wC q = if P + (enX X p - p) < q ∧ q ≤ X.1 0 then ig (iu wB 0 (X.1 0 - (enX X p - p))) (q - (enX X p - p)) else ig (iu wB 0 (X.1 0 - (enX X p - p))) q := fun q a => by
    rw [← hwC, mvF_ig (by omega) _ _ _ _ (by omega) (by omega) w1l a]
    by_cases c : P + (enX X p - p) < q ∧ q ≤ X.1 0
    · rw [if_pos (by omega), if_pos c]
    · rw [if_neg (by omega), if_neg c]
  have hD := k3_dD (Y := oset Y 4 pt) (h := h) (p := p) (e := enX X p) (s := enX X p - p) (P := P) hb (by rw [os_2, if_pos rfl]; exact ptl) (by omega) hPb.1 (by omega) u1 (.int (iI (ig (X.2 0) g))) (.int (iI v)) u6 u7 u8 (.int (iI g')) (enX X p - p).toNat 0 wC (by omega) (by omega) wCl
  rw [os_2, if_pos rfl] at hD
  generalize hwD : cqF pt 0 (1 + P) (enX X p - p).toNat 0 wC = wD at hD
  have wDl : wD.length = 218 := by rw [← hwD, cqF_len]; exact wCl
  have wDg : ∀ q, 0 ≤ q → ig wD q = if 1 + P ≤ q ∧ q < 1 + P + (enX X p - p) then ig pt (q - (1 + P)) else ig wC q := fun q a => by
    rw [← hwD, cqF_ig (by omega) _ _ _ _ (by omega) (by omega) a]
    by_cases c : 1 + P ≤ q ∧ q < 1 + P + (enX X p - p)
    · rw [if_pos (by omega), if_pos c, Int.zero_add]
    · rw [if_neg (by omega), if_neg c]
  have wD0 : ig wD 0 = X.1 0 - (enX X p - p) := by
    rw [wDg 0 (by omega), if_neg (by omega), wCg 0 (by omega), if_neg (by omega), ig_self (by omega) (by omega)]
  refine ⟨pt, iu wD 0 (X.1 0 - (enX X p - p) + (enX X p - p)), ?_, ptl, hPb, by rw [iu_len]; exact wDl, by rw [ig_self (by omega) (by omega)]; omega, fun q a c => ?_, fun i a => ?_⟩
  · simp (maxSteps := 1000000) (disch := omega) only [eX3_drag_158, eX3_drag_160, eX3_drag_162, eX3_drag_163, eX3_drag_165, eX3_drag_166, ox_O_s, ox_B_s, ox_g_t, ox_A_s, ox_push_s, ox_push_n, ox_some, ox_z0, ox_z1, iI_lt, iI_eq, iI_add, iI_sub, ig_at, if_true, if_false, if_pos, if_neg, hA]
    simp (maxSteps := 1000000) (disch := omega) only [eX3_drag_197, eX3_drag_199, ox_O_s, ox_B_s, ox_g_t, ox_A_s, ox_push_s, ox_push_n, ox_some, ox_z0, ox_z1, iI_lt, iI_eq, iI_add, iI_sub, ig_at, if_true, if_false, if_pos, if_neg, hB]
    simp (maxSteps := 1000000) (disch := omega) only [eX3_drag_234, eX3_drag_235, eX3_drag_238, eX3_drag_239, eX3_drag_240, eX3_drag_241, eX3_drag_243, eX3_drag_244, eX3_drag_245, eX3_drag_246, eX3_drag_247, eX3_drag_250, ox_O_s, ox_B_s, ox_g_t, ox_A_s, ox_push_s, ox_push_n, ox_some, ox_z0, ox_z1, iI_lt, iI_eq, iI_add, iI_sub, ig_at, if_true, if_false, if_pos, if_neg, ig_set, mp_obj, mp_f0, mp_f1, mp_f2, mp_f3, mp_f4, mp_f5, mp_f6, mp_f7, mp_f8, mp_f9, mp_i0, mp_i1, mp_i2, mp_i3, mp_i4, mp_i5, mp_j0, mp_j1, mp_j2, mp_j3, mp_j4, mp_j5, mp_s0, mp_s1, mp_s2, mp_s3, mp_s4, mp_s5, mp_w2, mp_w4, mp_w6, mp_w9, oa_gl, ma_gl, os_2, os_1, ns_1, ns_2, os_os, ns_ns, wB0, hpl, hseg]
    simp (maxSteps := 1000000) (disch := omega) only [eX3_drag_279, eX3_drag_281, eX3_drag_282, eX3_drag_285, eX3_drag_286, eX3_drag_287, ox_O_s, ox_B_s, ox_g_t, ox_A_s, ox_push_s, ox_push_n, ox_some, ox_z0, ox_z1, iI_lt, iI_eq, iI_add, iI_sub, ig_at, if_true, if_false, if_pos, if_neg, mp_obj, hmm, hCl]
    simp (maxSteps := 1000000) (disch := omega) only [eX3_drag_320, eX3_drag_321, ox_O_s, ox_B_s, ox_g_t, ox_A_s, ox_push_s, ox_push_n, ox_some, ox_z0, ox_z1, iI_lt, iI_eq, iI_add, iI_sub, ig_at, if_true, if_false, if_pos, if_neg, hD]
    simp (maxSteps := 1000000) (disch := omega) only [eX3_drag_355, eX3_drag_356, eX3_drag_359, eX3_drag_360, eX3_drag_361, eX3_drag_362, eX3_drag_364, eX3_drag_365, eX3_drag_366, eX3_drag_368, ox_O_s, ox_B_s, ox_g_t, ox_A_s, ox_push_s, ox_push_n, ox_some, ox_z0, ox_z1, iI_lt, iI_eq, iI_add, iI_sub, ig_at, if_true, if_false, if_pos, if_neg, ig_set, mp_obj, mp_f0, mp_f1, mp_f2, mp_f3, mp_f4, mp_f5, mp_f6, mp_f7, mp_f8, mp_f9, mp_i0, mp_i1, mp_i2, mp_i3, mp_i4, mp_i5, mp_j0, mp_j1, mp_j2, mp_j3, mp_j4, mp_j5, mp_s0, mp_s1, mp_s2, mp_s3, mp_s4, mp_s5, mp_w2, mp_w4, mp_w6, mp_w9, oa_gl, ma_gl, os_2, os_1, ns_1, ns_2, os_os, ns_ns, wD0]
  · rw [ig_ne (by omega) (by omega) (by omega), wDg _ (by omega)]
    unfold dS
    by_cases c1 : q < P
    · rw [if_neg (by omega), if_pos c1, wCg _ (by omega), if_neg (by omega)]
      exact w1li q a (by omega)
    · rw [if_neg c1]
      by_cases c2 : q < P + (enX X p - p)
      · rw [if_pos (by omega), if_pos c2, ptg _ (by omega) (by omega)]
        exact congrArg (ig (X.2 0)) (by omega)
      · rw [if_neg (by omega), if_neg c2, wCg _ (by omega), if_pos (by omega), show 1 + q - (enX X p - p) = 1 + (q - (enX X p - p)) by omega]
        exact w1li _ (by omega) (by omega)
  · rw [ig_ne (by omega) (by omega) (by omega), wDg _ (by omega), if_neg (by omega), wCg _ (by omega), if_neg (by omega)]
    exact w1hi i a
theorem ST_chg4 {xs : List Int32} {h h1 : ox_H} {f g : ox_H → Option ox_R} {v : Int32} {X X' : ol} {c : Int} {A' : List Nat} {H I : Nat → ol} {K : List Int} {T U' Y : ol} {w' pt : List Int} (h0 : h[0]? = some (.inl (2, xs))) (hM : MA h 133 Y) (hS : SR X c H I K T Y) (hf : f h = some (some (.int v), h1)) (hC1 : CS h1 X' (if c < 8 then c + 1 else 8) A' (hiN H c X) I K T U') (hfr : ∀ a, (a < 4 ∨ 133 ≤ a) → h1[a]? = h[a]?) (hg : g (mput h1 133 Y) = some (some (.int v), mput h1 133 (oset (oset (paN Y) 4 pt) 0 w'))) (hp : pt.length = 30) (hV : vx X') (hR : Rel X' w') : ST xs h f g := by
  have hk := paN_k Y
  have e : nset (oset (oset (oset (paN Y) 0 w') 4 pt) 5 ((oset (oset (paN Y) 0 w') 4 pt).2 5)) 3 ((oset (oset (paN Y) 0 w') 4 pt).1 3) = oset (oset (paN Y) 4 pt) 0 w' := by
    rw [os_self (X := oset (oset (paN Y) 0 w') 4 pt) (k := 5), ns_self (X := oset (oset (paN Y) 0 w') 4 pt) (k := 3), os_comm (by decide)]
  refine ST_chg (A := []) (U := T) (pt := pt) (nu := (oset (oset (paN Y) 0 w') 4 pt).2 5) (nm := (oset (oset (paN Y) 0 w') 4 pt).1 3) h0 hM hS hf hC1 hfr (by rw [e]; exact hg) hp ?_ hV hR
  rw [os_2, if_neg (by decide), os_2, if_neg (by decide), hk.2.2.1 5 (by decide)]; exact hS.2.2.2.2.2.2.2.2.2.2.2.2.2.2
theorem st_dr0 {xs : List Int32} {h : ox_H} (hS : Sm xs h) (a b : Int32) {v : Int} (r : 0 ≤ v ∧ v ≤ 3) (hv : v < 2) : ST xs h (fun h => oe 51 0 [.ref 4, .int a, .int b, .int (iI v), .null, .null, .null, .null, .null, .null, .null] [] h) (fun h => oe 107 0 [.ref 133, .int a, .int b, .int (iI v), .null, .null, .null, .null, .null, .null, .null, .null, .null] [] h) := by
  obtain ⟨X, c, A, H, I, K, T, U, Y, h0, hC, hM, hR⟩ := sm_parts hS
  obtain ⟨s1, s2, s3, s4, s5, -⟩ := id hR
  obtain ⟨b1, b2, b3, -⟩ := id hC
  have hw : (Y.2 0).length = 218 := s2.1
  obtain ⟨f0, f1, f2, f3, f4, f5, f6, f7, f8, f9, f10, f11, f12, f13, f14, f15⟩ := CS_facts hC
  have mO := (ma_facts hM).1
  obtain ⟨z, rfl, z0, z1⟩ := iI_ex a
  obtain ⟨y, rfl, y0, y1⟩ := iI_ex b
  have hn := s1.2.1
  have hwi := k2_within (h := h) (a := v) (b := 0) (c := 3) (by omega) (by omega) (by omega) (by omega) (by omega) (by omega)
  have hin := fun h' : ox_H => k3_isIn (h := h') (a := v) (b := 0) (c := 3) (by omega) (by omega) (by omega) (by omega) (by omega) (by omega)
  simp only [decide_eq_true r, zb_t] at hwi hin
  rcases ol_find X z with ⟨p, p0, p1, rfl⟩ | hz
  · have hpl := k1_placeOf1 b3 s1 p0 p1
    have ho := s1.2.2.1 p p0 p1
    have hhd := k3_isHeading1 hM s2 s1 p0 p1
    rcases ol_find X y with ⟨g, ga, gb, rfl⟩ | hy
    · have hgl := k1_placeOf1 b3 s1 ga gb
      have hog := s1.2.2.1 g ga gb
      have hhg := k3_isHeading1 hM s2 s1 ga gb
      have hlp := lv_in s1 p0 p1
      have hlg := lv_in s1 ga gb
      have heb := enX_b (X := X) p1
      have hegb := enX_b (X := X) gb
      have hen := k1_endOfPart b3 s1 p0 p1
      have xlp := k1_levelAt b3 s1 (p := p) (by omega) (by omega)
      have xlg := k1_levelAt b3 s1 (p := g) (by omega) (by omega)
      have hwg := k2_within (h := h) (a := g) (b := p) (c := enX X p - 1) (by omega) (by omega) (by omega) (by omega) (by omega) (by omega)
      have hig := fun h' : ox_H => k3_isIn (h := h') (a := g) (b := p) (c := enX X p - 1) (by omega) (by omega) (by omega) (by omega) (by omega) (by omega)
      have hdp := k1_deepest b3 s1 (p := p) (q := enX X p) (by omega) (by omega) (by omega) (by omega)
      have hdb := dpX_b s1 p (enX X p)
      have mA := fun (h' : ox_H) (hM' : MA h' 133 Y) => And.intro (k3_isHeading1 hM' s2 s1 p0 p1) (And.intro (k3_isHeading1 hM' s2 s1 ga gb) (And.intro (k3_placeOf1 hM' s2 s1 p0 p1) (And.intro (k3_placeOf1 hM' s2 s1 ga gb) (And.intro (k3_endOf hM' s2 s1 p0 p1) (And.intro (k3_levelAt hM' s2 s1 p0 p1) (k3_levelAt hM' s2 s1 ga gb))))))
      have eb : lvA X g + 0 - lvA X p = lvA X g - lvA X p + 0 := by omega
      have hpa := k1_placeAbove b3 s1 (p := g) (lv := lvA X g) (by omega) (by omega) (by omega) (by omega)
      have hpb := pA_b (lvA X) (lvA X g) g.toNat
      have hka := k1_kindAt b3 s1 (p := pA (lvA X) (lvA X g) g.toNat) (by omega) (by omega)
      have hkp := k1_kindAt b3 s1 (p := p) (by omega) (by omega)
      have hkb := kdA_b s1 (pA (lvA X) (lvA X g) g.toNat)
      have hkpb := kdA_in s1 p0 p1
      have hal := k1_allows b3 s1 (pk := kdA X (pA (lvA X) (lvA X g) g.toNat)) (k := kdA X p) hkb.1 hkb.2 hkpb.1 hkpb.2
      have ek : ig (Y.2 0) (61 + ig (X.2 0) p) = kdA X p := by rw [(s2.2.2.2.1 p p0 p1).2.1]; exact (if_pos ⟨p0, p1⟩).symm
      have mD := fun (h' : ox_H) (hM' : MA h' 133 Y) => k3_isDeep hM' s2 s1 (p := p) (to := enX X p) (by' := (lvA X g + 0 - lvA X p)) (by omega) (by omega) p0 (by omega) heb.2
      have mP := fun (h' : ox_H) (hM' : MA h' 133 Y) => And.intro (k3_isAllowed hM' s2 s1 (q := pA (lvA X) (lvA X g) g.toNat) (k := kdA X p) (by omega) (by omega) hkpb.1 hkpb.2) (k3_parentOf hM' s2 s1 ga gb)
      by_cases inn : p ≤ g ∧ g ≤ enX X p - 1
      · simp only [decide_eq_true inn, zb_t] at hwg hig
        refine ST_same (v := iI (-2)) hS ?_ ?_
        · simp (disch := omega) only [eX2_drag_0, eX2_drag_1, eX2_drag_4, eX2_drag_5, eX2_drag_8, eX2_drag_10, eX2_drag_11, eX2_drag_14, eX2_drag_15, eX2_drag_18, eX2_drag_20, eX2_drag_22, eX2_drag_25, eX2_drag_27, eX2_drag_30, eX2_drag_31, eX2_drag_32, eX2_drag_33, eX2_drag_36, eX2_drag_39, eX2_drag_40, eX2_drag_41, eX2_drag_42, eX2_drag_45, eX2_drag_47, eX2_drag_50, eX2_drag_52, eX2_drag_53, eX2_drag_56, eX2_drag_58, eX2_drag_61, eX2_drag_63, eX2_drag_65, eX2_drag_66, eX2_drag_69, eX2_drag_71, eX2_drag_74, eX2_drag_75, eX2_drag_76, eX2_drag_77, eX2_drag_80, eX2_drag_81, eX2_drag_84, eX2_drag_85, eX2_drag_86, eX2_drag_88, eX2_drag_90, eX2_drag_92, eX2_drag_94, eX2_drag_95, eX2_drag_96, eX2_drag_99, eX2_drag_102, eX2_drag_103, eX2_drag_106, eX2_drag_108, eX2_drag_110, eX2_drag_113, eX2_drag_115, eX2_drag_116, eX2_drag_118, eX2_drag_121, eX2_drag_123, eX2_drag_124, eX2_drag_125, eX2_drag_126, eX2_drag_129, eX2_drag_131, eX2_drag_134, eX2_drag_135, eX2_drag_138, eX2_drag_140, eX2_drag_142, eX2_drag_145, eX2_drag_147, eX2_drag_148, eX2_drag_151, eX2_drag_152, eX2_drag_155, eX2_drag_157, eX2_drag_160, eX2_drag_161, eX2_drag_164, eX2_drag_166, eX2_drag_169, eX2_drag_172, eX2_drag_175, eX2_drag_177, eX2_drag_178, eX2_drag_179, eX2_drag_182, eX2_drag_183, eX2_drag_185, eX2_drag_186, eX2_drag_189, eX2_drag_191, eX2_drag_192, eX2_drag_195, eX2_drag_197, eX2_drag_199, eX2_drag_201, eX2_drag_204, eX2_drag_205, eX2_drag_208, eX2_drag_210, eX2_drag_212, eX2_drag_214, eX2_drag_217, ox_O_s, ox_B_s, ox_g_t, ox_A_s, ox_push_s, ox_push_n, ox_some, ox_z0, ox_z1, iI_lt, iI_eq, iI_add, iI_sub, ig_at, if_true, if_false, if_pos, if_neg, f0, f1, f2, f3, f4, f5, f6, f7, f8, f9, f10, f11, f12, f13, f14, f15, hpl, hgl, hwi, hen, xlp, xlg, hwg]
        · obtain ⟨c1, c2, c3, c4, c5, c6, c7⟩ := mA _ hM
          simp (disch := omega) only [eX3_drag_0, eX3_drag_1, eX3_drag_2, eX3_drag_5, eX3_drag_8, eX3_drag_9, eX3_drag_10, eX3_drag_13, eX3_drag_16, eX3_drag_17, eX3_drag_18, eX3_drag_19, eX3_drag_22, eX3_drag_25, eX3_drag_26, eX3_drag_27, eX3_drag_28, eX3_drag_29, eX3_drag_32, eX3_drag_34, eX3_drag_35, eX3_drag_37, eX3_drag_40, eX3_drag_42, eX3_drag_43, eX3_drag_44, eX3_drag_47, eX3_drag_49, eX3_drag_50, eX3_drag_52, eX3_drag_55, eX3_drag_56, eX3_drag_57, eX3_drag_60, eX3_drag_61, eX3_drag_64, eX3_drag_65, eX3_drag_66, eX3_drag_68, eX3_drag_70, eX3_drag_71, eX3_drag_73, eX3_drag_76, eX3_drag_77, eX3_drag_79, eX3_drag_81, eX3_drag_83, eX3_drag_85, eX3_drag_86, eX3_drag_87, eX3_drag_90, eX3_drag_93, eX3_drag_94, eX3_drag_96, eX3_drag_98, eX3_drag_100, eX3_drag_103, eX3_drag_106, eX3_drag_108, eX3_drag_109, eX3_drag_110, eX3_drag_111, eX3_drag_112, eX3_drag_115, eX3_drag_116, eX3_drag_118, eX3_drag_121, eX3_drag_124, eX3_drag_126, eX3_drag_127, eX3_drag_130, eX3_drag_132, eX3_drag_133, eX3_drag_134, eX3_drag_135, eX3_drag_138, eX3_drag_141, eX3_drag_143, eX3_drag_144, eX3_drag_145, eX3_drag_148, eX3_drag_149, eX3_drag_151, eX3_drag_153, eX3_drag_155, eX3_drag_158, eX3_drag_160, eX3_drag_162, eX3_drag_163, eX3_drag_165, eX3_drag_166, eX3_drag_170, eX3_drag_172, eX3_drag_175, eX3_drag_176, eX3_drag_179, eX3_drag_181, eX3_drag_182, eX3_drag_184, eX3_drag_186, eX3_drag_187, eX3_drag_190, eX3_drag_191, eX3_drag_194, eX3_drag_197, eX3_drag_199, eX3_drag_203, eX3_drag_204, eX3_drag_207, eX3_drag_210, eX3_drag_211, eX3_drag_214, eX3_drag_215, eX3_drag_217, eX3_drag_218, eX3_drag_220, eX3_drag_221, eX3_drag_222, eX3_drag_224, eX3_drag_227, eX3_drag_228, eX3_drag_231, eX3_drag_234, eX3_drag_235, eX3_drag_238, eX3_drag_239, eX3_drag_240, eX3_drag_241, eX3_drag_243, eX3_drag_244, eX3_drag_245, eX3_drag_246, eX3_drag_247, eX3_drag_250, eX3_drag_252, eX3_drag_253, eX3_drag_256, eX3_drag_258, eX3_drag_261, eX3_drag_262, eX3_drag_263, eX3_drag_266, eX3_drag_268, eX3_drag_269, eX3_drag_270, eX3_drag_273, eX3_drag_274, eX3_drag_276, eX3_drag_279, eX3_drag_281, eX3_drag_282, eX3_drag_285, eX3_drag_286, eX3_drag_287, eX3_drag_291, eX3_drag_293, eX3_drag_296, eX3_drag_297, eX3_drag_300, eX3_drag_301, eX3_drag_303, eX3_drag_304, eX3_drag_306, eX3_drag_307, eX3_drag_308, eX3_drag_310, eX3_drag_313, eX3_drag_314, eX3_drag_317, eX3_drag_320, eX3_drag_321, eX3_drag_325, eX3_drag_327, eX3_drag_330, eX3_drag_331, eX3_drag_334, eX3_drag_335, eX3_drag_337, eX3_drag_338, eX3_drag_340, eX3_drag_341, eX3_drag_342, eX3_drag_345, eX3_drag_347, eX3_drag_348, eX3_drag_349, eX3_drag_352, eX3_drag_355, eX3_drag_356, eX3_drag_359, eX3_drag_360, eX3_drag_361, eX3_drag_362, eX3_drag_364, eX3_drag_365, eX3_drag_366, eX3_drag_368, ox_O_s, ox_B_s, ox_g_t, ox_A_s, ox_push_s, ox_push_n, ox_some, ox_z0, ox_z1, iI_lt, iI_eq, iI_add, iI_sub, ig_at, if_true, if_false, if_pos, if_neg, mO, c1, c2, c3, c4, c5, c6, c7, hin, hig]
      · simp only [decide_eq_false inn, zb_f] at hwg hig
        by_cases dp : 6 < dpX X p (enX X p) + (lvA X g - lvA X p + 0)
        · refine ST_same (v := iI (-2)) hS ?_ ?_
          · simp (disch := omega) only [eX2_drag_0, eX2_drag_1, eX2_drag_4, eX2_drag_5, eX2_drag_8, eX2_drag_10, eX2_drag_11, eX2_drag_14, eX2_drag_15, eX2_drag_18, eX2_drag_20, eX2_drag_22, eX2_drag_25, eX2_drag_27, eX2_drag_30, eX2_drag_31, eX2_drag_32, eX2_drag_33, eX2_drag_36, eX2_drag_39, eX2_drag_40, eX2_drag_41, eX2_drag_42, eX2_drag_45, eX2_drag_47, eX2_drag_50, eX2_drag_52, eX2_drag_53, eX2_drag_56, eX2_drag_58, eX2_drag_61, eX2_drag_63, eX2_drag_65, eX2_drag_66, eX2_drag_69, eX2_drag_71, eX2_drag_74, eX2_drag_75, eX2_drag_76, eX2_drag_77, eX2_drag_80, eX2_drag_81, eX2_drag_84, eX2_drag_85, eX2_drag_86, eX2_drag_88, eX2_drag_90, eX2_drag_92, eX2_drag_94, eX2_drag_95, eX2_drag_96, eX2_drag_99, eX2_drag_102, eX2_drag_103, eX2_drag_106, eX2_drag_108, eX2_drag_110, eX2_drag_113, eX2_drag_115, eX2_drag_116, eX2_drag_118, eX2_drag_121, eX2_drag_123, eX2_drag_124, eX2_drag_125, eX2_drag_126, eX2_drag_129, eX2_drag_131, eX2_drag_134, eX2_drag_135, eX2_drag_138, eX2_drag_140, eX2_drag_142, eX2_drag_145, eX2_drag_147, eX2_drag_148, eX2_drag_151, eX2_drag_152, eX2_drag_155, eX2_drag_157, eX2_drag_160, eX2_drag_161, eX2_drag_164, eX2_drag_166, eX2_drag_169, eX2_drag_172, eX2_drag_175, eX2_drag_177, eX2_drag_178, eX2_drag_179, eX2_drag_182, eX2_drag_183, eX2_drag_185, eX2_drag_186, eX2_drag_189, eX2_drag_191, eX2_drag_192, eX2_drag_195, eX2_drag_197, eX2_drag_199, eX2_drag_201, eX2_drag_204, eX2_drag_205, eX2_drag_208, eX2_drag_210, eX2_drag_212, eX2_drag_214, eX2_drag_217, ox_O_s, ox_B_s, ox_g_t, ox_A_s, ox_push_s, ox_push_n, ox_some, ox_z0, ox_z1, iI_lt, iI_eq, iI_add, iI_sub, ig_at, if_true, if_false, if_pos, if_neg, f0, f1, f2, f3, f4, f5, f6, f7, f8, f9, f10, f11, f12, f13, f14, f15, hpl, hgl, hwi, hen, xlp, xlg, hwg, hdp]
          · obtain ⟨c1, c2, c3, c4, c5, c6, c7⟩ := mA _ hM
            have c8 := mD _ hM
            rw [decide_eq_true (by omega), zb_t] at c8
            simp (disch := omega) only [eX3_drag_0, eX3_drag_1, eX3_drag_2, eX3_drag_5, eX3_drag_8, eX3_drag_9, eX3_drag_10, eX3_drag_13, eX3_drag_16, eX3_drag_17, eX3_drag_18, eX3_drag_19, eX3_drag_22, eX3_drag_25, eX3_drag_26, eX3_drag_27, eX3_drag_28, eX3_drag_29, eX3_drag_32, eX3_drag_34, eX3_drag_35, eX3_drag_37, eX3_drag_40, eX3_drag_42, eX3_drag_43, eX3_drag_44, eX3_drag_47, eX3_drag_49, eX3_drag_50, eX3_drag_52, eX3_drag_55, eX3_drag_56, eX3_drag_57, eX3_drag_60, eX3_drag_61, eX3_drag_64, eX3_drag_65, eX3_drag_66, eX3_drag_68, eX3_drag_70, eX3_drag_71, eX3_drag_73, eX3_drag_76, eX3_drag_77, eX3_drag_79, eX3_drag_81, eX3_drag_83, eX3_drag_85, eX3_drag_86, eX3_drag_87, eX3_drag_90, eX3_drag_93, eX3_drag_94, eX3_drag_96, eX3_drag_98, eX3_drag_100, eX3_drag_103, eX3_drag_106, eX3_drag_108, eX3_drag_109, eX3_drag_110, eX3_drag_111, eX3_drag_112, eX3_drag_115, eX3_drag_116, eX3_drag_118, eX3_drag_121, eX3_drag_124, eX3_drag_126, eX3_drag_127, eX3_drag_130, eX3_drag_132, eX3_drag_133, eX3_drag_134, eX3_drag_135, eX3_drag_138, eX3_drag_141, eX3_drag_143, eX3_drag_144, eX3_drag_145, eX3_drag_148, eX3_drag_149, eX3_drag_151, eX3_drag_153, eX3_drag_155, eX3_drag_158, eX3_drag_160, eX3_drag_162, eX3_drag_163, eX3_drag_165, eX3_drag_166, eX3_drag_170, eX3_drag_172, eX3_drag_175, eX3_drag_176, eX3_drag_179, eX3_drag_181, eX3_drag_182, eX3_drag_184, eX3_drag_186, eX3_drag_187, eX3_drag_190, eX3_drag_191, eX3_drag_194, eX3_drag_197, eX3_drag_199, eX3_drag_203, eX3_drag_204, eX3_drag_207, eX3_drag_210, eX3_drag_211, eX3_drag_214, eX3_drag_215, eX3_drag_217, eX3_drag_218, eX3_drag_220, eX3_drag_221, eX3_drag_222, eX3_drag_224, eX3_drag_227, eX3_drag_228, eX3_drag_231, eX3_drag_234, eX3_drag_235, eX3_drag_238, eX3_drag_239, eX3_drag_240, eX3_drag_241, eX3_drag_243, eX3_drag_244, eX3_drag_245, eX3_drag_246, eX3_drag_247, eX3_drag_250, eX3_drag_252, eX3_drag_253, eX3_drag_256, eX3_drag_258, eX3_drag_261, eX3_drag_262, eX3_drag_263, eX3_drag_266, eX3_drag_268, eX3_drag_269, eX3_drag_270, eX3_drag_273, eX3_drag_274, eX3_drag_276, eX3_drag_279, eX3_drag_281, eX3_drag_282, eX3_drag_285, eX3_drag_286, eX3_drag_287, eX3_drag_291, eX3_drag_293, eX3_drag_296, eX3_drag_297, eX3_drag_300, eX3_drag_301, eX3_drag_303, eX3_drag_304, eX3_drag_306, eX3_drag_307, eX3_drag_308, eX3_drag_310, eX3_drag_313, eX3_drag_314, eX3_drag_317, eX3_drag_320, eX3_drag_321, eX3_drag_325, eX3_drag_327, eX3_drag_330, eX3_drag_331, eX3_drag_334, eX3_drag_335, eX3_drag_337, eX3_drag_338, eX3_drag_340, eX3_drag_341, eX3_drag_342, eX3_drag_345, eX3_drag_347, eX3_drag_348, eX3_drag_349, eX3_drag_352, eX3_drag_355, eX3_drag_356, eX3_drag_359, eX3_drag_360, eX3_drag_361, eX3_drag_362, eX3_drag_364, eX3_drag_365, eX3_drag_366, eX3_drag_368, ox_O_s, ox_B_s, ox_g_t, ox_A_s, ox_push_s, ox_push_n, ox_some, ox_z0, ox_z1, iI_lt, iI_eq, iI_add, iI_sub, ig_at, if_true, if_false, if_pos, if_neg, mO, c1, c2, c3, c4, c5, c6, c7, c8, hin, hig]
        · rw [decide_eq_false (show ¬ 6 < dpX X p (enX X p) + (lvA X g + 0 - lvA X p) by omega), zb_f] at mD
          cases ok : alw X (kdA X (pA (lvA X) (lvA X g) g.toNat)) (kdA X p) with
          | false =>
            rw [ok] at hal
            simp only [ok, zb_f] at mP
            refine ST_same (v := iI (-4)) hS ?_ ?_
            · simp (disch := omega) only [eX2_drag_0, eX2_drag_1, eX2_drag_4, eX2_drag_5, eX2_drag_8, eX2_drag_10, eX2_drag_11, eX2_drag_14, eX2_drag_15, eX2_drag_18, eX2_drag_20, eX2_drag_22, eX2_drag_25, eX2_drag_27, eX2_drag_30, eX2_drag_31, eX2_drag_32, eX2_drag_33, eX2_drag_36, eX2_drag_39, eX2_drag_40, eX2_drag_41, eX2_drag_42, eX2_drag_45, eX2_drag_47, eX2_drag_50, eX2_drag_52, eX2_drag_53, eX2_drag_56, eX2_drag_58, eX2_drag_61, eX2_drag_63, eX2_drag_65, eX2_drag_66, eX2_drag_69, eX2_drag_71, eX2_drag_74, eX2_drag_75, eX2_drag_76, eX2_drag_77, eX2_drag_80, eX2_drag_81, eX2_drag_84, eX2_drag_85, eX2_drag_86, eX2_drag_88, eX2_drag_90, eX2_drag_92, eX2_drag_94, eX2_drag_95, eX2_drag_96, eX2_drag_99, eX2_drag_102, eX2_drag_103, eX2_drag_106, eX2_drag_108, eX2_drag_110, eX2_drag_113, eX2_drag_115, eX2_drag_116, eX2_drag_118, eX2_drag_121, eX2_drag_123, eX2_drag_124, eX2_drag_125, eX2_drag_126, eX2_drag_129, eX2_drag_131, eX2_drag_134, eX2_drag_135, eX2_drag_138, eX2_drag_140, eX2_drag_142, eX2_drag_145, eX2_drag_147, eX2_drag_148, eX2_drag_151, eX2_drag_152, eX2_drag_155, eX2_drag_157, eX2_drag_160, eX2_drag_161, eX2_drag_164, eX2_drag_166, eX2_drag_169, eX2_drag_172, eX2_drag_175, eX2_drag_177, eX2_drag_178, eX2_drag_179, eX2_drag_182, eX2_drag_183, eX2_drag_185, eX2_drag_186, eX2_drag_189, eX2_drag_191, eX2_drag_192, eX2_drag_195, eX2_drag_197, eX2_drag_199, eX2_drag_201, eX2_drag_204, eX2_drag_205, eX2_drag_208, eX2_drag_210, eX2_drag_212, eX2_drag_214, eX2_drag_217, ox_O_s, ox_B_s, ox_g_t, ox_A_s, ox_push_s, ox_push_n, ox_some, ox_z0, ox_z1, iI_lt, iI_eq, iI_add, iI_sub, ig_at, if_true, if_false, if_pos, if_neg, f0, f1, f2, f3, f4, f5, f6, f7, f8, f9, f10, f11, f12, f13, f14, f15, hpl, hgl, hwi, hen, xlp, xlg, hwg, hdp, hpa, hka, hkp, hal, zb_f]
            · obtain ⟨c1, c2, c3, c4, c5, c6, c7⟩ := mA _ hM
              have c8 := mD _ hM
              obtain ⟨c9, c10⟩ := mP _ hM
              have hm0 := (ma_facts hM).2.1
              have hmi := (ma_facts hM).2.2.2.2.2.2.2.2.2.2.2.1
              simp (disch := omega) only [eX3_drag_0, eX3_drag_1, eX3_drag_2, eX3_drag_5, eX3_drag_8, eX3_drag_9, eX3_drag_10, eX3_drag_13, eX3_drag_16, eX3_drag_17, eX3_drag_18, eX3_drag_19, eX3_drag_22, eX3_drag_25, eX3_drag_26, eX3_drag_27, eX3_drag_28, eX3_drag_29, eX3_drag_32, eX3_drag_34, eX3_drag_35, eX3_drag_37, eX3_drag_40, eX3_drag_42, eX3_drag_43, eX3_drag_44, eX3_drag_47, eX3_drag_49, eX3_drag_50, eX3_drag_52, eX3_drag_55, eX3_drag_56, eX3_drag_57, eX3_drag_60, eX3_drag_61, eX3_drag_64, eX3_drag_65, eX3_drag_66, eX3_drag_68, eX3_drag_70, eX3_drag_71, eX3_drag_73, eX3_drag_76, eX3_drag_77, eX3_drag_79, eX3_drag_81, eX3_drag_83, eX3_drag_85, eX3_drag_86, eX3_drag_87, eX3_drag_90, eX3_drag_93, eX3_drag_94, eX3_drag_96, eX3_drag_98, eX3_drag_100, eX3_drag_103, eX3_drag_106, eX3_drag_108, eX3_drag_109, eX3_drag_110, eX3_drag_111, eX3_drag_112, eX3_drag_115, eX3_drag_116, eX3_drag_118, eX3_drag_121, eX3_drag_124, eX3_drag_126, eX3_drag_127, eX3_drag_130, eX3_drag_132, eX3_drag_133, eX3_drag_134, eX3_drag_135, eX3_drag_138, eX3_drag_141, eX3_drag_143, eX3_drag_144, eX3_drag_145, eX3_drag_148, eX3_drag_149, eX3_drag_151, eX3_drag_153, eX3_drag_155, eX3_drag_158, eX3_drag_160, eX3_drag_162, eX3_drag_163, eX3_drag_165, eX3_drag_166, eX3_drag_170, eX3_drag_172, eX3_drag_175, eX3_drag_176, eX3_drag_179, eX3_drag_181, eX3_drag_182, eX3_drag_184, eX3_drag_186, eX3_drag_187, eX3_drag_190, eX3_drag_191, eX3_drag_194, eX3_drag_197, eX3_drag_199, eX3_drag_203, eX3_drag_204, eX3_drag_207, eX3_drag_210, eX3_drag_211, eX3_drag_214, eX3_drag_215, eX3_drag_217, eX3_drag_218, eX3_drag_220, eX3_drag_221, eX3_drag_222, eX3_drag_224, eX3_drag_227, eX3_drag_228, eX3_drag_231, eX3_drag_234, eX3_drag_235, eX3_drag_238, eX3_drag_239, eX3_drag_240, eX3_drag_241, eX3_drag_243, eX3_drag_244, eX3_drag_245, eX3_drag_246, eX3_drag_247, eX3_drag_250, eX3_drag_252, eX3_drag_253, eX3_drag_256, eX3_drag_258, eX3_drag_261, eX3_drag_262, eX3_drag_263, eX3_drag_266, eX3_drag_268, eX3_drag_269, eX3_drag_270, eX3_drag_273, eX3_drag_274, eX3_drag_276, eX3_drag_279, eX3_drag_281, eX3_drag_282, eX3_drag_285, eX3_drag_286, eX3_drag_287, eX3_drag_291, eX3_drag_293, eX3_drag_296, eX3_drag_297, eX3_drag_300, eX3_drag_301, eX3_drag_303, eX3_drag_304, eX3_drag_306, eX3_drag_307, eX3_drag_308, eX3_drag_310, eX3_drag_313, eX3_drag_314, eX3_drag_317, eX3_drag_320, eX3_drag_321, eX3_drag_325, eX3_drag_327, eX3_drag_330, eX3_drag_331, eX3_drag_334, eX3_drag_335, eX3_drag_337, eX3_drag_338, eX3_drag_340, eX3_drag_341, eX3_drag_342, eX3_drag_345, eX3_drag_347, eX3_drag_348, eX3_drag_349, eX3_drag_352, eX3_drag_355, eX3_drag_356, eX3_drag_359, eX3_drag_360, eX3_drag_361, eX3_drag_362, eX3_drag_364, eX3_drag_365, eX3_drag_366, eX3_drag_368, ox_O_s, ox_B_s, ox_g_t, ox_A_s, ox_push_s, ox_push_n, ox_some, ox_z0, ox_z1, iI_lt, iI_eq, iI_add, iI_sub, ig_at, if_true, if_false, if_pos, if_neg, mO, c1, c2, c3, c4, c5, c6, c7, c8, hm0, hmi, c9, c10, ek, hin, hig]
          | true =>
            rw [ok] at hal
            simp only [ok, zb_t] at mP
            have hgp : g < p ∨ enX X p ≤ g := by omega
            obtain ⟨hbb, hE1⟩ := dr_end s1 p0 p1 ga gb hgp
            obtain ⟨h', A', e1, hC', hfr⟩ := k2_remember hC s1.1 s3.1 s3.2
            have hO' := hC'.2.2.1
            have hl' : h'.length = 140 := hC'.1
            rw [← hput_self hO'] at e1
            have hC2 := CS_now (X' := X) hC'
            obtain ⟨g0, g1, g2, g3, g4, g5, g6, g7, g8, g9, g10, g11, g12, g13, g14, g15⟩ := CS_facts hC2
            have hb5 : 5 + 10 < h'.length := by omega
            have hpf := k2_pfd hC2 s1 ga gb r.1 r.2
            have hsh := k2_shift s1 hb5 (b := (lvA X g - lvA X p + 0)) p0 (show p ≤ enX X p by omega) heb.2
            have hto : (dP v g (enX X g) ≤ p ∨ enX X p ≤ dP v g (enX X g)) ∧ 0 ≤ dP v g (enX X g) ∧ dP v g (enX X g) ≤ X.1 0 := by
              unfold dP
              split
              · omega
              · split <;> omega
            have hmv := k1_move (h := h') (o := 5) (X := slX X p (enX X p) (lvA X g - lvA X p + 0)) hb5 (s1.1 0 (by decide)) p0 (show p ≤ enX X p by omega) (show enX X p ≤ 30 by omega) hto.2.1 (show dP v g (enX X g) ≤ 30 by omega) hto.1
            have hC3 := CS_now (X' := slX X p (enX X p) (lvA X g - lvA X p + 0)) hC'
            obtain ⟨q0, q1, q2, q3, q4, q5, q6, q7, q8, q9, q10, q11, q12, q13, q14, q15⟩ := CS_facts hC3
            have hP : (if dP v g (enX X g) ≤ p then dP v g (enX X g) else dP v g (enX X g) - (enX X p - p)) = dP v (if g < p then g else g - (enX X p - p)) (enX (cuX X p (enX X p)) (if g < p then g else g - (enX X p - p))) := by
              rw [hE1]
              unfold dP
              by_cases w0 : v = 0
              · rw [if_pos w0, if_pos w0]
                by_cases c : g < p
                · rw [if_pos c, if_pos (by omega)]
                · rw [if_neg c, if_neg (by omega)]
              · rw [if_neg w0, if_neg w0]
                by_cases w2 : v = 2
                · rw [if_pos w2, if_pos w2]
                  by_cases c : g < p
                  · rw [if_pos c, if_pos (by omega)]
                  · rw [if_neg c, if_neg (by omega)]; omega
                · rw [if_neg w2, if_neg w2]
            generalize hPe : (if dP v g (enX X g) ≤ p then dP v g (enX X g) else dP v g (enX X g) - (enX X p - p)) = P at hmv hP
            have e0 := (paN_k Y).2.2.1 0 (by decide)
            have e4 := (paN_k Y).2.2.1 4 (by decide)
            have es : oset (paN Y) 0 (Y.2 0) = paN Y := by rw [← e0]; exact os_self
            have hb6 : 133 + 6 < (hput h' 5 (oset (slX X p (enX X p) (lvA X g - lvA X p + 0)) 0 (if dP v g (enX X g) ≤ p then swX (dP v g (enX X g)) p (enX X p) ((slX X p (enX X p) (lvA X g - lvA X p + 0)).2 0) else swX p (enX X p) (dP v g (enX X g)) ((slX X p (enX X p) (lvA X g - lvA X p + 0)).2 0)))).length := by rw [gp_len]; omega
            obtain ⟨w0, x1, x2⟩ := k3_shiftLevels (Y := paN Y) s1 hb6 s2 (b := (lvA X g + 0 - lvA X p)) p0 (show p ≤ enX X p by omega) heb.2
            rw [es] at x1
            have x2' := x2
            rw [eb] at x2'
            obtain ⟨pt, w', t1, t2, t3, t4, t5, t6, t7⟩ := k3_dr_tail (Y := paN Y) hb6 s1 s2 p0 p1 ga gb hgp r.1 r.2 x2' (by rw [e4]; exact hR.2.2.2.2.2.2.2.2.2.2.2.2.2.1) P hP (.int (iI (ig (X.2 0) p))) (.int (iI g)) (.int (iI (lvA X g + 0))) (.int (iI (lvA X g + 0 - lvA X p)))
            have hl0 : (X.2 0).length = 30 := s1.1 0 (by decide)
            have hod : ∀ q, 0 ≤ q → q < X.1 0 → ig (if dP v g (enX X g) ≤ p then swX (dP v g (enX X g)) p (enX X p) ((slX X p (enX X p) (lvA X g - lvA X p + 0)).2 0) else swX p (enX X p) (dP v g (enX X g)) ((slX X p (enX X p) (lvA X g - lvA X p + 0)).2 0)) q = ig (X.2 0) (dS p (enX X p - p) P q) := fun q a c => by
              rw [← hPe]
              exact dr_mv hl0 p0 (show p ≤ enX X p by omega) heb.2 hn.2 hto.2.1 hto.2.2 hto.1 a c
            have hV1 := vx_cut s1 p0 (show p < enX X p by omega) heb.2 (fun c => en_end s1 p0 p1 c)
            have n1 : (cuX X p (enX X p)).1 0 = X.1 0 - (enX X p - p) := rfl
            have hg' : 0 ≤ (if g < p then g else g - (enX X p - p)) ∧ (if g < p then g else g - (enX X p - p)) < X.1 0 - (enX X p - p) := by split <;> omega
            have hsg : cuS' p (enX X p - p) (if g < p then g else g - (enX X p - p)) = g := by
              unfold cuS'
              by_cases c : g < p
              · rw [if_pos c, if_pos c]
              · rw [if_neg c, if_neg (by omega)]; omega
            have hlg1 : lvA (cuX X p (enX X p)) (if g < p then g else g - (enX X p - p)) = lvA X g := by rw [cut_lvA s1 p0 (by omega) heb.2 hg'.1 hg'.2, hsg]
            have hH : lvA X g + 0 ≤ lvA (cuX X p (enX X p)) (P - 1) + 1 ∧ lvA (cuX X p (enX X p)) P ≤ lvA X g + 0 + 1 := by
              clear hsg
              rw [hP]
              generalize (if g < p then g else g - (enX X p - p)) = g' at hg' hlg1
              have hb1 := enX_b (X := cuX X p (enX X p)) (p := g') (by rw [n1]; exact hg'.2)
              rw [n1] at hb1
              unfold dP
              by_cases w0 : v = 0
              · rw [if_pos w0, hlg1]
                refine ⟨?_, by omega⟩
                by_cases c : g' = 0
                · have := lv_0 hV1 (by rw [n1]; omega)
                  rw [c] at hlg1
                  rw [c, cut_out (by omega)]
                  omega
                · have := lv_step hV1 (r := g' - 1) (by omega) (by rw [n1]; omega)
                  rw [show g' - 1 + 1 = g' by omega, hlg1] at this
                  omega
              · rw [if_neg w0, if_neg (by omega)]
                have h1 := en_lv hV1 hg'.1 (q := enX (cuX X p (enX X p)) g' - 1) (by omega) (by omega)
                rw [hlg1] at h1
                refine ⟨by omega, ?_⟩
                by_cases c : enX (cuX X p (enX X p)) g' < X.1 0 - (enX X p - p)
                · have h2 := en_end hV1 hg'.1 (by rw [n1]; exact hg'.2) (by rw [n1]; exact c)
                  omega
                · rw [cut_out (q := enX (cuX X p (enX X p)) g') (by omega)]
                  omega
            refine ST_chg4 (h1 := hput h' 5 (oset (slX X p (enX X p) (lvA X g - lvA X p + 0)) 0 (if dP v g (enX X g) ≤ p then swX (dP v g (enX X g)) p (enX X p) ((slX X p (enX X p) (lvA X g - lvA X p + 0)).2 0) else swX p (enX X p) (dP v g (enX X g)) ((slX X p (enX X p) (lvA X g - lvA X p + 0)).2 0)))) (v := iI P) h0 hM hR ?_ (CS_now hC') (fun a ha => by rw [gp_out (by omega)]; exact hfr a ha) (w' := w') (pt := pt) ?_ t2 (vx_drag s1 p0 p1 (by split <;> rw [swX_len] <;> exact hl0) t3.1 t3.2 hod (fun q a c => ?_) (by omega) (by omega)) (rel_drag s1 s2 p0 p1 t3.1 t3.2 hod x2' t4 t5 t6 t7)
            · simp (disch := omega) only [eX2_drag_0, eX2_drag_1, eX2_drag_4, eX2_drag_5, eX2_drag_8, eX2_drag_10, eX2_drag_11, eX2_drag_14, eX2_drag_15, eX2_drag_18, eX2_drag_20, eX2_drag_22, eX2_drag_25, eX2_drag_27, eX2_drag_30, eX2_drag_31, eX2_drag_32, eX2_drag_33, eX2_drag_36, eX2_drag_39, eX2_drag_40, eX2_drag_41, eX2_drag_42, eX2_drag_45, eX2_drag_47, eX2_drag_50, eX2_drag_52, eX2_drag_53, eX2_drag_56, eX2_drag_58, eX2_drag_61, eX2_drag_63, eX2_drag_65, eX2_drag_66, eX2_drag_69, eX2_drag_71, eX2_drag_74, eX2_drag_75, eX2_drag_76, eX2_drag_77, eX2_drag_80, eX2_drag_81, eX2_drag_84, eX2_drag_85, eX2_drag_86, eX2_drag_88, eX2_drag_90, eX2_drag_92, eX2_drag_94, eX2_drag_95, eX2_drag_96, eX2_drag_99, eX2_drag_102, eX2_drag_103, eX2_drag_106, eX2_drag_108, eX2_drag_110, eX2_drag_113, eX2_drag_115, eX2_drag_116, eX2_drag_118, eX2_drag_121, eX2_drag_123, eX2_drag_124, eX2_drag_125, eX2_drag_126, eX2_drag_129, eX2_drag_131, eX2_drag_134, eX2_drag_135, eX2_drag_138, eX2_drag_140, eX2_drag_142, eX2_drag_145, eX2_drag_147, eX2_drag_148, eX2_drag_151, eX2_drag_152, eX2_drag_155, eX2_drag_157, eX2_drag_160, eX2_drag_161, eX2_drag_164, eX2_drag_166, eX2_drag_169, eX2_drag_172, eX2_drag_175, eX2_drag_177, eX2_drag_178, eX2_drag_179, eX2_drag_182, eX2_drag_183, eX2_drag_185, eX2_drag_186, eX2_drag_189, eX2_drag_191, eX2_drag_192, eX2_drag_195, eX2_drag_197, eX2_drag_199, eX2_drag_201, eX2_drag_204, eX2_drag_205, eX2_drag_208, eX2_drag_210, eX2_drag_212, eX2_drag_214, eX2_drag_217, ox_O_s, ox_B_s, ox_g_t, ox_A_s, ox_push_s, ox_push_n, ox_some, ox_z0, ox_z1, iI_lt, iI_eq, iI_add, iI_sub, ig_at, if_true, if_false, if_pos, if_neg, f0, f1, f2, f3, f4, f5, f6, f7, f8, f9, f10, f11, f12, f13, f14, f15, hpl, hgl, hwi, hen, xlp, xlg, hwg, hdp, hpa, hka, hkp, hal, zb_t, e1, g0, g1, g2, g3, g4, g5, g6, g7, g8, g9, g10, g11, g12, g13, g14, g15, hpf, hsh, q0, q1, q11, hmv]
            · obtain ⟨c1, c2, c3, c4, c5, c6, c7⟩ := mA _ (ma_put (X := Y) hb6)
              have c8 := mD _ (ma_put (X := Y) hb6)
              obtain ⟨c9, c10⟩ := mP _ (ma_put (X := Y) hb6)
              have hr := k3_remember hb6 hw s5 (by omega) (by omega)
              simp (maxSteps := 1000000) (disch := omega) only [eX3_drag_0, eX3_drag_1, eX3_drag_2, eX3_drag_5, eX3_drag_8, eX3_drag_9, eX3_drag_10, eX3_drag_13, eX3_drag_16, eX3_drag_17, eX3_drag_18, eX3_drag_19, eX3_drag_22, eX3_drag_25, eX3_drag_26, eX3_drag_27, eX3_drag_28, eX3_drag_29, eX3_drag_32, eX3_drag_34, eX3_drag_35, eX3_drag_37, eX3_drag_40, eX3_drag_42, eX3_drag_43, eX3_drag_44, eX3_drag_47, eX3_drag_49, eX3_drag_50, eX3_drag_52, eX3_drag_55, eX3_drag_56, eX3_drag_57, eX3_drag_60, eX3_drag_61, eX3_drag_64, eX3_drag_65, eX3_drag_66, eX3_drag_68, eX3_drag_70, eX3_drag_71, eX3_drag_73, eX3_drag_76, eX3_drag_77, eX3_drag_79, eX3_drag_81, eX3_drag_83, eX3_drag_85, eX3_drag_86, eX3_drag_87, eX3_drag_90, eX3_drag_93, eX3_drag_94, eX3_drag_96, eX3_drag_98, eX3_drag_100, eX3_drag_103, eX3_drag_106, eX3_drag_108, eX3_drag_109, eX3_drag_110, eX3_drag_111, eX3_drag_112, eX3_drag_115, eX3_drag_116, eX3_drag_118, eX3_drag_121, eX3_drag_124, eX3_drag_126, eX3_drag_127, eX3_drag_130, eX3_drag_132, eX3_drag_133, eX3_drag_134, eX3_drag_135, eX3_drag_138, eX3_drag_141, eX3_drag_143, eX3_drag_144, eX3_drag_145, eX3_drag_148, eX3_drag_149, eX3_drag_151, eX3_drag_153, eX3_drag_155, ox_O_s, ox_B_s, ox_g_t, ox_A_s, ox_push_s, ox_push_n, ox_some, ox_z0, ox_z1, iI_lt, iI_eq, iI_add, iI_sub, ig_at, if_true, if_false, if_pos, if_neg, mp_obj, mp_f0, mp_i0, c1, c2, c3, c4, c5, c6, c7, c8, c9, c10, ek, hin, hig, hr, x1]
              exact t1
            · have h1 := dp_le s1 (b := (lvA X g - lvA X p + 0)) p0 (show p ≤ enX X p by omega) heb.2 dp a c
              have h2 := en_lv s1 p0 a c
              omega
    · have hgl := k1_placeOf0 b3 s1 y0 y1 hy
      have hhg := k3_isHeading0 hM s2 s1 y0 y1 hy
      refine ST_same (v := iI (-1)) hS ?_ ?_
      · simp (disch := omega) only [eX2_drag_0, eX2_drag_1, eX2_drag_4, eX2_drag_5, eX2_drag_8, eX2_drag_10, eX2_drag_11, eX2_drag_14, eX2_drag_15, eX2_drag_18, eX2_drag_20, eX2_drag_22, eX2_drag_25, eX2_drag_27, eX2_drag_30, eX2_drag_31, eX2_drag_32, eX2_drag_33, eX2_drag_36, eX2_drag_39, eX2_drag_40, eX2_drag_41, eX2_drag_42, eX2_drag_45, eX2_drag_47, eX2_drag_50, eX2_drag_52, eX2_drag_53, eX2_drag_56, eX2_drag_58, eX2_drag_61, eX2_drag_63, eX2_drag_65, eX2_drag_66, eX2_drag_69, eX2_drag_71, eX2_drag_74, eX2_drag_75, eX2_drag_76, eX2_drag_77, eX2_drag_80, eX2_drag_81, eX2_drag_84, eX2_drag_85, eX2_drag_86, eX2_drag_88, eX2_drag_90, eX2_drag_92, eX2_drag_94, eX2_drag_95, eX2_drag_96, eX2_drag_99, eX2_drag_102, eX2_drag_103, eX2_drag_106, eX2_drag_108, eX2_drag_110, eX2_drag_113, eX2_drag_115, eX2_drag_116, eX2_drag_118, eX2_drag_121, eX2_drag_123, eX2_drag_124, eX2_drag_125, eX2_drag_126, eX2_drag_129, eX2_drag_131, eX2_drag_134, eX2_drag_135, eX2_drag_138, eX2_drag_140, eX2_drag_142, eX2_drag_145, eX2_drag_147, eX2_drag_148, eX2_drag_151, eX2_drag_152, eX2_drag_155, eX2_drag_157, eX2_drag_160, eX2_drag_161, eX2_drag_164, eX2_drag_166, eX2_drag_169, eX2_drag_172, eX2_drag_175, eX2_drag_177, eX2_drag_178, eX2_drag_179, eX2_drag_182, eX2_drag_183, eX2_drag_185, eX2_drag_186, eX2_drag_189, eX2_drag_191, eX2_drag_192, eX2_drag_195, eX2_drag_197, eX2_drag_199, eX2_drag_201, eX2_drag_204, eX2_drag_205, eX2_drag_208, eX2_drag_210, eX2_drag_212, eX2_drag_214, eX2_drag_217, ox_O_s, ox_B_s, ox_g_t, ox_A_s, ox_push_s, ox_push_n, ox_some, ox_z0, ox_z1, iI_lt, iI_eq, iI_add, iI_sub, ig_at, if_true, if_false, if_pos, if_neg, f0, f1, f2, f3, f4, f5, f6, f7, f8, f9, f10, f11, f12, f13, f14, f15, hpl, hgl]
      · simp (disch := omega) only [eX3_drag_0, eX3_drag_1, eX3_drag_2, eX3_drag_5, eX3_drag_8, eX3_drag_9, eX3_drag_10, eX3_drag_13, eX3_drag_16, eX3_drag_17, eX3_drag_18, eX3_drag_19, eX3_drag_22, eX3_drag_25, eX3_drag_26, eX3_drag_27, eX3_drag_28, eX3_drag_29, eX3_drag_32, eX3_drag_34, eX3_drag_35, eX3_drag_37, eX3_drag_40, eX3_drag_42, eX3_drag_43, eX3_drag_44, eX3_drag_47, eX3_drag_49, eX3_drag_50, eX3_drag_52, eX3_drag_55, eX3_drag_56, eX3_drag_57, eX3_drag_60, eX3_drag_61, eX3_drag_64, eX3_drag_65, eX3_drag_66, eX3_drag_68, eX3_drag_70, eX3_drag_71, eX3_drag_73, eX3_drag_76, eX3_drag_77, eX3_drag_79, eX3_drag_81, eX3_drag_83, eX3_drag_85, eX3_drag_86, eX3_drag_87, eX3_drag_90, eX3_drag_93, eX3_drag_94, eX3_drag_96, eX3_drag_98, eX3_drag_100, eX3_drag_103, eX3_drag_106, eX3_drag_108, eX3_drag_109, eX3_drag_110, eX3_drag_111, eX3_drag_112, eX3_drag_115, eX3_drag_116, eX3_drag_118, eX3_drag_121, eX3_drag_124, eX3_drag_126, eX3_drag_127, eX3_drag_130, eX3_drag_132, eX3_drag_133, eX3_drag_134, eX3_drag_135, eX3_drag_138, eX3_drag_141, eX3_drag_143, eX3_drag_144, eX3_drag_145, eX3_drag_148, eX3_drag_149, eX3_drag_151, eX3_drag_153, eX3_drag_155, eX3_drag_158, eX3_drag_160, eX3_drag_162, eX3_drag_163, eX3_drag_165, eX3_drag_166, eX3_drag_170, eX3_drag_172, eX3_drag_175, eX3_drag_176, eX3_drag_179, eX3_drag_181, eX3_drag_182, eX3_drag_184, eX3_drag_186, eX3_drag_187, eX3_drag_190, eX3_drag_191, eX3_drag_194, eX3_drag_197, eX3_drag_199, eX3_drag_203, eX3_drag_204, eX3_drag_207, eX3_drag_210, eX3_drag_211, eX3_drag_214, eX3_drag_215, eX3_drag_217, eX3_drag_218, eX3_drag_220, eX3_drag_221, eX3_drag_222, eX3_drag_224, eX3_drag_227, eX3_drag_228, eX3_drag_231, eX3_drag_234, eX3_drag_235, eX3_drag_238, eX3_drag_239, eX3_drag_240, eX3_drag_241, eX3_drag_243, eX3_drag_244, eX3_drag_245, eX3_drag_246, eX3_drag_247, eX3_drag_250, eX3_drag_252, eX3_drag_253, eX3_drag_256, eX3_drag_258, eX3_drag_261, eX3_drag_262, eX3_drag_263, eX3_drag_266, eX3_drag_268, eX3_drag_269, eX3_drag_270, eX3_drag_273, eX3_drag_274, eX3_drag_276, eX3_drag_279, eX3_drag_281, eX3_drag_282, eX3_drag_285, eX3_drag_286, eX3_drag_287, eX3_drag_291, eX3_drag_293, eX3_drag_296, eX3_drag_297, eX3_drag_300, eX3_drag_301, eX3_drag_303, eX3_drag_304, eX3_drag_306, eX3_drag_307, eX3_drag_308, eX3_drag_310, eX3_drag_313, eX3_drag_314, eX3_drag_317, eX3_drag_320, eX3_drag_321, eX3_drag_325, eX3_drag_327, eX3_drag_330, eX3_drag_331, eX3_drag_334, eX3_drag_335, eX3_drag_337, eX3_drag_338, eX3_drag_340, eX3_drag_341, eX3_drag_342, eX3_drag_345, eX3_drag_347, eX3_drag_348, eX3_drag_349, eX3_drag_352, eX3_drag_355, eX3_drag_356, eX3_drag_359, eX3_drag_360, eX3_drag_361, eX3_drag_362, eX3_drag_364, eX3_drag_365, eX3_drag_366, eX3_drag_368, ox_O_s, ox_B_s, ox_g_t, ox_A_s, ox_push_s, ox_push_n, ox_some, ox_z0, ox_z1, iI_lt, iI_eq, iI_add, iI_sub, ig_at, if_true, if_false, if_pos, if_neg, mO, hhd, hhg]
  · have hpl := k1_placeOf0 b3 s1 z0 z1 hz
    have hhd := k3_isHeading0 hM s2 s1 z0 z1 hz
    refine ST_same (v := iI (-1)) hS ?_ ?_
    · rcases ol_find X y with ⟨g, ga, gb, rfl⟩ | hy
      · have hgl := k1_placeOf1 b3 s1 ga gb
        simp (disch := omega) only [eX2_drag_0, eX2_drag_1, eX2_drag_4, eX2_drag_5, eX2_drag_8, eX2_drag_10, eX2_drag_11, eX2_drag_14, eX2_drag_15, eX2_drag_18, eX2_drag_20, eX2_drag_22, eX2_drag_25, eX2_drag_27, eX2_drag_30, eX2_drag_31, eX2_drag_32, eX2_drag_33, eX2_drag_36, eX2_drag_39, eX2_drag_40, eX2_drag_41, eX2_drag_42, eX2_drag_45, eX2_drag_47, eX2_drag_50, eX2_drag_52, eX2_drag_53, eX2_drag_56, eX2_drag_58, eX2_drag_61, eX2_drag_63, eX2_drag_65, eX2_drag_66, eX2_drag_69, eX2_drag_71, eX2_drag_74, eX2_drag_75, eX2_drag_76, eX2_drag_77, eX2_drag_80, eX2_drag_81, eX2_drag_84, eX2_drag_85, eX2_drag_86, eX2_drag_88, eX2_drag_90, eX2_drag_92, eX2_drag_94, eX2_drag_95, eX2_drag_96, eX2_drag_99, eX2_drag_102, eX2_drag_103, eX2_drag_106, eX2_drag_108, eX2_drag_110, eX2_drag_113, eX2_drag_115, eX2_drag_116, eX2_drag_118, eX2_drag_121, eX2_drag_123, eX2_drag_124, eX2_drag_125, eX2_drag_126, eX2_drag_129, eX2_drag_131, eX2_drag_134, eX2_drag_135, eX2_drag_138, eX2_drag_140, eX2_drag_142, eX2_drag_145, eX2_drag_147, eX2_drag_148, eX2_drag_151, eX2_drag_152, eX2_drag_155, eX2_drag_157, eX2_drag_160, eX2_drag_161, eX2_drag_164, eX2_drag_166, eX2_drag_169, eX2_drag_172, eX2_drag_175, eX2_drag_177, eX2_drag_178, eX2_drag_179, eX2_drag_182, eX2_drag_183, eX2_drag_185, eX2_drag_186, eX2_drag_189, eX2_drag_191, eX2_drag_192, eX2_drag_195, eX2_drag_197, eX2_drag_199, eX2_drag_201, eX2_drag_204, eX2_drag_205, eX2_drag_208, eX2_drag_210, eX2_drag_212, eX2_drag_214, eX2_drag_217, ox_O_s, ox_B_s, ox_g_t, ox_A_s, ox_push_s, ox_push_n, ox_some, ox_z0, ox_z1, iI_lt, iI_eq, iI_add, iI_sub, ig_at, if_true, if_false, if_pos, if_neg, f0, f1, f2, f3, f4, f5, f6, f7, f8, f9, f10, f11, f12, f13, f14, f15, hpl, hgl]
      · have hgl := k1_placeOf0 b3 s1 y0 y1 hy
        simp (disch := omega) only [eX2_drag_0, eX2_drag_1, eX2_drag_4, eX2_drag_5, eX2_drag_8, eX2_drag_10, eX2_drag_11, eX2_drag_14, eX2_drag_15, eX2_drag_18, eX2_drag_20, eX2_drag_22, eX2_drag_25, eX2_drag_27, eX2_drag_30, eX2_drag_31, eX2_drag_32, eX2_drag_33, eX2_drag_36, eX2_drag_39, eX2_drag_40, eX2_drag_41, eX2_drag_42, eX2_drag_45, eX2_drag_47, eX2_drag_50, eX2_drag_52, eX2_drag_53, eX2_drag_56, eX2_drag_58, eX2_drag_61, eX2_drag_63, eX2_drag_65, eX2_drag_66, eX2_drag_69, eX2_drag_71, eX2_drag_74, eX2_drag_75, eX2_drag_76, eX2_drag_77, eX2_drag_80, eX2_drag_81, eX2_drag_84, eX2_drag_85, eX2_drag_86, eX2_drag_88, eX2_drag_90, eX2_drag_92, eX2_drag_94, eX2_drag_95, eX2_drag_96, eX2_drag_99, eX2_drag_102, eX2_drag_103, eX2_drag_106, eX2_drag_108, eX2_drag_110, eX2_drag_113, eX2_drag_115, eX2_drag_116, eX2_drag_118, eX2_drag_121, eX2_drag_123, eX2_drag_124, eX2_drag_125, eX2_drag_126, eX2_drag_129, eX2_drag_131, eX2_drag_134, eX2_drag_135, eX2_drag_138, eX2_drag_140, eX2_drag_142, eX2_drag_145, eX2_drag_147, eX2_drag_148, eX2_drag_151, eX2_drag_152, eX2_drag_155, eX2_drag_157, eX2_drag_160, eX2_drag_161, eX2_drag_164, eX2_drag_166, eX2_drag_169, eX2_drag_172, eX2_drag_175, eX2_drag_177, eX2_drag_178, eX2_drag_179, eX2_drag_182, eX2_drag_183, eX2_drag_185, eX2_drag_186, eX2_drag_189, eX2_drag_191, eX2_drag_192, eX2_drag_195, eX2_drag_197, eX2_drag_199, eX2_drag_201, eX2_drag_204, eX2_drag_205, eX2_drag_208, eX2_drag_210, eX2_drag_212, eX2_drag_214, eX2_drag_217, ox_O_s, ox_B_s, ox_g_t, ox_A_s, ox_push_s, ox_push_n, ox_some, ox_z0, ox_z1, iI_lt, iI_eq, iI_add, iI_sub, ig_at, if_true, if_false, if_pos, if_neg, f0, f1, f2, f3, f4, f5, f6, f7, f8, f9, f10, f11, f12, f13, f14, f15, hpl, hgl]
    · simp (disch := omega) only [eX3_drag_0, eX3_drag_1, eX3_drag_2, eX3_drag_5, eX3_drag_8, eX3_drag_9, eX3_drag_10, eX3_drag_13, eX3_drag_16, eX3_drag_17, eX3_drag_18, eX3_drag_19, eX3_drag_22, eX3_drag_25, eX3_drag_26, eX3_drag_27, eX3_drag_28, eX3_drag_29, eX3_drag_32, eX3_drag_34, eX3_drag_35, eX3_drag_37, eX3_drag_40, eX3_drag_42, eX3_drag_43, eX3_drag_44, eX3_drag_47, eX3_drag_49, eX3_drag_50, eX3_drag_52, eX3_drag_55, eX3_drag_56, eX3_drag_57, eX3_drag_60, eX3_drag_61, eX3_drag_64, eX3_drag_65, eX3_drag_66, eX3_drag_68, eX3_drag_70, eX3_drag_71, eX3_drag_73, eX3_drag_76, eX3_drag_77, eX3_drag_79, eX3_drag_81, eX3_drag_83, eX3_drag_85, eX3_drag_86, eX3_drag_87, eX3_drag_90, eX3_drag_93, eX3_drag_94, eX3_drag_96, eX3_drag_98, eX3_drag_100, eX3_drag_103, eX3_drag_106, eX3_drag_108, eX3_drag_109, eX3_drag_110, eX3_drag_111, eX3_drag_112, eX3_drag_115, eX3_drag_116, eX3_drag_118, eX3_drag_121, eX3_drag_124, eX3_drag_126, eX3_drag_127, eX3_drag_130, eX3_drag_132, eX3_drag_133, eX3_drag_134, eX3_drag_135, eX3_drag_138, eX3_drag_141, eX3_drag_143, eX3_drag_144, eX3_drag_145, eX3_drag_148, eX3_drag_149, eX3_drag_151, eX3_drag_153, eX3_drag_155, eX3_drag_158, eX3_drag_160, eX3_drag_162, eX3_drag_163, eX3_drag_165, eX3_drag_166, eX3_drag_170, eX3_drag_172, eX3_drag_175, eX3_drag_176, eX3_drag_179, eX3_drag_181, eX3_drag_182, eX3_drag_184, eX3_drag_186, eX3_drag_187, eX3_drag_190, eX3_drag_191, eX3_drag_194, eX3_drag_197, eX3_drag_199, eX3_drag_203, eX3_drag_204, eX3_drag_207, eX3_drag_210, eX3_drag_211, eX3_drag_214, eX3_drag_215, eX3_drag_217, eX3_drag_218, eX3_drag_220, eX3_drag_221, eX3_drag_222, eX3_drag_224, eX3_drag_227, eX3_drag_228, eX3_drag_231, eX3_drag_234, eX3_drag_235, eX3_drag_238, eX3_drag_239, eX3_drag_240, eX3_drag_241, eX3_drag_243, eX3_drag_244, eX3_drag_245, eX3_drag_246, eX3_drag_247, eX3_drag_250, eX3_drag_252, eX3_drag_253, eX3_drag_256, eX3_drag_258, eX3_drag_261, eX3_drag_262, eX3_drag_263, eX3_drag_266, eX3_drag_268, eX3_drag_269, eX3_drag_270, eX3_drag_273, eX3_drag_274, eX3_drag_276, eX3_drag_279, eX3_drag_281, eX3_drag_282, eX3_drag_285, eX3_drag_286, eX3_drag_287, eX3_drag_291, eX3_drag_293, eX3_drag_296, eX3_drag_297, eX3_drag_300, eX3_drag_301, eX3_drag_303, eX3_drag_304, eX3_drag_306, eX3_drag_307, eX3_drag_308, eX3_drag_310, eX3_drag_313, eX3_drag_314, eX3_drag_317, eX3_drag_320, eX3_drag_321, eX3_drag_325, eX3_drag_327, eX3_drag_330, eX3_drag_331, eX3_drag_334, eX3_drag_335, eX3_drag_337, eX3_drag_338, eX3_drag_340, eX3_drag_341, eX3_drag_342, eX3_drag_345, eX3_drag_347, eX3_drag_348, eX3_drag_349, eX3_drag_352, eX3_drag_355, eX3_drag_356, eX3_drag_359, eX3_drag_360, eX3_drag_361, eX3_drag_362, eX3_drag_364, eX3_drag_365, eX3_drag_366, eX3_drag_368, ox_O_s, ox_B_s, ox_g_t, ox_A_s, ox_push_s, ox_push_n, ox_some, ox_z0, ox_z1, iI_lt, iI_eq, iI_add, iI_sub, ig_at, if_true, if_false, if_pos, if_neg, mO, hhd]
theorem st_dr1 {xs : List Int32} {h : ox_H} (hS : Sm xs h) (a b : Int32) {v : Int} (r : 0 ≤ v ∧ v ≤ 3) (hv : ¬ v < 2) : ST xs h (fun h => oe 51 0 [.ref 4, .int a, .int b, .int (iI v), .null, .null, .null, .null, .null, .null, .null] [] h) (fun h => oe 107 0 [.ref 133, .int a, .int b, .int (iI v), .null, .null, .null, .null, .null, .null, .null, .null, .null] [] h) := by
  obtain ⟨X, c, A, H, I, K, T, U, Y, h0, hC, hM, hR⟩ := sm_parts hS
  obtain ⟨s1, s2, s3, s4, s5, -⟩ := id hR
  obtain ⟨b1, b2, b3, -⟩ := id hC
  have hw : (Y.2 0).length = 218 := s2.1
  obtain ⟨f0, f1, f2, f3, f4, f5, f6, f7, f8, f9, f10, f11, f12, f13, f14, f15⟩ := CS_facts hC
  have mO := (ma_facts hM).1
  obtain ⟨z, rfl, z0, z1⟩ := iI_ex a
  obtain ⟨y, rfl, y0, y1⟩ := iI_ex b
  have hn := s1.2.1
  have hwi := k2_within (h := h) (a := v) (b := 0) (c := 3) (by omega) (by omega) (by omega) (by omega) (by omega) (by omega)
  have hin := fun h' : ox_H => k3_isIn (h := h') (a := v) (b := 0) (c := 3) (by omega) (by omega) (by omega) (by omega) (by omega) (by omega)
  simp only [decide_eq_true r, zb_t] at hwi hin
  rcases ol_find X z with ⟨p, p0, p1, rfl⟩ | hz
  · have hpl := k1_placeOf1 b3 s1 p0 p1
    have ho := s1.2.2.1 p p0 p1
    have hhd := k3_isHeading1 hM s2 s1 p0 p1
    rcases ol_find X y with ⟨g, ga, gb, rfl⟩ | hy
    · have hgl := k1_placeOf1 b3 s1 ga gb
      have hog := s1.2.2.1 g ga gb
      have hhg := k3_isHeading1 hM s2 s1 ga gb
      have hlp := lv_in s1 p0 p1
      have hlg := lv_in s1 ga gb
      have heb := enX_b (X := X) p1
      have hegb := enX_b (X := X) gb
      have hen := k1_endOfPart b3 s1 p0 p1
      have xlp := k1_levelAt b3 s1 (p := p) (by omega) (by omega)
      have xlg := k1_levelAt b3 s1 (p := g) (by omega) (by omega)
      have hwg := k2_within (h := h) (a := g) (b := p) (c := enX X p - 1) (by omega) (by omega) (by omega) (by omega) (by omega) (by omega)
      have hig := fun h' : ox_H => k3_isIn (h := h') (a := g) (b := p) (c := enX X p - 1) (by omega) (by omega) (by omega) (by omega) (by omega) (by omega)
      have hdp := k1_deepest b3 s1 (p := p) (q := enX X p) (by omega) (by omega) (by omega) (by omega)
      have hdb := dpX_b s1 p (enX X p)
      have mA := fun (h' : ox_H) (hM' : MA h' 133 Y) => And.intro (k3_isHeading1 hM' s2 s1 p0 p1) (And.intro (k3_isHeading1 hM' s2 s1 ga gb) (And.intro (k3_placeOf1 hM' s2 s1 p0 p1) (And.intro (k3_placeOf1 hM' s2 s1 ga gb) (And.intro (k3_endOf hM' s2 s1 p0 p1) (And.intro (k3_levelAt hM' s2 s1 p0 p1) (k3_levelAt hM' s2 s1 ga gb))))))
      have eb : lvA X g + 1 - lvA X p = lvA X g - lvA X p + 1 := by omega
      have hka := k1_kindAt b3 s1 (p := g) (by omega) (by omega)
      have hkp := k1_kindAt b3 s1 (p := p) (by omega) (by omega)
      have hkb := kdA_b s1 (g)
      have hkpb := kdA_in s1 p0 p1
      have hal := k1_allows b3 s1 (pk := kdA X (g)) (k := kdA X p) hkb.1 hkb.2 hkpb.1 hkpb.2
      have ek : ig (Y.2 0) (61 + ig (X.2 0) p) = kdA X p := by rw [(s2.2.2.2.1 p p0 p1).2.1]; exact (if_pos ⟨p0, p1⟩).symm
      have mD := fun (h' : ox_H) (hM' : MA h' 133 Y) => k3_isDeep hM' s2 s1 (p := p) (to := enX X p) (by' := (lvA X g + 1 - lvA X p)) (by omega) (by omega) p0 (by omega) heb.2
      have mP := fun (h' : ox_H) (hM' : MA h' 133 Y) => And.intro (k3_isAllowed hM' s2 s1 (q := g) (k := kdA X p) (by omega) (by omega) hkpb.1 hkpb.2) (trivial)
      by_cases inn : p ≤ g ∧ g ≤ enX X p - 1
      · simp only [decide_eq_true inn, zb_t] at hwg hig
        refine ST_same (v := iI (-2)) hS ?_ ?_
        · simp (disch := omega) only [eX2_drag_0, eX2_drag_1, eX2_drag_4, eX2_drag_5, eX2_drag_8, eX2_drag_10, eX2_drag_11, eX2_drag_14, eX2_drag_15, eX2_drag_18, eX2_drag_20, eX2_drag_22, eX2_drag_25, eX2_drag_27, eX2_drag_30, eX2_drag_31, eX2_drag_32, eX2_drag_33, eX2_drag_36, eX2_drag_39, eX2_drag_40, eX2_drag_41, eX2_drag_42, eX2_drag_45, eX2_drag_47, eX2_drag_50, eX2_drag_52, eX2_drag_53, eX2_drag_56, eX2_drag_58, eX2_drag_61, eX2_drag_63, eX2_drag_65, eX2_drag_66, eX2_drag_69, eX2_drag_71, eX2_drag_74, eX2_drag_75, eX2_drag_76, eX2_drag_77, eX2_drag_80, eX2_drag_81, eX2_drag_84, eX2_drag_85, eX2_drag_86, eX2_drag_88, eX2_drag_90, eX2_drag_92, eX2_drag_94, eX2_drag_95, eX2_drag_96, eX2_drag_99, eX2_drag_102, eX2_drag_103, eX2_drag_106, eX2_drag_108, eX2_drag_110, eX2_drag_113, eX2_drag_115, eX2_drag_116, eX2_drag_118, eX2_drag_121, eX2_drag_123, eX2_drag_124, eX2_drag_125, eX2_drag_126, eX2_drag_129, eX2_drag_131, eX2_drag_134, eX2_drag_135, eX2_drag_138, eX2_drag_140, eX2_drag_142, eX2_drag_145, eX2_drag_147, eX2_drag_148, eX2_drag_151, eX2_drag_152, eX2_drag_155, eX2_drag_157, eX2_drag_160, eX2_drag_161, eX2_drag_164, eX2_drag_166, eX2_drag_169, eX2_drag_172, eX2_drag_175, eX2_drag_177, eX2_drag_178, eX2_drag_179, eX2_drag_182, eX2_drag_183, eX2_drag_185, eX2_drag_186, eX2_drag_189, eX2_drag_191, eX2_drag_192, eX2_drag_195, eX2_drag_197, eX2_drag_199, eX2_drag_201, eX2_drag_204, eX2_drag_205, eX2_drag_208, eX2_drag_210, eX2_drag_212, eX2_drag_214, eX2_drag_217, ox_O_s, ox_B_s, ox_g_t, ox_A_s, ox_push_s, ox_push_n, ox_some, ox_z0, ox_z1, iI_lt, iI_eq, iI_add, iI_sub, ig_at, if_true, if_false, if_pos, if_neg, f0, f1, f2, f3, f4, f5, f6, f7, f8, f9, f10, f11, f12, f13, f14, f15, hpl, hgl, hwi, hen, xlp, xlg, hwg]
        · obtain ⟨c1, c2, c3, c4, c5, c6, c7⟩ := mA _ hM
          simp (disch := omega) only [eX3_drag_0, eX3_drag_1, eX3_drag_2, eX3_drag_5, eX3_drag_8, eX3_drag_9, eX3_drag_10, eX3_drag_13, eX3_drag_16, eX3_drag_17, eX3_drag_18, eX3_drag_19, eX3_drag_22, eX3_drag_25, eX3_drag_26, eX3_drag_27, eX3_drag_28, eX3_drag_29, eX3_drag_32, eX3_drag_34, eX3_drag_35, eX3_drag_37, eX3_drag_40, eX3_drag_42, eX3_drag_43, eX3_drag_44, eX3_drag_47, eX3_drag_49, eX3_drag_50, eX3_drag_52, eX3_drag_55, eX3_drag_56, eX3_drag_57, eX3_drag_60, eX3_drag_61, eX3_drag_64, eX3_drag_65, eX3_drag_66, eX3_drag_68, eX3_drag_70, eX3_drag_71, eX3_drag_73, eX3_drag_76, eX3_drag_77, eX3_drag_79, eX3_drag_81, eX3_drag_83, eX3_drag_85, eX3_drag_86, eX3_drag_87, eX3_drag_90, eX3_drag_93, eX3_drag_94, eX3_drag_96, eX3_drag_98, eX3_drag_100, eX3_drag_103, eX3_drag_106, eX3_drag_108, eX3_drag_109, eX3_drag_110, eX3_drag_111, eX3_drag_112, eX3_drag_115, eX3_drag_116, eX3_drag_118, eX3_drag_121, eX3_drag_124, eX3_drag_126, eX3_drag_127, eX3_drag_130, eX3_drag_132, eX3_drag_133, eX3_drag_134, eX3_drag_135, eX3_drag_138, eX3_drag_141, eX3_drag_143, eX3_drag_144, eX3_drag_145, eX3_drag_148, eX3_drag_149, eX3_drag_151, eX3_drag_153, eX3_drag_155, eX3_drag_158, eX3_drag_160, eX3_drag_162, eX3_drag_163, eX3_drag_165, eX3_drag_166, eX3_drag_170, eX3_drag_172, eX3_drag_175, eX3_drag_176, eX3_drag_179, eX3_drag_181, eX3_drag_182, eX3_drag_184, eX3_drag_186, eX3_drag_187, eX3_drag_190, eX3_drag_191, eX3_drag_194, eX3_drag_197, eX3_drag_199, eX3_drag_203, eX3_drag_204, eX3_drag_207, eX3_drag_210, eX3_drag_211, eX3_drag_214, eX3_drag_215, eX3_drag_217, eX3_drag_218, eX3_drag_220, eX3_drag_221, eX3_drag_222, eX3_drag_224, eX3_drag_227, eX3_drag_228, eX3_drag_231, eX3_drag_234, eX3_drag_235, eX3_drag_238, eX3_drag_239, eX3_drag_240, eX3_drag_241, eX3_drag_243, eX3_drag_244, eX3_drag_245, eX3_drag_246, eX3_drag_247, eX3_drag_250, eX3_drag_252, eX3_drag_253, eX3_drag_256, eX3_drag_258, eX3_drag_261, eX3_drag_262, eX3_drag_263, eX3_drag_266, eX3_drag_268, eX3_drag_269, eX3_drag_270, eX3_drag_273, eX3_drag_274, eX3_drag_276, eX3_drag_279, eX3_drag_281, eX3_drag_282, eX3_drag_285, eX3_drag_286, eX3_drag_287, eX3_drag_291, eX3_drag_293, eX3_drag_296, eX3_drag_297, eX3_drag_300, eX3_drag_301, eX3_drag_303, eX3_drag_304, eX3_drag_306, eX3_drag_307, eX3_drag_308, eX3_drag_310, eX3_drag_313, eX3_drag_314, eX3_drag_317, eX3_drag_320, eX3_drag_321, eX3_drag_325, eX3_drag_327, eX3_drag_330, eX3_drag_331, eX3_drag_334, eX3_drag_335, eX3_drag_337, eX3_drag_338, eX3_drag_340, eX3_drag_341, eX3_drag_342, eX3_drag_345, eX3_drag_347, eX3_drag_348, eX3_drag_349, eX3_drag_352, eX3_drag_355, eX3_drag_356, eX3_drag_359, eX3_drag_360, eX3_drag_361, eX3_drag_362, eX3_drag_364, eX3_drag_365, eX3_drag_366, eX3_drag_368, ox_O_s, ox_B_s, ox_g_t, ox_A_s, ox_push_s, ox_push_n, ox_some, ox_z0, ox_z1, iI_lt, iI_eq, iI_add, iI_sub, ig_at, if_true, if_false, if_pos, if_neg, mO, c1, c2, c3, c4, c5, c6, c7, hin, hig]
      · simp only [decide_eq_false inn, zb_f] at hwg hig
        by_cases dp : 6 < dpX X p (enX X p) + (lvA X g - lvA X p + 1)
        · refine ST_same (v := iI (-2)) hS ?_ ?_
          · simp (disch := omega) only [eX2_drag_0, eX2_drag_1, eX2_drag_4, eX2_drag_5, eX2_drag_8, eX2_drag_10, eX2_drag_11, eX2_drag_14, eX2_drag_15, eX2_drag_18, eX2_drag_20, eX2_drag_22, eX2_drag_25, eX2_drag_27, eX2_drag_30, eX2_drag_31, eX2_drag_32, eX2_drag_33, eX2_drag_36, eX2_drag_39, eX2_drag_40, eX2_drag_41, eX2_drag_42, eX2_drag_45, eX2_drag_47, eX2_drag_50, eX2_drag_52, eX2_drag_53, eX2_drag_56, eX2_drag_58, eX2_drag_61, eX2_drag_63, eX2_drag_65, eX2_drag_66, eX2_drag_69, eX2_drag_71, eX2_drag_74, eX2_drag_75, eX2_drag_76, eX2_drag_77, eX2_drag_80, eX2_drag_81, eX2_drag_84, eX2_drag_85, eX2_drag_86, eX2_drag_88, eX2_drag_90, eX2_drag_92, eX2_drag_94, eX2_drag_95, eX2_drag_96, eX2_drag_99, eX2_drag_102, eX2_drag_103, eX2_drag_106, eX2_drag_108, eX2_drag_110, eX2_drag_113, eX2_drag_115, eX2_drag_116, eX2_drag_118, eX2_drag_121, eX2_drag_123, eX2_drag_124, eX2_drag_125, eX2_drag_126, eX2_drag_129, eX2_drag_131, eX2_drag_134, eX2_drag_135, eX2_drag_138, eX2_drag_140, eX2_drag_142, eX2_drag_145, eX2_drag_147, eX2_drag_148, eX2_drag_151, eX2_drag_152, eX2_drag_155, eX2_drag_157, eX2_drag_160, eX2_drag_161, eX2_drag_164, eX2_drag_166, eX2_drag_169, eX2_drag_172, eX2_drag_175, eX2_drag_177, eX2_drag_178, eX2_drag_179, eX2_drag_182, eX2_drag_183, eX2_drag_185, eX2_drag_186, eX2_drag_189, eX2_drag_191, eX2_drag_192, eX2_drag_195, eX2_drag_197, eX2_drag_199, eX2_drag_201, eX2_drag_204, eX2_drag_205, eX2_drag_208, eX2_drag_210, eX2_drag_212, eX2_drag_214, eX2_drag_217, ox_O_s, ox_B_s, ox_g_t, ox_A_s, ox_push_s, ox_push_n, ox_some, ox_z0, ox_z1, iI_lt, iI_eq, iI_add, iI_sub, ig_at, if_true, if_false, if_pos, if_neg, f0, f1, f2, f3, f4, f5, f6, f7, f8, f9, f10, f11, f12, f13, f14, f15, hpl, hgl, hwi, hen, xlp, xlg, hwg, hdp]
          · obtain ⟨c1, c2, c3, c4, c5, c6, c7⟩ := mA _ hM
            have c8 := mD _ hM
            rw [decide_eq_true (by omega), zb_t] at c8
            simp (disch := omega) only [eX3_drag_0, eX3_drag_1, eX3_drag_2, eX3_drag_5, eX3_drag_8, eX3_drag_9, eX3_drag_10, eX3_drag_13, eX3_drag_16, eX3_drag_17, eX3_drag_18, eX3_drag_19, eX3_drag_22, eX3_drag_25, eX3_drag_26, eX3_drag_27, eX3_drag_28, eX3_drag_29, eX3_drag_32, eX3_drag_34, eX3_drag_35, eX3_drag_37, eX3_drag_40, eX3_drag_42, eX3_drag_43, eX3_drag_44, eX3_drag_47, eX3_drag_49, eX3_drag_50, eX3_drag_52, eX3_drag_55, eX3_drag_56, eX3_drag_57, eX3_drag_60, eX3_drag_61, eX3_drag_64, eX3_drag_65, eX3_drag_66, eX3_drag_68, eX3_drag_70, eX3_drag_71, eX3_drag_73, eX3_drag_76, eX3_drag_77, eX3_drag_79, eX3_drag_81, eX3_drag_83, eX3_drag_85, eX3_drag_86, eX3_drag_87, eX3_drag_90, eX3_drag_93, eX3_drag_94, eX3_drag_96, eX3_drag_98, eX3_drag_100, eX3_drag_103, eX3_drag_106, eX3_drag_108, eX3_drag_109, eX3_drag_110, eX3_drag_111, eX3_drag_112, eX3_drag_115, eX3_drag_116, eX3_drag_118, eX3_drag_121, eX3_drag_124, eX3_drag_126, eX3_drag_127, eX3_drag_130, eX3_drag_132, eX3_drag_133, eX3_drag_134, eX3_drag_135, eX3_drag_138, eX3_drag_141, eX3_drag_143, eX3_drag_144, eX3_drag_145, eX3_drag_148, eX3_drag_149, eX3_drag_151, eX3_drag_153, eX3_drag_155, eX3_drag_158, eX3_drag_160, eX3_drag_162, eX3_drag_163, eX3_drag_165, eX3_drag_166, eX3_drag_170, eX3_drag_172, eX3_drag_175, eX3_drag_176, eX3_drag_179, eX3_drag_181, eX3_drag_182, eX3_drag_184, eX3_drag_186, eX3_drag_187, eX3_drag_190, eX3_drag_191, eX3_drag_194, eX3_drag_197, eX3_drag_199, eX3_drag_203, eX3_drag_204, eX3_drag_207, eX3_drag_210, eX3_drag_211, eX3_drag_214, eX3_drag_215, eX3_drag_217, eX3_drag_218, eX3_drag_220, eX3_drag_221, eX3_drag_222, eX3_drag_224, eX3_drag_227, eX3_drag_228, eX3_drag_231, eX3_drag_234, eX3_drag_235, eX3_drag_238, eX3_drag_239, eX3_drag_240, eX3_drag_241, eX3_drag_243, eX3_drag_244, eX3_drag_245, eX3_drag_246, eX3_drag_247, eX3_drag_250, eX3_drag_252, eX3_drag_253, eX3_drag_256, eX3_drag_258, eX3_drag_261, eX3_drag_262, eX3_drag_263, eX3_drag_266, eX3_drag_268, eX3_drag_269, eX3_drag_270, eX3_drag_273, eX3_drag_274, eX3_drag_276, eX3_drag_279, eX3_drag_281, eX3_drag_282, eX3_drag_285, eX3_drag_286, eX3_drag_287, eX3_drag_291, eX3_drag_293, eX3_drag_296, eX3_drag_297, eX3_drag_300, eX3_drag_301, eX3_drag_303, eX3_drag_304, eX3_drag_306, eX3_drag_307, eX3_drag_308, eX3_drag_310, eX3_drag_313, eX3_drag_314, eX3_drag_317, eX3_drag_320, eX3_drag_321, eX3_drag_325, eX3_drag_327, eX3_drag_330, eX3_drag_331, eX3_drag_334, eX3_drag_335, eX3_drag_337, eX3_drag_338, eX3_drag_340, eX3_drag_341, eX3_drag_342, eX3_drag_345, eX3_drag_347, eX3_drag_348, eX3_drag_349, eX3_drag_352, eX3_drag_355, eX3_drag_356, eX3_drag_359, eX3_drag_360, eX3_drag_361, eX3_drag_362, eX3_drag_364, eX3_drag_365, eX3_drag_366, eX3_drag_368, ox_O_s, ox_B_s, ox_g_t, ox_A_s, ox_push_s, ox_push_n, ox_some, ox_z0, ox_z1, iI_lt, iI_eq, iI_add, iI_sub, ig_at, if_true, if_false, if_pos, if_neg, mO, c1, c2, c3, c4, c5, c6, c7, c8, hin, hig]
        · rw [decide_eq_false (show ¬ 6 < dpX X p (enX X p) + (lvA X g + 1 - lvA X p) by omega), zb_f] at mD
          cases ok : alw X (kdA X (g)) (kdA X p) with
          | false =>
            rw [ok] at hal
            simp only [ok, zb_f] at mP
            refine ST_same (v := iI (-4)) hS ?_ ?_
            · simp (disch := omega) only [eX2_drag_0, eX2_drag_1, eX2_drag_4, eX2_drag_5, eX2_drag_8, eX2_drag_10, eX2_drag_11, eX2_drag_14, eX2_drag_15, eX2_drag_18, eX2_drag_20, eX2_drag_22, eX2_drag_25, eX2_drag_27, eX2_drag_30, eX2_drag_31, eX2_drag_32, eX2_drag_33, eX2_drag_36, eX2_drag_39, eX2_drag_40, eX2_drag_41, eX2_drag_42, eX2_drag_45, eX2_drag_47, eX2_drag_50, eX2_drag_52, eX2_drag_53, eX2_drag_56, eX2_drag_58, eX2_drag_61, eX2_drag_63, eX2_drag_65, eX2_drag_66, eX2_drag_69, eX2_drag_71, eX2_drag_74, eX2_drag_75, eX2_drag_76, eX2_drag_77, eX2_drag_80, eX2_drag_81, eX2_drag_84, eX2_drag_85, eX2_drag_86, eX2_drag_88, eX2_drag_90, eX2_drag_92, eX2_drag_94, eX2_drag_95, eX2_drag_96, eX2_drag_99, eX2_drag_102, eX2_drag_103, eX2_drag_106, eX2_drag_108, eX2_drag_110, eX2_drag_113, eX2_drag_115, eX2_drag_116, eX2_drag_118, eX2_drag_121, eX2_drag_123, eX2_drag_124, eX2_drag_125, eX2_drag_126, eX2_drag_129, eX2_drag_131, eX2_drag_134, eX2_drag_135, eX2_drag_138, eX2_drag_140, eX2_drag_142, eX2_drag_145, eX2_drag_147, eX2_drag_148, eX2_drag_151, eX2_drag_152, eX2_drag_155, eX2_drag_157, eX2_drag_160, eX2_drag_161, eX2_drag_164, eX2_drag_166, eX2_drag_169, eX2_drag_172, eX2_drag_175, eX2_drag_177, eX2_drag_178, eX2_drag_179, eX2_drag_182, eX2_drag_183, eX2_drag_185, eX2_drag_186, eX2_drag_189, eX2_drag_191, eX2_drag_192, eX2_drag_195, eX2_drag_197, eX2_drag_199, eX2_drag_201, eX2_drag_204, eX2_drag_205, eX2_drag_208, eX2_drag_210, eX2_drag_212, eX2_drag_214, eX2_drag_217, ox_O_s, ox_B_s, ox_g_t, ox_A_s, ox_push_s, ox_push_n, ox_some, ox_z0, ox_z1, iI_lt, iI_eq, iI_add, iI_sub, ig_at, if_true, if_false, if_pos, if_neg, f0, f1, f2, f3, f4, f5, f6, f7, f8, f9, f10, f11, f12, f13, f14, f15, hpl, hgl, hwi, hen, xlp, xlg, hwg, hdp, hka, hkp, hal, zb_f]
            · obtain ⟨c1, c2, c3, c4, c5, c6, c7⟩ := mA _ hM
              have c8 := mD _ hM
              obtain ⟨c9, c10⟩ := mP _ hM
              rw [nz_p ga] at c9
              have hm0 := (ma_facts hM).2.1
              have hmi := (ma_facts hM).2.2.2.2.2.2.2.2.2.2.2.1
              simp (disch := omega) only [eX3_drag_0, eX3_drag_1, eX3_drag_2, eX3_drag_5, eX3_drag_8, eX3_drag_9, eX3_drag_10, eX3_drag_13, eX3_drag_16, eX3_drag_17, eX3_drag_18, eX3_drag_19, eX3_drag_22, eX3_drag_25, eX3_drag_26, eX3_drag_27, eX3_drag_28, eX3_drag_29, eX3_drag_32, eX3_drag_34, eX3_drag_35, eX3_drag_37, eX3_drag_40, eX3_drag_42, eX3_drag_43, eX3_drag_44, eX3_drag_47, eX3_drag_49, eX3_drag_50, eX3_drag_52, eX3_drag_55, eX3_drag_56, eX3_drag_57, eX3_drag_60, eX3_drag_61, eX3_drag_64, eX3_drag_65, eX3_drag_66, eX3_drag_68, eX3_drag_70, eX3_drag_71, eX3_drag_73, eX3_drag_76, eX3_drag_77, eX3_drag_79, eX3_drag_81, eX3_drag_83, eX3_drag_85, eX3_drag_86, eX3_drag_87, eX3_drag_90, eX3_drag_93, eX3_drag_94, eX3_drag_96, eX3_drag_98, eX3_drag_100, eX3_drag_103, eX3_drag_106, eX3_drag_108, eX3_drag_109, eX3_drag_110, eX3_drag_111, eX3_drag_112, eX3_drag_115, eX3_drag_116, eX3_drag_118, eX3_drag_121, eX3_drag_124, eX3_drag_126, eX3_drag_127, eX3_drag_130, eX3_drag_132, eX3_drag_133, eX3_drag_134, eX3_drag_135, eX3_drag_138, eX3_drag_141, eX3_drag_143, eX3_drag_144, eX3_drag_145, eX3_drag_148, eX3_drag_149, eX3_drag_151, eX3_drag_153, eX3_drag_155, eX3_drag_158, eX3_drag_160, eX3_drag_162, eX3_drag_163, eX3_drag_165, eX3_drag_166, eX3_drag_170, eX3_drag_172, eX3_drag_175, eX3_drag_176, eX3_drag_179, eX3_drag_181, eX3_drag_182, eX3_drag_184, eX3_drag_186, eX3_drag_187, eX3_drag_190, eX3_drag_191, eX3_drag_194, eX3_drag_197, eX3_drag_199, eX3_drag_203, eX3_drag_204, eX3_drag_207, eX3_drag_210, eX3_drag_211, eX3_drag_214, eX3_drag_215, eX3_drag_217, eX3_drag_218, eX3_drag_220, eX3_drag_221, eX3_drag_222, eX3_drag_224, eX3_drag_227, eX3_drag_228, eX3_drag_231, eX3_drag_234, eX3_drag_235, eX3_drag_238, eX3_drag_239, eX3_drag_240, eX3_drag_241, eX3_drag_243, eX3_drag_244, eX3_drag_245, eX3_drag_246, eX3_drag_247, eX3_drag_250, eX3_drag_252, eX3_drag_253, eX3_drag_256, eX3_drag_258, eX3_drag_261, eX3_drag_262, eX3_drag_263, eX3_drag_266, eX3_drag_268, eX3_drag_269, eX3_drag_270, eX3_drag_273, eX3_drag_274, eX3_drag_276, eX3_drag_279, eX3_drag_281, eX3_drag_282, eX3_drag_285, eX3_drag_286, eX3_drag_287, eX3_drag_291, eX3_drag_293, eX3_drag_296, eX3_drag_297, eX3_drag_300, eX3_drag_301, eX3_drag_303, eX3_drag_304, eX3_drag_306, eX3_drag_307, eX3_drag_308, eX3_drag_310, eX3_drag_313, eX3_drag_314, eX3_drag_317, eX3_drag_320, eX3_drag_321, eX3_drag_325, eX3_drag_327, eX3_drag_330, eX3_drag_331, eX3_drag_334, eX3_drag_335, eX3_drag_337, eX3_drag_338, eX3_drag_340, eX3_drag_341, eX3_drag_342, eX3_drag_345, eX3_drag_347, eX3_drag_348, eX3_drag_349, eX3_drag_352, eX3_drag_355, eX3_drag_356, eX3_drag_359, eX3_drag_360, eX3_drag_361, eX3_drag_362, eX3_drag_364, eX3_drag_365, eX3_drag_366, eX3_drag_368, ox_O_s, ox_B_s, ox_g_t, ox_A_s, ox_push_s, ox_push_n, ox_some, ox_z0, ox_z1, iI_lt, iI_eq, iI_add, iI_sub, ig_at, if_true, if_false, if_pos, if_neg, mO, c1, c2, c3, c4, c5, c6, c7, c8, hm0, hmi, c9, ek, hin, hig]
          | true =>
            rw [ok] at hal
            simp only [ok, zb_t] at mP
            have hgp : g < p ∨ enX X p ≤ g := by omega
            obtain ⟨hbb, hE1⟩ := dr_end s1 p0 p1 ga gb hgp
            obtain ⟨h', A', e1, hC', hfr⟩ := k2_remember hC s1.1 s3.1 s3.2
            have hO' := hC'.2.2.1
            have hl' : h'.length = 140 := hC'.1
            rw [← hput_self hO'] at e1
            have hC2 := CS_now (X' := X) hC'
            obtain ⟨g0, g1, g2, g3, g4, g5, g6, g7, g8, g9, g10, g11, g12, g13, g14, g15⟩ := CS_facts hC2
            have hb5 : 5 + 10 < h'.length := by omega
            have hpf := k2_pfd hC2 s1 ga gb r.1 r.2
            have hsh := k2_shift s1 hb5 (b := (lvA X g - lvA X p + 1)) p0 (show p ≤ enX X p by omega) heb.2
            have hto : (dP v g (enX X g) ≤ p ∨ enX X p ≤ dP v g (enX X g)) ∧ 0 ≤ dP v g (enX X g) ∧ dP v g (enX X g) ≤ X.1 0 := by
              unfold dP
              split
              · omega
              · split <;> omega
            have hmv := k1_move (h := h') (o := 5) (X := slX X p (enX X p) (lvA X g - lvA X p + 1)) hb5 (s1.1 0 (by decide)) p0 (show p ≤ enX X p by omega) (show enX X p ≤ 30 by omega) hto.2.1 (show dP v g (enX X g) ≤ 30 by omega) hto.1
            have hC3 := CS_now (X' := slX X p (enX X p) (lvA X g - lvA X p + 1)) hC'
            obtain ⟨q0, q1, q2, q3, q4, q5, q6, q7, q8, q9, q10, q11, q12, q13, q14, q15⟩ := CS_facts hC3
            have hP : (if dP v g (enX X g) ≤ p then dP v g (enX X g) else dP v g (enX X g) - (enX X p - p)) = dP v (if g < p then g else g - (enX X p - p)) (enX (cuX X p (enX X p)) (if g < p then g else g - (enX X p - p))) := by
              rw [hE1]
              unfold dP
              by_cases w0 : v = 0
              · rw [if_pos w0, if_pos w0]
                by_cases c : g < p
                · rw [if_pos c, if_pos (by omega)]
                · rw [if_neg c, if_neg (by omega)]
              · rw [if_neg w0, if_neg w0]
                by_cases w2 : v = 2
                · rw [if_pos w2, if_pos w2]
                  by_cases c : g < p
                  · rw [if_pos c, if_pos (by omega)]
                  · rw [if_neg c, if_neg (by omega)]; omega
                · rw [if_neg w2, if_neg w2]
            generalize hPe : (if dP v g (enX X g) ≤ p then dP v g (enX X g) else dP v g (enX X g) - (enX X p - p)) = P at hmv hP
            have e0 := (paN_k Y).2.2.1 0 (by decide)
            have e4 := (paN_k Y).2.2.1 4 (by decide)
            have es : oset (paN Y) 0 (Y.2 0) = paN Y := by rw [← e0]; exact os_self
            have hb6 : 133 + 6 < (hput h' 5 (oset (slX X p (enX X p) (lvA X g - lvA X p + 1)) 0 (if dP v g (enX X g) ≤ p then swX (dP v g (enX X g)) p (enX X p) ((slX X p (enX X p) (lvA X g - lvA X p + 1)).2 0) else swX p (enX X p) (dP v g (enX X g)) ((slX X p (enX X p) (lvA X g - lvA X p + 1)).2 0)))).length := by rw [gp_len]; omega
            obtain ⟨w0, x1, x2⟩ := k3_shiftLevels (Y := paN Y) s1 hb6 s2 (b := (lvA X g + 1 - lvA X p)) p0 (show p ≤ enX X p by omega) heb.2
            rw [es] at x1
            have x2' := x2
            rw [eb] at x2'
            obtain ⟨pt, w', t1, t2, t3, t4, t5, t6, t7⟩ := k3_dr_tail (Y := paN Y) hb6 s1 s2 p0 p1 ga gb hgp r.1 r.2 x2' (by rw [e4]; exact hR.2.2.2.2.2.2.2.2.2.2.2.2.2.1) P hP (.int (iI (ig (X.2 0) p))) (.int (iI g)) (.int (iI (lvA X g + 1))) (.int (iI (lvA X g + 1 - lvA X p)))
            have hl0 : (X.2 0).length = 30 := s1.1 0 (by decide)
            have hod : ∀ q, 0 ≤ q → q < X.1 0 → ig (if dP v g (enX X g) ≤ p then swX (dP v g (enX X g)) p (enX X p) ((slX X p (enX X p) (lvA X g - lvA X p + 1)).2 0) else swX p (enX X p) (dP v g (enX X g)) ((slX X p (enX X p) (lvA X g - lvA X p + 1)).2 0)) q = ig (X.2 0) (dS p (enX X p - p) P q) := fun q a c => by
              rw [← hPe]
              exact dr_mv hl0 p0 (show p ≤ enX X p by omega) heb.2 hn.2 hto.2.1 hto.2.2 hto.1 a c
            have hV1 := vx_cut s1 p0 (show p < enX X p by omega) heb.2 (fun c => en_end s1 p0 p1 c)
            have n1 : (cuX X p (enX X p)).1 0 = X.1 0 - (enX X p - p) := rfl
            have hg' : 0 ≤ (if g < p then g else g - (enX X p - p)) ∧ (if g < p then g else g - (enX X p - p)) < X.1 0 - (enX X p - p) := by split <;> omega
            have hsg : cuS' p (enX X p - p) (if g < p then g else g - (enX X p - p)) = g := by
              unfold cuS'
              by_cases c : g < p
              · rw [if_pos c, if_pos c]
              · rw [if_neg c, if_neg (by omega)]; omega
            have hlg1 : lvA (cuX X p (enX X p)) (if g < p then g else g - (enX X p - p)) = lvA X g := by rw [cut_lvA s1 p0 (by omega) heb.2 hg'.1 hg'.2, hsg]
            have hH : lvA X g + 1 ≤ lvA (cuX X p (enX X p)) (P - 1) + 1 ∧ lvA (cuX X p (enX X p)) P ≤ lvA X g + 1 + 1 := by
              clear hsg
              rw [hP]
              generalize (if g < p then g else g - (enX X p - p)) = g' at hg' hlg1
              have hb1 := enX_b (X := cuX X p (enX X p)) (p := g') (by rw [n1]; exact hg'.2)
              rw [n1] at hb1
              unfold dP
              rw [if_neg (by omega)]
              by_cases w2 : v = 2
              · rw [if_pos w2, show g' + 1 - 1 = g' by omega, hlg1]
                refine ⟨by omega, ?_⟩
                by_cases c : g' + 1 < X.1 0 - (enX X p - p)
                · have := lv_step hV1 (r := g') hg'.1 (by rw [n1]; exact c)
                  omega
                · rw [cut_out (by omega)]
                  omega
              · rw [if_neg w2]
                have h1 := en_lv hV1 hg'.1 (q := enX (cuX X p (enX X p)) g' - 1) (by omega) (by omega)
                rw [hlg1] at h1
                refine ⟨by omega, ?_⟩
                by_cases c : enX (cuX X p (enX X p)) g' < X.1 0 - (enX X p - p)
                · have h2 := en_end hV1 hg'.1 (by rw [n1]; exact hg'.2) (by rw [n1]; exact c)
                  omega
                · rw [cut_out (q := enX (cuX X p (enX X p)) g') (by omega)]
                  omega
            refine ST_chg4 (h1 := hput h' 5 (oset (slX X p (enX X p) (lvA X g - lvA X p + 1)) 0 (if dP v g (enX X g) ≤ p then swX (dP v g (enX X g)) p (enX X p) ((slX X p (enX X p) (lvA X g - lvA X p + 1)).2 0) else swX p (enX X p) (dP v g (enX X g)) ((slX X p (enX X p) (lvA X g - lvA X p + 1)).2 0)))) (v := iI P) h0 hM hR ?_ (CS_now hC') (fun a ha => by rw [gp_out (by omega)]; exact hfr a ha) (w' := w') (pt := pt) ?_ t2 (vx_drag s1 p0 p1 (by split <;> rw [swX_len] <;> exact hl0) t3.1 t3.2 hod (fun q a c => ?_) (by omega) (by omega)) (rel_drag s1 s2 p0 p1 t3.1 t3.2 hod x2' t4 t5 t6 t7)
            · simp (disch := omega) only [eX2_drag_0, eX2_drag_1, eX2_drag_4, eX2_drag_5, eX2_drag_8, eX2_drag_10, eX2_drag_11, eX2_drag_14, eX2_drag_15, eX2_drag_18, eX2_drag_20, eX2_drag_22, eX2_drag_25, eX2_drag_27, eX2_drag_30, eX2_drag_31, eX2_drag_32, eX2_drag_33, eX2_drag_36, eX2_drag_39, eX2_drag_40, eX2_drag_41, eX2_drag_42, eX2_drag_45, eX2_drag_47, eX2_drag_50, eX2_drag_52, eX2_drag_53, eX2_drag_56, eX2_drag_58, eX2_drag_61, eX2_drag_63, eX2_drag_65, eX2_drag_66, eX2_drag_69, eX2_drag_71, eX2_drag_74, eX2_drag_75, eX2_drag_76, eX2_drag_77, eX2_drag_80, eX2_drag_81, eX2_drag_84, eX2_drag_85, eX2_drag_86, eX2_drag_88, eX2_drag_90, eX2_drag_92, eX2_drag_94, eX2_drag_95, eX2_drag_96, eX2_drag_99, eX2_drag_102, eX2_drag_103, eX2_drag_106, eX2_drag_108, eX2_drag_110, eX2_drag_113, eX2_drag_115, eX2_drag_116, eX2_drag_118, eX2_drag_121, eX2_drag_123, eX2_drag_124, eX2_drag_125, eX2_drag_126, eX2_drag_129, eX2_drag_131, eX2_drag_134, eX2_drag_135, eX2_drag_138, eX2_drag_140, eX2_drag_142, eX2_drag_145, eX2_drag_147, eX2_drag_148, eX2_drag_151, eX2_drag_152, eX2_drag_155, eX2_drag_157, eX2_drag_160, eX2_drag_161, eX2_drag_164, eX2_drag_166, eX2_drag_169, eX2_drag_172, eX2_drag_175, eX2_drag_177, eX2_drag_178, eX2_drag_179, eX2_drag_182, eX2_drag_183, eX2_drag_185, eX2_drag_186, eX2_drag_189, eX2_drag_191, eX2_drag_192, eX2_drag_195, eX2_drag_197, eX2_drag_199, eX2_drag_201, eX2_drag_204, eX2_drag_205, eX2_drag_208, eX2_drag_210, eX2_drag_212, eX2_drag_214, eX2_drag_217, ox_O_s, ox_B_s, ox_g_t, ox_A_s, ox_push_s, ox_push_n, ox_some, ox_z0, ox_z1, iI_lt, iI_eq, iI_add, iI_sub, ig_at, if_true, if_false, if_pos, if_neg, f0, f1, f2, f3, f4, f5, f6, f7, f8, f9, f10, f11, f12, f13, f14, f15, hpl, hgl, hwi, hen, xlp, xlg, hwg, hdp, hka, hkp, hal, zb_t, e1, g0, g1, g2, g3, g4, g5, g6, g7, g8, g9, g10, g11, g12, g13, g14, g15, hpf, hsh, q0, q1, q11, hmv]
            · obtain ⟨c1, c2, c3, c4, c5, c6, c7⟩ := mA _ (ma_put (X := Y) hb6)
              have c8 := mD _ (ma_put (X := Y) hb6)
              obtain ⟨c9, c10⟩ := mP _ (ma_put (X := Y) hb6)
              rw [nz_p ga] at c9
              have hr := k3_remember hb6 hw s5 (by omega) (by omega)
              simp (maxSteps := 1000000) (disch := omega) only [eX3_drag_0, eX3_drag_1, eX3_drag_2, eX3_drag_5, eX3_drag_8, eX3_drag_9, eX3_drag_10, eX3_drag_13, eX3_drag_16, eX3_drag_17, eX3_drag_18, eX3_drag_19, eX3_drag_22, eX3_drag_25, eX3_drag_26, eX3_drag_27, eX3_drag_28, eX3_drag_29, eX3_drag_32, eX3_drag_34, eX3_drag_35, eX3_drag_37, eX3_drag_40, eX3_drag_42, eX3_drag_43, eX3_drag_44, eX3_drag_47, eX3_drag_49, eX3_drag_50, eX3_drag_52, eX3_drag_55, eX3_drag_56, eX3_drag_57, eX3_drag_60, eX3_drag_61, eX3_drag_64, eX3_drag_65, eX3_drag_66, eX3_drag_68, eX3_drag_70, eX3_drag_71, eX3_drag_73, eX3_drag_76, eX3_drag_77, eX3_drag_79, eX3_drag_81, eX3_drag_83, eX3_drag_85, eX3_drag_86, eX3_drag_87, eX3_drag_90, eX3_drag_93, eX3_drag_94, eX3_drag_96, eX3_drag_98, eX3_drag_100, eX3_drag_103, eX3_drag_106, eX3_drag_108, eX3_drag_109, eX3_drag_110, eX3_drag_111, eX3_drag_112, eX3_drag_115, eX3_drag_116, eX3_drag_118, eX3_drag_121, eX3_drag_124, eX3_drag_126, eX3_drag_127, eX3_drag_130, eX3_drag_132, eX3_drag_133, eX3_drag_134, eX3_drag_135, eX3_drag_138, eX3_drag_141, eX3_drag_143, eX3_drag_144, eX3_drag_145, eX3_drag_148, eX3_drag_149, eX3_drag_151, eX3_drag_153, eX3_drag_155, ox_O_s, ox_B_s, ox_g_t, ox_A_s, ox_push_s, ox_push_n, ox_some, ox_z0, ox_z1, iI_lt, iI_eq, iI_add, iI_sub, ig_at, if_true, if_false, if_pos, if_neg, mp_obj, mp_f0, mp_i0, c1, c2, c3, c4, c5, c6, c7, c8, c9, ek, hin, hig, hr, x1]
              exact t1
            · have h1 := dp_le s1 (b := (lvA X g - lvA X p + 1)) p0 (show p ≤ enX X p by omega) heb.2 dp a c
              have h2 := en_lv s1 p0 a c
              omega
    · have hgl := k1_placeOf0 b3 s1 y0 y1 hy
      have hhg := k3_isHeading0 hM s2 s1 y0 y1 hy
      refine ST_same (v := iI (-1)) hS ?_ ?_
      · simp (disch := omega) only [eX2_drag_0, eX2_drag_1, eX2_drag_4, eX2_drag_5, eX2_drag_8, eX2_drag_10, eX2_drag_11, eX2_drag_14, eX2_drag_15, eX2_drag_18, eX2_drag_20, eX2_drag_22, eX2_drag_25, eX2_drag_27, eX2_drag_30, eX2_drag_31, eX2_drag_32, eX2_drag_33, eX2_drag_36, eX2_drag_39, eX2_drag_40, eX2_drag_41, eX2_drag_42, eX2_drag_45, eX2_drag_47, eX2_drag_50, eX2_drag_52, eX2_drag_53, eX2_drag_56, eX2_drag_58, eX2_drag_61, eX2_drag_63, eX2_drag_65, eX2_drag_66, eX2_drag_69, eX2_drag_71, eX2_drag_74, eX2_drag_75, eX2_drag_76, eX2_drag_77, eX2_drag_80, eX2_drag_81, eX2_drag_84, eX2_drag_85, eX2_drag_86, eX2_drag_88, eX2_drag_90, eX2_drag_92, eX2_drag_94, eX2_drag_95, eX2_drag_96, eX2_drag_99, eX2_drag_102, eX2_drag_103, eX2_drag_106, eX2_drag_108, eX2_drag_110, eX2_drag_113, eX2_drag_115, eX2_drag_116, eX2_drag_118, eX2_drag_121, eX2_drag_123, eX2_drag_124, eX2_drag_125, eX2_drag_126, eX2_drag_129, eX2_drag_131, eX2_drag_134, eX2_drag_135, eX2_drag_138, eX2_drag_140, eX2_drag_142, eX2_drag_145, eX2_drag_147, eX2_drag_148, eX2_drag_151, eX2_drag_152, eX2_drag_155, eX2_drag_157, eX2_drag_160, eX2_drag_161, eX2_drag_164, eX2_drag_166, eX2_drag_169, eX2_drag_172, eX2_drag_175, eX2_drag_177, eX2_drag_178, eX2_drag_179, eX2_drag_182, eX2_drag_183, eX2_drag_185, eX2_drag_186, eX2_drag_189, eX2_drag_191, eX2_drag_192, eX2_drag_195, eX2_drag_197, eX2_drag_199, eX2_drag_201, eX2_drag_204, eX2_drag_205, eX2_drag_208, eX2_drag_210, eX2_drag_212, eX2_drag_214, eX2_drag_217, ox_O_s, ox_B_s, ox_g_t, ox_A_s, ox_push_s, ox_push_n, ox_some, ox_z0, ox_z1, iI_lt, iI_eq, iI_add, iI_sub, ig_at, if_true, if_false, if_pos, if_neg, f0, f1, f2, f3, f4, f5, f6, f7, f8, f9, f10, f11, f12, f13, f14, f15, hpl, hgl]
      · simp (disch := omega) only [eX3_drag_0, eX3_drag_1, eX3_drag_2, eX3_drag_5, eX3_drag_8, eX3_drag_9, eX3_drag_10, eX3_drag_13, eX3_drag_16, eX3_drag_17, eX3_drag_18, eX3_drag_19, eX3_drag_22, eX3_drag_25, eX3_drag_26, eX3_drag_27, eX3_drag_28, eX3_drag_29, eX3_drag_32, eX3_drag_34, eX3_drag_35, eX3_drag_37, eX3_drag_40, eX3_drag_42, eX3_drag_43, eX3_drag_44, eX3_drag_47, eX3_drag_49, eX3_drag_50, eX3_drag_52, eX3_drag_55, eX3_drag_56, eX3_drag_57, eX3_drag_60, eX3_drag_61, eX3_drag_64, eX3_drag_65, eX3_drag_66, eX3_drag_68, eX3_drag_70, eX3_drag_71, eX3_drag_73, eX3_drag_76, eX3_drag_77, eX3_drag_79, eX3_drag_81, eX3_drag_83, eX3_drag_85, eX3_drag_86, eX3_drag_87, eX3_drag_90, eX3_drag_93, eX3_drag_94, eX3_drag_96, eX3_drag_98, eX3_drag_100, eX3_drag_103, eX3_drag_106, eX3_drag_108, eX3_drag_109, eX3_drag_110, eX3_drag_111, eX3_drag_112, eX3_drag_115, eX3_drag_116, eX3_drag_118, eX3_drag_121, eX3_drag_124, eX3_drag_126, eX3_drag_127, eX3_drag_130, eX3_drag_132, eX3_drag_133, eX3_drag_134, eX3_drag_135, eX3_drag_138, eX3_drag_141, eX3_drag_143, eX3_drag_144, eX3_drag_145, eX3_drag_148, eX3_drag_149, eX3_drag_151, eX3_drag_153, eX3_drag_155, eX3_drag_158, eX3_drag_160, eX3_drag_162, eX3_drag_163, eX3_drag_165, eX3_drag_166, eX3_drag_170, eX3_drag_172, eX3_drag_175, eX3_drag_176, eX3_drag_179, eX3_drag_181, eX3_drag_182, eX3_drag_184, eX3_drag_186, eX3_drag_187, eX3_drag_190, eX3_drag_191, eX3_drag_194, eX3_drag_197, eX3_drag_199, eX3_drag_203, eX3_drag_204, eX3_drag_207, eX3_drag_210, eX3_drag_211, eX3_drag_214, eX3_drag_215, eX3_drag_217, eX3_drag_218, eX3_drag_220, eX3_drag_221, eX3_drag_222, eX3_drag_224, eX3_drag_227, eX3_drag_228, eX3_drag_231, eX3_drag_234, eX3_drag_235, eX3_drag_238, eX3_drag_239, eX3_drag_240, eX3_drag_241, eX3_drag_243, eX3_drag_244, eX3_drag_245, eX3_drag_246, eX3_drag_247, eX3_drag_250, eX3_drag_252, eX3_drag_253, eX3_drag_256, eX3_drag_258, eX3_drag_261, eX3_drag_262, eX3_drag_263, eX3_drag_266, eX3_drag_268, eX3_drag_269, eX3_drag_270, eX3_drag_273, eX3_drag_274, eX3_drag_276, eX3_drag_279, eX3_drag_281, eX3_drag_282, eX3_drag_285, eX3_drag_286, eX3_drag_287, eX3_drag_291, eX3_drag_293, eX3_drag_296, eX3_drag_297, eX3_drag_300, eX3_drag_301, eX3_drag_303, eX3_drag_304, eX3_drag_306, eX3_drag_307, eX3_drag_308, eX3_drag_310, eX3_drag_313, eX3_drag_314, eX3_drag_317, eX3_drag_320, eX3_drag_321, eX3_drag_325, eX3_drag_327, eX3_drag_330, eX3_drag_331, eX3_drag_334, eX3_drag_335, eX3_drag_337, eX3_drag_338, eX3_drag_340, eX3_drag_341, eX3_drag_342, eX3_drag_345, eX3_drag_347, eX3_drag_348, eX3_drag_349, eX3_drag_352, eX3_drag_355, eX3_drag_356, eX3_drag_359, eX3_drag_360, eX3_drag_361, eX3_drag_362, eX3_drag_364, eX3_drag_365, eX3_drag_366, eX3_drag_368, ox_O_s, ox_B_s, ox_g_t, ox_A_s, ox_push_s, ox_push_n, ox_some, ox_z0, ox_z1, iI_lt, iI_eq, iI_add, iI_sub, ig_at, if_true, if_false, if_pos, if_neg, mO, hhd, hhg]
  · have hpl := k1_placeOf0 b3 s1 z0 z1 hz
    have hhd := k3_isHeading0 hM s2 s1 z0 z1 hz
    refine ST_same (v := iI (-1)) hS ?_ ?_
    · rcases ol_find X y with ⟨g, ga, gb, rfl⟩ | hy
      · have hgl := k1_placeOf1 b3 s1 ga gb
        simp (disch := omega) only [eX2_drag_0, eX2_drag_1, eX2_drag_4, eX2_drag_5, eX2_drag_8, eX2_drag_10, eX2_drag_11, eX2_drag_14, eX2_drag_15, eX2_drag_18, eX2_drag_20, eX2_drag_22, eX2_drag_25, eX2_drag_27, eX2_drag_30, eX2_drag_31, eX2_drag_32, eX2_drag_33, eX2_drag_36, eX2_drag_39, eX2_drag_40, eX2_drag_41, eX2_drag_42, eX2_drag_45, eX2_drag_47, eX2_drag_50, eX2_drag_52, eX2_drag_53, eX2_drag_56, eX2_drag_58, eX2_drag_61, eX2_drag_63, eX2_drag_65, eX2_drag_66, eX2_drag_69, eX2_drag_71, eX2_drag_74, eX2_drag_75, eX2_drag_76, eX2_drag_77, eX2_drag_80, eX2_drag_81, eX2_drag_84, eX2_drag_85, eX2_drag_86, eX2_drag_88, eX2_drag_90, eX2_drag_92, eX2_drag_94, eX2_drag_95, eX2_drag_96, eX2_drag_99, eX2_drag_102, eX2_drag_103, eX2_drag_106, eX2_drag_108, eX2_drag_110, eX2_drag_113, eX2_drag_115, eX2_drag_116, eX2_drag_118, eX2_drag_121, eX2_drag_123, eX2_drag_124, eX2_drag_125, eX2_drag_126, eX2_drag_129, eX2_drag_131, eX2_drag_134, eX2_drag_135, eX2_drag_138, eX2_drag_140, eX2_drag_142, eX2_drag_145, eX2_drag_147, eX2_drag_148, eX2_drag_151, eX2_drag_152, eX2_drag_155, eX2_drag_157, eX2_drag_160, eX2_drag_161, eX2_drag_164, eX2_drag_166, eX2_drag_169, eX2_drag_172, eX2_drag_175, eX2_drag_177, eX2_drag_178, eX2_drag_179, eX2_drag_182, eX2_drag_183, eX2_drag_185, eX2_drag_186, eX2_drag_189, eX2_drag_191, eX2_drag_192, eX2_drag_195, eX2_drag_197, eX2_drag_199, eX2_drag_201, eX2_drag_204, eX2_drag_205, eX2_drag_208, eX2_drag_210, eX2_drag_212, eX2_drag_214, eX2_drag_217, ox_O_s, ox_B_s, ox_g_t, ox_A_s, ox_push_s, ox_push_n, ox_some, ox_z0, ox_z1, iI_lt, iI_eq, iI_add, iI_sub, ig_at, if_true, if_false, if_pos, if_neg, f0, f1, f2, f3, f4, f5, f6, f7, f8, f9, f10, f11, f12, f13, f14, f15, hpl, hgl]
      · have hgl := k1_placeOf0 b3 s1 y0 y1 hy
        simp (disch := omega) only [eX2_drag_0, eX2_drag_1, eX2_drag_4, eX2_drag_5, eX2_drag_8, eX2_drag_10, eX2_drag_11, eX2_drag_14, eX2_drag_15, eX2_drag_18, eX2_drag_20, eX2_drag_22, eX2_drag_25, eX2_drag_27, eX2_drag_30, eX2_drag_31, eX2_drag_32, eX2_drag_33, eX2_drag_36, eX2_drag_39, eX2_drag_40, eX2_drag_41, eX2_drag_42, eX2_drag_45, eX2_drag_47, eX2_drag_50, eX2_drag_52, eX2_drag_53, eX2_drag_56, eX2_drag_58, eX2_drag_61, eX2_drag_63, eX2_drag_65, eX2_drag_66, eX2_drag_69, eX2_drag_71, eX2_drag_74, eX2_drag_75, eX2_drag_76, eX2_drag_77, eX2_drag_80, eX2_drag_81, eX2_drag_84, eX2_drag_85, eX2_drag_86, eX2_drag_88, eX2_drag_90, eX2_drag_92, eX2_drag_94, eX2_drag_95, eX2_drag_96, eX2_drag_99, eX2_drag_102, eX2_drag_103, eX2_drag_106, eX2_drag_108, eX2_drag_110, eX2_drag_113, eX2_drag_115, eX2_drag_116, eX2_drag_118, eX2_drag_121, eX2_drag_123, eX2_drag_124, eX2_drag_125, eX2_drag_126, eX2_drag_129, eX2_drag_131, eX2_drag_134, eX2_drag_135, eX2_drag_138, eX2_drag_140, eX2_drag_142, eX2_drag_145, eX2_drag_147, eX2_drag_148, eX2_drag_151, eX2_drag_152, eX2_drag_155, eX2_drag_157, eX2_drag_160, eX2_drag_161, eX2_drag_164, eX2_drag_166, eX2_drag_169, eX2_drag_172, eX2_drag_175, eX2_drag_177, eX2_drag_178, eX2_drag_179, eX2_drag_182, eX2_drag_183, eX2_drag_185, eX2_drag_186, eX2_drag_189, eX2_drag_191, eX2_drag_192, eX2_drag_195, eX2_drag_197, eX2_drag_199, eX2_drag_201, eX2_drag_204, eX2_drag_205, eX2_drag_208, eX2_drag_210, eX2_drag_212, eX2_drag_214, eX2_drag_217, ox_O_s, ox_B_s, ox_g_t, ox_A_s, ox_push_s, ox_push_n, ox_some, ox_z0, ox_z1, iI_lt, iI_eq, iI_add, iI_sub, ig_at, if_true, if_false, if_pos, if_neg, f0, f1, f2, f3, f4, f5, f6, f7, f8, f9, f10, f11, f12, f13, f14, f15, hpl, hgl]
    · simp (disch := omega) only [eX3_drag_0, eX3_drag_1, eX3_drag_2, eX3_drag_5, eX3_drag_8, eX3_drag_9, eX3_drag_10, eX3_drag_13, eX3_drag_16, eX3_drag_17, eX3_drag_18, eX3_drag_19, eX3_drag_22, eX3_drag_25, eX3_drag_26, eX3_drag_27, eX3_drag_28, eX3_drag_29, eX3_drag_32, eX3_drag_34, eX3_drag_35, eX3_drag_37, eX3_drag_40, eX3_drag_42, eX3_drag_43, eX3_drag_44, eX3_drag_47, eX3_drag_49, eX3_drag_50, eX3_drag_52, eX3_drag_55, eX3_drag_56, eX3_drag_57, eX3_drag_60, eX3_drag_61, eX3_drag_64, eX3_drag_65, eX3_drag_66, eX3_drag_68, eX3_drag_70, eX3_drag_71, eX3_drag_73, eX3_drag_76, eX3_drag_77, eX3_drag_79, eX3_drag_81, eX3_drag_83, eX3_drag_85, eX3_drag_86, eX3_drag_87, eX3_drag_90, eX3_drag_93, eX3_drag_94, eX3_drag_96, eX3_drag_98, eX3_drag_100, eX3_drag_103, eX3_drag_106, eX3_drag_108, eX3_drag_109, eX3_drag_110, eX3_drag_111, eX3_drag_112, eX3_drag_115, eX3_drag_116, eX3_drag_118, eX3_drag_121, eX3_drag_124, eX3_drag_126, eX3_drag_127, eX3_drag_130, eX3_drag_132, eX3_drag_133, eX3_drag_134, eX3_drag_135, eX3_drag_138, eX3_drag_141, eX3_drag_143, eX3_drag_144, eX3_drag_145, eX3_drag_148, eX3_drag_149, eX3_drag_151, eX3_drag_153, eX3_drag_155, eX3_drag_158, eX3_drag_160, eX3_drag_162, eX3_drag_163, eX3_drag_165, eX3_drag_166, eX3_drag_170, eX3_drag_172, eX3_drag_175, eX3_drag_176, eX3_drag_179, eX3_drag_181, eX3_drag_182, eX3_drag_184, eX3_drag_186, eX3_drag_187, eX3_drag_190, eX3_drag_191, eX3_drag_194, eX3_drag_197, eX3_drag_199, eX3_drag_203, eX3_drag_204, eX3_drag_207, eX3_drag_210, eX3_drag_211, eX3_drag_214, eX3_drag_215, eX3_drag_217, eX3_drag_218, eX3_drag_220, eX3_drag_221, eX3_drag_222, eX3_drag_224, eX3_drag_227, eX3_drag_228, eX3_drag_231, eX3_drag_234, eX3_drag_235, eX3_drag_238, eX3_drag_239, eX3_drag_240, eX3_drag_241, eX3_drag_243, eX3_drag_244, eX3_drag_245, eX3_drag_246, eX3_drag_247, eX3_drag_250, eX3_drag_252, eX3_drag_253, eX3_drag_256, eX3_drag_258, eX3_drag_261, eX3_drag_262, eX3_drag_263, eX3_drag_266, eX3_drag_268, eX3_drag_269, eX3_drag_270, eX3_drag_273, eX3_drag_274, eX3_drag_276, eX3_drag_279, eX3_drag_281, eX3_drag_282, eX3_drag_285, eX3_drag_286, eX3_drag_287, eX3_drag_291, eX3_drag_293, eX3_drag_296, eX3_drag_297, eX3_drag_300, eX3_drag_301, eX3_drag_303, eX3_drag_304, eX3_drag_306, eX3_drag_307, eX3_drag_308, eX3_drag_310, eX3_drag_313, eX3_drag_314, eX3_drag_317, eX3_drag_320, eX3_drag_321, eX3_drag_325, eX3_drag_327, eX3_drag_330, eX3_drag_331, eX3_drag_334, eX3_drag_335, eX3_drag_337, eX3_drag_338, eX3_drag_340, eX3_drag_341, eX3_drag_342, eX3_drag_345, eX3_drag_347, eX3_drag_348, eX3_drag_349, eX3_drag_352, eX3_drag_355, eX3_drag_356, eX3_drag_359, eX3_drag_360, eX3_drag_361, eX3_drag_362, eX3_drag_364, eX3_drag_365, eX3_drag_366, eX3_drag_368, ox_O_s, ox_B_s, ox_g_t, ox_A_s, ox_push_s, ox_push_n, ox_some, ox_z0, ox_z1, iI_lt, iI_eq, iI_add, iI_sub, ig_at, if_true, if_false, if_pos, if_neg, mO, hhd]
theorem st_drag {xs : List Int32} {h : ox_H} (hS : Sm xs h) (a b d : Int32) : ST xs h (fun h => oe 51 0 [.ref 4, .int a, .int b, .int d, .null, .null, .null, .null, .null, .null, .null] [] h) (fun h => oe 107 0 [.ref 133, .int a, .int b, .int d, .null, .null, .null, .null, .null, .null, .null, .null, .null] [] h) := by
  obtain ⟨v, rfl, v0, v1⟩ := iI_ex d
  by_cases r : 0 ≤ v ∧ v ≤ 3
  · by_cases hv : v < 2
    · exact st_dr0 hS a b r hv
    · exact st_dr1 hS a b r hv
  · revert r
    obtain ⟨X, c, A, H, I, K, T, U, Y, h0, hC, hM, hR⟩ := sm_parts hS
    obtain ⟨s1, s2, s3, s4, s5, -⟩ := id hR
    obtain ⟨b1, b2, b3, -⟩ := id hC
    have hw : (Y.2 0).length = 218 := s2.1
    obtain ⟨f0, f1, f2, f3, f4, f5, f6, f7, f8, f9, f10, f11, f12, f13, f14, f15⟩ := CS_facts hC
    have mO := (ma_facts hM).1
    intro r
    obtain ⟨z, rfl, z0, z1⟩ := iI_ex a
    obtain ⟨y, rfl, y0, y1⟩ := iI_ex b
    have hn := s1.2.1
    have hwi := k2_within (h := h) (a := v) (b := 0) (c := 3) v0 v1 (by omega) (by omega) (by omega) (by omega)
    have hin := fun h' : ox_H => k3_isIn (h := h') (a := v) (b := 0) (c := 3) v0 v1 (by omega) (by omega) (by omega) (by omega)
    simp only [decide_eq_false r, zb_f] at hwi hin
    refine ST_same (v := iI (-1)) hS ?_ ?_
    · rcases ol_find X z with ⟨p, p0, p1, rfl⟩ | hz
      · have hpl := k1_placeOf1 b3 s1 p0 p1
        rcases ol_find X y with ⟨g, g0, g1, rfl⟩ | hy
        · have hgl := k1_placeOf1 b3 s1 g0 g1
          simp (disch := omega) only [eX2_drag_0, eX2_drag_1, eX2_drag_4, eX2_drag_5, eX2_drag_8, eX2_drag_10, eX2_drag_11, eX2_drag_14, eX2_drag_15, eX2_drag_18, eX2_drag_20, eX2_drag_22, eX2_drag_25, eX2_drag_27, eX2_drag_30, eX2_drag_31, eX2_drag_32, eX2_drag_33, eX2_drag_36, eX2_drag_39, eX2_drag_40, eX2_drag_41, eX2_drag_42, eX2_drag_45, eX2_drag_47, eX2_drag_50, eX2_drag_52, eX2_drag_53, eX2_drag_56, eX2_drag_58, eX2_drag_61, eX2_drag_63, eX2_drag_65, eX2_drag_66, eX2_drag_69, eX2_drag_71, eX2_drag_74, eX2_drag_75, eX2_drag_76, eX2_drag_77, eX2_drag_80, eX2_drag_81, eX2_drag_84, eX2_drag_85, eX2_drag_86, eX2_drag_88, eX2_drag_90, eX2_drag_92, eX2_drag_94, eX2_drag_95, eX2_drag_96, eX2_drag_99, eX2_drag_102, eX2_drag_103, eX2_drag_106, eX2_drag_108, eX2_drag_110, eX2_drag_113, eX2_drag_115, eX2_drag_116, eX2_drag_118, eX2_drag_121, eX2_drag_123, eX2_drag_124, eX2_drag_125, eX2_drag_126, eX2_drag_129, eX2_drag_131, eX2_drag_134, eX2_drag_135, eX2_drag_138, eX2_drag_140, eX2_drag_142, eX2_drag_145, eX2_drag_147, eX2_drag_148, eX2_drag_151, eX2_drag_152, eX2_drag_155, eX2_drag_157, eX2_drag_160, eX2_drag_161, eX2_drag_164, eX2_drag_166, eX2_drag_169, eX2_drag_172, eX2_drag_175, eX2_drag_177, eX2_drag_178, eX2_drag_179, eX2_drag_182, eX2_drag_183, eX2_drag_185, eX2_drag_186, eX2_drag_189, eX2_drag_191, eX2_drag_192, eX2_drag_195, eX2_drag_197, eX2_drag_199, eX2_drag_201, eX2_drag_204, eX2_drag_205, eX2_drag_208, eX2_drag_210, eX2_drag_212, eX2_drag_214, eX2_drag_217, ox_O_s, ox_B_s, ox_g_t, ox_A_s, ox_push_s, ox_push_n, ox_some, ox_z0, ox_z1, iI_lt, iI_eq, iI_add, iI_sub, ig_at, if_true, if_false, if_pos, if_neg, f0, f1, f2, f3, f4, f5, f6, f7, f8, f9, f10, f11, f12, f13, f14, f15, hpl, hgl, hwi]
        · have hgl := k1_placeOf0 b3 s1 y0 y1 hy
          simp (disch := omega) only [eX2_drag_0, eX2_drag_1, eX2_drag_4, eX2_drag_5, eX2_drag_8, eX2_drag_10, eX2_drag_11, eX2_drag_14, eX2_drag_15, eX2_drag_18, eX2_drag_20, eX2_drag_22, eX2_drag_25, eX2_drag_27, eX2_drag_30, eX2_drag_31, eX2_drag_32, eX2_drag_33, eX2_drag_36, eX2_drag_39, eX2_drag_40, eX2_drag_41, eX2_drag_42, eX2_drag_45, eX2_drag_47, eX2_drag_50, eX2_drag_52, eX2_drag_53, eX2_drag_56, eX2_drag_58, eX2_drag_61, eX2_drag_63, eX2_drag_65, eX2_drag_66, eX2_drag_69, eX2_drag_71, eX2_drag_74, eX2_drag_75, eX2_drag_76, eX2_drag_77, eX2_drag_80, eX2_drag_81, eX2_drag_84, eX2_drag_85, eX2_drag_86, eX2_drag_88, eX2_drag_90, eX2_drag_92, eX2_drag_94, eX2_drag_95, eX2_drag_96, eX2_drag_99, eX2_drag_102, eX2_drag_103, eX2_drag_106, eX2_drag_108, eX2_drag_110, eX2_drag_113, eX2_drag_115, eX2_drag_116, eX2_drag_118, eX2_drag_121, eX2_drag_123, eX2_drag_124, eX2_drag_125, eX2_drag_126, eX2_drag_129, eX2_drag_131, eX2_drag_134, eX2_drag_135, eX2_drag_138, eX2_drag_140, eX2_drag_142, eX2_drag_145, eX2_drag_147, eX2_drag_148, eX2_drag_151, eX2_drag_152, eX2_drag_155, eX2_drag_157, eX2_drag_160, eX2_drag_161, eX2_drag_164, eX2_drag_166, eX2_drag_169, eX2_drag_172, eX2_drag_175, eX2_drag_177, eX2_drag_178, eX2_drag_179, eX2_drag_182, eX2_drag_183, eX2_drag_185, eX2_drag_186, eX2_drag_189, eX2_drag_191, eX2_drag_192, eX2_drag_195, eX2_drag_197, eX2_drag_199, eX2_drag_201, eX2_drag_204, eX2_drag_205, eX2_drag_208, eX2_drag_210, eX2_drag_212, eX2_drag_214, eX2_drag_217, ox_O_s, ox_B_s, ox_g_t, ox_A_s, ox_push_s, ox_push_n, ox_some, ox_z0, ox_z1, iI_lt, iI_eq, iI_add, iI_sub, ig_at, if_true, if_false, if_pos, if_neg, f0, f1, f2, f3, f4, f5, f6, f7, f8, f9, f10, f11, f12, f13, f14, f15, hpl, hgl]
      · have hpl := k1_placeOf0 b3 s1 z0 z1 hz
        rcases ol_find X y with ⟨g, g0, g1, rfl⟩ | hy
        · have hgl := k1_placeOf1 b3 s1 g0 g1
          simp (disch := omega) only [eX2_drag_0, eX2_drag_1, eX2_drag_4, eX2_drag_5, eX2_drag_8, eX2_drag_10, eX2_drag_11, eX2_drag_14, eX2_drag_15, eX2_drag_18, eX2_drag_20, eX2_drag_22, eX2_drag_25, eX2_drag_27, eX2_drag_30, eX2_drag_31, eX2_drag_32, eX2_drag_33, eX2_drag_36, eX2_drag_39, eX2_drag_40, eX2_drag_41, eX2_drag_42, eX2_drag_45, eX2_drag_47, eX2_drag_50, eX2_drag_52, eX2_drag_53, eX2_drag_56, eX2_drag_58, eX2_drag_61, eX2_drag_63, eX2_drag_65, eX2_drag_66, eX2_drag_69, eX2_drag_71, eX2_drag_74, eX2_drag_75, eX2_drag_76, eX2_drag_77, eX2_drag_80, eX2_drag_81, eX2_drag_84, eX2_drag_85, eX2_drag_86, eX2_drag_88, eX2_drag_90, eX2_drag_92, eX2_drag_94, eX2_drag_95, eX2_drag_96, eX2_drag_99, eX2_drag_102, eX2_drag_103, eX2_drag_106, eX2_drag_108, eX2_drag_110, eX2_drag_113, eX2_drag_115, eX2_drag_116, eX2_drag_118, eX2_drag_121, eX2_drag_123, eX2_drag_124, eX2_drag_125, eX2_drag_126, eX2_drag_129, eX2_drag_131, eX2_drag_134, eX2_drag_135, eX2_drag_138, eX2_drag_140, eX2_drag_142, eX2_drag_145, eX2_drag_147, eX2_drag_148, eX2_drag_151, eX2_drag_152, eX2_drag_155, eX2_drag_157, eX2_drag_160, eX2_drag_161, eX2_drag_164, eX2_drag_166, eX2_drag_169, eX2_drag_172, eX2_drag_175, eX2_drag_177, eX2_drag_178, eX2_drag_179, eX2_drag_182, eX2_drag_183, eX2_drag_185, eX2_drag_186, eX2_drag_189, eX2_drag_191, eX2_drag_192, eX2_drag_195, eX2_drag_197, eX2_drag_199, eX2_drag_201, eX2_drag_204, eX2_drag_205, eX2_drag_208, eX2_drag_210, eX2_drag_212, eX2_drag_214, eX2_drag_217, ox_O_s, ox_B_s, ox_g_t, ox_A_s, ox_push_s, ox_push_n, ox_some, ox_z0, ox_z1, iI_lt, iI_eq, iI_add, iI_sub, ig_at, if_true, if_false, if_pos, if_neg, f0, f1, f2, f3, f4, f5, f6, f7, f8, f9, f10, f11, f12, f13, f14, f15, hpl, hgl]
        · have hgl := k1_placeOf0 b3 s1 y0 y1 hy
          simp (disch := omega) only [eX2_drag_0, eX2_drag_1, eX2_drag_4, eX2_drag_5, eX2_drag_8, eX2_drag_10, eX2_drag_11, eX2_drag_14, eX2_drag_15, eX2_drag_18, eX2_drag_20, eX2_drag_22, eX2_drag_25, eX2_drag_27, eX2_drag_30, eX2_drag_31, eX2_drag_32, eX2_drag_33, eX2_drag_36, eX2_drag_39, eX2_drag_40, eX2_drag_41, eX2_drag_42, eX2_drag_45, eX2_drag_47, eX2_drag_50, eX2_drag_52, eX2_drag_53, eX2_drag_56, eX2_drag_58, eX2_drag_61, eX2_drag_63, eX2_drag_65, eX2_drag_66, eX2_drag_69, eX2_drag_71, eX2_drag_74, eX2_drag_75, eX2_drag_76, eX2_drag_77, eX2_drag_80, eX2_drag_81, eX2_drag_84, eX2_drag_85, eX2_drag_86, eX2_drag_88, eX2_drag_90, eX2_drag_92, eX2_drag_94, eX2_drag_95, eX2_drag_96, eX2_drag_99, eX2_drag_102, eX2_drag_103, eX2_drag_106, eX2_drag_108, eX2_drag_110, eX2_drag_113, eX2_drag_115, eX2_drag_116, eX2_drag_118, eX2_drag_121, eX2_drag_123, eX2_drag_124, eX2_drag_125, eX2_drag_126, eX2_drag_129, eX2_drag_131, eX2_drag_134, eX2_drag_135, eX2_drag_138, eX2_drag_140, eX2_drag_142, eX2_drag_145, eX2_drag_147, eX2_drag_148, eX2_drag_151, eX2_drag_152, eX2_drag_155, eX2_drag_157, eX2_drag_160, eX2_drag_161, eX2_drag_164, eX2_drag_166, eX2_drag_169, eX2_drag_172, eX2_drag_175, eX2_drag_177, eX2_drag_178, eX2_drag_179, eX2_drag_182, eX2_drag_183, eX2_drag_185, eX2_drag_186, eX2_drag_189, eX2_drag_191, eX2_drag_192, eX2_drag_195, eX2_drag_197, eX2_drag_199, eX2_drag_201, eX2_drag_204, eX2_drag_205, eX2_drag_208, eX2_drag_210, eX2_drag_212, eX2_drag_214, eX2_drag_217, ox_O_s, ox_B_s, ox_g_t, ox_A_s, ox_push_s, ox_push_n, ox_some, ox_z0, ox_z1, iI_lt, iI_eq, iI_add, iI_sub, ig_at, if_true, if_false, if_pos, if_neg, f0, f1, f2, f3, f4, f5, f6, f7, f8, f9, f10, f11, f12, f13, f14, f15, hpl, hgl]
    · rcases ol_find X z with ⟨p, p0, p1, rfl⟩ | hz
      · have hhd := k3_isHeading1 hM s2 s1 p0 p1
        rcases ol_find X y with ⟨g, g0, g1, rfl⟩ | hy
        · have hhg := k3_isHeading1 hM s2 s1 g0 g1
          simp (disch := omega) only [eX3_drag_0, eX3_drag_1, eX3_drag_2, eX3_drag_5, eX3_drag_8, eX3_drag_9, eX3_drag_10, eX3_drag_13, eX3_drag_16, eX3_drag_17, eX3_drag_18, eX3_drag_19, eX3_drag_22, eX3_drag_25, eX3_drag_26, eX3_drag_27, eX3_drag_28, eX3_drag_29, eX3_drag_32, eX3_drag_34, eX3_drag_35, eX3_drag_37, eX3_drag_40, eX3_drag_42, eX3_drag_43, eX3_drag_44, eX3_drag_47, eX3_drag_49, eX3_drag_50, eX3_drag_52, eX3_drag_55, eX3_drag_56, eX3_drag_57, eX3_drag_60, eX3_drag_61, eX3_drag_64, eX3_drag_65, eX3_drag_66, eX3_drag_68, eX3_drag_70, eX3_drag_71, eX3_drag_73, eX3_drag_76, eX3_drag_77, eX3_drag_79, eX3_drag_81, eX3_drag_83, eX3_drag_85, eX3_drag_86, eX3_drag_87, eX3_drag_90, eX3_drag_93, eX3_drag_94, eX3_drag_96, eX3_drag_98, eX3_drag_100, eX3_drag_103, eX3_drag_106, eX3_drag_108, eX3_drag_109, eX3_drag_110, eX3_drag_111, eX3_drag_112, eX3_drag_115, eX3_drag_116, eX3_drag_118, eX3_drag_121, eX3_drag_124, eX3_drag_126, eX3_drag_127, eX3_drag_130, eX3_drag_132, eX3_drag_133, eX3_drag_134, eX3_drag_135, eX3_drag_138, eX3_drag_141, eX3_drag_143, eX3_drag_144, eX3_drag_145, eX3_drag_148, eX3_drag_149, eX3_drag_151, eX3_drag_153, eX3_drag_155, eX3_drag_158, eX3_drag_160, eX3_drag_162, eX3_drag_163, eX3_drag_165, eX3_drag_166, eX3_drag_170, eX3_drag_172, eX3_drag_175, eX3_drag_176, eX3_drag_179, eX3_drag_181, eX3_drag_182, eX3_drag_184, eX3_drag_186, eX3_drag_187, eX3_drag_190, eX3_drag_191, eX3_drag_194, eX3_drag_197, eX3_drag_199, eX3_drag_203, eX3_drag_204, eX3_drag_207, eX3_drag_210, eX3_drag_211, eX3_drag_214, eX3_drag_215, eX3_drag_217, eX3_drag_218, eX3_drag_220, eX3_drag_221, eX3_drag_222, eX3_drag_224, eX3_drag_227, eX3_drag_228, eX3_drag_231, eX3_drag_234, eX3_drag_235, eX3_drag_238, eX3_drag_239, eX3_drag_240, eX3_drag_241, eX3_drag_243, eX3_drag_244, eX3_drag_245, eX3_drag_246, eX3_drag_247, eX3_drag_250, eX3_drag_252, eX3_drag_253, eX3_drag_256, eX3_drag_258, eX3_drag_261, eX3_drag_262, eX3_drag_263, eX3_drag_266, eX3_drag_268, eX3_drag_269, eX3_drag_270, eX3_drag_273, eX3_drag_274, eX3_drag_276, eX3_drag_279, eX3_drag_281, eX3_drag_282, eX3_drag_285, eX3_drag_286, eX3_drag_287, eX3_drag_291, eX3_drag_293, eX3_drag_296, eX3_drag_297, eX3_drag_300, eX3_drag_301, eX3_drag_303, eX3_drag_304, eX3_drag_306, eX3_drag_307, eX3_drag_308, eX3_drag_310, eX3_drag_313, eX3_drag_314, eX3_drag_317, eX3_drag_320, eX3_drag_321, eX3_drag_325, eX3_drag_327, eX3_drag_330, eX3_drag_331, eX3_drag_334, eX3_drag_335, eX3_drag_337, eX3_drag_338, eX3_drag_340, eX3_drag_341, eX3_drag_342, eX3_drag_345, eX3_drag_347, eX3_drag_348, eX3_drag_349, eX3_drag_352, eX3_drag_355, eX3_drag_356, eX3_drag_359, eX3_drag_360, eX3_drag_361, eX3_drag_362, eX3_drag_364, eX3_drag_365, eX3_drag_366, eX3_drag_368, ox_O_s, ox_B_s, ox_g_t, ox_A_s, ox_push_s, ox_push_n, ox_some, ox_z0, ox_z1, iI_lt, iI_eq, iI_add, iI_sub, ig_at, if_true, if_false, if_pos, if_neg, mO, hhd, hhg, hin]
        · have hhg := k3_isHeading0 hM s2 s1 y0 y1 hy
          simp (disch := omega) only [eX3_drag_0, eX3_drag_1, eX3_drag_2, eX3_drag_5, eX3_drag_8, eX3_drag_9, eX3_drag_10, eX3_drag_13, eX3_drag_16, eX3_drag_17, eX3_drag_18, eX3_drag_19, eX3_drag_22, eX3_drag_25, eX3_drag_26, eX3_drag_27, eX3_drag_28, eX3_drag_29, eX3_drag_32, eX3_drag_34, eX3_drag_35, eX3_drag_37, eX3_drag_40, eX3_drag_42, eX3_drag_43, eX3_drag_44, eX3_drag_47, eX3_drag_49, eX3_drag_50, eX3_drag_52, eX3_drag_55, eX3_drag_56, eX3_drag_57, eX3_drag_60, eX3_drag_61, eX3_drag_64, eX3_drag_65, eX3_drag_66, eX3_drag_68, eX3_drag_70, eX3_drag_71, eX3_drag_73, eX3_drag_76, eX3_drag_77, eX3_drag_79, eX3_drag_81, eX3_drag_83, eX3_drag_85, eX3_drag_86, eX3_drag_87, eX3_drag_90, eX3_drag_93, eX3_drag_94, eX3_drag_96, eX3_drag_98, eX3_drag_100, eX3_drag_103, eX3_drag_106, eX3_drag_108, eX3_drag_109, eX3_drag_110, eX3_drag_111, eX3_drag_112, eX3_drag_115, eX3_drag_116, eX3_drag_118, eX3_drag_121, eX3_drag_124, eX3_drag_126, eX3_drag_127, eX3_drag_130, eX3_drag_132, eX3_drag_133, eX3_drag_134, eX3_drag_135, eX3_drag_138, eX3_drag_141, eX3_drag_143, eX3_drag_144, eX3_drag_145, eX3_drag_148, eX3_drag_149, eX3_drag_151, eX3_drag_153, eX3_drag_155, eX3_drag_158, eX3_drag_160, eX3_drag_162, eX3_drag_163, eX3_drag_165, eX3_drag_166, eX3_drag_170, eX3_drag_172, eX3_drag_175, eX3_drag_176, eX3_drag_179, eX3_drag_181, eX3_drag_182, eX3_drag_184, eX3_drag_186, eX3_drag_187, eX3_drag_190, eX3_drag_191, eX3_drag_194, eX3_drag_197, eX3_drag_199, eX3_drag_203, eX3_drag_204, eX3_drag_207, eX3_drag_210, eX3_drag_211, eX3_drag_214, eX3_drag_215, eX3_drag_217, eX3_drag_218, eX3_drag_220, eX3_drag_221, eX3_drag_222, eX3_drag_224, eX3_drag_227, eX3_drag_228, eX3_drag_231, eX3_drag_234, eX3_drag_235, eX3_drag_238, eX3_drag_239, eX3_drag_240, eX3_drag_241, eX3_drag_243, eX3_drag_244, eX3_drag_245, eX3_drag_246, eX3_drag_247, eX3_drag_250, eX3_drag_252, eX3_drag_253, eX3_drag_256, eX3_drag_258, eX3_drag_261, eX3_drag_262, eX3_drag_263, eX3_drag_266, eX3_drag_268, eX3_drag_269, eX3_drag_270, eX3_drag_273, eX3_drag_274, eX3_drag_276, eX3_drag_279, eX3_drag_281, eX3_drag_282, eX3_drag_285, eX3_drag_286, eX3_drag_287, eX3_drag_291, eX3_drag_293, eX3_drag_296, eX3_drag_297, eX3_drag_300, eX3_drag_301, eX3_drag_303, eX3_drag_304, eX3_drag_306, eX3_drag_307, eX3_drag_308, eX3_drag_310, eX3_drag_313, eX3_drag_314, eX3_drag_317, eX3_drag_320, eX3_drag_321, eX3_drag_325, eX3_drag_327, eX3_drag_330, eX3_drag_331, eX3_drag_334, eX3_drag_335, eX3_drag_337, eX3_drag_338, eX3_drag_340, eX3_drag_341, eX3_drag_342, eX3_drag_345, eX3_drag_347, eX3_drag_348, eX3_drag_349, eX3_drag_352, eX3_drag_355, eX3_drag_356, eX3_drag_359, eX3_drag_360, eX3_drag_361, eX3_drag_362, eX3_drag_364, eX3_drag_365, eX3_drag_366, eX3_drag_368, ox_O_s, ox_B_s, ox_g_t, ox_A_s, ox_push_s, ox_push_n, ox_some, ox_z0, ox_z1, iI_lt, iI_eq, iI_add, iI_sub, ig_at, if_true, if_false, if_pos, if_neg, mO, hhd, hhg]
      · have hhd := k3_isHeading0 hM s2 s1 z0 z1 hz
        simp (disch := omega) only [eX3_drag_0, eX3_drag_1, eX3_drag_2, eX3_drag_5, eX3_drag_8, eX3_drag_9, eX3_drag_10, eX3_drag_13, eX3_drag_16, eX3_drag_17, eX3_drag_18, eX3_drag_19, eX3_drag_22, eX3_drag_25, eX3_drag_26, eX3_drag_27, eX3_drag_28, eX3_drag_29, eX3_drag_32, eX3_drag_34, eX3_drag_35, eX3_drag_37, eX3_drag_40, eX3_drag_42, eX3_drag_43, eX3_drag_44, eX3_drag_47, eX3_drag_49, eX3_drag_50, eX3_drag_52, eX3_drag_55, eX3_drag_56, eX3_drag_57, eX3_drag_60, eX3_drag_61, eX3_drag_64, eX3_drag_65, eX3_drag_66, eX3_drag_68, eX3_drag_70, eX3_drag_71, eX3_drag_73, eX3_drag_76, eX3_drag_77, eX3_drag_79, eX3_drag_81, eX3_drag_83, eX3_drag_85, eX3_drag_86, eX3_drag_87, eX3_drag_90, eX3_drag_93, eX3_drag_94, eX3_drag_96, eX3_drag_98, eX3_drag_100, eX3_drag_103, eX3_drag_106, eX3_drag_108, eX3_drag_109, eX3_drag_110, eX3_drag_111, eX3_drag_112, eX3_drag_115, eX3_drag_116, eX3_drag_118, eX3_drag_121, eX3_drag_124, eX3_drag_126, eX3_drag_127, eX3_drag_130, eX3_drag_132, eX3_drag_133, eX3_drag_134, eX3_drag_135, eX3_drag_138, eX3_drag_141, eX3_drag_143, eX3_drag_144, eX3_drag_145, eX3_drag_148, eX3_drag_149, eX3_drag_151, eX3_drag_153, eX3_drag_155, eX3_drag_158, eX3_drag_160, eX3_drag_162, eX3_drag_163, eX3_drag_165, eX3_drag_166, eX3_drag_170, eX3_drag_172, eX3_drag_175, eX3_drag_176, eX3_drag_179, eX3_drag_181, eX3_drag_182, eX3_drag_184, eX3_drag_186, eX3_drag_187, eX3_drag_190, eX3_drag_191, eX3_drag_194, eX3_drag_197, eX3_drag_199, eX3_drag_203, eX3_drag_204, eX3_drag_207, eX3_drag_210, eX3_drag_211, eX3_drag_214, eX3_drag_215, eX3_drag_217, eX3_drag_218, eX3_drag_220, eX3_drag_221, eX3_drag_222, eX3_drag_224, eX3_drag_227, eX3_drag_228, eX3_drag_231, eX3_drag_234, eX3_drag_235, eX3_drag_238, eX3_drag_239, eX3_drag_240, eX3_drag_241, eX3_drag_243, eX3_drag_244, eX3_drag_245, eX3_drag_246, eX3_drag_247, eX3_drag_250, eX3_drag_252, eX3_drag_253, eX3_drag_256, eX3_drag_258, eX3_drag_261, eX3_drag_262, eX3_drag_263, eX3_drag_266, eX3_drag_268, eX3_drag_269, eX3_drag_270, eX3_drag_273, eX3_drag_274, eX3_drag_276, eX3_drag_279, eX3_drag_281, eX3_drag_282, eX3_drag_285, eX3_drag_286, eX3_drag_287, eX3_drag_291, eX3_drag_293, eX3_drag_296, eX3_drag_297, eX3_drag_300, eX3_drag_301, eX3_drag_303, eX3_drag_304, eX3_drag_306, eX3_drag_307, eX3_drag_308, eX3_drag_310, eX3_drag_313, eX3_drag_314, eX3_drag_317, eX3_drag_320, eX3_drag_321, eX3_drag_325, eX3_drag_327, eX3_drag_330, eX3_drag_331, eX3_drag_334, eX3_drag_335, eX3_drag_337, eX3_drag_338, eX3_drag_340, eX3_drag_341, eX3_drag_342, eX3_drag_345, eX3_drag_347, eX3_drag_348, eX3_drag_349, eX3_drag_352, eX3_drag_355, eX3_drag_356, eX3_drag_359, eX3_drag_360, eX3_drag_361, eX3_drag_362, eX3_drag_364, eX3_drag_365, eX3_drag_366, eX3_drag_368, ox_O_s, ox_B_s, ox_g_t, ox_A_s, ox_push_s, ox_push_n, ox_some, ox_z0, ox_z1, iI_lt, iI_eq, iI_add, iI_sub, ig_at, if_true, if_false, if_pos, if_neg, mO, hhd]
