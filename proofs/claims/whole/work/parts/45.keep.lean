/-! keep, back, refer, forget, setKind. -/
def flv (r v : Int) : Int := if v = 0 then r + (1 - bt r 0) else r + 2 * (1 - bt r 1)
theorem fl_all : ∀ r : Fin 4, ∀ v : Fin 2, iI (r.val : Int) ||| (iI 1 <<< (iI (v.val : Int) &&& 31)) = iI (flv r.val v.val) ∧ (0 ≤ flv r.val v.val ∧ flv r.val v.val ≤ 3) ∧ bt (flv r.val v.val) v.val = 1 ∧ bt (flv r.val v.val) (1 - v.val) = bt r.val (1 - v.val) := by decide +kernel
theorem fl_eq {r v : Int} (r0 : 0 ≤ r) (r1 : r ≤ 3) (v0 : 0 ≤ v) (v1 : v ≤ 1) : iI r ||| (iI 1 <<< (iI v &&& 31)) = iI (flv r v) ∧ (0 ≤ flv r v ∧ flv r v ≤ 3) ∧ bt (flv r v) v = 1 ∧ bt (flv r v) (1 - v) = bt r (1 - v) := by
  have := fl_all ⟨r.toNat, by omega⟩ ⟨v.toNat, by omega⟩
  simp only [] at this
  rw [show ((r.toNat : Nat) : Int) = r by omega, show ((v.toNat : Nat) : Int) = v by omega] at this
  exact this
theorem sl_pcy1 {w l : List Int} {v : Int} (v0 : 0 ≤ v) (hl : 218 * v + 218 ≤ l.length) (hw : w.length = 218) : sl (pcy w v l) v = w := by
  have := pcy_len w v l
  refine ig_ext (by rw [sl_len v0 (by omega), hw]) (fun p p0 p1 => ?_)
  rw [sl_len v0 (by omega)] at p1
  rw [sl_ig v0 p0 (by omega), pcy_ig v0 hl (by omega), if_pos (by omega)]
  exact congrArg (ig w) (by omega)
theorem sl_pcy0 {w l : List Int} {v i : Int} (v0 : 0 ≤ v) (hl : 218 * v + 218 ≤ l.length) (i0 : 0 ≤ i) (hi : 218 * i + 218 ≤ l.length) (ne : i ≠ v) : sl (pcy w v l) i = sl l i := by
  have := pcy_len w v l
  refine ig_ext (by rw [sl_len i0 (by omega), sl_len i0 hi]) (fun p p0 p1 => ?_)
  rw [sl_len i0 (by omega)] at p1
  rw [sl_ig i0 p0 (by omega), sl_ig i0 p0 (by omega), pcy_ig v0 hl (by omega), if_neg (by omega)]
theorem k3_ke_loop {h : ox_H} {m : Nat} {Y : ol} (hb : m + 6 < h.length) (hw : (Y.2 0).length = 218) {v : Int} (v0 : 0 ≤ v) (v1 : v ≤ 1) : ∀ (k : Nat) (i : Int) (l : List Int), 0 ≤ i → i + k = 218 → l.length = 436 → oe 152 13 [.ref m, .int (iI v), .int (iI i)] [] (mput h m (oset Y 2 l)) = oe 152 44 [.ref m, .int (iI v), .int (iI 218)] [] (mput h m (oset Y 2 (cqF (Y.2 0) 0 (218 * v) k i l))) := by
  intro k
  induction k with
  | zero =>
    intro i l a c hl
    rw [eX3_keep_13, show i = 218 by omega]
    simp (disch := omega) only [eX3_keep_14, eX3_keep_17, iI_lt, if_pos, if_neg, if_true, if_false]
    rfl
  | succ k ih =>
    intro i l a c hl
    have i1 := ih (i + 1) (iu l (218 * v + i) (ig (Y.2 0) (0 + i))) (by omega) (by omega) (by rw [iu_len]; exact hl)
    unfold cqF
    rw [← i1, eX3_keep_13, Int.zero_add]
    simp (disch := omega) only [eX3_keep_0, eX3_keep_1, eX3_keep_2, eX3_keep_3, eX3_keep_6, eX3_keep_9, eX3_keep_10, eX3_keep_11, eX3_keep_12, eX3_keep_14, eX3_keep_17, eX3_keep_20, eX3_keep_21, eX3_keep_24, eX3_keep_27, eX3_keep_28, eX3_keep_29, eX3_keep_30, eX3_keep_31, eX3_keep_32, eX3_keep_35, eX3_keep_36, eX3_keep_37, eX3_keep_38, eX3_keep_41, ox_O_s, ox_B_s, ox_g_t, ox_A_s, ox_push_s, ox_push_n, ox_some, ox_z0, ox_z1, iI_lt, iI_eq, iI_add, iI_sub, iI_mul, ig_at, ig_set, if_true, if_false, if_pos, if_neg, mp_obj, mp_f0, mp_f1, mp_f2, mp_f3, mp_f4, mp_f5, mp_f6, mp_f7, mp_f8, mp_f9, mp_i0, mp_i1, mp_i2, mp_i3, mp_i4, mp_i5, mp_j0, mp_j1, mp_j2, mp_j3, mp_j4, mp_j5, mp_s0, mp_s1, mp_s2, mp_s3, mp_s4, mp_s5, mp_w2, mp_w4, mp_w6, mp_w9, oa_gl, ma_gl, os_2, os_1, ns_1, ns_2, os_os, ns_ns]
theorem k3_keep {h : ox_H} {m : Nat} {X Y : ol} (hR : Rel X (Y.2 0)) (hV : vx X) (hb : m + 6 < h.length) (l2 : (Y.2 2).length = 436) (f0 : 0 ≤ Y.1 1) (f1 : Y.1 1 ≤ 3) {v : Int} (v0 : 0 ≤ v) (v1 : v ≤ 1) : oe 152 0 [.ref m, .int (iI v), .null] [] (mput h m Y) = some (some (.int (iI (X.1 0))), mput h m (nset (oset Y 2 (pcy (Y.2 0) v (Y.2 2))) 1 (flv (Y.1 1) v))) := by
  have hw : (Y.2 0).length = 218 := hR.1
  have hk := k3_ke_loop (Y := Y) hb hw v0 v1 218 0 (Y.2 2) (by omega) (by omega) l2
  rw [os_self, show cqF (Y.2 0) 0 (218 * v) 218 0 (Y.2 2) = pcy (Y.2 0) v (Y.2 2) from rfl] at hk
  have hin := k3_isIn (h := mput h m Y) (a := v) (b := 0) (c := 1) (by omega) (by omega) (by omega) (by omega) (by omega) (by omega)
  rw [decide_eq_true ⟨v0, v1⟩] at hin
  have hM' := ma_put (X := nset (oset Y 2 (pcy (Y.2 0) v (Y.2 2))) 1 (flv (Y.1 1) v)) hb
  have hm := k3_many hM' (X := X) (by rw [ns_2, os_2, if_neg (by decide)]; exact hR) hV
  have hfl := (fl_eq f0 f1 v0 v1).1
  simp (disch := omega) only [eX3_keep_0, eX3_keep_1, eX3_keep_2, eX3_keep_3, eX3_keep_6, eX3_keep_11, eX3_keep_12, ox_O_s, ox_B_s, ox_g_t, ox_A_s, ox_push_s, ox_push_n, ox_some, ox_z0, ox_z1, hin, zb_t, iI_eq, if_neg, hk]
  simp (disch := omega) only [eX3_keep_0, eX3_keep_1, eX3_keep_2, eX3_keep_3, eX3_keep_6, eX3_keep_9, eX3_keep_10, eX3_keep_11, eX3_keep_12, eX3_keep_14, eX3_keep_17, eX3_keep_20, eX3_keep_21, eX3_keep_24, eX3_keep_27, eX3_keep_28, eX3_keep_29, eX3_keep_30, eX3_keep_31, eX3_keep_32, eX3_keep_35, eX3_keep_36, eX3_keep_37, eX3_keep_38, eX3_keep_41, eX3_keep_44, eX3_keep_45, eX3_keep_46, eX3_keep_49, eX3_keep_50, eX3_keep_51, eX3_keep_52, eX3_keep_53, eX3_keep_56, eX3_keep_57, eX3_keep_60, ox_O_s, ox_B_s, ox_g_t, ox_A_s, ox_push_s, ox_push_n, ox_some, ox_z0, ox_z1, iI_lt, iI_eq, iI_add, iI_sub, ig_at, if_true, if_false, if_pos, if_neg, mp_obj, mp_f0, mp_f1, mp_f2, mp_f3, mp_f4, mp_f5, mp_f6, mp_f7, mp_f8, mp_f9, mp_i0, mp_i1, mp_i2, mp_i3, mp_i4, mp_i5, mp_j0, mp_j1, mp_j2, mp_j3, mp_j4, mp_j5, mp_s0, mp_s1, mp_s2, mp_s3, mp_s4, mp_s5, mp_w2, mp_w4, mp_w6, mp_w9, oa_gl, ma_gl, ig_set, os_2, os_1, ns_1, ns_2, os_os, ns_ns, hfl, hm]
theorem ox_z1' {r : Option ox_R} : ox_g (iI 1 == 0 || iI 1 == 1) r = r := rfl
theorem im_at0 : ox_at [Value.ref 106, Value.ref 117] (iI 0) = some (.ref 106) := rfl
theorem im_at1 : ox_at [Value.ref 106, Value.ref 117] (iI 1) = some (.ref 117) := rfl
theorem k2_keep {h : ox_H} {X : ol} {c : Int} {A : List Nat} {H I : Nat → ol} {K : List Int} {T U : ol} (hC : CS h X c A H I K T U) (hX : ol_len X) {v : Int} (v0 : 0 ≤ v) (v1 : v ≤ 1) : ∃ h', oe 73 0 [.ref 4, .int (iI v)] [] h = some (some (.int (iI (X.1 0))), h') ∧ CS h' X c A H (fu I v.toNat X) (iu K v 1) T U ∧ ∀ a, (a < 4 ∨ 133 ≤ a) → h'[a]? = h[a]? := by
  obtain ⟨f0, f1, f2, f3, f4, f5, f6, f7, f8, f9, f10, f11, f12, f13, f14, f15⟩ := CS_facts hC
  have hl := hC.1
  have b3 := hC.2.2.1
  have hI := hC.2.2.2.2.2.2.2.1
  have hK2 := hC.2.2.2.2.2.2.2.2.2.1
  have hw := k2_within (h := h) (a := v) (b := 0) (c := 1) (by omega) (by omega) (by omega) (by omega) (by omega) (by omega)
  rw [decide_eq_true ⟨v0, v1⟩] at hw
  have hcp := k1_copyFrom (o := 106 + 11 * v.toNat) (o' := 5) (X := X) (Z := I v.toNat) (h := h) (by omega) b3 (by omega) hX (hI v.toNat (by omega)).2
  rw [hput_self (hI v.toNat (by omega)).1] at hcp
  have hC1 := CS_img (Z := X) hC (i := v.toNat) (by omega) hX
  generalize hh1 : hput h (106 + 11 * v.toNat) X = h1 at hcp hC1
  obtain ⟨a1, a2, a3, a4, a5, a6, a7, a8, a9, a10, a11, a12, a13⟩ := id hC1
  have hC2 : CS (h1.set 128 (.inl (1, (iu K v 1).map iI))) X c A H (fu I v.toNat X) (iu K v 1) T U :=
    CS_set hC1 (Or.inr (Or.inr rfl)) (by rw [List.getElem?_set_ne (by omega)]; exact a2) (by rw [List.getElem?_set_ne (by omega)]; exact a4) a5 (fun i hi => ⟨i, hi, rfl, rfl⟩) (List.getElem?_set_self (by omega)) (by rw [iu_len]; exact hK2)
  obtain ⟨q0, q1, q2, q3, q4, q5, q6, q7, q8, q9, q10, q11, q12, q13, q14, q15⟩ := CS_facts hC1
  obtain ⟨g0, g1, g2, g3, g4, g5, g6, g7, g8, g9, g10, g11, g12, g13, g14, g15⟩ := CS_facts hC2
  have gc := (oa_facts hC2.2.2.1).2.1
  have oI := (oa_facts (hI v.toNat (by omega)).1).1
  refine ⟨_, ?_, hC2, fun a ha => ?_⟩
  · have hv : v = 0 ∨ v = 1 := by omega
    rcases hv with rfl | rfl
    · rw [show 106 + 11 * (0 : Int).toNat = 106 from rfl] at hcp oI
      simp (disch := omega) only [eX2_keep_0, eX2_keep_1, eX2_keep_2, eX2_keep_3, eX2_keep_6, eX2_keep_9, eX2_keep_10, eX2_keep_11, eX2_keep_12, eX2_keep_15, eX2_keep_16, eX2_keep_17, eX2_keep_18, eX2_keep_21, eX2_keep_24, eX2_keep_25, eX2_keep_28, eX2_keep_29, eX2_keep_30, eX2_keep_31, eX2_keep_32, eX2_keep_35, eX2_keep_38, ox_O_s, ox_B_s, ox_g_t, ox_A_s, ox_push_s, ox_push_n, ox_some, ox_z0, ox_z1, iI_lt, iI_eq, iI_add, iI_sub, ig_at, if_true, if_false, if_pos, if_neg, f0, f1, f2, f3, f4, f5, f6, f7, f8, f9, f10, f11, f12, f13, f14, f15, hw, zb_t, im_at0, oI, hcp, q1, q2, q3, q4, q5, q10, ox_z1', ig_set, g0, g1, g2, g3, g4, g5, g6, g7, g8, g9, g10, g11, g12, g13, g14, g15, gc]
    · rw [show 106 + 11 * (1 : Int).toNat = 117 from rfl] at hcp oI
      simp (disch := omega) only [eX2_keep_0, eX2_keep_1, eX2_keep_2, eX2_keep_3, eX2_keep_6, eX2_keep_9, eX2_keep_10, eX2_keep_11, eX2_keep_12, eX2_keep_15, eX2_keep_16, eX2_keep_17, eX2_keep_18, eX2_keep_21, eX2_keep_24, eX2_keep_25, eX2_keep_28, eX2_keep_29, eX2_keep_30, eX2_keep_31, eX2_keep_32, eX2_keep_35, eX2_keep_38, ox_O_s, ox_B_s, ox_g_t, ox_A_s, ox_push_s, ox_push_n, ox_some, ox_z0, ox_z1, iI_lt, iI_eq, iI_add, iI_sub, ig_at, if_true, if_false, if_pos, if_neg, f0, f1, f2, f3, f4, f5, f6, f7, f8, f9, f10, f11, f12, f13, f14, f15, hw, zb_t, im_at1, oI, hcp, q1, q2, q3, q4, q5, q10, ox_z1', ig_set, g0, g1, g2, g3, g4, g5, g6, g7, g8, g9, g10, g11, g12, g13, g14, g15, gc]
  · rw [List.getElem?_set_ne (by omega), ← hh1, gp_out (by omega)]
theorem st_keep {xs : List Int32} {h : ox_H} (hS : Sm xs h) (a : Int32) : ST xs h (fun h => oe 73 0 [.ref 4, .int a] [] h) (fun h => oe 152 0 [.ref 133, .int a, .null] [] h) := by
  obtain ⟨X, c, A, H, I, K, T, U, Y, h0, hC, hM, hR⟩ := sm_parts hS
  obtain ⟨s1, s2, s3, s4, s5, -⟩ := id hR
  obtain ⟨b1, b2, b3, -⟩ := id hC
  have hw : (Y.2 0).length = 218 := s2.1
  obtain ⟨f0, f1, f2, f3, f4, f5, f6, f7, f8, f9, f10, f11, f12, f13, f14, f15⟩ := CS_facts hC
  have mO := (ma_facts hM).1
  obtain ⟨v, rfl, v0, v1⟩ := iI_ex a
  obtain ⟨-, -, -, -, -, s6, s7, s8, s9, s10, s11, s12, s13, s14, s15⟩ := id hR
  by_cases r : 0 ≤ v ∧ v ≤ 1
  · obtain ⟨h', e1, hC', hfr⟩ := k2_keep hC s1.1 r.1 r.2
    have hb6 : 133 + 6 < h'.length := by rw [hC'.1]; omega
    have hk := k3_keep s2 s1 hb6 s7 s8.1 s8.2 r.1 r.2
    refine ST_gen h0 hM e1 hC' hfr hk ?_
    have hfl := fl_eq s8.1 s8.2 r.1 r.2
    have hK2 := hC.2.2.2.2.2.2.2.2.2.1
    refine ⟨s1, by rw [ns_2, os_2, if_neg (by decide)]; exact s2, s3, by rw [ns_1, if_neg (by decide), os_1]; exact s4, by rw [ns_2, os_2, if_neg (by decide)]; exact s5, by rw [ns_2, os_2, if_neg (by decide)]; exact s6, by rw [ns_2, os_2, if_pos rfl, pcy_len]; exact s7, by rw [ns_1, if_pos rfl]; exact hfl.2.1, fun i hi => ?_, s10, by rw [ns_1, if_neg (by decide), os_1]; exact s11, by rw [ns_2, os_2, if_neg (by decide)]; exact s12, by rw [ns_2, os_2, if_neg (by decide)]; exact s13, by rw [ns_2, os_2, if_neg (by decide)]; exact s14, by rw [ns_2, os_2, if_neg (by decide)]; exact s15⟩
    rw [ns_1, if_pos rfl, ns_2, os_2, if_pos rfl, ig_iu r.1 (by omega) (by omega)]
    by_cases e : v = i
    · rw [if_pos e]
      refine ⟨by rw [← e]; exact hfl.2.2.1.symm, fun _ => ?_⟩
      rw [show fu I v.toNat X i = X from if_pos (by omega), ← e, sl_pcy1 r.1 (by omega) hw]
      exact ⟨s1, s2⟩
    · rw [if_neg e]
      have hi9 := s9 i hi
      refine ⟨by rw [show (i : Int) = 1 - v by omega, hfl.2.2.2, ← show (i : Int) = 1 - v by omega]; exact hi9.1, fun z => ?_⟩
      rw [show fu I v.toNat X i = I i from if_neg (by omega), sl_pcy0 r.1 (by omega) (by omega) (by omega) (by omega)]
      exact hi9.2 z
  · have wv := k2_within (h := h) (a := v) (b := 0) (c := 1) v0 v1 (by omega) (by omega) (by omega) (by omega)
    have iv := k3_isIn (h := h) (a := v) (b := 0) (c := 1) v0 v1 (by omega) (by omega) (by omega) (by omega)
    rw [decide_eq_false r] at wv iv
    refine ST_same (v := iI (-1)) hS ?_ ?_
    · simp (disch := omega) only [eX2_keep_0, eX2_keep_1, eX2_keep_2, eX2_keep_3, eX2_keep_6, eX2_keep_9, eX2_keep_10, eX2_keep_11, eX2_keep_12, eX2_keep_15, eX2_keep_16, eX2_keep_17, eX2_keep_18, eX2_keep_21, eX2_keep_24, eX2_keep_25, eX2_keep_28, eX2_keep_29, eX2_keep_30, eX2_keep_31, eX2_keep_32, eX2_keep_35, eX2_keep_38, ox_O_s, ox_B_s, ox_g_t, ox_A_s, ox_push_s, ox_push_n, ox_some, ox_z0, ox_z1, iI_lt, iI_eq, iI_add, iI_sub, ig_at, if_true, if_false, if_pos, if_neg, f0, f1, f2, f3, f4, f5, f6, f7, f8, f9, f10, f11, f12, f13, f14, f15, wv, zb_f]
    · simp (disch := omega) only [eX3_keep_0, eX3_keep_1, eX3_keep_2, eX3_keep_3, eX3_keep_6, eX3_keep_9, eX3_keep_10, eX3_keep_11, eX3_keep_12, eX3_keep_14, eX3_keep_17, eX3_keep_20, eX3_keep_21, eX3_keep_24, eX3_keep_27, eX3_keep_28, eX3_keep_29, eX3_keep_30, eX3_keep_31, eX3_keep_32, eX3_keep_35, eX3_keep_36, eX3_keep_37, eX3_keep_38, eX3_keep_41, eX3_keep_44, eX3_keep_45, eX3_keep_46, eX3_keep_49, eX3_keep_50, eX3_keep_51, eX3_keep_52, eX3_keep_53, eX3_keep_56, eX3_keep_57, eX3_keep_60, ox_O_s, ox_B_s, ox_g_t, ox_A_s, ox_push_s, ox_push_n, ox_some, ox_z0, ox_z1, iI_lt, iI_eq, iI_add, iI_sub, ig_at, if_true, if_false, if_pos, if_neg, mO, iv, zb_f]
theorem k3_ba_loop {h : ox_H} {m : Nat} {X Y : ol} (hb : m + 6 < h.length) (hp : (Y.2 2).length = 436) {v : Int} (v0 : 0 ≤ v) (v1 : v ≤ 1) : ∀ (k : Nat) (i : Int) (l : List Int), 0 ≤ i → i + k = 218 → l.length = 218 → oe 153 31 [.ref m, .int (iI v), .int (iI i)] [] (mput h m (oset Y 0 l)) = oe 153 62 [.ref m, .int (iI v), .int (iI 218)] [] (mput h m (oset Y 0 (cqF (Y.2 2) (218 * v) 0 k i l))) := by
  intro k
  induction k with
  | zero =>
    intro i l a c hl
    rw [eX3_back_31, show i = 218 by omega]
    simp (disch := omega) only [eX3_back_32, eX3_back_35, iI_lt, if_pos, if_neg, if_true, if_false]
    rfl
  | succ k ih =>
    intro i l a c hl
    have i1 := ih (i + 1) (iu l (0 + i) (ig (Y.2 2) (218 * v + i))) (by omega) (by omega) (by rw [iu_len]; exact hl)
    unfold cqF
    rw [← i1, eX3_back_31, Int.zero_add]
    simp (disch := omega) only [eX3_back_32, eX3_back_35, eX3_back_38, eX3_back_39, eX3_back_42, eX3_back_43, eX3_back_44, eX3_back_47, eX3_back_50, eX3_back_51, eX3_back_52, eX3_back_53, eX3_back_54, eX3_back_55, eX3_back_56, eX3_back_59, ox_O_s, ox_B_s, ox_g_t, ox_A_s, ox_push_s, ox_push_n, ox_some, ox_z0, ox_z1, iI_lt, iI_eq, iI_add, iI_sub, iI_mul, ig_at, ig_set, if_true, if_false, if_pos, if_neg, mp_obj, mp_f0, mp_f1, mp_f2, mp_f3, mp_f4, mp_f5, mp_f6, mp_f7, mp_f8, mp_f9, mp_i0, mp_i1, mp_i2, mp_i3, mp_i4, mp_i5, mp_j0, mp_j1, mp_j2, mp_j3, mp_j4, mp_j5, mp_s0, mp_s1, mp_s2, mp_s3, mp_s4, mp_s5, mp_w2, mp_w4, mp_w6, mp_w9, oa_gl, ma_gl, os_2, os_1, ns_1, ns_2, os_os, ns_ns]
theorem st_back {xs : List Int32} {h : ox_H} (hS : Sm xs h) (a : Int32) : ST xs h (fun h => oe 74 0 [.ref 4, .int a] [] h) (fun h => oe 153 0 [.ref 133, .int a, .null] [] h) := by
  obtain ⟨X, c, A, H, I, K, T, U, Y, h0, hC, hM, hR⟩ := sm_parts hS
  obtain ⟨s1, s2, s3, s4, s5, -⟩ := id hR
  obtain ⟨b1, b2, b3, -⟩ := id hC
  have hw : (Y.2 0).length = 218 := s2.1
  obtain ⟨f0, f1, f2, f3, f4, f5, f6, f7, f8, f9, f10, f11, f12, f13, f14, f15⟩ := CS_facts hC
  have mO := (ma_facts hM).1
  obtain ⟨v, rfl, v0, v1⟩ := iI_ex a
  obtain ⟨-, -, -, -, -, s6, s7, s8, s9, s10, s11, s12, s13, s14, s15⟩ := id hR
  have wv := k2_within (h := h) (a := v) (b := 0) (c := 1) v0 v1 (by omega) (by omega) (by omega) (by omega)
  have iv := fun h' : ox_H => k3_isIn (h := h') (a := v) (b := 0) (c := 1) v0 v1 (by omega) (by omega) (by omega) (by omega)
  by_cases r : 0 ≤ v ∧ v ≤ 1
  · simp only [decide_eq_true r, zb_t] at wv iv
    have hi9 := s9 v.toNat (by omega)
    rw [show ((v.toNat : Nat) : Int) = v by omega] at hi9
    have hK2 := hC.2.2.2.2.2.2.2.2.2.1
    have hbe := bt_eq (r := Y.1 1) (k := v) s8.1 (by omega) r.1 (by omega)
    have hbb := bt_b (Y.1 1) v
    by_cases q : ig K v = 0
    · have hb0 : bt (Y.1 1) v = 0 := by rw [← hi9.1]; exact q
      rw [hb0] at hbe
      have m4 := (ma_facts hM).2.2.2.2.2.1
      refine ST_same (v := iI (-2)) hS ?_ ?_
      · simp (disch := omega) only [eX2_back_0, eX2_back_1, eX2_back_2, eX2_back_3, eX2_back_6, eX2_back_9, eX2_back_10, eX2_back_11, eX2_back_12, eX2_back_15, eX2_back_16, eX2_back_17, eX2_back_20, eX2_back_22, eX2_back_23, eX2_back_24, eX2_back_27, eX2_back_28, eX2_back_31, eX2_back_32, eX2_back_35, eX2_back_36, eX2_back_37, eX2_back_40, eX2_back_41, eX2_back_44, eX2_back_47, ox_O_s, ox_B_s, ox_g_t, ox_A_s, ox_push_s, ox_push_n, ox_some, ox_z0, ox_z1, iI_lt, iI_eq, iI_add, iI_sub, ig_at, if_true, if_false, if_pos, if_neg, f0, f1, f2, f3, f4, f5, f6, f7, f8, f9, f10, f11, f12, f13, f14, f15, wv, q]
      · simp (disch := omega) only [eX3_back_0, eX3_back_1, eX3_back_2, eX3_back_3, eX3_back_6, eX3_back_9, eX3_back_10, eX3_back_11, eX3_back_12, eX3_back_15, eX3_back_16, eX3_back_17, eX3_back_18, eX3_back_19, eX3_back_22, eX3_back_24, eX3_back_25, eX3_back_26, eX3_back_29, eX3_back_30, eX3_back_32, eX3_back_35, eX3_back_38, eX3_back_39, eX3_back_42, eX3_back_43, eX3_back_44, eX3_back_47, eX3_back_50, eX3_back_51, eX3_back_52, eX3_back_53, eX3_back_54, eX3_back_55, eX3_back_56, eX3_back_59, eX3_back_62, eX3_back_63, eX3_back_66, ox_O_s, ox_B_s, ox_g_t, ox_A_s, ox_push_s, ox_push_n, ox_some, ox_z0, ox_z1, iI_lt, iI_eq, iI_add, iI_sub, ig_at, if_true, if_false, if_pos, if_neg, mO, iv, m4, hbe]
    · have hK1 : ig K v = 1 := by omega
      have hb1 : bt (Y.1 1) v = 1 := by rw [← hi9.1]; exact hK1
      obtain ⟨iV, iR⟩ := hi9.2 hK1
      obtain ⟨h', A', e1, hC', hfr⟩ := k2_remember hC s1.1 s3.1 s3.2
      have hO' := hC'.2.2.1
      have hl' : h'.length = 140 := hC'.1
      rw [← hput_self hO'] at e1
      have hC2 := CS_now (X' := X) hC'
      obtain ⟨g0, g1, g2, g3, g4, g5, g6, g7, g8, g9, g10, g11, g12, g13, g14, g15⟩ := CS_facts hC2
      have hb5 : 5 + 10 < h'.length := by omega
      have hI := hC'.2.2.2.2.2.2.2.1 v.toNat (by omega)
      have hcp := k1_copyFrom (o := 5) (o' := 106 + 11 * v.toNat) (X := I v.toNat) (Z := X) (h := h') (by omega) hI.1 (by omega) hI.2 s1.1
      have hC3 := CS_now (X' := I v.toNat) hC'
      obtain ⟨q0, q1, q2, q3, q4, q5, q6, q7, q8, q9, q10, q11, q12, q13, q14, q15⟩ := CS_facts hC3
      have gc := (oa_facts hC3.2.2.1).2.1
      refine ST_chg0 (h1 := hput h' 5 (I v.toNat)) (v := iI ((I v.toNat).1 0)) h0 hM hR ?_ hC3 (fun a ha => by rw [gp_out (by omega)]; exact hfr a ha) (w' := sl (Y.2 2) v) ?_ iV iR
      · have hv : v = 0 ∨ v = 1 := by omega
        rcases hv with rfl | rfl
        · rw [show 106 + 11 * (0 : Int).toNat = 106 from rfl] at hcp
          simp (disch := omega) only [eX2_back_0, eX2_back_1, eX2_back_2, eX2_back_3, eX2_back_6, eX2_back_9, eX2_back_10, eX2_back_11, eX2_back_12, eX2_back_15, eX2_back_16, eX2_back_17, eX2_back_20, eX2_back_22, eX2_back_23, eX2_back_24, eX2_back_27, eX2_back_28, eX2_back_31, eX2_back_32, eX2_back_35, eX2_back_36, eX2_back_37, eX2_back_40, eX2_back_41, eX2_back_44, eX2_back_47, ox_O_s, ox_B_s, ox_g_t, ox_A_s, ox_push_s, ox_push_n, ox_some, ox_z0, ox_z1, iI_lt, iI_eq, iI_add, iI_sub, ig_at, if_true, if_false, if_pos, if_neg, f0, f1, f2, f3, f4, f5, f6, f7, f8, f9, f10, f11, f12, f13, f14, f15, wv, hK1, e1, g0, g1, g2, g3, g4, g5, g6, g7, g8, g9, g10, g11, g12, g13, g14, g15, im_at0, hcp, q1, gc]
        · rw [show 106 + 11 * (1 : Int).toNat = 117 from rfl] at hcp
          simp (disch := omega) only [eX2_back_0, eX2_back_1, eX2_back_2, eX2_back_3, eX2_back_6, eX2_back_9, eX2_back_10, eX2_back_11, eX2_back_12, eX2_back_15, eX2_back_16, eX2_back_17, eX2_back_20, eX2_back_22, eX2_back_23, eX2_back_24, eX2_back_27, eX2_back_28, eX2_back_31, eX2_back_32, eX2_back_35, eX2_back_36, eX2_back_37, eX2_back_40, eX2_back_41, eX2_back_44, eX2_back_47, ox_O_s, ox_B_s, ox_g_t, ox_A_s, ox_push_s, ox_push_n, ox_some, ox_z0, ox_z1, iI_lt, iI_eq, iI_add, iI_sub, ig_at, if_true, if_false, if_pos, if_neg, f0, f1, f2, f3, f4, f5, f6, f7, f8, f9, f10, f11, f12, f13, f14, f15, wv, hK1, e1, g0, g1, g2, g3, g4, g5, g6, g7, g8, g9, g10, g11, g12, g13, g14, g15, im_at1, hcp, q1, gc]
      · have hb6 : 133 + 6 < (hput h' 5 (I v.toNat)).length := by rw [gp_len]; omega
        rw [hb1] at hbe
        have hk3 := paN_k Y
        have hr := k3_remember hb6 hw s5 (by omega) (by omega)
        have e2 : (paN Y).2 2 = Y.2 2 := hk3.2.2.1 2 (by decide)
        have e0 : (paN Y).2 0 = Y.2 0 := hk3.2.2.1 0 (by decide)
        have hbl := k3_ba_loop (X := X) (Y := paN Y) hb6 (by rw [e2]; exact s7) r.1 r.2 218 0 ((paN Y).2 0) (by omega) (by omega) (by rw [e0]; exact hw)
        rw [os_self, e2, cq_sl r.1 (by omega) (by rw [e0]; exact hw)] at hbl
        have hM2 := ma_put (X := oset (paN Y) 0 (sl (Y.2 2) v)) hb6
        have hm := k3_many hM2 (X := I v.toNat) (by rw [os_2, if_pos rfl]; exact iR) iV
        simp (disch := omega) only [eX3_back_0, eX3_back_1, eX3_back_2, eX3_back_3, eX3_back_6, eX3_back_11, eX3_back_12, eX3_back_15, eX3_back_16, eX3_back_17, eX3_back_18, eX3_back_19, eX3_back_25, eX3_back_26, eX3_back_29, eX3_back_30, ox_O_s, ox_B_s, ox_g_t, ox_A_s, ox_push_s, ox_push_n, ox_some, ox_z0, ox_z1, iv, iI_eq, if_neg, mp_f4, mp_obj, hbe, hr, hbl]
        simp (disch := omega) only [eX3_back_62, eX3_back_63, eX3_back_66, ox_O_s, ox_B_s, ox_g_t, ox_A_s, ox_push_s, ox_push_n, ox_some, ox_z0, ox_z1, mp_obj, hm]
  · simp only [decide_eq_false r, zb_f] at wv iv
    refine ST_same (v := iI (-1)) hS ?_ ?_
    · simp (disch := omega) only [eX2_back_0, eX2_back_1, eX2_back_2, eX2_back_3, eX2_back_6, eX2_back_9, eX2_back_10, eX2_back_11, eX2_back_12, eX2_back_15, eX2_back_16, eX2_back_17, eX2_back_20, eX2_back_22, eX2_back_23, eX2_back_24, eX2_back_27, eX2_back_28, eX2_back_31, eX2_back_32, eX2_back_35, eX2_back_36, eX2_back_37, eX2_back_40, eX2_back_41, eX2_back_44, eX2_back_47, ox_O_s, ox_B_s, ox_g_t, ox_A_s, ox_push_s, ox_push_n, ox_some, ox_z0, ox_z1, iI_lt, iI_eq, iI_add, iI_sub, ig_at, if_true, if_false, if_pos, if_neg, f0, f1, f2, f3, f4, f5, f6, f7, f8, f9, f10, f11, f12, f13, f14, f15, wv]
    · simp (disch := omega) only [eX3_back_0, eX3_back_1, eX3_back_2, eX3_back_3, eX3_back_6, eX3_back_9, eX3_back_10, eX3_back_11, eX3_back_12, eX3_back_15, eX3_back_16, eX3_back_17, eX3_back_18, eX3_back_19, eX3_back_22, eX3_back_24, eX3_back_25, eX3_back_26, eX3_back_29, eX3_back_30, eX3_back_32, eX3_back_35, eX3_back_38, eX3_back_39, eX3_back_42, eX3_back_43, eX3_back_44, eX3_back_47, eX3_back_50, eX3_back_51, eX3_back_52, eX3_back_53, eX3_back_54, eX3_back_55, eX3_back_56, eX3_back_59, eX3_back_62, eX3_back_63, eX3_back_66, ox_O_s, ox_B_s, ox_g_t, ox_A_s, ox_push_s, ox_push_n, ox_some, ox_z0, ox_z1, iI_lt, iI_eq, iI_add, iI_sub, ig_at, if_true, if_false, if_pos, if_neg, mO, iv]
theorem vx_rf {X X' : ol} (hV : vx X) (hS : rfS X X') (hm : 0 ≤ X'.1 2 ∧ X'.1 2 ≤ 12) (hk : ∀ k, 0 ≤ k → k < X'.1 2 → (∃ p, 0 ≤ p ∧ p < X.1 0 ∧ ig (X.2 0) p = ig (X'.2 8) k) ∧ (ig (X'.2 9) k = -9 ∨ ∃ p, 0 ≤ p ∧ p < X.1 0 ∧ ig (X.2 0) p = ig (X'.2 9) k)) : vx X' := by
  obtain ⟨vl, vn, vo, vi, va, vfst, vs, vz, vr, vc, vt, vm, vk⟩ := hV
  obtain ⟨a1, a2, a3, a4⟩ := hS
  have e0 := a1 0 (by decide)
  have e1 := a1 1 (by decide)
  have f0 := a2 0 (by decide) (by decide)
  have f1 := a2 1 (by decide) (by decide)
  have f2 := a2 2 (by decide) (by decide)
  have f3 := a2 3 (by decide) (by decide)
  have f4 := a2 4 (by decide) (by decide)
  have f5 := a2 5 (by decide) (by decide)
  have f6 := a2 6 (by decide) (by decide)
  have f7 := a2 7 (by decide) (by decide)
  unfold vx
  rw [e0, e1, f0, f1, f2, f3, f4, f5, f6, f7]
  refine ⟨fun k hk => ?_, vn, vo, vi, va, vfst, vs, vz, vr, vc, vt, hm, hk⟩
  by_cases z8 : k = 8
  · subst z8; rw [a3]; exact vl 8 hk
  · by_cases z9 : k = 9
    · subst z9; rw [a4]; exact vl 9 hk
    · rw [a2 k z8 z9]; exact vl k hk
/-- what w says of the references -/
def RR (X : ol) (w : List Int) : Prop := w.length = 218 ∧ ig w 192 = X.1 2 ∧ ∀ k, 0 ≤ k → k < X.1 2 → ig w (193 + k) = ig (X.2 8) k ∧ ig w (205 + k) = ig (X.2 9) k
/-- w but for its references -/
def wS (w w' : List Int) : Prop := w'.length = w.length ∧ ∀ q, 0 ≤ q → (q < 192 ∨ q = 217) → ig w' q = ig w q
theorem wS_rf (w : List Int) : wS w w := ⟨rfl, fun _ _ _ => rfl⟩
theorem wS_tr {a b c : List Int} (h : wS a b) (g : wS b c) : wS a c := ⟨g.1.trans h.1, fun q q0 q1 => (g.2 q q0 q1).trans (h.2 q q0 q1)⟩
theorem Rel_RR {X : ol} {w : List Int} (hR : Rel X w) : RR X w := ⟨hR.1, hR.2.2.2.2.2.2.2.1, hR.2.2.2.2.2.2.2.2.1⟩
theorem rel_rf {X X' : ol} {w w' : List Int} (hV : vx X) (hR : Rel X w) (hS : rfS X X') (hw : wS w w') (hr : RR X' w') : Rel X' w' := by
  obtain ⟨rl, r0, r1, r2, r3, r4, r5, r6, r7, r8⟩ := hR
  obtain ⟨a1, a2, a3, a4⟩ := hS
  have hn := hV.2.1
  have e0 := a1 0 (by decide)
  have e1 := a1 1 (by decide)
  have f0 := a2 0 (by decide) (by decide)
  have f1 := a2 1 (by decide) (by decide)
  have f2 := a2 2 (by decide) (by decide)
  have f3 := a2 3 (by decide) (by decide)
  have f4 := a2 4 (by decide) (by decide)
  have f5 := a2 5 (by decide) (by decide)
  have f6 := a2 6 (by decide) (by decide)
  have f7 := a2 7 (by decide) (by decide)
  unfold Rel
  rw [e0, e1, f0, f1, f2, f3, f4, f5, f6, f7]
  refine ⟨hr.1, by rw [hw.2 0 (by omega) (by omega)]; exact r0, fun p p0 p1 => by rw [hw.2 _ (by omega) (by omega)]; exact r1 p p0 p1, fun p p0 p1 => ?_, fun k k0 k1 => by rw [hw.2 _ (by omega) (by omega)]; exact r3 k k0 k1, by rw [hw.2 _ (by omega) (by omega)]; exact r4, fun l l0 l1 => by rw [hw.2 _ (by omega) (by omega)]; exact r5 l l0 l1, hr.2.1, hr.2.2, by rw [hw.2 _ (by omega) (by omega)]; exact r8⟩
  have ho := hV.2.2.1 p p0 p1
  rw [hw.2 _ (by omega) (by omega), hw.2 _ (by omega) (by omega), hw.2 _ (by omega) (by omega), hw.2 _ (by omega) (by omega), hw.2 _ (by omega) (by omega)]
  exact r2 p p0 p1
theorem st_refer {xs : List Int32} {h : ox_H} (hS : Sm xs h) (a b : Int32) : ST xs h (fun h => oe 60 0 [.ref 4, .int a, .int b] [] h) (fun h => oe 128 0 [.ref 133, .int a, .int b, .null] [] h) := by
  obtain ⟨X, c, A, H, I, K, T, U, Y, h0, hC, hM, hR⟩ := sm_parts hS
  obtain ⟨s1, s2, s3, s4, s5, -⟩ := id hR
  obtain ⟨b1, b2, b3, -⟩ := id hC
  have hw : (Y.2 0).length = 218 := s2.1
  obtain ⟨f0, f1, f2, f3, f4, f5, f6, f7, f8, f9, f10, f11, f12, f13, f14, f15⟩ := CS_facts hC
  have mO := (ma_facts hM).1
  obtain ⟨z, rfl, z0, z1⟩ := iI_ex a
  obtain ⟨y, rfl, y0, y1⟩ := iI_ex b
  have hm := s1.2.2.2.2.2.2.2.2.2.2.2.1
  have r6 := s2.2.2.2.2.2.2.2.1
  have ng := (oa_facts b3).2.2.2.2.2.2.2.2.2.2.2.1
  have l8 : (X.2 8).length = 12 := s1.1 8 (by decide)
  have l9 : (X.2 9).length = 12 := s1.1 9 (by decide)
  rcases ol_find X z with ⟨p, p0, p1, rfl⟩ | hz
  · have hh := k1_has1 b3 s1 p0 p1
    have hhd := k3_isHeading1 hM s2 s1 p0 p1
    rcases ol_find X y with ⟨q, q0, q1, rfl⟩ | hy
    · have hh' := k1_has1 b3 s1 q0 q1
      have hhd' := k3_isHeading1 hM s2 s1 q0 q1
      obtain ⟨mO', m0, m1, m2, m3, m4, m5, m6, m7, m8, m9, mi0, mi1, mi2, mi3, mi4, mi5, mj0, mj1, mj2, mj3, mj4, mj5⟩ := ma_facts hM
      by_cases rf : X.1 2 = 12
      · refine ST_same (v := iI (-3)) hS ?_ ?_
        · simp (disch := omega) only [eX2_refer_0, eX2_refer_1, eX2_refer_4, eX2_refer_5, eX2_refer_8, eX2_refer_11, eX2_refer_12, eX2_refer_15, eX2_refer_16, eX2_refer_19, eX2_refer_22, eX2_refer_23, eX2_refer_24, eX2_refer_25, eX2_refer_28, eX2_refer_31, eX2_refer_33, eX2_refer_36, eX2_refer_38, eX2_refer_39, eX2_refer_40, eX2_refer_43, eX2_refer_44, eX2_refer_47, eX2_refer_48, eX2_refer_49, eX2_refer_52, ox_O_s, ox_B_s, ox_g_t, ox_A_s, ox_push_s, ox_push_n, ox_some, ox_z0, ox_z1, iI_lt, iI_eq, iI_add, iI_sub, ig_at, if_true, if_false, if_pos, if_neg, f0, f1, f2, f3, f4, f5, f6, f7, f8, f9, f10, f11, f12, f13, f14, f15, hh, hh', ng]
        · simp (disch := omega) only [eX3_refer_0, eX3_refer_1, eX3_refer_2, eX3_refer_5, eX3_refer_8, eX3_refer_9, eX3_refer_10, eX3_refer_13, eX3_refer_16, eX3_refer_17, eX3_refer_18, eX3_refer_19, eX3_refer_22, eX3_refer_25, eX3_refer_26, eX3_refer_28, eX3_refer_31, eX3_refer_33, eX3_refer_34, eX3_refer_35, eX3_refer_38, eX3_refer_39, eX3_refer_42, eX3_refer_45, eX3_refer_46, eX3_refer_47, eX3_refer_48, eX3_refer_51, eX3_refer_54, eX3_refer_55, eX3_refer_56, eX3_refer_57, eX3_refer_58, eX3_refer_59, eX3_refer_62, eX3_refer_65, eX3_refer_66, eX3_refer_67, eX3_refer_68, eX3_refer_69, eX3_refer_70, eX3_refer_73, eX3_refer_76, eX3_refer_77, eX3_refer_78, eX3_refer_79, eX3_refer_80, eX3_refer_81, eX3_refer_82, ox_O_s, ox_B_s, ox_g_t, ox_A_s, ox_push_s, ox_push_n, ox_some, ox_z0, ox_z1, iI_lt, iI_eq, iI_add, iI_sub, ig_at, if_true, if_false, if_pos, if_neg, mO, hhd, hhd', m0, m1, m2, m3, m4, m5, m6, m7, m8, m9, mi0, mi1, mi2, mi3, mi4, mi5, mj0, mj1, mj2, mj3, mj4, mj5, r6]
      · obtain ⟨h', A', e1, hC', hfr⟩ := k2_remember hC s1.1 s3.1 s3.2
        have hO' := hC'.2.2.1
        have hl' : h'.length = 140 := hC'.1
        rw [← hput_self hO'] at e1
        have hC2 := CS_now (X' := X) hC'
        obtain ⟨g0, g1, g2, g3, g4, g5, g6, g7, g8, g9, g10, g11, g12, g13, g14, g15⟩ := CS_facts hC2
        have hb5 : 5 + 10 < h'.length := by omega
        have hlk := k1_link (h := h') (o := 5) (X := X) hb5 l8 l9 hm.1 (by omega) (s := ig (X.2 0) p) (t := ig (X.2 0) q)
        have hrS : rfS X (nset (oset (oset X 8 (iu (X.2 8) (X.1 2) (ig (X.2 0) p))) 9 (iu (X.2 9) (X.1 2) (ig (X.2 0) q))) 2 (X.1 2 + 1)) := ⟨fun j hj => by rw [ns_1, if_neg hj]; rfl, fun j h8 h9 => by rw [ns_2, os_2, if_neg h9, os_2, if_neg h8], iu_len _ _ _, iu_len _ _ _⟩
        refine ST_chg0 (h1 := hput h' 5 (nset (oset (oset X 8 (iu (X.2 8) (X.1 2) (ig (X.2 0) p))) 9 (iu (X.2 9) (X.1 2) (ig (X.2 0) q))) 2 (X.1 2 + 1))) (v := iI (X.1 2)) h0 hM hR ?_ (CS_now hC') (fun a ha => by rw [gp_out (by omega)]; exact hfr a ha) (w' := iu (iu (iu (Y.2 0) (193 + X.1 2) (ig (X.2 0) p)) (205 + X.1 2) (ig (X.2 0) q)) 192 (X.1 2 + 1)) ?_ ?_ ?_
        · simp (disch := omega) only [eX2_refer_0, eX2_refer_1, eX2_refer_4, eX2_refer_5, eX2_refer_8, eX2_refer_11, eX2_refer_12, eX2_refer_15, eX2_refer_16, eX2_refer_19, eX2_refer_22, eX2_refer_23, eX2_refer_24, eX2_refer_25, eX2_refer_28, eX2_refer_31, eX2_refer_33, eX2_refer_36, eX2_refer_38, eX2_refer_39, eX2_refer_40, eX2_refer_43, eX2_refer_44, eX2_refer_47, eX2_refer_48, eX2_refer_49, eX2_refer_52, ox_O_s, ox_B_s, ox_g_t, ox_A_s, ox_push_s, ox_push_n, ox_some, ox_z0, ox_z1, iI_lt, iI_eq, iI_add, iI_sub, ig_at, if_true, if_false, if_pos, if_neg, f0, f1, f2, f3, f4, f5, f6, f7, f8, f9, f10, f11, f12, f13, f14, f15, hh, hh', ng, e1, g0, g1, g2, g3, g4, g5, g6, g7, g8, g9, g10, g11, g12, g13, g14, g15, hp_obj, hlk]
        · have hb6 : 133 + 6 < (hput h' 5 (nset (oset (oset X 8 (iu (X.2 8) (X.1 2) (ig (X.2 0) p))) 9 (iu (X.2 9) (X.1 2) (ig (X.2 0) q))) 2 (X.1 2 + 1))).length := by rw [gp_len]; omega
          have hM2 := ma_put (X := Y) hb6
          have k1 := k3_isHeading1 hM2 s2 s1 p0 p1
          have k2 := k3_isHeading1 hM2 s2 s1 q0 q1
          have hr := k3_remember hb6 hw s5 (by omega) (by omega)
          have e0 := (paN_k Y).2.2.1 0 (by decide)
          have n1 : (iu (Y.2 0) (193 + X.1 2) (ig (X.2 0) p)).length = 218 := by rw [iu_len]; exact hw
          have n2 : (iu (iu (Y.2 0) (193 + X.1 2) (ig (X.2 0) p)) (205 + X.1 2) (ig (X.2 0) q)).length = 218 := by rw [iu_len]; exact n1
          have e192 : ig (iu (iu (Y.2 0) (193 + X.1 2) (ig (X.2 0) p)) (205 + X.1 2) (ig (X.2 0) q)) 192 = X.1 2 := by
            rw [ig_ne (by omega) (by omega) (by omega), ig_ne (by omega) (by omega) (by omega)]; exact r6
          simp (disch := omega) only [eX3_refer_0, eX3_refer_1, eX3_refer_2, eX3_refer_5, eX3_refer_8, eX3_refer_9, eX3_refer_10, eX3_refer_13, eX3_refer_16, eX3_refer_17, eX3_refer_18, eX3_refer_19, eX3_refer_22, eX3_refer_25, eX3_refer_26, eX3_refer_28, eX3_refer_31, eX3_refer_33, eX3_refer_34, eX3_refer_35, eX3_refer_38, eX3_refer_39, eX3_refer_42, eX3_refer_45, eX3_refer_46, eX3_refer_47, eX3_refer_48, eX3_refer_51, eX3_refer_54, eX3_refer_55, eX3_refer_56, eX3_refer_57, eX3_refer_58, eX3_refer_59, eX3_refer_62, eX3_refer_65, eX3_refer_66, eX3_refer_67, eX3_refer_68, eX3_refer_69, eX3_refer_70, eX3_refer_73, eX3_refer_76, eX3_refer_77, eX3_refer_78, eX3_refer_79, eX3_refer_80, eX3_refer_81, eX3_refer_82, ox_O_s, ox_B_s, ox_g_t, ox_A_s, ox_push_s, ox_push_n, ox_some, ox_z0, ox_z1, iI_lt, iI_eq, iI_add, iI_sub, ig_at, if_true, if_false, if_pos, if_neg, mp_obj, mp_f0, mp_f1, mp_f2, mp_f3, mp_f4, mp_f5, mp_f6, mp_f7, mp_f8, mp_f9, mp_i0, mp_i1, mp_i2, mp_i3, mp_i4, mp_i5, mp_j0, mp_j1, mp_j2, mp_j3, mp_j4, mp_j5, mp_s0, mp_s1, mp_s2, mp_s3, mp_s4, mp_s5, mp_w2, mp_w4, mp_w6, mp_w9, oa_gl, ma_gl, ig_set, os_2, os_1, ns_1, ns_2, os_os, ns_ns, k1, k2, r6, hr, e0, e192]
        · refine vx_rf s1 hrS (by rw [ns_1, if_pos rfl]; omega) (fun k k0 k1 => ?_)
          rw [ns_1, if_pos rfl] at k1
          show (∃ p', 0 ≤ p' ∧ p' < X.1 0 ∧ ig (X.2 0) p' = ig (iu (X.2 8) (X.1 2) (ig (X.2 0) p)) k) ∧ (ig (iu (X.2 9) (X.1 2) (ig (X.2 0) q)) k = -9 ∨ ∃ p', 0 ≤ p' ∧ p' < X.1 0 ∧ ig (X.2 0) p' = ig (iu (X.2 9) (X.1 2) (ig (X.2 0) q)) k)
          rw [ig_iu hm.1 (by omega) k0, ig_iu hm.1 (by omega) k0]
          by_cases e : X.1 2 = k
          · rw [if_pos e, if_pos e]; exact ⟨⟨p, p0, p1, rfl⟩, Or.inr ⟨q, q0, q1, rfl⟩⟩
          · rw [if_neg e, if_neg e]; exact s1.2.2.2.2.2.2.2.2.2.2.2.2 k k0 (by omega)
        · refine rel_rf s1 s2 hrS ⟨by rw [iu_len, iu_len, iu_len], fun k k0 k1 => by rw [ig_ne (by omega) (by omega) (by omega), ig_ne (by omega) (by omega) (by omega), ig_ne (by omega) (by omega) (by omega)]⟩ ⟨by rw [iu_len, iu_len, iu_len]; exact hw, by rw [ig_self (by omega) (by rw [iu_len, iu_len]; omega)]; rfl, fun k k0 k1 => ?_⟩
          rw [ns_1, if_pos rfl] at k1
          show _ = ig (iu (X.2 8) (X.1 2) (ig (X.2 0) p)) k ∧ _ = ig (iu (X.2 9) (X.1 2) (ig (X.2 0) q)) k
          rw [ig_iu hm.1 (by omega) k0, ig_iu hm.1 (by omega) k0]
          refine ⟨?_, ?_⟩
          · rw [ig_ne (by omega) (by omega) (by omega), ig_ne (by omega) (by omega) (by omega), ig_iu (by omega) (by omega) (by omega)]
            by_cases e : X.1 2 = k
            · rw [if_pos e, if_pos (by omega)]
            · rw [if_neg e, if_neg (by omega)]; exact (s2.2.2.2.2.2.2.2.2.1 k k0 (by omega)).1
          · rw [ig_ne (by omega) (by omega) (by omega), ig_iu (by omega) (by rw [iu_len]; omega) (by omega)]
            by_cases e : X.1 2 = k
            · rw [if_pos e, if_pos (by omega)]
            · rw [if_neg e, if_neg (by omega), ig_ne (by omega) (by omega) (by omega)]; exact (s2.2.2.2.2.2.2.2.2.1 k k0 (by omega)).2
    · have hh' := k1_has0 b3 s1 y0 y1 hy
      have hhd' := k3_isHeading0 hM s2 s1 y0 y1 hy
      refine ST_same (v := iI (-1)) hS ?_ ?_
      · simp (disch := omega) only [eX2_refer_0, eX2_refer_1, eX2_refer_4, eX2_refer_5, eX2_refer_8, eX2_refer_11, eX2_refer_12, eX2_refer_15, eX2_refer_16, eX2_refer_19, eX2_refer_22, eX2_refer_23, eX2_refer_24, eX2_refer_25, eX2_refer_28, eX2_refer_31, eX2_refer_33, eX2_refer_36, eX2_refer_38, eX2_refer_39, eX2_refer_40, eX2_refer_43, eX2_refer_44, eX2_refer_47, eX2_refer_48, eX2_refer_49, eX2_refer_52, ox_O_s, ox_B_s, ox_g_t, ox_A_s, ox_push_s, ox_push_n, ox_some, ox_z0, ox_z1, iI_lt, iI_eq, iI_add, iI_sub, ig_at, if_true, if_false, if_pos, if_neg, f0, f1, f2, f3, f4, f5, f6, f7, f8, f9, f10, f11, f12, f13, f14, f15, hh, hh']
      · simp (disch := omega) only [eX3_refer_0, eX3_refer_1, eX3_refer_2, eX3_refer_5, eX3_refer_8, eX3_refer_9, eX3_refer_10, eX3_refer_13, eX3_refer_16, eX3_refer_17, eX3_refer_18, eX3_refer_19, eX3_refer_22, eX3_refer_25, eX3_refer_26, eX3_refer_28, eX3_refer_31, eX3_refer_33, eX3_refer_34, eX3_refer_35, eX3_refer_38, eX3_refer_39, eX3_refer_42, eX3_refer_45, eX3_refer_46, eX3_refer_47, eX3_refer_48, eX3_refer_51, eX3_refer_54, eX3_refer_55, eX3_refer_56, eX3_refer_57, eX3_refer_58, eX3_refer_59, eX3_refer_62, eX3_refer_65, eX3_refer_66, eX3_refer_67, eX3_refer_68, eX3_refer_69, eX3_refer_70, eX3_refer_73, eX3_refer_76, eX3_refer_77, eX3_refer_78, eX3_refer_79, eX3_refer_80, eX3_refer_81, eX3_refer_82, ox_O_s, ox_B_s, ox_g_t, ox_A_s, ox_push_s, ox_push_n, ox_some, ox_z0, ox_z1, iI_lt, iI_eq, iI_add, iI_sub, ig_at, if_true, if_false, if_pos, if_neg, mO, hhd, hhd']
  · have hh := k1_has0 b3 s1 z0 z1 hz
    have hhd := k3_isHeading0 hM s2 s1 z0 z1 hz
    refine ST_same (v := iI (-1)) hS ?_ ?_
    · simp (disch := omega) only [eX2_refer_0, eX2_refer_1, eX2_refer_4, eX2_refer_5, eX2_refer_8, eX2_refer_11, eX2_refer_12, eX2_refer_15, eX2_refer_16, eX2_refer_19, eX2_refer_22, eX2_refer_23, eX2_refer_24, eX2_refer_25, eX2_refer_28, eX2_refer_31, eX2_refer_33, eX2_refer_36, eX2_refer_38, eX2_refer_39, eX2_refer_40, eX2_refer_43, eX2_refer_44, eX2_refer_47, eX2_refer_48, eX2_refer_49, eX2_refer_52, ox_O_s, ox_B_s, ox_g_t, ox_A_s, ox_push_s, ox_push_n, ox_some, ox_z0, ox_z1, iI_lt, iI_eq, iI_add, iI_sub, ig_at, if_true, if_false, if_pos, if_neg, f0, f1, f2, f3, f4, f5, f6, f7, f8, f9, f10, f11, f12, f13, f14, f15, hh]
    · simp (disch := omega) only [eX3_refer_0, eX3_refer_1, eX3_refer_2, eX3_refer_5, eX3_refer_8, eX3_refer_9, eX3_refer_10, eX3_refer_13, eX3_refer_16, eX3_refer_17, eX3_refer_18, eX3_refer_19, eX3_refer_22, eX3_refer_25, eX3_refer_26, eX3_refer_28, eX3_refer_31, eX3_refer_33, eX3_refer_34, eX3_refer_35, eX3_refer_38, eX3_refer_39, eX3_refer_42, eX3_refer_45, eX3_refer_46, eX3_refer_47, eX3_refer_48, eX3_refer_51, eX3_refer_54, eX3_refer_55, eX3_refer_56, eX3_refer_57, eX3_refer_58, eX3_refer_59, eX3_refer_62, eX3_refer_65, eX3_refer_66, eX3_refer_67, eX3_refer_68, eX3_refer_69, eX3_refer_70, eX3_refer_73, eX3_refer_76, eX3_refer_77, eX3_refer_78, eX3_refer_79, eX3_refer_80, eX3_refer_81, eX3_refer_82, ox_O_s, ox_B_s, ox_g_t, ox_A_s, ox_push_s, ox_push_n, ox_some, ox_z0, ox_z1, iI_lt, iI_eq, iI_add, iI_sub, ig_at, if_true, if_false, if_pos, if_neg, mO, hhd]
theorem st_setKind {xs : List Int32} {h : ox_H} (hS : Sm xs h) (a b : Int32) : ST xs h (fun h => oe 52 0 [.ref 4, .int a, .int b, .null, .null, .null, .null] [] h) (fun h => oe 108 0 [.ref 133, .int a, .int b, .null, .null] [] h) := by
  obtain ⟨X, c, A, H, I, K, T, U, Y, h0, hC, hM, hR⟩ := sm_parts hS
  obtain ⟨s1, s2, s3, s4, s5, -⟩ := id hR
  obtain ⟨b1, b2, b3, -⟩ := id hC
  have hw : (Y.2 0).length = 218 := s2.1
  obtain ⟨f0, f1, f2, f3, f4, f5, f6, f7, f8, f9, f10, f11, f12, f13, f14, f15⟩ := CS_facts hC
  have mO := (ma_facts hM).1
  obtain ⟨z, rfl, z0, z1⟩ := iI_ex a
  obtain ⟨v, rfl, v0, v1⟩ := iI_ex b
  have hn := s1.2.1
  rcases ol_find X z with ⟨p, p0, p1, rfl⟩ | hz
  · have hpl := k1_placeOf1 b3 s1 p0 p1
    have ho := s1.2.2.1 p p0 p1
    have hwi := k2_within (h := h) (a := v) (b := 0) (c := 3) v0 v1 (by omega) (by omega) (by omega) (by omega)
    have hin := fun h' : ox_H => k3_isIn (h := h') (a := v) (b := 0) (c := 3) v0 v1 (by omega) (by omega) (by omega) (by omega)
    have hhd := k3_isHeading1 hM s2 s1 p0 p1
    by_cases r : 0 ≤ v ∧ v ≤ 3
    · simp only [decide_eq_true r, zb_t] at hwi hin
      have hlb := lvA_b s1 p
      have hl := k1_levelAt b3 s1 (p := p) (by omega) (by omega)
      have hpa := k1_placeAbove b3 s1 (p := p) (lv := lvA X p) (by omega) (by omega) (by omega) (by omega)
      have hpb := pA_b (lvA X) (lvA X p) p.toNat
      have hka := k1_kindAt b3 s1 (p := pA (lvA X) (lvA X p) p.toNat) (by omega) (by omega)
      have hkb := kdA_b s1 (pA (lvA X) (lvA X p) p.toNat)
      have hal := k1_allows b3 s1 (pk := kdA X (pA (lvA X) (lvA X p) p.toNat)) (k := v) hkb.1 hkb.2 r.1 r.2
      have haa := k1_allowsAll b3 s1 (pk := v) (p := p + 1) (lv := lvA X p + 1) (by omega) r.2 (by omega) (by omega) (by omega) (by omega)
      have mAll := fun (h' : ox_H) (hM' : MA h' 133 Y) => And.intro (k3_isHeading1 hM' s2 s1 p0 p1) (And.intro (k3_placeOf1 hM' s2 s1 p0 p1) (And.intro (k3_parentOf hM' s2 s1 p0 p1) (And.intro (k3_isAllowed hM' s2 s1 (q := pA (lvA X) (lvA X p) p.toNat) (k := v) (by omega) (by omega) r.1 r.2) (And.intro (k3_levelAt hM' s2 s1 p0 p1) (k3_mayHave hM' s2 s1 (pk := v) (p := p + 1) (lv := lvA X p + 1) r.1 r.2 (by omega) (by omega) (by omega) (by omega))))))
      by_cases ok : alw X (kdA X (pA (lvA X) (lvA X p) p.toNat)) v = true ∧ aaX X v (p + 1) (lvA X p + 1) = true
      · rw [ok.1] at hal
        rw [ok.2] at haa
        simp only [ok.1, ok.2, zb_t] at mAll
        obtain ⟨h', A', e1, hC', hfr⟩ := k2_remember hC s1.1 s3.1 s3.2
        have hO' := hC'.2.2.1
        have hl' : h'.length = 140 := hC'.1
        rw [← hput_self hO'] at e1
        have hC2 := CS_now (X' := X) hC'
        obtain ⟨g0, g1, g2, g3, g4, g5, g6, g7, g8, g9, g10, g11, g12, g13, g14, g15⟩ := CS_facts hC2
        have hb5 : 5 + 10 < h'.length := by omega
        have l2 : (X.2 2).length = 30 := s1.1 2 (by decide)
        refine ST_chg0 (h1 := hput h' 5 (oset X 2 (iu (X.2 2) (ig (X.2 0) p) v))) (v := iI (ig (X.2 2) (ig (X.2 0) p))) h0 hM hR ?_ (CS_now hC') (fun a ha => by rw [gp_out (by omega)]; exact hfr a ha) (w' := iu (Y.2 0) (61 + ig (X.2 0) p) v) ?_ (vx_a2 s1 (by omega) (by omega) ho.1 ho.2) (rel_a2 s1 s2 ho.1 ho.2)
        · simp (disch := omega) only [eX2_setKind_0, eX2_setKind_1, eX2_setKind_4, eX2_setKind_5, eX2_setKind_8, eX2_setKind_9, eX2_setKind_10, eX2_setKind_13, eX2_setKind_14, eX2_setKind_15, eX2_setKind_16, eX2_setKind_19, eX2_setKind_22, eX2_setKind_23, eX2_setKind_24, eX2_setKind_25, eX2_setKind_28, eX2_setKind_29, eX2_setKind_32, eX2_setKind_34, eX2_setKind_35, eX2_setKind_38, eX2_setKind_39, eX2_setKind_41, eX2_setKind_44, eX2_setKind_46, eX2_setKind_47, eX2_setKind_50, eX2_setKind_51, eX2_setKind_54, eX2_setKind_56, eX2_setKind_59, eX2_setKind_60, eX2_setKind_63, eX2_setKind_66, eX2_setKind_67, eX2_setKind_70, eX2_setKind_71, eX2_setKind_72, eX2_setKind_73, eX2_setKind_74, eX2_setKind_76, eX2_setKind_77, eX2_setKind_78, eX2_setKind_81, eX2_setKind_84, eX2_setKind_86, eX2_setKind_87, eX2_setKind_88, eX2_setKind_91, eX2_setKind_92, eX2_setKind_95, eX2_setKind_98, eX2_setKind_99, eX2_setKind_100, eX2_setKind_102, eX2_setKind_103, eX2_setKind_106, eX2_setKind_109, eX2_setKind_110, eX2_setKind_111, eX2_setKind_112, eX2_setKind_114, ox_O_s, ox_B_s, ox_g_t, ox_A_s, ox_push_s, ox_push_n, ox_some, ox_z0, ox_z1, iI_lt, iI_eq, iI_add, iI_sub, ig_at, if_true, if_false, if_pos, if_neg, f0, f1, f2, f3, f4, f5, f6, f7, f8, f9, f10, f11, f12, f13, f14, f15, hpl, hwi, hl, hpa, hka, hal, haa, zb_t, e1, g0, g1, g2, g3, g4, g5, g6, g7, g8, g9, g10, g11, g12, g13, g14, g15, hp_obj, hp_f0, hp_f1, hp_f2, hp_f3, hp_f4, hp_f5, hp_f6, hp_f7, hp_f8, hp_f9, hp_f10, hp_f11, hp_f12, hp_i0, hp_i1, hp_i2, hp_i3, hp_i4, hp_i5, hp_i6, hp_i7, hp_i8, hp_i9, hp_j0, hp_j1, hp_j2, hp_j3, hp_j4, hp_j5, hp_j6, hp_j7, hp_j8, hp_j9, hp_s0, hp_s1, hp_s2, hp_s3, hp_s4, hp_s5, hp_s6, hp_s7, hp_s8, hp_s9, hp_w0, hp_w9, hp_w10, oa_gl, ma_gl, ig_set, os_2, os_1, ns_1, ns_2, os_os, ns_ns]
        · have hb6 : 133 + 6 < (hput h' 5 (oset X 2 (iu (X.2 2) (ig (X.2 0) p) v))).length := by rw [gp_len]; omega
          obtain ⟨c1, c2, c3, c4, c5, c6⟩ := mAll _ (ma_put (X := Y) hb6)
          have hr := k3_remember hb6 hw s5 (by omega) (by omega)
          have e0 := (paN_k Y).2.2.1 0 (by decide)
          have er := (s2.2.2.2.1 p p0 p1).2.1
          simp (disch := omega) only [eX3_setKind_0, eX3_setKind_1, eX3_setKind_2, eX3_setKind_5, eX3_setKind_8, eX3_setKind_9, eX3_setKind_10, eX3_setKind_11, eX3_setKind_14, eX3_setKind_17, eX3_setKind_18, eX3_setKind_19, eX3_setKind_20, eX3_setKind_21, eX3_setKind_24, eX3_setKind_25, eX3_setKind_26, eX3_setKind_27, eX3_setKind_28, eX3_setKind_31, eX3_setKind_32, eX3_setKind_35, eX3_setKind_38, eX3_setKind_39, eX3_setKind_40, eX3_setKind_41, eX3_setKind_42, eX3_setKind_43, eX3_setKind_44, eX3_setKind_45, eX3_setKind_48, eX3_setKind_49, eX3_setKind_50, eX3_setKind_53, eX3_setKind_56, eX3_setKind_58, eX3_setKind_59, eX3_setKind_60, eX3_setKind_63, eX3_setKind_64, eX3_setKind_67, eX3_setKind_69, eX3_setKind_70, eX3_setKind_71, eX3_setKind_72, eX3_setKind_74, eX3_setKind_75, eX3_setKind_78, eX3_setKind_80, eX3_setKind_81, eX3_setKind_82, eX3_setKind_83, eX3_setKind_84, eX3_setKind_86, ox_O_s, ox_B_s, ox_g_t, ox_A_s, ox_push_s, ox_push_n, ox_some, ox_z0, ox_z1, iI_lt, iI_eq, iI_add, iI_sub, ig_at, if_true, if_false, if_pos, if_neg, mp_obj, mp_f0, mp_f1, mp_f2, mp_f3, mp_f4, mp_f5, mp_f6, mp_f7, mp_f8, mp_f9, mp_i0, mp_i1, mp_i2, mp_i3, mp_i4, mp_i5, mp_j0, mp_j1, mp_j2, mp_j3, mp_j4, mp_j5, mp_s0, mp_s1, mp_s2, mp_s3, mp_s4, mp_s5, mp_w2, mp_w4, mp_w6, mp_w9, oa_gl, ma_gl, ig_set, os_2, os_1, ns_1, ns_2, os_os, ns_ns, hin, c1, c2, c3, c4, c5, c6, hr, e0, er]
      · refine ST_same (v := iI (-4)) hS ?_ ?_
        · cases q1 : alw X (kdA X (pA (lvA X) (lvA X p) p.toNat)) v with
          | false =>
            rw [q1] at hal
            simp (disch := omega) only [eX2_setKind_0, eX2_setKind_1, eX2_setKind_4, eX2_setKind_5, eX2_setKind_8, eX2_setKind_9, eX2_setKind_10, eX2_setKind_13, eX2_setKind_14, eX2_setKind_15, eX2_setKind_16, eX2_setKind_19, eX2_setKind_22, eX2_setKind_23, eX2_setKind_24, eX2_setKind_25, eX2_setKind_28, eX2_setKind_29, eX2_setKind_32, eX2_setKind_34, eX2_setKind_35, eX2_setKind_38, eX2_setKind_39, eX2_setKind_41, eX2_setKind_44, eX2_setKind_46, eX2_setKind_47, eX2_setKind_50, eX2_setKind_51, eX2_setKind_54, eX2_setKind_56, eX2_setKind_59, eX2_setKind_60, eX2_setKind_63, eX2_setKind_66, eX2_setKind_67, eX2_setKind_70, eX2_setKind_71, eX2_setKind_72, eX2_setKind_73, eX2_setKind_74, eX2_setKind_76, eX2_setKind_77, eX2_setKind_78, eX2_setKind_81, eX2_setKind_84, eX2_setKind_86, eX2_setKind_87, eX2_setKind_88, eX2_setKind_91, eX2_setKind_92, eX2_setKind_95, eX2_setKind_98, eX2_setKind_99, eX2_setKind_100, eX2_setKind_102, eX2_setKind_103, eX2_setKind_106, eX2_setKind_109, eX2_setKind_110, eX2_setKind_111, eX2_setKind_112, eX2_setKind_114, ox_O_s, ox_B_s, ox_g_t, ox_A_s, ox_push_s, ox_push_n, ox_some, ox_z0, ox_z1, iI_lt, iI_eq, iI_add, iI_sub, ig_at, if_true, if_false, if_pos, if_neg, f0, f1, f2, f3, f4, f5, f6, f7, f8, f9, f10, f11, f12, f13, f14, f15, hpl, hwi, hl, hpa, hka, hal, zb_f]
          | true =>
            have q2 : aaX X v (p + 1) (lvA X p + 1) = false := by
              cases q2 : aaX X v (p + 1) (lvA X p + 1) with
              | false => rfl
              | true => exact absurd ⟨q1, q2⟩ ok
            rw [q1] at hal
            rw [q2] at haa
            simp (disch := omega) only [eX2_setKind_0, eX2_setKind_1, eX2_setKind_4, eX2_setKind_5, eX2_setKind_8, eX2_setKind_9, eX2_setKind_10, eX2_setKind_13, eX2_setKind_14, eX2_setKind_15, eX2_setKind_16, eX2_setKind_19, eX2_setKind_22, eX2_setKind_23, eX2_setKind_24, eX2_setKind_25, eX2_setKind_28, eX2_setKind_29, eX2_setKind_32, eX2_setKind_34, eX2_setKind_35, eX2_setKind_38, eX2_setKind_39, eX2_setKind_41, eX2_setKind_44, eX2_setKind_46, eX2_setKind_47, eX2_setKind_50, eX2_setKind_51, eX2_setKind_54, eX2_setKind_56, eX2_setKind_59, eX2_setKind_60, eX2_setKind_63, eX2_setKind_66, eX2_setKind_67, eX2_setKind_70, eX2_setKind_71, eX2_setKind_72, eX2_setKind_73, eX2_setKind_74, eX2_setKind_76, eX2_setKind_77, eX2_setKind_78, eX2_setKind_81, eX2_setKind_84, eX2_setKind_86, eX2_setKind_87, eX2_setKind_88, eX2_setKind_91, eX2_setKind_92, eX2_setKind_95, eX2_setKind_98, eX2_setKind_99, eX2_setKind_100, eX2_setKind_102, eX2_setKind_103, eX2_setKind_106, eX2_setKind_109, eX2_setKind_110, eX2_setKind_111, eX2_setKind_112, eX2_setKind_114, ox_O_s, ox_B_s, ox_g_t, ox_A_s, ox_push_s, ox_push_n, ox_some, ox_z0, ox_z1, iI_lt, iI_eq, iI_add, iI_sub, ig_at, if_true, if_false, if_pos, if_neg, f0, f1, f2, f3, f4, f5, f6, f7, f8, f9, f10, f11, f12, f13, f14, f15, hpl, hwi, hl, hpa, hka, hal, haa, zb_f, zb_t]
        · obtain ⟨c1, c2, c3, c4, c5, c6⟩ := mAll _ hM
          cases q1 : alw X (kdA X (pA (lvA X) (lvA X p) p.toNat)) v with
          | false =>
            rw [q1] at c4
            simp (disch := omega) only [eX3_setKind_0, eX3_setKind_1, eX3_setKind_2, eX3_setKind_5, eX3_setKind_8, eX3_setKind_9, eX3_setKind_10, eX3_setKind_11, eX3_setKind_14, eX3_setKind_17, eX3_setKind_18, eX3_setKind_19, eX3_setKind_20, eX3_setKind_21, eX3_setKind_24, eX3_setKind_25, eX3_setKind_26, eX3_setKind_27, eX3_setKind_28, eX3_setKind_31, eX3_setKind_32, eX3_setKind_35, eX3_setKind_38, eX3_setKind_39, eX3_setKind_40, eX3_setKind_41, eX3_setKind_42, eX3_setKind_43, eX3_setKind_44, eX3_setKind_45, eX3_setKind_48, eX3_setKind_49, eX3_setKind_50, eX3_setKind_53, eX3_setKind_56, eX3_setKind_58, eX3_setKind_59, eX3_setKind_60, eX3_setKind_63, eX3_setKind_64, eX3_setKind_67, eX3_setKind_69, eX3_setKind_70, eX3_setKind_71, eX3_setKind_72, eX3_setKind_74, eX3_setKind_75, eX3_setKind_78, eX3_setKind_80, eX3_setKind_81, eX3_setKind_82, eX3_setKind_83, eX3_setKind_84, eX3_setKind_86, ox_O_s, ox_B_s, ox_g_t, ox_A_s, ox_push_s, ox_push_n, ox_some, ox_z0, ox_z1, iI_lt, iI_eq, iI_add, iI_sub, ig_at, if_true, if_false, if_pos, if_neg, mO, hin, c1, c2, c3, c4, zb_f]
          | true =>
            have q2 : aaX X v (p + 1) (lvA X p + 1) = false := by
              cases q2 : aaX X v (p + 1) (lvA X p + 1) with
              | false => rfl
              | true => exact absurd ⟨q1, q2⟩ ok
            rw [q1] at c4
            rw [q2] at c6
            simp (disch := omega) only [eX3_setKind_0, eX3_setKind_1, eX3_setKind_2, eX3_setKind_5, eX3_setKind_8, eX3_setKind_9, eX3_setKind_10, eX3_setKind_11, eX3_setKind_14, eX3_setKind_17, eX3_setKind_18, eX3_setKind_19, eX3_setKind_20, eX3_setKind_21, eX3_setKind_24, eX3_setKind_25, eX3_setKind_26, eX3_setKind_27, eX3_setKind_28, eX3_setKind_31, eX3_setKind_32, eX3_setKind_35, eX3_setKind_38, eX3_setKind_39, eX3_setKind_40, eX3_setKind_41, eX3_setKind_42, eX3_setKind_43, eX3_setKind_44, eX3_setKind_45, eX3_setKind_48, eX3_setKind_49, eX3_setKind_50, eX3_setKind_53, eX3_setKind_56, eX3_setKind_58, eX3_setKind_59, eX3_setKind_60, eX3_setKind_63, eX3_setKind_64, eX3_setKind_67, eX3_setKind_69, eX3_setKind_70, eX3_setKind_71, eX3_setKind_72, eX3_setKind_74, eX3_setKind_75, eX3_setKind_78, eX3_setKind_80, eX3_setKind_81, eX3_setKind_82, eX3_setKind_83, eX3_setKind_84, eX3_setKind_86, ox_O_s, ox_B_s, ox_g_t, ox_A_s, ox_push_s, ox_push_n, ox_some, ox_z0, ox_z1, iI_lt, iI_eq, iI_add, iI_sub, ig_at, if_true, if_false, if_pos, if_neg, mO, hin, c1, c2, c3, c4, c5, c6, zb_f, zb_t]
    · simp only [decide_eq_false r, zb_f] at hwi hin
      refine ST_same (v := iI (-1)) hS ?_ ?_
      · simp (disch := omega) only [eX2_setKind_0, eX2_setKind_1, eX2_setKind_4, eX2_setKind_5, eX2_setKind_8, eX2_setKind_9, eX2_setKind_10, eX2_setKind_13, eX2_setKind_14, eX2_setKind_15, eX2_setKind_16, eX2_setKind_19, eX2_setKind_22, eX2_setKind_23, eX2_setKind_24, eX2_setKind_25, eX2_setKind_28, eX2_setKind_29, eX2_setKind_32, eX2_setKind_34, eX2_setKind_35, eX2_setKind_38, eX2_setKind_39, eX2_setKind_41, eX2_setKind_44, eX2_setKind_46, eX2_setKind_47, eX2_setKind_50, eX2_setKind_51, eX2_setKind_54, eX2_setKind_56, eX2_setKind_59, eX2_setKind_60, eX2_setKind_63, eX2_setKind_66, eX2_setKind_67, eX2_setKind_70, eX2_setKind_71, eX2_setKind_72, eX2_setKind_73, eX2_setKind_74, eX2_setKind_76, eX2_setKind_77, eX2_setKind_78, eX2_setKind_81, eX2_setKind_84, eX2_setKind_86, eX2_setKind_87, eX2_setKind_88, eX2_setKind_91, eX2_setKind_92, eX2_setKind_95, eX2_setKind_98, eX2_setKind_99, eX2_setKind_100, eX2_setKind_102, eX2_setKind_103, eX2_setKind_106, eX2_setKind_109, eX2_setKind_110, eX2_setKind_111, eX2_setKind_112, eX2_setKind_114, ox_O_s, ox_B_s, ox_g_t, ox_A_s, ox_push_s, ox_push_n, ox_some, ox_z0, ox_z1, iI_lt, iI_eq, iI_add, iI_sub, ig_at, if_true, if_false, if_pos, if_neg, f0, f1, f2, f3, f4, f5, f6, f7, f8, f9, f10, f11, f12, f13, f14, f15, hpl, hwi]
      · simp (disch := omega) only [eX3_setKind_0, eX3_setKind_1, eX3_setKind_2, eX3_setKind_5, eX3_setKind_8, eX3_setKind_9, eX3_setKind_10, eX3_setKind_11, eX3_setKind_14, eX3_setKind_17, eX3_setKind_18, eX3_setKind_19, eX3_setKind_20, eX3_setKind_21, eX3_setKind_24, eX3_setKind_25, eX3_setKind_26, eX3_setKind_27, eX3_setKind_28, eX3_setKind_31, eX3_setKind_32, eX3_setKind_35, eX3_setKind_38, eX3_setKind_39, eX3_setKind_40, eX3_setKind_41, eX3_setKind_42, eX3_setKind_43, eX3_setKind_44, eX3_setKind_45, eX3_setKind_48, eX3_setKind_49, eX3_setKind_50, eX3_setKind_53, eX3_setKind_56, eX3_setKind_58, eX3_setKind_59, eX3_setKind_60, eX3_setKind_63, eX3_setKind_64, eX3_setKind_67, eX3_setKind_69, eX3_setKind_70, eX3_setKind_71, eX3_setKind_72, eX3_setKind_74, eX3_setKind_75, eX3_setKind_78, eX3_setKind_80, eX3_setKind_81, eX3_setKind_82, eX3_setKind_83, eX3_setKind_84, eX3_setKind_86, ox_O_s, ox_B_s, ox_g_t, ox_A_s, ox_push_s, ox_push_n, ox_some, ox_z0, ox_z1, iI_lt, iI_eq, iI_add, iI_sub, ig_at, if_true, if_false, if_pos, if_neg, mO, hhd, hin]
  · have hpl := k1_placeOf0 b3 s1 z0 z1 hz
    have hhd := k3_isHeading0 hM s2 s1 z0 z1 hz
    refine ST_same (v := iI (-1)) hS ?_ ?_
    · simp (disch := omega) only [eX2_setKind_0, eX2_setKind_1, eX2_setKind_4, eX2_setKind_5, eX2_setKind_8, eX2_setKind_9, eX2_setKind_10, eX2_setKind_13, eX2_setKind_14, eX2_setKind_15, eX2_setKind_16, eX2_setKind_19, eX2_setKind_22, eX2_setKind_23, eX2_setKind_24, eX2_setKind_25, eX2_setKind_28, eX2_setKind_29, eX2_setKind_32, eX2_setKind_34, eX2_setKind_35, eX2_setKind_38, eX2_setKind_39, eX2_setKind_41, eX2_setKind_44, eX2_setKind_46, eX2_setKind_47, eX2_setKind_50, eX2_setKind_51, eX2_setKind_54, eX2_setKind_56, eX2_setKind_59, eX2_setKind_60, eX2_setKind_63, eX2_setKind_66, eX2_setKind_67, eX2_setKind_70, eX2_setKind_71, eX2_setKind_72, eX2_setKind_73, eX2_setKind_74, eX2_setKind_76, eX2_setKind_77, eX2_setKind_78, eX2_setKind_81, eX2_setKind_84, eX2_setKind_86, eX2_setKind_87, eX2_setKind_88, eX2_setKind_91, eX2_setKind_92, eX2_setKind_95, eX2_setKind_98, eX2_setKind_99, eX2_setKind_100, eX2_setKind_102, eX2_setKind_103, eX2_setKind_106, eX2_setKind_109, eX2_setKind_110, eX2_setKind_111, eX2_setKind_112, eX2_setKind_114, ox_O_s, ox_B_s, ox_g_t, ox_A_s, ox_push_s, ox_push_n, ox_some, ox_z0, ox_z1, iI_lt, iI_eq, iI_add, iI_sub, ig_at, if_true, if_false, if_pos, if_neg, f0, f1, f2, f3, f4, f5, f6, f7, f8, f9, f10, f11, f12, f13, f14, f15, hpl]
    · simp (disch := omega) only [eX3_setKind_0, eX3_setKind_1, eX3_setKind_2, eX3_setKind_5, eX3_setKind_8, eX3_setKind_9, eX3_setKind_10, eX3_setKind_11, eX3_setKind_14, eX3_setKind_17, eX3_setKind_18, eX3_setKind_19, eX3_setKind_20, eX3_setKind_21, eX3_setKind_24, eX3_setKind_25, eX3_setKind_26, eX3_setKind_27, eX3_setKind_28, eX3_setKind_31, eX3_setKind_32, eX3_setKind_35, eX3_setKind_38, eX3_setKind_39, eX3_setKind_40, eX3_setKind_41, eX3_setKind_42, eX3_setKind_43, eX3_setKind_44, eX3_setKind_45, eX3_setKind_48, eX3_setKind_49, eX3_setKind_50, eX3_setKind_53, eX3_setKind_56, eX3_setKind_58, eX3_setKind_59, eX3_setKind_60, eX3_setKind_63, eX3_setKind_64, eX3_setKind_67, eX3_setKind_69, eX3_setKind_70, eX3_setKind_71, eX3_setKind_72, eX3_setKind_74, eX3_setKind_75, eX3_setKind_78, eX3_setKind_80, eX3_setKind_81, eX3_setKind_82, eX3_setKind_83, eX3_setKind_84, eX3_setKind_86, ox_O_s, ox_B_s, ox_g_t, ox_A_s, ox_push_s, ox_push_n, ox_some, ox_z0, ox_z1, iI_lt, iI_eq, iI_add, iI_sub, ig_at, if_true, if_false, if_pos, if_neg, mO, hhd]
