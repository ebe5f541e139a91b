/-! The simulation: the class's object and the reference's, side by side. -/
def SR (X : ol) (c : Int) (H I : Nat → ol) (K : List Int) (T Y : ol) : Prop :=
  vx X ∧ Rel X (Y.2 0) ∧ (0 ≤ c ∧ c ≤ 8) ∧ Y.1 0 = c ∧ (Y.2 1).length = 1744 ∧ (∀ i : Nat, (i : Int) < c → vx (H i) ∧ Rel (H i) (sl (Y.2 1) i)) ∧ (Y.2 2).length = 436 ∧ (0 ≤ Y.1 1 ∧ Y.1 1 ≤ 3) ∧ (∀ i : Nat, i < 2 → ig K i = bt (Y.1 1) i ∧ (ig K i = 1 → vx (I i) ∧ Rel (I i) (sl (Y.2 2) i))) ∧ (0 ≤ T.1 0 ∧ T.1 0 ≤ 40) ∧ Y.1 2 = T.1 0 ∧ (Y.2 3).length = 40 ∧ (∀ i, 0 ≤ i → i < T.1 0 → ig (Y.2 3) i = ig (T.2 0) i ∧ 32 ≤ ig (T.2 0) i ∧ ig (T.2 0) i ≤ 126) ∧ (Y.2 4).length = 30 ∧ (Y.2 5).length = 120
def Sm (xs : List Int32) (h : ox_H) : Prop := h[0]? = some (.inl (2, xs)) ∧ ∃ X c A H I K T U Y, CS h X c A H I K T U ∧ MA h 133 Y ∧ SR X c H I K T Y
/-- one call on each: the same answer, and the simulation again -/
def ST (xs : List Int32) (h : ox_H) (f g : ox_H → Option ox_R) : Prop := ∃ v h1 h2, f h = some (some (.int v), h1) ∧ g h1 = some (some (.int v), h2) ∧ Sm xs h2 ∧ (ox_obj h1 133 3).isSome = true ∧ h1[0]? = some (.inl (2, xs))
theorem SR_change {X X' : ol} {c : Int} {H I : Nat → ol} {K : List Int} {T Y : ol} {w' : List Int} (hS : SR X c H I K T Y) (hV : vx X') (hR : Rel X' w') : SR X' (if c < 8 then c + 1 else 8) (hiN H c X) I K T (oset (paN Y) 0 w') := by
  obtain ⟨s1, s2, s3, s4, s5, s6, s7, s8, s9, s10, s11, s12, s13, s14, s15⟩ := hS
  have hk := paN_k Y
  have hw : (Y.2 0).length = 218 := s2.1
  have e1 : (paN Y).1 0 = if c < 8 then c + 1 else 8 := by rw [hk.1, s4]
  refine ⟨hV, ?_, ?_, ?_, ?_, ?_, ?_, ?_, ?_, s10, ?_, ?_, ?_, ?_, ?_⟩
  · rw [os_2, if_pos rfl]; exact hR
  · split <;> omega
  · rw [os_1]; exact e1
  · rw [os_2, if_neg (by decide), hk.2.2.2]; exact s5
  · intro i hi
    rw [os_2, if_neg (by decide)]
    have hsl := paN_sl hw s5 (by omega) (by omega) (i := (i : Int)) (by omega) (by rw [e1]; exact hi)
    rw [hsl, e1, s4]
    unfold hiN
    by_cases q : c < 8
    · rw [if_pos q] at hi
      rw [if_pos q, if_pos q, if_pos q]
      by_cases z : (i : Int) + 1 = c + 1
      · rw [if_pos z, show fu H c.toNat X i = X from if_pos (by omega)]
        exact ⟨s1, s2⟩
      · rw [if_neg z, show fu H c.toNat X i = H i from if_neg (by omega)]
        exact s6 i (by omega)
    · rw [if_neg q] at hi
      rw [if_neg q, if_neg q, if_neg q]
      by_cases z : (i : Int) + 1 = 8
      · rw [if_pos z, show fu (fun i => H (if i = 7 then 0 else i + 1)) 7 X i = X from if_pos (by omega)]
        exact ⟨s1, s2⟩
      · rw [if_neg z, show fu (fun i => H (if i = 7 then 0 else i + 1)) 7 X i = H (if i = 7 then 0 else i + 1) from if_neg (by omega), if_neg (show ¬ i = 7 by omega)]
        have := s6 (i + 1) (by omega)
        rw [show ((i + 1 : Nat) : Int) = (i : Int) + 1 by omega] at this
        exact this
  · rw [os_2, if_neg (by decide), hk.2.2.1 2 (by decide)]; exact s7
  · rw [os_1, hk.2.1 1 (by decide)]; exact s8
  · rw [os_1, hk.2.1 1 (by decide), os_2, if_neg (by decide), hk.2.2.1 2 (by decide)]; exact s9
  · rw [os_1, hk.2.1 2 (by decide)]; exact s11
  · rw [os_2, if_neg (by decide), hk.2.2.1 3 (by decide)]; exact s12
  · rw [os_2, if_neg (by decide), hk.2.2.1 3 (by decide)]; exact s13
  · rw [os_2, if_neg (by decide), hk.2.2.1 4 (by decide)]; exact s14
  · rw [os_2, if_neg (by decide), hk.2.2.1 5 (by decide)]; exact s15
theorem Rel_len {X : ol} {w : List Int} (h : Rel X w) : w.length = 218 := h.1
/-- a call that changes nothing -/
theorem ST_same {xs : List Int32} {h : ox_H} {f g : ox_H → Option ox_R} {v : Int32} (hS : Sm xs h) (hf : f h = some (some (.int v), h)) (hg : g h = some (some (.int v), h)) : ST xs h f g := by
  obtain ⟨h0, X, c, A, H, I, K, T, U, Y, hC, hM, hR⟩ := id hS
  exact ⟨v, h, h, hf, hg, hS, by rw [(ma_facts hM).1]; rfl, h0⟩
/-- a change: the class's object first, then the reference's -/
theorem ST_chg {xs : List Int32} {h h1 : ox_H} {f g : ox_H → Option ox_R} {v : Int32} {X X' : ol} {c : Int} {A A' : List Nat} {H I : Nat → ol} {K : List Int} {T U U' Y : ol} {w' pt nu : List Int} {nm : Int} (h0 : h[0]? = some (.inl (2, xs))) (hM : MA h 133 Y) (hS : SR X c H I K T Y) (hf : f h = some (some (.int v), h1)) (hC1 : CS h1 X' (if c < 8 then c + 1 else 8) A' (hiN H c X) I K T U') (hfr : ∀ a, (a < 4 ∨ 133 ≤ a) → h1[a]? = h[a]?) (hg : g (mput h1 133 Y) = some (some (.int v), mput h1 133 (nset (oset (oset (oset (paN Y) 0 w') 4 pt) 5 nu) 3 nm))) (hp : pt.length = 30) (hn : nu.length = 120) (hV : vx X') (hR : Rel X' w') : ST xs h f g := by
  have hM1 : MA h1 133 Y := ⟨by rw [hfr 133 (by omega)]; exact hM.1, fun k hk => by rw [hfr _ (by omega)]; exact hM.2 k hk⟩
  have hs := SR_change hS hV hR
  have hb : 133 + 6 < h1.length := by rw [hC1.1]; omega
  refine ⟨v, h1, mput h1 133 (nset (oset (oset (oset (paN Y) 0 w') 4 pt) 5 nu) 3 nm), hf, by rw [← hg, mput_self hM1], ⟨by rw [gp_out (by omega), hfr 0 (by omega)]; exact h0, X', _, A', hiN H c X, I, K, T, U', _, CS_frame hC1 gp_len (fun a ha => gp_out (by omega)), ma_put hb, ?_⟩, by rw [(ma_facts hM1).1]; rfl, by rw [hfr 0 (by omega)]; exact h0⟩
  obtain ⟨s1, s2, s3, s4, s5, s6, s7, s8, s9, s10, s11, s12, s13, s14, s15⟩ := hs
  exact ⟨s1, s2, s3, s4, s5, s6, s7, s8, s9, s10, s11, s12, s13, hp, hn⟩
theorem vx_a2 {X : ol} (hV : vx X) {z v : Int} (v0 : 0 ≤ v) (v1 : v ≤ 3) (z0 : 0 ≤ z) (z1 : z < 30) : vx (oset X 2 (iu (X.2 2) z v)) := by
  obtain ⟨vl, vn, vo, vi, va, vfst, vs, vz, vr, vc, vt, vm, vk⟩ := hV
  have ll : (X.2 2).length = 30 := vl 2 (by decide)
  refine ⟨fun k hk => ?_, vn, vo, vi, fun p p0 p1 => ⟨(va p p0 p1).1, ?_, (va p p0 p1).2.2.1, (va p p0 p1).2.2.2.1, (va p p0 p1).2.2.2.2⟩, vfst, vs, vz, vr, vc, vt, vm, vk⟩
  · rw [os_2]
    split
    · rename_i e; subst e; rw [iu_len]; exact vl _ hk
    · exact vl k hk
  · have ho := vo p p0 p1
    have hv := (va p p0 p1).2.1
    show 0 ≤ ig (iu (X.2 2) z v) (ig (X.2 0) p) ∧ ig (iu (X.2 2) z v) (ig (X.2 0) p) ≤ 3
    rw [ig_iu z0 (by omega) (by omega)]
    split <;> omega
theorem rel_a2 {X : ol} {w : List Int} (hV : vx X) (hR : Rel X w) {z v : Int} (z0 : 0 ≤ z) (z1 : z < 30) : Rel (oset X 2 (iu (X.2 2) z v)) (iu w (61 + z) v) := by
  obtain ⟨rl, r0, r1, r2, r3, r4, r5, r6, r7, r8⟩ := hR
  have ll : (X.2 2).length = 30 := hV.1 2 (by decide)
  have hn := hV.2.1
  have hm := hV.2.2.2.2.2.2.2.2.2.2.2.1
  refine ⟨by rw [iu_len]; exact rl, by rw [ig_ne (by omega) (by omega) (by omega)]; exact r0, fun p p0 p1 => by have p1 : p < X.1 0 := p1; rw [ig_ne (by omega) (by omega) (by omega)]; exact r1 p p0 p1, fun p p0 p1 => ?_, fun k k0 k1 => by rw [ig_ne (by omega) (by omega) (by omega)]; exact r3 k k0 k1, by rw [ig_ne (by omega) (by omega) (by omega)]; exact r4, fun l l0 l1 => by rw [ig_ne (by omega) (by omega) (by omega)]; exact r5 l l0 l1, by rw [ig_ne (by omega) (by omega) (by omega)]; exact r6, fun k k0 k1 => by have k1 : k < X.1 2 := k1; rw [ig_ne (by omega) (by omega) (by omega), ig_ne (by omega) (by omega) (by omega)]; exact r7 k k0 k1, by rw [ig_ne (by omega) (by omega) (by omega)]; exact r8⟩
  have ho := hV.2.2.1 p p0 p1
  have e := r2 p p0 p1
  exact ⟨by rw [show (oset X 2 (iu (X.2 2) z v)).2 0 = X.2 0 from rfl, ig_ne (by omega) (by omega) (by omega)]; exact e.1, by show ig (iu w (61 + z) v) (61 + ig (X.2 0) p) = ig (iu (X.2 2) z v) (ig (X.2 0) p); rw [ig_iu (by omega) (by omega) (by omega), ig_iu z0 (by omega) (by omega)]; by_cases c : z = ig (X.2 0) p; (rw [if_pos (by omega), if_pos c]); (rw [if_neg (by omega), if_neg c]; exact e.2.1), by rw [show (oset X 2 (iu (X.2 2) z v)).2 0 = X.2 0 from rfl, ig_ne (by omega) (by omega) (by omega)]; exact e.2.2.1, by rw [show (oset X 2 (iu (X.2 2) z v)).2 0 = X.2 0 from rfl, ig_ne (by omega) (by omega) (by omega)]; exact e.2.2.2.1, by rw [show (oset X 2 (iu (X.2 2) z v)).2 0 = X.2 0 from rfl, ig_ne (by omega) (by omega) (by omega)]; exact e.2.2.2.2⟩
theorem vx_a3 {X : ol} (hV : vx X) {z v : Int} (v0 : 0 ≤ v) (v1 : v ≤ 31) (z0 : 0 ≤ z) (z1 : z < 30) : vx (oset X 3 (iu (X.2 3) z v)) := by
  obtain ⟨vl, vn, vo, vi, va, vfst, vs, vz, vr, vc, vt, vm, vk⟩ := hV
  have ll : (X.2 3).length = 30 := vl 3 (by decide)
  refine ⟨fun k hk => ?_, vn, vo, vi, fun p p0 p1 => ⟨(va p p0 p1).1, (va p p0 p1).2.1, ?_, (va p p0 p1).2.2.2.1, (va p p0 p1).2.2.2.2⟩, vfst, vs, vz, vr, vc, vt, vm, vk⟩
  · rw [os_2]
    split
    · rename_i e; subst e; rw [iu_len]; exact vl _ hk
    · exact vl k hk
  · have ho := vo p p0 p1
    have hv := (va p p0 p1).2.2.1
    show 0 ≤ ig (iu (X.2 3) z v) (ig (X.2 0) p) ∧ ig (iu (X.2 3) z v) (ig (X.2 0) p) ≤ 31
    rw [ig_iu z0 (by omega) (by omega)]
    split <;> omega
theorem rel_a3 {X : ol} {w : List Int} (hV : vx X) (hR : Rel X w) {z v : Int} (z0 : 0 ≤ z) (z1 : z < 30) : Rel (oset X 3 (iu (X.2 3) z v)) (iu w (91 + z) v) := by
  obtain ⟨rl, r0, r1, r2, r3, r4, r5, r6, r7, r8⟩ := hR
  have ll : (X.2 3).length = 30 := hV.1 3 (by decide)
  have hn := hV.2.1
  have hm := hV.2.2.2.2.2.2.2.2.2.2.2.1
  refine ⟨by rw [iu_len]; exact rl, by rw [ig_ne (by omega) (by omega) (by omega)]; exact r0, fun p p0 p1 => by have p1 : p < X.1 0 := p1; rw [ig_ne (by omega) (by omega) (by omega)]; exact r1 p p0 p1, fun p p0 p1 => ?_, fun k k0 k1 => by rw [ig_ne (by omega) (by omega) (by omega)]; exact r3 k k0 k1, by rw [ig_ne (by omega) (by omega) (by omega)]; exact r4, fun l l0 l1 => by rw [ig_ne (by omega) (by omega) (by omega)]; exact r5 l l0 l1, by rw [ig_ne (by omega) (by omega) (by omega)]; exact r6, fun k k0 k1 => by have k1 : k < X.1 2 := k1; rw [ig_ne (by omega) (by omega) (by omega), ig_ne (by omega) (by omega) (by omega)]; exact r7 k k0 k1, by rw [ig_ne (by omega) (by omega) (by omega)]; exact r8⟩
  have ho := hV.2.2.1 p p0 p1
  have e := r2 p p0 p1
  exact ⟨by rw [show (oset X 3 (iu (X.2 3) z v)).2 0 = X.2 0 from rfl, ig_ne (by omega) (by omega) (by omega)]; exact e.1, by rw [show (oset X 3 (iu (X.2 3) z v)).2 0 = X.2 0 from rfl, ig_ne (by omega) (by omega) (by omega)]; exact e.2.1, by show ig (iu w (91 + z) v) (91 + ig (X.2 0) p) = ig (iu (X.2 3) z v) (ig (X.2 0) p); rw [ig_iu (by omega) (by omega) (by omega), ig_iu z0 (by omega) (by omega)]; by_cases c : z = ig (X.2 0) p; (rw [if_pos (by omega), if_pos c]); (rw [if_neg (by omega), if_neg c]; exact e.2.2.1), by rw [show (oset X 3 (iu (X.2 3) z v)).2 0 = X.2 0 from rfl, ig_ne (by omega) (by omega) (by omega)]; exact e.2.2.2.1, by rw [show (oset X 3 (iu (X.2 3) z v)).2 0 = X.2 0 from rfl, ig_ne (by omega) (by omega) (by omega)]; exact e.2.2.2.2⟩
theorem vx_a4 {X : ol} (hV : vx X) {z v : Int} (v0 : 0 ≤ v) (v1 : v ≤ 1) (z0 : 0 ≤ z) (z1 : z < 30) : vx (oset X 4 (iu (X.2 4) z v)) := by
  obtain ⟨vl, vn, vo, vi, va, vfst, vs, vz, vr, vc, vt, vm, vk⟩ := hV
  have ll : (X.2 4).length = 30 := vl 4 (by decide)
  refine ⟨fun k hk => ?_, vn, vo, vi, fun p p0 p1 => ⟨(va p p0 p1).1, (va p p0 p1).2.1, (va p p0 p1).2.2.1, ?_, (va p p0 p1).2.2.2.2⟩, vfst, vs, vz, vr, vc, vt, vm, vk⟩
  · rw [os_2]
    split
    · rename_i e; subst e; rw [iu_len]; exact vl _ hk
    · exact vl k hk
  · have ho := vo p p0 p1
    have hv := (va p p0 p1).2.2.2.1
    show 0 ≤ ig (iu (X.2 4) z v) (ig (X.2 0) p) ∧ ig (iu (X.2 4) z v) (ig (X.2 0) p) ≤ 1
    rw [ig_iu z0 (by omega) (by omega)]
    split <;> omega
theorem rel_a4 {X : ol} {w : List Int} (hV : vx X) (hR : Rel X w) {z v : Int} (z0 : 0 ≤ z) (z1 : z < 30) : Rel (oset X 4 (iu (X.2 4) z v)) (iu w (121 + z) v) := by
  obtain ⟨rl, r0, r1, r2, r3, r4, r5, r6, r7, r8⟩ := hR
  have ll : (X.2 4).length = 30 := hV.1 4 (by decide)
  have hn := hV.2.1
  have hm := hV.2.2.2.2.2.2.2.2.2.2.2.1
  refine ⟨by rw [iu_len]; exact rl, by rw [ig_ne (by omega) (by omega) (by omega)]; exact r0, fun p p0 p1 => by have p1 : p < X.1 0 := p1; rw [ig_ne (by omega) (by omega) (by omega)]; exact r1 p p0 p1, fun p p0 p1 => ?_, fun k k0 k1 => by rw [ig_ne (by omega) (by omega) (by omega)]; exact r3 k k0 k1, by rw [ig_ne (by omega) (by omega) (by omega)]; exact r4, fun l l0 l1 => by rw [ig_ne (by omega) (by omega) (by omega)]; exact r5 l l0 l1, by rw [ig_ne (by omega) (by omega) (by omega)]; exact r6, fun k k0 k1 => by have k1 : k < X.1 2 := k1; rw [ig_ne (by omega) (by omega) (by omega), ig_ne (by omega) (by omega) (by omega)]; exact r7 k k0 k1, by rw [ig_ne (by omega) (by omega) (by omega)]; exact r8⟩
  have ho := hV.2.2.1 p p0 p1
  have e := r2 p p0 p1
  exact ⟨by rw [show (oset X 4 (iu (X.2 4) z v)).2 0 = X.2 0 from rfl, ig_ne (by omega) (by omega) (by omega)]; exact e.1, by rw [show (oset X 4 (iu (X.2 4) z v)).2 0 = X.2 0 from rfl, ig_ne (by omega) (by omega) (by omega)]; exact e.2.1, by rw [show (oset X 4 (iu (X.2 4) z v)).2 0 = X.2 0 from rfl, ig_ne (by omega) (by omega) (by omega)]; exact e.2.2.1, by show ig (iu w (121 + z) v) (121 + ig (X.2 0) p) = ig (iu (X.2 4) z v) (ig (X.2 0) p); rw [ig_iu (by omega) (by omega) (by omega), ig_iu z0 (by omega) (by omega)]; by_cases c : z = ig (X.2 0) p; (rw [if_pos (by omega), if_pos c]); (rw [if_neg (by omega), if_neg c]; exact e.2.2.2.1), by rw [show (oset X 4 (iu (X.2 4) z v)).2 0 = X.2 0 from rfl, ig_ne (by omega) (by omega) (by omega)]; exact e.2.2.2.2⟩
theorem vx_a5 {X : ol} (hV : vx X) {z v : Int} (v0 : -1 ≤ v) (v1 : v ≤ 60) (z0 : 0 ≤ z) (z1 : z < 30) : vx (oset X 5 (iu (X.2 5) z v)) := by
  obtain ⟨vl, vn, vo, vi, va, vfst, vs, vz, vr, vc, vt, vm, vk⟩ := hV
  have ll : (X.2 5).length = 30 := vl 5 (by decide)
  refine ⟨fun k hk => ?_, vn, vo, vi, fun p p0 p1 => ⟨(va p p0 p1).1, (va p p0 p1).2.1, (va p p0 p1).2.2.1, (va p p0 p1).2.2.2.1, ?_⟩, vfst, vs, vz, vr, vc, vt, vm, vk⟩
  · rw [os_2]
    split
    · rename_i e; subst e; rw [iu_len]; exact vl _ hk
    · exact vl k hk
  · have ho := vo p p0 p1
    have hv := (va p p0 p1).2.2.2.2
    show -1 ≤ ig (iu (X.2 5) z v) (ig (X.2 0) p) ∧ ig (iu (X.2 5) z v) (ig (X.2 0) p) ≤ 60
    rw [ig_iu z0 (by omega) (by omega)]
    split <;> omega
theorem rel_a5 {X : ol} {w : List Int} (hV : vx X) (hR : Rel X w) {z v : Int} (z0 : 0 ≤ z) (z1 : z < 30) : Rel (oset X 5 (iu (X.2 5) z v)) (iu w (151 + z) v) := by
  obtain ⟨rl, r0, r1, r2, r3, r4, r5, r6, r7, r8⟩ := hR
  have ll : (X.2 5).length = 30 := hV.1 5 (by decide)
  have hn := hV.2.1
  have hm := hV.2.2.2.2.2.2.2.2.2.2.2.1
  refine ⟨by rw [iu_len]; exact rl, by rw [ig_ne (by omega) (by omega) (by omega)]; exact r0, fun p p0 p1 => by have p1 : p < X.1 0 := p1; rw [ig_ne (by omega) (by omega) (by omega)]; exact r1 p p0 p1, fun p p0 p1 => ?_, fun k k0 k1 => by rw [ig_ne (by omega) (by omega) (by omega)]; exact r3 k k0 k1, by rw [ig_ne (by omega) (by omega) (by omega)]; exact r4, fun l l0 l1 => by rw [ig_ne (by omega) (by omega) (by omega)]; exact r5 l l0 l1, by rw [ig_ne (by omega) (by omega) (by omega)]; exact r6, fun k k0 k1 => by have k1 : k < X.1 2 := k1; rw [ig_ne (by omega) (by omega) (by omega), ig_ne (by omega) (by omega) (by omega)]; exact r7 k k0 k1, by rw [ig_ne (by omega) (by omega) (by omega)]; exact r8⟩
  have ho := hV.2.2.1 p p0 p1
  have e := r2 p p0 p1
  exact ⟨by rw [show (oset X 5 (iu (X.2 5) z v)).2 0 = X.2 0 from rfl, ig_ne (by omega) (by omega) (by omega)]; exact e.1, by rw [show (oset X 5 (iu (X.2 5) z v)).2 0 = X.2 0 from rfl, ig_ne (by omega) (by omega) (by omega)]; exact e.2.1, by rw [show (oset X 5 (iu (X.2 5) z v)).2 0 = X.2 0 from rfl, ig_ne (by omega) (by omega) (by omega)]; exact e.2.2.1, by rw [show (oset X 5 (iu (X.2 5) z v)).2 0 = X.2 0 from rfl, ig_ne (by omega) (by omega) (by omega)]; exact e.2.2.2.1, by show ig (iu w (151 + z) v) (151 + ig (X.2 0) p) = ig (iu (X.2 5) z v) (ig (X.2 0) p); rw [ig_iu (by omega) (by omega) (by omega), ig_iu z0 (by omega) (by omega)]; by_cases c : z = ig (X.2 0) p; (rw [if_pos (by omega), if_pos c]); (rw [if_neg (by omega), if_neg c]; exact e.2.2.2.2)⟩
