/-! What cuts and shifts do. -/
theorem rfB_dr {X : ol} (hB : rfB X) {z : Int} (z0 : 0 ≤ z) (z1 : z < 30) : rfB (drX X z) := (k1_dropReferences (h := List.replicate 20 (Sum.inl (0, []))) (o := 0) (X := X) (by decide) hB z0 z1).2
theorem cuF_S : ∀ (k : Nat) (p : Int) (X : ol), cuS X (cuF k p X)
  | 0, _, X => cuS_rf X
  | k + 1, p, X => by unfold cuF; exact cuS_tr (cuS_1 X (ig (X.2 0) p)) (cuF_S k (p + 1) _)
theorem dr_1 (X : ol) (z : Int) : (drX (oset X 1 (iu (X.2 1) z 0)) z).2 1 = iu (X.2 1) z 0 := by
  unfold drX
  rw [(rfS_dr (z := z) ((oset X 1 (iu (X.2 1) z 0)).1 2).toNat (oset X 1 (iu (X.2 1) z 0))).2.1 1 (by decide) (by decide)]
  rfl
theorem cuF_lv : ∀ (k : Nat) (p : Int) (X : ol), (∀ q, p ≤ q → q < p + k → 0 ≤ ig (X.2 0) q ∧ ig (X.2 0) q < 30) → (X.2 1).length = 30 → ∀ z, 0 ≤ z → ((∀ q, p ≤ q → q < p + k → ig (X.2 0) q ≠ z) → ig ((cuF k p X).2 1) z = ig (X.2 1) z) ∧ ((∃ q, p ≤ q ∧ q < p + k ∧ ig (X.2 0) q = z) → ig ((cuF k p X).2 1) z = 0) ∧ (ig (X.2 1) z = 0 → ig ((cuF k p X).2 1) z = 0)
  | 0, p, X, _, _, z, _ => ⟨fun _ => rfl, fun ⟨q, a, b, _⟩ => absurd b (by omega), fun e => e⟩
  | k + 1, p, X, hq, hl, z, z0 => by
    have hS := cuS_1 X (ig (X.2 0) p)
    have e0 := hS.2.1 0 (by decide) (by decide) (by decide)
    have hp := hq p (by omega) (by omega)
    have e1 := dr_1 X (ig (X.2 0) p)
    have ih := cuF_lv k (p + 1) (drX (oset X 1 (iu (X.2 1) (ig (X.2 0) p) 0)) (ig (X.2 0) p)) (fun q a b => by rw [e0]; exact hq q (by omega) (by omega)) (by rw [e1, iu_len]; exact hl) z z0
    rw [e0, e1] at ih
    unfold cuF
    rw [ig_iu hp.1 (by omega) z0] at ih
    refine ⟨fun h => ?_, fun ⟨q, a, b, e⟩ => ?_, fun h => ?_⟩
    · rw [ih.1 (fun q a b => h q (by omega) (by omega)), if_neg (h p (by omega) (by omega))]
    · by_cases c : q = p
      · subst c
        exact ih.2.2 (if_pos e)
      · exact ih.2.1 ⟨q, by omega, by omega, e⟩
    · refine ih.2.2 ?_
      split
      · rfl
      · exact h
theorem drF_ok {S T : Int → Prop} {z : Int} (hT : T (-9)) (hz : z ≠ -9) : ∀ (k : Nat) (X : ol), rfB X → (k : Int) ≤ X.1 2 → (∀ j, 0 ≤ j → j < X.1 2 → S (ig (X.2 8) j) ∧ T (ig (X.2 9) j)) → (∀ j, (k : Int) ≤ j → j < X.1 2 → ig (X.2 8) j ≠ z ∧ ig (X.2 9) j ≠ z) → ∀ j, 0 ≤ j → j < (drF z k X).1 2 → (S (ig ((drF z k X).2 8) j) ∧ ig ((drF z k X).2 8) j ≠ z) ∧ (T (ig ((drF z k X).2 9) j) ∧ ig ((drF z k X).2 9) j ≠ z)
  | 0, X, hB, hk, h1, h2, j, j0, j1 => ⟨⟨(h1 j j0 j1).1, (h2 j (by omega) j1).1⟩, (h1 j j0 j1).2, (h2 j (by omega) j1).2⟩
  | k + 1, X, hB, hk, h1, h2, j, j0, j1 => by
    unfold drF at j1 ⊢
    by_cases c : ig (X.2 8) k = z
    · rw [if_pos c] at j1 ⊢
      refine drF_ok hT hz k (ulX X k) (rfB_ul hB (by omega) (by omega)) (by show (k : Int) ≤ X.1 2 - 1; omega) (fun i i0 i1 => ?_) (fun i i0 i1 => ?_) j j0 j1
      · have i1 : i < X.1 2 - 1 := i1
        have h8 := ulX_8 hB (show (0 : Int) ≤ k by omega) (by omega) i0 i1
        rw [h8.1, h8.2]
        exact h1 _ (by split <;> omega) (by split <;> omega)
      · have i1 : i < X.1 2 - 1 := i1
        have h8 := ulX_8 hB (show (0 : Int) ≤ k by omega) (by omega) (show 0 ≤ i by omega) i1
        rw [h8.1, h8.2, if_neg (by omega)]
        exact h2 (i + 1) (by omega) (by omega)
    · rw [if_neg c] at j1 ⊢
      by_cases c2 : ig (X.2 9) k = z
      · rw [if_pos c2] at j1 ⊢
        have b2 := hB.2.1
        have b4 := hB.2.2.2.1
        refine drF_ok hT hz k (oset X 9 (iu (X.2 9) k (-9))) (rfB_br hB (by omega) (by omega)) (by show (k : Int) ≤ X.1 2; omega) (fun i i0 i1 => ?_) (fun i i0 i1 => ?_) j j0 j1
        · have i1 : i < X.1 2 := i1
          refine ⟨(h1 i i0 i1).1, ?_⟩
          show T (ig (iu (X.2 9) k (-9)) i)
          rw [ig_iu (by omega) (by omega) i0]
          split
          · exact hT
          · exact (h1 i i0 i1).2
        · have i1 : i < X.1 2 := i1
          show ig (X.2 8) i ≠ z ∧ ig (iu (X.2 9) k (-9)) i ≠ z
          rw [ig_iu (by omega) (by omega) (by omega)]
          by_cases e : (k : Int) = i
          · rw [if_pos e, ← e]
            exact ⟨c, fun x => hz x.symm⟩
          · rw [if_neg e]
            exact h2 i (by omega) i1
      · rw [if_neg c2] at j1 ⊢
        refine drF_ok hT hz k X hB (by omega) h1 (fun i i0 i1 => ?_) j j0 j1
        by_cases e : (k : Int) = i
        · rw [← e]; exact ⟨c, c2⟩
        · exact h2 i (by omega) i1
theorem cuF_ok : ∀ (k : Nat) (p : Int) (X : ol) (S T : Int → Prop), T (-9) → rfB X → (∀ q, p ≤ q → q < p + k → 0 ≤ ig (X.2 0) q ∧ ig (X.2 0) q < 30) → (∀ j, 0 ≤ j → j < X.1 2 → S (ig (X.2 8) j) ∧ T (ig (X.2 9) j)) → rfB (cuF k p X) ∧ ∀ j, 0 ≤ j → j < (cuF k p X).1 2 → (S (ig ((cuF k p X).2 8) j) ∧ T (ig ((cuF k p X).2 9) j)) ∧ ∀ q, p ≤ q → q < p + k → ig ((cuF k p X).2 8) j ≠ ig (X.2 0) q ∧ ig ((cuF k p X).2 9) j ≠ ig (X.2 0) q
  | 0, p, X, S, T, hT, hB, hq, h1 => ⟨hB, fun j j0 j1 => ⟨h1 j j0 j1, fun q a b => absurd b (by omega)⟩⟩
  | k + 1, p, X, S, T, hT, hB, hq, h1 => by
    have hS := cuS_1 X (ig (X.2 0) p)
    have e0 := hS.2.1 0 (by decide) (by decide) (by decide)
    have hp := hq p (by omega) (by omega)
    have hB' : rfB (oset X 1 (iu (X.2 1) (ig (X.2 0) p) 0)) := hB
    have hd := drF_ok (S := S) (T := T) (z := ig (X.2 0) p) hT (by omega) ((oset X 1 (iu (X.2 1) (ig (X.2 0) p) 0)).1 2).toNat (oset X 1 (iu (X.2 1) (ig (X.2 0) p) 0)) hB' (by have := hB.2.2.1; show (((X.1 2).toNat : Nat) : Int) ≤ X.1 2; omega) h1 (fun j a b => by
      have b : j < X.1 2 := b
      have a : (((X.1 2).toNat : Nat) : Int) ≤ j := a
      omega)
    have ih := cuF_ok k (p + 1) (drX (oset X 1 (iu (X.2 1) (ig (X.2 0) p) 0)) (ig (X.2 0) p)) (fun s => S s ∧ s ≠ ig (X.2 0) p) (fun s => T s ∧ s ≠ ig (X.2 0) p) ⟨hT, by omega⟩ (rfB_dr hB' hp.1 hp.2) (fun q a b => by rw [e0]; exact hq q (by omega) (by omega)) hd
    rw [e0] at ih
    unfold cuF
    refine ⟨ih.1, fun j j0 j1 => ?_⟩
    obtain ⟨⟨⟨a1, a2⟩, a3, a4⟩, a5⟩ := ih.2 j j0 j1
    refine ⟨⟨a1, a3⟩, fun q qa qb => ?_⟩
    by_cases c : q = p
    · rw [c]; exact ⟨a2, a4⟩
    · exact a5 q (by omega) (by omega)
/-- an outline whose headings stand otherwise -/
theorem vx_move {X X' : ol} (hV : vx X) (src : Int → Int) (hl : ol_len X') (n' : 0 ≤ X'.1 0 ∧ X'.1 0 ≤ 30) (hs : ∀ q, 0 ≤ q → q < X'.1 0 → 0 ≤ src q ∧ src q < X.1 0) (hsi : ∀ q r, 0 ≤ q → q < X'.1 0 → 0 ≤ r → r < X'.1 0 → src q = src r → q = r) (ho : ∀ q, 0 ≤ q → q < X'.1 0 → ig (X'.2 0) q = ig (X.2 0) (src q)) (h2 : X'.2 2 = X.2 2) (h3 : X'.2 3 = X.2 3) (h4 : X'.2 4 = X.2 4) (h5 : X'.2 5 = X.2 5) (h6 : X'.2 6 = X.2 6) (h7 : X'.2 7 = X.2 7) (hf : X'.1 1 = X.1 1)
  (hL : ∀ q, 0 ≤ q → q < X'.1 0 → 1 ≤ ig (X'.2 1) (ig (X'.2 0) q) ∧ ig (X'.2 1) (ig (X'.2 0) q) ≤ 6) (h0 : 0 < X'.1 0 → ig (X'.2 1) (ig (X'.2 0) 0) = 1) (hst : ∀ q, 0 ≤ q → q + 1 < X'.1 0 → ig (X'.2 1) (ig (X'.2 0) (q + 1)) ≤ ig (X'.2 1) (ig (X'.2 0) q) + 1) (hz : ∀ k, 0 ≤ k → k < 30 → (∀ p, 0 ≤ p → p < X'.1 0 → ig (X'.2 0) p ≠ k) → ig (X'.2 1) k = 0) (hm : 0 ≤ X'.1 2 ∧ X'.1 2 ≤ 12)
  (hk : ∀ k, 0 ≤ k → k < X'.1 2 → (∃ p, 0 ≤ p ∧ p < X'.1 0 ∧ ig (X'.2 0) p = ig (X'.2 8) k) ∧ (ig (X'.2 9) k = -9 ∨ ∃ p, 0 ≤ p ∧ p < X'.1 0 ∧ ig (X'.2 0) p = ig (X'.2 9) k)) : vx X' := by
  obtain ⟨vl, vn, vo, vi, va, vfst, vs, vz, vr, vc, vt, vm, vk⟩ := hV
  refine ⟨hl, n', fun q q0 q1 => ?_, fun q r q0 q1 r0 r1 e => ?_, fun q q0 q1 => ⟨hL q q0 q1, ?_⟩, h0, hst, hz, by rw [h6]; exact vr, by rw [h7]; exact vc, by rw [hf]; exact vt, hm, hk⟩
  · rw [ho q q0 q1]
    exact vo _ (hs q q0 q1).1 (hs q q0 q1).2
  · rw [ho q q0 q1, ho r r0 r1] at e
    exact hsi q r q0 q1 r0 r1 (vi _ _ (hs q q0 q1).1 (hs q q0 q1).2 (hs r r0 r1).1 (hs r r0 r1).2 e)
  · rw [h2, h3, h4, h5, ho q q0 q1]
    exact (va _ (hs q q0 q1).1 (hs q q0 q1).2).2
theorem rel_move {X X' : ol} {w w' : List Int} (hR : Rel X w) (hV : vx X) (src : Int → Int) (hs : ∀ q, 0 ≤ q → q < X'.1 0 → 0 ≤ src q ∧ src q < X.1 0) (ho : ∀ q, 0 ≤ q → q < X'.1 0 → ig (X'.2 0) q = ig (X.2 0) (src q)) (h2 : X'.2 2 = X.2 2) (h3 : X'.2 3 = X.2 3) (h4 : X'.2 4 = X.2 4) (h5 : X'.2 5 = X.2 5) (h6 : X'.2 6 = X.2 6) (h7 : X'.2 7 = X.2 7) (hf : X'.1 1 = X.1 1)
  (hc : ig w' 0 = X'.1 0) (hw1 : ∀ q, 0 ≤ q → q < X'.1 0 → ig w' (1 + q) = ig (X'.2 0) q) (hw2 : ∀ q, 0 ≤ q → q < X'.1 0 → ig w' (31 + ig (X'.2 0) q) = ig (X'.2 1) (ig (X'.2 0) q)) (hw3 : ∀ i, 61 ≤ i → (i < 192 ∨ i = 217) → ig w' i = ig w i) (hr : RR X' w') : Rel X' w' := by
  obtain ⟨rl, r0, r1, r2, r3, r4, r5, r6, r7, r8⟩ := hR
  refine ⟨hr.1, hc, hw1, fun q q0 q1 => ⟨hw2 q q0 q1, ?_⟩, fun k k0 k1 => by rw [hw3 _ (by omega) (by omega), h6]; exact r3 k k0 k1, by rw [hw3 _ (by omega) (by omega), h6]; exact r4, fun l l0 l1 => by rw [hw3 _ (by omega) (by omega), h7]; exact r5 l l0 l1, hr.2.1, hr.2.2, by rw [hw3 _ (by omega) (by omega), hf]; exact r8⟩
  have hsq := hs q q0 q1
  have hoo := hV.2.2.1 _ hsq.1 hsq.2
  rw [h2, h3, h4, h5, ho q q0 q1, hw3 _ (by omega) (by omega), hw3 _ (by omega) (by omega), hw3 _ (by omega) (by omega), hw3 _ (by omega) (by omega)]
  exact (r2 _ hsq.1 hsq.2).2
/-- where a heading stood before a cut -/
def cuS' (f d q : Int) : Int := if q < f then q else q + d
theorem cut_od {X : ol} (l0 : (X.2 0).length = 30) (n1 : X.1 0 ≤ 30) {f t : Int} (f0 : 0 ≤ f) (f1 : f ≤ t) (t1 : t ≤ X.1 0) {q : Int} (q0 : 0 ≤ q) (q1 : q < X.1 0 - (t - f)) : ig ((cuX X f t).2 0) q = ig (X.2 0) (cuS' f (t - f) q) := by
  show ig (coF (t - f) (X.1 0 - t).toNat t (X.2 0)) q = _
  rw [coF_ig (by omega) _ _ _ _ (by omega) (by omega) l0 q0]
  unfold cuS'
  by_cases c : q < f
  · rw [if_neg (by omega), if_pos c]
  · rw [if_pos (by omega), if_neg c]
theorem cut_j {X : ol} {f t : Int} {j : Nat} (h0 : j ≠ 0) (h1 : j ≠ 1) (h8 : j ≠ 8) (h9 : j ≠ 9) : (cuX X f t).2 j = X.2 j := by
  unfold cuX
  rw [ns_2, os_2, if_neg h0]
  exact (cuF_S _ _ X).2.1 j h1 h8 h9
theorem cut_1 {X : ol} {f t : Int} : (cuX X f t).1 1 = X.1 1 := by
  unfold cuX
  rw [ns_1, if_neg (by decide), os_1]
  exact (cuF_S _ _ X).1 1 (by decide)
theorem cut_lv {X : ol} (hV : vx X) {f t : Int} (f0 : 0 ≤ f) (f1 : f ≤ t) (t1 : t ≤ X.1 0) {q : Int} (q0 : 0 ≤ q) (q1 : q < X.1 0 - (t - f)) : ig ((cuX X f t).2 1) (ig (X.2 0) (cuS' f (t - f) q)) = ig (X.2 1) (ig (X.2 0) (cuS' f (t - f) q)) := by
  have hq : 0 ≤ cuS' f (t - f) q ∧ cuS' f (t - f) q < X.1 0 ∧ (cuS' f (t - f) q < f ∨ t ≤ cuS' f (t - f) q) := by unfold cuS'; split <;> omega
  have ho := hV.2.2.1 _ hq.1 hq.2.1
  exact (cuF_lv (t - f).toNat f X (fun r a b => hV.2.2.1 r (by omega) (by omega)) (hV.1 1 (by decide)) _ ho.1).1 (fun r a b e => by
    have := hV.2.2.2.1 r _ (by omega) (by omega) hq.1 hq.2.1 e
    omega)
theorem cut_rf {X : ol} (hV : vx X) {f t : Int} (f0 : 0 ≤ f) (f1 : f ≤ t) (t1 : t ≤ X.1 0) : rfB (cuX X f t) ∧ ∀ j, 0 ≤ j → j < (cuX X f t).1 2 → (∃ p, 0 ≤ p ∧ p < X.1 0 - (t - f) ∧ ig ((cuX X f t).2 0) p = ig ((cuX X f t).2 8) j) ∧ (ig ((cuX X f t).2 9) j = -9 ∨ ∃ p, 0 ≤ p ∧ p < X.1 0 - (t - f) ∧ ig ((cuX X f t).2 0) p = ig ((cuX X f t).2 9) j) := by
  have hn := hV.2.1
  have l0 : (X.2 0).length = 30 := hV.1 0 (by decide)
  have key := cuF_ok (t - f).toNat f X (fun s => ∃ p, 0 ≤ p ∧ p < X.1 0 ∧ ig (X.2 0) p = s) (fun s => s = -9 ∨ ∃ p, 0 ≤ p ∧ p < X.1 0 ∧ ig (X.2 0) p = s) (Or.inl rfl) (vx_rfB hV) (fun r a b => hV.2.2.1 r (by omega) (by omega)) hV.2.2.2.2.2.2.2.2.2.2.2.2
  have mem : ∀ s, (∃ p, 0 ≤ p ∧ p < X.1 0 ∧ ig (X.2 0) p = s) → (∀ q, f ≤ q → q < f + ((t - f).toNat : Nat) → s ≠ ig (X.2 0) q) → ∃ p, 0 ≤ p ∧ p < X.1 0 - (t - f) ∧ ig ((cuX X f t).2 0) p = s := by
    intro s ⟨p, p0, p1, e⟩ hne
    have hout : p < f ∨ t ≤ p := by
      by_cases c : f ≤ p ∧ p < t
      · exact absurd e.symm (hne p c.1 (by omega))
      · omega
    by_cases c : p < f
    · refine ⟨p, p0, by omega, ?_⟩
      rw [cut_od l0 hn.2 f0 f1 t1 p0 (by omega), show cuS' f (t - f) p = p from if_pos c]
      exact e
    · refine ⟨p - (t - f), by omega, by omega, ?_⟩
      rw [cut_od l0 hn.2 f0 f1 t1 (by omega) (by omega), show cuS' f (t - f) (p - (t - f)) = p by unfold cuS'; rw [if_neg (by omega)]; omega]
      exact e
  refine ⟨key.1, fun j j0 j1 => ?_⟩
  obtain ⟨⟨a1, a2⟩, a3⟩ := key.2 j j0 j1
  refine ⟨mem _ a1 (fun q a b => (a3 q a b).1), ?_⟩
  rcases a2 with a2 | a2
  · exact Or.inl a2
  · exact Or.inr (mem _ a2 (fun q a b => (a3 q a b).2))
theorem vx_cut {X : ol} (hV : vx X) {f t : Int} (f0 : 0 ≤ f) (f1 : f < t) (t1 : t ≤ X.1 0) (hb : t < X.1 0 → lvA X t ≤ lvA X f) : vx (cuX X f t) := by
  have hn := hV.2.1
  have l0 : (X.2 0).length = 30 := hV.1 0 (by decide)
  have hn' : (cuX X f t).1 0 = X.1 0 - (t - f) := rfl
  have hrf := cut_rf hV f0 (by omega : f ≤ t) t1
  have hsq : ∀ q, 0 ≤ q → q < X.1 0 - (t - f) → 0 ≤ cuS' f (t - f) q ∧ cuS' f (t - f) q < X.1 0 ∧ (cuS' f (t - f) q < f ∨ t ≤ cuS' f (t - f) q) := fun q a b => by unfold cuS'; split <;> omega
  have hod := fun q (q0 : 0 ≤ q) q1 => cut_od l0 hn.2 f0 (by omega : f ≤ t) t1 (q := q) q0 q1
  have hlv : ∀ q, 0 ≤ q → q < X.1 0 - (t - f) → ig ((cuX X f t).2 1) (ig ((cuX X f t).2 0) q) = lvA X (cuS' f (t - f) q) := fun q q0 q1 => by
    rw [hod q q0 q1, cut_lv hV f0 (by omega) t1 q0 q1, lvA_in (hsq q q0 q1).1 (hsq q q0 q1).2.1]
  refine vx_move hV (cuS' f (t - f)) (fun k hk => ?_) (by rw [hn']; omega) (fun q a b => ⟨(hsq q a b).1, (hsq q a b).2.1⟩) (fun q r a b c d e => ?_) hod (cut_j (by decide) (by decide) (by decide) (by decide)) (cut_j (by decide) (by decide) (by decide) (by decide)) (cut_j (by decide) (by decide) (by decide) (by decide)) (cut_j (by decide) (by decide) (by decide) (by decide)) (cut_j (by decide) (by decide) (by decide) (by decide)) (cut_j (by decide) (by decide) (by decide) (by decide)) cut_1 (fun q a b => ?_) (fun a => ?_) (fun q a b => ?_) (fun k k0 k1 hk => ?_) ⟨hrf.1.2.2.1, hrf.1.2.2.2.1⟩ hrf.2
  · by_cases c0 : k = 0
    · subst c0
      show (coF (t - f) (X.1 0 - t).toNat t (X.2 0)).length = _
      rw [coF_len]
      exact hV.1 0 hk
    · by_cases c1 : k = 1
      · subst c1
        show ((cuF (t - f).toNat f X).2 1).length = _
        rw [(cuF_S _ _ X).2.2]
        exact hV.1 1 hk
      · by_cases c8 : k = 8
        · subst c8; exact hrf.1.1
        · by_cases c9 : k = 9
          · subst c9; exact hrf.1.2.1
          · rw [cut_j c0 c1 c8 c9]; exact hV.1 k hk
  · unfold cuS' at e
    split at e <;> split at e <;> omega
  · rw [hlv q a b, lvA_in (hsq q a b).1 (hsq q a b).2.1]
    exact (hV.2.2.2.2.1 _ (hsq q a b).1 (hsq q a b).2.1).1
  · rw [hlv 0 (by omega) a]
    have h0 := hV.2.2.2.2.2.1 (by omega)
    rw [← lvA_in (by omega) (by omega)] at h0
    by_cases c : 0 < f
    · rw [show cuS' f (t - f) 0 = 0 from if_pos c]; exact h0
    · rw [show cuS' f (t - f) 0 = t by unfold cuS'; rw [if_neg c]; omega]
      have h1 := hb (by omega)
      rw [show f = 0 by omega, h0] at h1
      have h2 := (hV.2.2.2.2.1 t (by omega) (by omega)).1.1
      rw [← lvA_in (by omega) (by omega)] at h2
      omega
  · rw [hn'] at b
    rw [hlv q a (by omega), hlv (q + 1) (by omega) (by omega)]
    have step : ∀ r, 0 ≤ r → r + 1 < X.1 0 → lvA X (r + 1) ≤ lvA X r + 1 := fun r r0 r1 => by
      have := hV.2.2.2.2.2.2.1 r r0 r1
      rw [← lvA_in (by omega) (by omega), ← lvA_in (by omega) (by omega)] at this
      exact this
    by_cases c : q + 1 < f
    · rw [show cuS' f (t - f) (q + 1) = q + 1 from if_pos c, show cuS' f (t - f) q = q from if_pos (by omega)]
      exact step q a (by omega)
    · by_cases c2 : q < f
      · rw [show cuS' f (t - f) (q + 1) = t by unfold cuS'; rw [if_neg c]; omega, show cuS' f (t - f) q = q from if_pos c2]
        have h1 := hb (by omega)
        have h2 := step q a (by omega)
        rw [show q + 1 = f by omega] at h2
        omega
      · rw [show cuS' f (t - f) (q + 1) = q + (t - f) + 1 by unfold cuS'; rw [if_neg c]; omega, show cuS' f (t - f) q = q + (t - f) from if_neg c2]
        exact step _ (by omega) (by omega)
  · have hcl := cuF_lv (t - f).toNat f X (fun r a b => hV.2.2.1 r (by omega) (by omega)) (hV.1 1 (by decide)) k k0
    rcases ol_find X k with ⟨p, p0, p1, e⟩ | hz
    · by_cases c : f ≤ p ∧ p < t
      · exact hcl.2.1 ⟨p, c.1, by omega, e⟩
      · exfalso
        by_cases c2 : p < f
        · refine hk p p0 (by rw [hn']; omega) ?_
          rw [hod p p0 (by omega), show cuS' f (t - f) p = p from if_pos c2]
          exact e
        · refine hk (p - (t - f)) (by omega) (by rw [hn']; omega) ?_
          rw [hod _ (by omega) (by omega), show cuS' f (t - f) (p - (t - f)) = p by unfold cuS'; rw [if_neg (by omega)]; omega]
          exact e
    · exact hcl.2.2 (hV.2.2.2.2.2.2.2.1 k k0 k1 hz)
theorem rel_cut {X : ol} {w w1 : List Int} (hV : vx X) (hR : Rel X w) {f t : Int} (f0 : 0 ≤ f) (f1 : f < t) (t1 : t ≤ X.1 0) (hr : RR (cuF (t - f).toNat f X) w1) (hw : wS w w1) : Rel (cuX X f t) (iu (mcF (t - f) (X.1 0 - t).toNat t w1) 0 (X.1 0 - (t - f))) := by
  have hn := hV.2.1
  have l0 : (X.2 0).length = 30 := hV.1 0 (by decide)
  have hn' : (cuX X f t).1 0 = X.1 0 - (t - f) := rfl
  have hsq : ∀ q, 0 ≤ q → q < X.1 0 - (t - f) → 0 ≤ cuS' f (t - f) q ∧ cuS' f (t - f) q < X.1 0 ∧ (cuS' f (t - f) q < f ∨ t ≤ cuS' f (t - f) q) := fun q a b => by unfold cuS'; split <;> omega
  have hod := fun q (q0 : 0 ≤ q) q1 => cut_od l0 hn.2 f0 (by omega : f ≤ t) t1 (q := q) q0 q1
  have wl : w1.length = 218 := hr.1
  have hmi : ∀ q, 31 ≤ q → ig (iu (mcF (t - f) (X.1 0 - t).toNat t w1) 0 (X.1 0 - (t - f))) q = ig w1 q := fun q q0 => by
    rw [ig_ne (by omega) (by omega) (by omega), mcF_ig (by omega) _ _ _ _ (by omega) (by omega) wl (by omega), if_neg (by omega)]
  refine rel_move hR hV (cuS' f (t - f)) (fun q a b => ⟨(hsq q a b).1, (hsq q a b).2.1⟩) hod (cut_j (by decide) (by decide) (by decide) (by decide)) (cut_j (by decide) (by decide) (by decide) (by decide)) (cut_j (by decide) (by decide) (by decide) (by decide)) (cut_j (by decide) (by decide) (by decide) (by decide)) (cut_j (by decide) (by decide) (by decide) (by decide)) (cut_j (by decide) (by decide) (by decide) (by decide)) cut_1 ?_ (fun q a b => ?_) (fun q a b => ?_) (fun i i0 i1 => ?_) ⟨?_, ?_, fun k k0 k1 => ?_⟩
  · rw [ig_self (by omega) (by rw [mcF_len]; omega)]; rfl
  · rw [hn'] at b
    rw [hod q a b, ig_ne (by omega) (by omega) (by omega), mcF_ig (by omega) _ _ _ _ (by omega) (by omega) wl (by omega)]
    by_cases c : q < f
    · rw [if_neg (by omega), show cuS' f (t - f) q = q from if_pos c, hw.2 _ (by omega) (by omega)]
      exact hR.2.2.1 q a (by omega)
    · rw [if_pos (by omega), show cuS' f (t - f) q = q + (t - f) from if_neg c, hw.2 _ (by omega) (by omega), show 1 + q + (t - f) = 1 + (q + (t - f)) by omega]
      exact hR.2.2.1 _ (by omega) (by omega)
  · rw [hn'] at b
    have ho := hV.2.2.1 _ (hsq q a b).1 (hsq q a b).2.1
    rw [hod q a b, cut_lv hV f0 (by omega) t1 a b, hmi _ (by omega), hw.2 _ (by omega) (by omega)]
    exact (hR.2.2.2.1 _ (hsq q a b).1 (hsq q a b).2.1).1
  · rw [hmi _ (by omega), hw.2 _ (by omega) i1]
  · rw [iu_len, mcF_len]; exact wl
  · rw [hmi _ (by omega)]; exact hr.2.1
  · rw [hmi _ (by omega), hmi _ (by omega)]; exact hr.2.2 k k0 k1
