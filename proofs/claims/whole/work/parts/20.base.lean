/-! Whole numbers in place of Int32; lists of them. -/
theorem iI_toInt {z : Int} (h1 : -2147483648 ≤ z) (h2 : z < 2147483648) : (iI z).toInt = z := Int32.toInt_ofInt_of_le h1 h2
theorem iI_lt {a b : Int} (a1 : -2147483648 ≤ a) (a2 : a < 2147483648) (b1 : -2147483648 ≤ b) (b2 : b < 2147483648) : (iI a < iI b) = (a < b) := by
  rw [Int32.lt_iff_toInt_lt, iI_toInt a1 a2, iI_toInt b1 b2]
theorem iI_eq {a b : Int} (a1 : -2147483648 ≤ a) (a2 : a < 2147483648) (b1 : -2147483648 ≤ b) (b2 : b < 2147483648) : (iI a = iI b) = (a = b) := by
  rw [← Int32.toInt_inj, iI_toInt a1 a2, iI_toInt b1 b2]
theorem iI_add (a b : Int) : iI a + iI b = iI (a + b) := (Int32.ofInt_add a b).symm
theorem iI_sub (a b : Int) : iI a - iI b = iI (a - b) := (Int32.ofInt_sub a b).symm
theorem iI_mul (a b : Int) : iI a * iI b = iI (a * b) := (Int32.ofInt_mul a b).symm
theorem iI_of (x : Int32) : x = iI x.toInt := (Int32.ofInt_toInt x).symm
theorem iI_ex (x : Int32) : ∃ z : Int, x = iI z ∧ -2147483648 ≤ z ∧ z < 2147483648 := ⟨x.toInt, iI_of x, x.le_toInt, x.toInt_lt⟩
theorem iI_nat {z : Int} (h1 : 0 ≤ z) (h2 : z < 2147483648) : (iI z).toNatClampNeg = z.toNat := Int32.toNatClampNeg_ofInt_of_le (by omega) h2
theorem iI_len (n : Nat) : Int32.ofNat n = iI (n : Int) := Int32.ofInt_eq_ofNat.symm
theorem iI_le {a b : Int} (a1 : -2147483648 ≤ a) (a2 : a < 2147483648) (b1 : -2147483648 ≤ b) (b2 : b < 2147483648) : (iI a ≤ iI b) = (a ≤ b) := by
  rw [Int32.le_iff_toInt_le, iI_toInt a1 a2, iI_toInt b1 b2]
theorem iI_ite (c : Prop) {q : Decidable c} (a b : Int) : (if c then iI a else iI b) = iI (if c then a else b) := by split <;> rfl
def ig (l : List Int) (p : Int) : Int := l.getD p.toNat 0
def iu (l : List Int) (p v : Int) : List Int := l.set p.toNat v
theorem iu_len (l : List Int) (p v : Int) : (iu l p v).length = l.length := List.length_set
theorem ig_iu {l : List Int} {p v q : Int} (h0 : 0 ≤ p) (h1 : p < l.length) (h2 : 0 ≤ q) : ig (iu l p v) q = if p = q then v else ig l q := by
  unfold ig iu
  by_cases e : p = q
  · subst e
    rw [if_pos rfl, List.getD_eq_getElem?_getD, List.getElem?_set_self (by omega)]
    rfl
  · rw [if_neg e, List.getD_eq_getElem?_getD, List.getElem?_set_ne (by omega), List.getD_eq_getElem?_getD]
theorem ig_self {l : List Int} {p v : Int} (h0 : 0 ≤ p) (h1 : p < l.length) : ig (iu l p v) p = v := by rw [ig_iu h0 h1 h0, if_pos rfl]
theorem ig_ne {l : List Int} {p v q : Int} (h0 : 0 ≤ p) (h2 : 0 ≤ q) (h : p ≠ q) : ig (iu l p v) q = ig l q := by
  unfold ig iu
  rw [List.getD_eq_getElem?_getD, List.getElem?_set_ne (by omega), List.getD_eq_getElem?_getD]
theorem ig_at {l : List Int} {p : Int} (h0 : 0 ≤ p) (h1 : p < l.length) (h2 : p < 2147483648) : ox_at (l.map iI) (iI p) = some (iI (ig l p)) := by
  unfold ox_at ig
  rw [if_neg (by rw [show (0 : Int32) = iI 0 from rfl, iI_lt (by omega) (by omega) (by omega) (by omega)]; omega), iI_nat h0 h2, List.getElem?_map, List.getElem?_eq_getElem (by omega)]
  simp [List.getElem?_eq_getElem (show p.toNat < l.length by omega)]
theorem ig_set {l : List Int} {p v : Int} (h0 : 0 ≤ p) (h2 : p < 2147483648) : (l.map iI).set (iI p).toNatClampNeg (iI v) = (iu l p v).map iI := by
  unfold iu
  rw [iI_nat h0 h2, List.map_set]
theorem ig_ext {l l' : List Int} (hl : l.length = l'.length) (h : ∀ p : Int, 0 ≤ p → p < l.length → ig l p = ig l' p) : l = l' := by
  apply List.ext_getElem hl
  intro i h1 h2
  have := h (i : Int) (by omega) (by omega)
  unfold ig at this
  simpa [h1, h2] using this
/-! our machine's words on known things -/
theorem ox_O_s {α : Type} {a : α} {f : α → Option ox_R} : ox_O (some a) f = f a := rfl
theorem ox_B_s {v : Option Value} {h : ox_H} {f : Option Value → ox_H → Option ox_R} : ox_B (some (v, h)) f = f v h := rfl
theorem ox_g_t {r : Option ox_R} : ox_g true r = r := rfl
theorem ox_A_s {a : Nat} {f : Nat → Option ox_R} : ox_A (some (.ref a)) f = f a := rfl
theorem ox_push_s {v : Value} {st : List Value} : ox_push (some v) st = v :: st := rfl
theorem ox_push_n {st : List Value} : ox_push none st = st := rfl
theorem ox_some {α : Type} {a : α} : (some a).isSome = true := rfl
theorem ox_fld_of {h : ox_H} {a ci k : Nat} {fs : List Value} (e : h[a]? = some (.inr (ci, fs))) : ox_fld h a ci k = fs[k]? := by
  unfold ox_fld
  rw [e]
  exact if_pos rfl
theorem ox_obj_of {h : ox_H} {a ci : Nat} {fs : List Value} (e : h[a]? = some (.inr (ci, fs))) : ox_obj h a ci = some fs := by
  unfold ox_obj
  rw [e]
  exact if_pos rfl
theorem ox_ints_of {h : ox_H} {a t : Nat} {ok : Nat → Bool} {l : List Int32} (e : h[a]? = some (.inl (t, l))) (ht : ok t = true) : ox_ints h a ok = some l := by
  unfold ox_ints
  rw [e]
  exact if_pos ht
theorem ox_z0 {r : Option ox_R} : ox_g (iI 0 == iI 0 || iI 0 == iI 1) r = r := rfl
theorem ox_z1 {r : Option ox_R} : ox_g (iI 1 == iI 0 || iI 1 == iI 1) r = r := rfl
