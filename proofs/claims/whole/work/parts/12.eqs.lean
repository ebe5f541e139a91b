/-! The equation, an instruction a row. Numbers are written iI z, z an Int. -/
def iI (z : Int) : Int32 := Int32.ofInt z
section
variable {mi pc : Nat} {ls st : List Value} {h : ox_H}
theorem oq_iconst {k : Int} (hd : decode (mt_c mi) pc = .ok (.iconst k, 1)) : oe mi pc ls st h = oe mi (pc + 1) ls (.int (iI k) :: st) h := oe_eq hd
theorem oq_bipush {k : Int} (hk : (Int8.ofInt k).toInt32 = iI k) (hd : decode (mt_c mi) pc = .ok (.bipush k, 2)) : oe mi pc ls st h = oe mi (pc + 2) ls (.int (iI k) :: st) h := by
  rw [oe_eq hd, ← hk]; rfl
theorem oq_sipush {k : Int} (hk : (Int16.ofInt k).toInt32 = iI k) (hd : decode (mt_c mi) pc = .ok (.sipush k, 3)) : oe mi pc ls st h = oe mi (pc + 3) ls (.int (iI k) :: st) h := by
  rw [oe_eq hd, ← hk]; rfl
theorem oq_iload_n {k : Fin 4} {x : Int32} (hd : decode (mt_c mi) pc = .ok (.iload_n k, 1)) (hx : ls[k.val]? = some (.int x)) : oe mi pc ls st h = oe mi (pc + 1) ls (.int x :: st) h := by
  rw [oe_eq hd]
  show ox_g true (ox_I ls[k.val]? _) = _
  rw [hx]; rfl
theorem oq_iload {k : Nat} {x : Int32} (hd : decode (mt_c mi) pc = .ok (.iload k, 2)) (hx : ls[k]? = some (.int x)) : oe mi pc ls st h = oe mi (pc + 2) ls (.int x :: st) h := by
  rw [oe_eq hd]
  show ox_g true (ox_I ls[k]? _) = _
  rw [hx]; rfl
theorem oq_aload_n {k : Fin 4} {x : Nat} (hd : decode (mt_c mi) pc = .ok (.aload_n k, 1)) (hx : ls[k.val]? = some (.ref x)) : oe mi pc ls st h = oe mi (pc + 1) ls (.ref x :: st) h := by
  rw [oe_eq hd]
  show ox_g true (ox_A ls[k.val]? _) = _
  rw [hx]; rfl
theorem oq_aload {k : Nat} {x : Nat} (hd : decode (mt_c mi) pc = .ok (.aload k, 2)) (hx : ls[k]? = some (.ref x)) : oe mi pc ls st h = oe mi (pc + 2) ls (.ref x :: st) h := by
  rw [oe_eq hd]
  show ox_g true (ox_A ls[k]? _) = _
  rw [hx]; rfl
theorem oq_istore_n {k : Fin 4} {x : Int32} {ls' : List Value} (hd : decode (mt_c mi) pc = .ok (.istore_n k, 1)) (hk : k.val < ls.length) (hl : ls.set k.val (.int x) = ls') : oe mi pc ls (.int x :: st) h = oe mi (pc + 1) ls' st h := by
  rw [oe_eq hd, ← hl]
  show ox_g (true && decide (k.val < ls.length)) _ = _
  rw [decide_eq_true hk]; rfl
theorem oq_istore {k : Nat} {x : Int32} {ls' : List Value} (hd : decode (mt_c mi) pc = .ok (.istore k, 2)) (hk : k < ls.length) (hl : ls.set k (.int x) = ls') : oe mi pc ls (.int x :: st) h = oe mi (pc + 2) ls' st h := by
  rw [oe_eq hd, ← hl]
  show ox_g (true && decide (k < ls.length)) _ = _
  rw [decide_eq_true hk]; rfl
theorem oq_astore_n {k : Fin 4} {x : Nat} {ls' : List Value} (hd : decode (mt_c mi) pc = .ok (.astore_n k, 1)) (hk : k.val < ls.length) (hl : ls.set k.val (.ref x) = ls') : oe mi pc ls (.ref x :: st) h = oe mi (pc + 1) ls' st h := by
  rw [oe_eq hd, ← hl]
  show ox_g (true && decide (k.val < ls.length)) _ = _
  rw [decide_eq_true hk]; rfl
theorem oq_iinc {k : Nat} {d : Int} {x : Int32} {ls' : List Value} (hd : decode (mt_c mi) pc = .ok (.iinc k d, 3)) (hx : ls[k]? = some (.int x)) (hl : ls.set k (.int (x + iI d)) = ls') : oe mi pc ls st h = oe mi (pc + 3) ls' st h := by
  rw [oe_eq hd, ← hl]
  show ox_g true (ox_I ls[k]? _) = _
  rw [hx]; rfl
theorem oq_iadd {x y : Int32} (hd : decode (mt_c mi) pc = .ok (.iadd, 1)) : oe mi pc ls (.int y :: .int x :: st) h = oe mi (pc + 1) ls (.int (x + y) :: st) h := oe_eq hd
theorem oq_isub {x y : Int32} (hd : decode (mt_c mi) pc = .ok (.isub, 1)) : oe mi pc ls (.int y :: .int x :: st) h = oe mi (pc + 1) ls (.int (x - y) :: st) h := oe_eq hd
theorem oq_imul {x y : Int32} (hd : decode (mt_c mi) pc = .ok (.imul, 1)) : oe mi pc ls (.int y :: .int x :: st) h = oe mi (pc + 1) ls (.int (x * y) :: st) h := oe_eq hd
theorem oq_iand {x y : Int32} (hd : decode (mt_c mi) pc = .ok (.iand, 1)) : oe mi pc ls (.int y :: .int x :: st) h = oe mi (pc + 1) ls (.int (x &&& y) :: st) h := oe_eq hd
theorem oq_ior {x y : Int32} (hd : decode (mt_c mi) pc = .ok (.ior, 1)) : oe mi pc ls (.int y :: .int x :: st) h = oe mi (pc + 1) ls (.int (x ||| y) :: st) h := oe_eq hd
theorem oq_ishl {x y : Int32} (hd : decode (mt_c mi) pc = .ok (.ishl, 1)) : oe mi pc ls (.int y :: .int x :: st) h = oe mi (pc + 1) ls (.int (x <<< (y &&& 31)) :: st) h := oe_eq hd
theorem oq_ishr {x y : Int32} (hd : decode (mt_c mi) pc = .ok (.ishr, 1)) : oe mi pc ls (.int y :: .int x :: st) h = oe mi (pc + 1) ls (.int (x >>> (y &&& 31)) :: st) h := oe_eq hd
theorem oq_idiv {x y : Int32} (hd : decode (mt_c mi) pc = .ok (.idiv, 1)) : oe mi pc ls (.int y :: .int x :: st) h = ox_g (!(y == 0)) (oe mi (pc + 1) ls (.int (x / y) :: st) h) := oe_eq hd
theorem oq_irem {x y : Int32} (hd : decode (mt_c mi) pc = .ok (.irem, 1)) : oe mi pc ls (.int y :: .int x :: st) h = ox_g (!(y == 0)) (oe mi (pc + 1) ls (.int (x - x / y * y) :: st) h) := oe_eq hd
theorem oq_dupI {x : Int32} (hd : decode (mt_c mi) pc = .ok (.dup, 1)) : oe mi pc ls (.int x :: st) h = oe mi (pc + 1) ls (.int x :: .int x :: st) h := oe_eq hd
theorem oq_dupA {x : Nat} (hd : decode (mt_c mi) pc = .ok (.dup, 1)) : oe mi pc ls (.ref x :: st) h = oe mi (pc + 1) ls (.ref x :: .ref x :: st) h := oe_eq hd
theorem oq_dup2 {x : Int32} {a : Nat} (hd : decode (mt_c mi) pc = .ok (.dup2, 1)) : oe mi pc ls (.int x :: .ref a :: st) h = oe mi (pc + 1) ls (.int x :: .ref a :: .int x :: .ref a :: st) h := oe_eq hd
theorem oq_jmp {off : Int} {t : Nat} {f : Nat → Option ox_R} (ht : (pc : Int) + off = (t : Int)) : ox_jmp pc off f = f t := by
  unfold ox_jmp
  rw [ht, if_pos (Int.natCast_nonneg t)]
  rfl
theorem oq_goto {off : Int} {t : Nat} (hd : decode (mt_c mi) pc = .ok (.goto off, 3)) (ht : (pc : Int) + off = (t : Int)) : oe mi pc ls st h = oe mi t ls st h := by
  rw [oe_eq hd]
  exact oq_jmp (f := fun t => oe mi t ls st h) ht
theorem oq_if {c : ClassFile.Cond} {off : Int} {t : Nat} {x : Int32} (hd : decode (mt_c mi) pc = .ok (.ifCond c off, 3)) (ht : (pc : Int) + off = (t : Int)) : oe mi pc ls (.int x :: st) h = if ox_cb c x (iI 0) = true then oe mi t ls st h else oe mi (pc + 3) ls st h := by
  rw [oe_eq hd]
  exact oq_jmp (f := fun t => ox_pI (.int x :: st) fun x st => if ox_cb c x 0 then oe mi t ls st h else oe mi (pc + 3) ls st h) ht
theorem oq_icmp {c : ClassFile.Cond} {off : Int} {t : Nat} {x y : Int32} (hd : decode (mt_c mi) pc = .ok (.if_icmp c off, 3)) (ht : (pc : Int) + off = (t : Int)) : oe mi pc ls (.int y :: .int x :: st) h = if ox_cb c x y = true then oe mi t ls st h else oe mi (pc + 3) ls st h := by
  rw [oe_eq hd]
  exact oq_jmp (f := fun t => ox_p2 (.int y :: .int x :: st) fun x y st => if ox_cb c x y then oe mi t ls st h else oe mi (pc + 3) ls st h) ht
theorem oc_eqT {x y : Int32} {A B : Option ox_R} : (if ox_cb .eq x y = true then A else B) = if x = y then A else B := by simp only [ox_cb, decide_eq_true_eq]
theorem oc_neT {x y : Int32} {A B : Option ox_R} : (if ox_cb .ne x y = true then A else B) = if x = y then B else A := by
  simp only [ox_cb, decide_eq_true_eq]
  by_cases q : x = y <;> simp [q]
theorem oc_ltT {x y : Int32} {A B : Option ox_R} : (if ox_cb .lt x y = true then A else B) = if x < y then A else B := by simp only [ox_cb, decide_eq_true_eq]
theorem oc_geT {x y : Int32} {A B : Option ox_R} : (if ox_cb .ge x y = true then A else B) = if x < y then B else A := by
  simp only [ox_cb, decide_eq_true_eq]
  by_cases q : x < y
  · rw [if_pos q, if_neg (Int32.not_le.mpr q)]
  · rw [if_neg q, if_pos (Int32.not_lt.mp q)]
theorem oc_gtT {x y : Int32} {A B : Option ox_R} : (if ox_cb .gt x y = true then A else B) = if y < x then A else B := by simp only [ox_cb, decide_eq_true_eq]
theorem oc_leT {x y : Int32} {A B : Option ox_R} : (if ox_cb .le x y = true then A else B) = if y < x then B else A := by
  simp only [ox_cb, decide_eq_true_eq]
  by_cases q : y < x
  · rw [if_pos q, if_neg (Int32.not_le.mpr q)]
  · rw [if_neg q, if_pos (Int32.not_lt.mp q)]
theorem oq_tabI {d lo hi o : Int} {offs : Array Int} {n t : Nat} {x : Int32} (hd : decode (mt_c mi) pc = .ok (.tableswitch d lo hi offs, n)) (hx : ¬ (x.toInt < lo ∨ hi < x.toInt)) (ho : offs[(x.toInt - lo).toNat]? = some o) (ht : (pc : Int) + o = (t : Int)) : oe mi pc ls (.int x :: st) h = oe mi t ls st h := by
  rw [oe_eq hd]
  show (if x.toInt < lo ∨ hi < x.toInt then _ else ox_O offs[(x.toInt - lo).toNat]? _) = _
  rw [if_neg hx, ho]
  exact oq_jmp (f := fun t => oe mi t ls st h) ht
theorem oq_tabO {d lo hi : Int} {offs : Array Int} {n t : Nat} {x : Int32} (hd : decode (mt_c mi) pc = .ok (.tableswitch d lo hi offs, n)) (ht : (pc : Int) + d = (t : Int)) (hx : x.toInt < lo ∨ hi < x.toInt) : oe mi pc ls (.int x :: st) h = oe mi t ls st h := by
  rw [oe_eq hd]
  show (if x.toInt < lo ∨ hi < x.toInt then _ else _) = _
  rw [if_pos hx]
  exact oq_jmp (f := fun t => oe mi t ls st h) ht
theorem oq_look {d : Int} {ps : Array (Int × Int)} {n t : Nat} {x : Int32} (hd : decode (mt_c mi) pc = .ok (.lookupswitch d ps, n)) (hp : (ps.toList.zip (ps.toList.drop 1)).all (fun (a, next) => a.1 < next.1) = true) (ht : (pc : Int) + Op.lookupswitch.offset ps.toList d x.toInt = (t : Int)) : oe mi pc ls (.int x :: st) h = oe mi t ls st h := by
  rw [oe_eq hd]
  show ox_g ((ps.toList.zip (ps.toList.drop 1)).all (fun (a, next) => a.1 < next.1)) _ = _
  rw [hp]
  exact oq_jmp (f := fun t => oe mi t ls st h) ht
theorem oq_getf {i a ci k : Nat} (hd : decode (mt_c mi) pc = .ok (.getfield i, 3)) (hr : rs_F (mt_k mi) i = some (ci, k)) : oe mi pc ls (.ref a :: st) h = ox_O (ox_fld h a ci k) fun v => oe mi (pc + 3) ls (v :: st) h := by
  rw [oe_eq hd]
  show ox_g true (ox_O (rs_F (mt_k mi) i) _) = _
  rw [hr]; rfl
theorem oq_putf {i a ci k : Nat} {v : Value} (hd : decode (mt_c mi) pc = .ok (.putfield i, 3)) (hr : rs_F (mt_k mi) i = some (ci, k)) (hv : (ox_okv ci k v && ox_fin mi ci k) = true) : oe mi pc ls (v :: .ref a :: st) h = ox_O (ox_obj h a ci) fun fs => ox_g (decide (k < fs.length)) (oe mi (pc + 3) ls st (h.set a (.inr (ci, fs.set k v)))) := by
  rw [oe_eq hd]
  show ox_g true (ox_O (rs_F (mt_k mi) i) _) = _
  rw [hr]
  show ox_g (ox_okv ci k v && ox_fin mi ci k) _ = _
  rw [hv]; rfl
theorem oq_gets {i k : Nat} (hd : decode (mt_c mi) pc = .ok (.getstatic i, 3)) (hr : rs_S (mt_k mi) i = some k) : oe mi pc ls st h = oe mi (pc + 3) ls (.ref k :: st) h := by
  rw [oe_eq hd]
  show ox_g true (ox_O (rs_S (mt_k mi) i) _) = _
  rw [hr]; rfl
theorem oq_iald {i : Int32} {a : Nat} (hd : decode (mt_c mi) pc = .ok (.iaload, 1)) : oe mi pc ls (.int i :: .ref a :: st) h = ox_O (ox_ints h a ox_isI) fun l => ox_O (ox_at l i) fun x => oe mi (pc + 1) ls (.int x :: st) h := oe_eq hd
theorem oq_bald {i : Int32} {a : Nat} (hd : decode (mt_c mi) pc = .ok (.baload, 1)) : oe mi pc ls (.int i :: .ref a :: st) h = ox_O (ox_ints h a ox_isZ) fun l => ox_O (ox_at l i) fun x => oe mi (pc + 1) ls (.int x :: st) h := oe_eq hd
theorem oq_cald {i : Int32} {a : Nat} (hd : decode (mt_c mi) pc = .ok (.caload, 1)) (ha : a < 4) : oe mi pc ls (.int i :: .ref a :: st) h = ox_O (ox_ints h a ox_isC) fun l => ox_O (ox_at l i) fun x => oe mi (pc + 1) ls (.int x :: st) h := by
  rw [oe_eq hd]
  show ox_O (if a < 4 then ox_ints h a ox_isC else none) _ = _
  rw [if_pos ha]
theorem oq_aald {i : Int32} {a : Nat} (hd : decode (mt_c mi) pc = .ok (.aaload, 1)) : oe mi pc ls (.int i :: .ref a :: st) h = ox_O (ox_obj h a 4) fun l => ox_A (ox_at l i) fun x => oe mi (pc + 1) ls (.ref x :: st) h := oe_eq hd
theorem oq_iast {i x : Int32} {a : Nat} (hd : decode (mt_c mi) pc = .ok (.iastore, 1)) : oe mi pc ls (.int x :: .int i :: .ref a :: st) h = ox_O (ox_ints h a ox_is0) fun l => ox_O (ox_at l i) fun _ => oe mi (pc + 1) ls st (h.set a (.inl (0, l.set i.toNatClampNeg x))) := oe_eq hd
theorem oq_bast {i x : Int32} {a : Nat} (hd : decode (mt_c mi) pc = .ok (.bastore, 1)) : oe mi pc ls (.int x :: .int i :: .ref a :: st) h = ox_g (x == 0 || x == 1) (ox_O (ox_ints h a ox_isZ) fun l => ox_O (ox_at l i) fun _ => oe mi (pc + 1) ls st (h.set a (.inl (1, l.set i.toNatClampNeg x)))) := oe_eq hd
theorem oq_aast {i : Int32} {a x : Nat} (hd : decode (mt_c mi) pc = .ok (.aastore, 1)) : oe mi pc ls (.ref x :: .int i :: .ref a :: st) h = ox_g (ox_obj h x 1).isSome (ox_O (ox_obj h a 4) fun l => ox_O (ox_at l i) fun _ => oe mi (pc + 1) ls st (h.set a (.inr (4, l.set i.toNatClampNeg (.ref x))))) := oe_eq hd
theorem oq_alen {a : Nat} (hd : decode (mt_c mi) pc = .ok (.arraylength, 1)) : oe mi pc ls (.ref a :: st) h = ox_O (ox_len h a) fun k => oe mi (pc + 1) ls (.int (Int32.ofNat k) :: st) h := oe_eq hd
theorem oq_newI {k : Int32} (hd : decode (mt_c mi) pc = .ok (.newarray .int, 2)) : oe mi pc ls (.int k :: st) h = ox_g (decide (0 ≤ k) && decide (k.toNatClampNeg ≤ 100000)) (oe mi (pc + 2) ls (.ref h.length :: st) (h ++ [.inl (0, List.replicate k.toNatClampNeg 0)])) := oe_eq hd
theorem oq_newZ {k : Int32} (hd : decode (mt_c mi) pc = .ok (.newarray .boolean, 2)) : oe mi pc ls (.int k :: st) h = ox_g (decide (0 ≤ k) && decide (k.toNatClampNeg ≤ 100000)) (oe mi (pc + 2) ls (.ref h.length :: st) (h ++ [.inl (1, List.replicate k.toNatClampNeg 0)])) := oe_eq hd
theorem oq_newq {k : Int32} {i : Nat} (hd : decode (mt_c mi) pc = .ok (.anewarray i, 3)) (hr : rs_K (mt_k mi) i = some 1) : oe mi pc ls (.int k :: st) h = ox_g (decide (0 ≤ k) && decide (k.toNatClampNeg ≤ 100000)) (oe mi (pc + 3) ls (.ref h.length :: st) (h ++ [.inr (4, List.replicate k.toNatClampNeg .null)])) := by
  rw [oe_eq hd]
  show ox_g true (ox_O (rs_K (mt_k mi) i) _) = _
  rw [hr]; rfl
theorem oq_new {i c : Nat} (hd : decode (mt_c mi) pc = .ok (.new i, 3)) (hr : rs_K (mt_k mi) i = some c) : oe mi pc ls st h = oe mi (pc + 3) ls (.ref h.length :: st) (h ++ [.inr (c, ox_dfl c)]) := by
  rw [oe_eq hd]
  show ox_g true (ox_O (rs_K (mt_k mi) i) _) = _
  rw [hr]; rfl
theorem oq_obj {i a : Nat} (hd : decode (mt_c mi) pc = .ok (.invokespecial i, 3)) (hr : rs_M (mt_k mi) i = some 1000) (hc : (decide (1 ≤ mt_r mi) && decide (st.length ≤ 8) && st.all (fun v => v.category == 1)) = true) : oe mi pc ls (.ref a :: st) h = oe mi (pc + 3) ls st h := by
  rw [oe_eq hd]
  show ox_g true (ox_O (rs_M (mt_k mi) i) _) = _
  rw [hr]
  show ox_g (decide (1 ≤ mt_r mi) && decide (st.length ≤ 8) && st.all (fun v => v.category == 1)) _ = _
  rw [hc]; rfl
theorem oq_max {i : Nat} {x y : Int32} (hd : decode (mt_c mi) pc = .ok (.invokestatic i, 3)) (hr : rs_M (mt_k mi) i = some 1001) (hc : (decide (1 ≤ mt_r mi) && decide (st.length ≤ 8) && st.all (fun v => v.category == 1)) = true) : oe mi pc ls (.int y :: .int x :: st) h = oe mi (pc + 3) ls (.int (if x < y then y else x) :: st) h := by
  rw [oe_eq hd]
  show ox_g true (ox_O (rs_M (mt_k mi) i) _) = _
  rw [hr]
  show ox_g (decide (1 ≤ mt_r mi) && decide (st.length ≤ 8) && st.all (fun v => v.category == 1)) _ = _
  rw [hc]; rfl
theorem oq_min {i : Nat} {x y : Int32} (hd : decode (mt_c mi) pc = .ok (.invokestatic i, 3)) (hr : rs_M (mt_k mi) i = some 1002) (hc : (decide (1 ≤ mt_r mi) && decide (st.length ≤ 8) && st.all (fun v => v.category == 1)) = true) : oe mi pc ls (.int y :: .int x :: st) h = oe mi (pc + 3) ls (.int (if y < x then y else x) :: st) h := by
  rw [oe_eq hd]
  show ox_g true (ox_O (rs_M (mt_k mi) i) _) = _
  rw [hr]
  show ox_g (decide (1 ≤ mt_r mi) && decide (st.length ≤ 8) && st.all (fun v => v.category == 1)) _ = _
  rw [hc]; rfl
theorem oq_copy {i a b : Nat} {k : Int32} (hd : decode (mt_c mi) pc = .ok (.invokestatic i, 3)) (hr : rs_M (mt_k mi) i = some 1003) (hc : (decide (1 ≤ mt_r mi) && decide (st.length ≤ 8) && st.all (fun v => v.category == 1)) = true) (hk : 0 ≤ k) : oe mi pc ls (.int k :: .int (iI 0) :: .ref b :: .int (iI 0) :: .ref a :: st) h = ox_O (ox_ints h a ox_is0) fun l => ox_O (ox_ints h b ox_is0) fun l' => ox_g (decide (k.toNatClampNeg ≤ l.length) && decide (k.toNatClampNeg ≤ l'.length)) (oe mi (pc + 3) ls st (h.set b (.inl (0, l.take k.toNatClampNeg ++ l'.drop k.toNatClampNeg)))) := by
  rw [oe_eq hd]
  show ox_g true (ox_O (rs_M (mt_k mi) i) _) = _
  rw [hr]
  show ox_g (decide (1 ≤ mt_r mi) && decide (st.length ≤ 8) && st.all (fun v => v.category == 1) && (decide (0 ≤ k) && iI 0 == 0 && iI 0 == 0)) _ = _
  rw [hc, decide_eq_true hk]; rfl
/-- a call -/
theorem oq_cal {j : Nat} {As rest : List Value} {K : Option Value → List Value → ox_H → Option ox_R} (ha : As.length = mt_a j) (hst : st = As.reverse ++ rest) (hrk : mt_r j < mt_r mi) (h8 : rest.length ≤ 8) (hc : st.all (fun v => v.category == 1) = true) {ls' : List Value} (hl : As ++ List.replicate (mt_n j - mt_a j) .null = ls') : ox_call oe mi j st h K = ox_B (oe j 0 ls' [] h) fun v h' => K v rest h' := by
  have e1 : st.take (mt_a j) = As.reverse := by rw [hst, ← ha, ← List.length_reverse, List.take_left]
  have e2 : st.drop (mt_a j) = rest := by rw [hst, ← ha, ← List.length_reverse, List.drop_left]
  unfold ox_call
  rw [if_pos ⟨hrk, by rw [hst, List.length_append, List.length_reverse]; omega, by rw [e2]; exact h8, hc⟩, e1, e2, List.reverse_reverse, hl]
theorem oq_rcv {j o : Nat} {As rest : List Value} (ha : As.length + 1 = mt_a j) (hst : st = As.reverse ++ .ref o :: rest) : ox_rcv h j st = (ox_obj h o (mt_k j)).isSome := by
  have e1 : st.take (mt_a j) = As.reverse ++ [.ref o] := by
    rw [hst, ← ha, ← List.length_reverse, show As.reverse ++ Value.ref o :: rest = (As.reverse ++ [.ref o]) ++ rest by simp]
    exact List.take_left' (by simp)
  unfold ox_rcv
  rw [e1, List.getLast?_append]
  rfl
theorem oq_virt {i j o : Nat} {As rest ls' : List Value} (hd : decode (mt_c mi) pc = .ok (.invokevirtual i, 3)) (hr : rs_M (mt_k mi) i = some j) (hs : (mt_s j == 0 && decide (j < 154)) = true) (hst : st = As.reverse ++ .ref o :: rest) (ha : As.length + 1 = mt_a j) (hrk : mt_r j < mt_r mi) (h8 : rest.length ≤ 8) (hc : st.all (fun v => v.category == 1) = true) (hl : (.ref o :: As) ++ List.replicate (mt_n j - mt_a j) .null = ls') :
    oe mi pc ls st h = ox_g (ox_obj h o (mt_k j)).isSome (ox_B (oe j 0 ls' [] h) fun v h' => oe mi (pc + 3) ls (ox_push v rest) h') := by
  rw [oe_eq hd]
  show ox_g true (ox_O (rs_M (mt_k mi) i) _) = _
  rw [hr]
  show ox_g (mt_s j == 0 && decide (j < 154) && ox_rcv h j st) (ox_call oe mi j st h _) = _
  rw [hs, oq_rcv ha hst, oq_cal (As := .ref o :: As) (rest := rest) (by simpa using ha) (by rw [hst]; simp) hrk h8 hc hl]
  rfl
theorem oq_spec {i j o : Nat} {As rest ls' : List Value} (hd : decode (mt_c mi) pc = .ok (.invokespecial i, 3)) (hr : rs_M (mt_k mi) i = some j) (hs : (mt_s j == 2 && decide (j < 154)) = true) (hst : st = As.reverse ++ .ref o :: rest) (ha : As.length + 1 = mt_a j) (hrk : mt_r j < mt_r mi) (h8 : rest.length ≤ 8) (hc : st.all (fun v => v.category == 1) = true) (hl : (.ref o :: As) ++ List.replicate (mt_n j - mt_a j) .null = ls') :
    oe mi pc ls st h = ox_g (ox_obj h o (mt_k j)).isSome (ox_B (oe j 0 ls' [] h) fun v h' => oe mi (pc + 3) ls (ox_push v rest) h') := by
  have hj : j < 154 := by
    rw [Bool.and_eq_true] at hs
    exact of_decide_eq_true hs.2
  rw [oe_eq hd]
  show ox_g true (ox_O (rs_M (mt_k mi) i) _) = _
  rw [hr]
  show (if j = 1000 then _ else ox_g (mt_s j == 2 && decide (j < 154) && ox_rcv h j st) (ox_call oe mi j st h _)) = _
  rw [if_neg (by omega), hs, oq_rcv ha hst, oq_cal (As := .ref o :: As) (rest := rest) (by simpa using ha) (by rw [hst]; simp) hrk h8 hc hl]
  rfl
theorem oq_stat {i j : Nat} {As rest ls' : List Value} (hd : decode (mt_c mi) pc = .ok (.invokestatic i, 3)) (hr : rs_M (mt_k mi) i = some j) (hs : (mt_s j == 1 && decide (j < 154)) = true) (hst : st = As.reverse ++ rest) (ha : As.length = mt_a j) (hrk : mt_r j < mt_r mi) (h8 : rest.length ≤ 8) (hc : st.all (fun v => v.category == 1) = true) (hl : As ++ List.replicate (mt_n j - mt_a j) .null = ls') :
    oe mi pc ls st h = ox_B (oe j 0 ls' [] h) fun v h' => oe mi (pc + 3) ls (ox_push v rest) h' := by
  have hj : j < 154 := by
    rw [Bool.and_eq_true] at hs
    exact of_decide_eq_true hs.2
  rw [oe_eq hd]
  show ox_g true (ox_O (rs_M (mt_k mi) i) _) = _
  rw [hr]
  show (if j = 1001 then _ else if j = 1002 then _ else if j = 1003 then _ else ox_g (mt_s j == 1 && decide (j < 154)) (ox_call oe mi j st h _)) = _
  rw [if_neg (by omega), if_neg (by omega), if_neg (by omega), hs, oq_cal (As := As) (rest := rest) ha hst hrk h8 hc hl]
  rfl
theorem oq_iret {x : Int32} (hd : decode (mt_c mi) pc = .ok (.ireturn, 1)) (ht : mt_t mi = 1) : oe mi pc ls [.int x] h = some (some (.int x), h) := by
  rw [oe_eq hd]
  show ox_g (mt_t mi == 1 || (mt_t mi == 2 && (x == 0 || x == 1))) _ = _
  rw [ht]; rfl
theorem oq_zret {x : Int32} (hd : decode (mt_c mi) pc = .ok (.ireturn, 1)) (ht : mt_t mi = 2) : oe mi pc ls [.int x] h = ox_g (x == iI 0 || x == iI 1) (some (some (.int x), h)) := by
  rw [oe_eq hd]
  show ox_g (mt_t mi == 1 || (mt_t mi == 2 && (x == 0 || x == 1))) _ = _
  rw [ht]; rfl
theorem oq_ret (hd : decode (mt_c mi) pc = .ok (.return_, 1)) (ht : mt_t mi = 0) : oe mi pc ls [] h = some (none, h) := by
  rw [oe_eq hd]
  show ox_g (true && mt_t mi == 0) _ = _
  rw [ht]; rfl
end
