/-! A small machine of our own over lists: what the bytecode of the class, the reference and the law does, as a function. Cells: .inl (kind, ints): 0 int[], 1 boolean[], 2 a constant int[], 3 a constant char[]; .inr (class, fields): 0 Line, 1 Outline, 2 OutlineEditor, 3 OutlineEditorModel, 4 Outline[]. The cells 0 to 3 are the script and the three constant tables. -/
abbrev ox_C : Type := (Nat × List Int32) ⊕ (Nat × List Value)
abbrev ox_H : Type := List ox_C
abbrev ox_R : Type := Option Value × ox_H
def ox_fld (h : ox_H) (a ci k : Nat) : Option Value := match h[a]? with
  | some (.inr q) => if q.1 = ci then q.2[k]? else none
  | _ => none
/-- the object at a, of class ci -/
def ox_obj (h : ox_H) (a ci : Nat) : Option (List Value) := match h[a]? with
  | some (.inr q) => if q.1 = ci then some q.2 else none
  | _ => none
/-- the ints of the array at a, of a kind -/
def ox_ints (h : ox_H) (a : Nat) (ok : Nat → Bool) : Option (List Int32) := match h[a]? with
  | some (.inl q) => if ok q.1 then some q.2 else none
  | _ => none
def ox_isI : Nat → Bool := fun k => k == 0 || k == 2
def ox_isZ : Nat → Bool := fun k => k == 1
def ox_isC : Nat → Bool := fun k => k == 3
def ox_is0 : Nat → Bool := fun k => k == 0
/-- the length of the array at a -/
def ox_len (h : ox_H) (a : Nat) : Option Nat := match h[a]? with
  | some (.inl q) => some q.2.length
  | some (.inr q) => if q.1 = 4 then some q.2.length else none
  | none => none
def ox_at {α : Type} (l : List α) (i : Int32) : Option α := if i < 0 then none else l[i.toNatClampNeg]?
def ox_cb (c : ClassFile.Cond) (x y : Int32) : Bool := match c with
  | .eq => decide (x = y)
  | .ne => decide (¬ x = y)
  | .lt => decide (x < y)
  | .ge => decide (y ≤ x)
  | .gt => decide (y < x)
  | .le => decide (x ≤ y)
def ox_dfl (c : Nat) : List Value := match c with
  | 0 => [.null, .int 0]
  | 1 => [.int 0, .null, .null, .null, .null, .null, .null, .null, .null, .int 0, .int 0, .null, .null]
  | 2 => [.null, .null, .int 0, .null, .null, .null, .null]
  | _ => [.null, .null, .int 0, .null, .int 0, .null, .int 0, .null, .null, .int 0]
def ox_push (v : Option Value) (st : List Value) : List Value := match v with
  | none => st
  | some x => x :: st
def ox_B (o : Option ox_R) (f : Option Value → ox_H → Option ox_R) : Option ox_R := match o with
  | none => none
  | some r => f r.1 r.2
def ox_O {α : Type} (o : Option α) (f : α → Option ox_R) : Option ox_R := match o with
  | none => none
  | some r => f r
def ox_g (b : Bool) (r : Option ox_R) : Option ox_R := if b then r else none
def ox_I (v : Option Value) (f : Int32 → Option ox_R) : Option ox_R := match v with
  | some (.int x) => f x
  | _ => none
def ox_A (v : Option Value) (f : Nat → Option ox_R) : Option ox_R := match v with
  | some (.ref x) => f x
  | _ => none
/-- the top of the stack, an int -/
def ox_pI (st : List Value) (f : Int32 → List Value → Option ox_R) : Option ox_R := match st with
  | .int x :: r => f x r
  | _ => none
def ox_pA (st : List Value) (f : Nat → List Value → Option ox_R) : Option ox_R := match st with
  | .ref x :: r => f x r
  | _ => none
def ox_p2 (st : List Value) (f : Int32 → Int32 → List Value → Option ox_R) : Option ox_R := ox_pI st fun y r => ox_pI r fun x r => f x y r
abbrev ox_F : Type := Nat → Nat → List Value → List Value → ox_H → Option ox_R
def ox_jmp (pc : Nat) (off : Int) (f : Nat → Option ox_R) : Option ox_R := if 0 ≤ (pc : Int) + off then f ((pc : Int) + off).toNat else none
/-- may the method mi write the field k of class ci? -/
def ox_fin (mi ci k : Nat) : Bool := !(mt_T ci k).2.2.2 || (mt_s mi == 2 && mt_k mi == ci)
def ox_tyI (ci k : Nat) : Bool := match mt_ty ci k with
  | .int => true
  | _ => false
def ox_okv (ci k : Nat) (v : Value) : Bool := match v with
  | .int _ => ox_tyI ci k
  | .ref _ => !ox_tyI ci k
  | _ => false
/-- a call of the method j, with its arguments on the stack, the last on top -/
def ox_call (f : ox_F) (mi j : Nat) (st : List Value) (h : ox_H) (k : Option Value → List Value → ox_H → Option ox_R) : Option ox_R :=
  if mt_r j < mt_r mi ∧ mt_a j ≤ st.length ∧ (st.drop (mt_a j)).length ≤ 8 ∧ st.all (fun v => v.category == 1) = true then
    ox_B (f j 0 ((st.take (mt_a j)).reverse ++ List.replicate (mt_n j - mt_a j) .null) [] h) fun v h' => k v (st.drop (mt_a j)) h'
  else none
/-- the receiver of a call: an object of the method's class -/
def ox_rcv (h : ox_H) (j : Nat) (st : List Value) : Bool := match (st.take (mt_a j)).getLast? with
  | some (.ref a) => (ox_obj h a (mt_k j)).isSome
  | _ => false
def ox_in (f : ox_F) (mi pc : Nat) (ls st : List Value) (h : ox_H) (n : Nat) : Instr → Option ox_R
  | .iconst k => ox_g (n == 1) (f mi (pc + 1) ls (.int (Int32.ofInt k) :: st) h)
  | .bipush k => ox_g (n == 2) (f mi (pc + 2) ls (.int (Int8.ofInt k).toInt32 :: st) h)
  | .sipush k => ox_g (n == 3) (f mi (pc + 3) ls (.int (Int16.ofInt k).toInt32 :: st) h)
  | .iload_n k => ox_g (n == 1) (ox_I ls[k.val]? fun x => f mi (pc + 1) ls (.int x :: st) h)
  | .iload k => ox_g (n == 2) (ox_I ls[k]? fun x => f mi (pc + 2) ls (.int x :: st) h)
  | .aload_n k => ox_g (n == 1) (ox_A ls[k.val]? fun x => f mi (pc + 1) ls (.ref x :: st) h)
  | .aload k => ox_g (n == 2) (ox_A ls[k]? fun x => f mi (pc + 2) ls (.ref x :: st) h)
  | .istore_n k => ox_g (n == 1 && decide (k.val < ls.length)) (ox_pI st fun x st => f mi (pc + 1) (ls.set k.val (.int x)) st h)
  | .istore k => ox_g (n == 2 && decide (k < ls.length)) (ox_pI st fun x st => f mi (pc + 2) (ls.set k (.int x)) st h)
  | .astore_n k => ox_g (n == 1 && decide (k.val < ls.length)) (ox_pA st fun x st => f mi (pc + 1) (ls.set k.val (.ref x)) st h)
  | .astore k => ox_g (n == 2 && decide (k < ls.length)) (ox_pA st fun x st => f mi (pc + 2) (ls.set k (.ref x)) st h)
  | .iinc k d => ox_g (n == 3) (ox_I ls[k]? fun x => f mi (pc + 3) (ls.set k (.int (x + Int32.ofInt d))) st h)
  | .iadd => ox_g (n == 1) (ox_p2 st fun x y st => f mi (pc + 1) ls (.int (x + y) :: st) h)
  | .isub => ox_g (n == 1) (ox_p2 st fun x y st => f mi (pc + 1) ls (.int (x - y) :: st) h)
  | .imul => ox_g (n == 1) (ox_p2 st fun x y st => f mi (pc + 1) ls (.int (x * y) :: st) h)
  | .iand => ox_g (n == 1) (ox_p2 st fun x y st => f mi (pc + 1) ls (.int (x &&& y) :: st) h)
  | .ior => ox_g (n == 1) (ox_p2 st fun x y st => f mi (pc + 1) ls (.int (x ||| y) :: st) h)
  | .ishl => ox_g (n == 1) (ox_p2 st fun x y st => f mi (pc + 1) ls (.int (x <<< (y &&& 31)) :: st) h)
  | .ishr => ox_g (n == 1) (ox_p2 st fun x y st => f mi (pc + 1) ls (.int (x >>> (y &&& 31)) :: st) h)
  | .idiv => ox_g (n == 1) (ox_p2 st fun x y st => ox_g (!(y == 0)) (f mi (pc + 1) ls (.int (x / y) :: st) h))
  | .irem => ox_g (n == 1) (ox_p2 st fun x y st => ox_g (!(y == 0)) (f mi (pc + 1) ls (.int (x - x / y * y) :: st) h))
  | .dup => ox_g (n == 1) (match st with
    | v :: r => ox_g (v.category == 1) (f mi (pc + 1) ls (v :: v :: r) h)
    | _ => none)
  | .dup2 => ox_g (n == 1) (match st with
    | v :: w :: r => ox_g (v.category == 1 && w.category == 1) (f mi (pc + 1) ls (v :: w :: v :: w :: r) h)
    | _ => none)
  | .goto off => ox_g (n == 3) (ox_jmp pc off fun t => f mi t ls st h)
  | .ifCond c off => ox_g (n == 3) (ox_jmp pc off fun t => ox_pI st fun x st => if ox_cb c x 0 then f mi t ls st h else f mi (pc + 3) ls st h)
  | .if_icmp c off => ox_g (n == 3) (ox_jmp pc off fun t => ox_p2 st fun x y st => if ox_cb c x y then f mi t ls st h else f mi (pc + 3) ls st h)
  | .tableswitch d lo hi offs => ox_pI st fun x st => if x.toInt < lo ∨ hi < x.toInt then ox_jmp pc d fun t => f mi t ls st h else ox_O offs[(x.toInt - lo).toNat]? fun o => ox_jmp pc o fun t => f mi t ls st h
  | .lookupswitch d ps => ox_g ((ps.toList.zip (ps.toList.drop 1)).all (fun (a, next) => a.1 < next.1)) (ox_pI st fun x st => ox_jmp pc (Op.lookupswitch.offset ps.toList d x.toInt) fun t => f mi t ls st h)
  | .getfield i => ox_g (n == 3) (ox_O (rs_F (mt_k mi) i) fun q => ox_pA st fun a st => ox_O (ox_fld h a q.1 q.2) fun v => f mi (pc + 3) ls (v :: st) h)
  | .putfield i => ox_g (n == 3) (ox_O (rs_F (mt_k mi) i) fun q => match st with
    | v :: .ref a :: st => ox_g (ox_okv q.1 q.2 v && ox_fin mi q.1 q.2) (ox_O (ox_obj h a q.1) fun fs => ox_g (decide (q.2 < fs.length)) (f mi (pc + 3) ls st (h.set a (.inr (q.1, fs.set q.2 v)))))
    | _ => none)
  | .getstatic i => ox_g (n == 3) (ox_O (rs_S (mt_k mi) i) fun k => f mi (pc + 3) ls (.ref k :: st) h)
  | .iaload => ox_g (n == 1) (ox_pI st fun i st => ox_pA st fun a st => ox_O (ox_ints h a ox_isI) fun l => ox_O (ox_at l i) fun x => f mi (pc + 1) ls (.int x :: st) h)
  | .baload => ox_g (n == 1) (ox_pI st fun i st => ox_pA st fun a st => ox_O (ox_ints h a ox_isZ) fun l => ox_O (ox_at l i) fun x => f mi (pc + 1) ls (.int x :: st) h)
  | .caload => ox_g (n == 1) (ox_pI st fun i st => ox_pA st fun a st => ox_O (if a < 4 then ox_ints h a ox_isC else none) fun l => ox_O (ox_at l i) fun x => f mi (pc + 1) ls (.int x :: st) h)
  | .aaload => ox_g (n == 1) (ox_pI st fun i st => ox_pA st fun a st => ox_O (ox_obj h a 4) fun l => ox_A (ox_at l i) fun x => f mi (pc + 1) ls (.ref x :: st) h)
  | .iastore => ox_g (n == 1) (ox_pI st fun x st => ox_pI st fun i st => ox_pA st fun a st => ox_O (ox_ints h a ox_is0) fun l => ox_O (ox_at l i) fun _ => f mi (pc + 1) ls st (h.set a (.inl (0, l.set i.toNatClampNeg x))))
  | .bastore => ox_g (n == 1) (ox_pI st fun x st => ox_pI st fun i st => ox_pA st fun a st => ox_g (x == 0 || x == 1) (ox_O (ox_ints h a ox_isZ) fun l => ox_O (ox_at l i) fun _ => f mi (pc + 1) ls st (h.set a (.inl (1, l.set i.toNatClampNeg x)))))
  | .aastore => ox_g (n == 1) (ox_pA st fun x st => ox_pI st fun i st => ox_pA st fun a st => ox_g (ox_obj h x 1).isSome (ox_O (ox_obj h a 4) fun l => ox_O (ox_at l i) fun _ => f mi (pc + 1) ls st (h.set a (.inr (4, l.set i.toNatClampNeg (.ref x))))))
  | .arraylength => ox_g (n == 1) (ox_pA st fun a st => ox_O (ox_len h a) fun k => f mi (pc + 1) ls (.int (Int32.ofNat k) :: st) h)
  | .newarray t => ox_g (n == 2) (ox_pI st fun k st => ox_g (decide (0 ≤ k) && decide (k.toNatClampNeg ≤ 100000)) (match t with
    | .int => f mi (pc + 2) ls (.ref h.length :: st) (h ++ [.inl (0, List.replicate k.toNatClampNeg 0)])
    | .boolean => f mi (pc + 2) ls (.ref h.length :: st) (h ++ [.inl (1, List.replicate k.toNatClampNeg 0)])
    | _ => none))
  | .anewarray i => ox_g (n == 3) (ox_O (rs_K (mt_k mi) i) fun c => ox_pI st fun k st => ox_g (c == 1 && decide (0 ≤ k) && decide (k.toNatClampNeg ≤ 100000)) (f mi (pc + 3) ls (.ref h.length :: st) (h ++ [.inr (4, List.replicate k.toNatClampNeg .null)])))
  | .new i => ox_g (n == 3) (ox_O (rs_K (mt_k mi) i) fun c => f mi (pc + 3) ls (.ref h.length :: st) (h ++ [.inr (c, ox_dfl c)]))
  | .invokespecial i => ox_g (n == 3) (ox_O (rs_M (mt_k mi) i) fun j => if j = 1000 then ox_pA st fun _ st => ox_g (decide (1 ≤ mt_r mi) && decide (st.length ≤ 8) && st.all (fun v => v.category == 1)) (f mi (pc + 3) ls st h) else ox_g (mt_s j == 2 && decide (j < 154) && ox_rcv h j st) (ox_call f mi j st h fun v st h => f mi (pc + 3) ls (ox_push v st) h))
  | .invokevirtual i => ox_g (n == 3) (ox_O (rs_M (mt_k mi) i) fun j => ox_g (mt_s j == 0 && decide (j < 154) && ox_rcv h j st) (ox_call f mi j st h fun v st h => f mi (pc + 3) ls (ox_push v st) h))
  | .invokestatic i => ox_g (n == 3) (ox_O (rs_M (mt_k mi) i) fun j =>
      if j = 1001 then ox_p2 st fun x y st => ox_g (decide (1 ≤ mt_r mi) && decide (st.length ≤ 8) && st.all (fun v => v.category == 1)) (f mi (pc + 3) ls (.int (if x < y then y else x) :: st) h)
      else if j = 1002 then ox_p2 st fun x y st => ox_g (decide (1 ≤ mt_r mi) && decide (st.length ≤ 8) && st.all (fun v => v.category == 1)) (f mi (pc + 3) ls (.int (if y < x then y else x) :: st) h)
      else if j = 1003 then (match st with
        | .int k :: .int dp :: .ref d :: .int sp :: .ref s :: st => ox_g (decide (1 ≤ mt_r mi) && decide (st.length ≤ 8) && st.all (fun v => v.category == 1) && (decide (0 ≤ k) && sp == 0 && dp == 0)) (ox_O (ox_ints h s ox_is0) fun l => ox_O (ox_ints h d ox_is0) fun l' => ox_g (decide (k.toNatClampNeg ≤ l.length) && decide (k.toNatClampNeg ≤ l'.length)) (f mi (pc + 3) ls st (h.set d (.inl (0, l.take k.toNatClampNeg ++ l'.drop k.toNatClampNeg)))))
        | _ => none)
      else ox_g (mt_s j == 1 && decide (j < 154)) (ox_call f mi j st h fun v st h => f mi (pc + 3) ls (ox_push v st) h))
  | .ireturn => ox_g (n == 1) (match st with
    | [.int x] => ox_g (mt_t mi == 1 || (mt_t mi == 2 && (x == 0 || x == 1))) (some (some (.int x), h))
    | _ => none)
  | .return_ => ox_g (n == 1 && mt_t mi == 0) (match st with
    | [] => some (none, h)
    | _ => none)
  | _ => none
def ox_st (f : ox_F) : ox_F := fun mi pc ls st h => match decode (mt_c mi) pc with
  | .error _ => none
  | .ok q => ox_in f mi pc ls st h q.2 q.1
def ox_run : Nat → ox_F
  | 0 => fun _ _ _ _ _ => none
  | n + 1 => ox_st (ox_run n)
