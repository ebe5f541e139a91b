/-! What our machine does, without counting steps: oe, and its equation. -/
def oc_le (f f' : ox_F) : Prop := ∀ a b c d e r, f a b c d e = some r → f' a b c d e = some r
/-- monotone and continuous in the machine -/
def oc_C (F : ox_F → Option ox_R) : Prop := (∀ f f', oc_le f f' → ∀ r, F f = some r → F f' = some r) ∧ ∀ (c : Nat → ox_F) (o : ox_F), (∀ n k, n ≤ k → oc_le (c n) (c k)) → (∀ a b d e j r, o a b d e j = some r → ∃ n, c n a b d e j = some r) → ∀ r, F o = some r → ∃ n, F (c n) = some r
theorem oc_k (x : Option ox_R) : oc_C (fun _ => x) := ⟨fun _ _ _ _ h => h, fun _ _ _ _ _ h => ⟨0, h⟩⟩
theorem oc_app (a b : Nat) (c d : List Value) (e : ox_H) : oc_C (fun f => f a b c d e) := ⟨fun _ _ hf r h => hf a b c d e r h, fun c' o _ ho r h => ho a b c d e r h⟩
theorem oc_g {F : ox_F → Option ox_R} (b : Bool) (hF : oc_C F) : oc_C (fun f => ox_g b (F f)) := by
  cases b with
  | false => exact oc_k none
  | true => exact hF
theorem oc_O {α : Type} {F : α → ox_F → Option ox_R} (o : Option α) (hF : ∀ x, oc_C (F x)) : oc_C (fun f => ox_O o (fun x => F x f)) := by
  cases o with
  | none => exact oc_k none
  | some x => exact hF x
theorem oc_I {F : Int32 → ox_F → Option ox_R} (v : Option Value) (hF : ∀ x, oc_C (F x)) : oc_C (fun f => ox_I v (fun x => F x f)) := by
  rcases v with _ | (_ | _ | _ | _ | _ | _ | _)
  case some.int x => exact hF x
  all_goals exact oc_k none
theorem oc_A {F : Nat → ox_F → Option ox_R} (v : Option Value) (hF : ∀ x, oc_C (F x)) : oc_C (fun f => ox_A v (fun x => F x f)) := by
  rcases v with _ | (_ | _ | _ | _ | _ | _ | _)
  case some.ref x => exact hF x
  all_goals exact oc_k none
theorem oc_pI {F : Int32 → List Value → ox_F → Option ox_R} (st : List Value) (hF : ∀ x r, oc_C (F x r)) : oc_C (fun f => ox_pI st (fun x r => F x r f)) := by
  rcases st with _ | ⟨(_ | _ | _ | _ | _ | _ | _), r⟩
  case cons.int x => exact hF x r
  all_goals exact oc_k none
theorem oc_pA {F : Nat → List Value → ox_F → Option ox_R} (st : List Value) (hF : ∀ x r, oc_C (F x r)) : oc_C (fun f => ox_pA st (fun x r => F x r f)) := by
  rcases st with _ | ⟨(_ | _ | _ | _ | _ | _ | _), r⟩
  case cons.ref x => exact hF x r
  all_goals exact oc_k none
theorem oc_p2 {F : Int32 → Int32 → List Value → ox_F → Option ox_R} (st : List Value) (hF : ∀ x y r, oc_C (F x y r)) : oc_C (fun f => ox_p2 st (fun x y r => F x y r f)) :=
  oc_pI (F := fun y r f => ox_pI r fun x r => F x y r f) st fun y r => oc_pI (F := fun x r f => F x y r f) r fun x r => hF x y r
theorem oc_jmp {F : Nat → ox_F → Option ox_R} (pc : Nat) (off : Int) (hF : ∀ t, oc_C (F t)) : oc_C (fun f => ox_jmp pc off (fun t => F t f)) := by
  unfold ox_jmp
  split
  · exact hF _
  · exact oc_k none
theorem oc_i {c : Prop} {inst : Decidable c} {F G : ox_F → Option ox_R} (hF : oc_C F) (hG : oc_C G) : oc_C (fun f => if c then F f else G f) := by
  by_cases h : c
  · simp only [h, if_true]; exact hF
  · simp only [h, if_false]; exact hG
theorem oc_B {F : ox_F → Option ox_R} {G : Option Value → ox_H → ox_F → Option ox_R} (hF : oc_C F) (hG : ∀ v h, oc_C (G v h)) : oc_C (fun f => ox_B (F f) (fun v h => G v h f)) := by
  refine ⟨fun f f' hf r h => ?_, fun c o hc ho r h => ?_⟩
  · obtain ⟨v, h1, e1, e2⟩ := ox_B_some h
    show ox_B (F f') _ = some r
    rw [hF.1 f f' hf _ e1]
    exact (hG v h1).1 f f' hf r e2
  · obtain ⟨v, h1, e1, e2⟩ := ox_B_some h
    obtain ⟨n1, f1⟩ := hF.2 c o hc ho _ e1
    obtain ⟨n2, f2⟩ := (hG v h1).2 c o hc ho _ e2
    refine ⟨max n1 n2, ?_⟩
    show ox_B (F (c (max n1 n2))) _ = some r
    rw [hF.1 _ _ (hc n1 _ (Nat.le_max_left _ _)) _ f1]
    exact (hG v h1).1 _ _ (hc n2 _ (Nat.le_max_right _ _)) r f2
theorem oc_call {K : Option Value → List Value → ox_H → ox_F → Option ox_R} (mi j : Nat) (st : List Value) (h : ox_H) (hK : ∀ v s h, oc_C (K v s h)) : oc_C (fun f => ox_call f mi j st h (fun v s h => K v s h f)) := by
  unfold ox_call
  split
  · exact oc_B (F := fun f => f j 0 _ [] h) (G := fun v h' f => K v _ h' f) (oc_app _ _ _ _ _) (fun v h' => hK v _ h')
  · exact oc_k none
theorem oc_dup {F : Value → List Value → ox_F → Option ox_R} (st : List Value) (hF : ∀ x r, oc_C (F x r)) : oc_C (fun f => match st with | v :: r => F v r f | _ => none) := by
  cases st with
  | nil => exact oc_k none
  | cons v r => exact hF v r
theorem oc_in (mi pc : Nat) (ls st : List Value) (h : ox_H) (n : Nat) (i : Instr) : oc_C (fun f => ox_in f mi pc ls st h n i) := by
  cases i
  case iconst k => exact oc_g _ (oc_app _ _ _ _ _)
  case bipush k => exact oc_g _ (oc_app _ _ _ _ _)
  case sipush k => exact oc_g _ (oc_app _ _ _ _ _)
  case iload_n k => exact oc_g _ (oc_I _ fun x => oc_app _ _ _ _ _)
  case iload k => exact oc_g _ (oc_I _ fun x => oc_app _ _ _ _ _)
  case aload_n k => exact oc_g _ (oc_A _ fun x => oc_app _ _ _ _ _)
  case aload k => exact oc_g _ (oc_A _ fun x => oc_app _ _ _ _ _)
  case istore_n k => exact oc_g _ (oc_pI _ fun x r => oc_app _ _ _ _ _)
  case istore k => exact oc_g _ (oc_pI _ fun x r => oc_app _ _ _ _ _)
  case astore_n k => exact oc_g _ (oc_pA _ fun x r => oc_app _ _ _ _ _)
  case astore k => exact oc_g _ (oc_pA _ fun x r => oc_app _ _ _ _ _)
  case iinc k d => exact oc_g _ (oc_I _ fun x => oc_app _ _ _ _ _)
  case iadd => exact oc_g _ (oc_p2 _ fun x y r => oc_app _ _ _ _ _)
  case isub => exact oc_g _ (oc_p2 _ fun x y r => oc_app _ _ _ _ _)
  case imul => exact oc_g _ (oc_p2 _ fun x y r => oc_app _ _ _ _ _)
  case iand => exact oc_g _ (oc_p2 _ fun x y r => oc_app _ _ _ _ _)
  case ior => exact oc_g _ (oc_p2 _ fun x y r => oc_app _ _ _ _ _)
  case ishl => exact oc_g _ (oc_p2 _ fun x y r => oc_app _ _ _ _ _)
  case ishr => exact oc_g _ (oc_p2 _ fun x y r => oc_app _ _ _ _ _)
  case idiv => exact oc_g _ (oc_p2 _ fun x y r => oc_g _ (oc_app _ _ _ _ _))
  case irem => exact oc_g _ (oc_p2 _ fun x y r => oc_g _ (oc_app _ _ _ _ _))
  case dup => exact oc_g _ (oc_dup _ fun v r => oc_g _ (oc_app _ _ _ _ _))
  case dup2 =>
    refine oc_g _ ?_
    rcases st with _ | ⟨v, _ | ⟨w, r⟩⟩
    · exact oc_k none
    · exact oc_k none
    · exact oc_g _ (oc_app _ _ _ _ _)
  case goto off => exact oc_g _ (oc_jmp _ _ fun t => oc_app _ _ _ _ _)
  case ifCond c off => exact oc_g _ (oc_jmp _ _ fun t => oc_pI _ fun x r => oc_i (oc_app _ _ _ _ _) (oc_app _ _ _ _ _))
  case if_icmp c off => exact oc_g _ (oc_jmp _ _ fun t => oc_p2 _ fun x y r => oc_i (oc_app _ _ _ _ _) (oc_app _ _ _ _ _))
  case tableswitch d lo hi offs => exact oc_pI _ fun x r => oc_i (oc_jmp _ _ fun t => oc_app _ _ _ _ _) (oc_O _ fun o => oc_jmp _ _ fun t => oc_app _ _ _ _ _)
  case lookupswitch d ps => exact oc_g _ (oc_pI _ fun x r => oc_jmp _ _ fun t => oc_app _ _ _ _ _)
  case getfield k => exact oc_g _ (oc_O _ fun q => oc_pA _ fun a r => oc_O _ fun v => oc_app _ _ _ _ _)
  case putfield k =>
    refine oc_g _ (oc_O _ fun q => ?_)
    rcases st with _ | ⟨v, _ | ⟨(_ | _ | _ | _ | _ | _ | _), r⟩⟩
    case cons.cons.ref a => exact oc_g _ (oc_O _ fun fs => oc_g _ (oc_app _ _ _ _ _))
    all_goals exact oc_k none
  case getstatic k => exact oc_g _ (oc_O _ fun q => oc_app _ _ _ _ _)
  case iaload => exact oc_g _ (oc_pI _ fun i r => oc_pA _ fun a r => oc_O _ fun l => oc_O _ fun x => oc_app _ _ _ _ _)
  case baload => exact oc_g _ (oc_pI _ fun i r => oc_pA _ fun a r => oc_O _ fun l => oc_O _ fun x => oc_app _ _ _ _ _)
  case caload => exact oc_g _ (oc_pI _ fun i r => oc_pA _ fun a r => oc_O _ fun l => oc_O _ fun x => oc_app _ _ _ _ _)
  case aaload => exact oc_g _ (oc_pI _ fun i r => oc_pA _ fun a r => oc_O _ fun l => oc_A _ fun x => oc_app _ _ _ _ _)
  case iastore => exact oc_g _ (oc_pI _ fun x r => oc_pI _ fun i r => oc_pA _ fun a r => oc_O _ fun l => oc_O _ fun _ => oc_app _ _ _ _ _)
  case bastore => exact oc_g _ (oc_pI _ fun x r => oc_pI _ fun i r => oc_pA _ fun a r => oc_g _ (oc_O _ fun l => oc_O _ fun _ => oc_app _ _ _ _ _))
  case aastore => exact oc_g _ (oc_pA _ fun x r => oc_pI _ fun i r => oc_pA _ fun a r => oc_g _ (oc_O _ fun l => oc_O _ fun _ => oc_app _ _ _ _ _))
  case arraylength => exact oc_g _ (oc_pA _ fun a r => oc_O _ fun k => oc_app _ _ _ _ _)
  case newarray t =>
    refine oc_g _ (oc_pI _ fun k r => oc_g _ ?_)
    cases t
    case int => exact oc_app _ _ _ _ _
    case boolean => exact oc_app _ _ _ _ _
    all_goals exact oc_k none
  case anewarray k => exact oc_g _ (oc_O _ fun c => oc_pI _ fun k r => oc_g _ (oc_app _ _ _ _ _))
  case new k => exact oc_g _ (oc_O _ fun c => oc_app _ _ _ _ _)
  case invokespecial k => exact oc_g _ (oc_O _ fun j => oc_i (oc_pA _ fun _ r => oc_g _ (oc_app _ _ _ _ _)) (oc_g _ (oc_call _ _ _ _ fun v s h => oc_app _ _ _ _ _)))
  case invokevirtual k => exact oc_g _ (oc_O _ fun j => oc_g _ (oc_call _ _ _ _ fun v s h => oc_app _ _ _ _ _))
  case invokestatic k =>
    refine oc_g _ (oc_O _ fun j => oc_i (oc_p2 _ fun x y r => oc_g _ (oc_app _ _ _ _ _)) (oc_i (oc_p2 _ fun x y r => oc_g _ (oc_app _ _ _ _ _)) (oc_i ?_ (oc_g _ (oc_call _ _ _ _ fun v s h => oc_app _ _ _ _ _)))))
    show oc_C (fun f => match st with
        | .int k :: .int dp :: .ref d :: .int sp :: .ref s :: st => ox_g (decide (1 ≤ mt_r mi) && decide (st.length ≤ 8) && st.all (fun v => v.category == 1) && (decide (0 ≤ k) && sp == 0 && dp == 0)) (ox_O (ox_ints h s ox_is0) fun l => ox_O (ox_ints h d ox_is0) fun l' => ox_g (decide (k.toNatClampNeg ≤ l.length) && decide (k.toNatClampNeg ≤ l'.length)) (f mi (pc + 3) ls st (h.set d (.inl (0, l.take k.toNatClampNeg ++ l'.drop k.toNatClampNeg)))))
        | _ => none)
    split
    · exact oc_g _ (oc_O _ fun l => oc_O _ fun l' => oc_g _ (oc_app _ _ _ _ _))
    · exact oc_k none
  case ireturn => exact oc_k _
  case return_ => exact oc_k _
  all_goals exact oc_k none
theorem oc_st : ∀ (f f' : ox_F), oc_le f f' → oc_le (ox_st f) (ox_st f') := by
  intro f f' hf a b c d e r h
  unfold ox_st at h ⊢
  split at h
  · cases h
  · exact (oc_in a b c d e _ _).1 f f' hf r h
theorem oc_mono1 : ∀ n, oc_le (ox_run n) (ox_run (n + 1))
  | 0 => fun a b c d e r h => by simp [ox_run] at h
  | n + 1 => oc_st _ _ (oc_mono1 n)
theorem oc_mono (n : Nat) : ∀ k, n ≤ k → oc_le (ox_run n) (ox_run k) := by
  intro k hk
  obtain ⟨d, rfl⟩ := Nat.exists_eq_add_of_le hk
  clear hk
  induction d with
  | zero => exact fun _ _ _ _ _ _ h => h
  | succ d ih => exact fun a b c e j r h => oc_mono1 (n + d) a b c e j r (ih a b c e j r h)
noncomputable def oe : ox_F := fun mi pc ls st h => @dite _ (∃ r n, ox_run n mi pc ls st h = some r) (Classical.propDecidable _) (fun q => some (Classical.choose q)) (fun _ => none)
theorem oe_iff {mi pc : Nat} {ls st : List Value} {h : ox_H} {r : ox_R} : oe mi pc ls st h = some r ↔ ∃ n, ox_run n mi pc ls st h = some r := by
  unfold oe
  constructor
  · intro q
    split at q
    · rename_i hq
      cases q
      exact Classical.choose_spec hq
    · cases q
  · rintro ⟨n, hn⟩
    have hq : ∃ r n, ox_run n mi pc ls st h = some r := ⟨r, n, hn⟩
    rw [dif_pos hq]
    obtain ⟨k, hk⟩ := Classical.choose_spec hq
    have e1 := oc_mono n (max n k) (Nat.le_max_left _ _) _ _ _ _ _ _ hn
    have e2 := oc_mono k (max n k) (Nat.le_max_right _ _) _ _ _ _ _ _ hk
    exact e2.symm.trans e1
theorem oe_eq {mi pc k : Nat} {ls st : List Value} {h : ox_H} {i : Instr} (hd : decode (mt_c mi) pc = .ok (i, k)) : oe mi pc ls st h = ox_in oe mi pc ls st h k i := by
  have key : ∀ r, oe mi pc ls st h = some r ↔ ox_in oe mi pc ls st h k i = some r := by
    intro r
    rw [oe_iff]
    constructor
    · rintro ⟨n, hn⟩
      cases n with
      | zero => simp [ox_run] at hn
      | succ n =>
        change ox_st (ox_run n) mi pc ls st h = some r at hn
        unfold ox_st at hn
        rw [hd] at hn
        exact (oc_in mi pc ls st h k i).1 _ _ (fun a b c d e r q => oe_iff.mpr ⟨n, q⟩) r hn
    · intro q
      obtain ⟨n, hn⟩ := (oc_in mi pc ls st h k i).2 ox_run oe (fun n k hk => oc_mono n k hk) (fun a b c d e r q => oe_iff.mp q) r q
      refine ⟨n + 1, ?_⟩
      show ox_st (ox_run n) mi pc ls st h = some r
      unfold ox_st
      rw [hd]
      exact hn
  cases h1 : oe mi pc ls st h with
  | some r => exact ((key r).mp h1).symm
  | none =>
    cases h2 : ox_in oe mi pc ls st h k i with
    | none => rfl
    | some r => rw [(key r).mpr h2] at h1; cases h1
