/-! the induction: a case an instruction -/
theorem ow_one {n : Nat} {mi pc pc' : Nat} {ls ls' st st' : List Value} {h h1 : ox_H} {v : Option Value} {h' : ox_H} (IH : ow_OK n) (hr : ox_run n mi pc' ls' st' h1 = some (v, h')) (hinv : ow_inv h h1)
    (step : ∀ (g : ow_G) (xs : List Int32) (p : Program) (l : Launch) (e : Env) (R : Room) (s : State) (m : MethodId) (args : Array Value) (below : List Frame) (meth : Method) (c : Code) (Q : State → Prop) (n0 s0 : Nat), ow_Cx g xs mi p R s m args meth c → s.heap.size + 4 = g.1 + n0 → h1.length ≤ R.cells + n0 → ox_sl h1 ≤ R.slots + s0 → ow_Go g xs mi p l e R s m args below meth c Q n0 s0 pc' ls' st' h1 → ow_Go g xs mi p l e R s m args below meth c Q n0 s0 pc ls st h) :
    ow_inv h h' ∧ ∀ (g : ow_G) (xs : List Int32) (p : Program) (l : Launch) (e : Env) (R : Room) (s : State) (m : MethodId) (args : Array Value) (below : List Frame) (meth : Method) (c : Code) (Q : State → Prop) (n0 s0 : Nat), ow_Cx g xs mi p R s m args meth c → s.heap.size + 4 = g.1 + n0 → h'.length ≤ R.cells + n0 → ox_sl h' ≤ R.slots + s0 → ow_Rt g mi p l e R s m args below meth c Q n0 s0 v h' → ow_Go g xs mi p l e R s m args below meth c Q n0 s0 pc ls st h := by
  obtain ⟨i1, i2⟩ := IH _ _ _ _ _ _ _ hr
  refine ⟨ow_inv_tr hinv i1, fun g xs p l e R s m args below meth c Q n0 s0 C hn hrc hrs hrt => ?_⟩
  exact step g xs p l e R s m args below meth c Q n0 s0 C hn (Nat.le_trans i1.1 hrc) (Nat.le_trans i1.2.1 hrs) (i2 g xs p l e R s m args below meth c Q n0 s0 C hn hrc hrs hrt)
theorem ow_callok {n : Nat} {mi pc i j : Nat} {ls st : List Value} {h : ox_H} {v : Option Value} {h' : ox_H} {ins : Instr} (IH : ow_OK n) (hd : decode (mt_c mi) pc = .ok (ins, 3)) (hi : (ins = .invokevirtual i ∧ mt_s j = 0) ∨ (ins = .invokespecial i ∧ mt_s j = 2) ∨ (ins = .invokestatic i ∧ mt_s j = 1)) (hm : rs_M (mt_k mi) i = some j) (hj : j < 154) (hrcv : mt_s j = 1 ∨ ox_rcv h j st = true)
    (hr : ox_call (ox_run n) mi j st h (fun v st h => ox_run n mi (pc + 3) ls (ox_push v st) h) = some (v, h')) :
    ow_inv h h' ∧ ∀ (g : ow_G) (xs : List Int32) (p : Program) (l : Launch) (e : Env) (R : Room) (s : State) (m : MethodId) (args : Array Value) (below : List Frame) (meth : Method) (c : Code) (Q : State → Prop) (n0 s0 : Nat), ow_Cx g xs mi p R s m args meth c → s.heap.size + 4 = g.1 + n0 → h'.length ≤ R.cells + n0 → ox_sl h' ≤ R.slots + s0 → ow_Rt g mi p l e R s m args below meth c Q n0 s0 v h' → ow_Go g xs mi p l e R s m args below meth c Q n0 s0 pc ls st h := by
  unfold ox_call at hr
  split at hr
  · rename_i hc
    obtain ⟨c1, c2, c3, c4⟩ := hc
    obtain ⟨v1, h1, e1, e2⟩ := ox_B_some hr
    exact ow_one IH e2 (IH _ _ _ _ _ _ _ e1).1 (fun g xs p l e R s m args below meth c Q n0 s0 C hn hrc hrs kk => os_call IH C hn hd hi hm hj c1 c2 c3 c4 hrcv e1 hrc hrs kk)
  · cases hr

theorem ow_step {n : Nat} (IH : ow_OK n) {mi pc k : Nat} {ls st : List Value} {h : ox_H} {v : Option Value} {h' : ox_H} {i : Instr} (hd : decode (mt_c mi) pc = .ok (i, k)) (hr : ox_in (ox_run n) mi pc ls st h k i = some (v, h')) :
    ow_inv h h' ∧ ∀ (g : ow_G) (xs : List Int32) (p : Program) (l : Launch) (e : Env) (R : Room) (s : State) (m : MethodId) (args : Array Value) (below : List Frame) (meth : Method) (c : Code) (Q : State → Prop) (n0 s0 : Nat), ow_Cx g xs mi p R s m args meth c → s.heap.size + 4 = g.1 + n0 → h'.length ≤ R.cells + n0 → ox_sl h' ≤ R.slots + s0 → ow_Rt g mi p l e R s m args below meth c Q n0 s0 v h' → ow_Go g xs mi p l e R s m args below meth c Q n0 s0 pc ls st h := by
  cases i
  case iconst q =>
    simp only [ox_in] at hr
    replace hr := ox_g_some hr
    obtain ⟨hk, hr⟩ := hr
    have hk := eq_of_beq hk; subst hk
    exact ow_one IH hr (ow_inv_rf h) (fun g xs p l e R s m args below meth c Q n0 s0 C hn hrc hrs kk => os_iconst C hd kk)
  case bipush q =>
    simp only [ox_in] at hr
    replace hr := ox_g_some hr
    obtain ⟨hk, hr⟩ := hr
    have hk := eq_of_beq hk; subst hk
    exact ow_one IH hr (ow_inv_rf h) (fun g xs p l e R s m args below meth c Q n0 s0 C hn hrc hrs kk => os_bipush C hd kk)
  case sipush q =>
    simp only [ox_in] at hr
    replace hr := ox_g_some hr
    obtain ⟨hk, hr⟩ := hr
    have hk := eq_of_beq hk; subst hk
    exact ow_one IH hr (ow_inv_rf h) (fun g xs p l e R s m args below meth c Q n0 s0 C hn hrc hrs kk => os_sipush C hd kk)
  case iload_n q =>
    simp only [ox_in] at hr
    replace hr := ox_g_some hr
    obtain ⟨hk, hr⟩ := hr
    have hk := eq_of_beq hk; subst hk
    replace hr := ox_I_some hr
    obtain ⟨x, hx, hr⟩ := hr
    exact ow_one IH hr (ow_inv_rf h) (fun g xs p l e R s m args below meth c Q n0 s0 C hn hrc hrs kk => os_iload_n C hd hx kk)
  case iload q =>
    simp only [ox_in] at hr
    replace hr := ox_g_some hr
    obtain ⟨hk, hr⟩ := hr
    have hk := eq_of_beq hk; subst hk
    replace hr := ox_I_some hr
    obtain ⟨x, hx, hr⟩ := hr
    exact ow_one IH hr (ow_inv_rf h) (fun g xs p l e R s m args below meth c Q n0 s0 C hn hrc hrs kk => os_iload C hd hx kk)
  case aload_n q =>
    simp only [ox_in] at hr
    replace hr := ox_g_some hr
    obtain ⟨hk, hr⟩ := hr
    have hk := eq_of_beq hk; subst hk
    replace hr := ox_A_some hr
    obtain ⟨x, hx, hr⟩ := hr
    exact ow_one IH hr (ow_inv_rf h) (fun g xs p l e R s m args below meth c Q n0 s0 C hn hrc hrs kk => os_aload_n C hd hx kk)
  case aload q =>
    simp only [ox_in] at hr
    replace hr := ox_g_some hr
    obtain ⟨hk, hr⟩ := hr
    have hk := eq_of_beq hk; subst hk
    replace hr := ox_A_some hr
    obtain ⟨x, hx, hr⟩ := hr
    exact ow_one IH hr (ow_inv_rf h) (fun g xs p l e R s m args below meth c Q n0 s0 C hn hrc hrs kk => os_aload C hd hx kk)
  case istore_n q =>
    simp only [ox_in] at hr
    replace hr := ox_g_some hr
    obtain ⟨hk, hr⟩ := hr
    rw [Bool.and_eq_true] at hk
    obtain ⟨hk, hk2⟩ := hk
    have hk := eq_of_beq hk; subst hk
    replace hr := ox_pI_some hr
    obtain ⟨x, r, rfl, hr⟩ := hr
    exact ow_one IH hr (ow_inv_rf h) (fun g xs p l e R s m args below meth c Q n0 s0 C hn hrc hrs kk => os_istore_n C hd (of_decide_eq_true hk2) kk)
  case istore q =>
    simp only [ox_in] at hr
    replace hr := ox_g_some hr
    obtain ⟨hk, hr⟩ := hr
    rw [Bool.and_eq_true] at hk
    obtain ⟨hk, hk2⟩ := hk
    have hk := eq_of_beq hk; subst hk
    replace hr := ox_pI_some hr
    obtain ⟨x, r, rfl, hr⟩ := hr
    exact ow_one IH hr (ow_inv_rf h) (fun g xs p l e R s m args below meth c Q n0 s0 C hn hrc hrs kk => os_istore C hd (of_decide_eq_true hk2) kk)
  case astore_n q =>
    simp only [ox_in] at hr
    replace hr := ox_g_some hr
    obtain ⟨hk, hr⟩ := hr
    rw [Bool.and_eq_true] at hk
    obtain ⟨hk, hk2⟩ := hk
    have hk := eq_of_beq hk; subst hk
    replace hr := ox_pA_some hr
    obtain ⟨x, r, rfl, hr⟩ := hr
    exact ow_one IH hr (ow_inv_rf h) (fun g xs p l e R s m args below meth c Q n0 s0 C hn hrc hrs kk => os_astore_n C hd (of_decide_eq_true hk2) kk)
  case astore q =>
    simp only [ox_in] at hr
    replace hr := ox_g_some hr
    obtain ⟨hk, hr⟩ := hr
    rw [Bool.and_eq_true] at hk
    obtain ⟨hk, hk2⟩ := hk
    have hk := eq_of_beq hk; subst hk
    replace hr := ox_pA_some hr
    obtain ⟨x, r, rfl, hr⟩ := hr
    exact ow_one IH hr (ow_inv_rf h) (fun g xs p l e R s m args below meth c Q n0 s0 C hn hrc hrs kk => os_astore C hd (of_decide_eq_true hk2) kk)
  case iinc q d =>
    simp only [ox_in] at hr
    replace hr := ox_g_some hr
    obtain ⟨hk, hr⟩ := hr
    have hk := eq_of_beq hk; subst hk
    replace hr := ox_I_some hr
    obtain ⟨x, hx, hr⟩ := hr
    exact ow_one IH hr (ow_inv_rf h) (fun g xs p l e R s m args below meth c Q n0 s0 C hn hrc hrs kk => os_iinc C hd hx kk)
  case iadd  =>
    simp only [ox_in] at hr
    replace hr := ox_g_some hr
    obtain ⟨hk, hr⟩ := hr
    have hk := eq_of_beq hk; subst hk
    replace hr := ox_p2_some hr
    obtain ⟨x, y, r, rfl, hr⟩ := hr
    exact ow_one IH hr (ow_inv_rf h) (fun g xs p l e R s m args below meth c Q n0 s0 C hn hrc hrs kk => os_iadd C hd kk)
  case isub  =>
    simp only [ox_in] at hr
    replace hr := ox_g_some hr
    obtain ⟨hk, hr⟩ := hr
    have hk := eq_of_beq hk; subst hk
    replace hr := ox_p2_some hr
    obtain ⟨x, y, r, rfl, hr⟩ := hr
    exact ow_one IH hr (ow_inv_rf h) (fun g xs p l e R s m args below meth c Q n0 s0 C hn hrc hrs kk => os_isub C hd kk)
  case imul  =>
    simp only [ox_in] at hr
    replace hr := ox_g_some hr
    obtain ⟨hk, hr⟩ := hr
    have hk := eq_of_beq hk; subst hk
    replace hr := ox_p2_some hr
    obtain ⟨x, y, r, rfl, hr⟩ := hr
    exact ow_one IH hr (ow_inv_rf h) (fun g xs p l e R s m args below meth c Q n0 s0 C hn hrc hrs kk => os_imul C hd kk)
  case iand  =>
    simp only [ox_in] at hr
    replace hr := ox_g_some hr
    obtain ⟨hk, hr⟩ := hr
    have hk := eq_of_beq hk; subst hk
    replace hr := ox_p2_some hr
    obtain ⟨x, y, r, rfl, hr⟩ := hr
    exact ow_one IH hr (ow_inv_rf h) (fun g xs p l e R s m args below meth c Q n0 s0 C hn hrc hrs kk => os_iand C hd kk)
  case ior  =>
    simp only [ox_in] at hr
    replace hr := ox_g_some hr
    obtain ⟨hk, hr⟩ := hr
    have hk := eq_of_beq hk; subst hk
    replace hr := ox_p2_some hr
    obtain ⟨x, y, r, rfl, hr⟩ := hr
    exact ow_one IH hr (ow_inv_rf h) (fun g xs p l e R s m args below meth c Q n0 s0 C hn hrc hrs kk => os_ior C hd kk)
  case ishl  =>
    simp only [ox_in] at hr
    replace hr := ox_g_some hr
    obtain ⟨hk, hr⟩ := hr
    have hk := eq_of_beq hk; subst hk
    replace hr := ox_p2_some hr
    obtain ⟨x, y, r, rfl, hr⟩ := hr
    exact ow_one IH hr (ow_inv_rf h) (fun g xs p l e R s m args below meth c Q n0 s0 C hn hrc hrs kk => os_ishl C hd kk)
  case ishr  =>
    simp only [ox_in] at hr
    replace hr := ox_g_some hr
    obtain ⟨hk, hr⟩ := hr
    have hk := eq_of_beq hk; subst hk
    replace hr := ox_p2_some hr
    obtain ⟨x, y, r, rfl, hr⟩ := hr
    exact ow_one IH hr (ow_inv_rf h) (fun g xs p l e R s m args below meth c Q n0 s0 C hn hrc hrs kk => os_ishr C hd kk)
  case idiv  =>
    simp only [ox_in] at hr
    replace hr := ox_g_some hr
    obtain ⟨hk, hr⟩ := hr
    have hk := eq_of_beq hk; subst hk
    replace hr := ox_p2_some hr
    obtain ⟨x, y, r, rfl, hr⟩ := hr
    replace hr := ox_g_some hr
    obtain ⟨hy, hr⟩ := hr
    exact ow_one IH hr (ow_inv_rf h) (fun g xs p l e R s m args below meth c Q n0 s0 C hn hrc hrs kk => os_idiv C hd (by simpa using hy) kk)
  case irem  =>
    simp only [ox_in] at hr
    replace hr := ox_g_some hr
    obtain ⟨hk, hr⟩ := hr
    have hk := eq_of_beq hk; subst hk
    replace hr := ox_p2_some hr
    obtain ⟨x, y, r, rfl, hr⟩ := hr
    replace hr := ox_g_some hr
    obtain ⟨hy, hr⟩ := hr
    exact ow_one IH hr (ow_inv_rf h) (fun g xs p l e R s m args below meth c Q n0 s0 C hn hrc hrs kk => os_irem C hd (by simpa using hy) kk)
  case dup  =>
    simp only [ox_in] at hr
    replace hr := ox_g_some hr
    obtain ⟨hk, hr⟩ := hr
    have hk := eq_of_beq hk; subst hk
    split at hr
    · replace hr := ox_g_some hr
      obtain ⟨hv, hr⟩ := hr
      exact ow_one IH hr (ow_inv_rf h) (fun g xs p l e R s m args below meth c Q n0 s0 C hn hrc hrs kk => os_dup C hd (eq_of_beq hv) kk)
    · cases hr
  case dup2  =>
    simp only [ox_in] at hr
    replace hr := ox_g_some hr
    obtain ⟨hk, hr⟩ := hr
    have hk := eq_of_beq hk; subst hk
    split at hr
    · replace hr := ox_g_some hr
      obtain ⟨hv, hr⟩ := hr
      rw [Bool.and_eq_true] at hv
      exact ow_one IH hr (ow_inv_rf h) (fun g xs p l e R s m args below meth c Q n0 s0 C hn hrc hrs kk => os_dup2 C hd (eq_of_beq hv.1) (eq_of_beq hv.2) kk)
    · cases hr
  case goto off =>
    simp only [ox_in] at hr
    replace hr := ox_g_some hr
    obtain ⟨hk, hr⟩ := hr
    have hk := eq_of_beq hk; subst hk
    replace hr := ox_jmp_some hr
    obtain ⟨t, ht, hr⟩ := hr
    exact ow_one IH hr (ow_inv_rf h) (fun g xs p l e R s m args below meth c Q n0 s0 C hn hrc hrs kk => os_goto C hd ht kk)
  case ifCond cnd off =>
    simp only [ox_in] at hr
    replace hr := ox_g_some hr
    obtain ⟨hk, hr⟩ := hr
    have hk := eq_of_beq hk; subst hk
    replace hr := ox_jmp_some hr
    obtain ⟨t, ht, hr⟩ := hr
    replace hr := ox_pI_some hr
    obtain ⟨x, r, rfl, hr⟩ := hr
    split at hr
    · rename_i hb
      exact ow_one IH hr (ow_inv_rf h) (fun g xs p l e R s m args below meth c Q n0 s0 C hn hrc hrs kk => os_if C hd ht (fun _ => kk) (fun q => absurd (hb.symm.trans q) (by decide)))
    · rename_i hb
      exact ow_one IH hr (ow_inv_rf h) (fun g xs p l e R s m args below meth c Q n0 s0 C hn hrc hrs kk => os_if C hd ht (fun q => absurd q hb) (fun _ => kk))
  case if_icmp cnd off =>
    simp only [ox_in] at hr
    replace hr := ox_g_some hr
    obtain ⟨hk, hr⟩ := hr
    have hk := eq_of_beq hk; subst hk
    replace hr := ox_jmp_some hr
    obtain ⟨t, ht, hr⟩ := hr
    replace hr := ox_p2_some hr
    obtain ⟨x, y, r, rfl, hr⟩ := hr
    split at hr
    · rename_i hb
      exact ow_one IH hr (ow_inv_rf h) (fun g xs p l e R s m args below meth c Q n0 s0 C hn hrc hrs kk => os_icmp C hd ht (fun _ => kk) (fun q => absurd (hb.symm.trans q) (by decide)))
    · rename_i hb
      exact ow_one IH hr (ow_inv_rf h) (fun g xs p l e R s m args below meth c Q n0 s0 C hn hrc hrs kk => os_icmp C hd ht (fun q => absurd q hb) (fun _ => kk))
  case tableswitch d lo hi offs =>
    simp only [ox_in] at hr
    replace hr := ox_pI_some hr
    obtain ⟨x, r, rfl, hr⟩ := hr
    split at hr
    · rename_i hb
      replace hr := ox_jmp_some hr
      obtain ⟨t, ht, hr⟩ := hr
      exact ow_one IH hr (ow_inv_rf h) (fun g xs p l e R s m args below meth c Q n0 s0 C hn hrc hrs kk => os_tabO C hd hb ht kk)
    · rename_i hb
      replace hr := ox_O_some hr
      obtain ⟨q, hq, hr⟩ := hr
      replace hr := ox_jmp_some hr
      obtain ⟨t, ht, hr⟩ := hr
      exact ow_one IH hr (ow_inv_rf h) (fun g xs p l e R s m args below meth c Q n0 s0 C hn hrc hrs kk => os_tabI C hd hb hq ht kk)
  case lookupswitch d ps =>
    simp only [ox_in] at hr
    replace hr := ox_g_some hr
    obtain ⟨hk, hr⟩ := hr
    replace hr := ox_pI_some hr
    obtain ⟨x, r, rfl, hr⟩ := hr
    replace hr := ox_jmp_some hr
    obtain ⟨t, ht, hr⟩ := hr
    exact ow_one IH hr (ow_inv_rf h) (fun g xs p l e R s m args below meth c Q n0 s0 C hn hrc hrs kk => os_look C hd hk ht kk)
  case getfield q =>
    simp only [ox_in] at hr
    replace hr := ox_g_some hr
    obtain ⟨hk, hr⟩ := hr
    have hk := eq_of_beq hk; subst hk
    replace hr := ox_O_some hr
    obtain ⟨⟨ci, f⟩, hq, hr⟩ := hr
    replace hr := ox_pA_some hr
    obtain ⟨a, r, rfl, hr⟩ := hr
    replace hr := ox_O_some hr
    obtain ⟨w, hw, hr⟩ := hr
    exact ow_one IH hr (ow_inv_rf h) (fun g xs p l e R s m args below meth c Q n0 s0 C hn hrc hrs kk => os_getf C hd hq hw kk)
  case putfield q =>
    simp only [ox_in] at hr
    replace hr := ox_g_some hr
    obtain ⟨hk, hr⟩ := hr
    have hk := eq_of_beq hk; subst hk
    replace hr := ox_O_some hr
    obtain ⟨⟨ci, f⟩, hq, hr⟩ := hr
    split at hr
    · replace hr := ox_g_some hr
      obtain ⟨hv, hr⟩ := hr
      rw [Bool.and_eq_true] at hv
      replace hr := ox_O_some hr
      obtain ⟨fs, hf, hr⟩ := hr
      replace hr := ox_g_some hr
      obtain ⟨hl, hr⟩ := hr
      exact ow_one IH hr (ow_inv_set (ox_obj_some hf) (by simp [ox_cl]) (fun xs k => ow_k4_inr k (ox_obj_some hf))) (fun g xs p l e R s m args below meth c Q n0 s0 C hn hrc hrs kk => os_putf C hd hq hv.1 hv.2 hf (of_decide_eq_true hl) kk)
    · cases hr
  case getstatic q =>
    simp only [ox_in] at hr
    replace hr := ox_g_some hr
    obtain ⟨hk, hr⟩ := hr
    have hk := eq_of_beq hk; subst hk
    replace hr := ox_O_some hr
    obtain ⟨a, hq, hr⟩ := hr
    exact ow_one IH hr (ow_inv_rf h) (fun g xs p l e R s m args below meth c Q n0 s0 C hn hrc hrs kk => os_gets C hd hq kk)
  case iaload  =>
    simp only [ox_in] at hr
    replace hr := ox_g_some hr
    obtain ⟨hk, hr⟩ := hr
    have hk := eq_of_beq hk; subst hk
    replace hr := ox_pI_some hr
    obtain ⟨i, r1, e1, hr⟩ := hr
    replace hr := ox_pA_some hr
    obtain ⟨a, r, rfl, hr⟩ := hr
    subst e1
    replace hr := ox_O_some hr
    obtain ⟨l0, hl, hr⟩ := hr
    replace hr := ox_O_some hr
    obtain ⟨x, hx, hr⟩ := hr
    exact ow_one IH hr (ow_inv_rf h) (fun g xs p l e R s m args below meth c Q n0 s0 C hn hrc hrs kk => os_iald C hd hl hx kk)
  case baload  =>
    simp only [ox_in] at hr
    replace hr := ox_g_some hr
    obtain ⟨hk, hr⟩ := hr
    have hk := eq_of_beq hk; subst hk
    replace hr := ox_pI_some hr
    obtain ⟨i, r1, e1, hr⟩ := hr
    replace hr := ox_pA_some hr
    obtain ⟨a, r, rfl, hr⟩ := hr
    subst e1
    replace hr := ox_O_some hr
    obtain ⟨l0, hl, hr⟩ := hr
    replace hr := ox_O_some hr
    obtain ⟨x, hx, hr⟩ := hr
    exact ow_one IH hr (ow_inv_rf h) (fun g xs p l e R s m args below meth c Q n0 s0 C hn hrc hrs kk => os_bald C hd hl hx kk)
  case caload  =>
    simp only [ox_in] at hr
    replace hr := ox_g_some hr
    obtain ⟨hk, hr⟩ := hr
    have hk := eq_of_beq hk; subst hk
    replace hr := ox_pI_some hr
    obtain ⟨i, r1, e1, hr⟩ := hr
    replace hr := ox_pA_some hr
    obtain ⟨a, r, rfl, hr⟩ := hr
    subst e1
    replace hr := ox_O_some hr
    obtain ⟨l0, hl, hr⟩ := hr
    replace hr := ox_O_some hr
    obtain ⟨x, hx, hr⟩ := hr
    exact ow_one IH hr (ow_inv_rf h) (fun g xs p l e R s m args below meth c Q n0 s0 C hn hrc hrs kk => os_cald C hd hl hx kk)
  case aaload  =>
    simp only [ox_in] at hr
    replace hr := ox_g_some hr
    obtain ⟨hk, hr⟩ := hr
    have hk := eq_of_beq hk; subst hk
    replace hr := ox_pI_some hr
    obtain ⟨i, r1, e1, hr⟩ := hr
    replace hr := ox_pA_some hr
    obtain ⟨a, r, rfl, hr⟩ := hr
    subst e1
    replace hr := ox_O_some hr
    obtain ⟨l0, hl, hr⟩ := hr
    replace hr := ox_A_some hr
    obtain ⟨x, hx, hr⟩ := hr
    exact ow_one IH hr (ow_inv_rf h) (fun g xs p l e R s m args below meth c Q n0 s0 C hn hrc hrs kk => os_aald C hd hl hx kk)
  case iastore  =>
    simp only [ox_in] at hr
    replace hr := ox_g_some hr
    obtain ⟨hk, hr⟩ := hr
    have hk := eq_of_beq hk; subst hk
    replace hr := ox_pI_some hr
    obtain ⟨x, r1, e1, hr⟩ := hr
    replace hr := ox_pI_some hr
    obtain ⟨i, r2, e2, hr⟩ := hr
    replace hr := ox_pA_some hr
    obtain ⟨a, r, rfl, hr⟩ := hr
    subst e2
    subst e1
    replace hr := ox_O_some hr
    obtain ⟨l0, hl, hr⟩ := hr
    replace hr := ox_O_some hr
    obtain ⟨y, hy, hr⟩ := hr
    obtain ⟨t, ht1, ht2⟩ := ox_ints_some hl
    have ht : t = 0 := by simpa [ox_is0] using ht2
    subst ht
    exact ow_one IH hr (ow_inv_set ht1 (by simp [ox_cl]) (fun xs k => ow_k4_inl k ht1 (by omega))) (fun g xs p l e R s m args below meth c Q n0 s0 C hn hrc hrs kk => os_iast C hd hl hy kk)
  case bastore  =>
    simp only [ox_in] at hr
    replace hr := ox_g_some hr
    obtain ⟨hk, hr⟩ := hr
    have hk := eq_of_beq hk; subst hk
    replace hr := ox_pI_some hr
    obtain ⟨x, r1, e1, hr⟩ := hr
    replace hr := ox_pI_some hr
    obtain ⟨i, r2, e2, hr⟩ := hr
    replace hr := ox_pA_some hr
    obtain ⟨a, r, rfl, hr⟩ := hr
    subst e2
    subst e1
    replace hr := ox_g_some hr
    obtain ⟨hx, hr⟩ := hr
    replace hr := ox_O_some hr
    obtain ⟨l0, hl, hr⟩ := hr
    replace hr := ox_O_some hr
    obtain ⟨y, hy, hr⟩ := hr
    obtain ⟨t, ht1, ht2⟩ := ox_ints_some hl
    have ht : t = 1 := by simpa [ox_isZ] using ht2
    subst ht
    have hx01 : x = 0 ∨ x = 1 := by simpa using hx
    exact ow_one IH hr (ow_inv_set ht1 (by simp [ox_cl]) (fun xs k => ow_k4_inl k ht1 (by omega))) (fun g xs p l e R s m args below meth c Q n0 s0 C hn hrc hrs kk => os_bast C hd hx01 hl hy kk)
  case aastore  =>
    simp only [ox_in] at hr
    replace hr := ox_g_some hr
    obtain ⟨hk, hr⟩ := hr
    have hk := eq_of_beq hk; subst hk
    replace hr := ox_pA_some hr
    obtain ⟨x, r1, e1, hr⟩ := hr
    replace hr := ox_pI_some hr
    obtain ⟨i, r2, e2, hr⟩ := hr
    replace hr := ox_pA_some hr
    obtain ⟨a, r, rfl, hr⟩ := hr
    subst e2
    subst e1
    replace hr := ox_g_some hr
    obtain ⟨hx, hr⟩ := hr
    obtain ⟨fs, hfs⟩ := Option.isSome_iff_exists.mp hx
    replace hr := ox_O_some hr
    obtain ⟨l0, hl, hr⟩ := hr
    replace hr := ox_O_some hr
    obtain ⟨y, hy, hr⟩ := hr
    exact ow_one IH hr (ow_inv_set (ox_obj_some hl) (by simp [ox_cl]) (fun xs k => ow_k4_inr k (ox_obj_some hl))) (fun g xs p l e R s m args below meth c Q n0 s0 C hn hrc hrs kk => os_aast C hd hfs hl hy kk)
  case arraylength  =>
    simp only [ox_in] at hr
    replace hr := ox_g_some hr
    obtain ⟨hk, hr⟩ := hr
    have hk := eq_of_beq hk; subst hk
    replace hr := ox_pA_some hr
    obtain ⟨a, r, rfl, hr⟩ := hr
    replace hr := ox_O_some hr
    obtain ⟨x, hx, hr⟩ := hr
    exact ow_one IH hr (ow_inv_rf h) (fun g xs p l e R s m args below meth c Q n0 s0 C hn hrc hrs kk => os_alen C hd hx kk)
  case newarray t =>
    simp only [ox_in] at hr
    replace hr := ox_g_some hr
    obtain ⟨hk, hr⟩ := hr
    have hk := eq_of_beq hk; subst hk
    replace hr := ox_pI_some hr
    obtain ⟨x, r, rfl, hr⟩ := hr
    replace hr := ox_g_some hr
    obtain ⟨hx, hr⟩ := hr
    rw [Bool.and_eq_true] at hx
    have hx1 := of_decide_eq_true hx.1
    have hx2 := of_decide_eq_true hx.2
    cases t
    case int => exact ow_one IH hr ow_inv_push (fun g xs p l e R s m args below meth c Q n0 s0 C hn hrc hrs kk => os_newI C hn hd hx1 hx2 (by simpa using hrc) (by rw [ox_sl_push] at hrs; simpa [ox_cl] using hrs) kk)
    case boolean => exact ow_one IH hr ow_inv_push (fun g xs p l e R s m args below meth c Q n0 s0 C hn hrc hrs kk => os_newZ C hn hd hx1 hx2 (by simpa using hrc) (by rw [ox_sl_push] at hrs; simpa [ox_cl] using hrs) kk)
    all_goals (simp only [reduceCtorEq] at hr)
  case anewarray q =>
    simp only [ox_in] at hr
    replace hr := ox_g_some hr
    obtain ⟨hk, hr⟩ := hr
    have hk := eq_of_beq hk; subst hk
    replace hr := ox_O_some hr
    obtain ⟨a, hq, hr⟩ := hr
    replace hr := ox_pI_some hr
    obtain ⟨x, r, rfl, hr⟩ := hr
    replace hr := ox_g_some hr
    obtain ⟨hx, hr⟩ := hr
    rw [Bool.and_eq_true, Bool.and_eq_true] at hx
    have ha := eq_of_beq hx.1.1
    subst ha
    exact ow_one IH hr ow_inv_push (fun g xs p l e R s m args below meth c Q n0 s0 C hn hrc hrs kk => os_newq C hn hd hq (of_decide_eq_true hx.1.2) (of_decide_eq_true hx.2) (by simpa using hrc) (by rw [ox_sl_push] at hrs; simpa [ox_cl] using hrs) kk)
  case new q =>
    simp only [ox_in] at hr
    replace hr := ox_g_some hr
    obtain ⟨hk, hr⟩ := hr
    have hk := eq_of_beq hk; subst hk
    replace hr := ox_O_some hr
    obtain ⟨a, hq, hr⟩ := hr
    exact ow_one IH hr ow_inv_push (fun g xs p l e R s m args below meth c Q n0 s0 C hn hrc hrs kk => os_new C hn hd hq (by simpa using hrc) (by rw [ox_sl_push] at hrs; exact hrs) kk)
  case invokespecial q =>
    simp only [ox_in] at hr
    replace hr := ox_g_some hr
    obtain ⟨hk, hr⟩ := hr
    have hk := eq_of_beq hk; subst hk
    replace hr := ox_O_some hr
    obtain ⟨j, hq, hr⟩ := hr
    split at hr
    · rename_i hj
      subst hj
      replace hr := ox_pA_some hr
      obtain ⟨a, r, rfl, hr⟩ := hr
      replace hr := ox_g_some hr
      obtain ⟨hx, hr⟩ := hr
      rw [Bool.and_eq_true, Bool.and_eq_true] at hx
      exact ow_one IH hr (ow_inv_rf h) (fun g xs p l e R s m args below meth c Q n0 s0 C hn hrc hrs kk => os_obj C hd hq (of_decide_eq_true hx.1.1) (of_decide_eq_true hx.1.2) hx.2 kk)
    · replace hr := ox_g_some hr
      obtain ⟨hx, hr⟩ := hr
      rw [Bool.and_eq_true, Bool.and_eq_true] at hx
      exact ow_callok IH hd (Or.inr (Or.inl ⟨rfl, eq_of_beq hx.1.1⟩)) hq (of_decide_eq_true hx.1.2) (Or.inr hx.2) hr
  case invokevirtual q =>
    simp only [ox_in] at hr
    replace hr := ox_g_some hr
    obtain ⟨hk, hr⟩ := hr
    have hk := eq_of_beq hk; subst hk
    replace hr := ox_O_some hr
    obtain ⟨j, hq, hr⟩ := hr
    replace hr := ox_g_some hr
    obtain ⟨hx, hr⟩ := hr
    rw [Bool.and_eq_true, Bool.and_eq_true] at hx
    exact ow_callok IH hd (Or.inl ⟨rfl, eq_of_beq hx.1.1⟩) hq (of_decide_eq_true hx.1.2) (Or.inr hx.2) hr
  case invokestatic q =>
    simp only [ox_in] at hr
    replace hr := ox_g_some hr
    obtain ⟨hk, hr⟩ := hr
    have hk := eq_of_beq hk; subst hk
    replace hr := ox_O_some hr
    obtain ⟨j, hq, hr⟩ := hr
    split at hr
    · rename_i hj
      subst hj
      replace hr := ox_p2_some hr
      obtain ⟨x, y, r, rfl, hr⟩ := hr
      replace hr := ox_g_some hr
      obtain ⟨hx, hr⟩ := hr
      rw [Bool.and_eq_true, Bool.and_eq_true] at hx
      exact ow_one IH hr (ow_inv_rf h) (fun g xs p l e R s m args below meth c Q n0 s0 C hn hrc hrs kk => os_max C hd hq (of_decide_eq_true hx.1.1) (of_decide_eq_true hx.1.2) hx.2 hrc hrs kk)
    · split at hr
      · rename_i hj
        subst hj
        replace hr := ox_p2_some hr
        obtain ⟨x, y, r, rfl, hr⟩ := hr
        replace hr := ox_g_some hr
        obtain ⟨hx, hr⟩ := hr
        rw [Bool.and_eq_true, Bool.and_eq_true] at hx
        exact ow_one IH hr (ow_inv_rf h) (fun g xs p l e R s m args below meth c Q n0 s0 C hn hrc hrs kk => os_min C hd hq (of_decide_eq_true hx.1.1) (of_decide_eq_true hx.1.2) hx.2 hrc hrs kk)
      · split at hr
        · rename_i hj
          subst hj
          split at hr
          · replace hr := ox_g_some hr
            obtain ⟨hx, hr⟩ := hr
            simp only [Bool.and_eq_true, beq_iff_eq, decide_eq_true_eq] at hx
            obtain ⟨⟨⟨x1, x2⟩, x3⟩, ⟨x4, x5⟩, x6⟩ := hx
            subst x5
            subst x6
            replace hr := ox_O_some hr
            obtain ⟨l0, hl0, hr⟩ := hr
            replace hr := ox_O_some hr
            obtain ⟨l1, hl1, hr⟩ := hr
            replace hr := ox_g_some hr
            obtain ⟨hy, hr⟩ := hr
            rw [Bool.and_eq_true] at hy
            obtain ⟨t, ht1, ht2⟩ := ox_ints_some hl1
            have ht : t = 0 := by simpa [ox_is0] using ht2
            subst ht
            have y1 := of_decide_eq_true hy.1
            have y2 := of_decide_eq_true hy.2
            exact ow_one IH hr (ow_inv_set ht1 (by simp [ox_cl]; omega) (fun xs k => ow_k4_inl k ht1 (by omega))) (fun g xs p l e R s m args below meth c Q n0 s0 C hn hrc hrs kk => os_copy C hd hq x1 x2 x3 x4 hl0 hl1 y1 y2 kk)
          · cases hr
        · replace hr := ox_g_some hr
          obtain ⟨hx, hr⟩ := hr
          rw [Bool.and_eq_true] at hx
          exact ow_callok IH hd (Or.inr (Or.inr ⟨rfl, eq_of_beq hx.1⟩)) hq (of_decide_eq_true hx.2) (Or.inl (eq_of_beq hx.1)) hr
  case ireturn  =>
    simp only [ox_in] at hr
    replace hr := ox_g_some hr
    obtain ⟨hk, hr⟩ := hr
    have hk := eq_of_beq hk; subst hk
    split at hr
    · replace hr := ox_g_some hr
      obtain ⟨hx, hr⟩ := hr
      cases hr
      refine ⟨ow_inv_rf h, fun g xs p l e R s m args below meth c Q n0 s0 C hn hrc hrs hrt H locs cells slots A hP hS hL hc hs hk => ?_⟩
      exact (hrt pc A H locs cells slots hP hS hc hs).1 _ rfl hd (by simpa using hx)
    · cases hr
  case return_  =>
    simp only [ox_in] at hr
    replace hr := ox_g_some hr
    obtain ⟨hk, hr⟩ := hr
    rw [Bool.and_eq_true] at hk
    obtain ⟨hk, ht⟩ := hk
    have hk := eq_of_beq hk; subst hk
    split at hr
    · cases hr
      refine ⟨ow_inv_rf h, fun g xs p l e R s m args below meth c Q n0 s0 C hn hrc hrs hrt H locs cells slots A hP hS hL hc hs hk => ?_⟩
      exact (hrt pc A H locs cells slots hP hS hc hs).2 rfl hd (eq_of_beq ht)
    · cases hr
  all_goals (simp only [ox_in, reduceCtorEq] at hr)
theorem ow_ok : ∀ n, ow_OK n
  | 0 => fun mi pc ls st h v h' hr => by simp [ox_run] at hr
  | n + 1 => fun mi pc ls st h v h' hr => by
    change ox_st (ox_run n) mi pc ls st h = some (v, h') at hr
    unfold ox_st at hr
    split at hr
    · cases hr
    · rename_i q hq
      exact ow_step (ow_ok n) hq hr
