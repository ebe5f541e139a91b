/-! THE CLAIM OUT OF ONE WALK OF THE LAW'S BODY. Your part is whole_start (and what it stands on); all else here is the same for every law, but numbers. -/
def R_law : String := "OutlineEditorLaw"
def lw_P (b : Addr) (xs : List Int32) (args : Array Value) (s : State) : Prop := args = #[.ref b] ∧ s.IntsAt b xs ∧ xs.length ≤ 2048 ∧ (Jvm.Cond.and given_1 narrow_1).before args s = true
def lw_Q (_ : Array Value) (s : State) (o : Outcome) (t : State) : Prop := o = .returned (some (.int 1)) ∧ Framed s o t [] 600000 7302250
def lw_Z (below : List Frame) (a : Array Value) (s : State) : State → Prop := fun t => ∃ o, t.status = .running ∧ Ended t below o ∧ lw_Q a s o t
/-- the law's own end, with 1 on the stack, nothing written that was there before, its room as the claim has it -/
theorem lw_ret {p : Program} {l : Launch} {e : Env} {s : State} {m : MethodId} {below : List Frame} {meth : Method} {c : Code} {b : Nat} (hx : p.tables.exec = Jvm.exec) (hb : c.code = code) (hr : meth.sig.returnType = ret) (hlocks : meth.locks = false) {pc : Nat} {H : Heap} {ls : Array Slot} (hdg : decode code pc = .ok (.ireturn, 1)) : W p l e room_1 s m #[Value.ref b] below meth c H [] 600000 7302250 (lw_Z below #[Value.ref b] s) (F0 m pc ls [.int 1]) := by
  intro T hT X
  obtain ⟨fs, hret, hrun, hended, hW, hframe⟩ := X.leave (v := some (.int 1)) (hlocks := hlocks) (fun h => by rw [hr] at h; cases h)
  have hmeth' : T.vm.method? m = some meth := X.method'
  refine ⟨T.setFrames fs, ?_, .returned (some (.int 1)), hrun, hended, rfl, ⟨_, rfl⟩, hW, hframe⟩
  jvm_step X.here [X.here.top, hx, hb, hdg, hmeth', hr, ret, narrow_b1]
  (try refine ⟨rfl, ?_⟩); (try refine ⟨rfl, ?_⟩)
  first | (intro acts; rw [hret _ acts rfl rfl rfl]) | rw [hret _ _ rfl rfl rfl]
  exact Steps.refl _
/-- what holds at the law's entry: the machine, the code, the tables' words (any of lw_tbl by 'hts w (by decide +kernel)'), the script of L ints xs at the cell b, what the Statement gives of the start (any of its parts by flat_of_before) -/
def lw_At (p : Program) (s : State) (m : MethodId) (meth : Method) (c : Code) (b L : Nat) (xs : Nat → Int32) : Prop :=
  p.tables.exec = Jvm.exec ∧ c.code = code ∧ meth.sig.returnType = ret ∧ c.maxLocals = 4 ∧ s.vm.findClass R_law = some m.cls ∧ (∀ w ∈ lw_tbl, w.before #[Value.ref b] s = true) ∧ va_X b L xs s s.heap ∧ b < s.heap.size ∧ meth.locks = false ∧ (Jvm.Cond.and given_1 narrow_1).before #[Value.ref b] s = true

/-- what is left to show: our machine, from the law's entry, answers 1 within the room -/
def ow_Fin : Prop := ∀ xs : List Int32, xs.length ≤ 2048 → ∃ (n : Nat) (h' : ox_H), ox_run n 154 0 [.ref 0, .null, .null, .null] [] (ow_K4 xs) = some (some (.int 1), h') ∧ h'.length ≤ 600000 ∧ ox_sl h' ≤ 7302250
theorem ow_arr {args : Array Value} {s : State} {ty : FieldType} (h : (Cond.arrayClass ty).before args s = true) : ∃ cA : ClassId, ArrOfT s cA ty ∧ s.vm.findClass ("[" ++ ty.toString) = some cA := by
  obtain ⟨c, k, comp, h1, h2, h3⟩ := Cond.arrayClass_spec (show (Cond.arrayClass ty).holds args s none s [] = true from h)
  exact ⟨c, fun n z => ⟨fun k h => (by cases h), k, h2, comp, h3⟩, h1⟩
theorem ow_stat {args : Array Value} {s : State} {A : Nat → Prop} {n d : String} {ty : FieldType} {t : List Int32} (ht : t.length = 13) (hl : (Cond.laysStatic "OutlineEditor" n d).before args s = true) (hini : (Cond.initialized "OutlineEditor").before args s = true) (harr : (Cond.arrayOf (.static "OutlineEditor" n d) ty).before args s = true) (hlen : (Cond.eq (.length (.static "OutlineEditor" n d)) (.int 13)).before args s = true)
    (hel : ∀ j : Nat, j < 13 → (Cond.eq (.elem (.static "OutlineEditor" n d) (.int (Int32.ofNat j))) (.int (t.getD j 0))).before args s = true) (hA : ∀ a : Nat, a < s.heap.size → ¬ A a) : ∃ a : Nat, va_Z "OutlineEditor" n d (.ref a) A s s.heap ∧ va_T ty a 13 (fun j => .int (t.getD j 0)) A s s.heap := by
  obtain ⟨a, h1, h2⟩ := va_Tof (tm := .static "OutlineEditor" n d) (ty := ty) (N := 13) (f := fun j => .int (t.getD j 0)) (by decide) harr (va_eqt hlen) (fun j hj => va_eqt (hel j hj)) hA
  exact ⟨a, va_Zref hl hini h1 hA, h2⟩
set_option maxRecDepth 100000 in
set_option maxHeartbeats 4000000 in
theorem ow_root (hF : ow_Fin) {p : Program} {e : Env} {s : State} {m : MethodId} {below : List Frame} {meth : Method} {c : Code} (l : Launch) {b L : Nat} {xs : Nat → Int32} (hL : L ≤ 2048) (C0 : lw_At p s m meth c b L xs) : W p l e room_1 s m #[Value.ref b] below meth c s.heap [] 0 0 (lw_Z below #[Value.ref b] s) (entryFrame m ([Value.ref b] : List Value).toArray 4) := by
  obtain ⟨hx, hb, hr, hml, hown, hts, hX, hbl, hlocks, hgv⟩ := id C0
  have hg := flat_of_before _ hgv
  have hA0 : ∀ a : Nat, a < s.heap.size → ¬ (fun q : Nat => s.heap.size ≤ q) a := fun a ha => Nat.not_le.mpr ha
  obtain ⟨c0, i0, k0⟩ := u_known (C := RX0) (T := TX0) (N := 2) (n := 2) hts gm_in0 (hts (.instantiable RX0 2) (List.mem_of_getElem? (i := 129) (by decide +kernel)))
  obtain ⟨c1, i1, k1⟩ := u_known (C := RX1) (T := TX1) (N := 13) (n := 13) hts gm_in1 (hts (.instantiable RX1 13) (List.mem_of_getElem? (i := 70) (by decide +kernel)))
  obtain ⟨c2, i2, k2⟩ := u_known (C := RX2) (T := TX2) (N := 7) (n := 7) hts gm_in2 (hts (.instantiable RX2 7) (List.mem_of_getElem? (i := 62) (by decide +kernel)))
  obtain ⟨c3, i3, k3⟩ := u_known (C := RX3) (T := TX3) (N := 10) (n := 10) hts gm_in3 (hts (.instantiable RX3 10) (List.mem_of_getElem? (i := 508) (by decide +kernel)))
  obtain ⟨cI, aI, fI⟩ := ow_arr (hts _ wd_aI)
  obtain ⟨cZ, aZ, fZ⟩ := ow_arr (hts _ wd_aZ)
  obtain ⟨comp, cO, kO, o1, o2, o3, o4, o5⟩ := Cond.arrayOver_spec (show (Cond.arrayOver (.object "OutlineEditor$Outline")).holds #[Value.ref b] s none s [] = true from hts _ wd_aO)
  obtain ⟨a1, z1, t1⟩ := ow_stat (A := fun q : Nat => s.heap.size ≤ q) (t := ow_t1) (ty := .int) rfl (hts _ wd_ls1) (hts _ wd_oeI) (hg _ (by decide +kernel)) (hg _ (by decide +kernel)) (fun j hj => by
    match j, hj with
    | 0, _ => exact hg _ (by decide +kernel)
    | 1, _ => exact hg _ (by decide +kernel)
    | 2, _ => exact hg _ (by decide +kernel)
    | 3, _ => exact hg _ (by decide +kernel)
    | 4, _ => exact hg _ (by decide +kernel)
    | 5, _ => exact hg _ (by decide +kernel)
    | 6, _ => exact hg _ (by decide +kernel)
    | 7, _ => exact hg _ (by decide +kernel)
    | 8, _ => exact hg _ (by decide +kernel)
    | 9, _ => exact hg _ (by decide +kernel)
    | 10, _ => exact hg _ (by decide +kernel)
    | 11, _ => exact hg _ (by decide +kernel)
    | 12, _ => exact hg _ (by decide +kernel)
    | j + 13, hj => exact absurd hj (by omega)) hA0
  obtain ⟨a2, z2, t2⟩ := ow_stat (A := fun q : Nat => s.heap.size ≤ q) (t := ow_t2) (ty := .char) rfl (hts _ wd_ls2) (hts _ wd_oeI) (hg _ (by decide +kernel)) (hg _ (by decide +kernel)) (fun j hj => by
    match j, hj with
    | 0, _ => exact hg _ (by decide +kernel)
    | 1, _ => exact hg _ (by decide +kernel)
    | 2, _ => exact hg _ (by decide +kernel)
    | 3, _ => exact hg _ (by decide +kernel)
    | 4, _ => exact hg _ (by decide +kernel)
    | 5, _ => exact hg _ (by decide +kernel)
    | 6, _ => exact hg _ (by decide +kernel)
    | 7, _ => exact hg _ (by decide +kernel)
    | 8, _ => exact hg _ (by decide +kernel)
    | 9, _ => exact hg _ (by decide +kernel)
    | 10, _ => exact hg _ (by decide +kernel)
    | 11, _ => exact hg _ (by decide +kernel)
    | 12, _ => exact hg _ (by decide +kernel)
    | j + 13, hj => exact absurd hj (by omega)) hA0
  obtain ⟨a3, z3, t3⟩ := ow_stat (A := fun q : Nat => s.heap.size ≤ q) (t := ow_t3) (ty := .char) rfl (hts _ wd_ls3) (hts _ wd_oeI) (hg _ (by decide +kernel)) (hg _ (by decide +kernel)) (fun j hj => by
    match j, hj with
    | 0, _ => exact hg _ (by decide +kernel)
    | 1, _ => exact hg _ (by decide +kernel)
    | 2, _ => exact hg _ (by decide +kernel)
    | 3, _ => exact hg _ (by decide +kernel)
    | 4, _ => exact hg _ (by decide +kernel)
    | 5, _ => exact hg _ (by decide +kernel)
    | 6, _ => exact hg _ (by decide +kernel)
    | 7, _ => exact hg _ (by decide +kernel)
    | 8, _ => exact hg _ (by decide +kernel)
    | 9, _ => exact hg _ (by decide +kernel)
    | 10, _ => exact hg _ (by decide +kernel)
    | 11, _ => exact hg _ (by decide +kernel)
    | 12, _ => exact hg _ (by decide +kernel)
    | j + 13, hj => exact absurd hj (by omega)) hA0
  obtain ⟨g, hgd⟩ : ∃ g : ow_G, g = (s.heap.size, fun k => if k = 0 then b else if k = 1 then a1 else if k = 2 then a2 else a3, (fun k => if k = 0 then c0 else if k = 1 then c1 else if k = 2 then c2 else c3, fun k => if k = 0 then i0 else if k = 1 then i1 else if k = 2 then i2 else i3), cI, cZ, cO) := ⟨_, rfl⟩
  have hlen : ((List.range L).map xs).length = L := by simp
  have hS : ow_S g ((List.range L).map xs) s := by
    subst hgd
    refine ⟨⟨fun k q hq => ?_, fun k q hq => ?_⟩, hts _ wd_aO, fun q hq => va_Nw.of rfl (hts _ (rs_gs_all q hq).1), ?_, hbl, hbl, fun k h1 h2 => ?_⟩
    · match k, hq with
      | 0, hq => cases hq; exact k0
      | 1, hq => cases hq; exact k1
      | 2, hq => cases hq; exact k2
      | 3, hq => cases hq; exact k3
      | k + 4, hq => simp [vwCl] at hq
    · match k, hq with
      | 0, hq => cases hq; exact ⟨aI, fI⟩
      | 1, hq => cases hq; exact ⟨aZ, fZ⟩
      | 2, hq => cases hq; exact ⟨fun n z => ⟨fun k h => (by cases h), kO, o3, comp, o4⟩, kO, comp, o3, o4, o1, o5⟩
      | k + 3, hq => simp [ow_tys] at hq
    · obtain ⟨scr, x1, x2, x3, x4, x5⟩ := hX
      refine ⟨scr, x1, x2, x3, by rw [hlen]; exact x4, fun j hj => ?_⟩
      rw [hlen] at hj
      rw [x5 j hj]
      simp [hj]
    · match k, h1, h2 with
      | 1, _, _ => exact ⟨z1, t1⟩
      | 2, _, _ => exact ⟨z2, t2⟩
      | 3, _, _ => exact ⟨z3, t3⟩
  have hg1 : g.1 = s.heap.size := by rw [hgd]
  have had : ow_ad g 0 = b := by rw [hgd]; rfl
  obtain ⟨n, h', hrun, hrc, hrs⟩ := hF ((List.range L).map xs) (by rw [hlen]; exact hL)
  have C : ow_Cx g ((List.range L).map xs) 154 p room_1 s m #[Value.ref b] meth c := ⟨hx, hb, hml, hown, fun w hw => hts w (List.mem_filter.mp hw).1, fun hq => absurd hq (by decide), hS, by decide, by decide, by rw [hg1]; exact Nat.le_refl _⟩
  have hent := ow_entry (g := g) (As := [.ref 0]) (n := 4) (k := 1) rfl rfl (by decide)
  have hcv : [Value.ref 0].map (ow_cv g) = [Value.ref b] := by simp [ow_cv, had]
  rw [hcv] at hent
  rw [lg_entry_eq]
  refine ((ow_ok n) 154 0 _ [] _ _ _ hrun).2 g _ p l e room_1 s m _ below meth c _ 4 (ox_sl (ow_K4 ((List.range L).map xs))) C (by rw [hg1]) (Nat.le_trans hrc (by decide)) (Nat.le_trans hrs (by show 7302250 ≤ 7302250 + _; omega)) ?_ s.heap [] 0 0 _ (fun k q hq => by have hq : ([] : va_W)[k]? = some q := hq; simp at hq) va_S.rf hent rfl (Nat.zero_add _) rfl
  intro pc A H locs cells slots hP1 hS1 hc1 hs1
  refine ⟨fun x hx1 hd ht => ?_, fun hx1 => by cases hx1⟩
  have hx1 := Value.int.inj (Option.some.inj hx1)
  subst hx1
  refine va_forget (fun q hq => by have := hS1.2.2 q hq; unfold ow_A at this; rw [hg1] at this; exact this) ?_
  refine W.widen (k := 600000) (n := 7302250) (by omega) (by omega) ?_
  exact lw_ret hx hb hr hlocks hd
