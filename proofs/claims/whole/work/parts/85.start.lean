/-! THE CLAIM OUT OF ONE WALK OF THE LAW'S BODY. Your part is whole_start (and what it stands on); all else here is the same for every law, but numbers. -/
def R_law : String := "OneHingeLaw"
def lw_P (b : Addr) (xs : List Int32) (args : Array Value) (s : State) : Prop := args = #[.ref b] ∧ s.IntsAt b xs ∧ xs.length ≤ 2048 ∧ (Jvm.Cond.and given_1 narrow_1).before args s = true
def lw_Q (_ : Array Value) (s : State) (o : Outcome) (t : State) : Prop := o = .returned (some (.int 1)) ∧ Framed s o t [] 600000 7302250
def lw_Z (below : List Frame) (a : Array Value) (s : State) : State → Prop := fun t => ∃ o, t.status = .running ∧ Ended t below o ∧ lw_Q a s o t
/-- the law's own end, with 1 on the stack, nothing written that was there before, its room as the claim has it -/
theorem lw_ret {p : Program} {l : Launch} {e : Env} {s : State} {m : MethodId} {below : List Frame} {meth : Method} {c : Code} {b : Nat} (hx : p.tables.exec = Jvm.exec) (hb : c.code = code) (hr : meth.sig.returnType = ret) (hlocks : meth.locks = false) {pc : Nat} {H : Heap} {ls : Array Slot} (hdg : decode code pc = .ok (.ireturn, 1)) : W p l e room_1 s m #[Value.ref b] below meth c H [] 600000 7302250 (lw_Z below #[Value.ref b] s) (F0 m pc ls [.int 1]) := by
  intro T hT X
  obtain ⟨fs, hret, hrun, hended, hW, hframe⟩ := X.leave (v := some (.int 1)) (hlocks := hlocks) (fun h => by rw [hr] at h; cases h)
  have hmeth' : T.vm.method? m = some meth := X.method'
  refine ⟨T.setFrames fs, ?_, .returned (some (.int 1)), hrun, hended, rfl, ⟨_, rfl⟩, hW, hframe⟩
  jvm_step X.here [X.here.top, hx, hb, hdg, hmeth', hr, ret, narrow_b1]
  (try refine ⟨rfl, ?_⟩); (try refine ⟨rfl, ?_⟩)
  first | (intro acts; rw [hret _ acts rfl rfl rfl]) | rw [hret _ _ rfl rfl rfl]
  exact Steps.refl _
/-- what holds at the law's entry: the machine, the code, the tables' words (any of lw_tbl by 'hts w (by decide +kernel)'), the script of L ints xs at the cell b, what the Statement gives of the start (any of its parts by flat_of_before) -/
def lw_At (p : Program) (s : State) (m : MethodId) (meth : Method) (c : Code) (b L : Nat) (xs : Nat → Int32) : Prop :=
  p.tables.exec = Jvm.exec ∧ c.code = code ∧ meth.sig.returnType = ret ∧ c.maxLocals = 4 ∧ s.vm.findClass R_law = some m.cls ∧ (∀ w ∈ lw_tbl, w.before #[Value.ref b] s = true) ∧ va_X b L xs s s.heap ∧ b < s.heap.size ∧ meth.locks = false ∧ (Jvm.Cond.and given_1 narrow_1).before #[Value.ref b] s = true
/-! THE START: what the statement gives of it -/
theorem fl_ex : ∀ i, i < 10 → Cond.exactly (Term.string "OneHinge$Text" (sIx.getD i 0)) "java/lang/String" ∈ flatC (Jvm.Cond.and given_1 narrow_1) := by decide +kernel
theorem fl_co : ∀ i, i < 10 → Cond.eq (.field (Term.string "OneHinge$Text" (sIx.getD i 0)) "java/lang/String" "coder" "B") (.int 0) ∈ flatC (Jvm.Cond.and given_1 narrow_1) := by decide +kernel
theorem fl_ar : ∀ i, i < 10 → Cond.arrayOf (.field (Term.string "OneHinge$Text" (sIx.getD i 0)) "java/lang/String" "value" "[B") .byte ∈ flatC (Jvm.Cond.and given_1 narrow_1) := by decide +kernel
theorem fl_le : ∀ i, i < 10 → Cond.eq (.length (.field (Term.string "OneHinge$Text" (sIx.getD i 0)) "java/lang/String" "value" "[B")) (.int (Int32.ofNat (sLn.getD i 0))) ∈ flatC (Jvm.Cond.and given_1 narrow_1) := by decide +kernel
theorem fl_el : ∀ i, i < 10 → ∀ j, j < sLn.getD i 0 → Cond.eq (.elem (.field (Term.string "OneHinge$Text" (sIx.getD i 0)) "java/lang/String" "value" "[B") (.int (Int32.ofNat j))) (.int ((sBy.getD i []).getD j 0)) ∈ flatC (Jvm.Cond.and given_1 narrow_1) := by decide +kernel
theorem fl_ne : ∀ i, i < 10 → ∀ j, j < i → Cond.not (Cond.eq (Term.string "OneHinge$Text" (sIx.getD j 0)) (Term.string "OneHinge$Text" (sIx.getD i 0))) ∈ flatC (Jvm.Cond.and given_1 narrow_1) := by decide +kernel
theorem fl_ta : ∀ j, j < 4 → Cond.eq (.elem (.static "OneHinge" "TAKEN_AS" "[I") (.int (Int32.ofNat j))) (.int (tkF j)) ∈ flatC (Jvm.Cond.and given_1 narrow_1) := by decide +kernel
theorem sw_ok : ∀ i, i < 10 → Cond.stringRef "OneHinge$Text" (sIx.getD i 0) (sTx.getD i "") ∈ lw_tbl := by
  intro i hi
  rcases (show i = 0 ∨ i = 1 ∨ i = 2 ∨ i = 3 ∨ i = 4 ∨ i = 5 ∨ i = 6 ∨ i = 7 ∨ i = 8 ∨ i = 9 by omega) with rfl | rfl | rfl | rfl | rfl | rfl | rfl | rfl | rfl | rfl
  · exact List.mem_append_right _ (List.mem_of_getElem? (i := 267) (by decide +kernel))
  · exact List.mem_append_right _ (List.mem_of_getElem? (i := 268) (by decide +kernel))
  · exact List.mem_append_right _ (List.mem_of_getElem? (i := 269) (by decide +kernel))
  · exact List.mem_append_right _ (List.mem_of_getElem? (i := 270) (by decide +kernel))
  · exact List.mem_append_right _ (List.mem_of_getElem? (i := 271) (by decide +kernel))
  · exact List.mem_append_right _ (List.mem_of_getElem? (i := 272) (by decide +kernel))
  · exact List.mem_append_right _ (List.mem_of_getElem? (i := 273) (by decide +kernel))
  · exact List.mem_append_right _ (List.mem_of_getElem? (i := 274) (by decide +kernel))
  · exact List.mem_append_right _ (List.mem_of_getElem? (i := 275) (by decide +kernel))
  · exact List.mem_append_right _ (List.mem_of_getElem? (i := 276) (by decide +kernel))
def ad00 (b : Nat) (adK adV : Nat → Nat) (tT tF : Nat) : Id2 → Nat := fun i => match i.1 with
  | 90 => adK i.2
  | 91 => tT
  | 92 => adV i.2
  | 93 => tF
  | 95 => b
  | _ => 0
theorem arr_k {s : State} {args : Array Value} {ty : FieldType} (h : (Cond.arrayClass ty).before args s = true) : ∃ cA : ClassId, ArrOfT s cA ty ∧ s.vm.findClass ("[" ++ ty.toString) = some cA := by
  obtain ⟨cA, kA, comp, h1, h2, h3⟩ := Cond.arrayClass_spec h
  exact ⟨cA, fun n z => ⟨fun k h => (by cases h), kA, h2, comp, h3⟩, h1⟩
theorem start_K {s : State} {args : Array Value} (hts : ∀ w ∈ lw_tbl, w.before args s = true) : ∃ (G : va_G) (dT : Nat → ClassId), va_K G vwCl (tyL dT) s := by
  have htb : ∀ w ∈ TB, w.before args s = true := fun w h => hts w (TB_in w h)
  obtain ⟨c0, i0, K0⟩ := u_known (C := RX0) (T := TX0) (N := 4) (n := 4) htb inX0 (htb _ winX0)
  obtain ⟨c1, i1, K1⟩ := u_known (C := RX1) (T := TX1) (N := 8) (n := 8) htb inX1 (htb _ winX1)
  obtain ⟨c2, i2, K2⟩ := u_known (C := RX2) (T := TX2) (N := 7) (n := 7) htb inX2 (htb _ winX2)
  obtain ⟨c3, i3, K3⟩ := u_known (C := RX3) (T := TX3) (N := 3) (n := 3) htb inX3 (htb _ winX3)
  obtain ⟨c4, i4, K4⟩ := u_known (C := RX4) (T := TX4) (N := 7) (n := 7) htb inX4 (htb _ winX4)
  obtain ⟨c5, i5, K5⟩ := u_known (C := RX5) (T := TX5) (N := 8) (n := 8) htb inX5 (htb _ winX5)
  obtain ⟨c6, i6, K6⟩ := u_known (C := RX6) (T := TX6) (N := 26) (n := 26) htb inX6 (htb _ winX6)
  obtain ⟨t0, A0, B0⟩ := arr_k (htb _ wac_int)
  obtain ⟨t1, A1, B1⟩ := arr_k (htb _ wac_byte)
  obtain ⟨t2, A2, B2⟩ := arr_k (htb _ wac_boolean)
  obtain ⟨comp, t3, k3, f1, f2, f3, f4, f5⟩ := Cond.arrayOver_spec (hts (.arrayOver (.object "OneHinge$House")) (List.mem_append_right _ (List.mem_of_getElem? (i := 134) (by decide +kernel))))
  refine ⟨(fun k => match k with | 0 => c0 | 1 => c1 | 2 => c2 | 3 => c3 | 4 => c4 | 5 => c5 | _ => c6, fun k => match k with | 0 => i0 | 1 => i1 | 2 => i2 | 3 => i3 | 4 => i4 | 5 => i5 | _ => i6), fun t => match t with | 0 => t0 | 1 => t1 | 2 => t2 | _ => t3, ?_, ?_⟩
  · intro k q hq
    match k, hq with
    | 0, hq => cases hq; exact K0
    | 1, hq => cases hq; exact K1
    | 2, hq => cases hq; exact K2
    | 3, hq => cases hq; exact K3
    | 4, hq => cases hq; exact K4
    | 5, hq => cases hq; exact K5
    | 6, hq => cases hq; exact K6
    | k + 7, hq => simp [vwCl] at hq
  · intro k q hq
    match k, hq with
    | 0, hq => cases hq; exact ⟨A0, B0⟩
    | 1, hq => cases hq; exact ⟨A1, B1⟩
    | 2, hq => cases hq; exact ⟨A2, B2⟩
    | 3, hq => cases hq; exact ⟨fun n z => ⟨fun k h => (by cases h), k3, f3, comp, f4⟩, k3, comp, f3, f4, f1, f5⟩
    | k + 4, hq => simp [tyL] at hq
theorem start_C {s : State} {args : Array Value} (hts : ∀ w ∈ lw_tbl, w.before args s = true) : Cst s ∧ Nst s := by
  refine ⟨⟨fun q hq => ?_, va_AO.of (hts (.arrayOver (.object "OneHinge$House")) (List.mem_append_right _ (List.mem_of_getElem? (i := 134) (by decide +kernel))))⟩, fun q hq => ?_, fun q hq => ?_⟩
  · simp only [nwC, List.mem_cons, List.not_mem_nil, or_false] at hq
    rcases hq with rfl | rfl | rfl | rfl
    · exact va_Nw.of rfl (hts _ (List.mem_append_right _ (List.mem_of_getElem? (i := 25) (by decide +kernel))))
    · exact va_Nw.of rfl (hts _ (List.mem_append_right _ (List.mem_of_getElem? (i := 84) (by decide +kernel))))
    · exact va_Nw.of rfl (hts _ (List.mem_append_right _ (List.mem_of_getElem? (i := 79) (by decide +kernel))))
    · exact va_Nw.of rfl (hts _ (List.mem_append_right _ (List.mem_of_getElem? (i := 170) (by decide +kernel))))
  · simp only [nwM, List.mem_cons, List.not_mem_nil, or_false] at hq
    rcases hq with rfl | rfl | rfl | rfl
    · exact va_Nw.of rfl (hts _ (List.mem_append_right _ (List.mem_of_getElem? (i := 362) (by decide +kernel))))
    · exact va_Nw.of rfl (hts _ (List.mem_append_right _ (List.mem_of_getElem? (i := 412) (by decide +kernel))))
    · exact va_Nw.of rfl (hts _ (List.mem_append_right _ (List.mem_of_getElem? (i := 546) (by decide +kernel))))
    · exact va_Nw.of rfl (hts _ (List.mem_append_right _ (List.mem_of_getElem? (i := 602) (by decide +kernel))))
  · simp only [nwF, List.mem_cons, List.not_mem_nil, or_false] at hq
    subst hq
    exact va_Nw.of rfl (hts _ (List.mem_append_right _ (List.mem_of_getElem? (i := 430) (by decide +kernel))))
theorem start_E {s : State} {b : Nat} (hts : ∀ w ∈ lw_tbl, w.before #[Value.ref b] s = true) (hgv : (Jvm.Cond.and given_1 narrow_1).before #[Value.ref b] s = true) (hN : Nst s) : ∃ adK adV tT tF, Ext (ad00 b adK adV tT tF) (fun q => s.heap.size ≤ q) s s.heap := by
  have hs := flat_of_before _ hgv
  have hA : ∀ a : Nat, a < s.heap.size → ¬ (fun q => s.heap.size ≤ q) a := fun a h => Nat.not_le.mpr h
  obtain ⟨adK, adV, hS, hSe⟩ := vk_Sof (N := 10) (tm := fun i => Term.string "OneHinge$Text" (sIx.getD i 0)) (len := sLn) (byt := sBy) (by decide) (fun i hi => hs _ (fl_ex i hi)) (fun i hi => hs _ (fl_co i hi)) (fun i hi => hs _ (fl_ar i hi)) (fun i hi => hs _ (fl_le i hi)) (fun i hi j hj => hs _ (fl_el i hi j hj)) (fun i j hi hj hne => (Nat.lt_or_gt_of_ne hne).elim (fun h => Or.inl (hs _ (fl_ne j hj i h))) (fun h => Or.inr (hs _ (fl_ne i hi j h)))) hA
  obtain ⟨tT, hTe, hT⟩ := va_Tof (tm := .static "OneHinge" "TAKEN_AS" "[I") (ty := .int) (N := 4) (f := fun j => .int (tkF j)) (by decide) (hs _ (by decide +kernel)) (va_eqt (hs (Cond.eq (.length (.static "OneHinge" "TAKEN_AS" "[I")) (.int 4)) (by decide +kernel))) (fun j hj => va_eqt (hs _ (fl_ta j hj))) hA
  have hZ1 := va_Zref (hts (.laysStatic "OneHinge" "TAKEN_AS" "[I") (List.mem_append_right _ (List.mem_of_getElem? (i := 431) (by decide +kernel)))) (hts (.initialized "OneHinge") (List.mem_append_right _ (List.mem_of_getElem? (i := 1) (by decide +kernel)))) hTe hA
  have hZ2 := va_Zof (hts (.laysStatic "java/lang/String" "COMPACT_STRINGS" "Z") (List.mem_append_right _ (List.mem_of_getElem? (i := 290) (by decide +kernel)))) (hts (.initialized "java/lang/String") (List.mem_append_right _ (List.mem_of_getElem? (i := 9) (by decide +kernel)))) (va_eqt (hs (Cond.eq (.static "java/lang/String" "COMPACT_STRINGS" "Z") (.int 1)) (by decide +kernel))) hA
  have hZ3 := va_Zqof (hts (.laysStatic "jdk/internal/util/Preconditions" "SIOOBE_FORMATTER" "Ljava/util/function/BiFunction;") (List.mem_append_right _ (List.mem_of_getElem? (i := 306) (by decide +kernel)))) (hts (.initialized "jdk/internal/util/Preconditions") (List.mem_append_right _ (List.mem_of_getElem? (i := 11) (by decide +kernel)))) (hs (Cond.isRef (.static "jdk/internal/util/Preconditions" "SIOOBE_FORMATTER" "Ljava/util/function/BiFunction;")) (by decide +kernel)) hA
  have hR : ∀ i : Nat, i < 10 → vk_R "OneHinge$Text" (sIx.getD i 0) (sTx.getD i "") (adK i) s := fun i hi => vk_R.of (hts _ (sw_ok i hi)) (hSe i hi)
  rcases hZ3 with h | ⟨tF, h⟩
  · exact ⟨adK, adV, tT, 0, hZ1, hT, hZ2, hS, hR, hN, Or.inl h⟩
  · exact ⟨adK, adV, tT, tF, hZ1, hT, hZ2, hS, hR, hN, Or.inr h⟩
