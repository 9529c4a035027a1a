/-! words of the makers -/
theorem wclL_7 : Cond.classLink RL 7 RX5 ∈ TB := tb_of 15 (by decide +kernel) rfl
theorem winX5 : Cond.instantiable RX5 8 ∈ TB := tb_of 16 (by decide +kernel) rfl
theorem wobX5_1 : Cond.methodLink RX5 1 Lib.objectInit ∈ TB := tb_of 20 (by decide +kernel) rfl
theorem wclX5_7 : Cond.classLink RX5 7 RX1 ∈ TB := tb_of 23 (by decide +kernel) rfl
theorem winX1 : Cond.instantiable RX1 8 ∈ TB := tb_of 24 (by decide +kernel) rfl
theorem wobX1_3 : Cond.methodLink RX1 3 Lib.objectInit ∈ TB := tb_of 28 (by decide +kernel) rfl
theorem wac_int : Cond.arrayClass .int ∈ TB := tb_of 76 (by decide +kernel) rfl
theorem wclX5_16 : Cond.classLink RX5 16 RX4 ∈ TB := tb_of 77 (by decide +kernel) rfl
theorem winX4 : Cond.instantiable RX4 7 ∈ TB := tb_of 78 (by decide +kernel) rfl
theorem wobX4_3 : Cond.methodLink RX4 3 Lib.objectInit ∈ TB := tb_of 82 (by decide +kernel) rfl
theorem wclX4_15 : Cond.classLink RX4 15 RX1 ∈ TB := tb_of 83 (by decide +kernel) rfl
theorem wac_byte : Cond.arrayClass .byte ∈ TB := tb_of 111 (by decide +kernel) rfl
theorem wclX5_23 : Cond.classLink RX5 23 RX0 ∈ TB := tb_of 112 (by decide +kernel) rfl
theorem winX0 : Cond.instantiable RX0 4 ∈ TB := tb_of 113 (by decide +kernel) rfl
theorem wobX0_3 : Cond.methodLink RX0 3 Lib.objectInit ∈ TB := tb_of 117 (by decide +kernel) rfl
theorem wclX5_43 : Cond.classLink RX5 43 RX2 ∈ TB := tb_of 135 (by decide +kernel) rfl
theorem winX2 : Cond.instantiable RX2 7 ∈ TB := tb_of 136 (by decide +kernel) rfl
theorem wobX2_3 : Cond.methodLink RX2 3 Lib.objectInit ∈ TB := tb_of 140 (by decide +kernel) rfl
theorem wclX2_9 : Cond.classLink RX2 9 RX0 ∈ TB := tb_of 141 (by decide +kernel) rfl
theorem wac_boolean : Cond.arrayClass .boolean ∈ TB := tb_of 167 (by decide +kernel) rfl
theorem wclX5_50 : Cond.classLink RX5 50 RX3 ∈ TB := tb_of 168 (by decide +kernel) rfl
theorem winX3 : Cond.instantiable RX3 3 ∈ TB := tb_of 169 (by decide +kernel) rfl
theorem wobX3_3 : Cond.methodLink RX3 3 Lib.objectInit ∈ TB := tb_of 173 (by decide +kernel) rfl
theorem wclL_10 : Cond.classLink RL 10 RX6 ∈ TB := tb_of 612 (by decide +kernel) rfl
theorem winX6 : Cond.instantiable RX6 26 ∈ TB := tb_of 613 (by decide +kernel) rfl
theorem wobX6_1 : Cond.methodLink RX6 1 Lib.objectInit ∈ TB := tb_of 617 (by decide +kernel) rfl
theorem wobI : Cond.instanceMethod Lib.objectInit ∈ TB := tb_of 21 (by decide +kernel) rfl
theorem wobC : Cond.code Lib.objectInit ⟨#[0xb1]⟩ 1 none ∈ TB := tb_of 22 (by decide +kernel) rfl
/-! THE MAKING: worlds that grow -/
abbrev nwC : List (String × Nat × MethodName × String) := [(RX5, 9, yX1_init, RX5), (RX4, 17, yX1_init, RX5), (RX5, 18, yX4_init, RX5), (RX5, 52, yX3_init, RX5)]
def Cst (U : State) : Prop := (∀ q ∈ nwC, va_Nw (.methodLinkNest q.1 q.2.1 q.2.2.1 q.2.2.2) U) ∧ va_AO "OneHinge$House" U
theorem Cst.warm {s U : State} (hW : s.WarmedH U.vm) (h : Cst s) : Cst U := ⟨fun q hq => (h.1 q hq).warmM hW, h.2.moved hW.alike⟩
theorem Cst.same {s U : State} (hv : s.vm = U.vm) (h : Cst s) : Cst U := ⟨fun q hq => (h.1 q hq).same rfl hv, h.2.moved (by rw [hv]; exact Vm.Alike.refl _)⟩
def Cn (X : Cxt) (M : Mt) : Prop :=
  (xp X).tables.exec = Jvm.exec ∧ (xc X).code = M.2.1 ∧ (xc X).maxLocals = M.2.2.1 ∧ (xh X).sig.returnType = M.2.2.2 ∧ (xh X).locks = false ∧ (xs X).vm.findClass M.1.cls = some (xm X).cls ∧ (∀ w ∈ TB, w.before (xv X) (xs X) = true) ∧ va_K (xG X) vwCl (tyL (xT X)) (xs X) ∧ Cst (xs X)
abbrev Lv : Type := List (Nat × Value)
/-- from this place of a maker, with these locals, this stack and these cells, the walk comes to its end -/
def Gc (X : Cxt) (M : Mt) (A : Nat → Prop) (k n pc : Nat) (L : Lv) (st : List Value) (ws : va_W) : Prop :=
  ∀ (H : Heap) (locs : List Loc) (ls : Array Slot), va_P (xG X) vwCl ws H → va_D A ws → va_S A (xs X).heap H locs → lv_has ls M.2.2.1 L →
    W (xp X) (xl X) (xe X) (xR X) (xs X) (xm X) (xv X) (xb X) (xh X) (xc X) H locs k n (xQ X) (F0 (xm X) pc ls st)
section MAKE
variable {X : Cxt} {M : Mt} {A : Nat → Prop} {k n pc : Nat} {L : Lv} {st : List Value} {ws : va_W}
theorem c_ws {ws' : va_W} (h : ws = ws') (kk : Gc X M A k n pc L st ws') : Gc X M A k n pc L st ws := h ▸ kk
theorem c_aload_n {q : Fin 4} {a : Nat} (i : Nat) (cx : Cn X M) (hd : decode M.2.1 pc = .ok (.aload_n q, 1)) (hl : L[i]? = some ((q : Nat), .ref a)) (kk : Gc X M A k n (pc + 1) L (.ref a :: st) ws) : Gc X M A k n pc L st ws :=
  fun H locs ls hP hD hS hL => lv_aload_n cx.1 cx.2.1 hd rfl (lv_at hL i hl) (kk H locs ls hP hD hS hL)
theorem c_iload_n {q : Fin 4} {x : Int32} (i : Nat) (cx : Cn X M) (hd : decode M.2.1 pc = .ok (.iload_n q, 1)) (hl : L[i]? = some ((q : Nat), .int x)) (kk : Gc X M A k n (pc + 1) L (.int x :: st) ws) : Gc X M A k n pc L st ws :=
  fun H locs ls hP hD hS hL => lv_iload_n cx.1 cx.2.1 hd rfl (lv_at hL i hl) (kk H locs ls hP hD hS hL)
theorem c_iconst {z : Int} {v : Int32} (cx : Cn X M) (hd : decode M.2.1 pc = .ok (.iconst z, 1)) (hv : Int32.ofInt z = v) (kk : Gc X M A k n (pc + 1) L (.int v :: st) ws) : Gc X M A k n pc L st ws :=
  fun H locs ls hP hD hS hL => lv_iconst cx.1 cx.2.1 hd hv (kk H locs ls hP hD hS hL)
theorem c_bipush {z : Int} {v : Int32} (cx : Cn X M) (hd : decode M.2.1 pc = .ok (.bipush z, 2)) (hv : (Int8.ofInt z).toInt32 = v) (kk : Gc X M A k n (pc + 2) L (.int v :: st) ws) : Gc X M A k n pc L st ws :=
  fun H locs ls hP hD hS hL => lv_bipush cx.1 cx.2.1 hd hv (kk H locs ls hP hD hS hL)
theorem c_sipush {z : Int} {v : Int32} (cx : Cn X M) (hd : decode M.2.1 pc = .ok (.sipush z, 3)) (hv : (Int16.ofInt z).toInt32 = v) (kk : Gc X M A k n (pc + 3) L (.int v :: st) ws) : Gc X M A k n pc L st ws :=
  fun H locs ls hP hD hS hL => lv_sipush cx.1 cx.2.1 hd hv (kk H locs ls hP hD hS hL)
theorem c_istore_n {q : Fin 4} {x : Int32} {L' : Lv} (cx : Cn X M) (hd : decode M.2.1 pc = .ok (.istore_n q, 1)) (hn : (q : Nat) < M.2.2.1) (hl : ((q : Nat), Value.int x) :: L.filter (fun z => !(z.1 == (q : Nat)) && !(z.1 + 1 == (q : Nat) && z.2.category == 2)) = L') (kk : Gc X M A k n (pc + 1) L' st ws) : Gc X M A k n pc L (.int x :: st) ws :=
  fun H locs ls hP hD hS hL => lv_istore_n cx.1 cx.2.1 hd rfl hL hn hl (fun ls' h => kk H locs ls' hP hD hS h)
theorem c_astore_n {q : Fin 4} {x : Nat} {L' : Lv} (cx : Cn X M) (hd : decode M.2.1 pc = .ok (.astore_n q, 1)) (hn : (q : Nat) < M.2.2.1) (hl : ((q : Nat), Value.ref x) :: L.filter (fun z => !(z.1 == (q : Nat)) && !(z.1 + 1 == (q : Nat) && z.2.category == 2)) = L') (kk : Gc X M A k n (pc + 1) L' st ws) : Gc X M A k n pc L (.ref x :: st) ws :=
  fun H locs ls hP hD hS hL => lv_astore_n cx.1 cx.2.1 hd rfl hL hn hl (fun ls' h => kk H locs ls' hP hD hS h)
theorem c_iinc {i j : Nat} {z : Int} {x v : Int32} {L' : Lv} (cx : Cn X M) (hd : decode M.2.1 pc = .ok (.iinc i z, 3)) (hi : L[j]? = some (i, .int x)) (hv : x + Int32.ofInt z = v) (hn : i < M.2.2.1) (hl : (i, Value.int v) :: L.filter (fun z => !(z.1 == i) && !(z.1 + 1 == i && z.2.category == 2)) = L') (kk : Gc X M A k n (pc + 3) L' st ws) : Gc X M A k n pc L st ws :=
  fun H locs ls hP hD hS hL => lv_iinc cx.1 cx.2.1 hd hL (k := j) hi hv hn hl (fun ls' h => kk H locs ls' hP hD hS h)
theorem c_goto {off : Int} {tgt : Nat} (cx : Cn X M) (hd : decode M.2.1 pc = .ok (.goto off, 3)) (ht : (pc : Int) + off = (tgt : Int)) (kk : Gc X M A k n tgt L st ws) : Gc X M A k n pc L st ws :=
  fun H locs ls hP hD hS hL => lv_goto cx.1 cx.2.1 hd ht (kk H locs ls hP hD hS hL)
theorem c_gt_n {x y : Int32} {off : Int} {tgt : Nat} (cx : Cn X M) (hd : decode M.2.1 pc = .ok (.if_icmp .gt off, 3)) (ht : (pc : Int) + off = (tgt : Int)) (h : ¬ y < x) (kk : Gc X M A k n (pc + 3) L st ws) : Gc X M A k n pc L (.int y :: .int x :: st) ws :=
  fun H locs ls hP hD hS hL => lv_icmp_gt cx.1 cx.2.1 hd ht (fun q => absurd q h) (fun _ => kk H locs ls hP hD hS hL)
theorem c_gt_y {x y : Int32} {off : Int} {tgt : Nat} (cx : Cn X M) (hd : decode M.2.1 pc = .ok (.if_icmp .gt off, 3)) (ht : (pc : Int) + off = (tgt : Int)) (h : y < x) (kk : Gc X M A k n tgt L st ws) : Gc X M A k n pc L (.int y :: .int x :: st) ws :=
  fun H locs ls hP hD hS hL => lv_icmp_gt cx.1 cx.2.1 hd ht (fun _ => kk H locs ls hP hD hS hL) (fun q => absurd h q)
theorem c_ge_n {x y : Int32} {off : Int} {tgt : Nat} (cx : Cn X M) (hd : decode M.2.1 pc = .ok (.if_icmp .ge off, 3)) (ht : (pc : Int) + off = (tgt : Int)) (h : ¬ y ≤ x) (kk : Gc X M A k n (pc + 3) L st ws) : Gc X M A k n pc L (.int y :: .int x :: st) ws :=
  fun H locs ls hP hD hS hL => lv_icmp_ge cx.1 cx.2.1 hd ht (fun q => absurd q h) (fun _ => kk H locs ls hP hD hS hL)
theorem c_ge_y {x y : Int32} {off : Int} {tgt : Nat} (cx : Cn X M) (hd : decode M.2.1 pc = .ok (.if_icmp .ge off, 3)) (ht : (pc : Int) + off = (tgt : Int)) (h : y ≤ x) (kk : Gc X M A k n tgt L st ws) : Gc X M A k n pc L (.int y :: .int x :: st) ws :=
  fun H locs ls hP hD hS hL => lv_icmp_ge cx.1 cx.2.1 hd ht (fun _ => kk H locs ls hP hD hS hL) (fun q => absurd h q)
theorem c_dup {a : Nat} (cx : Cn X M) (hd : decode M.2.1 pc = .ok (.dup, 1)) (kk : Gc X M A k n (pc + 1) L (.ref a :: .ref a :: st) ws) : Gc X M A k n pc L (.ref a :: st) ws :=
  fun H locs ls hP hD hS hL => lv_dup cx.1 cx.2.1 hd rfl (kk H locs ls hP hD hS hL)
theorem c_arith {x y v : Int32} (cx : Cn X M) (hd : decode M.2.1 pc = .ok (.iadd, 1)) (hv : x + y = v) (kk : Gc X M A k n (pc + 1) L (.int v :: st) ws) : Gc X M A k n pc L (.int y :: .int x :: st) ws := by
  subst hv
  exact fun H locs ls hP hD hS hL => lv_iadd cx.1 cx.2.1 hd (kk H locs ls hP hD hS hL)
theorem c_imul {x y v : Int32} (cx : Cn X M) (hd : decode M.2.1 pc = .ok (.imul, 1)) (hv : x * y = v) (kk : Gc X M A k n (pc + 1) L (.int v :: st) ws) : Gc X M A k n pc L (.int y :: .int x :: st) ws := by
  subst hv
  exact fun H locs ls hP hD hS hL => lv_imul cx.1 cx.2.1 hd (kk H locs ls hP hD hS hL)
theorem c_idiv {x y v : Int32} (cx : Cn X M) (hd : decode M.2.1 pc = .ok (.idiv, 1)) (hne : ¬ y = 0) (hv : x / y = v) (kk : Gc X M A k n (pc + 1) L (.int v :: st) ws) : Gc X M A k n pc L (.int y :: .int x :: st) ws := by
  subst hv
  exact fun H locs ls hP hD hS hL => lv_idiv cx.1 cx.2.1 hd hne (kk H locs ls hP hD hS hL)
theorem c_obj {ix a : Nat} (cx : Cn X M) (hw : Cond.methodLink M.1.cls ix Lib.objectInit ∈ TB) (hd : decode M.2.1 pc = .ok (.invokespecial ix, 3)) (hf : 1 ≤ (xR X).frames) (hlo : 12 ≤ (xR X).locals) (kk : Gc X M A k n (pc + 3) L [] ws) : Gc X M A k n pc L [.ref a] ws := by
  intro H locs ls hP hD hS hL
  have ht := cx.2.2.2.2.2.2.1
  refine W.objInit (rest := []) cx.1 cx.2.1 cx.2.2.2.2.2.1 (ht _ hw) (ht _ wobI) (ht _ wobC) rfl (by rw [cx.2.2.1]; exact hL.1) rfl hd hf ?_ ?_
  · show 2 * 0 + 0 + 12 ≤ _
    omega
  · exact kk H locs ls hP hD hS hL
/-- the class of an array of a kind is one -/
theorem c_newa {atype : ArrayType} {ty : FieldType} {z : Int32} {N t : Nat} {a0 : vp_A} (cx : Cn X M) (hty : newarray.typeOf atype = ty) (ht9 : ∀ C, ty ≠ .object C) (htt : (tyL (xT X))[t]? = some (xT X t, ty)) (harr : Cond.arrayClass ty ∈ TB) (ha : ∀ cA : ClassId, vp_cell cA a0 = arrV cA N (fun _ => defaultValue ty)) (hz : ¬ z < 0) (hN : z.toNatClampNeg = N) (hb : N * componentBytes ty ≤ 536870912) (hA : ∀ q, (xs X).heap.size ≤ q → A q) (hc : k + 1 ≤ (xR X).cells) (hs : n + N ≤ (xR X).slots) (hd : decode M.2.1 pc = .ok (.newarray atype, 2))
    (kk : ∀ q : Nat, Gc X M A (k + 1) (n + N) (pc + 2) L (.ref q :: st) (ws ++ [(q, .inl (xT X t, a0))])) : Gc X M A k n pc L (.int z :: st) ws := by
  subst hty
  intro H locs ls hP hD hS hL
  refine va_newa cx.1 cx.2.1 (cx.2.2.2.2.2.2.1 _ harr) rfl cx.2.2.2.2.2.2.2.1 hP hD hS hA ha hz hN hb hc hs hd (fun q cA H1 hK hP1 hD1 hS1 => ?_)
  have h1 := (hK.2 (tyL (xT X)).length _ (by rw [List.getElem?_append_right (Nat.le_refl _), Nat.sub_self]; rfl)).2
  have h2 := (cx.2.2.2.2.2.2.2.1.2 t _ htt).2
  have e : cA = xT X t := by
    unfold va_RA at h1 h2
    cases hy : newarray.typeOf atype with
    | object C => exact absurd hy (ht9 C)
    | _ => rw [hy] at h1 h2; exact Option.some.inj (h1.symm.trans h2)
  subst e
  exact kk q H1 locs ls hP1 hD1 hS1 hL
theorem c_newq {ix N : Nat} {z : Int32} (cx : Cn X M) (hw : Cond.classLink M.1.cls ix RX0 ∈ TB) (hz : ¬ z < 0) (hN : z.toNatClampNeg = N) (hb : N * 4 ≤ 536870912) (hA : ∀ q, (xs X).heap.size ≤ q → A q) (hc : k + 1 ≤ (xR X).cells) (hs : n + N ≤ (xR X).slots) (hd : decode M.2.1 pc = .ok (.anewarray ix, 3))
    (kk : ∀ q : Nat, Gc X M A (k + 1) (n + N) (pc + 3) L (.ref q :: st) (ws ++ [(q, .inl (xT X 3, N, .inr (.inr (.inr (.inr (fun _ => none))))))])) : Gc X M A k n pc L (.int z :: st) ws := by
  intro H locs ls hP hD hS hL
  refine va_newq cx.1 cx.2.1 cx.2.2.2.2.2.1 (cx.2.2.2.2.2.2.1 _ hw) cx.2.2.2.2.2.2.2.2.2 cx.2.2.2.2.2.2.2.1 hP hD hS hA hz hN hb hc hs hd (fun q cA H1 hK hP1 hD1 hS1 => ?_)
  obtain ⟨-, -, -, -, -, h1⟩ := (hK.2 (tyL (xT X)).length _ (by rw [List.getElem?_append_right (Nat.le_refl _), Nat.sub_self]; rfl)).2
  obtain ⟨-, -, -, -, -, h2⟩ := (cx.2.2.2.2.2.2.2.1.2 3 _ rfl).2
  have e : cA = xT X 3 := Option.some.inj (h1.symm.trans h2)
  subst e
  exact kk q H1 locs ls hP1 hD1 hS1 hL
theorem c_new {C : String} {T : u_T} {N ci ix : Nat} {ty : Nat → FieldType} {fs : List Value} (cx : Cn X M) (hc : vwCl[ci]? = some (C, T, N)) (hin : ∀ w ∈ u_ws C T N, w ∈ TB) (hty : ∀ k, k < N → parseFieldDescriptor (T k).2.2.1 = some (ty k)) (hw : Cond.classLink M.1.cls ix C ∈ TB) (hi : Cond.instantiable C N ∈ TB) (hini : Cond.initialized C ∈ TB) (hfs : ∀ j, j < N → defaultValue (ty j) = vp_V fs j) (hA : ∀ q, (xs X).heap.size ≤ q → A q) (hcl : k + 1 ≤ (xR X).cells) (hsl : n + N ≤ (xR X).slots) (hd : decode M.2.1 pc = .ok (.new ix, 3))
    (kk : ∀ q : Nat, Gc X M A (k + 1) (n + N) (pc + 3) L (.ref q :: st) (ws ++ [(q, .inr (ci, fs))])) : Gc X M A k n pc L st ws := by
  intro H locs ls hP hD hS hL
  have ht := cx.2.2.2.2.2.2.1
  exact va_new cx.1 cx.2.1 ht hin ty hty cx.2.2.2.2.2.1 (ht _ hw) (ht _ hi) (ht _ hini) cx.2.2.2.2.2.2.2.1 hP hD hS hA hc hfs hcl hsl hd (fun q H1 hP1 hD1 hS1 => kk q H1 locs ls hP1 hD1 hS1 hL)
theorem c_putF {C : String} {T : u_T} {N ci j ix a : Nat} {ty0 : Nat → FieldType} {ty : FieldType} {fs fs' : List Value} {v : Value} {R : va_W} (cx : Cn X M) (hnm : (xh X).name = "<init>") (hc : vwCl[ci]? = some (C, T, N)) (hj : j < N) (hin : ∀ w ∈ u_ws C T N, w ∈ TB) (hty : ∀ k, k < N → parseFieldDescriptor (T k).2.2.1 = some (ty0 k)) (hnn : ∀ a, a < N → ∀ b, b < N → a ≠ b → (T a).2.1 ≠ (T b).2.1) (hw : Cond.fieldLink M.1.cls ix (T j).1 (T j).2.1 (T j).2.2.1 ∈ TB) (hfin : (T j).2.2.2 = true) (hdc : (T j).1 = M.1.cls) (hpd : ty0 j = ty) (hn : narrow ty v = v) (hfit : fits ty v = true) (hl : j < fs.length) (hfs : fs.set j v = fs') (hd : decode M.2.1 pc = .ok (.putfield ix, 3))
    (kk : Gc X M A k n (pc + 3) L st ((a, .inr (ci, fs')) :: R)) : Gc X M A k n pc L (v :: .ref a :: st) ((a, .inr (ci, fs)) :: R) := by
  subst hfs
  intro H locs ls hP hD hS hL
  have ht := cx.2.2.2.2.2.2.1
  exact va_putF cx.1 cx.2.1 ht hin ty0 hty hnn cx.2.2.2.2.2.1 cx.2.2.2.2.2.2.2.1 hP hD hS 0 rfl hc j hj (ht _ hw) (fun _ h => h) hfin hnm hdc (by rw [hty j hj, hpd]) hn hfit hl hd (fun H1 locs1 hP1 hD1 hS1 => kk H1 locs1 ls hP1 hD1 hS1 hL)
theorem c_putI {C : String} {T : u_T} {N ci j ix a : Nat} {ty0 : Nat → FieldType} {fs fs' : List Value} {v : Int32} {R : va_W} (cx : Cn X M) (hc : vwCl[ci]? = some (C, T, N)) (hj : j < N) (hin : ∀ w ∈ u_ws C T N, w ∈ TB) (hty : ∀ k, k < N → parseFieldDescriptor (T k).2.2.1 = some (ty0 k)) (hnn : ∀ a, a < N → ∀ b, b < N → a ≠ b → (T a).2.1 ≠ (T b).2.1) (hw : Cond.fieldLink M.1.cls ix (T j).1 (T j).2.1 (T j).2.2.1 ∈ TB) (hfin : (T j).2.2.2 = false) (hpd : ty0 j = .int) (hl : j < fs.length) (hfs : fs.set j (.int v) = fs') (hd : decode M.2.1 pc = .ok (.putfield ix, 3))
    (kk : Gc X M A k n (pc + 3) L st ((a, .inr (ci, fs')) :: R)) : Gc X M A k n pc L (.int v :: .ref a :: st) ((a, .inr (ci, fs)) :: R) := by
  subst hfs
  intro H locs ls hP hD hS hL
  have ht := cx.2.2.2.2.2.2.1
  exact va_put cx.1 cx.2.1 ht hin ty0 hty hnn cx.2.2.2.2.2.1 cx.2.2.2.2.2.2.2.1 hP hD hS 0 rfl hc j hj (ht _ hw) (fun _ h => h) hfin (ty := .int) (v := .int v) (by rw [hty j hj, hpd]) rfl rfl hl hd (fun H1 locs1 hP1 hD1 hS1 => kk H1 locs1 ls hP1 hD1 hS1 hL)
theorem c_get {C : String} {T : u_T} {N ci j ix a : Nat} {fs : List Value} {v : Value} {R : va_W} (cx : Cn X M) (hc : vwCl[ci]? = some (C, T, N)) (hj : j < N) (hin : ∀ w ∈ u_ws C T N, w ∈ TB) (hw : Cond.fieldLink M.1.cls ix (T j).1 (T j).2.1 (T j).2.2.1 ∈ TB) (hv : fs[j]? = some v) (hd : decode M.2.1 pc = .ok (.getfield ix, 3))
    (kk : Gc X M A k n (pc + 3) L (v :: st) ((a, .inr (ci, fs)) :: R)) : Gc X M A k n pc L (.ref a :: st) ((a, .inr (ci, fs)) :: R) := by
  intro H locs ls hP hD hS hL
  have ht := cx.2.2.2.2.2.2.1
  exact va_get cx.1 cx.2.1 ht hin cx.2.2.2.2.2.1 cx.2.2.2.2.2.2.2.1 hP 0 rfl hc j hj (ht _ hw) (fun _ h => h) hv hd (kk H locs ls hP hD hS hL)
theorem c_aast {q0 qk N a v j : Nat} {f : Nat → Option Nat} {vs : List Value} {ws' : va_W} (cx : Cn X M) (ha : ws[q0]? = some (a, .inl (xT X 3, N, .inr (.inr (.inr (.inr f)))))) (hv : ws[qk]? = some (v, .inr (0, vs))) (hj : j < N) (hN : N < 2 ^ 31) (hs : ws.set q0 (a, .inl (xT X 3, N, .inr (.inr (.inr (.inr (va_up f j (some v))))))) = ws') (hd : decode M.2.1 pc = .ok (.aastore, 1)) (kk : Gc X M A k n (pc + 1) L st ws') : Gc X M A k n pc L (.ref v :: .int (nI j) :: .ref a :: st) ws := by
  subst hs
  intro H locs ls hP hD hS hL
  refine va_astq cx.1 cx.2.1 cx.2.2.2.2.2.2.2.1 hP hD hS q0 3 qk 0 ha rfl hv rfl (vp_in_nI hj hN) hd (fun H1 locs1 hP1 hD1 hS1 => ?_)
  rw [nI_clamp (by omega)] at hP1 hD1
  exact kk H1 locs1 ls hP1 hD1 hS1 hL
end MAKE
/-- behind a call: the caller's other cells, and what the maker made -/
theorem va_jn {A0 : Nat → Prop} {G : va_G} {cl : List vw_C} {wr wc w1 : va_W} {H H1 : Heap} (hP : va_P G cl (wr ++ wc) H) (hD : va_D A0 (wr ++ wc)) (hk : ∀ q : Nat, q < H.size → ¬ va_A wc H.size q → H1[q]? = H[q]?) (hF : ∀ q, va_A wc H.size q → A0 q) (hP1 : va_P G cl w1 H1) (hD1 : va_D (va_A wc H.size) w1) : va_P G cl (wr ++ w1) H1 ∧ va_D A0 (wr ++ w1) := by
  have hl : ∀ (i : Nat) (q : Nat × va_E), wr[i]? = some q → (wr ++ wc)[i]? = some q := fun i q h => by
    rw [List.getElem?_append_left (List.getElem?_eq_some_iff.mp h).1]; exact h
  have hr : ∀ (i : Nat) (q : Nat × va_E), wc[i]? = some q → (wr ++ wc)[wr.length + i]? = some q := fun i q h => by
    rw [List.getElem?_append_right (Nat.le_add_right _ _), Nat.add_sub_cancel_left]; exact h
  have apart : ∀ (i : Nat) (q : Nat × va_E), wr[i]? = some q → q.1 < H.size ∧ ¬ va_A wc H.size q.1 := by
    intro i q hq
    have hlt := (hP i q (hl i q hq)).lt
    refine ⟨hlt, fun h => ?_⟩
    rcases h with ⟨j, e, h⟩ | h
    · have := hD.1 i (wr.length + j) q (q.1, e) (hl i q hq) (hr j _ h) rfl
      have := (List.getElem?_eq_some_iff.mp hq).1
      omega
    · omega
  refine ⟨va_P.app (fun i q hq => (hP i q (hl i q hq)).kept (hk q.1 (apart i q hq).1 (apart i q hq).2)) hP1, va_D.app ⟨fun i j x y hx hy e => hD.1 i j x y (hl i x hx) (hl j y hy) e, fun i q hq => hD.2 i q (hl i q hq)⟩ (hD1.weaken (fun i q _ h => hF q.1 h)) (fun i j x y hx hy e => ?_)⟩
  exact (apart i x hx).2 (by rw [e]; exact hD1.2 j y hy)
/-- THE CONTRACT of a maker: on its own new cell it makes these cells -/
def Nok (P9 : Nat → State → Prop) (M : Mt) (d kc ns ci : Nat) (fs0 As : List Value) (w1 : (Nat → ClassId) → Nat → (Nat → Nat) → va_W) : Prop :=
  ∀ (l : Launch) (G : va_G) (dT : Nat → ClassId) (h0 sz : Nat), Met l M.1 (wM M) { frames := d, cells := kc, slots := ns, locals := 40 * d } (va_Pc (.ref h0 :: As) (fun U => U.heap.size = sz ∧ va_P G vwCl [(h0, .inr (ci, fs0))] U.heap ∧ va_K G vwCl (tyL dT) U ∧ Cst U ∧ P9 h0 U))
    (va_Qv (fun _ : Nat → Nat => True) (fun q t => va_P G vwCl (w1 dT h0 q) t.heap ∧ va_D (va_A [(h0, .inr (ci, fs0))] sz) (w1 dT h0 q)) (va_A [(h0, .inr (ci, fs0))] sz)) kc ns (va_A [(h0, .inr (ci, fs0))] sz)
theorem va_D1 {A : Nat → Prop} {x : Nat × va_E} (h : A x.1) : va_D A [x] := by
  refine ⟨fun i j p q hi hj _ => ?_, fun i q hi => ?_⟩
  · have h1 := (List.getElem?_eq_some_iff.mp hi).1
    have h2 := (List.getElem?_eq_some_iff.mp hj).1
    simp only [List.length_singleton] at h1 h2
    omega
  · have := List.mem_of_getElem? hi
    rw [List.mem_singleton] at this
    rw [this]; exact h
def Nq (X : Cxt) (kc ns ci h0 : Nat) (fs0 : List Value) (w1 : (Nat → ClassId) → Nat → (Nat → Nat) → va_W) : Prop :=
  xQ X = MQ (xb X) (va_Qv (fun _ : Nat → Nat => True) (fun q t => va_P (xG X) vwCl (w1 (xT X) h0 q) t.heap ∧ va_D (va_A [(h0, .inr (ci, fs0))] (xs X).heap.size) (w1 (xT X) h0 q)) (va_A [(h0, .inr (ci, fs0))] (xs X).heap.size)) (xv X) (xs X) kc ns (va_A [(h0, .inr (ci, fs0))] (xs X).heap.size)
theorem Nok.of {P9 : Nat → State → Prop} {M : Mt} {d kc ns ci : Nat} {fs0 As : List Value} {w1 : (Nat → ClassId) → Nat → (Nat → Nat) → va_W} {L : Nat → Lv} (hy : plainName M.1.cls = true) (hnm : M.1.name = "<init>") (hlen : ∀ h0, (lg_sl (.ref h0 :: As)).length ≤ M.2.2.1) (hL : ∀ h0, lv_args 0 (.ref h0 :: As) = L h0)
    (k : ∀ (X : Cxt) (h0 : Nat), Cn X M → (xh X).name = "<init>" → xR X = { frames := d, cells := kc, slots := ns, locals := 40 * d } → Nq X kc ns ci h0 fs0 w1 → h0 < (xs X).heap.size → P9 h0 (xs X) → Gc X M (va_A [(h0, .inr (ci, fs0))] (xs X).heap.size) 0 0 0 (L h0) [] [(h0, .inr (ci, fs0))]) : Nok P9 M d kc ns ci fs0 As w1 := by
  intro l G dT h0 sz
  refine Met.ofW (cc := M.2.1) (maxL := M.2.2.1) (ret := M.2.2.2) hy rfl ?_
  intro p e s m args below meth c s₁ B hml hv
  obtain ⟨rfl, hsz, hP, hK, hC, h9⟩ := hv
  subst hsz
  have hts := atoms_spec (ws := wM M) B.pre
  have hown : s.vm.findClass M.1.cls = some m.cls := findClass_of_methodNamed B.named
  have hin : meth.name = "<init>" := by rw [(name_of_methodNamed B.named B.method).1, hnm]
  have hl := lv_entry (.ref h0 :: As) (n := M.2.2.1) (hlen h0)
  rw [lg_entry_eq]
  generalize (lg_sl (.ref h0 :: As) ++ List.replicate (M.2.2.1 - (lg_sl (.ref h0 :: As)).length) Slot.unset).toArray = ls at hl ⊢
  rw [hL h0] at hl
  exact k (G, dT, fun _ => 0, p, l, e, { frames := d, cells := kc, slots := ns, locals := 40 * d }, s, m, (.ref h0 :: As).toArray, below, meth, c, 0, 0, MQ below (va_Qv (fun _ : Nat → Nat => True) (fun q t => va_P G vwCl (w1 dT h0 q) t.heap ∧ va_D (va_A [(h0, .inr (ci, fs0))] s.heap.size) (w1 dT h0 q)) (va_A [(h0, .inr (ci, fs0))] s.heap.size)) (.ref h0 :: As).toArray s kc ns (va_A [(h0, .inr (ci, fs0))] s.heap.size)) h0
    ⟨B.exec, B.bytes, hml, B.returns, B.notSynchronized, hown, fun w h => hts w (List.mem_cons_of_mem _ h), hK, hC⟩ hin rfl rfl (hP 0 _ rfl).lt h9 s.heap [] ls hP (va_D1 (va_A.in (k := 0) rfl)) va_S.rf hl
section MAKE2
variable {X : Cxt} {M : Mt} {A : Nat → Prop} {k n pc : Nat} {L : Lv} {st : List Value} {ws : va_W}
theorem c_ret {kc ns ci h0 : Nat} {fs0 : List Value} {w1 : (Nat → ClassId) → Nat → (Nat → Nat) → va_W} (q : Nat → Nat) (cx : Cn X M) (hQ : Nq X kc ns ci h0 fs0 w1) (hr : M.2.2.2 = none) (hk : k ≤ kc) (hn : n ≤ ns) (hw : ws = w1 (xT X) h0 q) (hd : decode M.2.1 pc = .ok (.return_, 1)) : Gc X M (va_A [(h0, .inr (ci, fs0))] (xs X).heap.size) k n pc L [] ws := by
  subst hw
  intro H locs ls hP hD hS hL
  refine W.widen hk hn ?_
  rw [hQ]
  exact W.vret cx.1 cx.2.1 (by rw [cx.2.2.2.1, hr]) (fun t ht hW => ⟨⟨q, rfl, trivial, by rw [ht]; exact hP, hD⟩, hS.F ht⟩) hS.2.2 hd cx.2.2.2.2.1
theorem Nok.pre {P9 : Nat → State → Prop} {ci b : Nat} {fs0 As : List Value} {H : Heap} (cx : Cn X M) (hB : ∀ (a : Array Value) (U : State) (g : JFrame) (mk : MethodId), P9 b U → P9 b (U.calling g mk a)) (h9 : ∀ U : State, U.heap = H → (xs X).WarmedH U.vm → P9 b U) (hP : va_P (xG X) vwCl [(b, .inr (ci, fs0))] H) : PreS (xs X) H (va_Pc (.ref b :: As) (fun U => U.heap.size = H.size ∧ va_P (xG X) vwCl [(b, .inr (ci, fs0))] U.heap ∧ va_K (xG X) vwCl (tyL (xT X)) U ∧ Cst U ∧ P9 b U)) (.ref b :: As) :=
  ⟨fun a U g mk q => by obtain ⟨q0, q1, qP, qK, qC, q9⟩ := q; exact ⟨q0, q1, qP, va_K.moved (u := U) (U := U.calling g mk a) (Vm.Alike.refl U.vm) qK, qC.same rfl, hB a U g mk q9⟩, fun U hU hW => ⟨rfl, by rw [hU], by rw [hU]; exact hP, va_K.moved hW.alike cx.2.2.2.2.2.2.2.1, cx.2.2.2.2.2.2.2.2.warm hW, h9 U hU hW⟩⟩
theorem c_fr {ci b : Nat} {fs0 : List Value} {wr : va_W} {H : Heap} {locs : List Loc} (hA : ∀ q, (xs X).heap.size ≤ q → A q) (hD : va_D A (wr ++ [(b, .inr (ci, fs0))])) (hS : va_S A (xs X).heap H locs) : ∀ q, va_A [(b, .inr (ci, fs0))] H.size q → A q := by
  intro q h
  rcases h with ⟨i, e, h⟩ | h
  · have h1 := List.mem_of_getElem? h
    rw [List.mem_singleton] at h1
    have h2 := hD.2 wr.length (b, .inr (ci, fs0)) (by rw [List.getElem?_append_right (Nat.le_refl _), Nat.sub_self]; rfl)
    rw [show q = b from congrArg Prod.fst h1]; exact h2
  · exact hA q (Nat.le_trans hS.1 h)
theorem c_pr {ci b : Nat} {fs0 : List Value} {wr : va_W} {H : Heap} (hP : va_P (xG X) vwCl (wr ++ [(b, .inr (ci, fs0))]) H) : va_P (xG X) vwCl [(b, .inr (ci, fs0))] H := fun i q h => hP (wr.length + i) q (by rw [List.getElem?_append_right (Nat.le_add_right _ _), Nat.add_sub_cancel_left]; exact h)
/-- a maker is called -/
theorem c_call {P9 : Nat → State → Prop} {y : MethodName} {cd : ByteArray} {mL d kc ns ci ix b na : Nat} {fs0 As rest : List Value} {w1 : (Nat → ClassId) → Nat → (Nat → Nat) → va_W} {wr : va_W} (cx : Cn X M) (hN : Nok P9 (y, cd, mL, none) d kc ns ci fs0 As w1) (hB : ∀ (a : Array Value) (U : State) (g : JFrame) (mk : MethodId), P9 b U → P9 b (U.calling g mk a)) (h9 : ∀ (H : Heap) (locs : List Loc), va_D A ws → va_S A (xs X).heap H locs → ∀ U : State, U.heap = H → (xs X).WarmedH U.vm → P9 b U) (hK : Kn (y, cd, mL, none) na) (hnm : y.name = "<init>") (hin : Cond.instanceMethod y ∈ TB) (hw : Cond.methodLink M.1.cls ix y ∈ TB) (hna : As.length = na) (hA : ∀ q, (xs X).heap.size ≤ q → A q) (hf : d + 1 ≤ (xR X).frames) (hlo : 40 * (d + 1) ≤ (xR X).locals) (hc : k + kc ≤ (xR X).cells) (hs : n + ns ≤ (xR X).slots) (hr : (rest.map fun v => v.category).sum ≤ 8) (hst : st = As.reverse ++ .ref b :: rest) (hws : ws = wr ++ [(b, .inr (ci, fs0))]) (hd : decode M.2.1 pc = .ok (.invokespecial ix, 3))
    (kk : ∀ q : Nat → Nat, Gc X M A (k + kc) (n + ns) (pc + 3) L rest (wr ++ w1 (xT X) b q)) : Gc X M A k n pc L st ws := by
  subst hst hws
  intro H locs ls hP hD hS hL
  obtain ⟨k1, k2, k3, k4, k5, k6⟩ := hK
  have ht := cx.2.2.2.2.2.2.1
  have hFc := c_fr hA hD hS
  have k6' : mL ≤ 21 := k6
  refine va_callv (va_runI (As := As) (rest := rest) ⟨cx.1, cx.2.1, cx.2.2.1, cx.2.2.2.2.2.1, ht⟩ (hN (xl X) (xG X) (xT X) b H.size) ⟨callB_of na ht (wM_good k1) rfl rfl rfl (ht _ k2) (ht _ hw) ⟨k3, k4, k5⟩ ⟨hf, by show 8 + (mL + 11) + 40 * d ≤ _; omega⟩, hnm, ht _ hin⟩ (Nok.pre cx hB (h9 H locs hD hS) (c_pr hP)) rfl hna hL.1 rfl (lv_room hr) hd ⟨hc, hs⟩) hS (fun q _ h => hFc q h) hFc (fun u t H1 locs1 ht1 hvm _ hB hz1 hk1 hS1 => ?_)
  obtain ⟨hB1, hB2⟩ := hB
  rw [ht1] at hB1
  obtain ⟨hP2, hD2⟩ := va_jn hP hD hk1 hFc hB1 hB2
  exact kk u H1 locs1 ls hP2 hD2 hS1 hL
/-- a private maker of a nest mate is called -/
theorem c_callN {P9 : Nat → State → Prop} {y : MethodName} {cd : ByteArray} {mL d kc ns ci ix b na : Nat} {host : String} {fs0 As rest : List Value} {w1 : (Nat → ClassId) → Nat → (Nat → Nat) → va_W} {wr : va_W} (cx : Cn X M) (hN : Nok P9 (y, cd, mL, none) d kc ns ci fs0 As w1) (hB : ∀ (a : Array Value) (U : State) (g : JFrame) (mk : MethodId), P9 b U → P9 b (U.calling g mk a)) (h9 : ∀ (H : Heap) (locs : List Loc), va_D A ws → va_S A (xs X).heap H locs → ∀ U : State, U.heap = H → (xs X).WarmedH U.vm → P9 b U) (hK : Kn (y, cd, mL, none) na) (hnm : y.name = "<init>") (hin : Cond.instanceMethod y ∈ TB) (hw : (M.1.cls, ix, y, host) ∈ nwC) (hna : As.length = na) (hA : ∀ q, (xs X).heap.size ≤ q → A q) (hf : d + 1 ≤ (xR X).frames) (hlo : 40 * (d + 1) ≤ (xR X).locals) (hc : k + kc ≤ (xR X).cells) (hs : n + ns ≤ (xR X).slots) (hr : (rest.map fun v => v.category).sum ≤ 8) (hst : st = As.reverse ++ .ref b :: rest) (hws : ws = wr ++ [(b, .inr (ci, fs0))]) (hd : decode M.2.1 pc = .ok (.invokespecial ix, 3))
    (kk : ∀ q : Nat → Nat, Gc X M A (k + kc) (n + ns) (pc + 3) L rest (wr ++ w1 (xT X) b q)) : Gc X M A k n pc L st ws := by
  subst hst hws
  intro H locs ls hP hD hS hL
  obtain ⟨k1, k2, k3, k4, k5, k6⟩ := hK
  have ht := cx.2.2.2.2.2.2.1
  have hFc := c_fr hA hD hS
  have k6' : mL ≤ 21 := k6
  refine va_callv (va_runIN (As := As) (rest := rest) ⟨cx.1, cx.2.1, cx.2.2.1, cx.2.2.2.2.2.1, ht⟩ (hN (xl X) (xG X) (xT X) b H.size) ⟨va_cnB na ht (wM_good k1) rfl rfl rfl (cx.2.2.2.2.2.2.2.2.1 _ hw) (ht _ k2) ⟨k3, k4, k5⟩ ⟨hf, by show 8 + (mL + 11) + 40 * d ≤ _; omega⟩, hnm, ht _ hin⟩ (Nok.pre cx hB (h9 H locs hD hS) (c_pr hP)) rfl hna hL.1 rfl (lv_room hr) hd ⟨hc, hs⟩) hS (fun q _ h => hFc q h) hFc (fun u t H1 locs1 ht1 hvm _ hB hz1 hk1 hS1 => ?_)
  obtain ⟨hB1, hB2⟩ := hB
  rw [ht1] at hB1
  obtain ⟨hP2, hD2⟩ := va_jn hP hD hk1 hFc hB1 hB2
  exact kk u H1 locs1 ls hP2 hD2 hS1 hL
theorem c_iast {q0 N a j : Nat} {v : Int32} {f : Nat → Int32} {ws' : va_W} (cx : Cn X M) (ha : ws[q0]? = some (a, .inl (xT X 0, N, .inl f))) (hj : j < N) (hN : N < 2 ^ 31) (hs : ws.set q0 (a, .inl (xT X 0, N, .inl (upd f j v))) = ws') (hd : decode M.2.1 pc = .ok (.iastore, 1)) (kk : Gc X M A k n (pc + 1) L st ws') : Gc X M A k n pc L (.int v :: .int (nI j) :: .ref a :: st) ws := by
  subst hs
  intro H locs ls hP hD hS hL
  refine va_iast cx.1 cx.2.1 cx.2.2.2.2.2.2.2.1 hP hD hS q0 0 ha rfl (vp_in_nI hj hN) hd (fun H1 locs1 hP1 hD1 hS1 => ?_)
  rw [nI_clamp (by omega)] at hP1 hD1
  exact kk H1 locs1 ls hP1 hD1 hS1 hL
theorem c_iald {q0 N a j : Nat} {v : Int32} {f : Nat → Int32} (cx : Cn X M) (ha : ws[q0]? = some (a, .inl (xT X 0, N, .inl f))) (hj : j < N) (hN : N < 2 ^ 31) (hv : f j = v) (hd : decode M.2.1 pc = .ok (.iaload, 1)) (kk : Gc X M A k n (pc + 1) L (.int v :: st) ws) : Gc X M A k n pc L (.int (nI j) :: .ref a :: st) ws := by
  subst hv
  intro H locs ls hP hD hS hL
  refine va_iald cx.1 cx.2.1 cx.2.2.2.2.2.2.2.1 hP q0 0 ha rfl (vp_in_nI hj hN) hd ?_
  rw [nI_clamp (by omega)]
  exact kk H locs ls hP hD hS hL
/-- what lies beyond an array's end doesn't matter -/
theorem c_ref {q0 N a : Nat} {cA : ClassId} {f f' : Nat → Option Nat} {ws' : va_W} (ha : ws[q0]? = some (a, .inl (cA, N, .inr (.inr (.inr (.inr f)))))) (he : ∀ j, j < N → f j = f' j) (hs : ws.set q0 (a, .inl (cA, N, .inr (.inr (.inr (.inr f'))))) = ws') (kk : Gc X M A k n pc L st ws') : Gc X M A k n pc L st ws := by
  subst hs
  intro H locs ls hP hD hS hL
  refine kk H locs ls (fun i q hq => ?_) (hD.set ha) hS hL
  rw [List.getElem?_set] at hq
  split at hq
  · rename_i e
    split at hq
    · cases hq
      have h1 := hP q0 _ ha
      show H[a]? = some (vp_cell cA (N, .inr (.inr (.inr (.inr f')))))
      have h2 : H[a]? = some (vp_cell cA (N, .inr (.inr (.inr (.inr f))))) := h1
      rw [h2, vp_cell_q, vp_cell_q]
      have e2 : (Array.ofFn (n := N) fun j => va_rf (f j.val)) = (Array.ofFn (n := N) fun j => va_rf (f' j.val)) := by
        congr 1; funext j; rw [he j.val j.isLt]
      unfold arrV
      rw [e2]
    · cases hq
  · exact hP i q hq
theorem cw_mem {ad : Id2 → Nat} {dT : Nat → ClassId} {ids : List Id2} {D : Wd} {j : Nat} {x : Nat × va_E} (h : (cw ad dT ids D)[j]? = some x) : aA ad ids x.1 := by
  unfold cw at h
  rw [List.getElem?_map] at h
  cases hz : ids[j]? with
  | none => rw [hz] at h; cases h
  | some z =>
    rw [hz] at h
    cases h
    exact ⟨z, List.mem_of_getElem? hz, rfl⟩
theorem Ext.narrow {ad : Id2 → Nat} {A B : Nat → Prop} {U : State} {H : Heap} (h : Ext ad A U H) (hAB : ∀ q, B q → A q) : Ext ad B U H :=
  ⟨h.1.narrow hAB, h.2.1.narrow hAB, h.2.2.1.narrow hAB, h.2.2.2.1.narrow hAB, h.2.2.2.2.1, h.2.2.2.2.2.1, h.2.2.2.2.2.2.imp (fun z => z.narrow hAB) (fun z => z.narrow hAB)⟩
theorem c_callM {N : Mt} {ix na d' ci nf : Nat} {i : Id2} {As : List AV} {rest : List Value} {fs : List (Option Id2)} {T : u_T} {ad : Id2 → Nat} {D D' : Wd} (cx : Cn X M) (hN : Kn N na) (hM : Fok N idsX d' (vr i :: As) D none D') (hi : i ∈ idsX) (hsh : sh i = .inl (ci, fs)) (hc : vwCl[ci]? = some (N.1.cls, T, nf)) (hw : Cond.methodLink M.1.cls ix N.1 ∈ TB) (hin : Cond.instanceMethod N.1 ∈ TB) (hse : Cond.selects N.1.cls N.1 N.1 ∈ TB) (hna : As.length = na) (hf : d' + 1 ≤ (xR X).frames) (hlo : 40 * (d' + 1) ≤ (xR X).locals) (hkc : k ≤ (xR X).cells) (hns : n ≤ (xR X).slots) (hr : (rest.map fun v => v.category).sum ≤ 8) (hst : st = (As.map (cv ad)).reverse ++ .ref (ad i) :: rest) (hws : ws = cw ad (xT X) idsX D) (hAl : ∀ q, q < (xs X).heap.size → A q → aA ad idsX q) (hE0 : Ext ad A (xs X) (xs X).heap) (hd : decode M.2.1 pc = .ok (.invokevirtual ix, 3))
    (kk : Gc X M A k n (pc + 3) L rest (cw ad (xT X) idsX D')) : Gc X M A k n pc L st ws := by
  subst hst hws
  intro H locs ls hP hD hS hL
  obtain ⟨q, hq⟩ := cw_in hi
  have he := cw_at (ad := ad) (dT := xT X) (D := D) hq
  rw [ce_obj hsh] at he
  obtain ⟨k1, k2, k3, k4, k5, k6⟩ := hN
  have ht := cx.2.2.2.2.2.2.1
  have hDa : va_D (aA ad idsX) (cw ad (xT X) idsX D) := ⟨hD.1, fun j x hj => cw_mem hj⟩
  have hAA : ∀ q, aA ad idsX q → A q := fun q hq => by
    obtain ⟨z, hz, rfl⟩ := hq
    obtain ⟨j, hj⟩ := cw_in hz
    exact hD.2 j _ (cw_at hj)
  have hE := hE0.narrow hAA
  have cw : CallW (xR X) (xs X) (xv X) M.1.cls N.1.cls ix N.1 N.2.1 N.2.2.1 N.2.2.2 (wM N) (rmD d') 0 0 na :=
    ⟨callB_of na ht (wM_good k1) rfl rfl rfl (ht _ k2) (ht _ hw) ⟨k3, k4, k5⟩ ⟨hf, by show 8 + (N.2.2.1 + 11) + 40 * d' ≤ _; omega⟩, ht _ hin, ht _ hse⟩
  have hrun := va_runV (l := xl X) (e := xe X) (below := xb X) (meth := xh X) (locs := locs) (cells := k) (slots := n) (g := F0 (xm X) pc ls ((As.map (cv ad)).reverse ++ .ref (ad i) :: rest)) (As := As.map (cv ad)) (b := ad i) (rest := rest) ⟨cx.1, cx.2.1, cx.2.2.1, cx.2.2.2.2.2.1, ht⟩ (hM (xl X) (xG X) (xT X) ad) cw ⟨Px.blind, va_recv cx.2.2.2.2.2.2.2.1 hP hc he, fun U hU hW => ⟨rfl, by rw [hU]; exact hP, hDa, va_K.moved hW.alike cx.2.2.2.2.2.2.2.1, by rw [hU]; exact Ext.warm hW (fun a h1 h2 => hS.2.1 a h1 (fun z => h2 (hAl a h1 z))) hE⟩⟩ rfl (by rw [List.length_map, hna]) hL.1 rfl (lv_room hr) hd ⟨hkc, hns⟩
  intro T hT Y
  obtain ⟨v, st₀, t, T', Lo, h0, Y', hLo, e1, e2, ⟨⟨r, D9, hv, hp, hP9⟩, hz, hk⟩, stp⟩ := hrun T hT Y
  obtain ⟨rfl, rfl⟩ := hp
  cases hv
  rw [h0] at hz hk
  obtain ⟨t2, a1, b1⟩ := kk T'.heap (locs ++ Lo) ls (by rw [e1]; exact hP9) (cw_D hD) ⟨Nat.le_trans hS.1 (by rw [e1]; exact hz), fun q h1 h2 => by rw [e1, hk q (Nat.lt_of_lt_of_le h1 hS.1) (fun z => h2 (hAA q z))]; exact hS.2.1 q h1 h2, fun q hq => by
    rcases List.mem_append.mp hq with h | h
    · exact hS.2.2 q h
    · exact hAA _ (hLo q h)⟩ hL T' rfl Y'
  exact ⟨t2, stp t2 a1, b1⟩
end MAKE2
