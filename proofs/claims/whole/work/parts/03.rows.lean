/-! THE ROWS: one for each kind of instruction, over the small machine -/
/-- all of a walk that doesn't move: worlds' tables, addresses, program, launch, .. , room, state at the entry, .. , cells and slots so far, the end that is sought -/
abbrev Cxt : Type := va_G × (Nat → ClassId) × (Id2 → Nat) × Program × Launch × Env × Room × State × MethodId × Array Value × List Frame × Method × Code × Nat × Nat × (State → Prop)
abbrev xG (X : Cxt) : va_G := X.1
abbrev xT (X : Cxt) : Nat → ClassId := X.2.1
abbrev xa (X : Cxt) : Id2 → Nat := X.2.2.1
abbrev xp (X : Cxt) : Program := X.2.2.2.1
abbrev xl (X : Cxt) : Launch := X.2.2.2.2.1
abbrev xe (X : Cxt) : Env := X.2.2.2.2.2.1
abbrev xR (X : Cxt) : Room := X.2.2.2.2.2.2.1
abbrev xs (X : Cxt) : State := X.2.2.2.2.2.2.2.1
abbrev xm (X : Cxt) : MethodId := X.2.2.2.2.2.2.2.2.1
abbrev xv (X : Cxt) : Array Value := X.2.2.2.2.2.2.2.2.2.1
abbrev xb (X : Cxt) : List Frame := X.2.2.2.2.2.2.2.2.2.2.1
abbrev xh (X : Cxt) : Method := X.2.2.2.2.2.2.2.2.2.2.2.1
abbrev xc (X : Cxt) : Code := X.2.2.2.2.2.2.2.2.2.2.2.2.1
abbrev xk (X : Cxt) : Nat := X.2.2.2.2.2.2.2.2.2.2.2.2.2.1
abbrev xn (X : Cxt) : Nat := X.2.2.2.2.2.2.2.2.2.2.2.2.2.2.1
abbrev xQ (X : Cxt) : State → Prop := X.2.2.2.2.2.2.2.2.2.2.2.2.2.2.2
def Cx (X : Cxt) (M : Mt) (ids : List Id2) (d : Nat) : Prop :=
  (xp X).tables.exec = Jvm.exec ∧ (xc X).code = M.2.1 ∧ (xc X).maxLocals = M.2.2.1 ∧ (xh X).sig.returnType = M.2.2.2 ∧ (xh X).locks = false ∧ (xs X).vm.findClass M.1.cls = some (xm X).cls ∧ (∀ w ∈ TB, w.before (xv X) (xs X) = true) ∧ va_K (xG X) vwCl (tyL (xT X)) (xs X) ∧ Ext (xa X) (aA (xa X) ids) (xs X) (xs X).heap ∧ d ≤ (xR X).frames ∧ 40 * d ≤ (xR X).locals ∧ xk X ≤ (xR X).cells ∧ xn X ≤ (xR X).slots
def Hx (X : Cxt) (ids : List Id2) (H : Heap) (locs : List Loc) (D : Wd) : Prop :=
  va_P (xG X) vwCl (cw (xa X) (xT X) ids D) H ∧ va_D (aA (xa X) ids) (cw (xa X) (xT X) ids D) ∧ va_S (aA (xa X) ids) (xs X).heap H locs
/-- from this place of the method, with these locals, this stack and this world, the walk comes to its end -/
def Gk (X : Cxt) (M : Mt) (ids : List Id2) (pc : Nat) (L : Lc) (st : List AV) (D : Wd) : Prop :=
  ∀ (H : Heap) (locs : List Loc) (ls : Array Slot), Hx X ids H locs D → Lr (xa X) ls M.2.2.1 L →
    W (xp X) (xl X) (xe X) (xR X) (xs X) (xm X) (xv X) (xb X) (xh X) (xc X) H locs (xk X) (xn X) (xQ X) (F0 (xm X) pc ls (st.map (cv (xa X))))
/-- the end that a contract seeks -/
def Rq (X : Cxt) (ids : List Id2) (post : Option AV → Wd → Prop) : Prop :=
  xk X = 0 ∧ xn X = 0 ∧ xQ X = MQ (xb X) (Qx (xG X) (xT X) (xa X) ids post) (xv X) (xs X) 0 0 (aA (xa X) ids)
section ROWS
variable {X : Cxt} {M : Mt} {ids : List Id2} {d pc : Nat} {L : Lc} {st : List AV} {D : Wd}
theorem Gk.eq {pc' : Nat} {L' : Lc} {st' : List AV} {D' : Wd} (k : Gk X M ids pc' L' st' D') (h1 : pc = pc') (h2 : L = L') (h3 : st = st') (h4 : D = D') : Gk X M ids pc L st D := by subst h1 h2 h3 h4; exact k
theorem g_iconst {n : Int} {v : Int32} (cx : Cx X M ids d) (hd : decode M.2.1 pc = .ok (.iconst n, 1)) (hv : Int32.ofInt n = v) (k : Gk X M ids (pc + 1) L (vi v :: st) D) : Gk X M ids pc L st D :=
  fun H locs ls hH hL => lv_iconst cx.1 cx.2.1 hd hv (k H locs ls hH hL)
theorem g_bipush {n : Int} {v : Int32} (cx : Cx X M ids d) (hd : decode M.2.1 pc = .ok (.bipush n, 2)) (hv : (Int8.ofInt n).toInt32 = v) (k : Gk X M ids (pc + 2) L (vi v :: st) D) : Gk X M ids pc L st D :=
  fun H locs ls hH hL => lv_bipush cx.1 cx.2.1 hd hv (k H locs ls hH hL)
theorem g_sipush {n : Int} {v : Int32} (cx : Cx X M ids d) (hd : decode M.2.1 pc = .ok (.sipush n, 3)) (hv : (Int16.ofInt n).toInt32 = v) (k : Gk X M ids (pc + 3) L (vi v :: st) D) : Gk X M ids pc L st D :=
  fun H locs ls hH hL => lv_sipush cx.1 cx.2.1 hd hv (k H locs ls hH hL)
theorem g_lconst {n : Fin 2} {v : Int64} (cx : Cx X M ids d) (hd : decode M.2.1 pc = .ok (.lconst n, 1)) (hv : Int64.ofNat (n : Nat) = v) (k : Gk X M ids (pc + 1) L (vl v :: st) D) : Gk X M ids pc L st D :=
  fun H locs ls hH hL => lv_lconst cx.1 cx.2.1 hd hv (k H locs ls hH hL)
theorem g_ldc {ix : Nat} {v : Int32} (cx : Cx X M ids d) (hw : Cond.constant M.1.cls ix v ∈ TB) (hd : decode M.2.1 pc = .ok (.ldc ix, 2)) (k : Gk X M ids (pc + 2) L (vi v :: st) D) : Gk X M ids pc L st D :=
  fun H locs ls hH hL => lv_ldc cx.1 cx.2.1 cx.2.2.2.2.2.1 (cx.2.2.2.2.2.2.1 _ hw) hd (k H locs ls hH hL)
theorem g_ldcw {ix : Nat} {v : Int32} (cx : Cx X M ids d) (hw : Cond.constant M.1.cls ix v ∈ TB) (hd : decode M.2.1 pc = .ok (.ldc_w ix, 3)) (k : Gk X M ids (pc + 3) L (vi v :: st) D) : Gk X M ids pc L st D :=
  fun H locs ls hH hL => lv_ldcw cx.1 cx.2.1 cx.2.2.2.2.2.1 (cx.2.2.2.2.2.2.1 _ hw) hd (k H locs ls hH hL)
theorem g_ldc2 {ix : Nat} {v : Int64} (cx : Cx X M ids d) (hw : Cond.constantLong M.1.cls ix v ∈ TB) (hd : decode M.2.1 pc = .ok (.ldc2_w ix, 3)) (k : Gk X M ids (pc + 3) L (vl v :: st) D) : Gk X M ids pc L st D :=
  fun H locs ls hH hL => lv_ldc2 cx.1 cx.2.1 cx.2.2.2.2.2.1 (cx.2.2.2.2.2.2.1 _ hw) hd (k H locs ls hH hL)
theorem g_ldcS {ix i : Nat} {v : Id2} (cx : Cx X M ids d) (hM : M.1.cls = "OneHinge$Text") (hi : i < 10) (hx : sIx.getD i 0 = ix) (hv : (90, i) = v) (hd : decode M.2.1 pc = .ok (.ldc ix, 2)) (k : Gk X M ids (pc + 2) L (vr v :: st) D) : Gk X M ids pc L st D := by
  subst hx hv
  exact fun H locs ls hH hL => va_ldcS cx.1 cx.2.1 (hM ▸ cx.2.2.2.2.2.1) (cx.2.2.2.2.2.2.2.2.1.2.2.2.2.1 i hi) hd (k H locs ls hH hL)
theorem g_iload_n {n : Fin 4} {x : Int32} (cx : Cx X M ids d) (hd : decode M.2.1 pc = .ok (.iload_n n, 1)) (hl : L[(n : Nat)]? = some (some (vi x))) (k : Gk X M ids (pc + 1) L (vi x :: st) D) : Gk X M ids pc L st D :=
  fun H locs ls hH hL => lv_iload_n cx.1 cx.2.1 hd rfl (hL.2.2 _ _ hl) (k H locs ls hH hL)
theorem g_iload {i : Nat} {x : Int32} (cx : Cx X M ids d) (hd : decode M.2.1 pc = .ok (.iload i, 2)) (hl : L[i]? = some (some (vi x))) (k : Gk X M ids (pc + 2) L (vi x :: st) D) : Gk X M ids pc L st D :=
  fun H locs ls hH hL => lv_iload cx.1 cx.2.1 hd (hL.2.2 _ _ hl) (k H locs ls hH hL)
theorem g_lload_n {n : Fin 4} {x : Int64} (cx : Cx X M ids d) (hd : decode M.2.1 pc = .ok (.lload_n n, 1)) (hl : L[(n : Nat)]? = some (some (vl x))) (k : Gk X M ids (pc + 1) L (vl x :: st) D) : Gk X M ids pc L st D :=
  fun H locs ls hH hL => lv_lload_n cx.1 cx.2.1 hd rfl (hL.2.2 _ _ hl) (k H locs ls hH hL)
theorem g_lload {i : Nat} {x : Int64} (cx : Cx X M ids d) (hd : decode M.2.1 pc = .ok (.lload i, 2)) (hl : L[i]? = some (some (vl x))) (k : Gk X M ids (pc + 2) L (vl x :: st) D) : Gk X M ids pc L st D :=
  fun H locs ls hH hL => lv_lload cx.1 cx.2.1 hd (hL.2.2 _ _ hl) (k H locs ls hH hL)
theorem g_aload_n {n : Fin 4} {x : Id2} (cx : Cx X M ids d) (hd : decode M.2.1 pc = .ok (.aload_n n, 1)) (hl : L[(n : Nat)]? = some (some (vr x))) (k : Gk X M ids (pc + 1) L (vr x :: st) D) : Gk X M ids pc L st D :=
  fun H locs ls hH hL => lv_aload_n cx.1 cx.2.1 hd rfl (hL.2.2 _ _ hl) (k H locs ls hH hL)
theorem g_aload {i : Nat} {x : Id2} (cx : Cx X M ids d) (hd : decode M.2.1 pc = .ok (.aload i, 2)) (hl : L[i]? = some (some (vr x))) (k : Gk X M ids (pc + 2) L (vr x :: st) D) : Gk X M ids pc L st D :=
  fun H locs ls hH hL => lv_aload cx.1 cx.2.1 hd (hL.2.2 _ _ hl) (k H locs ls hH hL)
theorem g_istore_n {n : Fin 4} {x : Int32} {L' : Lc} (cx : Cx X M ids d) (hd : decode M.2.1 pc = .ok (.istore_n n, 1)) (hn : (n : Nat) < M.2.2.1) (hb : nlb L (n : Nat) = true) (hl : L.set (n : Nat) (some (vi x)) = L') (k : Gk X M ids (pc + 1) L' st D) : Gk X M ids pc L (vi x :: st) D := by
  subst hl
  exact fun H locs ls hH hL => lv_istore_n cx.1 cx.2.1 hd rfl hL.has hn rfl (fun ls' h => k H locs ls' hH (Lr.set (v := vi x) hb h))
theorem g_istore {i : Nat} {x : Int32} {L' : Lc} (cx : Cx X M ids d) (hd : decode M.2.1 pc = .ok (.istore i, 2)) (hn : i < M.2.2.1) (hb : nlb L i = true) (hl : L.set i (some (vi x)) = L') (k : Gk X M ids (pc + 2) L' st D) : Gk X M ids pc L (vi x :: st) D := by
  subst hl
  exact fun H locs ls hH hL => lv_istore cx.1 cx.2.1 hd hL.has hn rfl (fun ls' h => k H locs ls' hH (Lr.set (v := vi x) hb h))
theorem g_astore_n {n : Fin 4} {x : Id2} {L' : Lc} (cx : Cx X M ids d) (hd : decode M.2.1 pc = .ok (.astore_n n, 1)) (hn : (n : Nat) < M.2.2.1) (hb : nlb L (n : Nat) = true) (hl : L.set (n : Nat) (some (vr x)) = L') (k : Gk X M ids (pc + 1) L' st D) : Gk X M ids pc L (vr x :: st) D := by
  subst hl
  exact fun H locs ls hH hL => lv_astore_n cx.1 cx.2.1 hd rfl hL.has hn rfl (fun ls' h => k H locs ls' hH (Lr.set (v := vr x) hb h))
theorem g_astore {i : Nat} {x : Id2} {L' : Lc} (cx : Cx X M ids d) (hd : decode M.2.1 pc = .ok (.astore i, 2)) (hn : i < M.2.2.1) (hb : nlb L i = true) (hl : L.set i (some (vr x)) = L') (k : Gk X M ids (pc + 2) L' st D) : Gk X M ids pc L (vr x :: st) D := by
  subst hl
  exact fun H locs ls hH hL => lv_astore cx.1 cx.2.1 hd hL.has hn rfl (fun ls' h => k H locs ls' hH (Lr.set (v := vr x) hb h))
theorem g_iinc {i : Nat} {n : Int} {x v : Int32} {L' : Lc} (cx : Cx X M ids d) (hd : decode M.2.1 pc = .ok (.iinc i n, 3)) (hi : L[i]? = some (some (vi x))) (hv : x + Int32.ofInt n = v) (hn : i < M.2.2.1) (hb : nlb L i = true) (hl : L.set i (some (vi v)) = L') (k : Gk X M ids (pc + 3) L' st D) : Gk X M ids pc L st D := by
  subst hl
  intro H locs ls hH hL
  obtain ⟨q, hq⟩ := List.getElem?_of_mem ((lvO_mem (xa X) L 0 (i, cv (xa X) (vi x))).mpr ⟨i, vi x, hi, by simp⟩)
  exact lv_iinc cx.1 cx.2.1 hd hL.has (k := q) hq hv hn rfl (fun ls' h => k H locs ls' hH (Lr.set (v := vi v) hb h))
theorem g_iadd {x y : Int32} (cx : Cx X M ids d) (hd : decode M.2.1 pc = .ok (.iadd, 1)) (k : Gk X M ids (pc + 1) L (vi (x + y) :: st) D) : Gk X M ids pc L (vi y :: vi x :: st) D :=
  fun H locs ls hH hL => lv_iadd cx.1 cx.2.1 hd (k H locs ls hH hL)
theorem g_isub {x y : Int32} (cx : Cx X M ids d) (hd : decode M.2.1 pc = .ok (.isub, 1)) (k : Gk X M ids (pc + 1) L (vi (x - y) :: st) D) : Gk X M ids pc L (vi y :: vi x :: st) D :=
  fun H locs ls hH hL => lv_isub cx.1 cx.2.1 hd (k H locs ls hH hL)
theorem g_imul {x y : Int32} (cx : Cx X M ids d) (hd : decode M.2.1 pc = .ok (.imul, 1)) (k : Gk X M ids (pc + 1) L (vi (x * y) :: st) D) : Gk X M ids pc L (vi y :: vi x :: st) D :=
  fun H locs ls hH hL => lv_imul cx.1 cx.2.1 hd (k H locs ls hH hL)
theorem g_iand {x y : Int32} (cx : Cx X M ids d) (hd : decode M.2.1 pc = .ok (.iand, 1)) (k : Gk X M ids (pc + 1) L (vi (x &&& y) :: st) D) : Gk X M ids pc L (vi y :: vi x :: st) D :=
  fun H locs ls hH hL => lv_iand cx.1 cx.2.1 hd (k H locs ls hH hL)
theorem g_ior {x y : Int32} (cx : Cx X M ids d) (hd : decode M.2.1 pc = .ok (.ior, 1)) (k : Gk X M ids (pc + 1) L (vi (x ||| y) :: st) D) : Gk X M ids pc L (vi y :: vi x :: st) D :=
  fun H locs ls hH hL => lv_ior cx.1 cx.2.1 hd (k H locs ls hH hL)
theorem g_ixor {x y : Int32} (cx : Cx X M ids d) (hd : decode M.2.1 pc = .ok (.ixor, 1)) (k : Gk X M ids (pc + 1) L (vi (x ^^^ y) :: st) D) : Gk X M ids pc L (vi y :: vi x :: st) D :=
  fun H locs ls hH hL => lv_ixor cx.1 cx.2.1 hd (k H locs ls hH hL)
theorem g_ishl {x y : Int32} (cx : Cx X M ids d) (hd : decode M.2.1 pc = .ok (.ishl, 1)) (k : Gk X M ids (pc + 1) L (vi (x <<< (y &&& 31)) :: st) D) : Gk X M ids pc L (vi y :: vi x :: st) D :=
  fun H locs ls hH hL => lv_ishl cx.1 cx.2.1 hd (k H locs ls hH hL)
theorem g_ishr {x y : Int32} (cx : Cx X M ids d) (hd : decode M.2.1 pc = .ok (.ishr, 1)) (k : Gk X M ids (pc + 1) L (vi (x >>> (y &&& 31)) :: st) D) : Gk X M ids pc L (vi y :: vi x :: st) D :=
  fun H locs ls hH hL => lv_ishr cx.1 cx.2.1 hd (k H locs ls hH hL)
theorem g_idiv {x y : Int32} (cx : Cx X M ids d) (hd : decode M.2.1 pc = .ok (.idiv, 1)) (hne : ¬ y = 0) (k : Gk X M ids (pc + 1) L (vi (x / y) :: st) D) : Gk X M ids pc L (vi y :: vi x :: st) D :=
  fun H locs ls hH hL => lv_idiv cx.1 cx.2.1 hd hne (k H locs ls hH hL)
theorem g_irem {x y : Int32} (cx : Cx X M ids d) (hd : decode M.2.1 pc = .ok (.irem, 1)) (hne : ¬ y = 0) (k : Gk X M ids (pc + 1) L (vi (x - x / y * y) :: st) D) : Gk X M ids pc L (vi y :: vi x :: st) D :=
  fun H locs ls hH hL => lv_irem cx.1 cx.2.1 hd hne (k H locs ls hH hL)
theorem g_iushr {x y : Int32} (cx : Cx X M ids d) (hd : decode M.2.1 pc = .ok (.iushr, 1)) (k : Gk X M ids (pc + 1) L (vi ((x.toUInt32 >>> (y.toUInt32 &&& Int32.toUInt32 31)).toInt32) :: st) D) : Gk X M ids pc L (vi y :: vi x :: st) D :=
  fun H locs ls hH hL => lv_iushr cx.1 cx.2.1 hd rfl (k H locs ls hH hL)
theorem g_i2b {x : Int32} (cx : Cx X M ids d) (hd : decode M.2.1 pc = .ok (.i2b, 1)) (k : Gk X M ids (pc + 1) L (vi (x.toInt8.toInt32) :: st) D) : Gk X M ids pc L (vi x :: st) D :=
  fun H locs ls hH hL => lv_i2b cx.1 cx.2.1 hd rfl (k H locs ls hH hL)
theorem g_i2c {x : Int32} (cx : Cx X M ids d) (hd : decode M.2.1 pc = .ok (.i2c, 1)) (k : Gk X M ids (pc + 1) L (vi ((x.toUInt32 % 65536).toInt32) :: st) D) : Gk X M ids pc L (vi x :: st) D :=
  fun H locs ls hH hL => lv_i2c cx.1 cx.2.1 hd rfl (k H locs ls hH hL)
theorem g_i2l {x : Int32} (cx : Cx X M ids d) (hd : decode M.2.1 pc = .ok (.i2l, 1)) (k : Gk X M ids (pc + 1) L (vl (x.toInt64) :: st) D) : Gk X M ids pc L (vi x :: st) D :=
  fun H locs ls hH hL => lv_i2l cx.1 cx.2.1 hd rfl (k H locs ls hH hL)
theorem g_l2i {x : Int64} (cx : Cx X M ids d) (hd : decode M.2.1 pc = .ok (.l2i, 1)) (k : Gk X M ids (pc + 1) L (vi x.toInt32 :: st) D) : Gk X M ids pc L (vl x :: st) D :=
  fun H locs ls hH hL => lv_l2i cx.1 cx.2.1 hd rfl (k H locs ls hH hL)
theorem g_land {x y : Int64} (cx : Cx X M ids d) (hd : decode M.2.1 pc = .ok (.land, 1)) (k : Gk X M ids (pc + 1) L (vl (x &&& y) :: st) D) : Gk X M ids pc L (vl y :: vl x :: st) D :=
  fun H locs ls hH hL => lv_land cx.1 cx.2.1 hd (k H locs ls hH hL)
theorem g_lshr {x : Int64} {y : Int32} (cx : Cx X M ids d) (hd : decode M.2.1 pc = .ok (.lshr, 1)) (k : Gk X M ids (pc + 1) L (vl (x >>> (y.toInt64 &&& 63)) :: st) D) : Gk X M ids pc L (vi y :: vl x :: st) D :=
  fun H locs ls hH hL => lv_lshr cx.1 cx.2.1 hd rfl (k H locs ls hH hL)
theorem g_lcmp {x y : Int64} (cx : Cx X M ids d) (hd : decode M.2.1 pc = .ok (.lcmp, 1)) (k : Gk X M ids (pc + 1) L (vi (lg_cmp x y) :: st) D) : Gk X M ids pc L (vl y :: vl x :: st) D :=
  fun H locs ls hH hL => W.lcmp cx.1 cx.2.1 hd (k H locs ls hH hL)
theorem g_dup {a : AV} (cx : Cx X M ids d) (hd : decode M.2.1 pc = .ok (.dup, 1)) (ha : isL a = false) (k : Gk X M ids (pc + 1) L (a :: a :: st) D) : Gk X M ids pc L (a :: st) D :=
  fun H locs ls hH hL => lv_dup cx.1 cx.2.1 hd (by rw [cv_cat, ha]; rfl) (k H locs ls hH hL)
theorem g_pop {a : AV} (cx : Cx X M ids d) (hd : decode M.2.1 pc = .ok (.pop, 1)) (ha : isL a = false) (k : Gk X M ids (pc + 1) L st D) : Gk X M ids pc L (a :: st) D :=
  fun H locs ls hH hL => lv_pop cx.1 cx.2.1 hd (by rw [cv_cat, ha]; rfl) (k H locs ls hH hL)
theorem g_dup2 {a b : AV} (cx : Cx X M ids d) (hd : decode M.2.1 pc = .ok (.dup2, 1)) (ha : isL a = false) (hb : isL b = false) (k : Gk X M ids (pc + 1) L (a :: b :: a :: b :: st) D) : Gk X M ids pc L (a :: b :: st) D :=
  fun H locs ls hH hL => lv_dup2_11 cx.1 cx.2.1 hd (by rw [cv_cat, ha]; rfl) (by rw [cv_cat, hb]; rfl) (k H locs ls hH hL)
theorem g_if_eq {x : Int32} {off : Int} {tgt : Nat} (cx : Cx X M ids d) (hd : decode M.2.1 pc = .ok (.ifCond .eq off, 3)) (ht : (pc : Int) + off = (tgt : Int)) (kt : x = 0 → Gk X M ids tgt L st D) (kf : ¬ x = 0 → Gk X M ids (pc + 3) L st D) : Gk X M ids pc L (vi x :: st) D :=
  fun H locs ls hH hL => lv_if_eq cx.1 cx.2.1 hd ht (fun q => kt q H locs ls hH hL) (fun q => kf q H locs ls hH hL)
theorem g_icmp_eq {x y : Int32} {off : Int} {tgt : Nat} (cx : Cx X M ids d) (hd : decode M.2.1 pc = .ok (.if_icmp .eq off, 3)) (ht : (pc : Int) + off = (tgt : Int)) (kt : x = y → Gk X M ids tgt L st D) (kf : ¬ x = y → Gk X M ids (pc + 3) L st D) : Gk X M ids pc L (vi y :: vi x :: st) D :=
  fun H locs ls hH hL => lv_icmp_eq cx.1 cx.2.1 hd ht (fun q => kt q H locs ls hH hL) (fun q => kf q H locs ls hH hL)
theorem g_if_ne {x : Int32} {off : Int} {tgt : Nat} (cx : Cx X M ids d) (hd : decode M.2.1 pc = .ok (.ifCond .ne off, 3)) (ht : (pc : Int) + off = (tgt : Int)) (kt : ¬ x = 0 → Gk X M ids tgt L st D) (kf : x = 0 → Gk X M ids (pc + 3) L st D) : Gk X M ids pc L (vi x :: st) D :=
  fun H locs ls hH hL => lv_if_ne cx.1 cx.2.1 hd ht (fun q => kt q H locs ls hH hL) (fun q => kf q H locs ls hH hL)
theorem g_icmp_ne {x y : Int32} {off : Int} {tgt : Nat} (cx : Cx X M ids d) (hd : decode M.2.1 pc = .ok (.if_icmp .ne off, 3)) (ht : (pc : Int) + off = (tgt : Int)) (kt : ¬ x = y → Gk X M ids tgt L st D) (kf : x = y → Gk X M ids (pc + 3) L st D) : Gk X M ids pc L (vi y :: vi x :: st) D :=
  fun H locs ls hH hL => lv_icmp_ne cx.1 cx.2.1 hd ht (fun q => kt q H locs ls hH hL) (fun q => kf q H locs ls hH hL)
theorem g_if_lt {x : Int32} {off : Int} {tgt : Nat} (cx : Cx X M ids d) (hd : decode M.2.1 pc = .ok (.ifCond .lt off, 3)) (ht : (pc : Int) + off = (tgt : Int)) (kt : x < 0 → Gk X M ids tgt L st D) (kf : ¬ x < 0 → Gk X M ids (pc + 3) L st D) : Gk X M ids pc L (vi x :: st) D :=
  fun H locs ls hH hL => lv_if_lt cx.1 cx.2.1 hd ht (fun q => kt q H locs ls hH hL) (fun q => kf q H locs ls hH hL)
theorem g_icmp_lt {x y : Int32} {off : Int} {tgt : Nat} (cx : Cx X M ids d) (hd : decode M.2.1 pc = .ok (.if_icmp .lt off, 3)) (ht : (pc : Int) + off = (tgt : Int)) (kt : x < y → Gk X M ids tgt L st D) (kf : ¬ x < y → Gk X M ids (pc + 3) L st D) : Gk X M ids pc L (vi y :: vi x :: st) D :=
  fun H locs ls hH hL => lv_icmp_lt cx.1 cx.2.1 hd ht (fun q => kt q H locs ls hH hL) (fun q => kf q H locs ls hH hL)
theorem g_if_ge {x : Int32} {off : Int} {tgt : Nat} (cx : Cx X M ids d) (hd : decode M.2.1 pc = .ok (.ifCond .ge off, 3)) (ht : (pc : Int) + off = (tgt : Int)) (kt : 0 ≤ x → Gk X M ids tgt L st D) (kf : ¬ 0 ≤ x → Gk X M ids (pc + 3) L st D) : Gk X M ids pc L (vi x :: st) D :=
  fun H locs ls hH hL => lv_if_ge cx.1 cx.2.1 hd ht (fun q => kt q H locs ls hH hL) (fun q => kf q H locs ls hH hL)
theorem g_icmp_ge {x y : Int32} {off : Int} {tgt : Nat} (cx : Cx X M ids d) (hd : decode M.2.1 pc = .ok (.if_icmp .ge off, 3)) (ht : (pc : Int) + off = (tgt : Int)) (kt : y ≤ x → Gk X M ids tgt L st D) (kf : ¬ y ≤ x → Gk X M ids (pc + 3) L st D) : Gk X M ids pc L (vi y :: vi x :: st) D :=
  fun H locs ls hH hL => lv_icmp_ge cx.1 cx.2.1 hd ht (fun q => kt q H locs ls hH hL) (fun q => kf q H locs ls hH hL)
theorem g_if_gt {x : Int32} {off : Int} {tgt : Nat} (cx : Cx X M ids d) (hd : decode M.2.1 pc = .ok (.ifCond .gt off, 3)) (ht : (pc : Int) + off = (tgt : Int)) (kt : 0 < x → Gk X M ids tgt L st D) (kf : ¬ 0 < x → Gk X M ids (pc + 3) L st D) : Gk X M ids pc L (vi x :: st) D :=
  fun H locs ls hH hL => lv_if_gt cx.1 cx.2.1 hd ht (fun q => kt q H locs ls hH hL) (fun q => kf q H locs ls hH hL)
theorem g_icmp_gt {x y : Int32} {off : Int} {tgt : Nat} (cx : Cx X M ids d) (hd : decode M.2.1 pc = .ok (.if_icmp .gt off, 3)) (ht : (pc : Int) + off = (tgt : Int)) (kt : y < x → Gk X M ids tgt L st D) (kf : ¬ y < x → Gk X M ids (pc + 3) L st D) : Gk X M ids pc L (vi y :: vi x :: st) D :=
  fun H locs ls hH hL => lv_icmp_gt cx.1 cx.2.1 hd ht (fun q => kt q H locs ls hH hL) (fun q => kf q H locs ls hH hL)
theorem g_if_le {x : Int32} {off : Int} {tgt : Nat} (cx : Cx X M ids d) (hd : decode M.2.1 pc = .ok (.ifCond .le off, 3)) (ht : (pc : Int) + off = (tgt : Int)) (kt : x ≤ 0 → Gk X M ids tgt L st D) (kf : ¬ x ≤ 0 → Gk X M ids (pc + 3) L st D) : Gk X M ids pc L (vi x :: st) D :=
  fun H locs ls hH hL => lv_if_le cx.1 cx.2.1 hd ht (fun q => kt q H locs ls hH hL) (fun q => kf q H locs ls hH hL)
theorem g_icmp_le {x y : Int32} {off : Int} {tgt : Nat} (cx : Cx X M ids d) (hd : decode M.2.1 pc = .ok (.if_icmp .le off, 3)) (ht : (pc : Int) + off = (tgt : Int)) (kt : x ≤ y → Gk X M ids tgt L st D) (kf : ¬ x ≤ y → Gk X M ids (pc + 3) L st D) : Gk X M ids pc L (vi y :: vi x :: st) D :=
  fun H locs ls hH hL => lv_icmp_le cx.1 cx.2.1 hd ht (fun q => kt q H locs ls hH hL) (fun q => kf q H locs ls hH hL)
theorem g_goto {off : Int} {tgt : Nat} (cx : Cx X M ids d) (hd : decode M.2.1 pc = .ok (.goto off, 3)) (ht : (pc : Int) + off = (tgt : Int)) (k : Gk X M ids tgt L st D) : Gk X M ids pc L st D :=
  fun H locs ls hH hL => lv_goto cx.1 cx.2.1 hd ht (k H locs ls hH hL)
theorem g_tabOut {dflt lo hi : Int} {offs : Array Int} {len tgt : Nat} {x : Int32} (cx : Cx X M ids d) (hd : decode M.2.1 pc = .ok (.tableswitch dflt lo hi offs, len)) (h : x.toInt < lo ∨ hi < x.toInt) (ht : (pc : Int) + dflt = (tgt : Int)) (k : Gk X M ids tgt L st D) : Gk X M ids pc L (vi x :: st) D :=
  fun H locs ls hH hL => lv_tableOut cx.1 cx.2.1 hd h ht (k H locs ls hH hL)
theorem g_tabIn {dflt lo hi off : Int} {offs : Array Int} {len tgt : Nat} {x : Int32} (cx : Cx X M ids d) (hd : decode M.2.1 pc = .ok (.tableswitch dflt lo hi offs, len)) (h1 : ¬ x.toInt < lo) (h2 : ¬ hi < x.toInt) (ho : offs[(x.toInt - lo).toNat]? = some off) (ht : (pc : Int) + off = (tgt : Int)) (k : Gk X M ids tgt L st D) : Gk X M ids pc L (vi x :: st) D :=
  fun H locs ls hH hL => lv_tableIn cx.1 cx.2.1 hd h1 h2 ho ht (k H locs ls hH hL)
end ROWS
