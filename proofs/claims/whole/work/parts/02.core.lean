/-! THE CORE: a small machine over one flat world. A reference is a pair (kind, which); the world D gives each cell's ints; what a cell is (its class, which fields are references and to what) never changes once all is made, and is told by 'sh'. -/
abbrev Id2 : Type := Nat × Nat
abbrev AV : Type := Int32 ⊕ (Int64 ⊕ ((Nat × Nat) ⊕ Unit))
abbrev Wd : Type := Nat × Nat → Nat → Int32
/-- a method: its name, its code, its locals, what it returns -/
abbrev Mt : Type := MethodName × ByteArray × Nat × Option FieldType
abbrev vi (x : Int32) : AV := Sum.inl x
abbrev vl (x : Int64) : AV := Sum.inr (Sum.inl x)
abbrev vr (i : Id2) : AV := Sum.inr (Sum.inr (Sum.inl i))
abbrev vN : AV := Sum.inr (Sum.inr (Sum.inr ()))
def cv (ad : Id2 → Nat) (v : AV) : Value := match v with
  | .inl x => .int x
  | .inr (.inl x) => .long x
  | .inr (.inr (.inl i)) => .ref (ad i)
  | .inr (.inr (.inr _)) => .null
def isL (v : AV) : Bool := match v with
  | .inr (.inl _) => true
  | _ => false
theorem cv_cat (ad : Id2 → Nat) (v : AV) : (cv ad v).category = if isL v then 2 else 1 := by
  rcases v with x | x | x | x <;> rfl
def upA (D : Wd) (i : Id2) (f : Nat → Int32) : Wd := fun j => if j = i then f else D j
theorem upA_s (D : Wd) (i : Id2) (f : Nat → Int32) : upA D i f i = f := by simp [upA]
theorem upA_n (D : Wd) {i j : Id2} (f : Nat → Int32) (h : j ≠ i) : upA D i f j = D j := by simp [upA, h]
/-- an object: its class's number, its fields (none: an int; some j: the cell j); an array: its type's number, its length, what it refers to (none: ints) -/
abbrev Sh : Type := (Nat × List (Option Id2)) ⊕ (Nat × Nat × Option (Nat → Id2))
def sh (i : Id2) : Sh := match i.1 with
  | 0 => .inl (5, [some (1, 0), some (7, 0), some (9, 0), some (9, 1), some (12, 0), some (13, 0), some (14, 0), some (18, 0)])
  | 1 => .inl (1, [none, some (2, i.2), some (3, i.2), some (4, i.2), none, some (5, i.2), none, some (6, i.2)])
  | 2 => .inr (0, 8, none)
  | 3 => .inr (0, 8, none)
  | 4 => .inr (0, 8, none)
  | 5 => .inr (0, 3, none)
  | 6 => .inr (0, 5, none)
  | 7 => .inl (4, [some (8, 0), none, some (1, 1), none, none, none, none])
  | 8 => .inr (1, 200, none)
  | 9 => .inl (0, [some (1, 0), some (10, i.2), some (11, i.2), none])
  | 10 => .inr (0, 8, none)
  | 11 => .inr (0, 5, none)
  | 12 => .inr (3, 2, some (fun q => (9, q + 2)))
  | 13 => .inr (2, 2, none)
  | 14 => .inl (2, [some (1, 0), some (15, 0), some (9, 4), some (16, 0), some (17, 0), none, none])
  | 15 => .inr (3, 6, some (fun q => (9, q + 5)))
  | 16 => .inr (0, 5, none)
  | 17 => .inr (0, 5, none)
  | 18 => .inl (3, [some (19, 0), some (20, 0), none])
  | 19 => .inr (0, 8, none)
  | 20 => .inr (0, 8, none)
  | 30 => .inl (6, [some (31, 0), some (32, 0), some (33, 0), none, some (34, 0), none, none, some (35, 0), some (36, 0), some (37, 0), none, none, none, none, none, none, some (38, 0), some (39, 0), some (40, 0), none, none, some (41, 0), none, some (42, 0), some (43, 0), none])
  | 31 => .inr (0, 70, none)
  | 32 => .inr (2, 2, none)
  | 33 => .inr (0, 200, none)
  | 34 => .inr (0, 36, none)
  | 35 => .inr (0, 8, none)
  | 36 => .inr (0, 8, none)
  | 37 => .inr (0, 3, none)
  | 38 => .inr (0, 8, none)
  | 39 => .inr (0, 8, none)
  | 40 => .inr (0, 3, none)
  | 41 => .inr (0, 5, none)
  | 42 => .inr (0, 8, none)
  | 43 => .inr (0, 16, none)
  | _ => .inr (0, 0, none)
abbrev idsX : List Id2 := [(0, 0), (1, 0), (2, 0), (3, 0), (4, 0), (5, 0), (6, 0), (7, 0), (8, 0), (1, 1), (2, 1), (3, 1), (4, 1), (5, 1), (6, 1), (9, 0), (10, 0), (11, 0), (9, 1), (10, 1), (11, 1), (12, 0), (13, 0), (14, 0), (15, 0), (16, 0), (17, 0), (9, 4), (10, 4), (11, 4), (9, 5), (10, 5), (11, 5), (9, 6), (10, 6), (11, 6), (9, 7), (10, 7), (11, 7), (9, 8), (10, 8), (11, 8), (9, 9), (10, 9), (11, 9), (9, 10), (10, 10), (11, 10), (18, 0), (19, 0), (20, 0), (9, 2), (10, 2), (11, 2), (9, 3), (10, 3), (11, 3)]
abbrev idsM : List Id2 := [(30, 0), (31, 0), (32, 0), (33, 0), (34, 0), (35, 0), (36, 0), (37, 0), (38, 0), (39, 0), (40, 0), (41, 0), (42, 0), (43, 0)]
def fv (ad : Id2 → Nat) (w : Nat → Int32) (k : Nat) (f : Option Id2) : Value := match f with
  | none => .int (w k)
  | some j => .ref (ad j)
def ce (ad : Id2 → Nat) (dT : Nat → ClassId) (w : Nat → Int32) (i : Id2) : va_E := match sh i with
  | .inl (ci, fs) => .inr (ci, fs.mapIdx (fv ad w))
  | .inr (t, n, none) => .inl (dT t, n, .inl w)
  | .inr (t, n, some g) => .inl (dT t, n, .inr (.inr (.inr (.inr (fun q => some (ad (g q)))))))
def cw (ad : Id2 → Nat) (dT : Nat → ClassId) (ids : List Id2) (D : Wd) : va_W := ids.map (fun i => (ad i, ce ad dT (D i) i))
def aA (ad : Id2 → Nat) (ids : List Id2) : Nat → Prop := fun q => ∃ i ∈ ids, ad i = q
abbrev tyL (dT : Nat → ClassId) : List (ClassId × FieldType) := [(dT 0, .int), (dT 1, .byte), (dT 2, .boolean), (dT 3, .object "OneHinge$House")]
theorem cw_at {ad : Id2 → Nat} {dT : Nat → ClassId} {ids : List Id2} {D : Wd} {q : Nat} {i : Id2} (h : ids[q]? = some i) : (cw ad dT ids D)[q]? = some (ad i, ce ad dT (D i) i) := by
  simp [cw, h]
theorem cw_in {ids : List Id2} {i : Id2} (h : i ∈ ids) : ∃ q : Nat, ids[q]? = some i := List.getElem?_of_mem h
theorem cw_one {ad : Id2 → Nat} {dT : Nat → ClassId} {ids : List Id2} {D : Wd} {A : Nat → Prop} (hD : va_D A (cw ad dT ids D)) {q r : Nat} {i : Id2} (hq : ids[q]? = some i) (hr : ids[r]? = some i) : r = q :=
  hD.1 r q _ _ (cw_at hr) (cw_at hq) rfl
theorem cw_set {ad : Id2 → Nat} {dT : Nat → ClassId} {ids : List Id2} {D : Wd} {A : Nat → Prop} (hD : va_D A (cw ad dT ids D)) {q : Nat} {i : Id2} (hq : ids[q]? = some i) (f : Nat → Int32) : (cw ad dT ids D).set q (ad i, ce ad dT f i) = cw ad dT ids (upA D i f) := by
  apply List.ext_getElem?
  intro r
  by_cases h : q = r
  · subst h
    have hl : q < (cw ad dT ids D).length := (List.getElem?_eq_some_iff.mp (cw_at (ad := ad) (dT := dT) (D := D) hq)).1
    rw [List.getElem?_set_self hl, cw_at hq, upA_s]
  · rw [List.getElem?_set_ne h]
    cases hr : ids[r]? with
    | none => simp [cw, hr]
    | some j =>
      have hj : j ≠ i := fun e => h (cw_one hD (e ▸ hr) hq)
      rw [cw_at hr, cw_at hr, upA_n D f hj]
theorem cf_set {ad : Id2 → Nat} {w : Nat → Int32} {fs : List (Option Id2)} {k : Nat} (x : Int32) (h : fs[k]? = some none) : (fs.mapIdx (fv ad w)).set k (.int x) = fs.mapIdx (fv ad (upd w k x)) := by
  apply List.ext_getElem?
  intro r
  have hl : k < (fs.mapIdx (fv ad w)).length := by
    rw [List.length_mapIdx]; exact (List.getElem?_eq_some_iff.mp h).1
  by_cases e : k = r
  · subst e
    rw [List.getElem?_set_self hl, List.getElem?_mapIdx, h]
    simp [fv, upd]
  · rw [List.getElem?_set_ne e, List.getElem?_mapIdx, List.getElem?_mapIdx]
    cases hr : fs[r]? with
    | none => rfl
    | some f =>
      cases f with
      | none => simp [fv, upd, Ne.symm e]
      | some j => rfl
theorem cw_D {ad : Id2 → Nat} {dT : Nat → ClassId} {ids : List Id2} {D D2 : Wd} {A : Nat → Prop} (h : va_D A (cw ad dT ids D)) : va_D A (cw ad dT ids D2) := by
  have key : ∀ (k : Nat) (q : Nat × va_E), (cw ad dT ids D2)[k]? = some q → ∃ q0, (cw ad dT ids D)[k]? = some q0 ∧ q0.1 = q.1 := by
    intro k q hk
    cases hr : ids[k]? with
    | none => simp [cw, hr] at hk
    | some j =>
      rw [cw_at hr] at hk
      cases hk
      exact ⟨_, cw_at hr, rfl⟩
  refine ⟨fun i j x y hi hj hxy => ?_, fun k q hk => ?_⟩
  · obtain ⟨x0, h1, h2⟩ := key i x hi
    obtain ⟨y0, h3, h4⟩ := key j y hj
    exact h.1 i j x0 y0 h1 h3 (h2.trans (hxy.trans h4.symm))
  · obtain ⟨q0, h1, h2⟩ := key k q hk
    rw [← h2]
    exact h.2 k q0 h1
/-! what lies outside the world, and is only read: the table of kinds, the ten words -/
def tkF (j : Nat) : Int32 := match j with
  | 0 => 3
  | 1 => 7
  | 2 => 9
  | _ => 25
abbrev sIx : List Nat := [140, 142, 144, 146, 148, 150, 152, 154, 155, 157]
abbrev sTx : List String := ["house", "leaf", "plain", "sprung", "heavy", "fixed", "put", "door", "person", "empty"]
abbrev sLn : List Nat := [5, 4, 5, 6, 5, 5, 3, 4, 6, 5]
abbrev sBy : List (List Int32) := [[104, 111, 117, 115, 101], [108, 101, 97, 102], [112, 108, 97, 105, 110], [115, 112, 114, 117, 110, 103], [104, 101, 97, 118, 121], [102, 105, 120, 101, 100], [112, 117, 116], [100, 111, 111, 114], [112, 101, 114, 115, 111, 110], [101, 109, 112, 116, 121]]
/-- links to private members of nest mates (they stay, but by another law than the tables' other words) -/
abbrev nwM : List (String × Nat × MethodName × String) := [(RX1, 53, yX5_between, RX5), (RX0, 42, yX5_between, RX5), (RX5, 161, yX2_visit, RX5), (RX3, 26, yX5_between, RX5)]
abbrev nwF : List (String × Nat × String × String × String × String) := [(RX1, 50, RX5, "TAKEN_AS", "[I", RX5)]
def Nst (U : State) : Prop := (∀ q ∈ nwM, va_Nw (.methodLinkNest q.1 q.2.1 q.2.2.1 q.2.2.2) U) ∧ ∀ q ∈ nwF, va_Nw (.fieldLinkNest q.1 q.2.1 q.2.2.1 q.2.2.2.1 q.2.2.2.2.1 q.2.2.2.2.2) U
theorem Nst.warm {s U : State} (hW : s.WarmedH U.vm) (h : Nst s) : Nst U := ⟨fun q hq => (h.1 q hq).warmM hW, fun q hq => (h.2 q hq).warmF hW⟩
theorem Nst.same {s U : State} (hv : s.vm = U.vm) (h : Nst s) : Nst U := ⟨fun q hq => (h.1 q hq).same rfl hv, fun q hq => (h.2 q hq).same rfl hv⟩
def Ext (ad : Id2 → Nat) (A : Nat → Prop) (U : State) (H : Heap) : Prop :=
  va_Z "OneHinge" "TAKEN_AS" "[I" (.ref (ad (91, 0))) A U H ∧ va_T .int (ad (91, 0)) 4 (fun j => .int (tkF j)) A U H ∧ va_Z "java/lang/String" "COMPACT_STRINGS" "Z" (.int 1) A U H ∧
  vk_S 10 sLn sBy (fun i => ad (90, i)) (fun i => ad (92, i)) A U H ∧ (∀ i : Nat, i < 10 → vk_R "OneHinge$Text" (sIx.getD i 0) (sTx.getD i "") (ad (90, i)) U) ∧ Nst U ∧ (va_Z "jdk/internal/util/Preconditions" "SIOOBE_FORMATTER" "Ljava/util/function/BiFunction;" .null A U H ∨ va_Z "jdk/internal/util/Preconditions" "SIOOBE_FORMATTER" "Ljava/util/function/BiFunction;" (.ref (ad (93, 0))) A U H)
theorem Ext.warm {ad : Id2 → Nat} {A : Nat → Prop} {s U : State} {H : Heap} (hW : s.WarmedH U.vm) (hq : ∀ a : Nat, a < s.heap.size → ¬ A a → H[a]? = s.heap[a]?) (h : Ext ad A s s.heap) : Ext ad A U H :=
  ⟨(h.1.kept hq).moved hW.alike, (h.2.1.kept hq).moved hW.alike, (h.2.2.1.kept hq).moved hW.alike, (h.2.2.2.1.kept hq).moved hW.alike, fun i hi => (h.2.2.2.2.1 i hi).warm hW, h.2.2.2.2.2.1.warm hW, h.2.2.2.2.2.2.imp (fun z => (z.kept hq).moved hW.alike) (fun z => (z.kept hq).moved hW.alike)⟩
theorem Ext.calling {ad : Id2 → Nat} {A : Nat → Prop} {U : State} {g : JFrame} {mk : MethodId} {a : Array Value} (h : Ext ad A U U.heap) : Ext ad A (U.calling g mk a) (U.calling g mk a).heap :=
  ⟨h.1.moved (u := U) (Vm.Alike.refl U.vm), h.2.1.moved (u := U) (Vm.Alike.refl U.vm), h.2.2.1.moved (u := U) (Vm.Alike.refl U.vm), h.2.2.2.1.moved (u := U) (Vm.Alike.refl U.vm), fun i hi => (h.2.2.2.2.1 i hi).same (u := U) rfl, h.2.2.2.2.2.1.same rfl, h.2.2.2.2.2.2.imp (fun z => z.moved (u := U) (Vm.Alike.refl U.vm)) (fun z => z.moved (u := U) (Vm.Alike.refl U.vm))⟩
/-! locals, by their places -/
abbrev Lc : Type := List (Option AV)
def lvO (ad : Id2 → Nat) : Nat → Lc → List (Nat × Value)
  | _, [] => []
  | k, none :: r => lvO ad (k + 1) r
  | k, some v :: r => (k, cv ad v) :: lvO ad (k + 1) r
theorem lvO_mem (ad : Id2 → Nat) : ∀ (L : Lc) (k : Nat) (q : Nat × Value), q ∈ lvO ad k L ↔ ∃ (j : Nat) (v : AV), L[j]? = some (some v) ∧ q = (k + j, cv ad v)
  | [], k, q => by simp [lvO]
  | none :: r, k, q => by
    rw [lvO, lvO_mem ad r (k + 1) q]
    constructor
    · rintro ⟨j, v, h1, h2⟩
      exact ⟨j + 1, v, by simpa using h1, by rw [h2]; congr 1; omega⟩
    · rintro ⟨j, v, h1, h2⟩
      cases j with
      | zero => simp at h1
      | succ j => exact ⟨j, v, by simpa using h1, by rw [h2]; congr 1; omega⟩
  | some v :: r, k, q => by
    rw [lvO, List.mem_cons, lvO_mem ad r (k + 1) q]
    constructor
    · rintro (h | ⟨j, v', h1, h2⟩)
      · exact ⟨0, v, rfl, by rw [h]; rfl⟩
      · exact ⟨j + 1, v', by simpa using h1, by rw [h2]; congr 1; omega⟩
    · rintro ⟨j, v', h1, h2⟩
      cases j with
      | zero =>
        have e : v = v' := by simpa using h1
        subst e
        exact Or.inl h2
      | succ j => exact Or.inr ⟨j, v', by simpa using h1, by rw [h2]; congr 1; omega⟩
def Lr (ad : Id2 → Nat) (ls : Array Slot) (nL : Nat) (L : Lc) : Prop := ls.size = nL ∧ lv_wf ls ∧ ∀ (i : Nat) (v : AV), L[i]? = some (some v) → ls[i]? = some (.val (cv ad v))
theorem Lr.has {ad : Id2 → Nat} {ls : Array Slot} {nL : Nat} {L : Lc} (h : Lr ad ls nL L) : lv_has ls nL (lvO ad 0 L) := by
  refine ⟨h.1, h.2.1, fun q hq => ?_⟩
  obtain ⟨j, v, h1, rfl⟩ := (lvO_mem ad L 0 q).mp hq
  simpa using h.2.2 j v h1
theorem Lr.of {ad : Id2 → Nat} {ls : Array Slot} {nL : Nat} {L : Lc} (h : lv_has ls nL (lvO ad 0 L)) : Lr ad ls nL L :=
  ⟨h.1, h.2.1, fun i v hv => h.2.2 (i, cv ad v) ((lvO_mem ad L 0 _).mpr ⟨i, v, hv, by simp⟩)⟩
/-- no long stands just ahead of the place -/
def nlb (L : Lc) (i : Nat) : Bool := match i with
  | 0 => true
  | k + 1 => match L[k]? with
    | some (some v) => !isL v
    | _ => true
theorem Lr.set {ad : Id2 → Nat} {ls' : Array Slot} {nL i : Nat} {L : Lc} {v : AV} (hn : nlb L i = true) (h : lv_has ls' nL ((i, cv ad v) :: (lvO ad 0 L).filter (fun q => !(q.1 == i) && !(q.1 + 1 == i && q.2.category == 2)))) : Lr ad ls' nL (L.set i (some v)) := by
  refine ⟨h.1, h.2.1, fun j u hj => ?_⟩
  by_cases e : i = j
  · subst e
    have hu : u = v := by
      by_cases hl : i < L.length
      · rw [List.getElem?_set_self hl] at hj
        exact (Option.some.inj (Option.some.inj hj)).symm
      · rw [List.getElem?_eq_none (by simp; omega)] at hj
        cases hj
    subst hu
    exact h.2.2 _ List.mem_cons_self
  · rw [List.getElem?_set_ne e] at hj
    refine h.2.2 (j, cv ad u) (List.mem_cons_of_mem _ (List.mem_filter.mpr ⟨(lvO_mem ad L 0 _).mpr ⟨j, u, hj, by simp⟩, ?_⟩))
    have h1 : ¬ j = i := fun z => e z.symm
    by_cases h2 : j + 1 = i
    · subst h2
      have h3 : isL u = false := by
        simp only [nlb, hj] at hn
        simpa using hn
      simp [cv_cat, h3]
    · simp [h1, h2]
/-! the tables' words that stay -/
def TB : List Cond := lw_tbl.filter goodWord
theorem TB_good : ∀ w ∈ TB, goodWord w = true := fun w h => (List.mem_filter.mp h).2
theorem TB_in : ∀ w ∈ TB, w ∈ lw_tbl := fun w h => (List.mem_filter.mp h).1
theorem tb_of {w : Cond} (i : Nat) (h : tables_1[i]? = some w) (hg : goodWord w = true) : w ∈ TB := List.mem_filter.mpr ⟨List.mem_append_right _ (List.mem_of_getElem? h), hg⟩
theorem tb_sel {w : Cond} (i : Nat) (h : (k2_sels lw_privs)[i]? = some w) (hg : goodWord w = true) : w ∈ TB := List.mem_filter.mpr ⟨List.mem_append_left _ (List.mem_of_getElem? h), hg⟩
/-- the words with which a method is begun -/
def wM (M : Mt) : List Cond := .code M.1 M.2.1 M.2.2.1 M.2.2.2 :: TB
theorem wM_good {M : Mt} (h : Cond.code M.1 M.2.1 M.2.2.1 M.2.2.2 ∈ TB) : GoodIn TB (wM M) := by
  intro w hw
  rcases List.mem_cons.mp hw with rfl | hw
  · exact ⟨h, good_of_word (TB_good _ h)⟩
  · exact ⟨hw, good_of_word (TB_good _ hw)⟩
def rmD (d : Nat) : Room := { frames := d, cells := 0, slots := 0, locals := 40 * d }
def Px (G : va_G) (dT : Nat → ClassId) (ad : Id2 → Nat) (ids : List Id2) (D : Wd) (U : State) : Prop :=
  va_P G vwCl (cw ad dT ids D) U.heap ∧ va_D (aA ad ids) (cw ad dT ids D) ∧ va_K G vwCl (tyL dT) U ∧ Ext ad (aA ad ids) U U.heap
def Qx (G : va_G) (dT : Nat → ClassId) (ad : Id2 → Nat) (ids : List Id2) (post : Option AV → Wd → Prop) : Array Value → State → Outcome → State → Prop := fun _ st oc t =>
  (∃ (r : Option AV) (D : Wd), oc = .returned (r.map (cv ad)) ∧ post r D ∧ va_P G vwCl (cw ad dT ids D) t.heap) ∧ va_F (aA ad ids) st t
/-- THE CONTRACT of a method: with these arguments, on this world, it returns, and what it answers and the world then are as 'post' says; at most d frames deep -/
def Mok (M : Mt) (ids : List Id2) (d : Nat) (av : List AV) (D : Wd) (post : Option AV → Wd → Prop) : Prop :=
  ∀ (l : Launch) (G : va_G) (dT : Nat → ClassId) (ad : Id2 → Nat), Met l M.1 (wM M) (rmD d) (va_Pc (av.map (cv ad)) (Px G dT ad ids D)) (Qx G dT ad ids post) 0 0 (aA ad ids)
theorem Mok.imp {M : Mt} {ids : List Id2} {d : Nat} {av : List AV} {D : Wd} {post post' : Option AV → Wd → Prop} (h : Mok M ids d av D post) (hp : ∀ r D', post r D' → post' r D') : Mok M ids d av D post' := by
  intro l G dT ad p e a b c s m args below f1 f2 f3 f4
  obtain ⟨n, o, x1, x2, x3, ⟨⟨r, D', q1, q2, q3⟩, y2⟩, z⟩ := h l G dT ad p e a b c s m args below f1 f2 f3 f4
  exact ⟨n, o, x1, x2, x3, ⟨⟨r, D', q1, hp _ _ q2, q3⟩, y2⟩, z⟩
