/-! THE ROWS for fields, arrays, calls and returns -/
section CELLS
variable {X : Cxt} {M : Mt} {ids : List Id2} {d pc : Nat} {L : Lc} {st : List AV} {D : Wd}
theorem ce_obj {ad : Id2 → Nat} {dT : Nat → ClassId} {w : Nat → Int32} {i : Id2} {ci : Nat} {fs : List (Option Id2)} (h : sh i = .inl (ci, fs)) : ce ad dT w i = .inr (ci, fs.mapIdx (fv ad w)) := by
  simp only [ce, h]
theorem ce_arr {ad : Id2 → Nat} {dT : Nat → ClassId} {w : Nat → Int32} {i : Id2} {t n : Nat} (h : sh i = .inr (t, n, none)) : ce ad dT w i = .inl (dT t, n, .inl w) := by
  simp only [ce, h]
theorem ce_ref {ad : Id2 → Nat} {dT : Nat → ClassId} {w : Nat → Int32} {i : Id2} {t n : Nat} {g : Nat → Id2} (h : sh i = .inr (t, n, some g)) : ce ad dT w i = .inl (dT t, n, .inr (.inr (.inr (.inr (fun q => some (ad (g q))))))) := by
  simp only [ce, h]
theorem fv_get {ad : Id2 → Nat} {w : Nat → Int32} {fs : List (Option Id2)} {k : Nat} {f : Option Id2} (h : fs[k]? = some f) : (fs.mapIdx (fv ad w))[k]? = some (fv ad w k f) := by
  rw [List.getElem?_mapIdx, h]; rfl
theorem g_getI {i : Id2} {ci k N ix : Nat} {fs : List (Option Id2)} {C : String} {T : u_T} (cx : Cx X M ids d) (hi : i ∈ ids) (hs : sh i = .inl (ci, fs)) (hf : fs[k]? = some none) (hc : vwCl[ci]? = some (C, T, N)) (hk : k < N) (hin : ∀ w ∈ u_ws C T N, w ∈ TB) (hw : Cond.fieldLink M.1.cls ix (T k).1 (T k).2.1 (T k).2.2.1 ∈ TB) (hd : decode M.2.1 pc = .ok (.getfield ix, 3)) (kk : Gk X M ids (pc + 3) L (vi (D i k) :: st) D) : Gk X M ids pc L (vr i :: st) D := by
  intro H locs ls hH hL
  obtain ⟨q, hq⟩ := cw_in hi
  have he := cw_at (ad := xa X) (dT := xT X) (D := D) hq
  rw [ce_obj hs] at he
  exact va_get cx.1 cx.2.1 cx.2.2.2.2.2.2.1 hin cx.2.2.2.2.2.1 cx.2.2.2.2.2.2.2.1 hH.1 q he hc k hk (cx.2.2.2.2.2.2.1 _ hw) (fun _ h => h) (fv_get hf) hd (kk H locs ls hH hL)
theorem g_getR {i j : Id2} {ci k N ix : Nat} {fs : List (Option Id2)} {C : String} {T : u_T} (cx : Cx X M ids d) (hi : i ∈ ids) (hs : sh i = .inl (ci, fs)) (hf : fs[k]? = some (some j)) (hc : vwCl[ci]? = some (C, T, N)) (hk : k < N) (hin : ∀ w ∈ u_ws C T N, w ∈ TB) (hw : Cond.fieldLink M.1.cls ix (T k).1 (T k).2.1 (T k).2.2.1 ∈ TB) (hd : decode M.2.1 pc = .ok (.getfield ix, 3)) (kk : Gk X M ids (pc + 3) L (vr j :: st) D) : Gk X M ids pc L (vr i :: st) D := by
  intro H locs ls hH hL
  obtain ⟨q, hq⟩ := cw_in hi
  have he := cw_at (ad := xa X) (dT := xT X) (D := D) hq
  rw [ce_obj hs] at he
  exact va_get cx.1 cx.2.1 cx.2.2.2.2.2.2.1 hin cx.2.2.2.2.2.1 cx.2.2.2.2.2.2.2.1 hH.1 q he hc k hk (cx.2.2.2.2.2.2.1 _ hw) (fun _ h => h) (fv_get hf) hd (kk H locs ls hH hL)
theorem g_putI {i : Id2} {ci k N ix : Nat} {fs : List (Option Id2)} {C : String} {T : u_T} {ty0 : Nat → FieldType} {x : Int32} (cx : Cx X M ids d) (hi : i ∈ ids) (hs : sh i = .inl (ci, fs)) (hf : fs[k]? = some none) (hc : vwCl[ci]? = some (C, T, N)) (hk : k < N) (hin : ∀ w ∈ u_ws C T N, w ∈ TB) (hty : ∀ k, k < N → parseFieldDescriptor (T k).2.2.1 = some (ty0 k)) (hnm : ∀ a, a < N → ∀ b, b < N → a ≠ b → (T a).2.1 ≠ (T b).2.1) (hfin : (T k).2.2.2 = false) (hI : ty0 k = .int) (hw : Cond.fieldLink M.1.cls ix (T k).1 (T k).2.1 (T k).2.2.1 ∈ TB) (hd : decode M.2.1 pc = .ok (.putfield ix, 3)) (kk : Gk X M ids (pc + 3) L st (upA D i (upd (D i) k x))) : Gk X M ids pc L (vi x :: vr i :: st) D := by
  intro H locs ls hH hL
  obtain ⟨q, hq⟩ := cw_in hi
  have he := cw_at (ad := xa X) (dT := xT X) (D := D) hq
  rw [ce_obj hs] at he
  have hlen : k < (fs.mapIdx (fv (xa X) (D i))).length := by
    rw [List.length_mapIdx]; exact (List.getElem?_eq_some_iff.mp hf).1
  refine va_put cx.1 cx.2.1 cx.2.2.2.2.2.2.1 hin ty0 hty hnm cx.2.2.2.2.2.1 cx.2.2.2.2.2.2.2.1 hH.1 hH.2.1 hH.2.2 q he hc k hk (cx.2.2.2.2.2.2.1 _ hw) (fun _ h => h) hfin (ty := .int) (v := .int x) (by rw [hty k hk, hI]) rfl rfl hlen hd (fun H1 locs1 hP hD hS => ?_)
  have e : (cw (xa X) (xT X) ids D).set q (xa X i, .inr (ci, (fs.mapIdx (fv (xa X) (D i))).set k (.int x))) = cw (xa X) (xT X) ids (upA D i (upd (D i) k x)) := by
    rw [cf_set x hf, ← ce_obj (dT := xT X) hs]; exact cw_set hH.2.1 hq _
  rw [e] at hP hD
  exact kk H1 locs1 ls ⟨hP, hD, hS⟩ hL
theorem g_iald {i : Id2} {n j : Nat} {x : Int32} (cx : Cx X M ids d) (hi : i ∈ ids) (hs : sh i = .inr (0, n, none)) (hx : x = nI j) (hj : j < n) (hn : n < 2 ^ 31) (hd : decode M.2.1 pc = .ok (.iaload, 1)) (kk : Gk X M ids (pc + 1) L (vi (D i j) :: st) D) : Gk X M ids pc L (vi x :: vr i :: st) D := by
  subst hx
  intro H locs ls hH hL
  obtain ⟨q, hq⟩ := cw_in hi
  have he := cw_at (ad := xa X) (dT := xT X) (D := D) hq
  rw [ce_arr hs] at he
  refine va_iald cx.1 cx.2.1 cx.2.2.2.2.2.2.2.1 hH.1 q 0 he rfl (vp_in_nI hj hn) hd ?_
  rw [nI_clamp (by omega)]
  exact kk H locs ls hH hL
theorem g_bald {i : Id2} {n j : Nat} {x : Int32} (cx : Cx X M ids d) (hi : i ∈ ids) (hs : sh i = .inr (1, n, none)) (hx : x = nI j) (hj : j < n) (hn : n < 2 ^ 31) (hd : decode M.2.1 pc = .ok (.baload, 1)) (kk : Gk X M ids (pc + 1) L (vi (D i j) :: st) D) : Gk X M ids pc L (vi x :: vr i :: st) D := by
  subst hx
  intro H locs ls hH hL
  obtain ⟨q, hq⟩ := cw_in hi
  have he := cw_at (ad := xa X) (dT := xT X) (D := D) hq
  rw [ce_arr hs] at he
  refine va_bald cx.1 cx.2.1 cx.2.2.2.2.2.2.2.1 hH.1 q 1 he rfl (vp_in_nI hj hn) hd ?_
  rw [nI_clamp (by omega)]
  exact kk H locs ls hH hL
theorem g_zald {i : Id2} {n j : Nat} {x : Int32} (cx : Cx X M ids d) (hi : i ∈ ids) (hs : sh i = .inr (2, n, none)) (hx : x = nI j) (hj : j < n) (hn : n < 2 ^ 31) (hd : decode M.2.1 pc = .ok (.baload, 1)) (kk : Gk X M ids (pc + 1) L (vi (D i j) :: st) D) : Gk X M ids pc L (vi x :: vr i :: st) D := by
  subst hx
  intro H locs ls hH hL
  obtain ⟨q, hq⟩ := cw_in hi
  have he := cw_at (ad := xa X) (dT := xT X) (D := D) hq
  rw [ce_arr hs] at he
  refine va_zald cx.1 cx.2.1 cx.2.2.2.2.2.2.2.1 hH.1 q 2 he rfl (vp_in_nI hj hn) hd ?_
  rw [nI_clamp (by omega)]
  exact kk H locs ls hH hL
theorem g_aald {i : Id2} {n j : Nat} {g : Nat → Id2} {x : Int32} (cx : Cx X M ids d) (hi : i ∈ ids) (hs : sh i = .inr (3, n, some g)) (hx : x = nI j) (hj : j < n) (hn : n < 2 ^ 31) (hd : decode M.2.1 pc = .ok (.aaload, 1)) (kk : Gk X M ids (pc + 1) L (vr (g j) :: st) D) : Gk X M ids pc L (vi x :: vr i :: st) D := by
  subst hx
  intro H locs ls hH hL
  obtain ⟨q, hq⟩ := cw_in hi
  have he := cw_at (ad := xa X) (dT := xT X) (D := D) hq
  rw [ce_ref hs] at he
  refine va_aldq cx.1 cx.2.1 cx.2.2.2.2.2.2.2.1 hH.1 q 3 he rfl (vp_in_nI hj hn) hd ?_
  rw [nI_clamp (by omega)]
  exact kk H locs ls hH hL
theorem g_iast {i : Id2} {n j : Nat} {x v : Int32} (cx : Cx X M ids d) (hi : i ∈ ids) (hs : sh i = .inr (0, n, none)) (hx : x = nI j) (hj : j < n) (hn : n < 2 ^ 31) (hd : decode M.2.1 pc = .ok (.iastore, 1)) (kk : Gk X M ids (pc + 1) L st (upA D i (upd (D i) j v))) : Gk X M ids pc L (vi v :: vi x :: vr i :: st) D := by
  subst hx
  intro H locs ls hH hL
  obtain ⟨q, hq⟩ := cw_in hi
  have he := cw_at (ad := xa X) (dT := xT X) (D := D) hq
  rw [ce_arr hs] at he
  refine va_iast cx.1 cx.2.1 cx.2.2.2.2.2.2.2.1 hH.1 hH.2.1 hH.2.2 q 0 he rfl (vp_in_nI hj hn) hd (fun H1 locs1 hP hD hS => ?_)
  rw [nI_clamp (by omega), ← ce_arr (ad := xa X) hs, cw_set hH.2.1 hq] at hP hD
  exact kk H1 locs1 ls ⟨hP, hD, hS⟩ hL
theorem g_bast {i : Id2} {n j : Nat} {x v : Int32} (cx : Cx X M ids d) (hi : i ∈ ids) (hs : sh i = .inr (1, n, none)) (hx : x = nI j) (hj : j < n) (hn : n < 2 ^ 31) (hd : decode M.2.1 pc = .ok (.bastore, 1)) (kk : Gk X M ids (pc + 1) L st (upA D i (upd (D i) j (v.toInt8.toInt32)))) : Gk X M ids pc L (vi v :: vi x :: vr i :: st) D := by
  subst hx
  intro H locs ls hH hL
  obtain ⟨q, hq⟩ := cw_in hi
  have he := cw_at (ad := xa X) (dT := xT X) (D := D) hq
  rw [ce_arr hs] at he
  refine va_bast cx.1 cx.2.1 cx.2.2.2.2.2.2.2.1 hH.1 hH.2.1 hH.2.2 q 1 he rfl (vp_in_nI hj hn) hd (fun H1 locs1 hP hD hS => ?_)
  rw [nI_clamp (by omega), ← ce_arr (ad := xa X) hs, cw_set hH.2.1 hq, vp_nar_byte] at hP hD
  exact kk H1 locs1 ls ⟨hP, hD, hS⟩ hL
theorem g_zast {i : Id2} {n j : Nat} {x v v' : Int32} (cx : Cx X M ids d) (hi : i ∈ ids) (hs : sh i = .inr (2, n, none)) (hx : x = nI j) (hj : j < n) (hn : n < 2 ^ 31) (hv : vp_nar .boolean v = v') (hd : decode M.2.1 pc = .ok (.bastore, 1)) (kk : Gk X M ids (pc + 1) L st (upA D i (upd (D i) j v'))) : Gk X M ids pc L (vi v :: vi x :: vr i :: st) D := by
  subst hx
  intro H locs ls hH hL
  obtain ⟨q, hq⟩ := cw_in hi
  have he := cw_at (ad := xa X) (dT := xT X) (D := D) hq
  rw [ce_arr hs] at he
  refine va_zast cx.1 cx.2.1 cx.2.2.2.2.2.2.2.1 hH.1 hH.2.1 hH.2.2 q 2 he rfl (vp_in_nI hj hn) hd (fun H1 locs1 hP hD hS => ?_)
  rw [nI_clamp (by omega), ← ce_arr (ad := xa X) hs, cw_set hH.2.1 hq, hv] at hP hD
  exact kk H1 locs1 ls ⟨hP, hD, hS⟩ hL
/-- the table of kinds: its reference, and what it holds -/
theorem g_tak {ix : Nat} (cx : Cx X M ids d) (hw : Cond.fieldLink M.1.cls ix "OneHinge" "TAKEN_AS" "[I" ∈ TB) (hd : decode M.2.1 pc = .ok (.getstatic ix, 3)) (kk : Gk X M ids (pc + 3) L (vr (91, 0) :: st) D) : Gk X M ids pc L st D :=
  fun H locs ls hH hL => va_gets cx.1 cx.2.1 cx.2.2.2.2.2.2.2.2.1.1 hH.2.2 cx.2.2.2.2.2.1 (cx.2.2.2.2.2.2.1 _ hw) (fun _ h => h) hd (kk H locs ls hH hL)
theorem g_takN {ix : Nat} {host : String} (cx : Cx X M ids d) (hw : (M.1.cls, ix, "OneHinge", "TAKEN_AS", "[I", host) ∈ nwF) (hd : decode M.2.1 pc = .ok (.getstatic ix, 3)) (kk : Gk X M ids (pc + 3) L (vr (91, 0) :: st) D) : Gk X M ids pc L st D :=
  fun H locs ls hH hL => va_getsN cx.1 cx.2.1 cx.2.2.2.2.2.2.2.2.1.1 hH.2.2 cx.2.2.2.2.2.1 ((cx.2.2.2.2.2.2.2.2.1.2.2.2.2.2.1.2 _ hw).use rfl) (fun _ h => h) hd (kk H locs ls hH hL)
theorem g_taki {j : Nat} {x : Int32} (cx : Cx X M ids d) (hx : x = nI j) (hj : j < 4) (hd : decode M.2.1 pc = .ok (.iaload, 1)) (kk : Gk X M ids (pc + 1) L (vi (tkF j) :: st) D) : Gk X M ids pc L (vi x :: vr (91, 0) :: st) D := by
  subst hx
  exact fun H locs ls hH hL => va_ti cx.1 cx.2.1 cx.2.2.2.2.2.2.2.2.1.2.1 hH.2.2 (vp_in_nI hj (by omega)) (by rw [nI_clamp (by omega)]; rfl) hd (kk H locs ls hH hL)
theorem g_compact {ix : Nat} (cx : Cx X M ids d) (hw : Cond.fieldLink M.1.cls ix "java/lang/String" "COMPACT_STRINGS" "Z" ∈ TB) (hd : decode M.2.1 pc = .ok (.getstatic ix, 3)) (kk : Gk X M ids (pc + 3) L (vi 1 :: st) D) : Gk X M ids pc L st D :=
  fun H locs ls hH hL => va_gets cx.1 cx.2.1 cx.2.2.2.2.2.2.2.2.1.2.2.1 hH.2.2 cx.2.2.2.2.2.1 (cx.2.2.2.2.2.2.1 _ hw) (fun _ h => h) hd (kk H locs ls hH hL)
/-! returns -/
theorem g_ret {post : Option AV → Wd → Prop} {x : Int32} {ty : FieldType} (cx : Cx X M ids d) (rq : Rq X ids post) (hr : M.2.2.2 = some ty) (hn : narrow ty (.int x) = .int x) (hd : decode M.2.1 pc = .ok (.ireturn, 1)) (hp : post (some (vi x)) D) : Gk X M ids pc L [vi x] D := by
  intro H locs ls hH hL
  obtain ⟨h1, h2, h3⟩ := rq
  rw [h1, h2, h3]
  exact W.zret (ty := ty) cx.1 cx.2.1 (by rw [cx.2.2.2.1, hr]) hn (fun t ht hW => ⟨⟨some (vi x), D, rfl, hp, by rw [ht]; exact hH.1⟩, hH.2.2.F ht⟩) hH.2.2.2.2 hd cx.2.2.2.2.1
theorem g_vret {post : Option AV → Wd → Prop} (cx : Cx X M ids d) (rq : Rq X ids post) (hr : M.2.2.2 = none) (hd : decode M.2.1 pc = .ok (.return_, 1)) (hp : post none D) : Gk X M ids pc L [] D := by
  intro H locs ls hH hL
  obtain ⟨h1, h2, h3⟩ := rq
  rw [h1, h2, h3]
  exact W.vret cx.1 cx.2.1 (by rw [cx.2.2.2.1, hr]) (fun t ht hW => ⟨⟨none, D, rfl, hp, by rw [ht]; exact hH.1⟩, hH.2.2.F ht⟩) hH.2.2.2.2 hd cx.2.2.2.2.1
theorem g_aret {post : Option AV → Wd → Prop} {i : Id2} {rt : FieldType} (cx : Cx X M ids d) (rq : Rq X ids post) (hr : M.2.2.2 = some rt) (hrt : (∃ n, rt = .object n) ∨ ∃ t, rt = .array t) (hd : decode M.2.1 pc = .ok (.areturn, 1)) (hp : post (some (vr i)) D) : Gk X M ids pc L [vr i] D := by
  intro H locs ls hH hL
  obtain ⟨h1, h2, h3⟩ := rq
  rw [h1, h2, h3]
  exact W.aret (v := .ref (xa X i)) cx.1 cx.2.1 (by rw [cx.2.2.2.1, hr]) hrt (Or.inr ⟨_, rfl⟩) (fun t ht hW => ⟨⟨some (vr i), D, rfl, hp, by rw [ht]; exact hH.1⟩, hH.2.2.F ht⟩) hH.2.2.2.2 hd cx.2.2.2.2.1
/-! a method's begin -/
theorem Mok.of {av : List AV} {post : Option AV → Wd → Prop} (hy : plainName M.1.cls = true) (hlen : (∀ ad, (lg_sl (av.map (cv ad))).length ≤ M.2.2.1)) (hL : ∀ ad, lvO ad 0 L = lv_args 0 (av.map (cv ad))) (k : ∀ X : Cxt, Cx X M ids d → Rq X ids post → Gk X M ids 0 L [] D) : Mok M ids d av D post := by
  intro l G dT ad
  refine Met.ofW (cc := M.2.1) (maxL := M.2.2.1) (ret := M.2.2.2) hy rfl ?_
  intro p e s m args below meth c s₁ B hml hv
  obtain ⟨rfl, hP, hD, hK, hE⟩ := hv
  have hts := atoms_spec (ws := wM M) B.pre
  have hown : s.vm.findClass M.1.cls = some m.cls := findClass_of_methodNamed B.named
  have hl := lv_entry (av.map (cv ad)) (n := M.2.2.1) (hlen ad)
  rw [lg_entry_eq]
  generalize (lg_sl (av.map (cv ad)) ++ List.replicate (M.2.2.1 - (lg_sl (av.map (cv ad))).length) Slot.unset).toArray = ls at hl ⊢
  rw [← hL ad] at hl
  exact k (G, dT, ad, p, l, e, rmD d, s, m, (av.map (cv ad)).toArray, below, meth, c, 0, 0, MQ below (Qx G dT ad ids post) (av.map (cv ad)).toArray s 0 0 (aA ad ids)) ⟨B.exec, B.bytes, hml, B.returns, B.notSynchronized, hown, fun w h => hts w (List.mem_cons_of_mem _ h), hK, hE, Nat.le_refl _, Nat.le_refl _, Nat.le_refl _, Nat.le_refl _⟩ ⟨rfl, rfl, rfl⟩ s.heap [] ls ⟨hP, hD, va_S.rf⟩ (Lr.of hl)
/-! calls -/
theorem Px.blind {G : va_G} {dT : Nat → ClassId} {ad : Id2 → Nat} {av : List Value} : FrameBlind (va_Pc av (Px G dT ad ids D)) := by
  intro a U g mk h
  obtain ⟨q0, qP, qD, qK, qE⟩ := h
  exact ⟨q0, qP, qD, va_K.moved (u := U) (U := U.calling g mk a) (Vm.Alike.refl U.vm) qK, qE.calling⟩
theorem Px.go {H : Heap} {locs : List Loc} {av : List AV} (cx : Cx X M ids d) (hH : Hx X ids H locs D) : ∀ U : State, U.heap = H → (xs X).WarmedH U.vm → va_Pc (av.map (cv (xa X))) (Px (xG X) (xT X) (xa X) ids D) (av.map (cv (xa X))).toArray U := by
  intro U hU hW
  exact ⟨rfl, by rw [hU]; exact hH.1, hH.2.1, va_K.moved hW.alike cx.2.2.2.2.2.2.2.1, by rw [hU]; exact Ext.warm hW hH.2.2.2.1 cx.2.2.2.2.2.2.2.2.1⟩
theorem g_back {rest : List AV} {st0 : List Value} {post' : Option AV → Wd → Prop} {H : Heap} {locs : List Loc} {ls : Array Slot} {vs : Array Value} (hH : Hx X ids H locs D) (hL : Lr (xa X) ls M.2.2.1 L)
    (hr : va_Run (xp X) (xl X) (xe X) (xR X) (xs X) (xm X) (xv X) (xb X) (xh X) (xc X) H locs (xk X) (xn X) 0 0 (F0 (xm X) pc ls st0) (rest.map (cv (xa X))) (Qx (xG X) (xT X) (xa X) ids post' vs) (aA (xa X) ids))
    (kk : ∀ r D', post' r D' → Gk X M ids (pc + 3) L (r.toList ++ rest) D') : W (xp X) (xl X) (xe X) (xR X) (xs X) (xm X) (xv X) (xb X) (xh X) (xc X) H locs (xk X) (xn X) (xQ X) (F0 (xm X) pc ls st0) := by
  intro T hT Y
  obtain ⟨v, st₀, t, T', Lo, h0, Y', hLo, e1, e2, ⟨⟨r, D', hv, hp, hP⟩, hz, hk⟩, stp⟩ := hr T hT Y
  cases hv
  rw [h0] at hz hk
  have hS : va_S (aA (xa X) ids) (xs X).heap T'.heap (locs ++ Lo) := ⟨Nat.le_trans hH.2.2.1 (by rw [e1]; exact hz), fun q h1 h2 => by rw [e1, hk q (Nat.lt_of_lt_of_le h1 hH.2.2.1) h2]; exact hH.2.2.2.1 q h1 h2, fun q hq => by
    rcases List.mem_append.mp hq with h | h
    · exact hH.2.2.2.2 q h
    · exact hLo q h⟩
  obtain ⟨t2, a1, b1⟩ := kk r D' hp T'.heap (locs ++ Lo) ls ⟨by rw [e1]; exact hP, cw_D hH.2.1, hS⟩ hL T' rfl Y'
  refine ⟨t2, stp t2 ?_, b1⟩
  have e : ((r.toList ++ rest).map (cv (xa X))) = (r.map (cv (xa X))).toList ++ rest.map (cv (xa X)) := by cases r <;> simp
  rw [e] at a1
  exact a1
/-- what must be known of a method that is called -/
def Kn (N : Mt) (n : Nat) : Prop := Cond.code N.1 N.2.1 N.2.2.1 N.2.2.2 ∈ TB ∧ Cond.initialized N.1.cls ∈ TB ∧ N.1.cls ≠ "java/lang/invoke/MethodHandle" ∧ N.1.cls ≠ "java/lang/invoke/VarHandle" ∧ (parseMethodDescriptor N.1.desc).map (fun d => d.parameters.length) = some n ∧ N.2.2.1 ≤ 21
def rcat (st : List AV) : Nat := (st.map (fun v => if isL v then 2 else 1)).sum
theorem rcat_eq (ad : Id2 → Nat) (st : List AV) : ((st.map (cv ad)).map fun v => v.category).sum = rcat st := by
  induction st with
  | nil => rfl
  | cons a r ih => simp only [List.map_cons, List.sum_cons, ih, rcat, cv_cat]
theorem rcat_room {rest : List AV} {ls : Array Slot} {st0 : List Value} (h : rcat rest ≤ 8) : 2 * (F0 (xm X) pc ls st0).monitorRoom + (((rest.map (cv (xa X))).map fun v => v.category)).sum ≤ 8 := by
  rw [rcat_eq]
  show 2 * 0 + rcat rest ≤ 8
  omega
/-- a virtual call of a method of a class of the world -/
theorem g_callV {N : Mt} {ix n d' ci nf : Nat} {i : Id2} {As rest : List AV} {fs : List (Option Id2)} {T : u_T} {post' : Option AV → Wd → Prop} (cx : Cx X M ids d) (hN : Kn N n) (hM : Mok N ids d' (vr i :: As) D post') (hi : i ∈ ids) (hs : sh i = .inl (ci, fs)) (hc : vwCl[ci]? = some (N.1.cls, T, nf)) (hw : Cond.methodLink M.1.cls ix N.1 ∈ TB) (hin : Cond.instanceMethod N.1 ∈ TB) (hse : Cond.selects N.1.cls N.1 N.1 ∈ TB) (hn : As.length = n) (hdd : d' + 1 ≤ d) (hr : rcat rest ≤ 8) (hst : st = As.reverse ++ vr i :: rest) (hd : decode M.2.1 pc = .ok (.invokevirtual ix, 3)) (kk : ∀ r D', post' r D' → Gk X M ids (pc + 3) L (r.toList ++ rest) D') : Gk X M ids pc L st D := by
  subst hst
  intro H locs ls hH hL
  obtain ⟨q, hq⟩ := cw_in hi
  have he := cw_at (ad := xa X) (dT := xT X) (D := D) hq
  rw [ce_obj hs] at he
  obtain ⟨k1, k2, k3, k4, k5, k6⟩ := hN
  have ht := cx.2.2.2.2.2.2.1
  have cw : CallW (xR X) (xs X) (xv X) M.1.cls N.1.cls ix N.1 N.2.1 N.2.2.1 N.2.2.2 (wM N) (rmD d') 0 0 n :=
    ⟨callB_of n ht (wM_good k1) rfl rfl rfl (ht _ k2) (ht _ hw) ⟨k3, k4, k5⟩ ⟨Nat.le_trans hdd cx.2.2.2.2.2.2.2.2.2.1, by have := cx.2.2.2.2.2.2.2.2.2.2.1; show 8 + (N.2.2.1 + 11) + 40 * d' ≤ _; omega⟩, ht _ hin, ht _ hse⟩
  refine g_back hH hL (va_runV (As := As.map (cv (xa X))) (b := xa X i) (rest := rest.map (cv (xa X))) ⟨cx.1, cx.2.1, cx.2.2.1, cx.2.2.2.2.2.1, ht⟩ (hM (xl X) (xG X) (xT X) (xa X)) cw ⟨Px.blind, va_recv cx.2.2.2.2.2.2.2.1 hH.1 hc he, Px.go cx hH⟩ rfl (by rw [List.length_map, hn]) hL.1 (by simp [cv]) (rcat_room hr) hd ⟨cx.2.2.2.2.2.2.2.2.2.2.2.1, cx.2.2.2.2.2.2.2.2.2.2.2.2⟩) kk
/-- a static call of a method of the own class -/
theorem g_callS {N : Mt} {ix n d' : Nat} {As rest : List AV} {post' : Option AV → Wd → Prop} (cx : Cx X M ids d) (hN : Kn N n) (hM : Mok N ids d' As D post') (hw : Cond.methodLink M.1.cls ix N.1 ∈ TB) (hstt : Cond.static N.1 ∈ TB) (hn : As.length = n) (hdd : d' + 1 ≤ d) (hr : rcat rest ≤ 8) (hst : st = As.reverse ++ rest) (hd : decode M.2.1 pc = .ok (.invokestatic ix, 3)) (kk : ∀ r D', post' r D' → Gk X M ids (pc + 3) L (r.toList ++ rest) D') : Gk X M ids pc L st D := by
  subst hst
  intro H locs ls hH hL
  obtain ⟨k1, k2, k3, k4, k5, k6⟩ := hN
  have ht := cx.2.2.2.2.2.2.1
  have cb : CallB (xR X) (xs X) (xv X) M.1.cls ix N.1 N.2.1 N.2.2.1 N.2.2.2 (wM N) (rmD d') 0 0 n :=
    callB_of n ht (wM_good k1) rfl rfl rfl (ht _ k2) (ht _ hw) ⟨k3, k4, k5⟩ ⟨Nat.le_trans hdd cx.2.2.2.2.2.2.2.2.2.1, by have := cx.2.2.2.2.2.2.2.2.2.2.1; show 8 + (N.2.2.1 + 11) + 40 * d' ≤ _; omega⟩
  refine g_back hH hL (va_runS (As := As.map (cv (xa X))) (rest := rest.map (cv (xa X))) ⟨cx.1, cx.2.1, cx.2.2.1, cx.2.2.2.2.2.1, ht⟩ (hM (xl X) (xG X) (xT X) (xa X)) ⟨cb, ht _ hstt⟩ ⟨Px.blind, Px.go cx hH⟩ rfl (by rw [List.length_map, hn]) hL.1 (by simp) (rcat_room hr) hd ⟨cx.2.2.2.2.2.2.2.2.2.2.2.1, cx.2.2.2.2.2.2.2.2.2.2.2.2⟩) kk
/-- a static call of a private method of a nest mate -/
theorem g_callSN {N : Mt} {ix n d' : Nat} {host : String} {As rest : List AV} {post' : Option AV → Wd → Prop} (cx : Cx X M ids d) (hN : Kn N n) (hM : Mok N ids d' As D post') (hw : (M.1.cls, ix, N.1, host) ∈ nwM) (hstt : Cond.static N.1 ∈ TB) (hn : As.length = n) (hdd : d' + 1 ≤ d) (hr : rcat rest ≤ 8) (hst : st = As.reverse ++ rest) (hd : decode M.2.1 pc = .ok (.invokestatic ix, 3)) (kk : ∀ r D', post' r D' → Gk X M ids (pc + 3) L (r.toList ++ rest) D') : Gk X M ids pc L st D := by
  subst hst
  intro H locs ls hH hL
  obtain ⟨k1, k2, k3, k4, k5, k6⟩ := hN
  have ht := cx.2.2.2.2.2.2.1
  have cb : va_CN (xR X) (xs X) (xv X) M.1.cls ix N.1 host N.2.1 N.2.2.1 N.2.2.2 (wM N) (rmD d') 0 0 n :=
    va_cnB n ht (wM_good k1) rfl rfl rfl (cx.2.2.2.2.2.2.2.2.1.2.2.2.2.2.1.1 _ hw) (ht _ k2) ⟨k3, k4, k5⟩ ⟨Nat.le_trans hdd cx.2.2.2.2.2.2.2.2.2.1, by have := cx.2.2.2.2.2.2.2.2.2.2.1; show 8 + (N.2.2.1 + 11) + 40 * d' ≤ _; omega⟩
  refine g_back hH hL (va_runSN (As := As.map (cv (xa X))) (rest := rest.map (cv (xa X))) ⟨cx.1, cx.2.1, cx.2.2.1, cx.2.2.2.2.2.1, ht⟩ (hM (xl X) (xG X) (xT X) (xa X)) ⟨cb, ht _ hstt, trivial⟩ ⟨Px.blind, Px.go cx hH⟩ rfl (by rw [List.length_map, hn]) hL.1 (by simp) (rcat_room hr) hd ⟨cx.2.2.2.2.2.2.2.2.2.2.2.1, cx.2.2.2.2.2.2.2.2.2.2.2.2⟩) kk
/-- a virtual call of a private method of a nest mate -/
theorem g_callVN {N : Mt} {ix n d' ci nf : Nat} {host : String} {i : Id2} {As rest : List AV} {fs : List (Option Id2)} {T : u_T} {post' : Option AV → Wd → Prop} (cx : Cx X M ids d) (hN : Kn N n) (hM : Mok N ids d' (vr i :: As) D post') (hi : i ∈ ids) (hs : sh i = .inl (ci, fs)) (hc : vwCl[ci]? = some (N.1.cls, T, nf)) (hw : (M.1.cls, ix, N.1, host) ∈ nwM) (hin : Cond.instanceMethod N.1 ∈ TB) (hse : Cond.selects N.1.cls N.1 N.1 ∈ TB) (hn : As.length = n) (hdd : d' + 1 ≤ d) (hr : rcat rest ≤ 8) (hst : st = As.reverse ++ vr i :: rest) (hd : decode M.2.1 pc = .ok (.invokevirtual ix, 3)) (kk : ∀ r D', post' r D' → Gk X M ids (pc + 3) L (r.toList ++ rest) D') : Gk X M ids pc L st D := by
  subst hst
  intro H locs ls hH hL
  obtain ⟨q, hq⟩ := cw_in hi
  have he := cw_at (ad := xa X) (dT := xT X) (D := D) hq
  rw [ce_obj hs] at he
  obtain ⟨k1, k2, k3, k4, k5, k6⟩ := hN
  have ht := cx.2.2.2.2.2.2.1
  have cb : va_CN (xR X) (xs X) (xv X) M.1.cls ix N.1 host N.2.1 N.2.2.1 N.2.2.2 (wM N) (rmD d') 0 0 n :=
    va_cnB n ht (wM_good k1) rfl rfl rfl (cx.2.2.2.2.2.2.2.2.1.2.2.2.2.2.1.1 _ hw) (ht _ k2) ⟨k3, k4, k5⟩ ⟨Nat.le_trans hdd cx.2.2.2.2.2.2.2.2.2.1, by have := cx.2.2.2.2.2.2.2.2.2.2.1; show 8 + (N.2.2.1 + 11) + 40 * d' ≤ _; omega⟩
  refine g_back hH hL (va_runVN (C := N.1.cls) (As := As.map (cv (xa X))) (b := xa X i) (rest := rest.map (cv (xa X))) ⟨cx.1, cx.2.1, cx.2.2.1, cx.2.2.2.2.2.1, ht⟩ (hM (xl X) (xG X) (xT X) (xa X)) ⟨cb, ht _ hin, ht _ hse⟩ ⟨Px.blind, va_recv cx.2.2.2.2.2.2.2.1 hH.1 hc he, Px.go cx hH⟩ rfl (by rw [List.length_map, hn]) hL.1 (by simp [cv]) (rcat_room hr) hd ⟨cx.2.2.2.2.2.2.2.2.2.2.2.1, cx.2.2.2.2.2.2.2.2.2.2.2.2⟩) kk
/-- System.arraycopy from one int array to another -/
theorem g_copy {ix n n0 n1 : Nat} {i j : Id2} {N sp dp : Int32} {rest : List AV} (cx : Cx X M ids d) (hi : i ∈ ids) (hj : j ∈ ids) (hsi : sh i = .inr (0, n0, none)) (hsj : sh j = .inr (0, n1, none)) (hN : N = nI n) (h0 : sp = 0) (h1 : dp = 0) (hn0 : n ≤ n0) (hn1 : n ≤ n1) (hlt : n < 2 ^ 31) (hw : Cond.methodLink M.1.cls ix arraycopyName ∈ TB) (hnat : Cond.native arraycopyName ∈ TB) (hstt : Cond.static arraycopyName ∈ TB) (hini : Cond.initialized "java/lang/System" ∈ TB) (hr : rcat st ≤ 8) (hdd : 1 ≤ d) (hd : decode M.2.1 pc = .ok (.invokestatic ix, 3)) (kk : Gk X M ids (pc + 3) L st (upA D j (va_cpy (D i) (D j) 0 0 n))) : Gk X M ids pc L (vi N :: vi dp :: vr j :: vi sp :: vr i :: st) D := by
  subst hN h0 h1
  intro H locs ls hH hL
  obtain ⟨q, hq⟩ := cw_in hi
  obtain ⟨q1, hq1⟩ := cw_in hj
  have he := cw_at (ad := xa X) (dT := xT X) (D := D) hq
  have he1 := cw_at (ad := xa X) (dT := xT X) (D := D) hq1
  rw [ce_arr hsi] at he
  rw [ce_arr hsj] at he1
  have ht := cx.2.2.2.2.2.2.1
  have hc0 : (0 : Int32).toNatClampNeg = 0 := by decide
  refine va_copyi (ty := .int) cx.1 cx.2.1 (by rw [cx.2.2.1, hL.1]) cx.2.2.2.2.2.1 (ht _ hw) (ht _ hnat) (ht _ hstt) (ht _ hini) cx.2.2.2.2.2.2.2.1 hH.1 hH.2.1 hH.2.2 q q1 0 0 he he1 rfl rfl rfl (by decide) (by decide) (nI_pos hlt) (by rw [hc0, nI_clamp hlt]; omega) (by rw [hc0, nI_clamp hlt]; omega) (fun _ _ => rfl) (by have := cx.2.2.2.2.2.2.2.2.2.1; omega) ?_ hd (fun H1 locs1 hP hD hS => ?_)
  · rw [rcat_eq]
    have := cx.2.2.2.2.2.2.2.2.2.2.1
    have e : nativeFrameWords "java/lang/System" "arraycopy" 5 + 11 ≤ 30 := by decide
    omega
  · rw [hc0, nI_clamp hlt, ← ce_arr (ad := xa X) hsj, cw_set hH.2.1 hq1] at hP hD
    exact kk H1 locs1 ls ⟨hP, hD, hS⟩ hL
/-- Math.min -/
theorem g_min {ix : Nat} {x y : Int32} (cx : Cx X M ids d) (hw : Cond.methodLink M.1.cls ix Lib.Math.min.name ∈ TB) (hstt : Cond.static Lib.Math.min.name ∈ TB) (hini : Cond.initialized "java/lang/Math" ∈ TB) (hcode : Cond.code Lib.Math.min.name Lib.Math.min.code 2 (some .int) ∈ TB) (hr : rcat st ≤ 8) (hdd : 1 ≤ d) (hd : decode M.2.1 pc = .ok (.invokestatic ix, 3)) (kk : Gk X M ids (pc + 3) L (vi (if y < x then y else x) :: st) D) : Gk X M ids pc L (vi y :: vi x :: st) D := by
  intro H locs ls hH hL
  have ht := cx.2.2.2.2.2.2.1
  refine va_mmin cx.1 cx.2.1 (by rw [cx.2.2.1, hL.1]) cx.2.2.2.2.2.1 (ht _ hw) (ht _ hstt) (ht _ hini) (ht _ hcode) (by have := cx.2.2.2.2.2.2.2.2.2.1; omega) ?_ cx.2.2.2.2.2.2.2.2.2.2.2.1 cx.2.2.2.2.2.2.2.2.2.2.2.2 hd (kk H locs ls hH hL)
  rw [rcat_eq]
  have := cx.2.2.2.2.2.2.2.2.2.2.1
  omega
end CELLS
