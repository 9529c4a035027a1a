section FIN
variable {p : Program} {e : Env} {s : State} {m : MethodId} {below : List Frame} {meth : Method} {c : Code}
abbrev X0c (G : va_G) (dT : Nat → ClassId) (ad : Id2 → Nat) (p : Program) (l : Launch) (e : Env) (s : State) (m : MethodId) (b : Nat) (below : List Frame) (meth : Method) (c : Code) (k n : Nat) : Cxt := (G, dT, ad, p, l, e, room_1, s, m, #[Value.ref b], below, meth, c, k, n, lw_Z below #[Value.ref b] s)
/-- the loop, on both objects new -/
theorem fin_loop (l : Launch) {b L : Nat} {scr : Nat → Int32} (hL : L ≤ 2048) (C0 : lw_At p s m meth c b L scr) {G : va_G} {dT : Nat → ClassId} {ad : Id2 → Nat} (hK : va_K G vwCl (tyL dT) s) (hE : Ext ad (fun q => s.heap.size ≤ q) s s.heap) (h95 : ad (95, 0) = b) {H : Heap} {locs : List Loc} {ls : Array Slot} (hP : va_P G vwCl (cw ad dT idsA D01) H) (hD : va_D (fun q => s.heap.size ≤ q) (cw ad dT idsA D01)) (hS : va_S (fun q => s.heap.size ≤ q) s.heap H locs) (hl : lv_has ls 4 [(0, .ref (ad (95, 0))), (1, .ref (ad (0, 0))), (2, .ref (ad (30, 0))), (3, .int (nI 0))]) {k n : Nat} (hk : k ≤ 600000) (hn : n ≤ 7302250) :
    W p l e room_1 s m #[Value.ref b] below meth c H locs k n (lw_Z below #[Value.ref b] s) (F0 m 18 ls []) := by
  obtain ⟨hx, hb, hr, hml, hown, hts, hX, hbl, hlocks, hgv⟩ := id C0
  have htb : ∀ w ∈ TB, w.before #[Value.ref b] s = true := fun w h => hts w (TB_in w h)
  have hAs : ∀ q, aA ad idsA q → s.heap.size ≤ q := fun q hq => by
    obtain ⟨z, hz, rfl⟩ := hq
    obtain ⟨j, hj⟩ := cw_in hz
    exact hD.2 j _ (cw_at hj)
  have cx : Cx (X0c G dT ad p l e s m b below meth c k n) mL_law idsA 20 := ⟨hx, hb, hml, hr, hlocks, hown, htb, hK, hE.narrow hAs, Nat.le_of_ble_eq_true rfl, Nat.le_of_ble_eq_true rfl, hk, hn⟩
  have hs : Scp (X0c G dT ad p l e s m b below meth c k n) L scr := by
    refine ⟨?_, ?_, ?_, hL⟩
    · show va_X (ad (95, 0)) L scr s s.heap
      rw [h95]; exact hX
    · show ad (95, 0) < s.heap.size
      rw [h95]; exact hbl
    · show ¬ aA ad idsA (ad (95, 0))
      intro h
      have := hAs _ h
      rw [h95] at this
      omega
  have hend : ∀ (i : Nat) (D : Wd), Gk (X0c G dT ad p l e s m b below meth c k n) mL_law idsA 917 (LL i) [vi (nI 1)] D := by
    intro i D H9 locs9 ls9 hH hL9
    refine va_forget (fun q hq => hAs _ (hH.2.2.2.2 q hq)) ?_
    refine W.widen hk hn ?_
    exact lw_ret hx hb hr hlocks dL_law_917
  have hD2 : va_D (aA ad idsA) (cw ad dT idsA D01) := ⟨hD.1, fun j x hj => cw_mem hj⟩
  refine va_forget (fun q hq => hS.2.2 q hq) ?_
  exact l_loop cx hs hend (L + 1) 0 D01 (by omega) (Nat.zero_le _) rel0 H [] ls ⟨hP, hD2, hS.1, fun q h1 _ => hS.2.1 q h1 (Nat.not_le.mpr h1), fun _ h => by cases h⟩ (Lr.of hl)
end FIN
