/-! the class's search for the least round -/
def bl (v m : Nat) : List Nat := (List.range m).filter (fun x => v.testBit x)
theorem bl_y {v m : Nat} (h : v.testBit m = true) : bl v (m + 1) = bl v m ++ [m] := by simp [bl, List.range_succ, h]
theorem bl_n {v m : Nat} (h : ¬ v.testBit m = true) : bl v (m + 1) = bl v m := by simp [bl, List.range_succ, h]
def visW (n : Nat) (k f : Nat → Nat) (dn : Nat) (dr : Nat → Nat) (i : Nat) : Nat → List Nat → Nat → (Nat → Nat) → List Nat → Nat × List Nat → Nat × List Nat
  | 0, _, sp, _, od, _ => (sp, od)
  | c + 1, l, sp, a, od, st => l.foldl (fun st x => match lmO (erG n k f dn dr i x a).1 (st.1 - sp) with
      | none => st
      | some t => visW n k f dn dr i c (l.erase x) (sp + t) (erG n k f dn dr i x a).2 (od ++ [x]) st) st
def vst (n : Nat) (k f : Nat → Nat) (dn : Nat) (dr : Nat → Nat) (i c : Nat) (l : List Nat) (sp : Nat) (a : Nat → Nat) (od : List Nat) (st : Nat × List Nat) (x : Nat) : Nat × List Nat := match lmO (erG n k f dn dr i x a).1 (st.1 - sp) with
  | none => st
  | some t => visW n k f dn dr i c (l.erase x) (sp + t) (erG n k f dn dr i x a).2 (od ++ [x]) st
theorem visW_s (n : Nat) (k f : Nat → Nat) (dn : Nat) (dr : Nat → Nat) (i c : Nat) (l : List Nat) (sp : Nat) (a : Nat → Nat) (od : List Nat) (st : Nat × List Nat) : visW n k f dn dr i (c + 1) l sp a od st = l.foldl (vst n k f dn dr i c l sp a od) st := rfl
def vsL (n : Nat) (k f : Nat → Nat) (dn : Nat) (dr : Nat → Nat) (i c v sp : Nat) (a : Nat → Nat) (od : List Nat) (st : Nat × List Nat) (m : Nat) : Nat × List Nat := (bl v m).foldl (vst n k f dn dr i c (bl v n) sp a od) st
theorem vis_bd {n : Nat} {k f : Nat → Nat} {dn : Nat} {dr : Nat → Nat} {i : Nat} : ∀ c l sp a od st, sp ≤ st.1 → sp ≤ (visW n k f dn dr i c l sp a od st).1 ∧ (visW n k f dn dr i c l sp a od st).1 ≤ st.1
  | 0, l, sp, a, od, st, h => ⟨Nat.le_refl _, h⟩
  | c + 1, l, sp, a, od, st, h => by
    rw [visW_s]
    have key : ∀ (l2 : List Nat) (s : Nat × List Nat), sp ≤ s.1 → s.1 ≤ st.1 → sp ≤ (l2.foldl (vst n k f dn dr i c l sp a od) s).1 ∧ (l2.foldl (vst n k f dn dr i c l sp a od) s).1 ≤ st.1 := by
      intro l2
      induction l2 with
      | nil => intro s h1 h2; exact ⟨h1, h2⟩
      | cons x l3 ih =>
        intro s h1 h2
        rw [List.foldl_cons]
        unfold vst
        cases hl : lmO (erG n k f dn dr i x a).1 (s.1 - sp) with
        | none => exact ih s h1 h2
        | some t =>
          have ht := (lmO_lt hl).1
          have := vis_bd (n := n) (k := k) (f := f) (dn := dn) (dr := dr) (i := i) c (l.erase x) (sp + t) (erG n k f dn dr i x a).2 (od ++ [x]) s (by omega)
          exact ih _ (by dsimp only; omega) (by dsimp only; omega)
    exact key l st h (Nat.le_refl _)
theorem vst_bd {n : Nat} {k f : Nat → Nat} {dn : Nat} {dr : Nat → Nat} {i c : Nat} {l : List Nat} {sp : Nat} {a : Nat → Nat} {od : List Nat} : ∀ (l2 : List Nat) (s : Nat × List Nat), sp ≤ s.1 → sp ≤ (l2.foldl (vst n k f dn dr i c l sp a od) s).1 ∧ (l2.foldl (vst n k f dn dr i c l sp a od) s).1 ≤ s.1
  | [], s, h => ⟨h, Nat.le_refl _⟩
  | x :: l3, s, h => by
    rw [List.foldl_cons]
    have e : sp ≤ (vst n k f dn dr i c l sp a od s x).1 ∧ (vst n k f dn dr i c l sp a od s x).1 ≤ s.1 := by
      unfold vst
      cases hl : lmO (erG n k f dn dr i x a).1 (s.1 - sp) with
      | none => exact ⟨h, Nat.le_refl _⟩
      | some t =>
        have ht := (lmO_lt hl).1
        have := vis_bd (n := n) (k := k) (f := f) (dn := dn) (dr := dr) (i := i) c (l.erase x) (sp + t) (erG n k f dn dr i x a).2 (od ++ [x]) s (by omega)
        dsimp only; omega
    have := vst_bd (n := n) (k := k) (f := f) (dn := dn) (dr := dr) (i := i) (c := c) (l := l) (a := a) (od := od) l3 _ e.1
    omega
theorem vs_0 {n : Nat} {k f : Nat → Nat} {dn : Nat} {dr : Nat → Nat} {i c v sp : Nat} {a : Nat → Nat} {od : List Nat} {st : Nat × List Nat} : vsL n k f dn dr i c v sp a od st 0 = st := rfl
theorem vs_bit {n : Nat} {k f : Nat → Nat} {dn : Nat} {dr : Nat → Nat} {i c v sp : Nat} {a : Nat → Nat} {od : List Nat} {st : Nat × List Nat} {m : Nat} (h : v.testBit m = true) : vsL n k f dn dr i c v sp a od st (m + 1) = vst n k f dn dr i c (bl v n) sp a od (vsL n k f dn dr i c v sp a od st m) m := by
  unfold vsL; rw [bl_y h, List.foldl_append]; rfl
theorem vs_nb {n : Nat} {k f : Nat → Nat} {dn : Nat} {dr : Nat → Nat} {i c v sp : Nat} {a : Nat → Nat} {od : List Nat} {st : Nat × List Nat} {m : Nat} (h : ¬ v.testBit m = true) : vsL n k f dn dr i c v sp a od st (m + 1) = vsL n k f dn dr i c v sp a od st m := by
  unfold vsL; rw [bl_n h]
theorem vs_none {n : Nat} {k f : Nat → Nat} {dn : Nat} {dr : Nat → Nat} {i c v sp : Nat} {a : Nat → Nat} {od : List Nat} {st : Nat × List Nat} {m : Nat} (h : v.testBit m = true) (h2 : lmO (erG n k f dn dr i m a).1 ((vsL n k f dn dr i c v sp a od st m).1 - sp) = none) : vsL n k f dn dr i c v sp a od st (m + 1) = vsL n k f dn dr i c v sp a od st m := by
  rw [vs_bit h]; unfold vst; rw [h2]
theorem vs_some {n : Nat} {k f : Nat → Nat} {dn : Nat} {dr : Nat → Nat} {i c v sp : Nat} {a : Nat → Nat} {od : List Nat} {st : Nat × List Nat} {m t : Nat} (h : v.testBit m = true) (h2 : lmO (erG n k f dn dr i m a).1 ((vsL n k f dn dr i c v sp a od st m).1 - sp) = some t) : vsL n k f dn dr i c v sp a od st (m + 1) = visW n k f dn dr i c ((bl v n).erase m) (sp + t) (erG n k f dn dr i m a).2 (od ++ [m]) (vsL n k f dn dr i c v sp a od st m) := by
  rw [vs_bit h]; unfold vst; rw [h2]
theorem bl_clrB : ∀ n, n < 9 → ∀ v, v < 2 ^ n → ∀ m, m < n → (!(v.testBit m) || (decide (bl (clr v m) n = (bl v n).erase m) && (decide (clr v m < 2 ^ n) && decide (((bl v n).erase m).length + 1 = (bl v n).length)))) = true := by decide +kernel
theorem bl_clr (n : Nat) (hn : n < 9) (v : Nat) (hv : v < 2 ^ n) (m : Nat) (hm : m < n) (h : v.testBit m = true) : bl (clr v m) n = (bl v n).erase m ∧ clr v m < 2 ^ n ∧ ((bl v n).erase m).length + 1 = (bl v n).length := by
  have := bl_clrB n hn v hv m hm
  rw [h] at this
  simpa using this
theorem nI_clr2 : ∀ v, v < 256 → ∀ m, m < 8 → nI v &&& (nI (2 ^ m) ^^^ -1) = nI (clr v m) := by decide +kernel
theorem bl_len : ∀ n, n < 9 → ∀ v, v < 2 ^ n → (bl v n).length = cntN (fun p => v.testBit p) n ∧ cntN (fun p => v.testBit p) n = cntN (fun p => v.testBit p) 8 ∧ (v ≠ 0 → 0 < (bl v n).length) := by decide +kernel
theorem bl_z (n : Nat) : bl 0 n = [] := by simp [bl]
/-- cells of the round itself -/
def FG (D E : Wd) : Prop := ∀ i : Id2, i.1 = 14 ∨ i.1 = 16 ∨ i.1 = 17 → E i = D i
theorem FG.rf {D : Wd} : FG D D := fun _ _ => rfl
theorem FG.cp {D E : Wd} {g c : Nat} (h : FG D E) : FG D (CpH E g c) := fun i hi => by rw [CpH.o (by omega) (by omega) (by omega)]; exact h i hi
theorem FG.rx {D E : Wd} {c n : Nat} {b : Nat → Nat} (h : FG D E) : FG D (RX E c n b) := fun i hi => by
  rw [RX.at (fun e => by rw [e] at hi; simp at hi)]; exact h i hi
def VP (q cc : Nat) (D E : Wd) (S : Nat × List Nat) : Prop := FV (q + 6) D E ∧ E (14, 0) 6 = nI S.1 ∧ E (14, 0) 5 = D (14, 0) 5 ∧ (∀ j, j < cc → E (17, 0) j = nI (S.2.getD j 0)) ∧ ∀ j, j < q → E (16, 0) j = D (16, 0) j
theorem VP.s {q cc : Nat} {D E E1 E2 : Wd} {S S2 : Nat × List Nat} {m : Nat} (hV : VP q cc D E S) (hF1 : FV (q + 6) E E1) (hG1 : FG E E1) (hV2 : VP (q + 1) cc (upA E1 (16, 0) (upd (E1 (16, 0)) q (nI m))) E2 S2) : VP q cc D E2 S2 := by
  obtain ⟨v1, v2, v3, v4, v5⟩ := hV
  obtain ⟨w1, w2, w3, w4, w5⟩ := hV2
  refine ⟨((v1.tr hF1).tr (FV.rf.up (by decide) (fun h => absurd h (by decide)))).tr (w1.mo (by omega)), w2, ?_, w4, fun j hj => ?_⟩
  · rw [w3, upA_n _ _ (by decide), hG1 _ (Or.inl rfl)]; exact v3
  · rw [w5 j (by omega), upA_s, hG1 _ (Or.inr (Or.inl rfl))]
    show (if j = q then _ else E (16, 0) j) = _
    rw [if_neg (by omega)]; exact v5 j hj
theorem VP.n {q cc : Nat} {D E E1 : Wd} {S : Nat × List Nat} (hV : VP q cc D E S) (hF1 : FV (q + 6) E E1) (hG1 : FG E E1) : VP q cc D E1 S := by
  obtain ⟨v1, v2, v3, v4, v5⟩ := hV
  refine ⟨v1.tr hF1, by rw [hG1 _ (Or.inl rfl)]; exact v2, by rw [hG1 _ (Or.inl rfl)]; exact v3, by rw [hG1 _ (Or.inr (Or.inr rfl))]; exact v4, by rw [hG1 _ (Or.inr (Or.inl rfl))]; exact v5⟩
theorem VP.z {q : Nat} {D : Wd} {sp : Nat} {od : List Nat} (hq : q ≤ 5) (hO : ∀ j, j < q → D (16, 0) j = nI (od.getD j 0)) : VP q q D (upA (upA D (14, 0) (upd (D (14, 0)) 6 (nI sp))) (17, 0) (va_cpy ((upA D (14, 0) (upd (D (14, 0)) 6 (nI sp))) (16, 0)) ((upA D (14, 0) (upd (D (14, 0)) 6 (nI sp))) (17, 0)) 0 0 5)) (sp, od) := by
  refine ⟨(FV.rf.up (by decide) (fun h => absurd h (by decide))).up (by decide) (fun h => absurd h (by decide)), by rw [upA_n _ _ (by decide), upA_s]; rfl, by rw [upA_n _ _ (by decide), upA_s]; rfl, fun j hj => ?_, fun j hj => by rw [upA_n _ _ (by decide), upA_n _ _ (by decide)]⟩
  rw [upA_s, cpy_in (by omega), upA_n _ _ (by decide)]
  exact hO j hj
theorem VP.r {q cc : Nat} {D : Wd} {S : Nat × List Nat} (h1 : D (14, 0) 6 = nI S.1) (h2 : ∀ j, j < cc → D (17, 0) j = nI (S.2.getD j 0)) : VP q cc D D S := ⟨FV.rf, h1, rfl, h2, fun _ _ => rfl⟩
theorem od_s {q m : Nat} {D E : Wd} {od : List Nat} (hl : od.length = q) (h : ∀ j, j < q → E (16, 0) j = nI (od.getD j 0)) : ∀ j, j < q + 1 → (upA E (16, 0) (upd (E (16, 0)) q (nI m))) (16, 0) j = nI ((od ++ [m]).getD j 0) := by
  intro j hj
  rw [upA_s]
  show (if j = q then nI m else E (16, 0) j) = _
  by_cases e : j = q
  · subst e; rw [if_pos rfl, ← hl]; simp
  · rw [if_neg e, h j (by omega), List.getD_eq_getElem?_getD, List.getD_eq_getElem?_getD, List.getElem?_append_left (by omega)]
