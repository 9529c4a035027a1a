/-! the reference's reading begins -/
def Ini (D E : Wd) (n dn pn q : Nat) : Prop := FRm D E ∧ (E (30, 0) 12 = nI 0 ∧ E (30, 0) 5 = nI 0 ∧ E (30, 0) 15 = nI n ∧ E (30, 0) 19 = nI dn ∧ E (30, 0) 20 = nI pn) ∧ ∀ j, j < q → E (38, 0) j = D (31, 0) (56 + j) ∧ E (39, 0) j = D (36, 0) j
theorem Ini.z {D E : Wd} {n dn pn : Nat} (h1 : ∀ i : Id2, i ≠ (30, 0) → E i = D i) (h2 : ∀ q, q ≠ 5 → q ≠ 12 → q ≠ 15 → q ≠ 19 → q ≠ 20 → E (30, 0) q = D (30, 0) q) (h3 : E (30, 0) 12 = nI 0 ∧ E (30, 0) 5 = nI 0 ∧ E (30, 0) 15 = nI n ∧ E (30, 0) 19 = nI dn ∧ E (30, 0) 20 = nI pn) : Ini D E n dn pn 0 :=
  ⟨⟨fun i a _ _ _ _ => h1 i a, fun q a b _ _ c d e => h2 q a b c d e⟩, h3, fun j hj => by omega⟩
theorem Ini.s {D E : Wd} {n dn pn q : Nat} (h : Ini D E n dn pn q) : Ini D (upA (upA E (38, 0) (upd (E (38, 0)) q (E (31, 0) (56 + q)))) (39, 0) (upd ((upA E (38, 0) (upd (E (38, 0)) q (E (31, 0) (56 + q)))) (39, 0)) q ((upA E (38, 0) (upd (E (38, 0)) q (E (31, 0) (56 + q)))) (36, 0) q))) n dn pn (q + 1) := by
  obtain ⟨⟨f1, f2⟩, h3, h4⟩ := h
  have e36 : upA E (38, 0) (upd (E (38, 0)) q (E (31, 0) (56 + q))) (36, 0) = D (36, 0) := by rw [upA_n _ _ (by decide)]; exact f1 _ (by decide) (by decide) (by decide) (by decide) (by decide)
  have e31 : E (31, 0) = D (31, 0) := f1 _ (by decide) (by decide) (by decide) (by decide) (by decide)
  have e39 : upA E (38, 0) (upd (E (38, 0)) q (E (31, 0) (56 + q))) (39, 0) = E (39, 0) := upA_n _ _ (by decide)
  rw [e36, e39, e31]
  have e30 : ∀ f : Nat → Int32, upA (upA E (38, 0) (upd (E (38, 0)) q (D (31, 0) (56 + q)))) (39, 0) f (30, 0) = E (30, 0) := fun f => by rw [upA_n _ _ (by decide), upA_n _ _ (by decide)]
  refine ⟨⟨fun i a b c d e => by rw [upA_n _ _ d, upA_n _ _ c]; exact f1 i a b c d e, fun j a b c d e f g => by rw [e30]; exact f2 j a b c d e f g⟩, by rw [e30]; exact h3, fun j hj => ?_⟩
  rw [upA_n _ _ (by decide : ((38, 0) : Id2) ≠ (39, 0)), upA_s, upA_s]
  show (if j = q then D (31, 0) (56 + q) else E (38, 0) j) = _ ∧ (if j = q then D (36, 0) q else E (39, 0) j) = _
  by_cases x : j = q
  · rw [if_pos x, if_pos x, x]; exact ⟨rfl, rfl⟩
  · rw [if_neg x, if_neg x]; exact h4 j (by omega)
theorem Ini.d {D E : Wd} {n dn pn q : Nat} (h : Ini D E n dn pn 8) (h2 : ∀ j, j < q → E (40, 0) j = D (37, 0) j) : Ini D (upA E (40, 0) (upd (E (40, 0)) q (E (37, 0) q))) n dn pn 8 ∧ ∀ j, j < q + 1 → (upA E (40, 0) (upd (E (40, 0)) q (E (37, 0) q))) (40, 0) j = D (37, 0) j := by
  obtain ⟨⟨f1, f2⟩, h3, h4⟩ := h
  have e37 : E (37, 0) = D (37, 0) := f1 _ (by decide) (by decide) (by decide) (by decide) (by decide)
  have e30 : ∀ f : Nat → Int32, upA E (40, 0) f (30, 0) = E (30, 0) := fun f => upA_n _ _ (by decide)
  refine ⟨⟨⟨fun i a b c d e => by rw [upA_n _ _ e]; exact f1 i a b c d e, fun j a b c d e f g => by rw [e30]; exact f2 j a b c d e f g⟩, by rw [e30]; exact h3, fun j hj => by rw [upA_n _ _ (by decide : ((38, 0) : Id2) ≠ (40, 0)), upA_n _ _ (by decide : ((39, 0) : Id2) ≠ (40, 0))]; exact h4 j hj⟩, fun j hj => ?_⟩
  rw [upA_s, e37]
  show (if j = q then D (37, 0) q else E (40, 0) j) = _
  by_cases x : j = q
  · rw [if_pos x, x]
  · rw [if_neg x]; exact h2 j (by omega)
theorem Ini.RK {D E : Wd} {n : Nat} {k f : Nat → Nat} {dn : Nat} {dr : Nat → Nat} {pn : Nat} {hm t : Nat → Nat} {len : Nat} {rc : Nat → Nat × Nat} (hP : PM D n k f dn dr pn) (hH : AM D 56 n hm) (hX : TXm D t len) (h : Ini D E n dn pn 8) (h2 : ∀ j, j < 3 → E (40, 0) j = D (37, 0) j) : TXm E t len ∧ RK D (PS E (tkP t len 0) (tkE t len (tkP t len 0))) t len (n, hm, f, dn, dr, pn) 0 rc (tkP t len 0) (tkE t len (tkP t len 0)) := by
  obtain ⟨⟨f1, f2⟩, ⟨a1, a2, a3, a4, a5⟩, h4⟩ := h
  obtain ⟨h3, h8, hN, hK, hF, hd3, hDn, hDr, hp5, hPn⟩ := hP
  have hXE : TXm E t len := ⟨by rw [f2 3 (by decide) (by decide) (by decide) (by decide) (by decide) (by decide) (by decide)]; exact hX.1, hX.2.1, by rw [f1 _ (by decide) (by decide) (by decide) (by decide) (by decide)]; exact hX.2.2⟩
  have hf : ∀ q, q ≠ 12 → q ≠ 13 → q ≠ 14 → PS E (tkP t len 0) (tkE t len (tkP t len 0)) (30, 0) q = E (30, 0) q := fun q a b c => PS.f a b c
  have hg : ∀ i : Id2, i ≠ (30, 0) → PS E (tkP t len 0) (tkE t len (tkP t len 0)) i = E i := fun i a => PS.at a
  have hle := tkP_ok (t := t) (len := len) (p := 0) (by omega)
  refine ⟨hXE, hXE.PS, ⟨by rw [PS, upA_s]; rfl, by rw [PS, upA_s]; rfl, by rw [PS, upA_s]; rfl⟩, tkE_ok hle.2, ⟨h3, h8, by rw [hf _ (by decide) (by decide) (by decide)]; exact a3, fun j hj => ?_, fun j hj => ?_, hd3, by rw [hf _ (by decide) (by decide) (by decide)]; exact a4, fun j hj => ?_, hp5, by rw [hf _ (by decide) (by decide) (by decide)]; exact a5⟩, ⟨by rw [hf _ (by decide) (by decide) (by decide)]; exact a2, by omega⟩, fun q hq => by omega, ⟨fun i a b c d x => (hg i a).trans (f1 i a b c d x), fun q a b c d x y z => (hf q b c d).trans (f2 q a b c d x y z)⟩⟩
  · rw [hg _ (by decide), (h4 j (by simp only at hj; omega)).1]; exact hH j hj
  · rw [hg _ (by decide), (h4 j (by simp only at hj; omega)).2]; exact hF j hj
  · rw [hg _ (by decide), h2 j (by simp only at hj; omega)]; exact hDr j hj
def fltI (r : Rs) : Int32 := match r with
  | .inl p => nI p
  | .inr _ => -1
theorem Prs.pos {t : Nat → Nat} {len : Nat} {fu : Nat} {R : RS} {m : Nat} {rc : Nat → Nat × Nat} {p e : Nat} {res : Rs} (h : Prs t len fu R m rc p e res) : ∃ z, fu = z + 1 := by
  cases fu with
  | zero => exact h.elim
  | succ z => exact ⟨z, rfl⟩
