theorem bs_t {n : Nat} {k f : Nat → Nat} {dn : Nat} {dr : Nat → Nat} {r : Nat} {a : Nat → Nat} {q t : Nat} (he : trn n k f dn dr (q / 2) (q % 2) r a = nI t) (ht : t ≤ 72) (h : t < (bsG n k f dn dr r a q).2) : bsG n k f dn dr r a (q + 1) = (some q, t) := by
  have hc : (nI t).toNatClampNeg = t := nI_clamp (by omega)
  rw [bsG, he, if_pos ⟨m1_ne (by omega), by show (nI t).toNatClampNeg < _; rw [hc]; exact h⟩]
  show (some q, (nI t).toNatClampNeg) = _
  rw [hc]
theorem bs_f1 {n : Nat} {k f : Nat → Nat} {dn : Nat} {dr : Nat → Nat} {r : Nat} {a : Nat → Nat} {q : Nat} (he : trn n k f dn dr (q / 2) (q % 2) r a = -1) : bsG n k f dn dr r a (q + 1) = bsG n k f dn dr r a q := by
  rw [bsG, if_neg (fun h => h.1 he)]
theorem bs_f2 {n : Nat} {k f : Nat → Nat} {dn : Nat} {dr : Nat → Nat} {r : Nat} {a : Nat → Nat} {q t : Nat} (he : trn n k f dn dr (q / 2) (q % 2) r a = nI t) (ht : t ≤ 72) (h : (bsG n k f dn dr r a q).2 ≤ t) : bsG n k f dn dr r a (q + 1) = bsG n k f dn dr r a q := by
  have hc : (nI t).toNatClampNeg = t := nI_clamp (by omega)
  rw [bsG, if_neg]
  intro h9
  have h8 := h9.2
  rw [he] at h8
  change (nI t).toNatClampNeg < _ at h8
  omega
/-! the fire: who is let out in a minute -/
/-- the least of people in a room, of those from p on, fu of them -/
def frst (pl : Nat → Int32) (r : Nat) : Nat → Nat → Nat
  | 0, p => p
  | fu + 1, p => if pl p = nI r then p else frst pl r fu (p + 1)
/-- one is let out of each of the first m rooms, if it is open -/
def letG (op : Nat → Bool) (pn : Nat) : Nat → (Nat → Int32) → (Nat → Int32)
  | 0, pl => pl
  | m + 1, pl => if frst (letG op pn m pl) m pn 0 < pn ∧ op m = true then upd (letG op pn m pl) (frst (letG op pn m pl) m pn 0) (-1) else letG op pn m pl
def allO (pn : Nat) (pl : Nat → Int32) : Bool := !anyB (fun p => decide (pl p ≠ -1)) pn
def firG (n : Nat) (k f : Nat → Nat) (dn : Nat) (dr : Nat → Nat) (pn i s : Nat) : Nat → Nat → (Nat → Nat) → (Nat → Int32) → Int32
  | 0, c, _, pl => if allO pn pl then nI c else -1
  | fu + 1, c, a, pl => if allO pn pl then nI c else firG n k f dn dr pn i s fu (c + 1) (stp n a k f i s) (letG (opn n a dn dr) pn n pl)
def fireS (n : Nat) (k f : Nat → Nat) (dn : Nat) (dr : Nat → Nat) (pn : Nat) (a : Nat → Nat) (pl : Nat → Int32) (x s : Int32) : Int32 := if lt0 x n then (if lt0 s 2 then firG n k f dn dr pn (ix x) (ix s) 200 0 a pl else -3) else -2
theorem frst_le (pl : Nat → Int32) (r : Nat) : ∀ fu p, frst pl r fu p ≤ fu + p
  | 0, p => by simp [frst]
  | fu + 1, p => by
    rw [frst]; split
    · omega
    · have := frst_le pl r fu (p + 1); omega
theorem allO_0 {pn : Nat} {pl : Nat → Int32} : allO pn pl = true ↔ ∀ p, p < pn → pl p = -1 := by
  unfold allO
  constructor
  · intro h p hp
    cases hp2 : decide (pl p ≠ -1) with
    | true =>
      have : anyB (fun p => decide (pl p ≠ -1)) pn = true := anyB_iff.mpr ⟨p, hp, hp2⟩
      rw [this] at h; cases h
    | false => simpa using hp2
  · intro h
    cases hq : anyB (fun p => decide (pl p ≠ -1)) pn with
    | false => rfl
    | true =>
      obtain ⟨p, h1, h2⟩ := anyB_iff.mp hq
      simp [h p h1] at h2
/-- the trial row: angles and places -/
def PLt (D : Wd) (pn : Nat) (pl : Nat → Int32) : Prop := ∀ p, p < pn → D (31, 0) (50 + p) = pl p
theorem PLt.of {D : Wd} {pn : Nat} {pl : Nat → Int32} (h : PLM D 42 pn pl) : PLt D pn pl := fun p hp => h p hp
theorem TR.put {D E : Wd} {j : Nat} {x : Int32} (hj : j < 5) (t : TR D E) : TR D (upA E (31, 0) (upd (E (31, 0)) (50 + j) x)) := by
  refine ⟨fun i hi => ?_, fun q hq => ?_⟩
  · rw [upA_n _ _ hi]; exact t.1 i hi
  · rw [upA_s]
    show (if q = 50 + j then x else E (31, 0) q) = _
    rw [if_neg (by omega)]; exact t.2 q hq
theorem PLt.put {E : Wd} {pn j : Nat} {pl : Nat → Int32} {x : Int32} (h : PLt E pn pl) : PLt (upA E (31, 0) (upd (E (31, 0)) (50 + j) x)) pn (upd pl j x) := by
  intro p hp
  rw [upA_s]
  show (if 50 + p = 50 + j then x else E (31, 0) (50 + p)) = (if p = j then x else pl p)
  by_cases e : p = j
  · subst e; rw [if_pos rfl, if_pos rfl]
  · rw [if_neg (by omega), if_neg e]; exact h p hp
theorem AM.put {E : Wd} {n j : Nat} {a : Nat → Nat} {x : Int32} (hn : n ≤ 8) (h : AM E 42 n a) : AM (upA E (31, 0) (upd (E (31, 0)) (50 + j) x)) 42 n a := by
  intro q hq
  rw [upA_s]
  show (if 42 + q = 50 + j then x else E (31, 0) (42 + q)) = _ ∧ _
  rw [if_neg (by omega)]; exact h q hq
theorem PLt.Rw {E : Wd} {n pn : Nat} {a : Nat → Nat} {pl : Nat → Int32} (hn : n ≤ 8) (h : PLt E pn pl) : PLt (Rw E 42 n a) pn pl := by
  intro p hp
  rw [Rw.out (by omega)]; exact h p hp
