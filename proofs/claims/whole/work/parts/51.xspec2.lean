/-! THE CLASS: houses copied, what is left as it was -/
def CpH (D : Wd) (g h : Nat) : Wd := upA (upA (upA D (10, h) (va_cpy (D (10, g)) (D (10, h)) 0 0 8)) (11, h) (va_cpy (D (11, g)) (D (11, h)) 0 0 5)) (9, h) (upd (D (9, h)) 3 (D (9, g) 3))
def BgH (D : Wd) : Wd := upA (upA (upA D (10, 0) (va_cpy (D (2, 0)) (D (10, 0)) 0 0 8)) (11, 0) (va_cpy (D (6, 0)) (D (11, 0)) 0 0 5)) (9, 0) (upd (D (9, 0)) 3 (nI 0))
theorem cpy_in {f g : Nat → Int32} {m j : Nat} (h : j < m) : va_cpy f g 0 0 m j = f j := by
  unfold va_cpy; rw [if_pos ⟨Nat.zero_le _, by omega⟩]; simp
theorem CpH.at {D : Wd} {g h : Nat} {i : Id2} (h1 : i ≠ (9, h)) (h2 : i ≠ (10, h)) (h3 : i ≠ (11, h)) : CpH D g h i = D i := by
  rw [CpH, upA_n _ _ h1, upA_n _ _ h3, upA_n _ _ h2]
theorem CpH.o {D : Wd} {g h : Nat} {i : Id2} (h1 : i.1 ≠ 9) (h2 : i.1 ≠ 10) (h3 : i.1 ≠ 11) : CpH D g h i = D i :=
  CpH.at (fun e => h1 (by rw [e])) (fun e => h2 (by rw [e])) (fun e => h3 (by rw [e]))
theorem CpH.a {D : Wd} {g h j : Nat} (hj : j < 8) : CpH D g h (10, h) j = D (10, g) j := by
  rw [CpH, upA_n _ _ (neK (by decide) _ _), upA_n _ _ (neK (by decide) _ _), upA_s]; exact cpy_in hj
theorem CpH.p {D : Wd} {g h j : Nat} (hj : j < 5) : CpH D g h (11, h) j = D (11, g) j := by
  rw [CpH, upA_n _ _ (neK (by decide) _ _), upA_s]; exact cpy_in hj
theorem CpH.r {D : Wd} {g h : Nat} : CpH D g h (9, h) 3 = D (9, g) 3 := by rw [CpH, upA_s]; rfl
theorem CpH.P {D : Wd} {g h : Nat} {w n : Nat} {k f : Nat → Nat} {dn : Nat} {dr : Nat → Nat} {pn : Nat} (p : PX D w n k f dn dr pn) : PX (CpH D g h) w n k f dn dr pn := by
  obtain ⟨h1, h2, h3, h4, h5, h6, h7, h8, h9, h10⟩ := p
  have e : ∀ q, q < 9 → CpH D g h (q, w) = D (q, w) := fun q hq => CpH.o (by show q ≠ 9; omega) (by show q ≠ 10; omega) (by show q ≠ 11; omega)
  exact ⟨h1, h2, by rw [e _ (by decide)]; exact h3, by rw [e _ (by decide)]; exact h4, by rw [e _ (by decide)]; exact h5, h6, by rw [e _ (by decide)]; exact h7, by rw [e _ (by decide)]; exact h8, h9, by rw [e _ (by decide)]; exact h10⟩
theorem CpH.A {D : Wd} {g h n : Nat} {a : Nat → Nat} (hn : n ≤ 8) (p : AX D g n a) : AX (CpH D g h) h n a := fun j hj => by
  rw [CpH.a (by omega)]; exact p j hj
theorem CpH.Pl {D : Wd} {g h pn : Nat} {pl : Nat → Int32} (hn : pn ≤ 5) (p : PLX D g pn pl) : PLX (CpH D g h) h pn pl := fun j hj => by
  rw [CpH.p (by omega)]; exact p j hj
theorem CpH.An {D : Wd} {g h c n : Nat} {a : Nat → Nat} (hc : c ≠ h) (p : AX D c n a) : AX (CpH D g h) c n a := fun j hj => by
  rw [CpH.at (neK (by decide) _ _) (fun e => hc (congrArg Prod.snd e)) (neK (by decide) _ _)]; exact p j hj
/-- the cells that the class uses to try things: its second house, and those of its errands -/
def Scr (i : Id2) : Bool := ((i.1 == 9 || i.1 == 10 || i.1 == 11) && (i.2 == 1 || decide (4 ≤ i.2))) || (i.1 == 14 || i.1 == 16 || i.1 == 17)
def TX (D E : Wd) : Prop := ∀ i, Scr i = false → E i = D i
theorem TX.rf {D : Wd} : TX D D := fun _ _ => rfl
theorem TX.tr {D E F : Wd} (h : TX D E) (g : TX E F) : TX D F := fun i hi => (g i hi).trans (h i hi)
theorem TX.up {D E : Wd} {i : Id2} {f : Nat → Int32} (h : TX D E) (hi : Scr i = true) : TX D (upA E i f) := fun j hj => by
  rw [upA_n _ _ (fun e => by rw [e, hi] at hj; cases hj)]; exact h j hj
theorem scr9 {h : Nat} (hh : h = 1 ∨ 4 ≤ h) : Scr (9, h) = true ∧ Scr (10, h) = true ∧ Scr (11, h) = true := by
  rcases hh with rfl | h4
  · decide
  · simp [Scr, h4]
theorem TX.cp {D E : Wd} {g h : Nat} (t : TX D E) (hh : h = 1 ∨ 4 ≤ h) : TX D (CpH E g h) := ((t.up (scr9 hh).2.1).up (scr9 hh).2.2).up (scr9 hh).1
theorem TX.rx {D E : Wd} {h n : Nat} {a : Nat → Nat} (t : TX D E) (hh : h = 1 ∨ 4 ≤ h) : TX D (RX E h n a) := t.up (scr9 hh).2.1
theorem TX.pw {D E : Wd} {h n : Nat} {a : Nat → Int32} (t : TX D E) (hh : h = 1 ∨ 4 ≤ h) : TX D (PW E h n a) := t.up (scr9 hh).2.2
theorem TX.P {D E : Wd} {w n : Nat} {k f : Nat → Nat} {dn : Nat} {dr : Nat → Nat} {pn : Nat} (t : TX D E) (p : PX D w n k f dn dr pn) : PX E w n k f dn dr pn := by
  obtain ⟨h1, h2, h3, h4, h5, h6, h7, h8, h9, h10⟩ := p
  have e : ∀ q, q < 9 → E (q, w) = D (q, w) := fun q hq => t _ (by unfold Scr; simp; omega)
  exact ⟨h1, h2, by rw [e _ (by decide)]; exact h3, by rw [e _ (by decide)]; exact h4, by rw [e _ (by decide)]; exact h5, h6, by rw [e _ (by decide)]; exact h7, by rw [e _ (by decide)]; exact h8, h9, by rw [e _ (by decide)]; exact h10⟩
theorem TX.A {D E : Wd} {n : Nat} {a : Nat → Nat} (t : TX D E) (p : AX D 0 n a) : AX E 0 n a := by unfold AX; rw [t _ rfl]; exact p
theorem TX.Pl {D E : Wd} {n : Nat} {a : Nat → Int32} (t : TX D E) (p : PLX D 0 n a) : PLX E 0 n a := by unfold PLX; rw [t _ rfl]; exact p
theorem let_op {op : Nat → Bool} {pn q : Nat} {pl : Nat → Int32} (h : op q = true) : (if frst (letG op pn q pl) q pn 0 < pn then upd (letG op pn q pl) (frst (letG op pn q pl) q pn 0) (-1) else letG op pn q pl) = letG op pn (q + 1) pl := by
  rw [letG]
  by_cases c : frst (letG op pn q pl) q pn 0 < pn
  · rw [if_pos c, if_pos ⟨c, h⟩]
  · rw [if_neg c, if_neg (fun e => c e.1)]
theorem let_no {op : Nat → Bool} {pn q : Nat} {pl : Nat → Int32} (h : ¬ op q = true) : letG op pn q pl = letG op pn (q + 1) pl := by
  rw [letG, if_neg (fun e => h e.2)]
theorem min_shw {a c : Nat} (h : onN a c < 72) : (if nI (72 - onN a c) < nI (onN a c) then nI (72 - onN a c) else nI (onN a c)) = nI (shw a c) := by
  unfold shw
  by_cases e : 72 - onN a c < onN a c
  · rw [if_pos ((nI_ltI (by omega) (by omega)).mpr e), if_neg (by omega)]
  · rw [if_neg (fun x => e ((nI_ltI (by omega) (by omega)).mp x))]
    by_cases f : onN a c < 72 - onN a c
    · rw [if_pos f]
    · rw [if_neg f]; congr 1; omega
theorem ls_y {lf an : Nat → Nat} {i h m : Nat} (e : lf m = i) : lsG lf an i h (m + 1) = ((lsG lf an i h m).1 + shw (lsG lf an i h m).2 (an m), an m) := by rw [lsG, if_pos e]
theorem ls_n {lf an : Nat → Nat} {i h m : Nat} (e : lf m ≠ i) : lsG lf an i h (m + 1) = lsG lf an i h m := by rw [lsG, if_neg e]
def usr (x y : Int32) : Int32 := (x.toUInt32 >>> (y.toUInt32 &&& Int32.toUInt32 31)).toInt32
def bc1 (x : Int32) : Int32 := x - (usr x (nI 1) &&& 1431655765)
def bc2 (x : Int32) : Int32 := (x &&& 858993459) + (usr x (nI 2) &&& 858993459)
def bc3 (x : Int32) : Int32 := (x + usr x (nI 4)) &&& 252645135
def bc4 (x : Int32) : Int32 := x + usr x (nI 8)
def bc5 (x : Int32) : Int32 := x + usr x (nI 16)
theorem bc_eq : ∀ v, v < 256 → bc5 (bc4 (bc3 (bc2 (bc1 (nI v))))) &&& nI 63 = nI (cntN (fun p => v.testBit p) 8) := by decide +kernel
/-! tests of bounds, as the class writes them -/
theorem lt_y {x : Int32} {n : Nat} (hn : n < 2 ^ 31) (h1 : ¬ x < 0) (h2 : x < nI n) : lt0 x n = true := has_y hn h1 (by
  rw [Int32.le_iff_toInt_le]; rw [Int32.lt_iff_toInt_lt] at h2; omega)
theorem lt_n {x : Int32} {n : Nat} (hn : n < 2 ^ 31) (h2 : ¬ x < nI n) : ¬ lt0 x n = true := has_n2 hn (by
  rw [Int32.le_iff_toInt_le]; rw [Int32.lt_iff_toInt_lt] at h2; omega)
theorem le_y {x : Int32} {n : Nat} (hn : n < 2 ^ 30) (h1 : ¬ x < 0) (h2 : x ≤ nI n) : lt0 x (n + 1) = true := by
  rw [lt0_iff]
  rw [Int32.lt_iff_toInt_lt, Int32.toInt_zero] at h1
  rw [Int32.le_iff_toInt_le, nI_toInt (by omega)] at h2
  omega
theorem le_n {x : Int32} {n : Nat} (hn : n < 2 ^ 30) (h2 : ¬ x ≤ nI n) : ¬ lt0 x (n + 1) = true := by
  rw [lt0_iff]
  rw [Int32.le_iff_toInt_le, nI_toInt (by omega)] at h2
  omega
theorem rg_y {x : Int32} {a b : Nat} (ha : a < 2 ^ 30) (hb : b < 2 ^ 30) (h1 : ¬ x < nI a) (h2 : x ≤ nI b) : rng x a b = true := by
  rw [rng_iff]
  rw [Int32.lt_iff_toInt_lt, nI_toInt (by omega)] at h1
  rw [Int32.le_iff_toInt_le, nI_toInt (by omega)] at h2
  omega
theorem rg_n1 {x : Int32} {a b : Nat} (ha : a < 2 ^ 30) (h1 : x < nI a) : ¬ rng x a b = true := by
  rw [rng_iff]
  rw [Int32.lt_iff_toInt_lt, nI_toInt (by omega)] at h1
  omega
theorem rg_n2 {x : Int32} {a b : Nat} (hb : b < 2 ^ 30) (h2 : ¬ x ≤ nI b) : ¬ rng x a b = true := by
  rw [rng_iff]
  rw [Int32.le_iff_toInt_le, nI_toInt (by omega)] at h2
  omega
theorem isAs_tak : ∀ q, q < 4 → ∀ j, j < 5 → isAs q (nI j) = takB q j := by decide
