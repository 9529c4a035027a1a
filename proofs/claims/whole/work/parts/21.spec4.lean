/-! trials: the fourth row of the reference is scratch -/
def TR (D E : Wd) : Prop := (∀ i : Id2, i ≠ (31, 0) → E i = D i) ∧ ∀ q, (q < 42 ∨ 56 ≤ q) → E (31, 0) q = D (31, 0) q
theorem TR.refl (D : Wd) : TR D D := ⟨fun _ _ => rfl, fun _ _ => rfl⟩
theorem TR.trans {D E F : Wd} (h1 : TR D E) (h2 : TR E F) : TR D F := ⟨fun i hi => (h2.1 i hi).trans (h1.1 i hi), fun q hq => (h2.2 q hq).trans (h1.2 q hq)⟩
theorem TR.P {D E : Wd} {n : Nat} {k f : Nat → Nat} {dn : Nat} {dr : Nat → Nat} {pn : Nat} (t : TR D E) (h : PM D n k f dn dr pn) : PM E n k f dn dr pn := by
  obtain ⟨h1, h2, h3, h4, h5, h6, h7, h8, h9, h10⟩ := h
  exact ⟨h1, h2, by rw [t.1 _ (by decide)]; exact h3, by rw [t.1 _ (by decide)]; exact h4, by rw [t.1 _ (by decide)]; exact h5, h6, by rw [t.1 _ (by decide)]; exact h7, by rw [t.1 _ (by decide)]; exact h8, h9, by rw [t.1 _ (by decide)]; exact h10⟩
theorem TR.A {D E : Wd} {n : Nat} {a : Nat → Nat} (t : TR D E) (hn : n ≤ 8) (h : AM D 0 n a) : AM E 0 n a := by
  intro j hj
  rw [t.2 _ (by omega)]; exact h j hj
theorem TR.Rw {D E : Wd} {n : Nat} {a : Nat → Nat} (hn : n ≤ 8) (t : TR D E) : TR D (Rw E 42 n a) := by
  refine ⟨fun i hi => ?_, fun q hq => ?_⟩
  · rw [Rw.at hi]; exact t.1 i hi
  · show upA E (31, 0) (putA (E (31, 0)) 42 n a) (31, 0) q = _
    rw [upA_s, putA_out (by omega)]; exact t.2 q hq
theorem TR.cp (D : Wd) : TR D (upA D (31, 0) (cpR (D (31, 0)) 0 42 14)) := by
  refine ⟨fun i hi => upA_n D _ hi, fun q hq => ?_⟩
  rw [upA_s, cpR_out (by omega)]
theorem cp_A {D : Wd} {n : Nat} {a : Nat → Nat} (hn : n ≤ 8) (h : AM D 0 n a) : AM (upA D (31, 0) (cpR (D (31, 0)) 0 42 14)) 42 n a := by
  intro j hj
  rw [upA_s, cpR_in (by omega)]; exact h j hj
theorem cp_Pl {D : Wd} {pn : Nat} {pl : Nat → Int32} (hn : pn ≤ 5) (h : PLM D 0 pn pl) : PLM (upA D (31, 0) (cpR (D (31, 0)) 0 42 14)) 42 pn pl := by
  intro p hp
  rw [upA_s, Nat.add_assoc, cpR_in (by omega), ← Nat.add_assoc]; exact h p hp
/-- a push till a room is open, as the reference does it: the steps, and where all stands -/
def tmG (n : Nat) (k f : Nat → Nat) (dn : Nat) (dr : Nat → Nat) (i s r : Nat) : Nat → Nat → (Nat → Nat) → Nat × (Nat → Nat)
  | 0, c, a => (c, a)
  | fu + 1, c, a => if opn n a dn dr r then (c, a) else if mov n a k f i s = 0 then (c, a) else tmG n k f dn dr i s r fu (c + 1) (stp n a k f i s)
def trn (n : Nat) (k f : Nat → Nat) (dn : Nat) (dr : Nat → Nat) (i s r : Nat) (a : Nat → Nat) : Int32 := if opn n (tmG n k f dn dr i s r 72 0 a).2 dn dr r then nI (tmG n k f dn dr i s r 72 0 a).1 else -1
theorem tmG_le (n : Nat) (k f : Nat → Nat) (dn : Nat) (dr : Nat → Nat) (i s r : Nat) : ∀ fu c a, (tmG n k f dn dr i s r fu c a).1 ≤ fu + c
  | 0, c, a => by simp [tmG]
  | fu + 1, c, a => by
    rw [tmG]; split
    · simp only; omega
    · split
      · simp only; omega
      · have := tmG_le n k f dn dr i s r fu (c + 1) (stp n a k f i s); omega
theorem tmG_lt {n : Nat} {k f : Nat → Nat} {dn : Nat} {dr : Nat → Nat} {i s r : Nat} : ∀ fu c a, (∀ j, j < n → a j < 72) → ∀ j, j < n → (tmG n k f dn dr i s r fu c a).2 j < 72
  | 0, c, a, h => h
  | fu + 1, c, a, h => by
    rw [tmG]; split
    · exact h
    · split
      · exact h
      · exact tmG_lt fu (c + 1) _ (fun j hj => stp_lt (h j hj))
def turnS (n : Nat) (k f : Nat → Nat) (dn : Nat) (dr : Nat → Nat) (a : Nat → Nat) (x s r : Int32) : Int32 := if lt0 x n && lt0 r n then (if lt0 s 2 then trn n k f dn dr (ix x) (ix s) (ix r) a else -3) else -2
/-- of the first m of the leaves' sides, 2 i + side, the first with the least turn: its number and the turn, (none, 99) if none -/
def bsG (n : Nat) (k f : Nat → Nat) (dn : Nat) (dr : Nat → Nat) (r : Nat) (a : Nat → Nat) : Nat → Option Nat × Nat
  | 0 => (none, 99)
  | m + 1 => if trn n k f dn dr (m / 2) (m % 2) r a ≠ -1 ∧ ix (trn n k f dn dr (m / 2) (m % 2) r a) < (bsG n k f dn dr r a m).2 then (some m, ix (trn n k f dn dr (m / 2) (m % 2) r a)) else bsG n k f dn dr r a m
def bestS (n : Nat) (k f : Nat → Nat) (dn : Nat) (dr : Nat → Nat) (a : Nat → Nat) (x w : Int32) : Int32 := if lt0 x n then (if lt0 w 3 then (match (bsG n k f dn dr (ix x) a (2 * n)).1 with
  | none => -1
  | some v => if w = 0 then nI (bsG n k f dn dr (ix x) a (2 * n)).2 else if w = nI 1 then nI (v / 2) else nI (v % 2)) else -3) else -2
def opI (v : Option Nat) : Int32 := match v with
  | none => -1
  | some q => nI q
theorem trn_cases (n : Nat) (k f : Nat → Nat) (dn : Nat) (dr : Nat → Nat) (i s r : Nat) (a : Nat → Nat) : trn n k f dn dr i s r a = -1 ∨ ∃ t, t ≤ 72 ∧ trn n k f dn dr i s r a = nI t := by
  unfold trn; split
  · exact Or.inr ⟨_, by have := tmG_le n k f dn dr i s r 72 0 a; omega, rfl⟩
  · exact Or.inl rfl
theorem m1_ne {t : Nat} (h : t < 2 ^ 31) : nI t ≠ -1 := by
  intro e
  have h1 := nI_toInt h
  rw [e] at h1
  have h2 : (-1 : Int32).toInt = -1 := by decide
  rw [h2] at h1; omega
theorem bsG_ok {n : Nat} {k f : Nat → Nat} {dn : Nat} {dr : Nat → Nat} {r : Nat} {a : Nat → Nat} : ∀ m, (bsG n k f dn dr r a m).2 ≤ 99 ∧ ∀ v, (bsG n k f dn dr r a m).1 = some v → v < m
  | 0 => ⟨by simp [bsG], fun v h => by simp [bsG] at h⟩
  | m + 1 => by
    obtain ⟨h1, h2⟩ := bsG_ok (n := n) (k := k) (f := f) (dn := dn) (dr := dr) (r := r) (a := a) m
    rw [bsG]; split
    · rename_i h
      exact ⟨by simp only; omega, fun v hv => by simp only [Option.some.injEq] at hv; omega⟩
    · exact ⟨h1, fun v hv => Nat.lt_succ_of_lt (h2 v hv)⟩
def countS (n : Nat) (a : Nat → Nat) (dn : Nat) (dr : Nat → Nat) (pn : Nat) (pl : Nat → Int32) (hr sm len : Nat) (w : Int32) : Int32 := if lt0 w 8 then (if ix w = 0 then nI n else if ix w = 1 then nI dn else if ix w = 2 then nI pn else if ix w = 3 then nI hr else if ix w = 4 then nI (bitsN (opn n a dn dr) n) else if ix w = 5 then nI (ppl pn pl (-1)) else if ix w = 6 then nI sm else nI len) else -3
theorem bitsN_s (p : Nat → Bool) (q : Nat) {x : Int32} (hx : x = if p q then nI (2 ^ q) else nI 0) : nI (bitsN p q) ||| x = nI (bitsN p (q + 1)) := by
  subst hx
  rw [bitsN]
  by_cases h : p q = true
  · rw [if_pos h, if_pos h, nI_or]
    congr 1
    have hl := bitsN_lt p q
    rw [Nat.or_comm, Nat.add_comm]
    have h9 := Nat.two_pow_add_eq_or_of_lt hl 1
    rw [Nat.mul_one] at h9
    exact h9.symm
  · rw [if_neg h, if_neg h, nI_or]; simp
