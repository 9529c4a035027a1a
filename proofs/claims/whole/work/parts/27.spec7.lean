/-! errands of the reference: a number's row of rooms -/
theorem m_setAsideR {D : Wd} {n : Nat} {a : Nat → Nat} (hn : n ≤ 8) (hA : AM D 42 n a) : Mok mX6_setAside idsA 0 [vr (30, 0)] D (fun r' E' => r' = none ∧ TS D E' ∧ AM E' 42 n a ∧ SA E' n a) :=
  Mok.imp m_setAside (fun r D' h => ⟨h.1, by rw [h.2]; exact Sas.ok hn hA⟩)
theorem m_putBackR {D : Wd} {n : Nat} {a : Nat → Nat} (hn : n ≤ 8) (hA : SA D n a) : Mok mX6_putBack idsA 0 [vr (30, 0)] D (fun r' E' => r' = none ∧ TS D E' ∧ AM E' 42 n a ∧ SA E' n a) :=
  Mok.imp m_putBack (fun r D' h => ⟨h.1, by rw [h.2]; exact Pbk.ok hn hA⟩)
theorem m_turnOnR {D : Wd} {n : Nat} {k f : Nat → Nat} {dn : Nat} {dr : Nat → Nat} {pn : Nat} (hP : PM D n k f dn dr pn) {a b : Nat → Nat} (hA : AM D 42 n a) (hS : SA D n b) {i s r : Nat} (hi : i < n) (hs : s < 2) (hr : r < n) : Mok mX6_turnOn idsA 5 [vr (30, 0), vi (nI i), vi (nI s), vi (nI r)] D (fun r' E' => r' = some (vi (trn n k f dn dr i s r a)) ∧ TS D E' ∧ AM E' 42 n (tmG n k f dn dr i s r 72 0 a).2 ∧ SA E' n b) :=
  Mok.imp (m_turnOn hP hA hi hs hr) (fun r D' h => ⟨h.1, by
    rw [h.2]
    have hn8 := hP.2.1
    exact ⟨TS.Rw hn8 (TS.refl D), Rw.A (tmG_lt 72 0 a (fun j hj => (hA j hj).2)), SA.Rw hS⟩⟩)
def fct : Nat → Nat
  | 0 => 1
  | m + 1 => (m + 1) * fct m
def nthB (v : Nat) : Nat → Nat → Nat → Nat
  | 0, _, who => who
  | fu + 1, nth, who => if v.testBit who = true ∧ nth = 0 then who else nthB v fu (nth - (if v.testBit who then 1 else 0)) (who + 1)
def clr (v w : Nat) : Nat := if v.testBit w then v - 2 ^ w else v
/-- behind k of a row's rooms: which are left, the rest of the number, the unit, which came last -/
def rwS (c v : Nat) : Nat → Nat × Nat × Nat × Nat
  | 0 => (2 ^ c - 1, v, fct (c - 1), 9)
  | q + 1 => (clr (rwS c v q).1 (nthB (rwS c v q).1 8 ((rwS c v q).2.1 / (rwS c v q).2.2.1) 0), (rwS c v q).2.1 % (rwS c v q).2.2.1, if 0 < c - 1 - q then (rwS c v q).2.2.1 / (c - 1 - q) else 1, nthB (rwS c v q).1 8 ((rwS c v q).2.1 / (rwS c v q).2.2.1) 0)
def rwOk (c v q : Nat) : Bool := decide ((rwS c v q).1 < 256) && (decide (0 < (rwS c v q).2.2.1) && (decide ((rwS c v q).2.2.1 < 1000) && (decide ((rwS c v q).2.1 < 1000) && decide (nthB (rwS c v q).1 8 ((rwS c v q).2.1 / (rwS c v q).2.2.1) 0 < c))))
theorem rwOk_all : ((List.range 6).all fun c => (List.range (fct c)).all fun v => (List.range c).all fun q => rwOk c v q) = true := by decide +kernel
theorem rwS_ok {c v q : Nat} (hc : c < 6) (hv : v < fct c) (hq : q < c) : (rwS c v q).1 < 256 ∧ 0 < (rwS c v q).2.2.1 ∧ (rwS c v q).2.2.1 < 1000 ∧ (rwS c v q).2.1 < 1000 ∧ nthB (rwS c v q).1 8 ((rwS c v q).2.1 / (rwS c v q).2.2.1) 0 < c := by
  have h := rwOk_all
  simp only [List.all_eq_true, List.mem_range] at h
  simpa [rwOk] using h c hc v hv q hq
theorem nI_clr : ∀ v, v < 256 → ∀ w, w < 8 → nI v &&& (nI (2 ^ w) ^^^ (-1)) = nI (clr v w) := by decide +kernel
theorem fct_lt : ∀ c, c < 6 → fct c ≤ 120 := by decide
theorem fct_pos : ∀ m, 0 < fct m
  | 0 => by decide
  | m + 1 => Nat.mul_pos (by omega) (fct_pos m)
theorem shl_c : ∀ c, c < 9 → nI 1 <<< (nI c &&& 31) - nI 1 = nI (2 ^ c - 1) := by decide +kernel
theorem pow_c : ∀ c, c < 9 → 2 ^ c ≤ 256 := by decide
def whI (c v q : Nat) : Int32 := if q = 0 then -1 else nI (rwS c v q).2.2.2
/-- the room at the place q of the row with number v -/
def rwR (ch : Nat → Nat) (c v q : Nat) : Nat := ch (rwS c v (q + 1)).2.2.2
/-- the first m errands of a row: the steps together, and where all stands then -/
def stG (n : Nat) (k f : Nat → Nat) (dn : Nat) (dr : Nat → Nat) (i : Nat) (rm : Nat → Nat) (a : Nat → Nat) : Nat → Option (Nat × (Nat → Nat))
  | 0 => some (0, a)
  | m + 1 => match stG n k f dn dr i rm a m with
    | none => none
    | some p => match (erG n k f dn dr i (rm m) p.2).1 with
      | none => none
      | some t => some (p.1 + t, (erG n k f dn dr i (rm m) p.2).2)
def stI (x : Option (Nat × (Nat → Nat))) : Option Nat := x.map (fun p => p.1)
def TU (D E : Wd) : Prop := (∀ i : Id2, i ≠ (31, 0) → i ≠ (42, 0) → E i = D i) ∧ ∀ q, (q < 42 ∨ 56 ≤ q) → E (31, 0) q = D (31, 0) q
theorem TU.refl (D : Wd) : TU D D := ⟨fun _ _ _ => rfl, fun _ _ => rfl⟩
theorem TU.trans {D E F : Wd} (h1 : TU D E) (h2 : TU E F) : TU D F := ⟨fun i hi hj => (h2.1 i hi hj).trans (h1.1 i hi hj), fun q hq => (h2.2 q hq).trans (h1.2 q hq)⟩
theorem TS.U {D E : Wd} (h : TS D E) : TU D E := ⟨h.1, fun q hq => h.2 q (by omega)⟩
theorem TU.cp (D : Wd) : TU D (upA D (31, 0) (cpR (D (31, 0)) 0 42 14)) := ⟨fun i hi _ => upA_n D _ hi, fun q hq => by rw [upA_s, cpR_out (by omega)]⟩
theorem TU.P {D E : Wd} {n : Nat} {k f : Nat → Nat} {dn : Nat} {dr : Nat → Nat} {pn : Nat} (t : TU D E) (h : PM D n k f dn dr pn) : PM E n k f dn dr pn := by
  obtain ⟨h1, h2, h3, h4, h5, h6, h7, h8, h9, h10⟩ := h
  exact ⟨h1, h2, by rw [t.1 _ (by decide) (by decide)]; exact h3, by rw [t.1 _ (by decide) (by decide)]; exact h4, by rw [t.1 _ (by decide) (by decide)]; exact h5, h6, by rw [t.1 _ (by decide) (by decide)]; exact h7, by rw [t.1 _ (by decide) (by decide)]; exact h8, h9, by rw [t.1 _ (by decide) (by decide)]; exact h10⟩
theorem TU.A {D E : Wd} {n : Nat} {a : Nat → Nat} (t : TU D E) (hn : n ≤ 8) (h : AM D 0 n a) : AM E 0 n a := by
  intro j hj
  rw [t.2 _ (by omega)]; exact h j hj
theorem erG_le {n : Nat} {k f : Nat → Nat} {dn : Nat} {dr : Nat → Nat} {i r : Nat} {a : Nat → Nat} {t : Nat} (h : (erG n k f dn dr i r a).1 = some t) : t ≤ 72 := by
  unfold erG at h
  split at h
  · simp only [Option.some.injEq] at h; have := tmG_le n k f dn dr i 0 r 72 0 a; omega
  · split at h
    · simp only [Option.some.injEq] at h; have := tmG_le n k f dn dr i 1 r 72 0 a; omega
    · cases h
theorem stG_le {n : Nat} {k f : Nat → Nat} {dn : Nat} {dr : Nat → Nat} {i : Nat} {rm a : Nat → Nat} : ∀ m s b, stG n k f dn dr i rm a m = some (s, b) → s ≤ 72 * m
  | 0, s, b, h => by simp only [stG, Option.some.injEq, Prod.mk.injEq] at h; omega
  | m + 1, s, b, h => by
    rw [stG] at h
    cases hs : stG n k f dn dr i rm a m with
    | none => rw [hs] at h; cases h
    | some p =>
      rw [hs] at h
      cases he : (erG n k f dn dr i (rm m) p.2).1 with
      | none => simp only [he] at h; cases h
      | some t =>
        simp only [he, Option.some.injEq, Prod.mk.injEq] at h
        have h1 := stG_le m p.1 p.2 hs
        have h2 := erG_le he
        omega
theorem stG_none {n : Nat} {k f : Nat → Nat} {dn : Nat} {dr : Nat → Nat} {i : Nat} {rm a : Nat → Nat} {q c : Nat} (h : stG n k f dn dr i rm a q = none) (hq : q ≤ c) : stG n k f dn dr i rm a c = none := by
  induction c with
  | zero => rw [show q = 0 from by omega] at h; exact h
  | succ c ih =>
    by_cases e : q = c + 1
    · rw [← e]; exact h
    · rw [stG, ih (by omega)]
