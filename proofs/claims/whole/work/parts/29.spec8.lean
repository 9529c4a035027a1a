/-! errands of the reference: which row is best -/
def updN (g : Nat → Nat) (j x : Nat) : Nat → Nat := fun q => if q = j then x else g q
/-- the rooms of a set, of the first m, by numbers -/
def chG (v : Nat) : Nat → (Nat → Nat)
  | 0 => fun _ => 0
  | m + 1 => if v.testBit m then updN (chG v m) (cntN (fun p => v.testBit p) m) m else chG v m
def ebG (cost : Nat → Option Nat) : Nat → Option Nat × Nat
  | 0 => (none, 268435456)
  | m + 1 => match cost m with
    | none => ebG cost m
    | some t => if t < (ebG cost m).2 then (some m, t) else ebG cost m
def erC (n : Nat) (k f : Nat → Nat) (dn : Nat) (dr : Nat → Nat) (a : Nat → Nat) (i v c : Nat) (m : Nat) : Option Nat := stI (stG n k f dn dr i (rwR (chG v n) c m) a c)
def erS (n : Nat) (k f : Nat → Nat) (dn : Nat) (dr : Nat → Nat) (a : Nat → Nat) (x y z : Int32) : Int32 := if lt0 x (2 ^ n) && lt0 y n then (if z < -1 then -3 else if 5 < cntN (fun p => (ix x).testBit p) 8 then -4 else
  match (ebG (erC n k f dn dr a (ix y) (ix x) (cntN (fun p => (ix x).testBit p) n)) (fct (cntN (fun p => (ix x).testBit p) n))).1 with
  | none => -1
  | some b => if z = -1 then nI (ebG (erC n k f dn dr a (ix y) (ix x) (cntN (fun p => (ix x).testBit p) n)) (fct (cntN (fun p => (ix x).testBit p) n))).2 else if z < nI (cntN (fun p => (ix x).testBit p) n) then nI (rwR (chG (ix x) n) (cntN (fun p => (ix x).testBit p) n) b (ix z)) else -1) else -2
def TV (D E : Wd) : Prop := (∀ i : Id2, i ≠ (31, 0) → i ≠ (42, 0) → i ≠ (41, 0) → i ≠ (30, 0) → E i = D i) ∧ (∀ q, q ≠ 22 → E (30, 0) q = D (30, 0) q) ∧ ∀ q, (q < 42 ∨ 56 ≤ q) → E (31, 0) q = D (31, 0) q
theorem TV.refl (D : Wd) : TV D D := ⟨fun _ _ _ _ _ => rfl, fun _ _ => rfl, fun _ _ => rfl⟩
theorem TV.U {D E F : Wd} (h : TV D E) (u : TU E F) : TV D F := ⟨fun i a b c e => (u.1 i a b).trans (h.1 i a b c e), fun q hq => (congrFun (u.1 _ (by decide) (by decide)) q).trans (h.2.1 q hq), fun q hq => (u.2 q hq).trans (h.2.2 q hq)⟩
theorem TV.P {D E : Wd} {n : Nat} {k f : Nat → Nat} {dn : Nat} {dr : Nat → Nat} {pn : Nat} (t : TV D E) (h : PM D n k f dn dr pn) : PM E n k f dn dr pn := by
  obtain ⟨h1, h2, h3, h4, h5, h6, h7, h8, h9, h10⟩ := h
  have e : ∀ i : Id2, i ≠ (31, 0) → i ≠ (42, 0) → i ≠ (41, 0) → i ≠ (30, 0) → E i = D i := t.1
  exact ⟨h1, h2, (t.2.1 6 (by decide)).trans h3, by rw [e _ (by decide) (by decide) (by decide) (by decide)]; exact h4, by rw [e _ (by decide) (by decide) (by decide) (by decide)]; exact h5, h6, (t.2.1 10 (by decide)).trans h7, by rw [e _ (by decide) (by decide) (by decide) (by decide)]; exact h8, h9, (t.2.1 11 (by decide)).trans h10⟩
theorem TV.A {D E : Wd} {n : Nat} {a : Nat → Nat} (t : TV D E) (hn : n ≤ 8) (h : AM D 0 n a) : AM E 0 n a := by
  intro j hj
  rw [t.2.2 _ (by omega)]; exact h j hj
/-- the rooms so far chosen -/
def CH (E : Wd) (c : Nat) (ch : Nat → Nat) : Prop := E (30, 0) 22 = nI c ∧ ∀ q, q < c → E (41, 0) q = nI (ch q)
theorem CH.U {E F : Wd} {c : Nat} {ch : Nat → Nat} (h : CH E c ch) (u : TU E F) : CH F c ch := ⟨(congrFun (u.1 _ (by decide) (by decide)) 22).trans h.1, fun q hq => (congrFun (u.1 _ (by decide) (by decide)) q).trans (h.2 q hq)⟩
theorem cntN_mono (p : Nat → Bool) : ∀ {m n : Nat}, m ≤ n → cntN p m ≤ cntN p n := by
  intro m n h
  induction n with
  | zero => rw [show m = 0 from by omega]; exact Nat.le_refl _
  | succ n ih =>
    by_cases e : m = n + 1
    · rw [e]; exact Nat.le_refl _
    · have := ih (by omega)
      rw [cntN]; omega
theorem chG_lt {v : Nat} : ∀ m q, q < cntN (fun p => v.testBit p) m → chG v m q < m
  | 0, q, h => by simp [cntN] at h
  | m + 1, q, h => by
    rw [cntN] at h
    rw [chG]
    by_cases hb : v.testBit m = true
    · rw [if_pos hb] at h ⊢
      unfold updN
      split
      · omega
      · have := chG_lt (v := v) m q (by omega); omega
    · rw [if_neg hb] at h ⊢
      have := chG_lt (v := v) m q h; omega
theorem TV.ch0 (D : Wd) : TV D (upA D (30, 0) (upd (D (30, 0)) 22 (nI 0))) := by
  refine ⟨fun i a b c e => upA_n D _ e, fun q hq => ?_, fun q hq => by rw [upA_n D _ (by decide)]⟩
  rw [upA_s]; show (if q = 22 then nI 0 else D (30, 0) q) = _; rw [if_neg hq]
theorem CH.ch0 (D : Wd) (ch : Nat → Nat) : CH (upA D (30, 0) (upd (D (30, 0)) 22 (nI 0))) 0 ch := ⟨by rw [upA_s]; rfl, fun q hq => by omega⟩
theorem TV.add {D E : Wd} {c m : Nat} (h : TV D E) : TV D (upA (upA E (41, 0) (upd (E (41, 0)) c (nI m))) (30, 0) (upd ((upA E (41, 0) (upd (E (41, 0)) c (nI m))) (30, 0)) 22 (nI (c + 1)))) := by
  refine ⟨fun i a b x e => by rw [upA_n _ _ e, upA_n _ _ x]; exact h.1 i a b x e, fun q hq => ?_, fun q hq => by rw [upA_n _ _ (by decide), upA_n _ _ (by decide)]; exact h.2.2 q hq⟩
  rw [upA_s, upA_n _ _ (by decide)]; show (if q = 22 then nI (c + 1) else E (30, 0) q) = _; rw [if_neg hq]; exact h.2.1 q hq
theorem CH.add {E : Wd} {c m : Nat} {ch : Nat → Nat} (h : CH E c ch) : CH (upA (upA E (41, 0) (upd (E (41, 0)) c (nI m))) (30, 0) (upd ((upA E (41, 0) (upd (E (41, 0)) c (nI m))) (30, 0)) 22 (nI (c + 1)))) (c + 1) (updN ch c m) := by
  refine ⟨by rw [upA_s]; rfl, fun q hq => ?_⟩
  rw [upA_n _ _ (by decide), upA_s]
  show (if q = c then nI m else E (41, 0) q) = nI (if q = c then m else ch q)
  by_cases e : q = c
  · rw [if_pos e, if_pos e]
  · rw [if_neg e, if_neg e]; exact h.2 q (by omega)
theorem cnt5 (v : Nat) : ∀ n, n ≤ 8 → cntN (fun p => v.testBit p) n ≤ cntN (fun p => v.testBit p) 8 := fun n h => cntN_mono _ h
theorem ebG_ok {cost : Nat → Option Nat} {B : Nat} (hB : B ≤ 268435456) : ∀ m, (∀ q t, q < m → cost q = some t → t ≤ B) → (ebG cost m).2 ≤ 268435456 ∧ ∀ b, (ebG cost m).1 = some b → b < m
  | 0, _ => ⟨by simp [ebG], fun b h => by simp [ebG] at h⟩
  | m + 1, hc => by
    obtain ⟨h1, h2⟩ := ebG_ok hB m (fun q t hq => hc q t (by omega))
    rw [ebG]
    cases hcm : cost m with
    | none => exact ⟨h1, fun b h => Nat.lt_succ_of_lt (h2 b h)⟩
    | some t =>
      simp only
      split
      · exact ⟨by have := hc m t (by omega) hcm; simp only; omega, fun b h => by simp only [Option.some.injEq] at h; omega⟩
      · exact ⟨h1, fun b h => Nat.lt_succ_of_lt (h2 b h)⟩
theorem erC_le {n : Nat} {k f : Nat → Nat} {dn : Nat} {dr : Nat → Nat} {a : Nat → Nat} {i v c m t : Nat} (h : erC n k f dn dr a i v c m = some t) : t ≤ 72 * c := by
  unfold erC stI at h
  cases hs : stG n k f dn dr i (rwR (chG v n) c m) a c with
  | none => rw [hs] at h; cases h
  | some p =>
    rw [hs] at h
    simp only [Option.map_some, Option.some.injEq] at h
    have := stG_le c p.1 p.2 hs
    omega
theorem m1_lt {x : Int32} (h : ¬ -1 ≤ x) : x < -1 := Int32.not_le.mp h
theorem z_nI {z : Int32} (h1 : -1 ≤ z) (h2 : ¬ z = -1) : ∃ j : Nat, j < 2 ^ 31 ∧ z = nI j := by
  apply nI_of
  intro h
  rw [Int32.lt_iff_toInt_lt, Int32.toInt_zero] at h
  rw [Int32.le_iff_toInt_le, show (-1 : Int32).toInt = -1 from by decide] at h1
  apply h2
  apply Int32.toInt_inj.mp
  rw [show (-1 : Int32).toInt = -1 from by decide]
  omega
