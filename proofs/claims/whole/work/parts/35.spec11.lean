/-! a line: what stands behind its word -/
def NumY (t : Nat → Nat) (len lo hi p e v : Nat) : Prop := nO t len p e = some v ∧ lo ≤ v ∧ v ≤ hi
def NumN (t : Nat → Nat) (len lo hi p e : Nat) : Prop := okN lo hi (nO t len p e) = false
def putH (R : RS) (a : Nat) : Nat := if onN (R.2.1 a) (R.2.1 (nx R.1 a)) - 1 < 20 then onN (R.2.1 a) (R.2.1 (nx R.1 a)) - 1 else 20
def LnY (t : Nat → Nat) (len : Nat) (R : RS) (w p e a b p' e' : Nat) : Prop :=
  (w = 9 ∧ a = 0 ∧ b = 0 ∧ p' = p ∧ e' = e) ∨ (w = 0 ∧ NumY t len 3 8 p e a ∧ b = 0 ∧ p' = tkP t len e ∧ e' = tkE t len p') ∨
  (((w = 2 ∨ w = 3) ∨ (w = 4 ∨ w = 5) ∨ w = 8) ∧ NumY t len 0 (R.1 - 1) p e a ∧ b = 0 ∧ p' = tkP t len e ∧ e' = tkE t len p') ∨
  (w = 7 ∧ NumY t len 0 71 p e a ∧ newD R a = true ∧ b = 0 ∧ p' = tkP t len e ∧ e' = tkE t len p') ∨
  (w = 1 ∧ NumY t len 0 (R.1 - 1) p e a ∧ NumY t len 0 71 (tkP t len e) (tkE t len (tkP t len e)) b ∧ fitA R a b = true ∧ p' = tkP t len (tkE t len (tkP t len e)) ∧ e' = tkE t len p') ∨
  (w = 6 ∧ NumY t len 0 (R.1 - 1) p e a ∧ NumY t len 0 (putH R a) (tkP t len e) (tkE t len (tkP t len e)) b ∧ p' = tkP t len (tkE t len (tkP t len e)) ∧ e' = tkE t len p')
def LnN (t : Nat → Nat) (len : Nat) (R : RS) (w p e p' e' : Nat) : Prop :=
  (w = 0 ∧ NumN t len 3 8 p e ∧ p' = p ∧ e' = e) ∨
  (((w = 2 ∨ w = 3) ∨ (w = 4 ∨ w = 5) ∨ w = 8) ∧ NumN t len 0 (R.1 - 1) p e ∧ p' = p ∧ e' = e) ∨
  (w = 7 ∧ (NumN t len 0 71 p e ∨ ∃ v, NumY t len 0 71 p e v ∧ newD R v = false) ∧ p' = p ∧ e' = e) ∨
  ((w = 1 ∨ w = 6) ∧ NumN t len 0 (R.1 - 1) p e ∧ p' = p ∧ e' = e) ∨
  (w = 1 ∧ (∃ a, NumY t len 0 (R.1 - 1) p e a ∧ (NumN t len 0 71 (tkP t len e) (tkE t len (tkP t len e)) ∨ ∃ b, NumY t len 0 71 (tkP t len e) (tkE t len (tkP t len e)) b ∧ fitA R a b = false)) ∧ p' = tkP t len e ∧ e' = tkE t len p') ∨
  (w = 6 ∧ (∃ a, NumY t len 0 (R.1 - 1) p e a ∧ NumN t len 0 (putH R a) (tkP t len e) (tkE t len (tkP t len e))) ∧ p' = tkP t len e ∧ e' = tkE t len p')
/-- what a line does to what is read -/
def goR (R : RS) (w a b : Nat) : RS :=
  if w = 0 then (a, fun i => 72 * i / a, fun _ => 0, 0, R.2.2.2.2.1, 0)
  else if w = 1 then (R.1, updN R.2.1 a b, R.2.2)
  else if w = 6 then (R.1, R.2.1, updN R.2.2.1 a b, R.2.2.2)
  else if w = 7 then (R.1, R.2.1, R.2.2.1, R.2.2.2.1 + 1, updN R.2.2.2.2.1 R.2.2.2.1 a, R.2.2.2.2.2)
  else if w = 8 then (R.1, R.2.1, R.2.2.1, R.2.2.2.1, R.2.2.2.2.1, R.2.2.2.2.2 + 1)
  else if w = 9 then (R.1, R.2.1, R.2.2.1, R.2.2.2.1, R.2.2.2.2.1, 0)
  else R
theorem num_em (t : Nat → Nat) (len lo hi p e : Nat) : (∃ v, NumY t len lo hi p e v) ∨ NumN t len lo hi p e := by
  unfold NumY NumN
  cases h : nO t len p e with
  | none => exact Or.inr rfl
  | some v =>
    by_cases h1 : lo ≤ v
    · by_cases h2 : v ≤ hi
      · exact Or.inl ⟨v, rfl, h1, h2⟩
      · right; simp [okN, h1, h2]
    · right; simp [okN, h1]
/-- the rest of a line either stands, or it has a fault -/
theorem ln_em (t : Nat → Nat) (len : Nat) (R : RS) {w : Nat} (hw : w < 10) (p e : Nat) : (∃ a b p' e', LnY t len R w p e a b p' e') ∨ ∃ p' e', LnN t len R w p e p' e' := by
  have hc : w = 9 ∨ w = 0 ∨ ((w = 2 ∨ w = 3) ∨ (w = 4 ∨ w = 5) ∨ w = 8) ∨ w = 7 ∨ w = 1 ∨ w = 6 := by omega
  rcases hc with h | h | h | h | h | h
  · exact Or.inl ⟨0, 0, p, e, Or.inl ⟨h, rfl, rfl, rfl, rfl⟩⟩
  · rcases num_em t len 3 8 p e with ⟨v, hv⟩ | hv
    · exact Or.inl ⟨v, 0, _, _, Or.inr (Or.inl ⟨h, hv, rfl, rfl, rfl⟩)⟩
    · exact Or.inr ⟨p, e, Or.inl ⟨h, hv, rfl, rfl⟩⟩
  · rcases num_em t len 0 (R.1 - 1) p e with ⟨v, hv⟩ | hv
    · exact Or.inl ⟨v, 0, _, _, Or.inr (Or.inr (Or.inl ⟨h, hv, rfl, rfl, rfl⟩))⟩
    · exact Or.inr ⟨p, e, Or.inr (Or.inl ⟨h, hv, rfl, rfl⟩)⟩
  · rcases num_em t len 0 71 p e with ⟨v, hv⟩ | hv
    · cases hn : newD R v with
      | true => exact Or.inl ⟨v, 0, _, _, Or.inr (Or.inr (Or.inr (Or.inl ⟨h, hv, hn, rfl, rfl, rfl⟩)))⟩
      | false => exact Or.inr ⟨p, e, Or.inr (Or.inr (Or.inl ⟨h, Or.inr ⟨v, hv, hn⟩, rfl, rfl⟩))⟩
    · exact Or.inr ⟨p, e, Or.inr (Or.inr (Or.inl ⟨h, Or.inl hv, rfl, rfl⟩))⟩
  · rcases num_em t len 0 (R.1 - 1) p e with ⟨v, hv⟩ | hv
    · rcases num_em t len 0 71 (tkP t len e) (tkE t len (tkP t len e)) with ⟨b, hb⟩ | hb
      · cases hn : fitA R v b with
        | true => exact Or.inl ⟨v, b, _, _, Or.inr (Or.inr (Or.inr (Or.inr (Or.inl ⟨h, hv, hb, hn, rfl, rfl⟩))))⟩
        | false => exact Or.inr ⟨_, _, Or.inr (Or.inr (Or.inr (Or.inr (Or.inl ⟨h, ⟨v, hv, Or.inr ⟨b, hb, hn⟩⟩, rfl, rfl⟩))))⟩
      · exact Or.inr ⟨_, _, Or.inr (Or.inr (Or.inr (Or.inr (Or.inl ⟨h, ⟨v, hv, Or.inl hb⟩, rfl, rfl⟩))))⟩
    · exact Or.inr ⟨p, e, Or.inr (Or.inr (Or.inr (Or.inl ⟨Or.inl h, hv, rfl, rfl⟩)))⟩
  · rcases num_em t len 0 (R.1 - 1) p e with ⟨v, hv⟩ | hv
    · rcases num_em t len 0 (putH R v) (tkP t len e) (tkE t len (tkP t len e)) with ⟨b, hb⟩ | hb
      · exact Or.inl ⟨v, b, _, _, Or.inr (Or.inr (Or.inr (Or.inr (Or.inr ⟨h, hv, hb, rfl, rfl⟩))))⟩
      · exact Or.inr ⟨_, _, Or.inr (Or.inr (Or.inr (Or.inr (Or.inr ⟨h, ⟨v, hv, hb⟩, rfl, rfl⟩))))⟩
    · exact Or.inr ⟨p, e, Or.inr (Or.inr (Or.inr (Or.inl ⟨Or.inr h, hv, rfl, rfl⟩)))⟩
