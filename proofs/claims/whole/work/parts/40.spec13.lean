/-! lines of the reference together -/
def LineY (t : Nat → Nat) (len : Nat) (R : RS) (p e w a b p' e' : Nat) : Prop := wOf t p e = some w ∧ (w = 8 → R.2.2.2.2.2 < 5) ∧ LnY t len R w (tkP t len e) (tkE t len (tkP t len e)) a b p' e'
def LineN (t : Nat → Nat) (len : Nat) (R : RS) (p e p' e' : Nat) : Prop := (wOf t p e = none ∧ p' = p ∧ e' = e) ∨ (wOf t p e = some 8 ∧ R.2.2.2.2.2 = 5 ∧ p' = p ∧ e' = e) ∨ ∃ w, wOf t p e = some w ∧ (w = 8 → R.2.2.2.2.2 < 5) ∧ LnN t len R w (tkP t len e) (tkE t len (tkP t len e)) p' e'
theorem line_em (t : Nat → Nat) (len : Nat) (R : RS) (h5 : R.2.2.2.2.2 ≤ 5) (p e : Nat) : (∃ w a b p' e', LineY t len R p e w a b p' e') ∨ ∃ p' e', LineN t len R p e p' e' := by
  cases hw : wOf t p e with
  | none => exact Or.inr ⟨p, e, Or.inl ⟨hw, rfl, rfl⟩⟩
  | some w =>
    by_cases h8 : w = 8 ∧ R.2.2.2.2.2 = 5
    · obtain ⟨rfl, h⟩ := h8
      exact Or.inr ⟨p, e, Or.inr (Or.inl ⟨hw, h, rfl, rfl⟩)⟩
    · have h9 : w = 8 → R.2.2.2.2.2 < 5 := fun x => by
        by_cases y : R.2.2.2.2.2 = 5
        · exact absurd ⟨x, y⟩ h8
        · omega
      rcases ln_em t len R (wOf_lt hw) (tkP t len e) (tkE t len (tkP t len e)) with ⟨a, b, p', e', h⟩ | ⟨p', e', h⟩
      · exact Or.inl ⟨w, a, b, p', e', hw, h9, h⟩
      · exact Or.inr ⟨p', e', Or.inr (Or.inr ⟨w, hw, h9, h⟩)⟩
theorem m_lineY {D E : Wd} {t : Nat → Nat} {len : Nat} {R : RS} {m : Nat} {rc : Nat → Nat × Nat} {p e : Nat} (hR : RK D E t len R m rc p e) (hm11 : m ≤ 11) (hG : Geo1 R) {w a b p' e' : Nat} (h : LineY t len R p e w a b p' e') : Mok mX6_readsLine idsA 5 [vr (30, 0)] E (fun r' E' => r' = some (vi (nI 1)) ∧ RK D E' t len (goR R w a b) (m + 1) (fun q => if q = m then (w, a) else rc q) p' e') := by
  obtain ⟨hw, h8, hl⟩ := h
  rcases hl with ⟨rfl, rfl, rfl, rfl, rfl⟩ | ⟨rfl, h1, rfl, rfl, rfl⟩ | ⟨hc, h1, rfl, rfl, rfl⟩ | ⟨rfl, h1, h2, rfl, rfl, rfl⟩ | ⟨rfl, h1, h2, h3, rfl, rfl⟩ | ⟨rfl, h1, h2, rfl, rfl⟩
  · exact m_line_y9 hR hm11 hw
  · exact m_line_y0 hR hm11 hw h1
  · rcases hc with (rfl | rfl) | (rfl | rfl) | rfl
    · exact m_line_y2 hR hm11 hw h1
    · exact m_line_y3 hR hm11 hw h1
    · exact m_line_y4 hR hm11 hw h1
    · exact m_line_y5 hR hm11 hw h1
    · exact m_line_y8 hR hm11 hw (h8 rfl) h1
  · exact m_line_y7 hR hm11 hw h1 h2
  · exact m_line_y1 hR hm11 hw h1 h2 h3
  · exact m_line_y6 hR hm11 hw h1 (by have h5 := hG a (by have := h1.2.2; have := hR.2.2.2.1.1; omega); omega) h2
theorem m_lineN {D E : Wd} {t : Nat → Nat} {len : Nat} {R : RS} {m : Nat} {rc : Nat → Nat × Nat} {p e : Nat} (hR : RK D E t len R m rc p e) (hm11 : m ≤ 11) (hG : Geo1 R) {p' e' : Nat} (h : LineN t len R p e p' e') : Mok mX6_readsLine idsA 5 [vr (30, 0)] E (fun r' E' => r' = some (vi (nI 0)) ∧ RK D E' t len R m rc p' e') := by
  have hge : ∀ a, NumY t len 0 (R.1 - 1) (tkP t len e) (tkE t len (tkP t len e)) a → 1 ≤ onN (R.2.1 a) (R.2.1 (nx R.1 a)) := fun a h1 => by
    have h5 := hG a (by have := h1.2.2; have := hR.2.2.2.1.1; omega)
    omega
  rcases h with ⟨hw, rfl, rfl⟩ | ⟨hw, h5, rfl, rfl⟩ | ⟨w, hw, h8, hl⟩
  · exact Mok.imp (m_line_n hR hw) (fun r D' q => ⟨q.1, by rw [q.2]; exact hR⟩)
  · exact Mok.imp (m_line_p hR hw h5) (fun r D' q => ⟨q.1, by rw [q.2]; exact hR⟩)
  · rcases hl with ⟨rfl, h1, rfl, rfl⟩ | ⟨hc, h1, rfl, rfl⟩ | ⟨rfl, h1, rfl, rfl⟩ | ⟨hc, h1, rfl, rfl⟩ | ⟨rfl, ⟨a, h1, h2⟩, rfl, rfl⟩ | ⟨rfl, ⟨a, h1, h2⟩, rfl, rfl⟩
    · exact m_line_n0 hR hm11 hw h1
    · rcases hc with (rfl | rfl) | (rfl | rfl) | rfl
      · exact m_line_n2 hR hm11 hw h1
      · exact m_line_n3 hR hm11 hw h1
      · exact m_line_n4 hR hm11 hw h1
      · exact m_line_n5 hR hm11 hw h1
      · exact m_line_n8 hR hm11 hw (h8 rfl) h1
    · rcases h1 with h1 | ⟨v, h1, h2⟩
      · exact m_line_n17 hR hm11 hw h1
      · exact m_line_n27 hR hm11 hw h1 h2
    · rcases hc with rfl | rfl
      · exact m_line_n11 hR hm11 hw h1
      · exact m_line_n16 hR hm11 hw h1
    · rcases h2 with h2 | ⟨b, h2, h3⟩
      · exact m_line_n21 hR hm11 hw h1 h2
      · exact m_line_n31 hR hm11 hw h1 h2 h3
    · exact m_line_n26 hR hm11 hw h1 (hge a h1) h2
/-- the reading from the word of a line on: a fault's place, or what was read, how many lines, which -/
abbrev Rs : Type := Nat ⊕ (RS × Nat × (Nat → Nat × Nat))
def Cnt (t : Nat → Nat) (len : Nat) (K : RS → Nat → (Nat → Nat × Nat) → Nat → Nat → Rs → Prop) (R : RS) (m : Nat) (rc : Nat → Nat × Nat) (p e : Nat) (res : Rs) : Prop :=
  (len ≤ p ∧ res = .inr (R, m, rc)) ∨ (p < len ∧ ¬ (e - p = 1 ∧ t p = 59 ∧ m < 12) ∧ res = .inl p) ∨ (p < len ∧ (e - p = 1 ∧ t p = 59 ∧ m < 12) ∧ K R m rc (tkP t len e) (tkE t len (tkP t len e)) res)
def Prs (t : Nat → Nat) (len : Nat) : Nat → RS → Nat → (Nat → Nat × Nat) → Nat → Nat → Rs → Prop
  | 0, _, _, _, _, _, _ => False
  | fu + 1, R, m, rc, p, e, res => (∃ p' e', LineN t len R p e p' e' ∧ res = .inl p') ∨
      ∃ w a b p' e', LineY t len R p e w a b p' e' ∧ Cnt t len (Prs t len fu) (goR R w a b) (m + 1) (fun q => if q = m then (w, a) else rc q) p' e' res
theorem Geo1.go {t : Nat → Nat} {len : Nat} {R : RS} {p e w a b p' e' : Nat} (h3 : 3 ≤ R.1) (hG : Geo1 R) (h : LineY t len R p e w a b p' e') : Geo1 (goR R w a b) := by
  obtain ⟨-, -, hl⟩ := h
  rcases hl with ⟨rfl, -⟩ | ⟨rfl, h1, -⟩ | ⟨hc, -⟩ | ⟨rfl, -⟩ | ⟨rfl, h1, h2, hf, -⟩ | ⟨rfl, h1, h2, -⟩
  · exact hG
  · have ha : 3 ≤ a ∧ a ≤ 8 := ⟨h1.2.1, h1.2.2⟩
    have hc : a = 3 ∨ a = 4 ∨ a = 5 ∨ a = 6 ∨ a = 7 ∨ a = 8 := by omega
    show ∀ r, r < a → 0 + 1 ≤ onN (72 * r / a) (72 * nx a r / a)
    rcases hc with rfl | rfl | rfl | rfl | rfl | rfl <;> decide
  · rcases hc with (rfl | rfl) | (rfl | rfl) | rfl <;> exact hG
  · exact hG
  · have ha : a < R.1 := by have := h1.2.2; omega
    simp only [fitA, Bool.and_eq_true, decide_eq_true_eq] at hf
    intro r hr
    show R.2.2.1 r + 1 ≤ onN (updN R.2.1 a b r) (updN R.2.1 a b (nx R.1 r))
    have hr' : r < R.1 := hr
    by_cases e1 : r = a
    · subst e1
      have e2 : nx R.1 r ≠ r := nx_ne (by omega) ha
      unfold updN; rw [if_pos rfl, if_neg e2]; exact hf.2.2
    · by_cases e2 : nx R.1 r = a
      · have e3 : r = bf R.1 a := by rw [← e2, bf_nx (by omega) hr']
        unfold updN; rw [if_neg e1, if_pos e2]
        have h9 := hf.2.1
        rw [← e3] at h9
        exact h9
      · unfold updN; rw [if_neg e1, if_neg e2]; exact hG r hr'
  · have ha : a < R.1 := by have := h1.2.2; omega
    intro r hr
    show updN R.2.2.1 a b r + 1 ≤ onN (R.2.1 r) (R.2.1 (nx R.1 r))
    have hr' : r < R.1 := hr
    have h9 := hG r hr'
    by_cases e1 : r = a
    · subst e1
      unfold updN; rw [if_pos rfl]
      have h8 := h2.2.2
      unfold putH at h8
      split at h8 <;> omega
    · unfold updN; rw [if_neg e1]; exact h9
