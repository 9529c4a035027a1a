def lwO (t : Nat → Nat) (p e : Nat) : Option Nat := if isD t p e 2 then some 2 else if isD t p e 3 then some 3 else if isD t p e 4 then some 4 else if isD t p e 5 then some 5 else none
def rwO (t : Nat → Nat) (p e : Nat) : Option Nat := if isD t p e 0 then some 0 else if isD t p e 1 then some 1 else if isD t p e 6 then some 6 else if isD t p e 7 then some 7 else if isD t p e 8 then some 8 else if isD t p e 9 then some 9 else none
theorem wOf_s {t : Nat → Nat} {p e w : Nat} (h : lwO t p e = some w) : wOf t p e = some w := by
  unfold lwO at h; unfold wOf
  by_cases h2 : isD t p e 2 = true
  · rw [if_pos h2] at h ⊢; exact h
  · rw [if_neg h2] at h ⊢
    by_cases h3 : isD t p e 3 = true
    · rw [if_pos h3] at h ⊢; exact h
    · rw [if_neg h3] at h ⊢
      by_cases h4 : isD t p e 4 = true
      · rw [if_pos h4] at h ⊢; exact h
      · rw [if_neg h4] at h ⊢
        by_cases h5 : isD t p e 5 = true
        · rw [if_pos h5] at h ⊢; exact h
        · rw [if_neg h5] at h; cases h
theorem wOf_n {t : Nat → Nat} {p e : Nat} (h : lwO t p e = none) : wOf t p e = rwO t p e := by
  unfold lwO at h; unfold wOf
  by_cases h2 : isD t p e 2 = true
  · rw [if_pos h2] at h; cases h
  · rw [if_neg h2] at h ⊢
    by_cases h3 : isD t p e 3 = true
    · rw [if_pos h3] at h; cases h
    · rw [if_neg h3] at h ⊢
      by_cases h4 : isD t p e 4 = true
      · rw [if_pos h4] at h; cases h
      · rw [if_neg h4] at h ⊢
        by_cases h5 : isD t p e 5 = true
        · rw [if_pos h5] at h; cases h
        · rw [if_neg h5]; rfl
theorem lwO_lt {t : Nat → Nat} {p e w : Nat} (h : lwO t p e = some w) : w < 10 := by
  unfold lwO at h
  repeat (first | (split at h; (simp only [Option.some.injEq] at h; omega)) | (cases h))
theorem rwO_lt {t : Nat → Nat} {p e w : Nat} (h : rwO t p e = some w) : w < 10 := by
  unfold rwO at h
  repeat (first | (split at h; (simp only [Option.some.injEq] at h; omega)) | (cases h))
theorem wOf_lt {t : Nat → Nat} {p e w : Nat} (h : wOf t p e = some w) : w < 10 := by
  cases hl : lwO t p e with
  | some v => rw [wOf_s hl] at h; cases h; exact lwO_lt hl
  | none => rw [wOf_n hl] at h; exact rwO_lt h
def fitA (R : RS) (i b : Nat) : Bool := decide (onN (R.2.1 (bf R.1 i)) b + onN b (R.2.1 (nx R.1 i)) = onN (R.2.1 (bf R.1 i)) (R.2.1 (nx R.1 i))) && (decide (R.2.2.1 (bf R.1 i) < onN (R.2.1 (bf R.1 i)) b) && decide (R.2.2.1 i < onN b (R.2.1 (nx R.1 i))))
def newD (R : RS) (v : Nat) : Bool := (decide (v < 72) && decide (R.2.2.2.1 < 3)) && !anyB (fun j => decide (R.2.2.2.2.1 j = v)) R.2.2.2.1
theorem dgt {t : Nat → Nat} {len p e : Nat} (hT : TK t len p e) (h1 : ¬ p = len) (h2 : srt (t p) = 2) {q : Nat} (hq : q < e - p) : 48 ≤ t (p + q) ∧ t (p + q) ≤ 57 := by
  have h3 := hT.1
  have h5 := hT.2.1
  have h4 := hT.2.2.2 (by omega) (by omega) (p + q) (by omega) (by omega)
  exact srt2 (by rw [h4, h2])
