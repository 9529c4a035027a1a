theorem gt_73 {n : Nat} {k f : Nat → Nat} {dn : Nat} {dr : Nat → Nat} {i s r : Nat} {a : Nat → Nat} : opI (gtG n k f dn dr i s r 73 0 a).1 = trn n k f dn dr i s r a := by
  have e73 := gt_tm (n := n) (k := k) (f := f) (dn := dn) (dr := dr) (i := i) (s := s) (r := r) 72 73 0 a (by decide)
  have hl := tm_le (n := n) (k := k) (f := f) (dn := dn) (dr := dr) (i := i) (s := s) (r := r) 72 0 a
  unfold trn
  by_cases ho : opn n (tmG n k f dn dr i s r 72 0 a).2 dn dr r = true
  · rw [e73.1 ho (by omega), if_pos ho]; rfl
  · rw [e73.2 (fun x => ho x.1), if_neg ho]; rfl
/-! best -/
def b3 (p : Option Nat × Nat) : Int32 := match p.1 with
  | none => -1
  | some _ => nI p.2
def b4 (p : Option Nat × Nat) : Int32 := match p.1 with
  | none => -1
  | some v => nI (v / 2)
def b5 (p : Option Nat × Nat) : Int32 := match p.1 with
  | none => -1
  | some v => nI (v % 2)
def bB (p : Option Nat × Nat) : Nat := match p.1 with
  | none => 73
  | some _ => if p.2 ≤ 73 then p.2 else 73
theorem b3_s (v c : Nat) : b3 (some v, c) = nI c := rfl
theorem b4_s (v c : Nat) : b4 (some v, c) = nI (v / 2) := rfl
theorem b5_s (v c : Nat) : b5 (some v, c) = nI (v % 2) := rfl
theorem bB_s {v c : Nat} (h : c ≤ 73) : bB (some v, c) = c := by show (if c ≤ 73 then c else 73) = c; rw [if_pos h]
theorem bB_le (p : Option Nat × Nat) : bB p ≤ 73 := by unfold bB; split; omega; split <;> omega
theorem bs_in {n : Nat} {k f : Nat → Nat} {dn : Nat} {dr : Nat → Nat} {r : Nat} {a : Nat → Nat} : ∀ m, ((bsG n k f dn dr r a m).1 = none ∧ (bsG n k f dn dr r a m).2 = 99) ∨ (∃ v, (bsG n k f dn dr r a m).1 = some v) ∧ (bsG n k f dn dr r a m).2 ≤ 72
  | 0 => Or.inl ⟨rfl, rfl⟩
  | m + 1 => by
    rw [bsG]
    split
    · rename_i h
      rcases trn_cases n k f dn dr (m / 2) (m % 2) r a with e | ⟨t, ht, e⟩
      · exact absurd e h.1
      · rw [e]; exact Or.inr ⟨⟨m, rfl⟩, by show (nI t).toNatClampNeg ≤ 72; rw [nI_clamp (by omega)]; exact ht⟩
    · exact bs_in m
theorem bs_lim {n : Nat} {k f : Nat → Nat} {dn : Nat} {dr : Nat → Nat} {r : Nat} {a : Nat → Nat} {m c : Nat} (hc : c ≤ 72) : c < bB (bsG n k f dn dr r a m) ↔ c < (bsG n k f dn dr r a m).2 := by
  rcases bs_in (n := n) (k := k) (f := f) (dn := dn) (dr := dr) (r := r) (a := a) m with ⟨h1, h2⟩ | ⟨⟨v, h1⟩, h2⟩
  · rw [bB, h1, h2]; dsimp only; omega
  · rw [bB, h1]; dsimp only; rw [if_pos (by omega)]
theorem bs_no {n : Nat} {k f : Nat → Nat} {dn : Nat} {dr : Nat → Nat} {r : Nat} {a : Nat → Nat} {m : Nat} (h : lmO (trO n k f dn dr (m / 2) (m % 2) r a) (bB (bsG n k f dn dr r a m)) = none) : bsG n k f dn dr r a (m + 1) = bsG n k f dn dr r a m := by
  rw [bsG, trn_O]
  cases ho : trO n k f dn dr (m / 2) (m % 2) r a with
  | none => rw [if_neg (fun x => x.1 rfl)]
  | some c =>
    have hc := trO_le ho
    rw [ho] at h
    rw [if_neg]
    intro x
    have h2 : c < (bsG n k f dn dr r a m).2 := by
      have := x.2
      rw [show ix (opI (some c)) = c from nI_clamp (by omega)] at this; exact this
    rw [lmO_s ((bs_lim hc).mpr h2)] at h; cases h
theorem bs_yes {n : Nat} {k f : Nat → Nat} {dn : Nat} {dr : Nat → Nat} {r : Nat} {a : Nat → Nat} {m c : Nat} (h : lmO (trO n k f dn dr (m / 2) (m % 2) r a) (bB (bsG n k f dn dr r a m)) = some c) : bsG n k f dn dr r a (m + 1) = (some m, c) := by
  obtain ⟨h1, ho⟩ := lmO_lt h
  have hc := trO_le ho
  have e : ix (opI (some c)) = c := nI_clamp (by omega)
  rw [bsG, trn_O, ho, if_pos ⟨fun x => m1_ne (by omega) x, by rw [e]; exact (bs_lim hc).mp h1⟩, e]
theorem fir_z {n : Nat} {k f : Nat → Nat} {dn : Nat} {dr : Nat → Nat} {pn i s : Nat} (a : Nat → Nat) (pl : Nat → Int32) : firG n k f dn dr pn i s (200 - 0) 0 a pl = firG n k f dn dr pn i s 200 0 a pl := rfl
theorem fir_1 {n : Nat} {k f : Nat → Nat} {dn : Nat} {dr : Nat → Nat} {pn i s c : Nat} {a : Nat → Nat} {pl : Nat → Int32} {z : Int32} (hc : c ≤ 200) (h : firG n k f dn dr pn i s (200 - c) c a pl = z) : (if allO pn pl = true then nI c else if c = 200 then -1 else firG n k f dn dr pn i s (200 - (c + 1)) (c + 1) (stp n a k f i s) (letG (opn n a dn dr) pn n pl)) = z := by
  by_cases e : c = 200
  · subst e
    rw [show 200 - 200 = 0 from rfl, firG] at h
    rw [if_pos rfl]; exact h
  · rw [show 200 - c = (200 - (c + 1)) + 1 from by omega, firG] at h
    rw [if_neg e]; exact h
def BgR (D : Wd) (i : Nat) : Wd := CpH (upA (upA D (14, 0) (upd (D (14, 0)) 5 (nI i))) (14, 0) (upd ((upA D (14, 0) (upd (D (14, 0)) 5 (nI i))) (14, 0)) 6 (nI 361))) 0 5
