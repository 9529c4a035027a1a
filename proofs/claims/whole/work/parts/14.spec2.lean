/-! pushes, ranges, and how a world changes under them -/
abbrev lt0 (x : Int32) (n : Nat) : Prop := 0 ≤ x.toInt ∧ x.toInt < (n : Int)
theorem lt0_nI {x : Int32} {n : Nat} (h : lt0 x n) : ∃ j : Nat, j < n ∧ x = nI j := by
  obtain ⟨h1, h2⟩ := h
  obtain ⟨j, h3, h4⟩ := nI_of (x := x) (by rw [Int32.lt_iff_toInt_lt, Int32.toInt_zero]; omega)
  subst h4
  rw [nI_toInt h3] at h2
  exact ⟨j, by omega, rfl⟩
theorem lt0_of {j n : Nat} (h : j < n) (hn : n < 2 ^ 31) : lt0 (nI j) n := by
  rw [lt0, nI_toInt (by omega)]; omega
theorem i64_le (x y : Int32) : x.toInt64 ≤ y.toInt64 ↔ x.toInt ≤ y.toInt := by
  rw [Int64.le_iff_toInt_le]; simp
theorem in_iff {x : Int32} {n : Nat} (h0 : 0 < n) (hn : n < 2 ^ 31) : ((0 : Int64) ≤ x.toInt64 ∧ x.toInt64 ≤ (nI (n - 1)).toInt64) ↔ lt0 x n := by
  have e : (0 : Int64) = (0 : Int32).toInt64 := by decide
  rw [e, i64_le, i64_le, nI_toInt (by omega), Int32.toInt_zero, lt0]
  omega
theorem in_iff2 {x : Int32} {a b : Nat} {A B : Int64} (hA : A = (nI a).toInt64) (hB : B = (nI b).toInt64) (ha : a < 2 ^ 31) (hb : b < 2 ^ 31) : (A ≤ x.toInt64 ∧ x.toInt64 ≤ B) ↔ ((a : Int) ≤ x.toInt ∧ x.toInt ≤ (b : Int)) := by
  rw [hA, hB, i64_le, i64_le, nI_toInt ha, nI_toInt hb]
theorem rng_nI {x : Int32} {a b : Nat} (h : (a : Int) ≤ x.toInt ∧ x.toInt ≤ (b : Int)) : ∃ j : Nat, a ≤ j ∧ j ≤ b ∧ x = nI j := by
  obtain ⟨j, h1, h2⟩ := lt0_nI (x := x) (n := b + 1) ⟨by omega, by omega⟩
  obtain ⟨h3, h4⟩ := h
  have hr := Int32.toInt_lt x
  by_cases hb : b < 2 ^ 31
  · subst h2
    rw [nI_toInt (by omega)] at h3
    exact ⟨j, by omega, by omega, rfl⟩
  · obtain ⟨j2, h5, h6⟩ := lt0_nI (x := x) (n := 2 ^ 31) ⟨by omega, by omega⟩
    subst h6
    rw [nI_toInt h5] at h3
    exact ⟨j2, by omega, by omega, rfl⟩
theorem inM_of {p : Nat → Bool} {n q : Nat} (hq : q < n) : (bitsN p n).testBit q = true ↔ p q = true := by
  rw [bitsN_tb]; simp [hq]
theorem stp_0 {n : Nat} {a k f : Nat → Nat} {i s : Nat} (h : mov n a k f i s = 0) : stp n a k f i s = a := by
  funext j; unfold stp; rw [h]; simp [inM]
theorem putA_succ (w : Nat → Int32) (b q : Nat) (a : Nat → Nat) : upd (putA w b q a) (b + q) (nI (a q)) = putA w b (q + 1) a := by
  funext j; unfold upd putA
  by_cases h : j = b + q
  · subst h
    rw [if_pos rfl, if_pos ⟨by omega, by omega⟩]; congr 2; omega
  · rw [if_neg h]
    by_cases h2 : b ≤ j ∧ j < b + q
    · rw [if_pos h2, if_pos ⟨by omega, by omega⟩]
    · rw [if_neg h2, if_neg (by omega)]
theorem putA_zero (w : Nat → Int32) (b : Nat) (a : Nat → Nat) : putA w b 0 a = w := by
  funext j; unfold putA; rw [if_neg (by omega)]
theorem put_step (D : Wd) (i : Id2) (w : Nat → Int32) (b q : Nat) (a : Nat → Nat) : upA (upA D i (putA w b q a)) i (upd (upA D i (putA w b q a) i) (b + q) (nI (a q))) = upA D i (putA w b (q + 1) a) := by
  rw [upA_up, upA_s, putA_succ]
theorem put_0 (D : Wd) (i : Id2) (b : Nat) (a : Nat → Nat) : D = upA D i (putA (D i) b 0 a) := by
  rw [putA_zero, upA_self]
/-- the same plan in a world that differs in a row alone -/
theorem PM.up {D : Wd} {n : Nat} {k f : Nat → Nat} {dn : Nat} {dr : Nat → Nat} {pn : Nat} {g : Nat → Int32} (h : PM D n k f dn dr pn) : PM (upA D (31, 0) g) n k f dn dr pn := by
  obtain ⟨h1, h2, h3, h4, h5, h6, h7, h8, h9, h10⟩ := h
  have e : ∀ i : Id2, i ≠ (31, 0) → upA D (31, 0) g i = D i := fun i hi => upA_n D g hi
  exact ⟨h1, h2, by rw [e _ (by decide)]; exact h3, by rw [e _ (by decide)]; exact h4, by rw [e _ (by decide)]; exact h5, h6, by rw [e _ (by decide)]; exact h7, by rw [e _ (by decide)]; exact h8, h9, by rw [e _ (by decide)]; exact h10⟩
/-- the world with a row's angles put anew -/
def Rw (D : Wd) (bs n : Nat) (a : Nat → Nat) : Wd := upA D (31, 0) (putA (D (31, 0)) bs n a)
theorem Rw.P {D : Wd} {n : Nat} {k f : Nat → Nat} {dn : Nat} {dr : Nat → Nat} {pn bs : Nat} {a : Nat → Nat} (h : PM D n k f dn dr pn) : PM (Rw D bs n a) n k f dn dr pn := h.up
theorem Rw.A {D : Wd} {n bs : Nat} {a : Nat → Nat} (h : ∀ j, j < n → a j < 72) : AM (Rw D bs n a) bs n a := by
  intro j hj
  rw [Rw, upA_s, putA_in hj]
  exact ⟨rfl, h j hj⟩
theorem Rw.self {D : Wd} {n bs : Nat} {a : Nat → Nat} (h : AM D bs n a) : Rw D bs n a = D := by
  rw [Rw, putA_self (fun j hj => (h j hj).1), upA_self]
theorem Rw.twice (D : Wd) (bs n : Nat) (a a' : Nat → Nat) : Rw (Rw D bs n a) bs n a' = Rw D bs n a' := by
  show upA (upA D (31, 0) (putA (D (31, 0)) bs n a)) (31, 0) (putA ((upA D (31, 0) (putA (D (31, 0)) bs n a)) (31, 0)) bs n a') = upA D (31, 0) (putA (D (31, 0)) bs n a')
  rw [upA_s, upA_up, putA_put]
theorem Rw.at {D : Wd} {bs n : Nat} {a : Nat → Nat} {i : Id2} (h : i ≠ (31, 0)) : Rw D bs n a i = D i := upA_n D _ h
/-- a push of at most d steps: how many it moved, and where all stands then -/
def psh (n : Nat) (k f : Nat → Nat) (i s : Nat) : Nat → (Nat → Nat) → Nat × (Nat → Nat)
  | 0, a => (0, a)
  | d + 1, a => if mov n a k f i s = 0 then (0, a) else ((psh n k f i s d (stp n a k f i s)).1 + 1, (psh n k f i s d (stp n a k f i s)).2)
theorem psh_le (n : Nat) (k f : Nat → Nat) (i s : Nat) : ∀ d a, (psh n k f i s d a).1 ≤ d
  | 0, a => by simp [psh]
  | d + 1, a => by
    rw [psh]; split
    · simp
    · have := psh_le n k f i s d (stp n a k f i s); simp only; omega
theorem psh_lt {n : Nat} {k f : Nat → Nat} {i s : Nat} : ∀ d a, (∀ j, j < n → a j < 72) → ∀ j, j < n → (psh n k f i s d a).2 j < 72
  | 0, a, h => h
  | d + 1, a, h => by
    rw [psh]; split
    · exact h
    · exact psh_lt d _ (fun j hj => stp_lt (h j hj))
