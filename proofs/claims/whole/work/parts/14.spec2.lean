/-! pushes, ranges, and how a world changes under them -/
def lt0 (x : Int32) (n : Nat) : Bool := decide (0 ≤ x.toInt ∧ x.toInt < (n : Int))
def rng (x : Int32) (a b : Nat) : Bool := decide ((a : Int) ≤ x.toInt ∧ x.toInt ≤ (b : Int))
abbrev ix (x : Int32) : Nat := x.toNatClampNeg
theorem lt0_iff {x : Int32} {n : Nat} : lt0 x n = true ↔ (0 ≤ x.toInt ∧ x.toInt < (n : Int)) := by simp [lt0]
theorem rng_iff {x : Int32} {a b : Nat} : rng x a b = true ↔ ((a : Int) ≤ x.toInt ∧ x.toInt ≤ (b : Int)) := by simp [rng]
theorem lt0_nI {x : Int32} {n : Nat} (h : lt0 x n = true) : ∃ j : Nat, j < n ∧ x = nI j := by
  obtain ⟨h1, h2⟩ := lt0_iff.mp h
  obtain ⟨j, h3, h4⟩ := nI_of (x := x) (by rw [Int32.lt_iff_toInt_lt, Int32.toInt_zero]; omega)
  subst h4
  rw [nI_toInt h3] at h2
  exact ⟨j, by omega, rfl⟩
theorem lt0_of {j n : Nat} (h : j < n) (hn : n < 2 ^ 31) : lt0 (nI j) n = true := by
  rw [lt0_iff, nI_toInt (by omega)]; omega
theorem i64_le (x y : Int32) : x.toInt64 ≤ y.toInt64 ↔ x.toInt ≤ y.toInt := by
  rw [Int64.le_iff_toInt_le]; simp
theorem in_iff {x : Int32} {n : Nat} (h0 : 0 < n) (hn : n < 2 ^ 31) : ((0 : Int64) ≤ x.toInt64 ∧ x.toInt64 ≤ (nI (n - 1)).toInt64) ↔ lt0 x n = true := by
  have e : (0 : Int64) = (0 : Int32).toInt64 := by decide
  rw [e, i64_le, i64_le, nI_toInt (by omega), Int32.toInt_zero, lt0_iff]
  omega
theorem in_iff0 {x : Int32} {n : Nat} {B : Int64} (hB : B = (nI (n - 1)).toInt64) (h0 : 0 < n) (hn : n < 2 ^ 31) : ((0 : Int64) ≤ x.toInt64 ∧ x.toInt64 ≤ B) ↔ lt0 x n = true := by
  rw [hB]; exact in_iff h0 hn
theorem in_iff2 {x : Int32} {a b : Nat} {A B : Int64} (hA : A = (nI a).toInt64) (hB : B = (nI b).toInt64) (ha : a < 2 ^ 31) (hb : b < 2 ^ 31) : (A ≤ x.toInt64 ∧ x.toInt64 ≤ B) ↔ rng x a b = true := by
  rw [hA, hB, i64_le, i64_le, nI_toInt ha, nI_toInt hb, rng_iff]
theorem rng_nI {x : Int32} {a b : Nat} (h : rng x a b = true) : ∃ j : Nat, a ≤ j ∧ j ≤ b ∧ x = nI j := by
  obtain ⟨h3, h4⟩ := rng_iff.mp h
  have hr := Int32.toInt_lt x
  by_cases hb : b < 2 ^ 31
  · obtain ⟨j, h1, h2⟩ := lt0_nI (x := x) (n := b + 1) (lt0_iff.mpr ⟨by omega, by omega⟩)
    subst h2
    rw [nI_toInt (by omega)] at h3
    exact ⟨j, by omega, by omega, rfl⟩
  · obtain ⟨j2, h5, h6⟩ := lt0_nI (x := x) (n := 2 ^ 31) (lt0_iff.mpr ⟨by omega, by omega⟩)
    subst h6
    rw [nI_toInt h5] at h3
    exact ⟨j2, by omega, by omega, rfl⟩
theorem inM_of {p : Nat → Bool} {n q : Nat} (hq : q < n) : (bitsN p n).testBit q = true ↔ p q = true := by
  rw [bitsN_tb]; simp [hq]
theorem stp_0 {n : Nat} {a k f : Nat → Nat} {i s : Nat} (h : mov n a k f i s = 0) : stp n a k f i s = a := by
  funext j; unfold stp; rw [h]; simp [inM]
theorem putA_succ (w : Nat → Int32) (b q : Nat) (a : Nat → Nat) : upd (putA w b q a) (b + q) (nI (a q)) = putA w b (q + 1) a := by
  funext j; unfold upd putA
  by_cases h : j = b + q
  · subst h
    rw [if_pos rfl, if_pos ⟨by omega, by omega⟩]; congr 2; omega
  · rw [if_neg h]
    by_cases h2 : b ≤ j ∧ j < b + q
    · rw [if_pos h2, if_pos ⟨by omega, by omega⟩]
    · rw [if_neg h2, if_neg (by omega)]
theorem putA_zero (w : Nat → Int32) (b : Nat) (a : Nat → Nat) : putA w b 0 a = w := by
  funext j; unfold putA; rw [if_neg (by omega)]
theorem put_step (D : Wd) (i : Id2) (w : Nat → Int32) (b q : Nat) (a : Nat → Nat) : upA (upA D i (putA w b q a)) i (upd (upA D i (putA w b q a) i) (b + q) (nI (a q))) = upA D i (putA w b (q + 1) a) := by
  rw [upA_up, upA_s, putA_succ]
theorem put_0 (D : Wd) (i : Id2) (b : Nat) (a : Nat → Nat) : D = upA D i (putA (D i) b 0 a) := by
  rw [putA_zero, upA_self]
/-- the same plan in a world that differs in a row alone -/
theorem PM.up {D : Wd} {n : Nat} {k f : Nat → Nat} {dn : Nat} {dr : Nat → Nat} {pn : Nat} {g : Nat → Int32} (h : PM D n k f dn dr pn) : PM (upA D (31, 0) g) n k f dn dr pn := by
  obtain ⟨h1, h2, h3, h4, h5, h6, h7, h8, h9, h10⟩ := h
  have e : ∀ i : Id2, i ≠ (31, 0) → upA D (31, 0) g i = D i := fun i hi => upA_n D g hi
  exact ⟨h1, h2, by rw [e _ (by decide)]; exact h3, by rw [e _ (by decide)]; exact h4, by rw [e _ (by decide)]; exact h5, h6, by rw [e _ (by decide)]; exact h7, by rw [e _ (by decide)]; exact h8, h9, by rw [e _ (by decide)]; exact h10⟩
/-- the world with a row's angles put anew -/
def Rw (D : Wd) (bs n : Nat) (a : Nat → Nat) : Wd := upA D (31, 0) (putA (D (31, 0)) bs n a)
theorem Rw.P {D : Wd} {n : Nat} {k f : Nat → Nat} {dn : Nat} {dr : Nat → Nat} {pn bs : Nat} {a : Nat → Nat} (h : PM D n k f dn dr pn) : PM (Rw D bs n a) n k f dn dr pn := h.up
theorem Rw.A {D : Wd} {n bs : Nat} {a : Nat → Nat} (h : ∀ j, j < n → a j < 72) : AM (Rw D bs n a) bs n a := by
  intro j hj
  rw [Rw, upA_s, putA_in hj]
  exact ⟨rfl, h j hj⟩
theorem Rw.self {D : Wd} {n bs : Nat} {a : Nat → Nat} (h : AM D bs n a) : Rw D bs n a = D := by
  rw [Rw, putA_self (fun j hj => (h j hj).1), upA_self]
theorem Rw.twice (D : Wd) (bs n : Nat) (a a' : Nat → Nat) : Rw (Rw D bs n a) bs n a' = Rw D bs n a' := by
  show upA (upA D (31, 0) (putA (D (31, 0)) bs n a)) (31, 0) (putA ((upA D (31, 0) (putA (D (31, 0)) bs n a)) (31, 0)) bs n a') = upA D (31, 0) (putA (D (31, 0)) bs n a')
  rw [upA_s, upA_up, putA_put]
theorem Rw.at {D : Wd} {bs n : Nat} {a : Nat → Nat} {i : Id2} (h : i ≠ (31, 0)) : Rw D bs n a i = D i := upA_n D _ h
/-- a push of at most d steps: how many it moved, and where all stands then -/
def psh (n : Nat) (k f : Nat → Nat) (i s : Nat) : Nat → (Nat → Nat) → Nat × (Nat → Nat)
  | 0, a => (0, a)
  | d + 1, a => if mov n a k f i s = 0 then (0, a) else ((psh n k f i s d (stp n a k f i s)).1 + 1, (psh n k f i s d (stp n a k f i s)).2)
theorem psh_le (n : Nat) (k f : Nat → Nat) (i s : Nat) : ∀ d a, (psh n k f i s d a).1 ≤ d
  | 0, a => by simp [psh]
  | d + 1, a => by
    rw [psh]; split
    · simp
    · have := psh_le n k f i s d (stp n a k f i s); simp only; omega
theorem psh_lt {n : Nat} {k f : Nat → Nat} {i s : Nat} : ∀ d a, (∀ j, j < n → a j < 72) → ∀ j, j < n → (psh n k f i s d a).2 j < 72
  | 0, a, h => h
  | d + 1, a, h => by
    rw [psh]; split
    · exact h
    · exact psh_lt d _ (fun j hj => stp_lt (h j hj))
/-! places of people, hours, copies of rows -/
def PLM (D : Wd) (bs pn : Nat) (pl : Nat → Int32) : Prop := ∀ p, p < pn → D (31, 0) (bs + 8 + p) = pl p
/-- each of them is out, or in a room that there is -/
def PLok (n pn : Nat) (pl : Nat → Int32) : Prop := ∀ p, p < pn → pl p = -1 ∨ ∃ r, r < n ∧ pl p = nI r
def ppl (pn : Nat) (pl : Nat → Int32) (x : Int32) : Nat := bitsN (fun p => decide (pl p = x)) pn
def hrA (n : Nat) (k f hm : Nat → Nat) : Nat → (Nat → Nat) → (Nat → Nat)
  | 0, a => a
  | m + 1, a => if k m = 1 ∧ onN (hrA n k f hm m a m) (hm m) ≠ 0 then stp n (hrA n k f hm m a) k f m (if onN (hrA n k f hm m a m) (hm m) ≤ 72 - onN (hrA n k f hm m a m) (hm m) then 0 else 1) else hrA n k f hm m a
def hrN (n : Nat) (k f hm : Nat → Nat) : Nat → (Nat → Nat) → (Nat → Nat)
  | 0, a => a
  | m + 1, a => hrA n k f hm n (hrN n k f hm m a)
theorem hrA_lt {n : Nat} {k f hm : Nat → Nat} : ∀ m a, (∀ j, j < n → a j < 72) → ∀ j, j < n → hrA n k f hm m a j < 72
  | 0, a, h => h
  | m + 1, a, h => by
    intro j hj
    rw [hrA]; split
    · exact stp_lt (hrA_lt m a h j hj)
    · exact hrA_lt m a h j hj
theorem hrN_lt {n : Nat} {k f hm : Nat → Nat} : ∀ m a, (∀ j, j < n → a j < 72) → ∀ j, j < n → hrN n k f hm m a j < 72
  | 0, a, h => h
  | m + 1, a, h => hrA_lt n _ (hrN_lt m a h)
def cpR (w : Nat → Int32) (fr to m : Nat) : Nat → Int32 := fun q => if to ≤ q ∧ q < to + m then w (fr + (q - to)) else w q
theorem cpR_0 (w : Nat → Int32) (fr to : Nat) : cpR w fr to 0 = w := by
  funext q; unfold cpR; rw [if_neg (by omega)]
theorem cpR_succ (w : Nat → Int32) {fr to q : Nat} (x : Int32) (hx : x = w (fr + q)) : upd (cpR w fr to q) (to + q) x = cpR w fr to (q + 1) := by
  funext j; unfold upd cpR
  by_cases h : j = to + q
  · subst h
    rw [if_pos rfl, if_pos ⟨by omega, by omega⟩, hx]; congr 1; omega
  · rw [if_neg h]
    by_cases h2 : to ≤ j ∧ j < to + q
    · rw [if_pos h2, if_pos ⟨by omega, by omega⟩]
    · rw [if_neg h2, if_neg (by omega)]
theorem cpR_out {w : Nat → Int32} {fr to m q : Nat} (h : q < to ∨ to + m ≤ q) : cpR w fr to m q = w q := by
  unfold cpR; rw [if_neg (by omega)]
theorem cpR_in {w : Nat → Int32} {fr to m q : Nat} (h : q < m) : cpR w fr to m (to + q) = w (fr + q) := by
  unfold cpR; rw [if_pos ⟨by omega, by omega⟩]; congr 1; omega
theorem AM.z {D : Wd} {n : Nat} {a : Nat → Nat} (h : AM D 0 n a) (j : Nat) (hj : j < n) : D (31, 0) j = nI (a j) ∧ a j < 72 := by
  have := h j hj
  rwa [Nat.zero_add] at this
theorem PLM.z {D : Wd} {pn : Nat} {pl : Nat → Int32} (h : PLM D 0 pn pl) (p : Nat) (hp : p < pn) : D (31, 0) (8 + p) = pl p := by
  have := h p hp
  rwa [Nat.zero_add] at this
def cntN (p : Nat → Bool) : Nat → Nat
  | 0 => 0
  | n + 1 => cntN p n + if p n then 1 else 0
/-! what the public methods answer -/
def leafS (n : Nat) (k a hm : Nat → Nat) (x w : Int32) : Int32 := if lt0 x n then (if w = 0 then nI (k (ix x)) else if w = nI 1 then nI (a (ix x)) else if w = nI 2 then nI (hm (ix x)) else -3) else -2
def roomS (n : Nat) (f a : Nat → Nat) (dn : Nat) (dr : Nat → Nat) (pn : Nat) (pl : Nat → Int32) (x w : Int32) : Int32 := if lt0 x n then (if w = 0 then nI (wid n a (ix x)) else if w = nI 1 then nI (f (ix x)) else if w = nI 2 then (if opn n a dn dr (ix x) then nI 1 else nI 0) else if w = nI 3 then nI (ppl pn pl x) else -3) else -2
def isAs (q : Nat) (w : Int32) : Bool := decide (w = 0) || (decide (w = nI 1) && decide (q < 2)) || (decide (w = nI 2) && decide (q = 1)) || (decide (w = nI 3) && decide (2 ≤ q)) || (decide (w = nI 4) && decide (q = 3))
def asS (n : Nat) (k f a : Nat → Nat) (x w : Int32) : Int32 := if lt0 x n then (if lt0 w 5 then (if isAs (k (ix x)) w then nI ((if mov n a k f (ix x) 0 = 0 then 0 else 1) + (if mov n a k f (ix x) 1 = 0 then 0 else 2)) else -4) else -3) else -2
def personS (pn : Nat) (pl : Nat → Int32) (x : Int32) : Int32 := if lt0 x pn then pl (ix x) else -2
def pushS (n : Nat) (k f a : Nat → Nat) (x s d : Int32) : Int32 := if lt0 x n then (if lt0 s 2 && rng d 1 72 then nI (psh n k f (ix x) (ix s) (ix d) a).1 else -3) else -2
def pushA (n : Nat) (k f a : Nat → Nat) (x s d : Int32) : Nat → Nat := if lt0 x n then (if lt0 s 2 && rng d 1 72 then (psh n k f (ix x) (ix s) (ix d) a).2 else a) else a
def hoursS (hr : Nat) (x : Int32) : Int32 := if rng x 1 99 then (if 9999 < hr + ix x then -5 else nI (hr + ix x)) else -3
