/-! WHAT THE DOCUMENT SAYS, in numbers: rooms, steps, pushes -/
def nx (n i : Nat) : Nat := if i + 1 < n then i + 1 else 0
def bf (n i : Nat) : Nat := if i = 0 then n - 1 else i - 1
def onN (a b : Nat) : Nat := if a ≤ b then b - a else b + 72 - a
def wid (n : Nat) (a : Nat → Nat) (r : Nat) : Nat := onN (a r) (a (nx n r))
def anyB (p : Nat → Bool) : Nat → Bool
  | 0 => false
  | n + 1 => anyB p n || p n
def opC (n : Nat) (a dr : Nat → Nat) (r k : Nat) : Bool := decide (0 < onN (a r) (dr k)) && decide (onN (a r) (dr k) < wid n a r)
def opn (n : Nat) (a : Nat → Nat) (dn : Nat) (dr : Nat → Nat) (r : Nat) : Bool := anyB (opC n a dr r) dn
def rmB (n i s : Nat) : Nat := if s = 0 then i else bf n i
def lfB (n i s : Nat) : Nat := if s = 0 then nx n i else bf n i
def movG (n : Nat) (a k f : Nat → Nat) (s : Nat) : Nat → Nat → Nat → Nat
  | 0, _, many => many
  | fu + 1, last, many => if f (rmB n last s) + 1 < wid n a (rmB n last s) then many else if 1 < k (lfB n last s) then 0 else movG n a k f s fu (lfB n last s) (many + 1)
def mov (n : Nat) (a k f : Nat → Nat) (i s : Nat) : Nat := if k i = 3 then 0 else movG n a k f s (n - 1) i 1
def inM (n m i s j : Nat) : Bool := decide ((if s = 0 then (j + n - i) % n else (i + n - j) % n) < m)
def sa (s x : Nat) : Nat := if s = 0 then (x + 1) % 72 else (x + 71) % 72
def stp (n : Nat) (a k f : Nat → Nat) (i s : Nat) : Nat → Nat := fun j => if inM n (mov n a k f i s) i s j then sa s (a j) else a j
theorem nx_lt {n i : Nat} (h : 0 < n) : nx n i < n := by unfold nx; split <;> omega
theorem bf_lt {n i : Nat} (h : i < n) : bf n i < n := by unfold bf; split <;> omega
theorem nx_mod {n i : Nat} (h : i < n) : (i + 1) % n = nx n i := by
  unfold nx
  split
  · exact Nat.mod_eq_of_lt (by omega)
  · have e : i + 1 = n := by omega
    rw [e, Nat.mod_self]
theorem bf_mod {n i : Nat} (h : i < n) : (i + n - 1) % n = bf n i := by
  unfold bf
  split
  · have e : i + n - 1 = n - 1 := by omega
    rw [e]; exact Nat.mod_eq_of_lt (by omega)
  · have e : i + n - 1 = (i - 1) + n := by omega
    rw [e, Nat.add_mod_right]; exact Nat.mod_eq_of_lt (by omega)
theorem onN_mod {a b : Nat} (ha : a < 72) (hb : b < 72) : (b + 72 - a) % 72 = onN a b := by
  unfold onN
  split <;> omega
theorem onN_lt {a b : Nat} (ha : a < 72) (hb : b < 72) : onN a b < 72 := by
  unfold onN; split <;> omega
theorem wid_lt {n : Nat} {a : Nat → Nat} {r : Nat} (hr : r < n) (ha : ∀ j, j < n → a j < 72) : wid n a r < 72 := onN_lt (ha _ hr) (ha _ (nx_lt (by omega)))
theorem rmB_lt {n i s : Nat} (h : i < n) : rmB n i s < n := by unfold rmB; split; exact h; exact bf_lt h
theorem lfB_lt {n i s : Nat} (h : i < n) : lfB n i s < n := by unfold lfB; split; exact nx_lt (by omega); exact bf_lt h
theorem anyB_iff {p : Nat → Bool} : ∀ {n : Nat}, anyB p n = true ↔ ∃ k, k < n ∧ p k = true
  | 0 => by simp [anyB]
  | n + 1 => by
    rw [anyB, Bool.or_eq_true, anyB_iff]
    constructor
    · rintro (⟨k, h1, h2⟩ | h)
      · exact ⟨k, by omega, h2⟩
      · exact ⟨n, by omega, h⟩
    · rintro ⟨k, h1, h2⟩
      by_cases e : k = n
      · subst e; exact Or.inr h2
      · exact Or.inl ⟨k, by omega, h2⟩
theorem movG_le (n : Nat) (a k f : Nat → Nat) (s : Nat) : ∀ fu last many, movG n a k f s fu last many ≤ fu + many
  | 0, _, many => by simp [movG]
  | fu + 1, last, many => by
    rw [movG]
    split
    · omega
    · split
      · omega
      · have := movG_le n a k f s fu (lfB n last s) (many + 1); omega
theorem mov_le {n : Nat} {a k f : Nat → Nat} {i s : Nat} (h : 0 < n) : mov n a k f i s ≤ n := by
  unfold mov
  split
  · omega
  · have := movG_le n a k f s (n - 1) i 1; omega
theorem sa_lt (s x : Nat) : sa s x < 72 := by unfold sa; split <;> omega
theorem stp_lt {n : Nat} {a k f : Nat → Nat} {i s : Nat} {j : Nat} (h : a j < 72) : stp n a k f i s j < 72 := by
  unfold stp; split; exact sa_lt _ _; exact h
/-! rows of a world that hold numbers -/
def putA (w : Nat → Int32) (b n : Nat) (a : Nat → Nat) : Nat → Int32 := fun q => if b ≤ q ∧ q < b + n then nI (a (q - b)) else w q
theorem putA_in {w : Nat → Int32} {b n : Nat} {a : Nat → Nat} {j : Nat} (h : j < n) : putA w b n a (b + j) = nI (a j) := by
  unfold putA; rw [if_pos ⟨by omega, by omega⟩]; congr 2; omega
theorem putA_out {w : Nat → Int32} {b n : Nat} {a : Nat → Nat} {q : Nat} (h : ¬ (b ≤ q ∧ q < b + n)) : putA w b n a q = w q := by
  unfold putA; rw [if_neg h]
theorem putA_put (w : Nat → Int32) (b n : Nat) (a a' : Nat → Nat) : putA (putA w b n a) b n a' = putA w b n a' := by
  funext q; unfold putA; split <;> rfl
theorem putA_self {w : Nat → Int32} {b n : Nat} {a : Nat → Nat} (h : ∀ j, j < n → w (b + j) = nI (a j)) : putA w b n a = w := by
  funext q; unfold putA; split
  · rename_i c; rw [← h (q - b) (by omega)]; congr 1; omega
  · rfl
theorem putA_congr {w : Nat → Int32} {b n : Nat} {a a' : Nat → Nat} (h : ∀ j, j < n → a j = a' j) : putA w b n a = putA w b n a' := by
  funext q; unfold putA; split
  · rename_i c; rw [h (q - b) (by omega)]
  · rfl
theorem upA_up (D : Wd) (i : Id2) (f g : Nat → Int32) : upA (upA D i f) i g = upA D i g := by
  funext j; unfold upA; split <;> rfl
theorem upA_self (D : Wd) (i : Id2) : upA D i (D i) = D := by
  funext j; unfold upA; split
  · rename_i h; rw [h]
  · rfl
theorem upA_swap (D : Wd) {i j : Id2} (f g : Nat → Int32) (h : i ≠ j) : upA (upA D i f) j g = upA (upA D j g) i f := by
  funext q; unfold upA
  by_cases h1 : q = j
  · have h2 : ¬ q = i := fun e => h (e.symm.trans h1)
    simp [h1, h2, Ne.symm h]
  · simp [h1]
/-! the reference's plan and rows -/
def PM (D : Wd) (n : Nat) (k f : Nat → Nat) (dn : Nat) (dr : Nat → Nat) (pn : Nat) : Prop :=
  3 ≤ n ∧ n ≤ 8 ∧ D (30, 0) 6 = nI n ∧ (∀ j, j < n → D (35, 0) j = nI (k j) ∧ k j < 4) ∧ (∀ j, j < n → D (36, 0) j = nI (f j) ∧ f j ≤ 20) ∧ dn ≤ 3 ∧ D (30, 0) 10 = nI dn ∧ (∀ j, j < dn → D (37, 0) j = nI (dr j) ∧ dr j < 72) ∧ pn ≤ 5 ∧ D (30, 0) 11 = nI pn
def AM (D : Wd) (b n : Nat) (a : Nat → Nat) : Prop := ∀ j, j < n → D (31, 0) (b + j) = nI (a j) ∧ a j < 72
theorem nI_on {a b : Nat} (ha : a < 72) : nI b - nI a + nI 72 = nI (b + 72 - a) := by
  have e : nI (b + 72 - a) = nI b + nI 72 - nI a := by rw [nI_add, pk_sub (by omega)]
  rw [e]
  generalize nI a = x; generalize nI b = y; generalize nI 72 = z
  apply Int32.toBitVec_inj.mp
  simp only [Int32.toBitVec_add, Int32.toBitVec_sub]
  rw [BitVec.sub_eq_add_neg, BitVec.sub_eq_add_neg, BitVec.add_assoc, BitVec.add_assoc, BitVec.add_comm (-x.toBitVec)]
abbrev idsA : List Id2 := idsX ++ idsM
theorem a0_0 : (0, 0) ∈ idsA := by decide
theorem a7_0 : (7, 0) ∈ idsA := by decide
theorem a8_0 : (8, 0) ∈ idsA := by decide
theorem a12_0 : (12, 0) ∈ idsA := by decide
theorem a13_0 : (13, 0) ∈ idsA := by decide
theorem a14_0 : (14, 0) ∈ idsA := by decide
theorem a15_0 : (15, 0) ∈ idsA := by decide
theorem a16_0 : (16, 0) ∈ idsA := by decide
theorem a17_0 : (17, 0) ∈ idsA := by decide
theorem a18_0 : (18, 0) ∈ idsA := by decide
theorem a19_0 : (19, 0) ∈ idsA := by decide
theorem a20_0 : (20, 0) ∈ idsA := by decide
theorem a1_0 : (1, 0) ∈ idsA := by decide
theorem a2_0 : (2, 0) ∈ idsA := by decide
theorem a3_0 : (3, 0) ∈ idsA := by decide
theorem a4_0 : (4, 0) ∈ idsA := by decide
theorem a5_0 : (5, 0) ∈ idsA := by decide
theorem a6_0 : (6, 0) ∈ idsA := by decide
theorem a1_1 : (1, 1) ∈ idsA := by decide
theorem a2_1 : (2, 1) ∈ idsA := by decide
theorem a3_1 : (3, 1) ∈ idsA := by decide
theorem a4_1 : (4, 1) ∈ idsA := by decide
theorem a5_1 : (5, 1) ∈ idsA := by decide
theorem a6_1 : (6, 1) ∈ idsA := by decide
theorem a9_0 : (9, 0) ∈ idsA := by decide
theorem a10_0 : (10, 0) ∈ idsA := by decide
theorem a11_0 : (11, 0) ∈ idsA := by decide
theorem a9_1 : (9, 1) ∈ idsA := by decide
theorem a10_1 : (10, 1) ∈ idsA := by decide
theorem a11_1 : (11, 1) ∈ idsA := by decide
theorem a9_2 : (9, 2) ∈ idsA := by decide
theorem a10_2 : (10, 2) ∈ idsA := by decide
theorem a11_2 : (11, 2) ∈ idsA := by decide
theorem a9_3 : (9, 3) ∈ idsA := by decide
theorem a10_3 : (10, 3) ∈ idsA := by decide
theorem a11_3 : (11, 3) ∈ idsA := by decide
theorem a9_4 : (9, 4) ∈ idsA := by decide
theorem a10_4 : (10, 4) ∈ idsA := by decide
theorem a11_4 : (11, 4) ∈ idsA := by decide
theorem a9_5 : (9, 5) ∈ idsA := by decide
theorem a10_5 : (10, 5) ∈ idsA := by decide
theorem a11_5 : (11, 5) ∈ idsA := by decide
theorem a9_6 : (9, 6) ∈ idsA := by decide
theorem a10_6 : (10, 6) ∈ idsA := by decide
theorem a11_6 : (11, 6) ∈ idsA := by decide
theorem a9_7 : (9, 7) ∈ idsA := by decide
theorem a10_7 : (10, 7) ∈ idsA := by decide
theorem a11_7 : (11, 7) ∈ idsA := by decide
theorem a9_8 : (9, 8) ∈ idsA := by decide
theorem a10_8 : (10, 8) ∈ idsA := by decide
theorem a11_8 : (11, 8) ∈ idsA := by decide
theorem a9_9 : (9, 9) ∈ idsA := by decide
theorem a10_9 : (10, 9) ∈ idsA := by decide
theorem a11_9 : (11, 9) ∈ idsA := by decide
theorem a9_10 : (9, 10) ∈ idsA := by decide
theorem a10_10 : (10, 10) ∈ idsA := by decide
theorem a11_10 : (11, 10) ∈ idsA := by decide
theorem a30_0 : (30, 0) ∈ idsA := by decide
theorem a31_0 : (31, 0) ∈ idsA := by decide
theorem a32_0 : (32, 0) ∈ idsA := by decide
theorem a33_0 : (33, 0) ∈ idsA := by decide
theorem a34_0 : (34, 0) ∈ idsA := by decide
theorem a35_0 : (35, 0) ∈ idsA := by decide
theorem a36_0 : (36, 0) ∈ idsA := by decide
theorem a37_0 : (37, 0) ∈ idsA := by decide
theorem a38_0 : (38, 0) ∈ idsA := by decide
theorem a39_0 : (39, 0) ∈ idsA := by decide
theorem a40_0 : (40, 0) ∈ idsA := by decide
theorem a41_0 : (41, 0) ∈ idsA := by decide
theorem a42_0 : (42, 0) ∈ idsA := by decide
theorem a43_0 : (43, 0) ∈ idsA := by decide
theorem aH9 : ∀ h, h < 11 → (9, h) ∈ idsA := by decide
theorem aH10 : ∀ h, h < 11 → (10, h) ∈ idsA := by decide
theorem aH11 : ∀ h, h < 11 → (11, h) ∈ idsA := by decide
theorem aP1 : ∀ h, h < 2 → (1, h) ∈ idsA := by decide
theorem aP2 : ∀ h, h < 2 → (2, h) ∈ idsA := by decide
theorem aP3 : ∀ h, h < 2 → (3, h) ∈ idsA := by decide
theorem aP4 : ∀ h, h < 2 → (4, h) ∈ idsA := by decide
theorem aP5 : ∀ h, h < 2 → (5, h) ∈ idsA := by decide
theorem aP6 : ∀ h, h < 2 → (6, h) ∈ idsA := by decide
