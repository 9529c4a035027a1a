/-! bits of small numbers; who moves with whom -/
def bitsN (p : Nat → Bool) : Nat → Nat
  | 0 => 0
  | n + 1 => bitsN p n + if p n then 2 ^ n else 0
theorem bitsN_lt (p : Nat → Bool) : ∀ n, bitsN p n < 2 ^ n
  | 0 => by simp [bitsN]
  | n + 1 => by
    have := bitsN_lt p n
    rw [bitsN, Nat.pow_succ]
    split <;> omega
theorem bitsN_tb (p : Nat → Bool) : ∀ n j, (bitsN p n).testBit j = (decide (j < n) && p j)
  | 0, j => by simp [bitsN]
  | n + 1, j => by
    rw [bitsN]
    have hlt := bitsN_lt p n
    by_cases hp : p n = true
    · rw [if_pos hp, Nat.add_comm]
      by_cases hj : j = n
      · subst hj
        rw [Nat.testBit_two_pow_add_eq, bitsN_tb p j j]
        simp [hp]
      · rcases Nat.lt_or_gt_of_ne hj with h | h
        · rw [Nat.testBit_two_pow_add_gt h, bitsN_tb p n j]
          simp [h, Nat.lt_succ_of_lt h]
        · have h1 : (2 ^ n + bitsN p n) < 2 ^ j := by
            have : 2 ^ (n + 1) ≤ 2 ^ j := Nat.pow_le_pow_right (by decide) h
            rw [Nat.pow_succ] at this; omega
          rw [Nat.testBit_lt_two_pow h1]
          have : ¬ j < n + 1 := by omega
          simp [this]
    · rw [if_neg hp, Nat.add_zero, bitsN_tb p n j]
      by_cases hj : j = n
      · subst hj; simp [hp]
      · have : (j < n) ↔ (j < n + 1) := by omega
        simp [this]
theorem bitsN_or (p : Nat → Bool) {n t : Nat} (ht : t < n) : bitsN p n ||| 2 ^ t = bitsN (fun j => p j || decide (j = t)) n := by
  apply Nat.eq_of_testBit_eq
  intro j
  rw [Nat.testBit_or, bitsN_tb, bitsN_tb, Nat.testBit_two_pow]
  by_cases hj : j = t
  · subst hj; simp [ht]
  · have : ¬ t = j := fun e => hj e.symm
    simp [hj, this]
theorem bitsN_congr {p q : Nat → Bool} : ∀ {n : Nat}, (∀ j, j < n → p j = q j) → bitsN p n = bitsN q n
  | 0, _ => rfl
  | n + 1, h => by rw [bitsN, bitsN, bitsN_congr (fun j hj => h j (by omega)), h n (by omega)]
theorem bitsN_0 {p : Nat → Bool} : ∀ {n : Nat}, (∀ j, j < n → p j = false) → bitsN p n = 0
  | 0, _ => rfl
  | n + 1, h => by rw [bitsN, bitsN_0 (fun j hj => h j (by omega)), h n (by omega)]; rfl
theorem bitsN_pos {p : Nat → Bool} {n j : Nat} (hj : j < n) (h : p j = true) : bitsN p n ≠ 0 := by
  intro e
  have h1 := bitsN_tb p n j
  rw [e] at h1
  simp [hj, h] at h1
theorem bitsN_one {n t : Nat} (ht : t < n) : bitsN (fun j => decide (j = t)) n = 2 ^ t := by
  apply Nat.eq_of_testBit_eq
  intro j
  rw [bitsN_tb, Nat.testBit_two_pow]
  by_cases hj : j = t
  · subst hj; simp [ht]
  · have : ¬ t = j := fun e => hj e.symm
    simp [hj, this]
theorem nI_or (a b : Nat) : nI a ||| nI b = nI (a ||| b) := by
  apply Int32.toBitVec_inj.1
  show BitVec.ofNat 32 a ||| BitVec.ofNat 32 b = BitVec.ofNat 32 (a ||| b)
  apply BitVec.eq_of_getLsbD_eq
  intro i hi
  simp [hi]
theorem nI_shl : ∀ t, t < 8 → nI 1 <<< (nI t &&& 31) = nI (2 ^ t) := by decide +kernel
theorem nI_bit : ∀ v, v < 256 → ∀ t, t < 8 → (nI v >>> (nI t &&& 31)) &&& nI 1 = nI (v / 2 ^ t % 2) := by decide +kernel
theorem tb_div (v t : Nat) : v / 2 ^ t % 2 = 1 ↔ v.testBit t = true := by
  rw [Nat.testBit_eq_decide_div_mod_eq]; simp
theorem bi_t {c : Prop} [Decidable c] (h : c) : (if c then (1 : Int32) else 0) = nI 1 := by rw [if_pos h]; decide
theorem bi_f {c : Prop} [Decidable c] (h : ¬ c) : (if c then (1 : Int32) else 0) = nI 0 := by rw [if_neg h]; decide
/-! how far on (or back) a leaf is from another -/
def dst (n i s j : Nat) : Nat := if s = 0 then (j + n - i) % n else (i + n - j) % n
theorem dst_0 : ∀ n, n < 9 → ∀ i, i < n → ∀ s, s < 2 → dst n i s i = 0 := by decide +kernel
theorem dst_lf : ∀ n, n < 9 → ∀ i, i < n → ∀ s, s < 2 → ∀ j, j < n → dst n i s (lfB n j s) = if dst n i s j + 1 = n then 0 else dst n i s j + 1 := by decide +kernel
theorem dst_lt : ∀ n, n < 9 → ∀ i, i < n → ∀ s, s < 2 → ∀ j, j < n → dst n i s j < n := by decide +kernel
theorem dst_injB : ((List.range 9).all fun n => (List.range n).all fun i => (List.range 2).all fun s => (List.range n).all fun j => (List.range n).all fun t => (dst n i s j != dst n i s t) || j == t) = true := by decide +kernel
theorem dst_inj (n : Nat) (hn : n < 9) (i : Nat) (hi : i < n) (s : Nat) (hs : s < 2) (j : Nat) (hj : j < n) (t : Nat) (ht : t < n) (h : dst n i s j = dst n i s t) : j = t := by
  have h1 := dst_injB
  simp only [List.all_eq_true, List.mem_range] at h1
  have h2 := h1 n hn i hi s hs j hj t ht
  simpa [h] using h2
theorem inM_dst (n m i s j : Nat) : inM n m i s j = decide (dst n i s j < m) := rfl
theorem inM_next {n i s c w : Nat} (hn : n < 9) (hi : i < n) (hs : s < 2) (hw : w < n) (hc : dst n i s w = c) : bitsN (inM n c i s) n ||| 2 ^ w = bitsN (inM n (c + 1) i s) n := by
  rw [bitsN_or _ hw]
  apply bitsN_congr
  intro j hj
  rw [inM_dst, inM_dst]
  by_cases h : j = w
  · subst h; simp [hc]
  · have h1 : dst n i s j ≠ c := fun e => h (dst_inj n hn i hi s hs j hj w hw (e.trans hc.symm))
    have h2 : dst n i s j < c + 1 ↔ dst n i s j < c := by omega
    simp [h, h2]
theorem inM_one {n i s : Nat} (hn : n < 9) (hi : i < n) (hs : s < 2) : 2 ^ i = bitsN (inM n 1 i s) n := by
  rw [← bitsN_one hi]
  apply bitsN_congr
  intro j hj
  rw [inM_dst]
  by_cases h : j = i
  · subst h; simp [dst_0 n hn j hi s hs]
  · have h1 : dst n i s j ≠ 0 := fun e => h (dst_inj n hn i hi s hs j hj i hi (e.trans (dst_0 n hn i hi s hs).symm))
    have h2 : ¬ dst n i s j < 1 := by omega
    simp [h, h2]
theorem inM_zero (n i s : Nat) : bitsN (inM n 0 i s) n = 0 := bitsN_0 (fun j _ => by simp [inM])
theorem bits256 {p : Nat → Bool} {n : Nat} (h : n ≤ 8) : bitsN p n < 256 := Nat.lt_of_lt_of_le (bitsN_lt p n) (Nat.pow_le_pow_right (by decide) h)
theorem mset_ne {n m i s : Nat} (hn : n < 9) (hi : i < n) (hs : s < 2) : bitsN (inM n m i s) n = 0 ↔ m = 0 := by
  constructor
  · intro h
    rcases Nat.eq_zero_or_pos m with e | e
    · exact e
    · exact absurd h (bitsN_pos hi (by rw [inM_dst, dst_0 n hn i hi s hs]; simpa using e))
  · intro h; subst h; exact inM_zero n i s
theorem any_1 {p : Nat → Bool} {q : Nat} (h : anyB p q = true) : anyB p (q + 1) = true := by rw [anyB, h]; rfl
theorem any_2 {p : Nat → Bool} {q : Nat} (h : p q = true) : anyB p (q + 1) = true := by rw [anyB, h, Bool.or_true]
theorem any_0 {p : Nat → Bool} {q : Nat} (h : ¬ anyB p q = true) (h2 : p q = false) : ¬ anyB p (q + 1) = true := by
  rw [anyB, h2, Bool.or_false]; exact h
theorem opC_t {n : Nat} {a dr : Nat → Nat} {r k : Nat} (h1 : 0 < onN (a r) (dr k)) (h2 : onN (a r) (dr k) < wid n a r) : opC n a dr r k = true := by simp [opC, h1, h2]
theorem opC_f1 {n : Nat} {a dr : Nat → Nat} {r k : Nat} (h1 : onN (a r) (dr k) = 0) : opC n a dr r k = false := by simp [opC, h1]
theorem opC_f2 {n : Nat} {a dr : Nat → Nat} {r k : Nat} (h1 : wid n a r ≤ onN (a r) (dr k)) : opC n a dr r k = false := by
  have : ¬ onN (a r) (dr k) < wid n a r := by omega
  simp [opC, this]
theorem g_drop {X : Cxt} {M : Mt} {ids : List Id2} {pc : Nat} {L : Lc} {st : List AV} {D : Wd} {L' : Lc} (i : Nat) (h : L.set i none = L') (k : Gk X M ids pc L' st D) : Gk X M ids pc L st D := by
  subst h
  intro H locs ls hH hL
  refine k H locs ls hH ⟨hL.1, hL.2.1, fun j v hj => hL.2.2 j v ?_⟩
  by_cases e : i = j
  · subst e
    by_cases hl : i < L.length
    · rw [List.getElem?_set_self hl] at hj; cases hj
    · rw [List.getElem?_eq_none (by simp; omega)] at hj; cases hj
  · rw [List.getElem?_set_ne e] at hj; exact hj
theorem movG_wide {n : Nat} {a k f : Nat → Nat} {s w m : Nat} (h : f (rmB n w s) + 1 < wid n a (rmB n w s)) : ∀ fu, movG n a k f s fu w m = m
  | 0 => rfl
  | fu + 1 => by rw [movG, if_pos h]
