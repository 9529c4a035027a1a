/-! THE ORDER OF THE LEAVES is kept by steps, pushes, hours -/
def Geo (n : Nat) (f a : Nat → Nat) : Prop := (∀ j, j < n → a j < 72) ∧ (∀ r, r < n → f r + 1 ≤ wid n a r) ∧ smN (wid n a) n = 72
theorem smN_add (g h : Nat → Nat) : ∀ n, smN (fun i => g i + h i) n = smN g n + smN h n
  | 0 => rfl
  | n + 1 => by
    have := smN_add g h n
    show smN (fun i => g i + h i) n + (g n + h n) = smN g n + g n + (smN h n + h n)
    omega
theorem smN_sh (g : Nat → Nat) : ∀ m, smN (fun i => g (i + 1)) m + g 0 = smN g (m + 1)
  | 0 => by simp [smN]
  | m + 1 => by
    have := smN_sh g m
    show smN (fun i => g (i + 1)) m + g (m + 1) + g 0 = smN g (m + 1) + g (m + 1)
    omega
theorem smN_nx (g : Nat → Nat) : ∀ n, smN (fun i => g (nx n i)) n = smN g n
  | 0 => rfl
  | m + 1 => by
    have e : smN (fun i => g (nx (m + 1) i)) m = smN (fun i => g (i + 1)) m := smN_congr (fun i hi => by
      show g (nx (m + 1) i) = g (i + 1)
      unfold nx; rw [if_pos (by omega)])
    have e2 : nx (m + 1) m = 0 := by unfold nx; rw [if_neg (by omega)]
    show smN (fun i => g (nx (m + 1) i)) m + g (nx (m + 1) m) = _
    rw [e, e2, smN_sh]
theorem onN_s0 {x y : Nat} (hx : x < 72) (hy : y < 72) (p q : Bool) (h1 : p = true → q = false → 1 ≤ onN x y) (h2 : p = false → q = true → onN x y ≤ 70) : onN (if p then sa 0 x else x) (if q then sa 0 y else y) + (if p then 1 else 0) = onN x y + (if q then 1 else 0) := by
  have s1 : sa 0 x = (x + 1) % 72 := by unfold sa; rw [if_pos rfl]
  have s2 : sa 0 y = (y + 1) % 72 := by unfold sa; rw [if_pos rfl]
  have b1 : (x + 1) % 72 < 72 := Nat.mod_lt _ (by decide)
  have b2 : (y + 1) % 72 < 72 := Nat.mod_lt _ (by decide)
  rw [s1, s2]
  cases p <;> cases q
  · simp
  · have h := h2 rfl rfl
    simp only [Bool.false_eq_true, ↓reduceIte]
    rw [← onN_mod hx hy] at h ⊢
    rw [← onN_mod hx b2]; omega
  · have h := h1 rfl rfl
    simp only [Bool.false_eq_true, ↓reduceIte]
    rw [← onN_mod hx hy] at h ⊢
    rw [← onN_mod b1 hy]; omega
  · simp only [↓reduceIte]
    rw [← onN_mod hx hy, ← onN_mod b1 b2]; omega
theorem onN_s1 {x y : Nat} (hx : x < 72) (hy : y < 72) (p q : Bool) (h1 : q = true → p = false → 1 ≤ onN x y) (h2 : q = false → p = true → onN x y ≤ 70) : onN (if p then sa 1 x else x) (if q then sa 1 y else y) + (if q then 1 else 0) = onN x y + (if p then 1 else 0) := by
  have s1 : sa 1 x = (x + 71) % 72 := by unfold sa; rw [if_neg (by decide)]
  have s2 : sa 1 y = (y + 71) % 72 := by unfold sa; rw [if_neg (by decide)]
  have b1 : (x + 71) % 72 < 72 := Nat.mod_lt _ (by decide)
  have b2 : (y + 71) % 72 < 72 := Nat.mod_lt _ (by decide)
  rw [s1, s2]
  cases p <;> cases q
  · simp
  · have h := h1 rfl rfl
    simp only [Bool.false_eq_true, ↓reduceIte]
    rw [← onN_mod hx hy] at h ⊢
    rw [← onN_mod hx b2]; omega
  · have h := h2 rfl rfl
    simp only [Bool.false_eq_true, ↓reduceIte]
    rw [← onN_mod hx hy] at h ⊢
    rw [← onN_mod b1 hy]; omega
  · simp only [↓reduceIte]
    rw [← onN_mod hx hy, ← onN_mod b1 b2]; omega
theorem movG_end {n : Nat} {a k f : Nat → Nat} {s i : Nat} (hn : n < 9) (hi : i < n) (hs : s < 2) : ∀ fu last many, last < n → dst n i s last + 1 = many → many + fu ≤ n → 0 < movG n a k f s fu last many →
    movG n a k f s fu last many = fu + many ∨ ∃ l, l < n ∧ dst n i s l + 1 = movG n a k f s fu last many ∧ f (rmB n l s) + 1 < wid n a (rmB n l s)
  | 0, last, many, hl, hd, hm, h0 => Or.inl (by rw [movG, Nat.zero_add])
  | fu + 1, last, many, hl, hd, hm, h0 => by
    rw [movG] at h0 ⊢
    by_cases h1 : f (rmB n last s) + 1 < wid n a (rmB n last s)
    · rw [if_pos h1]; exact Or.inr ⟨last, hl, hd, h1⟩
    · rw [if_neg h1] at h0 ⊢
      by_cases h2 : 1 < k (lfB n last s)
      · rw [if_pos h2] at h0; exact absurd h0 (Nat.lt_irrefl 0)
      · rw [if_neg h2] at h0 ⊢
        have e : dst n i s (lfB n last s) + 1 = many + 1 := by
          rw [dst_lf n hn i hi s hs last hl, if_neg (by omega), hd]
        rcases movG_end hn hi hs fu (lfB n last s) (many + 1) (lfB_lt hl) e (by omega) h0 with h | h
        · left; omega
        · exact Or.inr h
theorem mov_end {n : Nat} {a k f : Nat → Nat} {s i : Nat} (h3 : 3 ≤ n) (hn : n < 9) (hi : i < n) (hs : s < 2) (h0 : 0 < mov n a k f i s) :
    mov n a k f i s = n ∨ ∃ l, l < n ∧ dst n i s l + 1 = mov n a k f i s ∧ f (rmB n l s) + 1 < wid n a (rmB n l s) := by
  unfold mov at h0 ⊢
  by_cases hk : k i = 3
  · rw [if_pos hk] at h0; exact absurd h0 (Nat.lt_irrefl 0)
  · rw [if_neg hk] at h0 ⊢
    rcases movG_end hn hi hs (n - 1) i 1 hi (by rw [dst_0 n hn i hi s hs]) (by omega) h0 with h | h
    · left; omega
    · exact Or.inr h
theorem Geo.le {n : Nat} {f a : Nat → Nat} (h3 : 3 ≤ n) (h8 : n ≤ 8) (h : Geo n f a) {r : Nat} (hr : r < n) : 1 ≤ wid n a r ∧ wid n a r ≤ 70 := by
  have h1 := h.2.1 r hr
  have h2 := two_le h3 h8 h.2.1 h.2.2 hr
  have h4 := h.2.1 _ (bf_lt hr)
  omega
/-- the room in front of the last leaf that moves is wide -/
theorem mov_on {n : Nat} {a k f : Nat → Nat} {i r : Nat} (h3 : 3 ≤ n) (hn : n < 9) (hi : i < n) (hr : r < n) (h1 : inM n (mov n a k f i 0) i 0 r = true) (h2 : inM n (mov n a k f i 0) i 0 (nx n r) = false) : f r + 1 < wid n a r := by
  rw [inM_dst, decide_eq_true_eq] at h1
  rw [inM_dst, decide_eq_false_iff_not] at h2
  have e := dst_lf n hn i hi 0 (by decide) r hr
  have el : lfB n r 0 = nx n r := by unfold lfB; rw [if_pos rfl]
  rw [el] at e
  rw [e] at h2
  by_cases hq : dst n i 0 r + 1 = n
  · rw [if_pos hq] at h2; omega
  · rw [if_neg hq] at h2
    rcases mov_end (a := a) (k := k) (f := f) h3 hn hi (by decide : 0 < 2) (by omega) with h | ⟨l, hl, hd, hw⟩
    · omega
    · have : l = r := dst_inj n hn i hi 0 (by decide) l hl r hr (by omega)
      subst this
      have er : rmB n l 0 = l := by unfold rmB; rw [if_pos rfl]
      rw [er] at hw; exact hw
theorem mov_back {n : Nat} {a k f : Nat → Nat} {i r : Nat} (h3 : 3 ≤ n) (hn : n < 9) (hi : i < n) (hr : r < n) (h1 : inM n (mov n a k f i 1) i 1 (nx n r) = true) (h2 : inM n (mov n a k f i 1) i 1 r = false) : f r + 1 < wid n a r := by
  rw [inM_dst, decide_eq_true_eq] at h1
  rw [inM_dst, decide_eq_false_iff_not] at h2
  have hx : nx n r < n := nx_lt (by omega)
  have e := dst_lf n hn i hi 1 (by decide) (nx n r) hx
  have el : lfB n (nx n r) 1 = r := by unfold lfB; rw [if_neg (by decide), bf_nx (by omega) hr]
  rw [el] at e
  rw [e] at h2
  by_cases hq : dst n i 1 (nx n r) + 1 = n
  · rw [if_pos hq] at h2; omega
  · rw [if_neg hq] at h2
    rcases mov_end (a := a) (k := k) (f := f) h3 hn hi (by decide : 1 < 2) (by omega) with h | ⟨l, hl, hd, hw⟩
    · omega
    · have : l = nx n r := dst_inj n hn i hi 1 (by decide) l hl (nx n r) hx (by omega)
      subst this
      have er : rmB n (nx n r) 1 = r := by unfold rmB; rw [if_neg (by decide), bf_nx (by omega) hr]
      rw [er] at hw; exact hw
theorem geo_stp {n : Nat} {a k f : Nat → Nat} {i s : Nat} (h3 : 3 ≤ n) (h8 : n ≤ 8) (h : Geo n f a) (hi : i < n) (hs : s < 2) : Geo n f (stp n a k f i s) := by
  have hc : s = 0 ∨ s = 1 := by omega
  refine ⟨fun j hj => stp_lt (h.1 j hj), ?_⟩
  rcases hc with rfl | rfl
  · have key : ∀ r, r < n → wid n (stp n a k f i 0) r + (if inM n (mov n a k f i 0) i 0 r then 1 else 0) = wid n a r + (if inM n (mov n a k f i 0) i 0 (nx n r) then 1 else 0) := fun r hr =>
      onN_s0 (h.1 r hr) (h.1 _ (nx_lt (by omega))) _ _ (fun _ _ => (h.le h3 h8 hr).1) (fun _ _ => (h.le h3 h8 hr).2)
    refine ⟨fun r hr => ?_, ?_⟩
    · have k1 := key r hr
      have k2 := h.2.1 r hr
      cases e1 : inM n (mov n a k f i 0) i 0 r <;> cases e2 : inM n (mov n a k f i 0) i 0 (nx n r) <;> simp only [e1, e2, Bool.false_eq_true, ↓reduceIte] at k1
      · omega
      · omega
      · have := mov_on h3 (by omega) hi hr e1 e2; omega
      · omega
    · have k1 := smN_congr (n := n) key
      rw [smN_add, smN_add, smN_nx (fun r => if inM n (mov n a k f i 0) i 0 r then 1 else 0)] at k1
      have := h.2.2
      have e : smN (fun i => wid n a i) n = 72 := this
      have e2 : smN (fun r => wid n (stp n a k f i 0) r) n = smN (wid n (stp n a k f i 0)) n := rfl
      omega
  · have key : ∀ r, r < n → wid n (stp n a k f i 1) r + (if inM n (mov n a k f i 1) i 1 (nx n r) then 1 else 0) = wid n a r + (if inM n (mov n a k f i 1) i 1 r then 1 else 0) := fun r hr =>
      onN_s1 (h.1 r hr) (h.1 _ (nx_lt (by omega))) _ _ (fun _ _ => (h.le h3 h8 hr).1) (fun _ _ => (h.le h3 h8 hr).2)
    refine ⟨fun r hr => ?_, ?_⟩
    · have k1 := key r hr
      have k2 := h.2.1 r hr
      cases e1 : inM n (mov n a k f i 1) i 1 r <;> cases e2 : inM n (mov n a k f i 1) i 1 (nx n r) <;> simp only [e1, e2, Bool.false_eq_true, ↓reduceIte] at k1
      · omega
      · have := mov_back h3 (by omega) hi hr e2 e1; omega
      · omega
      · omega
    · have k1 := smN_congr (n := n) key
      rw [smN_add, smN_add, smN_nx (fun r => if inM n (mov n a k f i 1) i 1 r then 1 else 0)] at k1
      have e : smN (wid n a) n = 72 := h.2.2
      have k2 : smN (wid n (stp n a k f i 1)) n + smN (fun r => if inM n (mov n a k f i 1) i 1 r then 1 else 0) n = smN (wid n a) n + smN (fun r => if inM n (mov n a k f i 1) i 1 r then 1 else 0) n := k1
      omega
theorem geo_psh {n : Nat} {k f : Nat → Nat} {i s : Nat} (h3 : 3 ≤ n) (h8 : n ≤ 8) (hi : i < n) (hs : s < 2) : ∀ d a, Geo n f a → Geo n f (psh n k f i s d a).2
  | 0, a, h => h
  | d + 1, a, h => by
    unfold psh
    split
    · exact h
    · exact geo_psh h3 h8 hi hs d _ (geo_stp h3 h8 h hi hs)
theorem geo_hrA {n : Nat} {k f hm : Nat → Nat} (h3 : 3 ≤ n) (h8 : n ≤ 8) : ∀ m a, m ≤ n → Geo n f a → Geo n f (hrA n k f hm m a)
  | 0, a, _, h => h
  | m + 1, a, hm', h => by
    have ih := geo_hrA (k := k) (hm := hm) h3 h8 m a (by omega) h
    unfold hrA
    split
    · exact geo_stp h3 h8 ih (by omega) (by split <;> decide)
    · exact ih
theorem geo_hrN {n : Nat} {k f hm : Nat → Nat} (h3 : 3 ≤ n) (h8 : n ≤ 8) : ∀ m a, Geo n f a → Geo n f (hrN n k f hm m a)
  | 0, a, h => h
  | m + 1, a, h => by
    unfold hrN
    exact geo_hrA h3 h8 n _ (Nat.le_refl n) (geo_hrN h3 h8 m a h)
theorem geo_push {n : Nat} {k f a : Nat → Nat} {x s d : Int32} (h3 : 3 ≤ n) (h8 : n ≤ 8) (h : Geo n f a) : Geo n f (pushA n k f a x s d) := by
  unfold pushA
  by_cases h1 : lt0 x n = true
  · rw [if_pos h1]
    by_cases h2 : (lt0 s 2 && rng d 1 72) = true
    · rw [if_pos h2]
      rw [Bool.and_eq_true] at h2
      obtain ⟨i, hi, rfl⟩ := lt0_nI h1
      obtain ⟨j, hj, rfl⟩ := lt0_nI h2.1
      have e1 : ix (nI i) = i := nI_clamp (by omega)
      have e2 : ix (nI j) = j := nI_clamp (by omega)
      rw [e1, e2]
      exact geo_psh h3 h8 hi hj _ _ h
    · rw [if_neg h2]; exact h
  · rw [if_neg h1]; exact h
