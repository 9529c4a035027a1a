/-! THE ORDER OF THE LEAVES: the widths are 72 together -/
def smN (g : Nat → Nat) : Nat → Nat
  | 0 => 0
  | n + 1 => smN g n + g n
theorem smN_congr {g h : Nat → Nat} : ∀ {n : Nat}, (∀ i, i < n → g i = h i) → smN g n = smN h n
  | 0, _ => rfl
  | n + 1, e => by rw [smN, smN, smN_congr (fun i hi => e i (by omega)), e n (by omega)]
theorem smN_out {g : Nat → Nat} {i : Nat} : ∀ {n : Nat}, i < n → smN g n = g i + smN (updN g i 0) n
  | 0, h => by omega
  | n + 1, h => by
    rw [smN, smN]
    by_cases e : i = n
    · subst e
      have : smN g i = smN (updN g i 0) i := smN_congr (fun j hj => by unfold updN; rw [if_neg (by omega)])
      have : updN g i 0 i = 0 := by unfold updN; rw [if_pos rfl]
      omega
    · have h1 := smN_out (g := g) (i := i) (n := n) (by omega)
      have : updN g i 0 n = g n := by unfold updN; rw [if_neg (by omega)]
      omega
theorem smN_2 {g : Nat → Nat} {i j n : Nat} (hi : i < n) (hj : j < n) (h : i ≠ j) : smN g n = g i + g j + smN (updN (updN g i 0) j 0) n := by
  rw [smN_out hi, smN_out hj]
  have : updN g i 0 j = g j := by unfold updN; rw [if_neg (fun e => h e.symm)]
  omega
theorem smN_3 {g : Nat → Nat} {i j r n : Nat} (hi : i < n) (hj : j < n) (hr : r < n) (h : i ≠ j) (h2 : r ≠ i) (h3 : r ≠ j) : g i + g j + g r ≤ smN g n := by
  rw [smN_2 hi hj h, smN_out (g := updN (updN g i 0) j 0) hr]
  have : updN (updN g i 0) j 0 r = g r := by unfold updN; rw [if_neg h3, if_neg h2]
  omega
def GeoS (R : RS) : Prop := Geo1 R ∧ smN (wid R.1 R.2.1) R.1 = 72
theorem onN_add {a b c : Nat} (ha : a < 72) (hb : b < 72) (hc : c < 72) (h : onN a b + onN b c < 72) : onN a c = onN a b + onN b c := by
  unfold onN at *; split <;> split at h <;> split at h <;> (try split) <;> omega
theorem third : ∀ n, n < 9 → 3 ≤ n → ∀ a, a < n → ∃ r, r < n ∧ r ≠ a ∧ r ≠ bf n a := by decide
theorem bf_ne {n i : Nat} (hn : 2 ≤ n) (hi : i < n) : bf n i ≠ i := by unfold bf; split <;> omega
theorem two_le {n : Nat} {f hm : Nat → Nat} (h3 : 3 ≤ n) (h8 : n ≤ 8) (hG : ∀ r, r < n → f r + 1 ≤ wid n hm r) (hS : smN (wid n hm) n = 72) {a : Nat} (ha : a < n) : wid n hm (bf n a) + wid n hm a ≤ 71 := by
  obtain ⟨r, hr, h1, h2⟩ := third n (by omega) h3 a ha
  have := smN_3 (g := wid n hm) (bf_lt ha) ha hr (bf_ne (by omega) ha) h2 h1
  have := hG r hr
  omega
theorem onN_to {x y c : Nat} (hx : x < 72) (hy : y < 72) (hc : c < 72) (h : onN x c ≤ onN x y) : onN x c + onN c y = onN x y := by
  unfold onN at *; split <;> split <;> split <;> (repeat' split at h) <;> omega
theorem fit_cs {R : RS} (h3 : 3 ≤ R.1) (h8 : R.1 ≤ 8) (hh : ∀ j, j < R.1 → R.2.1 j < 72) (hG : GeoS R) {a c : Nat} (ha : a < R.1) (hc : c < 72) :
    fitA R a c = true ↔ (R.2.2.1 (bf R.1 a) + 1 ≤ onN (R.2.1 (bf R.1 a)) c ∧ onN (R.2.1 (bf R.1 a)) c + (R.2.2.1 a + 1) ≤ wid R.1 R.2.1 (bf R.1 a) + wid R.1 R.2.1 a) := by
  have t := two_le h3 h8 hG.1 hG.2 ha
  have e1 : wid R.1 R.2.1 (bf R.1 a) = onN (R.2.1 (bf R.1 a)) (R.2.1 a) := by unfold wid; rw [nx_bf (by omega) ha]
  have e2 : wid R.1 R.2.1 a = onN (R.2.1 a) (R.2.1 (nx R.1 a)) := rfl
  have hb := hh _ (bf_lt ha)
  have hx := hh _ (nx_lt (n := R.1) (i := a) (by omega))
  have hq := hh _ ha
  rw [e1, e2] at t ⊢
  have e3 := onN_add hb hq hx (by omega)
  unfold fitA
  simp only [Bool.and_eq_true, decide_eq_true_eq]
  rw [e3]
  constructor
  · rintro ⟨x1, x2, x3⟩; omega
  · rintro ⟨x1, x2⟩
    have := onN_to hb hx hc (by omega)
    omega
theorem wid_upd {n a c r : Nat} {hm : Nat → Nat} (hn : 2 ≤ n) (ha : a < n) (hr : r < n) : wid n (updN hm a c) r = if r = a then onN c (hm (nx n a)) else if r = bf n a then onN (hm (bf n a)) c else wid n hm r := by
  unfold wid updN
  by_cases e : r = a
  · subst e; rw [if_pos rfl, if_pos rfl, if_neg (nx_ne hn ha)]
  · rw [if_neg e, if_neg e]
    by_cases e2 : r = bf n a
    · subst e2; rw [if_pos rfl, nx_bf (by omega) ha, if_pos rfl]
    · rw [if_neg e2, if_neg (fun x => e2 (by rw [← x, bf_nx (by omega) hr]))]
theorem GeoS.go {t : Nat → Nat} {len : Nat} {R : RS} {p e w a b p' e' : Nat} (h3 : 3 ≤ R.1) (h8 : R.1 ≤ 8) (hh : ∀ j, j < R.1 → R.2.1 j < 72) (hG : GeoS R) (h : LineY t len R p e w a b p' e') : GeoS (goR R w a b) := by
  refine ⟨Geo1.go h3 hG.1 h, ?_⟩
  obtain ⟨-, -, hl⟩ := h
  rcases hl with ⟨rfl, -⟩ | ⟨rfl, h1, -⟩ | ⟨hc, -⟩ | ⟨rfl, -⟩ | ⟨rfl, h1, h2, hf, -⟩ | ⟨rfl, h1, h2, -⟩
  · exact hG.2
  · have hc : a = 3 ∨ a = 4 ∨ a = 5 ∨ a = 6 ∨ a = 7 ∨ a = 8 := by have := h1.2.1; have := h1.2.2; omega
    show smN (wid a (fun i => 72 * i / a)) a = 72
    rcases hc with rfl | rfl | rfl | rfl | rfl | rfl <;> decide
  · rcases hc with (rfl | rfl) | (rfl | rfl) | rfl <;> exact hG.2
  · exact hG.2
  · have ha : a < R.1 := by have := h1.2.2; omega
    have hb : b < 72 := by have := h2.2.2; omega
    have t := two_le h3 h8 hG.1 hG.2 ha
    have e1 : wid R.1 R.2.1 (bf R.1 a) = onN (R.2.1 (bf R.1 a)) (R.2.1 a) := by unfold wid; rw [nx_bf (by omega) ha]
    have e2 : wid R.1 R.2.1 a = onN (R.2.1 a) (R.2.1 (nx R.1 a)) := rfl
    have e3 := onN_add (hh _ (bf_lt ha)) (hh _ ha) (hh _ (nx_lt (n := R.1) (i := a) (by omega))) (by omega)
    unfold fitA at hf
    simp only [Bool.and_eq_true, decide_eq_true_eq] at hf
    show smN (wid R.1 (updN R.2.1 a b)) R.1 = 72
    have n1 := bf_ne (n := R.1) (i := a) (by omega) ha
    have s1 := smN_2 (g := wid R.1 (updN R.2.1 a b)) (bf_lt ha) ha n1
    have s2 := smN_2 (g := wid R.1 R.2.1) (bf_lt ha) ha n1
    have w1 : wid R.1 (updN R.2.1 a b) a = onN b (R.2.1 (nx R.1 a)) := by rw [wid_upd (by omega) ha ha, if_pos rfl]
    have w2 : wid R.1 (updN R.2.1 a b) (bf R.1 a) = onN (R.2.1 (bf R.1 a)) b := by rw [wid_upd (by omega) ha (bf_lt ha), if_neg n1, if_pos rfl]
    have w3 : smN (updN (updN (wid R.1 (updN R.2.1 a b)) (bf R.1 a) 0) a 0) R.1 = smN (updN (updN (wid R.1 R.2.1) (bf R.1 a) 0) a 0) R.1 := by
      refine smN_congr (fun r hr => ?_)
      unfold updN
      by_cases x : r = a
      · rw [if_pos x, if_pos x]
      · rw [if_neg x, if_neg x]
        by_cases y : r = bf R.1 a
        · rw [if_pos y, if_pos y]
        · rw [if_neg y, if_neg y]
          have := wid_upd (n := R.1) (a := a) (c := b) (r := r) (hm := R.2.1) (by omega) ha hr
          unfold updN at this
          rw [this, if_neg x, if_neg y]
    have := hG.2
    omega
  · exact hG.2
