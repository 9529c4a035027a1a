/-! a line done: what is read then -/
theorem RK.go {D E E' : Wd} {t : Nat → Nat} {len : Nat} {R R' : RS} {m : Nat} {rc : Nat → Nat × Nat} {p e : Nat} (h : RK D E t len R m rc p e) (h1 : ∀ i : Id2, i ≠ (30, 0) → i ≠ (38, 0) → i ≠ (39, 0) → i ≠ (40, 0) → E' i = E i) (h2 : ∀ q, q ≠ 15 → q ≠ 19 → q ≠ 20 → E' (30, 0) q = E (30, 0) q) (h3 : RDm E' R') : RK D E' t len R' m rc p e ∧ E' (34, 0) = E (34, 0) := by
  obtain ⟨a1, a2, a3, a4, a5, a6, a7⟩ := h
  refine ⟨⟨⟨by rw [h2 3 (by decide) (by decide) (by decide)]; exact a1.1, a1.2.1, by rw [h1 _ (by decide) (by decide) (by decide) (by decide)]; exact a1.2.2⟩, ⟨by rw [h2 12 (by decide) (by decide) (by decide)]; exact a2.1, by rw [h2 13 (by decide) (by decide) (by decide)]; exact a2.2.1, by rw [h2 14 (by decide) (by decide) (by decide)]; exact a2.2.2⟩, a3, h3, ⟨by rw [h2 5 (by decide) (by decide) (by decide)]; exact a5.1, a5.2⟩, fun q hq => by rw [h1 _ (by decide) (by decide) (by decide) (by decide)]; exact a6 q hq, ⟨fun i x1 x2 x3 x4 x5 => (h1 i x1 x3 x4 x5).trans (a7.1 i x1 x2 x3 x4 x5), fun q x1 x2 x3 x4 x5 x6 x7 => (h2 q x5 x6 x7).trans (a7.2 q x1 x2 x3 x4 x5 x6 x7)⟩⟩, h1 _ (by decide) (by decide) (by decide) (by decide)⟩
/-- one line more has been read -/
theorem RK.inc {D E : Wd} {t : Nat → Nat} {len : Nat} {R : RS} {m : Nat} {rc : Nat → Nat × Nat} {p e w a : Nat} (h : RK D E t len R m rc p e) (hm : m ≤ 11) (hw : E (34, 0) (3 * m) = nI w) (hw9 : w < 10) (ha : w ≠ 9 → E (34, 0) (3 * m + 1) = nI a) : RK D (upA E (30, 0) (upd (E (30, 0)) 5 (nI (m + 1)))) t len R (m + 1) (fun q => if q = m then (w, a) else rc q) p e := by
  obtain ⟨a1, a2, a3, a4, a5, a6, a7⟩ := h
  have hg : ∀ i : Id2, i ≠ (30, 0) → upA E (30, 0) (upd (E (30, 0)) 5 (nI (m + 1))) i = E i := fun i x => upA_n E _ x
  have hf : ∀ q, q ≠ 5 → upA E (30, 0) (upd (E (30, 0)) 5 (nI (m + 1))) (30, 0) q = E (30, 0) q := fun q x => by
    rw [upA_s]; unfold upd; rw [if_neg x]
  obtain ⟨r1, r2, r3, r4, r5, r6, r7, r8, r9, r10⟩ := a4
  refine ⟨⟨by rw [hf _ (by decide)]; exact a1.1, a1.2.1, by rw [hg _ (by decide)]; exact a1.2.2⟩, ⟨by rw [hf _ (by decide)]; exact a2.1, by rw [hf _ (by decide)]; exact a2.2.1, by rw [hf _ (by decide)]; exact a2.2.2⟩, a3, ⟨r1, r2, by rw [hf _ (by decide)]; exact r3, by rw [hg _ (by decide)]; exact r4, by rw [hg _ (by decide)]; exact r5, r6, by rw [hf _ (by decide)]; exact r7, by rw [hg _ (by decide)]; exact r8, r9, by rw [hf _ (by decide)]; exact r10⟩, ⟨by rw [upA_s]; rfl, by omega⟩, fun q hq => ?_, ⟨fun i x1 x2 x3 x4 x5 => (hg i x1).trans (a7.1 i x1 x2 x3 x4 x5), fun q x1 x2 x3 x4 x5 x6 x7 => (hf q x1).trans (a7.2 q x1 x2 x3 x4 x5 x6 x7)⟩⟩
  rw [hg _ (by decide)]
  dsimp only
  by_cases hqm : q = m
  · subst hqm
    rw [if_pos rfl]
    exact ⟨hw, hw9, ha⟩
  · rw [if_neg hqm]
    exact a6 q (by omega)
def Geo1 (R : RS) : Prop := ∀ r, r < R.1 → R.2.2.1 r + 1 ≤ onN (R.2.1 r) (R.2.1 (nx R.1 r))
theorem nx_ne {n i : Nat} (hn : 2 ≤ n) (hi : i < n) : nx n i ≠ i := by unfold nx; split <;> omega
theorem nx_bf {n i : Nat} (hn : 1 ≤ n) (hi : i < n) : nx n (bf n i) = i := by unfold nx bf; split <;> split <;> omega
theorem bf_nx {n i : Nat} (hn : 1 ≤ n) (hi : i < n) : bf n (nx n i) = i := by unfold nx bf; split <;> split <;> omega
theorem nx_inj {n i j : Nat} (hn : 1 ≤ n) (hi : i < n) (hj : j < n) (h : nx n i = nx n j) : i = j := by
  rw [← bf_nx hn hi, h, bf_nx hn hj]
/-- a house told anew, its first q leaves -/
def Hs (E : Wd) (a q : Nat) : Wd := upA (upA (upA E (30, 0) (upd (upd (E (30, 0)) 15 (nI a)) 19 (nI 0))) (38, 0) (putA (E (38, 0)) 0 q (fun i => 72 * i / a))) (39, 0) (putA (E (39, 0)) 0 q (fun _ => 0))
theorem Hs.a {E : Wd} {a q : Nat} : Hs E a q (38, 0) = putA (E (38, 0)) 0 q (fun i => 72 * i / a) := by rw [Hs, upA_n _ _ (by decide), upA_s]
theorem Hs.b {E : Wd} {a q : Nat} : Hs E a q (39, 0) = putA (E (39, 0)) 0 q (fun _ => 0) := by rw [Hs, upA_s]
theorem Hs.c {E : Wd} {a q : Nat} : Hs E a q (30, 0) = upd (upd (E (30, 0)) 15 (nI a)) 19 (nI 0) := by rw [Hs, upA_n _ _ (by decide), upA_n _ _ (by decide), upA_s]
theorem Hs.o {E : Wd} {a q : Nat} {i : Id2} (h1 : i ≠ (30, 0)) (h2 : i ≠ (38, 0)) (h3 : i ≠ (39, 0)) : Hs E a q i = E i := by rw [Hs, upA_n _ _ h3, upA_n _ _ h2, upA_n _ _ h1]
theorem Hs.z (E : Wd) (a : Nat) : upA (upA E (30, 0) (upd (E (30, 0)) 15 (nI a))) (30, 0) (upd ((upA E (30, 0) (upd (E (30, 0)) 15 (nI a))) (30, 0)) 19 (nI 0)) = Hs E a 0 := by
  apply wd_ext
  intro i j
  by_cases h1 : i = (30, 0)
  · subst h1; rw [Hs.c, upA_s, upA_s]
  · rw [upA_n _ _ h1, upA_n _ _ h1]
    by_cases h2 : i = (38, 0)
    · subst h2; rw [Hs.a, putA_zero]
    · by_cases h3 : i = (39, 0)
      · subst h3; rw [Hs.b, putA_zero]
      · rw [Hs.o h1 h2 h3]
theorem Hs.s (E : Wd) (a q : Nat) : upA (upA (Hs E a q) (38, 0) (upd (Hs E a q (38, 0)) q (nI (72 * q / a)))) (39, 0) (upd ((upA (Hs E a q) (38, 0) (upd (Hs E a q (38, 0)) q (nI (72 * q / a)))) (39, 0)) q (nI 0)) = Hs E a (q + 1) := by
  have e1 := putA_succ (E (38, 0)) 0 q (fun i => 72 * i / a)
  have e2 := putA_succ (E (39, 0)) 0 q (fun _ => 0)
  rw [Nat.zero_add] at e1 e2
  apply wd_ext
  intro i j
  by_cases h3 : i = (39, 0)
  · subst h3; rw [upA_s, upA_n _ _ (by decide), Hs.b, Hs.b, e2]
  · rw [upA_n _ _ h3]
    by_cases h2 : i = (38, 0)
    · subst h2; rw [upA_s, Hs.a, Hs.a, e1]
    · rw [upA_n _ _ h2]
      by_cases h1 : i = (30, 0)
      · subst h1; rw [Hs.c, Hs.c]
      · rw [Hs.o h1 h2 h3, Hs.o h1 h2 h3]
theorem hs_div {i a : Nat} (h : i < a) : 72 * i / a < 72 := by
  rw [Nat.div_lt_iff_lt_mul (by omega)]
  omega
