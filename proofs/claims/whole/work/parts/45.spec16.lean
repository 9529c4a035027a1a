/-! a text done by the reference -/
def HI (F G : Wd) (R : RS) (q : Nat) : Prop := (∀ i : Id2, i ≠ (30, 0) → i ≠ (31, 0) → i ≠ (36, 0) → i ≠ (37, 0) → G i = F i) ∧ (∀ j, j ≠ 6 → j ≠ 10 → G (30, 0) j = F (30, 0) j) ∧ (G (30, 0) 6 = nI R.1 ∧ G (30, 0) 10 = nI R.2.2.2.1) ∧ (∀ j, j < q → G (31, 0) (56 + j) = F (38, 0) j ∧ G (36, 0) j = F (39, 0) j) ∧ ∀ j, (j < 56 ∨ 64 ≤ j) → G (31, 0) j = F (31, 0) j
theorem HI.s {F G : Wd} {R : RS} {q : Nat} (hq : q < 8) (h : HI F G R q) : HI F (upA (upA G (31, 0) (upd (G (31, 0)) (56 + q) (G (38, 0) q))) (36, 0) (upd ((upA G (31, 0) (upd (G (31, 0)) (56 + q) (G (38, 0) q))) (36, 0)) q ((upA G (31, 0) (upd (G (31, 0)) (56 + q) (G (38, 0) q))) (39, 0) q))) R (q + 1) := by
  obtain ⟨h1, h2, h3, h4, h5⟩ := h
  have e38 : G (38, 0) = F (38, 0) := h1 _ (by decide) (by decide) (by decide) (by decide)
  have e39 : (upA G (31, 0) (upd (G (31, 0)) (56 + q) (G (38, 0) q))) (39, 0) = F (39, 0) := by rw [upA_n _ _ (by decide)]; exact h1 _ (by decide) (by decide) (by decide) (by decide)
  have e36 : (upA G (31, 0) (upd (G (31, 0)) (56 + q) (G (38, 0) q))) (36, 0) = G (36, 0) := upA_n _ _ (by decide)
  rw [e39, e36, e38]
  have e30 : ∀ f : Nat → Int32, upA (upA G (31, 0) (upd (G (31, 0)) (56 + q) (F (38, 0) q))) (36, 0) f (30, 0) = G (30, 0) := fun f => by rw [upA_n _ _ (by decide), upA_n _ _ (by decide)]
  have e31 : ∀ f : Nat → Int32, upA (upA G (31, 0) (upd (G (31, 0)) (56 + q) (F (38, 0) q))) (36, 0) f (31, 0) = upd (G (31, 0)) (56 + q) (F (38, 0) q) := fun f => by rw [upA_n _ _ (by decide), upA_s]
  refine ⟨fun i a b c d => by rw [upA_n _ _ c, upA_n _ _ b]; exact h1 i a b c d, fun j a b => by rw [e30]; exact h2 j a b, by rw [e30]; exact h3, fun j hj => ?_, fun j hj => ?_⟩
  · rw [e31, upA_s]
    show (if 56 + j = 56 + q then F (38, 0) q else G (31, 0) (56 + j)) = _ ∧ (if j = q then F (39, 0) q else G (36, 0) j) = _
    by_cases x : j = q
    · rw [if_pos (by omega), if_pos x, x]; exact ⟨rfl, rfl⟩
    · rw [if_neg (by omega), if_neg x]; exact h4 j (by omega)
  · rw [e31]
    show (if j = 56 + q then F (38, 0) q else G (31, 0) j) = _
    rw [if_neg (by omega)]; exact h5 j hj
theorem HI.d {F G : Wd} {R : RS} {q : Nat} (h : HI F G R 8) (h2 : ∀ j, j < q → G (37, 0) j = F (40, 0) j) : HI F (upA G (37, 0) (upd (G (37, 0)) q (G (40, 0) q))) R 8 ∧ ∀ j, j < q + 1 → (upA G (37, 0) (upd (G (37, 0)) q (G (40, 0) q))) (37, 0) j = F (40, 0) j := by
  obtain ⟨h1, h6, h3, h4, h5⟩ := h
  have e40 : G (40, 0) = F (40, 0) := h1 _ (by decide) (by decide) (by decide) (by decide)
  have e30 : ∀ f : Nat → Int32, upA G (37, 0) f (30, 0) = G (30, 0) := fun f => upA_n _ _ (by decide)
  have e31 : ∀ f : Nat → Int32, upA G (37, 0) f (31, 0) = G (31, 0) := fun f => upA_n _ _ (by decide)
  have e36 : ∀ f : Nat → Int32, upA G (37, 0) f (36, 0) = G (36, 0) := fun f => upA_n _ _ (by decide)
  refine ⟨⟨fun i a b c d => by rw [upA_n _ _ d]; exact h1 i a b c d, fun j a b => by rw [e30]; exact h6 j a b, by rw [e30]; exact h3, fun j hj => by rw [e31, e36]; exact h4 j hj, fun j hj => by rw [e31]; exact h5 j hj⟩, fun j hj => ?_⟩
  rw [upA_s, e40]
  show (if j = q then F (40, 0) q else G (37, 0) j) = _
  by_cases x : j = q
  · rw [if_pos x, x]
  · rw [if_neg x]; exact h2 j (by omega)
/-- what the reference's cells are behind a text that was done -/
def HouseM (D W : Wd) (R : RS) (T : TL) : Prop :=
  PM W R.1 T.1 R.2.2.1 R.2.2.2.1 R.2.2.2.2.1 T.2.1 ∧ AM W 56 R.1 R.2.1 ∧ AM W 0 R.1 R.2.1 ∧ (∀ p, p < T.2.1 → W (31, 0) (64 + p) = nI (T.2.2 p) ∧ W (31, 0) (8 + p) = nI (T.2.2 p)) ∧ (∀ j, j < 8 → W (35, 0) j = nI (T.1 j) ∧ T.1 j < 4) ∧ (W (31, 0) 13 = D (31, 0) 69 ∧ W (31, 0) 69 = D (31, 0) 69) ∧ (W (30, 0) 25 = nI 0 ∧ W (32, 0) 0 = nI 0 ∧ W (32, 0) 1 = nI 0 ∧ W (30, 0) 3 = nI 0) ∧ ∀ i : Id2, i.1 < 30 → W i = D i
theorem HouseM.of {D E F G : Wd} {t : Nat → Nat} {len : Nat} {R : RS} {m : Nat} {rc : Nat → Nat × Nat} {p e : Nat} {T : TL} (hR : RK D E t len R m rc p e) (hT : TLm F T) (hTF : TFm E F) (hI : HI F G R 8) (hI3 : ∀ j, j < 3 → G (37, 0) j = F (40, 0) j) :
    HouseM D (upA (upA (upA (upA (upA G (31, 0) (cpR (G (31, 0)) 56 0 14)) (30, 0) (upd (G (30, 0)) 25 (nI 0))) (32, 0) (upd (G (32, 0)) 0 (nI 0))) (32, 0) (upd (upd (G (32, 0)) 0 (nI 0)) 1 (nI 0))) (30, 0) (upd (upd (G (30, 0)) 25 (nI 0)) 3 (nI 0))) R T := by
  obtain ⟨-, -, -, ⟨r1, r2, r3, r4, r5, r6, r7, r8, r9, r10⟩, -, -, f1, f2⟩ := hR
  obtain ⟨t1, t2, t3, t4⟩ := hT
  obtain ⟨g1, g2, g3⟩ := hTF
  obtain ⟨i1, i2, i3, i4, i5⟩ := hI
  generalize hW : upA (upA (upA (upA (upA G (31, 0) (cpR (G (31, 0)) 56 0 14)) (30, 0) (upd (G (30, 0)) 25 (nI 0))) (32, 0) (upd (G (32, 0)) 0 (nI 0))) (32, 0) (upd (upd (G (32, 0)) 0 (nI 0)) 1 (nI 0))) (30, 0) (upd (upd (G (30, 0)) 25 (nI 0)) 3 (nI 0)) = W
  have w30 : ∀ j, j ≠ 25 → j ≠ 3 → W (30, 0) j = G (30, 0) j := fun j a b => by rw [← hW, upA_s]; unfold upd; rw [if_neg b, if_neg a]
  have w31 : W (31, 0) = cpR (G (31, 0)) 56 0 14 := by rw [← hW, upA_n _ _ (by decide), upA_n _ _ (by decide), upA_n _ _ (by decide), upA_n _ _ (by decide), upA_s]
  have wo : ∀ i : Id2, i ≠ (30, 0) → i ≠ (31, 0) → i ≠ (32, 0) → W i = G i := fun i a b c => by rw [← hW, upA_n _ _ a, upA_n _ _ c, upA_n _ _ c, upA_n _ _ a, upA_n _ _ b]
  have gi : ∀ i : Id2, i ≠ (30, 0) → i ≠ (31, 0) → i ≠ (36, 0) → i ≠ (37, 0) → G i = F i := i1
  have a56 : ∀ j, j < R.1 → G (31, 0) (56 + j) = nI (R.2.1 j) ∧ R.2.1 j < 72 := fun j hj => by
    rw [(i4 j (by omega)).1, g1 _ (by decide) (by decide) (by decide)]; exact r4 j hj
  have pl : ∀ p, p < T.2.1 → G (31, 0) (64 + p) = nI (T.2.2 p) := fun p hp => by rw [i5 _ (by omega)]; exact t4 p hp
  have z69 : G (31, 0) 69 = D (31, 0) 69 := by
    rw [i5 69 (by omega), g3 69 (by omega)]; exact congrFun (f1 _ (by decide) (by decide) (by decide) (by decide) (by decide)) 69
  refine ⟨⟨r1, r2, by rw [w30 _ (by decide) (by decide)]; exact i3.1, fun j hj => by rw [wo _ (by decide) (by decide) (by decide), gi _ (by decide) (by decide) (by decide) (by decide)]; exact t1 j (by omega), fun j hj => by rw [wo _ (by decide) (by decide) (by decide), (i4 j (by omega)).2, g1 _ (by decide) (by decide) (by decide)]; exact r5 j hj, r6, by rw [w30 _ (by decide) (by decide)]; exact i3.2, fun j hj => by rw [wo _ (by decide) (by decide) (by decide), hI3 j (by omega), g1 _ (by decide) (by decide) (by decide)]; exact r8 j hj, t3, by rw [w30 _ (by decide) (by decide), i2 11 (by decide) (by decide)]; exact t2⟩, fun j hj => by rw [w31, cpR_out (by omega)]; exact a56 j hj, fun j hj => by rw [w31, cpR_in (by omega)]; exact a56 j hj, fun p hp => ⟨by rw [w31, cpR_out (by omega)]; exact pl p hp, ?_⟩, fun j hj => by rw [wo _ (by decide) (by decide) (by decide), gi _ (by decide) (by decide) (by decide) (by decide)]; exact t1 j hj, ⟨?_, by rw [w31, cpR_out (by omega)]; exact z69⟩, ⟨by rw [← hW, upA_s]; rfl, ?_, ?_, by rw [← hW, upA_s]; rfl⟩, fun i hi => ?_⟩
  · have h9 := cpR_in (w := G (31, 0)) (fr := 56) (to := 0) (m := 14) (q := 8 + p) (by omega)
    rw [Nat.zero_add] at h9
    rw [w31, h9, show 56 + (8 + p) = 64 + p from by omega]; exact pl p hp
  · have h9 := cpR_in (w := G (31, 0)) (fr := 56) (to := 0) (m := 14) (q := 13) (by omega)
    rw [w31]; exact h9.trans z69
  · rw [← hW, upA_n _ _ (by decide), upA_s]; rfl
  · rw [← hW, upA_n _ _ (by decide), upA_s]; rfl
  · have n0 : i ≠ (30, 0) := fun e => by rw [e] at hi; exact absurd hi (by decide)
    have n1 : i ≠ (31, 0) := fun e => by rw [e] at hi; exact absurd hi (by decide)
    have n2 : i ≠ (32, 0) := fun e => by rw [e] at hi; exact absurd hi (by decide)
    have n4 : i ≠ (34, 0) := fun e => by rw [e] at hi; exact absurd hi (by decide)
    have n5 : i ≠ (35, 0) := fun e => by rw [e] at hi; exact absurd hi (by decide)
    have n6 : i ≠ (36, 0) := fun e => by rw [e] at hi; exact absurd hi (by decide)
    have n7 : i ≠ (37, 0) := fun e => by rw [e] at hi; exact absurd hi (by decide)
    have n8 : i ≠ (38, 0) := fun e => by rw [e] at hi; exact absurd hi (by decide)
    have n9 : i ≠ (39, 0) := fun e => by rw [e] at hi; exact absurd hi (by decide)
    have n10 : i ≠ (40, 0) := fun e => by rw [e] at hi; exact absurd hi (by decide)
    rw [wo i n0 n1 n2, gi i n0 n1 n6 n7, g1 i n0 n5 n1]; exact f1 i n0 n4 n8 n9 n10
