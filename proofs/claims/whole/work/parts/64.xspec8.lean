/-! THE CLASS'S TEXT: what is read so far -/
def FRx (D E : Wd) : Prop := (∀ i : Id2, i ≠ (7, 0) → ¬ (i.2 = 1 ∧ 1 ≤ i.1 ∧ i.1 ≤ 6) → E i = D i) ∧ ∀ q, q ≠ 4 → q ≠ 5 → q ≠ 6 → E (7, 0) q = D (7, 0) q
theorem FRx.rf {D : Wd} : FRx D D := ⟨fun _ _ _ => rfl, fun _ _ _ _ => rfl⟩
theorem FRx.tr {D E F : Wd} (h : FRx D E) (g : FRx E F) : FRx D F := ⟨fun i a b => (g.1 i a b).trans (h.1 i a b), fun q a b c => (g.2 q a b c).trans (h.2 q a b c)⟩
theorem FRx.f {D E : Wd} {k : Nat} {v : Int32} (h : FRx D E) (hk : k = 4 ∨ k = 5 ∨ k = 6) : FRx D (upA E (7, 0) (upd (E (7, 0)) k v)) :=
  ⟨fun i a b => by rw [upA_n _ _ a]; exact h.1 i a b, fun q a b c => by rw [upA_s]; unfold upd; rw [if_neg (by omega)]; exact h.2 q a b c⟩
theorem FRx.p {D E : Wd} {c : Nat} {f : Nat → Int32} (h : FRx D E) (h1 : 1 ≤ c) (h6 : c ≤ 6) : FRx D (upA E (c, 1) f) :=
  ⟨fun i a b => by rw [upA_n _ _ (fun e => b (by rw [e]; exact ⟨rfl, h1, h6⟩))]; exact h.1 i a b, fun q a b c' => by rw [upA_n _ _ (neK (by omega) _ _)]; exact h.2 q a b c'⟩
def PDx (E : Wd) (R : RS) (T : TL) : Prop := PX E 1 R.1 T.1 R.2.2.1 R.2.2.2.1 R.2.2.2.2.1 T.2.1 ∧ HX E 1 R.1 R.2.1 ∧ (∀ q, q < T.2.1 → E (6, 1) q = nI (T.2.2 q)) ∧ R.2.2.2.2.2 = T.2.1
def RKx (D E : Wd) (t : Nat → Nat) (len : Nat) (R : RS) (T : TL) (e : Nat) : Prop := TXx E t len ∧ (E (7, 0) 5 = nI e ∧ e ≤ len) ∧ PDx E R T ∧ FRx D E
theorem PDx.f {E : Wd} {R : RS} {T : TL} {f : Nat → Int32} (h : PDx E R T) : PDx (upA E (7, 0) f) R T := by
  obtain ⟨⟨h1, h2, h3, h4, h5, h6, h7, h8, h9, h10⟩, hH, hp, hr⟩ := h
  have e : ∀ q, q < 7 → upA E (7, 0) f (q, 1) = E (q, 1) := fun q hq => upA_n _ _ (neK (by omega) _ _)
  exact ⟨⟨h1, h2, by rw [e _ (by decide)]; exact h3, by rw [e _ (by decide)]; exact h4, by rw [e _ (by decide)]; exact h5, h6, by rw [e _ (by decide)]; exact h7, by rw [e _ (by decide)]; exact h8, h9, by rw [e _ (by decide)]; exact h10⟩, by unfold HX; rw [e _ (by decide)]; exact hH, by rw [e _ (by decide)]; exact hp, hr⟩
theorem TXx.f {E : Wd} {t : Nat → Nat} {len k : Nat} {v : Int32} (h : TXx E t len) (hk : k ≠ 1) : TXx (upA E (7, 0) (upd (E (7, 0)) k v)) t len :=
  ⟨by rw [upA_s]; unfold upd; rw [if_neg (fun e => hk e.symm)]; exact h.1, h.2.1, by rw [upA_n _ _ (by decide)]; exact h.2.2⟩
theorem TXx.p {E : Wd} {t : Nat → Nat} {len c : Nat} {f : Nat → Int32} (h : TXx E t len) (hc : c ≤ 6) : TXx (upA E (c, 1) f) t len :=
  ⟨by rw [upA_n _ _ (neK (by omega) _ _)]; exact h.1, h.2.1, by rw [upA_n _ _ (neK (by omega) _ _)]; exact h.2.2⟩
theorem SE.up (E : Wd) (p e : Nat) : SE E p e = upA (upA E (7, 0) (upd (E (7, 0)) 4 (nI p))) (7, 0) (upd ((upA E (7, 0) (upd (E (7, 0)) 4 (nI p))) (7, 0)) 5 (nI e)) := by
  rw [SE, upA_s, upA_up]
theorem RKx.se {D E : Wd} {t : Nat → Nat} {len : Nat} {R : RS} {T : TL} {e p e' : Nat} (h : RKx D E t len R T e) (he : e' ≤ len) : RKx D (SE E p e') t len R T e' := by
  refine ⟨SE.T h.1, ⟨SE.e, he⟩, ?_, ?_⟩
  · rw [SE.up]; exact h.2.2.1.f.f
  · rw [SE.up]; exact (h.2.2.2.f (by decide)).f (by decide)
theorem RKx.num {D E : Wd} {t : Nat → Nat} {len : Nat} {R : RS} {T : TL} {e : Nat} {v : Int32} (h : RKx D E t len R T e) : RKx D (upA E (7, 0) (upd (E (7, 0)) 6 v)) t len R T e :=
  ⟨h.1.f (by decide), ⟨by rw [upA_s]; exact h.2.1.1, h.2.1.2⟩, h.2.2.1.f, h.2.2.2.f (by decide)⟩
/-- a plan cell of the draft is written -/
theorem RKx.p {D E : Wd} {t : Nat → Nat} {len : Nat} {R R' : RS} {T T' : TL} {e c : Nat} {f : Nat → Int32} (h : RKx D E t len R T e) (h1 : 1 ≤ c) (h6 : c ≤ 6) (hd : PDx (upA E (c, 1) f) R' T') : RKx D (upA E (c, 1) f) t len R' T' e :=
  ⟨h.1.p h6, ⟨by rw [upA_n _ _ (neK (by omega) _ _)]; exact h.2.1.1, h.2.1.2⟩, hd, h.2.2.2.p h1 h6⟩
/-- the plan told anew -/
def PB (E : Wd) (h a q : Nat) : Wd := upA (upA (upA (upA E (1, h) (upd (E (1, h)) 0 (nI a))) (2, h) (putA (E (2, h)) 0 q (fun i => 72 * i / a))) (3, h) (putA (E (3, h)) 0 q (fun _ => 0))) (4, h) (putA (E (4, h)) 0 q (fun _ => 0))
theorem PB.a {E : Wd} {h a q : Nat} : PB E h a q (2, h) = putA (E (2, h)) 0 q (fun i => 72 * i / a) := by rw [PB, upA_n _ _ (neK (by decide) _ _), upA_n _ _ (neK (by decide) _ _), upA_s]
theorem PB.b {E : Wd} {h a q : Nat} : PB E h a q (3, h) = putA (E (3, h)) 0 q (fun _ => 0) := by rw [PB, upA_n _ _ (neK (by decide) _ _), upA_s]
theorem PB.c {E : Wd} {h a q : Nat} : PB E h a q (4, h) = putA (E (4, h)) 0 q (fun _ => 0) := by rw [PB, upA_s]
theorem PB.d {E : Wd} {h a q : Nat} : PB E h a q (1, h) = upd (E (1, h)) 0 (nI a) := by rw [PB, upA_n _ _ (neK (by decide) _ _), upA_n _ _ (neK (by decide) _ _), upA_n _ _ (neK (by decide) _ _), upA_s]
theorem PB.o {E : Wd} {h a q : Nat} {i : Id2} (h1 : i ≠ (1, h)) (h2 : i ≠ (2, h)) (h3 : i ≠ (3, h)) (h4 : i ≠ (4, h)) : PB E h a q i = E i := by rw [PB, upA_n _ _ h4, upA_n _ _ h3, upA_n _ _ h2, upA_n _ _ h1]
theorem PB.z (E : Wd) (h a : Nat) : upA E (1, h) (upd (E (1, h)) 0 (nI a)) = PB E h a 0 := by
  apply wd_ext
  intro i j
  by_cases h4 : i = (4, h)
  · subst h4; rw [PB.c, putA_zero, upA_n _ _ (neK (by decide) _ _)]
  · by_cases h3 : i = (3, h)
    · subst h3; rw [PB.b, putA_zero, upA_n _ _ (neK (by decide) _ _)]
    · by_cases h2 : i = (2, h)
      · subst h2; rw [PB.a, putA_zero, upA_n _ _ (neK (by decide) _ _)]
      · by_cases h1 : i = (1, h)
        · subst h1; rw [PB.d, upA_s]
        · rw [PB.o h1 h2 h3 h4, upA_n _ _ h1]
theorem PB.s (E : Wd) (h a q : Nat) : upA (upA (upA (PB E h a q) (2, h) (upd (PB E h a q (2, h)) q (nI (72 * q / a)))) (3, h) (upd ((upA (PB E h a q) (2, h) (upd (PB E h a q (2, h)) q (nI (72 * q / a)))) (3, h)) q (nI 0))) (4, h) (upd ((upA (upA (PB E h a q) (2, h) (upd (PB E h a q (2, h)) q (nI (72 * q / a)))) (3, h) (upd ((upA (PB E h a q) (2, h) (upd (PB E h a q (2, h)) q (nI (72 * q / a)))) (3, h)) q (nI 0))) (4, h)) q (nI 0)) = PB E h a (q + 1) := by
  have e1 := putA_succ (E (2, h)) 0 q (fun i => 72 * i / a)
  have e2 := putA_succ (E (3, h)) 0 q (fun _ => 0)
  have e3 := putA_succ (E (4, h)) 0 q (fun _ => 0)
  rw [Nat.zero_add] at e1 e2 e3
  apply wd_ext
  intro i j
  by_cases h4 : i = (4, h)
  · subst h4; rw [upA_s, upA_n _ _ (neK (by decide) _ _), upA_n _ _ (neK (by decide) _ _), PB.c, PB.c, e3]
  · rw [upA_n _ _ h4]
    by_cases h3 : i = (3, h)
    · subst h3; rw [upA_s, upA_n _ _ (neK (by decide) _ _), PB.b, PB.b, e2]
    · rw [upA_n _ _ h3]
      by_cases h2 : i = (2, h)
      · subst h2; rw [upA_s, PB.a, PB.a, e1]
      · rw [upA_n _ _ h2]
        by_cases h1 : i = (1, h)
        · subst h1; rw [PB.d, PB.d]
        · rw [PB.o h1 h2 h3 h4, PB.o h1 h2 h3 h4]
def PBf (E : Wd) (h a : Nat) : Wd := upA (upA (PB E h a a) (1, h) (upd (PB E h a a (1, h)) 4 (nI 0))) (1, h) (upd ((upA (PB E h a a) (1, h) (upd (PB E h a a (1, h)) 4 (nI 0))) (1, h)) 6 (nI 0))
theorem PBf.d {E : Wd} {h a : Nat} : PBf E h a (1, h) = upd (upd (upd (E (1, h)) 0 (nI a)) 4 (nI 0)) 6 (nI 0) := by rw [PBf, upA_s, upA_s, PB.d]
theorem PBf.o {E : Wd} {h a : Nat} {i : Id2} (h1 : i ≠ (1, h)) : PBf E h a i = PB E h a a i := by rw [PBf, upA_n _ _ h1, upA_n _ _ h1]
theorem put0 {w : Nat → Int32} {n : Nat} {a : Nat → Nat} {j : Nat} (h : j < n) : putA w 0 n a j = nI (a j) := by
  have := putA_in (w := w) (b := 0) (n := n) (a := a) h
  rw [Nat.zero_add] at this; exact this
theorem PBf.P {E : Wd} {h a : Nat} {dr : Nat → Nat} (h3 : 3 ≤ a) (h8 : a ≤ 8) : PX (PBf E h a) h a (fun _ => 0) (fun _ => 0) 0 dr 0 ∧ HX (PBf E h a) h a (fun i => 72 * i / a) := by
  refine ⟨⟨h3, h8, by rw [PBf.d]; rfl, fun j hj => ?_, fun j hj => ?_, by decide, by rw [PBf.d]; rfl, fun j hj => absurd hj (Nat.not_lt_zero _), by decide, by rw [PBf.d]; rfl⟩, fun j hj => ?_⟩
  · rw [PBf.o (neK (by decide) _ _), PB.b, put0 hj]; exact ⟨rfl, by show 0 < 4; decide⟩
  · rw [PBf.o (neK (by decide) _ _), PB.c, put0 hj]; exact ⟨rfl, by show 0 ≤ 20; decide⟩
  · rw [PBf.o (neK (by decide) _ _), PB.a, put0 hj]; exact ⟨rfl, hs_div hj⟩
theorem FRx.pb {D E : Wd} {a q : Nat} (h : FRx D E) : FRx D (PB E 1 a q) := by
  rw [PB]; exact (((h.p (by decide) (by decide)).p (by decide) (by decide)).p (by decide) (by decide)).p (by decide) (by decide)
theorem RKx.begin {D E : Wd} {t : Nat → Nat} {len : Nat} {R : RS} {T : TL} {e a : Nat} (h : RKx D E t len R T e) (h3 : 3 ≤ a) (h8 : a ≤ 8) : RKx D (PBf E 1 a) t len (goR R 0 a 0) (tlR T 0 a) e := by
  obtain ⟨hX, he, hp, hf⟩ := h
  have o7 : PBf E 1 a (7, 0) = E (7, 0) := by rw [PBf.o (by decide), PB.o (by decide) (by decide) (by decide) (by decide)]
  have o8 : PBf E 1 a (8, 0) = E (8, 0) := by rw [PBf.o (by decide), PB.o (by decide) (by decide) (by decide) (by decide)]
  have hB := PBf.P (E := E) (h := 1) (dr := R.2.2.2.2.1) h3 h8
  refine ⟨⟨by rw [o7]; exact hX.1, hX.2.1, by rw [o8]; exact hX.2.2⟩, ⟨by rw [o7]; exact he.1, he.2⟩, ⟨hB.1, hB.2, fun q hq => absurd hq (Nat.not_lt_zero _), rfl⟩, ?_⟩
  rw [PBf]; exact (hf.pb.p (by decide) (by decide)).p (by decide) (by decide)
theorem PDx.hm {E : Wd} {R : RS} {T : TL} {a b : Nat} (h : PDx E R T) (hb : b < 72) : PDx (upA E (2, 1) (upd (E (2, 1)) a (nI b))) (R.1, updN R.2.1 a b, R.2.2) T := by
  obtain ⟨⟨h1, h2, h3, h4, h5, h6, h7, h8, h9, h10⟩, hH, hp, hr⟩ := h
  have e : ∀ q, q ≠ 2 → upA E (2, 1) (upd (E (2, 1)) a (nI b)) (q, 1) = E (q, 1) := fun q hq => upA_n _ _ (neK hq _ _)
  refine ⟨⟨h1, h2, by rw [e _ (by decide)]; exact h3, by rw [e _ (by decide)]; exact h4, by rw [e _ (by decide)]; exact h5, h6, by rw [e _ (by decide)]; exact h7, by rw [e _ (by decide)]; exact h8, h9, by rw [e _ (by decide)]; exact h10⟩, fun j hj => ?_, by rw [e _ (by decide)]; exact hp, hr⟩
  rw [upA_s]
  show (if j = a then nI b else E (2, 1) j) = nI (if j = a then b else R.2.1 j) ∧ (if j = a then b else R.2.1 j) < 72
  by_cases x : j = a
  · rw [if_pos x, if_pos x]; exact ⟨rfl, hb⟩
  · rw [if_neg x, if_neg x]; exact hH j hj
theorem PDx.kd {E : Wd} {R : RS} {T : TL} {a b : Nat} (h : PDx E R T) (hb : b < 4) : PDx (upA E (3, 1) (upd (E (3, 1)) a (nI b))) R (updN T.1 a b, T.2) := by
  obtain ⟨⟨h1, h2, h3, h4, h5, h6, h7, h8, h9, h10⟩, hH, hp, hr⟩ := h
  have e : ∀ q, q ≠ 3 → upA E (3, 1) (upd (E (3, 1)) a (nI b)) (q, 1) = E (q, 1) := fun q hq => upA_n _ _ (neK hq _ _)
  refine ⟨⟨h1, h2, by rw [e _ (by decide)]; exact h3, fun j hj => ?_, by rw [e _ (by decide)]; exact h5, h6, by rw [e _ (by decide)]; exact h7, by rw [e _ (by decide)]; exact h8, h9, by rw [e _ (by decide)]; exact h10⟩, by unfold HX; rw [e _ (by decide)]; exact hH, by rw [e _ (by decide)]; exact hp, hr⟩
  rw [upA_s]
  show (if j = a then nI b else E (3, 1) j) = nI (if j = a then b else T.1 j) ∧ (if j = a then b else T.1 j) < 4
  by_cases x : j = a
  · rw [if_pos x, if_pos x]; exact ⟨rfl, hb⟩
  · rw [if_neg x, if_neg x]; exact h4 j hj
theorem PDx.pt {E : Wd} {R : RS} {T : TL} {a b : Nat} (h : PDx E R T) (hb : b ≤ 20) : PDx (upA E (4, 1) (upd (E (4, 1)) a (nI b))) (R.1, R.2.1, updN R.2.2.1 a b, R.2.2.2) T := by
  obtain ⟨⟨h1, h2, h3, h4, h5, h6, h7, h8, h9, h10⟩, hH, hp, hr⟩ := h
  have e : ∀ q, q ≠ 4 → upA E (4, 1) (upd (E (4, 1)) a (nI b)) (q, 1) = E (q, 1) := fun q hq => upA_n _ _ (neK hq _ _)
  refine ⟨⟨h1, h2, by rw [e _ (by decide)]; exact h3, by rw [e _ (by decide)]; exact h4, fun j hj => ?_, h6, by rw [e _ (by decide)]; exact h7, by rw [e _ (by decide)]; exact h8, h9, by rw [e _ (by decide)]; exact h10⟩, by unfold HX; rw [e _ (by decide)]; exact hH, by rw [e _ (by decide)]; exact hp, hr⟩
  rw [upA_s]
  show (if j = a then nI b else E (4, 1) j) = nI (if j = a then b else R.2.2.1 j) ∧ (if j = a then b else R.2.2.1 j) ≤ 20
  by_cases x : j = a
  · rw [if_pos x, if_pos x]; exact ⟨rfl, hb⟩
  · rw [if_neg x, if_neg x]; exact h5 j hj
theorem PDx.dr {E : Wd} {R : RS} {T : TL} {a : Nat} (h : PDx E R T) (h2 : R.2.2.2.1 < 3) (ha : a < 72) : PDx (upA (upA E (5, 1) (upd (E (5, 1)) R.2.2.2.1 (nI a))) (1, 1) (upd ((upA E (5, 1) (upd (E (5, 1)) R.2.2.2.1 (nI a))) (1, 1)) 4 (nI (R.2.2.2.1 + 1)))) (R.1, R.2.1, R.2.2.1, R.2.2.2.1 + 1, updN R.2.2.2.2.1 R.2.2.2.1 a, R.2.2.2.2.2) T := by
  obtain ⟨⟨h1, h2', h3, h4, h5, h6, h7, h8, h9, h10⟩, hH, hp, hr⟩ := h
  have e : ∀ q, q ≠ 5 → q ≠ 1 → upA (upA E (5, 1) (upd (E (5, 1)) R.2.2.2.1 (nI a))) (1, 1) (upd ((upA E (5, 1) (upd (E (5, 1)) R.2.2.2.1 (nI a))) (1, 1)) 4 (nI (R.2.2.2.1 + 1))) (q, 1) = E (q, 1) := fun q hq hq1 => by rw [upA_n _ _ (neK hq1 _ _), upA_n _ _ (neK hq _ _)]
  have e1 : ∀ q, q ≠ 4 → upA (upA E (5, 1) (upd (E (5, 1)) R.2.2.2.1 (nI a))) (1, 1) (upd ((upA E (5, 1) (upd (E (5, 1)) R.2.2.2.1 (nI a))) (1, 1)) 4 (nI (R.2.2.2.1 + 1))) (1, 1) q = E (1, 1) q := fun q hq => by
    rw [upA_s, upA_n _ _ (by decide)]; unfold upd; rw [if_neg hq]
  refine ⟨⟨h1, h2', by rw [e1 _ (by decide)]; exact h3, by rw [e _ (by decide) (by decide)]; exact h4, by rw [e _ (by decide) (by decide)]; exact h5, by dsimp only; omega, by rw [upA_s]; rfl, fun j hj => ?_, h9, by rw [e1 _ (by decide)]; exact h10⟩, by unfold HX; rw [e _ (by decide) (by decide)]; exact hH, by rw [e _ (by decide) (by decide)]; exact hp, hr⟩
  rw [upA_n _ _ (by decide), upA_s]
  show (if j = R.2.2.2.1 then nI a else E (5, 1) j) = nI (if j = R.2.2.2.1 then a else R.2.2.2.2.1 j) ∧ (if j = R.2.2.2.1 then a else R.2.2.2.2.1 j) < 72
  by_cases x : j = R.2.2.2.1
  · rw [if_pos x, if_pos x]; exact ⟨rfl, ha⟩
  · rw [if_neg x, if_neg x]; exact h8 j (by dsimp only at hj; omega)
theorem PDx.ps {E : Wd} {R : RS} {T : TL} {a : Nat} (h : PDx E R T) (h2 : T.2.1 < 5) : PDx (upA (upA E (6, 1) (upd (E (6, 1)) T.2.1 (nI a))) (1, 1) (upd ((upA E (6, 1) (upd (E (6, 1)) T.2.1 (nI a))) (1, 1)) 6 (nI (T.2.1 + 1)))) (R.1, R.2.1, R.2.2.1, R.2.2.2.1, R.2.2.2.2.1, R.2.2.2.2.2 + 1) (T.1, T.2.1 + 1, updN T.2.2 T.2.1 a) := by
  obtain ⟨⟨h1, h2', h3, h4, h5, h6, h7, h8, h9, h10⟩, hH, hp, hr⟩ := h
  have e : ∀ q, q ≠ 6 → q ≠ 1 → upA (upA E (6, 1) (upd (E (6, 1)) T.2.1 (nI a))) (1, 1) (upd ((upA E (6, 1) (upd (E (6, 1)) T.2.1 (nI a))) (1, 1)) 6 (nI (T.2.1 + 1))) (q, 1) = E (q, 1) := fun q hq hq1 => by rw [upA_n _ _ (neK hq1 _ _), upA_n _ _ (neK hq _ _)]
  have e1 : ∀ q, q ≠ 6 → upA (upA E (6, 1) (upd (E (6, 1)) T.2.1 (nI a))) (1, 1) (upd ((upA E (6, 1) (upd (E (6, 1)) T.2.1 (nI a))) (1, 1)) 6 (nI (T.2.1 + 1))) (1, 1) q = E (1, 1) q := fun q hq => by
    rw [upA_s, upA_n _ _ (by decide)]; unfold upd; rw [if_neg hq]
  refine ⟨⟨h1, h2', by rw [e1 _ (by decide)]; exact h3, by rw [e _ (by decide) (by decide)]; exact h4, by rw [e _ (by decide) (by decide)]; exact h5, h6, by rw [e1 _ (by decide)]; exact h7, by rw [e _ (by decide) (by decide)]; exact h8, by dsimp only; omega, by rw [upA_s]; rfl⟩, by unfold HX; rw [e _ (by decide) (by decide)]; exact hH, fun j hj => ?_, by dsimp only; rw [hr]⟩
  rw [upA_n _ _ (by decide), upA_s]
  show (if j = T.2.1 then nI a else E (6, 1) j) = nI (if j = T.2.1 then a else T.2.2 j)
  by_cases x : j = T.2.1
  · rw [if_pos x, if_pos x]
  · rw [if_neg x, if_neg x]; exact hp j (by dsimp only at hj; omega)
theorem PDx.em {E : Wd} {R : RS} {T : TL} (h : PDx E R T) : PDx (upA E (1, 1) (upd (E (1, 1)) 6 (nI 0))) (R.1, R.2.1, R.2.2.1, R.2.2.2.1, R.2.2.2.2.1, 0) (T.1, 0, T.2.2) := by
  obtain ⟨⟨h1, h2', h3, h4, h5, h6, h7, h8, h9, h10⟩, hH, hp, hr⟩ := h
  have e : ∀ q, q ≠ 1 → upA E (1, 1) (upd (E (1, 1)) 6 (nI 0)) (q, 1) = E (q, 1) := fun q hq1 => upA_n _ _ (neK hq1 _ _)
  have e1 : ∀ q, q ≠ 6 → upA E (1, 1) (upd (E (1, 1)) 6 (nI 0)) (1, 1) q = E (1, 1) q := fun q hq => by
    rw [upA_s]; unfold upd; rw [if_neg hq]
  exact ⟨⟨h1, h2', by rw [e1 _ (by decide)]; exact h3, by rw [e _ (by decide)]; exact h4, by rw [e _ (by decide)]; exact h5, h6, by rw [e1 _ (by decide)]; exact h7, by rw [e _ (by decide)]; exact h8, by show 0 ≤ 5; decide, by rw [upA_s]; rfl⟩, by unfold HX; rw [e _ (by decide)]; exact hH, fun j hj => absurd hj (Nat.not_lt_zero _), rfl⟩
/-- a plan copied -/
def CpF (D E : Wd) (g h : Nat) : Prop := (E (1, h) 0 = D (1, g) 0 ∧ E (1, h) 4 = D (1, g) 4 ∧ E (1, h) 6 = D (1, g) 6) ∧ (∀ j, j < 8 → E (2, h) j = D (2, g) j ∧ E (3, h) j = D (3, g) j ∧ E (4, h) j = D (4, g) j) ∧ (∀ j, j < 3 → E (5, h) j = D (5, g) j) ∧ (∀ j, j < 5 → E (6, h) j = D (6, g) j) ∧ ∀ i : Id2, ¬ (i.2 = h ∧ 1 ≤ i.1 ∧ i.1 ≤ 6) → E i = D i
theorem CpF.P {D E : Wd} {g h n : Nat} {k f : Nat → Nat} {dn : Nat} {dr : Nat → Nat} {pn : Nat} (c : CpF D E g h) (p : PX D g n k f dn dr pn) : PX E h n k f dn dr pn := by
  obtain ⟨h1, h2, h3, h4, h5, h6, h7, h8, h9, h10⟩ := p
  obtain ⟨⟨c1, c2, c3⟩, c4, c5, c6, c7⟩ := c
  exact ⟨h1, h2, c1.trans h3, fun j hj => by rw [(c4 j (by omega)).2.1]; exact h4 j hj, fun j hj => by rw [(c4 j (by omega)).2.2]; exact h5 j hj, h6, c2.trans h7, fun j hj => by rw [c5 j (by omega)]; exact h8 j hj, h9, c3.trans h10⟩
theorem CpF.H {D E : Wd} {g h n : Nat} {hm : Nat → Nat} (c : CpF D E g h) (hn : n ≤ 8) (p : HX D g n hm) : HX E h n hm := fun j hj => by
  rw [(c.2.1 j (by omega)).1]; exact p j hj
