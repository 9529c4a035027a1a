/-! WHAT BOTH OBJECTS HOLD TOGETHER -/
def NX (D : Wd) (h n pn : Nat) (a : Nat → Nat) (pl : Nat → Int32) (hr : Nat) : Prop := AX D h n a ∧ PLX D h pn pl ∧ D (9, h) 3 = nI hr
def NM (D : Wd) (b n pn : Nat) (a : Nat → Nat) (pl : Nat → Int32) (hr : Nat) : Prop := AM D b n a ∧ PLM D b pn pl ∧ D (31, 0) (b + 13) = nI hr
def NI (n : Nat) (f : Nat → Nat) (pn : Nat) (a : Nat → Nat) (pl : Nat → Int32) (hr : Nat) : Prop := PLok n pn pl ∧ hr ≤ 9999 ∧ Geo n f a
def SX (D : Wd) (sm : Nat) (lf an : Nat → Nat) : Prop := D (18, 0) 2 = nI sm ∧ ∀ q, q < sm → D (19, 0) q = nI (lf q) ∧ D (20, 0) q = nI (an q)
def SM (D : Wd) (sm : Nat) (lf an : Nat → Nat) : Prop := D (30, 0) 25 = nI sm ∧ ∀ q, q < sm → D (43, 0) (2 * q) = nI (lf q) ∧ D (43, 0) (2 * q + 1) = nI (an q)
def CX (D : Wd) (n : Nat) (k f : Nat → Nat) (dn : Nat) (dr : Nat → Nat) (pn : Nat) (hm hp a : Nat → Nat) (pl : Nat → Int32) (hr : Nat) (kp : Nat → Nat) (ka : Nat → Nat → Nat) (kl : Nat → Nat → Int32) (kh : Nat → Nat) (t : Nat → Nat) (len sm : Nat) (lf an : Nat → Nat) : Prop :=
  PX D 0 n k f dn dr pn ∧ HX D 0 n hm ∧ (∀ p, p < pn → D (6, 0) p = nI (hp p)) ∧ NX D 0 n pn a pl hr ∧ (∀ q, q < 2 → D (13, 0) q = nI (kp q) ∧ (kp q ≠ 0 → NX D (q + 2) n pn (ka q) (kl q) (kh q))) ∧ TXx D t len ∧ SX D sm lf an
def CM (D : Wd) (n : Nat) (k f : Nat → Nat) (dn : Nat) (dr : Nat → Nat) (pn : Nat) (hm hp a : Nat → Nat) (pl : Nat → Int32) (hr : Nat) (kp : Nat → Nat) (ka : Nat → Nat → Nat) (kl : Nat → Nat → Int32) (kh : Nat → Nat) (t : Nat → Nat) (len sm : Nat) (lf an : Nat → Nat) : Prop :=
  PM D n k f dn dr pn ∧ AM D 56 n hm ∧ (∀ p, p < pn → D (31, 0) (64 + p) = nI (hp p)) ∧ (∀ j, j < 8 → D (35, 0) j = nI (k j)) ∧ D (31, 0) 69 = nI 0 ∧ NM D 0 n pn a pl hr ∧ (∀ q, q < 2 → D (32, 0) q = nI (kp q) ∧ (kp q ≠ 0 → NM D (14 * (1 + q)) n pn (ka q) (kl q) (kh q))) ∧ TXm D t len ∧ SM D sm lf an
def II (n : Nat) (k f : Nat → Nat) (dn : Nat) (dr : Nat → Nat) (pn : Nat) (hm hp a : Nat → Nat) (pl : Nat → Int32) (hr : Nat) (kp : Nat → Nat) (ka : Nat → Nat → Nat) (kl : Nat → Nat → Int32) (kh : Nat → Nat) (sm : Nat) (lf an : Nat → Nat) : Prop :=
  (∀ p, p < pn → hp p < n) ∧ GeoS (n, hm, f, dn, dr, pn) ∧ (∀ j, j < 8 → k j < 4) ∧ NI n f pn a pl hr ∧ (∀ q, q < 2 → kp q < 2 ∧ (kp q ≠ 0 → NI n f pn (ka q) (kl q) (kh q))) ∧ sm ≤ 8 ∧ ∀ q, q < sm → lf q < 100 ∧ an q < 72
def Rel (D : Wd) : Prop := ∃ n k f dn dr pn hm hp a pl hr kp ka kl kh t len sm lf an, CX D n k f dn dr pn hm hp a pl hr kp ka kl kh t len sm lf an ∧ CM D n k f dn dr pn hm hp a pl hr kp ka kl kh t len sm lf an ∧ II n k f dn dr pn hm hp a pl hr kp ka kl kh sm lf an
/-- class and reference, called with the same, answer the same, and hold the same then -/
def Both (N1 N2 : Mt) (d1 d2 : Nat) (av : List AV) (D : Wd) : Prop := ∃ (r : Int32) (Q : Wd → Prop), Mok N1 idsA d1 (vr (0, 0) :: av) D (fun r' E => r' = some (vi r) ∧ Q E) ∧ ∀ E, Q E → Mok N2 idsA d2 (vr (30, 0) :: av) E (fun r' F => r' = some (vi r) ∧ Rel F)
theorem PX.c {D E : Wd} {h n : Nat} {k f : Nat → Nat} {dn : Nat} {dr : Nat → Nat} {pn : Nat} (e : ∀ c, 1 ≤ c → c ≤ 6 → E (c, h) = D (c, h)) (p : PX D h n k f dn dr pn) : PX E h n k f dn dr pn := by
  obtain ⟨h1, h2, h3, h4, h5, h6, h7, h8, h9, h10⟩ := p
  exact ⟨h1, h2, by rw [e _ (by decide) (by decide)]; exact h3, by rw [e _ (by decide) (by decide)]; exact h4, by rw [e _ (by decide) (by decide)]; exact h5, h6, by rw [e _ (by decide) (by decide)]; exact h7, by rw [e _ (by decide) (by decide)]; exact h8, h9, by rw [e _ (by decide) (by decide)]; exact h10⟩
theorem PM.c {D E : Wd} {n : Nat} {k f : Nat → Nat} {dn : Nat} {dr : Nat → Nat} {pn : Nat} (e : E (30, 0) 6 = D (30, 0) 6 ∧ E (30, 0) 10 = D (30, 0) 10 ∧ E (30, 0) 11 = D (30, 0) 11) (e5 : E (35, 0) = D (35, 0)) (e6 : E (36, 0) = D (36, 0)) (e7 : E (37, 0) = D (37, 0)) (p : PM D n k f dn dr pn) : PM E n k f dn dr pn := by
  obtain ⟨h1, h2, h3, h4, h5, h6, h7, h8, h9, h10⟩ := p
  exact ⟨h1, h2, e.1.trans h3, by rw [e5]; exact h4, by rw [e6]; exact h5, h6, e.2.1.trans h7, by rw [e7]; exact h8, h9, e.2.2.trans h10⟩
theorem NX.c {D E : Wd} {h n pn : Nat} {a : Nat → Nat} {pl : Nat → Int32} {hr : Nat} (e1 : E (10, h) = D (10, h)) (e2 : E (11, h) = D (11, h)) (e3 : E (9, h) 3 = D (9, h) 3) (p : NX D h n pn a pl hr) : NX E h n pn a pl hr := ⟨fun j hj => by rw [e1]; exact p.1 j hj, fun j hj => by rw [e2]; exact p.2.1 j hj, e3.trans p.2.2⟩
theorem NM.c {D E : Wd} {b n pn : Nat} {a : Nat → Nat} {pl : Nat → Int32} {hr : Nat} (hn : n ≤ 8) (hp : pn ≤ 5) (e : ∀ q, b ≤ q → q < b + 14 → E (31, 0) q = D (31, 0) q) (p : NM D b n pn a pl hr) : NM E b n pn a pl hr := ⟨fun j hj => by rw [e _ (by omega) (by omega)]; exact p.1 j hj, fun j hj => by rw [e _ (by omega) (by omega)]; exact p.2.1 j hj, by rw [e _ (by omega) (by omega)]; exact p.2.2⟩
theorem TXx.c {D E : Wd} {t : Nat → Nat} {len : Nat} (e7 : E (7, 0) 1 = D (7, 0) 1) (e8 : E (8, 0) = D (8, 0)) (p : TXx D t len) : TXx E t len := ⟨e7.trans p.1, p.2.1, by rw [e8]; exact p.2.2⟩
theorem TXm.c {D E : Wd} {t : Nat → Nat} {len : Nat} (e7 : E (30, 0) 3 = D (30, 0) 3) (e8 : E (33, 0) = D (33, 0)) (p : TXm D t len) : TXm E t len := ⟨e7.trans p.1, p.2.1, by rw [e8]; exact p.2.2⟩
theorem SX.c {D E : Wd} {sm : Nat} {lf an : Nat → Nat} (e1 : E (18, 0) 2 = D (18, 0) 2) (e2 : E (19, 0) = D (19, 0)) (e3 : E (20, 0) = D (20, 0)) (p : SX D sm lf an) : SX E sm lf an := ⟨e1.trans p.1, by rw [e2, e3]; exact p.2⟩
theorem SM.c {D E : Wd} {sm : Nat} {lf an : Nat → Nat} (e1 : E (30, 0) 25 = D (30, 0) 25) (e2 : E (43, 0) = D (43, 0)) (p : SM D sm lf an) : SM E sm lf an := ⟨e1.trans p.1, by rw [e2]; exact p.2⟩
section REL
variable {D E F : Wd} {n : Nat} {k f : Nat → Nat} {dn : Nat} {dr : Nat → Nat} {pn : Nat} {hm hp a a' : Nat → Nat} {pl pl' : Nat → Int32} {hr hr' : Nat} {kp : Nat → Nat} {ka : Nat → Nat → Nat} {kl : Nat → Nat → Int32} {kh : Nat → Nat} {t t' : Nat → Nat} {len len' sm sm' : Nat} {lf an lf' an' : Nat → Nat}
/-- the class's cells that count -/
def KX (D E : Wd) : Prop := (∀ c, 1 ≤ c → c ≤ 6 → E (c, 0) = D (c, 0)) ∧ (E (7, 0) 1 = D (7, 0) 1 ∧ E (8, 0) = D (8, 0)) ∧ (∀ h, h = 0 ∨ h = 2 ∨ h = 3 → E (9, h) = D (9, h) ∧ E (10, h) = D (10, h) ∧ E (11, h) = D (11, h)) ∧ (E (13, 0) = D (13, 0) ∧ E (18, 0) = D (18, 0) ∧ E (19, 0) = D (19, 0) ∧ E (20, 0) = D (20, 0))
/-- the reference's cells that count -/
def KM (D E : Wd) : Prop := (E (32, 0) = D (32, 0) ∧ E (33, 0) = D (33, 0) ∧ E (35, 0) = D (35, 0) ∧ E (36, 0) = D (36, 0) ∧ E (37, 0) = D (37, 0) ∧ E (43, 0) = D (43, 0)) ∧ (∀ q, q = 3 ∨ q = 6 ∨ q = 10 ∨ q = 11 ∨ q = 25 → E (30, 0) q = D (30, 0) q) ∧ ∀ q, (q < 42 ∨ 56 ≤ q) → E (31, 0) q = D (31, 0) q
theorem CX.same (e : KX D E) (h : CX D n k f dn dr pn hm hp a pl hr kp ka kl kh t len sm lf an) : CX E n k f dn dr pn hm hp a pl hr kp ka kl kh t len sm lf an := by
  obtain ⟨e1, e2, e3, e4⟩ := e
  obtain ⟨h1, h2, h3, h4, h5, h6, h7⟩ := h
  refine ⟨PX.c e1 h1, fun j hj => by rw [e1 2 (by decide) (by decide)]; exact h2 j hj, fun p hp => by rw [e1 6 (by decide) (by decide)]; exact h3 p hp, NX.c (e3 0 (by decide)).2.1 (e3 0 (by decide)).2.2 (congrFun (e3 0 (by decide)).1 3) h4, fun q hq => ⟨by rw [e4.1]; exact (h5 q hq).1, fun hk => ?_⟩, h6.c e2.1 e2.2, h7.c (congrFun e4.2.1 2) e4.2.2.1 e4.2.2.2⟩
  have hh := e3 (q + 2) (by omega)
  exact NX.c hh.2.1 hh.2.2 (congrFun hh.1 3) ((h5 q hq).2 hk)
theorem CX.lo (e : ∀ i : Id2, i.1 < 30 → E i = D i) (h : CX D n k f dn dr pn hm hp a pl hr kp ka kl kh t len sm lf an) : CX E n k f dn dr pn hm hp a pl hr kp ka kl kh t len sm lf an :=
  h.same ⟨fun c h1 h6 => e (c, 0) (by show c < 30; omega), ⟨congrFun (e (7, 0) (by decide)) 1, e _ (by decide)⟩, fun h _ => ⟨e (9, h) (by show 9 < 30; decide), e (10, h) (by show 10 < 30; decide), e (11, h) (by show 11 < 30; decide)⟩, e _ (by decide), e _ (by decide), e _ (by decide), e _ (by decide)⟩
theorem CM.same (e : KM D E) (h : CM D n k f dn dr pn hm hp a pl hr kp ka kl kh t len sm lf an) : CM E n k f dn dr pn hm hp a pl hr kp ka kl kh t len sm lf an := by
  obtain ⟨⟨e2, e3, e5, e6, e7, e43⟩, e30, e31⟩ := e
  obtain ⟨h1, h2, h3, h4, h5, h6, h7, h8, h9⟩ := h
  have hn := h1.2.1
  have hp5 : pn ≤ 5 := h1.2.2.2.2.2.2.2.2.1
  refine ⟨PM.c ⟨e30 6 (by decide), e30 10 (by decide), e30 11 (by decide)⟩ e5 e6 e7 h1, fun j hj => by rw [e31 _ (by omega)]; exact h2 j hj, fun p hp => by rw [e31 _ (by omega)]; exact h3 p hp, by rw [e5]; exact h4, (e31 69 (by decide)).trans h5, h6.c hn hp5 (fun q _ h => e31 q (by omega)), fun q hq => ⟨by rw [e2]; exact (h7 q hq).1, fun hk => ((h7 q hq).2 hk).c hn hp5 (fun j _ h => e31 j (by omega))⟩, h8.c (e30 3 (by decide)) e3, h9.c (e30 25 (by decide)) e43⟩
theorem CM.hi (e : ∀ i : Id2, 30 ≤ i.1 → E i = D i) (h : CM D n k f dn dr pn hm hp a pl hr kp ka kl kh t len sm lf an) : CM E n k f dn dr pn hm hp a pl hr kp ka kl kh t len sm lf an :=
  h.same ⟨⟨e _ (by decide), e _ (by decide), e _ (by decide), e _ (by decide), e _ (by decide), e _ (by decide)⟩, fun q _ => congrFun (e (30, 0) (by decide)) q, fun q _ => congrFun (e (31, 0) (by decide)) q⟩
/-- the house that stands is changed alone -/
theorem CX.now (e : ∀ i : Id2, i ≠ (9, 0) → i ≠ (10, 0) → i ≠ (11, 0) → E i = D i) (hN : NX E 0 n pn a' pl' hr') (h : CX D n k f dn dr pn hm hp a pl hr kp ka kl kh t len sm lf an) : CX E n k f dn dr pn hm hp a' pl' hr' kp ka kl kh t len sm lf an := by
  obtain ⟨h1, h2, h3, h4, h5, h6, h7⟩ := h
  have e1 : ∀ c, 1 ≤ c → c ≤ 6 → E (c, 0) = D (c, 0) := fun c h1 h6 => e (c, 0) (neK (by omega) _ _) (neK (by omega) _ _) (neK (by omega) _ _)
  refine ⟨PX.c e1 h1, fun j hj => by rw [e1 2 (by decide) (by decide)]; exact h2 j hj, fun p hp => by rw [e1 6 (by decide) (by decide)]; exact h3 p hp, hN, fun q hq => ⟨by rw [e _ (by decide) (by decide) (by decide)]; exact (h5 q hq).1, fun hk => ?_⟩, h6.c (congrFun (e (7, 0) (by decide) (by decide) (by decide)) 1) (e _ (by decide) (by decide) (by decide)), h7.c (congrFun (e (18, 0) (by decide) (by decide) (by decide)) 2) (e _ (by decide) (by decide) (by decide)) (e _ (by decide) (by decide) (by decide))⟩
  have ne : ∀ c c' : Nat, ((c, q + 2) : Id2) ≠ (c', 0) := fun c c' x => by have := congrArg Prod.snd x; simp only at this; omega
  exact NX.c (e _ (ne _ _) (ne _ _) (ne _ _)) (e _ (ne _ _) (ne _ _) (ne _ _)) (congrFun (e (9, q + 2) (ne _ _) (ne _ _) (ne _ _)) 3) ((h5 q hq).2 hk)
theorem CM.now (e : ∀ i : Id2, i ≠ (31, 0) → E i = D i) (e2 : ∀ q, 14 ≤ q → E (31, 0) q = D (31, 0) q) (hN : NM E 0 n pn a' pl' hr') (h : CM D n k f dn dr pn hm hp a pl hr kp ka kl kh t len sm lf an) : CM E n k f dn dr pn hm hp a' pl' hr' kp ka kl kh t len sm lf an := by
  obtain ⟨h1, h2, h3, h4, h5, h6, h7, h8, h9⟩ := h
  have hn := h1.2.1
  have hp5 : pn ≤ 5 := h1.2.2.2.2.2.2.2.2.1
  have e30 := e (30, 0) (by decide)
  exact ⟨PM.c ⟨congrFun e30 6, congrFun e30 10, congrFun e30 11⟩ (e _ (by decide)) (e _ (by decide)) (e _ (by decide)) h1, fun j hj => by rw [e2 _ (by omega)]; exact h2 j hj, fun p hp => by rw [e2 _ (by omega)]; exact h3 p hp, by rw [e _ (by decide)]; exact h4, (e2 69 (by decide)).trans h5, hN, fun q hq => ⟨by rw [e _ (by decide)]; exact (h7 q hq).1, fun hk => ((h7 q hq).2 hk).c hn hp5 (fun j x _ => e2 j (by omega))⟩, h8.c (congrFun e30 3) (e _ (by decide)), h9.c (congrFun e30 25) (e _ (by decide))⟩
/-- the text is changed alone -/
theorem CX.text (e : ∀ i : Id2, i ≠ (7, 0) → i ≠ (8, 0) → E i = D i) (hT : TXx E t' len') (h : CX D n k f dn dr pn hm hp a pl hr kp ka kl kh t len sm lf an) : CX E n k f dn dr pn hm hp a pl hr kp ka kl kh t' len' sm lf an := by
  obtain ⟨h1, h2, h3, h4, h5, h6, h7⟩ := h
  have e1 : ∀ c, 1 ≤ c → c ≤ 6 → E (c, 0) = D (c, 0) := fun c h1 h6 => e (c, 0) (neK (by omega) _ _) (neK (by omega) _ _)
  have e9 : ∀ c h, 9 ≤ c → E (c, h) = D (c, h) := fun c h hc => e (c, h) (neK (by omega) _ _) (neK (by omega) _ _)
  exact ⟨PX.c e1 h1, fun j hj => by rw [e1 2 (by decide) (by decide)]; exact h2 j hj, fun p hp => by rw [e1 6 (by decide) (by decide)]; exact h3 p hp, NX.c (e9 _ _ (by decide)) (e9 _ _ (by decide)) (congrFun (e9 9 0 (by decide)) 3) h4, fun q hq => ⟨by rw [e9 _ _ (by decide)]; exact (h5 q hq).1, fun hk => NX.c (e9 _ _ (by decide)) (e9 _ _ (by decide)) (congrFun (e9 9 (q + 2) (by decide)) 3) ((h5 q hq).2 hk)⟩, hT, h7.c (congrFun (e9 18 0 (by decide)) 2) (e9 _ _ (by decide)) (e9 _ _ (by decide))⟩
theorem CM.text (e : ∀ i : Id2, i ≠ (30, 0) → i ≠ (33, 0) → E i = D i) (e2 : ∀ q, q ≠ 3 → E (30, 0) q = D (30, 0) q) (hT : TXm E t' len') (h : CM D n k f dn dr pn hm hp a pl hr kp ka kl kh t len sm lf an) : CM E n k f dn dr pn hm hp a pl hr kp ka kl kh t' len' sm lf an := by
  obtain ⟨h1, h2, h3, h4, h5, h6, h7, h8, h9⟩ := h
  have hn := h1.2.1
  have hp5 : pn ≤ 5 := h1.2.2.2.2.2.2.2.2.1
  have e31 := e (31, 0) (by decide) (by decide)
  exact ⟨PM.c ⟨e2 6 (by decide), e2 10 (by decide), e2 11 (by decide)⟩ (e _ (by decide) (by decide)) (e _ (by decide) (by decide)) (e _ (by decide) (by decide)) h1, by unfold AM; rw [e31]; exact h2, by rw [e31]; exact h3, by rw [e _ (by decide) (by decide)]; exact h4, by rw [e31]; exact h5, h6.c hn hp5 (fun q _ _ => by rw [e31]), fun q hq => ⟨by rw [e _ (by decide) (by decide)]; exact (h7 q hq).1, fun hk => ((h7 q hq).2 hk).c hn hp5 (fun j _ _ => by rw [e31])⟩, hT, h9.c (e2 25 (by decide)) (e _ (by decide) (by decide))⟩
/-- the scrapes are changed alone -/
theorem CX.scr (e : ∀ i : Id2, i ≠ (18, 0) → i ≠ (19, 0) → i ≠ (20, 0) → E i = D i) (hS : SX E sm' lf' an') (h : CX D n k f dn dr pn hm hp a pl hr kp ka kl kh t len sm lf an) : CX E n k f dn dr pn hm hp a pl hr kp ka kl kh t len sm' lf' an' := by
  obtain ⟨h1, h2, h3, h4, h5, h6, h7⟩ := h
  have e1 : ∀ c h, c < 18 → E (c, h) = D (c, h) := fun c h hc => e (c, h) (neK (by omega) _ _) (neK (by omega) _ _) (neK (by omega) _ _)
  exact ⟨PX.c (fun c _ h6 => e1 c 0 (by omega)) h1, fun j hj => by rw [e1 2 0 (by decide)]; exact h2 j hj, fun p hp => by rw [e1 6 0 (by decide)]; exact h3 p hp, NX.c (e1 _ _ (by decide)) (e1 _ _ (by decide)) (congrFun (e1 9 0 (by decide)) 3) h4, fun q hq => ⟨by rw [e1 _ _ (by decide)]; exact (h5 q hq).1, fun hk => NX.c (e1 _ _ (by decide)) (e1 _ _ (by decide)) (congrFun (e1 9 (q + 2) (by decide)) 3) ((h5 q hq).2 hk)⟩, h6.c (congrFun (e1 7 0 (by decide)) 1) (e1 _ _ (by decide)), hS⟩
theorem CM.scr (e : ∀ i : Id2, i ≠ (30, 0) → i ≠ (43, 0) → E i = D i) (e2 : ∀ q, q ≠ 25 → E (30, 0) q = D (30, 0) q) (hS : SM E sm' lf' an') (h : CM D n k f dn dr pn hm hp a pl hr kp ka kl kh t len sm lf an) : CM E n k f dn dr pn hm hp a pl hr kp ka kl kh t len sm' lf' an' := by
  obtain ⟨h1, h2, h3, h4, h5, h6, h7, h8, h9⟩ := h
  have hn := h1.2.1
  have hp5 : pn ≤ 5 := h1.2.2.2.2.2.2.2.2.1
  have e31 := e (31, 0) (by decide) (by decide)
  exact ⟨PM.c ⟨e2 6 (by decide), e2 10 (by decide), e2 11 (by decide)⟩ (e _ (by decide) (by decide)) (e _ (by decide) (by decide)) (e _ (by decide) (by decide)) h1, by unfold AM; rw [e31]; exact h2, by rw [e31]; exact h3, by rw [e _ (by decide) (by decide)]; exact h4, by rw [e31]; exact h5, h6.c hn hp5 (fun q _ _ => by rw [e31]), fun q hq => ⟨by rw [e _ (by decide) (by decide)]; exact (h7 q hq).1, fun hk => ((h7 q hq).2 hk).c hn hp5 (fun j _ _ => by rw [e31])⟩, h8.c (e2 3 (by decide)) (e _ (by decide) (by decide)), hS⟩
/-! what the trials leave -/
theorem TX.K (h : TX D E) : KX D E ∧ ∀ i : Id2, 30 ≤ i.1 → E i = D i := by
  refine ⟨⟨fun c h1 h6 => h (c, 0) (by unfold Scr; simp; omega), ⟨congrFun (h (7, 0) (by decide)) 1, h _ (by decide)⟩, fun q hq => ⟨h (9, q) ?_, h (10, q) ?_, h (11, q) ?_⟩, h _ (by decide), h _ (by decide), h _ (by decide), h _ (by decide)⟩, fun i hi => h i ?_⟩
  · rcases hq with rfl | rfl | rfl <;> decide
  · rcases hq with rfl | rfl | rfl <;> decide
  · rcases hq with rfl | rfl | rfl <;> decide
  · unfold Scr; simp; omega
theorem FRy.K (h : FRy D E) : KX D E ∧ ∀ i : Id2, 30 ≤ i.1 → E i = D i := by
  refine ⟨⟨fun c h1 h6 => h.1 (c, 0) (neK (by omega) _ _) (fun x => absurd (show (0 : Nat) = 1 from x.1) (by decide)), ⟨h.2 1 (by decide) (by decide) (by decide) (by decide), h.1 _ (by decide) (by decide)⟩, fun q hq => ⟨h.1 _ (neK (by decide) _ _) (fun x => by omega), h.1 _ (neK (by decide) _ _) (fun x => by omega), h.1 _ (neK (by decide) _ _) (fun x => by omega)⟩, h.1 _ (by decide) (by decide), h.1 _ (by decide) (by decide), h.1 _ (by decide) (by decide), h.1 _ (by decide) (by decide)⟩, fun i hi => h.1 i (fun x => by rw [x] at hi; exact absurd hi (by decide)) (fun x => by omega)⟩
theorem TR.K (h : TR D E) : KM D E ∧ ∀ i : Id2, i.1 < 30 → E i = D i :=
  ⟨⟨⟨h.1 _ (by decide), h.1 _ (by decide), h.1 _ (by decide), h.1 _ (by decide), h.1 _ (by decide), h.1 _ (by decide)⟩, fun q _ => congrFun (h.1 (30, 0) (by decide)) q, h.2⟩, fun i hi => h.1 i (fun x => by rw [x] at hi; exact absurd hi (by decide))⟩
theorem TV.K (h : TV D E) : KM D E ∧ ∀ i : Id2, i.1 < 30 → E i = D i :=
  ⟨⟨⟨h.1 _ (by decide) (by decide) (by decide) (by decide), h.1 _ (by decide) (by decide) (by decide) (by decide), h.1 _ (by decide) (by decide) (by decide) (by decide), h.1 _ (by decide) (by decide) (by decide) (by decide), h.1 _ (by decide) (by decide) (by decide) (by decide), h.1 _ (by decide) (by decide) (by decide) (by decide)⟩, fun q hq => h.2.1 q (by omega), h.2.2⟩, fun i hi => h.1 i (fun x => by rw [x] at hi; exact absurd hi (by decide)) (fun x => by rw [x] at hi; exact absurd hi (by decide)) (fun x => by rw [x] at hi; exact absurd hi (by decide)) (fun x => by rw [x] at hi; exact absurd hi (by decide))⟩
theorem FRm.K (h : FRm D E) : KM D E ∧ ∀ i : Id2, i.1 < 30 → E i = D i :=
  ⟨⟨⟨h.1 _ (by decide) (by decide) (by decide) (by decide) (by decide), h.1 _ (by decide) (by decide) (by decide) (by decide) (by decide), h.1 _ (by decide) (by decide) (by decide) (by decide) (by decide), h.1 _ (by decide) (by decide) (by decide) (by decide) (by decide), h.1 _ (by decide) (by decide) (by decide) (by decide) (by decide), h.1 _ (by decide) (by decide) (by decide) (by decide) (by decide)⟩, fun q hq => h.2 q (by omega) (by omega) (by omega) (by omega) (by omega) (by omega) (by omega), fun q _ => congrFun (h.1 (31, 0) (by decide) (by decide) (by decide) (by decide) (by decide)) q⟩, fun i hi => h.1 i (fun x => by rw [x] at hi; exact absurd hi (by decide)) (fun x => by rw [x] at hi; exact absurd hi (by decide)) (fun x => by rw [x] at hi; exact absurd hi (by decide)) (fun x => by rw [x] at hi; exact absurd hi (by decide)) (fun x => by rw [x] at hi; exact absurd hi (by decide))⟩
end REL
