/-! CLASS AND REFERENCE TOGETHER: a text's fault, a text done -/
theorem goR_p {R : RS} {w a b : Nat} (h5 : R.2.2.2.2.2 ≤ 5) (h8 : w = 8 → R.2.2.2.2.2 < 5) : (goR R w a b).2.2.2.2.2 ≤ 5 := by
  unfold goR
  by_cases c0 : w = 0
  · rw [if_pos c0]; exact Nat.zero_le 5
  rw [if_neg c0]
  by_cases c1 : w = 1
  · rw [if_pos c1]; exact h5
  rw [if_neg c1]
  by_cases c6 : w = 6
  · rw [if_pos c6]; exact h5
  rw [if_neg c6]
  by_cases c7 : w = 7
  · rw [if_pos c7]; exact h5
  rw [if_neg c7]
  by_cases c8 : w = 8
  · rw [if_pos c8]; exact h8 c8
  rw [if_neg c8]
  by_cases c9 : w = 9
  · rw [if_pos c9]; exact Nat.zero_le 5
  rw [if_neg c9]; exact h5
theorem Prs_ex {t : Nat → Nat} {len : Nat} : ∀ fu (R : RS) m (rc : Nat → Nat × Nat) p e, R.2.2.2.2.2 ≤ 5 → m + (fu + 1) = 12 → ∃ res, Prs t len (fu + 1) R m rc p e res := by
  intro fu
  induction fu with
  | zero =>
    intro R m rc p e h5 hm
    rcases line_em t len R h5 p e with ⟨w, a, b, p', e', hY⟩ | ⟨p', e', hN⟩
    · by_cases hp : len ≤ p'
      · exact ⟨_, Prs_s.mpr (Or.inr ⟨w, a, b, p', e', hY, Or.inl ⟨hp, rfl⟩⟩)⟩
      · exact ⟨_, Prs_s.mpr (Or.inr ⟨w, a, b, p', e', hY, Or.inr (Or.inl ⟨by omega, fun x => by omega, rfl⟩)⟩)⟩
    · exact ⟨_, Prs_s.mpr (Or.inl ⟨p', e', hN, rfl⟩)⟩
  | succ fu ih =>
    intro R m rc p e h5 hm
    rcases line_em t len R h5 p e with ⟨w, a, b, p', e', hY⟩ | ⟨p', e', hN⟩
    · by_cases hp : len ≤ p'
      · exact ⟨_, Prs_s.mpr (Or.inr ⟨w, a, b, p', e', hY, Or.inl ⟨hp, rfl⟩⟩)⟩
      · by_cases hc : e' - p' = 1 ∧ t p' = 59 ∧ m + 1 < 12
        · obtain ⟨res, hr⟩ := ih (goR R w a b) (m + 1) (fun q => if q = m then (w, a) else rc q) (tkP t len e') (tkE t len (tkP t len e')) (goR_p h5 hY.2.1) (by omega)
          exact ⟨res, Prs_s.mpr (Or.inr ⟨w, a, b, p', e', hY, Or.inr (Or.inr ⟨by omega, hc, hr⟩)⟩)⟩
        · exact ⟨_, Prs_s.mpr (Or.inr ⟨w, a, b, p', e', hY, Or.inr (Or.inl ⟨by omega, hc, rfl⟩)⟩)⟩
    · exact ⟨_, Prs_s.mpr (Or.inl ⟨p', e', hN, rfl⟩)⟩
def JJ (R : RS) (T : TL) : Prop := 3 ≤ R.1 ∧ R.1 ≤ 8 ∧ (∀ j, j < R.1 → R.2.1 j < 72) ∧ GeoS R ∧ R.2.2.2.2.2 = T.2.1 ∧ T.2.1 ≤ 5 ∧ ∀ p, p < T.2.1 → T.2.2 p < R.1
def VV (rc : Nat → Nat × Nat) (T0 : TL) (m : Nat) : Prop := ∀ q, q < m → (((rc q).1 = 2 ∨ (rc q).1 = 3 ∨ (rc q).1 = 4 ∨ (rc q).1 = 5) → (rc q).2 < 8) ∧ ((rc q).1 = 8 → (tlF rc T0 q).2.1 < 5)
theorem JJ.go {t : Nat → Nat} {len : Nat} {R : RS} {T : TL} {p e w a b p' e' : Nat} (h : JJ R T) (hY : LineY t len R p e w a b p' e') : JJ (goR R w a b) (tlR T w a) := by
  obtain ⟨h3, h8, hh, hG, hp, h5, hT⟩ := h
  have hG' := GeoS.go h3 h8 hh hG hY
  obtain ⟨-, hw8, hl⟩ := hY
  rcases hl with ⟨rfl, rfl, rfl, -⟩ | ⟨rfl, h1, rfl, -⟩ | ⟨hc, h1, rfl, -⟩ | ⟨rfl, h1, -, rfl, -⟩ | ⟨rfl, h1, h2, -⟩ | ⟨rfl, h1, h2, -⟩
  · exact ⟨h3, h8, hh, hG', rfl, Nat.zero_le 5, fun p hp => absurd hp (Nat.not_lt_zero p)⟩
  · exact ⟨h1.2.1, h1.2.2, fun j hj => hs_div hj, hG', rfl, Nat.zero_le 5, fun p hp => absurd hp (Nat.not_lt_zero p)⟩
  · rcases hc with (rfl | rfl) | (rfl | rfl) | rfl
    · exact ⟨h3, h8, hh, hG', hp, h5, hT⟩
    · exact ⟨h3, h8, hh, hG', hp, h5, hT⟩
    · exact ⟨h3, h8, hh, hG', hp, h5, hT⟩
    · exact ⟨h3, h8, hh, hG', hp, h5, hT⟩
    · have h4 := hw8 rfl
      refine ⟨h3, h8, hh, hG', congrArg (· + 1) hp, ?_, fun q hq => ?_⟩
      · show T.2.1 + 1 ≤ 5
        omega
      · show (if q = T.2.1 then a else T.2.2 q) < R.1
        have hq' : q < T.2.1 + 1 := hq
        by_cases x : q = T.2.1
        · rw [if_pos x]; have := h1.2.2; omega
        · rw [if_neg x]; exact hT q (by omega)
  · exact ⟨h3, h8, hh, hG', hp, h5, hT⟩
  · refine ⟨h3, h8, fun j hj => ?_, hG', hp, h5, hT⟩
    show (if j = a then b else R.2.1 j) < 72
    by_cases x : j = a
    · rw [if_pos x]; have := h2.2.2; omega
    · rw [if_neg x]; exact hh j hj
  · exact ⟨h3, h8, hh, hG', hp, h5, hT⟩
theorem VV.go {t : Nat → Nat} {len : Nat} {R : RS} {T0 : TL} {rc : Nat → Nat × Nat} {m p e w a b p' e' : Nat} (hJ : JJ R (tlF rc T0 m)) (hV : VV rc T0 m) (hY : LineY t len R p e w a b p' e') : VV (fun q => if q = m then (w, a) else rc q) T0 (m + 1) := by
  intro q hq
  have ec : tlF (fun q => if q = m then (w, a) else rc q) T0 q = tlF rc T0 q := tlF_c (fun r hr => by rw [if_neg (by omega)])
  rw [ec]
  dsimp only
  by_cases x : q = m
  · rw [if_pos x]
    refine ⟨fun hw => ?_, fun hw => ?_⟩
    · have h8 := hJ.2.1
      obtain ⟨-, -, hl⟩ := hY
      dsimp only at hw ⊢
      rcases hl with ⟨rfl, -⟩ | ⟨rfl, -⟩ | ⟨-, h1, -⟩ | ⟨rfl, -⟩ | ⟨rfl, -⟩ | ⟨rfl, -⟩
      · omega
      · omega
      · have := h1.2.2; have := hJ.1; omega
      · omega
      · omega
      · omega
    · rw [x, ← hJ.2.2.2.2.1]; exact hY.2.1 hw
  · rw [if_neg x]; exact hV q (by omega)
theorem Prs_inv {t : Nat → Nat} {len : Nat} {T0 : TL} {R9 : RS} {m9 : Nat} {rc9 : Nat → Nat × Nat} : ∀ fu (R : RS) m (rc : Nat → Nat × Nat) p e, JJ R (tlF rc T0 m) → VV rc T0 m → m + fu ≤ 12 → Prs t len fu R m rc p e (.inr (R9, m9, rc9)) → JJ R9 (tlF rc9 T0 m9) ∧ VV rc9 T0 m9 ∧ m9 ≤ 12
  | 0, R, m, rc, p, e, _, _, _, h => h.elim
  | fu + 1, R, m, rc, p, e, hJ, hV, hm, h => by
    rcases Prs_s.mp h with ⟨p', e', _, hr⟩ | ⟨w, a, b, p', e', hY, hC⟩
    · cases hr
    · have hJ' : JJ (goR R w a b) (tlF (fun q => if q = m then (w, a) else rc q) T0 (m + 1)) := by rw [tlF_s]; exact hJ.go hY
      have hV' := VV.go hJ hV hY
      rcases hC with ⟨_, hr⟩ | ⟨_, _, hr⟩ | ⟨_, _, hr⟩
      · cases hr
        exact ⟨hJ', hV', by omega⟩
      · cases hr
      · exact Prs_inv fu _ (m + 1) _ _ _ hJ' hV' (by omega) hr
theorem LineN_le {t : Nat → Nat} {len : Nat} {R : RS} {p e p' e' : Nat} (hp : p ≤ len) (he : e ≤ len) (h : LineN t len R p e p' e') : p' ≤ len := by
  have a1 := (tkP_ok (t := t) he).2
  have a2 := (tkE_ok (t := t) a1).2.1
  have a3 := (tkP_ok (t := t) a2).2
  rcases h with ⟨-, rfl, -⟩ | ⟨-, -, rfl, -⟩ | ⟨w, -, -, hl⟩
  · exact hp
  · exact hp
  · rcases hl with ⟨-, -, rfl, -⟩ | ⟨-, -, rfl, -⟩ | ⟨-, -, rfl, -⟩ | ⟨-, -, rfl, -⟩ | ⟨-, -, rfl, -⟩ | ⟨-, -, rfl, -⟩
    · exact a1
    · exact a1
    · exact a1
    · exact a1
    · exact a3
    · exact a3
theorem LineY_le {t : Nat → Nat} {len : Nat} {R : RS} {p e w a b p' e' : Nat} (he : e ≤ len) (h : LineY t len R p e w a b p' e') : p' ≤ len ∧ e' ≤ len := by
  have a1 := (tkP_ok (t := t) he).2
  have a2 := (tkE_ok (t := t) a1).2.1
  have a3 := (tkP_ok (t := t) a2).2
  have a4 := (tkE_ok (t := t) a3).2.1
  have a5 := (tkP_ok (t := t) a4).2
  have a6 := (tkE_ok (t := t) a5).2.1
  obtain ⟨-, -, hl⟩ := h
  rcases hl with ⟨-, -, -, rfl, rfl⟩ | ⟨-, -, -, rfl, rfl⟩ | ⟨-, -, -, rfl, rfl⟩ | ⟨-, -, -, -, rfl, rfl⟩ | ⟨-, -, -, -, rfl, rfl⟩ | ⟨-, -, -, rfl, rfl⟩
  · exact ⟨a1, a2⟩
  · exact ⟨a3, a4⟩
  · exact ⟨a3, a4⟩
  · exact ⟨a3, a4⟩
  · exact ⟨a5, a6⟩
  · exact ⟨a5, a6⟩
theorem Prs_le {t : Nat → Nat} {len pos : Nat} : ∀ fu (R : RS) m (rc : Nat → Nat × Nat) p e, p ≤ len → e ≤ len → Prs t len fu R m rc p e (.inl pos) → pos ≤ len
  | 0, R, m, rc, p, e, _, _, h => h.elim
  | fu + 1, R, m, rc, p, e, hp, he, h => by
    rcases Prs_s.mp h with ⟨p', e', hN, hr⟩ | ⟨w, a, b, p', e', hY, hC⟩
    · cases hr; exact LineN_le hp he hN
    · have hl := LineY_le he hY
      rcases hC with ⟨_, hr⟩ | ⟨_, _, hr⟩ | ⟨_, _, hr⟩
      · cases hr
      · cases hr; exact hl.1
      · have a1 := (tkP_ok (t := t) hl.2).2
        exact Prs_le fu _ (m + 1) _ _ _ a1 (tkE_ok (t := t) a1).2.1 hr

theorem b_fault {D : Wd} (hR : Rel D) : Both mX5_fault mX6_fault 8 6 [] D := by
  obtain ⟨n, k, f, dn, dr, pn, hm, hp, a, pl, hr, kp, ka, kl, kh, t, len, sm, lf, an, cx, cm, I⟩ := id hR
  obtain ⟨xP, xH, xhp, ⟨xA, xPl, xHr⟩, xK, xT, xS⟩ := id cx
  obtain ⟨mP, mH, mhp, m8, mz, ⟨mA, mPl, mHr⟩, mK, mT, mS⟩ := id cm
  obtain ⟨iH, iG, i4, ⟨iO, i9, iN⟩, iK, iS, iL⟩ := id I
  have hp5 : pn ≤ 5 := xP.2.2.2.2.2.2.2.2.1
  obtain ⟨res, hPr⟩ := Prs_ex (t := t) (len := len) 11 (n, hm, f, dn, dr, pn) 0 (fun _ => (0, 0)) (tkP t len 0) (tkE t len (tkP t len 0)) hp5 rfl
  exact both_try cx cm I (x_fault xP xH xhp xT iG hPr) (fun E h => h.1.K) (fun E cmE => Mok.imp (m_fault cmE.1 cmE.2.1 cmE.2.2.2.2.2.2.2.1 iG.1 hPr) (fun r' F q => ⟨q.1, q.2.1.K⟩))

theorem b_house {D : Wd} (hR : Rel D) : Both mX5_house mX6_house 8 7 [] D := by
  obtain ⟨n, k, f, dn, dr, pn, hm, hp, a, pl, hr, kp, ka, kl, kh, t, len, sm, lf, an, cx, cm, I⟩ := id hR
  obtain ⟨xP, xH, xhp, ⟨xA, xPl, xHr⟩, xK, xT, xS⟩ := id cx
  obtain ⟨mP, mH, mhp, m8, mz, ⟨mA, mPl, mHr⟩, mK, mT, mS⟩ := id cm
  obtain ⟨iH, iG, i4, ⟨iO, i9, iN⟩, iK, iS, iL⟩ := id I
  have hp5 : pn ≤ 5 := xP.2.2.2.2.2.2.2.2.1
  obtain ⟨res, hPr⟩ := Prs_ex (t := t) (len := len) 11 (n, hm, f, dn, dr, pn) 0 (fun _ => (0, 0)) (tkP t len 0) (tkE t len (tkP t len 0)) hp5 rfl
  have a1 := (tkP_ok (t := t) (len := len) (p := 0) (Nat.zero_le _)).2
  have a2 := (tkE_ok (t := t) a1).2.1
  have hl2 := xT.2.1
  rcases res with pos | ⟨R9, m9, rc9⟩
  · have hpos := Prs_le 12 _ 0 _ _ _ a1 a2 hPr
    exact both_try cx cm I (x_house_n xP xH xhp xT iG hPr (by omega)) (fun E h => h.K) (fun E cmE => Mok.imp (m_house_n cmE.1 cmE.2.1 cmE.2.2.2.2.2.2.2.1 iG.1 hPr (by omega)) (fun r' F q => ⟨q.1, q.2.K⟩))
  · obtain ⟨hJ, hV, hm9⟩ := Prs_inv (T0 := (k, pn, hp)) 12 _ 0 _ _ _ ⟨xP.1, xP.2.1, fun j hj => (xH j hj).2, iG, rfl, hp5, iH⟩ (fun q hq => absurd hq (Nat.not_lt_zero q)) (Nat.le_refl 12) hPr
    refine ⟨nI m9, fun E => HouseX D E R9 (tlF rc9 (k, pn, hp) m9), x_house_y xP xH xhp xT iG hPr (by omega), fun E hE => ?_⟩
    have cmE := cm.hi hE.2.2.2.2.2.2
    have hT0 : TLm E (k, pn, hp) := ⟨fun j hj => ⟨cmE.2.2.2.1 j hj, i4 j hj⟩, cmE.1.2.2.2.2.2.2.2.2.2, hp5, cmE.2.2.1⟩
    refine Mok.imp (m_house_y cmE.1 cmE.2.1 cmE.2.2.2.2.2.2.2.1 iG.1 hPr hT0 hV) (fun r' F q => ⟨q.1, ?_⟩)
    obtain ⟨y1, y2, y3, y4, ⟨y5, y6, y7⟩, y8, -⟩ := hE
    obtain ⟨z1, z2, z3, z4, z5, ⟨z6, z7⟩, ⟨z8, z9, z10, z11⟩, z12⟩ := q.2
    obtain ⟨j1, j2, j3, j4, j5, j6, j7⟩ := hJ
    have c69 := cmE.2.2.2.2.1
    refine ⟨R9.1, (tlF rc9 (k, pn, hp) m9).1, R9.2.2.1, R9.2.2.2.1, R9.2.2.2.2.1, (tlF rc9 (k, pn, hp) m9).2.1, R9.2.1, (tlF rc9 (k, pn, hp) m9).2.2, R9.2.1, fun p => nI ((tlF rc9 (k, pn, hp) m9).2.2 p), 0, fun _ => 0, ka, kl, kh, t, 0, 0, lf, an, ?_, ?_, ?_⟩
    · refine CX.lo z12 ⟨y1, y2, fun p hp' => (y4 p hp').1, ⟨y3, fun p hp' => (y4 p hp').2, y5⟩, fun q hq => ⟨y8 q hq, fun x => absurd rfl x⟩, ⟨y6, Nat.zero_le _, fun j hj => absurd hj (Nat.not_lt_zero j)⟩, ⟨y7, fun q hq => absurd hq (Nat.not_lt_zero q)⟩⟩
    · refine ⟨z1, z2, fun p hp' => (z4 p hp').1, fun j hj => (z5 j hj).1, z7.trans c69, ⟨z3, fun p hp' => ?_, z6.trans c69⟩, fun q hq => ⟨?_, fun x => absurd rfl x⟩, ⟨z11, Nat.zero_le _, fun j hj => absurd hj (Nat.not_lt_zero j)⟩, ⟨z8, fun q hq => absurd hq (Nat.not_lt_zero q)⟩⟩
      · rw [Nat.zero_add]; exact (z4 p hp').2
      · rcases (show q = 0 ∨ q = 1 by omega) with rfl | rfl
        · exact z9
        · exact z10
    · exact ⟨j7, ⟨j4.1, j4.2⟩, fun j hj => (z5 j hj).2, ⟨fun p hp' => Or.inr ⟨_, j7 p hp', rfl⟩, Nat.zero_le _, ⟨j3, j4.1, j4.2⟩⟩, fun q hq => ⟨Nat.succ_pos 1, fun x => absurd rfl x⟩, Nat.zero_le _, fun q hq => absurd hq (Nat.not_lt_zero q)⟩
