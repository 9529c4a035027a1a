/-! CLASS AND REFERENCE TOGETHER: what is only read, what is tried -/
theorem both_ro {N1 N2 : Mt} {d1 d2 : Nat} {av : List AV} {D : Wd} {r : Int32} (hR : Rel D) (h1 : Fok N1 idsA d1 (vr (0, 0) :: av) D (some (vi r)) D) (h2 : Fok N2 idsA d2 (vr (30, 0) :: av) D (some (vi r)) D) : Both N1 N2 d1 d2 av D :=
  ⟨r, fun E => E = D, h1, fun E hE => by subst hE; exact Mok.imp h2 (fun r' F q => ⟨q.1, by rw [q.2]; exact hR⟩)⟩
theorem both_try {N1 N2 : Mt} {d1 d2 : Nat} {av : List AV} {D : Wd} {r : Int32} {n : Nat} {k f : Nat → Nat} {dn : Nat} {dr : Nat → Nat} {pn : Nat} {hm hp a : Nat → Nat} {pl : Nat → Int32} {hr : Nat} {kp : Nat → Nat} {ka : Nat → Nat → Nat} {kl : Nat → Nat → Int32} {kh : Nat → Nat} {t : Nat → Nat} {len sm : Nat} {lf an : Nat → Nat} {Q : Wd → Prop} (cx : CX D n k f dn dr pn hm hp a pl hr kp ka kl kh t len sm lf an) (cm : CM D n k f dn dr pn hm hp a pl hr kp ka kl kh t len sm lf an) (I : II n k f dn dr pn hm hp a pl hr kp ka kl kh sm lf an)
    (h1 : Mok N1 idsA d1 (vr (0, 0) :: av) D (fun r' E => r' = some (vi r) ∧ Q E)) (hQ : ∀ E, Q E → KX D E ∧ ∀ i : Id2, 30 ≤ i.1 → E i = D i)
    (h2 : ∀ E, CM E n k f dn dr pn hm hp a pl hr kp ka kl kh t len sm lf an → Mok N2 idsA d2 (vr (30, 0) :: av) E (fun r' F => r' = some (vi r) ∧ (KM E F ∧ ∀ i : Id2, i.1 < 30 → F i = E i))) : Both N1 N2 d1 d2 av D :=
  ⟨r, Q, h1, fun E hE => Mok.imp (h2 E (cm.hi (hQ E hE).2)) (fun r' F q => ⟨q.1, n, k, f, dn, dr, pn, hm, hp, a, pl, hr, kp, ka, kl, kh, t, len, sm, lf, an, (cx.same (hQ E hE).1).lo q.2.2, (cm.hi (hQ E hE).2).same q.2.1, I⟩)⟩
theorem wide_both {n : Nat} {k f a : Nat → Nat} (h3 : 3 ≤ n) (h8 : n ≤ 8) (hG : Geo n f a) (x : Int32) : widS n k f a x = if lt0 x n then stS n k a f (ix x) else -2 := by
  by_cases h : lt0 x n = true
  · rw [if_pos h]
    obtain ⟨r, hr, rfl⟩ := lt0_nI h
    rw [show ix (nI r) = r from nI_clamp (by omega)]
    exact wide_eq h3 h8 hG hr
  · unfold widS; rw [if_neg h, if_neg h]

theorem b_leaf {D : Wd} (hR : Rel D) (x w : Int32) : Both mX5_leaf mX6_leaf 1 2 [vi x, vi w] D := by
  obtain ⟨n, k, f, dn, dr, pn, hm, hp, a, pl, hr, kp, ka, kl, kh, t, len, sm, lf, an, cx, cm, I⟩ := id hR
  obtain ⟨xP, xH, xhp, ⟨xA, xPl, xHr⟩, xK, xT, xS⟩ := id cx
  obtain ⟨mP, mH, mhp, m8, mz, ⟨mA, mPl, mHr⟩, mK, mT, mS⟩ := id cm
  obtain ⟨iH, iG, i4, ⟨iO, i9, iN⟩, iK, iS, iL⟩ := id I
  exact both_ro hR (x_leaf xP xA xH x w) (m_leaf mP mA mH x w)

theorem b_room {D : Wd} (hR : Rel D) (x w : Int32) : Both mX5_room mX6_room 3 3 [vi x, vi w] D := by
  obtain ⟨n, k, f, dn, dr, pn, hm, hp, a, pl, hr, kp, ka, kl, kh, t, len, sm, lf, an, cx, cm, I⟩ := id hR
  obtain ⟨xP, xH, xhp, ⟨xA, xPl, xHr⟩, xK, xT, xS⟩ := id cx
  obtain ⟨mP, mH, mhp, m8, mz, ⟨mA, mPl, mHr⟩, mK, mT, mS⟩ := id cm
  obtain ⟨iH, iG, i4, ⟨iO, i9, iN⟩, iK, iS, iL⟩ := id I
  exact both_ro hR (x_room xP xA xPl iO x w) (m_room mP mA mPl iO x w)

theorem b_as {D : Wd} (hR : Rel D) (x w : Int32) : Both mX5_as mX6_as 3 4 [vi x, vi w] D := by
  obtain ⟨n, k, f, dn, dr, pn, hm, hp, a, pl, hr, kp, ka, kl, kh, t, len, sm, lf, an, cx, cm, I⟩ := id hR
  obtain ⟨xP, xH, xhp, ⟨xA, xPl, xHr⟩, xK, xT, xS⟩ := id cx
  obtain ⟨mP, mH, mhp, m8, mz, ⟨mA, mPl, mHr⟩, mK, mT, mS⟩ := id cm
  obtain ⟨iH, iG, i4, ⟨iO, i9, iN⟩, iK, iS, iL⟩ := id I
  exact both_ro hR (x_as xP xA x w) (m_as mP mA x w)

theorem b_person {D : Wd} (hR : Rel D) (x : Int32) : Both mX5_person mX6_person 1 2 [vi x] D := by
  obtain ⟨n, k, f, dn, dr, pn, hm, hp, a, pl, hr, kp, ka, kl, kh, t, len, sm, lf, an, cx, cm, I⟩ := id hR
  obtain ⟨xP, xH, xhp, ⟨xA, xPl, xHr⟩, xK, xT, xS⟩ := id cx
  obtain ⟨mP, mH, mhp, m8, mz, ⟨mA, mPl, mHr⟩, mK, mT, mS⟩ := id cm
  obtain ⟨iH, iG, i4, ⟨iO, i9, iN⟩, iK, iS, iL⟩ := id I
  exact both_ro hR (x_person xP xPl iO x) (m_person mP mPl iO x)

theorem b_widest {D : Wd} (hR : Rel D) (x : Int32) : Both mX5_widest mX6_widest 4 2 [vi x] D := by
  obtain ⟨n, k, f, dn, dr, pn, hm, hp, a, pl, hr, kp, ka, kl, kh, t, len, sm, lf, an, cx, cm, I⟩ := id hR
  obtain ⟨xP, xH, xhp, ⟨xA, xPl, xHr⟩, xK, xT, xS⟩ := id cx
  obtain ⟨mP, mH, mhp, m8, mz, ⟨mA, mPl, mHr⟩, mK, mT, mS⟩ := id cm
  obtain ⟨iH, iG, i4, ⟨iO, i9, iN⟩, iK, iS, iL⟩ := id I
  exact both_ro hR (x_widest xP xA x) (by have h := m_widest mP mA x; rw [wide_both xP.1 xP.2.1 iN x] at h; exact h)

theorem b_further {D : Wd} (hR : Rel D) (w : Int32) : Both mX5_further mX6_further 2 2 [vi w] D := by
  obtain ⟨n, k, f, dn, dr, pn, hm, hp, a, pl, hr, kp, ka, kl, kh, t, len, sm, lf, an, cx, cm, I⟩ := id hR
  obtain ⟨xP, xH, xhp, ⟨xA, xPl, xHr⟩, xK, xT, xS⟩ := id cx
  obtain ⟨mP, mH, mhp, m8, mz, ⟨mA, mPl, mHr⟩, mK, mT, mS⟩ := id cm
  obtain ⟨iH, iG, i4, ⟨iO, i9, iN⟩, iK, iS, iL⟩ := id I
  exact both_ro hR (x_further xP xA w) (m_further mP mA w)

theorem b_share {D : Wd} (hR : Rel D) (x w : Int32) : Both mX5_share mX6_share 2 2 [vi x, vi w] D := by
  obtain ⟨n, k, f, dn, dr, pn, hm, hp, a, pl, hr, kp, ka, kl, kh, t, len, sm, lf, an, cx, cm, I⟩ := id hR
  obtain ⟨xP, xH, xhp, ⟨xA, xPl, xHr⟩, xK, xT, xS⟩ := id cx
  obtain ⟨mP, mH, mhp, m8, mz, ⟨mA, mPl, mHr⟩, mK, mT, mS⟩ := id cm
  obtain ⟨iH, iG, i4, ⟨iO, i9, iN⟩, iK, iS, iL⟩ := id I
  exact both_ro hR (x_share xP xA iN.2.1 x w) (m_share mP mA x w)

theorem b_slam {D : Wd} (hR : Rel D) (x s w : Int32) : Both mX5_slam mX6_slam 3 2 [vi x, vi s, vi w] D := by
  obtain ⟨n, k, f, dn, dr, pn, hm, hp, a, pl, hr, kp, ka, kl, kh, t, len, sm, lf, an, cx, cm, I⟩ := id hR
  obtain ⟨xP, xH, xhp, ⟨xA, xPl, xHr⟩, xK, xT, xS⟩ := id cx
  obtain ⟨mP, mH, mhp, m8, mz, ⟨mA, mPl, mHr⟩, mK, mT, mS⟩ := id cm
  obtain ⟨iH, iG, i4, ⟨iO, i9, iN⟩, iK, iS, iL⟩ := id I
  exact both_ro hR (x_slam xP xA iN.2.1 x s w) (m_slam mP mA iN.2.1 x s w)

theorem b_least {D : Wd} (hR : Rel D) (x : Int32) : Both mX5_least mX6_least 3 2 [vi x] D := by
  obtain ⟨n, k, f, dn, dr, pn, hm, hp, a, pl, hr, kp, ka, kl, kh, t, len, sm, lf, an, cx, cm, I⟩ := id hR
  obtain ⟨xP, xH, xhp, ⟨xA, xPl, xHr⟩, xK, xT, xS⟩ := id cx
  obtain ⟨mP, mH, mhp, m8, mz, ⟨mA, mPl, mHr⟩, mK, mT, mS⟩ := id cm
  obtain ⟨iH, iG, i4, ⟨iO, i9, iN⟩, iK, iS, iL⟩ := id I
  exact both_ro hR (x_least xP xA xH xS.1 iS (fun q hq => ⟨(xS.2 q hq).1, (xS.2 q hq).2, iL q hq⟩) x) (m_least mP mA mH mS.1 iS (fun q hq => ⟨(mS.2 q hq).1, (mS.2 q hq).2, (iL q hq).2⟩) (fun q hq => (iL q hq).1) x)

theorem b_count {D : Wd} (hR : Rel D) (w : Int32) : Both mX5_count mX6_count 4 3 [vi w] D := by
  obtain ⟨n, k, f, dn, dr, pn, hm, hp, a, pl, hr, kp, ka, kl, kh, t, len, sm, lf, an, cx, cm, I⟩ := id hR
  obtain ⟨xP, xH, xhp, ⟨xA, xPl, xHr⟩, xK, xT, xS⟩ := id cx
  obtain ⟨mP, mH, mhp, m8, mz, ⟨mA, mPl, mHr⟩, mK, mT, mS⟩ := id cm
  obtain ⟨iH, iG, i4, ⟨iO, i9, iN⟩, iK, iS, iL⟩ := id I
  exact both_ro hR (x_count xP xA xPl iO xHr i9 xS.1 xT.1 w) (m_count mP mA mPl iO mHr i9 mS.1 mT.1 w)

theorem b_turn {D : Wd} (hR : Rel D) (x s y : Int32) : Both mX5_turn mX6_turn 5 7 [vi x, vi s, vi y] D := by
  obtain ⟨n, k, f, dn, dr, pn, hm, hp, a, pl, hr, kp, ka, kl, kh, t, len, sm, lf, an, cx, cm, I⟩ := id hR
  obtain ⟨xP, xH, xhp, ⟨xA, xPl, xHr⟩, xK, xT, xS⟩ := id cx
  obtain ⟨mP, mH, mhp, m8, mz, ⟨mA, mPl, mHr⟩, mK, mT, mS⟩ := id cm
  obtain ⟨iH, iG, i4, ⟨iO, i9, iN⟩, iK, iS, iL⟩ := id I
  exact both_try cx cm I (x_turn xP xA x s y) (fun E h => h.K) (fun E cmE => Mok.imp (m_turn cmE.1 cmE.2.2.2.2.2.1.1 x s y) (fun r' F q => ⟨q.1, q.2.K⟩))

theorem b_best {D : Wd} (hR : Rel D) (x w : Int32) : Both mX5_best mX6_best 5 7 [vi x, vi w] D := by
  obtain ⟨n, k, f, dn, dr, pn, hm, hp, a, pl, hr, kp, ka, kl, kh, t, len, sm, lf, an, cx, cm, I⟩ := id hR
  obtain ⟨xP, xH, xhp, ⟨xA, xPl, xHr⟩, xK, xT, xS⟩ := id cx
  obtain ⟨mP, mH, mhp, m8, mz, ⟨mA, mPl, mHr⟩, mK, mT, mS⟩ := id cm
  obtain ⟨iH, iG, i4, ⟨iO, i9, iN⟩, iK, iS, iL⟩ := id I
  exact both_try cx cm I (x_best xP xA x w) (fun E h => h.K) (fun E cmE => Mok.imp (m_best cmE.1 cmE.2.2.2.2.2.1.1 x w) (fun r' F q => ⟨q.1, q.2.K⟩))

theorem b_fire {D : Wd} (hR : Rel D) (x s : Int32) : Both mX5_fire mX6_fire 5 6 [vi x, vi s] D := by
  obtain ⟨n, k, f, dn, dr, pn, hm, hp, a, pl, hr, kp, ka, kl, kh, t, len, sm, lf, an, cx, cm, I⟩ := id hR
  obtain ⟨xP, xH, xhp, ⟨xA, xPl, xHr⟩, xK, xT, xS⟩ := id cx
  obtain ⟨mP, mH, mhp, m8, mz, ⟨mA, mPl, mHr⟩, mK, mT, mS⟩ := id cm
  obtain ⟨iH, iG, i4, ⟨iO, i9, iN⟩, iK, iS, iL⟩ := id I
  exact both_try cx cm I (x_fire xP xA xPl iO x s) (fun E h => h.K) (fun E cmE => Mok.imp (m_fire cmE.1 cmE.2.2.2.2.2.1.1 cmE.2.2.2.2.2.1.2.1 iO x s) (fun r' F q => ⟨q.1, q.2.K⟩))

theorem b_errands {D : Wd} (hR : Rel D) (x y z : Int32) : Both mX5_errands mX6_errands 11 8 [vi x, vi y, vi z] D := by
  obtain ⟨n, k, f, dn, dr, pn, hm, hp, a, pl, hr, kp, ka, kl, kh, t, len, sm, lf, an, cx, cm, I⟩ := id hR
  obtain ⟨xP, xH, xhp, ⟨xA, xPl, xHr⟩, xK, xT, xS⟩ := id cx
  obtain ⟨mP, mH, mhp, m8, mz, ⟨mA, mPl, mHr⟩, mK, mT, mS⟩ := id cm
  obtain ⟨iH, iG, i4, ⟨iO, i9, iN⟩, iK, iS, iL⟩ := id I
  obtain ⟨O, hO⟩ := any5 (D (17, 0))
  exact both_try cx cm I (x_errands xP xA O hO x y z) (fun E h => h.K) (fun E cmE => Mok.imp (m_errands cmE.1 cmE.2.2.2.2.2.1.1 x y z) (fun r' F q => ⟨by rw [q.1, er_eq xP.1 xP.2.1 O x y z], q.2.K⟩))
