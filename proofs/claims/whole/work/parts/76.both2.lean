/-! CLASS AND REFERENCE TOGETHER: what changes -/
theorem both_set {N1 N2 : Mt} {d1 d2 : Nat} {av : List AV} {D E : Wd} {r : Int32} {F : Wd} (h1 : Fok N1 idsA d1 (vr (0, 0) :: av) D (some (vi r)) E) (h2 : Fok N2 idsA d2 (vr (30, 0) :: av) E (some (vi r)) F) (hR : Rel F) : Both N1 N2 d1 d2 av D :=
  ⟨r, fun E' => E' = E, h1, fun E' hE => by subst hE; exact Mok.imp h2 (fun r' F' q => ⟨q.1, by rw [q.2]; exact hR⟩)⟩
theorem upA_lo {D : Wd} {i j : Id2} {g : Nat → Int32} (h : j.1 < 30) (hi : 30 ≤ i.1) : upA D j g i = D i := upA_n _ _ (fun e => by rw [e] at hi; omega)
theorem upA_hi {D : Wd} {i j : Id2} {g : Nat → Int32} (h : 30 ≤ j.1) (hi : i.1 < 30) : upA D j g i = D i := upA_n _ _ (fun e => by rw [e] at hi; omega)
def tW (t : Nat → Nat) (len m : Nat) (y : Int64) : Nat → Nat := fun j => if len ≤ j ∧ j < len + m then bN y (j - len) else t j
theorem tW_x {D : Wd} {t : Nat → Nat} {len m : Nat} {y : Int64} (h : TXx D t len) (hm : len + m ≤ 200) : TXx (WX D len m (bX y)) (tW t len m y) (len + m) := by
  refine ⟨WX.len, hm, fun j hj => ?_⟩
  rw [WX, upA_n _ _ (by decide), upA_s]
  unfold wrB tW
  by_cases c : len ≤ j ∧ j < len + m
  · rw [if_pos c, if_pos c]; exact ⟨bX_s y _, bN_lt y _⟩
  · rw [if_neg c, if_neg c]; exact h.2.2 j (by omega)
theorem tW_m {D : Wd} {t : Nat → Nat} {len m : Nat} {y : Int64} (h : TXm D t len) (hm : len + m ≤ 200) : TXm (WT D len m (bM y)) (tW t len m y) (len + m) := by
  refine ⟨WT.len, hm, fun j hj => ?_⟩
  rw [WT, upA_n _ _ (by decide), upA_s]
  unfold wrB tW
  by_cases c : len ≤ j ∧ j < len + m
  · rw [if_pos c, if_pos c]; exact ⟨bM_n y _, bN_lt y _⟩
  · rw [if_neg c, if_neg c]; exact h.2.2 j (by omega)

theorem b_write {D : Wd} (hR : Rel D) (y : Int64) (x : Int32) : Both mX5_write mX6_write 0 1 [vl y, vi x] D := by
  obtain ⟨n, k, f, dn, dr, pn, hm, hp, a, pl, hr, kp, ka, kl, kh, t, len, sm, lf, an, cx, cm, I⟩ := id hR
  obtain ⟨xP, xH, xhp, ⟨xA, xPl, xHr⟩, xK, xT, xS⟩ := id cx
  obtain ⟨mP, mH, mhp, m8, mz, ⟨mA, mPl, mHr⟩, mK, mT, mS⟩ := id cm
  obtain ⟨iH, iG, i4, ⟨iO, i9, iN⟩, iK, iS, iL⟩ := id I
  have h1 := x_write xT.1 xT.2.1 y x
  by_cases c : (rng x 1 8 && decide (len + ix x ≤ 200)) = true
  · rw [if_pos c] at h1
    have c2 : len + ix x ≤ 200 := of_decide_eq_true (Bool.and_eq_true _ _ ▸ c).2
    have cmE := cm.hi (E := WX D len (ix x) (bX y)) (fun i hi => by rw [WX, upA_lo (by decide) hi, upA_lo (by decide) hi])
    have h2 := m_write cmE.2.2.2.2.2.2.2.1.1 xT.2.1 y x
    rw [if_pos c] at h2
    refine both_set h1 h2 ⟨n, k, f, dn, dr, pn, hm, hp, a, pl, hr, kp, ka, kl, kh, tW t len (ix x) y, len + ix x, sm, lf, an, ?_, ?_, I⟩
    · exact (cx.text (E := WX D len (ix x) (bX y)) (fun i h7 h8 => by rw [WX, upA_n _ _ h7, upA_n _ _ h8]) (tW_x xT c2)).lo (fun i hi => by rw [WT, upA_hi (by decide) hi, upA_hi (by decide) hi])
    · exact cmE.text (fun i h7 h8 => by rw [WT, upA_n _ _ h7, upA_n _ _ h8]) (fun q hq => by rw [WT, upA_s]; unfold upd; rw [if_neg hq]) (tW_m cmE.2.2.2.2.2.2.2.1 c2)
  · rw [if_neg c] at h1
    have h2 := m_write mT.1 xT.2.1 y x
    rw [if_neg c] at h2
    exact both_ro hR h1 h2

theorem b_erase {D : Wd} (hR : Rel D) : Both mX5_erase mX6_erase 0 0 [] D := by
  obtain ⟨n, k, f, dn, dr, pn, hm, hp, a, pl, hr, kp, ka, kl, kh, t, len, sm, lf, an, cx, cm, I⟩ := id hR
  obtain ⟨xP, xH, xhp, ⟨xA, xPl, xHr⟩, xK, xT, xS⟩ := id cx
  obtain ⟨mP, mH, mhp, m8, mz, ⟨mA, mPl, mHr⟩, mK, mT, mS⟩ := id cm
  obtain ⟨iH, iG, i4, ⟨iO, i9, iN⟩, iK, iS, iL⟩ := id I
  have cmE := cm.hi (E := upA D (7, 0) (upd (D (7, 0)) 1 (nI 0))) (fun i hi => upA_lo (by decide) hi)
  refine both_set (x_erase xT.1) (m_erase cmE.2.2.2.2.2.2.2.1.1) ⟨n, k, f, dn, dr, pn, hm, hp, a, pl, hr, kp, ka, kl, kh, t, 0, sm, lf, an, ?_, ?_, I⟩
  · exact (cx.text (E := upA D (7, 0) (upd (D (7, 0)) 1 (nI 0))) (fun i h7 h8 => upA_n _ _ h7) ⟨by rw [upA_s]; rfl, by decide, fun j hj => absurd hj (Nat.not_lt_zero j)⟩).lo (fun i hi => upA_hi (by decide) hi)
  · exact cmE.text (fun i h7 h8 => upA_n _ _ h7) (fun q hq => by rw [upA_s]; unfold upd; rw [if_neg hq]) ⟨by rw [upA_s]; rfl, by decide, fun j hj => absurd hj (Nat.not_lt_zero j)⟩

theorem b_push {D : Wd} (hR : Rel D) (x s d : Int32) : Both mX5_push mX6_push 5 6 [vi x, vi s, vi d] D := by
  obtain ⟨n, k, f, dn, dr, pn, hm, hp, a, pl, hr, kp, ka, kl, kh, t, len, sm, lf, an, cx, cm, I⟩ := id hR
  obtain ⟨xP, xH, xhp, ⟨xA, xPl, xHr⟩, xK, xT, xS⟩ := id cx
  obtain ⟨mP, mH, mhp, m8, mz, ⟨mA, mPl, mHr⟩, mK, mT, mS⟩ := id cm
  obtain ⟨iH, iG, i4, ⟨iO, i9, iN⟩, iK, iS, iL⟩ := id I
  have hg := geo_push (k := k) (x := x) (s := s) (d := d) xP.1 xP.2.1 iN
  have cmE := cm.hi (E := RX D 0 n (pushA n k f a x s d)) (fun i hi => upA_lo (by decide) hi)
  refine both_set (x_push xP xA x s d) (m_push cmE.1 cmE.2.2.2.2.2.1.1 x s d) ⟨n, k, f, dn, dr, pn, hm, hp, pushA n k f a x s d, pl, hr, kp, ka, kl, kh, t, len, sm, lf, an, ?_, ?_, ⟨iH, iG, i4, ⟨iO, i9, hg⟩, iK, iS, iL⟩⟩
  · exact (cx.now (E := RX D 0 n (pushA n k f a x s d)) (fun i h9 h10 h11 => RX.at h10) ⟨RX.A hg.1, RX.Pl xPl, by rw [RX.at (by decide)]; exact xHr⟩).lo (fun i hi => upA_hi (by decide) hi)
  · have hn := xP.2.1
    exact cmE.now (fun i h => Rw.at h) (fun q hq => Rw.out (by omega)) ⟨Rw.A hg.1, fun p hp' => by rw [Rw.out (by omega)]; exact cmE.2.2.2.2.2.1.2.1 p hp', by rw [Rw.out (by omega)]; exact cmE.2.2.2.2.2.1.2.2⟩

theorem b_hours {D : Wd} (hR : Rel D) (x : Int32) : Both mX5_hours mX6_hours 5 6 [vi x] D := by
  obtain ⟨n, k, f, dn, dr, pn, hm, hp, a, pl, hr, kp, ka, kl, kh, t, len, sm, lf, an, cx, cm, I⟩ := id hR
  obtain ⟨xP, xH, xhp, ⟨xA, xPl, xHr⟩, xK, xT, xS⟩ := id cx
  obtain ⟨mP, mH, mhp, m8, mz, ⟨mA, mPl, mHr⟩, mK, mT, mS⟩ := id cm
  obtain ⟨iH, iG, i4, ⟨iO, i9, iN⟩, iK, iS, iL⟩ := id I
  have h1 := x_hours xP xA xH xHr i9 x
  by_cases c : (rng x 1 99 && decide (hr + ix x ≤ 9999)) = true
  · rw [if_pos c] at h1
    have c2 : hr + ix x ≤ 9999 := of_decide_eq_true (Bool.and_eq_true _ _ ▸ c).2
    have hg := geo_hrN (k := k) (hm := hm) xP.1 xP.2.1 (ix x) a iN
    have cmE := cm.hi (E := HrX D n (hrN n k f hm (ix x) a) (hr + ix x)) (fun i hi => by rw [HrX, upA_lo (by decide) hi, RX, upA_lo (by decide) hi])
    have h2 := m_hours cmE.1 cmE.2.2.2.2.2.1.1 cmE.2.1 cmE.2.2.2.2.2.1.2.2 i9 x
    rw [if_pos c] at h2
    refine both_set h1 h2 ⟨n, k, f, dn, dr, pn, hm, hp, hrN n k f hm (ix x) a, pl, hr + ix x, kp, ka, kl, kh, t, len, sm, lf, an, ?_, ?_, ⟨iH, iG, i4, ⟨iO, c2, hg⟩, iK, iS, iL⟩⟩
    · exact (cx.now (E := HrX D n (hrN n k f hm (ix x) a) (hr + ix x)) (fun i h9 h10 h11 => HrX.at h9 h10) ⟨HrX.A hg.1, fun p hp' => by rw [HrX.at (by decide) (by decide)]; exact xPl p hp', HrX.R⟩).lo (fun i hi => Hr.at (fun e => by rw [e] at hi; exact absurd hi (by decide)))
    · have hn := xP.2.1
      have hp5 : pn ≤ 5 := xP.2.2.2.2.2.2.2.2.1
      exact cmE.now (fun i h => Hr.at h) (fun q hq => Hr.out (by omega) (by omega)) ⟨Hr.A hn hg.1, fun p hp' => by rw [Hr.out (by omega) (by omega)]; exact cmE.2.2.2.2.2.1.2.1 p hp', Hr.R⟩
  · rw [if_neg c] at h1
    have h2 := m_hours mP mA mH mHr i9 x
    rw [if_neg c] at h2
    exact both_ro hR h1 h2

theorem b_leave {D : Wd} (hR : Rel D) (x : Int32) : Both mX5_leave mX6_leave 3 3 [vi x] D := by
  obtain ⟨n, k, f, dn, dr, pn, hm, hp, a, pl, hr, kp, ka, kl, kh, t, len, sm, lf, an, cx, cm, I⟩ := id hR
  obtain ⟨xP, xH, xhp, ⟨xA, xPl, xHr⟩, xK, xT, xS⟩ := id cx
  obtain ⟨mP, mH, mhp, m8, mz, ⟨mA, mPl, mHr⟩, mK, mT, mS⟩ := id cm
  obtain ⟨iH, iG, i4, ⟨iO, i9, iN⟩, iK, iS, iL⟩ := id I
  have h1 := x_leave xP xA xPl iO x
  by_cases c : leaveOk n a dn dr pn pl x = true
  · rw [if_pos c] at h1
    have c2 := c
    unfold leaveOk at c2
    simp only [Bool.and_eq_true] at c2
    obtain ⟨p, hpn, rfl⟩ := lt0_nI c2.1
    have hp5 : pn ≤ 5 := xP.2.2.2.2.2.2.2.2.1
    have hn8 : n ≤ 8 := xP.2.1
    have hpx : ix (nI p) = p := nI_clamp (by omega)
    rw [hpx] at h1 c2
    have hO : PLok n pn (upd pl p (-1)) := by
      intro q hq
      show (if q = p then -1 else pl q) = -1 ∨ ∃ r, r < n ∧ (if q = p then -1 else pl q) = nI r
      by_cases e : q = p
      · rw [if_pos e]; exact Or.inl rfl
      · rw [if_neg e]; exact iO q hq
    have cmE := cm.hi (E := upA D (11, 0) (upd (D (11, 0)) p (-1))) (fun i hi => upA_lo (by decide) hi)
    have h2 := m_leave cmE.1 cmE.2.2.2.2.2.1.1 cmE.2.2.2.2.2.1.2.1 iO (nI p)
    rw [if_pos c, hpx] at h2
    refine both_set h1 h2 ⟨n, k, f, dn, dr, pn, hm, hp, a, upd pl p (-1), hr, kp, ka, kl, kh, t, len, sm, lf, an, ?_, ?_, ⟨iH, iG, i4, ⟨hO, i9, iN⟩, iK, iS, iL⟩⟩
    · exact (cx.now (E := upA D (11, 0) (upd (D (11, 0)) p (-1))) (fun i h9 h10 h11 => upA_n _ _ h11) ⟨fun j hj => by rw [upA_n _ _ (by decide)]; exact xA j hj, PLX.upd xPl, by rw [upA_n _ _ (by decide)]; exact xHr⟩).lo (fun i hi => upA_hi (by decide) hi)
    · refine cmE.now (fun i h => upA_n _ _ h) (fun q hq => by rw [upA_s]; unfold upd; rw [if_neg (by omega)]) ⟨fun j hj => ?_, fun q hq => ?_, ?_⟩
      · rw [upA_s]; unfold upd; rw [if_neg (by omega)]; exact cmE.2.2.2.2.2.1.1 j hj
      · rw [upA_s]
        show (if 0 + 8 + q = 8 + p then -1 else _) = (if q = p then -1 else pl q)
        by_cases e : q = p
        · rw [if_pos e, if_pos (by omega)]
        · rw [if_neg e, if_neg (by omega)]; exact cmE.2.2.2.2.2.1.2.1 q hq
      · rw [upA_s]; unfold upd; rw [if_neg (by omega)]; exact cmE.2.2.2.2.2.1.2.2
  · rw [if_neg c] at h1
    have h2 := m_leave mP mA mPl iO x
    rw [if_neg c] at h2
    exact both_ro hR h1 h2

theorem b_enter {D : Wd} (hR : Rel D) (x y : Int32) : Both mX5_enter mX6_enter 3 3 [vi x, vi y] D := by
  obtain ⟨n, k, f, dn, dr, pn, hm, hp, a, pl, hr, kp, ka, kl, kh, t, len, sm, lf, an, cx, cm, I⟩ := id hR
  obtain ⟨xP, xH, xhp, ⟨xA, xPl, xHr⟩, xK, xT, xS⟩ := id cx
  obtain ⟨mP, mH, mhp, m8, mz, ⟨mA, mPl, mHr⟩, mK, mT, mS⟩ := id cm
  obtain ⟨iH, iG, i4, ⟨iO, i9, iN⟩, iK, iS, iL⟩ := id I
  have h1 := x_enter xP xA xPl iO x y
  by_cases c : enterOk n a dn dr pn pl x y = true
  · rw [if_pos c] at h1
    have c2 := c
    unfold enterOk at c2
    simp only [Bool.and_eq_true] at c2
    obtain ⟨p, hpn, rfl⟩ := lt0_nI c2.1.1
    have hp5 : pn ≤ 5 := xP.2.2.2.2.2.2.2.2.1
    have hn8 : n ≤ 8 := xP.2.1
    have hpx : ix (nI p) = p := nI_clamp (by omega)
    rw [hpx] at h1 c2
    have hO : PLok n pn (upd pl p (y)) := by
      intro q hq
      show (if q = p then y else pl q) = -1 ∨ ∃ r, r < n ∧ (if q = p then y else pl q) = nI r
      by_cases e : q = p
      · rw [if_pos e]; obtain ⟨j, hj, e2⟩ := lt0_nI c2.1.2; exact Or.inr ⟨j, hj, e2⟩
      · rw [if_neg e]; exact iO q hq
    have cmE := cm.hi (E := upA D (11, 0) (upd (D (11, 0)) p (y))) (fun i hi => upA_lo (by decide) hi)
    have h2 := m_enter cmE.1 cmE.2.2.2.2.2.1.1 cmE.2.2.2.2.2.1.2.1 iO (nI p) y
    rw [if_pos c, hpx] at h2
    refine both_set h1 h2 ⟨n, k, f, dn, dr, pn, hm, hp, a, upd pl p (y), hr, kp, ka, kl, kh, t, len, sm, lf, an, ?_, ?_, ⟨iH, iG, i4, ⟨hO, i9, iN⟩, iK, iS, iL⟩⟩
    · exact (cx.now (E := upA D (11, 0) (upd (D (11, 0)) p (y))) (fun i h9 h10 h11 => upA_n _ _ h11) ⟨fun j hj => by rw [upA_n _ _ (by decide)]; exact xA j hj, PLX.upd xPl, by rw [upA_n _ _ (by decide)]; exact xHr⟩).lo (fun i hi => upA_hi (by decide) hi)
    · refine cmE.now (fun i h => upA_n _ _ h) (fun q hq => by rw [upA_s]; unfold upd; rw [if_neg (by omega)]) ⟨fun j hj => ?_, fun q hq => ?_, ?_⟩
      · rw [upA_s]; unfold upd; rw [if_neg (by omega)]; exact cmE.2.2.2.2.2.1.1 j hj
      · rw [upA_s]
        show (if 0 + 8 + q = 8 + p then y else _) = (if q = p then y else pl q)
        by_cases e : q = p
        · rw [if_pos e, if_pos (by omega)]
        · rw [if_neg e, if_neg (by omega)]; exact cmE.2.2.2.2.2.1.2.1 q hq
      · rw [upA_s]; unfold upd; rw [if_neg (by omega)]; exact cmE.2.2.2.2.2.1.2.2
  · rw [if_neg c] at h1
    have h2 := m_enter mP mA mPl iO x y
    rw [if_neg c] at h2
    exact both_ro hR h1 h2

theorem b_forget {D : Wd} (hR : Rel D) : Both mX5_forget mX6_forget 0 0 [] D := by
  obtain ⟨n, k, f, dn, dr, pn, hm, hp, a, pl, hr, kp, ka, kl, kh, t, len, sm, lf, an, cx, cm, I⟩ := id hR
  obtain ⟨xP, xH, xhp, ⟨xA, xPl, xHr⟩, xK, xT, xS⟩ := id cx
  obtain ⟨mP, mH, mhp, m8, mz, ⟨mA, mPl, mHr⟩, mK, mT, mS⟩ := id cm
  obtain ⟨iH, iG, i4, ⟨iO, i9, iN⟩, iK, iS, iL⟩ := id I
  have cmE := cm.hi (E := upA D (18, 0) (upd (D (18, 0)) 2 (nI 0))) (fun i hi => upA_lo (by decide) hi)
  refine both_set (x_forget xS.1) (m_forget cmE.2.2.2.2.2.2.2.2.1) ⟨n, k, f, dn, dr, pn, hm, hp, a, pl, hr, kp, ka, kl, kh, t, len, 0, lf, an, ?_, ?_, ⟨iH, iG, i4, ⟨iO, i9, iN⟩, iK, by decide, fun q hq => absurd hq (Nat.not_lt_zero q)⟩⟩
  · exact (cx.scr (E := upA D (18, 0) (upd (D (18, 0)) 2 (nI 0))) (fun i h8 h9 h0 => upA_n _ _ h8) ⟨by rw [upA_s]; rfl, fun q hq => absurd hq (Nat.not_lt_zero q)⟩).lo (fun i hi => upA_hi (by decide) hi)
  · exact cmE.scr (fun i h0 h3 => upA_n _ _ h0) (fun q hq => by rw [upA_s]; unfold upd; rw [if_neg hq]) ⟨by rw [upA_s]; rfl, fun q hq => absurd hq (Nat.not_lt_zero q)⟩

theorem b_seen {D : Wd} (hR : Rel D) (x w : Int32) : Both mX5_seen mX6_seen 1 2 [vi x, vi w] D := by
  obtain ⟨n, k, f, dn, dr, pn, hm, hp, a, pl, hr, kp, ka, kl, kh, t, len, sm, lf, an, cx, cm, I⟩ := id hR
  obtain ⟨xP, xH, xhp, ⟨xA, xPl, xHr⟩, xK, xT, xS⟩ := id cx
  obtain ⟨mP, mH, mhp, m8, mz, ⟨mA, mPl, mHr⟩, mK, mT, mS⟩ := id cm
  obtain ⟨iH, iG, i4, ⟨iO, i9, iN⟩, iK, iS, iL⟩ := id I
  have h1 := x_seen xP xS.1 iS x w
  by_cases c : ((lt0 x n && lt0 w 72) && decide (sm ≠ 8)) = true
  · rw [if_pos c] at h1
    have c2 := c
    simp only [Bool.and_eq_true, decide_eq_true_eq] at c2
    obtain ⟨i, hi, rfl⟩ := lt0_nI c2.1.1
    obtain ⟨j, hj, rfl⟩ := lt0_nI c2.1.2
    have hn8 : n ≤ 8 := xP.2.1
    have hE : ∀ q : Id2, 30 ≤ q.1 → (upA (upA (upA D (19, 0) (upd (D (19, 0)) sm (nI i))) (20, 0) (upd (D (20, 0)) sm (nI j))) (18, 0) (upd (D (18, 0)) 2 (nI (sm + 1)))) q = D q := fun q hq => by rw [upA_lo (by decide) hq, upA_lo (by decide) hq, upA_lo (by decide) hq]
    have cmE := cm.hi hE
    have h2 := m_seen cmE.1 cmE.2.2.2.2.2.2.2.2.1 iS (nI i) (nI j)
    rw [if_pos c] at h2
    refine both_set h1 h2 ⟨n, k, f, dn, dr, pn, hm, hp, a, pl, hr, kp, ka, kl, kh, t, len, sm + 1, updN lf sm i, updN an sm j, ?_, ?_, ⟨iH, iG, i4, ⟨iO, i9, iN⟩, iK, by omega, fun q hq => ?_⟩⟩
    · refine (cx.scr (E := (upA (upA (upA D (19, 0) (upd (D (19, 0)) sm (nI i))) (20, 0) (upd (D (20, 0)) sm (nI j))) (18, 0) (upd (D (18, 0)) 2 (nI (sm + 1))))) (fun q h8 h9 h0 => by rw [upA_n _ _ h8, upA_n _ _ h0, upA_n _ _ h9]) ⟨by rw [upA_s]; rfl, fun q hq => ?_⟩).lo (fun q hq => by rw [upA_hi (by decide) hq, upA_hi (by decide) hq])
      rw [upA_n _ _ (by decide : ((19, 0) : Id2) ≠ (18, 0)), upA_n _ _ (by decide : ((19, 0) : Id2) ≠ (20, 0)), upA_s, upA_n _ _ (by decide : ((20, 0) : Id2) ≠ (18, 0)), upA_s]
      show (if q = sm then nI i else D (19, 0) q) = nI (if q = sm then i else lf q) ∧ (if q = sm then nI j else D (20, 0) q) = nI (if q = sm then j else an q)
      by_cases e : q = sm
      · rw [if_pos e, if_pos e, if_pos e, if_pos e]; exact ⟨rfl, rfl⟩
      · rw [if_neg e, if_neg e, if_neg e, if_neg e]; exact xS.2 q (by omega)
    · refine cmE.scr (fun q h0 h3 => by rw [upA_n _ _ h0, upA_n _ _ h3]) (fun q hq => by rw [upA_s]; unfold upd; rw [if_neg hq]) ⟨by rw [upA_s]; rfl, fun q hq => ?_⟩
      rw [upA_n _ _ (by decide : ((43, 0) : Id2) ≠ (30, 0)), upA_s]
      have hD43 := hE (43, 0) (by decide)
      rw [hD43]
      show (if 2 * q = 2 * sm + 1 then nI j else if 2 * q = 2 * sm then nI i else D (43, 0) (2 * q)) = nI (if q = sm then i else lf q) ∧ (if 2 * q + 1 = 2 * sm + 1 then nI j else if 2 * q + 1 = 2 * sm then nI i else D (43, 0) (2 * q + 1)) = nI (if q = sm then j else an q)
      by_cases e : q = sm
      · rw [if_neg (by omega), if_pos (by omega), if_pos e, if_pos (by omega), if_pos e]; exact ⟨rfl, rfl⟩
      · rw [if_neg (by omega), if_neg (by omega), if_neg e, if_neg (by omega), if_neg (by omega), if_neg e]; exact mS.2 q (by omega)
    · show (if q = sm then i else lf q) < 100 ∧ (if q = sm then j else an q) < 72
      by_cases e : q = sm
      · rw [if_pos e, if_pos e]; omega
      · rw [if_neg e, if_neg e]; exact iL q (by omega)
  · rw [if_neg c] at h1
    have h2 := m_seen mP mS.1 iS x w
    rw [if_neg c] at h2
    exact both_ro hR h1 h2
