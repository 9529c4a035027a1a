/-! CLASS AND REFERENCE TOGETHER: a house kept, and back -/

theorem b_keep {D : Wd} (hR : Rel D) (x : Int32) : Both mX5_keep mX6_keep 2 1 [vi x] D := by
  obtain ⟨n, k, f, dn, dr, pn, hm, hp, a, pl, hr, kp, ka, kl, kh, t, len, sm, lf, an, cx, cm, I⟩ := id hR
  obtain ⟨xP, xH, xhp, ⟨xA, xPl, xHr⟩, xK, xT, xS⟩ := id cx
  obtain ⟨mP, mH, mhp, m8, mz, ⟨mA, mPl, mHr⟩, mK, mT, mS⟩ := id cm
  obtain ⟨iH, iG, i4, ⟨iO, i9, iN⟩, iK, iS, iL⟩ := id I
  have h1 := x_keep xHr i9 x
  by_cases c : lt0 x 2 = true
  · simp only [if_pos c] at h1
    obtain ⟨j, hj, rfl⟩ := lt0_nI c
    have hjx : ix (nI j) = j := nI_clamp (by omega)
    rw [hjx] at h1
    have hn8 : n ≤ 8 := xP.2.1
    have hp5 : pn ≤ 5 := xP.2.2.2.2.2.2.2.2.1
    obtain ⟨E, hEe⟩ : ∃ E, E = upA (CpH D 0 (j + 2)) (13, 0) (upd (D (13, 0)) j (nI 1)) := ⟨_, rfl⟩
    rw [← hEe] at h1
    have eO : ∀ i : Id2, i ≠ (13, 0) → i ≠ (9, j + 2) → i ≠ (10, j + 2) → i ≠ (11, j + 2) → E i = D i := fun i h0 h9 h10 h11 => by rw [hEe, upA_n _ _ h0, CpH.at h9 h10 h11]
    have eS : ∀ c h : Nat, h ≠ j + 2 → c ≠ 13 → E (c, h) = D (c, h) := fun c h hh hc => eO (c, h) (neK hc _ _) (fun x => hh (congrArg Prod.snd x)) (fun x => hh (congrArg Prod.snd x)) (fun x => hh (congrArg Prod.snd x))
    have e13 : ∀ q, E (13, 0) q = if q = j then nI 1 else D (13, 0) q := fun q => by rw [hEe, upA_s]; rfl
    have cmE := cm.hi (E := E) (fun i hi => eO i (fun e => by rw [e] at hi; exact absurd hi (by decide)) (fun e => by rw [e] at hi; simp only at hi; omega) (fun e => by rw [e] at hi; simp only at hi; omega) (fun e => by rw [e] at hi; simp only at hi; omega))
    have cxE : CX E n k f dn dr pn hm hp a pl hr (updN kp j 1) (fun q => if q = j then a else ka q) (fun q => if q = j then pl else kl q) (fun q => if q = j then hr else kh q) t len sm lf an := by
      refine ⟨PX.c (fun c h1 h6 => eS c 0 (by omega) (by omega)) xP, fun i hi => by rw [eS 2 0 (by omega) (by decide)]; exact xH i hi, fun p hp' => by rw [eS 6 0 (by omega) (by decide)]; exact xhp p hp', NX.c (eS 10 0 (by omega) (by decide)) (eS 11 0 (by omega) (by decide)) (congrFun (eS 9 0 (by omega) (by decide)) 3) ⟨xA, xPl, xHr⟩, fun q hq => ?_, xT.c (congrFun (eS 7 0 (by omega) (by decide)) 1) (eS 8 0 (by omega) (by decide)), xS.c (congrFun (eS 18 0 (by omega) (by decide)) 2) (eS 19 0 (by omega) (by decide)) (eS 20 0 (by omega) (by decide))⟩
      rw [e13 q]
      show (if q = j then nI 1 else D (13, 0) q) = nI (if q = j then 1 else kp q) ∧ ((if q = j then 1 else kp q) ≠ 0 → NX E (q + 2) n pn (if q = j then a else ka q) (if q = j then pl else kl q) (if q = j then hr else kh q))
      by_cases e : q = j
      · rw [if_pos e, if_pos e, if_pos e, if_pos e, if_pos e, e]
        refine ⟨rfl, fun _ => ⟨fun i hi => ?_, fun p hp' => ?_, ?_⟩⟩
        · rw [hEe, upA_n _ _ (neK (by decide) _ _)]; exact CpH.A hn8 xA i hi
        · rw [hEe, upA_n _ _ (neK (by decide) _ _)]; exact CpH.Pl hp5 xPl p hp'
        · rw [hEe, upA_n _ _ (neK (by decide) _ _), CpH.r]; exact xHr
      · rw [if_neg e, if_neg e, if_neg e, if_neg e, if_neg e]
        exact ⟨(xK q hq).1, fun hk => NX.c (eS 10 (q + 2) (by omega) (by decide)) (eS 11 (q + 2) (by omega) (by decide)) (congrFun (eS 9 (q + 2) (by omega) (by decide)) 3) ((xK q hq).2 hk)⟩
    have h2 := m_keep cmE.2.2.2.2.2.1.2.2 i9 (nI j)
    simp only [if_pos c] at h2
    rw [hjx] at h2
    obtain ⟨F, hFe⟩ : ∃ F, F = upA (upA E (31, 0) (cpR (E (31, 0)) 0 (14 * (1 + j)) 14)) (32, 0) (upd (E (32, 0)) j (nI 1)) := ⟨_, rfl⟩
    rw [← hFe] at h2
    refine both_set h1 h2 ⟨n, k, f, dn, dr, pn, hm, hp, a, pl, hr, updN kp j 1, fun q => if q = j then a else ka q, fun q => if q = j then pl else kl q, fun q => if q = j then hr else kh q, t, len, sm, lf, an, cxE.lo (fun i hi => by rw [hFe, upA_hi (by decide) hi, upA_hi (by decide) hi]), ?_, ⟨iH, iG, i4, ⟨iO, i9, iN⟩, fun q hq => ?_, iS, iL⟩⟩
    · obtain ⟨m1, m2, m3, m4, m5, m6, m7, m9, m10⟩ := cmE
      have fO : ∀ i : Id2, i ≠ (31, 0) → i ≠ (32, 0) → F i = E i := fun i h1 h2 => by rw [hFe, upA_n _ _ h2, upA_n _ _ h1]
      have f31 : F (31, 0) = cpR (E (31, 0)) 0 (14 * (1 + j)) 14 := by rw [hFe, upA_n _ _ (by decide), upA_s]
      have f32 : ∀ q, F (32, 0) q = if q = j then nI 1 else E (32, 0) q := fun q => by rw [hFe, upA_s]; rfl
      have fo : ∀ q, (q < 14 * (1 + j) ∨ 14 * (1 + j) + 14 ≤ q) → F (31, 0) q = E (31, 0) q := fun q hq => by rw [f31, cpR_out hq]
      have e30 := fO (30, 0) (by decide) (by decide)
      refine ⟨PM.c ⟨congrFun e30 6, congrFun e30 10, congrFun e30 11⟩ (fO _ (by decide) (by decide)) (fO _ (by decide) (by decide)) (fO _ (by decide) (by decide)) m1, fun i hi => by rw [fo _ (by omega)]; exact m2 i hi, fun p hp' => by rw [fo _ (by omega)]; exact m3 p hp', by rw [fO _ (by decide) (by decide)]; exact m4, (fo 69 (by omega)).trans m5, m6.c hn8 hp5 (fun q _ h => fo q (by omega)), fun q hq => ?_, m9.c (congrFun e30 3) (fO _ (by decide) (by decide)), m10.c (congrFun e30 25) (fO _ (by decide) (by decide))⟩
      rw [f32 q]
      show (if q = j then nI 1 else E (32, 0) q) = nI (if q = j then 1 else kp q) ∧ ((if q = j then 1 else kp q) ≠ 0 → NM F (14 * (1 + q)) n pn (if q = j then a else ka q) (if q = j then pl else kl q) (if q = j then hr else kh q))
      by_cases e : q = j
      · rw [if_pos e, if_pos e, if_pos e, if_pos e, if_pos e, e]
        have fi : ∀ q, q < 14 → F (31, 0) (14 * (1 + j) + q) = E (31, 0) (0 + q) := fun q hq => by rw [f31, cpR_in hq]
        refine ⟨rfl, fun _ => ⟨fun i hi => ?_, fun p hp' => ?_, ?_⟩⟩
        · rw [fi i (by omega)]; exact m6.1 i hi
        · rw [Nat.add_assoc, fi (8 + p) (by omega)]
          have := m6.2.1 p hp'
          rw [Nat.add_assoc] at this; exact this
        · rw [fi 13 (by omega)]; exact m6.2.2
      · rw [if_neg e, if_neg e, if_neg e, if_neg e, if_neg e]
        exact ⟨(m7 q hq).1, fun hk => ((m7 q hq).2 hk).c hn8 hp5 (fun i x y => fo i (by omega))⟩
    · show (if q = j then 1 else kp q) < 2 ∧ ((if q = j then 1 else kp q) ≠ 0 → NI n f pn (if q = j then a else ka q) (if q = j then pl else kl q) (if q = j then hr else kh q))
      by_cases e : q = j
      · rw [if_pos e, if_pos e, if_pos e, if_pos e]; exact ⟨by decide, fun _ => ⟨iO, i9, iN⟩⟩
      · rw [if_neg e, if_neg e, if_neg e, if_neg e]; exact iK q hq
  · simp only [if_neg c] at h1
    have h2 := m_keep mHr i9 x
    simp only [if_neg c] at h2
    exact both_ro hR h1 h2

theorem b_back {D : Wd} (hR : Rel D) (x : Int32) : Both mX5_back mX6_back 2 1 [vi x] D := by
  obtain ⟨n, k, f, dn, dr, pn, hm, hp, a, pl, hr, kp, ka, kl, kh, t, len, sm, lf, an, cx, cm, I⟩ := id hR
  obtain ⟨xP, xH, xhp, ⟨xA, xPl, xHr⟩, xK, xT, xS⟩ := id cx
  obtain ⟨mP, mH, mhp, m8, mz, ⟨mA, mPl, mHr⟩, mK, mT, mS⟩ := id cm
  obtain ⟨iH, iG, i4, ⟨iO, i9, iN⟩, iK, iS, iL⟩ := id I
  have h1 := x_back (kp := kp) (fun q hq => ⟨(xK q hq).1, (iK q hq).1⟩) x
  by_cases c : lt0 x 2 = true
  · obtain ⟨j, hj, rfl⟩ := lt0_nI c
    have hjx : ix (nI j) = j := nI_clamp (by omega)
    have hn8 : n ≤ 8 := xP.2.1
    have hp5 : pn ≤ 5 := xP.2.2.2.2.2.2.2.2.1
    simp only [c, hjx, Bool.true_and, if_true] at h1
    by_cases hk : kp j = 0
    · have h2 := m_back (D := D) (kp := kp) (fun q hq => ⟨(mK q hq).1, (iK q hq).1⟩) (nI j)
      simp only [c, hjx, Bool.true_and, if_true] at h2
      rw [if_pos hk, if_neg (by simpa using hk)] at h1 h2
      exact both_ro hR h1 h2
    · rw [if_neg hk, if_pos (by simpa using hk), ((xK j hj).2 hk).2.2] at h1
      obtain ⟨E, hEe⟩ : ∃ E, E = CpH D (j + 2) 0 := ⟨_, rfl⟩
      rw [← hEe] at h1
      have eO : ∀ i : Id2, i ≠ (9, 0) → i ≠ (10, 0) → i ≠ (11, 0) → E i = D i := fun i h9 h10 h11 => by rw [hEe, CpH.at h9 h10 h11]
      have cmE := cm.hi (E := E) (fun i hi => eO i (fun e => by rw [e] at hi; exact absurd hi (by decide)) (fun e => by rw [e] at hi; exact absurd hi (by decide)) (fun e => by rw [e] at hi; exact absurd hi (by decide)))
      have hN := (xK j hj).2 hk
      have cxE := cx.now (E := E) (a' := ka j) (pl' := kl j) (hr' := kh j) eO ⟨by rw [hEe]; exact CpH.A hn8 hN.1, by rw [hEe]; exact CpH.Pl hp5 hN.2.1, by rw [hEe, CpH.r]; exact hN.2.2⟩
      have hNM := (cmE.2.2.2.2.2.2.1 j hj).2 hk
      have h2 := m_back (D := E) (kp := kp) (fun q hq => ⟨(cmE.2.2.2.2.2.2.1 q hq).1, (iK q hq).1⟩) (nI j)
      simp only [c, hjx, Bool.true_and, if_true] at h2
      rw [if_neg hk, if_pos (by simpa using hk), hNM.2.2] at h2
      have fi : ∀ q, q < 14 → (upA E (31, 0) (cpR (E (31, 0)) (14 * (1 + j)) 0 14)) (31, 0) (0 + q) = E (31, 0) (14 * (1 + j) + q) := fun q hq => by rw [upA_s, cpR_in hq]
      refine both_set h1 h2 ⟨n, k, f, dn, dr, pn, hm, hp, ka j, kl j, kh j, kp, ka, kl, kh, t, len, sm, lf, an, cxE.lo (fun i hi => upA_hi (by decide) hi), ?_, ⟨iH, iG, i4, (iK j hj).2 hk, iK, iS, iL⟩⟩
      refine cmE.now (fun i h => upA_n _ _ h) (fun q hq => by rw [upA_s, cpR_out (by omega)]) ⟨fun i hi => ?_, fun p hp' => ?_, ?_⟩
      · rw [fi i (by omega)]; exact hNM.1 i hi
      · rw [Nat.add_assoc, fi (8 + p) (by omega), ← Nat.add_assoc]; exact hNM.2.1 p hp'
      · rw [fi 13 (by omega)]; exact hNM.2.2
  · have h2 := m_back (D := D) (kp := kp) (fun q hq => ⟨(mK q hq).1, (iK q hq).1⟩) x
    have c' : lt0 x 2 = false := by simpa using c
    simp only [c', Bool.false_and, Bool.false_eq_true, if_false] at h1 h2
    exact both_ro hR h1 h2
