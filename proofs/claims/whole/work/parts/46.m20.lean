set_option maxRecDepth 100000 in
set_option maxHeartbeats 4000000 in
theorem m_house_n {D : Wd} {n : Nat} {k f : Nat → Nat} {dn : Nat} {dr : Nat → Nat} {pn : Nat} (hP : PM D n k f dn dr pn) {hm : Nat → Nat} (hH : AM D 56 n hm) {t : Nat → Nat} {len : Nat} (hX : TXm D t len) (hG0 : Geo1 (n, hm, f, dn, dr, pn)) {rc : Nat → Nat × Nat} {pos : Nat} (hPr : Prs t len 12 (n, hm, f, dn, dr, pn) 0 rc (tkP t len 0) (tkE t len (tkP t len 0)) (.inl pos)) (hpos : pos < 1000) : Mok mX6_house idsA 7 [vr (30, 0)] D (fun r' E' => r' = (some (vi (-4))) ∧ FRm D E') := by
  obtain ⟨hn3, hn8, hN, hK, hF, hd3, hDn, hDr, hp5, hPn⟩ := id hP
  refine Mok.of (L := [some (vr (30, 0)), none]) rfl (fun _ => Nat.le_of_ble_eq_true rfl) (fun _ => rfl) (fun X cx rq => ?_)
  refine g_aload_n cx dX6_house_0 rfl ?_
  refine g_callV (As := []) (rest := []) cx knX6_fault (m_fault hP hH hX hG0 hPr) a30_0 rfl rfl lmX6_163 niX6_fault seX6_fault rfl (by decide) (Nat.le_of_ble_eq_true rfl) rfl dX6_house_1 (fun r0 E2 hp0 => ?_)
  obtain ⟨rfl, hF2, hx2⟩ := hp0
  show Gk X mX6_house idsA 4 [some (vr (30, 0)), none] [vi (fltI (.inl pos))] E2
  refine g_top (y := nI pos) rfl ?_
  refine g_iconst (v := (-1)) cx dX6_house_4 (by decide) ?_
  refine g_icmp_eq (tgt := 11) cx dX6_house_5 (by decide) (fun h_5 => ?_) (fun h_5 => ?_)
  · skip
    exact absurd h_5 (m1_ne (by omega))
  · skip
    refine g_bipush (v := (-4)) cx dX6_house_8 (by decide) ?_
    exact g_ret cx rq rfl (rfl) dX6_house_10 ⟨rfl, hF2⟩

set_option maxRecDepth 100000 in
set_option maxHeartbeats 4000000 in
theorem m_house_y {D : Wd} {n : Nat} {k f : Nat → Nat} {dn : Nat} {dr : Nat → Nat} {pn : Nat} (hP : PM D n k f dn dr pn) {hm : Nat → Nat} (hH : AM D 56 n hm) {t : Nat → Nat} {len : Nat} (hX : TXm D t len) (hG0 : Geo1 (n, hm, f, dn, dr, pn)) {rc : Nat → Nat × Nat} {R9 : RS} {m9 : Nat} {rc9 : Nat → Nat × Nat} (hPr : Prs t len 12 (n, hm, f, dn, dr, pn) 0 rc (tkP t len 0) (tkE t len (tkP t len 0)) (.inr (R9, m9, rc9))) {T0 : TL} (hT0 : TLm D T0) (hV : ∀ q, q < m9 → (((rc9 q).1 = 2 ∨ (rc9 q).1 = 3 ∨ (rc9 q).1 = 4 ∨ (rc9 q).1 = 5) → (rc9 q).2 < 8) ∧ ((rc9 q).1 = 8 → (tlF rc9 T0 q).2.1 < 5)) : Mok mX6_house idsA 7 [vr (30, 0)] D (fun r' E' => r' = (some (vi (nI m9))) ∧ HouseM D E' R9 (tlF rc9 T0 m9)) := by
  obtain ⟨hn3, hn8, hN, hK, hF, hd3, hDn, hDr, hp5, hPn⟩ := id hP
  refine Mok.of (L := [some (vr (30, 0)), none]) rfl (fun _ => Nat.le_of_ble_eq_true rfl) (fun _ => rfl) (fun X cx rq => ?_)
  refine g_aload_n cx dX6_house_0 rfl ?_
  refine g_callV (As := []) (rest := []) cx knX6_fault (m_fault hP hH hX hG0 hPr) a30_0 rfl rfl lmX6_163 niX6_fault seX6_fault rfl (by decide) (Nat.le_of_ble_eq_true rfl) rfl dX6_house_1 (fun r0 E2 hp0 => ?_)
  obtain ⟨rfl, hF2, hx2⟩ := hp0
  show Gk X mX6_house idsA 4 [some (vr (30, 0)), none] [vi (fltI (.inr (R9, m9, rc9)))] E2
  refine g_top (y := -1) rfl ?_
  refine g_iconst (v := (-1)) cx dX6_house_4 (by decide) ?_
  refine g_icmp_eq (tgt := 11) cx dX6_house_5 (by decide) (fun h_5 => ?_) (fun h_5 => ?_)
  · skip
    obtain ⟨p9, e9, hR⟩ := hx2 R9 m9 rc9 rfl
    have hm12 := hR.2.2.2.2.1.2
    have hTL0 : TLm E2 T0 := ⟨by rw [hF2.1 _ (by decide) (by decide) (by decide) (by decide) (by decide)]; exact hT0.1, by rw [hF2.2 11 (by decide) (by decide) (by decide) (by decide) (by decide) (by decide) (by decide)]; exact hT0.2.1, hT0.2.2.1, by rw [hF2.1 _ (by decide) (by decide) (by decide) (by decide) (by decide)]; exact hT0.2.2.2⟩
    refine g_iconst (v := nI 0) cx dX6_house_11 (by decide) ?_
    refine g_istore_n (L' := [some (vr (30, 0)), some (vi (nI 0))]) cx dX6_house_12 (by decide) rfl rfl ?_
    have lp1 : ∀ (fu : Nat) (q : Nat) (F : Wd), m9 - q < fu → (q ≤ m9) → (TLm F (tlF rc9 T0 q)) → (TFm E2 F) → Gk X mX6_house idsA 13 [some (vr (30, 0)), some (vi (nI q))] [] F := by
      intro fu
      induction fu with
      | zero => intro q F hfu; exact absurd hfu (Nat.not_lt_zero _)
      | succ fu ih =>
        intro q F hfu hq hTL hTF
        refine g_iload_n cx dX6_house_13 rfl ?_
        refine g_aload_n cx dX6_house_14 rfl ?_
        refine g_getIN (i := (30, 0)) (ci := 6) (k := 5) (v := nI m9) cx a30_0 rfl rfl rfl (by decide) inX6 lfX6_102 dX6_house_15 ((hTF.2.1 5 (by decide)).trans hR.2.2.2.2.1.1) ?_
        refine g_icmp_geN (tgt := 34) cx dX6_house_18 (by decide) (by omega) (by omega) (fun h_18 => ?_) (fun h_18 => ?_)
        · skip
          have e8 : q = m9 := by omega
          rw [e8] at hTL
          refine g_aload_n cx dX6_house_34 rfl ?_
          refine g_aload_n cx dX6_house_35 rfl ?_
          refine g_getIN (i := (30, 0)) (ci := 6) (k := 15) (v := nI R9.1) cx a30_0 rfl rfl rfl (by decide) inX6 lfX6_108 dX6_house_36 ((hTF.2.1 15 (by decide)).trans hR.2.2.2.1.2.2.1) ?_
          refine g_putI (i := (30, 0)) (ci := 6) (k := 6) cx a30_0 rfl rfl rfl (by decide) inX6 tyX6_ok nmX6 rfl rfl lfX6_23 dX6_house_39 ?_
          refine g_aload_n cx dX6_house_42 rfl ?_
          refine g_aload_n cx dX6_house_43 rfl ?_
          refine g_getIN (i := (30, 0)) (ci := 6) (k := 19) (v := nI R9.2.2.2.1) cx a30_0 rfl rfl rfl (by decide) inX6 lfX6_116 dX6_house_44 (by rw [upA_s]; exact (hTF.2.1 19 (by decide)).trans hR.2.2.2.1.2.2.2.2.2.2.1) ?_
          refine g_putI (i := (30, 0)) (ci := 6) (k := 10) cx a30_0 rfl rfl rfl (by decide) inX6 tyX6_ok nmX6 rfl rfl lfX6_150 dX6_house_47 ?_
          obtain ⟨G, hG⟩ : ∃ G, G = upA (upA F (30, 0) (upd (F (30, 0)) 6 (nI R9.1))) (30, 0) (upd ((upA F (30, 0) (upd (F (30, 0)) 6 (nI R9.1))) (30, 0)) 10 (nI R9.2.2.2.1)) := ⟨_, rfl⟩
          refine g_wd hG.symm ?_
          have hI0 : HI F G R9 0 := ⟨fun i a _ _ _ => by rw [hG]; simp only [upA_n _ _ a], fun j a b => by rw [hG]; simp [upA, upd, a, b], by rw [hG]; simp [upA, upd], fun j hj => absurd hj (Nat.not_lt_zero j), fun j _ => by rw [hG]; simp [upA]⟩
          refine g_iconst (v := nI 0) cx dX6_house_50 (by decide) ?_
          refine g_istore_n (L' := [some (vr (30, 0)), some (vi (nI 0))]) cx dX6_house_51 (by decide) rfl rfl ?_
          have lp2 : ∀ (fu : Nat) (q2 : Nat) (G : Wd), 8 - q2 < fu → (q2 ≤ 8) → (HI F G R9 q2) → Gk X mX6_house idsA 52 [some (vr (30, 0)), some (vi (nI q2))] [] G := by
            intro fu
            induction fu with
            | zero => intro q2 G hfu; exact absurd hfu (Nat.not_lt_zero _)
            | succ fu ih =>
              intro q2 G hfu hq2 hI
              refine g_iload_n cx dX6_house_52 rfl ?_
              refine g_bipush (v := nI 8) cx dX6_house_53 (by decide) ?_
              refine g_icmp_geN (tgt := 91) cx dX6_house_55 (by decide) (by omega) (by omega) (fun h_55 => ?_) (fun h_55 => ?_)
              · skip
                have e7 : q2 = 8 := by omega
                rw [e7] at hI
                refine g_iconst (v := nI 0) cx dX6_house_91 (by decide) ?_
                refine g_istore_n (L' := [some (vr (30, 0)), some (vi (nI 0))]) cx dX6_house_92 (by decide) rfl rfl ?_
                have lp3 : ∀ (fu : Nat) (q3 : Nat) (G : Wd), 3 - q3 < fu → (q3 ≤ 3) → (HI F G R9 8) → (∀ j, j < q3 → G (37, 0) j = F (40, 0) j) → Gk X mX6_house idsA 93 [some (vr (30, 0)), some (vi (nI q3))] [] G := by
                  intro fu
                  induction fu with
                  | zero => intro q3 G hfu; exact absurd hfu (Nat.not_lt_zero _)
                  | succ fu ih =>
                    intro q3 G hfu hq3 hI8 hI9
                    refine g_iload_n cx dX6_house_93 rfl ?_
                    refine g_iconst (v := nI 3) cx dX6_house_94 (by decide) ?_
                    refine g_icmp_geN (tgt := 116) cx dX6_house_95 (by decide) (by omega) (by omega) (fun h_95 => ?_) (fun h_95 => ?_)
                    · skip
                      have e6 : q3 = 3 := by omega
                      rw [e6] at hI9
                      refine g_aload_n cx dX6_house_116 rfl ?_
                      refine g_bipush (v := nI 56) cx dX6_house_117 (by decide) ?_
                      refine g_iconst (v := nI 0) cx dX6_house_119 (by decide) ?_
                      refine g_fcallVv (As := [vi (nI 56), vi (nI 0)]) (rest := []) cx knX6_copy (m_copy (fr := 56) (to := 0) (by omega) (by omega) (by omega)) a30_0 rfl rfl lmX6_170 niX6_copy seX6_copy rfl (by decide) (Nat.le_of_ble_eq_true rfl) rfl dX6_house_120 ?_
                      refine g_aload_n cx dX6_house_123 rfl ?_
                      refine g_iconst (v := nI 0) cx dX6_house_124 (by decide) ?_
                      refine g_putI (i := (30, 0)) (ci := 6) (k := 25) cx a30_0 rfl rfl rfl (by decide) inX6 tyX6_ok nmX6 rfl rfl lfX6_174 dX6_house_125 ?_
                      refine g_aload_n cx dX6_house_128 rfl ?_
                      refine g_getR (i := (30, 0)) (ci := 6) (k := 1) (j := (32, 0)) cx a30_0 rfl rfl rfl (by decide) inX6 lfX6_13 dX6_house_129 ?_
                      refine g_iconst (v := nI 0) cx dX6_house_132 (by decide) ?_
                      refine g_iconst (v := nI 0) cx dX6_house_133 (by decide) ?_
                      refine g_zast (i := (32, 0)) (j := 0) (v' := nI 0) cx a32_0 rfl (rfl) (by omega) (by decide) rfl dX6_house_134 ?_
                      refine g_aload_n cx dX6_house_135 rfl ?_
                      refine g_getR (i := (30, 0)) (ci := 6) (k := 1) (j := (32, 0)) cx a30_0 rfl rfl rfl (by decide) inX6 lfX6_13 dX6_house_136 ?_
                      refine g_iconst (v := nI 1) cx dX6_house_139 (by decide) ?_
                      refine g_iconst (v := nI 0) cx dX6_house_140 (by decide) ?_
                      refine g_zast (i := (32, 0)) (j := 1) (v' := nI 0) cx a32_0 rfl (rfl) (by omega) (by decide) rfl dX6_house_141 ?_
                      refine g_aload_n cx dX6_house_142 rfl ?_
                      refine g_iconst (v := nI 0) cx dX6_house_143 (by decide) ?_
                      refine g_putI (i := (30, 0)) (ci := 6) (k := 3) cx a30_0 rfl rfl rfl (by decide) inX6 tyX6_ok nmX6 rfl rfl lfX6_64 dX6_house_144 ?_
                      obtain ⟨W9, hW9⟩ : ∃ W9, W9 = upA (upA (upA (upA (upA G (31, 0) (cpR (G (31, 0)) 56 0 14)) (30, 0) (upd ((upA G (31, 0) (cpR (G (31, 0)) 56 0 14)) (30, 0)) 25 (nI 0))) (32, 0) (upd ((upA (upA G (31, 0) (cpR (G (31, 0)) 56 0 14)) (30, 0) (upd ((upA G (31, 0) (cpR (G (31, 0)) 56 0 14)) (30, 0)) 25 (nI 0))) (32, 0)) 0 (nI 0))) (32, 0) (upd ((upA (upA (upA G (31, 0) (cpR (G (31, 0)) 56 0 14)) (30, 0) (upd ((upA G (31, 0) (cpR (G (31, 0)) 56 0 14)) (30, 0)) 25 (nI 0))) (32, 0) (upd ((upA (upA G (31, 0) (cpR (G (31, 0)) 56 0 14)) (30, 0) (upd ((upA G (31, 0) (cpR (G (31, 0)) 56 0 14)) (30, 0)) 25 (nI 0))) (32, 0)) 0 (nI 0))) (32, 0)) 1 (nI 0))) (30, 0) (upd ((upA (upA (upA (upA G (31, 0) (cpR (G (31, 0)) 56 0 14)) (30, 0) (upd ((upA G (31, 0) (cpR (G (31, 0)) 56 0 14)) (30, 0)) 25 (nI 0))) (32, 0) (upd ((upA (upA G (31, 0) (cpR (G (31, 0)) 56 0 14)) (30, 0) (upd ((upA G (31, 0) (cpR (G (31, 0)) 56 0 14)) (30, 0)) 25 (nI 0))) (32, 0)) 0 (nI 0))) (32, 0) (upd ((upA (upA (upA G (31, 0) (cpR (G (31, 0)) 56 0 14)) (30, 0) (upd ((upA G (31, 0) (cpR (G (31, 0)) 56 0 14)) (30, 0)) 25 (nI 0))) (32, 0) (upd ((upA (upA G (31, 0) (cpR (G (31, 0)) 56 0 14)) (30, 0) (upd ((upA G (31, 0) (cpR (G (31, 0)) 56 0 14)) (30, 0)) 25 (nI 0))) (32, 0)) 0 (nI 0))) (32, 0)) 1 (nI 0))) (30, 0)) 3 (nI 0)) := ⟨_, rfl⟩
                      refine g_wd hW9.symm ?_
                      have hHM : HouseM D W9 R9 (tlF rc9 T0 m9) := by
                        have h9 := HouseM.of hR hTL hTF hI8 hI9
                        rw [hW9]
                        simpa only [upA_s, upA_n _ _ (show ((32, 0) : Id2) ≠ (30, 0) by decide), upA_n _ _ (show ((32, 0) : Id2) ≠ (31, 0) by decide), upA_n _ _ (show ((30, 0) : Id2) ≠ (31, 0) by decide), upA_n _ _ (show ((30, 0) : Id2) ≠ (32, 0) by decide)] using h9
                      have hW5 : W9 (30, 0) 5 = nI m9 := by
                        rw [hW9]
                        simp only [upA_s, upA_n _ _ (show ((30, 0) : Id2) ≠ (31, 0) by decide), upA_n _ _ (show ((30, 0) : Id2) ≠ (32, 0) by decide)]
                        exact (hI8.2.1 5 (by decide) (by decide)).trans ((hTF.2.1 5 (by decide)).trans hR.2.2.2.2.1.1)
                      refine g_aload_n cx dX6_house_147 rfl ?_
                      refine g_getIN (i := (30, 0)) (ci := 6) (k := 5) (v := nI m9) cx a30_0 rfl rfl rfl (by decide) inX6 lfX6_102 dX6_house_148 (hW5) ?_
                      exact g_ret cx rq rfl (rfl) dX6_house_151 ⟨rfl, hHM⟩
                    · skip
                      refine g_aload_n cx dX6_house_98 rfl ?_
                      refine g_getR (i := (30, 0)) (ci := 6) (k := 9) (j := (37, 0)) cx a30_0 rfl rfl rfl (by decide) inX6 lfX6_33 dX6_house_99 ?_
                      refine g_iload_n cx dX6_house_102 rfl ?_
                      refine g_aload_n cx dX6_house_103 rfl ?_
                      refine g_getR (i := (30, 0)) (ci := 6) (k := 18) (j := (40, 0)) cx a30_0 rfl rfl rfl (by decide) inX6 lfX6_42 dX6_house_104 ?_
                      refine g_iload_n cx dX6_house_107 rfl ?_
                      refine g_iald (i := (40, 0)) (j := q3) cx a40_0 rfl (rfl) (by omega) (by decide) dX6_house_108 ?_
                      refine g_iast (i := (37, 0)) (j := q3) cx a37_0 rfl (rfl) (by omega) (by decide) dX6_house_109 ?_
                      refine g_iincN (L' := [some (vr (30, 0)), some (vi (nI (q3 + 1)))]) cx dX6_house_110 rfl (by decide) rfl rfl ?_
                      refine g_goto (tgt := 93) cx dX6_house_113 (by decide) ?_
                      exact ih (q3 + 1) (upA G (37, 0) (upd (G (37, 0)) q3 ((G (40, 0) q3)))) (by omega) (by omega) ((hI8.d hI9).1) ((hI8.d hI9).2)
                exact lp3 4 0 G (by omega) (by omega) hI (fun j hj => absurd hj (Nat.not_lt_zero j))
              · skip
                refine g_aload_n cx dX6_house_58 rfl ?_
                refine g_getR (i := (30, 0)) (ci := 6) (k := 0) (j := (31, 0)) cx a30_0 rfl rfl rfl (by decide) inX6 lfX6_7 dX6_house_59 ?_
                refine g_bipush (v := nI 56) cx dX6_house_62 (by decide) ?_
                refine g_iload_n cx dX6_house_64 rfl ?_
                refine g_iaddN cx dX6_house_65 ?_
                refine g_aload_n cx dX6_house_66 rfl ?_
                refine g_getR (i := (30, 0)) (ci := 6) (k := 16) (j := (38, 0)) cx a30_0 rfl rfl rfl (by decide) inX6 lfX6_36 dX6_house_67 ?_
                refine g_iload_n cx dX6_house_70 rfl ?_
                refine g_iald (i := (38, 0)) (j := q2) cx a38_0 rfl (rfl) (by omega) (by decide) dX6_house_71 ?_
                refine g_iast (i := (31, 0)) (j := 56 + q2) cx a31_0 rfl (rfl) (by omega) (by decide) dX6_house_72 ?_
                refine g_aload_n cx dX6_house_73 rfl ?_
                refine g_getR (i := (30, 0)) (ci := 6) (k := 8) (j := (36, 0)) cx a30_0 rfl rfl rfl (by decide) inX6 lfX6_30 dX6_house_74 ?_
                refine g_iload_n cx dX6_house_77 rfl ?_
                refine g_aload_n cx dX6_house_78 rfl ?_
                refine g_getR (i := (30, 0)) (ci := 6) (k := 17) (j := (39, 0)) cx a30_0 rfl rfl rfl (by decide) inX6 lfX6_39 dX6_house_79 ?_
                refine g_iload_n cx dX6_house_82 rfl ?_
                refine g_iald (i := (39, 0)) (j := q2) cx a39_0 rfl (rfl) (by omega) (by decide) dX6_house_83 ?_
                refine g_iast (i := (36, 0)) (j := q2) cx a36_0 rfl (rfl) (by omega) (by decide) dX6_house_84 ?_
                refine g_iincN (L' := [some (vr (30, 0)), some (vi (nI (q2 + 1)))]) cx dX6_house_85 rfl (by decide) rfl rfl ?_
                refine g_goto (tgt := 52) cx dX6_house_88 (by decide) ?_
                exact ih (q2 + 1) (upA (upA G (31, 0) (upd (G (31, 0)) (56 + q2) ((G (38, 0) q2)))) (36, 0) (upd ((upA G (31, 0) (upd (G (31, 0)) (56 + q2) ((G (38, 0) q2)))) (36, 0)) q2 (((upA G (31, 0) (upd (G (31, 0)) (56 + q2) ((G (38, 0) q2)))) (39, 0) q2)))) (by omega) (by omega) (hI.s (by omega))
          exact lp2 9 0 G (by omega) (by omega) hI0
        · skip
          have hrq := hR.2.2.2.2.2.1 q h_18
          refine g_aload_n cx dX6_house_21 rfl ?_
          refine g_iconst (v := nI 3) cx dX6_house_22 (by decide) ?_
          refine g_iload_n cx dX6_house_23 rfl ?_
          refine g_imulN cx dX6_house_24 ?_
          refine g_callV (As := [vi (nI (3 * q))]) (rest := []) cx knX6_tell (m_tell hTL (q := q) (by omega) hrq.2.1 ((congrFun (hTF.1 _ (by decide) (by decide) (by decide)) _).trans hrq.1) (fun h9 => (congrFun (hTF.1 _ (by decide) (by decide) (by decide)) _).trans (hrq.2.2 h9)) (hV q (by omega)).1 (hV q (by omega)).2) a30_0 rfl rfl lmX6_166 niX6_tell seX6_tell rfl (by decide) (Nat.le_of_ble_eq_true rfl) rfl dX6_house_25 (fun r0 F2 hp0 => ?_)
          obtain ⟨rfl, hTL2, hTF2⟩ := hp0
          show Gk X mX6_house idsA 28 [some (vr (30, 0)), some (vi (nI q))] [] F2
          refine g_iincN (L' := [some (vr (30, 0)), some (vi (nI (q + 1)))]) cx dX6_house_28 rfl (by decide) rfl rfl ?_
          refine g_goto (tgt := 13) cx dX6_house_31 (by decide) ?_
          exact ih (q + 1) F2 (by omega) (by omega) hTL2 (hTF.trans hTF2)
    exact lp1 (m9 + 1) 0 E2 (by omega) (by omega) hTL0 (TFm.refl _)
  · skip
    exact absurd rfl h_5
