set_option maxRecDepth 100000 in
set_option maxHeartbeats 4000000 in
theorem m_fault {D : Wd} {n : Nat} {k f : Nat → Nat} {dn : Nat} {dr : Nat → Nat} {pn : Nat} (hP : PM D n k f dn dr pn) {hm : Nat → Nat} (hH : AM D 56 n hm) {t : Nat → Nat} {len : Nat} (hX : TXm D t len) (hG0 : Geo1 (n, hm, f, dn, dr, pn)) {rc : Nat → Nat × Nat} {res : Rs} (hPr : Prs t len 12 (n, hm, f, dn, dr, pn) 0 rc (tkP t len 0) (tkE t len (tkP t len 0)) res) : Mok mX6_fault idsA 6 [vr (30, 0)] D (fun r' E' => r' = (some (vi (fltI res))) ∧ (FRm D E' ∧ ∀ R' m' rc', res = .inr (R', m', rc') → ∃ p' e', RK D E' t len R' m' rc' p' e')) := by
  obtain ⟨hn3, hn8, hN, hK, hF, hd3, hDn, hDr, hp5, hPn⟩ := id hP
  have hl2 := hX.2.1
  refine Mok.of (L := [some (vr (30, 0)), none]) rfl (fun _ => Nat.le_of_ble_eq_true rfl) (fun _ => rfl) (fun X cx rq => ?_)
  refine g_aload_n cx dX6_fault_0 rfl ?_
  refine g_iconst (v := nI 0) cx dX6_fault_1 (by decide) ?_
  refine g_putI (i := (30, 0)) (ci := 6) (k := 12) cx a30_0 rfl rfl rfl (by decide) inX6 tyX6_ok nmX6 rfl rfl lfX6_69 dX6_fault_2 ?_
  refine g_aload_n cx dX6_fault_5 rfl ?_
  refine g_iconst (v := nI 0) cx dX6_fault_6 (by decide) ?_
  refine g_putI (i := (30, 0)) (ci := 6) (k := 5) cx a30_0 rfl rfl rfl (by decide) inX6 tyX6_ok nmX6 rfl rfl lfX6_102 dX6_fault_7 ?_
  refine g_aload_n cx dX6_fault_10 rfl ?_
  refine g_aload_n cx dX6_fault_11 rfl ?_
  refine g_getIN (i := (30, 0)) (ci := 6) (k := 6) (v := nI n) cx a30_0 rfl rfl rfl (by decide) inX6 lfX6_23 dX6_fault_12 (by simp [upA, upd]; exact hN) ?_
  refine g_putI (i := (30, 0)) (ci := 6) (k := 15) cx a30_0 rfl rfl rfl (by decide) inX6 tyX6_ok nmX6 rfl rfl lfX6_108 dX6_fault_15 ?_
  refine g_aload_n cx dX6_fault_18 rfl ?_
  refine g_aload_n cx dX6_fault_19 rfl ?_
  refine g_getIN (i := (30, 0)) (ci := 6) (k := 10) (v := nI dn) cx a30_0 rfl rfl rfl (by decide) inX6 lfX6_150 dX6_fault_20 (by simp [upA, upd]; exact hDn) ?_
  refine g_putI (i := (30, 0)) (ci := 6) (k := 19) cx a30_0 rfl rfl rfl (by decide) inX6 tyX6_ok nmX6 rfl rfl lfX6_116 dX6_fault_23 ?_
  refine g_aload_n cx dX6_fault_26 rfl ?_
  refine g_aload_n cx dX6_fault_27 rfl ?_
  refine g_getIN (i := (30, 0)) (ci := 6) (k := 11) (v := nI pn) cx a30_0 rfl rfl rfl (by decide) inX6 lfX6_153 dX6_fault_28 (by simp [upA, upd]; exact hPn) ?_
  refine g_putI (i := (30, 0)) (ci := 6) (k := 20) cx a30_0 rfl rfl rfl (by decide) inX6 tyX6_ok nmX6 rfl rfl lfX6_137 dX6_fault_31 ?_
  obtain ⟨E, hE⟩ : ∃ E, E = upA (upA (upA (upA (upA D (30, 0) (upd (D (30, 0)) 12 (nI 0))) (30, 0) (upd ((upA D (30, 0) (upd (D (30, 0)) 12 (nI 0))) (30, 0)) 5 (nI 0))) (30, 0) (upd ((upA (upA D (30, 0) (upd (D (30, 0)) 12 (nI 0))) (30, 0) (upd ((upA D (30, 0) (upd (D (30, 0)) 12 (nI 0))) (30, 0)) 5 (nI 0))) (30, 0)) 15 (nI n))) (30, 0) (upd ((upA (upA (upA D (30, 0) (upd (D (30, 0)) 12 (nI 0))) (30, 0) (upd ((upA D (30, 0) (upd (D (30, 0)) 12 (nI 0))) (30, 0)) 5 (nI 0))) (30, 0) (upd ((upA (upA D (30, 0) (upd (D (30, 0)) 12 (nI 0))) (30, 0) (upd ((upA D (30, 0) (upd (D (30, 0)) 12 (nI 0))) (30, 0)) 5 (nI 0))) (30, 0)) 15 (nI n))) (30, 0)) 19 (nI dn))) (30, 0) (upd ((upA (upA (upA (upA D (30, 0) (upd (D (30, 0)) 12 (nI 0))) (30, 0) (upd ((upA D (30, 0) (upd (D (30, 0)) 12 (nI 0))) (30, 0)) 5 (nI 0))) (30, 0) (upd ((upA (upA D (30, 0) (upd (D (30, 0)) 12 (nI 0))) (30, 0) (upd ((upA D (30, 0) (upd (D (30, 0)) 12 (nI 0))) (30, 0)) 5 (nI 0))) (30, 0)) 15 (nI n))) (30, 0) (upd ((upA (upA (upA D (30, 0) (upd (D (30, 0)) 12 (nI 0))) (30, 0) (upd ((upA D (30, 0) (upd (D (30, 0)) 12 (nI 0))) (30, 0)) 5 (nI 0))) (30, 0) (upd ((upA (upA D (30, 0) (upd (D (30, 0)) 12 (nI 0))) (30, 0) (upd ((upA D (30, 0) (upd (D (30, 0)) 12 (nI 0))) (30, 0)) 5 (nI 0))) (30, 0)) 15 (nI n))) (30, 0)) 19 (nI dn))) (30, 0)) 20 (nI pn)) := ⟨_, rfl⟩
  refine g_wd hE.symm ?_
  have hI0 : Ini D E n dn pn 0 := Ini.z (fun i hi => by rw [hE]; simp only [upA_n _ _ hi]) (fun q a1 a2 a3 a4 a5 => by rw [hE]; simp [upA, upd, a1, a2, a3, a4, a5]) (by rw [hE]; simp [upA, upd])
  refine g_iconst (v := nI 0) cx dX6_fault_34 (by decide) ?_
  refine g_istore_n (L' := [some (vr (30, 0)), some (vi (nI 0))]) cx dX6_fault_35 (by decide) rfl rfl ?_
  have lp1 : ∀ (fu : Nat) (q : Nat) (E : Wd), 8 - q < fu → (q ≤ 8) → (Ini D E n dn pn q) → Gk X mX6_fault idsA 36 [some (vr (30, 0)), some (vi (nI q))] [] E := by
    intro fu
    induction fu with
    | zero => intro q E hfu; exact absurd hfu (Nat.not_lt_zero _)
    | succ fu ih =>
      intro q E hfu hq hI
      refine g_iload_n cx dX6_fault_36 rfl ?_
      refine g_bipush (v := nI 8) cx dX6_fault_37 (by decide) ?_
      refine g_icmp_geN (tgt := 75) cx dX6_fault_39 (by decide) (by omega) (by omega) (fun h_39 => ?_) (fun h_39 => ?_)
      · skip
        have e9 : q = 8 := by omega
        rw [e9] at hI
        refine g_iconst (v := nI 0) cx dX6_fault_75 (by decide) ?_
        refine g_istore_n (L' := [some (vr (30, 0)), some (vi (nI 0))]) cx dX6_fault_76 (by decide) rfl rfl ?_
        have lp2 : ∀ (fu : Nat) (q2 : Nat) (E : Wd), 3 - q2 < fu → (q2 ≤ 3) → (Ini D E n dn pn 8) → (∀ j, j < q2 → E (40, 0) j = D (37, 0) j) → Gk X mX6_fault idsA 77 [some (vr (30, 0)), some (vi (nI q2))] [] E := by
          intro fu
          induction fu with
          | zero => intro q2 E hfu; exact absurd hfu (Nat.not_lt_zero _)
          | succ fu ih =>
            intro q2 E hfu hq2 hI8 hI9
            refine g_iload_n cx dX6_fault_77 rfl ?_
            refine g_iconst (v := nI 3) cx dX6_fault_78 (by decide) ?_
            refine g_icmp_geN (tgt := 100) cx dX6_fault_79 (by decide) (by omega) (by omega) (fun h_79 => ?_) (fun h_79 => ?_)
            · skip
              have e8 : q2 = 3 := by omega
              rw [e8] at hI9
              obtain ⟨hXE, hR⟩ := Ini.RK (rc := rc) hP hH hX hI8 hI9
              refine g_aload_n cx dX6_fault_100 rfl ?_
              refine g_fcallVv (As := []) (rest := []) cx knX6_token (m_token hXE hI8.2.1.1 (by omega)) a30_0 rfl rfl lmX6_105 niX6_token seX6_token rfl (by decide) (Nat.le_of_ble_eq_true rfl) rfl dX6_fault_101 ?_
              rcases hPr with ⟨p', e', hN9, hres⟩ | ⟨w, a, b, p', e', hY9, hC9⟩
              · skip
                refine g_aload_n cx dX6_fault_104 rfl ?_
                refine g_callV (As := []) (rest := []) cx knX6_readsLine (m_lineN hR (by omega) hG0 hN9) a30_0 rfl rfl lmX6_156 niX6_readsLine seX6_readsLine rfl (by decide) (Nat.le_of_ble_eq_true rfl) rfl dX6_fault_105 (fun r0 E2 hp0 => ?_)
                obtain ⟨rfl, hR2⟩ := hp0
                show Gk X mX6_fault idsA 108 [some (vr (30, 0)), some (vi (nI q2))] [vi (nI 0)] E2
                refine g_if_neN (tgt := 116) cx dX6_fault_108 (by decide) (by omega) (fun h_108 => ?_) (fun h_108 => ?_)
                · skip
                  exact absurd rfl h_108
                · skip
                  refine g_aload_n cx dX6_fault_111 rfl ?_
                  refine g_getIN (i := (30, 0)) (ci := 6) (k := 13) (v := nI p') cx a30_0 rfl rfl rfl (by decide) inX6 lfX6_72 dX6_fault_112 (hR2.2.1.2.1) ?_
                  exact g_ret cx rq rfl (rfl) dX6_fault_115 ⟨by rw [hres]; rfl, hR2.2.2.2.2.2.2, fun R9 m9 rc9 h9 => by rw [hres] at h9; cases h9⟩
              · skip
                refine g_aload_n cx dX6_fault_104 rfl ?_
                refine g_callV (As := []) (rest := []) cx knX6_readsLine (m_lineY hR (by omega) hG0 hY9) a30_0 rfl rfl lmX6_156 niX6_readsLine seX6_readsLine rfl (by decide) (Nat.le_of_ble_eq_true rfl) rfl dX6_fault_105 (fun r0 E2 hp0 => ?_)
                obtain ⟨rfl, hR2⟩ := hp0
                show Gk X mX6_fault idsA 108 [some (vr (30, 0)), some (vi (nI q2))] [vi (nI 1)] E2
                refine g_if_neN (tgt := 116) cx dX6_fault_108 (by decide) (by omega) (fun h_108 => ?_) (fun h_108 => ?_)
                · skip
                  have lp3 : ∀ (fu : Nat) (z3 : Nat) (R : RS) (m : Nat) (rr : Nat → Nat × Nat) (p : Nat) (e : Nat) (G : Wd), z3 < fu → (RK D G t len R m rr p e) → (Geo1 R) → (Cnt t len (Prs t len z3) R m rr p e res) → Gk X mX6_fault idsA 116 [some (vr (30, 0)), none] [] G := by
                    intro fu
                    induction fu with
                    | zero => intro z3 R m rr p e G hfu; exact absurd hfu (Nat.not_lt_zero _)
                    | succ fu ih =>
                      intro z3 R m rr p e G hfu hR hG hC
                      have hl2 := hR.1.2.1
                      have hT1 := hR.2.2.1.1
                      have hT2 := hR.2.2.1.2.1
                      have hm12 := hR.2.2.2.2.1.2
                      rcases hC with ⟨hC1, hC2⟩ | ⟨hC1, hC2, hC3⟩ | ⟨hC1, hC2, hC3⟩
                      · skip
                        refine g_aload_n cx dX6_fault_116 rfl ?_
                        refine g_getIN (i := (30, 0)) (ci := 6) (k := 13) (v := nI p) cx a30_0 rfl rfl rfl (by decide) inX6 lfX6_72 dX6_fault_117 (hR.2.1.2.1) ?_
                        refine g_aload_n cx dX6_fault_120 rfl ?_
                        refine g_getIN (i := (30, 0)) (ci := 6) (k := 3) (v := nI len) cx a30_0 rfl rfl rfl (by decide) inX6 lfX6_64 dX6_fault_121 (hR.1.1) ?_
                        refine g_icmp_geN (tgt := 194) cx dX6_fault_124 (by decide) (by omega) (by omega) (fun h_124 => ?_) (fun h_124 => ?_)
                        · skip
                          refine g_iconst (v := (-1)) cx dX6_fault_194 (by decide) ?_
                          exact g_ret cx rq rfl (rfl) dX6_fault_195 ⟨by rw [hC2]; rfl, hR.2.2.2.2.2.2, fun R9 m9 rc9 h9 => by rw [hC2] at h9; cases h9; exact ⟨_, _, hR⟩⟩
                        · skip
                          exact absurd h_124 (by omega)
                      · skip
                        have htp := (hR.1.2.2 p hC1).2
                        refine g_aload_n cx dX6_fault_116 rfl ?_
                        refine g_getIN (i := (30, 0)) (ci := 6) (k := 13) (v := nI p) cx a30_0 rfl rfl rfl (by decide) inX6 lfX6_72 dX6_fault_117 (hR.2.1.2.1) ?_
                        refine g_aload_n cx dX6_fault_120 rfl ?_
                        refine g_getIN (i := (30, 0)) (ci := 6) (k := 3) (v := nI len) cx a30_0 rfl rfl rfl (by decide) inX6 lfX6_64 dX6_fault_121 (hR.1.1) ?_
                        refine g_icmp_geN (tgt := 194) cx dX6_fault_124 (by decide) (by omega) (by omega) (fun h_124 => ?_) (fun h_124 => ?_)
                        · skip
                          exact absurd h_124 (by omega)
                        · skip
                          refine g_aload_n cx dX6_fault_127 rfl ?_
                          refine g_getIN (i := (30, 0)) (ci := 6) (k := 14) (v := nI e) cx a30_0 rfl rfl rfl (by decide) inX6 lfX6_79 dX6_fault_128 (hR.2.1.2.2) ?_
                          refine g_aload_n cx dX6_fault_131 rfl ?_
                          refine g_getIN (i := (30, 0)) (ci := 6) (k := 13) (v := nI p) cx a30_0 rfl rfl rfl (by decide) inX6 lfX6_72 dX6_fault_132 (hR.2.1.2.1) ?_
                          refine g_isubN cx dX6_fault_135 (by omega) ?_
                          refine g_iconst (v := nI 1) cx dX6_fault_136 (by decide) ?_
                          refine g_icmp_neN (tgt := 167) cx dX6_fault_137 (by decide) (by omega) (by omega) (fun h_137 => ?_) (fun h_137 => ?_)
                          · skip
                            refine g_iconst (v := nI 0) cx dX6_fault_167 (by decide) ?_
                            refine g_istore_n (L' := [some (vr (30, 0)), some (vi (nI 0))]) cx dX6_fault_168 (by decide) rfl rfl ?_
                            refine g_iload_n cx dX6_fault_169 rfl ?_
                            refine g_if_eqN (tgt := 182) cx dX6_fault_170 (by decide) (by omega) (fun h_170 => ?_) (fun h_170 => ?_)
                            · skip
                              refine g_iload_n cx dX6_fault_182 rfl ?_
                              refine g_if_neN (tgt := 191) cx dX6_fault_183 (by decide) (by omega) (fun h_183 => ?_) (fun h_183 => ?_)
                              · skip
                                exact absurd rfl h_183
                              · skip
                                refine g_aload_n cx dX6_fault_186 rfl ?_
                                refine g_getIN (i := (30, 0)) (ci := 6) (k := 13) (v := nI p) cx a30_0 rfl rfl rfl (by decide) inX6 lfX6_72 dX6_fault_187 (hR.2.1.2.1) ?_
                                exact g_ret cx rq rfl (rfl) dX6_fault_190 ⟨by rw [hC3]; rfl, hR.2.2.2.2.2.2, fun R9 m9 rc9 h9 => by rw [hC3] at h9; cases h9⟩
                            · skip
                              exact absurd rfl h_170
                          · skip
                            refine g_aload_n cx dX6_fault_140 rfl ?_
                            refine g_getR (i := (30, 0)) (ci := 6) (k := 2) (j := (33, 0)) cx a30_0 rfl rfl rfl (by decide) inX6 lfX6_17 dX6_fault_141 ?_
                            refine g_aload_n cx dX6_fault_144 rfl ?_
                            refine g_getIN (i := (30, 0)) (ci := 6) (k := 13) (v := nI p) cx a30_0 rfl rfl rfl (by decide) inX6 lfX6_72 dX6_fault_145 (hR.2.1.2.1) ?_
                            refine g_ialdN (i := (33, 0)) (j := p) (v := nI (t p)) cx a33_0 rfl (rfl) (by omega) (by decide) dX6_fault_148 ((hR.1.2.2 p (by omega)).1) ?_
                            refine g_bipush (v := nI 59) cx dX6_fault_149 (by decide) ?_
                            refine g_icmp_neN (tgt := 167) cx dX6_fault_151 (by decide) (by omega) (by omega) (fun h_151 => ?_) (fun h_151 => ?_)
                            · skip
                              refine g_iconst (v := nI 0) cx dX6_fault_167 (by decide) ?_
                              refine g_istore_n (L' := [some (vr (30, 0)), some (vi (nI 0))]) cx dX6_fault_168 (by decide) rfl rfl ?_
                              refine g_iload_n cx dX6_fault_169 rfl ?_
                              refine g_if_eqN (tgt := 182) cx dX6_fault_170 (by decide) (by omega) (fun h_170 => ?_) (fun h_170 => ?_)
                              · skip
                                refine g_iload_n cx dX6_fault_182 rfl ?_
                                refine g_if_neN (tgt := 191) cx dX6_fault_183 (by decide) (by omega) (fun h_183 => ?_) (fun h_183 => ?_)
                                · skip
                                  exact absurd rfl h_183
                                · skip
                                  refine g_aload_n cx dX6_fault_186 rfl ?_
                                  refine g_getIN (i := (30, 0)) (ci := 6) (k := 13) (v := nI p) cx a30_0 rfl rfl rfl (by decide) inX6 lfX6_72 dX6_fault_187 (hR.2.1.2.1) ?_
                                  exact g_ret cx rq rfl (rfl) dX6_fault_190 ⟨by rw [hC3]; rfl, hR.2.2.2.2.2.2, fun R9 m9 rc9 h9 => by rw [hC3] at h9; cases h9⟩
                              · skip
                                exact absurd rfl h_170
                            · skip
                              refine g_aload_n cx dX6_fault_154 rfl ?_
                              refine g_getIN (i := (30, 0)) (ci := 6) (k := 5) (v := nI m) cx a30_0 rfl rfl rfl (by decide) inX6 lfX6_102 dX6_fault_155 (hR.2.2.2.2.1.1) ?_
                              refine g_bipush (v := nI 12) cx dX6_fault_158 (by decide) ?_
                              refine g_icmp_geN (tgt := 167) cx dX6_fault_160 (by decide) (by omega) (by omega) (fun h_160 => ?_) (fun h_160 => ?_)
                              · skip
                                refine g_iconst (v := nI 0) cx dX6_fault_167 (by decide) ?_
                                refine g_istore_n (L' := [some (vr (30, 0)), some (vi (nI 0))]) cx dX6_fault_168 (by decide) rfl rfl ?_
                                refine g_iload_n cx dX6_fault_169 rfl ?_
                                refine g_if_eqN (tgt := 182) cx dX6_fault_170 (by decide) (by omega) (fun h_170 => ?_) (fun h_170 => ?_)
                                · skip
                                  refine g_iload_n cx dX6_fault_182 rfl ?_
                                  refine g_if_neN (tgt := 191) cx dX6_fault_183 (by decide) (by omega) (fun h_183 => ?_) (fun h_183 => ?_)
                                  · skip
                                    exact absurd rfl h_183
                                  · skip
                                    refine g_aload_n cx dX6_fault_186 rfl ?_
                                    refine g_getIN (i := (30, 0)) (ci := 6) (k := 13) (v := nI p) cx a30_0 rfl rfl rfl (by decide) inX6 lfX6_72 dX6_fault_187 (hR.2.1.2.1) ?_
                                    exact g_ret cx rq rfl (rfl) dX6_fault_190 ⟨by rw [hC3]; rfl, hR.2.2.2.2.2.2, fun R9 m9 rc9 h9 => by rw [hC3] at h9; cases h9⟩
                                · skip
                                  exact absurd rfl h_170
                              · skip
                                exact absurd ⟨h_137, h_151, h_160⟩ hC2
                      · skip
                        have htp := (hR.1.2.2 p hC1).2
                        refine g_aload_n cx dX6_fault_116 rfl ?_
                        refine g_getIN (i := (30, 0)) (ci := 6) (k := 13) (v := nI p) cx a30_0 rfl rfl rfl (by decide) inX6 lfX6_72 dX6_fault_117 (hR.2.1.2.1) ?_
                        refine g_aload_n cx dX6_fault_120 rfl ?_
                        refine g_getIN (i := (30, 0)) (ci := 6) (k := 3) (v := nI len) cx a30_0 rfl rfl rfl (by decide) inX6 lfX6_64 dX6_fault_121 (hR.1.1) ?_
                        refine g_icmp_geN (tgt := 194) cx dX6_fault_124 (by decide) (by omega) (by omega) (fun h_124 => ?_) (fun h_124 => ?_)
                        · skip
                          exact absurd h_124 (by omega)
                        · skip
                          refine g_aload_n cx dX6_fault_127 rfl ?_
                          refine g_getIN (i := (30, 0)) (ci := 6) (k := 14) (v := nI e) cx a30_0 rfl rfl rfl (by decide) inX6 lfX6_79 dX6_fault_128 (hR.2.1.2.2) ?_
                          refine g_aload_n cx dX6_fault_131 rfl ?_
                          refine g_getIN (i := (30, 0)) (ci := 6) (k := 13) (v := nI p) cx a30_0 rfl rfl rfl (by decide) inX6 lfX6_72 dX6_fault_132 (hR.2.1.2.1) ?_
                          refine g_isubN cx dX6_fault_135 (by omega) ?_
                          refine g_iconst (v := nI 1) cx dX6_fault_136 (by decide) ?_
                          refine g_icmp_neN (tgt := 167) cx dX6_fault_137 (by decide) (by omega) (by omega) (fun h_137 => ?_) (fun h_137 => ?_)
                          · skip
                            exact absurd hC2 (by omega)
                          · skip
                            refine g_aload_n cx dX6_fault_140 rfl ?_
                            refine g_getR (i := (30, 0)) (ci := 6) (k := 2) (j := (33, 0)) cx a30_0 rfl rfl rfl (by decide) inX6 lfX6_17 dX6_fault_141 ?_
                            refine g_aload_n cx dX6_fault_144 rfl ?_
                            refine g_getIN (i := (30, 0)) (ci := 6) (k := 13) (v := nI p) cx a30_0 rfl rfl rfl (by decide) inX6 lfX6_72 dX6_fault_145 (hR.2.1.2.1) ?_
                            refine g_ialdN (i := (33, 0)) (j := p) (v := nI (t p)) cx a33_0 rfl (rfl) (by omega) (by decide) dX6_fault_148 ((hR.1.2.2 p (by omega)).1) ?_
                            refine g_bipush (v := nI 59) cx dX6_fault_149 (by decide) ?_
                            refine g_icmp_neN (tgt := 167) cx dX6_fault_151 (by decide) (by omega) (by omega) (fun h_151 => ?_) (fun h_151 => ?_)
                            · skip
                              exact absurd hC2 (by omega)
                            · skip
                              refine g_aload_n cx dX6_fault_154 rfl ?_
                              refine g_getIN (i := (30, 0)) (ci := 6) (k := 5) (v := nI m) cx a30_0 rfl rfl rfl (by decide) inX6 lfX6_102 dX6_fault_155 (hR.2.2.2.2.1.1) ?_
                              refine g_bipush (v := nI 12) cx dX6_fault_158 (by decide) ?_
                              refine g_icmp_geN (tgt := 167) cx dX6_fault_160 (by decide) (by omega) (by omega) (fun h_160 => ?_) (fun h_160 => ?_)
                              · skip
                                exact absurd hC2 (by omega)
                              · skip
                                refine g_iconst (v := nI 1) cx dX6_fault_163 (by decide) ?_
                                refine g_goto (tgt := 168) cx dX6_fault_164 (by decide) ?_
                                refine g_istore_n (L' := [some (vr (30, 0)), some (vi (nI 1))]) cx dX6_fault_168 (by decide) rfl rfl ?_
                                refine g_iload_n cx dX6_fault_169 rfl ?_
                                refine g_if_eqN (tgt := 182) cx dX6_fault_170 (by decide) (by omega) (fun h_170 => ?_) (fun h_170 => ?_)
                                · skip
                                  exact absurd h_170 (by decide)
                                · skip
                                  refine g_aload_n cx dX6_fault_173 rfl ?_
                                  refine g_fcallVv (As := []) (rest := []) cx knX6_token (m_token hR.1 hR.2.1.1 hR.2.2.1.2.1) a30_0 rfl rfl lmX6_105 niX6_token seX6_token rfl (by decide) (Nat.le_of_ble_eq_true rfl) rfl dX6_fault_174 ?_
                                  obtain ⟨z9, rfl⟩ := hC3.pos
                                  rcases hC3 with ⟨p', e', hN9, hres⟩ | ⟨w, a, b, p', e', hY9, hC9⟩
                                  · skip
                                    refine g_aload_n cx dX6_fault_177 rfl ?_
                                    refine g_callV (As := []) (rest := []) cx knX6_readsLine (m_lineN (RK.tok hR) (by omega) hG hN9) a30_0 rfl rfl lmX6_156 niX6_readsLine seX6_readsLine rfl (by decide) (Nat.le_of_ble_eq_true rfl) rfl dX6_fault_178 (fun r0 E2 hp0 => ?_)
                                    obtain ⟨rfl, hR2⟩ := hp0
                                    show Gk X mX6_fault idsA 181 [some (vr (30, 0)), some (vi (nI 1))] [vi (nI 0)] E2
                                    refine g_istore_n (L' := [some (vr (30, 0)), some (vi (nI 0))]) cx dX6_fault_181 (by decide) rfl rfl ?_
                                    refine g_iload_n cx dX6_fault_182 rfl ?_
                                    refine g_if_neN (tgt := 191) cx dX6_fault_183 (by decide) (by omega) (fun h_183 => ?_) (fun h_183 => ?_)
                                    · skip
                                      exact absurd rfl h_183
                                    · skip
                                      refine g_aload_n cx dX6_fault_186 rfl ?_
                                      refine g_getIN (i := (30, 0)) (ci := 6) (k := 13) (v := nI p') cx a30_0 rfl rfl rfl (by decide) inX6 lfX6_72 dX6_fault_187 (hR2.2.1.2.1) ?_
                                      exact g_ret cx rq rfl (rfl) dX6_fault_190 ⟨by rw [hres]; rfl, hR2.2.2.2.2.2.2, fun R9 m9 rc9 h9 => by rw [hres] at h9; cases h9⟩
                                  · skip
                                    refine g_aload_n cx dX6_fault_177 rfl ?_
                                    refine g_callV (As := []) (rest := []) cx knX6_readsLine (m_lineY (RK.tok hR) (by omega) hG hY9) a30_0 rfl rfl lmX6_156 niX6_readsLine seX6_readsLine rfl (by decide) (Nat.le_of_ble_eq_true rfl) rfl dX6_fault_178 (fun r0 E2 hp0 => ?_)
                                    obtain ⟨rfl, hR2⟩ := hp0
                                    show Gk X mX6_fault idsA 181 [some (vr (30, 0)), some (vi (nI 1))] [vi (nI 1)] E2
                                    refine g_istore_n (L' := [some (vr (30, 0)), some (vi (nI 1))]) cx dX6_fault_181 (by decide) rfl rfl ?_
                                    refine g_iload_n cx dX6_fault_182 rfl ?_
                                    refine g_if_neN (tgt := 191) cx dX6_fault_183 (by decide) (by omega) (fun h_183 => ?_) (fun h_183 => ?_)
                                    · skip
                                      refine g_goto (tgt := 116) cx dX6_fault_191 (by decide) ?_
                                      refine g_drop 1 (L' := [some (vr (30, 0)), none]) rfl ?_
                                      exact ih z9 (goR R w a b) (m + 1) (fun q => if q = m then (w, a) else rr q) p' e' E2 (by omega) hR2 (hG.go hR.2.2.2.1.1 hY9) hC9
                                    · skip
                                      exact absurd h_183 (by decide)
                  refine g_drop 1 (L' := [some (vr (30, 0)), none]) rfl ?_
                  exact lp3 12 11 (goR (n, hm, f, dn, dr, pn) w a b) (0 + 1) (fun q => if q = 0 then (w, a) else rc q) p' e' E2 (by omega) hR2 (hG0.go hn3 hY9) hC9
                · skip
                  exact absurd h_108 (by decide)
            · skip
              refine g_aload_n cx dX6_fault_82 rfl ?_
              refine g_getR (i := (30, 0)) (ci := 6) (k := 18) (j := (40, 0)) cx a30_0 rfl rfl rfl (by decide) inX6 lfX6_42 dX6_fault_83 ?_
              refine g_iload_n cx dX6_fault_86 rfl ?_
              refine g_aload_n cx dX6_fault_87 rfl ?_
              refine g_getR (i := (30, 0)) (ci := 6) (k := 9) (j := (37, 0)) cx a30_0 rfl rfl rfl (by decide) inX6 lfX6_33 dX6_fault_88 ?_
              refine g_iload_n cx dX6_fault_91 rfl ?_
              refine g_iald (i := (37, 0)) (j := q2) cx a37_0 rfl (rfl) (by omega) (by decide) dX6_fault_92 ?_
              refine g_iast (i := (40, 0)) (j := q2) cx a40_0 rfl (rfl) (by omega) (by decide) dX6_fault_93 ?_
              refine g_iincN (L' := [some (vr (30, 0)), some (vi (nI (q2 + 1)))]) cx dX6_fault_94 rfl (by decide) rfl rfl ?_
              refine g_goto (tgt := 77) cx dX6_fault_97 (by decide) ?_
              exact ih (q2 + 1) (upA E (40, 0) (upd (E (40, 0)) q2 ((E (37, 0) q2)))) (by omega) (by omega) ((hI8.d hI9).1) ((hI8.d hI9).2)
        exact lp2 4 0 E (by omega) (by omega) hI (fun j hj => absurd hj (Nat.not_lt_zero j))
      · skip
        refine g_aload_n cx dX6_fault_42 rfl ?_
        refine g_getR (i := (30, 0)) (ci := 6) (k := 16) (j := (38, 0)) cx a30_0 rfl rfl rfl (by decide) inX6 lfX6_36 dX6_fault_43 ?_
        refine g_iload_n cx dX6_fault_46 rfl ?_
        refine g_aload_n cx dX6_fault_47 rfl ?_
        refine g_getR (i := (30, 0)) (ci := 6) (k := 0) (j := (31, 0)) cx a30_0 rfl rfl rfl (by decide) inX6 lfX6_7 dX6_fault_48 ?_
        refine g_bipush (v := nI 56) cx dX6_fault_51 (by decide) ?_
        refine g_iload_n cx dX6_fault_53 rfl ?_
        refine g_iaddN cx dX6_fault_54 ?_
        refine g_iald (i := (31, 0)) (j := 56 + q) cx a31_0 rfl (rfl) (by omega) (by decide) dX6_fault_55 ?_
        refine g_iast (i := (38, 0)) (j := q) cx a38_0 rfl (rfl) (by omega) (by decide) dX6_fault_56 ?_
        refine g_aload_n cx dX6_fault_57 rfl ?_
        refine g_getR (i := (30, 0)) (ci := 6) (k := 17) (j := (39, 0)) cx a30_0 rfl rfl rfl (by decide) inX6 lfX6_39 dX6_fault_58 ?_
        refine g_iload_n cx dX6_fault_61 rfl ?_
        refine g_aload_n cx dX6_fault_62 rfl ?_
        refine g_getR (i := (30, 0)) (ci := 6) (k := 8) (j := (36, 0)) cx a30_0 rfl rfl rfl (by decide) inX6 lfX6_30 dX6_fault_63 ?_
        refine g_iload_n cx dX6_fault_66 rfl ?_
        refine g_iald (i := (36, 0)) (j := q) cx a36_0 rfl (rfl) (by omega) (by decide) dX6_fault_67 ?_
        refine g_iast (i := (39, 0)) (j := q) cx a39_0 rfl (rfl) (by omega) (by decide) dX6_fault_68 ?_
        refine g_iincN (L' := [some (vr (30, 0)), some (vi (nI (q + 1)))]) cx dX6_fault_69 rfl (by decide) rfl rfl ?_
        refine g_goto (tgt := 36) cx dX6_fault_72 (by decide) ?_
        exact ih (q + 1) (upA (upA E (38, 0) (upd (E (38, 0)) q ((E (31, 0) (56 + q))))) (39, 0) (upd ((upA E (38, 0) (upd (E (38, 0)) q ((E (31, 0) (56 + q))))) (39, 0)) q (((upA E (38, 0) (upd (E (38, 0)) q ((E (31, 0) (56 + q))))) (36, 0) q)))) (by omega) (by omega) hI.s
  exact lp1 9 0 E (by omega) (by omega) hI0
