set_option maxRecDepth 100000 in
set_option maxHeartbeats 4000000 in
theorem m_stepsBy {D : Wd} {n : Nat} {k f : Nat → Nat} {dn : Nat} {dr : Nat → Nat} {pn : Nat} (hP : PM D n k f dn dr pn) {a : Nat → Nat} (hA : AM D 0 n a) {c : Nat} {ch : Nat → Nat} (hC : CH D c ch) (hc6 : c < 6) (hcn : ∀ q, q < c → ch q < n) {v i : Nat} (hv : v < fct c) (hi : i < n) : Mok mX6_stepsBy idsA 7 [vr (30, 0), vi (nI v), vi (nI i)] D (fun r' E' => r' = (some (vi (opI (stI (stG n k f dn dr i (rwR ch c v) a c))))) ∧ TU D E') := by
  obtain ⟨hn3, hn8, hN, hK, hF, hd3, hDn, hDr, hp5, hPn⟩ := id hP
  have hf9 := fct_lt c hc6
  refine Mok.of (L := [some (vr (30, 0)), some (vi (nI v)), some (vi (nI i)), none, none, none]) rfl (fun _ => Nat.le_of_ble_eq_true rfl) (fun _ => rfl) (fun X cx rq => ?_)
  refine g_aload_n cx dX6_stepsBy_0 rfl ?_
  refine g_iconst (v := nI 0) cx dX6_stepsBy_1 (by decide) ?_
  refine g_bipush (v := nI 42) cx dX6_stepsBy_2 (by decide) ?_
  refine g_fcallVv (As := [vi (nI 0), vi (nI 42)]) (rest := []) cx knX6_copy (m_copy (fr := 0) (to := 42) (by omega) (by omega) (by omega)) a30_0 rfl rfl lmX6_170 niX6_copy seX6_copy rfl (by decide) (Nat.le_of_ble_eq_true rfl) rfl dX6_stepsBy_4 ?_
  refine g_iconst (v := nI 0) cx dX6_stepsBy_7 (by decide) ?_
  refine g_istore_n (L' := [some (vr (30, 0)), some (vi (nI v)), some (vi (nI i)), some (vi (nI 0)), none, none]) cx dX6_stepsBy_8 (by decide) rfl rfl ?_
  refine g_iconst (v := nI 0) cx dX6_stepsBy_9 (by decide) ?_
  refine g_istore (L' := [some (vr (30, 0)), some (vi (nI v)), some (vi (nI i)), some (vi (nI 0)), some (vi (nI 0)), none]) cx dX6_stepsBy_10 (by decide) rfl rfl ?_
  have lp : ∀ (fu : Nat) (q : Nat) (E : Wd) (ss : Nat) (bb : Nat → Nat), c - q < fu → (q ≤ c) → (TU D E) → (AM E 42 n bb) → (stG n k f dn dr i (rwR ch c v) a q = some (ss, bb)) → Gk X mX6_stepsBy idsA 12 [some (vr (30, 0)), some (vi (nI v)), some (vi (nI i)), some (vi (nI ss)), some (vi (nI q)), none] [] E := by
    intro fu
    induction fu with
    | zero => intro q E ss bb hfu; exact absurd hfu (Nat.not_lt_zero _)
    | succ fu ih =>
      intro q E ss bb hfu hq hT hAe hst
      have hCE := hC.U hT
      have hs8 := stG_le q ss bb hst
      refine g_iload cx dX6_stepsBy_12 rfl ?_
      refine g_aload_n cx dX6_stepsBy_14 rfl ?_
      refine g_getIN (i := (30, 0)) (ci := 6) (k := 22) (v := nI c) cx a30_0 rfl rfl rfl (by decide) inX6 lfX6_233 dX6_stepsBy_15 (hCE.1) ?_
      refine g_icmp_geN (tgt := 54) cx dX6_stepsBy_18 (by decide) (by omega) (by omega) (fun h_18 => ?_) (fun h_18 => ?_)
      · skip
        have e9 : q = c := by omega
        refine g_iload_n cx dX6_stepsBy_54 rfl ?_
        exact g_ret cx rq rfl (rfl) dX6_stepsBy_55 ⟨by have h9 := hst; rw [e9] at h9; rw [h9]; rfl, hT⟩
      · skip
        refine g_aload_n cx dX6_stepsBy_21 rfl ?_
        refine g_iload_n cx dX6_stepsBy_22 rfl ?_
        refine g_aload_n cx dX6_stepsBy_23 rfl ?_
        refine g_iload_n cx dX6_stepsBy_24 rfl ?_
        refine g_iload cx dX6_stepsBy_25 rfl ?_
        refine g_fcallV (As := [vi (nI v), vi (nI q)]) (rest := [vi (nI i), vr (30, 0)]) cx knX6_rowOf (m_rowOf hCE.1 hc6 hCE.2 (v := v) (i := q) hv (by omega)) a30_0 rfl rfl lmX6_242 niX6_rowOf seX6_rowOf rfl (by decide) (Nat.le_of_ble_eq_true rfl) rfl dX6_stepsBy_27 ?_
        refine g_callV (As := [vi (nI i), vi (nI (rwR ch c v q))]) (rest := []) cx knX6_errandTo (m_errandTo (hT.P hP) hAe hi (hcn _ (rwS_ok hc6 hv (show q < c by omega)).2.2.2.2)) a30_0 rfl rfl lmX6_245 niX6_errandTo seX6_errandTo rfl (by decide) (Nat.le_of_ble_eq_true rfl) rfl dX6_stepsBy_30 (fun r0 E2 hp0 => ?_)
        obtain ⟨rfl, hT2, hA2⟩ := hp0
        show Gk X mX6_stepsBy idsA 33 [some (vr (30, 0)), some (vi (nI v)), some (vi (nI i)), some (vi (nI ss)), some (vi (nI q)), none] [vi (opI (erG n k f dn dr i (rwR ch c v q) bb).1)] E2
        refine g_istore (L' := [some (vr (30, 0)), some (vi (nI v)), some (vi (nI i)), some (vi (nI ss)), some (vi (nI q)), some (vi (opI (erG n k f dn dr i (rwR ch c v q) bb).1))]) cx dX6_stepsBy_33 (by decide) rfl rfl ?_
        rcases her : (erG n k f dn dr i (rwR ch c v q) bb).1 with _ | t
        · skip
          refine g_loc (L' := [some (vr (30, 0)), some (vi (nI v)), some (vi (nI i)), some (vi (nI ss)), some (vi (nI q)), some (vi (-1))]) (by rfl) ?_
          refine g_iload cx dX6_stepsBy_35 rfl ?_
          refine g_iconst (v := (-1)) cx dX6_stepsBy_37 (by decide) ?_
          refine g_icmp_ne (tgt := 43) cx dX6_stepsBy_38 (by decide) (fun h_38 => ?_) (fun h_38 => ?_)
          · skip
            exact absurd rfl h_38
          · skip
            refine g_iconst (v := (-1)) cx dX6_stepsBy_41 (by decide) ?_
            exact g_ret cx rq rfl (rfl) dX6_stepsBy_42 ⟨by rw [stG_none (q := q + 1) (by rw [stG, hst]; simp only [her]) (by omega)]; rfl, hT.trans hT2.U⟩
        · skip
          have ht7 := erG_le her
          have hs7 := stG_le q ss bb hst
          refine g_loc (L' := [some (vr (30, 0)), some (vi (nI v)), some (vi (nI i)), some (vi (nI ss)), some (vi (nI q)), some (vi (nI t))]) (by rfl) ?_
          refine g_iload cx dX6_stepsBy_35 rfl ?_
          refine g_iconst (v := (-1)) cx dX6_stepsBy_37 (by decide) ?_
          refine g_icmp_ne (tgt := 43) cx dX6_stepsBy_38 (by decide) (fun h_38 => ?_) (fun h_38 => ?_)
          · skip
            refine g_iload_n cx dX6_stepsBy_43 rfl ?_
            refine g_iload cx dX6_stepsBy_44 rfl ?_
            refine g_iaddN cx dX6_stepsBy_46 ?_
            refine g_istore_n (L' := [some (vr (30, 0)), some (vi (nI v)), some (vi (nI i)), some (vi (nI (ss + t))), some (vi (nI q)), some (vi (nI t))]) cx dX6_stepsBy_47 (by decide) rfl rfl ?_
            refine g_iincN (L' := [some (vr (30, 0)), some (vi (nI v)), some (vi (nI i)), some (vi (nI (ss + t))), some (vi (nI (q + 1))), some (vi (nI t))]) cx dX6_stepsBy_48 rfl (by decide) rfl rfl ?_
            refine g_goto (tgt := 12) cx dX6_stepsBy_51 (by decide) ?_
            refine g_drop 5 (L' := [some (vr (30, 0)), some (vi (nI v)), some (vi (nI i)), some (vi (nI (ss + t))), some (vi (nI (q + 1))), none]) rfl ?_
            exact ih (q + 1) E2 (ss + t) ((erG n k f dn dr i (rwR ch c v q) bb).2) (by omega) (by omega) (hT.trans hT2.U) hA2 (by rw [stG, hst]; simp only [her])
          · skip
            exact absurd h_38 (m1_ne (by omega))
  exact lp (c + 1) 0 (upA D (31, 0) (cpR (D (31, 0)) 0 42 14)) 0 a (by omega) (by omega) (TU.cp D) (cp_A hn8 hA) rfl

set_option maxRecDepth 100000 in
set_option maxHeartbeats 4000000 in
theorem m_errands {D : Wd} {n : Nat} {k f : Nat → Nat} {dn : Nat} {dr : Nat → Nat} {pn : Nat} (hP : PM D n k f dn dr pn) {a : Nat → Nat} (hA : AM D 0 n a) (x y z : Int32) : Mok mX6_errands idsA 8 [vr (30, 0), vi x, vi y, vi z] D (fun r' E' => r' = (some (vi (erS n k f dn dr a x y z))) ∧ TV D E') := by
  obtain ⟨hn3, hn8, hN, hK, hF, hd3, hDn, hDr, hp5, hPn⟩ := id hP
  have hp2 := pow_c n (by omega)
  refine Mok.of (L := [some (vr (30, 0)), some (vi x), some (vi y), some (vi z), none, none, none, none, none]) rfl (fun _ => Nat.le_of_ble_eq_true rfl) (fun _ => rfl) (fun X cx rq => ?_)
  refine g_iload_n cx dX6_errands_0 rfl ?_
  refine g_i2l cx dX6_errands_1 ?_
  refine g_lconst (v := 0) cx dX6_errands_2 (by decide) ?_
  refine g_iconst (v := nI 1) cx dX6_errands_3 (by decide) ?_
  refine g_aload_n cx dX6_errands_4 rfl ?_
  refine g_getIN (i := (30, 0)) (ci := 6) (k := 6) (v := nI n) cx a30_0 rfl rfl rfl (by decide) inX6 lfX6_23 dX6_errands_5 (hN) ?_
  refine g_ishl cx dX6_errands_8 ?_
  refine g_iconst (v := nI 1) cx dX6_errands_9 (by decide) ?_
  refine g_isub cx dX6_errands_10 ?_
  refine g_top (shl_c n (by omega)) ?_
  refine g_i2l cx dX6_errands_11 ?_
  refine g_fcallS (As := [vl x.toInt64, vl 0, vl ((nI (2 ^ n - 1)).toInt64)]) (rest := []) cx knX6_in (m_in x.toInt64 0 ((nI (2 ^ n - 1)).toInt64)) lmX6_60 nsX6_in rfl (by decide) (Nat.le_of_ble_eq_true rfl) rfl dX6_errands_12 ?_
  refine g_top (bi_iff (in_iff (n := 2 ^ n) (Nat.pow_pos (by decide)) (by omega))) ?_
  refine g_if_eqB (tgt := 26) cx dX6_errands_15 (by decide) (fun h_15 => ?_) (fun h_15 => ?_)
  · skip
    refine g_bipush (v := (-2)) cx dX6_errands_26 (by decide) ?_
    exact g_ret cx rq rfl (rfl) dX6_errands_28 ⟨by simp [erS, eq_false h_15], TV.refl D⟩
  · skip
    obtain ⟨v, hv, rfl⟩ := lt0_nI h_15
    have hvx : (nI v).toNatClampNeg = v := nI_clamp (by omega)
    have hvi : ix (nI v) = v := hvx
    refine g_aload_n cx dX6_errands_18 rfl ?_
    refine g_iload_n cx dX6_errands_19 rfl ?_
    refine g_fcallV (As := [vi y]) (rest := []) cx knX6_isLeaf (m_isLeaf hP y) a30_0 rfl rfl lmX6_183 niX6_isLeaf seX6_isLeaf rfl (by decide) (Nat.le_of_ble_eq_true rfl) rfl dX6_errands_20 ?_
    refine g_if_neB (tgt := 29) cx dX6_errands_23 (by decide) (fun h_23 => ?_) (fun h_23 => ?_)
    · skip
      obtain ⟨j, hj, rfl⟩ := lt0_nI h_23
      have hjx : (nI j).toNatClampNeg = j := nI_clamp (by omega)
      have hji : ix (nI j) = j := hjx
      refine g_iload_n cx dX6_errands_29 rfl ?_
      refine g_iconst (v := (-1)) cx dX6_errands_30 (by decide) ?_
      refine g_icmp_ge (tgt := 37) cx dX6_errands_31 (by decide) (fun h_31 => ?_) (fun h_31 => ?_)
      · skip
        refine g_iload_n cx dX6_errands_37 rfl ?_
        refine g_fcallS (As := [vi (nI v)]) (rest := []) cx knX6_bits (m_bits (v := v) (by omega)) lmX6_224 nsX6_bits rfl (by decide) (Nat.le_of_ble_eq_true rfl) rfl dX6_errands_38 ?_
        refine g_iconst (v := nI 5) cx dX6_errands_41 (by decide) ?_
        have hc8 := cntN_le (fun p => v.testBit p) 8
        refine g_icmp_leN (tgt := 48) cx dX6_errands_42 (by decide) (by omega) (by omega) (fun h_42 => ?_) (fun h_42 => ?_)
        · skip
          have hc5 := cnt5 v n hn8
          have hf120 := fct_lt (cntN (fun p => v.testBit p) n) (by omega)
          have hnn : cntN (fun p => v.testBit p) n ≤ n := cntN_le _ n
          refine g_aload_n cx dX6_errands_48 rfl ?_
          refine g_iconst (v := nI 0) cx dX6_errands_49 (by decide) ?_
          refine g_putI (i := (30, 0)) (ci := 6) (k := 22) cx a30_0 rfl rfl rfl (by decide) inX6 tyX6_ok nmX6 rfl rfl lfX6_233 dX6_errands_50 ?_
          refine g_iconst (v := nI 1) cx dX6_errands_53 (by decide) ?_
          refine g_istore (L' := [some (vr (30, 0)), some (vi (nI v)), some (vi (nI j)), some (vi z), some (vi (nI 1)), none, none, none, none]) cx dX6_errands_54 (by decide) rfl rfl ?_
          refine g_iconst (v := nI 0) cx dX6_errands_56 (by decide) ?_
          refine g_istore (L' := [some (vr (30, 0)), some (vi (nI v)), some (vi (nI j)), some (vi z), some (vi (nI 1)), some (vi (nI 0)), none, none, none]) cx dX6_errands_57 (by decide) rfl rfl ?_
          have lp1 : ∀ (fu : Nat) (q : Nat) (E : Wd), n - q < fu → (q ≤ n) → (TV D E) → (CH E (cntN (fun p => v.testBit p) q) (chG v q)) → Gk X mX6_errands idsA 59 [some (vr (30, 0)), some (vi (nI v)), some (vi (nI j)), some (vi z), some (vi (nI (fct (cntN (fun p => v.testBit p) q)))), some (vi (nI q)), none, none, none] [] E := by
            intro fu
            induction fu with
            | zero => intro q E hfu; exact absurd hfu (Nat.not_lt_zero _)
            | succ fu ih =>
              intro q E hfu hq hV hCE
              have hcq5 := cntN_mono (fun p => v.testBit p) hq
              have hfq := fct_lt (cntN (fun p => v.testBit p) q) (by omega)
              refine g_iload cx dX6_errands_59 rfl ?_
              refine g_aload_n cx dX6_errands_61 rfl ?_
              refine g_getIN (i := (30, 0)) (ci := 6) (k := 6) (v := nI n) cx a30_0 rfl rfl rfl (by decide) inX6 lfX6_23 dX6_errands_62 ((hV.2.1 6 (by decide)).trans hN) ?_
              refine g_icmp_geN (tgt := 113) cx dX6_errands_65 (by decide) (by omega) (by omega) (fun h_65 => ?_) (fun h_65 => ?_)
              · skip
                have e9 : q = n := by omega
                refine g_loc (L' := [some (vr (30, 0)), some (vi (nI v)), some (vi (nI j)), some (vi z), some (vi (nI (fct (cntN (fun p => v.testBit p) n)))), some (vi (nI q)), none, none, none]) (by rw [e9]) ?_
                have hCF : CH E (cntN (fun p => v.testBit p) n) (chG v n) := by rw [← e9]; exact hCE
                have hcle : ∀ q t, q < fct (cntN (fun p => v.testBit p) n) → (erC n k f dn dr a j v (cntN (fun p => v.testBit p) n)) q = some t → t ≤ 360 := fun q t _ h => by have := erC_le h; omega
                refine g_iconst (v := (-1)) cx dX6_errands_113 (by decide) ?_
                refine g_istore (L' := [some (vr (30, 0)), some (vi (nI v)), some (vi (nI j)), some (vi z), some (vi (nI (fct (cntN (fun p => v.testBit p) n)))), some (vi (-1)), none, none, none]) cx dX6_errands_114 (by decide) rfl rfl ?_
                refine g_ldc (v := 268435456) cx lcX6_248 dX6_errands_116 ?_
                refine g_istore (L' := [some (vr (30, 0)), some (vi (nI v)), some (vi (nI j)), some (vi z), some (vi (nI (fct (cntN (fun p => v.testBit p) n)))), some (vi (-1)), some (vi 268435456), none, none]) cx dX6_errands_118 (by decide) rfl rfl ?_
                refine g_iconst (v := nI 0) cx dX6_errands_120 (by decide) ?_
                refine g_istore (L' := [some (vr (30, 0)), some (vi (nI v)), some (vi (nI j)), some (vi z), some (vi (nI (fct (cntN (fun p => v.testBit p) n)))), some (vi (-1)), some (vi 268435456), some (vi (nI 0)), none]) cx dX6_errands_121 (by decide) rfl rfl ?_
                have lp2 : ∀ (fu : Nat) (u : Nat) (F : Wd), fct (cntN (fun p => v.testBit p) n) - u < fu → (u ≤ fct (cntN (fun p => v.testBit p) n)) → (TV D F) → (CH F (cntN (fun p => v.testBit p) n) (chG v n)) → Gk X mX6_errands idsA 123 [some (vr (30, 0)), some (vi (nI v)), some (vi (nI j)), some (vi z), some (vi (nI (fct (cntN (fun p => v.testBit p) n)))), some (vi (opI (ebG (erC n k f dn dr a j v (cntN (fun p => v.testBit p) n)) u).1)), some (vi (nI ((ebG (erC n k f dn dr a j v (cntN (fun p => v.testBit p) n)) u).2))), some (vi (nI u)), none] [] F := by
                  intro fu
                  induction fu with
                  | zero => intro u F hfu; exact absurd hfu (Nat.not_lt_zero _)
                  | succ fu ih =>
                    intro u F hfu hu hVF hCF
                    have heb := (ebG_ok (cost := (erC n k f dn dr a j v (cntN (fun p => v.testBit p) n))) (B := 360) (by decide) u (fun q t hq h => hcle q t (by omega) h)).1
                    refine g_iload cx dX6_errands_123 rfl ?_
                    refine g_iload cx dX6_errands_125 rfl ?_
                    refine g_icmp_geN (tgt := 166) cx dX6_errands_127 (by decide) (by omega) (by omega) (fun h_127 => ?_) (fun h_127 => ?_)
                    · skip
                      have e8 : u = fct (cntN (fun p => v.testBit p) n) := by omega
                      refine g_loc (L' := [some (vr (30, 0)), some (vi (nI v)), some (vi (nI j)), some (vi z), some (vi (nI (fct (cntN (fun p => v.testBit p) n)))), some (vi (opI (ebG (erC n k f dn dr a j v (cntN (fun p => v.testBit p) n)) (fct (cntN (fun p => v.testBit p) n))).1)), some (vi (nI ((ebG (erC n k f dn dr a j v (cntN (fun p => v.testBit p) n)) (fct (cntN (fun p => v.testBit p) n))).2))), some (vi (nI u)), none]) (by rw [e8]) ?_
                      rcases hbs : (ebG (erC n k f dn dr a j v (cntN (fun p => v.testBit p) n)) (fct (cntN (fun p => v.testBit p) n))).1 with _ | bb
                      · skip
                        refine g_loc (L' := [some (vr (30, 0)), some (vi (nI v)), some (vi (nI j)), some (vi z), some (vi (nI (fct (cntN (fun p => v.testBit p) n)))), some (vi (-1)), some (vi (nI ((ebG (erC n k f dn dr a j v (cntN (fun p => v.testBit p) n)) (fct (cntN (fun p => v.testBit p) n))).2))), some (vi (nI u)), none]) (by rfl) ?_
                        refine g_iload cx dX6_errands_166 rfl ?_
                        refine g_iconst (v := (-1)) cx dX6_errands_168 (by decide) ?_
                        refine g_icmp_ne (tgt := 176) cx dX6_errands_169 (by decide) (fun h_169 => ?_) (fun h_169 => ?_)
                        · skip
                          exact absurd rfl h_169
                        · skip
                          refine g_iconst (v := (-1)) cx dX6_errands_172 (by decide) ?_
                          refine g_goto (tgt := 205) cx dX6_errands_173 (by decide) ?_
                          exact g_ret cx rq rfl (rfl) dX6_errands_205 ⟨by rw [erS, if_pos (by rw [h_15, h_23]; rfl), if_neg (Int32.not_lt.mpr h_31), if_neg (by rw [hvi]; exact Nat.not_lt.mpr h_42)]; simp only [hvi, hji, hbs], hVF⟩
                      · skip
                        have hb9 := (ebG_ok (B := 360) (by decide) (fct (cntN (fun p => v.testBit p) n)) hcle).2 bb hbs
                        refine g_loc (L' := [some (vr (30, 0)), some (vi (nI v)), some (vi (nI j)), some (vi z), some (vi (nI (fct (cntN (fun p => v.testBit p) n)))), some (vi (nI bb)), some (vi (nI ((ebG (erC n k f dn dr a j v (cntN (fun p => v.testBit p) n)) (fct (cntN (fun p => v.testBit p) n))).2))), some (vi (nI u)), none]) (by rfl) ?_
                        refine g_iload cx dX6_errands_166 rfl ?_
                        refine g_iconst (v := (-1)) cx dX6_errands_168 (by decide) ?_
                        refine g_icmp_ne (tgt := 176) cx dX6_errands_169 (by decide) (fun h_169 => ?_) (fun h_169 => ?_)
                        · skip
                          refine g_iload_n cx dX6_errands_176 rfl ?_
                          refine g_iconst (v := (-1)) cx dX6_errands_177 (by decide) ?_
                          refine g_icmp_ne (tgt := 186) cx dX6_errands_178 (by decide) (fun h_178 => ?_) (fun h_178 => ?_)
                          · skip
                            obtain ⟨zz, hz31, hze⟩ := z_nI h_31 h_178
                            have hzx : z.toNatClampNeg = zz := by rw [hze]; exact nI_clamp hz31
                            have hzi : ix z = zz := hzx
                            refine g_loc (L' := [some (vr (30, 0)), some (vi (nI v)), some (vi (nI j)), some (vi (nI zz)), some (vi (nI (fct (cntN (fun p => v.testBit p) n)))), some (vi (nI bb)), some (vi (nI ((ebG (erC n k f dn dr a j v (cntN (fun p => v.testBit p) n)) (fct (cntN (fun p => v.testBit p) n))).2))), some (vi (nI u)), none]) (by rw [hze]) ?_
                            refine g_iload_n cx dX6_errands_186 rfl ?_
                            refine g_aload_n cx dX6_errands_187 rfl ?_
                            refine g_getIN (i := (30, 0)) (ci := 6) (k := 22) (v := nI (cntN (fun p => v.testBit p) n)) cx a30_0 rfl rfl rfl (by decide) inX6 lfX6_233 dX6_errands_188 (hCF.1) ?_
                            refine g_icmp_geN (tgt := 204) cx dX6_errands_191 (by decide) (by omega) (by omega) (fun h_191 => ?_) (fun h_191 => ?_)
                            · skip
                              have h_191b : ¬ nI zz < nI (cntN (fun p => v.testBit p) n) := nI_nlt h_191 hz31
                              refine g_iconst (v := (-1)) cx dX6_errands_204 (by decide) ?_
                              exact g_ret cx rq rfl (rfl) dX6_errands_205 ⟨by rw [erS, if_pos (by rw [h_15, h_23]; rfl), if_neg (Int32.not_lt.mpr h_31), if_neg (by rw [hvi]; exact Nat.not_lt.mpr h_42)]; simp only [hvi, hji, hbs]; rw [if_neg h_178, if_neg (by rw [hze]; exact h_191b)], hVF⟩
                            · skip
                              have h_191b : nI zz < nI (cntN (fun p => v.testBit p) n) := nI_lt h_191 (by omega)
                              refine g_aload_n cx dX6_errands_194 rfl ?_
                              refine g_iload cx dX6_errands_195 rfl ?_
                              refine g_iload_n cx dX6_errands_197 rfl ?_
                              refine g_fcallV (As := [vi (nI bb), vi (nI zz)]) (rest := []) cx knX6_rowOf (m_rowOf hCF.1 (by omega) hCF.2 (v := bb) (i := zz) hb9 (by omega)) a30_0 rfl rfl lmX6_242 niX6_rowOf seX6_rowOf rfl (by decide) (Nat.le_of_ble_eq_true rfl) rfl dX6_errands_198 ?_
                              refine g_goto (tgt := 205) cx dX6_errands_201 (by decide) ?_
                              exact g_ret cx rq rfl (rfl) dX6_errands_205 ⟨by rw [erS, if_pos (by rw [h_15, h_23]; rfl), if_neg (Int32.not_lt.mpr h_31), if_neg (by rw [hvi]; exact Nat.not_lt.mpr h_42)]; simp only [hvi, hji, hbs]; rw [if_neg h_178, if_pos (by rw [hze]; exact h_191b), hzi], hVF⟩
                          · skip
                            refine g_iload cx dX6_errands_181 rfl ?_
                            refine g_goto (tgt := 205) cx dX6_errands_183 (by decide) ?_
                            exact g_ret cx rq rfl (rfl) dX6_errands_205 ⟨by rw [erS, if_pos (by rw [h_15, h_23]; rfl), if_neg (Int32.not_lt.mpr h_31), if_neg (by rw [hvi]; exact Nat.not_lt.mpr h_42)]; simp only [hvi, hji, hbs]; rw [if_pos h_178], hVF⟩
                        · skip
                          exact absurd h_169 (m1_ne (by omega))
                    · skip
                      refine g_aload_n cx dX6_errands_130 rfl ?_
                      refine g_iload cx dX6_errands_131 rfl ?_
                      refine g_iload_n cx dX6_errands_133 rfl ?_
                      refine g_callV (As := [vi (nI u), vi (nI j)]) (rest := []) cx knX6_stepsBy (m_stepsBy (hVF.P hP) (hVF.A hn8 hA) hCF (by omega) (fun q hq => chG_lt n q hq) (v := u) (i := j) (by omega) (by omega)) a30_0 rfl rfl lmX6_249 niX6_stepsBy seX6_stepsBy rfl (by decide) (Nat.le_of_ble_eq_true rfl) rfl dX6_errands_134 (fun r0 E3 hp0 => ?_)
                      obtain ⟨rfl, hU3⟩ := hp0
                      show Gk X mX6_errands idsA 137 [some (vr (30, 0)), some (vi (nI v)), some (vi (nI j)), some (vi z), some (vi (nI (fct (cntN (fun p => v.testBit p) n)))), some (vi (opI (ebG (erC n k f dn dr a j v (cntN (fun p => v.testBit p) n)) u).1)), some (vi (nI ((ebG (erC n k f dn dr a j v (cntN (fun p => v.testBit p) n)) u).2))), some (vi (nI u)), none] [vi (opI (stI (stG n k f dn dr j (rwR (chG v n) (cntN (fun p => v.testBit p) n) u) a (cntN (fun p => v.testBit p) n))))] E3
                      refine g_istore (L' := [some (vr (30, 0)), some (vi (nI v)), some (vi (nI j)), some (vi z), some (vi (nI (fct (cntN (fun p => v.testBit p) n)))), some (vi (opI (ebG (erC n k f dn dr a j v (cntN (fun p => v.testBit p) n)) u).1)), some (vi (nI ((ebG (erC n k f dn dr a j v (cntN (fun p => v.testBit p) n)) u).2))), some (vi (nI u)), some (vi (opI (stI (stG n k f dn dr j (rwR (chG v n) (cntN (fun p => v.testBit p) n) u) a (cntN (fun p => v.testBit p) n)))))]) cx dX6_errands_137 (by decide) rfl rfl ?_
                      rcases hct : (erC n k f dn dr a j v (cntN (fun p => v.testBit p) n)) u with _ | t
                      · skip
                        refine g_loc (L' := [some (vr (30, 0)), some (vi (nI v)), some (vi (nI j)), some (vi z), some (vi (nI (fct (cntN (fun p => v.testBit p) n)))), some (vi (opI (ebG (erC n k f dn dr a j v (cntN (fun p => v.testBit p) n)) u).1)), some (vi (nI ((ebG (erC n k f dn dr a j v (cntN (fun p => v.testBit p) n)) u).2))), some (vi (nI u)), some (vi (-1))]) (by rw [show stI (stG n k f dn dr j (rwR (chG v n) (cntN (fun p => v.testBit p) n) u) a (cntN (fun p => v.testBit p) n)) = _ from hct]; rfl) ?_
                        refine g_iload cx dX6_errands_139 rfl ?_
                        refine g_iconst (v := (-1)) cx dX6_errands_141 (by decide) ?_
                        refine g_icmp_eq (tgt := 160) cx dX6_errands_142 (by decide) (fun h_142 => ?_) (fun h_142 => ?_)
                        · skip
                          refine g_drop 8 (L' := [some (vr (30, 0)), some (vi (nI v)), some (vi (nI j)), some (vi z), some (vi (nI (fct (cntN (fun p => v.testBit p) n)))), some (vi (opI (ebG (erC n k f dn dr a j v (cntN (fun p => v.testBit p) n)) u).1)), some (vi (nI ((ebG (erC n k f dn dr a j v (cntN (fun p => v.testBit p) n)) u).2))), some (vi (nI u)), none]) rfl ?_
                          refine g_loc (L' := [some (vr (30, 0)), some (vi (nI v)), some (vi (nI j)), some (vi z), some (vi (nI (fct (cntN (fun p => v.testBit p) n)))), some (vi (opI (ebG (erC n k f dn dr a j v (cntN (fun p => v.testBit p) n)) (u + 1)).1)), some (vi (nI ((ebG (erC n k f dn dr a j v (cntN (fun p => v.testBit p) n)) (u + 1)).2))), some (vi (nI u)), none]) (by rw [ebG, hct]) ?_
                          refine g_iincN (L' := [some (vr (30, 0)), some (vi (nI v)), some (vi (nI j)), some (vi z), some (vi (nI (fct (cntN (fun p => v.testBit p) n)))), some (vi (opI (ebG (erC n k f dn dr a j v (cntN (fun p => v.testBit p) n)) (u + 1)).1)), some (vi (nI ((ebG (erC n k f dn dr a j v (cntN (fun p => v.testBit p) n)) (u + 1)).2))), some (vi (nI (u + 1))), none]) cx dX6_errands_160 rfl (by decide) rfl rfl ?_
                          refine g_goto (tgt := 123) cx dX6_errands_163 (by decide) ?_
                          exact ih (u + 1) E3 (by omega) (by omega) (hVF.U hU3) (hCF.U hU3)
                        · skip
                          exact absurd rfl h_142
                      · skip
                        have ht7 := erC_le hct
                        refine g_loc (L' := [some (vr (30, 0)), some (vi (nI v)), some (vi (nI j)), some (vi z), some (vi (nI (fct (cntN (fun p => v.testBit p) n)))), some (vi (opI (ebG (erC n k f dn dr a j v (cntN (fun p => v.testBit p) n)) u).1)), some (vi (nI ((ebG (erC n k f dn dr a j v (cntN (fun p => v.testBit p) n)) u).2))), some (vi (nI u)), some (vi (nI t))]) (by rw [show stI (stG n k f dn dr j (rwR (chG v n) (cntN (fun p => v.testBit p) n) u) a (cntN (fun p => v.testBit p) n)) = _ from hct]; rfl) ?_
                        refine g_iload cx dX6_errands_139 rfl ?_
                        refine g_iconst (v := (-1)) cx dX6_errands_141 (by decide) ?_
                        refine g_icmp_eq (tgt := 160) cx dX6_errands_142 (by decide) (fun h_142 => ?_) (fun h_142 => ?_)
                        · skip
                          exact absurd h_142 (m1_ne (by omega))
                        · skip
                          refine g_iload cx dX6_errands_145 rfl ?_
                          refine g_iload cx dX6_errands_147 rfl ?_
                          refine g_icmp_geN (tgt := 160) cx dX6_errands_149 (by decide) (by omega) (by omega) (fun h_149 => ?_) (fun h_149 => ?_)
                          · skip
                            refine g_drop 8 (L' := [some (vr (30, 0)), some (vi (nI v)), some (vi (nI j)), some (vi z), some (vi (nI (fct (cntN (fun p => v.testBit p) n)))), some (vi (opI (ebG (erC n k f dn dr a j v (cntN (fun p => v.testBit p) n)) u).1)), some (vi (nI ((ebG (erC n k f dn dr a j v (cntN (fun p => v.testBit p) n)) u).2))), some (vi (nI u)), none]) rfl ?_
                            refine g_loc (L' := [some (vr (30, 0)), some (vi (nI v)), some (vi (nI j)), some (vi z), some (vi (nI (fct (cntN (fun p => v.testBit p) n)))), some (vi (opI (ebG (erC n k f dn dr a j v (cntN (fun p => v.testBit p) n)) (u + 1)).1)), some (vi (nI ((ebG (erC n k f dn dr a j v (cntN (fun p => v.testBit p) n)) (u + 1)).2))), some (vi (nI u)), none]) (by rw [ebG, hct]; simp only [if_neg (Nat.not_lt.mpr h_149)]) ?_
                            refine g_iincN (L' := [some (vr (30, 0)), some (vi (nI v)), some (vi (nI j)), some (vi z), some (vi (nI (fct (cntN (fun p => v.testBit p) n)))), some (vi (opI (ebG (erC n k f dn dr a j v (cntN (fun p => v.testBit p) n)) (u + 1)).1)), some (vi (nI ((ebG (erC n k f dn dr a j v (cntN (fun p => v.testBit p) n)) (u + 1)).2))), some (vi (nI (u + 1))), none]) cx dX6_errands_160 rfl (by decide) rfl rfl ?_
                            refine g_goto (tgt := 123) cx dX6_errands_163 (by decide) ?_
                            exact ih (u + 1) E3 (by omega) (by omega) (hVF.U hU3) (hCF.U hU3)
                          · skip
                            refine g_iload cx dX6_errands_152 rfl ?_
                            refine g_istore (L' := [some (vr (30, 0)), some (vi (nI v)), some (vi (nI j)), some (vi z), some (vi (nI (fct (cntN (fun p => v.testBit p) n)))), some (vi (opI (ebG (erC n k f dn dr a j v (cntN (fun p => v.testBit p) n)) u).1)), some (vi (nI t)), some (vi (nI u)), some (vi (nI t))]) cx dX6_errands_154 (by decide) rfl rfl ?_
                            refine g_iload cx dX6_errands_156 rfl ?_
                            refine g_istore (L' := [some (vr (30, 0)), some (vi (nI v)), some (vi (nI j)), some (vi z), some (vi (nI (fct (cntN (fun p => v.testBit p) n)))), some (vi (nI u)), some (vi (nI t)), some (vi (nI u)), some (vi (nI t))]) cx dX6_errands_158 (by decide) rfl rfl ?_
                            refine g_drop 8 (L' := [some (vr (30, 0)), some (vi (nI v)), some (vi (nI j)), some (vi z), some (vi (nI (fct (cntN (fun p => v.testBit p) n)))), some (vi (nI u)), some (vi (nI t)), some (vi (nI u)), none]) rfl ?_
                            refine g_loc (L' := [some (vr (30, 0)), some (vi (nI v)), some (vi (nI j)), some (vi z), some (vi (nI (fct (cntN (fun p => v.testBit p) n)))), some (vi (opI (ebG (erC n k f dn dr a j v (cntN (fun p => v.testBit p) n)) (u + 1)).1)), some (vi (nI ((ebG (erC n k f dn dr a j v (cntN (fun p => v.testBit p) n)) (u + 1)).2))), some (vi (nI u)), none]) (by rw [ebG, hct]; simp only [if_pos h_149]; rfl) ?_
                            refine g_iincN (L' := [some (vr (30, 0)), some (vi (nI v)), some (vi (nI j)), some (vi z), some (vi (nI (fct (cntN (fun p => v.testBit p) n)))), some (vi (opI (ebG (erC n k f dn dr a j v (cntN (fun p => v.testBit p) n)) (u + 1)).1)), some (vi (nI ((ebG (erC n k f dn dr a j v (cntN (fun p => v.testBit p) n)) (u + 1)).2))), some (vi (nI (u + 1))), none]) cx dX6_errands_160 rfl (by decide) rfl rfl ?_
                            refine g_goto (tgt := 123) cx dX6_errands_163 (by decide) ?_
                            exact ih (u + 1) E3 (by omega) (by omega) (hVF.U hU3) (hCF.U hU3)
                exact lp2 200 0 E (by omega) (by omega) hV hCF
              · skip
                refine g_iload_n cx dX6_errands_68 rfl ?_
                refine g_iload cx dX6_errands_69 rfl ?_
                refine g_fcallS (As := [vi (nI v), vi (nI q)]) (rest := []) cx knX6_has (m_has (v := v) (t := q) (by omega) (by omega)) lmX6_199 nsX6_has rfl (by decide) (Nat.le_of_ble_eq_true rfl) rfl dX6_errands_71 ?_
                have hcq := cntN_mono (fun p => v.testBit p) (show q ≤ n by omega)
                refine g_if_eqB (tgt := 107) cx dX6_errands_74 (by decide) (fun h_74 => ?_) (fun h_74 => ?_)
                · skip
                  have hcs : cntN (fun p => v.testBit p) (q + 1) = cntN (fun p => v.testBit p) q := by rw [cntN]; rw [if_neg h_74, Nat.add_zero]
                  refine g_loc (L' := [some (vr (30, 0)), some (vi (nI v)), some (vi (nI j)), some (vi z), some (vi (nI (fct (cntN (fun p => v.testBit p) (q + 1))))), some (vi (nI q)), none, none, none]) (by rw [hcs]) ?_
                  refine g_iincN (L' := [some (vr (30, 0)), some (vi (nI v)), some (vi (nI j)), some (vi z), some (vi (nI (fct (cntN (fun p => v.testBit p) (q + 1))))), some (vi (nI (q + 1))), none, none, none]) cx dX6_errands_107 rfl (by decide) rfl rfl ?_
                  refine g_goto (tgt := 59) cx dX6_errands_110 (by decide) ?_
                  exact ih (q + 1) E (by omega) (by omega) (by first | exact hV | exact hV.add) (by first | (rw [hcs, chG, if_neg h_74]; exact hCE) | (rw [hcs, chG, if_pos h_74]; exact hCE.add))
                · skip
                  have hcs1 : cntN (fun p => v.testBit p) (q + 1) = cntN (fun p => v.testBit p) q + 1 := by rw [cntN]; rw [if_pos h_74]
                  have hcs2 := cntN_mono (fun p => v.testBit p) (show q + 1 ≤ n by omega)
                  refine g_aload_n cx dX6_errands_77 rfl ?_
                  refine g_getR (i := (30, 0)) (ci := 6) (k := 21) (j := (41, 0)) cx a30_0 rfl rfl rfl (by decide) inX6 lfX6_45 dX6_errands_78 ?_
                  refine g_aload_n cx dX6_errands_81 rfl ?_
                  refine g_getIN (i := (30, 0)) (ci := 6) (k := 22) (v := nI (cntN (fun p => v.testBit p) q)) cx a30_0 rfl rfl rfl (by decide) inX6 lfX6_233 dX6_errands_82 (hCE.1) ?_
                  refine g_iload cx dX6_errands_85 rfl ?_
                  refine g_iast (i := (41, 0)) (j := cntN (fun p => v.testBit p) q) cx a41_0 rfl (rfl) (by omega) (by decide) dX6_errands_87 ?_
                  refine g_aload_n cx dX6_errands_88 rfl ?_
                  refine g_dup cx dX6_errands_89 rfl ?_
                  refine g_getIN (i := (30, 0)) (ci := 6) (k := 22) (v := nI (cntN (fun p => v.testBit p) q)) cx a30_0 rfl rfl rfl (by decide) inX6 lfX6_233 dX6_errands_90 (by rw [upA_n _ _ (by decide)]; exact hCE.1) ?_
                  refine g_iconst (v := nI 1) cx dX6_errands_93 (by decide) ?_
                  refine g_iaddN cx dX6_errands_94 ?_
                  refine g_putI (i := (30, 0)) (ci := 6) (k := 22) cx a30_0 rfl rfl rfl (by decide) inX6 tyX6_ok nmX6 rfl rfl lfX6_233 dX6_errands_95 ?_
                  refine g_iload cx dX6_errands_98 rfl ?_
                  refine g_aload_n cx dX6_errands_100 rfl ?_
                  refine g_getIN (i := (30, 0)) (ci := 6) (k := 22) (v := nI (cntN (fun p => v.testBit p) q + 1)) cx a30_0 rfl rfl rfl (by decide) inX6 lfX6_233 dX6_errands_101 (by rw [upA_s]; rfl) ?_
                  refine g_imulN cx dX6_errands_104 ?_
                  refine g_istore (L' := [some (vr (30, 0)), some (vi (nI v)), some (vi (nI j)), some (vi z), some (vi (nI ((fct (cntN (fun p => v.testBit p) q)) * (cntN (fun p => v.testBit p) q + 1)))), some (vi (nI q)), none, none, none]) cx dX6_errands_105 (by decide) rfl rfl ?_
                  have hcs : cntN (fun p => v.testBit p) (q + 1) = cntN (fun p => v.testBit p) q + 1 := by rw [cntN]; rw [if_pos h_74]
                  refine g_loc (L' := [some (vr (30, 0)), some (vi (nI v)), some (vi (nI j)), some (vi z), some (vi (nI (fct (cntN (fun p => v.testBit p) (q + 1))))), some (vi (nI q)), none, none, none]) (by rw [hcs, fct, Nat.mul_comm]) ?_
                  refine g_iincN (L' := [some (vr (30, 0)), some (vi (nI v)), some (vi (nI j)), some (vi z), some (vi (nI (fct (cntN (fun p => v.testBit p) (q + 1))))), some (vi (nI (q + 1))), none, none, none]) cx dX6_errands_107 rfl (by decide) rfl rfl ?_
                  refine g_goto (tgt := 59) cx dX6_errands_110 (by decide) ?_
                  exact ih (q + 1) (upA (upA E (41, 0) (upd (E (41, 0)) (cntN (fun p => v.testBit p) q) (nI q))) (30, 0) (upd ((upA E (41, 0) (upd (E (41, 0)) (cntN (fun p => v.testBit p) q) (nI q))) (30, 0)) 22 (nI ((cntN (fun p => v.testBit p) q) + 1)))) (by omega) (by omega) (by first | exact hV | exact hV.add) (by first | (rw [hcs, chG, if_neg h_74]; exact hCE) | (rw [hcs, chG, if_pos h_74]; exact hCE.add))
          exact lp1 (n + 1) 0 (upA D (30, 0) (upd (D (30, 0)) 22 (nI 0))) (by omega) (by omega) (TV.ch0 D) (CH.ch0 D _)
        · skip
          refine g_bipush (v := (-4)) cx dX6_errands_45 (by decide) ?_
          exact g_ret cx rq rfl (rfl) dX6_errands_47 ⟨by simp [erS, eq_true h_15, eq_true h_23, hvx, hjx, eq_false (Int32.not_lt.mpr h_31), h_42], TV.refl D⟩
      · skip
        refine g_bipush (v := (-3)) cx dX6_errands_34 (by decide) ?_
        exact g_ret cx rq rfl (rfl) dX6_errands_36 ⟨by simp [erS, eq_true h_15, eq_true h_23, hvx, hjx, eq_true (m1_lt h_31)], TV.refl D⟩
    · skip
      refine g_bipush (v := (-2)) cx dX6_errands_26 (by decide) ?_
      exact g_ret cx rq rfl (rfl) dX6_errands_28 ⟨by simp [erS, eq_false h_23], TV.refl D⟩
