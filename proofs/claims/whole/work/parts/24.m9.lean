set_option maxRecDepth 100000 in
set_option maxHeartbeats 4000000 in
theorem m_best {D : Wd} {n : Nat} {k f : Nat → Nat} {dn : Nat} {dr : Nat → Nat} {pn : Nat} (hP : PM D n k f dn dr pn) {a : Nat → Nat} (hA : AM D 0 n a) (x w : Int32) : Mok mX6_best idsA 7 [vr (30, 0), vi x, vi w] D (fun r' E' => r' = (some (vi (bestS n k f dn dr a x w))) ∧ TR D E') := by
  obtain ⟨hn3, hn8, hN, hK, hF, hd3, hDn, hDr, hp5, hPn⟩ := id hP
  refine Mok.of (L := [some (vr (30, 0)), some (vi x), some (vi w), none, none, none, none]) rfl (fun _ => Nat.le_of_ble_eq_true rfl) (fun _ => rfl) (fun X cx rq => ?_)
  refine g_aload_n cx dX6_best_0 rfl ?_
  refine g_iload_n cx dX6_best_1 rfl ?_
  refine g_fcallV (As := [vi x]) (rest := []) cx knX6_isLeaf (m_isLeaf hP x) a30_0 rfl rfl lmX6_183 niX6_isLeaf seX6_isLeaf rfl (by decide) (Nat.le_of_ble_eq_true rfl) rfl dX6_best_2 ?_
  refine g_if_neB (tgt := 11) cx dX6_best_5 (by decide) (fun h_5 => ?_) (fun h_5 => ?_)
  · skip
    obtain ⟨j, hj, rfl⟩ := lt0_nI h_5
    have hjx : (nI j).toNatClampNeg = j := nI_clamp (by omega)
    refine g_iload_n cx dX6_best_11 rfl ?_
    refine g_i2l cx dX6_best_12 ?_
    refine g_lconst (v := 0) cx dX6_best_13 (by decide) ?_
    refine g_ldc2 (v := 2) cx lcX6_159 dX6_best_14 ?_
    refine g_fcallS (As := [vl w.toInt64, vl 0, vl 2]) (rest := []) cx knX6_in (m_in w.toInt64 0 2) lmX6_60 nsX6_in rfl (by decide) (Nat.le_of_ble_eq_true rfl) rfl dX6_best_17 ?_
    refine g_top (bi_iff (in_iff0 (n := 3) (by decide) (by decide) (by decide))) ?_
    refine g_if_neB (tgt := 26) cx dX6_best_20 (by decide) (fun h_20 => ?_) (fun h_20 => ?_)
    · skip
      refine g_iconst (v := (-1)) cx dX6_best_26 (by decide) ?_
      refine g_istore_n (L' := [some (vr (30, 0)), some (vi (nI j)), some (vi w), some (vi (-1)), none, none, none]) cx dX6_best_27 (by decide) rfl rfl ?_
      refine g_bipush (v := nI 99) cx dX6_best_28 (by decide) ?_
      refine g_istore (L' := [some (vr (30, 0)), some (vi (nI j)), some (vi w), some (vi (-1)), some (vi (nI 99)), none, none]) cx dX6_best_30 (by decide) rfl rfl ?_
      refine g_iconst (v := nI 0) cx dX6_best_32 (by decide) ?_
      refine g_istore (L' := [some (vr (30, 0)), some (vi (nI j)), some (vi w), some (vi (-1)), some (vi (nI 99)), some (vi (nI 0)), none]) cx dX6_best_33 (by decide) rfl rfl ?_
      have lp : ∀ (fu : Nat) (q : Nat) (E : Wd), 2 * n - q < fu → (q ≤ 2 * n) → (TR D E) → Gk X mX6_best idsA 35 [some (vr (30, 0)), some (vi (nI j)), some (vi w), some (vi (opI (bsG n k f dn dr j a q).1)), some (vi (nI ((bsG n k f dn dr j a q).2))), some (vi (nI q)), none] [] E := by
        intro fu
        induction fu with
        | zero => intro q E hfu; exact absurd hfu (Nat.not_lt_zero _)
        | succ fu ih =>
          intro q E hfu hq hT
          have hbk := (bsG_ok (n := n) (k := k) (f := f) (dn := dn) (dr := dr) (r := j) (a := a) q).1
          refine g_iload cx dX6_best_35 rfl ?_
          refine g_iconst (v := nI 2) cx dX6_best_37 (by decide) ?_
          refine g_aload_n cx dX6_best_38 rfl ?_
          refine g_getIN (i := (30, 0)) (ci := 6) (k := 6) (v := nI n) cx a30_0 rfl rfl rfl (by decide) inX6 lfX6_23 dX6_best_39 ((congrFun (hT.1 _ (by decide)) 6).trans hN) ?_
          refine g_imulN cx dX6_best_42 ?_
          refine g_icmp_geN (tgt := 87) cx dX6_best_43 (by decide) (by omega) (by omega) (fun h_43 => ?_) (fun h_43 => ?_)
          · skip
            have e9 : q = 2 * n := by omega
            refine g_loc (L' := [some (vr (30, 0)), some (vi (nI j)), some (vi w), some (vi (opI (bsG n k f dn dr j a (2 * n)).1)), some (vi (nI ((bsG n k f dn dr j a (2 * n)).2))), some (vi (nI q)), none]) (by rw [e9]) ?_
            rcases hbs : (bsG n k f dn dr j a (2 * n)).1 with _ | v
            · skip
              refine g_loc (L' := [some (vr (30, 0)), some (vi (nI j)), some (vi w), some (vi (-1)), some (vi (nI ((bsG n k f dn dr j a (2 * n)).2))), some (vi (nI q)), none]) (by rfl) ?_
              refine g_iload_n cx dX6_best_87 rfl ?_
              refine g_iconst (v := (-1)) cx dX6_best_88 (by decide) ?_
              refine g_icmp_ne (tgt := 96) cx dX6_best_89 (by decide) (fun h_89 => ?_) (fun h_89 => ?_)
              · skip
                exact absurd rfl h_89
              · skip
                refine g_iconst (v := (-1)) cx dX6_best_92 (by decide) ?_
                refine g_goto (tgt := 119) cx dX6_best_93 (by decide) ?_
                exact g_ret cx rq rfl (rfl) dX6_best_119 ⟨by simp [bestS, eq_true h_5, eq_true h_20, hjx, hbs], hT⟩
            · skip
              have hv9 := (bsG_ok (2 * n)).2 v hbs
              refine g_loc (L' := [some (vr (30, 0)), some (vi (nI j)), some (vi w), some (vi (nI v)), some (vi (nI ((bsG n k f dn dr j a (2 * n)).2))), some (vi (nI q)), none]) (by rfl) ?_
              refine g_iload_n cx dX6_best_87 rfl ?_
              refine g_iconst (v := (-1)) cx dX6_best_88 (by decide) ?_
              refine g_icmp_ne (tgt := 96) cx dX6_best_89 (by decide) (fun h_89 => ?_) (fun h_89 => ?_)
              · skip
                refine g_iload_n cx dX6_best_96 rfl ?_
                refine g_if_ne (tgt := 105) cx dX6_best_97 (by decide) (fun h_97 => ?_) (fun h_97 => ?_)
                · skip
                  refine g_iload_n cx dX6_best_105 rfl ?_
                  refine g_iconst (v := nI 1) cx dX6_best_106 (by decide) ?_
                  refine g_icmp_ne (tgt := 116) cx dX6_best_107 (by decide) (fun h_107 => ?_) (fun h_107 => ?_)
                  · skip
                    refine g_iload_n cx dX6_best_116 rfl ?_
                    refine g_iconst (v := nI 2) cx dX6_best_117 (by decide) ?_
                    refine g_iremN cx dX6_best_118 (by omega) (by omega) (by omega) ?_
                    exact g_ret cx rq rfl (rfl) dX6_best_119 ⟨by simp [bestS, eq_true h_5, eq_true h_20, hjx, hbs, eq_false h_97, eq_false h_107], hT⟩
                  · skip
                    refine g_iload_n cx dX6_best_110 rfl ?_
                    refine g_iconst (v := nI 2) cx dX6_best_111 (by decide) ?_
                    refine g_idivN cx dX6_best_112 (by omega) (by omega) (by omega) ?_
                    refine g_goto (tgt := 119) cx dX6_best_113 (by decide) ?_
                    exact g_ret cx rq rfl (rfl) dX6_best_119 ⟨by simp [bestS, eq_true h_5, eq_true h_20, hjx, hbs, eq_false h_97, eq_true h_107], hT⟩
                · skip
                  refine g_iload cx dX6_best_100 rfl ?_
                  refine g_goto (tgt := 119) cx dX6_best_102 (by decide) ?_
                  exact g_ret cx rq rfl (rfl) dX6_best_119 ⟨by simp [bestS, eq_true h_5, eq_true h_20, hjx, hbs, eq_true h_97], hT⟩
              · skip
                exact absurd h_89 (m1_ne (by omega))
          · skip
            refine g_aload_n cx dX6_best_46 rfl ?_
            refine g_iload cx dX6_best_47 rfl ?_
            refine g_iconst (v := nI 2) cx dX6_best_49 (by decide) ?_
            refine g_idivN cx dX6_best_50 (by omega) (by omega) (by omega) ?_
            refine g_iload cx dX6_best_51 rfl ?_
            refine g_iconst (v := nI 2) cx dX6_best_53 (by decide) ?_
            refine g_iremN cx dX6_best_54 (by omega) (by omega) (by omega) ?_
            refine g_iload_n cx dX6_best_55 rfl ?_
            refine g_callV (As := [vi (nI (q / 2)), vi (nI (q % 2)), vi (nI j)]) (rest := []) cx knX6_turnOf (m_turnOf (hT.P hP) (hT.A hn8 hA) (i := q / 2) (s := q % 2) (r := j) (by omega) (by omega) (by omega)) a30_0 rfl rfl lmX6_230 niX6_turnOf seX6_turnOf rfl (by decide) (Nat.le_of_ble_eq_true rfl) rfl dX6_best_56 (fun r0 E2 hp0 => ?_)
            obtain ⟨rfl, hT2⟩ := hp0
            show Gk X mX6_best idsA 59 [some (vr (30, 0)), some (vi (nI j)), some (vi w), some (vi (opI (bsG n k f dn dr j a q).1)), some (vi (nI ((bsG n k f dn dr j a q).2))), some (vi (nI q)), none] [vi (trn n k f dn dr (q / 2) (q % 2) j a)] E2
            refine g_istore (L' := [some (vr (30, 0)), some (vi (nI j)), some (vi w), some (vi (opI (bsG n k f dn dr j a q).1)), some (vi (nI ((bsG n k f dn dr j a q).2))), some (vi (nI q)), some (vi (trn n k f dn dr (q / 2) (q % 2) j a))]) cx dX6_best_59 (by decide) rfl rfl ?_
            refine g_iload cx dX6_best_61 rfl ?_
            refine g_iconst (v := (-1)) cx dX6_best_63 (by decide) ?_
            refine g_icmp_eq (tgt := 81) cx dX6_best_64 (by decide) (fun h_64 => ?_) (fun h_64 => ?_)
            · skip
              refine g_drop 6 (L' := [some (vr (30, 0)), some (vi (nI j)), some (vi w), some (vi (opI (bsG n k f dn dr j a q).1)), some (vi (nI ((bsG n k f dn dr j a q).2))), some (vi (nI q)), none]) rfl ?_
              refine g_loc (L' := [some (vr (30, 0)), some (vi (nI j)), some (vi w), some (vi (opI (bsG n k f dn dr j a (q + 1)).1)), some (vi (nI ((bsG n k f dn dr j a (q + 1)).2))), some (vi (nI q)), none]) (by rw [bs_f1 h_64]) ?_
              refine g_iincN (L' := [some (vr (30, 0)), some (vi (nI j)), some (vi w), some (vi (opI (bsG n k f dn dr j a (q + 1)).1)), some (vi (nI ((bsG n k f dn dr j a (q + 1)).2))), some (vi (nI (q + 1))), none]) cx dX6_best_81 rfl (by decide) rfl rfl ?_
              refine g_goto (tgt := 35) cx dX6_best_84 (by decide) ?_
              exact ih (q + 1) E2 (by omega) (by omega) (hT.trans hT2)
            · skip
              obtain ⟨t, ht9, het⟩ := (trn_cases n k f dn dr (q / 2) (q % 2) j a).resolve_left h_64
              refine g_loc (L' := [some (vr (30, 0)), some (vi (nI j)), some (vi w), some (vi (opI (bsG n k f dn dr j a q).1)), some (vi (nI ((bsG n k f dn dr j a q).2))), some (vi (nI q)), some (vi (nI t))]) (by rw [het]) ?_
              refine g_iload cx dX6_best_67 rfl ?_
              refine g_iload cx dX6_best_69 rfl ?_
              refine g_icmp_geN (tgt := 81) cx dX6_best_71 (by decide) (by omega) (by omega) (fun h_71 => ?_) (fun h_71 => ?_)
              · skip
                refine g_drop 6 (L' := [some (vr (30, 0)), some (vi (nI j)), some (vi w), some (vi (opI (bsG n k f dn dr j a q).1)), some (vi (nI ((bsG n k f dn dr j a q).2))), some (vi (nI q)), none]) rfl ?_
                refine g_loc (L' := [some (vr (30, 0)), some (vi (nI j)), some (vi w), some (vi (opI (bsG n k f dn dr j a (q + 1)).1)), some (vi (nI ((bsG n k f dn dr j a (q + 1)).2))), some (vi (nI q)), none]) (by rw [bs_f2 het ht9 h_71]) ?_
                refine g_iincN (L' := [some (vr (30, 0)), some (vi (nI j)), some (vi w), some (vi (opI (bsG n k f dn dr j a (q + 1)).1)), some (vi (nI ((bsG n k f dn dr j a (q + 1)).2))), some (vi (nI (q + 1))), none]) cx dX6_best_81 rfl (by decide) rfl rfl ?_
                refine g_goto (tgt := 35) cx dX6_best_84 (by decide) ?_
                exact ih (q + 1) E2 (by omega) (by omega) (hT.trans hT2)
              · skip
                refine g_iload cx dX6_best_74 rfl ?_
                refine g_istore (L' := [some (vr (30, 0)), some (vi (nI j)), some (vi w), some (vi (opI (bsG n k f dn dr j a q).1)), some (vi (nI t)), some (vi (nI q)), some (vi (nI t))]) cx dX6_best_76 (by decide) rfl rfl ?_
                refine g_iload cx dX6_best_78 rfl ?_
                refine g_istore_n (L' := [some (vr (30, 0)), some (vi (nI j)), some (vi w), some (vi (nI q)), some (vi (nI t)), some (vi (nI q)), some (vi (nI t))]) cx dX6_best_80 (by decide) rfl rfl ?_
                refine g_drop 6 (L' := [some (vr (30, 0)), some (vi (nI j)), some (vi w), some (vi (nI q)), some (vi (nI t)), some (vi (nI q)), none]) rfl ?_
                refine g_loc (L' := [some (vr (30, 0)), some (vi (nI j)), some (vi w), some (vi (opI (bsG n k f dn dr j a (q + 1)).1)), some (vi (nI ((bsG n k f dn dr j a (q + 1)).2))), some (vi (nI q)), none]) (by rw [bs_t het ht9 h_71]; rfl) ?_
                refine g_iincN (L' := [some (vr (30, 0)), some (vi (nI j)), some (vi w), some (vi (opI (bsG n k f dn dr j a (q + 1)).1)), some (vi (nI ((bsG n k f dn dr j a (q + 1)).2))), some (vi (nI (q + 1))), none]) cx dX6_best_81 rfl (by decide) rfl rfl ?_
                refine g_goto (tgt := 35) cx dX6_best_84 (by decide) ?_
                exact ih (q + 1) E2 (by omega) (by omega) (hT.trans hT2)
      exact lp (2 * n + 1) 0 D (by omega) (by omega) (TR.refl D)
    · skip
      refine g_bipush (v := (-3)) cx dX6_best_23 (by decide) ?_
      exact g_ret cx rq rfl (rfl) dX6_best_25 ⟨by simp [bestS, eq_true h_5, eq_false h_20], TR.refl D⟩
  · skip
    refine g_bipush (v := (-2)) cx dX6_best_8 (by decide) ?_
    exact g_ret cx rq rfl (rfl) dX6_best_10 ⟨by simp [bestS, eq_false h_5], TR.refl D⟩

set_option maxRecDepth 100000 in
set_option maxHeartbeats 4000000 in
theorem m_areOut {D : Wd} {n : Nat} {k f : Nat → Nat} {dn : Nat} {dr : Nat → Nat} {pn : Nat} (hP : PM D n k f dn dr pn) {pl : Nat → Int32} (hPt : PLt D pn pl) : Fok mX6_areOut idsA 0 [vr (30, 0)] D (some (vi (if allO pn pl = true then 1 else 0))) D := by
  obtain ⟨hn3, hn8, hN, hK, hF, hd3, hDn, hDr, hp5, hPn⟩ := id hP
  refine Mok.of (L := [some (vr (30, 0)), none, none]) rfl (fun _ => Nat.le_of_ble_eq_true rfl) (fun _ => rfl) (fun X cx rq => ?_)
  refine g_iconst (v := nI 1) cx dX6_areOut_0 (by decide) ?_
  refine g_istore_n (L' := [some (vr (30, 0)), some (vi (nI 1)), none]) cx dX6_areOut_1 (by decide) rfl rfl ?_
  refine g_iconst (v := nI 0) cx dX6_areOut_2 (by decide) ?_
  refine g_istore_n (L' := [some (vr (30, 0)), some (vi (nI 1)), some (vi (nI 0))]) cx dX6_areOut_3 (by decide) rfl rfl ?_
  refine g_loc (L' := [some (vr (30, 0)), some (vi (if ¬ anyB (fun p => decide (pl p ≠ -1)) 0 = true then 1 else 0)), some (vi (nI 0))]) (by rw [bi_t (c := ¬ anyB (fun p => decide (pl p ≠ -1)) 0 = true) (by simp [anyB])]) ?_
  have lp : ∀ (fu : Nat) (q : Nat), pn - q < fu → (q ≤ pn) → Gk X mX6_areOut idsA 4 [some (vr (30, 0)), some (vi (if ¬ anyB (fun p => decide (pl p ≠ -1)) q = true then 1 else 0)), some (vi (nI q))] [] D := by
    intro fu
    induction fu with
    | zero => intro q hfu; exact absurd hfu (Nat.not_lt_zero _)
    | succ fu ih =>
      intro q hfu hq
      refine g_iload_n cx dX6_areOut_4 rfl ?_
      refine g_aload_n cx dX6_areOut_5 rfl ?_
      refine g_getIN (i := (30, 0)) (ci := 6) (k := 11) (v := nI pn) cx a30_0 rfl rfl rfl (by decide) inX6 lfX6_153 dX6_areOut_6 (hPn) ?_
      refine g_icmp_geN (tgt := 41) cx dX6_areOut_9 (by decide) (by omega) (by omega) (fun h_9 => ?_) (fun h_9 => ?_)
      · skip
        have e9 : q = pn := by omega
        refine g_iload_n cx dX6_areOut_41 rfl ?_
        exact g_fret cx rq rfl (bi_nar _) dX6_areOut_42 (by rw [e9]; exact congrArg (fun z => some (vi z)) (bi_iff (by simp [allO]))) (rfl)
      · skip
        refine g_iload_n cx dX6_areOut_12 rfl ?_
        refine g_if_eqB (tgt := 33) cx dX6_areOut_13 (by decide) (fun h_13 => ?_) (fun h_13 => ?_)
        · skip
          refine g_iconst (v := nI 0) cx dX6_areOut_33 (by decide) ?_
          refine g_istore_n (L' := [some (vr (30, 0)), some (vi (nI 0)), some (vi (nI q))]) cx dX6_areOut_34 (by decide) rfl rfl ?_
          refine g_loc (L' := [some (vr (30, 0)), some (vi (if ¬ anyB (fun p => decide (pl p ≠ -1)) (q + 1) = true then 1 else 0)), some (vi (nI q))]) (by rw [bi_f (c := ¬ anyB (fun p => decide (pl p ≠ -1)) (q + 1) = true) (fun e => h_13 (fun e2 => e (any_1 e2)))]) ?_
          refine g_iincN (L' := [some (vr (30, 0)), some (vi (if ¬ anyB (fun p => decide (pl p ≠ -1)) (q + 1) = true then 1 else 0)), some (vi (nI (q + 1)))]) cx dX6_areOut_35 rfl (by decide) rfl rfl ?_
          refine g_goto (tgt := 4) cx dX6_areOut_38 (by decide) ?_
          exact ih (q + 1) (by omega) (by omega)
        · skip
          refine g_aload_n cx dX6_areOut_16 rfl ?_
          refine g_getR (i := (30, 0)) (ci := 6) (k := 0) (j := (31, 0)) cx a30_0 rfl rfl rfl (by decide) inX6 lfX6_7 dX6_areOut_17 ?_
          refine g_bipush (v := nI 50) cx dX6_areOut_20 (by decide) ?_
          refine g_iload_n cx dX6_areOut_22 rfl ?_
          refine g_iaddN cx dX6_areOut_23 ?_
          refine g_ialdN (i := (31, 0)) (j := 50 + q) (v := (pl q)) cx a31_0 rfl (rfl) (by omega) (by decide) dX6_areOut_24 (hPt q (by omega)) ?_
          refine g_iconst (v := (-1)) cx dX6_areOut_25 (by decide) ?_
          refine g_icmp_ne (tgt := 33) cx dX6_areOut_26 (by decide) (fun h_26 => ?_) (fun h_26 => ?_)
          · skip
            refine g_iconst (v := nI 0) cx dX6_areOut_33 (by decide) ?_
            refine g_istore_n (L' := [some (vr (30, 0)), some (vi (nI 0)), some (vi (nI q))]) cx dX6_areOut_34 (by decide) rfl rfl ?_
            refine g_loc (L' := [some (vr (30, 0)), some (vi (if ¬ anyB (fun p => decide (pl p ≠ -1)) (q + 1) = true then 1 else 0)), some (vi (nI q))]) (by rw [bi_f (c := ¬ anyB (fun p => decide (pl p ≠ -1)) (q + 1) = true) (fun e => e (any_2 (by simpa using h_26)))]) ?_
            refine g_iincN (L' := [some (vr (30, 0)), some (vi (if ¬ anyB (fun p => decide (pl p ≠ -1)) (q + 1) = true then 1 else 0)), some (vi (nI (q + 1)))]) cx dX6_areOut_35 rfl (by decide) rfl rfl ?_
            refine g_goto (tgt := 4) cx dX6_areOut_38 (by decide) ?_
            exact ih (q + 1) (by omega) (by omega)
          · skip
            refine g_iconst (v := nI 1) cx dX6_areOut_29 (by decide) ?_
            refine g_goto (tgt := 34) cx dX6_areOut_30 (by decide) ?_
            refine g_istore_n (L' := [some (vr (30, 0)), some (vi (nI 1)), some (vi (nI q))]) cx dX6_areOut_34 (by decide) rfl rfl ?_
            refine g_loc (L' := [some (vr (30, 0)), some (vi (if ¬ anyB (fun p => decide (pl p ≠ -1)) (q + 1) = true then 1 else 0)), some (vi (nI q))]) (by rw [bi_t (c := ¬ anyB (fun p => decide (pl p ≠ -1)) (q + 1) = true) (any_0 h_13 (by simpa using h_26))]) ?_
            refine g_iincN (L' := [some (vr (30, 0)), some (vi (if ¬ anyB (fun p => decide (pl p ≠ -1)) (q + 1) = true then 1 else 0)), some (vi (nI (q + 1)))]) cx dX6_areOut_35 rfl (by decide) rfl rfl ?_
            refine g_goto (tgt := 4) cx dX6_areOut_38 (by decide) ?_
            exact ih (q + 1) (by omega) (by omega)
  exact lp (pn + 1) 0 (by omega) (by omega)

set_option maxRecDepth 100000 in
set_option maxHeartbeats 4000000 in
theorem m_saveFirst {D : Wd} {n : Nat} {k f : Nat → Nat} {dn : Nat} {dr : Nat → Nat} {pn : Nat} (hP : PM D n k f dn dr pn) {a : Nat → Nat} (hA : AM D 42 n a) {pl : Nat → Int32} (hPt : PLt D pn pl) : Mok mX6_saveFirst idsA 3 [vr (30, 0)] D (fun r' E' => r' = none ∧ (TR D E' ∧ AM E' 42 n a ∧ PLt E' pn (letG (opn n a dn dr) pn n pl))) := by
  obtain ⟨hn3, hn8, hN, hK, hF, hd3, hDn, hDr, hp5, hPn⟩ := id hP
  refine Mok.of (L := [some (vr (30, 0)), none, none]) rfl (fun _ => Nat.le_of_ble_eq_true rfl) (fun _ => rfl) (fun X cx rq => ?_)
  refine g_iconst (v := nI 0) cx dX6_saveFirst_0 (by decide) ?_
  refine g_istore_n (L' := [some (vr (30, 0)), some (vi (nI 0)), none]) cx dX6_saveFirst_1 (by decide) rfl rfl ?_
  have lp : ∀ (fu : Nat) (q : Nat) (E : Wd), n - q < fu → (q ≤ n) → (TR D E) → (AM E 42 n a) → (PLt E pn (letG (opn n a dn dr) pn q pl)) → Gk X mX6_saveFirst idsA 2 [some (vr (30, 0)), some (vi (nI q)), none] [] E := by
    intro fu
    induction fu with
    | zero => intro q E hfu; exact absurd hfu (Nat.not_lt_zero _)
    | succ fu ih =>
      intro q E hfu hq hT hAe hPe
      have hEN : E (30, 0) 6 = nI n := (congrFun (hT.1 _ (by decide)) 6).trans hN
      have hEP : E (30, 0) 11 = nI pn := (congrFun (hT.1 _ (by decide)) 11).trans hPn
      refine g_iload_n cx dX6_saveFirst_2 rfl ?_
      refine g_aload_n cx dX6_saveFirst_3 rfl ?_
      refine g_getIN (i := (30, 0)) (ci := 6) (k := 6) (v := nI n) cx a30_0 rfl rfl rfl (by decide) inX6 lfX6_23 dX6_saveFirst_4 (hEN) ?_
      refine g_icmp_geN (tgt := 73) cx dX6_saveFirst_7 (by decide) (by omega) (by omega) (fun h_7 => ?_) (fun h_7 => ?_)
      · skip
        have e9 : q = n := by omega
        exact g_vret cx rq rfl dX6_saveFirst_73 ⟨rfl, ⟨hT, hAe, by rw [e9] at hPe; exact hPe⟩⟩
      · skip
        have jn : ∀ (p : Nat), (p ≤ pn) → (p = frst (letG (opn n a dn dr) pn q pl) q pn 0) → Gk X mX6_saveFirst idsA 39 [some (vr (30, 0)), some (vi (nI q)), some (vi (nI p))] [] E := by
          intro p hp hm
          refine g_iload_n cx dX6_saveFirst_39 rfl ?_
          refine g_aload_n cx dX6_saveFirst_40 rfl ?_
          refine g_getIN (i := (30, 0)) (ci := 6) (k := 11) (v := nI pn) cx a30_0 rfl rfl rfl (by decide) inX6 lfX6_153 dX6_saveFirst_41 (hEP) ?_
          refine g_icmp_geN (tgt := 67) cx dX6_saveFirst_44 (by decide) (by omega) (by omega) (fun h_44 => ?_) (fun h_44 => ?_)
          · skip
            refine g_iincN (L' := [some (vr (30, 0)), some (vi (nI (q + 1))), some (vi (nI p))]) cx dX6_saveFirst_67 rfl (by decide) rfl rfl ?_
            refine g_goto (tgt := 2) cx dX6_saveFirst_70 (by decide) ?_
            refine g_drop 2 (L' := [some (vr (30, 0)), some (vi (nI (q + 1))), none]) rfl ?_
            exact ih (q + 1) E (by omega) (by omega) (by first | exact hT | exact hT.put (by omega)) (by first | exact hAe | exact hAe.put hn8) (by first | (rw [letG, if_neg (fun e => absurd e.1 (by omega))]; exact hPe) | (rw [letG, if_neg (fun e => h_54 e.2)]; exact hPe) | (rw [letG, if_pos ⟨by omega, h_54⟩, ← hm]; exact hPe.put))
          · skip
            refine g_aload_n cx dX6_saveFirst_47 rfl ?_
            refine g_bipush (v := nI 42) cx dX6_saveFirst_48 (by decide) ?_
            refine g_iload_n cx dX6_saveFirst_50 rfl ?_
            refine g_fcallV (As := [vi (nI 42), vi (nI q)]) (rest := []) cx knX6_isOpen (m_isOpen (hT.P hP) hAe (by omega) (i := q) (by omega)) a30_0 rfl rfl lmX6_186 niX6_isOpen seX6_isOpen rfl (by decide) (Nat.le_of_ble_eq_true rfl) rfl dX6_saveFirst_51 ?_
            refine g_if_eqB (tgt := 67) cx dX6_saveFirst_54 (by decide) (fun h_54 => ?_) (fun h_54 => ?_)
            · skip
              refine g_iincN (L' := [some (vr (30, 0)), some (vi (nI (q + 1))), some (vi (nI p))]) cx dX6_saveFirst_67 rfl (by decide) rfl rfl ?_
              refine g_goto (tgt := 2) cx dX6_saveFirst_70 (by decide) ?_
              refine g_drop 2 (L' := [some (vr (30, 0)), some (vi (nI (q + 1))), none]) rfl ?_
              exact ih (q + 1) E (by omega) (by omega) (by first | exact hT | exact hT.put (by omega)) (by first | exact hAe | exact hAe.put hn8) (by first | (rw [letG, if_neg (fun e => absurd e.1 (by omega))]; exact hPe) | (rw [letG, if_neg (fun e => h_54 e.2)]; exact hPe) | (rw [letG, if_pos ⟨by omega, h_54⟩, ← hm]; exact hPe.put))
            · skip
              refine g_aload_n cx dX6_saveFirst_57 rfl ?_
              refine g_getR (i := (30, 0)) (ci := 6) (k := 0) (j := (31, 0)) cx a30_0 rfl rfl rfl (by decide) inX6 lfX6_7 dX6_saveFirst_58 ?_
              refine g_bipush (v := nI 50) cx dX6_saveFirst_61 (by decide) ?_
              refine g_iload_n cx dX6_saveFirst_63 rfl ?_
              refine g_iaddN cx dX6_saveFirst_64 ?_
              refine g_iconst (v := (-1)) cx dX6_saveFirst_65 (by decide) ?_
              refine g_iast (i := (31, 0)) (j := 50 + p) cx a31_0 rfl (rfl) (by omega) (by decide) dX6_saveFirst_66 ?_
              refine g_iincN (L' := [some (vr (30, 0)), some (vi (nI (q + 1))), some (vi (nI p))]) cx dX6_saveFirst_67 rfl (by decide) rfl rfl ?_
              refine g_goto (tgt := 2) cx dX6_saveFirst_70 (by decide) ?_
              refine g_drop 2 (L' := [some (vr (30, 0)), some (vi (nI (q + 1))), none]) rfl ?_
              exact ih (q + 1) (upA E (31, 0) (upd (E (31, 0)) (50 + p) ((-1)))) (by omega) (by omega) (by first | exact hT | exact hT.put (by omega)) (by first | exact hAe | exact hAe.put hn8) (by first | (rw [letG, if_neg (fun e => absurd e.1 (by omega))]; exact hPe) | (rw [letG, if_neg (fun e => h_54 e.2)]; exact hPe) | (rw [letG, if_pos ⟨by omega, h_54⟩, ← hm]; exact hPe.put))
        refine g_iconst (v := nI 0) cx dX6_saveFirst_10 (by decide) ?_
        refine g_istore_n (L' := [some (vr (30, 0)), some (vi (nI q)), some (vi (nI 0))]) cx dX6_saveFirst_11 (by decide) rfl rfl ?_
        have lp2 : ∀ (fu : Nat) (p : Nat), pn - p < fu → (p ≤ pn) → (frst (letG (opn n a dn dr) pn q pl) q (pn - p) p = frst (letG (opn n a dn dr) pn q pl) q pn 0) → Gk X mX6_saveFirst idsA 12 [some (vr (30, 0)), some (vi (nI q)), some (vi (nI p))] [] E := by
          intro fu
          induction fu with
          | zero => intro p hfu; exact absurd hfu (Nat.not_lt_zero _)
          | succ fu ih =>
            intro p hfu hp hm2
            refine g_iload_n cx dX6_saveFirst_12 rfl ?_
            refine g_aload_n cx dX6_saveFirst_13 rfl ?_
            refine g_getIN (i := (30, 0)) (ci := 6) (k := 11) (v := nI pn) cx a30_0 rfl rfl rfl (by decide) inX6 lfX6_153 dX6_saveFirst_14 (hEP) ?_
            refine g_icmp_geN (tgt := 39) cx dX6_saveFirst_17 (by decide) (by omega) (by omega) (fun h_17 => ?_) (fun h_17 => ?_)
            · skip
              have hm4 : p = frst (letG (opn n a dn dr) pn q pl) q pn 0 := by
                rw [← hm2, show pn - p = 0 from by omega]; rfl
              exact jn p (by omega) (by first | exact hm4)
            · skip
              obtain ⟨z, hz⟩ : ∃ z, pn - p = z + 1 := ⟨pn - p - 1, by omega⟩
              rw [hz, frst] at hm2
              refine g_aload_n cx dX6_saveFirst_20 rfl ?_
              refine g_getR (i := (30, 0)) (ci := 6) (k := 0) (j := (31, 0)) cx a30_0 rfl rfl rfl (by decide) inX6 lfX6_7 dX6_saveFirst_21 ?_
              refine g_bipush (v := nI 50) cx dX6_saveFirst_24 (by decide) ?_
              refine g_iload_n cx dX6_saveFirst_26 rfl ?_
              refine g_iaddN cx dX6_saveFirst_27 ?_
              refine g_ialdN (i := (31, 0)) (j := 50 + p) (v := (letG (opn n a dn dr) pn q pl p)) cx a31_0 rfl (rfl) (by omega) (by decide) dX6_saveFirst_28 (hPe p (by omega)) ?_
              refine g_iload_n cx dX6_saveFirst_29 rfl ?_
              refine g_icmp_eq (tgt := 39) cx dX6_saveFirst_30 (by decide) (fun h_30 => ?_) (fun h_30 => ?_)
              · skip
                have hm4 : p = frst (letG (opn n a dn dr) pn q pl) q pn 0 := by
                  rw [← hm2, if_pos h_30]
                exact jn p (by omega) (by first | exact hm4)
              · skip
                rw [if_neg h_30] at hm2
                have hm3 : frst (letG (opn n a dn dr) pn q pl) q (pn - (p + 1)) (p + 1) = frst (letG (opn n a dn dr) pn q pl) q pn 0 := by
                  rw [show pn - (p + 1) = z from by omega]; exact hm2
                refine g_iincN (L' := [some (vr (30, 0)), some (vi (nI q)), some (vi (nI (p + 1)))]) cx dX6_saveFirst_33 rfl (by decide) rfl rfl ?_
                refine g_goto (tgt := 12) cx dX6_saveFirst_36 (by decide) ?_
                exact ih (p + 1) (by omega) (by omega) hm3
        exact lp2 (pn + 1) 0 (by omega) (by omega) rfl
  exact lp (n + 1) 0 D (by omega) (by omega) (TR.refl D) hA hPt

set_option maxRecDepth 100000 in
set_option maxHeartbeats 4000000 in
theorem m_fire {D : Wd} {n : Nat} {k f : Nat → Nat} {dn : Nat} {dr : Nat → Nat} {pn : Nat} (hP : PM D n k f dn dr pn) {a : Nat → Nat} (hA : AM D 0 n a) {pl : Nat → Int32} (hPl : PLM D 0 pn pl) (hPo : PLok n pn pl) (x s : Int32) : Mok mX6_fire idsA 6 [vr (30, 0), vi x, vi s] D (fun r' E' => r' = (some (vi (fireS n k f dn dr pn a pl x s))) ∧ TR D E') := by
  obtain ⟨hn3, hn8, hN, hK, hF, hd3, hDn, hDr, hp5, hPn⟩ := id hP
  refine Mok.of (L := [some (vr (30, 0)), some (vi x), some (vi s), none]) rfl (fun _ => Nat.le_of_ble_eq_true rfl) (fun _ => rfl) (fun X cx rq => ?_)
  refine g_aload_n cx dX6_fire_0 rfl ?_
  refine g_iload_n cx dX6_fire_1 rfl ?_
  refine g_fcallV (As := [vi x]) (rest := []) cx knX6_isLeaf (m_isLeaf hP x) a30_0 rfl rfl lmX6_183 niX6_isLeaf seX6_isLeaf rfl (by decide) (Nat.le_of_ble_eq_true rfl) rfl dX6_fire_2 ?_
  refine g_if_neB (tgt := 11) cx dX6_fire_5 (by decide) (fun h_5 => ?_) (fun h_5 => ?_)
  · skip
    obtain ⟨j, hj, rfl⟩ := lt0_nI h_5
    have hjx : (nI j).toNatClampNeg = j := nI_clamp (by omega)
    refine g_iload_n cx dX6_fire_11 rfl ?_
    refine g_fcallS (As := [vi s]) (rest := []) cx knX6_isSide (m_isSide s) lmX6_210 nsX6_isSide rfl (by decide) (Nat.le_of_ble_eq_true rfl) rfl dX6_fire_12 ?_
    refine g_if_neB (tgt := 21) cx dX6_fire_15 (by decide) (fun h_15 => ?_) (fun h_15 => ?_)
    · skip
      obtain ⟨t, ht, rfl⟩ := lt0_nI h_15
      have htx : (nI t).toNatClampNeg = t := nI_clamp (by omega)
      refine g_aload_n cx dX6_fire_21 rfl ?_
      refine g_iconst (v := nI 0) cx dX6_fire_22 (by decide) ?_
      refine g_bipush (v := nI 42) cx dX6_fire_23 (by decide) ?_
      refine g_fcallVv (As := [vi (nI 0), vi (nI 42)]) (rest := []) cx knX6_copy (m_copy (fr := 0) (to := 42) (by omega) (by omega) (by omega)) a30_0 rfl rfl lmX6_170 niX6_copy seX6_copy rfl (by decide) (Nat.le_of_ble_eq_true rfl) rfl dX6_fire_25 ?_
      refine g_iconst (v := nI 0) cx dX6_fire_28 (by decide) ?_
      refine g_istore_n (L' := [some (vr (30, 0)), some (vi (nI j)), some (vi (nI t)), some (vi (nI 0))]) cx dX6_fire_29 (by decide) rfl rfl ?_
      have lp : ∀ (fu : Nat) (c : Nat) (E : Wd) (ae : Nat → Nat) (pe : Nat → Int32), 200 - c < fu → (c ≤ 200) → (TR D E) → (AM E 42 n ae) → (PLt E pn pe) → (firG n k f dn dr pn j t (200 - c) c ae pe = firG n k f dn dr pn j t 200 0 a pl) → Gk X mX6_fire idsA 30 [some (vr (30, 0)), some (vi (nI j)), some (vi (nI t)), some (vi (nI c))] [] E := by
        intro fu
        induction fu with
        | zero => intro c E ae pe hfu; exact absurd hfu (Nat.not_lt_zero _)
        | succ fu ih =>
          intro c E ae pe hfu hc hT hAe hPe hm
          refine g_iload_n cx dX6_fire_30 rfl ?_
          refine g_sipush (v := nI 200) cx dX6_fire_31 (by decide) ?_
          refine g_icmp_geN (tgt := 63) cx dX6_fire_34 (by decide) (by omega) (by omega) (fun h_34 => ?_) (fun h_34 => ?_)
          · skip
            have hm3 := hm
            rw [show 200 - c = 0 from by omega, firG] at hm3
            refine g_aload_n cx dX6_fire_63 rfl ?_
            refine g_fcallV (As := []) (rest := []) cx knX6_areOut (m_areOut (hT.P hP) hPe) a30_0 rfl rfl lmX6_252 niX6_areOut seX6_areOut rfl (by decide) (Nat.le_of_ble_eq_true rfl) rfl dX6_fire_64 ?_
            refine g_if_eqB (tgt := 74) cx dX6_fire_67 (by decide) (fun h_67 => ?_) (fun h_67 => ?_)
            · skip
              refine g_iconst (v := (-1)) cx dX6_fire_74 (by decide) ?_
              exact g_ret cx rq rfl (rfl) dX6_fire_75 ⟨by simp only [fireS, eq_true h_5, eq_true h_15, if_true, hjx, htx]; first | (rw [← hm3, if_neg h_67]; done) | exact absurd h_41 h_67, hT⟩
            · skip
              refine g_iload_n cx dX6_fire_70 rfl ?_
              refine g_goto (tgt := 75) cx dX6_fire_71 (by decide) ?_
              exact g_ret cx rq rfl (rfl) dX6_fire_75 ⟨by simp only [fireS, eq_true h_5, eq_true h_15, if_true, hjx, htx]; first | (rw [← hm3, if_pos h_67]; done) | (rw [← hm3]; done), hT⟩
          · skip
            have hm3 := hm
            rw [show 200 - c = (200 - (c + 1)) + 1 from by omega, firG] at hm3
            refine g_aload_n cx dX6_fire_37 rfl ?_
            refine g_fcallV (As := []) (rest := []) cx knX6_areOut (m_areOut (hT.P hP) hPe) a30_0 rfl rfl lmX6_252 niX6_areOut seX6_areOut rfl (by decide) (Nat.le_of_ble_eq_true rfl) rfl dX6_fire_38 ?_
            refine g_if_neB (tgt := 63) cx dX6_fire_41 (by decide) (fun h_41 => ?_) (fun h_41 => ?_)
            · skip
              rw [if_pos h_41] at hm3
              refine g_aload_n cx dX6_fire_63 rfl ?_
              refine g_fcallV (As := []) (rest := []) cx knX6_areOut (m_areOut (hT.P hP) hPe) a30_0 rfl rfl lmX6_252 niX6_areOut seX6_areOut rfl (by decide) (Nat.le_of_ble_eq_true rfl) rfl dX6_fire_64 ?_
              refine g_if_eqB (tgt := 74) cx dX6_fire_67 (by decide) (fun h_67 => ?_) (fun h_67 => ?_)
              · skip
                refine g_iconst (v := (-1)) cx dX6_fire_74 (by decide) ?_
                exact g_ret cx rq rfl (rfl) dX6_fire_75 ⟨by simp only [fireS, eq_true h_5, eq_true h_15, if_true, hjx, htx]; first | (rw [← hm3, if_neg h_67]; done) | exact absurd h_41 h_67, hT⟩
              · skip
                refine g_iload_n cx dX6_fire_70 rfl ?_
                refine g_goto (tgt := 75) cx dX6_fire_71 (by decide) ?_
                exact g_ret cx rq rfl (rfl) dX6_fire_75 ⟨by simp only [fireS, eq_true h_5, eq_true h_15, if_true, hjx, htx]; first | (rw [← hm3, if_pos h_67]; done) | (rw [← hm3]; done), hT⟩
            · skip
              rw [if_neg h_41] at hm3
              refine g_aload_n cx dX6_fire_44 rfl ?_
              refine g_callV (As := []) (rest := []) cx knX6_saveFirst (m_saveFirst (hT.P hP) hAe hPe) a30_0 rfl rfl lmX6_255 niX6_saveFirst seX6_saveFirst rfl (by decide) (Nat.le_of_ble_eq_true rfl) rfl dX6_fire_45 (fun r0 E2 hp0 => ?_)
              obtain ⟨rfl, hT2, hA2, hP2⟩ := hp0
              show Gk X mX6_fire idsA 48 [some (vr (30, 0)), some (vi (nI j)), some (vi (nI t)), some (vi (nI c))] [] E2
              refine g_aload_n cx dX6_fire_48 rfl ?_
              refine g_bipush (v := nI 42) cx dX6_fire_49 (by decide) ?_
              refine g_iload_n cx dX6_fire_51 rfl ?_
              refine g_iload_n cx dX6_fire_52 rfl ?_
              refine g_fcallV (As := [vi (nI 42), vi (nI j), vi (nI t)]) (rest := []) cx knX6_step (m_step ((hT.trans hT2).P hP) hA2 (by omega) (i := j) (s := t) (by omega) (by omega)) a30_0 rfl rfl lmX6_207 niX6_step seX6_step rfl (by decide) (Nat.le_of_ble_eq_true rfl) rfl dX6_fire_53 ?_
              refine g_pop cx dX6_fire_56 rfl ?_
              refine g_iincN (L' := [some (vr (30, 0)), some (vi (nI j)), some (vi (nI t)), some (vi (nI (c + 1)))]) cx dX6_fire_57 rfl (by decide) rfl rfl ?_
              refine g_goto (tgt := 30) cx dX6_fire_60 (by decide) ?_
              exact ih (c + 1) (Rw E2 42 n (stp n ae k f j t)) (stp n ae k f j t) (letG (opn n ae dn dr) pn n pe) (by omega) (by omega) (TR.Rw hn8 (hT.trans hT2)) (Rw.A (fun q hq => stp_lt (hA2 q hq).2)) (hP2.Rw hn8) hm3
      exact lp 201 0 (upA D (31, 0) (cpR (D (31, 0)) 0 42 14)) a pl (by omega) (by omega) (TR.cp D) (cp_A hn8 hA) (PLt.of (cp_Pl hp5 hPl)) rfl
    · skip
      refine g_bipush (v := (-3)) cx dX6_fire_18 (by decide) ?_
      exact g_ret cx rq rfl (rfl) dX6_fire_20 ⟨by simp [fireS, eq_true h_5, eq_false h_15], TR.refl D⟩
  · skip
    refine g_bipush (v := (-2)) cx dX6_fire_8 (by decide) ?_
    exact g_ret cx rq rfl (rfl) dX6_fire_10 ⟨by simp [fireS, eq_false h_5], TR.refl D⟩
