theorem lt0_out {x : Int32} {m : Nat} (h : ¬ lt0 x (m + 1) = true) : x.toInt < 0 ∨ (m : Int) < x.toInt := by
  rw [lt0_iff] at h; omega
set_option maxRecDepth 100000 in
set_option maxHeartbeats 4000000 in
theorem m_shorter {D : Wd} {a c : Nat} (ha : a < 72) (hc : c < 72) : Fok mX6_shorter idsA 1 [vi (nI a), vi (nI c)] D (some (vi (nI (shw a c)))) D := by
  have hon := onN_lt ha hc
  refine Mok.of (L := [some (vi (nI a)), some (vi (nI c)), none]) rfl (fun _ => Nat.le_of_ble_eq_true rfl) (fun _ => rfl) (fun X cx rq => ?_)
  refine g_iload_n cx dX6_shorter_0 rfl ?_
  refine g_iload_n cx dX6_shorter_1 rfl ?_
  refine g_fcallS (As := [vi (nI a), vi (nI c)]) (rest := []) cx knX6_on (m_on ha hc) lmX6_54 nsX6_on rfl (by decide) (Nat.le_of_ble_eq_true rfl) rfl dX6_shorter_2 ?_
  refine g_istore_n (L' := [some (vi (nI a)), some (vi (nI c)), some (vi (nI (onN a c)))]) cx dX6_shorter_5 (by decide) rfl rfl ?_
  refine g_iload_n cx dX6_shorter_6 rfl ?_
  refine g_bipush (v := nI 72) cx dX6_shorter_7 (by decide) ?_
  refine g_iload_n cx dX6_shorter_9 rfl ?_
  refine g_isubN cx dX6_shorter_10 (by omega) ?_
  refine g_icmp_geN (tgt := 18) cx dX6_shorter_11 (by decide) (by omega) (by omega) (fun h_11 => ?_) (fun h_11 => ?_)
  · skip
    refine g_bipush (v := nI 72) cx dX6_shorter_18 (by decide) ?_
    refine g_iload_n cx dX6_shorter_20 rfl ?_
    refine g_isubN cx dX6_shorter_21 (by omega) ?_
    exact g_fret cx rq rfl (rfl) dX6_shorter_22 (by rw [shw, if_neg (by omega)]) (rfl)
  · skip
    refine g_iload_n cx dX6_shorter_14 rfl ?_
    refine g_goto (tgt := 22) cx dX6_shorter_15 (by decide) ?_
    exact g_fret cx rq rfl (rfl) dX6_shorter_22 (by rw [shw, if_pos h_11]) (rfl)

set_option maxRecDepth 100000 in
set_option maxHeartbeats 4000000 in
theorem m_seen {D : Wd} {n : Nat} {k f : Nat → Nat} {dn : Nat} {dr : Nat → Nat} {pn : Nat} (hP : PM D n k f dn dr pn) {sm : Nat} (hSm : D (30, 0) 25 = nI sm) (hs8 : sm ≤ 8) (x w : Int32) : Fok mX6_seen idsA 2 [vr (30, 0), vi x, vi w] D (some (vi (if lt0 x n then (if lt0 w 72 then (if sm = 8 then -5 else nI (sm + 1)) else -3) else -2))) (if (lt0 x n && lt0 w 72) && decide (sm ≠ 8) then upA (upA D (43, 0) (upd (upd (D (43, 0)) (2 * sm) x) (2 * sm + 1) w)) (30, 0) (upd (D (30, 0)) 25 (nI (sm + 1))) else D) := by
  obtain ⟨hn3, hn8, hN, hK, hF, hd3, hDn, hDr, hp5, hPn⟩ := id hP
  refine Mok.of (L := [some (vr (30, 0)), some (vi x), some (vi w)]) rfl (fun _ => Nat.le_of_ble_eq_true rfl) (fun _ => rfl) (fun X cx rq => ?_)
  refine g_aload_n cx dX6_seen_0 rfl ?_
  refine g_iload_n cx dX6_seen_1 rfl ?_
  refine g_fcallV (As := [vi x]) (rest := []) cx knX6_isLeaf (m_isLeaf hP x) a30_0 rfl rfl lmX6_183 niX6_isLeaf seX6_isLeaf rfl (by decide) (Nat.le_of_ble_eq_true rfl) rfl dX6_seen_2 ?_
  refine g_if_neB (tgt := 11) cx dX6_seen_5 (by decide) (fun h_5 => ?_) (fun h_5 => ?_)
  · skip
    refine g_iload_n cx dX6_seen_11 rfl ?_
    refine g_i2l cx dX6_seen_12 ?_
    refine g_lconst (v := 0) cx dX6_seen_13 (by decide) ?_
    refine g_ldc2 (v := 71) cx lcX6_114 dX6_seen_14 ?_
    refine g_fcallS (As := [vl w.toInt64, vl 0, vl 71]) (rest := []) cx knX6_in (m_in w.toInt64 0 71) lmX6_60 nsX6_in rfl (by decide) (Nat.le_of_ble_eq_true rfl) rfl dX6_seen_17 ?_
    refine g_top (bi_iff (in_iff0 (n := 72) (by decide) (by decide) (by decide))) ?_
    refine g_if_neB (tgt := 26) cx dX6_seen_20 (by decide) (fun h_20 => ?_) (fun h_20 => ?_)
    · skip
      refine g_aload_n cx dX6_seen_26 rfl ?_
      refine g_getIN (i := (30, 0)) (ci := 6) (k := 25) (v := nI sm) cx a30_0 rfl rfl rfl (by decide) inX6 lfX6_174 dX6_seen_27 (hSm) ?_
      refine g_bipush (v := nI 8) cx dX6_seen_30 (by decide) ?_
      refine g_icmp_neN (tgt := 38) cx dX6_seen_32 (by decide) (by omega) (by omega) (fun h_32 => ?_) (fun h_32 => ?_)
      · skip
        refine g_aload_n cx dX6_seen_38 rfl ?_
        refine g_getR (i := (30, 0)) (ci := 6) (k := 24) (j := (43, 0)) cx a30_0 rfl rfl rfl (by decide) inX6 lfX6_51 dX6_seen_39 ?_
        refine g_iconst (v := nI 2) cx dX6_seen_42 (by decide) ?_
        refine g_aload_n cx dX6_seen_43 rfl ?_
        refine g_getIN (i := (30, 0)) (ci := 6) (k := 25) (v := nI sm) cx a30_0 rfl rfl rfl (by decide) inX6 lfX6_174 dX6_seen_44 (hSm) ?_
        refine g_imulN cx dX6_seen_47 ?_
        refine g_iload_n cx dX6_seen_48 rfl ?_
        refine g_iast (i := (43, 0)) (j := 2 * sm) cx a43_0 rfl (rfl) (by omega) (by decide) dX6_seen_49 ?_
        refine g_aload_n cx dX6_seen_50 rfl ?_
        refine g_getR (i := (30, 0)) (ci := 6) (k := 24) (j := (43, 0)) cx a30_0 rfl rfl rfl (by decide) inX6 lfX6_51 dX6_seen_51 ?_
        refine g_iconst (v := nI 2) cx dX6_seen_54 (by decide) ?_
        refine g_aload_n cx dX6_seen_55 rfl ?_
        refine g_getIN (i := (30, 0)) (ci := 6) (k := 25) (v := nI sm) cx a30_0 rfl rfl rfl (by decide) inX6 lfX6_174 dX6_seen_56 (by simp [upA, hSm]) ?_
        refine g_imulN cx dX6_seen_59 ?_
        refine g_iconst (v := nI 1) cx dX6_seen_60 (by decide) ?_
        refine g_iaddN cx dX6_seen_61 ?_
        refine g_iload_n cx dX6_seen_62 rfl ?_
        refine g_iast (i := (43, 0)) (j := (2 * sm) + 1) cx a43_0 rfl (rfl) (by omega) (by decide) dX6_seen_63 ?_
        refine g_aload_n cx dX6_seen_64 rfl ?_
        refine g_dup cx dX6_seen_65 rfl ?_
        refine g_getIN (i := (30, 0)) (ci := 6) (k := 25) (v := nI sm) cx a30_0 rfl rfl rfl (by decide) inX6 lfX6_174 dX6_seen_66 (by simp [upA, hSm]) ?_
        refine g_iconst (v := nI 1) cx dX6_seen_69 (by decide) ?_
        refine g_iaddN cx dX6_seen_70 ?_
        refine g_putI (i := (30, 0)) (ci := 6) (k := 25) cx a30_0 rfl rfl rfl (by decide) inX6 tyX6_ok nmX6 rfl rfl lfX6_174 dX6_seen_71 ?_
        refine g_aload_n cx dX6_seen_74 rfl ?_
        refine g_getIN (i := (30, 0)) (ci := 6) (k := 25) (v := nI (sm + 1)) cx a30_0 rfl rfl rfl (by decide) inX6 lfX6_174 dX6_seen_75 (by rw [upA_s]; rfl) ?_
        exact g_fret cx rq rfl (rfl) dX6_seen_78 (by simp [eq_true h_5, eq_true h_20, h_32]) (by simp [eq_true h_5, eq_true h_20, h_32, upA_s, upA_n, upA_up])
      · skip
        refine g_bipush (v := (-5)) cx dX6_seen_35 (by decide) ?_
        exact g_fret cx rq rfl (rfl) dX6_seen_37 (by simp [eq_true h_5, eq_true h_20, h_32]) (by simp [h_32])
    · skip
      refine g_bipush (v := (-3)) cx dX6_seen_23 (by decide) ?_
      exact g_fret cx rq rfl (rfl) dX6_seen_25 (by simp [eq_true h_5, eq_false h_20]) (by simp [eq_false h_20])
  · skip
    refine g_bipush (v := (-2)) cx dX6_seen_8 (by decide) ?_
    exact g_fret cx rq rfl (rfl) dX6_seen_10 (by simp [eq_false h_5]) (by simp [eq_false h_5])

set_option maxRecDepth 100000 in
set_option maxHeartbeats 4000000 in
theorem m_least {D : Wd} {n : Nat} {k f : Nat → Nat} {dn : Nat} {dr : Nat → Nat} {pn : Nat} (hP : PM D n k f dn dr pn) {a : Nat → Nat} (hA : AM D 0 n a) {hm : Nat → Nat} (hH : AM D 56 n hm) {sm : Nat} (hSm : D (30, 0) 25 = nI sm) (hs8 : sm ≤ 8) {lf an : Nat → Nat} (hSg : ∀ q, q < sm → D (43, 0) (2 * q) = nI (lf q) ∧ D (43, 0) (2 * q + 1) = nI (an q) ∧ an q < 72) (hlf : ∀ q, q < sm → lf q < 100) (x : Int32) : Fok mX6_least idsA 2 [vr (30, 0), vi x] D (some (vi (leastS n a hm sm lf an x))) D := by
  obtain ⟨hn3, hn8, hN, hK, hF, hd3, hDn, hDr, hp5, hPn⟩ := id hP
  refine Mok.of (L := [some (vr (30, 0)), some (vi x), none, none, none]) rfl (fun _ => Nat.le_of_ble_eq_true rfl) (fun _ => rfl) (fun X cx rq => ?_)
  refine g_aload_n cx dX6_least_0 rfl ?_
  refine g_iload_n cx dX6_least_1 rfl ?_
  refine g_fcallV (As := [vi x]) (rest := []) cx knX6_isLeaf (m_isLeaf hP x) a30_0 rfl rfl lmX6_183 niX6_isLeaf seX6_isLeaf rfl (by decide) (Nat.le_of_ble_eq_true rfl) rfl dX6_least_2 ?_
  refine g_if_neB (tgt := 11) cx dX6_least_5 (by decide) (fun h_5 => ?_) (fun h_5 => ?_)
  · skip
    obtain ⟨j, hj, rfl⟩ := lt0_nI h_5
    have hjx : (nI j).toNatClampNeg = j := nI_clamp (by omega)
    refine g_aload_n cx dX6_least_11 rfl ?_
    refine g_getR (i := (30, 0)) (ci := 6) (k := 0) (j := (31, 0)) cx a30_0 rfl rfl rfl (by decide) inX6 lfX6_7 dX6_least_12 ?_
    refine g_bipush (v := nI 56) cx dX6_least_15 (by decide) ?_
    refine g_iload_n cx dX6_least_17 rfl ?_
    refine g_iaddN cx dX6_least_18 ?_
    refine g_ialdN (i := (31, 0)) (j := 56 + j) (v := nI (hm j)) cx a31_0 rfl (rfl) (by omega) (by decide) dX6_least_19 ((hH j (by omega)).1) ?_
    refine g_istore_n (L' := [some (vr (30, 0)), some (vi (nI j)), some (vi (nI (hm j))), none, none]) cx dX6_least_20 (by decide) rfl rfl ?_
    refine g_iconst (v := nI 0) cx dX6_least_21 (by decide) ?_
    refine g_istore_n (L' := [some (vr (30, 0)), some (vi (nI j)), some (vi (nI (hm j))), some (vi (nI 0)), none]) cx dX6_least_22 (by decide) rfl rfl ?_
    refine g_iconst (v := nI 0) cx dX6_least_23 (by decide) ?_
    refine g_istore (L' := [some (vr (30, 0)), some (vi (nI j)), some (vi (nI (hm j))), some (vi (nI 0)), some (vi (nI 0))]) cx dX6_least_24 (by decide) rfl rfl ?_
    refine g_loc (L' := [some (vr (30, 0)), some (vi (nI j)), some (vi (nI ((lsG lf an j (hm j) 0).2))), some (vi (nI 0)), some (vi (nI 0))]) (rfl) ?_
    refine g_loc (L' := [some (vr (30, 0)), some (vi (nI j)), some (vi (nI ((lsG lf an j (hm j) 0).2))), some (vi (nI ((lsG lf an j (hm j) 0).1))), some (vi (nI 0))]) (rfl) ?_
    have lp : ∀ (fu : Nat) (q : Nat), sm - q < fu → (q ≤ sm) → Gk X mX6_least idsA 26 [some (vr (30, 0)), some (vi (nI j)), some (vi (nI ((lsG lf an j (hm j) q).2))), some (vi (nI ((lsG lf an j (hm j) q).1))), some (vi (nI q))] [] D := by
      intro fu
      induction fu with
      | zero => intro q hfu; exact absurd hfu (Nat.not_lt_zero _)
      | succ fu ih =>
        intro q hfu hq
        have hls := lsG_ok (lf := lf) (an := an) (i := j) (h := hm j) (m := q) ((hH j (by omega)).2) (fun p hp => (hSg p (by omega)).2.2)
        refine g_iload cx dX6_least_26 rfl ?_
        refine g_aload_n cx dX6_least_28 rfl ?_
        refine g_getIN (i := (30, 0)) (ci := 6) (k := 25) (v := nI sm) cx a30_0 rfl rfl rfl (by decide) inX6 lfX6_174 dX6_least_29 (hSm) ?_
        refine g_icmp_geN (tgt := 84) cx dX6_least_32 (by decide) (by omega) (by omega) (fun h_32 => ?_) (fun h_32 => ?_)
        · skip
          have e9 : q = sm := by omega
          refine g_iload_n cx dX6_least_84 rfl ?_
          refine g_iload_n cx dX6_least_85 rfl ?_
          refine g_aload_n cx dX6_least_86 rfl ?_
          refine g_getR (i := (30, 0)) (ci := 6) (k := 0) (j := (31, 0)) cx a30_0 rfl rfl rfl (by decide) inX6 lfX6_7 dX6_least_87 ?_
          refine g_iload_n cx dX6_least_90 rfl ?_
          refine g_ialdN (i := (31, 0)) (j := j) (v := nI (a j)) cx a31_0 rfl (rfl) (by omega) (by decide) dX6_least_91 ((hA.z j (by omega)).1) ?_
          refine g_fcallS (As := [vi (nI ((lsG lf an j (hm j) q).2)), vi (nI (a j))]) (rest := [vi (nI ((lsG lf an j (hm j) q).1))]) cx knX6_shorter (m_shorter (a := (lsG lf an j (hm j) q).2) (c := a j) hls.2 ((hA.z _ (by omega)).2)) lmX6_258 nsX6_shorter rfl (by decide) (Nat.le_of_ble_eq_true rfl) rfl dX6_least_92 ?_
          refine g_iaddN cx dX6_least_95 ?_
          exact g_fret cx rq rfl (rfl) dX6_least_96 (by simp [leastS, eq_true h_5, hjx, e9]) (rfl)
        · skip
          refine g_aload_n cx dX6_least_35 rfl ?_
          refine g_getR (i := (30, 0)) (ci := 6) (k := 24) (j := (43, 0)) cx a30_0 rfl rfl rfl (by decide) inX6 lfX6_51 dX6_least_36 ?_
          refine g_iconst (v := nI 2) cx dX6_least_39 (by decide) ?_
          refine g_iload cx dX6_least_40 rfl ?_
          refine g_imulN cx dX6_least_42 ?_
          refine g_ialdN (i := (43, 0)) (j := 2 * q) (v := nI (lf q)) cx a43_0 rfl (rfl) (by omega) (by decide) dX6_least_43 ((hSg q (by omega)).1) ?_
          refine g_iload_n cx dX6_least_44 rfl ?_
          have hl9 := hlf q (by omega)
          refine g_icmp_neN (tgt := 78) cx dX6_least_45 (by decide) (by omega) (by omega) (fun h_45 => ?_) (fun h_45 => ?_)
          · skip
            refine g_loc (L' := [some (vr (30, 0)), some (vi (nI j)), some (vi (nI ((lsG lf an j (hm j) (q + 1)).2))), some (vi (nI ((lsG lf an j (hm j) (q + 1)).1))), some (vi (nI q))]) (by rw [lsG, if_neg h_45]) ?_
            refine g_iincN (L' := [some (vr (30, 0)), some (vi (nI j)), some (vi (nI ((lsG lf an j (hm j) (q + 1)).2))), some (vi (nI ((lsG lf an j (hm j) (q + 1)).1))), some (vi (nI (q + 1)))]) cx dX6_least_78 rfl (by decide) rfl rfl ?_
            refine g_goto (tgt := 26) cx dX6_least_81 (by decide) ?_
            exact ih (q + 1) (by omega) (by omega)
          · skip
            refine g_iload_n cx dX6_least_48 rfl ?_
            refine g_iload_n cx dX6_least_49 rfl ?_
            refine g_aload_n cx dX6_least_50 rfl ?_
            refine g_getR (i := (30, 0)) (ci := 6) (k := 24) (j := (43, 0)) cx a30_0 rfl rfl rfl (by decide) inX6 lfX6_51 dX6_least_51 ?_
            refine g_iconst (v := nI 2) cx dX6_least_54 (by decide) ?_
            refine g_iload cx dX6_least_55 rfl ?_
            refine g_imulN cx dX6_least_57 ?_
            refine g_iconst (v := nI 1) cx dX6_least_58 (by decide) ?_
            refine g_iaddN cx dX6_least_59 ?_
            refine g_ialdN (i := (43, 0)) (j := (2 * q) + 1) (v := nI (an q)) cx a43_0 rfl (rfl) (by omega) (by decide) dX6_least_60 ((hSg q (by omega)).2.1) ?_
            refine g_fcallS (As := [vi (nI ((lsG lf an j (hm j) q).2)), vi (nI (an q))]) (rest := [vi (nI ((lsG lf an j (hm j) q).1))]) cx knX6_shorter (m_shorter (a := (lsG lf an j (hm j) q).2) (c := an q) hls.2 ((hSg _ (by omega)).2.2)) lmX6_258 nsX6_shorter rfl (by decide) (Nat.le_of_ble_eq_true rfl) rfl dX6_least_61 ?_
            refine g_iaddN cx dX6_least_64 ?_
            refine g_istore_n (L' := [some (vr (30, 0)), some (vi (nI j)), some (vi (nI ((lsG lf an j (hm j) q).2))), some (vi (nI (((lsG lf an j (hm j) q).1) + (shw ((lsG lf an j (hm j) q).2) (an q))))), some (vi (nI q))]) cx dX6_least_65 (by decide) rfl rfl ?_
            refine g_aload_n cx dX6_least_66 rfl ?_
            refine g_getR (i := (30, 0)) (ci := 6) (k := 24) (j := (43, 0)) cx a30_0 rfl rfl rfl (by decide) inX6 lfX6_51 dX6_least_67 ?_
            refine g_iconst (v := nI 2) cx dX6_least_70 (by decide) ?_
            refine g_iload cx dX6_least_71 rfl ?_
            refine g_imulN cx dX6_least_73 ?_
            refine g_iconst (v := nI 1) cx dX6_least_74 (by decide) ?_
            refine g_iaddN cx dX6_least_75 ?_
            refine g_ialdN (i := (43, 0)) (j := (2 * q) + 1) (v := nI (an q)) cx a43_0 rfl (rfl) (by omega) (by decide) dX6_least_76 ((hSg q (by omega)).2.1) ?_
            refine g_istore_n (L' := [some (vr (30, 0)), some (vi (nI j)), some (vi (nI (an q))), some (vi (nI (((lsG lf an j (hm j) q).1) + (shw ((lsG lf an j (hm j) q).2) (an q))))), some (vi (nI q))]) cx dX6_least_77 (by decide) rfl rfl ?_
            refine g_loc (L' := [some (vr (30, 0)), some (vi (nI j)), some (vi (nI ((lsG lf an j (hm j) (q + 1)).2))), some (vi (nI ((lsG lf an j (hm j) (q + 1)).1))), some (vi (nI q))]) (by rw [lsG, if_pos h_45]) ?_
            refine g_iincN (L' := [some (vr (30, 0)), some (vi (nI j)), some (vi (nI ((lsG lf an j (hm j) (q + 1)).2))), some (vi (nI ((lsG lf an j (hm j) (q + 1)).1))), some (vi (nI (q + 1)))]) cx dX6_least_78 rfl (by decide) rfl rfl ?_
            refine g_goto (tgt := 26) cx dX6_least_81 (by decide) ?_
            exact ih (q + 1) (by omega) (by omega)
    exact lp (sm + 1) 0 (by omega) (by omega)
  · skip
    refine g_bipush (v := (-2)) cx dX6_least_8 (by decide) ?_
    exact g_fret cx rq rfl (rfl) dX6_least_10 (by simp [leastS, eq_false h_5]) (rfl)

set_option maxRecDepth 100000 in
set_option maxHeartbeats 4000000 in
theorem m_count {D : Wd} {n : Nat} {k f : Nat → Nat} {dn : Nat} {dr : Nat → Nat} {pn : Nat} (hP : PM D n k f dn dr pn) {a : Nat → Nat} (hA : AM D 0 n a) {pl : Nat → Int32} (hPl : PLM D 0 pn pl) (hPo : PLok n pn pl) {hr : Nat} (hHr : D (31, 0) 13 = nI hr) (hr9 : hr ≤ 9999) {sm len : Nat} (hSm : D (30, 0) 25 = nI sm) (hLen : D (30, 0) 3 = nI len) (w : Int32) : Fok mX6_count idsA 3 [vr (30, 0), vi w] D (some (vi (countS n a dn dr pn pl hr sm len w))) D := by
  obtain ⟨hn3, hn8, hN, hK, hF, hd3, hDn, hDr, hp5, hPn⟩ := id hP
  refine Mok.of (L := [some (vr (30, 0)), some (vi w), none, none, none]) rfl (fun _ => Nat.le_of_ble_eq_true rfl) (fun _ => rfl) (fun X cx rq => ?_)
  refine g_iconst (v := nI 0) cx dX6_count_0 (by decide) ?_
  refine g_istore_n (L' := [some (vr (30, 0)), some (vi w), some (vi (nI 0)), none, none]) cx dX6_count_1 (by decide) rfl rfl ?_
  refine g_iconst (v := nI 0) cx dX6_count_2 (by decide) ?_
  refine g_istore_n (L' := [some (vr (30, 0)), some (vi w), some (vi (nI 0)), some (vi (nI 0)), none]) cx dX6_count_3 (by decide) rfl rfl ?_
  refine g_iconst (v := nI 0) cx dX6_count_4 (by decide) ?_
  refine g_istore (L' := [some (vr (30, 0)), some (vi w), some (vi (nI 0)), some (vi (nI 0)), some (vi (nI 0))]) cx dX6_count_5 (by decide) rfl rfl ?_
  have lp1 : ∀ (fu : Nat) (q : Nat), n - q < fu → (q ≤ n) → Gk X mX6_count idsA 7 [some (vr (30, 0)), some (vi w), some (vi (nI (bitsN (opn n a dn dr) q))), some (vi (nI 0)), some (vi (nI q))] [] D := by
    intro fu
    induction fu with
    | zero => intro q hfu; exact absurd hfu (Nat.not_lt_zero _)
    | succ fu ih =>
      intro q hfu hq
      refine g_iload cx dX6_count_7 rfl ?_
      refine g_aload_n cx dX6_count_9 rfl ?_
      refine g_getIN (i := (30, 0)) (ci := 6) (k := 6) (v := nI n) cx a30_0 rfl rfl rfl (by decide) inX6 lfX6_23 dX6_count_10 (hN) ?_
      refine g_icmp_geN (tgt := 43) cx dX6_count_13 (by decide) (by omega) (by omega) (fun h_13 => ?_) (fun h_13 => ?_)
      · skip
        have e9 : q = n := by omega
        refine g_loc (L' := [some (vr (30, 0)), some (vi w), some (vi (nI (bitsN (opn n a dn dr) n))), some (vi (nI 0)), some (vi (nI q))]) (by rw [e9]) ?_
        refine g_iconst (v := nI 0) cx dX6_count_43 (by decide) ?_
        refine g_istore (L' := [some (vr (30, 0)), some (vi w), some (vi (nI (bitsN (opn n a dn dr) n))), some (vi (nI 0)), some (vi (nI 0))]) cx dX6_count_44 (by decide) rfl rfl ?_
        have lp2 : ∀ (fu : Nat) (q : Nat), pn - q < fu → (q ≤ pn) → Gk X mX6_count idsA 46 [some (vr (30, 0)), some (vi w), some (vi (nI (bitsN (opn n a dn dr) n))), some (vi (nI (bitsN (fun p => decide (pl p = -1)) q))), some (vi (nI q))] [] D := by
          intro fu
          induction fu with
          | zero => intro q hfu; exact absurd hfu (Nat.not_lt_zero _)
          | succ fu ih =>
            intro q hfu hq
            refine g_iload cx dX6_count_46 rfl ?_
            refine g_aload_n cx dX6_count_48 rfl ?_
            refine g_getIN (i := (30, 0)) (ci := 6) (k := 11) (v := nI pn) cx a30_0 rfl rfl rfl (by decide) inX6 lfX6_153 dX6_count_49 (hPn) ?_
            refine g_icmp_geN (tgt := 86) cx dX6_count_52 (by decide) (by omega) (by omega) (fun h_52 => ?_) (fun h_52 => ?_)
            · skip
              have e8 : q = pn := by omega
              refine g_loc (L' := [some (vr (30, 0)), some (vi w), some (vi (nI (bitsN (opn n a dn dr) n))), some (vi (nI (bitsN (fun p => decide (pl p = -1)) pn))), some (vi (nI q))]) (by rw [e8]) ?_
              refine g_iload_n cx dX6_count_86 rfl ?_
              by_cases hin : lt0 w 8 = true
              · obtain ⟨j, hj, rfl⟩ := lt0_nI hin
                have hcs : j = 0 ∨ j = 1 ∨ j = 2 ∨ j = 3 ∨ j = 4 ∨ j = 5 ∨ j = 6 ∨ j = 7 := by omega
                rcases hcs with rfl | rfl | rfl | rfl | rfl | rfl | rfl | rfl
                · skip
                  refine g_tabIn (off := 45) (tgt := 132) cx dX6_count_87 (by decide) (by decide) (by decide) (by decide) ?_
                  refine g_aload_n cx dX6_count_132 rfl ?_
                  refine g_getIN (i := (30, 0)) (ci := 6) (k := 6) (v := nI n) cx a30_0 rfl rfl rfl (by decide) inX6 lfX6_23 dX6_count_133 (hN) ?_
                  exact g_fret cx rq rfl (rfl) dX6_count_136 (by first | (rw [countS, if_neg hin]; done) | (simp [countS, ppl, hin]; done) | (rw [countS, if_pos hin]; rfl)) (rfl)
                · skip
                  refine g_tabIn (off := 50) (tgt := 137) cx dX6_count_87 (by decide) (by decide) (by decide) (by decide) ?_
                  refine g_aload_n cx dX6_count_137 rfl ?_
                  refine g_getIN (i := (30, 0)) (ci := 6) (k := 10) (v := nI dn) cx a30_0 rfl rfl rfl (by decide) inX6 lfX6_150 dX6_count_138 (hDn) ?_
                  exact g_fret cx rq rfl (rfl) dX6_count_141 (by first | (rw [countS, if_neg hin]; done) | (simp [countS, ppl, hin]; done) | (rw [countS, if_pos hin]; rfl)) (rfl)
                · skip
                  refine g_tabIn (off := 55) (tgt := 142) cx dX6_count_87 (by decide) (by decide) (by decide) (by decide) ?_
                  refine g_aload_n cx dX6_count_142 rfl ?_
                  refine g_getIN (i := (30, 0)) (ci := 6) (k := 11) (v := nI pn) cx a30_0 rfl rfl rfl (by decide) inX6 lfX6_153 dX6_count_143 (hPn) ?_
                  exact g_fret cx rq rfl (rfl) dX6_count_146 (by first | (rw [countS, if_neg hin]; done) | (simp [countS, ppl, hin]; done) | (rw [countS, if_pos hin]; rfl)) (rfl)
                · skip
                  refine g_tabIn (off := 60) (tgt := 147) cx dX6_count_87 (by decide) (by decide) (by decide) (by decide) ?_
                  refine g_aload_n cx dX6_count_147 rfl ?_
                  refine g_getR (i := (30, 0)) (ci := 6) (k := 0) (j := (31, 0)) cx a30_0 rfl rfl rfl (by decide) inX6 lfX6_7 dX6_count_148 ?_
                  refine g_bipush (v := nI 13) cx dX6_count_151 (by decide) ?_
                  refine g_ialdN (i := (31, 0)) (j := 13) (v := nI hr) cx a31_0 rfl (rfl) (by omega) (by decide) dX6_count_153 (hHr) ?_
                  exact g_fret cx rq rfl (rfl) dX6_count_154 (by first | (rw [countS, if_neg hin]; done) | (simp [countS, ppl, hin]; done) | (rw [countS, if_pos hin]; rfl)) (rfl)
                · skip
                  refine g_tabIn (off := 68) (tgt := 155) cx dX6_count_87 (by decide) (by decide) (by decide) (by decide) ?_
                  refine g_iload_n cx dX6_count_155 rfl ?_
                  exact g_fret cx rq rfl (rfl) dX6_count_156 (by first | (rw [countS, if_neg hin]; done) | (simp [countS, ppl, hin]; done) | (rw [countS, if_pos hin]; rfl)) (rfl)
                · skip
                  refine g_tabIn (off := 70) (tgt := 157) cx dX6_count_87 (by decide) (by decide) (by decide) (by decide) ?_
                  refine g_iload_n cx dX6_count_157 rfl ?_
                  exact g_fret cx rq rfl (rfl) dX6_count_158 (by first | (rw [countS, if_neg hin]; done) | (simp [countS, ppl, hin]; done) | (rw [countS, if_pos hin]; rfl)) (rfl)
                · skip
                  refine g_tabIn (off := 72) (tgt := 159) cx dX6_count_87 (by decide) (by decide) (by decide) (by decide) ?_
                  refine g_aload_n cx dX6_count_159 rfl ?_
                  refine g_getIN (i := (30, 0)) (ci := 6) (k := 25) (v := nI sm) cx a30_0 rfl rfl rfl (by decide) inX6 lfX6_174 dX6_count_160 (hSm) ?_
                  exact g_fret cx rq rfl (rfl) dX6_count_163 (by first | (rw [countS, if_neg hin]; done) | (simp [countS, ppl, hin]; done) | (rw [countS, if_pos hin]; rfl)) (rfl)
                · skip
                  refine g_tabIn (off := 77) (tgt := 164) cx dX6_count_87 (by decide) (by decide) (by decide) (by decide) ?_
                  refine g_aload_n cx dX6_count_164 rfl ?_
                  refine g_getIN (i := (30, 0)) (ci := 6) (k := 3) (v := nI len) cx a30_0 rfl rfl rfl (by decide) inX6 lfX6_64 dX6_count_165 (hLen) ?_
                  exact g_fret cx rq rfl (rfl) dX6_count_168 (by first | (rw [countS, if_neg hin]; done) | (simp [countS, ppl, hin]; done) | (rw [countS, if_pos hin]; rfl)) (rfl)
              · skip
                refine g_tabOut (tgt := 169) cx dX6_count_87 (lt0_out hin) (by decide) ?_
                refine g_bipush (v := (-3)) cx dX6_count_169 (by decide) ?_
                exact g_fret cx rq rfl (rfl) dX6_count_171 (by first | (rw [countS, if_neg hin]; done) | (simp [countS, ppl, hin]; done) | (rw [countS, if_pos hin]; rfl)) (rfl)
            · skip
              refine g_iload_n cx dX6_count_55 rfl ?_
              refine g_aload_n cx dX6_count_56 rfl ?_
              refine g_getR (i := (30, 0)) (ci := 6) (k := 0) (j := (31, 0)) cx a30_0 rfl rfl rfl (by decide) inX6 lfX6_7 dX6_count_57 ?_
              refine g_bipush (v := nI 8) cx dX6_count_60 (by decide) ?_
              refine g_iload cx dX6_count_62 rfl ?_
              refine g_iaddN cx dX6_count_64 ?_
              refine g_ialdN (i := (31, 0)) (j := 8 + q) (v := (pl q)) cx a31_0 rfl (rfl) (by omega) (by decide) dX6_count_65 (hPl.z q (by omega)) ?_
              refine g_iconst (v := (-1)) cx dX6_count_66 (by decide) ?_
              refine g_icmp_ne (tgt := 77) cx dX6_count_67 (by decide) (fun h_67 => ?_) (fun h_67 => ?_)
              · skip
                refine g_iconst (v := nI 0) cx dX6_count_77 (by decide) ?_
                refine g_top (y := if decide (pl q = -1) then nI (2 ^ q) else nI 0) (by rw [if_neg (by simpa using h_67)]) ?_
                refine g_ior cx dX6_count_78 ?_
                refine g_top (bitsN_s (fun p => decide (pl p = -1)) q rfl) ?_
                refine g_istore_n (L' := [some (vr (30, 0)), some (vi w), some (vi (nI (bitsN (opn n a dn dr) n))), some (vi (nI (bitsN (fun p => decide (pl p = -1)) (q + 1)))), some (vi (nI q))]) cx dX6_count_79 (by decide) rfl rfl ?_
                refine g_iincN (L' := [some (vr (30, 0)), some (vi w), some (vi (nI (bitsN (opn n a dn dr) n))), some (vi (nI (bitsN (fun p => decide (pl p = -1)) (q + 1)))), some (vi (nI (q + 1)))]) cx dX6_count_80 rfl (by decide) rfl rfl ?_
                refine g_goto (tgt := 46) cx dX6_count_83 (by decide) ?_
                exact ih (q + 1) (by omega) (by omega)
              · skip
                refine g_iconst (v := nI 1) cx dX6_count_70 (by decide) ?_
                refine g_iload cx dX6_count_71 rfl ?_
                refine g_ishl cx dX6_count_73 ?_
                refine g_goto (tgt := 78) cx dX6_count_74 (by decide) ?_
                refine g_top (y := if decide (pl q = -1) then nI (2 ^ q) else nI 0) (by rw [if_pos (decide_eq_true h_67)]; exact nI_shl q (by omega)) ?_
                refine g_ior cx dX6_count_78 ?_
                refine g_top (bitsN_s (fun p => decide (pl p = -1)) q rfl) ?_
                refine g_istore_n (L' := [some (vr (30, 0)), some (vi w), some (vi (nI (bitsN (opn n a dn dr) n))), some (vi (nI (bitsN (fun p => decide (pl p = -1)) (q + 1)))), some (vi (nI q))]) cx dX6_count_79 (by decide) rfl rfl ?_
                refine g_iincN (L' := [some (vr (30, 0)), some (vi w), some (vi (nI (bitsN (opn n a dn dr) n))), some (vi (nI (bitsN (fun p => decide (pl p = -1)) (q + 1)))), some (vi (nI (q + 1)))]) cx dX6_count_80 rfl (by decide) rfl rfl ?_
                refine g_goto (tgt := 46) cx dX6_count_83 (by decide) ?_
                exact ih (q + 1) (by omega) (by omega)
        exact lp2 (pn + 1) 0 (by omega) (by omega)
      · skip
        refine g_iload_n cx dX6_count_16 rfl ?_
        refine g_aload_n cx dX6_count_17 rfl ?_
        refine g_iconst (v := nI 0) cx dX6_count_18 (by decide) ?_
        refine g_iload cx dX6_count_19 rfl ?_
        refine g_fcallV (As := [vi (nI 0), vi (nI q)]) (rest := [vi (nI (bitsN (opn n a dn dr) q))]) cx knX6_isOpen (m_isOpen hP hA (by omega) (i := q) (by omega)) a30_0 rfl rfl lmX6_186 niX6_isOpen seX6_isOpen rfl (by decide) (Nat.le_of_ble_eq_true rfl) rfl dX6_count_21 ?_
        refine g_if_eqB (tgt := 34) cx dX6_count_24 (by decide) (fun h_24 => ?_) (fun h_24 => ?_)
        · skip
          refine g_iconst (v := nI 0) cx dX6_count_34 (by decide) ?_
          refine g_top (y := if opn n a dn dr q then nI (2 ^ q) else nI 0) (by rw [if_neg h_24]) ?_
          refine g_ior cx dX6_count_35 ?_
          refine g_top (bitsN_s (opn n a dn dr) q rfl) ?_
          refine g_istore_n (L' := [some (vr (30, 0)), some (vi w), some (vi (nI (bitsN (opn n a dn dr) (q + 1)))), some (vi (nI 0)), some (vi (nI q))]) cx dX6_count_36 (by decide) rfl rfl ?_
          refine g_iincN (L' := [some (vr (30, 0)), some (vi w), some (vi (nI (bitsN (opn n a dn dr) (q + 1)))), some (vi (nI 0)), some (vi (nI (q + 1)))]) cx dX6_count_37 rfl (by decide) rfl rfl ?_
          refine g_goto (tgt := 7) cx dX6_count_40 (by decide) ?_
          exact ih (q + 1) (by omega) (by omega)
        · skip
          refine g_iconst (v := nI 1) cx dX6_count_27 (by decide) ?_
          refine g_iload cx dX6_count_28 rfl ?_
          refine g_ishl cx dX6_count_30 ?_
          refine g_goto (tgt := 35) cx dX6_count_31 (by decide) ?_
          refine g_top (y := if opn n a dn dr q then nI (2 ^ q) else nI 0) (by rw [if_pos h_24]; exact nI_shl q (by omega)) ?_
          refine g_ior cx dX6_count_35 ?_
          refine g_top (bitsN_s (opn n a dn dr) q rfl) ?_
          refine g_istore_n (L' := [some (vr (30, 0)), some (vi w), some (vi (nI (bitsN (opn n a dn dr) (q + 1)))), some (vi (nI 0)), some (vi (nI q))]) cx dX6_count_36 (by decide) rfl rfl ?_
          refine g_iincN (L' := [some (vr (30, 0)), some (vi w), some (vi (nI (bitsN (opn n a dn dr) (q + 1)))), some (vi (nI 0)), some (vi (nI (q + 1)))]) cx dX6_count_37 rfl (by decide) rfl rfl ?_
          refine g_goto (tgt := 7) cx dX6_count_40 (by decide) ?_
          exact ih (q + 1) (by omega) (by omega)
  exact lp1 (n + 1) 0 (by omega) (by omega)

set_option maxRecDepth 100000 in
set_option maxHeartbeats 4000000 in
theorem m_turnOn {D : Wd} {n : Nat} {k f : Nat → Nat} {dn : Nat} {dr : Nat → Nat} {pn : Nat} (hP : PM D n k f dn dr pn) {a : Nat → Nat} (hA : AM D 42 n a) {i s r : Nat} (hi : i < n) (hs : s < 2) (hr : r < n) : Fok mX6_turnOn idsA 5 [vr (30, 0), vi (nI i), vi (nI s), vi (nI r)] D (some (vi (trn n k f dn dr i s r a))) (Rw D 42 n (tmG n k f dn dr i s r 72 0 a).2) := by
  obtain ⟨hn3, hn8, hN, hK, hF, hd3, hDn, hDr, hp5, hPn⟩ := id hP
  refine Mok.of (L := [some (vr (30, 0)), some (vi (nI i)), some (vi (nI s)), some (vi (nI r)), none]) rfl (fun _ => Nat.le_of_ble_eq_true rfl) (fun _ => rfl) (fun X cx rq => ?_)
  refine g_iconst (v := nI 0) cx dX6_turnOn_0 (by decide) ?_
  refine g_istore (L' := [some (vr (30, 0)), some (vi (nI i)), some (vi (nI s)), some (vi (nI r)), some (vi (nI 0))]) cx dX6_turnOn_1 (by decide) rfl rfl ?_
  have lp : ∀ (fu : Nat) (c : Nat) (ac : Nat → Nat), 72 - c < fu → (c ≤ 72) → (∀ j, j < n → ac j < 72) → (tmG n k f dn dr i s r (72 - c) c ac = tmG n k f dn dr i s r 72 0 a) → Gk X mX6_turnOn idsA 3 [some (vr (30, 0)), some (vi (nI i)), some (vi (nI s)), some (vi (nI r)), some (vi (nI c))] [] (Rw D 42 n ac) := by
    intro fu
    induction fu with
    | zero => intro c ac hfu; exact absurd hfu (Nat.not_lt_zero _)
    | succ fu ih =>
      intro c ac hfu hc hac hm
      refine g_iload cx dX6_turnOn_3 rfl ?_
      refine g_bipush (v := nI 72) cx dX6_turnOn_5 (by decide) ?_
      refine g_icmp_geN (tgt := 37) cx dX6_turnOn_7 (by decide) (by omega) (by omega) (fun h_7 => ?_) (fun h_7 => ?_)
      · skip
        have e9 : 72 - c = 0 := by omega
        rw [e9] at hm
        have hm3 : (c, ac) = tmG n k f dn dr i s r 72 0 a := hm
        refine g_aload_n cx dX6_turnOn_37 rfl ?_
        refine g_bipush (v := nI 42) cx dX6_turnOn_38 (by decide) ?_
        refine g_iload_n cx dX6_turnOn_40 rfl ?_
        refine g_fcallV (As := [vi (nI 42), vi (nI r)]) (rest := []) cx knX6_isOpen (m_isOpen (Rw.P hP) (Rw.A hac) (by omega) (i := r) (by omega)) a30_0 rfl rfl lmX6_186 niX6_isOpen seX6_isOpen rfl (by decide) (Nat.le_of_ble_eq_true rfl) rfl dX6_turnOn_41 ?_
        refine g_if_eqB (tgt := 52) cx dX6_turnOn_44 (by decide) (fun h_44 => ?_) (fun h_44 => ?_)
        · skip
          refine g_iconst (v := (-1)) cx dX6_turnOn_52 (by decide) ?_
          exact g_fret cx rq rfl (rfl) dX6_turnOn_53 (by rw [trn, ← hm3, if_neg h_44]) (by rw [← hm3])
        · skip
          refine g_iload cx dX6_turnOn_47 rfl ?_
          refine g_goto (tgt := 53) cx dX6_turnOn_49 (by decide) ?_
          exact g_fret cx rq rfl (rfl) dX6_turnOn_53 (by rw [trn, ← hm3, if_pos h_44]) (by rw [← hm3])
      · skip
        obtain ⟨z, hz⟩ : ∃ z, 72 - c = z + 1 := ⟨72 - c - 1, by omega⟩
        rw [hz, tmG] at hm
        refine g_aload_n cx dX6_turnOn_10 rfl ?_
        refine g_bipush (v := nI 42) cx dX6_turnOn_11 (by decide) ?_
        refine g_iload_n cx dX6_turnOn_13 rfl ?_
        refine g_fcallV (As := [vi (nI 42), vi (nI r)]) (rest := []) cx knX6_isOpen (m_isOpen (Rw.P hP) (Rw.A hac) (by omega) (i := r) (by omega)) a30_0 rfl rfl lmX6_186 niX6_isOpen seX6_isOpen rfl (by decide) (Nat.le_of_ble_eq_true rfl) rfl dX6_turnOn_14 ?_
        refine g_if_neB (tgt := 37) cx dX6_turnOn_17 (by decide) (fun h_17 => ?_) (fun h_17 => ?_)
        · skip
          rw [if_pos h_17] at hm
          have hm3 : (c, ac) = tmG n k f dn dr i s r 72 0 a := hm
          refine g_aload_n cx dX6_turnOn_37 rfl ?_
          refine g_bipush (v := nI 42) cx dX6_turnOn_38 (by decide) ?_
          refine g_iload_n cx dX6_turnOn_40 rfl ?_
          refine g_fcallV (As := [vi (nI 42), vi (nI r)]) (rest := []) cx knX6_isOpen (m_isOpen (Rw.P hP) (Rw.A hac) (by omega) (i := r) (by omega)) a30_0 rfl rfl lmX6_186 niX6_isOpen seX6_isOpen rfl (by decide) (Nat.le_of_ble_eq_true rfl) rfl dX6_turnOn_41 ?_
          refine g_if_eqB (tgt := 52) cx dX6_turnOn_44 (by decide) (fun h_44 => ?_) (fun h_44 => ?_)
          · skip
            refine g_iconst (v := (-1)) cx dX6_turnOn_52 (by decide) ?_
            exact g_fret cx rq rfl (rfl) dX6_turnOn_53 (by rw [trn, ← hm3, if_neg h_44]) (by rw [← hm3])
          · skip
            refine g_iload cx dX6_turnOn_47 rfl ?_
            refine g_goto (tgt := 53) cx dX6_turnOn_49 (by decide) ?_
            exact g_fret cx rq rfl (rfl) dX6_turnOn_53 (by rw [trn, ← hm3, if_pos h_44]) (by rw [← hm3])
        · skip
          rw [if_neg h_17] at hm
          refine g_aload_n cx dX6_turnOn_20 rfl ?_
          refine g_bipush (v := nI 42) cx dX6_turnOn_21 (by decide) ?_
          refine g_iload_n cx dX6_turnOn_23 rfl ?_
          refine g_iload_n cx dX6_turnOn_24 rfl ?_
          refine g_fcallV (As := [vi (nI 42), vi (nI i), vi (nI s)]) (rest := []) cx knX6_step (m_step (Rw.P hP) (Rw.A hac) (by omega) (i := i) (s := s) (by omega) (by omega)) a30_0 rfl rfl lmX6_207 niX6_step seX6_step rfl (by decide) (Nat.le_of_ble_eq_true rfl) rfl dX6_turnOn_25 ?_
          refine g_wd (D' := Rw D 42 n (stp n ac k f i s)) (Rw.twice _ _ _ _ _) ?_
          refine g_if_eqB (tgt := 37) cx dX6_turnOn_28 (by decide) (fun h_28 => ?_) (fun h_28 => ?_)
          · skip
            have h0 : mov n ac k f i s = 0 := by omega
            rw [if_pos h0] at hm
            have hm3 : (c, ac) = tmG n k f dn dr i s r 72 0 a := hm
            refine g_wd (D' := Rw D 42 n ac) (by rw [stp_0 h0]) ?_
            refine g_aload_n cx dX6_turnOn_37 rfl ?_
            refine g_bipush (v := nI 42) cx dX6_turnOn_38 (by decide) ?_
            refine g_iload_n cx dX6_turnOn_40 rfl ?_
            refine g_fcallV (As := [vi (nI 42), vi (nI r)]) (rest := []) cx knX6_isOpen (m_isOpen (Rw.P hP) (Rw.A hac) (by omega) (i := r) (by omega)) a30_0 rfl rfl lmX6_186 niX6_isOpen seX6_isOpen rfl (by decide) (Nat.le_of_ble_eq_true rfl) rfl dX6_turnOn_41 ?_
            refine g_if_eqB (tgt := 52) cx dX6_turnOn_44 (by decide) (fun h_44 => ?_) (fun h_44 => ?_)
            · skip
              refine g_iconst (v := (-1)) cx dX6_turnOn_52 (by decide) ?_
              exact g_fret cx rq rfl (rfl) dX6_turnOn_53 (by rw [trn, ← hm3, if_neg h_44]) (by rw [← hm3])
            · skip
              refine g_iload cx dX6_turnOn_47 rfl ?_
              refine g_goto (tgt := 53) cx dX6_turnOn_49 (by decide) ?_
              exact g_fret cx rq rfl (rfl) dX6_turnOn_53 (by rw [trn, ← hm3, if_pos h_44]) (by rw [← hm3])
          · skip
            rw [if_neg (by omega)] at hm
            have hm2 : tmG n k f dn dr i s r (72 - (c + 1)) (c + 1) (stp n ac k f i s) = tmG n k f dn dr i s r 72 0 a := by
              have e9 : 72 - (c + 1) = z := by omega
              rw [e9]; exact hm
            refine g_iincN (L' := [some (vr (30, 0)), some (vi (nI i)), some (vi (nI s)), some (vi (nI r)), some (vi (nI (c + 1)))]) cx dX6_turnOn_31 rfl (by decide) rfl rfl ?_
            refine g_goto (tgt := 3) cx dX6_turnOn_34 (by decide) ?_
            exact ih (c + 1) (stp n ac k f i s) (by omega) (by omega) (fun j hj => stp_lt (hac j hj)) hm2
  refine g_wd (D' := Rw D 42 n a) ((Rw.self hA).symm) ?_
  exact lp 73 0 a (by omega) (by omega) (fun j hj => (hA j hj).2) rfl

set_option maxRecDepth 100000 in
set_option maxHeartbeats 4000000 in
theorem m_turnOf {D : Wd} {n : Nat} {k f : Nat → Nat} {dn : Nat} {dr : Nat → Nat} {pn : Nat} (hP : PM D n k f dn dr pn) {a : Nat → Nat} (hA : AM D 0 n a) {i s r : Nat} (hi : i < n) (hs : s < 2) (hr : r < n) : Mok mX6_turnOf idsA 6 [vr (30, 0), vi (nI i), vi (nI s), vi (nI r)] D (fun r' E' => r' = (some (vi (trn n k f dn dr i s r a))) ∧ TR D E') := by
  obtain ⟨hn3, hn8, hN, hK, hF, hd3, hDn, hDr, hp5, hPn⟩ := id hP
  refine Mok.of (L := [some (vr (30, 0)), some (vi (nI i)), some (vi (nI s)), some (vi (nI r))]) rfl (fun _ => Nat.le_of_ble_eq_true rfl) (fun _ => rfl) (fun X cx rq => ?_)
  refine g_aload_n cx dX6_turnOf_0 rfl ?_
  refine g_iconst (v := nI 0) cx dX6_turnOf_1 (by decide) ?_
  refine g_bipush (v := nI 42) cx dX6_turnOf_2 (by decide) ?_
  refine g_fcallVv (As := [vi (nI 0), vi (nI 42)]) (rest := []) cx knX6_copy (m_copy (fr := 0) (to := 42) (by omega) (by omega) (by omega)) a30_0 rfl rfl lmX6_170 niX6_copy seX6_copy rfl (by decide) (Nat.le_of_ble_eq_true rfl) rfl dX6_turnOf_4 ?_
  refine g_aload_n cx dX6_turnOf_7 rfl ?_
  refine g_iload_n cx dX6_turnOf_8 rfl ?_
  refine g_iload_n cx dX6_turnOf_9 rfl ?_
  refine g_iload_n cx dX6_turnOf_10 rfl ?_
  refine g_fcallV (As := [vi (nI i), vi (nI s), vi (nI r)]) (rest := []) cx knX6_turnOn (m_turnOn (TR.P (TR.cp D) hP) (cp_A hn8 hA) hi hs hr) a30_0 rfl rfl lmX6_227 niX6_turnOn seX6_turnOn rfl (by decide) (Nat.le_of_ble_eq_true rfl) rfl dX6_turnOf_11 ?_
  exact g_ret cx rq rfl (rfl) dX6_turnOf_14 ⟨rfl, TR.Rw hn8 (TR.cp D)⟩

set_option maxRecDepth 100000 in
set_option maxHeartbeats 4000000 in
theorem m_turn {D : Wd} {n : Nat} {k f : Nat → Nat} {dn : Nat} {dr : Nat → Nat} {pn : Nat} (hP : PM D n k f dn dr pn) {a : Nat → Nat} (hA : AM D 0 n a) (x s y : Int32) : Mok mX6_turn idsA 7 [vr (30, 0), vi x, vi s, vi y] D (fun r' E' => r' = (some (vi (turnS n k f dn dr a x s y))) ∧ TR D E') := by
  obtain ⟨hn3, hn8, hN, hK, hF, hd3, hDn, hDr, hp5, hPn⟩ := id hP
  refine Mok.of (L := [some (vr (30, 0)), some (vi x), some (vi s), some (vi y)]) rfl (fun _ => Nat.le_of_ble_eq_true rfl) (fun _ => rfl) (fun X cx rq => ?_)
  refine g_aload_n cx dX6_turn_0 rfl ?_
  refine g_iload_n cx dX6_turn_1 rfl ?_
  refine g_fcallV (As := [vi x]) (rest := []) cx knX6_isLeaf (m_isLeaf hP x) a30_0 rfl rfl lmX6_183 niX6_isLeaf seX6_isLeaf rfl (by decide) (Nat.le_of_ble_eq_true rfl) rfl dX6_turn_2 ?_
  refine g_if_eqB (tgt := 16) cx dX6_turn_5 (by decide) (fun h_5 => ?_) (fun h_5 => ?_)
  · skip
    refine g_bipush (v := (-2)) cx dX6_turn_16 (by decide) ?_
    exact g_ret cx rq rfl (rfl) dX6_turn_18 ⟨by simp [turnS, eq_false h_5], TR.refl D⟩
  · skip
    obtain ⟨j, hj, rfl⟩ := lt0_nI h_5
    have hjx : (nI j).toNatClampNeg = j := nI_clamp (by omega)
    refine g_aload_n cx dX6_turn_8 rfl ?_
    refine g_iload_n cx dX6_turn_9 rfl ?_
    refine g_fcallV (As := [vi y]) (rest := []) cx knX6_isLeaf (m_isLeaf hP y) a30_0 rfl rfl lmX6_183 niX6_isLeaf seX6_isLeaf rfl (by decide) (Nat.le_of_ble_eq_true rfl) rfl dX6_turn_10 ?_
    refine g_if_neB (tgt := 19) cx dX6_turn_13 (by decide) (fun h_13 => ?_) (fun h_13 => ?_)
    · skip
      obtain ⟨t, ht, rfl⟩ := lt0_nI h_13
      have htx : (nI t).toNatClampNeg = t := nI_clamp (by omega)
      refine g_iload_n cx dX6_turn_19 rfl ?_
      refine g_fcallS (As := [vi s]) (rest := []) cx knX6_isSide (m_isSide s) lmX6_210 nsX6_isSide rfl (by decide) (Nat.le_of_ble_eq_true rfl) rfl dX6_turn_20 ?_
      refine g_if_eqB (tgt := 36) cx dX6_turn_23 (by decide) (fun h_23 => ?_) (fun h_23 => ?_)
      · skip
        refine g_bipush (v := (-3)) cx dX6_turn_36 (by decide) ?_
        exact g_ret cx rq rfl (rfl) dX6_turn_38 ⟨by simp [turnS, eq_true h_5, eq_true h_13, eq_false h_23], TR.refl D⟩
      · skip
        obtain ⟨u, hu, rfl⟩ := lt0_nI h_23
        have hux : (nI u).toNatClampNeg = u := nI_clamp (by omega)
        refine g_aload_n cx dX6_turn_26 rfl ?_
        refine g_iload_n cx dX6_turn_27 rfl ?_
        refine g_iload_n cx dX6_turn_28 rfl ?_
        refine g_iload_n cx dX6_turn_29 rfl ?_
        refine g_callV (As := [vi (nI j), vi (nI u), vi (nI t)]) (rest := []) cx knX6_turnOf (m_turnOf hP hA (i := j) (s := u) (r := t) (by omega) (by omega) (by omega)) a30_0 rfl rfl lmX6_230 niX6_turnOf seX6_turnOf rfl (by decide) (Nat.le_of_ble_eq_true rfl) rfl dX6_turn_30 (fun r0 E2 hp0 => ?_)
        obtain ⟨rfl, hT2⟩ := hp0
        show Gk X mX6_turn idsA 33 [some (vr (30, 0)), some (vi (nI j)), some (vi (nI u)), some (vi (nI t))] [vi (trn n k f dn dr j u t a)] E2
        refine g_goto (tgt := 38) cx dX6_turn_33 (by decide) ?_
        exact g_ret cx rq rfl (rfl) dX6_turn_38 ⟨by simp [turnS, eq_true h_5, eq_true h_13, eq_true h_23, hjx, htx, hux], hT2⟩
    · skip
      refine g_bipush (v := (-2)) cx dX6_turn_16 (by decide) ?_
      exact g_ret cx rq rfl (rfl) dX6_turn_18 ⟨by simp [turnS, eq_false h_13], TR.refl D⟩
