set_option maxRecDepth 100000 in
set_option maxHeartbeats 4000000 in
theorem m_keep {D : Wd} {hr : Nat} (hHr : D (31, 0) 13 = nI hr) (hr9 : hr ≤ 9999) (x : Int32) : Fok mX6_keep idsA 1 [vr (30, 0), vi x] D (some (vi (if lt0 x 2 then nI hr else -2))) (if lt0 x 2 then upA (upA D (31, 0) (cpR (D (31, 0)) 0 (14 * (1 + ix x)) 14)) (32, 0) (upd (D (32, 0)) (ix x) (nI 1)) else D) := by
  refine Mok.of (L := [some (vr (30, 0)), some (vi x)]) rfl (fun _ => Nat.le_of_ble_eq_true rfl) (fun _ => rfl) (fun X cx rq => ?_)
  refine g_iload_n cx dX6_keep_0 rfl ?_
  refine g_i2l cx dX6_keep_1 ?_
  refine g_lconst (v := 0) cx dX6_keep_2 (by decide) ?_
  refine g_lconst (v := 1) cx dX6_keep_3 (by decide) ?_
  refine g_fcallS (As := [vl x.toInt64, vl 0, vl 1]) (rest := []) cx knX6_in (m_in x.toInt64 0 1) lmX6_60 nsX6_in rfl (by decide) (Nat.le_of_ble_eq_true rfl) rfl dX6_keep_4 ?_
  refine g_top (bi_iff (in_iff0 (n := 2) (by decide) (by decide) (by decide))) ?_
  refine g_if_neB (tgt := 13) cx dX6_keep_7 (by decide) (fun h_7 => ?_) (fun h_7 => ?_)
  · skip
    obtain ⟨j, hj, rfl⟩ := lt0_nI h_7
    have hjx : (nI j).toNatClampNeg = j := nI_clamp (by omega)
    refine g_aload_n cx dX6_keep_13 rfl ?_
    refine g_iconst (v := nI 0) cx dX6_keep_14 (by decide) ?_
    refine g_bipush (v := nI 14) cx dX6_keep_15 (by decide) ?_
    refine g_iconst (v := nI 1) cx dX6_keep_17 (by decide) ?_
    refine g_iload_n cx dX6_keep_18 rfl ?_
    refine g_iaddN cx dX6_keep_19 ?_
    refine g_imulN cx dX6_keep_20 ?_
    refine g_fcallVv (As := [vi (nI 0), vi (nI (14 * (1 + j)))]) (rest := []) cx knX6_copy (m_copy (fr := 0) (to := 14 * (1 + j)) (by omega) (by omega) (by omega)) a30_0 rfl rfl lmX6_170 niX6_copy seX6_copy rfl (by decide) (Nat.le_of_ble_eq_true rfl) rfl dX6_keep_21 ?_
    refine g_aload_n cx dX6_keep_24 rfl ?_
    refine g_getR (i := (30, 0)) (ci := 6) (k := 1) (j := (32, 0)) cx a30_0 rfl rfl rfl (by decide) inX6 lfX6_13 dX6_keep_25 ?_
    refine g_iload_n cx dX6_keep_28 rfl ?_
    refine g_iconst (v := nI 1) cx dX6_keep_29 (by decide) ?_
    refine g_zast (i := (32, 0)) (j := j) (v' := nI 1) cx a32_0 rfl (rfl) (by omega) (by decide) rfl dX6_keep_30 ?_
    refine g_aload_n cx dX6_keep_31 rfl ?_
    refine g_getR (i := (30, 0)) (ci := 6) (k := 0) (j := (31, 0)) cx a30_0 rfl rfl rfl (by decide) inX6 lfX6_7 dX6_keep_32 ?_
    refine g_bipush (v := nI 13) cx dX6_keep_35 (by decide) ?_
    refine g_ialdN (i := (31, 0)) (j := 13) (v := nI hr) cx a31_0 rfl (rfl) (by omega) (by decide) dX6_keep_37 (by rw [upA_n _ _ (by decide), upA_s, cpR_out (by omega)]; exact hHr) ?_
    exact g_fret cx rq rfl (rfl) dX6_keep_38 (by simp [eq_true h_7]) (by simp [eq_true h_7, hjx, upA_n])
  · skip
    refine g_bipush (v := (-2)) cx dX6_keep_10 (by decide) ?_
    exact g_fret cx rq rfl (rfl) dX6_keep_12 (by simp [eq_false h_7]) (by simp [eq_false h_7])

set_option maxRecDepth 100000 in
set_option maxHeartbeats 4000000 in
theorem m_back {D : Wd} {kp : Nat → Nat} (hKf : ∀ q, q < 2 → D (32, 0) q = nI (kp q) ∧ kp q < 2) (x : Int32) : Fok mX6_back idsA 1 [vr (30, 0), vi x] D (some (vi (if lt0 x 2 then (if kp (ix x) = 0 then -4 else D (31, 0) (14 * (1 + ix x) + 13)) else -2))) (if lt0 x 2 && decide (kp (ix x) ≠ 0) then upA D (31, 0) (cpR (D (31, 0)) (14 * (1 + ix x)) 0 14) else D) := by
  refine Mok.of (L := [some (vr (30, 0)), some (vi x)]) rfl (fun _ => Nat.le_of_ble_eq_true rfl) (fun _ => rfl) (fun X cx rq => ?_)
  refine g_iload_n cx dX6_back_0 rfl ?_
  refine g_i2l cx dX6_back_1 ?_
  refine g_lconst (v := 0) cx dX6_back_2 (by decide) ?_
  refine g_lconst (v := 1) cx dX6_back_3 (by decide) ?_
  refine g_fcallS (As := [vl x.toInt64, vl 0, vl 1]) (rest := []) cx knX6_in (m_in x.toInt64 0 1) lmX6_60 nsX6_in rfl (by decide) (Nat.le_of_ble_eq_true rfl) rfl dX6_back_4 ?_
  refine g_top (bi_iff (in_iff0 (n := 2) (by decide) (by decide) (by decide))) ?_
  refine g_if_neB (tgt := 13) cx dX6_back_7 (by decide) (fun h_7 => ?_) (fun h_7 => ?_)
  · skip
    obtain ⟨j, hj, rfl⟩ := lt0_nI h_7
    have hjx : (nI j).toNatClampNeg = j := nI_clamp (by omega)
    refine g_aload_n cx dX6_back_13 rfl ?_
    refine g_getR (i := (30, 0)) (ci := 6) (k := 1) (j := (32, 0)) cx a30_0 rfl rfl rfl (by decide) inX6 lfX6_13 dX6_back_14 ?_
    refine g_iload_n cx dX6_back_17 rfl ?_
    refine g_zald (i := (32, 0)) (j := j) cx a32_0 rfl (rfl) (by omega) (by decide) dX6_back_18 ?_
    refine g_top (y := nI (kp j)) ((hKf j (by omega)).1) ?_
    have hkj := (hKf j (by omega)).2
    refine g_if_neN (tgt := 25) cx dX6_back_19 (by decide) (by omega) (fun h_19 => ?_) (fun h_19 => ?_)
    · skip
      refine g_aload_n cx dX6_back_25 rfl ?_
      refine g_bipush (v := nI 14) cx dX6_back_26 (by decide) ?_
      refine g_iconst (v := nI 1) cx dX6_back_28 (by decide) ?_
      refine g_iload_n cx dX6_back_29 rfl ?_
      refine g_iaddN cx dX6_back_30 ?_
      refine g_imulN cx dX6_back_31 ?_
      refine g_iconst (v := nI 0) cx dX6_back_32 (by decide) ?_
      refine g_fcallVv (As := [vi (nI (14 * (1 + j))), vi (nI 0)]) (rest := []) cx knX6_copy (m_copy (fr := 14 * (1 + j)) (to := 0) (by omega) (by omega) (by omega)) a30_0 rfl rfl lmX6_170 niX6_copy seX6_copy rfl (by decide) (Nat.le_of_ble_eq_true rfl) rfl dX6_back_33 ?_
      refine g_aload_n cx dX6_back_36 rfl ?_
      refine g_getR (i := (30, 0)) (ci := 6) (k := 0) (j := (31, 0)) cx a30_0 rfl rfl rfl (by decide) inX6 lfX6_7 dX6_back_37 ?_
      refine g_bipush (v := nI 13) cx dX6_back_40 (by decide) ?_
      refine g_ialdN (i := (31, 0)) (j := 13) (v := (D (31, 0) (14 * (1 + j) + 13))) cx a31_0 rfl (rfl) (by omega) (by decide) dX6_back_42 (by rw [upA_s]; exact cpR_in (to := 0) (q := 13) (by decide)) ?_
      exact g_fret cx rq rfl (rfl) dX6_back_43 (by simp [eq_true h_7, hjx, h_19]) (by simp [eq_true h_7, hjx, h_19])
    · skip
      refine g_bipush (v := (-4)) cx dX6_back_22 (by decide) ?_
      exact g_fret cx rq rfl (rfl) dX6_back_24 (by simp [eq_true h_7, hjx, h_19]) (by simp [hjx, h_19])
  · skip
    refine g_bipush (v := (-2)) cx dX6_back_10 (by decide) ?_
    exact g_fret cx rq rfl (rfl) dX6_back_12 (by simp [eq_false h_7]) (by simp [eq_false h_7])

set_option maxRecDepth 100000 in
set_option maxHeartbeats 4000000 in
theorem m_slam {D : Wd} {n : Nat} {k f : Nat → Nat} {dn : Nat} {dr : Nat → Nat} {pn : Nat} (hP : PM D n k f dn dr pn) {a : Nat → Nat} (hA : AM D 0 n a) (hW : ∀ r, r < n → f r + 1 ≤ wid n a r) (x s w : Int32) : Fok mX6_slam idsA 2 [vr (30, 0), vi x, vi s, vi w] D (some (vi (slamS n k f a x s w))) D := by
  obtain ⟨hn3, hn8, hN, hK, hF, hd3, hDn, hDr, hp5, hPn⟩ := id hP
  refine Mok.of (L := [some (vr (30, 0)), some (vi x), some (vi s), some (vi w), none]) rfl (fun _ => Nat.le_of_ble_eq_true rfl) (fun _ => rfl) (fun X cx rq => ?_)
  refine g_aload_n cx dX6_slam_0 rfl ?_
  refine g_iload_n cx dX6_slam_1 rfl ?_
  refine g_fcallV (As := [vi x]) (rest := []) cx knX6_isLeaf (m_isLeaf hP x) a30_0 rfl rfl lmX6_183 niX6_isLeaf seX6_isLeaf rfl (by decide) (Nat.le_of_ble_eq_true rfl) rfl dX6_slam_2 ?_
  refine g_if_neB (tgt := 11) cx dX6_slam_5 (by decide) (fun h_5 => ?_) (fun h_5 => ?_)
  · skip
    obtain ⟨j, hj, rfl⟩ := lt0_nI h_5
    have hjx : (nI j).toNatClampNeg = j := nI_clamp (by omega)
    have hkj := (hK j hj).2
    refine g_iload_n cx dX6_slam_11 rfl ?_
    refine g_fcallS (As := [vi s]) (rest := []) cx knX6_isSide (m_isSide s) lmX6_210 nsX6_isSide rfl (by decide) (Nat.le_of_ble_eq_true rfl) rfl dX6_slam_12 ?_
    refine g_if_eqB (tgt := 28) cx dX6_slam_15 (by decide) (fun h_15 => ?_) (fun h_15 => ?_)
    · skip
      refine g_bipush (v := (-3)) cx dX6_slam_28 (by decide) ?_
      exact g_fret cx rq rfl (rfl) dX6_slam_30 (by simp [slamS, eq_true h_5, eq_false h_15]) (rfl)
    · skip
      obtain ⟨t, ht, rfl⟩ := lt0_nI h_15
      have htx : (nI t).toNatClampNeg = t := nI_clamp (by omega)
      refine g_iload_n cx dX6_slam_18 rfl ?_
      refine g_i2l cx dX6_slam_19 ?_
      refine g_lconst (v := 0) cx dX6_slam_20 (by decide) ?_
      refine g_lconst (v := 1) cx dX6_slam_21 (by decide) ?_
      refine g_fcallS (As := [vl w.toInt64, vl 0, vl 1]) (rest := []) cx knX6_in (m_in w.toInt64 0 1) lmX6_60 nsX6_in rfl (by decide) (Nat.le_of_ble_eq_true rfl) rfl dX6_slam_22 ?_
      refine g_top (bi_iff (in_iff0 (n := 2) (by decide) (by decide) (by decide))) ?_
      refine g_if_neB (tgt := 31) cx dX6_slam_25 (by decide) (fun h_25 => ?_) (fun h_25 => ?_)
      · skip
        refine g_aload_n cx dX6_slam_31 rfl ?_
        refine g_getR (i := (30, 0)) (ci := 6) (k := 7) (j := (35, 0)) cx a30_0 rfl rfl rfl (by decide) inX6 lfX6_27 dX6_slam_32 ?_
        refine g_iload_n cx dX6_slam_35 rfl ?_
        refine g_ialdN (i := (35, 0)) (j := j) (v := nI (k j)) cx a35_0 rfl (rfl) (by omega) (by decide) dX6_slam_36 ((hK j (by omega)).1) ?_
        refine g_iconst (v := nI 3) cx dX6_slam_37 (by decide) ?_
        refine g_icmp_neN (tgt := 44) cx dX6_slam_38 (by decide) (by omega) (by omega) (fun h_38 => ?_) (fun h_38 => ?_)
        · skip
          have jn : Gk X mX6_slam idsA 59 [some (vr (30, 0)), some (vi (nI j)), some (vi (nI t)), some (vi w), some (vi (nI (rmB n j t)))] [] D := by
            have hrm := rmB_lt (s := t) hj
            have hwd := hW _ hrm
            have hw2 := wid_lt hrm (fun j hj => (hA j hj).2)
            refine g_iload_n cx dX6_slam_59 rfl ?_
            refine g_if_ne (tgt := 83) cx dX6_slam_60 (by decide) (fun h_60 => ?_) (fun h_60 => ?_)
            · skip
              refine g_iload_n cx dX6_slam_83 rfl ?_
              refine g_if_neN (tgt := 95) cx dX6_slam_84 (by decide) (by omega) (fun h_84 => ?_) (fun h_84 => ?_)
              · skip
                refine g_aload_n cx dX6_slam_95 rfl ?_
                refine g_iload_n cx dX6_slam_96 rfl ?_
                refine g_fcallV (As := [vi (nI j)]) (rest := []) cx knX6_ahead (m_ahead hP (i := j) (by omega)) a30_0 rfl rfl lmX6_192 niX6_ahead seX6_ahead rfl (by decide) (Nat.le_of_ble_eq_true rfl) rfl dX6_slam_97 ?_
                exact g_fret cx rq rfl (rfl) dX6_slam_100 (by simp [slamS, eq_true h_5, eq_true h_15, eq_true h_25, hjx, htx, h_38, eq_false h_60, lfB, eq_false h_84]) (rfl)
              · skip
                refine g_aload_n cx dX6_slam_87 rfl ?_
                refine g_iload_n cx dX6_slam_88 rfl ?_
                refine g_fcallV (As := [vi (nI j)]) (rest := []) cx knX6_next (m_next hP (i := j) (by omega)) a30_0 rfl rfl lmX6_177 niX6_next seX6_next rfl (by decide) (Nat.le_of_ble_eq_true rfl) rfl dX6_slam_89 ?_
                refine g_goto (tgt := 100) cx dX6_slam_92 (by decide) ?_
                exact g_fret cx rq rfl (rfl) dX6_slam_100 (by simp [slamS, eq_true h_5, eq_true h_15, eq_true h_25, hjx, htx, h_38, eq_false h_60, lfB, eq_true h_84]) (rfl)
            · skip
              refine g_aload_n cx dX6_slam_63 rfl ?_
              refine g_iconst (v := nI 0) cx dX6_slam_64 (by decide) ?_
              refine g_iload cx dX6_slam_65 rfl ?_
              refine g_fcallV (As := [vi (nI 0), vi (nI (rmB n j t))]) (rest := []) cx knX6_width (m_width hP hA (by omega) (i := rmB n j t) (by omega)) a30_0 rfl rfl lmX6_180 niX6_width seX6_width rfl (by decide) (Nat.le_of_ble_eq_true rfl) rfl dX6_slam_67 ?_
              refine g_aload_n cx dX6_slam_70 rfl ?_
              refine g_getR (i := (30, 0)) (ci := 6) (k := 8) (j := (36, 0)) cx a30_0 rfl rfl rfl (by decide) inX6 lfX6_30 dX6_slam_71 ?_
              refine g_iload cx dX6_slam_74 rfl ?_
              refine g_ialdN (i := (36, 0)) (j := rmB n j t) (v := nI (f (rmB n j t))) cx a36_0 rfl (rfl) (by omega) (by decide) dX6_slam_76 ((hF (rmB n j t) (by omega)).1) ?_
              refine g_isubN cx dX6_slam_77 (by omega) ?_
              refine g_iconst (v := nI 1) cx dX6_slam_78 (by decide) ?_
              refine g_isubN cx dX6_slam_79 (by omega) ?_
              refine g_goto (tgt := 100) cx dX6_slam_80 (by decide) ?_
              exact g_fret cx rq rfl (rfl) dX6_slam_100 (by simp [slamS, eq_true h_5, eq_true h_15, eq_true h_25, hjx, htx, h_38, eq_true h_60]) (rfl)
          refine g_iload_n cx dX6_slam_44 rfl ?_
          refine g_if_neN (tgt := 52) cx dX6_slam_45 (by decide) (by omega) (fun h_45 => ?_) (fun h_45 => ?_)
          · skip
            refine g_aload_n cx dX6_slam_52 rfl ?_
            refine g_iload_n cx dX6_slam_53 rfl ?_
            refine g_fcallV (As := [vi (nI j)]) (rest := []) cx knX6_ahead (m_ahead hP (i := j) (by omega)) a30_0 rfl rfl lmX6_192 niX6_ahead seX6_ahead rfl (by decide) (Nat.le_of_ble_eq_true rfl) rfl dX6_slam_54 ?_
            refine g_top (y := nI (rmB n j t)) (by unfold rmB; rw [if_neg h_45]) ?_
            have hrm := rmB_lt (s := t) hj
            have hwd := hW _ hrm
            refine g_istore (L' := [some (vr (30, 0)), some (vi (nI j)), some (vi (nI t)), some (vi w), some (vi (nI (rmB n j t)))]) cx dX6_slam_57 (by decide) rfl rfl ?_
            exact jn
          · skip
            refine g_iload_n cx dX6_slam_48 rfl ?_
            refine g_goto (tgt := 57) cx dX6_slam_49 (by decide) ?_
            refine g_top (y := nI (rmB n j t)) (by unfold rmB; rw [if_pos h_45]) ?_
            have hrm := rmB_lt (s := t) hj
            have hwd := hW _ hrm
            refine g_istore (L' := [some (vr (30, 0)), some (vi (nI j)), some (vi (nI t)), some (vi w), some (vi (nI (rmB n j t)))]) cx dX6_slam_57 (by decide) rfl rfl ?_
            exact jn
        · skip
          refine g_bipush (v := (-4)) cx dX6_slam_41 (by decide) ?_
          exact g_fret cx rq rfl (rfl) dX6_slam_43 (by simp [slamS, eq_true h_5, eq_true h_15, eq_true h_25, hjx, h_38]) (rfl)
      · skip
        refine g_bipush (v := (-3)) cx dX6_slam_28 (by decide) ?_
        exact g_fret cx rq rfl (rfl) dX6_slam_30 (by simp [slamS, eq_true h_5, eq_true h_15, eq_false h_25]) (rfl)
  · skip
    refine g_bipush (v := (-2)) cx dX6_slam_8 (by decide) ?_
    exact g_fret cx rq rfl (rfl) dX6_slam_10 (by simp [slamS, eq_false h_5]) (rfl)

set_option maxRecDepth 100000 in
set_option maxHeartbeats 4000000 in
theorem m_further {D : Wd} {n : Nat} {k f : Nat → Nat} {dn : Nat} {dr : Nat → Nat} {pn : Nat} (hP : PM D n k f dn dr pn) {a : Nat → Nat} (hA : AM D 0 n a) (w : Int32) : Fok mX6_further idsA 2 [vr (30, 0), vi w] D (some (vi (furS n a w))) D := by
  obtain ⟨hn3, hn8, hN, hK, hF, hd3, hDn, hDr, hp5, hPn⟩ := id hP
  refine Mok.of (L := [some (vr (30, 0)), some (vi w), none, none]) rfl (fun _ => Nat.le_of_ble_eq_true rfl) (fun _ => rfl) (fun X cx rq => ?_)
  refine g_iload_n cx dX6_further_0 rfl ?_
  refine g_i2l cx dX6_further_1 ?_
  refine g_lconst (v := 0) cx dX6_further_2 (by decide) ?_
  refine g_lconst (v := 1) cx dX6_further_3 (by decide) ?_
  refine g_fcallS (As := [vl w.toInt64, vl 0, vl 1]) (rest := []) cx knX6_in (m_in w.toInt64 0 1) lmX6_60 nsX6_in rfl (by decide) (Nat.le_of_ble_eq_true rfl) rfl dX6_further_4 ?_
  refine g_top (bi_iff (in_iff0 (n := 2) (by decide) (by decide) (by decide))) ?_
  refine g_if_neB (tgt := 13) cx dX6_further_7 (by decide) (fun h_7 => ?_) (fun h_7 => ?_)
  · skip
    refine g_iconst (v := nI 0) cx dX6_further_13 (by decide) ?_
    refine g_istore_n (L' := [some (vr (30, 0)), some (vi w), some (vi (nI 0)), none]) cx dX6_further_14 (by decide) rfl rfl ?_
    refine g_iconst (v := nI 1) cx dX6_further_15 (by decide) ?_
    refine g_istore_n (L' := [some (vr (30, 0)), some (vi w), some (vi (nI 0)), some (vi (nI 1))]) cx dX6_further_16 (by decide) rfl rfl ?_
    refine g_loc (L' := [some (vr (30, 0)), some (vi w), some (vi (nI (furG n a 1))), some (vi (nI 1))]) (by rw [show furG n a 1 = 0 from by simp [furG]]) ?_
    have lp : ∀ (fu : Nat) (q : Nat), n - q < fu → (q ≤ n) → (1 ≤ q) → Gk X mX6_further idsA 17 [some (vr (30, 0)), some (vi w), some (vi (nI (furG n a q))), some (vi (nI q))] [] D := by
      intro fu
      induction fu with
      | zero => intro q hfu; exact absurd hfu (Nat.not_lt_zero _)
      | succ fu ih =>
        intro q hfu hq hq1
        have hfl := furG_le (a := a) hq (by omega)
        have hfw := wid_lt hfl (fun j hj => (hA j hj).2)
        refine g_iload_n cx dX6_further_17 rfl ?_
        refine g_aload_n cx dX6_further_18 rfl ?_
        refine g_getIN (i := (30, 0)) (ci := 6) (k := 6) (v := nI n) cx a30_0 rfl rfl rfl (by decide) inX6 lfX6_23 dX6_further_19 (hN) ?_
        refine g_icmp_geN (tgt := 56) cx dX6_further_22 (by decide) (by omega) (by omega) (fun h_22 => ?_) (fun h_22 => ?_)
        · skip
          have e : q = n := by omega
          refine g_iload_n cx dX6_further_56 rfl ?_
          refine g_if_ne (tgt := 64) cx dX6_further_57 (by decide) (fun h_57 => ?_) (fun h_57 => ?_)
          · skip
            refine g_aload_n cx dX6_further_64 rfl ?_
            refine g_iconst (v := nI 0) cx dX6_further_65 (by decide) ?_
            refine g_iload_n cx dX6_further_66 rfl ?_
            refine g_fcallV (As := [vi (nI 0), vi (nI (furG n a q))]) (rest := []) cx knX6_width (m_width hP hA (by omega) (i := furG n a q) (by omega)) a30_0 rfl rfl lmX6_180 niX6_width seX6_width rfl (by decide) (Nat.le_of_ble_eq_true rfl) rfl dX6_further_67 ?_
            refine g_iconst (v := nI 2) cx dX6_further_70 (by decide) ?_
            refine g_idivN cx dX6_further_71 (by omega) (by omega) (by omega) ?_
            exact g_fret cx rq rfl (rfl) dX6_further_72 (by simp [furS, eq_true h_7, eq_false h_57, e]) (rfl)
          · skip
            refine g_iload_n cx dX6_further_60 rfl ?_
            refine g_goto (tgt := 72) cx dX6_further_61 (by decide) ?_
            exact g_fret cx rq rfl (rfl) dX6_further_72 (by simp [furS, eq_true h_7, eq_true h_57, e]) (rfl)
        · skip
          have hqw := wid_lt h_22 (fun j hj => (hA j hj).2)
          refine g_aload_n cx dX6_further_25 rfl ?_
          refine g_iconst (v := nI 0) cx dX6_further_26 (by decide) ?_
          refine g_iload_n cx dX6_further_27 rfl ?_
          refine g_fcallV (As := [vi (nI 0), vi (nI q)]) (rest := []) cx knX6_width (m_width hP hA (by omega) (i := q) (by omega)) a30_0 rfl rfl lmX6_180 niX6_width seX6_width rfl (by decide) (Nat.le_of_ble_eq_true rfl) rfl dX6_further_28 ?_
          refine g_iconst (v := nI 2) cx dX6_further_31 (by decide) ?_
          refine g_idivN cx dX6_further_32 (by omega) (by omega) (by omega) ?_
          refine g_aload_n cx dX6_further_33 rfl ?_
          refine g_iconst (v := nI 0) cx dX6_further_34 (by decide) ?_
          refine g_iload_n cx dX6_further_35 rfl ?_
          refine g_fcallV (As := [vi (nI 0), vi (nI (furG n a q))]) (rest := [vi (nI ((wid n a q) / 2))]) cx knX6_width (m_width hP hA (by omega) (i := furG n a q) (by omega)) a30_0 rfl rfl lmX6_180 niX6_width seX6_width rfl (by decide) (Nat.le_of_ble_eq_true rfl) rfl dX6_further_36 ?_
          refine g_iconst (v := nI 2) cx dX6_further_39 (by decide) ?_
          refine g_idivN cx dX6_further_40 (by omega) (by omega) (by omega) ?_
          refine g_icmp_leN (tgt := 48) cx dX6_further_41 (by decide) (by omega) (by omega) (fun h_41 => ?_) (fun h_41 => ?_)
          · skip
            refine g_iload_n cx dX6_further_48 rfl ?_
            refine g_top (y := nI (furG n a (q + 1))) (by rw [furG, if_neg (by omega)]) ?_
            refine g_istore_n (L' := [some (vr (30, 0)), some (vi w), some (vi (nI (furG n a (q + 1)))), some (vi (nI q))]) cx dX6_further_49 (by decide) rfl rfl ?_
            refine g_iincN (L' := [some (vr (30, 0)), some (vi w), some (vi (nI (furG n a (q + 1)))), some (vi (nI (q + 1)))]) cx dX6_further_50 rfl (by decide) rfl rfl ?_
            refine g_goto (tgt := 17) cx dX6_further_53 (by decide) ?_
            exact ih (q + 1) (by omega) (by omega) (by omega)
          · skip
            refine g_iload_n cx dX6_further_44 rfl ?_
            refine g_goto (tgt := 49) cx dX6_further_45 (by decide) ?_
            refine g_top (y := nI (furG n a (q + 1))) (by rw [furG, if_pos h_41]) ?_
            refine g_istore_n (L' := [some (vr (30, 0)), some (vi w), some (vi (nI (furG n a (q + 1)))), some (vi (nI q))]) cx dX6_further_49 (by decide) rfl rfl ?_
            refine g_iincN (L' := [some (vr (30, 0)), some (vi w), some (vi (nI (furG n a (q + 1)))), some (vi (nI (q + 1)))]) cx dX6_further_50 rfl (by decide) rfl rfl ?_
            refine g_goto (tgt := 17) cx dX6_further_53 (by decide) ?_
            exact ih (q + 1) (by omega) (by omega) (by omega)
    exact lp (n + 1) 1 (by omega) (by omega) (by omega)
  · skip
    refine g_bipush (v := (-3)) cx dX6_further_10 (by decide) ?_
    exact g_fret cx rq rfl (rfl) dX6_further_12 (by simp [furS, eq_false h_7]) (rfl)

set_option maxRecDepth 100000 in
set_option maxHeartbeats 4000000 in
theorem m_share {D : Wd} {n : Nat} {k f : Nat → Nat} {dn : Nat} {dr : Nat → Nat} {pn : Nat} (hP : PM D n k f dn dr pn) {a : Nat → Nat} (hA : AM D 0 n a) (x w : Int32) : Fok mX6_share idsA 2 [vr (30, 0), vi x, vi w] D (some (vi (shareS n a x w))) D := by
  obtain ⟨hn3, hn8, hN, hK, hF, hd3, hDn, hDr, hp5, hPn⟩ := id hP
  refine Mok.of (L := [some (vr (30, 0)), some (vi x), some (vi w), none, none, none]) rfl (fun _ => Nat.le_of_ble_eq_true rfl) (fun _ => rfl) (fun X cx rq => ?_)
  refine g_aload_n cx dX6_share_0 rfl ?_
  refine g_iload_n cx dX6_share_1 rfl ?_
  refine g_fcallV (As := [vi x]) (rest := []) cx knX6_isLeaf (m_isLeaf hP x) a30_0 rfl rfl lmX6_183 niX6_isLeaf seX6_isLeaf rfl (by decide) (Nat.le_of_ble_eq_true rfl) rfl dX6_share_2 ?_
  refine g_if_neB (tgt := 11) cx dX6_share_5 (by decide) (fun h_5 => ?_) (fun h_5 => ?_)
  · skip
    obtain ⟨j, hj, rfl⟩ := lt0_nI h_5
    have hjx : (nI j).toNatClampNeg = j := nI_clamp (by omega)
    have hw7 := wid_lt hj (fun j hj => (hA j hj).2)
    refine g_iload_n cx dX6_share_11 rfl ?_
    refine g_i2l cx dX6_share_12 ?_
    refine g_lconst (v := 0) cx dX6_share_13 (by decide) ?_
    refine g_lconst (v := 1) cx dX6_share_14 (by decide) ?_
    refine g_fcallS (As := [vl w.toInt64, vl 0, vl 1]) (rest := []) cx knX6_in (m_in w.toInt64 0 1) lmX6_60 nsX6_in rfl (by decide) (Nat.le_of_ble_eq_true rfl) rfl dX6_share_15 ?_
    refine g_top (bi_iff (in_iff0 (n := 2) (by decide) (by decide) (by decide))) ?_
    refine g_if_neB (tgt := 24) cx dX6_share_18 (by decide) (fun h_18 => ?_) (fun h_18 => ?_)
    · skip
      refine g_aload_n cx dX6_share_24 rfl ?_
      refine g_iconst (v := nI 0) cx dX6_share_25 (by decide) ?_
      refine g_iload_n cx dX6_share_26 rfl ?_
      refine g_fcallV (As := [vi (nI 0), vi (nI j)]) (rest := []) cx knX6_width (m_width hP hA (by omega) (i := j) (by omega)) a30_0 rfl rfl lmX6_180 niX6_width seX6_width rfl (by decide) (Nat.le_of_ble_eq_true rfl) rfl dX6_share_27 ?_
      refine g_istore_n (L' := [some (vr (30, 0)), some (vi (nI j)), some (vi w), some (vi (nI (wid n a j))), none, none]) cx dX6_share_30 (by decide) rfl rfl ?_
      refine g_bipush (v := nI 72) cx dX6_share_31 (by decide) ?_
      refine g_istore (L' := [some (vr (30, 0)), some (vi (nI j)), some (vi w), some (vi (nI (wid n a j))), some (vi (nI 72)), none]) cx dX6_share_33 (by decide) rfl rfl ?_
      have lp : ∀ (fu : Nat) (u : Nat) (v : Nat), v < fu → (u < 100) → (v < 100) → (Nat.gcd u v = Nat.gcd (wid n a j) 72) → Gk X mX6_share idsA 35 [some (vr (30, 0)), some (vi (nI j)), some (vi w), some (vi (nI u)), some (vi (nI v)), none] [] D := by
        intro fu
        induction fu with
        | zero => intro u v hfu; exact absurd hfu (Nat.not_lt_zero _)
        | succ fu ih =>
          intro u v hfu hu hv hg
          refine g_iload cx dX6_share_35 rfl ?_
          refine g_if_eqN (tgt := 56) cx dX6_share_37 (by decide) (by omega) (fun h_37 => ?_) (fun h_37 => ?_)
          · skip
            subst h_37
            rw [Nat.gcd_zero_right] at hg
            have hu0 : 0 < u := by
              rcases Nat.eq_zero_or_pos u with e | e
              · rw [e] at hg; exact absurd hg (Nat.ne_of_lt (Nat.gcd_pos_of_pos_right _ (by decide)))
              · exact e
            refine g_iload_n cx dX6_share_56 rfl ?_
            refine g_if_ne (tgt := 71) cx dX6_share_57 (by decide) (fun h_57 => ?_) (fun h_57 => ?_)
            · skip
              refine g_bipush (v := nI 72) cx dX6_share_71 (by decide) ?_
              refine g_iload_n cx dX6_share_73 rfl ?_
              refine g_idivN cx dX6_share_74 (by omega) (by omega) (by omega) ?_
              exact g_fret cx rq rfl (rfl) dX6_share_75 (by simp [shareS, eq_true h_5, eq_true h_18, hjx, eq_false h_57, ← hg]) (rfl)
            · skip
              refine g_aload_n cx dX6_share_60 rfl ?_
              refine g_iconst (v := nI 0) cx dX6_share_61 (by decide) ?_
              refine g_iload_n cx dX6_share_62 rfl ?_
              refine g_fcallV (As := [vi (nI 0), vi (nI j)]) (rest := []) cx knX6_width (m_width hP hA (by omega) (i := j) (by omega)) a30_0 rfl rfl lmX6_180 niX6_width seX6_width rfl (by decide) (Nat.le_of_ble_eq_true rfl) rfl dX6_share_63 ?_
              refine g_iload_n cx dX6_share_66 rfl ?_
              refine g_idivN cx dX6_share_67 (by omega) (by omega) (by omega) ?_
              refine g_goto (tgt := 75) cx dX6_share_68 (by decide) ?_
              exact g_fret cx rq rfl (rfl) dX6_share_75 (by simp [shareS, eq_true h_5, eq_true h_18, hjx, eq_true h_57, ← hg]) (rfl)
          · skip
            refine g_iload_n cx dX6_share_40 rfl ?_
            refine g_iload cx dX6_share_41 rfl ?_
            refine g_iremN cx dX6_share_43 (by omega) (by omega) (by omega) ?_
            refine g_istore (L' := [some (vr (30, 0)), some (vi (nI j)), some (vi w), some (vi (nI u)), some (vi (nI v)), some (vi (nI (u % v)))]) cx dX6_share_44 (by decide) rfl rfl ?_
            refine g_iload cx dX6_share_46 rfl ?_
            refine g_istore_n (L' := [some (vr (30, 0)), some (vi (nI j)), some (vi w), some (vi (nI v)), some (vi (nI v)), some (vi (nI (u % v)))]) cx dX6_share_48 (by decide) rfl rfl ?_
            refine g_iload cx dX6_share_49 rfl ?_
            refine g_istore (L' := [some (vr (30, 0)), some (vi (nI j)), some (vi w), some (vi (nI v)), some (vi (nI (u % v))), some (vi (nI (u % v)))]) cx dX6_share_51 (by decide) rfl rfl ?_
            refine g_goto (tgt := 35) cx dX6_share_53 (by decide) ?_
            refine g_drop 5 (L' := [some (vr (30, 0)), some (vi (nI j)), some (vi w), some (vi (nI v)), some (vi (nI (u % v))), none]) rfl ?_
            exact ih v (u % v) (by have := Nat.mod_lt u (show 0 < v by omega); omega) (by omega) (by have := Nat.mod_lt u (show 0 < v by omega); omega) (by rw [← hg, Nat.gcd_comm v, ← Nat.gcd_rec, Nat.gcd_comm])
      exact lp 73 (wid n a j) 72 (by omega) (by omega) (by omega) rfl
    · skip
      refine g_bipush (v := (-3)) cx dX6_share_21 (by decide) ?_
      exact g_fret cx rq rfl (rfl) dX6_share_23 (by simp [shareS, eq_true h_5, eq_false h_18]) (rfl)
  · skip
    refine g_bipush (v := (-2)) cx dX6_share_8 (by decide) ?_
    exact g_fret cx rq rfl (rfl) dX6_share_10 (by simp [shareS, eq_false h_5]) (rfl)
