theorem sd_no {x : Int32} (h0 : ¬ x = 0) (h1 : ¬ x = nI 1) : ¬ lt0 x 2 = true := by
  intro h
  obtain ⟨j, hj, rfl⟩ := lt0_nI h
  rcases (show j = 0 ∨ j = 1 by omega) with rfl | rfl
  · exact h0 nI_0
  · exact h1 rfl
theorem has_y {x : Int32} {n : Nat} (hn : n < 2 ^ 31) (h1 : ¬ x < 0) (h2 : ¬ nI n ≤ x) : lt0 x n = true := by
  obtain ⟨j, h3, rfl⟩ := nI_of h1
  exact lt0_of (Nat.lt_of_not_le (fun e => h2 (nI_le e h3))) hn
theorem has_n1 {x : Int32} {n : Nat} (h1 : x < 0) : ¬ lt0 x n = true := by
  intro h
  rw [lt0_iff] at h
  rw [Int32.lt_iff_toInt_lt, Int32.toInt_zero] at h1
  omega
theorem has_n2 {x : Int32} {n : Nat} (hn : n < 2 ^ 31) (h1 : nI n ≤ x) : ¬ lt0 x n = true := by
  intro h
  rw [lt0_iff] at h
  rw [Int32.le_iff_toInt_le, nI_toInt hn] at h1
  omega
theorem cs_lt {a b c : Nat} (ha : a < 1000) (hb : b < 1000) (hc : c < 1000) : nI a - nI b < nI c ↔ a < b + c := by
  rw [Int32.lt_iff_toInt_lt, pk_sub_toInt (by omega) (by omega), nI_toInt (by omega)]
  omega
set_option maxRecDepth 100000 in
set_option maxHeartbeats 4000000 in
theorem x_between {D : Wd} {a c : Nat} (ha : a < 72) (hc : c < 72) : Fok mX5_between idsA 0 [vi (nI a), vi (nI c)] D (some (vi (nI (onN a c)))) D := by
  refine Mok.of (L := [some (vi (nI a)), some (vi (nI c))]) rfl (fun _ => Nat.le_of_ble_eq_true rfl) (fun _ => rfl) (fun X cx rq => ?_)
  refine g_iload_n cx dX5_between_0 rfl ?_
  refine g_iload_n cx dX5_between_1 rfl ?_
  refine g_icmp_ltN (tgt := 11) cx dX5_between_2 (by decide) (by omega) (by omega) (fun h_2 => ?_) (fun h_2 => ?_)
  · skip
    refine g_iload_n cx dX5_between_11 rfl ?_
    refine g_iload_n cx dX5_between_12 rfl ?_
    refine g_isub cx dX5_between_13 ?_
    refine g_bipush (v := nI 72) cx dX5_between_14 (by decide) ?_
    refine g_iadd cx dX5_between_16 ?_
    refine g_top (nI_on ha) ?_
    exact g_fret cx rq rfl (rfl) dX5_between_17 (by rw [onN, if_neg (by omega)]) (rfl)
  · skip
    refine g_iload_n cx dX5_between_5 rfl ?_
    refine g_iload_n cx dX5_between_6 rfl ?_
    refine g_isubN cx dX5_between_7 (by omega) ?_
    refine g_goto (tgt := 17) cx dX5_between_8 (by decide) ?_
    exact g_fret cx rq rfl (rfl) dX5_between_17 (by rw [onN, if_pos (by omega)]) (rfl)

set_option maxRecDepth 100000 in
set_option maxHeartbeats 4000000 in
theorem x_isSide {D : Wd} (x : Int32) : Fok mX5_isSide idsA 0 [vi x] D (some (vi (if lt0 x 2 = true then 1 else 0))) D := by
  refine Mok.of (L := [some (vi x)]) rfl (fun _ => Nat.le_of_ble_eq_true rfl) (fun _ => rfl) (fun X cx rq => ?_)
  refine g_iload_n cx dX5_isSide_0 rfl ?_
  refine g_if_eq (tgt := 9) cx dX5_isSide_1 (by decide) (fun h_1 => ?_) (fun h_1 => ?_)
  · skip
    refine g_iconst (v := nI 1) cx dX5_isSide_9 (by decide) ?_
    refine g_goto (tgt := 14) cx dX5_isSide_10 (by decide) ?_
    exact g_fret cx rq rfl (by rfl) dX5_isSide_14 (by rw [bi_t (c := lt0 x 2 = true) (by first | (rw [h_1]; decide) | (rw [h_6]; decide))]) (rfl)
  · skip
    refine g_iload_n cx dX5_isSide_4 rfl ?_
    refine g_iconst (v := nI 1) cx dX5_isSide_5 (by decide) ?_
    refine g_icmp_ne (tgt := 13) cx dX5_isSide_6 (by decide) (fun h_6 => ?_) (fun h_6 => ?_)
    · skip
      refine g_iconst (v := nI 0) cx dX5_isSide_13 (by decide) ?_
      exact g_fret cx rq rfl (by rfl) dX5_isSide_14 (by rw [bi_f (c := lt0 x 2 = true) (sd_no h_1 h_6)]) (rfl)
    · skip
      refine g_iconst (v := nI 1) cx dX5_isSide_9 (by decide) ?_
      refine g_goto (tgt := 14) cx dX5_isSide_10 (by decide) ?_
      exact g_fret cx rq rfl (by rfl) dX5_isSide_14 (by rw [bi_t (c := lt0 x 2 = true) (by first | (rw [h_1]; decide) | (rw [h_6]; decide))]) (rfl)

set_option maxRecDepth 100000 in
set_option maxHeartbeats 4000000 in
theorem x_has {D : Wd} {h n : Nat} {k f : Nat → Nat} {dn : Nat} {dr : Nat → Nat} {pn : Nat} (hP : PX D h n k f dn dr pn) (hh : h < 2) (x : Int32) : Fok mX1_has idsA 0 [vr (1, h), vi x] D (some (vi (if lt0 x n = true then 1 else 0))) D := by
  obtain ⟨hn3, hn8, hN, hK, hF, hd3, hDn, hDr, hp5, hPn⟩ := id hP
  refine Mok.of (L := [some (vr (1, h)), some (vi x)]) rfl (fun _ => Nat.le_of_ble_eq_true rfl) (fun _ => rfl) (fun X cx rq => ?_)
  refine g_iload_n cx dX1_has_0 rfl ?_
  refine g_if_lt (tgt := 16) cx dX1_has_1 (by decide) (fun h_1 => ?_) (fun h_1 => ?_)
  · skip
    refine g_iconst (v := nI 0) cx dX1_has_16 (by decide) ?_
    exact g_fret cx rq rfl (by rfl) dX1_has_17 (by rw [bi_f (c := lt0 x n = true) (by first | exact has_n1 h_1 | exact has_n2 (by omega) h_9)]) (rfl)
  · skip
    refine g_iload_n cx dX1_has_4 rfl ?_
    refine g_aload_n cx dX1_has_5 rfl ?_
    refine g_getIN (i := (1, h)) (ci := 1) (k := 0) (v := nI n) cx (aP1 h hh) rfl rfl rfl (by decide) inX1 lfX1_27 dX1_has_6 (hN) ?_
    refine g_icmp_ge (tgt := 16) cx dX1_has_9 (by decide) (fun h_9 => ?_) (fun h_9 => ?_)
    · skip
      refine g_iconst (v := nI 0) cx dX1_has_16 (by decide) ?_
      exact g_fret cx rq rfl (by rfl) dX1_has_17 (by rw [bi_f (c := lt0 x n = true) (by first | exact has_n1 h_1 | exact has_n2 (by omega) h_9)]) (rfl)
    · skip
      refine g_iconst (v := nI 1) cx dX1_has_12 (by decide) ?_
      refine g_goto (tgt := 17) cx dX1_has_13 (by decide) ?_
      exact g_fret cx rq rfl (by rfl) dX1_has_17 (by rw [bi_t (c := lt0 x n = true) (has_y (by omega) h_1 h_9)]) (rfl)

set_option maxRecDepth 100000 in
set_option maxHeartbeats 4000000 in
theorem x_next {D : Wd} {h n : Nat} {k f : Nat → Nat} {dn : Nat} {dr : Nat → Nat} {pn : Nat} (hP : PX D h n k f dn dr pn) (hh : h < 2) {i : Nat} (hi : i < n) : Fok mX1_next idsA 0 [vr (1, h), vi (nI i)] D (some (vi (nI (nx n i)))) D := by
  obtain ⟨hn3, hn8, hN, hK, hF, hd3, hDn, hDr, hp5, hPn⟩ := id hP
  refine Mok.of (L := [some (vr (1, h)), some (vi (nI i))]) rfl (fun _ => Nat.le_of_ble_eq_true rfl) (fun _ => rfl) (fun X cx rq => ?_)
  refine g_iload_n cx dX1_next_0 rfl ?_
  refine g_iconst (v := nI 1) cx dX1_next_1 (by decide) ?_
  refine g_iaddN cx dX1_next_2 ?_
  refine g_aload_n cx dX1_next_3 rfl ?_
  refine g_getIN (i := (1, h)) (ci := 1) (k := 0) (v := nI n) cx (aP1 h hh) rfl rfl rfl (by decide) inX1 lfX1_27 dX1_next_4 (hN) ?_
  refine g_icmp_geN (tgt := 16) cx dX1_next_7 (by decide) (by omega) (by omega) (fun h_7 => ?_) (fun h_7 => ?_)
  · skip
    refine g_iconst (v := nI 0) cx dX1_next_16 (by decide) ?_
    exact g_fret cx rq rfl (rfl) dX1_next_17 (by rw [nx, if_neg (by omega)]) (rfl)
  · skip
    refine g_iload_n cx dX1_next_10 rfl ?_
    refine g_iconst (v := nI 1) cx dX1_next_11 (by decide) ?_
    refine g_iaddN cx dX1_next_12 ?_
    refine g_goto (tgt := 17) cx dX1_next_13 (by decide) ?_
    exact g_fret cx rq rfl (rfl) dX1_next_17 (by rw [nx, if_pos h_7]) (rfl)

set_option maxRecDepth 100000 in
set_option maxHeartbeats 4000000 in
theorem x_before {D : Wd} {h n : Nat} {k f : Nat → Nat} {dn : Nat} {dr : Nat → Nat} {pn : Nat} (hP : PX D h n k f dn dr pn) (hh : h < 2) {i : Nat} (hi : i < n) : Fok mX1_before idsA 0 [vr (1, h), vi (nI i)] D (some (vi (nI (bf n i)))) D := by
  obtain ⟨hn3, hn8, hN, hK, hF, hd3, hDn, hDr, hp5, hPn⟩ := id hP
  refine Mok.of (L := [some (vr (1, h)), some (vi (nI i))]) rfl (fun _ => Nat.le_of_ble_eq_true rfl) (fun _ => rfl) (fun X cx rq => ?_)
  refine g_iload_n cx dX1_before_0 rfl ?_
  refine g_if_leN (tgt := 10) cx dX1_before_1 (by decide) (by omega) (fun h_1 => ?_) (fun h_1 => ?_)
  · skip
    refine g_aload_n cx dX1_before_10 rfl ?_
    refine g_getIN (i := (1, h)) (ci := 1) (k := 0) (v := nI n) cx (aP1 h hh) rfl rfl rfl (by decide) inX1 lfX1_27 dX1_before_11 (hN) ?_
    refine g_iconst (v := nI 1) cx dX1_before_14 (by decide) ?_
    refine g_isubN cx dX1_before_15 (by omega) ?_
    exact g_fret cx rq rfl (rfl) dX1_before_16 (by rw [bf, if_pos h_1]) (rfl)
  · skip
    refine g_iload_n cx dX1_before_4 rfl ?_
    refine g_iconst (v := nI 1) cx dX1_before_5 (by decide) ?_
    refine g_isubN cx dX1_before_6 (by omega) ?_
    refine g_goto (tgt := 16) cx dX1_before_7 (by decide) ?_
    exact g_fret cx rq rfl (rfl) dX1_before_16 (by rw [bf, if_neg (by omega)]) (rfl)

set_option maxRecDepth 100000 in
set_option maxHeartbeats 4000000 in
theorem x_leafBeside {D : Wd} {h n : Nat} {k f : Nat → Nat} {dn : Nat} {dr : Nat → Nat} {pn : Nat} (hP : PX D h n k f dn dr pn) (hh : h < 2) {i s : Nat} (hi : i < n) (hs : s < 2) : Fok mX1_leafBeside idsA 1 [vr (1, h), vi (nI i), vi (nI s)] D (some (vi (nI (lfB n i s)))) D := by
  obtain ⟨hn3, hn8, hN, hK, hF, hd3, hDn, hDr, hp5, hPn⟩ := id hP
  refine Mok.of (L := [some (vr (1, h)), some (vi (nI i)), some (vi (nI s))]) rfl (fun _ => Nat.le_of_ble_eq_true rfl) (fun _ => rfl) (fun X cx rq => ?_)
  refine g_iload_n cx dX1_leafBeside_0 rfl ?_
  refine g_if_neN (tgt := 12) cx dX1_leafBeside_1 (by decide) (by omega) (fun h_1 => ?_) (fun h_1 => ?_)
  · skip
    refine g_aload_n cx dX1_leafBeside_12 rfl ?_
    refine g_iload_n cx dX1_leafBeside_13 rfl ?_
    refine g_fcallV (As := [vi (nI i)]) (rest := []) cx knX1_before (x_before hP hh (i := i) (by omega)) (aP1 h hh) rfl rfl lmX1_47 niX1_before seX1_before rfl (by decide) (Nat.le_of_ble_eq_true rfl) rfl dX1_leafBeside_14 ?_
    exact g_fret cx rq rfl (rfl) dX1_leafBeside_17 (by rw [lfB, if_neg h_1]) (rfl)
  · skip
    refine g_aload_n cx dX1_leafBeside_4 rfl ?_
    refine g_iload_n cx dX1_leafBeside_5 rfl ?_
    refine g_fcallV (As := [vi (nI i)]) (rest := []) cx knX1_next (x_next hP hh (i := i) (by omega)) (aP1 h hh) rfl rfl lmX1_43 niX1_next seX1_next rfl (by decide) (Nat.le_of_ble_eq_true rfl) rfl dX1_leafBeside_6 ?_
    refine g_goto (tgt := 17) cx dX1_leafBeside_9 (by decide) ?_
    exact g_fret cx rq rfl (rfl) dX1_leafBeside_17 (by rw [lfB, if_pos h_1]) (rfl)

set_option maxRecDepth 100000 in
set_option maxHeartbeats 4000000 in
theorem x_roomBeside {D : Wd} {h n : Nat} {k f : Nat → Nat} {dn : Nat} {dr : Nat → Nat} {pn : Nat} (hP : PX D h n k f dn dr pn) (hh : h < 2) {i s : Nat} (hi : i < n) (hs : s < 2) : Fok mX1_roomBeside idsA 1 [vr (1, h), vi (nI i), vi (nI s)] D (some (vi (nI (rmB n i s)))) D := by
  obtain ⟨hn3, hn8, hN, hK, hF, hd3, hDn, hDr, hp5, hPn⟩ := id hP
  refine Mok.of (L := [some (vr (1, h)), some (vi (nI i)), some (vi (nI s))]) rfl (fun _ => Nat.le_of_ble_eq_true rfl) (fun _ => rfl) (fun X cx rq => ?_)
  refine g_iload_n cx dX1_roomBeside_0 rfl ?_
  refine g_if_neN (tgt := 8) cx dX1_roomBeside_1 (by decide) (by omega) (fun h_1 => ?_) (fun h_1 => ?_)
  · skip
    refine g_aload_n cx dX1_roomBeside_8 rfl ?_
    refine g_iload_n cx dX1_roomBeside_9 rfl ?_
    refine g_fcallV (As := [vi (nI i)]) (rest := []) cx knX1_before (x_before hP hh (i := i) (by omega)) (aP1 h hh) rfl rfl lmX1_47 niX1_before seX1_before rfl (by decide) (Nat.le_of_ble_eq_true rfl) rfl dX1_roomBeside_10 ?_
    exact g_fret cx rq rfl (rfl) dX1_roomBeside_13 (by rw [rmB, if_neg h_1]) (rfl)
  · skip
    refine g_iload_n cx dX1_roomBeside_4 rfl ?_
    refine g_goto (tgt := 13) cx dX1_roomBeside_5 (by decide) ?_
    exact g_fret cx rq rfl (rfl) dX1_roomBeside_13 (by rw [rmB, if_pos h_1]) (rfl)

set_option maxRecDepth 100000 in
set_option maxHeartbeats 4000000 in
theorem x_need {D : Wd} {h n : Nat} {k f : Nat → Nat} {dn : Nat} {dr : Nat → Nat} {pn : Nat} (hP : PX D h n k f dn dr pn) (hh : h < 2) {i : Nat} (hi : i < n) : Fok mX1_need idsA 0 [vr (1, h), vi (nI i)] D (some (vi (nI (f i + 1)))) D := by
  obtain ⟨hn3, hn8, hN, hK, hF, hd3, hDn, hDr, hp5, hPn⟩ := id hP
  refine Mok.of (L := [some (vr (1, h)), some (vi (nI i))]) rfl (fun _ => Nat.le_of_ble_eq_true rfl) (fun _ => rfl) (fun X cx rq => ?_)
  refine g_aload_n cx dX1_need_0 rfl ?_
  refine g_getR (i := (1, h)) (ci := 1) (k := 3) (j := (4, h)) cx (aP1 h hh) rfl rfl rfl (by decide) inX1 lfX1_18 dX1_need_1 ?_
  refine g_iload_n cx dX1_need_4 rfl ?_
  refine g_ialdN (i := (4, h)) (j := i) (v := nI (f i)) cx (aP4 h hh) rfl (rfl) (by omega) (by decide) dX1_need_5 ((hF i (by omega)).1) ?_
  refine g_iconst (v := nI 1) cx dX1_need_6 (by decide) ?_
  refine g_iaddN cx dX1_need_7 ?_
  exact g_fret cx rq rfl (rfl) dX1_need_8 (rfl) (rfl)

set_option maxRecDepth 100000 in
set_option maxHeartbeats 4000000 in
theorem x_isTakenAs {D : Wd} {h n : Nat} {k f : Nat → Nat} {dn : Nat} {dr : Nat → Nat} {pn : Nat} (hP : PX D h n k f dn dr pn) (hh : h < 2) {i s : Nat} (hi : i < n) (hs : s < 8) : Fok mX1_isTakenAs idsA 0 [vr (1, h), vi (nI i), vi (nI s)] D (some (vi (if takB (k i) s = true then 1 else 0))) D := by
  obtain ⟨hn3, hn8, hN, hK, hF, hd3, hDn, hDr, hp5, hPn⟩ := id hP
  have hki := (hK i hi).2
  refine Mok.of (L := [some (vr (1, h)), some (vi (nI i)), some (vi (nI s))]) rfl (fun _ => Nat.le_of_ble_eq_true rfl) (fun _ => rfl) (fun X cx rq => ?_)
  refine g_takN (host := RX5) cx (by decide) dX1_isTakenAs_0 ?_
  refine g_aload_n cx dX1_isTakenAs_3 rfl ?_
  refine g_getR (i := (1, h)) (ci := 1) (k := 2) (j := (3, h)) cx (aP1 h hh) rfl rfl rfl (by decide) inX1 lfX1_15 dX1_isTakenAs_4 ?_
  refine g_iload_n cx dX1_isTakenAs_7 rfl ?_
  refine g_ialdN (i := (3, h)) (j := i) (v := nI (k i)) cx (aP3 h hh) rfl (rfl) (by omega) (by decide) dX1_isTakenAs_8 ((hK i (by omega)).1) ?_
  refine g_taki (j := k i) cx (rfl) (by omega) dX1_isTakenAs_9 ?_
  refine g_top (tkF_N _ hki) ?_
  refine g_iload_n cx dX1_isTakenAs_10 rfl ?_
  refine g_ishr cx dX1_isTakenAs_11 ?_
  refine g_iconst (v := nI 1) cx dX1_isTakenAs_12 (by decide) ?_
  refine g_iand cx dX1_isTakenAs_13 ?_
  refine g_top (nI_bit _ (tkN_lt _) s hs) ?_
  refine g_iconst (v := nI 1) cx dX1_isTakenAs_14 (by decide) ?_
  refine g_icmp_neN (tgt := 22) cx dX1_isTakenAs_15 (by decide) (by omega) (by omega) (fun h_15 => ?_) (fun h_15 => ?_)
  · skip
    refine g_iconst (v := nI 0) cx dX1_isTakenAs_22 (by decide) ?_
    exact g_fret cx rq rfl (by rfl) dX1_isTakenAs_23 (by rw [bi_f (c := takB (k i) s = true) (fun q => h_15 ((tb_div _ s).mpr q))]) (rfl)
  · skip
    refine g_iconst (v := nI 1) cx dX1_isTakenAs_18 (by decide) ?_
    refine g_goto (tgt := 23) cx dX1_isTakenAs_19 (by decide) ?_
    exact g_fret cx rq rfl (by rfl) dX1_isTakenAs_23 (by rw [bi_t (c := takB (k i) s = true) ((tb_div _ s).mp h_15)]) (rfl)

set_option maxRecDepth 100000 in
set_option maxHeartbeats 4000000 in
theorem x_toldWidth {D : Wd} {h n : Nat} {k f : Nat → Nat} {dn : Nat} {dr : Nat → Nat} {pn : Nat} (hP : PX D h n k f dn dr pn) (hh : h < 2) {hm : Nat → Nat} (hH : HX D h n hm) {i : Nat} (hi : i < n) : Fok mX1_toldWidth idsA 1 [vr (1, h), vi (nI i)] D (some (vi (nI (wid n hm i)))) D := by
  obtain ⟨hn3, hn8, hN, hK, hF, hd3, hDn, hDr, hp5, hPn⟩ := id hP
  have hnx := nx_lt (n := n) (i := i) (by omega)
  refine Mok.of (L := [some (vr (1, h)), some (vi (nI i))]) rfl (fun _ => Nat.le_of_ble_eq_true rfl) (fun _ => rfl) (fun X cx rq => ?_)
  refine g_aload_n cx dX1_toldWidth_0 rfl ?_
  refine g_getR (i := (1, h)) (ci := 1) (k := 1) (j := (2, h)) cx (aP1 h hh) rfl rfl rfl (by decide) inX1 lfX1_9 dX1_toldWidth_1 ?_
  refine g_iload_n cx dX1_toldWidth_4 rfl ?_
  refine g_ialdN (i := (2, h)) (j := i) (v := nI (hm i)) cx (aP2 h hh) rfl (rfl) (by omega) (by decide) dX1_toldWidth_5 ((hH i (by omega)).1) ?_
  refine g_aload_n cx dX1_toldWidth_6 rfl ?_
  refine g_getR (i := (1, h)) (ci := 1) (k := 1) (j := (2, h)) cx (aP1 h hh) rfl rfl rfl (by decide) inX1 lfX1_9 dX1_toldWidth_7 ?_
  refine g_aload_n cx dX1_toldWidth_10 rfl ?_
  refine g_iload_n cx dX1_toldWidth_11 rfl ?_
  refine g_fcallV (As := [vi (nI i)]) (rest := [vr (2, h), vi (nI (hm i))]) cx knX1_next (x_next hP hh (i := i) (by omega)) (aP1 h hh) rfl rfl lmX1_43 niX1_next seX1_next rfl (by decide) (Nat.le_of_ble_eq_true rfl) rfl dX1_toldWidth_12 ?_
  refine g_ialdN (i := (2, h)) (j := nx n i) (v := nI (hm (nx n i))) cx (aP2 h hh) rfl (rfl) (by omega) (by decide) dX1_toldWidth_15 ((hH (nx n i) (by omega)).1) ?_
  refine g_fcallSN (host := RX5) (As := [vi (nI (hm i)), vi (nI (hm (nx n i)))]) (rest := []) cx knX5_between (x_between (a := hm i) (c := hm (nx n i)) ((hH i (by omega)).2) ((hH (nx n i) (by omega)).2)) (by decide) nsX5_between rfl (by decide) (Nat.le_of_ble_eq_true rfl) rfl dX1_toldWidth_16 ?_
  exact g_fret cx rq rfl (rfl) dX1_toldWidth_19 (rfl) (rfl)

set_option maxRecDepth 100000 in
set_option maxHeartbeats 4000000 in
theorem x_canStandAt {D : Wd} {h n : Nat} {k f : Nat → Nat} {dn : Nat} {dr : Nat → Nat} {pn : Nat} (hP : PX D h n k f dn dr pn) (hh : h < 2) {hm : Nat → Nat} (hH : HX D h n hm) {i c : Nat} (hi : i < n) (hc : c < 72) : Fok mX1_canStandAt idsA 2 [vr (1, h), vi (nI i), vi (nI c)] D (some (vi (if f (bf n i) + 1 ≤ onN (hm (bf n i)) c ∧ onN (hm (bf n i)) c + (f i + 1) ≤ wid n hm (bf n i) + wid n hm i then 1 else 0))) D := by
  obtain ⟨hn3, hn8, hN, hK, hF, hd3, hDn, hDr, hp5, hPn⟩ := id hP
  have hbf := bf_lt hi
  have hw1 := wid_lt hbf (fun j hj => (hH j hj).2)
  have hw2 := wid_lt hi (fun j hj => (hH j hj).2)
  have ho := onN_lt ((hH _ hbf).2) hc
  have hf1 := (hF _ hbf).2
  have hf2 := (hF _ hi).2
  refine Mok.of (L := [some (vr (1, h)), some (vi (nI i)), some (vi (nI c)), none, none, none]) rfl (fun _ => Nat.le_of_ble_eq_true rfl) (fun _ => rfl) (fun X cx rq => ?_)
  refine g_aload_n cx dX1_canStandAt_0 rfl ?_
  refine g_iload_n cx dX1_canStandAt_1 rfl ?_
  refine g_fcallV (As := [vi (nI i)]) (rest := []) cx knX1_before (x_before hP hh (i := i) (by omega)) (aP1 h hh) rfl rfl lmX1_47 niX1_before seX1_before rfl (by decide) (Nat.le_of_ble_eq_true rfl) rfl dX1_canStandAt_2 ?_
  refine g_istore_n (L' := [some (vr (1, h)), some (vi (nI i)), some (vi (nI c)), some (vi (nI (bf n i))), none, none]) cx dX1_canStandAt_5 (by decide) rfl rfl ?_
  refine g_aload_n cx dX1_canStandAt_6 rfl ?_
  refine g_iload_n cx dX1_canStandAt_7 rfl ?_
  refine g_fcallV (As := [vi (nI (bf n i))]) (rest := []) cx knX1_toldWidth (x_toldWidth hP hh hH hbf) (aP1 h hh) rfl rfl lmX1_57 niX1_toldWidth seX1_toldWidth rfl (by decide) (Nat.le_of_ble_eq_true rfl) rfl dX1_canStandAt_8 ?_
  refine g_aload_n cx dX1_canStandAt_11 rfl ?_
  refine g_iload_n cx dX1_canStandAt_12 rfl ?_
  refine g_fcallV (As := [vi (nI i)]) (rest := [vi (nI (wid n hm (bf n i)))]) cx knX1_toldWidth (x_toldWidth hP hh hH hi) (aP1 h hh) rfl rfl lmX1_57 niX1_toldWidth seX1_toldWidth rfl (by decide) (Nat.le_of_ble_eq_true rfl) rfl dX1_canStandAt_13 ?_
  refine g_iaddN cx dX1_canStandAt_16 ?_
  refine g_istore (L' := [some (vr (1, h)), some (vi (nI i)), some (vi (nI c)), some (vi (nI (bf n i))), some (vi (nI ((wid n hm (bf n i)) + (wid n hm i)))), none]) cx dX1_canStandAt_17 (by decide) rfl rfl ?_
  refine g_aload_n cx dX1_canStandAt_19 rfl ?_
  refine g_getR (i := (1, h)) (ci := 1) (k := 1) (j := (2, h)) cx (aP1 h hh) rfl rfl rfl (by decide) inX1 lfX1_9 dX1_canStandAt_20 ?_
  refine g_iload_n cx dX1_canStandAt_23 rfl ?_
  refine g_ialdN (i := (2, h)) (j := bf n i) (v := nI (hm (bf n i))) cx (aP2 h hh) rfl (rfl) (by omega) (by decide) dX1_canStandAt_24 ((hH (bf n i) (by omega)).1) ?_
  refine g_iload_n cx dX1_canStandAt_25 rfl ?_
  refine g_fcallSN (host := RX5) (As := [vi (nI (hm (bf n i))), vi (nI c)]) (rest := []) cx knX5_between (x_between (a := hm (bf n i)) (c := c) ((hH (bf n i) (by omega)).2) (by omega)) (by decide) nsX5_between rfl (by decide) (Nat.le_of_ble_eq_true rfl) rfl dX1_canStandAt_26 ?_
  refine g_istore (L' := [some (vr (1, h)), some (vi (nI i)), some (vi (nI c)), some (vi (nI (bf n i))), some (vi (nI ((wid n hm (bf n i)) + (wid n hm i)))), some (vi (nI (onN (hm (bf n i)) c)))]) cx dX1_canStandAt_29 (by decide) rfl rfl ?_
  refine g_iload cx dX1_canStandAt_31 rfl ?_
  refine g_aload_n cx dX1_canStandAt_33 rfl ?_
  refine g_iload_n cx dX1_canStandAt_34 rfl ?_
  refine g_fcallV (As := [vi (nI (bf n i))]) (rest := [vi (nI (onN (hm (bf n i)) c))]) cx knX1_need (x_need hP hh (i := bf n i) (by omega)) (aP1 h hh) rfl rfl lmX1_60 niX1_need seX1_need rfl (by decide) (Nat.le_of_ble_eq_true rfl) rfl dX1_canStandAt_35 ?_
  refine g_icmp_ltN (tgt := 58) cx dX1_canStandAt_38 (by decide) (by omega) (by omega) (fun h_38 => ?_) (fun h_38 => ?_)
  · skip
    refine g_iconst (v := nI 0) cx dX1_canStandAt_58 (by decide) ?_
    exact g_fret cx rq rfl (by rfl) dX1_canStandAt_59 (by rw [bi_f (by omega)]) (rfl)
  · skip
    refine g_iload cx dX1_canStandAt_41 rfl ?_
    refine g_iload cx dX1_canStandAt_43 rfl ?_
    refine g_isub cx dX1_canStandAt_45 ?_
    refine g_aload_n cx dX1_canStandAt_46 rfl ?_
    refine g_iload_n cx dX1_canStandAt_47 rfl ?_
    refine g_fcallV (As := [vi (nI i)]) (rest := [vi ((nI ((wid n hm (bf n i)) + (wid n hm i))) - (nI (onN (hm (bf n i)) c)))]) cx knX1_need (x_need hP hh (i := i) (by omega)) (aP1 h hh) rfl rfl lmX1_60 niX1_need seX1_need rfl (by decide) (Nat.le_of_ble_eq_true rfl) rfl dX1_canStandAt_48 ?_
    refine g_icmp_lt (tgt := 58) cx dX1_canStandAt_51 (by decide) (fun h_51 => ?_) (fun h_51 => ?_)
    · skip
      have h51 := (cs_lt (by omega) (by omega) (by omega)).mp h_51
      refine g_iconst (v := nI 0) cx dX1_canStandAt_58 (by decide) ?_
      exact g_fret cx rq rfl (by rfl) dX1_canStandAt_59 (by rw [bi_f (by omega)]) (rfl)
    · skip
      have h51 : ¬ _ := fun x => h_51 ((cs_lt (a := wid n hm (bf n i) + wid n hm i) (b := onN (hm (bf n i)) c) (c := f i + 1) (by omega) (by omega) (by omega)).mpr x)
      refine g_iconst (v := nI 1) cx dX1_canStandAt_54 (by decide) ?_
      refine g_goto (tgt := 59) cx dX1_canStandAt_55 (by decide) ?_
      exact g_fret cx rq rfl (by rfl) dX1_canStandAt_59 (by rw [bi_t (by omega)]) (rfl)

set_option maxRecDepth 100000 in
set_option maxHeartbeats 4000000 in
theorem x_hasDoorAt {D : Wd} {h n : Nat} {k f : Nat → Nat} {dn : Nat} {dr : Nat → Nat} {pn : Nat} (hP : PX D h n k f dn dr pn) (hh : h < 2) {v : Nat} (hv : v < 100) : Fok mX1_hasDoorAt idsA 0 [vr (1, h), vi (nI v)] D (some (vi (if anyB (fun j => decide (dr j = v)) dn = true then 1 else 0))) D := by
  obtain ⟨hn3, hn8, hN, hK, hF, hd3, hDn, hDr, hp5, hPn⟩ := id hP
  refine Mok.of (L := [some (vr (1, h)), some (vi (nI v)), none]) rfl (fun _ => Nat.le_of_ble_eq_true rfl) (fun _ => rfl) (fun X cx rq => ?_)
  refine g_iconst (v := nI 0) cx dX1_hasDoorAt_0 (by decide) ?_
  refine g_istore_n (L' := [some (vr (1, h)), some (vi (nI v)), some (vi (nI 0))]) cx dX1_hasDoorAt_1 (by decide) rfl rfl ?_
  have lp : ∀ (fu : Nat) (q : Nat), dn - q < fu → (q ≤ dn) → (¬ anyB (fun j => decide (dr j = v)) q = true) → Gk X mX1_hasDoorAt idsA 2 [some (vr (1, h)), some (vi (nI v)), some (vi (nI q))] [] D := by
    intro fu
    induction fu with
    | zero => intro q hfu; exact absurd hfu (Nat.not_lt_zero _)
    | succ fu ih =>
      intro q hfu hq hno
      refine g_iload_n cx dX1_hasDoorAt_2 rfl ?_
      refine g_aload_n cx dX1_hasDoorAt_3 rfl ?_
      refine g_getIN (i := (1, h)) (ci := 1) (k := 4) (v := nI dn) cx (aP1 h hh) rfl rfl rfl (by decide) inX1 lfX1_31 dX1_hasDoorAt_4 (hDn) ?_
      refine g_icmp_geN (tgt := 28) cx dX1_hasDoorAt_7 (by decide) (by omega) (by omega) (fun h_7 => ?_) (fun h_7 => ?_)
      · skip
        have e9 : q = dn := by omega
        refine g_iconst (v := nI 0) cx dX1_hasDoorAt_28 (by decide) ?_
        exact g_fret cx rq rfl (by rfl) dX1_hasDoorAt_29 (by rw [bi_f (c := anyB (fun j => decide (dr j = v)) dn = true) (by rw [← e9]; exact hno)]) (rfl)
      · skip
        refine g_aload_n cx dX1_hasDoorAt_10 rfl ?_
        refine g_getR (i := (1, h)) (ci := 1) (k := 5) (j := (5, h)) cx (aP1 h hh) rfl rfl rfl (by decide) inX1 lfX1_21 dX1_hasDoorAt_11 ?_
        refine g_iload_n cx dX1_hasDoorAt_14 rfl ?_
        refine g_ialdN (i := (5, h)) (j := q) (v := nI (dr q)) cx (aP5 h hh) rfl (rfl) (by omega) (by decide) dX1_hasDoorAt_15 ((hDr q (by omega)).1) ?_
        refine g_iload_n cx dX1_hasDoorAt_16 rfl ?_
        have hd7 := (hDr q (by omega)).2
        refine g_icmp_neN (tgt := 22) cx dX1_hasDoorAt_17 (by decide) (by omega) (by omega) (fun h_17 => ?_) (fun h_17 => ?_)
        · skip
          refine g_iincN (L' := [some (vr (1, h)), some (vi (nI v)), some (vi (nI (q + 1)))]) cx dX1_hasDoorAt_22 rfl (by decide) rfl rfl ?_
          refine g_goto (tgt := 2) cx dX1_hasDoorAt_25 (by decide) ?_
          exact ih (q + 1) (by omega) (by omega) (any_0 hno (by simpa using h_17))
        · skip
          refine g_iconst (v := nI 1) cx dX1_hasDoorAt_20 (by decide) ?_
          exact g_fret cx rq rfl (by rfl) dX1_hasDoorAt_21 (by rw [bi_t (c := anyB (fun j => decide (dr j = v)) dn = true) (anyB_iff.mpr ⟨q, h_7, by simpa using h_17⟩)]) (rfl)
  exact lp (dn + 1) 0 (by omega) (by omega) (by simp [anyB])
