set_option maxRecDepth 100000 in
set_option maxHeartbeats 4000000 in
theorem x_copy {D : Wd} {g h : Nat} (hg : g < 11) (hh : h < 11) : Fok mX0_copy idsA 1 [vr (9, h), vr (9, g)] D none (CpH D g h) := by
  refine Mok.of (L := [some (vr (9, h)), some (vr (9, g))]) rfl (fun _ => Nat.le_of_ble_eq_true rfl) (fun _ => rfl) (fun X cx rq => ?_)
  refine g_aload_n cx dX0_copy_0 rfl ?_
  refine g_getR (i := (9, g)) (ci := 0) (k := 1) (j := (10, g)) cx (aH9 g hg) rfl rfl rfl (by decide) inX0 lfX0_9 dX0_copy_1 ?_
  refine g_iconst (v := nI 0) cx dX0_copy_4 (by decide) ?_
  refine g_aload_n cx dX0_copy_5 rfl ?_
  refine g_getR (i := (9, h)) (ci := 0) (k := 1) (j := (10, h)) cx (aH9 h hh) rfl rfl rfl (by decide) inX0 lfX0_9 dX0_copy_6 ?_
  refine g_iconst (v := nI 0) cx dX0_copy_9 (by decide) ?_
  refine g_bipush (v := nI 8) cx dX0_copy_10 (by decide) ?_
  refine g_copy (rest := []) (i := (10, g)) (j := (10, h)) (n := 8) cx (aH10 g hg) (aH10 h hh) rfl rfl rfl (by decide) (by decide) (by decide) (by decide) (by decide) lmX0_27 nnCopy nsCopy nzJ10 (Nat.le_of_ble_eq_true rfl) (by decide) dX0_copy_12 ?_
  refine g_aload_n cx dX0_copy_15 rfl ?_
  refine g_getR (i := (9, g)) (ci := 0) (k := 2) (j := (11, g)) cx (aH9 g hg) rfl rfl rfl (by decide) inX0 lfX0_15 dX0_copy_16 ?_
  refine g_iconst (v := nI 0) cx dX0_copy_19 (by decide) ?_
  refine g_aload_n cx dX0_copy_20 rfl ?_
  refine g_getR (i := (9, h)) (ci := 0) (k := 2) (j := (11, h)) cx (aH9 h hh) rfl rfl rfl (by decide) inX0 lfX0_15 dX0_copy_21 ?_
  refine g_iconst (v := nI 0) cx dX0_copy_24 (by decide) ?_
  refine g_iconst (v := nI 5) cx dX0_copy_25 (by decide) ?_
  refine g_copy (rest := []) (i := (11, g)) (j := (11, h)) (n := 5) cx (aH11 g hg) (aH11 h hh) rfl rfl rfl (by decide) (by decide) (by decide) (by decide) (by decide) lmX0_27 nnCopy nsCopy nzJ10 (Nat.le_of_ble_eq_true rfl) (by decide) dX0_copy_26 ?_
  refine g_aload_n cx dX0_copy_29 rfl ?_
  refine g_aload_n cx dX0_copy_30 rfl ?_
  refine g_getI (i := (9, g)) (ci := 0) (k := 3) cx (aH9 g hg) rfl rfl rfl (by decide) inX0 lfX0_34 dX0_copy_31 ?_
  refine g_putI (i := (9, h)) (ci := 0) (k := 3) cx (aH9 h hh) rfl rfl rfl (by decide) inX0 tyX0_ok nmX0 rfl rfl lfX0_34 dX0_copy_34 ?_
  exact g_fvret cx rq rfl dX0_copy_37 rfl (rfl)

set_option maxRecDepth 100000 in
set_option maxHeartbeats 4000000 in
theorem x_begin {D : Wd} : Fok mX0_begin idsA 1 [vr (9, 0)] D none (BgH D) := by
  refine Mok.of (L := [some (vr (9, 0))]) rfl (fun _ => Nat.le_of_ble_eq_true rfl) (fun _ => rfl) (fun X cx rq => ?_)
  refine g_aload_n cx dX0_begin_0 rfl ?_
  refine g_getR (i := (9, 0)) (ci := 0) (k := 0) (j := (1, 0)) cx a9_0 rfl rfl rfl (by decide) inX0 lfX0_18 dX0_begin_1 ?_
  refine g_getR (i := (1, 0)) (ci := 1) (k := 1) (j := (2, 0)) cx a1_0 rfl rfl rfl (by decide) inX1 lfX0_22 dX0_begin_4 ?_
  refine g_iconst (v := nI 0) cx dX0_begin_7 (by decide) ?_
  refine g_aload_n cx dX0_begin_8 rfl ?_
  refine g_getR (i := (9, 0)) (ci := 0) (k := 1) (j := (10, 0)) cx a9_0 rfl rfl rfl (by decide) inX0 lfX0_9 dX0_begin_9 ?_
  refine g_iconst (v := nI 0) cx dX0_begin_12 (by decide) ?_
  refine g_bipush (v := nI 8) cx dX0_begin_13 (by decide) ?_
  refine g_copy (rest := []) (i := (2, 0)) (j := (10, 0)) (n := 8) cx a2_0 a10_0 rfl rfl rfl (by decide) (by decide) (by decide) (by decide) (by decide) lmX0_27 nnCopy nsCopy nzJ10 (Nat.le_of_ble_eq_true rfl) (by decide) dX0_begin_15 ?_
  refine g_aload_n cx dX0_begin_18 rfl ?_
  refine g_getR (i := (9, 0)) (ci := 0) (k := 0) (j := (1, 0)) cx a9_0 rfl rfl rfl (by decide) inX0 lfX0_18 dX0_begin_19 ?_
  refine g_getR (i := (1, 0)) (ci := 1) (k := 7) (j := (6, 0)) cx a1_0 rfl rfl rfl (by decide) inX1 lfX0_33 dX0_begin_22 ?_
  refine g_iconst (v := nI 0) cx dX0_begin_25 (by decide) ?_
  refine g_aload_n cx dX0_begin_26 rfl ?_
  refine g_getR (i := (9, 0)) (ci := 0) (k := 2) (j := (11, 0)) cx a9_0 rfl rfl rfl (by decide) inX0 lfX0_15 dX0_begin_27 ?_
  refine g_iconst (v := nI 0) cx dX0_begin_30 (by decide) ?_
  refine g_iconst (v := nI 5) cx dX0_begin_31 (by decide) ?_
  refine g_copy (rest := []) (i := (6, 0)) (j := (11, 0)) (n := 5) cx a6_0 a11_0 rfl rfl rfl (by decide) (by decide) (by decide) (by decide) (by decide) lmX0_27 nnCopy nsCopy nzJ10 (Nat.le_of_ble_eq_true rfl) (by decide) dX0_begin_32 ?_
  refine g_aload_n cx dX0_begin_35 rfl ?_
  refine g_iconst (v := nI 0) cx dX0_begin_36 (by decide) ?_
  refine g_putI (i := (9, 0)) (ci := 0) (k := 3) cx a9_0 rfl rfl rfl (by decide) inX0 tyX0_ok nmX0 rfl rfl lfX0_34 dX0_begin_37 ?_
  exact g_fvret cx rq rfl dX0_begin_40 rfl (rfl)

set_option maxRecDepth 100000 in
set_option maxHeartbeats 4000000 in
theorem x_letOut {D : Wd} {n : Nat} {k f : Nat → Nat} {dn : Nat} {dr : Nat → Nat} {pn : Nat} (hP : PX D 0 n k f dn dr pn) {h : Nat} (hh : h < 11) {a : Nat → Nat} (hA : AX D h n a) {pl : Nat → Int32} (hPl : PLX D h pn pl) : Fok mX0_letOut idsA 3 [vr (9, h)] D none (PW D h pn (letG (opn n a dn dr) pn n pl)) := by
  obtain ⟨hn3, hn8, hN, hK, hF, hd3, hDn, hDr, hp5, hPn⟩ := id hP
  refine Mok.of (L := [some (vr (9, h)), none]) rfl (fun _ => Nat.le_of_ble_eq_true rfl) (fun _ => rfl) (fun X cx rq => ?_)
  refine g_iconst (v := nI 0) cx dX0_letOut_0 (by decide) ?_
  refine g_istore_n (L' := [some (vr (9, h)), some (vi (nI 0))]) cx dX0_letOut_1 (by decide) rfl rfl ?_
  have lp : ∀ (fu : Nat) (q : Nat), n - q < fu → (q ≤ n) → Gk X mX0_letOut idsA 2 [some (vr (9, h)), some (vi (nI q))] [] (PW D h pn (letG (opn n a dn dr) pn q pl)) := by
    intro fu
    induction fu with
    | zero => intro q hfu; exact absurd hfu (Nat.not_lt_zero _)
    | succ fu ih =>
      intro q hfu hq
      refine g_iload_n cx dX0_letOut_2 rfl ?_
      refine g_aload_n cx dX0_letOut_3 rfl ?_
      refine g_getR (i := (9, h)) (ci := 0) (k := 0) (j := (1, 0)) cx (aH9 h hh) rfl rfl rfl (by decide) inX0 lfX0_18 dX0_letOut_4 ?_
      refine g_getIN (i := (1, 0)) (ci := 1) (k := 0) (v := nI n) cx a1_0 rfl rfl rfl (by decide) inX1 lfX0_58 dX0_letOut_7 ((congrFun (PW.at (neK (by decide) _ _)) 0).trans hN) ?_
      refine g_icmp_geN (tgt := 32) cx dX0_letOut_10 (by decide) (by omega) (by omega) (fun h_10 => ?_) (fun h_10 => ?_)
      · skip
        have e9 : q = n := by omega
        exact g_fvret cx rq rfl dX0_letOut_32 rfl (by rw [e9])
      · skip
        refine g_aload_n cx dX0_letOut_13 rfl ?_
        refine g_iload_n cx dX0_letOut_14 rfl ?_
        refine g_fcallV (As := [vi (nI q)]) (rest := []) cx knX0_isOpen (x_isOpen (PW.P hP) hh (PW.A hA) (i := q) (by omega)) (aH9 h hh) rfl rfl lmX0_61 niX0_isOpen seX0_isOpen rfl (by decide) (Nat.le_of_ble_eq_true rfl) rfl dX0_letOut_15 ?_
        refine g_if_eqB (tgt := 26) cx dX0_letOut_18 (by decide) (fun h_18 => ?_) (fun h_18 => ?_)
        · skip
          refine g_wd (D' := PW D h pn (letG (opn n a dn dr) pn (q + 1) pl)) (by rw [let_no h_18]) ?_
          refine g_iincN (L' := [some (vr (9, h)), some (vi (nI (q + 1)))]) cx dX0_letOut_26 rfl (by decide) rfl rfl ?_
          refine g_goto (tgt := 2) cx dX0_letOut_29 (by decide) ?_
          exact ih (q + 1) (by omega) (by omega)
        · skip
          refine g_aload_n cx dX0_letOut_21 rfl ?_
          refine g_iload_n cx dX0_letOut_22 rfl ?_
          refine g_fcallVv (As := [vi (nI q)]) (rest := []) cx knX0_letFirstOut (x_letFirstOut (PW.P hP) hh PW.Pl (r := q) (by omega)) (aH9 h hh) rfl rfl lmX0_68 niX0_letFirstOut seX0_letFirstOut rfl (by decide) (Nat.le_of_ble_eq_true rfl) rfl dX0_letOut_23 ?_
          refine g_wd (D' := PW D h pn (letG (opn n a dn dr) pn (q + 1) pl)) (by rw [PW.twice, let_op h_18]) ?_
          refine g_iincN (L' := [some (vr (9, h)), some (vi (nI (q + 1)))]) cx dX0_letOut_26 rfl (by decide) rfl rfl ?_
          refine g_goto (tgt := 2) cx dX0_letOut_29 (by decide) ?_
          exact ih (q + 1) (by omega) (by omega)
  refine g_wd (D' := PW D h pn (letG (opn n a dn dr) pn 0 pl)) ((PW.self hPl).symm) ?_
  exact lp (n + 1) 0 (by omega) (by omega)

set_option maxRecDepth 100000 in
set_option maxHeartbeats 4000000 in
theorem x_shorter {D : Wd} {a c : Nat} (ha : a < 72) (hc : c < 72) : Fok mX3_shorter idsA 1 [vi (nI a), vi (nI c)] D (some (vi (nI (shw a c)))) D := by
  have hon := onN_lt ha hc
  refine Mok.of (L := [some (vi (nI a)), some (vi (nI c)), none]) rfl (fun _ => Nat.le_of_ble_eq_true rfl) (fun _ => rfl) (fun X cx rq => ?_)
  refine g_iload_n cx dX3_shorter_0 rfl ?_
  refine g_iload_n cx dX3_shorter_1 rfl ?_
  refine g_fcallSN (host := RX5) (As := [vi (nI a), vi (nI c)]) (rest := []) cx knX5_between (x_between ha hc) (by decide) nsX5_between rfl (by decide) (Nat.le_of_ble_eq_true rfl) rfl dX3_shorter_2 ?_
  refine g_istore_n (L' := [some (vi (nI a)), some (vi (nI c)), some (vi (nI (onN a c)))]) cx dX3_shorter_5 (by decide) rfl rfl ?_
  refine g_iload_n cx dX3_shorter_6 rfl ?_
  refine g_bipush (v := nI 72) cx dX3_shorter_7 (by decide) ?_
  refine g_iload_n cx dX3_shorter_9 rfl ?_
  refine g_isubN cx dX3_shorter_10 (by omega) ?_
  refine g_min cx lmX3_29 nsMin nzJ9 cdMin (Nat.le_of_ble_eq_true rfl) (by decide) dX3_shorter_11 ?_
  refine g_top (min_shw hon) ?_
  exact g_fret cx rq rfl (rfl) dX3_shorter_14 (rfl) (rfl)

set_option maxRecDepth 100000 in
set_option maxHeartbeats 4000000 in
theorem x_way {D : Wd} {sm : Nat} (hSm : D (18, 0) 2 = nI sm) (hs8 : sm ≤ 8) {lf an : Nat → Nat} (hSg : ∀ q, q < sm → D (19, 0) q = nI (lf q) ∧ D (20, 0) q = nI (an q) ∧ lf q < 100 ∧ an q < 72) {i x y : Nat} (hi : i < 9) (hx : x < 72) (hy : y < 72) : Fok mX3_way idsA 2 [vr (18, 0), vi (nI i), vi (nI x), vi (nI y)] D (some (vi (nI ((lsG lf an i x sm).1 + shw (lsG lf an i x sm).2 y)))) D := by
  refine Mok.of (L := [some (vr (18, 0)), some (vi (nI i)), some (vi (nI x)), some (vi (nI y)), none, none, none]) rfl (fun _ => Nat.le_of_ble_eq_true rfl) (fun _ => rfl) (fun X cx rq => ?_)
  refine g_iconst (v := nI 0) cx dX3_way_0 (by decide) ?_
  refine g_istore (L' := [some (vr (18, 0)), some (vi (nI i)), some (vi (nI x)), some (vi (nI y)), some (vi (nI 0)), none, none]) cx dX3_way_1 (by decide) rfl rfl ?_
  refine g_iload_n cx dX3_way_3 rfl ?_
  refine g_istore (L' := [some (vr (18, 0)), some (vi (nI i)), some (vi (nI x)), some (vi (nI y)), some (vi (nI 0)), some (vi (nI x)), none]) cx dX3_way_4 (by decide) rfl rfl ?_
  refine g_iconst (v := nI 0) cx dX3_way_6 (by decide) ?_
  refine g_istore (L' := [some (vr (18, 0)), some (vi (nI i)), some (vi (nI x)), some (vi (nI y)), some (vi (nI 0)), some (vi (nI x)), some (vi (nI 0))]) cx dX3_way_7 (by decide) rfl rfl ?_
  have lp : ∀ (fu : Nat) (q : Nat), sm - q < fu → (q ≤ sm) → Gk X mX3_way idsA 9 [some (vr (18, 0)), some (vi (nI i)), some (vi (nI x)), some (vi (nI y)), some (vi (nI ((lsG lf an i x q).1))), some (vi (nI ((lsG lf an i x q).2))), some (vi (nI q))] [] D := by
    intro fu
    induction fu with
    | zero => intro q hfu; exact absurd hfu (Nat.not_lt_zero _)
    | succ fu ih =>
      intro q hfu hq
      have hls := lsG_ok (lf := lf) (an := an) (i := i) (h := x) (m := q) hx (fun j hj => (hSg j (by omega)).2.2.2)
      refine g_iload cx dX3_way_9 rfl ?_
      refine g_aload_n cx dX3_way_11 rfl ?_
      refine g_getIN (i := (18, 0)) (ci := 3) (k := 2) (v := nI sm) cx a18_0 rfl rfl rfl (by decide) inX3 lfX3_18 dX3_way_12 (hSm) ?_
      refine g_icmp_geN (tgt := 61) cx dX3_way_15 (by decide) (by omega) (by omega) (fun h_15 => ?_) (fun h_15 => ?_)
      · skip
        have e9 : q = sm := by omega
        refine g_iload cx dX3_way_61 rfl ?_
        refine g_iload cx dX3_way_63 rfl ?_
        refine g_iload_n cx dX3_way_65 rfl ?_
        refine g_fcallS (As := [vi (nI ((lsG lf an i x q).2)), vi (nI y)]) (rest := [vi (nI ((lsG lf an i x q).1))]) cx knX3_shorter (x_shorter (a := (lsG lf an i x q).2) (c := y) hls.2 hy) lmX3_22 nsX3_shorter rfl (by decide) (Nat.le_of_ble_eq_true rfl) rfl dX3_way_66 ?_
        refine g_iaddN cx dX3_way_69 ?_
        exact g_fret cx rq rfl (rfl) dX3_way_70 (by rw [e9]) (rfl)
      · skip
        refine g_aload_n cx dX3_way_18 rfl ?_
        refine g_getR (i := (18, 0)) (ci := 3) (k := 0) (j := (19, 0)) cx a18_0 rfl rfl rfl (by decide) inX3 lfX3_9 dX3_way_19 ?_
        refine g_iload cx dX3_way_22 rfl ?_
        refine g_ialdN (i := (19, 0)) (j := q) (v := nI (lf q)) cx a19_0 rfl (rfl) (by omega) (by decide) dX3_way_24 ((hSg q (by omega)).1) ?_
        refine g_iload_n cx dX3_way_25 rfl ?_
        have hlq := (hSg q (by omega)).2.2.1
        refine g_icmp_neN (tgt := 55) cx dX3_way_26 (by decide) (by omega) (by omega) (fun h_26 => ?_) (fun h_26 => ?_)
        · skip
          refine g_loc (L' := [some (vr (18, 0)), some (vi (nI i)), some (vi (nI x)), some (vi (nI y)), some (vi (nI ((lsG lf an i x (q + 1)).1))), some (vi (nI ((lsG lf an i x (q + 1)).2))), some (vi (nI q))]) (by first | rw [ls_y h_26] | rw [ls_n h_26]) ?_
          refine g_iincN (L' := [some (vr (18, 0)), some (vi (nI i)), some (vi (nI x)), some (vi (nI y)), some (vi (nI ((lsG lf an i x (q + 1)).1))), some (vi (nI ((lsG lf an i x (q + 1)).2))), some (vi (nI (q + 1)))]) cx dX3_way_55 rfl (by decide) rfl rfl ?_
          refine g_goto (tgt := 9) cx dX3_way_58 (by decide) ?_
          exact ih (q + 1) (by omega) (by omega)
        · skip
          refine g_iload cx dX3_way_29 rfl ?_
          refine g_iload cx dX3_way_31 rfl ?_
          refine g_aload_n cx dX3_way_33 rfl ?_
          refine g_getR (i := (18, 0)) (ci := 3) (k := 1) (j := (20, 0)) cx a18_0 rfl rfl rfl (by decide) inX3 lfX3_15 dX3_way_34 ?_
          refine g_iload cx dX3_way_37 rfl ?_
          refine g_ialdN (i := (20, 0)) (j := q) (v := nI (an q)) cx a20_0 rfl (rfl) (by omega) (by decide) dX3_way_39 ((hSg q (by omega)).2.1) ?_
          refine g_fcallS (As := [vi (nI ((lsG lf an i x q).2)), vi (nI (an q))]) (rest := [vi (nI ((lsG lf an i x q).1))]) cx knX3_shorter (x_shorter (a := (lsG lf an i x q).2) (c := an q) hls.2 (hSg q (by omega)).2.2.2) lmX3_22 nsX3_shorter rfl (by decide) (Nat.le_of_ble_eq_true rfl) rfl dX3_way_40 ?_
          refine g_iaddN cx dX3_way_43 ?_
          refine g_istore (L' := [some (vr (18, 0)), some (vi (nI i)), some (vi (nI x)), some (vi (nI y)), some (vi (nI (((lsG lf an i x q).1) + (shw ((lsG lf an i x q).2) (an q))))), some (vi (nI ((lsG lf an i x q).2))), some (vi (nI q))]) cx dX3_way_44 (by decide) rfl rfl ?_
          refine g_aload_n cx dX3_way_46 rfl ?_
          refine g_getR (i := (18, 0)) (ci := 3) (k := 1) (j := (20, 0)) cx a18_0 rfl rfl rfl (by decide) inX3 lfX3_15 dX3_way_47 ?_
          refine g_iload cx dX3_way_50 rfl ?_
          refine g_ialdN (i := (20, 0)) (j := q) (v := nI (an q)) cx a20_0 rfl (rfl) (by omega) (by decide) dX3_way_52 ((hSg q (by omega)).2.1) ?_
          refine g_istore (L' := [some (vr (18, 0)), some (vi (nI i)), some (vi (nI x)), some (vi (nI y)), some (vi (nI (((lsG lf an i x q).1) + (shw ((lsG lf an i x q).2) (an q))))), some (vi (nI (an q))), some (vi (nI q))]) cx dX3_way_53 (by decide) rfl rfl ?_
          refine g_loc (L' := [some (vr (18, 0)), some (vi (nI i)), some (vi (nI x)), some (vi (nI y)), some (vi (nI ((lsG lf an i x (q + 1)).1))), some (vi (nI ((lsG lf an i x (q + 1)).2))), some (vi (nI q))]) (by first | rw [ls_y h_26] | rw [ls_n h_26]) ?_
          refine g_iincN (L' := [some (vr (18, 0)), some (vi (nI i)), some (vi (nI x)), some (vi (nI y)), some (vi (nI ((lsG lf an i x (q + 1)).1))), some (vi (nI ((lsG lf an i x (q + 1)).2))), some (vi (nI (q + 1)))]) cx dX3_way_55 rfl (by decide) rfl rfl ?_
          refine g_goto (tgt := 9) cx dX3_way_58 (by decide) ?_
          exact ih (q + 1) (by omega) (by omega)
  exact lp (sm + 1) 0 (by omega) (by omega)

set_option maxRecDepth 100000 in
set_option maxHeartbeats 4000000 in
theorem x_bitCount {D : Wd} {v : Nat} (hv : v < 256) : Fok mJ6_bitCount_0f7a4 idsA 0 [vi (nI v)] D (some (vi (nI (cntN (fun p => v.testBit p) 8)))) D := by
  refine Mok.of (L := [some (vi (nI v))]) rfl (fun _ => Nat.le_of_ble_eq_true rfl) (fun _ => rfl) (fun X cx rq => ?_)
  refine g_iload_n cx dJ6_bitCount_0f7a4_0 rfl ?_
  refine g_iload_n cx dJ6_bitCount_0f7a4_1 rfl ?_
  refine g_iconst (v := nI 1) cx dJ6_bitCount_0f7a4_2 (by decide) ?_
  refine g_iushr cx dJ6_bitCount_0f7a4_3 ?_
  refine g_ldcw (v := 1431655765) cx lcJ6_265 dJ6_bitCount_0f7a4_4 ?_
  refine g_iand cx dJ6_bitCount_0f7a4_7 ?_
  refine g_isub cx dJ6_bitCount_0f7a4_8 ?_
  refine g_istore_n (L' := [some (vi ((nI v) - ((((nI v).toUInt32 >>> ((nI 1).toUInt32 &&& Int32.toUInt32 31)).toInt32) &&& 1431655765)))]) cx dJ6_bitCount_0f7a4_9 (by decide) rfl rfl ?_
  refine g_iload_n cx dJ6_bitCount_0f7a4_10 rfl ?_
  refine g_ldcw (v := 858993459) cx lcJ6_266 dJ6_bitCount_0f7a4_11 ?_
  refine g_iand cx dJ6_bitCount_0f7a4_14 ?_
  refine g_iload_n cx dJ6_bitCount_0f7a4_15 rfl ?_
  refine g_iconst (v := nI 2) cx dJ6_bitCount_0f7a4_16 (by decide) ?_
  refine g_iushr cx dJ6_bitCount_0f7a4_17 ?_
  refine g_ldcw (v := 858993459) cx lcJ6_266 dJ6_bitCount_0f7a4_18 ?_
  refine g_iand cx dJ6_bitCount_0f7a4_21 ?_
  refine g_iadd cx dJ6_bitCount_0f7a4_22 ?_
  refine g_istore_n (L' := [some (vi ((((nI v) - ((((nI v).toUInt32 >>> ((nI 1).toUInt32 &&& Int32.toUInt32 31)).toInt32) &&& 1431655765)) &&& 858993459) + (((((nI v) - ((((nI v).toUInt32 >>> ((nI 1).toUInt32 &&& Int32.toUInt32 31)).toInt32) &&& 1431655765)).toUInt32 >>> ((nI 2).toUInt32 &&& Int32.toUInt32 31)).toInt32) &&& 858993459)))]) cx dJ6_bitCount_0f7a4_23 (by decide) rfl rfl ?_
  refine g_iload_n cx dJ6_bitCount_0f7a4_24 rfl ?_
  refine g_iload_n cx dJ6_bitCount_0f7a4_25 rfl ?_
  refine g_iconst (v := nI 4) cx dJ6_bitCount_0f7a4_26 (by decide) ?_
  refine g_iushr cx dJ6_bitCount_0f7a4_27 ?_
  refine g_iadd cx dJ6_bitCount_0f7a4_28 ?_
  refine g_ldcw (v := 252645135) cx lcJ6_267 dJ6_bitCount_0f7a4_29 ?_
  refine g_iand cx dJ6_bitCount_0f7a4_32 ?_
  refine g_istore_n (L' := [some (vi ((((((nI v) - ((((nI v).toUInt32 >>> ((nI 1).toUInt32 &&& Int32.toUInt32 31)).toInt32) &&& 1431655765)) &&& 858993459) + (((((nI v) - ((((nI v).toUInt32 >>> ((nI 1).toUInt32 &&& Int32.toUInt32 31)).toInt32) &&& 1431655765)).toUInt32 >>> ((nI 2).toUInt32 &&& Int32.toUInt32 31)).toInt32) &&& 858993459)) + ((((((nI v) - ((((nI v).toUInt32 >>> ((nI 1).toUInt32 &&& Int32.toUInt32 31)).toInt32) &&& 1431655765)) &&& 858993459) + (((((nI v) - ((((nI v).toUInt32 >>> ((nI 1).toUInt32 &&& Int32.toUInt32 31)).toInt32) &&& 1431655765)).toUInt32 >>> ((nI 2).toUInt32 &&& Int32.toUInt32 31)).toInt32) &&& 858993459)).toUInt32 >>> ((nI 4).toUInt32 &&& Int32.toUInt32 31)).toInt32)) &&& 252645135))]) cx dJ6_bitCount_0f7a4_33 (by decide) rfl rfl ?_
  refine g_iload_n cx dJ6_bitCount_0f7a4_34 rfl ?_
  refine g_iload_n cx dJ6_bitCount_0f7a4_35 rfl ?_
  refine g_bipush (v := nI 8) cx dJ6_bitCount_0f7a4_36 (by decide) ?_
  refine g_iushr cx dJ6_bitCount_0f7a4_38 ?_
  refine g_iadd cx dJ6_bitCount_0f7a4_39 ?_
  refine g_istore_n (L' := [some (vi (((((((nI v) - ((((nI v).toUInt32 >>> ((nI 1).toUInt32 &&& Int32.toUInt32 31)).toInt32) &&& 1431655765)) &&& 858993459) + (((((nI v) - ((((nI v).toUInt32 >>> ((nI 1).toUInt32 &&& Int32.toUInt32 31)).toInt32) &&& 1431655765)).toUInt32 >>> ((nI 2).toUInt32 &&& Int32.toUInt32 31)).toInt32) &&& 858993459)) + ((((((nI v) - ((((nI v).toUInt32 >>> ((nI 1).toUInt32 &&& Int32.toUInt32 31)).toInt32) &&& 1431655765)) &&& 858993459) + (((((nI v) - ((((nI v).toUInt32 >>> ((nI 1).toUInt32 &&& Int32.toUInt32 31)).toInt32) &&& 1431655765)).toUInt32 >>> ((nI 2).toUInt32 &&& Int32.toUInt32 31)).toInt32) &&& 858993459)).toUInt32 >>> ((nI 4).toUInt32 &&& Int32.toUInt32 31)).toInt32)) &&& 252645135) + ((((((((nI v) - ((((nI v).toUInt32 >>> ((nI 1).toUInt32 &&& Int32.toUInt32 31)).toInt32) &&& 1431655765)) &&& 858993459) + (((((nI v) - ((((nI v).toUInt32 >>> ((nI 1).toUInt32 &&& Int32.toUInt32 31)).toInt32) &&& 1431655765)).toUInt32 >>> ((nI 2).toUInt32 &&& Int32.toUInt32 31)).toInt32) &&& 858993459)) + ((((((nI v) - ((((nI v).toUInt32 >>> ((nI 1).toUInt32 &&& Int32.toUInt32 31)).toInt32) &&& 1431655765)) &&& 858993459) + (((((nI v) - ((((nI v).toUInt32 >>> ((nI 1).toUInt32 &&& Int32.toUInt32 31)).toInt32) &&& 1431655765)).toUInt32 >>> ((nI 2).toUInt32 &&& Int32.toUInt32 31)).toInt32) &&& 858993459)).toUInt32 >>> ((nI 4).toUInt32 &&& Int32.toUInt32 31)).toInt32)) &&& 252645135).toUInt32 >>> ((nI 8).toUInt32 &&& Int32.toUInt32 31)).toInt32)))]) cx dJ6_bitCount_0f7a4_40 (by decide) rfl rfl ?_
  refine g_iload_n cx dJ6_bitCount_0f7a4_41 rfl ?_
  refine g_iload_n cx dJ6_bitCount_0f7a4_42 rfl ?_
  refine g_bipush (v := nI 16) cx dJ6_bitCount_0f7a4_43 (by decide) ?_
  refine g_iushr cx dJ6_bitCount_0f7a4_45 ?_
  refine g_iadd cx dJ6_bitCount_0f7a4_46 ?_
  refine g_istore_n (L' := [some (vi ((((((((nI v) - ((((nI v).toUInt32 >>> ((nI 1).toUInt32 &&& Int32.toUInt32 31)).toInt32) &&& 1431655765)) &&& 858993459) + (((((nI v) - ((((nI v).toUInt32 >>> ((nI 1).toUInt32 &&& Int32.toUInt32 31)).toInt32) &&& 1431655765)).toUInt32 >>> ((nI 2).toUInt32 &&& Int32.toUInt32 31)).toInt32) &&& 858993459)) + ((((((nI v) - ((((nI v).toUInt32 >>> ((nI 1).toUInt32 &&& Int32.toUInt32 31)).toInt32) &&& 1431655765)) &&& 858993459) + (((((nI v) - ((((nI v).toUInt32 >>> ((nI 1).toUInt32 &&& Int32.toUInt32 31)).toInt32) &&& 1431655765)).toUInt32 >>> ((nI 2).toUInt32 &&& Int32.toUInt32 31)).toInt32) &&& 858993459)).toUInt32 >>> ((nI 4).toUInt32 &&& Int32.toUInt32 31)).toInt32)) &&& 252645135) + ((((((((nI v) - ((((nI v).toUInt32 >>> ((nI 1).toUInt32 &&& Int32.toUInt32 31)).toInt32) &&& 1431655765)) &&& 858993459) + (((((nI v) - ((((nI v).toUInt32 >>> ((nI 1).toUInt32 &&& Int32.toUInt32 31)).toInt32) &&& 1431655765)).toUInt32 >>> ((nI 2).toUInt32 &&& Int32.toUInt32 31)).toInt32) &&& 858993459)) + ((((((nI v) - ((((nI v).toUInt32 >>> ((nI 1).toUInt32 &&& Int32.toUInt32 31)).toInt32) &&& 1431655765)) &&& 858993459) + (((((nI v) - ((((nI v).toUInt32 >>> ((nI 1).toUInt32 &&& Int32.toUInt32 31)).toInt32) &&& 1431655765)).toUInt32 >>> ((nI 2).toUInt32 &&& Int32.toUInt32 31)).toInt32) &&& 858993459)).toUInt32 >>> ((nI 4).toUInt32 &&& Int32.toUInt32 31)).toInt32)) &&& 252645135).toUInt32 >>> ((nI 8).toUInt32 &&& Int32.toUInt32 31)).toInt32)) + (((((((((nI v) - ((((nI v).toUInt32 >>> ((nI 1).toUInt32 &&& Int32.toUInt32 31)).toInt32) &&& 1431655765)) &&& 858993459) + (((((nI v) - ((((nI v).toUInt32 >>> ((nI 1).toUInt32 &&& Int32.toUInt32 31)).toInt32) &&& 1431655765)).toUInt32 >>> ((nI 2).toUInt32 &&& Int32.toUInt32 31)).toInt32) &&& 858993459)) + ((((((nI v) - ((((nI v).toUInt32 >>> ((nI 1).toUInt32 &&& Int32.toUInt32 31)).toInt32) &&& 1431655765)) &&& 858993459) + (((((nI v) - ((((nI v).toUInt32 >>> ((nI 1).toUInt32 &&& Int32.toUInt32 31)).toInt32) &&& 1431655765)).toUInt32 >>> ((nI 2).toUInt32 &&& Int32.toUInt32 31)).toInt32) &&& 858993459)).toUInt32 >>> ((nI 4).toUInt32 &&& Int32.toUInt32 31)).toInt32)) &&& 252645135) + ((((((((nI v) - ((((nI v).toUInt32 >>> ((nI 1).toUInt32 &&& Int32.toUInt32 31)).toInt32) &&& 1431655765)) &&& 858993459) + (((((nI v) - ((((nI v).toUInt32 >>> ((nI 1).toUInt32 &&& Int32.toUInt32 31)).toInt32) &&& 1431655765)).toUInt32 >>> ((nI 2).toUInt32 &&& Int32.toUInt32 31)).toInt32) &&& 858993459)) + ((((((nI v) - ((((nI v).toUInt32 >>> ((nI 1).toUInt32 &&& Int32.toUInt32 31)).toInt32) &&& 1431655765)) &&& 858993459) + (((((nI v) - ((((nI v).toUInt32 >>> ((nI 1).toUInt32 &&& Int32.toUInt32 31)).toInt32) &&& 1431655765)).toUInt32 >>> ((nI 2).toUInt32 &&& Int32.toUInt32 31)).toInt32) &&& 858993459)).toUInt32 >>> ((nI 4).toUInt32 &&& Int32.toUInt32 31)).toInt32)) &&& 252645135).toUInt32 >>> ((nI 8).toUInt32 &&& Int32.toUInt32 31)).toInt32)).toUInt32 >>> ((nI 16).toUInt32 &&& Int32.toUInt32 31)).toInt32)))]) cx dJ6_bitCount_0f7a4_47 (by decide) rfl rfl ?_
  refine g_iload_n cx dJ6_bitCount_0f7a4_48 rfl ?_
  refine g_bipush (v := nI 63) cx dJ6_bitCount_0f7a4_49 (by decide) ?_
  refine g_iand cx dJ6_bitCount_0f7a4_51 ?_
  exact g_fret cx rq rfl (rfl) dJ6_bitCount_0f7a4_52 (congrArg (fun z => some (vi z)) (bc_eq v hv)) (rfl)
