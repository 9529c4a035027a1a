theorem bitsN_no {p : Nat → Bool} {q : Nat} (h : ¬ p q = true) : bitsN p (q + 1) = bitsN p q := by rw [bitsN, if_neg h, Nat.add_zero]
set_option maxRecDepth 100000 in
set_option maxHeartbeats 4000000 in
theorem x_width {D : Wd} {n : Nat} {k f : Nat → Nat} {dn : Nat} {dr : Nat → Nat} {pn : Nat} (hP : PX D 0 n k f dn dr pn) {h : Nat} (hh : h < 11) {a : Nat → Nat} (hA : AX D h n a) {i : Nat} (hi : i < n) : Fok mX0_width idsA 1 [vr (9, h), vi (nI i)] D (some (vi (nI (wid n a i)))) D := by
  obtain ⟨hn3, hn8, hN, hK, hF, hd3, hDn, hDr, hp5, hPn⟩ := id hP
  have hnx := nx_lt (n := n) (i := i) (by omega)
  refine Mok.of (L := [some (vr (9, h)), some (vi (nI i))]) rfl (fun _ => Nat.le_of_ble_eq_true rfl) (fun _ => rfl) (fun X cx rq => ?_)
  refine g_aload_n cx dX0_width_0 rfl ?_
  refine g_getR (i := (9, h)) (ci := 0) (k := 1) (j := (10, h)) cx (aH9 h hh) rfl rfl rfl (by decide) inX0 lfX0_9 dX0_width_1 ?_
  refine g_iload_n cx dX0_width_4 rfl ?_
  refine g_ialdN (i := (10, h)) (j := i) (v := nI (a i)) cx (aH10 h hh) rfl (rfl) (by omega) (by decide) dX0_width_5 ((hA i (by omega)).1) ?_
  refine g_aload_n cx dX0_width_6 rfl ?_
  refine g_getR (i := (9, h)) (ci := 0) (k := 1) (j := (10, h)) cx (aH9 h hh) rfl rfl rfl (by decide) inX0 lfX0_9 dX0_width_7 ?_
  refine g_aload_n cx dX0_width_10 rfl ?_
  refine g_getR (i := (9, h)) (ci := 0) (k := 0) (j := (1, 0)) cx (aH9 h hh) rfl rfl rfl (by decide) inX0 lfX0_18 dX0_width_11 ?_
  refine g_iload_n cx dX0_width_14 rfl ?_
  refine g_fcallV (As := [vi (nI i)]) (rest := [vr (10, h), vi (nI (a i))]) cx knX1_next (x_next hP (by decide) (i := i) (by omega)) a1_0 rfl rfl lmX0_38 niX1_next seX1_next rfl (by decide) (Nat.le_of_ble_eq_true rfl) rfl dX0_width_15 ?_
  refine g_ialdN (i := (10, h)) (j := nx n i) (v := nI (a (nx n i))) cx (aH10 h hh) rfl (rfl) (by omega) (by decide) dX0_width_18 ((hA (nx n i) (by omega)).1) ?_
  refine g_fcallSN (host := RX5) (As := [vi (nI (a i)), vi (nI (a (nx n i)))]) (rest := []) cx knX5_between (x_between (a := a i) (c := a (nx n i)) ((hA i (by omega)).2) ((hA (nx n i) (by omega)).2)) (by decide) nsX5_between rfl (by decide) (Nat.le_of_ble_eq_true rfl) rfl dX0_width_19 ?_
  exact g_fret cx rq rfl (rfl) dX0_width_22 (rfl) (rfl)

set_option maxRecDepth 100000 in
set_option maxHeartbeats 4000000 in
theorem x_slack {D : Wd} {n : Nat} {k f : Nat → Nat} {dn : Nat} {dr : Nat → Nat} {pn : Nat} (hP : PX D 0 n k f dn dr pn) {h : Nat} (hh : h < 11) {a : Nat → Nat} (hA : AX D h n a) {i : Nat} (hi : i < n) : Fok mX0_slack idsA 2 [vr (9, h), vi (nI i)] D (some (vi (nI (wid n a i) - nI (f i + 1)))) D := by
  obtain ⟨hn3, hn8, hN, hK, hF, hd3, hDn, hDr, hp5, hPn⟩ := id hP
  refine Mok.of (L := [some (vr (9, h)), some (vi (nI i))]) rfl (fun _ => Nat.le_of_ble_eq_true rfl) (fun _ => rfl) (fun X cx rq => ?_)
  refine g_aload_n cx dX0_slack_0 rfl ?_
  refine g_iload_n cx dX0_slack_1 rfl ?_
  refine g_fcallV (As := [vi (nI i)]) (rest := []) cx knX0_width (x_width hP hh hA (i := i) (by omega)) (aH9 h hh) rfl rfl lmX0_46 niX0_width seX0_width rfl (by decide) (Nat.le_of_ble_eq_true rfl) rfl dX0_slack_2 ?_
  refine g_aload_n cx dX0_slack_5 rfl ?_
  refine g_getR (i := (9, h)) (ci := 0) (k := 0) (j := (1, 0)) cx (aH9 h hh) rfl rfl rfl (by decide) inX0 lfX0_18 dX0_slack_6 ?_
  refine g_iload_n cx dX0_slack_9 rfl ?_
  refine g_fcallV (As := [vi (nI i)]) (rest := [vi (nI (wid n a i))]) cx knX1_need (x_need hP (by decide) (i := i) (by omega)) a1_0 rfl rfl lmX0_49 niX1_need seX1_need rfl (by decide) (Nat.le_of_ble_eq_true rfl) rfl dX0_slack_10 ?_
  refine g_isub cx dX0_slack_13 ?_
  exact g_fret cx rq rfl (rfl) dX0_slack_14 (rfl) (rfl)

set_option maxRecDepth 100000 in
set_option maxHeartbeats 4000000 in
theorem x_isOpen {D : Wd} {n : Nat} {k f : Nat → Nat} {dn : Nat} {dr : Nat → Nat} {pn : Nat} (hP : PX D 0 n k f dn dr pn) {h : Nat} (hh : h < 11) {a : Nat → Nat} (hA : AX D h n a) {i : Nat} (hi : i < n) : Fok mX0_isOpen idsA 2 [vr (9, h), vi (nI i)] D (some (vi (if opn n a dn dr i = true then 1 else 0))) D := by
  obtain ⟨hn3, hn8, hN, hK, hF, hd3, hDn, hDr, hp5, hPn⟩ := id hP
  have hwd := wid_lt hi (fun j hj => (hA j hj).2)
  refine Mok.of (L := [some (vr (9, h)), some (vi (nI i)), none, none, none]) rfl (fun _ => Nat.le_of_ble_eq_true rfl) (fun _ => rfl) (fun X cx rq => ?_)
  refine g_aload_n cx dX0_isOpen_0 rfl ?_
  refine g_iload_n cx dX0_isOpen_1 rfl ?_
  refine g_fcallV (As := [vi (nI i)]) (rest := []) cx knX0_width (x_width hP hh hA (i := i) (by omega)) (aH9 h hh) rfl rfl lmX0_46 niX0_width seX0_width rfl (by decide) (Nat.le_of_ble_eq_true rfl) rfl dX0_isOpen_2 ?_
  refine g_istore_n (L' := [some (vr (9, h)), some (vi (nI i)), some (vi (nI (wid n a i))), none, none]) cx dX0_isOpen_5 (by decide) rfl rfl ?_
  refine g_iconst (v := nI 0) cx dX0_isOpen_6 (by decide) ?_
  refine g_istore_n (L' := [some (vr (9, h)), some (vi (nI i)), some (vi (nI (wid n a i))), some (vi (nI 0)), none]) cx dX0_isOpen_7 (by decide) rfl rfl ?_
  have lp : ∀ (fu : Nat) (q : Nat), dn - q < fu → (q ≤ dn) → (¬ anyB (opC n a dr i) q = true) → Gk X mX0_isOpen idsA 8 [some (vr (9, h)), some (vi (nI i)), some (vi (nI (wid n a i))), some (vi (nI q)), none] [] D := by
    intro fu
    induction fu with
    | zero => intro q hfu; exact absurd hfu (Nat.not_lt_zero _)
    | succ fu ih =>
      intro q hfu hq hno
      refine g_iload_n cx dX0_isOpen_8 rfl ?_
      refine g_aload_n cx dX0_isOpen_9 rfl ?_
      refine g_getR (i := (9, h)) (ci := 0) (k := 0) (j := (1, 0)) cx (aH9 h hh) rfl rfl rfl (by decide) inX0 lfX0_18 dX0_isOpen_10 ?_
      refine g_getIN (i := (1, 0)) (ci := 1) (k := 4) (v := nI dn) cx a1_0 rfl rfl rfl (by decide) inX1 lfX0_52 dX0_isOpen_13 (hDn) ?_
      refine g_icmp_geN (tgt := 58) cx dX0_isOpen_16 (by decide) (by omega) (by omega) (fun h_16 => ?_) (fun h_16 => ?_)
      · skip
        have e9 : q = dn := by omega
        refine g_iconst (v := nI 0) cx dX0_isOpen_58 (by decide) ?_
        exact g_fret cx rq rfl (by rfl) dX0_isOpen_59 (by rw [bi_f (c := opn n a dn dr i = true) (by unfold opn; rw [← e9]; exact hno)]) (rfl)
      · skip
        refine g_aload_n cx dX0_isOpen_19 rfl ?_
        refine g_getR (i := (9, h)) (ci := 0) (k := 1) (j := (10, h)) cx (aH9 h hh) rfl rfl rfl (by decide) inX0 lfX0_9 dX0_isOpen_20 ?_
        refine g_iload_n cx dX0_isOpen_23 rfl ?_
        refine g_ialdN (i := (10, h)) (j := i) (v := nI (a i)) cx (aH10 h hh) rfl (rfl) (by omega) (by decide) dX0_isOpen_24 ((hA i (by omega)).1) ?_
        refine g_aload_n cx dX0_isOpen_25 rfl ?_
        refine g_getR (i := (9, h)) (ci := 0) (k := 0) (j := (1, 0)) cx (aH9 h hh) rfl rfl rfl (by decide) inX0 lfX0_18 dX0_isOpen_26 ?_
        refine g_getR (i := (1, 0)) (ci := 1) (k := 5) (j := (5, 0)) cx a1_0 rfl rfl rfl (by decide) inX1 lfX0_55 dX0_isOpen_29 ?_
        refine g_iload_n cx dX0_isOpen_32 rfl ?_
        refine g_ialdN (i := (5, 0)) (j := q) (v := nI (dr q)) cx a5_0 rfl (rfl) (by omega) (by decide) dX0_isOpen_33 ((hDr q (by omega)).1) ?_
        refine g_fcallSN (host := RX5) (As := [vi (nI (a i)), vi (nI (dr q))]) (rest := []) cx knX5_between (x_between (a := a i) (c := dr q) ((hA i (by omega)).2) ((hDr q (by omega)).2)) (by decide) nsX5_between rfl (by decide) (Nat.le_of_ble_eq_true rfl) rfl dX0_isOpen_34 ?_
        refine g_istore (L' := [some (vr (9, h)), some (vi (nI i)), some (vi (nI (wid n a i))), some (vi (nI q)), some (vi (nI (onN (a i) (dr q))))]) cx dX0_isOpen_37 (by decide) rfl rfl ?_
        refine g_iload cx dX0_isOpen_39 rfl ?_
        have hon := onN_lt ((hA i (by omega)).2) ((hDr q (by omega)).2)
        refine g_if_leN (tgt := 52) cx dX0_isOpen_41 (by decide) (by omega) (fun h_41 => ?_) (fun h_41 => ?_)
        · skip
          refine g_iincN (L' := [some (vr (9, h)), some (vi (nI i)), some (vi (nI (wid n a i))), some (vi (nI (q + 1))), some (vi (nI (onN (a i) (dr q))))]) cx dX0_isOpen_52 rfl (by decide) rfl rfl ?_
          refine g_goto (tgt := 8) cx dX0_isOpen_55 (by decide) ?_
          refine g_drop 4 (L' := [some (vr (9, h)), some (vi (nI i)), some (vi (nI (wid n a i))), some (vi (nI (q + 1))), none]) rfl ?_
          exact ih (q + 1) (by omega) (by omega) (by first | exact any_0 hno (opC_f1 h_41) | exact any_0 hno (opC_f2 h_47))
        · skip
          refine g_iload cx dX0_isOpen_44 rfl ?_
          refine g_iload_n cx dX0_isOpen_46 rfl ?_
          refine g_icmp_geN (tgt := 52) cx dX0_isOpen_47 (by decide) (by omega) (by omega) (fun h_47 => ?_) (fun h_47 => ?_)
          · skip
            refine g_iincN (L' := [some (vr (9, h)), some (vi (nI i)), some (vi (nI (wid n a i))), some (vi (nI (q + 1))), some (vi (nI (onN (a i) (dr q))))]) cx dX0_isOpen_52 rfl (by decide) rfl rfl ?_
            refine g_goto (tgt := 8) cx dX0_isOpen_55 (by decide) ?_
            refine g_drop 4 (L' := [some (vr (9, h)), some (vi (nI i)), some (vi (nI (wid n a i))), some (vi (nI (q + 1))), none]) rfl ?_
            exact ih (q + 1) (by omega) (by omega) (by first | exact any_0 hno (opC_f1 h_41) | exact any_0 hno (opC_f2 h_47))
          · skip
            refine g_iconst (v := nI 1) cx dX0_isOpen_50 (by decide) ?_
            exact g_fret cx rq rfl (by rfl) dX0_isOpen_51 (by rw [bi_t (c := opn n a dn dr i = true) (anyB_iff.mpr ⟨q, h_16, opC_t h_41 h_47⟩)]) (rfl)
  exact lp (dn + 1) 0 (by omega) (by omega) (by simp [anyB])

set_option maxRecDepth 100000 in
set_option maxHeartbeats 4000000 in
theorem x_openRooms {D : Wd} {n : Nat} {k f : Nat → Nat} {dn : Nat} {dr : Nat → Nat} {pn : Nat} (hP : PX D 0 n k f dn dr pn) {h : Nat} (hh : h < 11) {a : Nat → Nat} (hA : AX D h n a) : Fok mX0_openRooms idsA 3 [vr (9, h)] D (some (vi (nI (bitsN (opn n a dn dr) n)))) D := by
  obtain ⟨hn3, hn8, hN, hK, hF, hd3, hDn, hDr, hp5, hPn⟩ := id hP
  refine Mok.of (L := [some (vr (9, h)), none, none]) rfl (fun _ => Nat.le_of_ble_eq_true rfl) (fun _ => rfl) (fun X cx rq => ?_)
  refine g_iconst (v := nI 0) cx dX0_openRooms_0 (by decide) ?_
  refine g_istore_n (L' := [some (vr (9, h)), some (vi (nI 0)), none]) cx dX0_openRooms_1 (by decide) rfl rfl ?_
  refine g_iconst (v := nI 0) cx dX0_openRooms_2 (by decide) ?_
  refine g_istore_n (L' := [some (vr (9, h)), some (vi (nI 0)), some (vi (nI 0))]) cx dX0_openRooms_3 (by decide) rfl rfl ?_
  have lp : ∀ (fu : Nat) (q : Nat), n - q < fu → (q ≤ n) → Gk X mX0_openRooms idsA 4 [some (vr (9, h)), some (vi (nI (bitsN (opn n a dn dr) q))), some (vi (nI q))] [] D := by
    intro fu
    induction fu with
    | zero => intro q hfu; exact absurd hfu (Nat.not_lt_zero _)
    | succ fu ih =>
      intro q hfu hq
      refine g_iload_n cx dX0_openRooms_4 rfl ?_
      refine g_aload_n cx dX0_openRooms_5 rfl ?_
      refine g_getR (i := (9, h)) (ci := 0) (k := 0) (j := (1, 0)) cx (aH9 h hh) rfl rfl rfl (by decide) inX0 lfX0_18 dX0_openRooms_6 ?_
      refine g_getIN (i := (1, 0)) (ci := 1) (k := 0) (v := nI n) cx a1_0 rfl rfl rfl (by decide) inX1 lfX0_58 dX0_openRooms_9 (hN) ?_
      refine g_icmp_geN (tgt := 35) cx dX0_openRooms_12 (by decide) (by omega) (by omega) (fun h_12 => ?_) (fun h_12 => ?_)
      · skip
        have e9 : q = n := by omega
        refine g_iload_n cx dX0_openRooms_35 rfl ?_
        exact g_fret cx rq rfl (rfl) dX0_openRooms_36 (by rw [e9]) (rfl)
      · skip
        refine g_aload_n cx dX0_openRooms_15 rfl ?_
        refine g_iload_n cx dX0_openRooms_16 rfl ?_
        refine g_fcallV (As := [vi (nI q)]) (rest := []) cx knX0_isOpen (x_isOpen hP hh hA (i := q) (by omega)) (aH9 h hh) rfl rfl lmX0_61 niX0_isOpen seX0_isOpen rfl (by decide) (Nat.le_of_ble_eq_true rfl) rfl dX0_openRooms_17 ?_
        refine g_if_eqB (tgt := 29) cx dX0_openRooms_20 (by decide) (fun h_20 => ?_) (fun h_20 => ?_)
        · skip
          refine g_loc (L' := [some (vr (9, h)), some (vi (nI (bitsN (opn n a dn dr) (q + 1)))), some (vi (nI q))]) (by rw [bitsN_no h_20]) ?_
          refine g_iincN (L' := [some (vr (9, h)), some (vi (nI (bitsN (opn n a dn dr) (q + 1)))), some (vi (nI (q + 1)))]) cx dX0_openRooms_29 rfl (by decide) rfl rfl ?_
          refine g_goto (tgt := 4) cx dX0_openRooms_32 (by decide) ?_
          exact ih (q + 1) (by omega) (by omega)
        · skip
          refine g_iload_n cx dX0_openRooms_23 rfl ?_
          refine g_iconst (v := nI 1) cx dX0_openRooms_24 (by decide) ?_
          refine g_iload_n cx dX0_openRooms_25 rfl ?_
          refine g_ishl cx dX0_openRooms_26 ?_
          refine g_top (nI_shl q (by omega)) ?_
          refine g_ior cx dX0_openRooms_27 ?_
          refine g_top (bitsN_s (opn n a dn dr) q (by rw [if_pos h_20])) ?_
          refine g_istore_n (L' := [some (vr (9, h)), some (vi (nI (bitsN (opn n a dn dr) (q + 1)))), some (vi (nI q))]) cx dX0_openRooms_28 (by decide) rfl rfl ?_
          refine g_iincN (L' := [some (vr (9, h)), some (vi (nI (bitsN (opn n a dn dr) (q + 1)))), some (vi (nI (q + 1)))]) cx dX0_openRooms_29 rfl (by decide) rfl rfl ?_
          refine g_goto (tgt := 4) cx dX0_openRooms_32 (by decide) ?_
          exact ih (q + 1) (by omega) (by omega)
  exact lp (n + 1) 0 (by omega) (by omega)

set_option maxRecDepth 100000 in
set_option maxHeartbeats 4000000 in
theorem x_peopleAt {D : Wd} {n : Nat} {k f : Nat → Nat} {dn : Nat} {dr : Nat → Nat} {pn : Nat} (hP : PX D 0 n k f dn dr pn) {h : Nat} (hh : h < 11) {pl : Nat → Int32} (hPl : PLX D h pn pl) (x : Int32) : Fok mX0_peopleAt idsA 0 [vr (9, h), vi x] D (some (vi (nI (ppl pn pl x)))) D := by
  obtain ⟨hn3, hn8, hN, hK, hF, hd3, hDn, hDr, hp5, hPn⟩ := id hP
  refine Mok.of (L := [some (vr (9, h)), some (vi x), none, none]) rfl (fun _ => Nat.le_of_ble_eq_true rfl) (fun _ => rfl) (fun X cx rq => ?_)
  refine g_iconst (v := nI 0) cx dX0_peopleAt_0 (by decide) ?_
  refine g_istore_n (L' := [some (vr (9, h)), some (vi x), some (vi (nI 0)), none]) cx dX0_peopleAt_1 (by decide) rfl rfl ?_
  refine g_iconst (v := nI 0) cx dX0_peopleAt_2 (by decide) ?_
  refine g_istore_n (L' := [some (vr (9, h)), some (vi x), some (vi (nI 0)), some (vi (nI 0))]) cx dX0_peopleAt_3 (by decide) rfl rfl ?_
  have lp : ∀ (fu : Nat) (q : Nat), pn - q < fu → (q ≤ pn) → Gk X mX0_peopleAt idsA 4 [some (vr (9, h)), some (vi x), some (vi (nI (bitsN (fun p => decide (pl p = x)) q))), some (vi (nI q))] [] D := by
    intro fu
    induction fu with
    | zero => intro q hfu; exact absurd hfu (Nat.not_lt_zero _)
    | succ fu ih =>
      intro q hfu hq
      refine g_iload_n cx dX0_peopleAt_4 rfl ?_
      refine g_aload_n cx dX0_peopleAt_5 rfl ?_
      refine g_getR (i := (9, h)) (ci := 0) (k := 0) (j := (1, 0)) cx (aH9 h hh) rfl rfl rfl (by decide) inX0 lfX0_18 dX0_peopleAt_6 ?_
      refine g_getIN (i := (1, 0)) (ci := 1) (k := 6) (v := nI pn) cx a1_0 rfl rfl rfl (by decide) inX1 lfX0_65 dX0_peopleAt_9 (hPn) ?_
      refine g_icmp_geN (tgt := 37) cx dX0_peopleAt_12 (by decide) (by omega) (by omega) (fun h_12 => ?_) (fun h_12 => ?_)
      · skip
        have e9 : q = pn := by omega
        refine g_iload_n cx dX0_peopleAt_37 rfl ?_
        exact g_fret cx rq rfl (rfl) dX0_peopleAt_38 (by rw [e9]; rfl) (rfl)
      · skip
        refine g_aload_n cx dX0_peopleAt_15 rfl ?_
        refine g_getR (i := (9, h)) (ci := 0) (k := 2) (j := (11, h)) cx (aH9 h hh) rfl rfl rfl (by decide) inX0 lfX0_15 dX0_peopleAt_16 ?_
        refine g_iload_n cx dX0_peopleAt_19 rfl ?_
        refine g_ialdN (i := (11, h)) (j := q) (v := (pl q)) cx (aH11 h hh) rfl (rfl) (by omega) (by decide) dX0_peopleAt_20 (hPl q (by omega)) ?_
        refine g_iload_n cx dX0_peopleAt_21 rfl ?_
        refine g_icmp_ne (tgt := 31) cx dX0_peopleAt_22 (by decide) (fun h_22 => ?_) (fun h_22 => ?_)
        · skip
          refine g_loc (L' := [some (vr (9, h)), some (vi x), some (vi (nI (bitsN (fun p => decide (pl p = x)) (q + 1)))), some (vi (nI q))]) (by rw [bitsN_no (by simpa using h_22)]) ?_
          refine g_iincN (L' := [some (vr (9, h)), some (vi x), some (vi (nI (bitsN (fun p => decide (pl p = x)) (q + 1)))), some (vi (nI (q + 1)))]) cx dX0_peopleAt_31 rfl (by decide) rfl rfl ?_
          refine g_goto (tgt := 4) cx dX0_peopleAt_34 (by decide) ?_
          exact ih (q + 1) (by omega) (by omega)
        · skip
          refine g_iload_n cx dX0_peopleAt_25 rfl ?_
          refine g_iconst (v := nI 1) cx dX0_peopleAt_26 (by decide) ?_
          refine g_iload_n cx dX0_peopleAt_27 rfl ?_
          refine g_ishl cx dX0_peopleAt_28 ?_
          refine g_top (nI_shl q (by omega)) ?_
          refine g_ior cx dX0_peopleAt_29 ?_
          refine g_top (bitsN_s (fun p => decide (pl p = x)) q (by rw [if_pos (decide_eq_true h_22)])) ?_
          refine g_istore_n (L' := [some (vr (9, h)), some (vi x), some (vi (nI (bitsN (fun p => decide (pl p = x)) (q + 1)))), some (vi (nI q))]) cx dX0_peopleAt_30 (by decide) rfl rfl ?_
          refine g_iincN (L' := [some (vr (9, h)), some (vi x), some (vi (nI (bitsN (fun p => decide (pl p = x)) (q + 1)))), some (vi (nI (q + 1)))]) cx dX0_peopleAt_31 rfl (by decide) rfl rfl ?_
          refine g_goto (tgt := 4) cx dX0_peopleAt_34 (by decide) ?_
          exact ih (q + 1) (by omega) (by omega)
  exact lp (pn + 1) 0 (by omega) (by omega)

set_option maxRecDepth 100000 in
set_option maxHeartbeats 4000000 in
theorem x_areAllOut {D : Wd} {n : Nat} {k f : Nat → Nat} {dn : Nat} {dr : Nat → Nat} {pn : Nat} (hP : PX D 0 n k f dn dr pn) {h : Nat} (hh : h < 11) {pl : Nat → Int32} (hPl : PLX D h pn pl) : Fok mX0_areAllOut idsA 0 [vr (9, h)] D (some (vi (if allO pn pl = true then 1 else 0))) D := by
  obtain ⟨hn3, hn8, hN, hK, hF, hd3, hDn, hDr, hp5, hPn⟩ := id hP
  refine Mok.of (L := [some (vr (9, h)), none]) rfl (fun _ => Nat.le_of_ble_eq_true rfl) (fun _ => rfl) (fun X cx rq => ?_)
  refine g_iconst (v := nI 0) cx dX0_areAllOut_0 (by decide) ?_
  refine g_istore_n (L' := [some (vr (9, h)), some (vi (nI 0))]) cx dX0_areAllOut_1 (by decide) rfl rfl ?_
  have lp : ∀ (fu : Nat) (q : Nat), pn - q < fu → (q ≤ pn) → (∀ p, p < q → pl p = -1) → Gk X mX0_areAllOut idsA 2 [some (vr (9, h)), some (vi (nI q))] [] D := by
    intro fu
    induction fu with
    | zero => intro q hfu; exact absurd hfu (Nat.not_lt_zero _)
    | succ fu ih =>
      intro q hfu hq hall
      refine g_iload_n cx dX0_areAllOut_2 rfl ?_
      refine g_aload_n cx dX0_areAllOut_3 rfl ?_
      refine g_getR (i := (9, h)) (ci := 0) (k := 0) (j := (1, 0)) cx (aH9 h hh) rfl rfl rfl (by decide) inX0 lfX0_18 dX0_areAllOut_4 ?_
      refine g_getIN (i := (1, 0)) (ci := 1) (k := 6) (v := nI pn) cx a1_0 rfl rfl rfl (by decide) inX1 lfX0_65 dX0_areAllOut_7 (hPn) ?_
      refine g_icmp_geN (tgt := 31) cx dX0_areAllOut_10 (by decide) (by omega) (by omega) (fun h_10 => ?_) (fun h_10 => ?_)
      · skip
        have e9 : q = pn := by omega
        refine g_iconst (v := nI 1) cx dX0_areAllOut_31 (by decide) ?_
        exact g_fret cx rq rfl (by rfl) dX0_areAllOut_32 (by rw [bi_t (c := allO pn pl = true) (allO_0.mpr (fun p hp => hall p (by omega)))]) (rfl)
      · skip
        refine g_aload_n cx dX0_areAllOut_13 rfl ?_
        refine g_getR (i := (9, h)) (ci := 0) (k := 2) (j := (11, h)) cx (aH9 h hh) rfl rfl rfl (by decide) inX0 lfX0_15 dX0_areAllOut_14 ?_
        refine g_iload_n cx dX0_areAllOut_17 rfl ?_
        refine g_ialdN (i := (11, h)) (j := q) (v := (pl q)) cx (aH11 h hh) rfl (rfl) (by omega) (by decide) dX0_areAllOut_18 (hPl q (by omega)) ?_
        refine g_iconst (v := (-1)) cx dX0_areAllOut_19 (by decide) ?_
        refine g_icmp_eq (tgt := 25) cx dX0_areAllOut_20 (by decide) (fun h_20 => ?_) (fun h_20 => ?_)
        · skip
          refine g_iincN (L' := [some (vr (9, h)), some (vi (nI (q + 1)))]) cx dX0_areAllOut_25 rfl (by decide) rfl rfl ?_
          refine g_goto (tgt := 2) cx dX0_areAllOut_28 (by decide) ?_
          exact ih (q + 1) (by omega) (by omega) (lt_s (p := fun z => pl z = -1) hall h_20)
        · skip
          refine g_iconst (v := nI 0) cx dX0_areAllOut_23 (by decide) ?_
          exact g_fret cx rq rfl (by rfl) dX0_areAllOut_24 (by rw [bi_f (c := allO pn pl = true) (fun h9 => h_20 (allO_0.mp h9 q h_10))]) (rfl)
  exact lp (pn + 1) 0 (by omega) (by omega) (fun p hp => absurd hp (Nat.not_lt_zero p))

set_option maxRecDepth 100000 in
set_option maxHeartbeats 4000000 in
theorem x_letFirstOut {D : Wd} {n : Nat} {k f : Nat → Nat} {dn : Nat} {dr : Nat → Nat} {pn : Nat} (hP : PX D 0 n k f dn dr pn) {h : Nat} (hh : h < 11) {pl : Nat → Int32} (hPl : PLX D h pn pl) {r : Nat} (hr : r < 9) : Fok mX0_letFirstOut idsA 0 [vr (9, h), vi (nI r)] D none (PW D h pn (if frst pl r pn 0 < pn then upd pl (frst pl r pn 0) (-1) else pl)) := by
  obtain ⟨hn3, hn8, hN, hK, hF, hd3, hDn, hDr, hp5, hPn⟩ := id hP
  refine Mok.of (L := [some (vr (9, h)), some (vi (nI r)), none]) rfl (fun _ => Nat.le_of_ble_eq_true rfl) (fun _ => rfl) (fun X cx rq => ?_)
  refine g_iconst (v := nI 0) cx dX0_letFirstOut_0 (by decide) ?_
  refine g_istore_n (L' := [some (vr (9, h)), some (vi (nI r)), some (vi (nI 0))]) cx dX0_letFirstOut_1 (by decide) rfl rfl ?_
  have lp : ∀ (fu : Nat) (q : Nat), pn - q < fu → (q ≤ pn) → (frst pl r (pn - q) q = frst pl r pn 0) → Gk X mX0_letFirstOut idsA 2 [some (vr (9, h)), some (vi (nI r)), some (vi (nI q))] [] D := by
    intro fu
    induction fu with
    | zero => intro q hfu; exact absurd hfu (Nat.not_lt_zero _)
    | succ fu ih =>
      intro q hfu hq hm
      refine g_iload_n cx dX0_letFirstOut_2 rfl ?_
      refine g_aload_n cx dX0_letFirstOut_3 rfl ?_
      refine g_getR (i := (9, h)) (ci := 0) (k := 0) (j := (1, 0)) cx (aH9 h hh) rfl rfl rfl (by decide) inX0 lfX0_18 dX0_letFirstOut_4 ?_
      refine g_getIN (i := (1, 0)) (ci := 1) (k := 6) (v := nI pn) cx a1_0 rfl rfl rfl (by decide) inX1 lfX0_65 dX0_letFirstOut_7 (hPn) ?_
      refine g_icmp_geN (tgt := 37) cx dX0_letFirstOut_10 (by decide) (by omega) (by omega) (fun h_10 => ?_) (fun h_10 => ?_)
      · skip
        have hm3 : q = frst pl r pn 0 := by
          rw [← hm, show pn - q = 0 from by omega]; rfl
        exact g_fvret cx rq rfl dX0_letFirstOut_37 rfl (by rw [if_neg (by omega)]; exact (PW.self hPl).symm)
      · skip
        have hm4 := hm
        rw [show pn - q = (pn - (q + 1)) + 1 from by omega, frst] at hm4
        refine g_aload_n cx dX0_letFirstOut_13 rfl ?_
        refine g_getR (i := (9, h)) (ci := 0) (k := 2) (j := (11, h)) cx (aH9 h hh) rfl rfl rfl (by decide) inX0 lfX0_15 dX0_letFirstOut_14 ?_
        refine g_iload_n cx dX0_letFirstOut_17 rfl ?_
        refine g_ialdN (i := (11, h)) (j := q) (v := (pl q)) cx (aH11 h hh) rfl (rfl) (by omega) (by decide) dX0_letFirstOut_18 (hPl q (by omega)) ?_
        refine g_iload_n cx dX0_letFirstOut_19 rfl ?_
        refine g_icmp_ne (tgt := 31) cx dX0_letFirstOut_20 (by decide) (fun h_20 => ?_) (fun h_20 => ?_)
        · skip
          rw [if_neg h_20] at hm4
          have hm2 := hm4
          refine g_iincN (L' := [some (vr (9, h)), some (vi (nI r)), some (vi (nI (q + 1)))]) cx dX0_letFirstOut_31 rfl (by decide) rfl rfl ?_
          refine g_goto (tgt := 2) cx dX0_letFirstOut_34 (by decide) ?_
          exact ih (q + 1) (by omega) (by omega) hm2
        · skip
          rw [if_pos h_20] at hm4
          refine g_aload_n cx dX0_letFirstOut_23 rfl ?_
          refine g_getR (i := (9, h)) (ci := 0) (k := 2) (j := (11, h)) cx (aH9 h hh) rfl rfl rfl (by decide) inX0 lfX0_15 dX0_letFirstOut_24 ?_
          refine g_iload_n cx dX0_letFirstOut_27 rfl ?_
          refine g_iconst (v := (-1)) cx dX0_letFirstOut_28 (by decide) ?_
          refine g_iast (i := (11, h)) (j := q) cx (aH11 h hh) rfl (rfl) (by omega) (by decide) dX0_letFirstOut_29 ?_
          exact g_fvret cx rq rfl dX0_letFirstOut_30 rfl (by rw [if_pos (by omega), ← hm4]; exact PW.upd hPl h_10)
  exact lp (pn + 1) 0 (by omega) (by omega) rfl

set_option maxRecDepth 100000 in
set_option maxHeartbeats 4000000 in
theorem x_movers {D : Wd} {n : Nat} {k f : Nat → Nat} {dn : Nat} {dr : Nat → Nat} {pn : Nat} (hP : PX D 0 n k f dn dr pn) {h : Nat} (hh : h < 11) {a : Nat → Nat} (hA : AX D h n a) {i s : Nat} (hi : i < n) (hs : s < 2) : Fok mX0_movers idsA 2 [vr (9, h), vi (nI i), vi (nI s)] D (some (vi (nI (mov n a k f i s)))) D := by
  obtain ⟨hn3, hn8, hN, hK, hF, hd3, hDn, hDr, hp5, hPn⟩ := id hP
  have hki := (hK i hi).2
  refine Mok.of (L := [some (vr (9, h)), some (vi (nI i)), some (vi (nI s)), none, none, none]) rfl (fun _ => Nat.le_of_ble_eq_true rfl) (fun _ => rfl) (fun X cx rq => ?_)
  refine g_aload_n cx dX0_movers_0 rfl ?_
  refine g_getR (i := (9, h)) (ci := 0) (k := 0) (j := (1, 0)) cx (aH9 h hh) rfl rfl rfl (by decide) inX0 lfX0_18 dX0_movers_1 ?_
  refine g_getR (i := (1, 0)) (ci := 1) (k := 2) (j := (3, 0)) cx a1_0 rfl rfl rfl (by decide) inX1 lfX0_72 dX0_movers_4 ?_
  refine g_iload_n cx dX0_movers_7 rfl ?_
  refine g_ialdN (i := (3, 0)) (j := i) (v := nI (k i)) cx a3_0 rfl (rfl) (by omega) (by decide) dX0_movers_8 ((hK i (by omega)).1) ?_
  refine g_iconst (v := nI 3) cx dX0_movers_9 (by decide) ?_
  refine g_icmp_neN (tgt := 15) cx dX0_movers_10 (by decide) (by omega) (by omega) (fun h_10 => ?_) (fun h_10 => ?_)
  · skip
    refine g_iload_n cx dX0_movers_15 rfl ?_
    refine g_istore_n (L' := [some (vr (9, h)), some (vi (nI i)), some (vi (nI s)), some (vi (nI i)), none, none]) cx dX0_movers_16 (by decide) rfl rfl ?_
    refine g_iconst (v := nI 1) cx dX0_movers_17 (by decide) ?_
    refine g_istore (L' := [some (vr (9, h)), some (vi (nI i)), some (vi (nI s)), some (vi (nI i)), some (vi (nI 1)), none]) cx dX0_movers_18 (by decide) rfl rfl ?_
    have lp : ∀ (fu : Nat) (w : Nat) (c : Nat), n - c < fu → (w < n) → (1 ≤ c) → (c ≤ n) → (movG n a k f s (n - c) w c = mov n a k f i s) → Gk X mX0_movers idsA 20 [some (vr (9, h)), some (vi (nI i)), some (vi (nI s)), some (vi (nI w)), some (vi (nI c)), none] [] D := by
      intro fu
      induction fu with
      | zero => intro w c hfu; exact absurd hfu (Nat.not_lt_zero _)
      | succ fu ih =>
        intro w c hfu hw hc hc2 hm
        have hrm := rmB_lt (s := s) hw
        have hlf := lfB_lt (s := s) hw
        have hwd := wid_lt hrm (fun j hj => (hA j hj).2)
        have hfr := (hF _ hrm).2
        have hkl := (hK _ hlf).2
        refine g_iload cx dX0_movers_20 rfl ?_
        refine g_aload_n cx dX0_movers_22 rfl ?_
        refine g_getR (i := (9, h)) (ci := 0) (k := 0) (j := (1, 0)) cx (aH9 h hh) rfl rfl rfl (by decide) inX0 lfX0_18 dX0_movers_23 ?_
        refine g_getIN (i := (1, 0)) (ci := 1) (k := 0) (v := nI n) cx a1_0 rfl rfl rfl (by decide) inX1 lfX0_58 dX0_movers_26 (hN) ?_
        refine g_icmp_geN (tgt := 94) cx dX0_movers_29 (by decide) (by omega) (by omega) (fun h_29 => ?_) (fun h_29 => ?_)
        · skip
          have e9 : c = n := by omega
          refine g_aload_n cx dX0_movers_94 rfl ?_
          refine g_getR (i := (9, h)) (ci := 0) (k := 0) (j := (1, 0)) cx (aH9 h hh) rfl rfl rfl (by decide) inX0 lfX0_18 dX0_movers_95 ?_
          refine g_getIN (i := (1, 0)) (ci := 1) (k := 0) (v := nI n) cx a1_0 rfl rfl rfl (by decide) inX1 lfX0_58 dX0_movers_98 (hN) ?_
          exact g_fret cx rq rfl (rfl) dX0_movers_101 (by rw [← hm, show n - c = 0 from by omega, e9]; rfl) (rfl)
        · skip
          have hm3 := hm
          rw [show n - c = (n - (c + 1)) + 1 from by omega, movG] at hm3
          refine g_aload_n cx dX0_movers_32 rfl ?_
          refine g_getR (i := (9, h)) (ci := 0) (k := 0) (j := (1, 0)) cx (aH9 h hh) rfl rfl rfl (by decide) inX0 lfX0_18 dX0_movers_33 ?_
          refine g_iload_n cx dX0_movers_36 rfl ?_
          refine g_iload_n cx dX0_movers_37 rfl ?_
          refine g_fcallV (As := [vi (nI w), vi (nI s)]) (rest := []) cx knX1_roomBeside (x_roomBeside hP (by decide) (i := w) (s := s) (by omega) (by omega)) a1_0 rfl rfl lmX0_75 niX1_roomBeside seX1_roomBeside rfl (by decide) (Nat.le_of_ble_eq_true rfl) rfl dX0_movers_38 ?_
          refine g_istore (L' := [some (vr (9, h)), some (vi (nI i)), some (vi (nI s)), some (vi (nI w)), some (vi (nI c)), some (vi (nI (rmB n w s)))]) cx dX0_movers_41 (by decide) rfl rfl ?_
          refine g_aload_n cx dX0_movers_43 rfl ?_
          refine g_iload cx dX0_movers_44 rfl ?_
          refine g_fcallV (As := [vi (nI (rmB n w s))]) (rest := []) cx knX0_width (x_width hP hh hA (i := rmB n w s) (by omega)) (aH9 h hh) rfl rfl lmX0_46 niX0_width seX0_width rfl (by decide) (Nat.le_of_ble_eq_true rfl) rfl dX0_movers_46 ?_
          refine g_aload_n cx dX0_movers_49 rfl ?_
          refine g_getR (i := (9, h)) (ci := 0) (k := 0) (j := (1, 0)) cx (aH9 h hh) rfl rfl rfl (by decide) inX0 lfX0_18 dX0_movers_50 ?_
          refine g_iload cx dX0_movers_53 rfl ?_
          refine g_fcallV (As := [vi (nI (rmB n w s))]) (rest := [vi (nI (wid n a (rmB n w s)))]) cx knX1_need (x_need hP (by decide) (i := rmB n w s) (by omega)) a1_0 rfl rfl lmX0_49 niX1_need seX1_need rfl (by decide) (Nat.le_of_ble_eq_true rfl) rfl dX0_movers_55 ?_
          refine g_icmp_leN (tgt := 64) cx dX0_movers_58 (by decide) (by omega) (by omega) (fun h_58 => ?_) (fun h_58 => ?_)
          · skip
            rw [if_neg (by omega)] at hm3
            refine g_aload_n cx dX0_movers_64 rfl ?_
            refine g_getR (i := (9, h)) (ci := 0) (k := 0) (j := (1, 0)) cx (aH9 h hh) rfl rfl rfl (by decide) inX0 lfX0_18 dX0_movers_65 ?_
            refine g_iload_n cx dX0_movers_68 rfl ?_
            refine g_iload_n cx dX0_movers_69 rfl ?_
            refine g_fcallV (As := [vi (nI w), vi (nI s)]) (rest := []) cx knX1_leafBeside (x_leafBeside hP (by decide) (i := w) (s := s) (by omega) (by omega)) a1_0 rfl rfl lmX0_78 niX1_leafBeside seX1_leafBeside rfl (by decide) (Nat.le_of_ble_eq_true rfl) rfl dX0_movers_70 ?_
            refine g_istore_n (L' := [some (vr (9, h)), some (vi (nI i)), some (vi (nI s)), some (vi (nI (lfB n w s))), some (vi (nI c)), some (vi (nI (rmB n w s)))]) cx dX0_movers_73 (by decide) rfl rfl ?_
            refine g_aload_n cx dX0_movers_74 rfl ?_
            refine g_getR (i := (9, h)) (ci := 0) (k := 0) (j := (1, 0)) cx (aH9 h hh) rfl rfl rfl (by decide) inX0 lfX0_18 dX0_movers_75 ?_
            refine g_iload_n cx dX0_movers_78 rfl ?_
            refine g_iconst (v := nI 1) cx dX0_movers_79 (by decide) ?_
            refine g_fcallV (As := [vi (nI (lfB n w s)), vi (nI 1)]) (rest := []) cx knX1_isTakenAs (x_isTakenAs hP (by decide) (i := lfB n w s) (s := 1) (by omega) (by omega)) a1_0 rfl rfl lmX0_81 niX1_isTakenAs seX1_isTakenAs rfl (by decide) (Nat.le_of_ble_eq_true rfl) rfl dX0_movers_80 ?_
            refine g_if_neB (tgt := 88) cx dX0_movers_83 (by decide) (fun h_83 => ?_) (fun h_83 => ?_)
            · skip
              have hk1 := (tak1 _ hkl).mp h_83
              rw [if_neg (by omega)] at hm3
              have hm4 := hm3
              refine g_iincN (L' := [some (vr (9, h)), some (vi (nI i)), some (vi (nI s)), some (vi (nI (lfB n w s))), some (vi (nI (c + 1))), some (vi (nI (rmB n w s)))]) cx dX0_movers_88 rfl (by decide) rfl rfl ?_
              refine g_goto (tgt := 20) cx dX0_movers_91 (by decide) ?_
              refine g_drop 5 (L' := [some (vr (9, h)), some (vi (nI i)), some (vi (nI s)), some (vi (nI (lfB n w s))), some (vi (nI (c + 1))), none]) rfl ?_
              exact ih (lfB n w s) (c + 1) (by omega) hlf (by omega) (by omega) hm4
            · skip
              have hk1 : ¬ _ := fun x => h_83 ((tak1 _ hkl).mpr x)
              rw [if_pos (by omega)] at hm3
              refine g_iconst (v := nI 0) cx dX0_movers_86 (by decide) ?_
              exact g_fret cx rq rfl (rfl) dX0_movers_87 (by rw [← hm3]) (rfl)
          · skip
            rw [if_pos h_58] at hm3
            refine g_iload cx dX0_movers_61 rfl ?_
            exact g_fret cx rq rfl (rfl) dX0_movers_63 (by rw [← hm3]) (rfl)
    exact lp (n + 1) i 1 (by omega) hi (by omega) (by omega) (by unfold mov; rw [if_neg h_10])
  · skip
    refine g_iconst (v := nI 0) cx dX0_movers_13 (by decide) ?_
    exact g_fret cx rq rfl (rfl) dX0_movers_14 (by unfold mov; rw [if_pos h_10]) (rfl)

set_option maxRecDepth 100000 in
set_option maxHeartbeats 4000000 in
theorem x_stepped {D : Wd} {x s : Nat} (hx : x < 72) (hs : s < 2) : Fok mX0_stepped idsA 0 [vi (nI x), vi (nI s)] D (some (vi (nI (sa s x)))) D := by
  refine Mok.of (L := [some (vi (nI x)), some (vi (nI s))]) rfl (fun _ => Nat.le_of_ble_eq_true rfl) (fun _ => rfl) (fun X cx rq => ?_)
  refine g_iload_n cx dX0_stepped_0 rfl ?_
  refine g_if_neN (tgt := 20) cx dX0_stepped_1 (by decide) (by omega) (fun h_1 => ?_) (fun h_1 => ?_)
  · skip
    refine g_iload_n cx dX0_stepped_20 rfl ?_
    refine g_if_leN (tgt := 30) cx dX0_stepped_21 (by decide) (by omega) (fun h_21 => ?_) (fun h_21 => ?_)
    · skip
      refine g_bipush (v := nI 71) cx dX0_stepped_30 (by decide) ?_
      exact g_fret cx rq rfl (rfl) dX0_stepped_32 (by rw [sa, if_neg h_1]; congr 3; omega) (rfl)
    · skip
      refine g_iload_n cx dX0_stepped_24 rfl ?_
      refine g_iconst (v := nI 1) cx dX0_stepped_25 (by decide) ?_
      refine g_isubN cx dX0_stepped_26 (by omega) ?_
      refine g_goto (tgt := 32) cx dX0_stepped_27 (by decide) ?_
      exact g_fret cx rq rfl (rfl) dX0_stepped_32 (by rw [sa, if_neg h_1]; congr 3; omega) (rfl)
  · skip
    refine g_iload_n cx dX0_stepped_4 rfl ?_
    refine g_iconst (v := nI 1) cx dX0_stepped_5 (by decide) ?_
    refine g_iaddN cx dX0_stepped_6 ?_
    refine g_bipush (v := nI 72) cx dX0_stepped_7 (by decide) ?_
    refine g_icmp_geN (tgt := 18) cx dX0_stepped_9 (by decide) (by omega) (by omega) (fun h_9 => ?_) (fun h_9 => ?_)
    · skip
      refine g_iconst (v := nI 0) cx dX0_stepped_18 (by decide) ?_
      exact g_fret cx rq rfl (rfl) dX0_stepped_19 (by rw [sa, if_pos h_1]; congr 3; omega) (rfl)
    · skip
      refine g_iload_n cx dX0_stepped_12 rfl ?_
      refine g_iconst (v := nI 1) cx dX0_stepped_13 (by decide) ?_
      refine g_iaddN cx dX0_stepped_14 ?_
      refine g_goto (tgt := 19) cx dX0_stepped_15 (by decide) ?_
      exact g_fret cx rq rfl (rfl) dX0_stepped_19 (by rw [sa, if_pos h_1]; congr 3; omega) (rfl)

set_option maxRecDepth 100000 in
set_option maxHeartbeats 4000000 in
theorem x_step {D : Wd} {n : Nat} {k f : Nat → Nat} {dn : Nat} {dr : Nat → Nat} {pn : Nat} (hP : PX D 0 n k f dn dr pn) {h : Nat} (hh : h < 11) {a : Nat → Nat} (hA : AX D h n a) {i s : Nat} (hi : i < n) (hs : s < 2) : Fok mX0_step idsA 3 [vr (9, h), vi (nI i), vi (nI s)] D (some (vi (if 0 < mov n a k f i s then 1 else 0))) (RX D h n (stp n a k f i s)) := by
  obtain ⟨hn3, hn8, hN, hK, hF, hd3, hDn, hDr, hp5, hPn⟩ := id hP
  have hml := mov_le (a := a) (k := k) (f := f) (i := i) (s := s) (show 0 < n by omega)
  refine Mok.of (L := [some (vr (9, h)), some (vi (nI i)), some (vi (nI s)), none, none, none]) rfl (fun _ => Nat.le_of_ble_eq_true rfl) (fun _ => rfl) (fun X cx rq => ?_)
  refine g_aload_n cx dX0_step_0 rfl ?_
  refine g_iload_n cx dX0_step_1 rfl ?_
  refine g_iload_n cx dX0_step_2 rfl ?_
  refine g_fcallV (As := [vi (nI i), vi (nI s)]) (rest := []) cx knX0_movers (x_movers hP hh hA (i := i) (s := s) (by omega) (by omega)) (aH9 h hh) rfl rfl lmX0_85 niX0_movers seX0_movers rfl (by decide) (Nat.le_of_ble_eq_true rfl) rfl dX0_step_3 ?_
  refine g_istore_n (L' := [some (vr (9, h)), some (vi (nI i)), some (vi (nI s)), some (vi (nI (mov n a k f i s))), none, none]) cx dX0_step_6 (by decide) rfl rfl ?_
  refine g_iload_n cx dX0_step_7 rfl ?_
  refine g_istore (L' := [some (vr (9, h)), some (vi (nI i)), some (vi (nI s)), some (vi (nI (mov n a k f i s))), some (vi (nI i)), none]) cx dX0_step_8 (by decide) rfl rfl ?_
  refine g_iconst (v := nI 0) cx dX0_step_10 (by decide) ?_
  refine g_istore (L' := [some (vr (9, h)), some (vi (nI i)), some (vi (nI s)), some (vi (nI (mov n a k f i s))), some (vi (nI i)), some (vi (nI 0))]) cx dX0_step_11 (by decide) rfl rfl ?_
  have lp : ∀ (fu : Nat) (w : Nat) (q : Nat), mov n a k f i s - q < fu → (w < n) → (q ≤ mov n a k f i s) → (q < n → dst n i s w = q) → Gk X mX0_step idsA 13 [some (vr (9, h)), some (vi (nI i)), some (vi (nI s)), some (vi (nI (mov n a k f i s))), some (vi (nI w)), some (vi (nI q))] [] (RX D h n (stq n a i s q)) := by
    intro fu
    induction fu with
    | zero => intro w q hfu; exact absurd hfu (Nat.not_lt_zero _)
    | succ fu ih =>
      intro w q hfu hw hq hd
      refine g_iload cx dX0_step_13 rfl ?_
      refine g_iload_n cx dX0_step_15 rfl ?_
      refine g_icmp_geN (tgt := 55) cx dX0_step_16 (by decide) (by omega) (by omega) (fun h_16 => ?_) (fun h_16 => ?_)
      · skip
        have e9 : q = mov n a k f i s := by omega
        refine g_iload_n cx dX0_step_55 rfl ?_
        refine g_if_leN (tgt := 63) cx dX0_step_56 (by decide) (by omega) (fun h_56 => ?_) (fun h_56 => ?_)
        · skip
          refine g_iconst (v := nI 0) cx dX0_step_63 (by decide) ?_
          exact g_fret cx rq rfl (by rfl) dX0_step_64 (by rw [bi_f (c := 0 < mov n a k f i s) (by omega)]) (by rw [e9]; rfl)
        · skip
          refine g_iconst (v := nI 1) cx dX0_step_59 (by decide) ?_
          refine g_goto (tgt := 64) cx dX0_step_60 (by decide) ?_
          exact g_fret cx rq rfl (by rfl) dX0_step_64 (by rw [bi_t (c := 0 < mov n a k f i s) h_56]) (by rw [e9]; rfl)
      · skip
        have hdw := hd (by omega)
        refine g_aload_n cx dX0_step_19 rfl ?_
        refine g_getR (i := (9, h)) (ci := 0) (k := 1) (j := (10, h)) cx (aH9 h hh) rfl rfl rfl (by decide) inX0 lfX0_9 dX0_step_20 ?_
        refine g_iload cx dX0_step_23 rfl ?_
        refine g_aload_n cx dX0_step_25 rfl ?_
        refine g_getR (i := (9, h)) (ci := 0) (k := 1) (j := (10, h)) cx (aH9 h hh) rfl rfl rfl (by decide) inX0 lfX0_9 dX0_step_26 ?_
        refine g_iload cx dX0_step_29 rfl ?_
        refine g_ialdN (i := (10, h)) (j := w) (v := nI (a w)) cx (aH10 h hh) rfl (rfl) (by omega) (by decide) dX0_step_31 (by rw [RX.in (by omega), stq, if_neg (by rw [inM_dst, hdw]; simp)]) ?_
        refine g_iload_n cx dX0_step_32 rfl ?_
        refine g_fcallS (As := [vi (nI (a w)), vi (nI s)]) (rest := [vi (nI w), vr (10, h)]) cx knX0_stepped (x_stepped (x := a w) (s := s) ((hA w (by omega)).2) (by omega)) lmX0_88 nsX0_stepped rfl (by decide) (Nat.le_of_ble_eq_true rfl) rfl dX0_step_33 ?_
        refine g_iast (i := (10, h)) (j := w) cx (aH10 h hh) rfl (rfl) (by omega) (by decide) dX0_step_36 ?_
        refine g_wd (D' := RX D h n (stq n a i s (q + 1))) (RX.step (by omega) hi hs hw hdw) ?_
        refine g_aload_n cx dX0_step_37 rfl ?_
        refine g_getR (i := (9, h)) (ci := 0) (k := 0) (j := (1, 0)) cx (aH9 h hh) rfl rfl rfl (by decide) inX0 lfX0_18 dX0_step_38 ?_
        refine g_iload cx dX0_step_41 rfl ?_
        refine g_iload_n cx dX0_step_43 rfl ?_
        refine g_fcallV (As := [vi (nI w), vi (nI s)]) (rest := []) cx knX1_leafBeside (x_leafBeside (RX.P hP) (by decide) (i := w) (s := s) (by omega) (by omega)) a1_0 rfl rfl lmX0_78 niX1_leafBeside seX1_leafBeside rfl (by decide) (Nat.le_of_ble_eq_true rfl) rfl dX0_step_44 ?_
        refine g_istore (L' := [some (vr (9, h)), some (vi (nI i)), some (vi (nI s)), some (vi (nI (mov n a k f i s))), some (vi (nI (lfB n w s))), some (vi (nI q))]) cx dX0_step_47 (by decide) rfl rfl ?_
        refine g_iincN (L' := [some (vr (9, h)), some (vi (nI i)), some (vi (nI s)), some (vi (nI (mov n a k f i s))), some (vi (nI (lfB n w s))), some (vi (nI (q + 1)))]) cx dX0_step_49 rfl (by decide) rfl rfl ?_
        refine g_goto (tgt := 13) cx dX0_step_52 (by decide) ?_
        exact ih (lfB n w s) (q + 1) (by omega) (lfB_lt hw) (by omega) (fun h9 => by rw [dst_lf n (by omega) i hi s hs w hw, hdw, if_neg (by omega)])
  refine g_wd (D' := RX D h n (stq n a i s 0)) (by rw [stq_0]; exact (RX.self hA).symm) ?_
  exact lp (n + 1) i 0 (by omega) hi (by omega) (fun _ => dst_0 n (by omega) i hi s hs)

set_option maxRecDepth 100000 in
set_option maxHeartbeats 4000000 in
theorem x_goTillOpen {D : Wd} {n : Nat} {k f : Nat → Nat} {dn : Nat} {dr : Nat → Nat} {pn : Nat} (hP : PX D 0 n k f dn dr pn) {h : Nat} (hh : h < 11) {a : Nat → Nat} (hA : AX D h n a) {i s r mo : Nat} (hi : i < n) (hs : s < 2) (hr : r < n) (hmo : mo < 1000) : Fok mX0_goTillOpen idsA 4 [vr (9, h), vi (nI i), vi (nI s), vi (nI r), vi (nI mo)] D (some (vi (opI (gtG n k f dn dr i s r (mo + 1) 0 a).1))) (RX D h n (gtG n k f dn dr i s r (mo + 1) 0 a).2) := by
  obtain ⟨hn3, hn8, hN, hK, hF, hd3, hDn, hDr, hp5, hPn⟩ := id hP
  refine Mok.of (L := [some (vr (9, h)), some (vi (nI i)), some (vi (nI s)), some (vi (nI r)), some (vi (nI mo)), none]) rfl (fun _ => Nat.le_of_ble_eq_true rfl) (fun _ => rfl) (fun X cx rq => ?_)
  refine g_iconst (v := nI 0) cx dX0_goTillOpen_0 (by decide) ?_
  refine g_istore (L' := [some (vr (9, h)), some (vi (nI i)), some (vi (nI s)), some (vi (nI r)), some (vi (nI mo)), some (vi (nI 0))]) cx dX0_goTillOpen_1 (by decide) rfl rfl ?_
  have lp : ∀ (fu : Nat) (c : Nat) (ac : Nat → Nat), mo + 1 - c < fu → (c ≤ mo + 1) → (∀ j, j < n → ac j < 72) → (gtG n k f dn dr i s r (mo + 1 - c) c ac = gtG n k f dn dr i s r (mo + 1) 0 a) → Gk X mX0_goTillOpen idsA 3 [some (vr (9, h)), some (vi (nI i)), some (vi (nI s)), some (vi (nI r)), some (vi (nI mo)), some (vi (nI c))] [] (RX D h n ac) := by
    intro fu
    induction fu with
    | zero => intro c ac hfu; exact absurd hfu (Nat.not_lt_zero _)
    | succ fu ih =>
      intro c ac hfu hc hac hm
      refine g_iload cx dX0_goTillOpen_3 rfl ?_
      refine g_iload cx dX0_goTillOpen_5 rfl ?_
      refine g_icmp_gtN (tgt := 38) cx dX0_goTillOpen_7 (by decide) (by omega) (by omega) (fun h_7 => ?_) (fun h_7 => ?_)
      · skip
        have hm4 : (none, ac) = gtG n k f dn dr i s r (mo + 1) 0 a := by
          rw [← hm, show mo + 1 - c = 0 from by omega]; rfl
        refine g_iconst (v := (-1)) cx dX0_goTillOpen_38 (by decide) ?_
        exact g_fret cx rq rfl (rfl) dX0_goTillOpen_39 (by rw [← hm4]; rfl) (by rw [← hm4])
      · skip
        have hm3 := hm
        rw [show mo + 1 - c = (mo + 1 - (c + 1)) + 1 from by omega, gtG] at hm3
        refine g_aload_n cx dX0_goTillOpen_10 rfl ?_
        refine g_iload_n cx dX0_goTillOpen_11 rfl ?_
        refine g_fcallV (As := [vi (nI r)]) (rest := []) cx knX0_isOpen (x_isOpen (RX.P hP) hh (RX.A hac) (i := r) (by omega)) (aH9 h hh) rfl rfl lmX0_61 niX0_isOpen seX0_isOpen rfl (by decide) (Nat.le_of_ble_eq_true rfl) rfl dX0_goTillOpen_12 ?_
        refine g_if_eqB (tgt := 21) cx dX0_goTillOpen_15 (by decide) (fun h_15 => ?_) (fun h_15 => ?_)
        · skip
          rw [if_neg h_15] at hm3
          refine g_aload_n cx dX0_goTillOpen_21 rfl ?_
          refine g_iload_n cx dX0_goTillOpen_22 rfl ?_
          refine g_iload_n cx dX0_goTillOpen_23 rfl ?_
          refine g_fcallV (As := [vi (nI i), vi (nI s)]) (rest := []) cx knX0_step (x_step (RX.P hP) hh (RX.A hac) (i := i) (s := s) (by omega) (by omega)) (aH9 h hh) rfl rfl lmX0_91 niX0_step seX0_step rfl (by decide) (Nat.le_of_ble_eq_true rfl) rfl dX0_goTillOpen_24 ?_
          refine g_wd (D' := RX D h n (stp n ac k f i s)) (RX.twice _ _ _ _ _) ?_
          refine g_if_neB (tgt := 32) cx dX0_goTillOpen_27 (by decide) (fun h_27 => ?_) (fun h_27 => ?_)
          · skip
            rw [if_neg (by omega)] at hm3
            refine g_iincN (L' := [some (vr (9, h)), some (vi (nI i)), some (vi (nI s)), some (vi (nI r)), some (vi (nI mo)), some (vi (nI (c + 1)))]) cx dX0_goTillOpen_32 rfl (by decide) rfl rfl ?_
            refine g_goto (tgt := 3) cx dX0_goTillOpen_35 (by decide) ?_
            exact ih (c + 1) (stp n ac k f i s) (by omega) (by omega) (fun j hj => stp_lt (hac j hj)) hm3
          · skip
            have h0 : mov n ac k f i s = 0 := by omega
            rw [if_pos h0] at hm3
            refine g_wd (D' := RX D h n ac) (by rw [stp_0 h0]) ?_
            refine g_iconst (v := (-1)) cx dX0_goTillOpen_30 (by decide) ?_
            exact g_fret cx rq rfl (rfl) dX0_goTillOpen_31 (by rw [← hm3]; rfl) (by rw [← hm3])
        · skip
          rw [if_pos h_15] at hm3
          refine g_iload cx dX0_goTillOpen_18 rfl ?_
          exact g_fret cx rq rfl (rfl) dX0_goTillOpen_20 (by rw [← hm3]; rfl) (by rw [← hm3])
  refine g_wd (D' := RX D h n a) ((RX.self hA).symm) ?_
  exact lp (mo + 2) 0 a (by omega) (by omega) (fun j hj => (hA j hj).2) rfl

set_option maxRecDepth 100000 in
set_option maxHeartbeats 4000000 in
theorem x_goTillOpen_m {D : Wd} {h : Nat} {x y z : Int32} : Fok mX0_goTillOpen idsA 4 [vr (9, h), vi x, vi y, vi z, vi (-1)] D (some (vi (-1))) D := by
  refine Mok.of (L := [some (vr (9, h)), some (vi x), some (vi y), some (vi z), some (vi (-1)), none]) rfl (fun _ => Nat.le_of_ble_eq_true rfl) (fun _ => rfl) (fun X cx rq => ?_)
  refine g_iconst (v := nI 0) cx dX0_goTillOpen_0 (by decide) ?_
  refine g_istore (L' := [some (vr (9, h)), some (vi x), some (vi y), some (vi z), some (vi (-1)), some (vi (nI 0))]) cx dX0_goTillOpen_1 (by decide) rfl rfl ?_
  refine g_iload cx dX0_goTillOpen_3 rfl ?_
  refine g_iload cx dX0_goTillOpen_5 rfl ?_
  refine g_icmp_gt (tgt := 38) cx dX0_goTillOpen_7 (by decide) (fun h_7 => ?_) (fun h_7 => ?_)
  · skip
    refine g_iconst (v := (-1)) cx dX0_goTillOpen_38 (by decide) ?_
    exact g_fret cx rq rfl (rfl) dX0_goTillOpen_39 (rfl) (rfl)
  · skip
    exact absurd (show (-1 : Int32) < nI 0 by decide) h_7
