set_option maxRecDepth 100000 in
set_option maxHeartbeats 4000000 in
theorem x_passHour {D : Wd} {n : Nat} {k f : Nat → Nat} {dn : Nat} {dr : Nat → Nat} {pn : Nat} (hP : PX D 0 n k f dn dr pn) {h : Nat} (hh : h < 11) {a : Nat → Nat} (hA : AX D h n a) {hm : Nat → Nat} (hH : HX D 0 n hm) {hr : Nat} (hHr : D (9, h) 3 = nI hr) : Fok mX0_passHour idsA 4 [vr (9, h)] D none (upA (RX D h n (hrA n k f hm n a)) (9, h) (upd ((RX D h n (hrA n k f hm n a)) (9, h)) 3 (nI (hr + 1)))) := by
  obtain ⟨hn3, hn8, hN, hK, hF, hd3, hDn, hDr, hp5, hPn⟩ := id hP
  refine Mok.of (L := [some (vr (9, h)), none, none]) rfl (fun _ => Nat.le_of_ble_eq_true rfl) (fun _ => rfl) (fun X cx rq => ?_)
  refine g_iconst (v := nI 0) cx dX0_passHour_0 (by decide) ?_
  refine g_istore_n (L' := [some (vr (9, h)), some (vi (nI 0)), none]) cx dX0_passHour_1 (by decide) rfl rfl ?_
  have lp : ∀ (fu : Nat) (q : Nat), n - q < fu → (q ≤ n) → Gk X mX0_passHour idsA 2 [some (vr (9, h)), some (vi (nI q)), none] [] (RX D h n (hrA n k f hm q a)) := by
    intro fu
    induction fu with
    | zero => intro q hfu; exact absurd hfu (Nat.not_lt_zero _)
    | succ fu ih =>
      intro q hfu hq
      have hac := hrA_lt (k := k) (f := f) (hm := hm) q a (fun j hj => (hA j hj).2)
      refine g_iload_n cx dX0_passHour_2 rfl ?_
      refine g_aload_n cx dX0_passHour_3 rfl ?_
      refine g_getR (i := (9, h)) (ci := 0) (k := 0) (j := (1, 0)) cx (aH9 h hh) rfl rfl rfl (by decide) inX0 lfX0_18 dX0_passHour_4 ?_
      refine g_getIN (i := (1, 0)) (ci := 1) (k := 0) (v := nI n) cx a1_0 rfl rfl rfl (by decide) inX1 lfX0_58 dX0_passHour_7 ((congrFun (RX.at (ne1 (by decide) _ _)) 0).trans hN) ?_
      refine g_icmp_geN (tgt := 88) cx dX0_passHour_10 (by decide) (by omega) (by omega) (fun h_10 => ?_) (fun h_10 => ?_)
      · skip
        have e9 : q = n := by omega
        refine g_wd (D' := RX D h n (hrA n k f hm n a)) (by rw [e9]) ?_
        refine g_aload_n cx dX0_passHour_88 rfl ?_
        refine g_dup cx dX0_passHour_89 rfl ?_
        refine g_getIN (i := (9, h)) (ci := 0) (k := 3) (v := nI hr) cx (aH9 h hh) rfl rfl rfl (by decide) inX0 lfX0_34 dX0_passHour_90 ((congrFun (RX.at (ne1 (by decide) _ _)) 3).trans hHr) ?_
        refine g_iconst (v := nI 1) cx dX0_passHour_93 (by decide) ?_
        refine g_iaddN cx dX0_passHour_94 ?_
        refine g_putI (i := (9, h)) (ci := 0) (k := 3) cx (aH9 h hh) rfl rfl rfl (by decide) inX0 tyX0_ok nmX0 rfl rfl lfX0_34 dX0_passHour_95 ?_
        exact g_fvret cx rq rfl dX0_passHour_98 rfl (rfl)
      · skip
        refine g_aload_n cx dX0_passHour_13 rfl ?_
        refine g_getR (i := (9, h)) (ci := 0) (k := 0) (j := (1, 0)) cx (aH9 h hh) rfl rfl rfl (by decide) inX0 lfX0_18 dX0_passHour_14 ?_
        refine g_getR (i := (1, 0)) (ci := 1) (k := 2) (j := (3, 0)) cx a1_0 rfl rfl rfl (by decide) inX1 lfX0_72 dX0_passHour_17 ?_
        refine g_iload_n cx dX0_passHour_20 rfl ?_
        refine g_ialdN (i := (3, 0)) (j := q) (v := nI (k q)) cx a3_0 rfl (rfl) (by omega) (by decide) dX0_passHour_21 ((congrFun (RX.at (ne1 (by decide) _ _)) q).trans (hK q (by omega)).1) ?_
        refine g_iconst (v := nI 1) cx dX0_passHour_22 (by decide) ?_
        have hkq := (hK q (by omega)).2
        refine g_icmp_neN (tgt := 82) cx dX0_passHour_23 (by decide) (by omega) (by omega) (fun h_23 => ?_) (fun h_23 => ?_)
        · skip
          refine g_wd (D' := RX D h n (hrA n k f hm (q + 1) a)) (by rw [hrA, if_neg (by first | exact fun e => h_23 e.1 | exact fun e => e.2 ((onN_0 (hac q (by omega)) ((hH q (by omega)).2)).mpr h_41))]) ?_
          refine g_iincN (L' := [some (vr (9, h)), some (vi (nI (q + 1))), none]) cx dX0_passHour_82 rfl (by decide) rfl rfl ?_
          refine g_goto (tgt := 2) cx dX0_passHour_85 (by decide) ?_
          exact ih (q + 1) (by omega) (by omega)
        · skip
          refine g_aload_n cx dX0_passHour_26 rfl ?_
          refine g_getR (i := (9, h)) (ci := 0) (k := 1) (j := (10, h)) cx (aH9 h hh) rfl rfl rfl (by decide) inX0 lfX0_9 dX0_passHour_27 ?_
          refine g_iload_n cx dX0_passHour_30 rfl ?_
          refine g_ialdN (i := (10, h)) (j := q) (v := nI (hrA n k f hm q a q)) cx (aH10 h hh) rfl (rfl) (by omega) (by decide) dX0_passHour_31 (RX.in (by omega)) ?_
          refine g_aload_n cx dX0_passHour_32 rfl ?_
          refine g_getR (i := (9, h)) (ci := 0) (k := 0) (j := (1, 0)) cx (aH9 h hh) rfl rfl rfl (by decide) inX0 lfX0_18 dX0_passHour_33 ?_
          refine g_getR (i := (1, 0)) (ci := 1) (k := 1) (j := (2, 0)) cx a1_0 rfl rfl rfl (by decide) inX1 lfX0_22 dX0_passHour_36 ?_
          refine g_iload_n cx dX0_passHour_39 rfl ?_
          refine g_ialdN (i := (2, 0)) (j := q) (v := nI (hm q)) cx a2_0 rfl (rfl) (by omega) (by decide) dX0_passHour_40 ((congrFun (RX.at (ne1 (by decide) _ _)) q).trans (hH q (by omega)).1) ?_
          have hq7 := hac q (by omega)
          have hm7 := (hH q (by omega)).2
          refine g_icmp_eqN (tgt := 82) cx dX0_passHour_41 (by decide) (by omega) (by omega) (fun h_41 => ?_) (fun h_41 => ?_)
          · skip
            refine g_wd (D' := RX D h n (hrA n k f hm (q + 1) a)) (by rw [hrA, if_neg (by first | exact fun e => h_23 e.1 | exact fun e => e.2 ((onN_0 (hac q (by omega)) ((hH q (by omega)).2)).mpr h_41))]) ?_
            refine g_iincN (L' := [some (vr (9, h)), some (vi (nI (q + 1))), none]) cx dX0_passHour_82 rfl (by decide) rfl rfl ?_
            refine g_goto (tgt := 2) cx dX0_passHour_85 (by decide) ?_
            exact ih (q + 1) (by omega) (by omega)
          · skip
            have hon := onN_lt hq7 hm7
            refine g_aload_n cx dX0_passHour_44 rfl ?_
            refine g_getR (i := (9, h)) (ci := 0) (k := 1) (j := (10, h)) cx (aH9 h hh) rfl rfl rfl (by decide) inX0 lfX0_9 dX0_passHour_45 ?_
            refine g_iload_n cx dX0_passHour_48 rfl ?_
            refine g_ialdN (i := (10, h)) (j := q) (v := nI (hrA n k f hm q a q)) cx (aH10 h hh) rfl (rfl) (by omega) (by decide) dX0_passHour_49 (RX.in (by omega)) ?_
            refine g_aload_n cx dX0_passHour_50 rfl ?_
            refine g_getR (i := (9, h)) (ci := 0) (k := 0) (j := (1, 0)) cx (aH9 h hh) rfl rfl rfl (by decide) inX0 lfX0_18 dX0_passHour_51 ?_
            refine g_getR (i := (1, 0)) (ci := 1) (k := 1) (j := (2, 0)) cx a1_0 rfl rfl rfl (by decide) inX1 lfX0_22 dX0_passHour_54 ?_
            refine g_iload_n cx dX0_passHour_57 rfl ?_
            refine g_ialdN (i := (2, 0)) (j := q) (v := nI (hm q)) cx a2_0 rfl (rfl) (by omega) (by decide) dX0_passHour_58 ((congrFun (RX.at (ne1 (by decide) _ _)) q).trans (hH q (by omega)).1) ?_
            refine g_fcallSN (host := RX5) (As := [vi (nI (hrA n k f hm q a q)), vi (nI (hm q))]) (rest := []) cx knX5_between (x_between (hac q (by omega)) ((hH q (by omega)).2)) (by decide) nsX5_between rfl (by decide) (Nat.le_of_ble_eq_true rfl) rfl dX0_passHour_59 ?_
            refine g_istore_n (L' := [some (vr (9, h)), some (vi (nI q)), some (vi (nI (onN (hrA n k f hm q a q) (hm q))))]) cx dX0_passHour_62 (by decide) rfl rfl ?_
            refine g_aload_n cx dX0_passHour_63 rfl ?_
            refine g_iload_n cx dX0_passHour_64 rfl ?_
            refine g_iload_n cx dX0_passHour_65 rfl ?_
            refine g_bipush (v := nI 72) cx dX0_passHour_66 (by decide) ?_
            refine g_iload_n cx dX0_passHour_68 rfl ?_
            refine g_isubN cx dX0_passHour_69 (by omega) ?_
            refine g_icmp_gtN (tgt := 77) cx dX0_passHour_70 (by decide) (by omega) (by omega) (fun h_70 => ?_) (fun h_70 => ?_)
            · skip
              refine g_iconst (v := nI 1) cx dX0_passHour_77 (by decide) ?_
              refine g_fcallV (As := [vi (nI q), vi (nI 1)]) (rest := []) cx knX0_step (x_step (RX.P hP) hh (RX.A hac) (i := q) (s := 1) (by omega) (by omega)) (aH9 h hh) rfl rfl lmX0_91 niX0_step seX0_step rfl (by decide) (Nat.le_of_ble_eq_true rfl) rfl dX0_passHour_78 ?_
              refine g_pop cx dX0_passHour_81 rfl ?_
              refine g_drop 2 (L' := [some (vr (9, h)), some (vi (nI q)), none]) rfl ?_
              refine g_wd (D' := RX D h n (hrA n k f hm (q + 1) a)) (by rw [RX.twice, hrA, if_pos ⟨h_23, fun e9 => h_41 ((onN_0 (hac q (by omega)) ((hH q (by omega)).2)).mp e9)⟩]; rw [if_neg (by omega)]) ?_
              refine g_iincN (L' := [some (vr (9, h)), some (vi (nI (q + 1))), none]) cx dX0_passHour_82 rfl (by decide) rfl rfl ?_
              refine g_goto (tgt := 2) cx dX0_passHour_85 (by decide) ?_
              exact ih (q + 1) (by omega) (by omega)
            · skip
              refine g_iconst (v := nI 0) cx dX0_passHour_73 (by decide) ?_
              refine g_goto (tgt := 78) cx dX0_passHour_74 (by decide) ?_
              refine g_fcallV (As := [vi (nI q), vi (nI 0)]) (rest := []) cx knX0_step (x_step (RX.P hP) hh (RX.A hac) (i := q) (s := 0) (by omega) (by omega)) (aH9 h hh) rfl rfl lmX0_91 niX0_step seX0_step rfl (by decide) (Nat.le_of_ble_eq_true rfl) rfl dX0_passHour_78 ?_
              refine g_pop cx dX0_passHour_81 rfl ?_
              refine g_drop 2 (L' := [some (vr (9, h)), some (vi (nI q)), none]) rfl ?_
              refine g_wd (D' := RX D h n (hrA n k f hm (q + 1) a)) (by rw [RX.twice, hrA, if_pos ⟨h_23, fun e9 => h_41 ((onN_0 (hac q (by omega)) ((hH q (by omega)).2)).mp e9)⟩]; rw [if_pos h_70]) ?_
              refine g_iincN (L' := [some (vr (9, h)), some (vi (nI (q + 1))), none]) cx dX0_passHour_82 rfl (by decide) rfl rfl ?_
              refine g_goto (tgt := 2) cx dX0_passHour_85 (by decide) ?_
              exact ih (q + 1) (by omega) (by omega)
  refine g_wd (D' := RX D h n (hrA n k f hm 0 a)) ((RX.self hA).symm) ?_
  exact lp (n + 1) 0 (by omega) (by omega)

set_option maxRecDepth 100000 in
set_option maxHeartbeats 4000000 in
theorem x_stretched {D : Wd} {n : Nat} {k f : Nat → Nat} {dn : Nat} {dr : Nat → Nat} {pn : Nat} (hP : PX D 0 n k f dn dr pn) {h : Nat} (hh : h < 11) {a : Nat → Nat} (hA : AX D h n a) {r : Nat} (hr : r < n) : Fok mX0_stretched idsA 3 [vr (9, h), vi (nI r)] D (some (vi (stS n k a f r))) D := by
  obtain ⟨hn3, hn8, hN, hK, hF, hd3, hDn, hDr, hp5, hPn⟩ := id hP
  have hso := srG_o (n := n) (k := k) (a := a) (f := f) (s := 0) (n - 1) (nx n r) (nI (wid n a r)) 0
  refine Mok.of (L := [some (vr (9, h)), some (vi (nI r)), none, none, none, none]) rfl (fun _ => Nat.le_of_ble_eq_true rfl) (fun _ => rfl) (fun X cx rq => ?_)
  refine g_aload_n cx dX0_stretched_0 rfl ?_
  refine g_iload_n cx dX0_stretched_1 rfl ?_
  refine g_fcallV (As := [vi (nI r)]) (rest := []) cx knX0_width (x_width hP hh hA (i := r) (by omega)) (aH9 h hh) rfl rfl lmX0_46 niX0_width seX0_width rfl (by decide) (Nat.le_of_ble_eq_true rfl) rfl dX0_stretched_2 ?_
  refine g_istore_n (L' := [some (vr (9, h)), some (vi (nI r)), some (vi (nI (wid n a r))), none, none, none]) cx dX0_stretched_5 (by decide) rfl rfl ?_
  refine g_iconst (v := nI 0) cx dX0_stretched_6 (by decide) ?_
  refine g_istore_n (L' := [some (vr (9, h)), some (vi (nI r)), some (vi (nI (wid n a r))), some (vi (nI 0)), none, none]) cx dX0_stretched_7 (by decide) rfl rfl ?_
  refine g_iconst (v := nI 0) cx dX0_stretched_8 (by decide) ?_
  refine g_istore (L' := [some (vr (9, h)), some (vi (nI r)), some (vi (nI (wid n a r))), some (vi (nI 0)), some (vi (nI 0)), none]) cx dX0_stretched_9 (by decide) rfl rfl ?_
  refine g_iload cx dX0_stretched_11 rfl ?_
  refine g_iconst (v := nI 1) cx dX0_stretched_13 (by decide) ?_
  refine g_icmp_gtN (tgt := 106) cx dX0_stretched_14 (by decide) (by omega) (by omega) (fun h_14 => ?_) (fun h_14 => ?_)
  · skip
    exact absurd h_14 (by decide)
  · skip
    refine g_iload cx dX0_stretched_17 rfl ?_
    refine g_if_neN (tgt := 33) cx dX0_stretched_19 (by decide) (by omega) (fun h_19 => ?_) (fun h_19 => ?_)
    · skip
      exact absurd rfl h_19
    · skip
      refine g_aload_n cx dX0_stretched_22 rfl ?_
      refine g_getR (i := (9, h)) (ci := 0) (k := 0) (j := (1, 0)) cx (aH9 h hh) rfl rfl rfl (by decide) inX0 lfX0_18 dX0_stretched_23 ?_
      refine g_iload_n cx dX0_stretched_26 rfl ?_
      refine g_fcallV (As := [vi (nI r)]) (rest := []) cx knX1_next (x_next hP (by decide) (i := r) (by omega)) a1_0 rfl rfl lmX0_38 niX1_next seX1_next rfl (by decide) (Nat.le_of_ble_eq_true rfl) rfl dX0_stretched_27 ?_
      refine g_goto (tgt := 34) cx dX0_stretched_30 (by decide) ?_
      refine g_istore (L' := [some (vr (9, h)), some (vi (nI r)), some (vi (nI (wid n a r))), some (vi (nI 0)), some (vi (nI 0)), some (vi (nI (nx n r)))]) cx dX0_stretched_34 (by decide) rfl rfl ?_
      have jn0 : Gk X mX0_stretched idsA 100 [some (vr (9, h)), some (vi (nI r)), some (vi ((srG n k a f 0 (n - 1) (nx n r) (nI (wid n a r)) 0).1)), some (vi (nI ((srG n k a f 0 (n - 1) (nx n r) (nI (wid n a r)) 0).2))), some (vi (nI 0)), none] [] D := by
        refine g_iincN (L' := [some (vr (9, h)), some (vi (nI r)), some (vi ((srG n k a f 0 (n - 1) (nx n r) (nI (wid n a r)) 0).1)), some (vi (nI ((srG n k a f 0 (n - 1) (nx n r) (nI (wid n a r)) 0).2))), some (vi (nI 1)), none]) cx dX0_stretched_100 rfl (by decide) rfl rfl ?_
        refine g_goto (tgt := 11) cx dX0_stretched_103 (by decide) ?_
        refine g_iload cx dX0_stretched_11 rfl ?_
        refine g_iconst (v := nI 1) cx dX0_stretched_13 (by decide) ?_
        refine g_icmp_gtN (tgt := 106) cx dX0_stretched_14 (by decide) (by omega) (by omega) (fun h_14 => ?_) (fun h_14 => ?_)
        · skip
          exact absurd h_14 (by decide)
        · skip
          refine g_iload cx dX0_stretched_17 rfl ?_
          refine g_if_neN (tgt := 33) cx dX0_stretched_19 (by decide) (by omega) (fun h_19 => ?_) (fun h_19 => ?_)
          · skip
            refine g_iload_n cx dX0_stretched_33 rfl ?_
            refine g_istore (L' := [some (vr (9, h)), some (vi (nI r)), some (vi ((srG n k a f 0 (n - 1) (nx n r) (nI (wid n a r)) 0).1)), some (vi (nI ((srG n k a f 0 (n - 1) (nx n r) (nI (wid n a r)) 0).2))), some (vi (nI 1)), some (vi (nI r))]) cx dX0_stretched_34 (by decide) rfl rfl ?_
            have jn1 : Gk X mX0_stretched idsA 100 [some (vr (9, h)), some (vi (nI r)), some (vi ((srG n k a f 1 (n - 1 - (srG n k a f 0 (n - 1) (nx n r) (nI (wid n a r)) 0).2) r (srG n k a f 0 (n - 1) (nx n r) (nI (wid n a r)) 0).1 (srG n k a f 0 (n - 1) (nx n r) (nI (wid n a r)) 0).2).1)), some (vi (nI ((srG n k a f 1 (n - 1 - (srG n k a f 0 (n - 1) (nx n r) (nI (wid n a r)) 0).2) r (srG n k a f 0 (n - 1) (nx n r) (nI (wid n a r)) 0).1 (srG n k a f 0 (n - 1) (nx n r) (nI (wid n a r)) 0).2).2))), some (vi (nI 1)), none] [] D := by
              refine g_iincN (L' := [some (vr (9, h)), some (vi (nI r)), some (vi ((srG n k a f 1 (n - 1 - (srG n k a f 0 (n - 1) (nx n r) (nI (wid n a r)) 0).2) r (srG n k a f 0 (n - 1) (nx n r) (nI (wid n a r)) 0).1 (srG n k a f 0 (n - 1) (nx n r) (nI (wid n a r)) 0).2).1)), some (vi (nI ((srG n k a f 1 (n - 1 - (srG n k a f 0 (n - 1) (nx n r) (nI (wid n a r)) 0).2) r (srG n k a f 0 (n - 1) (nx n r) (nI (wid n a r)) 0).1 (srG n k a f 0 (n - 1) (nx n r) (nI (wid n a r)) 0).2).2))), some (vi (nI 2)), none]) cx dX0_stretched_100 rfl (by decide) rfl rfl ?_
              refine g_goto (tgt := 11) cx dX0_stretched_103 (by decide) ?_
              refine g_iload cx dX0_stretched_11 rfl ?_
              refine g_iconst (v := nI 1) cx dX0_stretched_13 (by decide) ?_
              refine g_icmp_gtN (tgt := 106) cx dX0_stretched_14 (by decide) (by omega) (by omega) (fun h_14 => ?_) (fun h_14 => ?_)
              · skip
                refine g_iload_n cx dX0_stretched_106 rfl ?_
                exact g_fret cx rq rfl (rfl) dX0_stretched_107 (rfl) (rfl)
              · skip
                exact absurd h_14 (by decide)
            have lp1 : ∀ (fu : Nat) (l9 : Nat) (w9 : Int32) (o9 : Nat), n - 1 - o9 < fu → (l9 < n) → (o9 ≤ n - 1) → (srG n k a f 1 (n - 1 - o9) l9 w9 o9 = srG n k a f 1 (n - 1 - (srG n k a f 0 (n - 1) (nx n r) (nI (wid n a r)) 0).2) r (srG n k a f 0 (n - 1) (nx n r) (nI (wid n a r)) 0).1 (srG n k a f 0 (n - 1) (nx n r) (nI (wid n a r)) 0).2) → Gk X mX0_stretched idsA 36 [some (vr (9, h)), some (vi (nI r)), some (vi w9), some (vi (nI o9)), some (vi (nI 1)), some (vi (nI l9))] [] D := by
              intro fu
              induction fu with
              | zero => intro l9 w9 o9 hfu; exact absurd hfu (Nat.not_lt_zero _)
              | succ fu ih =>
                intro l9 w9 o9 hfu hl9 ho9 hm9
                have hkl := (hK l9 hl9).2
                have hrm9 := rmB_lt (s := 1) hl9
                refine g_iload_n cx dX0_stretched_36 rfl ?_
                refine g_aload_n cx dX0_stretched_37 rfl ?_
                refine g_getR (i := (9, h)) (ci := 0) (k := 0) (j := (1, 0)) cx (aH9 h hh) rfl rfl rfl (by decide) inX0 lfX0_18 dX0_stretched_38 ?_
                refine g_getIN (i := (1, 0)) (ci := 1) (k := 0) (v := nI n) cx a1_0 rfl rfl rfl (by decide) inX1 lfX0_58 dX0_stretched_41 (hN) ?_
                refine g_iconst (v := nI 1) cx dX0_stretched_44 (by decide) ?_
                refine g_isubN cx dX0_stretched_45 (by omega) ?_
                refine g_icmp_geN (tgt := 100) cx dX0_stretched_46 (by decide) (by omega) (by omega) (fun h_46 => ?_) (fun h_46 => ?_)
                · skip
                  have hm7 : (w9, o9) = srG n k a f 1 (n - 1 - (srG n k a f 0 (n - 1) (nx n r) (nI (wid n a r)) 0).2) r (srG n k a f 0 (n - 1) (nx n r) (nI (wid n a r)) 0).1 (srG n k a f 0 (n - 1) (nx n r) (nI (wid n a r)) 0).2 := by
                    rw [← hm9, show n - 1 - o9 = 0 from by omega]; rfl
                  refine g_drop 5 (L' := [some (vr (9, h)), some (vi (nI r)), some (vi w9), some (vi (nI o9)), some (vi (nI 1)), none]) rfl ?_
                  refine g_loc (L' := [some (vr (9, h)), some (vi (nI r)), some (vi ((srG n k a f 1 (n - 1 - (srG n k a f 0 (n - 1) (nx n r) (nI (wid n a r)) 0).2) r (srG n k a f 0 (n - 1) (nx n r) (nI (wid n a r)) 0).1 (srG n k a f 0 (n - 1) (nx n r) (nI (wid n a r)) 0).2).1)), some (vi (nI ((srG n k a f 1 (n - 1 - (srG n k a f 0 (n - 1) (nx n r) (nI (wid n a r)) 0).2) r (srG n k a f 0 (n - 1) (nx n r) (nI (wid n a r)) 0).1 (srG n k a f 0 (n - 1) (nx n r) (nI (wid n a r)) 0).2).2))), some (vi (nI 1)), none]) (by rw [← hm7]) ?_
                  exact jn1
                · skip
                  have hm8 := hm9
                  rw [show n - 1 - o9 = (n - 1 - (o9 + 1)) + 1 from by omega, srG] at hm8
                  refine g_aload_n cx dX0_stretched_49 rfl ?_
                  refine g_getR (i := (9, h)) (ci := 0) (k := 0) (j := (1, 0)) cx (aH9 h hh) rfl rfl rfl (by decide) inX0 lfX0_18 dX0_stretched_50 ?_
                  refine g_getR (i := (1, 0)) (ci := 1) (k := 2) (j := (3, 0)) cx a1_0 rfl rfl rfl (by decide) inX1 lfX0_72 dX0_stretched_53 ?_
                  refine g_iload cx dX0_stretched_56 rfl ?_
                  refine g_ialdN (i := (3, 0)) (j := l9) (v := nI (k l9)) cx a3_0 rfl (rfl) (by omega) (by decide) dX0_stretched_58 ((hK l9 (by omega)).1) ?_
                  refine g_iconst (v := nI 3) cx dX0_stretched_59 (by decide) ?_
                  refine g_icmp_eqN (tgt := 100) cx dX0_stretched_60 (by decide) (by omega) (by omega) (fun h_60 => ?_) (fun h_60 => ?_)
                  · skip
                    have hm7 : (w9, o9) = srG n k a f 1 (n - 1 - (srG n k a f 0 (n - 1) (nx n r) (nI (wid n a r)) 0).2) r (srG n k a f 0 (n - 1) (nx n r) (nI (wid n a r)) 0).1 (srG n k a f 0 (n - 1) (nx n r) (nI (wid n a r)) 0).2 := by
                      rw [if_pos h_60] at hm8; exact hm8
                    refine g_drop 5 (L' := [some (vr (9, h)), some (vi (nI r)), some (vi w9), some (vi (nI o9)), some (vi (nI 1)), none]) rfl ?_
                    refine g_loc (L' := [some (vr (9, h)), some (vi (nI r)), some (vi ((srG n k a f 1 (n - 1 - (srG n k a f 0 (n - 1) (nx n r) (nI (wid n a r)) 0).2) r (srG n k a f 0 (n - 1) (nx n r) (nI (wid n a r)) 0).1 (srG n k a f 0 (n - 1) (nx n r) (nI (wid n a r)) 0).2).1)), some (vi (nI ((srG n k a f 1 (n - 1 - (srG n k a f 0 (n - 1) (nx n r) (nI (wid n a r)) 0).2) r (srG n k a f 0 (n - 1) (nx n r) (nI (wid n a r)) 0).1 (srG n k a f 0 (n - 1) (nx n r) (nI (wid n a r)) 0).2).2))), some (vi (nI 1)), none]) (by rw [← hm7]) ?_
                    exact jn1
                  · skip
                    rw [if_neg h_60] at hm8
                    refine g_iload_n cx dX0_stretched_63 rfl ?_
                    refine g_aload_n cx dX0_stretched_64 rfl ?_
                    refine g_aload_n cx dX0_stretched_65 rfl ?_
                    refine g_getR (i := (9, h)) (ci := 0) (k := 0) (j := (1, 0)) cx (aH9 h hh) rfl rfl rfl (by decide) inX0 lfX0_18 dX0_stretched_66 ?_
                    refine g_iload cx dX0_stretched_69 rfl ?_
                    refine g_iload cx dX0_stretched_71 rfl ?_
                    refine g_fcallV (As := [vi (nI l9), vi (nI 1)]) (rest := [vr (9, h), vi w9]) cx knX1_roomBeside (x_roomBeside hP (by decide) (i := l9) (s := 1) (by omega) (by omega)) a1_0 rfl rfl lmX0_75 niX1_roomBeside seX1_roomBeside rfl (by decide) (Nat.le_of_ble_eq_true rfl) rfl dX0_stretched_73 ?_
                    refine g_fcallV (As := [vi (nI (rmB n l9 1))]) (rest := [vi w9]) cx knX0_slack (x_slack hP hh hA (i := rmB n l9 1) (by omega)) (aH9 h hh) rfl rfl lmX0_94 niX0_slack seX0_slack rfl (by decide) (Nat.le_of_ble_eq_true rfl) rfl dX0_stretched_76 ?_
                    refine g_iadd cx dX0_stretched_79 ?_
                    refine g_istore_n (L' := [some (vr (9, h)), some (vi (nI r)), some (vi (w9 + (nI (wid n a (rmB n l9 1)) - nI (f (rmB n l9 1) + 1)))), some (vi (nI o9)), some (vi (nI 1)), some (vi (nI l9))]) cx dX0_stretched_80 (by decide) rfl rfl ?_
                    refine g_aload_n cx dX0_stretched_81 rfl ?_
                    refine g_getR (i := (9, h)) (ci := 0) (k := 0) (j := (1, 0)) cx (aH9 h hh) rfl rfl rfl (by decide) inX0 lfX0_18 dX0_stretched_82 ?_
                    refine g_iload cx dX0_stretched_85 rfl ?_
                    refine g_iload cx dX0_stretched_87 rfl ?_
                    refine g_fcallV (As := [vi (nI l9), vi (nI 1)]) (rest := []) cx knX1_leafBeside (x_leafBeside hP (by decide) (i := l9) (s := 1) (by omega) (by omega)) a1_0 rfl rfl lmX0_78 niX1_leafBeside seX1_leafBeside rfl (by decide) (Nat.le_of_ble_eq_true rfl) rfl dX0_stretched_89 ?_
                    refine g_istore (L' := [some (vr (9, h)), some (vi (nI r)), some (vi (w9 + (nI (wid n a (rmB n l9 1)) - nI (f (rmB n l9 1) + 1)))), some (vi (nI o9)), some (vi (nI 1)), some (vi (nI (lfB n l9 1)))]) cx dX0_stretched_92 (by decide) rfl rfl ?_
                    refine g_iincN (L' := [some (vr (9, h)), some (vi (nI r)), some (vi (w9 + (nI (wid n a (rmB n l9 1)) - nI (f (rmB n l9 1) + 1)))), some (vi (nI (o9 + 1))), some (vi (nI 1)), some (vi (nI (lfB n l9 1)))]) cx dX0_stretched_94 rfl (by decide) rfl rfl ?_
                    refine g_goto (tgt := 36) cx dX0_stretched_97 (by decide) ?_
                    exact ih (lfB n l9 1) (w9 + (nI (wid n a (rmB n l9 1)) - nI (f (rmB n l9 1) + 1))) (o9 + 1) (by omega) (lfB_lt hl9) (by omega) hm8
            exact lp1 n r ((srG n k a f 0 (n - 1) (nx n r) (nI (wid n a r)) 0).1) ((srG n k a f 0 (n - 1) (nx n r) (nI (wid n a r)) 0).2) (by omega) (by first | exact hr | exact nx_lt (by omega)) (by omega) rfl
          · skip
            exact absurd h_19 (by decide)
      have lp0 : ∀ (fu : Nat) (l9 : Nat) (w9 : Int32) (o9 : Nat), n - 1 - o9 < fu → (l9 < n) → (o9 ≤ n - 1) → (srG n k a f 0 (n - 1 - o9) l9 w9 o9 = srG n k a f 0 (n - 1) (nx n r) (nI (wid n a r)) 0) → Gk X mX0_stretched idsA 36 [some (vr (9, h)), some (vi (nI r)), some (vi w9), some (vi (nI o9)), some (vi (nI 0)), some (vi (nI l9))] [] D := by
        intro fu
        induction fu with
        | zero => intro l9 w9 o9 hfu; exact absurd hfu (Nat.not_lt_zero _)
        | succ fu ih =>
          intro l9 w9 o9 hfu hl9 ho9 hm9
          have hkl := (hK l9 hl9).2
          have hrm9 := rmB_lt (s := 0) hl9
          refine g_iload_n cx dX0_stretched_36 rfl ?_
          refine g_aload_n cx dX0_stretched_37 rfl ?_
          refine g_getR (i := (9, h)) (ci := 0) (k := 0) (j := (1, 0)) cx (aH9 h hh) rfl rfl rfl (by decide) inX0 lfX0_18 dX0_stretched_38 ?_
          refine g_getIN (i := (1, 0)) (ci := 1) (k := 0) (v := nI n) cx a1_0 rfl rfl rfl (by decide) inX1 lfX0_58 dX0_stretched_41 (hN) ?_
          refine g_iconst (v := nI 1) cx dX0_stretched_44 (by decide) ?_
          refine g_isubN cx dX0_stretched_45 (by omega) ?_
          refine g_icmp_geN (tgt := 100) cx dX0_stretched_46 (by decide) (by omega) (by omega) (fun h_46 => ?_) (fun h_46 => ?_)
          · skip
            have hm7 : (w9, o9) = srG n k a f 0 (n - 1) (nx n r) (nI (wid n a r)) 0 := by
              rw [← hm9, show n - 1 - o9 = 0 from by omega]; rfl
            refine g_drop 5 (L' := [some (vr (9, h)), some (vi (nI r)), some (vi w9), some (vi (nI o9)), some (vi (nI 0)), none]) rfl ?_
            refine g_loc (L' := [some (vr (9, h)), some (vi (nI r)), some (vi ((srG n k a f 0 (n - 1) (nx n r) (nI (wid n a r)) 0).1)), some (vi (nI ((srG n k a f 0 (n - 1) (nx n r) (nI (wid n a r)) 0).2))), some (vi (nI 0)), none]) (by rw [← hm7]) ?_
            exact jn0
          · skip
            have hm8 := hm9
            rw [show n - 1 - o9 = (n - 1 - (o9 + 1)) + 1 from by omega, srG] at hm8
            refine g_aload_n cx dX0_stretched_49 rfl ?_
            refine g_getR (i := (9, h)) (ci := 0) (k := 0) (j := (1, 0)) cx (aH9 h hh) rfl rfl rfl (by decide) inX0 lfX0_18 dX0_stretched_50 ?_
            refine g_getR (i := (1, 0)) (ci := 1) (k := 2) (j := (3, 0)) cx a1_0 rfl rfl rfl (by decide) inX1 lfX0_72 dX0_stretched_53 ?_
            refine g_iload cx dX0_stretched_56 rfl ?_
            refine g_ialdN (i := (3, 0)) (j := l9) (v := nI (k l9)) cx a3_0 rfl (rfl) (by omega) (by decide) dX0_stretched_58 ((hK l9 (by omega)).1) ?_
            refine g_iconst (v := nI 3) cx dX0_stretched_59 (by decide) ?_
            refine g_icmp_eqN (tgt := 100) cx dX0_stretched_60 (by decide) (by omega) (by omega) (fun h_60 => ?_) (fun h_60 => ?_)
            · skip
              have hm7 : (w9, o9) = srG n k a f 0 (n - 1) (nx n r) (nI (wid n a r)) 0 := by
                rw [if_pos h_60] at hm8; exact hm8
              refine g_drop 5 (L' := [some (vr (9, h)), some (vi (nI r)), some (vi w9), some (vi (nI o9)), some (vi (nI 0)), none]) rfl ?_
              refine g_loc (L' := [some (vr (9, h)), some (vi (nI r)), some (vi ((srG n k a f 0 (n - 1) (nx n r) (nI (wid n a r)) 0).1)), some (vi (nI ((srG n k a f 0 (n - 1) (nx n r) (nI (wid n a r)) 0).2))), some (vi (nI 0)), none]) (by rw [← hm7]) ?_
              exact jn0
            · skip
              rw [if_neg h_60] at hm8
              refine g_iload_n cx dX0_stretched_63 rfl ?_
              refine g_aload_n cx dX0_stretched_64 rfl ?_
              refine g_aload_n cx dX0_stretched_65 rfl ?_
              refine g_getR (i := (9, h)) (ci := 0) (k := 0) (j := (1, 0)) cx (aH9 h hh) rfl rfl rfl (by decide) inX0 lfX0_18 dX0_stretched_66 ?_
              refine g_iload cx dX0_stretched_69 rfl ?_
              refine g_iload cx dX0_stretched_71 rfl ?_
              refine g_fcallV (As := [vi (nI l9), vi (nI 0)]) (rest := [vr (9, h), vi w9]) cx knX1_roomBeside (x_roomBeside hP (by decide) (i := l9) (s := 0) (by omega) (by omega)) a1_0 rfl rfl lmX0_75 niX1_roomBeside seX1_roomBeside rfl (by decide) (Nat.le_of_ble_eq_true rfl) rfl dX0_stretched_73 ?_
              refine g_fcallV (As := [vi (nI (rmB n l9 0))]) (rest := [vi w9]) cx knX0_slack (x_slack hP hh hA (i := rmB n l9 0) (by omega)) (aH9 h hh) rfl rfl lmX0_94 niX0_slack seX0_slack rfl (by decide) (Nat.le_of_ble_eq_true rfl) rfl dX0_stretched_76 ?_
              refine g_iadd cx dX0_stretched_79 ?_
              refine g_istore_n (L' := [some (vr (9, h)), some (vi (nI r)), some (vi (w9 + (nI (wid n a (rmB n l9 0)) - nI (f (rmB n l9 0) + 1)))), some (vi (nI o9)), some (vi (nI 0)), some (vi (nI l9))]) cx dX0_stretched_80 (by decide) rfl rfl ?_
              refine g_aload_n cx dX0_stretched_81 rfl ?_
              refine g_getR (i := (9, h)) (ci := 0) (k := 0) (j := (1, 0)) cx (aH9 h hh) rfl rfl rfl (by decide) inX0 lfX0_18 dX0_stretched_82 ?_
              refine g_iload cx dX0_stretched_85 rfl ?_
              refine g_iload cx dX0_stretched_87 rfl ?_
              refine g_fcallV (As := [vi (nI l9), vi (nI 0)]) (rest := []) cx knX1_leafBeside (x_leafBeside hP (by decide) (i := l9) (s := 0) (by omega) (by omega)) a1_0 rfl rfl lmX0_78 niX1_leafBeside seX1_leafBeside rfl (by decide) (Nat.le_of_ble_eq_true rfl) rfl dX0_stretched_89 ?_
              refine g_istore (L' := [some (vr (9, h)), some (vi (nI r)), some (vi (w9 + (nI (wid n a (rmB n l9 0)) - nI (f (rmB n l9 0) + 1)))), some (vi (nI o9)), some (vi (nI 0)), some (vi (nI (lfB n l9 0)))]) cx dX0_stretched_92 (by decide) rfl rfl ?_
              refine g_iincN (L' := [some (vr (9, h)), some (vi (nI r)), some (vi (w9 + (nI (wid n a (rmB n l9 0)) - nI (f (rmB n l9 0) + 1)))), some (vi (nI (o9 + 1))), some (vi (nI 0)), some (vi (nI (lfB n l9 0)))]) cx dX0_stretched_94 rfl (by decide) rfl rfl ?_
              refine g_goto (tgt := 36) cx dX0_stretched_97 (by decide) ?_
              exact ih (lfB n l9 0) (w9 + (nI (wid n a (rmB n l9 0)) - nI (f (rmB n l9 0) + 1))) (o9 + 1) (by omega) (lfB_lt hl9) (by omega) hm8
      exact lp0 n (nx n r) (nI (wid n a r)) 0 (by omega) (by first | exact hr | exact nx_lt (by omega)) (by omega) rfl
