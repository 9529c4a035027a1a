set_option maxRecDepth 100000 in
set_option maxHeartbeats 4000000 in
theorem x_turn {D : Wd} {n : Nat} {k f : Nat → Nat} {dn : Nat} {dr : Nat → Nat} {pn : Nat} (hP : PX D 0 n k f dn dr pn) {a : Nat → Nat} (hA : AX D 0 n a) (x s y : Int32) : Mok mX5_turn idsA 5 [vr (0, 0), vi x, vi s, vi y] D (fun r' E' => r' = (some (vi (turnS n k f dn dr a x s y))) ∧ TX D E') := by
  obtain ⟨hn3, hn8, hN, hK, hF, hd3, hDn, hDr, hp5, hPn⟩ := id hP
  refine Mok.of (L := [some (vr (0, 0)), some (vi x), some (vi s), some (vi y)]) rfl (fun _ => Nat.le_of_ble_eq_true rfl) (fun _ => rfl) (fun X cx rq => ?_)
  refine g_aload_n cx dX5_turn_0 rfl ?_
  refine g_getR (i := (0, 0)) (ci := 5) (k := 0) (j := (1, 0)) cx a0_0 rfl rfl rfl (by decide) inX5 lfX5_10 dX5_turn_1 ?_
  refine g_iload_n cx dX5_turn_4 rfl ?_
  refine g_fcallV (As := [vi x]) (rest := []) cx knX1_has (x_has hP (by decide) x) a1_0 rfl rfl lmX5_87 niX1_has seX1_has rfl (by decide) (Nat.le_of_ble_eq_true rfl) rfl dX5_turn_5 ?_
  refine g_if_eqB (tgt := 22) cx dX5_turn_8 (by decide) (fun h_8 => ?_) (fun h_8 => ?_)
  · skip
    refine g_bipush (v := (-2)) cx dX5_turn_22 (by decide) ?_
    exact g_ret cx rq rfl (rfl) dX5_turn_24 ⟨by simp [turnS, eq_false h_8], TX.rf⟩
  · skip
    obtain ⟨j, hj, rfl⟩ := lt0_nI h_8
    have hjx : (nI j).toNatClampNeg = j := nI_clamp (by omega)
    have hji : ix (nI j) = j := hjx
    refine g_aload_n cx dX5_turn_11 rfl ?_
    refine g_getR (i := (0, 0)) (ci := 5) (k := 0) (j := (1, 0)) cx a0_0 rfl rfl rfl (by decide) inX5 lfX5_10 dX5_turn_12 ?_
    refine g_iload_n cx dX5_turn_15 rfl ?_
    refine g_fcallV (As := [vi y]) (rest := []) cx knX1_has (x_has hP (by decide) y) a1_0 rfl rfl lmX5_87 niX1_has seX1_has rfl (by decide) (Nat.le_of_ble_eq_true rfl) rfl dX5_turn_16 ?_
    refine g_if_neB (tgt := 25) cx dX5_turn_19 (by decide) (fun h_19 => ?_) (fun h_19 => ?_)
    · skip
      obtain ⟨t, ht, rfl⟩ := lt0_nI h_19
      have htx : (nI t).toNatClampNeg = t := nI_clamp (by omega)
      have hti : ix (nI t) = t := htx
      refine g_iload_n cx dX5_turn_25 rfl ?_
      refine g_fcallS (As := [vi s]) (rest := []) cx knX5_isSide (x_isSide s) lmX5_128 nsX5_isSide rfl (by decide) (Nat.le_of_ble_eq_true rfl) rfl dX5_turn_26 ?_
      refine g_if_neB (tgt := 35) cx dX5_turn_29 (by decide) (fun h_29 => ?_) (fun h_29 => ?_)
      · skip
        obtain ⟨u, hu, rfl⟩ := lt0_nI h_29
        have hux : (nI u).toNatClampNeg = u := nI_clamp (by omega)
        have hui : ix (nI u) = u := hux
        refine g_aload_n cx dX5_turn_35 rfl ?_
        refine g_getR (i := (0, 0)) (ci := 5) (k := 3) (j := (9, 1)) cx a0_0 rfl rfl rfl (by decide) inX5 lfX5_32 dX5_turn_36 ?_
        refine g_aload_n cx dX5_turn_39 rfl ?_
        refine g_getR (i := (0, 0)) (ci := 5) (k := 2) (j := (9, 0)) cx a0_0 rfl rfl rfl (by decide) inX5 lfX5_28 dX5_turn_40 ?_
        refine g_fcallVv (As := [vr (9, 0)]) (rest := []) cx knX0_copy (x_copy (g := 0) (h := 1) (by decide) (by decide)) a9_1 rfl rfl lmX5_145 niX0_copy seX0_copy rfl (by decide) (Nat.le_of_ble_eq_true rfl) rfl dX5_turn_43 ?_
        refine g_aload_n cx dX5_turn_46 rfl ?_
        refine g_getR (i := (0, 0)) (ci := 5) (k := 3) (j := (9, 1)) cx a0_0 rfl rfl rfl (by decide) inX5 lfX5_32 dX5_turn_47 ?_
        refine g_iload_n cx dX5_turn_50 rfl ?_
        refine g_iload_n cx dX5_turn_51 rfl ?_
        refine g_iload_n cx dX5_turn_52 rfl ?_
        refine g_bipush (v := nI 72) cx dX5_turn_53 (by decide) ?_
        refine g_fcallV (As := [vi (nI j), vi (nI u), vi (nI t), vi (nI 72)]) (rest := []) cx knX0_goTillOpen (x_goTillOpen (CpH.P hP) (by decide) (CpH.A hn8 hA) (i := j) (s := u) (r := t) (mo := 72) hj hu ht (by decide)) a9_1 rfl rfl lmX5_148 niX0_goTillOpen seX0_goTillOpen rfl (by decide) (Nat.le_of_ble_eq_true rfl) rfl dX5_turn_55 ?_
        exact g_ret cx rq rfl (rfl) dX5_turn_58 ⟨by rw [gt_73]; simp [turnS, eq_true h_8, eq_true h_19, eq_true h_29, hjx, htx, hux], (TX.rf.cp (Or.inl rfl)).rx (Or.inl rfl)⟩
      · skip
        refine g_bipush (v := (-3)) cx dX5_turn_32 (by decide) ?_
        exact g_ret cx rq rfl (rfl) dX5_turn_34 ⟨by simp [turnS, eq_true h_8, eq_true h_19, eq_false h_29], TX.rf⟩
    · skip
      refine g_bipush (v := (-2)) cx dX5_turn_22 (by decide) ?_
      exact g_ret cx rq rfl (rfl) dX5_turn_24 ⟨by simp [turnS, eq_false h_19], TX.rf⟩

set_option maxRecDepth 100000 in
set_option maxHeartbeats 4000000 in
theorem x_fire {D : Wd} {n : Nat} {k f : Nat → Nat} {dn : Nat} {dr : Nat → Nat} {pn : Nat} (hP : PX D 0 n k f dn dr pn) {a : Nat → Nat} (hA : AX D 0 n a) {pl : Nat → Int32} (hPl : PLX D 0 pn pl) (hPo : PLok n pn pl) (x s : Int32) : Mok mX5_fire idsA 5 [vr (0, 0), vi x, vi s] D (fun r' E' => r' = (some (vi (fireS n k f dn dr pn a pl x s))) ∧ TX D E') := by
  obtain ⟨hn3, hn8, hN, hK, hF, hd3, hDn, hDr, hp5, hPn⟩ := id hP
  refine Mok.of (L := [some (vr (0, 0)), some (vi x), some (vi s), none]) rfl (fun _ => Nat.le_of_ble_eq_true rfl) (fun _ => rfl) (fun X cx rq => ?_)
  refine g_aload_n cx dX5_fire_0 rfl ?_
  refine g_getR (i := (0, 0)) (ci := 5) (k := 0) (j := (1, 0)) cx a0_0 rfl rfl rfl (by decide) inX5 lfX5_10 dX5_fire_1 ?_
  refine g_iload_n cx dX5_fire_4 rfl ?_
  refine g_fcallV (As := [vi x]) (rest := []) cx knX1_has (x_has hP (by decide) x) a1_0 rfl rfl lmX5_87 niX1_has seX1_has rfl (by decide) (Nat.le_of_ble_eq_true rfl) rfl dX5_fire_5 ?_
  refine g_if_neB (tgt := 14) cx dX5_fire_8 (by decide) (fun h_8 => ?_) (fun h_8 => ?_)
  · skip
    obtain ⟨j, hj, rfl⟩ := lt0_nI h_8
    have hjx : (nI j).toNatClampNeg = j := nI_clamp (by omega)
    have hji : ix (nI j) = j := hjx
    refine g_iload_n cx dX5_fire_14 rfl ?_
    refine g_fcallS (As := [vi s]) (rest := []) cx knX5_isSide (x_isSide s) lmX5_128 nsX5_isSide rfl (by decide) (Nat.le_of_ble_eq_true rfl) rfl dX5_fire_15 ?_
    refine g_if_neB (tgt := 24) cx dX5_fire_18 (by decide) (fun h_18 => ?_) (fun h_18 => ?_)
    · skip
      obtain ⟨t, ht, rfl⟩ := lt0_nI h_18
      have htx : (nI t).toNatClampNeg = t := nI_clamp (by omega)
      have hti : ix (nI t) = t := htx
      refine g_aload_n cx dX5_fire_24 rfl ?_
      refine g_getR (i := (0, 0)) (ci := 5) (k := 3) (j := (9, 1)) cx a0_0 rfl rfl rfl (by decide) inX5 lfX5_32 dX5_fire_25 ?_
      refine g_aload_n cx dX5_fire_28 rfl ?_
      refine g_getR (i := (0, 0)) (ci := 5) (k := 2) (j := (9, 0)) cx a0_0 rfl rfl rfl (by decide) inX5 lfX5_28 dX5_fire_29 ?_
      refine g_fcallVv (As := [vr (9, 0)]) (rest := []) cx knX0_copy (x_copy (g := 0) (h := 1) (by decide) (by decide)) a9_1 rfl rfl lmX5_145 niX0_copy seX0_copy rfl (by decide) (Nat.le_of_ble_eq_true rfl) rfl dX5_fire_32 ?_
      refine g_iconst (v := nI 0) cx dX5_fire_35 (by decide) ?_
      refine g_istore_n (L' := [some (vr (0, 0)), some (vi (nI j)), some (vi (nI t)), some (vi (nI 0))]) cx dX5_fire_36 (by decide) rfl rfl ?_
      have lp : ∀ (fu : Nat) (c : Nat) (E : Wd) (ae : Nat → Nat) (pe : Nat → Int32), 201 - c < fu → (c ≤ 201) → (TX D E) → (AX E 1 n ae) → (PLX E 1 pn pe) → (c ≤ 200 → (if allO pn pe = true then nI c else if c = 200 then -1 else firG n k f dn dr pn j t (200 - (c + 1)) (c + 1) (stp n ae k f j t) (letG (opn n ae dn dr) pn n pe)) = firG n k f dn dr pn j t 200 0 a pl) → (c = 201 → (-1 : Int32) = firG n k f dn dr pn j t 200 0 a pl) → Gk X mX5_fire idsA 37 [some (vr (0, 0)), some (vi (nI j)), some (vi (nI t)), some (vi (nI c))] [] E := by
        intro fu
        induction fu with
        | zero => intro c E ae pe hfu; exact absurd hfu (Nat.not_lt_zero _)
        | succ fu ih_lp =>
          intro c E ae pe hfu hc hT hAe hPe hm1 hm
          refine g_iload_n cx dX5_fire_37 rfl ?_
          refine g_sipush (v := nI 200) cx dX5_fire_38 (by decide) ?_
          refine g_icmp_gtN (tgt := 79) cx dX5_fire_41 (by decide) (by omega) (by omega) (fun h_41 => ?_) (fun h_41 => ?_)
          · skip
            have hm3 := hm (by omega)
            refine g_iconst (v := (-1)) cx dX5_fire_79 (by decide) ?_
            exact g_ret cx rq rfl (rfl) dX5_fire_80 ⟨by simp only [fireS, eq_true h_8, eq_true h_18, if_true, hjx, htx]; rw [← hm3], hT⟩
          · skip
            have hm3 := hm1 (by omega)
            refine g_aload_n cx dX5_fire_44 rfl ?_
            refine g_getR (i := (0, 0)) (ci := 5) (k := 3) (j := (9, 1)) cx a0_0 rfl rfl rfl (by decide) inX5 lfX5_32 dX5_fire_45 ?_
            refine g_fcallV (As := []) (rest := []) cx knX0_areAllOut (x_areAllOut (hT.P hP) (by decide) hPe) a9_1 rfl rfl lmX5_180 niX0_areAllOut seX0_areAllOut rfl (by decide) (Nat.le_of_ble_eq_true rfl) rfl dX5_fire_48 ?_
            refine g_if_eqB (tgt := 56) cx dX5_fire_51 (by decide) (fun h_51 => ?_) (fun h_51 => ?_)
            · skip
              rw [if_neg h_51] at hm3
              refine g_aload_n cx dX5_fire_56 rfl ?_
              refine g_getR (i := (0, 0)) (ci := 5) (k := 3) (j := (9, 1)) cx a0_0 rfl rfl rfl (by decide) inX5 lfX5_32 dX5_fire_57 ?_
              refine g_fcallVv (As := []) (rest := []) cx knX0_letOut (x_letOut (hT.P hP) (by decide) hAe hPe) a9_1 rfl rfl lmX5_184 niX0_letOut seX0_letOut rfl (by decide) (Nat.le_of_ble_eq_true rfl) rfl dX5_fire_60 ?_
              refine g_aload_n cx dX5_fire_63 rfl ?_
              refine g_getR (i := (0, 0)) (ci := 5) (k := 3) (j := (9, 1)) cx a0_0 rfl rfl rfl (by decide) inX5 lfX5_32 dX5_fire_64 ?_
              refine g_iload_n cx dX5_fire_67 rfl ?_
              refine g_iload_n cx dX5_fire_68 rfl ?_
              refine g_fcallV (As := [vi (nI j), vi (nI t)]) (rest := []) cx knX0_step (x_step (PW.P (hT.P hP)) (by decide) (PW.A hAe) (i := j) (s := t) hj ht) a9_1 rfl rfl lmX5_131 niX0_step seX0_step rfl (by decide) (Nat.le_of_ble_eq_true rfl) rfl dX5_fire_69 ?_
              refine g_pop cx dX5_fire_72 rfl ?_
              refine g_iincN (L' := [some (vr (0, 0)), some (vi (nI j)), some (vi (nI t)), some (vi (nI (c + 1)))]) cx dX5_fire_73 rfl (by decide) rfl rfl ?_
              refine g_goto (tgt := 37) cx dX5_fire_76 (by decide) ?_
              exact ih_lp (c + 1) (RX (PW E 1 pn (letG (opn n ae dn dr) pn n pe)) 1 n (stp n ae k f j t)) (stp n ae k f j t) (letG (opn n ae dn dr) pn n pe) (by omega) (by omega) ((hT.pw (Or.inl rfl)).rx (Or.inl rfl)) (RX.A (fun q hq => stp_lt (hAe q hq).2)) (RX.Pl PW.Pl) (fun h9 => fir_1 h9 (by rw [if_neg (by omega)] at hm3; exact hm3)) (fun h9 => by rw [if_pos (by omega)] at hm3; exact hm3)
            · skip
              rw [if_pos h_51] at hm3
              refine g_iload_n cx dX5_fire_54 rfl ?_
              exact g_ret cx rq rfl (rfl) dX5_fire_55 ⟨by simp only [fireS, eq_true h_8, eq_true h_18, if_true, hjx, htx]; rw [← hm3], hT⟩
      exact lp 202 0 (CpH D 0 1) a pl (by omega) (by omega) (TX.rf.cp (Or.inl rfl)) (CpH.A hn8 hA) (CpH.Pl hp5 hPl) (fun _ => fir_1 (by omega) (fir_z _ _)) (fun h9 => absurd h9 (by decide))
    · skip
      refine g_bipush (v := (-3)) cx dX5_fire_21 (by decide) ?_
      exact g_ret cx rq rfl (rfl) dX5_fire_23 ⟨by simp [fireS, eq_true h_8, eq_false h_18], TX.rf⟩
  · skip
    refine g_bipush (v := (-2)) cx dX5_fire_11 (by decide) ?_
    exact g_ret cx rq rfl (rfl) dX5_fire_13 ⟨by simp [fireS, eq_false h_8], TX.rf⟩

set_option maxRecDepth 100000 in
set_option maxHeartbeats 4000000 in
theorem x_best {D : Wd} {n : Nat} {k f : Nat → Nat} {dn : Nat} {dr : Nat → Nat} {pn : Nat} (hP : PX D 0 n k f dn dr pn) {a : Nat → Nat} (hA : AX D 0 n a) (x w : Int32) : Mok mX5_best idsA 5 [vr (0, 0), vi x, vi w] D (fun r' E' => r' = (some (vi (bestS n k f dn dr a x w))) ∧ TX D E') := by
  obtain ⟨hn3, hn8, hN, hK, hF, hd3, hDn, hDr, hp5, hPn⟩ := id hP
  refine Mok.of (L := [some (vr (0, 0)), some (vi x), some (vi w), none, none, none, none, none, none, none]) rfl (fun _ => Nat.le_of_ble_eq_true rfl) (fun _ => rfl) (fun X cx rq => ?_)
  refine g_aload_n cx dX5_best_0 rfl ?_
  refine g_getR (i := (0, 0)) (ci := 5) (k := 0) (j := (1, 0)) cx a0_0 rfl rfl rfl (by decide) inX5 lfX5_10 dX5_best_1 ?_
  refine g_iload_n cx dX5_best_4 rfl ?_
  refine g_fcallV (As := [vi x]) (rest := []) cx knX1_has (x_has hP (by decide) x) a1_0 rfl rfl lmX5_87 niX1_has seX1_has rfl (by decide) (Nat.le_of_ble_eq_true rfl) rfl dX5_best_5 ?_
  refine g_if_neB (tgt := 14) cx dX5_best_8 (by decide) (fun h_8 => ?_) (fun h_8 => ?_)
  · skip
    obtain ⟨j, hj, rfl⟩ := lt0_nI h_8
    have hjx : (nI j).toNatClampNeg = j := nI_clamp (by omega)
    have hji : ix (nI j) = j := hjx
    refine g_iload_n cx dX5_best_14 rfl ?_
    refine g_if_lt (tgt := 23) cx dX5_best_15 (by decide) (fun h_15 => ?_) (fun h_15 => ?_)
    · skip
      have hw : ¬ lt0 w 3 = true := has_n1 h_15
      refine g_bipush (v := (-3)) cx dX5_best_23 (by decide) ?_
      exact g_ret cx rq rfl (rfl) dX5_best_25 ⟨by simp [bestS, eq_true h_8, eq_false hw], TX.rf⟩
    · skip
      refine g_iload_n cx dX5_best_18 rfl ?_
      refine g_iconst (v := nI 2) cx dX5_best_19 (by decide) ?_
      refine g_icmp_le (tgt := 26) cx dX5_best_20 (by decide) (fun h_20 => ?_) (fun h_20 => ?_)
      · skip
        have hw : lt0 w 3 = true := le_y (by decide) h_15 h_20
        refine g_iconst (v := (-1)) cx dX5_best_26 (by decide) ?_
        refine g_istore_n (L' := [some (vr (0, 0)), some (vi (nI j)), some (vi w), some (vi (-1)), none, none, none, none, none, none]) cx dX5_best_27 (by decide) rfl rfl ?_
        refine g_iconst (v := (-1)) cx dX5_best_28 (by decide) ?_
        refine g_istore (L' := [some (vr (0, 0)), some (vi (nI j)), some (vi w), some (vi (-1)), some (vi (-1)), none, none, none, none, none]) cx dX5_best_29 (by decide) rfl rfl ?_
        refine g_iconst (v := (-1)) cx dX5_best_31 (by decide) ?_
        refine g_istore (L' := [some (vr (0, 0)), some (vi (nI j)), some (vi w), some (vi (-1)), some (vi (-1)), some (vi (-1)), none, none, none, none]) cx dX5_best_32 (by decide) rfl rfl ?_
        refine g_bipush (v := nI 72) cx dX5_best_34 (by decide) ?_
        refine g_istore (L' := [some (vr (0, 0)), some (vi (nI j)), some (vi w), some (vi (-1)), some (vi (-1)), some (vi (-1)), some (vi (nI 72)), none, none, none]) cx dX5_best_36 (by decide) rfl rfl ?_
        refine g_iconst (v := nI 0) cx dX5_best_38 (by decide) ?_
        refine g_istore (L' := [some (vr (0, 0)), some (vi (nI j)), some (vi w), some (vi (-1)), some (vi (-1)), some (vi (-1)), some (vi (nI 72)), some (vi (nI 0)), none, none]) cx dX5_best_39 (by decide) rfl rfl ?_
        refine g_loc (L' := [some (vr (0, 0)), some (vi (nI j)), some (vi w), some (vi (b3 (bsG n k f dn dr j a (2 * 0)))), some (vi (b4 (bsG n k f dn dr j a (2 * 0)))), some (vi (b5 (bsG n k f dn dr j a (2 * 0)))), some (vi (nI (bB (bsG n k f dn dr j a (2 * 0))) - nI 1)), some (vi (nI 0)), none, none]) (by rw [show nI 72 = nI 73 - nI 1 from by decide]; rfl) ?_
        have lp : ∀ (fu : Nat) (m : Nat) (E : Wd), n - m < fu → (m ≤ n) → (TX D E) → Gk X mX5_best idsA 41 [some (vr (0, 0)), some (vi (nI j)), some (vi w), some (vi (b3 (bsG n k f dn dr j a (2 * m)))), some (vi (b4 (bsG n k f dn dr j a (2 * m)))), some (vi (b5 (bsG n k f dn dr j a (2 * m)))), some (vi (nI (bB (bsG n k f dn dr j a (2 * m))) - nI 1)), some (vi (nI m)), none, none] [] E := by
          intro fu
          induction fu with
          | zero => intro m E hfu; exact absurd hfu (Nat.not_lt_zero _)
          | succ fu ih_lp =>
            intro m E hfu hm hT
            refine g_iload cx dX5_best_41 rfl ?_
            refine g_aload_n cx dX5_best_43 rfl ?_
            refine g_getR (i := (0, 0)) (ci := 5) (k := 0) (j := (1, 0)) cx a0_0 rfl rfl rfl (by decide) inX5 lfX5_10 dX5_best_44 ?_
            refine g_getIN (i := (1, 0)) (ci := 1) (k := 0) (v := nI n) cx a1_0 rfl rfl rfl (by decide) inX1 lfX5_152 dX5_best_47 ((congrFun (hT _ rfl) 0).trans hN) ?_
            refine g_icmp_geN (tgt := 124) cx dX5_best_50 (by decide) (by omega) (by omega) (fun h_50 => ?_) (fun h_50 => ?_)
            · skip
              have e9 : m = n := by omega
              refine g_loc (L' := [some (vr (0, 0)), some (vi (nI j)), some (vi w), some (vi (b3 (bsG n k f dn dr j a (2 * n)))), some (vi (b4 (bsG n k f dn dr j a (2 * n)))), some (vi (b5 (bsG n k f dn dr j a (2 * n)))), some (vi (nI (bB (bsG n k f dn dr j a (2 * n))) - nI 1)), some (vi (nI m)), none, none]) (by rw [e9]) ?_
              refine g_iload_n cx dX5_best_124 rfl ?_
              refine g_if_ne (tgt := 132) cx dX5_best_125 (by decide) (fun h_125 => ?_) (fun h_125 => ?_)
              · skip
                refine g_iload_n cx dX5_best_132 rfl ?_
                refine g_iconst (v := nI 1) cx dX5_best_133 (by decide) ?_
                refine g_icmp_ne (tgt := 142) cx dX5_best_134 (by decide) (fun h_134 => ?_) (fun h_134 => ?_)
                · skip
                  refine g_iload cx dX5_best_142 rfl ?_
                  exact g_ret cx rq rfl (rfl) dX5_best_144 ⟨by simp only [bestS, eq_true h_8, eq_true hw, if_true, hjx]; unfold b5; cases (bsG n k f dn dr j a (2 * n)).1 <;> simp [eq_false h_125, eq_false h_134], hT⟩
                · skip
                  refine g_iload cx dX5_best_137 rfl ?_
                  refine g_goto (tgt := 144) cx dX5_best_139 (by decide) ?_
                  exact g_ret cx rq rfl (rfl) dX5_best_144 ⟨by simp only [bestS, eq_true h_8, eq_true hw, if_true, hjx]; unfold b4; cases (bsG n k f dn dr j a (2 * n)).1 <;> simp [eq_false h_125, eq_true h_134], hT⟩
              · skip
                refine g_iload_n cx dX5_best_128 rfl ?_
                refine g_goto (tgt := 144) cx dX5_best_129 (by decide) ?_
                exact g_ret cx rq rfl (rfl) dX5_best_144 ⟨by simp only [bestS, eq_true h_8, eq_true hw, if_true, hjx]; unfold b3; cases (bsG n k f dn dr j a (2 * n)).1 <;> simp [eq_true h_125], hT⟩
            · skip
              refine g_iconst (v := nI 0) cx dX5_best_53 (by decide) ?_
              refine g_istore (L' := [some (vr (0, 0)), some (vi (nI j)), some (vi w), some (vi (b3 (bsG n k f dn dr j a (2 * m)))), some (vi (b4 (bsG n k f dn dr j a (2 * m)))), some (vi (b5 (bsG n k f dn dr j a (2 * m)))), some (vi (nI (bB (bsG n k f dn dr j a (2 * m))) - nI 1)), some (vi (nI m)), some (vi (nI 0)), none]) cx dX5_best_54 (by decide) rfl rfl ?_
              have lp2 : ∀ (fu : Nat) (s : Nat) (E2 : Wd), 2 - s < fu → (s ≤ 2) → (TX D E2) → Gk X mX5_best idsA 56 [some (vr (0, 0)), some (vi (nI j)), some (vi w), some (vi (b3 (bsG n k f dn dr j a (2 * m + s)))), some (vi (b4 (bsG n k f dn dr j a (2 * m + s)))), some (vi (b5 (bsG n k f dn dr j a (2 * m + s)))), some (vi (nI (bB (bsG n k f dn dr j a (2 * m + s))) - nI 1)), some (vi (nI m)), some (vi (nI s)), none] [] E2 := by
                intro fu
                induction fu with
                | zero => intro s E2 hfu; exact absurd hfu (Nat.not_lt_zero _)
                | succ fu ih_lp2 =>
                  intro s E2 hfu hs hT2
                  refine g_iload cx dX5_best_56 rfl ?_
                  refine g_iconst (v := nI 1) cx dX5_best_58 (by decide) ?_
                  refine g_icmp_gtN (tgt := 118) cx dX5_best_59 (by decide) (by omega) (by omega) (fun h_59 => ?_) (fun h_59 => ?_)
                  · skip
                    have e8 : s = 2 := by omega
                    refine g_drop 8 (L' := [some (vr (0, 0)), some (vi (nI j)), some (vi w), some (vi (b3 (bsG n k f dn dr j a (2 * m + s)))), some (vi (b4 (bsG n k f dn dr j a (2 * m + s)))), some (vi (b5 (bsG n k f dn dr j a (2 * m + s)))), some (vi (nI (bB (bsG n k f dn dr j a (2 * m + s))) - nI 1)), some (vi (nI m)), none, none]) rfl ?_
                    refine g_loc (L' := [some (vr (0, 0)), some (vi (nI j)), some (vi w), some (vi (b3 (bsG n k f dn dr j a (2 * (m + 1))))), some (vi (b4 (bsG n k f dn dr j a (2 * (m + 1))))), some (vi (b5 (bsG n k f dn dr j a (2 * (m + 1))))), some (vi (nI (bB (bsG n k f dn dr j a (2 * (m + 1)))) - nI 1)), some (vi (nI m)), none, none]) (by rw [e8]; rfl) ?_
                    refine g_iincN (L' := [some (vr (0, 0)), some (vi (nI j)), some (vi w), some (vi (b3 (bsG n k f dn dr j a (2 * (m + 1))))), some (vi (b4 (bsG n k f dn dr j a (2 * (m + 1))))), some (vi (b5 (bsG n k f dn dr j a (2 * (m + 1))))), some (vi (nI (bB (bsG n k f dn dr j a (2 * (m + 1)))) - nI 1)), some (vi (nI (m + 1))), none, none]) cx dX5_best_118 rfl (by decide) rfl rfl ?_
                    refine g_goto (tgt := 41) cx dX5_best_121 (by decide) ?_
                    exact ih_lp (m + 1) E2 (by omega) (by omega) hT2
                  · skip
                    have e2a : (2 * m + s) / 2 = m := by omega
                    have e2b : (2 * m + s) % 2 = s := by omega
                    refine g_aload_n cx dX5_best_62 rfl ?_
                    refine g_getR (i := (0, 0)) (ci := 5) (k := 3) (j := (9, 1)) cx a0_0 rfl rfl rfl (by decide) inX5 lfX5_32 dX5_best_63 ?_
                    refine g_aload_n cx dX5_best_66 rfl ?_
                    refine g_getR (i := (0, 0)) (ci := 5) (k := 2) (j := (9, 0)) cx a0_0 rfl rfl rfl (by decide) inX5 lfX5_28 dX5_best_67 ?_
                    refine g_fcallVv (As := [vr (9, 0)]) (rest := []) cx knX0_copy (x_copy (g := 0) (h := 1) (by decide) (by decide)) a9_1 rfl rfl lmX5_145 niX0_copy seX0_copy rfl (by decide) (Nat.le_of_ble_eq_true rfl) rfl dX5_best_70 ?_
                    refine g_aload_n cx dX5_best_73 rfl ?_
                    refine g_getR (i := (0, 0)) (ci := 5) (k := 3) (j := (9, 1)) cx a0_0 rfl rfl rfl (by decide) inX5 lfX5_32 dX5_best_74 ?_
                    refine g_iload cx dX5_best_77 rfl ?_
                    refine g_iload cx dX5_best_79 rfl ?_
                    refine g_iload_n cx dX5_best_81 rfl ?_
                    refine g_iload cx dX5_best_82 rfl ?_
                    refine g_callV (As := [vi (nI m), vi (nI s), vi (nI j), vi (nI (bB (bsG n k f dn dr j a (2 * m + s))) - nI 1)]) (rest := []) cx knX0_goTillOpen (x_go_b (CpH.P (hT2.P hP)) (by decide) (CpH.A hn8 (hT2.A hA)) (i := m) (s := s) (r := j) (B := bB (bsG n k f dn dr j a (2 * m + s))) (by omega) (by omega) hj (bB_le _)) a9_1 rfl rfl lmX5_148 niX0_goTillOpen seX0_goTillOpen rfl (by decide) (Nat.le_of_ble_eq_true rfl) rfl dX5_best_84 (fun r0 E3 hp0 => ?_)
                    obtain ⟨rfl, b3_, hE3, hb3, hc3⟩ := hp0
                    show Gk X mX5_best idsA 87 [some (vr (0, 0)), some (vi (nI j)), some (vi w), some (vi (b3 (bsG n k f dn dr j a (2 * m + s)))), some (vi (b4 (bsG n k f dn dr j a (2 * m + s)))), some (vi (b5 (bsG n k f dn dr j a (2 * m + s)))), some (vi (nI (bB (bsG n k f dn dr j a (2 * m + s))) - nI 1)), some (vi (nI m)), some (vi (nI s)), none] [vi (opI (lmO (trO n k f dn dr m s j a) (bB (bsG n k f dn dr j a (2 * m + s)))))] E3
                    have hTE : TX D E3 := by rw [hE3]; exact (hT2.cp (Or.inl rfl)).rx (Or.inl rfl)
                    refine g_istore (L' := [some (vr (0, 0)), some (vi (nI j)), some (vi w), some (vi (b3 (bsG n k f dn dr j a (2 * m + s)))), some (vi (b4 (bsG n k f dn dr j a (2 * m + s)))), some (vi (b5 (bsG n k f dn dr j a (2 * m + s)))), some (vi (nI (bB (bsG n k f dn dr j a (2 * m + s))) - nI 1)), some (vi (nI m)), some (vi (nI s)), some (vi (opI (lmO (trO n k f dn dr m s j a) (bB (bsG n k f dn dr j a (2 * m + s))))))]) cx dX5_best_87 (by decide) rfl rfl ?_
                    refine g_iload cx dX5_best_89 rfl ?_
                    refine g_iconst (v := (-1)) cx dX5_best_91 (by decide) ?_
                    refine g_icmp_eq (tgt := 112) cx dX5_best_92 (by decide) (fun h_92 => ?_) (fun h_92 => ?_)
                    · skip
                      have hbn : bsG n k f dn dr j a (2 * m + s + 1) = bsG n k f dn dr j a (2 * m + s) := bs_no (by rw [e2a, e2b]; exact opI_n (m := 100) (by decide) (fun c hc => by have := (lmO_lt hc).2; have := trO_le this; omega) h_92)
                      refine g_drop 9 (L' := [some (vr (0, 0)), some (vi (nI j)), some (vi w), some (vi (b3 (bsG n k f dn dr j a (2 * m + s)))), some (vi (b4 (bsG n k f dn dr j a (2 * m + s)))), some (vi (b5 (bsG n k f dn dr j a (2 * m + s)))), some (vi (nI (bB (bsG n k f dn dr j a (2 * m + s))) - nI 1)), some (vi (nI m)), some (vi (nI s)), none]) rfl ?_
                      refine g_loc (L' := [some (vr (0, 0)), some (vi (nI j)), some (vi w), some (vi (b3 (bsG n k f dn dr j a (2 * m + (s + 1))))), some (vi (b4 (bsG n k f dn dr j a (2 * m + (s + 1))))), some (vi (b5 (bsG n k f dn dr j a (2 * m + (s + 1))))), some (vi (nI (bB (bsG n k f dn dr j a (2 * m + (s + 1)))) - nI 1)), some (vi (nI m)), some (vi (nI s)), none]) (by rw [show 2 * m + (s + 1) = 2 * m + s + 1 from rfl, hbn]) ?_
                      refine g_iincN (L' := [some (vr (0, 0)), some (vi (nI j)), some (vi w), some (vi (b3 (bsG n k f dn dr j a (2 * m + (s + 1))))), some (vi (b4 (bsG n k f dn dr j a (2 * m + (s + 1))))), some (vi (b5 (bsG n k f dn dr j a (2 * m + (s + 1))))), some (vi (nI (bB (bsG n k f dn dr j a (2 * m + (s + 1)))) - nI 1)), some (vi (nI m)), some (vi (nI (s + 1))), none]) cx dX5_best_112 rfl (by decide) rfl rfl ?_
                      refine g_goto (tgt := 56) cx dX5_best_115 (by decide) ?_
                      exact ih_lp2 (s + 1) E3 (by omega) (by omega) hTE
                    · skip
                      obtain ⟨c9, hc9⟩ := opI_s h_92
                      have hby : bsG n k f dn dr j a (2 * m + s + 1) = (some (2 * m + s), c9) := bs_yes (by rw [e2a, e2b]; exact hc9)
                      have hcv := trO_le (lmO_lt hc9).2
                      refine g_loc (L' := [some (vr (0, 0)), some (vi (nI j)), some (vi w), some (vi (b3 (bsG n k f dn dr j a (2 * m + s)))), some (vi (b4 (bsG n k f dn dr j a (2 * m + s)))), some (vi (b5 (bsG n k f dn dr j a (2 * m + s)))), some (vi (nI (bB (bsG n k f dn dr j a (2 * m + s))) - nI 1)), some (vi (nI m)), some (vi (nI s)), some (vi (nI c9))]) (by rw [hc9]; rfl) ?_
                      refine g_iload cx dX5_best_95 rfl ?_
                      refine g_istore_n (L' := [some (vr (0, 0)), some (vi (nI j)), some (vi w), some (vi (nI c9)), some (vi (b4 (bsG n k f dn dr j a (2 * m + s)))), some (vi (b5 (bsG n k f dn dr j a (2 * m + s)))), some (vi (nI (bB (bsG n k f dn dr j a (2 * m + s))) - nI 1)), some (vi (nI m)), some (vi (nI s)), some (vi (nI c9))]) cx dX5_best_97 (by decide) rfl rfl ?_
                      refine g_iload cx dX5_best_98 rfl ?_
                      refine g_istore (L' := [some (vr (0, 0)), some (vi (nI j)), some (vi w), some (vi (nI c9)), some (vi (nI m)), some (vi (b5 (bsG n k f dn dr j a (2 * m + s)))), some (vi (nI (bB (bsG n k f dn dr j a (2 * m + s))) - nI 1)), some (vi (nI m)), some (vi (nI s)), some (vi (nI c9))]) cx dX5_best_100 (by decide) rfl rfl ?_
                      refine g_iload cx dX5_best_102 rfl ?_
                      refine g_istore (L' := [some (vr (0, 0)), some (vi (nI j)), some (vi w), some (vi (nI c9)), some (vi (nI m)), some (vi (nI s)), some (vi (nI (bB (bsG n k f dn dr j a (2 * m + s))) - nI 1)), some (vi (nI m)), some (vi (nI s)), some (vi (nI c9))]) cx dX5_best_104 (by decide) rfl rfl ?_
                      refine g_iload cx dX5_best_106 rfl ?_
                      refine g_iconst (v := nI 1) cx dX5_best_108 (by decide) ?_
                      refine g_isub cx dX5_best_109 ?_
                      refine g_istore (L' := [some (vr (0, 0)), some (vi (nI j)), some (vi w), some (vi (nI c9)), some (vi (nI m)), some (vi (nI s)), some (vi ((nI c9) - (nI 1))), some (vi (nI m)), some (vi (nI s)), some (vi (nI c9))]) cx dX5_best_110 (by decide) rfl rfl ?_
                      refine g_drop 9 (L' := [some (vr (0, 0)), some (vi (nI j)), some (vi w), some (vi (nI c9)), some (vi (nI m)), some (vi (nI s)), some (vi ((nI c9) - (nI 1))), some (vi (nI m)), some (vi (nI s)), none]) rfl ?_
                      refine g_loc (L' := [some (vr (0, 0)), some (vi (nI j)), some (vi w), some (vi (b3 (bsG n k f dn dr j a (2 * m + (s + 1))))), some (vi (b4 (bsG n k f dn dr j a (2 * m + (s + 1))))), some (vi (b5 (bsG n k f dn dr j a (2 * m + (s + 1))))), some (vi (nI (bB (bsG n k f dn dr j a (2 * m + (s + 1)))) - nI 1)), some (vi (nI m)), some (vi (nI s)), none]) (by rw [show 2 * m + (s + 1) = 2 * m + s + 1 from rfl, hby, bB_s (by omega), b3_s, b4_s, b5_s, e2a, e2b]) ?_
                      refine g_iincN (L' := [some (vr (0, 0)), some (vi (nI j)), some (vi w), some (vi (b3 (bsG n k f dn dr j a (2 * m + (s + 1))))), some (vi (b4 (bsG n k f dn dr j a (2 * m + (s + 1))))), some (vi (b5 (bsG n k f dn dr j a (2 * m + (s + 1))))), some (vi (nI (bB (bsG n k f dn dr j a (2 * m + (s + 1)))) - nI 1)), some (vi (nI m)), some (vi (nI (s + 1))), none]) cx dX5_best_112 rfl (by decide) rfl rfl ?_
                      refine g_goto (tgt := 56) cx dX5_best_115 (by decide) ?_
                      exact ih_lp2 (s + 1) E3 (by omega) (by omega) hTE
              exact lp2 3 0 E (by omega) (by omega) hT
        exact lp (n + 1) 0 D (by omega) (by omega) TX.rf
      · skip
        have hw : ¬ lt0 w 3 = true := le_n (by decide) h_20
        refine g_bipush (v := (-3)) cx dX5_best_23 (by decide) ?_
        exact g_ret cx rq rfl (rfl) dX5_best_25 ⟨by simp [bestS, eq_true h_8, eq_false hw], TX.rf⟩
  · skip
    refine g_bipush (v := (-2)) cx dX5_best_11 (by decide) ?_
    exact g_ret cx rq rfl (rfl) dX5_best_13 ⟨by simp [bestS, eq_false h_8], TX.rf⟩
