set_option maxRecDepth 100000 in
set_option maxHeartbeats 4000000 in
theorem m_isOpen {D : Wd} {n : Nat} {k f : Nat → Nat} {dn : Nat} {dr : Nat → Nat} {pn : Nat} (hP : PM D n k f dn dr pn) {bs : Nat} {a : Nat → Nat} (hA : AM D bs n a) (hb : bs + 14 ≤ 70) {i : Nat} (hi : i < n) : Fok mX6_isOpen idsA 2 [vr (30, 0), vi (nI bs), vi (nI i)] D (some (vi (if opn n a dn dr i = true then 1 else 0))) D := by
  obtain ⟨hn3, hn8, hN, hK, hF, hd3, hDn, hDr, hp5, hPn⟩ := id hP
  refine Mok.of (L := [some (vr (30, 0)), some (vi (nI bs)), some (vi (nI i)), none, none, none]) rfl (fun _ => Nat.le_of_ble_eq_true rfl) (fun _ => rfl) (fun X cx rq => ?_)
  refine g_iconst (v := nI 0) cx dX6_isOpen_0 (by decide) ?_
  refine g_istore_n (L' := [some (vr (30, 0)), some (vi (nI bs)), some (vi (nI i)), some (vi (nI 0)), none, none]) cx dX6_isOpen_1 (by decide) rfl rfl ?_
  refine g_iconst (v := nI 0) cx dX6_isOpen_2 (by decide) ?_
  refine g_istore (L' := [some (vr (30, 0)), some (vi (nI bs)), some (vi (nI i)), some (vi (nI 0)), some (vi (nI 0)), none]) cx dX6_isOpen_3 (by decide) rfl rfl ?_
  refine g_loc (L' := [some (vr (30, 0)), some (vi (nI bs)), some (vi (nI i)), some (vi (if anyB (opC n a dr i) 0 = true then 1 else 0)), some (vi (nI 0)), none]) (by rw [bi_f (c := anyB (opC n a dr i) 0 = true) (by simp [anyB])]) ?_
  have lp : ∀ (fu : Nat) (q : Nat), dn - q < fu → (q ≤ dn) → Gk X mX6_isOpen idsA 5 [some (vr (30, 0)), some (vi (nI bs)), some (vi (nI i)), some (vi (if anyB (opC n a dr i) q = true then 1 else 0)), some (vi (nI q)), none] [] D := by
    intro fu
    induction fu with
    | zero => intro q hfu; exact absurd hfu (Nat.not_lt_zero _)
    | succ fu ih =>
      intro q hfu hq
      refine g_iload cx dX6_isOpen_5 rfl ?_
      refine g_aload_n cx dX6_isOpen_7 rfl ?_
      refine g_getIN (i := (30, 0)) (ci := 6) (k := 10) (v := nI dn) cx a30_0 rfl rfl rfl (by decide) inX6 lfX6_150 dX6_isOpen_8 (hDn) ?_
      refine g_icmp_geN (tgt := 66) cx dX6_isOpen_11 (by decide) (by omega) (by omega) (fun h_11 => ?_) (fun h_11 => ?_)
      · skip
        have e : q = dn := by omega
        subst e
        refine g_iload_n cx dX6_isOpen_66 rfl ?_
        exact g_fret cx rq rfl (bi_nar _) dX6_isOpen_67 (rfl) (rfl)
      · skip
        refine g_aload_n cx dX6_isOpen_14 rfl ?_
        refine g_getR (i := (30, 0)) (ci := 6) (k := 0) (j := (31, 0)) cx a30_0 rfl rfl rfl (by decide) inX6 lfX6_7 dX6_isOpen_15 ?_
        refine g_iload_n cx dX6_isOpen_18 rfl ?_
        refine g_iload_n cx dX6_isOpen_19 rfl ?_
        refine g_iaddN cx dX6_isOpen_20 ?_
        refine g_ialdN (i := (31, 0)) (j := bs + i) (v := nI (a i)) cx a31_0 rfl (rfl) (by omega) (by decide) dX6_isOpen_21 ((hA i (by omega)).1) ?_
        refine g_aload_n cx dX6_isOpen_22 rfl ?_
        refine g_getR (i := (30, 0)) (ci := 6) (k := 9) (j := (37, 0)) cx a30_0 rfl rfl rfl (by decide) inX6 lfX6_33 dX6_isOpen_23 ?_
        refine g_iload cx dX6_isOpen_26 rfl ?_
        refine g_ialdN (i := (37, 0)) (j := q) (v := nI (dr q)) cx a37_0 rfl (rfl) (by omega) (by decide) dX6_isOpen_28 ((hDr q (by omega)).1) ?_
        refine g_fcallS (As := [vi (nI (a i)), vi (nI (dr q))]) (rest := []) cx knX6_on (m_on (a := a i) (c := dr q) ((hA i (by omega)).2) ((hDr q (by omega)).2)) lmX6_54 nsX6_on rfl (by decide) (Nat.le_of_ble_eq_true rfl) rfl dX6_isOpen_29 ?_
        refine g_istore (L' := [some (vr (30, 0)), some (vi (nI bs)), some (vi (nI i)), some (vi (if anyB (opC n a dr i) q = true then 1 else 0)), some (vi (nI q)), some (vi (nI (onN (a i) (dr q))))]) cx dX6_isOpen_32 (by decide) rfl rfl ?_
        refine g_iload_n cx dX6_isOpen_34 rfl ?_
        refine g_if_neB (tgt := 54) cx dX6_isOpen_35 (by decide) (fun h_35 => ?_) (fun h_35 => ?_)
        · skip
          refine g_iconst (v := nI 1) cx dX6_isOpen_54 (by decide) ?_
          refine g_goto (tgt := 59) cx dX6_isOpen_55 (by decide) ?_
          refine g_istore_n (L' := [some (vr (30, 0)), some (vi (nI bs)), some (vi (nI i)), some (vi (nI 1)), some (vi (nI q)), some (vi (nI (onN (a i) (dr q))))]) cx dX6_isOpen_59 (by decide) rfl rfl ?_
          refine g_loc (L' := [some (vr (30, 0)), some (vi (nI bs)), some (vi (nI i)), some (vi (if anyB (opC n a dr i) (q + 1) = true then 1 else 0)), some (vi (nI q)), some (vi (nI (onN (a i) (dr q))))]) (by rw [bi_t (c := anyB (opC n a dr i) (q + 1) = true) (by first | exact any_1 h_35 | exact any_2 (opC_t h_40 h_51))]) ?_
          refine g_iincN (L' := [some (vr (30, 0)), some (vi (nI bs)), some (vi (nI i)), some (vi (if anyB (opC n a dr i) (q + 1) = true then 1 else 0)), some (vi (nI (q + 1))), some (vi (nI (onN (a i) (dr q))))]) cx dX6_isOpen_60 rfl (by decide) rfl rfl ?_
          refine g_goto (tgt := 5) cx dX6_isOpen_63 (by decide) ?_
          refine g_drop 5 (L' := [some (vr (30, 0)), some (vi (nI bs)), some (vi (nI i)), some (vi (if anyB (opC n a dr i) (q + 1) = true then 1 else 0)), some (vi (nI (q + 1))), none]) rfl ?_
          exact ih (q + 1) (by omega) (by omega)
        · skip
          refine g_iload cx dX6_isOpen_38 rfl ?_
          have hon := onN_lt ((hA i (by omega)).2) ((hDr q (by omega)).2)
          refine g_if_leN (tgt := 58) cx dX6_isOpen_40 (by decide) (by omega) (fun h_40 => ?_) (fun h_40 => ?_)
          · skip
            refine g_iconst (v := nI 0) cx dX6_isOpen_58 (by decide) ?_
            refine g_istore_n (L' := [some (vr (30, 0)), some (vi (nI bs)), some (vi (nI i)), some (vi (nI 0)), some (vi (nI q)), some (vi (nI (onN (a i) (dr q))))]) cx dX6_isOpen_59 (by decide) rfl rfl ?_
            refine g_loc (L' := [some (vr (30, 0)), some (vi (nI bs)), some (vi (nI i)), some (vi (if anyB (opC n a dr i) (q + 1) = true then 1 else 0)), some (vi (nI q)), some (vi (nI (onN (a i) (dr q))))]) (by rw [bi_f (c := anyB (opC n a dr i) (q + 1) = true) (by first | exact any_0 h_35 (opC_f1 h_40) | exact any_0 h_35 (opC_f2 h_51))]) ?_
            refine g_iincN (L' := [some (vr (30, 0)), some (vi (nI bs)), some (vi (nI i)), some (vi (if anyB (opC n a dr i) (q + 1) = true then 1 else 0)), some (vi (nI (q + 1))), some (vi (nI (onN (a i) (dr q))))]) cx dX6_isOpen_60 rfl (by decide) rfl rfl ?_
            refine g_goto (tgt := 5) cx dX6_isOpen_63 (by decide) ?_
            refine g_drop 5 (L' := [some (vr (30, 0)), some (vi (nI bs)), some (vi (nI i)), some (vi (if anyB (opC n a dr i) (q + 1) = true then 1 else 0)), some (vi (nI (q + 1))), none]) rfl ?_
            exact ih (q + 1) (by omega) (by omega)
          · skip
            refine g_iload cx dX6_isOpen_43 rfl ?_
            refine g_aload_n cx dX6_isOpen_45 rfl ?_
            refine g_iload_n cx dX6_isOpen_46 rfl ?_
            refine g_iload_n cx dX6_isOpen_47 rfl ?_
            refine g_fcallV (As := [vi (nI bs), vi (nI i)]) (rest := [vi (nI (onN (a i) (dr q)))]) cx knX6_width (m_width hP hA (by omega) (i := i) (by omega)) a30_0 rfl rfl lmX6_180 niX6_width seX6_width rfl (by decide) (Nat.le_of_ble_eq_true rfl) rfl dX6_isOpen_48 ?_
            have hwd := wid_lt hi (fun j hj => (hA j hj).2)
            refine g_icmp_geN (tgt := 58) cx dX6_isOpen_51 (by decide) (by omega) (by omega) (fun h_51 => ?_) (fun h_51 => ?_)
            · skip
              refine g_iconst (v := nI 0) cx dX6_isOpen_58 (by decide) ?_
              refine g_istore_n (L' := [some (vr (30, 0)), some (vi (nI bs)), some (vi (nI i)), some (vi (nI 0)), some (vi (nI q)), some (vi (nI (onN (a i) (dr q))))]) cx dX6_isOpen_59 (by decide) rfl rfl ?_
              refine g_loc (L' := [some (vr (30, 0)), some (vi (nI bs)), some (vi (nI i)), some (vi (if anyB (opC n a dr i) (q + 1) = true then 1 else 0)), some (vi (nI q)), some (vi (nI (onN (a i) (dr q))))]) (by rw [bi_f (c := anyB (opC n a dr i) (q + 1) = true) (by first | exact any_0 h_35 (opC_f1 h_40) | exact any_0 h_35 (opC_f2 h_51))]) ?_
              refine g_iincN (L' := [some (vr (30, 0)), some (vi (nI bs)), some (vi (nI i)), some (vi (if anyB (opC n a dr i) (q + 1) = true then 1 else 0)), some (vi (nI (q + 1))), some (vi (nI (onN (a i) (dr q))))]) cx dX6_isOpen_60 rfl (by decide) rfl rfl ?_
              refine g_goto (tgt := 5) cx dX6_isOpen_63 (by decide) ?_
              refine g_drop 5 (L' := [some (vr (30, 0)), some (vi (nI bs)), some (vi (nI i)), some (vi (if anyB (opC n a dr i) (q + 1) = true then 1 else 0)), some (vi (nI (q + 1))), none]) rfl ?_
              exact ih (q + 1) (by omega) (by omega)
            · skip
              refine g_iconst (v := nI 1) cx dX6_isOpen_54 (by decide) ?_
              refine g_goto (tgt := 59) cx dX6_isOpen_55 (by decide) ?_
              refine g_istore_n (L' := [some (vr (30, 0)), some (vi (nI bs)), some (vi (nI i)), some (vi (nI 1)), some (vi (nI q)), some (vi (nI (onN (a i) (dr q))))]) cx dX6_isOpen_59 (by decide) rfl rfl ?_
              refine g_loc (L' := [some (vr (30, 0)), some (vi (nI bs)), some (vi (nI i)), some (vi (if anyB (opC n a dr i) (q + 1) = true then 1 else 0)), some (vi (nI q)), some (vi (nI (onN (a i) (dr q))))]) (by rw [bi_t (c := anyB (opC n a dr i) (q + 1) = true) (by first | exact any_1 h_35 | exact any_2 (opC_t h_40 h_51))]) ?_
              refine g_iincN (L' := [some (vr (30, 0)), some (vi (nI bs)), some (vi (nI i)), some (vi (if anyB (opC n a dr i) (q + 1) = true then 1 else 0)), some (vi (nI (q + 1))), some (vi (nI (onN (a i) (dr q))))]) cx dX6_isOpen_60 rfl (by decide) rfl rfl ?_
              refine g_goto (tgt := 5) cx dX6_isOpen_63 (by decide) ?_
              refine g_drop 5 (L' := [some (vr (30, 0)), some (vi (nI bs)), some (vi (nI i)), some (vi (if anyB (opC n a dr i) (q + 1) = true then 1 else 0)), some (vi (nI (q + 1))), none]) rfl ?_
              exact ih (q + 1) (by omega) (by omega)
  exact lp (dn + 1) 0 (by omega) (by omega)

set_option maxRecDepth 100000 in
set_option maxHeartbeats 4000000 in
theorem m_has {D : Wd} {v t : Nat} (hv : v < 256) (ht : t < 8) : Fok mX6_has idsA 0 [vi (nI v), vi (nI t)] D (some (vi (if v.testBit t = true then 1 else 0))) D := by
  refine Mok.of (L := [some (vi (nI v)), some (vi (nI t))]) rfl (fun _ => Nat.le_of_ble_eq_true rfl) (fun _ => rfl) (fun X cx rq => ?_)
  refine g_iload_n cx dX6_has_0 rfl ?_
  refine g_iload_n cx dX6_has_1 rfl ?_
  refine g_ishr cx dX6_has_2 ?_
  refine g_iconst (v := nI 1) cx dX6_has_3 (by decide) ?_
  refine g_iand cx dX6_has_4 ?_
  refine g_top (nI_bit v hv t ht) ?_
  refine g_iconst (v := nI 1) cx dX6_has_5 (by decide) ?_
  refine g_icmp_neN (tgt := 13) cx dX6_has_6 (by decide) (by omega) (by omega) (fun h_6 => ?_) (fun h_6 => ?_)
  · skip
    refine g_iconst (v := nI 0) cx dX6_has_13 (by decide) ?_
    exact g_fret cx rq rfl (by rfl) dX6_has_14 (by rw [bi_f (fun q => h_6 ((tb_div v t).mpr q))]) (rfl)
  · skip
    refine g_iconst (v := nI 1) cx dX6_has_9 (by decide) ?_
    refine g_goto (tgt := 14) cx dX6_has_10 (by decide) ?_
    exact g_fret cx rq rfl (by rfl) dX6_has_14 (by rw [bi_t ((tb_div v t).mp h_6)]) (rfl)

set_option maxRecDepth 100000 in
set_option maxHeartbeats 4000000 in
theorem m_chain {D : Wd} {n : Nat} {k f : Nat → Nat} {dn : Nat} {dr : Nat → Nat} {pn : Nat} (hP : PM D n k f dn dr pn) {bs : Nat} {a : Nat → Nat} (hA : AM D bs n a) (hb : bs + 14 ≤ 70) {i s : Nat} (hi : i < n) (hs : s < 2) : Fok mX6_chain idsA 3 [vr (30, 0), vi (nI bs), vi (nI i), vi (nI s)] D (some (vi (nI (bitsN (inM n (mov n a k f i s) i s) n)))) D := by
  obtain ⟨hn3, hn8, hN, hK, hF, hd3, hDn, hDr, hp5, hPn⟩ := id hP
  have hki := (hK i hi).2
  refine Mok.of (L := [some (vr (30, 0)), some (vi (nI bs)), some (vi (nI i)), some (vi (nI s)), none, none, none, none]) rfl (fun _ => Nat.le_of_ble_eq_true rfl) (fun _ => rfl) (fun X cx rq => ?_)
  refine g_aload_n cx dX6_chain_0 rfl ?_
  refine g_getR (i := (30, 0)) (ci := 6) (k := 7) (j := (35, 0)) cx a30_0 rfl rfl rfl (by decide) inX6 lfX6_27 dX6_chain_1 ?_
  refine g_iload_n cx dX6_chain_4 rfl ?_
  refine g_ialdN (i := (35, 0)) (j := i) (v := nI (k i)) cx a35_0 rfl (rfl) (by omega) (by decide) dX6_chain_5 ((hK i (by omega)).1) ?_
  refine g_iconst (v := nI 3) cx dX6_chain_6 (by decide) ?_
  refine g_icmp_neN (tgt := 12) cx dX6_chain_7 (by decide) (by omega) (by omega) (fun h_7 => ?_) (fun h_7 => ?_)
  · skip
    refine g_iconst (v := nI 1) cx dX6_chain_12 (by decide) ?_
    refine g_iload_n cx dX6_chain_13 rfl ?_
    refine g_ishl cx dX6_chain_14 ?_
    refine g_top (nI_shl i (by omega)) ?_
    refine g_istore (L' := [some (vr (30, 0)), some (vi (nI bs)), some (vi (nI i)), some (vi (nI s)), some (vi (nI (2 ^ i))), none, none, none]) cx dX6_chain_15 (by decide) rfl rfl ?_
    refine g_iload_n cx dX6_chain_17 rfl ?_
    refine g_istore (L' := [some (vr (30, 0)), some (vi (nI bs)), some (vi (nI i)), some (vi (nI s)), some (vi (nI (2 ^ i))), some (vi (nI i)), none, none]) cx dX6_chain_18 (by decide) rfl rfl ?_
    refine g_iconst (v := nI 0) cx dX6_chain_20 (by decide) ?_
    refine g_istore (L' := [some (vr (30, 0)), some (vi (nI bs)), some (vi (nI i)), some (vi (nI s)), some (vi (nI (2 ^ i))), some (vi (nI i)), some (vi (nI 0)), none]) cx dX6_chain_21 (by decide) rfl rfl ?_
    have lp : ∀ (fu : Nat) (c : Nat) (w : Nat) (v : Nat), n - c < fu → (c < n) → (w < n) → (v = bitsN (inM n (c + 1) i s) n) → (dst n i s w = c) → (movG n a k f s (n - 1 - c) w (c + 1) = mov n a k f i s) → Gk X mX6_chain idsA 23 [some (vr (30, 0)), some (vi (nI bs)), some (vi (nI i)), some (vi (nI s)), some (vi (nI v)), some (vi (nI w)), some (vi (nI c)), none] [] D := by
      intro fu
      induction fu with
      | zero => intro c w v hfu; exact absurd hfu (Nat.not_lt_zero _)
      | succ fu ih =>
        intro c w v hfu hc hw hv hcd hm
        refine g_iload cx dX6_chain_23 rfl ?_
        refine g_aload_n cx dX6_chain_25 rfl ?_
        refine g_getIN (i := (30, 0)) (ci := 6) (k := 6) (v := nI n) cx a30_0 rfl rfl rfl (by decide) inX6 lfX6_23 dX6_chain_26 (hN) ?_
        refine g_icmp_geN (tgt := 129) cx dX6_chain_29 (by decide) (by omega) (by omega) (fun h_29 => ?_) (fun h_29 => ?_)
        · skip
          exact absurd h_29 (by omega)
        · skip
          refine g_iload_n cx dX6_chain_32 rfl ?_
          refine g_if_neN (tgt := 41) cx dX6_chain_33 (by decide) (by omega) (fun h_33 => ?_) (fun h_33 => ?_)
          · skip
            refine g_aload_n cx dX6_chain_41 rfl ?_
            refine g_iload cx dX6_chain_42 rfl ?_
            refine g_fcallV (As := [vi (nI w)]) (rest := []) cx knX6_ahead (m_ahead hP (i := w) (by omega)) a30_0 rfl rfl lmX6_192 niX6_ahead seX6_ahead rfl (by decide) (Nat.le_of_ble_eq_true rfl) rfl dX6_chain_44 ?_
            refine g_top (y := nI (rmB n w s)) (by unfold rmB; rw [if_neg h_33]) ?_
            have hrm := rmB_lt (s := s) hw
            refine g_istore (L' := [some (vr (30, 0)), some (vi (nI bs)), some (vi (nI i)), some (vi (nI s)), some (vi (nI v)), some (vi (nI w)), some (vi (nI c)), some (vi (nI (rmB n w s)))]) cx dX6_chain_47 (by decide) rfl rfl ?_
            refine g_aload_n cx dX6_chain_49 rfl ?_
            refine g_iload_n cx dX6_chain_50 rfl ?_
            refine g_iload cx dX6_chain_51 rfl ?_
            refine g_fcallV (As := [vi (nI bs), vi (nI (rmB n w s))]) (rest := []) cx knX6_width (m_width hP hA (by omega) (i := rmB n w s) (by omega)) a30_0 rfl rfl lmX6_180 niX6_width seX6_width rfl (by decide) (Nat.le_of_ble_eq_true rfl) rfl dX6_chain_53 ?_
            refine g_aload_n cx dX6_chain_56 rfl ?_
            refine g_getR (i := (30, 0)) (ci := 6) (k := 8) (j := (36, 0)) cx a30_0 rfl rfl rfl (by decide) inX6 lfX6_30 dX6_chain_57 ?_
            refine g_iload cx dX6_chain_60 rfl ?_
            refine g_ialdN (i := (36, 0)) (j := rmB n w s) (v := nI (f (rmB n w s))) cx a36_0 rfl (rfl) (by omega) (by decide) dX6_chain_62 ((hF (rmB n w s) (by omega)).1) ?_
            refine g_iconst (v := nI 1) cx dX6_chain_63 (by decide) ?_
            refine g_iaddN cx dX6_chain_64 ?_
            have hwd := wid_lt hrm (fun j hj => (hA j hj).2)
            have hfr := (hF _ hrm).2
            refine g_icmp_leN (tgt := 71) cx dX6_chain_65 (by decide) (by omega) (by omega) (fun h_65 => ?_) (fun h_65 => ?_)
            · skip
              refine g_iload_n cx dX6_chain_71 rfl ?_
              refine g_if_neN (tgt := 84) cx dX6_chain_72 (by decide) (by omega) (fun h_72 => ?_) (fun h_72 => ?_)
              · skip
                refine g_aload_n cx dX6_chain_84 rfl ?_
                refine g_iload cx dX6_chain_85 rfl ?_
                refine g_fcallV (As := [vi (nI w)]) (rest := []) cx knX6_ahead (m_ahead hP (i := w) (by omega)) a30_0 rfl rfl lmX6_192 niX6_ahead seX6_ahead rfl (by decide) (Nat.le_of_ble_eq_true rfl) rfl dX6_chain_87 ?_
                refine g_top (y := nI (lfB n w s)) (by unfold lfB; rw [if_neg h_72]) ?_
                have hlf := lfB_lt (s := s) hw
                refine g_istore (L' := [some (vr (30, 0)), some (vi (nI bs)), some (vi (nI i)), some (vi (nI s)), some (vi (nI v)), some (vi (nI (lfB n w s))), some (vi (nI c)), some (vi (nI (rmB n w s)))]) cx dX6_chain_90 (by decide) rfl rfl ?_
                refine g_iload cx dX6_chain_92 rfl ?_
                refine g_iload_n cx dX6_chain_94 rfl ?_
                refine g_icmp_neN (tgt := 101) cx dX6_chain_95 (by decide) (by omega) (by omega) (fun h_95 => ?_) (fun h_95 => ?_)
                · skip
                  have hd1 := dst_lf n (by omega) i hi s hs w hw
                  rw [hcd] at hd1
                  have hcn : ¬ c + 1 = n := fun e => by
                    rw [if_pos e] at hd1
                    exact h_95 (dst_inj n (by omega) i hi s hs _ hlf i hi (hd1.trans (dst_0 n (by omega) i hi s hs).symm))
                  rw [if_neg hcn] at hd1
                  have hd2 : dst n i s (lfB n w s) = c + 1 := hd1
                  have hfu : n - 1 - c = (n - 1 - (c + 1)) + 1 := by omega
                  rw [hfu, movG, if_neg (by omega)] at hm
                  have hk2 := (hK _ hlf).2
                  refine g_aload_n cx dX6_chain_101 rfl ?_
                  refine g_getR (i := (30, 0)) (ci := 6) (k := 7) (j := (35, 0)) cx a30_0 rfl rfl rfl (by decide) inX6 lfX6_27 dX6_chain_102 ?_
                  refine g_iload cx dX6_chain_105 rfl ?_
                  refine g_ialdN (i := (35, 0)) (j := lfB n w s) (v := nI (k (lfB n w s))) cx a35_0 rfl (rfl) (by omega) (by decide) dX6_chain_107 ((hK (lfB n w s) (by omega)).1) ?_
                  refine g_iconst (v := nI 1) cx dX6_chain_108 (by decide) ?_
                  refine g_icmp_leN (tgt := 114) cx dX6_chain_109 (by decide) (by omega) (by omega) (fun h_109 => ?_) (fun h_109 => ?_)
                  · skip
                    rw [if_neg (by omega)] at hm
                    have hm2 := hm
                    refine g_iload cx dX6_chain_114 rfl ?_
                    refine g_iconst (v := nI 1) cx dX6_chain_116 (by decide) ?_
                    refine g_iload cx dX6_chain_117 rfl ?_
                    refine g_ishl cx dX6_chain_119 ?_
                    refine g_top (nI_shl _ (by omega)) ?_
                    refine g_ior cx dX6_chain_120 ?_
                    refine g_top (nI_or _ _) ?_
                    refine g_istore (L' := [some (vr (30, 0)), some (vi (nI bs)), some (vi (nI i)), some (vi (nI s)), some (vi (nI (v ||| 2 ^ (lfB n w s)))), some (vi (nI (lfB n w s))), some (vi (nI c)), some (vi (nI (rmB n w s)))]) cx dX6_chain_121 (by decide) rfl rfl ?_
                    refine g_iincN (L' := [some (vr (30, 0)), some (vi (nI bs)), some (vi (nI i)), some (vi (nI s)), some (vi (nI (v ||| 2 ^ (lfB n w s)))), some (vi (nI (lfB n w s))), some (vi (nI (c + 1))), some (vi (nI (rmB n w s)))]) cx dX6_chain_123 rfl (by decide) rfl rfl ?_
                    refine g_goto (tgt := 23) cx dX6_chain_126 (by decide) ?_
                    refine g_drop 7 (L' := [some (vr (30, 0)), some (vi (nI bs)), some (vi (nI i)), some (vi (nI s)), some (vi (nI (v ||| 2 ^ (lfB n w s)))), some (vi (nI (lfB n w s))), some (vi (nI (c + 1))), none]) rfl ?_
                    exact ih (c + 1) (lfB n w s) (v ||| 2 ^ (lfB n w s)) (by omega) (by omega) hlf (by rw [hv]; exact inM_next (by omega) hi hs hlf hd2) hd2 hm2
                  · skip
                    rw [if_pos (by omega)] at hm
                    refine g_iconst (v := nI 0) cx dX6_chain_112 (by decide) ?_
                    exact g_fret cx rq rfl (rfl) dX6_chain_113 (by rw [← hm, inM_zero]) (rfl)
                · skip
                  have hd1 := dst_lf n (by omega) i hi s hs w hw
                  rw [hcd] at hd1
                  have hcn : c + 1 = n := by
                    by_cases e : c + 1 = n
                    · exact e
                    · rw [if_neg e, h_95, dst_0 n (by omega) i hi s hs] at hd1; omega
                  refine g_iload cx dX6_chain_98 rfl ?_
                  exact g_fret cx rq rfl (rfl) dX6_chain_100 (by rw [hv, ← hm, show n - 1 - c = 0 from by omega]; rfl) (rfl)
              · skip
                refine g_aload_n cx dX6_chain_75 rfl ?_
                refine g_iload cx dX6_chain_76 rfl ?_
                refine g_fcallV (As := [vi (nI w)]) (rest := []) cx knX6_next (m_next hP (i := w) (by omega)) a30_0 rfl rfl lmX6_177 niX6_next seX6_next rfl (by decide) (Nat.le_of_ble_eq_true rfl) rfl dX6_chain_78 ?_
                refine g_goto (tgt := 90) cx dX6_chain_81 (by decide) ?_
                refine g_top (y := nI (lfB n w s)) (by unfold lfB; rw [if_pos h_72]) ?_
                have hlf := lfB_lt (s := s) hw
                refine g_istore (L' := [some (vr (30, 0)), some (vi (nI bs)), some (vi (nI i)), some (vi (nI s)), some (vi (nI v)), some (vi (nI (lfB n w s))), some (vi (nI c)), some (vi (nI (rmB n w s)))]) cx dX6_chain_90 (by decide) rfl rfl ?_
                refine g_iload cx dX6_chain_92 rfl ?_
                refine g_iload_n cx dX6_chain_94 rfl ?_
                refine g_icmp_neN (tgt := 101) cx dX6_chain_95 (by decide) (by omega) (by omega) (fun h_95 => ?_) (fun h_95 => ?_)
                · skip
                  have hd1 := dst_lf n (by omega) i hi s hs w hw
                  rw [hcd] at hd1
                  have hcn : ¬ c + 1 = n := fun e => by
                    rw [if_pos e] at hd1
                    exact h_95 (dst_inj n (by omega) i hi s hs _ hlf i hi (hd1.trans (dst_0 n (by omega) i hi s hs).symm))
                  rw [if_neg hcn] at hd1
                  have hd2 : dst n i s (lfB n w s) = c + 1 := hd1
                  have hfu : n - 1 - c = (n - 1 - (c + 1)) + 1 := by omega
                  rw [hfu, movG, if_neg (by omega)] at hm
                  have hk2 := (hK _ hlf).2
                  refine g_aload_n cx dX6_chain_101 rfl ?_
                  refine g_getR (i := (30, 0)) (ci := 6) (k := 7) (j := (35, 0)) cx a30_0 rfl rfl rfl (by decide) inX6 lfX6_27 dX6_chain_102 ?_
                  refine g_iload cx dX6_chain_105 rfl ?_
                  refine g_ialdN (i := (35, 0)) (j := lfB n w s) (v := nI (k (lfB n w s))) cx a35_0 rfl (rfl) (by omega) (by decide) dX6_chain_107 ((hK (lfB n w s) (by omega)).1) ?_
                  refine g_iconst (v := nI 1) cx dX6_chain_108 (by decide) ?_
                  refine g_icmp_leN (tgt := 114) cx dX6_chain_109 (by decide) (by omega) (by omega) (fun h_109 => ?_) (fun h_109 => ?_)
                  · skip
                    rw [if_neg (by omega)] at hm
                    have hm2 := hm
                    refine g_iload cx dX6_chain_114 rfl ?_
                    refine g_iconst (v := nI 1) cx dX6_chain_116 (by decide) ?_
                    refine g_iload cx dX6_chain_117 rfl ?_
                    refine g_ishl cx dX6_chain_119 ?_
                    refine g_top (nI_shl _ (by omega)) ?_
                    refine g_ior cx dX6_chain_120 ?_
                    refine g_top (nI_or _ _) ?_
                    refine g_istore (L' := [some (vr (30, 0)), some (vi (nI bs)), some (vi (nI i)), some (vi (nI s)), some (vi (nI (v ||| 2 ^ (lfB n w s)))), some (vi (nI (lfB n w s))), some (vi (nI c)), some (vi (nI (rmB n w s)))]) cx dX6_chain_121 (by decide) rfl rfl ?_
                    refine g_iincN (L' := [some (vr (30, 0)), some (vi (nI bs)), some (vi (nI i)), some (vi (nI s)), some (vi (nI (v ||| 2 ^ (lfB n w s)))), some (vi (nI (lfB n w s))), some (vi (nI (c + 1))), some (vi (nI (rmB n w s)))]) cx dX6_chain_123 rfl (by decide) rfl rfl ?_
                    refine g_goto (tgt := 23) cx dX6_chain_126 (by decide) ?_
                    refine g_drop 7 (L' := [some (vr (30, 0)), some (vi (nI bs)), some (vi (nI i)), some (vi (nI s)), some (vi (nI (v ||| 2 ^ (lfB n w s)))), some (vi (nI (lfB n w s))), some (vi (nI (c + 1))), none]) rfl ?_
                    exact ih (c + 1) (lfB n w s) (v ||| 2 ^ (lfB n w s)) (by omega) (by omega) hlf (by rw [hv]; exact inM_next (by omega) hi hs hlf hd2) hd2 hm2
                  · skip
                    rw [if_pos (by omega)] at hm
                    refine g_iconst (v := nI 0) cx dX6_chain_112 (by decide) ?_
                    exact g_fret cx rq rfl (rfl) dX6_chain_113 (by rw [← hm, inM_zero]) (rfl)
                · skip
                  have hd1 := dst_lf n (by omega) i hi s hs w hw
                  rw [hcd] at hd1
                  have hcn : c + 1 = n := by
                    by_cases e : c + 1 = n
                    · exact e
                    · rw [if_neg e, h_95, dst_0 n (by omega) i hi s hs] at hd1; omega
                  refine g_iload cx dX6_chain_98 rfl ?_
                  exact g_fret cx rq rfl (rfl) dX6_chain_100 (by rw [hv, ← hm, show n - 1 - c = 0 from by omega]; rfl) (rfl)
            · skip
              refine g_iload cx dX6_chain_68 rfl ?_
              exact g_fret cx rq rfl (rfl) dX6_chain_70 (by rw [hv, ← hm, movG_wide h_65]) (rfl)
          · skip
            refine g_iload cx dX6_chain_36 rfl ?_
            refine g_goto (tgt := 47) cx dX6_chain_38 (by decide) ?_
            refine g_top (y := nI (rmB n w s)) (by unfold rmB; rw [if_pos h_33]) ?_
            have hrm := rmB_lt (s := s) hw
            refine g_istore (L' := [some (vr (30, 0)), some (vi (nI bs)), some (vi (nI i)), some (vi (nI s)), some (vi (nI v)), some (vi (nI w)), some (vi (nI c)), some (vi (nI (rmB n w s)))]) cx dX6_chain_47 (by decide) rfl rfl ?_
            refine g_aload_n cx dX6_chain_49 rfl ?_
            refine g_iload_n cx dX6_chain_50 rfl ?_
            refine g_iload cx dX6_chain_51 rfl ?_
            refine g_fcallV (As := [vi (nI bs), vi (nI (rmB n w s))]) (rest := []) cx knX6_width (m_width hP hA (by omega) (i := rmB n w s) (by omega)) a30_0 rfl rfl lmX6_180 niX6_width seX6_width rfl (by decide) (Nat.le_of_ble_eq_true rfl) rfl dX6_chain_53 ?_
            refine g_aload_n cx dX6_chain_56 rfl ?_
            refine g_getR (i := (30, 0)) (ci := 6) (k := 8) (j := (36, 0)) cx a30_0 rfl rfl rfl (by decide) inX6 lfX6_30 dX6_chain_57 ?_
            refine g_iload cx dX6_chain_60 rfl ?_
            refine g_ialdN (i := (36, 0)) (j := rmB n w s) (v := nI (f (rmB n w s))) cx a36_0 rfl (rfl) (by omega) (by decide) dX6_chain_62 ((hF (rmB n w s) (by omega)).1) ?_
            refine g_iconst (v := nI 1) cx dX6_chain_63 (by decide) ?_
            refine g_iaddN cx dX6_chain_64 ?_
            have hwd := wid_lt hrm (fun j hj => (hA j hj).2)
            have hfr := (hF _ hrm).2
            refine g_icmp_leN (tgt := 71) cx dX6_chain_65 (by decide) (by omega) (by omega) (fun h_65 => ?_) (fun h_65 => ?_)
            · skip
              refine g_iload_n cx dX6_chain_71 rfl ?_
              refine g_if_neN (tgt := 84) cx dX6_chain_72 (by decide) (by omega) (fun h_72 => ?_) (fun h_72 => ?_)
              · skip
                refine g_aload_n cx dX6_chain_84 rfl ?_
                refine g_iload cx dX6_chain_85 rfl ?_
                refine g_fcallV (As := [vi (nI w)]) (rest := []) cx knX6_ahead (m_ahead hP (i := w) (by omega)) a30_0 rfl rfl lmX6_192 niX6_ahead seX6_ahead rfl (by decide) (Nat.le_of_ble_eq_true rfl) rfl dX6_chain_87 ?_
                refine g_top (y := nI (lfB n w s)) (by unfold lfB; rw [if_neg h_72]) ?_
                have hlf := lfB_lt (s := s) hw
                refine g_istore (L' := [some (vr (30, 0)), some (vi (nI bs)), some (vi (nI i)), some (vi (nI s)), some (vi (nI v)), some (vi (nI (lfB n w s))), some (vi (nI c)), some (vi (nI (rmB n w s)))]) cx dX6_chain_90 (by decide) rfl rfl ?_
                refine g_iload cx dX6_chain_92 rfl ?_
                refine g_iload_n cx dX6_chain_94 rfl ?_
                refine g_icmp_neN (tgt := 101) cx dX6_chain_95 (by decide) (by omega) (by omega) (fun h_95 => ?_) (fun h_95 => ?_)
                · skip
                  have hd1 := dst_lf n (by omega) i hi s hs w hw
                  rw [hcd] at hd1
                  have hcn : ¬ c + 1 = n := fun e => by
                    rw [if_pos e] at hd1
                    exact h_95 (dst_inj n (by omega) i hi s hs _ hlf i hi (hd1.trans (dst_0 n (by omega) i hi s hs).symm))
                  rw [if_neg hcn] at hd1
                  have hd2 : dst n i s (lfB n w s) = c + 1 := hd1
                  have hfu : n - 1 - c = (n - 1 - (c + 1)) + 1 := by omega
                  rw [hfu, movG, if_neg (by omega)] at hm
                  have hk2 := (hK _ hlf).2
                  refine g_aload_n cx dX6_chain_101 rfl ?_
                  refine g_getR (i := (30, 0)) (ci := 6) (k := 7) (j := (35, 0)) cx a30_0 rfl rfl rfl (by decide) inX6 lfX6_27 dX6_chain_102 ?_
                  refine g_iload cx dX6_chain_105 rfl ?_
                  refine g_ialdN (i := (35, 0)) (j := lfB n w s) (v := nI (k (lfB n w s))) cx a35_0 rfl (rfl) (by omega) (by decide) dX6_chain_107 ((hK (lfB n w s) (by omega)).1) ?_
                  refine g_iconst (v := nI 1) cx dX6_chain_108 (by decide) ?_
                  refine g_icmp_leN (tgt := 114) cx dX6_chain_109 (by decide) (by omega) (by omega) (fun h_109 => ?_) (fun h_109 => ?_)
                  · skip
                    rw [if_neg (by omega)] at hm
                    have hm2 := hm
                    refine g_iload cx dX6_chain_114 rfl ?_
                    refine g_iconst (v := nI 1) cx dX6_chain_116 (by decide) ?_
                    refine g_iload cx dX6_chain_117 rfl ?_
                    refine g_ishl cx dX6_chain_119 ?_
                    refine g_top (nI_shl _ (by omega)) ?_
                    refine g_ior cx dX6_chain_120 ?_
                    refine g_top (nI_or _ _) ?_
                    refine g_istore (L' := [some (vr (30, 0)), some (vi (nI bs)), some (vi (nI i)), some (vi (nI s)), some (vi (nI (v ||| 2 ^ (lfB n w s)))), some (vi (nI (lfB n w s))), some (vi (nI c)), some (vi (nI (rmB n w s)))]) cx dX6_chain_121 (by decide) rfl rfl ?_
                    refine g_iincN (L' := [some (vr (30, 0)), some (vi (nI bs)), some (vi (nI i)), some (vi (nI s)), some (vi (nI (v ||| 2 ^ (lfB n w s)))), some (vi (nI (lfB n w s))), some (vi (nI (c + 1))), some (vi (nI (rmB n w s)))]) cx dX6_chain_123 rfl (by decide) rfl rfl ?_
                    refine g_goto (tgt := 23) cx dX6_chain_126 (by decide) ?_
                    refine g_drop 7 (L' := [some (vr (30, 0)), some (vi (nI bs)), some (vi (nI i)), some (vi (nI s)), some (vi (nI (v ||| 2 ^ (lfB n w s)))), some (vi (nI (lfB n w s))), some (vi (nI (c + 1))), none]) rfl ?_
                    exact ih (c + 1) (lfB n w s) (v ||| 2 ^ (lfB n w s)) (by omega) (by omega) hlf (by rw [hv]; exact inM_next (by omega) hi hs hlf hd2) hd2 hm2
                  · skip
                    rw [if_pos (by omega)] at hm
                    refine g_iconst (v := nI 0) cx dX6_chain_112 (by decide) ?_
                    exact g_fret cx rq rfl (rfl) dX6_chain_113 (by rw [← hm, inM_zero]) (rfl)
                · skip
                  have hd1 := dst_lf n (by omega) i hi s hs w hw
                  rw [hcd] at hd1
                  have hcn : c + 1 = n := by
                    by_cases e : c + 1 = n
                    · exact e
                    · rw [if_neg e, h_95, dst_0 n (by omega) i hi s hs] at hd1; omega
                  refine g_iload cx dX6_chain_98 rfl ?_
                  exact g_fret cx rq rfl (rfl) dX6_chain_100 (by rw [hv, ← hm, show n - 1 - c = 0 from by omega]; rfl) (rfl)
              · skip
                refine g_aload_n cx dX6_chain_75 rfl ?_
                refine g_iload cx dX6_chain_76 rfl ?_
                refine g_fcallV (As := [vi (nI w)]) (rest := []) cx knX6_next (m_next hP (i := w) (by omega)) a30_0 rfl rfl lmX6_177 niX6_next seX6_next rfl (by decide) (Nat.le_of_ble_eq_true rfl) rfl dX6_chain_78 ?_
                refine g_goto (tgt := 90) cx dX6_chain_81 (by decide) ?_
                refine g_top (y := nI (lfB n w s)) (by unfold lfB; rw [if_pos h_72]) ?_
                have hlf := lfB_lt (s := s) hw
                refine g_istore (L' := [some (vr (30, 0)), some (vi (nI bs)), some (vi (nI i)), some (vi (nI s)), some (vi (nI v)), some (vi (nI (lfB n w s))), some (vi (nI c)), some (vi (nI (rmB n w s)))]) cx dX6_chain_90 (by decide) rfl rfl ?_
                refine g_iload cx dX6_chain_92 rfl ?_
                refine g_iload_n cx dX6_chain_94 rfl ?_
                refine g_icmp_neN (tgt := 101) cx dX6_chain_95 (by decide) (by omega) (by omega) (fun h_95 => ?_) (fun h_95 => ?_)
                · skip
                  have hd1 := dst_lf n (by omega) i hi s hs w hw
                  rw [hcd] at hd1
                  have hcn : ¬ c + 1 = n := fun e => by
                    rw [if_pos e] at hd1
                    exact h_95 (dst_inj n (by omega) i hi s hs _ hlf i hi (hd1.trans (dst_0 n (by omega) i hi s hs).symm))
                  rw [if_neg hcn] at hd1
                  have hd2 : dst n i s (lfB n w s) = c + 1 := hd1
                  have hfu : n - 1 - c = (n - 1 - (c + 1)) + 1 := by omega
                  rw [hfu, movG, if_neg (by omega)] at hm
                  have hk2 := (hK _ hlf).2
                  refine g_aload_n cx dX6_chain_101 rfl ?_
                  refine g_getR (i := (30, 0)) (ci := 6) (k := 7) (j := (35, 0)) cx a30_0 rfl rfl rfl (by decide) inX6 lfX6_27 dX6_chain_102 ?_
                  refine g_iload cx dX6_chain_105 rfl ?_
                  refine g_ialdN (i := (35, 0)) (j := lfB n w s) (v := nI (k (lfB n w s))) cx a35_0 rfl (rfl) (by omega) (by decide) dX6_chain_107 ((hK (lfB n w s) (by omega)).1) ?_
                  refine g_iconst (v := nI 1) cx dX6_chain_108 (by decide) ?_
                  refine g_icmp_leN (tgt := 114) cx dX6_chain_109 (by decide) (by omega) (by omega) (fun h_109 => ?_) (fun h_109 => ?_)
                  · skip
                    rw [if_neg (by omega)] at hm
                    have hm2 := hm
                    refine g_iload cx dX6_chain_114 rfl ?_
                    refine g_iconst (v := nI 1) cx dX6_chain_116 (by decide) ?_
                    refine g_iload cx dX6_chain_117 rfl ?_
                    refine g_ishl cx dX6_chain_119 ?_
                    refine g_top (nI_shl _ (by omega)) ?_
                    refine g_ior cx dX6_chain_120 ?_
                    refine g_top (nI_or _ _) ?_
                    refine g_istore (L' := [some (vr (30, 0)), some (vi (nI bs)), some (vi (nI i)), some (vi (nI s)), some (vi (nI (v ||| 2 ^ (lfB n w s)))), some (vi (nI (lfB n w s))), some (vi (nI c)), some (vi (nI (rmB n w s)))]) cx dX6_chain_121 (by decide) rfl rfl ?_
                    refine g_iincN (L' := [some (vr (30, 0)), some (vi (nI bs)), some (vi (nI i)), some (vi (nI s)), some (vi (nI (v ||| 2 ^ (lfB n w s)))), some (vi (nI (lfB n w s))), some (vi (nI (c + 1))), some (vi (nI (rmB n w s)))]) cx dX6_chain_123 rfl (by decide) rfl rfl ?_
                    refine g_goto (tgt := 23) cx dX6_chain_126 (by decide) ?_
                    refine g_drop 7 (L' := [some (vr (30, 0)), some (vi (nI bs)), some (vi (nI i)), some (vi (nI s)), some (vi (nI (v ||| 2 ^ (lfB n w s)))), some (vi (nI (lfB n w s))), some (vi (nI (c + 1))), none]) rfl ?_
                    exact ih (c + 1) (lfB n w s) (v ||| 2 ^ (lfB n w s)) (by omega) (by omega) hlf (by rw [hv]; exact inM_next (by omega) hi hs hlf hd2) hd2 hm2
                  · skip
                    rw [if_pos (by omega)] at hm
                    refine g_iconst (v := nI 0) cx dX6_chain_112 (by decide) ?_
                    exact g_fret cx rq rfl (rfl) dX6_chain_113 (by rw [← hm, inM_zero]) (rfl)
                · skip
                  have hd1 := dst_lf n (by omega) i hi s hs w hw
                  rw [hcd] at hd1
                  have hcn : c + 1 = n := by
                    by_cases e : c + 1 = n
                    · exact e
                    · rw [if_neg e, h_95, dst_0 n (by omega) i hi s hs] at hd1; omega
                  refine g_iload cx dX6_chain_98 rfl ?_
                  exact g_fret cx rq rfl (rfl) dX6_chain_100 (by rw [hv, ← hm, show n - 1 - c = 0 from by omega]; rfl) (rfl)
            · skip
              refine g_iload cx dX6_chain_68 rfl ?_
              exact g_fret cx rq rfl (rfl) dX6_chain_70 (by rw [hv, ← hm, movG_wide h_65]) (rfl)
    exact lp (n + 1) 0 i (2 ^ i) (by omega) (by omega) hi (inM_one (by omega) hi hs) (dst_0 n (by omega) i hi s hs) (by unfold mov; rw [if_neg h_7]; rfl)
  · skip
    refine g_iconst (v := nI 0) cx dX6_chain_10 (by decide) ?_
    exact g_fret cx rq rfl (rfl) dX6_chain_11 (by unfold mov; rw [if_pos h_7, inM_zero]) (rfl)
