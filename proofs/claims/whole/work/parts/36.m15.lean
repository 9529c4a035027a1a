theorem upd_at (f : Nat → Int32) (j : Nat) (x : Int32) : upd f j x j = x := by unfold upd; rw [if_pos rfl]
theorem upd2_a (f : Nat → Int32) (m : Nat) (x y : Int32) : upd (upd f (3 * m + 1 + 0) x) (3 * m + 1 + 1) y (3 * m) = f (3 * m) := by unfold upd; rw [if_neg (by omega), if_neg (by omega)]
theorem upd2_b (f : Nat → Int32) (m : Nat) (x y : Int32) : upd (upd f (3 * m + 1 + 0) x) (3 * m + 1 + 1) y (3 * m + 1) = x := by unfold upd; rw [if_neg (by omega), if_pos (by omega)]
theorem nd_t {c : Bool} {p : Nat → Bool} {q : Nat} (h : (c && !anyB p q) = true) (h2 : p q = false) : (c && !anyB p (q + 1)) = true := by
  rw [anyB, h2, Bool.or_false]; exact h
theorem nd_f1 {c : Bool} {p : Nat → Bool} {q : Nat} (h : ¬ (c && !anyB p q) = true) : ¬ (c && !anyB p (q + 1)) = true := by
  intro h2
  apply h
  obtain ⟨h3, h4⟩ := Bool.and_eq_true_iff.mp h2
  refine Bool.and_eq_true_iff.mpr ⟨h3, ?_⟩
  rw [anyB, Bool.not_or] at h4
  exact (Bool.and_eq_true_iff.mp h4).1
theorem nd_f2 {c : Bool} {p : Nat → Bool} {q : Nat} (h : p q = true) : ¬ (c && !anyB p (q + 1)) = true := by
  rw [anyB, h, Bool.or_true]; simp
set_option maxRecDepth 100000 in
set_option maxHeartbeats 4000000 in
theorem m_readNext {E : Wd} {R : RS} (hRD : RDm E R) {i : Nat} (hi : i < R.1) : Fok mX6_readNext idsA 0 [vr (30, 0), vi (nI i)] E (some (vi (nI (nx R.1 i)))) E := by
  obtain ⟨r1, r2, r3, r4, r5, r6, r7, r8, r9, r10⟩ := id hRD
  refine Mok.of (L := [some (vr (30, 0)), some (vi (nI i))]) rfl (fun _ => Nat.le_of_ble_eq_true rfl) (fun _ => rfl) (fun X cx rq => ?_)
  refine g_iload_n cx dX6_readNext_0 rfl ?_
  refine g_iconst (v := nI 1) cx dX6_readNext_1 (by decide) ?_
  refine g_iaddN cx dX6_readNext_2 ?_
  refine g_aload_n cx dX6_readNext_3 rfl ?_
  refine g_getIN (i := (30, 0)) (ci := 6) (k := 15) (v := nI R.1) cx a30_0 rfl rfl rfl (by decide) inX6 lfX6_108 dX6_readNext_4 (r3) ?_
  refine g_iremN cx dX6_readNext_7 (by omega) (by omega) (by omega) ?_
  exact g_fret cx rq rfl (rfl) dX6_readNext_8 (by rw [nx_mod hi]) (rfl)

set_option maxRecDepth 100000 in
set_option maxHeartbeats 4000000 in
theorem m_fitsAngle {E : Wd} {R : RS} (hRD : RDm E R) {i c : Nat} (hi : i < R.1) (hc : c < 72) : Fok mX6_fitsAngle idsA 1 [vr (30, 0), vi (nI i), vi (nI c)] E (some (vi (if fitA R i c = true then 1 else 0))) E := by
  obtain ⟨r1, r2, r3, r4, r5, r6, r7, r8, r9, r10⟩ := id hRD
  have hbf := bf_lt hi
  have hnx := nx_lt (n := R.1) (i := i) (by omega)
  have ho1 := onN_lt ((r4 (bf R.1 i) hbf).2) hc
  have ho2 := onN_lt hc ((r4 (nx R.1 i) hnx).2)
  have ho3 := onN_lt ((r4 (bf R.1 i) hbf).2) ((r4 (nx R.1 i) hnx).2)
  have hs1 := (r5 (bf R.1 i) hbf).2
  have hs2 := (r5 i hi).2
  refine Mok.of (L := [some (vr (30, 0)), some (vi (nI i)), some (vi (nI c)), none, none, none]) rfl (fun _ => Nat.le_of_ble_eq_true rfl) (fun _ => rfl) (fun X cx rq => ?_)
  refine g_iload_n cx dX6_fitsAngle_0 rfl ?_
  refine g_aload_n cx dX6_fitsAngle_1 rfl ?_
  refine g_getIN (i := (30, 0)) (ci := 6) (k := 15) (v := nI R.1) cx a30_0 rfl rfl rfl (by decide) inX6 lfX6_108 dX6_fitsAngle_2 (r3) ?_
  refine g_iaddN cx dX6_fitsAngle_5 ?_
  refine g_iconst (v := nI 1) cx dX6_fitsAngle_6 (by decide) ?_
  refine g_isubN cx dX6_fitsAngle_7 (by omega) ?_
  refine g_aload_n cx dX6_fitsAngle_8 rfl ?_
  refine g_getIN (i := (30, 0)) (ci := 6) (k := 15) (v := nI R.1) cx a30_0 rfl rfl rfl (by decide) inX6 lfX6_108 dX6_fitsAngle_9 (r3) ?_
  refine g_iremN cx dX6_fitsAngle_12 (by omega) (by omega) (by omega) ?_
  refine g_top (y := nI (bf R.1 i)) (by rw [bf_mod hi]) ?_
  refine g_istore_n (L' := [some (vr (30, 0)), some (vi (nI i)), some (vi (nI c)), some (vi (nI (bf R.1 i))), none, none]) cx dX6_fitsAngle_13 (by decide) rfl rfl ?_
  refine g_aload_n cx dX6_fitsAngle_14 rfl ?_
  refine g_getR (i := (30, 0)) (ci := 6) (k := 16) (j := (38, 0)) cx a30_0 rfl rfl rfl (by decide) inX6 lfX6_36 dX6_fitsAngle_15 ?_
  refine g_iload_n cx dX6_fitsAngle_18 rfl ?_
  refine g_ialdN (i := (38, 0)) (j := bf R.1 i) (v := nI (R.2.1 (bf R.1 i))) cx a38_0 rfl (rfl) (by omega) (by decide) dX6_fitsAngle_19 ((r4 (bf R.1 i) (by omega)).1) ?_
  refine g_istore (L' := [some (vr (30, 0)), some (vi (nI i)), some (vi (nI c)), some (vi (nI (bf R.1 i))), some (vi (nI (R.2.1 (bf R.1 i)))), none]) cx dX6_fitsAngle_20 (by decide) rfl rfl ?_
  refine g_aload_n cx dX6_fitsAngle_22 rfl ?_
  refine g_getR (i := (30, 0)) (ci := 6) (k := 16) (j := (38, 0)) cx a30_0 rfl rfl rfl (by decide) inX6 lfX6_36 dX6_fitsAngle_23 ?_
  refine g_aload_n cx dX6_fitsAngle_26 rfl ?_
  refine g_iload_n cx dX6_fitsAngle_27 rfl ?_
  refine g_fcallV (As := [vi (nI i)]) (rest := [vr (38, 0)]) cx knX6_readNext (m_readNext hRD hi) a30_0 rfl rfl lmX6_111 niX6_readNext seX6_readNext rfl (by decide) (Nat.le_of_ble_eq_true rfl) rfl dX6_fitsAngle_28 ?_
  refine g_ialdN (i := (38, 0)) (j := nx R.1 i) (v := nI (R.2.1 (nx R.1 i))) cx a38_0 rfl (rfl) (by omega) (by decide) dX6_fitsAngle_31 ((r4 (nx R.1 i) (by omega)).1) ?_
  refine g_istore (L' := [some (vr (30, 0)), some (vi (nI i)), some (vi (nI c)), some (vi (nI (bf R.1 i))), some (vi (nI (R.2.1 (bf R.1 i)))), some (vi (nI (R.2.1 (nx R.1 i))))]) cx dX6_fitsAngle_32 (by decide) rfl rfl ?_
  refine g_iload cx dX6_fitsAngle_34 rfl ?_
  refine g_iload_n cx dX6_fitsAngle_36 rfl ?_
  refine g_fcallS (As := [vi (nI (R.2.1 (bf R.1 i))), vi (nI c)]) (rest := []) cx knX6_on (m_on (a := R.2.1 (bf R.1 i)) (c := c) ((r4 (bf R.1 i) (by omega)).2) (by omega)) lmX6_54 nsX6_on rfl (by decide) (Nat.le_of_ble_eq_true rfl) rfl dX6_fitsAngle_37 ?_
  refine g_iload_n cx dX6_fitsAngle_40 rfl ?_
  refine g_iload cx dX6_fitsAngle_41 rfl ?_
  refine g_fcallS (As := [vi (nI c), vi (nI (R.2.1 (nx R.1 i)))]) (rest := [vi (nI (onN (R.2.1 (bf R.1 i)) c))]) cx knX6_on (m_on (a := c) (c := R.2.1 (nx R.1 i)) (by omega) ((r4 (nx R.1 i) (by omega)).2)) lmX6_54 nsX6_on rfl (by decide) (Nat.le_of_ble_eq_true rfl) rfl dX6_fitsAngle_43 ?_
  refine g_iaddN cx dX6_fitsAngle_46 ?_
  refine g_iload cx dX6_fitsAngle_47 rfl ?_
  refine g_iload cx dX6_fitsAngle_49 rfl ?_
  refine g_fcallS (As := [vi (nI (R.2.1 (bf R.1 i))), vi (nI (R.2.1 (nx R.1 i)))]) (rest := [vi (nI ((onN (R.2.1 (bf R.1 i)) c) + (onN c (R.2.1 (nx R.1 i)))))]) cx knX6_on (m_on (a := R.2.1 (bf R.1 i)) (c := R.2.1 (nx R.1 i)) ((r4 (bf R.1 i) (by omega)).2) ((r4 (nx R.1 i) (by omega)).2)) lmX6_54 nsX6_on rfl (by decide) (Nat.le_of_ble_eq_true rfl) rfl dX6_fitsAngle_51 ?_
  refine g_icmp_neN (tgt := 91) cx dX6_fitsAngle_54 (by decide) (by omega) (by omega) (fun h_54 => ?_) (fun h_54 => ?_)
  · skip
    refine g_iconst (v := nI 0) cx dX6_fitsAngle_91 (by decide) ?_
    exact g_fret cx rq rfl (by rfl) dX6_fitsAngle_92 (by rw [bi_f (c := fitA R i c = true) (by intro h9; simp only [fitA, Bool.and_eq_true, decide_eq_true_eq] at h9; omega)]) (rfl)
  · skip
    refine g_iload cx dX6_fitsAngle_57 rfl ?_
    refine g_iload_n cx dX6_fitsAngle_59 rfl ?_
    refine g_fcallS (As := [vi (nI (R.2.1 (bf R.1 i))), vi (nI c)]) (rest := []) cx knX6_on (m_on (a := R.2.1 (bf R.1 i)) (c := c) ((r4 (bf R.1 i) (by omega)).2) (by omega)) lmX6_54 nsX6_on rfl (by decide) (Nat.le_of_ble_eq_true rfl) rfl dX6_fitsAngle_60 ?_
    refine g_aload_n cx dX6_fitsAngle_63 rfl ?_
    refine g_getR (i := (30, 0)) (ci := 6) (k := 17) (j := (39, 0)) cx a30_0 rfl rfl rfl (by decide) inX6 lfX6_39 dX6_fitsAngle_64 ?_
    refine g_iload_n cx dX6_fitsAngle_67 rfl ?_
    refine g_ialdN (i := (39, 0)) (j := bf R.1 i) (v := nI (R.2.2.1 (bf R.1 i))) cx a39_0 rfl (rfl) (by omega) (by decide) dX6_fitsAngle_68 ((r5 (bf R.1 i) (by omega)).1) ?_
    refine g_icmp_leN (tgt := 91) cx dX6_fitsAngle_69 (by decide) (by omega) (by omega) (fun h_69 => ?_) (fun h_69 => ?_)
    · skip
      refine g_iconst (v := nI 0) cx dX6_fitsAngle_91 (by decide) ?_
      exact g_fret cx rq rfl (by rfl) dX6_fitsAngle_92 (by rw [bi_f (c := fitA R i c = true) (by intro h9; simp only [fitA, Bool.and_eq_true, decide_eq_true_eq] at h9; omega)]) (rfl)
    · skip
      refine g_iload_n cx dX6_fitsAngle_72 rfl ?_
      refine g_iload cx dX6_fitsAngle_73 rfl ?_
      refine g_fcallS (As := [vi (nI c), vi (nI (R.2.1 (nx R.1 i)))]) (rest := []) cx knX6_on (m_on (a := c) (c := R.2.1 (nx R.1 i)) (by omega) ((r4 (nx R.1 i) (by omega)).2)) lmX6_54 nsX6_on rfl (by decide) (Nat.le_of_ble_eq_true rfl) rfl dX6_fitsAngle_75 ?_
      refine g_aload_n cx dX6_fitsAngle_78 rfl ?_
      refine g_getR (i := (30, 0)) (ci := 6) (k := 17) (j := (39, 0)) cx a30_0 rfl rfl rfl (by decide) inX6 lfX6_39 dX6_fitsAngle_79 ?_
      refine g_iload_n cx dX6_fitsAngle_82 rfl ?_
      refine g_ialdN (i := (39, 0)) (j := i) (v := nI (R.2.2.1 i)) cx a39_0 rfl (rfl) (by omega) (by decide) dX6_fitsAngle_83 ((r5 i (by omega)).1) ?_
      refine g_icmp_leN (tgt := 91) cx dX6_fitsAngle_84 (by decide) (by omega) (by omega) (fun h_84 => ?_) (fun h_84 => ?_)
      · skip
        refine g_iconst (v := nI 0) cx dX6_fitsAngle_91 (by decide) ?_
        exact g_fret cx rq rfl (by rfl) dX6_fitsAngle_92 (by rw [bi_f (c := fitA R i c = true) (by intro h9; simp only [fitA, Bool.and_eq_true, decide_eq_true_eq] at h9; omega)]) (rfl)
      · skip
        refine g_iconst (v := nI 1) cx dX6_fitsAngle_87 (by decide) ?_
        refine g_goto (tgt := 92) cx dX6_fitsAngle_88 (by decide) ?_
        exact g_fret cx rq rfl (by rfl) dX6_fitsAngle_92 (by rw [bi_t (c := fitA R i c = true) (by simp [fitA, h_54, h_69, h_84])]) (rfl)

set_option maxRecDepth 100000 in
set_option maxHeartbeats 4000000 in
theorem m_isNewDoor {E : Wd} {R : RS} (hRD : RDm E R) {v : Nat} (hv7 : v < 72) : Fok mX6_isNewDoor idsA 1 [vr (30, 0), vi (nI v)] E (some (vi (if newD R v = true then 1 else 0))) E := by
  obtain ⟨r1, r2, r3, r4, r5, r6, r7, r8, r9, r10⟩ := id hRD
  refine Mok.of (L := [some (vr (30, 0)), some (vi (nI v)), none, none]) rfl (fun _ => Nat.le_of_ble_eq_true rfl) (fun _ => rfl) (fun X cx rq => ?_)
  refine g_iload_n cx dX6_isNewDoor_0 rfl ?_
  refine g_i2l cx dX6_isNewDoor_1 ?_
  refine g_lconst (v := 0) cx dX6_isNewDoor_2 (by decide) ?_
  refine g_ldc2 (v := 71) cx lcX6_114 dX6_isNewDoor_3 ?_
  refine g_fcallS (As := [vl ((nI v).toInt64), vl 0, vl 71]) (rest := []) cx knX6_in (m_in (nI v).toInt64 0 71) lmX6_60 nsX6_in rfl (by decide) (Nat.le_of_ble_eq_true rfl) rfl dX6_isNewDoor_6 ?_
  refine g_top (bi_iff (in_iff0 (n := 72) (by decide) (by decide) (by decide))) ?_
  refine g_if_eqB (tgt := 24) cx dX6_isNewDoor_9 (by decide) (fun h_9 => ?_) (fun h_9 => ?_)
  · skip
    exact absurd (lt0_of hv7 (by decide)) h_9
  · skip
    refine g_aload_n cx dX6_isNewDoor_12 rfl ?_
    refine g_getIN (i := (30, 0)) (ci := 6) (k := 19) (v := nI R.2.2.2.1) cx a30_0 rfl rfl rfl (by decide) inX6 lfX6_116 dX6_isNewDoor_13 (r7) ?_
    refine g_iconst (v := nI 3) cx dX6_isNewDoor_16 (by decide) ?_
    refine g_icmp_geN (tgt := 24) cx dX6_isNewDoor_17 (by decide) (by omega) (by omega) (fun h_17 => ?_) (fun h_17 => ?_)
    · skip
      refine g_iconst (v := nI 0) cx dX6_isNewDoor_24 (by decide) ?_
      refine g_istore_n (L' := [some (vr (30, 0)), some (vi (nI v)), some (vi (nI 0)), none]) cx dX6_isNewDoor_25 (by decide) rfl rfl ?_
      refine g_iconst (v := nI 0) cx dX6_isNewDoor_26 (by decide) ?_
      refine g_istore_n (L' := [some (vr (30, 0)), some (vi (nI v)), some (vi (nI 0)), some (vi (nI 0))]) cx dX6_isNewDoor_27 (by decide) rfl rfl ?_
      refine g_loc (L' := [some (vr (30, 0)), some (vi (nI v)), some (vi (if ((decide (v < 72) && decide (R.2.2.2.1 < 3)) && !anyB (fun j => decide (R.2.2.2.2.1 j = v)) 0) = true then 1 else 0)), some (vi (nI 0))]) (by rw [bi_f (c := ((decide (v < 72) && decide (R.2.2.2.1 < 3)) && !anyB (fun j => decide (R.2.2.2.2.1 j = v)) 0) = true) (by simp [anyB, h_17])]) ?_
      have lp : ∀ (fu : Nat) (q : Nat), R.2.2.2.1 - q < fu → (q ≤ R.2.2.2.1) → Gk X mX6_isNewDoor idsA 28 [some (vr (30, 0)), some (vi (nI v)), some (vi (if ((decide (v < 72) && decide (R.2.2.2.1 < 3)) && !anyB (fun j => decide (R.2.2.2.2.1 j = v)) q) = true then 1 else 0)), some (vi (nI q))] [] E := by
        intro fu
        induction fu with
        | zero => intro q hfu; exact absurd hfu (Nat.not_lt_zero _)
        | succ fu ih =>
          intro q hfu hq
          refine g_iload_n cx dX6_isNewDoor_28 rfl ?_
          refine g_aload_n cx dX6_isNewDoor_29 rfl ?_
          refine g_getIN (i := (30, 0)) (ci := 6) (k := 19) (v := nI R.2.2.2.1) cx a30_0 rfl rfl rfl (by decide) inX6 lfX6_116 dX6_isNewDoor_30 (r7) ?_
          refine g_icmp_geN (tgt := 62) cx dX6_isNewDoor_33 (by decide) (by omega) (by omega) (fun h_33 => ?_) (fun h_33 => ?_)
          · skip
            have e9 : q = R.2.2.2.1 := by omega
            refine g_iload_n cx dX6_isNewDoor_62 rfl ?_
            exact g_fret cx rq rfl (bi_nar _) dX6_isNewDoor_63 (by rw [e9]; rfl) (rfl)
          · skip
            refine g_iload_n cx dX6_isNewDoor_36 rfl ?_
            refine g_if_eqB (tgt := 54) cx dX6_isNewDoor_37 (by decide) (fun h_37 => ?_) (fun h_37 => ?_)
            · skip
              refine g_iconst (v := nI 0) cx dX6_isNewDoor_54 (by decide) ?_
              refine g_istore_n (L' := [some (vr (30, 0)), some (vi (nI v)), some (vi (nI 0)), some (vi (nI q))]) cx dX6_isNewDoor_55 (by decide) rfl rfl ?_
              refine g_loc (L' := [some (vr (30, 0)), some (vi (nI v)), some (vi (if ((decide (v < 72) && decide (R.2.2.2.1 < 3)) && !anyB (fun j => decide (R.2.2.2.2.1 j = v)) (q + 1)) = true then 1 else 0)), some (vi (nI q))]) (by rw [bi_f (c := ((decide (v < 72) && decide (R.2.2.2.1 < 3)) && !anyB (fun j => decide (R.2.2.2.2.1 j = v)) (q + 1)) = true) (nd_f1 h_37)]) ?_
              refine g_iincN (L' := [some (vr (30, 0)), some (vi (nI v)), some (vi (if ((decide (v < 72) && decide (R.2.2.2.1 < 3)) && !anyB (fun j => decide (R.2.2.2.2.1 j = v)) (q + 1)) = true then 1 else 0)), some (vi (nI (q + 1)))]) cx dX6_isNewDoor_56 rfl (by decide) rfl rfl ?_
              refine g_goto (tgt := 28) cx dX6_isNewDoor_59 (by decide) ?_
              exact ih (q + 1) (by omega) (by omega)
            · skip
              refine g_aload_n cx dX6_isNewDoor_40 rfl ?_
              refine g_getR (i := (30, 0)) (ci := 6) (k := 18) (j := (40, 0)) cx a30_0 rfl rfl rfl (by decide) inX6 lfX6_42 dX6_isNewDoor_41 ?_
              refine g_iload_n cx dX6_isNewDoor_44 rfl ?_
              refine g_ialdN (i := (40, 0)) (j := q) (v := nI (R.2.2.2.2.1 q)) cx a40_0 rfl (rfl) (by omega) (by decide) dX6_isNewDoor_45 ((r8 q (by omega)).1) ?_
              refine g_iload_n cx dX6_isNewDoor_46 rfl ?_
              have hd7 := (r8 q (by omega)).2
              refine g_icmp_eqN (tgt := 54) cx dX6_isNewDoor_47 (by decide) (by omega) (by omega) (fun h_47 => ?_) (fun h_47 => ?_)
              · skip
                refine g_iconst (v := nI 0) cx dX6_isNewDoor_54 (by decide) ?_
                refine g_istore_n (L' := [some (vr (30, 0)), some (vi (nI v)), some (vi (nI 0)), some (vi (nI q))]) cx dX6_isNewDoor_55 (by decide) rfl rfl ?_
                refine g_loc (L' := [some (vr (30, 0)), some (vi (nI v)), some (vi (if ((decide (v < 72) && decide (R.2.2.2.1 < 3)) && !anyB (fun j => decide (R.2.2.2.2.1 j = v)) (q + 1)) = true then 1 else 0)), some (vi (nI q))]) (by rw [bi_f (c := ((decide (v < 72) && decide (R.2.2.2.1 < 3)) && !anyB (fun j => decide (R.2.2.2.2.1 j = v)) (q + 1)) = true) (nd_f2 (by simpa using h_47))]) ?_
                refine g_iincN (L' := [some (vr (30, 0)), some (vi (nI v)), some (vi (if ((decide (v < 72) && decide (R.2.2.2.1 < 3)) && !anyB (fun j => decide (R.2.2.2.2.1 j = v)) (q + 1)) = true then 1 else 0)), some (vi (nI (q + 1)))]) cx dX6_isNewDoor_56 rfl (by decide) rfl rfl ?_
                refine g_goto (tgt := 28) cx dX6_isNewDoor_59 (by decide) ?_
                exact ih (q + 1) (by omega) (by omega)
              · skip
                refine g_iconst (v := nI 1) cx dX6_isNewDoor_50 (by decide) ?_
                refine g_goto (tgt := 55) cx dX6_isNewDoor_51 (by decide) ?_
                refine g_istore_n (L' := [some (vr (30, 0)), some (vi (nI v)), some (vi (nI 1)), some (vi (nI q))]) cx dX6_isNewDoor_55 (by decide) rfl rfl ?_
                refine g_loc (L' := [some (vr (30, 0)), some (vi (nI v)), some (vi (if ((decide (v < 72) && decide (R.2.2.2.1 < 3)) && !anyB (fun j => decide (R.2.2.2.2.1 j = v)) (q + 1)) = true then 1 else 0)), some (vi (nI q))]) (by rw [bi_t (c := ((decide (v < 72) && decide (R.2.2.2.1 < 3)) && !anyB (fun j => decide (R.2.2.2.2.1 j = v)) (q + 1)) = true) (nd_t h_37 (by simpa using h_47))]) ?_
                refine g_iincN (L' := [some (vr (30, 0)), some (vi (nI v)), some (vi (if ((decide (v < 72) && decide (R.2.2.2.1 < 3)) && !anyB (fun j => decide (R.2.2.2.2.1 j = v)) (q + 1)) = true then 1 else 0)), some (vi (nI (q + 1)))]) cx dX6_isNewDoor_56 rfl (by decide) rfl rfl ?_
                refine g_goto (tgt := 28) cx dX6_isNewDoor_59 (by decide) ?_
                exact ih (q + 1) (by omega) (by omega)
      exact lp (R.2.2.2.1 + 1) 0 (by omega) (by omega)
    · skip
      refine g_iconst (v := nI 1) cx dX6_isNewDoor_20 (by decide) ?_
      refine g_goto (tgt := 25) cx dX6_isNewDoor_21 (by decide) ?_
      refine g_istore_n (L' := [some (vr (30, 0)), some (vi (nI v)), some (vi (nI 1)), none]) cx dX6_isNewDoor_25 (by decide) rfl rfl ?_
      refine g_iconst (v := nI 0) cx dX6_isNewDoor_26 (by decide) ?_
      refine g_istore_n (L' := [some (vr (30, 0)), some (vi (nI v)), some (vi (nI 1)), some (vi (nI 0))]) cx dX6_isNewDoor_27 (by decide) rfl rfl ?_
      refine g_loc (L' := [some (vr (30, 0)), some (vi (nI v)), some (vi (if ((decide (v < 72) && decide (R.2.2.2.1 < 3)) && !anyB (fun j => decide (R.2.2.2.2.1 j = v)) 0) = true then 1 else 0)), some (vi (nI 0))]) (by rw [bi_t (c := ((decide (v < 72) && decide (R.2.2.2.1 < 3)) && !anyB (fun j => decide (R.2.2.2.2.1 j = v)) 0) = true) (by simp [anyB, hv7, h_17])]) ?_
      have lp : ∀ (fu : Nat) (q : Nat), R.2.2.2.1 - q < fu → (q ≤ R.2.2.2.1) → Gk X mX6_isNewDoor idsA 28 [some (vr (30, 0)), some (vi (nI v)), some (vi (if ((decide (v < 72) && decide (R.2.2.2.1 < 3)) && !anyB (fun j => decide (R.2.2.2.2.1 j = v)) q) = true then 1 else 0)), some (vi (nI q))] [] E := by
        intro fu
        induction fu with
        | zero => intro q hfu; exact absurd hfu (Nat.not_lt_zero _)
        | succ fu ih =>
          intro q hfu hq
          refine g_iload_n cx dX6_isNewDoor_28 rfl ?_
          refine g_aload_n cx dX6_isNewDoor_29 rfl ?_
          refine g_getIN (i := (30, 0)) (ci := 6) (k := 19) (v := nI R.2.2.2.1) cx a30_0 rfl rfl rfl (by decide) inX6 lfX6_116 dX6_isNewDoor_30 (r7) ?_
          refine g_icmp_geN (tgt := 62) cx dX6_isNewDoor_33 (by decide) (by omega) (by omega) (fun h_33 => ?_) (fun h_33 => ?_)
          · skip
            have e9 : q = R.2.2.2.1 := by omega
            refine g_iload_n cx dX6_isNewDoor_62 rfl ?_
            exact g_fret cx rq rfl (bi_nar _) dX6_isNewDoor_63 (by rw [e9]; rfl) (rfl)
          · skip
            refine g_iload_n cx dX6_isNewDoor_36 rfl ?_
            refine g_if_eqB (tgt := 54) cx dX6_isNewDoor_37 (by decide) (fun h_37 => ?_) (fun h_37 => ?_)
            · skip
              refine g_iconst (v := nI 0) cx dX6_isNewDoor_54 (by decide) ?_
              refine g_istore_n (L' := [some (vr (30, 0)), some (vi (nI v)), some (vi (nI 0)), some (vi (nI q))]) cx dX6_isNewDoor_55 (by decide) rfl rfl ?_
              refine g_loc (L' := [some (vr (30, 0)), some (vi (nI v)), some (vi (if ((decide (v < 72) && decide (R.2.2.2.1 < 3)) && !anyB (fun j => decide (R.2.2.2.2.1 j = v)) (q + 1)) = true then 1 else 0)), some (vi (nI q))]) (by rw [bi_f (c := ((decide (v < 72) && decide (R.2.2.2.1 < 3)) && !anyB (fun j => decide (R.2.2.2.2.1 j = v)) (q + 1)) = true) (nd_f1 h_37)]) ?_
              refine g_iincN (L' := [some (vr (30, 0)), some (vi (nI v)), some (vi (if ((decide (v < 72) && decide (R.2.2.2.1 < 3)) && !anyB (fun j => decide (R.2.2.2.2.1 j = v)) (q + 1)) = true then 1 else 0)), some (vi (nI (q + 1)))]) cx dX6_isNewDoor_56 rfl (by decide) rfl rfl ?_
              refine g_goto (tgt := 28) cx dX6_isNewDoor_59 (by decide) ?_
              exact ih (q + 1) (by omega) (by omega)
            · skip
              refine g_aload_n cx dX6_isNewDoor_40 rfl ?_
              refine g_getR (i := (30, 0)) (ci := 6) (k := 18) (j := (40, 0)) cx a30_0 rfl rfl rfl (by decide) inX6 lfX6_42 dX6_isNewDoor_41 ?_
              refine g_iload_n cx dX6_isNewDoor_44 rfl ?_
              refine g_ialdN (i := (40, 0)) (j := q) (v := nI (R.2.2.2.2.1 q)) cx a40_0 rfl (rfl) (by omega) (by decide) dX6_isNewDoor_45 ((r8 q (by omega)).1) ?_
              refine g_iload_n cx dX6_isNewDoor_46 rfl ?_
              have hd7 := (r8 q (by omega)).2
              refine g_icmp_eqN (tgt := 54) cx dX6_isNewDoor_47 (by decide) (by omega) (by omega) (fun h_47 => ?_) (fun h_47 => ?_)
              · skip
                refine g_iconst (v := nI 0) cx dX6_isNewDoor_54 (by decide) ?_
                refine g_istore_n (L' := [some (vr (30, 0)), some (vi (nI v)), some (vi (nI 0)), some (vi (nI q))]) cx dX6_isNewDoor_55 (by decide) rfl rfl ?_
                refine g_loc (L' := [some (vr (30, 0)), some (vi (nI v)), some (vi (if ((decide (v < 72) && decide (R.2.2.2.1 < 3)) && !anyB (fun j => decide (R.2.2.2.2.1 j = v)) (q + 1)) = true then 1 else 0)), some (vi (nI q))]) (by rw [bi_f (c := ((decide (v < 72) && decide (R.2.2.2.1 < 3)) && !anyB (fun j => decide (R.2.2.2.2.1 j = v)) (q + 1)) = true) (nd_f2 (by simpa using h_47))]) ?_
                refine g_iincN (L' := [some (vr (30, 0)), some (vi (nI v)), some (vi (if ((decide (v < 72) && decide (R.2.2.2.1 < 3)) && !anyB (fun j => decide (R.2.2.2.2.1 j = v)) (q + 1)) = true then 1 else 0)), some (vi (nI (q + 1)))]) cx dX6_isNewDoor_56 rfl (by decide) rfl rfl ?_
                refine g_goto (tgt := 28) cx dX6_isNewDoor_59 (by decide) ?_
                exact ih (q + 1) (by omega) (by omega)
              · skip
                refine g_iconst (v := nI 1) cx dX6_isNewDoor_50 (by decide) ?_
                refine g_goto (tgt := 55) cx dX6_isNewDoor_51 (by decide) ?_
                refine g_istore_n (L' := [some (vr (30, 0)), some (vi (nI v)), some (vi (nI 1)), some (vi (nI q))]) cx dX6_isNewDoor_55 (by decide) rfl rfl ?_
                refine g_loc (L' := [some (vr (30, 0)), some (vi (nI v)), some (vi (if ((decide (v < 72) && decide (R.2.2.2.1 < 3)) && !anyB (fun j => decide (R.2.2.2.2.1 j = v)) (q + 1)) = true then 1 else 0)), some (vi (nI q))]) (by rw [bi_t (c := ((decide (v < 72) && decide (R.2.2.2.1 < 3)) && !anyB (fun j => decide (R.2.2.2.2.1 j = v)) (q + 1)) = true) (nd_t h_37 (by simpa using h_47))]) ?_
                refine g_iincN (L' := [some (vr (30, 0)), some (vi (nI v)), some (vi (if ((decide (v < 72) && decide (R.2.2.2.1 < 3)) && !anyB (fun j => decide (R.2.2.2.2.1 j = v)) (q + 1)) = true then 1 else 0)), some (vi (nI (q + 1)))]) cx dX6_isNewDoor_56 rfl (by decide) rfl rfl ?_
                refine g_goto (tgt := 28) cx dX6_isNewDoor_59 (by decide) ?_
                exact ih (q + 1) (by omega) (by omega)
      exact lp (R.2.2.2.1 + 1) 0 (by omega) (by omega)

set_option maxRecDepth 100000 in
set_option maxHeartbeats 4000000 in
theorem m_isNewDoor_n {E : Wd} {R : RS} (hRD : RDm E R) {x : Int32} (hx : ¬ lt0 x 72 = true) : Fok mX6_isNewDoor idsA 1 [vr (30, 0), vi x] E (some (vi (nI 0))) E := by
  obtain ⟨r1, r2, r3, r4, r5, r6, r7, r8, r9, r10⟩ := id hRD
  refine Mok.of (L := [some (vr (30, 0)), some (vi x), none, none]) rfl (fun _ => Nat.le_of_ble_eq_true rfl) (fun _ => rfl) (fun X cx rq => ?_)
  refine g_iload_n cx dX6_isNewDoor_0 rfl ?_
  refine g_i2l cx dX6_isNewDoor_1 ?_
  refine g_lconst (v := 0) cx dX6_isNewDoor_2 (by decide) ?_
  refine g_ldc2 (v := 71) cx lcX6_114 dX6_isNewDoor_3 ?_
  refine g_fcallS (As := [vl x.toInt64, vl 0, vl 71]) (rest := []) cx knX6_in (m_in x.toInt64 0 71) lmX6_60 nsX6_in rfl (by decide) (Nat.le_of_ble_eq_true rfl) rfl dX6_isNewDoor_6 ?_
  refine g_top (bi_iff (in_iff0 (n := 72) (by decide) (by decide) (by decide))) ?_
  refine g_if_eqB (tgt := 24) cx dX6_isNewDoor_9 (by decide) (fun h_9 => ?_) (fun h_9 => ?_)
  · skip
    refine g_iconst (v := nI 0) cx dX6_isNewDoor_24 (by decide) ?_
    refine g_istore_n (L' := [some (vr (30, 0)), some (vi x), some (vi (nI 0)), none]) cx dX6_isNewDoor_25 (by decide) rfl rfl ?_
    refine g_iconst (v := nI 0) cx dX6_isNewDoor_26 (by decide) ?_
    refine g_istore_n (L' := [some (vr (30, 0)), some (vi x), some (vi (nI 0)), some (vi (nI 0))]) cx dX6_isNewDoor_27 (by decide) rfl rfl ?_
    have lp : ∀ (fu : Nat) (q : Nat), R.2.2.2.1 - q < fu → (q ≤ R.2.2.2.1) → Gk X mX6_isNewDoor idsA 28 [some (vr (30, 0)), some (vi x), some (vi (nI 0)), some (vi (nI q))] [] E := by
      intro fu
      induction fu with
      | zero => intro q hfu; exact absurd hfu (Nat.not_lt_zero _)
      | succ fu ih =>
        intro q hfu hq
        refine g_iload_n cx dX6_isNewDoor_28 rfl ?_
        refine g_aload_n cx dX6_isNewDoor_29 rfl ?_
        refine g_getIN (i := (30, 0)) (ci := 6) (k := 19) (v := nI R.2.2.2.1) cx a30_0 rfl rfl rfl (by decide) inX6 lfX6_116 dX6_isNewDoor_30 (r7) ?_
        refine g_icmp_geN (tgt := 62) cx dX6_isNewDoor_33 (by decide) (by omega) (by omega) (fun h_33 => ?_) (fun h_33 => ?_)
        · skip
          have e9 : q = R.2.2.2.1 := by omega
          refine g_iload_n cx dX6_isNewDoor_62 rfl ?_
          exact g_fret cx rq rfl (by rfl) dX6_isNewDoor_63 (rfl) (rfl)
        · skip
          refine g_iload_n cx dX6_isNewDoor_36 rfl ?_
          refine g_if_eqN (tgt := 54) cx dX6_isNewDoor_37 (by decide) (by omega) (fun h_37 => ?_) (fun h_37 => ?_)
          · skip
            refine g_iconst (v := nI 0) cx dX6_isNewDoor_54 (by decide) ?_
            refine g_istore_n (L' := [some (vr (30, 0)), some (vi x), some (vi (nI 0)), some (vi (nI q))]) cx dX6_isNewDoor_55 (by decide) rfl rfl ?_
            refine g_iincN (L' := [some (vr (30, 0)), some (vi x), some (vi (nI 0)), some (vi (nI (q + 1)))]) cx dX6_isNewDoor_56 rfl (by decide) rfl rfl ?_
            refine g_goto (tgt := 28) cx dX6_isNewDoor_59 (by decide) ?_
            exact ih (q + 1) (by omega) (by omega)
          · skip
            exact absurd rfl h_37
    exact lp (R.2.2.2.1 + 1) 0 (by omega) (by omega)
  · skip
    exact absurd h_9 hx

set_option maxRecDepth 100000 in
set_option maxHeartbeats 4000000 in
theorem m_readsLeaf_y {D E : Wd} {t : Nat → Nat} {len : Nat} {R : RS} {m : Nat} {rc : Nat → Nat × Nat} {p e : Nat} (hR : RK D E t len R m rc p e) (hm11 : m ≤ 11) {a c : Nat} (hy1 : NumY t len 0 (R.1 - 1) p e a) (hy2 : NumY t len 0 71 (tkP t len e) (tkE t len (tkP t len e)) c) (hfit : fitA R a c = true) : Mok mX6_readsLeaf idsA 3 [vr (30, 0)] E (fun r' E' => r' = (some (vi (nI 1))) ∧ (RK D E' t len R m rc (tkP t len (tkE t len (tkP t len e))) (tkE t len (tkP t len (tkE t len (tkP t len e)))) ∧ E' (34, 0) (3 * m) = E (34, 0) (3 * m) ∧ E' (34, 0) (3 * m + 1) = nI a ∧ E' (34, 0) (3 * m + 2) = nI c)) := by
  obtain ⟨hX, ⟨h12, h13, h14⟩, hT, hRD, ⟨h5, hm12⟩, hRC, hFR⟩ := id hR
  obtain ⟨r1, r2, r3, r4, r5, r6, r7, r8, r9, r10⟩ := id hRD
  have hyl := hy1.2.2
  have hnl : R.1 - 1 < R.1 := by omega
  have hc7 := hy2.2.2
  refine Mok.of (L := [some (vr (30, 0)), none, none]) rfl (fun _ => Nat.le_of_ble_eq_true rfl) (fun _ => rfl) (fun X cx rq => ?_)
  refine g_aload_n cx dX6_readsLeaf_0 rfl ?_
  refine g_iconst (v := nI 0) cx dX6_readsLeaf_1 (by decide) ?_
  refine g_iconst (v := nI 0) cx dX6_readsLeaf_2 (by decide) ?_
  refine g_aload_n cx dX6_readsLeaf_3 rfl ?_
  refine g_getIN (i := (30, 0)) (ci := 6) (k := 15) (v := nI R.1) cx a30_0 rfl rfl rfl (by decide) inX6 lfX6_108 dX6_readsLeaf_4 (r3) ?_
  refine g_iconst (v := nI 1) cx dX6_readsLeaf_7 (by decide) ?_
  refine g_isubN cx dX6_readsLeaf_8 (by omega) ?_
  refine g_callV (As := [vi (nI 0), vi (nI 0), vi (nI (R.1 - 1))]) (rest := []) cx knX6_reads (m_reads_y hR hm11 (k := 0) (lo := 0) (hi := R.1 - 1) (v := a) (by omega) (by omega) (by omega) hy1.1 hy1.2.1 hy1.2.2) a30_0 rfl rfl lmX6_119 niX6_reads seX6_reads rfl (by decide) (Nat.le_of_ble_eq_true rfl) rfl dX6_readsLeaf_9 (fun r0 E1 hp0 => ?_)
  obtain ⟨rfl, hR1, hE1⟩ := hp0
  show Gk X mX6_readsLeaf idsA 12 [some (vr (30, 0)), none, none] [vi (nI 1)] E1
  refine g_if_neN (tgt := 17) cx dX6_readsLeaf_12 (by decide) (by omega) (fun h_12 => ?_) (fun h_12 => ?_)
  · skip
    refine g_aload_n cx dX6_readsLeaf_17 rfl ?_
    refine g_getR (i := (30, 0)) (ci := 6) (k := 4) (j := (34, 0)) cx a30_0 rfl rfl rfl (by decide) inX6 lfX6_20 dX6_readsLeaf_18 ?_
    refine g_iconst (v := nI 3) cx dX6_readsLeaf_21 (by decide) ?_
    refine g_aload_n cx dX6_readsLeaf_22 rfl ?_
    refine g_getIN (i := (30, 0)) (ci := 6) (k := 5) (v := nI m) cx a30_0 rfl rfl rfl (by decide) inX6 lfX6_102 dX6_readsLeaf_23 (hR1.2.2.2.2.1.1) ?_
    refine g_imulN cx dX6_readsLeaf_26 ?_
    refine g_iconst (v := nI 1) cx dX6_readsLeaf_27 (by decide) ?_
    refine g_iaddN cx dX6_readsLeaf_28 ?_
    refine g_ialdN (i := (34, 0)) (j := (3 * m) + 1) (v := nI a) cx a34_0 rfl (rfl) (by omega) (by decide) dX6_readsLeaf_29 (by rw [hE1]; exact upd_at _ _ _) ?_
    refine g_istore_n (L' := [some (vr (30, 0)), some (vi (nI a)), none]) cx dX6_readsLeaf_30 (by decide) rfl rfl ?_
    refine g_aload_n cx dX6_readsLeaf_31 rfl ?_
    refine g_fcallV (As := []) (rest := []) cx knX6_numberHere (m_numberHere hR1.1 hR1.2.1.2.1 hR1.2.1.2.2 hR1.2.2.1) a30_0 rfl rfl lmX6_99 niX6_numberHere seX6_numberHere rfl (by decide) (Nat.le_of_ble_eq_true rfl) rfl dX6_readsLeaf_32 ?_
    refine g_istore_n (L' := [some (vr (30, 0)), some (vi (nI a)), some (vi (opI (nO t len (tkP t len e) (tkE t len (tkP t len e)))))]) cx dX6_readsLeaf_35 (by decide) rfl rfl ?_
    refine g_iload_n cx dX6_readsLeaf_36 rfl ?_
    refine g_i2l cx dX6_readsLeaf_37 ?_
    refine g_lconst (v := 0) cx dX6_readsLeaf_38 (by decide) ?_
    refine g_ldc2 (v := 71) cx lcX6_114 dX6_readsLeaf_39 ?_
    refine g_fcallS (As := [vl ((opI (nO t len (tkP t len e) (tkE t len (tkP t len e)))).toInt64), vl 0, vl 71]) (rest := []) cx knX6_in (m_in ((opI (nO t len (tkP t len e) (tkE t len (tkP t len e)))).toInt64) 0 71) lmX6_60 nsX6_in rfl (by decide) (Nat.le_of_ble_eq_true rfl) rfl dX6_readsLeaf_42 ?_
    refine g_top (bi_iff (in_iff2 (a := 0) (b := 71) (by decide) (by decide) (by decide) (by decide))) ?_
    refine g_if_eqB (tgt := 72) cx dX6_readsLeaf_45 (by decide) (fun h_45 => ?_) (fun h_45 => ?_)
    · skip
      exact absurd ((rng_opI (fun v hv => nO_le hR1.2.2.1 hv)).trans (by rw [hy2.1]; simp [okN, hy2.2.1, hy2.2.2])) h_45
    · skip
      refine g_loc (L' := [some (vr (30, 0)), some (vi (nI a)), some (vi (nI c))]) (by rw [hy2.1]; rfl) ?_
      refine g_aload_n cx dX6_readsLeaf_48 rfl ?_
      refine g_iload_n cx dX6_readsLeaf_49 rfl ?_
      refine g_iload_n cx dX6_readsLeaf_50 rfl ?_
      refine g_fcallV (As := [vi (nI a), vi (nI c)]) (rest := []) cx knX6_fitsAngle (m_fitsAngle hR1.2.2.2.1 (i := a) (c := c) (by omega) (by omega)) a30_0 rfl rfl lmX6_123 niX6_fitsAngle seX6_fitsAngle rfl (by decide) (Nat.le_of_ble_eq_true rfl) rfl dX6_readsLeaf_51 ?_
      refine g_if_eqB (tgt := 72) cx dX6_readsLeaf_54 (by decide) (fun h_54 => ?_) (fun h_54 => ?_)
      · skip
        exact absurd hfit h_54
      · skip
        refine g_aload_n cx dX6_readsLeaf_57 rfl ?_
        refine g_iconst (v := nI 1) cx dX6_readsLeaf_58 (by decide) ?_
        refine g_iconst (v := nI 0) cx dX6_readsLeaf_59 (by decide) ?_
        refine g_bipush (v := nI 71) cx dX6_readsLeaf_60 (by decide) ?_
        refine g_callV (As := [vi (nI 1), vi (nI 0), vi (nI 71)]) (rest := []) cx knX6_reads (m_reads_y hR1 hm11 (k := 1) (lo := 0) (hi := 71) (v := c) (by omega) (by omega) (by omega) hy2.1 hy2.2.1 hy2.2.2) a30_0 rfl rfl lmX6_119 niX6_reads seX6_reads rfl (by decide) (Nat.le_of_ble_eq_true rfl) rfl dX6_readsLeaf_62 (fun r0 E2 hp0 => ?_)
        obtain ⟨rfl, hR2, hE2⟩ := hp0
        show Gk X mX6_readsLeaf idsA 65 [some (vr (30, 0)), some (vi (nI a)), some (vi (nI c))] [vi (nI 1)] E2
        refine g_if_eqN (tgt := 72) cx dX6_readsLeaf_65 (by decide) (by omega) (fun h_65 => ?_) (fun h_65 => ?_)
        · skip
          exact absurd h_65 (by decide)
        · skip
          refine g_iconst (v := nI 1) cx dX6_readsLeaf_68 (by decide) ?_
          refine g_goto (tgt := 73) cx dX6_readsLeaf_69 (by decide) ?_
          exact g_ret cx rq rfl (by rfl) dX6_readsLeaf_73 ⟨rfl, hR2, by rw [hE2, hE1]; exact ⟨upd2_a _ _ _ _, upd2_b _ _ _ _, upd_at _ _ _⟩⟩
  · skip
    exact absurd h_12 (by decide)

set_option maxRecDepth 100000 in
set_option maxHeartbeats 4000000 in
theorem m_readsLeaf_n1 {D E : Wd} {t : Nat → Nat} {len : Nat} {R : RS} {m : Nat} {rc : Nat → Nat × Nat} {p e : Nat} (hR : RK D E t len R m rc p e) (hno : NumN t len 0 (R.1 - 1) p e) : Fok mX6_readsLeaf idsA 3 [vr (30, 0)] E (some (vi (nI 0))) E := by
  obtain ⟨hX, ⟨h12, h13, h14⟩, hT, hRD, ⟨h5, hm12⟩, hRC, hFR⟩ := id hR
  obtain ⟨r1, r2, r3, r4, r5, r6, r7, r8, r9, r10⟩ := id hRD
  refine Mok.of (L := [some (vr (30, 0)), none, none]) rfl (fun _ => Nat.le_of_ble_eq_true rfl) (fun _ => rfl) (fun X cx rq => ?_)
  refine g_aload_n cx dX6_readsLeaf_0 rfl ?_
  refine g_iconst (v := nI 0) cx dX6_readsLeaf_1 (by decide) ?_
  refine g_iconst (v := nI 0) cx dX6_readsLeaf_2 (by decide) ?_
  refine g_aload_n cx dX6_readsLeaf_3 rfl ?_
  refine g_getIN (i := (30, 0)) (ci := 6) (k := 15) (v := nI R.1) cx a30_0 rfl rfl rfl (by decide) inX6 lfX6_108 dX6_readsLeaf_4 (r3) ?_
  refine g_iconst (v := nI 1) cx dX6_readsLeaf_7 (by decide) ?_
  refine g_isubN cx dX6_readsLeaf_8 (by omega) ?_
  refine g_fcallV (As := [vi (nI 0), vi (nI 0), vi (nI (R.1 - 1))]) (rest := []) cx knX6_reads (m_reads_n hR (k := 0) (lo := 0) (hi := R.1 - 1) (by omega) (by omega) hno) a30_0 rfl rfl lmX6_119 niX6_reads seX6_reads rfl (by decide) (Nat.le_of_ble_eq_true rfl) rfl dX6_readsLeaf_9 ?_
  refine g_if_neN (tgt := 17) cx dX6_readsLeaf_12 (by decide) (by omega) (fun h_12 => ?_) (fun h_12 => ?_)
  · skip
    exact absurd rfl h_12
  · skip
    refine g_iconst (v := nI 0) cx dX6_readsLeaf_15 (by decide) ?_
    exact g_fret cx rq rfl (by rfl) dX6_readsLeaf_16 (rfl) (rfl)

set_option maxRecDepth 100000 in
set_option maxHeartbeats 4000000 in
theorem m_readsLeaf_n2 {D E : Wd} {t : Nat → Nat} {len : Nat} {R : RS} {m : Nat} {rc : Nat → Nat × Nat} {p e : Nat} (hR : RK D E t len R m rc p e) (hm11 : m ≤ 11) {a : Nat} (hy1 : NumY t len 0 (R.1 - 1) p e a) (hn2 : NumN t len 0 71 (tkP t len e) (tkE t len (tkP t len e))) : Mok mX6_readsLeaf idsA 3 [vr (30, 0)] E (fun r' E' => r' = (some (vi (nI 0))) ∧ RK D E' t len R m rc (tkP t len e) (tkE t len (tkP t len e))) := by
  obtain ⟨hX, ⟨h12, h13, h14⟩, hT, hRD, ⟨h5, hm12⟩, hRC, hFR⟩ := id hR
  obtain ⟨r1, r2, r3, r4, r5, r6, r7, r8, r9, r10⟩ := id hRD
  have hyl := hy1.2.2
  have hnl : R.1 - 1 < R.1 := by omega
  refine Mok.of (L := [some (vr (30, 0)), none, none]) rfl (fun _ => Nat.le_of_ble_eq_true rfl) (fun _ => rfl) (fun X cx rq => ?_)
  refine g_aload_n cx dX6_readsLeaf_0 rfl ?_
  refine g_iconst (v := nI 0) cx dX6_readsLeaf_1 (by decide) ?_
  refine g_iconst (v := nI 0) cx dX6_readsLeaf_2 (by decide) ?_
  refine g_aload_n cx dX6_readsLeaf_3 rfl ?_
  refine g_getIN (i := (30, 0)) (ci := 6) (k := 15) (v := nI R.1) cx a30_0 rfl rfl rfl (by decide) inX6 lfX6_108 dX6_readsLeaf_4 (r3) ?_
  refine g_iconst (v := nI 1) cx dX6_readsLeaf_7 (by decide) ?_
  refine g_isubN cx dX6_readsLeaf_8 (by omega) ?_
  refine g_callV (As := [vi (nI 0), vi (nI 0), vi (nI (R.1 - 1))]) (rest := []) cx knX6_reads (m_reads_y hR hm11 (k := 0) (lo := 0) (hi := R.1 - 1) (v := a) (by omega) (by omega) (by omega) hy1.1 hy1.2.1 hy1.2.2) a30_0 rfl rfl lmX6_119 niX6_reads seX6_reads rfl (by decide) (Nat.le_of_ble_eq_true rfl) rfl dX6_readsLeaf_9 (fun r0 E1 hp0 => ?_)
  obtain ⟨rfl, hR1, hE1⟩ := hp0
  show Gk X mX6_readsLeaf idsA 12 [some (vr (30, 0)), none, none] [vi (nI 1)] E1
  refine g_if_neN (tgt := 17) cx dX6_readsLeaf_12 (by decide) (by omega) (fun h_12 => ?_) (fun h_12 => ?_)
  · skip
    refine g_aload_n cx dX6_readsLeaf_17 rfl ?_
    refine g_getR (i := (30, 0)) (ci := 6) (k := 4) (j := (34, 0)) cx a30_0 rfl rfl rfl (by decide) inX6 lfX6_20 dX6_readsLeaf_18 ?_
    refine g_iconst (v := nI 3) cx dX6_readsLeaf_21 (by decide) ?_
    refine g_aload_n cx dX6_readsLeaf_22 rfl ?_
    refine g_getIN (i := (30, 0)) (ci := 6) (k := 5) (v := nI m) cx a30_0 rfl rfl rfl (by decide) inX6 lfX6_102 dX6_readsLeaf_23 (hR1.2.2.2.2.1.1) ?_
    refine g_imulN cx dX6_readsLeaf_26 ?_
    refine g_iconst (v := nI 1) cx dX6_readsLeaf_27 (by decide) ?_
    refine g_iaddN cx dX6_readsLeaf_28 ?_
    refine g_ialdN (i := (34, 0)) (j := (3 * m) + 1) (v := nI a) cx a34_0 rfl (rfl) (by omega) (by decide) dX6_readsLeaf_29 (by rw [hE1]; exact upd_at _ _ _) ?_
    refine g_istore_n (L' := [some (vr (30, 0)), some (vi (nI a)), none]) cx dX6_readsLeaf_30 (by decide) rfl rfl ?_
    refine g_aload_n cx dX6_readsLeaf_31 rfl ?_
    refine g_fcallV (As := []) (rest := []) cx knX6_numberHere (m_numberHere hR1.1 hR1.2.1.2.1 hR1.2.1.2.2 hR1.2.2.1) a30_0 rfl rfl lmX6_99 niX6_numberHere seX6_numberHere rfl (by decide) (Nat.le_of_ble_eq_true rfl) rfl dX6_readsLeaf_32 ?_
    refine g_istore_n (L' := [some (vr (30, 0)), some (vi (nI a)), some (vi (opI (nO t len (tkP t len e) (tkE t len (tkP t len e)))))]) cx dX6_readsLeaf_35 (by decide) rfl rfl ?_
    refine g_iload_n cx dX6_readsLeaf_36 rfl ?_
    refine g_i2l cx dX6_readsLeaf_37 ?_
    refine g_lconst (v := 0) cx dX6_readsLeaf_38 (by decide) ?_
    refine g_ldc2 (v := 71) cx lcX6_114 dX6_readsLeaf_39 ?_
    refine g_fcallS (As := [vl ((opI (nO t len (tkP t len e) (tkE t len (tkP t len e)))).toInt64), vl 0, vl 71]) (rest := []) cx knX6_in (m_in ((opI (nO t len (tkP t len e) (tkE t len (tkP t len e)))).toInt64) 0 71) lmX6_60 nsX6_in rfl (by decide) (Nat.le_of_ble_eq_true rfl) rfl dX6_readsLeaf_42 ?_
    refine g_top (bi_iff (in_iff2 (a := 0) (b := 71) (by decide) (by decide) (by decide) (by decide))) ?_
    refine g_if_eqB (tgt := 72) cx dX6_readsLeaf_45 (by decide) (fun h_45 => ?_) (fun h_45 => ?_)
    · skip
      refine g_iconst (v := nI 0) cx dX6_readsLeaf_72 (by decide) ?_
      exact g_ret cx rq rfl (by rfl) dX6_readsLeaf_73 ⟨rfl, hR1⟩
    · skip
      exact absurd ((rng_opI (fun v hv => nO_le hR1.2.2.1 hv)).symm.trans h_45) (by rw [show okN 0 71 _ = false from hn2]; decide)
  · skip
    exact absurd h_12 (by decide)

set_option maxRecDepth 100000 in
set_option maxHeartbeats 4000000 in
theorem m_readsLeaf_n3 {D E : Wd} {t : Nat → Nat} {len : Nat} {R : RS} {m : Nat} {rc : Nat → Nat × Nat} {p e : Nat} (hR : RK D E t len R m rc p e) (hm11 : m ≤ 11) {a c : Nat} (hy1 : NumY t len 0 (R.1 - 1) p e a) (hy2 : NumY t len 0 71 (tkP t len e) (tkE t len (tkP t len e)) c) (hfit : fitA R a c = false) : Mok mX6_readsLeaf idsA 3 [vr (30, 0)] E (fun r' E' => r' = (some (vi (nI 0))) ∧ RK D E' t len R m rc (tkP t len e) (tkE t len (tkP t len e))) := by
  obtain ⟨hX, ⟨h12, h13, h14⟩, hT, hRD, ⟨h5, hm12⟩, hRC, hFR⟩ := id hR
  obtain ⟨r1, r2, r3, r4, r5, r6, r7, r8, r9, r10⟩ := id hRD
  have hyl := hy1.2.2
  have hnl : R.1 - 1 < R.1 := by omega
  have hc7 := hy2.2.2
  refine Mok.of (L := [some (vr (30, 0)), none, none]) rfl (fun _ => Nat.le_of_ble_eq_true rfl) (fun _ => rfl) (fun X cx rq => ?_)
  refine g_aload_n cx dX6_readsLeaf_0 rfl ?_
  refine g_iconst (v := nI 0) cx dX6_readsLeaf_1 (by decide) ?_
  refine g_iconst (v := nI 0) cx dX6_readsLeaf_2 (by decide) ?_
  refine g_aload_n cx dX6_readsLeaf_3 rfl ?_
  refine g_getIN (i := (30, 0)) (ci := 6) (k := 15) (v := nI R.1) cx a30_0 rfl rfl rfl (by decide) inX6 lfX6_108 dX6_readsLeaf_4 (r3) ?_
  refine g_iconst (v := nI 1) cx dX6_readsLeaf_7 (by decide) ?_
  refine g_isubN cx dX6_readsLeaf_8 (by omega) ?_
  refine g_callV (As := [vi (nI 0), vi (nI 0), vi (nI (R.1 - 1))]) (rest := []) cx knX6_reads (m_reads_y hR hm11 (k := 0) (lo := 0) (hi := R.1 - 1) (v := a) (by omega) (by omega) (by omega) hy1.1 hy1.2.1 hy1.2.2) a30_0 rfl rfl lmX6_119 niX6_reads seX6_reads rfl (by decide) (Nat.le_of_ble_eq_true rfl) rfl dX6_readsLeaf_9 (fun r0 E1 hp0 => ?_)
  obtain ⟨rfl, hR1, hE1⟩ := hp0
  show Gk X mX6_readsLeaf idsA 12 [some (vr (30, 0)), none, none] [vi (nI 1)] E1
  refine g_if_neN (tgt := 17) cx dX6_readsLeaf_12 (by decide) (by omega) (fun h_12 => ?_) (fun h_12 => ?_)
  · skip
    refine g_aload_n cx dX6_readsLeaf_17 rfl ?_
    refine g_getR (i := (30, 0)) (ci := 6) (k := 4) (j := (34, 0)) cx a30_0 rfl rfl rfl (by decide) inX6 lfX6_20 dX6_readsLeaf_18 ?_
    refine g_iconst (v := nI 3) cx dX6_readsLeaf_21 (by decide) ?_
    refine g_aload_n cx dX6_readsLeaf_22 rfl ?_
    refine g_getIN (i := (30, 0)) (ci := 6) (k := 5) (v := nI m) cx a30_0 rfl rfl rfl (by decide) inX6 lfX6_102 dX6_readsLeaf_23 (hR1.2.2.2.2.1.1) ?_
    refine g_imulN cx dX6_readsLeaf_26 ?_
    refine g_iconst (v := nI 1) cx dX6_readsLeaf_27 (by decide) ?_
    refine g_iaddN cx dX6_readsLeaf_28 ?_
    refine g_ialdN (i := (34, 0)) (j := (3 * m) + 1) (v := nI a) cx a34_0 rfl (rfl) (by omega) (by decide) dX6_readsLeaf_29 (by rw [hE1]; exact upd_at _ _ _) ?_
    refine g_istore_n (L' := [some (vr (30, 0)), some (vi (nI a)), none]) cx dX6_readsLeaf_30 (by decide) rfl rfl ?_
    refine g_aload_n cx dX6_readsLeaf_31 rfl ?_
    refine g_fcallV (As := []) (rest := []) cx knX6_numberHere (m_numberHere hR1.1 hR1.2.1.2.1 hR1.2.1.2.2 hR1.2.2.1) a30_0 rfl rfl lmX6_99 niX6_numberHere seX6_numberHere rfl (by decide) (Nat.le_of_ble_eq_true rfl) rfl dX6_readsLeaf_32 ?_
    refine g_istore_n (L' := [some (vr (30, 0)), some (vi (nI a)), some (vi (opI (nO t len (tkP t len e) (tkE t len (tkP t len e)))))]) cx dX6_readsLeaf_35 (by decide) rfl rfl ?_
    refine g_iload_n cx dX6_readsLeaf_36 rfl ?_
    refine g_i2l cx dX6_readsLeaf_37 ?_
    refine g_lconst (v := 0) cx dX6_readsLeaf_38 (by decide) ?_
    refine g_ldc2 (v := 71) cx lcX6_114 dX6_readsLeaf_39 ?_
    refine g_fcallS (As := [vl ((opI (nO t len (tkP t len e) (tkE t len (tkP t len e)))).toInt64), vl 0, vl 71]) (rest := []) cx knX6_in (m_in ((opI (nO t len (tkP t len e) (tkE t len (tkP t len e)))).toInt64) 0 71) lmX6_60 nsX6_in rfl (by decide) (Nat.le_of_ble_eq_true rfl) rfl dX6_readsLeaf_42 ?_
    refine g_top (bi_iff (in_iff2 (a := 0) (b := 71) (by decide) (by decide) (by decide) (by decide))) ?_
    refine g_if_eqB (tgt := 72) cx dX6_readsLeaf_45 (by decide) (fun h_45 => ?_) (fun h_45 => ?_)
    · skip
      exact absurd ((rng_opI (fun v hv => nO_le hR1.2.2.1 hv)).trans (by rw [hy2.1]; simp [okN, hy2.2.1, hy2.2.2])) h_45
    · skip
      refine g_loc (L' := [some (vr (30, 0)), some (vi (nI a)), some (vi (nI c))]) (by rw [hy2.1]; rfl) ?_
      refine g_aload_n cx dX6_readsLeaf_48 rfl ?_
      refine g_iload_n cx dX6_readsLeaf_49 rfl ?_
      refine g_iload_n cx dX6_readsLeaf_50 rfl ?_
      refine g_fcallV (As := [vi (nI a), vi (nI c)]) (rest := []) cx knX6_fitsAngle (m_fitsAngle hR1.2.2.2.1 (i := a) (c := c) (by omega) (by omega)) a30_0 rfl rfl lmX6_123 niX6_fitsAngle seX6_fitsAngle rfl (by decide) (Nat.le_of_ble_eq_true rfl) rfl dX6_readsLeaf_51 ?_
      refine g_if_eqB (tgt := 72) cx dX6_readsLeaf_54 (by decide) (fun h_54 => ?_) (fun h_54 => ?_)
      · skip
        refine g_iconst (v := nI 0) cx dX6_readsLeaf_72 (by decide) ?_
        exact g_ret cx rq rfl (by rfl) dX6_readsLeaf_73 ⟨rfl, hR1⟩
      · skip
        exact absurd h_54 (by rw [hfit]; decide)
  · skip
    exact absurd h_12 (by decide)

set_option maxRecDepth 100000 in
set_option maxHeartbeats 4000000 in
theorem m_readsPut_y {D E : Wd} {t : Nat → Nat} {len : Nat} {R : RS} {m : Nat} {rc : Nat → Nat × Nat} {p e : Nat} (hR : RK D E t len R m rc p e) (hm11 : m ≤ 11) {a c : Nat} (hy1 : NumY t len 0 (R.1 - 1) p e a) (hw1 : 1 ≤ onN (R.2.1 a) (R.2.1 (nx R.1 a))) (hy2 : NumY t len 0 (putH R a) (tkP t len e) (tkE t len (tkP t len e)) c) : Mok mX6_readsPut idsA 3 [vr (30, 0)] E (fun r' E' => r' = (some (vi (nI 1))) ∧ (RK D E' t len R m rc (tkP t len (tkE t len (tkP t len e))) (tkE t len (tkP t len (tkE t len (tkP t len e)))) ∧ E' (34, 0) (3 * m) = E (34, 0) (3 * m) ∧ E' (34, 0) (3 * m + 1) = nI a ∧ E' (34, 0) (3 * m + 2) = nI c)) := by
  obtain ⟨hX, ⟨h12, h13, h14⟩, hT, hRD, ⟨h5, hm12⟩, hRC, hFR⟩ := id hR
  obtain ⟨r1, r2, r3, r4, r5, r6, r7, r8, r9, r10⟩ := id hRD
  have hyl := hy1.2.2
  have hnl : R.1 - 1 < R.1 := by omega
  have hnx := nx_lt (n := R.1) (i := a) (by omega)
  have how := onN_lt ((r4 a (by omega)).2) ((r4 (nx R.1 a) hnx).2)
  have hph : putH R a ≤ 20 := by unfold putH; split <;> omega
  refine Mok.of (L := [some (vr (30, 0)), none, none]) rfl (fun _ => Nat.le_of_ble_eq_true rfl) (fun _ => rfl) (fun X cx rq => ?_)
  refine g_aload_n cx dX6_readsPut_0 rfl ?_
  refine g_iconst (v := nI 0) cx dX6_readsPut_1 (by decide) ?_
  refine g_iconst (v := nI 0) cx dX6_readsPut_2 (by decide) ?_
  refine g_aload_n cx dX6_readsPut_3 rfl ?_
  refine g_getIN (i := (30, 0)) (ci := 6) (k := 15) (v := nI R.1) cx a30_0 rfl rfl rfl (by decide) inX6 lfX6_108 dX6_readsPut_4 (r3) ?_
  refine g_iconst (v := nI 1) cx dX6_readsPut_7 (by decide) ?_
  refine g_isubN cx dX6_readsPut_8 (by omega) ?_
  refine g_callV (As := [vi (nI 0), vi (nI 0), vi (nI (R.1 - 1))]) (rest := []) cx knX6_reads (m_reads_y hR hm11 (k := 0) (lo := 0) (hi := R.1 - 1) (v := a) (by omega) (by omega) (by omega) hy1.1 hy1.2.1 hy1.2.2) a30_0 rfl rfl lmX6_119 niX6_reads seX6_reads rfl (by decide) (Nat.le_of_ble_eq_true rfl) rfl dX6_readsPut_9 (fun r0 E1 hp0 => ?_)
  obtain ⟨rfl, hR1, hE1⟩ := hp0
  show Gk X mX6_readsPut idsA 12 [some (vr (30, 0)), none, none] [vi (nI 1)] E1
  refine g_if_neN (tgt := 17) cx dX6_readsPut_12 (by decide) (by omega) (fun h_12 => ?_) (fun h_12 => ?_)
  · skip
    refine g_aload_n cx dX6_readsPut_17 rfl ?_
    refine g_getR (i := (30, 0)) (ci := 6) (k := 4) (j := (34, 0)) cx a30_0 rfl rfl rfl (by decide) inX6 lfX6_20 dX6_readsPut_18 ?_
    refine g_iconst (v := nI 3) cx dX6_readsPut_21 (by decide) ?_
    refine g_aload_n cx dX6_readsPut_22 rfl ?_
    refine g_getIN (i := (30, 0)) (ci := 6) (k := 5) (v := nI m) cx a30_0 rfl rfl rfl (by decide) inX6 lfX6_102 dX6_readsPut_23 (hR1.2.2.2.2.1.1) ?_
    refine g_imulN cx dX6_readsPut_26 ?_
    refine g_iconst (v := nI 1) cx dX6_readsPut_27 (by decide) ?_
    refine g_iaddN cx dX6_readsPut_28 ?_
    refine g_ialdN (i := (34, 0)) (j := (3 * m) + 1) (v := nI a) cx a34_0 rfl (rfl) (by omega) (by decide) dX6_readsPut_29 (by rw [hE1]; exact upd_at _ _ _) ?_
    refine g_istore_n (L' := [some (vr (30, 0)), some (vi (nI a)), none]) cx dX6_readsPut_30 (by decide) rfl rfl ?_
    refine g_aload_n cx dX6_readsPut_31 rfl ?_
    refine g_getR (i := (30, 0)) (ci := 6) (k := 16) (j := (38, 0)) cx a30_0 rfl rfl rfl (by decide) inX6 lfX6_36 dX6_readsPut_32 ?_
    refine g_iload_n cx dX6_readsPut_35 rfl ?_
    refine g_ialdN (i := (38, 0)) (j := a) (v := nI (R.2.1 a)) cx a38_0 rfl (rfl) (by omega) (by decide) dX6_readsPut_36 ((hR1.2.2.2.1.2.2.2.1 a (by omega)).1) ?_
    refine g_aload_n cx dX6_readsPut_37 rfl ?_
    refine g_getR (i := (30, 0)) (ci := 6) (k := 16) (j := (38, 0)) cx a30_0 rfl rfl rfl (by decide) inX6 lfX6_36 dX6_readsPut_38 ?_
    refine g_aload_n cx dX6_readsPut_41 rfl ?_
    refine g_iload_n cx dX6_readsPut_42 rfl ?_
    refine g_fcallV (As := [vi (nI a)]) (rest := [vr (38, 0), vi (nI (R.2.1 a))]) cx knX6_readNext (m_readNext hR1.2.2.2.1 (by omega)) a30_0 rfl rfl lmX6_111 niX6_readNext seX6_readNext rfl (by decide) (Nat.le_of_ble_eq_true rfl) rfl dX6_readsPut_43 ?_
    refine g_ialdN (i := (38, 0)) (j := nx R.1 a) (v := nI (R.2.1 (nx R.1 a))) cx a38_0 rfl (rfl) (by omega) (by decide) dX6_readsPut_46 ((hR1.2.2.2.1.2.2.2.1 (nx R.1 a) (by omega)).1) ?_
    refine g_fcallS (As := [vi (nI (R.2.1 a)), vi (nI (R.2.1 (nx R.1 a)))]) (rest := []) cx knX6_on (m_on ((r4 a (by omega)).2) ((r4 (nx R.1 a) hnx).2)) lmX6_54 nsX6_on rfl (by decide) (Nat.le_of_ble_eq_true rfl) rfl dX6_readsPut_47 ?_
    refine g_istore_n (L' := [some (vr (30, 0)), some (vi (nI a)), some (vi (nI (onN (R.2.1 a) (R.2.1 (nx R.1 a)))))]) cx dX6_readsPut_50 (by decide) rfl rfl ?_
    refine g_aload_n cx dX6_readsPut_51 rfl ?_
    refine g_iconst (v := nI 1) cx dX6_readsPut_52 (by decide) ?_
    refine g_iconst (v := nI 0) cx dX6_readsPut_53 (by decide) ?_
    refine g_iload_n cx dX6_readsPut_54 rfl ?_
    refine g_iconst (v := nI 1) cx dX6_readsPut_55 (by decide) ?_
    refine g_isubN cx dX6_readsPut_56 (by omega) ?_
    refine g_bipush (v := nI 20) cx dX6_readsPut_57 (by decide) ?_
    refine g_icmp_geN (tgt := 68) cx dX6_readsPut_59 (by decide) (by omega) (by omega) (fun h_59 => ?_) (fun h_59 => ?_)
    · skip
      refine g_bipush (v := nI 20) cx dX6_readsPut_68 (by decide) ?_
      refine g_top (y := nI (putH R a)) (by rw [putH, if_neg (by omega)]) ?_
      refine g_callV (As := [vi (nI 1), vi (nI 0), vi (nI (putH R a))]) (rest := []) cx knX6_reads (m_reads_y hR1 hm11 (k := 1) (lo := 0) (hi := putH R a) (v := c) (by omega) (by omega) (by omega) hy2.1 hy2.2.1 hy2.2.2) a30_0 rfl rfl lmX6_119 niX6_reads seX6_reads rfl (by decide) (Nat.le_of_ble_eq_true rfl) rfl dX6_readsPut_70 (fun r0 E2 hp0 => ?_)
      obtain ⟨rfl, hR2, hE2⟩ := hp0
      show Gk X mX6_readsPut idsA 73 [some (vr (30, 0)), some (vi (nI a)), some (vi (nI (onN (R.2.1 a) (R.2.1 (nx R.1 a)))))] [vi (nI 1)] E2
      exact g_ret cx rq rfl (by rfl) dX6_readsPut_73 ⟨rfl, hR2, by rw [hE2, hE1]; exact ⟨upd2_a _ _ _ _, upd2_b _ _ _ _, upd_at _ _ _⟩⟩
    · skip
      refine g_iload_n cx dX6_readsPut_62 rfl ?_
      refine g_iconst (v := nI 1) cx dX6_readsPut_63 (by decide) ?_
      refine g_isubN cx dX6_readsPut_64 (by omega) ?_
      refine g_goto (tgt := 70) cx dX6_readsPut_65 (by decide) ?_
      refine g_top (y := nI (putH R a)) (by rw [putH, if_pos h_59]) ?_
      refine g_callV (As := [vi (nI 1), vi (nI 0), vi (nI (putH R a))]) (rest := []) cx knX6_reads (m_reads_y hR1 hm11 (k := 1) (lo := 0) (hi := putH R a) (v := c) (by omega) (by omega) (by omega) hy2.1 hy2.2.1 hy2.2.2) a30_0 rfl rfl lmX6_119 niX6_reads seX6_reads rfl (by decide) (Nat.le_of_ble_eq_true rfl) rfl dX6_readsPut_70 (fun r0 E2 hp0 => ?_)
      obtain ⟨rfl, hR2, hE2⟩ := hp0
      show Gk X mX6_readsPut idsA 73 [some (vr (30, 0)), some (vi (nI a)), some (vi (nI (onN (R.2.1 a) (R.2.1 (nx R.1 a)))))] [vi (nI 1)] E2
      exact g_ret cx rq rfl (by rfl) dX6_readsPut_73 ⟨rfl, hR2, by rw [hE2, hE1]; exact ⟨upd2_a _ _ _ _, upd2_b _ _ _ _, upd_at _ _ _⟩⟩
  · skip
    exact absurd h_12 (by decide)

set_option maxRecDepth 100000 in
set_option maxHeartbeats 4000000 in
theorem m_readsPut_n1 {D E : Wd} {t : Nat → Nat} {len : Nat} {R : RS} {m : Nat} {rc : Nat → Nat × Nat} {p e : Nat} (hR : RK D E t len R m rc p e) (hno : NumN t len 0 (R.1 - 1) p e) : Fok mX6_readsPut idsA 3 [vr (30, 0)] E (some (vi (nI 0))) E := by
  obtain ⟨hX, ⟨h12, h13, h14⟩, hT, hRD, ⟨h5, hm12⟩, hRC, hFR⟩ := id hR
  obtain ⟨r1, r2, r3, r4, r5, r6, r7, r8, r9, r10⟩ := id hRD
  refine Mok.of (L := [some (vr (30, 0)), none, none]) rfl (fun _ => Nat.le_of_ble_eq_true rfl) (fun _ => rfl) (fun X cx rq => ?_)
  refine g_aload_n cx dX6_readsPut_0 rfl ?_
  refine g_iconst (v := nI 0) cx dX6_readsPut_1 (by decide) ?_
  refine g_iconst (v := nI 0) cx dX6_readsPut_2 (by decide) ?_
  refine g_aload_n cx dX6_readsPut_3 rfl ?_
  refine g_getIN (i := (30, 0)) (ci := 6) (k := 15) (v := nI R.1) cx a30_0 rfl rfl rfl (by decide) inX6 lfX6_108 dX6_readsPut_4 (r3) ?_
  refine g_iconst (v := nI 1) cx dX6_readsPut_7 (by decide) ?_
  refine g_isubN cx dX6_readsPut_8 (by omega) ?_
  refine g_fcallV (As := [vi (nI 0), vi (nI 0), vi (nI (R.1 - 1))]) (rest := []) cx knX6_reads (m_reads_n hR (k := 0) (lo := 0) (hi := R.1 - 1) (by omega) (by omega) hno) a30_0 rfl rfl lmX6_119 niX6_reads seX6_reads rfl (by decide) (Nat.le_of_ble_eq_true rfl) rfl dX6_readsPut_9 ?_
  refine g_if_neN (tgt := 17) cx dX6_readsPut_12 (by decide) (by omega) (fun h_12 => ?_) (fun h_12 => ?_)
  · skip
    exact absurd rfl h_12
  · skip
    refine g_iconst (v := nI 0) cx dX6_readsPut_15 (by decide) ?_
    exact g_fret cx rq rfl (by rfl) dX6_readsPut_16 (rfl) (rfl)

set_option maxRecDepth 100000 in
set_option maxHeartbeats 4000000 in
theorem m_readsPut_n2 {D E : Wd} {t : Nat → Nat} {len : Nat} {R : RS} {m : Nat} {rc : Nat → Nat × Nat} {p e : Nat} (hR : RK D E t len R m rc p e) (hm11 : m ≤ 11) {a : Nat} (hy1 : NumY t len 0 (R.1 - 1) p e a) (hw1 : 1 ≤ onN (R.2.1 a) (R.2.1 (nx R.1 a))) (hn2 : NumN t len 0 (putH R a) (tkP t len e) (tkE t len (tkP t len e))) : Mok mX6_readsPut idsA 3 [vr (30, 0)] E (fun r' E' => r' = (some (vi (nI 0))) ∧ RK D E' t len R m rc (tkP t len e) (tkE t len (tkP t len e))) := by
  obtain ⟨hX, ⟨h12, h13, h14⟩, hT, hRD, ⟨h5, hm12⟩, hRC, hFR⟩ := id hR
  obtain ⟨r1, r2, r3, r4, r5, r6, r7, r8, r9, r10⟩ := id hRD
  have hyl := hy1.2.2
  have hnl : R.1 - 1 < R.1 := by omega
  have hnx := nx_lt (n := R.1) (i := a) (by omega)
  have how := onN_lt ((r4 a (by omega)).2) ((r4 (nx R.1 a) hnx).2)
  have hph : putH R a ≤ 20 := by unfold putH; split <;> omega
  refine Mok.of (L := [some (vr (30, 0)), none, none]) rfl (fun _ => Nat.le_of_ble_eq_true rfl) (fun _ => rfl) (fun X cx rq => ?_)
  refine g_aload_n cx dX6_readsPut_0 rfl ?_
  refine g_iconst (v := nI 0) cx dX6_readsPut_1 (by decide) ?_
  refine g_iconst (v := nI 0) cx dX6_readsPut_2 (by decide) ?_
  refine g_aload_n cx dX6_readsPut_3 rfl ?_
  refine g_getIN (i := (30, 0)) (ci := 6) (k := 15) (v := nI R.1) cx a30_0 rfl rfl rfl (by decide) inX6 lfX6_108 dX6_readsPut_4 (r3) ?_
  refine g_iconst (v := nI 1) cx dX6_readsPut_7 (by decide) ?_
  refine g_isubN cx dX6_readsPut_8 (by omega) ?_
  refine g_callV (As := [vi (nI 0), vi (nI 0), vi (nI (R.1 - 1))]) (rest := []) cx knX6_reads (m_reads_y hR hm11 (k := 0) (lo := 0) (hi := R.1 - 1) (v := a) (by omega) (by omega) (by omega) hy1.1 hy1.2.1 hy1.2.2) a30_0 rfl rfl lmX6_119 niX6_reads seX6_reads rfl (by decide) (Nat.le_of_ble_eq_true rfl) rfl dX6_readsPut_9 (fun r0 E1 hp0 => ?_)
  obtain ⟨rfl, hR1, hE1⟩ := hp0
  show Gk X mX6_readsPut idsA 12 [some (vr (30, 0)), none, none] [vi (nI 1)] E1
  refine g_if_neN (tgt := 17) cx dX6_readsPut_12 (by decide) (by omega) (fun h_12 => ?_) (fun h_12 => ?_)
  · skip
    refine g_aload_n cx dX6_readsPut_17 rfl ?_
    refine g_getR (i := (30, 0)) (ci := 6) (k := 4) (j := (34, 0)) cx a30_0 rfl rfl rfl (by decide) inX6 lfX6_20 dX6_readsPut_18 ?_
    refine g_iconst (v := nI 3) cx dX6_readsPut_21 (by decide) ?_
    refine g_aload_n cx dX6_readsPut_22 rfl ?_
    refine g_getIN (i := (30, 0)) (ci := 6) (k := 5) (v := nI m) cx a30_0 rfl rfl rfl (by decide) inX6 lfX6_102 dX6_readsPut_23 (hR1.2.2.2.2.1.1) ?_
    refine g_imulN cx dX6_readsPut_26 ?_
    refine g_iconst (v := nI 1) cx dX6_readsPut_27 (by decide) ?_
    refine g_iaddN cx dX6_readsPut_28 ?_
    refine g_ialdN (i := (34, 0)) (j := (3 * m) + 1) (v := nI a) cx a34_0 rfl (rfl) (by omega) (by decide) dX6_readsPut_29 (by rw [hE1]; exact upd_at _ _ _) ?_
    refine g_istore_n (L' := [some (vr (30, 0)), some (vi (nI a)), none]) cx dX6_readsPut_30 (by decide) rfl rfl ?_
    refine g_aload_n cx dX6_readsPut_31 rfl ?_
    refine g_getR (i := (30, 0)) (ci := 6) (k := 16) (j := (38, 0)) cx a30_0 rfl rfl rfl (by decide) inX6 lfX6_36 dX6_readsPut_32 ?_
    refine g_iload_n cx dX6_readsPut_35 rfl ?_
    refine g_ialdN (i := (38, 0)) (j := a) (v := nI (R.2.1 a)) cx a38_0 rfl (rfl) (by omega) (by decide) dX6_readsPut_36 ((hR1.2.2.2.1.2.2.2.1 a (by omega)).1) ?_
    refine g_aload_n cx dX6_readsPut_37 rfl ?_
    refine g_getR (i := (30, 0)) (ci := 6) (k := 16) (j := (38, 0)) cx a30_0 rfl rfl rfl (by decide) inX6 lfX6_36 dX6_readsPut_38 ?_
    refine g_aload_n cx dX6_readsPut_41 rfl ?_
    refine g_iload_n cx dX6_readsPut_42 rfl ?_
    refine g_fcallV (As := [vi (nI a)]) (rest := [vr (38, 0), vi (nI (R.2.1 a))]) cx knX6_readNext (m_readNext hR1.2.2.2.1 (by omega)) a30_0 rfl rfl lmX6_111 niX6_readNext seX6_readNext rfl (by decide) (Nat.le_of_ble_eq_true rfl) rfl dX6_readsPut_43 ?_
    refine g_ialdN (i := (38, 0)) (j := nx R.1 a) (v := nI (R.2.1 (nx R.1 a))) cx a38_0 rfl (rfl) (by omega) (by decide) dX6_readsPut_46 ((hR1.2.2.2.1.2.2.2.1 (nx R.1 a) (by omega)).1) ?_
    refine g_fcallS (As := [vi (nI (R.2.1 a)), vi (nI (R.2.1 (nx R.1 a)))]) (rest := []) cx knX6_on (m_on ((r4 a (by omega)).2) ((r4 (nx R.1 a) hnx).2)) lmX6_54 nsX6_on rfl (by decide) (Nat.le_of_ble_eq_true rfl) rfl dX6_readsPut_47 ?_
    refine g_istore_n (L' := [some (vr (30, 0)), some (vi (nI a)), some (vi (nI (onN (R.2.1 a) (R.2.1 (nx R.1 a)))))]) cx dX6_readsPut_50 (by decide) rfl rfl ?_
    refine g_aload_n cx dX6_readsPut_51 rfl ?_
    refine g_iconst (v := nI 1) cx dX6_readsPut_52 (by decide) ?_
    refine g_iconst (v := nI 0) cx dX6_readsPut_53 (by decide) ?_
    refine g_iload_n cx dX6_readsPut_54 rfl ?_
    refine g_iconst (v := nI 1) cx dX6_readsPut_55 (by decide) ?_
    refine g_isubN cx dX6_readsPut_56 (by omega) ?_
    refine g_bipush (v := nI 20) cx dX6_readsPut_57 (by decide) ?_
    refine g_icmp_geN (tgt := 68) cx dX6_readsPut_59 (by decide) (by omega) (by omega) (fun h_59 => ?_) (fun h_59 => ?_)
    · skip
      refine g_bipush (v := nI 20) cx dX6_readsPut_68 (by decide) ?_
      refine g_top (y := nI (putH R a)) (by rw [putH, if_neg (by omega)]) ?_
      refine g_fcallV (As := [vi (nI 1), vi (nI 0), vi (nI (putH R a))]) (rest := []) cx knX6_reads (m_reads_n hR1 (k := 1) (lo := 0) (hi := putH R a) (by omega) (by omega) hn2) a30_0 rfl rfl lmX6_119 niX6_reads seX6_reads rfl (by decide) (Nat.le_of_ble_eq_true rfl) rfl dX6_readsPut_70 ?_
      exact g_ret cx rq rfl (by rfl) dX6_readsPut_73 ⟨rfl, hR1⟩
    · skip
      refine g_iload_n cx dX6_readsPut_62 rfl ?_
      refine g_iconst (v := nI 1) cx dX6_readsPut_63 (by decide) ?_
      refine g_isubN cx dX6_readsPut_64 (by omega) ?_
      refine g_goto (tgt := 70) cx dX6_readsPut_65 (by decide) ?_
      refine g_top (y := nI (putH R a)) (by rw [putH, if_pos h_59]) ?_
      refine g_fcallV (As := [vi (nI 1), vi (nI 0), vi (nI (putH R a))]) (rest := []) cx knX6_reads (m_reads_n hR1 (k := 1) (lo := 0) (hi := putH R a) (by omega) (by omega) hn2) a30_0 rfl rfl lmX6_119 niX6_reads seX6_reads rfl (by decide) (Nat.le_of_ble_eq_true rfl) rfl dX6_readsPut_70 ?_
      exact g_ret cx rq rfl (by rfl) dX6_readsPut_73 ⟨rfl, hR1⟩
  · skip
    exact absurd h_12 (by decide)
