set_option maxRecDepth 100000 in
set_option maxHeartbeats 4000000 in
theorem m_step {D : Wd} {n : Nat} {k f : Nat → Nat} {dn : Nat} {dr : Nat → Nat} {pn : Nat} (hP : PM D n k f dn dr pn) {bs : Nat} {a : Nat → Nat} (hA : AM D bs n a) (hb : bs + 14 ≤ 70) {i s : Nat} (hi : i < n) (hs : s < 2) : Fok mX6_step idsA 4 [vr (30, 0), vi (nI bs), vi (nI i), vi (nI s)] D (some (vi (if 0 < mov n a k f i s then 1 else 0))) (Rw D bs n (stp n a k f i s)) := by
  obtain ⟨hn3, hn8, hN, hK, hF, hd3, hDn, hDr, hp5, hPn⟩ := id hP
  have hb256 : bitsN (inM n (mov n a k f i s) i s) n < 256 := bits256 hn8
  refine Mok.of (L := [some (vr (30, 0)), some (vi (nI bs)), some (vi (nI i)), some (vi (nI s)), none, none]) rfl (fun _ => Nat.le_of_ble_eq_true rfl) (fun _ => rfl) (fun X cx rq => ?_)
  refine g_aload_n cx dX6_step_0 rfl ?_
  refine g_iload_n cx dX6_step_1 rfl ?_
  refine g_iload_n cx dX6_step_2 rfl ?_
  refine g_iload_n cx dX6_step_3 rfl ?_
  refine g_fcallV (As := [vi (nI bs), vi (nI i), vi (nI s)]) (rest := []) cx knX6_chain (m_chain hP hA (by omega) (i := i) (s := s) (by omega) (by omega)) a30_0 rfl rfl lmX6_195 niX6_chain seX6_chain rfl (by decide) (Nat.le_of_ble_eq_true rfl) rfl dX6_step_4 ?_
  refine g_istore (L' := [some (vr (30, 0)), some (vi (nI bs)), some (vi (nI i)), some (vi (nI s)), some (vi (nI (bitsN (inM n (mov n a k f i s) i s) n))), none]) cx dX6_step_7 (by decide) rfl rfl ?_
  refine g_iconst (v := nI 0) cx dX6_step_9 (by decide) ?_
  refine g_istore (L' := [some (vr (30, 0)), some (vi (nI bs)), some (vi (nI i)), some (vi (nI s)), some (vi (nI (bitsN (inM n (mov n a k f i s) i s) n))), some (vi (nI 0))]) cx dX6_step_10 (by decide) rfl rfl ?_
  have lp : ∀ (fu : Nat) (q : Nat), n - q < fu → (q ≤ n) → Gk X mX6_step idsA 12 [some (vr (30, 0)), some (vi (nI bs)), some (vi (nI i)), some (vi (nI s)), some (vi (nI (bitsN (inM n (mov n a k f i s) i s) n))), some (vi (nI q))] [] (Rw D bs q (stp n a k f i s)) := by
    intro fu
    induction fu with
    | zero => intro q hfu; exact absurd hfu (Nat.not_lt_zero _)
    | succ fu ih =>
      intro q hfu hq
      refine g_iload cx dX6_step_12 rfl ?_
      refine g_aload_n cx dX6_step_14 rfl ?_
      refine g_getIN (i := (30, 0)) (ci := 6) (k := 6) (v := nI n) cx a30_0 rfl rfl rfl (by decide) inX6 lfX6_23 dX6_step_15 ((congrFun (Rw.at (by decide)) 6).trans hN) ?_
      refine g_icmp_geN (tgt := 81) cx dX6_step_18 (by decide) (by omega) (by omega) (fun h_18 => ?_) (fun h_18 => ?_)
      · skip
        have e : q = n := by omega
        subst e
        refine g_iload cx dX6_step_81 rfl ?_
        refine g_if_eqN (tgt := 90) cx dX6_step_83 (by decide) (by omega) (fun h_83 => ?_) (fun h_83 => ?_)
        · skip
          refine g_iconst (v := nI 0) cx dX6_step_90 (by decide) ?_
          exact g_fret cx rq rfl (by rfl) dX6_step_91 (by rw [bi_f (c := 0 < mov q a k f i s) (fun e => absurd ((mset_ne (by omega) hi hs).mp h_83) (by omega))]) (rfl)
        · skip
          refine g_iconst (v := nI 1) cx dX6_step_86 (by decide) ?_
          refine g_goto (tgt := 91) cx dX6_step_87 (by decide) ?_
          exact g_fret cx rq rfl (by rfl) dX6_step_91 (by rw [bi_t (c := 0 < mov q a k f i s) (Nat.pos_of_ne_zero (fun e => h_83 ((mset_ne (by omega) hi hs).mpr e)))]) (rfl)
      · skip
        refine g_aload_n cx dX6_step_21 rfl ?_
        refine g_getR (i := (30, 0)) (ci := 6) (k := 0) (j := (31, 0)) cx a30_0 rfl rfl rfl (by decide) inX6 lfX6_7 dX6_step_22 ?_
        refine g_iload_n cx dX6_step_25 rfl ?_
        refine g_iload cx dX6_step_26 rfl ?_
        refine g_iaddN cx dX6_step_28 ?_
        refine g_iload cx dX6_step_29 rfl ?_
        refine g_iload cx dX6_step_31 rfl ?_
        refine g_fcallS (As := [vi (nI (bitsN (inM n (mov n a k f i s) i s) n)), vi (nI q)]) (rest := [vi (nI (bs + q)), vr (31, 0)]) cx knX6_has (m_has (v := bitsN (inM n (mov n a k f i s) i s) n) (t := q) (hb256) (by omega)) lmX6_199 nsX6_has rfl (by decide) (Nat.le_of_ble_eq_true rfl) rfl dX6_step_33 ?_
        refine g_if_eqB (tgt := 65) cx dX6_step_36 (by decide) (fun h_36 => ?_) (fun h_36 => ?_)
        · skip
          refine g_aload_n cx dX6_step_65 rfl ?_
          refine g_getR (i := (30, 0)) (ci := 6) (k := 0) (j := (31, 0)) cx a30_0 rfl rfl rfl (by decide) inX6 lfX6_7 dX6_step_66 ?_
          refine g_iload_n cx dX6_step_69 rfl ?_
          refine g_iload cx dX6_step_70 rfl ?_
          refine g_iaddN cx dX6_step_72 ?_
          refine g_ialdN (i := (31, 0)) (j := bs + q) (v := nI (a q)) cx a31_0 rfl (rfl) (by omega) (by decide) dX6_step_73 (by rw [Rw, upA_s, putA_out (by omega)]; exact (hA q (by omega)).1) ?_
          refine g_top (y := nI (stp n a k f i s q)) (by unfold stp; rw [if_neg (fun e => h_36 ((inM_of (by omega)).mpr e))]) ?_
          refine g_iast (i := (31, 0)) (j := bs + q) cx a31_0 rfl (rfl) (by omega) (by decide) dX6_step_74 ?_
          refine g_iincN (L' := [some (vr (30, 0)), some (vi (nI bs)), some (vi (nI i)), some (vi (nI s)), some (vi (nI (bitsN (inM n (mov n a k f i s) i s) n))), some (vi (nI (q + 1)))]) cx dX6_step_75 rfl (by decide) rfl rfl ?_
          refine g_goto (tgt := 12) cx dX6_step_78 (by decide) ?_
          refine g_wd (D' := Rw D bs (q + 1) (stp n a k f i s)) (put_step D (31, 0) (D (31, 0)) bs q _) ?_
          exact ih (q + 1) (by omega) (by omega)
        · skip
          have haq := (hA q (by omega)).2
          refine g_aload_n cx dX6_step_39 rfl ?_
          refine g_getR (i := (30, 0)) (ci := 6) (k := 0) (j := (31, 0)) cx a30_0 rfl rfl rfl (by decide) inX6 lfX6_7 dX6_step_40 ?_
          refine g_iload_n cx dX6_step_43 rfl ?_
          refine g_iload cx dX6_step_44 rfl ?_
          refine g_iaddN cx dX6_step_46 ?_
          refine g_ialdN (i := (31, 0)) (j := bs + q) (v := nI (a q)) cx a31_0 rfl (rfl) (by omega) (by decide) dX6_step_47 (by rw [Rw, upA_s, putA_out (by omega)]; exact (hA q (by omega)).1) ?_
          refine g_iload_n cx dX6_step_48 rfl ?_
          refine g_if_neN (tgt := 56) cx dX6_step_49 (by decide) (by omega) (fun h_49 => ?_) (fun h_49 => ?_)
          · skip
            refine g_bipush (v := nI 71) cx dX6_step_56 (by decide) ?_
            refine g_iaddN cx dX6_step_58 ?_
            refine g_bipush (v := nI 72) cx dX6_step_59 (by decide) ?_
            refine g_iremN cx dX6_step_61 (by omega) (by omega) (by omega) ?_
            refine g_goto (tgt := 74) cx dX6_step_62 (by decide) ?_
            refine g_top (y := nI (stp n a k f i s q)) (by unfold stp; rw [if_pos ((inM_of (by omega)).mp h_36), sa, if_neg h_49]) ?_
            refine g_iast (i := (31, 0)) (j := bs + q) cx a31_0 rfl (rfl) (by omega) (by decide) dX6_step_74 ?_
            refine g_iincN (L' := [some (vr (30, 0)), some (vi (nI bs)), some (vi (nI i)), some (vi (nI s)), some (vi (nI (bitsN (inM n (mov n a k f i s) i s) n))), some (vi (nI (q + 1)))]) cx dX6_step_75 rfl (by decide) rfl rfl ?_
            refine g_goto (tgt := 12) cx dX6_step_78 (by decide) ?_
            refine g_wd (D' := Rw D bs (q + 1) (stp n a k f i s)) (put_step D (31, 0) (D (31, 0)) bs q _) ?_
            exact ih (q + 1) (by omega) (by omega)
          · skip
            refine g_iconst (v := nI 1) cx dX6_step_52 (by decide) ?_
            refine g_goto (tgt := 58) cx dX6_step_53 (by decide) ?_
            refine g_iaddN cx dX6_step_58 ?_
            refine g_bipush (v := nI 72) cx dX6_step_59 (by decide) ?_
            refine g_iremN cx dX6_step_61 (by omega) (by omega) (by omega) ?_
            refine g_goto (tgt := 74) cx dX6_step_62 (by decide) ?_
            refine g_top (y := nI (stp n a k f i s q)) (by unfold stp; rw [if_pos ((inM_of (by omega)).mp h_36), sa, if_pos h_49]) ?_
            refine g_iast (i := (31, 0)) (j := bs + q) cx a31_0 rfl (rfl) (by omega) (by decide) dX6_step_74 ?_
            refine g_iincN (L' := [some (vr (30, 0)), some (vi (nI bs)), some (vi (nI i)), some (vi (nI s)), some (vi (nI (bitsN (inM n (mov n a k f i s) i s) n))), some (vi (nI (q + 1)))]) cx dX6_step_75 rfl (by decide) rfl rfl ?_
            refine g_goto (tgt := 12) cx dX6_step_78 (by decide) ?_
            refine g_wd (D' := Rw D bs (q + 1) (stp n a k f i s)) (put_step D (31, 0) (D (31, 0)) bs q _) ?_
            exact ih (q + 1) (by omega) (by omega)
  refine g_wd (D' := Rw D bs 0 (stp n a k f i s)) (put_0 D (31, 0) bs _) ?_
  exact lp (n + 1) 0 (by omega) (by omega)

set_option maxRecDepth 100000 in
set_option maxHeartbeats 4000000 in
theorem m_isLeaf {D : Wd} {n : Nat} {k f : Nat → Nat} {dn : Nat} {dr : Nat → Nat} {pn : Nat} (hP : PM D n k f dn dr pn) (x : Int32) : Fok mX6_isLeaf idsA 1 [vr (30, 0), vi x] D (some (vi (if lt0 x n = true then 1 else 0))) D := by
  obtain ⟨hn3, hn8, hN, hK, hF, hd3, hDn, hDr, hp5, hPn⟩ := id hP
  refine Mok.of (L := [some (vr (30, 0)), some (vi x)]) rfl (fun _ => Nat.le_of_ble_eq_true rfl) (fun _ => rfl) (fun X cx rq => ?_)
  refine g_iload_n cx dX6_isLeaf_0 rfl ?_
  refine g_i2l cx dX6_isLeaf_1 ?_
  refine g_lconst (v := 0) cx dX6_isLeaf_2 (by decide) ?_
  refine g_aload_n cx dX6_isLeaf_3 rfl ?_
  refine g_getIN (i := (30, 0)) (ci := 6) (k := 6) (v := nI n) cx a30_0 rfl rfl rfl (by decide) inX6 lfX6_23 dX6_isLeaf_4 (hN) ?_
  refine g_iconst (v := nI 1) cx dX6_isLeaf_7 (by decide) ?_
  refine g_isubN cx dX6_isLeaf_8 (by omega) ?_
  refine g_i2l cx dX6_isLeaf_9 ?_
  refine g_fcallS (As := [vl x.toInt64, vl 0, vl ((nI (n - 1)).toInt64)]) (rest := []) cx knX6_in (m_in x.toInt64 0 ((nI (n - 1)).toInt64)) lmX6_60 nsX6_in rfl (by decide) (Nat.le_of_ble_eq_true rfl) rfl dX6_isLeaf_10 ?_
  refine g_top (bi_iff (in_iff (by omega) (by omega))) ?_
  exact g_fret cx rq rfl (bi_nar _) dX6_isLeaf_13 (rfl) (rfl)

set_option maxRecDepth 100000 in
set_option maxHeartbeats 4000000 in
theorem m_isSide {D : Wd} (x : Int32) : Fok mX6_isSide idsA 1 [vi x] D (some (vi (if lt0 x 2 = true then 1 else 0))) D := by
  refine Mok.of (L := [some (vi x)]) rfl (fun _ => Nat.le_of_ble_eq_true rfl) (fun _ => rfl) (fun X cx rq => ?_)
  refine g_iload_n cx dX6_isSide_0 rfl ?_
  refine g_i2l cx dX6_isSide_1 ?_
  refine g_lconst (v := 0) cx dX6_isSide_2 (by decide) ?_
  refine g_lconst (v := 1) cx dX6_isSide_3 (by decide) ?_
  refine g_fcallS (As := [vl x.toInt64, vl 0, vl 1]) (rest := []) cx knX6_in (m_in x.toInt64 0 1) lmX6_60 nsX6_in rfl (by decide) (Nat.le_of_ble_eq_true rfl) rfl dX6_isSide_4 ?_
  refine g_top (bi_iff (in_iff (n := 2) (by omega) (by omega))) ?_
  exact g_fret cx rq rfl (bi_nar _) dX6_isSide_7 (rfl) (rfl)

set_option maxRecDepth 100000 in
set_option maxHeartbeats 4000000 in
theorem m_pushBy {D : Wd} {n : Nat} {k f : Nat → Nat} {dn : Nat} {dr : Nat → Nat} {pn : Nat} (hP : PM D n k f dn dr pn) {bs : Nat} {a : Nat → Nat} (hA : AM D bs n a) (hb : bs + 14 ≤ 70) {i s d : Nat} (hi : i < n) (hs : s < 2) (hd : d < 100) : Fok mX6_pushBy idsA 5 [vr (30, 0), vi (nI bs), vi (nI i), vi (nI s), vi (nI d)] D (some (vi (nI ((psh n k f i s d a).1)))) (Rw D bs n (psh n k f i s d a).2) := by
  obtain ⟨hn3, hn8, hN, hK, hF, hd3, hDn, hDr, hp5, hPn⟩ := id hP
  refine Mok.of (L := [some (vr (30, 0)), some (vi (nI bs)), some (vi (nI i)), some (vi (nI s)), some (vi (nI d)), none]) rfl (fun _ => Nat.le_of_ble_eq_true rfl) (fun _ => rfl) (fun X cx rq => ?_)
  refine g_iconst (v := nI 0) cx dX6_pushBy_0 (by decide) ?_
  refine g_istore (L' := [some (vr (30, 0)), some (vi (nI bs)), some (vi (nI i)), some (vi (nI s)), some (vi (nI d)), some (vi (nI 0))]) cx dX6_pushBy_1 (by decide) rfl rfl ?_
  have lp : ∀ (fu : Nat) (c : Nat) (ac : Nat → Nat), d - c < fu → (c ≤ d) → (∀ j, j < n → ac j < 72) → (c + (psh n k f i s (d - c) ac).1 = (psh n k f i s d a).1 ∧ (psh n k f i s (d - c) ac).2 = (psh n k f i s d a).2) → Gk X mX6_pushBy idsA 3 [some (vr (30, 0)), some (vi (nI bs)), some (vi (nI i)), some (vi (nI s)), some (vi (nI d)), some (vi (nI c))] [] (Rw D bs n ac) := by
    intro fu
    induction fu with
    | zero => intro c ac hfu; exact absurd hfu (Nat.not_lt_zero _)
    | succ fu ih =>
      intro c ac hfu hc hac hm
      refine g_iload cx dX6_pushBy_3 rfl ?_
      refine g_iload cx dX6_pushBy_5 rfl ?_
      refine g_icmp_geN (tgt := 26) cx dX6_pushBy_7 (by decide) (by omega) (by omega) (fun h_7 => ?_) (fun h_7 => ?_)
      · skip
        have e : d - c = 0 := by omega
        rw [e] at hm
        refine g_iload cx dX6_pushBy_26 rfl ?_
        exact g_fret cx rq rfl (rfl) dX6_pushBy_28 (by rw [← hm.1]; rfl) (by rw [← hm.2]; rfl)
      · skip
        obtain ⟨z, hz⟩ : ∃ z, d - c = z + 1 := ⟨d - c - 1, by omega⟩
        rw [hz, psh] at hm
        refine g_aload_n cx dX6_pushBy_10 rfl ?_
        refine g_iload_n cx dX6_pushBy_11 rfl ?_
        refine g_iload_n cx dX6_pushBy_12 rfl ?_
        refine g_iload_n cx dX6_pushBy_13 rfl ?_
        refine g_fcallV (As := [vi (nI bs), vi (nI i), vi (nI s)]) (rest := []) cx knX6_step (m_step (Rw.P hP) (Rw.A hac) (by omega) (i := i) (s := s) (by omega) (by omega)) a30_0 rfl rfl lmX6_207 niX6_step seX6_step rfl (by decide) (Nat.le_of_ble_eq_true rfl) rfl dX6_pushBy_14 ?_
        refine g_wd (D' := Rw D bs n (stp n ac k f i s)) (Rw.twice _ _ _ _ _) ?_
        refine g_if_eqB (tgt := 26) cx dX6_pushBy_17 (by decide) (fun h_17 => ?_) (fun h_17 => ?_)
        · skip
          have h0 : mov n ac k f i s = 0 := by omega
          rw [if_pos h0] at hm
          refine g_iload cx dX6_pushBy_26 rfl ?_
          exact g_fret cx rq rfl (rfl) dX6_pushBy_28 (by rw [← hm.1]; rfl) (by rw [← hm.2, stp_0 h0])
        · skip
          rw [if_neg (by omega)] at hm
          have hm2 : (c + 1) + (psh n k f i s (d - (c + 1)) (stp n ac k f i s)).1 = (psh n k f i s d a).1 ∧ (psh n k f i s (d - (c + 1)) (stp n ac k f i s)).2 = (psh n k f i s d a).2 := by
            have e : d - (c + 1) = z := by omega
            rw [e]
            exact ⟨by have := hm.1; omega, hm.2⟩
          refine g_iincN (L' := [some (vr (30, 0)), some (vi (nI bs)), some (vi (nI i)), some (vi (nI s)), some (vi (nI d)), some (vi (nI (c + 1)))]) cx dX6_pushBy_20 rfl (by decide) rfl rfl ?_
          refine g_goto (tgt := 3) cx dX6_pushBy_23 (by decide) ?_
          exact ih (c + 1) (stp n ac k f i s) (by omega) (by omega) (fun j hj => stp_lt (hac j hj)) hm2
  refine g_wd (D' := Rw D bs n a) ((Rw.self hA).symm) ?_
  exact lp (d + 1) 0 a (by omega) (by omega) (fun j hj => (hA j hj).2) (⟨Nat.zero_add _, rfl⟩)
