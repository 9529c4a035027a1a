set_option maxRecDepth 100000 in
set_option maxHeartbeats 4000000 in
theorem x_isPerson {D : Wd} {n : Nat} {k f : Nat → Nat} {dn : Nat} {dr : Nat → Nat} {pn : Nat} (hP : PX D 0 n k f dn dr pn) (x : Int32) : Fok mX5_isPerson idsA 0 [vr (0, 0), vi x] D (some (vi (if lt0 x pn = true then 1 else 0))) D := by
  obtain ⟨hn3, hn8, hN, hK, hF, hd3, hDn, hDr, hp5, hPn⟩ := id hP
  refine Mok.of (L := [some (vr (0, 0)), some (vi x)]) rfl (fun _ => Nat.le_of_ble_eq_true rfl) (fun _ => rfl) (fun X cx rq => ?_)
  refine g_iload_n cx dX5_isPerson_0 rfl ?_
  refine g_if_lt (tgt := 19) cx dX5_isPerson_1 (by decide) (fun h_1 => ?_) (fun h_1 => ?_)
  · skip
    refine g_iconst (v := nI 0) cx dX5_isPerson_19 (by decide) ?_
    exact g_fret cx rq rfl (by rfl) dX5_isPerson_20 (by rw [bi_f (c := lt0 x pn = true) (by first | exact has_n1 h_1 | exact has_n2 (by omega) h_12)]) (rfl)
  · skip
    refine g_iload_n cx dX5_isPerson_4 rfl ?_
    refine g_aload_n cx dX5_isPerson_5 rfl ?_
    refine g_getR (i := (0, 0)) (ci := 5) (k := 0) (j := (1, 0)) cx a0_0 rfl rfl rfl (by decide) inX5 lfX5_10 dX5_isPerson_6 ?_
    refine g_getIN (i := (1, 0)) (ci := 1) (k := 6) (v := nI pn) cx a1_0 rfl rfl rfl (by decide) inX1 lfX5_200 dX5_isPerson_9 (hPn) ?_
    refine g_icmp_ge (tgt := 19) cx dX5_isPerson_12 (by decide) (fun h_12 => ?_) (fun h_12 => ?_)
    · skip
      refine g_iconst (v := nI 0) cx dX5_isPerson_19 (by decide) ?_
      exact g_fret cx rq rfl (by rfl) dX5_isPerson_20 (by rw [bi_f (c := lt0 x pn = true) (by first | exact has_n1 h_1 | exact has_n2 (by omega) h_12)]) (rfl)
    · skip
      refine g_iconst (v := nI 1) cx dX5_isPerson_15 (by decide) ?_
      refine g_goto (tgt := 20) cx dX5_isPerson_16 (by decide) ?_
      exact g_fret cx rq rfl (by rfl) dX5_isPerson_20 (by rw [bi_t (c := lt0 x pn = true) (has_y (by omega) h_1 h_12)]) (rfl)

set_option maxRecDepth 100000 in
set_option maxHeartbeats 4000000 in
theorem x_leaf {D : Wd} {n : Nat} {k f : Nat → Nat} {dn : Nat} {dr : Nat → Nat} {pn : Nat} (hP : PX D 0 n k f dn dr pn) {a : Nat → Nat} (hA : AX D 0 n a) {hm : Nat → Nat} (hH : HX D 0 n hm) (x w : Int32) : Fok mX5_leaf idsA 1 [vr (0, 0), vi x, vi w] D (some (vi (leafS n k a hm x w))) D := by
  obtain ⟨hn3, hn8, hN, hK, hF, hd3, hDn, hDr, hp5, hPn⟩ := id hP
  refine Mok.of (L := [some (vr (0, 0)), some (vi x), some (vi w)]) rfl (fun _ => Nat.le_of_ble_eq_true rfl) (fun _ => rfl) (fun X cx rq => ?_)
  refine g_aload_n cx dX5_leaf_0 rfl ?_
  refine g_getR (i := (0, 0)) (ci := 5) (k := 0) (j := (1, 0)) cx a0_0 rfl rfl rfl (by decide) inX5 lfX5_10 dX5_leaf_1 ?_
  refine g_iload_n cx dX5_leaf_4 rfl ?_
  refine g_fcallV (As := [vi x]) (rest := []) cx knX1_has (x_has hP (by decide) x) a1_0 rfl rfl lmX5_87 niX1_has seX1_has rfl (by decide) (Nat.le_of_ble_eq_true rfl) rfl dX5_leaf_5 ?_
  refine g_if_neB (tgt := 14) cx dX5_leaf_8 (by decide) (fun h_8 => ?_) (fun h_8 => ?_)
  · skip
    obtain ⟨j, hj, rfl⟩ := lt0_nI h_8
    have hjx : (nI j).toNatClampNeg = j := nI_clamp (by omega)
    have hji : ix (nI j) = j := hjx
    refine g_iload_n cx dX5_leaf_14 rfl ?_
    by_cases hin : lt0 w 3 = true
    · obtain ⟨j9, hj9, rfl⟩ := lt0_nI hin
      have hcs : j9 = 0 ∨ j9 = 1 ∨ j9 = 2 := by omega
      rcases hcs with rfl | rfl | rfl
      · skip
        refine g_tabIn (off := 25) (tgt := 40) cx dX5_leaf_15 (by decide) (by decide) (by decide) (by decide) ?_
        refine g_aload_n cx dX5_leaf_40 rfl ?_
        refine g_getR (i := (0, 0)) (ci := 5) (k := 0) (j := (1, 0)) cx a0_0 rfl rfl rfl (by decide) inX5 lfX5_10 dX5_leaf_41 ?_
        refine g_getR (i := (1, 0)) (ci := 1) (k := 2) (j := (3, 0)) cx a1_0 rfl rfl rfl (by decide) inX1 lfX5_91 dX5_leaf_44 ?_
        refine g_iload_n cx dX5_leaf_47 rfl ?_
        refine g_ialdN (i := (3, 0)) (j := j) (v := nI (k j)) cx a3_0 rfl (rfl) (by omega) (by decide) dX5_leaf_48 ((hK j (by omega)).1) ?_
        exact g_fret cx rq rfl (rfl) dX5_leaf_49 (by rw [leafS, if_pos h_8]; simp only [hjx]; rfl) (rfl)
      · skip
        refine g_tabIn (off := 35) (tgt := 50) cx dX5_leaf_15 (by decide) (by decide) (by decide) (by decide) ?_
        refine g_aload_n cx dX5_leaf_50 rfl ?_
        refine g_getR (i := (0, 0)) (ci := 5) (k := 2) (j := (9, 0)) cx a0_0 rfl rfl rfl (by decide) inX5 lfX5_28 dX5_leaf_51 ?_
        refine g_getR (i := (9, 0)) (ci := 0) (k := 1) (j := (10, 0)) cx a9_0 rfl rfl rfl (by decide) inX0 lfX5_95 dX5_leaf_54 ?_
        refine g_iload_n cx dX5_leaf_57 rfl ?_
        refine g_ialdN (i := (10, 0)) (j := j) (v := nI (a j)) cx a10_0 rfl (rfl) (by omega) (by decide) dX5_leaf_58 ((hA j (by omega)).1) ?_
        exact g_fret cx rq rfl (rfl) dX5_leaf_59 (by rw [leafS, if_pos h_8]; simp only [hjx]; rfl) (rfl)
      · skip
        refine g_tabIn (off := 45) (tgt := 60) cx dX5_leaf_15 (by decide) (by decide) (by decide) (by decide) ?_
        refine g_aload_n cx dX5_leaf_60 rfl ?_
        refine g_getR (i := (0, 0)) (ci := 5) (k := 0) (j := (1, 0)) cx a0_0 rfl rfl rfl (by decide) inX5 lfX5_10 dX5_leaf_61 ?_
        refine g_getR (i := (1, 0)) (ci := 1) (k := 1) (j := (2, 0)) cx a1_0 rfl rfl rfl (by decide) inX1 lfX5_98 dX5_leaf_64 ?_
        refine g_iload_n cx dX5_leaf_67 rfl ?_
        refine g_ialdN (i := (2, 0)) (j := j) (v := nI (hm j)) cx a2_0 rfl (rfl) (by omega) (by decide) dX5_leaf_68 ((hH j (by omega)).1) ?_
        exact g_fret cx rq rfl (rfl) dX5_leaf_69 (by rw [leafS, if_pos h_8]; simp only [hjx]; rfl) (rfl)
    · skip
      have hz0 : ¬ w = 0 := fun e => hin (by rw [e]; decide)
      have hz1 : ¬ w = nI 1 := fun e => hin (by rw [e]; decide)
      have hz2 : ¬ w = nI 2 := fun e => hin (by rw [e]; decide)
      refine g_tabOut (tgt := 70) cx dX5_leaf_15 (lt0_out hin) (by decide) ?_
      refine g_bipush (v := (-3)) cx dX5_leaf_70 (by decide) ?_
      exact g_fret cx rq rfl (rfl) dX5_leaf_72 (by simp [leafS, eq_true h_8, hz0, hz1, hz2]) (rfl)
  · skip
    refine g_bipush (v := (-2)) cx dX5_leaf_11 (by decide) ?_
    exact g_fret cx rq rfl (rfl) dX5_leaf_13 (by simp [leafS, eq_false h_8]) (rfl)

set_option maxRecDepth 100000 in
set_option maxHeartbeats 4000000 in
theorem x_room {D : Wd} {n : Nat} {k f : Nat → Nat} {dn : Nat} {dr : Nat → Nat} {pn : Nat} (hP : PX D 0 n k f dn dr pn) {a : Nat → Nat} (hA : AX D 0 n a) {pl : Nat → Int32} (hPl : PLX D 0 pn pl) (hPo : PLok n pn pl) (x w : Int32) : Fok mX5_room idsA 3 [vr (0, 0), vi x, vi w] D (some (vi (roomS n f a dn dr pn pl x w))) D := by
  obtain ⟨hn3, hn8, hN, hK, hF, hd3, hDn, hDr, hp5, hPn⟩ := id hP
  refine Mok.of (L := [some (vr (0, 0)), some (vi x), some (vi w)]) rfl (fun _ => Nat.le_of_ble_eq_true rfl) (fun _ => rfl) (fun X cx rq => ?_)
  refine g_aload_n cx dX5_room_0 rfl ?_
  refine g_getR (i := (0, 0)) (ci := 5) (k := 0) (j := (1, 0)) cx a0_0 rfl rfl rfl (by decide) inX5 lfX5_10 dX5_room_1 ?_
  refine g_iload_n cx dX5_room_4 rfl ?_
  refine g_fcallV (As := [vi x]) (rest := []) cx knX1_has (x_has hP (by decide) x) a1_0 rfl rfl lmX5_87 niX1_has seX1_has rfl (by decide) (Nat.le_of_ble_eq_true rfl) rfl dX5_room_5 ?_
  refine g_if_neB (tgt := 14) cx dX5_room_8 (by decide) (fun h_8 => ?_) (fun h_8 => ?_)
  · skip
    obtain ⟨j, hj, rfl⟩ := lt0_nI h_8
    have hjx : (nI j).toNatClampNeg = j := nI_clamp (by omega)
    have hji : ix (nI j) = j := hjx
    refine g_iload_n cx dX5_room_14 rfl ?_
    by_cases hin : lt0 w 4 = true
    · obtain ⟨j9, hj9, rfl⟩ := lt0_nI hin
      have hcs : j9 = 0 ∨ j9 = 1 ∨ j9 = 2 ∨ j9 = 3 := by omega
      rcases hcs with rfl | rfl | rfl | rfl
      · skip
        refine g_tabIn (off := 29) (tgt := 44) cx dX5_room_15 (by decide) (by decide) (by decide) (by decide) ?_
        refine g_aload_n cx dX5_room_44 rfl ?_
        refine g_getR (i := (0, 0)) (ci := 5) (k := 2) (j := (9, 0)) cx a0_0 rfl rfl rfl (by decide) inX5 lfX5_28 dX5_room_45 ?_
        refine g_iload_n cx dX5_room_48 rfl ?_
        refine g_fcallV (As := [vi (nI j)]) (rest := []) cx knX0_width (x_width hP (by decide) hA (i := j) (by omega)) a9_0 rfl rfl lmX5_101 niX0_width seX0_width rfl (by decide) (Nat.le_of_ble_eq_true rfl) rfl dX5_room_49 ?_
        exact g_fret cx rq rfl (rfl) dX5_room_52 (by rw [roomS, if_pos h_8]; simp only [hjx]; rfl) (rfl)
      · skip
        refine g_tabIn (off := 38) (tgt := 53) cx dX5_room_15 (by decide) (by decide) (by decide) (by decide) ?_
        refine g_aload_n cx dX5_room_53 rfl ?_
        refine g_getR (i := (0, 0)) (ci := 5) (k := 0) (j := (1, 0)) cx a0_0 rfl rfl rfl (by decide) inX5 lfX5_10 dX5_room_54 ?_
        refine g_getR (i := (1, 0)) (ci := 1) (k := 3) (j := (4, 0)) cx a1_0 rfl rfl rfl (by decide) inX1 lfX5_105 dX5_room_57 ?_
        refine g_iload_n cx dX5_room_60 rfl ?_
        refine g_ialdN (i := (4, 0)) (j := j) (v := nI (f j)) cx a4_0 rfl (rfl) (by omega) (by decide) dX5_room_61 ((hF j (by omega)).1) ?_
        exact g_fret cx rq rfl (rfl) dX5_room_62 (by rw [roomS, if_pos h_8]; simp only [hjx]; rfl) (rfl)
      · skip
        refine g_tabIn (off := 48) (tgt := 63) cx dX5_room_15 (by decide) (by decide) (by decide) (by decide) ?_
        refine g_aload_n cx dX5_room_63 rfl ?_
        refine g_getR (i := (0, 0)) (ci := 5) (k := 2) (j := (9, 0)) cx a0_0 rfl rfl rfl (by decide) inX5 lfX5_28 dX5_room_64 ?_
        refine g_iload_n cx dX5_room_67 rfl ?_
        refine g_fcallV (As := [vi (nI j)]) (rest := []) cx knX0_isOpen (x_isOpen hP (by decide) hA (i := j) (by omega)) a9_0 rfl rfl lmX5_108 niX0_isOpen seX0_isOpen rfl (by decide) (Nat.le_of_ble_eq_true rfl) rfl dX5_room_68 ?_
        refine g_if_eqB (tgt := 78) cx dX5_room_71 (by decide) (fun h_71 => ?_) (fun h_71 => ?_)
        · skip
          refine g_iconst (v := nI 0) cx dX5_room_78 (by decide) ?_
          exact g_fret cx rq rfl (rfl) dX5_room_79 (by rw [roomS, if_pos h_8]; simp only [hjx]; show _ = some (vi (if opn n a dn dr j = true then nI 1 else nI 0)); rw [if_neg h_71]) (rfl)
        · skip
          refine g_iconst (v := nI 1) cx dX5_room_74 (by decide) ?_
          refine g_goto (tgt := 79) cx dX5_room_75 (by decide) ?_
          exact g_fret cx rq rfl (rfl) dX5_room_79 (by rw [roomS, if_pos h_8]; simp only [hjx]; show _ = some (vi (if opn n a dn dr j = true then nI 1 else nI 0)); rw [if_pos h_71]) (rfl)
      · skip
        refine g_tabIn (off := 65) (tgt := 80) cx dX5_room_15 (by decide) (by decide) (by decide) (by decide) ?_
        refine g_aload_n cx dX5_room_80 rfl ?_
        refine g_getR (i := (0, 0)) (ci := 5) (k := 2) (j := (9, 0)) cx a0_0 rfl rfl rfl (by decide) inX5 lfX5_28 dX5_room_81 ?_
        refine g_iload_n cx dX5_room_84 rfl ?_
        refine g_fcallV (As := [vi (nI j)]) (rest := []) cx knX0_peopleAt (x_peopleAt hP (by decide) hPl (nI j)) a9_0 rfl rfl lmX5_111 niX0_peopleAt seX0_peopleAt rfl (by decide) (Nat.le_of_ble_eq_true rfl) rfl dX5_room_85 ?_
        exact g_fret cx rq rfl (rfl) dX5_room_88 (by rw [roomS, if_pos h_8]; simp only [hjx]; rfl) (rfl)
    · skip
      have hz0 : ¬ w = 0 := fun e => hin (by rw [e]; decide)
      have hz1 : ¬ w = nI 1 := fun e => hin (by rw [e]; decide)
      have hz2 : ¬ w = nI 2 := fun e => hin (by rw [e]; decide)
      have hz3 : ¬ w = nI 3 := fun e => hin (by rw [e]; decide)
      refine g_tabOut (tgt := 89) cx dX5_room_15 (lt0_out hin) (by decide) ?_
      refine g_bipush (v := (-3)) cx dX5_room_89 (by decide) ?_
      exact g_fret cx rq rfl (rfl) dX5_room_91 (by simp [roomS, eq_true h_8, hz0, hz1, hz2, hz3]) (rfl)
  · skip
    refine g_bipush (v := (-2)) cx dX5_room_11 (by decide) ?_
    exact g_fret cx rq rfl (rfl) dX5_room_13 (by simp [roomS, eq_false h_8]) (rfl)

set_option maxRecDepth 100000 in
set_option maxHeartbeats 4000000 in
theorem x_as {D : Wd} {n : Nat} {k f : Nat → Nat} {dn : Nat} {dr : Nat → Nat} {pn : Nat} (hP : PX D 0 n k f dn dr pn) {a : Nat → Nat} (hA : AX D 0 n a) (x w : Int32) : Fok mX5_as idsA 3 [vr (0, 0), vi x, vi w] D (some (vi (asS n k f a x w))) D := by
  obtain ⟨hn3, hn8, hN, hK, hF, hd3, hDn, hDr, hp5, hPn⟩ := id hP
  have hml := fun i s => mov_le (a := a) (k := k) (f := f) (i := i) (s := s) (show 0 < n by omega)
  refine Mok.of (L := [some (vr (0, 0)), some (vi x), some (vi w), none, none]) rfl (fun _ => Nat.le_of_ble_eq_true rfl) (fun _ => rfl) (fun X cx rq => ?_)
  refine g_aload_n cx dX5_as_0 rfl ?_
  refine g_getR (i := (0, 0)) (ci := 5) (k := 0) (j := (1, 0)) cx a0_0 rfl rfl rfl (by decide) inX5 lfX5_10 dX5_as_1 ?_
  refine g_iload_n cx dX5_as_4 rfl ?_
  refine g_fcallV (As := [vi x]) (rest := []) cx knX1_has (x_has hP (by decide) x) a1_0 rfl rfl lmX5_87 niX1_has seX1_has rfl (by decide) (Nat.le_of_ble_eq_true rfl) rfl dX5_as_5 ?_
  refine g_if_neB (tgt := 14) cx dX5_as_8 (by decide) (fun h_8 => ?_) (fun h_8 => ?_)
  · skip
    obtain ⟨j, hj, rfl⟩ := lt0_nI h_8
    have hjx : (nI j).toNatClampNeg = j := nI_clamp (by omega)
    have hji : ix (nI j) = j := hjx
    have hkj := (hK j hj).2
    refine g_iload_n cx dX5_as_14 rfl ?_
    refine g_if_lt (tgt := 23) cx dX5_as_15 (by decide) (fun h_15 => ?_) (fun h_15 => ?_)
    · skip
      have hw : ¬ lt0 w 5 = true := has_n1 h_15
      refine g_bipush (v := (-3)) cx dX5_as_23 (by decide) ?_
      exact g_fret cx rq rfl (rfl) dX5_as_25 (by simp [asS, eq_true h_8, eq_false hw]) (rfl)
    · skip
      refine g_iload_n cx dX5_as_18 rfl ?_
      refine g_iconst (v := nI 4) cx dX5_as_19 (by decide) ?_
      refine g_icmp_le (tgt := 26) cx dX5_as_20 (by decide) (fun h_20 => ?_) (fun h_20 => ?_)
      · skip
        have hw : lt0 w 5 = true := le_y (by decide) h_15 h_20
        obtain ⟨t, ht, rfl⟩ := lt0_nI hw
        have htx : (nI t).toNatClampNeg = t := nI_clamp (by omega)
        have hti : ix (nI t) = t := htx
        refine g_aload_n cx dX5_as_26 rfl ?_
        refine g_getR (i := (0, 0)) (ci := 5) (k := 0) (j := (1, 0)) cx a0_0 rfl rfl rfl (by decide) inX5 lfX5_10 dX5_as_27 ?_
        refine g_iload_n cx dX5_as_30 rfl ?_
        refine g_iload_n cx dX5_as_31 rfl ?_
        refine g_fcallV (As := [vi (nI j), vi (nI t)]) (rest := []) cx knX1_isTakenAs (x_isTakenAs hP (by decide) (i := j) (s := t) (by omega) (by omega)) a1_0 rfl rfl lmX5_114 niX1_isTakenAs seX1_isTakenAs rfl (by decide) (Nat.le_of_ble_eq_true rfl) rfl dX5_as_32 ?_
        refine g_if_neB (tgt := 41) cx dX5_as_35 (by decide) (fun h_35 => ?_) (fun h_35 => ?_)
        · skip
          have hti : isAs (k j) (nI t) = true := by rw [isAs_tak _ hkj _ ht]; exact h_35
          refine g_aload_n cx dX5_as_41 rfl ?_
          refine g_getR (i := (0, 0)) (ci := 5) (k := 2) (j := (9, 0)) cx a0_0 rfl rfl rfl (by decide) inX5 lfX5_28 dX5_as_42 ?_
          refine g_iload_n cx dX5_as_45 rfl ?_
          refine g_iconst (v := nI 0) cx dX5_as_46 (by decide) ?_
          refine g_fcallV (As := [vi (nI j), vi (nI 0)]) (rest := []) cx knX0_movers (x_movers hP (by decide) hA (i := j) (s := 0) (by omega) (by omega)) a9_0 rfl rfl lmX5_118 niX0_movers seX0_movers rfl (by decide) (Nat.le_of_ble_eq_true rfl) rfl dX5_as_47 ?_
          have hm9 := hml j 0
          refine g_if_leN (tgt := 57) cx dX5_as_50 (by decide) (by omega) (fun h_50 => ?_) (fun h_50 => ?_)
          · skip
            have h50 := h_50
            refine g_iconst (v := nI 0) cx dX5_as_57 (by decide) ?_
            refine g_istore_n (L' := [some (vr (0, 0)), some (vi (nI j)), some (vi (nI t)), some (vi (nI 0)), none]) cx dX5_as_58 (by decide) rfl rfl ?_
            refine g_aload_n cx dX5_as_59 rfl ?_
            refine g_getR (i := (0, 0)) (ci := 5) (k := 2) (j := (9, 0)) cx a0_0 rfl rfl rfl (by decide) inX5 lfX5_28 dX5_as_60 ?_
            refine g_iload_n cx dX5_as_63 rfl ?_
            refine g_iconst (v := nI 1) cx dX5_as_64 (by decide) ?_
            refine g_fcallV (As := [vi (nI j), vi (nI 1)]) (rest := []) cx knX0_movers (x_movers hP (by decide) hA (i := j) (s := 1) (by omega) (by omega)) a9_0 rfl rfl lmX5_118 niX0_movers seX0_movers rfl (by decide) (Nat.le_of_ble_eq_true rfl) rfl dX5_as_65 ?_
            have hm8 := hml j 1
            refine g_if_leN (tgt := 75) cx dX5_as_68 (by decide) (by omega) (fun h_68 => ?_) (fun h_68 => ?_)
            · skip
              have h68 := h_68
              refine g_iconst (v := nI 0) cx dX5_as_75 (by decide) ?_
              refine g_istore (L' := [some (vr (0, 0)), some (vi (nI j)), some (vi (nI t)), some (vi (nI 0)), some (vi (nI 0))]) cx dX5_as_76 (by decide) rfl rfl ?_
              refine g_iload_n cx dX5_as_78 rfl ?_
              refine g_iload cx dX5_as_79 rfl ?_
              refine g_iaddN cx dX5_as_81 ?_
              exact g_fret cx rq rfl (rfl) dX5_as_82 (by simp [asS, eq_true h_8, eq_true hw, hjx, htx, hti, h50, h68]) (rfl)
            · skip
              have h68 : ¬ mov n a k f j 1 = 0 := by omega
              refine g_iconst (v := nI 2) cx dX5_as_71 (by decide) ?_
              refine g_goto (tgt := 76) cx dX5_as_72 (by decide) ?_
              refine g_istore (L' := [some (vr (0, 0)), some (vi (nI j)), some (vi (nI t)), some (vi (nI 0)), some (vi (nI 2))]) cx dX5_as_76 (by decide) rfl rfl ?_
              refine g_iload_n cx dX5_as_78 rfl ?_
              refine g_iload cx dX5_as_79 rfl ?_
              refine g_iaddN cx dX5_as_81 ?_
              exact g_fret cx rq rfl (rfl) dX5_as_82 (by simp [asS, eq_true h_8, eq_true hw, hjx, htx, hti, h50, h68]) (rfl)
          · skip
            have h50 : ¬ mov n a k f j 0 = 0 := by omega
            refine g_iconst (v := nI 1) cx dX5_as_53 (by decide) ?_
            refine g_goto (tgt := 58) cx dX5_as_54 (by decide) ?_
            refine g_istore_n (L' := [some (vr (0, 0)), some (vi (nI j)), some (vi (nI t)), some (vi (nI 1)), none]) cx dX5_as_58 (by decide) rfl rfl ?_
            refine g_aload_n cx dX5_as_59 rfl ?_
            refine g_getR (i := (0, 0)) (ci := 5) (k := 2) (j := (9, 0)) cx a0_0 rfl rfl rfl (by decide) inX5 lfX5_28 dX5_as_60 ?_
            refine g_iload_n cx dX5_as_63 rfl ?_
            refine g_iconst (v := nI 1) cx dX5_as_64 (by decide) ?_
            refine g_fcallV (As := [vi (nI j), vi (nI 1)]) (rest := []) cx knX0_movers (x_movers hP (by decide) hA (i := j) (s := 1) (by omega) (by omega)) a9_0 rfl rfl lmX5_118 niX0_movers seX0_movers rfl (by decide) (Nat.le_of_ble_eq_true rfl) rfl dX5_as_65 ?_
            have hm8 := hml j 1
            refine g_if_leN (tgt := 75) cx dX5_as_68 (by decide) (by omega) (fun h_68 => ?_) (fun h_68 => ?_)
            · skip
              have h68 := h_68
              refine g_iconst (v := nI 0) cx dX5_as_75 (by decide) ?_
              refine g_istore (L' := [some (vr (0, 0)), some (vi (nI j)), some (vi (nI t)), some (vi (nI 1)), some (vi (nI 0))]) cx dX5_as_76 (by decide) rfl rfl ?_
              refine g_iload_n cx dX5_as_78 rfl ?_
              refine g_iload cx dX5_as_79 rfl ?_
              refine g_iaddN cx dX5_as_81 ?_
              exact g_fret cx rq rfl (rfl) dX5_as_82 (by simp [asS, eq_true h_8, eq_true hw, hjx, htx, hti, h50, h68]) (rfl)
            · skip
              have h68 : ¬ mov n a k f j 1 = 0 := by omega
              refine g_iconst (v := nI 2) cx dX5_as_71 (by decide) ?_
              refine g_goto (tgt := 76) cx dX5_as_72 (by decide) ?_
              refine g_istore (L' := [some (vr (0, 0)), some (vi (nI j)), some (vi (nI t)), some (vi (nI 1)), some (vi (nI 2))]) cx dX5_as_76 (by decide) rfl rfl ?_
              refine g_iload_n cx dX5_as_78 rfl ?_
              refine g_iload cx dX5_as_79 rfl ?_
              refine g_iaddN cx dX5_as_81 ?_
              exact g_fret cx rq rfl (rfl) dX5_as_82 (by simp [asS, eq_true h_8, eq_true hw, hjx, htx, hti, h50, h68]) (rfl)
        · skip
          have hti : isAs (k j) (nI t) = false := by rw [isAs_tak _ hkj _ ht]; simpa using h_35
          refine g_bipush (v := (-4)) cx dX5_as_38 (by decide) ?_
          exact g_fret cx rq rfl (rfl) dX5_as_40 (by simp [asS, eq_true h_8, eq_true hw, hjx, hti]) (rfl)
      · skip
        have hw : ¬ lt0 w 5 = true := le_n (by decide) h_20
        refine g_bipush (v := (-3)) cx dX5_as_23 (by decide) ?_
        exact g_fret cx rq rfl (rfl) dX5_as_25 (by simp [asS, eq_true h_8, eq_false hw]) (rfl)
  · skip
    refine g_bipush (v := (-2)) cx dX5_as_11 (by decide) ?_
    exact g_fret cx rq rfl (rfl) dX5_as_13 (by simp [asS, eq_false h_8]) (rfl)

set_option maxRecDepth 100000 in
set_option maxHeartbeats 4000000 in
theorem x_person {D : Wd} {n : Nat} {k f : Nat → Nat} {dn : Nat} {dr : Nat → Nat} {pn : Nat} (hP : PX D 0 n k f dn dr pn) {pl : Nat → Int32} (hPl : PLX D 0 pn pl) (hPo : PLok n pn pl) (x : Int32) : Fok mX5_person idsA 1 [vr (0, 0), vi x] D (some (vi (personS pn pl x))) D := by
  obtain ⟨hn3, hn8, hN, hK, hF, hd3, hDn, hDr, hp5, hPn⟩ := id hP
  refine Mok.of (L := [some (vr (0, 0)), some (vi x)]) rfl (fun _ => Nat.le_of_ble_eq_true rfl) (fun _ => rfl) (fun X cx rq => ?_)
  refine g_aload_n cx dX5_person_0 rfl ?_
  refine g_iload_n cx dX5_person_1 rfl ?_
  refine g_fcallV (As := [vi x]) (rest := []) cx knX5_isPerson (x_isPerson hP x) a0_0 rfl rfl lmX5_122 niX5_isPerson seX5_isPerson rfl (by decide) (Nat.le_of_ble_eq_true rfl) rfl dX5_person_2 ?_
  refine g_if_eqB (tgt := 20) cx dX5_person_5 (by decide) (fun h_5 => ?_) (fun h_5 => ?_)
  · skip
    refine g_bipush (v := (-2)) cx dX5_person_20 (by decide) ?_
    exact g_fret cx rq rfl (rfl) dX5_person_22 (by simp [personS, eq_false h_5]) (rfl)
  · skip
    obtain ⟨j, hj, rfl⟩ := lt0_nI h_5
    have hjx : (nI j).toNatClampNeg = j := nI_clamp (by omega)
    have hji : ix (nI j) = j := hjx
    refine g_aload_n cx dX5_person_8 rfl ?_
    refine g_getR (i := (0, 0)) (ci := 5) (k := 2) (j := (9, 0)) cx a0_0 rfl rfl rfl (by decide) inX5 lfX5_28 dX5_person_9 ?_
    refine g_getR (i := (9, 0)) (ci := 0) (k := 2) (j := (11, 0)) cx a9_0 rfl rfl rfl (by decide) inX0 lfX5_125 dX5_person_12 ?_
    refine g_iload_n cx dX5_person_15 rfl ?_
    refine g_ialdN (i := (11, 0)) (j := j) (v := (pl j)) cx a11_0 rfl (rfl) (by omega) (by decide) dX5_person_16 (hPl j (by omega)) ?_
    refine g_goto (tgt := 22) cx dX5_person_17 (by decide) ?_
    exact g_fret cx rq rfl (rfl) dX5_person_22 (by simp [personS, eq_true h_5, hjx]) (rfl)

set_option maxRecDepth 100000 in
set_option maxHeartbeats 4000000 in
theorem x_push {D : Wd} {n : Nat} {k f : Nat → Nat} {dn : Nat} {dr : Nat → Nat} {pn : Nat} (hP : PX D 0 n k f dn dr pn) {a : Nat → Nat} (hA : AX D 0 n a) (x s y : Int32) : Fok mX5_push idsA 5 [vr (0, 0), vi x, vi s, vi y] D (some (vi (pushS n k f a x s y))) (RX D 0 n (pushA n k f a x s y)) := by
  obtain ⟨hn3, hn8, hN, hK, hF, hd3, hDn, hDr, hp5, hPn⟩ := id hP
  refine Mok.of (L := [some (vr (0, 0)), some (vi x), some (vi s), some (vi y), none]) rfl (fun _ => Nat.le_of_ble_eq_true rfl) (fun _ => rfl) (fun X cx rq => ?_)
  refine g_aload_n cx dX5_push_0 rfl ?_
  refine g_getR (i := (0, 0)) (ci := 5) (k := 0) (j := (1, 0)) cx a0_0 rfl rfl rfl (by decide) inX5 lfX5_10 dX5_push_1 ?_
  refine g_iload_n cx dX5_push_4 rfl ?_
  refine g_fcallV (As := [vi x]) (rest := []) cx knX1_has (x_has hP (by decide) x) a1_0 rfl rfl lmX5_87 niX1_has seX1_has rfl (by decide) (Nat.le_of_ble_eq_true rfl) rfl dX5_push_5 ?_
  refine g_if_neB (tgt := 14) cx dX5_push_8 (by decide) (fun h_8 => ?_) (fun h_8 => ?_)
  · skip
    obtain ⟨j, hj, rfl⟩ := lt0_nI h_8
    have hjx : (nI j).toNatClampNeg = j := nI_clamp (by omega)
    have hji : ix (nI j) = j := hjx
    refine g_iload_n cx dX5_push_14 rfl ?_
    refine g_fcallS (As := [vi s]) (rest := []) cx knX5_isSide (x_isSide s) lmX5_128 nsX5_isSide rfl (by decide) (Nat.le_of_ble_eq_true rfl) rfl dX5_push_15 ?_
    refine g_if_eqB (tgt := 32) cx dX5_push_18 (by decide) (fun h_18 => ?_) (fun h_18 => ?_)
    · skip
      refine g_bipush (v := (-3)) cx dX5_push_32 (by decide) ?_
      exact g_fret cx rq rfl (rfl) dX5_push_34 (by simp [pushS, eq_true h_8, eq_false h_18]) (by simp only [pushA, eq_true h_8, eq_false h_18, if_true, Bool.and_eq_true, false_and, and_false, if_false]; exact (RX.self hA).symm)
    · skip
      obtain ⟨t, ht, rfl⟩ := lt0_nI h_18
      have htx : (nI t).toNatClampNeg = t := nI_clamp (by omega)
      have hti : ix (nI t) = t := htx
      refine g_iload_n cx dX5_push_21 rfl ?_
      refine g_iconst (v := nI 1) cx dX5_push_22 (by decide) ?_
      refine g_icmp_lt (tgt := 32) cx dX5_push_23 (by decide) (fun h_23 => ?_) (fun h_23 => ?_)
      · skip
        have hw : ¬ rng y 1 72 = true := rg_n1 (by decide) h_23
        refine g_bipush (v := (-3)) cx dX5_push_32 (by decide) ?_
        exact g_fret cx rq rfl (rfl) dX5_push_34 (by simp [pushS, eq_true h_8, eq_false hw]) (by simp only [pushA, eq_true h_8, eq_false hw, if_true, Bool.and_eq_true, false_and, and_false, if_false]; exact (RX.self hA).symm)
      · skip
        refine g_iload_n cx dX5_push_26 rfl ?_
        refine g_bipush (v := nI 72) cx dX5_push_27 (by decide) ?_
        refine g_icmp_le (tgt := 35) cx dX5_push_29 (by decide) (fun h_29 => ?_) (fun h_29 => ?_)
        · skip
          have hw : rng y 1 72 = true := rg_y (by decide) (by decide) h_23 h_29
          obtain ⟨d, hda, hdb, rfl⟩ := rng_nI hw
          have hdx : (nI d).toNatClampNeg = d := nI_clamp (by omega)
          have hdi : ix (nI d) = d := hdx
          refine g_iconst (v := nI 0) cx dX5_push_35 (by decide) ?_
          refine g_istore (L' := [some (vr (0, 0)), some (vi (nI j)), some (vi (nI t)), some (vi (nI d)), some (vi (nI 0))]) cx dX5_push_36 (by decide) rfl rfl ?_
          have lp : ∀ (fu : Nat) (c : Nat) (ac : Nat → Nat), d - c < fu → (c ≤ d) → (∀ j, j < n → ac j < 72) → (c + (psh n k f j t (d - c) ac).1 = (psh n k f j t d a).1 ∧ (psh n k f j t (d - c) ac).2 = (psh n k f j t d a).2) → Gk X mX5_push idsA 38 [some (vr (0, 0)), some (vi (nI j)), some (vi (nI t)), some (vi (nI d)), some (vi (nI c))] [] (RX D 0 n ac) := by
            intro fu
            induction fu with
            | zero => intro c ac hfu; exact absurd hfu (Nat.not_lt_zero _)
            | succ fu ih =>
              intro c ac hfu hc hac hm
              refine g_iload cx dX5_push_38 rfl ?_
              refine g_iload_n cx dX5_push_40 rfl ?_
              refine g_icmp_geN (tgt := 62) cx dX5_push_41 (by decide) (by omega) (by omega) (fun h_41 => ?_) (fun h_41 => ?_)
              · skip
                have e9 : d - c = 0 := by omega
                rw [e9] at hm
                refine g_iload cx dX5_push_62 rfl ?_
                exact g_fret cx rq rfl (rfl) dX5_push_64 (by simp only [pushS, eq_true h_8, eq_true h_18, eq_true hw, hjx, htx, hdx, Bool.and_eq_true, and_self, if_true]; rw [← hm.1]; rfl) (by simp only [pushA, eq_true h_8, eq_true h_18, eq_true hw, hjx, htx, hdx, Bool.and_eq_true, and_self, if_true]; rw [← hm.2]; rfl)
              · skip
                obtain ⟨z, hz⟩ : ∃ z, d - c = z + 1 := ⟨d - c - 1, by omega⟩
                rw [hz, psh] at hm
                refine g_aload_n cx dX5_push_44 rfl ?_
                refine g_getR (i := (0, 0)) (ci := 5) (k := 2) (j := (9, 0)) cx a0_0 rfl rfl rfl (by decide) inX5 lfX5_28 dX5_push_45 ?_
                refine g_iload_n cx dX5_push_48 rfl ?_
                refine g_iload_n cx dX5_push_49 rfl ?_
                refine g_fcallV (As := [vi (nI j), vi (nI t)]) (rest := []) cx knX0_step (x_step (RX.P hP) (by decide) (RX.A hac) (i := j) (s := t) (by omega) (by omega)) a9_0 rfl rfl lmX5_131 niX0_step seX0_step rfl (by decide) (Nat.le_of_ble_eq_true rfl) rfl dX5_push_50 ?_
                refine g_wd (D' := RX D 0 n (stp n ac k f j t)) (RX.twice _ _ _ _ _) ?_
                refine g_if_eqB (tgt := 62) cx dX5_push_53 (by decide) (fun h_53 => ?_) (fun h_53 => ?_)
                · skip
                  have h0 : mov n ac k f j t = 0 := by omega
                  rw [if_pos h0] at hm
                  refine g_iload cx dX5_push_62 rfl ?_
                  exact g_fret cx rq rfl (rfl) dX5_push_64 (by simp only [pushS, eq_true h_8, eq_true h_18, eq_true hw, hjx, htx, hdx, Bool.and_eq_true, and_self, if_true]; rw [← hm.1]; rfl) (by simp only [pushA, eq_true h_8, eq_true h_18, eq_true hw, hjx, htx, hdx, Bool.and_eq_true, and_self, if_true]; rw [← hm.2, stp_0 h0])
                · skip
                  rw [if_neg (by omega)] at hm
                  have hm2 : (c + 1) + (psh n k f j t (d - (c + 1)) (stp n ac k f j t)).1 = (psh n k f j t d a).1 ∧ (psh n k f j t (d - (c + 1)) (stp n ac k f j t)).2 = (psh n k f j t d a).2 := by
                    have e9 : d - (c + 1) = z := by omega
                    rw [e9]
                    exact ⟨by have := hm.1; omega, hm.2⟩
                  refine g_iincN (L' := [some (vr (0, 0)), some (vi (nI j)), some (vi (nI t)), some (vi (nI d)), some (vi (nI (c + 1)))]) cx dX5_push_56 rfl (by decide) rfl rfl ?_
                  refine g_goto (tgt := 38) cx dX5_push_59 (by decide) ?_
                  exact ih (c + 1) (stp n ac k f j t) (by omega) (by omega) (fun j hj => stp_lt (hac j hj)) hm2
          refine g_wd (D' := RX D 0 n a) ((RX.self hA).symm) ?_
          exact lp (d + 1) 0 a (by omega) (by omega) (fun j hj => (hA j hj).2) (⟨Nat.zero_add _, rfl⟩)
        · skip
          have hw : ¬ rng y 1 72 = true := rg_n2 (by decide) h_29
          refine g_bipush (v := (-3)) cx dX5_push_32 (by decide) ?_
          exact g_fret cx rq rfl (rfl) dX5_push_34 (by simp [pushS, eq_true h_8, eq_false hw]) (by simp only [pushA, eq_true h_8, eq_false hw, if_true, Bool.and_eq_true, false_and, and_false, if_false]; exact (RX.self hA).symm)
  · skip
    refine g_bipush (v := (-2)) cx dX5_push_11 (by decide) ?_
    exact g_fret cx rq rfl (rfl) dX5_push_13 (by simp [pushS, eq_false h_8]) (by simp only [pushA, eq_false h_8, if_false]; exact (RX.self hA).symm)

set_option maxRecDepth 100000 in
set_option maxHeartbeats 4000000 in
theorem x_hours {D : Wd} {n : Nat} {k f : Nat → Nat} {dn : Nat} {dr : Nat → Nat} {pn : Nat} (hP : PX D 0 n k f dn dr pn) {a : Nat → Nat} (hA : AX D 0 n a) {hm : Nat → Nat} (hH : HX D 0 n hm) {hr : Nat} (hHr : D (9, 0) 3 = nI hr) (hr9 : hr ≤ 9999) (x : Int32) : Fok mX5_hours idsA 5 [vr (0, 0), vi x] D (some (vi (hoursS hr x))) (if rng x 1 99 && decide (hr + ix x ≤ 9999) then HrX D n (hrN n k f hm (ix x) a) (hr + ix x) else D) := by
  obtain ⟨hn3, hn8, hN, hK, hF, hd3, hDn, hDr, hp5, hPn⟩ := id hP
  refine Mok.of (L := [some (vr (0, 0)), some (vi x), none]) rfl (fun _ => Nat.le_of_ble_eq_true rfl) (fun _ => rfl) (fun X cx rq => ?_)
  refine g_iload_n cx dX5_hours_0 rfl ?_
  refine g_iconst (v := nI 1) cx dX5_hours_1 (by decide) ?_
  refine g_icmp_lt (tgt := 11) cx dX5_hours_2 (by decide) (fun h_2 => ?_) (fun h_2 => ?_)
  · skip
    have hw : ¬ rng x 1 99 = true := rg_n1 (by decide) h_2
    refine g_bipush (v := (-3)) cx dX5_hours_11 (by decide) ?_
    exact g_fret cx rq rfl (rfl) dX5_hours_13 (by simp [hoursS, eq_false hw]) (by simp [eq_false hw])
  · skip
    refine g_iload_n cx dX5_hours_5 rfl ?_
    refine g_bipush (v := nI 99) cx dX5_hours_6 (by decide) ?_
    refine g_icmp_le (tgt := 14) cx dX5_hours_8 (by decide) (fun h_8 => ?_) (fun h_8 => ?_)
    · skip
      have hw : rng x 1 99 = true := rg_y (by decide) (by decide) h_2 h_8
      obtain ⟨j, hja, hjb, rfl⟩ := rng_nI hw
      have hjx : (nI j).toNatClampNeg = j := nI_clamp (by omega)
      have hji : ix (nI j) = j := hjx
      refine g_aload_n cx dX5_hours_14 rfl ?_
      refine g_getR (i := (0, 0)) (ci := 5) (k := 2) (j := (9, 0)) cx a0_0 rfl rfl rfl (by decide) inX5 lfX5_28 dX5_hours_15 ?_
      refine g_getIN (i := (9, 0)) (ci := 0) (k := 3) (v := nI hr) cx a9_0 rfl rfl rfl (by decide) inX0 lfX5_134 dX5_hours_18 (hHr) ?_
      refine g_iload_n cx dX5_hours_21 rfl ?_
      refine g_iaddN cx dX5_hours_22 ?_
      refine g_sipush (v := nI 9999) cx dX5_hours_23 (by decide) ?_
      refine g_icmp_leN (tgt := 32) cx dX5_hours_26 (by decide) (by omega) (by omega) (fun h_26 => ?_) (fun h_26 => ?_)
      · skip
        have h26b : ¬ 9999 < hr + j := by omega
        refine g_iconst (v := nI 0) cx dX5_hours_32 (by decide) ?_
        refine g_istore_n (L' := [some (vr (0, 0)), some (vi (nI j)), some (vi (nI 0))]) cx dX5_hours_33 (by decide) rfl rfl ?_
        have lp : ∀ (fu : Nat) (q : Nat), j - q < fu → (q ≤ j) → Gk X mX5_hours idsA 34 [some (vr (0, 0)), some (vi (nI j)), some (vi (nI q))] [] (HrX D n (hrN n k f hm q a) (hr + q)) := by
          intro fu
          induction fu with
          | zero => intro q hfu; exact absurd hfu (Nat.not_lt_zero _)
          | succ fu ih =>
            intro q hfu hq
            have hac := hrN_lt (k := k) (f := f) (hm := hm) q a (fun j hj => (hA j hj).2)
            refine g_iload_n cx dX5_hours_34 rfl ?_
            refine g_iload_n cx dX5_hours_35 rfl ?_
            refine g_icmp_geN (tgt := 52) cx dX5_hours_36 (by decide) (by omega) (by omega) (fun h_36 => ?_) (fun h_36 => ?_)
            · skip
              have e9 : q = j := by omega
              subst e9
              refine g_aload_n cx dX5_hours_52 rfl ?_
              refine g_getR (i := (0, 0)) (ci := 5) (k := 2) (j := (9, 0)) cx a0_0 rfl rfl rfl (by decide) inX5 lfX5_28 dX5_hours_53 ?_
              refine g_getIN (i := (9, 0)) (ci := 0) (k := 3) (v := nI (hr + q)) cx a9_0 rfl rfl rfl (by decide) inX0 lfX5_134 dX5_hours_56 (HrX.R) ?_
              exact g_fret cx rq rfl (rfl) dX5_hours_59 (by simp [hoursS, eq_true hw, hjx, h26b]) (by simp [eq_true hw, hjx, h_26])
            · skip
              refine g_aload_n cx dX5_hours_39 rfl ?_
              refine g_getR (i := (0, 0)) (ci := 5) (k := 2) (j := (9, 0)) cx a0_0 rfl rfl rfl (by decide) inX5 lfX5_28 dX5_hours_40 ?_
              refine g_fcallVv (As := []) (rest := []) cx knX0_passHour (x_passHour (HrX.P hP) (by decide) (HrX.A hac) (HrX.H hH) HrX.R) a9_0 rfl rfl lmX5_137 niX0_passHour seX0_passHour rfl (by decide) (Nat.le_of_ble_eq_true rfl) rfl dX5_hours_43 ?_
              refine g_iincN (L' := [some (vr (0, 0)), some (vi (nI j)), some (vi (nI (q + 1)))]) cx dX5_hours_46 rfl (by decide) rfl rfl ?_
              refine g_goto (tgt := 34) cx dX5_hours_49 (by decide) ?_
              refine g_wd (D' := HrX D n (hrN n k f hm (q + 1) a) (hr + (q + 1))) (HrX.twice D n _ _ _ _) ?_
              exact ih (q + 1) (by omega) (by omega)
        refine g_wd (D' := HrX D n (hrN n k f hm 0 a) (hr + 0)) (HrX.self hA hHr) ?_
        exact lp (j + 1) 0 (by omega) (by omega)
      · skip
        have h26b : ¬ hr + j ≤ 9999 := by omega
        refine g_bipush (v := (-5)) cx dX5_hours_29 (by decide) ?_
        exact g_fret cx rq rfl (rfl) dX5_hours_31 (by simp [hoursS, eq_true hw, hjx, h_26]) (by simp [hjx, h26b])
    · skip
      have hw : ¬ rng x 1 99 = true := rg_n2 (by decide) h_8
      refine g_bipush (v := (-3)) cx dX5_hours_11 (by decide) ?_
      exact g_fret cx rq rfl (rfl) dX5_hours_13 (by simp [hoursS, eq_false hw]) (by simp [eq_false hw])

set_option maxRecDepth 100000 in
set_option maxHeartbeats 4000000 in
theorem x_leave {D : Wd} {n : Nat} {k f : Nat → Nat} {dn : Nat} {dr : Nat → Nat} {pn : Nat} (hP : PX D 0 n k f dn dr pn) {a : Nat → Nat} (hA : AX D 0 n a) {pl : Nat → Int32} (hPl : PLX D 0 pn pl) (hPo : PLok n pn pl) (x : Int32) : Fok mX5_leave idsA 3 [vr (0, 0), vi x] D (some (vi (leaveS n a dn dr pn pl x))) (if leaveOk n a dn dr pn pl x then upA D (11, 0) (upd (D (11, 0)) (ix x) (-1)) else D) := by
  obtain ⟨hn3, hn8, hN, hK, hF, hd3, hDn, hDr, hp5, hPn⟩ := id hP
  refine Mok.of (L := [some (vr (0, 0)), some (vi x), none]) rfl (fun _ => Nat.le_of_ble_eq_true rfl) (fun _ => rfl) (fun X cx rq => ?_)
  refine g_aload_n cx dX5_leave_0 rfl ?_
  refine g_iload_n cx dX5_leave_1 rfl ?_
  refine g_fcallV (As := [vi x]) (rest := []) cx knX5_isPerson (x_isPerson hP x) a0_0 rfl rfl lmX5_122 niX5_isPerson seX5_isPerson rfl (by decide) (Nat.le_of_ble_eq_true rfl) rfl dX5_leave_2 ?_
  refine g_if_neB (tgt := 11) cx dX5_leave_5 (by decide) (fun h_5 => ?_) (fun h_5 => ?_)
  · skip
    obtain ⟨j, hj, rfl⟩ := lt0_nI h_5
    have hjx : (nI j).toNatClampNeg = j := nI_clamp (by omega)
    have hji : ix (nI j) = j := hjx
    refine g_aload_n cx dX5_leave_11 rfl ?_
    refine g_getR (i := (0, 0)) (ci := 5) (k := 2) (j := (9, 0)) cx a0_0 rfl rfl rfl (by decide) inX5 lfX5_28 dX5_leave_12 ?_
    refine g_getR (i := (9, 0)) (ci := 0) (k := 2) (j := (11, 0)) cx a9_0 rfl rfl rfl (by decide) inX0 lfX5_125 dX5_leave_15 ?_
    refine g_iload_n cx dX5_leave_18 rfl ?_
    refine g_ialdN (i := (11, 0)) (j := j) (v := (pl j)) cx a11_0 rfl (rfl) (by omega) (by decide) dX5_leave_19 (hPl j (by omega)) ?_
    refine g_istore_n (L' := [some (vr (0, 0)), some (vi (nI j)), some (vi (pl j))]) cx dX5_leave_20 (by decide) rfl rfl ?_
    refine g_iload_n cx dX5_leave_21 rfl ?_
    refine g_iconst (v := (-1)) cx dX5_leave_22 (by decide) ?_
    refine g_icmp_eq (tgt := 37) cx dX5_leave_23 (by decide) (fun h_23 => ?_) (fun h_23 => ?_)
    · skip
      refine g_bipush (v := (-4)) cx dX5_leave_37 (by decide) ?_
      exact g_fret cx rq rfl (rfl) dX5_leave_39 (by simp [leaveS, leaveOk, eq_true h_5, hjx, eq_true h_23]) (by simp [leaveOk, eq_true h_5, hjx, eq_true h_23])
    · skip
      obtain ⟨rr, hrr, he⟩ : ∃ rr, rr < n ∧ pl j = nI rr := (hPo j hj).resolve_left h_23
      have hrx : (nI rr).toNatClampNeg = rr := nI_clamp (by omega)
      refine g_loc (L' := [some (vr (0, 0)), some (vi (nI j)), some (vi (nI rr))]) (by rw [he]) ?_
      refine g_aload_n cx dX5_leave_26 rfl ?_
      refine g_getR (i := (0, 0)) (ci := 5) (k := 2) (j := (9, 0)) cx a0_0 rfl rfl rfl (by decide) inX5 lfX5_28 dX5_leave_27 ?_
      refine g_iload_n cx dX5_leave_30 rfl ?_
      refine g_fcallV (As := [vi (nI rr)]) (rest := []) cx knX0_isOpen (x_isOpen hP (by decide) hA (i := rr) (by omega)) a9_0 rfl rfl lmX5_108 niX0_isOpen seX0_isOpen rfl (by decide) (Nat.le_of_ble_eq_true rfl) rfl dX5_leave_31 ?_
      refine g_if_neB (tgt := 40) cx dX5_leave_34 (by decide) (fun h_34 => ?_) (fun h_34 => ?_)
      · skip
        refine g_aload_n cx dX5_leave_40 rfl ?_
        refine g_getR (i := (0, 0)) (ci := 5) (k := 2) (j := (9, 0)) cx a0_0 rfl rfl rfl (by decide) inX5 lfX5_28 dX5_leave_41 ?_
        refine g_getR (i := (9, 0)) (ci := 0) (k := 2) (j := (11, 0)) cx a9_0 rfl rfl rfl (by decide) inX0 lfX5_125 dX5_leave_44 ?_
        refine g_iload_n cx dX5_leave_47 rfl ?_
        refine g_iconst (v := (-1)) cx dX5_leave_48 (by decide) ?_
        refine g_iast (i := (11, 0)) (j := j) cx a11_0 rfl (rfl) (by omega) (by decide) dX5_leave_49 ?_
        refine g_iload_n cx dX5_leave_50 rfl ?_
        exact g_fret cx rq rfl (rfl) dX5_leave_51 (by rw [he] at h_23; simp [leaveS, leaveOk, eq_true h_5, hjx, he, hrx, eq_true h_34, eq_false h_23]) (by rw [he] at h_23; simp [leaveOk, eq_true h_5, hjx, he, hrx, eq_true h_34, eq_false h_23])
      · skip
        refine g_bipush (v := (-4)) cx dX5_leave_37 (by decide) ?_
        exact g_fret cx rq rfl (rfl) dX5_leave_39 (by simp [leaveS, leaveOk, eq_true h_5, hjx, he, hrx, eq_false h_34]) (by simp [leaveOk, eq_true h_5, hjx, he, hrx, eq_false h_34])
  · skip
    refine g_bipush (v := (-2)) cx dX5_leave_8 (by decide) ?_
    exact g_fret cx rq rfl (rfl) dX5_leave_10 (by simp [leaveS, eq_false h_5]) (by simp [leaveOk, eq_false h_5])

set_option maxRecDepth 100000 in
set_option maxHeartbeats 4000000 in
theorem x_enter {D : Wd} {n : Nat} {k f : Nat → Nat} {dn : Nat} {dr : Nat → Nat} {pn : Nat} (hP : PX D 0 n k f dn dr pn) {a : Nat → Nat} (hA : AX D 0 n a) {pl : Nat → Int32} (hPl : PLX D 0 pn pl) (hPo : PLok n pn pl) (x y : Int32) : Fok mX5_enter idsA 3 [vr (0, 0), vi x, vi y] D (some (vi (enterS n a dn dr pn pl x y))) (if enterOk n a dn dr pn pl x y then upA D (11, 0) (upd (D (11, 0)) (ix x) y) else D) := by
  obtain ⟨hn3, hn8, hN, hK, hF, hd3, hDn, hDr, hp5, hPn⟩ := id hP
  refine Mok.of (L := [some (vr (0, 0)), some (vi x), some (vi y)]) rfl (fun _ => Nat.le_of_ble_eq_true rfl) (fun _ => rfl) (fun X cx rq => ?_)
  refine g_aload_n cx dX5_enter_0 rfl ?_
  refine g_iload_n cx dX5_enter_1 rfl ?_
  refine g_fcallV (As := [vi x]) (rest := []) cx knX5_isPerson (x_isPerson hP x) a0_0 rfl rfl lmX5_122 niX5_isPerson seX5_isPerson rfl (by decide) (Nat.le_of_ble_eq_true rfl) rfl dX5_enter_2 ?_
  refine g_if_eqB (tgt := 19) cx dX5_enter_5 (by decide) (fun h_5 => ?_) (fun h_5 => ?_)
  · skip
    refine g_bipush (v := (-2)) cx dX5_enter_19 (by decide) ?_
    exact g_fret cx rq rfl (rfl) dX5_enter_21 (by simp [enterS, eq_false h_5]) (by simp [enterOk, eq_false h_5])
  · skip
    obtain ⟨j, hj, rfl⟩ := lt0_nI h_5
    have hjx : (nI j).toNatClampNeg = j := nI_clamp (by omega)
    have hji : ix (nI j) = j := hjx
    refine g_aload_n cx dX5_enter_8 rfl ?_
    refine g_getR (i := (0, 0)) (ci := 5) (k := 0) (j := (1, 0)) cx a0_0 rfl rfl rfl (by decide) inX5 lfX5_10 dX5_enter_9 ?_
    refine g_iload_n cx dX5_enter_12 rfl ?_
    refine g_fcallV (As := [vi y]) (rest := []) cx knX1_has (x_has hP (by decide) y) a1_0 rfl rfl lmX5_87 niX1_has seX1_has rfl (by decide) (Nat.le_of_ble_eq_true rfl) rfl dX5_enter_13 ?_
    refine g_if_neB (tgt := 22) cx dX5_enter_16 (by decide) (fun h_16 => ?_) (fun h_16 => ?_)
    · skip
      obtain ⟨t, ht, rfl⟩ := lt0_nI h_16
      have htx : (nI t).toNatClampNeg = t := nI_clamp (by omega)
      have hti : ix (nI t) = t := htx
      refine g_aload_n cx dX5_enter_22 rfl ?_
      refine g_getR (i := (0, 0)) (ci := 5) (k := 2) (j := (9, 0)) cx a0_0 rfl rfl rfl (by decide) inX5 lfX5_28 dX5_enter_23 ?_
      refine g_getR (i := (9, 0)) (ci := 0) (k := 2) (j := (11, 0)) cx a9_0 rfl rfl rfl (by decide) inX0 lfX5_125 dX5_enter_26 ?_
      refine g_iload_n cx dX5_enter_29 rfl ?_
      refine g_ialdN (i := (11, 0)) (j := j) (v := (pl j)) cx a11_0 rfl (rfl) (by omega) (by decide) dX5_enter_30 (hPl j (by omega)) ?_
      refine g_iconst (v := (-1)) cx dX5_enter_31 (by decide) ?_
      refine g_icmp_ne (tgt := 46) cx dX5_enter_32 (by decide) (fun h_32 => ?_) (fun h_32 => ?_)
      · skip
        refine g_bipush (v := (-4)) cx dX5_enter_46 (by decide) ?_
        exact g_fret cx rq rfl (rfl) dX5_enter_48 (by simp [enterS, enterOk, eq_true h_5, eq_true h_16, hjx, htx, eq_false h_32]) (by simp [enterOk, eq_true h_5, eq_true h_16, hjx, htx, eq_false h_32])
      · skip
        refine g_aload_n cx dX5_enter_35 rfl ?_
        refine g_getR (i := (0, 0)) (ci := 5) (k := 2) (j := (9, 0)) cx a0_0 rfl rfl rfl (by decide) inX5 lfX5_28 dX5_enter_36 ?_
        refine g_iload_n cx dX5_enter_39 rfl ?_
        refine g_fcallV (As := [vi (nI t)]) (rest := []) cx knX0_isOpen (x_isOpen hP (by decide) hA (i := t) (by omega)) a9_0 rfl rfl lmX5_108 niX0_isOpen seX0_isOpen rfl (by decide) (Nat.le_of_ble_eq_true rfl) rfl dX5_enter_40 ?_
        refine g_if_neB (tgt := 49) cx dX5_enter_43 (by decide) (fun h_43 => ?_) (fun h_43 => ?_)
        · skip
          refine g_aload_n cx dX5_enter_49 rfl ?_
          refine g_getR (i := (0, 0)) (ci := 5) (k := 2) (j := (9, 0)) cx a0_0 rfl rfl rfl (by decide) inX5 lfX5_28 dX5_enter_50 ?_
          refine g_getR (i := (9, 0)) (ci := 0) (k := 2) (j := (11, 0)) cx a9_0 rfl rfl rfl (by decide) inX0 lfX5_125 dX5_enter_53 ?_
          refine g_iload_n cx dX5_enter_56 rfl ?_
          refine g_iload_n cx dX5_enter_57 rfl ?_
          refine g_iast (i := (11, 0)) (j := j) cx a11_0 rfl (rfl) (by omega) (by decide) dX5_enter_58 ?_
          refine g_aload_n cx dX5_enter_59 rfl ?_
          refine g_getR (i := (0, 0)) (ci := 5) (k := 2) (j := (9, 0)) cx a0_0 rfl rfl rfl (by decide) inX5 lfX5_28 dX5_enter_60 ?_
          refine g_iload_n cx dX5_enter_63 rfl ?_
          refine g_fcallV (As := [vi (nI t)]) (rest := []) cx knX0_peopleAt (x_peopleAt (PX.up11 hP) (by decide) (PLX.upd hPl) (nI t)) a9_0 rfl rfl lmX5_111 niX0_peopleAt seX0_peopleAt rfl (by decide) (Nat.le_of_ble_eq_true rfl) rfl dX5_enter_64 ?_
          refine g_fcallS (As := [vi (nI (ppl pn (upd pl j (nI t)) (nI t)))]) (rest := []) cx knJ6_bitCount_0f7a4 (x_bitCount (v := ppl pn (upd pl j (nI t)) (nI t)) (Nat.lt_of_lt_of_le (bitsN_lt _ pn) (Nat.pow_le_pow_right (by decide) (by omega : pn ≤ 8)))) lmX5_140 nsJ6_bitCount_0f7a4 rfl (by decide) (Nat.le_of_ble_eq_true rfl) rfl dX5_enter_67 ?_
          exact g_fret cx rq rfl (rfl) dX5_enter_70 (by simp [enterS, enterOk, eq_true h_5, eq_true h_16, hjx, htx, eq_true h_32, eq_true h_43]) (by simp [enterOk, eq_true h_5, eq_true h_16, hjx, htx, eq_true h_32, eq_true h_43])
        · skip
          refine g_bipush (v := (-4)) cx dX5_enter_46 (by decide) ?_
          exact g_fret cx rq rfl (rfl) dX5_enter_48 (by simp [enterS, enterOk, eq_true h_5, eq_true h_16, hjx, htx, eq_true h_32, eq_false h_43]) (by simp [enterOk, eq_true h_5, eq_true h_16, hjx, htx, eq_true h_32, eq_false h_43])
    · skip
      refine g_bipush (v := (-2)) cx dX5_enter_19 (by decide) ?_
      exact g_fret cx rq rfl (rfl) dX5_enter_21 (by simp [enterS, eq_false h_16]) (by simp [enterOk, eq_false h_16])

set_option maxRecDepth 100000 in
set_option maxHeartbeats 4000000 in
theorem x_keep {D : Wd} {hr : Nat} (hHr : D (9, 0) 3 = nI hr) (hr9 : hr ≤ 9999) (x : Int32) : Fok mX5_keep idsA 2 [vr (0, 0), vi x] D (some (vi (if lt0 x 2 then nI hr else -2))) (if lt0 x 2 then upA (CpH D 0 (ix x + 2)) (13, 0) (upd (D (13, 0)) (ix x) (nI 1)) else D) := by
  refine Mok.of (L := [some (vr (0, 0)), some (vi x)]) rfl (fun _ => Nat.le_of_ble_eq_true rfl) (fun _ => rfl) (fun X cx rq => ?_)
  refine g_iload_n cx dX5_keep_0 rfl ?_
  refine g_if_lt (tgt := 9) cx dX5_keep_1 (by decide) (fun h_1 => ?_) (fun h_1 => ?_)
  · skip
    have hw : ¬ lt0 x 2 = true := has_n1 h_1
    refine g_bipush (v := (-2)) cx dX5_keep_9 (by decide) ?_
    exact g_fret cx rq rfl (rfl) dX5_keep_11 (by simp [eq_false hw]) (by simp [eq_false hw])
  · skip
    refine g_iload_n cx dX5_keep_4 rfl ?_
    refine g_iconst (v := nI 2) cx dX5_keep_5 (by decide) ?_
    refine g_icmp_lt (tgt := 12) cx dX5_keep_6 (by decide) (fun h_6 => ?_) (fun h_6 => ?_)
    · skip
      have hw : lt0 x 2 = true := lt_y (by decide) h_1 h_6
      obtain ⟨j, hj, rfl⟩ := lt0_nI hw
      have hjx : (nI j).toNatClampNeg = j := nI_clamp (by omega)
      have hji : ix (nI j) = j := hjx
      refine g_aload_n cx dX5_keep_12 rfl ?_
      refine g_getR (i := (0, 0)) (ci := 5) (k := 4) (j := (12, 0)) cx a0_0 rfl rfl rfl (by decide) inX5 lfX5_35 dX5_keep_13 ?_
      refine g_iload_n cx dX5_keep_16 rfl ?_
      refine g_aald (i := (12, 0)) (j := j) cx a12_0 rfl (rfl) (by omega) (by decide) dX5_keep_17 ?_
      refine g_aload_n cx dX5_keep_18 rfl ?_
      refine g_getR (i := (0, 0)) (ci := 5) (k := 2) (j := (9, 0)) cx a0_0 rfl rfl rfl (by decide) inX5 lfX5_28 dX5_keep_19 ?_
      refine g_fcallVv (As := [vr (9, 0)]) (rest := []) cx knX0_copy (x_copy (g := 0) (h := j + 2) (by decide) (by omega)) (aH9 (j + 2) (by omega)) rfl rfl lmX5_145 niX0_copy seX0_copy rfl (by decide) (Nat.le_of_ble_eq_true rfl) rfl dX5_keep_22 ?_
      refine g_aload_n cx dX5_keep_25 rfl ?_
      refine g_getR (i := (0, 0)) (ci := 5) (k := 5) (j := (13, 0)) cx a0_0 rfl rfl rfl (by decide) inX5 lfX5_39 dX5_keep_26 ?_
      refine g_iload_n cx dX5_keep_29 rfl ?_
      refine g_iconst (v := nI 1) cx dX5_keep_30 (by decide) ?_
      refine g_zast (i := (13, 0)) (j := j) (v' := nI 1) cx a13_0 rfl (rfl) (by omega) (by decide) rfl dX5_keep_31 ?_
      refine g_aload_n cx dX5_keep_32 rfl ?_
      refine g_getR (i := (0, 0)) (ci := 5) (k := 2) (j := (9, 0)) cx a0_0 rfl rfl rfl (by decide) inX5 lfX5_28 dX5_keep_33 ?_
      refine g_getIN (i := (9, 0)) (ci := 0) (k := 3) (v := nI hr) cx a9_0 rfl rfl rfl (by decide) inX0 lfX5_134 dX5_keep_36 (by rw [upA_n _ _ (by decide), CpH.at (fun e => by have := congrArg Prod.snd e; dsimp only at this; omega) (neK (by decide) _ _) (neK (by decide) _ _)]; exact hHr) ?_
      exact g_fret cx rq rfl (rfl) dX5_keep_39 (by simp [eq_true hw]) (by simp only [eq_true hw, if_true, hjx]; rw [CpH.o (i := (13, 0)) (by decide) (by decide) (by decide)])
    · skip
      have hw : ¬ lt0 x 2 = true := lt_n (by decide) h_6
      refine g_bipush (v := (-2)) cx dX5_keep_9 (by decide) ?_
      exact g_fret cx rq rfl (rfl) dX5_keep_11 (by simp [eq_false hw]) (by simp [eq_false hw])

set_option maxRecDepth 100000 in
set_option maxHeartbeats 4000000 in
theorem x_back {D : Wd} {kp : Nat → Nat} (hKf : ∀ q, q < 2 → D (13, 0) q = nI (kp q) ∧ kp q < 2) (x : Int32) : Fok mX5_back idsA 2 [vr (0, 0), vi x] D (some (vi (if lt0 x 2 then (if kp (ix x) = 0 then -4 else D (9, ix x + 2) 3) else -2))) (if lt0 x 2 && decide (kp (ix x) ≠ 0) then CpH D (ix x + 2) 0 else D) := by
  refine Mok.of (L := [some (vr (0, 0)), some (vi x)]) rfl (fun _ => Nat.le_of_ble_eq_true rfl) (fun _ => rfl) (fun X cx rq => ?_)
  refine g_iload_n cx dX5_back_0 rfl ?_
  refine g_if_lt (tgt := 9) cx dX5_back_1 (by decide) (fun h_1 => ?_) (fun h_1 => ?_)
  · skip
    have hw : ¬ lt0 x 2 = true := has_n1 h_1
    refine g_bipush (v := (-2)) cx dX5_back_9 (by decide) ?_
    exact g_fret cx rq rfl (rfl) dX5_back_11 (by simp [eq_false hw]) (by simp [eq_false hw])
  · skip
    refine g_iload_n cx dX5_back_4 rfl ?_
    refine g_iconst (v := nI 2) cx dX5_back_5 (by decide) ?_
    refine g_icmp_lt (tgt := 12) cx dX5_back_6 (by decide) (fun h_6 => ?_) (fun h_6 => ?_)
    · skip
      have hw : lt0 x 2 = true := lt_y (by decide) h_1 h_6
      obtain ⟨j, hj, rfl⟩ := lt0_nI hw
      have hjx : (nI j).toNatClampNeg = j := nI_clamp (by omega)
      have hji : ix (nI j) = j := hjx
      refine g_aload_n cx dX5_back_12 rfl ?_
      refine g_getR (i := (0, 0)) (ci := 5) (k := 5) (j := (13, 0)) cx a0_0 rfl rfl rfl (by decide) inX5 lfX5_39 dX5_back_13 ?_
      refine g_iload_n cx dX5_back_16 rfl ?_
      refine g_zald (i := (13, 0)) (j := j) cx a13_0 rfl (rfl) (by omega) (by decide) dX5_back_17 ?_
      refine g_top (y := nI (kp j)) ((hKf j (by omega)).1) ?_
      have hkj := (hKf j (by omega)).2
      refine g_if_neN (tgt := 24) cx dX5_back_18 (by decide) (by omega) (fun h_18 => ?_) (fun h_18 => ?_)
      · skip
        refine g_aload_n cx dX5_back_24 rfl ?_
        refine g_getR (i := (0, 0)) (ci := 5) (k := 2) (j := (9, 0)) cx a0_0 rfl rfl rfl (by decide) inX5 lfX5_28 dX5_back_25 ?_
        refine g_aload_n cx dX5_back_28 rfl ?_
        refine g_getR (i := (0, 0)) (ci := 5) (k := 4) (j := (12, 0)) cx a0_0 rfl rfl rfl (by decide) inX5 lfX5_35 dX5_back_29 ?_
        refine g_iload_n cx dX5_back_32 rfl ?_
        refine g_aald (i := (12, 0)) (j := j) cx a12_0 rfl (rfl) (by omega) (by decide) dX5_back_33 ?_
        refine g_fcallVv (As := [vr (9, j + 2)]) (rest := []) cx knX0_copy (x_copy (g := j + 2) (h := 0) (by omega) (by decide)) a9_0 rfl rfl lmX5_145 niX0_copy seX0_copy rfl (by decide) (Nat.le_of_ble_eq_true rfl) rfl dX5_back_34 ?_
        refine g_aload_n cx dX5_back_37 rfl ?_
        refine g_getR (i := (0, 0)) (ci := 5) (k := 2) (j := (9, 0)) cx a0_0 rfl rfl rfl (by decide) inX5 lfX5_28 dX5_back_38 ?_
        refine g_getIN (i := (9, 0)) (ci := 0) (k := 3) (v := (D (9, j + 2) 3)) cx a9_0 rfl rfl rfl (by decide) inX0 lfX5_134 dX5_back_41 (CpH.r) ?_
        exact g_fret cx rq rfl (rfl) dX5_back_44 (by simp [eq_true hw, hjx, h_18]) (by simp [eq_true hw, hjx, h_18])
      · skip
        refine g_bipush (v := (-4)) cx dX5_back_21 (by decide) ?_
        exact g_fret cx rq rfl (rfl) dX5_back_23 (by simp [eq_true hw, hjx, h_18]) (by simp [hjx, h_18])
    · skip
      have hw : ¬ lt0 x 2 = true := lt_n (by decide) h_6
      refine g_bipush (v := (-2)) cx dX5_back_9 (by decide) ?_
      exact g_fret cx rq rfl (rfl) dX5_back_11 (by simp [eq_false hw]) (by simp [eq_false hw])

set_option maxRecDepth 100000 in
set_option maxHeartbeats 4000000 in
theorem x_slam {D : Wd} {n : Nat} {k f : Nat → Nat} {dn : Nat} {dr : Nat → Nat} {pn : Nat} (hP : PX D 0 n k f dn dr pn) {a : Nat → Nat} (hA : AX D 0 n a) (hW : ∀ r, r < n → f r + 1 ≤ wid n a r) (x s w : Int32) : Fok mX5_slam idsA 3 [vr (0, 0), vi x, vi s, vi w] D (some (vi (slamS n k f a x s w))) D := by
  obtain ⟨hn3, hn8, hN, hK, hF, hd3, hDn, hDr, hp5, hPn⟩ := id hP
  refine Mok.of (L := [some (vr (0, 0)), some (vi x), some (vi s), some (vi w)]) rfl (fun _ => Nat.le_of_ble_eq_true rfl) (fun _ => rfl) (fun X cx rq => ?_)
  refine g_aload_n cx dX5_slam_0 rfl ?_
  refine g_getR (i := (0, 0)) (ci := 5) (k := 0) (j := (1, 0)) cx a0_0 rfl rfl rfl (by decide) inX5 lfX5_10 dX5_slam_1 ?_
  refine g_iload_n cx dX5_slam_4 rfl ?_
  refine g_fcallV (As := [vi x]) (rest := []) cx knX1_has (x_has hP (by decide) x) a1_0 rfl rfl lmX5_87 niX1_has seX1_has rfl (by decide) (Nat.le_of_ble_eq_true rfl) rfl dX5_slam_5 ?_
  refine g_if_neB (tgt := 14) cx dX5_slam_8 (by decide) (fun h_8 => ?_) (fun h_8 => ?_)
  · skip
    obtain ⟨j, hj, rfl⟩ := lt0_nI h_8
    have hjx : (nI j).toNatClampNeg = j := nI_clamp (by omega)
    have hji : ix (nI j) = j := hjx
    have hkj := (hK j hj).2
    refine g_iload_n cx dX5_slam_14 rfl ?_
    refine g_fcallS (As := [vi s]) (rest := []) cx knX5_isSide (x_isSide s) lmX5_128 nsX5_isSide rfl (by decide) (Nat.le_of_ble_eq_true rfl) rfl dX5_slam_15 ?_
    refine g_if_eqB (tgt := 30) cx dX5_slam_18 (by decide) (fun h_18 => ?_) (fun h_18 => ?_)
    · skip
      refine g_bipush (v := (-3)) cx dX5_slam_30 (by decide) ?_
      exact g_fret cx rq rfl (rfl) dX5_slam_32 (by simp [slamS, eq_true h_8, eq_false h_18]) (rfl)
    · skip
      obtain ⟨t, ht, rfl⟩ := lt0_nI h_18
      have htx : (nI t).toNatClampNeg = t := nI_clamp (by omega)
      have hti : ix (nI t) = t := htx
      refine g_iload_n cx dX5_slam_21 rfl ?_
      refine g_if_lt (tgt := 30) cx dX5_slam_22 (by decide) (fun h_22 => ?_) (fun h_22 => ?_)
      · skip
        have hw : ¬ lt0 w 2 = true := has_n1 h_22
        refine g_bipush (v := (-3)) cx dX5_slam_30 (by decide) ?_
        exact g_fret cx rq rfl (rfl) dX5_slam_32 (by simp [slamS, eq_true h_8, eq_true h_18, eq_false hw]) (rfl)
      · skip
        refine g_iload_n cx dX5_slam_25 rfl ?_
        refine g_iconst (v := nI 1) cx dX5_slam_26 (by decide) ?_
        refine g_icmp_le (tgt := 33) cx dX5_slam_27 (by decide) (fun h_27 => ?_) (fun h_27 => ?_)
        · skip
          have hw : lt0 w 2 = true := le_y (by decide) h_22 h_27
          refine g_aload_n cx dX5_slam_33 rfl ?_
          refine g_getR (i := (0, 0)) (ci := 5) (k := 0) (j := (1, 0)) cx a0_0 rfl rfl rfl (by decide) inX5 lfX5_10 dX5_slam_34 ?_
          refine g_getR (i := (1, 0)) (ci := 1) (k := 2) (j := (3, 0)) cx a1_0 rfl rfl rfl (by decide) inX1 lfX5_91 dX5_slam_37 ?_
          refine g_iload_n cx dX5_slam_40 rfl ?_
          refine g_ialdN (i := (3, 0)) (j := j) (v := nI (k j)) cx a3_0 rfl (rfl) (by omega) (by decide) dX5_slam_41 ((hK j (by omega)).1) ?_
          refine g_iconst (v := nI 3) cx dX5_slam_42 (by decide) ?_
          refine g_icmp_neN (tgt := 49) cx dX5_slam_43 (by decide) (by omega) (by omega) (fun h_43 => ?_) (fun h_43 => ?_)
          · skip
            refine g_iload_n cx dX5_slam_49 rfl ?_
            refine g_if_ne (tgt := 72) cx dX5_slam_50 (by decide) (fun h_50 => ?_) (fun h_50 => ?_)
            · skip
              refine g_aload_n cx dX5_slam_72 rfl ?_
              refine g_getR (i := (0, 0)) (ci := 5) (k := 0) (j := (1, 0)) cx a0_0 rfl rfl rfl (by decide) inX5 lfX5_10 dX5_slam_73 ?_
              refine g_iload_n cx dX5_slam_76 rfl ?_
              refine g_iload_n cx dX5_slam_77 rfl ?_
              refine g_fcallV (As := [vi (nI j), vi (nI t)]) (rest := []) cx knX1_leafBeside (x_leafBeside hP (by decide) (i := j) (s := t) (by omega) (by omega)) a1_0 rfl rfl lmX5_177 niX1_leafBeside seX1_leafBeside rfl (by decide) (Nat.le_of_ble_eq_true rfl) rfl dX5_slam_78 ?_
              exact g_fret cx rq rfl (rfl) dX5_slam_81 (by simp [slamS, eq_true h_8, eq_true h_18, eq_true hw, hjx, htx, h_43, eq_false h_50]) (rfl)
            · skip
              refine g_aload_n cx dX5_slam_53 rfl ?_
              refine g_getR (i := (0, 0)) (ci := 5) (k := 2) (j := (9, 0)) cx a0_0 rfl rfl rfl (by decide) inX5 lfX5_28 dX5_slam_54 ?_
              refine g_aload_n cx dX5_slam_57 rfl ?_
              refine g_getR (i := (0, 0)) (ci := 5) (k := 0) (j := (1, 0)) cx a0_0 rfl rfl rfl (by decide) inX5 lfX5_10 dX5_slam_58 ?_
              refine g_iload_n cx dX5_slam_61 rfl ?_
              refine g_iload_n cx dX5_slam_62 rfl ?_
              refine g_fcallV (As := [vi (nI j), vi (nI t)]) (rest := [vr (9, 0)]) cx knX1_roomBeside (x_roomBeside hP (by decide) (i := j) (s := t) (by omega) (by omega)) a1_0 rfl rfl lmX5_171 niX1_roomBeside seX1_roomBeside rfl (by decide) (Nat.le_of_ble_eq_true rfl) rfl dX5_slam_63 ?_
              have hrm := rmB_lt (s := t) hj
              have hwd := hW _ hrm
              refine g_fcallV (As := [vi (nI (rmB n j t))]) (rest := []) cx knX0_slack (x_slack hP (by decide) hA (i := rmB n j t) hrm) a9_0 rfl rfl lmX5_174 niX0_slack seX0_slack rfl (by decide) (Nat.le_of_ble_eq_true rfl) rfl dX5_slam_66 ?_
              refine g_goto (tgt := 81) cx dX5_slam_69 (by decide) ?_
              exact g_fret cx rq rfl (rfl) dX5_slam_81 (by rw [pk_sub hwd, show wid n a (rmB n j t) - (f (rmB n j t) + 1) = wid n a (rmB n j t) - f (rmB n j t) - 1 from by omega]; simp [slamS, eq_true h_8, eq_true h_18, eq_true hw, hjx, htx, h_43, eq_true h_50]) (rfl)
          · skip
            refine g_bipush (v := (-4)) cx dX5_slam_46 (by decide) ?_
            exact g_fret cx rq rfl (rfl) dX5_slam_48 (by simp [slamS, eq_true h_8, eq_true h_18, eq_true hw, hjx, h_43]) (rfl)
        · skip
          have hw : ¬ lt0 w 2 = true := le_n (by decide) h_27
          refine g_bipush (v := (-3)) cx dX5_slam_30 (by decide) ?_
          exact g_fret cx rq rfl (rfl) dX5_slam_32 (by simp [slamS, eq_true h_8, eq_true h_18, eq_false hw]) (rfl)
  · skip
    refine g_bipush (v := (-2)) cx dX5_slam_11 (by decide) ?_
    exact g_fret cx rq rfl (rfl) dX5_slam_13 (by simp [slamS, eq_false h_8]) (rfl)

set_option maxRecDepth 100000 in
set_option maxHeartbeats 4000000 in
theorem x_further {D : Wd} {n : Nat} {k f : Nat → Nat} {dn : Nat} {dr : Nat → Nat} {pn : Nat} (hP : PX D 0 n k f dn dr pn) {a : Nat → Nat} (hA : AX D 0 n a) (w : Int32) : Fok mX5_further idsA 2 [vr (0, 0), vi w] D (some (vi (furS n a w))) D := by
  obtain ⟨hn3, hn8, hN, hK, hF, hd3, hDn, hDr, hp5, hPn⟩ := id hP
  refine Mok.of (L := [some (vr (0, 0)), some (vi w), none, none, none, none]) rfl (fun _ => Nat.le_of_ble_eq_true rfl) (fun _ => rfl) (fun X cx rq => ?_)
  refine g_iload_n cx dX5_further_0 rfl ?_
  refine g_if_lt (tgt := 9) cx dX5_further_1 (by decide) (fun h_1 => ?_) (fun h_1 => ?_)
  · skip
    have hw : ¬ lt0 w 2 = true := has_n1 h_1
    refine g_bipush (v := (-3)) cx dX5_further_9 (by decide) ?_
    exact g_fret cx rq rfl (rfl) dX5_further_11 (by simp [furS, eq_false hw]) (rfl)
  · skip
    refine g_iload_n cx dX5_further_4 rfl ?_
    refine g_iconst (v := nI 1) cx dX5_further_5 (by decide) ?_
    refine g_icmp_le (tgt := 12) cx dX5_further_6 (by decide) (fun h_6 => ?_) (fun h_6 => ?_)
    · skip
      have hw : lt0 w 2 = true := le_y (by decide) h_1 h_6
      refine g_iconst (v := nI 0) cx dX5_further_12 (by decide) ?_
      refine g_istore_n (L' := [some (vr (0, 0)), some (vi w), some (vi (nI 0)), none, none, none]) cx dX5_further_13 (by decide) rfl rfl ?_
      refine g_iconst (v := (-1)) cx dX5_further_14 (by decide) ?_
      refine g_istore_n (L' := [some (vr (0, 0)), some (vi w), some (vi (nI 0)), some (vi (-1)), none, none]) cx dX5_further_15 (by decide) rfl rfl ?_
      refine g_iconst (v := nI 0) cx dX5_further_16 (by decide) ?_
      refine g_istore (L' := [some (vr (0, 0)), some (vi w), some (vi (nI 0)), some (vi (-1)), some (vi (nI 0)), none]) cx dX5_further_17 (by decide) rfl rfl ?_
      have lp : ∀ (fu : Nat) (q : Nat), n - q < fu → (q ≤ n) → Gk X mX5_further idsA 19 [some (vr (0, 0)), some (vi w), some (vi (nI (furG n a q))), some (vi (fuH n a q)), some (vi (nI q)), none] [] D := by
        intro fu
        induction fu with
        | zero => intro q hfu; exact absurd hfu (Nat.not_lt_zero _)
        | succ fu ih =>
          intro q hfu hq
          have hfl := furG_le (a := a) hq (by omega)
          have hfw := wid_lt hfl (fun j hj => (hA j hj).2)
          refine g_iload cx dX5_further_19 rfl ?_
          refine g_aload_n cx dX5_further_21 rfl ?_
          refine g_getR (i := (0, 0)) (ci := 5) (k := 0) (j := (1, 0)) cx a0_0 rfl rfl rfl (by decide) inX5 lfX5_10 dX5_further_22 ?_
          refine g_getIN (i := (1, 0)) (ci := 1) (k := 0) (v := nI n) cx a1_0 rfl rfl rfl (by decide) inX1 lfX5_152 dX5_further_25 (hN) ?_
          refine g_icmp_geN (tgt := 62) cx dX5_further_28 (by decide) (by omega) (by omega) (fun h_28 => ?_) (fun h_28 => ?_)
          · skip
            have e9 : q = n := by omega
            refine g_iload_n cx dX5_further_62 rfl ?_
            refine g_if_ne (tgt := 70) cx dX5_further_63 (by decide) (fun h_63 => ?_) (fun h_63 => ?_)
            · skip
              refine g_iload_n cx dX5_further_70 rfl ?_
              exact g_fret cx rq rfl (rfl) dX5_further_71 (by rw [e9]; simp only [furS, eq_true hw, eq_false h_63, if_true, if_false]; rw [fuH, if_neg (by omega)]) (rfl)
            · skip
              refine g_iload_n cx dX5_further_66 rfl ?_
              refine g_goto (tgt := 71) cx dX5_further_67 (by decide) ?_
              exact g_fret cx rq rfl (rfl) dX5_further_71 (by simp [furS, eq_true hw, eq_true h_63, e9]) (rfl)
          · skip
            have hqw := wid_lt h_28 (fun j hj => (hA j hj).2)
            refine g_aload_n cx dX5_further_31 rfl ?_
            refine g_getR (i := (0, 0)) (ci := 5) (k := 2) (j := (9, 0)) cx a0_0 rfl rfl rfl (by decide) inX5 lfX5_28 dX5_further_32 ?_
            refine g_iload cx dX5_further_35 rfl ?_
            refine g_fcallV (As := [vi (nI q)]) (rest := []) cx knX0_width (x_width hP (by decide) hA (i := q) (by omega)) a9_0 rfl rfl lmX5_101 niX0_width seX0_width rfl (by decide) (Nat.le_of_ble_eq_true rfl) rfl dX5_further_37 ?_
            refine g_iconst (v := nI 2) cx dX5_further_40 (by decide) ?_
            refine g_idivN cx dX5_further_41 (by omega) (by omega) (by omega) ?_
            refine g_istore (L' := [some (vr (0, 0)), some (vi w), some (vi (nI (furG n a q))), some (vi (fuH n a q)), some (vi (nI q)), some (vi (nI ((wid n a q) / 2)))]) cx dX5_further_42 (by decide) rfl rfl ?_
            refine g_iload cx dX5_further_44 rfl ?_
            refine g_iload_n cx dX5_further_46 rfl ?_
            refine g_icmp_le (tgt := 56) cx dX5_further_47 (by decide) (fun h_47 => ?_) (fun h_47 => ?_)
            · skip
              refine g_drop 5 (L' := [some (vr (0, 0)), some (vi w), some (vi (nI (furG n a q))), some (vi (fuH n a q)), some (vi (nI q)), none]) rfl ?_
              refine g_loc (L' := [some (vr (0, 0)), some (vi w), some (vi (nI (furG n a (q + 1)))), some (vi (fuH n a (q + 1))), some (vi (nI q)), none]) (by first | rw [(fu_y hqw hfw h_47).1, (fu_y hqw hfw h_47).2] | rw [(fu_n hqw hfw h_47).1, (fu_n hqw hfw h_47).2]) ?_
              refine g_iincN (L' := [some (vr (0, 0)), some (vi w), some (vi (nI (furG n a (q + 1)))), some (vi (fuH n a (q + 1))), some (vi (nI (q + 1))), none]) cx dX5_further_56 rfl (by decide) rfl rfl ?_
              refine g_goto (tgt := 19) cx dX5_further_59 (by decide) ?_
              exact ih (q + 1) (by omega) (by omega)
            · skip
              refine g_iload cx dX5_further_50 rfl ?_
              refine g_istore_n (L' := [some (vr (0, 0)), some (vi w), some (vi (nI q)), some (vi (fuH n a q)), some (vi (nI q)), some (vi (nI ((wid n a q) / 2)))]) cx dX5_further_52 (by decide) rfl rfl ?_
              refine g_iload cx dX5_further_53 rfl ?_
              refine g_istore_n (L' := [some (vr (0, 0)), some (vi w), some (vi (nI q)), some (vi (nI ((wid n a q) / 2))), some (vi (nI q)), some (vi (nI ((wid n a q) / 2)))]) cx dX5_further_55 (by decide) rfl rfl ?_
              refine g_drop 5 (L' := [some (vr (0, 0)), some (vi w), some (vi (nI q)), some (vi (nI ((wid n a q) / 2))), some (vi (nI q)), none]) rfl ?_
              refine g_loc (L' := [some (vr (0, 0)), some (vi w), some (vi (nI (furG n a (q + 1)))), some (vi (fuH n a (q + 1))), some (vi (nI q)), none]) (by first | rw [(fu_y hqw hfw h_47).1, (fu_y hqw hfw h_47).2] | rw [(fu_n hqw hfw h_47).1, (fu_n hqw hfw h_47).2]) ?_
              refine g_iincN (L' := [some (vr (0, 0)), some (vi w), some (vi (nI (furG n a (q + 1)))), some (vi (fuH n a (q + 1))), some (vi (nI (q + 1))), none]) cx dX5_further_56 rfl (by decide) rfl rfl ?_
              refine g_goto (tgt := 19) cx dX5_further_59 (by decide) ?_
              exact ih (q + 1) (by omega) (by omega)
      exact lp (n + 1) 0 (by omega) (by omega)
    · skip
      have hw : ¬ lt0 w 2 = true := le_n (by decide) h_6
      refine g_bipush (v := (-3)) cx dX5_further_9 (by decide) ?_
      exact g_fret cx rq rfl (rfl) dX5_further_11 (by simp [furS, eq_false hw]) (rfl)

set_option maxRecDepth 100000 in
set_option maxHeartbeats 4000000 in
theorem x_share {D : Wd} {n : Nat} {k f : Nat → Nat} {dn : Nat} {dr : Nat → Nat} {pn : Nat} (hP : PX D 0 n k f dn dr pn) {a : Nat → Nat} (hA : AX D 0 n a) (hW : ∀ r, r < n → f r + 1 ≤ wid n a r) (x w : Int32) : Fok mX5_share idsA 2 [vr (0, 0), vi x, vi w] D (some (vi (shareS n a x w))) D := by
  obtain ⟨hn3, hn8, hN, hK, hF, hd3, hDn, hDr, hp5, hPn⟩ := id hP
  refine Mok.of (L := [some (vr (0, 0)), some (vi x), some (vi w), none, none, none]) rfl (fun _ => Nat.le_of_ble_eq_true rfl) (fun _ => rfl) (fun X cx rq => ?_)
  refine g_aload_n cx dX5_share_0 rfl ?_
  refine g_getR (i := (0, 0)) (ci := 5) (k := 0) (j := (1, 0)) cx a0_0 rfl rfl rfl (by decide) inX5 lfX5_10 dX5_share_1 ?_
  refine g_iload_n cx dX5_share_4 rfl ?_
  refine g_fcallV (As := [vi x]) (rest := []) cx knX1_has (x_has hP (by decide) x) a1_0 rfl rfl lmX5_87 niX1_has seX1_has rfl (by decide) (Nat.le_of_ble_eq_true rfl) rfl dX5_share_5 ?_
  refine g_if_neB (tgt := 14) cx dX5_share_8 (by decide) (fun h_8 => ?_) (fun h_8 => ?_)
  · skip
    obtain ⟨j, hj, rfl⟩ := lt0_nI h_8
    have hjx : (nI j).toNatClampNeg = j := nI_clamp (by omega)
    have hji : ix (nI j) = j := hjx
    have hw7 := wid_lt hj (fun j hj => (hA j hj).2)
    have hw8 := hW j hj
    refine g_iload_n cx dX5_share_14 rfl ?_
    refine g_if_lt (tgt := 23) cx dX5_share_15 (by decide) (fun h_15 => ?_) (fun h_15 => ?_)
    · skip
      have hw : ¬ lt0 w 2 = true := has_n1 h_15
      refine g_bipush (v := (-3)) cx dX5_share_23 (by decide) ?_
      exact g_fret cx rq rfl (rfl) dX5_share_25 (by simp [shareS, eq_true h_8, eq_false hw]) (rfl)
    · skip
      refine g_iload_n cx dX5_share_18 rfl ?_
      refine g_iconst (v := nI 1) cx dX5_share_19 (by decide) ?_
      refine g_icmp_le (tgt := 26) cx dX5_share_20 (by decide) (fun h_20 => ?_) (fun h_20 => ?_)
      · skip
        have hw : lt0 w 2 = true := le_y (by decide) h_15 h_20
        refine g_aload_n cx dX5_share_26 rfl ?_
        refine g_getR (i := (0, 0)) (ci := 5) (k := 2) (j := (9, 0)) cx a0_0 rfl rfl rfl (by decide) inX5 lfX5_28 dX5_share_27 ?_
        refine g_iload_n cx dX5_share_30 rfl ?_
        refine g_fcallV (As := [vi (nI j)]) (rest := []) cx knX0_width (x_width hP (by decide) hA (i := j) (by omega)) a9_0 rfl rfl lmX5_101 niX0_width seX0_width rfl (by decide) (Nat.le_of_ble_eq_true rfl) rfl dX5_share_31 ?_
        refine g_istore_n (L' := [some (vr (0, 0)), some (vi (nI j)), some (vi w), some (vi (nI (wid n a j))), none, none]) cx dX5_share_34 (by decide) rfl rfl ?_
        refine g_iload_n cx dX5_share_35 rfl ?_
        refine g_if_ne (tgt := 43) cx dX5_share_36 (by decide) (fun h_36 => ?_) (fun h_36 => ?_)
        · skip
          refine g_bipush (v := nI 72) cx dX5_share_43 (by decide) ?_
          refine g_istore (L' := [some (vr (0, 0)), some (vi (nI j)), some (vi w), some (vi (nI (wid n a j))), some (vi (nI 72)), none]) cx dX5_share_45 (by decide) rfl rfl ?_
          refine g_iload_n cx dX5_share_47 rfl ?_
          refine g_istore (L' := [some (vr (0, 0)), some (vi (nI j)), some (vi w), some (vi (nI (wid n a j))), some (vi (nI 72)), some (vi (nI (wid n a j)))]) cx dX5_share_48 (by decide) rfl rfl ?_
          have lp : ∀ (fu : Nat) (v : Nat), v < fu → (v < 72) → (∀ e, v < e → e ≤ wid n a j → ¬ (wid n a j % e = 0 ∧ 72 % e = 0)) → Gk X mX5_share idsA 50 [some (vr (0, 0)), some (vi (nI j)), some (vi w), some (vi (nI (wid n a j))), some (vi (nI 72)), some (vi (nI v))] [] D := by
            intro fu
            induction fu with
            | zero => intro v hfu; exact absurd hfu (Nat.not_lt_zero _)
            | succ fu ih =>
              intro v hfu hv hno
              refine g_iload cx dX5_share_50 rfl ?_
              refine g_iconst (v := nI 1) cx dX5_share_52 (by decide) ?_
              refine g_icmp_leN (tgt := 83) cx dX5_share_53 (by decide) (by omega) (by omega) (fun h_53 => ?_) (fun h_53 => ?_)
              · skip
                have hg := gcd_1 (by omega) h_53 hno
                refine g_iload cx dX5_share_83 rfl ?_
                exact g_fret cx rq rfl (rfl) dX5_share_85 (by simp [shareS, eq_true h_8, eq_true hw, hjx, hg, eq_false h_36]) (rfl)
              · skip
                
                refine g_iload_n cx dX5_share_56 rfl ?_
                refine g_iload cx dX5_share_57 rfl ?_
                refine g_iremN cx dX5_share_59 (by omega) (by omega) (by omega) ?_
                have hm60 := Nat.mod_lt (wid n a j) (show 0 < v by omega)
                refine g_if_neN (tgt := 77) cx dX5_share_60 (by decide) (by omega) (fun h_60 => ?_) (fun h_60 => ?_)
                · skip
                  have hd60 : ¬ (wid n a j % v = 0 ∧ 72 % v = 0) := fun e => h_60 e.1
                  refine g_iinc (v := nI (v - 1)) (L' := [some (vr (0, 0)), some (vi (nI j)), some (vi w), some (vi (nI (wid n a j))), some (vi (nI 72)), some (vi (nI (v - 1)))]) cx dX5_share_77 rfl (by rw [nI_m1 (by omega)]) (by decide) rfl rfl ?_
                  refine g_goto (tgt := 50) cx dX5_share_80 (by decide) ?_
                  exact ih (v - 1) (by omega) (by omega) (fun e h1 h2 => by rcases (show e = v ∨ v < e by omega) with rfl | h3; exact hd60; exact hno e h3 h2)
                · skip
                  refine g_bipush (v := nI 72) cx dX5_share_63 (by decide) ?_
                  refine g_iload cx dX5_share_65 rfl ?_
                  refine g_iremN cx dX5_share_67 (by omega) (by omega) (by omega) ?_
                  have hm68 := Nat.mod_lt 72 (show 0 < v by omega)
                  refine g_if_neN (tgt := 77) cx dX5_share_68 (by decide) (by omega) (fun h_68 => ?_) (fun h_68 => ?_)
                  · skip
                    have hd60 : ¬ (wid n a j % v = 0 ∧ 72 % v = 0) := fun e => h_68 e.2
                    refine g_iinc (v := nI (v - 1)) (L' := [some (vr (0, 0)), some (vi (nI j)), some (vi w), some (vi (nI (wid n a j))), some (vi (nI 72)), some (vi (nI (v - 1)))]) cx dX5_share_77 rfl (by rw [nI_m1 (by omega)]) (by decide) rfl rfl ?_
                    refine g_goto (tgt := 50) cx dX5_share_80 (by decide) ?_
                    exact ih (v - 1) (by omega) (by omega) (fun e h1 h2 => by rcases (show e = v ∨ v < e by omega) with rfl | h3; exact hd60; exact hno e h3 h2)
                  · skip
                    refine g_iload cx dX5_share_71 rfl ?_
                    refine g_iload cx dX5_share_73 rfl ?_
                    refine g_idivN cx dX5_share_75 (by omega) (by omega) (by omega) ?_
                    exact g_fret cx rq rfl (rfl) dX5_share_76 (by rw [gcd_is (by omega : 0 < wid n a j) hno h_60 h_68]; simp only [shareS, eq_true h_8, eq_true hw, if_true, hjx, eq_false h_36, if_false]) (rfl)
          exact lp 73 (wid n a j) (by omega) (by omega) (fun e h1 h2 => absurd h1 (by omega))
        · skip
          refine g_iload_n cx dX5_share_39 rfl ?_
          refine g_goto (tgt := 45) cx dX5_share_40 (by decide) ?_
          refine g_istore (L' := [some (vr (0, 0)), some (vi (nI j)), some (vi w), some (vi (nI (wid n a j))), some (vi (nI (wid n a j))), none]) cx dX5_share_45 (by decide) rfl rfl ?_
          refine g_iload_n cx dX5_share_47 rfl ?_
          refine g_istore (L' := [some (vr (0, 0)), some (vi (nI j)), some (vi w), some (vi (nI (wid n a j))), some (vi (nI (wid n a j))), some (vi (nI (wid n a j)))]) cx dX5_share_48 (by decide) rfl rfl ?_
          have lp : ∀ (fu : Nat) (v : Nat), v < fu → (v < 72) → (∀ e, v < e → e ≤ wid n a j → ¬ (wid n a j % e = 0 ∧ 72 % e = 0)) → Gk X mX5_share idsA 50 [some (vr (0, 0)), some (vi (nI j)), some (vi w), some (vi (nI (wid n a j))), some (vi (nI (wid n a j))), some (vi (nI v))] [] D := by
            intro fu
            induction fu with
            | zero => intro v hfu; exact absurd hfu (Nat.not_lt_zero _)
            | succ fu ih =>
              intro v hfu hv hno
              refine g_iload cx dX5_share_50 rfl ?_
              refine g_iconst (v := nI 1) cx dX5_share_52 (by decide) ?_
              refine g_icmp_leN (tgt := 83) cx dX5_share_53 (by decide) (by omega) (by omega) (fun h_53 => ?_) (fun h_53 => ?_)
              · skip
                have hg := gcd_1 (by omega) h_53 hno
                refine g_iload cx dX5_share_83 rfl ?_
                exact g_fret cx rq rfl (rfl) dX5_share_85 (by simp [shareS, eq_true h_8, eq_true hw, hjx, hg, eq_true h_36]) (rfl)
              · skip
                
                refine g_iload_n cx dX5_share_56 rfl ?_
                refine g_iload cx dX5_share_57 rfl ?_
                refine g_iremN cx dX5_share_59 (by omega) (by omega) (by omega) ?_
                have hm60 := Nat.mod_lt (wid n a j) (show 0 < v by omega)
                refine g_if_neN (tgt := 77) cx dX5_share_60 (by decide) (by omega) (fun h_60 => ?_) (fun h_60 => ?_)
                · skip
                  have hd60 : ¬ (wid n a j % v = 0 ∧ 72 % v = 0) := fun e => h_60 e.1
                  refine g_iinc (v := nI (v - 1)) (L' := [some (vr (0, 0)), some (vi (nI j)), some (vi w), some (vi (nI (wid n a j))), some (vi (nI (wid n a j))), some (vi (nI (v - 1)))]) cx dX5_share_77 rfl (by rw [nI_m1 (by omega)]) (by decide) rfl rfl ?_
                  refine g_goto (tgt := 50) cx dX5_share_80 (by decide) ?_
                  exact ih (v - 1) (by omega) (by omega) (fun e h1 h2 => by rcases (show e = v ∨ v < e by omega) with rfl | h3; exact hd60; exact hno e h3 h2)
                · skip
                  refine g_bipush (v := nI 72) cx dX5_share_63 (by decide) ?_
                  refine g_iload cx dX5_share_65 rfl ?_
                  refine g_iremN cx dX5_share_67 (by omega) (by omega) (by omega) ?_
                  have hm68 := Nat.mod_lt 72 (show 0 < v by omega)
                  refine g_if_neN (tgt := 77) cx dX5_share_68 (by decide) (by omega) (fun h_68 => ?_) (fun h_68 => ?_)
                  · skip
                    have hd60 : ¬ (wid n a j % v = 0 ∧ 72 % v = 0) := fun e => h_68 e.2
                    refine g_iinc (v := nI (v - 1)) (L' := [some (vr (0, 0)), some (vi (nI j)), some (vi w), some (vi (nI (wid n a j))), some (vi (nI (wid n a j))), some (vi (nI (v - 1)))]) cx dX5_share_77 rfl (by rw [nI_m1 (by omega)]) (by decide) rfl rfl ?_
                    refine g_goto (tgt := 50) cx dX5_share_80 (by decide) ?_
                    exact ih (v - 1) (by omega) (by omega) (fun e h1 h2 => by rcases (show e = v ∨ v < e by omega) with rfl | h3; exact hd60; exact hno e h3 h2)
                  · skip
                    refine g_iload cx dX5_share_71 rfl ?_
                    refine g_iload cx dX5_share_73 rfl ?_
                    refine g_idivN cx dX5_share_75 (by omega) (by omega) (by omega) ?_
                    exact g_fret cx rq rfl (rfl) dX5_share_76 (by rw [gcd_is (by omega : 0 < wid n a j) hno h_60 h_68]; simp only [shareS, eq_true h_8, eq_true hw, if_true, hjx, eq_true h_36, if_true]) (rfl)
          exact lp 73 (wid n a j) (by omega) (by omega) (fun e h1 h2 => absurd h1 (by omega))
      · skip
        have hw : ¬ lt0 w 2 = true := le_n (by decide) h_20
        refine g_bipush (v := (-3)) cx dX5_share_23 (by decide) ?_
        exact g_fret cx rq rfl (rfl) dX5_share_25 (by simp [shareS, eq_true h_8, eq_false hw]) (rfl)
  · skip
    refine g_bipush (v := (-2)) cx dX5_share_11 (by decide) ?_
    exact g_fret cx rq rfl (rfl) dX5_share_13 (by simp [shareS, eq_false h_8]) (rfl)

set_option maxRecDepth 100000 in
set_option maxHeartbeats 4000000 in
theorem x_forget {D : Wd} {sm : Nat} (hSm : D (18, 0) 2 = nI sm) : Fok mX5_forget idsA 0 [vr (0, 0)] D (some (vi (nI sm))) (upA D (18, 0) (upd (D (18, 0)) 2 (nI 0))) := by
  refine Mok.of (L := [some (vr (0, 0)), none]) rfl (fun _ => Nat.le_of_ble_eq_true rfl) (fun _ => rfl) (fun X cx rq => ?_)
  refine g_aload_n cx dX5_forget_0 rfl ?_
  refine g_getR (i := (0, 0)) (ci := 5) (k := 7) (j := (18, 0)) cx a0_0 rfl rfl rfl (by decide) inX5 lfX5_53 dX5_forget_1 ?_
  refine g_getIN (i := (18, 0)) (ci := 3) (k := 2) (v := nI sm) cx a18_0 rfl rfl rfl (by decide) inX3 lfX5_81 dX5_forget_4 (hSm) ?_
  refine g_istore_n (L' := [some (vr (0, 0)), some (vi (nI sm))]) cx dX5_forget_7 (by decide) rfl rfl ?_
  refine g_aload_n cx dX5_forget_8 rfl ?_
  refine g_getR (i := (0, 0)) (ci := 5) (k := 7) (j := (18, 0)) cx a0_0 rfl rfl rfl (by decide) inX5 lfX5_53 dX5_forget_9 ?_
  refine g_iconst (v := nI 0) cx dX5_forget_12 (by decide) ?_
  refine g_putI (i := (18, 0)) (ci := 3) (k := 2) cx a18_0 rfl rfl rfl (by decide) inX3 tyX3_ok nmX3 rfl rfl lfX5_81 dX5_forget_13 ?_
  refine g_iload_n cx dX5_forget_16 rfl ?_
  exact g_fret cx rq rfl (rfl) dX5_forget_17 (rfl) (rfl)

set_option maxRecDepth 100000 in
set_option maxHeartbeats 4000000 in
theorem x_erase {D : Wd} {len : Nat} (hLen : D (7, 0) 1 = nI len) : Fok mX5_erase idsA 0 [vr (0, 0)] D (some (vi (nI len))) (upA D (7, 0) (upd (D (7, 0)) 1 (nI 0))) := by
  refine Mok.of (L := [some (vr (0, 0)), none]) rfl (fun _ => Nat.le_of_ble_eq_true rfl) (fun _ => rfl) (fun X cx rq => ?_)
  refine g_aload_n cx dX5_erase_0 rfl ?_
  refine g_getR (i := (0, 0)) (ci := 5) (k := 1) (j := (7, 0)) cx a0_0 rfl rfl rfl (by decide) inX5 lfX5_19 dX5_erase_1 ?_
  refine g_getIN (i := (7, 0)) (ci := 4) (k := 1) (v := nI len) cx a7_0 rfl rfl rfl (by decide) inX4 lfX5_63 dX5_erase_4 (hLen) ?_
  refine g_istore_n (L' := [some (vr (0, 0)), some (vi (nI len))]) cx dX5_erase_7 (by decide) rfl rfl ?_
  refine g_aload_n cx dX5_erase_8 rfl ?_
  refine g_getR (i := (0, 0)) (ci := 5) (k := 1) (j := (7, 0)) cx a0_0 rfl rfl rfl (by decide) inX5 lfX5_19 dX5_erase_9 ?_
  refine g_iconst (v := nI 0) cx dX5_erase_12 (by decide) ?_
  refine g_putI (i := (7, 0)) (ci := 4) (k := 1) cx a7_0 rfl rfl rfl (by decide) inX4 tyX4_ok nmX4 rfl rfl lfX5_63 dX5_erase_13 ?_
  refine g_iload_n cx dX5_erase_16 rfl ?_
  exact g_fret cx rq rfl (rfl) dX5_erase_17 (rfl) (rfl)

set_option maxRecDepth 100000 in
set_option maxHeartbeats 4000000 in
theorem x_seen {D : Wd} {n : Nat} {k f : Nat → Nat} {dn : Nat} {dr : Nat → Nat} {pn : Nat} (hP : PX D 0 n k f dn dr pn) {sm : Nat} (hSm : D (18, 0) 2 = nI sm) (hs8 : sm ≤ 8) (x w : Int32) : Fok mX5_seen idsA 1 [vr (0, 0), vi x, vi w] D (some (vi (if lt0 x n then (if lt0 w 72 then (if sm = 8 then -5 else nI (sm + 1)) else -3) else -2))) (if (lt0 x n && lt0 w 72) && decide (sm ≠ 8) then upA (upA (upA D (19, 0) (upd (D (19, 0)) sm x)) (20, 0) (upd (D (20, 0)) sm w)) (18, 0) (upd (D (18, 0)) 2 (nI (sm + 1))) else D) := by
  obtain ⟨hn3, hn8, hN, hK, hF, hd3, hDn, hDr, hp5, hPn⟩ := id hP
  refine Mok.of (L := [some (vr (0, 0)), some (vi x), some (vi w)]) rfl (fun _ => Nat.le_of_ble_eq_true rfl) (fun _ => rfl) (fun X cx rq => ?_)
  refine g_aload_n cx dX5_seen_0 rfl ?_
  refine g_getR (i := (0, 0)) (ci := 5) (k := 0) (j := (1, 0)) cx a0_0 rfl rfl rfl (by decide) inX5 lfX5_10 dX5_seen_1 ?_
  refine g_iload_n cx dX5_seen_4 rfl ?_
  refine g_fcallV (As := [vi x]) (rest := []) cx knX1_has (x_has hP (by decide) x) a1_0 rfl rfl lmX5_87 niX1_has seX1_has rfl (by decide) (Nat.le_of_ble_eq_true rfl) rfl dX5_seen_5 ?_
  refine g_if_neB (tgt := 14) cx dX5_seen_8 (by decide) (fun h_8 => ?_) (fun h_8 => ?_)
  · skip
    obtain ⟨j, hj, rfl⟩ := lt0_nI h_8
    have hjx : (nI j).toNatClampNeg = j := nI_clamp (by omega)
    have hji : ix (nI j) = j := hjx
    refine g_iload_n cx dX5_seen_14 rfl ?_
    refine g_if_lt (tgt := 24) cx dX5_seen_15 (by decide) (fun h_15 => ?_) (fun h_15 => ?_)
    · skip
      have hw : ¬ lt0 w 72 = true := has_n1 h_15
      refine g_bipush (v := (-3)) cx dX5_seen_24 (by decide) ?_
      exact g_fret cx rq rfl (rfl) dX5_seen_26 (by simp [eq_true h_8, eq_false hw]) (by simp [eq_false hw])
    · skip
      refine g_iload_n cx dX5_seen_18 rfl ?_
      refine g_bipush (v := nI 72) cx dX5_seen_19 (by decide) ?_
      refine g_icmp_lt (tgt := 27) cx dX5_seen_21 (by decide) (fun h_21 => ?_) (fun h_21 => ?_)
      · skip
        have hw : lt0 w 72 = true := lt_y (by decide) h_15 h_21
        refine g_aload_n cx dX5_seen_27 rfl ?_
        refine g_getR (i := (0, 0)) (ci := 5) (k := 7) (j := (18, 0)) cx a0_0 rfl rfl rfl (by decide) inX5 lfX5_53 dX5_seen_28 ?_
        refine g_getIN (i := (18, 0)) (ci := 3) (k := 2) (v := nI sm) cx a18_0 rfl rfl rfl (by decide) inX3 lfX5_81 dX5_seen_31 (hSm) ?_
        refine g_bipush (v := nI 8) cx dX5_seen_34 (by decide) ?_
        refine g_icmp_ltN (tgt := 42) cx dX5_seen_36 (by decide) (by omega) (by omega) (fun h_36 => ?_) (fun h_36 => ?_)
        · skip
          have h36 : ¬ sm = 8 := by omega
          refine g_aload_n cx dX5_seen_42 rfl ?_
          refine g_getR (i := (0, 0)) (ci := 5) (k := 7) (j := (18, 0)) cx a0_0 rfl rfl rfl (by decide) inX5 lfX5_53 dX5_seen_43 ?_
          refine g_getR (i := (18, 0)) (ci := 3) (k := 0) (j := (19, 0)) cx a18_0 rfl rfl rfl (by decide) inX3 lfX5_187 dX5_seen_46 ?_
          refine g_aload_n cx dX5_seen_49 rfl ?_
          refine g_getR (i := (0, 0)) (ci := 5) (k := 7) (j := (18, 0)) cx a0_0 rfl rfl rfl (by decide) inX5 lfX5_53 dX5_seen_50 ?_
          refine g_getIN (i := (18, 0)) (ci := 3) (k := 2) (v := nI sm) cx a18_0 rfl rfl rfl (by decide) inX3 lfX5_81 dX5_seen_53 (hSm) ?_
          refine g_iload_n cx dX5_seen_56 rfl ?_
          refine g_iast (i := (19, 0)) (j := sm) cx a19_0 rfl (rfl) (by omega) (by decide) dX5_seen_57 ?_
          refine g_aload_n cx dX5_seen_58 rfl ?_
          refine g_getR (i := (0, 0)) (ci := 5) (k := 7) (j := (18, 0)) cx a0_0 rfl rfl rfl (by decide) inX5 lfX5_53 dX5_seen_59 ?_
          refine g_getR (i := (18, 0)) (ci := 3) (k := 1) (j := (20, 0)) cx a18_0 rfl rfl rfl (by decide) inX3 lfX5_190 dX5_seen_62 ?_
          refine g_aload_n cx dX5_seen_65 rfl ?_
          refine g_getR (i := (0, 0)) (ci := 5) (k := 7) (j := (18, 0)) cx a0_0 rfl rfl rfl (by decide) inX5 lfX5_53 dX5_seen_66 ?_
          refine g_getIN (i := (18, 0)) (ci := 3) (k := 2) (v := nI sm) cx a18_0 rfl rfl rfl (by decide) inX3 lfX5_81 dX5_seen_69 (by simp only [upA]; exact hSm) ?_
          refine g_iload_n cx dX5_seen_72 rfl ?_
          refine g_iast (i := (20, 0)) (j := sm) cx a20_0 rfl (rfl) (by omega) (by decide) dX5_seen_73 ?_
          refine g_aload_n cx dX5_seen_74 rfl ?_
          refine g_getR (i := (0, 0)) (ci := 5) (k := 7) (j := (18, 0)) cx a0_0 rfl rfl rfl (by decide) inX5 lfX5_53 dX5_seen_75 ?_
          refine g_dup cx dX5_seen_78 rfl ?_
          refine g_getIN (i := (18, 0)) (ci := 3) (k := 2) (v := nI sm) cx a18_0 rfl rfl rfl (by decide) inX3 lfX5_81 dX5_seen_79 (by simp only [upA]; exact hSm) ?_
          refine g_iconst (v := nI 1) cx dX5_seen_82 (by decide) ?_
          refine g_iaddN cx dX5_seen_83 ?_
          refine g_putI (i := (18, 0)) (ci := 3) (k := 2) cx a18_0 rfl rfl rfl (by decide) inX3 tyX3_ok nmX3 rfl rfl lfX5_81 dX5_seen_84 ?_
          refine g_aload_n cx dX5_seen_87 rfl ?_
          refine g_getR (i := (0, 0)) (ci := 5) (k := 7) (j := (18, 0)) cx a0_0 rfl rfl rfl (by decide) inX5 lfX5_53 dX5_seen_88 ?_
          refine g_getIN (i := (18, 0)) (ci := 3) (k := 2) (v := nI (sm + 1)) cx a18_0 rfl rfl rfl (by decide) inX3 lfX5_81 dX5_seen_91 (by rw [upA_s]; rfl) ?_
          exact g_fret cx rq rfl (rfl) dX5_seen_94 (by simp [eq_true h_8, eq_true hw, h36]) (by simp [eq_true h_8, eq_true hw, h36]; rfl)
        · skip
          have h36 : sm = 8 := by omega
          refine g_bipush (v := (-5)) cx dX5_seen_39 (by decide) ?_
          exact g_fret cx rq rfl (rfl) dX5_seen_41 (by simp [eq_true h_8, eq_true hw, h36]) (by simp [h36])
      · skip
        have hw : ¬ lt0 w 72 = true := lt_n (by decide) h_21
        refine g_bipush (v := (-3)) cx dX5_seen_24 (by decide) ?_
        exact g_fret cx rq rfl (rfl) dX5_seen_26 (by simp [eq_true h_8, eq_false hw]) (by simp [eq_false hw])
  · skip
    refine g_bipush (v := (-2)) cx dX5_seen_11 (by decide) ?_
    exact g_fret cx rq rfl (rfl) dX5_seen_13 (by simp [eq_false h_8]) (by simp [eq_false h_8])

set_option maxRecDepth 100000 in
set_option maxHeartbeats 4000000 in
theorem x_least {D : Wd} {n : Nat} {k f : Nat → Nat} {dn : Nat} {dr : Nat → Nat} {pn : Nat} (hP : PX D 0 n k f dn dr pn) {a : Nat → Nat} (hA : AX D 0 n a) {hm : Nat → Nat} (hH : HX D 0 n hm) {sm : Nat} (hSm : D (18, 0) 2 = nI sm) (hs8 : sm ≤ 8) {lf an : Nat → Nat} (hSg : ∀ q, q < sm → D (19, 0) q = nI (lf q) ∧ D (20, 0) q = nI (an q) ∧ lf q < 100 ∧ an q < 72) (x : Int32) : Fok mX5_least idsA 3 [vr (0, 0), vi x] D (some (vi (leastS n a hm sm lf an x))) D := by
  obtain ⟨hn3, hn8, hN, hK, hF, hd3, hDn, hDr, hp5, hPn⟩ := id hP
  refine Mok.of (L := [some (vr (0, 0)), some (vi x)]) rfl (fun _ => Nat.le_of_ble_eq_true rfl) (fun _ => rfl) (fun X cx rq => ?_)
  refine g_aload_n cx dX5_least_0 rfl ?_
  refine g_getR (i := (0, 0)) (ci := 5) (k := 0) (j := (1, 0)) cx a0_0 rfl rfl rfl (by decide) inX5 lfX5_10 dX5_least_1 ?_
  refine g_iload_n cx dX5_least_4 rfl ?_
  refine g_fcallV (As := [vi x]) (rest := []) cx knX1_has (x_has hP (by decide) x) a1_0 rfl rfl lmX5_87 niX1_has seX1_has rfl (by decide) (Nat.le_of_ble_eq_true rfl) rfl dX5_least_5 ?_
  refine g_if_eqB (tgt := 40) cx dX5_least_8 (by decide) (fun h_8 => ?_) (fun h_8 => ?_)
  · skip
    refine g_bipush (v := (-2)) cx dX5_least_40 (by decide) ?_
    exact g_fret cx rq rfl (rfl) dX5_least_42 (by simp [leastS, eq_false h_8]) (rfl)
  · skip
    obtain ⟨j, hj, rfl⟩ := lt0_nI h_8
    have hjx : (nI j).toNatClampNeg = j := nI_clamp (by omega)
    have hji : ix (nI j) = j := hjx
    refine g_aload_n cx dX5_least_11 rfl ?_
    refine g_getR (i := (0, 0)) (ci := 5) (k := 7) (j := (18, 0)) cx a0_0 rfl rfl rfl (by decide) inX5 lfX5_53 dX5_least_12 ?_
    refine g_iload_n cx dX5_least_15 rfl ?_
    refine g_aload_n cx dX5_least_16 rfl ?_
    refine g_getR (i := (0, 0)) (ci := 5) (k := 0) (j := (1, 0)) cx a0_0 rfl rfl rfl (by decide) inX5 lfX5_10 dX5_least_17 ?_
    refine g_getR (i := (1, 0)) (ci := 1) (k := 1) (j := (2, 0)) cx a1_0 rfl rfl rfl (by decide) inX1 lfX5_98 dX5_least_20 ?_
    refine g_iload_n cx dX5_least_23 rfl ?_
    refine g_ialdN (i := (2, 0)) (j := j) (v := nI (hm j)) cx a2_0 rfl (rfl) (by omega) (by decide) dX5_least_24 ((hH j (by omega)).1) ?_
    refine g_aload_n cx dX5_least_25 rfl ?_
    refine g_getR (i := (0, 0)) (ci := 5) (k := 2) (j := (9, 0)) cx a0_0 rfl rfl rfl (by decide) inX5 lfX5_28 dX5_least_26 ?_
    refine g_getR (i := (9, 0)) (ci := 0) (k := 1) (j := (10, 0)) cx a9_0 rfl rfl rfl (by decide) inX0 lfX5_95 dX5_least_29 ?_
    refine g_iload_n cx dX5_least_32 rfl ?_
    refine g_ialdN (i := (10, 0)) (j := j) (v := nI (a j)) cx a10_0 rfl (rfl) (by omega) (by decide) dX5_least_33 ((hA j (by omega)).1) ?_
    refine g_fcallV (As := [vi (nI j), vi (nI (hm j)), vi (nI (a j))]) (rest := []) cx knX3_way (x_way hSm hs8 hSg (i := j) (x := hm j) (y := a j) (by omega) ((hH j hj).2) ((hA j hj).2)) a18_0 rfl rfl lmX5_193 niX3_way seX3_way rfl (by decide) (Nat.le_of_ble_eq_true rfl) rfl dX5_least_34 ?_
    refine g_goto (tgt := 42) cx dX5_least_37 (by decide) ?_
    exact g_fret cx rq rfl (rfl) dX5_least_42 (by simp [leastS, eq_true h_8, hjx]) (rfl)

set_option maxRecDepth 100000 in
set_option maxHeartbeats 4000000 in
theorem x_count {D : Wd} {n : Nat} {k f : Nat → Nat} {dn : Nat} {dr : Nat → Nat} {pn : Nat} (hP : PX D 0 n k f dn dr pn) {a : Nat → Nat} (hA : AX D 0 n a) {pl : Nat → Int32} (hPl : PLX D 0 pn pl) (hPo : PLok n pn pl) {hr : Nat} (hHr : D (9, 0) 3 = nI hr) (hr9 : hr ≤ 9999) {sm len : Nat} (hSm : D (18, 0) 2 = nI sm) (hLen : D (7, 0) 1 = nI len) (w : Int32) : Fok mX5_count idsA 4 [vr (0, 0), vi w] D (some (vi (countS n a dn dr pn pl hr sm len w))) D := by
  obtain ⟨hn3, hn8, hN, hK, hF, hd3, hDn, hDr, hp5, hPn⟩ := id hP
  refine Mok.of (L := [some (vr (0, 0)), some (vi w)]) rfl (fun _ => Nat.le_of_ble_eq_true rfl) (fun _ => rfl) (fun X cx rq => ?_)
  refine g_iload_n cx dX5_count_0 rfl ?_
  by_cases hin : lt0 w 8 = true
  · obtain ⟨j9, hj9, rfl⟩ := lt0_nI hin
    have hcs : j9 = 0 ∨ j9 = 1 ∨ j9 = 2 ∨ j9 = 3 ∨ j9 = 4 ∨ j9 = 5 ∨ j9 = 6 ∨ j9 = 7 := by omega
    rcases hcs with rfl | rfl | rfl | rfl | rfl | rfl | rfl | rfl
    · skip
      refine g_tabIn (off := 47) (tgt := 48) cx dX5_count_1 (by decide) (by decide) (by decide) (by decide) ?_
      refine g_aload_n cx dX5_count_48 rfl ?_
      refine g_getR (i := (0, 0)) (ci := 5) (k := 0) (j := (1, 0)) cx a0_0 rfl rfl rfl (by decide) inX5 lfX5_10 dX5_count_49 ?_
      refine g_getIN (i := (1, 0)) (ci := 1) (k := 0) (v := nI n) cx a1_0 rfl rfl rfl (by decide) inX1 lfX5_152 dX5_count_52 (hN) ?_
      exact g_fret cx rq rfl (rfl) dX5_count_55 (by first | (rw [countS, if_neg hin]; done) | (rw [countS, if_pos hin]; rfl)) (rfl)
    · skip
      refine g_tabIn (off := 55) (tgt := 56) cx dX5_count_1 (by decide) (by decide) (by decide) (by decide) ?_
      refine g_aload_n cx dX5_count_56 rfl ?_
      refine g_getR (i := (0, 0)) (ci := 5) (k := 0) (j := (1, 0)) cx a0_0 rfl rfl rfl (by decide) inX5 lfX5_10 dX5_count_57 ?_
      refine g_getIN (i := (1, 0)) (ci := 1) (k := 4) (v := nI dn) cx a1_0 rfl rfl rfl (by decide) inX1 lfX5_197 dX5_count_60 (hDn) ?_
      exact g_fret cx rq rfl (rfl) dX5_count_63 (by first | (rw [countS, if_neg hin]; done) | (rw [countS, if_pos hin]; rfl)) (rfl)
    · skip
      refine g_tabIn (off := 63) (tgt := 64) cx dX5_count_1 (by decide) (by decide) (by decide) (by decide) ?_
      refine g_aload_n cx dX5_count_64 rfl ?_
      refine g_getR (i := (0, 0)) (ci := 5) (k := 0) (j := (1, 0)) cx a0_0 rfl rfl rfl (by decide) inX5 lfX5_10 dX5_count_65 ?_
      refine g_getIN (i := (1, 0)) (ci := 1) (k := 6) (v := nI pn) cx a1_0 rfl rfl rfl (by decide) inX1 lfX5_200 dX5_count_68 (hPn) ?_
      exact g_fret cx rq rfl (rfl) dX5_count_71 (by first | (rw [countS, if_neg hin]; done) | (rw [countS, if_pos hin]; rfl)) (rfl)
    · skip
      refine g_tabIn (off := 71) (tgt := 72) cx dX5_count_1 (by decide) (by decide) (by decide) (by decide) ?_
      refine g_aload_n cx dX5_count_72 rfl ?_
      refine g_getR (i := (0, 0)) (ci := 5) (k := 2) (j := (9, 0)) cx a0_0 rfl rfl rfl (by decide) inX5 lfX5_28 dX5_count_73 ?_
      refine g_getIN (i := (9, 0)) (ci := 0) (k := 3) (v := nI hr) cx a9_0 rfl rfl rfl (by decide) inX0 lfX5_134 dX5_count_76 (hHr) ?_
      exact g_fret cx rq rfl (rfl) dX5_count_79 (by first | (rw [countS, if_neg hin]; done) | (rw [countS, if_pos hin]; rfl)) (rfl)
    · skip
      refine g_tabIn (off := 79) (tgt := 80) cx dX5_count_1 (by decide) (by decide) (by decide) (by decide) ?_
      refine g_aload_n cx dX5_count_80 rfl ?_
      refine g_getR (i := (0, 0)) (ci := 5) (k := 2) (j := (9, 0)) cx a0_0 rfl rfl rfl (by decide) inX5 lfX5_28 dX5_count_81 ?_
      refine g_fcallV (As := []) (rest := []) cx knX0_openRooms (x_openRooms hP (by decide) hA) a9_0 rfl rfl lmX5_203 niX0_openRooms seX0_openRooms rfl (by decide) (Nat.le_of_ble_eq_true rfl) rfl dX5_count_84 ?_
      exact g_fret cx rq rfl (rfl) dX5_count_87 (by first | (rw [countS, if_neg hin]; done) | (rw [countS, if_pos hin]; rfl)) (rfl)
    · skip
      refine g_tabIn (off := 87) (tgt := 88) cx dX5_count_1 (by decide) (by decide) (by decide) (by decide) ?_
      refine g_aload_n cx dX5_count_88 rfl ?_
      refine g_getR (i := (0, 0)) (ci := 5) (k := 2) (j := (9, 0)) cx a0_0 rfl rfl rfl (by decide) inX5 lfX5_28 dX5_count_89 ?_
      refine g_iconst (v := (-1)) cx dX5_count_92 (by decide) ?_
      refine g_fcallV (As := [vi (-1)]) (rest := []) cx knX0_peopleAt (x_peopleAt hP (by decide) hPl (-1)) a9_0 rfl rfl lmX5_111 niX0_peopleAt seX0_peopleAt rfl (by decide) (Nat.le_of_ble_eq_true rfl) rfl dX5_count_93 ?_
      exact g_fret cx rq rfl (rfl) dX5_count_96 (by first | (rw [countS, if_neg hin]; done) | (rw [countS, if_pos hin]; rfl)) (rfl)
    · skip
      refine g_tabIn (off := 96) (tgt := 97) cx dX5_count_1 (by decide) (by decide) (by decide) (by decide) ?_
      refine g_aload_n cx dX5_count_97 rfl ?_
      refine g_getR (i := (0, 0)) (ci := 5) (k := 7) (j := (18, 0)) cx a0_0 rfl rfl rfl (by decide) inX5 lfX5_53 dX5_count_98 ?_
      refine g_getIN (i := (18, 0)) (ci := 3) (k := 2) (v := nI sm) cx a18_0 rfl rfl rfl (by decide) inX3 lfX5_81 dX5_count_101 (hSm) ?_
      exact g_fret cx rq rfl (rfl) dX5_count_104 (by first | (rw [countS, if_neg hin]; done) | (rw [countS, if_pos hin]; rfl)) (rfl)
    · skip
      refine g_tabIn (off := 104) (tgt := 105) cx dX5_count_1 (by decide) (by decide) (by decide) (by decide) ?_
      refine g_aload_n cx dX5_count_105 rfl ?_
      refine g_getR (i := (0, 0)) (ci := 5) (k := 1) (j := (7, 0)) cx a0_0 rfl rfl rfl (by decide) inX5 lfX5_19 dX5_count_106 ?_
      refine g_getIN (i := (7, 0)) (ci := 4) (k := 1) (v := nI len) cx a7_0 rfl rfl rfl (by decide) inX4 lfX5_63 dX5_count_109 (hLen) ?_
      exact g_fret cx rq rfl (rfl) dX5_count_112 (by first | (rw [countS, if_neg hin]; done) | (rw [countS, if_pos hin]; rfl)) (rfl)
  · skip
    have hz0 : ¬ w = 0 := fun e => hin (by rw [e]; decide)
    have hz1 : ¬ w = nI 1 := fun e => hin (by rw [e]; decide)
    have hz2 : ¬ w = nI 2 := fun e => hin (by rw [e]; decide)
    have hz3 : ¬ w = nI 3 := fun e => hin (by rw [e]; decide)
    have hz4 : ¬ w = nI 4 := fun e => hin (by rw [e]; decide)
    have hz5 : ¬ w = nI 5 := fun e => hin (by rw [e]; decide)
    have hz6 : ¬ w = nI 6 := fun e => hin (by rw [e]; decide)
    have hz7 : ¬ w = nI 7 := fun e => hin (by rw [e]; decide)
    refine g_tabOut (tgt := 113) cx dX5_count_1 (lt0_out hin) (by decide) ?_
    refine g_bipush (v := (-3)) cx dX5_count_113 (by decide) ?_
    exact g_fret cx rq rfl (rfl) dX5_count_115 (by first | (rw [countS, if_neg hin]; done) | (rw [countS, if_pos hin]; rfl)) (rfl)

set_option maxRecDepth 100000 in
set_option maxHeartbeats 4000000 in
theorem x_write {D : Wd} {len : Nat} (hLen : D (7, 0) 1 = nI len) (hl2 : len ≤ 200) (y : Int64) (x : Int32) : Fok mX5_write idsA 0 [vr (0, 0), vl y, vi x] D (some (vi (if rng x 1 8 then (if 200 < len + ix x then -5 else nI (len + ix x)) else -3))) (if rng x 1 8 && decide (len + ix x ≤ 200) then WX D len (ix x) (bX y) else D) := by
  refine Mok.of (L := [some (vr (0, 0)), some (vl y), none, some (vi x), none]) rfl (fun _ => Nat.le_of_ble_eq_true rfl) (fun _ => rfl) (fun X cx rq => ?_)
  refine g_iload_n cx dX5_write_0 rfl ?_
  refine g_iconst (v := nI 1) cx dX5_write_1 (by decide) ?_
  refine g_icmp_lt (tgt := 11) cx dX5_write_2 (by decide) (fun h_2 => ?_) (fun h_2 => ?_)
  · skip
    have hw : ¬ rng x 1 8 = true := rg_n1 (by decide) h_2
    refine g_bipush (v := (-3)) cx dX5_write_11 (by decide) ?_
    exact g_fret cx rq rfl (rfl) dX5_write_13 (by simp [eq_false hw]) (by simp [eq_false hw])
  · skip
    refine g_iload_n cx dX5_write_5 rfl ?_
    refine g_bipush (v := nI 8) cx dX5_write_6 (by decide) ?_
    refine g_icmp_le (tgt := 14) cx dX5_write_8 (by decide) (fun h_8 => ?_) (fun h_8 => ?_)
    · skip
      have hw : rng x 1 8 = true := rg_y (by decide) (by decide) h_2 h_8
      obtain ⟨j, hja, hjb, rfl⟩ := rng_nI hw
      have hjx : (nI j).toNatClampNeg = j := nI_clamp (by omega)
      have hji : ix (nI j) = j := hjx
      refine g_aload_n cx dX5_write_14 rfl ?_
      refine g_getR (i := (0, 0)) (ci := 5) (k := 1) (j := (7, 0)) cx a0_0 rfl rfl rfl (by decide) inX5 lfX5_19 dX5_write_15 ?_
      refine g_getIN (i := (7, 0)) (ci := 4) (k := 1) (v := nI len) cx a7_0 rfl rfl rfl (by decide) inX4 lfX5_63 dX5_write_18 (hLen) ?_
      refine g_iload_n cx dX5_write_21 rfl ?_
      refine g_iaddN cx dX5_write_22 ?_
      refine g_sipush (v := nI 200) cx dX5_write_23 (by decide) ?_
      refine g_icmp_leN (tgt := 32) cx dX5_write_26 (by decide) (by omega) (by omega) (fun h_26 => ?_) (fun h_26 => ?_)
      · skip
        have h26b : ¬ 200 < len + j := by omega
        refine g_iconst (v := nI 0) cx dX5_write_32 (by decide) ?_
        refine g_istore (L' := [some (vr (0, 0)), some (vl y), none, some (vi (nI j)), some (vi (nI 0))]) cx dX5_write_33 (by decide) rfl rfl ?_
        have lp : ∀ (fu : Nat) (q : Nat), j - q < fu → (q ≤ j) → Gk X mX5_write idsA 35 [some (vr (0, 0)), some (vl y), none, some (vi (nI j)), some (vi (nI q))] [] (WX D len q (bX y)) := by
          intro fu
          induction fu with
          | zero => intro q hfu; exact absurd hfu (Nat.not_lt_zero _)
          | succ fu ih =>
            intro q hfu hq
            refine g_iload cx dX5_write_35 rfl ?_
            refine g_iload_n cx dX5_write_37 rfl ?_
            refine g_icmp_geN (tgt := 84) cx dX5_write_38 (by decide) (by omega) (by omega) (fun h_38 => ?_) (fun h_38 => ?_)
            · skip
              have e9 : q = j := by omega
              refine g_aload_n cx dX5_write_84 rfl ?_
              refine g_getR (i := (0, 0)) (ci := 5) (k := 1) (j := (7, 0)) cx a0_0 rfl rfl rfl (by decide) inX5 lfX5_19 dX5_write_85 ?_
              refine g_getIN (i := (7, 0)) (ci := 4) (k := 1) (v := nI (len + q)) cx a7_0 rfl rfl rfl (by decide) inX4 lfX5_63 dX5_write_88 (WX.len) ?_
              exact g_fret cx rq rfl (rfl) dX5_write_91 (by simp [eq_true hw, hjx, h26b, e9]) (by simp [eq_true hw, hjx, h_26, e9])
            · skip
              refine g_aload_n cx dX5_write_41 rfl ?_
              refine g_getR (i := (0, 0)) (ci := 5) (k := 1) (j := (7, 0)) cx a0_0 rfl rfl rfl (by decide) inX5 lfX5_19 dX5_write_42 ?_
              refine g_getR (i := (7, 0)) (ci := 4) (k := 0) (j := (8, 0)) cx a7_0 rfl rfl rfl (by decide) inX4 lfX5_67 dX5_write_45 ?_
              refine g_aload_n cx dX5_write_48 rfl ?_
              refine g_getR (i := (0, 0)) (ci := 5) (k := 1) (j := (7, 0)) cx a0_0 rfl rfl rfl (by decide) inX5 lfX5_19 dX5_write_49 ?_
              refine g_getIN (i := (7, 0)) (ci := 4) (k := 1) (v := nI (len + q)) cx a7_0 rfl rfl rfl (by decide) inX4 lfX5_63 dX5_write_52 (WX.len) ?_
              refine g_lload_n cx dX5_write_55 rfl ?_
              refine g_bipush (v := nI 8) cx dX5_write_56 (by decide) ?_
              refine g_iload cx dX5_write_58 rfl ?_
              refine g_imulN cx dX5_write_60 ?_
              refine g_lshr cx dX5_write_61 ?_
              refine g_l2i cx dX5_write_62 ?_
              refine g_i2b cx dX5_write_63 ?_
              refine g_bast (i := (8, 0)) (j := len + q) cx a8_0 rfl (rfl) (by omega) (by decide) dX5_write_64 ?_
              refine g_aload_n cx dX5_write_65 rfl ?_
              refine g_getR (i := (0, 0)) (ci := 5) (k := 1) (j := (7, 0)) cx a0_0 rfl rfl rfl (by decide) inX5 lfX5_19 dX5_write_66 ?_
              refine g_dup cx dX5_write_69 rfl ?_
              refine g_getIN (i := (7, 0)) (ci := 4) (k := 1) (v := nI (len + q)) cx a7_0 rfl rfl rfl (by decide) inX4 lfX5_63 dX5_write_70 (by rw [upA_n _ _ (by decide)]; exact WX.len) ?_
              refine g_iconst (v := nI 1) cx dX5_write_73 (by decide) ?_
              refine g_iaddN cx dX5_write_74 ?_
              refine g_putI (i := (7, 0)) (ci := 4) (k := 1) cx a7_0 rfl rfl rfl (by decide) inX4 tyX4_ok nmX4 rfl rfl lfX5_63 dX5_write_75 ?_
              refine g_iincN (L' := [some (vr (0, 0)), some (vl y), none, some (vi (nI j)), some (vi (nI (q + 1)))]) cx dX5_write_78 rfl (by decide) rfl rfl ?_
              refine g_goto (tgt := 35) cx dX5_write_81 (by decide) ?_
              refine g_wd (D' := WX D len (q + 1) (bX y)) (WX.s) ?_
              exact ih (q + 1) (by omega) (by omega)
        refine g_wd (D' := WX D len 0 (bX y)) (WX.z hLen) ?_
        exact lp (j + 1) 0 (by omega) (by omega)
      · skip
        have h26b : ¬ len + j ≤ 200 := by omega
        refine g_bipush (v := (-5)) cx dX5_write_29 (by decide) ?_
        exact g_fret cx rq rfl (rfl) dX5_write_31 (by simp [eq_true hw, hjx, h_26]) (by simp [hjx, h26b])
    · skip
      have hw : ¬ rng x 1 8 = true := rg_n2 (by decide) h_8
      refine g_bipush (v := (-3)) cx dX5_write_11 (by decide) ?_
      exact g_fret cx rq rfl (rfl) dX5_write_13 (by simp [eq_false hw]) (by simp [eq_false hw])

set_option maxRecDepth 100000 in
set_option maxHeartbeats 4000000 in
theorem x_widest {D : Wd} {n : Nat} {k f : Nat → Nat} {dn : Nat} {dr : Nat → Nat} {pn : Nat} (hP : PX D 0 n k f dn dr pn) {a : Nat → Nat} (hA : AX D 0 n a) (x : Int32) : Fok mX5_widest idsA 4 [vr (0, 0), vi x] D (some (vi (if lt0 x n then stS n k a f (ix x) else -2))) D := by
  obtain ⟨hn3, hn8, hN, hK, hF, hd3, hDn, hDr, hp5, hPn⟩ := id hP
  refine Mok.of (L := [some (vr (0, 0)), some (vi x)]) rfl (fun _ => Nat.le_of_ble_eq_true rfl) (fun _ => rfl) (fun X cx rq => ?_)
  refine g_aload_n cx dX5_widest_0 rfl ?_
  refine g_getR (i := (0, 0)) (ci := 5) (k := 0) (j := (1, 0)) cx a0_0 rfl rfl rfl (by decide) inX5 lfX5_10 dX5_widest_1 ?_
  refine g_iload_n cx dX5_widest_4 rfl ?_
  refine g_fcallV (As := [vi x]) (rest := []) cx knX1_has (x_has hP (by decide) x) a1_0 rfl rfl lmX5_87 niX1_has seX1_has rfl (by decide) (Nat.le_of_ble_eq_true rfl) rfl dX5_widest_5 ?_
  refine g_if_eqB (tgt := 22) cx dX5_widest_8 (by decide) (fun h_8 => ?_) (fun h_8 => ?_)
  · skip
    refine g_bipush (v := (-2)) cx dX5_widest_22 (by decide) ?_
    exact g_fret cx rq rfl (rfl) dX5_widest_24 (by simp [eq_false h_8]) (rfl)
  · skip
    obtain ⟨j, hj, rfl⟩ := lt0_nI h_8
    have hjx : (nI j).toNatClampNeg = j := nI_clamp (by omega)
    have hji : ix (nI j) = j := hjx
    refine g_aload_n cx dX5_widest_11 rfl ?_
    refine g_getR (i := (0, 0)) (ci := 5) (k := 2) (j := (9, 0)) cx a0_0 rfl rfl rfl (by decide) inX5 lfX5_28 dX5_widest_12 ?_
    refine g_iload_n cx dX5_widest_15 rfl ?_
    refine g_fcallV (As := [vi (nI j)]) (rest := []) cx knX0_stretched (x_stretched hP (by decide) hA (r := j) hj) a9_0 rfl rfl lmX5_155 niX0_stretched seX0_stretched rfl (by decide) (Nat.le_of_ble_eq_true rfl) rfl dX5_widest_16 ?_
    refine g_goto (tgt := 24) cx dX5_widest_19 (by decide) ?_
    exact g_fret cx rq rfl (rfl) dX5_widest_24 (by simp [eq_true h_8, hjx]) (rfl)
