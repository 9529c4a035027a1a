theorem nI_one : nI 1 = 1 := by decide
theorem in_iffp {x : Int32} {n : Nat} (hn : n < 2 ^ 31) : ((0 : Int64) ≤ x.toInt64 ∧ x.toInt64 ≤ (nI n - nI 1).toInt64) ↔ lt0 x n = true := by
  rcases Nat.eq_zero_or_pos n with e | e
  · subst e
    have e1 : nI 0 - nI 1 = -1 := by decide
    have e0 : (0 : Int64) = (0 : Int32).toInt64 := by decide
    have e2 : (-1 : Int32).toInt = -1 := by decide
    rw [e1, e0, i64_le, i64_le, lt0_iff, Int32.toInt_zero, e2]
    omega
  · rw [pk_sub e]; exact in_iff e hn
theorem ppl_s (pl : Nat → Int32) (x : Int32) (q : Nat) (hq : q < 8) : nI (bitsN (fun p => decide (pl p = x)) q) ||| (if pl q = x then nI (2 ^ q) else nI 0) = nI (bitsN (fun p => decide (pl p = x)) (q + 1)) := by
  rw [bitsN]
  by_cases h : pl q = x
  · rw [if_pos h, if_pos (by simpa using h), nI_or]
    congr 1
    have hl := bitsN_lt (fun p => decide (pl p = x)) q
    rw [Nat.or_comm, Nat.add_comm]
    have h9 := Nat.two_pow_add_eq_or_of_lt hl 1
    rw [Nat.mul_one] at h9
    exact h9.symm
  · rw [if_neg h, if_neg (by simpa using h), nI_or]; simp
set_option maxRecDepth 100000 in
set_option maxHeartbeats 4000000 in
theorem m_leaf {D : Wd} {n : Nat} {k f : Nat → Nat} {dn : Nat} {dr : Nat → Nat} {pn : Nat} (hP : PM D n k f dn dr pn) {a : Nat → Nat} (hA : AM D 0 n a) {hm : Nat → Nat} (hH : AM D 56 n hm) (x w : Int32) : Fok mX6_leaf idsA 2 [vr (30, 0), vi x, vi w] D (some (vi (leafS n k a hm x w))) D := by
  obtain ⟨hn3, hn8, hN, hK, hF, hd3, hDn, hDr, hp5, hPn⟩ := id hP
  refine Mok.of (L := [some (vr (30, 0)), some (vi x), some (vi w)]) rfl (fun _ => Nat.le_of_ble_eq_true rfl) (fun _ => rfl) (fun X cx rq => ?_)
  refine g_aload_n cx dX6_leaf_0 rfl ?_
  refine g_iload_n cx dX6_leaf_1 rfl ?_
  refine g_fcallV (As := [vi x]) (rest := []) cx knX6_isLeaf (m_isLeaf hP x) a30_0 rfl rfl lmX6_183 niX6_isLeaf seX6_isLeaf rfl (by decide) (Nat.le_of_ble_eq_true rfl) rfl dX6_leaf_2 ?_
  refine g_if_neB (tgt := 11) cx dX6_leaf_5 (by decide) (fun h_5 => ?_) (fun h_5 => ?_)
  · skip
    obtain ⟨j, hj, rfl⟩ := lt0_nI h_5
    have hjx : (nI j).toNatClampNeg = j := nI_clamp (by omega)
    refine g_iload_n cx dX6_leaf_11 rfl ?_
    refine g_if_ne (tgt := 24) cx dX6_leaf_12 (by decide) (fun h_12 => ?_) (fun h_12 => ?_)
    · skip
      refine g_iload_n cx dX6_leaf_24 rfl ?_
      refine g_iconst (v := nI 1) cx dX6_leaf_25 (by decide) ?_
      refine g_icmp_ne (tgt := 38) cx dX6_leaf_26 (by decide) (fun h_26 => ?_) (fun h_26 => ?_)
      · skip
        refine g_iload_n cx dX6_leaf_38 rfl ?_
        refine g_iconst (v := nI 2) cx dX6_leaf_39 (by decide) ?_
        refine g_icmp_ne (tgt := 55) cx dX6_leaf_40 (by decide) (fun h_40 => ?_) (fun h_40 => ?_)
        · skip
          refine g_bipush (v := (-3)) cx dX6_leaf_55 (by decide) ?_
          exact g_fret cx rq rfl (rfl) dX6_leaf_57 (by simp [leafS, eq_true h_5, hjx, eq_false h_12, eq_false h_26, eq_false h_40]) (rfl)
        · skip
          refine g_aload_n cx dX6_leaf_43 rfl ?_
          refine g_getR (i := (30, 0)) (ci := 6) (k := 0) (j := (31, 0)) cx a30_0 rfl rfl rfl (by decide) inX6 lfX6_7 dX6_leaf_44 ?_
          refine g_bipush (v := nI 56) cx dX6_leaf_47 (by decide) ?_
          refine g_iload_n cx dX6_leaf_49 rfl ?_
          refine g_iaddN cx dX6_leaf_50 ?_
          refine g_ialdN (i := (31, 0)) (j := 56 + j) (v := nI (hm j)) cx a31_0 rfl (rfl) (by omega) (by decide) dX6_leaf_51 ((hH j (by omega)).1) ?_
          refine g_goto (tgt := 57) cx dX6_leaf_52 (by decide) ?_
          exact g_fret cx rq rfl (rfl) dX6_leaf_57 (by simp [leafS, eq_true h_5, hjx, eq_false h_12, eq_false h_26, eq_true h_40]) (rfl)
      · skip
        refine g_aload_n cx dX6_leaf_29 rfl ?_
        refine g_getR (i := (30, 0)) (ci := 6) (k := 0) (j := (31, 0)) cx a30_0 rfl rfl rfl (by decide) inX6 lfX6_7 dX6_leaf_30 ?_
        refine g_iload_n cx dX6_leaf_33 rfl ?_
        refine g_ialdN (i := (31, 0)) (j := j) (v := nI (a j)) cx a31_0 rfl (rfl) (by omega) (by decide) dX6_leaf_34 ((hA.z j (by omega)).1) ?_
        refine g_goto (tgt := 57) cx dX6_leaf_35 (by decide) ?_
        exact g_fret cx rq rfl (rfl) dX6_leaf_57 (by simp [leafS, eq_true h_5, hjx, eq_false h_12, eq_true h_26]) (rfl)
    · skip
      refine g_aload_n cx dX6_leaf_15 rfl ?_
      refine g_getR (i := (30, 0)) (ci := 6) (k := 7) (j := (35, 0)) cx a30_0 rfl rfl rfl (by decide) inX6 lfX6_27 dX6_leaf_16 ?_
      refine g_iload_n cx dX6_leaf_19 rfl ?_
      refine g_ialdN (i := (35, 0)) (j := j) (v := nI (k j)) cx a35_0 rfl (rfl) (by omega) (by decide) dX6_leaf_20 ((hK j (by omega)).1) ?_
      refine g_goto (tgt := 57) cx dX6_leaf_21 (by decide) ?_
      exact g_fret cx rq rfl (rfl) dX6_leaf_57 (by simp [leafS, eq_true h_5, hjx, eq_true h_12]) (rfl)
  · skip
    refine g_bipush (v := (-2)) cx dX6_leaf_8 (by decide) ?_
    exact g_fret cx rq rfl (rfl) dX6_leaf_10 (by simp [leafS, eq_false h_5]) (rfl)

set_option maxRecDepth 100000 in
set_option maxHeartbeats 4000000 in
theorem m_isPerson {D : Wd} {n : Nat} {k f : Nat → Nat} {dn : Nat} {dr : Nat → Nat} {pn : Nat} (hP : PM D n k f dn dr pn) (x : Int32) : Fok mX6_isPerson idsA 1 [vr (30, 0), vi x] D (some (vi (if lt0 x pn = true then 1 else 0))) D := by
  obtain ⟨hn3, hn8, hN, hK, hF, hd3, hDn, hDr, hp5, hPn⟩ := id hP
  refine Mok.of (L := [some (vr (30, 0)), some (vi x)]) rfl (fun _ => Nat.le_of_ble_eq_true rfl) (fun _ => rfl) (fun X cx rq => ?_)
  refine g_iload_n cx dX6_isPerson_0 rfl ?_
  refine g_i2l cx dX6_isPerson_1 ?_
  refine g_lconst (v := 0) cx dX6_isPerson_2 (by decide) ?_
  refine g_aload_n cx dX6_isPerson_3 rfl ?_
  refine g_getIN (i := (30, 0)) (ci := 6) (k := 11) (v := nI pn) cx a30_0 rfl rfl rfl (by decide) inX6 lfX6_153 dX6_isPerson_4 (hPn) ?_
  refine g_iconst (v := nI 1) cx dX6_isPerson_7 (by decide) ?_
  refine g_isub cx dX6_isPerson_8 ?_
  refine g_i2l cx dX6_isPerson_9 ?_
  refine g_fcallS (As := [vl x.toInt64, vl 0, vl (((nI pn) - (nI 1)).toInt64)]) (rest := []) cx knX6_in (m_in x.toInt64 0 (((nI pn) - (nI 1)).toInt64)) lmX6_60 nsX6_in rfl (by decide) (Nat.le_of_ble_eq_true rfl) rfl dX6_isPerson_10 ?_
  refine g_top (bi_iff (in_iffp (by omega))) ?_
  exact g_fret cx rq rfl (bi_nar _) dX6_isPerson_13 (rfl) (rfl)

set_option maxRecDepth 100000 in
set_option maxHeartbeats 4000000 in
theorem m_person {D : Wd} {n : Nat} {k f : Nat → Nat} {dn : Nat} {dr : Nat → Nat} {pn : Nat} (hP : PM D n k f dn dr pn) {pl : Nat → Int32} (hPl : PLM D 0 pn pl) (hPo : PLok n pn pl) (x : Int32) : Fok mX6_person idsA 2 [vr (30, 0), vi x] D (some (vi (personS pn pl x))) D := by
  obtain ⟨hn3, hn8, hN, hK, hF, hd3, hDn, hDr, hp5, hPn⟩ := id hP
  refine Mok.of (L := [some (vr (30, 0)), some (vi x)]) rfl (fun _ => Nat.le_of_ble_eq_true rfl) (fun _ => rfl) (fun X cx rq => ?_)
  refine g_aload_n cx dX6_person_0 rfl ?_
  refine g_iload_n cx dX6_person_1 rfl ?_
  refine g_fcallV (As := [vi x]) (rest := []) cx knX6_isPerson (m_isPerson hP x) a30_0 rfl rfl lmX6_204 niX6_isPerson seX6_isPerson rfl (by decide) (Nat.le_of_ble_eq_true rfl) rfl dX6_person_2 ?_
  refine g_if_eqB (tgt := 20) cx dX6_person_5 (by decide) (fun h_5 => ?_) (fun h_5 => ?_)
  · skip
    refine g_bipush (v := (-2)) cx dX6_person_20 (by decide) ?_
    exact g_fret cx rq rfl (rfl) dX6_person_22 (by simp [personS, eq_false h_5]) (rfl)
  · skip
    obtain ⟨j, hj, rfl⟩ := lt0_nI h_5
    have hjx : (nI j).toNatClampNeg = j := nI_clamp (by omega)
    refine g_aload_n cx dX6_person_8 rfl ?_
    refine g_getR (i := (30, 0)) (ci := 6) (k := 0) (j := (31, 0)) cx a30_0 rfl rfl rfl (by decide) inX6 lfX6_7 dX6_person_9 ?_
    refine g_bipush (v := nI 8) cx dX6_person_12 (by decide) ?_
    refine g_iload_n cx dX6_person_14 rfl ?_
    refine g_iaddN cx dX6_person_15 ?_
    refine g_ialdN (i := (31, 0)) (j := 8 + j) (v := (pl j)) cx a31_0 rfl (rfl) (by omega) (by decide) dX6_person_16 (hPl.z j (by omega)) ?_
    refine g_goto (tgt := 22) cx dX6_person_17 (by decide) ?_
    exact g_fret cx rq rfl (rfl) dX6_person_22 (by simp [personS, eq_true h_5, hjx]) (rfl)

set_option maxRecDepth 100000 in
set_option maxHeartbeats 4000000 in
theorem m_inRoom {D : Wd} {n : Nat} {k f : Nat → Nat} {dn : Nat} {dr : Nat → Nat} {pn : Nat} (hP : PM D n k f dn dr pn) {bs : Nat} {pl : Nat → Int32} (hPl : PLM D bs pn pl) (hb : bs + 14 ≤ 70) (x : Int32) : Fok mX6_inRoom idsA 0 [vr (30, 0), vi (nI bs), vi x] D (some (vi (nI (ppl pn pl x)))) D := by
  obtain ⟨hn3, hn8, hN, hK, hF, hd3, hDn, hDr, hp5, hPn⟩ := id hP
  refine Mok.of (L := [some (vr (30, 0)), some (vi (nI bs)), some (vi x), none, none]) rfl (fun _ => Nat.le_of_ble_eq_true rfl) (fun _ => rfl) (fun X cx rq => ?_)
  refine g_iconst (v := nI 0) cx dX6_inRoom_0 (by decide) ?_
  refine g_istore_n (L' := [some (vr (30, 0)), some (vi (nI bs)), some (vi x), some (vi (nI 0)), none]) cx dX6_inRoom_1 (by decide) rfl rfl ?_
  refine g_iconst (v := nI 0) cx dX6_inRoom_2 (by decide) ?_
  refine g_istore (L' := [some (vr (30, 0)), some (vi (nI bs)), some (vi x), some (vi (nI 0)), some (vi (nI 0))]) cx dX6_inRoom_3 (by decide) rfl rfl ?_
  have lp : ∀ (fu : Nat) (q : Nat), pn - q < fu → (q ≤ pn) → Gk X mX6_inRoom idsA 5 [some (vr (30, 0)), some (vi (nI bs)), some (vi x), some (vi (nI (bitsN (fun p => decide (pl p = x)) q))), some (vi (nI q))] [] D := by
    intro fu
    induction fu with
    | zero => intro q hfu; exact absurd hfu (Nat.not_lt_zero _)
    | succ fu ih =>
      intro q hfu hq
      refine g_iload cx dX6_inRoom_5 rfl ?_
      refine g_aload_n cx dX6_inRoom_7 rfl ?_
      refine g_getIN (i := (30, 0)) (ci := 6) (k := 11) (v := nI pn) cx a30_0 rfl rfl rfl (by decide) inX6 lfX6_153 dX6_inRoom_8 (hPn) ?_
      refine g_icmp_geN (tgt := 47) cx dX6_inRoom_11 (by decide) (by omega) (by omega) (fun h_11 => ?_) (fun h_11 => ?_)
      · skip
        have e : q = pn := by omega
        subst e
        refine g_iload_n cx dX6_inRoom_47 rfl ?_
        exact g_fret cx rq rfl (rfl) dX6_inRoom_48 (rfl) (rfl)
      · skip
        refine g_iload_n cx dX6_inRoom_14 rfl ?_
        refine g_aload_n cx dX6_inRoom_15 rfl ?_
        refine g_getR (i := (30, 0)) (ci := 6) (k := 0) (j := (31, 0)) cx a30_0 rfl rfl rfl (by decide) inX6 lfX6_7 dX6_inRoom_16 ?_
        refine g_iload_n cx dX6_inRoom_19 rfl ?_
        refine g_bipush (v := nI 8) cx dX6_inRoom_20 (by decide) ?_
        refine g_iaddN cx dX6_inRoom_22 ?_
        refine g_iload cx dX6_inRoom_23 rfl ?_
        refine g_iaddN cx dX6_inRoom_25 ?_
        refine g_ialdN (i := (31, 0)) (j := (bs + 8) + q) (v := (pl q)) cx a31_0 rfl (rfl) (by omega) (by decide) dX6_inRoom_26 (hPl q (by omega)) ?_
        refine g_iload_n cx dX6_inRoom_27 rfl ?_
        refine g_icmp_ne (tgt := 38) cx dX6_inRoom_28 (by decide) (fun h_28 => ?_) (fun h_28 => ?_)
        · skip
          refine g_iconst (v := nI 0) cx dX6_inRoom_38 (by decide) ?_
          refine g_top (y := if pl q = x then nI (2 ^ q) else nI 0) (by rw [if_neg h_28]) ?_
          refine g_ior cx dX6_inRoom_39 ?_
          refine g_top (y := nI (bitsN (fun p => decide (pl p = x)) (q + 1))) (ppl_s pl x q (by omega)) ?_
          refine g_istore_n (L' := [some (vr (30, 0)), some (vi (nI bs)), some (vi x), some (vi (nI (bitsN (fun p => decide (pl p = x)) (q + 1)))), some (vi (nI q))]) cx dX6_inRoom_40 (by decide) rfl rfl ?_
          refine g_iincN (L' := [some (vr (30, 0)), some (vi (nI bs)), some (vi x), some (vi (nI (bitsN (fun p => decide (pl p = x)) (q + 1)))), some (vi (nI (q + 1)))]) cx dX6_inRoom_41 rfl (by decide) rfl rfl ?_
          refine g_goto (tgt := 5) cx dX6_inRoom_44 (by decide) ?_
          exact ih (q + 1) (by omega) (by omega)
        · skip
          refine g_iconst (v := nI 1) cx dX6_inRoom_31 (by decide) ?_
          refine g_iload cx dX6_inRoom_32 rfl ?_
          refine g_ishl cx dX6_inRoom_34 ?_
          refine g_goto (tgt := 39) cx dX6_inRoom_35 (by decide) ?_
          refine g_top (y := if pl q = x then nI (2 ^ q) else nI 0) (by rw [if_pos h_28]; exact nI_shl q (by omega)) ?_
          refine g_ior cx dX6_inRoom_39 ?_
          refine g_top (y := nI (bitsN (fun p => decide (pl p = x)) (q + 1))) (ppl_s pl x q (by omega)) ?_
          refine g_istore_n (L' := [some (vr (30, 0)), some (vi (nI bs)), some (vi x), some (vi (nI (bitsN (fun p => decide (pl p = x)) (q + 1)))), some (vi (nI q))]) cx dX6_inRoom_40 (by decide) rfl rfl ?_
          refine g_iincN (L' := [some (vr (30, 0)), some (vi (nI bs)), some (vi x), some (vi (nI (bitsN (fun p => decide (pl p = x)) (q + 1)))), some (vi (nI (q + 1)))]) cx dX6_inRoom_41 rfl (by decide) rfl rfl ?_
          refine g_goto (tgt := 5) cx dX6_inRoom_44 (by decide) ?_
          exact ih (q + 1) (by omega) (by omega)
  exact lp (pn + 1) 0 (by omega) (by omega)

set_option maxRecDepth 100000 in
set_option maxHeartbeats 4000000 in
theorem m_room {D : Wd} {n : Nat} {k f : Nat → Nat} {dn : Nat} {dr : Nat → Nat} {pn : Nat} (hP : PM D n k f dn dr pn) {a : Nat → Nat} (hA : AM D 0 n a) {pl : Nat → Int32} (hPl : PLM D 0 pn pl) (hPo : PLok n pn pl) (x w : Int32) : Fok mX6_room idsA 3 [vr (30, 0), vi x, vi w] D (some (vi (roomS n f a dn dr pn pl x w))) D := by
  obtain ⟨hn3, hn8, hN, hK, hF, hd3, hDn, hDr, hp5, hPn⟩ := id hP
  refine Mok.of (L := [some (vr (30, 0)), some (vi x), some (vi w)]) rfl (fun _ => Nat.le_of_ble_eq_true rfl) (fun _ => rfl) (fun X cx rq => ?_)
  refine g_aload_n cx dX6_room_0 rfl ?_
  refine g_iload_n cx dX6_room_1 rfl ?_
  refine g_fcallV (As := [vi x]) (rest := []) cx knX6_isLeaf (m_isLeaf hP x) a30_0 rfl rfl lmX6_183 niX6_isLeaf seX6_isLeaf rfl (by decide) (Nat.le_of_ble_eq_true rfl) rfl dX6_room_2 ?_
  refine g_if_neB (tgt := 11) cx dX6_room_5 (by decide) (fun h_5 => ?_) (fun h_5 => ?_)
  · skip
    obtain ⟨j, hj, rfl⟩ := lt0_nI h_5
    have hjx : (nI j).toNatClampNeg = j := nI_clamp (by omega)
    refine g_iload_n cx dX6_room_11 rfl ?_
    refine g_if_ne (tgt := 24) cx dX6_room_12 (by decide) (fun h_12 => ?_) (fun h_12 => ?_)
    · skip
      refine g_iload_n cx dX6_room_24 rfl ?_
      refine g_iconst (v := nI 1) cx dX6_room_25 (by decide) ?_
      refine g_icmp_ne (tgt := 38) cx dX6_room_26 (by decide) (fun h_26 => ?_) (fun h_26 => ?_)
      · skip
        refine g_iload_n cx dX6_room_38 rfl ?_
        refine g_iconst (v := nI 2) cx dX6_room_39 (by decide) ?_
        refine g_icmp_ne (tgt := 60) cx dX6_room_40 (by decide) (fun h_40 => ?_) (fun h_40 => ?_)
        · skip
          refine g_iload_n cx dX6_room_60 rfl ?_
          refine g_iconst (v := nI 3) cx dX6_room_61 (by decide) ?_
          refine g_icmp_ne (tgt := 74) cx dX6_room_62 (by decide) (fun h_62 => ?_) (fun h_62 => ?_)
          · skip
            refine g_bipush (v := (-3)) cx dX6_room_74 (by decide) ?_
            exact g_fret cx rq rfl (rfl) dX6_room_76 (by simp [roomS, eq_true h_5, hjx, eq_false h_12, eq_false h_26, eq_false h_40, eq_false h_62]) (rfl)
          · skip
            refine g_aload_n cx dX6_room_65 rfl ?_
            refine g_iconst (v := nI 0) cx dX6_room_66 (by decide) ?_
            refine g_iload_n cx dX6_room_67 rfl ?_
            refine g_fcallV (As := [vi (nI 0), vi (nI j)]) (rest := []) cx knX6_inRoom (m_inRoom hP (bs := 0) hPl (by omega) (nI j)) a30_0 rfl rfl lmX6_189 niX6_inRoom seX6_inRoom rfl (by decide) (Nat.le_of_ble_eq_true rfl) rfl dX6_room_68 ?_
            refine g_goto (tgt := 76) cx dX6_room_71 (by decide) ?_
            exact g_fret cx rq rfl (rfl) dX6_room_76 (by simp [roomS, eq_true h_5, hjx, eq_false h_12, eq_false h_26, eq_false h_40, eq_true h_62]) (rfl)
        · skip
          refine g_aload_n cx dX6_room_43 rfl ?_
          refine g_iconst (v := nI 0) cx dX6_room_44 (by decide) ?_
          refine g_iload_n cx dX6_room_45 rfl ?_
          refine g_fcallV (As := [vi (nI 0), vi (nI j)]) (rest := []) cx knX6_isOpen (m_isOpen hP hA (by omega) (i := j) (by omega)) a30_0 rfl rfl lmX6_186 niX6_isOpen seX6_isOpen rfl (by decide) (Nat.le_of_ble_eq_true rfl) rfl dX6_room_46 ?_
          refine g_if_eqB (tgt := 56) cx dX6_room_49 (by decide) (fun h_49 => ?_) (fun h_49 => ?_)
          · skip
            refine g_iconst (v := nI 0) cx dX6_room_56 (by decide) ?_
            refine g_goto (tgt := 76) cx dX6_room_57 (by decide) ?_
            exact g_fret cx rq rfl (rfl) dX6_room_76 (by simp [roomS, eq_true h_5, hjx, eq_false h_12, eq_false h_26, eq_true h_40, eq_false h_49]) (rfl)
          · skip
            refine g_iconst (v := nI 1) cx dX6_room_52 (by decide) ?_
            refine g_goto (tgt := 76) cx dX6_room_53 (by decide) ?_
            exact g_fret cx rq rfl (rfl) dX6_room_76 (by simp [roomS, eq_true h_5, hjx, eq_false h_12, eq_false h_26, eq_true h_40, eq_true h_49]) (rfl)
      · skip
        refine g_aload_n cx dX6_room_29 rfl ?_
        refine g_getR (i := (30, 0)) (ci := 6) (k := 8) (j := (36, 0)) cx a30_0 rfl rfl rfl (by decide) inX6 lfX6_30 dX6_room_30 ?_
        refine g_iload_n cx dX6_room_33 rfl ?_
        refine g_ialdN (i := (36, 0)) (j := j) (v := nI (f j)) cx a36_0 rfl (rfl) (by omega) (by decide) dX6_room_34 ((hF j (by omega)).1) ?_
        refine g_goto (tgt := 76) cx dX6_room_35 (by decide) ?_
        exact g_fret cx rq rfl (rfl) dX6_room_76 (by simp [roomS, eq_true h_5, hjx, eq_false h_12, eq_true h_26]) (rfl)
    · skip
      refine g_aload_n cx dX6_room_15 rfl ?_
      refine g_iconst (v := nI 0) cx dX6_room_16 (by decide) ?_
      refine g_iload_n cx dX6_room_17 rfl ?_
      refine g_fcallV (As := [vi (nI 0), vi (nI j)]) (rest := []) cx knX6_width (m_width hP hA (by omega) (i := j) (by omega)) a30_0 rfl rfl lmX6_180 niX6_width seX6_width rfl (by decide) (Nat.le_of_ble_eq_true rfl) rfl dX6_room_18 ?_
      refine g_goto (tgt := 76) cx dX6_room_21 (by decide) ?_
      exact g_fret cx rq rfl (rfl) dX6_room_76 (by simp [roomS, eq_true h_5, hjx, eq_true h_12]) (rfl)
  · skip
    refine g_bipush (v := (-2)) cx dX6_room_8 (by decide) ?_
    exact g_fret cx rq rfl (rfl) dX6_room_10 (by simp [roomS, eq_false h_5]) (rfl)

set_option maxRecDepth 100000 in
set_option maxHeartbeats 4000000 in
theorem m_push {D : Wd} {n : Nat} {k f : Nat → Nat} {dn : Nat} {dr : Nat → Nat} {pn : Nat} (hP : PM D n k f dn dr pn) {a : Nat → Nat} (hA : AM D 0 n a) (x s d : Int32) : Fok mX6_push idsA 6 [vr (30, 0), vi x, vi s, vi d] D (some (vi (pushS n k f a x s d))) (Rw D 0 n (pushA n k f a x s d)) := by
  obtain ⟨hn3, hn8, hN, hK, hF, hd3, hDn, hDr, hp5, hPn⟩ := id hP
  refine Mok.of (L := [some (vr (30, 0)), some (vi x), some (vi s), some (vi d)]) rfl (fun _ => Nat.le_of_ble_eq_true rfl) (fun _ => rfl) (fun X cx rq => ?_)
  refine g_aload_n cx dX6_push_0 rfl ?_
  refine g_iload_n cx dX6_push_1 rfl ?_
  refine g_fcallV (As := [vi x]) (rest := []) cx knX6_isLeaf (m_isLeaf hP x) a30_0 rfl rfl lmX6_183 niX6_isLeaf seX6_isLeaf rfl (by decide) (Nat.le_of_ble_eq_true rfl) rfl dX6_push_2 ?_
  refine g_if_neB (tgt := 11) cx dX6_push_5 (by decide) (fun h_5 => ?_) (fun h_5 => ?_)
  · skip
    obtain ⟨j, hj, rfl⟩ := lt0_nI h_5
    have hjx : (nI j).toNatClampNeg = j := nI_clamp (by omega)
    refine g_iload_n cx dX6_push_11 rfl ?_
    refine g_fcallS (As := [vi s]) (rest := []) cx knX6_isSide (m_isSide s) lmX6_210 nsX6_isSide rfl (by decide) (Nat.le_of_ble_eq_true rfl) rfl dX6_push_12 ?_
    refine g_if_eqB (tgt := 41) cx dX6_push_15 (by decide) (fun h_15 => ?_) (fun h_15 => ?_)
    · skip
      refine g_bipush (v := (-3)) cx dX6_push_41 (by decide) ?_
      exact g_fret cx rq rfl (rfl) dX6_push_43 (by simp [pushS, eq_true h_5, hjx, eq_false h_15]) (by simp [pushA, eq_true h_5, hjx, eq_false h_15, Rw.self hA])
    · skip
      obtain ⟨t, ht, rfl⟩ := lt0_nI h_15
      have htx : (nI t).toNatClampNeg = t := nI_clamp (by omega)
      refine g_iload_n cx dX6_push_18 rfl ?_
      refine g_i2l cx dX6_push_19 ?_
      refine g_lconst (v := 1) cx dX6_push_20 (by decide) ?_
      refine g_ldc2 (v := 72) cx lcX6_213 dX6_push_21 ?_
      refine g_fcallS (As := [vl d.toInt64, vl 1, vl 72]) (rest := []) cx knX6_in (m_in d.toInt64 1 72) lmX6_60 nsX6_in rfl (by decide) (Nat.le_of_ble_eq_true rfl) rfl dX6_push_24 ?_
      refine g_top (bi_iff (in_iff2 (a := 1) (b := 72) (by decide) (by decide) (by decide) (by decide))) ?_
      refine g_if_eqB (tgt := 41) cx dX6_push_27 (by decide) (fun h_27 => ?_) (fun h_27 => ?_)
      · skip
        refine g_bipush (v := (-3)) cx dX6_push_41 (by decide) ?_
        exact g_fret cx rq rfl (rfl) dX6_push_43 (by simp [pushS, eq_true h_5, hjx, eq_true h_15, htx, eq_false h_27]) (by simp [pushA, eq_true h_5, hjx, eq_true h_15, htx, eq_false h_27, Rw.self hA])
      · skip
        obtain ⟨u, hua, hub, rfl⟩ := rng_nI h_27
        have hux : (nI u).toNatClampNeg = u := nI_clamp (by omega)
        refine g_aload_n cx dX6_push_30 rfl ?_
        refine g_iconst (v := nI 0) cx dX6_push_31 (by decide) ?_
        refine g_iload_n cx dX6_push_32 rfl ?_
        refine g_iload_n cx dX6_push_33 rfl ?_
        refine g_iload_n cx dX6_push_34 rfl ?_
        refine g_fcallV (As := [vi (nI 0), vi (nI j), vi (nI t), vi (nI u)]) (rest := []) cx knX6_pushBy (m_pushBy hP hA (by omega) (i := j) (s := t) (d := u) (by omega) (by omega) (by omega)) a30_0 rfl rfl lmX6_215 niX6_pushBy seX6_pushBy rfl (by decide) (Nat.le_of_ble_eq_true rfl) rfl dX6_push_35 ?_
        refine g_goto (tgt := 43) cx dX6_push_38 (by decide) ?_
        exact g_fret cx rq rfl (rfl) dX6_push_43 (by simp [pushS, eq_true h_5, hjx, eq_true h_15, htx, eq_true h_27, hux]) (by simp [pushA, eq_true h_5, hjx, eq_true h_15, htx, eq_true h_27, hux])
  · skip
    refine g_bipush (v := (-2)) cx dX6_push_8 (by decide) ?_
    exact g_fret cx rq rfl (rfl) dX6_push_10 (by simp [pushS, eq_false h_5]) (by simp [pushA, eq_false h_5, Rw.self hA])
