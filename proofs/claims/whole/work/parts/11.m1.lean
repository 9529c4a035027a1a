set_option maxRecDepth 100000 in
set_option maxHeartbeats 4000000 in
theorem m_in {D : Wd} (v a c : Int64) : Fok mX6_in idsA 0 [vl v, vl a, vl c] D (some (vi (if a ≤ v ∧ v ≤ c then 1 else 0))) D := by
  refine Mok.of (L := [some (vl v), none, some (vl a), none, some (vl c), none]) rfl (fun _ => Nat.le_of_ble_eq_true rfl) (fun _ => rfl) (fun X cx rq => ?_)
  refine g_lload_n cx dX6_in_0 rfl ?_
  refine g_lload_n cx dX6_in_1 rfl ?_
  refine g_lcmp cx dX6_in_2 ?_
  refine g_if_lt (tgt := 17) cx dX6_in_3 (by decide) (fun h_3 => ?_) (fun h_3 => ?_)
  · skip
    rw [lg_cmp_lt] at h_3
    refine g_iconst (v := nI 0) cx dX6_in_17 (by decide) ?_
    exact g_fret cx rq rfl (by rfl) dX6_in_18 (by rw [if_neg (by first | exact fun q => absurd h_3 (Int64.not_lt.mpr q.1) | exact fun q => absurd h_10 (Int64.not_lt.mpr q.2))]; rfl) (rfl)
  · skip
    rw [lg_cmp_lt] at h_3
    refine g_lload_n cx dX6_in_6 rfl ?_
    refine g_lload cx dX6_in_7 rfl ?_
    refine g_lcmp cx dX6_in_9 ?_
    refine g_if_gt (tgt := 17) cx dX6_in_10 (by decide) (fun h_10 => ?_) (fun h_10 => ?_)
    · skip
      rw [lg_cmp_gt] at h_10
      refine g_iconst (v := nI 0) cx dX6_in_17 (by decide) ?_
      exact g_fret cx rq rfl (by rfl) dX6_in_18 (by rw [if_neg (by first | exact fun q => absurd h_3 (Int64.not_lt.mpr q.1) | exact fun q => absurd h_10 (Int64.not_lt.mpr q.2))]; rfl) (rfl)
    · skip
      rw [lg_cmp_gt] at h_10
      refine g_iconst (v := nI 1) cx dX6_in_13 (by decide) ?_
      refine g_goto (tgt := 18) cx dX6_in_14 (by decide) ?_
      exact g_fret cx rq rfl (by rfl) dX6_in_18 (by rw [if_pos ⟨Int64.not_lt.mp h_3, Int64.not_lt.mp h_10⟩]; rfl) (rfl)

set_option maxRecDepth 100000 in
set_option maxHeartbeats 4000000 in
theorem m_on {D : Wd} {a c : Nat} (ha : a < 72) (hc : c < 72) : Fok mX6_on idsA 0 [vi (nI a), vi (nI c)] D (some (vi (nI (onN a c)))) D := by
  refine Mok.of (L := [some (vi (nI a)), some (vi (nI c))]) rfl (fun _ => Nat.le_of_ble_eq_true rfl) (fun _ => rfl) (fun X cx rq => ?_)
  refine g_iload_n cx dX6_on_0 rfl ?_
  refine g_iload_n cx dX6_on_1 rfl ?_
  refine g_isub cx dX6_on_2 ?_
  refine g_bipush (v := nI 72) cx dX6_on_3 (by decide) ?_
  refine g_iadd cx dX6_on_5 ?_
  refine g_top (nI_on ha) ?_
  refine g_bipush (v := nI 72) cx dX6_on_6 (by decide) ?_
  refine g_iremN cx dX6_on_8 (by omega) (by omega) (by omega) ?_
  exact g_fret cx rq rfl (rfl) dX6_on_9 (by rw [onN_mod ha hc]) (rfl)

set_option maxRecDepth 100000 in
set_option maxHeartbeats 4000000 in
theorem m_next {D : Wd} {n : Nat} {k f : Nat → Nat} {dn : Nat} {dr : Nat → Nat} {pn : Nat} (hP : PM D n k f dn dr pn) {i : Nat} (hi : i < n) : Fok mX6_next idsA 0 [vr (30, 0), vi (nI i)] D (some (vi (nI (nx n i)))) D := by
  obtain ⟨hn3, hn8, hN, hK, hF, hd3, hDn, hDr, hp5, hPn⟩ := id hP
  refine Mok.of (L := [some (vr (30, 0)), some (vi (nI i))]) rfl (fun _ => Nat.le_of_ble_eq_true rfl) (fun _ => rfl) (fun X cx rq => ?_)
  refine g_iload_n cx dX6_next_0 rfl ?_
  refine g_iconst (v := nI 1) cx dX6_next_1 (by decide) ?_
  refine g_iaddN cx dX6_next_2 ?_
  refine g_aload_n cx dX6_next_3 rfl ?_
  refine g_getIN (i := (30, 0)) (ci := 6) (k := 6) (v := nI n) cx a30_0 rfl rfl rfl (by decide) inX6 lfX6_23 dX6_next_4 (hN) ?_
  refine g_iremN cx dX6_next_7 (by omega) (by omega) (by omega) ?_
  exact g_fret cx rq rfl (rfl) dX6_next_8 (by rw [nx_mod hi]) (rfl)

set_option maxRecDepth 100000 in
set_option maxHeartbeats 4000000 in
theorem m_ahead {D : Wd} {n : Nat} {k f : Nat → Nat} {dn : Nat} {dr : Nat → Nat} {pn : Nat} (hP : PM D n k f dn dr pn) {i : Nat} (hi : i < n) : Fok mX6_ahead idsA 0 [vr (30, 0), vi (nI i)] D (some (vi (nI (bf n i)))) D := by
  obtain ⟨hn3, hn8, hN, hK, hF, hd3, hDn, hDr, hp5, hPn⟩ := id hP
  refine Mok.of (L := [some (vr (30, 0)), some (vi (nI i))]) rfl (fun _ => Nat.le_of_ble_eq_true rfl) (fun _ => rfl) (fun X cx rq => ?_)
  refine g_iload_n cx dX6_ahead_0 rfl ?_
  refine g_aload_n cx dX6_ahead_1 rfl ?_
  refine g_getIN (i := (30, 0)) (ci := 6) (k := 6) (v := nI n) cx a30_0 rfl rfl rfl (by decide) inX6 lfX6_23 dX6_ahead_2 (hN) ?_
  refine g_iaddN cx dX6_ahead_5 ?_
  refine g_iconst (v := nI 1) cx dX6_ahead_6 (by decide) ?_
  refine g_isubN cx dX6_ahead_7 (by omega) ?_
  refine g_aload_n cx dX6_ahead_8 rfl ?_
  refine g_getIN (i := (30, 0)) (ci := 6) (k := 6) (v := nI n) cx a30_0 rfl rfl rfl (by decide) inX6 lfX6_23 dX6_ahead_9 (hN) ?_
  refine g_iremN cx dX6_ahead_12 (by omega) (by omega) (by omega) ?_
  exact g_fret cx rq rfl (rfl) dX6_ahead_13 (by rw [bf_mod hi]) (rfl)

set_option maxRecDepth 100000 in
set_option maxHeartbeats 4000000 in
theorem m_width {D : Wd} {n : Nat} {k f : Nat → Nat} {dn : Nat} {dr : Nat → Nat} {pn : Nat} (hP : PM D n k f dn dr pn) {bs : Nat} {a : Nat → Nat} (hA : AM D bs n a) (hb : bs + 14 ≤ 70) {i : Nat} (hi : i < n) : Fok mX6_width idsA 1 [vr (30, 0), vi (nI bs), vi (nI i)] D (some (vi (nI (wid n a i)))) D := by
  obtain ⟨hn3, hn8, hN, hK, hF, hd3, hDn, hDr, hp5, hPn⟩ := id hP
  have hnx := nx_lt (n := n) (i := i) (by omega)
  refine Mok.of (L := [some (vr (30, 0)), some (vi (nI bs)), some (vi (nI i))]) rfl (fun _ => Nat.le_of_ble_eq_true rfl) (fun _ => rfl) (fun X cx rq => ?_)
  refine g_aload_n cx dX6_width_0 rfl ?_
  refine g_getR (i := (30, 0)) (ci := 6) (k := 0) (j := (31, 0)) cx a30_0 rfl rfl rfl (by decide) inX6 lfX6_7 dX6_width_1 ?_
  refine g_iload_n cx dX6_width_4 rfl ?_
  refine g_iload_n cx dX6_width_5 rfl ?_
  refine g_iaddN cx dX6_width_6 ?_
  refine g_ialdN (i := (31, 0)) (j := bs + i) (v := nI (a i)) cx a31_0 rfl (rfl) (by omega) (by decide) dX6_width_7 ((hA i (by omega)).1) ?_
  refine g_aload_n cx dX6_width_8 rfl ?_
  refine g_getR (i := (30, 0)) (ci := 6) (k := 0) (j := (31, 0)) cx a30_0 rfl rfl rfl (by decide) inX6 lfX6_7 dX6_width_9 ?_
  refine g_iload_n cx dX6_width_12 rfl ?_
  refine g_aload_n cx dX6_width_13 rfl ?_
  refine g_iload_n cx dX6_width_14 rfl ?_
  refine g_fcallV (As := [vi (nI i)]) (rest := [vi (nI bs), vr (31, 0), vi (nI (a i))]) cx knX6_next (m_next hP (i := i) (by omega)) a30_0 rfl rfl lmX6_177 niX6_next seX6_next rfl (by decide) (Nat.le_of_ble_eq_true rfl) rfl dX6_width_15 ?_
  refine g_iaddN cx dX6_width_18 ?_
  refine g_ialdN (i := (31, 0)) (j := bs + (nx n i)) (v := nI (a (nx n i))) cx a31_0 rfl (rfl) (by omega) (by decide) dX6_width_19 ((hA (nx n i) (by omega)).1) ?_
  refine g_fcallS (As := [vi (nI (a i)), vi (nI (a (nx n i)))]) (rest := []) cx knX6_on (m_on (a := a i) (c := a (nx n i)) ((hA i (by omega)).2) ((hA (nx n i) (by omega)).2)) lmX6_54 nsX6_on rfl (by decide) (Nat.le_of_ble_eq_true rfl) rfl dX6_width_20 ?_
  exact g_fret cx rq rfl (rfl) dX6_width_23 (rfl) (rfl)
