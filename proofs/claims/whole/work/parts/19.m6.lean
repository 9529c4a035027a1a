theorem cnt_bit (v q : Nat) : cntN (fun p => v.testBit p) q + v / 2 ^ q % 2 = cntN (fun p => v.testBit p) (q + 1) := by
  rw [cntN]
  by_cases h : v.testBit q = true
  · rw [if_pos h, (tb_div v q).mpr h]
  · rw [if_neg h]
    have h1 : ¬ v / 2 ^ q % 2 = 1 := fun e => h ((tb_div v q).mp e)
    omega
theorem PLM.upd {D : Wd} {pn : Nat} {pl : Nat → Int32} {j : Nat} {x : Int32} (h : PLM D 0 pn pl) : PLM (upA D (31, 0) (upd (D (31, 0)) (8 + j) x)) 0 pn (upd pl j x) := by
  intro p hp
  rw [upA_s]
  show (if 0 + 8 + p = 8 + j then x else D (31, 0) (0 + 8 + p)) = (if p = j then x else pl p)
  by_cases e : p = j
  · subst e; rw [if_pos (by omega), if_pos rfl]
  · rw [if_neg (by omega), if_neg e]; exact h p hp
set_option maxRecDepth 100000 in
set_option maxHeartbeats 4000000 in
theorem m_erase {D : Wd} {len : Nat} (hLen : D (30, 0) 3 = nI len) : Fok mX6_erase idsA 0 [vr (30, 0)] D (some (vi (nI len))) (upA D (30, 0) (upd (D (30, 0)) 3 (nI 0))) := by
  refine Mok.of (L := [some (vr (30, 0)), none]) rfl (fun _ => Nat.le_of_ble_eq_true rfl) (fun _ => rfl) (fun X cx rq => ?_)
  refine g_aload_n cx dX6_erase_0 rfl ?_
  refine g_getIN (i := (30, 0)) (ci := 6) (k := 3) (v := nI len) cx a30_0 rfl rfl rfl (by decide) inX6 lfX6_64 dX6_erase_1 (hLen) ?_
  refine g_istore_n (L' := [some (vr (30, 0)), some (vi (nI len))]) cx dX6_erase_4 (by decide) rfl rfl ?_
  refine g_aload_n cx dX6_erase_5 rfl ?_
  refine g_iconst (v := nI 0) cx dX6_erase_6 (by decide) ?_
  refine g_putI (i := (30, 0)) (ci := 6) (k := 3) cx a30_0 rfl rfl rfl (by decide) inX6 tyX6_ok nmX6 rfl rfl lfX6_64 dX6_erase_7 ?_
  refine g_iload_n cx dX6_erase_10 rfl ?_
  exact g_fret cx rq rfl (rfl) dX6_erase_11 (rfl) (rfl)

set_option maxRecDepth 100000 in
set_option maxHeartbeats 4000000 in
theorem m_forget {D : Wd} {sm : Nat} (hSm : D (30, 0) 25 = nI sm) : Fok mX6_forget idsA 0 [vr (30, 0)] D (some (vi (nI sm))) (upA D (30, 0) (upd (D (30, 0)) 25 (nI 0))) := by
  refine Mok.of (L := [some (vr (30, 0)), none]) rfl (fun _ => Nat.le_of_ble_eq_true rfl) (fun _ => rfl) (fun X cx rq => ?_)
  refine g_aload_n cx dX6_forget_0 rfl ?_
  refine g_getIN (i := (30, 0)) (ci := 6) (k := 25) (v := nI sm) cx a30_0 rfl rfl rfl (by decide) inX6 lfX6_174 dX6_forget_1 (hSm) ?_
  refine g_istore_n (L' := [some (vr (30, 0)), some (vi (nI sm))]) cx dX6_forget_4 (by decide) rfl rfl ?_
  refine g_aload_n cx dX6_forget_5 rfl ?_
  refine g_iconst (v := nI 0) cx dX6_forget_6 (by decide) ?_
  refine g_putI (i := (30, 0)) (ci := 6) (k := 25) cx a30_0 rfl rfl rfl (by decide) inX6 tyX6_ok nmX6 rfl rfl lfX6_174 dX6_forget_7 ?_
  refine g_iload_n cx dX6_forget_10 rfl ?_
  exact g_fret cx rq rfl (rfl) dX6_forget_11 (rfl) (rfl)

set_option maxRecDepth 100000 in
set_option maxHeartbeats 4000000 in
theorem m_hours {D : Wd} {n : Nat} {k f : Nat → Nat} {dn : Nat} {dr : Nat → Nat} {pn : Nat} (hP : PM D n k f dn dr pn) {a : Nat → Nat} (hA : AM D 0 n a) {hm : Nat → Nat} (hH : AM D 56 n hm) {hr : Nat} (hHr : D (31, 0) 13 = nI hr) (hr9 : hr ≤ 9999) (x : Int32) : Fok mX6_hours idsA 6 [vr (30, 0), vi x] D (some (vi (hoursS hr x))) (if rng x 1 99 && decide (hr + ix x ≤ 9999) then Hr D n (hrN n k f hm (ix x) a) (hr + ix x) else D) := by
  obtain ⟨hn3, hn8, hN, hK, hF, hd3, hDn, hDr, hp5, hPn⟩ := id hP
  refine Mok.of (L := [some (vr (30, 0)), some (vi x), none]) rfl (fun _ => Nat.le_of_ble_eq_true rfl) (fun _ => rfl) (fun X cx rq => ?_)
  refine g_iload_n cx dX6_hours_0 rfl ?_
  refine g_i2l cx dX6_hours_1 ?_
  refine g_lconst (v := 1) cx dX6_hours_2 (by decide) ?_
  refine g_ldc2 (v := 99) cx lcX6_219 dX6_hours_3 ?_
  refine g_fcallS (As := [vl x.toInt64, vl 1, vl 99]) (rest := []) cx knX6_in (m_in x.toInt64 1 99) lmX6_60 nsX6_in rfl (by decide) (Nat.le_of_ble_eq_true rfl) rfl dX6_hours_6 ?_
  refine g_top (bi_iff (in_iff2 (a := 1) (b := 99) (by decide) (by decide) (by decide) (by decide))) ?_
  refine g_if_neB (tgt := 15) cx dX6_hours_9 (by decide) (fun h_9 => ?_) (fun h_9 => ?_)
  · skip
    obtain ⟨j, hja, hjb, rfl⟩ := rng_nI h_9
    have hjx : (nI j).toNatClampNeg = j := nI_clamp (by omega)
    refine g_aload_n cx dX6_hours_15 rfl ?_
    refine g_getR (i := (30, 0)) (ci := 6) (k := 0) (j := (31, 0)) cx a30_0 rfl rfl rfl (by decide) inX6 lfX6_7 dX6_hours_16 ?_
    refine g_bipush (v := nI 13) cx dX6_hours_19 (by decide) ?_
    refine g_ialdN (i := (31, 0)) (j := 13) (v := nI hr) cx a31_0 rfl (rfl) (by omega) (by decide) dX6_hours_21 (hHr) ?_
    refine g_iload_n cx dX6_hours_22 rfl ?_
    refine g_iaddN cx dX6_hours_23 ?_
    refine g_sipush (v := nI 9999) cx dX6_hours_24 (by decide) ?_
    refine g_icmp_leN (tgt := 33) cx dX6_hours_27 (by decide) (by omega) (by omega) (fun h_27 => ?_) (fun h_27 => ?_)
    · skip
      have h_27b : ¬ 9999 < hr + j := by omega
      refine g_iconst (v := nI 0) cx dX6_hours_33 (by decide) ?_
      refine g_istore_n (L' := [some (vr (30, 0)), some (vi (nI j)), some (vi (nI 0))]) cx dX6_hours_34 (by decide) rfl rfl ?_
      have lp : ∀ (fu : Nat) (q : Nat), j - q < fu → (q ≤ j) → Gk X mX6_hours idsA 35 [some (vr (30, 0)), some (vi (nI j)), some (vi (nI q))] [] (Hr D n (hrN n k f hm q a) (hr + q)) := by
        intro fu
        induction fu with
        | zero => intro q hfu; exact absurd hfu (Nat.not_lt_zero _)
        | succ fu ih =>
          intro q hfu hq
          have hac := hrN_lt (k := k) (f := f) (hm := hm) q a (fun j hj => (hA j hj).2)
          refine g_iload_n cx dX6_hours_35 rfl ?_
          refine g_iload_n cx dX6_hours_36 rfl ?_
          refine g_icmp_geN (tgt := 50) cx dX6_hours_37 (by decide) (by omega) (by omega) (fun h_37 => ?_) (fun h_37 => ?_)
          · skip
            have e : q = j := by omega
            subst e
            refine g_aload_n cx dX6_hours_50 rfl ?_
            refine g_getR (i := (30, 0)) (ci := 6) (k := 0) (j := (31, 0)) cx a30_0 rfl rfl rfl (by decide) inX6 lfX6_7 dX6_hours_51 ?_
            refine g_bipush (v := nI 13) cx dX6_hours_54 (by decide) ?_
            refine g_ialdN (i := (31, 0)) (j := 13) (v := nI (hr + q)) cx a31_0 rfl (rfl) (by omega) (by decide) dX6_hours_56 (Hr.R) ?_
            exact g_fret cx rq rfl (rfl) dX6_hours_57 (by simp [hoursS, eq_true h_9, hjx, h_27b]) (by simp [eq_true h_9, hjx, h_27])
          · skip
            refine g_aload_n cx dX6_hours_40 rfl ?_
            refine g_fcallVv (As := []) (rest := []) cx knX6_hour (m_hour (Hr.P hP) (Hr.A hn8 hac) (Hr.H hn8 hH) Hr.R) a30_0 rfl rfl lmX6_221 niX6_hour seX6_hour rfl (by decide) (Nat.le_of_ble_eq_true rfl) rfl dX6_hours_41 ?_
            refine g_iincN (L' := [some (vr (30, 0)), some (vi (nI j)), some (vi (nI (q + 1)))]) cx dX6_hours_44 rfl (by decide) rfl rfl ?_
            refine g_goto (tgt := 35) cx dX6_hours_47 (by decide) ?_
            refine g_wd (D' := Hr D n (hrN n k f hm (q + 1) a) (hr + (q + 1))) (Hr.twice D n _ _ _ (hr + q + 1)) ?_
            exact ih (q + 1) (by omega) (by omega)
      refine g_wd (D' := Hr D n (hrN n k f hm 0 a) (hr + 0)) (Hr.self hA hHr) ?_
      exact lp (j + 1) 0 (by omega) (by omega)
    · skip
      have h_27b : ¬ hr + j ≤ 9999 := by omega
      refine g_bipush (v := (-5)) cx dX6_hours_30 (by decide) ?_
      exact g_fret cx rq rfl (rfl) dX6_hours_32 (by simp [hoursS, eq_true h_9, hjx, h_27]) (by simp [hjx, h_27b])
  · skip
    refine g_bipush (v := (-3)) cx dX6_hours_12 (by decide) ?_
    exact g_fret cx rq rfl (rfl) dX6_hours_14 (by simp [hoursS, eq_false h_9]) (by simp [eq_false h_9])

set_option maxRecDepth 100000 in
set_option maxHeartbeats 4000000 in
theorem m_leave {D : Wd} {n : Nat} {k f : Nat → Nat} {dn : Nat} {dr : Nat → Nat} {pn : Nat} (hP : PM D n k f dn dr pn) {a : Nat → Nat} (hA : AM D 0 n a) {pl : Nat → Int32} (hPl : PLM D 0 pn pl) (hPo : PLok n pn pl) (x : Int32) : Fok mX6_leave idsA 3 [vr (30, 0), vi x] D (some (vi (leaveS n a dn dr pn pl x))) (if leaveOk n a dn dr pn pl x then upA D (31, 0) (upd (D (31, 0)) (8 + ix x) (-1)) else D) := by
  obtain ⟨hn3, hn8, hN, hK, hF, hd3, hDn, hDr, hp5, hPn⟩ := id hP
  refine Mok.of (L := [some (vr (30, 0)), some (vi x), none]) rfl (fun _ => Nat.le_of_ble_eq_true rfl) (fun _ => rfl) (fun X cx rq => ?_)
  refine g_aload_n cx dX6_leave_0 rfl ?_
  refine g_iload_n cx dX6_leave_1 rfl ?_
  refine g_fcallV (As := [vi x]) (rest := []) cx knX6_isPerson (m_isPerson hP x) a30_0 rfl rfl lmX6_204 niX6_isPerson seX6_isPerson rfl (by decide) (Nat.le_of_ble_eq_true rfl) rfl dX6_leave_2 ?_
  refine g_if_neB (tgt := 11) cx dX6_leave_5 (by decide) (fun h_5 => ?_) (fun h_5 => ?_)
  · skip
    obtain ⟨j, hj, rfl⟩ := lt0_nI h_5
    have hjx : (nI j).toNatClampNeg = j := nI_clamp (by omega)
    refine g_aload_n cx dX6_leave_11 rfl ?_
    refine g_getR (i := (30, 0)) (ci := 6) (k := 0) (j := (31, 0)) cx a30_0 rfl rfl rfl (by decide) inX6 lfX6_7 dX6_leave_12 ?_
    refine g_bipush (v := nI 8) cx dX6_leave_15 (by decide) ?_
    refine g_iload_n cx dX6_leave_17 rfl ?_
    refine g_iaddN cx dX6_leave_18 ?_
    refine g_ialdN (i := (31, 0)) (j := 8 + j) (v := (pl j)) cx a31_0 rfl (rfl) (by omega) (by decide) dX6_leave_19 (hPl.z j (by omega)) ?_
    refine g_istore_n (L' := [some (vr (30, 0)), some (vi (nI j)), some (vi (pl j))]) cx dX6_leave_20 (by decide) rfl rfl ?_
    refine g_iload_n cx dX6_leave_21 rfl ?_
    refine g_iconst (v := (-1)) cx dX6_leave_22 (by decide) ?_
    refine g_icmp_eq (tgt := 35) cx dX6_leave_23 (by decide) (fun h_23 => ?_) (fun h_23 => ?_)
    · skip
      refine g_bipush (v := (-4)) cx dX6_leave_35 (by decide) ?_
      exact g_fret cx rq rfl (rfl) dX6_leave_37 (by simp [leaveS, leaveOk, eq_true h_5, hjx, eq_true h_23]) (by simp [leaveOk, eq_true h_5, hjx, eq_true h_23])
    · skip
      obtain ⟨rr, hrr, he⟩ : ∃ rr, rr < n ∧ pl j = nI rr := (hPo j hj).resolve_left h_23
      have hrx : (nI rr).toNatClampNeg = rr := nI_clamp (by omega)
      refine g_loc (L' := [some (vr (30, 0)), some (vi (nI j)), some (vi (nI rr))]) (by rw [he]) ?_
      refine g_aload_n cx dX6_leave_26 rfl ?_
      refine g_iconst (v := nI 0) cx dX6_leave_27 (by decide) ?_
      refine g_iload_n cx dX6_leave_28 rfl ?_
      refine g_fcallV (As := [vi (nI 0), vi (nI rr)]) (rest := []) cx knX6_isOpen (m_isOpen hP hA (by omega) (i := rr) (by omega)) a30_0 rfl rfl lmX6_186 niX6_isOpen seX6_isOpen rfl (by decide) (Nat.le_of_ble_eq_true rfl) rfl dX6_leave_29 ?_
      refine g_if_neB (tgt := 38) cx dX6_leave_32 (by decide) (fun h_32 => ?_) (fun h_32 => ?_)
      · skip
        refine g_aload_n cx dX6_leave_38 rfl ?_
        refine g_getR (i := (30, 0)) (ci := 6) (k := 0) (j := (31, 0)) cx a30_0 rfl rfl rfl (by decide) inX6 lfX6_7 dX6_leave_39 ?_
        refine g_bipush (v := nI 8) cx dX6_leave_42 (by decide) ?_
        refine g_iload_n cx dX6_leave_44 rfl ?_
        refine g_iaddN cx dX6_leave_45 ?_
        refine g_iconst (v := (-1)) cx dX6_leave_46 (by decide) ?_
        refine g_iast (i := (31, 0)) (j := 8 + j) cx a31_0 rfl (rfl) (by omega) (by decide) dX6_leave_47 ?_
        refine g_iload_n cx dX6_leave_48 rfl ?_
        exact g_fret cx rq rfl (rfl) dX6_leave_49 (by rw [he] at h_23; simp [leaveS, leaveOk, eq_true h_5, hjx, he, hrx, eq_true h_32, eq_false h_23]) (by rw [he] at h_23; simp [leaveOk, eq_true h_5, hjx, he, hrx, eq_true h_32, eq_false h_23])
      · skip
        refine g_bipush (v := (-4)) cx dX6_leave_35 (by decide) ?_
        exact g_fret cx rq rfl (rfl) dX6_leave_37 (by simp [leaveS, leaveOk, eq_true h_5, hjx, he, hrx, eq_false h_32]) (by simp [leaveOk, eq_true h_5, hjx, he, hrx, eq_false h_32])
  · skip
    refine g_bipush (v := (-2)) cx dX6_leave_8 (by decide) ?_
    exact g_fret cx rq rfl (rfl) dX6_leave_10 (by simp [leaveS, eq_false h_5]) (by simp [leaveOk, eq_false h_5])

set_option maxRecDepth 100000 in
set_option maxHeartbeats 4000000 in
theorem m_bits {D : Wd} {v : Nat} (hv : v < 256) : Fok mX6_bits idsA 0 [vi (nI v)] D (some (vi (nI (cntN (fun p => v.testBit p) 8)))) D := by
  refine Mok.of (L := [some (vi (nI v)), none, none]) rfl (fun _ => Nat.le_of_ble_eq_true rfl) (fun _ => rfl) (fun X cx rq => ?_)
  refine g_iconst (v := nI 0) cx dX6_bits_0 (by decide) ?_
  refine g_istore_n (L' := [some (vi (nI v)), some (vi (nI 0)), none]) cx dX6_bits_1 (by decide) rfl rfl ?_
  refine g_iconst (v := nI 0) cx dX6_bits_2 (by decide) ?_
  refine g_istore_n (L' := [some (vi (nI v)), some (vi (nI 0)), some (vi (nI 0))]) cx dX6_bits_3 (by decide) rfl rfl ?_
  have lp : ∀ (fu : Nat) (q : Nat), 8 - q < fu → (q ≤ 8) → Gk X mX6_bits idsA 4 [some (vi (nI v)), some (vi (nI (cntN (fun p => v.testBit p) q))), some (vi (nI q))] [] D := by
    intro fu
    induction fu with
    | zero => intro q hfu; exact absurd hfu (Nat.not_lt_zero _)
    | succ fu ih =>
      intro q hfu hq
      refine g_iload_n cx dX6_bits_4 rfl ?_
      refine g_bipush (v := nI 8) cx dX6_bits_5 (by decide) ?_
      refine g_icmp_geN (tgt := 24) cx dX6_bits_7 (by decide) (by omega) (by omega) (fun h_7 => ?_) (fun h_7 => ?_)
      · skip
        have e : q = 8 := by omega
        subst e
        refine g_iload_n cx dX6_bits_24 rfl ?_
        exact g_fret cx rq rfl (rfl) dX6_bits_25 (rfl) (rfl)
      · skip
        refine g_iload_n cx dX6_bits_10 rfl ?_
        refine g_iload_n cx dX6_bits_11 rfl ?_
        refine g_iload_n cx dX6_bits_12 rfl ?_
        refine g_ishr cx dX6_bits_13 ?_
        refine g_iconst (v := nI 1) cx dX6_bits_14 (by decide) ?_
        refine g_iand cx dX6_bits_15 ?_
        refine g_top (nI_bit v hv q (by omega)) ?_
        refine g_iaddN cx dX6_bits_16 ?_
        refine g_top (y := nI (cntN (fun p => v.testBit p) (q + 1))) (by rw [cnt_bit]) ?_
        refine g_istore_n (L' := [some (vi (nI v)), some (vi (nI (cntN (fun p => v.testBit p) (q + 1)))), some (vi (nI q))]) cx dX6_bits_17 (by decide) rfl rfl ?_
        refine g_iincN (L' := [some (vi (nI v)), some (vi (nI (cntN (fun p => v.testBit p) (q + 1)))), some (vi (nI (q + 1)))]) cx dX6_bits_18 rfl (by decide) rfl rfl ?_
        refine g_goto (tgt := 4) cx dX6_bits_21 (by decide) ?_
        exact ih (q + 1) (by omega) (by omega)
  exact lp 9 0 (by omega) (by omega)

set_option maxRecDepth 100000 in
set_option maxHeartbeats 4000000 in
theorem m_copy {D : Wd} {fr to : Nat} (h1 : fr + 14 ≤ 70) (h2 : to + 14 ≤ 70) (h3 : fr + 14 ≤ to ∨ to + 14 ≤ fr) : Fok mX6_copy idsA 0 [vr (30, 0), vi (nI fr), vi (nI to)] D none (upA D (31, 0) (cpR (D (31, 0)) fr to 14)) := by
  refine Mok.of (L := [some (vr (30, 0)), some (vi (nI fr)), some (vi (nI to)), none]) rfl (fun _ => Nat.le_of_ble_eq_true rfl) (fun _ => rfl) (fun X cx rq => ?_)
  refine g_iconst (v := nI 0) cx dX6_copy_0 (by decide) ?_
  refine g_istore_n (L' := [some (vr (30, 0)), some (vi (nI fr)), some (vi (nI to)), some (vi (nI 0))]) cx dX6_copy_1 (by decide) rfl rfl ?_
  have lp : ∀ (fu : Nat) (q : Nat), 14 - q < fu → (q ≤ 14) → Gk X mX6_copy idsA 2 [some (vr (30, 0)), some (vi (nI fr)), some (vi (nI to)), some (vi (nI q))] [] (upA D (31, 0) (cpR (D (31, 0)) fr to q)) := by
    intro fu
    induction fu with
    | zero => intro q hfu; exact absurd hfu (Nat.not_lt_zero _)
    | succ fu ih =>
      intro q hfu hq
      refine g_iload_n cx dX6_copy_2 rfl ?_
      refine g_bipush (v := nI 14) cx dX6_copy_3 (by decide) ?_
      refine g_icmp_geN (tgt := 30) cx dX6_copy_5 (by decide) (by omega) (by omega) (fun h_5 => ?_) (fun h_5 => ?_)
      · skip
        have e : q = 14 := by omega
        subst e
        exact g_fvret cx rq rfl dX6_copy_30 rfl (rfl)
      · skip
        refine g_aload_n cx dX6_copy_8 rfl ?_
        refine g_getR (i := (30, 0)) (ci := 6) (k := 0) (j := (31, 0)) cx a30_0 rfl rfl rfl (by decide) inX6 lfX6_7 dX6_copy_9 ?_
        refine g_iload_n cx dX6_copy_12 rfl ?_
        refine g_iload_n cx dX6_copy_13 rfl ?_
        refine g_iaddN cx dX6_copy_14 ?_
        refine g_aload_n cx dX6_copy_15 rfl ?_
        refine g_getR (i := (30, 0)) (ci := 6) (k := 0) (j := (31, 0)) cx a30_0 rfl rfl rfl (by decide) inX6 lfX6_7 dX6_copy_16 ?_
        refine g_iload_n cx dX6_copy_19 rfl ?_
        refine g_iload_n cx dX6_copy_20 rfl ?_
        refine g_iaddN cx dX6_copy_21 ?_
        refine g_iald (i := (31, 0)) (j := fr + q) cx a31_0 rfl (rfl) (by omega) (by decide) dX6_copy_22 ?_
        refine g_iast (i := (31, 0)) (j := to + q) cx a31_0 rfl (rfl) (by omega) (by decide) dX6_copy_23 ?_
        refine g_iincN (L' := [some (vr (30, 0)), some (vi (nI fr)), some (vi (nI to)), some (vi (nI (q + 1)))]) cx dX6_copy_24 rfl (by decide) rfl rfl ?_
        refine g_goto (tgt := 2) cx dX6_copy_27 (by decide) ?_
        refine g_wd (D' := upA D (31, 0) (cpR (D (31, 0)) fr to (q + 1))) (cp_step D h3 (by omega)) ?_
        exact ih (q + 1) (by omega) (by omega)
  refine g_wd (D' := upA D (31, 0) (cpR (D (31, 0)) fr to 0)) (by rw [cpR_0, upA_self]) ?_
  exact lp 15 0 (by omega) (by omega)

set_option maxRecDepth 100000 in
set_option maxHeartbeats 4000000 in
theorem m_enter {D : Wd} {n : Nat} {k f : Nat → Nat} {dn : Nat} {dr : Nat → Nat} {pn : Nat} (hP : PM D n k f dn dr pn) {a : Nat → Nat} (hA : AM D 0 n a) {pl : Nat → Int32} (hPl : PLM D 0 pn pl) (hPo : PLok n pn pl) (x y : Int32) : Fok mX6_enter idsA 3 [vr (30, 0), vi x, vi y] D (some (vi (enterS n a dn dr pn pl x y))) (if enterOk n a dn dr pn pl x y then upA D (31, 0) (upd (D (31, 0)) (8 + ix x) y) else D) := by
  obtain ⟨hn3, hn8, hN, hK, hF, hd3, hDn, hDr, hp5, hPn⟩ := id hP
  refine Mok.of (L := [some (vr (30, 0)), some (vi x), some (vi y)]) rfl (fun _ => Nat.le_of_ble_eq_true rfl) (fun _ => rfl) (fun X cx rq => ?_)
  refine g_aload_n cx dX6_enter_0 rfl ?_
  refine g_iload_n cx dX6_enter_1 rfl ?_
  refine g_fcallV (As := [vi x]) (rest := []) cx knX6_isPerson (m_isPerson hP x) a30_0 rfl rfl lmX6_204 niX6_isPerson seX6_isPerson rfl (by decide) (Nat.le_of_ble_eq_true rfl) rfl dX6_enter_2 ?_
  refine g_if_eqB (tgt := 16) cx dX6_enter_5 (by decide) (fun h_5 => ?_) (fun h_5 => ?_)
  · skip
    refine g_bipush (v := (-2)) cx dX6_enter_16 (by decide) ?_
    exact g_fret cx rq rfl (rfl) dX6_enter_18 (by simp [enterS, eq_false h_5]) (by simp [enterOk, eq_false h_5])
  · skip
    obtain ⟨j, hj, rfl⟩ := lt0_nI h_5
    have hjx : (nI j).toNatClampNeg = j := nI_clamp (by omega)
    refine g_aload_n cx dX6_enter_8 rfl ?_
    refine g_iload_n cx dX6_enter_9 rfl ?_
    refine g_fcallV (As := [vi y]) (rest := []) cx knX6_isLeaf (m_isLeaf hP y) a30_0 rfl rfl lmX6_183 niX6_isLeaf seX6_isLeaf rfl (by decide) (Nat.le_of_ble_eq_true rfl) rfl dX6_enter_10 ?_
    refine g_if_neB (tgt := 19) cx dX6_enter_13 (by decide) (fun h_13 => ?_) (fun h_13 => ?_)
    · skip
      obtain ⟨t, ht, rfl⟩ := lt0_nI h_13
      have htx : (nI t).toNatClampNeg = t := nI_clamp (by omega)
      refine g_aload_n cx dX6_enter_19 rfl ?_
      refine g_getR (i := (30, 0)) (ci := 6) (k := 0) (j := (31, 0)) cx a30_0 rfl rfl rfl (by decide) inX6 lfX6_7 dX6_enter_20 ?_
      refine g_bipush (v := nI 8) cx dX6_enter_23 (by decide) ?_
      refine g_iload_n cx dX6_enter_25 rfl ?_
      refine g_iaddN cx dX6_enter_26 ?_
      refine g_ialdN (i := (31, 0)) (j := 8 + j) (v := (pl j)) cx a31_0 rfl (rfl) (by omega) (by decide) dX6_enter_27 (hPl.z j (by omega)) ?_
      refine g_iconst (v := (-1)) cx dX6_enter_28 (by decide) ?_
      refine g_icmp_ne (tgt := 41) cx dX6_enter_29 (by decide) (fun h_29 => ?_) (fun h_29 => ?_)
      · skip
        refine g_bipush (v := (-4)) cx dX6_enter_41 (by decide) ?_
        exact g_fret cx rq rfl (rfl) dX6_enter_43 (by simp [enterS, enterOk, eq_true h_5, eq_true h_13, hjx, htx, eq_false h_29]) (by simp [enterOk, eq_true h_5, eq_true h_13, hjx, htx, eq_false h_29])
      · skip
        refine g_aload_n cx dX6_enter_32 rfl ?_
        refine g_iconst (v := nI 0) cx dX6_enter_33 (by decide) ?_
        refine g_iload_n cx dX6_enter_34 rfl ?_
        refine g_fcallV (As := [vi (nI 0), vi (nI t)]) (rest := []) cx knX6_isOpen (m_isOpen hP hA (by omega) (i := t) (by omega)) a30_0 rfl rfl lmX6_186 niX6_isOpen seX6_isOpen rfl (by decide) (Nat.le_of_ble_eq_true rfl) rfl dX6_enter_35 ?_
        refine g_if_neB (tgt := 44) cx dX6_enter_38 (by decide) (fun h_38 => ?_) (fun h_38 => ?_)
        · skip
          refine g_aload_n cx dX6_enter_44 rfl ?_
          refine g_getR (i := (30, 0)) (ci := 6) (k := 0) (j := (31, 0)) cx a30_0 rfl rfl rfl (by decide) inX6 lfX6_7 dX6_enter_45 ?_
          refine g_bipush (v := nI 8) cx dX6_enter_48 (by decide) ?_
          refine g_iload_n cx dX6_enter_50 rfl ?_
          refine g_iaddN cx dX6_enter_51 ?_
          refine g_iload_n cx dX6_enter_52 rfl ?_
          refine g_iast (i := (31, 0)) (j := 8 + j) cx a31_0 rfl (rfl) (by omega) (by decide) dX6_enter_53 ?_
          refine g_aload_n cx dX6_enter_54 rfl ?_
          refine g_iconst (v := nI 0) cx dX6_enter_55 (by decide) ?_
          refine g_iload_n cx dX6_enter_56 rfl ?_
          refine g_fcallV (As := [vi (nI 0), vi (nI t)]) (rest := []) cx knX6_inRoom (m_inRoom (PM.up hP) (bs := 0) (PLM.upd hPl) (by omega) (nI t)) a30_0 rfl rfl lmX6_189 niX6_inRoom seX6_inRoom rfl (by decide) (Nat.le_of_ble_eq_true rfl) rfl dX6_enter_57 ?_
          refine g_fcallS (As := [vi (nI (ppl pn (upd pl j (nI t)) (nI t)))]) (rest := []) cx knX6_bits (m_bits (v := ppl pn (upd pl j (nI t)) (nI t)) (Nat.lt_of_lt_of_le (bitsN_lt _ pn) (Nat.pow_le_pow_right (by decide) (by omega : pn ≤ 8)))) lmX6_224 nsX6_bits rfl (by decide) (Nat.le_of_ble_eq_true rfl) rfl dX6_enter_60 ?_
          exact g_fret cx rq rfl (rfl) dX6_enter_63 (by simp [enterS, enterOk, eq_true h_5, eq_true h_13, hjx, htx, eq_true h_29, eq_true h_38]) (by simp [enterOk, eq_true h_5, eq_true h_13, hjx, htx, eq_true h_29, eq_true h_38])
        · skip
          refine g_bipush (v := (-4)) cx dX6_enter_41 (by decide) ?_
          exact g_fret cx rq rfl (rfl) dX6_enter_43 (by simp [enterS, enterOk, eq_true h_5, eq_true h_13, hjx, htx, eq_true h_29, eq_false h_38]) (by simp [enterOk, eq_true h_5, eq_true h_13, hjx, htx, eq_true h_29, eq_false h_38])
    · skip
      refine g_bipush (v := (-2)) cx dX6_enter_16 (by decide) ?_
      exact g_fret cx rq rfl (rfl) dX6_enter_18 (by simp [enterS, eq_false h_13]) (by simp [enterOk, eq_false h_13])
