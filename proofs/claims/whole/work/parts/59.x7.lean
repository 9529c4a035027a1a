set_option maxRecDepth 100000 in
set_option maxHeartbeats 4000000 in
theorem x_rbegin {D : Wd} {i : Nat} : Fok mX2_begin idsA 2 [vr (14, 0), vr (9, 0), vi (nI i)] D none (BgR D i) := by
  refine Mok.of (L := [some (vr (14, 0)), some (vr (9, 0)), some (vi (nI i))]) rfl (fun _ => Nat.le_of_ble_eq_true rfl) (fun _ => rfl) (fun X cx rq => ?_)
  refine g_aload_n cx dX2_begin_0 rfl ?_
  refine g_iload_n cx dX2_begin_1 rfl ?_
  refine g_putI (i := (14, 0)) (ci := 2) (k := 5) cx a14_0 rfl rfl rfl (by decide) inX2 tyX2_ok nmX2 rfl rfl lfX2_35 dX2_begin_2 ?_
  refine g_aload_n cx dX2_begin_5 rfl ?_
  refine g_sipush (v := nI 361) cx dX2_begin_6 (by decide) ?_
  refine g_putI (i := (14, 0)) (ci := 2) (k := 6) cx a14_0 rfl rfl rfl (by decide) inX2 tyX2_ok nmX2 rfl rfl lfX2_39 dX2_begin_9 ?_
  refine g_aload_n cx dX2_begin_12 rfl ?_
  refine g_getR (i := (14, 0)) (ci := 2) (k := 1) (j := (15, 0)) cx a14_0 rfl rfl rfl (by decide) inX2 lfX2_11 dX2_begin_13 ?_
  refine g_iconst (v := nI 0) cx dX2_begin_16 (by decide) ?_
  refine g_aald (i := (15, 0)) (j := 0) cx a15_0 rfl (rfl) (by omega) (by decide) dX2_begin_17 ?_
  refine g_aload_n cx dX2_begin_18 rfl ?_
  refine g_fcallVv (As := [vr (9, 0)]) (rest := []) cx knX0_copy (x_copy (g := 0) (h := 5) (by decide) (by decide)) a9_5 rfl rfl lmX2_42 niX0_copy seX0_copy rfl (by decide) (Nat.le_of_ble_eq_true rfl) rfl dX2_begin_19 ?_
  exact g_fvret cx rq rfl dX2_begin_22 rfl (rfl)

set_option maxRecDepth 100000 in
set_option maxHeartbeats 4000000 in
theorem x_goTo0 {D : Wd} {n : Nat} {k f : Nat → Nat} {dn : Nat} {dr : Nat → Nat} {pn : Nat} (hP : PX D 0 n k f dn dr pn) {a : Nat → Nat} (hA : AX D 5 n a) {i r B : Nat} (hL : D (14, 0) 5 = nI i) (hi : i < n) (hr : r < n) (hB : B < 1000) : Mok mX2_goTo idsA 5 [vr (14, 0), vi (nI r), vi (nI 0), vi (nI B - nI 1)] D (fun r' E' => r' = (some (vi (opI (lmO (erG n k f dn dr i r a).1 B)))) ∧ ((FV 6 D E' ∧ FG D E') ∧ ∀ c, lmO (erG n k f dn dr i r a).1 B = some c → AX E' 6 n (erG n k f dn dr i r a).2)) := by
  obtain ⟨hn3, hn8, hN, hK, hF, hd3, hDn, hDr, hp5, hPn⟩ := id hP
  refine Mok.of (L := [some (vr (14, 0)), some (vi (nI r)), some (vi (nI 0)), some (vi (nI B - nI 1)), none, none, none, none]) rfl (fun _ => Nat.le_of_ble_eq_true rfl) (fun _ => rfl) (fun X cx rq => ?_)
  refine g_iload_n cx dX2_goTo_0 rfl ?_
  refine g_bipush (v := nI 72) cx dX2_goTo_1 (by decide) ?_
  refine g_min cx lmX2_65 nsMin nzJ9 cdMin (Nat.le_of_ble_eq_true rfl) (by decide) dX2_goTo_3 ?_
  refine g_top (min_B hB) ?_
  refine g_istore (L' := [some (vr (14, 0)), some (vi (nI r)), some (vi (nI 0)), some (vi (nI B - nI 1)), some (vi (nI (mB B) - nI 1)), none, none, none]) cx dX2_goTo_6 (by decide) rfl rfl ?_
  refine g_aload_n cx dX2_goTo_8 rfl ?_
  refine g_getR (i := (14, 0)) (ci := 2) (k := 1) (j := (15, 0)) cx a14_0 rfl rfl rfl (by decide) inX2 lfX2_11 dX2_goTo_9 ?_
  refine g_iload_n cx dX2_goTo_12 rfl ?_
  refine g_iconst (v := nI 1) cx dX2_goTo_13 (by decide) ?_
  refine g_iaddN cx dX2_goTo_14 ?_
  refine g_aald (i := (15, 0)) (j := 1) cx a15_0 rfl (rfl) (by omega) (by decide) dX2_goTo_15 ?_
  refine g_astore (L' := [some (vr (14, 0)), some (vi (nI r)), some (vi (nI 0)), some (vi (nI B - nI 1)), some (vi (nI (mB B) - nI 1)), some (vr (9, 6)), none, none]) cx dX2_goTo_16 (by decide) rfl rfl ?_
  refine g_aload cx dX2_goTo_18 rfl ?_
  refine g_aload_n cx dX2_goTo_20 rfl ?_
  refine g_getR (i := (14, 0)) (ci := 2) (k := 1) (j := (15, 0)) cx a14_0 rfl rfl rfl (by decide) inX2 lfX2_11 dX2_goTo_21 ?_
  refine g_iload_n cx dX2_goTo_24 rfl ?_
  refine g_aald (i := (15, 0)) (j := 0) cx a15_0 rfl (rfl) (by omega) (by decide) dX2_goTo_25 ?_
  refine g_fcallVv (As := [vr (9, 5)]) (rest := []) cx knX0_copy (x_copy (g := 5) (h := 6) (by decide) (by decide)) a9_6 rfl rfl lmX2_42 niX0_copy seX0_copy rfl (by decide) (Nat.le_of_ble_eq_true rfl) rfl dX2_goTo_26 ?_
  refine g_aload cx dX2_goTo_29 rfl ?_
  refine g_aload_n cx dX2_goTo_31 rfl ?_
  refine g_getIN (i := (14, 0)) (ci := 2) (k := 5) (v := nI i) cx a14_0 rfl rfl rfl (by decide) inX2 lfX2_35 dX2_goTo_32 (by rw [CpH.o (by decide) (by decide) (by decide)]; exact hL) ?_
  refine g_iconst (v := nI 0) cx dX2_goTo_35 (by decide) ?_
  refine g_iload_n cx dX2_goTo_36 rfl ?_
  refine g_iload cx dX2_goTo_37 rfl ?_
  refine g_callV (As := [vi (nI i), vi (nI 0), vi (nI r), vi (nI (mB B) - nI 1)]) (rest := []) cx knX0_goTillOpen (x_go_b (CpH.P hP) (by decide) (CpH.A hn8 hA) (i := i) (s := 0) (r := r) (B := mB B) hi (by decide) hr (mB_le B)) a9_6 rfl rfl lmX2_71 niX0_goTillOpen seX0_goTillOpen rfl (by decide) (Nat.le_of_ble_eq_true rfl) rfl dX2_goTo_39 (fun r0 E1 hp0 => ?_)
  obtain ⟨rfl, b1, hE1, hb1, hc1⟩ := hp0
  show Gk X mX2_goTo idsA 42 [some (vr (14, 0)), some (vi (nI r)), some (vi (nI 0)), some (vi (nI B - nI 1)), some (vi (nI (mB B) - nI 1)), some (vr (9, 6)), none, none] [vi (opI (lmO (trO n k f dn dr i 0 r a) (mB B)))] E1
  refine g_wd (D' := RX (CpH D 5 6) 6 n b1) (hE1) ?_
  refine g_istore (L' := [some (vr (14, 0)), some (vi (nI r)), some (vi (nI 0)), some (vi (nI B - nI 1)), some (vi (nI (mB B) - nI 1)), some (vr (9, 6)), some (vi (opI (lmO (trO n k f dn dr i 0 r a) (mB B)))), none]) cx dX2_goTo_42 (by decide) rfl rfl ?_
  refine g_aload_n cx dX2_goTo_44 rfl ?_
  refine g_getR (i := (14, 0)) (ci := 2) (k := 2) (j := (9, 4)) cx a14_0 rfl rfl rfl (by decide) inX2 lfX2_31 dX2_goTo_45 ?_
  refine g_aload_n cx dX2_goTo_48 rfl ?_
  refine g_getR (i := (14, 0)) (ci := 2) (k := 1) (j := (15, 0)) cx a14_0 rfl rfl rfl (by decide) inX2 lfX2_11 dX2_goTo_49 ?_
  refine g_iload_n cx dX2_goTo_52 rfl ?_
  refine g_aald (i := (15, 0)) (j := 0) cx a15_0 rfl (rfl) (by omega) (by decide) dX2_goTo_53 ?_
  refine g_fcallVv (As := [vr (9, 5)]) (rest := []) cx knX0_copy (x_copy (g := 5) (h := 4) (by decide) (by decide)) a9_4 rfl rfl lmX2_42 niX0_copy seX0_copy rfl (by decide) (Nat.le_of_ble_eq_true rfl) rfl dX2_goTo_54 ?_
  refine g_aload_n cx dX2_goTo_57 rfl ?_
  refine g_getR (i := (14, 0)) (ci := 2) (k := 2) (j := (9, 4)) cx a14_0 rfl rfl rfl (by decide) inX2 lfX2_31 dX2_goTo_58 ?_
  refine g_aload_n cx dX2_goTo_61 rfl ?_
  refine g_getIN (i := (14, 0)) (ci := 2) (k := 5) (v := nI i) cx a14_0 rfl rfl rfl (by decide) inX2 lfX2_35 dX2_goTo_62 (by rw [CpH.o (by decide) (by decide) (by decide), RX.at (by decide), CpH.o (by decide) (by decide) (by decide)]; exact hL) ?_
  refine g_iconst (v := nI 1) cx dX2_goTo_65 (by decide) ?_
  refine g_iload_n cx dX2_goTo_66 rfl ?_
  refine g_iload cx dX2_goTo_67 rfl ?_
  refine g_iconst (v := (-1)) cx dX2_goTo_69 (by decide) ?_
  refine g_icmp_ne (tgt := 78) cx dX2_goTo_70 (by decide) (fun h_70 => ?_) (fun h_70 => ?_)
  · skip
    obtain ⟨c1, hc1a⟩ := opI_s h_70
    have hB2 : (match lmO (trO n k f dn dr i 0 r a) (mB B) with | none => mB B | some c => c) = c1 := by rw [hc1a]
    refine g_iload cx dX2_goTo_78 rfl ?_
    refine g_iconst (v := nI 1) cx dX2_goTo_80 (by decide) ?_
    refine g_isub cx dX2_goTo_81 ?_
    refine g_top (y := nI c1 - nI 1) (by rw [hc1a]; rfl) ?_
    refine g_callV (As := [vi (nI i), vi (nI 1), vi (nI r), vi (nI c1 - nI 1)]) (rest := []) cx knX0_goTillOpen (x_go_b (CpH.P (RX.P (CpH.P hP))) (by decide) (CpH.A hn8 (RX.An (by decide) (CpH.An (by decide) hA))) (i := i) (s := 1) (r := r) (B := c1) hi (by decide) hr (by have := (lmO_lt hc1a).1; have := mB_le B; omega)) a9_4 rfl rfl lmX2_71 niX0_goTillOpen seX0_goTillOpen rfl (by decide) (Nat.le_of_ble_eq_true rfl) rfl dX2_goTo_82 (fun r0 E2 hp0 => ?_)
    obtain ⟨rfl, b2, hE2, hb2, hc2⟩ := hp0
    show Gk X mX2_goTo idsA 85 [some (vr (14, 0)), some (vi (nI r)), some (vi (nI 0)), some (vi (nI B - nI 1)), some (vi (nI (mB B) - nI 1)), some (vr (9, 6)), some (vi (opI (lmO (trO n k f dn dr i 0 r a) (mB B)))), none] [vi (opI (lmO (trO n k f dn dr i 1 r a) c1))] E2
    refine g_wd (D' := RX (CpH (RX (CpH D 5 6) 6 n b1) 5 4) 4 n b2) (hE2) ?_
    refine g_istore (L' := [some (vr (14, 0)), some (vi (nI r)), some (vi (nI 0)), some (vi (nI B - nI 1)), some (vi (nI (mB B) - nI 1)), some (vr (9, 6)), some (vi (opI (lmO (trO n k f dn dr i 0 r a) (mB B)))), some (vi (opI (lmO (trO n k f dn dr i 1 r a) c1)))]) cx dX2_goTo_85 (by decide) rfl rfl ?_
    refine g_iload cx dX2_goTo_87 rfl ?_
    refine g_iconst (v := (-1)) cx dX2_goTo_89 (by decide) ?_
    refine g_icmp_ne (tgt := 96) cx dX2_goTo_90 (by decide) (fun h_90 => ?_) (fun h_90 => ?_)
    · skip
      obtain ⟨c2, hc2a⟩ := opI_s h_90
      have her := er_lm1 hB2 hc2a
      refine g_aload cx dX2_goTo_96 rfl ?_
      refine g_aload_n cx dX2_goTo_98 rfl ?_
      refine g_getR (i := (14, 0)) (ci := 2) (k := 2) (j := (9, 4)) cx a14_0 rfl rfl rfl (by decide) inX2 lfX2_31 dX2_goTo_99 ?_
      refine g_fcallVv (As := [vr (9, 4)]) (rest := []) cx knX0_copy (x_copy (g := 4) (h := 6) (by decide) (by decide)) a9_6 rfl rfl lmX2_42 niX0_copy seX0_copy rfl (by decide) (Nat.le_of_ble_eq_true rfl) rfl dX2_goTo_102 ?_
      refine g_iload cx dX2_goTo_105 rfl ?_
      exact g_ret cx rq rfl (rfl) dX2_goTo_107 ⟨by rw [← lmO_m (fun c hc => erG_le hc), her.1, hc2a], ⟨(((((FV.rf.cp (Or.inr (by decide)) (by decide)).rx (Or.inr (by decide)) (by decide)).cp (Or.inl rfl) (by decide)).rx (Or.inl rfl) (by decide)).cp (Or.inr (by decide)) (by decide)), (FG.rf.cp.rx.cp.rx).cp⟩, fun c hc => by rw [her.2, ← hc2 c2 hc2a]; exact CpH.A hn8 (RX.A hb2)⟩
    · skip
      have hc2n := opI_n (m := 100) (by decide) (fun c hc => by have := trO_le (lmO_lt hc).2; omega) h_90
      have her := er_lm0 hB2 hc2n
      refine g_iload cx dX2_goTo_93 rfl ?_
      exact g_ret cx rq rfl (rfl) dX2_goTo_95 ⟨by rw [← lmO_m (fun c hc => erG_le hc), her.1], ⟨((((FV.rf.cp (Or.inr (by decide)) (by decide)).rx (Or.inr (by decide)) (by decide)).cp (Or.inl rfl) (by decide)).rx (Or.inl rfl) (by decide)), (FG.rf.cp.rx.cp.rx)⟩, fun c hc => by rw [← lmO_m (fun c hc => erG_le hc), her.1] at hc; rw [her.2 c hc, ← hc1 c hc]; exact RX.An (by decide) (CpH.An (by decide) (RX.A hb1))⟩
  · skip
    have hc1n : lmO (trO n k f dn dr i 0 r a) (mB B) = none := opI_n (m := 100) (by decide) (fun c hc => by have := trO_le (lmO_lt hc).2; omega) h_70
    have hB2 : (match lmO (trO n k f dn dr i 0 r a) (mB B) with | none => mB B | some c => c) = mB B := by rw [hc1n]
    refine g_iload cx dX2_goTo_73 rfl ?_
    refine g_goto (tgt := 82) cx dX2_goTo_75 (by decide) ?_
    refine g_callV (As := [vi (nI i), vi (nI 1), vi (nI r), vi (nI (mB B) - nI 1)]) (rest := []) cx knX0_goTillOpen (x_go_b (CpH.P (RX.P (CpH.P hP))) (by decide) (CpH.A hn8 (RX.An (by decide) (CpH.An (by decide) hA))) (i := i) (s := 1) (r := r) (B := (mB B)) hi (by decide) hr (mB_le B)) a9_4 rfl rfl lmX2_71 niX0_goTillOpen seX0_goTillOpen rfl (by decide) (Nat.le_of_ble_eq_true rfl) rfl dX2_goTo_82 (fun r0 E2 hp0 => ?_)
    obtain ⟨rfl, b2, hE2, hb2, hc2⟩ := hp0
    show Gk X mX2_goTo idsA 85 [some (vr (14, 0)), some (vi (nI r)), some (vi (nI 0)), some (vi (nI B - nI 1)), some (vi (nI (mB B) - nI 1)), some (vr (9, 6)), some (vi (opI (lmO (trO n k f dn dr i 0 r a) (mB B)))), none] [vi (opI (lmO (trO n k f dn dr i 1 r a) (mB B)))] E2
    refine g_wd (D' := RX (CpH (RX (CpH D 5 6) 6 n b1) 5 4) 4 n b2) (hE2) ?_
    refine g_istore (L' := [some (vr (14, 0)), some (vi (nI r)), some (vi (nI 0)), some (vi (nI B - nI 1)), some (vi (nI (mB B) - nI 1)), some (vr (9, 6)), some (vi (opI (lmO (trO n k f dn dr i 0 r a) (mB B)))), some (vi (opI (lmO (trO n k f dn dr i 1 r a) (mB B))))]) cx dX2_goTo_85 (by decide) rfl rfl ?_
    refine g_iload cx dX2_goTo_87 rfl ?_
    refine g_iconst (v := (-1)) cx dX2_goTo_89 (by decide) ?_
    refine g_icmp_ne (tgt := 96) cx dX2_goTo_90 (by decide) (fun h_90 => ?_) (fun h_90 => ?_)
    · skip
      obtain ⟨c2, hc2a⟩ := opI_s h_90
      have her := er_lm1 hB2 hc2a
      refine g_aload cx dX2_goTo_96 rfl ?_
      refine g_aload_n cx dX2_goTo_98 rfl ?_
      refine g_getR (i := (14, 0)) (ci := 2) (k := 2) (j := (9, 4)) cx a14_0 rfl rfl rfl (by decide) inX2 lfX2_31 dX2_goTo_99 ?_
      refine g_fcallVv (As := [vr (9, 4)]) (rest := []) cx knX0_copy (x_copy (g := 4) (h := 6) (by decide) (by decide)) a9_6 rfl rfl lmX2_42 niX0_copy seX0_copy rfl (by decide) (Nat.le_of_ble_eq_true rfl) rfl dX2_goTo_102 ?_
      refine g_iload cx dX2_goTo_105 rfl ?_
      exact g_ret cx rq rfl (rfl) dX2_goTo_107 ⟨by rw [← lmO_m (fun c hc => erG_le hc), her.1, hc2a], ⟨(((((FV.rf.cp (Or.inr (by decide)) (by decide)).rx (Or.inr (by decide)) (by decide)).cp (Or.inl rfl) (by decide)).rx (Or.inl rfl) (by decide)).cp (Or.inr (by decide)) (by decide)), (FG.rf.cp.rx.cp.rx).cp⟩, fun c hc => by rw [her.2, ← hc2 c2 hc2a]; exact CpH.A hn8 (RX.A hb2)⟩
    · skip
      have hc2n := opI_n (m := 100) (by decide) (fun c hc => by have := trO_le (lmO_lt hc).2; omega) h_90
      have her := er_lm0 hB2 hc2n
      refine g_iload cx dX2_goTo_93 rfl ?_
      exact g_ret cx rq rfl (rfl) dX2_goTo_95 ⟨by rw [← lmO_m (fun c hc => erG_le hc), her.1], ⟨((((FV.rf.cp (Or.inr (by decide)) (by decide)).rx (Or.inr (by decide)) (by decide)).cp (Or.inl rfl) (by decide)).rx (Or.inl rfl) (by decide)), (FG.rf.cp.rx.cp.rx)⟩, fun c hc => by rw [← lmO_m (fun c hc => erG_le hc), her.1] at hc; rw [her.2 c hc, ← hc1 c hc]; exact RX.An (by decide) (CpH.An (by decide) (RX.A hb1))⟩

set_option maxRecDepth 100000 in
set_option maxHeartbeats 4000000 in
theorem x_goTo1 {D : Wd} {n : Nat} {k f : Nat → Nat} {dn : Nat} {dr : Nat → Nat} {pn : Nat} (hP : PX D 0 n k f dn dr pn) {a : Nat → Nat} (hA : AX D 6 n a) {i r B : Nat} (hL : D (14, 0) 5 = nI i) (hi : i < n) (hr : r < n) (hB : B < 1000) : Mok mX2_goTo idsA 5 [vr (14, 0), vi (nI r), vi (nI 1), vi (nI B - nI 1)] D (fun r' E' => r' = (some (vi (opI (lmO (erG n k f dn dr i r a).1 B)))) ∧ ((FV 7 D E' ∧ FG D E') ∧ ∀ c, lmO (erG n k f dn dr i r a).1 B = some c → AX E' 7 n (erG n k f dn dr i r a).2)) := by
  obtain ⟨hn3, hn8, hN, hK, hF, hd3, hDn, hDr, hp5, hPn⟩ := id hP
  refine Mok.of (L := [some (vr (14, 0)), some (vi (nI r)), some (vi (nI 1)), some (vi (nI B - nI 1)), none, none, none, none]) rfl (fun _ => Nat.le_of_ble_eq_true rfl) (fun _ => rfl) (fun X cx rq => ?_)
  refine g_iload_n cx dX2_goTo_0 rfl ?_
  refine g_bipush (v := nI 72) cx dX2_goTo_1 (by decide) ?_
  refine g_min cx lmX2_65 nsMin nzJ9 cdMin (Nat.le_of_ble_eq_true rfl) (by decide) dX2_goTo_3 ?_
  refine g_top (min_B hB) ?_
  refine g_istore (L' := [some (vr (14, 0)), some (vi (nI r)), some (vi (nI 1)), some (vi (nI B - nI 1)), some (vi (nI (mB B) - nI 1)), none, none, none]) cx dX2_goTo_6 (by decide) rfl rfl ?_
  refine g_aload_n cx dX2_goTo_8 rfl ?_
  refine g_getR (i := (14, 0)) (ci := 2) (k := 1) (j := (15, 0)) cx a14_0 rfl rfl rfl (by decide) inX2 lfX2_11 dX2_goTo_9 ?_
  refine g_iload_n cx dX2_goTo_12 rfl ?_
  refine g_iconst (v := nI 1) cx dX2_goTo_13 (by decide) ?_
  refine g_iaddN cx dX2_goTo_14 ?_
  refine g_aald (i := (15, 0)) (j := 2) cx a15_0 rfl (rfl) (by omega) (by decide) dX2_goTo_15 ?_
  refine g_astore (L' := [some (vr (14, 0)), some (vi (nI r)), some (vi (nI 1)), some (vi (nI B - nI 1)), some (vi (nI (mB B) - nI 1)), some (vr (9, 7)), none, none]) cx dX2_goTo_16 (by decide) rfl rfl ?_
  refine g_aload cx dX2_goTo_18 rfl ?_
  refine g_aload_n cx dX2_goTo_20 rfl ?_
  refine g_getR (i := (14, 0)) (ci := 2) (k := 1) (j := (15, 0)) cx a14_0 rfl rfl rfl (by decide) inX2 lfX2_11 dX2_goTo_21 ?_
  refine g_iload_n cx dX2_goTo_24 rfl ?_
  refine g_aald (i := (15, 0)) (j := 1) cx a15_0 rfl (rfl) (by omega) (by decide) dX2_goTo_25 ?_
  refine g_fcallVv (As := [vr (9, 6)]) (rest := []) cx knX0_copy (x_copy (g := 6) (h := 7) (by decide) (by decide)) a9_7 rfl rfl lmX2_42 niX0_copy seX0_copy rfl (by decide) (Nat.le_of_ble_eq_true rfl) rfl dX2_goTo_26 ?_
  refine g_aload cx dX2_goTo_29 rfl ?_
  refine g_aload_n cx dX2_goTo_31 rfl ?_
  refine g_getIN (i := (14, 0)) (ci := 2) (k := 5) (v := nI i) cx a14_0 rfl rfl rfl (by decide) inX2 lfX2_35 dX2_goTo_32 (by rw [CpH.o (by decide) (by decide) (by decide)]; exact hL) ?_
  refine g_iconst (v := nI 0) cx dX2_goTo_35 (by decide) ?_
  refine g_iload_n cx dX2_goTo_36 rfl ?_
  refine g_iload cx dX2_goTo_37 rfl ?_
  refine g_callV (As := [vi (nI i), vi (nI 0), vi (nI r), vi (nI (mB B) - nI 1)]) (rest := []) cx knX0_goTillOpen (x_go_b (CpH.P hP) (by decide) (CpH.A hn8 hA) (i := i) (s := 0) (r := r) (B := mB B) hi (by decide) hr (mB_le B)) a9_7 rfl rfl lmX2_71 niX0_goTillOpen seX0_goTillOpen rfl (by decide) (Nat.le_of_ble_eq_true rfl) rfl dX2_goTo_39 (fun r0 E1 hp0 => ?_)
  obtain ⟨rfl, b1, hE1, hb1, hc1⟩ := hp0
  show Gk X mX2_goTo idsA 42 [some (vr (14, 0)), some (vi (nI r)), some (vi (nI 1)), some (vi (nI B - nI 1)), some (vi (nI (mB B) - nI 1)), some (vr (9, 7)), none, none] [vi (opI (lmO (trO n k f dn dr i 0 r a) (mB B)))] E1
  refine g_wd (D' := RX (CpH D 6 7) 7 n b1) (hE1) ?_
  refine g_istore (L' := [some (vr (14, 0)), some (vi (nI r)), some (vi (nI 1)), some (vi (nI B - nI 1)), some (vi (nI (mB B) - nI 1)), some (vr (9, 7)), some (vi (opI (lmO (trO n k f dn dr i 0 r a) (mB B)))), none]) cx dX2_goTo_42 (by decide) rfl rfl ?_
  refine g_aload_n cx dX2_goTo_44 rfl ?_
  refine g_getR (i := (14, 0)) (ci := 2) (k := 2) (j := (9, 4)) cx a14_0 rfl rfl rfl (by decide) inX2 lfX2_31 dX2_goTo_45 ?_
  refine g_aload_n cx dX2_goTo_48 rfl ?_
  refine g_getR (i := (14, 0)) (ci := 2) (k := 1) (j := (15, 0)) cx a14_0 rfl rfl rfl (by decide) inX2 lfX2_11 dX2_goTo_49 ?_
  refine g_iload_n cx dX2_goTo_52 rfl ?_
  refine g_aald (i := (15, 0)) (j := 1) cx a15_0 rfl (rfl) (by omega) (by decide) dX2_goTo_53 ?_
  refine g_fcallVv (As := [vr (9, 6)]) (rest := []) cx knX0_copy (x_copy (g := 6) (h := 4) (by decide) (by decide)) a9_4 rfl rfl lmX2_42 niX0_copy seX0_copy rfl (by decide) (Nat.le_of_ble_eq_true rfl) rfl dX2_goTo_54 ?_
  refine g_aload_n cx dX2_goTo_57 rfl ?_
  refine g_getR (i := (14, 0)) (ci := 2) (k := 2) (j := (9, 4)) cx a14_0 rfl rfl rfl (by decide) inX2 lfX2_31 dX2_goTo_58 ?_
  refine g_aload_n cx dX2_goTo_61 rfl ?_
  refine g_getIN (i := (14, 0)) (ci := 2) (k := 5) (v := nI i) cx a14_0 rfl rfl rfl (by decide) inX2 lfX2_35 dX2_goTo_62 (by rw [CpH.o (by decide) (by decide) (by decide), RX.at (by decide), CpH.o (by decide) (by decide) (by decide)]; exact hL) ?_
  refine g_iconst (v := nI 1) cx dX2_goTo_65 (by decide) ?_
  refine g_iload_n cx dX2_goTo_66 rfl ?_
  refine g_iload cx dX2_goTo_67 rfl ?_
  refine g_iconst (v := (-1)) cx dX2_goTo_69 (by decide) ?_
  refine g_icmp_ne (tgt := 78) cx dX2_goTo_70 (by decide) (fun h_70 => ?_) (fun h_70 => ?_)
  · skip
    obtain ⟨c1, hc1a⟩ := opI_s h_70
    have hB2 : (match lmO (trO n k f dn dr i 0 r a) (mB B) with | none => mB B | some c => c) = c1 := by rw [hc1a]
    refine g_iload cx dX2_goTo_78 rfl ?_
    refine g_iconst (v := nI 1) cx dX2_goTo_80 (by decide) ?_
    refine g_isub cx dX2_goTo_81 ?_
    refine g_top (y := nI c1 - nI 1) (by rw [hc1a]; rfl) ?_
    refine g_callV (As := [vi (nI i), vi (nI 1), vi (nI r), vi (nI c1 - nI 1)]) (rest := []) cx knX0_goTillOpen (x_go_b (CpH.P (RX.P (CpH.P hP))) (by decide) (CpH.A hn8 (RX.An (by decide) (CpH.An (by decide) hA))) (i := i) (s := 1) (r := r) (B := c1) hi (by decide) hr (by have := (lmO_lt hc1a).1; have := mB_le B; omega)) a9_4 rfl rfl lmX2_71 niX0_goTillOpen seX0_goTillOpen rfl (by decide) (Nat.le_of_ble_eq_true rfl) rfl dX2_goTo_82 (fun r0 E2 hp0 => ?_)
    obtain ⟨rfl, b2, hE2, hb2, hc2⟩ := hp0
    show Gk X mX2_goTo idsA 85 [some (vr (14, 0)), some (vi (nI r)), some (vi (nI 1)), some (vi (nI B - nI 1)), some (vi (nI (mB B) - nI 1)), some (vr (9, 7)), some (vi (opI (lmO (trO n k f dn dr i 0 r a) (mB B)))), none] [vi (opI (lmO (trO n k f dn dr i 1 r a) c1))] E2
    refine g_wd (D' := RX (CpH (RX (CpH D 6 7) 7 n b1) 6 4) 4 n b2) (hE2) ?_
    refine g_istore (L' := [some (vr (14, 0)), some (vi (nI r)), some (vi (nI 1)), some (vi (nI B - nI 1)), some (vi (nI (mB B) - nI 1)), some (vr (9, 7)), some (vi (opI (lmO (trO n k f dn dr i 0 r a) (mB B)))), some (vi (opI (lmO (trO n k f dn dr i 1 r a) c1)))]) cx dX2_goTo_85 (by decide) rfl rfl ?_
    refine g_iload cx dX2_goTo_87 rfl ?_
    refine g_iconst (v := (-1)) cx dX2_goTo_89 (by decide) ?_
    refine g_icmp_ne (tgt := 96) cx dX2_goTo_90 (by decide) (fun h_90 => ?_) (fun h_90 => ?_)
    · skip
      obtain ⟨c2, hc2a⟩ := opI_s h_90
      have her := er_lm1 hB2 hc2a
      refine g_aload cx dX2_goTo_96 rfl ?_
      refine g_aload_n cx dX2_goTo_98 rfl ?_
      refine g_getR (i := (14, 0)) (ci := 2) (k := 2) (j := (9, 4)) cx a14_0 rfl rfl rfl (by decide) inX2 lfX2_31 dX2_goTo_99 ?_
      refine g_fcallVv (As := [vr (9, 4)]) (rest := []) cx knX0_copy (x_copy (g := 4) (h := 7) (by decide) (by decide)) a9_7 rfl rfl lmX2_42 niX0_copy seX0_copy rfl (by decide) (Nat.le_of_ble_eq_true rfl) rfl dX2_goTo_102 ?_
      refine g_iload cx dX2_goTo_105 rfl ?_
      exact g_ret cx rq rfl (rfl) dX2_goTo_107 ⟨by rw [← lmO_m (fun c hc => erG_le hc), her.1, hc2a], ⟨(((((FV.rf.cp (Or.inr (by decide)) (by decide)).rx (Or.inr (by decide)) (by decide)).cp (Or.inl rfl) (by decide)).rx (Or.inl rfl) (by decide)).cp (Or.inr (by decide)) (by decide)), (FG.rf.cp.rx.cp.rx).cp⟩, fun c hc => by rw [her.2, ← hc2 c2 hc2a]; exact CpH.A hn8 (RX.A hb2)⟩
    · skip
      have hc2n := opI_n (m := 100) (by decide) (fun c hc => by have := trO_le (lmO_lt hc).2; omega) h_90
      have her := er_lm0 hB2 hc2n
      refine g_iload cx dX2_goTo_93 rfl ?_
      exact g_ret cx rq rfl (rfl) dX2_goTo_95 ⟨by rw [← lmO_m (fun c hc => erG_le hc), her.1], ⟨((((FV.rf.cp (Or.inr (by decide)) (by decide)).rx (Or.inr (by decide)) (by decide)).cp (Or.inl rfl) (by decide)).rx (Or.inl rfl) (by decide)), (FG.rf.cp.rx.cp.rx)⟩, fun c hc => by rw [← lmO_m (fun c hc => erG_le hc), her.1] at hc; rw [her.2 c hc, ← hc1 c hc]; exact RX.An (by decide) (CpH.An (by decide) (RX.A hb1))⟩
  · skip
    have hc1n : lmO (trO n k f dn dr i 0 r a) (mB B) = none := opI_n (m := 100) (by decide) (fun c hc => by have := trO_le (lmO_lt hc).2; omega) h_70
    have hB2 : (match lmO (trO n k f dn dr i 0 r a) (mB B) with | none => mB B | some c => c) = mB B := by rw [hc1n]
    refine g_iload cx dX2_goTo_73 rfl ?_
    refine g_goto (tgt := 82) cx dX2_goTo_75 (by decide) ?_
    refine g_callV (As := [vi (nI i), vi (nI 1), vi (nI r), vi (nI (mB B) - nI 1)]) (rest := []) cx knX0_goTillOpen (x_go_b (CpH.P (RX.P (CpH.P hP))) (by decide) (CpH.A hn8 (RX.An (by decide) (CpH.An (by decide) hA))) (i := i) (s := 1) (r := r) (B := (mB B)) hi (by decide) hr (mB_le B)) a9_4 rfl rfl lmX2_71 niX0_goTillOpen seX0_goTillOpen rfl (by decide) (Nat.le_of_ble_eq_true rfl) rfl dX2_goTo_82 (fun r0 E2 hp0 => ?_)
    obtain ⟨rfl, b2, hE2, hb2, hc2⟩ := hp0
    show Gk X mX2_goTo idsA 85 [some (vr (14, 0)), some (vi (nI r)), some (vi (nI 1)), some (vi (nI B - nI 1)), some (vi (nI (mB B) - nI 1)), some (vr (9, 7)), some (vi (opI (lmO (trO n k f dn dr i 0 r a) (mB B)))), none] [vi (opI (lmO (trO n k f dn dr i 1 r a) (mB B)))] E2
    refine g_wd (D' := RX (CpH (RX (CpH D 6 7) 7 n b1) 6 4) 4 n b2) (hE2) ?_
    refine g_istore (L' := [some (vr (14, 0)), some (vi (nI r)), some (vi (nI 1)), some (vi (nI B - nI 1)), some (vi (nI (mB B) - nI 1)), some (vr (9, 7)), some (vi (opI (lmO (trO n k f dn dr i 0 r a) (mB B)))), some (vi (opI (lmO (trO n k f dn dr i 1 r a) (mB B))))]) cx dX2_goTo_85 (by decide) rfl rfl ?_
    refine g_iload cx dX2_goTo_87 rfl ?_
    refine g_iconst (v := (-1)) cx dX2_goTo_89 (by decide) ?_
    refine g_icmp_ne (tgt := 96) cx dX2_goTo_90 (by decide) (fun h_90 => ?_) (fun h_90 => ?_)
    · skip
      obtain ⟨c2, hc2a⟩ := opI_s h_90
      have her := er_lm1 hB2 hc2a
      refine g_aload cx dX2_goTo_96 rfl ?_
      refine g_aload_n cx dX2_goTo_98 rfl ?_
      refine g_getR (i := (14, 0)) (ci := 2) (k := 2) (j := (9, 4)) cx a14_0 rfl rfl rfl (by decide) inX2 lfX2_31 dX2_goTo_99 ?_
      refine g_fcallVv (As := [vr (9, 4)]) (rest := []) cx knX0_copy (x_copy (g := 4) (h := 7) (by decide) (by decide)) a9_7 rfl rfl lmX2_42 niX0_copy seX0_copy rfl (by decide) (Nat.le_of_ble_eq_true rfl) rfl dX2_goTo_102 ?_
      refine g_iload cx dX2_goTo_105 rfl ?_
      exact g_ret cx rq rfl (rfl) dX2_goTo_107 ⟨by rw [← lmO_m (fun c hc => erG_le hc), her.1, hc2a], ⟨(((((FV.rf.cp (Or.inr (by decide)) (by decide)).rx (Or.inr (by decide)) (by decide)).cp (Or.inl rfl) (by decide)).rx (Or.inl rfl) (by decide)).cp (Or.inr (by decide)) (by decide)), (FG.rf.cp.rx.cp.rx).cp⟩, fun c hc => by rw [her.2, ← hc2 c2 hc2a]; exact CpH.A hn8 (RX.A hb2)⟩
    · skip
      have hc2n := opI_n (m := 100) (by decide) (fun c hc => by have := trO_le (lmO_lt hc).2; omega) h_90
      have her := er_lm0 hB2 hc2n
      refine g_iload cx dX2_goTo_93 rfl ?_
      exact g_ret cx rq rfl (rfl) dX2_goTo_95 ⟨by rw [← lmO_m (fun c hc => erG_le hc), her.1], ⟨((((FV.rf.cp (Or.inr (by decide)) (by decide)).rx (Or.inr (by decide)) (by decide)).cp (Or.inl rfl) (by decide)).rx (Or.inl rfl) (by decide)), (FG.rf.cp.rx.cp.rx)⟩, fun c hc => by rw [← lmO_m (fun c hc => erG_le hc), her.1] at hc; rw [her.2 c hc, ← hc1 c hc]; exact RX.An (by decide) (CpH.An (by decide) (RX.A hb1))⟩

set_option maxRecDepth 100000 in
set_option maxHeartbeats 4000000 in
theorem x_goTo2 {D : Wd} {n : Nat} {k f : Nat → Nat} {dn : Nat} {dr : Nat → Nat} {pn : Nat} (hP : PX D 0 n k f dn dr pn) {a : Nat → Nat} (hA : AX D 7 n a) {i r B : Nat} (hL : D (14, 0) 5 = nI i) (hi : i < n) (hr : r < n) (hB : B < 1000) : Mok mX2_goTo idsA 5 [vr (14, 0), vi (nI r), vi (nI 2), vi (nI B - nI 1)] D (fun r' E' => r' = (some (vi (opI (lmO (erG n k f dn dr i r a).1 B)))) ∧ ((FV 8 D E' ∧ FG D E') ∧ ∀ c, lmO (erG n k f dn dr i r a).1 B = some c → AX E' 8 n (erG n k f dn dr i r a).2)) := by
  obtain ⟨hn3, hn8, hN, hK, hF, hd3, hDn, hDr, hp5, hPn⟩ := id hP
  refine Mok.of (L := [some (vr (14, 0)), some (vi (nI r)), some (vi (nI 2)), some (vi (nI B - nI 1)), none, none, none, none]) rfl (fun _ => Nat.le_of_ble_eq_true rfl) (fun _ => rfl) (fun X cx rq => ?_)
  refine g_iload_n cx dX2_goTo_0 rfl ?_
  refine g_bipush (v := nI 72) cx dX2_goTo_1 (by decide) ?_
  refine g_min cx lmX2_65 nsMin nzJ9 cdMin (Nat.le_of_ble_eq_true rfl) (by decide) dX2_goTo_3 ?_
  refine g_top (min_B hB) ?_
  refine g_istore (L' := [some (vr (14, 0)), some (vi (nI r)), some (vi (nI 2)), some (vi (nI B - nI 1)), some (vi (nI (mB B) - nI 1)), none, none, none]) cx dX2_goTo_6 (by decide) rfl rfl ?_
  refine g_aload_n cx dX2_goTo_8 rfl ?_
  refine g_getR (i := (14, 0)) (ci := 2) (k := 1) (j := (15, 0)) cx a14_0 rfl rfl rfl (by decide) inX2 lfX2_11 dX2_goTo_9 ?_
  refine g_iload_n cx dX2_goTo_12 rfl ?_
  refine g_iconst (v := nI 1) cx dX2_goTo_13 (by decide) ?_
  refine g_iaddN cx dX2_goTo_14 ?_
  refine g_aald (i := (15, 0)) (j := 3) cx a15_0 rfl (rfl) (by omega) (by decide) dX2_goTo_15 ?_
  refine g_astore (L' := [some (vr (14, 0)), some (vi (nI r)), some (vi (nI 2)), some (vi (nI B - nI 1)), some (vi (nI (mB B) - nI 1)), some (vr (9, 8)), none, none]) cx dX2_goTo_16 (by decide) rfl rfl ?_
  refine g_aload cx dX2_goTo_18 rfl ?_
  refine g_aload_n cx dX2_goTo_20 rfl ?_
  refine g_getR (i := (14, 0)) (ci := 2) (k := 1) (j := (15, 0)) cx a14_0 rfl rfl rfl (by decide) inX2 lfX2_11 dX2_goTo_21 ?_
  refine g_iload_n cx dX2_goTo_24 rfl ?_
  refine g_aald (i := (15, 0)) (j := 2) cx a15_0 rfl (rfl) (by omega) (by decide) dX2_goTo_25 ?_
  refine g_fcallVv (As := [vr (9, 7)]) (rest := []) cx knX0_copy (x_copy (g := 7) (h := 8) (by decide) (by decide)) a9_8 rfl rfl lmX2_42 niX0_copy seX0_copy rfl (by decide) (Nat.le_of_ble_eq_true rfl) rfl dX2_goTo_26 ?_
  refine g_aload cx dX2_goTo_29 rfl ?_
  refine g_aload_n cx dX2_goTo_31 rfl ?_
  refine g_getIN (i := (14, 0)) (ci := 2) (k := 5) (v := nI i) cx a14_0 rfl rfl rfl (by decide) inX2 lfX2_35 dX2_goTo_32 (by rw [CpH.o (by decide) (by decide) (by decide)]; exact hL) ?_
  refine g_iconst (v := nI 0) cx dX2_goTo_35 (by decide) ?_
  refine g_iload_n cx dX2_goTo_36 rfl ?_
  refine g_iload cx dX2_goTo_37 rfl ?_
  refine g_callV (As := [vi (nI i), vi (nI 0), vi (nI r), vi (nI (mB B) - nI 1)]) (rest := []) cx knX0_goTillOpen (x_go_b (CpH.P hP) (by decide) (CpH.A hn8 hA) (i := i) (s := 0) (r := r) (B := mB B) hi (by decide) hr (mB_le B)) a9_8 rfl rfl lmX2_71 niX0_goTillOpen seX0_goTillOpen rfl (by decide) (Nat.le_of_ble_eq_true rfl) rfl dX2_goTo_39 (fun r0 E1 hp0 => ?_)
  obtain ⟨rfl, b1, hE1, hb1, hc1⟩ := hp0
  show Gk X mX2_goTo idsA 42 [some (vr (14, 0)), some (vi (nI r)), some (vi (nI 2)), some (vi (nI B - nI 1)), some (vi (nI (mB B) - nI 1)), some (vr (9, 8)), none, none] [vi (opI (lmO (trO n k f dn dr i 0 r a) (mB B)))] E1
  refine g_wd (D' := RX (CpH D 7 8) 8 n b1) (hE1) ?_
  refine g_istore (L' := [some (vr (14, 0)), some (vi (nI r)), some (vi (nI 2)), some (vi (nI B - nI 1)), some (vi (nI (mB B) - nI 1)), some (vr (9, 8)), some (vi (opI (lmO (trO n k f dn dr i 0 r a) (mB B)))), none]) cx dX2_goTo_42 (by decide) rfl rfl ?_
  refine g_aload_n cx dX2_goTo_44 rfl ?_
  refine g_getR (i := (14, 0)) (ci := 2) (k := 2) (j := (9, 4)) cx a14_0 rfl rfl rfl (by decide) inX2 lfX2_31 dX2_goTo_45 ?_
  refine g_aload_n cx dX2_goTo_48 rfl ?_
  refine g_getR (i := (14, 0)) (ci := 2) (k := 1) (j := (15, 0)) cx a14_0 rfl rfl rfl (by decide) inX2 lfX2_11 dX2_goTo_49 ?_
  refine g_iload_n cx dX2_goTo_52 rfl ?_
  refine g_aald (i := (15, 0)) (j := 2) cx a15_0 rfl (rfl) (by omega) (by decide) dX2_goTo_53 ?_
  refine g_fcallVv (As := [vr (9, 7)]) (rest := []) cx knX0_copy (x_copy (g := 7) (h := 4) (by decide) (by decide)) a9_4 rfl rfl lmX2_42 niX0_copy seX0_copy rfl (by decide) (Nat.le_of_ble_eq_true rfl) rfl dX2_goTo_54 ?_
  refine g_aload_n cx dX2_goTo_57 rfl ?_
  refine g_getR (i := (14, 0)) (ci := 2) (k := 2) (j := (9, 4)) cx a14_0 rfl rfl rfl (by decide) inX2 lfX2_31 dX2_goTo_58 ?_
  refine g_aload_n cx dX2_goTo_61 rfl ?_
  refine g_getIN (i := (14, 0)) (ci := 2) (k := 5) (v := nI i) cx a14_0 rfl rfl rfl (by decide) inX2 lfX2_35 dX2_goTo_62 (by rw [CpH.o (by decide) (by decide) (by decide), RX.at (by decide), CpH.o (by decide) (by decide) (by decide)]; exact hL) ?_
  refine g_iconst (v := nI 1) cx dX2_goTo_65 (by decide) ?_
  refine g_iload_n cx dX2_goTo_66 rfl ?_
  refine g_iload cx dX2_goTo_67 rfl ?_
  refine g_iconst (v := (-1)) cx dX2_goTo_69 (by decide) ?_
  refine g_icmp_ne (tgt := 78) cx dX2_goTo_70 (by decide) (fun h_70 => ?_) (fun h_70 => ?_)
  · skip
    obtain ⟨c1, hc1a⟩ := opI_s h_70
    have hB2 : (match lmO (trO n k f dn dr i 0 r a) (mB B) with | none => mB B | some c => c) = c1 := by rw [hc1a]
    refine g_iload cx dX2_goTo_78 rfl ?_
    refine g_iconst (v := nI 1) cx dX2_goTo_80 (by decide) ?_
    refine g_isub cx dX2_goTo_81 ?_
    refine g_top (y := nI c1 - nI 1) (by rw [hc1a]; rfl) ?_
    refine g_callV (As := [vi (nI i), vi (nI 1), vi (nI r), vi (nI c1 - nI 1)]) (rest := []) cx knX0_goTillOpen (x_go_b (CpH.P (RX.P (CpH.P hP))) (by decide) (CpH.A hn8 (RX.An (by decide) (CpH.An (by decide) hA))) (i := i) (s := 1) (r := r) (B := c1) hi (by decide) hr (by have := (lmO_lt hc1a).1; have := mB_le B; omega)) a9_4 rfl rfl lmX2_71 niX0_goTillOpen seX0_goTillOpen rfl (by decide) (Nat.le_of_ble_eq_true rfl) rfl dX2_goTo_82 (fun r0 E2 hp0 => ?_)
    obtain ⟨rfl, b2, hE2, hb2, hc2⟩ := hp0
    show Gk X mX2_goTo idsA 85 [some (vr (14, 0)), some (vi (nI r)), some (vi (nI 2)), some (vi (nI B - nI 1)), some (vi (nI (mB B) - nI 1)), some (vr (9, 8)), some (vi (opI (lmO (trO n k f dn dr i 0 r a) (mB B)))), none] [vi (opI (lmO (trO n k f dn dr i 1 r a) c1))] E2
    refine g_wd (D' := RX (CpH (RX (CpH D 7 8) 8 n b1) 7 4) 4 n b2) (hE2) ?_
    refine g_istore (L' := [some (vr (14, 0)), some (vi (nI r)), some (vi (nI 2)), some (vi (nI B - nI 1)), some (vi (nI (mB B) - nI 1)), some (vr (9, 8)), some (vi (opI (lmO (trO n k f dn dr i 0 r a) (mB B)))), some (vi (opI (lmO (trO n k f dn dr i 1 r a) c1)))]) cx dX2_goTo_85 (by decide) rfl rfl ?_
    refine g_iload cx dX2_goTo_87 rfl ?_
    refine g_iconst (v := (-1)) cx dX2_goTo_89 (by decide) ?_
    refine g_icmp_ne (tgt := 96) cx dX2_goTo_90 (by decide) (fun h_90 => ?_) (fun h_90 => ?_)
    · skip
      obtain ⟨c2, hc2a⟩ := opI_s h_90
      have her := er_lm1 hB2 hc2a
      refine g_aload cx dX2_goTo_96 rfl ?_
      refine g_aload_n cx dX2_goTo_98 rfl ?_
      refine g_getR (i := (14, 0)) (ci := 2) (k := 2) (j := (9, 4)) cx a14_0 rfl rfl rfl (by decide) inX2 lfX2_31 dX2_goTo_99 ?_
      refine g_fcallVv (As := [vr (9, 4)]) (rest := []) cx knX0_copy (x_copy (g := 4) (h := 8) (by decide) (by decide)) a9_8 rfl rfl lmX2_42 niX0_copy seX0_copy rfl (by decide) (Nat.le_of_ble_eq_true rfl) rfl dX2_goTo_102 ?_
      refine g_iload cx dX2_goTo_105 rfl ?_
      exact g_ret cx rq rfl (rfl) dX2_goTo_107 ⟨by rw [← lmO_m (fun c hc => erG_le hc), her.1, hc2a], ⟨(((((FV.rf.cp (Or.inr (by decide)) (by decide)).rx (Or.inr (by decide)) (by decide)).cp (Or.inl rfl) (by decide)).rx (Or.inl rfl) (by decide)).cp (Or.inr (by decide)) (by decide)), (FG.rf.cp.rx.cp.rx).cp⟩, fun c hc => by rw [her.2, ← hc2 c2 hc2a]; exact CpH.A hn8 (RX.A hb2)⟩
    · skip
      have hc2n := opI_n (m := 100) (by decide) (fun c hc => by have := trO_le (lmO_lt hc).2; omega) h_90
      have her := er_lm0 hB2 hc2n
      refine g_iload cx dX2_goTo_93 rfl ?_
      exact g_ret cx rq rfl (rfl) dX2_goTo_95 ⟨by rw [← lmO_m (fun c hc => erG_le hc), her.1], ⟨((((FV.rf.cp (Or.inr (by decide)) (by decide)).rx (Or.inr (by decide)) (by decide)).cp (Or.inl rfl) (by decide)).rx (Or.inl rfl) (by decide)), (FG.rf.cp.rx.cp.rx)⟩, fun c hc => by rw [← lmO_m (fun c hc => erG_le hc), her.1] at hc; rw [her.2 c hc, ← hc1 c hc]; exact RX.An (by decide) (CpH.An (by decide) (RX.A hb1))⟩
  · skip
    have hc1n : lmO (trO n k f dn dr i 0 r a) (mB B) = none := opI_n (m := 100) (by decide) (fun c hc => by have := trO_le (lmO_lt hc).2; omega) h_70
    have hB2 : (match lmO (trO n k f dn dr i 0 r a) (mB B) with | none => mB B | some c => c) = mB B := by rw [hc1n]
    refine g_iload cx dX2_goTo_73 rfl ?_
    refine g_goto (tgt := 82) cx dX2_goTo_75 (by decide) ?_
    refine g_callV (As := [vi (nI i), vi (nI 1), vi (nI r), vi (nI (mB B) - nI 1)]) (rest := []) cx knX0_goTillOpen (x_go_b (CpH.P (RX.P (CpH.P hP))) (by decide) (CpH.A hn8 (RX.An (by decide) (CpH.An (by decide) hA))) (i := i) (s := 1) (r := r) (B := (mB B)) hi (by decide) hr (mB_le B)) a9_4 rfl rfl lmX2_71 niX0_goTillOpen seX0_goTillOpen rfl (by decide) (Nat.le_of_ble_eq_true rfl) rfl dX2_goTo_82 (fun r0 E2 hp0 => ?_)
    obtain ⟨rfl, b2, hE2, hb2, hc2⟩ := hp0
    show Gk X mX2_goTo idsA 85 [some (vr (14, 0)), some (vi (nI r)), some (vi (nI 2)), some (vi (nI B - nI 1)), some (vi (nI (mB B) - nI 1)), some (vr (9, 8)), some (vi (opI (lmO (trO n k f dn dr i 0 r a) (mB B)))), none] [vi (opI (lmO (trO n k f dn dr i 1 r a) (mB B)))] E2
    refine g_wd (D' := RX (CpH (RX (CpH D 7 8) 8 n b1) 7 4) 4 n b2) (hE2) ?_
    refine g_istore (L' := [some (vr (14, 0)), some (vi (nI r)), some (vi (nI 2)), some (vi (nI B - nI 1)), some (vi (nI (mB B) - nI 1)), some (vr (9, 8)), some (vi (opI (lmO (trO n k f dn dr i 0 r a) (mB B)))), some (vi (opI (lmO (trO n k f dn dr i 1 r a) (mB B))))]) cx dX2_goTo_85 (by decide) rfl rfl ?_
    refine g_iload cx dX2_goTo_87 rfl ?_
    refine g_iconst (v := (-1)) cx dX2_goTo_89 (by decide) ?_
    refine g_icmp_ne (tgt := 96) cx dX2_goTo_90 (by decide) (fun h_90 => ?_) (fun h_90 => ?_)
    · skip
      obtain ⟨c2, hc2a⟩ := opI_s h_90
      have her := er_lm1 hB2 hc2a
      refine g_aload cx dX2_goTo_96 rfl ?_
      refine g_aload_n cx dX2_goTo_98 rfl ?_
      refine g_getR (i := (14, 0)) (ci := 2) (k := 2) (j := (9, 4)) cx a14_0 rfl rfl rfl (by decide) inX2 lfX2_31 dX2_goTo_99 ?_
      refine g_fcallVv (As := [vr (9, 4)]) (rest := []) cx knX0_copy (x_copy (g := 4) (h := 8) (by decide) (by decide)) a9_8 rfl rfl lmX2_42 niX0_copy seX0_copy rfl (by decide) (Nat.le_of_ble_eq_true rfl) rfl dX2_goTo_102 ?_
      refine g_iload cx dX2_goTo_105 rfl ?_
      exact g_ret cx rq rfl (rfl) dX2_goTo_107 ⟨by rw [← lmO_m (fun c hc => erG_le hc), her.1, hc2a], ⟨(((((FV.rf.cp (Or.inr (by decide)) (by decide)).rx (Or.inr (by decide)) (by decide)).cp (Or.inl rfl) (by decide)).rx (Or.inl rfl) (by decide)).cp (Or.inr (by decide)) (by decide)), (FG.rf.cp.rx.cp.rx).cp⟩, fun c hc => by rw [her.2, ← hc2 c2 hc2a]; exact CpH.A hn8 (RX.A hb2)⟩
    · skip
      have hc2n := opI_n (m := 100) (by decide) (fun c hc => by have := trO_le (lmO_lt hc).2; omega) h_90
      have her := er_lm0 hB2 hc2n
      refine g_iload cx dX2_goTo_93 rfl ?_
      exact g_ret cx rq rfl (rfl) dX2_goTo_95 ⟨by rw [← lmO_m (fun c hc => erG_le hc), her.1], ⟨((((FV.rf.cp (Or.inr (by decide)) (by decide)).rx (Or.inr (by decide)) (by decide)).cp (Or.inl rfl) (by decide)).rx (Or.inl rfl) (by decide)), (FG.rf.cp.rx.cp.rx)⟩, fun c hc => by rw [← lmO_m (fun c hc => erG_le hc), her.1] at hc; rw [her.2 c hc, ← hc1 c hc]; exact RX.An (by decide) (CpH.An (by decide) (RX.A hb1))⟩

set_option maxRecDepth 100000 in
set_option maxHeartbeats 4000000 in
theorem x_goTo3 {D : Wd} {n : Nat} {k f : Nat → Nat} {dn : Nat} {dr : Nat → Nat} {pn : Nat} (hP : PX D 0 n k f dn dr pn) {a : Nat → Nat} (hA : AX D 8 n a) {i r B : Nat} (hL : D (14, 0) 5 = nI i) (hi : i < n) (hr : r < n) (hB : B < 1000) : Mok mX2_goTo idsA 5 [vr (14, 0), vi (nI r), vi (nI 3), vi (nI B - nI 1)] D (fun r' E' => r' = (some (vi (opI (lmO (erG n k f dn dr i r a).1 B)))) ∧ ((FV 9 D E' ∧ FG D E') ∧ ∀ c, lmO (erG n k f dn dr i r a).1 B = some c → AX E' 9 n (erG n k f dn dr i r a).2)) := by
  obtain ⟨hn3, hn8, hN, hK, hF, hd3, hDn, hDr, hp5, hPn⟩ := id hP
  refine Mok.of (L := [some (vr (14, 0)), some (vi (nI r)), some (vi (nI 3)), some (vi (nI B - nI 1)), none, none, none, none]) rfl (fun _ => Nat.le_of_ble_eq_true rfl) (fun _ => rfl) (fun X cx rq => ?_)
  refine g_iload_n cx dX2_goTo_0 rfl ?_
  refine g_bipush (v := nI 72) cx dX2_goTo_1 (by decide) ?_
  refine g_min cx lmX2_65 nsMin nzJ9 cdMin (Nat.le_of_ble_eq_true rfl) (by decide) dX2_goTo_3 ?_
  refine g_top (min_B hB) ?_
  refine g_istore (L' := [some (vr (14, 0)), some (vi (nI r)), some (vi (nI 3)), some (vi (nI B - nI 1)), some (vi (nI (mB B) - nI 1)), none, none, none]) cx dX2_goTo_6 (by decide) rfl rfl ?_
  refine g_aload_n cx dX2_goTo_8 rfl ?_
  refine g_getR (i := (14, 0)) (ci := 2) (k := 1) (j := (15, 0)) cx a14_0 rfl rfl rfl (by decide) inX2 lfX2_11 dX2_goTo_9 ?_
  refine g_iload_n cx dX2_goTo_12 rfl ?_
  refine g_iconst (v := nI 1) cx dX2_goTo_13 (by decide) ?_
  refine g_iaddN cx dX2_goTo_14 ?_
  refine g_aald (i := (15, 0)) (j := 4) cx a15_0 rfl (rfl) (by omega) (by decide) dX2_goTo_15 ?_
  refine g_astore (L' := [some (vr (14, 0)), some (vi (nI r)), some (vi (nI 3)), some (vi (nI B - nI 1)), some (vi (nI (mB B) - nI 1)), some (vr (9, 9)), none, none]) cx dX2_goTo_16 (by decide) rfl rfl ?_
  refine g_aload cx dX2_goTo_18 rfl ?_
  refine g_aload_n cx dX2_goTo_20 rfl ?_
  refine g_getR (i := (14, 0)) (ci := 2) (k := 1) (j := (15, 0)) cx a14_0 rfl rfl rfl (by decide) inX2 lfX2_11 dX2_goTo_21 ?_
  refine g_iload_n cx dX2_goTo_24 rfl ?_
  refine g_aald (i := (15, 0)) (j := 3) cx a15_0 rfl (rfl) (by omega) (by decide) dX2_goTo_25 ?_
  refine g_fcallVv (As := [vr (9, 8)]) (rest := []) cx knX0_copy (x_copy (g := 8) (h := 9) (by decide) (by decide)) a9_9 rfl rfl lmX2_42 niX0_copy seX0_copy rfl (by decide) (Nat.le_of_ble_eq_true rfl) rfl dX2_goTo_26 ?_
  refine g_aload cx dX2_goTo_29 rfl ?_
  refine g_aload_n cx dX2_goTo_31 rfl ?_
  refine g_getIN (i := (14, 0)) (ci := 2) (k := 5) (v := nI i) cx a14_0 rfl rfl rfl (by decide) inX2 lfX2_35 dX2_goTo_32 (by rw [CpH.o (by decide) (by decide) (by decide)]; exact hL) ?_
  refine g_iconst (v := nI 0) cx dX2_goTo_35 (by decide) ?_
  refine g_iload_n cx dX2_goTo_36 rfl ?_
  refine g_iload cx dX2_goTo_37 rfl ?_
  refine g_callV (As := [vi (nI i), vi (nI 0), vi (nI r), vi (nI (mB B) - nI 1)]) (rest := []) cx knX0_goTillOpen (x_go_b (CpH.P hP) (by decide) (CpH.A hn8 hA) (i := i) (s := 0) (r := r) (B := mB B) hi (by decide) hr (mB_le B)) a9_9 rfl rfl lmX2_71 niX0_goTillOpen seX0_goTillOpen rfl (by decide) (Nat.le_of_ble_eq_true rfl) rfl dX2_goTo_39 (fun r0 E1 hp0 => ?_)
  obtain ⟨rfl, b1, hE1, hb1, hc1⟩ := hp0
  show Gk X mX2_goTo idsA 42 [some (vr (14, 0)), some (vi (nI r)), some (vi (nI 3)), some (vi (nI B - nI 1)), some (vi (nI (mB B) - nI 1)), some (vr (9, 9)), none, none] [vi (opI (lmO (trO n k f dn dr i 0 r a) (mB B)))] E1
  refine g_wd (D' := RX (CpH D 8 9) 9 n b1) (hE1) ?_
  refine g_istore (L' := [some (vr (14, 0)), some (vi (nI r)), some (vi (nI 3)), some (vi (nI B - nI 1)), some (vi (nI (mB B) - nI 1)), some (vr (9, 9)), some (vi (opI (lmO (trO n k f dn dr i 0 r a) (mB B)))), none]) cx dX2_goTo_42 (by decide) rfl rfl ?_
  refine g_aload_n cx dX2_goTo_44 rfl ?_
  refine g_getR (i := (14, 0)) (ci := 2) (k := 2) (j := (9, 4)) cx a14_0 rfl rfl rfl (by decide) inX2 lfX2_31 dX2_goTo_45 ?_
  refine g_aload_n cx dX2_goTo_48 rfl ?_
  refine g_getR (i := (14, 0)) (ci := 2) (k := 1) (j := (15, 0)) cx a14_0 rfl rfl rfl (by decide) inX2 lfX2_11 dX2_goTo_49 ?_
  refine g_iload_n cx dX2_goTo_52 rfl ?_
  refine g_aald (i := (15, 0)) (j := 3) cx a15_0 rfl (rfl) (by omega) (by decide) dX2_goTo_53 ?_
  refine g_fcallVv (As := [vr (9, 8)]) (rest := []) cx knX0_copy (x_copy (g := 8) (h := 4) (by decide) (by decide)) a9_4 rfl rfl lmX2_42 niX0_copy seX0_copy rfl (by decide) (Nat.le_of_ble_eq_true rfl) rfl dX2_goTo_54 ?_
  refine g_aload_n cx dX2_goTo_57 rfl ?_
  refine g_getR (i := (14, 0)) (ci := 2) (k := 2) (j := (9, 4)) cx a14_0 rfl rfl rfl (by decide) inX2 lfX2_31 dX2_goTo_58 ?_
  refine g_aload_n cx dX2_goTo_61 rfl ?_
  refine g_getIN (i := (14, 0)) (ci := 2) (k := 5) (v := nI i) cx a14_0 rfl rfl rfl (by decide) inX2 lfX2_35 dX2_goTo_62 (by rw [CpH.o (by decide) (by decide) (by decide), RX.at (by decide), CpH.o (by decide) (by decide) (by decide)]; exact hL) ?_
  refine g_iconst (v := nI 1) cx dX2_goTo_65 (by decide) ?_
  refine g_iload_n cx dX2_goTo_66 rfl ?_
  refine g_iload cx dX2_goTo_67 rfl ?_
  refine g_iconst (v := (-1)) cx dX2_goTo_69 (by decide) ?_
  refine g_icmp_ne (tgt := 78) cx dX2_goTo_70 (by decide) (fun h_70 => ?_) (fun h_70 => ?_)
  · skip
    obtain ⟨c1, hc1a⟩ := opI_s h_70
    have hB2 : (match lmO (trO n k f dn dr i 0 r a) (mB B) with | none => mB B | some c => c) = c1 := by rw [hc1a]
    refine g_iload cx dX2_goTo_78 rfl ?_
    refine g_iconst (v := nI 1) cx dX2_goTo_80 (by decide) ?_
    refine g_isub cx dX2_goTo_81 ?_
    refine g_top (y := nI c1 - nI 1) (by rw [hc1a]; rfl) ?_
    refine g_callV (As := [vi (nI i), vi (nI 1), vi (nI r), vi (nI c1 - nI 1)]) (rest := []) cx knX0_goTillOpen (x_go_b (CpH.P (RX.P (CpH.P hP))) (by decide) (CpH.A hn8 (RX.An (by decide) (CpH.An (by decide) hA))) (i := i) (s := 1) (r := r) (B := c1) hi (by decide) hr (by have := (lmO_lt hc1a).1; have := mB_le B; omega)) a9_4 rfl rfl lmX2_71 niX0_goTillOpen seX0_goTillOpen rfl (by decide) (Nat.le_of_ble_eq_true rfl) rfl dX2_goTo_82 (fun r0 E2 hp0 => ?_)
    obtain ⟨rfl, b2, hE2, hb2, hc2⟩ := hp0
    show Gk X mX2_goTo idsA 85 [some (vr (14, 0)), some (vi (nI r)), some (vi (nI 3)), some (vi (nI B - nI 1)), some (vi (nI (mB B) - nI 1)), some (vr (9, 9)), some (vi (opI (lmO (trO n k f dn dr i 0 r a) (mB B)))), none] [vi (opI (lmO (trO n k f dn dr i 1 r a) c1))] E2
    refine g_wd (D' := RX (CpH (RX (CpH D 8 9) 9 n b1) 8 4) 4 n b2) (hE2) ?_
    refine g_istore (L' := [some (vr (14, 0)), some (vi (nI r)), some (vi (nI 3)), some (vi (nI B - nI 1)), some (vi (nI (mB B) - nI 1)), some (vr (9, 9)), some (vi (opI (lmO (trO n k f dn dr i 0 r a) (mB B)))), some (vi (opI (lmO (trO n k f dn dr i 1 r a) c1)))]) cx dX2_goTo_85 (by decide) rfl rfl ?_
    refine g_iload cx dX2_goTo_87 rfl ?_
    refine g_iconst (v := (-1)) cx dX2_goTo_89 (by decide) ?_
    refine g_icmp_ne (tgt := 96) cx dX2_goTo_90 (by decide) (fun h_90 => ?_) (fun h_90 => ?_)
    · skip
      obtain ⟨c2, hc2a⟩ := opI_s h_90
      have her := er_lm1 hB2 hc2a
      refine g_aload cx dX2_goTo_96 rfl ?_
      refine g_aload_n cx dX2_goTo_98 rfl ?_
      refine g_getR (i := (14, 0)) (ci := 2) (k := 2) (j := (9, 4)) cx a14_0 rfl rfl rfl (by decide) inX2 lfX2_31 dX2_goTo_99 ?_
      refine g_fcallVv (As := [vr (9, 4)]) (rest := []) cx knX0_copy (x_copy (g := 4) (h := 9) (by decide) (by decide)) a9_9 rfl rfl lmX2_42 niX0_copy seX0_copy rfl (by decide) (Nat.le_of_ble_eq_true rfl) rfl dX2_goTo_102 ?_
      refine g_iload cx dX2_goTo_105 rfl ?_
      exact g_ret cx rq rfl (rfl) dX2_goTo_107 ⟨by rw [← lmO_m (fun c hc => erG_le hc), her.1, hc2a], ⟨(((((FV.rf.cp (Or.inr (by decide)) (by decide)).rx (Or.inr (by decide)) (by decide)).cp (Or.inl rfl) (by decide)).rx (Or.inl rfl) (by decide)).cp (Or.inr (by decide)) (by decide)), (FG.rf.cp.rx.cp.rx).cp⟩, fun c hc => by rw [her.2, ← hc2 c2 hc2a]; exact CpH.A hn8 (RX.A hb2)⟩
    · skip
      have hc2n := opI_n (m := 100) (by decide) (fun c hc => by have := trO_le (lmO_lt hc).2; omega) h_90
      have her := er_lm0 hB2 hc2n
      refine g_iload cx dX2_goTo_93 rfl ?_
      exact g_ret cx rq rfl (rfl) dX2_goTo_95 ⟨by rw [← lmO_m (fun c hc => erG_le hc), her.1], ⟨((((FV.rf.cp (Or.inr (by decide)) (by decide)).rx (Or.inr (by decide)) (by decide)).cp (Or.inl rfl) (by decide)).rx (Or.inl rfl) (by decide)), (FG.rf.cp.rx.cp.rx)⟩, fun c hc => by rw [← lmO_m (fun c hc => erG_le hc), her.1] at hc; rw [her.2 c hc, ← hc1 c hc]; exact RX.An (by decide) (CpH.An (by decide) (RX.A hb1))⟩
  · skip
    have hc1n : lmO (trO n k f dn dr i 0 r a) (mB B) = none := opI_n (m := 100) (by decide) (fun c hc => by have := trO_le (lmO_lt hc).2; omega) h_70
    have hB2 : (match lmO (trO n k f dn dr i 0 r a) (mB B) with | none => mB B | some c => c) = mB B := by rw [hc1n]
    refine g_iload cx dX2_goTo_73 rfl ?_
    refine g_goto (tgt := 82) cx dX2_goTo_75 (by decide) ?_
    refine g_callV (As := [vi (nI i), vi (nI 1), vi (nI r), vi (nI (mB B) - nI 1)]) (rest := []) cx knX0_goTillOpen (x_go_b (CpH.P (RX.P (CpH.P hP))) (by decide) (CpH.A hn8 (RX.An (by decide) (CpH.An (by decide) hA))) (i := i) (s := 1) (r := r) (B := (mB B)) hi (by decide) hr (mB_le B)) a9_4 rfl rfl lmX2_71 niX0_goTillOpen seX0_goTillOpen rfl (by decide) (Nat.le_of_ble_eq_true rfl) rfl dX2_goTo_82 (fun r0 E2 hp0 => ?_)
    obtain ⟨rfl, b2, hE2, hb2, hc2⟩ := hp0
    show Gk X mX2_goTo idsA 85 [some (vr (14, 0)), some (vi (nI r)), some (vi (nI 3)), some (vi (nI B - nI 1)), some (vi (nI (mB B) - nI 1)), some (vr (9, 9)), some (vi (opI (lmO (trO n k f dn dr i 0 r a) (mB B)))), none] [vi (opI (lmO (trO n k f dn dr i 1 r a) (mB B)))] E2
    refine g_wd (D' := RX (CpH (RX (CpH D 8 9) 9 n b1) 8 4) 4 n b2) (hE2) ?_
    refine g_istore (L' := [some (vr (14, 0)), some (vi (nI r)), some (vi (nI 3)), some (vi (nI B - nI 1)), some (vi (nI (mB B) - nI 1)), some (vr (9, 9)), some (vi (opI (lmO (trO n k f dn dr i 0 r a) (mB B)))), some (vi (opI (lmO (trO n k f dn dr i 1 r a) (mB B))))]) cx dX2_goTo_85 (by decide) rfl rfl ?_
    refine g_iload cx dX2_goTo_87 rfl ?_
    refine g_iconst (v := (-1)) cx dX2_goTo_89 (by decide) ?_
    refine g_icmp_ne (tgt := 96) cx dX2_goTo_90 (by decide) (fun h_90 => ?_) (fun h_90 => ?_)
    · skip
      obtain ⟨c2, hc2a⟩ := opI_s h_90
      have her := er_lm1 hB2 hc2a
      refine g_aload cx dX2_goTo_96 rfl ?_
      refine g_aload_n cx dX2_goTo_98 rfl ?_
      refine g_getR (i := (14, 0)) (ci := 2) (k := 2) (j := (9, 4)) cx a14_0 rfl rfl rfl (by decide) inX2 lfX2_31 dX2_goTo_99 ?_
      refine g_fcallVv (As := [vr (9, 4)]) (rest := []) cx knX0_copy (x_copy (g := 4) (h := 9) (by decide) (by decide)) a9_9 rfl rfl lmX2_42 niX0_copy seX0_copy rfl (by decide) (Nat.le_of_ble_eq_true rfl) rfl dX2_goTo_102 ?_
      refine g_iload cx dX2_goTo_105 rfl ?_
      exact g_ret cx rq rfl (rfl) dX2_goTo_107 ⟨by rw [← lmO_m (fun c hc => erG_le hc), her.1, hc2a], ⟨(((((FV.rf.cp (Or.inr (by decide)) (by decide)).rx (Or.inr (by decide)) (by decide)).cp (Or.inl rfl) (by decide)).rx (Or.inl rfl) (by decide)).cp (Or.inr (by decide)) (by decide)), (FG.rf.cp.rx.cp.rx).cp⟩, fun c hc => by rw [her.2, ← hc2 c2 hc2a]; exact CpH.A hn8 (RX.A hb2)⟩
    · skip
      have hc2n := opI_n (m := 100) (by decide) (fun c hc => by have := trO_le (lmO_lt hc).2; omega) h_90
      have her := er_lm0 hB2 hc2n
      refine g_iload cx dX2_goTo_93 rfl ?_
      exact g_ret cx rq rfl (rfl) dX2_goTo_95 ⟨by rw [← lmO_m (fun c hc => erG_le hc), her.1], ⟨((((FV.rf.cp (Or.inr (by decide)) (by decide)).rx (Or.inr (by decide)) (by decide)).cp (Or.inl rfl) (by decide)).rx (Or.inl rfl) (by decide)), (FG.rf.cp.rx.cp.rx)⟩, fun c hc => by rw [← lmO_m (fun c hc => erG_le hc), her.1] at hc; rw [her.2 c hc, ← hc1 c hc]; exact RX.An (by decide) (CpH.An (by decide) (RX.A hb1))⟩

set_option maxRecDepth 100000 in
set_option maxHeartbeats 4000000 in
theorem x_goTo4 {D : Wd} {n : Nat} {k f : Nat → Nat} {dn : Nat} {dr : Nat → Nat} {pn : Nat} (hP : PX D 0 n k f dn dr pn) {a : Nat → Nat} (hA : AX D 9 n a) {i r B : Nat} (hL : D (14, 0) 5 = nI i) (hi : i < n) (hr : r < n) (hB : B < 1000) : Mok mX2_goTo idsA 5 [vr (14, 0), vi (nI r), vi (nI 4), vi (nI B - nI 1)] D (fun r' E' => r' = (some (vi (opI (lmO (erG n k f dn dr i r a).1 B)))) ∧ ((FV 10 D E' ∧ FG D E') ∧ ∀ c, lmO (erG n k f dn dr i r a).1 B = some c → AX E' 10 n (erG n k f dn dr i r a).2)) := by
  obtain ⟨hn3, hn8, hN, hK, hF, hd3, hDn, hDr, hp5, hPn⟩ := id hP
  refine Mok.of (L := [some (vr (14, 0)), some (vi (nI r)), some (vi (nI 4)), some (vi (nI B - nI 1)), none, none, none, none]) rfl (fun _ => Nat.le_of_ble_eq_true rfl) (fun _ => rfl) (fun X cx rq => ?_)
  refine g_iload_n cx dX2_goTo_0 rfl ?_
  refine g_bipush (v := nI 72) cx dX2_goTo_1 (by decide) ?_
  refine g_min cx lmX2_65 nsMin nzJ9 cdMin (Nat.le_of_ble_eq_true rfl) (by decide) dX2_goTo_3 ?_
  refine g_top (min_B hB) ?_
  refine g_istore (L' := [some (vr (14, 0)), some (vi (nI r)), some (vi (nI 4)), some (vi (nI B - nI 1)), some (vi (nI (mB B) - nI 1)), none, none, none]) cx dX2_goTo_6 (by decide) rfl rfl ?_
  refine g_aload_n cx dX2_goTo_8 rfl ?_
  refine g_getR (i := (14, 0)) (ci := 2) (k := 1) (j := (15, 0)) cx a14_0 rfl rfl rfl (by decide) inX2 lfX2_11 dX2_goTo_9 ?_
  refine g_iload_n cx dX2_goTo_12 rfl ?_
  refine g_iconst (v := nI 1) cx dX2_goTo_13 (by decide) ?_
  refine g_iaddN cx dX2_goTo_14 ?_
  refine g_aald (i := (15, 0)) (j := 5) cx a15_0 rfl (rfl) (by omega) (by decide) dX2_goTo_15 ?_
  refine g_astore (L' := [some (vr (14, 0)), some (vi (nI r)), some (vi (nI 4)), some (vi (nI B - nI 1)), some (vi (nI (mB B) - nI 1)), some (vr (9, 10)), none, none]) cx dX2_goTo_16 (by decide) rfl rfl ?_
  refine g_aload cx dX2_goTo_18 rfl ?_
  refine g_aload_n cx dX2_goTo_20 rfl ?_
  refine g_getR (i := (14, 0)) (ci := 2) (k := 1) (j := (15, 0)) cx a14_0 rfl rfl rfl (by decide) inX2 lfX2_11 dX2_goTo_21 ?_
  refine g_iload_n cx dX2_goTo_24 rfl ?_
  refine g_aald (i := (15, 0)) (j := 4) cx a15_0 rfl (rfl) (by omega) (by decide) dX2_goTo_25 ?_
  refine g_fcallVv (As := [vr (9, 9)]) (rest := []) cx knX0_copy (x_copy (g := 9) (h := 10) (by decide) (by decide)) a9_10 rfl rfl lmX2_42 niX0_copy seX0_copy rfl (by decide) (Nat.le_of_ble_eq_true rfl) rfl dX2_goTo_26 ?_
  refine g_aload cx dX2_goTo_29 rfl ?_
  refine g_aload_n cx dX2_goTo_31 rfl ?_
  refine g_getIN (i := (14, 0)) (ci := 2) (k := 5) (v := nI i) cx a14_0 rfl rfl rfl (by decide) inX2 lfX2_35 dX2_goTo_32 (by rw [CpH.o (by decide) (by decide) (by decide)]; exact hL) ?_
  refine g_iconst (v := nI 0) cx dX2_goTo_35 (by decide) ?_
  refine g_iload_n cx dX2_goTo_36 rfl ?_
  refine g_iload cx dX2_goTo_37 rfl ?_
  refine g_callV (As := [vi (nI i), vi (nI 0), vi (nI r), vi (nI (mB B) - nI 1)]) (rest := []) cx knX0_goTillOpen (x_go_b (CpH.P hP) (by decide) (CpH.A hn8 hA) (i := i) (s := 0) (r := r) (B := mB B) hi (by decide) hr (mB_le B)) a9_10 rfl rfl lmX2_71 niX0_goTillOpen seX0_goTillOpen rfl (by decide) (Nat.le_of_ble_eq_true rfl) rfl dX2_goTo_39 (fun r0 E1 hp0 => ?_)
  obtain ⟨rfl, b1, hE1, hb1, hc1⟩ := hp0
  show Gk X mX2_goTo idsA 42 [some (vr (14, 0)), some (vi (nI r)), some (vi (nI 4)), some (vi (nI B - nI 1)), some (vi (nI (mB B) - nI 1)), some (vr (9, 10)), none, none] [vi (opI (lmO (trO n k f dn dr i 0 r a) (mB B)))] E1
  refine g_wd (D' := RX (CpH D 9 10) 10 n b1) (hE1) ?_
  refine g_istore (L' := [some (vr (14, 0)), some (vi (nI r)), some (vi (nI 4)), some (vi (nI B - nI 1)), some (vi (nI (mB B) - nI 1)), some (vr (9, 10)), some (vi (opI (lmO (trO n k f dn dr i 0 r a) (mB B)))), none]) cx dX2_goTo_42 (by decide) rfl rfl ?_
  refine g_aload_n cx dX2_goTo_44 rfl ?_
  refine g_getR (i := (14, 0)) (ci := 2) (k := 2) (j := (9, 4)) cx a14_0 rfl rfl rfl (by decide) inX2 lfX2_31 dX2_goTo_45 ?_
  refine g_aload_n cx dX2_goTo_48 rfl ?_
  refine g_getR (i := (14, 0)) (ci := 2) (k := 1) (j := (15, 0)) cx a14_0 rfl rfl rfl (by decide) inX2 lfX2_11 dX2_goTo_49 ?_
  refine g_iload_n cx dX2_goTo_52 rfl ?_
  refine g_aald (i := (15, 0)) (j := 4) cx a15_0 rfl (rfl) (by omega) (by decide) dX2_goTo_53 ?_
  refine g_fcallVv (As := [vr (9, 9)]) (rest := []) cx knX0_copy (x_copy (g := 9) (h := 4) (by decide) (by decide)) a9_4 rfl rfl lmX2_42 niX0_copy seX0_copy rfl (by decide) (Nat.le_of_ble_eq_true rfl) rfl dX2_goTo_54 ?_
  refine g_aload_n cx dX2_goTo_57 rfl ?_
  refine g_getR (i := (14, 0)) (ci := 2) (k := 2) (j := (9, 4)) cx a14_0 rfl rfl rfl (by decide) inX2 lfX2_31 dX2_goTo_58 ?_
  refine g_aload_n cx dX2_goTo_61 rfl ?_
  refine g_getIN (i := (14, 0)) (ci := 2) (k := 5) (v := nI i) cx a14_0 rfl rfl rfl (by decide) inX2 lfX2_35 dX2_goTo_62 (by rw [CpH.o (by decide) (by decide) (by decide), RX.at (by decide), CpH.o (by decide) (by decide) (by decide)]; exact hL) ?_
  refine g_iconst (v := nI 1) cx dX2_goTo_65 (by decide) ?_
  refine g_iload_n cx dX2_goTo_66 rfl ?_
  refine g_iload cx dX2_goTo_67 rfl ?_
  refine g_iconst (v := (-1)) cx dX2_goTo_69 (by decide) ?_
  refine g_icmp_ne (tgt := 78) cx dX2_goTo_70 (by decide) (fun h_70 => ?_) (fun h_70 => ?_)
  · skip
    obtain ⟨c1, hc1a⟩ := opI_s h_70
    have hB2 : (match lmO (trO n k f dn dr i 0 r a) (mB B) with | none => mB B | some c => c) = c1 := by rw [hc1a]
    refine g_iload cx dX2_goTo_78 rfl ?_
    refine g_iconst (v := nI 1) cx dX2_goTo_80 (by decide) ?_
    refine g_isub cx dX2_goTo_81 ?_
    refine g_top (y := nI c1 - nI 1) (by rw [hc1a]; rfl) ?_
    refine g_callV (As := [vi (nI i), vi (nI 1), vi (nI r), vi (nI c1 - nI 1)]) (rest := []) cx knX0_goTillOpen (x_go_b (CpH.P (RX.P (CpH.P hP))) (by decide) (CpH.A hn8 (RX.An (by decide) (CpH.An (by decide) hA))) (i := i) (s := 1) (r := r) (B := c1) hi (by decide) hr (by have := (lmO_lt hc1a).1; have := mB_le B; omega)) a9_4 rfl rfl lmX2_71 niX0_goTillOpen seX0_goTillOpen rfl (by decide) (Nat.le_of_ble_eq_true rfl) rfl dX2_goTo_82 (fun r0 E2 hp0 => ?_)
    obtain ⟨rfl, b2, hE2, hb2, hc2⟩ := hp0
    show Gk X mX2_goTo idsA 85 [some (vr (14, 0)), some (vi (nI r)), some (vi (nI 4)), some (vi (nI B - nI 1)), some (vi (nI (mB B) - nI 1)), some (vr (9, 10)), some (vi (opI (lmO (trO n k f dn dr i 0 r a) (mB B)))), none] [vi (opI (lmO (trO n k f dn dr i 1 r a) c1))] E2
    refine g_wd (D' := RX (CpH (RX (CpH D 9 10) 10 n b1) 9 4) 4 n b2) (hE2) ?_
    refine g_istore (L' := [some (vr (14, 0)), some (vi (nI r)), some (vi (nI 4)), some (vi (nI B - nI 1)), some (vi (nI (mB B) - nI 1)), some (vr (9, 10)), some (vi (opI (lmO (trO n k f dn dr i 0 r a) (mB B)))), some (vi (opI (lmO (trO n k f dn dr i 1 r a) c1)))]) cx dX2_goTo_85 (by decide) rfl rfl ?_
    refine g_iload cx dX2_goTo_87 rfl ?_
    refine g_iconst (v := (-1)) cx dX2_goTo_89 (by decide) ?_
    refine g_icmp_ne (tgt := 96) cx dX2_goTo_90 (by decide) (fun h_90 => ?_) (fun h_90 => ?_)
    · skip
      obtain ⟨c2, hc2a⟩ := opI_s h_90
      have her := er_lm1 hB2 hc2a
      refine g_aload cx dX2_goTo_96 rfl ?_
      refine g_aload_n cx dX2_goTo_98 rfl ?_
      refine g_getR (i := (14, 0)) (ci := 2) (k := 2) (j := (9, 4)) cx a14_0 rfl rfl rfl (by decide) inX2 lfX2_31 dX2_goTo_99 ?_
      refine g_fcallVv (As := [vr (9, 4)]) (rest := []) cx knX0_copy (x_copy (g := 4) (h := 10) (by decide) (by decide)) a9_10 rfl rfl lmX2_42 niX0_copy seX0_copy rfl (by decide) (Nat.le_of_ble_eq_true rfl) rfl dX2_goTo_102 ?_
      refine g_iload cx dX2_goTo_105 rfl ?_
      exact g_ret cx rq rfl (rfl) dX2_goTo_107 ⟨by rw [← lmO_m (fun c hc => erG_le hc), her.1, hc2a], ⟨(((((FV.rf.cp (Or.inr (by decide)) (by decide)).rx (Or.inr (by decide)) (by decide)).cp (Or.inl rfl) (by decide)).rx (Or.inl rfl) (by decide)).cp (Or.inr (by decide)) (by decide)), (FG.rf.cp.rx.cp.rx).cp⟩, fun c hc => by rw [her.2, ← hc2 c2 hc2a]; exact CpH.A hn8 (RX.A hb2)⟩
    · skip
      have hc2n := opI_n (m := 100) (by decide) (fun c hc => by have := trO_le (lmO_lt hc).2; omega) h_90
      have her := er_lm0 hB2 hc2n
      refine g_iload cx dX2_goTo_93 rfl ?_
      exact g_ret cx rq rfl (rfl) dX2_goTo_95 ⟨by rw [← lmO_m (fun c hc => erG_le hc), her.1], ⟨((((FV.rf.cp (Or.inr (by decide)) (by decide)).rx (Or.inr (by decide)) (by decide)).cp (Or.inl rfl) (by decide)).rx (Or.inl rfl) (by decide)), (FG.rf.cp.rx.cp.rx)⟩, fun c hc => by rw [← lmO_m (fun c hc => erG_le hc), her.1] at hc; rw [her.2 c hc, ← hc1 c hc]; exact RX.An (by decide) (CpH.An (by decide) (RX.A hb1))⟩
  · skip
    have hc1n : lmO (trO n k f dn dr i 0 r a) (mB B) = none := opI_n (m := 100) (by decide) (fun c hc => by have := trO_le (lmO_lt hc).2; omega) h_70
    have hB2 : (match lmO (trO n k f dn dr i 0 r a) (mB B) with | none => mB B | some c => c) = mB B := by rw [hc1n]
    refine g_iload cx dX2_goTo_73 rfl ?_
    refine g_goto (tgt := 82) cx dX2_goTo_75 (by decide) ?_
    refine g_callV (As := [vi (nI i), vi (nI 1), vi (nI r), vi (nI (mB B) - nI 1)]) (rest := []) cx knX0_goTillOpen (x_go_b (CpH.P (RX.P (CpH.P hP))) (by decide) (CpH.A hn8 (RX.An (by decide) (CpH.An (by decide) hA))) (i := i) (s := 1) (r := r) (B := (mB B)) hi (by decide) hr (mB_le B)) a9_4 rfl rfl lmX2_71 niX0_goTillOpen seX0_goTillOpen rfl (by decide) (Nat.le_of_ble_eq_true rfl) rfl dX2_goTo_82 (fun r0 E2 hp0 => ?_)
    obtain ⟨rfl, b2, hE2, hb2, hc2⟩ := hp0
    show Gk X mX2_goTo idsA 85 [some (vr (14, 0)), some (vi (nI r)), some (vi (nI 4)), some (vi (nI B - nI 1)), some (vi (nI (mB B) - nI 1)), some (vr (9, 10)), some (vi (opI (lmO (trO n k f dn dr i 0 r a) (mB B)))), none] [vi (opI (lmO (trO n k f dn dr i 1 r a) (mB B)))] E2
    refine g_wd (D' := RX (CpH (RX (CpH D 9 10) 10 n b1) 9 4) 4 n b2) (hE2) ?_
    refine g_istore (L' := [some (vr (14, 0)), some (vi (nI r)), some (vi (nI 4)), some (vi (nI B - nI 1)), some (vi (nI (mB B) - nI 1)), some (vr (9, 10)), some (vi (opI (lmO (trO n k f dn dr i 0 r a) (mB B)))), some (vi (opI (lmO (trO n k f dn dr i 1 r a) (mB B))))]) cx dX2_goTo_85 (by decide) rfl rfl ?_
    refine g_iload cx dX2_goTo_87 rfl ?_
    refine g_iconst (v := (-1)) cx dX2_goTo_89 (by decide) ?_
    refine g_icmp_ne (tgt := 96) cx dX2_goTo_90 (by decide) (fun h_90 => ?_) (fun h_90 => ?_)
    · skip
      obtain ⟨c2, hc2a⟩ := opI_s h_90
      have her := er_lm1 hB2 hc2a
      refine g_aload cx dX2_goTo_96 rfl ?_
      refine g_aload_n cx dX2_goTo_98 rfl ?_
      refine g_getR (i := (14, 0)) (ci := 2) (k := 2) (j := (9, 4)) cx a14_0 rfl rfl rfl (by decide) inX2 lfX2_31 dX2_goTo_99 ?_
      refine g_fcallVv (As := [vr (9, 4)]) (rest := []) cx knX0_copy (x_copy (g := 4) (h := 10) (by decide) (by decide)) a9_10 rfl rfl lmX2_42 niX0_copy seX0_copy rfl (by decide) (Nat.le_of_ble_eq_true rfl) rfl dX2_goTo_102 ?_
      refine g_iload cx dX2_goTo_105 rfl ?_
      exact g_ret cx rq rfl (rfl) dX2_goTo_107 ⟨by rw [← lmO_m (fun c hc => erG_le hc), her.1, hc2a], ⟨(((((FV.rf.cp (Or.inr (by decide)) (by decide)).rx (Or.inr (by decide)) (by decide)).cp (Or.inl rfl) (by decide)).rx (Or.inl rfl) (by decide)).cp (Or.inr (by decide)) (by decide)), (FG.rf.cp.rx.cp.rx).cp⟩, fun c hc => by rw [her.2, ← hc2 c2 hc2a]; exact CpH.A hn8 (RX.A hb2)⟩
    · skip
      have hc2n := opI_n (m := 100) (by decide) (fun c hc => by have := trO_le (lmO_lt hc).2; omega) h_90
      have her := er_lm0 hB2 hc2n
      refine g_iload cx dX2_goTo_93 rfl ?_
      exact g_ret cx rq rfl (rfl) dX2_goTo_95 ⟨by rw [← lmO_m (fun c hc => erG_le hc), her.1], ⟨((((FV.rf.cp (Or.inr (by decide)) (by decide)).rx (Or.inr (by decide)) (by decide)).cp (Or.inl rfl) (by decide)).rx (Or.inl rfl) (by decide)), (FG.rf.cp.rx.cp.rx)⟩, fun c hc => by rw [← lmO_m (fun c hc => erG_le hc), her.1] at hc; rw [her.2 c hc, ← hc1 c hc]; exact RX.An (by decide) (CpH.An (by decide) (RX.A hb1))⟩

set_option maxRecDepth 100000 in
set_option maxHeartbeats 4000000 in
theorem x_visit5 {D : Wd} {n : Nat} {k f : Nat → Nat} {dn : Nat} {dr : Nat → Nat} {pn : Nat} (hP : PX D 0 n k f dn dr pn) {a : Nat → Nat} (hA : AX D 10 n a) {i v sp F cr cc : Nat} {od O : List Nat} (hL : D (14, 0) 5 = nI i) (hi : i < n) (hF9 : D (14, 0) 6 = nI F) (hF3 : F ≤ 361) (hsp : sp ≤ F) (hv : v < 2 ^ n) (hcr : (bl v n).length = cr) (hcc : 5 + cr = cc) (hc5 : cc ≤ 5) (hol : od.length = 5) (hOr : ∀ j, j < 5 → D (16, 0) j = nI (od.getD j 0)) (hB : ∀ j, j < cc → D (17, 0) j = nI (O.getD j 0)) : Mok mX2_visit idsA 1 [vr (14, 0), vi (nI 5), vi (nI v), vi (nI sp)] D (fun r' E' => r' = none ∧ VP 5 cc D E' (visW n k f dn dr i cr (bl v n) sp a od (F, O))) := by
  obtain ⟨hn3, hn8, hN, hK, hF, hd3, hDn, hDr, hp5, hPn⟩ := id hP
  have hv8 : v < 256 := Nat.lt_of_lt_of_le hv (Nat.pow_le_pow_right (by decide) hn8 : 2 ^ n ≤ 2 ^ 8)
  have hbl := bl_len n (by omega) v hv
  refine Mok.of (L := [some (vr (14, 0)), some (vi (nI 5)), some (vi (nI v)), some (vi (nI sp)), none, none]) rfl (fun _ => Nat.le_of_ble_eq_true rfl) (fun _ => rfl) (fun X cx rq => ?_)
  refine g_iload_n cx dX2_visit_0 rfl ?_
  refine g_if_neN (tgt := 24) cx dX2_visit_1 (by decide) (by omega) (fun h_1 => ?_) (fun h_1 => ?_)
  · skip
    refine g_iload_n cx dX2_visit_24 rfl ?_
    refine g_iconst (v := nI 5) cx dX2_visit_25 (by decide) ?_
    refine g_icmp_ltN (tgt := 30) cx dX2_visit_26 (by decide) (by omega) (by omega) (fun h_26 => ?_) (fun h_26 => ?_)
    · skip
      exact absurd h_26 (by omega)
    · skip
      exact absurd (hbl.2.2 h_1) (by omega)
  · skip
    subst h_1
    rw [bl_z] at hcr
    have hc0 : cr = 0 := hcr.symm
    subst hc0
    have hcq := hcc.symm
    refine g_aload_n cx dX2_visit_4 rfl ?_
    refine g_iload_n cx dX2_visit_5 rfl ?_
    refine g_putI (i := (14, 0)) (ci := 2) (k := 6) cx a14_0 rfl rfl rfl (by decide) inX2 tyX2_ok nmX2 rfl rfl lfX2_39 dX2_visit_6 ?_
    refine g_aload_n cx dX2_visit_9 rfl ?_
    refine g_getR (i := (14, 0)) (ci := 2) (k := 3) (j := (16, 0)) cx a14_0 rfl rfl rfl (by decide) inX2 lfX2_17 dX2_visit_10 ?_
    refine g_iconst (v := nI 0) cx dX2_visit_13 (by decide) ?_
    refine g_aload_n cx dX2_visit_14 rfl ?_
    refine g_getR (i := (14, 0)) (ci := 2) (k := 4) (j := (17, 0)) cx a14_0 rfl rfl rfl (by decide) inX2 lfX2_21 dX2_visit_15 ?_
    refine g_iconst (v := nI 0) cx dX2_visit_18 (by decide) ?_
    refine g_iconst (v := nI 5) cx dX2_visit_19 (by decide) ?_
    refine g_copy (rest := []) (i := (16, 0)) (j := (17, 0)) (n := 5) cx a16_0 a17_0 rfl rfl rfl (by decide) (by decide) (by decide) (by decide) (by decide) lmX2_46 nnCopy nsCopy nzJ10 (Nat.le_of_ble_eq_true rfl) (by decide) dX2_visit_20 ?_
    exact g_vret cx rq rfl dX2_visit_23 ⟨rfl, by rw [show visW n k f dn dr i 0 (bl 0 n) sp a od (F, O) = (sp, od) from rfl, hcq]; exact VP.z (by decide) hOr⟩

set_option maxRecDepth 100000 in
set_option maxHeartbeats 4000000 in
theorem x_visit4 {D : Wd} {n : Nat} {k f : Nat → Nat} {dn : Nat} {dr : Nat → Nat} {pn : Nat} (hP : PX D 0 n k f dn dr pn) {a : Nat → Nat} (hA : AX D 9 n a) {i v sp F cr cc : Nat} {od O : List Nat} (hL : D (14, 0) 5 = nI i) (hi : i < n) (hF9 : D (14, 0) 6 = nI F) (hF3 : F ≤ 361) (hsp : sp ≤ F) (hv : v < 2 ^ n) (hcr : (bl v n).length = cr) (hcc : 4 + cr = cc) (hc5 : cc ≤ 5) (hol : od.length = 4) (hOr : ∀ j, j < 4 → D (16, 0) j = nI (od.getD j 0)) (hB : ∀ j, j < cc → D (17, 0) j = nI (O.getD j 0)) : Mok mX2_visit idsA 6 [vr (14, 0), vi (nI 4), vi (nI v), vi (nI sp)] D (fun r' E' => r' = none ∧ VP 4 cc D E' (visW n k f dn dr i cr (bl v n) sp a od (F, O))) := by
  obtain ⟨hn3, hn8, hN, hK, hF, hd3, hDn, hDr, hp5, hPn⟩ := id hP
  have hv8 : v < 256 := Nat.lt_of_lt_of_le hv (Nat.pow_le_pow_right (by decide) hn8 : 2 ^ n ≤ 2 ^ 8)
  have hbl := bl_len n (by omega) v hv
  refine Mok.of (L := [some (vr (14, 0)), some (vi (nI 4)), some (vi (nI v)), some (vi (nI sp)), none, none]) rfl (fun _ => Nat.le_of_ble_eq_true rfl) (fun _ => rfl) (fun X cx rq => ?_)
  refine g_iload_n cx dX2_visit_0 rfl ?_
  refine g_if_neN (tgt := 24) cx dX2_visit_1 (by decide) (by omega) (fun h_1 => ?_) (fun h_1 => ?_)
  · skip
    refine g_iload_n cx dX2_visit_24 rfl ?_
    refine g_iconst (v := nI 5) cx dX2_visit_25 (by decide) ?_
    refine g_icmp_ltN (tgt := 30) cx dX2_visit_26 (by decide) (by omega) (by omega) (fun h_26 => ?_) (fun h_26 => ?_)
    · skip
      obtain ⟨c9, rfl⟩ : ∃ c9, cr = c9 + 1 := ⟨cr - 1, by have := hbl.2.2 h_1; omega⟩
      refine g_iconst (v := nI 0) cx dX2_visit_30 (by decide) ?_
      refine g_istore (L' := [some (vr (14, 0)), some (vi (nI 4)), some (vi (nI v)), some (vi (nI sp)), some (vi (nI 0)), none]) cx dX2_visit_31 (by decide) rfl rfl ?_
      have lp : ∀ (fu : Nat) (m : Nat) (E : Wd), n - m < fu → (m ≤ n) → (VP 4 cc D E (vsL n k f dn dr i c9 v sp a od (F, O) m)) → Gk X mX2_visit idsA 33 [some (vr (14, 0)), some (vi (nI 4)), some (vi (nI v)), some (vi (nI sp)), some (vi (nI m)), none] [] E := by
        intro fu
        induction fu with
        | zero => intro m E hfu; exact absurd hfu (Nat.not_lt_zero _)
        | succ fu ih_lp =>
          intro m E hfu hm hV
          have hbd : sp ≤ (vsL n k f dn dr i c9 v sp a od (F, O) m).1 ∧ (vsL n k f dn dr i c9 v sp a od (F, O) m).1 ≤ F := vst_bd (bl v m) (F, O) hsp
          refine g_iload cx dX2_visit_33 rfl ?_
          refine g_aload_n cx dX2_visit_35 rfl ?_
          refine g_getR (i := (14, 0)) (ci := 2) (k := 0) (j := (1, 0)) cx a14_0 rfl rfl rfl (by decide) inX2 lfX2_24 dX2_visit_36 ?_
          refine g_getIN (i := (1, 0)) (ci := 1) (k := 0) (v := nI n) cx a1_0 rfl rfl rfl (by decide) inX1 lfX2_52 dX2_visit_39 ((congrFun (hV.1.X _ rfl) 0).trans hN) ?_
          refine g_icmp_geN (tgt := 111) cx dX2_visit_42 (by decide) (by omega) (by omega) (fun h_42 => ?_) (fun h_42 => ?_)
          · skip
            have e9 : m = n := by omega
            exact g_vret cx rq rfl dX2_visit_111 ⟨rfl, by rw [visW_s]; have h9 := hV; rw [e9] at h9; exact h9⟩
          · skip
            refine g_iload_n cx dX2_visit_45 rfl ?_
            refine g_iload cx dX2_visit_46 rfl ?_
            refine g_ishr cx dX2_visit_48 ?_
            refine g_iconst (v := nI 1) cx dX2_visit_49 (by decide) ?_
            refine g_iand cx dX2_visit_50 ?_
            refine g_top (nI_bit v hv8 m (by omega)) ?_
            refine g_iconst (v := nI 1) cx dX2_visit_51 (by decide) ?_
            have h2m : v / 2 ^ m % 2 < 2 := Nat.mod_lt _ (by decide)
            refine g_icmp_neN (tgt := 105) cx dX2_visit_52 (by decide) (by omega) (by omega) (fun h_52 => ?_) (fun h_52 => ?_)
            · skip
              have hVn : VP 4 cc D E (vsL n k f dn dr i c9 v sp a od (F, O) (m + 1)) := by rw [vs_nb (fun z => h_52 ((tb_div v m).mpr z))]; exact hV
              refine g_iincN (L' := [some (vr (14, 0)), some (vi (nI 4)), some (vi (nI v)), some (vi (nI sp)), some (vi (nI (m + 1))), none]) cx dX2_visit_105 rfl (by decide) rfl rfl ?_
              refine g_goto (tgt := 33) cx dX2_visit_108 (by decide) ?_
              exact ih_lp (m + 1) E (by omega) (by omega) hVn
            · skip
              have hbit := (tb_div v m).mp h_52
              have hbc := bl_clr n (by omega) v hv m h_42 hbit
              refine g_aload_n cx dX2_visit_55 rfl ?_
              refine g_iload cx dX2_visit_56 rfl ?_
              refine g_iload_n cx dX2_visit_58 rfl ?_
              refine g_aload_n cx dX2_visit_59 rfl ?_
              refine g_getIN (i := (14, 0)) (ci := 2) (k := 6) (v := nI ((vsL n k f dn dr i c9 v sp a od (F, O) m).1)) cx a14_0 rfl rfl rfl (by decide) inX2 lfX2_39 dX2_visit_60 (hV.2.1) ?_
              refine g_iload_n cx dX2_visit_63 rfl ?_
              refine g_isubN cx dX2_visit_64 (by omega) ?_
              refine g_iconst (v := nI 1) cx dX2_visit_65 (by decide) ?_
              refine g_isub cx dX2_visit_66 ?_
              refine g_callV (As := [vi (nI m), vi (nI 4), vi ((nI (((vsL n k f dn dr i c9 v sp a od (F, O) m).1) - sp)) - (nI 1))]) (rest := []) cx knX2_goTo (x_goTo4 (hV.1.X.P hP) (hV.1.A (by decide) (by decide) hA) (i := i) (r := m) (B := (vsL n k f dn dr i c9 v sp a od (F, O) m).1 - sp) (hV.2.2.1.trans hL) hi (by omega) (by omega)) a14_0 rfl rfl lmX2_57 niX2_goTo seX2_goTo rfl (by decide) (Nat.le_of_ble_eq_true rfl) rfl dX2_visit_67 (fun r0 E1 hp0 => ?_)
              obtain ⟨rfl, ⟨hF1, hG1⟩, hA1⟩ := hp0
              show Gk X mX2_visit idsA 70 [some (vr (14, 0)), some (vi (nI 4)), some (vi (nI v)), some (vi (nI sp)), some (vi (nI m)), none] [vi (opI (lmO (erG n k f dn dr i m a).1 ((vsL n k f dn dr i c9 v sp a od (F, O) m).1 - sp)))] E1
              refine g_istore (L' := [some (vr (14, 0)), some (vi (nI 4)), some (vi (nI v)), some (vi (nI sp)), some (vi (nI m)), some (vi (opI (lmO (erG n k f dn dr i m a).1 ((vsL n k f dn dr i c9 v sp a od (F, O) m).1 - sp))))]) cx dX2_visit_70 (by decide) rfl rfl ?_
              refine g_iload cx dX2_visit_72 rfl ?_
              refine g_iconst (v := (-1)) cx dX2_visit_74 (by decide) ?_
              refine g_icmp_eq (tgt := 105) cx dX2_visit_75 (by decide) (fun h_75 => ?_) (fun h_75 => ?_)
              · skip
                have hln := opI_n (m := 100) (by decide) (fun c hc => by have := erG_le (lmO_lt hc).2; omega) h_75
                have hVn : VP 4 cc D E1 (vsL n k f dn dr i c9 v sp a od (F, O) (m + 1)) := by rw [vs_none hbit hln]; exact hV.n hF1 hG1
                refine g_drop 5 (L' := [some (vr (14, 0)), some (vi (nI 4)), some (vi (nI v)), some (vi (nI sp)), some (vi (nI m)), none]) rfl ?_
                refine g_iincN (L' := [some (vr (14, 0)), some (vi (nI 4)), some (vi (nI v)), some (vi (nI sp)), some (vi (nI (m + 1))), none]) cx dX2_visit_105 rfl (by decide) rfl rfl ?_
                refine g_goto (tgt := 33) cx dX2_visit_108 (by decide) ?_
                exact ih_lp (m + 1) E1 (by omega) (by omega) hVn
              · skip
                obtain ⟨t9, ht9⟩ := opI_s h_75
                have ht92 := (lmO_lt ht9).1
                refine g_loc (L' := [some (vr (14, 0)), some (vi (nI 4)), some (vi (nI v)), some (vi (nI sp)), some (vi (nI m)), some (vi (nI t9))]) (by rw [ht9]; rfl) ?_
                refine g_aload_n cx dX2_visit_78 rfl ?_
                refine g_getR (i := (14, 0)) (ci := 2) (k := 3) (j := (16, 0)) cx a14_0 rfl rfl rfl (by decide) inX2 lfX2_17 dX2_visit_79 ?_
                refine g_iload_n cx dX2_visit_82 rfl ?_
                refine g_iload cx dX2_visit_83 rfl ?_
                refine g_iast (i := (16, 0)) (j := 4) cx a16_0 rfl (rfl) (by omega) (by decide) dX2_visit_85 ?_
                refine g_aload_n cx dX2_visit_86 rfl ?_
                refine g_iload_n cx dX2_visit_87 rfl ?_
                refine g_iconst (v := nI 1) cx dX2_visit_88 (by decide) ?_
                refine g_iaddN cx dX2_visit_89 ?_
                refine g_iload_n cx dX2_visit_90 rfl ?_
                refine g_iconst (v := nI 1) cx dX2_visit_91 (by decide) ?_
                refine g_iload cx dX2_visit_92 rfl ?_
                refine g_ishl cx dX2_visit_94 ?_
                refine g_top (nI_shl m (by omega)) ?_
                refine g_iconst (v := (-1)) cx dX2_visit_95 (by decide) ?_
                refine g_ixor cx dX2_visit_96 ?_
                refine g_iand cx dX2_visit_97 ?_
                refine g_top (nI_clr2 v hv8 m (by omega)) ?_
                refine g_iload_n cx dX2_visit_98 rfl ?_
                refine g_iload cx dX2_visit_99 rfl ?_
                refine g_iaddN cx dX2_visit_101 ?_
                refine g_callV (As := [vi (nI 5), vi (nI (clr v m)), vi (nI (sp + t9))]) (rest := []) cx knX2_visit (x_visit5 (TX.P (TX.up (hV.1.tr hF1).X (by decide)) hP) (a := (erG n k f dn dr i m a).2) (by intro j hj; rw [upA_n _ _ (by decide)]; exact hA1 t9 ht9 j hj) (i := i) (v := clr v m) (sp := sp + t9) (F := (vsL n k f dn dr i c9 v sp a od (F, O) m).1) (cr := c9) (cc := cc) (od := od ++ [m]) (O := (vsL n k f dn dr i c9 v sp a od (F, O) m).2) (by rw [upA_n _ _ (by decide), hG1 _ (Or.inl rfl)]; exact hV.2.2.1.trans hL) hi (by rw [upA_n _ _ (by decide), hG1 _ (Or.inl rfl)]; exact hV.2.1) (by omega) (by omega) hbc.2.1 (by rw [hbc.1]; omega) (by omega) hc5 (by simp [hol]) (od_s (D := D) hol (fun j hj => by rw [hG1 _ (Or.inr (Or.inl rfl)), hV.2.2.2.2 j hj]; exact hOr j hj)) (fun j hj => by rw [upA_n _ _ (by decide), hG1 _ (Or.inr (Or.inr rfl))]; exact hV.2.2.2.1 j hj)) a14_0 rfl rfl lmX2_61 niX2_visit seX2_visit rfl (by decide) (Nat.le_of_ble_eq_true rfl) rfl dX2_visit_102 (fun r0 E2 hp0 => ?_)
                obtain ⟨rfl, hV2⟩ := hp0
                show Gk X mX2_visit idsA 105 [some (vr (14, 0)), some (vi (nI 4)), some (vi (nI v)), some (vi (nI sp)), some (vi (nI m)), some (vi (nI t9))] [] E2
                have hVn : VP 4 cc D E2 (vsL n k f dn dr i c9 v sp a od (F, O) (m + 1)) := by
                  rw [vs_some hbit ht9, ← hbc.1]
                  exact hV.s hF1 hG1 hV2
                refine g_drop 5 (L' := [some (vr (14, 0)), some (vi (nI 4)), some (vi (nI v)), some (vi (nI sp)), some (vi (nI m)), none]) rfl ?_
                refine g_iincN (L' := [some (vr (14, 0)), some (vi (nI 4)), some (vi (nI v)), some (vi (nI sp)), some (vi (nI (m + 1))), none]) cx dX2_visit_105 rfl (by decide) rfl rfl ?_
                refine g_goto (tgt := 33) cx dX2_visit_108 (by decide) ?_
                exact ih_lp (m + 1) E2 (by omega) (by omega) hVn
      exact lp (n + 1) 0 D (by omega) (by omega) (by rw [vs_0]; exact VP.r hF9 hB)
    · skip
      exact absurd h_26 (by omega)
  · skip
    subst h_1
    rw [bl_z] at hcr
    have hc0 : cr = 0 := hcr.symm
    subst hc0
    have hcq := hcc.symm
    refine g_aload_n cx dX2_visit_4 rfl ?_
    refine g_iload_n cx dX2_visit_5 rfl ?_
    refine g_putI (i := (14, 0)) (ci := 2) (k := 6) cx a14_0 rfl rfl rfl (by decide) inX2 tyX2_ok nmX2 rfl rfl lfX2_39 dX2_visit_6 ?_
    refine g_aload_n cx dX2_visit_9 rfl ?_
    refine g_getR (i := (14, 0)) (ci := 2) (k := 3) (j := (16, 0)) cx a14_0 rfl rfl rfl (by decide) inX2 lfX2_17 dX2_visit_10 ?_
    refine g_iconst (v := nI 0) cx dX2_visit_13 (by decide) ?_
    refine g_aload_n cx dX2_visit_14 rfl ?_
    refine g_getR (i := (14, 0)) (ci := 2) (k := 4) (j := (17, 0)) cx a14_0 rfl rfl rfl (by decide) inX2 lfX2_21 dX2_visit_15 ?_
    refine g_iconst (v := nI 0) cx dX2_visit_18 (by decide) ?_
    refine g_iconst (v := nI 5) cx dX2_visit_19 (by decide) ?_
    refine g_copy (rest := []) (i := (16, 0)) (j := (17, 0)) (n := 5) cx a16_0 a17_0 rfl rfl rfl (by decide) (by decide) (by decide) (by decide) (by decide) lmX2_46 nnCopy nsCopy nzJ10 (Nat.le_of_ble_eq_true rfl) (by decide) dX2_visit_20 ?_
    exact g_vret cx rq rfl dX2_visit_23 ⟨rfl, by rw [show visW n k f dn dr i 0 (bl 0 n) sp a od (F, O) = (sp, od) from rfl, hcq]; exact VP.z (by decide) hOr⟩

set_option maxRecDepth 100000 in
set_option maxHeartbeats 4000000 in
theorem x_visit3 {D : Wd} {n : Nat} {k f : Nat → Nat} {dn : Nat} {dr : Nat → Nat} {pn : Nat} (hP : PX D 0 n k f dn dr pn) {a : Nat → Nat} (hA : AX D 8 n a) {i v sp F cr cc : Nat} {od O : List Nat} (hL : D (14, 0) 5 = nI i) (hi : i < n) (hF9 : D (14, 0) 6 = nI F) (hF3 : F ≤ 361) (hsp : sp ≤ F) (hv : v < 2 ^ n) (hcr : (bl v n).length = cr) (hcc : 3 + cr = cc) (hc5 : cc ≤ 5) (hol : od.length = 3) (hOr : ∀ j, j < 3 → D (16, 0) j = nI (od.getD j 0)) (hB : ∀ j, j < cc → D (17, 0) j = nI (O.getD j 0)) : Mok mX2_visit idsA 7 [vr (14, 0), vi (nI 3), vi (nI v), vi (nI sp)] D (fun r' E' => r' = none ∧ VP 3 cc D E' (visW n k f dn dr i cr (bl v n) sp a od (F, O))) := by
  obtain ⟨hn3, hn8, hN, hK, hF, hd3, hDn, hDr, hp5, hPn⟩ := id hP
  have hv8 : v < 256 := Nat.lt_of_lt_of_le hv (Nat.pow_le_pow_right (by decide) hn8 : 2 ^ n ≤ 2 ^ 8)
  have hbl := bl_len n (by omega) v hv
  refine Mok.of (L := [some (vr (14, 0)), some (vi (nI 3)), some (vi (nI v)), some (vi (nI sp)), none, none]) rfl (fun _ => Nat.le_of_ble_eq_true rfl) (fun _ => rfl) (fun X cx rq => ?_)
  refine g_iload_n cx dX2_visit_0 rfl ?_
  refine g_if_neN (tgt := 24) cx dX2_visit_1 (by decide) (by omega) (fun h_1 => ?_) (fun h_1 => ?_)
  · skip
    refine g_iload_n cx dX2_visit_24 rfl ?_
    refine g_iconst (v := nI 5) cx dX2_visit_25 (by decide) ?_
    refine g_icmp_ltN (tgt := 30) cx dX2_visit_26 (by decide) (by omega) (by omega) (fun h_26 => ?_) (fun h_26 => ?_)
    · skip
      obtain ⟨c9, rfl⟩ : ∃ c9, cr = c9 + 1 := ⟨cr - 1, by have := hbl.2.2 h_1; omega⟩
      refine g_iconst (v := nI 0) cx dX2_visit_30 (by decide) ?_
      refine g_istore (L' := [some (vr (14, 0)), some (vi (nI 3)), some (vi (nI v)), some (vi (nI sp)), some (vi (nI 0)), none]) cx dX2_visit_31 (by decide) rfl rfl ?_
      have lp : ∀ (fu : Nat) (m : Nat) (E : Wd), n - m < fu → (m ≤ n) → (VP 3 cc D E (vsL n k f dn dr i c9 v sp a od (F, O) m)) → Gk X mX2_visit idsA 33 [some (vr (14, 0)), some (vi (nI 3)), some (vi (nI v)), some (vi (nI sp)), some (vi (nI m)), none] [] E := by
        intro fu
        induction fu with
        | zero => intro m E hfu; exact absurd hfu (Nat.not_lt_zero _)
        | succ fu ih_lp =>
          intro m E hfu hm hV
          have hbd : sp ≤ (vsL n k f dn dr i c9 v sp a od (F, O) m).1 ∧ (vsL n k f dn dr i c9 v sp a od (F, O) m).1 ≤ F := vst_bd (bl v m) (F, O) hsp
          refine g_iload cx dX2_visit_33 rfl ?_
          refine g_aload_n cx dX2_visit_35 rfl ?_
          refine g_getR (i := (14, 0)) (ci := 2) (k := 0) (j := (1, 0)) cx a14_0 rfl rfl rfl (by decide) inX2 lfX2_24 dX2_visit_36 ?_
          refine g_getIN (i := (1, 0)) (ci := 1) (k := 0) (v := nI n) cx a1_0 rfl rfl rfl (by decide) inX1 lfX2_52 dX2_visit_39 ((congrFun (hV.1.X _ rfl) 0).trans hN) ?_
          refine g_icmp_geN (tgt := 111) cx dX2_visit_42 (by decide) (by omega) (by omega) (fun h_42 => ?_) (fun h_42 => ?_)
          · skip
            have e9 : m = n := by omega
            exact g_vret cx rq rfl dX2_visit_111 ⟨rfl, by rw [visW_s]; have h9 := hV; rw [e9] at h9; exact h9⟩
          · skip
            refine g_iload_n cx dX2_visit_45 rfl ?_
            refine g_iload cx dX2_visit_46 rfl ?_
            refine g_ishr cx dX2_visit_48 ?_
            refine g_iconst (v := nI 1) cx dX2_visit_49 (by decide) ?_
            refine g_iand cx dX2_visit_50 ?_
            refine g_top (nI_bit v hv8 m (by omega)) ?_
            refine g_iconst (v := nI 1) cx dX2_visit_51 (by decide) ?_
            have h2m : v / 2 ^ m % 2 < 2 := Nat.mod_lt _ (by decide)
            refine g_icmp_neN (tgt := 105) cx dX2_visit_52 (by decide) (by omega) (by omega) (fun h_52 => ?_) (fun h_52 => ?_)
            · skip
              have hVn : VP 3 cc D E (vsL n k f dn dr i c9 v sp a od (F, O) (m + 1)) := by rw [vs_nb (fun z => h_52 ((tb_div v m).mpr z))]; exact hV
              refine g_iincN (L' := [some (vr (14, 0)), some (vi (nI 3)), some (vi (nI v)), some (vi (nI sp)), some (vi (nI (m + 1))), none]) cx dX2_visit_105 rfl (by decide) rfl rfl ?_
              refine g_goto (tgt := 33) cx dX2_visit_108 (by decide) ?_
              exact ih_lp (m + 1) E (by omega) (by omega) hVn
            · skip
              have hbit := (tb_div v m).mp h_52
              have hbc := bl_clr n (by omega) v hv m h_42 hbit
              refine g_aload_n cx dX2_visit_55 rfl ?_
              refine g_iload cx dX2_visit_56 rfl ?_
              refine g_iload_n cx dX2_visit_58 rfl ?_
              refine g_aload_n cx dX2_visit_59 rfl ?_
              refine g_getIN (i := (14, 0)) (ci := 2) (k := 6) (v := nI ((vsL n k f dn dr i c9 v sp a od (F, O) m).1)) cx a14_0 rfl rfl rfl (by decide) inX2 lfX2_39 dX2_visit_60 (hV.2.1) ?_
              refine g_iload_n cx dX2_visit_63 rfl ?_
              refine g_isubN cx dX2_visit_64 (by omega) ?_
              refine g_iconst (v := nI 1) cx dX2_visit_65 (by decide) ?_
              refine g_isub cx dX2_visit_66 ?_
              refine g_callV (As := [vi (nI m), vi (nI 3), vi ((nI (((vsL n k f dn dr i c9 v sp a od (F, O) m).1) - sp)) - (nI 1))]) (rest := []) cx knX2_goTo (x_goTo3 (hV.1.X.P hP) (hV.1.A (by decide) (by decide) hA) (i := i) (r := m) (B := (vsL n k f dn dr i c9 v sp a od (F, O) m).1 - sp) (hV.2.2.1.trans hL) hi (by omega) (by omega)) a14_0 rfl rfl lmX2_57 niX2_goTo seX2_goTo rfl (by decide) (Nat.le_of_ble_eq_true rfl) rfl dX2_visit_67 (fun r0 E1 hp0 => ?_)
              obtain ⟨rfl, ⟨hF1, hG1⟩, hA1⟩ := hp0
              show Gk X mX2_visit idsA 70 [some (vr (14, 0)), some (vi (nI 3)), some (vi (nI v)), some (vi (nI sp)), some (vi (nI m)), none] [vi (opI (lmO (erG n k f dn dr i m a).1 ((vsL n k f dn dr i c9 v sp a od (F, O) m).1 - sp)))] E1
              refine g_istore (L' := [some (vr (14, 0)), some (vi (nI 3)), some (vi (nI v)), some (vi (nI sp)), some (vi (nI m)), some (vi (opI (lmO (erG n k f dn dr i m a).1 ((vsL n k f dn dr i c9 v sp a od (F, O) m).1 - sp))))]) cx dX2_visit_70 (by decide) rfl rfl ?_
              refine g_iload cx dX2_visit_72 rfl ?_
              refine g_iconst (v := (-1)) cx dX2_visit_74 (by decide) ?_
              refine g_icmp_eq (tgt := 105) cx dX2_visit_75 (by decide) (fun h_75 => ?_) (fun h_75 => ?_)
              · skip
                have hln := opI_n (m := 100) (by decide) (fun c hc => by have := erG_le (lmO_lt hc).2; omega) h_75
                have hVn : VP 3 cc D E1 (vsL n k f dn dr i c9 v sp a od (F, O) (m + 1)) := by rw [vs_none hbit hln]; exact hV.n hF1 hG1
                refine g_drop 5 (L' := [some (vr (14, 0)), some (vi (nI 3)), some (vi (nI v)), some (vi (nI sp)), some (vi (nI m)), none]) rfl ?_
                refine g_iincN (L' := [some (vr (14, 0)), some (vi (nI 3)), some (vi (nI v)), some (vi (nI sp)), some (vi (nI (m + 1))), none]) cx dX2_visit_105 rfl (by decide) rfl rfl ?_
                refine g_goto (tgt := 33) cx dX2_visit_108 (by decide) ?_
                exact ih_lp (m + 1) E1 (by omega) (by omega) hVn
              · skip
                obtain ⟨t9, ht9⟩ := opI_s h_75
                have ht92 := (lmO_lt ht9).1
                refine g_loc (L' := [some (vr (14, 0)), some (vi (nI 3)), some (vi (nI v)), some (vi (nI sp)), some (vi (nI m)), some (vi (nI t9))]) (by rw [ht9]; rfl) ?_
                refine g_aload_n cx dX2_visit_78 rfl ?_
                refine g_getR (i := (14, 0)) (ci := 2) (k := 3) (j := (16, 0)) cx a14_0 rfl rfl rfl (by decide) inX2 lfX2_17 dX2_visit_79 ?_
                refine g_iload_n cx dX2_visit_82 rfl ?_
                refine g_iload cx dX2_visit_83 rfl ?_
                refine g_iast (i := (16, 0)) (j := 3) cx a16_0 rfl (rfl) (by omega) (by decide) dX2_visit_85 ?_
                refine g_aload_n cx dX2_visit_86 rfl ?_
                refine g_iload_n cx dX2_visit_87 rfl ?_
                refine g_iconst (v := nI 1) cx dX2_visit_88 (by decide) ?_
                refine g_iaddN cx dX2_visit_89 ?_
                refine g_iload_n cx dX2_visit_90 rfl ?_
                refine g_iconst (v := nI 1) cx dX2_visit_91 (by decide) ?_
                refine g_iload cx dX2_visit_92 rfl ?_
                refine g_ishl cx dX2_visit_94 ?_
                refine g_top (nI_shl m (by omega)) ?_
                refine g_iconst (v := (-1)) cx dX2_visit_95 (by decide) ?_
                refine g_ixor cx dX2_visit_96 ?_
                refine g_iand cx dX2_visit_97 ?_
                refine g_top (nI_clr2 v hv8 m (by omega)) ?_
                refine g_iload_n cx dX2_visit_98 rfl ?_
                refine g_iload cx dX2_visit_99 rfl ?_
                refine g_iaddN cx dX2_visit_101 ?_
                refine g_callV (As := [vi (nI 4), vi (nI (clr v m)), vi (nI (sp + t9))]) (rest := []) cx knX2_visit (x_visit4 (TX.P (TX.up (hV.1.tr hF1).X (by decide)) hP) (a := (erG n k f dn dr i m a).2) (by intro j hj; rw [upA_n _ _ (by decide)]; exact hA1 t9 ht9 j hj) (i := i) (v := clr v m) (sp := sp + t9) (F := (vsL n k f dn dr i c9 v sp a od (F, O) m).1) (cr := c9) (cc := cc) (od := od ++ [m]) (O := (vsL n k f dn dr i c9 v sp a od (F, O) m).2) (by rw [upA_n _ _ (by decide), hG1 _ (Or.inl rfl)]; exact hV.2.2.1.trans hL) hi (by rw [upA_n _ _ (by decide), hG1 _ (Or.inl rfl)]; exact hV.2.1) (by omega) (by omega) hbc.2.1 (by rw [hbc.1]; omega) (by omega) hc5 (by simp [hol]) (od_s (D := D) hol (fun j hj => by rw [hG1 _ (Or.inr (Or.inl rfl)), hV.2.2.2.2 j hj]; exact hOr j hj)) (fun j hj => by rw [upA_n _ _ (by decide), hG1 _ (Or.inr (Or.inr rfl))]; exact hV.2.2.2.1 j hj)) a14_0 rfl rfl lmX2_61 niX2_visit seX2_visit rfl (by decide) (Nat.le_of_ble_eq_true rfl) rfl dX2_visit_102 (fun r0 E2 hp0 => ?_)
                obtain ⟨rfl, hV2⟩ := hp0
                show Gk X mX2_visit idsA 105 [some (vr (14, 0)), some (vi (nI 3)), some (vi (nI v)), some (vi (nI sp)), some (vi (nI m)), some (vi (nI t9))] [] E2
                have hVn : VP 3 cc D E2 (vsL n k f dn dr i c9 v sp a od (F, O) (m + 1)) := by
                  rw [vs_some hbit ht9, ← hbc.1]
                  exact hV.s hF1 hG1 hV2
                refine g_drop 5 (L' := [some (vr (14, 0)), some (vi (nI 3)), some (vi (nI v)), some (vi (nI sp)), some (vi (nI m)), none]) rfl ?_
                refine g_iincN (L' := [some (vr (14, 0)), some (vi (nI 3)), some (vi (nI v)), some (vi (nI sp)), some (vi (nI (m + 1))), none]) cx dX2_visit_105 rfl (by decide) rfl rfl ?_
                refine g_goto (tgt := 33) cx dX2_visit_108 (by decide) ?_
                exact ih_lp (m + 1) E2 (by omega) (by omega) hVn
      exact lp (n + 1) 0 D (by omega) (by omega) (by rw [vs_0]; exact VP.r hF9 hB)
    · skip
      exact absurd h_26 (by omega)
  · skip
    subst h_1
    rw [bl_z] at hcr
    have hc0 : cr = 0 := hcr.symm
    subst hc0
    have hcq := hcc.symm
    refine g_aload_n cx dX2_visit_4 rfl ?_
    refine g_iload_n cx dX2_visit_5 rfl ?_
    refine g_putI (i := (14, 0)) (ci := 2) (k := 6) cx a14_0 rfl rfl rfl (by decide) inX2 tyX2_ok nmX2 rfl rfl lfX2_39 dX2_visit_6 ?_
    refine g_aload_n cx dX2_visit_9 rfl ?_
    refine g_getR (i := (14, 0)) (ci := 2) (k := 3) (j := (16, 0)) cx a14_0 rfl rfl rfl (by decide) inX2 lfX2_17 dX2_visit_10 ?_
    refine g_iconst (v := nI 0) cx dX2_visit_13 (by decide) ?_
    refine g_aload_n cx dX2_visit_14 rfl ?_
    refine g_getR (i := (14, 0)) (ci := 2) (k := 4) (j := (17, 0)) cx a14_0 rfl rfl rfl (by decide) inX2 lfX2_21 dX2_visit_15 ?_
    refine g_iconst (v := nI 0) cx dX2_visit_18 (by decide) ?_
    refine g_iconst (v := nI 5) cx dX2_visit_19 (by decide) ?_
    refine g_copy (rest := []) (i := (16, 0)) (j := (17, 0)) (n := 5) cx a16_0 a17_0 rfl rfl rfl (by decide) (by decide) (by decide) (by decide) (by decide) lmX2_46 nnCopy nsCopy nzJ10 (Nat.le_of_ble_eq_true rfl) (by decide) dX2_visit_20 ?_
    exact g_vret cx rq rfl dX2_visit_23 ⟨rfl, by rw [show visW n k f dn dr i 0 (bl 0 n) sp a od (F, O) = (sp, od) from rfl, hcq]; exact VP.z (by decide) hOr⟩

set_option maxRecDepth 100000 in
set_option maxHeartbeats 4000000 in
theorem x_visit2 {D : Wd} {n : Nat} {k f : Nat → Nat} {dn : Nat} {dr : Nat → Nat} {pn : Nat} (hP : PX D 0 n k f dn dr pn) {a : Nat → Nat} (hA : AX D 7 n a) {i v sp F cr cc : Nat} {od O : List Nat} (hL : D (14, 0) 5 = nI i) (hi : i < n) (hF9 : D (14, 0) 6 = nI F) (hF3 : F ≤ 361) (hsp : sp ≤ F) (hv : v < 2 ^ n) (hcr : (bl v n).length = cr) (hcc : 2 + cr = cc) (hc5 : cc ≤ 5) (hol : od.length = 2) (hOr : ∀ j, j < 2 → D (16, 0) j = nI (od.getD j 0)) (hB : ∀ j, j < cc → D (17, 0) j = nI (O.getD j 0)) : Mok mX2_visit idsA 8 [vr (14, 0), vi (nI 2), vi (nI v), vi (nI sp)] D (fun r' E' => r' = none ∧ VP 2 cc D E' (visW n k f dn dr i cr (bl v n) sp a od (F, O))) := by
  obtain ⟨hn3, hn8, hN, hK, hF, hd3, hDn, hDr, hp5, hPn⟩ := id hP
  have hv8 : v < 256 := Nat.lt_of_lt_of_le hv (Nat.pow_le_pow_right (by decide) hn8 : 2 ^ n ≤ 2 ^ 8)
  have hbl := bl_len n (by omega) v hv
  refine Mok.of (L := [some (vr (14, 0)), some (vi (nI 2)), some (vi (nI v)), some (vi (nI sp)), none, none]) rfl (fun _ => Nat.le_of_ble_eq_true rfl) (fun _ => rfl) (fun X cx rq => ?_)
  refine g_iload_n cx dX2_visit_0 rfl ?_
  refine g_if_neN (tgt := 24) cx dX2_visit_1 (by decide) (by omega) (fun h_1 => ?_) (fun h_1 => ?_)
  · skip
    refine g_iload_n cx dX2_visit_24 rfl ?_
    refine g_iconst (v := nI 5) cx dX2_visit_25 (by decide) ?_
    refine g_icmp_ltN (tgt := 30) cx dX2_visit_26 (by decide) (by omega) (by omega) (fun h_26 => ?_) (fun h_26 => ?_)
    · skip
      obtain ⟨c9, rfl⟩ : ∃ c9, cr = c9 + 1 := ⟨cr - 1, by have := hbl.2.2 h_1; omega⟩
      refine g_iconst (v := nI 0) cx dX2_visit_30 (by decide) ?_
      refine g_istore (L' := [some (vr (14, 0)), some (vi (nI 2)), some (vi (nI v)), some (vi (nI sp)), some (vi (nI 0)), none]) cx dX2_visit_31 (by decide) rfl rfl ?_
      have lp : ∀ (fu : Nat) (m : Nat) (E : Wd), n - m < fu → (m ≤ n) → (VP 2 cc D E (vsL n k f dn dr i c9 v sp a od (F, O) m)) → Gk X mX2_visit idsA 33 [some (vr (14, 0)), some (vi (nI 2)), some (vi (nI v)), some (vi (nI sp)), some (vi (nI m)), none] [] E := by
        intro fu
        induction fu with
        | zero => intro m E hfu; exact absurd hfu (Nat.not_lt_zero _)
        | succ fu ih_lp =>
          intro m E hfu hm hV
          have hbd : sp ≤ (vsL n k f dn dr i c9 v sp a od (F, O) m).1 ∧ (vsL n k f dn dr i c9 v sp a od (F, O) m).1 ≤ F := vst_bd (bl v m) (F, O) hsp
          refine g_iload cx dX2_visit_33 rfl ?_
          refine g_aload_n cx dX2_visit_35 rfl ?_
          refine g_getR (i := (14, 0)) (ci := 2) (k := 0) (j := (1, 0)) cx a14_0 rfl rfl rfl (by decide) inX2 lfX2_24 dX2_visit_36 ?_
          refine g_getIN (i := (1, 0)) (ci := 1) (k := 0) (v := nI n) cx a1_0 rfl rfl rfl (by decide) inX1 lfX2_52 dX2_visit_39 ((congrFun (hV.1.X _ rfl) 0).trans hN) ?_
          refine g_icmp_geN (tgt := 111) cx dX2_visit_42 (by decide) (by omega) (by omega) (fun h_42 => ?_) (fun h_42 => ?_)
          · skip
            have e9 : m = n := by omega
            exact g_vret cx rq rfl dX2_visit_111 ⟨rfl, by rw [visW_s]; have h9 := hV; rw [e9] at h9; exact h9⟩
          · skip
            refine g_iload_n cx dX2_visit_45 rfl ?_
            refine g_iload cx dX2_visit_46 rfl ?_
            refine g_ishr cx dX2_visit_48 ?_
            refine g_iconst (v := nI 1) cx dX2_visit_49 (by decide) ?_
            refine g_iand cx dX2_visit_50 ?_
            refine g_top (nI_bit v hv8 m (by omega)) ?_
            refine g_iconst (v := nI 1) cx dX2_visit_51 (by decide) ?_
            have h2m : v / 2 ^ m % 2 < 2 := Nat.mod_lt _ (by decide)
            refine g_icmp_neN (tgt := 105) cx dX2_visit_52 (by decide) (by omega) (by omega) (fun h_52 => ?_) (fun h_52 => ?_)
            · skip
              have hVn : VP 2 cc D E (vsL n k f dn dr i c9 v sp a od (F, O) (m + 1)) := by rw [vs_nb (fun z => h_52 ((tb_div v m).mpr z))]; exact hV
              refine g_iincN (L' := [some (vr (14, 0)), some (vi (nI 2)), some (vi (nI v)), some (vi (nI sp)), some (vi (nI (m + 1))), none]) cx dX2_visit_105 rfl (by decide) rfl rfl ?_
              refine g_goto (tgt := 33) cx dX2_visit_108 (by decide) ?_
              exact ih_lp (m + 1) E (by omega) (by omega) hVn
            · skip
              have hbit := (tb_div v m).mp h_52
              have hbc := bl_clr n (by omega) v hv m h_42 hbit
              refine g_aload_n cx dX2_visit_55 rfl ?_
              refine g_iload cx dX2_visit_56 rfl ?_
              refine g_iload_n cx dX2_visit_58 rfl ?_
              refine g_aload_n cx dX2_visit_59 rfl ?_
              refine g_getIN (i := (14, 0)) (ci := 2) (k := 6) (v := nI ((vsL n k f dn dr i c9 v sp a od (F, O) m).1)) cx a14_0 rfl rfl rfl (by decide) inX2 lfX2_39 dX2_visit_60 (hV.2.1) ?_
              refine g_iload_n cx dX2_visit_63 rfl ?_
              refine g_isubN cx dX2_visit_64 (by omega) ?_
              refine g_iconst (v := nI 1) cx dX2_visit_65 (by decide) ?_
              refine g_isub cx dX2_visit_66 ?_
              refine g_callV (As := [vi (nI m), vi (nI 2), vi ((nI (((vsL n k f dn dr i c9 v sp a od (F, O) m).1) - sp)) - (nI 1))]) (rest := []) cx knX2_goTo (x_goTo2 (hV.1.X.P hP) (hV.1.A (by decide) (by decide) hA) (i := i) (r := m) (B := (vsL n k f dn dr i c9 v sp a od (F, O) m).1 - sp) (hV.2.2.1.trans hL) hi (by omega) (by omega)) a14_0 rfl rfl lmX2_57 niX2_goTo seX2_goTo rfl (by decide) (Nat.le_of_ble_eq_true rfl) rfl dX2_visit_67 (fun r0 E1 hp0 => ?_)
              obtain ⟨rfl, ⟨hF1, hG1⟩, hA1⟩ := hp0
              show Gk X mX2_visit idsA 70 [some (vr (14, 0)), some (vi (nI 2)), some (vi (nI v)), some (vi (nI sp)), some (vi (nI m)), none] [vi (opI (lmO (erG n k f dn dr i m a).1 ((vsL n k f dn dr i c9 v sp a od (F, O) m).1 - sp)))] E1
              refine g_istore (L' := [some (vr (14, 0)), some (vi (nI 2)), some (vi (nI v)), some (vi (nI sp)), some (vi (nI m)), some (vi (opI (lmO (erG n k f dn dr i m a).1 ((vsL n k f dn dr i c9 v sp a od (F, O) m).1 - sp))))]) cx dX2_visit_70 (by decide) rfl rfl ?_
              refine g_iload cx dX2_visit_72 rfl ?_
              refine g_iconst (v := (-1)) cx dX2_visit_74 (by decide) ?_
              refine g_icmp_eq (tgt := 105) cx dX2_visit_75 (by decide) (fun h_75 => ?_) (fun h_75 => ?_)
              · skip
                have hln := opI_n (m := 100) (by decide) (fun c hc => by have := erG_le (lmO_lt hc).2; omega) h_75
                have hVn : VP 2 cc D E1 (vsL n k f dn dr i c9 v sp a od (F, O) (m + 1)) := by rw [vs_none hbit hln]; exact hV.n hF1 hG1
                refine g_drop 5 (L' := [some (vr (14, 0)), some (vi (nI 2)), some (vi (nI v)), some (vi (nI sp)), some (vi (nI m)), none]) rfl ?_
                refine g_iincN (L' := [some (vr (14, 0)), some (vi (nI 2)), some (vi (nI v)), some (vi (nI sp)), some (vi (nI (m + 1))), none]) cx dX2_visit_105 rfl (by decide) rfl rfl ?_
                refine g_goto (tgt := 33) cx dX2_visit_108 (by decide) ?_
                exact ih_lp (m + 1) E1 (by omega) (by omega) hVn
              · skip
                obtain ⟨t9, ht9⟩ := opI_s h_75
                have ht92 := (lmO_lt ht9).1
                refine g_loc (L' := [some (vr (14, 0)), some (vi (nI 2)), some (vi (nI v)), some (vi (nI sp)), some (vi (nI m)), some (vi (nI t9))]) (by rw [ht9]; rfl) ?_
                refine g_aload_n cx dX2_visit_78 rfl ?_
                refine g_getR (i := (14, 0)) (ci := 2) (k := 3) (j := (16, 0)) cx a14_0 rfl rfl rfl (by decide) inX2 lfX2_17 dX2_visit_79 ?_
                refine g_iload_n cx dX2_visit_82 rfl ?_
                refine g_iload cx dX2_visit_83 rfl ?_
                refine g_iast (i := (16, 0)) (j := 2) cx a16_0 rfl (rfl) (by omega) (by decide) dX2_visit_85 ?_
                refine g_aload_n cx dX2_visit_86 rfl ?_
                refine g_iload_n cx dX2_visit_87 rfl ?_
                refine g_iconst (v := nI 1) cx dX2_visit_88 (by decide) ?_
                refine g_iaddN cx dX2_visit_89 ?_
                refine g_iload_n cx dX2_visit_90 rfl ?_
                refine g_iconst (v := nI 1) cx dX2_visit_91 (by decide) ?_
                refine g_iload cx dX2_visit_92 rfl ?_
                refine g_ishl cx dX2_visit_94 ?_
                refine g_top (nI_shl m (by omega)) ?_
                refine g_iconst (v := (-1)) cx dX2_visit_95 (by decide) ?_
                refine g_ixor cx dX2_visit_96 ?_
                refine g_iand cx dX2_visit_97 ?_
                refine g_top (nI_clr2 v hv8 m (by omega)) ?_
                refine g_iload_n cx dX2_visit_98 rfl ?_
                refine g_iload cx dX2_visit_99 rfl ?_
                refine g_iaddN cx dX2_visit_101 ?_
                refine g_callV (As := [vi (nI 3), vi (nI (clr v m)), vi (nI (sp + t9))]) (rest := []) cx knX2_visit (x_visit3 (TX.P (TX.up (hV.1.tr hF1).X (by decide)) hP) (a := (erG n k f dn dr i m a).2) (by intro j hj; rw [upA_n _ _ (by decide)]; exact hA1 t9 ht9 j hj) (i := i) (v := clr v m) (sp := sp + t9) (F := (vsL n k f dn dr i c9 v sp a od (F, O) m).1) (cr := c9) (cc := cc) (od := od ++ [m]) (O := (vsL n k f dn dr i c9 v sp a od (F, O) m).2) (by rw [upA_n _ _ (by decide), hG1 _ (Or.inl rfl)]; exact hV.2.2.1.trans hL) hi (by rw [upA_n _ _ (by decide), hG1 _ (Or.inl rfl)]; exact hV.2.1) (by omega) (by omega) hbc.2.1 (by rw [hbc.1]; omega) (by omega) hc5 (by simp [hol]) (od_s (D := D) hol (fun j hj => by rw [hG1 _ (Or.inr (Or.inl rfl)), hV.2.2.2.2 j hj]; exact hOr j hj)) (fun j hj => by rw [upA_n _ _ (by decide), hG1 _ (Or.inr (Or.inr rfl))]; exact hV.2.2.2.1 j hj)) a14_0 rfl rfl lmX2_61 niX2_visit seX2_visit rfl (by decide) (Nat.le_of_ble_eq_true rfl) rfl dX2_visit_102 (fun r0 E2 hp0 => ?_)
                obtain ⟨rfl, hV2⟩ := hp0
                show Gk X mX2_visit idsA 105 [some (vr (14, 0)), some (vi (nI 2)), some (vi (nI v)), some (vi (nI sp)), some (vi (nI m)), some (vi (nI t9))] [] E2
                have hVn : VP 2 cc D E2 (vsL n k f dn dr i c9 v sp a od (F, O) (m + 1)) := by
                  rw [vs_some hbit ht9, ← hbc.1]
                  exact hV.s hF1 hG1 hV2
                refine g_drop 5 (L' := [some (vr (14, 0)), some (vi (nI 2)), some (vi (nI v)), some (vi (nI sp)), some (vi (nI m)), none]) rfl ?_
                refine g_iincN (L' := [some (vr (14, 0)), some (vi (nI 2)), some (vi (nI v)), some (vi (nI sp)), some (vi (nI (m + 1))), none]) cx dX2_visit_105 rfl (by decide) rfl rfl ?_
                refine g_goto (tgt := 33) cx dX2_visit_108 (by decide) ?_
                exact ih_lp (m + 1) E2 (by omega) (by omega) hVn
      exact lp (n + 1) 0 D (by omega) (by omega) (by rw [vs_0]; exact VP.r hF9 hB)
    · skip
      exact absurd h_26 (by omega)
  · skip
    subst h_1
    rw [bl_z] at hcr
    have hc0 : cr = 0 := hcr.symm
    subst hc0
    have hcq := hcc.symm
    refine g_aload_n cx dX2_visit_4 rfl ?_
    refine g_iload_n cx dX2_visit_5 rfl ?_
    refine g_putI (i := (14, 0)) (ci := 2) (k := 6) cx a14_0 rfl rfl rfl (by decide) inX2 tyX2_ok nmX2 rfl rfl lfX2_39 dX2_visit_6 ?_
    refine g_aload_n cx dX2_visit_9 rfl ?_
    refine g_getR (i := (14, 0)) (ci := 2) (k := 3) (j := (16, 0)) cx a14_0 rfl rfl rfl (by decide) inX2 lfX2_17 dX2_visit_10 ?_
    refine g_iconst (v := nI 0) cx dX2_visit_13 (by decide) ?_
    refine g_aload_n cx dX2_visit_14 rfl ?_
    refine g_getR (i := (14, 0)) (ci := 2) (k := 4) (j := (17, 0)) cx a14_0 rfl rfl rfl (by decide) inX2 lfX2_21 dX2_visit_15 ?_
    refine g_iconst (v := nI 0) cx dX2_visit_18 (by decide) ?_
    refine g_iconst (v := nI 5) cx dX2_visit_19 (by decide) ?_
    refine g_copy (rest := []) (i := (16, 0)) (j := (17, 0)) (n := 5) cx a16_0 a17_0 rfl rfl rfl (by decide) (by decide) (by decide) (by decide) (by decide) lmX2_46 nnCopy nsCopy nzJ10 (Nat.le_of_ble_eq_true rfl) (by decide) dX2_visit_20 ?_
    exact g_vret cx rq rfl dX2_visit_23 ⟨rfl, by rw [show visW n k f dn dr i 0 (bl 0 n) sp a od (F, O) = (sp, od) from rfl, hcq]; exact VP.z (by decide) hOr⟩

set_option maxRecDepth 100000 in
set_option maxHeartbeats 4000000 in
theorem x_visit1 {D : Wd} {n : Nat} {k f : Nat → Nat} {dn : Nat} {dr : Nat → Nat} {pn : Nat} (hP : PX D 0 n k f dn dr pn) {a : Nat → Nat} (hA : AX D 6 n a) {i v sp F cr cc : Nat} {od O : List Nat} (hL : D (14, 0) 5 = nI i) (hi : i < n) (hF9 : D (14, 0) 6 = nI F) (hF3 : F ≤ 361) (hsp : sp ≤ F) (hv : v < 2 ^ n) (hcr : (bl v n).length = cr) (hcc : 1 + cr = cc) (hc5 : cc ≤ 5) (hol : od.length = 1) (hOr : ∀ j, j < 1 → D (16, 0) j = nI (od.getD j 0)) (hB : ∀ j, j < cc → D (17, 0) j = nI (O.getD j 0)) : Mok mX2_visit idsA 9 [vr (14, 0), vi (nI 1), vi (nI v), vi (nI sp)] D (fun r' E' => r' = none ∧ VP 1 cc D E' (visW n k f dn dr i cr (bl v n) sp a od (F, O))) := by
  obtain ⟨hn3, hn8, hN, hK, hF, hd3, hDn, hDr, hp5, hPn⟩ := id hP
  have hv8 : v < 256 := Nat.lt_of_lt_of_le hv (Nat.pow_le_pow_right (by decide) hn8 : 2 ^ n ≤ 2 ^ 8)
  have hbl := bl_len n (by omega) v hv
  refine Mok.of (L := [some (vr (14, 0)), some (vi (nI 1)), some (vi (nI v)), some (vi (nI sp)), none, none]) rfl (fun _ => Nat.le_of_ble_eq_true rfl) (fun _ => rfl) (fun X cx rq => ?_)
  refine g_iload_n cx dX2_visit_0 rfl ?_
  refine g_if_neN (tgt := 24) cx dX2_visit_1 (by decide) (by omega) (fun h_1 => ?_) (fun h_1 => ?_)
  · skip
    refine g_iload_n cx dX2_visit_24 rfl ?_
    refine g_iconst (v := nI 5) cx dX2_visit_25 (by decide) ?_
    refine g_icmp_ltN (tgt := 30) cx dX2_visit_26 (by decide) (by omega) (by omega) (fun h_26 => ?_) (fun h_26 => ?_)
    · skip
      obtain ⟨c9, rfl⟩ : ∃ c9, cr = c9 + 1 := ⟨cr - 1, by have := hbl.2.2 h_1; omega⟩
      refine g_iconst (v := nI 0) cx dX2_visit_30 (by decide) ?_
      refine g_istore (L' := [some (vr (14, 0)), some (vi (nI 1)), some (vi (nI v)), some (vi (nI sp)), some (vi (nI 0)), none]) cx dX2_visit_31 (by decide) rfl rfl ?_
      have lp : ∀ (fu : Nat) (m : Nat) (E : Wd), n - m < fu → (m ≤ n) → (VP 1 cc D E (vsL n k f dn dr i c9 v sp a od (F, O) m)) → Gk X mX2_visit idsA 33 [some (vr (14, 0)), some (vi (nI 1)), some (vi (nI v)), some (vi (nI sp)), some (vi (nI m)), none] [] E := by
        intro fu
        induction fu with
        | zero => intro m E hfu; exact absurd hfu (Nat.not_lt_zero _)
        | succ fu ih_lp =>
          intro m E hfu hm hV
          have hbd : sp ≤ (vsL n k f dn dr i c9 v sp a od (F, O) m).1 ∧ (vsL n k f dn dr i c9 v sp a od (F, O) m).1 ≤ F := vst_bd (bl v m) (F, O) hsp
          refine g_iload cx dX2_visit_33 rfl ?_
          refine g_aload_n cx dX2_visit_35 rfl ?_
          refine g_getR (i := (14, 0)) (ci := 2) (k := 0) (j := (1, 0)) cx a14_0 rfl rfl rfl (by decide) inX2 lfX2_24 dX2_visit_36 ?_
          refine g_getIN (i := (1, 0)) (ci := 1) (k := 0) (v := nI n) cx a1_0 rfl rfl rfl (by decide) inX1 lfX2_52 dX2_visit_39 ((congrFun (hV.1.X _ rfl) 0).trans hN) ?_
          refine g_icmp_geN (tgt := 111) cx dX2_visit_42 (by decide) (by omega) (by omega) (fun h_42 => ?_) (fun h_42 => ?_)
          · skip
            have e9 : m = n := by omega
            exact g_vret cx rq rfl dX2_visit_111 ⟨rfl, by rw [visW_s]; have h9 := hV; rw [e9] at h9; exact h9⟩
          · skip
            refine g_iload_n cx dX2_visit_45 rfl ?_
            refine g_iload cx dX2_visit_46 rfl ?_
            refine g_ishr cx dX2_visit_48 ?_
            refine g_iconst (v := nI 1) cx dX2_visit_49 (by decide) ?_
            refine g_iand cx dX2_visit_50 ?_
            refine g_top (nI_bit v hv8 m (by omega)) ?_
            refine g_iconst (v := nI 1) cx dX2_visit_51 (by decide) ?_
            have h2m : v / 2 ^ m % 2 < 2 := Nat.mod_lt _ (by decide)
            refine g_icmp_neN (tgt := 105) cx dX2_visit_52 (by decide) (by omega) (by omega) (fun h_52 => ?_) (fun h_52 => ?_)
            · skip
              have hVn : VP 1 cc D E (vsL n k f dn dr i c9 v sp a od (F, O) (m + 1)) := by rw [vs_nb (fun z => h_52 ((tb_div v m).mpr z))]; exact hV
              refine g_iincN (L' := [some (vr (14, 0)), some (vi (nI 1)), some (vi (nI v)), some (vi (nI sp)), some (vi (nI (m + 1))), none]) cx dX2_visit_105 rfl (by decide) rfl rfl ?_
              refine g_goto (tgt := 33) cx dX2_visit_108 (by decide) ?_
              exact ih_lp (m + 1) E (by omega) (by omega) hVn
            · skip
              have hbit := (tb_div v m).mp h_52
              have hbc := bl_clr n (by omega) v hv m h_42 hbit
              refine g_aload_n cx dX2_visit_55 rfl ?_
              refine g_iload cx dX2_visit_56 rfl ?_
              refine g_iload_n cx dX2_visit_58 rfl ?_
              refine g_aload_n cx dX2_visit_59 rfl ?_
              refine g_getIN (i := (14, 0)) (ci := 2) (k := 6) (v := nI ((vsL n k f dn dr i c9 v sp a od (F, O) m).1)) cx a14_0 rfl rfl rfl (by decide) inX2 lfX2_39 dX2_visit_60 (hV.2.1) ?_
              refine g_iload_n cx dX2_visit_63 rfl ?_
              refine g_isubN cx dX2_visit_64 (by omega) ?_
              refine g_iconst (v := nI 1) cx dX2_visit_65 (by decide) ?_
              refine g_isub cx dX2_visit_66 ?_
              refine g_callV (As := [vi (nI m), vi (nI 1), vi ((nI (((vsL n k f dn dr i c9 v sp a od (F, O) m).1) - sp)) - (nI 1))]) (rest := []) cx knX2_goTo (x_goTo1 (hV.1.X.P hP) (hV.1.A (by decide) (by decide) hA) (i := i) (r := m) (B := (vsL n k f dn dr i c9 v sp a od (F, O) m).1 - sp) (hV.2.2.1.trans hL) hi (by omega) (by omega)) a14_0 rfl rfl lmX2_57 niX2_goTo seX2_goTo rfl (by decide) (Nat.le_of_ble_eq_true rfl) rfl dX2_visit_67 (fun r0 E1 hp0 => ?_)
              obtain ⟨rfl, ⟨hF1, hG1⟩, hA1⟩ := hp0
              show Gk X mX2_visit idsA 70 [some (vr (14, 0)), some (vi (nI 1)), some (vi (nI v)), some (vi (nI sp)), some (vi (nI m)), none] [vi (opI (lmO (erG n k f dn dr i m a).1 ((vsL n k f dn dr i c9 v sp a od (F, O) m).1 - sp)))] E1
              refine g_istore (L' := [some (vr (14, 0)), some (vi (nI 1)), some (vi (nI v)), some (vi (nI sp)), some (vi (nI m)), some (vi (opI (lmO (erG n k f dn dr i m a).1 ((vsL n k f dn dr i c9 v sp a od (F, O) m).1 - sp))))]) cx dX2_visit_70 (by decide) rfl rfl ?_
              refine g_iload cx dX2_visit_72 rfl ?_
              refine g_iconst (v := (-1)) cx dX2_visit_74 (by decide) ?_
              refine g_icmp_eq (tgt := 105) cx dX2_visit_75 (by decide) (fun h_75 => ?_) (fun h_75 => ?_)
              · skip
                have hln := opI_n (m := 100) (by decide) (fun c hc => by have := erG_le (lmO_lt hc).2; omega) h_75
                have hVn : VP 1 cc D E1 (vsL n k f dn dr i c9 v sp a od (F, O) (m + 1)) := by rw [vs_none hbit hln]; exact hV.n hF1 hG1
                refine g_drop 5 (L' := [some (vr (14, 0)), some (vi (nI 1)), some (vi (nI v)), some (vi (nI sp)), some (vi (nI m)), none]) rfl ?_
                refine g_iincN (L' := [some (vr (14, 0)), some (vi (nI 1)), some (vi (nI v)), some (vi (nI sp)), some (vi (nI (m + 1))), none]) cx dX2_visit_105 rfl (by decide) rfl rfl ?_
                refine g_goto (tgt := 33) cx dX2_visit_108 (by decide) ?_
                exact ih_lp (m + 1) E1 (by omega) (by omega) hVn
              · skip
                obtain ⟨t9, ht9⟩ := opI_s h_75
                have ht92 := (lmO_lt ht9).1
                refine g_loc (L' := [some (vr (14, 0)), some (vi (nI 1)), some (vi (nI v)), some (vi (nI sp)), some (vi (nI m)), some (vi (nI t9))]) (by rw [ht9]; rfl) ?_
                refine g_aload_n cx dX2_visit_78 rfl ?_
                refine g_getR (i := (14, 0)) (ci := 2) (k := 3) (j := (16, 0)) cx a14_0 rfl rfl rfl (by decide) inX2 lfX2_17 dX2_visit_79 ?_
                refine g_iload_n cx dX2_visit_82 rfl ?_
                refine g_iload cx dX2_visit_83 rfl ?_
                refine g_iast (i := (16, 0)) (j := 1) cx a16_0 rfl (rfl) (by omega) (by decide) dX2_visit_85 ?_
                refine g_aload_n cx dX2_visit_86 rfl ?_
                refine g_iload_n cx dX2_visit_87 rfl ?_
                refine g_iconst (v := nI 1) cx dX2_visit_88 (by decide) ?_
                refine g_iaddN cx dX2_visit_89 ?_
                refine g_iload_n cx dX2_visit_90 rfl ?_
                refine g_iconst (v := nI 1) cx dX2_visit_91 (by decide) ?_
                refine g_iload cx dX2_visit_92 rfl ?_
                refine g_ishl cx dX2_visit_94 ?_
                refine g_top (nI_shl m (by omega)) ?_
                refine g_iconst (v := (-1)) cx dX2_visit_95 (by decide) ?_
                refine g_ixor cx dX2_visit_96 ?_
                refine g_iand cx dX2_visit_97 ?_
                refine g_top (nI_clr2 v hv8 m (by omega)) ?_
                refine g_iload_n cx dX2_visit_98 rfl ?_
                refine g_iload cx dX2_visit_99 rfl ?_
                refine g_iaddN cx dX2_visit_101 ?_
                refine g_callV (As := [vi (nI 2), vi (nI (clr v m)), vi (nI (sp + t9))]) (rest := []) cx knX2_visit (x_visit2 (TX.P (TX.up (hV.1.tr hF1).X (by decide)) hP) (a := (erG n k f dn dr i m a).2) (by intro j hj; rw [upA_n _ _ (by decide)]; exact hA1 t9 ht9 j hj) (i := i) (v := clr v m) (sp := sp + t9) (F := (vsL n k f dn dr i c9 v sp a od (F, O) m).1) (cr := c9) (cc := cc) (od := od ++ [m]) (O := (vsL n k f dn dr i c9 v sp a od (F, O) m).2) (by rw [upA_n _ _ (by decide), hG1 _ (Or.inl rfl)]; exact hV.2.2.1.trans hL) hi (by rw [upA_n _ _ (by decide), hG1 _ (Or.inl rfl)]; exact hV.2.1) (by omega) (by omega) hbc.2.1 (by rw [hbc.1]; omega) (by omega) hc5 (by simp [hol]) (od_s (D := D) hol (fun j hj => by rw [hG1 _ (Or.inr (Or.inl rfl)), hV.2.2.2.2 j hj]; exact hOr j hj)) (fun j hj => by rw [upA_n _ _ (by decide), hG1 _ (Or.inr (Or.inr rfl))]; exact hV.2.2.2.1 j hj)) a14_0 rfl rfl lmX2_61 niX2_visit seX2_visit rfl (by decide) (Nat.le_of_ble_eq_true rfl) rfl dX2_visit_102 (fun r0 E2 hp0 => ?_)
                obtain ⟨rfl, hV2⟩ := hp0
                show Gk X mX2_visit idsA 105 [some (vr (14, 0)), some (vi (nI 1)), some (vi (nI v)), some (vi (nI sp)), some (vi (nI m)), some (vi (nI t9))] [] E2
                have hVn : VP 1 cc D E2 (vsL n k f dn dr i c9 v sp a od (F, O) (m + 1)) := by
                  rw [vs_some hbit ht9, ← hbc.1]
                  exact hV.s hF1 hG1 hV2
                refine g_drop 5 (L' := [some (vr (14, 0)), some (vi (nI 1)), some (vi (nI v)), some (vi (nI sp)), some (vi (nI m)), none]) rfl ?_
                refine g_iincN (L' := [some (vr (14, 0)), some (vi (nI 1)), some (vi (nI v)), some (vi (nI sp)), some (vi (nI (m + 1))), none]) cx dX2_visit_105 rfl (by decide) rfl rfl ?_
                refine g_goto (tgt := 33) cx dX2_visit_108 (by decide) ?_
                exact ih_lp (m + 1) E2 (by omega) (by omega) hVn
      exact lp (n + 1) 0 D (by omega) (by omega) (by rw [vs_0]; exact VP.r hF9 hB)
    · skip
      exact absurd h_26 (by omega)
  · skip
    subst h_1
    rw [bl_z] at hcr
    have hc0 : cr = 0 := hcr.symm
    subst hc0
    have hcq := hcc.symm
    refine g_aload_n cx dX2_visit_4 rfl ?_
    refine g_iload_n cx dX2_visit_5 rfl ?_
    refine g_putI (i := (14, 0)) (ci := 2) (k := 6) cx a14_0 rfl rfl rfl (by decide) inX2 tyX2_ok nmX2 rfl rfl lfX2_39 dX2_visit_6 ?_
    refine g_aload_n cx dX2_visit_9 rfl ?_
    refine g_getR (i := (14, 0)) (ci := 2) (k := 3) (j := (16, 0)) cx a14_0 rfl rfl rfl (by decide) inX2 lfX2_17 dX2_visit_10 ?_
    refine g_iconst (v := nI 0) cx dX2_visit_13 (by decide) ?_
    refine g_aload_n cx dX2_visit_14 rfl ?_
    refine g_getR (i := (14, 0)) (ci := 2) (k := 4) (j := (17, 0)) cx a14_0 rfl rfl rfl (by decide) inX2 lfX2_21 dX2_visit_15 ?_
    refine g_iconst (v := nI 0) cx dX2_visit_18 (by decide) ?_
    refine g_iconst (v := nI 5) cx dX2_visit_19 (by decide) ?_
    refine g_copy (rest := []) (i := (16, 0)) (j := (17, 0)) (n := 5) cx a16_0 a17_0 rfl rfl rfl (by decide) (by decide) (by decide) (by decide) (by decide) lmX2_46 nnCopy nsCopy nzJ10 (Nat.le_of_ble_eq_true rfl) (by decide) dX2_visit_20 ?_
    exact g_vret cx rq rfl dX2_visit_23 ⟨rfl, by rw [show visW n k f dn dr i 0 (bl 0 n) sp a od (F, O) = (sp, od) from rfl, hcq]; exact VP.z (by decide) hOr⟩

set_option maxRecDepth 100000 in
set_option maxHeartbeats 4000000 in
theorem x_visit0 {D : Wd} {n : Nat} {k f : Nat → Nat} {dn : Nat} {dr : Nat → Nat} {pn : Nat} (hP : PX D 0 n k f dn dr pn) {a : Nat → Nat} (hA : AX D 5 n a) {i v sp F cr cc : Nat} {od O : List Nat} (hL : D (14, 0) 5 = nI i) (hi : i < n) (hF9 : D (14, 0) 6 = nI F) (hF3 : F ≤ 361) (hsp : sp ≤ F) (hv : v < 2 ^ n) (hcr : (bl v n).length = cr) (hcc : 0 + cr = cc) (hc5 : cc ≤ 5) (hol : od.length = 0) (hOr : ∀ j, j < 0 → D (16, 0) j = nI (od.getD j 0)) (hB : ∀ j, j < cc → D (17, 0) j = nI (O.getD j 0)) : Mok mX2_visit idsA 10 [vr (14, 0), vi (nI 0), vi (nI v), vi (nI sp)] D (fun r' E' => r' = none ∧ VP 0 cc D E' (visW n k f dn dr i cr (bl v n) sp a od (F, O))) := by
  obtain ⟨hn3, hn8, hN, hK, hF, hd3, hDn, hDr, hp5, hPn⟩ := id hP
  have hv8 : v < 256 := Nat.lt_of_lt_of_le hv (Nat.pow_le_pow_right (by decide) hn8 : 2 ^ n ≤ 2 ^ 8)
  have hbl := bl_len n (by omega) v hv
  refine Mok.of (L := [some (vr (14, 0)), some (vi (nI 0)), some (vi (nI v)), some (vi (nI sp)), none, none]) rfl (fun _ => Nat.le_of_ble_eq_true rfl) (fun _ => rfl) (fun X cx rq => ?_)
  refine g_iload_n cx dX2_visit_0 rfl ?_
  refine g_if_neN (tgt := 24) cx dX2_visit_1 (by decide) (by omega) (fun h_1 => ?_) (fun h_1 => ?_)
  · skip
    refine g_iload_n cx dX2_visit_24 rfl ?_
    refine g_iconst (v := nI 5) cx dX2_visit_25 (by decide) ?_
    refine g_icmp_ltN (tgt := 30) cx dX2_visit_26 (by decide) (by omega) (by omega) (fun h_26 => ?_) (fun h_26 => ?_)
    · skip
      obtain ⟨c9, rfl⟩ : ∃ c9, cr = c9 + 1 := ⟨cr - 1, by have := hbl.2.2 h_1; omega⟩
      refine g_iconst (v := nI 0) cx dX2_visit_30 (by decide) ?_
      refine g_istore (L' := [some (vr (14, 0)), some (vi (nI 0)), some (vi (nI v)), some (vi (nI sp)), some (vi (nI 0)), none]) cx dX2_visit_31 (by decide) rfl rfl ?_
      have lp : ∀ (fu : Nat) (m : Nat) (E : Wd), n - m < fu → (m ≤ n) → (VP 0 cc D E (vsL n k f dn dr i c9 v sp a od (F, O) m)) → Gk X mX2_visit idsA 33 [some (vr (14, 0)), some (vi (nI 0)), some (vi (nI v)), some (vi (nI sp)), some (vi (nI m)), none] [] E := by
        intro fu
        induction fu with
        | zero => intro m E hfu; exact absurd hfu (Nat.not_lt_zero _)
        | succ fu ih_lp =>
          intro m E hfu hm hV
          have hbd : sp ≤ (vsL n k f dn dr i c9 v sp a od (F, O) m).1 ∧ (vsL n k f dn dr i c9 v sp a od (F, O) m).1 ≤ F := vst_bd (bl v m) (F, O) hsp
          refine g_iload cx dX2_visit_33 rfl ?_
          refine g_aload_n cx dX2_visit_35 rfl ?_
          refine g_getR (i := (14, 0)) (ci := 2) (k := 0) (j := (1, 0)) cx a14_0 rfl rfl rfl (by decide) inX2 lfX2_24 dX2_visit_36 ?_
          refine g_getIN (i := (1, 0)) (ci := 1) (k := 0) (v := nI n) cx a1_0 rfl rfl rfl (by decide) inX1 lfX2_52 dX2_visit_39 ((congrFun (hV.1.X _ rfl) 0).trans hN) ?_
          refine g_icmp_geN (tgt := 111) cx dX2_visit_42 (by decide) (by omega) (by omega) (fun h_42 => ?_) (fun h_42 => ?_)
          · skip
            have e9 : m = n := by omega
            exact g_vret cx rq rfl dX2_visit_111 ⟨rfl, by rw [visW_s]; have h9 := hV; rw [e9] at h9; exact h9⟩
          · skip
            refine g_iload_n cx dX2_visit_45 rfl ?_
            refine g_iload cx dX2_visit_46 rfl ?_
            refine g_ishr cx dX2_visit_48 ?_
            refine g_iconst (v := nI 1) cx dX2_visit_49 (by decide) ?_
            refine g_iand cx dX2_visit_50 ?_
            refine g_top (nI_bit v hv8 m (by omega)) ?_
            refine g_iconst (v := nI 1) cx dX2_visit_51 (by decide) ?_
            have h2m : v / 2 ^ m % 2 < 2 := Nat.mod_lt _ (by decide)
            refine g_icmp_neN (tgt := 105) cx dX2_visit_52 (by decide) (by omega) (by omega) (fun h_52 => ?_) (fun h_52 => ?_)
            · skip
              have hVn : VP 0 cc D E (vsL n k f dn dr i c9 v sp a od (F, O) (m + 1)) := by rw [vs_nb (fun z => h_52 ((tb_div v m).mpr z))]; exact hV
              refine g_iincN (L' := [some (vr (14, 0)), some (vi (nI 0)), some (vi (nI v)), some (vi (nI sp)), some (vi (nI (m + 1))), none]) cx dX2_visit_105 rfl (by decide) rfl rfl ?_
              refine g_goto (tgt := 33) cx dX2_visit_108 (by decide) ?_
              exact ih_lp (m + 1) E (by omega) (by omega) hVn
            · skip
              have hbit := (tb_div v m).mp h_52
              have hbc := bl_clr n (by omega) v hv m h_42 hbit
              refine g_aload_n cx dX2_visit_55 rfl ?_
              refine g_iload cx dX2_visit_56 rfl ?_
              refine g_iload_n cx dX2_visit_58 rfl ?_
              refine g_aload_n cx dX2_visit_59 rfl ?_
              refine g_getIN (i := (14, 0)) (ci := 2) (k := 6) (v := nI ((vsL n k f dn dr i c9 v sp a od (F, O) m).1)) cx a14_0 rfl rfl rfl (by decide) inX2 lfX2_39 dX2_visit_60 (hV.2.1) ?_
              refine g_iload_n cx dX2_visit_63 rfl ?_
              refine g_isubN cx dX2_visit_64 (by omega) ?_
              refine g_iconst (v := nI 1) cx dX2_visit_65 (by decide) ?_
              refine g_isub cx dX2_visit_66 ?_
              refine g_callV (As := [vi (nI m), vi (nI 0), vi ((nI (((vsL n k f dn dr i c9 v sp a od (F, O) m).1) - sp)) - (nI 1))]) (rest := []) cx knX2_goTo (x_goTo0 (hV.1.X.P hP) (hV.1.A (by decide) (by decide) hA) (i := i) (r := m) (B := (vsL n k f dn dr i c9 v sp a od (F, O) m).1 - sp) (hV.2.2.1.trans hL) hi (by omega) (by omega)) a14_0 rfl rfl lmX2_57 niX2_goTo seX2_goTo rfl (by decide) (Nat.le_of_ble_eq_true rfl) rfl dX2_visit_67 (fun r0 E1 hp0 => ?_)
              obtain ⟨rfl, ⟨hF1, hG1⟩, hA1⟩ := hp0
              show Gk X mX2_visit idsA 70 [some (vr (14, 0)), some (vi (nI 0)), some (vi (nI v)), some (vi (nI sp)), some (vi (nI m)), none] [vi (opI (lmO (erG n k f dn dr i m a).1 ((vsL n k f dn dr i c9 v sp a od (F, O) m).1 - sp)))] E1
              refine g_istore (L' := [some (vr (14, 0)), some (vi (nI 0)), some (vi (nI v)), some (vi (nI sp)), some (vi (nI m)), some (vi (opI (lmO (erG n k f dn dr i m a).1 ((vsL n k f dn dr i c9 v sp a od (F, O) m).1 - sp))))]) cx dX2_visit_70 (by decide) rfl rfl ?_
              refine g_iload cx dX2_visit_72 rfl ?_
              refine g_iconst (v := (-1)) cx dX2_visit_74 (by decide) ?_
              refine g_icmp_eq (tgt := 105) cx dX2_visit_75 (by decide) (fun h_75 => ?_) (fun h_75 => ?_)
              · skip
                have hln := opI_n (m := 100) (by decide) (fun c hc => by have := erG_le (lmO_lt hc).2; omega) h_75
                have hVn : VP 0 cc D E1 (vsL n k f dn dr i c9 v sp a od (F, O) (m + 1)) := by rw [vs_none hbit hln]; exact hV.n hF1 hG1
                refine g_drop 5 (L' := [some (vr (14, 0)), some (vi (nI 0)), some (vi (nI v)), some (vi (nI sp)), some (vi (nI m)), none]) rfl ?_
                refine g_iincN (L' := [some (vr (14, 0)), some (vi (nI 0)), some (vi (nI v)), some (vi (nI sp)), some (vi (nI (m + 1))), none]) cx dX2_visit_105 rfl (by decide) rfl rfl ?_
                refine g_goto (tgt := 33) cx dX2_visit_108 (by decide) ?_
                exact ih_lp (m + 1) E1 (by omega) (by omega) hVn
              · skip
                obtain ⟨t9, ht9⟩ := opI_s h_75
                have ht92 := (lmO_lt ht9).1
                refine g_loc (L' := [some (vr (14, 0)), some (vi (nI 0)), some (vi (nI v)), some (vi (nI sp)), some (vi (nI m)), some (vi (nI t9))]) (by rw [ht9]; rfl) ?_
                refine g_aload_n cx dX2_visit_78 rfl ?_
                refine g_getR (i := (14, 0)) (ci := 2) (k := 3) (j := (16, 0)) cx a14_0 rfl rfl rfl (by decide) inX2 lfX2_17 dX2_visit_79 ?_
                refine g_iload_n cx dX2_visit_82 rfl ?_
                refine g_iload cx dX2_visit_83 rfl ?_
                refine g_iast (i := (16, 0)) (j := 0) cx a16_0 rfl (rfl) (by omega) (by decide) dX2_visit_85 ?_
                refine g_aload_n cx dX2_visit_86 rfl ?_
                refine g_iload_n cx dX2_visit_87 rfl ?_
                refine g_iconst (v := nI 1) cx dX2_visit_88 (by decide) ?_
                refine g_iaddN cx dX2_visit_89 ?_
                refine g_iload_n cx dX2_visit_90 rfl ?_
                refine g_iconst (v := nI 1) cx dX2_visit_91 (by decide) ?_
                refine g_iload cx dX2_visit_92 rfl ?_
                refine g_ishl cx dX2_visit_94 ?_
                refine g_top (nI_shl m (by omega)) ?_
                refine g_iconst (v := (-1)) cx dX2_visit_95 (by decide) ?_
                refine g_ixor cx dX2_visit_96 ?_
                refine g_iand cx dX2_visit_97 ?_
                refine g_top (nI_clr2 v hv8 m (by omega)) ?_
                refine g_iload_n cx dX2_visit_98 rfl ?_
                refine g_iload cx dX2_visit_99 rfl ?_
                refine g_iaddN cx dX2_visit_101 ?_
                refine g_callV (As := [vi (nI 1), vi (nI (clr v m)), vi (nI (sp + t9))]) (rest := []) cx knX2_visit (x_visit1 (TX.P (TX.up (hV.1.tr hF1).X (by decide)) hP) (a := (erG n k f dn dr i m a).2) (by intro j hj; rw [upA_n _ _ (by decide)]; exact hA1 t9 ht9 j hj) (i := i) (v := clr v m) (sp := sp + t9) (F := (vsL n k f dn dr i c9 v sp a od (F, O) m).1) (cr := c9) (cc := cc) (od := od ++ [m]) (O := (vsL n k f dn dr i c9 v sp a od (F, O) m).2) (by rw [upA_n _ _ (by decide), hG1 _ (Or.inl rfl)]; exact hV.2.2.1.trans hL) hi (by rw [upA_n _ _ (by decide), hG1 _ (Or.inl rfl)]; exact hV.2.1) (by omega) (by omega) hbc.2.1 (by rw [hbc.1]; omega) (by omega) hc5 (by simp [hol]) (od_s (D := D) hol (fun j hj => by rw [hG1 _ (Or.inr (Or.inl rfl)), hV.2.2.2.2 j hj]; exact hOr j hj)) (fun j hj => by rw [upA_n _ _ (by decide), hG1 _ (Or.inr (Or.inr rfl))]; exact hV.2.2.2.1 j hj)) a14_0 rfl rfl lmX2_61 niX2_visit seX2_visit rfl (by decide) (Nat.le_of_ble_eq_true rfl) rfl dX2_visit_102 (fun r0 E2 hp0 => ?_)
                obtain ⟨rfl, hV2⟩ := hp0
                show Gk X mX2_visit idsA 105 [some (vr (14, 0)), some (vi (nI 0)), some (vi (nI v)), some (vi (nI sp)), some (vi (nI m)), some (vi (nI t9))] [] E2
                have hVn : VP 0 cc D E2 (vsL n k f dn dr i c9 v sp a od (F, O) (m + 1)) := by
                  rw [vs_some hbit ht9, ← hbc.1]
                  exact hV.s hF1 hG1 hV2
                refine g_drop 5 (L' := [some (vr (14, 0)), some (vi (nI 0)), some (vi (nI v)), some (vi (nI sp)), some (vi (nI m)), none]) rfl ?_
                refine g_iincN (L' := [some (vr (14, 0)), some (vi (nI 0)), some (vi (nI v)), some (vi (nI sp)), some (vi (nI (m + 1))), none]) cx dX2_visit_105 rfl (by decide) rfl rfl ?_
                refine g_goto (tgt := 33) cx dX2_visit_108 (by decide) ?_
                exact ih_lp (m + 1) E2 (by omega) (by omega) hVn
      exact lp (n + 1) 0 D (by omega) (by omega) (by rw [vs_0]; exact VP.r hF9 hB)
    · skip
      exact absurd h_26 (by omega)
  · skip
    subst h_1
    rw [bl_z] at hcr
    have hc0 : cr = 0 := hcr.symm
    subst hc0
    have hcq := hcc.symm
    refine g_aload_n cx dX2_visit_4 rfl ?_
    refine g_iload_n cx dX2_visit_5 rfl ?_
    refine g_putI (i := (14, 0)) (ci := 2) (k := 6) cx a14_0 rfl rfl rfl (by decide) inX2 tyX2_ok nmX2 rfl rfl lfX2_39 dX2_visit_6 ?_
    refine g_aload_n cx dX2_visit_9 rfl ?_
    refine g_getR (i := (14, 0)) (ci := 2) (k := 3) (j := (16, 0)) cx a14_0 rfl rfl rfl (by decide) inX2 lfX2_17 dX2_visit_10 ?_
    refine g_iconst (v := nI 0) cx dX2_visit_13 (by decide) ?_
    refine g_aload_n cx dX2_visit_14 rfl ?_
    refine g_getR (i := (14, 0)) (ci := 2) (k := 4) (j := (17, 0)) cx a14_0 rfl rfl rfl (by decide) inX2 lfX2_21 dX2_visit_15 ?_
    refine g_iconst (v := nI 0) cx dX2_visit_18 (by decide) ?_
    refine g_iconst (v := nI 5) cx dX2_visit_19 (by decide) ?_
    refine g_copy (rest := []) (i := (16, 0)) (j := (17, 0)) (n := 5) cx a16_0 a17_0 rfl rfl rfl (by decide) (by decide) (by decide) (by decide) (by decide) lmX2_46 nnCopy nsCopy nzJ10 (Nat.le_of_ble_eq_true rfl) (by decide) dX2_visit_20 ?_
    exact g_vret cx rq rfl dX2_visit_23 ⟨rfl, by rw [show visW n k f dn dr i 0 (bl 0 n) sp a od (F, O) = (sp, od) from rfl, hcq]; exact VP.z (by decide) hOr⟩
