theorem newD_lt {R : RS} {v : Nat} (h : newD R v = true) : R.2.2.2.1 < 3 := by
  simp only [newD, Bool.and_eq_true, decide_eq_true_eq] at h
  exact h.1.2
theorem putH_le (R : RS) (a : Nat) : putH R a ≤ 20 := by unfold putH; split <;> omega
set_option maxRecDepth 100000 in
set_option maxHeartbeats 4000000 in
theorem m_line_y0 {D E : Wd} {t : Nat → Nat} {len : Nat} {R : RS} {m : Nat} {rc : Nat → Nat × Nat} {p e : Nat} (hR : RK D E t len R m rc p e) (hm11 : m ≤ 11) (hwo : wOf t p e = some 0) {a : Nat} (hy1 : NumY t len 3 8 (tkP t len e) (tkE t len (tkP t len e)) a) : Mok mX6_readsLine idsA 5 [vr (30, 0)] E (fun r' E' => r' = (some (vi (nI 1))) ∧ RK D E' t len (goR R 0 a 0) (m + 1) (fun q => if q = m then (0, a) else rc q) (tkP t len (tkE t len (tkP t len e))) (tkE t len (tkP t len (tkE t len (tkP t len e))))) := by
  obtain ⟨hX, ⟨h12, h13, h14⟩, hT, hRD, ⟨h5, hm12⟩, hRC, hFR⟩ := id hR
  obtain ⟨r1, r2, r3, r4, r5, r6, r7, r8, r9, r10⟩ := id hRD
  have hR0 := RK.tok hR
  refine Mok.of (L := [some (vr (30, 0)), none]) rfl (fun _ => Nat.le_of_ble_eq_true rfl) (fun _ => rfl) (fun X cx rq => ?_)
  refine g_aload_n cx dX6_readsLine_0 rfl ?_
  refine g_fcallV (As := []) (rest := []) cx knX6_wordOf (m_wordOf hX h13 h14 hT) a30_0 rfl rfl lmX6_140 niX6_wordOf seX6_wordOf rfl (by decide) (Nat.le_of_ble_eq_true rfl) rfl dX6_readsLine_1 ?_
  refine g_top (y := nI 0) (by rw [hwo]; rfl) ?_
  refine g_istore_n (L' := [some (vr (30, 0)), some (vi (nI 0))]) cx dX6_readsLine_4 (by decide) rfl rfl ?_
  refine g_iload_n cx dX6_readsLine_5 rfl ?_
  refine g_iconst (v := (-1)) cx dX6_readsLine_6 (by decide) ?_
  refine g_icmp_eq (tgt := 24) cx dX6_readsLine_7 (by decide) (fun h_7 => ?_) (fun h_7 => ?_)
  · skip
    exact absurd h_7 (by decide)
  · skip
    refine g_iload_n cx dX6_readsLine_10 rfl ?_
    refine g_bipush (v := nI 8) cx dX6_readsLine_11 (by decide) ?_
    refine g_icmp_neN (tgt := 26) cx dX6_readsLine_13 (by decide) (by omega) (by omega) (fun h_13 => ?_) (fun h_13 => ?_)
    · skip
      refine g_aload_n cx dX6_readsLine_26 rfl ?_
      refine g_fcallVv (As := []) (rest := []) cx knX6_token (m_token hX h12 hT.2.1) a30_0 rfl rfl lmX6_105 niX6_token seX6_token rfl (by decide) (Nat.le_of_ble_eq_true rfl) rfl dX6_readsLine_27 ?_
      refine g_aload_n cx dX6_readsLine_30 rfl ?_
      refine g_getR (i := (30, 0)) (ci := 6) (k := 4) (j := (34, 0)) cx a30_0 rfl rfl rfl (by decide) inX6 lfX6_20 dX6_readsLine_31 ?_
      refine g_iconst (v := nI 3) cx dX6_readsLine_34 (by decide) ?_
      refine g_aload_n cx dX6_readsLine_35 rfl ?_
      refine g_getIN (i := (30, 0)) (ci := 6) (k := 5) (v := nI m) cx a30_0 rfl rfl rfl (by decide) inX6 lfX6_102 dX6_readsLine_36 (hR0.2.2.2.2.1.1) ?_
      refine g_imulN cx dX6_readsLine_39 ?_
      refine g_iload_n cx dX6_readsLine_40 rfl ?_
      refine g_iast (i := (34, 0)) (j := 3 * m) cx a34_0 rfl (rfl) (by omega) (by decide) dX6_readsLine_41 ?_
      obtain ⟨F1, hF1⟩ : ∃ F1, F1 = upA (PS E (tkP t len e) (tkE t len (tkP t len e))) (34, 0) (upd ((PS E (tkP t len e) (tkE t len (tkP t len e))) (34, 0)) (3 * m) (nI 0)) := ⟨_, rfl⟩
      refine g_wd hF1.symm ?_
      have hR1 : RK D F1 t len R m rc (tkP t len e) (tkE t len (tkP t len e)) := by rw [hF1]; exact RK.rd (by omega) hR0
      have hw1 : F1 (34, 0) (3 * m) = nI 0 := by rw [hF1, upA_s]; exact upd_at _ _ _
      refine g_aload_n cx dX6_readsLine_42 rfl ?_
      refine g_iload_n cx dX6_readsLine_43 rfl ?_
      refine g_callV (As := [vi (nI 0)]) (rest := []) cx knX6_readsRest (m_rr0_y hR1 hm11 hy1) a30_0 rfl rfl lmX6_143 niX6_readsRest seX6_readsRest rfl (by decide) (Nat.le_of_ble_eq_true rfl) rfl dX6_readsLine_44 (fun r0 F2 hp0 => ?_)
      obtain ⟨rfl, hR2, hr1, hr2⟩ := hp0
      show Gk X mX6_readsLine idsA 47 [some (vr (30, 0)), some (vi (nI 0))] [vi (nI 1)] F2
      refine g_if_neN (tgt := 52) cx dX6_readsLine_47 (by decide) (by omega) (fun h_47 => ?_) (fun h_47 => ?_)
      · skip
        refine g_aload_n cx dX6_readsLine_52 rfl ?_
        refine g_iload_n cx dX6_readsLine_53 rfl ?_
        refine g_aload_n cx dX6_readsLine_54 rfl ?_
        refine g_getR (i := (30, 0)) (ci := 6) (k := 4) (j := (34, 0)) cx a30_0 rfl rfl rfl (by decide) inX6 lfX6_20 dX6_readsLine_55 ?_
        refine g_iconst (v := nI 3) cx dX6_readsLine_58 (by decide) ?_
        refine g_aload_n cx dX6_readsLine_59 rfl ?_
        refine g_getIN (i := (30, 0)) (ci := 6) (k := 5) (v := nI m) cx a30_0 rfl rfl rfl (by decide) inX6 lfX6_102 dX6_readsLine_60 (hR2.2.2.2.2.1.1) ?_
        refine g_imulN cx dX6_readsLine_63 ?_
        refine g_iconst (v := nI 1) cx dX6_readsLine_64 (by decide) ?_
        refine g_iaddN cx dX6_readsLine_65 ?_
        refine g_ialdN (i := (34, 0)) (j := (3 * m) + 1) (v := nI a) cx a34_0 rfl (rfl) (by omega) (by decide) dX6_readsLine_66 (hr2) ?_
        refine g_aload_n cx dX6_readsLine_67 rfl ?_
        refine g_getR (i := (30, 0)) (ci := 6) (k := 4) (j := (34, 0)) cx a30_0 rfl rfl rfl (by decide) inX6 lfX6_20 dX6_readsLine_68 ?_
        refine g_iconst (v := nI 3) cx dX6_readsLine_71 (by decide) ?_
        refine g_aload_n cx dX6_readsLine_72 rfl ?_
        refine g_getIN (i := (30, 0)) (ci := 6) (k := 5) (v := nI m) cx a30_0 rfl rfl rfl (by decide) inX6 lfX6_102 dX6_readsLine_73 (hR2.2.2.2.2.1.1) ?_
        refine g_imulN cx dX6_readsLine_76 ?_
        refine g_iconst (v := nI 2) cx dX6_readsLine_77 (by decide) ?_
        refine g_iaddN cx dX6_readsLine_78 ?_
        refine g_iald (i := (34, 0)) (j := (3 * m) + 2) cx a34_0 rfl (rfl) (by omega) (by decide) dX6_readsLine_79 ?_
        refine g_callV (As := [vi (nI 0), vi (nI a), vi (F2 (34, 0) ((3 * m) + 2))]) (rest := []) cx knX6_goOn (m_goOn0 hR2 (a := a) (c := 0) (F2 (34, 0) ((3 * m) + 2)) hy1.2.1 hy1.2.2) a30_0 rfl rfl lmX6_146 niX6_goOn seX6_goOn rfl (by decide) (Nat.le_of_ble_eq_true rfl) rfl dX6_readsLine_80 (fun r0 F3 hp0 => ?_)
        obtain ⟨rfl, hR3, hE3⟩ := hp0
        show Gk X mX6_readsLine idsA 83 [some (vr (30, 0)), some (vi (nI 0))] [] F3
        refine g_aload_n cx dX6_readsLine_83 rfl ?_
        refine g_dup cx dX6_readsLine_84 rfl ?_
        refine g_getIN (i := (30, 0)) (ci := 6) (k := 5) (v := nI m) cx a30_0 rfl rfl rfl (by decide) inX6 lfX6_102 dX6_readsLine_85 (hR3.2.2.2.2.1.1) ?_
        refine g_iconst (v := nI 1) cx dX6_readsLine_88 (by decide) ?_
        refine g_iaddN cx dX6_readsLine_89 ?_
        refine g_putI (i := (30, 0)) (ci := 6) (k := 5) cx a30_0 rfl rfl rfl (by decide) inX6 tyX6_ok nmX6 rfl rfl lfX6_102 dX6_readsLine_90 ?_
        refine g_iconst (v := nI 1) cx dX6_readsLine_93 (by decide) ?_
        exact g_ret cx rq rfl (by rfl) dX6_readsLine_94 ⟨rfl, RK.inc hR3 hm11 (by rw [hE3]; exact hr1.trans hw1) (by decide) (fun _ => by rw [hE3]; exact hr2)⟩
      · skip
        exact absurd h_47 (by decide)
    · skip
      exact absurd h_13 (by decide)

set_option maxRecDepth 100000 in
set_option maxHeartbeats 4000000 in
theorem m_line_n0 {D E : Wd} {t : Nat → Nat} {len : Nat} {R : RS} {m : Nat} {rc : Nat → Nat × Nat} {p e : Nat} (hR : RK D E t len R m rc p e) (hm11 : m ≤ 11) (hwo : wOf t p e = some 0) (hno : NumN t len 3 8 (tkP t len e) (tkE t len (tkP t len e))) : Mok mX6_readsLine idsA 5 [vr (30, 0)] E (fun r' E' => r' = (some (vi (nI 0))) ∧ RK D E' t len R m rc (tkP t len e) (tkE t len (tkP t len e))) := by
  obtain ⟨hX, ⟨h12, h13, h14⟩, hT, hRD, ⟨h5, hm12⟩, hRC, hFR⟩ := id hR
  obtain ⟨r1, r2, r3, r4, r5, r6, r7, r8, r9, r10⟩ := id hRD
  have hR0 := RK.tok hR
  refine Mok.of (L := [some (vr (30, 0)), none]) rfl (fun _ => Nat.le_of_ble_eq_true rfl) (fun _ => rfl) (fun X cx rq => ?_)
  refine g_aload_n cx dX6_readsLine_0 rfl ?_
  refine g_fcallV (As := []) (rest := []) cx knX6_wordOf (m_wordOf hX h13 h14 hT) a30_0 rfl rfl lmX6_140 niX6_wordOf seX6_wordOf rfl (by decide) (Nat.le_of_ble_eq_true rfl) rfl dX6_readsLine_1 ?_
  refine g_top (y := nI 0) (by rw [hwo]; rfl) ?_
  refine g_istore_n (L' := [some (vr (30, 0)), some (vi (nI 0))]) cx dX6_readsLine_4 (by decide) rfl rfl ?_
  refine g_iload_n cx dX6_readsLine_5 rfl ?_
  refine g_iconst (v := (-1)) cx dX6_readsLine_6 (by decide) ?_
  refine g_icmp_eq (tgt := 24) cx dX6_readsLine_7 (by decide) (fun h_7 => ?_) (fun h_7 => ?_)
  · skip
    exact absurd h_7 (by decide)
  · skip
    refine g_iload_n cx dX6_readsLine_10 rfl ?_
    refine g_bipush (v := nI 8) cx dX6_readsLine_11 (by decide) ?_
    refine g_icmp_neN (tgt := 26) cx dX6_readsLine_13 (by decide) (by omega) (by omega) (fun h_13 => ?_) (fun h_13 => ?_)
    · skip
      refine g_aload_n cx dX6_readsLine_26 rfl ?_
      refine g_fcallVv (As := []) (rest := []) cx knX6_token (m_token hX h12 hT.2.1) a30_0 rfl rfl lmX6_105 niX6_token seX6_token rfl (by decide) (Nat.le_of_ble_eq_true rfl) rfl dX6_readsLine_27 ?_
      refine g_aload_n cx dX6_readsLine_30 rfl ?_
      refine g_getR (i := (30, 0)) (ci := 6) (k := 4) (j := (34, 0)) cx a30_0 rfl rfl rfl (by decide) inX6 lfX6_20 dX6_readsLine_31 ?_
      refine g_iconst (v := nI 3) cx dX6_readsLine_34 (by decide) ?_
      refine g_aload_n cx dX6_readsLine_35 rfl ?_
      refine g_getIN (i := (30, 0)) (ci := 6) (k := 5) (v := nI m) cx a30_0 rfl rfl rfl (by decide) inX6 lfX6_102 dX6_readsLine_36 (hR0.2.2.2.2.1.1) ?_
      refine g_imulN cx dX6_readsLine_39 ?_
      refine g_iload_n cx dX6_readsLine_40 rfl ?_
      refine g_iast (i := (34, 0)) (j := 3 * m) cx a34_0 rfl (rfl) (by omega) (by decide) dX6_readsLine_41 ?_
      obtain ⟨F1, hF1⟩ : ∃ F1, F1 = upA (PS E (tkP t len e) (tkE t len (tkP t len e))) (34, 0) (upd ((PS E (tkP t len e) (tkE t len (tkP t len e))) (34, 0)) (3 * m) (nI 0)) := ⟨_, rfl⟩
      refine g_wd hF1.symm ?_
      have hR1 : RK D F1 t len R m rc (tkP t len e) (tkE t len (tkP t len e)) := by rw [hF1]; exact RK.rd (by omega) hR0
      have hw1 : F1 (34, 0) (3 * m) = nI 0 := by rw [hF1, upA_s]; exact upd_at _ _ _
      refine g_aload_n cx dX6_readsLine_42 rfl ?_
      refine g_iload_n cx dX6_readsLine_43 rfl ?_
      refine g_fcallV (As := [vi (nI 0)]) (rest := []) cx knX6_readsRest (m_rr0_n hR1 hno) a30_0 rfl rfl lmX6_143 niX6_readsRest seX6_readsRest rfl (by decide) (Nat.le_of_ble_eq_true rfl) rfl dX6_readsLine_44 ?_
      refine g_if_neN (tgt := 52) cx dX6_readsLine_47 (by decide) (by omega) (fun h_47 => ?_) (fun h_47 => ?_)
      · skip
        exact absurd rfl h_47
      · skip
        refine g_iconst (v := nI 0) cx dX6_readsLine_50 (by decide) ?_
        exact g_ret cx rq rfl (by rfl) dX6_readsLine_51 ⟨rfl, hR1⟩
    · skip
      exact absurd h_13 (by decide)

set_option maxRecDepth 100000 in
set_option maxHeartbeats 4000000 in
theorem m_line_y2 {D E : Wd} {t : Nat → Nat} {len : Nat} {R : RS} {m : Nat} {rc : Nat → Nat × Nat} {p e : Nat} (hR : RK D E t len R m rc p e) (hm11 : m ≤ 11) (hwo : wOf t p e = some 2) {a : Nat} (hy1 : NumY t len 0 (R.1 - 1) (tkP t len e) (tkE t len (tkP t len e)) a) : Mok mX6_readsLine idsA 5 [vr (30, 0)] E (fun r' E' => r' = (some (vi (nI 1))) ∧ RK D E' t len (goR R 2 a 0) (m + 1) (fun q => if q = m then (2, a) else rc q) (tkP t len (tkE t len (tkP t len e))) (tkE t len (tkP t len (tkE t len (tkP t len e))))) := by
  obtain ⟨hX, ⟨h12, h13, h14⟩, hT, hRD, ⟨h5, hm12⟩, hRC, hFR⟩ := id hR
  obtain ⟨r1, r2, r3, r4, r5, r6, r7, r8, r9, r10⟩ := id hRD
  have hR0 := RK.tok hR
  refine Mok.of (L := [some (vr (30, 0)), none]) rfl (fun _ => Nat.le_of_ble_eq_true rfl) (fun _ => rfl) (fun X cx rq => ?_)
  refine g_aload_n cx dX6_readsLine_0 rfl ?_
  refine g_fcallV (As := []) (rest := []) cx knX6_wordOf (m_wordOf hX h13 h14 hT) a30_0 rfl rfl lmX6_140 niX6_wordOf seX6_wordOf rfl (by decide) (Nat.le_of_ble_eq_true rfl) rfl dX6_readsLine_1 ?_
  refine g_top (y := nI 2) (by rw [hwo]; rfl) ?_
  refine g_istore_n (L' := [some (vr (30, 0)), some (vi (nI 2))]) cx dX6_readsLine_4 (by decide) rfl rfl ?_
  refine g_iload_n cx dX6_readsLine_5 rfl ?_
  refine g_iconst (v := (-1)) cx dX6_readsLine_6 (by decide) ?_
  refine g_icmp_eq (tgt := 24) cx dX6_readsLine_7 (by decide) (fun h_7 => ?_) (fun h_7 => ?_)
  · skip
    exact absurd h_7 (by decide)
  · skip
    refine g_iload_n cx dX6_readsLine_10 rfl ?_
    refine g_bipush (v := nI 8) cx dX6_readsLine_11 (by decide) ?_
    refine g_icmp_neN (tgt := 26) cx dX6_readsLine_13 (by decide) (by omega) (by omega) (fun h_13 => ?_) (fun h_13 => ?_)
    · skip
      refine g_aload_n cx dX6_readsLine_26 rfl ?_
      refine g_fcallVv (As := []) (rest := []) cx knX6_token (m_token hX h12 hT.2.1) a30_0 rfl rfl lmX6_105 niX6_token seX6_token rfl (by decide) (Nat.le_of_ble_eq_true rfl) rfl dX6_readsLine_27 ?_
      refine g_aload_n cx dX6_readsLine_30 rfl ?_
      refine g_getR (i := (30, 0)) (ci := 6) (k := 4) (j := (34, 0)) cx a30_0 rfl rfl rfl (by decide) inX6 lfX6_20 dX6_readsLine_31 ?_
      refine g_iconst (v := nI 3) cx dX6_readsLine_34 (by decide) ?_
      refine g_aload_n cx dX6_readsLine_35 rfl ?_
      refine g_getIN (i := (30, 0)) (ci := 6) (k := 5) (v := nI m) cx a30_0 rfl rfl rfl (by decide) inX6 lfX6_102 dX6_readsLine_36 (hR0.2.2.2.2.1.1) ?_
      refine g_imulN cx dX6_readsLine_39 ?_
      refine g_iload_n cx dX6_readsLine_40 rfl ?_
      refine g_iast (i := (34, 0)) (j := 3 * m) cx a34_0 rfl (rfl) (by omega) (by decide) dX6_readsLine_41 ?_
      obtain ⟨F1, hF1⟩ : ∃ F1, F1 = upA (PS E (tkP t len e) (tkE t len (tkP t len e))) (34, 0) (upd ((PS E (tkP t len e) (tkE t len (tkP t len e))) (34, 0)) (3 * m) (nI 2)) := ⟨_, rfl⟩
      refine g_wd hF1.symm ?_
      have hR1 : RK D F1 t len R m rc (tkP t len e) (tkE t len (tkP t len e)) := by rw [hF1]; exact RK.rd (by omega) hR0
      have hw1 : F1 (34, 0) (3 * m) = nI 2 := by rw [hF1, upA_s]; exact upd_at _ _ _
      refine g_aload_n cx dX6_readsLine_42 rfl ?_
      refine g_iload_n cx dX6_readsLine_43 rfl ?_
      refine g_callV (As := [vi (nI 2)]) (rest := []) cx knX6_readsRest (m_rr2_y hR1 hm11 hy1) a30_0 rfl rfl lmX6_143 niX6_readsRest seX6_readsRest rfl (by decide) (Nat.le_of_ble_eq_true rfl) rfl dX6_readsLine_44 (fun r0 F2 hp0 => ?_)
      obtain ⟨rfl, hR2, hr1, hr2⟩ := hp0
      show Gk X mX6_readsLine idsA 47 [some (vr (30, 0)), some (vi (nI 2))] [vi (nI 1)] F2
      refine g_if_neN (tgt := 52) cx dX6_readsLine_47 (by decide) (by omega) (fun h_47 => ?_) (fun h_47 => ?_)
      · skip
        refine g_aload_n cx dX6_readsLine_52 rfl ?_
        refine g_iload_n cx dX6_readsLine_53 rfl ?_
        refine g_aload_n cx dX6_readsLine_54 rfl ?_
        refine g_getR (i := (30, 0)) (ci := 6) (k := 4) (j := (34, 0)) cx a30_0 rfl rfl rfl (by decide) inX6 lfX6_20 dX6_readsLine_55 ?_
        refine g_iconst (v := nI 3) cx dX6_readsLine_58 (by decide) ?_
        refine g_aload_n cx dX6_readsLine_59 rfl ?_
        refine g_getIN (i := (30, 0)) (ci := 6) (k := 5) (v := nI m) cx a30_0 rfl rfl rfl (by decide) inX6 lfX6_102 dX6_readsLine_60 (hR2.2.2.2.2.1.1) ?_
        refine g_imulN cx dX6_readsLine_63 ?_
        refine g_iconst (v := nI 1) cx dX6_readsLine_64 (by decide) ?_
        refine g_iaddN cx dX6_readsLine_65 ?_
        refine g_ialdN (i := (34, 0)) (j := (3 * m) + 1) (v := nI a) cx a34_0 rfl (rfl) (by omega) (by decide) dX6_readsLine_66 (hr2) ?_
        refine g_aload_n cx dX6_readsLine_67 rfl ?_
        refine g_getR (i := (30, 0)) (ci := 6) (k := 4) (j := (34, 0)) cx a30_0 rfl rfl rfl (by decide) inX6 lfX6_20 dX6_readsLine_68 ?_
        refine g_iconst (v := nI 3) cx dX6_readsLine_71 (by decide) ?_
        refine g_aload_n cx dX6_readsLine_72 rfl ?_
        refine g_getIN (i := (30, 0)) (ci := 6) (k := 5) (v := nI m) cx a30_0 rfl rfl rfl (by decide) inX6 lfX6_102 dX6_readsLine_73 (hR2.2.2.2.2.1.1) ?_
        refine g_imulN cx dX6_readsLine_76 ?_
        refine g_iconst (v := nI 2) cx dX6_readsLine_77 (by decide) ?_
        refine g_iaddN cx dX6_readsLine_78 ?_
        refine g_iald (i := (34, 0)) (j := (3 * m) + 2) cx a34_0 rfl (rfl) (by omega) (by decide) dX6_readsLine_79 ?_
        refine g_callV (As := [vi (nI 2), vi (nI a), vi (F2 (34, 0) ((3 * m) + 2))]) (rest := []) cx knX6_goOn (m_goOn2 hR2 (nI a) (F2 (34, 0) ((3 * m) + 2)) (a := a) (c := 0)) a30_0 rfl rfl lmX6_146 niX6_goOn seX6_goOn rfl (by decide) (Nat.le_of_ble_eq_true rfl) rfl dX6_readsLine_80 (fun r0 F3 hp0 => ?_)
        obtain ⟨rfl, hR3, hE3⟩ := hp0
        show Gk X mX6_readsLine idsA 83 [some (vr (30, 0)), some (vi (nI 2))] [] F3
        refine g_aload_n cx dX6_readsLine_83 rfl ?_
        refine g_dup cx dX6_readsLine_84 rfl ?_
        refine g_getIN (i := (30, 0)) (ci := 6) (k := 5) (v := nI m) cx a30_0 rfl rfl rfl (by decide) inX6 lfX6_102 dX6_readsLine_85 (hR3.2.2.2.2.1.1) ?_
        refine g_iconst (v := nI 1) cx dX6_readsLine_88 (by decide) ?_
        refine g_iaddN cx dX6_readsLine_89 ?_
        refine g_putI (i := (30, 0)) (ci := 6) (k := 5) cx a30_0 rfl rfl rfl (by decide) inX6 tyX6_ok nmX6 rfl rfl lfX6_102 dX6_readsLine_90 ?_
        refine g_iconst (v := nI 1) cx dX6_readsLine_93 (by decide) ?_
        exact g_ret cx rq rfl (by rfl) dX6_readsLine_94 ⟨rfl, RK.inc hR3 hm11 (by rw [hE3]; exact hr1.trans hw1) (by decide) (fun _ => by rw [hE3]; exact hr2)⟩
      · skip
        exact absurd h_47 (by decide)
    · skip
      exact absurd h_13 (by decide)

set_option maxRecDepth 100000 in
set_option maxHeartbeats 4000000 in
theorem m_line_n2 {D E : Wd} {t : Nat → Nat} {len : Nat} {R : RS} {m : Nat} {rc : Nat → Nat × Nat} {p e : Nat} (hR : RK D E t len R m rc p e) (hm11 : m ≤ 11) (hwo : wOf t p e = some 2) (hno : NumN t len 0 (R.1 - 1) (tkP t len e) (tkE t len (tkP t len e))) : Mok mX6_readsLine idsA 5 [vr (30, 0)] E (fun r' E' => r' = (some (vi (nI 0))) ∧ RK D E' t len R m rc (tkP t len e) (tkE t len (tkP t len e))) := by
  obtain ⟨hX, ⟨h12, h13, h14⟩, hT, hRD, ⟨h5, hm12⟩, hRC, hFR⟩ := id hR
  obtain ⟨r1, r2, r3, r4, r5, r6, r7, r8, r9, r10⟩ := id hRD
  have hR0 := RK.tok hR
  refine Mok.of (L := [some (vr (30, 0)), none]) rfl (fun _ => Nat.le_of_ble_eq_true rfl) (fun _ => rfl) (fun X cx rq => ?_)
  refine g_aload_n cx dX6_readsLine_0 rfl ?_
  refine g_fcallV (As := []) (rest := []) cx knX6_wordOf (m_wordOf hX h13 h14 hT) a30_0 rfl rfl lmX6_140 niX6_wordOf seX6_wordOf rfl (by decide) (Nat.le_of_ble_eq_true rfl) rfl dX6_readsLine_1 ?_
  refine g_top (y := nI 2) (by rw [hwo]; rfl) ?_
  refine g_istore_n (L' := [some (vr (30, 0)), some (vi (nI 2))]) cx dX6_readsLine_4 (by decide) rfl rfl ?_
  refine g_iload_n cx dX6_readsLine_5 rfl ?_
  refine g_iconst (v := (-1)) cx dX6_readsLine_6 (by decide) ?_
  refine g_icmp_eq (tgt := 24) cx dX6_readsLine_7 (by decide) (fun h_7 => ?_) (fun h_7 => ?_)
  · skip
    exact absurd h_7 (by decide)
  · skip
    refine g_iload_n cx dX6_readsLine_10 rfl ?_
    refine g_bipush (v := nI 8) cx dX6_readsLine_11 (by decide) ?_
    refine g_icmp_neN (tgt := 26) cx dX6_readsLine_13 (by decide) (by omega) (by omega) (fun h_13 => ?_) (fun h_13 => ?_)
    · skip
      refine g_aload_n cx dX6_readsLine_26 rfl ?_
      refine g_fcallVv (As := []) (rest := []) cx knX6_token (m_token hX h12 hT.2.1) a30_0 rfl rfl lmX6_105 niX6_token seX6_token rfl (by decide) (Nat.le_of_ble_eq_true rfl) rfl dX6_readsLine_27 ?_
      refine g_aload_n cx dX6_readsLine_30 rfl ?_
      refine g_getR (i := (30, 0)) (ci := 6) (k := 4) (j := (34, 0)) cx a30_0 rfl rfl rfl (by decide) inX6 lfX6_20 dX6_readsLine_31 ?_
      refine g_iconst (v := nI 3) cx dX6_readsLine_34 (by decide) ?_
      refine g_aload_n cx dX6_readsLine_35 rfl ?_
      refine g_getIN (i := (30, 0)) (ci := 6) (k := 5) (v := nI m) cx a30_0 rfl rfl rfl (by decide) inX6 lfX6_102 dX6_readsLine_36 (hR0.2.2.2.2.1.1) ?_
      refine g_imulN cx dX6_readsLine_39 ?_
      refine g_iload_n cx dX6_readsLine_40 rfl ?_
      refine g_iast (i := (34, 0)) (j := 3 * m) cx a34_0 rfl (rfl) (by omega) (by decide) dX6_readsLine_41 ?_
      obtain ⟨F1, hF1⟩ : ∃ F1, F1 = upA (PS E (tkP t len e) (tkE t len (tkP t len e))) (34, 0) (upd ((PS E (tkP t len e) (tkE t len (tkP t len e))) (34, 0)) (3 * m) (nI 2)) := ⟨_, rfl⟩
      refine g_wd hF1.symm ?_
      have hR1 : RK D F1 t len R m rc (tkP t len e) (tkE t len (tkP t len e)) := by rw [hF1]; exact RK.rd (by omega) hR0
      have hw1 : F1 (34, 0) (3 * m) = nI 2 := by rw [hF1, upA_s]; exact upd_at _ _ _
      refine g_aload_n cx dX6_readsLine_42 rfl ?_
      refine g_iload_n cx dX6_readsLine_43 rfl ?_
      refine g_fcallV (As := [vi (nI 2)]) (rest := []) cx knX6_readsRest (m_rr2_n hR1 hno) a30_0 rfl rfl lmX6_143 niX6_readsRest seX6_readsRest rfl (by decide) (Nat.le_of_ble_eq_true rfl) rfl dX6_readsLine_44 ?_
      refine g_if_neN (tgt := 52) cx dX6_readsLine_47 (by decide) (by omega) (fun h_47 => ?_) (fun h_47 => ?_)
      · skip
        exact absurd rfl h_47
      · skip
        refine g_iconst (v := nI 0) cx dX6_readsLine_50 (by decide) ?_
        exact g_ret cx rq rfl (by rfl) dX6_readsLine_51 ⟨rfl, hR1⟩
    · skip
      exact absurd h_13 (by decide)

set_option maxRecDepth 100000 in
set_option maxHeartbeats 4000000 in
theorem m_line_y3 {D E : Wd} {t : Nat → Nat} {len : Nat} {R : RS} {m : Nat} {rc : Nat → Nat × Nat} {p e : Nat} (hR : RK D E t len R m rc p e) (hm11 : m ≤ 11) (hwo : wOf t p e = some 3) {a : Nat} (hy1 : NumY t len 0 (R.1 - 1) (tkP t len e) (tkE t len (tkP t len e)) a) : Mok mX6_readsLine idsA 5 [vr (30, 0)] E (fun r' E' => r' = (some (vi (nI 1))) ∧ RK D E' t len (goR R 3 a 0) (m + 1) (fun q => if q = m then (3, a) else rc q) (tkP t len (tkE t len (tkP t len e))) (tkE t len (tkP t len (tkE t len (tkP t len e))))) := by
  obtain ⟨hX, ⟨h12, h13, h14⟩, hT, hRD, ⟨h5, hm12⟩, hRC, hFR⟩ := id hR
  obtain ⟨r1, r2, r3, r4, r5, r6, r7, r8, r9, r10⟩ := id hRD
  have hR0 := RK.tok hR
  refine Mok.of (L := [some (vr (30, 0)), none]) rfl (fun _ => Nat.le_of_ble_eq_true rfl) (fun _ => rfl) (fun X cx rq => ?_)
  refine g_aload_n cx dX6_readsLine_0 rfl ?_
  refine g_fcallV (As := []) (rest := []) cx knX6_wordOf (m_wordOf hX h13 h14 hT) a30_0 rfl rfl lmX6_140 niX6_wordOf seX6_wordOf rfl (by decide) (Nat.le_of_ble_eq_true rfl) rfl dX6_readsLine_1 ?_
  refine g_top (y := nI 3) (by rw [hwo]; rfl) ?_
  refine g_istore_n (L' := [some (vr (30, 0)), some (vi (nI 3))]) cx dX6_readsLine_4 (by decide) rfl rfl ?_
  refine g_iload_n cx dX6_readsLine_5 rfl ?_
  refine g_iconst (v := (-1)) cx dX6_readsLine_6 (by decide) ?_
  refine g_icmp_eq (tgt := 24) cx dX6_readsLine_7 (by decide) (fun h_7 => ?_) (fun h_7 => ?_)
  · skip
    exact absurd h_7 (by decide)
  · skip
    refine g_iload_n cx dX6_readsLine_10 rfl ?_
    refine g_bipush (v := nI 8) cx dX6_readsLine_11 (by decide) ?_
    refine g_icmp_neN (tgt := 26) cx dX6_readsLine_13 (by decide) (by omega) (by omega) (fun h_13 => ?_) (fun h_13 => ?_)
    · skip
      refine g_aload_n cx dX6_readsLine_26 rfl ?_
      refine g_fcallVv (As := []) (rest := []) cx knX6_token (m_token hX h12 hT.2.1) a30_0 rfl rfl lmX6_105 niX6_token seX6_token rfl (by decide) (Nat.le_of_ble_eq_true rfl) rfl dX6_readsLine_27 ?_
      refine g_aload_n cx dX6_readsLine_30 rfl ?_
      refine g_getR (i := (30, 0)) (ci := 6) (k := 4) (j := (34, 0)) cx a30_0 rfl rfl rfl (by decide) inX6 lfX6_20 dX6_readsLine_31 ?_
      refine g_iconst (v := nI 3) cx dX6_readsLine_34 (by decide) ?_
      refine g_aload_n cx dX6_readsLine_35 rfl ?_
      refine g_getIN (i := (30, 0)) (ci := 6) (k := 5) (v := nI m) cx a30_0 rfl rfl rfl (by decide) inX6 lfX6_102 dX6_readsLine_36 (hR0.2.2.2.2.1.1) ?_
      refine g_imulN cx dX6_readsLine_39 ?_
      refine g_iload_n cx dX6_readsLine_40 rfl ?_
      refine g_iast (i := (34, 0)) (j := 3 * m) cx a34_0 rfl (rfl) (by omega) (by decide) dX6_readsLine_41 ?_
      obtain ⟨F1, hF1⟩ : ∃ F1, F1 = upA (PS E (tkP t len e) (tkE t len (tkP t len e))) (34, 0) (upd ((PS E (tkP t len e) (tkE t len (tkP t len e))) (34, 0)) (3 * m) (nI 3)) := ⟨_, rfl⟩
      refine g_wd hF1.symm ?_
      have hR1 : RK D F1 t len R m rc (tkP t len e) (tkE t len (tkP t len e)) := by rw [hF1]; exact RK.rd (by omega) hR0
      have hw1 : F1 (34, 0) (3 * m) = nI 3 := by rw [hF1, upA_s]; exact upd_at _ _ _
      refine g_aload_n cx dX6_readsLine_42 rfl ?_
      refine g_iload_n cx dX6_readsLine_43 rfl ?_
      refine g_callV (As := [vi (nI 3)]) (rest := []) cx knX6_readsRest (m_rr3_y hR1 hm11 hy1) a30_0 rfl rfl lmX6_143 niX6_readsRest seX6_readsRest rfl (by decide) (Nat.le_of_ble_eq_true rfl) rfl dX6_readsLine_44 (fun r0 F2 hp0 => ?_)
      obtain ⟨rfl, hR2, hr1, hr2⟩ := hp0
      show Gk X mX6_readsLine idsA 47 [some (vr (30, 0)), some (vi (nI 3))] [vi (nI 1)] F2
      refine g_if_neN (tgt := 52) cx dX6_readsLine_47 (by decide) (by omega) (fun h_47 => ?_) (fun h_47 => ?_)
      · skip
        refine g_aload_n cx dX6_readsLine_52 rfl ?_
        refine g_iload_n cx dX6_readsLine_53 rfl ?_
        refine g_aload_n cx dX6_readsLine_54 rfl ?_
        refine g_getR (i := (30, 0)) (ci := 6) (k := 4) (j := (34, 0)) cx a30_0 rfl rfl rfl (by decide) inX6 lfX6_20 dX6_readsLine_55 ?_
        refine g_iconst (v := nI 3) cx dX6_readsLine_58 (by decide) ?_
        refine g_aload_n cx dX6_readsLine_59 rfl ?_
        refine g_getIN (i := (30, 0)) (ci := 6) (k := 5) (v := nI m) cx a30_0 rfl rfl rfl (by decide) inX6 lfX6_102 dX6_readsLine_60 (hR2.2.2.2.2.1.1) ?_
        refine g_imulN cx dX6_readsLine_63 ?_
        refine g_iconst (v := nI 1) cx dX6_readsLine_64 (by decide) ?_
        refine g_iaddN cx dX6_readsLine_65 ?_
        refine g_ialdN (i := (34, 0)) (j := (3 * m) + 1) (v := nI a) cx a34_0 rfl (rfl) (by omega) (by decide) dX6_readsLine_66 (hr2) ?_
        refine g_aload_n cx dX6_readsLine_67 rfl ?_
        refine g_getR (i := (30, 0)) (ci := 6) (k := 4) (j := (34, 0)) cx a30_0 rfl rfl rfl (by decide) inX6 lfX6_20 dX6_readsLine_68 ?_
        refine g_iconst (v := nI 3) cx dX6_readsLine_71 (by decide) ?_
        refine g_aload_n cx dX6_readsLine_72 rfl ?_
        refine g_getIN (i := (30, 0)) (ci := 6) (k := 5) (v := nI m) cx a30_0 rfl rfl rfl (by decide) inX6 lfX6_102 dX6_readsLine_73 (hR2.2.2.2.2.1.1) ?_
        refine g_imulN cx dX6_readsLine_76 ?_
        refine g_iconst (v := nI 2) cx dX6_readsLine_77 (by decide) ?_
        refine g_iaddN cx dX6_readsLine_78 ?_
        refine g_iald (i := (34, 0)) (j := (3 * m) + 2) cx a34_0 rfl (rfl) (by omega) (by decide) dX6_readsLine_79 ?_
        refine g_callV (As := [vi (nI 3), vi (nI a), vi (F2 (34, 0) ((3 * m) + 2))]) (rest := []) cx knX6_goOn (m_goOn3 hR2 (nI a) (F2 (34, 0) ((3 * m) + 2)) (a := a) (c := 0)) a30_0 rfl rfl lmX6_146 niX6_goOn seX6_goOn rfl (by decide) (Nat.le_of_ble_eq_true rfl) rfl dX6_readsLine_80 (fun r0 F3 hp0 => ?_)
        obtain ⟨rfl, hR3, hE3⟩ := hp0
        show Gk X mX6_readsLine idsA 83 [some (vr (30, 0)), some (vi (nI 3))] [] F3
        refine g_aload_n cx dX6_readsLine_83 rfl ?_
        refine g_dup cx dX6_readsLine_84 rfl ?_
        refine g_getIN (i := (30, 0)) (ci := 6) (k := 5) (v := nI m) cx a30_0 rfl rfl rfl (by decide) inX6 lfX6_102 dX6_readsLine_85 (hR3.2.2.2.2.1.1) ?_
        refine g_iconst (v := nI 1) cx dX6_readsLine_88 (by decide) ?_
        refine g_iaddN cx dX6_readsLine_89 ?_
        refine g_putI (i := (30, 0)) (ci := 6) (k := 5) cx a30_0 rfl rfl rfl (by decide) inX6 tyX6_ok nmX6 rfl rfl lfX6_102 dX6_readsLine_90 ?_
        refine g_iconst (v := nI 1) cx dX6_readsLine_93 (by decide) ?_
        exact g_ret cx rq rfl (by rfl) dX6_readsLine_94 ⟨rfl, RK.inc hR3 hm11 (by rw [hE3]; exact hr1.trans hw1) (by decide) (fun _ => by rw [hE3]; exact hr2)⟩
      · skip
        exact absurd h_47 (by decide)
    · skip
      exact absurd h_13 (by decide)

set_option maxRecDepth 100000 in
set_option maxHeartbeats 4000000 in
theorem m_line_n3 {D E : Wd} {t : Nat → Nat} {len : Nat} {R : RS} {m : Nat} {rc : Nat → Nat × Nat} {p e : Nat} (hR : RK D E t len R m rc p e) (hm11 : m ≤ 11) (hwo : wOf t p e = some 3) (hno : NumN t len 0 (R.1 - 1) (tkP t len e) (tkE t len (tkP t len e))) : Mok mX6_readsLine idsA 5 [vr (30, 0)] E (fun r' E' => r' = (some (vi (nI 0))) ∧ RK D E' t len R m rc (tkP t len e) (tkE t len (tkP t len e))) := by
  obtain ⟨hX, ⟨h12, h13, h14⟩, hT, hRD, ⟨h5, hm12⟩, hRC, hFR⟩ := id hR
  obtain ⟨r1, r2, r3, r4, r5, r6, r7, r8, r9, r10⟩ := id hRD
  have hR0 := RK.tok hR
  refine Mok.of (L := [some (vr (30, 0)), none]) rfl (fun _ => Nat.le_of_ble_eq_true rfl) (fun _ => rfl) (fun X cx rq => ?_)
  refine g_aload_n cx dX6_readsLine_0 rfl ?_
  refine g_fcallV (As := []) (rest := []) cx knX6_wordOf (m_wordOf hX h13 h14 hT) a30_0 rfl rfl lmX6_140 niX6_wordOf seX6_wordOf rfl (by decide) (Nat.le_of_ble_eq_true rfl) rfl dX6_readsLine_1 ?_
  refine g_top (y := nI 3) (by rw [hwo]; rfl) ?_
  refine g_istore_n (L' := [some (vr (30, 0)), some (vi (nI 3))]) cx dX6_readsLine_4 (by decide) rfl rfl ?_
  refine g_iload_n cx dX6_readsLine_5 rfl ?_
  refine g_iconst (v := (-1)) cx dX6_readsLine_6 (by decide) ?_
  refine g_icmp_eq (tgt := 24) cx dX6_readsLine_7 (by decide) (fun h_7 => ?_) (fun h_7 => ?_)
  · skip
    exact absurd h_7 (by decide)
  · skip
    refine g_iload_n cx dX6_readsLine_10 rfl ?_
    refine g_bipush (v := nI 8) cx dX6_readsLine_11 (by decide) ?_
    refine g_icmp_neN (tgt := 26) cx dX6_readsLine_13 (by decide) (by omega) (by omega) (fun h_13 => ?_) (fun h_13 => ?_)
    · skip
      refine g_aload_n cx dX6_readsLine_26 rfl ?_
      refine g_fcallVv (As := []) (rest := []) cx knX6_token (m_token hX h12 hT.2.1) a30_0 rfl rfl lmX6_105 niX6_token seX6_token rfl (by decide) (Nat.le_of_ble_eq_true rfl) rfl dX6_readsLine_27 ?_
      refine g_aload_n cx dX6_readsLine_30 rfl ?_
      refine g_getR (i := (30, 0)) (ci := 6) (k := 4) (j := (34, 0)) cx a30_0 rfl rfl rfl (by decide) inX6 lfX6_20 dX6_readsLine_31 ?_
      refine g_iconst (v := nI 3) cx dX6_readsLine_34 (by decide) ?_
      refine g_aload_n cx dX6_readsLine_35 rfl ?_
      refine g_getIN (i := (30, 0)) (ci := 6) (k := 5) (v := nI m) cx a30_0 rfl rfl rfl (by decide) inX6 lfX6_102 dX6_readsLine_36 (hR0.2.2.2.2.1.1) ?_
      refine g_imulN cx dX6_readsLine_39 ?_
      refine g_iload_n cx dX6_readsLine_40 rfl ?_
      refine g_iast (i := (34, 0)) (j := 3 * m) cx a34_0 rfl (rfl) (by omega) (by decide) dX6_readsLine_41 ?_
      obtain ⟨F1, hF1⟩ : ∃ F1, F1 = upA (PS E (tkP t len e) (tkE t len (tkP t len e))) (34, 0) (upd ((PS E (tkP t len e) (tkE t len (tkP t len e))) (34, 0)) (3 * m) (nI 3)) := ⟨_, rfl⟩
      refine g_wd hF1.symm ?_
      have hR1 : RK D F1 t len R m rc (tkP t len e) (tkE t len (tkP t len e)) := by rw [hF1]; exact RK.rd (by omega) hR0
      have hw1 : F1 (34, 0) (3 * m) = nI 3 := by rw [hF1, upA_s]; exact upd_at _ _ _
      refine g_aload_n cx dX6_readsLine_42 rfl ?_
      refine g_iload_n cx dX6_readsLine_43 rfl ?_
      refine g_fcallV (As := [vi (nI 3)]) (rest := []) cx knX6_readsRest (m_rr3_n hR1 hno) a30_0 rfl rfl lmX6_143 niX6_readsRest seX6_readsRest rfl (by decide) (Nat.le_of_ble_eq_true rfl) rfl dX6_readsLine_44 ?_
      refine g_if_neN (tgt := 52) cx dX6_readsLine_47 (by decide) (by omega) (fun h_47 => ?_) (fun h_47 => ?_)
      · skip
        exact absurd rfl h_47
      · skip
        refine g_iconst (v := nI 0) cx dX6_readsLine_50 (by decide) ?_
        exact g_ret cx rq rfl (by rfl) dX6_readsLine_51 ⟨rfl, hR1⟩
    · skip
      exact absurd h_13 (by decide)

set_option maxRecDepth 100000 in
set_option maxHeartbeats 4000000 in
theorem m_line_y4 {D E : Wd} {t : Nat → Nat} {len : Nat} {R : RS} {m : Nat} {rc : Nat → Nat × Nat} {p e : Nat} (hR : RK D E t len R m rc p e) (hm11 : m ≤ 11) (hwo : wOf t p e = some 4) {a : Nat} (hy1 : NumY t len 0 (R.1 - 1) (tkP t len e) (tkE t len (tkP t len e)) a) : Mok mX6_readsLine idsA 5 [vr (30, 0)] E (fun r' E' => r' = (some (vi (nI 1))) ∧ RK D E' t len (goR R 4 a 0) (m + 1) (fun q => if q = m then (4, a) else rc q) (tkP t len (tkE t len (tkP t len e))) (tkE t len (tkP t len (tkE t len (tkP t len e))))) := by
  obtain ⟨hX, ⟨h12, h13, h14⟩, hT, hRD, ⟨h5, hm12⟩, hRC, hFR⟩ := id hR
  obtain ⟨r1, r2, r3, r4, r5, r6, r7, r8, r9, r10⟩ := id hRD
  have hR0 := RK.tok hR
  refine Mok.of (L := [some (vr (30, 0)), none]) rfl (fun _ => Nat.le_of_ble_eq_true rfl) (fun _ => rfl) (fun X cx rq => ?_)
  refine g_aload_n cx dX6_readsLine_0 rfl ?_
  refine g_fcallV (As := []) (rest := []) cx knX6_wordOf (m_wordOf hX h13 h14 hT) a30_0 rfl rfl lmX6_140 niX6_wordOf seX6_wordOf rfl (by decide) (Nat.le_of_ble_eq_true rfl) rfl dX6_readsLine_1 ?_
  refine g_top (y := nI 4) (by rw [hwo]; rfl) ?_
  refine g_istore_n (L' := [some (vr (30, 0)), some (vi (nI 4))]) cx dX6_readsLine_4 (by decide) rfl rfl ?_
  refine g_iload_n cx dX6_readsLine_5 rfl ?_
  refine g_iconst (v := (-1)) cx dX6_readsLine_6 (by decide) ?_
  refine g_icmp_eq (tgt := 24) cx dX6_readsLine_7 (by decide) (fun h_7 => ?_) (fun h_7 => ?_)
  · skip
    exact absurd h_7 (by decide)
  · skip
    refine g_iload_n cx dX6_readsLine_10 rfl ?_
    refine g_bipush (v := nI 8) cx dX6_readsLine_11 (by decide) ?_
    refine g_icmp_neN (tgt := 26) cx dX6_readsLine_13 (by decide) (by omega) (by omega) (fun h_13 => ?_) (fun h_13 => ?_)
    · skip
      refine g_aload_n cx dX6_readsLine_26 rfl ?_
      refine g_fcallVv (As := []) (rest := []) cx knX6_token (m_token hX h12 hT.2.1) a30_0 rfl rfl lmX6_105 niX6_token seX6_token rfl (by decide) (Nat.le_of_ble_eq_true rfl) rfl dX6_readsLine_27 ?_
      refine g_aload_n cx dX6_readsLine_30 rfl ?_
      refine g_getR (i := (30, 0)) (ci := 6) (k := 4) (j := (34, 0)) cx a30_0 rfl rfl rfl (by decide) inX6 lfX6_20 dX6_readsLine_31 ?_
      refine g_iconst (v := nI 3) cx dX6_readsLine_34 (by decide) ?_
      refine g_aload_n cx dX6_readsLine_35 rfl ?_
      refine g_getIN (i := (30, 0)) (ci := 6) (k := 5) (v := nI m) cx a30_0 rfl rfl rfl (by decide) inX6 lfX6_102 dX6_readsLine_36 (hR0.2.2.2.2.1.1) ?_
      refine g_imulN cx dX6_readsLine_39 ?_
      refine g_iload_n cx dX6_readsLine_40 rfl ?_
      refine g_iast (i := (34, 0)) (j := 3 * m) cx a34_0 rfl (rfl) (by omega) (by decide) dX6_readsLine_41 ?_
      obtain ⟨F1, hF1⟩ : ∃ F1, F1 = upA (PS E (tkP t len e) (tkE t len (tkP t len e))) (34, 0) (upd ((PS E (tkP t len e) (tkE t len (tkP t len e))) (34, 0)) (3 * m) (nI 4)) := ⟨_, rfl⟩
      refine g_wd hF1.symm ?_
      have hR1 : RK D F1 t len R m rc (tkP t len e) (tkE t len (tkP t len e)) := by rw [hF1]; exact RK.rd (by omega) hR0
      have hw1 : F1 (34, 0) (3 * m) = nI 4 := by rw [hF1, upA_s]; exact upd_at _ _ _
      refine g_aload_n cx dX6_readsLine_42 rfl ?_
      refine g_iload_n cx dX6_readsLine_43 rfl ?_
      refine g_callV (As := [vi (nI 4)]) (rest := []) cx knX6_readsRest (m_rr4_y hR1 hm11 hy1) a30_0 rfl rfl lmX6_143 niX6_readsRest seX6_readsRest rfl (by decide) (Nat.le_of_ble_eq_true rfl) rfl dX6_readsLine_44 (fun r0 F2 hp0 => ?_)
      obtain ⟨rfl, hR2, hr1, hr2⟩ := hp0
      show Gk X mX6_readsLine idsA 47 [some (vr (30, 0)), some (vi (nI 4))] [vi (nI 1)] F2
      refine g_if_neN (tgt := 52) cx dX6_readsLine_47 (by decide) (by omega) (fun h_47 => ?_) (fun h_47 => ?_)
      · skip
        refine g_aload_n cx dX6_readsLine_52 rfl ?_
        refine g_iload_n cx dX6_readsLine_53 rfl ?_
        refine g_aload_n cx dX6_readsLine_54 rfl ?_
        refine g_getR (i := (30, 0)) (ci := 6) (k := 4) (j := (34, 0)) cx a30_0 rfl rfl rfl (by decide) inX6 lfX6_20 dX6_readsLine_55 ?_
        refine g_iconst (v := nI 3) cx dX6_readsLine_58 (by decide) ?_
        refine g_aload_n cx dX6_readsLine_59 rfl ?_
        refine g_getIN (i := (30, 0)) (ci := 6) (k := 5) (v := nI m) cx a30_0 rfl rfl rfl (by decide) inX6 lfX6_102 dX6_readsLine_60 (hR2.2.2.2.2.1.1) ?_
        refine g_imulN cx dX6_readsLine_63 ?_
        refine g_iconst (v := nI 1) cx dX6_readsLine_64 (by decide) ?_
        refine g_iaddN cx dX6_readsLine_65 ?_
        refine g_ialdN (i := (34, 0)) (j := (3 * m) + 1) (v := nI a) cx a34_0 rfl (rfl) (by omega) (by decide) dX6_readsLine_66 (hr2) ?_
        refine g_aload_n cx dX6_readsLine_67 rfl ?_
        refine g_getR (i := (30, 0)) (ci := 6) (k := 4) (j := (34, 0)) cx a30_0 rfl rfl rfl (by decide) inX6 lfX6_20 dX6_readsLine_68 ?_
        refine g_iconst (v := nI 3) cx dX6_readsLine_71 (by decide) ?_
        refine g_aload_n cx dX6_readsLine_72 rfl ?_
        refine g_getIN (i := (30, 0)) (ci := 6) (k := 5) (v := nI m) cx a30_0 rfl rfl rfl (by decide) inX6 lfX6_102 dX6_readsLine_73 (hR2.2.2.2.2.1.1) ?_
        refine g_imulN cx dX6_readsLine_76 ?_
        refine g_iconst (v := nI 2) cx dX6_readsLine_77 (by decide) ?_
        refine g_iaddN cx dX6_readsLine_78 ?_
        refine g_iald (i := (34, 0)) (j := (3 * m) + 2) cx a34_0 rfl (rfl) (by omega) (by decide) dX6_readsLine_79 ?_
        refine g_callV (As := [vi (nI 4), vi (nI a), vi (F2 (34, 0) ((3 * m) + 2))]) (rest := []) cx knX6_goOn (m_goOn4 hR2 (nI a) (F2 (34, 0) ((3 * m) + 2)) (a := a) (c := 0)) a30_0 rfl rfl lmX6_146 niX6_goOn seX6_goOn rfl (by decide) (Nat.le_of_ble_eq_true rfl) rfl dX6_readsLine_80 (fun r0 F3 hp0 => ?_)
        obtain ⟨rfl, hR3, hE3⟩ := hp0
        show Gk X mX6_readsLine idsA 83 [some (vr (30, 0)), some (vi (nI 4))] [] F3
        refine g_aload_n cx dX6_readsLine_83 rfl ?_
        refine g_dup cx dX6_readsLine_84 rfl ?_
        refine g_getIN (i := (30, 0)) (ci := 6) (k := 5) (v := nI m) cx a30_0 rfl rfl rfl (by decide) inX6 lfX6_102 dX6_readsLine_85 (hR3.2.2.2.2.1.1) ?_
        refine g_iconst (v := nI 1) cx dX6_readsLine_88 (by decide) ?_
        refine g_iaddN cx dX6_readsLine_89 ?_
        refine g_putI (i := (30, 0)) (ci := 6) (k := 5) cx a30_0 rfl rfl rfl (by decide) inX6 tyX6_ok nmX6 rfl rfl lfX6_102 dX6_readsLine_90 ?_
        refine g_iconst (v := nI 1) cx dX6_readsLine_93 (by decide) ?_
        exact g_ret cx rq rfl (by rfl) dX6_readsLine_94 ⟨rfl, RK.inc hR3 hm11 (by rw [hE3]; exact hr1.trans hw1) (by decide) (fun _ => by rw [hE3]; exact hr2)⟩
      · skip
        exact absurd h_47 (by decide)
    · skip
      exact absurd h_13 (by decide)

set_option maxRecDepth 100000 in
set_option maxHeartbeats 4000000 in
theorem m_line_n4 {D E : Wd} {t : Nat → Nat} {len : Nat} {R : RS} {m : Nat} {rc : Nat → Nat × Nat} {p e : Nat} (hR : RK D E t len R m rc p e) (hm11 : m ≤ 11) (hwo : wOf t p e = some 4) (hno : NumN t len 0 (R.1 - 1) (tkP t len e) (tkE t len (tkP t len e))) : Mok mX6_readsLine idsA 5 [vr (30, 0)] E (fun r' E' => r' = (some (vi (nI 0))) ∧ RK D E' t len R m rc (tkP t len e) (tkE t len (tkP t len e))) := by
  obtain ⟨hX, ⟨h12, h13, h14⟩, hT, hRD, ⟨h5, hm12⟩, hRC, hFR⟩ := id hR
  obtain ⟨r1, r2, r3, r4, r5, r6, r7, r8, r9, r10⟩ := id hRD
  have hR0 := RK.tok hR
  refine Mok.of (L := [some (vr (30, 0)), none]) rfl (fun _ => Nat.le_of_ble_eq_true rfl) (fun _ => rfl) (fun X cx rq => ?_)
  refine g_aload_n cx dX6_readsLine_0 rfl ?_
  refine g_fcallV (As := []) (rest := []) cx knX6_wordOf (m_wordOf hX h13 h14 hT) a30_0 rfl rfl lmX6_140 niX6_wordOf seX6_wordOf rfl (by decide) (Nat.le_of_ble_eq_true rfl) rfl dX6_readsLine_1 ?_
  refine g_top (y := nI 4) (by rw [hwo]; rfl) ?_
  refine g_istore_n (L' := [some (vr (30, 0)), some (vi (nI 4))]) cx dX6_readsLine_4 (by decide) rfl rfl ?_
  refine g_iload_n cx dX6_readsLine_5 rfl ?_
  refine g_iconst (v := (-1)) cx dX6_readsLine_6 (by decide) ?_
  refine g_icmp_eq (tgt := 24) cx dX6_readsLine_7 (by decide) (fun h_7 => ?_) (fun h_7 => ?_)
  · skip
    exact absurd h_7 (by decide)
  · skip
    refine g_iload_n cx dX6_readsLine_10 rfl ?_
    refine g_bipush (v := nI 8) cx dX6_readsLine_11 (by decide) ?_
    refine g_icmp_neN (tgt := 26) cx dX6_readsLine_13 (by decide) (by omega) (by omega) (fun h_13 => ?_) (fun h_13 => ?_)
    · skip
      refine g_aload_n cx dX6_readsLine_26 rfl ?_
      refine g_fcallVv (As := []) (rest := []) cx knX6_token (m_token hX h12 hT.2.1) a30_0 rfl rfl lmX6_105 niX6_token seX6_token rfl (by decide) (Nat.le_of_ble_eq_true rfl) rfl dX6_readsLine_27 ?_
      refine g_aload_n cx dX6_readsLine_30 rfl ?_
      refine g_getR (i := (30, 0)) (ci := 6) (k := 4) (j := (34, 0)) cx a30_0 rfl rfl rfl (by decide) inX6 lfX6_20 dX6_readsLine_31 ?_
      refine g_iconst (v := nI 3) cx dX6_readsLine_34 (by decide) ?_
      refine g_aload_n cx dX6_readsLine_35 rfl ?_
      refine g_getIN (i := (30, 0)) (ci := 6) (k := 5) (v := nI m) cx a30_0 rfl rfl rfl (by decide) inX6 lfX6_102 dX6_readsLine_36 (hR0.2.2.2.2.1.1) ?_
      refine g_imulN cx dX6_readsLine_39 ?_
      refine g_iload_n cx dX6_readsLine_40 rfl ?_
      refine g_iast (i := (34, 0)) (j := 3 * m) cx a34_0 rfl (rfl) (by omega) (by decide) dX6_readsLine_41 ?_
      obtain ⟨F1, hF1⟩ : ∃ F1, F1 = upA (PS E (tkP t len e) (tkE t len (tkP t len e))) (34, 0) (upd ((PS E (tkP t len e) (tkE t len (tkP t len e))) (34, 0)) (3 * m) (nI 4)) := ⟨_, rfl⟩
      refine g_wd hF1.symm ?_
      have hR1 : RK D F1 t len R m rc (tkP t len e) (tkE t len (tkP t len e)) := by rw [hF1]; exact RK.rd (by omega) hR0
      have hw1 : F1 (34, 0) (3 * m) = nI 4 := by rw [hF1, upA_s]; exact upd_at _ _ _
      refine g_aload_n cx dX6_readsLine_42 rfl ?_
      refine g_iload_n cx dX6_readsLine_43 rfl ?_
      refine g_fcallV (As := [vi (nI 4)]) (rest := []) cx knX6_readsRest (m_rr4_n hR1 hno) a30_0 rfl rfl lmX6_143 niX6_readsRest seX6_readsRest rfl (by decide) (Nat.le_of_ble_eq_true rfl) rfl dX6_readsLine_44 ?_
      refine g_if_neN (tgt := 52) cx dX6_readsLine_47 (by decide) (by omega) (fun h_47 => ?_) (fun h_47 => ?_)
      · skip
        exact absurd rfl h_47
      · skip
        refine g_iconst (v := nI 0) cx dX6_readsLine_50 (by decide) ?_
        exact g_ret cx rq rfl (by rfl) dX6_readsLine_51 ⟨rfl, hR1⟩
    · skip
      exact absurd h_13 (by decide)

set_option maxRecDepth 100000 in
set_option maxHeartbeats 4000000 in
theorem m_line_y5 {D E : Wd} {t : Nat → Nat} {len : Nat} {R : RS} {m : Nat} {rc : Nat → Nat × Nat} {p e : Nat} (hR : RK D E t len R m rc p e) (hm11 : m ≤ 11) (hwo : wOf t p e = some 5) {a : Nat} (hy1 : NumY t len 0 (R.1 - 1) (tkP t len e) (tkE t len (tkP t len e)) a) : Mok mX6_readsLine idsA 5 [vr (30, 0)] E (fun r' E' => r' = (some (vi (nI 1))) ∧ RK D E' t len (goR R 5 a 0) (m + 1) (fun q => if q = m then (5, a) else rc q) (tkP t len (tkE t len (tkP t len e))) (tkE t len (tkP t len (tkE t len (tkP t len e))))) := by
  obtain ⟨hX, ⟨h12, h13, h14⟩, hT, hRD, ⟨h5, hm12⟩, hRC, hFR⟩ := id hR
  obtain ⟨r1, r2, r3, r4, r5, r6, r7, r8, r9, r10⟩ := id hRD
  have hR0 := RK.tok hR
  refine Mok.of (L := [some (vr (30, 0)), none]) rfl (fun _ => Nat.le_of_ble_eq_true rfl) (fun _ => rfl) (fun X cx rq => ?_)
  refine g_aload_n cx dX6_readsLine_0 rfl ?_
  refine g_fcallV (As := []) (rest := []) cx knX6_wordOf (m_wordOf hX h13 h14 hT) a30_0 rfl rfl lmX6_140 niX6_wordOf seX6_wordOf rfl (by decide) (Nat.le_of_ble_eq_true rfl) rfl dX6_readsLine_1 ?_
  refine g_top (y := nI 5) (by rw [hwo]; rfl) ?_
  refine g_istore_n (L' := [some (vr (30, 0)), some (vi (nI 5))]) cx dX6_readsLine_4 (by decide) rfl rfl ?_
  refine g_iload_n cx dX6_readsLine_5 rfl ?_
  refine g_iconst (v := (-1)) cx dX6_readsLine_6 (by decide) ?_
  refine g_icmp_eq (tgt := 24) cx dX6_readsLine_7 (by decide) (fun h_7 => ?_) (fun h_7 => ?_)
  · skip
    exact absurd h_7 (by decide)
  · skip
    refine g_iload_n cx dX6_readsLine_10 rfl ?_
    refine g_bipush (v := nI 8) cx dX6_readsLine_11 (by decide) ?_
    refine g_icmp_neN (tgt := 26) cx dX6_readsLine_13 (by decide) (by omega) (by omega) (fun h_13 => ?_) (fun h_13 => ?_)
    · skip
      refine g_aload_n cx dX6_readsLine_26 rfl ?_
      refine g_fcallVv (As := []) (rest := []) cx knX6_token (m_token hX h12 hT.2.1) a30_0 rfl rfl lmX6_105 niX6_token seX6_token rfl (by decide) (Nat.le_of_ble_eq_true rfl) rfl dX6_readsLine_27 ?_
      refine g_aload_n cx dX6_readsLine_30 rfl ?_
      refine g_getR (i := (30, 0)) (ci := 6) (k := 4) (j := (34, 0)) cx a30_0 rfl rfl rfl (by decide) inX6 lfX6_20 dX6_readsLine_31 ?_
      refine g_iconst (v := nI 3) cx dX6_readsLine_34 (by decide) ?_
      refine g_aload_n cx dX6_readsLine_35 rfl ?_
      refine g_getIN (i := (30, 0)) (ci := 6) (k := 5) (v := nI m) cx a30_0 rfl rfl rfl (by decide) inX6 lfX6_102 dX6_readsLine_36 (hR0.2.2.2.2.1.1) ?_
      refine g_imulN cx dX6_readsLine_39 ?_
      refine g_iload_n cx dX6_readsLine_40 rfl ?_
      refine g_iast (i := (34, 0)) (j := 3 * m) cx a34_0 rfl (rfl) (by omega) (by decide) dX6_readsLine_41 ?_
      obtain ⟨F1, hF1⟩ : ∃ F1, F1 = upA (PS E (tkP t len e) (tkE t len (tkP t len e))) (34, 0) (upd ((PS E (tkP t len e) (tkE t len (tkP t len e))) (34, 0)) (3 * m) (nI 5)) := ⟨_, rfl⟩
      refine g_wd hF1.symm ?_
      have hR1 : RK D F1 t len R m rc (tkP t len e) (tkE t len (tkP t len e)) := by rw [hF1]; exact RK.rd (by omega) hR0
      have hw1 : F1 (34, 0) (3 * m) = nI 5 := by rw [hF1, upA_s]; exact upd_at _ _ _
      refine g_aload_n cx dX6_readsLine_42 rfl ?_
      refine g_iload_n cx dX6_readsLine_43 rfl ?_
      refine g_callV (As := [vi (nI 5)]) (rest := []) cx knX6_readsRest (m_rr5_y hR1 hm11 hy1) a30_0 rfl rfl lmX6_143 niX6_readsRest seX6_readsRest rfl (by decide) (Nat.le_of_ble_eq_true rfl) rfl dX6_readsLine_44 (fun r0 F2 hp0 => ?_)
      obtain ⟨rfl, hR2, hr1, hr2⟩ := hp0
      show Gk X mX6_readsLine idsA 47 [some (vr (30, 0)), some (vi (nI 5))] [vi (nI 1)] F2
      refine g_if_neN (tgt := 52) cx dX6_readsLine_47 (by decide) (by omega) (fun h_47 => ?_) (fun h_47 => ?_)
      · skip
        refine g_aload_n cx dX6_readsLine_52 rfl ?_
        refine g_iload_n cx dX6_readsLine_53 rfl ?_
        refine g_aload_n cx dX6_readsLine_54 rfl ?_
        refine g_getR (i := (30, 0)) (ci := 6) (k := 4) (j := (34, 0)) cx a30_0 rfl rfl rfl (by decide) inX6 lfX6_20 dX6_readsLine_55 ?_
        refine g_iconst (v := nI 3) cx dX6_readsLine_58 (by decide) ?_
        refine g_aload_n cx dX6_readsLine_59 rfl ?_
        refine g_getIN (i := (30, 0)) (ci := 6) (k := 5) (v := nI m) cx a30_0 rfl rfl rfl (by decide) inX6 lfX6_102 dX6_readsLine_60 (hR2.2.2.2.2.1.1) ?_
        refine g_imulN cx dX6_readsLine_63 ?_
        refine g_iconst (v := nI 1) cx dX6_readsLine_64 (by decide) ?_
        refine g_iaddN cx dX6_readsLine_65 ?_
        refine g_ialdN (i := (34, 0)) (j := (3 * m) + 1) (v := nI a) cx a34_0 rfl (rfl) (by omega) (by decide) dX6_readsLine_66 (hr2) ?_
        refine g_aload_n cx dX6_readsLine_67 rfl ?_
        refine g_getR (i := (30, 0)) (ci := 6) (k := 4) (j := (34, 0)) cx a30_0 rfl rfl rfl (by decide) inX6 lfX6_20 dX6_readsLine_68 ?_
        refine g_iconst (v := nI 3) cx dX6_readsLine_71 (by decide) ?_
        refine g_aload_n cx dX6_readsLine_72 rfl ?_
        refine g_getIN (i := (30, 0)) (ci := 6) (k := 5) (v := nI m) cx a30_0 rfl rfl rfl (by decide) inX6 lfX6_102 dX6_readsLine_73 (hR2.2.2.2.2.1.1) ?_
        refine g_imulN cx dX6_readsLine_76 ?_
        refine g_iconst (v := nI 2) cx dX6_readsLine_77 (by decide) ?_
        refine g_iaddN cx dX6_readsLine_78 ?_
        refine g_iald (i := (34, 0)) (j := (3 * m) + 2) cx a34_0 rfl (rfl) (by omega) (by decide) dX6_readsLine_79 ?_
        refine g_callV (As := [vi (nI 5), vi (nI a), vi (F2 (34, 0) ((3 * m) + 2))]) (rest := []) cx knX6_goOn (m_goOn5 hR2 (nI a) (F2 (34, 0) ((3 * m) + 2)) (a := a) (c := 0)) a30_0 rfl rfl lmX6_146 niX6_goOn seX6_goOn rfl (by decide) (Nat.le_of_ble_eq_true rfl) rfl dX6_readsLine_80 (fun r0 F3 hp0 => ?_)
        obtain ⟨rfl, hR3, hE3⟩ := hp0
        show Gk X mX6_readsLine idsA 83 [some (vr (30, 0)), some (vi (nI 5))] [] F3
        refine g_aload_n cx dX6_readsLine_83 rfl ?_
        refine g_dup cx dX6_readsLine_84 rfl ?_
        refine g_getIN (i := (30, 0)) (ci := 6) (k := 5) (v := nI m) cx a30_0 rfl rfl rfl (by decide) inX6 lfX6_102 dX6_readsLine_85 (hR3.2.2.2.2.1.1) ?_
        refine g_iconst (v := nI 1) cx dX6_readsLine_88 (by decide) ?_
        refine g_iaddN cx dX6_readsLine_89 ?_
        refine g_putI (i := (30, 0)) (ci := 6) (k := 5) cx a30_0 rfl rfl rfl (by decide) inX6 tyX6_ok nmX6 rfl rfl lfX6_102 dX6_readsLine_90 ?_
        refine g_iconst (v := nI 1) cx dX6_readsLine_93 (by decide) ?_
        exact g_ret cx rq rfl (by rfl) dX6_readsLine_94 ⟨rfl, RK.inc hR3 hm11 (by rw [hE3]; exact hr1.trans hw1) (by decide) (fun _ => by rw [hE3]; exact hr2)⟩
      · skip
        exact absurd h_47 (by decide)
    · skip
      exact absurd h_13 (by decide)

set_option maxRecDepth 100000 in
set_option maxHeartbeats 4000000 in
theorem m_line_n5 {D E : Wd} {t : Nat → Nat} {len : Nat} {R : RS} {m : Nat} {rc : Nat → Nat × Nat} {p e : Nat} (hR : RK D E t len R m rc p e) (hm11 : m ≤ 11) (hwo : wOf t p e = some 5) (hno : NumN t len 0 (R.1 - 1) (tkP t len e) (tkE t len (tkP t len e))) : Mok mX6_readsLine idsA 5 [vr (30, 0)] E (fun r' E' => r' = (some (vi (nI 0))) ∧ RK D E' t len R m rc (tkP t len e) (tkE t len (tkP t len e))) := by
  obtain ⟨hX, ⟨h12, h13, h14⟩, hT, hRD, ⟨h5, hm12⟩, hRC, hFR⟩ := id hR
  obtain ⟨r1, r2, r3, r4, r5, r6, r7, r8, r9, r10⟩ := id hRD
  have hR0 := RK.tok hR
  refine Mok.of (L := [some (vr (30, 0)), none]) rfl (fun _ => Nat.le_of_ble_eq_true rfl) (fun _ => rfl) (fun X cx rq => ?_)
  refine g_aload_n cx dX6_readsLine_0 rfl ?_
  refine g_fcallV (As := []) (rest := []) cx knX6_wordOf (m_wordOf hX h13 h14 hT) a30_0 rfl rfl lmX6_140 niX6_wordOf seX6_wordOf rfl (by decide) (Nat.le_of_ble_eq_true rfl) rfl dX6_readsLine_1 ?_
  refine g_top (y := nI 5) (by rw [hwo]; rfl) ?_
  refine g_istore_n (L' := [some (vr (30, 0)), some (vi (nI 5))]) cx dX6_readsLine_4 (by decide) rfl rfl ?_
  refine g_iload_n cx dX6_readsLine_5 rfl ?_
  refine g_iconst (v := (-1)) cx dX6_readsLine_6 (by decide) ?_
  refine g_icmp_eq (tgt := 24) cx dX6_readsLine_7 (by decide) (fun h_7 => ?_) (fun h_7 => ?_)
  · skip
    exact absurd h_7 (by decide)
  · skip
    refine g_iload_n cx dX6_readsLine_10 rfl ?_
    refine g_bipush (v := nI 8) cx dX6_readsLine_11 (by decide) ?_
    refine g_icmp_neN (tgt := 26) cx dX6_readsLine_13 (by decide) (by omega) (by omega) (fun h_13 => ?_) (fun h_13 => ?_)
    · skip
      refine g_aload_n cx dX6_readsLine_26 rfl ?_
      refine g_fcallVv (As := []) (rest := []) cx knX6_token (m_token hX h12 hT.2.1) a30_0 rfl rfl lmX6_105 niX6_token seX6_token rfl (by decide) (Nat.le_of_ble_eq_true rfl) rfl dX6_readsLine_27 ?_
      refine g_aload_n cx dX6_readsLine_30 rfl ?_
      refine g_getR (i := (30, 0)) (ci := 6) (k := 4) (j := (34, 0)) cx a30_0 rfl rfl rfl (by decide) inX6 lfX6_20 dX6_readsLine_31 ?_
      refine g_iconst (v := nI 3) cx dX6_readsLine_34 (by decide) ?_
      refine g_aload_n cx dX6_readsLine_35 rfl ?_
      refine g_getIN (i := (30, 0)) (ci := 6) (k := 5) (v := nI m) cx a30_0 rfl rfl rfl (by decide) inX6 lfX6_102 dX6_readsLine_36 (hR0.2.2.2.2.1.1) ?_
      refine g_imulN cx dX6_readsLine_39 ?_
      refine g_iload_n cx dX6_readsLine_40 rfl ?_
      refine g_iast (i := (34, 0)) (j := 3 * m) cx a34_0 rfl (rfl) (by omega) (by decide) dX6_readsLine_41 ?_
      obtain ⟨F1, hF1⟩ : ∃ F1, F1 = upA (PS E (tkP t len e) (tkE t len (tkP t len e))) (34, 0) (upd ((PS E (tkP t len e) (tkE t len (tkP t len e))) (34, 0)) (3 * m) (nI 5)) := ⟨_, rfl⟩
      refine g_wd hF1.symm ?_
      have hR1 : RK D F1 t len R m rc (tkP t len e) (tkE t len (tkP t len e)) := by rw [hF1]; exact RK.rd (by omega) hR0
      have hw1 : F1 (34, 0) (3 * m) = nI 5 := by rw [hF1, upA_s]; exact upd_at _ _ _
      refine g_aload_n cx dX6_readsLine_42 rfl ?_
      refine g_iload_n cx dX6_readsLine_43 rfl ?_
      refine g_fcallV (As := [vi (nI 5)]) (rest := []) cx knX6_readsRest (m_rr5_n hR1 hno) a30_0 rfl rfl lmX6_143 niX6_readsRest seX6_readsRest rfl (by decide) (Nat.le_of_ble_eq_true rfl) rfl dX6_readsLine_44 ?_
      refine g_if_neN (tgt := 52) cx dX6_readsLine_47 (by decide) (by omega) (fun h_47 => ?_) (fun h_47 => ?_)
      · skip
        exact absurd rfl h_47
      · skip
        refine g_iconst (v := nI 0) cx dX6_readsLine_50 (by decide) ?_
        exact g_ret cx rq rfl (by rfl) dX6_readsLine_51 ⟨rfl, hR1⟩
    · skip
      exact absurd h_13 (by decide)

set_option maxRecDepth 100000 in
set_option maxHeartbeats 4000000 in
theorem m_line_y8 {D E : Wd} {t : Nat → Nat} {len : Nat} {R : RS} {m : Nat} {rc : Nat → Nat × Nat} {p e : Nat} (hR : RK D E t len R m rc p e) (hm11 : m ≤ 11) (hwo : wOf t p e = some 8) (hp4 : R.2.2.2.2.2 < 5) {a : Nat} (hy1 : NumY t len 0 (R.1 - 1) (tkP t len e) (tkE t len (tkP t len e)) a) : Mok mX6_readsLine idsA 5 [vr (30, 0)] E (fun r' E' => r' = (some (vi (nI 1))) ∧ RK D E' t len (goR R 8 a 0) (m + 1) (fun q => if q = m then (8, a) else rc q) (tkP t len (tkE t len (tkP t len e))) (tkE t len (tkP t len (tkE t len (tkP t len e))))) := by
  obtain ⟨hX, ⟨h12, h13, h14⟩, hT, hRD, ⟨h5, hm12⟩, hRC, hFR⟩ := id hR
  obtain ⟨r1, r2, r3, r4, r5, r6, r7, r8, r9, r10⟩ := id hRD
  have hR0 := RK.tok hR
  refine Mok.of (L := [some (vr (30, 0)), none]) rfl (fun _ => Nat.le_of_ble_eq_true rfl) (fun _ => rfl) (fun X cx rq => ?_)
  refine g_aload_n cx dX6_readsLine_0 rfl ?_
  refine g_fcallV (As := []) (rest := []) cx knX6_wordOf (m_wordOf hX h13 h14 hT) a30_0 rfl rfl lmX6_140 niX6_wordOf seX6_wordOf rfl (by decide) (Nat.le_of_ble_eq_true rfl) rfl dX6_readsLine_1 ?_
  refine g_top (y := nI 8) (by rw [hwo]; rfl) ?_
  refine g_istore_n (L' := [some (vr (30, 0)), some (vi (nI 8))]) cx dX6_readsLine_4 (by decide) rfl rfl ?_
  refine g_iload_n cx dX6_readsLine_5 rfl ?_
  refine g_iconst (v := (-1)) cx dX6_readsLine_6 (by decide) ?_
  refine g_icmp_eq (tgt := 24) cx dX6_readsLine_7 (by decide) (fun h_7 => ?_) (fun h_7 => ?_)
  · skip
    exact absurd h_7 (by decide)
  · skip
    refine g_iload_n cx dX6_readsLine_10 rfl ?_
    refine g_bipush (v := nI 8) cx dX6_readsLine_11 (by decide) ?_
    refine g_icmp_neN (tgt := 26) cx dX6_readsLine_13 (by decide) (by omega) (by omega) (fun h_13 => ?_) (fun h_13 => ?_)
    · skip
      exact absurd rfl h_13
    · skip
      refine g_aload_n cx dX6_readsLine_16 rfl ?_
      refine g_getIN (i := (30, 0)) (ci := 6) (k := 20) (v := nI R.2.2.2.2.2) cx a30_0 rfl rfl rfl (by decide) inX6 lfX6_137 dX6_readsLine_17 (r10) ?_
      refine g_iconst (v := nI 5) cx dX6_readsLine_20 (by decide) ?_
      refine g_icmp_neN (tgt := 26) cx dX6_readsLine_21 (by decide) (by omega) (by omega) (fun h_21 => ?_) (fun h_21 => ?_)
      · skip
        refine g_aload_n cx dX6_readsLine_26 rfl ?_
        refine g_fcallVv (As := []) (rest := []) cx knX6_token (m_token hX h12 hT.2.1) a30_0 rfl rfl lmX6_105 niX6_token seX6_token rfl (by decide) (Nat.le_of_ble_eq_true rfl) rfl dX6_readsLine_27 ?_
        refine g_aload_n cx dX6_readsLine_30 rfl ?_
        refine g_getR (i := (30, 0)) (ci := 6) (k := 4) (j := (34, 0)) cx a30_0 rfl rfl rfl (by decide) inX6 lfX6_20 dX6_readsLine_31 ?_
        refine g_iconst (v := nI 3) cx dX6_readsLine_34 (by decide) ?_
        refine g_aload_n cx dX6_readsLine_35 rfl ?_
        refine g_getIN (i := (30, 0)) (ci := 6) (k := 5) (v := nI m) cx a30_0 rfl rfl rfl (by decide) inX6 lfX6_102 dX6_readsLine_36 (hR0.2.2.2.2.1.1) ?_
        refine g_imulN cx dX6_readsLine_39 ?_
        refine g_iload_n cx dX6_readsLine_40 rfl ?_
        refine g_iast (i := (34, 0)) (j := 3 * m) cx a34_0 rfl (rfl) (by omega) (by decide) dX6_readsLine_41 ?_
        obtain ⟨F1, hF1⟩ : ∃ F1, F1 = upA (PS E (tkP t len e) (tkE t len (tkP t len e))) (34, 0) (upd ((PS E (tkP t len e) (tkE t len (tkP t len e))) (34, 0)) (3 * m) (nI 8)) := ⟨_, rfl⟩
        refine g_wd hF1.symm ?_
        have hR1 : RK D F1 t len R m rc (tkP t len e) (tkE t len (tkP t len e)) := by rw [hF1]; exact RK.rd (by omega) hR0
        have hw1 : F1 (34, 0) (3 * m) = nI 8 := by rw [hF1, upA_s]; exact upd_at _ _ _
        refine g_aload_n cx dX6_readsLine_42 rfl ?_
        refine g_iload_n cx dX6_readsLine_43 rfl ?_
        refine g_callV (As := [vi (nI 8)]) (rest := []) cx knX6_readsRest (m_rr8_y hR1 hm11 hy1) a30_0 rfl rfl lmX6_143 niX6_readsRest seX6_readsRest rfl (by decide) (Nat.le_of_ble_eq_true rfl) rfl dX6_readsLine_44 (fun r0 F2 hp0 => ?_)
        obtain ⟨rfl, hR2, hr1, hr2⟩ := hp0
        show Gk X mX6_readsLine idsA 47 [some (vr (30, 0)), some (vi (nI 8))] [vi (nI 1)] F2
        refine g_if_neN (tgt := 52) cx dX6_readsLine_47 (by decide) (by omega) (fun h_47 => ?_) (fun h_47 => ?_)
        · skip
          refine g_aload_n cx dX6_readsLine_52 rfl ?_
          refine g_iload_n cx dX6_readsLine_53 rfl ?_
          refine g_aload_n cx dX6_readsLine_54 rfl ?_
          refine g_getR (i := (30, 0)) (ci := 6) (k := 4) (j := (34, 0)) cx a30_0 rfl rfl rfl (by decide) inX6 lfX6_20 dX6_readsLine_55 ?_
          refine g_iconst (v := nI 3) cx dX6_readsLine_58 (by decide) ?_
          refine g_aload_n cx dX6_readsLine_59 rfl ?_
          refine g_getIN (i := (30, 0)) (ci := 6) (k := 5) (v := nI m) cx a30_0 rfl rfl rfl (by decide) inX6 lfX6_102 dX6_readsLine_60 (hR2.2.2.2.2.1.1) ?_
          refine g_imulN cx dX6_readsLine_63 ?_
          refine g_iconst (v := nI 1) cx dX6_readsLine_64 (by decide) ?_
          refine g_iaddN cx dX6_readsLine_65 ?_
          refine g_ialdN (i := (34, 0)) (j := (3 * m) + 1) (v := nI a) cx a34_0 rfl (rfl) (by omega) (by decide) dX6_readsLine_66 (hr2) ?_
          refine g_aload_n cx dX6_readsLine_67 rfl ?_
          refine g_getR (i := (30, 0)) (ci := 6) (k := 4) (j := (34, 0)) cx a30_0 rfl rfl rfl (by decide) inX6 lfX6_20 dX6_readsLine_68 ?_
          refine g_iconst (v := nI 3) cx dX6_readsLine_71 (by decide) ?_
          refine g_aload_n cx dX6_readsLine_72 rfl ?_
          refine g_getIN (i := (30, 0)) (ci := 6) (k := 5) (v := nI m) cx a30_0 rfl rfl rfl (by decide) inX6 lfX6_102 dX6_readsLine_73 (hR2.2.2.2.2.1.1) ?_
          refine g_imulN cx dX6_readsLine_76 ?_
          refine g_iconst (v := nI 2) cx dX6_readsLine_77 (by decide) ?_
          refine g_iaddN cx dX6_readsLine_78 ?_
          refine g_iald (i := (34, 0)) (j := (3 * m) + 2) cx a34_0 rfl (rfl) (by omega) (by decide) dX6_readsLine_79 ?_
          refine g_callV (As := [vi (nI 8), vi (nI a), vi (F2 (34, 0) ((3 * m) + 2))]) (rest := []) cx knX6_goOn (m_goOn8 hR2 (nI a) (F2 (34, 0) ((3 * m) + 2)) (a := a) (c := 0) hp4) a30_0 rfl rfl lmX6_146 niX6_goOn seX6_goOn rfl (by decide) (Nat.le_of_ble_eq_true rfl) rfl dX6_readsLine_80 (fun r0 F3 hp0 => ?_)
          obtain ⟨rfl, hR3, hE3⟩ := hp0
          show Gk X mX6_readsLine idsA 83 [some (vr (30, 0)), some (vi (nI 8))] [] F3
          refine g_aload_n cx dX6_readsLine_83 rfl ?_
          refine g_dup cx dX6_readsLine_84 rfl ?_
          refine g_getIN (i := (30, 0)) (ci := 6) (k := 5) (v := nI m) cx a30_0 rfl rfl rfl (by decide) inX6 lfX6_102 dX6_readsLine_85 (hR3.2.2.2.2.1.1) ?_
          refine g_iconst (v := nI 1) cx dX6_readsLine_88 (by decide) ?_
          refine g_iaddN cx dX6_readsLine_89 ?_
          refine g_putI (i := (30, 0)) (ci := 6) (k := 5) cx a30_0 rfl rfl rfl (by decide) inX6 tyX6_ok nmX6 rfl rfl lfX6_102 dX6_readsLine_90 ?_
          refine g_iconst (v := nI 1) cx dX6_readsLine_93 (by decide) ?_
          exact g_ret cx rq rfl (by rfl) dX6_readsLine_94 ⟨rfl, RK.inc hR3 hm11 (by rw [hE3]; exact hr1.trans hw1) (by decide) (fun _ => by rw [hE3]; exact hr2)⟩
        · skip
          exact absurd h_47 (by decide)
      · skip
        exact absurd h_21 (by omega)

set_option maxRecDepth 100000 in
set_option maxHeartbeats 4000000 in
theorem m_line_n8 {D E : Wd} {t : Nat → Nat} {len : Nat} {R : RS} {m : Nat} {rc : Nat → Nat × Nat} {p e : Nat} (hR : RK D E t len R m rc p e) (hm11 : m ≤ 11) (hwo : wOf t p e = some 8) (hp4 : R.2.2.2.2.2 < 5) (hno : NumN t len 0 (R.1 - 1) (tkP t len e) (tkE t len (tkP t len e))) : Mok mX6_readsLine idsA 5 [vr (30, 0)] E (fun r' E' => r' = (some (vi (nI 0))) ∧ RK D E' t len R m rc (tkP t len e) (tkE t len (tkP t len e))) := by
  obtain ⟨hX, ⟨h12, h13, h14⟩, hT, hRD, ⟨h5, hm12⟩, hRC, hFR⟩ := id hR
  obtain ⟨r1, r2, r3, r4, r5, r6, r7, r8, r9, r10⟩ := id hRD
  have hR0 := RK.tok hR
  refine Mok.of (L := [some (vr (30, 0)), none]) rfl (fun _ => Nat.le_of_ble_eq_true rfl) (fun _ => rfl) (fun X cx rq => ?_)
  refine g_aload_n cx dX6_readsLine_0 rfl ?_
  refine g_fcallV (As := []) (rest := []) cx knX6_wordOf (m_wordOf hX h13 h14 hT) a30_0 rfl rfl lmX6_140 niX6_wordOf seX6_wordOf rfl (by decide) (Nat.le_of_ble_eq_true rfl) rfl dX6_readsLine_1 ?_
  refine g_top (y := nI 8) (by rw [hwo]; rfl) ?_
  refine g_istore_n (L' := [some (vr (30, 0)), some (vi (nI 8))]) cx dX6_readsLine_4 (by decide) rfl rfl ?_
  refine g_iload_n cx dX6_readsLine_5 rfl ?_
  refine g_iconst (v := (-1)) cx dX6_readsLine_6 (by decide) ?_
  refine g_icmp_eq (tgt := 24) cx dX6_readsLine_7 (by decide) (fun h_7 => ?_) (fun h_7 => ?_)
  · skip
    exact absurd h_7 (by decide)
  · skip
    refine g_iload_n cx dX6_readsLine_10 rfl ?_
    refine g_bipush (v := nI 8) cx dX6_readsLine_11 (by decide) ?_
    refine g_icmp_neN (tgt := 26) cx dX6_readsLine_13 (by decide) (by omega) (by omega) (fun h_13 => ?_) (fun h_13 => ?_)
    · skip
      exact absurd rfl h_13
    · skip
      refine g_aload_n cx dX6_readsLine_16 rfl ?_
      refine g_getIN (i := (30, 0)) (ci := 6) (k := 20) (v := nI R.2.2.2.2.2) cx a30_0 rfl rfl rfl (by decide) inX6 lfX6_137 dX6_readsLine_17 (r10) ?_
      refine g_iconst (v := nI 5) cx dX6_readsLine_20 (by decide) ?_
      refine g_icmp_neN (tgt := 26) cx dX6_readsLine_21 (by decide) (by omega) (by omega) (fun h_21 => ?_) (fun h_21 => ?_)
      · skip
        refine g_aload_n cx dX6_readsLine_26 rfl ?_
        refine g_fcallVv (As := []) (rest := []) cx knX6_token (m_token hX h12 hT.2.1) a30_0 rfl rfl lmX6_105 niX6_token seX6_token rfl (by decide) (Nat.le_of_ble_eq_true rfl) rfl dX6_readsLine_27 ?_
        refine g_aload_n cx dX6_readsLine_30 rfl ?_
        refine g_getR (i := (30, 0)) (ci := 6) (k := 4) (j := (34, 0)) cx a30_0 rfl rfl rfl (by decide) inX6 lfX6_20 dX6_readsLine_31 ?_
        refine g_iconst (v := nI 3) cx dX6_readsLine_34 (by decide) ?_
        refine g_aload_n cx dX6_readsLine_35 rfl ?_
        refine g_getIN (i := (30, 0)) (ci := 6) (k := 5) (v := nI m) cx a30_0 rfl rfl rfl (by decide) inX6 lfX6_102 dX6_readsLine_36 (hR0.2.2.2.2.1.1) ?_
        refine g_imulN cx dX6_readsLine_39 ?_
        refine g_iload_n cx dX6_readsLine_40 rfl ?_
        refine g_iast (i := (34, 0)) (j := 3 * m) cx a34_0 rfl (rfl) (by omega) (by decide) dX6_readsLine_41 ?_
        obtain ⟨F1, hF1⟩ : ∃ F1, F1 = upA (PS E (tkP t len e) (tkE t len (tkP t len e))) (34, 0) (upd ((PS E (tkP t len e) (tkE t len (tkP t len e))) (34, 0)) (3 * m) (nI 8)) := ⟨_, rfl⟩
        refine g_wd hF1.symm ?_
        have hR1 : RK D F1 t len R m rc (tkP t len e) (tkE t len (tkP t len e)) := by rw [hF1]; exact RK.rd (by omega) hR0
        have hw1 : F1 (34, 0) (3 * m) = nI 8 := by rw [hF1, upA_s]; exact upd_at _ _ _
        refine g_aload_n cx dX6_readsLine_42 rfl ?_
        refine g_iload_n cx dX6_readsLine_43 rfl ?_
        refine g_fcallV (As := [vi (nI 8)]) (rest := []) cx knX6_readsRest (m_rr8_n hR1 hno) a30_0 rfl rfl lmX6_143 niX6_readsRest seX6_readsRest rfl (by decide) (Nat.le_of_ble_eq_true rfl) rfl dX6_readsLine_44 ?_
        refine g_if_neN (tgt := 52) cx dX6_readsLine_47 (by decide) (by omega) (fun h_47 => ?_) (fun h_47 => ?_)
        · skip
          exact absurd rfl h_47
        · skip
          refine g_iconst (v := nI 0) cx dX6_readsLine_50 (by decide) ?_
          exact g_ret cx rq rfl (by rfl) dX6_readsLine_51 ⟨rfl, hR1⟩
      · skip
        exact absurd h_21 (by omega)

set_option maxRecDepth 100000 in
set_option maxHeartbeats 4000000 in
theorem m_line_y7 {D E : Wd} {t : Nat → Nat} {len : Nat} {R : RS} {m : Nat} {rc : Nat → Nat × Nat} {p e : Nat} (hR : RK D E t len R m rc p e) (hm11 : m ≤ 11) (hwo : wOf t p e = some 7) {a : Nat} (hy1 : NumY t len 0 71 (tkP t len e) (tkE t len (tkP t len e)) a) (hnd : newD R a = true) : Mok mX6_readsLine idsA 5 [vr (30, 0)] E (fun r' E' => r' = (some (vi (nI 1))) ∧ RK D E' t len (goR R 7 a 0) (m + 1) (fun q => if q = m then (7, a) else rc q) (tkP t len (tkE t len (tkP t len e))) (tkE t len (tkP t len (tkE t len (tkP t len e))))) := by
  obtain ⟨hX, ⟨h12, h13, h14⟩, hT, hRD, ⟨h5, hm12⟩, hRC, hFR⟩ := id hR
  obtain ⟨r1, r2, r3, r4, r5, r6, r7, r8, r9, r10⟩ := id hRD
  have hR0 := RK.tok hR
  refine Mok.of (L := [some (vr (30, 0)), none]) rfl (fun _ => Nat.le_of_ble_eq_true rfl) (fun _ => rfl) (fun X cx rq => ?_)
  refine g_aload_n cx dX6_readsLine_0 rfl ?_
  refine g_fcallV (As := []) (rest := []) cx knX6_wordOf (m_wordOf hX h13 h14 hT) a30_0 rfl rfl lmX6_140 niX6_wordOf seX6_wordOf rfl (by decide) (Nat.le_of_ble_eq_true rfl) rfl dX6_readsLine_1 ?_
  refine g_top (y := nI 7) (by rw [hwo]; rfl) ?_
  refine g_istore_n (L' := [some (vr (30, 0)), some (vi (nI 7))]) cx dX6_readsLine_4 (by decide) rfl rfl ?_
  refine g_iload_n cx dX6_readsLine_5 rfl ?_
  refine g_iconst (v := (-1)) cx dX6_readsLine_6 (by decide) ?_
  refine g_icmp_eq (tgt := 24) cx dX6_readsLine_7 (by decide) (fun h_7 => ?_) (fun h_7 => ?_)
  · skip
    exact absurd h_7 (by decide)
  · skip
    refine g_iload_n cx dX6_readsLine_10 rfl ?_
    refine g_bipush (v := nI 8) cx dX6_readsLine_11 (by decide) ?_
    refine g_icmp_neN (tgt := 26) cx dX6_readsLine_13 (by decide) (by omega) (by omega) (fun h_13 => ?_) (fun h_13 => ?_)
    · skip
      refine g_aload_n cx dX6_readsLine_26 rfl ?_
      refine g_fcallVv (As := []) (rest := []) cx knX6_token (m_token hX h12 hT.2.1) a30_0 rfl rfl lmX6_105 niX6_token seX6_token rfl (by decide) (Nat.le_of_ble_eq_true rfl) rfl dX6_readsLine_27 ?_
      refine g_aload_n cx dX6_readsLine_30 rfl ?_
      refine g_getR (i := (30, 0)) (ci := 6) (k := 4) (j := (34, 0)) cx a30_0 rfl rfl rfl (by decide) inX6 lfX6_20 dX6_readsLine_31 ?_
      refine g_iconst (v := nI 3) cx dX6_readsLine_34 (by decide) ?_
      refine g_aload_n cx dX6_readsLine_35 rfl ?_
      refine g_getIN (i := (30, 0)) (ci := 6) (k := 5) (v := nI m) cx a30_0 rfl rfl rfl (by decide) inX6 lfX6_102 dX6_readsLine_36 (hR0.2.2.2.2.1.1) ?_
      refine g_imulN cx dX6_readsLine_39 ?_
      refine g_iload_n cx dX6_readsLine_40 rfl ?_
      refine g_iast (i := (34, 0)) (j := 3 * m) cx a34_0 rfl (rfl) (by omega) (by decide) dX6_readsLine_41 ?_
      obtain ⟨F1, hF1⟩ : ∃ F1, F1 = upA (PS E (tkP t len e) (tkE t len (tkP t len e))) (34, 0) (upd ((PS E (tkP t len e) (tkE t len (tkP t len e))) (34, 0)) (3 * m) (nI 7)) := ⟨_, rfl⟩
      refine g_wd hF1.symm ?_
      have hR1 : RK D F1 t len R m rc (tkP t len e) (tkE t len (tkP t len e)) := by rw [hF1]; exact RK.rd (by omega) hR0
      have hw1 : F1 (34, 0) (3 * m) = nI 7 := by rw [hF1, upA_s]; exact upd_at _ _ _
      refine g_aload_n cx dX6_readsLine_42 rfl ?_
      refine g_iload_n cx dX6_readsLine_43 rfl ?_
      refine g_callV (As := [vi (nI 7)]) (rest := []) cx knX6_readsRest (m_rr7_y hR1 hm11 hy1 hnd) a30_0 rfl rfl lmX6_143 niX6_readsRest seX6_readsRest rfl (by decide) (Nat.le_of_ble_eq_true rfl) rfl dX6_readsLine_44 (fun r0 F2 hp0 => ?_)
      obtain ⟨rfl, hR2, hr1, hr2⟩ := hp0
      show Gk X mX6_readsLine idsA 47 [some (vr (30, 0)), some (vi (nI 7))] [vi (nI 1)] F2
      refine g_if_neN (tgt := 52) cx dX6_readsLine_47 (by decide) (by omega) (fun h_47 => ?_) (fun h_47 => ?_)
      · skip
        refine g_aload_n cx dX6_readsLine_52 rfl ?_
        refine g_iload_n cx dX6_readsLine_53 rfl ?_
        refine g_aload_n cx dX6_readsLine_54 rfl ?_
        refine g_getR (i := (30, 0)) (ci := 6) (k := 4) (j := (34, 0)) cx a30_0 rfl rfl rfl (by decide) inX6 lfX6_20 dX6_readsLine_55 ?_
        refine g_iconst (v := nI 3) cx dX6_readsLine_58 (by decide) ?_
        refine g_aload_n cx dX6_readsLine_59 rfl ?_
        refine g_getIN (i := (30, 0)) (ci := 6) (k := 5) (v := nI m) cx a30_0 rfl rfl rfl (by decide) inX6 lfX6_102 dX6_readsLine_60 (hR2.2.2.2.2.1.1) ?_
        refine g_imulN cx dX6_readsLine_63 ?_
        refine g_iconst (v := nI 1) cx dX6_readsLine_64 (by decide) ?_
        refine g_iaddN cx dX6_readsLine_65 ?_
        refine g_ialdN (i := (34, 0)) (j := (3 * m) + 1) (v := nI a) cx a34_0 rfl (rfl) (by omega) (by decide) dX6_readsLine_66 (hr2) ?_
        refine g_aload_n cx dX6_readsLine_67 rfl ?_
        refine g_getR (i := (30, 0)) (ci := 6) (k := 4) (j := (34, 0)) cx a30_0 rfl rfl rfl (by decide) inX6 lfX6_20 dX6_readsLine_68 ?_
        refine g_iconst (v := nI 3) cx dX6_readsLine_71 (by decide) ?_
        refine g_aload_n cx dX6_readsLine_72 rfl ?_
        refine g_getIN (i := (30, 0)) (ci := 6) (k := 5) (v := nI m) cx a30_0 rfl rfl rfl (by decide) inX6 lfX6_102 dX6_readsLine_73 (hR2.2.2.2.2.1.1) ?_
        refine g_imulN cx dX6_readsLine_76 ?_
        refine g_iconst (v := nI 2) cx dX6_readsLine_77 (by decide) ?_
        refine g_iaddN cx dX6_readsLine_78 ?_
        refine g_iald (i := (34, 0)) (j := (3 * m) + 2) cx a34_0 rfl (rfl) (by omega) (by decide) dX6_readsLine_79 ?_
        refine g_callV (As := [vi (nI 7), vi (nI a), vi (F2 (34, 0) ((3 * m) + 2))]) (rest := []) cx knX6_goOn (m_goOn7 hR2 (a := a) (c := 0) (F2 (34, 0) ((3 * m) + 2)) (by have := hy1.2.2; omega) (newD_lt hnd)) a30_0 rfl rfl lmX6_146 niX6_goOn seX6_goOn rfl (by decide) (Nat.le_of_ble_eq_true rfl) rfl dX6_readsLine_80 (fun r0 F3 hp0 => ?_)
        obtain ⟨rfl, hR3, hE3⟩ := hp0
        show Gk X mX6_readsLine idsA 83 [some (vr (30, 0)), some (vi (nI 7))] [] F3
        refine g_aload_n cx dX6_readsLine_83 rfl ?_
        refine g_dup cx dX6_readsLine_84 rfl ?_
        refine g_getIN (i := (30, 0)) (ci := 6) (k := 5) (v := nI m) cx a30_0 rfl rfl rfl (by decide) inX6 lfX6_102 dX6_readsLine_85 (hR3.2.2.2.2.1.1) ?_
        refine g_iconst (v := nI 1) cx dX6_readsLine_88 (by decide) ?_
        refine g_iaddN cx dX6_readsLine_89 ?_
        refine g_putI (i := (30, 0)) (ci := 6) (k := 5) cx a30_0 rfl rfl rfl (by decide) inX6 tyX6_ok nmX6 rfl rfl lfX6_102 dX6_readsLine_90 ?_
        refine g_iconst (v := nI 1) cx dX6_readsLine_93 (by decide) ?_
        exact g_ret cx rq rfl (by rfl) dX6_readsLine_94 ⟨rfl, RK.inc hR3 hm11 (by rw [hE3]; exact hr1.trans hw1) (by decide) (fun _ => by rw [hE3]; exact hr2)⟩
      · skip
        exact absurd h_47 (by decide)
    · skip
      exact absurd h_13 (by decide)

set_option maxRecDepth 100000 in
set_option maxHeartbeats 4000000 in
theorem m_line_n17 {D E : Wd} {t : Nat → Nat} {len : Nat} {R : RS} {m : Nat} {rc : Nat → Nat × Nat} {p e : Nat} (hR : RK D E t len R m rc p e) (hm11 : m ≤ 11) (hwo : wOf t p e = some 7) (hno : NumN t len 0 71 (tkP t len e) (tkE t len (tkP t len e))) : Mok mX6_readsLine idsA 5 [vr (30, 0)] E (fun r' E' => r' = (some (vi (nI 0))) ∧ RK D E' t len R m rc (tkP t len e) (tkE t len (tkP t len e))) := by
  obtain ⟨hX, ⟨h12, h13, h14⟩, hT, hRD, ⟨h5, hm12⟩, hRC, hFR⟩ := id hR
  obtain ⟨r1, r2, r3, r4, r5, r6, r7, r8, r9, r10⟩ := id hRD
  have hR0 := RK.tok hR
  refine Mok.of (L := [some (vr (30, 0)), none]) rfl (fun _ => Nat.le_of_ble_eq_true rfl) (fun _ => rfl) (fun X cx rq => ?_)
  refine g_aload_n cx dX6_readsLine_0 rfl ?_
  refine g_fcallV (As := []) (rest := []) cx knX6_wordOf (m_wordOf hX h13 h14 hT) a30_0 rfl rfl lmX6_140 niX6_wordOf seX6_wordOf rfl (by decide) (Nat.le_of_ble_eq_true rfl) rfl dX6_readsLine_1 ?_
  refine g_top (y := nI 7) (by rw [hwo]; rfl) ?_
  refine g_istore_n (L' := [some (vr (30, 0)), some (vi (nI 7))]) cx dX6_readsLine_4 (by decide) rfl rfl ?_
  refine g_iload_n cx dX6_readsLine_5 rfl ?_
  refine g_iconst (v := (-1)) cx dX6_readsLine_6 (by decide) ?_
  refine g_icmp_eq (tgt := 24) cx dX6_readsLine_7 (by decide) (fun h_7 => ?_) (fun h_7 => ?_)
  · skip
    exact absurd h_7 (by decide)
  · skip
    refine g_iload_n cx dX6_readsLine_10 rfl ?_
    refine g_bipush (v := nI 8) cx dX6_readsLine_11 (by decide) ?_
    refine g_icmp_neN (tgt := 26) cx dX6_readsLine_13 (by decide) (by omega) (by omega) (fun h_13 => ?_) (fun h_13 => ?_)
    · skip
      refine g_aload_n cx dX6_readsLine_26 rfl ?_
      refine g_fcallVv (As := []) (rest := []) cx knX6_token (m_token hX h12 hT.2.1) a30_0 rfl rfl lmX6_105 niX6_token seX6_token rfl (by decide) (Nat.le_of_ble_eq_true rfl) rfl dX6_readsLine_27 ?_
      refine g_aload_n cx dX6_readsLine_30 rfl ?_
      refine g_getR (i := (30, 0)) (ci := 6) (k := 4) (j := (34, 0)) cx a30_0 rfl rfl rfl (by decide) inX6 lfX6_20 dX6_readsLine_31 ?_
      refine g_iconst (v := nI 3) cx dX6_readsLine_34 (by decide) ?_
      refine g_aload_n cx dX6_readsLine_35 rfl ?_
      refine g_getIN (i := (30, 0)) (ci := 6) (k := 5) (v := nI m) cx a30_0 rfl rfl rfl (by decide) inX6 lfX6_102 dX6_readsLine_36 (hR0.2.2.2.2.1.1) ?_
      refine g_imulN cx dX6_readsLine_39 ?_
      refine g_iload_n cx dX6_readsLine_40 rfl ?_
      refine g_iast (i := (34, 0)) (j := 3 * m) cx a34_0 rfl (rfl) (by omega) (by decide) dX6_readsLine_41 ?_
      obtain ⟨F1, hF1⟩ : ∃ F1, F1 = upA (PS E (tkP t len e) (tkE t len (tkP t len e))) (34, 0) (upd ((PS E (tkP t len e) (tkE t len (tkP t len e))) (34, 0)) (3 * m) (nI 7)) := ⟨_, rfl⟩
      refine g_wd hF1.symm ?_
      have hR1 : RK D F1 t len R m rc (tkP t len e) (tkE t len (tkP t len e)) := by rw [hF1]; exact RK.rd (by omega) hR0
      have hw1 : F1 (34, 0) (3 * m) = nI 7 := by rw [hF1, upA_s]; exact upd_at _ _ _
      refine g_aload_n cx dX6_readsLine_42 rfl ?_
      refine g_iload_n cx dX6_readsLine_43 rfl ?_
      refine g_fcallV (As := [vi (nI 7)]) (rest := []) cx knX6_readsRest (m_rr7_n1 hR1 hno) a30_0 rfl rfl lmX6_143 niX6_readsRest seX6_readsRest rfl (by decide) (Nat.le_of_ble_eq_true rfl) rfl dX6_readsLine_44 ?_
      refine g_if_neN (tgt := 52) cx dX6_readsLine_47 (by decide) (by omega) (fun h_47 => ?_) (fun h_47 => ?_)
      · skip
        exact absurd rfl h_47
      · skip
        refine g_iconst (v := nI 0) cx dX6_readsLine_50 (by decide) ?_
        exact g_ret cx rq rfl (by rfl) dX6_readsLine_51 ⟨rfl, hR1⟩
    · skip
      exact absurd h_13 (by decide)

set_option maxRecDepth 100000 in
set_option maxHeartbeats 4000000 in
theorem m_line_n27 {D E : Wd} {t : Nat → Nat} {len : Nat} {R : RS} {m : Nat} {rc : Nat → Nat × Nat} {p e : Nat} (hR : RK D E t len R m rc p e) (hm11 : m ≤ 11) (hwo : wOf t p e = some 7) {a : Nat} (hy1 : NumY t len 0 71 (tkP t len e) (tkE t len (tkP t len e)) a) (hnd : newD R a = false) : Mok mX6_readsLine idsA 5 [vr (30, 0)] E (fun r' E' => r' = (some (vi (nI 0))) ∧ RK D E' t len R m rc (tkP t len e) (tkE t len (tkP t len e))) := by
  obtain ⟨hX, ⟨h12, h13, h14⟩, hT, hRD, ⟨h5, hm12⟩, hRC, hFR⟩ := id hR
  obtain ⟨r1, r2, r3, r4, r5, r6, r7, r8, r9, r10⟩ := id hRD
  have hR0 := RK.tok hR
  refine Mok.of (L := [some (vr (30, 0)), none]) rfl (fun _ => Nat.le_of_ble_eq_true rfl) (fun _ => rfl) (fun X cx rq => ?_)
  refine g_aload_n cx dX6_readsLine_0 rfl ?_
  refine g_fcallV (As := []) (rest := []) cx knX6_wordOf (m_wordOf hX h13 h14 hT) a30_0 rfl rfl lmX6_140 niX6_wordOf seX6_wordOf rfl (by decide) (Nat.le_of_ble_eq_true rfl) rfl dX6_readsLine_1 ?_
  refine g_top (y := nI 7) (by rw [hwo]; rfl) ?_
  refine g_istore_n (L' := [some (vr (30, 0)), some (vi (nI 7))]) cx dX6_readsLine_4 (by decide) rfl rfl ?_
  refine g_iload_n cx dX6_readsLine_5 rfl ?_
  refine g_iconst (v := (-1)) cx dX6_readsLine_6 (by decide) ?_
  refine g_icmp_eq (tgt := 24) cx dX6_readsLine_7 (by decide) (fun h_7 => ?_) (fun h_7 => ?_)
  · skip
    exact absurd h_7 (by decide)
  · skip
    refine g_iload_n cx dX6_readsLine_10 rfl ?_
    refine g_bipush (v := nI 8) cx dX6_readsLine_11 (by decide) ?_
    refine g_icmp_neN (tgt := 26) cx dX6_readsLine_13 (by decide) (by omega) (by omega) (fun h_13 => ?_) (fun h_13 => ?_)
    · skip
      refine g_aload_n cx dX6_readsLine_26 rfl ?_
      refine g_fcallVv (As := []) (rest := []) cx knX6_token (m_token hX h12 hT.2.1) a30_0 rfl rfl lmX6_105 niX6_token seX6_token rfl (by decide) (Nat.le_of_ble_eq_true rfl) rfl dX6_readsLine_27 ?_
      refine g_aload_n cx dX6_readsLine_30 rfl ?_
      refine g_getR (i := (30, 0)) (ci := 6) (k := 4) (j := (34, 0)) cx a30_0 rfl rfl rfl (by decide) inX6 lfX6_20 dX6_readsLine_31 ?_
      refine g_iconst (v := nI 3) cx dX6_readsLine_34 (by decide) ?_
      refine g_aload_n cx dX6_readsLine_35 rfl ?_
      refine g_getIN (i := (30, 0)) (ci := 6) (k := 5) (v := nI m) cx a30_0 rfl rfl rfl (by decide) inX6 lfX6_102 dX6_readsLine_36 (hR0.2.2.2.2.1.1) ?_
      refine g_imulN cx dX6_readsLine_39 ?_
      refine g_iload_n cx dX6_readsLine_40 rfl ?_
      refine g_iast (i := (34, 0)) (j := 3 * m) cx a34_0 rfl (rfl) (by omega) (by decide) dX6_readsLine_41 ?_
      obtain ⟨F1, hF1⟩ : ∃ F1, F1 = upA (PS E (tkP t len e) (tkE t len (tkP t len e))) (34, 0) (upd ((PS E (tkP t len e) (tkE t len (tkP t len e))) (34, 0)) (3 * m) (nI 7)) := ⟨_, rfl⟩
      refine g_wd hF1.symm ?_
      have hR1 : RK D F1 t len R m rc (tkP t len e) (tkE t len (tkP t len e)) := by rw [hF1]; exact RK.rd (by omega) hR0
      have hw1 : F1 (34, 0) (3 * m) = nI 7 := by rw [hF1, upA_s]; exact upd_at _ _ _
      refine g_aload_n cx dX6_readsLine_42 rfl ?_
      refine g_iload_n cx dX6_readsLine_43 rfl ?_
      refine g_fcallV (As := [vi (nI 7)]) (rest := []) cx knX6_readsRest (m_rr7_n2 hR1 hy1 hnd) a30_0 rfl rfl lmX6_143 niX6_readsRest seX6_readsRest rfl (by decide) (Nat.le_of_ble_eq_true rfl) rfl dX6_readsLine_44 ?_
      refine g_if_neN (tgt := 52) cx dX6_readsLine_47 (by decide) (by omega) (fun h_47 => ?_) (fun h_47 => ?_)
      · skip
        exact absurd rfl h_47
      · skip
        refine g_iconst (v := nI 0) cx dX6_readsLine_50 (by decide) ?_
        exact g_ret cx rq rfl (by rfl) dX6_readsLine_51 ⟨rfl, hR1⟩
    · skip
      exact absurd h_13 (by decide)

set_option maxRecDepth 100000 in
set_option maxHeartbeats 4000000 in
theorem m_line_y9 {D E : Wd} {t : Nat → Nat} {len : Nat} {R : RS} {m : Nat} {rc : Nat → Nat × Nat} {p e : Nat} (hR : RK D E t len R m rc p e) (hm11 : m ≤ 11) (hwo : wOf t p e = some 9) : Mok mX6_readsLine idsA 5 [vr (30, 0)] E (fun r' E' => r' = (some (vi (nI 1))) ∧ RK D E' t len (goR R 9 0 0) (m + 1) (fun q => if q = m then (9, 0) else rc q) (tkP t len e) (tkE t len (tkP t len e))) := by
  obtain ⟨hX, ⟨h12, h13, h14⟩, hT, hRD, ⟨h5, hm12⟩, hRC, hFR⟩ := id hR
  obtain ⟨r1, r2, r3, r4, r5, r6, r7, r8, r9, r10⟩ := id hRD
  have hR0 := RK.tok hR
  refine Mok.of (L := [some (vr (30, 0)), none]) rfl (fun _ => Nat.le_of_ble_eq_true rfl) (fun _ => rfl) (fun X cx rq => ?_)
  refine g_aload_n cx dX6_readsLine_0 rfl ?_
  refine g_fcallV (As := []) (rest := []) cx knX6_wordOf (m_wordOf hX h13 h14 hT) a30_0 rfl rfl lmX6_140 niX6_wordOf seX6_wordOf rfl (by decide) (Nat.le_of_ble_eq_true rfl) rfl dX6_readsLine_1 ?_
  refine g_top (y := nI 9) (by rw [hwo]; rfl) ?_
  refine g_istore_n (L' := [some (vr (30, 0)), some (vi (nI 9))]) cx dX6_readsLine_4 (by decide) rfl rfl ?_
  refine g_iload_n cx dX6_readsLine_5 rfl ?_
  refine g_iconst (v := (-1)) cx dX6_readsLine_6 (by decide) ?_
  refine g_icmp_eq (tgt := 24) cx dX6_readsLine_7 (by decide) (fun h_7 => ?_) (fun h_7 => ?_)
  · skip
    exact absurd h_7 (by decide)
  · skip
    refine g_iload_n cx dX6_readsLine_10 rfl ?_
    refine g_bipush (v := nI 8) cx dX6_readsLine_11 (by decide) ?_
    refine g_icmp_neN (tgt := 26) cx dX6_readsLine_13 (by decide) (by omega) (by omega) (fun h_13 => ?_) (fun h_13 => ?_)
    · skip
      refine g_aload_n cx dX6_readsLine_26 rfl ?_
      refine g_fcallVv (As := []) (rest := []) cx knX6_token (m_token hX h12 hT.2.1) a30_0 rfl rfl lmX6_105 niX6_token seX6_token rfl (by decide) (Nat.le_of_ble_eq_true rfl) rfl dX6_readsLine_27 ?_
      refine g_aload_n cx dX6_readsLine_30 rfl ?_
      refine g_getR (i := (30, 0)) (ci := 6) (k := 4) (j := (34, 0)) cx a30_0 rfl rfl rfl (by decide) inX6 lfX6_20 dX6_readsLine_31 ?_
      refine g_iconst (v := nI 3) cx dX6_readsLine_34 (by decide) ?_
      refine g_aload_n cx dX6_readsLine_35 rfl ?_
      refine g_getIN (i := (30, 0)) (ci := 6) (k := 5) (v := nI m) cx a30_0 rfl rfl rfl (by decide) inX6 lfX6_102 dX6_readsLine_36 (hR0.2.2.2.2.1.1) ?_
      refine g_imulN cx dX6_readsLine_39 ?_
      refine g_iload_n cx dX6_readsLine_40 rfl ?_
      refine g_iast (i := (34, 0)) (j := 3 * m) cx a34_0 rfl (rfl) (by omega) (by decide) dX6_readsLine_41 ?_
      obtain ⟨F1, hF1⟩ : ∃ F1, F1 = upA (PS E (tkP t len e) (tkE t len (tkP t len e))) (34, 0) (upd ((PS E (tkP t len e) (tkE t len (tkP t len e))) (34, 0)) (3 * m) (nI 9)) := ⟨_, rfl⟩
      refine g_wd hF1.symm ?_
      have hR1 : RK D F1 t len R m rc (tkP t len e) (tkE t len (tkP t len e)) := by rw [hF1]; exact RK.rd (by omega) hR0
      have hw1 : F1 (34, 0) (3 * m) = nI 9 := by rw [hF1, upA_s]; exact upd_at _ _ _
      refine g_aload_n cx dX6_readsLine_42 rfl ?_
      refine g_iload_n cx dX6_readsLine_43 rfl ?_
      refine g_fcallV (As := [vi (nI 9)]) (rest := []) cx knX6_readsRest (m_rr9_y hR1) a30_0 rfl rfl lmX6_143 niX6_readsRest seX6_readsRest rfl (by decide) (Nat.le_of_ble_eq_true rfl) rfl dX6_readsLine_44 ?_
      refine g_if_neN (tgt := 52) cx dX6_readsLine_47 (by decide) (by omega) (fun h_47 => ?_) (fun h_47 => ?_)
      · skip
        refine g_aload_n cx dX6_readsLine_52 rfl ?_
        refine g_iload_n cx dX6_readsLine_53 rfl ?_
        refine g_aload_n cx dX6_readsLine_54 rfl ?_
        refine g_getR (i := (30, 0)) (ci := 6) (k := 4) (j := (34, 0)) cx a30_0 rfl rfl rfl (by decide) inX6 lfX6_20 dX6_readsLine_55 ?_
        refine g_iconst (v := nI 3) cx dX6_readsLine_58 (by decide) ?_
        refine g_aload_n cx dX6_readsLine_59 rfl ?_
        refine g_getIN (i := (30, 0)) (ci := 6) (k := 5) (v := nI m) cx a30_0 rfl rfl rfl (by decide) inX6 lfX6_102 dX6_readsLine_60 (hR1.2.2.2.2.1.1) ?_
        refine g_imulN cx dX6_readsLine_63 ?_
        refine g_iconst (v := nI 1) cx dX6_readsLine_64 (by decide) ?_
        refine g_iaddN cx dX6_readsLine_65 ?_
        refine g_iald (i := (34, 0)) (j := (3 * m) + 1) cx a34_0 rfl (rfl) (by omega) (by decide) dX6_readsLine_66 ?_
        refine g_aload_n cx dX6_readsLine_67 rfl ?_
        refine g_getR (i := (30, 0)) (ci := 6) (k := 4) (j := (34, 0)) cx a30_0 rfl rfl rfl (by decide) inX6 lfX6_20 dX6_readsLine_68 ?_
        refine g_iconst (v := nI 3) cx dX6_readsLine_71 (by decide) ?_
        refine g_aload_n cx dX6_readsLine_72 rfl ?_
        refine g_getIN (i := (30, 0)) (ci := 6) (k := 5) (v := nI m) cx a30_0 rfl rfl rfl (by decide) inX6 lfX6_102 dX6_readsLine_73 (hR1.2.2.2.2.1.1) ?_
        refine g_imulN cx dX6_readsLine_76 ?_
        refine g_iconst (v := nI 2) cx dX6_readsLine_77 (by decide) ?_
        refine g_iaddN cx dX6_readsLine_78 ?_
        refine g_iald (i := (34, 0)) (j := (3 * m) + 2) cx a34_0 rfl (rfl) (by omega) (by decide) dX6_readsLine_79 ?_
        refine g_callV (As := [vi (nI 9), vi (F1 (34, 0) ((3 * m) + 1)), vi (F1 (34, 0) ((3 * m) + 2))]) (rest := []) cx knX6_goOn (m_goOn9 hR1 (F1 (34, 0) ((3 * m) + 1)) (F1 (34, 0) ((3 * m) + 2)) (a := 0) (c := 0)) a30_0 rfl rfl lmX6_146 niX6_goOn seX6_goOn rfl (by decide) (Nat.le_of_ble_eq_true rfl) rfl dX6_readsLine_80 (fun r0 F3 hp0 => ?_)
        obtain ⟨rfl, hR3, hE3⟩ := hp0
        show Gk X mX6_readsLine idsA 83 [some (vr (30, 0)), some (vi (nI 9))] [] F3
        refine g_aload_n cx dX6_readsLine_83 rfl ?_
        refine g_dup cx dX6_readsLine_84 rfl ?_
        refine g_getIN (i := (30, 0)) (ci := 6) (k := 5) (v := nI m) cx a30_0 rfl rfl rfl (by decide) inX6 lfX6_102 dX6_readsLine_85 (hR3.2.2.2.2.1.1) ?_
        refine g_iconst (v := nI 1) cx dX6_readsLine_88 (by decide) ?_
        refine g_iaddN cx dX6_readsLine_89 ?_
        refine g_putI (i := (30, 0)) (ci := 6) (k := 5) cx a30_0 rfl rfl rfl (by decide) inX6 tyX6_ok nmX6 rfl rfl lfX6_102 dX6_readsLine_90 ?_
        refine g_iconst (v := nI 1) cx dX6_readsLine_93 (by decide) ?_
        exact g_ret cx rq rfl (by rfl) dX6_readsLine_94 ⟨rfl, RK.inc hR3 hm11 (by rw [hE3]; exact hw1) (by decide) (fun h9 => absurd rfl h9)⟩
      · skip
        exact absurd h_47 (by decide)
    · skip
      exact absurd h_13 (by decide)

set_option maxRecDepth 100000 in
set_option maxHeartbeats 4000000 in
theorem m_line_y1 {D E : Wd} {t : Nat → Nat} {len : Nat} {R : RS} {m : Nat} {rc : Nat → Nat × Nat} {p e : Nat} (hR : RK D E t len R m rc p e) (hm11 : m ≤ 11) (hwo : wOf t p e = some 1) {a c : Nat} (hy1 : NumY t len 0 (R.1 - 1) (tkP t len e) (tkE t len (tkP t len e)) a) (hy2 : NumY t len 0 71 (tkP t len (tkE t len (tkP t len e))) (tkE t len (tkP t len (tkE t len (tkP t len e)))) c) (hfit : fitA R a c = true) : Mok mX6_readsLine idsA 5 [vr (30, 0)] E (fun r' E' => r' = (some (vi (nI 1))) ∧ RK D E' t len (goR R 1 a c) (m + 1) (fun q => if q = m then (1, a) else rc q) (tkP t len (tkE t len (tkP t len (tkE t len (tkP t len e))))) (tkE t len (tkP t len (tkE t len (tkP t len (tkE t len (tkP t len e))))))) := by
  obtain ⟨hX, ⟨h12, h13, h14⟩, hT, hRD, ⟨h5, hm12⟩, hRC, hFR⟩ := id hR
  obtain ⟨r1, r2, r3, r4, r5, r6, r7, r8, r9, r10⟩ := id hRD
  have hR0 := RK.tok hR
  refine Mok.of (L := [some (vr (30, 0)), none]) rfl (fun _ => Nat.le_of_ble_eq_true rfl) (fun _ => rfl) (fun X cx rq => ?_)
  refine g_aload_n cx dX6_readsLine_0 rfl ?_
  refine g_fcallV (As := []) (rest := []) cx knX6_wordOf (m_wordOf hX h13 h14 hT) a30_0 rfl rfl lmX6_140 niX6_wordOf seX6_wordOf rfl (by decide) (Nat.le_of_ble_eq_true rfl) rfl dX6_readsLine_1 ?_
  refine g_top (y := nI 1) (by rw [hwo]; rfl) ?_
  refine g_istore_n (L' := [some (vr (30, 0)), some (vi (nI 1))]) cx dX6_readsLine_4 (by decide) rfl rfl ?_
  refine g_iload_n cx dX6_readsLine_5 rfl ?_
  refine g_iconst (v := (-1)) cx dX6_readsLine_6 (by decide) ?_
  refine g_icmp_eq (tgt := 24) cx dX6_readsLine_7 (by decide) (fun h_7 => ?_) (fun h_7 => ?_)
  · skip
    exact absurd h_7 (by decide)
  · skip
    refine g_iload_n cx dX6_readsLine_10 rfl ?_
    refine g_bipush (v := nI 8) cx dX6_readsLine_11 (by decide) ?_
    refine g_icmp_neN (tgt := 26) cx dX6_readsLine_13 (by decide) (by omega) (by omega) (fun h_13 => ?_) (fun h_13 => ?_)
    · skip
      refine g_aload_n cx dX6_readsLine_26 rfl ?_
      refine g_fcallVv (As := []) (rest := []) cx knX6_token (m_token hX h12 hT.2.1) a30_0 rfl rfl lmX6_105 niX6_token seX6_token rfl (by decide) (Nat.le_of_ble_eq_true rfl) rfl dX6_readsLine_27 ?_
      refine g_aload_n cx dX6_readsLine_30 rfl ?_
      refine g_getR (i := (30, 0)) (ci := 6) (k := 4) (j := (34, 0)) cx a30_0 rfl rfl rfl (by decide) inX6 lfX6_20 dX6_readsLine_31 ?_
      refine g_iconst (v := nI 3) cx dX6_readsLine_34 (by decide) ?_
      refine g_aload_n cx dX6_readsLine_35 rfl ?_
      refine g_getIN (i := (30, 0)) (ci := 6) (k := 5) (v := nI m) cx a30_0 rfl rfl rfl (by decide) inX6 lfX6_102 dX6_readsLine_36 (hR0.2.2.2.2.1.1) ?_
      refine g_imulN cx dX6_readsLine_39 ?_
      refine g_iload_n cx dX6_readsLine_40 rfl ?_
      refine g_iast (i := (34, 0)) (j := 3 * m) cx a34_0 rfl (rfl) (by omega) (by decide) dX6_readsLine_41 ?_
      obtain ⟨F1, hF1⟩ : ∃ F1, F1 = upA (PS E (tkP t len e) (tkE t len (tkP t len e))) (34, 0) (upd ((PS E (tkP t len e) (tkE t len (tkP t len e))) (34, 0)) (3 * m) (nI 1)) := ⟨_, rfl⟩
      refine g_wd hF1.symm ?_
      have hR1 : RK D F1 t len R m rc (tkP t len e) (tkE t len (tkP t len e)) := by rw [hF1]; exact RK.rd (by omega) hR0
      have hw1 : F1 (34, 0) (3 * m) = nI 1 := by rw [hF1, upA_s]; exact upd_at _ _ _
      refine g_aload_n cx dX6_readsLine_42 rfl ?_
      refine g_iload_n cx dX6_readsLine_43 rfl ?_
      refine g_callV (As := [vi (nI 1)]) (rest := []) cx knX6_readsRest (m_rr1_y hR1 hm11 hy1 hy2 hfit) a30_0 rfl rfl lmX6_143 niX6_readsRest seX6_readsRest rfl (by decide) (Nat.le_of_ble_eq_true rfl) rfl dX6_readsLine_44 (fun r0 F2 hp0 => ?_)
      obtain ⟨rfl, hR2, hr1, hr2, hr3⟩ := hp0
      show Gk X mX6_readsLine idsA 47 [some (vr (30, 0)), some (vi (nI 1))] [vi (nI 1)] F2
      refine g_if_neN (tgt := 52) cx dX6_readsLine_47 (by decide) (by omega) (fun h_47 => ?_) (fun h_47 => ?_)
      · skip
        refine g_aload_n cx dX6_readsLine_52 rfl ?_
        refine g_iload_n cx dX6_readsLine_53 rfl ?_
        refine g_aload_n cx dX6_readsLine_54 rfl ?_
        refine g_getR (i := (30, 0)) (ci := 6) (k := 4) (j := (34, 0)) cx a30_0 rfl rfl rfl (by decide) inX6 lfX6_20 dX6_readsLine_55 ?_
        refine g_iconst (v := nI 3) cx dX6_readsLine_58 (by decide) ?_
        refine g_aload_n cx dX6_readsLine_59 rfl ?_
        refine g_getIN (i := (30, 0)) (ci := 6) (k := 5) (v := nI m) cx a30_0 rfl rfl rfl (by decide) inX6 lfX6_102 dX6_readsLine_60 (hR2.2.2.2.2.1.1) ?_
        refine g_imulN cx dX6_readsLine_63 ?_
        refine g_iconst (v := nI 1) cx dX6_readsLine_64 (by decide) ?_
        refine g_iaddN cx dX6_readsLine_65 ?_
        refine g_ialdN (i := (34, 0)) (j := (3 * m) + 1) (v := nI a) cx a34_0 rfl (rfl) (by omega) (by decide) dX6_readsLine_66 (hr2) ?_
        refine g_aload_n cx dX6_readsLine_67 rfl ?_
        refine g_getR (i := (30, 0)) (ci := 6) (k := 4) (j := (34, 0)) cx a30_0 rfl rfl rfl (by decide) inX6 lfX6_20 dX6_readsLine_68 ?_
        refine g_iconst (v := nI 3) cx dX6_readsLine_71 (by decide) ?_
        refine g_aload_n cx dX6_readsLine_72 rfl ?_
        refine g_getIN (i := (30, 0)) (ci := 6) (k := 5) (v := nI m) cx a30_0 rfl rfl rfl (by decide) inX6 lfX6_102 dX6_readsLine_73 (hR2.2.2.2.2.1.1) ?_
        refine g_imulN cx dX6_readsLine_76 ?_
        refine g_iconst (v := nI 2) cx dX6_readsLine_77 (by decide) ?_
        refine g_iaddN cx dX6_readsLine_78 ?_
        refine g_ialdN (i := (34, 0)) (j := (3 * m) + 2) (v := nI c) cx a34_0 rfl (rfl) (by omega) (by decide) dX6_readsLine_79 (hr3) ?_
        refine g_callV (As := [vi (nI 1), vi (nI a), vi (nI c)]) (rest := []) cx knX6_goOn (m_goOn1 hR2 (a := a) (c := c) (by have := hy1.2.2; omega) (by have := hy2.2.2; omega)) a30_0 rfl rfl lmX6_146 niX6_goOn seX6_goOn rfl (by decide) (Nat.le_of_ble_eq_true rfl) rfl dX6_readsLine_80 (fun r0 F3 hp0 => ?_)
        obtain ⟨rfl, hR3, hE3⟩ := hp0
        show Gk X mX6_readsLine idsA 83 [some (vr (30, 0)), some (vi (nI 1))] [] F3
        refine g_aload_n cx dX6_readsLine_83 rfl ?_
        refine g_dup cx dX6_readsLine_84 rfl ?_
        refine g_getIN (i := (30, 0)) (ci := 6) (k := 5) (v := nI m) cx a30_0 rfl rfl rfl (by decide) inX6 lfX6_102 dX6_readsLine_85 (hR3.2.2.2.2.1.1) ?_
        refine g_iconst (v := nI 1) cx dX6_readsLine_88 (by decide) ?_
        refine g_iaddN cx dX6_readsLine_89 ?_
        refine g_putI (i := (30, 0)) (ci := 6) (k := 5) cx a30_0 rfl rfl rfl (by decide) inX6 tyX6_ok nmX6 rfl rfl lfX6_102 dX6_readsLine_90 ?_
        refine g_iconst (v := nI 1) cx dX6_readsLine_93 (by decide) ?_
        exact g_ret cx rq rfl (by rfl) dX6_readsLine_94 ⟨rfl, RK.inc hR3 hm11 (by rw [hE3]; exact hr1.trans hw1) (by decide) (fun _ => by rw [hE3]; exact hr2)⟩
      · skip
        exact absurd h_47 (by decide)
    · skip
      exact absurd h_13 (by decide)

set_option maxRecDepth 100000 in
set_option maxHeartbeats 4000000 in
theorem m_line_n11 {D E : Wd} {t : Nat → Nat} {len : Nat} {R : RS} {m : Nat} {rc : Nat → Nat × Nat} {p e : Nat} (hR : RK D E t len R m rc p e) (hm11 : m ≤ 11) (hwo : wOf t p e = some 1) (hno : NumN t len 0 (R.1 - 1) (tkP t len e) (tkE t len (tkP t len e))) : Mok mX6_readsLine idsA 5 [vr (30, 0)] E (fun r' E' => r' = (some (vi (nI 0))) ∧ RK D E' t len R m rc (tkP t len e) (tkE t len (tkP t len e))) := by
  obtain ⟨hX, ⟨h12, h13, h14⟩, hT, hRD, ⟨h5, hm12⟩, hRC, hFR⟩ := id hR
  obtain ⟨r1, r2, r3, r4, r5, r6, r7, r8, r9, r10⟩ := id hRD
  have hR0 := RK.tok hR
  refine Mok.of (L := [some (vr (30, 0)), none]) rfl (fun _ => Nat.le_of_ble_eq_true rfl) (fun _ => rfl) (fun X cx rq => ?_)
  refine g_aload_n cx dX6_readsLine_0 rfl ?_
  refine g_fcallV (As := []) (rest := []) cx knX6_wordOf (m_wordOf hX h13 h14 hT) a30_0 rfl rfl lmX6_140 niX6_wordOf seX6_wordOf rfl (by decide) (Nat.le_of_ble_eq_true rfl) rfl dX6_readsLine_1 ?_
  refine g_top (y := nI 1) (by rw [hwo]; rfl) ?_
  refine g_istore_n (L' := [some (vr (30, 0)), some (vi (nI 1))]) cx dX6_readsLine_4 (by decide) rfl rfl ?_
  refine g_iload_n cx dX6_readsLine_5 rfl ?_
  refine g_iconst (v := (-1)) cx dX6_readsLine_6 (by decide) ?_
  refine g_icmp_eq (tgt := 24) cx dX6_readsLine_7 (by decide) (fun h_7 => ?_) (fun h_7 => ?_)
  · skip
    exact absurd h_7 (by decide)
  · skip
    refine g_iload_n cx dX6_readsLine_10 rfl ?_
    refine g_bipush (v := nI 8) cx dX6_readsLine_11 (by decide) ?_
    refine g_icmp_neN (tgt := 26) cx dX6_readsLine_13 (by decide) (by omega) (by omega) (fun h_13 => ?_) (fun h_13 => ?_)
    · skip
      refine g_aload_n cx dX6_readsLine_26 rfl ?_
      refine g_fcallVv (As := []) (rest := []) cx knX6_token (m_token hX h12 hT.2.1) a30_0 rfl rfl lmX6_105 niX6_token seX6_token rfl (by decide) (Nat.le_of_ble_eq_true rfl) rfl dX6_readsLine_27 ?_
      refine g_aload_n cx dX6_readsLine_30 rfl ?_
      refine g_getR (i := (30, 0)) (ci := 6) (k := 4) (j := (34, 0)) cx a30_0 rfl rfl rfl (by decide) inX6 lfX6_20 dX6_readsLine_31 ?_
      refine g_iconst (v := nI 3) cx dX6_readsLine_34 (by decide) ?_
      refine g_aload_n cx dX6_readsLine_35 rfl ?_
      refine g_getIN (i := (30, 0)) (ci := 6) (k := 5) (v := nI m) cx a30_0 rfl rfl rfl (by decide) inX6 lfX6_102 dX6_readsLine_36 (hR0.2.2.2.2.1.1) ?_
      refine g_imulN cx dX6_readsLine_39 ?_
      refine g_iload_n cx dX6_readsLine_40 rfl ?_
      refine g_iast (i := (34, 0)) (j := 3 * m) cx a34_0 rfl (rfl) (by omega) (by decide) dX6_readsLine_41 ?_
      obtain ⟨F1, hF1⟩ : ∃ F1, F1 = upA (PS E (tkP t len e) (tkE t len (tkP t len e))) (34, 0) (upd ((PS E (tkP t len e) (tkE t len (tkP t len e))) (34, 0)) (3 * m) (nI 1)) := ⟨_, rfl⟩
      refine g_wd hF1.symm ?_
      have hR1 : RK D F1 t len R m rc (tkP t len e) (tkE t len (tkP t len e)) := by rw [hF1]; exact RK.rd (by omega) hR0
      have hw1 : F1 (34, 0) (3 * m) = nI 1 := by rw [hF1, upA_s]; exact upd_at _ _ _
      refine g_aload_n cx dX6_readsLine_42 rfl ?_
      refine g_iload_n cx dX6_readsLine_43 rfl ?_
      refine g_fcallV (As := [vi (nI 1)]) (rest := []) cx knX6_readsRest (m_rr1_n1 hR1 hno) a30_0 rfl rfl lmX6_143 niX6_readsRest seX6_readsRest rfl (by decide) (Nat.le_of_ble_eq_true rfl) rfl dX6_readsLine_44 ?_
      refine g_if_neN (tgt := 52) cx dX6_readsLine_47 (by decide) (by omega) (fun h_47 => ?_) (fun h_47 => ?_)
      · skip
        exact absurd rfl h_47
      · skip
        refine g_iconst (v := nI 0) cx dX6_readsLine_50 (by decide) ?_
        exact g_ret cx rq rfl (by rfl) dX6_readsLine_51 ⟨rfl, hR1⟩
    · skip
      exact absurd h_13 (by decide)

set_option maxRecDepth 100000 in
set_option maxHeartbeats 4000000 in
theorem m_line_n21 {D E : Wd} {t : Nat → Nat} {len : Nat} {R : RS} {m : Nat} {rc : Nat → Nat × Nat} {p e : Nat} (hR : RK D E t len R m rc p e) (hm11 : m ≤ 11) (hwo : wOf t p e = some 1) {a : Nat} (hy1 : NumY t len 0 (R.1 - 1) (tkP t len e) (tkE t len (tkP t len e)) a) (hn2 : NumN t len 0 71 (tkP t len (tkE t len (tkP t len e))) (tkE t len (tkP t len (tkE t len (tkP t len e))))) : Mok mX6_readsLine idsA 5 [vr (30, 0)] E (fun r' E' => r' = (some (vi (nI 0))) ∧ RK D E' t len R m rc (tkP t len (tkE t len (tkP t len e))) (tkE t len (tkP t len (tkE t len (tkP t len e))))) := by
  obtain ⟨hX, ⟨h12, h13, h14⟩, hT, hRD, ⟨h5, hm12⟩, hRC, hFR⟩ := id hR
  obtain ⟨r1, r2, r3, r4, r5, r6, r7, r8, r9, r10⟩ := id hRD
  have hR0 := RK.tok hR
  refine Mok.of (L := [some (vr (30, 0)), none]) rfl (fun _ => Nat.le_of_ble_eq_true rfl) (fun _ => rfl) (fun X cx rq => ?_)
  refine g_aload_n cx dX6_readsLine_0 rfl ?_
  refine g_fcallV (As := []) (rest := []) cx knX6_wordOf (m_wordOf hX h13 h14 hT) a30_0 rfl rfl lmX6_140 niX6_wordOf seX6_wordOf rfl (by decide) (Nat.le_of_ble_eq_true rfl) rfl dX6_readsLine_1 ?_
  refine g_top (y := nI 1) (by rw [hwo]; rfl) ?_
  refine g_istore_n (L' := [some (vr (30, 0)), some (vi (nI 1))]) cx dX6_readsLine_4 (by decide) rfl rfl ?_
  refine g_iload_n cx dX6_readsLine_5 rfl ?_
  refine g_iconst (v := (-1)) cx dX6_readsLine_6 (by decide) ?_
  refine g_icmp_eq (tgt := 24) cx dX6_readsLine_7 (by decide) (fun h_7 => ?_) (fun h_7 => ?_)
  · skip
    exact absurd h_7 (by decide)
  · skip
    refine g_iload_n cx dX6_readsLine_10 rfl ?_
    refine g_bipush (v := nI 8) cx dX6_readsLine_11 (by decide) ?_
    refine g_icmp_neN (tgt := 26) cx dX6_readsLine_13 (by decide) (by omega) (by omega) (fun h_13 => ?_) (fun h_13 => ?_)
    · skip
      refine g_aload_n cx dX6_readsLine_26 rfl ?_
      refine g_fcallVv (As := []) (rest := []) cx knX6_token (m_token hX h12 hT.2.1) a30_0 rfl rfl lmX6_105 niX6_token seX6_token rfl (by decide) (Nat.le_of_ble_eq_true rfl) rfl dX6_readsLine_27 ?_
      refine g_aload_n cx dX6_readsLine_30 rfl ?_
      refine g_getR (i := (30, 0)) (ci := 6) (k := 4) (j := (34, 0)) cx a30_0 rfl rfl rfl (by decide) inX6 lfX6_20 dX6_readsLine_31 ?_
      refine g_iconst (v := nI 3) cx dX6_readsLine_34 (by decide) ?_
      refine g_aload_n cx dX6_readsLine_35 rfl ?_
      refine g_getIN (i := (30, 0)) (ci := 6) (k := 5) (v := nI m) cx a30_0 rfl rfl rfl (by decide) inX6 lfX6_102 dX6_readsLine_36 (hR0.2.2.2.2.1.1) ?_
      refine g_imulN cx dX6_readsLine_39 ?_
      refine g_iload_n cx dX6_readsLine_40 rfl ?_
      refine g_iast (i := (34, 0)) (j := 3 * m) cx a34_0 rfl (rfl) (by omega) (by decide) dX6_readsLine_41 ?_
      obtain ⟨F1, hF1⟩ : ∃ F1, F1 = upA (PS E (tkP t len e) (tkE t len (tkP t len e))) (34, 0) (upd ((PS E (tkP t len e) (tkE t len (tkP t len e))) (34, 0)) (3 * m) (nI 1)) := ⟨_, rfl⟩
      refine g_wd hF1.symm ?_
      have hR1 : RK D F1 t len R m rc (tkP t len e) (tkE t len (tkP t len e)) := by rw [hF1]; exact RK.rd (by omega) hR0
      have hw1 : F1 (34, 0) (3 * m) = nI 1 := by rw [hF1, upA_s]; exact upd_at _ _ _
      refine g_aload_n cx dX6_readsLine_42 rfl ?_
      refine g_iload_n cx dX6_readsLine_43 rfl ?_
      refine g_callV (As := [vi (nI 1)]) (rest := []) cx knX6_readsRest (m_rr1_n2 hR1 hm11 hy1 hn2) a30_0 rfl rfl lmX6_143 niX6_readsRest seX6_readsRest rfl (by decide) (Nat.le_of_ble_eq_true rfl) rfl dX6_readsLine_44 (fun r0 F2 hp0 => ?_)
      obtain ⟨rfl, hR2⟩ := hp0
      show Gk X mX6_readsLine idsA 47 [some (vr (30, 0)), some (vi (nI 1))] [vi (nI 0)] F2
      refine g_if_neN (tgt := 52) cx dX6_readsLine_47 (by decide) (by omega) (fun h_47 => ?_) (fun h_47 => ?_)
      · skip
        exact absurd rfl h_47
      · skip
        refine g_iconst (v := nI 0) cx dX6_readsLine_50 (by decide) ?_
        exact g_ret cx rq rfl (by rfl) dX6_readsLine_51 ⟨rfl, hR2⟩
    · skip
      exact absurd h_13 (by decide)

set_option maxRecDepth 100000 in
set_option maxHeartbeats 4000000 in
theorem m_line_n31 {D E : Wd} {t : Nat → Nat} {len : Nat} {R : RS} {m : Nat} {rc : Nat → Nat × Nat} {p e : Nat} (hR : RK D E t len R m rc p e) (hm11 : m ≤ 11) (hwo : wOf t p e = some 1) {a c : Nat} (hy1 : NumY t len 0 (R.1 - 1) (tkP t len e) (tkE t len (tkP t len e)) a) (hy2 : NumY t len 0 71 (tkP t len (tkE t len (tkP t len e))) (tkE t len (tkP t len (tkE t len (tkP t len e)))) c) (hfit : fitA R a c = false) : Mok mX6_readsLine idsA 5 [vr (30, 0)] E (fun r' E' => r' = (some (vi (nI 0))) ∧ RK D E' t len R m rc (tkP t len (tkE t len (tkP t len e))) (tkE t len (tkP t len (tkE t len (tkP t len e))))) := by
  obtain ⟨hX, ⟨h12, h13, h14⟩, hT, hRD, ⟨h5, hm12⟩, hRC, hFR⟩ := id hR
  obtain ⟨r1, r2, r3, r4, r5, r6, r7, r8, r9, r10⟩ := id hRD
  have hR0 := RK.tok hR
  refine Mok.of (L := [some (vr (30, 0)), none]) rfl (fun _ => Nat.le_of_ble_eq_true rfl) (fun _ => rfl) (fun X cx rq => ?_)
  refine g_aload_n cx dX6_readsLine_0 rfl ?_
  refine g_fcallV (As := []) (rest := []) cx knX6_wordOf (m_wordOf hX h13 h14 hT) a30_0 rfl rfl lmX6_140 niX6_wordOf seX6_wordOf rfl (by decide) (Nat.le_of_ble_eq_true rfl) rfl dX6_readsLine_1 ?_
  refine g_top (y := nI 1) (by rw [hwo]; rfl) ?_
  refine g_istore_n (L' := [some (vr (30, 0)), some (vi (nI 1))]) cx dX6_readsLine_4 (by decide) rfl rfl ?_
  refine g_iload_n cx dX6_readsLine_5 rfl ?_
  refine g_iconst (v := (-1)) cx dX6_readsLine_6 (by decide) ?_
  refine g_icmp_eq (tgt := 24) cx dX6_readsLine_7 (by decide) (fun h_7 => ?_) (fun h_7 => ?_)
  · skip
    exact absurd h_7 (by decide)
  · skip
    refine g_iload_n cx dX6_readsLine_10 rfl ?_
    refine g_bipush (v := nI 8) cx dX6_readsLine_11 (by decide) ?_
    refine g_icmp_neN (tgt := 26) cx dX6_readsLine_13 (by decide) (by omega) (by omega) (fun h_13 => ?_) (fun h_13 => ?_)
    · skip
      refine g_aload_n cx dX6_readsLine_26 rfl ?_
      refine g_fcallVv (As := []) (rest := []) cx knX6_token (m_token hX h12 hT.2.1) a30_0 rfl rfl lmX6_105 niX6_token seX6_token rfl (by decide) (Nat.le_of_ble_eq_true rfl) rfl dX6_readsLine_27 ?_
      refine g_aload_n cx dX6_readsLine_30 rfl ?_
      refine g_getR (i := (30, 0)) (ci := 6) (k := 4) (j := (34, 0)) cx a30_0 rfl rfl rfl (by decide) inX6 lfX6_20 dX6_readsLine_31 ?_
      refine g_iconst (v := nI 3) cx dX6_readsLine_34 (by decide) ?_
      refine g_aload_n cx dX6_readsLine_35 rfl ?_
      refine g_getIN (i := (30, 0)) (ci := 6) (k := 5) (v := nI m) cx a30_0 rfl rfl rfl (by decide) inX6 lfX6_102 dX6_readsLine_36 (hR0.2.2.2.2.1.1) ?_
      refine g_imulN cx dX6_readsLine_39 ?_
      refine g_iload_n cx dX6_readsLine_40 rfl ?_
      refine g_iast (i := (34, 0)) (j := 3 * m) cx a34_0 rfl (rfl) (by omega) (by decide) dX6_readsLine_41 ?_
      obtain ⟨F1, hF1⟩ : ∃ F1, F1 = upA (PS E (tkP t len e) (tkE t len (tkP t len e))) (34, 0) (upd ((PS E (tkP t len e) (tkE t len (tkP t len e))) (34, 0)) (3 * m) (nI 1)) := ⟨_, rfl⟩
      refine g_wd hF1.symm ?_
      have hR1 : RK D F1 t len R m rc (tkP t len e) (tkE t len (tkP t len e)) := by rw [hF1]; exact RK.rd (by omega) hR0
      have hw1 : F1 (34, 0) (3 * m) = nI 1 := by rw [hF1, upA_s]; exact upd_at _ _ _
      refine g_aload_n cx dX6_readsLine_42 rfl ?_
      refine g_iload_n cx dX6_readsLine_43 rfl ?_
      refine g_callV (As := [vi (nI 1)]) (rest := []) cx knX6_readsRest (m_rr1_n3 hR1 hm11 hy1 hy2 hfit) a30_0 rfl rfl lmX6_143 niX6_readsRest seX6_readsRest rfl (by decide) (Nat.le_of_ble_eq_true rfl) rfl dX6_readsLine_44 (fun r0 F2 hp0 => ?_)
      obtain ⟨rfl, hR2⟩ := hp0
      show Gk X mX6_readsLine idsA 47 [some (vr (30, 0)), some (vi (nI 1))] [vi (nI 0)] F2
      refine g_if_neN (tgt := 52) cx dX6_readsLine_47 (by decide) (by omega) (fun h_47 => ?_) (fun h_47 => ?_)
      · skip
        exact absurd rfl h_47
      · skip
        refine g_iconst (v := nI 0) cx dX6_readsLine_50 (by decide) ?_
        exact g_ret cx rq rfl (by rfl) dX6_readsLine_51 ⟨rfl, hR2⟩
    · skip
      exact absurd h_13 (by decide)

set_option maxRecDepth 100000 in
set_option maxHeartbeats 4000000 in
theorem m_line_y6 {D E : Wd} {t : Nat → Nat} {len : Nat} {R : RS} {m : Nat} {rc : Nat → Nat × Nat} {p e : Nat} (hR : RK D E t len R m rc p e) (hm11 : m ≤ 11) (hwo : wOf t p e = some 6) {a c : Nat} (hy1 : NumY t len 0 (R.1 - 1) (tkP t len e) (tkE t len (tkP t len e)) a) (hw1g : 1 ≤ onN (R.2.1 a) (R.2.1 (nx R.1 a))) (hy2 : NumY t len 0 (putH R a) (tkP t len (tkE t len (tkP t len e))) (tkE t len (tkP t len (tkE t len (tkP t len e)))) c) : Mok mX6_readsLine idsA 5 [vr (30, 0)] E (fun r' E' => r' = (some (vi (nI 1))) ∧ RK D E' t len (goR R 6 a c) (m + 1) (fun q => if q = m then (6, a) else rc q) (tkP t len (tkE t len (tkP t len (tkE t len (tkP t len e))))) (tkE t len (tkP t len (tkE t len (tkP t len (tkE t len (tkP t len e))))))) := by
  obtain ⟨hX, ⟨h12, h13, h14⟩, hT, hRD, ⟨h5, hm12⟩, hRC, hFR⟩ := id hR
  obtain ⟨r1, r2, r3, r4, r5, r6, r7, r8, r9, r10⟩ := id hRD
  have hR0 := RK.tok hR
  refine Mok.of (L := [some (vr (30, 0)), none]) rfl (fun _ => Nat.le_of_ble_eq_true rfl) (fun _ => rfl) (fun X cx rq => ?_)
  refine g_aload_n cx dX6_readsLine_0 rfl ?_
  refine g_fcallV (As := []) (rest := []) cx knX6_wordOf (m_wordOf hX h13 h14 hT) a30_0 rfl rfl lmX6_140 niX6_wordOf seX6_wordOf rfl (by decide) (Nat.le_of_ble_eq_true rfl) rfl dX6_readsLine_1 ?_
  refine g_top (y := nI 6) (by rw [hwo]; rfl) ?_
  refine g_istore_n (L' := [some (vr (30, 0)), some (vi (nI 6))]) cx dX6_readsLine_4 (by decide) rfl rfl ?_
  refine g_iload_n cx dX6_readsLine_5 rfl ?_
  refine g_iconst (v := (-1)) cx dX6_readsLine_6 (by decide) ?_
  refine g_icmp_eq (tgt := 24) cx dX6_readsLine_7 (by decide) (fun h_7 => ?_) (fun h_7 => ?_)
  · skip
    exact absurd h_7 (by decide)
  · skip
    refine g_iload_n cx dX6_readsLine_10 rfl ?_
    refine g_bipush (v := nI 8) cx dX6_readsLine_11 (by decide) ?_
    refine g_icmp_neN (tgt := 26) cx dX6_readsLine_13 (by decide) (by omega) (by omega) (fun h_13 => ?_) (fun h_13 => ?_)
    · skip
      refine g_aload_n cx dX6_readsLine_26 rfl ?_
      refine g_fcallVv (As := []) (rest := []) cx knX6_token (m_token hX h12 hT.2.1) a30_0 rfl rfl lmX6_105 niX6_token seX6_token rfl (by decide) (Nat.le_of_ble_eq_true rfl) rfl dX6_readsLine_27 ?_
      refine g_aload_n cx dX6_readsLine_30 rfl ?_
      refine g_getR (i := (30, 0)) (ci := 6) (k := 4) (j := (34, 0)) cx a30_0 rfl rfl rfl (by decide) inX6 lfX6_20 dX6_readsLine_31 ?_
      refine g_iconst (v := nI 3) cx dX6_readsLine_34 (by decide) ?_
      refine g_aload_n cx dX6_readsLine_35 rfl ?_
      refine g_getIN (i := (30, 0)) (ci := 6) (k := 5) (v := nI m) cx a30_0 rfl rfl rfl (by decide) inX6 lfX6_102 dX6_readsLine_36 (hR0.2.2.2.2.1.1) ?_
      refine g_imulN cx dX6_readsLine_39 ?_
      refine g_iload_n cx dX6_readsLine_40 rfl ?_
      refine g_iast (i := (34, 0)) (j := 3 * m) cx a34_0 rfl (rfl) (by omega) (by decide) dX6_readsLine_41 ?_
      obtain ⟨F1, hF1⟩ : ∃ F1, F1 = upA (PS E (tkP t len e) (tkE t len (tkP t len e))) (34, 0) (upd ((PS E (tkP t len e) (tkE t len (tkP t len e))) (34, 0)) (3 * m) (nI 6)) := ⟨_, rfl⟩
      refine g_wd hF1.symm ?_
      have hR1 : RK D F1 t len R m rc (tkP t len e) (tkE t len (tkP t len e)) := by rw [hF1]; exact RK.rd (by omega) hR0
      have hw1 : F1 (34, 0) (3 * m) = nI 6 := by rw [hF1, upA_s]; exact upd_at _ _ _
      refine g_aload_n cx dX6_readsLine_42 rfl ?_
      refine g_iload_n cx dX6_readsLine_43 rfl ?_
      refine g_callV (As := [vi (nI 6)]) (rest := []) cx knX6_readsRest (m_rr6_y hR1 hm11 hy1 hw1g hy2) a30_0 rfl rfl lmX6_143 niX6_readsRest seX6_readsRest rfl (by decide) (Nat.le_of_ble_eq_true rfl) rfl dX6_readsLine_44 (fun r0 F2 hp0 => ?_)
      obtain ⟨rfl, hR2, hr1, hr2, hr3⟩ := hp0
      show Gk X mX6_readsLine idsA 47 [some (vr (30, 0)), some (vi (nI 6))] [vi (nI 1)] F2
      refine g_if_neN (tgt := 52) cx dX6_readsLine_47 (by decide) (by omega) (fun h_47 => ?_) (fun h_47 => ?_)
      · skip
        refine g_aload_n cx dX6_readsLine_52 rfl ?_
        refine g_iload_n cx dX6_readsLine_53 rfl ?_
        refine g_aload_n cx dX6_readsLine_54 rfl ?_
        refine g_getR (i := (30, 0)) (ci := 6) (k := 4) (j := (34, 0)) cx a30_0 rfl rfl rfl (by decide) inX6 lfX6_20 dX6_readsLine_55 ?_
        refine g_iconst (v := nI 3) cx dX6_readsLine_58 (by decide) ?_
        refine g_aload_n cx dX6_readsLine_59 rfl ?_
        refine g_getIN (i := (30, 0)) (ci := 6) (k := 5) (v := nI m) cx a30_0 rfl rfl rfl (by decide) inX6 lfX6_102 dX6_readsLine_60 (hR2.2.2.2.2.1.1) ?_
        refine g_imulN cx dX6_readsLine_63 ?_
        refine g_iconst (v := nI 1) cx dX6_readsLine_64 (by decide) ?_
        refine g_iaddN cx dX6_readsLine_65 ?_
        refine g_ialdN (i := (34, 0)) (j := (3 * m) + 1) (v := nI a) cx a34_0 rfl (rfl) (by omega) (by decide) dX6_readsLine_66 (hr2) ?_
        refine g_aload_n cx dX6_readsLine_67 rfl ?_
        refine g_getR (i := (30, 0)) (ci := 6) (k := 4) (j := (34, 0)) cx a30_0 rfl rfl rfl (by decide) inX6 lfX6_20 dX6_readsLine_68 ?_
        refine g_iconst (v := nI 3) cx dX6_readsLine_71 (by decide) ?_
        refine g_aload_n cx dX6_readsLine_72 rfl ?_
        refine g_getIN (i := (30, 0)) (ci := 6) (k := 5) (v := nI m) cx a30_0 rfl rfl rfl (by decide) inX6 lfX6_102 dX6_readsLine_73 (hR2.2.2.2.2.1.1) ?_
        refine g_imulN cx dX6_readsLine_76 ?_
        refine g_iconst (v := nI 2) cx dX6_readsLine_77 (by decide) ?_
        refine g_iaddN cx dX6_readsLine_78 ?_
        refine g_ialdN (i := (34, 0)) (j := (3 * m) + 2) (v := nI c) cx a34_0 rfl (rfl) (by omega) (by decide) dX6_readsLine_79 (hr3) ?_
        refine g_callV (As := [vi (nI 6), vi (nI a), vi (nI c)]) (rest := []) cx knX6_goOn (m_goOn6 hR2 (a := a) (c := c) (by have := hy1.2.2; omega) (Nat.le_trans hy2.2.2 (putH_le R a))) a30_0 rfl rfl lmX6_146 niX6_goOn seX6_goOn rfl (by decide) (Nat.le_of_ble_eq_true rfl) rfl dX6_readsLine_80 (fun r0 F3 hp0 => ?_)
        obtain ⟨rfl, hR3, hE3⟩ := hp0
        show Gk X mX6_readsLine idsA 83 [some (vr (30, 0)), some (vi (nI 6))] [] F3
        refine g_aload_n cx dX6_readsLine_83 rfl ?_
        refine g_dup cx dX6_readsLine_84 rfl ?_
        refine g_getIN (i := (30, 0)) (ci := 6) (k := 5) (v := nI m) cx a30_0 rfl rfl rfl (by decide) inX6 lfX6_102 dX6_readsLine_85 (hR3.2.2.2.2.1.1) ?_
        refine g_iconst (v := nI 1) cx dX6_readsLine_88 (by decide) ?_
        refine g_iaddN cx dX6_readsLine_89 ?_
        refine g_putI (i := (30, 0)) (ci := 6) (k := 5) cx a30_0 rfl rfl rfl (by decide) inX6 tyX6_ok nmX6 rfl rfl lfX6_102 dX6_readsLine_90 ?_
        refine g_iconst (v := nI 1) cx dX6_readsLine_93 (by decide) ?_
        exact g_ret cx rq rfl (by rfl) dX6_readsLine_94 ⟨rfl, RK.inc hR3 hm11 (by rw [hE3]; exact hr1.trans hw1) (by decide) (fun _ => by rw [hE3]; exact hr2)⟩
      · skip
        exact absurd h_47 (by decide)
    · skip
      exact absurd h_13 (by decide)

set_option maxRecDepth 100000 in
set_option maxHeartbeats 4000000 in
theorem m_line_n16 {D E : Wd} {t : Nat → Nat} {len : Nat} {R : RS} {m : Nat} {rc : Nat → Nat × Nat} {p e : Nat} (hR : RK D E t len R m rc p e) (hm11 : m ≤ 11) (hwo : wOf t p e = some 6) (hno : NumN t len 0 (R.1 - 1) (tkP t len e) (tkE t len (tkP t len e))) : Mok mX6_readsLine idsA 5 [vr (30, 0)] E (fun r' E' => r' = (some (vi (nI 0))) ∧ RK D E' t len R m rc (tkP t len e) (tkE t len (tkP t len e))) := by
  obtain ⟨hX, ⟨h12, h13, h14⟩, hT, hRD, ⟨h5, hm12⟩, hRC, hFR⟩ := id hR
  obtain ⟨r1, r2, r3, r4, r5, r6, r7, r8, r9, r10⟩ := id hRD
  have hR0 := RK.tok hR
  refine Mok.of (L := [some (vr (30, 0)), none]) rfl (fun _ => Nat.le_of_ble_eq_true rfl) (fun _ => rfl) (fun X cx rq => ?_)
  refine g_aload_n cx dX6_readsLine_0 rfl ?_
  refine g_fcallV (As := []) (rest := []) cx knX6_wordOf (m_wordOf hX h13 h14 hT) a30_0 rfl rfl lmX6_140 niX6_wordOf seX6_wordOf rfl (by decide) (Nat.le_of_ble_eq_true rfl) rfl dX6_readsLine_1 ?_
  refine g_top (y := nI 6) (by rw [hwo]; rfl) ?_
  refine g_istore_n (L' := [some (vr (30, 0)), some (vi (nI 6))]) cx dX6_readsLine_4 (by decide) rfl rfl ?_
  refine g_iload_n cx dX6_readsLine_5 rfl ?_
  refine g_iconst (v := (-1)) cx dX6_readsLine_6 (by decide) ?_
  refine g_icmp_eq (tgt := 24) cx dX6_readsLine_7 (by decide) (fun h_7 => ?_) (fun h_7 => ?_)
  · skip
    exact absurd h_7 (by decide)
  · skip
    refine g_iload_n cx dX6_readsLine_10 rfl ?_
    refine g_bipush (v := nI 8) cx dX6_readsLine_11 (by decide) ?_
    refine g_icmp_neN (tgt := 26) cx dX6_readsLine_13 (by decide) (by omega) (by omega) (fun h_13 => ?_) (fun h_13 => ?_)
    · skip
      refine g_aload_n cx dX6_readsLine_26 rfl ?_
      refine g_fcallVv (As := []) (rest := []) cx knX6_token (m_token hX h12 hT.2.1) a30_0 rfl rfl lmX6_105 niX6_token seX6_token rfl (by decide) (Nat.le_of_ble_eq_true rfl) rfl dX6_readsLine_27 ?_
      refine g_aload_n cx dX6_readsLine_30 rfl ?_
      refine g_getR (i := (30, 0)) (ci := 6) (k := 4) (j := (34, 0)) cx a30_0 rfl rfl rfl (by decide) inX6 lfX6_20 dX6_readsLine_31 ?_
      refine g_iconst (v := nI 3) cx dX6_readsLine_34 (by decide) ?_
      refine g_aload_n cx dX6_readsLine_35 rfl ?_
      refine g_getIN (i := (30, 0)) (ci := 6) (k := 5) (v := nI m) cx a30_0 rfl rfl rfl (by decide) inX6 lfX6_102 dX6_readsLine_36 (hR0.2.2.2.2.1.1) ?_
      refine g_imulN cx dX6_readsLine_39 ?_
      refine g_iload_n cx dX6_readsLine_40 rfl ?_
      refine g_iast (i := (34, 0)) (j := 3 * m) cx a34_0 rfl (rfl) (by omega) (by decide) dX6_readsLine_41 ?_
      obtain ⟨F1, hF1⟩ : ∃ F1, F1 = upA (PS E (tkP t len e) (tkE t len (tkP t len e))) (34, 0) (upd ((PS E (tkP t len e) (tkE t len (tkP t len e))) (34, 0)) (3 * m) (nI 6)) := ⟨_, rfl⟩
      refine g_wd hF1.symm ?_
      have hR1 : RK D F1 t len R m rc (tkP t len e) (tkE t len (tkP t len e)) := by rw [hF1]; exact RK.rd (by omega) hR0
      have hw1 : F1 (34, 0) (3 * m) = nI 6 := by rw [hF1, upA_s]; exact upd_at _ _ _
      refine g_aload_n cx dX6_readsLine_42 rfl ?_
      refine g_iload_n cx dX6_readsLine_43 rfl ?_
      refine g_fcallV (As := [vi (nI 6)]) (rest := []) cx knX6_readsRest (m_rr6_n1 hR1 hno) a30_0 rfl rfl lmX6_143 niX6_readsRest seX6_readsRest rfl (by decide) (Nat.le_of_ble_eq_true rfl) rfl dX6_readsLine_44 ?_
      refine g_if_neN (tgt := 52) cx dX6_readsLine_47 (by decide) (by omega) (fun h_47 => ?_) (fun h_47 => ?_)
      · skip
        exact absurd rfl h_47
      · skip
        refine g_iconst (v := nI 0) cx dX6_readsLine_50 (by decide) ?_
        exact g_ret cx rq rfl (by rfl) dX6_readsLine_51 ⟨rfl, hR1⟩
    · skip
      exact absurd h_13 (by decide)

set_option maxRecDepth 100000 in
set_option maxHeartbeats 4000000 in
theorem m_line_n26 {D E : Wd} {t : Nat → Nat} {len : Nat} {R : RS} {m : Nat} {rc : Nat → Nat × Nat} {p e : Nat} (hR : RK D E t len R m rc p e) (hm11 : m ≤ 11) (hwo : wOf t p e = some 6) {a : Nat} (hy1 : NumY t len 0 (R.1 - 1) (tkP t len e) (tkE t len (tkP t len e)) a) (hw1g : 1 ≤ onN (R.2.1 a) (R.2.1 (nx R.1 a))) (hn2 : NumN t len 0 (putH R a) (tkP t len (tkE t len (tkP t len e))) (tkE t len (tkP t len (tkE t len (tkP t len e))))) : Mok mX6_readsLine idsA 5 [vr (30, 0)] E (fun r' E' => r' = (some (vi (nI 0))) ∧ RK D E' t len R m rc (tkP t len (tkE t len (tkP t len e))) (tkE t len (tkP t len (tkE t len (tkP t len e))))) := by
  obtain ⟨hX, ⟨h12, h13, h14⟩, hT, hRD, ⟨h5, hm12⟩, hRC, hFR⟩ := id hR
  obtain ⟨r1, r2, r3, r4, r5, r6, r7, r8, r9, r10⟩ := id hRD
  have hR0 := RK.tok hR
  refine Mok.of (L := [some (vr (30, 0)), none]) rfl (fun _ => Nat.le_of_ble_eq_true rfl) (fun _ => rfl) (fun X cx rq => ?_)
  refine g_aload_n cx dX6_readsLine_0 rfl ?_
  refine g_fcallV (As := []) (rest := []) cx knX6_wordOf (m_wordOf hX h13 h14 hT) a30_0 rfl rfl lmX6_140 niX6_wordOf seX6_wordOf rfl (by decide) (Nat.le_of_ble_eq_true rfl) rfl dX6_readsLine_1 ?_
  refine g_top (y := nI 6) (by rw [hwo]; rfl) ?_
  refine g_istore_n (L' := [some (vr (30, 0)), some (vi (nI 6))]) cx dX6_readsLine_4 (by decide) rfl rfl ?_
  refine g_iload_n cx dX6_readsLine_5 rfl ?_
  refine g_iconst (v := (-1)) cx dX6_readsLine_6 (by decide) ?_
  refine g_icmp_eq (tgt := 24) cx dX6_readsLine_7 (by decide) (fun h_7 => ?_) (fun h_7 => ?_)
  · skip
    exact absurd h_7 (by decide)
  · skip
    refine g_iload_n cx dX6_readsLine_10 rfl ?_
    refine g_bipush (v := nI 8) cx dX6_readsLine_11 (by decide) ?_
    refine g_icmp_neN (tgt := 26) cx dX6_readsLine_13 (by decide) (by omega) (by omega) (fun h_13 => ?_) (fun h_13 => ?_)
    · skip
      refine g_aload_n cx dX6_readsLine_26 rfl ?_
      refine g_fcallVv (As := []) (rest := []) cx knX6_token (m_token hX h12 hT.2.1) a30_0 rfl rfl lmX6_105 niX6_token seX6_token rfl (by decide) (Nat.le_of_ble_eq_true rfl) rfl dX6_readsLine_27 ?_
      refine g_aload_n cx dX6_readsLine_30 rfl ?_
      refine g_getR (i := (30, 0)) (ci := 6) (k := 4) (j := (34, 0)) cx a30_0 rfl rfl rfl (by decide) inX6 lfX6_20 dX6_readsLine_31 ?_
      refine g_iconst (v := nI 3) cx dX6_readsLine_34 (by decide) ?_
      refine g_aload_n cx dX6_readsLine_35 rfl ?_
      refine g_getIN (i := (30, 0)) (ci := 6) (k := 5) (v := nI m) cx a30_0 rfl rfl rfl (by decide) inX6 lfX6_102 dX6_readsLine_36 (hR0.2.2.2.2.1.1) ?_
      refine g_imulN cx dX6_readsLine_39 ?_
      refine g_iload_n cx dX6_readsLine_40 rfl ?_
      refine g_iast (i := (34, 0)) (j := 3 * m) cx a34_0 rfl (rfl) (by omega) (by decide) dX6_readsLine_41 ?_
      obtain ⟨F1, hF1⟩ : ∃ F1, F1 = upA (PS E (tkP t len e) (tkE t len (tkP t len e))) (34, 0) (upd ((PS E (tkP t len e) (tkE t len (tkP t len e))) (34, 0)) (3 * m) (nI 6)) := ⟨_, rfl⟩
      refine g_wd hF1.symm ?_
      have hR1 : RK D F1 t len R m rc (tkP t len e) (tkE t len (tkP t len e)) := by rw [hF1]; exact RK.rd (by omega) hR0
      have hw1 : F1 (34, 0) (3 * m) = nI 6 := by rw [hF1, upA_s]; exact upd_at _ _ _
      refine g_aload_n cx dX6_readsLine_42 rfl ?_
      refine g_iload_n cx dX6_readsLine_43 rfl ?_
      refine g_callV (As := [vi (nI 6)]) (rest := []) cx knX6_readsRest (m_rr6_n2 hR1 hm11 hy1 hw1g hn2) a30_0 rfl rfl lmX6_143 niX6_readsRest seX6_readsRest rfl (by decide) (Nat.le_of_ble_eq_true rfl) rfl dX6_readsLine_44 (fun r0 F2 hp0 => ?_)
      obtain ⟨rfl, hR2⟩ := hp0
      show Gk X mX6_readsLine idsA 47 [some (vr (30, 0)), some (vi (nI 6))] [vi (nI 0)] F2
      refine g_if_neN (tgt := 52) cx dX6_readsLine_47 (by decide) (by omega) (fun h_47 => ?_) (fun h_47 => ?_)
      · skip
        exact absurd rfl h_47
      · skip
        refine g_iconst (v := nI 0) cx dX6_readsLine_50 (by decide) ?_
        exact g_ret cx rq rfl (by rfl) dX6_readsLine_51 ⟨rfl, hR2⟩
    · skip
      exact absurd h_13 (by decide)

set_option maxRecDepth 100000 in
set_option maxHeartbeats 4000000 in
theorem m_line_n {D E : Wd} {t : Nat → Nat} {len : Nat} {R : RS} {m : Nat} {rc : Nat → Nat × Nat} {p e : Nat} (hR : RK D E t len R m rc p e) (hwo : wOf t p e = none) : Fok mX6_readsLine idsA 5 [vr (30, 0)] E (some (vi (nI 0))) E := by
  obtain ⟨hX, ⟨h12, h13, h14⟩, hT, hRD, ⟨h5, hm12⟩, hRC, hFR⟩ := id hR
  obtain ⟨r1, r2, r3, r4, r5, r6, r7, r8, r9, r10⟩ := id hRD
  have hR0 := RK.tok hR
  refine Mok.of (L := [some (vr (30, 0)), none]) rfl (fun _ => Nat.le_of_ble_eq_true rfl) (fun _ => rfl) (fun X cx rq => ?_)
  refine g_aload_n cx dX6_readsLine_0 rfl ?_
  refine g_fcallV (As := []) (rest := []) cx knX6_wordOf (m_wordOf hX h13 h14 hT) a30_0 rfl rfl lmX6_140 niX6_wordOf seX6_wordOf rfl (by decide) (Nat.le_of_ble_eq_true rfl) rfl dX6_readsLine_1 ?_
  refine g_top (y := -1) (by rw [hwo]; rfl) ?_
  refine g_istore_n (L' := [some (vr (30, 0)), some (vi (-1))]) cx dX6_readsLine_4 (by decide) rfl rfl ?_
  refine g_iload_n cx dX6_readsLine_5 rfl ?_
  refine g_iconst (v := (-1)) cx dX6_readsLine_6 (by decide) ?_
  refine g_icmp_eq (tgt := 24) cx dX6_readsLine_7 (by decide) (fun h_7 => ?_) (fun h_7 => ?_)
  · skip
    refine g_iconst (v := nI 0) cx dX6_readsLine_24 (by decide) ?_
    exact g_fret cx rq rfl (by rfl) dX6_readsLine_25 (rfl) (rfl)
  · skip
    exact absurd rfl h_7

set_option maxRecDepth 100000 in
set_option maxHeartbeats 4000000 in
theorem m_line_p {D E : Wd} {t : Nat → Nat} {len : Nat} {R : RS} {m : Nat} {rc : Nat → Nat × Nat} {p e : Nat} (hR : RK D E t len R m rc p e) (hwo : wOf t p e = some 8) (hp5 : R.2.2.2.2.2 = 5) : Fok mX6_readsLine idsA 5 [vr (30, 0)] E (some (vi (nI 0))) E := by
  obtain ⟨hX, ⟨h12, h13, h14⟩, hT, hRD, ⟨h5, hm12⟩, hRC, hFR⟩ := id hR
  obtain ⟨r1, r2, r3, r4, r5, r6, r7, r8, r9, r10⟩ := id hRD
  have hR0 := RK.tok hR
  refine Mok.of (L := [some (vr (30, 0)), none]) rfl (fun _ => Nat.le_of_ble_eq_true rfl) (fun _ => rfl) (fun X cx rq => ?_)
  refine g_aload_n cx dX6_readsLine_0 rfl ?_
  refine g_fcallV (As := []) (rest := []) cx knX6_wordOf (m_wordOf hX h13 h14 hT) a30_0 rfl rfl lmX6_140 niX6_wordOf seX6_wordOf rfl (by decide) (Nat.le_of_ble_eq_true rfl) rfl dX6_readsLine_1 ?_
  refine g_top (y := nI 8) (by rw [hwo]; rfl) ?_
  refine g_istore_n (L' := [some (vr (30, 0)), some (vi (nI 8))]) cx dX6_readsLine_4 (by decide) rfl rfl ?_
  refine g_iload_n cx dX6_readsLine_5 rfl ?_
  refine g_iconst (v := (-1)) cx dX6_readsLine_6 (by decide) ?_
  refine g_icmp_eq (tgt := 24) cx dX6_readsLine_7 (by decide) (fun h_7 => ?_) (fun h_7 => ?_)
  · skip
    exact absurd h_7 (by decide)
  · skip
    refine g_iload_n cx dX6_readsLine_10 rfl ?_
    refine g_bipush (v := nI 8) cx dX6_readsLine_11 (by decide) ?_
    refine g_icmp_neN (tgt := 26) cx dX6_readsLine_13 (by decide) (by omega) (by omega) (fun h_13 => ?_) (fun h_13 => ?_)
    · skip
      exact absurd rfl h_13
    · skip
      refine g_aload_n cx dX6_readsLine_16 rfl ?_
      refine g_getIN (i := (30, 0)) (ci := 6) (k := 20) (v := nI R.2.2.2.2.2) cx a30_0 rfl rfl rfl (by decide) inX6 lfX6_137 dX6_readsLine_17 (r10) ?_
      refine g_iconst (v := nI 5) cx dX6_readsLine_20 (by decide) ?_
      refine g_icmp_neN (tgt := 26) cx dX6_readsLine_21 (by decide) (by omega) (by omega) (fun h_21 => ?_) (fun h_21 => ?_)
      · skip
        exact absurd hp5 h_21
      · skip
        refine g_iconst (v := nI 0) cx dX6_readsLine_24 (by decide) ?_
        exact g_fret cx rq rfl (by rfl) dX6_readsLine_25 (rfl) (rfl)
