theorem cnt8_le (v : Nat) : cntN (fun p => v.testBit p) 8 ≤ 8 := cntN_le _ 8
set_option maxRecDepth 100000 in
set_option maxHeartbeats 4000000 in
theorem x_errands {D : Wd} {n : Nat} {k f : Nat → Nat} {dn : Nat} {dr : Nat → Nat} {pn : Nat} (hP : PX D 0 n k f dn dr pn) {a : Nat → Nat} (hA : AX D 0 n a) (O : List Nat) (hO : ∀ j, j < 5 → D (17, 0) j = nI (O.getD j 0)) (x y z : Int32) : Mok mX5_errands idsA 11 [vr (0, 0), vi x, vi y, vi z] D (fun r' E' => r' = (some (vi (erXS n k f dn dr a O x y z))) ∧ TX D E') := by
  obtain ⟨hn3, hn8, hN, hK, hF, hd3, hDn, hDr, hp5, hPn⟩ := id hP
  have h28p : 2 ^ n ≤ 256 := (Nat.pow_le_pow_right (by decide) hn8 : 2 ^ n ≤ 2 ^ 8)
  refine Mok.of (L := [some (vr (0, 0)), some (vi x), some (vi y), some (vi z), none]) rfl (fun _ => Nat.le_of_ble_eq_true rfl) (fun _ => rfl) (fun X cx rq => ?_)
  refine g_aload_n cx dX5_errands_0 rfl ?_
  refine g_getR (i := (0, 0)) (ci := 5) (k := 0) (j := (1, 0)) cx a0_0 rfl rfl rfl (by decide) inX5 lfX5_10 dX5_errands_1 ?_
  refine g_iload_n cx dX5_errands_4 rfl ?_
  refine g_fcallV (As := [vi y]) (rest := []) cx knX1_has (x_has hP (by decide) y) a1_0 rfl rfl lmX5_87 niX1_has seX1_has rfl (by decide) (Nat.le_of_ble_eq_true rfl) rfl dX5_errands_5 ?_
  refine g_if_eqB (tgt := 23) cx dX5_errands_8 (by decide) (fun h_8 => ?_) (fun h_8 => ?_)
  · skip
    refine g_bipush (v := (-2)) cx dX5_errands_23 (by decide) ?_
    exact g_ret cx rq rfl (rfl) dX5_errands_25 ⟨by simp [erXS, eq_false h_8], TX.rf⟩
  · skip
    obtain ⟨j, hj, rfl⟩ := lt0_nI h_8
    have hjx : (nI j).toNatClampNeg = j := nI_clamp (by omega)
    have hji : ix (nI j) = j := hjx
    refine g_iload_n cx dX5_errands_11 rfl ?_
    refine g_aload_n cx dX5_errands_12 rfl ?_
    refine g_getR (i := (0, 0)) (ci := 5) (k := 0) (j := (1, 0)) cx a0_0 rfl rfl rfl (by decide) inX5 lfX5_10 dX5_errands_13 ?_
    refine g_getIN (i := (1, 0)) (ci := 1) (k := 0) (v := nI n) cx a1_0 rfl rfl rfl (by decide) inX1 lfX5_152 dX5_errands_16 (hN) ?_
    refine g_iushr cx dX5_errands_19 ?_
    refine g_top (y := (x.toUInt32 >>> ((nI n).toUInt32 &&& Int32.toUInt32 31)).toInt32) rfl ?_
    refine g_if_eq (tgt := 26) cx dX5_errands_20 (by decide) (fun h_20 => ?_) (fun h_20 => ?_)
    · skip
      have hx : lt0 x (2 ^ n) = true := (ushr_0 (by omega)).mp h_20
      obtain ⟨v, hv, rfl⟩ := lt0_nI hx
      have hvx : (nI v).toNatClampNeg = v := nI_clamp (by omega)
      have hvi : ix (nI v) = v := hvx
      have hv8 : v < 256 := Nat.lt_of_lt_of_le hv (Nat.pow_le_pow_right (by decide) hn8 : 2 ^ n ≤ 2 ^ 8)
      have hbl := bl_len n (by omega) v hv
      have hcn := cnt8_le v
      have hbn : (bl v n).length = cntN (fun p => v.testBit p) 8 := hbl.1.trans hbl.2.1
      refine g_iload_n cx dX5_errands_26 rfl ?_
      refine g_iconst (v := (-1)) cx dX5_errands_27 (by decide) ?_
      refine g_icmp_ge (tgt := 34) cx dX5_errands_28 (by decide) (fun h_28 => ?_) (fun h_28 => ?_)
      · skip
        have h28 := z_ge h_28
        refine g_iload_n cx dX5_errands_34 rfl ?_
        refine g_fcallS (As := [vi (nI v)]) (rest := []) cx knJ6_bitCount_0f7a4 (x_bitCount (v := v) hv8) lmX5_140 nsJ6_bitCount_0f7a4 rfl (by decide) (Nat.le_of_ble_eq_true rfl) rfl dX5_errands_35 ?_
        refine g_istore (L' := [some (vr (0, 0)), some (vi (nI v)), some (vi (nI j)), some (vi z), some (vi (nI (cntN (fun p => v.testBit p) 8)))]) cx dX5_errands_38 (by decide) rfl rfl ?_
        refine g_iload cx dX5_errands_40 rfl ?_
        refine g_iconst (v := nI 5) cx dX5_errands_42 (by decide) ?_
        refine g_icmp_leN (tgt := 49) cx dX5_errands_43 (by decide) (by omega) (by omega) (fun h_43 => ?_) (fun h_43 => ?_)
        · skip
          have h43 : ¬ 5 < cntN (fun p => v.testBit p) 8 := by omega
          refine g_aload_n cx dX5_errands_49 rfl ?_
          refine g_getR (i := (0, 0)) (ci := 5) (k := 6) (j := (14, 0)) cx a0_0 rfl rfl rfl (by decide) inX5 lfX5_46 dX5_errands_50 ?_
          refine g_aload_n cx dX5_errands_53 rfl ?_
          refine g_getR (i := (0, 0)) (ci := 5) (k := 2) (j := (9, 0)) cx a0_0 rfl rfl rfl (by decide) inX5 lfX5_28 dX5_errands_54 ?_
          refine g_iload_n cx dX5_errands_57 rfl ?_
          refine g_fcallVv (As := [vr (9, 0), vi (nI j)]) (rest := []) cx knX2_begin (x_rbegin (i := j)) a14_0 rfl rfl lmX5_158 niX2_begin seX2_begin rfl (by decide) (Nat.le_of_ble_eq_true rfl) rfl dX5_errands_58 ?_
          refine g_aload_n cx dX5_errands_61 rfl ?_
          refine g_getR (i := (0, 0)) (ci := 5) (k := 6) (j := (14, 0)) cx a0_0 rfl rfl rfl (by decide) inX5 lfX5_46 dX5_errands_62 ?_
          refine g_iconst (v := nI 0) cx dX5_errands_65 (by decide) ?_
          refine g_iload_n cx dX5_errands_66 rfl ?_
          refine g_iconst (v := nI 0) cx dX5_errands_67 (by decide) ?_
          refine g_callVN (host := RX5) (As := [vi (nI 0), vi (nI v), vi (nI 0)]) (rest := []) cx knX2_visit (x_visit0 (BgR.P hP) (BgR.A hn8 hA) (i := j) (v := v) (sp := 0) (F := 361) (cr := (bl v n).length) (cc := (bl v n).length) (od := []) (O := O) BgR.l.1 hj BgR.l.2 (by decide) (by decide) hv rfl (Nat.zero_add _) (by omega) rfl (fun j hj => absurd hj (Nat.not_lt_zero _)) (fun j hj => by rw [BgR.at (by decide) (by decide) (by decide) (by decide)]; exact hO j (by omega))) a14_0 rfl rfl (by decide) niX2_visit seX2_visit rfl (by decide) (Nat.le_of_ble_eq_true rfl) rfl dX5_errands_68 (fun r0 E hp0 => ?_)
          obtain ⟨rfl, hV⟩ := hp0
          show Gk X mX5_errands idsA 71 [some (vr (0, 0)), some (vi (nI v)), some (vi (nI j)), some (vi z), some (vi (nI (cntN (fun p => v.testBit p) 8)))] [] E
          refine g_aload_n cx dX5_errands_71 rfl ?_
          refine g_getR (i := (0, 0)) (ci := 5) (k := 6) (j := (14, 0)) cx a0_0 rfl rfl rfl (by decide) inX5 lfX5_46 dX5_errands_72 ?_
          refine g_getIN (i := (14, 0)) (ci := 2) (k := 6) (v := nI ((erV n k f dn dr a j v O).1)) cx a14_0 rfl rfl rfl (by decide) inX2 lfX5_165 dX5_errands_75 (hV.2.1) ?_
          refine g_sipush (v := nI 360) cx dX5_errands_78 (by decide) ?_
          have hle9 : (erV n k f dn dr a j v O).1 ≤ 361 := (vis_bd _ _ _ _ _ _ (Nat.zero_le _)).2
          refine g_icmp_leN (tgt := 86) cx dX5_errands_81 (by decide) (by omega) (by omega) (fun h_81 => ?_) (fun h_81 => ?_)
          · skip
            have h81 : ¬ 360 < (erV n k f dn dr a j v O).1 := by omega
            refine g_iload_n cx dX5_errands_86 rfl ?_
            refine g_iconst (v := (-1)) cx dX5_errands_87 (by decide) ?_
            refine g_icmp_ne (tgt := 99) cx dX5_errands_88 (by decide) (fun h_88 => ?_) (fun h_88 => ?_)
            · skip
              refine g_iload_n cx dX5_errands_99 rfl ?_
              refine g_iload cx dX5_errands_100 rfl ?_
              refine g_icmp_ge (tgt := 117) cx dX5_errands_102 (by decide) (fun h_102 => ?_) (fun h_102 => ?_)
              · skip
                have h102 := zz_lt h_102
                refine g_iconst (v := (-1)) cx dX5_errands_117 (by decide) ?_
                exact g_ret cx rq rfl (rfl) dX5_errands_118 ⟨by simp [erXS, eq_true h_8, eq_true hx, h28, hvx, h43, hjx, h81, eq_false h_88, h102], BgR.X.tr hV.1.X⟩
              · skip
                have h102 := z_lt' h_102
                have hz : lt0 z (cntN (fun p => v.testBit p) 8) = true := z_in (by omega) h_28 h_88 h_102
                obtain ⟨t, ht, rfl⟩ := lt0_nI hz
                have htx : (nI t).toNatClampNeg = t := nI_clamp (by omega)
                have hti : ix (nI t) = t := htx
                refine g_aload_n cx dX5_errands_105 rfl ?_
                refine g_getR (i := (0, 0)) (ci := 5) (k := 6) (j := (14, 0)) cx a0_0 rfl rfl rfl (by decide) inX5 lfX5_46 dX5_errands_106 ?_
                refine g_getR (i := (14, 0)) (ci := 2) (k := 4) (j := (17, 0)) cx a14_0 rfl rfl rfl (by decide) inX2 lfX5_168 dX5_errands_109 ?_
                refine g_iload_n cx dX5_errands_112 rfl ?_
                refine g_ialdN (i := (17, 0)) (j := t) (v := nI ((erV n k f dn dr a j v O).2.getD t 0)) cx a17_0 rfl (rfl) (by omega) (by decide) dX5_errands_113 (hV.2.2.2.1 t (by omega)) ?_
                refine g_goto (tgt := 118) cx dX5_errands_114 (by decide) ?_
                exact g_ret cx rq rfl (rfl) dX5_errands_118 ⟨by simp [erXS, eq_true h_8, eq_true hx, h28, hvx, h43, hjx, h81, eq_false h_88, h102, htx], BgR.X.tr hV.1.X⟩
            · skip
              refine g_aload_n cx dX5_errands_91 rfl ?_
              refine g_getR (i := (0, 0)) (ci := 5) (k := 6) (j := (14, 0)) cx a0_0 rfl rfl rfl (by decide) inX5 lfX5_46 dX5_errands_92 ?_
              refine g_getIN (i := (14, 0)) (ci := 2) (k := 6) (v := nI ((erV n k f dn dr a j v O).1)) cx a14_0 rfl rfl rfl (by decide) inX2 lfX5_165 dX5_errands_95 (hV.2.1) ?_
              exact g_ret cx rq rfl (rfl) dX5_errands_98 ⟨by simp [erXS, eq_true h_8, eq_true hx, h28, hvx, h43, hjx, h81, eq_true h_88], BgR.X.tr hV.1.X⟩
          · skip
            refine g_iconst (v := (-1)) cx dX5_errands_84 (by decide) ?_
            exact g_ret cx rq rfl (rfl) dX5_errands_85 ⟨by simp [erXS, eq_true h_8, eq_true hx, h28, hvx, h43, hjx, h_81], BgR.X.tr hV.1.X⟩
        · skip
          refine g_bipush (v := (-4)) cx dX5_errands_46 (by decide) ?_
          exact g_ret cx rq rfl (rfl) dX5_errands_48 ⟨by simp [erXS, eq_true h_8, eq_true hx, h28, hvx, h_43], TX.rf⟩
      · skip
        have h28 := z_lt' h_28
        refine g_bipush (v := (-3)) cx dX5_errands_31 (by decide) ?_
        exact g_ret cx rq rfl (rfl) dX5_errands_33 ⟨by simp [erXS, eq_true h_8, eq_true hx, h28], TX.rf⟩
    · skip
      have hx : ¬ lt0 x (2 ^ n) = true := fun e => h_20 ((ushr_0 (by omega)).mpr e)
      refine g_bipush (v := (-2)) cx dX5_errands_23 (by decide) ?_
      exact g_ret cx rq rfl (rfl) dX5_errands_25 ⟨by simp [erXS, eq_false hx], TX.rf⟩
