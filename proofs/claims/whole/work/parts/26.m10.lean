theorem sub_nd0 (x : Int32) (n : Nat) (f : Nat → Nat) (r w : Nat) : x - nI (ndG n f r w 0).1 = x := by
  rw [ndG, nI_0]; exact Int32.sub_zero x
set_option maxRecDepth 100000 in
set_option maxHeartbeats 4000000 in
theorem m_write {D : Wd} {len : Nat} (hLen : D (30, 0) 3 = nI len) (hl2 : len ≤ 200) (y : Int64) (x : Int32) : Fok mX6_write idsA 1 [vr (30, 0), vl y, vi x] D (some (vi (if rng x 1 8 then (if 200 < len + ix x then -5 else nI (len + ix x)) else -3))) (if rng x 1 8 && decide (len + ix x ≤ 200) then WT D len (ix x) (bM y) else D) := by
  refine Mok.of (L := [some (vr (30, 0)), some (vl y), none, some (vi x), none]) rfl (fun _ => Nat.le_of_ble_eq_true rfl) (fun _ => rfl) (fun X cx rq => ?_)
  refine g_iload_n cx dX6_write_0 rfl ?_
  refine g_i2l cx dX6_write_1 ?_
  refine g_lconst (v := 1) cx dX6_write_2 (by decide) ?_
  refine g_ldc2 (v := 8) cx lcX6_58 dX6_write_3 ?_
  refine g_fcallS (As := [vl x.toInt64, vl 1, vl 8]) (rest := []) cx knX6_in (m_in x.toInt64 1 8) lmX6_60 nsX6_in rfl (by decide) (Nat.le_of_ble_eq_true rfl) rfl dX6_write_6 ?_
  refine g_top (bi_iff (in_iff2 (a := 1) (b := 8) (by decide) (by decide) (by decide) (by decide))) ?_
  refine g_if_neB (tgt := 15) cx dX6_write_9 (by decide) (fun h_9 => ?_) (fun h_9 => ?_)
  · skip
    obtain ⟨j, hja, hjb, rfl⟩ := rng_nI h_9
    have hjx : (nI j).toNatClampNeg = j := nI_clamp (by omega)
    refine g_aload_n cx dX6_write_15 rfl ?_
    refine g_getIN (i := (30, 0)) (ci := 6) (k := 3) (v := nI len) cx a30_0 rfl rfl rfl (by decide) inX6 lfX6_64 dX6_write_16 (hLen) ?_
    refine g_iload_n cx dX6_write_19 rfl ?_
    refine g_iaddN cx dX6_write_20 ?_
    refine g_sipush (v := nI 200) cx dX6_write_21 (by decide) ?_
    refine g_icmp_leN (tgt := 30) cx dX6_write_24 (by decide) (by omega) (by omega) (fun h_24 => ?_) (fun h_24 => ?_)
    · skip
      have h_24b : ¬ 200 < len + j := by omega
      refine g_iconst (v := nI 0) cx dX6_write_30 (by decide) ?_
      refine g_istore (L' := [some (vr (30, 0)), some (vl y), none, some (vi (nI j)), some (vi (nI 0))]) cx dX6_write_31 (by decide) rfl rfl ?_
      have lp : ∀ (fu : Nat) (q : Nat), j - q < fu → (q ≤ j) → Gk X mX6_write idsA 33 [some (vr (30, 0)), some (vl y), none, some (vi (nI j)), some (vi (nI q))] [] (WT D len q (bM y)) := by
        intro fu
        induction fu with
        | zero => intro q hfu; exact absurd hfu (Nat.not_lt_zero _)
        | succ fu ih =>
          intro q hfu hq
          refine g_iload cx dX6_write_33 rfl ?_
          refine g_iload_n cx dX6_write_35 rfl ?_
          refine g_icmp_geN (tgt := 76) cx dX6_write_36 (by decide) (by omega) (by omega) (fun h_36 => ?_) (fun h_36 => ?_)
          · skip
            have e9 : q = j := by omega
            refine g_aload_n cx dX6_write_76 rfl ?_
            refine g_getIN (i := (30, 0)) (ci := 6) (k := 3) (v := nI (len + q)) cx a30_0 rfl rfl rfl (by decide) inX6 lfX6_64 dX6_write_77 (WT.len) ?_
            exact g_fret cx rq rfl (rfl) dX6_write_80 (by simp [eq_true h_9, hjx, h_24b, e9]) (by simp [eq_true h_9, hjx, h_24, e9])
          · skip
            refine g_aload_n cx dX6_write_39 rfl ?_
            refine g_getR (i := (30, 0)) (ci := 6) (k := 2) (j := (33, 0)) cx a30_0 rfl rfl rfl (by decide) inX6 lfX6_17 dX6_write_40 ?_
            refine g_aload_n cx dX6_write_43 rfl ?_
            refine g_getIN (i := (30, 0)) (ci := 6) (k := 3) (v := nI (len + q)) cx a30_0 rfl rfl rfl (by decide) inX6 lfX6_64 dX6_write_44 (WT.len) ?_
            refine g_lload_n cx dX6_write_47 rfl ?_
            refine g_bipush (v := nI 8) cx dX6_write_48 (by decide) ?_
            refine g_iload cx dX6_write_50 rfl ?_
            refine g_imulN cx dX6_write_52 ?_
            refine g_lshr cx dX6_write_53 ?_
            refine g_ldc2 (v := 255) cx lcX6_67 dX6_write_54 ?_
            refine g_land cx dX6_write_57 ?_
            refine g_l2i cx dX6_write_58 ?_
            refine g_top (y := bM y q) rfl ?_
            refine g_iast (i := (33, 0)) (j := len + q) cx a33_0 rfl (rfl) (by omega) (by decide) dX6_write_59 ?_
            refine g_aload_n cx dX6_write_60 rfl ?_
            refine g_dup cx dX6_write_61 rfl ?_
            refine g_getIN (i := (30, 0)) (ci := 6) (k := 3) (v := nI (len + q)) cx a30_0 rfl rfl rfl (by decide) inX6 lfX6_64 dX6_write_62 (by rw [upA_n _ _ (by decide)]; exact WT.len) ?_
            refine g_iconst (v := nI 1) cx dX6_write_65 (by decide) ?_
            refine g_iaddN cx dX6_write_66 ?_
            refine g_putI (i := (30, 0)) (ci := 6) (k := 3) cx a30_0 rfl rfl rfl (by decide) inX6 tyX6_ok nmX6 rfl rfl lfX6_64 dX6_write_67 ?_
            refine g_iincN (L' := [some (vr (30, 0)), some (vl y), none, some (vi (nI j)), some (vi (nI (q + 1)))]) cx dX6_write_70 rfl (by decide) rfl rfl ?_
            refine g_goto (tgt := 33) cx dX6_write_73 (by decide) ?_
            refine g_wd (D' := WT D len (q + 1) (bM y)) (WT.s) ?_
            exact ih (q + 1) (by omega) (by omega)
      refine g_wd (D' := WT D len 0 (bM y)) (WT.z hLen) ?_
      exact lp (j + 1) 0 (by omega) (by omega)
    · skip
      have h_24b : ¬ len + j ≤ 200 := by omega
      refine g_bipush (v := (-5)) cx dX6_write_27 (by decide) ?_
      exact g_fret cx rq rfl (rfl) dX6_write_29 (by simp [eq_true h_9, hjx, h_24]) (by simp [hjx, h_24b])
  · skip
    refine g_bipush (v := (-3)) cx dX6_write_12 (by decide) ?_
    exact g_fret cx rq rfl (rfl) dX6_write_14 (by simp [eq_false h_9]) (by simp [eq_false h_9])

set_option maxRecDepth 100000 in
set_option maxHeartbeats 4000000 in
theorem m_widest {D : Wd} {n : Nat} {k f : Nat → Nat} {dn : Nat} {dr : Nat → Nat} {pn : Nat} (hP : PM D n k f dn dr pn) {a : Nat → Nat} (hA : AM D 0 n a) (x : Int32) : Fok mX6_widest idsA 2 [vr (30, 0), vi x] D (some (vi (widS n k f a x))) D := by
  obtain ⟨hn3, hn8, hN, hK, hF, hd3, hDn, hDr, hp5, hPn⟩ := id hP
  refine Mok.of (L := [some (vr (30, 0)), some (vi x), none, none, none, none, none, none]) rfl (fun _ => Nat.le_of_ble_eq_true rfl) (fun _ => rfl) (fun X cx rq => ?_)
  refine g_aload_n cx dX6_widest_0 rfl ?_
  refine g_iload_n cx dX6_widest_1 rfl ?_
  refine g_fcallV (As := [vi x]) (rest := []) cx knX6_isLeaf (m_isLeaf hP x) a30_0 rfl rfl lmX6_183 niX6_isLeaf seX6_isLeaf rfl (by decide) (Nat.le_of_ble_eq_true rfl) rfl dX6_widest_2 ?_
  refine g_if_neB (tgt := 11) cx dX6_widest_5 (by decide) (fun h_5 => ?_) (fun h_5 => ?_)
  · skip
    obtain ⟨j, hj, rfl⟩ := lt0_nI h_5
    have hjx : (nI j).toNatClampNeg = j := nI_clamp (by omega)
    have hfs := fsG_ok (k := k) (n - 1) j 1 hj (by omega)
    have hlt := ltG_ok (k := k) (n - (fsG n k (n - 1) j 1).2) (nx n j) (fsG n k (n - 1) j 1).2 (nx_lt (by omega)) (by omega)
    have jn3 : Gk X mX6_widest idsA 122 [some (vr (30, 0)), some (vi (nI j)), some (vi (nI ((fsG n k (n - 1) j 1).1))), some (vi (nI ((ltG n k (n - (fsG n k (n - 1) j 1).2) (nx n j) (fsG n k (n - 1) j 1).2).2))), some (vi (nI ((ltG n k (n - (fsG n k (n - 1) j 1).2) (nx n j) (fsG n k (n - 1) j 1).2).1))), some (vi (nI (if (fsG n k (n - 1) j 1).1 = (ltG n k (n - (fsG n k (n - 1) j 1).2) (nx n j) (fsG n k (n - 1) j 1).2).1 ∨ (ltG n k (n - (fsG n k (n - 1) j 1).2) (nx n j) (fsG n k (n - 1) j 1).2).2 = n then 72 else onN (a (fsG n k (n - 1) j 1).1) (a (ltG n k (n - (fsG n k (n - 1) j 1).2) (nx n j) (fsG n k (n - 1) j 1).2).1)))), none, none] [] D := by
      refine g_iload_n cx dX6_widest_122 rfl ?_
      refine g_istore (L' := [some (vr (30, 0)), some (vi (nI j)), some (vi (nI ((fsG n k (n - 1) j 1).1))), some (vi (nI ((ltG n k (n - (fsG n k (n - 1) j 1).2) (nx n j) (fsG n k (n - 1) j 1).2).2))), some (vi (nI ((ltG n k (n - (fsG n k (n - 1) j 1).2) (nx n j) (fsG n k (n - 1) j 1).2).1))), some (vi (nI (if (fsG n k (n - 1) j 1).1 = (ltG n k (n - (fsG n k (n - 1) j 1).2) (nx n j) (fsG n k (n - 1) j 1).2).1 ∨ (ltG n k (n - (fsG n k (n - 1) j 1).2) (nx n j) (fsG n k (n - 1) j 1).2).2 = n then 72 else onN (a (fsG n k (n - 1) j 1).1) (a (ltG n k (n - (fsG n k (n - 1) j 1).2) (nx n j) (fsG n k (n - 1) j 1).2).1)))), some (vi (nI ((fsG n k (n - 1) j 1).1))), none]) cx dX6_widest_123 (by decide) rfl rfl ?_
      refine g_iconst (v := nI 0) cx dX6_widest_125 (by decide) ?_
      refine g_istore (L' := [some (vr (30, 0)), some (vi (nI j)), some (vi (nI ((fsG n k (n - 1) j 1).1))), some (vi (nI ((ltG n k (n - (fsG n k (n - 1) j 1).2) (nx n j) (fsG n k (n - 1) j 1).2).2))), some (vi (nI ((ltG n k (n - (fsG n k (n - 1) j 1).2) (nx n j) (fsG n k (n - 1) j 1).2).1))), some (vi (nI (if (fsG n k (n - 1) j 1).1 = (ltG n k (n - (fsG n k (n - 1) j 1).2) (nx n j) (fsG n k (n - 1) j 1).2).1 ∨ (ltG n k (n - (fsG n k (n - 1) j 1).2) (nx n j) (fsG n k (n - 1) j 1).2).2 = n then 72 else onN (a (fsG n k (n - 1) j 1).1) (a (ltG n k (n - (fsG n k (n - 1) j 1).2) (nx n j) (fsG n k (n - 1) j 1).2).1)))), some (vi (nI ((fsG n k (n - 1) j 1).1))), some (vi (nI 0))]) cx dX6_widest_126 (by decide) rfl rfl ?_
      refine g_loc (L' := [some (vr (30, 0)), some (vi (nI j)), some (vi (nI ((fsG n k (n - 1) j 1).1))), some (vi (nI ((ltG n k (n - (fsG n k (n - 1) j 1).2) (nx n j) (fsG n k (n - 1) j 1).2).2))), some (vi (nI ((ltG n k (n - (fsG n k (n - 1) j 1).2) (nx n j) (fsG n k (n - 1) j 1).2).1))), some (vi (nI (if (fsG n k (n - 1) j 1).1 = (ltG n k (n - (fsG n k (n - 1) j 1).2) (nx n j) (fsG n k (n - 1) j 1).2).1 ∨ (ltG n k (n - (fsG n k (n - 1) j 1).2) (nx n j) (fsG n k (n - 1) j 1).2).2 = n then 72 else onN (a (fsG n k (n - 1) j 1).1) (a (ltG n k (n - (fsG n k (n - 1) j 1).2) (nx n j) (fsG n k (n - 1) j 1).2).1)) - nI (ndG n f j (fsG n k (n - 1) j 1).1 0).1)), some (vi (nI ((fsG n k (n - 1) j 1).1))), some (vi (nI 0))]) (by rw [sub_nd0]) ?_
      refine g_loc (L' := [some (vr (30, 0)), some (vi (nI j)), some (vi (nI ((fsG n k (n - 1) j 1).1))), some (vi (nI ((ltG n k (n - (fsG n k (n - 1) j 1).2) (nx n j) (fsG n k (n - 1) j 1).2).2))), some (vi (nI ((ltG n k (n - (fsG n k (n - 1) j 1).2) (nx n j) (fsG n k (n - 1) j 1).2).1))), some (vi (nI (if (fsG n k (n - 1) j 1).1 = (ltG n k (n - (fsG n k (n - 1) j 1).2) (nx n j) (fsG n k (n - 1) j 1).2).1 ∨ (ltG n k (n - (fsG n k (n - 1) j 1).2) (nx n j) (fsG n k (n - 1) j 1).2).2 = n then 72 else onN (a (fsG n k (n - 1) j 1).1) (a (ltG n k (n - (fsG n k (n - 1) j 1).2) (nx n j) (fsG n k (n - 1) j 1).2).1)) - nI (ndG n f j (fsG n k (n - 1) j 1).1 0).1)), some (vi (nI ((ndG n f j (fsG n k (n - 1) j 1).1 0).2))), some (vi (nI 0))]) (rfl) ?_
      have lp3 : ∀ (fu : Nat) (q : Nat), (ltG n k (n - (fsG n k (n - 1) j 1).2) (nx n j) (fsG n k (n - 1) j 1).2).2 - q < fu → (q ≤ (ltG n k (n - (fsG n k (n - 1) j 1).2) (nx n j) (fsG n k (n - 1) j 1).2).2) → Gk X mX6_widest idsA 128 [some (vr (30, 0)), some (vi (nI j)), some (vi (nI ((fsG n k (n - 1) j 1).1))), some (vi (nI ((ltG n k (n - (fsG n k (n - 1) j 1).2) (nx n j) (fsG n k (n - 1) j 1).2).2))), some (vi (nI ((ltG n k (n - (fsG n k (n - 1) j 1).2) (nx n j) (fsG n k (n - 1) j 1).2).1))), some (vi (nI (if (fsG n k (n - 1) j 1).1 = (ltG n k (n - (fsG n k (n - 1) j 1).2) (nx n j) (fsG n k (n - 1) j 1).2).1 ∨ (ltG n k (n - (fsG n k (n - 1) j 1).2) (nx n j) (fsG n k (n - 1) j 1).2).2 = n then 72 else onN (a (fsG n k (n - 1) j 1).1) (a (ltG n k (n - (fsG n k (n - 1) j 1).2) (nx n j) (fsG n k (n - 1) j 1).2).1)) - nI (ndG n f j (fsG n k (n - 1) j 1).1 q).1)), some (vi (nI ((ndG n f j (fsG n k (n - 1) j 1).1 q).2))), some (vi (nI q))] [] D := by
        intro fu
        induction fu with
        | zero => intro q hfu; exact absurd hfu (Nat.not_lt_zero _)
        | succ fu ih =>
          intro q hfu hq
          have hnd := ndG_lt (f := f) (r := j) hfs.1 q
          refine g_iload cx dX6_widest_128 rfl ?_
          refine g_iload_n cx dX6_widest_130 rfl ?_
          refine g_icmp_geN (tgt := 172) cx dX6_widest_131 (by decide) (by omega) (by omega) (fun h_131 => ?_) (fun h_131 => ?_)
          · skip
            have e9 : q = (ltG n k (n - (fsG n k (n - 1) j 1).2) (nx n j) (fsG n k (n - 1) j 1).2).2 := by omega
            refine g_iload cx dX6_widest_172 rfl ?_
            exact g_fret cx rq rfl (rfl) dX6_widest_174 (by rw [widS, if_pos h_5, e9]; simp only [hjx]) (rfl)
          · skip
            refine g_iload cx dX6_widest_134 rfl ?_
            refine g_iload cx dX6_widest_136 rfl ?_
            refine g_iload_n cx dX6_widest_138 rfl ?_
            refine g_icmp_neN (tgt := 146) cx dX6_widest_139 (by decide) (by omega) (by omega) (fun h_139 => ?_) (fun h_139 => ?_)
            · skip
              refine g_aload_n cx dX6_widest_146 rfl ?_
              refine g_getR (i := (30, 0)) (ci := 6) (k := 8) (j := (36, 0)) cx a30_0 rfl rfl rfl (by decide) inX6 lfX6_30 dX6_widest_147 ?_
              refine g_iload cx dX6_widest_150 rfl ?_
              refine g_ialdN (i := (36, 0)) (j := (ndG n f j (fsG n k (n - 1) j 1).1 q).2) (v := nI (f ((ndG n f j (fsG n k (n - 1) j 1).1 q).2))) cx a36_0 rfl (rfl) (by omega) (by decide) dX6_widest_152 ((hF _ hnd).1) ?_
              refine g_iconst (v := nI 1) cx dX6_widest_153 (by decide) ?_
              refine g_iaddN cx dX6_widest_154 ?_
              refine g_top (y := nI (if (ndG n f j (fsG n k (n - 1) j 1).1 q).2 = j then 0 else f (ndG n f j (fsG n k (n - 1) j 1).1 q).2 + 1)) (by rw [if_neg h_139]) ?_
              refine g_isub cx dX6_widest_155 ?_
              refine g_top (y := nI (if (fsG n k (n - 1) j 1).1 = (ltG n k (n - (fsG n k (n - 1) j 1).2) (nx n j) (fsG n k (n - 1) j 1).2).1 ∨ (ltG n k (n - (fsG n k (n - 1) j 1).2) (nx n j) (fsG n k (n - 1) j 1).2).2 = n then 72 else onN (a (fsG n k (n - 1) j 1).1) (a (ltG n k (n - (fsG n k (n - 1) j 1).2) (nx n j) (fsG n k (n - 1) j 1).2).1)) - nI (ndG n f j (fsG n k (n - 1) j 1).1 (q + 1)).1) (by rw [sub_sub', nI_add]; rfl) ?_
              refine g_istore (L' := [some (vr (30, 0)), some (vi (nI j)), some (vi (nI ((fsG n k (n - 1) j 1).1))), some (vi (nI ((ltG n k (n - (fsG n k (n - 1) j 1).2) (nx n j) (fsG n k (n - 1) j 1).2).2))), some (vi (nI ((ltG n k (n - (fsG n k (n - 1) j 1).2) (nx n j) (fsG n k (n - 1) j 1).2).1))), some (vi (nI (if (fsG n k (n - 1) j 1).1 = (ltG n k (n - (fsG n k (n - 1) j 1).2) (nx n j) (fsG n k (n - 1) j 1).2).1 ∨ (ltG n k (n - (fsG n k (n - 1) j 1).2) (nx n j) (fsG n k (n - 1) j 1).2).2 = n then 72 else onN (a (fsG n k (n - 1) j 1).1) (a (ltG n k (n - (fsG n k (n - 1) j 1).2) (nx n j) (fsG n k (n - 1) j 1).2).1)) - nI (ndG n f j (fsG n k (n - 1) j 1).1 (q + 1)).1)), some (vi (nI ((ndG n f j (fsG n k (n - 1) j 1).1 q).2))), some (vi (nI q))]) cx dX6_widest_156 (by decide) rfl rfl ?_
              refine g_aload_n cx dX6_widest_158 rfl ?_
              refine g_iload cx dX6_widest_159 rfl ?_
              refine g_fcallV (As := [vi (nI ((ndG n f j (fsG n k (n - 1) j 1).1 q).2))]) (rest := []) cx knX6_next (m_next hP hnd) a30_0 rfl rfl lmX6_177 niX6_next seX6_next rfl (by decide) (Nat.le_of_ble_eq_true rfl) rfl dX6_widest_161 ?_
              refine g_istore (L' := [some (vr (30, 0)), some (vi (nI j)), some (vi (nI ((fsG n k (n - 1) j 1).1))), some (vi (nI ((ltG n k (n - (fsG n k (n - 1) j 1).2) (nx n j) (fsG n k (n - 1) j 1).2).2))), some (vi (nI ((ltG n k (n - (fsG n k (n - 1) j 1).2) (nx n j) (fsG n k (n - 1) j 1).2).1))), some (vi (nI (if (fsG n k (n - 1) j 1).1 = (ltG n k (n - (fsG n k (n - 1) j 1).2) (nx n j) (fsG n k (n - 1) j 1).2).1 ∨ (ltG n k (n - (fsG n k (n - 1) j 1).2) (nx n j) (fsG n k (n - 1) j 1).2).2 = n then 72 else onN (a (fsG n k (n - 1) j 1).1) (a (ltG n k (n - (fsG n k (n - 1) j 1).2) (nx n j) (fsG n k (n - 1) j 1).2).1)) - nI (ndG n f j (fsG n k (n - 1) j 1).1 (q + 1)).1)), some (vi (nI (nx n (ndG n f j (fsG n k (n - 1) j 1).1 q).2))), some (vi (nI q))]) cx dX6_widest_164 (by decide) rfl rfl ?_
              refine g_iincN (L' := [some (vr (30, 0)), some (vi (nI j)), some (vi (nI ((fsG n k (n - 1) j 1).1))), some (vi (nI ((ltG n k (n - (fsG n k (n - 1) j 1).2) (nx n j) (fsG n k (n - 1) j 1).2).2))), some (vi (nI ((ltG n k (n - (fsG n k (n - 1) j 1).2) (nx n j) (fsG n k (n - 1) j 1).2).1))), some (vi (nI (if (fsG n k (n - 1) j 1).1 = (ltG n k (n - (fsG n k (n - 1) j 1).2) (nx n j) (fsG n k (n - 1) j 1).2).1 ∨ (ltG n k (n - (fsG n k (n - 1) j 1).2) (nx n j) (fsG n k (n - 1) j 1).2).2 = n then 72 else onN (a (fsG n k (n - 1) j 1).1) (a (ltG n k (n - (fsG n k (n - 1) j 1).2) (nx n j) (fsG n k (n - 1) j 1).2).1)) - nI (ndG n f j (fsG n k (n - 1) j 1).1 (q + 1)).1)), some (vi (nI (nx n (ndG n f j (fsG n k (n - 1) j 1).1 q).2))), some (vi (nI (q + 1)))]) cx dX6_widest_166 rfl (by decide) rfl rfl ?_
              refine g_goto (tgt := 128) cx dX6_widest_169 (by decide) ?_
              exact ih (q + 1) (by omega) (by omega)
            · skip
              refine g_iconst (v := nI 0) cx dX6_widest_142 (by decide) ?_
              refine g_goto (tgt := 155) cx dX6_widest_143 (by decide) ?_
              refine g_top (y := nI (if (ndG n f j (fsG n k (n - 1) j 1).1 q).2 = j then 0 else f (ndG n f j (fsG n k (n - 1) j 1).1 q).2 + 1)) (by rw [if_pos h_139]) ?_
              refine g_isub cx dX6_widest_155 ?_
              refine g_top (y := nI (if (fsG n k (n - 1) j 1).1 = (ltG n k (n - (fsG n k (n - 1) j 1).2) (nx n j) (fsG n k (n - 1) j 1).2).1 ∨ (ltG n k (n - (fsG n k (n - 1) j 1).2) (nx n j) (fsG n k (n - 1) j 1).2).2 = n then 72 else onN (a (fsG n k (n - 1) j 1).1) (a (ltG n k (n - (fsG n k (n - 1) j 1).2) (nx n j) (fsG n k (n - 1) j 1).2).1)) - nI (ndG n f j (fsG n k (n - 1) j 1).1 (q + 1)).1) (by rw [sub_sub', nI_add]; rfl) ?_
              refine g_istore (L' := [some (vr (30, 0)), some (vi (nI j)), some (vi (nI ((fsG n k (n - 1) j 1).1))), some (vi (nI ((ltG n k (n - (fsG n k (n - 1) j 1).2) (nx n j) (fsG n k (n - 1) j 1).2).2))), some (vi (nI ((ltG n k (n - (fsG n k (n - 1) j 1).2) (nx n j) (fsG n k (n - 1) j 1).2).1))), some (vi (nI (if (fsG n k (n - 1) j 1).1 = (ltG n k (n - (fsG n k (n - 1) j 1).2) (nx n j) (fsG n k (n - 1) j 1).2).1 ∨ (ltG n k (n - (fsG n k (n - 1) j 1).2) (nx n j) (fsG n k (n - 1) j 1).2).2 = n then 72 else onN (a (fsG n k (n - 1) j 1).1) (a (ltG n k (n - (fsG n k (n - 1) j 1).2) (nx n j) (fsG n k (n - 1) j 1).2).1)) - nI (ndG n f j (fsG n k (n - 1) j 1).1 (q + 1)).1)), some (vi (nI ((ndG n f j (fsG n k (n - 1) j 1).1 q).2))), some (vi (nI q))]) cx dX6_widest_156 (by decide) rfl rfl ?_
              refine g_aload_n cx dX6_widest_158 rfl ?_
              refine g_iload cx dX6_widest_159 rfl ?_
              refine g_fcallV (As := [vi (nI ((ndG n f j (fsG n k (n - 1) j 1).1 q).2))]) (rest := []) cx knX6_next (m_next hP hnd) a30_0 rfl rfl lmX6_177 niX6_next seX6_next rfl (by decide) (Nat.le_of_ble_eq_true rfl) rfl dX6_widest_161 ?_
              refine g_istore (L' := [some (vr (30, 0)), some (vi (nI j)), some (vi (nI ((fsG n k (n - 1) j 1).1))), some (vi (nI ((ltG n k (n - (fsG n k (n - 1) j 1).2) (nx n j) (fsG n k (n - 1) j 1).2).2))), some (vi (nI ((ltG n k (n - (fsG n k (n - 1) j 1).2) (nx n j) (fsG n k (n - 1) j 1).2).1))), some (vi (nI (if (fsG n k (n - 1) j 1).1 = (ltG n k (n - (fsG n k (n - 1) j 1).2) (nx n j) (fsG n k (n - 1) j 1).2).1 ∨ (ltG n k (n - (fsG n k (n - 1) j 1).2) (nx n j) (fsG n k (n - 1) j 1).2).2 = n then 72 else onN (a (fsG n k (n - 1) j 1).1) (a (ltG n k (n - (fsG n k (n - 1) j 1).2) (nx n j) (fsG n k (n - 1) j 1).2).1)) - nI (ndG n f j (fsG n k (n - 1) j 1).1 (q + 1)).1)), some (vi (nI (nx n (ndG n f j (fsG n k (n - 1) j 1).1 q).2))), some (vi (nI q))]) cx dX6_widest_164 (by decide) rfl rfl ?_
              refine g_iincN (L' := [some (vr (30, 0)), some (vi (nI j)), some (vi (nI ((fsG n k (n - 1) j 1).1))), some (vi (nI ((ltG n k (n - (fsG n k (n - 1) j 1).2) (nx n j) (fsG n k (n - 1) j 1).2).2))), some (vi (nI ((ltG n k (n - (fsG n k (n - 1) j 1).2) (nx n j) (fsG n k (n - 1) j 1).2).1))), some (vi (nI (if (fsG n k (n - 1) j 1).1 = (ltG n k (n - (fsG n k (n - 1) j 1).2) (nx n j) (fsG n k (n - 1) j 1).2).1 ∨ (ltG n k (n - (fsG n k (n - 1) j 1).2) (nx n j) (fsG n k (n - 1) j 1).2).2 = n then 72 else onN (a (fsG n k (n - 1) j 1).1) (a (ltG n k (n - (fsG n k (n - 1) j 1).2) (nx n j) (fsG n k (n - 1) j 1).2).1)) - nI (ndG n f j (fsG n k (n - 1) j 1).1 (q + 1)).1)), some (vi (nI (nx n (ndG n f j (fsG n k (n - 1) j 1).1 q).2))), some (vi (nI (q + 1)))]) cx dX6_widest_166 rfl (by decide) rfl rfl ?_
              refine g_goto (tgt := 128) cx dX6_widest_169 (by decide) ?_
              exact ih (q + 1) (by omega) (by omega)
      exact lp3 (n + 1) 0 (by omega) (by omega)
    have jn2 : Gk X mX6_widest idsA 85 [some (vr (30, 0)), some (vi (nI j)), some (vi (nI ((fsG n k (n - 1) j 1).1))), some (vi (nI ((ltG n k (n - (fsG n k (n - 1) j 1).2) (nx n j) (fsG n k (n - 1) j 1).2).2))), some (vi (nI ((ltG n k (n - (fsG n k (n - 1) j 1).2) (nx n j) (fsG n k (n - 1) j 1).2).1))), none, none, none] [] D := by
      refine g_iload_n cx dX6_widest_85 rfl ?_
      refine g_iload cx dX6_widest_86 rfl ?_
      refine g_icmp_eqN (tgt := 99) cx dX6_widest_88 (by decide) (by omega) (by omega) (fun h_88 => ?_) (fun h_88 => ?_)
      · skip
        refine g_bipush (v := nI 72) cx dX6_widest_99 (by decide) ?_
        refine g_goto (tgt := 120) cx dX6_widest_101 (by decide) ?_
        refine g_top (y := nI (if (fsG n k (n - 1) j 1).1 = (ltG n k (n - (fsG n k (n - 1) j 1).2) (nx n j) (fsG n k (n - 1) j 1).2).1 ∨ (ltG n k (n - (fsG n k (n - 1) j 1).2) (nx n j) (fsG n k (n - 1) j 1).2).2 = n then 72 else onN (a (fsG n k (n - 1) j 1).1) (a (ltG n k (n - (fsG n k (n - 1) j 1).2) (nx n j) (fsG n k (n - 1) j 1).2).1))) (by first | rw [if_pos (Or.inl h_88)] | rw [if_pos (Or.inr h_96)]) ?_
        refine g_istore (L' := [some (vr (30, 0)), some (vi (nI j)), some (vi (nI ((fsG n k (n - 1) j 1).1))), some (vi (nI ((ltG n k (n - (fsG n k (n - 1) j 1).2) (nx n j) (fsG n k (n - 1) j 1).2).2))), some (vi (nI ((ltG n k (n - (fsG n k (n - 1) j 1).2) (nx n j) (fsG n k (n - 1) j 1).2).1))), some (vi (nI (if (fsG n k (n - 1) j 1).1 = (ltG n k (n - (fsG n k (n - 1) j 1).2) (nx n j) (fsG n k (n - 1) j 1).2).1 ∨ (ltG n k (n - (fsG n k (n - 1) j 1).2) (nx n j) (fsG n k (n - 1) j 1).2).2 = n then 72 else onN (a (fsG n k (n - 1) j 1).1) (a (ltG n k (n - (fsG n k (n - 1) j 1).2) (nx n j) (fsG n k (n - 1) j 1).2).1)))), none, none]) cx dX6_widest_120 (by decide) rfl rfl ?_
        exact jn3
      · skip
        refine g_iload_n cx dX6_widest_91 rfl ?_
        refine g_aload_n cx dX6_widest_92 rfl ?_
        refine g_getIN (i := (30, 0)) (ci := 6) (k := 6) (v := nI n) cx a30_0 rfl rfl rfl (by decide) inX6 lfX6_23 dX6_widest_93 (hN) ?_
        refine g_icmp_neN (tgt := 104) cx dX6_widest_96 (by decide) (by omega) (by omega) (fun h_96 => ?_) (fun h_96 => ?_)
        · skip
          refine g_aload_n cx dX6_widest_104 rfl ?_
          refine g_getR (i := (30, 0)) (ci := 6) (k := 0) (j := (31, 0)) cx a30_0 rfl rfl rfl (by decide) inX6 lfX6_7 dX6_widest_105 ?_
          refine g_iload_n cx dX6_widest_108 rfl ?_
          refine g_ialdN (i := (31, 0)) (j := (fsG n k (n - 1) j 1).1) (v := nI (a ((fsG n k (n - 1) j 1).1))) cx a31_0 rfl (rfl) (by omega) (by decide) dX6_widest_109 ((hA.z _ (by omega)).1) ?_
          refine g_aload_n cx dX6_widest_110 rfl ?_
          refine g_getR (i := (30, 0)) (ci := 6) (k := 0) (j := (31, 0)) cx a30_0 rfl rfl rfl (by decide) inX6 lfX6_7 dX6_widest_111 ?_
          refine g_iload cx dX6_widest_114 rfl ?_
          refine g_ialdN (i := (31, 0)) (j := (ltG n k (n - (fsG n k (n - 1) j 1).2) (nx n j) (fsG n k (n - 1) j 1).2).1) (v := nI (a ((ltG n k (n - (fsG n k (n - 1) j 1).2) (nx n j) (fsG n k (n - 1) j 1).2).1))) cx a31_0 rfl (rfl) (by omega) (by decide) dX6_widest_116 ((hA.z _ (by omega)).1) ?_
          refine g_fcallS (As := [vi (nI (a ((fsG n k (n - 1) j 1).1))), vi (nI (a ((ltG n k (n - (fsG n k (n - 1) j 1).2) (nx n j) (fsG n k (n - 1) j 1).2).1)))]) (rest := []) cx knX6_on (m_on ((hA.z _ (by omega)).2) ((hA.z _ (by omega)).2)) lmX6_54 nsX6_on rfl (by decide) (Nat.le_of_ble_eq_true rfl) rfl dX6_widest_117 ?_
          refine g_top (y := nI (if (fsG n k (n - 1) j 1).1 = (ltG n k (n - (fsG n k (n - 1) j 1).2) (nx n j) (fsG n k (n - 1) j 1).2).1 ∨ (ltG n k (n - (fsG n k (n - 1) j 1).2) (nx n j) (fsG n k (n - 1) j 1).2).2 = n then 72 else onN (a (fsG n k (n - 1) j 1).1) (a (ltG n k (n - (fsG n k (n - 1) j 1).2) (nx n j) (fsG n k (n - 1) j 1).2).1))) (by rw [if_neg (fun e => e.elim h_88 h_96)]) ?_
          refine g_istore (L' := [some (vr (30, 0)), some (vi (nI j)), some (vi (nI ((fsG n k (n - 1) j 1).1))), some (vi (nI ((ltG n k (n - (fsG n k (n - 1) j 1).2) (nx n j) (fsG n k (n - 1) j 1).2).2))), some (vi (nI ((ltG n k (n - (fsG n k (n - 1) j 1).2) (nx n j) (fsG n k (n - 1) j 1).2).1))), some (vi (nI (if (fsG n k (n - 1) j 1).1 = (ltG n k (n - (fsG n k (n - 1) j 1).2) (nx n j) (fsG n k (n - 1) j 1).2).1 ∨ (ltG n k (n - (fsG n k (n - 1) j 1).2) (nx n j) (fsG n k (n - 1) j 1).2).2 = n then 72 else onN (a (fsG n k (n - 1) j 1).1) (a (ltG n k (n - (fsG n k (n - 1) j 1).2) (nx n j) (fsG n k (n - 1) j 1).2).1)))), none, none]) cx dX6_widest_120 (by decide) rfl rfl ?_
          exact jn3
        · skip
          refine g_bipush (v := nI 72) cx dX6_widest_99 (by decide) ?_
          refine g_goto (tgt := 120) cx dX6_widest_101 (by decide) ?_
          refine g_top (y := nI (if (fsG n k (n - 1) j 1).1 = (ltG n k (n - (fsG n k (n - 1) j 1).2) (nx n j) (fsG n k (n - 1) j 1).2).1 ∨ (ltG n k (n - (fsG n k (n - 1) j 1).2) (nx n j) (fsG n k (n - 1) j 1).2).2 = n then 72 else onN (a (fsG n k (n - 1) j 1).1) (a (ltG n k (n - (fsG n k (n - 1) j 1).2) (nx n j) (fsG n k (n - 1) j 1).2).1))) (by first | rw [if_pos (Or.inl h_88)] | rw [if_pos (Or.inr h_96)]) ?_
          refine g_istore (L' := [some (vr (30, 0)), some (vi (nI j)), some (vi (nI ((fsG n k (n - 1) j 1).1))), some (vi (nI ((ltG n k (n - (fsG n k (n - 1) j 1).2) (nx n j) (fsG n k (n - 1) j 1).2).2))), some (vi (nI ((ltG n k (n - (fsG n k (n - 1) j 1).2) (nx n j) (fsG n k (n - 1) j 1).2).1))), some (vi (nI (if (fsG n k (n - 1) j 1).1 = (ltG n k (n - (fsG n k (n - 1) j 1).2) (nx n j) (fsG n k (n - 1) j 1).2).1 ∨ (ltG n k (n - (fsG n k (n - 1) j 1).2) (nx n j) (fsG n k (n - 1) j 1).2).2 = n then 72 else onN (a (fsG n k (n - 1) j 1).1) (a (ltG n k (n - (fsG n k (n - 1) j 1).2) (nx n j) (fsG n k (n - 1) j 1).2).1)))), none, none]) cx dX6_widest_120 (by decide) rfl rfl ?_
          exact jn3
    have jn1 : Gk X mX6_widest idsA 45 [some (vr (30, 0)), some (vi (nI j)), some (vi (nI ((fsG n k (n - 1) j 1).1))), some (vi (nI ((fsG n k (n - 1) j 1).2))), none, none, none, none] [] D := by
      refine g_aload_n cx dX6_widest_45 rfl ?_
      refine g_iload_n cx dX6_widest_46 rfl ?_
      refine g_fcallV (As := [vi (nI j)]) (rest := []) cx knX6_next (m_next hP (i := j) (by omega)) a30_0 rfl rfl lmX6_177 niX6_next seX6_next rfl (by decide) (Nat.le_of_ble_eq_true rfl) rfl dX6_widest_47 ?_
      refine g_istore (L' := [some (vr (30, 0)), some (vi (nI j)), some (vi (nI ((fsG n k (n - 1) j 1).1))), some (vi (nI ((fsG n k (n - 1) j 1).2))), some (vi (nI (nx n j))), none, none, none]) cx dX6_widest_50 (by decide) rfl rfl ?_
      have lp2 : ∀ (fu : Nat) (w2 : Nat) (m2 : Nat), n - m2 < fu → (w2 < n) → (m2 ≤ n) → (ltG n k (n - m2) w2 m2 = ltG n k (n - (fsG n k (n - 1) j 1).2) (nx n j) (fsG n k (n - 1) j 1).2) → Gk X mX6_widest idsA 52 [some (vr (30, 0)), some (vi (nI j)), some (vi (nI ((fsG n k (n - 1) j 1).1))), some (vi (nI m2)), some (vi (nI w2)), none, none, none] [] D := by
        intro fu
        induction fu with
        | zero => intro w2 m2 hfu; exact absurd hfu (Nat.not_lt_zero _)
        | succ fu ih =>
          intro w2 m2 hfu hw2 hm6 hm8
          have hkw2 := (hK w2 hw2).2
          refine g_aload_n cx dX6_widest_52 rfl ?_
          refine g_getR (i := (30, 0)) (ci := 6) (k := 7) (j := (35, 0)) cx a30_0 rfl rfl rfl (by decide) inX6 lfX6_27 dX6_widest_53 ?_
          refine g_iload cx dX6_widest_56 rfl ?_
          refine g_ialdN (i := (35, 0)) (j := w2) (v := nI (k w2)) cx a35_0 rfl (rfl) (by omega) (by decide) dX6_widest_58 ((hK w2 (by omega)).1) ?_
          refine g_iconst (v := nI 3) cx dX6_widest_59 (by decide) ?_
          refine g_icmp_eqN (tgt := 85) cx dX6_widest_60 (by decide) (by omega) (by omega) (fun h_60 => ?_) (fun h_60 => ?_)
          · skip
            have hm7 : (w2, m2) = ltG n k (n - (fsG n k (n - 1) j 1).2) (nx n j) (fsG n k (n - 1) j 1).2 := by
              rw [← hm8]
              cases hz : n - m2 with
              | zero => rfl
              | succ z => rw [ltG, if_pos h_60]
            refine g_loc (L' := [some (vr (30, 0)), some (vi (nI j)), some (vi (nI ((fsG n k (n - 1) j 1).1))), some (vi (nI ((ltG n k (n - (fsG n k (n - 1) j 1).2) (nx n j) (fsG n k (n - 1) j 1).2).2))), some (vi (nI ((ltG n k (n - (fsG n k (n - 1) j 1).2) (nx n j) (fsG n k (n - 1) j 1).2).1))), none, none, none]) (by rw [← hm7]) ?_
            exact jn2
          · skip
            refine g_iload_n cx dX6_widest_63 rfl ?_
            refine g_aload_n cx dX6_widest_64 rfl ?_
            refine g_getIN (i := (30, 0)) (ci := 6) (k := 6) (v := nI n) cx a30_0 rfl rfl rfl (by decide) inX6 lfX6_23 dX6_widest_65 (hN) ?_
            refine g_icmp_geN (tgt := 85) cx dX6_widest_68 (by decide) (by omega) (by omega) (fun h_68 => ?_) (fun h_68 => ?_)
            · skip
              have hm7 : (w2, m2) = ltG n k (n - (fsG n k (n - 1) j 1).2) (nx n j) (fsG n k (n - 1) j 1).2 := by
                rw [← hm8, show n - m2 = 0 from by omega]; rfl
              refine g_loc (L' := [some (vr (30, 0)), some (vi (nI j)), some (vi (nI ((fsG n k (n - 1) j 1).1))), some (vi (nI ((ltG n k (n - (fsG n k (n - 1) j 1).2) (nx n j) (fsG n k (n - 1) j 1).2).2))), some (vi (nI ((ltG n k (n - (fsG n k (n - 1) j 1).2) (nx n j) (fsG n k (n - 1) j 1).2).1))), none, none, none]) (by rw [← hm7]) ?_
              exact jn2
            · skip
              have hm9 : ltG n k (n - (m2 + 1)) (nx n w2) (m2 + 1) = ltG n k (n - (fsG n k (n - 1) j 1).2) (nx n j) (fsG n k (n - 1) j 1).2 := by
                rw [← hm8, show n - m2 = (n - (m2 + 1)) + 1 from by omega, ltG, if_neg h_60]
              refine g_aload_n cx dX6_widest_71 rfl ?_
              refine g_iload cx dX6_widest_72 rfl ?_
              refine g_fcallV (As := [vi (nI w2)]) (rest := []) cx knX6_next (m_next hP (i := w2) (by omega)) a30_0 rfl rfl lmX6_177 niX6_next seX6_next rfl (by decide) (Nat.le_of_ble_eq_true rfl) rfl dX6_widest_74 ?_
              refine g_istore (L' := [some (vr (30, 0)), some (vi (nI j)), some (vi (nI ((fsG n k (n - 1) j 1).1))), some (vi (nI m2)), some (vi (nI (nx n w2))), none, none, none]) cx dX6_widest_77 (by decide) rfl rfl ?_
              refine g_iincN (L' := [some (vr (30, 0)), some (vi (nI j)), some (vi (nI ((fsG n k (n - 1) j 1).1))), some (vi (nI (m2 + 1))), some (vi (nI (nx n w2))), none, none, none]) cx dX6_widest_79 rfl (by decide) rfl rfl ?_
              refine g_goto (tgt := 52) cx dX6_widest_82 (by decide) ?_
              exact ih (nx n w2) (m2 + 1) (by omega) (nx_lt (by omega)) (by omega) hm9
      exact lp2 (n + 1) (nx n j) ((fsG n k (n - 1) j 1).2) (by omega) (nx_lt (by omega)) hfs.2.1 rfl
    refine g_iload_n cx dX6_widest_11 rfl ?_
    refine g_istore_n (L' := [some (vr (30, 0)), some (vi (nI j)), some (vi (nI j)), none, none, none, none, none]) cx dX6_widest_12 (by decide) rfl rfl ?_
    refine g_iconst (v := nI 1) cx dX6_widest_13 (by decide) ?_
    refine g_istore_n (L' := [some (vr (30, 0)), some (vi (nI j)), some (vi (nI j)), some (vi (nI 1)), none, none, none, none]) cx dX6_widest_14 (by decide) rfl rfl ?_
    have lp1 : ∀ (fu : Nat) (w : Nat) (m : Nat), n - m < fu → (w < n) → (1 ≤ m) → (m ≤ n) → (fsG n k (n - m) w m = fsG n k (n - 1) j 1) → Gk X mX6_widest idsA 15 [some (vr (30, 0)), some (vi (nI j)), some (vi (nI w)), some (vi (nI m)), none, none, none, none] [] D := by
      intro fu
      induction fu with
      | zero => intro w m hfu; exact absurd hfu (Nat.not_lt_zero _)
      | succ fu ih =>
        intro w m hfu hw hm1 hm2 hm3
        have hkw := (hK w hw).2
        refine g_aload_n cx dX6_widest_15 rfl ?_
        refine g_getR (i := (30, 0)) (ci := 6) (k := 7) (j := (35, 0)) cx a30_0 rfl rfl rfl (by decide) inX6 lfX6_27 dX6_widest_16 ?_
        refine g_iload_n cx dX6_widest_19 rfl ?_
        refine g_ialdN (i := (35, 0)) (j := w) (v := nI (k w)) cx a35_0 rfl (rfl) (by omega) (by decide) dX6_widest_20 ((hK w (by omega)).1) ?_
        refine g_iconst (v := nI 3) cx dX6_widest_21 (by decide) ?_
        refine g_icmp_eqN (tgt := 45) cx dX6_widest_22 (by decide) (by omega) (by omega) (fun h_22 => ?_) (fun h_22 => ?_)
        · skip
          have hm4 : (w, m) = fsG n k (n - 1) j 1 := by
            rw [← hm3]
            cases hz : n - m with
            | zero => rfl
            | succ z => rw [fsG, if_pos h_22]
          refine g_loc (L' := [some (vr (30, 0)), some (vi (nI j)), some (vi (nI ((fsG n k (n - 1) j 1).1))), some (vi (nI ((fsG n k (n - 1) j 1).2))), none, none, none, none]) (by rw [← hm4]) ?_
          exact jn1
        · skip
          refine g_iload_n cx dX6_widest_25 rfl ?_
          refine g_aload_n cx dX6_widest_26 rfl ?_
          refine g_getIN (i := (30, 0)) (ci := 6) (k := 6) (v := nI n) cx a30_0 rfl rfl rfl (by decide) inX6 lfX6_23 dX6_widest_27 (hN) ?_
          refine g_icmp_geN (tgt := 45) cx dX6_widest_30 (by decide) (by omega) (by omega) (fun h_30 => ?_) (fun h_30 => ?_)
          · skip
            have hm4 : (w, m) = fsG n k (n - 1) j 1 := by
              rw [← hm3, show n - m = 0 from by omega]; rfl
            refine g_loc (L' := [some (vr (30, 0)), some (vi (nI j)), some (vi (nI ((fsG n k (n - 1) j 1).1))), some (vi (nI ((fsG n k (n - 1) j 1).2))), none, none, none, none]) (by rw [← hm4]) ?_
            exact jn1
          · skip
            have hm5 : fsG n k (n - (m + 1)) (bf n w) (m + 1) = fsG n k (n - 1) j 1 := by
              rw [← hm3, show n - m = (n - (m + 1)) + 1 from by omega, fsG, if_neg h_22]
            refine g_aload_n cx dX6_widest_33 rfl ?_
            refine g_iload_n cx dX6_widest_34 rfl ?_
            refine g_fcallV (As := [vi (nI w)]) (rest := []) cx knX6_ahead (m_ahead hP (i := w) (by omega)) a30_0 rfl rfl lmX6_192 niX6_ahead seX6_ahead rfl (by decide) (Nat.le_of_ble_eq_true rfl) rfl dX6_widest_35 ?_
            refine g_istore_n (L' := [some (vr (30, 0)), some (vi (nI j)), some (vi (nI (bf n w))), some (vi (nI m)), none, none, none, none]) cx dX6_widest_38 (by decide) rfl rfl ?_
            refine g_iincN (L' := [some (vr (30, 0)), some (vi (nI j)), some (vi (nI (bf n w))), some (vi (nI (m + 1))), none, none, none, none]) cx dX6_widest_39 rfl (by decide) rfl rfl ?_
            refine g_goto (tgt := 15) cx dX6_widest_42 (by decide) ?_
            exact ih (bf n w) (m + 1) (by omega) (bf_lt hw) (by omega) (by omega) hm5
    exact lp1 (n + 1) j 1 (by omega) hj (by omega) (by omega) rfl
  · skip
    refine g_bipush (v := (-2)) cx dX6_widest_8 (by decide) ?_
    exact g_fret cx rq rfl (rfl) dX6_widest_10 (by simp [widS, eq_false h_5]) (rfl)

set_option maxRecDepth 100000 in
set_option maxHeartbeats 4000000 in
theorem m_setAside {D : Wd} : Fok mX6_setAside idsA 0 [vr (30, 0)] D none (Sas D 8) := by
  refine Mok.of (L := [some (vr (30, 0)), none]) rfl (fun _ => Nat.le_of_ble_eq_true rfl) (fun _ => rfl) (fun X cx rq => ?_)
  refine g_iconst (v := nI 0) cx dX6_setAside_0 (by decide) ?_
  refine g_istore_n (L' := [some (vr (30, 0)), some (vi (nI 0))]) cx dX6_setAside_1 (by decide) rfl rfl ?_
  have lp : ∀ (fu : Nat) (q : Nat), 8 - q < fu → (q ≤ 8) → Gk X mX6_setAside idsA 2 [some (vr (30, 0)), some (vi (nI q))] [] (Sas D q) := by
    intro fu
    induction fu with
    | zero => intro q hfu; exact absurd hfu (Nat.not_lt_zero _)
    | succ fu ih =>
      intro q hfu hq
      refine g_iload_n cx dX6_setAside_2 rfl ?_
      refine g_bipush (v := nI 8) cx dX6_setAside_3 (by decide) ?_
      refine g_icmp_geN (tgt := 29) cx dX6_setAside_5 (by decide) (by omega) (by omega) (fun h_5 => ?_) (fun h_5 => ?_)
      · skip
        have e9 : q = 8 := by omega
        exact g_fvret cx rq rfl dX6_setAside_29 rfl (by rw [e9])
      · skip
        refine g_aload_n cx dX6_setAside_8 rfl ?_
        refine g_getR (i := (30, 0)) (ci := 6) (k := 23) (j := (42, 0)) cx a30_0 rfl rfl rfl (by decide) inX6 lfX6_48 dX6_setAside_9 ?_
        refine g_iload_n cx dX6_setAside_12 rfl ?_
        refine g_aload_n cx dX6_setAside_13 rfl ?_
        refine g_getR (i := (30, 0)) (ci := 6) (k := 0) (j := (31, 0)) cx a30_0 rfl rfl rfl (by decide) inX6 lfX6_7 dX6_setAside_14 ?_
        refine g_bipush (v := nI 42) cx dX6_setAside_17 (by decide) ?_
        refine g_iload_n cx dX6_setAside_19 rfl ?_
        refine g_iaddN cx dX6_setAside_20 ?_
        refine g_iald (i := (31, 0)) (j := 42 + q) cx a31_0 rfl (rfl) (by omega) (by decide) dX6_setAside_21 ?_
        refine g_iast (i := (42, 0)) (j := q) cx a42_0 rfl (rfl) (by omega) (by decide) dX6_setAside_22 ?_
        refine g_iincN (L' := [some (vr (30, 0)), some (vi (nI (q + 1)))]) cx dX6_setAside_23 rfl (by decide) rfl rfl ?_
        refine g_goto (tgt := 2) cx dX6_setAside_26 (by decide) ?_
        refine g_wd (D' := Sas D (q + 1)) (Sas.s D q) ?_
        exact ih (q + 1) (by omega) (by omega)
  refine g_wd (D' := Sas D 0) (Sas.z D) ?_
  exact lp 9 0 (by omega) (by omega)

set_option maxRecDepth 100000 in
set_option maxHeartbeats 4000000 in
theorem m_putBack {D : Wd} : Fok mX6_putBack idsA 0 [vr (30, 0)] D none (Pbk D 8) := by
  refine Mok.of (L := [some (vr (30, 0)), none]) rfl (fun _ => Nat.le_of_ble_eq_true rfl) (fun _ => rfl) (fun X cx rq => ?_)
  refine g_iconst (v := nI 0) cx dX6_putBack_0 (by decide) ?_
  refine g_istore_n (L' := [some (vr (30, 0)), some (vi (nI 0))]) cx dX6_putBack_1 (by decide) rfl rfl ?_
  have lp : ∀ (fu : Nat) (q : Nat), 8 - q < fu → (q ≤ 8) → Gk X mX6_putBack idsA 2 [some (vr (30, 0)), some (vi (nI q))] [] (Pbk D q) := by
    intro fu
    induction fu with
    | zero => intro q hfu; exact absurd hfu (Nat.not_lt_zero _)
    | succ fu ih =>
      intro q hfu hq
      refine g_iload_n cx dX6_putBack_2 rfl ?_
      refine g_bipush (v := nI 8) cx dX6_putBack_3 (by decide) ?_
      refine g_icmp_geN (tgt := 29) cx dX6_putBack_5 (by decide) (by omega) (by omega) (fun h_5 => ?_) (fun h_5 => ?_)
      · skip
        have e9 : q = 8 := by omega
        exact g_fvret cx rq rfl dX6_putBack_29 rfl (by rw [e9])
      · skip
        refine g_aload_n cx dX6_putBack_8 rfl ?_
        refine g_getR (i := (30, 0)) (ci := 6) (k := 0) (j := (31, 0)) cx a30_0 rfl rfl rfl (by decide) inX6 lfX6_7 dX6_putBack_9 ?_
        refine g_bipush (v := nI 42) cx dX6_putBack_12 (by decide) ?_
        refine g_iload_n cx dX6_putBack_14 rfl ?_
        refine g_iaddN cx dX6_putBack_15 ?_
        refine g_aload_n cx dX6_putBack_16 rfl ?_
        refine g_getR (i := (30, 0)) (ci := 6) (k := 23) (j := (42, 0)) cx a30_0 rfl rfl rfl (by decide) inX6 lfX6_48 dX6_putBack_17 ?_
        refine g_iload_n cx dX6_putBack_20 rfl ?_
        refine g_iald (i := (42, 0)) (j := q) cx a42_0 rfl (rfl) (by omega) (by decide) dX6_putBack_21 ?_
        refine g_iast (i := (31, 0)) (j := 42 + q) cx a31_0 rfl (rfl) (by omega) (by decide) dX6_putBack_22 ?_
        refine g_iincN (L' := [some (vr (30, 0)), some (vi (nI (q + 1)))]) cx dX6_putBack_23 rfl (by decide) rfl rfl ?_
        refine g_goto (tgt := 2) cx dX6_putBack_26 (by decide) ?_
        refine g_wd (D' := Pbk D (q + 1)) (Pbk.s D q) ?_
        exact ih (q + 1) (by omega) (by omega)
  refine g_wd (D' := Pbk D 0) (Pbk.z D) ?_
  exact lp 9 0 (by omega) (by omega)
