theorem Rw.out {D : Wd} {bs n : Nat} {a : Nat → Nat} {q : Nat} (h : bs + n ≤ q) : Rw D bs n a (31, 0) q = D (31, 0) q := by
  rw [Rw, upA_s, putA_out (by omega)]
theorem isAs_f {q : Nat} {w : Int32} (h0 : ¬ w = 0) (h1 : w = nI 1 → ¬ q < 2) (h2 : w = nI 2 → ¬ q = 1) (h3 : w = nI 3 → ¬ 2 ≤ q) (h4 : w = nI 4 → ¬ q = 3) : ¬ isAs q w = true := by
  intro h
  simp only [isAs, Bool.or_eq_true, Bool.and_eq_true, decide_eq_true_eq] at h
  rcases h with (((h | ⟨a, b⟩) | ⟨a, b⟩) | ⟨a, b⟩) | ⟨a, b⟩
  · exact h0 h
  · exact h1 a b
  · exact h2 a b
  · exact h3 a b
  · exact h4 a b
set_option maxRecDepth 100000 in
set_option maxHeartbeats 4000000 in
theorem m_as {D : Wd} {n : Nat} {k f : Nat → Nat} {dn : Nat} {dr : Nat → Nat} {pn : Nat} (hP : PM D n k f dn dr pn) {a : Nat → Nat} (hA : AM D 0 n a) (x w : Int32) : Fok mX6_as idsA 4 [vr (30, 0), vi x, vi w] D (some (vi (asS n k f a x w))) D := by
  obtain ⟨hn3, hn8, hN, hK, hF, hd3, hDn, hDr, hp5, hPn⟩ := id hP
  have hbz : ∀ m i s, bitsN (inM n m i s) n < 256 := fun m i s => bits256 hn8
  refine Mok.of (L := [some (vr (30, 0)), some (vi x), some (vi w), none, none]) rfl (fun _ => Nat.le_of_ble_eq_true rfl) (fun _ => rfl) (fun X cx rq => ?_)
  refine g_aload_n cx dX6_as_0 rfl ?_
  refine g_iload_n cx dX6_as_1 rfl ?_
  refine g_fcallV (As := [vi x]) (rest := []) cx knX6_isLeaf (m_isLeaf hP x) a30_0 rfl rfl lmX6_183 niX6_isLeaf seX6_isLeaf rfl (by decide) (Nat.le_of_ble_eq_true rfl) rfl dX6_as_2 ?_
  refine g_if_neB (tgt := 11) cx dX6_as_5 (by decide) (fun h_5 => ?_) (fun h_5 => ?_)
  · skip
    obtain ⟨j, hj, rfl⟩ := lt0_nI h_5
    have hjx : (nI j).toNatClampNeg = j := nI_clamp (by omega)
    have hkj := (hK j hj).2
    refine g_iload_n cx dX6_as_11 rfl ?_
    refine g_i2l cx dX6_as_12 ?_
    refine g_lconst (v := 0) cx dX6_as_13 (by decide) ?_
    refine g_ldc2 (v := 4) cx lcX6_202 dX6_as_14 ?_
    refine g_fcallS (As := [vl w.toInt64, vl 0, vl 4]) (rest := []) cx knX6_in (m_in w.toInt64 0 4) lmX6_60 nsX6_in rfl (by decide) (Nat.le_of_ble_eq_true rfl) rfl dX6_as_17 ?_
    refine g_top (bi_iff (in_iff0 (n := 5) (by decide) (by decide) (by decide))) ?_
    refine g_if_neB (tgt := 26) cx dX6_as_20 (by decide) (fun h_20 => ?_) (fun h_20 => ?_)
    · skip
      refine g_aload_n cx dX6_as_26 rfl ?_
      refine g_getR (i := (30, 0)) (ci := 6) (k := 7) (j := (35, 0)) cx a30_0 rfl rfl rfl (by decide) inX6 lfX6_27 dX6_as_27 ?_
      refine g_iload_n cx dX6_as_30 rfl ?_
      refine g_ialdN (i := (35, 0)) (j := j) (v := nI (k j)) cx a35_0 rfl (rfl) (by omega) (by decide) dX6_as_31 ((hK j (by omega)).1) ?_
      refine g_istore_n (L' := [some (vr (30, 0)), some (vi (nI j)), some (vi w), some (vi (nI (k j))), none]) cx dX6_as_32 (by decide) rfl rfl ?_
      have jn : Gk X mX6_as idsA 84 [some (vr (30, 0)), some (vi (nI j)), some (vi w), some (vi (nI (k j))), some (vi (if isAs (k j) w = true then 1 else 0))] [] D := by
        refine g_iload cx dX6_as_84 rfl ?_
        refine g_if_eqB (tgt := 123) cx dX6_as_86 (by decide) (fun h_86 => ?_) (fun h_86 => ?_)
        · skip
          refine g_bipush (v := (-4)) cx dX6_as_123 (by decide) ?_
          exact g_fret cx rq rfl (rfl) dX6_as_125 (by simp [asS, eq_true h_5, hjx, eq_true h_20, eq_false h_86]) (rfl)
        · skip
          refine g_aload_n cx dX6_as_89 rfl ?_
          refine g_iconst (v := nI 0) cx dX6_as_90 (by decide) ?_
          refine g_iload_n cx dX6_as_91 rfl ?_
          refine g_iconst (v := nI 0) cx dX6_as_92 (by decide) ?_
          refine g_fcallV (As := [vi (nI 0), vi (nI j), vi (nI 0)]) (rest := []) cx knX6_chain (m_chain hP hA (by omega) (i := j) (s := 0) (by omega) (by omega)) a30_0 rfl rfl lmX6_195 niX6_chain seX6_chain rfl (by decide) (Nat.le_of_ble_eq_true rfl) rfl dX6_as_93 ?_
          have hb1 := hbz (mov n a k f j 0) j 0
          refine g_if_eqN (tgt := 103) cx dX6_as_96 (by decide) (by omega) (fun h_96 => ?_) (fun h_96 => ?_)
          · skip
            refine g_iconst (v := nI 0) cx dX6_as_103 (by decide) ?_
            refine g_top (y := nI (if mov n a k f j 0 = 0 then 0 else 1)) (by rw [if_pos ((mset_ne (by omega) hj (by decide)).mp h_96)]) ?_
            refine g_aload_n cx dX6_as_104 rfl ?_
            refine g_iconst (v := nI 0) cx dX6_as_105 (by decide) ?_
            refine g_iload_n cx dX6_as_106 rfl ?_
            refine g_iconst (v := nI 1) cx dX6_as_107 (by decide) ?_
            refine g_fcallV (As := [vi (nI 0), vi (nI j), vi (nI 1)]) (rest := [vi (nI (if mov n a k f j 0 = 0 then 0 else 1))]) cx knX6_chain (m_chain hP hA (by omega) (i := j) (s := 1) (by omega) (by omega)) a30_0 rfl rfl lmX6_195 niX6_chain seX6_chain rfl (by decide) (Nat.le_of_ble_eq_true rfl) rfl dX6_as_108 ?_
            have hb2 := hbz (mov n a k f j 1) j 1
            refine g_if_eqN (tgt := 118) cx dX6_as_111 (by decide) (by omega) (fun h_111 => ?_) (fun h_111 => ?_)
            · skip
              refine g_iconst (v := nI 0) cx dX6_as_118 (by decide) ?_
              refine g_top (y := nI (if mov n a k f j 1 = 0 then 0 else 2)) (by rw [if_pos ((mset_ne (by omega) hj (by decide)).mp h_111)]) ?_
              refine g_iaddN cx dX6_as_119 ?_
              refine g_goto (tgt := 125) cx dX6_as_120 (by decide) ?_
              exact g_fret cx rq rfl (rfl) dX6_as_125 (by simp [asS, eq_true h_5, hjx, eq_true h_20, eq_true h_86, h_96, h_111]) (rfl)
            · skip
              refine g_iconst (v := nI 2) cx dX6_as_114 (by decide) ?_
              refine g_goto (tgt := 119) cx dX6_as_115 (by decide) ?_
              refine g_top (y := nI (if mov n a k f j 1 = 0 then 0 else 2)) (by rw [if_neg (fun e => h_111 ((mset_ne (by omega) hj (by decide)).mpr e))]) ?_
              refine g_iaddN cx dX6_as_119 ?_
              refine g_goto (tgt := 125) cx dX6_as_120 (by decide) ?_
              exact g_fret cx rq rfl (rfl) dX6_as_125 (by simp [asS, eq_true h_5, hjx, eq_true h_20, eq_true h_86, h_96, h_111]) (rfl)
          · skip
            refine g_iconst (v := nI 1) cx dX6_as_99 (by decide) ?_
            refine g_goto (tgt := 104) cx dX6_as_100 (by decide) ?_
            refine g_top (y := nI (if mov n a k f j 0 = 0 then 0 else 1)) (by rw [if_neg (fun e => h_96 ((mset_ne (by omega) hj (by decide)).mpr e))]) ?_
            refine g_aload_n cx dX6_as_104 rfl ?_
            refine g_iconst (v := nI 0) cx dX6_as_105 (by decide) ?_
            refine g_iload_n cx dX6_as_106 rfl ?_
            refine g_iconst (v := nI 1) cx dX6_as_107 (by decide) ?_
            refine g_fcallV (As := [vi (nI 0), vi (nI j), vi (nI 1)]) (rest := [vi (nI (if mov n a k f j 0 = 0 then 0 else 1))]) cx knX6_chain (m_chain hP hA (by omega) (i := j) (s := 1) (by omega) (by omega)) a30_0 rfl rfl lmX6_195 niX6_chain seX6_chain rfl (by decide) (Nat.le_of_ble_eq_true rfl) rfl dX6_as_108 ?_
            have hb2 := hbz (mov n a k f j 1) j 1
            refine g_if_eqN (tgt := 118) cx dX6_as_111 (by decide) (by omega) (fun h_111 => ?_) (fun h_111 => ?_)
            · skip
              refine g_iconst (v := nI 0) cx dX6_as_118 (by decide) ?_
              refine g_top (y := nI (if mov n a k f j 1 = 0 then 0 else 2)) (by rw [if_pos ((mset_ne (by omega) hj (by decide)).mp h_111)]) ?_
              refine g_iaddN cx dX6_as_119 ?_
              refine g_goto (tgt := 125) cx dX6_as_120 (by decide) ?_
              exact g_fret cx rq rfl (rfl) dX6_as_125 (by simp [asS, eq_true h_5, hjx, eq_true h_20, eq_true h_86, h_96, h_111]) (rfl)
            · skip
              refine g_iconst (v := nI 2) cx dX6_as_114 (by decide) ?_
              refine g_goto (tgt := 119) cx dX6_as_115 (by decide) ?_
              refine g_top (y := nI (if mov n a k f j 1 = 0 then 0 else 2)) (by rw [if_neg (fun e => h_111 ((mset_ne (by omega) hj (by decide)).mpr e))]) ?_
              refine g_iaddN cx dX6_as_119 ?_
              refine g_goto (tgt := 125) cx dX6_as_120 (by decide) ?_
              exact g_fret cx rq rfl (rfl) dX6_as_125 (by simp [asS, eq_true h_5, hjx, eq_true h_20, eq_true h_86, h_96, h_111]) (rfl)
      refine g_iload_n cx dX6_as_33 rfl ?_
      refine g_if_eq (tgt := 77) cx dX6_as_34 (by decide) (fun h_34 => ?_) (fun h_34 => ?_)
      · skip
        refine g_iconst (v := nI 1) cx dX6_as_77 (by decide) ?_
        refine g_goto (tgt := 82) cx dX6_as_78 (by decide) ?_
        refine g_top (y := if isAs (k j) w = true then 1 else 0) (by rw [bi_t (c := isAs (k j) w = true) (by simp [isAs, eq_true h_5, hjx, eq_true h_20, eq_true h_34])]) ?_
        refine g_istore (L' := [some (vr (30, 0)), some (vi (nI j)), some (vi w), some (vi (nI (k j))), some (vi (if isAs (k j) w = true then 1 else 0))]) cx dX6_as_82 (by decide) rfl rfl ?_
        exact jn
      · skip
        refine g_iload_n cx dX6_as_37 rfl ?_
        refine g_iconst (v := nI 1) cx dX6_as_38 (by decide) ?_
        refine g_icmp_ne (tgt := 47) cx dX6_as_39 (by decide) (fun h_39 => ?_) (fun h_39 => ?_)
        · skip
          refine g_iload_n cx dX6_as_47 rfl ?_
          refine g_iconst (v := nI 2) cx dX6_as_48 (by decide) ?_
          refine g_icmp_ne (tgt := 57) cx dX6_as_49 (by decide) (fun h_49 => ?_) (fun h_49 => ?_)
          · skip
            refine g_iload_n cx dX6_as_57 rfl ?_
            refine g_iconst (v := nI 3) cx dX6_as_58 (by decide) ?_
            refine g_icmp_ne (tgt := 67) cx dX6_as_59 (by decide) (fun h_59 => ?_) (fun h_59 => ?_)
            · skip
              refine g_iload_n cx dX6_as_67 rfl ?_
              refine g_iconst (v := nI 4) cx dX6_as_68 (by decide) ?_
              refine g_icmp_ne (tgt := 81) cx dX6_as_69 (by decide) (fun h_69 => ?_) (fun h_69 => ?_)
              · skip
                refine g_iconst (v := nI 0) cx dX6_as_81 (by decide) ?_
                refine g_top (y := if isAs (k j) w = true then 1 else 0) (by rw [bi_f (c := isAs (k j) w = true) (isAs_f (by first | exact h_34) (by first | (intro e; exact absurd e h_39) | (intro e; omega)) (by first | (intro e; exact absurd e h_49) | (intro e; omega)) (by first | (intro e; exact absurd e h_59) | (intro e; omega)) (by first | (intro e; exact absurd e h_69) | (intro e; omega)))]) ?_
                refine g_istore (L' := [some (vr (30, 0)), some (vi (nI j)), some (vi w), some (vi (nI (k j))), some (vi (if isAs (k j) w = true then 1 else 0))]) cx dX6_as_82 (by decide) rfl rfl ?_
                exact jn
              · skip
                refine g_iload_n cx dX6_as_72 rfl ?_
                refine g_iconst (v := nI 3) cx dX6_as_73 (by decide) ?_
                refine g_icmp_neN (tgt := 81) cx dX6_as_74 (by decide) (by omega) (by omega) (fun h_74 => ?_) (fun h_74 => ?_)
                · skip
                  refine g_iconst (v := nI 0) cx dX6_as_81 (by decide) ?_
                  refine g_top (y := if isAs (k j) w = true then 1 else 0) (by rw [bi_f (c := isAs (k j) w = true) (isAs_f (by first | exact h_34) (by first | (intro e; exact absurd e h_39) | (intro e; omega)) (by first | (intro e; exact absurd e h_49) | (intro e; omega)) (by first | (intro e; exact absurd e h_59) | (intro e; omega)) (by first | (intro e; exact absurd e h_69) | (intro e; omega)))]) ?_
                  refine g_istore (L' := [some (vr (30, 0)), some (vi (nI j)), some (vi w), some (vi (nI (k j))), some (vi (if isAs (k j) w = true then 1 else 0))]) cx dX6_as_82 (by decide) rfl rfl ?_
                  exact jn
                · skip
                  refine g_iconst (v := nI 1) cx dX6_as_77 (by decide) ?_
                  refine g_goto (tgt := 82) cx dX6_as_78 (by decide) ?_
                  refine g_top (y := if isAs (k j) w = true then 1 else 0) (by rw [bi_t (c := isAs (k j) w = true) (by simp [isAs, eq_true h_5, hjx, eq_true h_20, eq_false h_34, eq_false h_39, eq_false h_49, eq_false h_59, eq_true h_69, h_74])]) ?_
                  refine g_istore (L' := [some (vr (30, 0)), some (vi (nI j)), some (vi w), some (vi (nI (k j))), some (vi (if isAs (k j) w = true then 1 else 0))]) cx dX6_as_82 (by decide) rfl rfl ?_
                  exact jn
            · skip
              refine g_iload_n cx dX6_as_62 rfl ?_
              refine g_iconst (v := nI 2) cx dX6_as_63 (by decide) ?_
              refine g_icmp_geN (tgt := 77) cx dX6_as_64 (by decide) (by omega) (by omega) (fun h_64 => ?_) (fun h_64 => ?_)
              · skip
                refine g_iconst (v := nI 1) cx dX6_as_77 (by decide) ?_
                refine g_goto (tgt := 82) cx dX6_as_78 (by decide) ?_
                refine g_top (y := if isAs (k j) w = true then 1 else 0) (by rw [bi_t (c := isAs (k j) w = true) (by simp [isAs, eq_true h_5, hjx, eq_true h_20, eq_false h_34, eq_false h_39, eq_false h_49, eq_true h_59, h_64])]) ?_
                refine g_istore (L' := [some (vr (30, 0)), some (vi (nI j)), some (vi w), some (vi (nI (k j))), some (vi (if isAs (k j) w = true then 1 else 0))]) cx dX6_as_82 (by decide) rfl rfl ?_
                exact jn
              · skip
                refine g_iload_n cx dX6_as_67 rfl ?_
                refine g_iconst (v := nI 4) cx dX6_as_68 (by decide) ?_
                refine g_icmp_ne (tgt := 81) cx dX6_as_69 (by decide) (fun h_69 => ?_) (fun h_69 => ?_)
                · skip
                  refine g_iconst (v := nI 0) cx dX6_as_81 (by decide) ?_
                  refine g_top (y := if isAs (k j) w = true then 1 else 0) (by rw [bi_f (c := isAs (k j) w = true) (isAs_f (by first | exact h_34) (by first | (intro e; exact absurd e h_39) | (intro e; omega)) (by first | (intro e; exact absurd e h_49) | (intro e; omega)) (by first | (intro e; exact absurd e h_59) | (intro e; omega)) (by first | (intro e; exact absurd e h_69) | (intro e; omega)))]) ?_
                  refine g_istore (L' := [some (vr (30, 0)), some (vi (nI j)), some (vi w), some (vi (nI (k j))), some (vi (if isAs (k j) w = true then 1 else 0))]) cx dX6_as_82 (by decide) rfl rfl ?_
                  exact jn
                · skip
                  refine g_iload_n cx dX6_as_72 rfl ?_
                  refine g_iconst (v := nI 3) cx dX6_as_73 (by decide) ?_
                  refine g_icmp_neN (tgt := 81) cx dX6_as_74 (by decide) (by omega) (by omega) (fun h_74 => ?_) (fun h_74 => ?_)
                  · skip
                    refine g_iconst (v := nI 0) cx dX6_as_81 (by decide) ?_
                    refine g_top (y := if isAs (k j) w = true then 1 else 0) (by rw [bi_f (c := isAs (k j) w = true) (isAs_f (by first | exact h_34) (by first | (intro e; exact absurd e h_39) | (intro e; omega)) (by first | (intro e; exact absurd e h_49) | (intro e; omega)) (by first | (intro e; exact absurd e h_59) | (intro e; omega)) (by first | (intro e; exact absurd e h_69) | (intro e; omega)))]) ?_
                    refine g_istore (L' := [some (vr (30, 0)), some (vi (nI j)), some (vi w), some (vi (nI (k j))), some (vi (if isAs (k j) w = true then 1 else 0))]) cx dX6_as_82 (by decide) rfl rfl ?_
                    exact jn
                  · skip
                    refine g_iconst (v := nI 1) cx dX6_as_77 (by decide) ?_
                    refine g_goto (tgt := 82) cx dX6_as_78 (by decide) ?_
                    refine g_top (y := if isAs (k j) w = true then 1 else 0) (by rw [bi_t (c := isAs (k j) w = true) (by simp [isAs, eq_true h_5, hjx, eq_true h_20, eq_false h_34, eq_false h_39, eq_false h_49, eq_true h_59, h_64, eq_true h_69, h_74])]) ?_
                    refine g_istore (L' := [some (vr (30, 0)), some (vi (nI j)), some (vi w), some (vi (nI (k j))), some (vi (if isAs (k j) w = true then 1 else 0))]) cx dX6_as_82 (by decide) rfl rfl ?_
                    exact jn
          · skip
            refine g_iload_n cx dX6_as_52 rfl ?_
            refine g_iconst (v := nI 1) cx dX6_as_53 (by decide) ?_
            refine g_icmp_eqN (tgt := 77) cx dX6_as_54 (by decide) (by omega) (by omega) (fun h_54 => ?_) (fun h_54 => ?_)
            · skip
              refine g_iconst (v := nI 1) cx dX6_as_77 (by decide) ?_
              refine g_goto (tgt := 82) cx dX6_as_78 (by decide) ?_
              refine g_top (y := if isAs (k j) w = true then 1 else 0) (by rw [bi_t (c := isAs (k j) w = true) (by simp [isAs, eq_true h_5, hjx, eq_true h_20, eq_false h_34, eq_false h_39, eq_true h_49, h_54])]) ?_
              refine g_istore (L' := [some (vr (30, 0)), some (vi (nI j)), some (vi w), some (vi (nI (k j))), some (vi (if isAs (k j) w = true then 1 else 0))]) cx dX6_as_82 (by decide) rfl rfl ?_
              exact jn
            · skip
              refine g_iload_n cx dX6_as_57 rfl ?_
              refine g_iconst (v := nI 3) cx dX6_as_58 (by decide) ?_
              refine g_icmp_ne (tgt := 67) cx dX6_as_59 (by decide) (fun h_59 => ?_) (fun h_59 => ?_)
              · skip
                refine g_iload_n cx dX6_as_67 rfl ?_
                refine g_iconst (v := nI 4) cx dX6_as_68 (by decide) ?_
                refine g_icmp_ne (tgt := 81) cx dX6_as_69 (by decide) (fun h_69 => ?_) (fun h_69 => ?_)
                · skip
                  refine g_iconst (v := nI 0) cx dX6_as_81 (by decide) ?_
                  refine g_top (y := if isAs (k j) w = true then 1 else 0) (by rw [bi_f (c := isAs (k j) w = true) (isAs_f (by first | exact h_34) (by first | (intro e; exact absurd e h_39) | (intro e; omega)) (by first | (intro e; exact absurd e h_49) | (intro e; omega)) (by first | (intro e; exact absurd e h_59) | (intro e; omega)) (by first | (intro e; exact absurd e h_69) | (intro e; omega)))]) ?_
                  refine g_istore (L' := [some (vr (30, 0)), some (vi (nI j)), some (vi w), some (vi (nI (k j))), some (vi (if isAs (k j) w = true then 1 else 0))]) cx dX6_as_82 (by decide) rfl rfl ?_
                  exact jn
                · skip
                  refine g_iload_n cx dX6_as_72 rfl ?_
                  refine g_iconst (v := nI 3) cx dX6_as_73 (by decide) ?_
                  refine g_icmp_neN (tgt := 81) cx dX6_as_74 (by decide) (by omega) (by omega) (fun h_74 => ?_) (fun h_74 => ?_)
                  · skip
                    refine g_iconst (v := nI 0) cx dX6_as_81 (by decide) ?_
                    refine g_top (y := if isAs (k j) w = true then 1 else 0) (by rw [bi_f (c := isAs (k j) w = true) (isAs_f (by first | exact h_34) (by first | (intro e; exact absurd e h_39) | (intro e; omega)) (by first | (intro e; exact absurd e h_49) | (intro e; omega)) (by first | (intro e; exact absurd e h_59) | (intro e; omega)) (by first | (intro e; exact absurd e h_69) | (intro e; omega)))]) ?_
                    refine g_istore (L' := [some (vr (30, 0)), some (vi (nI j)), some (vi w), some (vi (nI (k j))), some (vi (if isAs (k j) w = true then 1 else 0))]) cx dX6_as_82 (by decide) rfl rfl ?_
                    exact jn
                  · skip
                    refine g_iconst (v := nI 1) cx dX6_as_77 (by decide) ?_
                    refine g_goto (tgt := 82) cx dX6_as_78 (by decide) ?_
                    refine g_top (y := if isAs (k j) w = true then 1 else 0) (by rw [bi_t (c := isAs (k j) w = true) (by simp [isAs, eq_true h_5, hjx, eq_true h_20, eq_false h_34, eq_false h_39, eq_true h_49, h_54, eq_false h_59, eq_true h_69, h_74])]) ?_
                    refine g_istore (L' := [some (vr (30, 0)), some (vi (nI j)), some (vi w), some (vi (nI (k j))), some (vi (if isAs (k j) w = true then 1 else 0))]) cx dX6_as_82 (by decide) rfl rfl ?_
                    exact jn
              · skip
                refine g_iload_n cx dX6_as_62 rfl ?_
                refine g_iconst (v := nI 2) cx dX6_as_63 (by decide) ?_
                refine g_icmp_geN (tgt := 77) cx dX6_as_64 (by decide) (by omega) (by omega) (fun h_64 => ?_) (fun h_64 => ?_)
                · skip
                  refine g_iconst (v := nI 1) cx dX6_as_77 (by decide) ?_
                  refine g_goto (tgt := 82) cx dX6_as_78 (by decide) ?_
                  refine g_top (y := if isAs (k j) w = true then 1 else 0) (by rw [bi_t (c := isAs (k j) w = true) (by simp [isAs, eq_true h_5, hjx, eq_true h_20, eq_false h_34, eq_false h_39, eq_true h_49, h_54, eq_true h_59, h_64])]) ?_
                  refine g_istore (L' := [some (vr (30, 0)), some (vi (nI j)), some (vi w), some (vi (nI (k j))), some (vi (if isAs (k j) w = true then 1 else 0))]) cx dX6_as_82 (by decide) rfl rfl ?_
                  exact jn
                · skip
                  refine g_iload_n cx dX6_as_67 rfl ?_
                  refine g_iconst (v := nI 4) cx dX6_as_68 (by decide) ?_
                  refine g_icmp_ne (tgt := 81) cx dX6_as_69 (by decide) (fun h_69 => ?_) (fun h_69 => ?_)
                  · skip
                    refine g_iconst (v := nI 0) cx dX6_as_81 (by decide) ?_
                    refine g_top (y := if isAs (k j) w = true then 1 else 0) (by rw [bi_f (c := isAs (k j) w = true) (isAs_f (by first | exact h_34) (by first | (intro e; exact absurd e h_39) | (intro e; omega)) (by first | (intro e; exact absurd e h_49) | (intro e; omega)) (by first | (intro e; exact absurd e h_59) | (intro e; omega)) (by first | (intro e; exact absurd e h_69) | (intro e; omega)))]) ?_
                    refine g_istore (L' := [some (vr (30, 0)), some (vi (nI j)), some (vi w), some (vi (nI (k j))), some (vi (if isAs (k j) w = true then 1 else 0))]) cx dX6_as_82 (by decide) rfl rfl ?_
                    exact jn
                  · skip
                    refine g_iload_n cx dX6_as_72 rfl ?_
                    refine g_iconst (v := nI 3) cx dX6_as_73 (by decide) ?_
                    refine g_icmp_neN (tgt := 81) cx dX6_as_74 (by decide) (by omega) (by omega) (fun h_74 => ?_) (fun h_74 => ?_)
                    · skip
                      refine g_iconst (v := nI 0) cx dX6_as_81 (by decide) ?_
                      refine g_top (y := if isAs (k j) w = true then 1 else 0) (by rw [bi_f (c := isAs (k j) w = true) (isAs_f (by first | exact h_34) (by first | (intro e; exact absurd e h_39) | (intro e; omega)) (by first | (intro e; exact absurd e h_49) | (intro e; omega)) (by first | (intro e; exact absurd e h_59) | (intro e; omega)) (by first | (intro e; exact absurd e h_69) | (intro e; omega)))]) ?_
                      refine g_istore (L' := [some (vr (30, 0)), some (vi (nI j)), some (vi w), some (vi (nI (k j))), some (vi (if isAs (k j) w = true then 1 else 0))]) cx dX6_as_82 (by decide) rfl rfl ?_
                      exact jn
                    · skip
                      refine g_iconst (v := nI 1) cx dX6_as_77 (by decide) ?_
                      refine g_goto (tgt := 82) cx dX6_as_78 (by decide) ?_
                      refine g_top (y := if isAs (k j) w = true then 1 else 0) (by rw [bi_t (c := isAs (k j) w = true) (by simp [isAs, eq_true h_5, hjx, eq_true h_20, eq_false h_34, eq_false h_39, eq_true h_49, h_54, eq_true h_59, h_64, eq_true h_69, h_74])]) ?_
                      refine g_istore (L' := [some (vr (30, 0)), some (vi (nI j)), some (vi w), some (vi (nI (k j))), some (vi (if isAs (k j) w = true then 1 else 0))]) cx dX6_as_82 (by decide) rfl rfl ?_
                      exact jn
        · skip
          refine g_iload_n cx dX6_as_42 rfl ?_
          refine g_iconst (v := nI 2) cx dX6_as_43 (by decide) ?_
          refine g_icmp_ltN (tgt := 77) cx dX6_as_44 (by decide) (by omega) (by omega) (fun h_44 => ?_) (fun h_44 => ?_)
          · skip
            refine g_iconst (v := nI 1) cx dX6_as_77 (by decide) ?_
            refine g_goto (tgt := 82) cx dX6_as_78 (by decide) ?_
            refine g_top (y := if isAs (k j) w = true then 1 else 0) (by rw [bi_t (c := isAs (k j) w = true) (by simp [isAs, eq_true h_5, hjx, eq_true h_20, eq_false h_34, eq_true h_39, h_44])]) ?_
            refine g_istore (L' := [some (vr (30, 0)), some (vi (nI j)), some (vi w), some (vi (nI (k j))), some (vi (if isAs (k j) w = true then 1 else 0))]) cx dX6_as_82 (by decide) rfl rfl ?_
            exact jn
          · skip
            refine g_iload_n cx dX6_as_47 rfl ?_
            refine g_iconst (v := nI 2) cx dX6_as_48 (by decide) ?_
            refine g_icmp_ne (tgt := 57) cx dX6_as_49 (by decide) (fun h_49 => ?_) (fun h_49 => ?_)
            · skip
              refine g_iload_n cx dX6_as_57 rfl ?_
              refine g_iconst (v := nI 3) cx dX6_as_58 (by decide) ?_
              refine g_icmp_ne (tgt := 67) cx dX6_as_59 (by decide) (fun h_59 => ?_) (fun h_59 => ?_)
              · skip
                refine g_iload_n cx dX6_as_67 rfl ?_
                refine g_iconst (v := nI 4) cx dX6_as_68 (by decide) ?_
                refine g_icmp_ne (tgt := 81) cx dX6_as_69 (by decide) (fun h_69 => ?_) (fun h_69 => ?_)
                · skip
                  refine g_iconst (v := nI 0) cx dX6_as_81 (by decide) ?_
                  refine g_top (y := if isAs (k j) w = true then 1 else 0) (by rw [bi_f (c := isAs (k j) w = true) (isAs_f (by first | exact h_34) (by first | (intro e; exact absurd e h_39) | (intro e; omega)) (by first | (intro e; exact absurd e h_49) | (intro e; omega)) (by first | (intro e; exact absurd e h_59) | (intro e; omega)) (by first | (intro e; exact absurd e h_69) | (intro e; omega)))]) ?_
                  refine g_istore (L' := [some (vr (30, 0)), some (vi (nI j)), some (vi w), some (vi (nI (k j))), some (vi (if isAs (k j) w = true then 1 else 0))]) cx dX6_as_82 (by decide) rfl rfl ?_
                  exact jn
                · skip
                  refine g_iload_n cx dX6_as_72 rfl ?_
                  refine g_iconst (v := nI 3) cx dX6_as_73 (by decide) ?_
                  refine g_icmp_neN (tgt := 81) cx dX6_as_74 (by decide) (by omega) (by omega) (fun h_74 => ?_) (fun h_74 => ?_)
                  · skip
                    refine g_iconst (v := nI 0) cx dX6_as_81 (by decide) ?_
                    refine g_top (y := if isAs (k j) w = true then 1 else 0) (by rw [bi_f (c := isAs (k j) w = true) (isAs_f (by first | exact h_34) (by first | (intro e; exact absurd e h_39) | (intro e; omega)) (by first | (intro e; exact absurd e h_49) | (intro e; omega)) (by first | (intro e; exact absurd e h_59) | (intro e; omega)) (by first | (intro e; exact absurd e h_69) | (intro e; omega)))]) ?_
                    refine g_istore (L' := [some (vr (30, 0)), some (vi (nI j)), some (vi w), some (vi (nI (k j))), some (vi (if isAs (k j) w = true then 1 else 0))]) cx dX6_as_82 (by decide) rfl rfl ?_
                    exact jn
                  · skip
                    refine g_iconst (v := nI 1) cx dX6_as_77 (by decide) ?_
                    refine g_goto (tgt := 82) cx dX6_as_78 (by decide) ?_
                    refine g_top (y := if isAs (k j) w = true then 1 else 0) (by rw [bi_t (c := isAs (k j) w = true) (by simp [isAs, eq_true h_5, hjx, eq_true h_20, eq_false h_34, eq_true h_39, h_44, eq_false h_49, eq_false h_59, eq_true h_69, h_74])]) ?_
                    refine g_istore (L' := [some (vr (30, 0)), some (vi (nI j)), some (vi w), some (vi (nI (k j))), some (vi (if isAs (k j) w = true then 1 else 0))]) cx dX6_as_82 (by decide) rfl rfl ?_
                    exact jn
              · skip
                refine g_iload_n cx dX6_as_62 rfl ?_
                refine g_iconst (v := nI 2) cx dX6_as_63 (by decide) ?_
                refine g_icmp_geN (tgt := 77) cx dX6_as_64 (by decide) (by omega) (by omega) (fun h_64 => ?_) (fun h_64 => ?_)
                · skip
                  refine g_iconst (v := nI 1) cx dX6_as_77 (by decide) ?_
                  refine g_goto (tgt := 82) cx dX6_as_78 (by decide) ?_
                  refine g_top (y := if isAs (k j) w = true then 1 else 0) (by rw [bi_t (c := isAs (k j) w = true) (by simp [isAs, eq_true h_5, hjx, eq_true h_20, eq_false h_34, eq_true h_39, h_44, eq_false h_49, eq_true h_59, h_64])]) ?_
                  refine g_istore (L' := [some (vr (30, 0)), some (vi (nI j)), some (vi w), some (vi (nI (k j))), some (vi (if isAs (k j) w = true then 1 else 0))]) cx dX6_as_82 (by decide) rfl rfl ?_
                  exact jn
                · skip
                  refine g_iload_n cx dX6_as_67 rfl ?_
                  refine g_iconst (v := nI 4) cx dX6_as_68 (by decide) ?_
                  refine g_icmp_ne (tgt := 81) cx dX6_as_69 (by decide) (fun h_69 => ?_) (fun h_69 => ?_)
                  · skip
                    refine g_iconst (v := nI 0) cx dX6_as_81 (by decide) ?_
                    refine g_top (y := if isAs (k j) w = true then 1 else 0) (by rw [bi_f (c := isAs (k j) w = true) (isAs_f (by first | exact h_34) (by first | (intro e; exact absurd e h_39) | (intro e; omega)) (by first | (intro e; exact absurd e h_49) | (intro e; omega)) (by first | (intro e; exact absurd e h_59) | (intro e; omega)) (by first | (intro e; exact absurd e h_69) | (intro e; omega)))]) ?_
                    refine g_istore (L' := [some (vr (30, 0)), some (vi (nI j)), some (vi w), some (vi (nI (k j))), some (vi (if isAs (k j) w = true then 1 else 0))]) cx dX6_as_82 (by decide) rfl rfl ?_
                    exact jn
                  · skip
                    refine g_iload_n cx dX6_as_72 rfl ?_
                    refine g_iconst (v := nI 3) cx dX6_as_73 (by decide) ?_
                    refine g_icmp_neN (tgt := 81) cx dX6_as_74 (by decide) (by omega) (by omega) (fun h_74 => ?_) (fun h_74 => ?_)
                    · skip
                      refine g_iconst (v := nI 0) cx dX6_as_81 (by decide) ?_
                      refine g_top (y := if isAs (k j) w = true then 1 else 0) (by rw [bi_f (c := isAs (k j) w = true) (isAs_f (by first | exact h_34) (by first | (intro e; exact absurd e h_39) | (intro e; omega)) (by first | (intro e; exact absurd e h_49) | (intro e; omega)) (by first | (intro e; exact absurd e h_59) | (intro e; omega)) (by first | (intro e; exact absurd e h_69) | (intro e; omega)))]) ?_
                      refine g_istore (L' := [some (vr (30, 0)), some (vi (nI j)), some (vi w), some (vi (nI (k j))), some (vi (if isAs (k j) w = true then 1 else 0))]) cx dX6_as_82 (by decide) rfl rfl ?_
                      exact jn
                    · skip
                      refine g_iconst (v := nI 1) cx dX6_as_77 (by decide) ?_
                      refine g_goto (tgt := 82) cx dX6_as_78 (by decide) ?_
                      refine g_top (y := if isAs (k j) w = true then 1 else 0) (by rw [bi_t (c := isAs (k j) w = true) (by simp [isAs, eq_true h_5, hjx, eq_true h_20, eq_false h_34, eq_true h_39, h_44, eq_false h_49, eq_true h_59, h_64, eq_true h_69, h_74])]) ?_
                      refine g_istore (L' := [some (vr (30, 0)), some (vi (nI j)), some (vi w), some (vi (nI (k j))), some (vi (if isAs (k j) w = true then 1 else 0))]) cx dX6_as_82 (by decide) rfl rfl ?_
                      exact jn
            · skip
              refine g_iload_n cx dX6_as_52 rfl ?_
              refine g_iconst (v := nI 1) cx dX6_as_53 (by decide) ?_
              refine g_icmp_eqN (tgt := 77) cx dX6_as_54 (by decide) (by omega) (by omega) (fun h_54 => ?_) (fun h_54 => ?_)
              · skip
                refine g_iconst (v := nI 1) cx dX6_as_77 (by decide) ?_
                refine g_goto (tgt := 82) cx dX6_as_78 (by decide) ?_
                refine g_top (y := if isAs (k j) w = true then 1 else 0) (by rw [bi_t (c := isAs (k j) w = true) (by simp [isAs, eq_true h_5, hjx, eq_true h_20, eq_false h_34, eq_true h_39, h_44, eq_true h_49, h_54])]) ?_
                refine g_istore (L' := [some (vr (30, 0)), some (vi (nI j)), some (vi w), some (vi (nI (k j))), some (vi (if isAs (k j) w = true then 1 else 0))]) cx dX6_as_82 (by decide) rfl rfl ?_
                exact jn
              · skip
                refine g_iload_n cx dX6_as_57 rfl ?_
                refine g_iconst (v := nI 3) cx dX6_as_58 (by decide) ?_
                refine g_icmp_ne (tgt := 67) cx dX6_as_59 (by decide) (fun h_59 => ?_) (fun h_59 => ?_)
                · skip
                  refine g_iload_n cx dX6_as_67 rfl ?_
                  refine g_iconst (v := nI 4) cx dX6_as_68 (by decide) ?_
                  refine g_icmp_ne (tgt := 81) cx dX6_as_69 (by decide) (fun h_69 => ?_) (fun h_69 => ?_)
                  · skip
                    refine g_iconst (v := nI 0) cx dX6_as_81 (by decide) ?_
                    refine g_top (y := if isAs (k j) w = true then 1 else 0) (by rw [bi_f (c := isAs (k j) w = true) (isAs_f (by first | exact h_34) (by first | (intro e; exact absurd e h_39) | (intro e; omega)) (by first | (intro e; exact absurd e h_49) | (intro e; omega)) (by first | (intro e; exact absurd e h_59) | (intro e; omega)) (by first | (intro e; exact absurd e h_69) | (intro e; omega)))]) ?_
                    refine g_istore (L' := [some (vr (30, 0)), some (vi (nI j)), some (vi w), some (vi (nI (k j))), some (vi (if isAs (k j) w = true then 1 else 0))]) cx dX6_as_82 (by decide) rfl rfl ?_
                    exact jn
                  · skip
                    refine g_iload_n cx dX6_as_72 rfl ?_
                    refine g_iconst (v := nI 3) cx dX6_as_73 (by decide) ?_
                    refine g_icmp_neN (tgt := 81) cx dX6_as_74 (by decide) (by omega) (by omega) (fun h_74 => ?_) (fun h_74 => ?_)
                    · skip
                      refine g_iconst (v := nI 0) cx dX6_as_81 (by decide) ?_
                      refine g_top (y := if isAs (k j) w = true then 1 else 0) (by rw [bi_f (c := isAs (k j) w = true) (isAs_f (by first | exact h_34) (by first | (intro e; exact absurd e h_39) | (intro e; omega)) (by first | (intro e; exact absurd e h_49) | (intro e; omega)) (by first | (intro e; exact absurd e h_59) | (intro e; omega)) (by first | (intro e; exact absurd e h_69) | (intro e; omega)))]) ?_
                      refine g_istore (L' := [some (vr (30, 0)), some (vi (nI j)), some (vi w), some (vi (nI (k j))), some (vi (if isAs (k j) w = true then 1 else 0))]) cx dX6_as_82 (by decide) rfl rfl ?_
                      exact jn
                    · skip
                      refine g_iconst (v := nI 1) cx dX6_as_77 (by decide) ?_
                      refine g_goto (tgt := 82) cx dX6_as_78 (by decide) ?_
                      refine g_top (y := if isAs (k j) w = true then 1 else 0) (by rw [bi_t (c := isAs (k j) w = true) (by simp [isAs, eq_true h_5, hjx, eq_true h_20, eq_false h_34, eq_true h_39, h_44, eq_true h_49, h_54, eq_false h_59, eq_true h_69, h_74])]) ?_
                      refine g_istore (L' := [some (vr (30, 0)), some (vi (nI j)), some (vi w), some (vi (nI (k j))), some (vi (if isAs (k j) w = true then 1 else 0))]) cx dX6_as_82 (by decide) rfl rfl ?_
                      exact jn
                · skip
                  refine g_iload_n cx dX6_as_62 rfl ?_
                  refine g_iconst (v := nI 2) cx dX6_as_63 (by decide) ?_
                  refine g_icmp_geN (tgt := 77) cx dX6_as_64 (by decide) (by omega) (by omega) (fun h_64 => ?_) (fun h_64 => ?_)
                  · skip
                    refine g_iconst (v := nI 1) cx dX6_as_77 (by decide) ?_
                    refine g_goto (tgt := 82) cx dX6_as_78 (by decide) ?_
                    refine g_top (y := if isAs (k j) w = true then 1 else 0) (by rw [bi_t (c := isAs (k j) w = true) (by simp [isAs, eq_true h_5, hjx, eq_true h_20, eq_false h_34, eq_true h_39, h_44, eq_true h_49, h_54, eq_true h_59, h_64])]) ?_
                    refine g_istore (L' := [some (vr (30, 0)), some (vi (nI j)), some (vi w), some (vi (nI (k j))), some (vi (if isAs (k j) w = true then 1 else 0))]) cx dX6_as_82 (by decide) rfl rfl ?_
                    exact jn
                  · skip
                    refine g_iload_n cx dX6_as_67 rfl ?_
                    refine g_iconst (v := nI 4) cx dX6_as_68 (by decide) ?_
                    refine g_icmp_ne (tgt := 81) cx dX6_as_69 (by decide) (fun h_69 => ?_) (fun h_69 => ?_)
                    · skip
                      refine g_iconst (v := nI 0) cx dX6_as_81 (by decide) ?_
                      refine g_top (y := if isAs (k j) w = true then 1 else 0) (by rw [bi_f (c := isAs (k j) w = true) (isAs_f (by first | exact h_34) (by first | (intro e; exact absurd e h_39) | (intro e; omega)) (by first | (intro e; exact absurd e h_49) | (intro e; omega)) (by first | (intro e; exact absurd e h_59) | (intro e; omega)) (by first | (intro e; exact absurd e h_69) | (intro e; omega)))]) ?_
                      refine g_istore (L' := [some (vr (30, 0)), some (vi (nI j)), some (vi w), some (vi (nI (k j))), some (vi (if isAs (k j) w = true then 1 else 0))]) cx dX6_as_82 (by decide) rfl rfl ?_
                      exact jn
                    · skip
                      refine g_iload_n cx dX6_as_72 rfl ?_
                      refine g_iconst (v := nI 3) cx dX6_as_73 (by decide) ?_
                      refine g_icmp_neN (tgt := 81) cx dX6_as_74 (by decide) (by omega) (by omega) (fun h_74 => ?_) (fun h_74 => ?_)
                      · skip
                        refine g_iconst (v := nI 0) cx dX6_as_81 (by decide) ?_
                        refine g_top (y := if isAs (k j) w = true then 1 else 0) (by rw [bi_f (c := isAs (k j) w = true) (isAs_f (by first | exact h_34) (by first | (intro e; exact absurd e h_39) | (intro e; omega)) (by first | (intro e; exact absurd e h_49) | (intro e; omega)) (by first | (intro e; exact absurd e h_59) | (intro e; omega)) (by first | (intro e; exact absurd e h_69) | (intro e; omega)))]) ?_
                        refine g_istore (L' := [some (vr (30, 0)), some (vi (nI j)), some (vi w), some (vi (nI (k j))), some (vi (if isAs (k j) w = true then 1 else 0))]) cx dX6_as_82 (by decide) rfl rfl ?_
                        exact jn
                      · skip
                        refine g_iconst (v := nI 1) cx dX6_as_77 (by decide) ?_
                        refine g_goto (tgt := 82) cx dX6_as_78 (by decide) ?_
                        refine g_top (y := if isAs (k j) w = true then 1 else 0) (by rw [bi_t (c := isAs (k j) w = true) (by simp [isAs, eq_true h_5, hjx, eq_true h_20, eq_false h_34, eq_true h_39, h_44, eq_true h_49, h_54, eq_true h_59, h_64, eq_true h_69, h_74])]) ?_
                        refine g_istore (L' := [some (vr (30, 0)), some (vi (nI j)), some (vi w), some (vi (nI (k j))), some (vi (if isAs (k j) w = true then 1 else 0))]) cx dX6_as_82 (by decide) rfl rfl ?_
                        exact jn
    · skip
      refine g_bipush (v := (-3)) cx dX6_as_23 (by decide) ?_
      exact g_fret cx rq rfl (rfl) dX6_as_25 (by simp [asS, eq_true h_5, hjx, eq_false h_20]) (rfl)
  · skip
    refine g_bipush (v := (-2)) cx dX6_as_8 (by decide) ?_
    exact g_fret cx rq rfl (rfl) dX6_as_10 (by simp [asS, eq_false h_5]) (rfl)

set_option maxRecDepth 100000 in
set_option maxHeartbeats 4000000 in
theorem m_hour {D : Wd} {n : Nat} {k f : Nat → Nat} {dn : Nat} {dr : Nat → Nat} {pn : Nat} (hP : PM D n k f dn dr pn) {a : Nat → Nat} (hA : AM D 0 n a) {hm : Nat → Nat} (hH : AM D 56 n hm) {hr : Nat} (hHr : D (31, 0) 13 = nI hr) : Fok mX6_hour idsA 5 [vr (30, 0)] D none (upA (Rw D 0 n (hrA n k f hm n a)) (31, 0) (upd ((Rw D 0 n (hrA n k f hm n a)) (31, 0)) 13 (nI (hr + 1)))) := by
  obtain ⟨hn3, hn8, hN, hK, hF, hd3, hDn, hDr, hp5, hPn⟩ := id hP
  refine Mok.of (L := [some (vr (30, 0)), none, none]) rfl (fun _ => Nat.le_of_ble_eq_true rfl) (fun _ => rfl) (fun X cx rq => ?_)
  refine g_iconst (v := nI 0) cx dX6_hour_0 (by decide) ?_
  refine g_istore_n (L' := [some (vr (30, 0)), some (vi (nI 0)), none]) cx dX6_hour_1 (by decide) rfl rfl ?_
  have lp : ∀ (fu : Nat) (q : Nat), n - q < fu → (q ≤ n) → Gk X mX6_hour idsA 2 [some (vr (30, 0)), some (vi (nI q)), none] [] (Rw D 0 n (hrA n k f hm q a)) := by
    intro fu
    induction fu with
    | zero => intro q hfu; exact absurd hfu (Nat.not_lt_zero _)
    | succ fu ih =>
      intro q hfu hq
      have hac := hrA_lt (k := k) (f := f) (hm := hm) q a (fun j hj => (hA j hj).2)
      refine g_iload_n cx dX6_hour_2 rfl ?_
      refine g_aload_n cx dX6_hour_3 rfl ?_
      refine g_getIN (i := (30, 0)) (ci := 6) (k := 6) (v := nI n) cx a30_0 rfl rfl rfl (by decide) inX6 lfX6_23 dX6_hour_4 ((congrFun (Rw.at (by decide)) 6).trans hN) ?_
      refine g_icmp_geN (tgt := 69) cx dX6_hour_7 (by decide) (by omega) (by omega) (fun h_7 => ?_) (fun h_7 => ?_)
      · skip
        have e : q = n := by omega
        subst e
        refine g_aload_n cx dX6_hour_69 rfl ?_
        refine g_getR (i := (30, 0)) (ci := 6) (k := 0) (j := (31, 0)) cx a30_0 rfl rfl rfl (by decide) inX6 lfX6_7 dX6_hour_70 ?_
        refine g_bipush (v := nI 13) cx dX6_hour_73 (by decide) ?_
        refine g_dup2 cx dX6_hour_75 rfl rfl ?_
        refine g_ialdN (i := (31, 0)) (j := 13) (v := nI hr) cx a31_0 rfl (rfl) (by omega) (by decide) dX6_hour_76 ((Rw.out (by omega)).trans hHr) ?_
        refine g_iconst (v := nI 1) cx dX6_hour_77 (by decide) ?_
        refine g_iaddN cx dX6_hour_78 ?_
        refine g_iast (i := (31, 0)) (j := 13) cx a31_0 rfl (rfl) (by omega) (by decide) dX6_hour_79 ?_
        exact g_fvret cx rq rfl dX6_hour_80 rfl (rfl)
      · skip
        refine g_aload_n cx dX6_hour_10 rfl ?_
        refine g_getR (i := (30, 0)) (ci := 6) (k := 0) (j := (31, 0)) cx a30_0 rfl rfl rfl (by decide) inX6 lfX6_7 dX6_hour_11 ?_
        refine g_iload_n cx dX6_hour_14 rfl ?_
        refine g_ialdN (i := (31, 0)) (j := q) (v := nI (hrA n k f hm q a q)) cx a31_0 rfl (rfl) (by omega) (by decide) dX6_hour_15 (((Rw.A hac).z q (by omega)).1) ?_
        refine g_aload_n cx dX6_hour_16 rfl ?_
        refine g_getR (i := (30, 0)) (ci := 6) (k := 0) (j := (31, 0)) cx a30_0 rfl rfl rfl (by decide) inX6 lfX6_7 dX6_hour_17 ?_
        refine g_bipush (v := nI 56) cx dX6_hour_20 (by decide) ?_
        refine g_iload_n cx dX6_hour_22 rfl ?_
        refine g_iaddN cx dX6_hour_23 ?_
        refine g_ialdN (i := (31, 0)) (j := 56 + q) (v := nI (hm q)) cx a31_0 rfl (rfl) (by omega) (by decide) dX6_hour_24 ((Rw.out (by omega)).trans (hH q (by omega)).1) ?_
        refine g_fcallS (As := [vi (nI (hrA n k f hm q a q)), vi (nI (hm q))]) (rest := []) cx knX6_on (m_on (a := hrA n k f hm q a q) (c := hm q) (hac q (by omega)) ((hH q (by omega)).2)) lmX6_54 nsX6_on rfl (by decide) (Nat.le_of_ble_eq_true rfl) rfl dX6_hour_25 ?_
        refine g_istore_n (L' := [some (vr (30, 0)), some (vi (nI q)), some (vi (nI (onN (hrA n k f hm q a q) (hm q))))]) cx dX6_hour_28 (by decide) rfl rfl ?_
        refine g_aload_n cx dX6_hour_29 rfl ?_
        refine g_getR (i := (30, 0)) (ci := 6) (k := 7) (j := (35, 0)) cx a30_0 rfl rfl rfl (by decide) inX6 lfX6_27 dX6_hour_30 ?_
        refine g_iload_n cx dX6_hour_33 rfl ?_
        refine g_ialdN (i := (35, 0)) (j := q) (v := nI (k q)) cx a35_0 rfl (rfl) (by omega) (by decide) dX6_hour_34 ((congrFun (Rw.at (by decide)) q).trans (hK q (by omega)).1) ?_
        refine g_iconst (v := nI 1) cx dX6_hour_35 (by decide) ?_
        have hkq := (hK q (by omega)).2
        have hon := onN_lt (hac q (by omega)) ((hH q (by omega)).2)
        refine g_icmp_neN (tgt := 63) cx dX6_hour_36 (by decide) (by omega) (by omega) (fun h_36 => ?_) (fun h_36 => ?_)
        · skip
          refine g_wd (D' := Rw D 0 n (hrA n k f hm (q + 1) a)) (by rw [hrA, if_neg (by first | exact fun e => h_36 e.1 | exact fun e => e.2 h_40)]) ?_
          refine g_iincN (L' := [some (vr (30, 0)), some (vi (nI (q + 1))), some (vi (nI (onN (hrA n k f hm q a q) (hm q))))]) cx dX6_hour_63 rfl (by decide) rfl rfl ?_
          refine g_goto (tgt := 2) cx dX6_hour_66 (by decide) ?_
          refine g_drop 2 (L' := [some (vr (30, 0)), some (vi (nI (q + 1))), none]) rfl ?_
          exact ih (q + 1) (by omega) (by omega)
        · skip
          refine g_iload_n cx dX6_hour_39 rfl ?_
          refine g_if_eqN (tgt := 63) cx dX6_hour_40 (by decide) (by omega) (fun h_40 => ?_) (fun h_40 => ?_)
          · skip
            refine g_wd (D' := Rw D 0 n (hrA n k f hm (q + 1) a)) (by rw [hrA, if_neg (by first | exact fun e => h_36 e.1 | exact fun e => e.2 h_40)]) ?_
            refine g_iincN (L' := [some (vr (30, 0)), some (vi (nI (q + 1))), some (vi (nI (onN (hrA n k f hm q a q) (hm q))))]) cx dX6_hour_63 rfl (by decide) rfl rfl ?_
            refine g_goto (tgt := 2) cx dX6_hour_66 (by decide) ?_
            refine g_drop 2 (L' := [some (vr (30, 0)), some (vi (nI (q + 1))), none]) rfl ?_
            exact ih (q + 1) (by omega) (by omega)
          · skip
            refine g_aload_n cx dX6_hour_43 rfl ?_
            refine g_iconst (v := nI 0) cx dX6_hour_44 (by decide) ?_
            refine g_iload_n cx dX6_hour_45 rfl ?_
            refine g_iload_n cx dX6_hour_46 rfl ?_
            refine g_bipush (v := nI 72) cx dX6_hour_47 (by decide) ?_
            refine g_iload_n cx dX6_hour_49 rfl ?_
            refine g_isubN cx dX6_hour_50 (by omega) ?_
            refine g_icmp_gtN (tgt := 58) cx dX6_hour_51 (by decide) (by omega) (by omega) (fun h_51 => ?_) (fun h_51 => ?_)
            · skip
              refine g_iconst (v := nI 1) cx dX6_hour_58 (by decide) ?_
              refine g_fcallV (As := [vi (nI 0), vi (nI q), vi (nI 1)]) (rest := []) cx knX6_step (m_step (Rw.P hP) (Rw.A hac) (by omega) (i := q) (s := 1) (by omega) (by omega)) a30_0 rfl rfl lmX6_207 niX6_step seX6_step rfl (by decide) (Nat.le_of_ble_eq_true rfl) rfl dX6_hour_59 ?_
              refine g_pop cx dX6_hour_62 rfl ?_
              refine g_wd (D' := Rw D 0 n (hrA n k f hm (q + 1) a)) (by rw [Rw.twice, hrA, if_pos ⟨h_36, h_40⟩]; rw [if_neg (by omega)]) ?_
              refine g_iincN (L' := [some (vr (30, 0)), some (vi (nI (q + 1))), some (vi (nI (onN (hrA n k f hm q a q) (hm q))))]) cx dX6_hour_63 rfl (by decide) rfl rfl ?_
              refine g_goto (tgt := 2) cx dX6_hour_66 (by decide) ?_
              refine g_drop 2 (L' := [some (vr (30, 0)), some (vi (nI (q + 1))), none]) rfl ?_
              exact ih (q + 1) (by omega) (by omega)
            · skip
              refine g_iconst (v := nI 0) cx dX6_hour_54 (by decide) ?_
              refine g_goto (tgt := 59) cx dX6_hour_55 (by decide) ?_
              refine g_fcallV (As := [vi (nI 0), vi (nI q), vi (nI 0)]) (rest := []) cx knX6_step (m_step (Rw.P hP) (Rw.A hac) (by omega) (i := q) (s := 0) (by omega) (by omega)) a30_0 rfl rfl lmX6_207 niX6_step seX6_step rfl (by decide) (Nat.le_of_ble_eq_true rfl) rfl dX6_hour_59 ?_
              refine g_pop cx dX6_hour_62 rfl ?_
              refine g_wd (D' := Rw D 0 n (hrA n k f hm (q + 1) a)) (by rw [Rw.twice, hrA, if_pos ⟨h_36, h_40⟩]; rw [if_pos h_51]) ?_
              refine g_iincN (L' := [some (vr (30, 0)), some (vi (nI (q + 1))), some (vi (nI (onN (hrA n k f hm q a q) (hm q))))]) cx dX6_hour_63 rfl (by decide) rfl rfl ?_
              refine g_goto (tgt := 2) cx dX6_hour_66 (by decide) ?_
              refine g_drop 2 (L' := [some (vr (30, 0)), some (vi (nI (q + 1))), none]) rfl ?_
              exact ih (q + 1) (by omega) (by omega)
  refine g_wd (D' := Rw D 0 n (hrA n k f hm 0 a)) ((Rw.self hA).symm) ?_
  exact lp (n + 1) 0 (by omega) (by omega)
