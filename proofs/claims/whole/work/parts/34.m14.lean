set_option maxRecDepth 100000 in
set_option maxHeartbeats 4000000 in
theorem m_leafWord {D : Wd} {t : Nat → Nat} {len p e : Nat} (hX : TXm D t len) (h13 : D (30, 0) 13 = nI p) (h14 : D (30, 0) 14 = nI e) (hT : TK t len p e) : Fok mX6_leafWord idsA 1 [vr (30, 0)] D (some (vi (opI (lwO t p e)))) D := by
  refine Mok.of (L := [some (vr (30, 0))]) rfl (fun _ => Nat.le_of_ble_eq_true rfl) (fun _ => rfl) (fun X cx rq => ?_)
  refine g_aload_n cx dX6_leafWord_0 rfl ?_
  refine g_ldc (v := 14976400) cx lcX6_82 dX6_leafWord_1 ?_
  refine g_iconst (v := nI 5) cx dX6_leafWord_3 (by decide) ?_
  refine g_fcallV (As := [vi 14976400, vi (nI 5)]) (rest := []) cx knX6_isWord (m_isWord hX h13 h14 hT 14976400 (L := 5) (wb := wbs 2) (by decide) (by decide)) a30_0 rfl rfl lmX6_83 niX6_isWord seX6_isWord rfl (by decide) (Nat.le_of_ble_eq_true rfl) rfl dX6_leafWord_4 ?_
  refine g_if_eqB (tgt := 14) cx dX6_leafWord_7 (by decide) (fun h_7 => ?_) (fun h_7 => ?_)
  · skip
    refine g_aload_n cx dX6_leafWord_14 rfl ?_
    refine g_ldc (v := 250268179) cx lcX6_87 dX6_leafWord_15 ?_
    refine g_bipush (v := nI 6) cx dX6_leafWord_17 (by decide) ?_
    refine g_fcallV (As := [vi 250268179, vi (nI 6)]) (rest := []) cx knX6_isWord (m_isWord hX h13 h14 hT 250268179 (L := 6) (wb := wbs 3) (by decide) (by decide)) a30_0 rfl rfl lmX6_83 niX6_isWord seX6_isWord rfl (by decide) (Nat.le_of_ble_eq_true rfl) rfl dX6_leafWord_19 ?_
    refine g_if_eqB (tgt := 29) cx dX6_leafWord_22 (by decide) (fun h_22 => ?_) (fun h_22 => ?_)
    · skip
      refine g_aload_n cx dX6_leafWord_29 rfl ?_
      refine g_ldc (v := 26936488) cx lcX6_88 dX6_leafWord_30 ?_
      refine g_iconst (v := nI 5) cx dX6_leafWord_32 (by decide) ?_
      refine g_fcallV (As := [vi 26936488, vi (nI 5)]) (rest := []) cx knX6_isWord (m_isWord hX h13 h14 hT 26936488 (L := 5) (wb := wbs 4) (by decide) (by decide)) a30_0 rfl rfl lmX6_83 niX6_isWord seX6_isWord rfl (by decide) (Nat.le_of_ble_eq_true rfl) rfl dX6_leafWord_33 ?_
      refine g_if_eqB (tgt := 43) cx dX6_leafWord_36 (by decide) (fun h_36 => ?_) (fun h_36 => ?_)
      · skip
        refine g_aload_n cx dX6_leafWord_43 rfl ?_
        refine g_ldc (v := 4383014) cx lcX6_89 dX6_leafWord_44 ?_
        refine g_iconst (v := nI 5) cx dX6_leafWord_46 (by decide) ?_
        refine g_fcallV (As := [vi 4383014, vi (nI 5)]) (rest := []) cx knX6_isWord (m_isWord hX h13 h14 hT 4383014 (L := 5) (wb := wbs 5) (by decide) (by decide)) a30_0 rfl rfl lmX6_83 niX6_isWord seX6_isWord rfl (by decide) (Nat.le_of_ble_eq_true rfl) rfl dX6_leafWord_47 ?_
        refine g_if_eqB (tgt := 57) cx dX6_leafWord_50 (by decide) (fun h_50 => ?_) (fun h_50 => ?_)
        · skip
          refine g_iconst (v := (-1)) cx dX6_leafWord_57 (by decide) ?_
          exact g_fret cx rq rfl (rfl) dX6_leafWord_58 (by rw [lwO, if_neg (show ¬ isD t p e 2 = true from h_7), if_neg (show ¬ isD t p e 3 = true from h_22), if_neg (show ¬ isD t p e 4 = true from h_36), if_neg (show ¬ isD t p e 5 = true from h_50)]; rfl) (rfl)
        · skip
          refine g_iconst (v := nI 5) cx dX6_leafWord_53 (by decide) ?_
          refine g_goto (tgt := 58) cx dX6_leafWord_54 (by decide) ?_
          exact g_fret cx rq rfl (rfl) dX6_leafWord_58 (by rw [lwO, if_neg (show ¬ isD t p e 2 = true from h_7), if_neg (show ¬ isD t p e 3 = true from h_22), if_neg (show ¬ isD t p e 4 = true from h_36), if_pos (show isD t p e 5 = true from h_50)]; rfl) (rfl)
      · skip
        refine g_iconst (v := nI 4) cx dX6_leafWord_39 (by decide) ?_
        refine g_goto (tgt := 58) cx dX6_leafWord_40 (by decide) ?_
        exact g_fret cx rq rfl (rfl) dX6_leafWord_58 (by rw [lwO, if_neg (show ¬ isD t p e 2 = true from h_7), if_neg (show ¬ isD t p e 3 = true from h_22), if_pos (show isD t p e 4 = true from h_36)]; rfl) (rfl)
    · skip
      refine g_iconst (v := nI 3) cx dX6_leafWord_25 (by decide) ?_
      refine g_goto (tgt := 58) cx dX6_leafWord_26 (by decide) ?_
      exact g_fret cx rq rfl (rfl) dX6_leafWord_58 (by rw [lwO, if_neg (show ¬ isD t p e 2 = true from h_7), if_pos (show isD t p e 3 = true from h_22)]; rfl) (rfl)
  · skip
    refine g_iconst (v := nI 2) cx dX6_leafWord_10 (by decide) ?_
    refine g_goto (tgt := 58) cx dX6_leafWord_11 (by decide) ?_
    exact g_fret cx rq rfl (rfl) dX6_leafWord_58 (by rw [lwO, if_pos (show isD t p e 2 = true from h_7)]; rfl) (rfl)

set_option maxRecDepth 100000 in
set_option maxHeartbeats 4000000 in
theorem m_wordOf {D : Wd} {t : Nat → Nat} {len p e : Nat} (hX : TXm D t len) (h13 : D (30, 0) 13 = nI p) (h14 : D (30, 0) 14 = nI e) (hT : TK t len p e) : Fok mX6_wordOf idsA 2 [vr (30, 0)] D (some (vi (opI (wOf t p e)))) D := by
  refine Mok.of (L := [some (vr (30, 0)), none]) rfl (fun _ => Nat.le_of_ble_eq_true rfl) (fun _ => rfl) (fun X cx rq => ?_)
  refine g_aload_n cx dX6_wordOf_0 rfl ?_
  refine g_fcallV (As := []) (rest := []) cx knX6_leafWord (m_leafWord hX h13 h14 hT) a30_0 rfl rfl lmX6_90 niX6_leafWord seX6_leafWord rfl (by decide) (Nat.le_of_ble_eq_true rfl) rfl dX6_wordOf_1 ?_
  refine g_istore_n (L' := [some (vr (30, 0)), some (vi (opI (lwO t p e)))]) cx dX6_wordOf_4 (by decide) rfl rfl ?_
  rcases hlw : lwO t p e with _ | w
  · skip
    refine g_loc (L' := [some (vr (30, 0)), some (vi (-1))]) (by rfl) ?_
    refine g_iload_n cx dX6_wordOf_5 rfl ?_
    refine g_iconst (v := (-1)) cx dX6_wordOf_6 (by decide) ?_
    refine g_icmp_eq (tgt := 14) cx dX6_wordOf_7 (by decide) (fun h_7 => ?_) (fun h_7 => ?_)
    · skip
      refine g_aload_n cx dX6_wordOf_14 rfl ?_
      refine g_ldc (v := 5887464) cx lcX6_94 dX6_wordOf_15 ?_
      refine g_iconst (v := nI 5) cx dX6_wordOf_17 (by decide) ?_
      refine g_fcallV (As := [vi 5887464, vi (nI 5)]) (rest := []) cx knX6_isWord (m_isWord hX h13 h14 hT 5887464 (L := 5) (wb := wbs 0) (by decide) (by decide)) a30_0 rfl rfl lmX6_83 niX6_isWord seX6_isWord rfl (by decide) (Nat.le_of_ble_eq_true rfl) rfl dX6_wordOf_18 ?_
      refine g_if_eqB (tgt := 28) cx dX6_wordOf_21 (by decide) (fun h_21 => ?_) (fun h_21 => ?_)
      · skip
        refine g_aload_n cx dX6_wordOf_28 rfl ?_
        refine g_ldc (v := 197804) cx lcX6_95 dX6_wordOf_29 ?_
        refine g_iconst (v := nI 4) cx dX6_wordOf_31 (by decide) ?_
        refine g_fcallV (As := [vi 197804, vi (nI 4)]) (rest := []) cx knX6_isWord (m_isWord hX h13 h14 hT 197804 (L := 4) (wb := wbs 1) (by decide) (by decide)) a30_0 rfl rfl lmX6_83 niX6_isWord seX6_isWord rfl (by decide) (Nat.le_of_ble_eq_true rfl) rfl dX6_wordOf_32 ?_
        refine g_if_eqB (tgt := 42) cx dX6_wordOf_35 (by decide) (fun h_35 => ?_) (fun h_35 => ?_)
        · skip
          refine g_aload_n cx dX6_wordOf_42 rfl ?_
          refine g_sipush (v := nI 21168) cx dX6_wordOf_43 (by decide) ?_
          refine g_iconst (v := nI 3) cx dX6_wordOf_46 (by decide) ?_
          refine g_fcallV (As := [vi (nI 21168), vi (nI 3)]) (rest := []) cx knX6_isWord (m_isWord hX h13 h14 hT (nI 21168) (L := 3) (wb := wbs 6) (by decide) (by decide)) a30_0 rfl rfl lmX6_83 niX6_isWord seX6_isWord rfl (by decide) (Nat.le_of_ble_eq_true rfl) rfl dX6_wordOf_47 ?_
          refine g_if_eqB (tgt := 58) cx dX6_wordOf_50 (by decide) (fun h_50 => ?_) (fun h_50 => ?_)
          · skip
            refine g_aload_n cx dX6_wordOf_58 rfl ?_
            refine g_ldc (v := 605668) cx lcX6_96 dX6_wordOf_59 ?_
            refine g_iconst (v := nI 4) cx dX6_wordOf_61 (by decide) ?_
            refine g_fcallV (As := [vi 605668, vi (nI 4)]) (rest := []) cx knX6_isWord (m_isWord hX h13 h14 hT 605668 (L := 4) (wb := wbs 7) (by decide) (by decide)) a30_0 rfl rfl lmX6_83 niX6_isWord seX6_isWord rfl (by decide) (Nat.le_of_ble_eq_true rfl) rfl dX6_wordOf_62 ?_
            refine g_if_eqB (tgt := 73) cx dX6_wordOf_65 (by decide) (fun h_65 => ?_) (fun h_65 => ?_)
            · skip
              refine g_aload_n cx dX6_wordOf_73 rfl ?_
              refine g_ldc (v := 486131888) cx lcX6_97 dX6_wordOf_74 ?_
              refine g_bipush (v := nI 6) cx dX6_wordOf_76 (by decide) ?_
              refine g_fcallV (As := [vi 486131888, vi (nI 6)]) (rest := []) cx knX6_isWord (m_isWord hX h13 h14 hT 486131888 (L := 6) (wb := wbs 8) (by decide) (by decide)) a30_0 rfl rfl lmX6_83 niX6_isWord seX6_isWord rfl (by decide) (Nat.le_of_ble_eq_true rfl) rfl dX6_wordOf_78 ?_
              refine g_if_eqB (tgt := 89) cx dX6_wordOf_81 (by decide) (fun h_81 => ?_) (fun h_81 => ?_)
              · skip
                refine g_aload_n cx dX6_wordOf_89 rfl ?_
                refine g_ldc (v := 26886565) cx lcX6_98 dX6_wordOf_90 ?_
                refine g_iconst (v := nI 5) cx dX6_wordOf_92 (by decide) ?_
                refine g_fcallV (As := [vi 26886565, vi (nI 5)]) (rest := []) cx knX6_isWord (m_isWord hX h13 h14 hT 26886565 (L := 5) (wb := wbs 9) (by decide) (by decide)) a30_0 rfl rfl lmX6_83 niX6_isWord seX6_isWord rfl (by decide) (Nat.le_of_ble_eq_true rfl) rfl dX6_wordOf_93 ?_
                refine g_if_eqB (tgt := 104) cx dX6_wordOf_96 (by decide) (fun h_96 => ?_) (fun h_96 => ?_)
                · skip
                  refine g_iconst (v := (-1)) cx dX6_wordOf_104 (by decide) ?_
                  exact g_fret cx rq rfl (rfl) dX6_wordOf_105 (by rw [wOf_n hlw, rwO, if_neg (show ¬ isD t p e 0 = true from h_21), if_neg (show ¬ isD t p e 1 = true from h_35), if_neg (show ¬ isD t p e 6 = true from h_50), if_neg (show ¬ isD t p e 7 = true from h_65), if_neg (show ¬ isD t p e 8 = true from h_81), if_neg (show ¬ isD t p e 9 = true from h_96)]; rfl) (rfl)
                · skip
                  refine g_bipush (v := nI 9) cx dX6_wordOf_99 (by decide) ?_
                  refine g_goto (tgt := 105) cx dX6_wordOf_101 (by decide) ?_
                  exact g_fret cx rq rfl (rfl) dX6_wordOf_105 (by rw [wOf_n hlw, rwO, if_neg (show ¬ isD t p e 0 = true from h_21), if_neg (show ¬ isD t p e 1 = true from h_35), if_neg (show ¬ isD t p e 6 = true from h_50), if_neg (show ¬ isD t p e 7 = true from h_65), if_neg (show ¬ isD t p e 8 = true from h_81), if_pos (show isD t p e 9 = true from h_96)]; rfl) (rfl)
              · skip
                refine g_bipush (v := nI 8) cx dX6_wordOf_84 (by decide) ?_
                refine g_goto (tgt := 105) cx dX6_wordOf_86 (by decide) ?_
                exact g_fret cx rq rfl (rfl) dX6_wordOf_105 (by rw [wOf_n hlw, rwO, if_neg (show ¬ isD t p e 0 = true from h_21), if_neg (show ¬ isD t p e 1 = true from h_35), if_neg (show ¬ isD t p e 6 = true from h_50), if_neg (show ¬ isD t p e 7 = true from h_65), if_pos (show isD t p e 8 = true from h_81)]; rfl) (rfl)
            · skip
              refine g_bipush (v := nI 7) cx dX6_wordOf_68 (by decide) ?_
              refine g_goto (tgt := 105) cx dX6_wordOf_70 (by decide) ?_
              exact g_fret cx rq rfl (rfl) dX6_wordOf_105 (by rw [wOf_n hlw, rwO, if_neg (show ¬ isD t p e 0 = true from h_21), if_neg (show ¬ isD t p e 1 = true from h_35), if_neg (show ¬ isD t p e 6 = true from h_50), if_pos (show isD t p e 7 = true from h_65)]; rfl) (rfl)
          · skip
            refine g_bipush (v := nI 6) cx dX6_wordOf_53 (by decide) ?_
            refine g_goto (tgt := 105) cx dX6_wordOf_55 (by decide) ?_
            exact g_fret cx rq rfl (rfl) dX6_wordOf_105 (by rw [wOf_n hlw, rwO, if_neg (show ¬ isD t p e 0 = true from h_21), if_neg (show ¬ isD t p e 1 = true from h_35), if_pos (show isD t p e 6 = true from h_50)]; rfl) (rfl)
        · skip
          refine g_iconst (v := nI 1) cx dX6_wordOf_38 (by decide) ?_
          refine g_goto (tgt := 105) cx dX6_wordOf_39 (by decide) ?_
          exact g_fret cx rq rfl (rfl) dX6_wordOf_105 (by rw [wOf_n hlw, rwO, if_neg (show ¬ isD t p e 0 = true from h_21), if_pos (show isD t p e 1 = true from h_35)]; rfl) (rfl)
      · skip
        refine g_iconst (v := nI 0) cx dX6_wordOf_24 (by decide) ?_
        refine g_goto (tgt := 105) cx dX6_wordOf_25 (by decide) ?_
        exact g_fret cx rq rfl (rfl) dX6_wordOf_105 (by rw [wOf_n hlw, rwO, if_pos (show isD t p e 0 = true from h_21)]; rfl) (rfl)
    · skip
      exact absurd rfl h_7
  · skip
    have hw10 := lwO_lt hlw
    refine g_loc (L' := [some (vr (30, 0)), some (vi (nI w))]) (by rfl) ?_
    refine g_iload_n cx dX6_wordOf_5 rfl ?_
    refine g_iconst (v := (-1)) cx dX6_wordOf_6 (by decide) ?_
    refine g_icmp_eq (tgt := 14) cx dX6_wordOf_7 (by decide) (fun h_7 => ?_) (fun h_7 => ?_)
    · skip
      exact absurd h_7 (m1_ne (by omega))
    · skip
      refine g_iload_n cx dX6_wordOf_10 rfl ?_
      refine g_goto (tgt := 105) cx dX6_wordOf_11 (by decide) ?_
      exact g_fret cx rq rfl (rfl) dX6_wordOf_105 (by rw [wOf_s hlw]; rfl) (rfl)

set_option maxRecDepth 100000 in
set_option maxHeartbeats 4000000 in
theorem m_numberHere {D : Wd} {t : Nat → Nat} {len p e : Nat} (hX : TXm D t len) (h13 : D (30, 0) 13 = nI p) (h14 : D (30, 0) 14 = nI e) (hT : TK t len p e) : Fok mX6_numberHere idsA 1 [vr (30, 0)] D (some (vi (opI (nO t len p e)))) D := by
  have hl2 := hX.2.1
  have hT1 := hT.1
  have hT2 := hT.2.1
  have hT3 := hT.2.2.1
  refine Mok.of (L := [some (vr (30, 0)), none, none]) rfl (fun _ => Nat.le_of_ble_eq_true rfl) (fun _ => rfl) (fun X cx rq => ?_)
  refine g_aload_n cx dX6_numberHere_0 rfl ?_
  refine g_getIN (i := (30, 0)) (ci := 6) (k := 13) (v := nI p) cx a30_0 rfl rfl rfl (by decide) inX6 lfX6_72 dX6_numberHere_1 (h13) ?_
  refine g_aload_n cx dX6_numberHere_4 rfl ?_
  refine g_getIN (i := (30, 0)) (ci := 6) (k := 3) (v := nI len) cx a30_0 rfl rfl rfl (by decide) inX6 lfX6_64 dX6_numberHere_5 (hX.1) ?_
  refine g_icmp_eqN (tgt := 40) cx dX6_numberHere_8 (by decide) (by omega) (by omega) (fun h_8 => ?_) (fun h_8 => ?_)
  · skip
    refine g_iconst (v := (-1)) cx dX6_numberHere_40 (by decide) ?_
    exact g_fret cx rq rfl (rfl) dX6_numberHere_41 (by rw [nO, if_pos (by first | exact Or.inl h_8 | exact Or.inr (Or.inl h_24) | exact Or.inr (Or.inr h_37))]; rfl) (rfl)
  · skip
    have htp := hT3 (by omega)
    refine g_aload_n cx dX6_numberHere_11 rfl ?_
    refine g_getR (i := (30, 0)) (ci := 6) (k := 2) (j := (33, 0)) cx a30_0 rfl rfl rfl (by decide) inX6 lfX6_17 dX6_numberHere_12 ?_
    refine g_aload_n cx dX6_numberHere_15 rfl ?_
    refine g_getIN (i := (30, 0)) (ci := 6) (k := 13) (v := nI p) cx a30_0 rfl rfl rfl (by decide) inX6 lfX6_72 dX6_numberHere_16 (h13) ?_
    refine g_ialdN (i := (33, 0)) (j := p) (v := nI (t p)) cx a33_0 rfl (rfl) (by omega) (by decide) dX6_numberHere_19 ((hX.2.2 _ (by omega)).1) ?_
    refine g_fcallS (As := [vi (nI (t p))]) (rest := []) cx knX6_sort (m_sort (c := t p) ((hX.2.2 _ (by omega)).2)) lmX6_75 nsX6_sort rfl (by decide) (Nat.le_of_ble_eq_true rfl) rfl dX6_numberHere_20 ?_
    refine g_iconst (v := nI 2) cx dX6_numberHere_23 (by decide) ?_
    have hs1 := srt_le (t p)
    refine g_icmp_neN (tgt := 40) cx dX6_numberHere_24 (by decide) (by omega) (by omega) (fun h_24 => ?_) (fun h_24 => ?_)
    · skip
      refine g_iconst (v := (-1)) cx dX6_numberHere_40 (by decide) ?_
      exact g_fret cx rq rfl (rfl) dX6_numberHere_41 (by rw [nO, if_pos (by first | exact Or.inl h_8 | exact Or.inr (Or.inl h_24) | exact Or.inr (Or.inr h_37))]; rfl) (rfl)
    · skip
      refine g_aload_n cx dX6_numberHere_27 rfl ?_
      refine g_getIN (i := (30, 0)) (ci := 6) (k := 14) (v := nI e) cx a30_0 rfl rfl rfl (by decide) inX6 lfX6_79 dX6_numberHere_28 (h14) ?_
      refine g_aload_n cx dX6_numberHere_31 rfl ?_
      refine g_getIN (i := (30, 0)) (ci := 6) (k := 13) (v := nI p) cx a30_0 rfl rfl rfl (by decide) inX6 lfX6_72 dX6_numberHere_32 (h13) ?_
      refine g_isubN cx dX6_numberHere_35 (by omega) ?_
      refine g_iconst (v := nI 2) cx dX6_numberHere_36 (by decide) ?_
      refine g_icmp_leN (tgt := 42) cx dX6_numberHere_37 (by decide) (by omega) (by omega) (fun h_37 => ?_) (fun h_37 => ?_)
      · skip
        refine g_iconst (v := nI 0) cx dX6_numberHere_42 (by decide) ?_
        refine g_istore_n (L' := [some (vr (30, 0)), some (vi (nI 0)), none]) cx dX6_numberHere_43 (by decide) rfl rfl ?_
        refine g_aload_n cx dX6_numberHere_44 rfl ?_
        refine g_getIN (i := (30, 0)) (ci := 6) (k := 13) (v := nI p) cx a30_0 rfl rfl rfl (by decide) inX6 lfX6_72 dX6_numberHere_45 (h13) ?_
        refine g_istore_n (L' := [some (vr (30, 0)), some (vi (nI 0)), some (vi (nI p))]) cx dX6_numberHere_48 (by decide) rfl rfl ?_
        refine g_loc (L' := [some (vr (30, 0)), some (vi (nI 0)), some (vi (nI (p + 0)))]) (rfl) ?_
        have lp : ∀ (fu : Nat) (q : Nat), e - p - q < fu → (q ≤ e - p) → Gk X mX6_numberHere idsA 49 [some (vr (30, 0)), some (vi (nI (vG t p q))), some (vi (nI (p + q)))] [] D := by
          intro fu
          induction fu with
          | zero => intro q hfu; exact absurd hfu (Nat.not_lt_zero _)
          | succ fu ih =>
            intro q hfu hq
            have hvq := vG_le (t := t) (p := p) q (by omega) (fun z hz => dgt hT h_8 h_24 (by omega))
            refine g_iload_n cx dX6_numberHere_49 rfl ?_
            refine g_aload_n cx dX6_numberHere_50 rfl ?_
            refine g_getIN (i := (30, 0)) (ci := 6) (k := 14) (v := nI e) cx a30_0 rfl rfl rfl (by decide) inX6 lfX6_79 dX6_numberHere_51 (h14) ?_
            refine g_icmp_geN (tgt := 78) cx dX6_numberHere_54 (by decide) (by omega) (by omega) (fun h_54 => ?_) (fun h_54 => ?_)
            · skip
              have e9 : q = e - p := by omega
              refine g_iload_n cx dX6_numberHere_78 rfl ?_
              exact g_fret cx rq rfl (rfl) dX6_numberHere_79 (by rw [nO, if_neg (fun h9 => by rcases h9 with h9 | h9 | h9; exact h_8 h9; exact h9 h_24; omega), e9]; rfl) (rfl)
            · skip
              have hd := dgt hT h_8 h_24 (q := q) (by omega)
              refine g_bipush (v := nI 10) cx dX6_numberHere_57 (by decide) ?_
              refine g_iload_n cx dX6_numberHere_59 rfl ?_
              refine g_imulN cx dX6_numberHere_60 ?_
              refine g_aload_n cx dX6_numberHere_61 rfl ?_
              refine g_getR (i := (30, 0)) (ci := 6) (k := 2) (j := (33, 0)) cx a30_0 rfl rfl rfl (by decide) inX6 lfX6_17 dX6_numberHere_62 ?_
              refine g_iload_n cx dX6_numberHere_65 rfl ?_
              refine g_ialdN (i := (33, 0)) (j := p + q) (v := nI (t (p + q))) cx a33_0 rfl (rfl) (by omega) (by decide) dX6_numberHere_66 ((hX.2.2 _ (by omega)).1) ?_
              refine g_iaddN cx dX6_numberHere_67 ?_
              refine g_bipush (v := nI 48) cx dX6_numberHere_68 (by decide) ?_
              refine g_isubN cx dX6_numberHere_70 (by omega) ?_
              refine g_top (y := nI (vG t p (q + 1))) rfl ?_
              refine g_istore_n (L' := [some (vr (30, 0)), some (vi (nI (vG t p (q + 1)))), some (vi (nI (p + q)))]) cx dX6_numberHere_71 (by decide) rfl rfl ?_
              refine g_iincN (L' := [some (vr (30, 0)), some (vi (nI (vG t p (q + 1)))), some (vi (nI ((p + q) + 1)))]) cx dX6_numberHere_72 rfl (by decide) rfl rfl ?_
              refine g_goto (tgt := 49) cx dX6_numberHere_75 (by decide) ?_
              exact ih (q + 1) (by omega) (by omega)
        exact lp (e - p + 1) 0 (by omega) (by omega)
      · skip
        refine g_iconst (v := (-1)) cx dX6_numberHere_40 (by decide) ?_
        exact g_fret cx rq rfl (rfl) dX6_numberHere_41 (by rw [nO, if_pos (by first | exact Or.inl h_8 | exact Or.inr (Or.inl h_24) | exact Or.inr (Or.inr h_37))]; rfl) (rfl)

set_option maxRecDepth 100000 in
set_option maxHeartbeats 4000000 in
theorem m_reads_n {D E : Wd} {t : Nat → Nat} {len : Nat} {R : RS} {m : Nat} {rc : Nat → Nat × Nat} {p e : Nat} (hR : RK D E t len R m rc p e) {k lo hi : Nat} (hlo : lo < 1000) (hhi : hi < 1000) (hno : okN lo hi (nO t len p e) = false) : Fok mX6_reads idsA 2 [vr (30, 0), vi (nI k), vi (nI lo), vi (nI hi)] E (some (vi (nI 0))) E := by
  obtain ⟨hX, ⟨h12, h13, h14⟩, hT, hRD, ⟨h5, hm12⟩, hRC, hFR⟩ := id hR
  refine Mok.of (L := [some (vr (30, 0)), some (vi (nI k)), some (vi (nI lo)), some (vi (nI hi)), none]) rfl (fun _ => Nat.le_of_ble_eq_true rfl) (fun _ => rfl) (fun X cx rq => ?_)
  refine g_aload_n cx dX6_reads_0 rfl ?_
  refine g_fcallV (As := []) (rest := []) cx knX6_numberHere (m_numberHere hX h13 h14 hT) a30_0 rfl rfl lmX6_99 niX6_numberHere seX6_numberHere rfl (by decide) (Nat.le_of_ble_eq_true rfl) rfl dX6_reads_1 ?_
  refine g_istore (L' := [some (vr (30, 0)), some (vi (nI k)), some (vi (nI lo)), some (vi (nI hi)), some (vi (opI (nO t len p e)))]) cx dX6_reads_4 (by decide) rfl rfl ?_
  refine g_iload cx dX6_reads_6 rfl ?_
  refine g_i2l cx dX6_reads_8 ?_
  refine g_iload_n cx dX6_reads_9 rfl ?_
  refine g_i2l cx dX6_reads_10 ?_
  refine g_iload_n cx dX6_reads_11 rfl ?_
  refine g_i2l cx dX6_reads_12 ?_
  refine g_fcallS (As := [vl ((opI (nO t len p e)).toInt64), vl ((nI lo).toInt64), vl ((nI hi).toInt64)]) (rest := []) cx knX6_in (m_in ((opI (nO t len p e)).toInt64) ((nI lo).toInt64) ((nI hi).toInt64)) lmX6_60 nsX6_in rfl (by decide) (Nat.le_of_ble_eq_true rfl) rfl dX6_reads_13 ?_
  refine g_top (bi_iff (in_iff2 (a := lo) (b := hi) rfl rfl (by omega) (by omega))) ?_
  refine g_if_neB (tgt := 21) cx dX6_reads_16 (by decide) (fun h_16 => ?_) (fun h_16 => ?_)
  · skip
    exact absurd ((rng_opI (fun v hv => nO_le hT hv)).symm.trans h_16) (by rw [hno]; decide)
  · skip
    refine g_iconst (v := nI 0) cx dX6_reads_19 (by decide) ?_
    exact g_fret cx rq rfl (by rfl) dX6_reads_20 (rfl) (rfl)

set_option maxRecDepth 100000 in
set_option maxHeartbeats 4000000 in
theorem m_reads_y {D E : Wd} {t : Nat → Nat} {len : Nat} {R : RS} {m : Nat} {rc : Nat → Nat × Nat} {p e : Nat} (hR : RK D E t len R m rc p e) (hm11 : m ≤ 11) {k lo hi v : Nat} (hk : k < 2) (hlo : lo < 1000) (hhi : hi < 1000) (hno : nO t len p e = some v) (hv1 : lo ≤ v) (hv2 : v ≤ hi) : Mok mX6_reads idsA 2 [vr (30, 0), vi (nI k), vi (nI lo), vi (nI hi)] E (fun r' E' => r' = (some (vi (nI 1))) ∧ (RK D E' t len R m rc (tkP t len e) (tkE t len (tkP t len e)) ∧ E' (34, 0) = upd (E (34, 0)) (3 * m + 1 + k) (nI v))) := by
  obtain ⟨hX, ⟨h12, h13, h14⟩, hT, hRD, ⟨h5, hm12⟩, hRC, hFR⟩ := id hR
  have hR2 := RK.rd (j := ((3 * m) + 1) + k) (x := nI v) (by omega) hR
  refine Mok.of (L := [some (vr (30, 0)), some (vi (nI k)), some (vi (nI lo)), some (vi (nI hi)), none]) rfl (fun _ => Nat.le_of_ble_eq_true rfl) (fun _ => rfl) (fun X cx rq => ?_)
  refine g_aload_n cx dX6_reads_0 rfl ?_
  refine g_fcallV (As := []) (rest := []) cx knX6_numberHere (m_numberHere hX h13 h14 hT) a30_0 rfl rfl lmX6_99 niX6_numberHere seX6_numberHere rfl (by decide) (Nat.le_of_ble_eq_true rfl) rfl dX6_reads_1 ?_
  refine g_istore (L' := [some (vr (30, 0)), some (vi (nI k)), some (vi (nI lo)), some (vi (nI hi)), some (vi (opI (nO t len p e)))]) cx dX6_reads_4 (by decide) rfl rfl ?_
  refine g_iload cx dX6_reads_6 rfl ?_
  refine g_i2l cx dX6_reads_8 ?_
  refine g_iload_n cx dX6_reads_9 rfl ?_
  refine g_i2l cx dX6_reads_10 ?_
  refine g_iload_n cx dX6_reads_11 rfl ?_
  refine g_i2l cx dX6_reads_12 ?_
  refine g_fcallS (As := [vl ((opI (nO t len p e)).toInt64), vl ((nI lo).toInt64), vl ((nI hi).toInt64)]) (rest := []) cx knX6_in (m_in ((opI (nO t len p e)).toInt64) ((nI lo).toInt64) ((nI hi).toInt64)) lmX6_60 nsX6_in rfl (by decide) (Nat.le_of_ble_eq_true rfl) rfl dX6_reads_13 ?_
  refine g_top (bi_iff (in_iff2 (a := lo) (b := hi) rfl rfl (by omega) (by omega))) ?_
  refine g_if_neB (tgt := 21) cx dX6_reads_16 (by decide) (fun h_16 => ?_) (fun h_16 => ?_)
  · skip
    refine g_loc (L' := [some (vr (30, 0)), some (vi (nI k)), some (vi (nI lo)), some (vi (nI hi)), some (vi (nI v))]) (by rw [hno]; rfl) ?_
    refine g_aload_n cx dX6_reads_21 rfl ?_
    refine g_getR (i := (30, 0)) (ci := 6) (k := 4) (j := (34, 0)) cx a30_0 rfl rfl rfl (by decide) inX6 lfX6_20 dX6_reads_22 ?_
    refine g_iconst (v := nI 3) cx dX6_reads_25 (by decide) ?_
    refine g_aload_n cx dX6_reads_26 rfl ?_
    refine g_getIN (i := (30, 0)) (ci := 6) (k := 5) (v := nI m) cx a30_0 rfl rfl rfl (by decide) inX6 lfX6_102 dX6_reads_27 (h5) ?_
    refine g_imulN cx dX6_reads_30 ?_
    refine g_iconst (v := nI 1) cx dX6_reads_31 (by decide) ?_
    refine g_iaddN cx dX6_reads_32 ?_
    refine g_iload_n cx dX6_reads_33 rfl ?_
    refine g_iaddN cx dX6_reads_34 ?_
    refine g_iload cx dX6_reads_35 rfl ?_
    refine g_iast (i := (34, 0)) (j := ((3 * m) + 1) + k) cx a34_0 rfl (rfl) (by omega) (by decide) dX6_reads_37 ?_
    refine g_aload_n cx dX6_reads_38 rfl ?_
    refine g_fcallVv (As := []) (rest := []) cx knX6_token (m_token hR2.1 hR2.2.1.1 hT.2.1) a30_0 rfl rfl lmX6_105 niX6_token seX6_token rfl (by decide) (Nat.le_of_ble_eq_true rfl) rfl dX6_reads_39 ?_
    refine g_iconst (v := nI 1) cx dX6_reads_42 (by decide) ?_
    exact g_ret cx rq rfl (by rfl) dX6_reads_43 ⟨rfl, RK.tok hR2, by rw [PS.at (by decide), upA_s]⟩
  · skip
    exact absurd ((rng_opI (fun v hv => nO_le hT hv)).trans (by rw [hno]; simp [okN, hv1, hv2])) h_16
