theorem dec_ok {b : Bool} {m : Nat} (h : ¬ (b = true ∧ m = 0)) : (if b = true then 1 else 0) ≤ m := by
  by_cases hb : b = true
  · rw [if_pos hb]
    rcases Nat.eq_zero_or_pos m with e | e
    · exact absurd ⟨hb, e⟩ h
    · exact e
  · rw [if_neg hb]; exact Nat.zero_le _
set_option maxRecDepth 100000 in
set_option maxHeartbeats 4000000 in
theorem m_errandTo {D : Wd} {n : Nat} {k f : Nat → Nat} {dn : Nat} {dr : Nat → Nat} {pn : Nat} (hP : PM D n k f dn dr pn) {a : Nat → Nat} (hA : AM D 42 n a) {i r : Nat} (hi : i < n) (hr : r < n) : Mok mX6_errandTo idsA 6 [vr (30, 0), vi (nI i), vi (nI r)] D (fun r' E' => r' = (some (vi (opI (erG n k f dn dr i r a).1))) ∧ (TS D E' ∧ AM E' 42 n (erG n k f dn dr i r a).2)) := by
  obtain ⟨hn3, hn8, hN, hK, hF, hd3, hDn, hDr, hp5, hPn⟩ := id hP
  refine Mok.of (L := [some (vr (30, 0)), some (vi (nI i)), some (vi (nI r)), none, none, none]) rfl (fun _ => Nat.le_of_ble_eq_true rfl) (fun _ => rfl) (fun X cx rq => ?_)
  refine g_aload_n cx dX6_errandTo_0 rfl ?_
  refine g_callV (As := []) (rest := []) cx knX6_setAside (m_setAsideR hn8 hA) a30_0 rfl rfl lmX6_236 niX6_setAside seX6_setAside rfl (by decide) (Nat.le_of_ble_eq_true rfl) rfl dX6_errandTo_1 (fun r0 E1 hp0 => ?_)
  obtain ⟨rfl, hT1, hA1, hS1⟩ := hp0
  show Gk X mX6_errandTo idsA 4 [some (vr (30, 0)), some (vi (nI i)), some (vi (nI r)), none, none, none] [] E1
  refine g_aload_n cx dX6_errandTo_4 rfl ?_
  refine g_iload_n cx dX6_errandTo_5 rfl ?_
  refine g_iconst (v := nI 0) cx dX6_errandTo_6 (by decide) ?_
  refine g_iload_n cx dX6_errandTo_7 rfl ?_
  refine g_callV (As := [vi (nI i), vi (nI 0), vi (nI r)]) (rest := []) cx knX6_turnOn (m_turnOnR (hT1.P hP) hA1 hS1 hi (s := 0) (by omega) hr) a30_0 rfl rfl lmX6_227 niX6_turnOn seX6_turnOn rfl (by decide) (Nat.le_of_ble_eq_true rfl) rfl dX6_errandTo_8 (fun r0 E2 hp0 => ?_)
  obtain ⟨rfl, hT2, hA2, hS2⟩ := hp0
  show Gk X mX6_errandTo idsA 11 [some (vr (30, 0)), some (vi (nI i)), some (vi (nI r)), none, none, none] [vi (trn n k f dn dr i 0 r a)] E2
  refine g_istore_n (L' := [some (vr (30, 0)), some (vi (nI i)), some (vi (nI r)), some (vi (trn n k f dn dr i 0 r a)), none, none]) cx dX6_errandTo_11 (by decide) rfl rfl ?_
  refine g_aload_n cx dX6_errandTo_12 rfl ?_
  refine g_callV (As := []) (rest := []) cx knX6_putBack (m_putBackR hn8 hS2) a30_0 rfl rfl lmX6_239 niX6_putBack seX6_putBack rfl (by decide) (Nat.le_of_ble_eq_true rfl) rfl dX6_errandTo_13 (fun r0 E3 hp0 => ?_)
  obtain ⟨rfl, hT3, hA3, hS3⟩ := hp0
  show Gk X mX6_errandTo idsA 16 [some (vr (30, 0)), some (vi (nI i)), some (vi (nI r)), some (vi (trn n k f dn dr i 0 r a)), none, none] [] E3
  refine g_aload_n cx dX6_errandTo_16 rfl ?_
  refine g_iload_n cx dX6_errandTo_17 rfl ?_
  refine g_iconst (v := nI 1) cx dX6_errandTo_18 (by decide) ?_
  refine g_iload_n cx dX6_errandTo_19 rfl ?_
  refine g_callV (As := [vi (nI i), vi (nI 1), vi (nI r)]) (rest := []) cx knX6_turnOn (m_turnOnR (((hT1.trans hT2).trans hT3).P hP) hA3 hS3 hi (s := 1) (by omega) hr) a30_0 rfl rfl lmX6_227 niX6_turnOn seX6_turnOn rfl (by decide) (Nat.le_of_ble_eq_true rfl) rfl dX6_errandTo_20 (fun r0 E4 hp0 => ?_)
  obtain ⟨rfl, hT4, hA4, hS4⟩ := hp0
  show Gk X mX6_errandTo idsA 23 [some (vr (30, 0)), some (vi (nI i)), some (vi (nI r)), some (vi (trn n k f dn dr i 0 r a)), none, none] [vi (trn n k f dn dr i 1 r a)] E4
  refine g_istore (L' := [some (vr (30, 0)), some (vi (nI i)), some (vi (nI r)), some (vi (trn n k f dn dr i 0 r a)), some (vi (trn n k f dn dr i 1 r a)), none]) cx dX6_errandTo_23 (by decide) rfl rfl ?_
  refine g_aload_n cx dX6_errandTo_25 rfl ?_
  refine g_callV (As := []) (rest := []) cx knX6_putBack (m_putBackR hn8 hS4) a30_0 rfl rfl lmX6_239 niX6_putBack seX6_putBack rfl (by decide) (Nat.le_of_ble_eq_true rfl) rfl dX6_errandTo_26 (fun r0 E5 hp0 => ?_)
  obtain ⟨rfl, hT5, hA5, hS5⟩ := hp0
  show Gk X mX6_errandTo idsA 29 [some (vr (30, 0)), some (vi (nI i)), some (vi (nI r)), some (vi (trn n k f dn dr i 0 r a)), some (vi (trn n k f dn dr i 1 r a)), none] [] E5
  have ht0 := tmG_le n k f dn dr i 0 r 72 0 a
  have ht1 := tmG_le n k f dn dr i 1 r 72 0 a
  by_cases ho0 : opn n (tmG n k f dn dr i 0 r 72 0 a).2 dn dr r = true
  · skip
    by_cases ho1 : opn n (tmG n k f dn dr i 1 r 72 0 a).2 dn dr r = true
    · skip
      refine g_loc (L' := [some (vr (30, 0)), some (vi (nI i)), some (vi (nI r)), some (vi (nI ((tmG n k f dn dr i 0 r 72 0 a).1))), some (vi (nI ((tmG n k f dn dr i 1 r 72 0 a).1))), none]) (by rw [trn, trn, if_pos ho0, if_pos ho1]) ?_
      refine g_iload_n cx dX6_errandTo_29 rfl ?_
      refine g_iconst (v := (-1)) cx dX6_errandTo_30 (by decide) ?_
      refine g_icmp_eq (tgt := 50) cx dX6_errandTo_31 (by decide) (fun h_31 => ?_) (fun h_31 => ?_)
      · skip
        exact absurd h_31 (m1_ne (by omega))
      · skip
        refine g_iload cx dX6_errandTo_34 rfl ?_
        refine g_iconst (v := (-1)) cx dX6_errandTo_36 (by decide) ?_
        refine g_icmp_eq (tgt := 46) cx dX6_errandTo_37 (by decide) (fun h_37 => ?_) (fun h_37 => ?_)
        · skip
          exact absurd h_37 (m1_ne (by omega))
        · skip
          refine g_iload_n cx dX6_errandTo_40 rfl ?_
          refine g_iload cx dX6_errandTo_41 rfl ?_
          refine g_icmp_gtN (tgt := 50) cx dX6_errandTo_43 (by decide) (by omega) (by omega) (fun h_43 => ?_) (fun h_43 => ?_)
          · skip
            refine g_iconst (v := nI 0) cx dX6_errandTo_50 (by decide) ?_
            refine g_istore (L' := [some (vr (30, 0)), some (vi (nI i)), some (vi (nI r)), some (vi (nI ((tmG n k f dn dr i 0 r 72 0 a).1))), some (vi (nI ((tmG n k f dn dr i 1 r 72 0 a).1))), some (vi (nI 0))]) cx dX6_errandTo_51 (by decide) rfl rfl ?_
            refine g_iload cx dX6_errandTo_53 rfl ?_
            refine g_if_eqN (tgt := 68) cx dX6_errandTo_55 (by decide) (by omega) (fun h_55 => ?_) (fun h_55 => ?_)
            · skip
              refine g_iload cx dX6_errandTo_68 rfl ?_
              refine g_iconst (v := (-1)) cx dX6_errandTo_70 (by decide) ?_
              refine g_icmp_ne (tgt := 78) cx dX6_errandTo_71 (by decide) (fun h_71 => ?_) (fun h_71 => ?_)
              · skip
                refine g_aload_n cx dX6_errandTo_78 rfl ?_
                refine g_iload_n cx dX6_errandTo_79 rfl ?_
                refine g_iconst (v := nI 1) cx dX6_errandTo_80 (by decide) ?_
                refine g_iload_n cx dX6_errandTo_81 rfl ?_
                refine g_callV (As := [vi (nI i), vi (nI 1), vi (nI r)]) (rest := []) cx knX6_turnOn (m_turnOnR (((((hT1.trans hT2).trans hT3).trans hT4).trans hT5).P hP) hA5 hS5 hi (s := 1) (by omega) hr) a30_0 rfl rfl lmX6_227 niX6_turnOn seX6_turnOn rfl (by decide) (Nat.le_of_ble_eq_true rfl) rfl dX6_errandTo_82 (fun r0 E6 hp0 => ?_)
                obtain ⟨rfl, hT6, hA6, hS6⟩ := hp0
                show Gk X mX6_errandTo idsA 85 [some (vr (30, 0)), some (vi (nI i)), some (vi (nI r)), some (vi (nI ((tmG n k f dn dr i 0 r 72 0 a).1))), some (vi (nI ((tmG n k f dn dr i 1 r 72 0 a).1))), some (vi (nI 0))] [vi (trn n k f dn dr i 1 r a)] E6
                exact g_ret cx rq rfl (rfl) dX6_errandTo_85 ⟨by rw [erG, if_neg (fun e9 => by first | exact absurd e9.1 ho0 | exact absurd (e9.2 ho1) (by omega)), if_pos ho1]; rw [trn, if_pos ho1]; rfl, (((hT1.trans hT2).trans hT3).trans hT4).trans (hT5.trans hT6), by rw [erG, if_neg (fun e9 => by first | exact absurd e9.1 ho0 | exact absurd (e9.2 ho1) (by omega)), if_pos ho1]; exact hA6⟩
              · skip
                exact absurd h_71 (m1_ne (by omega))
            · skip
              exact absurd h_55 (by decide)
          · skip
            refine g_iconst (v := nI 1) cx dX6_errandTo_46 (by decide) ?_
            refine g_goto (tgt := 51) cx dX6_errandTo_47 (by decide) ?_
            refine g_istore (L' := [some (vr (30, 0)), some (vi (nI i)), some (vi (nI r)), some (vi (nI ((tmG n k f dn dr i 0 r 72 0 a).1))), some (vi (nI ((tmG n k f dn dr i 1 r 72 0 a).1))), some (vi (nI 1))]) cx dX6_errandTo_51 (by decide) rfl rfl ?_
            refine g_iload cx dX6_errandTo_53 rfl ?_
            refine g_if_eqN (tgt := 68) cx dX6_errandTo_55 (by decide) (by omega) (fun h_55 => ?_) (fun h_55 => ?_)
            · skip
              exact absurd h_55 (by decide)
            · skip
              refine g_aload_n cx dX6_errandTo_58 rfl ?_
              refine g_iload_n cx dX6_errandTo_59 rfl ?_
              refine g_iconst (v := nI 0) cx dX6_errandTo_60 (by decide) ?_
              refine g_iload_n cx dX6_errandTo_61 rfl ?_
              refine g_callV (As := [vi (nI i), vi (nI 0), vi (nI r)]) (rest := []) cx knX6_turnOn (m_turnOnR (((((hT1.trans hT2).trans hT3).trans hT4).trans hT5).P hP) hA5 hS5 hi (s := 0) (by omega) hr) a30_0 rfl rfl lmX6_227 niX6_turnOn seX6_turnOn rfl (by decide) (Nat.le_of_ble_eq_true rfl) rfl dX6_errandTo_62 (fun r0 E6 hp0 => ?_)
              obtain ⟨rfl, hT6, hA6, hS6⟩ := hp0
              show Gk X mX6_errandTo idsA 65 [some (vr (30, 0)), some (vi (nI i)), some (vi (nI r)), some (vi (nI ((tmG n k f dn dr i 0 r 72 0 a).1))), some (vi (nI ((tmG n k f dn dr i 1 r 72 0 a).1))), some (vi (nI 1))] [vi (trn n k f dn dr i 0 r a)] E6
              refine g_goto (tgt := 85) cx dX6_errandTo_65 (by decide) ?_
              exact g_ret cx rq rfl (rfl) dX6_errandTo_85 ⟨by rw [erG, if_pos ⟨ho0, fun e9 => by first | exact h_43 | exact absurd e9 ho1⟩]; rw [trn, if_pos ho0]; rfl, (((hT1.trans hT2).trans hT3).trans hT4).trans (hT5.trans hT6), by rw [erG, if_pos ⟨ho0, fun e9 => by first | exact h_43 | exact absurd e9 ho1⟩]; exact hA6⟩
    · skip
      refine g_loc (L' := [some (vr (30, 0)), some (vi (nI i)), some (vi (nI r)), some (vi (nI ((tmG n k f dn dr i 0 r 72 0 a).1))), some (vi (-1)), none]) (by rw [trn, trn, if_pos ho0, if_neg ho1]) ?_
      refine g_iload_n cx dX6_errandTo_29 rfl ?_
      refine g_iconst (v := (-1)) cx dX6_errandTo_30 (by decide) ?_
      refine g_icmp_eq (tgt := 50) cx dX6_errandTo_31 (by decide) (fun h_31 => ?_) (fun h_31 => ?_)
      · skip
        exact absurd h_31 (m1_ne (by omega))
      · skip
        refine g_iload cx dX6_errandTo_34 rfl ?_
        refine g_iconst (v := (-1)) cx dX6_errandTo_36 (by decide) ?_
        refine g_icmp_eq (tgt := 46) cx dX6_errandTo_37 (by decide) (fun h_37 => ?_) (fun h_37 => ?_)
        · skip
          refine g_iconst (v := nI 1) cx dX6_errandTo_46 (by decide) ?_
          refine g_goto (tgt := 51) cx dX6_errandTo_47 (by decide) ?_
          refine g_istore (L' := [some (vr (30, 0)), some (vi (nI i)), some (vi (nI r)), some (vi (nI ((tmG n k f dn dr i 0 r 72 0 a).1))), some (vi (-1)), some (vi (nI 1))]) cx dX6_errandTo_51 (by decide) rfl rfl ?_
          refine g_iload cx dX6_errandTo_53 rfl ?_
          refine g_if_eqN (tgt := 68) cx dX6_errandTo_55 (by decide) (by omega) (fun h_55 => ?_) (fun h_55 => ?_)
          · skip
            exact absurd h_55 (by decide)
          · skip
            refine g_aload_n cx dX6_errandTo_58 rfl ?_
            refine g_iload_n cx dX6_errandTo_59 rfl ?_
            refine g_iconst (v := nI 0) cx dX6_errandTo_60 (by decide) ?_
            refine g_iload_n cx dX6_errandTo_61 rfl ?_
            refine g_callV (As := [vi (nI i), vi (nI 0), vi (nI r)]) (rest := []) cx knX6_turnOn (m_turnOnR (((((hT1.trans hT2).trans hT3).trans hT4).trans hT5).P hP) hA5 hS5 hi (s := 0) (by omega) hr) a30_0 rfl rfl lmX6_227 niX6_turnOn seX6_turnOn rfl (by decide) (Nat.le_of_ble_eq_true rfl) rfl dX6_errandTo_62 (fun r0 E6 hp0 => ?_)
            obtain ⟨rfl, hT6, hA6, hS6⟩ := hp0
            show Gk X mX6_errandTo idsA 65 [some (vr (30, 0)), some (vi (nI i)), some (vi (nI r)), some (vi (nI ((tmG n k f dn dr i 0 r 72 0 a).1))), some (vi (-1)), some (vi (nI 1))] [vi (trn n k f dn dr i 0 r a)] E6
            refine g_goto (tgt := 85) cx dX6_errandTo_65 (by decide) ?_
            exact g_ret cx rq rfl (rfl) dX6_errandTo_85 ⟨by rw [erG, if_pos ⟨ho0, fun e9 => by first | exact h_43 | exact absurd e9 ho1⟩]; rw [trn, if_pos ho0]; rfl, (((hT1.trans hT2).trans hT3).trans hT4).trans (hT5.trans hT6), by rw [erG, if_pos ⟨ho0, fun e9 => by first | exact h_43 | exact absurd e9 ho1⟩]; exact hA6⟩
        · skip
          exact absurd rfl h_37
  · skip
    by_cases ho1 : opn n (tmG n k f dn dr i 1 r 72 0 a).2 dn dr r = true
    · skip
      refine g_loc (L' := [some (vr (30, 0)), some (vi (nI i)), some (vi (nI r)), some (vi (-1)), some (vi (nI ((tmG n k f dn dr i 1 r 72 0 a).1))), none]) (by rw [trn, trn, if_neg ho0, if_pos ho1]) ?_
      refine g_iload_n cx dX6_errandTo_29 rfl ?_
      refine g_iconst (v := (-1)) cx dX6_errandTo_30 (by decide) ?_
      refine g_icmp_eq (tgt := 50) cx dX6_errandTo_31 (by decide) (fun h_31 => ?_) (fun h_31 => ?_)
      · skip
        refine g_iconst (v := nI 0) cx dX6_errandTo_50 (by decide) ?_
        refine g_istore (L' := [some (vr (30, 0)), some (vi (nI i)), some (vi (nI r)), some (vi (-1)), some (vi (nI ((tmG n k f dn dr i 1 r 72 0 a).1))), some (vi (nI 0))]) cx dX6_errandTo_51 (by decide) rfl rfl ?_
        refine g_iload cx dX6_errandTo_53 rfl ?_
        refine g_if_eqN (tgt := 68) cx dX6_errandTo_55 (by decide) (by omega) (fun h_55 => ?_) (fun h_55 => ?_)
        · skip
          refine g_iload cx dX6_errandTo_68 rfl ?_
          refine g_iconst (v := (-1)) cx dX6_errandTo_70 (by decide) ?_
          refine g_icmp_ne (tgt := 78) cx dX6_errandTo_71 (by decide) (fun h_71 => ?_) (fun h_71 => ?_)
          · skip
            refine g_aload_n cx dX6_errandTo_78 rfl ?_
            refine g_iload_n cx dX6_errandTo_79 rfl ?_
            refine g_iconst (v := nI 1) cx dX6_errandTo_80 (by decide) ?_
            refine g_iload_n cx dX6_errandTo_81 rfl ?_
            refine g_callV (As := [vi (nI i), vi (nI 1), vi (nI r)]) (rest := []) cx knX6_turnOn (m_turnOnR (((((hT1.trans hT2).trans hT3).trans hT4).trans hT5).P hP) hA5 hS5 hi (s := 1) (by omega) hr) a30_0 rfl rfl lmX6_227 niX6_turnOn seX6_turnOn rfl (by decide) (Nat.le_of_ble_eq_true rfl) rfl dX6_errandTo_82 (fun r0 E6 hp0 => ?_)
            obtain ⟨rfl, hT6, hA6, hS6⟩ := hp0
            show Gk X mX6_errandTo idsA 85 [some (vr (30, 0)), some (vi (nI i)), some (vi (nI r)), some (vi (-1)), some (vi (nI ((tmG n k f dn dr i 1 r 72 0 a).1))), some (vi (nI 0))] [vi (trn n k f dn dr i 1 r a)] E6
            exact g_ret cx rq rfl (rfl) dX6_errandTo_85 ⟨by rw [erG, if_neg (fun e9 => by first | exact absurd e9.1 ho0 | exact absurd (e9.2 ho1) (by omega)), if_pos ho1]; rw [trn, if_pos ho1]; rfl, (((hT1.trans hT2).trans hT3).trans hT4).trans (hT5.trans hT6), by rw [erG, if_neg (fun e9 => by first | exact absurd e9.1 ho0 | exact absurd (e9.2 ho1) (by omega)), if_pos ho1]; exact hA6⟩
          · skip
            exact absurd h_71 (m1_ne (by omega))
        · skip
          exact absurd h_55 (by decide)
      · skip
        exact absurd rfl h_31
    · skip
      refine g_loc (L' := [some (vr (30, 0)), some (vi (nI i)), some (vi (nI r)), some (vi (-1)), some (vi (-1)), none]) (by rw [trn, trn, if_neg ho0, if_neg ho1]) ?_
      refine g_iload_n cx dX6_errandTo_29 rfl ?_
      refine g_iconst (v := (-1)) cx dX6_errandTo_30 (by decide) ?_
      refine g_icmp_eq (tgt := 50) cx dX6_errandTo_31 (by decide) (fun h_31 => ?_) (fun h_31 => ?_)
      · skip
        refine g_iconst (v := nI 0) cx dX6_errandTo_50 (by decide) ?_
        refine g_istore (L' := [some (vr (30, 0)), some (vi (nI i)), some (vi (nI r)), some (vi (-1)), some (vi (-1)), some (vi (nI 0))]) cx dX6_errandTo_51 (by decide) rfl rfl ?_
        refine g_iload cx dX6_errandTo_53 rfl ?_
        refine g_if_eqN (tgt := 68) cx dX6_errandTo_55 (by decide) (by omega) (fun h_55 => ?_) (fun h_55 => ?_)
        · skip
          refine g_iload cx dX6_errandTo_68 rfl ?_
          refine g_iconst (v := (-1)) cx dX6_errandTo_70 (by decide) ?_
          refine g_icmp_ne (tgt := 78) cx dX6_errandTo_71 (by decide) (fun h_71 => ?_) (fun h_71 => ?_)
          · skip
            exact absurd rfl h_71
          · skip
            refine g_iconst (v := (-1)) cx dX6_errandTo_74 (by decide) ?_
            refine g_goto (tgt := 85) cx dX6_errandTo_75 (by decide) ?_
            exact g_ret cx rq rfl (rfl) dX6_errandTo_85 ⟨by rw [erG, if_neg (fun e9 => absurd e9.1 ho0), if_neg ho1]; rfl, (((hT1.trans hT2).trans hT3).trans hT4).trans hT5, by rw [erG, if_neg (fun e9 => absurd e9.1 ho0), if_neg ho1]; exact hA5⟩
        · skip
          exact absurd h_55 (by decide)
      · skip
        exact absurd rfl h_31

set_option maxRecDepth 100000 in
set_option maxHeartbeats 4000000 in
theorem m_rowOf {D : Wd} {c : Nat} (hCm : D (30, 0) 22 = nI c) (hc6 : c < 6) {ch : Nat → Nat} (hCh : ∀ q, q < c → D (41, 0) q = nI (ch q)) {v i : Nat} (hv : v < fct c) (hi : i < c) : Fok mX6_rowOf idsA 1 [vr (30, 0), vi (nI v), vi (nI i)] D (some (vi (nI (rwR ch c v i)))) D := by
  have hf120 := fct_lt c hc6
  have hf2 := fct_lt (c - 1) (by omega)
  have hf0 := fct_pos (c - 1)
  refine Mok.of (L := [some (vr (30, 0)), some (vi (nI v)), some (vi (nI i)), none, none, none, none, none, none]) rfl (fun _ => Nat.le_of_ble_eq_true rfl) (fun _ => rfl) (fun X cx rq => ?_)
  refine g_iconst (v := nI 1) cx dX6_rowOf_0 (by decide) ?_
  refine g_aload_n cx dX6_rowOf_1 rfl ?_
  refine g_getIN (i := (30, 0)) (ci := 6) (k := 22) (v := nI c) cx a30_0 rfl rfl rfl (by decide) inX6 lfX6_233 dX6_rowOf_2 (hCm) ?_
  refine g_ishl cx dX6_rowOf_5 ?_
  refine g_iconst (v := nI 1) cx dX6_rowOf_6 (by decide) ?_
  refine g_isub cx dX6_rowOf_7 ?_
  refine g_top (shl_c c (by omega)) ?_
  refine g_istore_n (L' := [some (vr (30, 0)), some (vi (nI v)), some (vi (nI i)), some (vi (nI (2 ^ c - 1))), none, none, none, none, none]) cx dX6_rowOf_8 (by decide) rfl rfl ?_
  refine g_iconst (v := (-1)) cx dX6_rowOf_9 (by decide) ?_
  refine g_istore (L' := [some (vr (30, 0)), some (vi (nI v)), some (vi (nI i)), some (vi (nI (2 ^ c - 1))), some (vi (-1)), none, none, none, none]) cx dX6_rowOf_10 (by decide) rfl rfl ?_
  refine g_iload_n cx dX6_rowOf_12 rfl ?_
  refine g_istore (L' := [some (vr (30, 0)), some (vi (nI v)), some (vi (nI i)), some (vi (nI (2 ^ c - 1))), some (vi (-1)), some (vi (nI v)), none, none, none]) cx dX6_rowOf_13 (by decide) rfl rfl ?_
  refine g_iconst (v := nI 1) cx dX6_rowOf_15 (by decide) ?_
  refine g_istore (L' := [some (vr (30, 0)), some (vi (nI v)), some (vi (nI i)), some (vi (nI (2 ^ c - 1))), some (vi (-1)), some (vi (nI v)), some (vi (nI 1)), none, none]) cx dX6_rowOf_16 (by decide) rfl rfl ?_
  refine g_iconst (v := nI 2) cx dX6_rowOf_18 (by decide) ?_
  refine g_istore (L' := [some (vr (30, 0)), some (vi (nI v)), some (vi (nI i)), some (vi (nI (2 ^ c - 1))), some (vi (-1)), some (vi (nI v)), some (vi (nI 1)), some (vi (nI 2)), none]) cx dX6_rowOf_19 (by decide) rfl rfl ?_
  refine g_loc (L' := [some (vr (30, 0)), some (vi (nI v)), some (vi (nI i)), some (vi (nI (2 ^ c - 1))), some (vi (-1)), some (vi (nI v)), some (vi (nI (fct (2 - 1)))), some (vi (nI 2)), none]) (rfl) ?_
  have lp1 : ∀ (fu : Nat) (u : Nat), c - u < fu → (2 ≤ u) → (u ≤ c ∨ u = 2) → (u < 7) → Gk X mX6_rowOf idsA 21 [some (vr (30, 0)), some (vi (nI v)), some (vi (nI i)), some (vi (nI (2 ^ c - 1))), some (vi (-1)), some (vi (nI v)), some (vi (nI (fct (u - 1)))), some (vi (nI u)), none] [] D := by
    intro fu
    induction fu with
    | zero => intro u hfu; exact absurd hfu (Nat.not_lt_zero _)
    | succ fu ih =>
      intro u hfu hu hu2 hu3
      refine g_iload cx dX6_rowOf_21 rfl ?_
      refine g_aload_n cx dX6_rowOf_23 rfl ?_
      refine g_getIN (i := (30, 0)) (ci := 6) (k := 22) (v := nI c) cx a30_0 rfl rfl rfl (by decide) inX6 lfX6_233 dX6_rowOf_24 (hCm) ?_
      refine g_icmp_geN (tgt := 43) cx dX6_rowOf_27 (by decide) (by omega) (by omega) (fun h_27 => ?_) (fun h_27 => ?_)
      · skip
        have hfc : fct (u - 1) = fct (c - 1) := by
          by_cases e9 : u = c
          · rw [e9]
          · have e8 : c = 1 := by omega
            have e7 : u = 2 := by omega
            subst e8 e7; rfl
        refine g_iconst (v := nI 0) cx dX6_rowOf_43 (by decide) ?_
        refine g_istore (L' := [some (vr (30, 0)), some (vi (nI v)), some (vi (nI i)), some (vi (nI (2 ^ c - 1))), some (vi (-1)), some (vi (nI v)), some (vi (nI (fct (u - 1)))), some (vi (nI 0)), none]) cx dX6_rowOf_44 (by decide) rfl rfl ?_
        refine g_loc (L' := [some (vr (30, 0)), some (vi (nI v)), some (vi (nI i)), some (vi (nI ((rwS c v 0).1))), some (vi (-1)), some (vi (nI v)), some (vi (nI (fct (u - 1)))), some (vi (nI 0)), none]) (rfl) ?_
        refine g_loc (L' := [some (vr (30, 0)), some (vi (nI v)), some (vi (nI i)), some (vi (nI ((rwS c v 0).1))), some (vi (-1)), some (vi (nI ((rwS c v 0).2.1))), some (vi (nI (fct (u - 1)))), some (vi (nI 0)), none]) (rfl) ?_
        refine g_loc (L' := [some (vr (30, 0)), some (vi (nI v)), some (vi (nI i)), some (vi (nI ((rwS c v 0).1))), some (vi (whI c v 0)), some (vi (nI ((rwS c v 0).2.1))), some (vi (nI (fct (u - 1)))), some (vi (nI 0)), none]) (rfl) ?_
        refine g_loc (L' := [some (vr (30, 0)), some (vi (nI v)), some (vi (nI i)), some (vi (nI ((rwS c v 0).1))), some (vi (whI c v 0)), some (vi (nI ((rwS c v 0).2.1))), some (vi (nI ((rwS c v 0).2.2.1))), some (vi (nI 0)), none]) (by rw [hfc]; rfl) ?_
        have lp2 : ∀ (fu : Nat) (q : Nat), i + 1 - q < fu → (q ≤ i + 1) → Gk X mX6_rowOf idsA 46 [some (vr (30, 0)), some (vi (nI v)), some (vi (nI i)), some (vi (nI ((rwS c v q).1))), some (vi (whI c v q)), some (vi (nI ((rwS c v q).2.1))), some (vi (nI ((rwS c v q).2.2.1))), some (vi (nI q)), none] [] D := by
          intro fu
          induction fu with
          | zero => intro q hfu; exact absurd hfu (Nat.not_lt_zero _)
          | succ fu ih =>
            intro q hfu hq
            refine g_iload cx dX6_rowOf_46 rfl ?_
            refine g_iload_n cx dX6_rowOf_48 rfl ?_
            refine g_icmp_gtN (tgt := 153) cx dX6_rowOf_49 (by decide) (by omega) (by omega) (fun h_49 => ?_) (fun h_49 => ?_)
            · skip
              have e9 : q = i + 1 := by omega
              have hok := rwS_ok (q := i) hc6 hv hi
              refine g_loc (L' := [some (vr (30, 0)), some (vi (nI v)), some (vi (nI i)), some (vi (nI ((rwS c v q).1))), some (vi (nI ((rwS c v (i + 1)).2.2.2))), some (vi (nI ((rwS c v q).2.1))), some (vi (nI ((rwS c v q).2.2.1))), some (vi (nI q)), none]) (by rw [e9, whI, if_neg (by omega)]) ?_
              have hwh : (rwS c v (i + 1)).2.2.2 < c := hok.2.2.2.2
              refine g_aload_n cx dX6_rowOf_153 rfl ?_
              refine g_getR (i := (30, 0)) (ci := 6) (k := 21) (j := (41, 0)) cx a30_0 rfl rfl rfl (by decide) inX6 lfX6_45 dX6_rowOf_154 ?_
              refine g_iload cx dX6_rowOf_157 rfl ?_
              refine g_ialdN (i := (41, 0)) (j := (rwS c v (i + 1)).2.2.2) (v := nI (ch ((rwS c v (i + 1)).2.2.2))) cx a41_0 rfl (rfl) (by omega) (by decide) dX6_rowOf_159 (hCh ((rwS c v (i + 1)).2.2.2) (by omega)) ?_
              exact g_fret cx rq rfl (rfl) dX6_rowOf_160 (by rfl) (rfl)
            · skip
              have hok := rwS_ok hc6 hv (show q < c by omega)
              refine g_iload cx dX6_rowOf_52 rfl ?_
              refine g_iload cx dX6_rowOf_54 rfl ?_
              refine g_idivN cx dX6_rowOf_56 (by omega) (by omega) (by omega) ?_
              have hdv : (rwS c v q).2.1 / (rwS c v q).2.2.1 < 1000 := Nat.lt_of_le_of_lt (Nat.div_le_self _ _) hok.2.2.2.1
              refine g_istore (L' := [some (vr (30, 0)), some (vi (nI v)), some (vi (nI i)), some (vi (nI ((rwS c v q).1))), some (vi (whI c v q)), some (vi (nI ((rwS c v q).2.1))), some (vi (nI ((rwS c v q).2.2.1))), some (vi (nI q)), some (vi (nI (((rwS c v q).2.1) / ((rwS c v q).2.2.1))))]) cx dX6_rowOf_57 (by decide) rfl rfl ?_
              have jn : Gk X mX6_rowOf idsA 101 [some (vr (30, 0)), some (vi (nI v)), some (vi (nI i)), some (vi (nI ((rwS c v q).1))), some (vi (nI (nthB (rwS c v q).1 8 ((rwS c v q).2.1 / (rwS c v q).2.2.1) 0))), some (vi (nI ((rwS c v q).2.1))), some (vi (nI ((rwS c v q).2.2.1))), some (vi (nI q)), none] [] D := by
                refine g_iload cx dX6_rowOf_101 rfl ?_
                refine g_iload cx dX6_rowOf_103 rfl ?_
                refine g_iremN cx dX6_rowOf_105 (by omega) (by omega) (by omega) ?_
                refine g_istore (L' := [some (vr (30, 0)), some (vi (nI v)), some (vi (nI i)), some (vi (nI ((rwS c v q).1))), some (vi (nI (nthB (rwS c v q).1 8 ((rwS c v q).2.1 / (rwS c v q).2.2.1) 0))), some (vi (nI (((rwS c v q).2.1) % ((rwS c v q).2.2.1)))), some (vi (nI ((rwS c v q).2.2.1))), some (vi (nI q)), none]) cx dX6_rowOf_106 (by decide) rfl rfl ?_
                refine g_iload_n cx dX6_rowOf_108 rfl ?_
                refine g_iconst (v := nI 1) cx dX6_rowOf_109 (by decide) ?_
                refine g_iload cx dX6_rowOf_110 rfl ?_
                refine g_ishl cx dX6_rowOf_112 ?_
                refine g_top (nI_shl _ (by omega)) ?_
                refine g_iconst (v := (-1)) cx dX6_rowOf_113 (by decide) ?_
                refine g_ixor cx dX6_rowOf_114 ?_
                refine g_iand cx dX6_rowOf_115 ?_
                refine g_top (nI_clr _ hok.1 _ (by omega)) ?_
                refine g_istore_n (L' := [some (vr (30, 0)), some (vi (nI v)), some (vi (nI i)), some (vi (nI (clr (rwS c v q).1 (nthB (rwS c v q).1 8 ((rwS c v q).2.1 / (rwS c v q).2.2.1) 0)))), some (vi (nI (nthB (rwS c v q).1 8 ((rwS c v q).2.1 / (rwS c v q).2.2.1) 0))), some (vi (nI (((rwS c v q).2.1) % ((rwS c v q).2.2.1)))), some (vi (nI ((rwS c v q).2.2.1))), some (vi (nI q)), none]) cx dX6_rowOf_116 (by decide) rfl rfl ?_
                refine g_aload_n cx dX6_rowOf_117 rfl ?_
                refine g_getIN (i := (30, 0)) (ci := 6) (k := 22) (v := nI c) cx a30_0 rfl rfl rfl (by decide) inX6 lfX6_233 dX6_rowOf_118 (hCm) ?_
                refine g_iconst (v := nI 1) cx dX6_rowOf_121 (by decide) ?_
                refine g_isubN cx dX6_rowOf_122 (by omega) ?_
                refine g_iload cx dX6_rowOf_123 rfl ?_
                refine g_isubN cx dX6_rowOf_125 (by omega) ?_
                refine g_if_leN (tgt := 144) cx dX6_rowOf_126 (by decide) (by omega) (fun h_126 => ?_) (fun h_126 => ?_)
                · skip
                  refine g_iconst (v := nI 1) cx dX6_rowOf_144 (by decide) ?_
                  refine g_top (y := nI (if 0 < c - 1 - q then (rwS c v q).2.2.1 / (c - 1 - q) else 1)) (by rw [if_neg (by omega)]) ?_
                  refine g_istore (L' := [some (vr (30, 0)), some (vi (nI v)), some (vi (nI i)), some (vi (nI (clr (rwS c v q).1 (nthB (rwS c v q).1 8 ((rwS c v q).2.1 / (rwS c v q).2.2.1) 0)))), some (vi (nI (nthB (rwS c v q).1 8 ((rwS c v q).2.1 / (rwS c v q).2.2.1) 0))), some (vi (nI (((rwS c v q).2.1) % ((rwS c v q).2.2.1)))), some (vi (nI (if 0 < c - 1 - q then (rwS c v q).2.2.1 / (c - 1 - q) else 1))), some (vi (nI q)), none]) cx dX6_rowOf_145 (by decide) rfl rfl ?_
                  refine g_iincN (L' := [some (vr (30, 0)), some (vi (nI v)), some (vi (nI i)), some (vi (nI (clr (rwS c v q).1 (nthB (rwS c v q).1 8 ((rwS c v q).2.1 / (rwS c v q).2.2.1) 0)))), some (vi (nI (nthB (rwS c v q).1 8 ((rwS c v q).2.1 / (rwS c v q).2.2.1) 0))), some (vi (nI (((rwS c v q).2.1) % ((rwS c v q).2.2.1)))), some (vi (nI (if 0 < c - 1 - q then (rwS c v q).2.2.1 / (c - 1 - q) else 1))), some (vi (nI (q + 1))), none]) cx dX6_rowOf_147 rfl (by decide) rfl rfl ?_
                  refine g_goto (tgt := 46) cx dX6_rowOf_150 (by decide) ?_
                  exact ih (q + 1) (by omega) (by omega)
                · skip
                  refine g_iload cx dX6_rowOf_129 rfl ?_
                  refine g_aload_n cx dX6_rowOf_131 rfl ?_
                  refine g_getIN (i := (30, 0)) (ci := 6) (k := 22) (v := nI c) cx a30_0 rfl rfl rfl (by decide) inX6 lfX6_233 dX6_rowOf_132 (hCm) ?_
                  refine g_iconst (v := nI 1) cx dX6_rowOf_135 (by decide) ?_
                  refine g_isubN cx dX6_rowOf_136 (by omega) ?_
                  refine g_iload cx dX6_rowOf_137 rfl ?_
                  refine g_isubN cx dX6_rowOf_139 (by omega) ?_
                  refine g_idivN cx dX6_rowOf_140 (by omega) (by omega) (by omega) ?_
                  refine g_goto (tgt := 145) cx dX6_rowOf_141 (by decide) ?_
                  refine g_top (y := nI (if 0 < c - 1 - q then (rwS c v q).2.2.1 / (c - 1 - q) else 1)) (by rw [if_pos h_126]) ?_
                  refine g_istore (L' := [some (vr (30, 0)), some (vi (nI v)), some (vi (nI i)), some (vi (nI (clr (rwS c v q).1 (nthB (rwS c v q).1 8 ((rwS c v q).2.1 / (rwS c v q).2.2.1) 0)))), some (vi (nI (nthB (rwS c v q).1 8 ((rwS c v q).2.1 / (rwS c v q).2.2.1) 0))), some (vi (nI (((rwS c v q).2.1) % ((rwS c v q).2.2.1)))), some (vi (nI (if 0 < c - 1 - q then (rwS c v q).2.2.1 / (c - 1 - q) else 1))), some (vi (nI q)), none]) cx dX6_rowOf_145 (by decide) rfl rfl ?_
                  refine g_iincN (L' := [some (vr (30, 0)), some (vi (nI v)), some (vi (nI i)), some (vi (nI (clr (rwS c v q).1 (nthB (rwS c v q).1 8 ((rwS c v q).2.1 / (rwS c v q).2.2.1) 0)))), some (vi (nI (nthB (rwS c v q).1 8 ((rwS c v q).2.1 / (rwS c v q).2.2.1) 0))), some (vi (nI (((rwS c v q).2.1) % ((rwS c v q).2.2.1)))), some (vi (nI (if 0 < c - 1 - q then (rwS c v q).2.2.1 / (c - 1 - q) else 1))), some (vi (nI (q + 1))), none]) cx dX6_rowOf_147 rfl (by decide) rfl rfl ?_
                  refine g_goto (tgt := 46) cx dX6_rowOf_150 (by decide) ?_
                  exact ih (q + 1) (by omega) (by omega)
              refine g_iconst (v := nI 0) cx dX6_rowOf_59 (by decide) ?_
              refine g_istore (L' := [some (vr (30, 0)), some (vi (nI v)), some (vi (nI i)), some (vi (nI ((rwS c v q).1))), some (vi (nI 0)), some (vi (nI ((rwS c v q).2.1))), some (vi (nI ((rwS c v q).2.2.1))), some (vi (nI q)), some (vi (nI (((rwS c v q).2.1) / ((rwS c v q).2.2.1))))]) cx dX6_rowOf_60 (by decide) rfl rfl ?_
              have lp3 : ∀ (fu : Nat) (who : Nat) (nth : Nat), 8 - who < fu → (who < 8) → (nth < 1000) → (nthB (rwS c v q).1 (8 - who) nth who = nthB (rwS c v q).1 8 ((rwS c v q).2.1 / (rwS c v q).2.2.1) 0) → Gk X mX6_rowOf idsA 62 [some (vr (30, 0)), some (vi (nI v)), some (vi (nI i)), some (vi (nI ((rwS c v q).1))), some (vi (nI who)), some (vi (nI ((rwS c v q).2.1))), some (vi (nI ((rwS c v q).2.2.1))), some (vi (nI q)), some (vi (nI nth))] [] D := by
                intro fu
                induction fu with
                | zero => intro who nth hfu; exact absurd hfu (Nat.not_lt_zero _)
                | succ fu ih =>
                  intro who nth hfu hw8 hn9 hW
                  refine g_iload_n cx dX6_rowOf_62 rfl ?_
                  refine g_iload cx dX6_rowOf_63 rfl ?_
                  refine g_fcallS (As := [vi (nI ((rwS c v q).1)), vi (nI who)]) (rest := []) cx knX6_has (m_has (v := (rwS c v q).1) (t := who) (hok.1) (by omega)) lmX6_199 nsX6_has rfl (by decide) (Nat.le_of_ble_eq_true rfl) rfl dX6_rowOf_65 ?_
                  refine g_if_eqB (tgt := 76) cx dX6_rowOf_68 (by decide) (fun h_68 => ?_) (fun h_68 => ?_)
                  · skip
                    have hnc : ¬ ((rwS c v q).1.testBit who = true ∧ nth = 0) := fun e => h_68 e.1
                    refine g_iload cx dX6_rowOf_76 rfl ?_
                    refine g_iload_n cx dX6_rowOf_78 rfl ?_
                    refine g_iload cx dX6_rowOf_79 rfl ?_
                    refine g_fcallS (As := [vi (nI ((rwS c v q).1)), vi (nI who)]) (rest := [vi (nI nth)]) cx knX6_has (m_has (v := (rwS c v q).1) (t := who) (hok.1) (by omega)) lmX6_199 nsX6_has rfl (by decide) (Nat.le_of_ble_eq_true rfl) rfl dX6_rowOf_81 ?_
                    refine g_if_eqB (tgt := 91) cx dX6_rowOf_84 (by decide) (fun h_84 => ?_) (fun h_84 => ?_)
                    · skip
                      refine g_iconst (v := nI 0) cx dX6_rowOf_91 (by decide) ?_
                      refine g_top (y := nI (if (rwS c v q).1.testBit who then 1 else 0)) (by rw [if_neg h_84]) ?_
                      refine g_isubN cx dX6_rowOf_92 (dec_ok hnc) ?_
                      refine g_istore (L' := [some (vr (30, 0)), some (vi (nI v)), some (vi (nI i)), some (vi (nI ((rwS c v q).1))), some (vi (nI who)), some (vi (nI ((rwS c v q).2.1))), some (vi (nI ((rwS c v q).2.2.1))), some (vi (nI q)), some (vi (nI (nth - (if (rwS c v q).1.testBit who then 1 else 0))))]) cx dX6_rowOf_93 (by decide) rfl rfl ?_
                      refine g_iincN (L' := [some (vr (30, 0)), some (vi (nI v)), some (vi (nI i)), some (vi (nI ((rwS c v q).1))), some (vi (nI (who + 1))), some (vi (nI ((rwS c v q).2.1))), some (vi (nI ((rwS c v q).2.2.1))), some (vi (nI q)), some (vi (nI (nth - (if (rwS c v q).1.testBit who then 1 else 0))))]) cx dX6_rowOf_95 rfl (by decide) rfl rfl ?_
                      refine g_goto (tgt := 62) cx dX6_rowOf_98 (by decide) ?_
                      have hW3 : nthB (rwS c v q).1 (8 - (who + 1)) (nth - (if (rwS c v q).1.testBit who then 1 else 0)) (who + 1) = nthB (rwS c v q).1 8 ((rwS c v q).2.1 / (rwS c v q).2.2.1) 0 := by
                        rw [← hW, show 8 - who = (8 - (who + 1)) + 1 from by omega, nthB, if_neg hnc]
                      have hw9 : who + 1 < 8 := by
                        rcases Nat.lt_or_ge (who + 1) 8 with h9 | h9
                        · exact h9
                        · rw [show 8 - (who + 1) = 0 from by omega, nthB] at hW3
                          have := hok.2.2.2.2
                          omega
                      exact ih (who + 1) (nth - (if (rwS c v q).1.testBit who then 1 else 0)) (by omega) hw9 (by omega) hW3
                    · skip
                      refine g_iconst (v := nI 1) cx dX6_rowOf_87 (by decide) ?_
                      refine g_goto (tgt := 92) cx dX6_rowOf_88 (by decide) ?_
                      refine g_top (y := nI (if (rwS c v q).1.testBit who then 1 else 0)) (by rw [if_pos h_84]) ?_
                      refine g_isubN cx dX6_rowOf_92 (dec_ok hnc) ?_
                      refine g_istore (L' := [some (vr (30, 0)), some (vi (nI v)), some (vi (nI i)), some (vi (nI ((rwS c v q).1))), some (vi (nI who)), some (vi (nI ((rwS c v q).2.1))), some (vi (nI ((rwS c v q).2.2.1))), some (vi (nI q)), some (vi (nI (nth - (if (rwS c v q).1.testBit who then 1 else 0))))]) cx dX6_rowOf_93 (by decide) rfl rfl ?_
                      refine g_iincN (L' := [some (vr (30, 0)), some (vi (nI v)), some (vi (nI i)), some (vi (nI ((rwS c v q).1))), some (vi (nI (who + 1))), some (vi (nI ((rwS c v q).2.1))), some (vi (nI ((rwS c v q).2.2.1))), some (vi (nI q)), some (vi (nI (nth - (if (rwS c v q).1.testBit who then 1 else 0))))]) cx dX6_rowOf_95 rfl (by decide) rfl rfl ?_
                      refine g_goto (tgt := 62) cx dX6_rowOf_98 (by decide) ?_
                      have hW3 : nthB (rwS c v q).1 (8 - (who + 1)) (nth - (if (rwS c v q).1.testBit who then 1 else 0)) (who + 1) = nthB (rwS c v q).1 8 ((rwS c v q).2.1 / (rwS c v q).2.2.1) 0 := by
                        rw [← hW, show 8 - who = (8 - (who + 1)) + 1 from by omega, nthB, if_neg hnc]
                      have hw9 : who + 1 < 8 := by
                        rcases Nat.lt_or_ge (who + 1) 8 with h9 | h9
                        · exact h9
                        · rw [show 8 - (who + 1) = 0 from by omega, nthB] at hW3
                          have := hok.2.2.2.2
                          omega
                      exact ih (who + 1) (nth - (if (rwS c v q).1.testBit who then 1 else 0)) (by omega) hw9 (by omega) hW3
                  · skip
                    refine g_iload cx dX6_rowOf_71 rfl ?_
                    refine g_if_leN (tgt := 101) cx dX6_rowOf_73 (by decide) (by omega) (fun h_73 => ?_) (fun h_73 => ?_)
                    · skip
                      have hW2 : who = nthB (rwS c v q).1 8 ((rwS c v q).2.1 / (rwS c v q).2.2.1) 0 := by
                        rw [← hW, show 8 - who = (7 - who) + 1 from by omega, nthB, if_pos ⟨h_68, h_73⟩]
                      refine g_drop 8 (L' := [some (vr (30, 0)), some (vi (nI v)), some (vi (nI i)), some (vi (nI ((rwS c v q).1))), some (vi (nI who)), some (vi (nI ((rwS c v q).2.1))), some (vi (nI ((rwS c v q).2.2.1))), some (vi (nI q)), none]) rfl ?_
                      refine g_loc (L' := [some (vr (30, 0)), some (vi (nI v)), some (vi (nI i)), some (vi (nI ((rwS c v q).1))), some (vi (nI (nthB (rwS c v q).1 8 ((rwS c v q).2.1 / (rwS c v q).2.2.1) 0))), some (vi (nI ((rwS c v q).2.1))), some (vi (nI ((rwS c v q).2.2.1))), some (vi (nI q)), none]) (by rw [hW2]) ?_
                      exact jn
                    · skip
                      have hnc : ¬ ((rwS c v q).1.testBit who = true ∧ nth = 0) := fun e => absurd e.2 (by omega)
                      refine g_iload cx dX6_rowOf_76 rfl ?_
                      refine g_iload_n cx dX6_rowOf_78 rfl ?_
                      refine g_iload cx dX6_rowOf_79 rfl ?_
                      refine g_fcallS (As := [vi (nI ((rwS c v q).1)), vi (nI who)]) (rest := [vi (nI nth)]) cx knX6_has (m_has (v := (rwS c v q).1) (t := who) (hok.1) (by omega)) lmX6_199 nsX6_has rfl (by decide) (Nat.le_of_ble_eq_true rfl) rfl dX6_rowOf_81 ?_
                      refine g_if_eqB (tgt := 91) cx dX6_rowOf_84 (by decide) (fun h_84 => ?_) (fun h_84 => ?_)
                      · skip
                        refine g_iconst (v := nI 0) cx dX6_rowOf_91 (by decide) ?_
                        refine g_top (y := nI (if (rwS c v q).1.testBit who then 1 else 0)) (by rw [if_neg h_84]) ?_
                        refine g_isubN cx dX6_rowOf_92 (dec_ok hnc) ?_
                        refine g_istore (L' := [some (vr (30, 0)), some (vi (nI v)), some (vi (nI i)), some (vi (nI ((rwS c v q).1))), some (vi (nI who)), some (vi (nI ((rwS c v q).2.1))), some (vi (nI ((rwS c v q).2.2.1))), some (vi (nI q)), some (vi (nI (nth - (if (rwS c v q).1.testBit who then 1 else 0))))]) cx dX6_rowOf_93 (by decide) rfl rfl ?_
                        refine g_iincN (L' := [some (vr (30, 0)), some (vi (nI v)), some (vi (nI i)), some (vi (nI ((rwS c v q).1))), some (vi (nI (who + 1))), some (vi (nI ((rwS c v q).2.1))), some (vi (nI ((rwS c v q).2.2.1))), some (vi (nI q)), some (vi (nI (nth - (if (rwS c v q).1.testBit who then 1 else 0))))]) cx dX6_rowOf_95 rfl (by decide) rfl rfl ?_
                        refine g_goto (tgt := 62) cx dX6_rowOf_98 (by decide) ?_
                        have hW3 : nthB (rwS c v q).1 (8 - (who + 1)) (nth - (if (rwS c v q).1.testBit who then 1 else 0)) (who + 1) = nthB (rwS c v q).1 8 ((rwS c v q).2.1 / (rwS c v q).2.2.1) 0 := by
                          rw [← hW, show 8 - who = (8 - (who + 1)) + 1 from by omega, nthB, if_neg hnc]
                        have hw9 : who + 1 < 8 := by
                          rcases Nat.lt_or_ge (who + 1) 8 with h9 | h9
                          · exact h9
                          · rw [show 8 - (who + 1) = 0 from by omega, nthB] at hW3
                            have := hok.2.2.2.2
                            omega
                        exact ih (who + 1) (nth - (if (rwS c v q).1.testBit who then 1 else 0)) (by omega) hw9 (by omega) hW3
                      · skip
                        refine g_iconst (v := nI 1) cx dX6_rowOf_87 (by decide) ?_
                        refine g_goto (tgt := 92) cx dX6_rowOf_88 (by decide) ?_
                        refine g_top (y := nI (if (rwS c v q).1.testBit who then 1 else 0)) (by rw [if_pos h_84]) ?_
                        refine g_isubN cx dX6_rowOf_92 (dec_ok hnc) ?_
                        refine g_istore (L' := [some (vr (30, 0)), some (vi (nI v)), some (vi (nI i)), some (vi (nI ((rwS c v q).1))), some (vi (nI who)), some (vi (nI ((rwS c v q).2.1))), some (vi (nI ((rwS c v q).2.2.1))), some (vi (nI q)), some (vi (nI (nth - (if (rwS c v q).1.testBit who then 1 else 0))))]) cx dX6_rowOf_93 (by decide) rfl rfl ?_
                        refine g_iincN (L' := [some (vr (30, 0)), some (vi (nI v)), some (vi (nI i)), some (vi (nI ((rwS c v q).1))), some (vi (nI (who + 1))), some (vi (nI ((rwS c v q).2.1))), some (vi (nI ((rwS c v q).2.2.1))), some (vi (nI q)), some (vi (nI (nth - (if (rwS c v q).1.testBit who then 1 else 0))))]) cx dX6_rowOf_95 rfl (by decide) rfl rfl ?_
                        refine g_goto (tgt := 62) cx dX6_rowOf_98 (by decide) ?_
                        have hW3 : nthB (rwS c v q).1 (8 - (who + 1)) (nth - (if (rwS c v q).1.testBit who then 1 else 0)) (who + 1) = nthB (rwS c v q).1 8 ((rwS c v q).2.1 / (rwS c v q).2.2.1) 0 := by
                          rw [← hW, show 8 - who = (8 - (who + 1)) + 1 from by omega, nthB, if_neg hnc]
                        have hw9 : who + 1 < 8 := by
                          rcases Nat.lt_or_ge (who + 1) 8 with h9 | h9
                          · exact h9
                          · rw [show 8 - (who + 1) = 0 from by omega, nthB] at hW3
                            have := hok.2.2.2.2
                            omega
                        exact ih (who + 1) (nth - (if (rwS c v q).1.testBit who then 1 else 0)) (by omega) hw9 (by omega) hW3
              exact lp3 9 0 (((rwS c v q).2.1) / ((rwS c v q).2.2.1)) (by omega) (by omega) hdv rfl
        exact lp2 (i + 2) 0 (by omega) (by omega)
      · skip
        refine g_iload cx dX6_rowOf_30 rfl ?_
        refine g_iload cx dX6_rowOf_32 rfl ?_
        refine g_imulN cx dX6_rowOf_34 ?_
        refine g_top (y := nI (fct ((u + 1) - 1))) (by obtain ⟨z, rfl⟩ : ∃ z, u = z + 1 := ⟨u - 1, by omega⟩; congr 1; rw [Nat.mul_comm]; rfl) ?_
        refine g_istore (L' := [some (vr (30, 0)), some (vi (nI v)), some (vi (nI i)), some (vi (nI (2 ^ c - 1))), some (vi (-1)), some (vi (nI v)), some (vi (nI (fct ((u + 1) - 1)))), some (vi (nI u)), none]) cx dX6_rowOf_35 (by decide) rfl rfl ?_
        refine g_iincN (L' := [some (vr (30, 0)), some (vi (nI v)), some (vi (nI i)), some (vi (nI (2 ^ c - 1))), some (vi (-1)), some (vi (nI v)), some (vi (nI (fct ((u + 1) - 1)))), some (vi (nI (u + 1))), none]) cx dX6_rowOf_37 rfl (by decide) rfl rfl ?_
        refine g_goto (tgt := 21) cx dX6_rowOf_40 (by decide) ?_
        exact ih (u + 1) (by omega) (by omega) (by omega) (by omega)
  exact lp1 (c + 1) 2 (by omega) (by omega) (by omega) (by omega)
