theorem allB_sub {p : Nat → Bool} {q m : Nat} (h : q ≤ m) (ha : allB p m = true) : allB p q = true := by
  induction m with
  | zero => rw [show q = 0 from by omega]; rfl
  | succ m ih =>
    by_cases e : q = m + 1
    · rw [e]; exact ha
    · exact ih (by omega) (Bool.and_eq_true_iff.mp ha).1
theorem isW_sub {t : Nat → Nat} {p e : Nat} {wb : Nat → Nat} {L q : Nat} (h : q ≤ L) (hw : isW t p e wb L = true) : (decide (e - p = L) && allB (fun z => decide (t (p + z) = wb z)) q) = true := by
  obtain ⟨h1, h2⟩ := Bool.and_eq_true_iff.mp hw
  exact Bool.and_eq_true_iff.mpr ⟨h1, allB_sub h h2⟩
set_option maxRecDepth 100000 in
set_option maxHeartbeats 4000000 in
theorem m_sort {D : Wd} {c : Nat} (hc : c < 256) : Fok mX6_sort idsA 0 [vi (nI c)] D (some (vi (nI (srt c)))) D := by
  refine Mok.of (L := [some (vi (nI c))]) rfl (fun _ => Nat.le_of_ble_eq_true rfl) (fun _ => rfl) (fun X cx rq => ?_)
  refine g_iload_n cx dX6_sort_0 rfl ?_
  refine g_bipush (v := nI 97) cx dX6_sort_1 (by decide) ?_
  refine g_icmp_ltN (tgt := 16) cx dX6_sort_3 (by decide) (by omega) (by omega) (fun h_3 => ?_) (fun h_3 => ?_)
  · skip
    refine g_iload_n cx dX6_sort_16 rfl ?_
    refine g_bipush (v := nI 48) cx dX6_sort_17 (by decide) ?_
    refine g_icmp_ltN (tgt := 32) cx dX6_sort_19 (by decide) (by omega) (by omega) (fun h_19 => ?_) (fun h_19 => ?_)
    · skip
      refine g_iconst (v := nI 0) cx dX6_sort_32 (by decide) ?_
      exact g_fret cx rq rfl (rfl) dX6_sort_33 (by rw [srt, if_neg (by omega), if_neg (by omega)]) (rfl)
    · skip
      refine g_iload_n cx dX6_sort_22 rfl ?_
      refine g_bipush (v := nI 57) cx dX6_sort_23 (by decide) ?_
      refine g_icmp_gtN (tgt := 32) cx dX6_sort_25 (by decide) (by omega) (by omega) (fun h_25 => ?_) (fun h_25 => ?_)
      · skip
        refine g_iconst (v := nI 0) cx dX6_sort_32 (by decide) ?_
        exact g_fret cx rq rfl (rfl) dX6_sort_33 (by rw [srt, if_neg (by omega), if_neg (by omega)]) (rfl)
      · skip
        refine g_iconst (v := nI 2) cx dX6_sort_28 (by decide) ?_
        refine g_goto (tgt := 33) cx dX6_sort_29 (by decide) ?_
        exact g_fret cx rq rfl (rfl) dX6_sort_33 (by rw [srt, if_neg (by omega), if_pos ⟨h_19, h_25⟩]) (rfl)
  · skip
    refine g_iload_n cx dX6_sort_6 rfl ?_
    refine g_bipush (v := nI 122) cx dX6_sort_7 (by decide) ?_
    refine g_icmp_gtN (tgt := 16) cx dX6_sort_9 (by decide) (by omega) (by omega) (fun h_9 => ?_) (fun h_9 => ?_)
    · skip
      refine g_iload_n cx dX6_sort_16 rfl ?_
      refine g_bipush (v := nI 48) cx dX6_sort_17 (by decide) ?_
      refine g_icmp_ltN (tgt := 32) cx dX6_sort_19 (by decide) (by omega) (by omega) (fun h_19 => ?_) (fun h_19 => ?_)
      · skip
        refine g_iconst (v := nI 0) cx dX6_sort_32 (by decide) ?_
        exact g_fret cx rq rfl (rfl) dX6_sort_33 (by rw [srt, if_neg (by omega), if_neg (by omega)]) (rfl)
      · skip
        refine g_iload_n cx dX6_sort_22 rfl ?_
        refine g_bipush (v := nI 57) cx dX6_sort_23 (by decide) ?_
        refine g_icmp_gtN (tgt := 32) cx dX6_sort_25 (by decide) (by omega) (by omega) (fun h_25 => ?_) (fun h_25 => ?_)
        · skip
          refine g_iconst (v := nI 0) cx dX6_sort_32 (by decide) ?_
          exact g_fret cx rq rfl (rfl) dX6_sort_33 (by rw [srt, if_neg (by omega), if_neg (by omega)]) (rfl)
        · skip
          refine g_iconst (v := nI 2) cx dX6_sort_28 (by decide) ?_
          refine g_goto (tgt := 33) cx dX6_sort_29 (by decide) ?_
          exact g_fret cx rq rfl (rfl) dX6_sort_33 (by rw [srt, if_neg (by omega), if_pos ⟨h_19, h_25⟩]) (rfl)
    · skip
      refine g_iconst (v := nI 1) cx dX6_sort_12 (by decide) ?_
      refine g_goto (tgt := 33) cx dX6_sort_13 (by decide) ?_
      exact g_fret cx rq rfl (rfl) dX6_sort_33 (by rw [srt, if_pos ⟨h_3, h_9⟩]) (rfl)

set_option maxRecDepth 100000 in
set_option maxHeartbeats 4000000 in
theorem m_token {D : Wd} {t : Nat → Nat} {len p0 : Nat} (hX : TXm D t len) (h12 : D (30, 0) 12 = nI p0) (hp0 : p0 ≤ len) : Fok mX6_token idsA 1 [vr (30, 0)] D none (PS D (tkP t len p0) (tkE t len (tkP t len p0))) := by
  have hl2 := hX.2.1
  refine Mok.of (L := [some (vr (30, 0))]) rfl (fun _ => Nat.le_of_ble_eq_true rfl) (fun _ => rfl) (fun X cx rq => ?_)
  have jn : ∀ (P : Nat), (P ≤ len) → (P = tkP t len p0) → Gk X mX6_token idsA 38 [some (vr (30, 0))] [] (AtW D P) := by
    intro P hP hmP
    refine g_aload_n cx dX6_token_38 rfl ?_
    refine g_aload_n cx dX6_token_39 rfl ?_
    refine g_getIN (i := (30, 0)) (ci := 6) (k := 12) (v := nI P) cx a30_0 rfl rfl rfl (by decide) inX6 lfX6_69 dX6_token_40 (by rw [AtW, upA_s]; rfl) ?_
    refine g_putI (i := (30, 0)) (ci := 6) (k := 13) cx a30_0 rfl rfl rfl (by decide) inX6 tyX6_ok nmX6 rfl rfl lfX6_72 dX6_token_43 ?_
    refine g_wd (D' := PlW D P P) (AtW.pl D P) ?_
    refine g_aload_n cx dX6_token_46 rfl ?_
    refine g_dup cx dX6_token_47 rfl ?_
    refine g_getIN (i := (30, 0)) (ci := 6) (k := 12) (v := nI P) cx a30_0 rfl rfl rfl (by decide) inX6 lfX6_69 dX6_token_48 (by rw [PlW, upA_s]; rfl) ?_
    refine g_aload_n cx dX6_token_51 rfl ?_
    refine g_getIN (i := (30, 0)) (ci := 6) (k := 12) (v := nI P) cx a30_0 rfl rfl rfl (by decide) inX6 lfX6_69 dX6_token_52 (by rw [PlW, upA_s]; rfl) ?_
    refine g_aload_n cx dX6_token_55 rfl ?_
    refine g_getIN (i := (30, 0)) (ci := 6) (k := 3) (v := nI len) cx a30_0 rfl rfl rfl (by decide) inX6 lfX6_64 dX6_token_56 (by rw [PlW, upA_s]; exact hX.1) ?_
    refine g_icmp_geN (tgt := 66) cx dX6_token_59 (by decide) (by omega) (by omega) (fun h_59 => ?_) (fun h_59 => ?_)
    · skip
      refine g_iconst (v := nI 0) cx dX6_token_66 (by decide) ?_
      refine g_iaddN cx dX6_token_67 ?_
      refine g_putI (i := (30, 0)) (ci := 6) (k := 12) cx a30_0 rfl rfl rfl (by decide) inX6 tyX6_ok nmX6 rfl rfl lfX6_69 dX6_token_68 ?_
      refine g_wd (D' := PlW D P P) (PlW.s D P P _) ?_
      have lp2 : ∀ (fu : Nat) (q : Nat), len - q < fu → (q ≤ len) → (P ≤ q) → (q < len → P < len) → ((if P < len then rnE t (srt (t P)) (len - q) q else q) = tkE t len P) → Gk X mX6_token idsA 71 [some (vr (30, 0))] [] (PlW D P q) := by
        intro fu
        induction fu with
        | zero => intro q hfu; exact absurd hfu (Nat.not_lt_zero _)
        | succ fu ih =>
          intro q hfu hq hPq hPl hm5
          refine g_aload_n cx dX6_token_71 rfl ?_
          refine g_getIN (i := (30, 0)) (ci := 6) (k := 12) (v := nI q) cx a30_0 rfl rfl rfl (by decide) inX6 lfX6_69 dX6_token_72 (by rw [PlW, upA_s]; rfl) ?_
          refine g_aload_n cx dX6_token_75 rfl ?_
          refine g_getIN (i := (30, 0)) (ci := 6) (k := 3) (v := nI len) cx a30_0 rfl rfl rfl (by decide) inX6 lfX6_64 dX6_token_76 (by rw [PlW, upA_s]; exact hX.1) ?_
          refine g_icmp_geN (tgt := 137) cx dX6_token_79 (by decide) (by omega) (by omega) (fun h_79 => ?_) (fun h_79 => ?_)
          · skip
            have hqe : q = tkE t len P := by
              rw [← hm5]
              by_cases e9 : P < len
              · rw [if_pos e9, show len - q = 0 from by omega]; rfl
              · rw [if_neg e9]
            refine g_aload_n cx dX6_token_137 rfl ?_
            refine g_aload_n cx dX6_token_138 rfl ?_
            refine g_getIN (i := (30, 0)) (ci := 6) (k := 12) (v := nI q) cx a30_0 rfl rfl rfl (by decide) inX6 lfX6_69 dX6_token_139 (by rw [PlW, upA_s]; rfl) ?_
            refine g_putI (i := (30, 0)) (ci := 6) (k := 14) cx a30_0 rfl rfl rfl (by decide) inX6 tyX6_ok nmX6 rfl rfl lfX6_79 dX6_token_142 ?_
            refine g_wd (D' := PS D P q) (PlW.e D P q) ?_
            exact g_fvret cx rq rfl dX6_token_145 rfl (by rw [hqe, hmP])
          · skip
            have hPl2 := hPl h_79
            have hm8 := hm5
            rw [if_pos hPl2, show len - q = (len - (q + 1)) + 1 from by omega, rnE] at hm8
            have hs1 := srt_le (t P)
            have hs2 := srt_le (t q)
            refine g_aload_n cx dX6_token_82 rfl ?_
            refine g_getR (i := (30, 0)) (ci := 6) (k := 2) (j := (33, 0)) cx a30_0 rfl rfl rfl (by decide) inX6 lfX6_17 dX6_token_83 ?_
            refine g_aload_n cx dX6_token_86 rfl ?_
            refine g_getIN (i := (30, 0)) (ci := 6) (k := 13) (v := nI P) cx a30_0 rfl rfl rfl (by decide) inX6 lfX6_72 dX6_token_87 (by rw [PlW, upA_s]; rfl) ?_
            refine g_ialdN (i := (33, 0)) (j := P) (v := nI (t P)) cx a33_0 rfl (rfl) (by omega) (by decide) dX6_token_90 (by rw [PlW, upA_n _ _ (by decide)]; exact (hX.2.2 _ (by omega)).1) ?_
            refine g_fcallS (As := [vi (nI (t P))]) (rest := []) cx knX6_sort (m_sort (c := t P) ((hX.2.2 _ (by omega)).2)) lmX6_75 nsX6_sort rfl (by decide) (Nat.le_of_ble_eq_true rfl) rfl dX6_token_91 ?_
            refine g_if_leN (tgt := 137) cx dX6_token_94 (by decide) (by omega) (fun h_94 => ?_) (fun h_94 => ?_)
            · skip
              have hqe : q = tkE t len P := by
                rw [if_neg (fun e9 => absurd e9.1 (by omega))] at hm8; exact hm8
              refine g_aload_n cx dX6_token_137 rfl ?_
              refine g_aload_n cx dX6_token_138 rfl ?_
              refine g_getIN (i := (30, 0)) (ci := 6) (k := 12) (v := nI q) cx a30_0 rfl rfl rfl (by decide) inX6 lfX6_69 dX6_token_139 (by rw [PlW, upA_s]; rfl) ?_
              refine g_putI (i := (30, 0)) (ci := 6) (k := 14) cx a30_0 rfl rfl rfl (by decide) inX6 tyX6_ok nmX6 rfl rfl lfX6_79 dX6_token_142 ?_
              refine g_wd (D' := PS D P q) (PlW.e D P q) ?_
              exact g_fvret cx rq rfl dX6_token_145 rfl (by rw [hqe, hmP])
            · skip
              refine g_aload_n cx dX6_token_97 rfl ?_
              refine g_getR (i := (30, 0)) (ci := 6) (k := 2) (j := (33, 0)) cx a30_0 rfl rfl rfl (by decide) inX6 lfX6_17 dX6_token_98 ?_
              refine g_aload_n cx dX6_token_101 rfl ?_
              refine g_getIN (i := (30, 0)) (ci := 6) (k := 12) (v := nI q) cx a30_0 rfl rfl rfl (by decide) inX6 lfX6_69 dX6_token_102 (by rw [PlW, upA_s]; rfl) ?_
              refine g_ialdN (i := (33, 0)) (j := q) (v := nI (t q)) cx a33_0 rfl (rfl) (by omega) (by decide) dX6_token_105 (by rw [PlW, upA_n _ _ (by decide)]; exact (hX.2.2 _ (by omega)).1) ?_
              refine g_fcallS (As := [vi (nI (t q))]) (rest := []) cx knX6_sort (m_sort (c := t q) ((hX.2.2 _ (by omega)).2)) lmX6_75 nsX6_sort rfl (by decide) (Nat.le_of_ble_eq_true rfl) rfl dX6_token_106 ?_
              refine g_aload_n cx dX6_token_109 rfl ?_
              refine g_getR (i := (30, 0)) (ci := 6) (k := 2) (j := (33, 0)) cx a30_0 rfl rfl rfl (by decide) inX6 lfX6_17 dX6_token_110 ?_
              refine g_aload_n cx dX6_token_113 rfl ?_
              refine g_getIN (i := (30, 0)) (ci := 6) (k := 13) (v := nI P) cx a30_0 rfl rfl rfl (by decide) inX6 lfX6_72 dX6_token_114 (by rw [PlW, upA_s]; rfl) ?_
              refine g_ialdN (i := (33, 0)) (j := P) (v := nI (t P)) cx a33_0 rfl (rfl) (by omega) (by decide) dX6_token_117 (by rw [PlW, upA_n _ _ (by decide)]; exact (hX.2.2 _ (by omega)).1) ?_
              refine g_fcallS (As := [vi (nI (t P))]) (rest := [vi (nI (srt (t q)))]) cx knX6_sort (m_sort (c := t P) ((hX.2.2 _ (by omega)).2)) lmX6_75 nsX6_sort rfl (by decide) (Nat.le_of_ble_eq_true rfl) rfl dX6_token_118 ?_
              refine g_icmp_neN (tgt := 137) cx dX6_token_121 (by decide) (by omega) (by omega) (fun h_121 => ?_) (fun h_121 => ?_)
              · skip
                have hqe : q = tkE t len P := by
                  rw [if_neg (fun e9 => h_121 e9.2)] at hm8; exact hm8
                refine g_aload_n cx dX6_token_137 rfl ?_
                refine g_aload_n cx dX6_token_138 rfl ?_
                refine g_getIN (i := (30, 0)) (ci := 6) (k := 12) (v := nI q) cx a30_0 rfl rfl rfl (by decide) inX6 lfX6_69 dX6_token_139 (by rw [PlW, upA_s]; rfl) ?_
                refine g_putI (i := (30, 0)) (ci := 6) (k := 14) cx a30_0 rfl rfl rfl (by decide) inX6 tyX6_ok nmX6 rfl rfl lfX6_79 dX6_token_142 ?_
                refine g_wd (D' := PS D P q) (PlW.e D P q) ?_
                exact g_fvret cx rq rfl dX6_token_145 rfl (by rw [hqe, hmP])
              · skip
                have hm6 : (if P < len then rnE t (srt (t P)) (len - (q + 1)) (q + 1) else q + 1) = tkE t len P := by
                  rw [if_pos ⟨h_94, h_121⟩] at hm8; rw [if_pos hPl2]; exact hm8
                refine g_aload_n cx dX6_token_124 rfl ?_
                refine g_dup cx dX6_token_125 rfl ?_
                refine g_getIN (i := (30, 0)) (ci := 6) (k := 12) (v := nI q) cx a30_0 rfl rfl rfl (by decide) inX6 lfX6_69 dX6_token_126 (by rw [PlW, upA_s]; rfl) ?_
                refine g_iconst (v := nI 1) cx dX6_token_129 (by decide) ?_
                refine g_iaddN cx dX6_token_130 ?_
                refine g_putI (i := (30, 0)) (ci := 6) (k := 12) cx a30_0 rfl rfl rfl (by decide) inX6 tyX6_ok nmX6 rfl rfl lfX6_69 dX6_token_131 ?_
                refine g_wd (D' := PlW D P (q + 1)) (PlW.s D P q (q + 1)) ?_
                refine g_goto (tgt := 71) cx dX6_token_134 (by decide) ?_
                exact ih (q + 1) (by omega) (by omega) (by omega) (by omega) hm6
      exact lp2 (len + 1) P (by omega) (by omega) (by omega) (by omega) (by first | (rw [tkE, if_neg (by omega), if_neg (by omega)]; done) | (rw [tkE, if_pos (by omega), if_pos (by omega)]; done))
    · skip
      refine g_iconst (v := nI 1) cx dX6_token_62 (by decide) ?_
      refine g_goto (tgt := 67) cx dX6_token_63 (by decide) ?_
      refine g_iaddN cx dX6_token_67 ?_
      refine g_putI (i := (30, 0)) (ci := 6) (k := 12) cx a30_0 rfl rfl rfl (by decide) inX6 tyX6_ok nmX6 rfl rfl lfX6_69 dX6_token_68 ?_
      refine g_wd (D' := PlW D P (P + 1)) (PlW.s D P P _) ?_
      have lp2 : ∀ (fu : Nat) (q : Nat), len - q < fu → (q ≤ len) → (P ≤ q) → (q < len → P < len) → ((if P < len then rnE t (srt (t P)) (len - q) q else q) = tkE t len P) → Gk X mX6_token idsA 71 [some (vr (30, 0))] [] (PlW D P q) := by
        intro fu
        induction fu with
        | zero => intro q hfu; exact absurd hfu (Nat.not_lt_zero _)
        | succ fu ih =>
          intro q hfu hq hPq hPl hm5
          refine g_aload_n cx dX6_token_71 rfl ?_
          refine g_getIN (i := (30, 0)) (ci := 6) (k := 12) (v := nI q) cx a30_0 rfl rfl rfl (by decide) inX6 lfX6_69 dX6_token_72 (by rw [PlW, upA_s]; rfl) ?_
          refine g_aload_n cx dX6_token_75 rfl ?_
          refine g_getIN (i := (30, 0)) (ci := 6) (k := 3) (v := nI len) cx a30_0 rfl rfl rfl (by decide) inX6 lfX6_64 dX6_token_76 (by rw [PlW, upA_s]; exact hX.1) ?_
          refine g_icmp_geN (tgt := 137) cx dX6_token_79 (by decide) (by omega) (by omega) (fun h_79 => ?_) (fun h_79 => ?_)
          · skip
            have hqe : q = tkE t len P := by
              rw [← hm5]
              by_cases e9 : P < len
              · rw [if_pos e9, show len - q = 0 from by omega]; rfl
              · rw [if_neg e9]
            refine g_aload_n cx dX6_token_137 rfl ?_
            refine g_aload_n cx dX6_token_138 rfl ?_
            refine g_getIN (i := (30, 0)) (ci := 6) (k := 12) (v := nI q) cx a30_0 rfl rfl rfl (by decide) inX6 lfX6_69 dX6_token_139 (by rw [PlW, upA_s]; rfl) ?_
            refine g_putI (i := (30, 0)) (ci := 6) (k := 14) cx a30_0 rfl rfl rfl (by decide) inX6 tyX6_ok nmX6 rfl rfl lfX6_79 dX6_token_142 ?_
            refine g_wd (D' := PS D P q) (PlW.e D P q) ?_
            exact g_fvret cx rq rfl dX6_token_145 rfl (by rw [hqe, hmP])
          · skip
            have hPl2 := hPl h_79
            have hm8 := hm5
            rw [if_pos hPl2, show len - q = (len - (q + 1)) + 1 from by omega, rnE] at hm8
            have hs1 := srt_le (t P)
            have hs2 := srt_le (t q)
            refine g_aload_n cx dX6_token_82 rfl ?_
            refine g_getR (i := (30, 0)) (ci := 6) (k := 2) (j := (33, 0)) cx a30_0 rfl rfl rfl (by decide) inX6 lfX6_17 dX6_token_83 ?_
            refine g_aload_n cx dX6_token_86 rfl ?_
            refine g_getIN (i := (30, 0)) (ci := 6) (k := 13) (v := nI P) cx a30_0 rfl rfl rfl (by decide) inX6 lfX6_72 dX6_token_87 (by rw [PlW, upA_s]; rfl) ?_
            refine g_ialdN (i := (33, 0)) (j := P) (v := nI (t P)) cx a33_0 rfl (rfl) (by omega) (by decide) dX6_token_90 (by rw [PlW, upA_n _ _ (by decide)]; exact (hX.2.2 _ (by omega)).1) ?_
            refine g_fcallS (As := [vi (nI (t P))]) (rest := []) cx knX6_sort (m_sort (c := t P) ((hX.2.2 _ (by omega)).2)) lmX6_75 nsX6_sort rfl (by decide) (Nat.le_of_ble_eq_true rfl) rfl dX6_token_91 ?_
            refine g_if_leN (tgt := 137) cx dX6_token_94 (by decide) (by omega) (fun h_94 => ?_) (fun h_94 => ?_)
            · skip
              have hqe : q = tkE t len P := by
                rw [if_neg (fun e9 => absurd e9.1 (by omega))] at hm8; exact hm8
              refine g_aload_n cx dX6_token_137 rfl ?_
              refine g_aload_n cx dX6_token_138 rfl ?_
              refine g_getIN (i := (30, 0)) (ci := 6) (k := 12) (v := nI q) cx a30_0 rfl rfl rfl (by decide) inX6 lfX6_69 dX6_token_139 (by rw [PlW, upA_s]; rfl) ?_
              refine g_putI (i := (30, 0)) (ci := 6) (k := 14) cx a30_0 rfl rfl rfl (by decide) inX6 tyX6_ok nmX6 rfl rfl lfX6_79 dX6_token_142 ?_
              refine g_wd (D' := PS D P q) (PlW.e D P q) ?_
              exact g_fvret cx rq rfl dX6_token_145 rfl (by rw [hqe, hmP])
            · skip
              refine g_aload_n cx dX6_token_97 rfl ?_
              refine g_getR (i := (30, 0)) (ci := 6) (k := 2) (j := (33, 0)) cx a30_0 rfl rfl rfl (by decide) inX6 lfX6_17 dX6_token_98 ?_
              refine g_aload_n cx dX6_token_101 rfl ?_
              refine g_getIN (i := (30, 0)) (ci := 6) (k := 12) (v := nI q) cx a30_0 rfl rfl rfl (by decide) inX6 lfX6_69 dX6_token_102 (by rw [PlW, upA_s]; rfl) ?_
              refine g_ialdN (i := (33, 0)) (j := q) (v := nI (t q)) cx a33_0 rfl (rfl) (by omega) (by decide) dX6_token_105 (by rw [PlW, upA_n _ _ (by decide)]; exact (hX.2.2 _ (by omega)).1) ?_
              refine g_fcallS (As := [vi (nI (t q))]) (rest := []) cx knX6_sort (m_sort (c := t q) ((hX.2.2 _ (by omega)).2)) lmX6_75 nsX6_sort rfl (by decide) (Nat.le_of_ble_eq_true rfl) rfl dX6_token_106 ?_
              refine g_aload_n cx dX6_token_109 rfl ?_
              refine g_getR (i := (30, 0)) (ci := 6) (k := 2) (j := (33, 0)) cx a30_0 rfl rfl rfl (by decide) inX6 lfX6_17 dX6_token_110 ?_
              refine g_aload_n cx dX6_token_113 rfl ?_
              refine g_getIN (i := (30, 0)) (ci := 6) (k := 13) (v := nI P) cx a30_0 rfl rfl rfl (by decide) inX6 lfX6_72 dX6_token_114 (by rw [PlW, upA_s]; rfl) ?_
              refine g_ialdN (i := (33, 0)) (j := P) (v := nI (t P)) cx a33_0 rfl (rfl) (by omega) (by decide) dX6_token_117 (by rw [PlW, upA_n _ _ (by decide)]; exact (hX.2.2 _ (by omega)).1) ?_
              refine g_fcallS (As := [vi (nI (t P))]) (rest := [vi (nI (srt (t q)))]) cx knX6_sort (m_sort (c := t P) ((hX.2.2 _ (by omega)).2)) lmX6_75 nsX6_sort rfl (by decide) (Nat.le_of_ble_eq_true rfl) rfl dX6_token_118 ?_
              refine g_icmp_neN (tgt := 137) cx dX6_token_121 (by decide) (by omega) (by omega) (fun h_121 => ?_) (fun h_121 => ?_)
              · skip
                have hqe : q = tkE t len P := by
                  rw [if_neg (fun e9 => h_121 e9.2)] at hm8; exact hm8
                refine g_aload_n cx dX6_token_137 rfl ?_
                refine g_aload_n cx dX6_token_138 rfl ?_
                refine g_getIN (i := (30, 0)) (ci := 6) (k := 12) (v := nI q) cx a30_0 rfl rfl rfl (by decide) inX6 lfX6_69 dX6_token_139 (by rw [PlW, upA_s]; rfl) ?_
                refine g_putI (i := (30, 0)) (ci := 6) (k := 14) cx a30_0 rfl rfl rfl (by decide) inX6 tyX6_ok nmX6 rfl rfl lfX6_79 dX6_token_142 ?_
                refine g_wd (D' := PS D P q) (PlW.e D P q) ?_
                exact g_fvret cx rq rfl dX6_token_145 rfl (by rw [hqe, hmP])
              · skip
                have hm6 : (if P < len then rnE t (srt (t P)) (len - (q + 1)) (q + 1) else q + 1) = tkE t len P := by
                  rw [if_pos ⟨h_94, h_121⟩] at hm8; rw [if_pos hPl2]; exact hm8
                refine g_aload_n cx dX6_token_124 rfl ?_
                refine g_dup cx dX6_token_125 rfl ?_
                refine g_getIN (i := (30, 0)) (ci := 6) (k := 12) (v := nI q) cx a30_0 rfl rfl rfl (by decide) inX6 lfX6_69 dX6_token_126 (by rw [PlW, upA_s]; rfl) ?_
                refine g_iconst (v := nI 1) cx dX6_token_129 (by decide) ?_
                refine g_iaddN cx dX6_token_130 ?_
                refine g_putI (i := (30, 0)) (ci := 6) (k := 12) cx a30_0 rfl rfl rfl (by decide) inX6 tyX6_ok nmX6 rfl rfl lfX6_69 dX6_token_131 ?_
                refine g_wd (D' := PlW D P (q + 1)) (PlW.s D P q (q + 1)) ?_
                refine g_goto (tgt := 71) cx dX6_token_134 (by decide) ?_
                exact ih (q + 1) (by omega) (by omega) (by omega) (by omega) hm6
      exact lp2 (len + 1) (P + 1) (by omega) (by omega) (by omega) (by omega) (by first | (rw [tkE, if_neg (by omega), if_neg (by omega)]; done) | (rw [tkE, if_pos (by omega), if_pos (by omega)]; done))
  have lp1 : ∀ (fu : Nat) (p : Nat), len - p < fu → (p ≤ len) → (skB t (len - p) p = tkP t len p0) → Gk X mX6_token idsA 0 [some (vr (30, 0))] [] (AtW D p) := by
    intro fu
    induction fu with
    | zero => intro p hfu; exact absurd hfu (Nat.not_lt_zero _)
    | succ fu ih =>
      intro p hfu hp hm
      refine g_aload_n cx dX6_token_0 rfl ?_
      refine g_getIN (i := (30, 0)) (ci := 6) (k := 12) (v := nI p) cx a30_0 rfl rfl rfl (by decide) inX6 lfX6_69 dX6_token_1 (by rw [AtW, upA_s]; rfl) ?_
      refine g_aload_n cx dX6_token_4 rfl ?_
      refine g_getIN (i := (30, 0)) (ci := 6) (k := 3) (v := nI len) cx a30_0 rfl rfl rfl (by decide) inX6 lfX6_64 dX6_token_5 (by rw [AtW, upA_s]; exact hX.1) ?_
      refine g_icmp_geN (tgt := 38) cx dX6_token_8 (by decide) (by omega) (by omega) (fun h_8 => ?_) (fun h_8 => ?_)
      · skip
        have hm4 : p = tkP t len p0 := by
          rw [← hm, show len - p = 0 from by omega]; rfl
        exact jn p hp hm4
      · skip
        have hm7 := hm
        rw [show len - p = (len - (p + 1)) + 1 from by omega, skB] at hm7
        have htp := (hX.2.2 p (by omega)).2
        refine g_aload_n cx dX6_token_11 rfl ?_
        refine g_getR (i := (30, 0)) (ci := 6) (k := 2) (j := (33, 0)) cx a30_0 rfl rfl rfl (by decide) inX6 lfX6_17 dX6_token_12 ?_
        refine g_aload_n cx dX6_token_15 rfl ?_
        refine g_getIN (i := (30, 0)) (ci := 6) (k := 12) (v := nI p) cx a30_0 rfl rfl rfl (by decide) inX6 lfX6_69 dX6_token_16 (by rw [AtW, upA_s]; rfl) ?_
        refine g_ialdN (i := (33, 0)) (j := p) (v := nI (t p)) cx a33_0 rfl (rfl) (by omega) (by decide) dX6_token_19 (by rw [AtW, upA_n _ _ (by decide)]; exact (hX.2.2 _ (by omega)).1) ?_
        refine g_bipush (v := nI 32) cx dX6_token_20 (by decide) ?_
        refine g_icmp_neN (tgt := 38) cx dX6_token_22 (by decide) (by omega) (by omega) (fun h_22 => ?_) (fun h_22 => ?_)
        · skip
          have hm4 : p = tkP t len p0 := by
            rw [if_neg h_22] at hm7; exact hm7
          exact jn p hp hm4
        · skip
          have hm2 : skB t (len - (p + 1)) (p + 1) = tkP t len p0 := by
            rw [if_pos h_22] at hm7; exact hm7
          refine g_aload_n cx dX6_token_25 rfl ?_
          refine g_dup cx dX6_token_26 rfl ?_
          refine g_getIN (i := (30, 0)) (ci := 6) (k := 12) (v := nI p) cx a30_0 rfl rfl rfl (by decide) inX6 lfX6_69 dX6_token_27 (by rw [AtW, upA_s]; rfl) ?_
          refine g_iconst (v := nI 1) cx dX6_token_30 (by decide) ?_
          refine g_iaddN cx dX6_token_31 ?_
          refine g_putI (i := (30, 0)) (ci := 6) (k := 12) cx a30_0 rfl rfl rfl (by decide) inX6 tyX6_ok nmX6 rfl rfl lfX6_69 dX6_token_32 ?_
          refine g_wd (D' := AtW D (p + 1)) (AtW.s D p (p + 1)) ?_
          refine g_goto (tgt := 0) cx dX6_token_35 (by decide) ?_
          exact ih (p + 1) (by omega) (by omega) hm2
  refine g_wd (D' := AtW D p0) (AtW.z h12) ?_
  exact lp1 (len + 1) p0 (by omega) hp0 rfl

set_option maxRecDepth 100000 in
set_option maxHeartbeats 4000000 in
theorem m_isWord {D : Wd} {t : Nat → Nat} {len p e : Nat} (hX : TXm D t len) (h13 : D (30, 0) 13 = nI p) (h14 : D (30, 0) 14 = nI e) (hT : TK t len p e) (W : Int32) {L : Nat} {wb : Nat → Nat} (hL : L < 7) (hW : ∀ q, q < L → nI 96 + ((W >>> (nI (5 * q) &&& 31)) &&& nI 31) = nI (wb q) ∧ wb q < 256) : Fok mX6_isWord idsA 0 [vr (30, 0), vi W, vi (nI L)] D (some (vi (if isW t p e wb L = true then 1 else 0))) D := by
  have hl2 := hX.2.1
  have hT1 := hT.1
  have hT2 := hT.2.1
  refine Mok.of (L := [some (vr (30, 0)), some (vi W), some (vi (nI L)), none, none]) rfl (fun _ => Nat.le_of_ble_eq_true rfl) (fun _ => rfl) (fun X cx rq => ?_)
  refine g_aload_n cx dX6_isWord_0 rfl ?_
  refine g_getIN (i := (30, 0)) (ci := 6) (k := 14) (v := nI e) cx a30_0 rfl rfl rfl (by decide) inX6 lfX6_79 dX6_isWord_1 (h14) ?_
  refine g_aload_n cx dX6_isWord_4 rfl ?_
  refine g_getIN (i := (30, 0)) (ci := 6) (k := 13) (v := nI p) cx a30_0 rfl rfl rfl (by decide) inX6 lfX6_72 dX6_isWord_5 (h13) ?_
  refine g_isubN cx dX6_isWord_8 (by omega) ?_
  refine g_iload_n cx dX6_isWord_9 rfl ?_
  refine g_icmp_neN (tgt := 17) cx dX6_isWord_10 (by decide) (by omega) (by omega) (fun h_10 => ?_) (fun h_10 => ?_)
  · skip
    refine g_iconst (v := nI 0) cx dX6_isWord_17 (by decide) ?_
    refine g_istore_n (L' := [some (vr (30, 0)), some (vi W), some (vi (nI L)), some (vi (nI 0)), none]) cx dX6_isWord_18 (by decide) rfl rfl ?_
    refine g_iconst (v := nI 0) cx dX6_isWord_19 (by decide) ?_
    refine g_istore (L' := [some (vr (30, 0)), some (vi W), some (vi (nI L)), some (vi (nI 0)), some (vi (nI 0))]) cx dX6_isWord_20 (by decide) rfl rfl ?_
    refine g_loc (L' := [some (vr (30, 0)), some (vi W), some (vi (nI L)), some (vi (if (decide (e - p = L) && allB (fun z => decide (t (p + z) = wb z)) 0) = true then 1 else 0)), some (vi (nI 0))]) (by rw [bi_f (c := (decide (e - p = L) && allB (fun z => decide (t (p + z) = wb z)) 0) = true) (by simp [allB, h_10])]) ?_
    have lp : ∀ (fu : Nat) (q : Nat), L - q < fu → (q ≤ L) → Gk X mX6_isWord idsA 22 [some (vr (30, 0)), some (vi W), some (vi (nI L)), some (vi (if (decide (e - p = L) && allB (fun z => decide (t (p + z) = wb z)) q) = true then 1 else 0)), some (vi (nI q))] [] D := by
      intro fu
      induction fu with
      | zero => intro q hfu; exact absurd hfu (Nat.not_lt_zero _)
      | succ fu ih =>
        intro q hfu hq
        refine g_iload_n cx dX6_isWord_22 rfl ?_
        refine g_if_eqB (tgt := 71) cx dX6_isWord_23 (by decide) (fun h_23 => ?_) (fun h_23 => ?_)
        · skip
          refine g_iload_n cx dX6_isWord_71 rfl ?_
          exact g_fret cx rq rfl (bi_nar _) dX6_isWord_72 (congrArg (fun z => some (vi z)) (bi_iff ⟨fun h => absurd h h_23, fun h => absurd (isW_sub hq h) h_23⟩)) (rfl)
        · skip
          refine g_iload cx dX6_isWord_26 rfl ?_
          refine g_iload_n cx dX6_isWord_28 rfl ?_
          refine g_icmp_geN (tgt := 71) cx dX6_isWord_29 (by decide) (by omega) (by omega) (fun h_29 => ?_) (fun h_29 => ?_)
          · skip
            have e9 : q = L := by omega
            refine g_iload_n cx dX6_isWord_71 rfl ?_
            exact g_fret cx rq rfl (bi_nar _) dX6_isWord_72 (by rw [e9]; rfl) (rfl)
          · skip
            have hel : e - p = L := of_decide_eq_true (Bool.and_eq_true_iff.mp h_23).1
            have htq := (hX.2.2 (p + q) (by omega)).2
            have hwq := (hW q (by omega)).2
            refine g_aload_n cx dX6_isWord_32 rfl ?_
            refine g_getR (i := (30, 0)) (ci := 6) (k := 2) (j := (33, 0)) cx a30_0 rfl rfl rfl (by decide) inX6 lfX6_17 dX6_isWord_33 ?_
            refine g_aload_n cx dX6_isWord_36 rfl ?_
            refine g_getIN (i := (30, 0)) (ci := 6) (k := 13) (v := nI p) cx a30_0 rfl rfl rfl (by decide) inX6 lfX6_72 dX6_isWord_37 (h13) ?_
            refine g_iload cx dX6_isWord_40 rfl ?_
            refine g_iaddN cx dX6_isWord_42 ?_
            refine g_ialdN (i := (33, 0)) (j := p + q) (v := nI (t (p + q))) cx a33_0 rfl (rfl) (by omega) (by decide) dX6_isWord_43 ((hX.2.2 _ (by omega)).1) ?_
            refine g_bipush (v := nI 96) cx dX6_isWord_44 (by decide) ?_
            refine g_iload_n cx dX6_isWord_46 rfl ?_
            refine g_iconst (v := nI 5) cx dX6_isWord_47 (by decide) ?_
            refine g_iload cx dX6_isWord_48 rfl ?_
            refine g_imulN cx dX6_isWord_50 ?_
            refine g_ishr cx dX6_isWord_51 ?_
            refine g_bipush (v := nI 31) cx dX6_isWord_52 (by decide) ?_
            refine g_iand cx dX6_isWord_54 ?_
            refine g_iadd cx dX6_isWord_55 ?_
            refine g_top (hW q (by omega)).1 ?_
            refine g_icmp_neN (tgt := 63) cx dX6_isWord_56 (by decide) (by omega) (by omega) (fun h_56 => ?_) (fun h_56 => ?_)
            · skip
              refine g_iconst (v := nI 0) cx dX6_isWord_63 (by decide) ?_
              refine g_istore_n (L' := [some (vr (30, 0)), some (vi W), some (vi (nI L)), some (vi (nI 0)), some (vi (nI q))]) cx dX6_isWord_64 (by decide) rfl rfl ?_
              refine g_loc (L' := [some (vr (30, 0)), some (vi W), some (vi (nI L)), some (vi (if (decide (e - p = L) && allB (fun z => decide (t (p + z) = wb z)) (q + 1)) = true then 1 else 0)), some (vi (nI q))]) (by rw [bi_f (c := (decide (e - p = L) && allB (fun z => decide (t (p + z) = wb z)) (q + 1)) = true) (by rw [allB, ← Bool.and_assoc, h_23, Bool.true_and]; simpa using h_56)]) ?_
              refine g_iincN (L' := [some (vr (30, 0)), some (vi W), some (vi (nI L)), some (vi (if (decide (e - p = L) && allB (fun z => decide (t (p + z) = wb z)) (q + 1)) = true then 1 else 0)), some (vi (nI (q + 1)))]) cx dX6_isWord_65 rfl (by decide) rfl rfl ?_
              refine g_goto (tgt := 22) cx dX6_isWord_68 (by decide) ?_
              exact ih (q + 1) (by omega) (by omega)
            · skip
              refine g_iconst (v := nI 1) cx dX6_isWord_59 (by decide) ?_
              refine g_goto (tgt := 64) cx dX6_isWord_60 (by decide) ?_
              refine g_istore_n (L' := [some (vr (30, 0)), some (vi W), some (vi (nI L)), some (vi (nI 1)), some (vi (nI q))]) cx dX6_isWord_64 (by decide) rfl rfl ?_
              refine g_loc (L' := [some (vr (30, 0)), some (vi W), some (vi (nI L)), some (vi (if (decide (e - p = L) && allB (fun z => decide (t (p + z) = wb z)) (q + 1)) = true then 1 else 0)), some (vi (nI q))]) (by rw [bi_t (c := (decide (e - p = L) && allB (fun z => decide (t (p + z) = wb z)) (q + 1)) = true) (by rw [allB, ← Bool.and_assoc, h_23, Bool.true_and]; exact decide_eq_true h_56)]) ?_
              refine g_iincN (L' := [some (vr (30, 0)), some (vi W), some (vi (nI L)), some (vi (if (decide (e - p = L) && allB (fun z => decide (t (p + z) = wb z)) (q + 1)) = true then 1 else 0)), some (vi (nI (q + 1)))]) cx dX6_isWord_65 rfl (by decide) rfl rfl ?_
              refine g_goto (tgt := 22) cx dX6_isWord_68 (by decide) ?_
              exact ih (q + 1) (by omega) (by omega)
    exact lp (L + 1) 0 (by omega) (by omega)
  · skip
    refine g_iconst (v := nI 1) cx dX6_isWord_13 (by decide) ?_
    refine g_goto (tgt := 18) cx dX6_isWord_14 (by decide) ?_
    refine g_istore_n (L' := [some (vr (30, 0)), some (vi W), some (vi (nI L)), some (vi (nI 1)), none]) cx dX6_isWord_18 (by decide) rfl rfl ?_
    refine g_iconst (v := nI 0) cx dX6_isWord_19 (by decide) ?_
    refine g_istore (L' := [some (vr (30, 0)), some (vi W), some (vi (nI L)), some (vi (nI 1)), some (vi (nI 0))]) cx dX6_isWord_20 (by decide) rfl rfl ?_
    refine g_loc (L' := [some (vr (30, 0)), some (vi W), some (vi (nI L)), some (vi (if (decide (e - p = L) && allB (fun z => decide (t (p + z) = wb z)) 0) = true then 1 else 0)), some (vi (nI 0))]) (by rw [bi_t (c := (decide (e - p = L) && allB (fun z => decide (t (p + z) = wb z)) 0) = true) (by simp [allB, h_10])]) ?_
    have lp : ∀ (fu : Nat) (q : Nat), L - q < fu → (q ≤ L) → Gk X mX6_isWord idsA 22 [some (vr (30, 0)), some (vi W), some (vi (nI L)), some (vi (if (decide (e - p = L) && allB (fun z => decide (t (p + z) = wb z)) q) = true then 1 else 0)), some (vi (nI q))] [] D := by
      intro fu
      induction fu with
      | zero => intro q hfu; exact absurd hfu (Nat.not_lt_zero _)
      | succ fu ih =>
        intro q hfu hq
        refine g_iload_n cx dX6_isWord_22 rfl ?_
        refine g_if_eqB (tgt := 71) cx dX6_isWord_23 (by decide) (fun h_23 => ?_) (fun h_23 => ?_)
        · skip
          refine g_iload_n cx dX6_isWord_71 rfl ?_
          exact g_fret cx rq rfl (bi_nar _) dX6_isWord_72 (congrArg (fun z => some (vi z)) (bi_iff ⟨fun h => absurd h h_23, fun h => absurd (isW_sub hq h) h_23⟩)) (rfl)
        · skip
          refine g_iload cx dX6_isWord_26 rfl ?_
          refine g_iload_n cx dX6_isWord_28 rfl ?_
          refine g_icmp_geN (tgt := 71) cx dX6_isWord_29 (by decide) (by omega) (by omega) (fun h_29 => ?_) (fun h_29 => ?_)
          · skip
            have e9 : q = L := by omega
            refine g_iload_n cx dX6_isWord_71 rfl ?_
            exact g_fret cx rq rfl (bi_nar _) dX6_isWord_72 (by rw [e9]; rfl) (rfl)
          · skip
            have hel : e - p = L := of_decide_eq_true (Bool.and_eq_true_iff.mp h_23).1
            have htq := (hX.2.2 (p + q) (by omega)).2
            have hwq := (hW q (by omega)).2
            refine g_aload_n cx dX6_isWord_32 rfl ?_
            refine g_getR (i := (30, 0)) (ci := 6) (k := 2) (j := (33, 0)) cx a30_0 rfl rfl rfl (by decide) inX6 lfX6_17 dX6_isWord_33 ?_
            refine g_aload_n cx dX6_isWord_36 rfl ?_
            refine g_getIN (i := (30, 0)) (ci := 6) (k := 13) (v := nI p) cx a30_0 rfl rfl rfl (by decide) inX6 lfX6_72 dX6_isWord_37 (h13) ?_
            refine g_iload cx dX6_isWord_40 rfl ?_
            refine g_iaddN cx dX6_isWord_42 ?_
            refine g_ialdN (i := (33, 0)) (j := p + q) (v := nI (t (p + q))) cx a33_0 rfl (rfl) (by omega) (by decide) dX6_isWord_43 ((hX.2.2 _ (by omega)).1) ?_
            refine g_bipush (v := nI 96) cx dX6_isWord_44 (by decide) ?_
            refine g_iload_n cx dX6_isWord_46 rfl ?_
            refine g_iconst (v := nI 5) cx dX6_isWord_47 (by decide) ?_
            refine g_iload cx dX6_isWord_48 rfl ?_
            refine g_imulN cx dX6_isWord_50 ?_
            refine g_ishr cx dX6_isWord_51 ?_
            refine g_bipush (v := nI 31) cx dX6_isWord_52 (by decide) ?_
            refine g_iand cx dX6_isWord_54 ?_
            refine g_iadd cx dX6_isWord_55 ?_
            refine g_top (hW q (by omega)).1 ?_
            refine g_icmp_neN (tgt := 63) cx dX6_isWord_56 (by decide) (by omega) (by omega) (fun h_56 => ?_) (fun h_56 => ?_)
            · skip
              refine g_iconst (v := nI 0) cx dX6_isWord_63 (by decide) ?_
              refine g_istore_n (L' := [some (vr (30, 0)), some (vi W), some (vi (nI L)), some (vi (nI 0)), some (vi (nI q))]) cx dX6_isWord_64 (by decide) rfl rfl ?_
              refine g_loc (L' := [some (vr (30, 0)), some (vi W), some (vi (nI L)), some (vi (if (decide (e - p = L) && allB (fun z => decide (t (p + z) = wb z)) (q + 1)) = true then 1 else 0)), some (vi (nI q))]) (by rw [bi_f (c := (decide (e - p = L) && allB (fun z => decide (t (p + z) = wb z)) (q + 1)) = true) (by rw [allB, ← Bool.and_assoc, h_23, Bool.true_and]; simpa using h_56)]) ?_
              refine g_iincN (L' := [some (vr (30, 0)), some (vi W), some (vi (nI L)), some (vi (if (decide (e - p = L) && allB (fun z => decide (t (p + z) = wb z)) (q + 1)) = true then 1 else 0)), some (vi (nI (q + 1)))]) cx dX6_isWord_65 rfl (by decide) rfl rfl ?_
              refine g_goto (tgt := 22) cx dX6_isWord_68 (by decide) ?_
              exact ih (q + 1) (by omega) (by omega)
            · skip
              refine g_iconst (v := nI 1) cx dX6_isWord_59 (by decide) ?_
              refine g_goto (tgt := 64) cx dX6_isWord_60 (by decide) ?_
              refine g_istore_n (L' := [some (vr (30, 0)), some (vi W), some (vi (nI L)), some (vi (nI 1)), some (vi (nI q))]) cx dX6_isWord_64 (by decide) rfl rfl ?_
              refine g_loc (L' := [some (vr (30, 0)), some (vi W), some (vi (nI L)), some (vi (if (decide (e - p = L) && allB (fun z => decide (t (p + z) = wb z)) (q + 1)) = true then 1 else 0)), some (vi (nI q))]) (by rw [bi_t (c := (decide (e - p = L) && allB (fun z => decide (t (p + z) = wb z)) (q + 1)) = true) (by rw [allB, ← Bool.and_assoc, h_23, Bool.true_and]; exact decide_eq_true h_56)]) ?_
              refine g_iincN (L' := [some (vr (30, 0)), some (vi W), some (vi (nI L)), some (vi (if (decide (e - p = L) && allB (fun z => decide (t (p + z) = wb z)) (q + 1)) = true then 1 else 0)), some (vi (nI (q + 1)))]) cx dX6_isWord_65 rfl (by decide) rfl rfl ?_
              refine g_goto (tgt := 22) cx dX6_isWord_68 (by decide) ?_
              exact ih (q + 1) (by omega) (by omega)
    exact lp (L + 1) 0 (by omega) (by omega)
