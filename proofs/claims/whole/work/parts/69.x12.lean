set_option maxRecDepth 100000 in
set_option maxHeartbeats 4000000 in
theorem x_read {D : Wd} {n : Nat} {k f : Nat → Nat} {dn : Nat} {dr : Nat → Nat} {pn : Nat} (hP : PX D 0 n k f dn dr pn) {hm : Nat → Nat} (hH : HX D 0 n hm) {hp : Nat → Nat} (hpl : ∀ q, q < pn → D (6, 0) q = nI (hp q)) {t : Nat → Nat} {len : Nat} (hX : TXx D t len) (hG0 : GeoS (n, hm, f, dn, dr, pn)) {rc0 : Nat → Nat × Nat} {res : Rs} (hPr : Prs t len 12 (n, hm, f, dn, dr, pn) 0 rc0 (tkP t len 0) (tkE t len (tkP t len 0)) res) : Mok mX4_read idsA 7 [vr (7, 0), vr (1, 0)] D (fun r' E' => r' = (some (vi (fltI res))) ∧ (FRy D E' ∧ ∀ R' m' rc', res = .inr (R', m', rc') → PDx E' R' (tlF rc' (k, pn, hp) m') ∧ E' (7, 0) 3 = nI m')) := by
  have hz0 : len ≤ 200 := hX.2.1
  refine Mok.of (L := [some (vr (7, 0)), some (vr (1, 0))]) rfl (fun _ => Nat.le_of_ble_eq_true rfl) (fun _ => rfl) (fun X cx rq => ?_)
  refine g_aload_n cx dX4_read_0 rfl ?_
  refine g_getR (i := (7, 0)) (ci := 4) (k := 2) (j := (1, 1)) cx a7_0 rfl rfl rfl (by decide) inX4 lfX4_18 dX4_read_1 ?_
  refine g_aload_n cx dX4_read_4 rfl ?_
  refine g_callV (As := [vr (1, 0)]) (rest := []) cx knX1_copy x_pcopy01 a1_1 rfl rfl lmX4_22 niX1_copy seX1_copy rfl (by decide) (Nat.le_of_ble_eq_true rfl) rfl dX4_read_5 (fun r0 E0 hp0 => ?_)
  obtain ⟨rfl, hC0⟩ := hp0
  show Gk X mX4_read idsA 8 [some (vr (7, 0)), some (vr (1, 0))] [] E0
  refine g_aload_n cx dX4_read_8 rfl ?_
  refine g_iconst (v := nI 0) cx dX4_read_9 (by decide) ?_
  refine g_putI (i := (7, 0)) (ci := 4) (k := 5) cx a7_0 rfl rfl rfl (by decide) inX4 tyX4_ok nmX4 rfl rfl lfX4_26 dX4_read_10 ?_
  refine g_aload_n cx dX4_read_13 rfl ?_
  refine g_iconst (v := nI 1) cx dX4_read_14 (by decide) ?_
  refine g_putI (i := (7, 0)) (ci := 4) (k := 3) cx a7_0 rfl rfl rfl (by decide) inX4 tyX4_ok nmX4 rfl rfl lfX4_30 dX4_read_15 ?_
  have lp : ∀ (fu : Nat) (m : Nat) (E : Wd), 12 - m < fu → (RdI D t len (k, pn, hp) res m E) → Gk X mX4_read idsA 18 [some (vr (7, 0)), some (vr (1, 0))] [] E := by
    intro fu
    induction fu with
    | zero => intro m E hfu; exact absurd hfu (Nat.not_lt_zero _)
    | succ fu ih_lp =>
      intro m E hfu hI0
      obtain ⟨hF, h3, hmle, hI⟩ := hI0
      refine g_aload_n cx dX4_read_18 rfl ?_
      refine g_getIN (i := (7, 0)) (ci := 4) (k := 3) (v := nI (m + 1)) cx a7_0 rfl rfl rfl (by decide) inX4 lfX4_30 dX4_read_19 (h3) ?_
      refine g_bipush (v := nI 12) cx dX4_read_22 (by decide) ?_
      refine g_icmp_gtN (tgt := 88) cx dX4_read_24 (by decide) (by omega) (by omega) (fun h_24 => ?_) (fun h_24 => ?_)
      · skip
        rcases hI with ⟨hm12, R, rc, e, hRE, hG, hPs⟩ | ⟨hm12, pz, rfl, h4⟩
        · exact absurd h_24 (by omega)
        · skip
          refine g_aload_n cx dX4_read_88 rfl ?_
          refine g_getIN (i := (7, 0)) (ci := 4) (k := 4) (v := nI pz) cx a7_0 rfl rfl rfl (by decide) inX4 lfX4_37 dX4_read_89 (h4) ?_
          exact g_ret cx rq rfl (rfl) dX4_read_92 ⟨rfl, ⟨hF, fun _ _ _ h => by cases h⟩⟩
      · skip
        rcases hI with ⟨hm12, R, rc, e, hRE, hG, hPs⟩ | ⟨hm12, pz, rfl, h4⟩
        · skip
          have e12 : 12 - m = (12 - (m + 1)) + 1 := by omega
          rw [e12] at hPs
          rcases Prs_s.mp hPs with ⟨p1, e1, hN, hres⟩ | ⟨w1, a1, b1, p1, e1, hY, hC⟩
          · skip
            subst hres
            refine g_aload_n cx dX4_read_27 rfl ?_
            refine g_callV (As := []) (rest := []) cx knX4_readLine (x_lineN hRE hG hN) a7_0 rfl rfl lmX4_33 niX4_readLine seX4_readLine rfl (by decide) (Nat.le_of_ble_eq_true rfl) rfl dX4_read_28 (fun r0 E1 hp0 => ?_)
            obtain ⟨rfl, hF1, h41⟩ := hp0
            show Gk X mX4_read idsA 31 [some (vr (7, 0)), some (vr (1, 0))] [vi (nI 0)] E1
            refine g_if_neN (tgt := 39) cx dX4_read_31 (by decide) (by omega) (fun h_31 => ?_) (fun h_31 => ?_)
            · skip
              exact absurd rfl h_31
            · skip
              refine g_aload_n cx dX4_read_34 rfl ?_
              refine g_getIN (i := (7, 0)) (ci := 4) (k := 4) (v := nI p1) cx a7_0 rfl rfl rfl (by decide) inX4 lfX4_37 dX4_read_35 (h41) ?_
              exact g_ret cx rq rfl (rfl) dX4_read_38 ⟨rfl, ⟨hF.tr hF1.y, fun _ _ _ h => by cases h⟩⟩
          · skip
            refine g_aload_n cx dX4_read_27 rfl ?_
            refine g_callV (As := []) (rest := []) cx knX4_readLine (x_lineY hRE hG hY) a7_0 rfl rfl lmX4_33 niX4_readLine seX4_readLine rfl (by decide) (Nat.le_of_ble_eq_true rfl) rfl dX4_read_28 (fun r0 E1 hp0 => ?_)
            obtain ⟨rfl, y, hR1, hp1, he1⟩ := hp0
            show Gk X mX4_read idsA 31 [some (vr (7, 0)), some (vr (1, 0))] [vi (nI 1)] E1
            subst hp1
            subst he1
            have hG1 := GeoS.go hRE.2.2.1.1.1 hRE.2.2.1.1.2.1 hRE.hh hG hY
            have hle := tkP_ok (t := t) (len := len) (p := y) hR1.2.1.2
            have htk := tkE_ok (t := t) hle.2
            have hl2 := hX.2.1
            rw [← tlF_s (rc := rc) (m := m)] at hR1
            have h33 : SE E1 (tkP t len y) (tkE t len (tkP t len y)) (7, 0) 3 = nI (m + 1) := (SE.f (by decide) (by decide)).trans ((hR1.2.2.2.2 3 (by decide) (by decide) (by decide)).trans h3)
            refine g_if_neN (tgt := 39) cx dX4_read_31 (by decide) (by omega) (fun h_31 => ?_) (fun h_31 => ?_)
            · skip
              refine g_aload_n cx dX4_read_39 rfl ?_
              refine g_fcallVv (As := []) (rest := []) cx knX4_nextToken (x_nextToken hR1.1 hR1.2.1.1 hR1.2.1.2) a7_0 rfl rfl lmX4_40 niX4_nextToken seX4_nextToken rfl (by decide) (Nat.le_of_ble_eq_true rfl) rfl dX4_read_40 ?_
              refine g_aload_n cx dX4_read_43 rfl ?_
              refine g_getIN (i := (7, 0)) (ci := 4) (k := 4) (v := nI (tkP t len y)) cx a7_0 rfl rfl rfl (by decide) inX4 lfX4_37 dX4_read_44 (SE.s) ?_
              refine g_aload_n cx dX4_read_47 rfl ?_
              refine g_getIN (i := (7, 0)) (ci := 4) (k := 1) (v := nI len) cx a7_0 rfl rfl rfl (by decide) inX4 lfX4_43 dX4_read_48 ((SE.f (by decide) (by decide)).trans hR1.1.1) ?_
              refine g_icmp_neN (tgt := 56) cx dX4_read_51 (by decide) (by omega) (by omega) (fun h_51 => ?_) (fun h_51 => ?_)
              · skip
                have hplt : tkP t len y < len := by omega
                have ht9 := ((SE.T (p := tkP t len y) (e := tkE t len (tkP t len y)) hR1.1).2.2 (tkP t len y) hplt).1
                have ht8 := ((SE.T (p := tkP t len y) (e := tkE t len (tkP t len y)) hR1.1).2.2 (tkP t len y) hplt).2
                refine g_aload_n cx dX4_read_56 rfl ?_
                refine g_getR (i := (7, 0)) (ci := 4) (k := 0) (j := (8, 0)) cx a7_0 rfl rfl rfl (by decide) inX4 lfX4_9 dX4_read_57 ?_
                refine g_aload_n cx dX4_read_60 rfl ?_
                refine g_getIN (i := (7, 0)) (ci := 4) (k := 4) (v := nI (tkP t len y)) cx a7_0 rfl rfl rfl (by decide) inX4 lfX4_37 dX4_read_61 (SE.s) ?_
                refine g_bald (i := (8, 0)) (j := tkP t len y) cx a8_0 rfl (rfl) (by omega) (by decide) dX4_read_64 ?_
                refine g_top (y := (sbI (t (tkP t len y)))) (ht9) ?_
                refine g_bipush (v := nI 59) cx dX4_read_65 (by decide) ?_
                refine g_icmp_eq (tgt := 75) cx dX4_read_67 (by decide) (fun h_67 => ?_) (fun h_67 => ?_)
                · skip
                  have h59 := (sb_eq ht8 (by decide)).mp h_67
                  refine g_aload_n cx dX4_read_75 rfl ?_
                  refine g_dup cx dX4_read_76 rfl ?_
                  refine g_getIN (i := (7, 0)) (ci := 4) (k := 3) (v := nI (m + 1)) cx a7_0 rfl rfl rfl (by decide) inX4 lfX4_30 dX4_read_77 (h33) ?_
                  refine g_iconst (v := nI 1) cx dX4_read_80 (by decide) ?_
                  refine g_iaddN cx dX4_read_81 ?_
                  refine g_putI (i := (7, 0)) (ci := 4) (k := 3) cx a7_0 rfl rfl rfl (by decide) inX4 tyX4_ok nmX4 rfl rfl lfX4_30 dX4_read_82 ?_
                  refine g_goto (tgt := 18) cx dX4_read_85 (by decide) ?_
                  exact ih_lp (m + 1) (upA (SE E1 (tkP t len y) (tkE t len (tkP t len y))) (7, 0) (upd ((SE E1 (tkP t len y) (tkE t len (tkP t len y))) (7, 0)) 3 (nI ((m + 1) + 1)))) (by omega) (RdI.s hF h3 hm12 hR1 hG1 hplt h59 hC)
                · skip
                  have h59 : ¬ t (tkP t len y) = 59 := fun x => h_67 ((sb_eq ht8 (by decide)).mpr x)
                  obtain rfl := Rd_f hC hplt h59
                  refine g_aload_n cx dX4_read_70 rfl ?_
                  refine g_getIN (i := (7, 0)) (ci := 4) (k := 4) (v := nI (tkP t len y)) cx a7_0 rfl rfl rfl (by decide) inX4 lfX4_37 dX4_read_71 (SE.s) ?_
                  exact g_ret cx rq rfl (rfl) dX4_read_74 ⟨rfl, ⟨(hF.tr (hR1.se (p := tkP t len y) htk.2.1).2.2.2.y), fun _ _ _ h => by cases h⟩⟩
              · skip
                obtain rfl := Rd_e hC h_51
                refine g_iconst (v := (-1)) cx dX4_read_54 (by decide) ?_
                exact g_ret cx rq rfl (rfl) dX4_read_55 ⟨rfl, ⟨(hF.tr (hR1.se (p := tkP t len y) htk.2.1).2.2.2.y), fun R9 m9 rc9 h => by cases h; exact ⟨(hR1.se (p := tkP t len y) htk.2.1).2.2.1, h33⟩⟩⟩
            · skip
              exact absurd h_31 (by decide)
        · exact absurd h_24 (by omega)
  exact lp 13 0 (upA (upA E0 (7, 0) (upd (E0 (7, 0)) 5 (nI 0))) (7, 0) (upd ((upA E0 (7, 0) (upd (E0 (7, 0)) 5 (nI 0))) (7, 0)) 3 (nI 1))) (by omega) (RdI.z hP hH hpl hX hG0 hPr hC0)

set_option maxRecDepth 100000 in
set_option maxHeartbeats 4000000 in
theorem x_fault {D : Wd} {n : Nat} {k f : Nat → Nat} {dn : Nat} {dr : Nat → Nat} {pn : Nat} (hP : PX D 0 n k f dn dr pn) {hm : Nat → Nat} (hH : HX D 0 n hm) {hp : Nat → Nat} (hpl : ∀ q, q < pn → D (6, 0) q = nI (hp q)) {t : Nat → Nat} {len : Nat} (hX : TXx D t len) (hG0 : GeoS (n, hm, f, dn, dr, pn)) {rc0 : Nat → Nat × Nat} {res : Rs} (hPr : Prs t len 12 (n, hm, f, dn, dr, pn) 0 rc0 (tkP t len 0) (tkE t len (tkP t len 0)) res) : Mok mX5_fault idsA 8 [vr (0, 0)] D (fun r' E' => r' = (some (vi (fltI res))) ∧ (FRy D E' ∧ ∀ R' m' rc', res = .inr (R', m', rc') → PDx E' R' (tlF rc' (k, pn, hp) m') ∧ E' (7, 0) 3 = nI m')) := by
  refine Mok.of (L := [some (vr (0, 0))]) rfl (fun _ => Nat.le_of_ble_eq_true rfl) (fun _ => rfl) (fun X cx rq => ?_)
  refine g_aload_n cx dX5_fault_0 rfl ?_
  refine g_getR (i := (0, 0)) (ci := 5) (k := 1) (j := (7, 0)) cx a0_0 rfl rfl rfl (by decide) inX5 lfX5_19 dX5_fault_1 ?_
  refine g_aload_n cx dX5_fault_4 rfl ?_
  refine g_getR (i := (0, 0)) (ci := 5) (k := 0) (j := (1, 0)) cx a0_0 rfl rfl rfl (by decide) inX5 lfX5_10 dX5_fault_5 ?_
  refine g_callV (As := [vr (1, 0)]) (rest := []) cx knX4_read (x_read hP hH hpl hX hG0 hPr) a7_0 rfl rfl lmX5_71 niX4_read seX4_read rfl (by decide) (Nat.le_of_ble_eq_true rfl) rfl dX5_fault_8 (fun r0 E2 hp0 => ?_)
  obtain ⟨rfl, hQ⟩ := hp0
  show Gk X mX5_fault idsA 11 [some (vr (0, 0))] [vi (fltI res)] E2
  exact g_ret cx rq rfl (rfl) dX5_fault_11 ⟨rfl, hQ⟩

set_option maxRecDepth 100000 in
set_option maxHeartbeats 4000000 in
theorem x_house_n {D : Wd} {n : Nat} {k f : Nat → Nat} {dn : Nat} {dr : Nat → Nat} {pn : Nat} (hP : PX D 0 n k f dn dr pn) {hm : Nat → Nat} (hH : HX D 0 n hm) {hp : Nat → Nat} (hpl : ∀ q, q < pn → D (6, 0) q = nI (hp q)) {t : Nat → Nat} {len : Nat} (hX : TXx D t len) (hG0 : GeoS (n, hm, f, dn, dr, pn)) {rc0 : Nat → Nat × Nat} {pos : Nat} (hPr : Prs t len 12 (n, hm, f, dn, dr, pn) 0 rc0 (tkP t len 0) (tkE t len (tkP t len 0)) (.inl pos)) (hpos : pos < 1000) : Mok mX5_house idsA 8 [vr (0, 0)] D (fun r' E' => r' = (some (vi (-4))) ∧ FRy D E') := by
  refine Mok.of (L := [some (vr (0, 0)), none]) rfl (fun _ => Nat.le_of_ble_eq_true rfl) (fun _ => rfl) (fun X cx rq => ?_)
  refine g_aload_n cx dX5_house_0 rfl ?_
  refine g_getR (i := (0, 0)) (ci := 5) (k := 1) (j := (7, 0)) cx a0_0 rfl rfl rfl (by decide) inX5 lfX5_19 dX5_house_1 ?_
  refine g_aload_n cx dX5_house_4 rfl ?_
  refine g_getR (i := (0, 0)) (ci := 5) (k := 0) (j := (1, 0)) cx a0_0 rfl rfl rfl (by decide) inX5 lfX5_10 dX5_house_5 ?_
  refine g_callV (As := [vr (1, 0)]) (rest := []) cx knX4_read (x_read hP hH hpl hX hG0 hPr) a7_0 rfl rfl lmX5_71 niX4_read seX4_read rfl (by decide) (Nat.le_of_ble_eq_true rfl) rfl dX5_house_8 (fun r0 E2 hp0 => ?_)
  obtain ⟨rfl, hF2, hx2⟩ := hp0
  show Gk X mX5_house idsA 11 [some (vr (0, 0)), none] [vi (fltI (.inl pos))] E2
  refine g_top (y := nI pos) rfl ?_
  refine g_iconst (v := (-1)) cx dX5_house_11 (by decide) ?_
  refine g_icmp_eq (tgt := 18) cx dX5_house_12 (by decide) (fun h_12 => ?_) (fun h_12 => ?_)
  · skip
    exact absurd h_12 (m1_ne (by omega))
  · skip
    refine g_bipush (v := (-4)) cx dX5_house_15 (by decide) ?_
    exact g_ret cx rq rfl (rfl) dX5_house_17 ⟨rfl, hF2⟩

set_option maxRecDepth 100000 in
set_option maxHeartbeats 4000000 in
theorem x_house_y {D : Wd} {n : Nat} {k f : Nat → Nat} {dn : Nat} {dr : Nat → Nat} {pn : Nat} (hP : PX D 0 n k f dn dr pn) {hm : Nat → Nat} (hH : HX D 0 n hm) {hp : Nat → Nat} (hpl : ∀ q, q < pn → D (6, 0) q = nI (hp q)) {t : Nat → Nat} {len : Nat} (hX : TXx D t len) (hG0 : GeoS (n, hm, f, dn, dr, pn)) {rc0 : Nat → Nat × Nat} {R9 : RS} {m9 : Nat} {rc9 : Nat → Nat × Nat} (hPr : Prs t len 12 (n, hm, f, dn, dr, pn) 0 rc0 (tkP t len 0) (tkE t len (tkP t len 0)) (.inr (R9, m9, rc9))) (hm9 : m9 < 1000) : Mok mX5_house idsA 8 [vr (0, 0)] D (fun r' E' => r' = (some (vi (nI m9))) ∧ HouseX D E' R9 (tlF rc9 (k, pn, hp) m9)) := by
  refine Mok.of (L := [some (vr (0, 0)), none]) rfl (fun _ => Nat.le_of_ble_eq_true rfl) (fun _ => rfl) (fun X cx rq => ?_)
  refine g_aload_n cx dX5_house_0 rfl ?_
  refine g_getR (i := (0, 0)) (ci := 5) (k := 1) (j := (7, 0)) cx a0_0 rfl rfl rfl (by decide) inX5 lfX5_19 dX5_house_1 ?_
  refine g_aload_n cx dX5_house_4 rfl ?_
  refine g_getR (i := (0, 0)) (ci := 5) (k := 0) (j := (1, 0)) cx a0_0 rfl rfl rfl (by decide) inX5 lfX5_10 dX5_house_5 ?_
  refine g_callV (As := [vr (1, 0)]) (rest := []) cx knX4_read (x_read hP hH hpl hX hG0 hPr) a7_0 rfl rfl lmX5_71 niX4_read seX4_read rfl (by decide) (Nat.le_of_ble_eq_true rfl) rfl dX5_house_8 (fun r0 E2 hp0 => ?_)
  obtain ⟨rfl, hF2, hx2⟩ := hp0
  show Gk X mX5_house idsA 11 [some (vr (0, 0)), none] [vi (fltI (.inr (R9, m9, rc9)))] E2
  refine g_top (y := -1) rfl ?_
  refine g_iconst (v := (-1)) cx dX5_house_11 (by decide) ?_
  refine g_icmp_eq (tgt := 18) cx dX5_house_12 (by decide) (fun h_12 => ?_) (fun h_12 => ?_)
  · skip
    obtain ⟨hd9, h39⟩ := hx2 R9 m9 rc9 rfl
    refine g_aload_n cx dX5_house_18 rfl ?_
    refine g_getR (i := (0, 0)) (ci := 5) (k := 0) (j := (1, 0)) cx a0_0 rfl rfl rfl (by decide) inX5 lfX5_10 dX5_house_19 ?_
    refine g_aload_n cx dX5_house_22 rfl ?_
    refine g_getR (i := (0, 0)) (ci := 5) (k := 1) (j := (7, 0)) cx a0_0 rfl rfl rfl (by decide) inX5 lfX5_19 dX5_house_23 ?_
    refine g_getR (i := (7, 0)) (ci := 4) (k := 2) (j := (1, 1)) cx a7_0 rfl rfl rfl (by decide) inX4 lfX5_75 dX5_house_26 ?_
    refine g_callV (As := [vr (1, 1)]) (rest := []) cx knX1_copy x_pcopy10 a1_0 rfl rfl lmX5_78 niX1_copy seX1_copy rfl (by decide) (Nat.le_of_ble_eq_true rfl) rfl dX5_house_29 (fun r0 F hp0 => ?_)
    obtain ⟨rfl, hC⟩ := hp0
    show Gk X mX5_house idsA 32 [some (vr (0, 0)), none] [] F
    refine g_aload_n cx dX5_house_32 rfl ?_
    refine g_getR (i := (0, 0)) (ci := 5) (k := 1) (j := (7, 0)) cx a0_0 rfl rfl rfl (by decide) inX5 lfX5_19 dX5_house_33 ?_
    refine g_iconst (v := nI 0) cx dX5_house_36 (by decide) ?_
    refine g_putI (i := (7, 0)) (ci := 4) (k := 1) cx a7_0 rfl rfl rfl (by decide) inX4 tyX4_ok nmX4 rfl rfl lfX5_63 dX5_house_37 ?_
    refine g_aload_n cx dX5_house_40 rfl ?_
    refine g_getR (i := (0, 0)) (ci := 5) (k := 2) (j := (9, 0)) cx a0_0 rfl rfl rfl (by decide) inX5 lfX5_28 dX5_house_41 ?_
    refine g_fcallVv (As := []) (rest := []) cx knX0_begin x_begin a9_0 rfl rfl lmX5_61 niX0_begin seX0_begin rfl (by decide) (Nat.le_of_ble_eq_true rfl) rfl dX5_house_44 ?_
    refine g_aload_n cx dX5_house_47 rfl ?_
    refine g_getR (i := (0, 0)) (ci := 5) (k := 7) (j := (18, 0)) cx a0_0 rfl rfl rfl (by decide) inX5 lfX5_53 dX5_house_48 ?_
    refine g_iconst (v := nI 0) cx dX5_house_51 (by decide) ?_
    refine g_putI (i := (18, 0)) (ci := 3) (k := 2) cx a18_0 rfl rfl rfl (by decide) inX3 tyX3_ok nmX3 rfl rfl lfX5_81 dX5_house_52 ?_
    refine g_iconst (v := nI 0) cx dX5_house_55 (by decide) ?_
    refine g_istore_n (L' := [some (vr (0, 0)), some (vi (nI 0))]) cx dX5_house_56 (by decide) rfl rfl ?_
    obtain ⟨G0, hG0e⟩ : ∃ G0, G0 = BgH (upA F (7, 0) (upd (F (7, 0)) 1 (nI 0))) := ⟨_, rfl⟩
    obtain ⟨G1, hG1e⟩ : ∃ G1, G1 = upA G0 (18, 0) (upd (G0 (18, 0)) 2 (nI 0)) := ⟨_, rfl⟩
    refine g_wd (D' := G1) (by rw [hG1e, hG0e]) ?_
    have lp1 : ∀ (fu : Nat) (q : Nat) (G : Wd), 2 - q < fu → (q ≤ 2) → (∀ i : Id2, i ≠ (13, 0) → G i = G1 i) → (∀ j, j < q → G (13, 0) j = nI 0) → Gk X mX5_house idsA 57 [some (vr (0, 0)), some (vi (nI q))] [] G := by
      intro fu
      induction fu with
      | zero => intro q G hfu; exact absurd hfu (Nat.not_lt_zero _)
      | succ fu ih_lp1 =>
        intro q G hfu hq hGo hGk
        refine g_iload_n cx dX5_house_57 rfl ?_
        refine g_iconst (v := nI 2) cx dX5_house_58 (by decide) ?_
        refine g_icmp_geN (tgt := 75) cx dX5_house_59 (by decide) (by omega) (by omega) (fun h_59 => ?_) (fun h_59 => ?_)
        · skip
          have e8 : q = 2 := by omega
          subst e8
          have hHX := HouseX.of hF2 hd9 hC hG0e hG1e hGo hGk
          have hG3 : G (7, 0) 3 = nI m9 := by
            rw [hGo _ (by decide), hG1e, upA_n _ _ (by decide), hG0e, BgH, upA_n _ _ (by decide), upA_n _ _ (by decide), upA_n _ _ (by decide), upA_s]
            exact (congrFun (hC.2.2.2.2 (7, 0) (by decide)) 3).trans h39
          refine g_aload_n cx dX5_house_75 rfl ?_
          refine g_getR (i := (0, 0)) (ci := 5) (k := 1) (j := (7, 0)) cx a0_0 rfl rfl rfl (by decide) inX5 lfX5_19 dX5_house_76 ?_
          refine g_getIN (i := (7, 0)) (ci := 4) (k := 3) (v := nI m9) cx a7_0 rfl rfl rfl (by decide) inX4 lfX5_84 dX5_house_79 (hG3) ?_
          exact g_ret cx rq rfl (rfl) dX5_house_82 ⟨rfl, hHX⟩
        · skip
          refine g_aload_n cx dX5_house_62 rfl ?_
          refine g_getR (i := (0, 0)) (ci := 5) (k := 5) (j := (13, 0)) cx a0_0 rfl rfl rfl (by decide) inX5 lfX5_39 dX5_house_63 ?_
          refine g_iload_n cx dX5_house_66 rfl ?_
          refine g_iconst (v := nI 0) cx dX5_house_67 (by decide) ?_
          refine g_zast (i := (13, 0)) (j := q) (v' := nI 0) cx a13_0 rfl (rfl) (by omega) (by decide) rfl dX5_house_68 ?_
          refine g_iincN (L' := [some (vr (0, 0)), some (vi (nI (q + 1)))]) cx dX5_house_69 rfl (by decide) rfl rfl ?_
          refine g_goto (tgt := 57) cx dX5_house_72 (by decide) ?_
          have hGk2 : ∀ j, j < q + 1 → (upA G (13, 0) (upd (G (13, 0)) q (nI 0))) (13, 0) j = nI 0 := by
            intro j hj
            rw [upA_s]
            show (if j = q then nI 0 else G (13, 0) j) = nI 0
            by_cases x : j = q
            · rw [if_pos x]
            · rw [if_neg x]; exact hGk j (by omega)
          exact ih_lp1 (q + 1) (upA G (13, 0) (upd (G (13, 0)) q (nI 0))) (by omega) (by omega) (fun i hi => by rw [upA_n _ _ hi]; exact hGo i hi) hGk2
    exact lp1 3 0 G1 (by omega) (by omega) (fun _ _ => rfl) (fun j hj => absurd hj (Nat.not_lt_zero j))
  · skip
    exact absurd rfl h_12
