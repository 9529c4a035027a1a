theorem self_pn {E : Wd} {v : Int32} (h : E (30, 0) 11 = v) : upA E (30, 0) (upd (E (30, 0)) 11 v) = E := by rw [upd_self h, upA_self]
set_option maxRecDepth 100000 in
set_option maxHeartbeats 4000000 in
theorem m_tell0 {E : Wd} {T : TL} (hL : TLm E T) {q : Nat} (hq : q < 12) {a : Nat} (hw : E (34, 0) (3 * q) = nI 0) (ha : E (34, 0) (3 * q + 1) = nI a) : Mok mX6_tell idsA 1 [vr (30, 0), vi (nI (3 * q))] E (fun r' E' => r' = none ∧ (TLm E' (tlR T 0 a) ∧ TFm E E')) := by
  have hT5 := hL.2.2.1
  refine Mok.of (L := [some (vr (30, 0)), some (vi (nI (3 * q))), none, none, none]) rfl (fun _ => Nat.le_of_ble_eq_true rfl) (fun _ => rfl) (fun X cx rq => ?_)
  refine g_aload_n cx dX6_tell_0 rfl ?_
  refine g_getR (i := (30, 0)) (ci := 6) (k := 4) (j := (34, 0)) cx a30_0 rfl rfl rfl (by decide) inX6 lfX6_20 dX6_tell_1 ?_
  refine g_iload_n cx dX6_tell_4 rfl ?_
  refine g_iconst (v := nI 1) cx dX6_tell_5 (by decide) ?_
  refine g_iaddN cx dX6_tell_6 ?_
  refine g_ialdN (i := (34, 0)) (j := (3 * q) + 1) (v := nI a) cx a34_0 rfl (rfl) (by omega) (by decide) dX6_tell_7 (ha) ?_
  refine g_istore_n (L' := [some (vr (30, 0)), some (vi (nI (3 * q))), some (vi (nI a)), none, none]) cx dX6_tell_8 (by decide) rfl rfl ?_
  refine g_aload_n cx dX6_tell_9 rfl ?_
  refine g_getR (i := (30, 0)) (ci := 6) (k := 4) (j := (34, 0)) cx a30_0 rfl rfl rfl (by decide) inX6 lfX6_20 dX6_tell_10 ?_
  refine g_iload_n cx dX6_tell_13 rfl ?_
  refine g_ialdN (i := (34, 0)) (j := 3 * q) (v := nI 0) cx a34_0 rfl (rfl) (by omega) (by decide) dX6_tell_14 (hw) ?_
  refine g_istore_n (L' := [some (vr (30, 0)), some (vi (nI (3 * q))), some (vi (nI a)), some (vi (nI 0)), none]) cx dX6_tell_15 (by decide) rfl rfl ?_
  refine g_iload_n cx dX6_tell_16 rfl ?_
  refine g_if_neN (tgt := 49) cx dX6_tell_17 (by decide) (by omega) (fun h_17 => ?_) (fun h_17 => ?_)
  · skip
    exact absurd rfl h_17
  · skip
    refine g_aload_n cx dX6_tell_20 rfl ?_
    refine g_iconst (v := nI 0) cx dX6_tell_21 (by decide) ?_
    refine g_putI (i := (30, 0)) (ci := 6) (k := 11) cx a30_0 rfl rfl rfl (by decide) inX6 tyX6_ok nmX6 rfl rfl lfX6_153 dX6_tell_22 ?_
    refine g_iconst (v := nI 0) cx dX6_tell_25 (by decide) ?_
    refine g_istore (L' := [some (vr (30, 0)), some (vi (nI (3 * q))), some (vi (nI a)), some (vi (nI 0)), some (vi (nI 0))]) cx dX6_tell_26 (by decide) rfl rfl ?_
    have lp : ∀ (fu : Nat) (j : Nat), 8 - j < fu → (j ≤ 8) → Gk X mX6_tell idsA 28 [some (vr (30, 0)), some (vi (nI (3 * q))), some (vi (nI a)), some (vi (nI 0)), some (vi (nI j))] [] (Kz E j) := by
      intro fu
      induction fu with
      | zero => intro j hfu; exact absurd hfu (Nat.not_lt_zero _)
      | succ fu ih =>
        intro j hfu hj
        refine g_iload cx dX6_tell_28 rfl ?_
        refine g_bipush (v := nI 8) cx dX6_tell_30 (by decide) ?_
        refine g_icmp_geN (tgt := 49) cx dX6_tell_32 (by decide) (by omega) (by omega) (fun h_32 => ?_) (fun h_32 => ?_)
        · skip
          have e9 : j = 8 := by omega
          refine g_drop 4 (L' := [some (vr (30, 0)), some (vi (nI (3 * q))), some (vi (nI a)), some (vi (nI 0)), none]) rfl ?_
          refine g_wd (D' := Kz E 8) (by rw [e9]) ?_
          refine g_iload_n cx dX6_tell_49 rfl ?_
          refine g_i2l cx dX6_tell_50 ?_
          refine g_ldc2 (v := 2) cx lcX6_159 dX6_tell_51 ?_
          refine g_ldc2 (v := 5) cx lcX6_161 dX6_tell_54 ?_
          refine g_fcallS (As := [vl ((nI 0).toInt64), vl 2, vl 5]) (rest := []) cx knX6_in (m_in (nI 0).toInt64 2 5) lmX6_60 nsX6_in rfl (by decide) (Nat.le_of_ble_eq_true rfl) rfl dX6_tell_57 ?_
          refine g_top (y := nI 0) (by decide) ?_
          refine g_if_eqN (tgt := 72) cx dX6_tell_60 (by decide) (by omega) (fun h_60 => ?_) (fun h_60 => ?_)
          · skip
            refine g_iload_n cx dX6_tell_72 rfl ?_
            refine g_bipush (v := nI 8) cx dX6_tell_73 (by decide) ?_
            refine g_icmp_neN (tgt := 101) cx dX6_tell_75 (by decide) (by omega) (by omega) (fun h_75 => ?_) (fun h_75 => ?_)
            · skip
              refine g_aload_n cx dX6_tell_101 rfl ?_
              refine g_iload_n cx dX6_tell_102 rfl ?_
              refine g_bipush (v := nI 9) cx dX6_tell_103 (by decide) ?_
              refine g_icmp_neN (tgt := 112) cx dX6_tell_105 (by decide) (by omega) (by omega) (fun h_105 => ?_) (fun h_105 => ?_)
              · skip
                refine g_aload_n cx dX6_tell_112 rfl ?_
                refine g_getIN (i := (30, 0)) (ci := 6) (k := 11) (v := nI 0) cx a30_0 rfl rfl rfl (by decide) inX6 lfX6_153 dX6_tell_113 ((Kz.ok hL).1.2.1) ?_
                refine g_putI (i := (30, 0)) (ci := 6) (k := 11) cx a30_0 rfl rfl rfl (by decide) inX6 tyX6_ok nmX6 rfl rfl lfX6_153 dX6_tell_116 ?_
                exact g_vret cx rq rfl dX6_tell_119 ⟨rfl, by rw [self_pn (Kz.ok hL).1.2.1]; exact Kz.ok hL⟩
              · skip
                exact absurd h_105 (by decide)
            · skip
              exact absurd h_75 (by decide)
          · skip
            exact absurd rfl h_60
        · skip
          refine g_aload_n cx dX6_tell_35 rfl ?_
          refine g_getR (i := (30, 0)) (ci := 6) (k := 7) (j := (35, 0)) cx a30_0 rfl rfl rfl (by decide) inX6 lfX6_27 dX6_tell_36 ?_
          refine g_iload cx dX6_tell_39 rfl ?_
          refine g_iconst (v := nI 0) cx dX6_tell_41 (by decide) ?_
          refine g_iast (i := (35, 0)) (j := j) cx a35_0 rfl (rfl) (by omega) (by decide) dX6_tell_42 ?_
          refine g_iincN (L' := [some (vr (30, 0)), some (vi (nI (3 * q))), some (vi (nI a)), some (vi (nI 0)), some (vi (nI (j + 1)))]) cx dX6_tell_43 rfl (by decide) rfl rfl ?_
          refine g_goto (tgt := 28) cx dX6_tell_46 (by decide) ?_
          refine g_wd (D' := Kz E (j + 1)) (Kz.s E j) ?_
          exact ih (j + 1) (by omega) (by omega)
    refine g_wd (D' := Kz E 0) (Kz.z E) ?_
    exact lp 9 0 (by omega) (by omega)

set_option maxRecDepth 100000 in
set_option maxHeartbeats 4000000 in
theorem m_tell1 {E : Wd} {T : TL} (hL : TLm E T) {q : Nat} (hq : q < 12) {a : Nat} (hw : E (34, 0) (3 * q) = nI 1) (ha : E (34, 0) (3 * q + 1) = nI a) : Mok mX6_tell idsA 1 [vr (30, 0), vi (nI (3 * q))] E (fun r' E' => r' = none ∧ (TLm E' (tlR T 1 a) ∧ TFm E E')) := by
  have hT5 := hL.2.2.1
  refine Mok.of (L := [some (vr (30, 0)), some (vi (nI (3 * q))), none, none, none]) rfl (fun _ => Nat.le_of_ble_eq_true rfl) (fun _ => rfl) (fun X cx rq => ?_)
  refine g_aload_n cx dX6_tell_0 rfl ?_
  refine g_getR (i := (30, 0)) (ci := 6) (k := 4) (j := (34, 0)) cx a30_0 rfl rfl rfl (by decide) inX6 lfX6_20 dX6_tell_1 ?_
  refine g_iload_n cx dX6_tell_4 rfl ?_
  refine g_iconst (v := nI 1) cx dX6_tell_5 (by decide) ?_
  refine g_iaddN cx dX6_tell_6 ?_
  refine g_ialdN (i := (34, 0)) (j := (3 * q) + 1) (v := nI a) cx a34_0 rfl (rfl) (by omega) (by decide) dX6_tell_7 (ha) ?_
  refine g_istore_n (L' := [some (vr (30, 0)), some (vi (nI (3 * q))), some (vi (nI a)), none, none]) cx dX6_tell_8 (by decide) rfl rfl ?_
  refine g_aload_n cx dX6_tell_9 rfl ?_
  refine g_getR (i := (30, 0)) (ci := 6) (k := 4) (j := (34, 0)) cx a30_0 rfl rfl rfl (by decide) inX6 lfX6_20 dX6_tell_10 ?_
  refine g_iload_n cx dX6_tell_13 rfl ?_
  refine g_ialdN (i := (34, 0)) (j := 3 * q) (v := nI 1) cx a34_0 rfl (rfl) (by omega) (by decide) dX6_tell_14 (hw) ?_
  refine g_istore_n (L' := [some (vr (30, 0)), some (vi (nI (3 * q))), some (vi (nI a)), some (vi (nI 1)), none]) cx dX6_tell_15 (by decide) rfl rfl ?_
  refine g_iload_n cx dX6_tell_16 rfl ?_
  refine g_if_neN (tgt := 49) cx dX6_tell_17 (by decide) (by omega) (fun h_17 => ?_) (fun h_17 => ?_)
  · skip
    refine g_iload_n cx dX6_tell_49 rfl ?_
    refine g_i2l cx dX6_tell_50 ?_
    refine g_ldc2 (v := 2) cx lcX6_159 dX6_tell_51 ?_
    refine g_ldc2 (v := 5) cx lcX6_161 dX6_tell_54 ?_
    refine g_fcallS (As := [vl ((nI 1).toInt64), vl 2, vl 5]) (rest := []) cx knX6_in (m_in (nI 1).toInt64 2 5) lmX6_60 nsX6_in rfl (by decide) (Nat.le_of_ble_eq_true rfl) rfl dX6_tell_57 ?_
    refine g_top (y := nI 0) (by decide) ?_
    refine g_if_eqN (tgt := 72) cx dX6_tell_60 (by decide) (by omega) (fun h_60 => ?_) (fun h_60 => ?_)
    · skip
      refine g_iload_n cx dX6_tell_72 rfl ?_
      refine g_bipush (v := nI 8) cx dX6_tell_73 (by decide) ?_
      refine g_icmp_neN (tgt := 101) cx dX6_tell_75 (by decide) (by omega) (by omega) (fun h_75 => ?_) (fun h_75 => ?_)
      · skip
        refine g_aload_n cx dX6_tell_101 rfl ?_
        refine g_iload_n cx dX6_tell_102 rfl ?_
        refine g_bipush (v := nI 9) cx dX6_tell_103 (by decide) ?_
        refine g_icmp_neN (tgt := 112) cx dX6_tell_105 (by decide) (by omega) (by omega) (fun h_105 => ?_) (fun h_105 => ?_)
        · skip
          refine g_aload_n cx dX6_tell_112 rfl ?_
          refine g_getIN (i := (30, 0)) (ci := 6) (k := 11) (v := nI T.2.1) cx a30_0 rfl rfl rfl (by decide) inX6 lfX6_153 dX6_tell_113 (hL.2.1) ?_
          refine g_putI (i := (30, 0)) (ci := 6) (k := 11) cx a30_0 rfl rfl rfl (by decide) inX6 tyX6_ok nmX6 rfl rfl lfX6_153 dX6_tell_116 ?_
          exact g_vret cx rq rfl dX6_tell_119 ⟨rfl, by rw [self_pn hL.2.1]; exact ⟨hL, TFm.refl E⟩⟩
        · skip
          exact absurd h_105 (by decide)
      · skip
        exact absurd h_75 (by decide)
    · skip
      exact absurd rfl h_60
  · skip
    exact absurd h_17 (by decide)

set_option maxRecDepth 100000 in
set_option maxHeartbeats 4000000 in
theorem m_tell2 {E : Wd} {T : TL} (hL : TLm E T) {q : Nat} (hq : q < 12) {a : Nat} (hw : E (34, 0) (3 * q) = nI 2) (ha : E (34, 0) (3 * q + 1) = nI a) (ha8 : a < 8) : Mok mX6_tell idsA 1 [vr (30, 0), vi (nI (3 * q))] E (fun r' E' => r' = none ∧ (TLm E' (tlR T 2 a) ∧ TFm E E')) := by
  have hT5 := hL.2.2.1
  refine Mok.of (L := [some (vr (30, 0)), some (vi (nI (3 * q))), none, none, none]) rfl (fun _ => Nat.le_of_ble_eq_true rfl) (fun _ => rfl) (fun X cx rq => ?_)
  refine g_aload_n cx dX6_tell_0 rfl ?_
  refine g_getR (i := (30, 0)) (ci := 6) (k := 4) (j := (34, 0)) cx a30_0 rfl rfl rfl (by decide) inX6 lfX6_20 dX6_tell_1 ?_
  refine g_iload_n cx dX6_tell_4 rfl ?_
  refine g_iconst (v := nI 1) cx dX6_tell_5 (by decide) ?_
  refine g_iaddN cx dX6_tell_6 ?_
  refine g_ialdN (i := (34, 0)) (j := (3 * q) + 1) (v := nI a) cx a34_0 rfl (rfl) (by omega) (by decide) dX6_tell_7 (ha) ?_
  refine g_istore_n (L' := [some (vr (30, 0)), some (vi (nI (3 * q))), some (vi (nI a)), none, none]) cx dX6_tell_8 (by decide) rfl rfl ?_
  refine g_aload_n cx dX6_tell_9 rfl ?_
  refine g_getR (i := (30, 0)) (ci := 6) (k := 4) (j := (34, 0)) cx a30_0 rfl rfl rfl (by decide) inX6 lfX6_20 dX6_tell_10 ?_
  refine g_iload_n cx dX6_tell_13 rfl ?_
  refine g_ialdN (i := (34, 0)) (j := 3 * q) (v := nI 2) cx a34_0 rfl (rfl) (by omega) (by decide) dX6_tell_14 (hw) ?_
  refine g_istore_n (L' := [some (vr (30, 0)), some (vi (nI (3 * q))), some (vi (nI a)), some (vi (nI 2)), none]) cx dX6_tell_15 (by decide) rfl rfl ?_
  refine g_iload_n cx dX6_tell_16 rfl ?_
  refine g_if_neN (tgt := 49) cx dX6_tell_17 (by decide) (by omega) (fun h_17 => ?_) (fun h_17 => ?_)
  · skip
    refine g_iload_n cx dX6_tell_49 rfl ?_
    refine g_i2l cx dX6_tell_50 ?_
    refine g_ldc2 (v := 2) cx lcX6_159 dX6_tell_51 ?_
    refine g_ldc2 (v := 5) cx lcX6_161 dX6_tell_54 ?_
    refine g_fcallS (As := [vl ((nI 2).toInt64), vl 2, vl 5]) (rest := []) cx knX6_in (m_in (nI 2).toInt64 2 5) lmX6_60 nsX6_in rfl (by decide) (Nat.le_of_ble_eq_true rfl) rfl dX6_tell_57 ?_
    refine g_top (y := nI 1) (by decide) ?_
    refine g_if_eqN (tgt := 72) cx dX6_tell_60 (by decide) (by omega) (fun h_60 => ?_) (fun h_60 => ?_)
    · skip
      exact absurd h_60 (by decide)
    · skip
      refine g_aload_n cx dX6_tell_63 rfl ?_
      refine g_getR (i := (30, 0)) (ci := 6) (k := 7) (j := (35, 0)) cx a30_0 rfl rfl rfl (by decide) inX6 lfX6_27 dX6_tell_64 ?_
      refine g_iload_n cx dX6_tell_67 rfl ?_
      refine g_iload_n cx dX6_tell_68 rfl ?_
      refine g_iconst (v := nI 2) cx dX6_tell_69 (by decide) ?_
      refine g_isubN cx dX6_tell_70 (by omega) ?_
      refine g_top (y := nI 0) (by decide) ?_
      refine g_iast (i := (35, 0)) (j := a) cx a35_0 rfl (rfl) (by omega) (by decide) dX6_tell_71 ?_
      refine g_iload_n cx dX6_tell_72 rfl ?_
      refine g_bipush (v := nI 8) cx dX6_tell_73 (by decide) ?_
      refine g_icmp_neN (tgt := 101) cx dX6_tell_75 (by decide) (by omega) (by omega) (fun h_75 => ?_) (fun h_75 => ?_)
      · skip
        refine g_aload_n cx dX6_tell_101 rfl ?_
        refine g_iload_n cx dX6_tell_102 rfl ?_
        refine g_bipush (v := nI 9) cx dX6_tell_103 (by decide) ?_
        refine g_icmp_neN (tgt := 112) cx dX6_tell_105 (by decide) (by omega) (by omega) (fun h_105 => ?_) (fun h_105 => ?_)
        · skip
          refine g_aload_n cx dX6_tell_112 rfl ?_
          refine g_getIN (i := (30, 0)) (ci := 6) (k := 11) (v := nI T.2.1) cx a30_0 rfl rfl rfl (by decide) inX6 lfX6_153 dX6_tell_113 (by rw [upA_n _ _ (by decide)]; exact hL.2.1) ?_
          refine g_putI (i := (30, 0)) (ci := 6) (k := 11) cx a30_0 rfl rfl rfl (by decide) inX6 tyX6_ok nmX6 rfl rfl lfX6_153 dX6_tell_116 ?_
          exact g_vret cx rq rfl dX6_tell_119 ⟨rfl, by rw [self_pn (TLm.kd (a := a) (v := 0) hL (by decide)).2.1]; exact ⟨TLm.kd hL (by decide), TFm.kd⟩⟩
        · skip
          exact absurd h_105 (by decide)
      · skip
        exact absurd h_75 (by decide)
  · skip
    exact absurd h_17 (by decide)

set_option maxRecDepth 100000 in
set_option maxHeartbeats 4000000 in
theorem m_tell3 {E : Wd} {T : TL} (hL : TLm E T) {q : Nat} (hq : q < 12) {a : Nat} (hw : E (34, 0) (3 * q) = nI 3) (ha : E (34, 0) (3 * q + 1) = nI a) (ha8 : a < 8) : Mok mX6_tell idsA 1 [vr (30, 0), vi (nI (3 * q))] E (fun r' E' => r' = none ∧ (TLm E' (tlR T 3 a) ∧ TFm E E')) := by
  have hT5 := hL.2.2.1
  refine Mok.of (L := [some (vr (30, 0)), some (vi (nI (3 * q))), none, none, none]) rfl (fun _ => Nat.le_of_ble_eq_true rfl) (fun _ => rfl) (fun X cx rq => ?_)
  refine g_aload_n cx dX6_tell_0 rfl ?_
  refine g_getR (i := (30, 0)) (ci := 6) (k := 4) (j := (34, 0)) cx a30_0 rfl rfl rfl (by decide) inX6 lfX6_20 dX6_tell_1 ?_
  refine g_iload_n cx dX6_tell_4 rfl ?_
  refine g_iconst (v := nI 1) cx dX6_tell_5 (by decide) ?_
  refine g_iaddN cx dX6_tell_6 ?_
  refine g_ialdN (i := (34, 0)) (j := (3 * q) + 1) (v := nI a) cx a34_0 rfl (rfl) (by omega) (by decide) dX6_tell_7 (ha) ?_
  refine g_istore_n (L' := [some (vr (30, 0)), some (vi (nI (3 * q))), some (vi (nI a)), none, none]) cx dX6_tell_8 (by decide) rfl rfl ?_
  refine g_aload_n cx dX6_tell_9 rfl ?_
  refine g_getR (i := (30, 0)) (ci := 6) (k := 4) (j := (34, 0)) cx a30_0 rfl rfl rfl (by decide) inX6 lfX6_20 dX6_tell_10 ?_
  refine g_iload_n cx dX6_tell_13 rfl ?_
  refine g_ialdN (i := (34, 0)) (j := 3 * q) (v := nI 3) cx a34_0 rfl (rfl) (by omega) (by decide) dX6_tell_14 (hw) ?_
  refine g_istore_n (L' := [some (vr (30, 0)), some (vi (nI (3 * q))), some (vi (nI a)), some (vi (nI 3)), none]) cx dX6_tell_15 (by decide) rfl rfl ?_
  refine g_iload_n cx dX6_tell_16 rfl ?_
  refine g_if_neN (tgt := 49) cx dX6_tell_17 (by decide) (by omega) (fun h_17 => ?_) (fun h_17 => ?_)
  · skip
    refine g_iload_n cx dX6_tell_49 rfl ?_
    refine g_i2l cx dX6_tell_50 ?_
    refine g_ldc2 (v := 2) cx lcX6_159 dX6_tell_51 ?_
    refine g_ldc2 (v := 5) cx lcX6_161 dX6_tell_54 ?_
    refine g_fcallS (As := [vl ((nI 3).toInt64), vl 2, vl 5]) (rest := []) cx knX6_in (m_in (nI 3).toInt64 2 5) lmX6_60 nsX6_in rfl (by decide) (Nat.le_of_ble_eq_true rfl) rfl dX6_tell_57 ?_
    refine g_top (y := nI 1) (by decide) ?_
    refine g_if_eqN (tgt := 72) cx dX6_tell_60 (by decide) (by omega) (fun h_60 => ?_) (fun h_60 => ?_)
    · skip
      exact absurd h_60 (by decide)
    · skip
      refine g_aload_n cx dX6_tell_63 rfl ?_
      refine g_getR (i := (30, 0)) (ci := 6) (k := 7) (j := (35, 0)) cx a30_0 rfl rfl rfl (by decide) inX6 lfX6_27 dX6_tell_64 ?_
      refine g_iload_n cx dX6_tell_67 rfl ?_
      refine g_iload_n cx dX6_tell_68 rfl ?_
      refine g_iconst (v := nI 2) cx dX6_tell_69 (by decide) ?_
      refine g_isubN cx dX6_tell_70 (by omega) ?_
      refine g_top (y := nI 1) (by decide) ?_
      refine g_iast (i := (35, 0)) (j := a) cx a35_0 rfl (rfl) (by omega) (by decide) dX6_tell_71 ?_
      refine g_iload_n cx dX6_tell_72 rfl ?_
      refine g_bipush (v := nI 8) cx dX6_tell_73 (by decide) ?_
      refine g_icmp_neN (tgt := 101) cx dX6_tell_75 (by decide) (by omega) (by omega) (fun h_75 => ?_) (fun h_75 => ?_)
      · skip
        refine g_aload_n cx dX6_tell_101 rfl ?_
        refine g_iload_n cx dX6_tell_102 rfl ?_
        refine g_bipush (v := nI 9) cx dX6_tell_103 (by decide) ?_
        refine g_icmp_neN (tgt := 112) cx dX6_tell_105 (by decide) (by omega) (by omega) (fun h_105 => ?_) (fun h_105 => ?_)
        · skip
          refine g_aload_n cx dX6_tell_112 rfl ?_
          refine g_getIN (i := (30, 0)) (ci := 6) (k := 11) (v := nI T.2.1) cx a30_0 rfl rfl rfl (by decide) inX6 lfX6_153 dX6_tell_113 (by rw [upA_n _ _ (by decide)]; exact hL.2.1) ?_
          refine g_putI (i := (30, 0)) (ci := 6) (k := 11) cx a30_0 rfl rfl rfl (by decide) inX6 tyX6_ok nmX6 rfl rfl lfX6_153 dX6_tell_116 ?_
          exact g_vret cx rq rfl dX6_tell_119 ⟨rfl, by rw [self_pn (TLm.kd (a := a) (v := 1) hL (by decide)).2.1]; exact ⟨TLm.kd hL (by decide), TFm.kd⟩⟩
        · skip
          exact absurd h_105 (by decide)
      · skip
        exact absurd h_75 (by decide)
  · skip
    exact absurd h_17 (by decide)

set_option maxRecDepth 100000 in
set_option maxHeartbeats 4000000 in
theorem m_tell4 {E : Wd} {T : TL} (hL : TLm E T) {q : Nat} (hq : q < 12) {a : Nat} (hw : E (34, 0) (3 * q) = nI 4) (ha : E (34, 0) (3 * q + 1) = nI a) (ha8 : a < 8) : Mok mX6_tell idsA 1 [vr (30, 0), vi (nI (3 * q))] E (fun r' E' => r' = none ∧ (TLm E' (tlR T 4 a) ∧ TFm E E')) := by
  have hT5 := hL.2.2.1
  refine Mok.of (L := [some (vr (30, 0)), some (vi (nI (3 * q))), none, none, none]) rfl (fun _ => Nat.le_of_ble_eq_true rfl) (fun _ => rfl) (fun X cx rq => ?_)
  refine g_aload_n cx dX6_tell_0 rfl ?_
  refine g_getR (i := (30, 0)) (ci := 6) (k := 4) (j := (34, 0)) cx a30_0 rfl rfl rfl (by decide) inX6 lfX6_20 dX6_tell_1 ?_
  refine g_iload_n cx dX6_tell_4 rfl ?_
  refine g_iconst (v := nI 1) cx dX6_tell_5 (by decide) ?_
  refine g_iaddN cx dX6_tell_6 ?_
  refine g_ialdN (i := (34, 0)) (j := (3 * q) + 1) (v := nI a) cx a34_0 rfl (rfl) (by omega) (by decide) dX6_tell_7 (ha) ?_
  refine g_istore_n (L' := [some (vr (30, 0)), some (vi (nI (3 * q))), some (vi (nI a)), none, none]) cx dX6_tell_8 (by decide) rfl rfl ?_
  refine g_aload_n cx dX6_tell_9 rfl ?_
  refine g_getR (i := (30, 0)) (ci := 6) (k := 4) (j := (34, 0)) cx a30_0 rfl rfl rfl (by decide) inX6 lfX6_20 dX6_tell_10 ?_
  refine g_iload_n cx dX6_tell_13 rfl ?_
  refine g_ialdN (i := (34, 0)) (j := 3 * q) (v := nI 4) cx a34_0 rfl (rfl) (by omega) (by decide) dX6_tell_14 (hw) ?_
  refine g_istore_n (L' := [some (vr (30, 0)), some (vi (nI (3 * q))), some (vi (nI a)), some (vi (nI 4)), none]) cx dX6_tell_15 (by decide) rfl rfl ?_
  refine g_iload_n cx dX6_tell_16 rfl ?_
  refine g_if_neN (tgt := 49) cx dX6_tell_17 (by decide) (by omega) (fun h_17 => ?_) (fun h_17 => ?_)
  · skip
    refine g_iload_n cx dX6_tell_49 rfl ?_
    refine g_i2l cx dX6_tell_50 ?_
    refine g_ldc2 (v := 2) cx lcX6_159 dX6_tell_51 ?_
    refine g_ldc2 (v := 5) cx lcX6_161 dX6_tell_54 ?_
    refine g_fcallS (As := [vl ((nI 4).toInt64), vl 2, vl 5]) (rest := []) cx knX6_in (m_in (nI 4).toInt64 2 5) lmX6_60 nsX6_in rfl (by decide) (Nat.le_of_ble_eq_true rfl) rfl dX6_tell_57 ?_
    refine g_top (y := nI 1) (by decide) ?_
    refine g_if_eqN (tgt := 72) cx dX6_tell_60 (by decide) (by omega) (fun h_60 => ?_) (fun h_60 => ?_)
    · skip
      exact absurd h_60 (by decide)
    · skip
      refine g_aload_n cx dX6_tell_63 rfl ?_
      refine g_getR (i := (30, 0)) (ci := 6) (k := 7) (j := (35, 0)) cx a30_0 rfl rfl rfl (by decide) inX6 lfX6_27 dX6_tell_64 ?_
      refine g_iload_n cx dX6_tell_67 rfl ?_
      refine g_iload_n cx dX6_tell_68 rfl ?_
      refine g_iconst (v := nI 2) cx dX6_tell_69 (by decide) ?_
      refine g_isubN cx dX6_tell_70 (by omega) ?_
      refine g_top (y := nI 2) (by decide) ?_
      refine g_iast (i := (35, 0)) (j := a) cx a35_0 rfl (rfl) (by omega) (by decide) dX6_tell_71 ?_
      refine g_iload_n cx dX6_tell_72 rfl ?_
      refine g_bipush (v := nI 8) cx dX6_tell_73 (by decide) ?_
      refine g_icmp_neN (tgt := 101) cx dX6_tell_75 (by decide) (by omega) (by omega) (fun h_75 => ?_) (fun h_75 => ?_)
      · skip
        refine g_aload_n cx dX6_tell_101 rfl ?_
        refine g_iload_n cx dX6_tell_102 rfl ?_
        refine g_bipush (v := nI 9) cx dX6_tell_103 (by decide) ?_
        refine g_icmp_neN (tgt := 112) cx dX6_tell_105 (by decide) (by omega) (by omega) (fun h_105 => ?_) (fun h_105 => ?_)
        · skip
          refine g_aload_n cx dX6_tell_112 rfl ?_
          refine g_getIN (i := (30, 0)) (ci := 6) (k := 11) (v := nI T.2.1) cx a30_0 rfl rfl rfl (by decide) inX6 lfX6_153 dX6_tell_113 (by rw [upA_n _ _ (by decide)]; exact hL.2.1) ?_
          refine g_putI (i := (30, 0)) (ci := 6) (k := 11) cx a30_0 rfl rfl rfl (by decide) inX6 tyX6_ok nmX6 rfl rfl lfX6_153 dX6_tell_116 ?_
          exact g_vret cx rq rfl dX6_tell_119 ⟨rfl, by rw [self_pn (TLm.kd (a := a) (v := 2) hL (by decide)).2.1]; exact ⟨TLm.kd hL (by decide), TFm.kd⟩⟩
        · skip
          exact absurd h_105 (by decide)
      · skip
        exact absurd h_75 (by decide)
  · skip
    exact absurd h_17 (by decide)

set_option maxRecDepth 100000 in
set_option maxHeartbeats 4000000 in
theorem m_tell5 {E : Wd} {T : TL} (hL : TLm E T) {q : Nat} (hq : q < 12) {a : Nat} (hw : E (34, 0) (3 * q) = nI 5) (ha : E (34, 0) (3 * q + 1) = nI a) (ha8 : a < 8) : Mok mX6_tell idsA 1 [vr (30, 0), vi (nI (3 * q))] E (fun r' E' => r' = none ∧ (TLm E' (tlR T 5 a) ∧ TFm E E')) := by
  have hT5 := hL.2.2.1
  refine Mok.of (L := [some (vr (30, 0)), some (vi (nI (3 * q))), none, none, none]) rfl (fun _ => Nat.le_of_ble_eq_true rfl) (fun _ => rfl) (fun X cx rq => ?_)
  refine g_aload_n cx dX6_tell_0 rfl ?_
  refine g_getR (i := (30, 0)) (ci := 6) (k := 4) (j := (34, 0)) cx a30_0 rfl rfl rfl (by decide) inX6 lfX6_20 dX6_tell_1 ?_
  refine g_iload_n cx dX6_tell_4 rfl ?_
  refine g_iconst (v := nI 1) cx dX6_tell_5 (by decide) ?_
  refine g_iaddN cx dX6_tell_6 ?_
  refine g_ialdN (i := (34, 0)) (j := (3 * q) + 1) (v := nI a) cx a34_0 rfl (rfl) (by omega) (by decide) dX6_tell_7 (ha) ?_
  refine g_istore_n (L' := [some (vr (30, 0)), some (vi (nI (3 * q))), some (vi (nI a)), none, none]) cx dX6_tell_8 (by decide) rfl rfl ?_
  refine g_aload_n cx dX6_tell_9 rfl ?_
  refine g_getR (i := (30, 0)) (ci := 6) (k := 4) (j := (34, 0)) cx a30_0 rfl rfl rfl (by decide) inX6 lfX6_20 dX6_tell_10 ?_
  refine g_iload_n cx dX6_tell_13 rfl ?_
  refine g_ialdN (i := (34, 0)) (j := 3 * q) (v := nI 5) cx a34_0 rfl (rfl) (by omega) (by decide) dX6_tell_14 (hw) ?_
  refine g_istore_n (L' := [some (vr (30, 0)), some (vi (nI (3 * q))), some (vi (nI a)), some (vi (nI 5)), none]) cx dX6_tell_15 (by decide) rfl rfl ?_
  refine g_iload_n cx dX6_tell_16 rfl ?_
  refine g_if_neN (tgt := 49) cx dX6_tell_17 (by decide) (by omega) (fun h_17 => ?_) (fun h_17 => ?_)
  · skip
    refine g_iload_n cx dX6_tell_49 rfl ?_
    refine g_i2l cx dX6_tell_50 ?_
    refine g_ldc2 (v := 2) cx lcX6_159 dX6_tell_51 ?_
    refine g_ldc2 (v := 5) cx lcX6_161 dX6_tell_54 ?_
    refine g_fcallS (As := [vl ((nI 5).toInt64), vl 2, vl 5]) (rest := []) cx knX6_in (m_in (nI 5).toInt64 2 5) lmX6_60 nsX6_in rfl (by decide) (Nat.le_of_ble_eq_true rfl) rfl dX6_tell_57 ?_
    refine g_top (y := nI 1) (by decide) ?_
    refine g_if_eqN (tgt := 72) cx dX6_tell_60 (by decide) (by omega) (fun h_60 => ?_) (fun h_60 => ?_)
    · skip
      exact absurd h_60 (by decide)
    · skip
      refine g_aload_n cx dX6_tell_63 rfl ?_
      refine g_getR (i := (30, 0)) (ci := 6) (k := 7) (j := (35, 0)) cx a30_0 rfl rfl rfl (by decide) inX6 lfX6_27 dX6_tell_64 ?_
      refine g_iload_n cx dX6_tell_67 rfl ?_
      refine g_iload_n cx dX6_tell_68 rfl ?_
      refine g_iconst (v := nI 2) cx dX6_tell_69 (by decide) ?_
      refine g_isubN cx dX6_tell_70 (by omega) ?_
      refine g_top (y := nI 3) (by decide) ?_
      refine g_iast (i := (35, 0)) (j := a) cx a35_0 rfl (rfl) (by omega) (by decide) dX6_tell_71 ?_
      refine g_iload_n cx dX6_tell_72 rfl ?_
      refine g_bipush (v := nI 8) cx dX6_tell_73 (by decide) ?_
      refine g_icmp_neN (tgt := 101) cx dX6_tell_75 (by decide) (by omega) (by omega) (fun h_75 => ?_) (fun h_75 => ?_)
      · skip
        refine g_aload_n cx dX6_tell_101 rfl ?_
        refine g_iload_n cx dX6_tell_102 rfl ?_
        refine g_bipush (v := nI 9) cx dX6_tell_103 (by decide) ?_
        refine g_icmp_neN (tgt := 112) cx dX6_tell_105 (by decide) (by omega) (by omega) (fun h_105 => ?_) (fun h_105 => ?_)
        · skip
          refine g_aload_n cx dX6_tell_112 rfl ?_
          refine g_getIN (i := (30, 0)) (ci := 6) (k := 11) (v := nI T.2.1) cx a30_0 rfl rfl rfl (by decide) inX6 lfX6_153 dX6_tell_113 (by rw [upA_n _ _ (by decide)]; exact hL.2.1) ?_
          refine g_putI (i := (30, 0)) (ci := 6) (k := 11) cx a30_0 rfl rfl rfl (by decide) inX6 tyX6_ok nmX6 rfl rfl lfX6_153 dX6_tell_116 ?_
          exact g_vret cx rq rfl dX6_tell_119 ⟨rfl, by rw [self_pn (TLm.kd (a := a) (v := 3) hL (by decide)).2.1]; exact ⟨TLm.kd hL (by decide), TFm.kd⟩⟩
        · skip
          exact absurd h_105 (by decide)
      · skip
        exact absurd h_75 (by decide)
  · skip
    exact absurd h_17 (by decide)

set_option maxRecDepth 100000 in
set_option maxHeartbeats 4000000 in
theorem m_tell6 {E : Wd} {T : TL} (hL : TLm E T) {q : Nat} (hq : q < 12) {a : Nat} (hw : E (34, 0) (3 * q) = nI 6) (ha : E (34, 0) (3 * q + 1) = nI a) : Mok mX6_tell idsA 1 [vr (30, 0), vi (nI (3 * q))] E (fun r' E' => r' = none ∧ (TLm E' (tlR T 6 a) ∧ TFm E E')) := by
  have hT5 := hL.2.2.1
  refine Mok.of (L := [some (vr (30, 0)), some (vi (nI (3 * q))), none, none, none]) rfl (fun _ => Nat.le_of_ble_eq_true rfl) (fun _ => rfl) (fun X cx rq => ?_)
  refine g_aload_n cx dX6_tell_0 rfl ?_
  refine g_getR (i := (30, 0)) (ci := 6) (k := 4) (j := (34, 0)) cx a30_0 rfl rfl rfl (by decide) inX6 lfX6_20 dX6_tell_1 ?_
  refine g_iload_n cx dX6_tell_4 rfl ?_
  refine g_iconst (v := nI 1) cx dX6_tell_5 (by decide) ?_
  refine g_iaddN cx dX6_tell_6 ?_
  refine g_ialdN (i := (34, 0)) (j := (3 * q) + 1) (v := nI a) cx a34_0 rfl (rfl) (by omega) (by decide) dX6_tell_7 (ha) ?_
  refine g_istore_n (L' := [some (vr (30, 0)), some (vi (nI (3 * q))), some (vi (nI a)), none, none]) cx dX6_tell_8 (by decide) rfl rfl ?_
  refine g_aload_n cx dX6_tell_9 rfl ?_
  refine g_getR (i := (30, 0)) (ci := 6) (k := 4) (j := (34, 0)) cx a30_0 rfl rfl rfl (by decide) inX6 lfX6_20 dX6_tell_10 ?_
  refine g_iload_n cx dX6_tell_13 rfl ?_
  refine g_ialdN (i := (34, 0)) (j := 3 * q) (v := nI 6) cx a34_0 rfl (rfl) (by omega) (by decide) dX6_tell_14 (hw) ?_
  refine g_istore_n (L' := [some (vr (30, 0)), some (vi (nI (3 * q))), some (vi (nI a)), some (vi (nI 6)), none]) cx dX6_tell_15 (by decide) rfl rfl ?_
  refine g_iload_n cx dX6_tell_16 rfl ?_
  refine g_if_neN (tgt := 49) cx dX6_tell_17 (by decide) (by omega) (fun h_17 => ?_) (fun h_17 => ?_)
  · skip
    refine g_iload_n cx dX6_tell_49 rfl ?_
    refine g_i2l cx dX6_tell_50 ?_
    refine g_ldc2 (v := 2) cx lcX6_159 dX6_tell_51 ?_
    refine g_ldc2 (v := 5) cx lcX6_161 dX6_tell_54 ?_
    refine g_fcallS (As := [vl ((nI 6).toInt64), vl 2, vl 5]) (rest := []) cx knX6_in (m_in (nI 6).toInt64 2 5) lmX6_60 nsX6_in rfl (by decide) (Nat.le_of_ble_eq_true rfl) rfl dX6_tell_57 ?_
    refine g_top (y := nI 0) (by decide) ?_
    refine g_if_eqN (tgt := 72) cx dX6_tell_60 (by decide) (by omega) (fun h_60 => ?_) (fun h_60 => ?_)
    · skip
      refine g_iload_n cx dX6_tell_72 rfl ?_
      refine g_bipush (v := nI 8) cx dX6_tell_73 (by decide) ?_
      refine g_icmp_neN (tgt := 101) cx dX6_tell_75 (by decide) (by omega) (by omega) (fun h_75 => ?_) (fun h_75 => ?_)
      · skip
        refine g_aload_n cx dX6_tell_101 rfl ?_
        refine g_iload_n cx dX6_tell_102 rfl ?_
        refine g_bipush (v := nI 9) cx dX6_tell_103 (by decide) ?_
        refine g_icmp_neN (tgt := 112) cx dX6_tell_105 (by decide) (by omega) (by omega) (fun h_105 => ?_) (fun h_105 => ?_)
        · skip
          refine g_aload_n cx dX6_tell_112 rfl ?_
          refine g_getIN (i := (30, 0)) (ci := 6) (k := 11) (v := nI T.2.1) cx a30_0 rfl rfl rfl (by decide) inX6 lfX6_153 dX6_tell_113 (hL.2.1) ?_
          refine g_putI (i := (30, 0)) (ci := 6) (k := 11) cx a30_0 rfl rfl rfl (by decide) inX6 tyX6_ok nmX6 rfl rfl lfX6_153 dX6_tell_116 ?_
          exact g_vret cx rq rfl dX6_tell_119 ⟨rfl, by rw [self_pn hL.2.1]; exact ⟨hL, TFm.refl E⟩⟩
        · skip
          exact absurd h_105 (by decide)
      · skip
        exact absurd h_75 (by decide)
    · skip
      exact absurd rfl h_60
  · skip
    exact absurd h_17 (by decide)

set_option maxRecDepth 100000 in
set_option maxHeartbeats 4000000 in
theorem m_tell7 {E : Wd} {T : TL} (hL : TLm E T) {q : Nat} (hq : q < 12) {a : Nat} (hw : E (34, 0) (3 * q) = nI 7) (ha : E (34, 0) (3 * q + 1) = nI a) : Mok mX6_tell idsA 1 [vr (30, 0), vi (nI (3 * q))] E (fun r' E' => r' = none ∧ (TLm E' (tlR T 7 a) ∧ TFm E E')) := by
  have hT5 := hL.2.2.1
  refine Mok.of (L := [some (vr (30, 0)), some (vi (nI (3 * q))), none, none, none]) rfl (fun _ => Nat.le_of_ble_eq_true rfl) (fun _ => rfl) (fun X cx rq => ?_)
  refine g_aload_n cx dX6_tell_0 rfl ?_
  refine g_getR (i := (30, 0)) (ci := 6) (k := 4) (j := (34, 0)) cx a30_0 rfl rfl rfl (by decide) inX6 lfX6_20 dX6_tell_1 ?_
  refine g_iload_n cx dX6_tell_4 rfl ?_
  refine g_iconst (v := nI 1) cx dX6_tell_5 (by decide) ?_
  refine g_iaddN cx dX6_tell_6 ?_
  refine g_ialdN (i := (34, 0)) (j := (3 * q) + 1) (v := nI a) cx a34_0 rfl (rfl) (by omega) (by decide) dX6_tell_7 (ha) ?_
  refine g_istore_n (L' := [some (vr (30, 0)), some (vi (nI (3 * q))), some (vi (nI a)), none, none]) cx dX6_tell_8 (by decide) rfl rfl ?_
  refine g_aload_n cx dX6_tell_9 rfl ?_
  refine g_getR (i := (30, 0)) (ci := 6) (k := 4) (j := (34, 0)) cx a30_0 rfl rfl rfl (by decide) inX6 lfX6_20 dX6_tell_10 ?_
  refine g_iload_n cx dX6_tell_13 rfl ?_
  refine g_ialdN (i := (34, 0)) (j := 3 * q) (v := nI 7) cx a34_0 rfl (rfl) (by omega) (by decide) dX6_tell_14 (hw) ?_
  refine g_istore_n (L' := [some (vr (30, 0)), some (vi (nI (3 * q))), some (vi (nI a)), some (vi (nI 7)), none]) cx dX6_tell_15 (by decide) rfl rfl ?_
  refine g_iload_n cx dX6_tell_16 rfl ?_
  refine g_if_neN (tgt := 49) cx dX6_tell_17 (by decide) (by omega) (fun h_17 => ?_) (fun h_17 => ?_)
  · skip
    refine g_iload_n cx dX6_tell_49 rfl ?_
    refine g_i2l cx dX6_tell_50 ?_
    refine g_ldc2 (v := 2) cx lcX6_159 dX6_tell_51 ?_
    refine g_ldc2 (v := 5) cx lcX6_161 dX6_tell_54 ?_
    refine g_fcallS (As := [vl ((nI 7).toInt64), vl 2, vl 5]) (rest := []) cx knX6_in (m_in (nI 7).toInt64 2 5) lmX6_60 nsX6_in rfl (by decide) (Nat.le_of_ble_eq_true rfl) rfl dX6_tell_57 ?_
    refine g_top (y := nI 0) (by decide) ?_
    refine g_if_eqN (tgt := 72) cx dX6_tell_60 (by decide) (by omega) (fun h_60 => ?_) (fun h_60 => ?_)
    · skip
      refine g_iload_n cx dX6_tell_72 rfl ?_
      refine g_bipush (v := nI 8) cx dX6_tell_73 (by decide) ?_
      refine g_icmp_neN (tgt := 101) cx dX6_tell_75 (by decide) (by omega) (by omega) (fun h_75 => ?_) (fun h_75 => ?_)
      · skip
        refine g_aload_n cx dX6_tell_101 rfl ?_
        refine g_iload_n cx dX6_tell_102 rfl ?_
        refine g_bipush (v := nI 9) cx dX6_tell_103 (by decide) ?_
        refine g_icmp_neN (tgt := 112) cx dX6_tell_105 (by decide) (by omega) (by omega) (fun h_105 => ?_) (fun h_105 => ?_)
        · skip
          refine g_aload_n cx dX6_tell_112 rfl ?_
          refine g_getIN (i := (30, 0)) (ci := 6) (k := 11) (v := nI T.2.1) cx a30_0 rfl rfl rfl (by decide) inX6 lfX6_153 dX6_tell_113 (hL.2.1) ?_
          refine g_putI (i := (30, 0)) (ci := 6) (k := 11) cx a30_0 rfl rfl rfl (by decide) inX6 tyX6_ok nmX6 rfl rfl lfX6_153 dX6_tell_116 ?_
          exact g_vret cx rq rfl dX6_tell_119 ⟨rfl, by rw [self_pn hL.2.1]; exact ⟨hL, TFm.refl E⟩⟩
        · skip
          exact absurd h_105 (by decide)
      · skip
        exact absurd h_75 (by decide)
    · skip
      exact absurd rfl h_60
  · skip
    exact absurd h_17 (by decide)

set_option maxRecDepth 100000 in
set_option maxHeartbeats 4000000 in
theorem m_tell8 {E : Wd} {T : TL} (hL : TLm E T) {q : Nat} (hq : q < 12) {a : Nat} (hw : E (34, 0) (3 * q) = nI 8) (ha : E (34, 0) (3 * q + 1) = nI a) (hp4 : T.2.1 < 5) : Mok mX6_tell idsA 1 [vr (30, 0), vi (nI (3 * q))] E (fun r' E' => r' = none ∧ (TLm E' (tlR T 8 a) ∧ TFm E E')) := by
  have hT5 := hL.2.2.1
  refine Mok.of (L := [some (vr (30, 0)), some (vi (nI (3 * q))), none, none, none]) rfl (fun _ => Nat.le_of_ble_eq_true rfl) (fun _ => rfl) (fun X cx rq => ?_)
  refine g_aload_n cx dX6_tell_0 rfl ?_
  refine g_getR (i := (30, 0)) (ci := 6) (k := 4) (j := (34, 0)) cx a30_0 rfl rfl rfl (by decide) inX6 lfX6_20 dX6_tell_1 ?_
  refine g_iload_n cx dX6_tell_4 rfl ?_
  refine g_iconst (v := nI 1) cx dX6_tell_5 (by decide) ?_
  refine g_iaddN cx dX6_tell_6 ?_
  refine g_ialdN (i := (34, 0)) (j := (3 * q) + 1) (v := nI a) cx a34_0 rfl (rfl) (by omega) (by decide) dX6_tell_7 (ha) ?_
  refine g_istore_n (L' := [some (vr (30, 0)), some (vi (nI (3 * q))), some (vi (nI a)), none, none]) cx dX6_tell_8 (by decide) rfl rfl ?_
  refine g_aload_n cx dX6_tell_9 rfl ?_
  refine g_getR (i := (30, 0)) (ci := 6) (k := 4) (j := (34, 0)) cx a30_0 rfl rfl rfl (by decide) inX6 lfX6_20 dX6_tell_10 ?_
  refine g_iload_n cx dX6_tell_13 rfl ?_
  refine g_ialdN (i := (34, 0)) (j := 3 * q) (v := nI 8) cx a34_0 rfl (rfl) (by omega) (by decide) dX6_tell_14 (hw) ?_
  refine g_istore_n (L' := [some (vr (30, 0)), some (vi (nI (3 * q))), some (vi (nI a)), some (vi (nI 8)), none]) cx dX6_tell_15 (by decide) rfl rfl ?_
  refine g_iload_n cx dX6_tell_16 rfl ?_
  refine g_if_neN (tgt := 49) cx dX6_tell_17 (by decide) (by omega) (fun h_17 => ?_) (fun h_17 => ?_)
  · skip
    refine g_iload_n cx dX6_tell_49 rfl ?_
    refine g_i2l cx dX6_tell_50 ?_
    refine g_ldc2 (v := 2) cx lcX6_159 dX6_tell_51 ?_
    refine g_ldc2 (v := 5) cx lcX6_161 dX6_tell_54 ?_
    refine g_fcallS (As := [vl ((nI 8).toInt64), vl 2, vl 5]) (rest := []) cx knX6_in (m_in (nI 8).toInt64 2 5) lmX6_60 nsX6_in rfl (by decide) (Nat.le_of_ble_eq_true rfl) rfl dX6_tell_57 ?_
    refine g_top (y := nI 0) (by decide) ?_
    refine g_if_eqN (tgt := 72) cx dX6_tell_60 (by decide) (by omega) (fun h_60 => ?_) (fun h_60 => ?_)
    · skip
      refine g_iload_n cx dX6_tell_72 rfl ?_
      refine g_bipush (v := nI 8) cx dX6_tell_73 (by decide) ?_
      refine g_icmp_neN (tgt := 101) cx dX6_tell_75 (by decide) (by omega) (by omega) (fun h_75 => ?_) (fun h_75 => ?_)
      · skip
        exact absurd rfl h_75
      · skip
        refine g_aload_n cx dX6_tell_78 rfl ?_
        refine g_getR (i := (30, 0)) (ci := 6) (k := 0) (j := (31, 0)) cx a30_0 rfl rfl rfl (by decide) inX6 lfX6_7 dX6_tell_79 ?_
        refine g_bipush (v := nI 64) cx dX6_tell_82 (by decide) ?_
        refine g_aload_n cx dX6_tell_84 rfl ?_
        refine g_getIN (i := (30, 0)) (ci := 6) (k := 11) (v := nI T.2.1) cx a30_0 rfl rfl rfl (by decide) inX6 lfX6_153 dX6_tell_85 (hL.2.1) ?_
        refine g_iaddN cx dX6_tell_88 ?_
        refine g_iload_n cx dX6_tell_89 rfl ?_
        refine g_iast (i := (31, 0)) (j := 64 + T.2.1) cx a31_0 rfl (rfl) (by omega) (by decide) dX6_tell_90 ?_
        refine g_aload_n cx dX6_tell_91 rfl ?_
        refine g_dup cx dX6_tell_92 rfl ?_
        refine g_getIN (i := (30, 0)) (ci := 6) (k := 11) (v := nI T.2.1) cx a30_0 rfl rfl rfl (by decide) inX6 lfX6_153 dX6_tell_93 (by rw [upA_n _ _ (by decide)]; exact hL.2.1) ?_
        refine g_iconst (v := nI 1) cx dX6_tell_96 (by decide) ?_
        refine g_iaddN cx dX6_tell_97 ?_
        refine g_putI (i := (30, 0)) (ci := 6) (k := 11) cx a30_0 rfl rfl rfl (by decide) inX6 tyX6_ok nmX6 rfl rfl lfX6_153 dX6_tell_98 ?_
        refine g_aload_n cx dX6_tell_101 rfl ?_
        refine g_iload_n cx dX6_tell_102 rfl ?_
        refine g_bipush (v := nI 9) cx dX6_tell_103 (by decide) ?_
        refine g_icmp_neN (tgt := 112) cx dX6_tell_105 (by decide) (by omega) (by omega) (fun h_105 => ?_) (fun h_105 => ?_)
        · skip
          refine g_aload_n cx dX6_tell_112 rfl ?_
          refine g_getIN (i := (30, 0)) (ci := 6) (k := 11) (v := nI (T.2.1 + 1)) cx a30_0 rfl rfl rfl (by decide) inX6 lfX6_153 dX6_tell_113 (by rw [upA_s]; rfl) ?_
          refine g_putI (i := (30, 0)) (ci := 6) (k := 11) cx a30_0 rfl rfl rfl (by decide) inX6 tyX6_ok nmX6 rfl rfl lfX6_153 dX6_tell_116 ?_
          exact g_vret cx rq rfl dX6_tell_119 ⟨rfl, by rw [self_pn (TLm.pl (a := a) hL hp4).2.1]; exact ⟨TLm.pl hL hp4, (TFm.pl (by omega)).trans TFm.pn⟩⟩
        · skip
          exact absurd h_105 (by decide)
    · skip
      exact absurd rfl h_60
  · skip
    exact absurd h_17 (by decide)

set_option maxRecDepth 100000 in
set_option maxHeartbeats 4000000 in
theorem m_tell9 {E : Wd} {T : TL} (hL : TLm E T) {q : Nat} (hq : q < 12) {a : Nat} (hw : E (34, 0) (3 * q) = nI 9) : Mok mX6_tell idsA 1 [vr (30, 0), vi (nI (3 * q))] E (fun r' E' => r' = none ∧ (TLm E' (tlR T 9 0) ∧ TFm E E')) := by
  have hT5 := hL.2.2.1
  refine Mok.of (L := [some (vr (30, 0)), some (vi (nI (3 * q))), none, none, none]) rfl (fun _ => Nat.le_of_ble_eq_true rfl) (fun _ => rfl) (fun X cx rq => ?_)
  refine g_aload_n cx dX6_tell_0 rfl ?_
  refine g_getR (i := (30, 0)) (ci := 6) (k := 4) (j := (34, 0)) cx a30_0 rfl rfl rfl (by decide) inX6 lfX6_20 dX6_tell_1 ?_
  refine g_iload_n cx dX6_tell_4 rfl ?_
  refine g_iconst (v := nI 1) cx dX6_tell_5 (by decide) ?_
  refine g_iaddN cx dX6_tell_6 ?_
  refine g_iald (i := (34, 0)) (j := (3 * q) + 1) cx a34_0 rfl (rfl) (by omega) (by decide) dX6_tell_7 ?_
  refine g_istore_n (L' := [some (vr (30, 0)), some (vi (nI (3 * q))), some (vi (E (34, 0) ((3 * q) + 1))), none, none]) cx dX6_tell_8 (by decide) rfl rfl ?_
  refine g_aload_n cx dX6_tell_9 rfl ?_
  refine g_getR (i := (30, 0)) (ci := 6) (k := 4) (j := (34, 0)) cx a30_0 rfl rfl rfl (by decide) inX6 lfX6_20 dX6_tell_10 ?_
  refine g_iload_n cx dX6_tell_13 rfl ?_
  refine g_ialdN (i := (34, 0)) (j := 3 * q) (v := nI 9) cx a34_0 rfl (rfl) (by omega) (by decide) dX6_tell_14 (hw) ?_
  refine g_istore_n (L' := [some (vr (30, 0)), some (vi (nI (3 * q))), some (vi (E (34, 0) ((3 * q) + 1))), some (vi (nI 9)), none]) cx dX6_tell_15 (by decide) rfl rfl ?_
  refine g_iload_n cx dX6_tell_16 rfl ?_
  refine g_if_neN (tgt := 49) cx dX6_tell_17 (by decide) (by omega) (fun h_17 => ?_) (fun h_17 => ?_)
  · skip
    refine g_iload_n cx dX6_tell_49 rfl ?_
    refine g_i2l cx dX6_tell_50 ?_
    refine g_ldc2 (v := 2) cx lcX6_159 dX6_tell_51 ?_
    refine g_ldc2 (v := 5) cx lcX6_161 dX6_tell_54 ?_
    refine g_fcallS (As := [vl ((nI 9).toInt64), vl 2, vl 5]) (rest := []) cx knX6_in (m_in (nI 9).toInt64 2 5) lmX6_60 nsX6_in rfl (by decide) (Nat.le_of_ble_eq_true rfl) rfl dX6_tell_57 ?_
    refine g_top (y := nI 0) (by decide) ?_
    refine g_if_eqN (tgt := 72) cx dX6_tell_60 (by decide) (by omega) (fun h_60 => ?_) (fun h_60 => ?_)
    · skip
      refine g_iload_n cx dX6_tell_72 rfl ?_
      refine g_bipush (v := nI 8) cx dX6_tell_73 (by decide) ?_
      refine g_icmp_neN (tgt := 101) cx dX6_tell_75 (by decide) (by omega) (by omega) (fun h_75 => ?_) (fun h_75 => ?_)
      · skip
        refine g_aload_n cx dX6_tell_101 rfl ?_
        refine g_iload_n cx dX6_tell_102 rfl ?_
        refine g_bipush (v := nI 9) cx dX6_tell_103 (by decide) ?_
        refine g_icmp_neN (tgt := 112) cx dX6_tell_105 (by decide) (by omega) (by omega) (fun h_105 => ?_) (fun h_105 => ?_)
        · skip
          exact absurd rfl h_105
        · skip
          refine g_iconst (v := nI 0) cx dX6_tell_108 (by decide) ?_
          refine g_goto (tgt := 116) cx dX6_tell_109 (by decide) ?_
          refine g_putI (i := (30, 0)) (ci := 6) (k := 11) cx a30_0 rfl rfl rfl (by decide) inX6 tyX6_ok nmX6 rfl rfl lfX6_153 dX6_tell_116 ?_
          exact g_vret cx rq rfl dX6_tell_119 ⟨rfl, ⟨TLm.pn hL (Nat.zero_le _), TFm.pn⟩⟩
      · skip
        exact absurd h_75 (by decide)
    · skip
      exact absurd rfl h_60
  · skip
    exact absurd h_17 (by decide)
theorem m_tell {E : Wd} {T : TL} (hL : TLm E T) {q : Nat} (hq : q < 12) {w a : Nat} (hw10 : w < 10) (hw : E (34, 0) (3 * q) = nI w) (ha : w ≠ 9 → E (34, 0) (3 * q + 1) = nI a) (ha8 : (w = 2 ∨ w = 3 ∨ w = 4 ∨ w = 5) → a < 8) (hp4 : w = 8 → T.2.1 < 5) : Mok mX6_tell idsA 1 [vr (30, 0), vi (nI (3 * q))] E (fun r' E' => r' = none ∧ (TLm E' (tlR T w a) ∧ TFm E E')) := by
  have hc : w = 0 ∨ w = 1 ∨ w = 2 ∨ w = 3 ∨ w = 4 ∨ w = 5 ∨ w = 6 ∨ w = 7 ∨ w = 8 ∨ w = 9 := by omega
  rcases hc with rfl | rfl | rfl | rfl | rfl | rfl | rfl | rfl | rfl | rfl
  · exact m_tell0 hL hq hw (ha (by decide))
  · exact m_tell1 hL hq hw (ha (by decide))
  · exact m_tell2 hL hq hw (ha (by decide)) (ha8 (by decide))
  · exact m_tell3 hL hq hw (ha (by decide)) (ha8 (by decide))
  · exact m_tell4 hL hq hw (ha (by decide)) (ha8 (by decide))
  · exact m_tell5 hL hq hw (ha (by decide)) (ha8 (by decide))
  · exact m_tell6 hL hq hw (ha (by decide))
  · exact m_tell7 hL hq hw (ha (by decide))
  · exact m_tell8 hL hq hw (ha (by decide)) (hp4 rfl)
  · exact m_tell9 (a := 0) hL hq hw
