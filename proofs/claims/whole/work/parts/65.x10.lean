theorem m1_ltN {m : Nat} (h : m < 1000) : (-1 : Int32) < nI m := by
  rw [Int32.lt_iff_toInt_lt, nI_toInt (by omega), show (-1 : Int32).toInt = -1 from by decide]; omega
theorem newD_y {R : RS} {a : Nat} (h : newD R a = true) : R.2.2.2.1 < 3 ∧ ¬ anyB (fun j => decide (R.2.2.2.2.1 j = a)) R.2.2.2.1 = true := by
  unfold newD at h
  simp only [Bool.and_eq_true, decide_eq_true_eq, Bool.not_eq_true'] at h
  exact ⟨h.1.2, by rw [h.2]; decide⟩
theorem newD_t {R : RS} {a : Nat} (h1 : a < 72) (h2 : R.2.2.2.1 < 3) (h3 : ¬ anyB (fun j => decide (R.2.2.2.2.1 j = a)) R.2.2.2.1 = true) : newD R a = true := by
  unfold newD
  simp only [Bool.and_eq_true, decide_eq_true_eq, Bool.not_eq_true']
  exact ⟨⟨h1, h2⟩, by simpa using h3⟩
set_option maxRecDepth 100000 in
set_option maxHeartbeats 4000000 in
theorem x_pcopy01 {F : Wd} : Mok mX1_copy idsA 1 [vr (1, 1), vr (1, 0)] F (fun r' E' => r' = none ∧ CpF F E' 0 1) := by
  refine Mok.of (L := [some (vr (1, 1)), some (vr (1, 0))]) rfl (fun _ => Nat.le_of_ble_eq_true rfl) (fun _ => rfl) (fun X cx rq => ?_)
  refine g_aload_n cx dX1_copy_0 rfl ?_
  refine g_aload_n cx dX1_copy_1 rfl ?_
  refine g_getI (i := (1, 0)) (ci := 1) (k := 0) cx a1_0 rfl rfl rfl (by decide) inX1 lfX1_27 dX1_copy_2 ?_
  refine g_putI (i := (1, 1)) (ci := 1) (k := 0) cx a1_1 rfl rfl rfl (by decide) inX1 tyX1_ok nmX1 rfl rfl lfX1_27 dX1_copy_5 ?_
  refine g_aload_n cx dX1_copy_8 rfl ?_
  refine g_getR (i := (1, 0)) (ci := 1) (k := 1) (j := (2, 0)) cx a1_0 rfl rfl rfl (by decide) inX1 lfX1_9 dX1_copy_9 ?_
  refine g_iconst (v := nI 0) cx dX1_copy_12 (by decide) ?_
  refine g_aload_n cx dX1_copy_13 rfl ?_
  refine g_getR (i := (1, 1)) (ci := 1) (k := 1) (j := (2, 1)) cx a1_1 rfl rfl rfl (by decide) inX1 lfX1_9 dX1_copy_14 ?_
  refine g_iconst (v := nI 0) cx dX1_copy_17 (by decide) ?_
  refine g_bipush (v := nI 8) cx dX1_copy_18 (by decide) ?_
  refine g_copy (rest := []) (i := (2, 0)) (j := (2, 1)) (n := 8) cx a2_0 a2_1 rfl rfl rfl (by decide) (by decide) (by decide) (by decide) (by decide) lmX1_37 nnCopy nsCopy nzJ10 (Nat.le_of_ble_eq_true rfl) (by decide) dX1_copy_20 ?_
  refine g_aload_n cx dX1_copy_23 rfl ?_
  refine g_getR (i := (1, 0)) (ci := 1) (k := 2) (j := (3, 0)) cx a1_0 rfl rfl rfl (by decide) inX1 lfX1_15 dX1_copy_24 ?_
  refine g_iconst (v := nI 0) cx dX1_copy_27 (by decide) ?_
  refine g_aload_n cx dX1_copy_28 rfl ?_
  refine g_getR (i := (1, 1)) (ci := 1) (k := 2) (j := (3, 1)) cx a1_1 rfl rfl rfl (by decide) inX1 lfX1_15 dX1_copy_29 ?_
  refine g_iconst (v := nI 0) cx dX1_copy_32 (by decide) ?_
  refine g_bipush (v := nI 8) cx dX1_copy_33 (by decide) ?_
  refine g_copy (rest := []) (i := (3, 0)) (j := (3, 1)) (n := 8) cx a3_0 a3_1 rfl rfl rfl (by decide) (by decide) (by decide) (by decide) (by decide) lmX1_37 nnCopy nsCopy nzJ10 (Nat.le_of_ble_eq_true rfl) (by decide) dX1_copy_35 ?_
  refine g_aload_n cx dX1_copy_38 rfl ?_
  refine g_getR (i := (1, 0)) (ci := 1) (k := 3) (j := (4, 0)) cx a1_0 rfl rfl rfl (by decide) inX1 lfX1_18 dX1_copy_39 ?_
  refine g_iconst (v := nI 0) cx dX1_copy_42 (by decide) ?_
  refine g_aload_n cx dX1_copy_43 rfl ?_
  refine g_getR (i := (1, 1)) (ci := 1) (k := 3) (j := (4, 1)) cx a1_1 rfl rfl rfl (by decide) inX1 lfX1_18 dX1_copy_44 ?_
  refine g_iconst (v := nI 0) cx dX1_copy_47 (by decide) ?_
  refine g_bipush (v := nI 8) cx dX1_copy_48 (by decide) ?_
  refine g_copy (rest := []) (i := (4, 0)) (j := (4, 1)) (n := 8) cx a4_0 a4_1 rfl rfl rfl (by decide) (by decide) (by decide) (by decide) (by decide) lmX1_37 nnCopy nsCopy nzJ10 (Nat.le_of_ble_eq_true rfl) (by decide) dX1_copy_50 ?_
  refine g_aload_n cx dX1_copy_53 rfl ?_
  refine g_aload_n cx dX1_copy_54 rfl ?_
  refine g_getI (i := (1, 0)) (ci := 1) (k := 4) cx a1_0 rfl rfl rfl (by decide) inX1 lfX1_31 dX1_copy_55 ?_
  refine g_putI (i := (1, 1)) (ci := 1) (k := 4) cx a1_1 rfl rfl rfl (by decide) inX1 tyX1_ok nmX1 rfl rfl lfX1_31 dX1_copy_58 ?_
  refine g_aload_n cx dX1_copy_61 rfl ?_
  refine g_getR (i := (1, 0)) (ci := 1) (k := 5) (j := (5, 0)) cx a1_0 rfl rfl rfl (by decide) inX1 lfX1_21 dX1_copy_62 ?_
  refine g_iconst (v := nI 0) cx dX1_copy_65 (by decide) ?_
  refine g_aload_n cx dX1_copy_66 rfl ?_
  refine g_getR (i := (1, 1)) (ci := 1) (k := 5) (j := (5, 1)) cx a1_1 rfl rfl rfl (by decide) inX1 lfX1_21 dX1_copy_67 ?_
  refine g_iconst (v := nI 0) cx dX1_copy_70 (by decide) ?_
  refine g_iconst (v := nI 3) cx dX1_copy_71 (by decide) ?_
  refine g_copy (rest := []) (i := (5, 0)) (j := (5, 1)) (n := 3) cx a5_0 a5_1 rfl rfl rfl (by decide) (by decide) (by decide) (by decide) (by decide) lmX1_37 nnCopy nsCopy nzJ10 (Nat.le_of_ble_eq_true rfl) (by decide) dX1_copy_72 ?_
  refine g_aload_n cx dX1_copy_75 rfl ?_
  refine g_aload_n cx dX1_copy_76 rfl ?_
  refine g_getI (i := (1, 0)) (ci := 1) (k := 6) cx a1_0 rfl rfl rfl (by decide) inX1 lfX1_34 dX1_copy_77 ?_
  refine g_putI (i := (1, 1)) (ci := 1) (k := 6) cx a1_1 rfl rfl rfl (by decide) inX1 tyX1_ok nmX1 rfl rfl lfX1_34 dX1_copy_80 ?_
  refine g_aload_n cx dX1_copy_83 rfl ?_
  refine g_getR (i := (1, 0)) (ci := 1) (k := 7) (j := (6, 0)) cx a1_0 rfl rfl rfl (by decide) inX1 lfX1_24 dX1_copy_84 ?_
  refine g_iconst (v := nI 0) cx dX1_copy_87 (by decide) ?_
  refine g_aload_n cx dX1_copy_88 rfl ?_
  refine g_getR (i := (1, 1)) (ci := 1) (k := 7) (j := (6, 1)) cx a1_1 rfl rfl rfl (by decide) inX1 lfX1_24 dX1_copy_89 ?_
  refine g_iconst (v := nI 0) cx dX1_copy_92 (by decide) ?_
  refine g_iconst (v := nI 5) cx dX1_copy_93 (by decide) ?_
  refine g_copy (rest := []) (i := (6, 0)) (j := (6, 1)) (n := 5) cx a6_0 a6_1 rfl rfl rfl (by decide) (by decide) (by decide) (by decide) (by decide) lmX1_37 nnCopy nsCopy nzJ10 (Nat.le_of_ble_eq_true rfl) (by decide) dX1_copy_94 ?_
  exact g_vret cx rq rfl dX1_copy_97 ⟨rfl, ⟨rfl, rfl, rfl⟩, fun j hj => ⟨by simp [upA, va_cpy, hj], by simp [upA, va_cpy, hj], by simp [upA, va_cpy, hj]⟩, fun j hj => by simp [upA, va_cpy, hj], fun j hj => by simp [upA, va_cpy, hj], fun i hi => by obtain ⟨i1, i2⟩ := i; have e : ∀ c, 1 ≤ c → c ≤ 6 → ((i1, i2) : Id2) ≠ (c, 1) := fun c h1 h6 e => hi (by rw [e]; exact ⟨rfl, h1, h6⟩); simp only [upA_n _ _ (e 1 (by decide) (by decide)), upA_n _ _ (e 2 (by decide) (by decide)), upA_n _ _ (e 3 (by decide) (by decide)), upA_n _ _ (e 4 (by decide) (by decide)), upA_n _ _ (e 5 (by decide) (by decide)), upA_n _ _ (e 6 (by decide) (by decide))]⟩

set_option maxRecDepth 100000 in
set_option maxHeartbeats 4000000 in
theorem x_pcopy10 {F : Wd} : Mok mX1_copy idsA 1 [vr (1, 0), vr (1, 1)] F (fun r' E' => r' = none ∧ CpF F E' 1 0) := by
  refine Mok.of (L := [some (vr (1, 0)), some (vr (1, 1))]) rfl (fun _ => Nat.le_of_ble_eq_true rfl) (fun _ => rfl) (fun X cx rq => ?_)
  refine g_aload_n cx dX1_copy_0 rfl ?_
  refine g_aload_n cx dX1_copy_1 rfl ?_
  refine g_getI (i := (1, 1)) (ci := 1) (k := 0) cx a1_1 rfl rfl rfl (by decide) inX1 lfX1_27 dX1_copy_2 ?_
  refine g_putI (i := (1, 0)) (ci := 1) (k := 0) cx a1_0 rfl rfl rfl (by decide) inX1 tyX1_ok nmX1 rfl rfl lfX1_27 dX1_copy_5 ?_
  refine g_aload_n cx dX1_copy_8 rfl ?_
  refine g_getR (i := (1, 1)) (ci := 1) (k := 1) (j := (2, 1)) cx a1_1 rfl rfl rfl (by decide) inX1 lfX1_9 dX1_copy_9 ?_
  refine g_iconst (v := nI 0) cx dX1_copy_12 (by decide) ?_
  refine g_aload_n cx dX1_copy_13 rfl ?_
  refine g_getR (i := (1, 0)) (ci := 1) (k := 1) (j := (2, 0)) cx a1_0 rfl rfl rfl (by decide) inX1 lfX1_9 dX1_copy_14 ?_
  refine g_iconst (v := nI 0) cx dX1_copy_17 (by decide) ?_
  refine g_bipush (v := nI 8) cx dX1_copy_18 (by decide) ?_
  refine g_copy (rest := []) (i := (2, 1)) (j := (2, 0)) (n := 8) cx a2_1 a2_0 rfl rfl rfl (by decide) (by decide) (by decide) (by decide) (by decide) lmX1_37 nnCopy nsCopy nzJ10 (Nat.le_of_ble_eq_true rfl) (by decide) dX1_copy_20 ?_
  refine g_aload_n cx dX1_copy_23 rfl ?_
  refine g_getR (i := (1, 1)) (ci := 1) (k := 2) (j := (3, 1)) cx a1_1 rfl rfl rfl (by decide) inX1 lfX1_15 dX1_copy_24 ?_
  refine g_iconst (v := nI 0) cx dX1_copy_27 (by decide) ?_
  refine g_aload_n cx dX1_copy_28 rfl ?_
  refine g_getR (i := (1, 0)) (ci := 1) (k := 2) (j := (3, 0)) cx a1_0 rfl rfl rfl (by decide) inX1 lfX1_15 dX1_copy_29 ?_
  refine g_iconst (v := nI 0) cx dX1_copy_32 (by decide) ?_
  refine g_bipush (v := nI 8) cx dX1_copy_33 (by decide) ?_
  refine g_copy (rest := []) (i := (3, 1)) (j := (3, 0)) (n := 8) cx a3_1 a3_0 rfl rfl rfl (by decide) (by decide) (by decide) (by decide) (by decide) lmX1_37 nnCopy nsCopy nzJ10 (Nat.le_of_ble_eq_true rfl) (by decide) dX1_copy_35 ?_
  refine g_aload_n cx dX1_copy_38 rfl ?_
  refine g_getR (i := (1, 1)) (ci := 1) (k := 3) (j := (4, 1)) cx a1_1 rfl rfl rfl (by decide) inX1 lfX1_18 dX1_copy_39 ?_
  refine g_iconst (v := nI 0) cx dX1_copy_42 (by decide) ?_
  refine g_aload_n cx dX1_copy_43 rfl ?_
  refine g_getR (i := (1, 0)) (ci := 1) (k := 3) (j := (4, 0)) cx a1_0 rfl rfl rfl (by decide) inX1 lfX1_18 dX1_copy_44 ?_
  refine g_iconst (v := nI 0) cx dX1_copy_47 (by decide) ?_
  refine g_bipush (v := nI 8) cx dX1_copy_48 (by decide) ?_
  refine g_copy (rest := []) (i := (4, 1)) (j := (4, 0)) (n := 8) cx a4_1 a4_0 rfl rfl rfl (by decide) (by decide) (by decide) (by decide) (by decide) lmX1_37 nnCopy nsCopy nzJ10 (Nat.le_of_ble_eq_true rfl) (by decide) dX1_copy_50 ?_
  refine g_aload_n cx dX1_copy_53 rfl ?_
  refine g_aload_n cx dX1_copy_54 rfl ?_
  refine g_getI (i := (1, 1)) (ci := 1) (k := 4) cx a1_1 rfl rfl rfl (by decide) inX1 lfX1_31 dX1_copy_55 ?_
  refine g_putI (i := (1, 0)) (ci := 1) (k := 4) cx a1_0 rfl rfl rfl (by decide) inX1 tyX1_ok nmX1 rfl rfl lfX1_31 dX1_copy_58 ?_
  refine g_aload_n cx dX1_copy_61 rfl ?_
  refine g_getR (i := (1, 1)) (ci := 1) (k := 5) (j := (5, 1)) cx a1_1 rfl rfl rfl (by decide) inX1 lfX1_21 dX1_copy_62 ?_
  refine g_iconst (v := nI 0) cx dX1_copy_65 (by decide) ?_
  refine g_aload_n cx dX1_copy_66 rfl ?_
  refine g_getR (i := (1, 0)) (ci := 1) (k := 5) (j := (5, 0)) cx a1_0 rfl rfl rfl (by decide) inX1 lfX1_21 dX1_copy_67 ?_
  refine g_iconst (v := nI 0) cx dX1_copy_70 (by decide) ?_
  refine g_iconst (v := nI 3) cx dX1_copy_71 (by decide) ?_
  refine g_copy (rest := []) (i := (5, 1)) (j := (5, 0)) (n := 3) cx a5_1 a5_0 rfl rfl rfl (by decide) (by decide) (by decide) (by decide) (by decide) lmX1_37 nnCopy nsCopy nzJ10 (Nat.le_of_ble_eq_true rfl) (by decide) dX1_copy_72 ?_
  refine g_aload_n cx dX1_copy_75 rfl ?_
  refine g_aload_n cx dX1_copy_76 rfl ?_
  refine g_getI (i := (1, 1)) (ci := 1) (k := 6) cx a1_1 rfl rfl rfl (by decide) inX1 lfX1_34 dX1_copy_77 ?_
  refine g_putI (i := (1, 0)) (ci := 1) (k := 6) cx a1_0 rfl rfl rfl (by decide) inX1 tyX1_ok nmX1 rfl rfl lfX1_34 dX1_copy_80 ?_
  refine g_aload_n cx dX1_copy_83 rfl ?_
  refine g_getR (i := (1, 1)) (ci := 1) (k := 7) (j := (6, 1)) cx a1_1 rfl rfl rfl (by decide) inX1 lfX1_24 dX1_copy_84 ?_
  refine g_iconst (v := nI 0) cx dX1_copy_87 (by decide) ?_
  refine g_aload_n cx dX1_copy_88 rfl ?_
  refine g_getR (i := (1, 0)) (ci := 1) (k := 7) (j := (6, 0)) cx a1_0 rfl rfl rfl (by decide) inX1 lfX1_24 dX1_copy_89 ?_
  refine g_iconst (v := nI 0) cx dX1_copy_92 (by decide) ?_
  refine g_iconst (v := nI 5) cx dX1_copy_93 (by decide) ?_
  refine g_copy (rest := []) (i := (6, 1)) (j := (6, 0)) (n := 5) cx a6_1 a6_0 rfl rfl rfl (by decide) (by decide) (by decide) (by decide) (by decide) lmX1_37 nnCopy nsCopy nzJ10 (Nat.le_of_ble_eq_true rfl) (by decide) dX1_copy_94 ?_
  exact g_vret cx rq rfl dX1_copy_97 ⟨rfl, ⟨rfl, rfl, rfl⟩, fun j hj => ⟨by simp [upA, va_cpy, hj], by simp [upA, va_cpy, hj], by simp [upA, va_cpy, hj]⟩, fun j hj => by simp [upA, va_cpy, hj], fun j hj => by simp [upA, va_cpy, hj], fun i hi => by obtain ⟨i1, i2⟩ := i; have e : ∀ c, 1 ≤ c → c ≤ 6 → ((i1, i2) : Id2) ≠ (c, 0) := fun c h1 h6 e => hi (by rw [e]; exact ⟨rfl, h1, h6⟩); simp only [upA_n _ _ (e 1 (by decide) (by decide)), upA_n _ _ (e 2 (by decide) (by decide)), upA_n _ _ (e 3 (by decide) (by decide)), upA_n _ _ (e 4 (by decide) (by decide)), upA_n _ _ (e 5 (by decide) (by decide)), upA_n _ _ (e 6 (by decide) (by decide))]⟩

set_option maxRecDepth 100000 in
set_option maxHeartbeats 4000000 in
theorem x_pbegin {E : Wd} {h a : Nat} (hh : h < 2) (h3 : 3 ≤ a) (h8 : a ≤ 8) : Fok mX1_begin idsA 0 [vr (1, h), vi (nI a)] E none (PBf E h a) := by
  refine Mok.of (L := [some (vr (1, h)), some (vi (nI a)), none]) rfl (fun _ => Nat.le_of_ble_eq_true rfl) (fun _ => rfl) (fun X cx rq => ?_)
  refine g_aload_n cx dX1_begin_0 rfl ?_
  refine g_iload_n cx dX1_begin_1 rfl ?_
  refine g_putI (i := (1, h)) (ci := 1) (k := 0) cx (aP1 h hh) rfl rfl rfl (by decide) inX1 tyX1_ok nmX1 rfl rfl lfX1_27 dX1_begin_2 ?_
  refine g_wd (D' := PB E h a 0) (PB.z E h a) ?_
  refine g_iconst (v := nI 0) cx dX1_begin_5 (by decide) ?_
  refine g_istore_n (L' := [some (vr (1, h)), some (vi (nI a)), some (vi (nI 0))]) cx dX1_begin_6 (by decide) rfl rfl ?_
  have lp : ∀ (fu : Nat) (q : Nat), a - q < fu → (q ≤ a) → Gk X mX1_begin idsA 7 [some (vr (1, h)), some (vi (nI a)), some (vi (nI q))] [] (PB E h a q) := by
    intro fu
    induction fu with
    | zero => intro q hfu; exact absurd hfu (Nat.not_lt_zero _)
    | succ fu ih_lp =>
      intro q hfu hq
      refine g_iload_n cx dX1_begin_7 rfl ?_
      refine g_aload_n cx dX1_begin_8 rfl ?_
      refine g_getIN (i := (1, h)) (ci := 1) (k := 0) (v := nI a) cx (aP1 h hh) rfl rfl rfl (by decide) inX1 lfX1_27 dX1_begin_9 (by rw [PB.d]; rfl) ?_
      refine g_icmp_geN (tgt := 50) cx dX1_begin_12 (by decide) (by omega) (by omega) (fun h_12 => ?_) (fun h_12 => ?_)
      · skip
        have e9 : q = a := by omega
        subst e9
        refine g_aload_n cx dX1_begin_50 rfl ?_
        refine g_iconst (v := nI 0) cx dX1_begin_51 (by decide) ?_
        refine g_putI (i := (1, h)) (ci := 1) (k := 4) cx (aP1 h hh) rfl rfl rfl (by decide) inX1 tyX1_ok nmX1 rfl rfl lfX1_31 dX1_begin_52 ?_
        refine g_aload_n cx dX1_begin_55 rfl ?_
        refine g_iconst (v := nI 0) cx dX1_begin_56 (by decide) ?_
        refine g_putI (i := (1, h)) (ci := 1) (k := 6) cx (aP1 h hh) rfl rfl rfl (by decide) inX1 tyX1_ok nmX1 rfl rfl lfX1_34 dX1_begin_57 ?_
        exact g_fvret cx rq rfl dX1_begin_60 rfl (rfl)
      · skip
        refine g_aload_n cx dX1_begin_15 rfl ?_
        refine g_getR (i := (1, h)) (ci := 1) (k := 1) (j := (2, h)) cx (aP1 h hh) rfl rfl rfl (by decide) inX1 lfX1_9 dX1_begin_16 ?_
        refine g_iload_n cx dX1_begin_19 rfl ?_
        refine g_bipush (v := nI 72) cx dX1_begin_20 (by decide) ?_
        refine g_iload_n cx dX1_begin_22 rfl ?_
        refine g_imulN cx dX1_begin_23 ?_
        refine g_aload_n cx dX1_begin_24 rfl ?_
        refine g_getIN (i := (1, h)) (ci := 1) (k := 0) (v := nI a) cx (aP1 h hh) rfl rfl rfl (by decide) inX1 lfX1_27 dX1_begin_25 (by rw [PB.d]; rfl) ?_
        refine g_idivN cx dX1_begin_28 (by omega) (by omega) (by omega) ?_
        refine g_iast (i := (2, h)) (j := q) cx (aP2 h hh) rfl (rfl) (by omega) (by decide) dX1_begin_29 ?_
        refine g_aload_n cx dX1_begin_30 rfl ?_
        refine g_getR (i := (1, h)) (ci := 1) (k := 2) (j := (3, h)) cx (aP1 h hh) rfl rfl rfl (by decide) inX1 lfX1_15 dX1_begin_31 ?_
        refine g_iload_n cx dX1_begin_34 rfl ?_
        refine g_iconst (v := nI 0) cx dX1_begin_35 (by decide) ?_
        refine g_iast (i := (3, h)) (j := q) cx (aP3 h hh) rfl (rfl) (by omega) (by decide) dX1_begin_36 ?_
        refine g_aload_n cx dX1_begin_37 rfl ?_
        refine g_getR (i := (1, h)) (ci := 1) (k := 3) (j := (4, h)) cx (aP1 h hh) rfl rfl rfl (by decide) inX1 lfX1_18 dX1_begin_38 ?_
        refine g_iload_n cx dX1_begin_41 rfl ?_
        refine g_iconst (v := nI 0) cx dX1_begin_42 (by decide) ?_
        refine g_iast (i := (4, h)) (j := q) cx (aP4 h hh) rfl (rfl) (by omega) (by decide) dX1_begin_43 ?_
        refine g_iincN (L' := [some (vr (1, h)), some (vi (nI a)), some (vi (nI (q + 1)))]) cx dX1_begin_44 rfl (by decide) rfl rfl ?_
        refine g_goto (tgt := 7) cx dX1_begin_47 (by decide) ?_
        refine g_wd (D' := PB E h a (q + 1)) (PB.s E h a q) ?_
        exact ih_lp (q + 1) (by omega) (by omega)
  exact lp (a + 1) 0 (by omega) (by omega)

set_option maxRecDepth 100000 in
set_option maxHeartbeats 4000000 in
theorem x_num_y {D E : Wd} {t : Nat → Nat} {len : Nat} {R : RS} {T : TL} {e : Nat} (hR : RKx D E t len R T e) {lo hi v : Nat} (hlo : lo < 1000) (hhi : hi < 1000) (hy : NumY t len lo hi (tkP t len e) (tkE t len (tkP t len e)) v) : Mok mX4_readNumber idsA 2 [vr (7, 0), vi (nI lo), vi (nI hi)] E (fun r' E' => r' = (some (vi (nI 1))) ∧ (RKx D E' t len R T (tkE t len (tkP t len e)) ∧ E' (7, 0) 4 = nI (tkP t len e) ∧ E' (7, 0) 6 = nI v)) := by
  obtain ⟨hX, ⟨hE9, he⟩, ⟨⟨hn3, hn8, hN, hK, hF, hd3, hDn, hDr, hp5, hPn⟩, hH, hPl, hpp⟩, hFr⟩ := id hR
  have hpk := tkP_ok (t := t) he
  have htk := tkE_ok (t := t) hpk.2
  obtain ⟨hy1, hy2, hy3⟩ := hy
  have hv9 := nO_le htk hy1
  refine Mok.of (L := [some (vr (7, 0)), some (vi (nI lo)), some (vi (nI hi))]) rfl (fun _ => Nat.le_of_ble_eq_true rfl) (fun _ => rfl) (fun X cx rq => ?_)
  refine g_aload_n cx dX4_readNumber_0 rfl ?_
  refine g_fcallVv (As := []) (rest := []) cx knX4_nextToken (x_nextToken hX hE9 he) a7_0 rfl rfl lmX4_40 niX4_nextToken seX4_nextToken rfl (by decide) (Nat.le_of_ble_eq_true rfl) rfl dX4_readNumber_1 ?_
  refine g_aload_n cx dX4_readNumber_4 rfl ?_
  refine g_aload_n cx dX4_readNumber_5 rfl ?_
  refine g_fcallV (As := []) (rest := [vr (7, 0)]) cx knX4_numberHere (x_numberHere (SE.T hX) SE.s SE.e hpk.2 htk) a7_0 rfl rfl lmX4_115 niX4_numberHere seX4_numberHere rfl (by decide) (Nat.le_of_ble_eq_true rfl) rfl dX4_readNumber_6 ?_
  refine g_top (y := nI v) (by rw [hy1]; rfl) ?_
  refine g_putI (i := (7, 0)) (ci := 4) (k := 6) cx a7_0 rfl rfl rfl (by decide) inX4 tyX4_ok nmX4 rfl rfl lfX4_76 dX4_readNumber_9 ?_
  refine g_aload_n cx dX4_readNumber_12 rfl ?_
  refine g_getIN (i := (7, 0)) (ci := 4) (k := 6) (v := nI v) cx a7_0 rfl rfl rfl (by decide) inX4 lfX4_76 dX4_readNumber_13 (by rw [upA_s]; rfl) ?_
  refine g_iload_n cx dX4_readNumber_16 rfl ?_
  refine g_icmp_ltN (tgt := 32) cx dX4_readNumber_17 (by decide) (by omega) (by omega) (fun h_17 => ?_) (fun h_17 => ?_)
  · skip
    exact absurd h_17 (by omega)
  · skip
    refine g_aload_n cx dX4_readNumber_20 rfl ?_
    refine g_getIN (i := (7, 0)) (ci := 4) (k := 6) (v := nI v) cx a7_0 rfl rfl rfl (by decide) inX4 lfX4_76 dX4_readNumber_21 (by rw [upA_s]; rfl) ?_
    refine g_iload_n cx dX4_readNumber_24 rfl ?_
    refine g_icmp_gtN (tgt := 32) cx dX4_readNumber_25 (by decide) (by omega) (by omega) (fun h_25 => ?_) (fun h_25 => ?_)
    · skip
      exact absurd h_25 (by omega)
    · skip
      refine g_iconst (v := nI 1) cx dX4_readNumber_28 (by decide) ?_
      refine g_goto (tgt := 33) cx dX4_readNumber_29 (by decide) ?_
      exact g_ret cx rq rfl (by rfl) dX4_readNumber_33 ⟨rfl, ⟨(hR.se htk.2.1).num, by rw [upA_s]; exact SE.s (E := E) (p := tkP t len e) (e := tkE t len (tkP t len e)), by rw [upA_s]; rfl⟩⟩

set_option maxRecDepth 100000 in
set_option maxHeartbeats 4000000 in
theorem x_num_n {D E : Wd} {t : Nat → Nat} {len : Nat} {R : RS} {T : TL} {e : Nat} (hR : RKx D E t len R T e) {lo hi : Nat} (hlo : lo < 1000) (hhi : hi < 1000) (hn : NumN t len lo hi (tkP t len e) (tkE t len (tkP t len e))) : Mok mX4_readNumber idsA 2 [vr (7, 0), vi (nI lo), vi (nI hi)] E (fun r' E' => r' = (some (vi (nI 0))) ∧ (RKx D E' t len R T (tkE t len (tkP t len e)) ∧ E' (7, 0) 4 = nI (tkP t len e))) := by
  obtain ⟨hX, ⟨hE9, he⟩, ⟨⟨hn3, hn8, hN, hK, hF, hd3, hDn, hDr, hp5, hPn⟩, hH, hPl, hpp⟩, hFr⟩ := id hR
  have hpk := tkP_ok (t := t) he
  have htk := tkE_ok (t := t) hpk.2
  refine Mok.of (L := [some (vr (7, 0)), some (vi (nI lo)), some (vi (nI hi))]) rfl (fun _ => Nat.le_of_ble_eq_true rfl) (fun _ => rfl) (fun X cx rq => ?_)
  refine g_aload_n cx dX4_readNumber_0 rfl ?_
  refine g_fcallVv (As := []) (rest := []) cx knX4_nextToken (x_nextToken hX hE9 he) a7_0 rfl rfl lmX4_40 niX4_nextToken seX4_nextToken rfl (by decide) (Nat.le_of_ble_eq_true rfl) rfl dX4_readNumber_1 ?_
  refine g_aload_n cx dX4_readNumber_4 rfl ?_
  refine g_aload_n cx dX4_readNumber_5 rfl ?_
  refine g_fcallV (As := []) (rest := [vr (7, 0)]) cx knX4_numberHere (x_numberHere (SE.T hX) SE.s SE.e hpk.2 htk) a7_0 rfl rfl lmX4_115 niX4_numberHere seX4_numberHere rfl (by decide) (Nat.le_of_ble_eq_true rfl) rfl dX4_readNumber_6 ?_
  rcases ho : nO t len (tkP t len e) (tkE t len (tkP t len e)) with _ | v
  · skip
    refine g_top (y := (-1)) (by rfl) ?_
    refine g_putI (i := (7, 0)) (ci := 4) (k := 6) cx a7_0 rfl rfl rfl (by decide) inX4 tyX4_ok nmX4 rfl rfl lfX4_76 dX4_readNumber_9 ?_
    refine g_aload_n cx dX4_readNumber_12 rfl ?_
    refine g_getIN (i := (7, 0)) (ci := 4) (k := 6) (v := (-1)) cx a7_0 rfl rfl rfl (by decide) inX4 lfX4_76 dX4_readNumber_13 (by rw [upA_s]; rfl) ?_
    refine g_iload_n cx dX4_readNumber_16 rfl ?_
    refine g_icmp_lt (tgt := 32) cx dX4_readNumber_17 (by decide) (fun h_17 => ?_) (fun h_17 => ?_)
    · skip
      refine g_iconst (v := nI 0) cx dX4_readNumber_32 (by decide) ?_
      exact g_ret cx rq rfl (by rfl) dX4_readNumber_33 ⟨rfl, ⟨(hR.se htk.2.1).num, by rw [upA_s]; exact SE.s (E := E) (p := tkP t len e) (e := tkE t len (tkP t len e))⟩⟩
    · skip
      exact absurd (m1_ltN hlo) h_17
  · skip
    have hv9 := nO_le htk ho
    refine g_top (y := nI v) (by rfl) ?_
    refine g_putI (i := (7, 0)) (ci := 4) (k := 6) cx a7_0 rfl rfl rfl (by decide) inX4 tyX4_ok nmX4 rfl rfl lfX4_76 dX4_readNumber_9 ?_
    refine g_aload_n cx dX4_readNumber_12 rfl ?_
    refine g_getIN (i := (7, 0)) (ci := 4) (k := 6) (v := nI v) cx a7_0 rfl rfl rfl (by decide) inX4 lfX4_76 dX4_readNumber_13 (by rw [upA_s]; rfl) ?_
    refine g_iload_n cx dX4_readNumber_16 rfl ?_
    refine g_icmp_ltN (tgt := 32) cx dX4_readNumber_17 (by decide) (by omega) (by omega) (fun h_17 => ?_) (fun h_17 => ?_)
    · skip
      refine g_iconst (v := nI 0) cx dX4_readNumber_32 (by decide) ?_
      exact g_ret cx rq rfl (by rfl) dX4_readNumber_33 ⟨rfl, ⟨(hR.se htk.2.1).num, by rw [upA_s]; exact SE.s (E := E) (p := tkP t len e) (e := tkE t len (tkP t len e))⟩⟩
    · skip
      refine g_aload_n cx dX4_readNumber_20 rfl ?_
      refine g_getIN (i := (7, 0)) (ci := 4) (k := 6) (v := nI v) cx a7_0 rfl rfl rfl (by decide) inX4 lfX4_76 dX4_readNumber_21 (by rw [upA_s]; rfl) ?_
      refine g_iload_n cx dX4_readNumber_24 rfl ?_
      refine g_icmp_gtN (tgt := 32) cx dX4_readNumber_25 (by decide) (by omega) (by omega) (fun h_25 => ?_) (fun h_25 => ?_)
      · skip
        refine g_iconst (v := nI 0) cx dX4_readNumber_32 (by decide) ?_
        exact g_ret cx rq rfl (by rfl) dX4_readNumber_33 ⟨rfl, ⟨(hR.se htk.2.1).num, by rw [upA_s]; exact SE.s (E := E) (p := tkP t len e) (e := tkE t len (tkP t len e))⟩⟩
      · skip
        exact absurd (show okN lo hi (some v) = true by simp [okN]; omega) (by unfold NumN at hn; rw [ho] at hn; rw [hn]; decide)

set_option maxRecDepth 100000 in
set_option maxHeartbeats 4000000 in
theorem x_rH_y {D E : Wd} {t : Nat → Nat} {len : Nat} {R : RS} {T : TL} {e : Nat} (hR : RKx D E t len R T e) {a : Nat} (hy1 : NumY t len 3 8 (tkP t len e) (tkE t len (tkP t len e)) a) : Mok mX4_readHouse idsA 3 [vr (7, 0)] E (fun r' E' => r' = (some (vi (nI 1))) ∧ RKx D E' t len (goR R 0 a 0) (tlR T 0 a) (tkE t len (tkP t len e))) := by
  obtain ⟨hX, ⟨hE9, he⟩, ⟨⟨hn3, hn8, hN, hK, hF, hd3, hDn, hDr, hp5, hPn⟩, hH, hPl, hpp⟩, hFr⟩ := id hR
  have ha3 := hy1.2.1
  have ha8 := hy1.2.2
  refine Mok.of (L := [some (vr (7, 0))]) rfl (fun _ => Nat.le_of_ble_eq_true rfl) (fun _ => rfl) (fun X cx rq => ?_)
  refine g_aload_n cx dX4_readHouse_0 rfl ?_
  refine g_iconst (v := nI 3) cx dX4_readHouse_1 (by decide) ?_
  refine g_bipush (v := nI 8) cx dX4_readHouse_2 (by decide) ?_
  refine g_callV (As := [vi (nI 3), vi (nI 8)]) (rest := []) cx knX4_readNumber (x_num_y hR (lo := 3) (hi := 8) (v := a) (by omega) (by omega) hy1) a7_0 rfl rfl lmX4_72 niX4_readNumber seX4_readNumber rfl (by decide) (Nat.le_of_ble_eq_true rfl) rfl dX4_readHouse_4 (fun r0 E1 hp0 => ?_)
  obtain ⟨rfl, hR1, hs1, hv1⟩ := hp0
  show Gk X mX4_readHouse idsA 7 [some (vr (7, 0))] [vi (nI 1)] E1
  refine g_if_neN (tgt := 12) cx dX4_readHouse_7 (by decide) (by omega) (fun h_7 => ?_) (fun h_7 => ?_)
  · skip
    refine g_aload_n cx dX4_readHouse_12 rfl ?_
    refine g_getR (i := (7, 0)) (ci := 4) (k := 2) (j := (1, 1)) cx a7_0 rfl rfl rfl (by decide) inX4 lfX4_18 dX4_readHouse_13 ?_
    refine g_aload_n cx dX4_readHouse_16 rfl ?_
    refine g_getIN (i := (7, 0)) (ci := 4) (k := 6) (v := nI a) cx a7_0 rfl rfl rfl (by decide) inX4 lfX4_76 dX4_readHouse_17 (hv1) ?_
    refine g_fcallVv (As := [vi (nI a)]) (rest := []) cx knX1_begin (x_pbegin (h := 1) (a := a) (by decide) ha3 ha8) a1_1 rfl rfl lmX4_79 niX1_begin seX1_begin rfl (by decide) (Nat.le_of_ble_eq_true rfl) rfl dX4_readHouse_20 ?_
    refine g_iconst (v := nI 1) cx dX4_readHouse_23 (by decide) ?_
    exact g_ret cx rq rfl (by rfl) dX4_readHouse_24 ⟨rfl, hR1.begin ha3 ha8⟩
  · skip
    exact absurd h_7 (by decide)

set_option maxRecDepth 100000 in
set_option maxHeartbeats 4000000 in
theorem x_rH_n {D E : Wd} {t : Nat → Nat} {len : Nat} {R : RS} {T : TL} {e : Nat} (hR : RKx D E t len R T e) (hno : NumN t len 3 8 (tkP t len e) (tkE t len (tkP t len e))) : Mok mX4_readHouse idsA 3 [vr (7, 0)] E (fun r' E' => r' = (some (vi (nI 0))) ∧ (RKx D E' t len R T (tkE t len (tkP t len e)) ∧ E' (7, 0) 4 = nI (tkP t len e))) := by
  obtain ⟨hX, ⟨hE9, he⟩, ⟨⟨hn3, hn8, hN, hK, hF, hd3, hDn, hDr, hp5, hPn⟩, hH, hPl, hpp⟩, hFr⟩ := id hR
  refine Mok.of (L := [some (vr (7, 0))]) rfl (fun _ => Nat.le_of_ble_eq_true rfl) (fun _ => rfl) (fun X cx rq => ?_)
  refine g_aload_n cx dX4_readHouse_0 rfl ?_
  refine g_iconst (v := nI 3) cx dX4_readHouse_1 (by decide) ?_
  refine g_bipush (v := nI 8) cx dX4_readHouse_2 (by decide) ?_
  refine g_callV (As := [vi (nI 3), vi (nI 8)]) (rest := []) cx knX4_readNumber (x_num_n hR (lo := 3) (hi := 8) (by omega) (by omega) hno) a7_0 rfl rfl lmX4_72 niX4_readNumber seX4_readNumber rfl (by decide) (Nat.le_of_ble_eq_true rfl) rfl dX4_readHouse_4 (fun r0 E1 hp0 => ?_)
  obtain ⟨rfl, hR1, hs1⟩ := hp0
  show Gk X mX4_readHouse idsA 7 [some (vr (7, 0))] [vi (nI 0)] E1
  refine g_if_neN (tgt := 12) cx dX4_readHouse_7 (by decide) (by omega) (fun h_7 => ?_) (fun h_7 => ?_)
  · skip
    exact absurd rfl h_7
  · skip
    refine g_iconst (v := nI 0) cx dX4_readHouse_10 (by decide) ?_
    exact g_ret cx rq rfl (by rfl) dX4_readHouse_11 ⟨rfl, ⟨hR1, hs1⟩⟩

set_option maxRecDepth 100000 in
set_option maxHeartbeats 4000000 in
theorem x_rK_y {D E : Wd} {t : Nat → Nat} {len : Nat} {R : RS} {T : TL} {e : Nat} (hR : RKx D E t len R T e) {w : Nat} (hw : w < 4) {a : Nat} (hy1 : NumY t len 0 (R.1 - 1) (tkP t len e) (tkE t len (tkP t len e)) a) : Mok mX4_readKind idsA 3 [vr (7, 0), vi (nI w)] E (fun r' E' => r' = (some (vi (nI 1))) ∧ RKx D E' t len R (updN T.1 a w, T.2) (tkE t len (tkP t len e))) := by
  obtain ⟨hX, ⟨hE9, he⟩, ⟨⟨hn3, hn8, hN, hK, hF, hd3, hDn, hDr, hp5, hPn⟩, hH, hPl, hpp⟩, hFr⟩ := id hR
  have ha8 := hy1.2.2
  refine Mok.of (L := [some (vr (7, 0)), some (vi (nI w))]) rfl (fun _ => Nat.le_of_ble_eq_true rfl) (fun _ => rfl) (fun X cx rq => ?_)
  refine g_aload_n cx dX4_readKind_0 rfl ?_
  refine g_iconst (v := nI 0) cx dX4_readKind_1 (by decide) ?_
  refine g_aload_n cx dX4_readKind_2 rfl ?_
  refine g_getR (i := (7, 0)) (ci := 4) (k := 2) (j := (1, 1)) cx a7_0 rfl rfl rfl (by decide) inX4 lfX4_18 dX4_readKind_3 ?_
  refine g_getIN (i := (1, 1)) (ci := 1) (k := 0) (v := nI R.1) cx a1_1 rfl rfl rfl (by decide) inX1 lfX4_83 dX4_readKind_6 (hN) ?_
  refine g_iconst (v := nI 1) cx dX4_readKind_9 (by decide) ?_
  refine g_isubN cx dX4_readKind_10 (by omega) ?_
  refine g_callV (As := [vi (nI 0), vi (nI (R.1 - 1))]) (rest := []) cx knX4_readNumber (x_num_y hR (lo := 0) (hi := (R.1 - 1)) (v := a) (by omega) (by omega) hy1) a7_0 rfl rfl lmX4_72 niX4_readNumber seX4_readNumber rfl (by decide) (Nat.le_of_ble_eq_true rfl) rfl dX4_readKind_11 (fun r0 E1 hp0 => ?_)
  obtain ⟨rfl, hR1, hs1, hv1⟩ := hp0
  show Gk X mX4_readKind idsA 14 [some (vr (7, 0)), some (vi (nI w))] [vi (nI 1)] E1
  refine g_if_neN (tgt := 19) cx dX4_readKind_14 (by decide) (by omega) (fun h_14 => ?_) (fun h_14 => ?_)
  · skip
    refine g_aload_n cx dX4_readKind_19 rfl ?_
    refine g_getR (i := (7, 0)) (ci := 4) (k := 2) (j := (1, 1)) cx a7_0 rfl rfl rfl (by decide) inX4 lfX4_18 dX4_readKind_20 ?_
    refine g_getR (i := (1, 1)) (ci := 1) (k := 2) (j := (3, 1)) cx a1_1 rfl rfl rfl (by decide) inX1 lfX4_93 dX4_readKind_23 ?_
    refine g_aload_n cx dX4_readKind_26 rfl ?_
    refine g_getIN (i := (7, 0)) (ci := 4) (k := 6) (v := nI a) cx a7_0 rfl rfl rfl (by decide) inX4 lfX4_76 dX4_readKind_27 (hv1) ?_
    refine g_iload_n cx dX4_readKind_30 rfl ?_
    refine g_iast (i := (3, 1)) (j := a) cx a3_1 rfl (rfl) (by omega) (by decide) dX4_readKind_31 ?_
    refine g_iconst (v := nI 1) cx dX4_readKind_32 (by decide) ?_
    exact g_ret cx rq rfl (by rfl) dX4_readKind_33 ⟨rfl, hR1.p (by decide) (by decide) (hR1.2.2.1.kd hw)⟩
  · skip
    exact absurd h_14 (by decide)

set_option maxRecDepth 100000 in
set_option maxHeartbeats 4000000 in
theorem x_rK_n {D E : Wd} {t : Nat → Nat} {len : Nat} {R : RS} {T : TL} {e : Nat} (hR : RKx D E t len R T e) {w : Nat} (hno : NumN t len 0 (R.1 - 1) (tkP t len e) (tkE t len (tkP t len e))) : Mok mX4_readKind idsA 3 [vr (7, 0), vi (nI w)] E (fun r' E' => r' = (some (vi (nI 0))) ∧ (RKx D E' t len R T (tkE t len (tkP t len e)) ∧ E' (7, 0) 4 = nI (tkP t len e))) := by
  obtain ⟨hX, ⟨hE9, he⟩, ⟨⟨hn3, hn8, hN, hK, hF, hd3, hDn, hDr, hp5, hPn⟩, hH, hPl, hpp⟩, hFr⟩ := id hR
  refine Mok.of (L := [some (vr (7, 0)), some (vi (nI w))]) rfl (fun _ => Nat.le_of_ble_eq_true rfl) (fun _ => rfl) (fun X cx rq => ?_)
  refine g_aload_n cx dX4_readKind_0 rfl ?_
  refine g_iconst (v := nI 0) cx dX4_readKind_1 (by decide) ?_
  refine g_aload_n cx dX4_readKind_2 rfl ?_
  refine g_getR (i := (7, 0)) (ci := 4) (k := 2) (j := (1, 1)) cx a7_0 rfl rfl rfl (by decide) inX4 lfX4_18 dX4_readKind_3 ?_
  refine g_getIN (i := (1, 1)) (ci := 1) (k := 0) (v := nI R.1) cx a1_1 rfl rfl rfl (by decide) inX1 lfX4_83 dX4_readKind_6 (hN) ?_
  refine g_iconst (v := nI 1) cx dX4_readKind_9 (by decide) ?_
  refine g_isubN cx dX4_readKind_10 (by omega) ?_
  refine g_callV (As := [vi (nI 0), vi (nI (R.1 - 1))]) (rest := []) cx knX4_readNumber (x_num_n hR (lo := 0) (hi := (R.1 - 1)) (by omega) (by omega) hno) a7_0 rfl rfl lmX4_72 niX4_readNumber seX4_readNumber rfl (by decide) (Nat.le_of_ble_eq_true rfl) rfl dX4_readKind_11 (fun r0 E1 hp0 => ?_)
  obtain ⟨rfl, hR1, hs1⟩ := hp0
  show Gk X mX4_readKind idsA 14 [some (vr (7, 0)), some (vi (nI w))] [vi (nI 0)] E1
  refine g_if_neN (tgt := 19) cx dX4_readKind_14 (by decide) (by omega) (fun h_14 => ?_) (fun h_14 => ?_)
  · skip
    exact absurd rfl h_14
  · skip
    refine g_iconst (v := nI 0) cx dX4_readKind_17 (by decide) ?_
    exact g_ret cx rq rfl (by rfl) dX4_readKind_18 ⟨rfl, ⟨hR1, hs1⟩⟩

set_option maxRecDepth 100000 in
set_option maxHeartbeats 4000000 in
theorem x_rP_y {D E : Wd} {t : Nat → Nat} {len : Nat} {R : RS} {T : TL} {e : Nat} (hR : RKx D E t len R T e) (hp4 : T.2.1 < 5) {a : Nat} (hy1 : NumY t len 0 (R.1 - 1) (tkP t len e) (tkE t len (tkP t len e)) a) : Mok mX4_readPerson idsA 3 [vr (7, 0)] E (fun r' E' => r' = (some (vi (nI 1))) ∧ RKx D E' t len (R.1, R.2.1, R.2.2.1, R.2.2.2.1, R.2.2.2.2.1, R.2.2.2.2.2 + 1) (T.1, T.2.1 + 1, updN T.2.2 T.2.1 a) (tkE t len (tkP t len e))) := by
  obtain ⟨hX, ⟨hE9, he⟩, ⟨⟨hn3, hn8, hN, hK, hF, hd3, hDn, hDr, hp5, hPn⟩, hH, hPl, hpp⟩, hFr⟩ := id hR
  have ha8 := hy1.2.2
  refine Mok.of (L := [some (vr (7, 0))]) rfl (fun _ => Nat.le_of_ble_eq_true rfl) (fun _ => rfl) (fun X cx rq => ?_)
  refine g_aload_n cx dX4_readPerson_0 rfl ?_
  refine g_getR (i := (7, 0)) (ci := 4) (k := 2) (j := (1, 1)) cx a7_0 rfl rfl rfl (by decide) inX4 lfX4_18 dX4_readPerson_1 ?_
  refine g_getIN (i := (1, 1)) (ci := 1) (k := 6) (v := nI T.2.1) cx a1_1 rfl rfl rfl (by decide) inX1 lfX4_65 dX4_readPerson_4 (hPn) ?_
  refine g_iconst (v := nI 5) cx dX4_readPerson_7 (by decide) ?_
  refine g_icmp_geN (tgt := 28) cx dX4_readPerson_8 (by decide) (by omega) (by omega) (fun h_8 => ?_) (fun h_8 => ?_)
  · skip
    exact absurd h_8 (by omega)
  · skip
    refine g_aload_n cx dX4_readPerson_11 rfl ?_
    refine g_iconst (v := nI 0) cx dX4_readPerson_12 (by decide) ?_
    refine g_aload_n cx dX4_readPerson_13 rfl ?_
    refine g_getR (i := (7, 0)) (ci := 4) (k := 2) (j := (1, 1)) cx a7_0 rfl rfl rfl (by decide) inX4 lfX4_18 dX4_readPerson_14 ?_
    refine g_getIN (i := (1, 1)) (ci := 1) (k := 0) (v := nI R.1) cx a1_1 rfl rfl rfl (by decide) inX1 lfX4_83 dX4_readPerson_17 (hN) ?_
    refine g_iconst (v := nI 1) cx dX4_readPerson_20 (by decide) ?_
    refine g_isubN cx dX4_readPerson_21 (by omega) ?_
    refine g_callV (As := [vi (nI 0), vi (nI (R.1 - 1))]) (rest := []) cx knX4_readNumber (x_num_y hR (lo := 0) (hi := (R.1 - 1)) (v := a) (by omega) (by omega) hy1) a7_0 rfl rfl lmX4_72 niX4_readNumber seX4_readNumber rfl (by decide) (Nat.le_of_ble_eq_true rfl) rfl dX4_readPerson_22 (fun r0 E1 hp0 => ?_)
    obtain ⟨rfl, hR1, hs1, hv1⟩ := hp0
    show Gk X mX4_readPerson idsA 25 [some (vr (7, 0))] [vi (nI 1)] E1
    obtain ⟨h1X, ⟨h1E, h1e⟩, ⟨⟨h1n3, h1n8, h1N, h1K, h1F, h1d3, h1Dn, h1Dr, h1p5, h1Pn⟩, h1H, h1Pl, h1pp⟩, h1Fr⟩ := id hR1
    refine g_if_neN (tgt := 30) cx dX4_readPerson_25 (by decide) (by omega) (fun h_25 => ?_) (fun h_25 => ?_)
    · skip
      refine g_aload_n cx dX4_readPerson_30 rfl ?_
      refine g_getR (i := (7, 0)) (ci := 4) (k := 2) (j := (1, 1)) cx a7_0 rfl rfl rfl (by decide) inX4 lfX4_18 dX4_readPerson_31 ?_
      refine g_getR (i := (1, 1)) (ci := 1) (k := 7) (j := (6, 1)) cx a1_1 rfl rfl rfl (by decide) inX1 lfX4_112 dX4_readPerson_34 ?_
      refine g_aload_n cx dX4_readPerson_37 rfl ?_
      refine g_getR (i := (7, 0)) (ci := 4) (k := 2) (j := (1, 1)) cx a7_0 rfl rfl rfl (by decide) inX4 lfX4_18 dX4_readPerson_38 ?_
      refine g_getIN (i := (1, 1)) (ci := 1) (k := 6) (v := nI T.2.1) cx a1_1 rfl rfl rfl (by decide) inX1 lfX4_65 dX4_readPerson_41 (h1Pn) ?_
      refine g_aload_n cx dX4_readPerson_44 rfl ?_
      refine g_getIN (i := (7, 0)) (ci := 4) (k := 6) (v := nI a) cx a7_0 rfl rfl rfl (by decide) inX4 lfX4_76 dX4_readPerson_45 (hv1) ?_
      refine g_iast (i := (6, 1)) (j := T.2.1) cx a6_1 rfl (rfl) (by omega) (by decide) dX4_readPerson_48 ?_
      refine g_aload_n cx dX4_readPerson_49 rfl ?_
      refine g_getR (i := (7, 0)) (ci := 4) (k := 2) (j := (1, 1)) cx a7_0 rfl rfl rfl (by decide) inX4 lfX4_18 dX4_readPerson_50 ?_
      refine g_dup cx dX4_readPerson_53 rfl ?_
      refine g_getIN (i := (1, 1)) (ci := 1) (k := 6) (v := nI T.2.1) cx a1_1 rfl rfl rfl (by decide) inX1 lfX4_65 dX4_readPerson_54 (by rw [upA_n _ _ (by decide)]; exact h1Pn) ?_
      refine g_iconst (v := nI 1) cx dX4_readPerson_57 (by decide) ?_
      refine g_iaddN cx dX4_readPerson_58 ?_
      refine g_putI (i := (1, 1)) (ci := 1) (k := 6) cx a1_1 rfl rfl rfl (by decide) inX1 tyX1_ok nmX1 rfl rfl lfX4_65 dX4_readPerson_59 ?_
      refine g_iconst (v := nI 1) cx dX4_readPerson_62 (by decide) ?_
      exact g_ret cx rq rfl (by rfl) dX4_readPerson_63 ⟨rfl, ⟨(hR1.1.p (by decide)).p (by decide), ⟨by rw [upA_n _ _ (by decide), upA_n _ _ (by decide)]; exact hR1.2.1.1, hR1.2.1.2⟩, hR1.2.2.1.ps hp4, (hR1.2.2.2.p (by decide) (by decide)).p (by decide) (by decide)⟩⟩
    · skip
      exact absurd h_25 (by decide)

set_option maxRecDepth 100000 in
set_option maxHeartbeats 4000000 in
theorem x_rP_n {D E : Wd} {t : Nat → Nat} {len : Nat} {R : RS} {T : TL} {e : Nat} (hR : RKx D E t len R T e) (hp4 : T.2.1 < 5) (hno : NumN t len 0 (R.1 - 1) (tkP t len e) (tkE t len (tkP t len e))) : Mok mX4_readPerson idsA 3 [vr (7, 0)] E (fun r' E' => r' = (some (vi (nI 0))) ∧ (RKx D E' t len R T (tkE t len (tkP t len e)) ∧ E' (7, 0) 4 = nI (tkP t len e))) := by
  obtain ⟨hX, ⟨hE9, he⟩, ⟨⟨hn3, hn8, hN, hK, hF, hd3, hDn, hDr, hp5, hPn⟩, hH, hPl, hpp⟩, hFr⟩ := id hR
  refine Mok.of (L := [some (vr (7, 0))]) rfl (fun _ => Nat.le_of_ble_eq_true rfl) (fun _ => rfl) (fun X cx rq => ?_)
  refine g_aload_n cx dX4_readPerson_0 rfl ?_
  refine g_getR (i := (7, 0)) (ci := 4) (k := 2) (j := (1, 1)) cx a7_0 rfl rfl rfl (by decide) inX4 lfX4_18 dX4_readPerson_1 ?_
  refine g_getIN (i := (1, 1)) (ci := 1) (k := 6) (v := nI T.2.1) cx a1_1 rfl rfl rfl (by decide) inX1 lfX4_65 dX4_readPerson_4 (hPn) ?_
  refine g_iconst (v := nI 5) cx dX4_readPerson_7 (by decide) ?_
  refine g_icmp_geN (tgt := 28) cx dX4_readPerson_8 (by decide) (by omega) (by omega) (fun h_8 => ?_) (fun h_8 => ?_)
  · skip
    exact absurd h_8 (by omega)
  · skip
    refine g_aload_n cx dX4_readPerson_11 rfl ?_
    refine g_iconst (v := nI 0) cx dX4_readPerson_12 (by decide) ?_
    refine g_aload_n cx dX4_readPerson_13 rfl ?_
    refine g_getR (i := (7, 0)) (ci := 4) (k := 2) (j := (1, 1)) cx a7_0 rfl rfl rfl (by decide) inX4 lfX4_18 dX4_readPerson_14 ?_
    refine g_getIN (i := (1, 1)) (ci := 1) (k := 0) (v := nI R.1) cx a1_1 rfl rfl rfl (by decide) inX1 lfX4_83 dX4_readPerson_17 (hN) ?_
    refine g_iconst (v := nI 1) cx dX4_readPerson_20 (by decide) ?_
    refine g_isubN cx dX4_readPerson_21 (by omega) ?_
    refine g_callV (As := [vi (nI 0), vi (nI (R.1 - 1))]) (rest := []) cx knX4_readNumber (x_num_n hR (lo := 0) (hi := (R.1 - 1)) (by omega) (by omega) hno) a7_0 rfl rfl lmX4_72 niX4_readNumber seX4_readNumber rfl (by decide) (Nat.le_of_ble_eq_true rfl) rfl dX4_readPerson_22 (fun r0 E1 hp0 => ?_)
    obtain ⟨rfl, hR1, hs1⟩ := hp0
    show Gk X mX4_readPerson idsA 25 [some (vr (7, 0))] [vi (nI 0)] E1
    refine g_if_neN (tgt := 30) cx dX4_readPerson_25 (by decide) (by omega) (fun h_25 => ?_) (fun h_25 => ?_)
    · skip
      exact absurd rfl h_25
    · skip
      refine g_iconst (v := nI 0) cx dX4_readPerson_28 (by decide) ?_
      exact g_ret cx rq rfl (by rfl) dX4_readPerson_29 ⟨rfl, ⟨hR1, hs1⟩⟩

set_option maxRecDepth 100000 in
set_option maxHeartbeats 4000000 in
theorem x_rP_f {D E : Wd} {t : Nat → Nat} {len : Nat} {R : RS} {T : TL} {e : Nat} (hR : RKx D E t len R T e) (hp4 : T.2.1 = 5) : Fok mX4_readPerson idsA 3 [vr (7, 0)] E (some (vi (nI 0))) E := by
  obtain ⟨hX, ⟨hE9, he⟩, ⟨⟨hn3, hn8, hN, hK, hF, hd3, hDn, hDr, hp5, hPn⟩, hH, hPl, hpp⟩, hFr⟩ := id hR
  refine Mok.of (L := [some (vr (7, 0))]) rfl (fun _ => Nat.le_of_ble_eq_true rfl) (fun _ => rfl) (fun X cx rq => ?_)
  refine g_aload_n cx dX4_readPerson_0 rfl ?_
  refine g_getR (i := (7, 0)) (ci := 4) (k := 2) (j := (1, 1)) cx a7_0 rfl rfl rfl (by decide) inX4 lfX4_18 dX4_readPerson_1 ?_
  refine g_getIN (i := (1, 1)) (ci := 1) (k := 6) (v := nI T.2.1) cx a1_1 rfl rfl rfl (by decide) inX1 lfX4_65 dX4_readPerson_4 (hPn) ?_
  refine g_iconst (v := nI 5) cx dX4_readPerson_7 (by decide) ?_
  refine g_icmp_geN (tgt := 28) cx dX4_readPerson_8 (by decide) (by omega) (by omega) (fun h_8 => ?_) (fun h_8 => ?_)
  · skip
    refine g_iconst (v := nI 0) cx dX4_readPerson_28 (by decide) ?_
    exact g_fret cx rq rfl (by rfl) dX4_readPerson_29 (rfl) (rfl)
  · skip
    exact absurd h_8 (by omega)

set_option maxRecDepth 100000 in
set_option maxHeartbeats 4000000 in
theorem x_rD_y {D E : Wd} {t : Nat → Nat} {len : Nat} {R : RS} {T : TL} {e : Nat} (hR : RKx D E t len R T e) {a : Nat} (hy1 : NumY t len 0 71 (tkP t len e) (tkE t len (tkP t len e)) a) (hnd : newD R a = true) : Mok mX4_readDoor idsA 3 [vr (7, 0)] E (fun r' E' => r' = (some (vi (nI 1))) ∧ RKx D E' t len (R.1, R.2.1, R.2.2.1, R.2.2.2.1 + 1, updN R.2.2.2.2.1 R.2.2.2.1 a, R.2.2.2.2.2) T (tkE t len (tkP t len e))) := by
  obtain ⟨hX, ⟨hE9, he⟩, ⟨⟨hn3, hn8, hN, hK, hF, hd3, hDn, hDr, hp5, hPn⟩, hH, hPl, hpp⟩, hFr⟩ := id hR
  have ha7 := hy1.2.2
  have hnd2 := newD_y hnd
  refine Mok.of (L := [some (vr (7, 0))]) rfl (fun _ => Nat.le_of_ble_eq_true rfl) (fun _ => rfl) (fun X cx rq => ?_)
  refine g_aload_n cx dX4_readDoor_0 rfl ?_
  refine g_iconst (v := nI 0) cx dX4_readDoor_1 (by decide) ?_
  refine g_bipush (v := nI 71) cx dX4_readDoor_2 (by decide) ?_
  refine g_callV (As := [vi (nI 0), vi (nI 71)]) (rest := []) cx knX4_readNumber (x_num_y hR (lo := 0) (hi := 71) (v := a) (by omega) (by omega) hy1) a7_0 rfl rfl lmX4_72 niX4_readNumber seX4_readNumber rfl (by decide) (Nat.le_of_ble_eq_true rfl) rfl dX4_readDoor_4 (fun r0 E1 hp0 => ?_)
  obtain ⟨rfl, hR1, hs1, hv1⟩ := hp0
  show Gk X mX4_readDoor idsA 7 [some (vr (7, 0))] [vi (nI 1)] E1
  obtain ⟨h1X, ⟨h1E, h1e⟩, ⟨⟨h1n3, h1n8, h1N, h1K, h1F, h1d3, h1Dn, h1Dr, h1p5, h1Pn⟩, h1H, h1Pl, h1pp⟩, h1Fr⟩ := id hR1
  refine g_if_eqN (tgt := 35) cx dX4_readDoor_7 (by decide) (by omega) (fun h_7 => ?_) (fun h_7 => ?_)
  · skip
    exact absurd h_7 (by decide)
  · skip
    refine g_aload_n cx dX4_readDoor_10 rfl ?_
    refine g_getR (i := (7, 0)) (ci := 4) (k := 2) (j := (1, 1)) cx a7_0 rfl rfl rfl (by decide) inX4 lfX4_18 dX4_readDoor_11 ?_
    refine g_aload_n cx dX4_readDoor_14 rfl ?_
    refine g_getIN (i := (7, 0)) (ci := 4) (k := 6) (v := nI a) cx a7_0 rfl rfl rfl (by decide) inX4 lfX4_76 dX4_readDoor_15 (hv1) ?_
    refine g_fcallV (As := [vi (nI a)]) (rest := []) cx knX1_hasDoorAt (x_hasDoorAt hR1.2.2.1.1 (by decide) (v := a) (by omega)) a1_1 rfl rfl lmX4_103 niX1_hasDoorAt seX1_hasDoorAt rfl (by decide) (Nat.le_of_ble_eq_true rfl) rfl dX4_readDoor_18 ?_
    refine g_if_neB (tgt := 35) cx dX4_readDoor_21 (by decide) (fun h_21 => ?_) (fun h_21 => ?_)
    · skip
      exact absurd h_21 hnd2.2
    · skip
      refine g_aload_n cx dX4_readDoor_24 rfl ?_
      refine g_getR (i := (7, 0)) (ci := 4) (k := 2) (j := (1, 1)) cx a7_0 rfl rfl rfl (by decide) inX4 lfX4_18 dX4_readDoor_25 ?_
      refine g_getIN (i := (1, 1)) (ci := 1) (k := 4) (v := nI R.2.2.2.1) cx a1_1 rfl rfl rfl (by decide) inX1 lfX4_106 dX4_readDoor_28 (h1Dn) ?_
      refine g_iconst (v := nI 3) cx dX4_readDoor_31 (by decide) ?_
      refine g_icmp_ltN (tgt := 37) cx dX4_readDoor_32 (by decide) (by omega) (by omega) (fun h_32 => ?_) (fun h_32 => ?_)
      · skip
        refine g_aload_n cx dX4_readDoor_37 rfl ?_
        refine g_getR (i := (7, 0)) (ci := 4) (k := 2) (j := (1, 1)) cx a7_0 rfl rfl rfl (by decide) inX4 lfX4_18 dX4_readDoor_38 ?_
        refine g_getR (i := (1, 1)) (ci := 1) (k := 5) (j := (5, 1)) cx a1_1 rfl rfl rfl (by decide) inX1 lfX4_109 dX4_readDoor_41 ?_
        refine g_aload_n cx dX4_readDoor_44 rfl ?_
        refine g_getR (i := (7, 0)) (ci := 4) (k := 2) (j := (1, 1)) cx a7_0 rfl rfl rfl (by decide) inX4 lfX4_18 dX4_readDoor_45 ?_
        refine g_getIN (i := (1, 1)) (ci := 1) (k := 4) (v := nI R.2.2.2.1) cx a1_1 rfl rfl rfl (by decide) inX1 lfX4_106 dX4_readDoor_48 (h1Dn) ?_
        refine g_aload_n cx dX4_readDoor_51 rfl ?_
        refine g_getIN (i := (7, 0)) (ci := 4) (k := 6) (v := nI a) cx a7_0 rfl rfl rfl (by decide) inX4 lfX4_76 dX4_readDoor_52 (hv1) ?_
        refine g_iast (i := (5, 1)) (j := R.2.2.2.1) cx a5_1 rfl (rfl) (by omega) (by decide) dX4_readDoor_55 ?_
        refine g_aload_n cx dX4_readDoor_56 rfl ?_
        refine g_getR (i := (7, 0)) (ci := 4) (k := 2) (j := (1, 1)) cx a7_0 rfl rfl rfl (by decide) inX4 lfX4_18 dX4_readDoor_57 ?_
        refine g_dup cx dX4_readDoor_60 rfl ?_
        refine g_getIN (i := (1, 1)) (ci := 1) (k := 4) (v := nI R.2.2.2.1) cx a1_1 rfl rfl rfl (by decide) inX1 lfX4_106 dX4_readDoor_61 (by rw [upA_n _ _ (by decide)]; exact h1Dn) ?_
        refine g_iconst (v := nI 1) cx dX4_readDoor_64 (by decide) ?_
        refine g_iaddN cx dX4_readDoor_65 ?_
        refine g_putI (i := (1, 1)) (ci := 1) (k := 4) cx a1_1 rfl rfl rfl (by decide) inX1 tyX1_ok nmX1 rfl rfl lfX4_106 dX4_readDoor_66 ?_
        refine g_iconst (v := nI 1) cx dX4_readDoor_69 (by decide) ?_
        exact g_ret cx rq rfl (by rfl) dX4_readDoor_70 ⟨rfl, ⟨(hR1.1.p (by decide)).p (by decide), ⟨by rw [upA_n _ _ (by decide), upA_n _ _ (by decide)]; exact hR1.2.1.1, hR1.2.1.2⟩, hR1.2.2.1.dr hnd2.1 (by omega), (hR1.2.2.2.p (by decide) (by decide)).p (by decide) (by decide)⟩⟩
      · skip
        exact absurd h_32 (by omega)

set_option maxRecDepth 100000 in
set_option maxHeartbeats 4000000 in
theorem x_rD_n1 {D E : Wd} {t : Nat → Nat} {len : Nat} {R : RS} {T : TL} {e : Nat} (hR : RKx D E t len R T e) (hno : NumN t len 0 71 (tkP t len e) (tkE t len (tkP t len e))) : Mok mX4_readDoor idsA 3 [vr (7, 0)] E (fun r' E' => r' = (some (vi (nI 0))) ∧ (RKx D E' t len R T (tkE t len (tkP t len e)) ∧ E' (7, 0) 4 = nI (tkP t len e))) := by
  obtain ⟨hX, ⟨hE9, he⟩, ⟨⟨hn3, hn8, hN, hK, hF, hd3, hDn, hDr, hp5, hPn⟩, hH, hPl, hpp⟩, hFr⟩ := id hR
  refine Mok.of (L := [some (vr (7, 0))]) rfl (fun _ => Nat.le_of_ble_eq_true rfl) (fun _ => rfl) (fun X cx rq => ?_)
  refine g_aload_n cx dX4_readDoor_0 rfl ?_
  refine g_iconst (v := nI 0) cx dX4_readDoor_1 (by decide) ?_
  refine g_bipush (v := nI 71) cx dX4_readDoor_2 (by decide) ?_
  refine g_callV (As := [vi (nI 0), vi (nI 71)]) (rest := []) cx knX4_readNumber (x_num_n hR (lo := 0) (hi := 71) (by omega) (by omega) hno) a7_0 rfl rfl lmX4_72 niX4_readNumber seX4_readNumber rfl (by decide) (Nat.le_of_ble_eq_true rfl) rfl dX4_readDoor_4 (fun r0 E1 hp0 => ?_)
  obtain ⟨rfl, hR1, hs1⟩ := hp0
  show Gk X mX4_readDoor idsA 7 [some (vr (7, 0))] [vi (nI 0)] E1
  refine g_if_eqN (tgt := 35) cx dX4_readDoor_7 (by decide) (by omega) (fun h_7 => ?_) (fun h_7 => ?_)
  · skip
    refine g_iconst (v := nI 0) cx dX4_readDoor_35 (by decide) ?_
    exact g_ret cx rq rfl (by rfl) dX4_readDoor_36 ⟨rfl, ⟨hR1, hs1⟩⟩
  · skip
    exact absurd rfl h_7

set_option maxRecDepth 100000 in
set_option maxHeartbeats 4000000 in
theorem x_rD_n2 {D E : Wd} {t : Nat → Nat} {len : Nat} {R : RS} {T : TL} {e : Nat} (hR : RKx D E t len R T e) {a : Nat} (hy1 : NumY t len 0 71 (tkP t len e) (tkE t len (tkP t len e)) a) (hnd : newD R a = false) : Mok mX4_readDoor idsA 3 [vr (7, 0)] E (fun r' E' => r' = (some (vi (nI 0))) ∧ (RKx D E' t len R T (tkE t len (tkP t len e)) ∧ E' (7, 0) 4 = nI (tkP t len e))) := by
  obtain ⟨hX, ⟨hE9, he⟩, ⟨⟨hn3, hn8, hN, hK, hF, hd3, hDn, hDr, hp5, hPn⟩, hH, hPl, hpp⟩, hFr⟩ := id hR
  have ha7 := hy1.2.2
  refine Mok.of (L := [some (vr (7, 0))]) rfl (fun _ => Nat.le_of_ble_eq_true rfl) (fun _ => rfl) (fun X cx rq => ?_)
  refine g_aload_n cx dX4_readDoor_0 rfl ?_
  refine g_iconst (v := nI 0) cx dX4_readDoor_1 (by decide) ?_
  refine g_bipush (v := nI 71) cx dX4_readDoor_2 (by decide) ?_
  refine g_callV (As := [vi (nI 0), vi (nI 71)]) (rest := []) cx knX4_readNumber (x_num_y hR (lo := 0) (hi := 71) (v := a) (by omega) (by omega) hy1) a7_0 rfl rfl lmX4_72 niX4_readNumber seX4_readNumber rfl (by decide) (Nat.le_of_ble_eq_true rfl) rfl dX4_readDoor_4 (fun r0 E1 hp0 => ?_)
  obtain ⟨rfl, hR1, hs1, hv1⟩ := hp0
  show Gk X mX4_readDoor idsA 7 [some (vr (7, 0))] [vi (nI 1)] E1
  obtain ⟨h1X, ⟨h1E, h1e⟩, ⟨⟨h1n3, h1n8, h1N, h1K, h1F, h1d3, h1Dn, h1Dr, h1p5, h1Pn⟩, h1H, h1Pl, h1pp⟩, h1Fr⟩ := id hR1
  refine g_if_eqN (tgt := 35) cx dX4_readDoor_7 (by decide) (by omega) (fun h_7 => ?_) (fun h_7 => ?_)
  · skip
    exact absurd h_7 (by decide)
  · skip
    refine g_aload_n cx dX4_readDoor_10 rfl ?_
    refine g_getR (i := (7, 0)) (ci := 4) (k := 2) (j := (1, 1)) cx a7_0 rfl rfl rfl (by decide) inX4 lfX4_18 dX4_readDoor_11 ?_
    refine g_aload_n cx dX4_readDoor_14 rfl ?_
    refine g_getIN (i := (7, 0)) (ci := 4) (k := 6) (v := nI a) cx a7_0 rfl rfl rfl (by decide) inX4 lfX4_76 dX4_readDoor_15 (hv1) ?_
    refine g_fcallV (As := [vi (nI a)]) (rest := []) cx knX1_hasDoorAt (x_hasDoorAt hR1.2.2.1.1 (by decide) (v := a) (by omega)) a1_1 rfl rfl lmX4_103 niX1_hasDoorAt seX1_hasDoorAt rfl (by decide) (Nat.le_of_ble_eq_true rfl) rfl dX4_readDoor_18 ?_
    refine g_if_neB (tgt := 35) cx dX4_readDoor_21 (by decide) (fun h_21 => ?_) (fun h_21 => ?_)
    · skip
      refine g_iconst (v := nI 0) cx dX4_readDoor_35 (by decide) ?_
      exact g_ret cx rq rfl (by rfl) dX4_readDoor_36 ⟨rfl, ⟨hR1, hs1⟩⟩
    · skip
      refine g_aload_n cx dX4_readDoor_24 rfl ?_
      refine g_getR (i := (7, 0)) (ci := 4) (k := 2) (j := (1, 1)) cx a7_0 rfl rfl rfl (by decide) inX4 lfX4_18 dX4_readDoor_25 ?_
      refine g_getIN (i := (1, 1)) (ci := 1) (k := 4) (v := nI R.2.2.2.1) cx a1_1 rfl rfl rfl (by decide) inX1 lfX4_106 dX4_readDoor_28 (h1Dn) ?_
      refine g_iconst (v := nI 3) cx dX4_readDoor_31 (by decide) ?_
      refine g_icmp_ltN (tgt := 37) cx dX4_readDoor_32 (by decide) (by omega) (by omega) (fun h_32 => ?_) (fun h_32 => ?_)
      · skip
        exact absurd (newD_t (by omega) h_32 h_21) (by rw [hnd]; decide)
      · skip
        refine g_iconst (v := nI 0) cx dX4_readDoor_35 (by decide) ?_
        exact g_ret cx rq rfl (by rfl) dX4_readDoor_36 ⟨rfl, ⟨hR1, hs1⟩⟩

set_option maxRecDepth 100000 in
set_option maxHeartbeats 4000000 in
theorem x_rL_y {D E : Wd} {t : Nat → Nat} {len : Nat} {R : RS} {T : TL} {e : Nat} (hR : RKx D E t len R T e) {a : Nat} (hy1 : NumY t len 0 (R.1 - 1) (tkP t len e) (tkE t len (tkP t len e)) a) {c : Nat} (hy2 : NumY t len 0 71 (tkP t len (tkE t len (tkP t len e))) (tkE t len (tkP t len (tkE t len (tkP t len e)))) c) (hcs : R.2.2.1 (bf R.1 a) + 1 ≤ onN (R.2.1 (bf R.1 a)) c ∧ onN (R.2.1 (bf R.1 a)) c + (R.2.2.1 a + 1) ≤ wid R.1 R.2.1 (bf R.1 a) + wid R.1 R.2.1 a) : Mok mX4_readLeaf idsA 4 [vr (7, 0)] E (fun r' E' => r' = (some (vi (nI 1))) ∧ RKx D E' t len (R.1, updN R.2.1 a c, R.2.2) T (tkE t len (tkP t len (tkE t len (tkP t len e))))) := by
  obtain ⟨hX, ⟨hE9, he⟩, ⟨⟨hn3, hn8, hN, hK, hF, hd3, hDn, hDr, hp5, hPn⟩, hH, hPl, hpp⟩, hFr⟩ := id hR
  have ha8 := hy1.2.2
  have hc7 := hy2.2.2
  refine Mok.of (L := [some (vr (7, 0)), none]) rfl (fun _ => Nat.le_of_ble_eq_true rfl) (fun _ => rfl) (fun X cx rq => ?_)
  refine g_aload_n cx dX4_readLeaf_0 rfl ?_
  refine g_iconst (v := nI 0) cx dX4_readLeaf_1 (by decide) ?_
  refine g_aload_n cx dX4_readLeaf_2 rfl ?_
  refine g_getR (i := (7, 0)) (ci := 4) (k := 2) (j := (1, 1)) cx a7_0 rfl rfl rfl (by decide) inX4 lfX4_18 dX4_readLeaf_3 ?_
  refine g_getIN (i := (1, 1)) (ci := 1) (k := 0) (v := nI R.1) cx a1_1 rfl rfl rfl (by decide) inX1 lfX4_83 dX4_readLeaf_6 (hN) ?_
  refine g_iconst (v := nI 1) cx dX4_readLeaf_9 (by decide) ?_
  refine g_isubN cx dX4_readLeaf_10 (by omega) ?_
  refine g_callV (As := [vi (nI 0), vi (nI (R.1 - 1))]) (rest := []) cx knX4_readNumber (x_num_y hR (lo := 0) (hi := (R.1 - 1)) (v := a) (by omega) (by omega) hy1) a7_0 rfl rfl lmX4_72 niX4_readNumber seX4_readNumber rfl (by decide) (Nat.le_of_ble_eq_true rfl) rfl dX4_readLeaf_11 (fun r0 E1 hp0 => ?_)
  obtain ⟨rfl, hR1, hs1, hv1⟩ := hp0
  show Gk X mX4_readLeaf idsA 14 [some (vr (7, 0)), none] [vi (nI 1)] E1
  obtain ⟨h1X, ⟨h1E, h1e⟩, ⟨⟨h1n3, h1n8, h1N, h1K, h1F, h1d3, h1Dn, h1Dr, h1p5, h1Pn⟩, h1H, h1Pl, h1pp⟩, h1Fr⟩ := id hR1
  refine g_if_neN (tgt := 19) cx dX4_readLeaf_14 (by decide) (by omega) (fun h_14 => ?_) (fun h_14 => ?_)
  · skip
    refine g_aload_n cx dX4_readLeaf_19 rfl ?_
    refine g_getIN (i := (7, 0)) (ci := 4) (k := 6) (v := nI a) cx a7_0 rfl rfl rfl (by decide) inX4 lfX4_76 dX4_readLeaf_20 (hv1) ?_
    refine g_istore_n (L' := [some (vr (7, 0)), some (vi (nI a))]) cx dX4_readLeaf_23 (by decide) rfl rfl ?_
    refine g_aload_n cx dX4_readLeaf_24 rfl ?_
    refine g_iconst (v := nI 0) cx dX4_readLeaf_25 (by decide) ?_
    refine g_bipush (v := nI 71) cx dX4_readLeaf_26 (by decide) ?_
    refine g_callV (As := [vi (nI 0), vi (nI 71)]) (rest := []) cx knX4_readNumber (x_num_y hR1 (lo := 0) (hi := 71) (v := c) (by omega) (by omega) hy2) a7_0 rfl rfl lmX4_72 niX4_readNumber seX4_readNumber rfl (by decide) (Nat.le_of_ble_eq_true rfl) rfl dX4_readLeaf_28 (fun r0 E2 hp0 => ?_)
    obtain ⟨rfl, hR2, hs2, hv2⟩ := hp0
    show Gk X mX4_readLeaf idsA 31 [some (vr (7, 0)), some (vi (nI a))] [vi (nI 1)] E2
    obtain ⟨h2X, ⟨h2E, h2e⟩, ⟨⟨h2n3, h2n8, h2N, h2K, h2F, h2d3, h2Dn, h2Dr, h2p5, h2Pn⟩, h2H, h2Pl, h2pp⟩, h2Fr⟩ := id hR2
    refine g_if_eqN (tgt := 49) cx dX4_readLeaf_31 (by decide) (by omega) (fun h_31 => ?_) (fun h_31 => ?_)
    · skip
      exact absurd h_31 (by decide)
    · skip
      refine g_aload_n cx dX4_readLeaf_34 rfl ?_
      refine g_getR (i := (7, 0)) (ci := 4) (k := 2) (j := (1, 1)) cx a7_0 rfl rfl rfl (by decide) inX4 lfX4_18 dX4_readLeaf_35 ?_
      refine g_iload_n cx dX4_readLeaf_38 rfl ?_
      refine g_aload_n cx dX4_readLeaf_39 rfl ?_
      refine g_getIN (i := (7, 0)) (ci := 4) (k := 6) (v := nI c) cx a7_0 rfl rfl rfl (by decide) inX4 lfX4_76 dX4_readLeaf_40 (hv2) ?_
      refine g_fcallV (As := [vi (nI a), vi (nI c)]) (rest := []) cx knX1_canStandAt (x_canStandAt hR2.2.2.1.1 (by decide) hR2.2.2.1.2.1 (i := a) (c := c) (by omega) (by omega)) a1_1 rfl rfl lmX4_86 niX1_canStandAt seX1_canStandAt rfl (by decide) (Nat.le_of_ble_eq_true rfl) rfl dX4_readLeaf_43 ?_
      refine g_if_neB (tgt := 51) cx dX4_readLeaf_46 (by decide) (fun h_46 => ?_) (fun h_46 => ?_)
      · skip
        refine g_aload_n cx dX4_readLeaf_51 rfl ?_
        refine g_getR (i := (7, 0)) (ci := 4) (k := 2) (j := (1, 1)) cx a7_0 rfl rfl rfl (by decide) inX4 lfX4_18 dX4_readLeaf_52 ?_
        refine g_getR (i := (1, 1)) (ci := 1) (k := 1) (j := (2, 1)) cx a1_1 rfl rfl rfl (by decide) inX1 lfX4_89 dX4_readLeaf_55 ?_
        refine g_iload_n cx dX4_readLeaf_58 rfl ?_
        refine g_aload_n cx dX4_readLeaf_59 rfl ?_
        refine g_getIN (i := (7, 0)) (ci := 4) (k := 6) (v := nI c) cx a7_0 rfl rfl rfl (by decide) inX4 lfX4_76 dX4_readLeaf_60 (hv2) ?_
        refine g_iast (i := (2, 1)) (j := a) cx a2_1 rfl (rfl) (by omega) (by decide) dX4_readLeaf_63 ?_
        refine g_iconst (v := nI 1) cx dX4_readLeaf_64 (by decide) ?_
        exact g_ret cx rq rfl (by rfl) dX4_readLeaf_65 ⟨rfl, hR2.p (by decide) (by decide) (hR2.2.2.1.hm (by omega))⟩
      · skip
        exact absurd hcs h_46
  · skip
    exact absurd h_14 (by decide)

set_option maxRecDepth 100000 in
set_option maxHeartbeats 4000000 in
theorem x_rL_n1 {D E : Wd} {t : Nat → Nat} {len : Nat} {R : RS} {T : TL} {e : Nat} (hR : RKx D E t len R T e) (hno : NumN t len 0 (R.1 - 1) (tkP t len e) (tkE t len (tkP t len e))) : Mok mX4_readLeaf idsA 4 [vr (7, 0)] E (fun r' E' => r' = (some (vi (nI 0))) ∧ (RKx D E' t len R T (tkE t len (tkP t len e)) ∧ E' (7, 0) 4 = nI (tkP t len e))) := by
  obtain ⟨hX, ⟨hE9, he⟩, ⟨⟨hn3, hn8, hN, hK, hF, hd3, hDn, hDr, hp5, hPn⟩, hH, hPl, hpp⟩, hFr⟩ := id hR
  refine Mok.of (L := [some (vr (7, 0)), none]) rfl (fun _ => Nat.le_of_ble_eq_true rfl) (fun _ => rfl) (fun X cx rq => ?_)
  refine g_aload_n cx dX4_readLeaf_0 rfl ?_
  refine g_iconst (v := nI 0) cx dX4_readLeaf_1 (by decide) ?_
  refine g_aload_n cx dX4_readLeaf_2 rfl ?_
  refine g_getR (i := (7, 0)) (ci := 4) (k := 2) (j := (1, 1)) cx a7_0 rfl rfl rfl (by decide) inX4 lfX4_18 dX4_readLeaf_3 ?_
  refine g_getIN (i := (1, 1)) (ci := 1) (k := 0) (v := nI R.1) cx a1_1 rfl rfl rfl (by decide) inX1 lfX4_83 dX4_readLeaf_6 (hN) ?_
  refine g_iconst (v := nI 1) cx dX4_readLeaf_9 (by decide) ?_
  refine g_isubN cx dX4_readLeaf_10 (by omega) ?_
  refine g_callV (As := [vi (nI 0), vi (nI (R.1 - 1))]) (rest := []) cx knX4_readNumber (x_num_n hR (lo := 0) (hi := (R.1 - 1)) (by omega) (by omega) hno) a7_0 rfl rfl lmX4_72 niX4_readNumber seX4_readNumber rfl (by decide) (Nat.le_of_ble_eq_true rfl) rfl dX4_readLeaf_11 (fun r0 E1 hp0 => ?_)
  obtain ⟨rfl, hR1, hs1⟩ := hp0
  show Gk X mX4_readLeaf idsA 14 [some (vr (7, 0)), none] [vi (nI 0)] E1
  refine g_if_neN (tgt := 19) cx dX4_readLeaf_14 (by decide) (by omega) (fun h_14 => ?_) (fun h_14 => ?_)
  · skip
    exact absurd rfl h_14
  · skip
    refine g_iconst (v := nI 0) cx dX4_readLeaf_17 (by decide) ?_
    exact g_ret cx rq rfl (by rfl) dX4_readLeaf_18 ⟨rfl, ⟨hR1, hs1⟩⟩

set_option maxRecDepth 100000 in
set_option maxHeartbeats 4000000 in
theorem x_rL_n2 {D E : Wd} {t : Nat → Nat} {len : Nat} {R : RS} {T : TL} {e : Nat} (hR : RKx D E t len R T e) {a : Nat} (hy1 : NumY t len 0 (R.1 - 1) (tkP t len e) (tkE t len (tkP t len e)) a) (hn2 : NumN t len 0 71 (tkP t len (tkE t len (tkP t len e))) (tkE t len (tkP t len (tkE t len (tkP t len e))))) : Mok mX4_readLeaf idsA 4 [vr (7, 0)] E (fun r' E' => r' = (some (vi (nI 0))) ∧ (RKx D E' t len R T (tkE t len (tkP t len (tkE t len (tkP t len e)))) ∧ E' (7, 0) 4 = nI (tkP t len (tkE t len (tkP t len e))))) := by
  obtain ⟨hX, ⟨hE9, he⟩, ⟨⟨hn3, hn8, hN, hK, hF, hd3, hDn, hDr, hp5, hPn⟩, hH, hPl, hpp⟩, hFr⟩ := id hR
  have ha8 := hy1.2.2
  refine Mok.of (L := [some (vr (7, 0)), none]) rfl (fun _ => Nat.le_of_ble_eq_true rfl) (fun _ => rfl) (fun X cx rq => ?_)
  refine g_aload_n cx dX4_readLeaf_0 rfl ?_
  refine g_iconst (v := nI 0) cx dX4_readLeaf_1 (by decide) ?_
  refine g_aload_n cx dX4_readLeaf_2 rfl ?_
  refine g_getR (i := (7, 0)) (ci := 4) (k := 2) (j := (1, 1)) cx a7_0 rfl rfl rfl (by decide) inX4 lfX4_18 dX4_readLeaf_3 ?_
  refine g_getIN (i := (1, 1)) (ci := 1) (k := 0) (v := nI R.1) cx a1_1 rfl rfl rfl (by decide) inX1 lfX4_83 dX4_readLeaf_6 (hN) ?_
  refine g_iconst (v := nI 1) cx dX4_readLeaf_9 (by decide) ?_
  refine g_isubN cx dX4_readLeaf_10 (by omega) ?_
  refine g_callV (As := [vi (nI 0), vi (nI (R.1 - 1))]) (rest := []) cx knX4_readNumber (x_num_y hR (lo := 0) (hi := (R.1 - 1)) (v := a) (by omega) (by omega) hy1) a7_0 rfl rfl lmX4_72 niX4_readNumber seX4_readNumber rfl (by decide) (Nat.le_of_ble_eq_true rfl) rfl dX4_readLeaf_11 (fun r0 E1 hp0 => ?_)
  obtain ⟨rfl, hR1, hs1, hv1⟩ := hp0
  show Gk X mX4_readLeaf idsA 14 [some (vr (7, 0)), none] [vi (nI 1)] E1
  obtain ⟨h1X, ⟨h1E, h1e⟩, ⟨⟨h1n3, h1n8, h1N, h1K, h1F, h1d3, h1Dn, h1Dr, h1p5, h1Pn⟩, h1H, h1Pl, h1pp⟩, h1Fr⟩ := id hR1
  refine g_if_neN (tgt := 19) cx dX4_readLeaf_14 (by decide) (by omega) (fun h_14 => ?_) (fun h_14 => ?_)
  · skip
    refine g_aload_n cx dX4_readLeaf_19 rfl ?_
    refine g_getIN (i := (7, 0)) (ci := 4) (k := 6) (v := nI a) cx a7_0 rfl rfl rfl (by decide) inX4 lfX4_76 dX4_readLeaf_20 (hv1) ?_
    refine g_istore_n (L' := [some (vr (7, 0)), some (vi (nI a))]) cx dX4_readLeaf_23 (by decide) rfl rfl ?_
    refine g_aload_n cx dX4_readLeaf_24 rfl ?_
    refine g_iconst (v := nI 0) cx dX4_readLeaf_25 (by decide) ?_
    refine g_bipush (v := nI 71) cx dX4_readLeaf_26 (by decide) ?_
    refine g_callV (As := [vi (nI 0), vi (nI 71)]) (rest := []) cx knX4_readNumber (x_num_n hR1 (lo := 0) (hi := 71) (by omega) (by omega) hn2) a7_0 rfl rfl lmX4_72 niX4_readNumber seX4_readNumber rfl (by decide) (Nat.le_of_ble_eq_true rfl) rfl dX4_readLeaf_28 (fun r0 E2 hp0 => ?_)
    obtain ⟨rfl, hR2, hs2⟩ := hp0
    show Gk X mX4_readLeaf idsA 31 [some (vr (7, 0)), some (vi (nI a))] [vi (nI 0)] E2
    refine g_if_eqN (tgt := 49) cx dX4_readLeaf_31 (by decide) (by omega) (fun h_31 => ?_) (fun h_31 => ?_)
    · skip
      refine g_iconst (v := nI 0) cx dX4_readLeaf_49 (by decide) ?_
      exact g_ret cx rq rfl (by rfl) dX4_readLeaf_50 ⟨rfl, ⟨hR2, hs2⟩⟩
    · skip
      exact absurd rfl h_31
  · skip
    exact absurd h_14 (by decide)

set_option maxRecDepth 100000 in
set_option maxHeartbeats 4000000 in
theorem x_rL_n3 {D E : Wd} {t : Nat → Nat} {len : Nat} {R : RS} {T : TL} {e : Nat} (hR : RKx D E t len R T e) {a : Nat} (hy1 : NumY t len 0 (R.1 - 1) (tkP t len e) (tkE t len (tkP t len e)) a) {c : Nat} (hy2 : NumY t len 0 71 (tkP t len (tkE t len (tkP t len e))) (tkE t len (tkP t len (tkE t len (tkP t len e)))) c) (hcs : ¬ (R.2.2.1 (bf R.1 a) + 1 ≤ onN (R.2.1 (bf R.1 a)) c ∧ onN (R.2.1 (bf R.1 a)) c + (R.2.2.1 a + 1) ≤ wid R.1 R.2.1 (bf R.1 a) + wid R.1 R.2.1 a)) : Mok mX4_readLeaf idsA 4 [vr (7, 0)] E (fun r' E' => r' = (some (vi (nI 0))) ∧ (RKx D E' t len R T (tkE t len (tkP t len (tkE t len (tkP t len e)))) ∧ E' (7, 0) 4 = nI (tkP t len (tkE t len (tkP t len e))))) := by
  obtain ⟨hX, ⟨hE9, he⟩, ⟨⟨hn3, hn8, hN, hK, hF, hd3, hDn, hDr, hp5, hPn⟩, hH, hPl, hpp⟩, hFr⟩ := id hR
  have ha8 := hy1.2.2
  have hc7 := hy2.2.2
  refine Mok.of (L := [some (vr (7, 0)), none]) rfl (fun _ => Nat.le_of_ble_eq_true rfl) (fun _ => rfl) (fun X cx rq => ?_)
  refine g_aload_n cx dX4_readLeaf_0 rfl ?_
  refine g_iconst (v := nI 0) cx dX4_readLeaf_1 (by decide) ?_
  refine g_aload_n cx dX4_readLeaf_2 rfl ?_
  refine g_getR (i := (7, 0)) (ci := 4) (k := 2) (j := (1, 1)) cx a7_0 rfl rfl rfl (by decide) inX4 lfX4_18 dX4_readLeaf_3 ?_
  refine g_getIN (i := (1, 1)) (ci := 1) (k := 0) (v := nI R.1) cx a1_1 rfl rfl rfl (by decide) inX1 lfX4_83 dX4_readLeaf_6 (hN) ?_
  refine g_iconst (v := nI 1) cx dX4_readLeaf_9 (by decide) ?_
  refine g_isubN cx dX4_readLeaf_10 (by omega) ?_
  refine g_callV (As := [vi (nI 0), vi (nI (R.1 - 1))]) (rest := []) cx knX4_readNumber (x_num_y hR (lo := 0) (hi := (R.1 - 1)) (v := a) (by omega) (by omega) hy1) a7_0 rfl rfl lmX4_72 niX4_readNumber seX4_readNumber rfl (by decide) (Nat.le_of_ble_eq_true rfl) rfl dX4_readLeaf_11 (fun r0 E1 hp0 => ?_)
  obtain ⟨rfl, hR1, hs1, hv1⟩ := hp0
  show Gk X mX4_readLeaf idsA 14 [some (vr (7, 0)), none] [vi (nI 1)] E1
  obtain ⟨h1X, ⟨h1E, h1e⟩, ⟨⟨h1n3, h1n8, h1N, h1K, h1F, h1d3, h1Dn, h1Dr, h1p5, h1Pn⟩, h1H, h1Pl, h1pp⟩, h1Fr⟩ := id hR1
  refine g_if_neN (tgt := 19) cx dX4_readLeaf_14 (by decide) (by omega) (fun h_14 => ?_) (fun h_14 => ?_)
  · skip
    refine g_aload_n cx dX4_readLeaf_19 rfl ?_
    refine g_getIN (i := (7, 0)) (ci := 4) (k := 6) (v := nI a) cx a7_0 rfl rfl rfl (by decide) inX4 lfX4_76 dX4_readLeaf_20 (hv1) ?_
    refine g_istore_n (L' := [some (vr (7, 0)), some (vi (nI a))]) cx dX4_readLeaf_23 (by decide) rfl rfl ?_
    refine g_aload_n cx dX4_readLeaf_24 rfl ?_
    refine g_iconst (v := nI 0) cx dX4_readLeaf_25 (by decide) ?_
    refine g_bipush (v := nI 71) cx dX4_readLeaf_26 (by decide) ?_
    refine g_callV (As := [vi (nI 0), vi (nI 71)]) (rest := []) cx knX4_readNumber (x_num_y hR1 (lo := 0) (hi := 71) (v := c) (by omega) (by omega) hy2) a7_0 rfl rfl lmX4_72 niX4_readNumber seX4_readNumber rfl (by decide) (Nat.le_of_ble_eq_true rfl) rfl dX4_readLeaf_28 (fun r0 E2 hp0 => ?_)
    obtain ⟨rfl, hR2, hs2, hv2⟩ := hp0
    show Gk X mX4_readLeaf idsA 31 [some (vr (7, 0)), some (vi (nI a))] [vi (nI 1)] E2
    obtain ⟨h2X, ⟨h2E, h2e⟩, ⟨⟨h2n3, h2n8, h2N, h2K, h2F, h2d3, h2Dn, h2Dr, h2p5, h2Pn⟩, h2H, h2Pl, h2pp⟩, h2Fr⟩ := id hR2
    refine g_if_eqN (tgt := 49) cx dX4_readLeaf_31 (by decide) (by omega) (fun h_31 => ?_) (fun h_31 => ?_)
    · skip
      exact absurd h_31 (by decide)
    · skip
      refine g_aload_n cx dX4_readLeaf_34 rfl ?_
      refine g_getR (i := (7, 0)) (ci := 4) (k := 2) (j := (1, 1)) cx a7_0 rfl rfl rfl (by decide) inX4 lfX4_18 dX4_readLeaf_35 ?_
      refine g_iload_n cx dX4_readLeaf_38 rfl ?_
      refine g_aload_n cx dX4_readLeaf_39 rfl ?_
      refine g_getIN (i := (7, 0)) (ci := 4) (k := 6) (v := nI c) cx a7_0 rfl rfl rfl (by decide) inX4 lfX4_76 dX4_readLeaf_40 (hv2) ?_
      refine g_fcallV (As := [vi (nI a), vi (nI c)]) (rest := []) cx knX1_canStandAt (x_canStandAt hR2.2.2.1.1 (by decide) hR2.2.2.1.2.1 (i := a) (c := c) (by omega) (by omega)) a1_1 rfl rfl lmX4_86 niX1_canStandAt seX1_canStandAt rfl (by decide) (Nat.le_of_ble_eq_true rfl) rfl dX4_readLeaf_43 ?_
      refine g_if_neB (tgt := 51) cx dX4_readLeaf_46 (by decide) (fun h_46 => ?_) (fun h_46 => ?_)
      · skip
        exact absurd h_46 hcs
      · skip
        refine g_iconst (v := nI 0) cx dX4_readLeaf_49 (by decide) ?_
        exact g_ret cx rq rfl (by rfl) dX4_readLeaf_50 ⟨rfl, ⟨hR2, hs2⟩⟩
  · skip
    exact absurd h_14 (by decide)

set_option maxRecDepth 100000 in
set_option maxHeartbeats 4000000 in
theorem x_rU_y {D E : Wd} {t : Nat → Nat} {len : Nat} {R : RS} {T : TL} {e : Nat} (hR : RKx D E t len R T e) {a : Nat} (hy1 : NumY t len 0 (R.1 - 1) (tkP t len e) (tkE t len (tkP t len e)) a) {c : Nat} (hy2 : NumY t len 0 20 (tkP t len (tkE t len (tkP t len e))) (tkE t len (tkP t len (tkE t len (tkP t len e)))) c) (hcw : c + 1 ≤ wid R.1 R.2.1 a) : Mok mX4_readPut idsA 4 [vr (7, 0)] E (fun r' E' => r' = (some (vi (nI 1))) ∧ RKx D E' t len (R.1, R.2.1, updN R.2.2.1 a c, R.2.2.2) T (tkE t len (tkP t len (tkE t len (tkP t len e))))) := by
  obtain ⟨hX, ⟨hE9, he⟩, ⟨⟨hn3, hn8, hN, hK, hF, hd3, hDn, hDr, hp5, hPn⟩, hH, hPl, hpp⟩, hFr⟩ := id hR
  have ha8 := hy1.2.2
  have hc7 := hy2.2.2
  have hw9 := wid_lt (n := R.1) (a := R.2.1) (r := a) (by omega) (fun j hj => (hH j hj).2)
  refine Mok.of (L := [some (vr (7, 0)), none]) rfl (fun _ => Nat.le_of_ble_eq_true rfl) (fun _ => rfl) (fun X cx rq => ?_)
  refine g_aload_n cx dX4_readPut_0 rfl ?_
  refine g_iconst (v := nI 0) cx dX4_readPut_1 (by decide) ?_
  refine g_aload_n cx dX4_readPut_2 rfl ?_
  refine g_getR (i := (7, 0)) (ci := 4) (k := 2) (j := (1, 1)) cx a7_0 rfl rfl rfl (by decide) inX4 lfX4_18 dX4_readPut_3 ?_
  refine g_getIN (i := (1, 1)) (ci := 1) (k := 0) (v := nI R.1) cx a1_1 rfl rfl rfl (by decide) inX1 lfX4_83 dX4_readPut_6 (hN) ?_
  refine g_iconst (v := nI 1) cx dX4_readPut_9 (by decide) ?_
  refine g_isubN cx dX4_readPut_10 (by omega) ?_
  refine g_callV (As := [vi (nI 0), vi (nI (R.1 - 1))]) (rest := []) cx knX4_readNumber (x_num_y hR (lo := 0) (hi := (R.1 - 1)) (v := a) (by omega) (by omega) hy1) a7_0 rfl rfl lmX4_72 niX4_readNumber seX4_readNumber rfl (by decide) (Nat.le_of_ble_eq_true rfl) rfl dX4_readPut_11 (fun r0 E1 hp0 => ?_)
  obtain ⟨rfl, hR1, hs1, hv1⟩ := hp0
  show Gk X mX4_readPut idsA 14 [some (vr (7, 0)), none] [vi (nI 1)] E1
  obtain ⟨h1X, ⟨h1E, h1e⟩, ⟨⟨h1n3, h1n8, h1N, h1K, h1F, h1d3, h1Dn, h1Dr, h1p5, h1Pn⟩, h1H, h1Pl, h1pp⟩, h1Fr⟩ := id hR1
  refine g_if_neN (tgt := 19) cx dX4_readPut_14 (by decide) (by omega) (fun h_14 => ?_) (fun h_14 => ?_)
  · skip
    refine g_aload_n cx dX4_readPut_19 rfl ?_
    refine g_getIN (i := (7, 0)) (ci := 4) (k := 6) (v := nI a) cx a7_0 rfl rfl rfl (by decide) inX4 lfX4_76 dX4_readPut_20 (hv1) ?_
    refine g_istore_n (L' := [some (vr (7, 0)), some (vi (nI a))]) cx dX4_readPut_23 (by decide) rfl rfl ?_
    refine g_aload_n cx dX4_readPut_24 rfl ?_
    refine g_iconst (v := nI 0) cx dX4_readPut_25 (by decide) ?_
    refine g_bipush (v := nI 20) cx dX4_readPut_26 (by decide) ?_
    refine g_callV (As := [vi (nI 0), vi (nI 20)]) (rest := []) cx knX4_readNumber (x_num_y hR1 (lo := 0) (hi := 20) (v := c) (by omega) (by omega) hy2) a7_0 rfl rfl lmX4_72 niX4_readNumber seX4_readNumber rfl (by decide) (Nat.le_of_ble_eq_true rfl) rfl dX4_readPut_28 (fun r0 E2 hp0 => ?_)
    obtain ⟨rfl, hR2, hs2, hv2⟩ := hp0
    show Gk X mX4_readPut idsA 31 [some (vr (7, 0)), some (vi (nI a))] [vi (nI 1)] E2
    obtain ⟨h2X, ⟨h2E, h2e⟩, ⟨⟨h2n3, h2n8, h2N, h2K, h2F, h2d3, h2Dn, h2Dr, h2p5, h2Pn⟩, h2H, h2Pl, h2pp⟩, h2Fr⟩ := id hR2
    refine g_if_eqN (tgt := 51) cx dX4_readPut_31 (by decide) (by omega) (fun h_31 => ?_) (fun h_31 => ?_)
    · skip
      exact absurd h_31 (by decide)
    · skip
      refine g_aload_n cx dX4_readPut_34 rfl ?_
      refine g_getIN (i := (7, 0)) (ci := 4) (k := 6) (v := nI c) cx a7_0 rfl rfl rfl (by decide) inX4 lfX4_76 dX4_readPut_35 (hv2) ?_
      refine g_iconst (v := nI 1) cx dX4_readPut_38 (by decide) ?_
      refine g_iaddN cx dX4_readPut_39 ?_
      refine g_aload_n cx dX4_readPut_40 rfl ?_
      refine g_getR (i := (7, 0)) (ci := 4) (k := 2) (j := (1, 1)) cx a7_0 rfl rfl rfl (by decide) inX4 lfX4_18 dX4_readPut_41 ?_
      refine g_iload_n cx dX4_readPut_44 rfl ?_
      refine g_fcallV (As := [vi (nI a)]) (rest := [vi (nI (c + 1))]) cx knX1_toldWidth (x_toldWidth hR2.2.2.1.1 (by decide) hR2.2.2.1.2.1 (i := a) (by omega)) a1_1 rfl rfl lmX4_96 niX1_toldWidth seX1_toldWidth rfl (by decide) (Nat.le_of_ble_eq_true rfl) rfl dX4_readPut_45 ?_
      refine g_icmp_leN (tgt := 53) cx dX4_readPut_48 (by decide) (by omega) (by omega) (fun h_48 => ?_) (fun h_48 => ?_)
      · skip
        refine g_aload_n cx dX4_readPut_53 rfl ?_
        refine g_getR (i := (7, 0)) (ci := 4) (k := 2) (j := (1, 1)) cx a7_0 rfl rfl rfl (by decide) inX4 lfX4_18 dX4_readPut_54 ?_
        refine g_getR (i := (1, 1)) (ci := 1) (k := 3) (j := (4, 1)) cx a1_1 rfl rfl rfl (by decide) inX1 lfX4_100 dX4_readPut_57 ?_
        refine g_iload_n cx dX4_readPut_60 rfl ?_
        refine g_aload_n cx dX4_readPut_61 rfl ?_
        refine g_getIN (i := (7, 0)) (ci := 4) (k := 6) (v := nI c) cx a7_0 rfl rfl rfl (by decide) inX4 lfX4_76 dX4_readPut_62 (hv2) ?_
        refine g_iast (i := (4, 1)) (j := a) cx a4_1 rfl (rfl) (by omega) (by decide) dX4_readPut_65 ?_
        refine g_iconst (v := nI 1) cx dX4_readPut_66 (by decide) ?_
        exact g_ret cx rq rfl (by rfl) dX4_readPut_67 ⟨rfl, hR2.p (by decide) (by decide) (hR2.2.2.1.pt (by omega))⟩
      · skip
        exact absurd h_48 (by omega)
  · skip
    exact absurd h_14 (by decide)

set_option maxRecDepth 100000 in
set_option maxHeartbeats 4000000 in
theorem x_rU_n1 {D E : Wd} {t : Nat → Nat} {len : Nat} {R : RS} {T : TL} {e : Nat} (hR : RKx D E t len R T e) (hno : NumN t len 0 (R.1 - 1) (tkP t len e) (tkE t len (tkP t len e))) : Mok mX4_readPut idsA 4 [vr (7, 0)] E (fun r' E' => r' = (some (vi (nI 0))) ∧ (RKx D E' t len R T (tkE t len (tkP t len e)) ∧ E' (7, 0) 4 = nI (tkP t len e))) := by
  obtain ⟨hX, ⟨hE9, he⟩, ⟨⟨hn3, hn8, hN, hK, hF, hd3, hDn, hDr, hp5, hPn⟩, hH, hPl, hpp⟩, hFr⟩ := id hR
  refine Mok.of (L := [some (vr (7, 0)), none]) rfl (fun _ => Nat.le_of_ble_eq_true rfl) (fun _ => rfl) (fun X cx rq => ?_)
  refine g_aload_n cx dX4_readPut_0 rfl ?_
  refine g_iconst (v := nI 0) cx dX4_readPut_1 (by decide) ?_
  refine g_aload_n cx dX4_readPut_2 rfl ?_
  refine g_getR (i := (7, 0)) (ci := 4) (k := 2) (j := (1, 1)) cx a7_0 rfl rfl rfl (by decide) inX4 lfX4_18 dX4_readPut_3 ?_
  refine g_getIN (i := (1, 1)) (ci := 1) (k := 0) (v := nI R.1) cx a1_1 rfl rfl rfl (by decide) inX1 lfX4_83 dX4_readPut_6 (hN) ?_
  refine g_iconst (v := nI 1) cx dX4_readPut_9 (by decide) ?_
  refine g_isubN cx dX4_readPut_10 (by omega) ?_
  refine g_callV (As := [vi (nI 0), vi (nI (R.1 - 1))]) (rest := []) cx knX4_readNumber (x_num_n hR (lo := 0) (hi := (R.1 - 1)) (by omega) (by omega) hno) a7_0 rfl rfl lmX4_72 niX4_readNumber seX4_readNumber rfl (by decide) (Nat.le_of_ble_eq_true rfl) rfl dX4_readPut_11 (fun r0 E1 hp0 => ?_)
  obtain ⟨rfl, hR1, hs1⟩ := hp0
  show Gk X mX4_readPut idsA 14 [some (vr (7, 0)), none] [vi (nI 0)] E1
  refine g_if_neN (tgt := 19) cx dX4_readPut_14 (by decide) (by omega) (fun h_14 => ?_) (fun h_14 => ?_)
  · skip
    exact absurd rfl h_14
  · skip
    refine g_iconst (v := nI 0) cx dX4_readPut_17 (by decide) ?_
    exact g_ret cx rq rfl (by rfl) dX4_readPut_18 ⟨rfl, ⟨hR1, hs1⟩⟩

set_option maxRecDepth 100000 in
set_option maxHeartbeats 4000000 in
theorem x_rU_n2 {D E : Wd} {t : Nat → Nat} {len : Nat} {R : RS} {T : TL} {e : Nat} (hR : RKx D E t len R T e) {a : Nat} (hy1 : NumY t len 0 (R.1 - 1) (tkP t len e) (tkE t len (tkP t len e)) a) (hn2 : NumN t len 0 20 (tkP t len (tkE t len (tkP t len e))) (tkE t len (tkP t len (tkE t len (tkP t len e))))) : Mok mX4_readPut idsA 4 [vr (7, 0)] E (fun r' E' => r' = (some (vi (nI 0))) ∧ (RKx D E' t len R T (tkE t len (tkP t len (tkE t len (tkP t len e)))) ∧ E' (7, 0) 4 = nI (tkP t len (tkE t len (tkP t len e))))) := by
  obtain ⟨hX, ⟨hE9, he⟩, ⟨⟨hn3, hn8, hN, hK, hF, hd3, hDn, hDr, hp5, hPn⟩, hH, hPl, hpp⟩, hFr⟩ := id hR
  have ha8 := hy1.2.2
  refine Mok.of (L := [some (vr (7, 0)), none]) rfl (fun _ => Nat.le_of_ble_eq_true rfl) (fun _ => rfl) (fun X cx rq => ?_)
  refine g_aload_n cx dX4_readPut_0 rfl ?_
  refine g_iconst (v := nI 0) cx dX4_readPut_1 (by decide) ?_
  refine g_aload_n cx dX4_readPut_2 rfl ?_
  refine g_getR (i := (7, 0)) (ci := 4) (k := 2) (j := (1, 1)) cx a7_0 rfl rfl rfl (by decide) inX4 lfX4_18 dX4_readPut_3 ?_
  refine g_getIN (i := (1, 1)) (ci := 1) (k := 0) (v := nI R.1) cx a1_1 rfl rfl rfl (by decide) inX1 lfX4_83 dX4_readPut_6 (hN) ?_
  refine g_iconst (v := nI 1) cx dX4_readPut_9 (by decide) ?_
  refine g_isubN cx dX4_readPut_10 (by omega) ?_
  refine g_callV (As := [vi (nI 0), vi (nI (R.1 - 1))]) (rest := []) cx knX4_readNumber (x_num_y hR (lo := 0) (hi := (R.1 - 1)) (v := a) (by omega) (by omega) hy1) a7_0 rfl rfl lmX4_72 niX4_readNumber seX4_readNumber rfl (by decide) (Nat.le_of_ble_eq_true rfl) rfl dX4_readPut_11 (fun r0 E1 hp0 => ?_)
  obtain ⟨rfl, hR1, hs1, hv1⟩ := hp0
  show Gk X mX4_readPut idsA 14 [some (vr (7, 0)), none] [vi (nI 1)] E1
  obtain ⟨h1X, ⟨h1E, h1e⟩, ⟨⟨h1n3, h1n8, h1N, h1K, h1F, h1d3, h1Dn, h1Dr, h1p5, h1Pn⟩, h1H, h1Pl, h1pp⟩, h1Fr⟩ := id hR1
  refine g_if_neN (tgt := 19) cx dX4_readPut_14 (by decide) (by omega) (fun h_14 => ?_) (fun h_14 => ?_)
  · skip
    refine g_aload_n cx dX4_readPut_19 rfl ?_
    refine g_getIN (i := (7, 0)) (ci := 4) (k := 6) (v := nI a) cx a7_0 rfl rfl rfl (by decide) inX4 lfX4_76 dX4_readPut_20 (hv1) ?_
    refine g_istore_n (L' := [some (vr (7, 0)), some (vi (nI a))]) cx dX4_readPut_23 (by decide) rfl rfl ?_
    refine g_aload_n cx dX4_readPut_24 rfl ?_
    refine g_iconst (v := nI 0) cx dX4_readPut_25 (by decide) ?_
    refine g_bipush (v := nI 20) cx dX4_readPut_26 (by decide) ?_
    refine g_callV (As := [vi (nI 0), vi (nI 20)]) (rest := []) cx knX4_readNumber (x_num_n hR1 (lo := 0) (hi := 20) (by omega) (by omega) hn2) a7_0 rfl rfl lmX4_72 niX4_readNumber seX4_readNumber rfl (by decide) (Nat.le_of_ble_eq_true rfl) rfl dX4_readPut_28 (fun r0 E2 hp0 => ?_)
    obtain ⟨rfl, hR2, hs2⟩ := hp0
    show Gk X mX4_readPut idsA 31 [some (vr (7, 0)), some (vi (nI a))] [vi (nI 0)] E2
    refine g_if_eqN (tgt := 51) cx dX4_readPut_31 (by decide) (by omega) (fun h_31 => ?_) (fun h_31 => ?_)
    · skip
      refine g_iconst (v := nI 0) cx dX4_readPut_51 (by decide) ?_
      exact g_ret cx rq rfl (by rfl) dX4_readPut_52 ⟨rfl, ⟨hR2, hs2⟩⟩
    · skip
      exact absurd rfl h_31
  · skip
    exact absurd h_14 (by decide)

set_option maxRecDepth 100000 in
set_option maxHeartbeats 4000000 in
theorem x_rU_n3 {D E : Wd} {t : Nat → Nat} {len : Nat} {R : RS} {T : TL} {e : Nat} (hR : RKx D E t len R T e) {a : Nat} (hy1 : NumY t len 0 (R.1 - 1) (tkP t len e) (tkE t len (tkP t len e)) a) {c : Nat} (hy2 : NumY t len 0 20 (tkP t len (tkE t len (tkP t len e))) (tkE t len (tkP t len (tkE t len (tkP t len e)))) c) (hcw : ¬ c + 1 ≤ wid R.1 R.2.1 a) : Mok mX4_readPut idsA 4 [vr (7, 0)] E (fun r' E' => r' = (some (vi (nI 0))) ∧ (RKx D E' t len R T (tkE t len (tkP t len (tkE t len (tkP t len e)))) ∧ E' (7, 0) 4 = nI (tkP t len (tkE t len (tkP t len e))))) := by
  obtain ⟨hX, ⟨hE9, he⟩, ⟨⟨hn3, hn8, hN, hK, hF, hd3, hDn, hDr, hp5, hPn⟩, hH, hPl, hpp⟩, hFr⟩ := id hR
  have ha8 := hy1.2.2
  have hc7 := hy2.2.2
  have hw9 := wid_lt (n := R.1) (a := R.2.1) (r := a) (by omega) (fun j hj => (hH j hj).2)
  refine Mok.of (L := [some (vr (7, 0)), none]) rfl (fun _ => Nat.le_of_ble_eq_true rfl) (fun _ => rfl) (fun X cx rq => ?_)
  refine g_aload_n cx dX4_readPut_0 rfl ?_
  refine g_iconst (v := nI 0) cx dX4_readPut_1 (by decide) ?_
  refine g_aload_n cx dX4_readPut_2 rfl ?_
  refine g_getR (i := (7, 0)) (ci := 4) (k := 2) (j := (1, 1)) cx a7_0 rfl rfl rfl (by decide) inX4 lfX4_18 dX4_readPut_3 ?_
  refine g_getIN (i := (1, 1)) (ci := 1) (k := 0) (v := nI R.1) cx a1_1 rfl rfl rfl (by decide) inX1 lfX4_83 dX4_readPut_6 (hN) ?_
  refine g_iconst (v := nI 1) cx dX4_readPut_9 (by decide) ?_
  refine g_isubN cx dX4_readPut_10 (by omega) ?_
  refine g_callV (As := [vi (nI 0), vi (nI (R.1 - 1))]) (rest := []) cx knX4_readNumber (x_num_y hR (lo := 0) (hi := (R.1 - 1)) (v := a) (by omega) (by omega) hy1) a7_0 rfl rfl lmX4_72 niX4_readNumber seX4_readNumber rfl (by decide) (Nat.le_of_ble_eq_true rfl) rfl dX4_readPut_11 (fun r0 E1 hp0 => ?_)
  obtain ⟨rfl, hR1, hs1, hv1⟩ := hp0
  show Gk X mX4_readPut idsA 14 [some (vr (7, 0)), none] [vi (nI 1)] E1
  obtain ⟨h1X, ⟨h1E, h1e⟩, ⟨⟨h1n3, h1n8, h1N, h1K, h1F, h1d3, h1Dn, h1Dr, h1p5, h1Pn⟩, h1H, h1Pl, h1pp⟩, h1Fr⟩ := id hR1
  refine g_if_neN (tgt := 19) cx dX4_readPut_14 (by decide) (by omega) (fun h_14 => ?_) (fun h_14 => ?_)
  · skip
    refine g_aload_n cx dX4_readPut_19 rfl ?_
    refine g_getIN (i := (7, 0)) (ci := 4) (k := 6) (v := nI a) cx a7_0 rfl rfl rfl (by decide) inX4 lfX4_76 dX4_readPut_20 (hv1) ?_
    refine g_istore_n (L' := [some (vr (7, 0)), some (vi (nI a))]) cx dX4_readPut_23 (by decide) rfl rfl ?_
    refine g_aload_n cx dX4_readPut_24 rfl ?_
    refine g_iconst (v := nI 0) cx dX4_readPut_25 (by decide) ?_
    refine g_bipush (v := nI 20) cx dX4_readPut_26 (by decide) ?_
    refine g_callV (As := [vi (nI 0), vi (nI 20)]) (rest := []) cx knX4_readNumber (x_num_y hR1 (lo := 0) (hi := 20) (v := c) (by omega) (by omega) hy2) a7_0 rfl rfl lmX4_72 niX4_readNumber seX4_readNumber rfl (by decide) (Nat.le_of_ble_eq_true rfl) rfl dX4_readPut_28 (fun r0 E2 hp0 => ?_)
    obtain ⟨rfl, hR2, hs2, hv2⟩ := hp0
    show Gk X mX4_readPut idsA 31 [some (vr (7, 0)), some (vi (nI a))] [vi (nI 1)] E2
    obtain ⟨h2X, ⟨h2E, h2e⟩, ⟨⟨h2n3, h2n8, h2N, h2K, h2F, h2d3, h2Dn, h2Dr, h2p5, h2Pn⟩, h2H, h2Pl, h2pp⟩, h2Fr⟩ := id hR2
    refine g_if_eqN (tgt := 51) cx dX4_readPut_31 (by decide) (by omega) (fun h_31 => ?_) (fun h_31 => ?_)
    · skip
      exact absurd h_31 (by decide)
    · skip
      refine g_aload_n cx dX4_readPut_34 rfl ?_
      refine g_getIN (i := (7, 0)) (ci := 4) (k := 6) (v := nI c) cx a7_0 rfl rfl rfl (by decide) inX4 lfX4_76 dX4_readPut_35 (hv2) ?_
      refine g_iconst (v := nI 1) cx dX4_readPut_38 (by decide) ?_
      refine g_iaddN cx dX4_readPut_39 ?_
      refine g_aload_n cx dX4_readPut_40 rfl ?_
      refine g_getR (i := (7, 0)) (ci := 4) (k := 2) (j := (1, 1)) cx a7_0 rfl rfl rfl (by decide) inX4 lfX4_18 dX4_readPut_41 ?_
      refine g_iload_n cx dX4_readPut_44 rfl ?_
      refine g_fcallV (As := [vi (nI a)]) (rest := [vi (nI (c + 1))]) cx knX1_toldWidth (x_toldWidth hR2.2.2.1.1 (by decide) hR2.2.2.1.2.1 (i := a) (by omega)) a1_1 rfl rfl lmX4_96 niX1_toldWidth seX1_toldWidth rfl (by decide) (Nat.le_of_ble_eq_true rfl) rfl dX4_readPut_45 ?_
      refine g_icmp_leN (tgt := 53) cx dX4_readPut_48 (by decide) (by omega) (by omega) (fun h_48 => ?_) (fun h_48 => ?_)
      · skip
        exact absurd h_48 (by omega)
      · skip
        refine g_iconst (v := nI 0) cx dX4_readPut_51 (by decide) ?_
        exact g_ret cx rq rfl (by rfl) dX4_readPut_52 ⟨rfl, ⟨hR2, hs2⟩⟩
  · skip
    exact absurd h_14 (by decide)
