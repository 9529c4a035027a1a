theorem hs_rd {E : Wd} {R : RS} {a : Nat} (h : RDm E R) (h3 : 3 ≤ a) (h8 : a ≤ 8) : RDm (upA (Hs E a 8) (30, 0) (upd (Hs E a 8 (30, 0)) 20 (nI 0))) (a, fun i => 72 * i / a, fun _ => 0, 0, R.2.2.2.2.1, 0) := by
  refine ⟨h3, h8, by rw [upA_s, Hs.c]; rfl, fun j hj => ?_, fun j hj => ?_, by simp, by rw [upA_s, Hs.c]; rfl, fun j hj => by simp at hj, by simp, by rw [upA_s]; rfl⟩
  · rw [upA_n _ _ (by decide), Hs.a]
    have := putA_in (w := E (38, 0)) (b := 0) (n := 8) (a := fun i => 72 * i / a) (j := j) (by simp only at hj; omega)
    rw [Nat.zero_add] at this
    exact ⟨this, hs_div hj⟩
  · rw [upA_n _ _ (by decide), Hs.b]
    have := putA_in (w := E (39, 0)) (b := 0) (n := 8) (a := fun _ => 0) (j := j) (by simp only at hj; omega)
    rw [Nat.zero_add] at this
    exact ⟨this, by simp⟩
theorem upd1_a (f : Nat → Int32) (m : Nat) (x : Int32) : upd f (3 * m + 1 + 0) x (3 * m) = f (3 * m) := by unfold upd; rw [if_neg (by omega)]
theorem num_out {t : Nat → Nat} {len p e : Nat} (hT : TK t len p e) (h : NumN t len 0 71 p e) : ¬ lt0 (opI (nO t len p e)) 72 = true := by
  intro h2
  have h3 := rng_opI (lo := 0) (hi := 71) (o := nO t len p e) (fun v hv => nO_le hT hv)
  rw [show okN 0 71 _ = false from h] at h3
  rw [lt0_iff] at h2
  have h4 : rng (opI (nO t len p e)) 0 71 = true := rng_iff.mpr ⟨by omega, by omega⟩
  rw [h4] at h3; cases h3
theorem rd_pn {E : Wd} {R : RS} {v : Nat} (h : RDm E R) (hv : v ≤ 5) : RDm (upA E (30, 0) (upd (E (30, 0)) 20 (nI v))) (R.1, R.2.1, R.2.2.1, R.2.2.2.1, R.2.2.2.2.1, v) := by
  obtain ⟨r1, r2, r3, r4, r5, r6, r7, r8, r9, r10⟩ := h
  have hg : ∀ i : Id2, i ≠ (30, 0) → upA E (30, 0) (upd (E (30, 0)) 20 (nI v)) i = E i := fun i x => upA_n E _ x
  exact ⟨r1, r2, by rw [upA_s]; exact r3, by rw [hg _ (by decide)]; exact r4, by rw [hg _ (by decide)]; exact r5, r6, by rw [upA_s]; exact r7, by rw [hg _ (by decide)]; exact r8, hv, by rw [upA_s]; rfl⟩
theorem rd_same {E : Wd} {R : RS} (h : RDm E R) : RDm (upA E (30, 0) (upd (E (30, 0)) 20 (nI R.2.2.2.2.2))) R := rd_pn h h.2.2.2.2.2.2.2.2.1
theorem rd_hm {E : Wd} {R : RS} {a c : Nat} (h : RDm E R) (ha : a < R.1) (hc : c < 72) : RDm (upA (upA E (38, 0) (upd (E (38, 0)) a (nI c))) (30, 0) (upd ((upA E (38, 0) (upd (E (38, 0)) a (nI c))) (30, 0)) 20 (nI R.2.2.2.2.2))) (R.1, updN R.2.1 a c, R.2.2) := by
  obtain ⟨r1, r2, r3, r4, r5, r6, r7, r8, r9, r10⟩ := h
  refine rd_pn (R := (R.1, updN R.2.1 a c, R.2.2)) ⟨r1, r2, by rw [upA_n _ _ (by decide)]; exact r3, fun j hj => ?_, by rw [upA_n _ _ (by decide)]; exact r5, r6, by rw [upA_n _ _ (by decide)]; exact r7, by rw [upA_n _ _ (by decide)]; exact r8, r9, by rw [upA_n _ _ (by decide)]; exact r10⟩ r9
  rw [upA_s]
  show (if j = a then nI c else E (38, 0) j) = nI (if j = a then c else R.2.1 j) ∧ (if j = a then c else R.2.1 j) < 72
  by_cases x : j = a
  · rw [if_pos x, if_pos x]; exact ⟨rfl, hc⟩
  · rw [if_neg x, if_neg x]; exact r4 j hj
theorem rd_fu {E : Wd} {R : RS} {a c : Nat} (h : RDm E R) (ha : a < R.1) (hc : c ≤ 20) : RDm (upA (upA E (39, 0) (upd (E (39, 0)) a (nI c))) (30, 0) (upd ((upA E (39, 0) (upd (E (39, 0)) a (nI c))) (30, 0)) 20 (nI R.2.2.2.2.2))) (R.1, R.2.1, updN R.2.2.1 a c, R.2.2.2) := by
  obtain ⟨r1, r2, r3, r4, r5, r6, r7, r8, r9, r10⟩ := h
  refine rd_pn (R := (R.1, R.2.1, updN R.2.2.1 a c, R.2.2.2)) ⟨r1, r2, by rw [upA_n _ _ (by decide)]; exact r3, by rw [upA_n _ _ (by decide)]; exact r4, fun j hj => ?_, r6, by rw [upA_n _ _ (by decide)]; exact r7, by rw [upA_n _ _ (by decide)]; exact r8, r9, by rw [upA_n _ _ (by decide)]; exact r10⟩ r9
  rw [upA_s]
  show (if j = a then nI c else E (39, 0) j) = nI (if j = a then c else R.2.2.1 j) ∧ (if j = a then c else R.2.2.1 j) ≤ 20
  by_cases x : j = a
  · rw [if_pos x, if_pos x]; exact ⟨rfl, hc⟩
  · rw [if_neg x, if_neg x]; exact r5 j hj
theorem rd_dr {E : Wd} {R : RS} {a : Nat} (h : RDm E R) (ha : a < 72) (hd : R.2.2.2.1 < 3) : RDm (upA (upA (upA E (40, 0) (upd (E (40, 0)) R.2.2.2.1 (nI a))) (30, 0) (upd ((upA E (40, 0) (upd (E (40, 0)) R.2.2.2.1 (nI a))) (30, 0)) 19 (nI (R.2.2.2.1 + 1)))) (30, 0) (upd ((upA (upA E (40, 0) (upd (E (40, 0)) R.2.2.2.1 (nI a))) (30, 0) (upd ((upA E (40, 0) (upd (E (40, 0)) R.2.2.2.1 (nI a))) (30, 0)) 19 (nI (R.2.2.2.1 + 1)))) (30, 0)) 20 (nI R.2.2.2.2.2))) (R.1, R.2.1, R.2.2.1, R.2.2.2.1 + 1, updN R.2.2.2.2.1 R.2.2.2.1 a, R.2.2.2.2.2) := by
  obtain ⟨r1, r2, r3, r4, r5, r6, r7, r8, r9, r10⟩ := h
  have hg : ∀ (i : Id2) (f : Nat → Int32), i ≠ (30, 0) → i ≠ (40, 0) → upA (upA E (40, 0) (upd (E (40, 0)) R.2.2.2.1 (nI a))) (30, 0) f i = E i := fun i f x y => by rw [upA_n _ _ x, upA_n _ _ y]
  have h30 : upA E (40, 0) (upd (E (40, 0)) R.2.2.2.1 (nI a)) (30, 0) = E (30, 0) := upA_n _ _ (by decide)
  rw [h30]
  refine rd_pn (R := (R.1, R.2.1, R.2.2.1, R.2.2.2.1 + 1, updN R.2.2.2.2.1 R.2.2.2.1 a, R.2.2.2.2.2)) ⟨r1, r2, by rw [upA_s]; exact r3, by rw [hg _ _ (by decide) (by decide)]; exact r4, by rw [hg _ _ (by decide) (by decide)]; exact r5, by simp only; omega, by rw [upA_s]; rfl, fun j hj => ?_, r9, by rw [upA_s]; exact r10⟩ r9
  rw [upA_n _ _ (by decide), upA_s]
  show (if j = R.2.2.2.1 then nI a else E (40, 0) j) = nI (if j = R.2.2.2.1 then a else R.2.2.2.2.1 j) ∧ (if j = R.2.2.2.1 then a else R.2.2.2.2.1 j) < 72
  by_cases x : j = R.2.2.2.1
  · rw [if_pos x, if_pos x]; exact ⟨rfl, ha⟩
  · rw [if_neg x, if_neg x]; exact r8 j (by simp only at hj; omega)
set_option maxRecDepth 100000 in
set_option maxHeartbeats 4000000 in
theorem m_rr0_y {D E : Wd} {t : Nat → Nat} {len : Nat} {R : RS} {m : Nat} {rc : Nat → Nat × Nat} {p e : Nat} (hR : RK D E t len R m rc p e) (hm11 : m ≤ 11) {a : Nat} (hy1 : NumY t len 3 8 p e a) : Mok mX6_readsRest idsA 4 [vr (30, 0), vi (nI 0)] E (fun r' E' => r' = (some (vi (nI 1))) ∧ (RK D E' t len R m rc (tkP t len e) (tkE t len (tkP t len e)) ∧ E' (34, 0) (3 * m) = E (34, 0) (3 * m) ∧ E' (34, 0) (3 * m + 1) = nI a)) := by
  obtain ⟨hX, ⟨h12, h13, h14⟩, hT, hRD, ⟨h5, hm12⟩, hRC, hFR⟩ := id hR
  obtain ⟨r1, r2, r3, r4, r5, r6, r7, r8, r9, r10⟩ := id hRD
  refine Mok.of (L := [some (vr (30, 0)), some (vi (nI 0))]) rfl (fun _ => Nat.le_of_ble_eq_true rfl) (fun _ => rfl) (fun X cx rq => ?_)
  refine g_iload_n cx dX6_readsRest_0 rfl ?_
  refine g_tabIn (off := 55) (tgt := 56) cx dX6_readsRest_1 (by decide) (by decide) (by decide) (by decide) ?_
  refine g_aload_n cx dX6_readsRest_56 rfl ?_
  refine g_iconst (v := nI 0) cx dX6_readsRest_57 (by decide) ?_
  refine g_iconst (v := nI 3) cx dX6_readsRest_58 (by decide) ?_
  refine g_bipush (v := nI 8) cx dX6_readsRest_59 (by decide) ?_
  refine g_callV (As := [vi (nI 0), vi (nI 3), vi (nI 8)]) (rest := []) cx knX6_reads (m_reads_y hR hm11 (k := 0) (lo := 3) (hi := 8) (v := a) (by omega) (by omega) (by omega) hy1.1 hy1.2.1 hy1.2.2) a30_0 rfl rfl lmX6_119 niX6_reads seX6_reads rfl (by decide) (Nat.le_of_ble_eq_true rfl) rfl dX6_readsRest_61 (fun r0 E1 hp0 => ?_)
  obtain ⟨rfl, hR1, hE1⟩ := hp0
  show Gk X mX6_readsRest idsA 64 [some (vr (30, 0)), some (vi (nI 0))] [vi (nI 1)] E1
  exact g_ret cx rq rfl (by rfl) dX6_readsRest_64 ⟨rfl, hR1, by rw [hE1]; exact ⟨upd1_a _ _ _, upd_at _ _ _⟩⟩

set_option maxRecDepth 100000 in
set_option maxHeartbeats 4000000 in
theorem m_rr0_n {D E : Wd} {t : Nat → Nat} {len : Nat} {R : RS} {m : Nat} {rc : Nat → Nat × Nat} {p e : Nat} (hR : RK D E t len R m rc p e) (hno : NumN t len 3 8 p e) : Fok mX6_readsRest idsA 4 [vr (30, 0), vi (nI 0)] E (some (vi (nI 0))) E := by
  obtain ⟨hX, ⟨h12, h13, h14⟩, hT, hRD, ⟨h5, hm12⟩, hRC, hFR⟩ := id hR
  obtain ⟨r1, r2, r3, r4, r5, r6, r7, r8, r9, r10⟩ := id hRD
  refine Mok.of (L := [some (vr (30, 0)), some (vi (nI 0))]) rfl (fun _ => Nat.le_of_ble_eq_true rfl) (fun _ => rfl) (fun X cx rq => ?_)
  refine g_iload_n cx dX6_readsRest_0 rfl ?_
  refine g_tabIn (off := 55) (tgt := 56) cx dX6_readsRest_1 (by decide) (by decide) (by decide) (by decide) ?_
  refine g_aload_n cx dX6_readsRest_56 rfl ?_
  refine g_iconst (v := nI 0) cx dX6_readsRest_57 (by decide) ?_
  refine g_iconst (v := nI 3) cx dX6_readsRest_58 (by decide) ?_
  refine g_bipush (v := nI 8) cx dX6_readsRest_59 (by decide) ?_
  refine g_fcallV (As := [vi (nI 0), vi (nI 3), vi (nI 8)]) (rest := []) cx knX6_reads (m_reads_n hR (k := 0) (lo := 3) (hi := 8) (by omega) (by omega) hno) a30_0 rfl rfl lmX6_119 niX6_reads seX6_reads rfl (by decide) (Nat.le_of_ble_eq_true rfl) rfl dX6_readsRest_61 ?_
  exact g_fret cx rq rfl (by rfl) dX6_readsRest_64 (rfl) (rfl)

set_option maxRecDepth 100000 in
set_option maxHeartbeats 4000000 in
theorem m_rr2_y {D E : Wd} {t : Nat → Nat} {len : Nat} {R : RS} {m : Nat} {rc : Nat → Nat × Nat} {p e : Nat} (hR : RK D E t len R m rc p e) (hm11 : m ≤ 11) {a : Nat} (hy1 : NumY t len 0 (R.1 - 1) p e a) : Mok mX6_readsRest idsA 4 [vr (30, 0), vi (nI 2)] E (fun r' E' => r' = (some (vi (nI 1))) ∧ (RK D E' t len R m rc (tkP t len e) (tkE t len (tkP t len e)) ∧ E' (34, 0) (3 * m) = E (34, 0) (3 * m) ∧ E' (34, 0) (3 * m + 1) = nI a)) := by
  obtain ⟨hX, ⟨h12, h13, h14⟩, hT, hRD, ⟨h5, hm12⟩, hRC, hFR⟩ := id hR
  obtain ⟨r1, r2, r3, r4, r5, r6, r7, r8, r9, r10⟩ := id hRD
  refine Mok.of (L := [some (vr (30, 0)), some (vi (nI 2))]) rfl (fun _ => Nat.le_of_ble_eq_true rfl) (fun _ => rfl) (fun X cx rq => ?_)
  refine g_iload_n cx dX6_readsRest_0 rfl ?_
  refine g_tabIn (off := 104) (tgt := 105) cx dX6_readsRest_1 (by decide) (by decide) (by decide) (by decide) ?_
  refine g_aload_n cx dX6_readsRest_105 rfl ?_
  refine g_iconst (v := nI 0) cx dX6_readsRest_106 (by decide) ?_
  refine g_iconst (v := nI 0) cx dX6_readsRest_107 (by decide) ?_
  refine g_aload_n cx dX6_readsRest_108 rfl ?_
  refine g_getIN (i := (30, 0)) (ci := 6) (k := 15) (v := nI R.1) cx a30_0 rfl rfl rfl (by decide) inX6 lfX6_108 dX6_readsRest_109 (r3) ?_
  refine g_iconst (v := nI 1) cx dX6_readsRest_112 (by decide) ?_
  refine g_isubN cx dX6_readsRest_113 (by omega) ?_
  refine g_callV (As := [vi (nI 0), vi (nI 0), vi (nI (R.1 - 1))]) (rest := []) cx knX6_reads (m_reads_y hR hm11 (k := 0) (lo := 0) (hi := (R.1 - 1)) (v := a) (by omega) (by omega) (by omega) hy1.1 hy1.2.1 hy1.2.2) a30_0 rfl rfl lmX6_119 niX6_reads seX6_reads rfl (by decide) (Nat.le_of_ble_eq_true rfl) rfl dX6_readsRest_114 (fun r0 E1 hp0 => ?_)
  obtain ⟨rfl, hR1, hE1⟩ := hp0
  show Gk X mX6_readsRest idsA 117 [some (vr (30, 0)), some (vi (nI 2))] [vi (nI 1)] E1
  exact g_ret cx rq rfl (by rfl) dX6_readsRest_117 ⟨rfl, hR1, by rw [hE1]; exact ⟨upd1_a _ _ _, upd_at _ _ _⟩⟩

set_option maxRecDepth 100000 in
set_option maxHeartbeats 4000000 in
theorem m_rr2_n {D E : Wd} {t : Nat → Nat} {len : Nat} {R : RS} {m : Nat} {rc : Nat → Nat × Nat} {p e : Nat} (hR : RK D E t len R m rc p e) (hno : NumN t len 0 (R.1 - 1) p e) : Fok mX6_readsRest idsA 4 [vr (30, 0), vi (nI 2)] E (some (vi (nI 0))) E := by
  obtain ⟨hX, ⟨h12, h13, h14⟩, hT, hRD, ⟨h5, hm12⟩, hRC, hFR⟩ := id hR
  obtain ⟨r1, r2, r3, r4, r5, r6, r7, r8, r9, r10⟩ := id hRD
  refine Mok.of (L := [some (vr (30, 0)), some (vi (nI 2))]) rfl (fun _ => Nat.le_of_ble_eq_true rfl) (fun _ => rfl) (fun X cx rq => ?_)
  refine g_iload_n cx dX6_readsRest_0 rfl ?_
  refine g_tabIn (off := 104) (tgt := 105) cx dX6_readsRest_1 (by decide) (by decide) (by decide) (by decide) ?_
  refine g_aload_n cx dX6_readsRest_105 rfl ?_
  refine g_iconst (v := nI 0) cx dX6_readsRest_106 (by decide) ?_
  refine g_iconst (v := nI 0) cx dX6_readsRest_107 (by decide) ?_
  refine g_aload_n cx dX6_readsRest_108 rfl ?_
  refine g_getIN (i := (30, 0)) (ci := 6) (k := 15) (v := nI R.1) cx a30_0 rfl rfl rfl (by decide) inX6 lfX6_108 dX6_readsRest_109 (r3) ?_
  refine g_iconst (v := nI 1) cx dX6_readsRest_112 (by decide) ?_
  refine g_isubN cx dX6_readsRest_113 (by omega) ?_
  refine g_fcallV (As := [vi (nI 0), vi (nI 0), vi (nI (R.1 - 1))]) (rest := []) cx knX6_reads (m_reads_n hR (k := 0) (lo := 0) (hi := (R.1 - 1)) (by omega) (by omega) hno) a30_0 rfl rfl lmX6_119 niX6_reads seX6_reads rfl (by decide) (Nat.le_of_ble_eq_true rfl) rfl dX6_readsRest_114 ?_
  exact g_fret cx rq rfl (by rfl) dX6_readsRest_117 (rfl) (rfl)

set_option maxRecDepth 100000 in
set_option maxHeartbeats 4000000 in
theorem m_rr3_y {D E : Wd} {t : Nat → Nat} {len : Nat} {R : RS} {m : Nat} {rc : Nat → Nat × Nat} {p e : Nat} (hR : RK D E t len R m rc p e) (hm11 : m ≤ 11) {a : Nat} (hy1 : NumY t len 0 (R.1 - 1) p e a) : Mok mX6_readsRest idsA 4 [vr (30, 0), vi (nI 3)] E (fun r' E' => r' = (some (vi (nI 1))) ∧ (RK D E' t len R m rc (tkP t len e) (tkE t len (tkP t len e)) ∧ E' (34, 0) (3 * m) = E (34, 0) (3 * m) ∧ E' (34, 0) (3 * m + 1) = nI a)) := by
  obtain ⟨hX, ⟨h12, h13, h14⟩, hT, hRD, ⟨h5, hm12⟩, hRC, hFR⟩ := id hR
  obtain ⟨r1, r2, r3, r4, r5, r6, r7, r8, r9, r10⟩ := id hRD
  refine Mok.of (L := [some (vr (30, 0)), some (vi (nI 3))]) rfl (fun _ => Nat.le_of_ble_eq_true rfl) (fun _ => rfl) (fun X cx rq => ?_)
  refine g_iload_n cx dX6_readsRest_0 rfl ?_
  refine g_tabIn (off := 104) (tgt := 105) cx dX6_readsRest_1 (by decide) (by decide) (by decide) (by decide) ?_
  refine g_aload_n cx dX6_readsRest_105 rfl ?_
  refine g_iconst (v := nI 0) cx dX6_readsRest_106 (by decide) ?_
  refine g_iconst (v := nI 0) cx dX6_readsRest_107 (by decide) ?_
  refine g_aload_n cx dX6_readsRest_108 rfl ?_
  refine g_getIN (i := (30, 0)) (ci := 6) (k := 15) (v := nI R.1) cx a30_0 rfl rfl rfl (by decide) inX6 lfX6_108 dX6_readsRest_109 (r3) ?_
  refine g_iconst (v := nI 1) cx dX6_readsRest_112 (by decide) ?_
  refine g_isubN cx dX6_readsRest_113 (by omega) ?_
  refine g_callV (As := [vi (nI 0), vi (nI 0), vi (nI (R.1 - 1))]) (rest := []) cx knX6_reads (m_reads_y hR hm11 (k := 0) (lo := 0) (hi := (R.1 - 1)) (v := a) (by omega) (by omega) (by omega) hy1.1 hy1.2.1 hy1.2.2) a30_0 rfl rfl lmX6_119 niX6_reads seX6_reads rfl (by decide) (Nat.le_of_ble_eq_true rfl) rfl dX6_readsRest_114 (fun r0 E1 hp0 => ?_)
  obtain ⟨rfl, hR1, hE1⟩ := hp0
  show Gk X mX6_readsRest idsA 117 [some (vr (30, 0)), some (vi (nI 3))] [vi (nI 1)] E1
  exact g_ret cx rq rfl (by rfl) dX6_readsRest_117 ⟨rfl, hR1, by rw [hE1]; exact ⟨upd1_a _ _ _, upd_at _ _ _⟩⟩

set_option maxRecDepth 100000 in
set_option maxHeartbeats 4000000 in
theorem m_rr3_n {D E : Wd} {t : Nat → Nat} {len : Nat} {R : RS} {m : Nat} {rc : Nat → Nat × Nat} {p e : Nat} (hR : RK D E t len R m rc p e) (hno : NumN t len 0 (R.1 - 1) p e) : Fok mX6_readsRest idsA 4 [vr (30, 0), vi (nI 3)] E (some (vi (nI 0))) E := by
  obtain ⟨hX, ⟨h12, h13, h14⟩, hT, hRD, ⟨h5, hm12⟩, hRC, hFR⟩ := id hR
  obtain ⟨r1, r2, r3, r4, r5, r6, r7, r8, r9, r10⟩ := id hRD
  refine Mok.of (L := [some (vr (30, 0)), some (vi (nI 3))]) rfl (fun _ => Nat.le_of_ble_eq_true rfl) (fun _ => rfl) (fun X cx rq => ?_)
  refine g_iload_n cx dX6_readsRest_0 rfl ?_
  refine g_tabIn (off := 104) (tgt := 105) cx dX6_readsRest_1 (by decide) (by decide) (by decide) (by decide) ?_
  refine g_aload_n cx dX6_readsRest_105 rfl ?_
  refine g_iconst (v := nI 0) cx dX6_readsRest_106 (by decide) ?_
  refine g_iconst (v := nI 0) cx dX6_readsRest_107 (by decide) ?_
  refine g_aload_n cx dX6_readsRest_108 rfl ?_
  refine g_getIN (i := (30, 0)) (ci := 6) (k := 15) (v := nI R.1) cx a30_0 rfl rfl rfl (by decide) inX6 lfX6_108 dX6_readsRest_109 (r3) ?_
  refine g_iconst (v := nI 1) cx dX6_readsRest_112 (by decide) ?_
  refine g_isubN cx dX6_readsRest_113 (by omega) ?_
  refine g_fcallV (As := [vi (nI 0), vi (nI 0), vi (nI (R.1 - 1))]) (rest := []) cx knX6_reads (m_reads_n hR (k := 0) (lo := 0) (hi := (R.1 - 1)) (by omega) (by omega) hno) a30_0 rfl rfl lmX6_119 niX6_reads seX6_reads rfl (by decide) (Nat.le_of_ble_eq_true rfl) rfl dX6_readsRest_114 ?_
  exact g_fret cx rq rfl (by rfl) dX6_readsRest_117 (rfl) (rfl)

set_option maxRecDepth 100000 in
set_option maxHeartbeats 4000000 in
theorem m_rr4_y {D E : Wd} {t : Nat → Nat} {len : Nat} {R : RS} {m : Nat} {rc : Nat → Nat × Nat} {p e : Nat} (hR : RK D E t len R m rc p e) (hm11 : m ≤ 11) {a : Nat} (hy1 : NumY t len 0 (R.1 - 1) p e a) : Mok mX6_readsRest idsA 4 [vr (30, 0), vi (nI 4)] E (fun r' E' => r' = (some (vi (nI 1))) ∧ (RK D E' t len R m rc (tkP t len e) (tkE t len (tkP t len e)) ∧ E' (34, 0) (3 * m) = E (34, 0) (3 * m) ∧ E' (34, 0) (3 * m + 1) = nI a)) := by
  obtain ⟨hX, ⟨h12, h13, h14⟩, hT, hRD, ⟨h5, hm12⟩, hRC, hFR⟩ := id hR
  obtain ⟨r1, r2, r3, r4, r5, r6, r7, r8, r9, r10⟩ := id hRD
  refine Mok.of (L := [some (vr (30, 0)), some (vi (nI 4))]) rfl (fun _ => Nat.le_of_ble_eq_true rfl) (fun _ => rfl) (fun X cx rq => ?_)
  refine g_iload_n cx dX6_readsRest_0 rfl ?_
  refine g_tabIn (off := 104) (tgt := 105) cx dX6_readsRest_1 (by decide) (by decide) (by decide) (by decide) ?_
  refine g_aload_n cx dX6_readsRest_105 rfl ?_
  refine g_iconst (v := nI 0) cx dX6_readsRest_106 (by decide) ?_
  refine g_iconst (v := nI 0) cx dX6_readsRest_107 (by decide) ?_
  refine g_aload_n cx dX6_readsRest_108 rfl ?_
  refine g_getIN (i := (30, 0)) (ci := 6) (k := 15) (v := nI R.1) cx a30_0 rfl rfl rfl (by decide) inX6 lfX6_108 dX6_readsRest_109 (r3) ?_
  refine g_iconst (v := nI 1) cx dX6_readsRest_112 (by decide) ?_
  refine g_isubN cx dX6_readsRest_113 (by omega) ?_
  refine g_callV (As := [vi (nI 0), vi (nI 0), vi (nI (R.1 - 1))]) (rest := []) cx knX6_reads (m_reads_y hR hm11 (k := 0) (lo := 0) (hi := (R.1 - 1)) (v := a) (by omega) (by omega) (by omega) hy1.1 hy1.2.1 hy1.2.2) a30_0 rfl rfl lmX6_119 niX6_reads seX6_reads rfl (by decide) (Nat.le_of_ble_eq_true rfl) rfl dX6_readsRest_114 (fun r0 E1 hp0 => ?_)
  obtain ⟨rfl, hR1, hE1⟩ := hp0
  show Gk X mX6_readsRest idsA 117 [some (vr (30, 0)), some (vi (nI 4))] [vi (nI 1)] E1
  exact g_ret cx rq rfl (by rfl) dX6_readsRest_117 ⟨rfl, hR1, by rw [hE1]; exact ⟨upd1_a _ _ _, upd_at _ _ _⟩⟩

set_option maxRecDepth 100000 in
set_option maxHeartbeats 4000000 in
theorem m_rr4_n {D E : Wd} {t : Nat → Nat} {len : Nat} {R : RS} {m : Nat} {rc : Nat → Nat × Nat} {p e : Nat} (hR : RK D E t len R m rc p e) (hno : NumN t len 0 (R.1 - 1) p e) : Fok mX6_readsRest idsA 4 [vr (30, 0), vi (nI 4)] E (some (vi (nI 0))) E := by
  obtain ⟨hX, ⟨h12, h13, h14⟩, hT, hRD, ⟨h5, hm12⟩, hRC, hFR⟩ := id hR
  obtain ⟨r1, r2, r3, r4, r5, r6, r7, r8, r9, r10⟩ := id hRD
  refine Mok.of (L := [some (vr (30, 0)), some (vi (nI 4))]) rfl (fun _ => Nat.le_of_ble_eq_true rfl) (fun _ => rfl) (fun X cx rq => ?_)
  refine g_iload_n cx dX6_readsRest_0 rfl ?_
  refine g_tabIn (off := 104) (tgt := 105) cx dX6_readsRest_1 (by decide) (by decide) (by decide) (by decide) ?_
  refine g_aload_n cx dX6_readsRest_105 rfl ?_
  refine g_iconst (v := nI 0) cx dX6_readsRest_106 (by decide) ?_
  refine g_iconst (v := nI 0) cx dX6_readsRest_107 (by decide) ?_
  refine g_aload_n cx dX6_readsRest_108 rfl ?_
  refine g_getIN (i := (30, 0)) (ci := 6) (k := 15) (v := nI R.1) cx a30_0 rfl rfl rfl (by decide) inX6 lfX6_108 dX6_readsRest_109 (r3) ?_
  refine g_iconst (v := nI 1) cx dX6_readsRest_112 (by decide) ?_
  refine g_isubN cx dX6_readsRest_113 (by omega) ?_
  refine g_fcallV (As := [vi (nI 0), vi (nI 0), vi (nI (R.1 - 1))]) (rest := []) cx knX6_reads (m_reads_n hR (k := 0) (lo := 0) (hi := (R.1 - 1)) (by omega) (by omega) hno) a30_0 rfl rfl lmX6_119 niX6_reads seX6_reads rfl (by decide) (Nat.le_of_ble_eq_true rfl) rfl dX6_readsRest_114 ?_
  exact g_fret cx rq rfl (by rfl) dX6_readsRest_117 (rfl) (rfl)

set_option maxRecDepth 100000 in
set_option maxHeartbeats 4000000 in
theorem m_rr5_y {D E : Wd} {t : Nat → Nat} {len : Nat} {R : RS} {m : Nat} {rc : Nat → Nat × Nat} {p e : Nat} (hR : RK D E t len R m rc p e) (hm11 : m ≤ 11) {a : Nat} (hy1 : NumY t len 0 (R.1 - 1) p e a) : Mok mX6_readsRest idsA 4 [vr (30, 0), vi (nI 5)] E (fun r' E' => r' = (some (vi (nI 1))) ∧ (RK D E' t len R m rc (tkP t len e) (tkE t len (tkP t len e)) ∧ E' (34, 0) (3 * m) = E (34, 0) (3 * m) ∧ E' (34, 0) (3 * m + 1) = nI a)) := by
  obtain ⟨hX, ⟨h12, h13, h14⟩, hT, hRD, ⟨h5, hm12⟩, hRC, hFR⟩ := id hR
  obtain ⟨r1, r2, r3, r4, r5, r6, r7, r8, r9, r10⟩ := id hRD
  refine Mok.of (L := [some (vr (30, 0)), some (vi (nI 5))]) rfl (fun _ => Nat.le_of_ble_eq_true rfl) (fun _ => rfl) (fun X cx rq => ?_)
  refine g_iload_n cx dX6_readsRest_0 rfl ?_
  refine g_tabIn (off := 104) (tgt := 105) cx dX6_readsRest_1 (by decide) (by decide) (by decide) (by decide) ?_
  refine g_aload_n cx dX6_readsRest_105 rfl ?_
  refine g_iconst (v := nI 0) cx dX6_readsRest_106 (by decide) ?_
  refine g_iconst (v := nI 0) cx dX6_readsRest_107 (by decide) ?_
  refine g_aload_n cx dX6_readsRest_108 rfl ?_
  refine g_getIN (i := (30, 0)) (ci := 6) (k := 15) (v := nI R.1) cx a30_0 rfl rfl rfl (by decide) inX6 lfX6_108 dX6_readsRest_109 (r3) ?_
  refine g_iconst (v := nI 1) cx dX6_readsRest_112 (by decide) ?_
  refine g_isubN cx dX6_readsRest_113 (by omega) ?_
  refine g_callV (As := [vi (nI 0), vi (nI 0), vi (nI (R.1 - 1))]) (rest := []) cx knX6_reads (m_reads_y hR hm11 (k := 0) (lo := 0) (hi := (R.1 - 1)) (v := a) (by omega) (by omega) (by omega) hy1.1 hy1.2.1 hy1.2.2) a30_0 rfl rfl lmX6_119 niX6_reads seX6_reads rfl (by decide) (Nat.le_of_ble_eq_true rfl) rfl dX6_readsRest_114 (fun r0 E1 hp0 => ?_)
  obtain ⟨rfl, hR1, hE1⟩ := hp0
  show Gk X mX6_readsRest idsA 117 [some (vr (30, 0)), some (vi (nI 5))] [vi (nI 1)] E1
  exact g_ret cx rq rfl (by rfl) dX6_readsRest_117 ⟨rfl, hR1, by rw [hE1]; exact ⟨upd1_a _ _ _, upd_at _ _ _⟩⟩

set_option maxRecDepth 100000 in
set_option maxHeartbeats 4000000 in
theorem m_rr5_n {D E : Wd} {t : Nat → Nat} {len : Nat} {R : RS} {m : Nat} {rc : Nat → Nat × Nat} {p e : Nat} (hR : RK D E t len R m rc p e) (hno : NumN t len 0 (R.1 - 1) p e) : Fok mX6_readsRest idsA 4 [vr (30, 0), vi (nI 5)] E (some (vi (nI 0))) E := by
  obtain ⟨hX, ⟨h12, h13, h14⟩, hT, hRD, ⟨h5, hm12⟩, hRC, hFR⟩ := id hR
  obtain ⟨r1, r2, r3, r4, r5, r6, r7, r8, r9, r10⟩ := id hRD
  refine Mok.of (L := [some (vr (30, 0)), some (vi (nI 5))]) rfl (fun _ => Nat.le_of_ble_eq_true rfl) (fun _ => rfl) (fun X cx rq => ?_)
  refine g_iload_n cx dX6_readsRest_0 rfl ?_
  refine g_tabIn (off := 104) (tgt := 105) cx dX6_readsRest_1 (by decide) (by decide) (by decide) (by decide) ?_
  refine g_aload_n cx dX6_readsRest_105 rfl ?_
  refine g_iconst (v := nI 0) cx dX6_readsRest_106 (by decide) ?_
  refine g_iconst (v := nI 0) cx dX6_readsRest_107 (by decide) ?_
  refine g_aload_n cx dX6_readsRest_108 rfl ?_
  refine g_getIN (i := (30, 0)) (ci := 6) (k := 15) (v := nI R.1) cx a30_0 rfl rfl rfl (by decide) inX6 lfX6_108 dX6_readsRest_109 (r3) ?_
  refine g_iconst (v := nI 1) cx dX6_readsRest_112 (by decide) ?_
  refine g_isubN cx dX6_readsRest_113 (by omega) ?_
  refine g_fcallV (As := [vi (nI 0), vi (nI 0), vi (nI (R.1 - 1))]) (rest := []) cx knX6_reads (m_reads_n hR (k := 0) (lo := 0) (hi := (R.1 - 1)) (by omega) (by omega) hno) a30_0 rfl rfl lmX6_119 niX6_reads seX6_reads rfl (by decide) (Nat.le_of_ble_eq_true rfl) rfl dX6_readsRest_114 ?_
  exact g_fret cx rq rfl (by rfl) dX6_readsRest_117 (rfl) (rfl)

set_option maxRecDepth 100000 in
set_option maxHeartbeats 4000000 in
theorem m_rr8_y {D E : Wd} {t : Nat → Nat} {len : Nat} {R : RS} {m : Nat} {rc : Nat → Nat × Nat} {p e : Nat} (hR : RK D E t len R m rc p e) (hm11 : m ≤ 11) {a : Nat} (hy1 : NumY t len 0 (R.1 - 1) p e a) : Mok mX6_readsRest idsA 4 [vr (30, 0), vi (nI 8)] E (fun r' E' => r' = (some (vi (nI 1))) ∧ (RK D E' t len R m rc (tkP t len e) (tkE t len (tkP t len e)) ∧ E' (34, 0) (3 * m) = E (34, 0) (3 * m) ∧ E' (34, 0) (3 * m + 1) = nI a)) := by
  obtain ⟨hX, ⟨h12, h13, h14⟩, hT, hRD, ⟨h5, hm12⟩, hRC, hFR⟩ := id hR
  obtain ⟨r1, r2, r3, r4, r5, r6, r7, r8, r9, r10⟩ := id hRD
  refine Mok.of (L := [some (vr (30, 0)), some (vi (nI 8))]) rfl (fun _ => Nat.le_of_ble_eq_true rfl) (fun _ => rfl) (fun X cx rq => ?_)
  refine g_iload_n cx dX6_readsRest_0 rfl ?_
  refine g_tabIn (off := 104) (tgt := 105) cx dX6_readsRest_1 (by decide) (by decide) (by decide) (by decide) ?_
  refine g_aload_n cx dX6_readsRest_105 rfl ?_
  refine g_iconst (v := nI 0) cx dX6_readsRest_106 (by decide) ?_
  refine g_iconst (v := nI 0) cx dX6_readsRest_107 (by decide) ?_
  refine g_aload_n cx dX6_readsRest_108 rfl ?_
  refine g_getIN (i := (30, 0)) (ci := 6) (k := 15) (v := nI R.1) cx a30_0 rfl rfl rfl (by decide) inX6 lfX6_108 dX6_readsRest_109 (r3) ?_
  refine g_iconst (v := nI 1) cx dX6_readsRest_112 (by decide) ?_
  refine g_isubN cx dX6_readsRest_113 (by omega) ?_
  refine g_callV (As := [vi (nI 0), vi (nI 0), vi (nI (R.1 - 1))]) (rest := []) cx knX6_reads (m_reads_y hR hm11 (k := 0) (lo := 0) (hi := (R.1 - 1)) (v := a) (by omega) (by omega) (by omega) hy1.1 hy1.2.1 hy1.2.2) a30_0 rfl rfl lmX6_119 niX6_reads seX6_reads rfl (by decide) (Nat.le_of_ble_eq_true rfl) rfl dX6_readsRest_114 (fun r0 E1 hp0 => ?_)
  obtain ⟨rfl, hR1, hE1⟩ := hp0
  show Gk X mX6_readsRest idsA 117 [some (vr (30, 0)), some (vi (nI 8))] [vi (nI 1)] E1
  exact g_ret cx rq rfl (by rfl) dX6_readsRest_117 ⟨rfl, hR1, by rw [hE1]; exact ⟨upd1_a _ _ _, upd_at _ _ _⟩⟩

set_option maxRecDepth 100000 in
set_option maxHeartbeats 4000000 in
theorem m_rr8_n {D E : Wd} {t : Nat → Nat} {len : Nat} {R : RS} {m : Nat} {rc : Nat → Nat × Nat} {p e : Nat} (hR : RK D E t len R m rc p e) (hno : NumN t len 0 (R.1 - 1) p e) : Fok mX6_readsRest idsA 4 [vr (30, 0), vi (nI 8)] E (some (vi (nI 0))) E := by
  obtain ⟨hX, ⟨h12, h13, h14⟩, hT, hRD, ⟨h5, hm12⟩, hRC, hFR⟩ := id hR
  obtain ⟨r1, r2, r3, r4, r5, r6, r7, r8, r9, r10⟩ := id hRD
  refine Mok.of (L := [some (vr (30, 0)), some (vi (nI 8))]) rfl (fun _ => Nat.le_of_ble_eq_true rfl) (fun _ => rfl) (fun X cx rq => ?_)
  refine g_iload_n cx dX6_readsRest_0 rfl ?_
  refine g_tabIn (off := 104) (tgt := 105) cx dX6_readsRest_1 (by decide) (by decide) (by decide) (by decide) ?_
  refine g_aload_n cx dX6_readsRest_105 rfl ?_
  refine g_iconst (v := nI 0) cx dX6_readsRest_106 (by decide) ?_
  refine g_iconst (v := nI 0) cx dX6_readsRest_107 (by decide) ?_
  refine g_aload_n cx dX6_readsRest_108 rfl ?_
  refine g_getIN (i := (30, 0)) (ci := 6) (k := 15) (v := nI R.1) cx a30_0 rfl rfl rfl (by decide) inX6 lfX6_108 dX6_readsRest_109 (r3) ?_
  refine g_iconst (v := nI 1) cx dX6_readsRest_112 (by decide) ?_
  refine g_isubN cx dX6_readsRest_113 (by omega) ?_
  refine g_fcallV (As := [vi (nI 0), vi (nI 0), vi (nI (R.1 - 1))]) (rest := []) cx knX6_reads (m_reads_n hR (k := 0) (lo := 0) (hi := (R.1 - 1)) (by omega) (by omega) hno) a30_0 rfl rfl lmX6_119 niX6_reads seX6_reads rfl (by decide) (Nat.le_of_ble_eq_true rfl) rfl dX6_readsRest_114 ?_
  exact g_fret cx rq rfl (by rfl) dX6_readsRest_117 (rfl) (rfl)

set_option maxRecDepth 100000 in
set_option maxHeartbeats 4000000 in
theorem m_rr7_y {D E : Wd} {t : Nat → Nat} {len : Nat} {R : RS} {m : Nat} {rc : Nat → Nat × Nat} {p e : Nat} (hR : RK D E t len R m rc p e) (hm11 : m ≤ 11) {a : Nat} (hy1 : NumY t len 0 71 p e a) (hnd : newD R a = true) : Mok mX6_readsRest idsA 4 [vr (30, 0), vi (nI 7)] E (fun r' E' => r' = (some (vi (nI 1))) ∧ (RK D E' t len R m rc (tkP t len e) (tkE t len (tkP t len e)) ∧ E' (34, 0) (3 * m) = E (34, 0) (3 * m) ∧ E' (34, 0) (3 * m + 1) = nI a)) := by
  obtain ⟨hX, ⟨h12, h13, h14⟩, hT, hRD, ⟨h5, hm12⟩, hRC, hFR⟩ := id hR
  obtain ⟨r1, r2, r3, r4, r5, r6, r7, r8, r9, r10⟩ := id hRD
  have ha7 := hy1.2.2
  refine Mok.of (L := [some (vr (30, 0)), some (vi (nI 7))]) rfl (fun _ => Nat.le_of_ble_eq_true rfl) (fun _ => rfl) (fun X cx rq => ?_)
  refine g_iload_n cx dX6_readsRest_0 rfl ?_
  refine g_tabIn (off := 74) (tgt := 75) cx dX6_readsRest_1 (by decide) (by decide) (by decide) (by decide) ?_
  refine g_aload_n cx dX6_readsRest_75 rfl ?_
  refine g_aload_n cx dX6_readsRest_76 rfl ?_
  refine g_fcallV (As := []) (rest := [vr (30, 0)]) cx knX6_numberHere (m_numberHere hX h13 h14 hT) a30_0 rfl rfl lmX6_99 niX6_numberHere seX6_numberHere rfl (by decide) (Nat.le_of_ble_eq_true rfl) rfl dX6_readsRest_77 ?_
  refine g_top (y := nI a) (by rw [hy1.1]; rfl) ?_
  refine g_fcallV (As := [vi (nI a)]) (rest := []) cx knX6_isNewDoor (m_isNewDoor hRD (v := a) (by omega)) a30_0 rfl rfl lmX6_133 niX6_isNewDoor seX6_isNewDoor rfl (by decide) (Nat.le_of_ble_eq_true rfl) rfl dX6_readsRest_80 ?_
  refine g_if_eqB (tgt := 101) cx dX6_readsRest_83 (by decide) (fun h_83 => ?_) (fun h_83 => ?_)
  · skip
    exact absurd hnd h_83
  · skip
    refine g_aload_n cx dX6_readsRest_86 rfl ?_
    refine g_iconst (v := nI 0) cx dX6_readsRest_87 (by decide) ?_
    refine g_iconst (v := nI 0) cx dX6_readsRest_88 (by decide) ?_
    refine g_bipush (v := nI 71) cx dX6_readsRest_89 (by decide) ?_
    refine g_callV (As := [vi (nI 0), vi (nI 0), vi (nI 71)]) (rest := []) cx knX6_reads (m_reads_y hR hm11 (k := 0) (lo := 0) (hi := 71) (v := a) (by omega) (by omega) (by omega) hy1.1 hy1.2.1 hy1.2.2) a30_0 rfl rfl lmX6_119 niX6_reads seX6_reads rfl (by decide) (Nat.le_of_ble_eq_true rfl) rfl dX6_readsRest_91 (fun r0 E1 hp0 => ?_)
    obtain ⟨rfl, hR1, hE1⟩ := hp0
    show Gk X mX6_readsRest idsA 94 [some (vr (30, 0)), some (vi (nI 7))] [vi (nI 1)] E1
    refine g_if_eqN (tgt := 101) cx dX6_readsRest_94 (by decide) (by omega) (fun h_94 => ?_) (fun h_94 => ?_)
    · skip
      exact absurd h_94 (by decide)
    · skip
      refine g_iconst (v := nI 1) cx dX6_readsRest_97 (by decide) ?_
      refine g_goto (tgt := 102) cx dX6_readsRest_98 (by decide) ?_
      exact g_ret cx rq rfl (by rfl) dX6_readsRest_102 ⟨rfl, hR1, by rw [hE1]; exact ⟨upd1_a _ _ _, upd_at _ _ _⟩⟩

set_option maxRecDepth 100000 in
set_option maxHeartbeats 4000000 in
theorem m_rr7_n1 {D E : Wd} {t : Nat → Nat} {len : Nat} {R : RS} {m : Nat} {rc : Nat → Nat × Nat} {p e : Nat} (hR : RK D E t len R m rc p e) (hno : NumN t len 0 71 p e) : Fok mX6_readsRest idsA 4 [vr (30, 0), vi (nI 7)] E (some (vi (nI 0))) E := by
  obtain ⟨hX, ⟨h12, h13, h14⟩, hT, hRD, ⟨h5, hm12⟩, hRC, hFR⟩ := id hR
  obtain ⟨r1, r2, r3, r4, r5, r6, r7, r8, r9, r10⟩ := id hRD
  refine Mok.of (L := [some (vr (30, 0)), some (vi (nI 7))]) rfl (fun _ => Nat.le_of_ble_eq_true rfl) (fun _ => rfl) (fun X cx rq => ?_)
  refine g_iload_n cx dX6_readsRest_0 rfl ?_
  refine g_tabIn (off := 74) (tgt := 75) cx dX6_readsRest_1 (by decide) (by decide) (by decide) (by decide) ?_
  refine g_aload_n cx dX6_readsRest_75 rfl ?_
  refine g_aload_n cx dX6_readsRest_76 rfl ?_
  refine g_fcallV (As := []) (rest := [vr (30, 0)]) cx knX6_numberHere (m_numberHere hX h13 h14 hT) a30_0 rfl rfl lmX6_99 niX6_numberHere seX6_numberHere rfl (by decide) (Nat.le_of_ble_eq_true rfl) rfl dX6_readsRest_77 ?_
  refine g_fcallV (As := [vi (opI (nO t len p e))]) (rest := []) cx knX6_isNewDoor (m_isNewDoor_n hRD (x := opI (nO t len p e)) (num_out hT hno)) a30_0 rfl rfl lmX6_133 niX6_isNewDoor seX6_isNewDoor rfl (by decide) (Nat.le_of_ble_eq_true rfl) rfl dX6_readsRest_80 ?_
  refine g_if_eqN (tgt := 101) cx dX6_readsRest_83 (by decide) (by omega) (fun h_83 => ?_) (fun h_83 => ?_)
  · skip
    refine g_iconst (v := nI 0) cx dX6_readsRest_101 (by decide) ?_
    exact g_fret cx rq rfl (by rfl) dX6_readsRest_102 (rfl) (rfl)
  · skip
    exact absurd rfl h_83

set_option maxRecDepth 100000 in
set_option maxHeartbeats 4000000 in
theorem m_rr7_n2 {D E : Wd} {t : Nat → Nat} {len : Nat} {R : RS} {m : Nat} {rc : Nat → Nat × Nat} {p e : Nat} (hR : RK D E t len R m rc p e) {a : Nat} (hy1 : NumY t len 0 71 p e a) (hnd : newD R a = false) : Fok mX6_readsRest idsA 4 [vr (30, 0), vi (nI 7)] E (some (vi (nI 0))) E := by
  obtain ⟨hX, ⟨h12, h13, h14⟩, hT, hRD, ⟨h5, hm12⟩, hRC, hFR⟩ := id hR
  obtain ⟨r1, r2, r3, r4, r5, r6, r7, r8, r9, r10⟩ := id hRD
  have ha7 := hy1.2.2
  refine Mok.of (L := [some (vr (30, 0)), some (vi (nI 7))]) rfl (fun _ => Nat.le_of_ble_eq_true rfl) (fun _ => rfl) (fun X cx rq => ?_)
  refine g_iload_n cx dX6_readsRest_0 rfl ?_
  refine g_tabIn (off := 74) (tgt := 75) cx dX6_readsRest_1 (by decide) (by decide) (by decide) (by decide) ?_
  refine g_aload_n cx dX6_readsRest_75 rfl ?_
  refine g_aload_n cx dX6_readsRest_76 rfl ?_
  refine g_fcallV (As := []) (rest := [vr (30, 0)]) cx knX6_numberHere (m_numberHere hX h13 h14 hT) a30_0 rfl rfl lmX6_99 niX6_numberHere seX6_numberHere rfl (by decide) (Nat.le_of_ble_eq_true rfl) rfl dX6_readsRest_77 ?_
  refine g_top (y := nI a) (by rw [hy1.1]; rfl) ?_
  refine g_fcallV (As := [vi (nI a)]) (rest := []) cx knX6_isNewDoor (m_isNewDoor hRD (v := a) (by omega)) a30_0 rfl rfl lmX6_133 niX6_isNewDoor seX6_isNewDoor rfl (by decide) (Nat.le_of_ble_eq_true rfl) rfl dX6_readsRest_80 ?_
  refine g_if_eqB (tgt := 101) cx dX6_readsRest_83 (by decide) (fun h_83 => ?_) (fun h_83 => ?_)
  · skip
    refine g_iconst (v := nI 0) cx dX6_readsRest_101 (by decide) ?_
    exact g_fret cx rq rfl (by rfl) dX6_readsRest_102 (rfl) (rfl)
  · skip
    exact absurd h_83 (by rw [hnd]; decide)

set_option maxRecDepth 100000 in
set_option maxHeartbeats 4000000 in
theorem m_rr9_y {D E : Wd} {t : Nat → Nat} {len : Nat} {R : RS} {m : Nat} {rc : Nat → Nat × Nat} {p e : Nat} (hR : RK D E t len R m rc p e) : Fok mX6_readsRest idsA 4 [vr (30, 0), vi (nI 9)] E (some (vi (nI 1))) E := by
  refine Mok.of (L := [some (vr (30, 0)), some (vi (nI 9))]) rfl (fun _ => Nat.le_of_ble_eq_true rfl) (fun _ => rfl) (fun X cx rq => ?_)
  refine g_iload_n cx dX6_readsRest_0 rfl ?_
  refine g_tabIn (off := 102) (tgt := 103) cx dX6_readsRest_1 (by decide) (by decide) (by decide) (by decide) ?_
  refine g_iconst (v := nI 1) cx dX6_readsRest_103 (by decide) ?_
  exact g_fret cx rq rfl (by rfl) dX6_readsRest_104 (rfl) (rfl)

set_option maxRecDepth 100000 in
set_option maxHeartbeats 4000000 in
theorem m_rr1_y {D E : Wd} {t : Nat → Nat} {len : Nat} {R : RS} {m : Nat} {rc : Nat → Nat × Nat} {p e : Nat} (hR : RK D E t len R m rc p e) (hm11 : m ≤ 11) {a c : Nat} (hy1 : NumY t len 0 (R.1 - 1) p e a) (hy2 : NumY t len 0 71 (tkP t len e) (tkE t len (tkP t len e)) c) (hfit : fitA R a c = true) : Mok mX6_readsRest idsA 4 [vr (30, 0), vi (nI 1)] E (fun r' E' => r' = (some (vi (nI 1))) ∧ (RK D E' t len R m rc (tkP t len (tkE t len (tkP t len e))) (tkE t len (tkP t len (tkE t len (tkP t len e)))) ∧ E' (34, 0) (3 * m) = E (34, 0) (3 * m) ∧ E' (34, 0) (3 * m + 1) = nI a ∧ E' (34, 0) (3 * m + 2) = nI c)) := by
  refine Mok.of (L := [some (vr (30, 0)), some (vi (nI 1))]) rfl (fun _ => Nat.le_of_ble_eq_true rfl) (fun _ => rfl) (fun X cx rq => ?_)
  refine g_iload_n cx dX6_readsRest_0 rfl ?_
  refine g_tabIn (off := 64) (tgt := 65) cx dX6_readsRest_1 (by decide) (by decide) (by decide) (by decide) ?_
  refine g_aload_n cx dX6_readsRest_65 rfl ?_
  refine g_callV (As := []) (rest := []) cx knX6_readsLeaf (m_readsLeaf_y hR hm11 hy1 hy2 hfit) a30_0 rfl rfl lmX6_126 niX6_readsLeaf seX6_readsLeaf rfl (by decide) (Nat.le_of_ble_eq_true rfl) rfl dX6_readsRest_66 (fun r0 E1 hp0 => ?_)
  obtain ⟨rfl, hR1⟩ := hp0
  show Gk X mX6_readsRest idsA 69 [some (vr (30, 0)), some (vi (nI 1))] [vi (nI 1)] E1
  exact g_ret cx rq rfl (by rfl) dX6_readsRest_69 ⟨rfl, hR1⟩

set_option maxRecDepth 100000 in
set_option maxHeartbeats 4000000 in
theorem m_rr1_n1 {D E : Wd} {t : Nat → Nat} {len : Nat} {R : RS} {m : Nat} {rc : Nat → Nat × Nat} {p e : Nat} (hR : RK D E t len R m rc p e) (hno : NumN t len 0 (R.1 - 1) p e) : Fok mX6_readsRest idsA 4 [vr (30, 0), vi (nI 1)] E (some (vi (nI 0))) E := by
  refine Mok.of (L := [some (vr (30, 0)), some (vi (nI 1))]) rfl (fun _ => Nat.le_of_ble_eq_true rfl) (fun _ => rfl) (fun X cx rq => ?_)
  refine g_iload_n cx dX6_readsRest_0 rfl ?_
  refine g_tabIn (off := 64) (tgt := 65) cx dX6_readsRest_1 (by decide) (by decide) (by decide) (by decide) ?_
  refine g_aload_n cx dX6_readsRest_65 rfl ?_
  refine g_fcallV (As := []) (rest := []) cx knX6_readsLeaf (m_readsLeaf_n1 hR hno) a30_0 rfl rfl lmX6_126 niX6_readsLeaf seX6_readsLeaf rfl (by decide) (Nat.le_of_ble_eq_true rfl) rfl dX6_readsRest_66 ?_
  exact g_fret cx rq rfl (by rfl) dX6_readsRest_69 (rfl) (rfl)

set_option maxRecDepth 100000 in
set_option maxHeartbeats 4000000 in
theorem m_rr1_n2 {D E : Wd} {t : Nat → Nat} {len : Nat} {R : RS} {m : Nat} {rc : Nat → Nat × Nat} {p e : Nat} (hR : RK D E t len R m rc p e) (hm11 : m ≤ 11) {a : Nat} (hy1 : NumY t len 0 (R.1 - 1) p e a) (hn2 : NumN t len 0 71 (tkP t len e) (tkE t len (tkP t len e))) : Mok mX6_readsRest idsA 4 [vr (30, 0), vi (nI 1)] E (fun r' E' => r' = (some (vi (nI 0))) ∧ RK D E' t len R m rc (tkP t len e) (tkE t len (tkP t len e))) := by
  refine Mok.of (L := [some (vr (30, 0)), some (vi (nI 1))]) rfl (fun _ => Nat.le_of_ble_eq_true rfl) (fun _ => rfl) (fun X cx rq => ?_)
  refine g_iload_n cx dX6_readsRest_0 rfl ?_
  refine g_tabIn (off := 64) (tgt := 65) cx dX6_readsRest_1 (by decide) (by decide) (by decide) (by decide) ?_
  refine g_aload_n cx dX6_readsRest_65 rfl ?_
  refine g_callV (As := []) (rest := []) cx knX6_readsLeaf (m_readsLeaf_n2 hR hm11 hy1 hn2) a30_0 rfl rfl lmX6_126 niX6_readsLeaf seX6_readsLeaf rfl (by decide) (Nat.le_of_ble_eq_true rfl) rfl dX6_readsRest_66 (fun r0 E1 hp0 => ?_)
  obtain ⟨rfl, hR1⟩ := hp0
  show Gk X mX6_readsRest idsA 69 [some (vr (30, 0)), some (vi (nI 1))] [vi (nI 0)] E1
  exact g_ret cx rq rfl (by rfl) dX6_readsRest_69 ⟨rfl, hR1⟩

set_option maxRecDepth 100000 in
set_option maxHeartbeats 4000000 in
theorem m_rr1_n3 {D E : Wd} {t : Nat → Nat} {len : Nat} {R : RS} {m : Nat} {rc : Nat → Nat × Nat} {p e : Nat} (hR : RK D E t len R m rc p e) (hm11 : m ≤ 11) {a c : Nat} (hy1 : NumY t len 0 (R.1 - 1) p e a) (hy2 : NumY t len 0 71 (tkP t len e) (tkE t len (tkP t len e)) c) (hfit : fitA R a c = false) : Mok mX6_readsRest idsA 4 [vr (30, 0), vi (nI 1)] E (fun r' E' => r' = (some (vi (nI 0))) ∧ RK D E' t len R m rc (tkP t len e) (tkE t len (tkP t len e))) := by
  refine Mok.of (L := [some (vr (30, 0)), some (vi (nI 1))]) rfl (fun _ => Nat.le_of_ble_eq_true rfl) (fun _ => rfl) (fun X cx rq => ?_)
  refine g_iload_n cx dX6_readsRest_0 rfl ?_
  refine g_tabIn (off := 64) (tgt := 65) cx dX6_readsRest_1 (by decide) (by decide) (by decide) (by decide) ?_
  refine g_aload_n cx dX6_readsRest_65 rfl ?_
  refine g_callV (As := []) (rest := []) cx knX6_readsLeaf (m_readsLeaf_n3 hR hm11 hy1 hy2 hfit) a30_0 rfl rfl lmX6_126 niX6_readsLeaf seX6_readsLeaf rfl (by decide) (Nat.le_of_ble_eq_true rfl) rfl dX6_readsRest_66 (fun r0 E1 hp0 => ?_)
  obtain ⟨rfl, hR1⟩ := hp0
  show Gk X mX6_readsRest idsA 69 [some (vr (30, 0)), some (vi (nI 1))] [vi (nI 0)] E1
  exact g_ret cx rq rfl (by rfl) dX6_readsRest_69 ⟨rfl, hR1⟩

set_option maxRecDepth 100000 in
set_option maxHeartbeats 4000000 in
theorem m_rr6_y {D E : Wd} {t : Nat → Nat} {len : Nat} {R : RS} {m : Nat} {rc : Nat → Nat × Nat} {p e : Nat} (hR : RK D E t len R m rc p e) (hm11 : m ≤ 11) {a c : Nat} (hy1 : NumY t len 0 (R.1 - 1) p e a) (hw1 : 1 ≤ onN (R.2.1 a) (R.2.1 (nx R.1 a))) (hy2 : NumY t len 0 (putH R a) (tkP t len e) (tkE t len (tkP t len e)) c) : Mok mX6_readsRest idsA 4 [vr (30, 0), vi (nI 6)] E (fun r' E' => r' = (some (vi (nI 1))) ∧ (RK D E' t len R m rc (tkP t len (tkE t len (tkP t len e))) (tkE t len (tkP t len (tkE t len (tkP t len e)))) ∧ E' (34, 0) (3 * m) = E (34, 0) (3 * m) ∧ E' (34, 0) (3 * m + 1) = nI a ∧ E' (34, 0) (3 * m + 2) = nI c)) := by
  refine Mok.of (L := [some (vr (30, 0)), some (vi (nI 6))]) rfl (fun _ => Nat.le_of_ble_eq_true rfl) (fun _ => rfl) (fun X cx rq => ?_)
  refine g_iload_n cx dX6_readsRest_0 rfl ?_
  refine g_tabIn (off := 69) (tgt := 70) cx dX6_readsRest_1 (by decide) (by decide) (by decide) (by decide) ?_
  refine g_aload_n cx dX6_readsRest_70 rfl ?_
  refine g_callV (As := []) (rest := []) cx knX6_readsPut (m_readsPut_y hR hm11 hy1 hw1 hy2) a30_0 rfl rfl lmX6_130 niX6_readsPut seX6_readsPut rfl (by decide) (Nat.le_of_ble_eq_true rfl) rfl dX6_readsRest_71 (fun r0 E1 hp0 => ?_)
  obtain ⟨rfl, hR1⟩ := hp0
  show Gk X mX6_readsRest idsA 74 [some (vr (30, 0)), some (vi (nI 6))] [vi (nI 1)] E1
  exact g_ret cx rq rfl (by rfl) dX6_readsRest_74 ⟨rfl, hR1⟩

set_option maxRecDepth 100000 in
set_option maxHeartbeats 4000000 in
theorem m_rr6_n1 {D E : Wd} {t : Nat → Nat} {len : Nat} {R : RS} {m : Nat} {rc : Nat → Nat × Nat} {p e : Nat} (hR : RK D E t len R m rc p e) (hno : NumN t len 0 (R.1 - 1) p e) : Fok mX6_readsRest idsA 4 [vr (30, 0), vi (nI 6)] E (some (vi (nI 0))) E := by
  refine Mok.of (L := [some (vr (30, 0)), some (vi (nI 6))]) rfl (fun _ => Nat.le_of_ble_eq_true rfl) (fun _ => rfl) (fun X cx rq => ?_)
  refine g_iload_n cx dX6_readsRest_0 rfl ?_
  refine g_tabIn (off := 69) (tgt := 70) cx dX6_readsRest_1 (by decide) (by decide) (by decide) (by decide) ?_
  refine g_aload_n cx dX6_readsRest_70 rfl ?_
  refine g_fcallV (As := []) (rest := []) cx knX6_readsPut (m_readsPut_n1 hR hno) a30_0 rfl rfl lmX6_130 niX6_readsPut seX6_readsPut rfl (by decide) (Nat.le_of_ble_eq_true rfl) rfl dX6_readsRest_71 ?_
  exact g_fret cx rq rfl (by rfl) dX6_readsRest_74 (rfl) (rfl)

set_option maxRecDepth 100000 in
set_option maxHeartbeats 4000000 in
theorem m_rr6_n2 {D E : Wd} {t : Nat → Nat} {len : Nat} {R : RS} {m : Nat} {rc : Nat → Nat × Nat} {p e : Nat} (hR : RK D E t len R m rc p e) (hm11 : m ≤ 11) {a : Nat} (hy1 : NumY t len 0 (R.1 - 1) p e a) (hw1 : 1 ≤ onN (R.2.1 a) (R.2.1 (nx R.1 a))) (hn2 : NumN t len 0 (putH R a) (tkP t len e) (tkE t len (tkP t len e))) : Mok mX6_readsRest idsA 4 [vr (30, 0), vi (nI 6)] E (fun r' E' => r' = (some (vi (nI 0))) ∧ RK D E' t len R m rc (tkP t len e) (tkE t len (tkP t len e))) := by
  refine Mok.of (L := [some (vr (30, 0)), some (vi (nI 6))]) rfl (fun _ => Nat.le_of_ble_eq_true rfl) (fun _ => rfl) (fun X cx rq => ?_)
  refine g_iload_n cx dX6_readsRest_0 rfl ?_
  refine g_tabIn (off := 69) (tgt := 70) cx dX6_readsRest_1 (by decide) (by decide) (by decide) (by decide) ?_
  refine g_aload_n cx dX6_readsRest_70 rfl ?_
  refine g_callV (As := []) (rest := []) cx knX6_readsPut (m_readsPut_n2 hR hm11 hy1 hw1 hn2) a30_0 rfl rfl lmX6_130 niX6_readsPut seX6_readsPut rfl (by decide) (Nat.le_of_ble_eq_true rfl) rfl dX6_readsRest_71 (fun r0 E1 hp0 => ?_)
  obtain ⟨rfl, hR1⟩ := hp0
  show Gk X mX6_readsRest idsA 74 [some (vr (30, 0)), some (vi (nI 6))] [vi (nI 0)] E1
  exact g_ret cx rq rfl (by rfl) dX6_readsRest_74 ⟨rfl, hR1⟩

set_option maxRecDepth 100000 in
set_option maxHeartbeats 4000000 in
theorem m_goOn2 {D E : Wd} {t : Nat → Nat} {len : Nat} {R : RS} {m : Nat} {rc : Nat → Nat × Nat} {p e : Nat} (hR : RK D E t len R m rc p e) (x y : Int32) {a c : Nat} : Mok mX6_goOn idsA 0 [vr (30, 0), vi (nI 2), vi x, vi y] E (fun r' E' => r' = none ∧ (RK D E' t len (goR R 2 a c) m rc p e ∧ E' (34, 0) = E (34, 0))) := by
  obtain ⟨hX, ⟨h12, h13, h14⟩, hT, hRD, ⟨h5, hm12⟩, hRC, hFR⟩ := id hR
  obtain ⟨r1, r2, r3, r4, r5, r6, r7, r8, r9, r10⟩ := id hRD
  refine Mok.of (L := [some (vr (30, 0)), some (vi (nI 2)), some (vi x), some (vi y), none]) rfl (fun _ => Nat.le_of_ble_eq_true rfl) (fun _ => rfl) (fun X cx rq => ?_)
  refine g_iload_n cx dX6_goOn_0 rfl ?_
  refine g_if_neN (tgt := 52) cx dX6_goOn_1 (by decide) (by omega) (fun h_1 => ?_) (fun h_1 => ?_)
  · skip
    refine g_iload_n cx dX6_goOn_52 rfl ?_
    refine g_iconst (v := nI 1) cx dX6_goOn_53 (by decide) ?_
    refine g_icmp_neN (tgt := 64) cx dX6_goOn_54 (by decide) (by omega) (by omega) (fun h_54 => ?_) (fun h_54 => ?_)
    · skip
      refine g_iload_n cx dX6_goOn_64 rfl ?_
      refine g_bipush (v := nI 6) cx dX6_goOn_65 (by decide) ?_
      refine g_icmp_neN (tgt := 77) cx dX6_goOn_67 (by decide) (by omega) (by omega) (fun h_67 => ?_) (fun h_67 => ?_)
      · skip
        refine g_iload_n cx dX6_goOn_77 rfl ?_
        refine g_bipush (v := nI 7) cx dX6_goOn_78 (by decide) ?_
        refine g_icmp_neN (tgt := 103) cx dX6_goOn_80 (by decide) (by omega) (by omega) (fun h_80 => ?_) (fun h_80 => ?_)
        · skip
          refine g_aload_n cx dX6_goOn_103 rfl ?_
          refine g_iload_n cx dX6_goOn_104 rfl ?_
          refine g_if_eqN (tgt := 114) cx dX6_goOn_105 (by decide) (by omega) (fun h_105 => ?_) (fun h_105 => ?_)
          · skip
            exact absurd h_105 (by decide)
          · skip
            refine g_iload_n cx dX6_goOn_108 rfl ?_
            refine g_bipush (v := nI 9) cx dX6_goOn_109 (by decide) ?_
            refine g_icmp_neN (tgt := 118) cx dX6_goOn_111 (by decide) (by omega) (by omega) (fun h_111 => ?_) (fun h_111 => ?_)
            · skip
              refine g_iload_n cx dX6_goOn_118 rfl ?_
              refine g_bipush (v := nI 8) cx dX6_goOn_119 (by decide) ?_
              refine g_icmp_neN (tgt := 133) cx dX6_goOn_121 (by decide) (by omega) (by omega) (fun h_121 => ?_) (fun h_121 => ?_)
              · skip
                refine g_aload_n cx dX6_goOn_133 rfl ?_
                refine g_getIN (i := (30, 0)) (ci := 6) (k := 20) (v := nI R.2.2.2.2.2) cx a30_0 rfl rfl rfl (by decide) inX6 lfX6_137 dX6_goOn_134 (r10) ?_
                refine g_putI (i := (30, 0)) (ci := 6) (k := 20) cx a30_0 rfl rfl rfl (by decide) inX6 tyX6_ok nmX6 rfl rfl lfX6_137 dX6_goOn_137 ?_
                exact g_vret cx rq rfl dX6_goOn_140 ⟨rfl, RK.go hR (fun i x1 _ _ _ => upA_n E _ x1) (fun q _ _ x3 => by rw [upA_s]; unfold upd; rw [if_neg x3]) (rd_same hRD)⟩
              · skip
                exact absurd h_121 (by decide)
            · skip
              exact absurd h_111 (by decide)
        · skip
          exact absurd h_80 (by decide)
      · skip
        exact absurd h_67 (by decide)
    · skip
      exact absurd h_54 (by decide)
  · skip
    exact absurd h_1 (by decide)

set_option maxRecDepth 100000 in
set_option maxHeartbeats 4000000 in
theorem m_goOn3 {D E : Wd} {t : Nat → Nat} {len : Nat} {R : RS} {m : Nat} {rc : Nat → Nat × Nat} {p e : Nat} (hR : RK D E t len R m rc p e) (x y : Int32) {a c : Nat} : Mok mX6_goOn idsA 0 [vr (30, 0), vi (nI 3), vi x, vi y] E (fun r' E' => r' = none ∧ (RK D E' t len (goR R 3 a c) m rc p e ∧ E' (34, 0) = E (34, 0))) := by
  obtain ⟨hX, ⟨h12, h13, h14⟩, hT, hRD, ⟨h5, hm12⟩, hRC, hFR⟩ := id hR
  obtain ⟨r1, r2, r3, r4, r5, r6, r7, r8, r9, r10⟩ := id hRD
  refine Mok.of (L := [some (vr (30, 0)), some (vi (nI 3)), some (vi x), some (vi y), none]) rfl (fun _ => Nat.le_of_ble_eq_true rfl) (fun _ => rfl) (fun X cx rq => ?_)
  refine g_iload_n cx dX6_goOn_0 rfl ?_
  refine g_if_neN (tgt := 52) cx dX6_goOn_1 (by decide) (by omega) (fun h_1 => ?_) (fun h_1 => ?_)
  · skip
    refine g_iload_n cx dX6_goOn_52 rfl ?_
    refine g_iconst (v := nI 1) cx dX6_goOn_53 (by decide) ?_
    refine g_icmp_neN (tgt := 64) cx dX6_goOn_54 (by decide) (by omega) (by omega) (fun h_54 => ?_) (fun h_54 => ?_)
    · skip
      refine g_iload_n cx dX6_goOn_64 rfl ?_
      refine g_bipush (v := nI 6) cx dX6_goOn_65 (by decide) ?_
      refine g_icmp_neN (tgt := 77) cx dX6_goOn_67 (by decide) (by omega) (by omega) (fun h_67 => ?_) (fun h_67 => ?_)
      · skip
        refine g_iload_n cx dX6_goOn_77 rfl ?_
        refine g_bipush (v := nI 7) cx dX6_goOn_78 (by decide) ?_
        refine g_icmp_neN (tgt := 103) cx dX6_goOn_80 (by decide) (by omega) (by omega) (fun h_80 => ?_) (fun h_80 => ?_)
        · skip
          refine g_aload_n cx dX6_goOn_103 rfl ?_
          refine g_iload_n cx dX6_goOn_104 rfl ?_
          refine g_if_eqN (tgt := 114) cx dX6_goOn_105 (by decide) (by omega) (fun h_105 => ?_) (fun h_105 => ?_)
          · skip
            exact absurd h_105 (by decide)
          · skip
            refine g_iload_n cx dX6_goOn_108 rfl ?_
            refine g_bipush (v := nI 9) cx dX6_goOn_109 (by decide) ?_
            refine g_icmp_neN (tgt := 118) cx dX6_goOn_111 (by decide) (by omega) (by omega) (fun h_111 => ?_) (fun h_111 => ?_)
            · skip
              refine g_iload_n cx dX6_goOn_118 rfl ?_
              refine g_bipush (v := nI 8) cx dX6_goOn_119 (by decide) ?_
              refine g_icmp_neN (tgt := 133) cx dX6_goOn_121 (by decide) (by omega) (by omega) (fun h_121 => ?_) (fun h_121 => ?_)
              · skip
                refine g_aload_n cx dX6_goOn_133 rfl ?_
                refine g_getIN (i := (30, 0)) (ci := 6) (k := 20) (v := nI R.2.2.2.2.2) cx a30_0 rfl rfl rfl (by decide) inX6 lfX6_137 dX6_goOn_134 (r10) ?_
                refine g_putI (i := (30, 0)) (ci := 6) (k := 20) cx a30_0 rfl rfl rfl (by decide) inX6 tyX6_ok nmX6 rfl rfl lfX6_137 dX6_goOn_137 ?_
                exact g_vret cx rq rfl dX6_goOn_140 ⟨rfl, RK.go hR (fun i x1 _ _ _ => upA_n E _ x1) (fun q _ _ x3 => by rw [upA_s]; unfold upd; rw [if_neg x3]) (rd_same hRD)⟩
              · skip
                exact absurd h_121 (by decide)
            · skip
              exact absurd h_111 (by decide)
        · skip
          exact absurd h_80 (by decide)
      · skip
        exact absurd h_67 (by decide)
    · skip
      exact absurd h_54 (by decide)
  · skip
    exact absurd h_1 (by decide)

set_option maxRecDepth 100000 in
set_option maxHeartbeats 4000000 in
theorem m_goOn4 {D E : Wd} {t : Nat → Nat} {len : Nat} {R : RS} {m : Nat} {rc : Nat → Nat × Nat} {p e : Nat} (hR : RK D E t len R m rc p e) (x y : Int32) {a c : Nat} : Mok mX6_goOn idsA 0 [vr (30, 0), vi (nI 4), vi x, vi y] E (fun r' E' => r' = none ∧ (RK D E' t len (goR R 4 a c) m rc p e ∧ E' (34, 0) = E (34, 0))) := by
  obtain ⟨hX, ⟨h12, h13, h14⟩, hT, hRD, ⟨h5, hm12⟩, hRC, hFR⟩ := id hR
  obtain ⟨r1, r2, r3, r4, r5, r6, r7, r8, r9, r10⟩ := id hRD
  refine Mok.of (L := [some (vr (30, 0)), some (vi (nI 4)), some (vi x), some (vi y), none]) rfl (fun _ => Nat.le_of_ble_eq_true rfl) (fun _ => rfl) (fun X cx rq => ?_)
  refine g_iload_n cx dX6_goOn_0 rfl ?_
  refine g_if_neN (tgt := 52) cx dX6_goOn_1 (by decide) (by omega) (fun h_1 => ?_) (fun h_1 => ?_)
  · skip
    refine g_iload_n cx dX6_goOn_52 rfl ?_
    refine g_iconst (v := nI 1) cx dX6_goOn_53 (by decide) ?_
    refine g_icmp_neN (tgt := 64) cx dX6_goOn_54 (by decide) (by omega) (by omega) (fun h_54 => ?_) (fun h_54 => ?_)
    · skip
      refine g_iload_n cx dX6_goOn_64 rfl ?_
      refine g_bipush (v := nI 6) cx dX6_goOn_65 (by decide) ?_
      refine g_icmp_neN (tgt := 77) cx dX6_goOn_67 (by decide) (by omega) (by omega) (fun h_67 => ?_) (fun h_67 => ?_)
      · skip
        refine g_iload_n cx dX6_goOn_77 rfl ?_
        refine g_bipush (v := nI 7) cx dX6_goOn_78 (by decide) ?_
        refine g_icmp_neN (tgt := 103) cx dX6_goOn_80 (by decide) (by omega) (by omega) (fun h_80 => ?_) (fun h_80 => ?_)
        · skip
          refine g_aload_n cx dX6_goOn_103 rfl ?_
          refine g_iload_n cx dX6_goOn_104 rfl ?_
          refine g_if_eqN (tgt := 114) cx dX6_goOn_105 (by decide) (by omega) (fun h_105 => ?_) (fun h_105 => ?_)
          · skip
            exact absurd h_105 (by decide)
          · skip
            refine g_iload_n cx dX6_goOn_108 rfl ?_
            refine g_bipush (v := nI 9) cx dX6_goOn_109 (by decide) ?_
            refine g_icmp_neN (tgt := 118) cx dX6_goOn_111 (by decide) (by omega) (by omega) (fun h_111 => ?_) (fun h_111 => ?_)
            · skip
              refine g_iload_n cx dX6_goOn_118 rfl ?_
              refine g_bipush (v := nI 8) cx dX6_goOn_119 (by decide) ?_
              refine g_icmp_neN (tgt := 133) cx dX6_goOn_121 (by decide) (by omega) (by omega) (fun h_121 => ?_) (fun h_121 => ?_)
              · skip
                refine g_aload_n cx dX6_goOn_133 rfl ?_
                refine g_getIN (i := (30, 0)) (ci := 6) (k := 20) (v := nI R.2.2.2.2.2) cx a30_0 rfl rfl rfl (by decide) inX6 lfX6_137 dX6_goOn_134 (r10) ?_
                refine g_putI (i := (30, 0)) (ci := 6) (k := 20) cx a30_0 rfl rfl rfl (by decide) inX6 tyX6_ok nmX6 rfl rfl lfX6_137 dX6_goOn_137 ?_
                exact g_vret cx rq rfl dX6_goOn_140 ⟨rfl, RK.go hR (fun i x1 _ _ _ => upA_n E _ x1) (fun q _ _ x3 => by rw [upA_s]; unfold upd; rw [if_neg x3]) (rd_same hRD)⟩
              · skip
                exact absurd h_121 (by decide)
            · skip
              exact absurd h_111 (by decide)
        · skip
          exact absurd h_80 (by decide)
      · skip
        exact absurd h_67 (by decide)
    · skip
      exact absurd h_54 (by decide)
  · skip
    exact absurd h_1 (by decide)

set_option maxRecDepth 100000 in
set_option maxHeartbeats 4000000 in
theorem m_goOn5 {D E : Wd} {t : Nat → Nat} {len : Nat} {R : RS} {m : Nat} {rc : Nat → Nat × Nat} {p e : Nat} (hR : RK D E t len R m rc p e) (x y : Int32) {a c : Nat} : Mok mX6_goOn idsA 0 [vr (30, 0), vi (nI 5), vi x, vi y] E (fun r' E' => r' = none ∧ (RK D E' t len (goR R 5 a c) m rc p e ∧ E' (34, 0) = E (34, 0))) := by
  obtain ⟨hX, ⟨h12, h13, h14⟩, hT, hRD, ⟨h5, hm12⟩, hRC, hFR⟩ := id hR
  obtain ⟨r1, r2, r3, r4, r5, r6, r7, r8, r9, r10⟩ := id hRD
  refine Mok.of (L := [some (vr (30, 0)), some (vi (nI 5)), some (vi x), some (vi y), none]) rfl (fun _ => Nat.le_of_ble_eq_true rfl) (fun _ => rfl) (fun X cx rq => ?_)
  refine g_iload_n cx dX6_goOn_0 rfl ?_
  refine g_if_neN (tgt := 52) cx dX6_goOn_1 (by decide) (by omega) (fun h_1 => ?_) (fun h_1 => ?_)
  · skip
    refine g_iload_n cx dX6_goOn_52 rfl ?_
    refine g_iconst (v := nI 1) cx dX6_goOn_53 (by decide) ?_
    refine g_icmp_neN (tgt := 64) cx dX6_goOn_54 (by decide) (by omega) (by omega) (fun h_54 => ?_) (fun h_54 => ?_)
    · skip
      refine g_iload_n cx dX6_goOn_64 rfl ?_
      refine g_bipush (v := nI 6) cx dX6_goOn_65 (by decide) ?_
      refine g_icmp_neN (tgt := 77) cx dX6_goOn_67 (by decide) (by omega) (by omega) (fun h_67 => ?_) (fun h_67 => ?_)
      · skip
        refine g_iload_n cx dX6_goOn_77 rfl ?_
        refine g_bipush (v := nI 7) cx dX6_goOn_78 (by decide) ?_
        refine g_icmp_neN (tgt := 103) cx dX6_goOn_80 (by decide) (by omega) (by omega) (fun h_80 => ?_) (fun h_80 => ?_)
        · skip
          refine g_aload_n cx dX6_goOn_103 rfl ?_
          refine g_iload_n cx dX6_goOn_104 rfl ?_
          refine g_if_eqN (tgt := 114) cx dX6_goOn_105 (by decide) (by omega) (fun h_105 => ?_) (fun h_105 => ?_)
          · skip
            exact absurd h_105 (by decide)
          · skip
            refine g_iload_n cx dX6_goOn_108 rfl ?_
            refine g_bipush (v := nI 9) cx dX6_goOn_109 (by decide) ?_
            refine g_icmp_neN (tgt := 118) cx dX6_goOn_111 (by decide) (by omega) (by omega) (fun h_111 => ?_) (fun h_111 => ?_)
            · skip
              refine g_iload_n cx dX6_goOn_118 rfl ?_
              refine g_bipush (v := nI 8) cx dX6_goOn_119 (by decide) ?_
              refine g_icmp_neN (tgt := 133) cx dX6_goOn_121 (by decide) (by omega) (by omega) (fun h_121 => ?_) (fun h_121 => ?_)
              · skip
                refine g_aload_n cx dX6_goOn_133 rfl ?_
                refine g_getIN (i := (30, 0)) (ci := 6) (k := 20) (v := nI R.2.2.2.2.2) cx a30_0 rfl rfl rfl (by decide) inX6 lfX6_137 dX6_goOn_134 (r10) ?_
                refine g_putI (i := (30, 0)) (ci := 6) (k := 20) cx a30_0 rfl rfl rfl (by decide) inX6 tyX6_ok nmX6 rfl rfl lfX6_137 dX6_goOn_137 ?_
                exact g_vret cx rq rfl dX6_goOn_140 ⟨rfl, RK.go hR (fun i x1 _ _ _ => upA_n E _ x1) (fun q _ _ x3 => by rw [upA_s]; unfold upd; rw [if_neg x3]) (rd_same hRD)⟩
              · skip
                exact absurd h_121 (by decide)
            · skip
              exact absurd h_111 (by decide)
        · skip
          exact absurd h_80 (by decide)
      · skip
        exact absurd h_67 (by decide)
    · skip
      exact absurd h_54 (by decide)
  · skip
    exact absurd h_1 (by decide)

set_option maxRecDepth 100000 in
set_option maxHeartbeats 4000000 in
theorem m_goOn9 {D E : Wd} {t : Nat → Nat} {len : Nat} {R : RS} {m : Nat} {rc : Nat → Nat × Nat} {p e : Nat} (hR : RK D E t len R m rc p e) (x y : Int32) {a c : Nat} : Mok mX6_goOn idsA 0 [vr (30, 0), vi (nI 9), vi x, vi y] E (fun r' E' => r' = none ∧ (RK D E' t len (goR R 9 a c) m rc p e ∧ E' (34, 0) = E (34, 0))) := by
  obtain ⟨hX, ⟨h12, h13, h14⟩, hT, hRD, ⟨h5, hm12⟩, hRC, hFR⟩ := id hR
  obtain ⟨r1, r2, r3, r4, r5, r6, r7, r8, r9, r10⟩ := id hRD
  refine Mok.of (L := [some (vr (30, 0)), some (vi (nI 9)), some (vi x), some (vi y), none]) rfl (fun _ => Nat.le_of_ble_eq_true rfl) (fun _ => rfl) (fun X cx rq => ?_)
  refine g_iload_n cx dX6_goOn_0 rfl ?_
  refine g_if_neN (tgt := 52) cx dX6_goOn_1 (by decide) (by omega) (fun h_1 => ?_) (fun h_1 => ?_)
  · skip
    refine g_iload_n cx dX6_goOn_52 rfl ?_
    refine g_iconst (v := nI 1) cx dX6_goOn_53 (by decide) ?_
    refine g_icmp_neN (tgt := 64) cx dX6_goOn_54 (by decide) (by omega) (by omega) (fun h_54 => ?_) (fun h_54 => ?_)
    · skip
      refine g_iload_n cx dX6_goOn_64 rfl ?_
      refine g_bipush (v := nI 6) cx dX6_goOn_65 (by decide) ?_
      refine g_icmp_neN (tgt := 77) cx dX6_goOn_67 (by decide) (by omega) (by omega) (fun h_67 => ?_) (fun h_67 => ?_)
      · skip
        refine g_iload_n cx dX6_goOn_77 rfl ?_
        refine g_bipush (v := nI 7) cx dX6_goOn_78 (by decide) ?_
        refine g_icmp_neN (tgt := 103) cx dX6_goOn_80 (by decide) (by omega) (by omega) (fun h_80 => ?_) (fun h_80 => ?_)
        · skip
          refine g_aload_n cx dX6_goOn_103 rfl ?_
          refine g_iload_n cx dX6_goOn_104 rfl ?_
          refine g_if_eqN (tgt := 114) cx dX6_goOn_105 (by decide) (by omega) (fun h_105 => ?_) (fun h_105 => ?_)
          · skip
            exact absurd h_105 (by decide)
          · skip
            refine g_iload_n cx dX6_goOn_108 rfl ?_
            refine g_bipush (v := nI 9) cx dX6_goOn_109 (by decide) ?_
            refine g_icmp_neN (tgt := 118) cx dX6_goOn_111 (by decide) (by omega) (by omega) (fun h_111 => ?_) (fun h_111 => ?_)
            · skip
              exact absurd rfl h_111
            · skip
              refine g_iconst (v := nI 0) cx dX6_goOn_114 (by decide) ?_
              refine g_goto (tgt := 137) cx dX6_goOn_115 (by decide) ?_
              refine g_putI (i := (30, 0)) (ci := 6) (k := 20) cx a30_0 rfl rfl rfl (by decide) inX6 tyX6_ok nmX6 rfl rfl lfX6_137 dX6_goOn_137 ?_
              exact g_vret cx rq rfl dX6_goOn_140 ⟨rfl, RK.go hR (fun i x1 _ _ _ => upA_n E _ x1) (fun q _ _ x3 => by rw [upA_s]; unfold upd; rw [if_neg x3]) (rd_pn hRD (by omega))⟩
        · skip
          exact absurd h_80 (by decide)
      · skip
        exact absurd h_67 (by decide)
    · skip
      exact absurd h_54 (by decide)
  · skip
    exact absurd h_1 (by decide)

set_option maxRecDepth 100000 in
set_option maxHeartbeats 4000000 in
theorem m_goOn8 {D E : Wd} {t : Nat → Nat} {len : Nat} {R : RS} {m : Nat} {rc : Nat → Nat × Nat} {p e : Nat} (hR : RK D E t len R m rc p e) (x y : Int32) {a c : Nat} (hp4 : R.2.2.2.2.2 < 5) : Mok mX6_goOn idsA 0 [vr (30, 0), vi (nI 8), vi x, vi y] E (fun r' E' => r' = none ∧ (RK D E' t len (goR R 8 a c) m rc p e ∧ E' (34, 0) = E (34, 0))) := by
  obtain ⟨hX, ⟨h12, h13, h14⟩, hT, hRD, ⟨h5, hm12⟩, hRC, hFR⟩ := id hR
  obtain ⟨r1, r2, r3, r4, r5, r6, r7, r8, r9, r10⟩ := id hRD
  refine Mok.of (L := [some (vr (30, 0)), some (vi (nI 8)), some (vi x), some (vi y), none]) rfl (fun _ => Nat.le_of_ble_eq_true rfl) (fun _ => rfl) (fun X cx rq => ?_)
  refine g_iload_n cx dX6_goOn_0 rfl ?_
  refine g_if_neN (tgt := 52) cx dX6_goOn_1 (by decide) (by omega) (fun h_1 => ?_) (fun h_1 => ?_)
  · skip
    refine g_iload_n cx dX6_goOn_52 rfl ?_
    refine g_iconst (v := nI 1) cx dX6_goOn_53 (by decide) ?_
    refine g_icmp_neN (tgt := 64) cx dX6_goOn_54 (by decide) (by omega) (by omega) (fun h_54 => ?_) (fun h_54 => ?_)
    · skip
      refine g_iload_n cx dX6_goOn_64 rfl ?_
      refine g_bipush (v := nI 6) cx dX6_goOn_65 (by decide) ?_
      refine g_icmp_neN (tgt := 77) cx dX6_goOn_67 (by decide) (by omega) (by omega) (fun h_67 => ?_) (fun h_67 => ?_)
      · skip
        refine g_iload_n cx dX6_goOn_77 rfl ?_
        refine g_bipush (v := nI 7) cx dX6_goOn_78 (by decide) ?_
        refine g_icmp_neN (tgt := 103) cx dX6_goOn_80 (by decide) (by omega) (by omega) (fun h_80 => ?_) (fun h_80 => ?_)
        · skip
          refine g_aload_n cx dX6_goOn_103 rfl ?_
          refine g_iload_n cx dX6_goOn_104 rfl ?_
          refine g_if_eqN (tgt := 114) cx dX6_goOn_105 (by decide) (by omega) (fun h_105 => ?_) (fun h_105 => ?_)
          · skip
            exact absurd h_105 (by decide)
          · skip
            refine g_iload_n cx dX6_goOn_108 rfl ?_
            refine g_bipush (v := nI 9) cx dX6_goOn_109 (by decide) ?_
            refine g_icmp_neN (tgt := 118) cx dX6_goOn_111 (by decide) (by omega) (by omega) (fun h_111 => ?_) (fun h_111 => ?_)
            · skip
              refine g_iload_n cx dX6_goOn_118 rfl ?_
              refine g_bipush (v := nI 8) cx dX6_goOn_119 (by decide) ?_
              refine g_icmp_neN (tgt := 133) cx dX6_goOn_121 (by decide) (by omega) (by omega) (fun h_121 => ?_) (fun h_121 => ?_)
              · skip
                exact absurd rfl h_121
              · skip
                refine g_aload_n cx dX6_goOn_124 rfl ?_
                refine g_getIN (i := (30, 0)) (ci := 6) (k := 20) (v := nI R.2.2.2.2.2) cx a30_0 rfl rfl rfl (by decide) inX6 lfX6_137 dX6_goOn_125 (r10) ?_
                refine g_iconst (v := nI 1) cx dX6_goOn_128 (by decide) ?_
                refine g_iaddN cx dX6_goOn_129 ?_
                refine g_goto (tgt := 137) cx dX6_goOn_130 (by decide) ?_
                refine g_putI (i := (30, 0)) (ci := 6) (k := 20) cx a30_0 rfl rfl rfl (by decide) inX6 tyX6_ok nmX6 rfl rfl lfX6_137 dX6_goOn_137 ?_
                exact g_vret cx rq rfl dX6_goOn_140 ⟨rfl, RK.go hR (fun i x1 _ _ _ => upA_n E _ x1) (fun q _ _ x3 => by rw [upA_s]; unfold upd; rw [if_neg x3]) (rd_pn hRD (by omega))⟩
            · skip
              exact absurd h_111 (by decide)
        · skip
          exact absurd h_80 (by decide)
      · skip
        exact absurd h_67 (by decide)
    · skip
      exact absurd h_54 (by decide)
  · skip
    exact absurd h_1 (by decide)

set_option maxRecDepth 100000 in
set_option maxHeartbeats 4000000 in
theorem m_goOn1 {D E : Wd} {t : Nat → Nat} {len : Nat} {R : RS} {m : Nat} {rc : Nat → Nat × Nat} {p e : Nat} (hR : RK D E t len R m rc p e) {a c : Nat} (ha : a < R.1) (hc : c < 72) : Mok mX6_goOn idsA 0 [vr (30, 0), vi (nI 1), vi (nI a), vi (nI c)] E (fun r' E' => r' = none ∧ (RK D E' t len (goR R 1 a c) m rc p e ∧ E' (34, 0) = E (34, 0))) := by
  obtain ⟨hX, ⟨h12, h13, h14⟩, hT, hRD, ⟨h5, hm12⟩, hRC, hFR⟩ := id hR
  obtain ⟨r1, r2, r3, r4, r5, r6, r7, r8, r9, r10⟩ := id hRD
  refine Mok.of (L := [some (vr (30, 0)), some (vi (nI 1)), some (vi (nI a)), some (vi (nI c)), none]) rfl (fun _ => Nat.le_of_ble_eq_true rfl) (fun _ => rfl) (fun X cx rq => ?_)
  refine g_iload_n cx dX6_goOn_0 rfl ?_
  refine g_if_neN (tgt := 52) cx dX6_goOn_1 (by decide) (by omega) (fun h_1 => ?_) (fun h_1 => ?_)
  · skip
    refine g_iload_n cx dX6_goOn_52 rfl ?_
    refine g_iconst (v := nI 1) cx dX6_goOn_53 (by decide) ?_
    refine g_icmp_neN (tgt := 64) cx dX6_goOn_54 (by decide) (by omega) (by omega) (fun h_54 => ?_) (fun h_54 => ?_)
    · skip
      exact absurd rfl h_54
    · skip
      refine g_aload_n cx dX6_goOn_57 rfl ?_
      refine g_getR (i := (30, 0)) (ci := 6) (k := 16) (j := (38, 0)) cx a30_0 rfl rfl rfl (by decide) inX6 lfX6_36 dX6_goOn_58 ?_
      refine g_iload_n cx dX6_goOn_61 rfl ?_
      refine g_iload_n cx dX6_goOn_62 rfl ?_
      refine g_iast (i := (38, 0)) (j := a) cx a38_0 rfl (rfl) (by omega) (by decide) dX6_goOn_63 ?_
      refine g_iload_n cx dX6_goOn_64 rfl ?_
      refine g_bipush (v := nI 6) cx dX6_goOn_65 (by decide) ?_
      refine g_icmp_neN (tgt := 77) cx dX6_goOn_67 (by decide) (by omega) (by omega) (fun h_67 => ?_) (fun h_67 => ?_)
      · skip
        refine g_iload_n cx dX6_goOn_77 rfl ?_
        refine g_bipush (v := nI 7) cx dX6_goOn_78 (by decide) ?_
        refine g_icmp_neN (tgt := 103) cx dX6_goOn_80 (by decide) (by omega) (by omega) (fun h_80 => ?_) (fun h_80 => ?_)
        · skip
          refine g_aload_n cx dX6_goOn_103 rfl ?_
          refine g_iload_n cx dX6_goOn_104 rfl ?_
          refine g_if_eqN (tgt := 114) cx dX6_goOn_105 (by decide) (by omega) (fun h_105 => ?_) (fun h_105 => ?_)
          · skip
            exact absurd h_105 (by decide)
          · skip
            refine g_iload_n cx dX6_goOn_108 rfl ?_
            refine g_bipush (v := nI 9) cx dX6_goOn_109 (by decide) ?_
            refine g_icmp_neN (tgt := 118) cx dX6_goOn_111 (by decide) (by omega) (by omega) (fun h_111 => ?_) (fun h_111 => ?_)
            · skip
              refine g_iload_n cx dX6_goOn_118 rfl ?_
              refine g_bipush (v := nI 8) cx dX6_goOn_119 (by decide) ?_
              refine g_icmp_neN (tgt := 133) cx dX6_goOn_121 (by decide) (by omega) (by omega) (fun h_121 => ?_) (fun h_121 => ?_)
              · skip
                refine g_aload_n cx dX6_goOn_133 rfl ?_
                refine g_getIN (i := (30, 0)) (ci := 6) (k := 20) (v := nI R.2.2.2.2.2) cx a30_0 rfl rfl rfl (by decide) inX6 lfX6_137 dX6_goOn_134 (by rw [upA_n _ _ (by decide)]; exact r10) ?_
                refine g_putI (i := (30, 0)) (ci := 6) (k := 20) cx a30_0 rfl rfl rfl (by decide) inX6 tyX6_ok nmX6 rfl rfl lfX6_137 dX6_goOn_137 ?_
                exact g_vret cx rq rfl dX6_goOn_140 ⟨rfl, RK.go hR (fun i x1 x2 _ _ => by rw [upA_n _ _ x1, upA_n _ _ x2]) (fun q _ _ x3 => by rw [upA_s]; unfold upd; rw [if_neg x3, upA_n _ _ (by decide)]) (rd_hm hRD ha hc)⟩
              · skip
                exact absurd h_121 (by decide)
            · skip
              exact absurd h_111 (by decide)
        · skip
          exact absurd h_80 (by decide)
      · skip
        exact absurd h_67 (by decide)
  · skip
    exact absurd h_1 (by decide)

set_option maxRecDepth 100000 in
set_option maxHeartbeats 4000000 in
theorem m_goOn6 {D E : Wd} {t : Nat → Nat} {len : Nat} {R : RS} {m : Nat} {rc : Nat → Nat × Nat} {p e : Nat} (hR : RK D E t len R m rc p e) {a c : Nat} (ha : a < R.1) (hc : c ≤ 20) : Mok mX6_goOn idsA 0 [vr (30, 0), vi (nI 6), vi (nI a), vi (nI c)] E (fun r' E' => r' = none ∧ (RK D E' t len (goR R 6 a c) m rc p e ∧ E' (34, 0) = E (34, 0))) := by
  obtain ⟨hX, ⟨h12, h13, h14⟩, hT, hRD, ⟨h5, hm12⟩, hRC, hFR⟩ := id hR
  obtain ⟨r1, r2, r3, r4, r5, r6, r7, r8, r9, r10⟩ := id hRD
  refine Mok.of (L := [some (vr (30, 0)), some (vi (nI 6)), some (vi (nI a)), some (vi (nI c)), none]) rfl (fun _ => Nat.le_of_ble_eq_true rfl) (fun _ => rfl) (fun X cx rq => ?_)
  refine g_iload_n cx dX6_goOn_0 rfl ?_
  refine g_if_neN (tgt := 52) cx dX6_goOn_1 (by decide) (by omega) (fun h_1 => ?_) (fun h_1 => ?_)
  · skip
    refine g_iload_n cx dX6_goOn_52 rfl ?_
    refine g_iconst (v := nI 1) cx dX6_goOn_53 (by decide) ?_
    refine g_icmp_neN (tgt := 64) cx dX6_goOn_54 (by decide) (by omega) (by omega) (fun h_54 => ?_) (fun h_54 => ?_)
    · skip
      refine g_iload_n cx dX6_goOn_64 rfl ?_
      refine g_bipush (v := nI 6) cx dX6_goOn_65 (by decide) ?_
      refine g_icmp_neN (tgt := 77) cx dX6_goOn_67 (by decide) (by omega) (by omega) (fun h_67 => ?_) (fun h_67 => ?_)
      · skip
        exact absurd rfl h_67
      · skip
        refine g_aload_n cx dX6_goOn_70 rfl ?_
        refine g_getR (i := (30, 0)) (ci := 6) (k := 17) (j := (39, 0)) cx a30_0 rfl rfl rfl (by decide) inX6 lfX6_39 dX6_goOn_71 ?_
        refine g_iload_n cx dX6_goOn_74 rfl ?_
        refine g_iload_n cx dX6_goOn_75 rfl ?_
        refine g_iast (i := (39, 0)) (j := a) cx a39_0 rfl (rfl) (by omega) (by decide) dX6_goOn_76 ?_
        refine g_iload_n cx dX6_goOn_77 rfl ?_
        refine g_bipush (v := nI 7) cx dX6_goOn_78 (by decide) ?_
        refine g_icmp_neN (tgt := 103) cx dX6_goOn_80 (by decide) (by omega) (by omega) (fun h_80 => ?_) (fun h_80 => ?_)
        · skip
          refine g_aload_n cx dX6_goOn_103 rfl ?_
          refine g_iload_n cx dX6_goOn_104 rfl ?_
          refine g_if_eqN (tgt := 114) cx dX6_goOn_105 (by decide) (by omega) (fun h_105 => ?_) (fun h_105 => ?_)
          · skip
            exact absurd h_105 (by decide)
          · skip
            refine g_iload_n cx dX6_goOn_108 rfl ?_
            refine g_bipush (v := nI 9) cx dX6_goOn_109 (by decide) ?_
            refine g_icmp_neN (tgt := 118) cx dX6_goOn_111 (by decide) (by omega) (by omega) (fun h_111 => ?_) (fun h_111 => ?_)
            · skip
              refine g_iload_n cx dX6_goOn_118 rfl ?_
              refine g_bipush (v := nI 8) cx dX6_goOn_119 (by decide) ?_
              refine g_icmp_neN (tgt := 133) cx dX6_goOn_121 (by decide) (by omega) (by omega) (fun h_121 => ?_) (fun h_121 => ?_)
              · skip
                refine g_aload_n cx dX6_goOn_133 rfl ?_
                refine g_getIN (i := (30, 0)) (ci := 6) (k := 20) (v := nI R.2.2.2.2.2) cx a30_0 rfl rfl rfl (by decide) inX6 lfX6_137 dX6_goOn_134 (by rw [upA_n _ _ (by decide)]; exact r10) ?_
                refine g_putI (i := (30, 0)) (ci := 6) (k := 20) cx a30_0 rfl rfl rfl (by decide) inX6 tyX6_ok nmX6 rfl rfl lfX6_137 dX6_goOn_137 ?_
                exact g_vret cx rq rfl dX6_goOn_140 ⟨rfl, RK.go hR (fun i x1 _ x2 _ => by rw [upA_n _ _ x1, upA_n _ _ x2]) (fun q _ _ x3 => by rw [upA_s]; unfold upd; rw [if_neg x3, upA_n _ _ (by decide)]) (rd_fu hRD ha hc)⟩
              · skip
                exact absurd h_121 (by decide)
            · skip
              exact absurd h_111 (by decide)
        · skip
          exact absurd h_80 (by decide)
    · skip
      exact absurd h_54 (by decide)
  · skip
    exact absurd h_1 (by decide)

set_option maxRecDepth 100000 in
set_option maxHeartbeats 4000000 in
theorem m_goOn7 {D E : Wd} {t : Nat → Nat} {len : Nat} {R : RS} {m : Nat} {rc : Nat → Nat × Nat} {p e : Nat} (hR : RK D E t len R m rc p e) {a c : Nat} (y : Int32) (ha : a < 72) (hd2 : R.2.2.2.1 < 3) : Mok mX6_goOn idsA 0 [vr (30, 0), vi (nI 7), vi (nI a), vi y] E (fun r' E' => r' = none ∧ (RK D E' t len (goR R 7 a c) m rc p e ∧ E' (34, 0) = E (34, 0))) := by
  obtain ⟨hX, ⟨h12, h13, h14⟩, hT, hRD, ⟨h5, hm12⟩, hRC, hFR⟩ := id hR
  obtain ⟨r1, r2, r3, r4, r5, r6, r7, r8, r9, r10⟩ := id hRD
  refine Mok.of (L := [some (vr (30, 0)), some (vi (nI 7)), some (vi (nI a)), some (vi y), none]) rfl (fun _ => Nat.le_of_ble_eq_true rfl) (fun _ => rfl) (fun X cx rq => ?_)
  refine g_iload_n cx dX6_goOn_0 rfl ?_
  refine g_if_neN (tgt := 52) cx dX6_goOn_1 (by decide) (by omega) (fun h_1 => ?_) (fun h_1 => ?_)
  · skip
    refine g_iload_n cx dX6_goOn_52 rfl ?_
    refine g_iconst (v := nI 1) cx dX6_goOn_53 (by decide) ?_
    refine g_icmp_neN (tgt := 64) cx dX6_goOn_54 (by decide) (by omega) (by omega) (fun h_54 => ?_) (fun h_54 => ?_)
    · skip
      refine g_iload_n cx dX6_goOn_64 rfl ?_
      refine g_bipush (v := nI 6) cx dX6_goOn_65 (by decide) ?_
      refine g_icmp_neN (tgt := 77) cx dX6_goOn_67 (by decide) (by omega) (by omega) (fun h_67 => ?_) (fun h_67 => ?_)
      · skip
        refine g_iload_n cx dX6_goOn_77 rfl ?_
        refine g_bipush (v := nI 7) cx dX6_goOn_78 (by decide) ?_
        refine g_icmp_neN (tgt := 103) cx dX6_goOn_80 (by decide) (by omega) (by omega) (fun h_80 => ?_) (fun h_80 => ?_)
        · skip
          exact absurd rfl h_80
        · skip
          refine g_aload_n cx dX6_goOn_83 rfl ?_
          refine g_getR (i := (30, 0)) (ci := 6) (k := 18) (j := (40, 0)) cx a30_0 rfl rfl rfl (by decide) inX6 lfX6_42 dX6_goOn_84 ?_
          refine g_aload_n cx dX6_goOn_87 rfl ?_
          refine g_getIN (i := (30, 0)) (ci := 6) (k := 19) (v := nI R.2.2.2.1) cx a30_0 rfl rfl rfl (by decide) inX6 lfX6_116 dX6_goOn_88 (r7) ?_
          refine g_iload_n cx dX6_goOn_91 rfl ?_
          refine g_iast (i := (40, 0)) (j := R.2.2.2.1) cx a40_0 rfl (rfl) (by omega) (by decide) dX6_goOn_92 ?_
          refine g_aload_n cx dX6_goOn_93 rfl ?_
          refine g_dup cx dX6_goOn_94 rfl ?_
          refine g_getIN (i := (30, 0)) (ci := 6) (k := 19) (v := nI R.2.2.2.1) cx a30_0 rfl rfl rfl (by decide) inX6 lfX6_116 dX6_goOn_95 (by rw [upA_n _ _ (by decide)]; exact r7) ?_
          refine g_iconst (v := nI 1) cx dX6_goOn_98 (by decide) ?_
          refine g_iaddN cx dX6_goOn_99 ?_
          refine g_putI (i := (30, 0)) (ci := 6) (k := 19) cx a30_0 rfl rfl rfl (by decide) inX6 tyX6_ok nmX6 rfl rfl lfX6_116 dX6_goOn_100 ?_
          refine g_aload_n cx dX6_goOn_103 rfl ?_
          refine g_iload_n cx dX6_goOn_104 rfl ?_
          refine g_if_eqN (tgt := 114) cx dX6_goOn_105 (by decide) (by omega) (fun h_105 => ?_) (fun h_105 => ?_)
          · skip
            exact absurd h_105 (by decide)
          · skip
            refine g_iload_n cx dX6_goOn_108 rfl ?_
            refine g_bipush (v := nI 9) cx dX6_goOn_109 (by decide) ?_
            refine g_icmp_neN (tgt := 118) cx dX6_goOn_111 (by decide) (by omega) (by omega) (fun h_111 => ?_) (fun h_111 => ?_)
            · skip
              refine g_iload_n cx dX6_goOn_118 rfl ?_
              refine g_bipush (v := nI 8) cx dX6_goOn_119 (by decide) ?_
              refine g_icmp_neN (tgt := 133) cx dX6_goOn_121 (by decide) (by omega) (by omega) (fun h_121 => ?_) (fun h_121 => ?_)
              · skip
                refine g_aload_n cx dX6_goOn_133 rfl ?_
                refine g_getIN (i := (30, 0)) (ci := 6) (k := 20) (v := nI R.2.2.2.2.2) cx a30_0 rfl rfl rfl (by decide) inX6 lfX6_137 dX6_goOn_134 (by rw [upA_s, upA_n _ _ (by decide)]; exact r10) ?_
                refine g_putI (i := (30, 0)) (ci := 6) (k := 20) cx a30_0 rfl rfl rfl (by decide) inX6 tyX6_ok nmX6 rfl rfl lfX6_137 dX6_goOn_137 ?_
                exact g_vret cx rq rfl dX6_goOn_140 ⟨rfl, RK.go hR (fun i x1 _ _ x2 => by rw [upA_n _ _ x1, upA_n _ _ x1, upA_n _ _ x2]) (fun q _ x2 x3 => by rw [upA_s]; unfold upd; rw [if_neg x3, upA_s]; show (if q = 19 then _ else upA E (40, 0) _ (30, 0) q) = _; rw [if_neg x2, upA_n _ _ (by decide)]) (rd_dr hRD ha hd2)⟩
              · skip
                exact absurd h_121 (by decide)
            · skip
              exact absurd h_111 (by decide)
      · skip
        exact absurd h_67 (by decide)
    · skip
      exact absurd h_54 (by decide)
  · skip
    exact absurd h_1 (by decide)

set_option maxRecDepth 100000 in
set_option maxHeartbeats 4000000 in
theorem m_goOn0 {D E : Wd} {t : Nat → Nat} {len : Nat} {R : RS} {m : Nat} {rc : Nat → Nat × Nat} {p e : Nat} (hR : RK D E t len R m rc p e) {a c : Nat} (y : Int32) (ha3 : 3 ≤ a) (ha8 : a ≤ 8) : Mok mX6_goOn idsA 0 [vr (30, 0), vi (nI 0), vi (nI a), vi y] E (fun r' E' => r' = none ∧ (RK D E' t len (goR R 0 a c) m rc p e ∧ E' (34, 0) = E (34, 0))) := by
  obtain ⟨hX, ⟨h12, h13, h14⟩, hT, hRD, ⟨h5, hm12⟩, hRC, hFR⟩ := id hR
  obtain ⟨r1, r2, r3, r4, r5, r6, r7, r8, r9, r10⟩ := id hRD
  refine Mok.of (L := [some (vr (30, 0)), some (vi (nI 0)), some (vi (nI a)), some (vi y), none]) rfl (fun _ => Nat.le_of_ble_eq_true rfl) (fun _ => rfl) (fun X cx rq => ?_)
  refine g_iload_n cx dX6_goOn_0 rfl ?_
  refine g_if_neN (tgt := 52) cx dX6_goOn_1 (by decide) (by omega) (fun h_1 => ?_) (fun h_1 => ?_)
  · skip
    exact absurd rfl h_1
  · skip
    refine g_aload_n cx dX6_goOn_4 rfl ?_
    refine g_iload_n cx dX6_goOn_5 rfl ?_
    refine g_putI (i := (30, 0)) (ci := 6) (k := 15) cx a30_0 rfl rfl rfl (by decide) inX6 tyX6_ok nmX6 rfl rfl lfX6_108 dX6_goOn_6 ?_
    refine g_aload_n cx dX6_goOn_9 rfl ?_
    refine g_iconst (v := nI 0) cx dX6_goOn_10 (by decide) ?_
    refine g_putI (i := (30, 0)) (ci := 6) (k := 19) cx a30_0 rfl rfl rfl (by decide) inX6 tyX6_ok nmX6 rfl rfl lfX6_116 dX6_goOn_11 ?_
    refine g_iconst (v := nI 0) cx dX6_goOn_14 (by decide) ?_
    refine g_istore (L' := [some (vr (30, 0)), some (vi (nI 0)), some (vi (nI a)), some (vi y), some (vi (nI 0))]) cx dX6_goOn_15 (by decide) rfl rfl ?_
    have lp : ∀ (fu : Nat) (q : Nat), 8 - q < fu → (q ≤ 8) → Gk X mX6_goOn idsA 17 [some (vr (30, 0)), some (vi (nI 0)), some (vi (nI a)), some (vi y), some (vi (nI q))] [] (Hs E a q) := by
      intro fu
      induction fu with
      | zero => intro q hfu; exact absurd hfu (Nat.not_lt_zero _)
      | succ fu ih =>
        intro q hfu hq
        refine g_iload cx dX6_goOn_17 rfl ?_
        refine g_bipush (v := nI 8) cx dX6_goOn_19 (by decide) ?_
        refine g_icmp_geN (tgt := 52) cx dX6_goOn_21 (by decide) (by omega) (by omega) (fun h_21 => ?_) (fun h_21 => ?_)
        · skip
          have e9 : q = 8 := by omega
          refine g_drop 4 (L' := [some (vr (30, 0)), some (vi (nI 0)), some (vi (nI a)), some (vi y), none]) rfl ?_
          refine g_wd (D' := Hs E a 8) (by rw [e9]) ?_
          refine g_iload_n cx dX6_goOn_52 rfl ?_
          refine g_iconst (v := nI 1) cx dX6_goOn_53 (by decide) ?_
          refine g_icmp_neN (tgt := 64) cx dX6_goOn_54 (by decide) (by omega) (by omega) (fun h_54 => ?_) (fun h_54 => ?_)
          · skip
            refine g_iload_n cx dX6_goOn_64 rfl ?_
            refine g_bipush (v := nI 6) cx dX6_goOn_65 (by decide) ?_
            refine g_icmp_neN (tgt := 77) cx dX6_goOn_67 (by decide) (by omega) (by omega) (fun h_67 => ?_) (fun h_67 => ?_)
            · skip
              refine g_iload_n cx dX6_goOn_77 rfl ?_
              refine g_bipush (v := nI 7) cx dX6_goOn_78 (by decide) ?_
              refine g_icmp_neN (tgt := 103) cx dX6_goOn_80 (by decide) (by omega) (by omega) (fun h_80 => ?_) (fun h_80 => ?_)
              · skip
                refine g_aload_n cx dX6_goOn_103 rfl ?_
                refine g_iload_n cx dX6_goOn_104 rfl ?_
                refine g_if_eqN (tgt := 114) cx dX6_goOn_105 (by decide) (by omega) (fun h_105 => ?_) (fun h_105 => ?_)
                · skip
                  refine g_iconst (v := nI 0) cx dX6_goOn_114 (by decide) ?_
                  refine g_goto (tgt := 137) cx dX6_goOn_115 (by decide) ?_
                  refine g_putI (i := (30, 0)) (ci := 6) (k := 20) cx a30_0 rfl rfl rfl (by decide) inX6 tyX6_ok nmX6 rfl rfl lfX6_137 dX6_goOn_137 ?_
                  exact g_vret cx rq rfl dX6_goOn_140 ⟨rfl, RK.go hR (fun i x1 x2 x3 _ => by rw [upA_n _ _ x1]; exact Hs.o x1 x2 x3) (fun q x1 x2 x3 => by rw [upA_s, Hs.c]; unfold upd; rw [if_neg x3, if_neg x2, if_neg x1]) (hs_rd hRD ha3 ha8)⟩
                · skip
                  exact absurd rfl h_105
              · skip
                exact absurd h_80 (by decide)
            · skip
              exact absurd h_67 (by decide)
          · skip
            exact absurd h_54 (by decide)
        · skip
          refine g_aload_n cx dX6_goOn_24 rfl ?_
          refine g_getR (i := (30, 0)) (ci := 6) (k := 16) (j := (38, 0)) cx a30_0 rfl rfl rfl (by decide) inX6 lfX6_36 dX6_goOn_25 ?_
          refine g_iload cx dX6_goOn_28 rfl ?_
          refine g_bipush (v := nI 72) cx dX6_goOn_30 (by decide) ?_
          refine g_iload cx dX6_goOn_32 rfl ?_
          refine g_imulN cx dX6_goOn_34 ?_
          refine g_iload_n cx dX6_goOn_35 rfl ?_
          refine g_idivN cx dX6_goOn_36 (by omega) (by omega) (by omega) ?_
          refine g_iast (i := (38, 0)) (j := q) cx a38_0 rfl (rfl) (by omega) (by decide) dX6_goOn_37 ?_
          refine g_aload_n cx dX6_goOn_38 rfl ?_
          refine g_getR (i := (30, 0)) (ci := 6) (k := 17) (j := (39, 0)) cx a30_0 rfl rfl rfl (by decide) inX6 lfX6_39 dX6_goOn_39 ?_
          refine g_iload cx dX6_goOn_42 rfl ?_
          refine g_iconst (v := nI 0) cx dX6_goOn_44 (by decide) ?_
          refine g_iast (i := (39, 0)) (j := q) cx a39_0 rfl (rfl) (by omega) (by decide) dX6_goOn_45 ?_
          refine g_iincN (L' := [some (vr (30, 0)), some (vi (nI 0)), some (vi (nI a)), some (vi y), some (vi (nI (q + 1)))]) cx dX6_goOn_46 rfl (by decide) rfl rfl ?_
          refine g_goto (tgt := 17) cx dX6_goOn_49 (by decide) ?_
          refine g_wd (D' := Hs E a (q + 1)) (Hs.s E a q) ?_
          exact ih (q + 1) (by omega) (by omega)
    refine g_wd (D' := Hs E a 0) (Hs.z E a) ?_
    exact lp 9 0 (by omega) (by omega)
