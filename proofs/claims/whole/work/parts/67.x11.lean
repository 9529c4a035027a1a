theorem put_y {t : Nat → Nat} {len p e a c : Nat} {R : RS} (hg : R.2.2.1 a + 1 ≤ onN (R.2.1 a) (R.2.1 (nx R.1 a))) (h : NumY t len 0 (putH R a) p e c) : NumY t len 0 20 p e c ∧ c + 1 ≤ wid R.1 R.2.1 a := by
  obtain ⟨h1, h2, h3⟩ := h
  unfold putH at h3
  have e0 : wid R.1 R.2.1 a = onN (R.2.1 a) (R.2.1 (nx R.1 a)) := rfl
  split at h3
  · exact ⟨⟨h1, h2, by omega⟩, by omega⟩
  · exact ⟨⟨h1, h2, h3⟩, by omega⟩
theorem put_n {t : Nat → Nat} {len p e a : Nat} {R : RS} (hg : R.2.2.1 a + 1 ≤ onN (R.2.1 a) (R.2.1 (nx R.1 a))) (h : NumN t len 0 (putH R a) p e) : NumN t len 0 20 p e ∨ ∃ c, NumY t len 0 20 p e c ∧ ¬ c + 1 ≤ wid R.1 R.2.1 a := by
  have e0 : wid R.1 R.2.1 a = onN (R.2.1 a) (R.2.1 (nx R.1 a)) := rfl
  rcases num_em t len 0 20 p e with ⟨c, hc⟩ | hn
  · refine Or.inr ⟨c, hc, fun x => ?_⟩
    unfold NumN at h
    rw [hc.1] at h
    have h2 := hc.2.2
    have : c ≤ putH R a := by unfold putH; split <;> omega
    simp [okN, this] at h
  · exact Or.inl hn
set_option maxRecDepth 100000 in
set_option maxHeartbeats 4000000 in
theorem x_ln_y0 {D E : Wd} {t : Nat → Nat} {len : Nat} {R : RS} {T : TL} {e : Nat} (hR : RKx D E t len R T e) (hwo : wOf t (tkP t len e) (tkE t len (tkP t len e)) = some 0) {a : Nat} (hy1 : NumY t len 3 8 (tkP t len (tkE t len (tkP t len e))) (tkE t len (tkP t len (tkE t len (tkP t len e)))) a) : Mok mX4_readLine idsA 6 [vr (7, 0)] E (fun r' E' => r' = (some (vi (nI 1))) ∧ RKx D E' t len (goR R 0 a 0) (tlR T 0 a) (tkE t len (tkP t len (tkE t len (tkP t len e))))) := by
  obtain ⟨hX, ⟨hE9, he⟩, ⟨⟨hn3, hn8, hN, hK, hF, hd3, hDn, hDr, hp5, hPn⟩, hH, hPl, hpp⟩, hFr⟩ := id hR
  have hpk := tkP_ok (t := t) he
  have htk := tkE_ok (t := t) hpk.2
  have hRs := hR.se (p := tkP t len e) htk.2.1
  refine Mok.of (L := [some (vr (7, 0)), none]) rfl (fun _ => Nat.le_of_ble_eq_true rfl) (fun _ => rfl) (fun X cx rq => ?_)
  refine g_aload_n cx dX4_readLine_0 rfl ?_
  refine g_fcallVv (As := []) (rest := []) cx knX4_nextToken (x_nextToken hX hE9 he) a7_0 rfl rfl lmX4_40 niX4_nextToken seX4_nextToken rfl (by decide) (Nat.le_of_ble_eq_true rfl) rfl dX4_readLine_1 ?_
  refine g_aload_n cx dX4_readLine_4 rfl ?_
  refine g_fcallV (As := []) (rest := []) cx knX4_wordHere (x_wordHere (SE.T hX) SE.s SE.e hpk.2 htk) a7_0 rfl rfl lmX4_46 niX4_wordHere seX4_wordHere rfl (by decide) (Nat.le_of_ble_eq_true rfl) rfl dX4_readLine_5 ?_
  refine g_top (y := nI 0) (by rw [hwo]; rfl) ?_
  refine g_istore_n (L' := [some (vr (7, 0)), some (vi (nI 0))]) cx dX4_readLine_8 (by decide) rfl rfl ?_
  refine g_iload_n cx dX4_readLine_9 rfl ?_
  refine g_tabIn (off := 60) (tgt := 70) cx dX4_readLine_10 (by decide) (by decide) (by decide) (by decide) ?_
  refine g_aload_n cx dX4_readLine_70 rfl ?_
  refine g_callV (As := []) (rest := []) cx knX4_readHouse (x_rH_y hRs hy1) a7_0 rfl rfl lmX4_50 niX4_readHouse seX4_readHouse rfl (by decide) (Nat.le_of_ble_eq_true rfl) rfl dX4_readLine_71 (fun r0 E9 hp0 => ?_)
  obtain ⟨rfl, hQ⟩ := hp0
  show Gk X mX4_readLine idsA 74 [some (vr (7, 0)), some (vi (nI 0))] [vi (nI 1)] E9
  exact g_ret cx rq rfl (by rfl) dX4_readLine_74 ⟨rfl, hQ⟩

set_option maxRecDepth 100000 in
set_option maxHeartbeats 4000000 in
theorem x_ln_n0 {D E : Wd} {t : Nat → Nat} {len : Nat} {R : RS} {T : TL} {e : Nat} (hR : RKx D E t len R T e) (hwo : wOf t (tkP t len e) (tkE t len (tkP t len e)) = some 0) (hno : NumN t len 3 8 (tkP t len (tkE t len (tkP t len e))) (tkE t len (tkP t len (tkE t len (tkP t len e))))) : Mok mX4_readLine idsA 6 [vr (7, 0)] E (fun r' E' => r' = (some (vi (nI 0))) ∧ (RKx D E' t len R T (tkE t len (tkP t len (tkE t len (tkP t len e)))) ∧ E' (7, 0) 4 = nI (tkP t len (tkE t len (tkP t len e))))) := by
  obtain ⟨hX, ⟨hE9, he⟩, ⟨⟨hn3, hn8, hN, hK, hF, hd3, hDn, hDr, hp5, hPn⟩, hH, hPl, hpp⟩, hFr⟩ := id hR
  have hpk := tkP_ok (t := t) he
  have htk := tkE_ok (t := t) hpk.2
  have hRs := hR.se (p := tkP t len e) htk.2.1
  refine Mok.of (L := [some (vr (7, 0)), none]) rfl (fun _ => Nat.le_of_ble_eq_true rfl) (fun _ => rfl) (fun X cx rq => ?_)
  refine g_aload_n cx dX4_readLine_0 rfl ?_
  refine g_fcallVv (As := []) (rest := []) cx knX4_nextToken (x_nextToken hX hE9 he) a7_0 rfl rfl lmX4_40 niX4_nextToken seX4_nextToken rfl (by decide) (Nat.le_of_ble_eq_true rfl) rfl dX4_readLine_1 ?_
  refine g_aload_n cx dX4_readLine_4 rfl ?_
  refine g_fcallV (As := []) (rest := []) cx knX4_wordHere (x_wordHere (SE.T hX) SE.s SE.e hpk.2 htk) a7_0 rfl rfl lmX4_46 niX4_wordHere seX4_wordHere rfl (by decide) (Nat.le_of_ble_eq_true rfl) rfl dX4_readLine_5 ?_
  refine g_top (y := nI 0) (by rw [hwo]; rfl) ?_
  refine g_istore_n (L' := [some (vr (7, 0)), some (vi (nI 0))]) cx dX4_readLine_8 (by decide) rfl rfl ?_
  refine g_iload_n cx dX4_readLine_9 rfl ?_
  refine g_tabIn (off := 60) (tgt := 70) cx dX4_readLine_10 (by decide) (by decide) (by decide) (by decide) ?_
  refine g_aload_n cx dX4_readLine_70 rfl ?_
  refine g_callV (As := []) (rest := []) cx knX4_readHouse (x_rH_n hRs hno) a7_0 rfl rfl lmX4_50 niX4_readHouse seX4_readHouse rfl (by decide) (Nat.le_of_ble_eq_true rfl) rfl dX4_readLine_71 (fun r0 E9 hp0 => ?_)
  obtain ⟨rfl, hQ⟩ := hp0
  show Gk X mX4_readLine idsA 74 [some (vr (7, 0)), some (vi (nI 0))] [vi (nI 0)] E9
  exact g_ret cx rq rfl (by rfl) dX4_readLine_74 ⟨rfl, hQ⟩

set_option maxRecDepth 100000 in
set_option maxHeartbeats 4000000 in
theorem x_ln_y2 {D E : Wd} {t : Nat → Nat} {len : Nat} {R : RS} {T : TL} {e : Nat} (hR : RKx D E t len R T e) (hwo : wOf t (tkP t len e) (tkE t len (tkP t len e)) = some 2) {a : Nat} (hy1 : NumY t len 0 (R.1 - 1) (tkP t len (tkE t len (tkP t len e))) (tkE t len (tkP t len (tkE t len (tkP t len e)))) a) : Mok mX4_readLine idsA 6 [vr (7, 0)] E (fun r' E' => r' = (some (vi (nI 1))) ∧ RKx D E' t len (goR R 2 a 0) (tlR T 2 a) (tkE t len (tkP t len (tkE t len (tkP t len e))))) := by
  obtain ⟨hX, ⟨hE9, he⟩, ⟨⟨hn3, hn8, hN, hK, hF, hd3, hDn, hDr, hp5, hPn⟩, hH, hPl, hpp⟩, hFr⟩ := id hR
  have hpk := tkP_ok (t := t) he
  have htk := tkE_ok (t := t) hpk.2
  have hRs := hR.se (p := tkP t len e) htk.2.1
  refine Mok.of (L := [some (vr (7, 0)), none]) rfl (fun _ => Nat.le_of_ble_eq_true rfl) (fun _ => rfl) (fun X cx rq => ?_)
  refine g_aload_n cx dX4_readLine_0 rfl ?_
  refine g_fcallVv (As := []) (rest := []) cx knX4_nextToken (x_nextToken hX hE9 he) a7_0 rfl rfl lmX4_40 niX4_nextToken seX4_nextToken rfl (by decide) (Nat.le_of_ble_eq_true rfl) rfl dX4_readLine_1 ?_
  refine g_aload_n cx dX4_readLine_4 rfl ?_
  refine g_fcallV (As := []) (rest := []) cx knX4_wordHere (x_wordHere (SE.T hX) SE.s SE.e hpk.2 htk) a7_0 rfl rfl lmX4_46 niX4_wordHere seX4_wordHere rfl (by decide) (Nat.le_of_ble_eq_true rfl) rfl dX4_readLine_5 ?_
  refine g_top (y := nI 2) (by rw [hwo]; rfl) ?_
  refine g_istore_n (L' := [some (vr (7, 0)), some (vi (nI 2))]) cx dX4_readLine_8 (by decide) rfl rfl ?_
  refine g_iload_n cx dX4_readLine_9 rfl ?_
  refine g_tabIn (off := 95) (tgt := 105) cx dX4_readLine_10 (by decide) (by decide) (by decide) (by decide) ?_
  refine g_aload_n cx dX4_readLine_105 rfl ?_
  refine g_iload_n cx dX4_readLine_106 rfl ?_
  refine g_iconst (v := nI 2) cx dX4_readLine_107 (by decide) ?_
  refine g_isubN cx dX4_readLine_108 (by omega) ?_
  refine g_callV (As := [vi (nI (2 - 2))]) (rest := []) cx knX4_readKind (x_rK_y hRs (w := 2 - 2) (by decide) hy1) a7_0 rfl rfl lmX4_68 niX4_readKind seX4_readKind rfl (by decide) (Nat.le_of_ble_eq_true rfl) rfl dX4_readLine_109 (fun r0 E9 hp0 => ?_)
  obtain ⟨rfl, hQ⟩ := hp0
  show Gk X mX4_readLine idsA 112 [some (vr (7, 0)), some (vi (nI 2))] [vi (nI 1)] E9
  exact g_ret cx rq rfl (by rfl) dX4_readLine_112 ⟨rfl, hQ⟩

set_option maxRecDepth 100000 in
set_option maxHeartbeats 4000000 in
theorem x_ln_n2 {D E : Wd} {t : Nat → Nat} {len : Nat} {R : RS} {T : TL} {e : Nat} (hR : RKx D E t len R T e) (hwo : wOf t (tkP t len e) (tkE t len (tkP t len e)) = some 2) (hno : NumN t len 0 (R.1 - 1) (tkP t len (tkE t len (tkP t len e))) (tkE t len (tkP t len (tkE t len (tkP t len e))))) : Mok mX4_readLine idsA 6 [vr (7, 0)] E (fun r' E' => r' = (some (vi (nI 0))) ∧ (RKx D E' t len R T (tkE t len (tkP t len (tkE t len (tkP t len e)))) ∧ E' (7, 0) 4 = nI (tkP t len (tkE t len (tkP t len e))))) := by
  obtain ⟨hX, ⟨hE9, he⟩, ⟨⟨hn3, hn8, hN, hK, hF, hd3, hDn, hDr, hp5, hPn⟩, hH, hPl, hpp⟩, hFr⟩ := id hR
  have hpk := tkP_ok (t := t) he
  have htk := tkE_ok (t := t) hpk.2
  have hRs := hR.se (p := tkP t len e) htk.2.1
  refine Mok.of (L := [some (vr (7, 0)), none]) rfl (fun _ => Nat.le_of_ble_eq_true rfl) (fun _ => rfl) (fun X cx rq => ?_)
  refine g_aload_n cx dX4_readLine_0 rfl ?_
  refine g_fcallVv (As := []) (rest := []) cx knX4_nextToken (x_nextToken hX hE9 he) a7_0 rfl rfl lmX4_40 niX4_nextToken seX4_nextToken rfl (by decide) (Nat.le_of_ble_eq_true rfl) rfl dX4_readLine_1 ?_
  refine g_aload_n cx dX4_readLine_4 rfl ?_
  refine g_fcallV (As := []) (rest := []) cx knX4_wordHere (x_wordHere (SE.T hX) SE.s SE.e hpk.2 htk) a7_0 rfl rfl lmX4_46 niX4_wordHere seX4_wordHere rfl (by decide) (Nat.le_of_ble_eq_true rfl) rfl dX4_readLine_5 ?_
  refine g_top (y := nI 2) (by rw [hwo]; rfl) ?_
  refine g_istore_n (L' := [some (vr (7, 0)), some (vi (nI 2))]) cx dX4_readLine_8 (by decide) rfl rfl ?_
  refine g_iload_n cx dX4_readLine_9 rfl ?_
  refine g_tabIn (off := 95) (tgt := 105) cx dX4_readLine_10 (by decide) (by decide) (by decide) (by decide) ?_
  refine g_aload_n cx dX4_readLine_105 rfl ?_
  refine g_iload_n cx dX4_readLine_106 rfl ?_
  refine g_iconst (v := nI 2) cx dX4_readLine_107 (by decide) ?_
  refine g_isubN cx dX4_readLine_108 (by omega) ?_
  refine g_callV (As := [vi (nI (2 - 2))]) (rest := []) cx knX4_readKind (x_rK_n hRs (w := 2 - 2) hno) a7_0 rfl rfl lmX4_68 niX4_readKind seX4_readKind rfl (by decide) (Nat.le_of_ble_eq_true rfl) rfl dX4_readLine_109 (fun r0 E9 hp0 => ?_)
  obtain ⟨rfl, hQ⟩ := hp0
  show Gk X mX4_readLine idsA 112 [some (vr (7, 0)), some (vi (nI 2))] [vi (nI 0)] E9
  exact g_ret cx rq rfl (by rfl) dX4_readLine_112 ⟨rfl, hQ⟩

set_option maxRecDepth 100000 in
set_option maxHeartbeats 4000000 in
theorem x_ln_y3 {D E : Wd} {t : Nat → Nat} {len : Nat} {R : RS} {T : TL} {e : Nat} (hR : RKx D E t len R T e) (hwo : wOf t (tkP t len e) (tkE t len (tkP t len e)) = some 3) {a : Nat} (hy1 : NumY t len 0 (R.1 - 1) (tkP t len (tkE t len (tkP t len e))) (tkE t len (tkP t len (tkE t len (tkP t len e)))) a) : Mok mX4_readLine idsA 6 [vr (7, 0)] E (fun r' E' => r' = (some (vi (nI 1))) ∧ RKx D E' t len (goR R 3 a 0) (tlR T 3 a) (tkE t len (tkP t len (tkE t len (tkP t len e))))) := by
  obtain ⟨hX, ⟨hE9, he⟩, ⟨⟨hn3, hn8, hN, hK, hF, hd3, hDn, hDr, hp5, hPn⟩, hH, hPl, hpp⟩, hFr⟩ := id hR
  have hpk := tkP_ok (t := t) he
  have htk := tkE_ok (t := t) hpk.2
  have hRs := hR.se (p := tkP t len e) htk.2.1
  refine Mok.of (L := [some (vr (7, 0)), none]) rfl (fun _ => Nat.le_of_ble_eq_true rfl) (fun _ => rfl) (fun X cx rq => ?_)
  refine g_aload_n cx dX4_readLine_0 rfl ?_
  refine g_fcallVv (As := []) (rest := []) cx knX4_nextToken (x_nextToken hX hE9 he) a7_0 rfl rfl lmX4_40 niX4_nextToken seX4_nextToken rfl (by decide) (Nat.le_of_ble_eq_true rfl) rfl dX4_readLine_1 ?_
  refine g_aload_n cx dX4_readLine_4 rfl ?_
  refine g_fcallV (As := []) (rest := []) cx knX4_wordHere (x_wordHere (SE.T hX) SE.s SE.e hpk.2 htk) a7_0 rfl rfl lmX4_46 niX4_wordHere seX4_wordHere rfl (by decide) (Nat.le_of_ble_eq_true rfl) rfl dX4_readLine_5 ?_
  refine g_top (y := nI 3) (by rw [hwo]; rfl) ?_
  refine g_istore_n (L' := [some (vr (7, 0)), some (vi (nI 3))]) cx dX4_readLine_8 (by decide) rfl rfl ?_
  refine g_iload_n cx dX4_readLine_9 rfl ?_
  refine g_tabIn (off := 95) (tgt := 105) cx dX4_readLine_10 (by decide) (by decide) (by decide) (by decide) ?_
  refine g_aload_n cx dX4_readLine_105 rfl ?_
  refine g_iload_n cx dX4_readLine_106 rfl ?_
  refine g_iconst (v := nI 2) cx dX4_readLine_107 (by decide) ?_
  refine g_isubN cx dX4_readLine_108 (by omega) ?_
  refine g_callV (As := [vi (nI (3 - 2))]) (rest := []) cx knX4_readKind (x_rK_y hRs (w := 3 - 2) (by decide) hy1) a7_0 rfl rfl lmX4_68 niX4_readKind seX4_readKind rfl (by decide) (Nat.le_of_ble_eq_true rfl) rfl dX4_readLine_109 (fun r0 E9 hp0 => ?_)
  obtain ⟨rfl, hQ⟩ := hp0
  show Gk X mX4_readLine idsA 112 [some (vr (7, 0)), some (vi (nI 3))] [vi (nI 1)] E9
  exact g_ret cx rq rfl (by rfl) dX4_readLine_112 ⟨rfl, hQ⟩

set_option maxRecDepth 100000 in
set_option maxHeartbeats 4000000 in
theorem x_ln_n3 {D E : Wd} {t : Nat → Nat} {len : Nat} {R : RS} {T : TL} {e : Nat} (hR : RKx D E t len R T e) (hwo : wOf t (tkP t len e) (tkE t len (tkP t len e)) = some 3) (hno : NumN t len 0 (R.1 - 1) (tkP t len (tkE t len (tkP t len e))) (tkE t len (tkP t len (tkE t len (tkP t len e))))) : Mok mX4_readLine idsA 6 [vr (7, 0)] E (fun r' E' => r' = (some (vi (nI 0))) ∧ (RKx D E' t len R T (tkE t len (tkP t len (tkE t len (tkP t len e)))) ∧ E' (7, 0) 4 = nI (tkP t len (tkE t len (tkP t len e))))) := by
  obtain ⟨hX, ⟨hE9, he⟩, ⟨⟨hn3, hn8, hN, hK, hF, hd3, hDn, hDr, hp5, hPn⟩, hH, hPl, hpp⟩, hFr⟩ := id hR
  have hpk := tkP_ok (t := t) he
  have htk := tkE_ok (t := t) hpk.2
  have hRs := hR.se (p := tkP t len e) htk.2.1
  refine Mok.of (L := [some (vr (7, 0)), none]) rfl (fun _ => Nat.le_of_ble_eq_true rfl) (fun _ => rfl) (fun X cx rq => ?_)
  refine g_aload_n cx dX4_readLine_0 rfl ?_
  refine g_fcallVv (As := []) (rest := []) cx knX4_nextToken (x_nextToken hX hE9 he) a7_0 rfl rfl lmX4_40 niX4_nextToken seX4_nextToken rfl (by decide) (Nat.le_of_ble_eq_true rfl) rfl dX4_readLine_1 ?_
  refine g_aload_n cx dX4_readLine_4 rfl ?_
  refine g_fcallV (As := []) (rest := []) cx knX4_wordHere (x_wordHere (SE.T hX) SE.s SE.e hpk.2 htk) a7_0 rfl rfl lmX4_46 niX4_wordHere seX4_wordHere rfl (by decide) (Nat.le_of_ble_eq_true rfl) rfl dX4_readLine_5 ?_
  refine g_top (y := nI 3) (by rw [hwo]; rfl) ?_
  refine g_istore_n (L' := [some (vr (7, 0)), some (vi (nI 3))]) cx dX4_readLine_8 (by decide) rfl rfl ?_
  refine g_iload_n cx dX4_readLine_9 rfl ?_
  refine g_tabIn (off := 95) (tgt := 105) cx dX4_readLine_10 (by decide) (by decide) (by decide) (by decide) ?_
  refine g_aload_n cx dX4_readLine_105 rfl ?_
  refine g_iload_n cx dX4_readLine_106 rfl ?_
  refine g_iconst (v := nI 2) cx dX4_readLine_107 (by decide) ?_
  refine g_isubN cx dX4_readLine_108 (by omega) ?_
  refine g_callV (As := [vi (nI (3 - 2))]) (rest := []) cx knX4_readKind (x_rK_n hRs (w := 3 - 2) hno) a7_0 rfl rfl lmX4_68 niX4_readKind seX4_readKind rfl (by decide) (Nat.le_of_ble_eq_true rfl) rfl dX4_readLine_109 (fun r0 E9 hp0 => ?_)
  obtain ⟨rfl, hQ⟩ := hp0
  show Gk X mX4_readLine idsA 112 [some (vr (7, 0)), some (vi (nI 3))] [vi (nI 0)] E9
  exact g_ret cx rq rfl (by rfl) dX4_readLine_112 ⟨rfl, hQ⟩

set_option maxRecDepth 100000 in
set_option maxHeartbeats 4000000 in
theorem x_ln_y4 {D E : Wd} {t : Nat → Nat} {len : Nat} {R : RS} {T : TL} {e : Nat} (hR : RKx D E t len R T e) (hwo : wOf t (tkP t len e) (tkE t len (tkP t len e)) = some 4) {a : Nat} (hy1 : NumY t len 0 (R.1 - 1) (tkP t len (tkE t len (tkP t len e))) (tkE t len (tkP t len (tkE t len (tkP t len e)))) a) : Mok mX4_readLine idsA 6 [vr (7, 0)] E (fun r' E' => r' = (some (vi (nI 1))) ∧ RKx D E' t len (goR R 4 a 0) (tlR T 4 a) (tkE t len (tkP t len (tkE t len (tkP t len e))))) := by
  obtain ⟨hX, ⟨hE9, he⟩, ⟨⟨hn3, hn8, hN, hK, hF, hd3, hDn, hDr, hp5, hPn⟩, hH, hPl, hpp⟩, hFr⟩ := id hR
  have hpk := tkP_ok (t := t) he
  have htk := tkE_ok (t := t) hpk.2
  have hRs := hR.se (p := tkP t len e) htk.2.1
  refine Mok.of (L := [some (vr (7, 0)), none]) rfl (fun _ => Nat.le_of_ble_eq_true rfl) (fun _ => rfl) (fun X cx rq => ?_)
  refine g_aload_n cx dX4_readLine_0 rfl ?_
  refine g_fcallVv (As := []) (rest := []) cx knX4_nextToken (x_nextToken hX hE9 he) a7_0 rfl rfl lmX4_40 niX4_nextToken seX4_nextToken rfl (by decide) (Nat.le_of_ble_eq_true rfl) rfl dX4_readLine_1 ?_
  refine g_aload_n cx dX4_readLine_4 rfl ?_
  refine g_fcallV (As := []) (rest := []) cx knX4_wordHere (x_wordHere (SE.T hX) SE.s SE.e hpk.2 htk) a7_0 rfl rfl lmX4_46 niX4_wordHere seX4_wordHere rfl (by decide) (Nat.le_of_ble_eq_true rfl) rfl dX4_readLine_5 ?_
  refine g_top (y := nI 4) (by rw [hwo]; rfl) ?_
  refine g_istore_n (L' := [some (vr (7, 0)), some (vi (nI 4))]) cx dX4_readLine_8 (by decide) rfl rfl ?_
  refine g_iload_n cx dX4_readLine_9 rfl ?_
  refine g_tabIn (off := 95) (tgt := 105) cx dX4_readLine_10 (by decide) (by decide) (by decide) (by decide) ?_
  refine g_aload_n cx dX4_readLine_105 rfl ?_
  refine g_iload_n cx dX4_readLine_106 rfl ?_
  refine g_iconst (v := nI 2) cx dX4_readLine_107 (by decide) ?_
  refine g_isubN cx dX4_readLine_108 (by omega) ?_
  refine g_callV (As := [vi (nI (4 - 2))]) (rest := []) cx knX4_readKind (x_rK_y hRs (w := 4 - 2) (by decide) hy1) a7_0 rfl rfl lmX4_68 niX4_readKind seX4_readKind rfl (by decide) (Nat.le_of_ble_eq_true rfl) rfl dX4_readLine_109 (fun r0 E9 hp0 => ?_)
  obtain ⟨rfl, hQ⟩ := hp0
  show Gk X mX4_readLine idsA 112 [some (vr (7, 0)), some (vi (nI 4))] [vi (nI 1)] E9
  exact g_ret cx rq rfl (by rfl) dX4_readLine_112 ⟨rfl, hQ⟩

set_option maxRecDepth 100000 in
set_option maxHeartbeats 4000000 in
theorem x_ln_n4 {D E : Wd} {t : Nat → Nat} {len : Nat} {R : RS} {T : TL} {e : Nat} (hR : RKx D E t len R T e) (hwo : wOf t (tkP t len e) (tkE t len (tkP t len e)) = some 4) (hno : NumN t len 0 (R.1 - 1) (tkP t len (tkE t len (tkP t len e))) (tkE t len (tkP t len (tkE t len (tkP t len e))))) : Mok mX4_readLine idsA 6 [vr (7, 0)] E (fun r' E' => r' = (some (vi (nI 0))) ∧ (RKx D E' t len R T (tkE t len (tkP t len (tkE t len (tkP t len e)))) ∧ E' (7, 0) 4 = nI (tkP t len (tkE t len (tkP t len e))))) := by
  obtain ⟨hX, ⟨hE9, he⟩, ⟨⟨hn3, hn8, hN, hK, hF, hd3, hDn, hDr, hp5, hPn⟩, hH, hPl, hpp⟩, hFr⟩ := id hR
  have hpk := tkP_ok (t := t) he
  have htk := tkE_ok (t := t) hpk.2
  have hRs := hR.se (p := tkP t len e) htk.2.1
  refine Mok.of (L := [some (vr (7, 0)), none]) rfl (fun _ => Nat.le_of_ble_eq_true rfl) (fun _ => rfl) (fun X cx rq => ?_)
  refine g_aload_n cx dX4_readLine_0 rfl ?_
  refine g_fcallVv (As := []) (rest := []) cx knX4_nextToken (x_nextToken hX hE9 he) a7_0 rfl rfl lmX4_40 niX4_nextToken seX4_nextToken rfl (by decide) (Nat.le_of_ble_eq_true rfl) rfl dX4_readLine_1 ?_
  refine g_aload_n cx dX4_readLine_4 rfl ?_
  refine g_fcallV (As := []) (rest := []) cx knX4_wordHere (x_wordHere (SE.T hX) SE.s SE.e hpk.2 htk) a7_0 rfl rfl lmX4_46 niX4_wordHere seX4_wordHere rfl (by decide) (Nat.le_of_ble_eq_true rfl) rfl dX4_readLine_5 ?_
  refine g_top (y := nI 4) (by rw [hwo]; rfl) ?_
  refine g_istore_n (L' := [some (vr (7, 0)), some (vi (nI 4))]) cx dX4_readLine_8 (by decide) rfl rfl ?_
  refine g_iload_n cx dX4_readLine_9 rfl ?_
  refine g_tabIn (off := 95) (tgt := 105) cx dX4_readLine_10 (by decide) (by decide) (by decide) (by decide) ?_
  refine g_aload_n cx dX4_readLine_105 rfl ?_
  refine g_iload_n cx dX4_readLine_106 rfl ?_
  refine g_iconst (v := nI 2) cx dX4_readLine_107 (by decide) ?_
  refine g_isubN cx dX4_readLine_108 (by omega) ?_
  refine g_callV (As := [vi (nI (4 - 2))]) (rest := []) cx knX4_readKind (x_rK_n hRs (w := 4 - 2) hno) a7_0 rfl rfl lmX4_68 niX4_readKind seX4_readKind rfl (by decide) (Nat.le_of_ble_eq_true rfl) rfl dX4_readLine_109 (fun r0 E9 hp0 => ?_)
  obtain ⟨rfl, hQ⟩ := hp0
  show Gk X mX4_readLine idsA 112 [some (vr (7, 0)), some (vi (nI 4))] [vi (nI 0)] E9
  exact g_ret cx rq rfl (by rfl) dX4_readLine_112 ⟨rfl, hQ⟩

set_option maxRecDepth 100000 in
set_option maxHeartbeats 4000000 in
theorem x_ln_y5 {D E : Wd} {t : Nat → Nat} {len : Nat} {R : RS} {T : TL} {e : Nat} (hR : RKx D E t len R T e) (hwo : wOf t (tkP t len e) (tkE t len (tkP t len e)) = some 5) {a : Nat} (hy1 : NumY t len 0 (R.1 - 1) (tkP t len (tkE t len (tkP t len e))) (tkE t len (tkP t len (tkE t len (tkP t len e)))) a) : Mok mX4_readLine idsA 6 [vr (7, 0)] E (fun r' E' => r' = (some (vi (nI 1))) ∧ RKx D E' t len (goR R 5 a 0) (tlR T 5 a) (tkE t len (tkP t len (tkE t len (tkP t len e))))) := by
  obtain ⟨hX, ⟨hE9, he⟩, ⟨⟨hn3, hn8, hN, hK, hF, hd3, hDn, hDr, hp5, hPn⟩, hH, hPl, hpp⟩, hFr⟩ := id hR
  have hpk := tkP_ok (t := t) he
  have htk := tkE_ok (t := t) hpk.2
  have hRs := hR.se (p := tkP t len e) htk.2.1
  refine Mok.of (L := [some (vr (7, 0)), none]) rfl (fun _ => Nat.le_of_ble_eq_true rfl) (fun _ => rfl) (fun X cx rq => ?_)
  refine g_aload_n cx dX4_readLine_0 rfl ?_
  refine g_fcallVv (As := []) (rest := []) cx knX4_nextToken (x_nextToken hX hE9 he) a7_0 rfl rfl lmX4_40 niX4_nextToken seX4_nextToken rfl (by decide) (Nat.le_of_ble_eq_true rfl) rfl dX4_readLine_1 ?_
  refine g_aload_n cx dX4_readLine_4 rfl ?_
  refine g_fcallV (As := []) (rest := []) cx knX4_wordHere (x_wordHere (SE.T hX) SE.s SE.e hpk.2 htk) a7_0 rfl rfl lmX4_46 niX4_wordHere seX4_wordHere rfl (by decide) (Nat.le_of_ble_eq_true rfl) rfl dX4_readLine_5 ?_
  refine g_top (y := nI 5) (by rw [hwo]; rfl) ?_
  refine g_istore_n (L' := [some (vr (7, 0)), some (vi (nI 5))]) cx dX4_readLine_8 (by decide) rfl rfl ?_
  refine g_iload_n cx dX4_readLine_9 rfl ?_
  refine g_tabIn (off := 95) (tgt := 105) cx dX4_readLine_10 (by decide) (by decide) (by decide) (by decide) ?_
  refine g_aload_n cx dX4_readLine_105 rfl ?_
  refine g_iload_n cx dX4_readLine_106 rfl ?_
  refine g_iconst (v := nI 2) cx dX4_readLine_107 (by decide) ?_
  refine g_isubN cx dX4_readLine_108 (by omega) ?_
  refine g_callV (As := [vi (nI (5 - 2))]) (rest := []) cx knX4_readKind (x_rK_y hRs (w := 5 - 2) (by decide) hy1) a7_0 rfl rfl lmX4_68 niX4_readKind seX4_readKind rfl (by decide) (Nat.le_of_ble_eq_true rfl) rfl dX4_readLine_109 (fun r0 E9 hp0 => ?_)
  obtain ⟨rfl, hQ⟩ := hp0
  show Gk X mX4_readLine idsA 112 [some (vr (7, 0)), some (vi (nI 5))] [vi (nI 1)] E9
  exact g_ret cx rq rfl (by rfl) dX4_readLine_112 ⟨rfl, hQ⟩

set_option maxRecDepth 100000 in
set_option maxHeartbeats 4000000 in
theorem x_ln_n5 {D E : Wd} {t : Nat → Nat} {len : Nat} {R : RS} {T : TL} {e : Nat} (hR : RKx D E t len R T e) (hwo : wOf t (tkP t len e) (tkE t len (tkP t len e)) = some 5) (hno : NumN t len 0 (R.1 - 1) (tkP t len (tkE t len (tkP t len e))) (tkE t len (tkP t len (tkE t len (tkP t len e))))) : Mok mX4_readLine idsA 6 [vr (7, 0)] E (fun r' E' => r' = (some (vi (nI 0))) ∧ (RKx D E' t len R T (tkE t len (tkP t len (tkE t len (tkP t len e)))) ∧ E' (7, 0) 4 = nI (tkP t len (tkE t len (tkP t len e))))) := by
  obtain ⟨hX, ⟨hE9, he⟩, ⟨⟨hn3, hn8, hN, hK, hF, hd3, hDn, hDr, hp5, hPn⟩, hH, hPl, hpp⟩, hFr⟩ := id hR
  have hpk := tkP_ok (t := t) he
  have htk := tkE_ok (t := t) hpk.2
  have hRs := hR.se (p := tkP t len e) htk.2.1
  refine Mok.of (L := [some (vr (7, 0)), none]) rfl (fun _ => Nat.le_of_ble_eq_true rfl) (fun _ => rfl) (fun X cx rq => ?_)
  refine g_aload_n cx dX4_readLine_0 rfl ?_
  refine g_fcallVv (As := []) (rest := []) cx knX4_nextToken (x_nextToken hX hE9 he) a7_0 rfl rfl lmX4_40 niX4_nextToken seX4_nextToken rfl (by decide) (Nat.le_of_ble_eq_true rfl) rfl dX4_readLine_1 ?_
  refine g_aload_n cx dX4_readLine_4 rfl ?_
  refine g_fcallV (As := []) (rest := []) cx knX4_wordHere (x_wordHere (SE.T hX) SE.s SE.e hpk.2 htk) a7_0 rfl rfl lmX4_46 niX4_wordHere seX4_wordHere rfl (by decide) (Nat.le_of_ble_eq_true rfl) rfl dX4_readLine_5 ?_
  refine g_top (y := nI 5) (by rw [hwo]; rfl) ?_
  refine g_istore_n (L' := [some (vr (7, 0)), some (vi (nI 5))]) cx dX4_readLine_8 (by decide) rfl rfl ?_
  refine g_iload_n cx dX4_readLine_9 rfl ?_
  refine g_tabIn (off := 95) (tgt := 105) cx dX4_readLine_10 (by decide) (by decide) (by decide) (by decide) ?_
  refine g_aload_n cx dX4_readLine_105 rfl ?_
  refine g_iload_n cx dX4_readLine_106 rfl ?_
  refine g_iconst (v := nI 2) cx dX4_readLine_107 (by decide) ?_
  refine g_isubN cx dX4_readLine_108 (by omega) ?_
  refine g_callV (As := [vi (nI (5 - 2))]) (rest := []) cx knX4_readKind (x_rK_n hRs (w := 5 - 2) hno) a7_0 rfl rfl lmX4_68 niX4_readKind seX4_readKind rfl (by decide) (Nat.le_of_ble_eq_true rfl) rfl dX4_readLine_109 (fun r0 E9 hp0 => ?_)
  obtain ⟨rfl, hQ⟩ := hp0
  show Gk X mX4_readLine idsA 112 [some (vr (7, 0)), some (vi (nI 5))] [vi (nI 0)] E9
  exact g_ret cx rq rfl (by rfl) dX4_readLine_112 ⟨rfl, hQ⟩

set_option maxRecDepth 100000 in
set_option maxHeartbeats 4000000 in
theorem x_ln_y8 {D E : Wd} {t : Nat → Nat} {len : Nat} {R : RS} {T : TL} {e : Nat} (hR : RKx D E t len R T e) (hwo : wOf t (tkP t len e) (tkE t len (tkP t len e)) = some 8) (hp4 : T.2.1 < 5) {a : Nat} (hy1 : NumY t len 0 (R.1 - 1) (tkP t len (tkE t len (tkP t len e))) (tkE t len (tkP t len (tkE t len (tkP t len e)))) a) : Mok mX4_readLine idsA 6 [vr (7, 0)] E (fun r' E' => r' = (some (vi (nI 1))) ∧ RKx D E' t len (goR R 8 a 0) (tlR T 8 a) (tkE t len (tkP t len (tkE t len (tkP t len e))))) := by
  obtain ⟨hX, ⟨hE9, he⟩, ⟨⟨hn3, hn8, hN, hK, hF, hd3, hDn, hDr, hp5, hPn⟩, hH, hPl, hpp⟩, hFr⟩ := id hR
  have hpk := tkP_ok (t := t) he
  have htk := tkE_ok (t := t) hpk.2
  have hRs := hR.se (p := tkP t len e) htk.2.1
  refine Mok.of (L := [some (vr (7, 0)), none]) rfl (fun _ => Nat.le_of_ble_eq_true rfl) (fun _ => rfl) (fun X cx rq => ?_)
  refine g_aload_n cx dX4_readLine_0 rfl ?_
  refine g_fcallVv (As := []) (rest := []) cx knX4_nextToken (x_nextToken hX hE9 he) a7_0 rfl rfl lmX4_40 niX4_nextToken seX4_nextToken rfl (by decide) (Nat.le_of_ble_eq_true rfl) rfl dX4_readLine_1 ?_
  refine g_aload_n cx dX4_readLine_4 rfl ?_
  refine g_fcallV (As := []) (rest := []) cx knX4_wordHere (x_wordHere (SE.T hX) SE.s SE.e hpk.2 htk) a7_0 rfl rfl lmX4_46 niX4_wordHere seX4_wordHere rfl (by decide) (Nat.le_of_ble_eq_true rfl) rfl dX4_readLine_5 ?_
  refine g_top (y := nI 8) (by rw [hwo]; rfl) ?_
  refine g_istore_n (L' := [some (vr (7, 0)), some (vi (nI 8))]) cx dX4_readLine_8 (by decide) rfl rfl ?_
  refine g_iload_n cx dX4_readLine_9 rfl ?_
  refine g_tabIn (off := 80) (tgt := 90) cx dX4_readLine_10 (by decide) (by decide) (by decide) (by decide) ?_
  refine g_aload_n cx dX4_readLine_90 rfl ?_
  refine g_callV (As := []) (rest := []) cx knX4_readPerson (x_rP_y hRs hp4 hy1) a7_0 rfl rfl lmX4_62 niX4_readPerson seX4_readPerson rfl (by decide) (Nat.le_of_ble_eq_true rfl) rfl dX4_readLine_91 (fun r0 E9 hp0 => ?_)
  obtain ⟨rfl, hQ⟩ := hp0
  show Gk X mX4_readLine idsA 94 [some (vr (7, 0)), some (vi (nI 8))] [vi (nI 1)] E9
  exact g_ret cx rq rfl (by rfl) dX4_readLine_94 ⟨rfl, hQ⟩

set_option maxRecDepth 100000 in
set_option maxHeartbeats 4000000 in
theorem x_ln_n8 {D E : Wd} {t : Nat → Nat} {len : Nat} {R : RS} {T : TL} {e : Nat} (hR : RKx D E t len R T e) (hwo : wOf t (tkP t len e) (tkE t len (tkP t len e)) = some 8) (hp4 : T.2.1 < 5) (hno : NumN t len 0 (R.1 - 1) (tkP t len (tkE t len (tkP t len e))) (tkE t len (tkP t len (tkE t len (tkP t len e))))) : Mok mX4_readLine idsA 6 [vr (7, 0)] E (fun r' E' => r' = (some (vi (nI 0))) ∧ (RKx D E' t len R T (tkE t len (tkP t len (tkE t len (tkP t len e)))) ∧ E' (7, 0) 4 = nI (tkP t len (tkE t len (tkP t len e))))) := by
  obtain ⟨hX, ⟨hE9, he⟩, ⟨⟨hn3, hn8, hN, hK, hF, hd3, hDn, hDr, hp5, hPn⟩, hH, hPl, hpp⟩, hFr⟩ := id hR
  have hpk := tkP_ok (t := t) he
  have htk := tkE_ok (t := t) hpk.2
  have hRs := hR.se (p := tkP t len e) htk.2.1
  refine Mok.of (L := [some (vr (7, 0)), none]) rfl (fun _ => Nat.le_of_ble_eq_true rfl) (fun _ => rfl) (fun X cx rq => ?_)
  refine g_aload_n cx dX4_readLine_0 rfl ?_
  refine g_fcallVv (As := []) (rest := []) cx knX4_nextToken (x_nextToken hX hE9 he) a7_0 rfl rfl lmX4_40 niX4_nextToken seX4_nextToken rfl (by decide) (Nat.le_of_ble_eq_true rfl) rfl dX4_readLine_1 ?_
  refine g_aload_n cx dX4_readLine_4 rfl ?_
  refine g_fcallV (As := []) (rest := []) cx knX4_wordHere (x_wordHere (SE.T hX) SE.s SE.e hpk.2 htk) a7_0 rfl rfl lmX4_46 niX4_wordHere seX4_wordHere rfl (by decide) (Nat.le_of_ble_eq_true rfl) rfl dX4_readLine_5 ?_
  refine g_top (y := nI 8) (by rw [hwo]; rfl) ?_
  refine g_istore_n (L' := [some (vr (7, 0)), some (vi (nI 8))]) cx dX4_readLine_8 (by decide) rfl rfl ?_
  refine g_iload_n cx dX4_readLine_9 rfl ?_
  refine g_tabIn (off := 80) (tgt := 90) cx dX4_readLine_10 (by decide) (by decide) (by decide) (by decide) ?_
  refine g_aload_n cx dX4_readLine_90 rfl ?_
  refine g_callV (As := []) (rest := []) cx knX4_readPerson (x_rP_n hRs hp4 hno) a7_0 rfl rfl lmX4_62 niX4_readPerson seX4_readPerson rfl (by decide) (Nat.le_of_ble_eq_true rfl) rfl dX4_readLine_91 (fun r0 E9 hp0 => ?_)
  obtain ⟨rfl, hQ⟩ := hp0
  show Gk X mX4_readLine idsA 94 [some (vr (7, 0)), some (vi (nI 8))] [vi (nI 0)] E9
  exact g_ret cx rq rfl (by rfl) dX4_readLine_94 ⟨rfl, hQ⟩

set_option maxRecDepth 100000 in
set_option maxHeartbeats 4000000 in
theorem x_ln_f8 {D E : Wd} {t : Nat → Nat} {len : Nat} {R : RS} {T : TL} {e : Nat} (hR : RKx D E t len R T e) (hwo : wOf t (tkP t len e) (tkE t len (tkP t len e)) = some 8) (hp4 : T.2.1 = 5) : Mok mX4_readLine idsA 6 [vr (7, 0)] E (fun r' E' => r' = (some (vi (nI 0))) ∧ (RKx D E' t len R T (tkE t len (tkP t len e)) ∧ E' (7, 0) 4 = nI (tkP t len e))) := by
  obtain ⟨hX, ⟨hE9, he⟩, ⟨⟨hn3, hn8, hN, hK, hF, hd3, hDn, hDr, hp5, hPn⟩, hH, hPl, hpp⟩, hFr⟩ := id hR
  have hpk := tkP_ok (t := t) he
  have htk := tkE_ok (t := t) hpk.2
  have hRs := hR.se (p := tkP t len e) htk.2.1
  refine Mok.of (L := [some (vr (7, 0)), none]) rfl (fun _ => Nat.le_of_ble_eq_true rfl) (fun _ => rfl) (fun X cx rq => ?_)
  refine g_aload_n cx dX4_readLine_0 rfl ?_
  refine g_fcallVv (As := []) (rest := []) cx knX4_nextToken (x_nextToken hX hE9 he) a7_0 rfl rfl lmX4_40 niX4_nextToken seX4_nextToken rfl (by decide) (Nat.le_of_ble_eq_true rfl) rfl dX4_readLine_1 ?_
  refine g_aload_n cx dX4_readLine_4 rfl ?_
  refine g_fcallV (As := []) (rest := []) cx knX4_wordHere (x_wordHere (SE.T hX) SE.s SE.e hpk.2 htk) a7_0 rfl rfl lmX4_46 niX4_wordHere seX4_wordHere rfl (by decide) (Nat.le_of_ble_eq_true rfl) rfl dX4_readLine_5 ?_
  refine g_top (y := nI 8) (by rw [hwo]; rfl) ?_
  refine g_istore_n (L' := [some (vr (7, 0)), some (vi (nI 8))]) cx dX4_readLine_8 (by decide) rfl rfl ?_
  refine g_iload_n cx dX4_readLine_9 rfl ?_
  refine g_tabIn (off := 80) (tgt := 90) cx dX4_readLine_10 (by decide) (by decide) (by decide) (by decide) ?_
  refine g_aload_n cx dX4_readLine_90 rfl ?_
  refine g_fcallV (As := []) (rest := []) cx knX4_readPerson (x_rP_f hRs hp4) a7_0 rfl rfl lmX4_62 niX4_readPerson seX4_readPerson rfl (by decide) (Nat.le_of_ble_eq_true rfl) rfl dX4_readLine_91 ?_
  exact g_ret cx rq rfl (by rfl) dX4_readLine_94 ⟨rfl, ⟨hRs, SE.s⟩⟩

set_option maxRecDepth 100000 in
set_option maxHeartbeats 4000000 in
theorem x_ln_y7 {D E : Wd} {t : Nat → Nat} {len : Nat} {R : RS} {T : TL} {e : Nat} (hR : RKx D E t len R T e) (hwo : wOf t (tkP t len e) (tkE t len (tkP t len e)) = some 7) {a : Nat} (hy1 : NumY t len 0 71 (tkP t len (tkE t len (tkP t len e))) (tkE t len (tkP t len (tkE t len (tkP t len e)))) a) (hnd : newD R a = true) : Mok mX4_readLine idsA 6 [vr (7, 0)] E (fun r' E' => r' = (some (vi (nI 1))) ∧ RKx D E' t len (goR R 7 a 0) (tlR T 7 a) (tkE t len (tkP t len (tkE t len (tkP t len e))))) := by
  obtain ⟨hX, ⟨hE9, he⟩, ⟨⟨hn3, hn8, hN, hK, hF, hd3, hDn, hDr, hp5, hPn⟩, hH, hPl, hpp⟩, hFr⟩ := id hR
  have hpk := tkP_ok (t := t) he
  have htk := tkE_ok (t := t) hpk.2
  have hRs := hR.se (p := tkP t len e) htk.2.1
  refine Mok.of (L := [some (vr (7, 0)), none]) rfl (fun _ => Nat.le_of_ble_eq_true rfl) (fun _ => rfl) (fun X cx rq => ?_)
  refine g_aload_n cx dX4_readLine_0 rfl ?_
  refine g_fcallVv (As := []) (rest := []) cx knX4_nextToken (x_nextToken hX hE9 he) a7_0 rfl rfl lmX4_40 niX4_nextToken seX4_nextToken rfl (by decide) (Nat.le_of_ble_eq_true rfl) rfl dX4_readLine_1 ?_
  refine g_aload_n cx dX4_readLine_4 rfl ?_
  refine g_fcallV (As := []) (rest := []) cx knX4_wordHere (x_wordHere (SE.T hX) SE.s SE.e hpk.2 htk) a7_0 rfl rfl lmX4_46 niX4_wordHere seX4_wordHere rfl (by decide) (Nat.le_of_ble_eq_true rfl) rfl dX4_readLine_5 ?_
  refine g_top (y := nI 7) (by rw [hwo]; rfl) ?_
  refine g_istore_n (L' := [some (vr (7, 0)), some (vi (nI 7))]) cx dX4_readLine_8 (by decide) rfl rfl ?_
  refine g_iload_n cx dX4_readLine_9 rfl ?_
  refine g_tabIn (off := 75) (tgt := 85) cx dX4_readLine_10 (by decide) (by decide) (by decide) (by decide) ?_
  refine g_aload_n cx dX4_readLine_85 rfl ?_
  refine g_callV (As := []) (rest := []) cx knX4_readDoor (x_rD_y hRs hy1 hnd) a7_0 rfl rfl lmX4_59 niX4_readDoor seX4_readDoor rfl (by decide) (Nat.le_of_ble_eq_true rfl) rfl dX4_readLine_86 (fun r0 E9 hp0 => ?_)
  obtain ⟨rfl, hQ⟩ := hp0
  show Gk X mX4_readLine idsA 89 [some (vr (7, 0)), some (vi (nI 7))] [vi (nI 1)] E9
  exact g_ret cx rq rfl (by rfl) dX4_readLine_89 ⟨rfl, hQ⟩

set_option maxRecDepth 100000 in
set_option maxHeartbeats 4000000 in
theorem x_ln_n17 {D E : Wd} {t : Nat → Nat} {len : Nat} {R : RS} {T : TL} {e : Nat} (hR : RKx D E t len R T e) (hwo : wOf t (tkP t len e) (tkE t len (tkP t len e)) = some 7) (hno : NumN t len 0 71 (tkP t len (tkE t len (tkP t len e))) (tkE t len (tkP t len (tkE t len (tkP t len e))))) : Mok mX4_readLine idsA 6 [vr (7, 0)] E (fun r' E' => r' = (some (vi (nI 0))) ∧ (RKx D E' t len R T (tkE t len (tkP t len (tkE t len (tkP t len e)))) ∧ E' (7, 0) 4 = nI (tkP t len (tkE t len (tkP t len e))))) := by
  obtain ⟨hX, ⟨hE9, he⟩, ⟨⟨hn3, hn8, hN, hK, hF, hd3, hDn, hDr, hp5, hPn⟩, hH, hPl, hpp⟩, hFr⟩ := id hR
  have hpk := tkP_ok (t := t) he
  have htk := tkE_ok (t := t) hpk.2
  have hRs := hR.se (p := tkP t len e) htk.2.1
  refine Mok.of (L := [some (vr (7, 0)), none]) rfl (fun _ => Nat.le_of_ble_eq_true rfl) (fun _ => rfl) (fun X cx rq => ?_)
  refine g_aload_n cx dX4_readLine_0 rfl ?_
  refine g_fcallVv (As := []) (rest := []) cx knX4_nextToken (x_nextToken hX hE9 he) a7_0 rfl rfl lmX4_40 niX4_nextToken seX4_nextToken rfl (by decide) (Nat.le_of_ble_eq_true rfl) rfl dX4_readLine_1 ?_
  refine g_aload_n cx dX4_readLine_4 rfl ?_
  refine g_fcallV (As := []) (rest := []) cx knX4_wordHere (x_wordHere (SE.T hX) SE.s SE.e hpk.2 htk) a7_0 rfl rfl lmX4_46 niX4_wordHere seX4_wordHere rfl (by decide) (Nat.le_of_ble_eq_true rfl) rfl dX4_readLine_5 ?_
  refine g_top (y := nI 7) (by rw [hwo]; rfl) ?_
  refine g_istore_n (L' := [some (vr (7, 0)), some (vi (nI 7))]) cx dX4_readLine_8 (by decide) rfl rfl ?_
  refine g_iload_n cx dX4_readLine_9 rfl ?_
  refine g_tabIn (off := 75) (tgt := 85) cx dX4_readLine_10 (by decide) (by decide) (by decide) (by decide) ?_
  refine g_aload_n cx dX4_readLine_85 rfl ?_
  refine g_callV (As := []) (rest := []) cx knX4_readDoor (x_rD_n1 hRs hno) a7_0 rfl rfl lmX4_59 niX4_readDoor seX4_readDoor rfl (by decide) (Nat.le_of_ble_eq_true rfl) rfl dX4_readLine_86 (fun r0 E9 hp0 => ?_)
  obtain ⟨rfl, hQ⟩ := hp0
  show Gk X mX4_readLine idsA 89 [some (vr (7, 0)), some (vi (nI 7))] [vi (nI 0)] E9
  exact g_ret cx rq rfl (by rfl) dX4_readLine_89 ⟨rfl, hQ⟩

set_option maxRecDepth 100000 in
set_option maxHeartbeats 4000000 in
theorem x_ln_n27 {D E : Wd} {t : Nat → Nat} {len : Nat} {R : RS} {T : TL} {e : Nat} (hR : RKx D E t len R T e) (hwo : wOf t (tkP t len e) (tkE t len (tkP t len e)) = some 7) {a : Nat} (hy1 : NumY t len 0 71 (tkP t len (tkE t len (tkP t len e))) (tkE t len (tkP t len (tkE t len (tkP t len e)))) a) (hnd : newD R a = false) : Mok mX4_readLine idsA 6 [vr (7, 0)] E (fun r' E' => r' = (some (vi (nI 0))) ∧ (RKx D E' t len R T (tkE t len (tkP t len (tkE t len (tkP t len e)))) ∧ E' (7, 0) 4 = nI (tkP t len (tkE t len (tkP t len e))))) := by
  obtain ⟨hX, ⟨hE9, he⟩, ⟨⟨hn3, hn8, hN, hK, hF, hd3, hDn, hDr, hp5, hPn⟩, hH, hPl, hpp⟩, hFr⟩ := id hR
  have hpk := tkP_ok (t := t) he
  have htk := tkE_ok (t := t) hpk.2
  have hRs := hR.se (p := tkP t len e) htk.2.1
  refine Mok.of (L := [some (vr (7, 0)), none]) rfl (fun _ => Nat.le_of_ble_eq_true rfl) (fun _ => rfl) (fun X cx rq => ?_)
  refine g_aload_n cx dX4_readLine_0 rfl ?_
  refine g_fcallVv (As := []) (rest := []) cx knX4_nextToken (x_nextToken hX hE9 he) a7_0 rfl rfl lmX4_40 niX4_nextToken seX4_nextToken rfl (by decide) (Nat.le_of_ble_eq_true rfl) rfl dX4_readLine_1 ?_
  refine g_aload_n cx dX4_readLine_4 rfl ?_
  refine g_fcallV (As := []) (rest := []) cx knX4_wordHere (x_wordHere (SE.T hX) SE.s SE.e hpk.2 htk) a7_0 rfl rfl lmX4_46 niX4_wordHere seX4_wordHere rfl (by decide) (Nat.le_of_ble_eq_true rfl) rfl dX4_readLine_5 ?_
  refine g_top (y := nI 7) (by rw [hwo]; rfl) ?_
  refine g_istore_n (L' := [some (vr (7, 0)), some (vi (nI 7))]) cx dX4_readLine_8 (by decide) rfl rfl ?_
  refine g_iload_n cx dX4_readLine_9 rfl ?_
  refine g_tabIn (off := 75) (tgt := 85) cx dX4_readLine_10 (by decide) (by decide) (by decide) (by decide) ?_
  refine g_aload_n cx dX4_readLine_85 rfl ?_
  refine g_callV (As := []) (rest := []) cx knX4_readDoor (x_rD_n2 hRs hy1 hnd) a7_0 rfl rfl lmX4_59 niX4_readDoor seX4_readDoor rfl (by decide) (Nat.le_of_ble_eq_true rfl) rfl dX4_readLine_86 (fun r0 E9 hp0 => ?_)
  obtain ⟨rfl, hQ⟩ := hp0
  show Gk X mX4_readLine idsA 89 [some (vr (7, 0)), some (vi (nI 7))] [vi (nI 0)] E9
  exact g_ret cx rq rfl (by rfl) dX4_readLine_89 ⟨rfl, hQ⟩

set_option maxRecDepth 100000 in
set_option maxHeartbeats 4000000 in
theorem x_ln_y1 {D E : Wd} {t : Nat → Nat} {len : Nat} {R : RS} {T : TL} {e : Nat} (hR : RKx D E t len R T e) (hwo : wOf t (tkP t len e) (tkE t len (tkP t len e)) = some 1) {a : Nat} (hy1 : NumY t len 0 (R.1 - 1) (tkP t len (tkE t len (tkP t len e))) (tkE t len (tkP t len (tkE t len (tkP t len e)))) a) {c : Nat} (hy2 : NumY t len 0 71 (tkP t len (tkE t len (tkP t len (tkE t len (tkP t len e))))) (tkE t len (tkP t len (tkE t len (tkP t len (tkE t len (tkP t len e)))))) c) (hcs : R.2.2.1 (bf R.1 a) + 1 ≤ onN (R.2.1 (bf R.1 a)) c ∧ onN (R.2.1 (bf R.1 a)) c + (R.2.2.1 a + 1) ≤ wid R.1 R.2.1 (bf R.1 a) + wid R.1 R.2.1 a) : Mok mX4_readLine idsA 6 [vr (7, 0)] E (fun r' E' => r' = (some (vi (nI 1))) ∧ RKx D E' t len (goR R 1 a c) (tlR T 1 a) (tkE t len (tkP t len (tkE t len (tkP t len (tkE t len (tkP t len e))))))) := by
  obtain ⟨hX, ⟨hE9, he⟩, ⟨⟨hn3, hn8, hN, hK, hF, hd3, hDn, hDr, hp5, hPn⟩, hH, hPl, hpp⟩, hFr⟩ := id hR
  have hpk := tkP_ok (t := t) he
  have htk := tkE_ok (t := t) hpk.2
  have hRs := hR.se (p := tkP t len e) htk.2.1
  refine Mok.of (L := [some (vr (7, 0)), none]) rfl (fun _ => Nat.le_of_ble_eq_true rfl) (fun _ => rfl) (fun X cx rq => ?_)
  refine g_aload_n cx dX4_readLine_0 rfl ?_
  refine g_fcallVv (As := []) (rest := []) cx knX4_nextToken (x_nextToken hX hE9 he) a7_0 rfl rfl lmX4_40 niX4_nextToken seX4_nextToken rfl (by decide) (Nat.le_of_ble_eq_true rfl) rfl dX4_readLine_1 ?_
  refine g_aload_n cx dX4_readLine_4 rfl ?_
  refine g_fcallV (As := []) (rest := []) cx knX4_wordHere (x_wordHere (SE.T hX) SE.s SE.e hpk.2 htk) a7_0 rfl rfl lmX4_46 niX4_wordHere seX4_wordHere rfl (by decide) (Nat.le_of_ble_eq_true rfl) rfl dX4_readLine_5 ?_
  refine g_top (y := nI 1) (by rw [hwo]; rfl) ?_
  refine g_istore_n (L' := [some (vr (7, 0)), some (vi (nI 1))]) cx dX4_readLine_8 (by decide) rfl rfl ?_
  refine g_iload_n cx dX4_readLine_9 rfl ?_
  refine g_tabIn (off := 65) (tgt := 75) cx dX4_readLine_10 (by decide) (by decide) (by decide) (by decide) ?_
  refine g_aload_n cx dX4_readLine_75 rfl ?_
  refine g_callV (As := []) (rest := []) cx knX4_readLeaf (x_rL_y hRs hy1 hy2 hcs) a7_0 rfl rfl lmX4_53 niX4_readLeaf seX4_readLeaf rfl (by decide) (Nat.le_of_ble_eq_true rfl) rfl dX4_readLine_76 (fun r0 E9 hp0 => ?_)
  obtain ⟨rfl, hQ⟩ := hp0
  show Gk X mX4_readLine idsA 79 [some (vr (7, 0)), some (vi (nI 1))] [vi (nI 1)] E9
  exact g_ret cx rq rfl (by rfl) dX4_readLine_79 ⟨rfl, hQ⟩

set_option maxRecDepth 100000 in
set_option maxHeartbeats 4000000 in
theorem x_ln_n11 {D E : Wd} {t : Nat → Nat} {len : Nat} {R : RS} {T : TL} {e : Nat} (hR : RKx D E t len R T e) (hwo : wOf t (tkP t len e) (tkE t len (tkP t len e)) = some 1) (hno : NumN t len 0 (R.1 - 1) (tkP t len (tkE t len (tkP t len e))) (tkE t len (tkP t len (tkE t len (tkP t len e))))) : Mok mX4_readLine idsA 6 [vr (7, 0)] E (fun r' E' => r' = (some (vi (nI 0))) ∧ (RKx D E' t len R T (tkE t len (tkP t len (tkE t len (tkP t len e)))) ∧ E' (7, 0) 4 = nI (tkP t len (tkE t len (tkP t len e))))) := by
  obtain ⟨hX, ⟨hE9, he⟩, ⟨⟨hn3, hn8, hN, hK, hF, hd3, hDn, hDr, hp5, hPn⟩, hH, hPl, hpp⟩, hFr⟩ := id hR
  have hpk := tkP_ok (t := t) he
  have htk := tkE_ok (t := t) hpk.2
  have hRs := hR.se (p := tkP t len e) htk.2.1
  refine Mok.of (L := [some (vr (7, 0)), none]) rfl (fun _ => Nat.le_of_ble_eq_true rfl) (fun _ => rfl) (fun X cx rq => ?_)
  refine g_aload_n cx dX4_readLine_0 rfl ?_
  refine g_fcallVv (As := []) (rest := []) cx knX4_nextToken (x_nextToken hX hE9 he) a7_0 rfl rfl lmX4_40 niX4_nextToken seX4_nextToken rfl (by decide) (Nat.le_of_ble_eq_true rfl) rfl dX4_readLine_1 ?_
  refine g_aload_n cx dX4_readLine_4 rfl ?_
  refine g_fcallV (As := []) (rest := []) cx knX4_wordHere (x_wordHere (SE.T hX) SE.s SE.e hpk.2 htk) a7_0 rfl rfl lmX4_46 niX4_wordHere seX4_wordHere rfl (by decide) (Nat.le_of_ble_eq_true rfl) rfl dX4_readLine_5 ?_
  refine g_top (y := nI 1) (by rw [hwo]; rfl) ?_
  refine g_istore_n (L' := [some (vr (7, 0)), some (vi (nI 1))]) cx dX4_readLine_8 (by decide) rfl rfl ?_
  refine g_iload_n cx dX4_readLine_9 rfl ?_
  refine g_tabIn (off := 65) (tgt := 75) cx dX4_readLine_10 (by decide) (by decide) (by decide) (by decide) ?_
  refine g_aload_n cx dX4_readLine_75 rfl ?_
  refine g_callV (As := []) (rest := []) cx knX4_readLeaf (x_rL_n1 hRs hno) a7_0 rfl rfl lmX4_53 niX4_readLeaf seX4_readLeaf rfl (by decide) (Nat.le_of_ble_eq_true rfl) rfl dX4_readLine_76 (fun r0 E9 hp0 => ?_)
  obtain ⟨rfl, hQ⟩ := hp0
  show Gk X mX4_readLine idsA 79 [some (vr (7, 0)), some (vi (nI 1))] [vi (nI 0)] E9
  exact g_ret cx rq rfl (by rfl) dX4_readLine_79 ⟨rfl, hQ⟩

set_option maxRecDepth 100000 in
set_option maxHeartbeats 4000000 in
theorem x_ln_n21 {D E : Wd} {t : Nat → Nat} {len : Nat} {R : RS} {T : TL} {e : Nat} (hR : RKx D E t len R T e) (hwo : wOf t (tkP t len e) (tkE t len (tkP t len e)) = some 1) {a : Nat} (hy1 : NumY t len 0 (R.1 - 1) (tkP t len (tkE t len (tkP t len e))) (tkE t len (tkP t len (tkE t len (tkP t len e)))) a) (hn2 : NumN t len 0 71 (tkP t len (tkE t len (tkP t len (tkE t len (tkP t len e))))) (tkE t len (tkP t len (tkE t len (tkP t len (tkE t len (tkP t len e))))))) : Mok mX4_readLine idsA 6 [vr (7, 0)] E (fun r' E' => r' = (some (vi (nI 0))) ∧ (RKx D E' t len R T (tkE t len (tkP t len (tkE t len (tkP t len (tkE t len (tkP t len e)))))) ∧ E' (7, 0) 4 = nI (tkP t len (tkE t len (tkP t len (tkE t len (tkP t len e))))))) := by
  obtain ⟨hX, ⟨hE9, he⟩, ⟨⟨hn3, hn8, hN, hK, hF, hd3, hDn, hDr, hp5, hPn⟩, hH, hPl, hpp⟩, hFr⟩ := id hR
  have hpk := tkP_ok (t := t) he
  have htk := tkE_ok (t := t) hpk.2
  have hRs := hR.se (p := tkP t len e) htk.2.1
  refine Mok.of (L := [some (vr (7, 0)), none]) rfl (fun _ => Nat.le_of_ble_eq_true rfl) (fun _ => rfl) (fun X cx rq => ?_)
  refine g_aload_n cx dX4_readLine_0 rfl ?_
  refine g_fcallVv (As := []) (rest := []) cx knX4_nextToken (x_nextToken hX hE9 he) a7_0 rfl rfl lmX4_40 niX4_nextToken seX4_nextToken rfl (by decide) (Nat.le_of_ble_eq_true rfl) rfl dX4_readLine_1 ?_
  refine g_aload_n cx dX4_readLine_4 rfl ?_
  refine g_fcallV (As := []) (rest := []) cx knX4_wordHere (x_wordHere (SE.T hX) SE.s SE.e hpk.2 htk) a7_0 rfl rfl lmX4_46 niX4_wordHere seX4_wordHere rfl (by decide) (Nat.le_of_ble_eq_true rfl) rfl dX4_readLine_5 ?_
  refine g_top (y := nI 1) (by rw [hwo]; rfl) ?_
  refine g_istore_n (L' := [some (vr (7, 0)), some (vi (nI 1))]) cx dX4_readLine_8 (by decide) rfl rfl ?_
  refine g_iload_n cx dX4_readLine_9 rfl ?_
  refine g_tabIn (off := 65) (tgt := 75) cx dX4_readLine_10 (by decide) (by decide) (by decide) (by decide) ?_
  refine g_aload_n cx dX4_readLine_75 rfl ?_
  refine g_callV (As := []) (rest := []) cx knX4_readLeaf (x_rL_n2 hRs hy1 hn2) a7_0 rfl rfl lmX4_53 niX4_readLeaf seX4_readLeaf rfl (by decide) (Nat.le_of_ble_eq_true rfl) rfl dX4_readLine_76 (fun r0 E9 hp0 => ?_)
  obtain ⟨rfl, hQ⟩ := hp0
  show Gk X mX4_readLine idsA 79 [some (vr (7, 0)), some (vi (nI 1))] [vi (nI 0)] E9
  exact g_ret cx rq rfl (by rfl) dX4_readLine_79 ⟨rfl, hQ⟩

set_option maxRecDepth 100000 in
set_option maxHeartbeats 4000000 in
theorem x_ln_n31 {D E : Wd} {t : Nat → Nat} {len : Nat} {R : RS} {T : TL} {e : Nat} (hR : RKx D E t len R T e) (hwo : wOf t (tkP t len e) (tkE t len (tkP t len e)) = some 1) {a : Nat} (hy1 : NumY t len 0 (R.1 - 1) (tkP t len (tkE t len (tkP t len e))) (tkE t len (tkP t len (tkE t len (tkP t len e)))) a) {c : Nat} (hy2 : NumY t len 0 71 (tkP t len (tkE t len (tkP t len (tkE t len (tkP t len e))))) (tkE t len (tkP t len (tkE t len (tkP t len (tkE t len (tkP t len e)))))) c) (hcs : ¬ (R.2.2.1 (bf R.1 a) + 1 ≤ onN (R.2.1 (bf R.1 a)) c ∧ onN (R.2.1 (bf R.1 a)) c + (R.2.2.1 a + 1) ≤ wid R.1 R.2.1 (bf R.1 a) + wid R.1 R.2.1 a)) : Mok mX4_readLine idsA 6 [vr (7, 0)] E (fun r' E' => r' = (some (vi (nI 0))) ∧ (RKx D E' t len R T (tkE t len (tkP t len (tkE t len (tkP t len (tkE t len (tkP t len e)))))) ∧ E' (7, 0) 4 = nI (tkP t len (tkE t len (tkP t len (tkE t len (tkP t len e))))))) := by
  obtain ⟨hX, ⟨hE9, he⟩, ⟨⟨hn3, hn8, hN, hK, hF, hd3, hDn, hDr, hp5, hPn⟩, hH, hPl, hpp⟩, hFr⟩ := id hR
  have hpk := tkP_ok (t := t) he
  have htk := tkE_ok (t := t) hpk.2
  have hRs := hR.se (p := tkP t len e) htk.2.1
  refine Mok.of (L := [some (vr (7, 0)), none]) rfl (fun _ => Nat.le_of_ble_eq_true rfl) (fun _ => rfl) (fun X cx rq => ?_)
  refine g_aload_n cx dX4_readLine_0 rfl ?_
  refine g_fcallVv (As := []) (rest := []) cx knX4_nextToken (x_nextToken hX hE9 he) a7_0 rfl rfl lmX4_40 niX4_nextToken seX4_nextToken rfl (by decide) (Nat.le_of_ble_eq_true rfl) rfl dX4_readLine_1 ?_
  refine g_aload_n cx dX4_readLine_4 rfl ?_
  refine g_fcallV (As := []) (rest := []) cx knX4_wordHere (x_wordHere (SE.T hX) SE.s SE.e hpk.2 htk) a7_0 rfl rfl lmX4_46 niX4_wordHere seX4_wordHere rfl (by decide) (Nat.le_of_ble_eq_true rfl) rfl dX4_readLine_5 ?_
  refine g_top (y := nI 1) (by rw [hwo]; rfl) ?_
  refine g_istore_n (L' := [some (vr (7, 0)), some (vi (nI 1))]) cx dX4_readLine_8 (by decide) rfl rfl ?_
  refine g_iload_n cx dX4_readLine_9 rfl ?_
  refine g_tabIn (off := 65) (tgt := 75) cx dX4_readLine_10 (by decide) (by decide) (by decide) (by decide) ?_
  refine g_aload_n cx dX4_readLine_75 rfl ?_
  refine g_callV (As := []) (rest := []) cx knX4_readLeaf (x_rL_n3 hRs hy1 hy2 hcs) a7_0 rfl rfl lmX4_53 niX4_readLeaf seX4_readLeaf rfl (by decide) (Nat.le_of_ble_eq_true rfl) rfl dX4_readLine_76 (fun r0 E9 hp0 => ?_)
  obtain ⟨rfl, hQ⟩ := hp0
  show Gk X mX4_readLine idsA 79 [some (vr (7, 0)), some (vi (nI 1))] [vi (nI 0)] E9
  exact g_ret cx rq rfl (by rfl) dX4_readLine_79 ⟨rfl, hQ⟩

set_option maxRecDepth 100000 in
set_option maxHeartbeats 4000000 in
theorem x_ln_y6 {D E : Wd} {t : Nat → Nat} {len : Nat} {R : RS} {T : TL} {e : Nat} (hR : RKx D E t len R T e) (hwo : wOf t (tkP t len e) (tkE t len (tkP t len e)) = some 6) {a : Nat} (hy1 : NumY t len 0 (R.1 - 1) (tkP t len (tkE t len (tkP t len e))) (tkE t len (tkP t len (tkE t len (tkP t len e)))) a) {c : Nat} (hy2 : NumY t len 0 20 (tkP t len (tkE t len (tkP t len (tkE t len (tkP t len e))))) (tkE t len (tkP t len (tkE t len (tkP t len (tkE t len (tkP t len e)))))) c) (hcw : c + 1 ≤ wid R.1 R.2.1 a) : Mok mX4_readLine idsA 6 [vr (7, 0)] E (fun r' E' => r' = (some (vi (nI 1))) ∧ RKx D E' t len (goR R 6 a c) (tlR T 6 a) (tkE t len (tkP t len (tkE t len (tkP t len (tkE t len (tkP t len e))))))) := by
  obtain ⟨hX, ⟨hE9, he⟩, ⟨⟨hn3, hn8, hN, hK, hF, hd3, hDn, hDr, hp5, hPn⟩, hH, hPl, hpp⟩, hFr⟩ := id hR
  have hpk := tkP_ok (t := t) he
  have htk := tkE_ok (t := t) hpk.2
  have hRs := hR.se (p := tkP t len e) htk.2.1
  refine Mok.of (L := [some (vr (7, 0)), none]) rfl (fun _ => Nat.le_of_ble_eq_true rfl) (fun _ => rfl) (fun X cx rq => ?_)
  refine g_aload_n cx dX4_readLine_0 rfl ?_
  refine g_fcallVv (As := []) (rest := []) cx knX4_nextToken (x_nextToken hX hE9 he) a7_0 rfl rfl lmX4_40 niX4_nextToken seX4_nextToken rfl (by decide) (Nat.le_of_ble_eq_true rfl) rfl dX4_readLine_1 ?_
  refine g_aload_n cx dX4_readLine_4 rfl ?_
  refine g_fcallV (As := []) (rest := []) cx knX4_wordHere (x_wordHere (SE.T hX) SE.s SE.e hpk.2 htk) a7_0 rfl rfl lmX4_46 niX4_wordHere seX4_wordHere rfl (by decide) (Nat.le_of_ble_eq_true rfl) rfl dX4_readLine_5 ?_
  refine g_top (y := nI 6) (by rw [hwo]; rfl) ?_
  refine g_istore_n (L' := [some (vr (7, 0)), some (vi (nI 6))]) cx dX4_readLine_8 (by decide) rfl rfl ?_
  refine g_iload_n cx dX4_readLine_9 rfl ?_
  refine g_tabIn (off := 70) (tgt := 80) cx dX4_readLine_10 (by decide) (by decide) (by decide) (by decide) ?_
  refine g_aload_n cx dX4_readLine_80 rfl ?_
  refine g_callV (As := []) (rest := []) cx knX4_readPut (x_rU_y hRs hy1 hy2 hcw) a7_0 rfl rfl lmX4_56 niX4_readPut seX4_readPut rfl (by decide) (Nat.le_of_ble_eq_true rfl) rfl dX4_readLine_81 (fun r0 E9 hp0 => ?_)
  obtain ⟨rfl, hQ⟩ := hp0
  show Gk X mX4_readLine idsA 84 [some (vr (7, 0)), some (vi (nI 6))] [vi (nI 1)] E9
  exact g_ret cx rq rfl (by rfl) dX4_readLine_84 ⟨rfl, hQ⟩

set_option maxRecDepth 100000 in
set_option maxHeartbeats 4000000 in
theorem x_ln_n16 {D E : Wd} {t : Nat → Nat} {len : Nat} {R : RS} {T : TL} {e : Nat} (hR : RKx D E t len R T e) (hwo : wOf t (tkP t len e) (tkE t len (tkP t len e)) = some 6) (hno : NumN t len 0 (R.1 - 1) (tkP t len (tkE t len (tkP t len e))) (tkE t len (tkP t len (tkE t len (tkP t len e))))) : Mok mX4_readLine idsA 6 [vr (7, 0)] E (fun r' E' => r' = (some (vi (nI 0))) ∧ (RKx D E' t len R T (tkE t len (tkP t len (tkE t len (tkP t len e)))) ∧ E' (7, 0) 4 = nI (tkP t len (tkE t len (tkP t len e))))) := by
  obtain ⟨hX, ⟨hE9, he⟩, ⟨⟨hn3, hn8, hN, hK, hF, hd3, hDn, hDr, hp5, hPn⟩, hH, hPl, hpp⟩, hFr⟩ := id hR
  have hpk := tkP_ok (t := t) he
  have htk := tkE_ok (t := t) hpk.2
  have hRs := hR.se (p := tkP t len e) htk.2.1
  refine Mok.of (L := [some (vr (7, 0)), none]) rfl (fun _ => Nat.le_of_ble_eq_true rfl) (fun _ => rfl) (fun X cx rq => ?_)
  refine g_aload_n cx dX4_readLine_0 rfl ?_
  refine g_fcallVv (As := []) (rest := []) cx knX4_nextToken (x_nextToken hX hE9 he) a7_0 rfl rfl lmX4_40 niX4_nextToken seX4_nextToken rfl (by decide) (Nat.le_of_ble_eq_true rfl) rfl dX4_readLine_1 ?_
  refine g_aload_n cx dX4_readLine_4 rfl ?_
  refine g_fcallV (As := []) (rest := []) cx knX4_wordHere (x_wordHere (SE.T hX) SE.s SE.e hpk.2 htk) a7_0 rfl rfl lmX4_46 niX4_wordHere seX4_wordHere rfl (by decide) (Nat.le_of_ble_eq_true rfl) rfl dX4_readLine_5 ?_
  refine g_top (y := nI 6) (by rw [hwo]; rfl) ?_
  refine g_istore_n (L' := [some (vr (7, 0)), some (vi (nI 6))]) cx dX4_readLine_8 (by decide) rfl rfl ?_
  refine g_iload_n cx dX4_readLine_9 rfl ?_
  refine g_tabIn (off := 70) (tgt := 80) cx dX4_readLine_10 (by decide) (by decide) (by decide) (by decide) ?_
  refine g_aload_n cx dX4_readLine_80 rfl ?_
  refine g_callV (As := []) (rest := []) cx knX4_readPut (x_rU_n1 hRs hno) a7_0 rfl rfl lmX4_56 niX4_readPut seX4_readPut rfl (by decide) (Nat.le_of_ble_eq_true rfl) rfl dX4_readLine_81 (fun r0 E9 hp0 => ?_)
  obtain ⟨rfl, hQ⟩ := hp0
  show Gk X mX4_readLine idsA 84 [some (vr (7, 0)), some (vi (nI 6))] [vi (nI 0)] E9
  exact g_ret cx rq rfl (by rfl) dX4_readLine_84 ⟨rfl, hQ⟩

set_option maxRecDepth 100000 in
set_option maxHeartbeats 4000000 in
theorem x_ln_n26 {D E : Wd} {t : Nat → Nat} {len : Nat} {R : RS} {T : TL} {e : Nat} (hR : RKx D E t len R T e) (hwo : wOf t (tkP t len e) (tkE t len (tkP t len e)) = some 6) {a : Nat} (hy1 : NumY t len 0 (R.1 - 1) (tkP t len (tkE t len (tkP t len e))) (tkE t len (tkP t len (tkE t len (tkP t len e)))) a) (hn2 : NumN t len 0 20 (tkP t len (tkE t len (tkP t len (tkE t len (tkP t len e))))) (tkE t len (tkP t len (tkE t len (tkP t len (tkE t len (tkP t len e))))))) : Mok mX4_readLine idsA 6 [vr (7, 0)] E (fun r' E' => r' = (some (vi (nI 0))) ∧ (RKx D E' t len R T (tkE t len (tkP t len (tkE t len (tkP t len (tkE t len (tkP t len e)))))) ∧ E' (7, 0) 4 = nI (tkP t len (tkE t len (tkP t len (tkE t len (tkP t len e))))))) := by
  obtain ⟨hX, ⟨hE9, he⟩, ⟨⟨hn3, hn8, hN, hK, hF, hd3, hDn, hDr, hp5, hPn⟩, hH, hPl, hpp⟩, hFr⟩ := id hR
  have hpk := tkP_ok (t := t) he
  have htk := tkE_ok (t := t) hpk.2
  have hRs := hR.se (p := tkP t len e) htk.2.1
  refine Mok.of (L := [some (vr (7, 0)), none]) rfl (fun _ => Nat.le_of_ble_eq_true rfl) (fun _ => rfl) (fun X cx rq => ?_)
  refine g_aload_n cx dX4_readLine_0 rfl ?_
  refine g_fcallVv (As := []) (rest := []) cx knX4_nextToken (x_nextToken hX hE9 he) a7_0 rfl rfl lmX4_40 niX4_nextToken seX4_nextToken rfl (by decide) (Nat.le_of_ble_eq_true rfl) rfl dX4_readLine_1 ?_
  refine g_aload_n cx dX4_readLine_4 rfl ?_
  refine g_fcallV (As := []) (rest := []) cx knX4_wordHere (x_wordHere (SE.T hX) SE.s SE.e hpk.2 htk) a7_0 rfl rfl lmX4_46 niX4_wordHere seX4_wordHere rfl (by decide) (Nat.le_of_ble_eq_true rfl) rfl dX4_readLine_5 ?_
  refine g_top (y := nI 6) (by rw [hwo]; rfl) ?_
  refine g_istore_n (L' := [some (vr (7, 0)), some (vi (nI 6))]) cx dX4_readLine_8 (by decide) rfl rfl ?_
  refine g_iload_n cx dX4_readLine_9 rfl ?_
  refine g_tabIn (off := 70) (tgt := 80) cx dX4_readLine_10 (by decide) (by decide) (by decide) (by decide) ?_
  refine g_aload_n cx dX4_readLine_80 rfl ?_
  refine g_callV (As := []) (rest := []) cx knX4_readPut (x_rU_n2 hRs hy1 hn2) a7_0 rfl rfl lmX4_56 niX4_readPut seX4_readPut rfl (by decide) (Nat.le_of_ble_eq_true rfl) rfl dX4_readLine_81 (fun r0 E9 hp0 => ?_)
  obtain ⟨rfl, hQ⟩ := hp0
  show Gk X mX4_readLine idsA 84 [some (vr (7, 0)), some (vi (nI 6))] [vi (nI 0)] E9
  exact g_ret cx rq rfl (by rfl) dX4_readLine_84 ⟨rfl, hQ⟩

set_option maxRecDepth 100000 in
set_option maxHeartbeats 4000000 in
theorem x_ln_n36 {D E : Wd} {t : Nat → Nat} {len : Nat} {R : RS} {T : TL} {e : Nat} (hR : RKx D E t len R T e) (hwo : wOf t (tkP t len e) (tkE t len (tkP t len e)) = some 6) {a : Nat} (hy1 : NumY t len 0 (R.1 - 1) (tkP t len (tkE t len (tkP t len e))) (tkE t len (tkP t len (tkE t len (tkP t len e)))) a) {c : Nat} (hy2 : NumY t len 0 20 (tkP t len (tkE t len (tkP t len (tkE t len (tkP t len e))))) (tkE t len (tkP t len (tkE t len (tkP t len (tkE t len (tkP t len e)))))) c) (hcw : ¬ c + 1 ≤ wid R.1 R.2.1 a) : Mok mX4_readLine idsA 6 [vr (7, 0)] E (fun r' E' => r' = (some (vi (nI 0))) ∧ (RKx D E' t len R T (tkE t len (tkP t len (tkE t len (tkP t len (tkE t len (tkP t len e)))))) ∧ E' (7, 0) 4 = nI (tkP t len (tkE t len (tkP t len (tkE t len (tkP t len e))))))) := by
  obtain ⟨hX, ⟨hE9, he⟩, ⟨⟨hn3, hn8, hN, hK, hF, hd3, hDn, hDr, hp5, hPn⟩, hH, hPl, hpp⟩, hFr⟩ := id hR
  have hpk := tkP_ok (t := t) he
  have htk := tkE_ok (t := t) hpk.2
  have hRs := hR.se (p := tkP t len e) htk.2.1
  refine Mok.of (L := [some (vr (7, 0)), none]) rfl (fun _ => Nat.le_of_ble_eq_true rfl) (fun _ => rfl) (fun X cx rq => ?_)
  refine g_aload_n cx dX4_readLine_0 rfl ?_
  refine g_fcallVv (As := []) (rest := []) cx knX4_nextToken (x_nextToken hX hE9 he) a7_0 rfl rfl lmX4_40 niX4_nextToken seX4_nextToken rfl (by decide) (Nat.le_of_ble_eq_true rfl) rfl dX4_readLine_1 ?_
  refine g_aload_n cx dX4_readLine_4 rfl ?_
  refine g_fcallV (As := []) (rest := []) cx knX4_wordHere (x_wordHere (SE.T hX) SE.s SE.e hpk.2 htk) a7_0 rfl rfl lmX4_46 niX4_wordHere seX4_wordHere rfl (by decide) (Nat.le_of_ble_eq_true rfl) rfl dX4_readLine_5 ?_
  refine g_top (y := nI 6) (by rw [hwo]; rfl) ?_
  refine g_istore_n (L' := [some (vr (7, 0)), some (vi (nI 6))]) cx dX4_readLine_8 (by decide) rfl rfl ?_
  refine g_iload_n cx dX4_readLine_9 rfl ?_
  refine g_tabIn (off := 70) (tgt := 80) cx dX4_readLine_10 (by decide) (by decide) (by decide) (by decide) ?_
  refine g_aload_n cx dX4_readLine_80 rfl ?_
  refine g_callV (As := []) (rest := []) cx knX4_readPut (x_rU_n3 hRs hy1 hy2 hcw) a7_0 rfl rfl lmX4_56 niX4_readPut seX4_readPut rfl (by decide) (Nat.le_of_ble_eq_true rfl) rfl dX4_readLine_81 (fun r0 E9 hp0 => ?_)
  obtain ⟨rfl, hQ⟩ := hp0
  show Gk X mX4_readLine idsA 84 [some (vr (7, 0)), some (vi (nI 6))] [vi (nI 0)] E9
  exact g_ret cx rq rfl (by rfl) dX4_readLine_84 ⟨rfl, hQ⟩

set_option maxRecDepth 100000 in
set_option maxHeartbeats 4000000 in
theorem x_ln_y9 {D E : Wd} {t : Nat → Nat} {len : Nat} {R : RS} {T : TL} {e : Nat} (hR : RKx D E t len R T e) (hwo : wOf t (tkP t len e) (tkE t len (tkP t len e)) = some 9) : Mok mX4_readLine idsA 6 [vr (7, 0)] E (fun r' E' => r' = (some (vi (nI 1))) ∧ RKx D E' t len (goR R 9 0 0) (tlR T 9 0) (tkE t len (tkP t len e))) := by
  obtain ⟨hX, ⟨hE9, he⟩, ⟨⟨hn3, hn8, hN, hK, hF, hd3, hDn, hDr, hp5, hPn⟩, hH, hPl, hpp⟩, hFr⟩ := id hR
  have hpk := tkP_ok (t := t) he
  have htk := tkE_ok (t := t) hpk.2
  have hRs := hR.se (p := tkP t len e) htk.2.1
  refine Mok.of (L := [some (vr (7, 0)), none]) rfl (fun _ => Nat.le_of_ble_eq_true rfl) (fun _ => rfl) (fun X cx rq => ?_)
  refine g_aload_n cx dX4_readLine_0 rfl ?_
  refine g_fcallVv (As := []) (rest := []) cx knX4_nextToken (x_nextToken hX hE9 he) a7_0 rfl rfl lmX4_40 niX4_nextToken seX4_nextToken rfl (by decide) (Nat.le_of_ble_eq_true rfl) rfl dX4_readLine_1 ?_
  refine g_aload_n cx dX4_readLine_4 rfl ?_
  refine g_fcallV (As := []) (rest := []) cx knX4_wordHere (x_wordHere (SE.T hX) SE.s SE.e hpk.2 htk) a7_0 rfl rfl lmX4_46 niX4_wordHere seX4_wordHere rfl (by decide) (Nat.le_of_ble_eq_true rfl) rfl dX4_readLine_5 ?_
  refine g_top (y := nI 9) (by rw [hwo]; rfl) ?_
  refine g_istore_n (L' := [some (vr (7, 0)), some (vi (nI 9))]) cx dX4_readLine_8 (by decide) rfl rfl ?_
  refine g_iload_n cx dX4_readLine_9 rfl ?_
  refine g_tabIn (off := 85) (tgt := 95) cx dX4_readLine_10 (by decide) (by decide) (by decide) (by decide) ?_
  refine g_aload_n cx dX4_readLine_95 rfl ?_
  refine g_getR (i := (7, 0)) (ci := 4) (k := 2) (j := (1, 1)) cx a7_0 rfl rfl rfl (by decide) inX4 lfX4_18 dX4_readLine_96 ?_
  refine g_iconst (v := nI 0) cx dX4_readLine_99 (by decide) ?_
  refine g_putI (i := (1, 1)) (ci := 1) (k := 6) cx a1_1 rfl rfl rfl (by decide) inX1 tyX1_ok nmX1 rfl rfl lfX4_65 dX4_readLine_100 ?_
  refine g_iconst (v := nI 1) cx dX4_readLine_103 (by decide) ?_
  exact g_ret cx rq rfl (by rfl) dX4_readLine_104 ⟨rfl, hRs.p (by decide) (by decide) hRs.2.2.1.em⟩

set_option maxRecDepth 100000 in
set_option maxHeartbeats 4000000 in
theorem x_ln_n {D E : Wd} {t : Nat → Nat} {len : Nat} {R : RS} {T : TL} {e : Nat} (hR : RKx D E t len R T e) (hwo : wOf t (tkP t len e) (tkE t len (tkP t len e)) = none) : Mok mX4_readLine idsA 6 [vr (7, 0)] E (fun r' E' => r' = (some (vi (nI 0))) ∧ (RKx D E' t len R T (tkE t len (tkP t len e)) ∧ E' (7, 0) 4 = nI (tkP t len e))) := by
  obtain ⟨hX, ⟨hE9, he⟩, ⟨⟨hn3, hn8, hN, hK, hF, hd3, hDn, hDr, hp5, hPn⟩, hH, hPl, hpp⟩, hFr⟩ := id hR
  have hpk := tkP_ok (t := t) he
  have htk := tkE_ok (t := t) hpk.2
  have hRs := hR.se (p := tkP t len e) htk.2.1
  refine Mok.of (L := [some (vr (7, 0)), none]) rfl (fun _ => Nat.le_of_ble_eq_true rfl) (fun _ => rfl) (fun X cx rq => ?_)
  refine g_aload_n cx dX4_readLine_0 rfl ?_
  refine g_fcallVv (As := []) (rest := []) cx knX4_nextToken (x_nextToken hX hE9 he) a7_0 rfl rfl lmX4_40 niX4_nextToken seX4_nextToken rfl (by decide) (Nat.le_of_ble_eq_true rfl) rfl dX4_readLine_1 ?_
  refine g_aload_n cx dX4_readLine_4 rfl ?_
  refine g_fcallV (As := []) (rest := []) cx knX4_wordHere (x_wordHere (SE.T hX) SE.s SE.e hpk.2 htk) a7_0 rfl rfl lmX4_46 niX4_wordHere seX4_wordHere rfl (by decide) (Nat.le_of_ble_eq_true rfl) rfl dX4_readLine_5 ?_
  refine g_top (y := (-1)) (by rw [hwo]; rfl) ?_
  refine g_istore_n (L' := [some (vr (7, 0)), some (vi (-1))]) cx dX4_readLine_8 (by decide) rfl rfl ?_
  refine g_iload_n cx dX4_readLine_9 rfl ?_
  refine g_tabIn (off := 58) (tgt := 68) cx dX4_readLine_10 (by decide) (by decide) (by decide) (by decide) ?_
  refine g_iconst (v := nI 0) cx dX4_readLine_68 (by decide) ?_
  exact g_ret cx rq rfl (by rfl) dX4_readLine_69 ⟨rfl, ⟨hRs, SE.s⟩⟩

/-- a line that stands -/
theorem x_lineY {D E : Wd} {t : Nat → Nat} {len : Nat} {R : RS} {T : TL} {e : Nat} (hR : RKx D E t len R T e) (hG : GeoS R) {w a b p' e' : Nat} (h : LineY t len R (tkP t len e) (tkE t len (tkP t len e)) w a b p' e') : Mok mX4_readLine idsA 6 [vr (7, 0)] E (fun r' E' => r' = some (vi (nI 1)) ∧ ∃ y, RKx D E' t len (goR R w a b) (tlR T w a) y ∧ p' = tkP t len y ∧ e' = tkE t len p') := by
  obtain ⟨hw, h8, hl⟩ := h
  have hpp := hR.2.2.1.2.2.2
  have h3 := hR.2.2.1.1.1
  have h88 := hR.2.2.1.1.2.1
  have hH : ∀ j, j < R.1 → R.2.1 j < 72 := fun j hj => (hR.2.2.1.2.1 j hj).2
  rcases hl with ⟨rfl, rfl, rfl, rfl, rfl⟩ | ⟨rfl, h1, rfl, rfl, rfl⟩ | ⟨hc, h1, rfl, rfl, rfl⟩ | ⟨rfl, h1, h2, rfl, rfl, rfl⟩ | ⟨rfl, h1, h2, h3', rfl, rfl⟩ | ⟨rfl, h1, h2, rfl, rfl⟩
  · exact Mok.imp (x_ln_y9 hR hw) (fun r D' q => ⟨q.1, _, q.2, rfl, rfl⟩)
  · exact Mok.imp (x_ln_y0 hR hw h1) (fun r D' q => ⟨q.1, _, q.2, rfl, rfl⟩)
  · rcases hc with (rfl | rfl) | (rfl | rfl) | rfl
    · exact Mok.imp (x_ln_y2 hR hw h1) (fun r D' q => ⟨q.1, _, q.2, rfl, rfl⟩)
    · exact Mok.imp (x_ln_y3 hR hw h1) (fun r D' q => ⟨q.1, _, q.2, rfl, rfl⟩)
    · exact Mok.imp (x_ln_y4 hR hw h1) (fun r D' q => ⟨q.1, _, q.2, rfl, rfl⟩)
    · exact Mok.imp (x_ln_y5 hR hw h1) (fun r D' q => ⟨q.1, _, q.2, rfl, rfl⟩)
    · exact Mok.imp (x_ln_y8 hR hw (by rw [← hpp]; exact h8 rfl) h1) (fun r D' q => ⟨q.1, _, q.2, rfl, rfl⟩)
  · exact Mok.imp (x_ln_y7 hR hw h1 h2) (fun r D' q => ⟨q.1, _, q.2, rfl, rfl⟩)
  · exact Mok.imp (x_ln_y1 hR hw h1 h2 ((fit_cs h3 h88 hH hG (by have := h1.2.2; omega) (by have := h2.2.2; omega)).mp h3')) (fun r D' q => ⟨q.1, _, q.2, rfl, rfl⟩)
  · have hp := put_y (hG.1 a (by have := h1.2.2; omega)) h2
    exact Mok.imp (x_ln_y6 hR hw h1 hp.1 hp.2) (fun r D' q => ⟨q.1, _, q.2, rfl, rfl⟩)
/-- a line with a fault -/
theorem x_lineN {D E : Wd} {t : Nat → Nat} {len : Nat} {R : RS} {T : TL} {e : Nat} (hR : RKx D E t len R T e) (hG : GeoS R) {p' e' : Nat} (h : LineN t len R (tkP t len e) (tkE t len (tkP t len e)) p' e') : Mok mX4_readLine idsA 6 [vr (7, 0)] E (fun r' E' => r' = some (vi (nI 0)) ∧ (FRx D E' ∧ E' (7, 0) 4 = nI p')) := by
  have hpp := hR.2.2.1.2.2.2
  have h3 := hR.2.2.1.1.1
  have h88 := hR.2.2.1.1.2.1
  have hH : ∀ j, j < R.1 → R.2.1 j < 72 := fun j hj => (hR.2.2.1.2.1 j hj).2
  rcases h with ⟨hw, rfl, rfl⟩ | ⟨hw, h5, rfl, rfl⟩ | ⟨w, hw, h8, hl⟩
  · exact Mok.imp (x_ln_n hR hw) (fun r D' q => ⟨q.1, q.2.1.2.2.2, q.2.2⟩)
  · exact Mok.imp (x_ln_f8 hR hw (by rw [← hpp]; exact h5)) (fun r D' q => ⟨q.1, q.2.1.2.2.2, q.2.2⟩)
  · rcases hl with ⟨rfl, h1, rfl, rfl⟩ | ⟨hc, h1, rfl, rfl⟩ | ⟨rfl, h1, rfl, rfl⟩ | ⟨hc, h1, rfl, rfl⟩ | ⟨rfl, ⟨a, h1, h2⟩, rfl, rfl⟩ | ⟨rfl, ⟨a, h1, h2⟩, rfl, rfl⟩
    · exact Mok.imp (x_ln_n0 hR hw h1) (fun r D' q => ⟨q.1, q.2.1.2.2.2, q.2.2⟩)
    · rcases hc with (rfl | rfl) | (rfl | rfl) | rfl
      · exact Mok.imp (x_ln_n2 hR hw h1) (fun r D' q => ⟨q.1, q.2.1.2.2.2, q.2.2⟩)
      · exact Mok.imp (x_ln_n3 hR hw h1) (fun r D' q => ⟨q.1, q.2.1.2.2.2, q.2.2⟩)
      · exact Mok.imp (x_ln_n4 hR hw h1) (fun r D' q => ⟨q.1, q.2.1.2.2.2, q.2.2⟩)
      · exact Mok.imp (x_ln_n5 hR hw h1) (fun r D' q => ⟨q.1, q.2.1.2.2.2, q.2.2⟩)
      · exact Mok.imp (x_ln_n8 hR hw (by rw [← hpp]; exact h8 rfl) h1) (fun r D' q => ⟨q.1, q.2.1.2.2.2, q.2.2⟩)
    · rcases h1 with h1 | ⟨v, h1, h2⟩
      · exact Mok.imp (x_ln_n17 hR hw h1) (fun r D' q => ⟨q.1, q.2.1.2.2.2, q.2.2⟩)
      · exact Mok.imp (x_ln_n27 hR hw h1 h2) (fun r D' q => ⟨q.1, q.2.1.2.2.2, q.2.2⟩)
    · rcases hc with rfl | rfl
      · exact Mok.imp (x_ln_n11 hR hw h1) (fun r D' q => ⟨q.1, q.2.1.2.2.2, q.2.2⟩)
      · exact Mok.imp (x_ln_n16 hR hw h1) (fun r D' q => ⟨q.1, q.2.1.2.2.2, q.2.2⟩)
    · rcases h2 with h2 | ⟨b, h2, hf⟩
      · exact Mok.imp (x_ln_n21 hR hw h1 h2) (fun r D' q => ⟨q.1, q.2.1.2.2.2, q.2.2⟩)
      · exact Mok.imp (x_ln_n31 hR hw h1 h2 (fun x => by have := (fit_cs h3 h88 hH hG (by have := h1.2.2; omega) (by have := h2.2.2; omega)).mpr x; rw [hf] at this; cases this)) (fun r D' q => ⟨q.1, q.2.1.2.2.2, q.2.2⟩)
    · rcases put_n (hG.1 a (by have := h1.2.2; omega)) h2 with hn | ⟨c, hy, hc⟩
      · exact Mok.imp (x_ln_n26 hR hw h1 hn) (fun r D' q => ⟨q.1, q.2.1.2.2.2, q.2.2⟩)
      · exact Mok.imp (x_ln_n36 hR hw h1 hy hc) (fun r D' q => ⟨q.1, q.2.1.2.2.2, q.2.2⟩)
