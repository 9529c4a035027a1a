theorem isD_n1 {t : Nat → Nat} {p e i : Nat} (h : e - p ≠ wls i) : ¬ isD t p e i = true := fun x => by
  unfold isD isW at x; rw [Bool.and_eq_true, decide_eq_true_eq] at x; exact h x.1
theorem isD_n2 {t : Nat → Nat} {p e i j : Nat} (hj : j < wls i) (h : ¬ t (p + j) = wbs i j) : ¬ isD t p e i = true := fun x => by
  unfold isD isW at x; rw [Bool.and_eq_true] at x
  have := allB_at x.2 j hj
  rw [decide_eq_true_eq] at this; exact h this
theorem allB_of {p : Nat → Bool} : ∀ n, (∀ j, j < n → p j = true) → allB p n = true
  | 0, _ => rfl
  | n + 1, h => by rw [allB, allB_of n (fun j hj => h j (by omega)), h n (by omega)]; rfl
theorem isD_y {t : Nat → Nat} {p e i : Nat} (h : e - p = wls i) (h2 : ∀ q, q < wls i → t (p + q) = wbs i q) : isD t p e i = true := by
  unfold isD isW; rw [Bool.and_eq_true, decide_eq_true_eq]; exact ⟨h, allB_of _ (fun j hj => by rw [decide_eq_true_eq]; exact h2 j hj)⟩
theorem wOf_none {t : Nat → Nat} {p e : Nat} (h : ∀ w, w < 10 → ¬ isD t p e w = true) : wOf t p e = none := by
  cases hq : wOf t p e with
  | none => rfl
  | some v => exact absurd (wOf_is hq) (h v (wOf_lt hq))
set_option maxRecDepth 100000 in
set_option maxHeartbeats 4000000 in
theorem s_coder {D : Wd} {i : Nat} (hi : i < 10) : Fok mJ0_coder_7d493 idsA 0 [vr (90, i)] D (some (vi (nI 0))) D := by
  refine Mok.of (L := [some (vr (90, i))]) rfl (fun _ => Nat.le_of_ble_eq_true rfl) (fun _ => rfl) (fun X cx rq => ?_)
  refine g_compact cx lfJ0_38 dJ0_coder_7d493_0 ?_
  refine g_if_eq (tgt := 13) cx dJ0_coder_7d493_3 (by decide) (fun h_3 => ?_) (fun h_3 => ?_)
  · skip
    exact absurd h_3 (by decide)
  · skip
    refine g_aload_n cx dJ0_coder_7d493_6 rfl ?_
    refine g_kcod cx (hi) lfJ0_15 dJ0_coder_7d493_7 ?_
    refine g_goto (tgt := 14) cx dJ0_coder_7d493_10 (by decide) ?_
    exact g_fret cx rq rfl (by rfl) dJ0_coder_7d493_14 (rfl) (rfl)

set_option maxRecDepth 100000 in
set_option maxHeartbeats 4000000 in
theorem s_length {D : Wd} {i : Nat} (hi : i < 10) : Fok mJ0_length_8abf5 idsA 1 [vr (90, i)] D (some (vi (nI (wls i)))) D := by
  refine Mok.of (L := [some (vr (90, i))]) rfl (fun _ => Nat.le_of_ble_eq_true rfl) (fun _ => rfl) (fun X cx rq => ?_)
  refine g_aload_n cx dJ0_length_8abf5_0 rfl ?_
  refine g_kval cx (hi) lfJ0_9 dJ0_length_8abf5_1 ?_
  refine g_klen cx (hi) dJ0_length_8abf5_4 ?_
  refine g_aload_n cx dJ0_length_8abf5_5 rfl ?_
  refine g_fcallK (As := []) (rest := [vi (nI (wls i))]) cx knJ0_coder_7d493 (s_coder hi) rfl (hi) lmJ0_335 niJ0_coder_7d493 seJ0_coder_7d493 rfl (by decide) (Nat.le_of_ble_eq_true rfl) rfl dJ0_length_8abf5_6 ?_
  refine g_ishr cx dJ0_length_8abf5_9 ?_
  refine g_top (ishr0 i hi) ?_
  exact g_fret cx rq rfl (rfl) dJ0_length_8abf5_10 (rfl) (rfl)

set_option maxRecDepth 100000 in
set_option maxHeartbeats 4000000 in
theorem s_isLatin1 {D : Wd} {i : Nat} (hi : i < 10) : Fok mJ0_isLatin1_aae02 idsA 0 [vr (90, i)] D (some (vi (nI 1))) D := by
  refine Mok.of (L := [some (vr (90, i))]) rfl (fun _ => Nat.le_of_ble_eq_true rfl) (fun _ => rfl) (fun X cx rq => ?_)
  refine g_compact cx lfJ0_38 dJ0_isLatin1_aae02_0 ?_
  refine g_if_eq (tgt := 17) cx dJ0_isLatin1_aae02_3 (by decide) (fun h_3 => ?_) (fun h_3 => ?_)
  · skip
    exact absurd h_3 (by decide)
  · skip
    refine g_aload_n cx dJ0_isLatin1_aae02_6 rfl ?_
    refine g_kcod cx (hi) lfJ0_15 dJ0_isLatin1_aae02_7 ?_
    refine g_if_neN (tgt := 17) cx dJ0_isLatin1_aae02_10 (by decide) (by omega) (fun h_10 => ?_) (fun h_10 => ?_)
    · skip
      exact absurd rfl h_10
    · skip
      refine g_iconst (v := nI 1) cx dJ0_isLatin1_aae02_13 (by decide) ?_
      refine g_goto (tgt := 18) cx dJ0_isLatin1_aae02_14 (by decide) ?_
      exact g_fret cx rq rfl (by rfl) dJ0_isLatin1_aae02_18 (rfl) (rfl)

set_option maxRecDepth 100000 in
set_option maxHeartbeats 4000000 in
theorem s_chk3 {D : Wd} {j m : Nat} (hj : j < m) (hm : m < 100) : Fok mJ3_checkIndex_8e157 idsA 0 [vi (nI j), vi (nI m), vr (93, 0)] D (some (vi (nI j))) D := by
  refine Mok.of (L := [some (vi (nI j)), some (vi (nI m)), some (vr (93, 0))]) rfl (fun _ => Nat.le_of_ble_eq_true rfl) (fun _ => rfl) (fun X cx rq => ?_)
  refine g_iload_n cx dJ3_checkIndex_8e157_0 rfl ?_
  refine g_if_ltN (tgt := 9) cx dJ3_checkIndex_8e157_1 (by decide) (by omega) ?_
  refine g_iload_n cx dJ3_checkIndex_8e157_4 rfl ?_
  refine g_iload_n cx dJ3_checkIndex_8e157_5 rfl ?_
  refine g_icmp_ltN (tgt := 16) cx dJ3_checkIndex_8e157_6 (by decide) (by omega) (by omega) (fun h_6 => ?_) (fun h_6 => ?_)
  · skip
    refine g_iload_n cx dJ3_checkIndex_8e157_16 rfl ?_
    exact g_fret cx rq rfl (rfl) dJ3_checkIndex_8e157_17 (rfl) (rfl)
  · skip
    exact absurd h_6 (by omega)

set_option maxRecDepth 100000 in
set_option maxHeartbeats 4000000 in
theorem s_chk3n {D : Wd} {j m : Nat} (hj : j < m) (hm : m < 100) : Fok mJ3_checkIndex_8e157 idsA 0 [vi (nI j), vi (nI m), vN] D (some (vi (nI j))) D := by
  refine Mok.of (L := [some (vi (nI j)), some (vi (nI m)), some (vN)]) rfl (fun _ => Nat.le_of_ble_eq_true rfl) (fun _ => rfl) (fun X cx rq => ?_)
  refine g_iload_n cx dJ3_checkIndex_8e157_0 rfl ?_
  refine g_if_ltN (tgt := 9) cx dJ3_checkIndex_8e157_1 (by decide) (by omega) ?_
  refine g_iload_n cx dJ3_checkIndex_8e157_4 rfl ?_
  refine g_iload_n cx dJ3_checkIndex_8e157_5 rfl ?_
  refine g_icmp_ltN (tgt := 16) cx dJ3_checkIndex_8e157_6 (by decide) (by omega) (by omega) (fun h_6 => ?_) (fun h_6 => ?_)
  · skip
    refine g_iload_n cx dJ3_checkIndex_8e157_16 rfl ?_
    exact g_fret cx rq rfl (rfl) dJ3_checkIndex_8e157_17 (rfl) (rfl)
  · skip
    exact absurd h_6 (by omega)

set_option maxRecDepth 100000 in
set_option maxHeartbeats 4000000 in
theorem s_chk {D : Wd} {j m : Nat} (hj : j < m) (hm : m < 100) : Fok mJ0_checkIndex_df160 idsA 1 [vi (nI j), vi (nI m)] D none D := by
  refine Mok.of (L := [some (vi (nI j)), some (vi (nI m))]) rfl (fun _ => Nat.le_of_ble_eq_true rfl) (fun _ => rfl) (fun X cx rq => ?_)
  refine g_iload_n cx dJ0_checkIndex_df160_0 rfl ?_
  refine g_iload_n cx dJ0_checkIndex_df160_1 rfl ?_
  refine g_sio cx lfJ0_1053 dJ0_checkIndex_df160_2 ?_ ?_
  · skip
    refine g_fcallS (As := [vi (nI j), vi (nI m), vr (93, 0)]) (rest := []) cx knJ3_checkIndex_8e157 (s_chk3 hj hm) lmJ0_1059 nsJ3_checkIndex_8e157 rfl (by decide) (Nat.le_of_ble_eq_true rfl) rfl dJ0_checkIndex_df160_5 ?_
    refine g_pop cx dJ0_checkIndex_df160_8 rfl ?_
    exact g_fvret cx rq rfl dJ0_checkIndex_df160_9 rfl (rfl)
  · skip
    refine g_fcallS (As := [vi (nI j), vi (nI m), vN]) (rest := []) cx knJ3_checkIndex_8e157 (s_chk3n hj hm) lmJ0_1059 nsJ3_checkIndex_8e157 rfl (by decide) (Nat.le_of_ble_eq_true rfl) rfl dJ0_checkIndex_df160_5 ?_
    refine g_pop cx dJ0_checkIndex_df160_8 rfl ?_
    exact g_fvret cx rq rfl dJ0_checkIndex_df160_9 rfl (rfl)

set_option maxRecDepth 100000 in
set_option maxHeartbeats 4000000 in
theorem s_charL {D : Wd} {i : Nat} (hi : i < 10) {j : Nat} (hj : j < wls i) : Fok mJ1_charAt_3b067 idsA 2 [vr (92, i), vi (nI j)] D (some (vi (nI (wbs i j)))) D := by
  have hw9 := (sBy_w i hi j hj).2
  refine Mok.of (L := [some (vr (92, i)), some (vi (nI j))]) rfl (fun _ => Nat.le_of_ble_eq_true rfl) (fun _ => rfl) (fun X cx rq => ?_)
  refine g_iload_n cx dJ1_charAt_3b067_0 rfl ?_
  refine g_aload_n cx dJ1_charAt_3b067_1 rfl ?_
  refine g_klen cx (hi) dJ1_charAt_3b067_2 ?_
  refine g_fcallSv (As := [vi (nI j), vi (nI (wls i))]) (rest := []) cx knJ0_checkIndex_df160 (s_chk (j := j) (m := wls i) hj (by have := wls_le i hi; omega)) lmJ1_9 nsJ0_checkIndex_df160 rfl (by decide) (Nat.le_of_ble_eq_true rfl) rfl dJ1_charAt_3b067_3 ?_
  refine g_aload_n cx dJ1_charAt_3b067_6 rfl ?_
  refine g_iload_n cx dJ1_charAt_3b067_7 rfl ?_
  refine g_kald (j := j) cx (hi) (rfl) (hj) dJ1_charAt_3b067_8 ?_
  refine g_sipush (v := nI 255) cx dJ1_charAt_3b067_9 (by decide) ?_
  refine g_iand cx dJ1_charAt_3b067_12 ?_
  refine g_i2c cx dJ1_charAt_3b067_13 ?_
  refine g_top (chr_w _ hw9) ?_
  exact g_fret cx rq rfl (chr_nar _ hw9) dJ1_charAt_3b067_14 (rfl) (rfl)

set_option maxRecDepth 100000 in
set_option maxHeartbeats 4000000 in
theorem s_charAt {D : Wd} {i : Nat} (hi : i < 10) {j : Nat} (hj : j < wls i) : Fok mJ0_charAt_5068e idsA 3 [vr (90, i), vi (nI j)] D (some (vi (nI (wbs i j)))) D := by
  have hw9 := (sBy_w i hi j hj).2
  refine Mok.of (L := [some (vr (90, i)), some (vi (nI j))]) rfl (fun _ => Nat.le_of_ble_eq_true rfl) (fun _ => rfl) (fun X cx rq => ?_)
  refine g_aload_n cx dJ0_charAt_5068e_0 rfl ?_
  refine g_fcallK (As := []) (rest := []) cx knJ0_isLatin1_aae02 (s_isLatin1 hi) rfl (hi) lmJ0_492 niJ0_isLatin1_aae02 seJ0_isLatin1_aae02 rfl (by decide) (Nat.le_of_ble_eq_true rfl) rfl dJ0_charAt_5068e_1 ?_
  refine g_if_eqN (tgt := 16) cx dJ0_charAt_5068e_4 (by decide) (by omega) (fun h_4 => ?_) (fun h_4 => ?_)
  · skip
    exact absurd h_4 (by decide)
  · skip
    refine g_aload_n cx dJ0_charAt_5068e_7 rfl ?_
    refine g_kval cx (hi) lfJ0_9 dJ0_charAt_5068e_8 ?_
    refine g_iload_n cx dJ0_charAt_5068e_11 rfl ?_
    refine g_fcallS (As := [vr (92, i), vi (nI j)]) (rest := []) cx knJ1_charAt_3b067 (s_charL hi hj) lmJ0_495 nsJ1_charAt_3b067 rfl (by decide) (Nat.le_of_ble_eq_true rfl) rfl dJ0_charAt_5068e_12 ?_
    exact g_fret cx rq rfl (chr_nar _ hw9) dJ0_charAt_5068e_15 (rfl) (rfl)

set_option maxRecDepth 100000 in
set_option maxHeartbeats 4000000 in
theorem x_isLetter {E : Wd} {t : Nat → Nat} {len : Nat} (hX : TXx E t len) {q : Nat} (hq : q < len) : Fok mX4_isLetter idsA 0 [vr (7, 0), vi (nI q)] E (some (vi (if srt (t q) = 1 then 1 else 0))) E := by
  obtain ⟨hLn, hl2, hBy⟩ := id hX
  have htq := (hBy q hq).2
  refine Mok.of (L := [some (vr (7, 0)), some (vi (nI q))]) rfl (fun _ => Nat.le_of_ble_eq_true rfl) (fun _ => rfl) (fun X cx rq => ?_)
  refine g_aload_n cx dX4_isLetter_0 rfl ?_
  refine g_getR (i := (7, 0)) (ci := 4) (k := 0) (j := (8, 0)) cx a7_0 rfl rfl rfl (by decide) inX4 lfX4_9 dX4_isLetter_1 ?_
  refine g_iload_n cx dX4_isLetter_4 rfl ?_
  refine g_bald (i := (8, 0)) (j := q) cx a8_0 rfl (rfl) (by omega) (by decide) dX4_isLetter_5 ?_
  refine g_top (y := (sbI (t q))) ((hBy q (by omega)).1) ?_
  refine g_bipush (v := nI 97) cx dX4_isLetter_6 (by decide) ?_
  refine g_icmp_lt (tgt := 26) cx dX4_isLetter_8 (by decide) (fun h_8 => ?_) (fun h_8 => ?_)
  · skip
    have h8 := sb_lt htq (by decide) h_8
    refine g_iconst (v := nI 0) cx dX4_isLetter_26 (by decide) ?_
    exact g_fret cx rq rfl (by rfl) dX4_isLetter_27 (by rw [bi_f (c := srt (t q) = 1) (srt_n1 (by omega))]) (rfl)
  · skip
    have h8 := sb_ge htq (by decide) h_8
    refine g_aload_n cx dX4_isLetter_11 rfl ?_
    refine g_getR (i := (7, 0)) (ci := 4) (k := 0) (j := (8, 0)) cx a7_0 rfl rfl rfl (by decide) inX4 lfX4_9 dX4_isLetter_12 ?_
    refine g_iload_n cx dX4_isLetter_15 rfl ?_
    refine g_bald (i := (8, 0)) (j := q) cx a8_0 rfl (rfl) (by omega) (by decide) dX4_isLetter_16 ?_
    refine g_top (y := (sbI (t q))) ((hBy q (by omega)).1) ?_
    refine g_bipush (v := nI 122) cx dX4_isLetter_17 (by decide) ?_
    refine g_icmp_gt (tgt := 26) cx dX4_isLetter_19 (by decide) (fun h_19 => ?_) (fun h_19 => ?_)
    · skip
      have h19 := sb_gt htq (by decide) h_19
      refine g_iconst (v := nI 0) cx dX4_isLetter_26 (by decide) ?_
      exact g_fret cx rq rfl (by rfl) dX4_isLetter_27 (by rw [bi_f (c := srt (t q) = 1) (srt_n1 (by omega))]) (rfl)
    · skip
      have h19 := sb_le htq (by decide) h_19
      refine g_iconst (v := nI 1) cx dX4_isLetter_22 (by decide) ?_
      refine g_goto (tgt := 27) cx dX4_isLetter_23 (by decide) ?_
      exact g_fret cx rq rfl (by rfl) dX4_isLetter_27 (by rw [bi_t (c := srt (t q) = 1) (srt_1 (by omega) (by omega))]) (rfl)

set_option maxRecDepth 100000 in
set_option maxHeartbeats 4000000 in
theorem x_isDigit {E : Wd} {t : Nat → Nat} {len : Nat} (hX : TXx E t len) {q : Nat} (hq : q < len) : Fok mX4_isDigit idsA 0 [vr (7, 0), vi (nI q)] E (some (vi (if srt (t q) = 2 then 1 else 0))) E := by
  obtain ⟨hLn, hl2, hBy⟩ := id hX
  have htq := (hBy q hq).2
  refine Mok.of (L := [some (vr (7, 0)), some (vi (nI q))]) rfl (fun _ => Nat.le_of_ble_eq_true rfl) (fun _ => rfl) (fun X cx rq => ?_)
  refine g_aload_n cx dX4_isDigit_0 rfl ?_
  refine g_getR (i := (7, 0)) (ci := 4) (k := 0) (j := (8, 0)) cx a7_0 rfl rfl rfl (by decide) inX4 lfX4_9 dX4_isDigit_1 ?_
  refine g_iload_n cx dX4_isDigit_4 rfl ?_
  refine g_bald (i := (8, 0)) (j := q) cx a8_0 rfl (rfl) (by omega) (by decide) dX4_isDigit_5 ?_
  refine g_top (y := (sbI (t q))) ((hBy q (by omega)).1) ?_
  refine g_bipush (v := nI 48) cx dX4_isDigit_6 (by decide) ?_
  refine g_icmp_lt (tgt := 26) cx dX4_isDigit_8 (by decide) (fun h_8 => ?_) (fun h_8 => ?_)
  · skip
    have h8 := sb_lt htq (by decide) h_8
    refine g_iconst (v := nI 0) cx dX4_isDigit_26 (by decide) ?_
    exact g_fret cx rq rfl (by rfl) dX4_isDigit_27 (by rw [bi_f (c := srt (t q) = 2) (srt_n2 (by omega))]) (rfl)
  · skip
    have h8 := sb_ge htq (by decide) h_8
    refine g_aload_n cx dX4_isDigit_11 rfl ?_
    refine g_getR (i := (7, 0)) (ci := 4) (k := 0) (j := (8, 0)) cx a7_0 rfl rfl rfl (by decide) inX4 lfX4_9 dX4_isDigit_12 ?_
    refine g_iload_n cx dX4_isDigit_15 rfl ?_
    refine g_bald (i := (8, 0)) (j := q) cx a8_0 rfl (rfl) (by omega) (by decide) dX4_isDigit_16 ?_
    refine g_top (y := (sbI (t q))) ((hBy q (by omega)).1) ?_
    refine g_bipush (v := nI 57) cx dX4_isDigit_17 (by decide) ?_
    refine g_icmp_gt (tgt := 26) cx dX4_isDigit_19 (by decide) (fun h_19 => ?_) (fun h_19 => ?_)
    · skip
      have h19 := sb_gt htq (by decide) h_19
      refine g_iconst (v := nI 0) cx dX4_isDigit_26 (by decide) ?_
      exact g_fret cx rq rfl (by rfl) dX4_isDigit_27 (by rw [bi_f (c := srt (t q) = 2) (srt_n2 (by omega))]) (rfl)
    · skip
      have h19 := sb_le htq (by decide) h_19
      refine g_iconst (v := nI 1) cx dX4_isDigit_22 (by decide) ?_
      refine g_goto (tgt := 27) cx dX4_isDigit_23 (by decide) ?_
      exact g_fret cx rq rfl (by rfl) dX4_isDigit_27 (by rw [bi_t (c := srt (t q) = 2) (srt_2 (by omega) (by omega))]) (rfl)

set_option maxRecDepth 100000 in
set_option maxHeartbeats 4000000 in
theorem x_nextToken {E : Wd} {t : Nat → Nat} {len : Nat} (hX : TXx E t len) {e : Nat} (hE9 : E (7, 0) 5 = nI e) (he : e ≤ len) : Fok mX4_nextToken idsA 1 [vr (7, 0)] E none (SE E (tkP t len e) (tkE t len (tkP t len e))) := by
  obtain ⟨hLn, hl2, hBy⟩ := id hX
  have hpk := tkP_ok (t := t) he
  have hr1 := rnE_ok t 1 (len - tkP t len e) (tkP t len e)
  have hr2 := rnE_ok t 2 (len - tkP t len e) (tkP t len e)
  refine Mok.of (L := [some (vr (7, 0))]) rfl (fun _ => Nat.le_of_ble_eq_true rfl) (fun _ => rfl) (fun X cx rq => ?_)
  refine g_aload_n cx dX4_nextToken_0 rfl ?_
  refine g_aload_n cx dX4_nextToken_1 rfl ?_
  refine g_getIN (i := (7, 0)) (ci := 4) (k := 5) (v := nI e) cx a7_0 rfl rfl rfl (by decide) inX4 lfX4_26 dX4_nextToken_2 (hE9) ?_
  refine g_putI (i := (7, 0)) (ci := 4) (k := 4) cx a7_0 rfl rfl rfl (by decide) inX4 tyX4_ok nmX4 rfl rfl lfX4_37 dX4_nextToken_5 ?_
  refine g_wd (D' := SE E e e) (SE.z hE9) ?_
  have lp1 : ∀ (fu : Nat) (p : Nat), len - p < fu → (p ≤ len) → (skB t (len - p) p = tkP t len e) → Gk X mX4_nextToken idsA 8 [some (vr (7, 0))] [] (SE E p e) := by
    intro fu
    induction fu with
    | zero => intro p hfu; exact absurd hfu (Nat.not_lt_zero _)
    | succ fu ih_lp1 =>
      intro p hfu hp hm
      refine g_aload_n cx dX4_nextToken_8 rfl ?_
      refine g_getIN (i := (7, 0)) (ci := 4) (k := 4) (v := nI p) cx a7_0 rfl rfl rfl (by decide) inX4 lfX4_37 dX4_nextToken_9 (SE.s) ?_
      refine g_aload_n cx dX4_nextToken_12 rfl ?_
      refine g_getIN (i := (7, 0)) (ci := 4) (k := 1) (v := nI len) cx a7_0 rfl rfl rfl (by decide) inX4 lfX4_43 dX4_nextToken_13 ((SE.T hX).1) ?_
      refine g_icmp_geN (tgt := 46) cx dX4_nextToken_16 (by decide) (by omega) (by omega) (fun h_16 => ?_) (fun h_16 => ?_)
      · skip
        refine g_wd (D' := SE E (tkP t len e) e) (by rw [sk_z h_16 hm]) ?_
        refine g_aload_n cx dX4_nextToken_46 rfl ?_
        refine g_aload_n cx dX4_nextToken_47 rfl ?_
        refine g_getIN (i := (7, 0)) (ci := 4) (k := 4) (v := nI (tkP t len e)) cx a7_0 rfl rfl rfl (by decide) inX4 lfX4_37 dX4_nextToken_48 (SE.s) ?_
        refine g_putI (i := (7, 0)) (ci := 4) (k := 5) cx a7_0 rfl rfl rfl (by decide) inX4 tyX4_ok nmX4 rfl rfl lfX4_26 dX4_nextToken_51 ?_
        refine g_wd (D' := SE E (tkP t len e) (tkP t len e)) (SE.we) ?_
        have lp2 : ∀ (fu : Nat) (q : Nat), len - q < fu → (q ≤ len) → (rnE t 1 (len - q) q = rnE t 1 (len - tkP t len e) (tkP t len e)) → Gk X mX4_nextToken idsA 54 [some (vr (7, 0))] [] (SE E (tkP t len e) q) := by
          intro fu
          induction fu with
          | zero => intro q hfu; exact absurd hfu (Nat.not_lt_zero _)
          | succ fu ih_lp2 =>
            intro q hfu hq hm2
            refine g_aload_n cx dX4_nextToken_54 rfl ?_
            refine g_getIN (i := (7, 0)) (ci := 4) (k := 5) (v := nI q) cx a7_0 rfl rfl rfl (by decide) inX4 lfX4_26 dX4_nextToken_55 (SE.e) ?_
            refine g_aload_n cx dX4_nextToken_58 rfl ?_
            refine g_getIN (i := (7, 0)) (ci := 4) (k := 1) (v := nI len) cx a7_0 rfl rfl rfl (by decide) inX4 lfX4_43 dX4_nextToken_59 ((SE.T hX).1) ?_
            refine g_icmp_geN (tgt := 89) cx dX4_nextToken_62 (by decide) (by omega) (by omega) (fun h_62 => ?_) (fun h_62 => ?_)
            · skip
              refine g_wd (D' := SE E (tkP t len e) (rnE t 1 (len - tkP t len e) (tkP t len e))) (by rw [← rn_z h_62 hm2]) ?_
              refine g_aload_n cx dX4_nextToken_89 rfl ?_
              refine g_getIN (i := (7, 0)) (ci := 4) (k := 5) (v := nI (rnE t 1 (len - tkP t len e) (tkP t len e))) cx a7_0 rfl rfl rfl (by decide) inX4 lfX4_26 dX4_nextToken_90 (SE.e) ?_
              refine g_aload_n cx dX4_nextToken_93 rfl ?_
              refine g_getIN (i := (7, 0)) (ci := 4) (k := 4) (v := nI (tkP t len e)) cx a7_0 rfl rfl rfl (by decide) inX4 lfX4_37 dX4_nextToken_94 (SE.s) ?_
              refine g_icmp_neN (tgt := 135) cx dX4_nextToken_97 (by decide) (by omega) (by omega) (fun h_97 => ?_) (fun h_97 => ?_)
              · skip
                refine g_aload_n cx dX4_nextToken_135 rfl ?_
                refine g_getIN (i := (7, 0)) (ci := 4) (k := 5) (v := nI (rnE t 1 (len - tkP t len e) (tkP t len e))) cx a7_0 rfl rfl rfl (by decide) inX4 lfX4_26 dX4_nextToken_136 (SE.e) ?_
                refine g_aload_n cx dX4_nextToken_139 rfl ?_
                refine g_getIN (i := (7, 0)) (ci := 4) (k := 4) (v := nI (tkP t len e)) cx a7_0 rfl rfl rfl (by decide) inX4 lfX4_37 dX4_nextToken_140 (SE.s) ?_
                refine g_icmp_neN (tgt := 167) cx dX4_nextToken_143 (by decide) (by omega) (by omega) (fun h_143 => ?_) (fun h_143 => ?_)
                · skip
                  exact g_fvret cx rq rfl dX4_nextToken_167 rfl (by first | rw [tkE_1 hpk.2 h_97] | rw [tkE_1 hpk.2 h_143])
                · skip
                  exact absurd h_143 h_97
              · skip
                refine g_wd (D' := SE E (tkP t len e) (tkP t len e)) (by rw [h_97]) ?_
                have lp3 : ∀ (fu : Nat) (q : Nat), len - q < fu → (q ≤ len) → (rnE t 2 (len - q) q = rnE t 2 (len - tkP t len e) (tkP t len e)) → Gk X mX4_nextToken idsA 100 [some (vr (7, 0))] [] (SE E (tkP t len e) q) := by
                  intro fu
                  induction fu with
                  | zero => intro q hfu; exact absurd hfu (Nat.not_lt_zero _)
                  | succ fu ih_lp3 =>
                    intro q hfu hq hm3
                    refine g_aload_n cx dX4_nextToken_100 rfl ?_
                    refine g_getIN (i := (7, 0)) (ci := 4) (k := 5) (v := nI q) cx a7_0 rfl rfl rfl (by decide) inX4 lfX4_26 dX4_nextToken_101 (SE.e) ?_
                    refine g_aload_n cx dX4_nextToken_104 rfl ?_
                    refine g_getIN (i := (7, 0)) (ci := 4) (k := 1) (v := nI len) cx a7_0 rfl rfl rfl (by decide) inX4 lfX4_43 dX4_nextToken_105 ((SE.T hX).1) ?_
                    refine g_icmp_geN (tgt := 135) cx dX4_nextToken_108 (by decide) (by omega) (by omega) (fun h_108 => ?_) (fun h_108 => ?_)
                    · skip
                      refine g_wd (D' := SE E (tkP t len e) (rnE t 2 (len - tkP t len e) (tkP t len e))) (by rw [← rn_z h_108 hm3]) ?_
                      refine g_aload_n cx dX4_nextToken_135 rfl ?_
                      refine g_getIN (i := (7, 0)) (ci := 4) (k := 5) (v := nI (rnE t 2 (len - tkP t len e) (tkP t len e))) cx a7_0 rfl rfl rfl (by decide) inX4 lfX4_26 dX4_nextToken_136 (SE.e) ?_
                      refine g_aload_n cx dX4_nextToken_139 rfl ?_
                      refine g_getIN (i := (7, 0)) (ci := 4) (k := 4) (v := nI (tkP t len e)) cx a7_0 rfl rfl rfl (by decide) inX4 lfX4_37 dX4_nextToken_140 (SE.s) ?_
                      refine g_icmp_neN (tgt := 167) cx dX4_nextToken_143 (by decide) (by omega) (by omega) (fun h_143 => ?_) (fun h_143 => ?_)
                      · skip
                        exact g_fvret cx rq rfl dX4_nextToken_167 rfl (by rw [tkE_2 hpk.2 h_143])
                      · skip
                        refine g_wd (D' := SE E (tkP t len e) (tkP t len e)) (by rw [h_143]) ?_
                        refine g_aload_n cx dX4_nextToken_146 rfl ?_
                        refine g_getIN (i := (7, 0)) (ci := 4) (k := 5) (v := nI (tkP t len e)) cx a7_0 rfl rfl rfl (by decide) inX4 lfX4_26 dX4_nextToken_147 (SE.e) ?_
                        refine g_aload_n cx dX4_nextToken_150 rfl ?_
                        refine g_getIN (i := (7, 0)) (ci := 4) (k := 1) (v := nI len) cx a7_0 rfl rfl rfl (by decide) inX4 lfX4_43 dX4_nextToken_151 ((SE.T hX).1) ?_
                        refine g_icmp_geN (tgt := 167) cx dX4_nextToken_154 (by decide) (by omega) (by omega) (fun h_154 => ?_) (fun h_154 => ?_)
                        · skip
                          exact g_fvret cx rq rfl dX4_nextToken_167 rfl (by rw [← tkE_z (by omega)])
                        · skip
                          refine g_aload_n cx dX4_nextToken_157 rfl ?_
                          refine g_dup cx dX4_nextToken_158 rfl ?_
                          refine g_getIN (i := (7, 0)) (ci := 4) (k := 5) (v := nI (tkP t len e)) cx a7_0 rfl rfl rfl (by decide) inX4 lfX4_26 dX4_nextToken_159 (SE.e) ?_
                          refine g_iconst (v := nI 1) cx dX4_nextToken_162 (by decide) ?_
                          refine g_iaddN cx dX4_nextToken_163 ?_
                          refine g_putI (i := (7, 0)) (ci := 4) (k := 5) cx a7_0 rfl rfl rfl (by decide) inX4 tyX4_ok nmX4 rfl rfl lfX4_26 dX4_nextToken_164 ?_
                          refine g_wd (D' := SE E (tkP t len e) (tkP t len e + 1)) (SE.we) ?_
                          exact g_fvret cx rq rfl dX4_nextToken_167 rfl (by rw [tkE_0 h_154 (tkE_1n h_97 h_154) (tkE_2n h_143 h_154)])
                    · skip
                      refine g_aload_n cx dX4_nextToken_111 rfl ?_
                      refine g_aload_n cx dX4_nextToken_112 rfl ?_
                      refine g_getIN (i := (7, 0)) (ci := 4) (k := 5) (v := nI q) cx a7_0 rfl rfl rfl (by decide) inX4 lfX4_26 dX4_nextToken_113 (SE.e) ?_
                      refine g_fcallV (As := [vi (nI q)]) (rest := []) cx knX4_isDigit (x_isDigit (SE.T hX) (q := q) (by omega)) a7_0 rfl rfl lmX4_121 niX4_isDigit seX4_isDigit rfl (by decide) (Nat.le_of_ble_eq_true rfl) rfl dX4_nextToken_116 ?_
                      refine g_if_eqB (tgt := 135) cx dX4_nextToken_119 (by decide) (fun h_119 => ?_) (fun h_119 => ?_)
                      · skip
                        refine g_wd (D' := SE E (tkP t len e) (rnE t 2 (len - tkP t len e) (tkP t len e))) (by rw [← rn_n h_108 h_119 hm3]) ?_
                        refine g_aload_n cx dX4_nextToken_135 rfl ?_
                        refine g_getIN (i := (7, 0)) (ci := 4) (k := 5) (v := nI (rnE t 2 (len - tkP t len e) (tkP t len e))) cx a7_0 rfl rfl rfl (by decide) inX4 lfX4_26 dX4_nextToken_136 (SE.e) ?_
                        refine g_aload_n cx dX4_nextToken_139 rfl ?_
                        refine g_getIN (i := (7, 0)) (ci := 4) (k := 4) (v := nI (tkP t len e)) cx a7_0 rfl rfl rfl (by decide) inX4 lfX4_37 dX4_nextToken_140 (SE.s) ?_
                        refine g_icmp_neN (tgt := 167) cx dX4_nextToken_143 (by decide) (by omega) (by omega) (fun h_143 => ?_) (fun h_143 => ?_)
                        · skip
                          exact g_fvret cx rq rfl dX4_nextToken_167 rfl (by rw [tkE_2 hpk.2 h_143])
                        · skip
                          refine g_wd (D' := SE E (tkP t len e) (tkP t len e)) (by rw [h_143]) ?_
                          refine g_aload_n cx dX4_nextToken_146 rfl ?_
                          refine g_getIN (i := (7, 0)) (ci := 4) (k := 5) (v := nI (tkP t len e)) cx a7_0 rfl rfl rfl (by decide) inX4 lfX4_26 dX4_nextToken_147 (SE.e) ?_
                          refine g_aload_n cx dX4_nextToken_150 rfl ?_
                          refine g_getIN (i := (7, 0)) (ci := 4) (k := 1) (v := nI len) cx a7_0 rfl rfl rfl (by decide) inX4 lfX4_43 dX4_nextToken_151 ((SE.T hX).1) ?_
                          refine g_icmp_geN (tgt := 167) cx dX4_nextToken_154 (by decide) (by omega) (by omega) (fun h_154 => ?_) (fun h_154 => ?_)
                          · skip
                            exact g_fvret cx rq rfl dX4_nextToken_167 rfl (by rw [← tkE_z (by omega)])
                          · skip
                            refine g_aload_n cx dX4_nextToken_157 rfl ?_
                            refine g_dup cx dX4_nextToken_158 rfl ?_
                            refine g_getIN (i := (7, 0)) (ci := 4) (k := 5) (v := nI (tkP t len e)) cx a7_0 rfl rfl rfl (by decide) inX4 lfX4_26 dX4_nextToken_159 (SE.e) ?_
                            refine g_iconst (v := nI 1) cx dX4_nextToken_162 (by decide) ?_
                            refine g_iaddN cx dX4_nextToken_163 ?_
                            refine g_putI (i := (7, 0)) (ci := 4) (k := 5) cx a7_0 rfl rfl rfl (by decide) inX4 tyX4_ok nmX4 rfl rfl lfX4_26 dX4_nextToken_164 ?_
                            refine g_wd (D' := SE E (tkP t len e) (tkP t len e + 1)) (SE.we) ?_
                            exact g_fvret cx rq rfl dX4_nextToken_167 rfl (by rw [tkE_0 h_154 (tkE_1n h_97 h_154) (tkE_2n h_143 h_154)])
                      · skip
                        refine g_aload_n cx dX4_nextToken_122 rfl ?_
                        refine g_dup cx dX4_nextToken_123 rfl ?_
                        refine g_getIN (i := (7, 0)) (ci := 4) (k := 5) (v := nI q) cx a7_0 rfl rfl rfl (by decide) inX4 lfX4_26 dX4_nextToken_124 (SE.e) ?_
                        refine g_iconst (v := nI 1) cx dX4_nextToken_127 (by decide) ?_
                        refine g_iaddN cx dX4_nextToken_128 ?_
                        refine g_putI (i := (7, 0)) (ci := 4) (k := 5) cx a7_0 rfl rfl rfl (by decide) inX4 tyX4_ok nmX4 rfl rfl lfX4_26 dX4_nextToken_129 ?_
                        refine g_wd (D' := SE E (tkP t len e) (q + 1)) (SE.we) ?_
                        refine g_goto (tgt := 100) cx dX4_nextToken_132 (by decide) ?_
                        exact ih_lp3 (q + 1) (by omega) (by omega) (rn_y (by decide) h_108 h_119 hm3)
                exact lp3 (len + 1) (tkP t len e) (by omega) (by omega) rfl
            · skip
              refine g_aload_n cx dX4_nextToken_65 rfl ?_
              refine g_aload_n cx dX4_nextToken_66 rfl ?_
              refine g_getIN (i := (7, 0)) (ci := 4) (k := 5) (v := nI q) cx a7_0 rfl rfl rfl (by decide) inX4 lfX4_26 dX4_nextToken_67 (SE.e) ?_
              refine g_fcallV (As := [vi (nI q)]) (rest := []) cx knX4_isLetter (x_isLetter (SE.T hX) (q := q) (by omega)) a7_0 rfl rfl lmX4_118 niX4_isLetter seX4_isLetter rfl (by decide) (Nat.le_of_ble_eq_true rfl) rfl dX4_nextToken_70 ?_
              refine g_if_eqB (tgt := 89) cx dX4_nextToken_73 (by decide) (fun h_73 => ?_) (fun h_73 => ?_)
              · skip
                refine g_wd (D' := SE E (tkP t len e) (rnE t 1 (len - tkP t len e) (tkP t len e))) (by rw [← rn_n h_62 h_73 hm2]) ?_
                refine g_aload_n cx dX4_nextToken_89 rfl ?_
                refine g_getIN (i := (7, 0)) (ci := 4) (k := 5) (v := nI (rnE t 1 (len - tkP t len e) (tkP t len e))) cx a7_0 rfl rfl rfl (by decide) inX4 lfX4_26 dX4_nextToken_90 (SE.e) ?_
                refine g_aload_n cx dX4_nextToken_93 rfl ?_
                refine g_getIN (i := (7, 0)) (ci := 4) (k := 4) (v := nI (tkP t len e)) cx a7_0 rfl rfl rfl (by decide) inX4 lfX4_37 dX4_nextToken_94 (SE.s) ?_
                refine g_icmp_neN (tgt := 135) cx dX4_nextToken_97 (by decide) (by omega) (by omega) (fun h_97 => ?_) (fun h_97 => ?_)
                · skip
                  refine g_aload_n cx dX4_nextToken_135 rfl ?_
                  refine g_getIN (i := (7, 0)) (ci := 4) (k := 5) (v := nI (rnE t 1 (len - tkP t len e) (tkP t len e))) cx a7_0 rfl rfl rfl (by decide) inX4 lfX4_26 dX4_nextToken_136 (SE.e) ?_
                  refine g_aload_n cx dX4_nextToken_139 rfl ?_
                  refine g_getIN (i := (7, 0)) (ci := 4) (k := 4) (v := nI (tkP t len e)) cx a7_0 rfl rfl rfl (by decide) inX4 lfX4_37 dX4_nextToken_140 (SE.s) ?_
                  refine g_icmp_neN (tgt := 167) cx dX4_nextToken_143 (by decide) (by omega) (by omega) (fun h_143 => ?_) (fun h_143 => ?_)
                  · skip
                    exact g_fvret cx rq rfl dX4_nextToken_167 rfl (by first | rw [tkE_1 hpk.2 h_97] | rw [tkE_1 hpk.2 h_143])
                  · skip
                    exact absurd h_143 h_97
                · skip
                  refine g_wd (D' := SE E (tkP t len e) (tkP t len e)) (by rw [h_97]) ?_
                  have lp3 : ∀ (fu : Nat) (q : Nat), len - q < fu → (q ≤ len) → (rnE t 2 (len - q) q = rnE t 2 (len - tkP t len e) (tkP t len e)) → Gk X mX4_nextToken idsA 100 [some (vr (7, 0))] [] (SE E (tkP t len e) q) := by
                    intro fu
                    induction fu with
                    | zero => intro q hfu; exact absurd hfu (Nat.not_lt_zero _)
                    | succ fu ih_lp3 =>
                      intro q hfu hq hm3
                      refine g_aload_n cx dX4_nextToken_100 rfl ?_
                      refine g_getIN (i := (7, 0)) (ci := 4) (k := 5) (v := nI q) cx a7_0 rfl rfl rfl (by decide) inX4 lfX4_26 dX4_nextToken_101 (SE.e) ?_
                      refine g_aload_n cx dX4_nextToken_104 rfl ?_
                      refine g_getIN (i := (7, 0)) (ci := 4) (k := 1) (v := nI len) cx a7_0 rfl rfl rfl (by decide) inX4 lfX4_43 dX4_nextToken_105 ((SE.T hX).1) ?_
                      refine g_icmp_geN (tgt := 135) cx dX4_nextToken_108 (by decide) (by omega) (by omega) (fun h_108 => ?_) (fun h_108 => ?_)
                      · skip
                        refine g_wd (D' := SE E (tkP t len e) (rnE t 2 (len - tkP t len e) (tkP t len e))) (by rw [← rn_z h_108 hm3]) ?_
                        refine g_aload_n cx dX4_nextToken_135 rfl ?_
                        refine g_getIN (i := (7, 0)) (ci := 4) (k := 5) (v := nI (rnE t 2 (len - tkP t len e) (tkP t len e))) cx a7_0 rfl rfl rfl (by decide) inX4 lfX4_26 dX4_nextToken_136 (SE.e) ?_
                        refine g_aload_n cx dX4_nextToken_139 rfl ?_
                        refine g_getIN (i := (7, 0)) (ci := 4) (k := 4) (v := nI (tkP t len e)) cx a7_0 rfl rfl rfl (by decide) inX4 lfX4_37 dX4_nextToken_140 (SE.s) ?_
                        refine g_icmp_neN (tgt := 167) cx dX4_nextToken_143 (by decide) (by omega) (by omega) (fun h_143 => ?_) (fun h_143 => ?_)
                        · skip
                          exact g_fvret cx rq rfl dX4_nextToken_167 rfl (by rw [tkE_2 hpk.2 h_143])
                        · skip
                          refine g_wd (D' := SE E (tkP t len e) (tkP t len e)) (by rw [h_143]) ?_
                          refine g_aload_n cx dX4_nextToken_146 rfl ?_
                          refine g_getIN (i := (7, 0)) (ci := 4) (k := 5) (v := nI (tkP t len e)) cx a7_0 rfl rfl rfl (by decide) inX4 lfX4_26 dX4_nextToken_147 (SE.e) ?_
                          refine g_aload_n cx dX4_nextToken_150 rfl ?_
                          refine g_getIN (i := (7, 0)) (ci := 4) (k := 1) (v := nI len) cx a7_0 rfl rfl rfl (by decide) inX4 lfX4_43 dX4_nextToken_151 ((SE.T hX).1) ?_
                          refine g_icmp_geN (tgt := 167) cx dX4_nextToken_154 (by decide) (by omega) (by omega) (fun h_154 => ?_) (fun h_154 => ?_)
                          · skip
                            exact g_fvret cx rq rfl dX4_nextToken_167 rfl (by rw [← tkE_z (by omega)])
                          · skip
                            refine g_aload_n cx dX4_nextToken_157 rfl ?_
                            refine g_dup cx dX4_nextToken_158 rfl ?_
                            refine g_getIN (i := (7, 0)) (ci := 4) (k := 5) (v := nI (tkP t len e)) cx a7_0 rfl rfl rfl (by decide) inX4 lfX4_26 dX4_nextToken_159 (SE.e) ?_
                            refine g_iconst (v := nI 1) cx dX4_nextToken_162 (by decide) ?_
                            refine g_iaddN cx dX4_nextToken_163 ?_
                            refine g_putI (i := (7, 0)) (ci := 4) (k := 5) cx a7_0 rfl rfl rfl (by decide) inX4 tyX4_ok nmX4 rfl rfl lfX4_26 dX4_nextToken_164 ?_
                            refine g_wd (D' := SE E (tkP t len e) (tkP t len e + 1)) (SE.we) ?_
                            exact g_fvret cx rq rfl dX4_nextToken_167 rfl (by rw [tkE_0 h_154 (tkE_1n h_97 h_154) (tkE_2n h_143 h_154)])
                      · skip
                        refine g_aload_n cx dX4_nextToken_111 rfl ?_
                        refine g_aload_n cx dX4_nextToken_112 rfl ?_
                        refine g_getIN (i := (7, 0)) (ci := 4) (k := 5) (v := nI q) cx a7_0 rfl rfl rfl (by decide) inX4 lfX4_26 dX4_nextToken_113 (SE.e) ?_
                        refine g_fcallV (As := [vi (nI q)]) (rest := []) cx knX4_isDigit (x_isDigit (SE.T hX) (q := q) (by omega)) a7_0 rfl rfl lmX4_121 niX4_isDigit seX4_isDigit rfl (by decide) (Nat.le_of_ble_eq_true rfl) rfl dX4_nextToken_116 ?_
                        refine g_if_eqB (tgt := 135) cx dX4_nextToken_119 (by decide) (fun h_119 => ?_) (fun h_119 => ?_)
                        · skip
                          refine g_wd (D' := SE E (tkP t len e) (rnE t 2 (len - tkP t len e) (tkP t len e))) (by rw [← rn_n h_108 h_119 hm3]) ?_
                          refine g_aload_n cx dX4_nextToken_135 rfl ?_
                          refine g_getIN (i := (7, 0)) (ci := 4) (k := 5) (v := nI (rnE t 2 (len - tkP t len e) (tkP t len e))) cx a7_0 rfl rfl rfl (by decide) inX4 lfX4_26 dX4_nextToken_136 (SE.e) ?_
                          refine g_aload_n cx dX4_nextToken_139 rfl ?_
                          refine g_getIN (i := (7, 0)) (ci := 4) (k := 4) (v := nI (tkP t len e)) cx a7_0 rfl rfl rfl (by decide) inX4 lfX4_37 dX4_nextToken_140 (SE.s) ?_
                          refine g_icmp_neN (tgt := 167) cx dX4_nextToken_143 (by decide) (by omega) (by omega) (fun h_143 => ?_) (fun h_143 => ?_)
                          · skip
                            exact g_fvret cx rq rfl dX4_nextToken_167 rfl (by rw [tkE_2 hpk.2 h_143])
                          · skip
                            refine g_wd (D' := SE E (tkP t len e) (tkP t len e)) (by rw [h_143]) ?_
                            refine g_aload_n cx dX4_nextToken_146 rfl ?_
                            refine g_getIN (i := (7, 0)) (ci := 4) (k := 5) (v := nI (tkP t len e)) cx a7_0 rfl rfl rfl (by decide) inX4 lfX4_26 dX4_nextToken_147 (SE.e) ?_
                            refine g_aload_n cx dX4_nextToken_150 rfl ?_
                            refine g_getIN (i := (7, 0)) (ci := 4) (k := 1) (v := nI len) cx a7_0 rfl rfl rfl (by decide) inX4 lfX4_43 dX4_nextToken_151 ((SE.T hX).1) ?_
                            refine g_icmp_geN (tgt := 167) cx dX4_nextToken_154 (by decide) (by omega) (by omega) (fun h_154 => ?_) (fun h_154 => ?_)
                            · skip
                              exact g_fvret cx rq rfl dX4_nextToken_167 rfl (by rw [← tkE_z (by omega)])
                            · skip
                              refine g_aload_n cx dX4_nextToken_157 rfl ?_
                              refine g_dup cx dX4_nextToken_158 rfl ?_
                              refine g_getIN (i := (7, 0)) (ci := 4) (k := 5) (v := nI (tkP t len e)) cx a7_0 rfl rfl rfl (by decide) inX4 lfX4_26 dX4_nextToken_159 (SE.e) ?_
                              refine g_iconst (v := nI 1) cx dX4_nextToken_162 (by decide) ?_
                              refine g_iaddN cx dX4_nextToken_163 ?_
                              refine g_putI (i := (7, 0)) (ci := 4) (k := 5) cx a7_0 rfl rfl rfl (by decide) inX4 tyX4_ok nmX4 rfl rfl lfX4_26 dX4_nextToken_164 ?_
                              refine g_wd (D' := SE E (tkP t len e) (tkP t len e + 1)) (SE.we) ?_
                              exact g_fvret cx rq rfl dX4_nextToken_167 rfl (by rw [tkE_0 h_154 (tkE_1n h_97 h_154) (tkE_2n h_143 h_154)])
                        · skip
                          refine g_aload_n cx dX4_nextToken_122 rfl ?_
                          refine g_dup cx dX4_nextToken_123 rfl ?_
                          refine g_getIN (i := (7, 0)) (ci := 4) (k := 5) (v := nI q) cx a7_0 rfl rfl rfl (by decide) inX4 lfX4_26 dX4_nextToken_124 (SE.e) ?_
                          refine g_iconst (v := nI 1) cx dX4_nextToken_127 (by decide) ?_
                          refine g_iaddN cx dX4_nextToken_128 ?_
                          refine g_putI (i := (7, 0)) (ci := 4) (k := 5) cx a7_0 rfl rfl rfl (by decide) inX4 tyX4_ok nmX4 rfl rfl lfX4_26 dX4_nextToken_129 ?_
                          refine g_wd (D' := SE E (tkP t len e) (q + 1)) (SE.we) ?_
                          refine g_goto (tgt := 100) cx dX4_nextToken_132 (by decide) ?_
                          exact ih_lp3 (q + 1) (by omega) (by omega) (rn_y (by decide) h_108 h_119 hm3)
                  exact lp3 (len + 1) (tkP t len e) (by omega) (by omega) rfl
              · skip
                refine g_aload_n cx dX4_nextToken_76 rfl ?_
                refine g_dup cx dX4_nextToken_77 rfl ?_
                refine g_getIN (i := (7, 0)) (ci := 4) (k := 5) (v := nI q) cx a7_0 rfl rfl rfl (by decide) inX4 lfX4_26 dX4_nextToken_78 (SE.e) ?_
                refine g_iconst (v := nI 1) cx dX4_nextToken_81 (by decide) ?_
                refine g_iaddN cx dX4_nextToken_82 ?_
                refine g_putI (i := (7, 0)) (ci := 4) (k := 5) cx a7_0 rfl rfl rfl (by decide) inX4 tyX4_ok nmX4 rfl rfl lfX4_26 dX4_nextToken_83 ?_
                refine g_wd (D' := SE E (tkP t len e) (q + 1)) (SE.we) ?_
                refine g_goto (tgt := 54) cx dX4_nextToken_86 (by decide) ?_
                exact ih_lp2 (q + 1) (by omega) (by omega) (rn_y (by decide) h_62 h_73 hm2)
        exact lp2 (len + 1) (tkP t len e) (by omega) (by omega) rfl
      · skip
        have htp := (hBy p h_16).2
        refine g_aload_n cx dX4_nextToken_19 rfl ?_
        refine g_getR (i := (7, 0)) (ci := 4) (k := 0) (j := (8, 0)) cx a7_0 rfl rfl rfl (by decide) inX4 lfX4_9 dX4_nextToken_20 ?_
        refine g_aload_n cx dX4_nextToken_23 rfl ?_
        refine g_getIN (i := (7, 0)) (ci := 4) (k := 4) (v := nI p) cx a7_0 rfl rfl rfl (by decide) inX4 lfX4_37 dX4_nextToken_24 (SE.s) ?_
        refine g_bald (i := (8, 0)) (j := p) cx a8_0 rfl (rfl) (by omega) (by decide) dX4_nextToken_27 ?_
        refine g_top (y := (sbI (t p))) (((SE.T hX).2.2 p (by omega)).1) ?_
        refine g_bipush (v := nI 32) cx dX4_nextToken_28 (by decide) ?_
        refine g_icmp_ne (tgt := 46) cx dX4_nextToken_30 (by decide) (fun h_30 => ?_) (fun h_30 => ?_)
        · skip
          refine g_wd (D' := SE E (tkP t len e) e) (by rw [sk_n h_16 (fun z => h_30 ((sb_eq htp (by decide)).mpr z)) hm]) ?_
          refine g_aload_n cx dX4_nextToken_46 rfl ?_
          refine g_aload_n cx dX4_nextToken_47 rfl ?_
          refine g_getIN (i := (7, 0)) (ci := 4) (k := 4) (v := nI (tkP t len e)) cx a7_0 rfl rfl rfl (by decide) inX4 lfX4_37 dX4_nextToken_48 (SE.s) ?_
          refine g_putI (i := (7, 0)) (ci := 4) (k := 5) cx a7_0 rfl rfl rfl (by decide) inX4 tyX4_ok nmX4 rfl rfl lfX4_26 dX4_nextToken_51 ?_
          refine g_wd (D' := SE E (tkP t len e) (tkP t len e)) (SE.we) ?_
          have lp2 : ∀ (fu : Nat) (q : Nat), len - q < fu → (q ≤ len) → (rnE t 1 (len - q) q = rnE t 1 (len - tkP t len e) (tkP t len e)) → Gk X mX4_nextToken idsA 54 [some (vr (7, 0))] [] (SE E (tkP t len e) q) := by
            intro fu
            induction fu with
            | zero => intro q hfu; exact absurd hfu (Nat.not_lt_zero _)
            | succ fu ih_lp2 =>
              intro q hfu hq hm2
              refine g_aload_n cx dX4_nextToken_54 rfl ?_
              refine g_getIN (i := (7, 0)) (ci := 4) (k := 5) (v := nI q) cx a7_0 rfl rfl rfl (by decide) inX4 lfX4_26 dX4_nextToken_55 (SE.e) ?_
              refine g_aload_n cx dX4_nextToken_58 rfl ?_
              refine g_getIN (i := (7, 0)) (ci := 4) (k := 1) (v := nI len) cx a7_0 rfl rfl rfl (by decide) inX4 lfX4_43 dX4_nextToken_59 ((SE.T hX).1) ?_
              refine g_icmp_geN (tgt := 89) cx dX4_nextToken_62 (by decide) (by omega) (by omega) (fun h_62 => ?_) (fun h_62 => ?_)
              · skip
                refine g_wd (D' := SE E (tkP t len e) (rnE t 1 (len - tkP t len e) (tkP t len e))) (by rw [← rn_z h_62 hm2]) ?_
                refine g_aload_n cx dX4_nextToken_89 rfl ?_
                refine g_getIN (i := (7, 0)) (ci := 4) (k := 5) (v := nI (rnE t 1 (len - tkP t len e) (tkP t len e))) cx a7_0 rfl rfl rfl (by decide) inX4 lfX4_26 dX4_nextToken_90 (SE.e) ?_
                refine g_aload_n cx dX4_nextToken_93 rfl ?_
                refine g_getIN (i := (7, 0)) (ci := 4) (k := 4) (v := nI (tkP t len e)) cx a7_0 rfl rfl rfl (by decide) inX4 lfX4_37 dX4_nextToken_94 (SE.s) ?_
                refine g_icmp_neN (tgt := 135) cx dX4_nextToken_97 (by decide) (by omega) (by omega) (fun h_97 => ?_) (fun h_97 => ?_)
                · skip
                  refine g_aload_n cx dX4_nextToken_135 rfl ?_
                  refine g_getIN (i := (7, 0)) (ci := 4) (k := 5) (v := nI (rnE t 1 (len - tkP t len e) (tkP t len e))) cx a7_0 rfl rfl rfl (by decide) inX4 lfX4_26 dX4_nextToken_136 (SE.e) ?_
                  refine g_aload_n cx dX4_nextToken_139 rfl ?_
                  refine g_getIN (i := (7, 0)) (ci := 4) (k := 4) (v := nI (tkP t len e)) cx a7_0 rfl rfl rfl (by decide) inX4 lfX4_37 dX4_nextToken_140 (SE.s) ?_
                  refine g_icmp_neN (tgt := 167) cx dX4_nextToken_143 (by decide) (by omega) (by omega) (fun h_143 => ?_) (fun h_143 => ?_)
                  · skip
                    exact g_fvret cx rq rfl dX4_nextToken_167 rfl (by first | rw [tkE_1 hpk.2 h_97] | rw [tkE_1 hpk.2 h_143])
                  · skip
                    exact absurd h_143 h_97
                · skip
                  refine g_wd (D' := SE E (tkP t len e) (tkP t len e)) (by rw [h_97]) ?_
                  have lp3 : ∀ (fu : Nat) (q : Nat), len - q < fu → (q ≤ len) → (rnE t 2 (len - q) q = rnE t 2 (len - tkP t len e) (tkP t len e)) → Gk X mX4_nextToken idsA 100 [some (vr (7, 0))] [] (SE E (tkP t len e) q) := by
                    intro fu
                    induction fu with
                    | zero => intro q hfu; exact absurd hfu (Nat.not_lt_zero _)
                    | succ fu ih_lp3 =>
                      intro q hfu hq hm3
                      refine g_aload_n cx dX4_nextToken_100 rfl ?_
                      refine g_getIN (i := (7, 0)) (ci := 4) (k := 5) (v := nI q) cx a7_0 rfl rfl rfl (by decide) inX4 lfX4_26 dX4_nextToken_101 (SE.e) ?_
                      refine g_aload_n cx dX4_nextToken_104 rfl ?_
                      refine g_getIN (i := (7, 0)) (ci := 4) (k := 1) (v := nI len) cx a7_0 rfl rfl rfl (by decide) inX4 lfX4_43 dX4_nextToken_105 ((SE.T hX).1) ?_
                      refine g_icmp_geN (tgt := 135) cx dX4_nextToken_108 (by decide) (by omega) (by omega) (fun h_108 => ?_) (fun h_108 => ?_)
                      · skip
                        refine g_wd (D' := SE E (tkP t len e) (rnE t 2 (len - tkP t len e) (tkP t len e))) (by rw [← rn_z h_108 hm3]) ?_
                        refine g_aload_n cx dX4_nextToken_135 rfl ?_
                        refine g_getIN (i := (7, 0)) (ci := 4) (k := 5) (v := nI (rnE t 2 (len - tkP t len e) (tkP t len e))) cx a7_0 rfl rfl rfl (by decide) inX4 lfX4_26 dX4_nextToken_136 (SE.e) ?_
                        refine g_aload_n cx dX4_nextToken_139 rfl ?_
                        refine g_getIN (i := (7, 0)) (ci := 4) (k := 4) (v := nI (tkP t len e)) cx a7_0 rfl rfl rfl (by decide) inX4 lfX4_37 dX4_nextToken_140 (SE.s) ?_
                        refine g_icmp_neN (tgt := 167) cx dX4_nextToken_143 (by decide) (by omega) (by omega) (fun h_143 => ?_) (fun h_143 => ?_)
                        · skip
                          exact g_fvret cx rq rfl dX4_nextToken_167 rfl (by rw [tkE_2 hpk.2 h_143])
                        · skip
                          refine g_wd (D' := SE E (tkP t len e) (tkP t len e)) (by rw [h_143]) ?_
                          refine g_aload_n cx dX4_nextToken_146 rfl ?_
                          refine g_getIN (i := (7, 0)) (ci := 4) (k := 5) (v := nI (tkP t len e)) cx a7_0 rfl rfl rfl (by decide) inX4 lfX4_26 dX4_nextToken_147 (SE.e) ?_
                          refine g_aload_n cx dX4_nextToken_150 rfl ?_
                          refine g_getIN (i := (7, 0)) (ci := 4) (k := 1) (v := nI len) cx a7_0 rfl rfl rfl (by decide) inX4 lfX4_43 dX4_nextToken_151 ((SE.T hX).1) ?_
                          refine g_icmp_geN (tgt := 167) cx dX4_nextToken_154 (by decide) (by omega) (by omega) (fun h_154 => ?_) (fun h_154 => ?_)
                          · skip
                            exact g_fvret cx rq rfl dX4_nextToken_167 rfl (by rw [← tkE_z (by omega)])
                          · skip
                            refine g_aload_n cx dX4_nextToken_157 rfl ?_
                            refine g_dup cx dX4_nextToken_158 rfl ?_
                            refine g_getIN (i := (7, 0)) (ci := 4) (k := 5) (v := nI (tkP t len e)) cx a7_0 rfl rfl rfl (by decide) inX4 lfX4_26 dX4_nextToken_159 (SE.e) ?_
                            refine g_iconst (v := nI 1) cx dX4_nextToken_162 (by decide) ?_
                            refine g_iaddN cx dX4_nextToken_163 ?_
                            refine g_putI (i := (7, 0)) (ci := 4) (k := 5) cx a7_0 rfl rfl rfl (by decide) inX4 tyX4_ok nmX4 rfl rfl lfX4_26 dX4_nextToken_164 ?_
                            refine g_wd (D' := SE E (tkP t len e) (tkP t len e + 1)) (SE.we) ?_
                            exact g_fvret cx rq rfl dX4_nextToken_167 rfl (by rw [tkE_0 h_154 (tkE_1n h_97 h_154) (tkE_2n h_143 h_154)])
                      · skip
                        refine g_aload_n cx dX4_nextToken_111 rfl ?_
                        refine g_aload_n cx dX4_nextToken_112 rfl ?_
                        refine g_getIN (i := (7, 0)) (ci := 4) (k := 5) (v := nI q) cx a7_0 rfl rfl rfl (by decide) inX4 lfX4_26 dX4_nextToken_113 (SE.e) ?_
                        refine g_fcallV (As := [vi (nI q)]) (rest := []) cx knX4_isDigit (x_isDigit (SE.T hX) (q := q) (by omega)) a7_0 rfl rfl lmX4_121 niX4_isDigit seX4_isDigit rfl (by decide) (Nat.le_of_ble_eq_true rfl) rfl dX4_nextToken_116 ?_
                        refine g_if_eqB (tgt := 135) cx dX4_nextToken_119 (by decide) (fun h_119 => ?_) (fun h_119 => ?_)
                        · skip
                          refine g_wd (D' := SE E (tkP t len e) (rnE t 2 (len - tkP t len e) (tkP t len e))) (by rw [← rn_n h_108 h_119 hm3]) ?_
                          refine g_aload_n cx dX4_nextToken_135 rfl ?_
                          refine g_getIN (i := (7, 0)) (ci := 4) (k := 5) (v := nI (rnE t 2 (len - tkP t len e) (tkP t len e))) cx a7_0 rfl rfl rfl (by decide) inX4 lfX4_26 dX4_nextToken_136 (SE.e) ?_
                          refine g_aload_n cx dX4_nextToken_139 rfl ?_
                          refine g_getIN (i := (7, 0)) (ci := 4) (k := 4) (v := nI (tkP t len e)) cx a7_0 rfl rfl rfl (by decide) inX4 lfX4_37 dX4_nextToken_140 (SE.s) ?_
                          refine g_icmp_neN (tgt := 167) cx dX4_nextToken_143 (by decide) (by omega) (by omega) (fun h_143 => ?_) (fun h_143 => ?_)
                          · skip
                            exact g_fvret cx rq rfl dX4_nextToken_167 rfl (by rw [tkE_2 hpk.2 h_143])
                          · skip
                            refine g_wd (D' := SE E (tkP t len e) (tkP t len e)) (by rw [h_143]) ?_
                            refine g_aload_n cx dX4_nextToken_146 rfl ?_
                            refine g_getIN (i := (7, 0)) (ci := 4) (k := 5) (v := nI (tkP t len e)) cx a7_0 rfl rfl rfl (by decide) inX4 lfX4_26 dX4_nextToken_147 (SE.e) ?_
                            refine g_aload_n cx dX4_nextToken_150 rfl ?_
                            refine g_getIN (i := (7, 0)) (ci := 4) (k := 1) (v := nI len) cx a7_0 rfl rfl rfl (by decide) inX4 lfX4_43 dX4_nextToken_151 ((SE.T hX).1) ?_
                            refine g_icmp_geN (tgt := 167) cx dX4_nextToken_154 (by decide) (by omega) (by omega) (fun h_154 => ?_) (fun h_154 => ?_)
                            · skip
                              exact g_fvret cx rq rfl dX4_nextToken_167 rfl (by rw [← tkE_z (by omega)])
                            · skip
                              refine g_aload_n cx dX4_nextToken_157 rfl ?_
                              refine g_dup cx dX4_nextToken_158 rfl ?_
                              refine g_getIN (i := (7, 0)) (ci := 4) (k := 5) (v := nI (tkP t len e)) cx a7_0 rfl rfl rfl (by decide) inX4 lfX4_26 dX4_nextToken_159 (SE.e) ?_
                              refine g_iconst (v := nI 1) cx dX4_nextToken_162 (by decide) ?_
                              refine g_iaddN cx dX4_nextToken_163 ?_
                              refine g_putI (i := (7, 0)) (ci := 4) (k := 5) cx a7_0 rfl rfl rfl (by decide) inX4 tyX4_ok nmX4 rfl rfl lfX4_26 dX4_nextToken_164 ?_
                              refine g_wd (D' := SE E (tkP t len e) (tkP t len e + 1)) (SE.we) ?_
                              exact g_fvret cx rq rfl dX4_nextToken_167 rfl (by rw [tkE_0 h_154 (tkE_1n h_97 h_154) (tkE_2n h_143 h_154)])
                        · skip
                          refine g_aload_n cx dX4_nextToken_122 rfl ?_
                          refine g_dup cx dX4_nextToken_123 rfl ?_
                          refine g_getIN (i := (7, 0)) (ci := 4) (k := 5) (v := nI q) cx a7_0 rfl rfl rfl (by decide) inX4 lfX4_26 dX4_nextToken_124 (SE.e) ?_
                          refine g_iconst (v := nI 1) cx dX4_nextToken_127 (by decide) ?_
                          refine g_iaddN cx dX4_nextToken_128 ?_
                          refine g_putI (i := (7, 0)) (ci := 4) (k := 5) cx a7_0 rfl rfl rfl (by decide) inX4 tyX4_ok nmX4 rfl rfl lfX4_26 dX4_nextToken_129 ?_
                          refine g_wd (D' := SE E (tkP t len e) (q + 1)) (SE.we) ?_
                          refine g_goto (tgt := 100) cx dX4_nextToken_132 (by decide) ?_
                          exact ih_lp3 (q + 1) (by omega) (by omega) (rn_y (by decide) h_108 h_119 hm3)
                  exact lp3 (len + 1) (tkP t len e) (by omega) (by omega) rfl
              · skip
                refine g_aload_n cx dX4_nextToken_65 rfl ?_
                refine g_aload_n cx dX4_nextToken_66 rfl ?_
                refine g_getIN (i := (7, 0)) (ci := 4) (k := 5) (v := nI q) cx a7_0 rfl rfl rfl (by decide) inX4 lfX4_26 dX4_nextToken_67 (SE.e) ?_
                refine g_fcallV (As := [vi (nI q)]) (rest := []) cx knX4_isLetter (x_isLetter (SE.T hX) (q := q) (by omega)) a7_0 rfl rfl lmX4_118 niX4_isLetter seX4_isLetter rfl (by decide) (Nat.le_of_ble_eq_true rfl) rfl dX4_nextToken_70 ?_
                refine g_if_eqB (tgt := 89) cx dX4_nextToken_73 (by decide) (fun h_73 => ?_) (fun h_73 => ?_)
                · skip
                  refine g_wd (D' := SE E (tkP t len e) (rnE t 1 (len - tkP t len e) (tkP t len e))) (by rw [← rn_n h_62 h_73 hm2]) ?_
                  refine g_aload_n cx dX4_nextToken_89 rfl ?_
                  refine g_getIN (i := (7, 0)) (ci := 4) (k := 5) (v := nI (rnE t 1 (len - tkP t len e) (tkP t len e))) cx a7_0 rfl rfl rfl (by decide) inX4 lfX4_26 dX4_nextToken_90 (SE.e) ?_
                  refine g_aload_n cx dX4_nextToken_93 rfl ?_
                  refine g_getIN (i := (7, 0)) (ci := 4) (k := 4) (v := nI (tkP t len e)) cx a7_0 rfl rfl rfl (by decide) inX4 lfX4_37 dX4_nextToken_94 (SE.s) ?_
                  refine g_icmp_neN (tgt := 135) cx dX4_nextToken_97 (by decide) (by omega) (by omega) (fun h_97 => ?_) (fun h_97 => ?_)
                  · skip
                    refine g_aload_n cx dX4_nextToken_135 rfl ?_
                    refine g_getIN (i := (7, 0)) (ci := 4) (k := 5) (v := nI (rnE t 1 (len - tkP t len e) (tkP t len e))) cx a7_0 rfl rfl rfl (by decide) inX4 lfX4_26 dX4_nextToken_136 (SE.e) ?_
                    refine g_aload_n cx dX4_nextToken_139 rfl ?_
                    refine g_getIN (i := (7, 0)) (ci := 4) (k := 4) (v := nI (tkP t len e)) cx a7_0 rfl rfl rfl (by decide) inX4 lfX4_37 dX4_nextToken_140 (SE.s) ?_
                    refine g_icmp_neN (tgt := 167) cx dX4_nextToken_143 (by decide) (by omega) (by omega) (fun h_143 => ?_) (fun h_143 => ?_)
                    · skip
                      exact g_fvret cx rq rfl dX4_nextToken_167 rfl (by first | rw [tkE_1 hpk.2 h_97] | rw [tkE_1 hpk.2 h_143])
                    · skip
                      exact absurd h_143 h_97
                  · skip
                    refine g_wd (D' := SE E (tkP t len e) (tkP t len e)) (by rw [h_97]) ?_
                    have lp3 : ∀ (fu : Nat) (q : Nat), len - q < fu → (q ≤ len) → (rnE t 2 (len - q) q = rnE t 2 (len - tkP t len e) (tkP t len e)) → Gk X mX4_nextToken idsA 100 [some (vr (7, 0))] [] (SE E (tkP t len e) q) := by
                      intro fu
                      induction fu with
                      | zero => intro q hfu; exact absurd hfu (Nat.not_lt_zero _)
                      | succ fu ih_lp3 =>
                        intro q hfu hq hm3
                        refine g_aload_n cx dX4_nextToken_100 rfl ?_
                        refine g_getIN (i := (7, 0)) (ci := 4) (k := 5) (v := nI q) cx a7_0 rfl rfl rfl (by decide) inX4 lfX4_26 dX4_nextToken_101 (SE.e) ?_
                        refine g_aload_n cx dX4_nextToken_104 rfl ?_
                        refine g_getIN (i := (7, 0)) (ci := 4) (k := 1) (v := nI len) cx a7_0 rfl rfl rfl (by decide) inX4 lfX4_43 dX4_nextToken_105 ((SE.T hX).1) ?_
                        refine g_icmp_geN (tgt := 135) cx dX4_nextToken_108 (by decide) (by omega) (by omega) (fun h_108 => ?_) (fun h_108 => ?_)
                        · skip
                          refine g_wd (D' := SE E (tkP t len e) (rnE t 2 (len - tkP t len e) (tkP t len e))) (by rw [← rn_z h_108 hm3]) ?_
                          refine g_aload_n cx dX4_nextToken_135 rfl ?_
                          refine g_getIN (i := (7, 0)) (ci := 4) (k := 5) (v := nI (rnE t 2 (len - tkP t len e) (tkP t len e))) cx a7_0 rfl rfl rfl (by decide) inX4 lfX4_26 dX4_nextToken_136 (SE.e) ?_
                          refine g_aload_n cx dX4_nextToken_139 rfl ?_
                          refine g_getIN (i := (7, 0)) (ci := 4) (k := 4) (v := nI (tkP t len e)) cx a7_0 rfl rfl rfl (by decide) inX4 lfX4_37 dX4_nextToken_140 (SE.s) ?_
                          refine g_icmp_neN (tgt := 167) cx dX4_nextToken_143 (by decide) (by omega) (by omega) (fun h_143 => ?_) (fun h_143 => ?_)
                          · skip
                            exact g_fvret cx rq rfl dX4_nextToken_167 rfl (by rw [tkE_2 hpk.2 h_143])
                          · skip
                            refine g_wd (D' := SE E (tkP t len e) (tkP t len e)) (by rw [h_143]) ?_
                            refine g_aload_n cx dX4_nextToken_146 rfl ?_
                            refine g_getIN (i := (7, 0)) (ci := 4) (k := 5) (v := nI (tkP t len e)) cx a7_0 rfl rfl rfl (by decide) inX4 lfX4_26 dX4_nextToken_147 (SE.e) ?_
                            refine g_aload_n cx dX4_nextToken_150 rfl ?_
                            refine g_getIN (i := (7, 0)) (ci := 4) (k := 1) (v := nI len) cx a7_0 rfl rfl rfl (by decide) inX4 lfX4_43 dX4_nextToken_151 ((SE.T hX).1) ?_
                            refine g_icmp_geN (tgt := 167) cx dX4_nextToken_154 (by decide) (by omega) (by omega) (fun h_154 => ?_) (fun h_154 => ?_)
                            · skip
                              exact g_fvret cx rq rfl dX4_nextToken_167 rfl (by rw [← tkE_z (by omega)])
                            · skip
                              refine g_aload_n cx dX4_nextToken_157 rfl ?_
                              refine g_dup cx dX4_nextToken_158 rfl ?_
                              refine g_getIN (i := (7, 0)) (ci := 4) (k := 5) (v := nI (tkP t len e)) cx a7_0 rfl rfl rfl (by decide) inX4 lfX4_26 dX4_nextToken_159 (SE.e) ?_
                              refine g_iconst (v := nI 1) cx dX4_nextToken_162 (by decide) ?_
                              refine g_iaddN cx dX4_nextToken_163 ?_
                              refine g_putI (i := (7, 0)) (ci := 4) (k := 5) cx a7_0 rfl rfl rfl (by decide) inX4 tyX4_ok nmX4 rfl rfl lfX4_26 dX4_nextToken_164 ?_
                              refine g_wd (D' := SE E (tkP t len e) (tkP t len e + 1)) (SE.we) ?_
                              exact g_fvret cx rq rfl dX4_nextToken_167 rfl (by rw [tkE_0 h_154 (tkE_1n h_97 h_154) (tkE_2n h_143 h_154)])
                        · skip
                          refine g_aload_n cx dX4_nextToken_111 rfl ?_
                          refine g_aload_n cx dX4_nextToken_112 rfl ?_
                          refine g_getIN (i := (7, 0)) (ci := 4) (k := 5) (v := nI q) cx a7_0 rfl rfl rfl (by decide) inX4 lfX4_26 dX4_nextToken_113 (SE.e) ?_
                          refine g_fcallV (As := [vi (nI q)]) (rest := []) cx knX4_isDigit (x_isDigit (SE.T hX) (q := q) (by omega)) a7_0 rfl rfl lmX4_121 niX4_isDigit seX4_isDigit rfl (by decide) (Nat.le_of_ble_eq_true rfl) rfl dX4_nextToken_116 ?_
                          refine g_if_eqB (tgt := 135) cx dX4_nextToken_119 (by decide) (fun h_119 => ?_) (fun h_119 => ?_)
                          · skip
                            refine g_wd (D' := SE E (tkP t len e) (rnE t 2 (len - tkP t len e) (tkP t len e))) (by rw [← rn_n h_108 h_119 hm3]) ?_
                            refine g_aload_n cx dX4_nextToken_135 rfl ?_
                            refine g_getIN (i := (7, 0)) (ci := 4) (k := 5) (v := nI (rnE t 2 (len - tkP t len e) (tkP t len e))) cx a7_0 rfl rfl rfl (by decide) inX4 lfX4_26 dX4_nextToken_136 (SE.e) ?_
                            refine g_aload_n cx dX4_nextToken_139 rfl ?_
                            refine g_getIN (i := (7, 0)) (ci := 4) (k := 4) (v := nI (tkP t len e)) cx a7_0 rfl rfl rfl (by decide) inX4 lfX4_37 dX4_nextToken_140 (SE.s) ?_
                            refine g_icmp_neN (tgt := 167) cx dX4_nextToken_143 (by decide) (by omega) (by omega) (fun h_143 => ?_) (fun h_143 => ?_)
                            · skip
                              exact g_fvret cx rq rfl dX4_nextToken_167 rfl (by rw [tkE_2 hpk.2 h_143])
                            · skip
                              refine g_wd (D' := SE E (tkP t len e) (tkP t len e)) (by rw [h_143]) ?_
                              refine g_aload_n cx dX4_nextToken_146 rfl ?_
                              refine g_getIN (i := (7, 0)) (ci := 4) (k := 5) (v := nI (tkP t len e)) cx a7_0 rfl rfl rfl (by decide) inX4 lfX4_26 dX4_nextToken_147 (SE.e) ?_
                              refine g_aload_n cx dX4_nextToken_150 rfl ?_
                              refine g_getIN (i := (7, 0)) (ci := 4) (k := 1) (v := nI len) cx a7_0 rfl rfl rfl (by decide) inX4 lfX4_43 dX4_nextToken_151 ((SE.T hX).1) ?_
                              refine g_icmp_geN (tgt := 167) cx dX4_nextToken_154 (by decide) (by omega) (by omega) (fun h_154 => ?_) (fun h_154 => ?_)
                              · skip
                                exact g_fvret cx rq rfl dX4_nextToken_167 rfl (by rw [← tkE_z (by omega)])
                              · skip
                                refine g_aload_n cx dX4_nextToken_157 rfl ?_
                                refine g_dup cx dX4_nextToken_158 rfl ?_
                                refine g_getIN (i := (7, 0)) (ci := 4) (k := 5) (v := nI (tkP t len e)) cx a7_0 rfl rfl rfl (by decide) inX4 lfX4_26 dX4_nextToken_159 (SE.e) ?_
                                refine g_iconst (v := nI 1) cx dX4_nextToken_162 (by decide) ?_
                                refine g_iaddN cx dX4_nextToken_163 ?_
                                refine g_putI (i := (7, 0)) (ci := 4) (k := 5) cx a7_0 rfl rfl rfl (by decide) inX4 tyX4_ok nmX4 rfl rfl lfX4_26 dX4_nextToken_164 ?_
                                refine g_wd (D' := SE E (tkP t len e) (tkP t len e + 1)) (SE.we) ?_
                                exact g_fvret cx rq rfl dX4_nextToken_167 rfl (by rw [tkE_0 h_154 (tkE_1n h_97 h_154) (tkE_2n h_143 h_154)])
                          · skip
                            refine g_aload_n cx dX4_nextToken_122 rfl ?_
                            refine g_dup cx dX4_nextToken_123 rfl ?_
                            refine g_getIN (i := (7, 0)) (ci := 4) (k := 5) (v := nI q) cx a7_0 rfl rfl rfl (by decide) inX4 lfX4_26 dX4_nextToken_124 (SE.e) ?_
                            refine g_iconst (v := nI 1) cx dX4_nextToken_127 (by decide) ?_
                            refine g_iaddN cx dX4_nextToken_128 ?_
                            refine g_putI (i := (7, 0)) (ci := 4) (k := 5) cx a7_0 rfl rfl rfl (by decide) inX4 tyX4_ok nmX4 rfl rfl lfX4_26 dX4_nextToken_129 ?_
                            refine g_wd (D' := SE E (tkP t len e) (q + 1)) (SE.we) ?_
                            refine g_goto (tgt := 100) cx dX4_nextToken_132 (by decide) ?_
                            exact ih_lp3 (q + 1) (by omega) (by omega) (rn_y (by decide) h_108 h_119 hm3)
                    exact lp3 (len + 1) (tkP t len e) (by omega) (by omega) rfl
                · skip
                  refine g_aload_n cx dX4_nextToken_76 rfl ?_
                  refine g_dup cx dX4_nextToken_77 rfl ?_
                  refine g_getIN (i := (7, 0)) (ci := 4) (k := 5) (v := nI q) cx a7_0 rfl rfl rfl (by decide) inX4 lfX4_26 dX4_nextToken_78 (SE.e) ?_
                  refine g_iconst (v := nI 1) cx dX4_nextToken_81 (by decide) ?_
                  refine g_iaddN cx dX4_nextToken_82 ?_
                  refine g_putI (i := (7, 0)) (ci := 4) (k := 5) cx a7_0 rfl rfl rfl (by decide) inX4 tyX4_ok nmX4 rfl rfl lfX4_26 dX4_nextToken_83 ?_
                  refine g_wd (D' := SE E (tkP t len e) (q + 1)) (SE.we) ?_
                  refine g_goto (tgt := 54) cx dX4_nextToken_86 (by decide) ?_
                  exact ih_lp2 (q + 1) (by omega) (by omega) (rn_y (by decide) h_62 h_73 hm2)
          exact lp2 (len + 1) (tkP t len e) (by omega) (by omega) rfl
        · skip
          refine g_aload_n cx dX4_nextToken_33 rfl ?_
          refine g_dup cx dX4_nextToken_34 rfl ?_
          refine g_getIN (i := (7, 0)) (ci := 4) (k := 4) (v := nI p) cx a7_0 rfl rfl rfl (by decide) inX4 lfX4_37 dX4_nextToken_35 (SE.s) ?_
          refine g_iconst (v := nI 1) cx dX4_nextToken_38 (by decide) ?_
          refine g_iaddN cx dX4_nextToken_39 ?_
          refine g_putI (i := (7, 0)) (ci := 4) (k := 4) cx a7_0 rfl rfl rfl (by decide) inX4 tyX4_ok nmX4 rfl rfl lfX4_37 dX4_nextToken_40 ?_
          refine g_wd (D' := SE E (p + 1) e) (SE.ws) ?_
          refine g_goto (tgt := 8) cx dX4_nextToken_43 (by decide) ?_
          exact ih_lp1 (p + 1) (by omega) (by omega) (sk_y h_16 ((sb_eq htp (by decide)).mp h_30) hm)
  exact lp1 (len + 1) e (by omega) (by omega) rfl

set_option maxRecDepth 100000 in
set_option maxHeartbeats 4000000 in
theorem x_numberHere {E : Wd} {t : Nat → Nat} {len : Nat} (hX : TXx E t len) {p e : Nat} (hS9 : E (7, 0) 4 = nI p) (hE9 : E (7, 0) 5 = nI e) (hp : p ≤ len) (hT : TK t len p e) : Fok mX4_numberHere idsA 1 [vr (7, 0)] E (some (vi (opI (nO t len p e)))) E := by
  obtain ⟨hLn, hl2, hBy⟩ := id hX
  obtain ⟨hk1, hk2, hk3, hk4⟩ := id hT
  refine Mok.of (L := [some (vr (7, 0)), none, none]) rfl (fun _ => Nat.le_of_ble_eq_true rfl) (fun _ => rfl) (fun X cx rq => ?_)
  refine g_aload_n cx dX4_numberHere_0 rfl ?_
  refine g_getIN (i := (7, 0)) (ci := 4) (k := 5) (v := nI e) cx a7_0 rfl rfl rfl (by decide) inX4 lfX4_26 dX4_numberHere_1 (hE9) ?_
  refine g_aload_n cx dX4_numberHere_4 rfl ?_
  refine g_getIN (i := (7, 0)) (ci := 4) (k := 4) (v := nI p) cx a7_0 rfl rfl rfl (by decide) inX4 lfX4_37 dX4_numberHere_5 (hS9) ?_
  refine g_icmp_eqN (tgt := 35) cx dX4_numberHere_8 (by decide) (by omega) (by omega) (fun h_8 => ?_) (fun h_8 => ?_)
  · skip
    refine g_iconst (v := (-1)) cx dX4_numberHere_35 (by decide) ?_
    exact g_fret cx rq rfl (rfl) dX4_numberHere_36 (by rw [nO, if_pos (by first | omega | exact Or.inr (Or.inl h_32))]; rfl) (rfl)
  · skip
    refine g_aload_n cx dX4_numberHere_11 rfl ?_
    refine g_getIN (i := (7, 0)) (ci := 4) (k := 5) (v := nI e) cx a7_0 rfl rfl rfl (by decide) inX4 lfX4_26 dX4_numberHere_12 (hE9) ?_
    refine g_aload_n cx dX4_numberHere_15 rfl ?_
    refine g_getIN (i := (7, 0)) (ci := 4) (k := 4) (v := nI p) cx a7_0 rfl rfl rfl (by decide) inX4 lfX4_37 dX4_numberHere_16 (hS9) ?_
    refine g_iconst (v := nI 2) cx dX4_numberHere_19 (by decide) ?_
    refine g_iaddN cx dX4_numberHere_20 ?_
    refine g_icmp_gtN (tgt := 35) cx dX4_numberHere_21 (by decide) (by omega) (by omega) (fun h_21 => ?_) (fun h_21 => ?_)
    · skip
      refine g_iconst (v := (-1)) cx dX4_numberHere_35 (by decide) ?_
      exact g_fret cx rq rfl (rfl) dX4_numberHere_36 (by rw [nO, if_pos (by first | omega | exact Or.inr (Or.inl h_32))]; rfl) (rfl)
    · skip
      refine g_aload_n cx dX4_numberHere_24 rfl ?_
      refine g_aload_n cx dX4_numberHere_25 rfl ?_
      refine g_getIN (i := (7, 0)) (ci := 4) (k := 4) (v := nI p) cx a7_0 rfl rfl rfl (by decide) inX4 lfX4_37 dX4_numberHere_26 (hS9) ?_
      refine g_fcallV (As := [vi (nI p)]) (rest := []) cx knX4_isDigit (x_isDigit hX (q := p) (by omega)) a7_0 rfl rfl lmX4_121 niX4_isDigit seX4_isDigit rfl (by decide) (Nat.le_of_ble_eq_true rfl) rfl dX4_numberHere_29 ?_
      refine g_if_neB (tgt := 37) cx dX4_numberHere_32 (by decide) (fun h_32 => ?_) (fun h_32 => ?_)
      · skip
        refine g_iconst (v := nI 0) cx dX4_numberHere_37 (by decide) ?_
        refine g_istore_n (L' := [some (vr (7, 0)), some (vi (nI 0)), none]) cx dX4_numberHere_38 (by decide) rfl rfl ?_
        refine g_aload_n cx dX4_numberHere_39 rfl ?_
        refine g_getIN (i := (7, 0)) (ci := 4) (k := 4) (v := nI p) cx a7_0 rfl rfl rfl (by decide) inX4 lfX4_37 dX4_numberHere_40 (hS9) ?_
        refine g_istore_n (L' := [some (vr (7, 0)), some (vi (nI 0)), some (vi (nI p))]) cx dX4_numberHere_43 (by decide) rfl rfl ?_
        have lp : ∀ (fu : Nat) (m : Nat), e - p - m < fu → (m ≤ e - p) → Gk X mX4_numberHere idsA 44 [some (vr (7, 0)), some (vi (nI (vG t p m))), some (vi (nI (p + m)))] [] E := by
          intro fu
          induction fu with
          | zero => intro m hfu; exact absurd hfu (Nat.not_lt_zero _)
          | succ fu ih_lp =>
            intro m hfu hm
            have hvl := vG_le (t := t) (p := p) m (by omega) (fun q hq => srt2 (by rw [hk4 (by omega) (by omega) (p + q) (by omega) (by omega)]; exact h_32))
            refine g_iload_n cx dX4_numberHere_44 rfl ?_
            refine g_aload_n cx dX4_numberHere_45 rfl ?_
            refine g_getIN (i := (7, 0)) (ci := 4) (k := 5) (v := nI e) cx a7_0 rfl rfl rfl (by decide) inX4 lfX4_26 dX4_numberHere_46 (hE9) ?_
            refine g_icmp_geN (tgt := 73) cx dX4_numberHere_49 (by decide) (by omega) (by omega) (fun h_49 => ?_) (fun h_49 => ?_)
            · skip
              refine g_iload_n cx dX4_numberHere_73 rfl ?_
              exact g_fret cx rq rfl (rfl) dX4_numberHere_74 (by rw [nO, if_neg (by omega), show e - p = m from by omega]; rfl) (rfl)
            · skip
              refine g_iload_n cx dX4_numberHere_52 rfl ?_
              refine g_bipush (v := nI 10) cx dX4_numberHere_53 (by decide) ?_
              refine g_imulN cx dX4_numberHere_55 ?_
              refine g_aload_n cx dX4_numberHere_56 rfl ?_
              refine g_getR (i := (7, 0)) (ci := 4) (k := 0) (j := (8, 0)) cx a7_0 rfl rfl rfl (by decide) inX4 lfX4_9 dX4_numberHere_57 ?_
              refine g_iload_n cx dX4_numberHere_60 rfl ?_
              refine g_bald (i := (8, 0)) (j := p + m) cx a8_0 rfl (rfl) (by omega) (by decide) dX4_numberHere_61 ?_
              refine g_top (y := (sbI (t (p + m)))) ((hBy (p + m) (by omega)).1) ?_
              have h4m : 48 ≤ t (p + m) ∧ t (p + m) ≤ 57 := srt2 (by rw [hk4 (by omega) (by omega) (p + m) (by omega) (by omega)]; exact h_32)
              refine g_top (sb_d (by omega)) ?_
              refine g_iaddN cx dX4_numberHere_62 ?_
              refine g_bipush (v := nI 48) cx dX4_numberHere_63 (by decide) ?_
              refine g_isubN cx dX4_numberHere_65 (by omega) ?_
              refine g_top (y := nI (vG t p (m + 1))) (by rw [vG, Nat.mul_comm (vG t p m) 10]) ?_
              refine g_istore_n (L' := [some (vr (7, 0)), some (vi (nI (vG t p (m + 1)))), some (vi (nI (p + m)))]) cx dX4_numberHere_66 (by decide) rfl rfl ?_
              refine g_iincN (L' := [some (vr (7, 0)), some (vi (nI (vG t p (m + 1)))), some (vi (nI ((p + m) + 1)))]) cx dX4_numberHere_67 rfl (by decide) rfl rfl ?_
              refine g_goto (tgt := 44) cx dX4_numberHere_70 (by decide) ?_
              exact ih_lp (m + 1) (by omega) (by omega)
        exact lp (e - p + 1) 0 (by omega) (by omega)
      · skip
        refine g_iconst (v := (-1)) cx dX4_numberHere_35 (by decide) ?_
        exact g_fret cx rq rfl (rfl) dX4_numberHere_36 (by rw [nO, if_pos (by first | omega | exact Or.inr (Or.inl h_32))]; rfl) (rfl)

set_option maxRecDepth 100000 in
set_option maxHeartbeats 4000000 in
theorem x_isHere {E : Wd} {t : Nat → Nat} {len : Nat} (hX : TXx E t len) {p e : Nat} (hS9 : E (7, 0) 4 = nI p) (hE9 : E (7, 0) 5 = nI e) (hp : p ≤ len) (hT : TK t len p e) {i : Nat} (hi : i < 10) : Fok mX4_isHere idsA 4 [vr (7, 0), vr (90, i)] E (some (vi (if isD t p e i = true then 1 else 0))) E := by
  obtain ⟨hLn, hl2, hBy⟩ := id hX
  obtain ⟨hk1, hk2, hk3, hk4⟩ := id hT
  have hwl := wls_le i hi
  refine Mok.of (L := [some (vr (7, 0)), some (vr (90, i)), none]) rfl (fun _ => Nat.le_of_ble_eq_true rfl) (fun _ => rfl) (fun X cx rq => ?_)
  refine g_aload_n cx dX4_isHere_0 rfl ?_
  refine g_getIN (i := (7, 0)) (ci := 4) (k := 5) (v := nI e) cx a7_0 rfl rfl rfl (by decide) inX4 lfX4_26 dX4_isHere_1 (hE9) ?_
  refine g_aload_n cx dX4_isHere_4 rfl ?_
  refine g_getIN (i := (7, 0)) (ci := 4) (k := 4) (v := nI p) cx a7_0 rfl rfl rfl (by decide) inX4 lfX4_37 dX4_isHere_5 (hS9) ?_
  refine g_isubN cx dX4_isHere_8 (by omega) ?_
  refine g_aload_n cx dX4_isHere_9 rfl ?_
  refine g_fcallK (As := []) (rest := [vi (nI (e - p))]) cx knJ0_length_8abf5 (s_length hi) rfl (hi) lmX4_132 niJ0_length_8abf5 seJ0_length_8abf5 rfl (by decide) (Nat.le_of_ble_eq_true rfl) rfl dX4_isHere_10 ?_
  refine g_icmp_eqN (tgt := 18) cx dX4_isHere_13 (by decide) (by omega) (by omega) (fun h_13 => ?_) (fun h_13 => ?_)
  · skip
    refine g_iconst (v := nI 0) cx dX4_isHere_18 (by decide) ?_
    refine g_istore_n (L' := [some (vr (7, 0)), some (vr (90, i)), some (vi (nI 0))]) cx dX4_isHere_19 (by decide) rfl rfl ?_
    have lp : ∀ (fu : Nat) (j : Nat), wls i - j < fu → (j ≤ wls i) → (∀ q, q < j → t (p + q) = wbs i q) → Gk X mX4_isHere idsA 20 [some (vr (7, 0)), some (vr (90, i)), some (vi (nI j))] [] E := by
      intro fu
      induction fu with
      | zero => intro j hfu; exact absurd hfu (Nat.not_lt_zero _)
      | succ fu ih_lp =>
        intro j hfu hj hall
        refine g_iload_n cx dX4_isHere_20 rfl ?_
        refine g_aload_n cx dX4_isHere_21 rfl ?_
        refine g_fcallK (As := []) (rest := [vi (nI j)]) cx knJ0_length_8abf5 (s_length hi) rfl (hi) lmX4_132 niJ0_length_8abf5 seJ0_length_8abf5 rfl (by decide) (Nat.le_of_ble_eq_true rfl) rfl dX4_isHere_22 ?_
        refine g_icmp_geN (tgt := 55) cx dX4_isHere_25 (by decide) (by omega) (by omega) (fun h_25 => ?_) (fun h_25 => ?_)
        · skip
          refine g_iconst (v := nI 1) cx dX4_isHere_55 (by decide) ?_
          exact g_fret cx rq rfl (by rfl) dX4_isHere_56 (by rw [bi_t (c := isD t p e i = true) (isD_y h_13 (fun q hq => hall q (by omega)))]) (rfl)
        · skip
          refine g_aload_n cx dX4_isHere_28 rfl ?_
          refine g_getR (i := (7, 0)) (ci := 4) (k := 0) (j := (8, 0)) cx a7_0 rfl rfl rfl (by decide) inX4 lfX4_9 dX4_isHere_29 ?_
          refine g_aload_n cx dX4_isHere_32 rfl ?_
          refine g_getIN (i := (7, 0)) (ci := 4) (k := 4) (v := nI p) cx a7_0 rfl rfl rfl (by decide) inX4 lfX4_37 dX4_isHere_33 (hS9) ?_
          refine g_iload_n cx dX4_isHere_36 rfl ?_
          refine g_iaddN cx dX4_isHere_37 ?_
          refine g_bald (i := (8, 0)) (j := p + j) cx a8_0 rfl (rfl) (by omega) (by decide) dX4_isHere_38 ?_
          refine g_top (y := (sbI (t (p + j)))) ((hBy (p + j) (by omega)).1) ?_
          refine g_aload_n cx dX4_isHere_39 rfl ?_
          refine g_iload_n cx dX4_isHere_40 rfl ?_
          refine g_fcallK (As := [vi (nI j)]) (rest := [vi (sbI (t (p + j)))]) cx knJ0_charAt_5068e (s_charAt (i := i) (j := j) hi (by omega)) rfl (hi) lmX4_136 niJ0_charAt_5068e seJ0_charAt_5068e rfl (by decide) (Nat.le_of_ble_eq_true rfl) rfl dX4_isHere_41 ?_
          have hb5 := (hBy (p + j) (by omega)).2
          have hb6 := (sBy_w i hi j (by omega)).2
          refine g_icmp_eq (tgt := 49) cx dX4_isHere_44 (by decide) (fun h_44 => ?_) (fun h_44 => ?_)
          · skip
            refine g_iincN (L' := [some (vr (7, 0)), some (vr (90, i)), some (vi (nI (j + 1)))]) cx dX4_isHere_49 rfl (by decide) rfl rfl ?_
            refine g_goto (tgt := 20) cx dX4_isHere_52 (by decide) ?_
            exact ih_lp (j + 1) (by omega) (by omega) (lt_s (p := fun z => t (p + z) = wbs i z) hall ((sb_eq hb5 hb6).mp h_44))
          · skip
            refine g_iconst (v := nI 0) cx dX4_isHere_47 (by decide) ?_
            exact g_fret cx rq rfl (by rfl) dX4_isHere_48 (by rw [bi_f (c := isD t p e i = true) (isD_n2 h_25 (fun z => h_44 ((sb_eq hb5 hb6).mpr z)))]) (rfl)
    exact lp (wls i + 1) 0 (by omega) (by omega) (fun q hq => absurd hq (Nat.not_lt_zero q))
  · skip
    refine g_iconst (v := nI 0) cx dX4_isHere_16 (by decide) ?_
    exact g_fret cx rq rfl (by rfl) dX4_isHere_17 (by rw [bi_f (c := isD t p e i = true) (isD_n1 h_13)]) (rfl)

set_option maxRecDepth 100000 in
set_option maxHeartbeats 4000000 in
theorem x_spelling {E : Wd} {w : Nat} (hw : w < 10) : Fok mX4_spelling idsA 0 [vi (nI w)] E (some (vr (90, w))) E := by
  refine Mok.of (L := [some (vi (nI w))]) rfl (fun _ => Nat.le_of_ble_eq_true rfl) (fun _ => rfl) (fun X cx rq => ?_)
  refine g_iload_n cx dX4_spelling_0 rfl ?_
  have hcs : w = 0 ∨ w = 1 ∨ w = 2 ∨ w = 3 ∨ w = 4 ∨ w = 5 ∨ w = 6 ∨ w = 7 ∨ w = 8 ∨ w = 9 := by omega
  rcases hcs with rfl | rfl | rfl | rfl | rfl | rfl | rfl | rfl | rfl | rfl
  · skip
    refine g_tabIn (off := 51) (tgt := 52) cx dX4_spelling_1 (by decide) (by decide) (by decide) (by decide) ?_
    refine g_ldcS (i := 0) cx rfl (by decide) rfl rfl dX4_spelling_52 ?_
    exact g_faret cx rq rfl (Or.inl ⟨_, rfl⟩) dX4_spelling_54 (rfl) (rfl)
  · skip
    refine g_tabIn (off := 54) (tgt := 55) cx dX4_spelling_1 (by decide) (by decide) (by decide) (by decide) ?_
    refine g_ldcS (i := 1) cx rfl (by decide) rfl rfl dX4_spelling_55 ?_
    exact g_faret cx rq rfl (Or.inl ⟨_, rfl⟩) dX4_spelling_57 (rfl) (rfl)
  · skip
    refine g_tabIn (off := 57) (tgt := 58) cx dX4_spelling_1 (by decide) (by decide) (by decide) (by decide) ?_
    refine g_ldcS (i := 2) cx rfl (by decide) rfl rfl dX4_spelling_58 ?_
    exact g_faret cx rq rfl (Or.inl ⟨_, rfl⟩) dX4_spelling_60 (rfl) (rfl)
  · skip
    refine g_tabIn (off := 60) (tgt := 61) cx dX4_spelling_1 (by decide) (by decide) (by decide) (by decide) ?_
    refine g_ldcS (i := 3) cx rfl (by decide) rfl rfl dX4_spelling_61 ?_
    exact g_faret cx rq rfl (Or.inl ⟨_, rfl⟩) dX4_spelling_63 (rfl) (rfl)
  · skip
    refine g_tabIn (off := 63) (tgt := 64) cx dX4_spelling_1 (by decide) (by decide) (by decide) (by decide) ?_
    refine g_ldcS (i := 4) cx rfl (by decide) rfl rfl dX4_spelling_64 ?_
    exact g_faret cx rq rfl (Or.inl ⟨_, rfl⟩) dX4_spelling_66 (rfl) (rfl)
  · skip
    refine g_tabIn (off := 66) (tgt := 67) cx dX4_spelling_1 (by decide) (by decide) (by decide) (by decide) ?_
    refine g_ldcS (i := 5) cx rfl (by decide) rfl rfl dX4_spelling_67 ?_
    exact g_faret cx rq rfl (Or.inl ⟨_, rfl⟩) dX4_spelling_69 (rfl) (rfl)
  · skip
    refine g_tabIn (off := 69) (tgt := 70) cx dX4_spelling_1 (by decide) (by decide) (by decide) (by decide) ?_
    refine g_ldcS (i := 6) cx rfl (by decide) rfl rfl dX4_spelling_70 ?_
    exact g_faret cx rq rfl (Or.inl ⟨_, rfl⟩) dX4_spelling_72 (rfl) (rfl)
  · skip
    refine g_tabIn (off := 72) (tgt := 73) cx dX4_spelling_1 (by decide) (by decide) (by decide) (by decide) ?_
    refine g_ldcS (i := 7) cx rfl (by decide) rfl rfl dX4_spelling_73 ?_
    exact g_faret cx rq rfl (Or.inl ⟨_, rfl⟩) dX4_spelling_75 (rfl) (rfl)
  · skip
    refine g_tabIn (off := 75) (tgt := 76) cx dX4_spelling_1 (by decide) (by decide) (by decide) (by decide) ?_
    refine g_ldcS (i := 8) cx rfl (by decide) rfl rfl dX4_spelling_76 ?_
    exact g_faret cx rq rfl (Or.inl ⟨_, rfl⟩) dX4_spelling_78 (rfl) (rfl)
  · skip
    refine g_tabOut (tgt := 79) cx dX4_spelling_1 (by decide) (by decide) ?_
    refine g_ldcS (i := 9) cx rfl (by decide) rfl rfl dX4_spelling_79 ?_
    exact g_faret cx rq rfl (Or.inl ⟨_, rfl⟩) dX4_spelling_81 (rfl) (rfl)

set_option maxRecDepth 100000 in
set_option maxHeartbeats 4000000 in
theorem x_wordHere {E : Wd} {t : Nat → Nat} {len : Nat} (hX : TXx E t len) {p e : Nat} (hS9 : E (7, 0) 4 = nI p) (hE9 : E (7, 0) 5 = nI e) (hp : p ≤ len) (hT : TK t len p e) : Fok mX4_wordHere idsA 5 [vr (7, 0)] E (some (vi (opI (wOf t p e)))) E := by
  obtain ⟨hLn, hl2, hBy⟩ := id hX
  obtain ⟨hk1, hk2, hk3, hk4⟩ := id hT
  refine Mok.of (L := [some (vr (7, 0)), none]) rfl (fun _ => Nat.le_of_ble_eq_true rfl) (fun _ => rfl) (fun X cx rq => ?_)
  refine g_iconst (v := nI 0) cx dX4_wordHere_0 (by decide) ?_
  refine g_istore_n (L' := [some (vr (7, 0)), some (vi (nI 0))]) cx dX4_wordHere_1 (by decide) rfl rfl ?_
  have lp : ∀ (fu : Nat) (w : Nat), 10 - w < fu → (w ≤ 10) → (∀ v, v < w → ¬ isD t p e v = true) → Gk X mX4_wordHere idsA 2 [some (vr (7, 0)), some (vi (nI w))] [] E := by
    intro fu
    induction fu with
    | zero => intro w hfu; exact absurd hfu (Nat.not_lt_zero _)
    | succ fu ih_lp =>
      intro w hfu hw hno
      refine g_iload_n cx dX4_wordHere_2 rfl ?_
      refine g_bipush (v := nI 9) cx dX4_wordHere_3 (by decide) ?_
      refine g_icmp_gtN (tgt := 27) cx dX4_wordHere_5 (by decide) (by omega) (by omega) (fun h_5 => ?_) (fun h_5 => ?_)
      · skip
        refine g_iconst (v := (-1)) cx dX4_wordHere_27 (by decide) ?_
        exact g_fret cx rq rfl (rfl) dX4_wordHere_28 (by rw [wOf_none (fun v hv => hno v (by omega))]; rfl) (rfl)
      · skip
        refine g_aload_n cx dX4_wordHere_8 rfl ?_
        refine g_iload_n cx dX4_wordHere_9 rfl ?_
        refine g_fcallS (As := [vi (nI w)]) (rest := [vr (7, 0)]) cx knX4_spelling (x_spelling (w := w) (by omega)) lmX4_124 nsX4_spelling rfl (by decide) (Nat.le_of_ble_eq_true rfl) rfl dX4_wordHere_10 ?_
        refine g_fcallV (As := [vr (90, w)]) (rest := []) cx knX4_isHere (x_isHere hX hS9 hE9 hp hT (i := w) (by omega)) a7_0 rfl rfl lmX4_128 niX4_isHere seX4_isHere rfl (by decide) (Nat.le_of_ble_eq_true rfl) rfl dX4_wordHere_13 ?_
        refine g_if_eqB (tgt := 21) cx dX4_wordHere_16 (by decide) (fun h_16 => ?_) (fun h_16 => ?_)
        · skip
          refine g_iincN (L' := [some (vr (7, 0)), some (vi (nI (w + 1)))]) cx dX4_wordHere_21 rfl (by decide) rfl rfl ?_
          refine g_goto (tgt := 2) cx dX4_wordHere_24 (by decide) ?_
          exact ih_lp (w + 1) (by omega) (by omega) (lt_s (p := fun z => ¬ isD t p e z = true) hno h_16)
        · skip
          refine g_iload_n cx dX4_wordHere_19 rfl ?_
          exact g_fret cx rq rfl (rfl) dX4_wordHere_20 (by rw [wOf_of (by omega) h_16]; rfl) (rfl)
  exact lp 11 0 (by omega) (by omega) (fun v hv => absurd hv (Nat.not_lt_zero v))
