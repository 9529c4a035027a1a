theorem ce30 (ad : Id2 → Nat) (dT : Nat → ClassId) (w : Nat → Int32) : ce ad dT w (30, 0) = .inr (6, [.ref (ad (31, 0)), .ref (ad (32, 0)), .ref (ad (33, 0)), .int (w 3), .ref (ad (34, 0)), .int (w 5), .int (w 6), .ref (ad (35, 0)), .ref (ad (36, 0)), .ref (ad (37, 0)), .int (w 10), .int (w 11), .int (w 12), .int (w 13), .int (w 14), .int (w 15), .ref (ad (38, 0)), .ref (ad (39, 0)), .ref (ad (40, 0)), .int (w 19), .int (w 20), .ref (ad (41, 0)), .int (w 22), .ref (ad (42, 0)), .ref (ad (43, 0)), .int (w 25)]) := by
  show (Sum.inr (6, List.mapIdx (fv ad w) [some (31, 0), some (32, 0), some (33, 0), none, some (34, 0), none, none, some (35, 0), some (36, 0), some (37, 0), none, none, none, none, none, none, some (38, 0), some (39, 0), some (40, 0), none, none, some (41, 0), none, some (42, 0), some (43, 0), none]) : va_E) = _
  simp only [List.mapIdx_cons, List.mapIdx_nil, fv, Nat.reduceAdd, Nat.zero_add]
theorem wMo_eq (ad0 : Id2 → Nat) (dT : Nat → ClassId) (h0 : Nat) (q : Nat → Nat) : [(h0, .inr (6, [.ref (q 0), .ref (q 1), .ref (q 2), .int 0, .ref (q 3), .int 0, .int (nI 4), .ref (q 4), .ref (q 5), .ref (q 6), .int 0, .int 0, .int 0, .int 0, .int 0, .int 0, .ref (q 7), .ref (q 8), .ref (q 9), .int 0, .int 0, .ref (q 10), .int 0, .ref (q 11), .ref (q 12), .int 0])), (q 0, .inl (dT 0, 70, .inl rowM)), (q 1, .inl (dT 2, 2, .inl (fun _ => 0))), (q 2, .inl (dT 0, 200, .inl (fun _ => 0))), (q 3, .inl (dT 0, 36, .inl (fun _ => 0))), (q 4, .inl (dT 0, 8, .inl (fun _ => 0))), (q 5, .inl (dT 0, 8, .inl (fun _ => 0))), (q 6, .inl (dT 0, 3, .inl (fun _ => 0))), (q 7, .inl (dT 0, 8, .inl (fun _ => 0))), (q 8, .inl (dT 0, 8, .inl (fun _ => 0))), (q 9, .inl (dT 0, 3, .inl (fun _ => 0))), (q 10, .inl (dT 0, 5, .inl (fun _ => 0))), (q 11, .inl (dT 0, 8, .inl (fun _ => 0))), (q 12, .inl (dT 0, 16, .inl (fun _ => 0)))] = wMo ad0 dT h0 q := by
  unfold wMo cw
  show _ = (adM ad0 h0 q (30, 0), ce (adM ad0 h0 q) dT (DM1 (30, 0)) (30, 0)) :: List.map (fun i => (adM ad0 h0 q i, ce (adM ad0 h0 q) dT (DM1 i) i)) [(31, 0), (32, 0), (33, 0), (34, 0), (35, 0), (36, 0), (37, 0), (38, 0), (39, 0), (40, 0), (41, 0), (42, 0), (43, 0)]
  rw [ce30]
  rfl
set_option maxRecDepth 100000 in
set_option maxHeartbeats 4000000 in
theorem n_X6 (ad0 : Id2 → Nat) : Nok (fun _ _ => True) mX6_init 1 13 375 6 [.null, .null, .null, .int 0, .null, .int 0, .int 0, .null, .null, .null, .int 0, .int 0, .int 0, .int 0, .int 0, .int 0, .null, .null, .null, .int 0, .int 0, .null, .int 0, .null, .null, .int 0] [] (wMo ad0) := by
  refine Nok.of (L := fun h0 => [(0, .ref h0)]) rfl rfl (fun _ => Nat.le_of_ble_eq_true rfl) (fun _ => rfl) (fun X h0 cx hnm hR hQ hh0 h9 => ?_)
  have hA : ∀ q, (xs X).heap.size ≤ q → va_A [(h0, .inr (6, [.null, .null, .null, .int 0, .null, .int 0, .int 0, .null, .null, .null, .int 0, .int 0, .int 0, .int 0, .int 0, .int 0, .null, .null, .null, .int 0, .int 0, .null, .int 0, .null, .null, .int 0]))] (xs X).heap.size q := fun q h => Or.inr h
  refine c_aload_n 0 cx dX6_init_0 rfl ?_
  refine c_obj cx wobX6_1 dX6_init_1 (by rw [hR]; exact Nat.le_of_ble_eq_true rfl) (by rw [hR]; exact Nat.le_of_ble_eq_true rfl) ?_
  refine c_aload_n 0 cx dX6_init_4 rfl ?_
  refine c_bipush (v := nI 70) cx dX6_init_5 (by decide) ?_
  refine c_newa (t := 0) (ty := .int) (N := 70) (a0 := (70, .inl (fun _ => 0))) cx rfl (fun C h => by cases h) rfl wac_int (fun _ => rfl) (by decide) (by decide) (by decide) hA (by rw [hR]; exact Nat.le_of_ble_eq_true rfl) (by rw [hR]; exact Nat.le_of_ble_eq_true rfl) dX6_init_7 (fun a1 => ?_)
  refine c_ws (ws' := [(h0, .inr (6, [.null, .null, .null, .int 0, .null, .int 0, .int 0, .null, .null, .null, .int 0, .int 0, .int 0, .int 0, .int 0, .int 0, .null, .null, .null, .int 0, .int 0, .null, .int 0, .null, .null, .int 0])), (a1, .inl (xT X 0, 70, .inl (fun _ => 0)))]) rfl ?_
  refine c_putF (ci := 6) (j := 0) (ty := .array (.int)) (fs' := [.ref a1, .null, .null, .int 0, .null, .int 0, .int 0, .null, .null, .null, .int 0, .int 0, .int 0, .int 0, .int 0, .int 0, .null, .null, .null, .int 0, .int 0, .null, .int 0, .null, .null, .int 0]) cx hnm rfl (by decide) inX6 tyX6_ok nmX6 lfX6_7 rfl rfl rfl rfl rfl (Nat.le_of_ble_eq_true rfl) rfl dX6_init_9 ?_
  refine c_aload_n 0 cx dX6_init_12 rfl ?_
  refine c_iconst (v := nI 2) cx dX6_init_13 (by decide) ?_
  refine c_newa (t := 2) (ty := .boolean) (N := 2) (a0 := (2, .inl (fun _ => 0))) cx rfl (fun C h => by cases h) rfl wac_boolean (fun _ => rfl) (by decide) (by decide) (by decide) hA (by rw [hR]; exact Nat.le_of_ble_eq_true rfl) (by rw [hR]; exact Nat.le_of_ble_eq_true rfl) dX6_init_14 (fun a2 => ?_)
  refine c_ws (ws' := [(h0, .inr (6, [.ref a1, .null, .null, .int 0, .null, .int 0, .int 0, .null, .null, .null, .int 0, .int 0, .int 0, .int 0, .int 0, .int 0, .null, .null, .null, .int 0, .int 0, .null, .int 0, .null, .null, .int 0])), (a1, .inl (xT X 0, 70, .inl (fun _ => 0))), (a2, .inl (xT X 2, 2, .inl (fun _ => 0)))]) rfl ?_
  refine c_putF (ci := 6) (j := 1) (ty := .array (.boolean)) (fs' := [.ref a1, .ref a2, .null, .int 0, .null, .int 0, .int 0, .null, .null, .null, .int 0, .int 0, .int 0, .int 0, .int 0, .int 0, .null, .null, .null, .int 0, .int 0, .null, .int 0, .null, .null, .int 0]) cx hnm rfl (by decide) inX6 tyX6_ok nmX6 lfX6_13 rfl rfl rfl rfl rfl (Nat.le_of_ble_eq_true rfl) rfl dX6_init_16 ?_
  refine c_aload_n 0 cx dX6_init_19 rfl ?_
  refine c_sipush (v := nI 200) cx dX6_init_20 (by decide) ?_
  refine c_newa (t := 0) (ty := .int) (N := 200) (a0 := (200, .inl (fun _ => 0))) cx rfl (fun C h => by cases h) rfl wac_int (fun _ => rfl) (by decide) (by decide) (by decide) hA (by rw [hR]; exact Nat.le_of_ble_eq_true rfl) (by rw [hR]; exact Nat.le_of_ble_eq_true rfl) dX6_init_23 (fun a3 => ?_)
  refine c_ws (ws' := [(h0, .inr (6, [.ref a1, .ref a2, .null, .int 0, .null, .int 0, .int 0, .null, .null, .null, .int 0, .int 0, .int 0, .int 0, .int 0, .int 0, .null, .null, .null, .int 0, .int 0, .null, .int 0, .null, .null, .int 0])), (a1, .inl (xT X 0, 70, .inl (fun _ => 0))), (a2, .inl (xT X 2, 2, .inl (fun _ => 0))), (a3, .inl (xT X 0, 200, .inl (fun _ => 0)))]) rfl ?_
  refine c_putF (ci := 6) (j := 2) (ty := .array (.int)) (fs' := [.ref a1, .ref a2, .ref a3, .int 0, .null, .int 0, .int 0, .null, .null, .null, .int 0, .int 0, .int 0, .int 0, .int 0, .int 0, .null, .null, .null, .int 0, .int 0, .null, .int 0, .null, .null, .int 0]) cx hnm rfl (by decide) inX6 tyX6_ok nmX6 lfX6_17 rfl rfl rfl rfl rfl (Nat.le_of_ble_eq_true rfl) rfl dX6_init_25 ?_
  refine c_aload_n 0 cx dX6_init_28 rfl ?_
  refine c_bipush (v := nI 36) cx dX6_init_29 (by decide) ?_
  refine c_newa (t := 0) (ty := .int) (N := 36) (a0 := (36, .inl (fun _ => 0))) cx rfl (fun C h => by cases h) rfl wac_int (fun _ => rfl) (by decide) (by decide) (by decide) hA (by rw [hR]; exact Nat.le_of_ble_eq_true rfl) (by rw [hR]; exact Nat.le_of_ble_eq_true rfl) dX6_init_31 (fun a4 => ?_)
  refine c_ws (ws' := [(h0, .inr (6, [.ref a1, .ref a2, .ref a3, .int 0, .null, .int 0, .int 0, .null, .null, .null, .int 0, .int 0, .int 0, .int 0, .int 0, .int 0, .null, .null, .null, .int 0, .int 0, .null, .int 0, .null, .null, .int 0])), (a1, .inl (xT X 0, 70, .inl (fun _ => 0))), (a2, .inl (xT X 2, 2, .inl (fun _ => 0))), (a3, .inl (xT X 0, 200, .inl (fun _ => 0))), (a4, .inl (xT X 0, 36, .inl (fun _ => 0)))]) rfl ?_
  refine c_putF (ci := 6) (j := 4) (ty := .array (.int)) (fs' := [.ref a1, .ref a2, .ref a3, .int 0, .ref a4, .int 0, .int 0, .null, .null, .null, .int 0, .int 0, .int 0, .int 0, .int 0, .int 0, .null, .null, .null, .int 0, .int 0, .null, .int 0, .null, .null, .int 0]) cx hnm rfl (by decide) inX6 tyX6_ok nmX6 lfX6_20 rfl rfl rfl rfl rfl (Nat.le_of_ble_eq_true rfl) rfl dX6_init_33 ?_
  refine c_aload_n 0 cx dX6_init_36 rfl ?_
  refine c_iconst (v := nI 4) cx dX6_init_37 (by decide) ?_
  refine c_putI (ci := 6) (j := 6) (fs' := [.ref a1, .ref a2, .ref a3, .int 0, .ref a4, .int 0, .int (nI 4), .null, .null, .null, .int 0, .int 0, .int 0, .int 0, .int 0, .int 0, .null, .null, .null, .int 0, .int 0, .null, .int 0, .null, .null, .int 0]) cx rfl (by decide) inX6 tyX6_ok nmX6 lfX6_23 rfl rfl (Nat.le_of_ble_eq_true rfl) rfl dX6_init_38 ?_
  refine c_aload_n 0 cx dX6_init_41 rfl ?_
  refine c_bipush (v := nI 8) cx dX6_init_42 (by decide) ?_
  refine c_newa (t := 0) (ty := .int) (N := 8) (a0 := (8, .inl (fun _ => 0))) cx rfl (fun C h => by cases h) rfl wac_int (fun _ => rfl) (by decide) (by decide) (by decide) hA (by rw [hR]; exact Nat.le_of_ble_eq_true rfl) (by rw [hR]; exact Nat.le_of_ble_eq_true rfl) dX6_init_44 (fun a5 => ?_)
  refine c_ws (ws' := [(h0, .inr (6, [.ref a1, .ref a2, .ref a3, .int 0, .ref a4, .int 0, .int (nI 4), .null, .null, .null, .int 0, .int 0, .int 0, .int 0, .int 0, .int 0, .null, .null, .null, .int 0, .int 0, .null, .int 0, .null, .null, .int 0])), (a1, .inl (xT X 0, 70, .inl (fun _ => 0))), (a2, .inl (xT X 2, 2, .inl (fun _ => 0))), (a3, .inl (xT X 0, 200, .inl (fun _ => 0))), (a4, .inl (xT X 0, 36, .inl (fun _ => 0))), (a5, .inl (xT X 0, 8, .inl (fun _ => 0)))]) rfl ?_
  refine c_putF (ci := 6) (j := 7) (ty := .array (.int)) (fs' := [.ref a1, .ref a2, .ref a3, .int 0, .ref a4, .int 0, .int (nI 4), .ref a5, .null, .null, .int 0, .int 0, .int 0, .int 0, .int 0, .int 0, .null, .null, .null, .int 0, .int 0, .null, .int 0, .null, .null, .int 0]) cx hnm rfl (by decide) inX6 tyX6_ok nmX6 lfX6_27 rfl rfl rfl rfl rfl (Nat.le_of_ble_eq_true rfl) rfl dX6_init_46 ?_
  refine c_aload_n 0 cx dX6_init_49 rfl ?_
  refine c_bipush (v := nI 8) cx dX6_init_50 (by decide) ?_
  refine c_newa (t := 0) (ty := .int) (N := 8) (a0 := (8, .inl (fun _ => 0))) cx rfl (fun C h => by cases h) rfl wac_int (fun _ => rfl) (by decide) (by decide) (by decide) hA (by rw [hR]; exact Nat.le_of_ble_eq_true rfl) (by rw [hR]; exact Nat.le_of_ble_eq_true rfl) dX6_init_52 (fun a6 => ?_)
  refine c_ws (ws' := [(h0, .inr (6, [.ref a1, .ref a2, .ref a3, .int 0, .ref a4, .int 0, .int (nI 4), .ref a5, .null, .null, .int 0, .int 0, .int 0, .int 0, .int 0, .int 0, .null, .null, .null, .int 0, .int 0, .null, .int 0, .null, .null, .int 0])), (a1, .inl (xT X 0, 70, .inl (fun _ => 0))), (a2, .inl (xT X 2, 2, .inl (fun _ => 0))), (a3, .inl (xT X 0, 200, .inl (fun _ => 0))), (a4, .inl (xT X 0, 36, .inl (fun _ => 0))), (a5, .inl (xT X 0, 8, .inl (fun _ => 0))), (a6, .inl (xT X 0, 8, .inl (fun _ => 0)))]) rfl ?_
  refine c_putF (ci := 6) (j := 8) (ty := .array (.int)) (fs' := [.ref a1, .ref a2, .ref a3, .int 0, .ref a4, .int 0, .int (nI 4), .ref a5, .ref a6, .null, .int 0, .int 0, .int 0, .int 0, .int 0, .int 0, .null, .null, .null, .int 0, .int 0, .null, .int 0, .null, .null, .int 0]) cx hnm rfl (by decide) inX6 tyX6_ok nmX6 lfX6_30 rfl rfl rfl rfl rfl (Nat.le_of_ble_eq_true rfl) rfl dX6_init_54 ?_
  refine c_aload_n 0 cx dX6_init_57 rfl ?_
  refine c_iconst (v := nI 3) cx dX6_init_58 (by decide) ?_
  refine c_newa (t := 0) (ty := .int) (N := 3) (a0 := (3, .inl (fun _ => 0))) cx rfl (fun C h => by cases h) rfl wac_int (fun _ => rfl) (by decide) (by decide) (by decide) hA (by rw [hR]; exact Nat.le_of_ble_eq_true rfl) (by rw [hR]; exact Nat.le_of_ble_eq_true rfl) dX6_init_59 (fun a7 => ?_)
  refine c_ws (ws' := [(h0, .inr (6, [.ref a1, .ref a2, .ref a3, .int 0, .ref a4, .int 0, .int (nI 4), .ref a5, .ref a6, .null, .int 0, .int 0, .int 0, .int 0, .int 0, .int 0, .null, .null, .null, .int 0, .int 0, .null, .int 0, .null, .null, .int 0])), (a1, .inl (xT X 0, 70, .inl (fun _ => 0))), (a2, .inl (xT X 2, 2, .inl (fun _ => 0))), (a3, .inl (xT X 0, 200, .inl (fun _ => 0))), (a4, .inl (xT X 0, 36, .inl (fun _ => 0))), (a5, .inl (xT X 0, 8, .inl (fun _ => 0))), (a6, .inl (xT X 0, 8, .inl (fun _ => 0))), (a7, .inl (xT X 0, 3, .inl (fun _ => 0)))]) rfl ?_
  refine c_putF (ci := 6) (j := 9) (ty := .array (.int)) (fs' := [.ref a1, .ref a2, .ref a3, .int 0, .ref a4, .int 0, .int (nI 4), .ref a5, .ref a6, .ref a7, .int 0, .int 0, .int 0, .int 0, .int 0, .int 0, .null, .null, .null, .int 0, .int 0, .null, .int 0, .null, .null, .int 0]) cx hnm rfl (by decide) inX6 tyX6_ok nmX6 lfX6_33 rfl rfl rfl rfl rfl (Nat.le_of_ble_eq_true rfl) rfl dX6_init_61 ?_
  refine c_aload_n 0 cx dX6_init_64 rfl ?_
  refine c_bipush (v := nI 8) cx dX6_init_65 (by decide) ?_
  refine c_newa (t := 0) (ty := .int) (N := 8) (a0 := (8, .inl (fun _ => 0))) cx rfl (fun C h => by cases h) rfl wac_int (fun _ => rfl) (by decide) (by decide) (by decide) hA (by rw [hR]; exact Nat.le_of_ble_eq_true rfl) (by rw [hR]; exact Nat.le_of_ble_eq_true rfl) dX6_init_67 (fun a8 => ?_)
  refine c_ws (ws' := [(h0, .inr (6, [.ref a1, .ref a2, .ref a3, .int 0, .ref a4, .int 0, .int (nI 4), .ref a5, .ref a6, .ref a7, .int 0, .int 0, .int 0, .int 0, .int 0, .int 0, .null, .null, .null, .int 0, .int 0, .null, .int 0, .null, .null, .int 0])), (a1, .inl (xT X 0, 70, .inl (fun _ => 0))), (a2, .inl (xT X 2, 2, .inl (fun _ => 0))), (a3, .inl (xT X 0, 200, .inl (fun _ => 0))), (a4, .inl (xT X 0, 36, .inl (fun _ => 0))), (a5, .inl (xT X 0, 8, .inl (fun _ => 0))), (a6, .inl (xT X 0, 8, .inl (fun _ => 0))), (a7, .inl (xT X 0, 3, .inl (fun _ => 0))), (a8, .inl (xT X 0, 8, .inl (fun _ => 0)))]) rfl ?_
  refine c_putF (ci := 6) (j := 16) (ty := .array (.int)) (fs' := [.ref a1, .ref a2, .ref a3, .int 0, .ref a4, .int 0, .int (nI 4), .ref a5, .ref a6, .ref a7, .int 0, .int 0, .int 0, .int 0, .int 0, .int 0, .ref a8, .null, .null, .int 0, .int 0, .null, .int 0, .null, .null, .int 0]) cx hnm rfl (by decide) inX6 tyX6_ok nmX6 lfX6_36 rfl rfl rfl rfl rfl (Nat.le_of_ble_eq_true rfl) rfl dX6_init_69 ?_
  refine c_aload_n 0 cx dX6_init_72 rfl ?_
  refine c_bipush (v := nI 8) cx dX6_init_73 (by decide) ?_
  refine c_newa (t := 0) (ty := .int) (N := 8) (a0 := (8, .inl (fun _ => 0))) cx rfl (fun C h => by cases h) rfl wac_int (fun _ => rfl) (by decide) (by decide) (by decide) hA (by rw [hR]; exact Nat.le_of_ble_eq_true rfl) (by rw [hR]; exact Nat.le_of_ble_eq_true rfl) dX6_init_75 (fun a9 => ?_)
  refine c_ws (ws' := [(h0, .inr (6, [.ref a1, .ref a2, .ref a3, .int 0, .ref a4, .int 0, .int (nI 4), .ref a5, .ref a6, .ref a7, .int 0, .int 0, .int 0, .int 0, .int 0, .int 0, .ref a8, .null, .null, .int 0, .int 0, .null, .int 0, .null, .null, .int 0])), (a1, .inl (xT X 0, 70, .inl (fun _ => 0))), (a2, .inl (xT X 2, 2, .inl (fun _ => 0))), (a3, .inl (xT X 0, 200, .inl (fun _ => 0))), (a4, .inl (xT X 0, 36, .inl (fun _ => 0))), (a5, .inl (xT X 0, 8, .inl (fun _ => 0))), (a6, .inl (xT X 0, 8, .inl (fun _ => 0))), (a7, .inl (xT X 0, 3, .inl (fun _ => 0))), (a8, .inl (xT X 0, 8, .inl (fun _ => 0))), (a9, .inl (xT X 0, 8, .inl (fun _ => 0)))]) rfl ?_
  refine c_putF (ci := 6) (j := 17) (ty := .array (.int)) (fs' := [.ref a1, .ref a2, .ref a3, .int 0, .ref a4, .int 0, .int (nI 4), .ref a5, .ref a6, .ref a7, .int 0, .int 0, .int 0, .int 0, .int 0, .int 0, .ref a8, .ref a9, .null, .int 0, .int 0, .null, .int 0, .null, .null, .int 0]) cx hnm rfl (by decide) inX6 tyX6_ok nmX6 lfX6_39 rfl rfl rfl rfl rfl (Nat.le_of_ble_eq_true rfl) rfl dX6_init_77 ?_
  refine c_aload_n 0 cx dX6_init_80 rfl ?_
  refine c_iconst (v := nI 3) cx dX6_init_81 (by decide) ?_
  refine c_newa (t := 0) (ty := .int) (N := 3) (a0 := (3, .inl (fun _ => 0))) cx rfl (fun C h => by cases h) rfl wac_int (fun _ => rfl) (by decide) (by decide) (by decide) hA (by rw [hR]; exact Nat.le_of_ble_eq_true rfl) (by rw [hR]; exact Nat.le_of_ble_eq_true rfl) dX6_init_82 (fun a10 => ?_)
  refine c_ws (ws' := [(h0, .inr (6, [.ref a1, .ref a2, .ref a3, .int 0, .ref a4, .int 0, .int (nI 4), .ref a5, .ref a6, .ref a7, .int 0, .int 0, .int 0, .int 0, .int 0, .int 0, .ref a8, .ref a9, .null, .int 0, .int 0, .null, .int 0, .null, .null, .int 0])), (a1, .inl (xT X 0, 70, .inl (fun _ => 0))), (a2, .inl (xT X 2, 2, .inl (fun _ => 0))), (a3, .inl (xT X 0, 200, .inl (fun _ => 0))), (a4, .inl (xT X 0, 36, .inl (fun _ => 0))), (a5, .inl (xT X 0, 8, .inl (fun _ => 0))), (a6, .inl (xT X 0, 8, .inl (fun _ => 0))), (a7, .inl (xT X 0, 3, .inl (fun _ => 0))), (a8, .inl (xT X 0, 8, .inl (fun _ => 0))), (a9, .inl (xT X 0, 8, .inl (fun _ => 0))), (a10, .inl (xT X 0, 3, .inl (fun _ => 0)))]) rfl ?_
  refine c_putF (ci := 6) (j := 18) (ty := .array (.int)) (fs' := [.ref a1, .ref a2, .ref a3, .int 0, .ref a4, .int 0, .int (nI 4), .ref a5, .ref a6, .ref a7, .int 0, .int 0, .int 0, .int 0, .int 0, .int 0, .ref a8, .ref a9, .ref a10, .int 0, .int 0, .null, .int 0, .null, .null, .int 0]) cx hnm rfl (by decide) inX6 tyX6_ok nmX6 lfX6_42 rfl rfl rfl rfl rfl (Nat.le_of_ble_eq_true rfl) rfl dX6_init_84 ?_
  refine c_aload_n 0 cx dX6_init_87 rfl ?_
  refine c_iconst (v := nI 5) cx dX6_init_88 (by decide) ?_
  refine c_newa (t := 0) (ty := .int) (N := 5) (a0 := (5, .inl (fun _ => 0))) cx rfl (fun C h => by cases h) rfl wac_int (fun _ => rfl) (by decide) (by decide) (by decide) hA (by rw [hR]; exact Nat.le_of_ble_eq_true rfl) (by rw [hR]; exact Nat.le_of_ble_eq_true rfl) dX6_init_89 (fun a11 => ?_)
  refine c_ws (ws' := [(h0, .inr (6, [.ref a1, .ref a2, .ref a3, .int 0, .ref a4, .int 0, .int (nI 4), .ref a5, .ref a6, .ref a7, .int 0, .int 0, .int 0, .int 0, .int 0, .int 0, .ref a8, .ref a9, .ref a10, .int 0, .int 0, .null, .int 0, .null, .null, .int 0])), (a1, .inl (xT X 0, 70, .inl (fun _ => 0))), (a2, .inl (xT X 2, 2, .inl (fun _ => 0))), (a3, .inl (xT X 0, 200, .inl (fun _ => 0))), (a4, .inl (xT X 0, 36, .inl (fun _ => 0))), (a5, .inl (xT X 0, 8, .inl (fun _ => 0))), (a6, .inl (xT X 0, 8, .inl (fun _ => 0))), (a7, .inl (xT X 0, 3, .inl (fun _ => 0))), (a8, .inl (xT X 0, 8, .inl (fun _ => 0))), (a9, .inl (xT X 0, 8, .inl (fun _ => 0))), (a10, .inl (xT X 0, 3, .inl (fun _ => 0))), (a11, .inl (xT X 0, 5, .inl (fun _ => 0)))]) rfl ?_
  refine c_putF (ci := 6) (j := 21) (ty := .array (.int)) (fs' := [.ref a1, .ref a2, .ref a3, .int 0, .ref a4, .int 0, .int (nI 4), .ref a5, .ref a6, .ref a7, .int 0, .int 0, .int 0, .int 0, .int 0, .int 0, .ref a8, .ref a9, .ref a10, .int 0, .int 0, .ref a11, .int 0, .null, .null, .int 0]) cx hnm rfl (by decide) inX6 tyX6_ok nmX6 lfX6_45 rfl rfl rfl rfl rfl (Nat.le_of_ble_eq_true rfl) rfl dX6_init_91 ?_
  refine c_aload_n 0 cx dX6_init_94 rfl ?_
  refine c_bipush (v := nI 8) cx dX6_init_95 (by decide) ?_
  refine c_newa (t := 0) (ty := .int) (N := 8) (a0 := (8, .inl (fun _ => 0))) cx rfl (fun C h => by cases h) rfl wac_int (fun _ => rfl) (by decide) (by decide) (by decide) hA (by rw [hR]; exact Nat.le_of_ble_eq_true rfl) (by rw [hR]; exact Nat.le_of_ble_eq_true rfl) dX6_init_97 (fun a12 => ?_)
  refine c_ws (ws' := [(h0, .inr (6, [.ref a1, .ref a2, .ref a3, .int 0, .ref a4, .int 0, .int (nI 4), .ref a5, .ref a6, .ref a7, .int 0, .int 0, .int 0, .int 0, .int 0, .int 0, .ref a8, .ref a9, .ref a10, .int 0, .int 0, .ref a11, .int 0, .null, .null, .int 0])), (a1, .inl (xT X 0, 70, .inl (fun _ => 0))), (a2, .inl (xT X 2, 2, .inl (fun _ => 0))), (a3, .inl (xT X 0, 200, .inl (fun _ => 0))), (a4, .inl (xT X 0, 36, .inl (fun _ => 0))), (a5, .inl (xT X 0, 8, .inl (fun _ => 0))), (a6, .inl (xT X 0, 8, .inl (fun _ => 0))), (a7, .inl (xT X 0, 3, .inl (fun _ => 0))), (a8, .inl (xT X 0, 8, .inl (fun _ => 0))), (a9, .inl (xT X 0, 8, .inl (fun _ => 0))), (a10, .inl (xT X 0, 3, .inl (fun _ => 0))), (a11, .inl (xT X 0, 5, .inl (fun _ => 0))), (a12, .inl (xT X 0, 8, .inl (fun _ => 0)))]) rfl ?_
  refine c_putF (ci := 6) (j := 23) (ty := .array (.int)) (fs' := [.ref a1, .ref a2, .ref a3, .int 0, .ref a4, .int 0, .int (nI 4), .ref a5, .ref a6, .ref a7, .int 0, .int 0, .int 0, .int 0, .int 0, .int 0, .ref a8, .ref a9, .ref a10, .int 0, .int 0, .ref a11, .int 0, .ref a12, .null, .int 0]) cx hnm rfl (by decide) inX6 tyX6_ok nmX6 lfX6_48 rfl rfl rfl rfl rfl (Nat.le_of_ble_eq_true rfl) rfl dX6_init_99 ?_
  refine c_aload_n 0 cx dX6_init_102 rfl ?_
  refine c_bipush (v := nI 16) cx dX6_init_103 (by decide) ?_
  refine c_newa (t := 0) (ty := .int) (N := 16) (a0 := (16, .inl (fun _ => 0))) cx rfl (fun C h => by cases h) rfl wac_int (fun _ => rfl) (by decide) (by decide) (by decide) hA (by rw [hR]; exact Nat.le_of_ble_eq_true rfl) (by rw [hR]; exact Nat.le_of_ble_eq_true rfl) dX6_init_105 (fun a13 => ?_)
  refine c_ws (ws' := [(h0, .inr (6, [.ref a1, .ref a2, .ref a3, .int 0, .ref a4, .int 0, .int (nI 4), .ref a5, .ref a6, .ref a7, .int 0, .int 0, .int 0, .int 0, .int 0, .int 0, .ref a8, .ref a9, .ref a10, .int 0, .int 0, .ref a11, .int 0, .ref a12, .null, .int 0])), (a1, .inl (xT X 0, 70, .inl (fun _ => 0))), (a2, .inl (xT X 2, 2, .inl (fun _ => 0))), (a3, .inl (xT X 0, 200, .inl (fun _ => 0))), (a4, .inl (xT X 0, 36, .inl (fun _ => 0))), (a5, .inl (xT X 0, 8, .inl (fun _ => 0))), (a6, .inl (xT X 0, 8, .inl (fun _ => 0))), (a7, .inl (xT X 0, 3, .inl (fun _ => 0))), (a8, .inl (xT X 0, 8, .inl (fun _ => 0))), (a9, .inl (xT X 0, 8, .inl (fun _ => 0))), (a10, .inl (xT X 0, 3, .inl (fun _ => 0))), (a11, .inl (xT X 0, 5, .inl (fun _ => 0))), (a12, .inl (xT X 0, 8, .inl (fun _ => 0))), (a13, .inl (xT X 0, 16, .inl (fun _ => 0)))]) rfl ?_
  refine c_putF (ci := 6) (j := 24) (ty := .array (.int)) (fs' := [.ref a1, .ref a2, .ref a3, .int 0, .ref a4, .int 0, .int (nI 4), .ref a5, .ref a6, .ref a7, .int 0, .int 0, .int 0, .int 0, .int 0, .int 0, .ref a8, .ref a9, .ref a10, .int 0, .int 0, .ref a11, .int 0, .ref a12, .ref a13, .int 0]) cx hnm rfl (by decide) inX6 tyX6_ok nmX6 lfX6_51 rfl rfl rfl rfl rfl (Nat.le_of_ble_eq_true rfl) rfl dX6_init_107 ?_
  refine c_iconst (v := nI 0) cx dX6_init_110 (by decide) ?_
  refine c_istore_n (L' := [(1, .int (nI 0)), (0, .ref h0)]) cx dX6_init_111 (by decide) rfl ?_
  refine c_iload_n 0 cx dX6_init_112 rfl ?_
  refine c_iconst (v := nI 4) cx dX6_init_113 (by decide) ?_
  refine c_ge_n (tgt := 153) cx dX6_init_114 (by decide) (by decide) ?_
  refine c_aload_n 1 cx dX6_init_117 rfl ?_
  refine c_get (ci := 6) (j := 0) (v := .ref a1) cx rfl (by decide) inX6 lfX6_7 rfl dX6_init_118 ?_
  refine c_bipush (v := nI 56) cx dX6_init_121 (by decide) ?_
  refine c_iload_n 0 cx dX6_init_123 rfl ?_
  refine c_arith (v := nI 56) cx dX6_init_124 (by decide) ?_
  refine c_bipush (v := nI 72) cx dX6_init_125 (by decide) ?_
  refine c_iload_n 0 cx dX6_init_127 rfl ?_
  refine c_imul (v := nI 0) cx dX6_init_128 (by decide) ?_
  refine c_iconst (v := nI 4) cx dX6_init_129 (by decide) ?_
  refine c_idiv (v := nI 0) cx dX6_init_130 (by decide) (by decide) ?_
  refine c_iast (j := 56) (q0 := 1) (N := 70) (ws' := [(h0, .inr (6, [.ref a1, .ref a2, .ref a3, .int 0, .ref a4, .int 0, .int (nI 4), .ref a5, .ref a6, .ref a7, .int 0, .int 0, .int 0, .int 0, .int 0, .int 0, .ref a8, .ref a9, .ref a10, .int 0, .int 0, .ref a11, .int 0, .ref a12, .ref a13, .int 0])), (a1, .inl (xT X 0, 70, .inl (upd (fun _ => 0) 56 ((nI 0))))), (a2, .inl (xT X 2, 2, .inl (fun _ => 0))), (a3, .inl (xT X 0, 200, .inl (fun _ => 0))), (a4, .inl (xT X 0, 36, .inl (fun _ => 0))), (a5, .inl (xT X 0, 8, .inl (fun _ => 0))), (a6, .inl (xT X 0, 8, .inl (fun _ => 0))), (a7, .inl (xT X 0, 3, .inl (fun _ => 0))), (a8, .inl (xT X 0, 8, .inl (fun _ => 0))), (a9, .inl (xT X 0, 8, .inl (fun _ => 0))), (a10, .inl (xT X 0, 3, .inl (fun _ => 0))), (a11, .inl (xT X 0, 5, .inl (fun _ => 0))), (a12, .inl (xT X 0, 8, .inl (fun _ => 0))), (a13, .inl (xT X 0, 16, .inl (fun _ => 0)))]) cx rfl (by decide) (by decide) rfl dX6_init_131 ?_
  refine c_aload_n 1 cx dX6_init_132 rfl ?_
  refine c_get (ci := 6) (j := 0) (v := .ref a1) cx rfl (by decide) inX6 lfX6_7 rfl dX6_init_133 ?_
  refine c_iload_n 0 cx dX6_init_136 rfl ?_
  refine c_aload_n 1 cx dX6_init_137 rfl ?_
  refine c_get (ci := 6) (j := 0) (v := .ref a1) cx rfl (by decide) inX6 lfX6_7 rfl dX6_init_138 ?_
  refine c_bipush (v := nI 56) cx dX6_init_141 (by decide) ?_
  refine c_iload_n 0 cx dX6_init_143 rfl ?_
  refine c_arith (v := nI 56) cx dX6_init_144 (by decide) ?_
  refine c_iald (j := 56) (q0 := 1) (N := 70) (v := nI 0) cx rfl (by decide) (by decide) rfl dX6_init_145 ?_
  refine c_iast (j := 0) (q0 := 1) (N := 70) (ws' := [(h0, .inr (6, [.ref a1, .ref a2, .ref a3, .int 0, .ref a4, .int 0, .int (nI 4), .ref a5, .ref a6, .ref a7, .int 0, .int 0, .int 0, .int 0, .int 0, .int 0, .ref a8, .ref a9, .ref a10, .int 0, .int 0, .ref a11, .int 0, .ref a12, .ref a13, .int 0])), (a1, .inl (xT X 0, 70, .inl (upd (upd (fun _ => 0) 56 ((nI 0))) 0 ((nI 0))))), (a2, .inl (xT X 2, 2, .inl (fun _ => 0))), (a3, .inl (xT X 0, 200, .inl (fun _ => 0))), (a4, .inl (xT X 0, 36, .inl (fun _ => 0))), (a5, .inl (xT X 0, 8, .inl (fun _ => 0))), (a6, .inl (xT X 0, 8, .inl (fun _ => 0))), (a7, .inl (xT X 0, 3, .inl (fun _ => 0))), (a8, .inl (xT X 0, 8, .inl (fun _ => 0))), (a9, .inl (xT X 0, 8, .inl (fun _ => 0))), (a10, .inl (xT X 0, 3, .inl (fun _ => 0))), (a11, .inl (xT X 0, 5, .inl (fun _ => 0))), (a12, .inl (xT X 0, 8, .inl (fun _ => 0))), (a13, .inl (xT X 0, 16, .inl (fun _ => 0)))]) cx rfl (by decide) (by decide) rfl dX6_init_146 ?_
  refine c_iinc (j := 0) (v := nI 1) (L' := [(1, .int (nI 1)), (0, .ref h0)]) cx dX6_init_147 rfl (by decide) (by decide) rfl ?_
  refine c_goto (tgt := 112) cx dX6_init_150 (by decide) ?_
  refine c_iload_n 0 cx dX6_init_112 rfl ?_
  refine c_iconst (v := nI 4) cx dX6_init_113 (by decide) ?_
  refine c_ge_n (tgt := 153) cx dX6_init_114 (by decide) (by decide) ?_
  refine c_aload_n 1 cx dX6_init_117 rfl ?_
  refine c_get (ci := 6) (j := 0) (v := .ref a1) cx rfl (by decide) inX6 lfX6_7 rfl dX6_init_118 ?_
  refine c_bipush (v := nI 56) cx dX6_init_121 (by decide) ?_
  refine c_iload_n 0 cx dX6_init_123 rfl ?_
  refine c_arith (v := nI 57) cx dX6_init_124 (by decide) ?_
  refine c_bipush (v := nI 72) cx dX6_init_125 (by decide) ?_
  refine c_iload_n 0 cx dX6_init_127 rfl ?_
  refine c_imul (v := nI 72) cx dX6_init_128 (by decide) ?_
  refine c_iconst (v := nI 4) cx dX6_init_129 (by decide) ?_
  refine c_idiv (v := nI 18) cx dX6_init_130 (by decide) (by decide) ?_
  refine c_iast (j := 57) (q0 := 1) (N := 70) (ws' := [(h0, .inr (6, [.ref a1, .ref a2, .ref a3, .int 0, .ref a4, .int 0, .int (nI 4), .ref a5, .ref a6, .ref a7, .int 0, .int 0, .int 0, .int 0, .int 0, .int 0, .ref a8, .ref a9, .ref a10, .int 0, .int 0, .ref a11, .int 0, .ref a12, .ref a13, .int 0])), (a1, .inl (xT X 0, 70, .inl (upd (upd (upd (fun _ => 0) 56 ((nI 0))) 0 ((nI 0))) 57 ((nI 18))))), (a2, .inl (xT X 2, 2, .inl (fun _ => 0))), (a3, .inl (xT X 0, 200, .inl (fun _ => 0))), (a4, .inl (xT X 0, 36, .inl (fun _ => 0))), (a5, .inl (xT X 0, 8, .inl (fun _ => 0))), (a6, .inl (xT X 0, 8, .inl (fun _ => 0))), (a7, .inl (xT X 0, 3, .inl (fun _ => 0))), (a8, .inl (xT X 0, 8, .inl (fun _ => 0))), (a9, .inl (xT X 0, 8, .inl (fun _ => 0))), (a10, .inl (xT X 0, 3, .inl (fun _ => 0))), (a11, .inl (xT X 0, 5, .inl (fun _ => 0))), (a12, .inl (xT X 0, 8, .inl (fun _ => 0))), (a13, .inl (xT X 0, 16, .inl (fun _ => 0)))]) cx rfl (by decide) (by decide) rfl dX6_init_131 ?_
  refine c_aload_n 1 cx dX6_init_132 rfl ?_
  refine c_get (ci := 6) (j := 0) (v := .ref a1) cx rfl (by decide) inX6 lfX6_7 rfl dX6_init_133 ?_
  refine c_iload_n 0 cx dX6_init_136 rfl ?_
  refine c_aload_n 1 cx dX6_init_137 rfl ?_
  refine c_get (ci := 6) (j := 0) (v := .ref a1) cx rfl (by decide) inX6 lfX6_7 rfl dX6_init_138 ?_
  refine c_bipush (v := nI 56) cx dX6_init_141 (by decide) ?_
  refine c_iload_n 0 cx dX6_init_143 rfl ?_
  refine c_arith (v := nI 57) cx dX6_init_144 (by decide) ?_
  refine c_iald (j := 57) (q0 := 1) (N := 70) (v := nI 18) cx rfl (by decide) (by decide) rfl dX6_init_145 ?_
  refine c_iast (j := 1) (q0 := 1) (N := 70) (ws' := [(h0, .inr (6, [.ref a1, .ref a2, .ref a3, .int 0, .ref a4, .int 0, .int (nI 4), .ref a5, .ref a6, .ref a7, .int 0, .int 0, .int 0, .int 0, .int 0, .int 0, .ref a8, .ref a9, .ref a10, .int 0, .int 0, .ref a11, .int 0, .ref a12, .ref a13, .int 0])), (a1, .inl (xT X 0, 70, .inl (upd (upd (upd (upd (fun _ => 0) 56 ((nI 0))) 0 ((nI 0))) 57 ((nI 18))) 1 ((nI 18))))), (a2, .inl (xT X 2, 2, .inl (fun _ => 0))), (a3, .inl (xT X 0, 200, .inl (fun _ => 0))), (a4, .inl (xT X 0, 36, .inl (fun _ => 0))), (a5, .inl (xT X 0, 8, .inl (fun _ => 0))), (a6, .inl (xT X 0, 8, .inl (fun _ => 0))), (a7, .inl (xT X 0, 3, .inl (fun _ => 0))), (a8, .inl (xT X 0, 8, .inl (fun _ => 0))), (a9, .inl (xT X 0, 8, .inl (fun _ => 0))), (a10, .inl (xT X 0, 3, .inl (fun _ => 0))), (a11, .inl (xT X 0, 5, .inl (fun _ => 0))), (a12, .inl (xT X 0, 8, .inl (fun _ => 0))), (a13, .inl (xT X 0, 16, .inl (fun _ => 0)))]) cx rfl (by decide) (by decide) rfl dX6_init_146 ?_
  refine c_iinc (j := 0) (v := nI 2) (L' := [(1, .int (nI 2)), (0, .ref h0)]) cx dX6_init_147 rfl (by decide) (by decide) rfl ?_
  refine c_goto (tgt := 112) cx dX6_init_150 (by decide) ?_
  refine c_iload_n 0 cx dX6_init_112 rfl ?_
  refine c_iconst (v := nI 4) cx dX6_init_113 (by decide) ?_
  refine c_ge_n (tgt := 153) cx dX6_init_114 (by decide) (by decide) ?_
  refine c_aload_n 1 cx dX6_init_117 rfl ?_
  refine c_get (ci := 6) (j := 0) (v := .ref a1) cx rfl (by decide) inX6 lfX6_7 rfl dX6_init_118 ?_
  refine c_bipush (v := nI 56) cx dX6_init_121 (by decide) ?_
  refine c_iload_n 0 cx dX6_init_123 rfl ?_
  refine c_arith (v := nI 58) cx dX6_init_124 (by decide) ?_
  refine c_bipush (v := nI 72) cx dX6_init_125 (by decide) ?_
  refine c_iload_n 0 cx dX6_init_127 rfl ?_
  refine c_imul (v := nI 144) cx dX6_init_128 (by decide) ?_
  refine c_iconst (v := nI 4) cx dX6_init_129 (by decide) ?_
  refine c_idiv (v := nI 36) cx dX6_init_130 (by decide) (by decide) ?_
  refine c_iast (j := 58) (q0 := 1) (N := 70) (ws' := [(h0, .inr (6, [.ref a1, .ref a2, .ref a3, .int 0, .ref a4, .int 0, .int (nI 4), .ref a5, .ref a6, .ref a7, .int 0, .int 0, .int 0, .int 0, .int 0, .int 0, .ref a8, .ref a9, .ref a10, .int 0, .int 0, .ref a11, .int 0, .ref a12, .ref a13, .int 0])), (a1, .inl (xT X 0, 70, .inl (upd (upd (upd (upd (upd (fun _ => 0) 56 ((nI 0))) 0 ((nI 0))) 57 ((nI 18))) 1 ((nI 18))) 58 ((nI 36))))), (a2, .inl (xT X 2, 2, .inl (fun _ => 0))), (a3, .inl (xT X 0, 200, .inl (fun _ => 0))), (a4, .inl (xT X 0, 36, .inl (fun _ => 0))), (a5, .inl (xT X 0, 8, .inl (fun _ => 0))), (a6, .inl (xT X 0, 8, .inl (fun _ => 0))), (a7, .inl (xT X 0, 3, .inl (fun _ => 0))), (a8, .inl (xT X 0, 8, .inl (fun _ => 0))), (a9, .inl (xT X 0, 8, .inl (fun _ => 0))), (a10, .inl (xT X 0, 3, .inl (fun _ => 0))), (a11, .inl (xT X 0, 5, .inl (fun _ => 0))), (a12, .inl (xT X 0, 8, .inl (fun _ => 0))), (a13, .inl (xT X 0, 16, .inl (fun _ => 0)))]) cx rfl (by decide) (by decide) rfl dX6_init_131 ?_
  refine c_aload_n 1 cx dX6_init_132 rfl ?_
  refine c_get (ci := 6) (j := 0) (v := .ref a1) cx rfl (by decide) inX6 lfX6_7 rfl dX6_init_133 ?_
  refine c_iload_n 0 cx dX6_init_136 rfl ?_
  refine c_aload_n 1 cx dX6_init_137 rfl ?_
  refine c_get (ci := 6) (j := 0) (v := .ref a1) cx rfl (by decide) inX6 lfX6_7 rfl dX6_init_138 ?_
  refine c_bipush (v := nI 56) cx dX6_init_141 (by decide) ?_
  refine c_iload_n 0 cx dX6_init_143 rfl ?_
  refine c_arith (v := nI 58) cx dX6_init_144 (by decide) ?_
  refine c_iald (j := 58) (q0 := 1) (N := 70) (v := nI 36) cx rfl (by decide) (by decide) rfl dX6_init_145 ?_
  refine c_iast (j := 2) (q0 := 1) (N := 70) (ws' := [(h0, .inr (6, [.ref a1, .ref a2, .ref a3, .int 0, .ref a4, .int 0, .int (nI 4), .ref a5, .ref a6, .ref a7, .int 0, .int 0, .int 0, .int 0, .int 0, .int 0, .ref a8, .ref a9, .ref a10, .int 0, .int 0, .ref a11, .int 0, .ref a12, .ref a13, .int 0])), (a1, .inl (xT X 0, 70, .inl (upd (upd (upd (upd (upd (upd (fun _ => 0) 56 ((nI 0))) 0 ((nI 0))) 57 ((nI 18))) 1 ((nI 18))) 58 ((nI 36))) 2 ((nI 36))))), (a2, .inl (xT X 2, 2, .inl (fun _ => 0))), (a3, .inl (xT X 0, 200, .inl (fun _ => 0))), (a4, .inl (xT X 0, 36, .inl (fun _ => 0))), (a5, .inl (xT X 0, 8, .inl (fun _ => 0))), (a6, .inl (xT X 0, 8, .inl (fun _ => 0))), (a7, .inl (xT X 0, 3, .inl (fun _ => 0))), (a8, .inl (xT X 0, 8, .inl (fun _ => 0))), (a9, .inl (xT X 0, 8, .inl (fun _ => 0))), (a10, .inl (xT X 0, 3, .inl (fun _ => 0))), (a11, .inl (xT X 0, 5, .inl (fun _ => 0))), (a12, .inl (xT X 0, 8, .inl (fun _ => 0))), (a13, .inl (xT X 0, 16, .inl (fun _ => 0)))]) cx rfl (by decide) (by decide) rfl dX6_init_146 ?_
  refine c_iinc (j := 0) (v := nI 3) (L' := [(1, .int (nI 3)), (0, .ref h0)]) cx dX6_init_147 rfl (by decide) (by decide) rfl ?_
  refine c_goto (tgt := 112) cx dX6_init_150 (by decide) ?_
  refine c_iload_n 0 cx dX6_init_112 rfl ?_
  refine c_iconst (v := nI 4) cx dX6_init_113 (by decide) ?_
  refine c_ge_n (tgt := 153) cx dX6_init_114 (by decide) (by decide) ?_
  refine c_aload_n 1 cx dX6_init_117 rfl ?_
  refine c_get (ci := 6) (j := 0) (v := .ref a1) cx rfl (by decide) inX6 lfX6_7 rfl dX6_init_118 ?_
  refine c_bipush (v := nI 56) cx dX6_init_121 (by decide) ?_
  refine c_iload_n 0 cx dX6_init_123 rfl ?_
  refine c_arith (v := nI 59) cx dX6_init_124 (by decide) ?_
  refine c_bipush (v := nI 72) cx dX6_init_125 (by decide) ?_
  refine c_iload_n 0 cx dX6_init_127 rfl ?_
  refine c_imul (v := nI 216) cx dX6_init_128 (by decide) ?_
  refine c_iconst (v := nI 4) cx dX6_init_129 (by decide) ?_
  refine c_idiv (v := nI 54) cx dX6_init_130 (by decide) (by decide) ?_
  refine c_iast (j := 59) (q0 := 1) (N := 70) (ws' := [(h0, .inr (6, [.ref a1, .ref a2, .ref a3, .int 0, .ref a4, .int 0, .int (nI 4), .ref a5, .ref a6, .ref a7, .int 0, .int 0, .int 0, .int 0, .int 0, .int 0, .ref a8, .ref a9, .ref a10, .int 0, .int 0, .ref a11, .int 0, .ref a12, .ref a13, .int 0])), (a1, .inl (xT X 0, 70, .inl (upd (upd (upd (upd (upd (upd (upd (fun _ => 0) 56 ((nI 0))) 0 ((nI 0))) 57 ((nI 18))) 1 ((nI 18))) 58 ((nI 36))) 2 ((nI 36))) 59 ((nI 54))))), (a2, .inl (xT X 2, 2, .inl (fun _ => 0))), (a3, .inl (xT X 0, 200, .inl (fun _ => 0))), (a4, .inl (xT X 0, 36, .inl (fun _ => 0))), (a5, .inl (xT X 0, 8, .inl (fun _ => 0))), (a6, .inl (xT X 0, 8, .inl (fun _ => 0))), (a7, .inl (xT X 0, 3, .inl (fun _ => 0))), (a8, .inl (xT X 0, 8, .inl (fun _ => 0))), (a9, .inl (xT X 0, 8, .inl (fun _ => 0))), (a10, .inl (xT X 0, 3, .inl (fun _ => 0))), (a11, .inl (xT X 0, 5, .inl (fun _ => 0))), (a12, .inl (xT X 0, 8, .inl (fun _ => 0))), (a13, .inl (xT X 0, 16, .inl (fun _ => 0)))]) cx rfl (by decide) (by decide) rfl dX6_init_131 ?_
  refine c_aload_n 1 cx dX6_init_132 rfl ?_
  refine c_get (ci := 6) (j := 0) (v := .ref a1) cx rfl (by decide) inX6 lfX6_7 rfl dX6_init_133 ?_
  refine c_iload_n 0 cx dX6_init_136 rfl ?_
  refine c_aload_n 1 cx dX6_init_137 rfl ?_
  refine c_get (ci := 6) (j := 0) (v := .ref a1) cx rfl (by decide) inX6 lfX6_7 rfl dX6_init_138 ?_
  refine c_bipush (v := nI 56) cx dX6_init_141 (by decide) ?_
  refine c_iload_n 0 cx dX6_init_143 rfl ?_
  refine c_arith (v := nI 59) cx dX6_init_144 (by decide) ?_
  refine c_iald (j := 59) (q0 := 1) (N := 70) (v := nI 54) cx rfl (by decide) (by decide) rfl dX6_init_145 ?_
  refine c_iast (j := 3) (q0 := 1) (N := 70) (ws' := [(h0, .inr (6, [.ref a1, .ref a2, .ref a3, .int 0, .ref a4, .int 0, .int (nI 4), .ref a5, .ref a6, .ref a7, .int 0, .int 0, .int 0, .int 0, .int 0, .int 0, .ref a8, .ref a9, .ref a10, .int 0, .int 0, .ref a11, .int 0, .ref a12, .ref a13, .int 0])), (a1, .inl (xT X 0, 70, .inl (upd (upd (upd (upd (upd (upd (upd (upd (fun _ => 0) 56 ((nI 0))) 0 ((nI 0))) 57 ((nI 18))) 1 ((nI 18))) 58 ((nI 36))) 2 ((nI 36))) 59 ((nI 54))) 3 ((nI 54))))), (a2, .inl (xT X 2, 2, .inl (fun _ => 0))), (a3, .inl (xT X 0, 200, .inl (fun _ => 0))), (a4, .inl (xT X 0, 36, .inl (fun _ => 0))), (a5, .inl (xT X 0, 8, .inl (fun _ => 0))), (a6, .inl (xT X 0, 8, .inl (fun _ => 0))), (a7, .inl (xT X 0, 3, .inl (fun _ => 0))), (a8, .inl (xT X 0, 8, .inl (fun _ => 0))), (a9, .inl (xT X 0, 8, .inl (fun _ => 0))), (a10, .inl (xT X 0, 3, .inl (fun _ => 0))), (a11, .inl (xT X 0, 5, .inl (fun _ => 0))), (a12, .inl (xT X 0, 8, .inl (fun _ => 0))), (a13, .inl (xT X 0, 16, .inl (fun _ => 0)))]) cx rfl (by decide) (by decide) rfl dX6_init_146 ?_
  refine c_iinc (j := 0) (v := nI 4) (L' := [(1, .int (nI 4)), (0, .ref h0)]) cx dX6_init_147 rfl (by decide) (by decide) rfl ?_
  refine c_goto (tgt := 112) cx dX6_init_150 (by decide) ?_
  refine c_iload_n 0 cx dX6_init_112 rfl ?_
  refine c_iconst (v := nI 4) cx dX6_init_113 (by decide) ?_
  refine c_ge_y (tgt := 153) cx dX6_init_114 (by decide) (by decide) ?_
  refine c_ws (ws' := [(h0, .inr (6, [.ref a1, .ref a2, .ref a3, .int 0, .ref a4, .int 0, .int (nI 4), .ref a5, .ref a6, .ref a7, .int 0, .int 0, .int 0, .int 0, .int 0, .int 0, .ref a8, .ref a9, .ref a10, .int 0, .int 0, .ref a11, .int 0, .ref a12, .ref a13, .int 0])), (a1, .inl (xT X 0, 70, .inl rowM)), (a2, .inl (xT X 2, 2, .inl (fun _ => 0))), (a3, .inl (xT X 0, 200, .inl (fun _ => 0))), (a4, .inl (xT X 0, 36, .inl (fun _ => 0))), (a5, .inl (xT X 0, 8, .inl (fun _ => 0))), (a6, .inl (xT X 0, 8, .inl (fun _ => 0))), (a7, .inl (xT X 0, 3, .inl (fun _ => 0))), (a8, .inl (xT X 0, 8, .inl (fun _ => 0))), (a9, .inl (xT X 0, 8, .inl (fun _ => 0))), (a10, .inl (xT X 0, 3, .inl (fun _ => 0))), (a11, .inl (xT X 0, 5, .inl (fun _ => 0))), (a12, .inl (xT X 0, 8, .inl (fun _ => 0))), (a13, .inl (xT X 0, 16, .inl (fun _ => 0)))]) rfl ?_
  refine c_ws (ws' := wMo ad0 (xT X) h0 (fun i => [a1, a2, a3, a4, a5, a6, a7, a8, a9, a10, a11, a12, a13].getD i 0)) (wMo_eq ad0 (xT X) h0 (fun i => [a1, a2, a3, a4, a5, a6, a7, a8, a9, a10, a11, a12, a13].getD i 0)) ?_
  exact c_ret (fun i => [a1, a2, a3, a4, a5, a6, a7, a8, a9, a10, a11, a12, a13].getD i 0) cx hQ rfl (Nat.le_of_ble_eq_true rfl) (Nat.le_of_ble_eq_true rfl) rfl dX6_init_153
