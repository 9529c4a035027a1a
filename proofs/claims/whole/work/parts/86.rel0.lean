/-! both objects, new -/
def D01 : Wd := fun i => if i.1 < 30 then DX1 i else DM1 i
theorem rel0X : CX DX1 4 (fun _ => 0) (fun _ => 0) 0 (fun _ => 0) 0 (fun i => 72 * i / 4) (fun _ => 0) (fun i => 72 * i / 4) (fun _ => 0) 0 (fun _ => 0) (fun _ _ => 0) (fun _ _ => 0) (fun _ => 0) (fun _ => 0) 0 0 (fun _ => 0) (fun _ => 0) := by
  have hB := PBf.P (E := DX0) (h := 0) (a := 4) (dr := fun _ => 0) (by decide) (by decide)
  have e1 : ∀ c, 1 ≤ c → c ≤ 6 → DX1 (c, 0) = PBf DX0 0 4 (c, 0) := fun c h1 h6 => by
    rw [DX1, BgH, upA_n _ _ (neK (by omega) _ _), upA_n _ _ (neK (by omega) _ _), upA_n _ _ (neK (by omega) _ _)]
  have e2 : ∀ i : Id2, i ≠ (1, 0) → i ≠ (2, 0) → i ≠ (3, 0) → i ≠ (4, 0) → i ≠ (9, 0) → i ≠ (10, 0) → i ≠ (11, 0) → DX1 i = DX0 i := fun i a b c d e f g => by
    rw [DX1, BgH, upA_n _ _ e, upA_n _ _ g, upA_n _ _ f, PBf.o a, PB.o a b c d]
  have z : nI 0 = (0 : Int32) := rfl
  refine ⟨PX.c e1 hB.1, fun j hj => by rw [e1 2 (by decide) (by decide)]; exact hB.2 j hj, fun p hp => absurd hp (Nat.not_lt_zero p), ⟨fun j hj => ?_, fun p hp => absurd hp (Nat.not_lt_zero p), ?_⟩, fun q hq => ⟨by rw [e2 _ (by decide) (by decide) (by decide) (by decide) (by decide) (by decide) (by decide)]; rfl, fun x => absurd rfl x⟩, ⟨by rw [e2 _ (by decide) (by decide) (by decide) (by decide) (by decide) (by decide) (by decide)]; rfl, Nat.zero_le _, fun j hj => absurd hj (Nat.not_lt_zero j)⟩, ⟨by rw [e2 _ (by decide) (by decide) (by decide) (by decide) (by decide) (by decide) (by decide)]; rfl, fun q hq => absurd hq (Nat.not_lt_zero q)⟩⟩
  · rw [DX1, BgH, upA_n _ _ (by decide), upA_n _ _ (by decide), upA_s, cpy_in (by omega)]
    exact hB.2 j hj
  · rw [DX1, BgH, upA_s]; rfl
theorem row_a : ∀ j, j < 4 → rowM (56 + j) = nI (72 * j / 4) ∧ rowM (0 + j) = nI (72 * j / 4) ∧ 72 * j / 4 < 72 := by decide
theorem rel0M : CM DM1 4 (fun _ => 0) (fun _ => 0) 0 (fun _ => 0) 0 (fun i => 72 * i / 4) (fun _ => 0) (fun i => 72 * i / 4) (fun _ => 0) 0 (fun _ => 0) (fun _ _ => 0) (fun _ _ => 0) (fun _ => 0) (fun _ => 0) 0 0 (fun _ => 0) (fun _ => 0) := by
  refine ⟨⟨by decide, by decide, rfl, fun j hj => ⟨rfl, by show 0 < 4; decide⟩, fun j hj => ⟨rfl, Nat.zero_le _⟩, Nat.zero_le _, rfl, fun j hj => absurd hj (Nat.not_lt_zero j), Nat.zero_le _, rfl⟩, fun j hj => ⟨(row_a j hj).1, (row_a j hj).2.2⟩, fun p hp => absurd hp (Nat.not_lt_zero p), fun j hj => rfl, ?_, ⟨fun j hj => ⟨(row_a j hj).2.1, (row_a j hj).2.2⟩, fun p hp => absurd hp (Nat.not_lt_zero p), ?_⟩, fun q hq => ⟨rfl, fun x => absurd rfl x⟩, ⟨rfl, Nat.zero_le _, fun j hj => absurd hj (Nat.not_lt_zero j)⟩, ⟨rfl, fun q hq => absurd hq (Nat.not_lt_zero q)⟩⟩
  · show rowM 69 = nI 0
    decide
  · show rowM (0 + 13) = nI 0
    decide
theorem rel0 : Rel D01 := by
  have g1 : ∀ r, r < 4 → 0 + 1 ≤ onN (72 * r / 4) (72 * nx 4 r / 4) := by decide
  have g2 : smN (wid 4 (fun i => 72 * i / 4)) 4 = 72 := by decide
  refine ⟨_, _, _, _, _, _, _, _, _, _, _, _, _, _, _, _, _, _, _, _, rel0X.lo (E := D01) (fun i hi => by unfold D01; rw [if_pos hi]), rel0M.hi (E := D01) (fun i hi => by unfold D01; rw [if_neg (by omega)]), fun p hp => absurd hp (Nat.not_lt_zero p), ⟨g1, g2⟩, fun j hj => by show 0 < 4; decide, ⟨fun p hp => absurd hp (Nat.not_lt_zero p), Nat.zero_le _, ⟨fun j hj => (row_a j hj).2.2, g1, g2⟩⟩, fun q hq => ⟨Nat.succ_pos 1, fun x => absurd rfl x⟩, Nat.zero_le _, fun q hq => absurd hq (Nat.not_lt_zero q)⟩
/-! one world of both -/
theorem sh_arr {i : Id2} {t n : Nat} {g : Nat → Id2} (h : sh i = .inr (t, n, some g)) (q : Nat) : (g q).1 = 9 := by
  unfold sh at h
  split at h <;> cases h <;> rfl
def kOK (i : Id2) : Bool := match sh i with
  | .inl (_, fs) => fs.all (fun f => match f with
    | some j => decide (j.1 < 30)
    | none => true)
  | _ => true
theorem kOK_X : ∀ i ∈ idsX, kOK i = true ∧ i.1 < 30 := by decide
theorem kOK_M : ∀ i ∈ idsM, ¬ i.1 < 30 := by decide
theorem mapIdx_cg {ad ad' : Id2 → Nat} {w : Nat → Int32} {fs : List (Option Id2)} (h : ∀ f ∈ fs, ∀ j, f = some j → ad j = ad' j) : fs.mapIdx (fv ad w) = fs.mapIdx (fv ad' w) := by
  apply List.ext_getElem?
  intro r
  rw [List.getElem?_mapIdx, List.getElem?_mapIdx]
  cases hr : fs[r]? with
  | none => rfl
  | some f =>
    cases f with
    | none => rfl
    | some j =>
      show some (Value.ref (ad j)) = some (Value.ref (ad' j))
      rw [h _ (List.mem_of_getElem? hr) j rfl]
theorem ce_cg {ad ad' : Id2 → Nat} {dT : Nat → ClassId} {w : Nat → Int32} {i : Id2} (hk : kOK i = true) (h : ∀ j : Id2, j.1 < 30 → ad j = ad' j) : ce ad dT w i = ce ad' dT w i := by
  cases hs : sh i with
  | inl p =>
    obtain ⟨ci, fs⟩ := p
    rw [ce_obj hs, ce_obj hs, mapIdx_cg (ad' := ad')]
    intro f hf j hj
    unfold kOK at hk
    rw [hs] at hk
    have h1 := List.all_eq_true.mp hk f hf
    rw [hj] at h1
    exact h j (of_decide_eq_true h1)
  | inr p =>
    obtain ⟨t, n, g⟩ := p
    cases g with
    | none => rw [ce_arr hs, ce_arr hs]
    | some g =>
      rw [ce_ref hs, ce_ref hs]
      have e : (fun q => some (ad (g q))) = (fun q => some (ad' (g q))) := by
        funext q
        rw [h (g q) (by rw [sh_arr hs q]; decide)]
      rw [e]
theorem cw_X {ad ad' : Id2 → Nat} {dT : Nat → ClassId} (h : ∀ j : Id2, j.1 < 30 → ad j = ad' j) : cw ad' dT idsX DX1 = cw ad dT idsX D01 := by
  unfold cw
  apply List.map_congr_left
  intro i hi
  have hk := kOK_X i hi
  show (ad' i, ce ad' dT (DX1 i) i) = (ad i, ce ad dT (D01 i) i)
  rw [ce_cg (ad := ad) (ad' := ad') hk.1 h, h i hk.2]
  unfold D01
  rw [if_pos hk.2]
theorem cw_M {ad : Id2 → Nat} {dT : Nat → ClassId} : cw ad dT idsM DM1 = cw ad dT idsM D01 := by
  unfold cw
  apply List.map_congr_left
  intro i hi
  show (ad i, ce ad dT (DM1 i) i) = (ad i, ce ad dT (D01 i) i)
  unfold D01
  rw [if_neg (kOK_M i hi)]
theorem cw_A {ad : Id2 → Nat} {dT : Nat → ClassId} {D : Wd} : cw ad dT idsX D ++ cw ad dT idsM D = cw ad dT idsA D := by
  unfold cw
  exact (List.map_append).symm
theorem adM_lo {ad0 : Id2 → Nat} {h0 : Nat} {q : Nat → Nat} {j : Id2} (h : j.1 < 30) : adM ad0 h0 q j = ad0 j := by
  unfold adM
  split <;> first | rfl | (rename_i e; omega)
