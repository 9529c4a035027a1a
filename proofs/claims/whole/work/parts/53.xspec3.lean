/-! what the class's own methods need -/
def HrX (D : Wd) (n : Nat) (a : Nat → Nat) (hr : Nat) : Wd := upA (RX D 0 n a) (9, 0) (upd ((RX D 0 n a) (9, 0)) 3 (nI hr))
theorem HrX.R {D : Wd} {n : Nat} {a : Nat → Nat} {hr : Nat} : HrX D n a hr (9, 0) 3 = nI hr := by rw [HrX, upA_s]; rfl
theorem HrX.at {D : Wd} {n : Nat} {a : Nat → Nat} {hr : Nat} {i : Id2} (h1 : i ≠ (9, 0)) (h2 : i ≠ (10, 0)) : HrX D n a hr i = D i := by rw [HrX, upA_n _ _ h1, RX.at h2]
theorem HrX.P {D : Wd} {n : Nat} {a : Nat → Nat} {hr w m : Nat} {k f : Nat → Nat} {dn : Nat} {dr : Nat → Nat} {pn : Nat} (p : PX D w m k f dn dr pn) : PX (HrX D n a hr) w m k f dn dr pn := by
  obtain ⟨h1, h2, h3, h4, h5, h6, h7, h8, h9, h10⟩ := p
  have e : ∀ q, q < 9 → HrX D n a hr (q, w) = D (q, w) := fun q hq => HrX.at (neK (by omega) _ _) (neK (by omega) _ _)
  exact ⟨h1, h2, by rw [e _ (by decide)]; exact h3, by rw [e _ (by decide)]; exact h4, by rw [e _ (by decide)]; exact h5, h6, by rw [e _ (by decide)]; exact h7, by rw [e _ (by decide)]; exact h8, h9, by rw [e _ (by decide)]; exact h10⟩
theorem HrX.A {D : Wd} {n : Nat} {a : Nat → Nat} {hr : Nat} (h : ∀ j, j < n → a j < 72) : AX (HrX D n a hr) 0 n a := fun j hj => by
  rw [HrX, upA_n _ _ (by decide)]; exact RX.A h j hj
theorem HrX.H {D : Wd} {n m : Nat} {a : Nat → Nat} {hr : Nat} {hm : Nat → Nat} (p : HX D 0 m hm) : HX (HrX D n a hr) 0 m hm := fun j hj => by
  rw [HrX.at (by decide) (by decide)]; exact p j hj
theorem HrX.self {D : Wd} {n : Nat} {a : Nat → Nat} {hr : Nat} (p : AX D 0 n a) (h : D (9, 0) 3 = nI hr) : D = HrX D n a (hr + 0) := by
  have e : upd (D (9, 0)) 3 (nI (hr + 0)) = D (9, 0) := by
    funext q; show (if q = 3 then nI (hr + 0) else D (9, 0) q) = D (9, 0) q
    split
    · rename_i x; rw [x]; exact h.symm
    · rfl
  rw [HrX, RX.self p, e, upA_self]
theorem HrX.twice (D : Wd) (n : Nat) (a a' : Nat → Nat) (h h' : Nat) : HrX (HrX D n a h) n a' h' = HrX D n a' h' := by
  apply wd_ext
  intro i j
  by_cases h1 : i = (9, 0)
  · subst h1
    show (upA (RX (HrX D n a h) 0 n a') (9, 0) (upd ((RX (HrX D n a h) 0 n a') (9, 0)) 3 (nI h'))) (9, 0) j = (upA (RX D 0 n a') (9, 0) (upd ((RX D 0 n a') (9, 0)) 3 (nI h'))) (9, 0) j
    rw [upA_s, upA_s, RX.at (by decide), RX.at (by decide), HrX, upA_s, RX.at (by decide)]
    show (if j = 3 then _ else (if j = 3 then _ else _)) = (if j = 3 then _ else _)
    split <;> rfl
  · show (upA (RX (HrX D n a h) 0 n a') (9, 0) _) i j = (upA (RX D 0 n a') (9, 0) _) i j
    rw [upA_n _ _ h1, upA_n _ _ h1]
    by_cases h2 : i = (10, 0)
    · subst h2
      have e : RX (RX D 0 n a) 0 n a' (10, 0) = RX D 0 n a' (10, 0) := by rw [RX.twice]
      rw [← e]
      show (upA (HrX D n a h) (10, 0) (putA (HrX D n a h (10, 0)) 0 n a')) (10, 0) j = (upA (RX D 0 n a) (10, 0) (putA (RX D 0 n a (10, 0)) 0 n a')) (10, 0) j
      rw [upA_s, upA_s, HrX, upA_n _ _ (by decide)]
    · rw [RX.at h2, RX.at h2, HrX.at h1 h2]
theorem PX.up11 {D : Wd} {w n : Nat} {k f : Nat → Nat} {dn : Nat} {dr : Nat → Nat} {pn : Nat} {g : Nat → Int32} (p : PX D w n k f dn dr pn) : PX (upA D (11, 0) g) w n k f dn dr pn := by
  obtain ⟨h1, h2, h3, h4, h5, h6, h7, h8, h9, h10⟩ := p
  have e : ∀ q, q < 9 → upA D (11, 0) g (q, w) = D (q, w) := fun q hq => upA_n _ _ (neK (by omega) _ _)
  exact ⟨h1, h2, by rw [e _ (by decide)]; exact h3, by rw [e _ (by decide)]; exact h4, by rw [e _ (by decide)]; exact h5, h6, by rw [e _ (by decide)]; exact h7, by rw [e _ (by decide)]; exact h8, h9, by rw [e _ (by decide)]; exact h10⟩
theorem PLX.upd {D : Wd} {pn : Nat} {pl : Nat → Int32} {j : Nat} {x : Int32} (h : PLX D 0 pn pl) : PLX (upA D (11, 0) (upd (D (11, 0)) j x)) 0 pn (upd pl j x) := by
  intro p hp
  rw [upA_s]
  show (if p = j then x else D (11, 0) p) = (if p = j then x else pl p)
  split
  · rfl
  · exact h p hp
/-- the half of the widest room so far -/
def fuH (n : Nat) (a : Nat → Nat) (q : Nat) : Int32 := if q = 0 then -1 else nI (wid n a (furG n a q) / 2)
theorem fu_y {n : Nat} {a : Nat → Nat} {q : Nat} (hq : wid n a q < 72) (hf : wid n a (furG n a q) < 72) (h : ¬ nI (wid n a q / 2) ≤ fuH n a q) : furG n a (q + 1) = q ∧ fuH n a (q + 1) = nI (wid n a q / 2) := by
  have e : furG n a (q + 1) = q := by
    rw [furG]
    by_cases z : q = 0
    · subst z
      split
      · rfl
      · rw [furG]
    · rw [fuH, if_neg z] at h
      rw [if_pos (Nat.lt_of_not_le (fun x => h ((nI_leI (by omega) (by omega)).mpr x)))]
  exact ⟨e, by rw [fuH, if_neg (by omega), e]⟩
theorem fu_n {n : Nat} {a : Nat → Nat} {q : Nat} (hq : wid n a q < 72) (hf : wid n a (furG n a q) < 72) (h : nI (wid n a q / 2) ≤ fuH n a q) : furG n a (q + 1) = furG n a q ∧ fuH n a (q + 1) = fuH n a q := by
  have z : q ≠ 0 := by
    intro z
    rw [fuH, if_pos z, Int32.le_iff_toInt_le, nI_toInt (by omega)] at h
    have : (-1 : Int32).toInt = -1 := by decide
    omega
  have e : furG n a (q + 1) = furG n a q := by
    rw [fuH, if_neg z] at h
    rw [furG, if_neg (Nat.not_lt.mpr ((nI_leI (by omega) (by omega)).mp h))]
  exact ⟨e, by rw [fuH, fuH, if_neg (by omega), if_neg z, e]⟩
theorem gcd_is {w v : Nat} (hw : 0 < w) (hno : ∀ e, v < e → e ≤ w → ¬ (w % e = 0 ∧ 72 % e = 0)) (h1 : w % v = 0) (h2 : 72 % v = 0) : v = Nat.gcd w 72 := by
  have d1 : v ∣ Nat.gcd w 72 := Nat.dvd_gcd (Nat.dvd_of_mod_eq_zero h1) (Nat.dvd_of_mod_eq_zero h2)
  have hp : 0 < Nat.gcd w 72 := Nat.gcd_pos_of_pos_right _ (by decide)
  have le := Nat.le_of_dvd hp d1
  by_cases h : v = Nat.gcd w 72
  · exact h
  · exact absurd ⟨Nat.mod_eq_zero_of_dvd (Nat.gcd_dvd_left w 72), Nat.mod_eq_zero_of_dvd (Nat.gcd_dvd_right w 72)⟩ (hno _ (by omega) (Nat.le_of_dvd hw (Nat.gcd_dvd_left w 72)))
theorem gcd_1 {w v : Nat} (hw : 0 < w) (hv : v ≤ 1) (hno : ∀ e, v < e → e ≤ w → ¬ (w % e = 0 ∧ 72 % e = 0)) : Nat.gcd w 72 = 1 := by
  have hp : 0 < Nat.gcd w 72 := Nat.gcd_pos_of_pos_right _ (by decide)
  by_cases h : Nat.gcd w 72 = 1
  · exact h
  · exact absurd ⟨Nat.mod_eq_zero_of_dvd (Nat.gcd_dvd_left w 72), Nat.mod_eq_zero_of_dvd (Nat.gcd_dvd_right w 72)⟩ (hno _ (by omega) (Nat.le_of_dvd hw (Nat.gcd_dvd_left w 72)))
theorem nI_m1 {v : Nat} (h : 1 ≤ v) : nI v + Int32.ofInt (-1) = nI (v - 1) := by
  rw [← pk_sub h]
  have : Int32.ofInt (-1) = -(nI 1) := by decide
  rw [this, Int32.sub_eq_add_neg]
/-! bytes written into the class's text -/
def bX (y : Int64) (q : Nat) : Int32 := (y >>> ((nI (8 * q)).toInt64 &&& 63)).toInt32.toInt8.toInt32.toInt8.toInt32
def WX (D : Wd) (len m : Nat) (by_ : Nat → Int32) : Wd := upA (upA D (8, 0) (wrB (D (8, 0)) len m by_)) (7, 0) (upd (D (7, 0)) 1 (nI (len + m)))
theorem WX.len {D : Wd} {len m : Nat} {b : Nat → Int32} : WX D len m b (7, 0) 1 = nI (len + m) := by rw [WX, upA_s]; rfl
theorem WX.z {D : Wd} {len : Nat} {b : Nat → Int32} (h : D (7, 0) 1 = nI len) : D = WX D len 0 b := by
  rw [WX, wrB_0, upA_self, Nat.add_zero, upd_self h, upA_self]
theorem WX.s {D : Wd} {len q : Nat} {b : Nat → Int32} : upA (upA (WX D len q b) (8, 0) (upd (WX D len q b (8, 0)) (len + q) (b q))) (7, 0) (upd (upA (WX D len q b) (8, 0) (upd (WX D len q b (8, 0)) (len + q) (b q)) (7, 0)) 1 (nI (len + q + 1))) = WX D len (q + 1) b := by
  have e1 : WX D len q b (8, 0) = wrB (D (8, 0)) len q b := by rw [WX, upA_n _ _ (by decide), upA_s]
  have e2 : upA (WX D len q b) (8, 0) (upd (WX D len q b (8, 0)) (len + q) (b q)) (7, 0) = upd (D (7, 0)) 1 (nI (len + q)) := by
    rw [upA_n _ _ (by decide), WX, upA_s]
  rw [e2, upd_upd, e1, wrB_s]
  show _ = upA (upA D (8, 0) (wrB (D (8, 0)) len (q + 1) b)) (7, 0) (upd (D (7, 0)) 1 (nI (len + (q + 1))))
  rw [WX, upA_swap _ _ _ (show ((7, 0) : Id2) ≠ (8, 0) by decide), upA_up, upA_up]
  rfl
/-! the push till a room is open, by fewer steps, against the reference's -/
theorem tm_ge {n : Nat} {k f : Nat → Nat} {dn : Nat} {dr : Nat → Nat} {i s r : Nat} : ∀ fu c a, c ≤ (tmG n k f dn dr i s r fu c a).1
  | 0, c, a => Nat.le_refl _
  | fu + 1, c, a => by
    rw [tmG]; split
    · exact Nat.le_refl _
    · split
      · exact Nat.le_refl _
      · exact Nat.le_trans (Nat.le_succ c) (tm_ge fu (c + 1) _)
theorem gt_tm {n : Nat} {k f : Nat → Nat} {dn : Nat} {dr : Nat → Nat} {i s r : Nat} : ∀ F fu c a, fu ≤ F + 1 →
    (opn n (tmG n k f dn dr i s r F c a).2 dn dr r = true → (tmG n k f dn dr i s r F c a).1 < c + fu → gtG n k f dn dr i s r fu c a = (some (tmG n k f dn dr i s r F c a).1, (tmG n k f dn dr i s r F c a).2)) ∧
    (¬ (opn n (tmG n k f dn dr i s r F c a).2 dn dr r = true ∧ (tmG n k f dn dr i s r F c a).1 < c + fu) → (gtG n k f dn dr i s r fu c a).1 = none)
  | F, 0, c, a, _ => by
    refine ⟨fun _ h => ?_, fun _ => rfl⟩
    have := tm_ge (n := n) (k := k) (f := f) (dn := dn) (dr := dr) (i := i) (s := s) (r := r) F c a
    omega
  | 0, fu + 1, c, a, hf => by
    have e : fu = 0 := by omega
    subst e
    simp only [tmG, gtG]
    by_cases ho : opn n a dn dr r = true
    · simp [ho]
    · simp [ho]; split <;> rfl
  | F + 1, fu + 1, c, a, hf => by
    rw [tmG, gtG]
    by_cases ho : opn n a dn dr r = true
    · rw [if_pos ho, if_pos ho]; exact ⟨fun _ _ => rfl, fun h => absurd ⟨ho, show c < c + (fu + 1) by omega⟩ h⟩
    · rw [if_neg ho, if_neg ho]
      by_cases hm : mov n a k f i s = 0
      · rw [if_pos hm, if_pos hm]; exact ⟨fun h _ => absurd h ho, fun _ => rfl⟩
      · rw [if_neg hm, if_neg hm]
        have ih := gt_tm (n := n) (k := k) (f := f) (dn := dn) (dr := dr) (i := i) (s := s) (r := r) F fu (c + 1) (stp n a k f i s) (by omega)
        rw [show c + (fu + 1) = c + 1 + fu from by omega]
        exact ih
