theorem ushr_0 {x : Int32} {n : Nat} (hn : n < 9) : (x.toUInt32 >>> ((nI n).toUInt32 &&& Int32.toUInt32 31)).toInt32 = 0 ↔ lt0 x (2 ^ n) = true := by
  have e1 : ∀ m, m < 9 → ((nI m).toUInt32 &&& Int32.toUInt32 31).toNat = m := by decide
  have e2 : (x.toUInt32 >>> ((nI n).toUInt32 &&& Int32.toUInt32 31)).toInt32 = 0 ↔ (x.toUInt32 >>> ((nI n).toUInt32 &&& Int32.toUInt32 31)).toNat = 0 := by
    constructor
    · intro h
      have : (x.toUInt32 >>> ((nI n).toUInt32 &&& Int32.toUInt32 31)).toInt32.toUInt32 = (0 : Int32).toUInt32 := by rw [h]
      rw [UInt32.toUInt32_toInt32] at this
      rw [this]; rfl
    · intro h
      have : (x.toUInt32 >>> ((nI n).toUInt32 &&& Int32.toUInt32 31)) = 0 := UInt32.toNat_inj.mp (by rw [h]; rfl)
      rw [this]; rfl
  rw [e2, UInt32.toNat_shiftRight, e1 n hn, Nat.mod_eq_of_lt (by omega : n < 32), Nat.shiftRight_eq_div_pow, lt0_iff]
  have p1 : 0 < 2 ^ n := Nat.pow_pos (by decide)
  have p2 : 2 ^ n ≤ 2 ^ 8 := Nat.pow_le_pow_right (by decide) (by omega)
  have p3 : ((2 ^ n : Nat) : Int) ≤ 256 := by omega
  have q0 : x.toUInt32.toNat = x.toBitVec.toNat := rfl
  have q1 : x.toInt = Int.bmod (x.toUInt32.toNat : Int) (2 ^ 32) := by
    rw [q0, ← BitVec.toInt_eq_toNat_bmod, Int32.toInt_toBitVec]
  have q2 : x.toUInt32.toNat < 2 ^ 32 := x.toUInt32.toNat_lt
  rw [Nat.div_eq_zero_iff, q1]
  generalize x.toUInt32.toNat = u at *
  rw [Int.bmod_def]
  generalize 2 ^ n = w at *
  omega
theorem nI_any (x : Int32) : ∃ m : Nat, x = nI m := ⟨x.toBitVec.toNat, by
  apply Int32.toBitVec_inj.mp
  show x.toBitVec = BitVec.ofNat 32 x.toBitVec.toNat
  simp⟩
theorem any5 (g : Nat → Int32) : ∃ O : List Nat, ∀ j, j < 5 → g j = nI (O.getD j 0) := by
  obtain ⟨a, ha⟩ := nI_any (g 0)
  obtain ⟨b, hb⟩ := nI_any (g 1)
  obtain ⟨c, hc⟩ := nI_any (g 2)
  obtain ⟨d, hd⟩ := nI_any (g 3)
  obtain ⟨e, he⟩ := nI_any (g 4)
  refine ⟨[a, b, c, d, e], fun j hj => ?_⟩
  rcases (show j = 0 ∨ j = 1 ∨ j = 2 ∨ j = 3 ∨ j = 4 by omega) with rfl | rfl | rfl | rfl | rfl
  · exact ha
  · exact hb
  · exact hc
  · exact hd
  · exact he
def erV (n : Nat) (k f : Nat → Nat) (dn : Nat) (dr : Nat → Nat) (a : Nat → Nat) (i v : Nat) (O : List Nat) : Nat × List Nat := visW n k f dn dr i (bl v n).length (bl v n) 0 a [] (361, O)
def erXS (n : Nat) (k f : Nat → Nat) (dn : Nat) (dr : Nat → Nat) (a : Nat → Nat) (O : List Nat) (x y z : Int32) : Int32 := if lt0 x (2 ^ n) && lt0 y n then (if z < -1 then -3 else if 5 < cntN (fun p => (ix x).testBit p) 8 then -4 else
  if 360 < (erV n k f dn dr a (ix y) (ix x) O).1 then -1 else if z = -1 then nI (erV n k f dn dr a (ix y) (ix x) O).1 else if z < nI (cntN (fun p => (ix x).testBit p) 8) then nI ((erV n k f dn dr a (ix y) (ix x) O).2.getD (ix z) 0) else -1) else -2
theorem BgR.at {D : Wd} {i : Nat} {p : Id2} (h : p.1 ≠ 9) (h2 : p.1 ≠ 10) (h3 : p.1 ≠ 11) (h4 : p ≠ (14, 0)) : BgR D i p = D p := by
  rw [BgR, CpH.o h h2 h3, upA_n _ _ h4, upA_n _ _ h4]
theorem BgR.P {D : Wd} {i w n : Nat} {k f : Nat → Nat} {dn : Nat} {dr : Nat → Nat} {pn : Nat} (p : PX D w n k f dn dr pn) : PX (BgR D i) w n k f dn dr pn := by
  obtain ⟨h1, h2, h3, h4, h5, h6, h7, h8, h9, h10⟩ := p
  have e : ∀ q, q < 9 → BgR D i (q, w) = D (q, w) := fun q hq => BgR.at (by show q ≠ 9; omega) (by show q ≠ 10; omega) (by show q ≠ 11; omega) (neK (by omega) _ _)
  exact ⟨h1, h2, by rw [e _ (by decide)]; exact h3, by rw [e _ (by decide)]; exact h4, by rw [e _ (by decide)]; exact h5, h6, by rw [e _ (by decide)]; exact h7, by rw [e _ (by decide)]; exact h8, h9, by rw [e _ (by decide)]; exact h10⟩
theorem BgR.A {D : Wd} {i n : Nat} {a : Nat → Nat} (hn : n ≤ 8) (p : AX D 0 n a) : AX (BgR D i) 5 n a := CpH.A hn (fun j hj => by rw [upA_n _ _ (by decide), upA_n _ _ (by decide)]; exact p j hj)
theorem BgR.l {D : Wd} {i : Nat} : BgR D i (14, 0) 5 = nI i ∧ BgR D i (14, 0) 6 = nI 361 := by
  rw [BgR, CpH.o (by decide) (by decide) (by decide), upA_s, upA_s]; exact ⟨rfl, rfl⟩
theorem BgR.X {D : Wd} {i : Nat} : TX D (BgR D i) := ((TX.rf.up (by decide)).up (by decide)).cp (Or.inr (by decide))
theorem z_in {z : Int32} {c : Nat} (hc : c < 100) (h1 : -1 ≤ z) (h2 : ¬ z = -1) (h3 : ¬ nI c ≤ z) : lt0 z c = true := by
  rw [lt0_iff]
  rw [Int32.le_iff_toInt_le, show (-1 : Int32).toInt = -1 from by decide] at h1
  rw [Int32.le_iff_toInt_le, nI_toInt (by omega)] at h3
  have : z.toInt ≠ -1 := fun e => h2 (Int32.toInt_inj.mp (by rw [e]; decide))
  omega
theorem zz_lt {z : Int32} {c : Nat} (h : nI c ≤ z) : ¬ z < nI c := by
  rw [Int32.lt_iff_toInt_lt]; rw [Int32.le_iff_toInt_le] at h; omega
theorem z_ge {z w : Int32} (h : w ≤ z) : ¬ z < w := by
  rw [Int32.lt_iff_toInt_lt]; rw [Int32.le_iff_toInt_le] at h; omega
theorem z_lt' {z w : Int32} (h : ¬ w ≤ z) : z < w := by
  rw [Int32.lt_iff_toInt_lt]; rw [Int32.le_iff_toInt_le] at h; omega
