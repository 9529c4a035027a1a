/-! THE CLASS: its plan, its houses -/
def PX (D : Wd) (h n : Nat) (k f : Nat → Nat) (dn : Nat) (dr : Nat → Nat) (pn : Nat) : Prop :=
  3 ≤ n ∧ n ≤ 8 ∧ D (1, h) 0 = nI n ∧ (∀ j, j < n → D (3, h) j = nI (k j) ∧ k j < 4) ∧ (∀ j, j < n → D (4, h) j = nI (f j) ∧ f j ≤ 20) ∧ dn ≤ 3 ∧ D (1, h) 4 = nI dn ∧ (∀ j, j < dn → D (5, h) j = nI (dr j) ∧ dr j < 72) ∧ pn ≤ 5 ∧ D (1, h) 6 = nI pn
def AX (D : Wd) (h n : Nat) (a : Nat → Nat) : Prop := ∀ j, j < n → D (10, h) j = nI (a j) ∧ a j < 72
def HX (D : Wd) (h n : Nat) (hm : Nat → Nat) : Prop := ∀ j, j < n → D (2, h) j = nI (hm j) ∧ hm j < 72
def PLX (D : Wd) (h pn : Nat) (pl : Nat → Int32) : Prop := ∀ p, p < pn → D (11, h) p = pl p
/-- a house's angles put anew -/
def RX (D : Wd) (h n : Nat) (a : Nat → Nat) : Wd := upA D (10, h) (putA (D (10, h)) 0 n a)
theorem RX.at {D : Wd} {h n : Nat} {a : Nat → Nat} {i : Id2} (hi : i ≠ (10, h)) : RX D h n a i = D i := upA_n D _ hi
theorem RX.in {D : Wd} {h n : Nat} {a : Nat → Nat} {j : Nat} (hj : j < n) : RX D h n a (10, h) j = nI (a j) := by
  have := putA_in (w := D (10, h)) (b := 0) (n := n) (a := a) hj
  rw [Nat.zero_add] at this
  rw [RX, upA_s]; exact this
theorem ne1 {i : Nat} (h : i ≠ 10) (x y : Nat) : ((i, x) : Id2) ≠ (10, y) := fun e => h (congrArg Prod.fst e)
theorem neK {i j : Nat} (h : i ≠ j) (x y : Nat) : ((i, x) : Id2) ≠ (j, y) := fun e => h (congrArg Prod.fst e)
theorem RX.P {D : Wd} {g h n : Nat} {k f : Nat → Nat} {dn : Nat} {dr : Nat → Nat} {pn : Nat} {a : Nat → Nat} (p : PX D g n k f dn dr pn) : PX (RX D h n a) g n k f dn dr pn := by
  obtain ⟨h1, h2, h3, h4, h5, h6, h7, h8, h9, h10⟩ := p
  exact ⟨h1, h2, by rw [RX.at (ne1 (by decide) _ _)]; exact h3, by rw [RX.at (ne1 (by decide) _ _)]; exact h4, by rw [RX.at (ne1 (by decide) _ _)]; exact h5, h6, by rw [RX.at (ne1 (by decide) _ _)]; exact h7, by rw [RX.at (ne1 (by decide) _ _)]; exact h8, h9, by rw [RX.at (ne1 (by decide) _ _)]; exact h10⟩
theorem RX.A {D : Wd} {h n : Nat} {a : Nat → Nat} (ha : ∀ j, j < n → a j < 72) : AX (RX D h n a) h n a := fun j hj => ⟨RX.in hj, ha j hj⟩
theorem RX.H {D : Wd} {g h n : Nat} {a hm : Nat → Nat} (p : HX D g n hm) : HX (RX D h n a) g n hm := by
  intro j hj; rw [RX.at (ne1 (by decide) _ _)]; exact p j hj
theorem RX.Pl {D : Wd} {g h n pn : Nat} {a : Nat → Nat} {pl : Nat → Int32} (p : PLX D g pn pl) : PLX (RX D h n a) g pn pl := by
  intro j hj; rw [RX.at (ne1 (by decide) _ _)]; exact p j hj
theorem RX.self {D : Wd} {h n : Nat} {a : Nat → Nat} (p : AX D h n a) : RX D h n a = D := by
  rw [RX, putA_self (fun j hj => by rw [Nat.zero_add]; exact (p j hj).1), upA_self]
theorem RX.twice (D : Wd) (h n : Nat) (a a' : Nat → Nat) : RX (RX D h n a) h n a' = RX D h n a' := by
  show upA (upA D (10, h) (putA (D (10, h)) 0 n a)) (10, h) (putA ((upA D (10, h) (putA (D (10, h)) 0 n a)) (10, h)) 0 n a') = upA D (10, h) (putA (D (10, h)) 0 n a')
  rw [upA_s, upA_up, putA_put]
/-- the angles behind q of the leaves that move -/
def stq (n : Nat) (a : Nat → Nat) (i s q : Nat) : Nat → Nat := fun j => if inM n q i s j then sa s (a j) else a j
theorem stq_0 (n : Nat) (a : Nat → Nat) (i s : Nat) : stq n a i s 0 = a := by funext j; simp [stq, inM]
theorem stq_m (n : Nat) (a k f : Nat → Nat) (i s : Nat) : stq n a i s (mov n a k f i s) = stp n a k f i s := rfl
theorem stq_lt {n : Nat} {a : Nat → Nat} {i s q j : Nat} (h : a j < 72) : stq n a i s q j < 72 := by
  unfold stq; split; exact sa_lt _ _; exact h
theorem RX.step {D : Wd} {h n : Nat} {a : Nat → Nat} {i s q w : Nat} (hn : n < 9) (hi : i < n) (hs : s < 2) (hw : w < n) (hd : dst n i s w = q) : upA (RX D h n (stq n a i s q)) (10, h) (upd (RX D h n (stq n a i s q) (10, h)) w (nI (sa s (a w)))) = RX D h n (stq n a i s (q + 1)) := by
  have e : RX D h n (stq n a i s q) (10, h) = putA (D (10, h)) 0 n (stq n a i s q) := by rw [RX, upA_s]
  rw [e]
  show upA (upA D (10, h) (putA (D (10, h)) 0 n (stq n a i s q))) (10, h) (upd (putA (D (10, h)) 0 n (stq n a i s q)) w (nI (sa s (a w)))) = upA D (10, h) (putA (D (10, h)) 0 n (stq n a i s (q + 1)))
  rw [upA_up]
  congr 1
  funext j
  unfold upd putA
  by_cases hj : j = w
  · subst hj
    rw [if_pos rfl, if_pos ⟨by omega, by omega⟩, Nat.sub_zero]
    congr 1
    unfold stq
    rw [inM_dst, hd, if_pos (by simp)]
  · rw [if_neg hj]
    by_cases h2 : 0 ≤ j ∧ j < 0 + n
    · rw [if_pos h2, if_pos h2, Nat.sub_zero]
      congr 1
      unfold stq
      rw [inM_dst, inM_dst]
      have h1 : dst n i s j ≠ q := fun x => hj (dst_inj n hn i hi s hs j (by omega) w hw (x.trans hd.symm))
      have h3 : dst n i s j < q + 1 ↔ dst n i s j < q := by omega
      simp [h3]
    · rw [if_neg h2, if_neg h2]
def tkN (j : Nat) : Nat := match j with
  | 0 => 3
  | 1 => 7
  | 2 => 9
  | _ => 25
theorem tkF_N : ∀ j, j < 4 → tkF j = nI (tkN j) := by decide
theorem tkN_lt (j : Nat) : tkN j < 256 := by unfold tkN; split <;> decide
def takB (q s : Nat) : Bool := (tkN q).testBit s
theorem tak1 : ∀ q, q < 4 → (takB q 1 = true ↔ q ≤ 1) := by decide
/-- the class's push till a room is open -/
def gtG (n : Nat) (k f : Nat → Nat) (dn : Nat) (dr : Nat → Nat) (i s r : Nat) : Nat → Nat → (Nat → Nat) → Option Nat × (Nat → Nat)
  | 0, _, a => (none, a)
  | fu + 1, c, a => if opn n a dn dr r then (some c, a) else if mov n a k f i s = 0 then (none, a) else gtG n k f dn dr i s r fu (c + 1) (stp n a k f i s)
theorem onN_0 {a b : Nat} (ha : a < 72) (hb : b < 72) : onN a b = 0 ↔ a = b := by unfold onN; split <;> omega
/-- the room's width and all slack that reaches it, to a side -/
def srG (n : Nat) (k a f : Nat → Nat) (s : Nat) : Nat → Nat → Int32 → Nat → Int32 × Nat
  | 0, _, w, o => (w, o)
  | fu + 1, l, w, o => if k l = 3 then (w, o) else srG n k a f s fu (lfB n l s) (w + (nI (wid n a (rmB n l s)) - nI (f (rmB n l s) + 1))) (o + 1)
theorem srG_o {n : Nat} {k a f : Nat → Nat} {s : Nat} : ∀ fu l w o, (srG n k a f s fu l w o).2 ≤ o + fu
  | 0, l, w, o => by simp [srG]
  | fu + 1, l, w, o => by
    rw [srG]; split
    · simp only; omega
    · have := srG_o (n := n) (k := k) (a := a) (f := f) (s := s) fu (lfB n l s) (w + (nI (wid n a (rmB n l s)) - nI (f (rmB n l s) + 1))) (o + 1); omega
def stS (n : Nat) (k a f : Nat → Nat) (r : Nat) : Int32 := (srG n k a f 1 (n - 1 - (srG n k a f 0 (n - 1) (nx n r) (nI (wid n a r)) 0).2) r (srG n k a f 0 (n - 1) (nx n r) (nI (wid n a r)) 0).1 (srG n k a f 0 (n - 1) (nx n r) (nI (wid n a r)) 0).2).1
/-- a house's places put anew -/
def PW (D : Wd) (h pn : Nat) (pl : Nat → Int32) : Wd := upA D (11, h) (fun q => if q < pn then pl q else D (11, h) q)
theorem PW.self {D : Wd} {h pn : Nat} {pl : Nat → Int32} (p : PLX D h pn pl) : PW D h pn pl = D := by
  have e : (fun q => if q < pn then pl q else D (11, h) q) = D (11, h) := by
    funext q; split
    · rename_i hq; exact (p q hq).symm
    · rfl
  rw [PW, e, upA_self]
theorem PW.at {D : Wd} {h pn : Nat} {pl : Nat → Int32} {i : Id2} (hi : i ≠ (11, h)) : PW D h pn pl i = D i := upA_n D _ hi
theorem PW.Pl {D : Wd} {h pn : Nat} {pl : Nat → Int32} : PLX (PW D h pn pl) h pn pl := fun p hp => by rw [PW, upA_s, if_pos hp]
theorem PW.upd {D : Wd} {h pn j : Nat} {pl : Nat → Int32} {x : Int32} (p : PLX D h pn pl) (hj : j < pn) : upA D (11, h) (upd (D (11, h)) j x) = PW D h pn (upd pl j x) := by
  rw [PW]
  congr 1
  funext q
  show (if q = j then x else D (11, h) q) = if q < pn then (if q = j then x else pl q) else D (11, h) q
  by_cases e : q = j
  · rw [if_pos e, if_pos e, if_pos (by omega)]
  · rw [if_neg e, if_neg e]
    by_cases hq : q < pn
    · rw [if_pos hq]; exact p q hq
    · rw [if_neg hq]
theorem PW.twice (D : Wd) (h pn : Nat) (pl pl' : Nat → Int32) : PW (PW D h pn pl) h pn pl' = PW D h pn pl' := by
  show upA (upA D (11, h) (fun q => if q < pn then pl q else D (11, h) q)) (11, h) (fun q => if q < pn then pl' q else (upA D (11, h) (fun q => if q < pn then pl q else D (11, h) q)) (11, h) q) = upA D (11, h) (fun q => if q < pn then pl' q else D (11, h) q)
  rw [upA_s, upA_up]
  congr 1
  funext q
  by_cases hq : q < pn
  · rw [if_pos hq, if_pos hq]
  · rw [if_neg hq, if_neg hq, if_neg hq]
theorem PW.P {D : Wd} {g h n : Nat} {k f : Nat → Nat} {dn : Nat} {dr : Nat → Nat} {pn pm : Nat} {pl : Nat → Int32} (p : PX D g n k f dn dr pn) : PX (PW D h pm pl) g n k f dn dr pn := by
  obtain ⟨h1, h2, h3, h4, h5, h6, h7, h8, h9, h10⟩ := p
  have e : ∀ i x, i ≠ 11 → PW D h pm pl (i, x) = D (i, x) := fun i x hi => PW.at (neK hi _ _)
  exact ⟨h1, h2, by rw [e _ _ (by decide)]; exact h3, by rw [e _ _ (by decide)]; exact h4, by rw [e _ _ (by decide)]; exact h5, h6, by rw [e _ _ (by decide)]; exact h7, by rw [e _ _ (by decide)]; exact h8, h9, by rw [e _ _ (by decide)]; exact h10⟩
theorem PW.A {D : Wd} {g h n pm : Nat} {a : Nat → Nat} {pl : Nat → Int32} (p : AX D g n a) : AX (PW D h pm pl) g n a := by
  intro j hj; rw [PW.at (neK (by decide) _ _)]; exact p j hj
