/-! the world with the now row's angles and hour put anew -/
def Hr (D : Wd) (n : Nat) (a : Nat → Nat) (hr : Nat) : Wd := upA (Rw D 0 n a) (31, 0) (upd ((Rw D 0 n a) (31, 0)) 13 (nI hr))
theorem Hr.P {D : Wd} {n : Nat} {k f : Nat → Nat} {dn : Nat} {dr : Nat → Nat} {pn : Nat} {a : Nat → Nat} {hr : Nat} (h : PM D n k f dn dr pn) : PM (Hr D n a hr) n k f dn dr pn := (Rw.P h).up
theorem Hr.row {D : Wd} {n : Nat} {a : Nat → Nat} {hr q : Nat} : Hr D n a hr (31, 0) q = if q = 13 then nI hr else putA (D (31, 0)) 0 n a q := by
  rw [Hr, upA_s, Rw, upA_s]; rfl
theorem Hr.at {D : Wd} {n : Nat} {a : Nat → Nat} {hr : Nat} {i : Id2} (h : i ≠ (31, 0)) : Hr D n a hr i = D i := by
  rw [Hr, upA_n _ _ h]; exact Rw.at h
theorem Hr.A {D : Wd} {n : Nat} {a : Nat → Nat} {hr : Nat} (hn : n ≤ 8) (h : ∀ j, j < n → a j < 72) : AM (Hr D n a hr) 0 n a := by
  intro j hj
  rw [Hr.row, if_neg (by omega), putA_in hj]
  exact ⟨rfl, h j hj⟩
theorem Hr.out {D : Wd} {n : Nat} {a : Nat → Nat} {hr q : Nat} (hn : n ≤ q) (hq : q ≠ 13) : Hr D n a hr (31, 0) q = D (31, 0) q := by
  rw [Hr.row, if_neg hq, putA_out (by omega)]
theorem Hr.H {D : Wd} {n : Nat} {a hm : Nat → Nat} {hr : Nat} (hn : n ≤ 8) (h : AM D 56 n hm) : AM (Hr D n a hr) 56 n hm := by
  intro j hj
  rw [Hr.out (by omega) (by omega)]; exact h j hj
theorem Hr.R {D : Wd} {n : Nat} {a : Nat → Nat} {hr : Nat} : Hr D n a hr (31, 0) 13 = nI hr := by rw [Hr.row, if_pos rfl]
theorem wd_ext {D D' : Wd} (h : ∀ i q, D i q = D' i q) : D = D' := funext fun i => funext fun q => h i q
theorem Hr.twice (D : Wd) (n : Nat) (a a' : Nat → Nat) (hr hr' : Nat) : Hr (Hr D n a hr) n a' hr' = Hr D n a' hr' := by
  apply wd_ext
  intro i q
  by_cases h : i = (31, 0)
  · subst h
    rw [Hr.row, Hr.row]
    split
    · rfl
    · unfold putA
      split
      · rfl
      · rename_i h1 h2
        rw [Hr.row, if_neg h1, putA_out h2]
  · rw [Hr.at h, Hr.at h, Hr.at h]
theorem Hr.self {D : Wd} {n : Nat} {a : Nat → Nat} {hr : Nat} (hA : AM D 0 n a) (hR : D (31, 0) 13 = nI hr) : D = Hr D n a hr := by
  apply wd_ext
  intro i q
  by_cases h : i = (31, 0)
  · subst h
    rw [Hr.row]
    split
    · rename_i e; rw [e, hR]
    · rw [putA_self (fun j hj => (hA j hj).1)]
  · rw [Hr.at h]
def leaveOk (n : Nat) (a : Nat → Nat) (dn : Nat) (dr : Nat → Nat) (pn : Nat) (pl : Nat → Int32) (x : Int32) : Bool := lt0 x pn && (!decide (pl (ix x) = -1) && opn n a dn dr (ix (pl (ix x))))
def leaveS (n : Nat) (a : Nat → Nat) (dn : Nat) (dr : Nat → Nat) (pn : Nat) (pl : Nat → Int32) (x : Int32) : Int32 := if lt0 x pn then (if leaveOk n a dn dr pn pl x then pl (ix x) else -4) else -2
def enterOk (n : Nat) (a : Nat → Nat) (dn : Nat) (dr : Nat → Nat) (pn : Nat) (pl : Nat → Int32) (x r : Int32) : Bool := (lt0 x pn && lt0 r n) && (decide (pl (ix x) = -1) && opn n a dn dr (ix r))
def enterS (n : Nat) (a : Nat → Nat) (dn : Nat) (dr : Nat → Nat) (pn : Nat) (pl : Nat → Int32) (x r : Int32) : Int32 := if lt0 x pn && lt0 r n then (if enterOk n a dn dr pn pl x r then nI (cntN (fun p => (ppl pn (upd pl (ix x) r) r).testBit p) 8) else -4) else -2
def slamS (n : Nat) (k f a : Nat → Nat) (x s w : Int32) : Int32 := if lt0 x n then (if lt0 s 2 && lt0 w 2 then (if k (ix x) = 3 then -4 else if w = 0 then nI (wid n a (rmB n (ix x) (ix s)) - f (rmB n (ix x) (ix s)) - 1) else nI (lfB n (ix x) (ix s))) else -3) else -2
/-- the room whose half is widest, of the first m -/
def furG (n : Nat) (a : Nat → Nat) : Nat → Nat
  | 0 => 0
  | m + 1 => if wid n a (furG n a m) / 2 < wid n a m / 2 then m else furG n a m
def furS (n : Nat) (a : Nat → Nat) (w : Int32) : Int32 := if lt0 w 2 then (if w = 0 then nI (furG n a n) else nI (wid n a (furG n a n) / 2)) else -3
def shareS (n : Nat) (a : Nat → Nat) (x w : Int32) : Int32 := if lt0 x n then (if lt0 w 2 then (if w = 0 then nI (wid n a (ix x) / Nat.gcd (wid n a (ix x)) 72) else nI (72 / Nat.gcd (wid n a (ix x)) 72)) else -3) else -2
def shw (a b : Nat) : Nat := if onN a b < 72 - onN a b then onN a b else 72 - onN a b
/-- the way by what was seen of a leaf, the first m sights: steps so far, and where it was last -/
def lsG (lf an : Nat → Nat) (i h : Nat) : Nat → Nat × Nat
  | 0 => (0, h)
  | m + 1 => if lf m = i then ((lsG lf an i h m).1 + shw (lsG lf an i h m).2 (an m), an m) else lsG lf an i h m
def leastS (n : Nat) (a hm : Nat → Nat) (sm : Nat) (lf an : Nat → Nat) (x : Int32) : Int32 := if lt0 x n then nI ((lsG lf an (ix x) (hm (ix x)) sm).1 + shw (lsG lf an (ix x) (hm (ix x)) sm).2 (a (ix x))) else -2
theorem shw_lt {a b : Nat} (ha : a < 72) (hb : b < 72) : shw a b ≤ 72 := by
  have := onN_lt ha hb
  unfold shw; split <;> omega
theorem furG_lt {n : Nat} {a : Nat → Nat} : ∀ m, furG n a m ≤ m - 1
  | 0 => by simp [furG]
  | m + 1 => by
    have := furG_lt (n := n) (a := a) m
    rw [furG]; split <;> omega
theorem furG_le {n : Nat} {a : Nat → Nat} {m : Nat} (h : m ≤ n) (h0 : 0 < n) : furG n a m < n := by
  have := furG_lt (n := n) (a := a) m
  omega
theorem cntN_le (p : Nat → Bool) : ∀ n, cntN p n ≤ n
  | 0 => by simp [cntN]
  | n + 1 => by
    have := cntN_le p n
    rw [cntN]; split <;> omega
theorem lsG_ok {lf an : Nat → Nat} {i h m : Nat} (hh : h < 72) (han : ∀ q, q < m → an q < 72) : (lsG lf an i h m).1 ≤ 72 * m ∧ (lsG lf an i h m).2 < 72 := by
  induction m with
  | zero => exact ⟨by simp [lsG], hh⟩
  | succ m ih =>
    obtain ⟨h1, h2⟩ := ih (fun q hq => han q (by omega))
    rw [lsG]
    split
    · have := shw_lt h2 (han m (by omega))
      exact ⟨by simp only; omega, han m (by omega)⟩
    · exact ⟨by omega, h2⟩
theorem hrN_s (n : Nat) (k f hm : Nat → Nat) (q : Nat) (a : Nat → Nat) : hrA n k f hm n (hrN n k f hm q a) = hrN n k f hm (q + 1) a := rfl
theorem cp_step (D : Wd) {fr to q : Nat} (h : fr + 14 ≤ to ∨ to + 14 ≤ fr) (hq : q < 14) : upA (upA D (31, 0) (cpR (D (31, 0)) fr to q)) (31, 0) (upd (upA D (31, 0) (cpR (D (31, 0)) fr to q) (31, 0)) (to + q) (upA D (31, 0) (cpR (D (31, 0)) fr to q) (31, 0) (fr + q))) = upA D (31, 0) (cpR (D (31, 0)) fr to (q + 1)) := by
  rw [upA_up, upA_s, cpR_succ _ _ (cpR_out (by omega))]
