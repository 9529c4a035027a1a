/-! writing, widest, errands -/
def wrB (w : Nat → Int32) (len m : Nat) (by_ : Nat → Int32) : Nat → Int32 := fun q => if len ≤ q ∧ q < len + m then by_ (q - len) else w q
def WT (D : Wd) (len m : Nat) (by_ : Nat → Int32) : Wd := upA (upA D (33, 0) (wrB (D (33, 0)) len m by_)) (30, 0) (upd (D (30, 0)) 3 (nI (len + m)))
def bM (bytes : Int64) (q : Nat) : Int32 := ((bytes >>> ((nI (8 * q)).toInt64 &&& 63)) &&& 255).toInt32
theorem wrB_0 (w : Nat → Int32) (len : Nat) (b : Nat → Int32) : wrB w len 0 b = w := by
  funext q; unfold wrB; rw [if_neg (by omega)]
theorem wrB_s (w : Nat → Int32) (len q : Nat) (b : Nat → Int32) : upd (wrB w len q b) (len + q) (b q) = wrB w len (q + 1) b := by
  funext j; unfold upd wrB
  by_cases h : j = len + q
  · subst h
    rw [if_pos rfl, if_pos ⟨by omega, by omega⟩]; congr 1; omega
  · rw [if_neg h]
    by_cases h2 : len ≤ j ∧ j < len + q
    · rw [if_pos h2, if_pos ⟨by omega, by omega⟩]
    · rw [if_neg h2, if_neg (by omega)]
theorem WT.len {D : Wd} {len m : Nat} {b : Nat → Int32} : WT D len m b (30, 0) 3 = nI (len + m) := by rw [WT, upA_s]; rfl
theorem upd_upd (f : Nat → Int32) (k : Nat) (x y : Int32) : upd (upd f k x) k y = upd f k y := by
  funext j; unfold upd; split <;> rfl
theorem upd_self {f : Nat → Int32} {k : Nat} {x : Int32} (h : f k = x) : upd f k x = f := by
  funext j; unfold upd; split
  · rename_i e; rw [e, h]
  · rfl
theorem WT.z {D : Wd} {len : Nat} {b : Nat → Int32} (h : D (30, 0) 3 = nI len) : D = WT D len 0 b := by
  rw [WT, wrB_0, upA_self, Nat.add_zero, upd_self h, upA_self]
theorem WT.s {D : Wd} {len q : Nat} {b : Nat → Int32} : upA (upA (WT D len q b) (33, 0) (upd (WT D len q b (33, 0)) (len + q) (b q))) (30, 0) (upd (upA (WT D len q b) (33, 0) (upd (WT D len q b (33, 0)) (len + q) (b q)) (30, 0)) 3 (nI (len + q + 1))) = WT D len (q + 1) b := by
  have e1 : WT D len q b (33, 0) = wrB (D (33, 0)) len q b := by rw [WT, upA_n _ _ (by decide), upA_s]
  have e2 : upA (WT D len q b) (33, 0) (upd (WT D len q b (33, 0)) (len + q) (b q)) (30, 0) = upd (D (30, 0)) 3 (nI (len + q)) := by
    rw [upA_n _ _ (by decide), WT, upA_s]
  rw [e2, upd_upd, e1, wrB_s]
  show _ = upA (upA D (33, 0) (wrB (D (33, 0)) len (q + 1) b)) (30, 0) (upd (D (30, 0)) 3 (nI (len + (q + 1))))
  rw [WT, upA_swap _ _ _ (show ((30, 0) : Id2) ≠ (33, 0) by decide), upA_up, upA_up]
  rfl
/-- back from a leaf to the first fixed one, m at most: where, and how many rooms -/
def fsG (n : Nat) (k : Nat → Nat) : Nat → Nat → Nat → Nat × Nat
  | 0, w, m => (w, m)
  | fu + 1, w, m => if k w = 3 then (w, m) else fsG n k fu (bf n w) (m + 1)
def ltG (n : Nat) (k : Nat → Nat) : Nat → Nat → Nat → Nat × Nat
  | 0, w, m => (w, m)
  | fu + 1, w, m => if k w = 3 then (w, m) else ltG n k fu (nx n w) (m + 1)
/-- what the first m rooms from w on need, the room r aside -/
def ndG (n : Nat) (f : Nat → Nat) (r : Nat) : Nat → Nat → Nat × Nat
  | w, 0 => (0, w)
  | w, m + 1 => ((ndG n f r w m).1 + (if (ndG n f r w m).2 = r then 0 else f (ndG n f r w m).2 + 1), nx n (ndG n f r w m).2)
def widS (n : Nat) (k f a : Nat → Nat) (x : Int32) : Int32 := if lt0 x n then
  (let p := fsG n k (n - 1) (ix x) 1
   let q := ltG n k (n - p.2) (nx n (ix x)) p.2
   nI (if p.1 = q.1 ∨ q.2 = n then 72 else onN (a p.1) (a q.1)) - nI (ndG n f (ix x) p.1 q.2).1) else -2
theorem fsG_ok {n : Nat} {k : Nat → Nat} : ∀ fu w m, w < n → m + fu = n → (fsG n k fu w m).1 < n ∧ (fsG n k fu w m).2 ≤ n ∧ m ≤ (fsG n k fu w m).2
  | 0, w, m, hw, hm => by rw [fsG]; exact ⟨hw, by simp only; omega, by simp⟩
  | fu + 1, w, m, hw, hm => by
    rw [fsG]; split
    · exact ⟨hw, by simp only; omega, by simp⟩
    · obtain ⟨h1, h2, h3⟩ := fsG_ok (k := k) fu (bf n w) (m + 1) (bf_lt hw) (by omega)
      exact ⟨h1, h2, by omega⟩
theorem ltG_ok {n : Nat} {k : Nat → Nat} : ∀ fu w m, w < n → m + fu = n → (ltG n k fu w m).1 < n ∧ (ltG n k fu w m).2 ≤ n
  | 0, w, m, hw, hm => by rw [ltG]; exact ⟨hw, by simp only; omega⟩
  | fu + 1, w, m, hw, hm => by
    rw [ltG]; split
    · exact ⟨hw, by simp only; omega⟩
    · exact ltG_ok fu (nx n w) (m + 1) (nx_lt (by omega)) (by omega)
theorem ndG_lt {n : Nat} {f : Nat → Nat} {r w : Nat} (hw : w < n) : ∀ m, (ndG n f r w m).2 < n
  | 0 => hw
  | m + 1 => by rw [ndG]; exact nx_lt (by omega)
theorem sub_sub' (x y z : Int32) : x - y - z = x - (y + z) := by
  apply Int32.toBitVec_inj.mp
  simp only [Int32.toBitVec_sub, Int32.toBitVec_add]
  rw [BitVec.sub_eq_add_neg, BitVec.sub_eq_add_neg, BitVec.sub_eq_add_neg, BitVec.neg_add, BitVec.sub_eq_add_neg, BitVec.add_assoc]
/-- one errand: by the lesser side (of like ones on); the steps (none: it can't be done), and where all stands then -/
def erG (n : Nat) (k f : Nat → Nat) (dn : Nat) (dr : Nat → Nat) (i r : Nat) (a : Nat → Nat) : Option Nat × (Nat → Nat) :=
  if opn n (tmG n k f dn dr i 0 r 72 0 a).2 dn dr r = true ∧ (opn n (tmG n k f dn dr i 1 r 72 0 a).2 dn dr r = true → (tmG n k f dn dr i 0 r 72 0 a).1 ≤ (tmG n k f dn dr i 1 r 72 0 a).1) then (some (tmG n k f dn dr i 0 r 72 0 a).1, (tmG n k f dn dr i 0 r 72 0 a).2)
  else if opn n (tmG n k f dn dr i 1 r 72 0 a).2 dn dr r = true then (some (tmG n k f dn dr i 1 r 72 0 a).1, (tmG n k f dn dr i 1 r 72 0 a).2)
  else (none, a)
/-- only the trial row's angles and what was set aside differ -/
def TS (D E : Wd) : Prop := (∀ i : Id2, i ≠ (31, 0) → i ≠ (42, 0) → E i = D i) ∧ ∀ q, (q < 42 ∨ 50 ≤ q) → E (31, 0) q = D (31, 0) q
theorem TS.refl (D : Wd) : TS D D := ⟨fun _ _ _ => rfl, fun _ _ => rfl⟩
theorem TS.trans {D E F : Wd} (h1 : TS D E) (h2 : TS E F) : TS D F := ⟨fun i hi hj => (h2.1 i hi hj).trans (h1.1 i hi hj), fun q hq => (h2.2 q hq).trans (h1.2 q hq)⟩
theorem TS.P {D E : Wd} {n : Nat} {k f : Nat → Nat} {dn : Nat} {dr : Nat → Nat} {pn : Nat} (t : TS D E) (h : PM D n k f dn dr pn) : PM E n k f dn dr pn := by
  obtain ⟨h1, h2, h3, h4, h5, h6, h7, h8, h9, h10⟩ := h
  exact ⟨h1, h2, by rw [t.1 _ (by decide) (by decide)]; exact h3, by rw [t.1 _ (by decide) (by decide)]; exact h4, by rw [t.1 _ (by decide) (by decide)]; exact h5, h6, by rw [t.1 _ (by decide) (by decide)]; exact h7, by rw [t.1 _ (by decide) (by decide)]; exact h8, h9, by rw [t.1 _ (by decide) (by decide)]; exact h10⟩
theorem TS.Rw {D E : Wd} {n : Nat} {a : Nat → Nat} (hn : n ≤ 8) (t : TS D E) : TS D (Rw E 42 n a) := by
  refine ⟨fun i hi hj => ?_, fun q hq => ?_⟩
  · rw [Rw.at hi]; exact t.1 i hi hj
  · show upA E (31, 0) (putA (E (31, 0)) 42 n a) (31, 0) q = _
    rw [upA_s, putA_out (by omega)]; exact t.2 q hq
/-- the first m of the trial row's angles, set aside -/
def asd (u v : Nat → Int32) (m : Nat) : Nat → Int32 := fun q => if q < m then u (42 + q) else v q
theorem asd_0 (u v : Nat → Int32) : asd u v 0 = v := by
  funext q; unfold asd; rw [if_neg (by omega)]
theorem asd_s (u v : Nat → Int32) (m : Nat) : upd (asd u v m) m (u (42 + m)) = asd u v (m + 1) := by
  funext j; unfold upd asd
  by_cases h : j = m
  · subst h; rw [if_pos rfl, if_pos (by omega)]
  · rw [if_neg h]
    by_cases h2 : j < m
    · rw [if_pos h2, if_pos (by omega)]
    · rw [if_neg h2, if_neg (by omega)]
def Sas (D : Wd) (m : Nat) : Wd := upA D (42, 0) (asd (D (31, 0)) (D (42, 0)) m)
theorem Sas.s (D : Wd) (m : Nat) : upA (Sas D m) (42, 0) (upd (Sas D m (42, 0)) m (Sas D m (31, 0) (42 + m))) = Sas D (m + 1) := by
  have e1 : Sas D m (42, 0) = asd (D (31, 0)) (D (42, 0)) m := by rw [Sas, upA_s]
  have e2 : Sas D m (31, 0) = D (31, 0) := by rw [Sas, upA_n _ _ (by decide)]
  rw [e1, e2, asd_s]
  rw [Sas, upA_up]; rfl
theorem Sas.z (D : Wd) : D = Sas D 0 := by rw [Sas, asd_0, upA_self]
/-- the first m angles of the trial row as they were set aside -/
def Pbk (D : Wd) (m : Nat) : Wd := upA D (31, 0) (fun q => if 42 ≤ q ∧ q < 42 + m then D (42, 0) (q - 42) else D (31, 0) q)
theorem Pbk.z (D : Wd) : D = Pbk D 0 := by
  have e : (fun q => if 42 ≤ q ∧ q < 42 + 0 then D (42, 0) (q - 42) else D (31, 0) q) = D (31, 0) := by
    funext q; rw [if_neg (by omega)]
  rw [Pbk, e, upA_self]
theorem Pbk.s (D : Wd) (m : Nat) : upA (Pbk D m) (31, 0) (upd (Pbk D m (31, 0)) (42 + m) (Pbk D m (42, 0) m)) = Pbk D (m + 1) := by
  have e2 : Pbk D m (42, 0) = D (42, 0) := by rw [Pbk, upA_n _ _ (by decide)]
  have e1 : Pbk D m (31, 0) = (fun q => if 42 ≤ q ∧ q < 42 + m then D (42, 0) (q - 42) else D (31, 0) q) := by rw [Pbk, upA_s]
  rw [e1, e2]
  rw [Pbk, upA_up, Pbk]
  congr 1
  funext j; unfold upd
  by_cases h : j = 42 + m
  · subst h; rw [if_pos rfl, if_pos ⟨by omega, by omega⟩]; congr 1; omega
  · rw [if_neg h]
    show (if 42 ≤ j ∧ j < 42 + m then D (42, 0) (j - 42) else D (31, 0) j) = _
    by_cases h2 : 42 ≤ j ∧ j < 42 + m
    · rw [if_pos h2, if_pos ⟨by omega, by omega⟩]
    · rw [if_neg h2, if_neg (by omega)]
/-- set aside: what is there now -/
def SA (E : Wd) (n : Nat) (a : Nat → Nat) : Prop := ∀ j, j < n → E (42, 0) j = nI (a j) ∧ a j < 72
theorem Sas.ok {D : Wd} {n : Nat} {a : Nat → Nat} (hn : n ≤ 8) (hA : AM D 42 n a) : TS D (Sas D 8) ∧ AM (Sas D 8) 42 n a ∧ SA (Sas D 8) n a := by
  refine ⟨⟨fun i hi hj => by rw [Sas, upA_n _ _ hj], fun q hq => by rw [Sas, upA_n _ _ (by decide)]⟩, fun j hj => by rw [Sas, upA_n _ _ (by decide)]; exact hA j hj, fun j hj => ?_⟩
  rw [Sas, upA_s, asd, if_pos (by omega)]; exact hA j hj
theorem Pbk.ok {D : Wd} {n : Nat} {a : Nat → Nat} (hn : n ≤ 8) (hA : SA D n a) : TS D (Pbk D 8) ∧ AM (Pbk D 8) 42 n a ∧ SA (Pbk D 8) n a := by
  refine ⟨⟨fun i hi hj => by rw [Pbk, upA_n _ _ hi], fun q hq => by rw [Pbk, upA_s, if_neg (by omega)]⟩, fun j hj => ?_, fun j hj => by rw [Pbk, upA_n _ _ (by decide)]; exact hA j hj⟩
  rw [Pbk, upA_s, if_pos ⟨by omega, by omega⟩, show 42 + j - 42 = j from by omega]; exact hA j hj
theorem SA.Rw {D : Wd} {n : Nat} {a b : Nat → Nat} (h : SA D n a) : SA (Rw D 42 n b) n a := fun j hj => by rw [Rw.at (by decide)]; exact h j hj
