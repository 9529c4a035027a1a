/-! turns and errands of the class: limits -/
def trO (n : Nat) (k f : Nat → Nat) (dn : Nat) (dr : Nat → Nat) (i s r : Nat) (a : Nat → Nat) : Option Nat := if opn n (tmG n k f dn dr i s r 72 0 a).2 dn dr r then some (tmG n k f dn dr i s r 72 0 a).1 else none
def lmO (o : Option Nat) (B : Nat) : Option Nat := match o with
  | none => none
  | some c => if c < B then some c else none
theorem trn_O (n : Nat) (k f : Nat → Nat) (dn : Nat) (dr : Nat → Nat) (i s r : Nat) (a : Nat → Nat) : trn n k f dn dr i s r a = opI (trO n k f dn dr i s r a) := by
  unfold trn trO; split <;> rfl
theorem tm_le {n : Nat} {k f : Nat → Nat} {dn : Nat} {dr : Nat → Nat} {i s r : Nat} : ∀ fu c a, (tmG n k f dn dr i s r fu c a).1 ≤ c + fu
  | 0, c, a => Nat.le_refl _
  | fu + 1, c, a => by
    rw [tmG]; split
    · simp only; omega
    · split
      · simp only; omega
      · have := tm_le (n := n) (k := k) (f := f) (dn := dn) (dr := dr) (i := i) (s := s) (r := r) fu (c + 1) (stp n a k f i s); omega
theorem trO_le {n : Nat} {k f : Nat → Nat} {dn : Nat} {dr : Nat → Nat} {i s r : Nat} {a : Nat → Nat} {c : Nat} (h : trO n k f dn dr i s r a = some c) : c ≤ 72 := by
  unfold trO at h
  split at h
  · cases h; have := tm_le (n := n) (k := k) (f := f) (dn := dn) (dr := dr) (i := i) (s := s) (r := r) 72 0 a; omega
  · cases h
theorem lmO_lt {o : Option Nat} {B c : Nat} (h : lmO o B = some c) : c < B ∧ o = some c := by
  cases o with
  | none => cases h
  | some d =>
    simp only [lmO] at h
    split at h
    · cases h; exact ⟨by assumption, rfl⟩
    · cases h
theorem lmO_s {c B : Nat} (h : c < B) : lmO (some c) B = some c := by simp [lmO, h]
theorem lmO_n {c B : Nat} (h : ¬ c < B) : lmO (some c) B = none := by simp [lmO, h]
theorem opI_s {o : Option Nat} (h : ¬ opI o = -1) : ∃ c, o = some c := by
  cases o with
  | none => exact absurd rfl h
  | some c => exact ⟨c, rfl⟩
theorem opI_n {o : Option Nat} {m : Nat} (hm : m < 2 ^ 30) (ho : ∀ c, o = some c → c < m) (h : opI o = -1) : o = none := by
  cases o with
  | none => rfl
  | some c =>
    have h2 := ho c rfl
    have : nI c = -1 := h
    have h3 : (nI c).toInt = (-1 : Int32).toInt := by rw [this]
    rw [nI_toInt (by omega), show (-1 : Int32).toInt = -1 from by decide] at h3
    omega
theorem Mok.imp' {M : Mt} {ids : List Id2} {d : Nat} {av : List AV} {D : Wd} {p q : Option AV → Wd → Prop} (h : Mok M ids d av D p) (g : ∀ r D', p r D' → q r D') : Mok M ids d av D q := Mok.imp h g
theorem gtG_lt {n : Nat} {k f : Nat → Nat} {dn : Nat} {dr : Nat → Nat} {i s r : Nat} : ∀ fu c a, (∀ j, j < n → a j < 72) → ∀ j, j < n → (gtG n k f dn dr i s r fu c a).2 j < 72
  | 0, c, a, h => h
  | fu + 1, c, a, h => by
    rw [gtG]; split
    · exact h
    · split
      · exact h
      · exact gtG_lt fu (c + 1) _ (fun j hj => stp_lt (h j hj))
theorem x_go_b {D : Wd} {n : Nat} {k f : Nat → Nat} {dn : Nat} {dr : Nat → Nat} {pn : Nat} (hP : PX D 0 n k f dn dr pn) {h : Nat} (hh : h < 11) {a : Nat → Nat} (hA : AX D h n a) {i s r B : Nat} (hi : i < n) (hs : s < 2) (hr : r < n) (hB : B ≤ 73) :
    Mok mX0_goTillOpen idsA 4 [vr (9, h), vi (nI i), vi (nI s), vi (nI r), vi (nI B - nI 1)] D (fun r' E' => r' = some (vi (opI (lmO (trO n k f dn dr i s r a) B))) ∧ ∃ b, E' = RX D h n b ∧ (∀ j, j < n → b j < 72) ∧ (∀ c, lmO (trO n k f dn dr i s r a) B = some c → b = (tmG n k f dn dr i s r 72 0 a).2)) := by
  have ha : ∀ j, j < n → a j < 72 := fun j hj => (hA j hj).2
  have e73 := gt_tm (n := n) (k := k) (f := f) (dn := dn) (dr := dr) (i := i) (s := s) (r := r) 72 B 0 a hB
  rw [Nat.zero_add] at e73
  cases B with
  | zero =>
    have e : nI 0 - nI 1 = -1 := by decide
    rw [e]
    refine Mok.imp' x_goTillOpen_m (fun r' E' q => ?_)
    obtain ⟨rfl, rfl⟩ := q
    have e2 : lmO (trO n k f dn dr i s r a) 0 = none := by
      cases hq : trO n k f dn dr i s r a with
      | none => rfl
      | some c => exact lmO_n (by omega)
    rw [e2]
    exact ⟨rfl, a, (RX.self hA).symm, ha, fun c hc => by cases hc⟩
  | succ q =>
    have e : nI (q + 1) - nI 1 = nI q := by rw [pk_sub (by omega)]; rfl
    rw [e]
    have hl : ∀ j, j < n → (gtG n k f dn dr i s r (q + 1) 0 a).2 j < 72 := gtG_lt (q + 1) 0 a ha
    refine Mok.imp' (x_goTillOpen hP hh hA (i := i) (s := s) (r := r) (mo := q) hi hs hr (by omega)) (fun r' E' p => ?_)
    obtain ⟨rfl, rfl⟩ := p
    by_cases ho : opn n (tmG n k f dn dr i s r 72 0 a).2 dn dr r = true
    · have et : trO n k f dn dr i s r a = some (tmG n k f dn dr i s r 72 0 a).1 := by unfold trO; rw [if_pos ho]
      by_cases hc : (tmG n k f dn dr i s r 72 0 a).1 < q + 1
      · have e9 := e73.1 ho hc
        rw [et, lmO_s hc, e9]
        exact ⟨rfl, _, rfl, by rw [e9] at hl; exact hl, fun _ _ => rfl⟩
      · rw [et, lmO_n hc, e73.2 (fun x => hc x.2)]
        exact ⟨rfl, _, rfl, hl, fun c hc => by cases hc⟩
    · have et : trO n k f dn dr i s r a = none := by unfold trO; rw [if_neg ho]
      rw [et, e73.2 (fun x => ho x.1)]
      exact ⟨rfl, _, rfl, hl, fun c hc => by cases hc⟩
theorem er_lm0 {n : Nat} {k f : Nat → Nat} {dn : Nat} {dr : Nat → Nat} {i r : Nat} {a : Nat → Nat} {B B2 : Nat} (h2 : (match lmO (trO n k f dn dr i 0 r a) B with | none => B | some c => c) = B2) (h : lmO (trO n k f dn dr i 1 r a) B2 = none) :
    lmO (erG n k f dn dr i r a).1 B = lmO (trO n k f dn dr i 0 r a) B ∧ (∀ c, lmO (trO n k f dn dr i 0 r a) B = some c → (erG n k f dn dr i r a).2 = (tmG n k f dn dr i 0 r 72 0 a).2) := by
  unfold erG
  unfold trO at h2 h ⊢
  generalize (tmG n k f dn dr i 0 r 72 0 a) = p0 at *
  generalize (tmG n k f dn dr i 1 r 72 0 a) = p1 at *
  by_cases o0 : opn n p0.2 dn dr r = true <;> by_cases o1 : opn n p1.2 dn dr r = true
  · simp only [o0, o1, if_true, lmO] at h2 h ⊢
    by_cases c0 : p0.1 < B
    · rw [if_pos c0] at h2; dsimp only at h2; subst h2
      have : ¬ p1.1 < p0.1 := fun x => by rw [if_pos x] at h; cases h
      rw [if_pos ⟨trivial, fun _ => by omega⟩]; exact ⟨rfl, fun _ _ => rfl⟩
    · rw [if_neg c0] at h2; dsimp only at h2; subst h2
      have c1 : ¬ p1.1 < B := fun x => by rw [if_pos x] at h; cases h
      rw [if_neg c0]
      refine ⟨?_, fun c hc => by cases hc⟩
      by_cases q : p0.1 ≤ p1.1
      · rw [if_pos ⟨trivial, fun _ => q⟩]; dsimp only; rw [if_neg c0]
      · rw [if_neg (fun x => q (x.2 trivial))]; dsimp only; rw [if_neg c1]
  · simp only [o0, o1, if_true, lmO] at h2 h ⊢
    simp
  · simp only [o0, o1, if_true, lmO] at h2 h ⊢
    simp only [Bool.false_eq_true, if_false] at h2; subst h2
    simp [h]
  · simp [o0, o1, lmO]
theorem er_lm1 {n : Nat} {k f : Nat → Nat} {dn : Nat} {dr : Nat → Nat} {i r : Nat} {a : Nat → Nat} {B B2 c : Nat} (h2 : (match lmO (trO n k f dn dr i 0 r a) B with | none => B | some c => c) = B2) (h : lmO (trO n k f dn dr i 1 r a) B2 = some c) :
    lmO (erG n k f dn dr i r a).1 B = some c ∧ (erG n k f dn dr i r a).2 = (tmG n k f dn dr i 1 r 72 0 a).2 := by
  obtain ⟨hc, ho⟩ := lmO_lt h
  clear h
  unfold erG
  unfold trO at h2 ho
  generalize (tmG n k f dn dr i 0 r 72 0 a) = p0 at *
  generalize (tmG n k f dn dr i 1 r 72 0 a) = p1 at *
  by_cases o1 : opn n p1.2 dn dr r = true
  · rw [if_pos o1] at ho
    cases ho
    by_cases o0 : opn n p0.2 dn dr r = true
    · rw [if_pos o0] at h2
      by_cases c0 : p0.1 < B
      · rw [lmO_s c0] at h2; dsimp only at h2; subst h2
        rw [if_neg (fun x => by have := x.2 o1; omega), if_pos o1]
        exact ⟨lmO_s (by omega), rfl⟩
      · rw [lmO_n c0] at h2; dsimp only at h2; subst h2
        rw [if_neg (fun x => by have := x.2 o1; omega), if_pos o1]
        exact ⟨lmO_s (by omega), rfl⟩
    · rw [if_neg o0] at h2; dsimp only [lmO] at h2; subst h2
      rw [if_neg (fun x => o0 x.1), if_pos o1]
      exact ⟨lmO_s (by omega), rfl⟩
  · rw [if_neg o1] at ho; cases ho
def mB (B : Nat) : Nat := if B ≤ 73 then B else 73
theorem mB_le (B : Nat) : mB B ≤ 73 := by unfold mB; split <;> omega
theorem lmO_m {o : Option Nat} {B : Nat} (h : ∀ c, o = some c → c ≤ 72) : lmO o (mB B) = lmO o B := by
  cases o with
  | none => rfl
  | some c =>
    have := h c rfl
    unfold lmO mB
    dsimp only
    split <;> split <;> first | rfl | (split <;> first | rfl | omega) | omega
theorem min_B {B : Nat} (hB : B < 1000) : (if nI 72 < nI B - nI 1 then nI 72 else nI B - nI 1) = nI (mB B) - nI 1 := by
  unfold mB
  have e72 : nI 72 = nI 73 - nI 1 := by decide
  have key : nI 72 < nI B - nI 1 ↔ 73 < B := by
    rw [Int32.lt_iff_toInt_lt, pk_sub_toInt (by omega) (by omega), nI_toInt (by omega)]
    omega
  by_cases h : 73 < B
  · rw [if_pos (key.mpr h), if_neg (by omega), e72]
  · rw [if_neg (fun x => h (key.mp x)), if_pos (by omega)]
/-- what errands leave: all but the houses tried -/
def FV (h : Nat) (D E : Wd) : Prop := ∀ i : Id2, (Scr i = false ∨ ((i.1 = 9 ∨ i.1 = 10 ∨ i.1 = 11) ∧ 5 ≤ i.2 ∧ i.2 < h)) → E i = D i
theorem FV.rf {h : Nat} {D : Wd} : FV h D D := fun _ _ => rfl
theorem FV.tr {h : Nat} {D E F : Wd} (a : FV h D E) (b : FV h E F) : FV h D F := fun i hi => (b i hi).trans (a i hi)
theorem FV.mo {h g : Nat} {D E : Wd} (hg : g ≤ h) (a : FV h D E) : FV g D E := fun i hi => a i (by rcases hi with x | ⟨x, y, z⟩; exact Or.inl x; exact Or.inr ⟨x, y, by omega⟩)
theorem FV.X {h : Nat} {D E : Wd} (a : FV h D E) : TX D E := fun i hi => a i (Or.inl hi)
theorem FV.up {h : Nat} {D E : Wd} {i : Id2} {f : Nat → Int32} (a : FV h D E) (hi : Scr i = true) (h2 : (i.1 = 9 ∨ i.1 = 10 ∨ i.1 = 11) → i.2 < 5 ∨ h ≤ i.2) : FV h D (upA E i f) := fun j hj => by
  have e : j ≠ i := fun e => by
    subst e
    rcases hj with x | ⟨x, y, z⟩
    · rw [hi] at x; cases x
    · have := h2 x; omega
  rw [upA_n _ _ e]; exact a j hj
theorem FV.cp {h g c : Nat} {D E : Wd} (a : FV h D E) (hc : c = 4 ∨ h ≤ c) (h5 : 4 ≤ h) : FV h D (CpH E g c) := by
  have s := scr9 (h := c) (Or.inr (by omega))
  exact ((a.up s.2.1 (fun _ => by show c < 5 ∨ h ≤ c; omega)).up s.2.2 (fun _ => by show c < 5 ∨ h ≤ c; omega)).up s.1 (fun _ => by show c < 5 ∨ h ≤ c; omega)
theorem FV.rx {h c n : Nat} {b : Nat → Nat} {D E : Wd} (a : FV h D E) (hc : c = 4 ∨ h ≤ c) (h5 : 4 ≤ h) : FV h D (RX E c n b) := by
  have s := scr9 (h := c) (Or.inr (by omega))
  exact a.up s.2.1 (fun _ => by show c < 5 ∨ h ≤ c; omega)
theorem FV.A {h c n : Nat} {b : Nat → Nat} {D E : Wd} (t : FV h D E) (h5 : 5 ≤ c) (hc : c < h) (p : AX D c n b) : AX E c n b := by
  unfold AX; rw [t (10, c) (Or.inr ⟨Or.inr (Or.inl rfl), h5, hc⟩)]; exact p
theorem RX.An {D : Wd} {c h n m : Nat} {a b : Nat → Nat} (hc : c ≠ h) (p : AX D c m a) : AX (RX D h n b) c m a := fun j hj => by
  rw [RX.at (fun e => hc (congrArg Prod.snd e))]; exact p j hj
