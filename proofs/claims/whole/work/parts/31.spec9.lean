/-! THE TEXT: tokens, words, numbers -/
def srt (c : Nat) : Nat := if 97 ≤ c ∧ c ≤ 122 then 1 else if 48 ≤ c ∧ c ≤ 57 then 2 else 0
def skB (t : Nat → Nat) : Nat → Nat → Nat
  | 0, p => p
  | fu + 1, p => if t p = 32 then skB t fu (p + 1) else p
def tkP (t : Nat → Nat) (len p : Nat) : Nat := skB t (len - p) p
def rnE (t : Nat → Nat) (s : Nat) : Nat → Nat → Nat
  | 0, q => q
  | fu + 1, q => if 0 < s ∧ srt (t q) = s then rnE t s fu (q + 1) else q
def tkE (t : Nat → Nat) (len p : Nat) : Nat := if p < len then rnE t (srt (t p)) (len - (p + 1)) (p + 1) else p
theorem skB_ok (t : Nat → Nat) : ∀ fu p, p ≤ skB t fu p ∧ skB t fu p ≤ p + fu
  | 0, p => by simp [skB]
  | fu + 1, p => by
    rw [skB]; split
    · have := skB_ok t fu (p + 1); omega
    · omega
theorem tkP_ok {t : Nat → Nat} {len p : Nat} (h : p ≤ len) : p ≤ tkP t len p ∧ tkP t len p ≤ len := by
  have := skB_ok t (len - p) p; unfold tkP; omega
theorem rnE_ok (t : Nat → Nat) (s : Nat) : ∀ fu q, q ≤ rnE t s fu q ∧ rnE t s fu q ≤ q + fu ∧ ∀ j, q ≤ j → j < rnE t s fu q → srt (t j) = s
  | 0, q => ⟨by simp [rnE], by simp [rnE], fun j h1 h2 => by simp only [rnE] at h2; omega⟩
  | fu + 1, q => by
    rw [rnE]; split
    · rename_i h
      obtain ⟨h1, h2, h3⟩ := rnE_ok t s fu (q + 1)
      refine ⟨by omega, by omega, fun j hj hj2 => ?_⟩
      by_cases e : j = q
      · rw [e]; exact h.2
      · exact h3 j (by omega) hj2
    · exact ⟨by omega, by omega, fun j h1 h2 => by omega⟩
/-- a token: from p to e -/
def TK (t : Nat → Nat) (len p e : Nat) : Prop := p ≤ e ∧ e ≤ len ∧ (p < len → p < e) ∧ (p < len → 0 < srt (t p) → ∀ j, p ≤ j → j < e → srt (t j) = srt (t p))
theorem tkE_ok {t : Nat → Nat} {len p : Nat} (h : p ≤ len) : TK t len p (tkE t len p) := by
  unfold tkE
  split
  · rename_i hp
    obtain ⟨h1, h2, h3⟩ := rnE_ok t (srt (t p)) (len - (p + 1)) (p + 1)
    refine ⟨by omega, by omega, fun _ => by omega, fun _ _ j hj hj2 => ?_⟩
    by_cases e : j = p
    · rw [e]
    · exact h3 j (by omega) hj2
  · exact ⟨Nat.le_refl _, h, fun q => by omega, fun q => by omega⟩
def allB (p : Nat → Bool) : Nat → Bool
  | 0 => true
  | n + 1 => allB p n && p n
def isW (t : Nat → Nat) (p e : Nat) (wb : Nat → Nat) (L : Nat) : Bool := decide (e - p = L) && allB (fun q => decide (t (p + q) = wb q)) L
/-- the ten words -/
def wbs (w q : Nat) : Nat := (([[104, 111, 117, 115, 101], [108, 101, 97, 102], [112, 108, 97, 105, 110], [115, 112, 114, 117, 110, 103], [104, 101, 97, 118, 121], [102, 105, 120, 101, 100], [112, 117, 116], [100, 111, 111, 114], [112, 101, 114, 115, 111, 110], [101, 109, 112, 116, 121]] : List (List Nat)).getD w []).getD q 0
def wls (w : Nat) : Nat := ([5, 4, 5, 6, 5, 5, 3, 4, 6, 5] : List Nat).getD w 0
def isD (t : Nat → Nat) (p e w : Nat) : Bool := isW t p e (wbs w) (wls w)
/-- which word a token is -/
def wOf (t : Nat → Nat) (p e : Nat) : Option Nat := if isD t p e 2 then some 2 else if isD t p e 3 then some 3 else if isD t p e 4 then some 4 else if isD t p e 5 then some 5 else if isD t p e 0 then some 0 else if isD t p e 1 then some 1 else if isD t p e 6 then some 6 else if isD t p e 7 then some 7 else if isD t p e 8 then some 8 else if isD t p e 9 then some 9 else none
def vG (t : Nat → Nat) (p : Nat) : Nat → Nat
  | 0 => 0
  | m + 1 => 10 * vG t p m + t (p + m) - 48
/-- the number that a token is -/
def nO (t : Nat → Nat) (len p e : Nat) : Option Nat := if p = len ∨ srt (t p) ≠ 2 ∨ 2 < e - p then none else some (vG t p (e - p))
def okN (lo hi : Nat) (o : Option Nat) : Bool := match o with
  | none => false
  | some v => decide (lo ≤ v) && decide (v ≤ hi)
theorem srt2 {c : Nat} (h : srt c = 2) : 48 ≤ c ∧ c ≤ 57 := by
  unfold srt at h
  split at h
  · omega
  · split at h
    · rename_i h2; exact h2
    · omega
theorem srt_le (c : Nat) : srt c ≤ 2 := by unfold srt; split; omega; split <;> omega
theorem vG_le {t : Nat → Nat} {p : Nat} : ∀ m, m ≤ 2 → (∀ q, q < m → 48 ≤ t (p + q) ∧ t (p + q) ≤ 57) → vG t p m ≤ 99
  | 0, _, _ => by simp [vG]
  | 1, _, h => by
    have := h 0 (by omega)
    simp only [vG]; omega
  | 2, _, h => by
    have h0 := h 0 (by omega)
    have h1 := h 1 (by omega)
    simp only [vG]; omega
  | m + 3, hm, _ => by omega
theorem nO_le {t : Nat → Nat} {len p e v : Nat} (hT : TK t len p e) (h : nO t len p e = some v) : v ≤ 99 := by
  unfold nO at h
  split at h
  · cases h
  · rename_i hc
    simp only [Option.some.injEq] at h
    subst h
    have h1 : ¬ p = len := fun x => hc (Or.inl x)
    have h2 : srt (t p) = 2 := Decidable.byContradiction (fun x => hc (Or.inr (Or.inl x)))
    have h3 : ¬ 2 < e - p := fun x => hc (Or.inr (Or.inr x))
    have hpe := hT.1
    have hpl : p < len := by have := hT.2.1; omega
    refine vG_le (e - p) (by omega) (fun q hq => ?_)
    have h4 := hT.2.2.2 hpl (by omega) (p + q) (by omega) (by omega)
    exact srt2 (by rw [h4, h2])
theorem rng_opI {o : Option Nat} {lo hi : Nat} (h : ∀ v, o = some v → v ≤ 99) : rng (opI o) lo hi = okN lo hi o := by
  cases o with
  | none =>
    show rng (-1) lo hi = false
    unfold rng
    rw [show (-1 : Int32).toInt = -1 from by decide]
    exact decide_eq_false (by omega)
  | some v =>
    have := h v rfl
    show rng (nI v) lo hi = (decide (lo ≤ v) && decide (v ≤ hi))
    unfold rng
    rw [nI_toInt (by omega)]
    by_cases h1 : lo ≤ v <;> by_cases h2 : v ≤ hi <;> simp [h1, h2] <;> omega
/-! what the reference reads into -/
abbrev RS : Type := Nat × (Nat → Nat) × (Nat → Nat) × Nat × (Nat → Nat) × Nat
def AtW (D : Wd) (q : Nat) : Wd := upA D (30, 0) (upd (D (30, 0)) 12 (nI q))
def PlW (D : Wd) (p q : Nat) : Wd := upA D (30, 0) (upd (upd (D (30, 0)) 12 (nI q)) 13 (nI p))
def PS (D : Wd) (p e : Nat) : Wd := upA D (30, 0) (upd (upd (upd (D (30, 0)) 12 (nI e)) 13 (nI p)) 14 (nI e))
theorem upd_swap (f : Nat → Int32) {a b : Nat} (h : a ≠ b) (x y : Int32) : upd (upd f a x) b y = upd (upd f b y) a x := by
  funext j; unfold upd
  by_cases h1 : j = b
  · have h2 : ¬ j = a := fun e => h (e.symm.trans h1)
    rw [if_pos h1, if_neg h2, if_pos h1]
  · rw [if_neg h1, if_neg h1]
theorem AtW.s (D : Wd) (q q' : Nat) : upA (AtW D q) (30, 0) (upd (AtW D q (30, 0)) 12 (nI q')) = AtW D q' := by
  have e : AtW D q (30, 0) = upd (D (30, 0)) 12 (nI q) := by rw [AtW, upA_s]
  rw [e, upd_upd, AtW, upA_up]; rfl
theorem AtW.z {D : Wd} {q : Nat} (h : D (30, 0) 12 = nI q) : D = AtW D q := by rw [AtW, upd_self h, upA_self]
theorem AtW.pl (D : Wd) (q : Nat) : upA (AtW D q) (30, 0) (upd (AtW D q (30, 0)) 13 (nI q)) = PlW D q q := by
  have e : AtW D q (30, 0) = upd (D (30, 0)) 12 (nI q) := by rw [AtW, upA_s]
  rw [e, AtW, upA_up]; rfl
theorem PlW.s (D : Wd) (p q q' : Nat) : upA (PlW D p q) (30, 0) (upd (PlW D p q (30, 0)) 12 (nI q')) = PlW D p q' := by
  have e : PlW D p q (30, 0) = upd (upd (D (30, 0)) 12 (nI q)) 13 (nI p) := by rw [PlW, upA_s]
  rw [e, upd_swap _ (by decide : (13 : Nat) ≠ 12), upd_upd, PlW, upA_up]; rfl
theorem PlW.e (D : Wd) (p q : Nat) : upA (PlW D p q) (30, 0) (upd (PlW D p q (30, 0)) 14 (nI q)) = PS D p q := by
  have e : PlW D p q (30, 0) = upd (upd (D (30, 0)) 12 (nI q)) 13 (nI p) := by rw [PlW, upA_s]
  rw [e, PlW, upA_up]; rfl
/-- the text, as the reference holds it -/
def TXm (D : Wd) (t : Nat → Nat) (len : Nat) : Prop := D (30, 0) 3 = nI len ∧ len ≤ 200 ∧ ∀ j, j < len → D (33, 0) j = nI (t j) ∧ t j < 256
def RDm (E : Wd) (R : RS) : Prop := 3 ≤ R.1 ∧ R.1 ≤ 8 ∧ E (30, 0) 15 = nI R.1 ∧ (∀ j, j < R.1 → E (38, 0) j = nI (R.2.1 j) ∧ R.2.1 j < 72) ∧ (∀ j, j < R.1 → E (39, 0) j = nI (R.2.2.1 j) ∧ R.2.2.1 j ≤ 20) ∧ R.2.2.2.1 ≤ 3 ∧ E (30, 0) 19 = nI R.2.2.2.1 ∧ (∀ j, j < R.2.2.2.1 → E (40, 0) j = nI (R.2.2.2.2.1 j) ∧ R.2.2.2.2.1 j < 72) ∧ R.2.2.2.2.2 ≤ 5 ∧ E (30, 0) 20 = nI R.2.2.2.2.2
def RCm (E : Wd) (m : Nat) (rc : Nat → Nat × Nat) : Prop := ∀ q, q < m → E (34, 0) (3 * q) = nI (rc q).1 ∧ (rc q).1 < 10 ∧ ((rc q).1 ≠ 9 → E (34, 0) (3 * q + 1) = nI (rc q).2)
def FRm (D E : Wd) : Prop := (∀ i : Id2, i ≠ (30, 0) → i ≠ (34, 0) → i ≠ (38, 0) → i ≠ (39, 0) → i ≠ (40, 0) → E i = D i) ∧ ∀ q, q ≠ 5 → q ≠ 12 → q ≠ 13 → q ≠ 14 → q ≠ 15 → q ≠ 19 → q ≠ 20 → E (30, 0) q = D (30, 0) q
def RK (D E : Wd) (t : Nat → Nat) (len : Nat) (R : RS) (m : Nat) (rc : Nat → Nat × Nat) (p e : Nat) : Prop :=
  TXm E t len ∧ (E (30, 0) 12 = nI e ∧ E (30, 0) 13 = nI p ∧ E (30, 0) 14 = nI e) ∧ TK t len p e ∧ RDm E R ∧ (E (30, 0) 5 = nI m ∧ m ≤ 12) ∧ RCm E m rc ∧ FRm D E
theorem PS.f {D : Wd} {p e q : Nat} (h1 : q ≠ 12) (h2 : q ≠ 13) (h3 : q ≠ 14) : PS D p e (30, 0) q = D (30, 0) q := by
  rw [PS, upA_s]; unfold upd; rw [if_neg h3, if_neg h2, if_neg h1]
theorem PS.at {D : Wd} {p e : Nat} {i : Id2} (h : i ≠ (30, 0)) : PS D p e i = D i := upA_n D _ h
theorem TXm.PS {D : Wd} {t : Nat → Nat} {len p e : Nat} (h : TXm D t len) : TXm (PS D p e) t len := ⟨by rw [PS.f (by decide) (by decide) (by decide)]; exact h.1, h.2.1, by rw [PS.at (by decide)]; exact h.2.2⟩
/-- behind a token that was read: the next one -/
theorem RK.tok {D E : Wd} {t : Nat → Nat} {len : Nat} {R : RS} {m : Nat} {rc : Nat → Nat × Nat} {p e : Nat} (h : RK D E t len R m rc p e) : RK D (PS E (tkP t len e) (tkE t len (tkP t len e))) t len R m rc (tkP t len e) (tkE t len (tkP t len e)) := by
  obtain ⟨h1, h2, h3, h4, h5, h6, h7⟩ := h
  obtain ⟨r1, r2, r3, r4, r5, r6, r7, r8, r9, r10⟩ := h4
  have hf : ∀ q, q ≠ 12 → q ≠ 13 → q ≠ 14 → PS E (tkP t len e) (tkE t len (tkP t len e)) (30, 0) q = E (30, 0) q := fun q a b c => PS.f a b c
  have hg : ∀ i : Id2, i ≠ (30, 0) → PS E (tkP t len e) (tkE t len (tkP t len e)) i = E i := fun i a => PS.at a
  have hle := tkP_ok (t := t) (len := len) (p := e) h3.2.1
  refine ⟨h1.PS, ⟨by rw [PS, upA_s]; rfl, by rw [PS, upA_s]; rfl, by rw [PS, upA_s]; rfl⟩, tkE_ok hle.2, ⟨r1, r2, by rw [hf _ (by decide) (by decide) (by decide)]; exact r3, by rw [hg _ (by decide)]; exact r4, by rw [hg _ (by decide)]; exact r5, r6, by rw [hf _ (by decide) (by decide) (by decide)]; exact r7, by rw [hg _ (by decide)]; exact r8, r9, by rw [hf _ (by decide) (by decide) (by decide)]; exact r10⟩, ⟨by rw [hf _ (by decide) (by decide) (by decide)]; exact h5.1, h5.2⟩, fun q hq => by rw [hg _ (by decide)]; exact h6 q hq, ⟨fun i a b c d x => (hg i a).trans (h7.1 i a b c d x), fun q a b c d x y z => (hf q b c d).trans (h7.2 q a b c d x y z)⟩⟩
/-- behind a write into the row of what was read, at the place of the line under way or later -/
theorem RK.rd {D E : Wd} {t : Nat → Nat} {len : Nat} {R : RS} {m : Nat} {rc : Nat → Nat × Nat} {p e j : Nat} {x : Int32} (hj : 3 * m ≤ j) (h : RK D E t len R m rc p e) : RK D (upA E (34, 0) (upd (E (34, 0)) j x)) t len R m rc p e := by
  obtain ⟨h1, h2, h3, h4, h5, h6, h7⟩ := h
  have hg : ∀ i : Id2, i ≠ (34, 0) → upA E (34, 0) (upd (E (34, 0)) j x) i = E i := fun i a => upA_n E _ a
  have h30 : upA E (34, 0) (upd (E (34, 0)) j x) (30, 0) = E (30, 0) := hg _ (by decide)
  unfold RK TXm RDm
  rw [h30, hg (33, 0) (by decide), hg (38, 0) (by decide), hg (39, 0) (by decide), hg (40, 0) (by decide)]
  refine ⟨h1, h2, h3, h4, h5, fun q hq => ?_, ⟨fun i a b c d y => (hg i b).trans (h7.1 i a b c d y), fun q a b c d y z w => by rw [h30]; exact h7.2 q a b c d y z w⟩⟩
  rw [upA_s]
  have e1 : upd (E (34, 0)) j x (3 * q) = E (34, 0) (3 * q) := by unfold upd; rw [if_neg (by omega)]
  have e2 : upd (E (34, 0)) j x (3 * q + 1) = E (34, 0) (3 * q + 1) := by unfold upd; rw [if_neg (by omega)]
  rw [e1, e2]; exact h6 q hq
