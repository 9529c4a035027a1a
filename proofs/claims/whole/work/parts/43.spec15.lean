/-! the reference's lines are told -/
abbrev TL : Type := (Nat → Nat) × Nat × (Nat → Nat)
def tlR (T : TL) (w a : Nat) : TL := if w = 0 then (fun _ => 0, 0, T.2.2) else if w = 2 ∨ w = 3 ∨ w = 4 ∨ w = 5 then (updN T.1 a (w - 2), T.2) else if w = 8 then (T.1, T.2.1 + 1, updN T.2.2 T.2.1 a) else if w = 9 then (T.1, 0, T.2.2) else T
def tlF (rc : Nat → Nat × Nat) (T : TL) : Nat → TL
  | 0 => T
  | q + 1 => tlR (tlF rc T q) (rc q).1 (rc q).2
def TLm (E : Wd) (T : TL) : Prop := (∀ j, j < 8 → E (35, 0) j = nI (T.1 j) ∧ T.1 j < 4) ∧ E (30, 0) 11 = nI T.2.1 ∧ T.2.1 ≤ 5 ∧ ∀ p, p < T.2.1 → E (31, 0) (64 + p) = nI (T.2.2 p)
def TFm (E F : Wd) : Prop := (∀ i : Id2, i ≠ (30, 0) → i ≠ (35, 0) → i ≠ (31, 0) → F i = E i) ∧ (∀ q, q ≠ 11 → F (30, 0) q = E (30, 0) q) ∧ ∀ q, (q < 64 ∨ 69 ≤ q) → F (31, 0) q = E (31, 0) q
theorem TFm.refl (E : Wd) : TFm E E := ⟨fun _ _ _ _ => rfl, fun _ _ => rfl, fun _ _ => rfl⟩
theorem TFm.trans {E F G : Wd} (h1 : TFm E F) (h2 : TFm F G) : TFm E G := ⟨fun i a b c => (h2.1 i a b c).trans (h1.1 i a b c), fun q a => (h2.2.1 q a).trans (h1.2.1 q a), fun q a => (h2.2.2 q a).trans (h1.2.2 q a)⟩
theorem TFm.pn {E : Wd} {v : Int32} : TFm E (upA E (30, 0) (upd (E (30, 0)) 11 v)) := ⟨fun i a _ _ => upA_n _ _ a, fun q a => by rw [upA_s]; unfold upd; rw [if_neg a], fun q _ => by rw [upA_n _ _ (by decide)]⟩
theorem TFm.kd {E : Wd} {f : Nat → Int32} : TFm E (upA E (35, 0) f) := ⟨fun i _ b _ => upA_n _ _ b, fun q _ => by rw [upA_n _ _ (by decide)], fun q _ => by rw [upA_n _ _ (by decide)]⟩
theorem TFm.pl {E : Wd} {j : Nat} {v : Int32} (hj : j < 5) : TFm E (upA E (31, 0) (upd (E (31, 0)) (64 + j) v)) := ⟨fun i _ _ c => upA_n _ _ c, fun q _ => by rw [upA_n _ _ (by decide)], fun q h => by rw [upA_s]; unfold upd; rw [if_neg (by omega)]⟩
theorem TLm.pn {E : Wd} {T : TL} {v : Nat} (h : TLm E T) (hv : v ≤ T.2.1) : TLm (upA E (30, 0) (upd (E (30, 0)) 11 (nI v))) (T.1, v, T.2.2) := ⟨by rw [upA_n _ _ (by decide)]; exact h.1, by rw [upA_s]; rfl, by have := h.2.2.1; simp only; omega, fun p hp => by rw [upA_n _ _ (by decide)]; exact h.2.2.2 p (by simp only at hp; omega)⟩
theorem TLm.kd {E : Wd} {T : TL} {a v : Nat} (h : TLm E T) (hv : v < 4) : TLm (upA E (35, 0) (upd (E (35, 0)) a (nI v))) (updN T.1 a v, T.2) := by
  refine ⟨fun j hj => ?_, by rw [upA_n _ _ (by decide)]; exact h.2.1, h.2.2.1, by rw [upA_n _ _ (by decide)]; exact h.2.2.2⟩
  rw [upA_s]
  show (if j = a then nI v else E (35, 0) j) = nI (if j = a then v else T.1 j) ∧ (if j = a then v else T.1 j) < 4
  by_cases x : j = a
  · rw [if_pos x, if_pos x]; exact ⟨rfl, hv⟩
  · rw [if_neg x, if_neg x]; exact h.1 j hj
theorem TLm.pl {E : Wd} {T : TL} {a : Nat} (h : TLm E T) (hv : T.2.1 < 5) : TLm (upA (upA E (31, 0) (upd (E (31, 0)) (64 + T.2.1) (nI a))) (30, 0) (upd ((upA E (31, 0) (upd (E (31, 0)) (64 + T.2.1) (nI a))) (30, 0)) 11 (nI (T.2.1 + 1)))) (T.1, T.2.1 + 1, updN T.2.2 T.2.1 a) := by
  refine ⟨by rw [upA_n _ _ (by decide), upA_n _ _ (by decide)]; exact h.1, by rw [upA_s]; rfl, by simp only; omega, fun p hp => ?_⟩
  rw [upA_n _ _ (by decide), upA_s]
  show (if 64 + p = 64 + T.2.1 then nI a else E (31, 0) (64 + p)) = nI (if p = T.2.1 then a else T.2.2 p)
  by_cases x : p = T.2.1
  · rw [if_pos (by omega), if_pos x]
  · rw [if_neg (by omega), if_neg x]; exact h.2.2.2 p (by simp only at hp; omega)
/-- a house told anew: all are plain -/
def Kz (E : Wd) (q : Nat) : Wd := upA (upA E (30, 0) (upd (E (30, 0)) 11 (nI 0))) (35, 0) (putA (E (35, 0)) 0 q (fun _ => 0))
theorem Kz.z (E : Wd) : upA E (30, 0) (upd (E (30, 0)) 11 (nI 0)) = Kz E 0 := by
  have e : E (35, 0) = (upA E (30, 0) (upd (E (30, 0)) 11 (nI 0))) (35, 0) := (upA_n _ _ (by decide)).symm
  rw [Kz, putA_zero, e, upA_self]
theorem Kz.s (E : Wd) (q : Nat) : upA (Kz E q) (35, 0) (upd (Kz E q (35, 0)) q (nI 0)) = Kz E (q + 1) := by
  have e1 := putA_succ (E (35, 0)) 0 q (fun _ => 0)
  rw [Nat.zero_add] at e1
  have e2 : Kz E q (35, 0) = putA (E (35, 0)) 0 q (fun _ => 0) := by rw [Kz, upA_s]
  rw [e2, e1, Kz, upA_up]; rfl
theorem Kz.ok {E : Wd} {T : TL} (h : TLm E T) : TLm (Kz E 8) (fun _ => 0, 0, T.2.2) ∧ TFm E (Kz E 8) := by
  refine ⟨⟨fun j hj => ?_, by rw [Kz, upA_n _ _ (by decide), upA_s]; rfl, by simp, fun p hp => by simp at hp⟩, TFm.pn.trans TFm.kd⟩
  rw [Kz, upA_s]
  have := putA_in (w := E (35, 0)) (b := 0) (n := 8) (a := fun _ => 0) hj
  rw [Nat.zero_add] at this
  exact ⟨this, by simp⟩
