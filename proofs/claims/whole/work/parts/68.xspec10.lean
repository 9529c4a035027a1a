/-! the class's reading of a text, line by line -/
def FRy (D E : Wd) : Prop := (∀ i : Id2, i ≠ (7, 0) → ¬ (i.2 = 1 ∧ 1 ≤ i.1 ∧ i.1 ≤ 6) → E i = D i) ∧ ∀ q, q ≠ 3 → q ≠ 4 → q ≠ 5 → q ≠ 6 → E (7, 0) q = D (7, 0) q
theorem FRy.rf {D : Wd} : FRy D D := ⟨fun _ _ _ => rfl, fun _ _ _ _ _ => rfl⟩
theorem FRy.tr {D E F : Wd} (h : FRy D E) (g : FRy E F) : FRy D F := ⟨fun i a b => (g.1 i a b).trans (h.1 i a b), fun q a b c d => (g.2 q a b c d).trans (h.2 q a b c d)⟩
theorem FRx.y {D E : Wd} (h : FRx D E) : FRy D E := ⟨h.1, fun q _ a b c => h.2 q a b c⟩
theorem FRy.f {D E : Wd} {k : Nat} {v : Int32} (h : FRy D E) (hk : 3 ≤ k ∧ k ≤ 6) : FRy D (upA E (7, 0) (upd (E (7, 0)) k v)) :=
  ⟨fun i a b => by rw [upA_n _ _ a]; exact h.1 i a b, fun q a b c d => by rw [upA_s]; unfold upd; rw [if_neg (by omega)]; exact h.2 q a b c d⟩
theorem CpF.y {D E : Wd} (c : CpF D E 0 1) : FRy D E := ⟨fun i _ b => c.2.2.2.2 i b, fun q _ _ _ _ => congrFun (c.2.2.2.2 (7, 0) (by decide)) q⟩
theorem tlF_c {rc rc' : Nat → Nat × Nat} {T : TL} : ∀ {m : Nat}, (∀ q, q < m → rc q = rc' q) → tlF rc T m = tlF rc' T m
  | 0, _ => rfl
  | m + 1, h => by rw [tlF, tlF, tlF_c (fun q hq => h q (by omega)), h m (by omega)]
theorem tlF_s {rc : Nat → Nat × Nat} {T : TL} {m w a : Nat} : tlF (fun q => if q = m then (w, a) else rc q) T (m + 1) = tlR (tlF rc T m) w a := by
  show tlR (tlF (fun q => if q = m then (w, a) else rc q) T m) (if m = m then (w, a) else rc m).1 (if m = m then (w, a) else rc m).2 = _
  rw [if_pos rfl, tlF_c (rc' := rc) (fun q hq => by rw [if_neg (by omega)])]
theorem semi {t : Nat → Nat} {len p : Nat} (h : p < len) (h9 : t p = 59) : tkE t len p - p = 1 := by
  have e : srt 59 = 0 := by decide
  unfold tkE
  rw [if_pos h, h9, e]
  cases len - (p + 1) with
  | zero => rw [rnE]; omega
  | succ z => rw [rnE, if_neg (fun x => absurd x.1 (Nat.lt_irrefl 0))]; omega
theorem Prs_s {t : Nat → Nat} {len fu : Nat} {R : RS} {m : Nat} {rc : Nat → Nat × Nat} {p e : Nat} {res : Rs} : Prs t len (fu + 1) R m rc p e res ↔ ((∃ p' e', LineN t len R p e p' e' ∧ res = .inl p') ∨ ∃ w a b p' e', LineY t len R p e w a b p' e' ∧ Cnt t len (Prs t len fu) (goR R w a b) (m + 1) (fun q => if q = m then (w, a) else rc q) p' e' res) := Iff.rfl
def RdI (D : Wd) (t : Nat → Nat) (len : Nat) (T0 : TL) (res : Rs) (m : Nat) (E : Wd) : Prop :=
  FRy D E ∧ E (7, 0) 3 = nI (m + 1) ∧ m ≤ 12 ∧ ((m < 12 ∧ ∃ R rc e, RKx E E t len R (tlF rc T0 m) e ∧ GeoS R ∧ Prs t len (12 - m) R m rc (tkP t len e) (tkE t len (tkP t len e)) res) ∨ (m = 12 ∧ ∃ p, res = .inl p ∧ E (7, 0) 4 = nI p))
theorem RKx.hh {D E : Wd} {t : Nat → Nat} {len : Nat} {R : RS} {T : TL} {e : Nat} (h : RKx D E t len R T e) : ∀ j, j < R.1 → R.2.1 j < 72 := fun j hj => (h.2.2.1.2.1 j hj).2
theorem RKx.l3 {D E : Wd} {t : Nat → Nat} {len : Nat} {R : RS} {T : TL} {e : Nat} {v : Int32} (h : RKx D E t len R T e) : RKx (upA E (7, 0) (upd (E (7, 0)) 3 v)) (upA E (7, 0) (upd (E (7, 0)) 3 v)) t len R T e :=
  ⟨h.1.f (by decide), ⟨by rw [upA_s]; exact h.2.1.1, h.2.1.2⟩, h.2.2.1.f, FRx.rf⟩
theorem RdI.z {D E0 : Wd} {n : Nat} {k f : Nat → Nat} {dn : Nat} {dr : Nat → Nat} {pn : Nat} (hP : PX D 0 n k f dn dr pn) {hm : Nat → Nat} (hH : HX D 0 n hm) {hp : Nat → Nat} (hpl : ∀ q, q < pn → D (6, 0) q = nI (hp q)) {t : Nat → Nat} {len : Nat} (hX : TXx D t len) (hG : GeoS (n, hm, f, dn, dr, pn)) {rc : Nat → Nat × Nat} {res : Rs} (hPr : Prs t len 12 (n, hm, f, dn, dr, pn) 0 rc (tkP t len 0) (tkE t len (tkP t len 0)) res) (hC : CpF D E0 0 1) :
    RdI D t len (k, pn, hp) res 0 (upA (upA E0 (7, 0) (upd (E0 (7, 0)) 5 (nI 0))) (7, 0) (upd ((upA E0 (7, 0) (upd (E0 (7, 0)) 5 (nI 0))) (7, 0)) 3 (nI 1))) := by
  have h5 : pn ≤ 5 := hP.2.2.2.2.2.2.2.2.1
  have h8 : n ≤ 8 := hP.2.1
  have e7 : E0 (7, 0) = D (7, 0) := hC.2.2.2.2 _ (by decide)
  have e8 : E0 (8, 0) = D (8, 0) := hC.2.2.2.2 _ (by decide)
  have hX0 : TXx E0 t len := ⟨by rw [e7]; exact hX.1, hX.2.1, by rw [e8]; exact hX.2.2⟩
  have hD0 : PDx E0 (n, hm, f, dn, dr, pn) (k, pn, hp) := ⟨hC.P hP, hC.H h8 hH, fun q hq => by rw [hC.2.2.2.1 q (by simp only at hq; omega)]; exact hpl q hq, rfl⟩
  have hR : RKx E0 (upA E0 (7, 0) (upd (E0 (7, 0)) 5 (nI 0))) t len (n, hm, f, dn, dr, pn) (k, pn, hp) 0 := ⟨hX0.f (by decide), ⟨by rw [upA_s]; rfl, Nat.zero_le _⟩, hD0.f, FRx.rf.f (by decide)⟩
  exact ⟨(hC.y.f (by decide)).f (by decide), by rw [upA_s]; rfl, by decide, Or.inl ⟨by decide, _, rc, 0, hR.l3, hG, hPr⟩⟩
theorem RdI.s {D E E1 : Wd} {t : Nat → Nat} {len : Nat} {T0 : TL} {res : Rs} {m y : Nat} {R : RS} {rc : Nat → Nat × Nat} (hF : FRy D E) (h3 : E (7, 0) 3 = nI (m + 1)) (hm : m < 12) (hR : RKx E E1 t len R (tlF rc T0 (m + 1)) y) (hG : GeoS R) (hp : tkP t len y < len) (h9 : t (tkP t len y) = 59) (hC : Cnt t len (Prs t len (12 - (m + 1))) R (m + 1) rc (tkP t len y) (tkE t len (tkP t len y)) res) :
    RdI D t len T0 res (m + 1) (upA (SE E1 (tkP t len y) (tkE t len (tkP t len y))) (7, 0) (upd (SE E1 (tkP t len y) (tkE t len (tkP t len y)) (7, 0)) 3 (nI (m + 1 + 1)))) := by
  have hle := tkP_ok (t := t) (len := len) (p := y) hR.2.1.2
  have htk := tkE_ok (t := t) hle.2
  have hRs := hR.se (p := tkP t len y) htk.2.1
  refine ⟨(hF.tr hRs.2.2.2.y).f (by decide), by rw [upA_s]; rfl, by omega, ?_⟩
  rcases hC with ⟨c1, c2⟩ | ⟨c1, c2, c3⟩ | ⟨c1, c2, c3⟩
  · exact absurd c1 (by omega)
  · right
    have h12 : m + 1 = 12 := by
      by_cases x : m + 1 < 12
      · exact absurd ⟨semi hp h9, h9, x⟩ c2
      · omega
    refine ⟨h12, _, c3, ?_⟩
    rw [upA_s]; exact SE.s (E := E1) (p := tkP t len y) (e := tkE t len (tkP t len y))
  · left
    exact ⟨c2.2.2, R, rc, _, hRs.l3, hG, c3⟩
theorem Rd_e {t : Nat → Nat} {len : Nat} {K : RS → Nat → (Nat → Nat × Nat) → Nat → Nat → Rs → Prop} {R : RS} {m : Nat} {rc : Nat → Nat × Nat} {p e : Nat} {res : Rs} (hC : Cnt t len K R m rc p e res) (h : p = len) : res = .inr (R, m, rc) := by
  rcases hC with ⟨c1, c2⟩ | ⟨c1, c2, c3⟩ | ⟨c1, c2, c3⟩
  · exact c2
  · exact absurd c1 (by omega)
  · exact absurd c1 (by omega)
theorem Rd_f {t : Nat → Nat} {len : Nat} {K : RS → Nat → (Nat → Nat × Nat) → Nat → Nat → Rs → Prop} {R : RS} {m : Nat} {rc : Nat → Nat × Nat} {p e : Nat} {res : Rs} (hC : Cnt t len K R m rc p e res) (h : p < len) (h9 : ¬ t p = 59) : res = .inl p := by
  rcases hC with ⟨c1, c2⟩ | ⟨c1, c2, c3⟩ | ⟨c1, c2, c3⟩
  · exact absurd c1 (by omega)
  · exact c3
  · exact absurd c2.2.1 h9
/-- what the class's cells are behind a text that was done -/
def HouseX (D W : Wd) (R : RS) (T : TL) : Prop :=
  PX W 0 R.1 T.1 R.2.2.1 R.2.2.2.1 R.2.2.2.2.1 T.2.1 ∧ HX W 0 R.1 R.2.1 ∧ AX W 0 R.1 R.2.1 ∧ (∀ p, p < T.2.1 → W (6, 0) p = nI (T.2.2 p) ∧ W (11, 0) p = nI (T.2.2 p)) ∧ (W (9, 0) 3 = nI 0 ∧ W (7, 0) 1 = nI 0 ∧ W (18, 0) 2 = nI 0) ∧ (∀ q, q < 2 → W (13, 0) q = nI 0) ∧ ∀ i : Id2, 30 ≤ i.1 → W i = D i
theorem HouseX.of {D E F G : Wd} {R : RS} {T : TL} (hF : FRy D E) (hd : PDx E R T) (hC : CpF E F 1 0) {G0 : Wd} (hG0 : G0 = BgH (upA F (7, 0) (upd (F (7, 0)) 1 (nI 0)))) {G1 : Wd} (hG1 : G1 = upA G0 (18, 0) (upd (G0 (18, 0)) 2 (nI 0))) (hGo : ∀ i : Id2, i ≠ (13, 0) → G i = G1 i) (hGk : ∀ q, q < 2 → G (13, 0) q = nI 0) : HouseX D G R T := by
  have hPF := hC.P hd.1
  have hHF := hC.H hd.1.2.1 hd.2.1
  have h8 : R.1 ≤ 8 := hd.1.2.1
  have h5 : T.2.1 ≤ 5 := hd.1.2.2.2.2.2.2.2.2.1
  have o : ∀ i : Id2, i ≠ (13, 0) → i ≠ (18, 0) → i ≠ (9, 0) → i ≠ (10, 0) → i ≠ (11, 0) → i ≠ (7, 0) → G i = F i := fun i a b c d e f => by
    rw [hGo i a, hG1, upA_n _ _ b, hG0, BgH, upA_n _ _ c, upA_n _ _ e, upA_n _ _ d, upA_n _ _ f]
  have o10 : ∀ j, j < 8 → G (10, 0) j = F (2, 0) j := fun j hj => by
    rw [hGo _ (by decide), hG1, upA_n _ _ (by decide), hG0, BgH, upA_n _ _ (by decide), upA_n _ _ (by decide), upA_s, cpy_in hj, upA_n _ _ (by decide)]
  have o11 : ∀ j, j < 5 → G (11, 0) j = F (6, 0) j := fun j hj => by
    rw [hGo _ (by decide), hG1, upA_n _ _ (by decide), hG0, BgH, upA_n _ _ (by decide), upA_s, cpy_in hj, upA_n _ _ (by decide)]
  obtain ⟨h1, h2, h3, h4, hf, h6, h7, hdr, h9, h10⟩ := hPF
  have e6 : ∀ p, p < T.2.1 → F (6, 0) p = nI (T.2.2 p) := fun p hp => by rw [hC.2.2.2.1 p (by omega)]; exact hd.2.2.1 p hp
  refine ⟨⟨h1, h2, by rw [o _ (by decide) (by decide) (by decide) (by decide) (by decide) (by decide)]; exact h3, by rw [o _ (by decide) (by decide) (by decide) (by decide) (by decide) (by decide)]; exact h4, by rw [o _ (by decide) (by decide) (by decide) (by decide) (by decide) (by decide)]; exact hf, h6, by rw [o _ (by decide) (by decide) (by decide) (by decide) (by decide) (by decide)]; exact h7, by rw [o _ (by decide) (by decide) (by decide) (by decide) (by decide) (by decide)]; exact hdr, h9, by rw [o _ (by decide) (by decide) (by decide) (by decide) (by decide) (by decide)]; exact h10⟩, fun j hj => by rw [o _ (by decide) (by decide) (by decide) (by decide) (by decide) (by decide)]; exact hHF j hj, fun j hj => by rw [o10 j (by omega)]; exact hHF j hj, fun p hp => ⟨by rw [o _ (by decide) (by decide) (by decide) (by decide) (by decide) (by decide)]; exact e6 p hp, by rw [o11 p (by omega)]; exact e6 p hp⟩, ⟨?_, ?_, ?_⟩, hGk, fun i hi => ?_⟩
  · rw [hGo _ (by decide), hG1, upA_n _ _ (by decide), hG0, BgH, upA_s]; rfl
  · rw [hGo _ (by decide), hG1, upA_n _ _ (by decide), hG0, BgH, upA_n _ _ (by decide), upA_n _ _ (by decide), upA_n _ _ (by decide), upA_s]; rfl
  · rw [hGo _ (by decide), hG1, upA_s]; rfl
  · have nk : ∀ c : Nat, c < 30 → i ≠ (c, 0) := fun c hc e => by rw [e] at hi; simp only at hi; omega
    rw [o i (nk 13 (by decide)) (nk 18 (by decide)) (nk 9 (by decide)) (nk 10 (by decide)) (nk 11 (by decide)) (nk 7 (by decide)), hC.2.2.2.2 i (fun x => by omega)]
    exact hF.1 i (nk 7 (by decide)) (fun x => by omega)
