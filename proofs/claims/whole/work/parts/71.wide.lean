/-! THE WIDEST that a room can be: the class's way and the reference's are one -/
def suL (g : Nat → Nat) : List Nat → Nat
  | [] => 0
  | x :: l => g x + suL g l
theorem suL_app (g : Nat → Nat) : ∀ l m : List Nat, suL g (l ++ m) = suL g l + suL g m
  | [], m => by simp [suL]
  | x :: l, m => by
    have := suL_app g l m
    show g x + suL g (l ++ m) = g x + suL g l + suL g m
    omega
theorem suL_perm (g : Nat → Nat) {l m : List Nat} (h : l.Perm m) : suL g l = suL g m := by
  induction h with
  | nil => rfl
  | cons x _ ih => show g x + _ = g x + _; rw [ih]
  | swap x y l => show g y + (g x + suL g l) = g x + (g y + suL g l); omega
  | trans _ _ h1 h2 => exact h1.trans h2
theorem suL_range (g : Nat → Nat) : ∀ n, suL g (List.range n) = smN g n
  | 0 => rfl
  | n + 1 => by rw [List.range_succ, suL_app, suL_range g n]; rfl
theorem suL_congr {g h : Nat → Nat} : ∀ {l : List Nat}, (∀ x, x ∈ l → g x = h x) → suL g l = suL h l
  | [], _ => rfl
  | x :: l, e => by
    show g x + suL g l = h x + suL h l
    rw [e x List.mem_cons_self, suL_congr (fun y hy => e y (List.mem_cons_of_mem _ hy))]
theorem suL_pos {g : Nat → Nat} : ∀ {l : List Nat}, l ≠ [] → (∀ x, x ∈ l → 1 ≤ g x) → 1 ≤ suL g l
  | [], h, _ => absurd rfl h
  | x :: l, _, e => by
    have := e x List.mem_cons_self
    show 1 ≤ g x + suL g l
    omega
/-- the rooms whose slack reaches the room, to a side -/
def lsX (n : Nat) (k : Nat → Nat) (s : Nat) : Nat → Nat → List Nat
  | 0, _ => []
  | fu + 1, l => if k l = 3 then [] else rmB n l s :: lsX n k s fu (lfB n l s)
theorem nI_mix (a b c d : Nat) : nI a - nI b + (nI c - nI d) = nI (a + c) - nI (b + d) := by
  rw [← nI_add, ← nI_add]
  generalize nI a = x; generalize nI b = y; generalize nI c = z; generalize nI d = w
  apply Int32.toBitVec_inj.mp
  simp only [Int32.toBitVec_sub, Int32.toBitVec_add]
  simp only [BitVec.sub_eq_add_neg, BitVec.neg_add]
  ac_rfl
theorem srG_ls {n : Nat} {k a f : Nat → Nat} {s : Nat} : ∀ fu l A B o, srG n k a f s fu l (nI A - nI B) o = (nI (A + suL (wid n a) (lsX n k s fu l)) - nI (B + suL (fun r => f r + 1) (lsX n k s fu l)), o + (lsX n k s fu l).length)
  | 0, l, A, B, o => rfl
  | fu + 1, l, A, B, o => by
    rw [srG, lsX]
    by_cases h : k l = 3
    · rw [if_pos h, if_pos h]; rfl
    · rw [if_neg h, if_neg h, nI_mix, srG_ls]
      refine Prod.ext ?_ ?_
      · show nI _ - nI _ = nI (A + (wid n a (rmB n l s) + suL (wid n a) (lsX n k s fu (lfB n l s)))) - nI (B + (f (rmB n l s) + 1 + suL (fun r => f r + 1) (lsX n k s fu (lfB n l s))))
        rw [Nat.add_assoc, Nat.add_assoc]
      · show o + 1 + _ = o + (_ + 1)
        omega
def wlk (n w : Nat) : Nat → Nat
  | 0 => w
  | m + 1 => nx n (wlk n w m)
def rlM (n w : Nat) : Nat → List Nat
  | 0 => []
  | m + 1 => rlM n w m ++ [wlk n w m]
theorem ndG_rl {n : Nat} {f : Nat → Nat} {r w : Nat} : ∀ m, (ndG n f r w m).2 = wlk n w m ∧ (ndG n f r w m).1 = suL (fun x => if x = r then 0 else f x + 1) (rlM n w m)
  | 0 => ⟨rfl, rfl⟩
  | m + 1 => by
    obtain ⟨h1, h2⟩ := ndG_rl (n := n) (f := f) (r := r) (w := w) m
    rw [ndG, rlM, suL_app, wlk]
    refine ⟨by rw [← h1], ?_⟩
    show (ndG n f r w m).1 + (if (ndG n f r w m).2 = r then 0 else f (ndG n f r w m).2 + 1) = suL _ (rlM n w m) + ((if wlk n w m = r then 0 else f (wlk n w m) + 1) + 0)
    rw [h1, h2]; rfl
theorem wlk_lt {n w : Nat} (h : w < n) : ∀ m, wlk n w m < n
  | 0 => h
  | m + 1 => nx_lt (by omega)
theorem on_rl {n : Nat} {a : Nat → Nat} {w : Nat} (hw : w < n) (ha : ∀ j, j < n → a j < 72) : ∀ m, suL (wid n a) (rlM n w m) < 72 → onN (a w) (a (wlk n w m)) = suL (wid n a) (rlM n w m)
  | 0, _ => by
    show onN (a w) (a w) = 0
    unfold onN; rw [if_pos (Nat.le_refl _)]; omega
  | m + 1, h => by
    rw [rlM, suL_app] at h ⊢
    have e : suL (wid n a) [wlk n w m] = wid n a (wlk n w m) := rfl
    rw [e] at h ⊢
    have ih := on_rl hw ha m (by omega)
    have e2 : wid n a (wlk n w m) = onN (a (wlk n w m)) (a (wlk n w (m + 1))) := rfl
    rw [← ih, e2]
    exact onN_add (ha _ hw) (ha _ (wlk_lt hw m)) (ha _ (wlk_lt hw (m + 1))) (by rw [← e2, ih]; exact h)
def kF (v : Nat) (j : Nat) : Nat := if v.testBit j then 3 else 0
/-- the rooms that both ways reach, for each pattern of fixed leaves -/
def wdB (n v r : Nat) : Bool :=
  let p := fsG n (kF v) (n - 1) r 1
  let q := ltG n (kF v) (n - p.2) (nx n r) p.2
  let L0 := lsX n (kF v) 0 (n - 1) (nx n r)
  let L1 := lsX n (kF v) 1 (n - 1 - L0.length) r
  let RL := rlM n p.1 q.2
  let rest := (List.range n).filter (fun x => !RL.contains x)
  RL.isPerm (r :: (L0 ++ L1)) && (!(L0 ++ L1).contains r && ((RL ++ rest).isPerm (List.range n) && (decide (q.1 = wlk n p.1 q.2) && (decide (p.1 < n) && (decide (q.2 = n ↔ rest = []) && (decide (p.1 = q.1 → q.2 = n)))))))
theorem wdB_all : ((List.range 9).all fun n => decide (n < 3) || (List.range (2 ^ n)).all fun v => (List.range n).all fun r => wdB n v r) = true := by decide +kernel
theorem fsG_c {n : Nat} {k k' : Nat → Nat} (h : ∀ j, j < n → (k j = 3 ↔ k' j = 3)) : ∀ fu w m, w < n → fsG n k fu w m = fsG n k' fu w m
  | 0, w, m, _ => rfl
  | fu + 1, w, m, hw => by
    rw [fsG, fsG, fsG_c h fu (bf n w) (m + 1) (bf_lt hw)]
    by_cases e : k w = 3
    · rw [if_pos e, if_pos ((h w hw).mp e)]
    · rw [if_neg e, if_neg (fun x => e ((h w hw).mpr x))]
theorem ltG_c {n : Nat} {k k' : Nat → Nat} (h : ∀ j, j < n → (k j = 3 ↔ k' j = 3)) : ∀ fu w m, w < n → ltG n k fu w m = ltG n k' fu w m
  | 0, w, m, _ => rfl
  | fu + 1, w, m, hw => by
    rw [ltG, ltG, ltG_c h fu (nx n w) (m + 1) (nx_lt (by omega))]
    by_cases e : k w = 3
    · rw [if_pos e, if_pos ((h w hw).mp e)]
    · rw [if_neg e, if_neg (fun x => e ((h w hw).mpr x))]
theorem lsX_c {n : Nat} {k k' : Nat → Nat} {s : Nat} (h : ∀ j, j < n → (k j = 3 ↔ k' j = 3)) : ∀ fu w, w < n → lsX n k s fu w = lsX n k' s fu w
  | 0, w, _ => rfl
  | fu + 1, w, hw => by
    rw [lsX, lsX, lsX_c h fu (lfB n w s) (lfB_lt hw)]
    by_cases e : k w = 3
    · rw [if_pos e, if_pos ((h w hw).mp e)]
    · rw [if_neg e, if_neg (fun x => e ((h w hw).mpr x))]
theorem kF_ok {n : Nat} {k : Nat → Nat} : ∀ j, j < n → (k j = 3 ↔ kF (bitsN (fun j => decide (k j = 3)) n) j = 3) := by
  intro j hj
  unfold kF
  rw [bitsN_tb]
  by_cases h : k j = 3
  · simp [h, hj]
  · simp [h]
theorem wide_eq {n : Nat} {k f a : Nat → Nat} (h3 : 3 ≤ n) (h8 : n ≤ 8) (hG : Geo n f a) {r : Nat} (hr : r < n) : widS n k f a (nI r) = stS n k a f r := by
  have hc := kF_ok (n := n) (k := k)
  have hv := bitsN_lt (fun j => decide (k j = 3)) n
  generalize bitsN (fun j => decide (k j = 3)) n = v at hc hv
  have hall := wdB_all
  simp only [List.all_eq_true, List.mem_range] at hall
  have h1 := hall n (by omega)
  rw [Bool.or_eq_true, decide_eq_true_eq] at h1
  have h2 := h1.resolve_left (by omega)
  simp only [List.all_eq_true, List.mem_range] at h2
  have h4 := h2 v hv r hr
  have hnx : nx n r < n := nx_lt (by omega)
  have hx : ix (nI r) = r := nI_clamp (by omega)
  -- the reference's way
  have hl : lt0 (nI r) n = true := lt0_of hr (by omega)
  unfold widS
  rw [if_pos hl, hx, fsG_c hc (n - 1) r 1 hr]
  -- the class's way
  have e0 : nI (wid n a r) = nI (wid n a r) - nI 0 := by
    rw [show nI 0 = 0 from rfl]; simp
  unfold stS
  rw [e0, srG_ls, lsX_c hc (n - 1) (nx n r) hnx]
  simp only [Nat.zero_add]
  rw [srG_ls, lsX_c hc _ r hr]
  unfold wdB at h4
  simp only at h4
  generalize fsG n (kF v) (n - 1) r 1 = p at h4 ⊢
  simp only
  rw [ltG_c hc (n - p.2) (nx n r) p.2 hnx]
  generalize ltG n (kF v) (n - p.2) (nx n r) p.2 = q at h4 ⊢
  generalize lsX n (kF v) 0 (n - 1) (nx n r) = L0 at h4 ⊢
  generalize lsX n (kF v) 1 (n - 1 - L0.length) r = L1 at h4 ⊢
  generalize hrest : (List.range n).filter (fun x => !(rlM n p.1 q.2).contains x) = rest at h4
  simp only [Bool.and_eq_true, List.isPerm_iff, decide_eq_true_eq] at h4
  obtain ⟨g1, g2, g3, g4, g5, g6, g7⟩ := h4
  have s1 := suL_perm (wid n a) g1
  have s2 := suL_perm (fun x => if x = r then 0 else f x + 1) g1
  have s3 := suL_perm (wid n a) g3
  rw [suL_app, suL_range, hG.2.2] at s3
  have hnd := (ndG_rl (n := n) (f := f) (r := r) (w := p.1) q.2).2
  have t1 : suL (wid n a) (r :: (L0 ++ L1)) = wid n a r + suL (wid n a) L0 + suL (wid n a) L1 := by
    show wid n a r + suL (wid n a) (L0 ++ L1) = _
    rw [suL_app]; omega
  have t2 : suL (fun x => if x = r then 0 else f x + 1) (r :: (L0 ++ L1)) = suL (fun x => f x + 1) L0 + suL (fun x => f x + 1) L1 := by
    show (if r = r then 0 else f r + 1) + suL (fun x => if x = r then 0 else f x + 1) (L0 ++ L1) = _
    rw [if_pos rfl, Nat.zero_add, ← suL_app]
    refine suL_congr (fun x hm9 => ?_)
    have : x ≠ r := fun e => by
      rw [e] at hm9
      rw [List.contains_iff_mem.mpr hm9] at g2
      cases g2
    show (if x = r then 0 else f x + 1) = f x + 1
    rw [if_neg this]
  rw [t1] at s1
  rw [t2] at s2
  rw [hnd, s2]
  have span : (if p.1 = q.1 ∨ q.2 = n then 72 else onN (a p.1) (a q.1)) = suL (wid n a) (rlM n p.1 q.2) := by
    by_cases e : q.2 = n
    · have e9 : rest = [] := g6.mp e
      rw [if_pos (Or.inr e)]
      rw [e9] at s3
      have : suL (wid n a) [] = 0 := rfl
      omega
    · have e9 : rest ≠ [] := fun x => e (g6.mpr x)
      have hp : 1 ≤ suL (wid n a) rest := suL_pos e9 (fun x hx => by
        rw [← hrest, List.mem_filter, List.mem_range] at hx
        exact (hG.le h3 h8 hx.1).1)
      rw [if_neg (fun x => x.elim (fun y => e (g7 y)) e), g4]
      exact on_rl g5 hG.1 q.2 (by omega)
  rw [span, s1]
