/-! THE ERRANDS: the class's search and the reference's rows are one -/
def prm : Nat → List Nat → List (List Nat)
  | 0, _ => [[]]
  | c + 1, l => l.flatMap (fun x => (prm c (l.erase x)).map (fun p => x :: p))
/-- errands one behind the other: the steps together, and where all stands then -/
def cs2 (n : Nat) (k f : Nat → Nat) (dn : Nat) (dr : Nat → Nat) (i : Nat) : List Nat → (Nat → Nat) → Option (Nat × (Nat → Nat))
  | [], a => some (0, a)
  | x :: p, a => match (erG n k f dn dr i x a).1 with
    | none => none
    | some t => match cs2 n k f dn dr i p (erG n k f dn dr i x a).2 with
      | none => none
      | some q => some (t + q.1, q.2)
def s1 (sp : Nat) (od : List Nat) (cost : List Nat → Option Nat) (st : Nat × List Nat) (p : List Nat) : Nat × List Nat := match cost p with
  | none => st
  | some t => if sp + t < st.1 then (sp + t, od ++ p) else st
theorem fold_same {α β : Type} (g : β → α → β) (s : β) : ∀ l : List α, (∀ x, x ∈ l → g s x = s) → l.foldl g s = s
  | [], _ => rfl
  | x :: l, h => by
    rw [List.foldl_cons, h x List.mem_cons_self]
    exact fold_same g s l (fun y hy => h y (List.mem_cons_of_mem _ hy))
theorem fold_eq {α β : Type} {g h : β → α → β} : ∀ (l : List α) (s : β), (∀ s x, g s x = h s x) → l.foldl g s = l.foldl h s
  | [], _, _ => rfl
  | x :: l, s, e => by rw [List.foldl_cons, List.foldl_cons, e s x]; exact fold_eq l _ e
theorem fold_flat {α β γ : Type} (F : α → List β) (g : γ → β → γ) : ∀ (l : List α) (s : γ), (l.flatMap F).foldl g s = l.foldl (fun acc x => (F x).foldl g acc) s
  | [], s => rfl
  | x :: l, s => by
    rw [List.flatMap_cons, List.foldl_append, List.foldl_cons, fold_flat F g l]
theorem fold_map {α β γ : Type} (F : α → β) (g : γ → β → γ) : ∀ (l : List α) (s : γ), (l.map F).foldl g s = l.foldl (fun acc x => g acc (F x)) s
  | [], s => rfl
  | x :: l, s => by rw [List.map_cons, List.foldl_cons, List.foldl_cons, fold_map F g l]
theorem cs2_none {n : Nat} {k f : Nat → Nat} {dn : Nat} {dr : Nat → Nat} {i x : Nat} {p : List Nat} {a : Nat → Nat} (h : (erG n k f dn dr i x a).1 = none) : stI (cs2 n k f dn dr i (x :: p) a) = none := by
  rw [cs2, h]; rfl
theorem cs2_some {n : Nat} {k f : Nat → Nat} {dn : Nat} {dr : Nat → Nat} {i x t : Nat} {p : List Nat} {a : Nat → Nat} (h : (erG n k f dn dr i x a).1 = some t) : stI (cs2 n k f dn dr i (x :: p) a) = (stI (cs2 n k f dn dr i p (erG n k f dn dr i x a).2)).map (fun u => t + u) := by
  rw [cs2, h]
  cases cs2 n k f dn dr i p (erG n k f dn dr i x a).2 with
  | none => rfl
  | some q => rfl
theorem vst_fold {n : Nat} {k f : Nat → Nat} {dn : Nat} {dr : Nat → Nat} {i c : Nat} (ih : ∀ l sp a od st, sp < st.1 → visW n k f dn dr i c l sp a od st = (prm c l).foldl (s1 sp od (fun p => stI (cs2 n k f dn dr i p a))) st) (l : List Nat) (sp : Nat) (a : Nat → Nat) (od : List Nat) (s : Nat × List Nat) (x : Nat) :
    vst n k f dn dr i c l sp a od s x = ((prm c (l.erase x)).map (fun p => x :: p)).foldl (s1 sp od (fun p => stI (cs2 n k f dn dr i p a))) s := by
  rw [fold_map]
  unfold vst
  cases he : (erG n k f dn dr i x a).1 with
  | none =>
    show s = _
    symm
    refine fold_same _ s _ (fun p _ => ?_)
    unfold s1
    dsimp only
    rw [cs2_none he]
  | some t =>
    by_cases ht : t < s.1 - sp
    · rw [lmO_s ht]
      show visW n k f dn dr i c (l.erase x) (sp + t) (erG n k f dn dr i x a).2 (od ++ [x]) s = _
      rw [ih _ _ _ _ _ (by omega)]
      refine fold_eq _ _ (fun acc p => ?_)
      unfold s1
      dsimp only
      rw [cs2_some he]
      cases stI (cs2 n k f dn dr i p (erG n k f dn dr i x a).2) with
      | none => rfl
      | some u =>
        show (if sp + t + u < acc.1 then (sp + t + u, od ++ [x] ++ p) else acc) = (if sp + (t + u) < acc.1 then (sp + (t + u), od ++ x :: p) else acc)
        rw [Nat.add_assoc, List.append_assoc]; rfl
    · rw [lmO_n ht]
      show s = _
      symm
      refine fold_same _ s _ (fun p _ => ?_)
      unfold s1
      dsimp only
      rw [cs2_some he]
      cases stI (cs2 n k f dn dr i p (erG n k f dn dr i x a).2) with
      | none => rfl
      | some u =>
        show (if sp + (t + u) < s.1 then (sp + (t + u), od ++ x :: p) else s) = s
        rw [if_neg (by omega)]
theorem vis_prm {n : Nat} {k f : Nat → Nat} {dn : Nat} {dr : Nat → Nat} {i : Nat} : ∀ c l sp a od st, sp < st.1 → visW n k f dn dr i c l sp a od st = (prm c l).foldl (s1 sp od (fun p => stI (cs2 n k f dn dr i p a))) st
  | 0, l, sp, a, od, st, h => by
    show (sp, od) = s1 sp od (fun p => stI (cs2 n k f dn dr i p a)) st []
    show (sp, od) = if sp + 0 < st.1 then (sp + 0, od ++ []) else st
    rw [if_pos (by omega), List.append_nil]; rfl
  | c + 1, l, sp, a, od, st, h => by
    rw [visW_s, prm, fold_flat]
    exact fold_eq _ _ (fun s x => vst_fold (fun l sp a od st h => vis_prm c l sp a od st h) l sp a od s x)
theorem cs2_snoc {n : Nat} {k f : Nat → Nat} {dn : Nat} {dr : Nat → Nat} {i x : Nat} : ∀ (p : List Nat) (a : Nat → Nat), cs2 n k f dn dr i (p ++ [x]) a = match cs2 n k f dn dr i p a with
    | none => none
    | some q => match (erG n k f dn dr i x q.2).1 with
      | none => none
      | some t => some (q.1 + t, (erG n k f dn dr i x q.2).2)
  | [], a => by
    show cs2 n k f dn dr i [x] a = match (erG n k f dn dr i x a).1 with
      | none => none
      | some t => some (0 + t, (erG n k f dn dr i x a).2)
    rw [cs2]
    cases (erG n k f dn dr i x a).1 with
    | none => rfl
    | some t => show some (t + 0, _) = some (0 + t, _); rw [Nat.add_comm]
  | y :: p, a => by
    rw [List.cons_append, cs2, cs2]
    cases he : (erG n k f dn dr i y a).1 with
    | none => rfl
    | some t =>
      dsimp only
      rw [cs2_snoc p]
      cases cs2 n k f dn dr i p (erG n k f dn dr i y a).2 with
      | none => rfl
      | some q =>
        dsimp only
        cases (erG n k f dn dr i x q.2).1 with
        | none => rfl
        | some u => dsimp only; rw [Nat.add_assoc]
theorem stG_cs {n : Nat} {k f : Nat → Nat} {dn : Nat} {dr : Nat → Nat} {i : Nat} {rm a : Nat → Nat} : ∀ m, stG n k f dn dr i rm a m = cs2 n k f dn dr i ((List.range m).map rm) a
  | 0 => rfl
  | m + 1 => by
    rw [List.range_succ, List.map_append, List.map_cons, List.map_nil, cs2_snoc, ← stG_cs m, stG]
    rfl
/-- the row with a number, by places -/
def prR (c v : Nat) : List Nat := (List.range c).map (fun q => (rwS c v (q + 1)).2.2.2)
theorem prm_rw : ∀ c, c < 6 → prm c (List.range c) = (List.range (fct c)).map (prR c) := by decide +kernel
theorem erase_map {g : Nat → Nat} {x : Nat} : ∀ (l : List Nat), (∀ y, y ∈ l → g y = g x → y = x) → (l.map g).erase (g x) = (l.erase x).map g
  | [], _ => rfl
  | y :: l, h => by
    rw [List.map_cons]
    by_cases e : y = x
    · subst e; rw [List.erase_cons_head, List.erase_cons_head]
    · have e2 : g y ≠ g x := fun z => e (h y List.mem_cons_self z)
      rw [List.erase_cons_tail (by simpa using e2), List.erase_cons_tail (by simpa using e), erase_map l (fun z hz => h z (List.mem_cons_of_mem _ hz)), List.map_cons]
theorem prm_map {g : Nat → Nat} : ∀ c (l : List Nat), (∀ x y, x ∈ l → y ∈ l → g x = g y → x = y) → prm c (l.map g) = (prm c l).map (List.map g)
  | 0, l, _ => rfl
  | c + 1, l, h => by
    rw [prm, prm, List.flatMap_map, List.map_flatMap]
    have e : ∀ x, x ∈ l → (prm c ((l.map g).erase (g x))).map (fun p => g x :: p) = ((prm c (l.erase x)).map (fun p => x :: p)).map (List.map g) := fun x hx => by
      rw [erase_map l (fun y hy z => h y x hy hx z), prm_map c (l.erase x) (fun y z hy hz => h y z (List.mem_of_mem_erase hy) (List.mem_of_mem_erase hz)), List.map_map, List.map_map]
      rfl
    have key : ∀ l2 : List Nat, (∀ x, x ∈ l2 → x ∈ l) → l2.flatMap (fun x => (prm c ((l.map g).erase (g x))).map (fun p => g x :: p)) = l2.flatMap (fun x => ((prm c (l.erase x)).map (fun p => x :: p)).map (List.map g)) := by
      intro l2
      induction l2 with
      | nil => intro _; rfl
      | cons y l3 ih => intro hy; rw [List.flatMap_cons, List.flatMap_cons, e y (hy y List.mem_cons_self), ih (fun z hz => hy z (List.mem_cons_of_mem _ hz))]
    exact key l (fun _ hx => hx)
theorem bl_chB : ∀ n, n < 9 → ∀ v, v < 2 ^ n → (decide (bl v n = (List.range (cntN (fun p => v.testBit p) n)).map (chG v n)) && (List.range (cntN (fun p => v.testBit p) n)).all (fun p => (List.range p).all (fun q => decide (chG v n q < chG v n p)))) = true := by decide +kernel
theorem bl_ch (n : Nat) (hn : n < 9) (v : Nat) (hv : v < 2 ^ n) : bl v n = (List.range (cntN (fun p => v.testBit p) n)).map (chG v n) ∧ ∀ x y, x ∈ List.range (cntN (fun p => v.testBit p) n) → y ∈ List.range (cntN (fun p => v.testBit p) n) → chG v n x = chG v n y → x = y := by
  have h := bl_chB n hn v hv
  rw [Bool.and_eq_true, decide_eq_true_eq] at h
  refine ⟨h.1, fun x y hx hy e => ?_⟩
  have h2 := h.2
  simp only [List.all_eq_true, List.mem_range, decide_eq_true_eq] at h2
  rw [List.mem_range] at hx hy
  rcases Nat.lt_trichotomy x y with z | z | z
  · have := h2 y hy x z; omega
  · exact z
  · have := h2 x hx y z; omega
theorem prm_bl (n : Nat) (hn : n < 9) (v : Nat) (hv : v < 2 ^ n) {c : Nat} (hc : cntN (fun p => v.testBit p) n = c) (h6 : c < 6) : prm c (bl v n) = (List.range (fct c)).map (fun m => (List.range c).map (rwR (chG v n) c m)) := by
  obtain ⟨h1, h2⟩ := bl_ch n hn v hv
  rw [hc] at h1 h2
  rw [h1, prm_map c _ h2, prm_rw c h6, List.map_map]
  refine List.map_congr_left (fun m _ => ?_)
  show List.map (chG v n) (prR c m) = _
  rw [prR, List.map_map]; rfl
/-- the first least of the numbered rows, and the search through the rows, agree -/
theorem eb_fold {cost : Nat → Option Nat} {pr : Nat → List Nat} {cl : List Nat → Option Nat} {O : List Nat} (hcl : ∀ m, cl (pr m) = cost m) (hb : ∀ m t, cost m = some t → t ≤ 360) : ∀ m,
    ((ebG cost m).1 = none ∧ (ebG cost m).2 = 268435456 ∧ ((List.range m).map pr).foldl (s1 0 [] cl) (361, O) = (361, O)) ∨ (∃ b, b < m ∧ (ebG cost m).1 = some b ∧ (ebG cost m).2 ≤ 360 ∧ ((List.range m).map pr).foldl (s1 0 [] cl) (361, O) = ((ebG cost m).2, pr b))
  | 0 => Or.inl ⟨rfl, rfl, rfl⟩
  | m + 1 => by
    rw [List.range_succ, List.map_append, List.foldl_append, List.map_cons, List.map_nil, List.foldl_cons, List.foldl_nil, ebG]
    rcases eb_fold (O := O) hcl hb m with ⟨h1, h2, h3⟩ | ⟨b, hbm, h1, h2, h3⟩
    · rw [h3]
      unfold s1
      rw [hcl]
      cases hc : cost m with
      | none => exact Or.inl ⟨h1, h2, rfl⟩
      | some t =>
        have ht := hb m t hc
        right
        refine ⟨m, Nat.lt_succ_self m, ?_⟩
        dsimp only
        rw [if_pos (by omega), if_pos (by omega)]
        exact ⟨rfl, ht, by rw [Nat.zero_add]; rfl⟩
    · rw [h3]
      unfold s1
      rw [hcl]
      cases hc : cost m with
      | none => exact Or.inr ⟨b, by omega, h1, h2, rfl⟩
      | some t =>
        have ht := hb m t hc
        right
        dsimp only
        rw [Nat.zero_add]
        by_cases e : t < (ebG cost m).2
        · rw [if_pos e, if_pos e]
          exact ⟨m, Nat.lt_succ_self m, rfl, ht, rfl⟩
        · rw [if_neg e, if_neg e]
          exact ⟨b, by omega, h1, h2, rfl⟩
theorem er_eq {n : Nat} {k f : Nat → Nat} {dn : Nat} {dr : Nat → Nat} {a : Nat → Nat} (h3 : 3 ≤ n) (h8 : n ≤ 8) (O : List Nat) (x y z : Int32) : erS n k f dn dr a x y z = erXS n k f dn dr a O x y z := by
  unfold erS erXS
  by_cases h1 : (lt0 x (2 ^ n) && lt0 y n) = true
  · rw [if_pos h1, if_pos h1]
    rw [Bool.and_eq_true] at h1
    by_cases h2 : z < -1
    · rw [if_pos h2, if_pos h2]
    · rw [if_neg h2, if_neg h2]
      by_cases h5 : 5 < cntN (fun p => (ix x).testBit p) 8
      · rw [if_pos h5, if_pos h5]
      · rw [if_neg h5, if_neg h5]
        have hp : 2 ^ n ≤ 2 ^ 8 := Nat.pow_le_pow_right (by decide) h8
        obtain ⟨v, hv, rfl⟩ := lt0_nI h1.1
        have hvx : ix (nI v) = v := nI_clamp (by omega)
        rw [hvx] at h5 ⊢
        obtain ⟨b1, b2, -⟩ := bl_len n (by omega) v hv
        rw [← b2] at h5 ⊢
        generalize hc : cntN (fun p => v.testBit p) n = c at h5 b1
        have hpb := prm_bl n (by omega) v hv hc (by omega)
        have hV : erV n k f dn dr a (ix y) v O = ((List.range (fct c)).map (fun m => (List.range c).map (rwR (chG v n) c m))).foldl (s1 0 [] (fun p => stI (cs2 n k f dn dr (ix y) p a))) (361, O) := by
          unfold erV
          rw [b1, vis_prm _ _ _ _ _ _ (show 0 < 361 by decide), hpb]
        have hE := eb_fold (cost := erC n k f dn dr a (ix y) v c) (pr := fun m => (List.range c).map (rwR (chG v n) c m)) (cl := fun p => stI (cs2 n k f dn dr (ix y) p a)) (O := O) (fun m => by rw [erC, stG_cs]) (fun m t ht => by have := erC_le ht; omega) (fct c)
        rw [← hV] at hE
        rcases hE with ⟨e1, e2, e3⟩ | ⟨b, hbm, e1, e2, e3⟩
        · rw [e1, e3]
          rw [if_pos (show 360 < 361 by decide)]
        · rw [e1, e3]
          rw [if_neg (by dsimp only; omega)]
          dsimp only
          by_cases hz : z = -1
          · rw [if_pos hz, if_pos hz]
          · rw [if_neg hz, if_neg hz]
            by_cases hz2 : z < nI c
            · rw [if_pos hz2, if_pos hz2]
              obtain ⟨j, hj, rfl⟩ := z_nI (by rw [Int32.le_iff_toInt_le]; rw [Int32.lt_iff_toInt_lt] at h2; omega) hz
              have hjc : j < c := (nI_ltI (by omega) (by omega)).mp hz2
              have hjx : ix (nI j) = j := nI_clamp (by omega)
              rw [hjx]
              congr 1
              rw [List.getD_eq_getElem?_getD, List.getElem?_map, List.getElem?_range hjc]; rfl
            · rw [if_neg hz2, if_neg hz2]
  · rw [if_neg h1, if_neg h1]
