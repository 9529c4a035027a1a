/-! THE ROWS for ints that are natural numbers, and for answers that are yes or no; contracts with one answer -/
/-- a contract with one answer and one world behind it -/
def Fok (M : Mt) (ids : List Id2) (d : Nat) (av : List AV) (D : Wd) (r : Option AV) (D' : Wd) : Prop := Mok M ids d av D (fun r' D'' => r' = r ∧ D'' = D')
theorem bi_iff {c e : Prop} [Decidable c] [Decidable e] (h : c ↔ e) : (if c then (1 : Int32) else 0) = if e then 1 else 0 := by
  by_cases hc : c
  · rw [if_pos hc, if_pos (h.mp hc)]
  · rw [if_neg hc, if_neg (fun q => hc (h.mpr q))]
theorem bi_nar (c : Prop) [Decidable c] : narrow .boolean (.int (if c then 1 else 0)) = .int (if c then 1 else 0) := by
  by_cases hc : c
  · rw [if_pos hc]; rfl
  · rw [if_neg hc]; rfl
theorem nI_d {n : Nat} (h : Int32.ofInt n = nI n := by decide) : Int32.ofInt n = nI n := h
section NAT
variable {X : Cxt} {M : Mt} {ids : List Id2} {d pc : Nat} {L : Lc} {st : List AV} {D : Wd}
theorem g_top {x y : Int32} (h : x = y) (k : Gk X M ids pc L (vi y :: st) D) : Gk X M ids pc L (vi x :: st) D := h ▸ k
theorem g_wd {D' : Wd} (h : D = D') (k : Gk X M ids pc L st D') : Gk X M ids pc L st D := h ▸ k
theorem g_loc {L' : Lc} (h : L = L') (k : Gk X M ids pc L' st D) : Gk X M ids pc L st D := h ▸ k
theorem g_iaddN {a b : Nat} (cx : Cx X M ids d) (hd : decode M.2.1 pc = .ok (.iadd, 1)) (k : Gk X M ids (pc + 1) L (vi (nI (a + b)) :: st) D) : Gk X M ids pc L (vi (nI b) :: vi (nI a) :: st) D :=
  g_iadd cx hd (g_top (nI_add a b) k)
theorem g_isubN {a b : Nat} (cx : Cx X M ids d) (hd : decode M.2.1 pc = .ok (.isub, 1)) (h : b ≤ a) (k : Gk X M ids (pc + 1) L (vi (nI (a - b)) :: st) D) : Gk X M ids pc L (vi (nI b) :: vi (nI a) :: st) D :=
  g_isub cx hd (g_top (pk_sub h) k)
theorem g_imulN {a b : Nat} (cx : Cx X M ids d) (hd : decode M.2.1 pc = .ok (.imul, 1)) (k : Gk X M ids (pc + 1) L (vi (nI (a * b)) :: st) D) : Gk X M ids pc L (vi (nI b) :: vi (nI a) :: st) D :=
  g_imul cx hd (g_top (pk_mul a b) k)
theorem g_idivN {a b : Nat} (cx : Cx X M ids d) (hd : decode M.2.1 pc = .ok (.idiv, 1)) (ha : a < 2 ^ 31) (h0 : 0 < b) (hb : b < 2 ^ 31) (k : Gk X M ids (pc + 1) L (vi (nI (a / b)) :: st) D) : Gk X M ids pc L (vi (nI b) :: vi (nI a) :: st) D :=
  g_idiv cx hd (nI_ne0 h0 hb) (g_top (pk_div ha h0 hb) k)
theorem g_iremN {a b : Nat} (cx : Cx X M ids d) (hd : decode M.2.1 pc = .ok (.irem, 1)) (ha : a < 2 ^ 31) (h0 : 0 < b) (hb : b < 2 ^ 31) (k : Gk X M ids (pc + 1) L (vi (nI (a % b)) :: st) D) : Gk X M ids pc L (vi (nI b) :: vi (nI a) :: st) D :=
  g_irem cx hd (nI_ne0 h0 hb) (g_top (pk_rem ha h0 hb) k)
theorem g_iincN {i a : Nat} {L' : Lc} (cx : Cx X M ids d) (hd : decode M.2.1 pc = .ok (.iinc i 1, 3)) (hi : L[i]? = some (some (vi (nI a)))) (hn : i < M.2.2.1) (hb : nlb L i = true) (hl : L.set i (some (vi (nI (a + 1)))) = L') (k : Gk X M ids (pc + 3) L' st D) : Gk X M ids pc L st D :=
  g_iinc cx hd hi (by have h1 : Int32.ofInt 1 = 1 := by decide
                      rw [h1, nI_1]) hn hb hl k
theorem g_icmp_eqN {a b : Nat} {off : Int} {tgt : Nat} (cx : Cx X M ids d) (hd : decode M.2.1 pc = .ok (.if_icmp .eq off, 3)) (ht : (pc : Int) + off = (tgt : Int)) (ha : a < 2 ^ 31) (hb : b < 2 ^ 31) (kt : a = b → Gk X M ids tgt L st D) (kf : a ≠ b → Gk X M ids (pc + 3) L st D) : Gk X M ids pc L (vi (nI b) :: vi (nI a) :: st) D :=
  g_icmp_eq cx hd ht (fun q => kt ((nI_eq ha hb).mp q)) (fun q => kf (fun e => q ((nI_eq ha hb).mpr e)))
theorem g_icmp_neN {a b : Nat} {off : Int} {tgt : Nat} (cx : Cx X M ids d) (hd : decode M.2.1 pc = .ok (.if_icmp .ne off, 3)) (ht : (pc : Int) + off = (tgt : Int)) (ha : a < 2 ^ 31) (hb : b < 2 ^ 31) (kt : a ≠ b → Gk X M ids tgt L st D) (kf : a = b → Gk X M ids (pc + 3) L st D) : Gk X M ids pc L (vi (nI b) :: vi (nI a) :: st) D :=
  g_icmp_ne cx hd ht (fun q => kt (fun e => q ((nI_eq ha hb).mpr e))) (fun q => kf ((nI_eq ha hb).mp q))
theorem g_icmp_ltN {a b : Nat} {off : Int} {tgt : Nat} (cx : Cx X M ids d) (hd : decode M.2.1 pc = .ok (.if_icmp .lt off, 3)) (ht : (pc : Int) + off = (tgt : Int)) (ha : a < 2 ^ 31) (hb : b < 2 ^ 31) (kt : a < b → Gk X M ids tgt L st D) (kf : b ≤ a → Gk X M ids (pc + 3) L st D) : Gk X M ids pc L (vi (nI b) :: vi (nI a) :: st) D :=
  g_icmp_lt cx hd ht (fun q => kt ((nI_ltI ha hb).mp q)) (fun q => kf (Nat.le_of_not_lt (fun e => q ((nI_ltI ha hb).mpr e))))
theorem g_icmp_geN {a b : Nat} {off : Int} {tgt : Nat} (cx : Cx X M ids d) (hd : decode M.2.1 pc = .ok (.if_icmp .ge off, 3)) (ht : (pc : Int) + off = (tgt : Int)) (ha : a < 2 ^ 31) (hb : b < 2 ^ 31) (kt : b ≤ a → Gk X M ids tgt L st D) (kf : a < b → Gk X M ids (pc + 3) L st D) : Gk X M ids pc L (vi (nI b) :: vi (nI a) :: st) D :=
  g_icmp_ge cx hd ht (fun q => kt ((nI_leI hb ha).mp q)) (fun q => kf (Nat.lt_of_not_le (fun e => q ((nI_leI hb ha).mpr e))))
theorem g_icmp_gtN {a b : Nat} {off : Int} {tgt : Nat} (cx : Cx X M ids d) (hd : decode M.2.1 pc = .ok (.if_icmp .gt off, 3)) (ht : (pc : Int) + off = (tgt : Int)) (ha : a < 2 ^ 31) (hb : b < 2 ^ 31) (kt : b < a → Gk X M ids tgt L st D) (kf : a ≤ b → Gk X M ids (pc + 3) L st D) : Gk X M ids pc L (vi (nI b) :: vi (nI a) :: st) D :=
  g_icmp_gt cx hd ht (fun q => kt ((nI_ltI hb ha).mp q)) (fun q => kf (Nat.le_of_not_lt (fun e => q ((nI_ltI hb ha).mpr e))))
theorem g_icmp_leN {a b : Nat} {off : Int} {tgt : Nat} (cx : Cx X M ids d) (hd : decode M.2.1 pc = .ok (.if_icmp .le off, 3)) (ht : (pc : Int) + off = (tgt : Int)) (ha : a < 2 ^ 31) (hb : b < 2 ^ 31) (kt : a ≤ b → Gk X M ids tgt L st D) (kf : b < a → Gk X M ids (pc + 3) L st D) : Gk X M ids pc L (vi (nI b) :: vi (nI a) :: st) D :=
  g_icmp_le cx hd ht (fun q => kt ((nI_leI ha hb).mp q)) (fun q => kf (Nat.lt_of_not_le (fun e => q ((nI_leI ha hb).mpr e))))
theorem z_eq {a : Nat} (h : a < 2 ^ 31) : nI a = 0 ↔ a = 0 := by
  rw [← nI_0]; exact nI_eq h (by decide)
theorem z_gt {a : Nat} (h : a < 2 ^ 31) : 0 < nI a ↔ 0 < a := by
  rw [← nI_0]; exact nI_ltI (by decide) h
theorem z_le {a : Nat} (h : a < 2 ^ 31) : nI a ≤ 0 ↔ a = 0 := by
  rw [← nI_0, nI_leI h (by decide)]; omega
theorem z_lt {a : Nat} (h : a < 2 ^ 31) : ¬ nI a < 0 := nI_pos h
theorem g_if_eqN {a : Nat} {off : Int} {tgt : Nat} (cx : Cx X M ids d) (hd : decode M.2.1 pc = .ok (.ifCond .eq off, 3)) (ht : (pc : Int) + off = (tgt : Int)) (ha : a < 2 ^ 31) (kt : a = 0 → Gk X M ids tgt L st D) (kf : a ≠ 0 → Gk X M ids (pc + 3) L st D) : Gk X M ids pc L (vi (nI a) :: st) D :=
  g_if_eq cx hd ht (fun q => kt ((z_eq ha).mp q)) (fun q => kf (fun e => q ((z_eq ha).mpr e)))
theorem g_if_neN {a : Nat} {off : Int} {tgt : Nat} (cx : Cx X M ids d) (hd : decode M.2.1 pc = .ok (.ifCond .ne off, 3)) (ht : (pc : Int) + off = (tgt : Int)) (ha : a < 2 ^ 31) (kt : a ≠ 0 → Gk X M ids tgt L st D) (kf : a = 0 → Gk X M ids (pc + 3) L st D) : Gk X M ids pc L (vi (nI a) :: st) D :=
  g_if_ne cx hd ht (fun q => kt (fun e => q ((z_eq ha).mpr e))) (fun q => kf ((z_eq ha).mp q))
theorem g_if_gtN {a : Nat} {off : Int} {tgt : Nat} (cx : Cx X M ids d) (hd : decode M.2.1 pc = .ok (.ifCond .gt off, 3)) (ht : (pc : Int) + off = (tgt : Int)) (ha : a < 2 ^ 31) (kt : 0 < a → Gk X M ids tgt L st D) (kf : a = 0 → Gk X M ids (pc + 3) L st D) : Gk X M ids pc L (vi (nI a) :: st) D :=
  g_if_gt cx hd ht (fun q => kt ((z_gt ha).mp q)) (fun q => kf (Nat.eq_zero_of_not_pos (fun e => q ((z_gt ha).mpr e))))
theorem g_if_leN {a : Nat} {off : Int} {tgt : Nat} (cx : Cx X M ids d) (hd : decode M.2.1 pc = .ok (.ifCond .le off, 3)) (ht : (pc : Int) + off = (tgt : Int)) (ha : a < 2 ^ 31) (kt : a = 0 → Gk X M ids tgt L st D) (kf : 0 < a → Gk X M ids (pc + 3) L st D) : Gk X M ids pc L (vi (nI a) :: st) D :=
  g_if_le cx hd ht (fun q => kt ((z_le ha).mp q)) (fun q => kf (Nat.pos_of_ne_zero (fun e => q ((z_le ha).mpr e))))
theorem g_if_ltN {a : Nat} {off : Int} {tgt : Nat} (cx : Cx X M ids d) (hd : decode M.2.1 pc = .ok (.ifCond .lt off, 3)) (ht : (pc : Int) + off = (tgt : Int)) (ha : a < 2 ^ 31) (kf : Gk X M ids (pc + 3) L st D) : Gk X M ids pc L (vi (nI a) :: st) D :=
  g_if_lt cx hd ht (fun q => absurd q (z_lt ha)) (fun _ => kf)
theorem g_if_eqB {c : Prop} [Decidable c] {off : Int} {tgt : Nat} (cx : Cx X M ids d) (hd : decode M.2.1 pc = .ok (.ifCond .eq off, 3)) (ht : (pc : Int) + off = (tgt : Int)) (kt : ¬ c → Gk X M ids tgt L st D) (kf : c → Gk X M ids (pc + 3) L st D) : Gk X M ids pc L (vi (if c then 1 else 0) :: st) D :=
  g_if_eq cx hd ht (fun q => kt (fun e => by rw [if_pos e] at q; exact absurd q (by decide))) (fun q => kf (Classical.byContradiction (fun e => q (if_neg e))))
theorem g_if_neB {c : Prop} [Decidable c] {off : Int} {tgt : Nat} (cx : Cx X M ids d) (hd : decode M.2.1 pc = .ok (.ifCond .ne off, 3)) (ht : (pc : Int) + off = (tgt : Int)) (kt : c → Gk X M ids tgt L st D) (kf : ¬ c → Gk X M ids (pc + 3) L st D) : Gk X M ids pc L (vi (if c then 1 else 0) :: st) D :=
  g_if_ne cx hd ht (fun q => kt (Classical.byContradiction (fun e => q (if_neg e)))) (fun q => kf (fun e => by rw [if_pos e] at q; exact absurd q (by decide)))
theorem g_getIN {i : Id2} {ci k N ix : Nat} {fs : List (Option Id2)} {C : String} {T : u_T} {v : Int32} (cx : Cx X M ids d) (hi : i ∈ ids) (hs : sh i = .inl (ci, fs)) (hf : fs[k]? = some none) (hc : vwCl[ci]? = some (C, T, N)) (hk : k < N) (hin : ∀ w ∈ u_ws C T N, w ∈ TB) (hw : Cond.fieldLink M.1.cls ix (T k).1 (T k).2.1 (T k).2.2.1 ∈ TB) (hd : decode M.2.1 pc = .ok (.getfield ix, 3)) (hv : D i k = v) (kk : Gk X M ids (pc + 3) L (vi v :: st) D) : Gk X M ids pc L (vr i :: st) D :=
  g_getI cx hi hs hf hc hk hin hw hd (g_top hv kk)
theorem g_ialdN {i : Id2} {n j : Nat} {x v : Int32} (cx : Cx X M ids d) (hi : i ∈ ids) (hs : sh i = .inr (0, n, none)) (hx : x = nI j) (hj : j < n) (hn : n < 2 ^ 31) (hd : decode M.2.1 pc = .ok (.iaload, 1)) (hv : D i j = v) (kk : Gk X M ids (pc + 1) L (vi v :: st) D) : Gk X M ids pc L (vi x :: vr i :: st) D :=
  g_iald cx hi hs hx hj hn hd (g_top hv kk)
theorem g_fret {x : Int32} {ty : FieldType} {r : Option AV} {D' : Wd} (cx : Cx X M ids d) (rq : Rq X ids (fun r' D'' => r' = r ∧ D'' = D')) (hr : M.2.2.2 = some ty) (hn : narrow ty (.int x) = .int x) (hd : decode M.2.1 pc = .ok (.ireturn, 1)) (h1 : some (vi x) = r) (h2 : D = D') : Gk X M ids pc L [vi x] D :=
  g_ret cx rq hr hn hd ⟨h1, h2⟩
theorem g_fvret {r : Option AV} {D' : Wd} (cx : Cx X M ids d) (rq : Rq X ids (fun r' D'' => r' = r ∧ D'' = D')) (hr : M.2.2.2 = none) (hd : decode M.2.1 pc = .ok (.return_, 1)) (h1 : none = r) (h2 : D = D') : Gk X M ids pc L [] D :=
  g_vret cx rq hr hd ⟨h1, h2⟩
theorem g_fcallV {N : Mt} {ix n d' ci nf : Nat} {i : Id2} {As rest : List AV} {fs : List (Option Id2)} {T : u_T} {v : AV} {D' : Wd} (cx : Cx X M ids d) (hN : Kn N n) (hM : Fok N ids d' (vr i :: As) D (some v) D') (hi : i ∈ ids) (hs : sh i = .inl (ci, fs)) (hc : vwCl[ci]? = some (N.1.cls, T, nf)) (hw : Cond.methodLink M.1.cls ix N.1 ∈ TB) (hin : Cond.instanceMethod N.1 ∈ TB) (hse : Cond.selects N.1.cls N.1 N.1 ∈ TB) (hn : As.length = n) (hdd : d' + 1 ≤ d) (hr : rcat rest ≤ 8) (hst : st = As.reverse ++ vr i :: rest) (hd : decode M.2.1 pc = .ok (.invokevirtual ix, 3)) (kk : Gk X M ids (pc + 3) L (v :: rest) D') : Gk X M ids pc L st D :=
  g_callV cx hN hM hi hs hc hw hin hse hn hdd hr hst hd (fun r D2 h => by obtain ⟨rfl, rfl⟩ := h; exact kk)
theorem g_fcallVv {N : Mt} {ix n d' ci nf : Nat} {i : Id2} {As rest : List AV} {fs : List (Option Id2)} {T : u_T} {D' : Wd} (cx : Cx X M ids d) (hN : Kn N n) (hM : Fok N ids d' (vr i :: As) D none D') (hi : i ∈ ids) (hs : sh i = .inl (ci, fs)) (hc : vwCl[ci]? = some (N.1.cls, T, nf)) (hw : Cond.methodLink M.1.cls ix N.1 ∈ TB) (hin : Cond.instanceMethod N.1 ∈ TB) (hse : Cond.selects N.1.cls N.1 N.1 ∈ TB) (hn : As.length = n) (hdd : d' + 1 ≤ d) (hr : rcat rest ≤ 8) (hst : st = As.reverse ++ vr i :: rest) (hd : decode M.2.1 pc = .ok (.invokevirtual ix, 3)) (kk : Gk X M ids (pc + 3) L rest D') : Gk X M ids pc L st D :=
  g_callV cx hN hM hi hs hc hw hin hse hn hdd hr hst hd (fun r D2 h => by obtain ⟨rfl, rfl⟩ := h; exact kk)
theorem g_fcallS {N : Mt} {ix n d' : Nat} {As rest : List AV} {v : AV} {D' : Wd} (cx : Cx X M ids d) (hN : Kn N n) (hM : Fok N ids d' As D (some v) D') (hw : Cond.methodLink M.1.cls ix N.1 ∈ TB) (hstt : Cond.static N.1 ∈ TB) (hn : As.length = n) (hdd : d' + 1 ≤ d) (hr : rcat rest ≤ 8) (hst : st = As.reverse ++ rest) (hd : decode M.2.1 pc = .ok (.invokestatic ix, 3)) (kk : Gk X M ids (pc + 3) L (v :: rest) D') : Gk X M ids pc L st D :=
  g_callS cx hN hM hw hstt hn hdd hr hst hd (fun r D2 h => by obtain ⟨rfl, rfl⟩ := h; exact kk)
theorem g_fcallSN {N : Mt} {ix n d' : Nat} {host : String} {As rest : List AV} {v : AV} {D' : Wd} (cx : Cx X M ids d) (hN : Kn N n) (hM : Fok N ids d' As D (some v) D') (hw : (M.1.cls, ix, N.1, host) ∈ nwM) (hstt : Cond.static N.1 ∈ TB) (hn : As.length = n) (hdd : d' + 1 ≤ d) (hr : rcat rest ≤ 8) (hst : st = As.reverse ++ rest) (hd : decode M.2.1 pc = .ok (.invokestatic ix, 3)) (kk : Gk X M ids (pc + 3) L (v :: rest) D') : Gk X M ids pc L st D :=
  g_callSN cx hN hM hw hstt hn hdd hr hst hd (fun r D2 h => by obtain ⟨rfl, rfl⟩ := h; exact kk)
end NAT
