/-! THE ROWS for the ten words (strings that are only read) -/
section STRS
variable {X : Cxt} {M : Mt} {ids : List Id2} {d pc : Nat} {L : Lc} {st : List AV} {D : Wd}
theorem g_callK {N : Mt} {ix n d' i : Nat} {As rest : List AV} {post' : Option AV → Wd → Prop} (cx : Cx X M ids d) (hN : Kn N n) (hM : Mok N ids d' (vr (90, i) :: As) D post') (hcl : N.1.cls = "java/lang/String") (hi : i < 10) (hw : Cond.methodLink M.1.cls ix N.1 ∈ TB) (hin : Cond.instanceMethod N.1 ∈ TB) (hse : Cond.selects N.1.cls N.1 N.1 ∈ TB) (hn : As.length = n) (hdd : d' + 1 ≤ d) (hr : rcat rest ≤ 8) (hst : st = As.reverse ++ vr (90, i) :: rest) (hd : decode M.2.1 pc = .ok (.invokevirtual ix, 3)) (kk : ∀ r D', post' r D' → Gk X M ids (pc + 3) L (r.toList ++ rest) D') : Gk X M ids pc L st D := by
  subst hst
  intro H locs ls hH hL
  obtain ⟨k1, k2, k3, k4, k5, k6⟩ := hN
  have ht := cx.2.2.2.2.2.2.1
  have cw : CallW (xR X) (xs X) (xv X) M.1.cls N.1.cls ix N.1 N.2.1 N.2.2.1 N.2.2.2 (wM N) (rmD d') 0 0 n :=
    ⟨callB_of n ht (wM_good k1) rfl rfl rfl (ht _ k2) (ht _ hw) ⟨k3, k4, k5⟩ ⟨Nat.le_trans hdd cx.2.2.2.2.2.2.2.2.2.1, by have := cx.2.2.2.2.2.2.2.2.2.2.1; show 8 + (N.2.2.1 + 11) + 40 * d' ≤ _; omega⟩, ht _ hin, ht _ hse⟩
  have hrv : ∃ cell : Cell, H[xa X (90, i)]? = some cell ∧ cell.vm.isStatics = false ∧ (xs X).vm.findClass N.1.cls = some cell.cls := by
    rw [hcl]; exact vk_recv cx.2.2.2.2.2.2.2.2.1.2.2.2.1 hi hH.2.2
  exact g_back hH hL (va_runV (As := As.map (cv (xa X))) (b := xa X (90, i)) (rest := rest.map (cv (xa X))) ⟨cx.1, cx.2.1, cx.2.2.1, cx.2.2.2.2.2.1, ht⟩ (hM (xl X) (xG X) (xT X) (xa X)) cw ⟨Px.blind, hrv, Px.go cx hH⟩ rfl (by rw [List.length_map, hn]) hL.1 (by simp [cv]) (rcat_room hr) hd ⟨cx.2.2.2.2.2.2.2.2.2.2.2.1, cx.2.2.2.2.2.2.2.2.2.2.2.2⟩) kk
theorem g_fcallK {N : Mt} {ix n d' i : Nat} {As rest : List AV} {v : AV} {D' : Wd} (cx : Cx X M ids d) (hN : Kn N n) (hM : Fok N ids d' (vr (90, i) :: As) D (some v) D') (hcl : N.1.cls = "java/lang/String") (hi : i < 10) (hw : Cond.methodLink M.1.cls ix N.1 ∈ TB) (hin : Cond.instanceMethod N.1 ∈ TB) (hse : Cond.selects N.1.cls N.1 N.1 ∈ TB) (hn : As.length = n) (hdd : d' + 1 ≤ d) (hr : rcat rest ≤ 8) (hst : st = As.reverse ++ vr (90, i) :: rest) (hd : decode M.2.1 pc = .ok (.invokevirtual ix, 3)) (kk : Gk X M ids (pc + 3) L (v :: rest) D') : Gk X M ids pc L st D :=
  g_callK cx hN hM hcl hi hw hin hse hn hdd hr hst hd (fun r D2 h => by obtain ⟨rfl, rfl⟩ := h; exact kk)
theorem g_fcallSv {N : Mt} {ix n d' : Nat} {As rest : List AV} {D' : Wd} (cx : Cx X M ids d) (hN : Kn N n) (hM : Fok N ids d' As D none D') (hw : Cond.methodLink M.1.cls ix N.1 ∈ TB) (hstt : Cond.static N.1 ∈ TB) (hn : As.length = n) (hdd : d' + 1 ≤ d) (hr : rcat rest ≤ 8) (hst : st = As.reverse ++ rest) (hd : decode M.2.1 pc = .ok (.invokestatic ix, 3)) (kk : Gk X M ids (pc + 3) L rest D') : Gk X M ids pc L st D :=
  g_callS cx hN hM hw hstt hn hdd hr hst hd (fun r D2 h => by obtain ⟨rfl, rfl⟩ := h; exact kk)
theorem g_kval {i ix : Nat} (cx : Cx X M ids d) (hi : i < 10) (hw : Cond.fieldLink M.1.cls ix "java/lang/String" "value" "[B" ∈ TB) (hd : decode M.2.1 pc = .ok (.getfield ix, 3)) (kk : Gk X M ids (pc + 3) L (vr (92, i) :: st) D) : Gk X M ids pc L (vr (90, i) :: st) D :=
  fun H locs ls hH hL => vk_getf cx.1 cx.2.1 (cx.2.2.2.2.2.2.2.2.1.2.2.2.1.1 i hi).2.2.1 hH.2.2 cx.2.2.2.2.2.1 (cx.2.2.2.2.2.2.1 _ hw) (fun _ h => h) hd (kk H locs ls hH hL)
theorem g_kcod {i ix : Nat} (cx : Cx X M ids d) (hi : i < 10) (hw : Cond.fieldLink M.1.cls ix "java/lang/String" "coder" "B" ∈ TB) (hd : decode M.2.1 pc = .ok (.getfield ix, 3)) (kk : Gk X M ids (pc + 3) L (vi (nI 0) :: st) D) : Gk X M ids pc L (vr (90, i) :: st) D :=
  fun H locs ls hH hL => vk_getf cx.1 cx.2.1 (cx.2.2.2.2.2.2.2.2.1.2.2.2.1.1 i hi).2.1 hH.2.2 cx.2.2.2.2.2.1 (cx.2.2.2.2.2.2.1 _ hw) (fun _ h => h) hd (kk H locs ls hH hL)
theorem sLn_w : ∀ i, i < 10 → sLn.getD i 0 = wls i := by decide
theorem sBy_w : ∀ i, i < 10 → ∀ j, j < wls i → (sBy.getD i []).getD j 0 = nI (wbs i j) ∧ wbs i j < 128 := by decide
theorem wls_le : ∀ i, i < 10 → wls i < 7 := by decide
theorem g_klen {i : Nat} (cx : Cx X M ids d) (hi : i < 10) (hd : decode M.2.1 pc = .ok (.arraylength, 1)) (kk : Gk X M ids (pc + 1) L (vi (nI (wls i)) :: st) D) : Gk X M ids pc L (vr (92, i) :: st) D :=
  fun H locs ls hH hL => va_tlen cx.1 cx.2.1 (cx.2.2.2.2.2.2.2.2.1.2.2.2.1.1 i hi).2.2.2 hH.2.2 (v := nI (wls i)) (by rw [sLn_w i hi]; rfl) hd (kk H locs ls hH hL)
theorem g_kald {i j : Nat} {x : Int32} (cx : Cx X M ids d) (hi : i < 10) (hx : x = nI j) (hj : j < wls i) (hd : decode M.2.1 pc = .ok (.baload, 1)) (kk : Gk X M ids (pc + 1) L (vi (nI (wbs i j)) :: st) D) : Gk X M ids pc L (vi x :: vr (92, i) :: st) D := by
  subst hx
  intro H locs ls hH hL
  have hl := wls_le i hi
  exact va_tb cx.1 cx.2.1 (cx.2.2.2.2.2.2.2.2.1.2.2.2.1.1 i hi).2.2.2 hH.2.2 (vp_in_nI (by rw [sLn_w i hi]; exact hj) (by rw [sLn_w i hi]; omega)) (v := .int (nI (wbs i j))) (by rw [nI_clamp (by omega), (sBy_w i hi j hj).1]) hd (kk H locs ls hH hL)
theorem g_sio {ix : Nat} (cx : Cx X M ids d) (hw : Cond.fieldLink M.1.cls ix "jdk/internal/util/Preconditions" "SIOOBE_FORMATTER" "Ljava/util/function/BiFunction;" ∈ TB) (hd : decode M.2.1 pc = .ok (.getstatic ix, 3)) (k1 : Gk X M ids (pc + 3) L (vr (93, 0) :: st) D) (k2 : Gk X M ids (pc + 3) L (vN :: st) D) : Gk X M ids pc L st D :=
  fun H locs ls hH hL => cx.2.2.2.2.2.2.2.2.1.2.2.2.2.2.2.elim (fun z => va_gets cx.1 cx.2.1 z hH.2.2 cx.2.2.2.2.2.1 (cx.2.2.2.2.2.2.1 _ hw) (fun _ h => h) hd (k2 H locs ls hH hL)) (fun z => va_gets cx.1 cx.2.1 z hH.2.2 cx.2.2.2.2.2.1 (cx.2.2.2.2.2.2.1 _ hw) (fun _ h => h) hd (k1 H locs ls hH hL))
theorem g_faret {i : Id2} {rt : FieldType} {r : Option AV} {D' : Wd} (cx : Cx X M ids d) (rq : Rq X ids (fun r' D'' => r' = r ∧ D'' = D')) (hr : M.2.2.2 = some rt) (hrt : (∃ n, rt = .object n) ∨ ∃ t, rt = .array t) (hd : decode M.2.1 pc = .ok (.areturn, 1)) (h1 : some (vr i) = r) (h2 : D = D') : Gk X M ids pc L [vr i] D :=
  g_aret cx rq hr hrt hd ⟨h1, h2⟩
end STRS
theorem ishr0 : ∀ i, i < 10 → nI (wls i) >>> (nI 0 &&& 31) = nI (wls i) := by decide
theorem chr_w : ∀ v, v < 128 → (((nI v &&& nI 255).toUInt32 % 65536).toInt32) = nI v := by decide +kernel
theorem chr_nar : ∀ v, v < 128 → narrow .char (.int (nI v)) = .int (nI v) := by decide +kernel
/-! bytes as the class has them -/
def sbI (c : Nat) : Int32 := if c < 128 then nI c else nI c - nI 256
theorem sbI_i (c : Nat) (h : c < 256) : (sbI c).toInt = if c < 128 then (c : Int) else (c : Int) - 256 := by
  unfold sbI
  by_cases e : c < 128
  · rw [if_pos e, if_pos e, nI_toInt (by omega)]
  · rw [if_neg e, if_neg e, pk_sub_toInt (by omega) (by omega)]; rfl
theorem sb_lt {c m : Nat} (h : c < 256) (hm : m < 128) (hx : sbI c < nI m) : c < m ∨ 128 ≤ c := by
  rw [Int32.lt_iff_toInt_lt, sbI_i c h, nI_toInt (by omega)] at hx
  split at hx <;> omega
theorem sb_ge {c m : Nat} (h : c < 256) (hm : m < 128) (hx : ¬ sbI c < nI m) : m ≤ c ∧ c < 128 := by
  rw [Int32.lt_iff_toInt_lt, sbI_i c h, nI_toInt (by omega)] at hx
  split at hx <;> omega
theorem sb_gt {c m : Nat} (h : c < 256) (hm : m < 128) (hx : nI m < sbI c) : m < c ∧ c < 128 := by
  rw [Int32.lt_iff_toInt_lt, sbI_i c h, nI_toInt (by omega)] at hx
  split at hx <;> omega
theorem sb_le {c m : Nat} (h : c < 256) (hm : m < 128) (hx : ¬ nI m < sbI c) : c ≤ m ∨ 128 ≤ c := by
  rw [Int32.lt_iff_toInt_lt, sbI_i c h, nI_toInt (by omega)] at hx
  split at hx <;> omega
theorem sb_eq {c m : Nat} (h : c < 256) (hm : m < 128) : sbI c = nI m ↔ c = m := by
  constructor
  · intro e
    have : (sbI c).toInt = (nI m).toInt := by rw [e]
    rw [sbI_i c h, nI_toInt (by omega)] at this
    split at this <;> omega
  · intro e; subst e; unfold sbI; rw [if_pos hm]
theorem sb_d {c : Nat} (h : c < 128) : sbI c = nI c := by unfold sbI; rw [if_pos h]
def TXx (D : Wd) (t : Nat → Nat) (len : Nat) : Prop := D (7, 0) 1 = nI len ∧ len ≤ 200 ∧ ∀ j, j < len → D (8, 0) j = sbI (t j) ∧ t j < 256
theorem srt_1 {c : Nat} (h1 : 97 ≤ c) (h2 : c ≤ 122) : srt c = 1 := by unfold srt; rw [if_pos ⟨h1, h2⟩]
theorem srt_2 {c : Nat} (h1 : 48 ≤ c) (h2 : c ≤ 57) : srt c = 2 := by unfold srt; rw [if_neg (by omega), if_pos ⟨h1, h2⟩]
theorem srt_n1 {c : Nat} (h : c < 97 ∨ 122 < c) : ¬ srt c = 1 := by unfold srt; rw [if_neg (by omega)]; split <;> decide
theorem srt_n2 {c : Nat} (h : c < 48 ∨ 57 < c) : ¬ srt c = 2 := by unfold srt; split; decide; rw [if_neg (by omega)]; decide
/-- the token that is read -/
def SE (E : Wd) (p e : Nat) : Wd := upA E (7, 0) (upd (upd (E (7, 0)) 4 (nI p)) 5 (nI e))
theorem SE.s {E : Wd} {p e : Nat} : SE E p e (7, 0) 4 = nI p := by rw [SE, upA_s]; rfl
theorem SE.e {E : Wd} {p e : Nat} : SE E p e (7, 0) 5 = nI e := by rw [SE, upA_s]; rfl
theorem SE.f {E : Wd} {p e q : Nat} (h4 : q ≠ 4) (h5 : q ≠ 5) : SE E p e (7, 0) q = E (7, 0) q := by
  rw [SE, upA_s]; unfold upd; rw [if_neg h5, if_neg h4]
theorem SE.o {E : Wd} {p e : Nat} {i : Id2} (h : i ≠ (7, 0)) : SE E p e i = E i := by rw [SE, upA_n _ _ h]
theorem SE.T {E : Wd} {p e : Nat} {t : Nat → Nat} {len : Nat} (h : TXx E t len) : TXx (SE E p e) t len := ⟨by rw [SE.f (by decide) (by decide)]; exact h.1, h.2.1, by rw [SE.o (by decide)]; exact h.2.2⟩
theorem SE.ws {E : Wd} {p e p' : Nat} : upA (SE E p e) (7, 0) (upd (SE E p e (7, 0)) 4 (nI p')) = SE E p' e := by
  rw [SE, upA_s, upA_up, SE]
  congr 1
  funext q; unfold upd
  by_cases h4 : q = 4
  · subst h4; simp
  · simp [h4]
theorem SE.we {E : Wd} {p e e' : Nat} : upA (SE E p e) (7, 0) (upd (SE E p e (7, 0)) 5 (nI e')) = SE E p e' := by
  rw [SE, upA_s, upA_up, SE]
  congr 1
  funext q; unfold upd
  by_cases h4 : q = 5
  · subst h4; simp
  · simp [h4]
theorem SE.z {E : Wd} {e : Nat} (h : E (7, 0) 5 = nI e) : upA E (7, 0) (upd (E (7, 0)) 4 (nI e)) = SE E e e := by
  rw [SE]
  congr 1
  funext q; unfold upd
  by_cases h5 : q = 5
  · subst h5; simp [h]
  · simp [h5]
theorem tkE_1 {t : Nat → Nat} {len p : Nat} (hp : p ≤ len) (h : rnE t 1 (len - p) p ≠ p) : rnE t 1 (len - p) p = tkE t len p := by
  unfold tkE
  by_cases e : p < len
  · rw [if_pos e]
    rw [show len - p = (len - (p + 1)) + 1 from by omega, rnE] at h ⊢
    by_cases s : srt (t p) = 1
    · rw [if_pos ⟨by decide, s⟩, s]
    · rw [if_neg (fun x => s x.2)] at h; exact absurd rfl h
  · rw [show len - p = 0 from by omega] at h; exact absurd rfl h
theorem tkE_1n {t : Nat → Nat} {len p : Nat} (h : rnE t 1 (len - p) p = p) : p < len → srt (t p) ≠ 1 := by
  intro e s
  rw [show len - p = (len - (p + 1)) + 1 from by omega, rnE, if_pos ⟨by decide, s⟩] at h
  have := (rnE_ok t 1 (len - (p + 1)) (p + 1)).1
  omega
theorem tkE_2 {t : Nat → Nat} {len p : Nat} (hp : p ≤ len) (h : rnE t 2 (len - p) p ≠ p) : rnE t 2 (len - p) p = tkE t len p := by
  unfold tkE
  by_cases e : p < len
  · rw [if_pos e]
    rw [show len - p = (len - (p + 1)) + 1 from by omega, rnE] at h ⊢
    by_cases s : srt (t p) = 2
    · rw [if_pos ⟨by decide, s⟩, s]
    · rw [if_neg (fun x => s x.2)] at h; exact absurd rfl h
  · rw [show len - p = 0 from by omega] at h; exact absurd rfl h
theorem tkE_2n {t : Nat → Nat} {len p : Nat} (h : rnE t 2 (len - p) p = p) : p < len → srt (t p) ≠ 2 := by
  intro e s
  rw [show len - p = (len - (p + 1)) + 1 from by omega, rnE, if_pos ⟨by decide, s⟩] at h
  have := (rnE_ok t 2 (len - (p + 1)) (p + 1)).1
  omega
theorem rnE_0 {t : Nat → Nat} : ∀ fu q, rnE t 0 fu q = q
  | 0, q => rfl
  | fu + 1, q => by rw [rnE, if_neg (fun x => absurd x.1 (by decide))]
theorem tkE_0 {t : Nat → Nat} {len p : Nat} (h : p < len) (h1 : srt (t p) ≠ 1) (h2 : srt (t p) ≠ 2) : p + 1 = tkE t len p := by
  have h0 : srt (t p) = 0 := by
    by_cases a : 97 ≤ t p ∧ t p ≤ 122
    · exact absurd (srt_1 a.1 a.2) h1
    · by_cases b : 48 ≤ t p ∧ t p ≤ 57
      · exact absurd (srt_2 b.1 b.2) h2
      · unfold srt; rw [if_neg a, if_neg b]
  unfold tkE; rw [if_pos h, h0, rnE_0]
theorem tkE_z {t : Nat → Nat} {len p : Nat} (h : ¬ p < len) : p = tkE t len p := by unfold tkE; rw [if_neg h]
theorem rn_y {t : Nat → Nat} {s len q z : Nat} (hs : 0 < s) (hq : q < len) (h : srt (t q) = s) (hm : rnE t s (len - q) q = z) : rnE t s (len - (q + 1)) (q + 1) = z := by
  rw [show len - q = (len - (q + 1)) + 1 from by omega, rnE, if_pos ⟨hs, h⟩] at hm; exact hm
theorem rn_n {t : Nat → Nat} {s len q z : Nat} (hq : q < len) (h : ¬ srt (t q) = s) (hm : rnE t s (len - q) q = z) : q = z := by
  rw [show len - q = (len - (q + 1)) + 1 from by omega, rnE, if_neg (fun x => h x.2)] at hm; exact hm
theorem rn_z {t : Nat → Nat} {s len q z : Nat} (hq : len ≤ q) (hm : rnE t s (len - q) q = z) : q = z := by
  rw [show len - q = 0 from by omega] at hm; exact hm
theorem sk_y {t : Nat → Nat} {len q z : Nat} (hq : q < len) (h : t q = 32) (hm : skB t (len - q) q = z) : skB t (len - (q + 1)) (q + 1) = z := by
  rw [show len - q = (len - (q + 1)) + 1 from by omega, skB, if_pos h] at hm; exact hm
theorem sk_n {t : Nat → Nat} {len q z : Nat} (hq : q < len) (h : ¬ t q = 32) (hm : skB t (len - q) q = z) : q = z := by
  rw [show len - q = (len - (q + 1)) + 1 from by omega, skB, if_neg h] at hm; exact hm
theorem sk_z {t : Nat → Nat} {len q z : Nat} (hq : len ≤ q) (hm : skB t (len - q) q = z) : q = z := by
  rw [show len - q = 0 from by omega] at hm; exact hm
/-- the first word, by the class's order, that the token is -/
def fwX (t : Nat → Nat) (p e : Nat) : Nat → Nat → Option Nat
  | 0, _ => none
  | fu + 1, w => if isD t p e w = true then some w else fwX t p e fu (w + 1)
theorem allB_at {p : Nat → Bool} : ∀ {n : Nat}, allB p n = true → ∀ j, j < n → p j = true
  | 0, _, j, hj => by omega
  | n + 1, h, j, hj => by
    rw [allB, Bool.and_eq_true] at h
    by_cases e : j = n
    · rw [e]; exact h.2
    · exact allB_at h.1 j (by omega)
theorem wd_ne : ∀ w, w < 10 → ∀ v, v < 10 → w ≠ v → wls w = wls v → anyB (fun q => decide (wbs w q ≠ wbs v q)) (wls w) = true := by decide
theorem isD_one {t : Nat → Nat} {p e w v : Nat} (hw : w < 10) (hv : v < 10) (h1 : isD t p e w = true) (h2 : isD t p e v = true) : w = v := by
  by_cases x : w = v
  · exact x
  · unfold isD isW at h1 h2
    rw [Bool.and_eq_true, decide_eq_true_eq] at h1 h2
    obtain ⟨q, hq, hn⟩ := anyB_iff.mp (wd_ne w hw v hv x (h1.1.symm.trans h2.1))
    have a1 := allB_at h1.2 q hq
    have a2 := allB_at h2.2 q (by omega)
    rw [decide_eq_true_eq] at a1 a2 hn
    exact absurd (a1.symm.trans a2) hn
theorem wOf_is {t : Nat → Nat} {p e w : Nat} (h : wOf t p e = some w) : isD t p e w = true := by
  unfold wOf at h
  repeat (split at h; · cases h; assumption)
  cases h
theorem wOf_no {t : Nat → Nat} {p e : Nat} (h : wOf t p e = none) : ∀ w, w < 10 → ¬ isD t p e w = true := by
  intro w hw hd
  unfold wOf at h
  rcases (show w = 0 ∨ w = 1 ∨ w = 2 ∨ w = 3 ∨ w = 4 ∨ w = 5 ∨ w = 6 ∨ w = 7 ∨ w = 8 ∨ w = 9 by omega) with rfl | rfl | rfl | rfl | rfl | rfl | rfl | rfl | rfl | rfl <;> simp [hd] at h <;> (repeat' split at h) <;> cases h
theorem wOf_of {t : Nat → Nat} {p e w : Nat} (hw : w < 10) (h : isD t p e w = true) : wOf t p e = some w := by
  cases hq : wOf t p e with
  | none => exact absurd h (wOf_no hq w hw)
  | some v => rw [isD_one (wOf_lt hq) hw (wOf_is hq) h]
