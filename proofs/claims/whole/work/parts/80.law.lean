/-! THE LAW'S LOOP -/
abbrev mL_law : Mt := (yL_law, cL_law, 4, ret)
/-- the script -/
def Scp (X : Cxt) (L : Nat) (scr : Nat → Int32) : Prop := va_X (xa X (95, 0)) L scr (xs X) (xs X).heap ∧ xa X (95, 0) < (xs X).heap.size ∧ ¬ aA (xa X) idsA (xa X (95, 0)) ∧ L ≤ 2048
section LAWROWS
variable {X : Cxt} {M : Mt} {d pc : Nat} {L : Lc} {st : List AV} {D : Wd}
theorem g_lor {x y : Int64} {ids : List Id2} (cx : Cx X M ids d) (hd : decode M.2.1 pc = .ok (.lor, 1)) (k : Gk X M ids (pc + 1) L (vl (x ||| y) :: st) D) : Gk X M ids pc L (vl y :: vl x :: st) D :=
  fun H locs ls hH hL => lv_lor cx.1 cx.2.1 hd (k H locs ls hH hL)
theorem g_lshl {x : Int64} {y : Int32} {ids : List Id2} (cx : Cx X M ids d) (hd : decode M.2.1 pc = .ok (.lshl, 1)) (k : Gk X M ids (pc + 1) L (vl (x <<< (y.toInt64 &&& 63)) :: st) D) : Gk X M ids pc L (vi y :: vl x :: st) D :=
  fun H locs ls hH hL => lv_lshl cx.1 cx.2.1 hd rfl (k H locs ls hH hL)
theorem g_sld {N j : Nat} {scr : Nat → Int32} (cx : Cx X M idsA d) (hs : Scp X N scr) (hj : j < N) (hd : decode M.2.1 pc = .ok (.iaload, 1)) (k : Gk X M idsA (pc + 1) L (vi (scr j) :: st) D) : Gk X M idsA pc L (vi (nI j) :: vr (95, 0) :: st) D := by
  intro H locs ls hH hL
  have h2 := hs.2.2.2
  refine va_sld cx.1 cx.2.1 hs.1 hs.2.1 hs.2.2.1 hH.2.2 (vp_in_nI hj (by omega)) hd ?_
  rw [nI_clamp (by omega)]
  exact k H locs ls hH hL
theorem g_slen {N : Nat} {scr : Nat → Int32} (cx : Cx X M idsA d) (hs : Scp X N scr) (hd : decode M.2.1 pc = .ok (.arraylength, 1)) (k : Gk X M idsA (pc + 1) L (vi (nI N) :: st) D) : Gk X M idsA pc L (vr (95, 0) :: st) D :=
  fun H locs ls hH hL => va_slen cx.1 cx.2.1 hs.1 hs.2.1 hs.2.2.1 hH.2.2 hd (k H locs ls hH hL)
end LAWROWS
theorem and31 (x : Int32) : ∃ j, j < 32 ∧ x &&& nI 31 = nI j := by
  refine ⟨x.toBitVec.toNat % 32, Nat.mod_lt _ (by decide), ?_⟩
  apply Int32.toBitVec_inj.mp
  show x.toBitVec &&& BitVec.ofNat 32 31 = BitVec.ofNat 32 (x.toBitVec.toNat % 32)
  apply BitVec.eq_of_toNat_eq
  simp only [BitVec.toNat_and, BitVec.toNat_ofNat]
  rw [show (31 % 2 ^ 32 : Nat) = 2 ^ 5 - 1 from by decide, Nat.and_two_pow_sub_one_eq_mod]
  have := x.toBitVec.isLt
  omega
abbrev LL (i : Nat) : Lc := [some (vr (95, 0)), some (vr (0, 0)), some (vr (30, 0)), some (vi (nI i))]

set_option maxRecDepth 100000 in
set_option maxHeartbeats 4000000 in
theorem l_write {X : Cxt} {N : Nat} {scr : Nat → Int32} (cx : Cx X mL_law idsA 20) (hs : Scp X N scr) {i : Nat} (hi : i + 4 ≤ N) {D : Wd} (hR : Rel D) (k : ∀ F, Rel F → Gk X mL_law idsA 910 (LL i) [] F) : Gk X mL_law idsA 152 (LL i) [] D := by
  refine g_aload_n cx dL_law_152 rfl ?_
  refine g_aload_n cx dL_law_153 rfl ?_
  refine g_iload_n cx dL_law_154 rfl ?_
  refine g_iconst (v := nI 1) cx dL_law_155 (by decide) ?_
  refine g_iaddN cx dL_law_156 ?_
  refine g_sld (j := (i + 1)) cx hs (by omega) dL_law_157 ?_
  refine g_i2l cx dL_law_158 ?_
  refine g_bipush (v := nI 32) cx dL_law_159 (by decide) ?_
  refine g_lshl cx dL_law_161 ?_
  refine g_aload_n cx dL_law_162 rfl ?_
  refine g_iload_n cx dL_law_163 rfl ?_
  refine g_iconst (v := nI 2) cx dL_law_164 (by decide) ?_
  refine g_iaddN cx dL_law_165 ?_
  refine g_sld (j := (i + 2)) cx hs (by omega) dL_law_166 ?_
  refine g_i2l cx dL_law_167 ?_
  refine g_ldc2 (v := 4294967295) cx lcL_13 dL_law_168 ?_
  refine g_land cx dL_law_171 ?_
  refine g_lor cx dL_law_172 ?_
  refine g_aload_n cx dL_law_173 rfl ?_
  refine g_iload_n cx dL_law_174 rfl ?_
  refine g_iconst (v := nI 3) cx dL_law_175 (by decide) ?_
  refine g_iaddN cx dL_law_176 ?_
  refine g_sld (j := (i + 3)) cx hs (by omega) dL_law_177 ?_
  obtain ⟨r, Q, h1, h2⟩ := b_write hR (((scr (i + 1)).toInt64 <<< ((nI 32).toInt64 &&& 63)) ||| ((scr (i + 2)).toInt64 &&& 4294967295)) (scr (i + 3))
  refine g_callV (As := [vl (((scr (i + 1)).toInt64 <<< ((nI 32).toInt64 &&& 63)) ||| ((scr (i + 2)).toInt64 &&& 4294967295)), vi (scr (i + 3))]) (rest := []) cx knX5_write h1 a0_0 rfl rfl lmL_15 niX5_write seX5_write rfl (by decide) (Nat.le_of_ble_eq_true rfl) rfl dL_law_178 (fun r0 E hp0 => ?_)
  obtain ⟨rfl, hQ⟩ := hp0
  show Gk X mL_law idsA 181 (LL i) [vi r] E
  refine g_aload_n cx dL_law_181 rfl ?_
  refine g_aload_n cx dL_law_182 rfl ?_
  refine g_iload_n cx dL_law_183 rfl ?_
  refine g_iconst (v := nI 1) cx dL_law_184 (by decide) ?_
  refine g_iaddN cx dL_law_185 ?_
  refine g_sld (j := (i + 1)) cx hs (by omega) dL_law_186 ?_
  refine g_i2l cx dL_law_187 ?_
  refine g_bipush (v := nI 32) cx dL_law_188 (by decide) ?_
  refine g_lshl cx dL_law_190 ?_
  refine g_aload_n cx dL_law_191 rfl ?_
  refine g_iload_n cx dL_law_192 rfl ?_
  refine g_iconst (v := nI 2) cx dL_law_193 (by decide) ?_
  refine g_iaddN cx dL_law_194 ?_
  refine g_sld (j := (i + 2)) cx hs (by omega) dL_law_195 ?_
  refine g_i2l cx dL_law_196 ?_
  refine g_ldc2 (v := 4294967295) cx lcL_13 dL_law_197 ?_
  refine g_land cx dL_law_200 ?_
  refine g_lor cx dL_law_201 ?_
  refine g_aload_n cx dL_law_202 rfl ?_
  refine g_iload_n cx dL_law_203 rfl ?_
  refine g_iconst (v := nI 3) cx dL_law_204 (by decide) ?_
  refine g_iaddN cx dL_law_205 ?_
  refine g_sld (j := (i + 3)) cx hs (by omega) dL_law_206 ?_
  refine g_callV (As := [vl (((scr (i + 1)).toInt64 <<< ((nI 32).toInt64 &&& 63)) ||| ((scr (i + 2)).toInt64 &&& 4294967295)), vi (scr (i + 3))]) (rest := [vi r]) cx knX6_write (h2 E hQ) a30_0 rfl rfl lmL_19 niX6_write seX6_write rfl (by decide) (Nat.le_of_ble_eq_true rfl) rfl dL_law_207 (fun r0 F hp0 => ?_)
  obtain ⟨rfl, hF⟩ := hp0
  show Gk X mL_law idsA 210 (LL i) [vi r, vi r] F
  refine g_icmp_eq (tgt := 910) cx dL_law_210 (by decide) (fun h => ?_) (fun h => ?_)
  · exact k F hF
  · exact absurd rfl h

set_option maxRecDepth 100000 in
set_option maxHeartbeats 4000000 in
theorem l_erase {X : Cxt} {N : Nat} {scr : Nat → Int32} (cx : Cx X mL_law idsA 20) (hs : Scp X N scr) {i : Nat} (hi : i + 4 ≤ N) {D : Wd} (hR : Rel D) (k : ∀ F, Rel F → Gk X mL_law idsA 910 (LL i) [] F) : Gk X mL_law idsA 215 (LL i) [] D := by
  refine g_aload_n cx dL_law_215 rfl ?_
  obtain ⟨r, Q, h1, h2⟩ := b_erase hR
  refine g_callV (As := []) (rest := []) cx knX5_erase h1 a0_0 rfl rfl lmL_20 niX5_erase seX5_erase rfl (by decide) (Nat.le_of_ble_eq_true rfl) rfl dL_law_216 (fun r0 E hp0 => ?_)
  obtain ⟨rfl, hQ⟩ := hp0
  show Gk X mL_law idsA 219 (LL i) [vi r] E
  refine g_aload_n cx dL_law_219 rfl ?_
  refine g_callV (As := []) (rest := [vi r]) cx knX6_erase (h2 E hQ) a30_0 rfl rfl lmL_24 niX6_erase seX6_erase rfl (by decide) (Nat.le_of_ble_eq_true rfl) rfl dL_law_220 (fun r0 F hp0 => ?_)
  obtain ⟨rfl, hF⟩ := hp0
  show Gk X mL_law idsA 223 (LL i) [vi r, vi r] F
  refine g_icmp_eq (tgt := 910) cx dL_law_223 (by decide) (fun h => ?_) (fun h => ?_)
  · exact k F hF
  · exact absurd rfl h

set_option maxRecDepth 100000 in
set_option maxHeartbeats 4000000 in
theorem l_fault {X : Cxt} {N : Nat} {scr : Nat → Int32} (cx : Cx X mL_law idsA 20) (hs : Scp X N scr) {i : Nat} (hi : i + 4 ≤ N) {D : Wd} (hR : Rel D) (k : ∀ F, Rel F → Gk X mL_law idsA 910 (LL i) [] F) : Gk X mL_law idsA 228 (LL i) [] D := by
  refine g_aload_n cx dL_law_228 rfl ?_
  obtain ⟨r, Q, h1, h2⟩ := b_fault hR
  refine g_callV (As := []) (rest := []) cx knX5_fault h1 a0_0 rfl rfl lmL_25 niX5_fault seX5_fault rfl (by decide) (Nat.le_of_ble_eq_true rfl) rfl dL_law_229 (fun r0 E hp0 => ?_)
  obtain ⟨rfl, hQ⟩ := hp0
  show Gk X mL_law idsA 232 (LL i) [vi r] E
  refine g_aload_n cx dL_law_232 rfl ?_
  refine g_callV (As := []) (rest := [vi r]) cx knX6_fault (h2 E hQ) a30_0 rfl rfl lmL_28 niX6_fault seX6_fault rfl (by decide) (Nat.le_of_ble_eq_true rfl) rfl dL_law_233 (fun r0 F hp0 => ?_)
  obtain ⟨rfl, hF⟩ := hp0
  show Gk X mL_law idsA 236 (LL i) [vi r, vi r] F
  refine g_icmp_eq (tgt := 910) cx dL_law_236 (by decide) (fun h => ?_) (fun h => ?_)
  · exact k F hF
  · exact absurd rfl h

set_option maxRecDepth 100000 in
set_option maxHeartbeats 4000000 in
theorem l_house {X : Cxt} {N : Nat} {scr : Nat → Int32} (cx : Cx X mL_law idsA 20) (hs : Scp X N scr) {i : Nat} (hi : i + 4 ≤ N) {D : Wd} (hR : Rel D) (k : ∀ F, Rel F → Gk X mL_law idsA 910 (LL i) [] F) : Gk X mL_law idsA 241 (LL i) [] D := by
  refine g_aload_n cx dL_law_241 rfl ?_
  obtain ⟨r, Q, h1, h2⟩ := b_house hR
  refine g_callV (As := []) (rest := []) cx knX5_house h1 a0_0 rfl rfl lmL_29 niX5_house seX5_house rfl (by decide) (Nat.le_of_ble_eq_true rfl) rfl dL_law_242 (fun r0 E hp0 => ?_)
  obtain ⟨rfl, hQ⟩ := hp0
  show Gk X mL_law idsA 245 (LL i) [vi r] E
  refine g_aload_n cx dL_law_245 rfl ?_
  refine g_callV (As := []) (rest := [vi r]) cx knX6_house (h2 E hQ) a30_0 rfl rfl lmL_32 niX6_house seX6_house rfl (by decide) (Nat.le_of_ble_eq_true rfl) rfl dL_law_246 (fun r0 F hp0 => ?_)
  obtain ⟨rfl, hF⟩ := hp0
  show Gk X mL_law idsA 249 (LL i) [vi r, vi r] F
  refine g_icmp_eq (tgt := 910) cx dL_law_249 (by decide) (fun h => ?_) (fun h => ?_)
  · exact k F hF
  · exact absurd rfl h

set_option maxRecDepth 100000 in
set_option maxHeartbeats 4000000 in
theorem l_leaf {X : Cxt} {N : Nat} {scr : Nat → Int32} (cx : Cx X mL_law idsA 20) (hs : Scp X N scr) {i : Nat} (hi : i + 4 ≤ N) {D : Wd} (hR : Rel D) (k : ∀ F, Rel F → Gk X mL_law idsA 910 (LL i) [] F) : Gk X mL_law idsA 254 (LL i) [] D := by
  refine g_aload_n cx dL_law_254 rfl ?_
  refine g_aload_n cx dL_law_255 rfl ?_
  refine g_iload_n cx dL_law_256 rfl ?_
  refine g_iconst (v := nI 1) cx dL_law_257 (by decide) ?_
  refine g_iaddN cx dL_law_258 ?_
  refine g_sld (j := (i + 1)) cx hs (by omega) dL_law_259 ?_
  refine g_aload_n cx dL_law_260 rfl ?_
  refine g_iload_n cx dL_law_261 rfl ?_
  refine g_iconst (v := nI 2) cx dL_law_262 (by decide) ?_
  refine g_iaddN cx dL_law_263 ?_
  refine g_sld (j := (i + 2)) cx hs (by omega) dL_law_264 ?_
  obtain ⟨r, Q, h1, h2⟩ := b_leaf hR (scr (i + 1)) (scr (i + 2))
  refine g_callV (As := [vi (scr (i + 1)), vi (scr (i + 2))]) (rest := []) cx knX5_leaf h1 a0_0 rfl rfl lmL_33 niX5_leaf seX5_leaf rfl (by decide) (Nat.le_of_ble_eq_true rfl) rfl dL_law_265 (fun r0 E hp0 => ?_)
  obtain ⟨rfl, hQ⟩ := hp0
  show Gk X mL_law idsA 268 (LL i) [vi r] E
  refine g_aload_n cx dL_law_268 rfl ?_
  refine g_aload_n cx dL_law_269 rfl ?_
  refine g_iload_n cx dL_law_270 rfl ?_
  refine g_iconst (v := nI 1) cx dL_law_271 (by decide) ?_
  refine g_iaddN cx dL_law_272 ?_
  refine g_sld (j := (i + 1)) cx hs (by omega) dL_law_273 ?_
  refine g_aload_n cx dL_law_274 rfl ?_
  refine g_iload_n cx dL_law_275 rfl ?_
  refine g_iconst (v := nI 2) cx dL_law_276 (by decide) ?_
  refine g_iaddN cx dL_law_277 ?_
  refine g_sld (j := (i + 2)) cx hs (by omega) dL_law_278 ?_
  refine g_callV (As := [vi (scr (i + 1)), vi (scr (i + 2))]) (rest := [vi r]) cx knX6_leaf (h2 E hQ) a30_0 rfl rfl lmL_37 niX6_leaf seX6_leaf rfl (by decide) (Nat.le_of_ble_eq_true rfl) rfl dL_law_279 (fun r0 F hp0 => ?_)
  obtain ⟨rfl, hF⟩ := hp0
  show Gk X mL_law idsA 282 (LL i) [vi r, vi r] F
  refine g_icmp_eq (tgt := 910) cx dL_law_282 (by decide) (fun h => ?_) (fun h => ?_)
  · exact k F hF
  · exact absurd rfl h

set_option maxRecDepth 100000 in
set_option maxHeartbeats 4000000 in
theorem l_room {X : Cxt} {N : Nat} {scr : Nat → Int32} (cx : Cx X mL_law idsA 20) (hs : Scp X N scr) {i : Nat} (hi : i + 4 ≤ N) {D : Wd} (hR : Rel D) (k : ∀ F, Rel F → Gk X mL_law idsA 910 (LL i) [] F) : Gk X mL_law idsA 287 (LL i) [] D := by
  refine g_aload_n cx dL_law_287 rfl ?_
  refine g_aload_n cx dL_law_288 rfl ?_
  refine g_iload_n cx dL_law_289 rfl ?_
  refine g_iconst (v := nI 1) cx dL_law_290 (by decide) ?_
  refine g_iaddN cx dL_law_291 ?_
  refine g_sld (j := (i + 1)) cx hs (by omega) dL_law_292 ?_
  refine g_aload_n cx dL_law_293 rfl ?_
  refine g_iload_n cx dL_law_294 rfl ?_
  refine g_iconst (v := nI 2) cx dL_law_295 (by decide) ?_
  refine g_iaddN cx dL_law_296 ?_
  refine g_sld (j := (i + 2)) cx hs (by omega) dL_law_297 ?_
  obtain ⟨r, Q, h1, h2⟩ := b_room hR (scr (i + 1)) (scr (i + 2))
  refine g_callV (As := [vi (scr (i + 1)), vi (scr (i + 2))]) (rest := []) cx knX5_room h1 a0_0 rfl rfl lmL_38 niX5_room seX5_room rfl (by decide) (Nat.le_of_ble_eq_true rfl) rfl dL_law_298 (fun r0 E hp0 => ?_)
  obtain ⟨rfl, hQ⟩ := hp0
  show Gk X mL_law idsA 301 (LL i) [vi r] E
  refine g_aload_n cx dL_law_301 rfl ?_
  refine g_aload_n cx dL_law_302 rfl ?_
  refine g_iload_n cx dL_law_303 rfl ?_
  refine g_iconst (v := nI 1) cx dL_law_304 (by decide) ?_
  refine g_iaddN cx dL_law_305 ?_
  refine g_sld (j := (i + 1)) cx hs (by omega) dL_law_306 ?_
  refine g_aload_n cx dL_law_307 rfl ?_
  refine g_iload_n cx dL_law_308 rfl ?_
  refine g_iconst (v := nI 2) cx dL_law_309 (by decide) ?_
  refine g_iaddN cx dL_law_310 ?_
  refine g_sld (j := (i + 2)) cx hs (by omega) dL_law_311 ?_
  refine g_callV (As := [vi (scr (i + 1)), vi (scr (i + 2))]) (rest := [vi r]) cx knX6_room (h2 E hQ) a30_0 rfl rfl lmL_41 niX6_room seX6_room rfl (by decide) (Nat.le_of_ble_eq_true rfl) rfl dL_law_312 (fun r0 F hp0 => ?_)
  obtain ⟨rfl, hF⟩ := hp0
  show Gk X mL_law idsA 315 (LL i) [vi r, vi r] F
  refine g_icmp_eq (tgt := 910) cx dL_law_315 (by decide) (fun h => ?_) (fun h => ?_)
  · exact k F hF
  · exact absurd rfl h

set_option maxRecDepth 100000 in
set_option maxHeartbeats 4000000 in
theorem l_as {X : Cxt} {N : Nat} {scr : Nat → Int32} (cx : Cx X mL_law idsA 20) (hs : Scp X N scr) {i : Nat} (hi : i + 4 ≤ N) {D : Wd} (hR : Rel D) (k : ∀ F, Rel F → Gk X mL_law idsA 910 (LL i) [] F) : Gk X mL_law idsA 320 (LL i) [] D := by
  refine g_aload_n cx dL_law_320 rfl ?_
  refine g_aload_n cx dL_law_321 rfl ?_
  refine g_iload_n cx dL_law_322 rfl ?_
  refine g_iconst (v := nI 1) cx dL_law_323 (by decide) ?_
  refine g_iaddN cx dL_law_324 ?_
  refine g_sld (j := (i + 1)) cx hs (by omega) dL_law_325 ?_
  refine g_aload_n cx dL_law_326 rfl ?_
  refine g_iload_n cx dL_law_327 rfl ?_
  refine g_iconst (v := nI 2) cx dL_law_328 (by decide) ?_
  refine g_iaddN cx dL_law_329 ?_
  refine g_sld (j := (i + 2)) cx hs (by omega) dL_law_330 ?_
  obtain ⟨r, Q, h1, h2⟩ := b_as hR (scr (i + 1)) (scr (i + 2))
  refine g_callV (As := [vi (scr (i + 1)), vi (scr (i + 2))]) (rest := []) cx knX5_as h1 a0_0 rfl rfl lmL_42 niX5_as seX5_as rfl (by decide) (Nat.le_of_ble_eq_true rfl) rfl dL_law_331 (fun r0 E hp0 => ?_)
  obtain ⟨rfl, hQ⟩ := hp0
  show Gk X mL_law idsA 334 (LL i) [vi r] E
  refine g_aload_n cx dL_law_334 rfl ?_
  refine g_aload_n cx dL_law_335 rfl ?_
  refine g_iload_n cx dL_law_336 rfl ?_
  refine g_iconst (v := nI 1) cx dL_law_337 (by decide) ?_
  refine g_iaddN cx dL_law_338 ?_
  refine g_sld (j := (i + 1)) cx hs (by omega) dL_law_339 ?_
  refine g_aload_n cx dL_law_340 rfl ?_
  refine g_iload_n cx dL_law_341 rfl ?_
  refine g_iconst (v := nI 2) cx dL_law_342 (by decide) ?_
  refine g_iaddN cx dL_law_343 ?_
  refine g_sld (j := (i + 2)) cx hs (by omega) dL_law_344 ?_
  refine g_callV (As := [vi (scr (i + 1)), vi (scr (i + 2))]) (rest := [vi r]) cx knX6_as (h2 E hQ) a30_0 rfl rfl lmL_45 niX6_as seX6_as rfl (by decide) (Nat.le_of_ble_eq_true rfl) rfl dL_law_345 (fun r0 F hp0 => ?_)
  obtain ⟨rfl, hF⟩ := hp0
  show Gk X mL_law idsA 348 (LL i) [vi r, vi r] F
  refine g_icmp_eq (tgt := 910) cx dL_law_348 (by decide) (fun h => ?_) (fun h => ?_)
  · exact k F hF
  · exact absurd rfl h

set_option maxRecDepth 100000 in
set_option maxHeartbeats 4000000 in
theorem l_person {X : Cxt} {N : Nat} {scr : Nat → Int32} (cx : Cx X mL_law idsA 20) (hs : Scp X N scr) {i : Nat} (hi : i + 4 ≤ N) {D : Wd} (hR : Rel D) (k : ∀ F, Rel F → Gk X mL_law idsA 910 (LL i) [] F) : Gk X mL_law idsA 353 (LL i) [] D := by
  refine g_aload_n cx dL_law_353 rfl ?_
  refine g_aload_n cx dL_law_354 rfl ?_
  refine g_iload_n cx dL_law_355 rfl ?_
  refine g_iconst (v := nI 1) cx dL_law_356 (by decide) ?_
  refine g_iaddN cx dL_law_357 ?_
  refine g_sld (j := (i + 1)) cx hs (by omega) dL_law_358 ?_
  obtain ⟨r, Q, h1, h2⟩ := b_person hR (scr (i + 1))
  refine g_callV (As := [vi (scr (i + 1))]) (rest := []) cx knX5_person h1 a0_0 rfl rfl lmL_46 niX5_person seX5_person rfl (by decide) (Nat.le_of_ble_eq_true rfl) rfl dL_law_359 (fun r0 E hp0 => ?_)
  obtain ⟨rfl, hQ⟩ := hp0
  show Gk X mL_law idsA 362 (LL i) [vi r] E
  refine g_aload_n cx dL_law_362 rfl ?_
  refine g_aload_n cx dL_law_363 rfl ?_
  refine g_iload_n cx dL_law_364 rfl ?_
  refine g_iconst (v := nI 1) cx dL_law_365 (by decide) ?_
  refine g_iaddN cx dL_law_366 ?_
  refine g_sld (j := (i + 1)) cx hs (by omega) dL_law_367 ?_
  refine g_callV (As := [vi (scr (i + 1))]) (rest := [vi r]) cx knX6_person (h2 E hQ) a30_0 rfl rfl lmL_50 niX6_person seX6_person rfl (by decide) (Nat.le_of_ble_eq_true rfl) rfl dL_law_368 (fun r0 F hp0 => ?_)
  obtain ⟨rfl, hF⟩ := hp0
  show Gk X mL_law idsA 371 (LL i) [vi r, vi r] F
  refine g_icmp_eq (tgt := 910) cx dL_law_371 (by decide) (fun h => ?_) (fun h => ?_)
  · exact k F hF
  · exact absurd rfl h

set_option maxRecDepth 100000 in
set_option maxHeartbeats 4000000 in
theorem l_push {X : Cxt} {N : Nat} {scr : Nat → Int32} (cx : Cx X mL_law idsA 20) (hs : Scp X N scr) {i : Nat} (hi : i + 4 ≤ N) {D : Wd} (hR : Rel D) (k : ∀ F, Rel F → Gk X mL_law idsA 910 (LL i) [] F) : Gk X mL_law idsA 376 (LL i) [] D := by
  refine g_aload_n cx dL_law_376 rfl ?_
  refine g_aload_n cx dL_law_377 rfl ?_
  refine g_iload_n cx dL_law_378 rfl ?_
  refine g_iconst (v := nI 1) cx dL_law_379 (by decide) ?_
  refine g_iaddN cx dL_law_380 ?_
  refine g_sld (j := (i + 1)) cx hs (by omega) dL_law_381 ?_
  refine g_aload_n cx dL_law_382 rfl ?_
  refine g_iload_n cx dL_law_383 rfl ?_
  refine g_iconst (v := nI 2) cx dL_law_384 (by decide) ?_
  refine g_iaddN cx dL_law_385 ?_
  refine g_sld (j := (i + 2)) cx hs (by omega) dL_law_386 ?_
  refine g_aload_n cx dL_law_387 rfl ?_
  refine g_iload_n cx dL_law_388 rfl ?_
  refine g_iconst (v := nI 3) cx dL_law_389 (by decide) ?_
  refine g_iaddN cx dL_law_390 ?_
  refine g_sld (j := (i + 3)) cx hs (by omega) dL_law_391 ?_
  obtain ⟨r, Q, h1, h2⟩ := b_push hR (scr (i + 1)) (scr (i + 2)) (scr (i + 3))
  refine g_callV (As := [vi (scr (i + 1)), vi (scr (i + 2)), vi (scr (i + 3))]) (rest := []) cx knX5_push h1 a0_0 rfl rfl lmL_51 niX5_push seX5_push rfl (by decide) (Nat.le_of_ble_eq_true rfl) rfl dL_law_392 (fun r0 E hp0 => ?_)
  obtain ⟨rfl, hQ⟩ := hp0
  show Gk X mL_law idsA 395 (LL i) [vi r] E
  refine g_aload_n cx dL_law_395 rfl ?_
  refine g_aload_n cx dL_law_396 rfl ?_
  refine g_iload_n cx dL_law_397 rfl ?_
  refine g_iconst (v := nI 1) cx dL_law_398 (by decide) ?_
  refine g_iaddN cx dL_law_399 ?_
  refine g_sld (j := (i + 1)) cx hs (by omega) dL_law_400 ?_
  refine g_aload_n cx dL_law_401 rfl ?_
  refine g_iload_n cx dL_law_402 rfl ?_
  refine g_iconst (v := nI 2) cx dL_law_403 (by decide) ?_
  refine g_iaddN cx dL_law_404 ?_
  refine g_sld (j := (i + 2)) cx hs (by omega) dL_law_405 ?_
  refine g_aload_n cx dL_law_406 rfl ?_
  refine g_iload_n cx dL_law_407 rfl ?_
  refine g_iconst (v := nI 3) cx dL_law_408 (by decide) ?_
  refine g_iaddN cx dL_law_409 ?_
  refine g_sld (j := (i + 3)) cx hs (by omega) dL_law_410 ?_
  refine g_callV (As := [vi (scr (i + 1)), vi (scr (i + 2)), vi (scr (i + 3))]) (rest := [vi r]) cx knX6_push (h2 E hQ) a30_0 rfl rfl lmL_55 niX6_push seX6_push rfl (by decide) (Nat.le_of_ble_eq_true rfl) rfl dL_law_411 (fun r0 F hp0 => ?_)
  obtain ⟨rfl, hF⟩ := hp0
  show Gk X mL_law idsA 414 (LL i) [vi r, vi r] F
  refine g_icmp_eq (tgt := 910) cx dL_law_414 (by decide) (fun h => ?_) (fun h => ?_)
  · exact k F hF
  · exact absurd rfl h

set_option maxRecDepth 100000 in
set_option maxHeartbeats 4000000 in
theorem l_hours {X : Cxt} {N : Nat} {scr : Nat → Int32} (cx : Cx X mL_law idsA 20) (hs : Scp X N scr) {i : Nat} (hi : i + 4 ≤ N) {D : Wd} (hR : Rel D) (k : ∀ F, Rel F → Gk X mL_law idsA 910 (LL i) [] F) : Gk X mL_law idsA 419 (LL i) [] D := by
  refine g_aload_n cx dL_law_419 rfl ?_
  refine g_aload_n cx dL_law_420 rfl ?_
  refine g_iload_n cx dL_law_421 rfl ?_
  refine g_iconst (v := nI 1) cx dL_law_422 (by decide) ?_
  refine g_iaddN cx dL_law_423 ?_
  refine g_sld (j := (i + 1)) cx hs (by omega) dL_law_424 ?_
  obtain ⟨r, Q, h1, h2⟩ := b_hours hR (scr (i + 1))
  refine g_callV (As := [vi (scr (i + 1))]) (rest := []) cx knX5_hours h1 a0_0 rfl rfl lmL_56 niX5_hours seX5_hours rfl (by decide) (Nat.le_of_ble_eq_true rfl) rfl dL_law_425 (fun r0 E hp0 => ?_)
  obtain ⟨rfl, hQ⟩ := hp0
  show Gk X mL_law idsA 428 (LL i) [vi r] E
  refine g_aload_n cx dL_law_428 rfl ?_
  refine g_aload_n cx dL_law_429 rfl ?_
  refine g_iload_n cx dL_law_430 rfl ?_
  refine g_iconst (v := nI 1) cx dL_law_431 (by decide) ?_
  refine g_iaddN cx dL_law_432 ?_
  refine g_sld (j := (i + 1)) cx hs (by omega) dL_law_433 ?_
  refine g_callV (As := [vi (scr (i + 1))]) (rest := [vi r]) cx knX6_hours (h2 E hQ) a30_0 rfl rfl lmL_59 niX6_hours seX6_hours rfl (by decide) (Nat.le_of_ble_eq_true rfl) rfl dL_law_434 (fun r0 F hp0 => ?_)
  obtain ⟨rfl, hF⟩ := hp0
  show Gk X mL_law idsA 437 (LL i) [vi r, vi r] F
  refine g_icmp_eq (tgt := 910) cx dL_law_437 (by decide) (fun h => ?_) (fun h => ?_)
  · exact k F hF
  · exact absurd rfl h

set_option maxRecDepth 100000 in
set_option maxHeartbeats 4000000 in
theorem l_leave {X : Cxt} {N : Nat} {scr : Nat → Int32} (cx : Cx X mL_law idsA 20) (hs : Scp X N scr) {i : Nat} (hi : i + 4 ≤ N) {D : Wd} (hR : Rel D) (k : ∀ F, Rel F → Gk X mL_law idsA 910 (LL i) [] F) : Gk X mL_law idsA 442 (LL i) [] D := by
  refine g_aload_n cx dL_law_442 rfl ?_
  refine g_aload_n cx dL_law_443 rfl ?_
  refine g_iload_n cx dL_law_444 rfl ?_
  refine g_iconst (v := nI 1) cx dL_law_445 (by decide) ?_
  refine g_iaddN cx dL_law_446 ?_
  refine g_sld (j := (i + 1)) cx hs (by omega) dL_law_447 ?_
  obtain ⟨r, Q, h1, h2⟩ := b_leave hR (scr (i + 1))
  refine g_callV (As := [vi (scr (i + 1))]) (rest := []) cx knX5_leave h1 a0_0 rfl rfl lmL_60 niX5_leave seX5_leave rfl (by decide) (Nat.le_of_ble_eq_true rfl) rfl dL_law_448 (fun r0 E hp0 => ?_)
  obtain ⟨rfl, hQ⟩ := hp0
  show Gk X mL_law idsA 451 (LL i) [vi r] E
  refine g_aload_n cx dL_law_451 rfl ?_
  refine g_aload_n cx dL_law_452 rfl ?_
  refine g_iload_n cx dL_law_453 rfl ?_
  refine g_iconst (v := nI 1) cx dL_law_454 (by decide) ?_
  refine g_iaddN cx dL_law_455 ?_
  refine g_sld (j := (i + 1)) cx hs (by omega) dL_law_456 ?_
  refine g_callV (As := [vi (scr (i + 1))]) (rest := [vi r]) cx knX6_leave (h2 E hQ) a30_0 rfl rfl lmL_63 niX6_leave seX6_leave rfl (by decide) (Nat.le_of_ble_eq_true rfl) rfl dL_law_457 (fun r0 F hp0 => ?_)
  obtain ⟨rfl, hF⟩ := hp0
  show Gk X mL_law idsA 460 (LL i) [vi r, vi r] F
  refine g_icmp_eq (tgt := 910) cx dL_law_460 (by decide) (fun h => ?_) (fun h => ?_)
  · exact k F hF
  · exact absurd rfl h

set_option maxRecDepth 100000 in
set_option maxHeartbeats 4000000 in
theorem l_enter {X : Cxt} {N : Nat} {scr : Nat → Int32} (cx : Cx X mL_law idsA 20) (hs : Scp X N scr) {i : Nat} (hi : i + 4 ≤ N) {D : Wd} (hR : Rel D) (k : ∀ F, Rel F → Gk X mL_law idsA 910 (LL i) [] F) : Gk X mL_law idsA 465 (LL i) [] D := by
  refine g_aload_n cx dL_law_465 rfl ?_
  refine g_aload_n cx dL_law_466 rfl ?_
  refine g_iload_n cx dL_law_467 rfl ?_
  refine g_iconst (v := nI 1) cx dL_law_468 (by decide) ?_
  refine g_iaddN cx dL_law_469 ?_
  refine g_sld (j := (i + 1)) cx hs (by omega) dL_law_470 ?_
  refine g_aload_n cx dL_law_471 rfl ?_
  refine g_iload_n cx dL_law_472 rfl ?_
  refine g_iconst (v := nI 2) cx dL_law_473 (by decide) ?_
  refine g_iaddN cx dL_law_474 ?_
  refine g_sld (j := (i + 2)) cx hs (by omega) dL_law_475 ?_
  obtain ⟨r, Q, h1, h2⟩ := b_enter hR (scr (i + 1)) (scr (i + 2))
  refine g_callV (As := [vi (scr (i + 1)), vi (scr (i + 2))]) (rest := []) cx knX5_enter h1 a0_0 rfl rfl lmL_64 niX5_enter seX5_enter rfl (by decide) (Nat.le_of_ble_eq_true rfl) rfl dL_law_476 (fun r0 E hp0 => ?_)
  obtain ⟨rfl, hQ⟩ := hp0
  show Gk X mL_law idsA 479 (LL i) [vi r] E
  refine g_aload_n cx dL_law_479 rfl ?_
  refine g_aload_n cx dL_law_480 rfl ?_
  refine g_iload_n cx dL_law_481 rfl ?_
  refine g_iconst (v := nI 1) cx dL_law_482 (by decide) ?_
  refine g_iaddN cx dL_law_483 ?_
  refine g_sld (j := (i + 1)) cx hs (by omega) dL_law_484 ?_
  refine g_aload_n cx dL_law_485 rfl ?_
  refine g_iload_n cx dL_law_486 rfl ?_
  refine g_iconst (v := nI 2) cx dL_law_487 (by decide) ?_
  refine g_iaddN cx dL_law_488 ?_
  refine g_sld (j := (i + 2)) cx hs (by omega) dL_law_489 ?_
  refine g_callV (As := [vi (scr (i + 1)), vi (scr (i + 2))]) (rest := [vi r]) cx knX6_enter (h2 E hQ) a30_0 rfl rfl lmL_67 niX6_enter seX6_enter rfl (by decide) (Nat.le_of_ble_eq_true rfl) rfl dL_law_490 (fun r0 F hp0 => ?_)
  obtain ⟨rfl, hF⟩ := hp0
  show Gk X mL_law idsA 493 (LL i) [vi r, vi r] F
  refine g_icmp_eq (tgt := 910) cx dL_law_493 (by decide) (fun h => ?_) (fun h => ?_)
  · exact k F hF
  · exact absurd rfl h

set_option maxRecDepth 100000 in
set_option maxHeartbeats 4000000 in
theorem l_keep {X : Cxt} {N : Nat} {scr : Nat → Int32} (cx : Cx X mL_law idsA 20) (hs : Scp X N scr) {i : Nat} (hi : i + 4 ≤ N) {D : Wd} (hR : Rel D) (k : ∀ F, Rel F → Gk X mL_law idsA 910 (LL i) [] F) : Gk X mL_law idsA 498 (LL i) [] D := by
  refine g_aload_n cx dL_law_498 rfl ?_
  refine g_aload_n cx dL_law_499 rfl ?_
  refine g_iload_n cx dL_law_500 rfl ?_
  refine g_iconst (v := nI 1) cx dL_law_501 (by decide) ?_
  refine g_iaddN cx dL_law_502 ?_
  refine g_sld (j := (i + 1)) cx hs (by omega) dL_law_503 ?_
  obtain ⟨r, Q, h1, h2⟩ := b_keep hR (scr (i + 1))
  refine g_callV (As := [vi (scr (i + 1))]) (rest := []) cx knX5_keep h1 a0_0 rfl rfl lmL_68 niX5_keep seX5_keep rfl (by decide) (Nat.le_of_ble_eq_true rfl) rfl dL_law_504 (fun r0 E hp0 => ?_)
  obtain ⟨rfl, hQ⟩ := hp0
  show Gk X mL_law idsA 507 (LL i) [vi r] E
  refine g_aload_n cx dL_law_507 rfl ?_
  refine g_aload_n cx dL_law_508 rfl ?_
  refine g_iload_n cx dL_law_509 rfl ?_
  refine g_iconst (v := nI 1) cx dL_law_510 (by decide) ?_
  refine g_iaddN cx dL_law_511 ?_
  refine g_sld (j := (i + 1)) cx hs (by omega) dL_law_512 ?_
  refine g_callV (As := [vi (scr (i + 1))]) (rest := [vi r]) cx knX6_keep (h2 E hQ) a30_0 rfl rfl lmL_71 niX6_keep seX6_keep rfl (by decide) (Nat.le_of_ble_eq_true rfl) rfl dL_law_513 (fun r0 F hp0 => ?_)
  obtain ⟨rfl, hF⟩ := hp0
  show Gk X mL_law idsA 516 (LL i) [vi r, vi r] F
  refine g_icmp_eq (tgt := 910) cx dL_law_516 (by decide) (fun h => ?_) (fun h => ?_)
  · exact k F hF
  · exact absurd rfl h

set_option maxRecDepth 100000 in
set_option maxHeartbeats 4000000 in
theorem l_back {X : Cxt} {N : Nat} {scr : Nat → Int32} (cx : Cx X mL_law idsA 20) (hs : Scp X N scr) {i : Nat} (hi : i + 4 ≤ N) {D : Wd} (hR : Rel D) (k : ∀ F, Rel F → Gk X mL_law idsA 910 (LL i) [] F) : Gk X mL_law idsA 521 (LL i) [] D := by
  refine g_aload_n cx dL_law_521 rfl ?_
  refine g_aload_n cx dL_law_522 rfl ?_
  refine g_iload_n cx dL_law_523 rfl ?_
  refine g_iconst (v := nI 1) cx dL_law_524 (by decide) ?_
  refine g_iaddN cx dL_law_525 ?_
  refine g_sld (j := (i + 1)) cx hs (by omega) dL_law_526 ?_
  obtain ⟨r, Q, h1, h2⟩ := b_back hR (scr (i + 1))
  refine g_callV (As := [vi (scr (i + 1))]) (rest := []) cx knX5_back h1 a0_0 rfl rfl lmL_72 niX5_back seX5_back rfl (by decide) (Nat.le_of_ble_eq_true rfl) rfl dL_law_527 (fun r0 E hp0 => ?_)
  obtain ⟨rfl, hQ⟩ := hp0
  show Gk X mL_law idsA 530 (LL i) [vi r] E
  refine g_aload_n cx dL_law_530 rfl ?_
  refine g_aload_n cx dL_law_531 rfl ?_
  refine g_iload_n cx dL_law_532 rfl ?_
  refine g_iconst (v := nI 1) cx dL_law_533 (by decide) ?_
  refine g_iaddN cx dL_law_534 ?_
  refine g_sld (j := (i + 1)) cx hs (by omega) dL_law_535 ?_
  refine g_callV (As := [vi (scr (i + 1))]) (rest := [vi r]) cx knX6_back (h2 E hQ) a30_0 rfl rfl lmL_75 niX6_back seX6_back rfl (by decide) (Nat.le_of_ble_eq_true rfl) rfl dL_law_536 (fun r0 F hp0 => ?_)
  obtain ⟨rfl, hF⟩ := hp0
  show Gk X mL_law idsA 539 (LL i) [vi r, vi r] F
  refine g_icmp_eq (tgt := 910) cx dL_law_539 (by decide) (fun h => ?_) (fun h => ?_)
  · exact k F hF
  · exact absurd rfl h

set_option maxRecDepth 100000 in
set_option maxHeartbeats 4000000 in
theorem l_turn {X : Cxt} {N : Nat} {scr : Nat → Int32} (cx : Cx X mL_law idsA 20) (hs : Scp X N scr) {i : Nat} (hi : i + 4 ≤ N) {D : Wd} (hR : Rel D) (k : ∀ F, Rel F → Gk X mL_law idsA 910 (LL i) [] F) : Gk X mL_law idsA 544 (LL i) [] D := by
  refine g_aload_n cx dL_law_544 rfl ?_
  refine g_aload_n cx dL_law_545 rfl ?_
  refine g_iload_n cx dL_law_546 rfl ?_
  refine g_iconst (v := nI 1) cx dL_law_547 (by decide) ?_
  refine g_iaddN cx dL_law_548 ?_
  refine g_sld (j := (i + 1)) cx hs (by omega) dL_law_549 ?_
  refine g_aload_n cx dL_law_550 rfl ?_
  refine g_iload_n cx dL_law_551 rfl ?_
  refine g_iconst (v := nI 2) cx dL_law_552 (by decide) ?_
  refine g_iaddN cx dL_law_553 ?_
  refine g_sld (j := (i + 2)) cx hs (by omega) dL_law_554 ?_
  refine g_aload_n cx dL_law_555 rfl ?_
  refine g_iload_n cx dL_law_556 rfl ?_
  refine g_iconst (v := nI 3) cx dL_law_557 (by decide) ?_
  refine g_iaddN cx dL_law_558 ?_
  refine g_sld (j := (i + 3)) cx hs (by omega) dL_law_559 ?_
  obtain ⟨r, Q, h1, h2⟩ := b_turn hR (scr (i + 1)) (scr (i + 2)) (scr (i + 3))
  refine g_callV (As := [vi (scr (i + 1)), vi (scr (i + 2)), vi (scr (i + 3))]) (rest := []) cx knX5_turn h1 a0_0 rfl rfl lmL_76 niX5_turn seX5_turn rfl (by decide) (Nat.le_of_ble_eq_true rfl) rfl dL_law_560 (fun r0 E hp0 => ?_)
  obtain ⟨rfl, hQ⟩ := hp0
  show Gk X mL_law idsA 563 (LL i) [vi r] E
  refine g_aload_n cx dL_law_563 rfl ?_
  refine g_aload_n cx dL_law_564 rfl ?_
  refine g_iload_n cx dL_law_565 rfl ?_
  refine g_iconst (v := nI 1) cx dL_law_566 (by decide) ?_
  refine g_iaddN cx dL_law_567 ?_
  refine g_sld (j := (i + 1)) cx hs (by omega) dL_law_568 ?_
  refine g_aload_n cx dL_law_569 rfl ?_
  refine g_iload_n cx dL_law_570 rfl ?_
  refine g_iconst (v := nI 2) cx dL_law_571 (by decide) ?_
  refine g_iaddN cx dL_law_572 ?_
  refine g_sld (j := (i + 2)) cx hs (by omega) dL_law_573 ?_
  refine g_aload_n cx dL_law_574 rfl ?_
  refine g_iload_n cx dL_law_575 rfl ?_
  refine g_iconst (v := nI 3) cx dL_law_576 (by decide) ?_
  refine g_iaddN cx dL_law_577 ?_
  refine g_sld (j := (i + 3)) cx hs (by omega) dL_law_578 ?_
  refine g_callV (As := [vi (scr (i + 1)), vi (scr (i + 2)), vi (scr (i + 3))]) (rest := [vi r]) cx knX6_turn (h2 E hQ) a30_0 rfl rfl lmL_79 niX6_turn seX6_turn rfl (by decide) (Nat.le_of_ble_eq_true rfl) rfl dL_law_579 (fun r0 F hp0 => ?_)
  obtain ⟨rfl, hF⟩ := hp0
  show Gk X mL_law idsA 582 (LL i) [vi r, vi r] F
  refine g_icmp_eq (tgt := 910) cx dL_law_582 (by decide) (fun h => ?_) (fun h => ?_)
  · exact k F hF
  · exact absurd rfl h

set_option maxRecDepth 100000 in
set_option maxHeartbeats 4000000 in
theorem l_best {X : Cxt} {N : Nat} {scr : Nat → Int32} (cx : Cx X mL_law idsA 20) (hs : Scp X N scr) {i : Nat} (hi : i + 4 ≤ N) {D : Wd} (hR : Rel D) (k : ∀ F, Rel F → Gk X mL_law idsA 910 (LL i) [] F) : Gk X mL_law idsA 587 (LL i) [] D := by
  refine g_aload_n cx dL_law_587 rfl ?_
  refine g_aload_n cx dL_law_588 rfl ?_
  refine g_iload_n cx dL_law_589 rfl ?_
  refine g_iconst (v := nI 1) cx dL_law_590 (by decide) ?_
  refine g_iaddN cx dL_law_591 ?_
  refine g_sld (j := (i + 1)) cx hs (by omega) dL_law_592 ?_
  refine g_aload_n cx dL_law_593 rfl ?_
  refine g_iload_n cx dL_law_594 rfl ?_
  refine g_iconst (v := nI 2) cx dL_law_595 (by decide) ?_
  refine g_iaddN cx dL_law_596 ?_
  refine g_sld (j := (i + 2)) cx hs (by omega) dL_law_597 ?_
  obtain ⟨r, Q, h1, h2⟩ := b_best hR (scr (i + 1)) (scr (i + 2))
  refine g_callV (As := [vi (scr (i + 1)), vi (scr (i + 2))]) (rest := []) cx knX5_best h1 a0_0 rfl rfl lmL_80 niX5_best seX5_best rfl (by decide) (Nat.le_of_ble_eq_true rfl) rfl dL_law_598 (fun r0 E hp0 => ?_)
  obtain ⟨rfl, hQ⟩ := hp0
  show Gk X mL_law idsA 601 (LL i) [vi r] E
  refine g_aload_n cx dL_law_601 rfl ?_
  refine g_aload_n cx dL_law_602 rfl ?_
  refine g_iload_n cx dL_law_603 rfl ?_
  refine g_iconst (v := nI 1) cx dL_law_604 (by decide) ?_
  refine g_iaddN cx dL_law_605 ?_
  refine g_sld (j := (i + 1)) cx hs (by omega) dL_law_606 ?_
  refine g_aload_n cx dL_law_607 rfl ?_
  refine g_iload_n cx dL_law_608 rfl ?_
  refine g_iconst (v := nI 2) cx dL_law_609 (by decide) ?_
  refine g_iaddN cx dL_law_610 ?_
  refine g_sld (j := (i + 2)) cx hs (by omega) dL_law_611 ?_
  refine g_callV (As := [vi (scr (i + 1)), vi (scr (i + 2))]) (rest := [vi r]) cx knX6_best (h2 E hQ) a30_0 rfl rfl lmL_83 niX6_best seX6_best rfl (by decide) (Nat.le_of_ble_eq_true rfl) rfl dL_law_612 (fun r0 F hp0 => ?_)
  obtain ⟨rfl, hF⟩ := hp0
  show Gk X mL_law idsA 615 (LL i) [vi r, vi r] F
  refine g_icmp_eq (tgt := 910) cx dL_law_615 (by decide) (fun h => ?_) (fun h => ?_)
  · exact k F hF
  · exact absurd rfl h

set_option maxRecDepth 100000 in
set_option maxHeartbeats 4000000 in
theorem l_widest {X : Cxt} {N : Nat} {scr : Nat → Int32} (cx : Cx X mL_law idsA 20) (hs : Scp X N scr) {i : Nat} (hi : i + 4 ≤ N) {D : Wd} (hR : Rel D) (k : ∀ F, Rel F → Gk X mL_law idsA 910 (LL i) [] F) : Gk X mL_law idsA 620 (LL i) [] D := by
  refine g_aload_n cx dL_law_620 rfl ?_
  refine g_aload_n cx dL_law_621 rfl ?_
  refine g_iload_n cx dL_law_622 rfl ?_
  refine g_iconst (v := nI 1) cx dL_law_623 (by decide) ?_
  refine g_iaddN cx dL_law_624 ?_
  refine g_sld (j := (i + 1)) cx hs (by omega) dL_law_625 ?_
  obtain ⟨r, Q, h1, h2⟩ := b_widest hR (scr (i + 1))
  refine g_callV (As := [vi (scr (i + 1))]) (rest := []) cx knX5_widest h1 a0_0 rfl rfl lmL_84 niX5_widest seX5_widest rfl (by decide) (Nat.le_of_ble_eq_true rfl) rfl dL_law_626 (fun r0 E hp0 => ?_)
  obtain ⟨rfl, hQ⟩ := hp0
  show Gk X mL_law idsA 629 (LL i) [vi r] E
  refine g_aload_n cx dL_law_629 rfl ?_
  refine g_aload_n cx dL_law_630 rfl ?_
  refine g_iload_n cx dL_law_631 rfl ?_
  refine g_iconst (v := nI 1) cx dL_law_632 (by decide) ?_
  refine g_iaddN cx dL_law_633 ?_
  refine g_sld (j := (i + 1)) cx hs (by omega) dL_law_634 ?_
  refine g_callV (As := [vi (scr (i + 1))]) (rest := [vi r]) cx knX6_widest (h2 E hQ) a30_0 rfl rfl lmL_87 niX6_widest seX6_widest rfl (by decide) (Nat.le_of_ble_eq_true rfl) rfl dL_law_635 (fun r0 F hp0 => ?_)
  obtain ⟨rfl, hF⟩ := hp0
  show Gk X mL_law idsA 638 (LL i) [vi r, vi r] F
  refine g_icmp_eq (tgt := 910) cx dL_law_638 (by decide) (fun h => ?_) (fun h => ?_)
  · exact k F hF
  · exact absurd rfl h

set_option maxRecDepth 100000 in
set_option maxHeartbeats 4000000 in
theorem l_further {X : Cxt} {N : Nat} {scr : Nat → Int32} (cx : Cx X mL_law idsA 20) (hs : Scp X N scr) {i : Nat} (hi : i + 4 ≤ N) {D : Wd} (hR : Rel D) (k : ∀ F, Rel F → Gk X mL_law idsA 910 (LL i) [] F) : Gk X mL_law idsA 643 (LL i) [] D := by
  refine g_aload_n cx dL_law_643 rfl ?_
  refine g_aload_n cx dL_law_644 rfl ?_
  refine g_iload_n cx dL_law_645 rfl ?_
  refine g_iconst (v := nI 1) cx dL_law_646 (by decide) ?_
  refine g_iaddN cx dL_law_647 ?_
  refine g_sld (j := (i + 1)) cx hs (by omega) dL_law_648 ?_
  obtain ⟨r, Q, h1, h2⟩ := b_further hR (scr (i + 1))
  refine g_callV (As := [vi (scr (i + 1))]) (rest := []) cx knX5_further h1 a0_0 rfl rfl lmL_88 niX5_further seX5_further rfl (by decide) (Nat.le_of_ble_eq_true rfl) rfl dL_law_649 (fun r0 E hp0 => ?_)
  obtain ⟨rfl, hQ⟩ := hp0
  show Gk X mL_law idsA 652 (LL i) [vi r] E
  refine g_aload_n cx dL_law_652 rfl ?_
  refine g_aload_n cx dL_law_653 rfl ?_
  refine g_iload_n cx dL_law_654 rfl ?_
  refine g_iconst (v := nI 1) cx dL_law_655 (by decide) ?_
  refine g_iaddN cx dL_law_656 ?_
  refine g_sld (j := (i + 1)) cx hs (by omega) dL_law_657 ?_
  refine g_callV (As := [vi (scr (i + 1))]) (rest := [vi r]) cx knX6_further (h2 E hQ) a30_0 rfl rfl lmL_91 niX6_further seX6_further rfl (by decide) (Nat.le_of_ble_eq_true rfl) rfl dL_law_658 (fun r0 F hp0 => ?_)
  obtain ⟨rfl, hF⟩ := hp0
  show Gk X mL_law idsA 661 (LL i) [vi r, vi r] F
  refine g_icmp_eq (tgt := 910) cx dL_law_661 (by decide) (fun h => ?_) (fun h => ?_)
  · exact k F hF
  · exact absurd rfl h

set_option maxRecDepth 100000 in
set_option maxHeartbeats 4000000 in
theorem l_share {X : Cxt} {N : Nat} {scr : Nat → Int32} (cx : Cx X mL_law idsA 20) (hs : Scp X N scr) {i : Nat} (hi : i + 4 ≤ N) {D : Wd} (hR : Rel D) (k : ∀ F, Rel F → Gk X mL_law idsA 910 (LL i) [] F) : Gk X mL_law idsA 666 (LL i) [] D := by
  refine g_aload_n cx dL_law_666 rfl ?_
  refine g_aload_n cx dL_law_667 rfl ?_
  refine g_iload_n cx dL_law_668 rfl ?_
  refine g_iconst (v := nI 1) cx dL_law_669 (by decide) ?_
  refine g_iaddN cx dL_law_670 ?_
  refine g_sld (j := (i + 1)) cx hs (by omega) dL_law_671 ?_
  refine g_aload_n cx dL_law_672 rfl ?_
  refine g_iload_n cx dL_law_673 rfl ?_
  refine g_iconst (v := nI 2) cx dL_law_674 (by decide) ?_
  refine g_iaddN cx dL_law_675 ?_
  refine g_sld (j := (i + 2)) cx hs (by omega) dL_law_676 ?_
  obtain ⟨r, Q, h1, h2⟩ := b_share hR (scr (i + 1)) (scr (i + 2))
  refine g_callV (As := [vi (scr (i + 1)), vi (scr (i + 2))]) (rest := []) cx knX5_share h1 a0_0 rfl rfl lmL_92 niX5_share seX5_share rfl (by decide) (Nat.le_of_ble_eq_true rfl) rfl dL_law_677 (fun r0 E hp0 => ?_)
  obtain ⟨rfl, hQ⟩ := hp0
  show Gk X mL_law idsA 680 (LL i) [vi r] E
  refine g_aload_n cx dL_law_680 rfl ?_
  refine g_aload_n cx dL_law_681 rfl ?_
  refine g_iload_n cx dL_law_682 rfl ?_
  refine g_iconst (v := nI 1) cx dL_law_683 (by decide) ?_
  refine g_iaddN cx dL_law_684 ?_
  refine g_sld (j := (i + 1)) cx hs (by omega) dL_law_685 ?_
  refine g_aload_n cx dL_law_686 rfl ?_
  refine g_iload_n cx dL_law_687 rfl ?_
  refine g_iconst (v := nI 2) cx dL_law_688 (by decide) ?_
  refine g_iaddN cx dL_law_689 ?_
  refine g_sld (j := (i + 2)) cx hs (by omega) dL_law_690 ?_
  refine g_callV (As := [vi (scr (i + 1)), vi (scr (i + 2))]) (rest := [vi r]) cx knX6_share (h2 E hQ) a30_0 rfl rfl lmL_95 niX6_share seX6_share rfl (by decide) (Nat.le_of_ble_eq_true rfl) rfl dL_law_691 (fun r0 F hp0 => ?_)
  obtain ⟨rfl, hF⟩ := hp0
  show Gk X mL_law idsA 694 (LL i) [vi r, vi r] F
  refine g_icmp_eq (tgt := 910) cx dL_law_694 (by decide) (fun h => ?_) (fun h => ?_)
  · exact k F hF
  · exact absurd rfl h

set_option maxRecDepth 100000 in
set_option maxHeartbeats 4000000 in
theorem l_errands {X : Cxt} {N : Nat} {scr : Nat → Int32} (cx : Cx X mL_law idsA 20) (hs : Scp X N scr) {i : Nat} (hi : i + 4 ≤ N) {D : Wd} (hR : Rel D) (k : ∀ F, Rel F → Gk X mL_law idsA 910 (LL i) [] F) : Gk X mL_law idsA 699 (LL i) [] D := by
  refine g_aload_n cx dL_law_699 rfl ?_
  refine g_aload_n cx dL_law_700 rfl ?_
  refine g_iload_n cx dL_law_701 rfl ?_
  refine g_iconst (v := nI 1) cx dL_law_702 (by decide) ?_
  refine g_iaddN cx dL_law_703 ?_
  refine g_sld (j := (i + 1)) cx hs (by omega) dL_law_704 ?_
  refine g_aload_n cx dL_law_705 rfl ?_
  refine g_iload_n cx dL_law_706 rfl ?_
  refine g_iconst (v := nI 2) cx dL_law_707 (by decide) ?_
  refine g_iaddN cx dL_law_708 ?_
  refine g_sld (j := (i + 2)) cx hs (by omega) dL_law_709 ?_
  refine g_aload_n cx dL_law_710 rfl ?_
  refine g_iload_n cx dL_law_711 rfl ?_
  refine g_iconst (v := nI 3) cx dL_law_712 (by decide) ?_
  refine g_iaddN cx dL_law_713 ?_
  refine g_sld (j := (i + 3)) cx hs (by omega) dL_law_714 ?_
  obtain ⟨r, Q, h1, h2⟩ := b_errands hR (scr (i + 1)) (scr (i + 2)) (scr (i + 3))
  refine g_callV (As := [vi (scr (i + 1)), vi (scr (i + 2)), vi (scr (i + 3))]) (rest := []) cx knX5_errands h1 a0_0 rfl rfl lmL_96 niX5_errands seX5_errands rfl (by decide) (Nat.le_of_ble_eq_true rfl) rfl dL_law_715 (fun r0 E hp0 => ?_)
  obtain ⟨rfl, hQ⟩ := hp0
  show Gk X mL_law idsA 718 (LL i) [vi r] E
  refine g_aload_n cx dL_law_718 rfl ?_
  refine g_aload_n cx dL_law_719 rfl ?_
  refine g_iload_n cx dL_law_720 rfl ?_
  refine g_iconst (v := nI 1) cx dL_law_721 (by decide) ?_
  refine g_iaddN cx dL_law_722 ?_
  refine g_sld (j := (i + 1)) cx hs (by omega) dL_law_723 ?_
  refine g_aload_n cx dL_law_724 rfl ?_
  refine g_iload_n cx dL_law_725 rfl ?_
  refine g_iconst (v := nI 2) cx dL_law_726 (by decide) ?_
  refine g_iaddN cx dL_law_727 ?_
  refine g_sld (j := (i + 2)) cx hs (by omega) dL_law_728 ?_
  refine g_aload_n cx dL_law_729 rfl ?_
  refine g_iload_n cx dL_law_730 rfl ?_
  refine g_iconst (v := nI 3) cx dL_law_731 (by decide) ?_
  refine g_iaddN cx dL_law_732 ?_
  refine g_sld (j := (i + 3)) cx hs (by omega) dL_law_733 ?_
  refine g_callV (As := [vi (scr (i + 1)), vi (scr (i + 2)), vi (scr (i + 3))]) (rest := [vi r]) cx knX6_errands (h2 E hQ) a30_0 rfl rfl lmL_99 niX6_errands seX6_errands rfl (by decide) (Nat.le_of_ble_eq_true rfl) rfl dL_law_734 (fun r0 F hp0 => ?_)
  obtain ⟨rfl, hF⟩ := hp0
  show Gk X mL_law idsA 737 (LL i) [vi r, vi r] F
  refine g_icmp_eq (tgt := 910) cx dL_law_737 (by decide) (fun h => ?_) (fun h => ?_)
  · exact k F hF
  · exact absurd rfl h

set_option maxRecDepth 100000 in
set_option maxHeartbeats 4000000 in
theorem l_slam {X : Cxt} {N : Nat} {scr : Nat → Int32} (cx : Cx X mL_law idsA 20) (hs : Scp X N scr) {i : Nat} (hi : i + 4 ≤ N) {D : Wd} (hR : Rel D) (k : ∀ F, Rel F → Gk X mL_law idsA 910 (LL i) [] F) : Gk X mL_law idsA 742 (LL i) [] D := by
  refine g_aload_n cx dL_law_742 rfl ?_
  refine g_aload_n cx dL_law_743 rfl ?_
  refine g_iload_n cx dL_law_744 rfl ?_
  refine g_iconst (v := nI 1) cx dL_law_745 (by decide) ?_
  refine g_iaddN cx dL_law_746 ?_
  refine g_sld (j := (i + 1)) cx hs (by omega) dL_law_747 ?_
  refine g_aload_n cx dL_law_748 rfl ?_
  refine g_iload_n cx dL_law_749 rfl ?_
  refine g_iconst (v := nI 2) cx dL_law_750 (by decide) ?_
  refine g_iaddN cx dL_law_751 ?_
  refine g_sld (j := (i + 2)) cx hs (by omega) dL_law_752 ?_
  refine g_aload_n cx dL_law_753 rfl ?_
  refine g_iload_n cx dL_law_754 rfl ?_
  refine g_iconst (v := nI 3) cx dL_law_755 (by decide) ?_
  refine g_iaddN cx dL_law_756 ?_
  refine g_sld (j := (i + 3)) cx hs (by omega) dL_law_757 ?_
  obtain ⟨r, Q, h1, h2⟩ := b_slam hR (scr (i + 1)) (scr (i + 2)) (scr (i + 3))
  refine g_callV (As := [vi (scr (i + 1)), vi (scr (i + 2)), vi (scr (i + 3))]) (rest := []) cx knX5_slam h1 a0_0 rfl rfl lmL_100 niX5_slam seX5_slam rfl (by decide) (Nat.le_of_ble_eq_true rfl) rfl dL_law_758 (fun r0 E hp0 => ?_)
  obtain ⟨rfl, hQ⟩ := hp0
  show Gk X mL_law idsA 761 (LL i) [vi r] E
  refine g_aload_n cx dL_law_761 rfl ?_
  refine g_aload_n cx dL_law_762 rfl ?_
  refine g_iload_n cx dL_law_763 rfl ?_
  refine g_iconst (v := nI 1) cx dL_law_764 (by decide) ?_
  refine g_iaddN cx dL_law_765 ?_
  refine g_sld (j := (i + 1)) cx hs (by omega) dL_law_766 ?_
  refine g_aload_n cx dL_law_767 rfl ?_
  refine g_iload_n cx dL_law_768 rfl ?_
  refine g_iconst (v := nI 2) cx dL_law_769 (by decide) ?_
  refine g_iaddN cx dL_law_770 ?_
  refine g_sld (j := (i + 2)) cx hs (by omega) dL_law_771 ?_
  refine g_aload_n cx dL_law_772 rfl ?_
  refine g_iload_n cx dL_law_773 rfl ?_
  refine g_iconst (v := nI 3) cx dL_law_774 (by decide) ?_
  refine g_iaddN cx dL_law_775 ?_
  refine g_sld (j := (i + 3)) cx hs (by omega) dL_law_776 ?_
  refine g_callV (As := [vi (scr (i + 1)), vi (scr (i + 2)), vi (scr (i + 3))]) (rest := [vi r]) cx knX6_slam (h2 E hQ) a30_0 rfl rfl lmL_103 niX6_slam seX6_slam rfl (by decide) (Nat.le_of_ble_eq_true rfl) rfl dL_law_777 (fun r0 F hp0 => ?_)
  obtain ⟨rfl, hF⟩ := hp0
  show Gk X mL_law idsA 780 (LL i) [vi r, vi r] F
  refine g_icmp_eq (tgt := 910) cx dL_law_780 (by decide) (fun h => ?_) (fun h => ?_)
  · exact k F hF
  · exact absurd rfl h

set_option maxRecDepth 100000 in
set_option maxHeartbeats 4000000 in
theorem l_fire {X : Cxt} {N : Nat} {scr : Nat → Int32} (cx : Cx X mL_law idsA 20) (hs : Scp X N scr) {i : Nat} (hi : i + 4 ≤ N) {D : Wd} (hR : Rel D) (k : ∀ F, Rel F → Gk X mL_law idsA 910 (LL i) [] F) : Gk X mL_law idsA 785 (LL i) [] D := by
  refine g_aload_n cx dL_law_785 rfl ?_
  refine g_aload_n cx dL_law_786 rfl ?_
  refine g_iload_n cx dL_law_787 rfl ?_
  refine g_iconst (v := nI 1) cx dL_law_788 (by decide) ?_
  refine g_iaddN cx dL_law_789 ?_
  refine g_sld (j := (i + 1)) cx hs (by omega) dL_law_790 ?_
  refine g_aload_n cx dL_law_791 rfl ?_
  refine g_iload_n cx dL_law_792 rfl ?_
  refine g_iconst (v := nI 2) cx dL_law_793 (by decide) ?_
  refine g_iaddN cx dL_law_794 ?_
  refine g_sld (j := (i + 2)) cx hs (by omega) dL_law_795 ?_
  obtain ⟨r, Q, h1, h2⟩ := b_fire hR (scr (i + 1)) (scr (i + 2))
  refine g_callV (As := [vi (scr (i + 1)), vi (scr (i + 2))]) (rest := []) cx knX5_fire h1 a0_0 rfl rfl lmL_104 niX5_fire seX5_fire rfl (by decide) (Nat.le_of_ble_eq_true rfl) rfl dL_law_796 (fun r0 E hp0 => ?_)
  obtain ⟨rfl, hQ⟩ := hp0
  show Gk X mL_law idsA 799 (LL i) [vi r] E
  refine g_aload_n cx dL_law_799 rfl ?_
  refine g_aload_n cx dL_law_800 rfl ?_
  refine g_iload_n cx dL_law_801 rfl ?_
  refine g_iconst (v := nI 1) cx dL_law_802 (by decide) ?_
  refine g_iaddN cx dL_law_803 ?_
  refine g_sld (j := (i + 1)) cx hs (by omega) dL_law_804 ?_
  refine g_aload_n cx dL_law_805 rfl ?_
  refine g_iload_n cx dL_law_806 rfl ?_
  refine g_iconst (v := nI 2) cx dL_law_807 (by decide) ?_
  refine g_iaddN cx dL_law_808 ?_
  refine g_sld (j := (i + 2)) cx hs (by omega) dL_law_809 ?_
  refine g_callV (As := [vi (scr (i + 1)), vi (scr (i + 2))]) (rest := [vi r]) cx knX6_fire (h2 E hQ) a30_0 rfl rfl lmL_107 niX6_fire seX6_fire rfl (by decide) (Nat.le_of_ble_eq_true rfl) rfl dL_law_810 (fun r0 F hp0 => ?_)
  obtain ⟨rfl, hF⟩ := hp0
  show Gk X mL_law idsA 813 (LL i) [vi r, vi r] F
  refine g_icmp_eq (tgt := 910) cx dL_law_813 (by decide) (fun h => ?_) (fun h => ?_)
  · exact k F hF
  · exact absurd rfl h

set_option maxRecDepth 100000 in
set_option maxHeartbeats 4000000 in
theorem l_seen {X : Cxt} {N : Nat} {scr : Nat → Int32} (cx : Cx X mL_law idsA 20) (hs : Scp X N scr) {i : Nat} (hi : i + 4 ≤ N) {D : Wd} (hR : Rel D) (k : ∀ F, Rel F → Gk X mL_law idsA 910 (LL i) [] F) : Gk X mL_law idsA 818 (LL i) [] D := by
  refine g_aload_n cx dL_law_818 rfl ?_
  refine g_aload_n cx dL_law_819 rfl ?_
  refine g_iload_n cx dL_law_820 rfl ?_
  refine g_iconst (v := nI 1) cx dL_law_821 (by decide) ?_
  refine g_iaddN cx dL_law_822 ?_
  refine g_sld (j := (i + 1)) cx hs (by omega) dL_law_823 ?_
  refine g_aload_n cx dL_law_824 rfl ?_
  refine g_iload_n cx dL_law_825 rfl ?_
  refine g_iconst (v := nI 2) cx dL_law_826 (by decide) ?_
  refine g_iaddN cx dL_law_827 ?_
  refine g_sld (j := (i + 2)) cx hs (by omega) dL_law_828 ?_
  obtain ⟨r, Q, h1, h2⟩ := b_seen hR (scr (i + 1)) (scr (i + 2))
  refine g_callV (As := [vi (scr (i + 1)), vi (scr (i + 2))]) (rest := []) cx knX5_seen h1 a0_0 rfl rfl lmL_108 niX5_seen seX5_seen rfl (by decide) (Nat.le_of_ble_eq_true rfl) rfl dL_law_829 (fun r0 E hp0 => ?_)
  obtain ⟨rfl, hQ⟩ := hp0
  show Gk X mL_law idsA 832 (LL i) [vi r] E
  refine g_aload_n cx dL_law_832 rfl ?_
  refine g_aload_n cx dL_law_833 rfl ?_
  refine g_iload_n cx dL_law_834 rfl ?_
  refine g_iconst (v := nI 1) cx dL_law_835 (by decide) ?_
  refine g_iaddN cx dL_law_836 ?_
  refine g_sld (j := (i + 1)) cx hs (by omega) dL_law_837 ?_
  refine g_aload_n cx dL_law_838 rfl ?_
  refine g_iload_n cx dL_law_839 rfl ?_
  refine g_iconst (v := nI 2) cx dL_law_840 (by decide) ?_
  refine g_iaddN cx dL_law_841 ?_
  refine g_sld (j := (i + 2)) cx hs (by omega) dL_law_842 ?_
  refine g_callV (As := [vi (scr (i + 1)), vi (scr (i + 2))]) (rest := [vi r]) cx knX6_seen (h2 E hQ) a30_0 rfl rfl lmL_111 niX6_seen seX6_seen rfl (by decide) (Nat.le_of_ble_eq_true rfl) rfl dL_law_843 (fun r0 F hp0 => ?_)
  obtain ⟨rfl, hF⟩ := hp0
  show Gk X mL_law idsA 846 (LL i) [vi r, vi r] F
  refine g_icmp_eq (tgt := 910) cx dL_law_846 (by decide) (fun h => ?_) (fun h => ?_)
  · exact k F hF
  · exact absurd rfl h

set_option maxRecDepth 100000 in
set_option maxHeartbeats 4000000 in
theorem l_forget {X : Cxt} {N : Nat} {scr : Nat → Int32} (cx : Cx X mL_law idsA 20) (hs : Scp X N scr) {i : Nat} (hi : i + 4 ≤ N) {D : Wd} (hR : Rel D) (k : ∀ F, Rel F → Gk X mL_law idsA 910 (LL i) [] F) : Gk X mL_law idsA 851 (LL i) [] D := by
  refine g_aload_n cx dL_law_851 rfl ?_
  obtain ⟨r, Q, h1, h2⟩ := b_forget hR
  refine g_callV (As := []) (rest := []) cx knX5_forget h1 a0_0 rfl rfl lmL_112 niX5_forget seX5_forget rfl (by decide) (Nat.le_of_ble_eq_true rfl) rfl dL_law_852 (fun r0 E hp0 => ?_)
  obtain ⟨rfl, hQ⟩ := hp0
  show Gk X mL_law idsA 855 (LL i) [vi r] E
  refine g_aload_n cx dL_law_855 rfl ?_
  refine g_callV (As := []) (rest := [vi r]) cx knX6_forget (h2 E hQ) a30_0 rfl rfl lmL_115 niX6_forget seX6_forget rfl (by decide) (Nat.le_of_ble_eq_true rfl) rfl dL_law_856 (fun r0 F hp0 => ?_)
  obtain ⟨rfl, hF⟩ := hp0
  show Gk X mL_law idsA 859 (LL i) [vi r, vi r] F
  refine g_icmp_eq (tgt := 910) cx dL_law_859 (by decide) (fun h => ?_) (fun h => ?_)
  · exact k F hF
  · exact absurd rfl h

set_option maxRecDepth 100000 in
set_option maxHeartbeats 4000000 in
theorem l_least {X : Cxt} {N : Nat} {scr : Nat → Int32} (cx : Cx X mL_law idsA 20) (hs : Scp X N scr) {i : Nat} (hi : i + 4 ≤ N) {D : Wd} (hR : Rel D) (k : ∀ F, Rel F → Gk X mL_law idsA 910 (LL i) [] F) : Gk X mL_law idsA 864 (LL i) [] D := by
  refine g_aload_n cx dL_law_864 rfl ?_
  refine g_aload_n cx dL_law_865 rfl ?_
  refine g_iload_n cx dL_law_866 rfl ?_
  refine g_iconst (v := nI 1) cx dL_law_867 (by decide) ?_
  refine g_iaddN cx dL_law_868 ?_
  refine g_sld (j := (i + 1)) cx hs (by omega) dL_law_869 ?_
  obtain ⟨r, Q, h1, h2⟩ := b_least hR (scr (i + 1))
  refine g_callV (As := [vi (scr (i + 1))]) (rest := []) cx knX5_least h1 a0_0 rfl rfl lmL_116 niX5_least seX5_least rfl (by decide) (Nat.le_of_ble_eq_true rfl) rfl dL_law_870 (fun r0 E hp0 => ?_)
  obtain ⟨rfl, hQ⟩ := hp0
  show Gk X mL_law idsA 873 (LL i) [vi r] E
  refine g_aload_n cx dL_law_873 rfl ?_
  refine g_aload_n cx dL_law_874 rfl ?_
  refine g_iload_n cx dL_law_875 rfl ?_
  refine g_iconst (v := nI 1) cx dL_law_876 (by decide) ?_
  refine g_iaddN cx dL_law_877 ?_
  refine g_sld (j := (i + 1)) cx hs (by omega) dL_law_878 ?_
  refine g_callV (As := [vi (scr (i + 1))]) (rest := [vi r]) cx knX6_least (h2 E hQ) a30_0 rfl rfl lmL_119 niX6_least seX6_least rfl (by decide) (Nat.le_of_ble_eq_true rfl) rfl dL_law_879 (fun r0 F hp0 => ?_)
  obtain ⟨rfl, hF⟩ := hp0
  show Gk X mL_law idsA 882 (LL i) [vi r, vi r] F
  refine g_icmp_eq (tgt := 910) cx dL_law_882 (by decide) (fun h => ?_) (fun h => ?_)
  · exact k F hF
  · exact absurd rfl h

set_option maxRecDepth 100000 in
set_option maxHeartbeats 4000000 in
theorem l_count {X : Cxt} {N : Nat} {scr : Nat → Int32} (cx : Cx X mL_law idsA 20) (hs : Scp X N scr) {i : Nat} (hi : i + 4 ≤ N) {D : Wd} (hR : Rel D) (k : ∀ F, Rel F → Gk X mL_law idsA 910 (LL i) [] F) : Gk X mL_law idsA 887 (LL i) [] D := by
  refine g_aload_n cx dL_law_887 rfl ?_
  refine g_aload_n cx dL_law_888 rfl ?_
  refine g_iload_n cx dL_law_889 rfl ?_
  refine g_iconst (v := nI 1) cx dL_law_890 (by decide) ?_
  refine g_iaddN cx dL_law_891 ?_
  refine g_sld (j := (i + 1)) cx hs (by omega) dL_law_892 ?_
  obtain ⟨r, Q, h1, h2⟩ := b_count hR (scr (i + 1))
  refine g_callV (As := [vi (scr (i + 1))]) (rest := []) cx knX5_count h1 a0_0 rfl rfl lmL_120 niX5_count seX5_count rfl (by decide) (Nat.le_of_ble_eq_true rfl) rfl dL_law_893 (fun r0 E hp0 => ?_)
  obtain ⟨rfl, hQ⟩ := hp0
  show Gk X mL_law idsA 896 (LL i) [vi r] E
  refine g_aload_n cx dL_law_896 rfl ?_
  refine g_aload_n cx dL_law_897 rfl ?_
  refine g_iload_n cx dL_law_898 rfl ?_
  refine g_iconst (v := nI 1) cx dL_law_899 (by decide) ?_
  refine g_iaddN cx dL_law_900 ?_
  refine g_sld (j := (i + 1)) cx hs (by omega) dL_law_901 ?_
  refine g_callV (As := [vi (scr (i + 1))]) (rest := [vi r]) cx knX6_count (h2 E hQ) a30_0 rfl rfl lmL_123 niX6_count seX6_count rfl (by decide) (Nat.le_of_ble_eq_true rfl) rfl dL_law_902 (fun r0 F hp0 => ?_)
  obtain ⟨rfl, hF⟩ := hp0
  show Gk X mL_law idsA 905 (LL i) [vi r, vi r] F
  refine g_icmp_eq (tgt := 910) cx dL_law_905 (by decide) (fun h => ?_) (fun h => ?_)
  · exact k F hF
  · exact absurd rfl h
set_option maxRecDepth 100000 in
set_option maxHeartbeats 4000000 in
theorem l_loop {X : Cxt} {N : Nat} {scr : Nat → Int32} (cx : Cx X mL_law idsA 20) (hs : Scp X N scr) (hend : ∀ (i : Nat) (D : Wd), Gk X mL_law idsA 917 (LL i) [vi (nI 1)] D) : ∀ (fu i : Nat) (D : Wd), N - i < fu → i ≤ N → Rel D → Gk X mL_law idsA 18 (LL i) [] D := by
  intro fu
  induction fu with
  | zero => intro i D h; exact absurd h (Nat.not_lt_zero _)
  | succ fu ih =>
    intro i D hfu hiN hR
    have hN := hs.2.2.2
    refine g_iload_n cx dL_law_18 rfl ?_
    refine g_aload_n cx dL_law_19 rfl ?_
    refine g_slen cx hs dL_law_20 ?_
    refine g_iconst (v := nI 4) cx dL_law_21 (by decide) ?_
    refine g_isub cx dL_law_22 ?_
    refine g_icmp_gt (tgt := 916) cx dL_law_23 (by decide) (fun h => ?_) (fun h => ?_)
    · refine g_iconst (v := nI 1) cx dL_law_916 (by decide) ?_
      exact hend i D
    · have hi : i + 4 ≤ N := by
        rw [Int32.lt_iff_toInt_lt, pk_sub_toInt (by omega) (by omega), nI_toInt (by omega)] at h
        omega
      have back : ∀ F, Rel F → Gk X mL_law idsA 910 (LL i) [] F := fun F hF => by
        refine g_iinc (v := nI (i + 4)) (L' := LL (i + 4)) cx dL_law_910 rfl (by rw [← nI_add]; rfl) (by decide) rfl rfl ?_
        refine g_goto (tgt := 18) cx dL_law_913 (by decide) ?_
        exact ih (i + 4) F (by omega) (by omega) hF
      refine g_aload_n cx dL_law_26 rfl ?_
      refine g_iload_n cx dL_law_27 rfl ?_
      refine g_sld (j := i) cx hs (by omega) dL_law_28 ?_
      refine g_bipush (v := nI 31) cx dL_law_29 (by decide) ?_
      refine g_iand cx dL_law_31 ?_
      obtain ⟨j, hj, e⟩ := and31 (scr i)
      rw [e]
      rcases (show j = 0 ∨ j = 1 ∨ j = 2 ∨ j = 3 ∨ j = 4 ∨ j = 5 ∨ j = 6 ∨ j = 7 ∨ j = 8 ∨ j = 9 ∨ j = 10 ∨ j = 11 ∨ j = 12 ∨ j = 13 ∨ j = 14 ∨ j = 15 ∨ j = 16 ∨ j = 17 ∨ j = 18 ∨ j = 19 ∨ j = 20 ∨ j = 21 ∨ j = 22 ∨ j = 23 ∨ j = 24 ∨ j = 25 ∨ 26 ≤ j by omega) with rfl | rfl | rfl | rfl | rfl | rfl | rfl | rfl | rfl | rfl | rfl | rfl | rfl | rfl | rfl | rfl | rfl | rfl | rfl | rfl | rfl | rfl | rfl | rfl | rfl | rfl | hj26
      · exact g_tabIn (off := 120) (tgt := 152) cx dL_law_32 (by decide) (by decide) (by decide) (by decide) (l_write cx hs hi hR back)
      · exact g_tabIn (off := 183) (tgt := 215) cx dL_law_32 (by decide) (by decide) (by decide) (by decide) (l_erase cx hs hi hR back)
      · exact g_tabIn (off := 196) (tgt := 228) cx dL_law_32 (by decide) (by decide) (by decide) (by decide) (l_fault cx hs hi hR back)
      · exact g_tabIn (off := 209) (tgt := 241) cx dL_law_32 (by decide) (by decide) (by decide) (by decide) (l_house cx hs hi hR back)
      · exact g_tabIn (off := 222) (tgt := 254) cx dL_law_32 (by decide) (by decide) (by decide) (by decide) (l_leaf cx hs hi hR back)
      · exact g_tabIn (off := 255) (tgt := 287) cx dL_law_32 (by decide) (by decide) (by decide) (by decide) (l_room cx hs hi hR back)
      · exact g_tabIn (off := 288) (tgt := 320) cx dL_law_32 (by decide) (by decide) (by decide) (by decide) (l_as cx hs hi hR back)
      · exact g_tabIn (off := 321) (tgt := 353) cx dL_law_32 (by decide) (by decide) (by decide) (by decide) (l_person cx hs hi hR back)
      · exact g_tabIn (off := 344) (tgt := 376) cx dL_law_32 (by decide) (by decide) (by decide) (by decide) (l_push cx hs hi hR back)
      · exact g_tabIn (off := 387) (tgt := 419) cx dL_law_32 (by decide) (by decide) (by decide) (by decide) (l_hours cx hs hi hR back)
      · exact g_tabIn (off := 410) (tgt := 442) cx dL_law_32 (by decide) (by decide) (by decide) (by decide) (l_leave cx hs hi hR back)
      · exact g_tabIn (off := 433) (tgt := 465) cx dL_law_32 (by decide) (by decide) (by decide) (by decide) (l_enter cx hs hi hR back)
      · exact g_tabIn (off := 466) (tgt := 498) cx dL_law_32 (by decide) (by decide) (by decide) (by decide) (l_keep cx hs hi hR back)
      · exact g_tabIn (off := 489) (tgt := 521) cx dL_law_32 (by decide) (by decide) (by decide) (by decide) (l_back cx hs hi hR back)
      · exact g_tabIn (off := 512) (tgt := 544) cx dL_law_32 (by decide) (by decide) (by decide) (by decide) (l_turn cx hs hi hR back)
      · exact g_tabIn (off := 555) (tgt := 587) cx dL_law_32 (by decide) (by decide) (by decide) (by decide) (l_best cx hs hi hR back)
      · exact g_tabIn (off := 588) (tgt := 620) cx dL_law_32 (by decide) (by decide) (by decide) (by decide) (l_widest cx hs hi hR back)
      · exact g_tabIn (off := 611) (tgt := 643) cx dL_law_32 (by decide) (by decide) (by decide) (by decide) (l_further cx hs hi hR back)
      · exact g_tabIn (off := 634) (tgt := 666) cx dL_law_32 (by decide) (by decide) (by decide) (by decide) (l_share cx hs hi hR back)
      · exact g_tabIn (off := 667) (tgt := 699) cx dL_law_32 (by decide) (by decide) (by decide) (by decide) (l_errands cx hs hi hR back)
      · exact g_tabIn (off := 710) (tgt := 742) cx dL_law_32 (by decide) (by decide) (by decide) (by decide) (l_slam cx hs hi hR back)
      · exact g_tabIn (off := 753) (tgt := 785) cx dL_law_32 (by decide) (by decide) (by decide) (by decide) (l_fire cx hs hi hR back)
      · exact g_tabIn (off := 786) (tgt := 818) cx dL_law_32 (by decide) (by decide) (by decide) (by decide) (l_seen cx hs hi hR back)
      · exact g_tabIn (off := 819) (tgt := 851) cx dL_law_32 (by decide) (by decide) (by decide) (by decide) (l_forget cx hs hi hR back)
      · exact g_tabIn (off := 832) (tgt := 864) cx dL_law_32 (by decide) (by decide) (by decide) (by decide) (l_least cx hs hi hR back)
      · exact g_tabIn (off := 855) (tgt := 887) cx dL_law_32 (by decide) (by decide) (by decide) (by decide) (l_count cx hs hi hR back)
      · refine g_tabOut (tgt := 910) cx dL_law_32 (Or.inr ?_) (by decide) (back D hR)
        rw [nI_toInt (by omega)]; omega
