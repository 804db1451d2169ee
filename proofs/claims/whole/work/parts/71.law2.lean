/-! ===== the law: rows for the script; its cases ===== -/
section
variable {p : Program} {l : Launch} {e : Env} {s : State} {m : MethodId} {args : Array Value} {below : List Frame} {meth : Method} {c : Code} {cc : ByteArray} {nL : Nat} {own : String} {ret : Option FieldType} {G : GG} {b : Nat} {Q : State → Prop} {pc : Nat} {lv : List (Nat × Value)} {st : List Value} {S : Sw} {cells slots : Nat} {R : Room}
theorem r_sld (C : Cx p l s m args meth c cc nL own ret G b) {bs L : Nat} {xs : Nat → Int32} (hX : va_X bs L xs s s.heap) (hbl : bs < s.heap.size) (hbA : ¬ Ab b bs) (hL : L ≤ 2560) {n : Nat} (j : Nat) {x : Int32} (hi : x = nI j) (hj : j < L) (d : decode cc pc = .ok (.iaload, 1)) (hn : pc + 1 = n) (kk : J p l e R s m args below meth c nL G b Q n lv (.int (xs j) :: st) S cells slots) : J p l e R s m args below meth c nL G b Q pc lv (.int x :: .ref bs :: st) S cells slots := by
  subst hn; subst hi
  intro ls H locs h1 h2 h3
  refine va_sld C.1 C.2.1 hX hbl hbA h3 (vp_in_nI hj (by omega)) d ?_
  rw [nI_clamp (by omega)]
  exact kk ls H locs h1 h2 h3
theorem r_slen (C : Cx p l s m args meth c cc nL own ret G b) {bs L : Nat} {xs : Nat → Int32} (hX : va_X bs L xs s s.heap) (hbl : bs < s.heap.size) (hbA : ¬ Ab b bs) {n : Nat} (d : decode cc pc = .ok (.arraylength, 1)) (hn : pc + 1 = n) (kk : J p l e R s m args below meth c nL G b Q n lv (.int (nI L) :: st) S cells slots) : J p l e R s m args below meth c nL G b Q pc lv (.ref bs :: st) S cells slots := by
  subst hn
  intro ls H locs h1 h2 h3
  exact va_slen C.1 C.2.1 hX hbl hbA h3 d (kk ls H locs h1 h2 h3)
theorem r_swI (C : Cx p l s m args meth c cc nL own ret G b) {dflt lo hi : Int} {offs : Array Int} {len : Nat} {x : Int32} {off : Int} {tgt : Nat} (d : decode cc pc = .ok (.tableswitch dflt lo hi offs, len)) (h1 : ¬ x.toInt < lo) (h2 : ¬ hi < x.toInt) (ho : offs[(x.toInt - lo).toNat]? = some off) (ht : (pc : Int) + off = (tgt : Int)) (kk : J p l e R s m args below meth c nL G b Q tgt lv st S cells slots) : J p l e R s m args below meth c nL G b Q pc lv (.int x :: st) S cells slots := fun ls H locs g1 g2 g3 => lv_tableIn C.1 C.2.1 d h1 h2 ho ht (kk ls H locs g1 g2 g3)
theorem r_swO (C : Cx p l s m args meth c cc nL own ret G b) {dflt lo hi : Int} {offs : Array Int} {len : Nat} {x : Int32} {tgt : Nat} (d : decode cc pc = .ok (.tableswitch dflt lo hi offs, len)) (h : x.toInt < lo ∨ hi < x.toInt) (ht : (pc : Int) + dflt = (tgt : Int)) (kk : J p l e R s m args below meth c nL G b Q tgt lv st S cells slots) : J p l e R s m args below meth c nL G b Q pc lv (.int x :: st) S cells slots := fun ls H locs g1 g2 g3 => lv_tableOut C.1 C.2.1 d h ht (kk ls H locs g1 g2 g3)
theorem lgc (x : Int64) : lg_cmp x x = 0 := by unfold lg_cmp; simp
theorem dcm (x : UInt64) : FP.dcmp x x = some .eq ∨ FP.dcmp x x = none := by
  show FP.Core.order _ _ = some .eq ∨ FP.Core.order _ _ = none
  generalize FP.Core.decode FP.Core.b64 x.toNat = y
  cases y with
  | nan => exact Or.inr rfl
  | inf s => left; simp [FP.Core.order]
  | fin s c q => left; simp [FP.Core.order]
theorem Rl.z8 {k z out outD q : Nat} (h : Rl S k z out outD q) : sK S z = 8 := by
  obtain ⟨E, κ, Ui, Uj, Ua, V, W, D, o, np, rp, m, rfl, rfl, rfl, rfl, hV, hR⟩ := h
  exact hV.z8
theorem Rl.k7 {k z out outD q : Nat} (h : Rl S k z out outD q) : sK S k = 7 := by
  obtain ⟨E, κ, Ui, Uj, Ua, V, W, D, o, np, rp, m, rfl, rfl, rfl, rfl, hV, hR⟩ := h
  exact hV.k7
theorem Rl.ly {k z out outD q : Nat} (h : Rl S k z out outD q) : ∃ ad, lay S z ad := by
  obtain ⟨E, κ, Ui, Uj, Ua, V, W, D, o, np, rp, m, rfl, rfl, rfl, rfl, hV, hR⟩ := h
  exact ⟨E, hV.ly⟩
theorem Rl.oL {k z out outD q : Nat} (h : Rl S k z out outD q) : isL S out 1 := by
  obtain ⟨E, κ, Ui, Uj, Ua, V, W, D, o, np, rp, m, rfl, rfl, rfl, rfl, hV, hR⟩ := h
  exact hV.oL
theorem Rl.oD {k z out outD q : Nat} (h : Rl S k z out outD q) : isD S outD 1 := by
  obtain ⟨E, κ, Ui, Uj, Ua, V, W, D, o, np, rp, m, rfl, rfl, rfl, rfl, hV, hR⟩ := h
  exact hV.oDd
theorem m_thr (hst : l.stackTraces = false) {T : Sw} {k z out outD q : Nat} (h : Rl T k z out outD q) : Ct l G b yX8_thrown cX8_thrown 1 (some .int) rmX8_thrown mI [.ref z] T (fun r S' => S' = T ∧ r = fI T 800 z) := by
  obtain ⟨ad, hl⟩ := h.ly
  exact m_thrown hst T z ad hl
theorem Rl.idle {k z out outD q : Nat} (h : Rl S k z out outD q) (hq : q < 512) : Rl S k z out outD (q + 1) := by
  obtain ⟨E, κ, Ui, Uj, Ua, V, W, D, o, np, rp, m, rfl, rfl, rfl, rfl, hV, hR⟩ := h
  exact Rl.mk' hV (hR.idle (by omega))
set_option maxRecDepth 100000 in
set_option maxHeartbeats 1000000 in
theorem lw_c0 (C : Cx p l s m args meth c cL_law 9 RL (some .boolean) G b) (hst : l.stackTraces = false) {bs L : Nat} {xs : Nat → Int32} (hX : va_X bs L xs s s.heap) (hbl : bs < s.heap.size) (hbA : ¬ Ab b bs) (hL : L ≤ 2560) {i q k z out outD : Nat} (hi : i + 5 ≤ L) (h : Rl S k z out outD q) (hq : q < 512) (hcs : cells + 20 ≤ 601024 ∧ slots + 1600 ≤ 7293034) (kk : ∀ S', Rl S' k z out outD (q + 1) → J p l e room_1 s m args below meth c 9 G b Q 1279 [(0, .ref bs), (1, .ref k), (2, .ref z), (3, .ref out), (4, .ref outD), (5, .int (nI i))] [] S' (cells + 20) (slots + 1600)) : J p l e room_1 s m args below meth c 9 G b Q 148 [(0, .ref bs), (1, .ref k), (2, .ref z), (3, .ref out), (4, .ref outD), (5, .int (nI i))] [] S cells slots := by
  by_cases hb : xs (i + 1) = 0
  · obtain ⟨P, hA, hP⟩ := s_open (l := l) (G := G) (b := b) hst h hq 0 (xs (i + 2)) (xs (i + 3)) (xs (i + 4)) (by decide)
    refine r_aload_n (i := 1) (n := 149) C dL_law_148 rfl rfl rfl ?_
    refine r_aload_n (i := 0) (n := 150) C dL_law_149 rfl rfl rfl ?_
    refine r_iload (n := 152) C dL_law_150 rfl rfl ?_
    refine r_iconst (v := 1) (n := 153) C dL_law_152 rfl rfl ?_
    refine r_iadd (n := 154) C dL_law_153 rfl ?_
    refine r_sld (n := 155) C hX hbl hbA hL (i + 1) (add_nI (a := i) (b := 1) rfl rfl) (by omega) dL_law_154 rfl ?_
    refine r_if_eqT (t := 162) C hb dL_law_155 (by decide) ?_
    refine r_iconst (v := 0) (n := 163) C dL_law_162 rfl rfl ?_
    refine r_aload_n (i := 0) (n := 164) C dL_law_163 rfl rfl rfl ?_
    refine r_iload (n := 166) C dL_law_164 rfl rfl ?_
    refine r_iconst (v := 2) (n := 167) C dL_law_166 rfl rfl ?_
    refine r_iadd (n := 168) C dL_law_167 rfl ?_
    refine r_sld (n := 169) C hX hbl hbA hL (i + 2) (add_nI (a := i) (b := 2) rfl rfl) (by omega) dL_law_168 rfl ?_
    refine r_aload_n (i := 0) (n := 170) C dL_law_169 rfl rfl rfl ?_
    refine r_iload (n := 172) C dL_law_170 rfl rfl ?_
    refine r_iconst (v := 3) (n := 173) C dL_law_172 rfl rfl ?_
    refine r_iadd (n := 174) C dL_law_173 rfl ?_
    refine r_sld (n := 175) C hX hbl hbA hL (i + 3) (add_nI (a := i) (b := 3) rfl rfl) (by omega) dL_law_174 rfl ?_
    refine r_aload_n (i := 0) (n := 176) C dL_law_175 rfl rfl rfl ?_
    refine r_iload (n := 178) C dL_law_176 rfl rfl ?_
    refine r_iconst (v := 4) (n := 179) C dL_law_178 rfl rfl ?_
    refine r_iadd (n := 180) C dL_law_179 rfl ?_
    refine r_sld (n := 181) C hX hbl hbA hL (i + 4) (add_nI (a := i) (b := 4) rfl rfl) (by omega) dL_law_180 rfl ?_
    refine r_aload_n (i := 3) (n := 182) C dL_law_181 rfl rfl rfl ?_
    refine kL_77 (n := 185) C hA (by decide) ⟨by show _ ≤ 601024; omega, by show _ ≤ 7293034; omega⟩ (Nat.le_of_ble_eq_true rfl) dL_law_182 rfl (fun r T hp => ?_)
    obtain ⟨Pm, hB, hz, hF⟩ := hP r T hp
    refine r_istore (n := 187) C dL_law_185 (by decide) rfl rfl ?_
    refine r_aload_n (i := 2) (n := 188) C dL_law_187 rfl rfl rfl ?_
    refine r_aload_n (i := 0) (n := 189) C dL_law_188 rfl rfl rfl ?_
    refine r_iload (n := 191) C dL_law_189 rfl rfl ?_
    refine r_iconst (v := 1) (n := 192) C dL_law_191 rfl rfl ?_
    refine r_iadd (n := 193) C dL_law_192 rfl ?_
    refine r_sld (n := 194) C hX hbl hbA hL (i + 1) (add_nI (a := i) (b := 1) rfl rfl) (by omega) dL_law_193 rfl ?_
    refine r_if_eqT (t := 201) C hb dL_law_194 (by decide) ?_
    refine r_iconst (v := 0) (n := 202) C dL_law_201 rfl rfl ?_
    refine r_aload_n (i := 0) (n := 203) C dL_law_202 rfl rfl rfl ?_
    refine r_iload (n := 205) C dL_law_203 rfl rfl ?_
    refine r_iconst (v := 2) (n := 206) C dL_law_205 rfl rfl ?_
    refine r_iadd (n := 207) C dL_law_206 rfl ?_
    refine r_sld (n := 208) C hX hbl hbA hL (i + 2) (add_nI (a := i) (b := 2) rfl rfl) (by omega) dL_law_207 rfl ?_
    refine r_aload_n (i := 0) (n := 209) C dL_law_208 rfl rfl rfl ?_
    refine r_iload (n := 211) C dL_law_209 rfl rfl ?_
    refine r_iconst (v := 3) (n := 212) C dL_law_211 rfl rfl ?_
    refine r_iadd (n := 213) C dL_law_212 rfl ?_
    refine r_sld (n := 214) C hX hbl hbA hL (i + 3) (add_nI (a := i) (b := 3) rfl rfl) (by omega) dL_law_213 rfl ?_
    refine r_aload_n (i := 0) (n := 215) C dL_law_214 rfl rfl rfl ?_
    refine r_iload (n := 217) C dL_law_215 rfl rfl ?_
    refine r_iconst (v := 4) (n := 218) C dL_law_217 rfl rfl ?_
    refine r_iadd (n := 219) C dL_law_218 rfl ?_
    refine r_sld (n := 220) C hX hbl hbA hL (i + 4) (add_nI (a := i) (b := 4) rfl rfl) (by omega) dL_law_219 rfl ?_
    refine kL_82 (n := 223) C hB hz (by decide) ⟨by show _ ≤ 601024; omega, by show _ ≤ 7293034; omega⟩ (Nat.le_of_ble_eq_true rfl) dL_law_220 rfl (fun v T1 hv => ?_)
    have hf := hF v T1 hv
    refine r_istore (n := 225) C dL_law_223 (by decide) rfl rfl ?_
    refine r_aload_n (i := 2) (n := 226) C dL_law_225 rfl rfl rfl ?_
    refine kL_83 (n := 229) C (m_thr hst hf.2.2) (Rl.z8 hf.2.2) (by decide) ⟨by show _ ≤ 601024; omega, by show _ ≤ 7293034; omega⟩ (Nat.le_of_ble_eq_true rfl) dL_law_226 rfl (fun r2 T2 h2 => ?_)
    obtain ⟨rfl, rfl⟩ := h2
    refine r_iload (n := 231) C dL_law_229 rfl rfl ?_
    refine r_icmp_eqT (t := 236) C hf.1 dL_law_231 (by decide) ?_
    refine r_iload (n := 238) C dL_law_236 rfl rfl ?_
    by_cases hr0 : r = 0
    · refine r_if_neF (n := 241) (t := 253) C hr0 dL_law_238 (by decide) rfl ?_
      refine r_aload_n (i := 3) (n := 242) C dL_law_241 rfl rfl rfl ?_
      refine r_iconst (v := 0) (n := 243) C dL_law_242 rfl rfl ?_
      refine q_lald (n := 244) C 0 (Rl.oL hf.2.2) rfl (by decide) dL_law_243 rfl ?_
      refine r_iload (n := 246) C dL_law_244 rfl rfl ?_
      refine r_i2l (n := 247) C dL_law_246 rfl ?_
      refine r_lcmp (n := 248) C dL_law_247 rfl ?_
      refine r_if_eqT (t := 253) C (by rw [hf.2.1 hr0]; exact lgc _) dL_law_248 (by decide) ?_
      refine r_goto (t := 1279) C dL_law_253 (by decide) ?_
      exact J.to rfl (J.wide (by omega) (by omega) (kk _ hf.2.2))
    · refine r_if_neT (t := 253) C hr0 dL_law_238 (by decide) ?_
      refine r_goto (t := 1279) C dL_law_253 (by decide) ?_
      exact J.to rfl (J.wide (by omega) (by omega) (kk _ hf.2.2))
  · obtain ⟨P, hA, hP⟩ := s_open (l := l) (G := G) (b := b) hst h hq 1 (xs (i + 2)) (xs (i + 3)) (xs (i + 4)) (by decide)
    refine r_aload_n (i := 1) (n := 149) C dL_law_148 rfl rfl rfl ?_
    refine r_aload_n (i := 0) (n := 150) C dL_law_149 rfl rfl rfl ?_
    refine r_iload (n := 152) C dL_law_150 rfl rfl ?_
    refine r_iconst (v := 1) (n := 153) C dL_law_152 rfl rfl ?_
    refine r_iadd (n := 154) C dL_law_153 rfl ?_
    refine r_sld (n := 155) C hX hbl hbA hL (i + 1) (add_nI (a := i) (b := 1) rfl rfl) (by omega) dL_law_154 rfl ?_
    refine r_if_eqF (n := 158) (t := 162) C hb dL_law_155 (by decide) rfl ?_
    refine r_iconst (v := 1) (n := 159) C dL_law_158 rfl rfl ?_
    refine r_goto (t := 163) C dL_law_159 (by decide) ?_
    refine r_aload_n (i := 0) (n := 164) C dL_law_163 rfl rfl rfl ?_
    refine r_iload (n := 166) C dL_law_164 rfl rfl ?_
    refine r_iconst (v := 2) (n := 167) C dL_law_166 rfl rfl ?_
    refine r_iadd (n := 168) C dL_law_167 rfl ?_
    refine r_sld (n := 169) C hX hbl hbA hL (i + 2) (add_nI (a := i) (b := 2) rfl rfl) (by omega) dL_law_168 rfl ?_
    refine r_aload_n (i := 0) (n := 170) C dL_law_169 rfl rfl rfl ?_
    refine r_iload (n := 172) C dL_law_170 rfl rfl ?_
    refine r_iconst (v := 3) (n := 173) C dL_law_172 rfl rfl ?_
    refine r_iadd (n := 174) C dL_law_173 rfl ?_
    refine r_sld (n := 175) C hX hbl hbA hL (i + 3) (add_nI (a := i) (b := 3) rfl rfl) (by omega) dL_law_174 rfl ?_
    refine r_aload_n (i := 0) (n := 176) C dL_law_175 rfl rfl rfl ?_
    refine r_iload (n := 178) C dL_law_176 rfl rfl ?_
    refine r_iconst (v := 4) (n := 179) C dL_law_178 rfl rfl ?_
    refine r_iadd (n := 180) C dL_law_179 rfl ?_
    refine r_sld (n := 181) C hX hbl hbA hL (i + 4) (add_nI (a := i) (b := 4) rfl rfl) (by omega) dL_law_180 rfl ?_
    refine r_aload_n (i := 3) (n := 182) C dL_law_181 rfl rfl rfl ?_
    refine kL_77 (n := 185) C hA (by decide) ⟨by show _ ≤ 601024; omega, by show _ ≤ 7293034; omega⟩ (Nat.le_of_ble_eq_true rfl) dL_law_182 rfl (fun r T hp => ?_)
    obtain ⟨Pm, hB, hz, hF⟩ := hP r T hp
    refine r_istore (n := 187) C dL_law_185 (by decide) rfl rfl ?_
    refine r_aload_n (i := 2) (n := 188) C dL_law_187 rfl rfl rfl ?_
    refine r_aload_n (i := 0) (n := 189) C dL_law_188 rfl rfl rfl ?_
    refine r_iload (n := 191) C dL_law_189 rfl rfl ?_
    refine r_iconst (v := 1) (n := 192) C dL_law_191 rfl rfl ?_
    refine r_iadd (n := 193) C dL_law_192 rfl ?_
    refine r_sld (n := 194) C hX hbl hbA hL (i + 1) (add_nI (a := i) (b := 1) rfl rfl) (by omega) dL_law_193 rfl ?_
    refine r_if_eqF (n := 197) (t := 201) C hb dL_law_194 (by decide) rfl ?_
    refine r_iconst (v := 1) (n := 198) C dL_law_197 rfl rfl ?_
    refine r_goto (t := 202) C dL_law_198 (by decide) ?_
    refine r_aload_n (i := 0) (n := 203) C dL_law_202 rfl rfl rfl ?_
    refine r_iload (n := 205) C dL_law_203 rfl rfl ?_
    refine r_iconst (v := 2) (n := 206) C dL_law_205 rfl rfl ?_
    refine r_iadd (n := 207) C dL_law_206 rfl ?_
    refine r_sld (n := 208) C hX hbl hbA hL (i + 2) (add_nI (a := i) (b := 2) rfl rfl) (by omega) dL_law_207 rfl ?_
    refine r_aload_n (i := 0) (n := 209) C dL_law_208 rfl rfl rfl ?_
    refine r_iload (n := 211) C dL_law_209 rfl rfl ?_
    refine r_iconst (v := 3) (n := 212) C dL_law_211 rfl rfl ?_
    refine r_iadd (n := 213) C dL_law_212 rfl ?_
    refine r_sld (n := 214) C hX hbl hbA hL (i + 3) (add_nI (a := i) (b := 3) rfl rfl) (by omega) dL_law_213 rfl ?_
    refine r_aload_n (i := 0) (n := 215) C dL_law_214 rfl rfl rfl ?_
    refine r_iload (n := 217) C dL_law_215 rfl rfl ?_
    refine r_iconst (v := 4) (n := 218) C dL_law_217 rfl rfl ?_
    refine r_iadd (n := 219) C dL_law_218 rfl ?_
    refine r_sld (n := 220) C hX hbl hbA hL (i + 4) (add_nI (a := i) (b := 4) rfl rfl) (by omega) dL_law_219 rfl ?_
    refine kL_82 (n := 223) C hB hz (by decide) ⟨by show _ ≤ 601024; omega, by show _ ≤ 7293034; omega⟩ (Nat.le_of_ble_eq_true rfl) dL_law_220 rfl (fun v T1 hv => ?_)
    have hf := hF v T1 hv
    refine r_istore (n := 225) C dL_law_223 (by decide) rfl rfl ?_
    refine r_aload_n (i := 2) (n := 226) C dL_law_225 rfl rfl rfl ?_
    refine kL_83 (n := 229) C (m_thr hst hf.2.2) (Rl.z8 hf.2.2) (by decide) ⟨by show _ ≤ 601024; omega, by show _ ≤ 7293034; omega⟩ (Nat.le_of_ble_eq_true rfl) dL_law_226 rfl (fun r2 T2 h2 => ?_)
    obtain ⟨rfl, rfl⟩ := h2
    refine r_iload (n := 231) C dL_law_229 rfl rfl ?_
    refine r_icmp_eqT (t := 236) C hf.1 dL_law_231 (by decide) ?_
    refine r_iload (n := 238) C dL_law_236 rfl rfl ?_
    by_cases hr0 : r = 0
    · refine r_if_neF (n := 241) (t := 253) C hr0 dL_law_238 (by decide) rfl ?_
      refine r_aload_n (i := 3) (n := 242) C dL_law_241 rfl rfl rfl ?_
      refine r_iconst (v := 0) (n := 243) C dL_law_242 rfl rfl ?_
      refine q_lald (n := 244) C 0 (Rl.oL hf.2.2) rfl (by decide) dL_law_243 rfl ?_
      refine r_iload (n := 246) C dL_law_244 rfl rfl ?_
      refine r_i2l (n := 247) C dL_law_246 rfl ?_
      refine r_lcmp (n := 248) C dL_law_247 rfl ?_
      refine r_if_eqT (t := 253) C (by rw [hf.2.1 hr0]; exact lgc _) dL_law_248 (by decide) ?_
      refine r_goto (t := 1279) C dL_law_253 (by decide) ?_
      exact J.to rfl (J.wide (by omega) (by omega) (kk _ hf.2.2))
    · refine r_if_neT (t := 253) C hr0 dL_law_238 (by decide) ?_
      refine r_goto (t := 1279) C dL_law_253 (by decide) ?_
      exact J.to rfl (J.wide (by omega) (by omega) (kk _ hf.2.2))
set_option maxRecDepth 100000 in
set_option maxHeartbeats 1000000 in
theorem lw_c1 (C : Cx p l s m args meth c cL_law 9 RL (some .boolean) G b) (hst : l.stackTraces = false) {bs L : Nat} {xs : Nat → Int32} (hX : va_X bs L xs s s.heap) (hbl : bs < s.heap.size) (hbA : ¬ Ab b bs) (hL : L ≤ 2560) {i q k z out outD : Nat} (hi : i + 5 ≤ L) (h : Rl S k z out outD q) (hq : q < 512) (hcs : cells + 20 ≤ 601024 ∧ slots + 1600 ≤ 7293034) (kk : ∀ S', Rl S' k z out outD (q + 1) → J p l e room_1 s m args below meth c 9 G b Q 1279 [(0, .ref bs), (1, .ref k), (2, .ref z), (3, .ref out), (4, .ref outD), (5, .int (nI i))] [] S' (cells + 20) (slots + 1600)) : J p l e room_1 s m args below meth c 9 G b Q 256 [(0, .ref bs), (1, .ref k), (2, .ref z), (3, .ref out), (4, .ref outD), (5, .int (nI i))] [] S cells slots := by
  obtain ⟨P, hA, hP⟩ := s_close (l := l) (G := G) (b := b) hst h hq (xs (i + 1))
  refine r_aload_n (i := 1) (n := 257) C dL_law_256 rfl rfl rfl ?_
  refine r_aload_n (i := 0) (n := 258) C dL_law_257 rfl rfl rfl ?_
  refine r_iload (n := 260) C dL_law_258 rfl rfl ?_
  refine r_iconst (v := 1) (n := 261) C dL_law_260 rfl rfl ?_
  refine r_iadd (n := 262) C dL_law_261 rfl ?_
  refine r_sld (n := 263) C hX hbl hbA hL (i + 1) (add_nI (a := i) (b := 1) rfl rfl) (by omega) dL_law_262 rfl ?_
  refine kL_87 (n := 266) C hA (by decide) ⟨by show _ ≤ 601024; omega, by show _ ≤ 7293034; omega⟩ (Nat.le_of_ble_eq_true rfl) dL_law_263 rfl (fun r T hp => ?_)
  obtain ⟨Pm, hB, hz, hF⟩ := hP r T hp
  refine r_istore (n := 268) C dL_law_266 (by decide) rfl rfl ?_
  refine r_aload_n (i := 2) (n := 269) C dL_law_268 rfl rfl rfl ?_
  refine r_aload_n (i := 0) (n := 270) C dL_law_269 rfl rfl rfl ?_
  refine r_iload (n := 272) C dL_law_270 rfl rfl ?_
  refine r_iconst (v := 1) (n := 273) C dL_law_272 rfl rfl ?_
  refine r_iadd (n := 274) C dL_law_273 rfl ?_
  refine r_sld (n := 275) C hX hbl hbA hL (i + 1) (add_nI (a := i) (b := 1) rfl rfl) (by omega) dL_law_274 rfl ?_
  refine kL_90 (n := 278) C hB hz (by decide) ⟨by show _ ≤ 601024; omega, by show _ ≤ 7293034; omega⟩ (Nat.le_of_ble_eq_true rfl) dL_law_275 rfl (fun v T1 hv => ?_)
  have hf := hF v T1 hv
  refine r_aload_n (i := 2) (n := 279) C dL_law_278 rfl rfl rfl ?_
  refine kL_83 (n := 282) C (m_thr hst hf.2) (Rl.z8 hf.2) (by decide) ⟨by show _ ≤ 601024; omega, by show _ ≤ 7293034; omega⟩ (Nat.le_of_ble_eq_true rfl) dL_law_279 rfl (fun r2 T2 h2 => ?_)
  obtain ⟨rfl, rfl⟩ := h2
  refine r_iload (n := 284) C dL_law_282 rfl rfl ?_
  refine r_icmp_eqT (t := 289) C hf.1 dL_law_284 (by decide) ?_
  refine r_goto (t := 1279) C dL_law_289 (by decide) ?_
  exact J.to rfl (J.wide (by omega) (by omega) (kk _ hf.2))
set_option maxRecDepth 100000 in
set_option maxHeartbeats 1000000 in
theorem lw_c2 (C : Cx p l s m args meth c cL_law 9 RL (some .boolean) G b) (hst : l.stackTraces = false) {bs L : Nat} {xs : Nat → Int32} (hX : va_X bs L xs s s.heap) (hbl : bs < s.heap.size) (hbA : ¬ Ab b bs) (hL : L ≤ 2560) {i q k z out outD : Nat} (hi : i + 5 ≤ L) (h : Rl S k z out outD q) (hq : q < 512) (hcs : cells + 20 ≤ 601024 ∧ slots + 1600 ≤ 7293034) (kk : ∀ S', Rl S' k z out outD (q + 1) → J p l e room_1 s m args below meth c 9 G b Q 1279 [(0, .ref bs), (1, .ref k), (2, .ref z), (3, .ref out), (4, .ref outD), (5, .int (nI i))] [] S' (cells + 20) (slots + 1600)) : J p l e room_1 s m args below meth c 9 G b Q 292 [(0, .ref bs), (1, .ref k), (2, .ref z), (3, .ref out), (4, .ref outD), (5, .int (nI i))] [] S cells slots := by
  obtain ⟨P, hA, hP⟩ := s_gain (l := l) (G := G) (b := b) hst h hq (xs (i + 1)) (FP.dmul (FP.i2d (xs (i + 2))) 4593671619917905920)
  refine r_aload_n (i := 1) (n := 293) C dL_law_292 rfl rfl rfl ?_
  refine r_aload_n (i := 0) (n := 294) C dL_law_293 rfl rfl rfl ?_
  refine r_iload (n := 296) C dL_law_294 rfl rfl ?_
  refine r_iconst (v := 1) (n := 297) C dL_law_296 rfl rfl ?_
  refine r_iadd (n := 298) C dL_law_297 rfl ?_
  refine r_sld (n := 299) C hX hbl hbA hL (i + 1) (add_nI (a := i) (b := 1) rfl rfl) (by omega) dL_law_298 rfl ?_
  refine r_aload_n (i := 0) (n := 300) C dL_law_299 rfl rfl rfl ?_
  refine r_iload (n := 302) C dL_law_300 rfl rfl ?_
  refine r_iconst (v := 2) (n := 303) C dL_law_302 rfl rfl ?_
  refine r_iadd (n := 304) C dL_law_303 rfl ?_
  refine r_sld (n := 305) C hX hbl hbA hL (i + 2) (add_nI (a := i) (b := 2) rfl rfl) (by omega) dL_law_304 rfl ?_
  refine r_i2d (n := 306) C dL_law_305 rfl ?_
  refine r_ldc2d (n := 309) (v := 4593671619917905920) C (mem_tb (mem_tbl 1080 (by decide +kernel)) (by decide +kernel)) dL_law_306 rfl ?_
  refine r_dmul (n := 310) C dL_law_309 (fp_m8 _) rfl ?_
  refine kL_93 (n := 313) C hA (by decide) ⟨by show _ ≤ 601024; omega, by show _ ≤ 7293034; omega⟩ (Nat.le_of_ble_eq_true rfl) dL_law_310 rfl (fun r T hp => ?_)
  obtain ⟨Pm, hB, hz, hF⟩ := hP r T hp
  refine r_istore (n := 315) C dL_law_313 (by decide) rfl rfl ?_
  refine r_aload_n (i := 2) (n := 316) C dL_law_315 rfl rfl rfl ?_
  refine r_aload_n (i := 0) (n := 317) C dL_law_316 rfl rfl rfl ?_
  refine r_iload (n := 319) C dL_law_317 rfl rfl ?_
  refine r_iconst (v := 1) (n := 320) C dL_law_319 rfl rfl ?_
  refine r_iadd (n := 321) C dL_law_320 rfl ?_
  refine r_sld (n := 322) C hX hbl hbA hL (i + 1) (add_nI (a := i) (b := 1) rfl rfl) (by omega) dL_law_321 rfl ?_
  refine r_aload_n (i := 0) (n := 323) C dL_law_322 rfl rfl rfl ?_
  refine r_iload (n := 325) C dL_law_323 rfl rfl ?_
  refine r_iconst (v := 2) (n := 326) C dL_law_325 rfl rfl ?_
  refine r_iadd (n := 327) C dL_law_326 rfl ?_
  refine r_sld (n := 328) C hX hbl hbA hL (i + 2) (add_nI (a := i) (b := 2) rfl rfl) (by omega) dL_law_327 rfl ?_
  refine r_i2d (n := 329) C dL_law_328 rfl ?_
  refine r_ldc2d (n := 332) (v := 4593671619917905920) C (mem_tb (mem_tbl 1080 (by decide +kernel)) (by decide +kernel)) dL_law_329 rfl ?_
  refine r_dmul (n := 333) C dL_law_332 (fp_m8 _) rfl ?_
  refine kL_96 (n := 336) C hB hz (by decide) ⟨by show _ ≤ 601024; omega, by show _ ≤ 7293034; omega⟩ (Nat.le_of_ble_eq_true rfl) dL_law_333 rfl (fun v T1 hv => ?_)
  have hf := hF v T1 hv
  refine r_aload_n (i := 2) (n := 337) C dL_law_336 rfl rfl rfl ?_
  refine kL_83 (n := 340) C (m_thr hst hf.2) (Rl.z8 hf.2) (by decide) ⟨by show _ ≤ 601024; omega, by show _ ≤ 7293034; omega⟩ (Nat.le_of_ble_eq_true rfl) dL_law_337 rfl (fun r2 T2 h2 => ?_)
  obtain ⟨rfl, rfl⟩ := h2
  refine r_iload (n := 342) C dL_law_340 rfl rfl ?_
  refine r_icmp_eqT (t := 347) C hf.1 dL_law_342 (by decide) ?_
  refine r_goto (t := 1279) C dL_law_347 (by decide) ?_
  exact J.to rfl (J.wide (by omega) (by omega) (kk _ hf.2))
set_option maxRecDepth 100000 in
set_option maxHeartbeats 1000000 in
theorem lw_c3 (C : Cx p l s m args meth c cL_law 9 RL (some .boolean) G b) (hst : l.stackTraces = false) {bs L : Nat} {xs : Nat → Int32} (hX : va_X bs L xs s s.heap) (hbl : bs < s.heap.size) (hbA : ¬ Ab b bs) (hL : L ≤ 2560) {i q k z out outD : Nat} (hi : i + 5 ≤ L) (h : Rl S k z out outD q) (hq : q < 512) (hcs : cells + 20 ≤ 601024 ∧ slots + 1600 ≤ 7293034) (kk : ∀ S', Rl S' k z out outD (q + 1) → J p l e room_1 s m args below meth c 9 G b Q 1279 [(0, .ref bs), (1, .ref k), (2, .ref z), (3, .ref out), (4, .ref outD), (5, .int (nI i))] [] S' (cells + 20) (slots + 1600)) : J p l e room_1 s m args below meth c 9 G b Q 350 [(0, .ref bs), (1, .ref k), (2, .ref z), (3, .ref out), (4, .ref outD), (5, .int (nI i))] [] S cells slots := by
  obtain ⟨P, hA, hP⟩ := s_start (l := l) (G := G) (b := b) hst h hq (xs (i + 1))
  refine r_aload_n (i := 1) (n := 351) C dL_law_350 rfl rfl rfl ?_
  refine r_aload_n (i := 0) (n := 352) C dL_law_351 rfl rfl rfl ?_
  refine r_iload (n := 354) C dL_law_352 rfl rfl ?_
  refine r_iconst (v := 1) (n := 355) C dL_law_354 rfl rfl ?_
  refine r_iadd (n := 356) C dL_law_355 rfl ?_
  refine r_sld (n := 357) C hX hbl hbA hL (i + 1) (add_nI (a := i) (b := 1) rfl rfl) (by omega) dL_law_356 rfl ?_
  refine kL_97 (n := 360) C hA (by decide) ⟨by show _ ≤ 601024; omega, by show _ ≤ 7293034; omega⟩ (Nat.le_of_ble_eq_true rfl) dL_law_357 rfl (fun r T hp => ?_)
  obtain ⟨Pm, hB, hz, hF⟩ := hP r T hp
  refine r_istore (n := 362) C dL_law_360 (by decide) rfl rfl ?_
  refine r_aload_n (i := 2) (n := 363) C dL_law_362 rfl rfl rfl ?_
  refine r_aload_n (i := 0) (n := 364) C dL_law_363 rfl rfl rfl ?_
  refine r_iload (n := 366) C dL_law_364 rfl rfl ?_
  refine r_iconst (v := 1) (n := 367) C dL_law_366 rfl rfl ?_
  refine r_iadd (n := 368) C dL_law_367 rfl ?_
  refine r_sld (n := 369) C hX hbl hbA hL (i + 1) (add_nI (a := i) (b := 1) rfl rfl) (by omega) dL_law_368 rfl ?_
  refine kL_99 (n := 372) C hB hz (by decide) ⟨by show _ ≤ 601024; omega, by show _ ≤ 7293034; omega⟩ (Nat.le_of_ble_eq_true rfl) dL_law_369 rfl (fun v T1 hv => ?_)
  have hf := hF v T1 hv
  refine r_aload_n (i := 2) (n := 373) C dL_law_372 rfl rfl rfl ?_
  refine kL_83 (n := 376) C (m_thr hst hf.2) (Rl.z8 hf.2) (by decide) ⟨by show _ ≤ 601024; omega, by show _ ≤ 7293034; omega⟩ (Nat.le_of_ble_eq_true rfl) dL_law_373 rfl (fun r2 T2 h2 => ?_)
  obtain ⟨rfl, rfl⟩ := h2
  refine r_iload (n := 378) C dL_law_376 rfl rfl ?_
  refine r_icmp_eqT (t := 383) C hf.1 dL_law_378 (by decide) ?_
  refine r_goto (t := 1279) C dL_law_383 (by decide) ?_
  exact J.to rfl (J.wide (by omega) (by omega) (kk _ hf.2))
set_option maxRecDepth 100000 in
set_option maxHeartbeats 1000000 in
theorem lw_c4 (C : Cx p l s m args meth c cL_law 9 RL (some .boolean) G b) (hst : l.stackTraces = false) {bs L : Nat} {xs : Nat → Int32} (hX : va_X bs L xs s s.heap) (hbl : bs < s.heap.size) (hbA : ¬ Ab b bs) (hL : L ≤ 2560) {i q k z out outD : Nat} (hi : i + 5 ≤ L) (h : Rl S k z out outD q) (hq : q < 512) (hcs : cells + 20 ≤ 601024 ∧ slots + 1600 ≤ 7293034) (kk : ∀ S', Rl S' k z out outD (q + 1) → J p l e room_1 s m args below meth c 9 G b Q 1279 [(0, .ref bs), (1, .ref k), (2, .ref z), (3, .ref out), (4, .ref outD), (5, .int (nI i))] [] S' (cells + 20) (slots + 1600)) : J p l e room_1 s m args below meth c 9 G b Q 386 [(0, .ref bs), (1, .ref k), (2, .ref z), (3, .ref out), (4, .ref outD), (5, .int (nI i))] [] S cells slots := by
  obtain ⟨P, hA, hP⟩ := s_pause (l := l) (G := G) (b := b) hst h hq (xs (i + 1))
  refine r_aload_n (i := 1) (n := 387) C dL_law_386 rfl rfl rfl ?_
  refine r_aload_n (i := 0) (n := 388) C dL_law_387 rfl rfl rfl ?_
  refine r_iload (n := 390) C dL_law_388 rfl rfl ?_
  refine r_iconst (v := 1) (n := 391) C dL_law_390 rfl rfl ?_
  refine r_iadd (n := 392) C dL_law_391 rfl ?_
  refine r_sld (n := 393) C hX hbl hbA hL (i + 1) (add_nI (a := i) (b := 1) rfl rfl) (by omega) dL_law_392 rfl ?_
  refine kL_100 (n := 396) C hA (by decide) ⟨by show _ ≤ 601024; omega, by show _ ≤ 7293034; omega⟩ (Nat.le_of_ble_eq_true rfl) dL_law_393 rfl (fun r T hp => ?_)
  obtain ⟨Pm, hB, hz, hF⟩ := hP r T hp
  refine r_istore (n := 398) C dL_law_396 (by decide) rfl rfl ?_
  refine r_aload_n (i := 2) (n := 399) C dL_law_398 rfl rfl rfl ?_
  refine r_aload_n (i := 0) (n := 400) C dL_law_399 rfl rfl rfl ?_
  refine r_iload (n := 402) C dL_law_400 rfl rfl ?_
  refine r_iconst (v := 1) (n := 403) C dL_law_402 rfl rfl ?_
  refine r_iadd (n := 404) C dL_law_403 rfl ?_
  refine r_sld (n := 405) C hX hbl hbA hL (i + 1) (add_nI (a := i) (b := 1) rfl rfl) (by omega) dL_law_404 rfl ?_
  refine kL_102 (n := 408) C hB hz (by decide) ⟨by show _ ≤ 601024; omega, by show _ ≤ 7293034; omega⟩ (Nat.le_of_ble_eq_true rfl) dL_law_405 rfl (fun v T1 hv => ?_)
  have hf := hF v T1 hv
  refine r_aload_n (i := 2) (n := 409) C dL_law_408 rfl rfl rfl ?_
  refine kL_83 (n := 412) C (m_thr hst hf.2) (Rl.z8 hf.2) (by decide) ⟨by show _ ≤ 601024; omega, by show _ ≤ 7293034; omega⟩ (Nat.le_of_ble_eq_true rfl) dL_law_409 rfl (fun r2 T2 h2 => ?_)
  obtain ⟨rfl, rfl⟩ := h2
  refine r_iload (n := 414) C dL_law_412 rfl rfl ?_
  refine r_icmp_eqT (t := 419) C hf.1 dL_law_414 (by decide) ?_
  refine r_goto (t := 1279) C dL_law_419 (by decide) ?_
  exact J.to rfl (J.wide (by omega) (by omega) (kk _ hf.2))
set_option maxRecDepth 100000 in
set_option maxHeartbeats 1000000 in
theorem lw_c5 (C : Cx p l s m args meth c cL_law 9 RL (some .boolean) G b) (hst : l.stackTraces = false) {bs L : Nat} {xs : Nat → Int32} (hX : va_X bs L xs s s.heap) (hbl : bs < s.heap.size) (hbA : ¬ Ab b bs) (hL : L ≤ 2560) {i q k z out outD : Nat} (hi : i + 5 ≤ L) (h : Rl S k z out outD q) (hq : q < 512) (hcs : cells + 20 ≤ 601024 ∧ slots + 1600 ≤ 7293034) (kk : ∀ S', Rl S' k z out outD (q + 1) → J p l e room_1 s m args below meth c 9 G b Q 1279 [(0, .ref bs), (1, .ref k), (2, .ref z), (3, .ref out), (4, .ref outD), (5, .int (nI i))] [] S' (cells + 20) (slots + 1600)) : J p l e room_1 s m args below meth c 9 G b Q 422 [(0, .ref bs), (1, .ref k), (2, .ref z), (3, .ref out), (4, .ref outD), (5, .int (nI i))] [] S cells slots := by
  obtain ⟨P, hA, hP⟩ := s_drain (l := l) (G := G) (b := b) hst h hq (xs (i + 1))
  refine r_aload_n (i := 1) (n := 423) C dL_law_422 rfl rfl rfl ?_
  refine r_aload_n (i := 0) (n := 424) C dL_law_423 rfl rfl rfl ?_
  refine r_iload (n := 426) C dL_law_424 rfl rfl ?_
  refine r_iconst (v := 1) (n := 427) C dL_law_426 rfl rfl ?_
  refine r_iadd (n := 428) C dL_law_427 rfl ?_
  refine r_sld (n := 429) C hX hbl hbA hL (i + 1) (add_nI (a := i) (b := 1) rfl rfl) (by omega) dL_law_428 rfl ?_
  refine kL_103 (n := 432) C hA (by decide) ⟨by show _ ≤ 601024; omega, by show _ ≤ 7293034; omega⟩ (Nat.le_of_ble_eq_true rfl) dL_law_429 rfl (fun r T hp => ?_)
  obtain ⟨Pm, hB, hz, hF⟩ := hP r T hp
  refine r_istore (n := 434) C dL_law_432 (by decide) rfl rfl ?_
  refine r_aload_n (i := 2) (n := 435) C dL_law_434 rfl rfl rfl ?_
  refine r_aload_n (i := 0) (n := 436) C dL_law_435 rfl rfl rfl ?_
  refine r_iload (n := 438) C dL_law_436 rfl rfl ?_
  refine r_iconst (v := 1) (n := 439) C dL_law_438 rfl rfl ?_
  refine r_iadd (n := 440) C dL_law_439 rfl ?_
  refine r_sld (n := 441) C hX hbl hbA hL (i + 1) (add_nI (a := i) (b := 1) rfl rfl) (by omega) dL_law_440 rfl ?_
  refine kL_105 (n := 444) C hB hz (by decide) ⟨by show _ ≤ 601024; omega, by show _ ≤ 7293034; omega⟩ (Nat.le_of_ble_eq_true rfl) dL_law_441 rfl (fun v T1 hv => ?_)
  have hf := hF v T1 hv
  refine r_aload_n (i := 2) (n := 445) C dL_law_444 rfl rfl rfl ?_
  refine kL_83 (n := 448) C (m_thr hst hf.2) (Rl.z8 hf.2) (by decide) ⟨by show _ ≤ 601024; omega, by show _ ≤ 7293034; omega⟩ (Nat.le_of_ble_eq_true rfl) dL_law_445 rfl (fun r2 T2 h2 => ?_)
  obtain ⟨rfl, rfl⟩ := h2
  refine r_iload (n := 450) C dL_law_448 rfl rfl ?_
  refine r_icmp_eqT (t := 455) C hf.1 dL_law_450 (by decide) ?_
  refine r_goto (t := 1279) C dL_law_455 (by decide) ?_
  exact J.to rfl (J.wide (by omega) (by omega) (kk _ hf.2))
set_option maxRecDepth 100000 in
set_option maxHeartbeats 1000000 in
theorem lw_c6 (C : Cx p l s m args meth c cL_law 9 RL (some .boolean) G b) (hst : l.stackTraces = false) {bs L : Nat} {xs : Nat → Int32} (hX : va_X bs L xs s s.heap) (hbl : bs < s.heap.size) (hbA : ¬ Ab b bs) (hL : L ≤ 2560) {i q k z out outD : Nat} (hi : i + 5 ≤ L) (h : Rl S k z out outD q) (hq : q < 512) (hcs : cells + 20 ≤ 601024 ∧ slots + 1600 ≤ 7293034) (kk : ∀ S', Rl S' k z out outD (q + 1) → J p l e room_1 s m args below meth c 9 G b Q 1279 [(0, .ref bs), (1, .ref k), (2, .ref z), (3, .ref out), (4, .ref outD), (5, .int (nI i))] [] S' (cells + 20) (slots + 1600)) : J p l e room_1 s m args below meth c 9 G b Q 458 [(0, .ref bs), (1, .ref k), (2, .ref z), (3, .ref out), (4, .ref outD), (5, .int (nI i))] [] S cells slots := by
  obtain ⟨P, hA, hP⟩ := s_state (l := l) (G := G) (b := b) hst h hq (xs (i + 1))
  refine r_aload_n (i := 1) (n := 459) C dL_law_458 rfl rfl rfl ?_
  refine r_aload_n (i := 0) (n := 460) C dL_law_459 rfl rfl rfl ?_
  refine r_iload (n := 462) C dL_law_460 rfl rfl ?_
  refine r_iconst (v := 1) (n := 463) C dL_law_462 rfl rfl ?_
  refine r_iadd (n := 464) C dL_law_463 rfl ?_
  refine r_sld (n := 465) C hX hbl hbA hL (i + 1) (add_nI (a := i) (b := 1) rfl rfl) (by omega) dL_law_464 rfl ?_
  refine r_aload_n (i := 3) (n := 466) C dL_law_465 rfl rfl rfl ?_
  refine kL_106 (n := 469) C hA (by decide) ⟨by show _ ≤ 601024; omega, by show _ ≤ 7293034; omega⟩ (Nat.le_of_ble_eq_true rfl) dL_law_466 rfl (fun r T hp => ?_)
  obtain ⟨Pm, hB, hz, hF⟩ := hP r T hp
  refine r_istore (n := 471) C dL_law_469 (by decide) rfl rfl ?_
  refine r_aload_n (i := 2) (n := 472) C dL_law_471 rfl rfl rfl ?_
  refine r_aload_n (i := 0) (n := 473) C dL_law_472 rfl rfl rfl ?_
  refine r_iload (n := 475) C dL_law_473 rfl rfl ?_
  refine r_iconst (v := 1) (n := 476) C dL_law_475 rfl rfl ?_
  refine r_iadd (n := 477) C dL_law_476 rfl ?_
  refine r_sld (n := 478) C hX hbl hbA hL (i + 1) (add_nI (a := i) (b := 1) rfl rfl) (by omega) dL_law_477 rfl ?_
  refine kL_109 (n := 481) C hB hz (by decide) ⟨by show _ ≤ 601024; omega, by show _ ≤ 7293034; omega⟩ (Nat.le_of_ble_eq_true rfl) dL_law_478 rfl (fun v T1 hv => ?_)
  have hf := hF v T1 hv
  refine r_istore (n := 483) C dL_law_481 (by decide) rfl rfl ?_
  refine r_aload_n (i := 2) (n := 484) C dL_law_483 rfl rfl rfl ?_
  refine kL_83 (n := 487) C (m_thr hst hf.2.2) (Rl.z8 hf.2.2) (by decide) ⟨by show _ ≤ 601024; omega, by show _ ≤ 7293034; omega⟩ (Nat.le_of_ble_eq_true rfl) dL_law_484 rfl (fun r2 T2 h2 => ?_)
  obtain ⟨rfl, rfl⟩ := h2
  refine r_iload (n := 489) C dL_law_487 rfl rfl ?_
  refine r_icmp_eqT (t := 494) C hf.1 dL_law_489 (by decide) ?_
  refine r_iload (n := 496) C dL_law_494 rfl rfl ?_
  by_cases hr0 : r = 0
  · refine r_if_neF (n := 499) (t := 511) C hr0 dL_law_496 (by decide) rfl ?_
    refine r_aload_n (i := 3) (n := 500) C dL_law_499 rfl rfl rfl ?_
    refine r_iconst (v := 0) (n := 501) C dL_law_500 rfl rfl ?_
    refine q_lald (n := 502) C 0 (Rl.oL hf.2.2) rfl (by decide) dL_law_501 rfl ?_
    refine r_iload (n := 504) C dL_law_502 rfl rfl ?_
    refine r_i2l (n := 505) C dL_law_504 rfl ?_
    refine r_lcmp (n := 506) C dL_law_505 rfl ?_
    refine r_if_eqT (t := 511) C (by rw [hf.2.1 hr0]; exact lgc _) dL_law_506 (by decide) ?_
    refine r_goto (t := 1279) C dL_law_511 (by decide) ?_
    exact J.to rfl (J.wide (by omega) (by omega) (kk _ hf.2.2))
  · refine r_if_neT (t := 511) C hr0 dL_law_496 (by decide) ?_
    refine r_goto (t := 1279) C dL_law_511 (by decide) ?_
    exact J.to rfl (J.wide (by omega) (by omega) (kk _ hf.2.2))
set_option maxRecDepth 100000 in
set_option maxHeartbeats 1000000 in
theorem lw_c7 (C : Cx p l s m args meth c cL_law 9 RL (some .boolean) G b) (hst : l.stackTraces = false) {bs L : Nat} {xs : Nat → Int32} (hX : va_X bs L xs s s.heap) (hbl : bs < s.heap.size) (hbA : ¬ Ab b bs) (hL : L ≤ 2560) {i q k z out outD : Nat} (hi : i + 5 ≤ L) (h : Rl S k z out outD q) (hq : q < 512) (hcs : cells + 20 ≤ 601024 ∧ slots + 1600 ≤ 7293034) (kk : ∀ S', Rl S' k z out outD (q + 1) → J p l e room_1 s m args below meth c 9 G b Q 1279 [(0, .ref bs), (1, .ref k), (2, .ref z), (3, .ref out), (4, .ref outD), (5, .int (nI i))] [] S' (cells + 20) (slots + 1600)) : J p l e room_1 s m args below meth c 9 G b Q 514 [(0, .ref bs), (1, .ref k), (2, .ref z), (3, .ref out), (4, .ref outD), (5, .int (nI i))] [] S cells slots := by
  obtain ⟨P, hA, hP⟩ := s_write (l := l) (G := G) (b := b) hst h hq (xs (i + 1)) (xs (i + 2))
  refine r_aload_n (i := 1) (n := 515) C dL_law_514 rfl rfl rfl ?_
  refine r_aload_n (i := 0) (n := 516) C dL_law_515 rfl rfl rfl ?_
  refine r_iload (n := 518) C dL_law_516 rfl rfl ?_
  refine r_iconst (v := 1) (n := 519) C dL_law_518 rfl rfl ?_
  refine r_iadd (n := 520) C dL_law_519 rfl ?_
  refine r_sld (n := 521) C hX hbl hbA hL (i + 1) (add_nI (a := i) (b := 1) rfl rfl) (by omega) dL_law_520 rfl ?_
  refine r_aload_n (i := 0) (n := 522) C dL_law_521 rfl rfl rfl ?_
  refine r_iload (n := 524) C dL_law_522 rfl rfl ?_
  refine r_iconst (v := 2) (n := 525) C dL_law_524 rfl rfl ?_
  refine r_iadd (n := 526) C dL_law_525 rfl ?_
  refine r_sld (n := 527) C hX hbl hbA hL (i + 2) (add_nI (a := i) (b := 2) rfl rfl) (by omega) dL_law_526 rfl ?_
  refine r_aload_n (i := 3) (n := 528) C dL_law_527 rfl rfl rfl ?_
  refine kL_110 (n := 531) C hA (by decide) ⟨by show _ ≤ 601024; omega, by show _ ≤ 7293034; omega⟩ (Nat.le_of_ble_eq_true rfl) dL_law_528 rfl (fun r T hp => ?_)
  obtain ⟨Pm, hB, hz, hF⟩ := hP r T hp
  refine r_istore (n := 533) C dL_law_531 (by decide) rfl rfl ?_
  refine r_aload_n (i := 2) (n := 534) C dL_law_533 rfl rfl rfl ?_
  refine r_aload_n (i := 0) (n := 535) C dL_law_534 rfl rfl rfl ?_
  refine r_iload (n := 537) C dL_law_535 rfl rfl ?_
  refine r_iconst (v := 1) (n := 538) C dL_law_537 rfl rfl ?_
  refine r_iadd (n := 539) C dL_law_538 rfl ?_
  refine r_sld (n := 540) C hX hbl hbA hL (i + 1) (add_nI (a := i) (b := 1) rfl rfl) (by omega) dL_law_539 rfl ?_
  refine r_aload_n (i := 0) (n := 541) C dL_law_540 rfl rfl rfl ?_
  refine r_iload (n := 543) C dL_law_541 rfl rfl ?_
  refine r_iconst (v := 2) (n := 544) C dL_law_543 rfl rfl ?_
  refine r_iadd (n := 545) C dL_law_544 rfl ?_
  refine r_sld (n := 546) C hX hbl hbA hL (i + 2) (add_nI (a := i) (b := 2) rfl rfl) (by omega) dL_law_545 rfl ?_
  refine kL_113 (n := 549) C hB hz (by decide) ⟨by show _ ≤ 601024; omega, by show _ ≤ 7293034; omega⟩ (Nat.le_of_ble_eq_true rfl) dL_law_546 rfl (fun v T1 hv => ?_)
  have hf := hF v T1 hv
  refine r_istore (n := 551) C dL_law_549 (by decide) rfl rfl ?_
  refine r_aload_n (i := 2) (n := 552) C dL_law_551 rfl rfl rfl ?_
  refine kL_83 (n := 555) C (m_thr hst hf.2.2) (Rl.z8 hf.2.2) (by decide) ⟨by show _ ≤ 601024; omega, by show _ ≤ 7293034; omega⟩ (Nat.le_of_ble_eq_true rfl) dL_law_552 rfl (fun r2 T2 h2 => ?_)
  obtain ⟨rfl, rfl⟩ := h2
  refine r_iload (n := 557) C dL_law_555 rfl rfl ?_
  refine r_icmp_eqT (t := 562) C hf.1 dL_law_557 (by decide) ?_
  refine r_iload (n := 564) C dL_law_562 rfl rfl ?_
  by_cases hr0 : r = 0
  · refine r_if_neF (n := 567) (t := 586) C hr0 dL_law_564 (by decide) rfl ?_
    by_cases hv0 : v = 0
    · refine r_aload_n (i := 3) (n := 568) C dL_law_567 rfl rfl rfl ?_
      refine r_iconst (v := 0) (n := 569) C dL_law_568 rfl rfl ?_
      refine q_lald (n := 570) C 0 (Rl.oL hf.2.2) rfl (by decide) dL_law_569 rfl ?_
      refine r_iload (n := 572) C dL_law_570 rfl rfl ?_
      refine r_if_eqT (t := 579) C hv0 dL_law_572 (by decide) ?_
      refine r_lconst (v := 0) (n := 580) C dL_law_579 rfl rfl ?_
      refine r_lcmp (n := 581) C dL_law_580 rfl ?_
      refine r_if_eqT (t := 586) C (by rw [hf.2.1 hr0, if_pos hv0]; exact lgc _) dL_law_581 (by decide) ?_
      refine r_goto (t := 1279) C dL_law_586 (by decide) ?_
      exact J.to rfl (J.wide (by omega) (by omega) (kk _ hf.2.2))
    · refine r_aload_n (i := 3) (n := 568) C dL_law_567 rfl rfl rfl ?_
      refine r_iconst (v := 0) (n := 569) C dL_law_568 rfl rfl ?_
      refine q_lald (n := 570) C 0 (Rl.oL hf.2.2) rfl (by decide) dL_law_569 rfl ?_
      refine r_iload (n := 572) C dL_law_570 rfl rfl ?_
      refine r_if_eqF (n := 575) (t := 579) C hv0 dL_law_572 (by decide) rfl ?_
      refine r_lconst (v := 1) (n := 576) C dL_law_575 rfl rfl ?_
      refine r_goto (t := 580) C dL_law_576 (by decide) ?_
      refine r_lcmp (n := 581) C dL_law_580 rfl ?_
      refine r_if_eqT (t := 586) C (by rw [hf.2.1 hr0, if_neg hv0]; exact lgc _) dL_law_581 (by decide) ?_
      refine r_goto (t := 1279) C dL_law_586 (by decide) ?_
      exact J.to rfl (J.wide (by omega) (by omega) (kk _ hf.2.2))
  · refine r_if_neT (t := 586) C hr0 dL_law_564 (by decide) ?_
    refine r_goto (t := 1279) C dL_law_586 (by decide) ?_
    exact J.to rfl (J.wide (by omega) (by omega) (kk _ hf.2.2))
set_option maxRecDepth 100000 in
set_option maxHeartbeats 1000000 in
theorem lw_c8 (C : Cx p l s m args meth c cL_law 9 RL (some .boolean) G b) (hst : l.stackTraces = false) {bs L : Nat} {xs : Nat → Int32} (hX : va_X bs L xs s s.heap) (hbl : bs < s.heap.size) (hbA : ¬ Ab b bs) (hL : L ≤ 2560) {i q k z out outD : Nat} (hi : i + 5 ≤ L) (h : Rl S k z out outD q) (hq : q < 512) (hcs : cells + 20 ≤ 601024 ∧ slots + 1600 ≤ 7293034) (kk : ∀ S', Rl S' k z out outD (q + 1) → J p l e room_1 s m args below meth c 9 G b Q 1279 [(0, .ref bs), (1, .ref k), (2, .ref z), (3, .ref out), (4, .ref outD), (5, .int (nI i))] [] S' (cells + 20) (slots + 1600)) : J p l e room_1 s m args below meth c 9 G b Q 589 [(0, .ref bs), (1, .ref k), (2, .ref z), (3, .ref out), (4, .ref outD), (5, .int (nI i))] [] S cells slots := by
  obtain ⟨P, hA, hP⟩ := s_read (l := l) (G := G) (b := b) hst h hq (xs (i + 1))
  refine r_aload_n (i := 1) (n := 590) C dL_law_589 rfl rfl rfl ?_
  refine r_aload_n (i := 0) (n := 591) C dL_law_590 rfl rfl rfl ?_
  refine r_iload (n := 593) C dL_law_591 rfl rfl ?_
  refine r_iconst (v := 1) (n := 594) C dL_law_593 rfl rfl ?_
  refine r_iadd (n := 595) C dL_law_594 rfl ?_
  refine r_sld (n := 596) C hX hbl hbA hL (i + 1) (add_nI (a := i) (b := 1) rfl rfl) (by omega) dL_law_595 rfl ?_
  refine r_aload_n (i := 3) (n := 597) C dL_law_596 rfl rfl rfl ?_
  refine kL_114 (n := 600) C hA (by decide) ⟨by show _ ≤ 601024; omega, by show _ ≤ 7293034; omega⟩ (Nat.le_of_ble_eq_true rfl) dL_law_597 rfl (fun r T hp => ?_)
  obtain ⟨Pm, hB, hz, hF⟩ := hP r T hp
  refine r_istore (n := 602) C dL_law_600 (by decide) rfl rfl ?_
  refine r_aload_n (i := 2) (n := 603) C dL_law_602 rfl rfl rfl ?_
  refine r_aload_n (i := 0) (n := 604) C dL_law_603 rfl rfl rfl ?_
  refine r_iload (n := 606) C dL_law_604 rfl rfl ?_
  refine r_iconst (v := 1) (n := 607) C dL_law_606 rfl rfl ?_
  refine r_iadd (n := 608) C dL_law_607 rfl ?_
  refine r_sld (n := 609) C hX hbl hbA hL (i + 1) (add_nI (a := i) (b := 1) rfl rfl) (by omega) dL_law_608 rfl ?_
  refine kL_116 (n := 612) C hB hz (by decide) ⟨by show _ ≤ 601024; omega, by show _ ≤ 7293034; omega⟩ (Nat.le_of_ble_eq_true rfl) dL_law_609 rfl (fun v T1 hv => ?_)
  have hf := hF v T1 hv
  refine r_istore (n := 614) C dL_law_612 (by decide) rfl rfl ?_
  refine r_aload_n (i := 2) (n := 615) C dL_law_614 rfl rfl rfl ?_
  refine kL_83 (n := 618) C (m_thr hst hf.2.2) (Rl.z8 hf.2.2) (by decide) ⟨by show _ ≤ 601024; omega, by show _ ≤ 7293034; omega⟩ (Nat.le_of_ble_eq_true rfl) dL_law_615 rfl (fun r2 T2 h2 => ?_)
  obtain ⟨rfl, rfl⟩ := h2
  refine r_iload (n := 620) C dL_law_618 rfl rfl ?_
  refine r_icmp_eqT (t := 625) C hf.1 dL_law_620 (by decide) ?_
  refine r_iload (n := 627) C dL_law_625 rfl rfl ?_
  by_cases hr0 : r = 0
  · refine r_if_neF (n := 630) (t := 642) C hr0 dL_law_627 (by decide) rfl ?_
    refine r_aload_n (i := 3) (n := 631) C dL_law_630 rfl rfl rfl ?_
    refine r_iconst (v := 0) (n := 632) C dL_law_631 rfl rfl ?_
    refine q_lald (n := 633) C 0 (Rl.oL hf.2.2) rfl (by decide) dL_law_632 rfl ?_
    refine r_iload (n := 635) C dL_law_633 rfl rfl ?_
    refine r_i2l (n := 636) C dL_law_635 rfl ?_
    refine r_lcmp (n := 637) C dL_law_636 rfl ?_
    refine r_if_eqT (t := 642) C (by rw [hf.2.1 hr0]; exact lgc _) dL_law_637 (by decide) ?_
    refine r_goto (t := 1279) C dL_law_642 (by decide) ?_
    exact J.to rfl (J.wide (by omega) (by omega) (kk _ hf.2.2))
  · refine r_if_neT (t := 642) C hr0 dL_law_627 (by decide) ?_
    refine r_goto (t := 1279) C dL_law_642 (by decide) ?_
    exact J.to rfl (J.wide (by omega) (by omega) (kk _ hf.2.2))
set_option maxRecDepth 100000 in
set_option maxHeartbeats 1000000 in
theorem lw_c9 (C : Cx p l s m args meth c cL_law 9 RL (some .boolean) G b) (hst : l.stackTraces = false) {bs L : Nat} {xs : Nat → Int32} (hX : va_X bs L xs s s.heap) (hbl : bs < s.heap.size) (hbA : ¬ Ab b bs) (hL : L ≤ 2560) {i q k z out outD : Nat} (hi : i + 5 ≤ L) (h : Rl S k z out outD q) (hq : q < 512) (hcs : cells + 20 ≤ 601024 ∧ slots + 1600 ≤ 7293034) (kk : ∀ S', Rl S' k z out outD (q + 1) → J p l e room_1 s m args below meth c 9 G b Q 1279 [(0, .ref bs), (1, .ref k), (2, .ref z), (3, .ref out), (4, .ref outD), (5, .int (nI i))] [] S' (cells + 20) (slots + 1600)) : J p l e room_1 s m args below meth c 9 G b Q 645 [(0, .ref bs), (1, .ref k), (2, .ref z), (3, .ref out), (4, .ref outD), (5, .int (nI i))] [] S cells slots := by
  obtain ⟨P, hA, hP⟩ := s_room (l := l) (G := G) (b := b) hst h hq (xs (i + 1))
  refine r_aload_n (i := 1) (n := 646) C dL_law_645 rfl rfl rfl ?_
  refine r_aload_n (i := 0) (n := 647) C dL_law_646 rfl rfl rfl ?_
  refine r_iload (n := 649) C dL_law_647 rfl rfl ?_
  refine r_iconst (v := 1) (n := 650) C dL_law_649 rfl rfl ?_
  refine r_iadd (n := 651) C dL_law_650 rfl ?_
  refine r_sld (n := 652) C hX hbl hbA hL (i + 1) (add_nI (a := i) (b := 1) rfl rfl) (by omega) dL_law_651 rfl ?_
  refine r_aload_n (i := 3) (n := 653) C dL_law_652 rfl rfl rfl ?_
  refine kL_117 (n := 656) C hA (by decide) ⟨by show _ ≤ 601024; omega, by show _ ≤ 7293034; omega⟩ (Nat.le_of_ble_eq_true rfl) dL_law_653 rfl (fun r T hp => ?_)
  obtain ⟨Pm, hB, hz, hF⟩ := hP r T hp
  refine r_istore (n := 658) C dL_law_656 (by decide) rfl rfl ?_
  refine r_aload_n (i := 2) (n := 659) C dL_law_658 rfl rfl rfl ?_
  refine r_aload_n (i := 0) (n := 660) C dL_law_659 rfl rfl rfl ?_
  refine r_iload (n := 662) C dL_law_660 rfl rfl ?_
  refine r_iconst (v := 1) (n := 663) C dL_law_662 rfl rfl ?_
  refine r_iadd (n := 664) C dL_law_663 rfl ?_
  refine r_sld (n := 665) C hX hbl hbA hL (i + 1) (add_nI (a := i) (b := 1) rfl rfl) (by omega) dL_law_664 rfl ?_
  refine kL_119 (n := 668) C hB hz (by decide) ⟨by show _ ≤ 601024; omega, by show _ ≤ 7293034; omega⟩ (Nat.le_of_ble_eq_true rfl) dL_law_665 rfl (fun v T1 hv => ?_)
  have hf := hF v T1 hv
  refine r_istore (n := 670) C dL_law_668 (by decide) rfl rfl ?_
  refine r_aload_n (i := 2) (n := 671) C dL_law_670 rfl rfl rfl ?_
  refine kL_83 (n := 674) C (m_thr hst hf.2.2) (Rl.z8 hf.2.2) (by decide) ⟨by show _ ≤ 601024; omega, by show _ ≤ 7293034; omega⟩ (Nat.le_of_ble_eq_true rfl) dL_law_671 rfl (fun r2 T2 h2 => ?_)
  obtain ⟨rfl, rfl⟩ := h2
  refine r_iload (n := 676) C dL_law_674 rfl rfl ?_
  refine r_icmp_eqT (t := 681) C hf.1 dL_law_676 (by decide) ?_
  refine r_iload (n := 683) C dL_law_681 rfl rfl ?_
  by_cases hr0 : r = 0
  · refine r_if_neF (n := 686) (t := 698) C hr0 dL_law_683 (by decide) rfl ?_
    refine r_aload_n (i := 3) (n := 687) C dL_law_686 rfl rfl rfl ?_
    refine r_iconst (v := 0) (n := 688) C dL_law_687 rfl rfl ?_
    refine q_lald (n := 689) C 0 (Rl.oL hf.2.2) rfl (by decide) dL_law_688 rfl ?_
    refine r_iload (n := 691) C dL_law_689 rfl rfl ?_
    refine r_i2l (n := 692) C dL_law_691 rfl ?_
    refine r_lcmp (n := 693) C dL_law_692 rfl ?_
    refine r_if_eqT (t := 698) C (by rw [hf.2.1 hr0]; exact lgc _) dL_law_693 (by decide) ?_
    refine r_goto (t := 1279) C dL_law_698 (by decide) ?_
    exact J.to rfl (J.wide (by omega) (by omega) (kk _ hf.2.2))
  · refine r_if_neT (t := 698) C hr0 dL_law_683 (by decide) ?_
    refine r_goto (t := 1279) C dL_law_698 (by decide) ?_
    exact J.to rfl (J.wide (by omega) (by omega) (kk _ hf.2.2))
set_option maxRecDepth 100000 in
set_option maxHeartbeats 1000000 in
theorem lw_c10 (C : Cx p l s m args meth c cL_law 9 RL (some .boolean) G b) (hst : l.stackTraces = false) {bs L : Nat} {xs : Nat → Int32} (hX : va_X bs L xs s s.heap) (hbl : bs < s.heap.size) (hbA : ¬ Ab b bs) (hL : L ≤ 2560) {i q k z out outD : Nat} (hi : i + 5 ≤ L) (h : Rl S k z out outD q) (hq : q < 512) (hcs : cells + 20 ≤ 601024 ∧ slots + 1600 ≤ 7293034) (kk : ∀ S', Rl S' k z out outD (q + 1) → J p l e room_1 s m args below meth c 9 G b Q 1279 [(0, .ref bs), (1, .ref k), (2, .ref z), (3, .ref out), (4, .ref outD), (5, .int (nI i))] [] S' (cells + 20) (slots + 1600)) : J p l e room_1 s m args below meth c 9 G b Q 701 [(0, .ref bs), (1, .ref k), (2, .ref z), (3, .ref out), (4, .ref outD), (5, .int (nI i))] [] S cells slots := by
  obtain ⟨P, hA, hP⟩ := s_ahead (l := l) (G := G) (b := b) hst h hq (xs (i + 1))
  refine r_aload_n (i := 1) (n := 702) C dL_law_701 rfl rfl rfl ?_
  refine r_aload_n (i := 0) (n := 703) C dL_law_702 rfl rfl rfl ?_
  refine r_iload (n := 705) C dL_law_703 rfl rfl ?_
  refine r_iconst (v := 1) (n := 706) C dL_law_705 rfl rfl ?_
  refine r_iadd (n := 707) C dL_law_706 rfl ?_
  refine r_sld (n := 708) C hX hbl hbA hL (i + 1) (add_nI (a := i) (b := 1) rfl rfl) (by omega) dL_law_707 rfl ?_
  refine r_aload_n (i := 3) (n := 709) C dL_law_708 rfl rfl rfl ?_
  refine kL_120 (n := 712) C hA (by decide) ⟨by show _ ≤ 601024; omega, by show _ ≤ 7293034; omega⟩ (Nat.le_of_ble_eq_true rfl) dL_law_709 rfl (fun r T hp => ?_)
  obtain ⟨Pm, hB, hz, hF⟩ := hP r T hp
  refine r_istore (n := 714) C dL_law_712 (by decide) rfl rfl ?_
  refine r_aload_n (i := 2) (n := 715) C dL_law_714 rfl rfl rfl ?_
  refine r_aload_n (i := 0) (n := 716) C dL_law_715 rfl rfl rfl ?_
  refine r_iload (n := 718) C dL_law_716 rfl rfl ?_
  refine r_iconst (v := 1) (n := 719) C dL_law_718 rfl rfl ?_
  refine r_iadd (n := 720) C dL_law_719 rfl ?_
  refine r_sld (n := 721) C hX hbl hbA hL (i + 1) (add_nI (a := i) (b := 1) rfl rfl) (by omega) dL_law_720 rfl ?_
  refine kL_122 (n := 724) C hB hz (by decide) ⟨by show _ ≤ 601024; omega, by show _ ≤ 7293034; omega⟩ (Nat.le_of_ble_eq_true rfl) dL_law_721 rfl (fun v T1 hv => ?_)
  have hf := hF v T1 hv
  refine r_istore (n := 726) C dL_law_724 (by decide) rfl rfl ?_
  refine r_aload_n (i := 2) (n := 727) C dL_law_726 rfl rfl rfl ?_
  refine kL_83 (n := 730) C (m_thr hst hf.2.2) (Rl.z8 hf.2.2) (by decide) ⟨by show _ ≤ 601024; omega, by show _ ≤ 7293034; omega⟩ (Nat.le_of_ble_eq_true rfl) dL_law_727 rfl (fun r2 T2 h2 => ?_)
  obtain ⟨rfl, rfl⟩ := h2
  refine r_iload (n := 732) C dL_law_730 rfl rfl ?_
  refine r_icmp_eqT (t := 737) C hf.1 dL_law_732 (by decide) ?_
  refine r_iload (n := 739) C dL_law_737 rfl rfl ?_
  by_cases hr0 : r = 0
  · refine r_if_neF (n := 742) (t := 754) C hr0 dL_law_739 (by decide) rfl ?_
    refine r_aload_n (i := 3) (n := 743) C dL_law_742 rfl rfl rfl ?_
    refine r_iconst (v := 0) (n := 744) C dL_law_743 rfl rfl ?_
    refine q_lald (n := 745) C 0 (Rl.oL hf.2.2) rfl (by decide) dL_law_744 rfl ?_
    refine r_iload (n := 747) C dL_law_745 rfl rfl ?_
    refine r_i2l (n := 748) C dL_law_747 rfl ?_
    refine r_lcmp (n := 749) C dL_law_748 rfl ?_
    refine r_if_eqT (t := 754) C (by rw [hf.2.1 hr0]; exact lgc _) dL_law_749 (by decide) ?_
    refine r_goto (t := 1279) C dL_law_754 (by decide) ?_
    exact J.to rfl (J.wide (by omega) (by omega) (kk _ hf.2.2))
  · refine r_if_neT (t := 754) C hr0 dL_law_739 (by decide) ?_
    refine r_goto (t := 1279) C dL_law_754 (by decide) ?_
    exact J.to rfl (J.wide (by omega) (by omega) (kk _ hf.2.2))
set_option maxRecDepth 100000 in
set_option maxHeartbeats 1000000 in
theorem lw_c11 (C : Cx p l s m args meth c cL_law 9 RL (some .boolean) G b) (hst : l.stackTraces = false) {bs L : Nat} {xs : Nat → Int32} (hX : va_X bs L xs s s.heap) (hbl : bs < s.heap.size) (hbA : ¬ Ab b bs) (hL : L ≤ 2560) {i q k z out outD : Nat} (hi : i + 5 ≤ L) (h : Rl S k z out outD q) (hq : q < 512) (hcs : cells + 20 ≤ 601024 ∧ slots + 1600 ≤ 7293034) (kk : ∀ S', Rl S' k z out outD (q + 1) → J p l e room_1 s m args below meth c 9 G b Q 1279 [(0, .ref bs), (1, .ref k), (2, .ref z), (3, .ref out), (4, .ref outD), (5, .int (nI i))] [] S' (cells + 20) (slots + 1600)) : J p l e room_1 s m args below meth c 9 G b Q 757 [(0, .ref bs), (1, .ref k), (2, .ref z), (3, .ref out), (4, .ref outD), (5, .int (nI i))] [] S cells slots := by
  obtain ⟨P, hA, hP⟩ := s_prepare (l := l) (G := G) (b := b) hst h hq
  refine r_aload_n (i := 1) (n := 758) C dL_law_757 rfl rfl rfl ?_
  refine kL_123 (n := 761) C hA h.k7 (by decide) ⟨by show _ ≤ 601024; omega, by show _ ≤ 7293034; omega⟩ (Nat.le_of_ble_eq_true rfl) dL_law_758 rfl (fun r T hp => ?_)
  obtain ⟨Pm, hB, hz, hF⟩ := hP r T hp
  refine r_aload_n (i := 2) (n := 762) C dL_law_761 rfl rfl rfl ?_
  refine kL_127 (n := 765) C hB hz (by decide) ⟨by show _ ≤ 601024; omega, by show _ ≤ 7293034; omega⟩ (Nat.le_of_ble_eq_true rfl) dL_law_762 rfl (fun v T1 hv => ?_)
  have hf := hF v T1 hv
  refine r_icmp_eqT (t := 1279) C hf.1.symm dL_law_765 (by decide) ?_
  exact J.to rfl (J.wide (by omega) (by omega) (kk _ hf.2))
set_option maxRecDepth 100000 in
set_option maxHeartbeats 1000000 in
theorem lw_c12 (C : Cx p l s m args meth c cL_law 9 RL (some .boolean) G b) (hst : l.stackTraces = false) {bs L : Nat} {xs : Nat → Int32} (hX : va_X bs L xs s s.heap) (hbl : bs < s.heap.size) (hbA : ¬ Ab b bs) (hL : L ≤ 2560) {i q k z out outD : Nat} (hi : i + 5 ≤ L) (h : Rl S k z out outD q) (hq : q < 512) (hcs : cells + 20 ≤ 601024 ∧ slots + 1600 ≤ 7293034) (kk : ∀ S', Rl S' k z out outD (q + 1) → J p l e room_1 s m args below meth c 9 G b Q 1279 [(0, .ref bs), (1, .ref k), (2, .ref z), (3, .ref out), (4, .ref outD), (5, .int (nI i))] [] S' (cells + 20) (slots + 1600)) : J p l e room_1 s m args below meth c 9 G b Q 770 [(0, .ref bs), (1, .ref k), (2, .ref z), (3, .ref out), (4, .ref outD), (5, .int (nI i))] [] S cells slots := by
  obtain ⟨P, hA, hP⟩ := s_card (l := l) (G := G) (b := b) hst h hq
  refine r_aload_n (i := 1) (n := 771) C dL_law_770 rfl rfl rfl ?_
  refine kL_128 (n := 774) C hA h.k7 (by decide) ⟨by show _ ≤ 601024; omega, by show _ ≤ 7293034; omega⟩ (Nat.le_of_ble_eq_true rfl) dL_law_771 rfl (fun r T hp => ?_)
  obtain ⟨Pm, hB, hz, hF⟩ := hP r T hp
  refine r_aload_n (i := 2) (n := 775) C dL_law_774 rfl rfl rfl ?_
  refine kL_131 (n := 778) C hB hz (by decide) ⟨by show _ ≤ 601024; omega, by show _ ≤ 7293034; omega⟩ (Nat.le_of_ble_eq_true rfl) dL_law_775 rfl (fun v T1 hv => ?_)
  have hf := hF v T1 hv
  refine r_icmp_eqT (t := 1279) C hf.1.symm dL_law_778 (by decide) ?_
  exact J.to rfl (J.wide (by omega) (by omega) (kk _ hf.2))
set_option maxRecDepth 100000 in
set_option maxHeartbeats 1000000 in
theorem lw_c13 (C : Cx p l s m args meth c cL_law 9 RL (some .boolean) G b) (hst : l.stackTraces = false) {bs L : Nat} {xs : Nat → Int32} (hX : va_X bs L xs s s.heap) (hbl : bs < s.heap.size) (hbA : ¬ Ab b bs) (hL : L ≤ 2560) {i q k z out outD : Nat} (hi : i + 5 ≤ L) (h : Rl S k z out outD q) (hq : q < 512) (hcs : cells + 20 ≤ 601024 ∧ slots + 1600 ≤ 7293034) (kk : ∀ S', Rl S' k z out outD (q + 1) → J p l e room_1 s m args below meth c 9 G b Q 1279 [(0, .ref bs), (1, .ref k), (2, .ref z), (3, .ref out), (4, .ref outD), (5, .int (nI i))] [] S' (cells + 20) (slots + 1600)) : J p l e room_1 s m args below meth c 9 G b Q 783 [(0, .ref bs), (1, .ref k), (2, .ref z), (3, .ref out), (4, .ref outD), (5, .int (nI i))] [] S cells slots := by
  by_cases hb : xs (i + 2) = 0
  · obtain ⟨P, hA, hP⟩ := s_coming (l := l) (G := G) (b := b) hst h hq (xs (i + 1)) 0 (xs (i + 3))
    refine r_aload_n (i := 1) (n := 784) C dL_law_783 rfl rfl rfl ?_
    refine r_aload_n (i := 0) (n := 785) C dL_law_784 rfl rfl rfl ?_
    refine r_iload (n := 787) C dL_law_785 rfl rfl ?_
    refine r_iconst (v := 1) (n := 788) C dL_law_787 rfl rfl ?_
    refine r_iadd (n := 789) C dL_law_788 rfl ?_
    refine r_sld (n := 790) C hX hbl hbA hL (i + 1) (add_nI (a := i) (b := 1) rfl rfl) (by omega) dL_law_789 rfl ?_
    refine r_aload_n (i := 0) (n := 791) C dL_law_790 rfl rfl rfl ?_
    refine r_iload (n := 793) C dL_law_791 rfl rfl ?_
    refine r_iconst (v := 2) (n := 794) C dL_law_793 rfl rfl ?_
    refine r_iadd (n := 795) C dL_law_794 rfl ?_
    refine r_sld (n := 796) C hX hbl hbA hL (i + 2) (add_nI (a := i) (b := 2) rfl rfl) (by omega) dL_law_795 rfl ?_
    refine r_if_eqT (t := 803) C hb dL_law_796 (by decide) ?_
    refine r_iconst (v := 0) (n := 804) C dL_law_803 rfl rfl ?_
    refine r_aload_n (i := 0) (n := 805) C dL_law_804 rfl rfl rfl ?_
    refine r_iload (n := 807) C dL_law_805 rfl rfl ?_
    refine r_iconst (v := 3) (n := 808) C dL_law_807 rfl rfl ?_
    refine r_iadd (n := 809) C dL_law_808 rfl ?_
    refine r_sld (n := 810) C hX hbl hbA hL (i + 3) (add_nI (a := i) (b := 3) rfl rfl) (by omega) dL_law_809 rfl ?_
    refine kL_132 (n := 813) C hA (by decide) ⟨by show _ ≤ 601024; omega, by show _ ≤ 7293034; omega⟩ (Nat.le_of_ble_eq_true rfl) dL_law_810 rfl (fun r T hp => ?_)
    obtain ⟨Pm, hB, hz, hF⟩ := hP r T hp
    refine r_istore (n := 815) C dL_law_813 (by decide) rfl rfl ?_
    refine r_aload_n (i := 2) (n := 816) C dL_law_815 rfl rfl rfl ?_
    refine r_aload_n (i := 0) (n := 817) C dL_law_816 rfl rfl rfl ?_
    refine r_iload (n := 819) C dL_law_817 rfl rfl ?_
    refine r_iconst (v := 1) (n := 820) C dL_law_819 rfl rfl ?_
    refine r_iadd (n := 821) C dL_law_820 rfl ?_
    refine r_sld (n := 822) C hX hbl hbA hL (i + 1) (add_nI (a := i) (b := 1) rfl rfl) (by omega) dL_law_821 rfl ?_
    refine r_aload_n (i := 0) (n := 823) C dL_law_822 rfl rfl rfl ?_
    refine r_iload (n := 825) C dL_law_823 rfl rfl ?_
    refine r_iconst (v := 2) (n := 826) C dL_law_825 rfl rfl ?_
    refine r_iadd (n := 827) C dL_law_826 rfl ?_
    refine r_sld (n := 828) C hX hbl hbA hL (i + 2) (add_nI (a := i) (b := 2) rfl rfl) (by omega) dL_law_827 rfl ?_
    refine r_if_eqT (t := 835) C hb dL_law_828 (by decide) ?_
    refine r_iconst (v := 0) (n := 836) C dL_law_835 rfl rfl ?_
    refine r_aload_n (i := 0) (n := 837) C dL_law_836 rfl rfl rfl ?_
    refine r_iload (n := 839) C dL_law_837 rfl rfl ?_
    refine r_iconst (v := 3) (n := 840) C dL_law_839 rfl rfl ?_
    refine r_iadd (n := 841) C dL_law_840 rfl ?_
    refine r_sld (n := 842) C hX hbl hbA hL (i + 3) (add_nI (a := i) (b := 3) rfl rfl) (by omega) dL_law_841 rfl ?_
    refine kL_135 (n := 845) C hB hz (by decide) ⟨by show _ ≤ 601024; omega, by show _ ≤ 7293034; omega⟩ (Nat.le_of_ble_eq_true rfl) dL_law_842 rfl (fun v T1 hv => ?_)
    have hf := hF v T1 hv
    refine r_aload_n (i := 2) (n := 846) C dL_law_845 rfl rfl rfl ?_
    refine kL_83 (n := 849) C (m_thr hst hf.2) (Rl.z8 hf.2) (by decide) ⟨by show _ ≤ 601024; omega, by show _ ≤ 7293034; omega⟩ (Nat.le_of_ble_eq_true rfl) dL_law_846 rfl (fun r2 T2 h2 => ?_)
    obtain ⟨rfl, rfl⟩ := h2
    refine r_iload (n := 851) C dL_law_849 rfl rfl ?_
    refine r_icmp_eqT (t := 856) C hf.1 dL_law_851 (by decide) ?_
    refine r_goto (t := 1279) C dL_law_856 (by decide) ?_
    exact J.to rfl (J.wide (by omega) (by omega) (kk _ hf.2))
  · obtain ⟨P, hA, hP⟩ := s_coming (l := l) (G := G) (b := b) hst h hq (xs (i + 1)) 1 (xs (i + 3))
    refine r_aload_n (i := 1) (n := 784) C dL_law_783 rfl rfl rfl ?_
    refine r_aload_n (i := 0) (n := 785) C dL_law_784 rfl rfl rfl ?_
    refine r_iload (n := 787) C dL_law_785 rfl rfl ?_
    refine r_iconst (v := 1) (n := 788) C dL_law_787 rfl rfl ?_
    refine r_iadd (n := 789) C dL_law_788 rfl ?_
    refine r_sld (n := 790) C hX hbl hbA hL (i + 1) (add_nI (a := i) (b := 1) rfl rfl) (by omega) dL_law_789 rfl ?_
    refine r_aload_n (i := 0) (n := 791) C dL_law_790 rfl rfl rfl ?_
    refine r_iload (n := 793) C dL_law_791 rfl rfl ?_
    refine r_iconst (v := 2) (n := 794) C dL_law_793 rfl rfl ?_
    refine r_iadd (n := 795) C dL_law_794 rfl ?_
    refine r_sld (n := 796) C hX hbl hbA hL (i + 2) (add_nI (a := i) (b := 2) rfl rfl) (by omega) dL_law_795 rfl ?_
    refine r_if_eqF (n := 799) (t := 803) C hb dL_law_796 (by decide) rfl ?_
    refine r_iconst (v := 1) (n := 800) C dL_law_799 rfl rfl ?_
    refine r_goto (t := 804) C dL_law_800 (by decide) ?_
    refine r_aload_n (i := 0) (n := 805) C dL_law_804 rfl rfl rfl ?_
    refine r_iload (n := 807) C dL_law_805 rfl rfl ?_
    refine r_iconst (v := 3) (n := 808) C dL_law_807 rfl rfl ?_
    refine r_iadd (n := 809) C dL_law_808 rfl ?_
    refine r_sld (n := 810) C hX hbl hbA hL (i + 3) (add_nI (a := i) (b := 3) rfl rfl) (by omega) dL_law_809 rfl ?_
    refine kL_132 (n := 813) C hA (by decide) ⟨by show _ ≤ 601024; omega, by show _ ≤ 7293034; omega⟩ (Nat.le_of_ble_eq_true rfl) dL_law_810 rfl (fun r T hp => ?_)
    obtain ⟨Pm, hB, hz, hF⟩ := hP r T hp
    refine r_istore (n := 815) C dL_law_813 (by decide) rfl rfl ?_
    refine r_aload_n (i := 2) (n := 816) C dL_law_815 rfl rfl rfl ?_
    refine r_aload_n (i := 0) (n := 817) C dL_law_816 rfl rfl rfl ?_
    refine r_iload (n := 819) C dL_law_817 rfl rfl ?_
    refine r_iconst (v := 1) (n := 820) C dL_law_819 rfl rfl ?_
    refine r_iadd (n := 821) C dL_law_820 rfl ?_
    refine r_sld (n := 822) C hX hbl hbA hL (i + 1) (add_nI (a := i) (b := 1) rfl rfl) (by omega) dL_law_821 rfl ?_
    refine r_aload_n (i := 0) (n := 823) C dL_law_822 rfl rfl rfl ?_
    refine r_iload (n := 825) C dL_law_823 rfl rfl ?_
    refine r_iconst (v := 2) (n := 826) C dL_law_825 rfl rfl ?_
    refine r_iadd (n := 827) C dL_law_826 rfl ?_
    refine r_sld (n := 828) C hX hbl hbA hL (i + 2) (add_nI (a := i) (b := 2) rfl rfl) (by omega) dL_law_827 rfl ?_
    refine r_if_eqF (n := 831) (t := 835) C hb dL_law_828 (by decide) rfl ?_
    refine r_iconst (v := 1) (n := 832) C dL_law_831 rfl rfl ?_
    refine r_goto (t := 836) C dL_law_832 (by decide) ?_
    refine r_aload_n (i := 0) (n := 837) C dL_law_836 rfl rfl rfl ?_
    refine r_iload (n := 839) C dL_law_837 rfl rfl ?_
    refine r_iconst (v := 3) (n := 840) C dL_law_839 rfl rfl ?_
    refine r_iadd (n := 841) C dL_law_840 rfl ?_
    refine r_sld (n := 842) C hX hbl hbA hL (i + 3) (add_nI (a := i) (b := 3) rfl rfl) (by omega) dL_law_841 rfl ?_
    refine kL_135 (n := 845) C hB hz (by decide) ⟨by show _ ≤ 601024; omega, by show _ ≤ 7293034; omega⟩ (Nat.le_of_ble_eq_true rfl) dL_law_842 rfl (fun v T1 hv => ?_)
    have hf := hF v T1 hv
    refine r_aload_n (i := 2) (n := 846) C dL_law_845 rfl rfl rfl ?_
    refine kL_83 (n := 849) C (m_thr hst hf.2) (Rl.z8 hf.2) (by decide) ⟨by show _ ≤ 601024; omega, by show _ ≤ 7293034; omega⟩ (Nat.le_of_ble_eq_true rfl) dL_law_846 rfl (fun r2 T2 h2 => ?_)
    obtain ⟨rfl, rfl⟩ := h2
    refine r_iload (n := 851) C dL_law_849 rfl rfl ?_
    refine r_icmp_eqT (t := 856) C hf.1 dL_law_851 (by decide) ?_
    refine r_goto (t := 1279) C dL_law_856 (by decide) ?_
    exact J.to rfl (J.wide (by omega) (by omega) (kk _ hf.2))
set_option maxRecDepth 100000 in
set_option maxHeartbeats 1000000 in
theorem lw_c14 (C : Cx p l s m args meth c cL_law 9 RL (some .boolean) G b) (hst : l.stackTraces = false) {bs L : Nat} {xs : Nat → Int32} (hX : va_X bs L xs s s.heap) (hbl : bs < s.heap.size) (hbA : ¬ Ab b bs) (hL : L ≤ 2560) {i q k z out outD : Nat} (hi : i + 5 ≤ L) (h : Rl S k z out outD q) (hq : q < 512) (hcs : cells + 20 ≤ 601024 ∧ slots + 1600 ≤ 7293034) (kk : ∀ S', Rl S' k z out outD (q + 1) → J p l e room_1 s m args below meth c 9 G b Q 1279 [(0, .ref bs), (1, .ref k), (2, .ref z), (3, .ref out), (4, .ref outD), (5, .int (nI i))] [] S' (cells + 20) (slots + 1600)) : J p l e room_1 s m args below meth c 9 G b Q 859 [(0, .ref bs), (1, .ref k), (2, .ref z), (3, .ref out), (4, .ref outD), (5, .int (nI i))] [] S cells slots := by
  by_cases hb : xs (i + 3) = 0
  · obtain ⟨P, hA, hP⟩ := s_played (l := l) (G := G) (b := b) hst h hq (xs (i + 1)) (xs (i + 2)) 0
    refine r_aload_n (i := 1) (n := 860) C dL_law_859 rfl rfl rfl ?_
    refine r_aload_n (i := 0) (n := 861) C dL_law_860 rfl rfl rfl ?_
    refine r_iload (n := 863) C dL_law_861 rfl rfl ?_
    refine r_iconst (v := 1) (n := 864) C dL_law_863 rfl rfl ?_
    refine r_iadd (n := 865) C dL_law_864 rfl ?_
    refine r_sld (n := 866) C hX hbl hbA hL (i + 1) (add_nI (a := i) (b := 1) rfl rfl) (by omega) dL_law_865 rfl ?_
    refine r_aload_n (i := 0) (n := 867) C dL_law_866 rfl rfl rfl ?_
    refine r_iload (n := 869) C dL_law_867 rfl rfl ?_
    refine r_iconst (v := 2) (n := 870) C dL_law_869 rfl rfl ?_
    refine r_iadd (n := 871) C dL_law_870 rfl ?_
    refine r_sld (n := 872) C hX hbl hbA hL (i + 2) (add_nI (a := i) (b := 2) rfl rfl) (by omega) dL_law_871 rfl ?_
    refine r_aload_n (i := 0) (n := 873) C dL_law_872 rfl rfl rfl ?_
    refine r_iload (n := 875) C dL_law_873 rfl rfl ?_
    refine r_iconst (v := 3) (n := 876) C dL_law_875 rfl rfl ?_
    refine r_iadd (n := 877) C dL_law_876 rfl ?_
    refine r_sld (n := 878) C hX hbl hbA hL (i + 3) (add_nI (a := i) (b := 3) rfl rfl) (by omega) dL_law_877 rfl ?_
    refine r_if_eqT (t := 885) C hb dL_law_878 (by decide) ?_
    refine r_iconst (v := 0) (n := 886) C dL_law_885 rfl rfl ?_
    refine r_aload_n (i := 3) (n := 887) C dL_law_886 rfl rfl rfl ?_
    refine kL_136 (n := 890) C hA (by decide) ⟨by show _ ≤ 601024; omega, by show _ ≤ 7293034; omega⟩ (Nat.le_of_ble_eq_true rfl) dL_law_887 rfl (fun r T hp => ?_)
    obtain ⟨Pm, hB, hz, hF⟩ := hP r T hp
    refine r_istore (n := 892) C dL_law_890 (by decide) rfl rfl ?_
    refine r_aload_n (i := 2) (n := 893) C dL_law_892 rfl rfl rfl ?_
    refine r_aload_n (i := 0) (n := 894) C dL_law_893 rfl rfl rfl ?_
    refine r_iload (n := 896) C dL_law_894 rfl rfl ?_
    refine r_iconst (v := 1) (n := 897) C dL_law_896 rfl rfl ?_
    refine r_iadd (n := 898) C dL_law_897 rfl ?_
    refine r_sld (n := 899) C hX hbl hbA hL (i + 1) (add_nI (a := i) (b := 1) rfl rfl) (by omega) dL_law_898 rfl ?_
    refine r_aload_n (i := 0) (n := 900) C dL_law_899 rfl rfl rfl ?_
    refine r_iload (n := 902) C dL_law_900 rfl rfl ?_
    refine r_iconst (v := 2) (n := 903) C dL_law_902 rfl rfl ?_
    refine r_iadd (n := 904) C dL_law_903 rfl ?_
    refine r_sld (n := 905) C hX hbl hbA hL (i + 2) (add_nI (a := i) (b := 2) rfl rfl) (by omega) dL_law_904 rfl ?_
    refine r_aload_n (i := 0) (n := 906) C dL_law_905 rfl rfl rfl ?_
    refine r_iload (n := 908) C dL_law_906 rfl rfl ?_
    refine r_iconst (v := 3) (n := 909) C dL_law_908 rfl rfl ?_
    refine r_iadd (n := 910) C dL_law_909 rfl ?_
    refine r_sld (n := 911) C hX hbl hbA hL (i + 3) (add_nI (a := i) (b := 3) rfl rfl) (by omega) dL_law_910 rfl ?_
    refine r_if_eqT (t := 918) C hb dL_law_911 (by decide) ?_
    refine r_iconst (v := 0) (n := 919) C dL_law_918 rfl rfl ?_
    refine kL_139 (n := 922) C hB hz (by decide) ⟨by show _ ≤ 601024; omega, by show _ ≤ 7293034; omega⟩ (Nat.le_of_ble_eq_true rfl) dL_law_919 rfl (fun v T1 hv => ?_)
    have hf := hF v T1 hv
    refine r_istore (n := 924) C dL_law_922 (by decide) rfl rfl ?_
    refine r_aload_n (i := 2) (n := 925) C dL_law_924 rfl rfl rfl ?_
    refine kL_83 (n := 928) C (m_thr hst hf.2.2) (Rl.z8 hf.2.2) (by decide) ⟨by show _ ≤ 601024; omega, by show _ ≤ 7293034; omega⟩ (Nat.le_of_ble_eq_true rfl) dL_law_925 rfl (fun r2 T2 h2 => ?_)
    obtain ⟨rfl, rfl⟩ := h2
    refine r_iload (n := 930) C dL_law_928 rfl rfl ?_
    refine r_icmp_eqT (t := 935) C hf.1 dL_law_930 (by decide) ?_
    refine r_iload (n := 937) C dL_law_935 rfl rfl ?_
    by_cases hr0 : r = 0
    · refine r_if_neF (n := 940) (t := 952) C hr0 dL_law_937 (by decide) rfl ?_
      refine r_aload_n (i := 3) (n := 941) C dL_law_940 rfl rfl rfl ?_
      refine r_iconst (v := 0) (n := 942) C dL_law_941 rfl rfl ?_
      refine q_lald (n := 943) C 0 (Rl.oL hf.2.2) rfl (by decide) dL_law_942 rfl ?_
      refine r_iload (n := 945) C dL_law_943 rfl rfl ?_
      refine r_i2l (n := 946) C dL_law_945 rfl ?_
      refine r_lcmp (n := 947) C dL_law_946 rfl ?_
      refine r_if_eqT (t := 952) C (by rw [hf.2.1 hr0]; exact lgc _) dL_law_947 (by decide) ?_
      refine r_goto (t := 1279) C dL_law_952 (by decide) ?_
      exact J.to rfl (J.wide (by omega) (by omega) (kk _ hf.2.2))
    · refine r_if_neT (t := 952) C hr0 dL_law_937 (by decide) ?_
      refine r_goto (t := 1279) C dL_law_952 (by decide) ?_
      exact J.to rfl (J.wide (by omega) (by omega) (kk _ hf.2.2))
  · obtain ⟨P, hA, hP⟩ := s_played (l := l) (G := G) (b := b) hst h hq (xs (i + 1)) (xs (i + 2)) 1
    refine r_aload_n (i := 1) (n := 860) C dL_law_859 rfl rfl rfl ?_
    refine r_aload_n (i := 0) (n := 861) C dL_law_860 rfl rfl rfl ?_
    refine r_iload (n := 863) C dL_law_861 rfl rfl ?_
    refine r_iconst (v := 1) (n := 864) C dL_law_863 rfl rfl ?_
    refine r_iadd (n := 865) C dL_law_864 rfl ?_
    refine r_sld (n := 866) C hX hbl hbA hL (i + 1) (add_nI (a := i) (b := 1) rfl rfl) (by omega) dL_law_865 rfl ?_
    refine r_aload_n (i := 0) (n := 867) C dL_law_866 rfl rfl rfl ?_
    refine r_iload (n := 869) C dL_law_867 rfl rfl ?_
    refine r_iconst (v := 2) (n := 870) C dL_law_869 rfl rfl ?_
    refine r_iadd (n := 871) C dL_law_870 rfl ?_
    refine r_sld (n := 872) C hX hbl hbA hL (i + 2) (add_nI (a := i) (b := 2) rfl rfl) (by omega) dL_law_871 rfl ?_
    refine r_aload_n (i := 0) (n := 873) C dL_law_872 rfl rfl rfl ?_
    refine r_iload (n := 875) C dL_law_873 rfl rfl ?_
    refine r_iconst (v := 3) (n := 876) C dL_law_875 rfl rfl ?_
    refine r_iadd (n := 877) C dL_law_876 rfl ?_
    refine r_sld (n := 878) C hX hbl hbA hL (i + 3) (add_nI (a := i) (b := 3) rfl rfl) (by omega) dL_law_877 rfl ?_
    refine r_if_eqF (n := 881) (t := 885) C hb dL_law_878 (by decide) rfl ?_
    refine r_iconst (v := 1) (n := 882) C dL_law_881 rfl rfl ?_
    refine r_goto (t := 886) C dL_law_882 (by decide) ?_
    refine r_aload_n (i := 3) (n := 887) C dL_law_886 rfl rfl rfl ?_
    refine kL_136 (n := 890) C hA (by decide) ⟨by show _ ≤ 601024; omega, by show _ ≤ 7293034; omega⟩ (Nat.le_of_ble_eq_true rfl) dL_law_887 rfl (fun r T hp => ?_)
    obtain ⟨Pm, hB, hz, hF⟩ := hP r T hp
    refine r_istore (n := 892) C dL_law_890 (by decide) rfl rfl ?_
    refine r_aload_n (i := 2) (n := 893) C dL_law_892 rfl rfl rfl ?_
    refine r_aload_n (i := 0) (n := 894) C dL_law_893 rfl rfl rfl ?_
    refine r_iload (n := 896) C dL_law_894 rfl rfl ?_
    refine r_iconst (v := 1) (n := 897) C dL_law_896 rfl rfl ?_
    refine r_iadd (n := 898) C dL_law_897 rfl ?_
    refine r_sld (n := 899) C hX hbl hbA hL (i + 1) (add_nI (a := i) (b := 1) rfl rfl) (by omega) dL_law_898 rfl ?_
    refine r_aload_n (i := 0) (n := 900) C dL_law_899 rfl rfl rfl ?_
    refine r_iload (n := 902) C dL_law_900 rfl rfl ?_
    refine r_iconst (v := 2) (n := 903) C dL_law_902 rfl rfl ?_
    refine r_iadd (n := 904) C dL_law_903 rfl ?_
    refine r_sld (n := 905) C hX hbl hbA hL (i + 2) (add_nI (a := i) (b := 2) rfl rfl) (by omega) dL_law_904 rfl ?_
    refine r_aload_n (i := 0) (n := 906) C dL_law_905 rfl rfl rfl ?_
    refine r_iload (n := 908) C dL_law_906 rfl rfl ?_
    refine r_iconst (v := 3) (n := 909) C dL_law_908 rfl rfl ?_
    refine r_iadd (n := 910) C dL_law_909 rfl ?_
    refine r_sld (n := 911) C hX hbl hbA hL (i + 3) (add_nI (a := i) (b := 3) rfl rfl) (by omega) dL_law_910 rfl ?_
    refine r_if_eqF (n := 914) (t := 918) C hb dL_law_911 (by decide) rfl ?_
    refine r_iconst (v := 1) (n := 915) C dL_law_914 rfl rfl ?_
    refine r_goto (t := 919) C dL_law_915 (by decide) ?_
    refine kL_139 (n := 922) C hB hz (by decide) ⟨by show _ ≤ 601024; omega, by show _ ≤ 7293034; omega⟩ (Nat.le_of_ble_eq_true rfl) dL_law_919 rfl (fun v T1 hv => ?_)
    have hf := hF v T1 hv
    refine r_istore (n := 924) C dL_law_922 (by decide) rfl rfl ?_
    refine r_aload_n (i := 2) (n := 925) C dL_law_924 rfl rfl rfl ?_
    refine kL_83 (n := 928) C (m_thr hst hf.2.2) (Rl.z8 hf.2.2) (by decide) ⟨by show _ ≤ 601024; omega, by show _ ≤ 7293034; omega⟩ (Nat.le_of_ble_eq_true rfl) dL_law_925 rfl (fun r2 T2 h2 => ?_)
    obtain ⟨rfl, rfl⟩ := h2
    refine r_iload (n := 930) C dL_law_928 rfl rfl ?_
    refine r_icmp_eqT (t := 935) C hf.1 dL_law_930 (by decide) ?_
    refine r_iload (n := 937) C dL_law_935 rfl rfl ?_
    by_cases hr0 : r = 0
    · refine r_if_neF (n := 940) (t := 952) C hr0 dL_law_937 (by decide) rfl ?_
      refine r_aload_n (i := 3) (n := 941) C dL_law_940 rfl rfl rfl ?_
      refine r_iconst (v := 0) (n := 942) C dL_law_941 rfl rfl ?_
      refine q_lald (n := 943) C 0 (Rl.oL hf.2.2) rfl (by decide) dL_law_942 rfl ?_
      refine r_iload (n := 945) C dL_law_943 rfl rfl ?_
      refine r_i2l (n := 946) C dL_law_945 rfl ?_
      refine r_lcmp (n := 947) C dL_law_946 rfl ?_
      refine r_if_eqT (t := 952) C (by rw [hf.2.1 hr0]; exact lgc _) dL_law_947 (by decide) ?_
      refine r_goto (t := 1279) C dL_law_952 (by decide) ?_
      exact J.to rfl (J.wide (by omega) (by omega) (kk _ hf.2.2))
    · refine r_if_neT (t := 952) C hr0 dL_law_937 (by decide) ?_
      refine r_goto (t := 1279) C dL_law_952 (by decide) ?_
      exact J.to rfl (J.wide (by omega) (by omega) (kk _ hf.2.2))
set_option maxRecDepth 100000 in
set_option maxHeartbeats 1000000 in
theorem lw_c15 (C : Cx p l s m args meth c cL_law 9 RL (some .boolean) G b) (hst : l.stackTraces = false) {bs L : Nat} {xs : Nat → Int32} (hX : va_X bs L xs s s.heap) (hbl : bs < s.heap.size) (hbA : ¬ Ab b bs) (hL : L ≤ 2560) {i q k z out outD : Nat} (hi : i + 5 ≤ L) (h : Rl S k z out outD q) (hq : q < 512) (hcs : cells + 20 ≤ 601024 ∧ slots + 1600 ≤ 7293034) (kk : ∀ S', Rl S' k z out outD (q + 1) → J p l e room_1 s m args below meth c 9 G b Q 1279 [(0, .ref bs), (1, .ref k), (2, .ref z), (3, .ref out), (4, .ref outD), (5, .int (nI i))] [] S' (cells + 20) (slots + 1600)) : J p l e room_1 s m args below meth c 9 G b Q 955 [(0, .ref bs), (1, .ref k), (2, .ref z), (3, .ref out), (4, .ref outD), (5, .int (nI i))] [] S cells slots := by
  obtain ⟨P, hA, hP⟩ := s_position (l := l) (G := G) (b := b) hst h hq (xs (i + 1))
  refine r_aload_n (i := 1) (n := 956) C dL_law_955 rfl rfl rfl ?_
  refine r_aload_n (i := 0) (n := 957) C dL_law_956 rfl rfl rfl ?_
  refine r_iload (n := 959) C dL_law_957 rfl rfl ?_
  refine r_iconst (v := 1) (n := 960) C dL_law_959 rfl rfl ?_
  refine r_iadd (n := 961) C dL_law_960 rfl ?_
  refine r_sld (n := 962) C hX hbl hbA hL (i + 1) (add_nI (a := i) (b := 1) rfl rfl) (by omega) dL_law_961 rfl ?_
  refine r_aload_n (i := 3) (n := 963) C dL_law_962 rfl rfl rfl ?_
  refine kL_140 (n := 966) C hA (by decide) ⟨by show _ ≤ 601024; omega, by show _ ≤ 7293034; omega⟩ (Nat.le_of_ble_eq_true rfl) dL_law_963 rfl (fun r T hp => ?_)
  obtain ⟨Pm, hB, hz, hF⟩ := hP r T hp
  refine r_istore (n := 968) C dL_law_966 (by decide) rfl rfl ?_
  refine r_aload_n (i := 2) (n := 969) C dL_law_968 rfl rfl rfl ?_
  refine r_aload_n (i := 0) (n := 970) C dL_law_969 rfl rfl rfl ?_
  refine r_iload (n := 972) C dL_law_970 rfl rfl ?_
  refine r_iconst (v := 1) (n := 973) C dL_law_972 rfl rfl ?_
  refine r_iadd (n := 974) C dL_law_973 rfl ?_
  refine r_sld (n := 975) C hX hbl hbA hL (i + 1) (add_nI (a := i) (b := 1) rfl rfl) (by omega) dL_law_974 rfl ?_
  refine kL_142 (n := 978) C hB hz (by decide) ⟨by show _ ≤ 601024; omega, by show _ ≤ 7293034; omega⟩ (Nat.le_of_ble_eq_true rfl) dL_law_975 rfl (fun v T1 hv => ?_)
  have hf := hF v T1 hv
  refine r_istore (n := 980) C dL_law_978 (by decide) rfl rfl ?_
  refine r_aload_n (i := 2) (n := 981) C dL_law_980 rfl rfl rfl ?_
  refine kL_83 (n := 984) C (m_thr hst hf.2.2) (Rl.z8 hf.2.2) (by decide) ⟨by show _ ≤ 601024; omega, by show _ ≤ 7293034; omega⟩ (Nat.le_of_ble_eq_true rfl) dL_law_981 rfl (fun r2 T2 h2 => ?_)
  obtain ⟨rfl, rfl⟩ := h2
  refine r_iload (n := 986) C dL_law_984 rfl rfl ?_
  refine r_icmp_eqT (t := 991) C hf.1 dL_law_986 (by decide) ?_
  refine r_iload (n := 993) C dL_law_991 rfl rfl ?_
  by_cases hr0 : r = 0
  · refine r_if_neF (n := 996) (t := 1008) C hr0 dL_law_993 (by decide) rfl ?_
    refine r_aload_n (i := 3) (n := 997) C dL_law_996 rfl rfl rfl ?_
    refine r_iconst (v := 0) (n := 998) C dL_law_997 rfl rfl ?_
    refine q_lald (n := 999) C 0 (Rl.oL hf.2.2) rfl (by decide) dL_law_998 rfl ?_
    refine r_iload (n := 1001) C dL_law_999 rfl rfl ?_
    refine r_i2l (n := 1002) C dL_law_1001 rfl ?_
    refine r_lcmp (n := 1003) C dL_law_1002 rfl ?_
    refine r_if_eqT (t := 1008) C (by rw [hf.2.1 hr0]; exact lgc _) dL_law_1003 (by decide) ?_
    refine r_goto (t := 1279) C dL_law_1008 (by decide) ?_
    exact J.to rfl (J.wide (by omega) (by omega) (kk _ hf.2.2))
  · refine r_if_neT (t := 1008) C hr0 dL_law_993 (by decide) ?_
    refine r_goto (t := 1279) C dL_law_1008 (by decide) ?_
    exact J.to rfl (J.wide (by omega) (by omega) (kk _ hf.2.2))
set_option maxRecDepth 100000 in
set_option maxHeartbeats 1000000 in
theorem lw_c16 (C : Cx p l s m args meth c cL_law 9 RL (some .boolean) G b) (hst : l.stackTraces = false) {bs L : Nat} {xs : Nat → Int32} (hX : va_X bs L xs s s.heap) (hbl : bs < s.heap.size) (hbA : ¬ Ab b bs) (hL : L ≤ 2560) {i q k z out outD : Nat} (hi : i + 5 ≤ L) (h : Rl S k z out outD q) (hq : q < 512) (hcs : cells + 20 ≤ 601024 ∧ slots + 1600 ≤ 7293034) (kk : ∀ S', Rl S' k z out outD (q + 1) → J p l e room_1 s m args below meth c 9 G b Q 1279 [(0, .ref bs), (1, .ref k), (2, .ref z), (3, .ref out), (4, .ref outD), (5, .int (nI i))] [] S' (cells + 20) (slots + 1600)) : J p l e room_1 s m args below meth c 9 G b Q 1011 [(0, .ref bs), (1, .ref k), (2, .ref z), (3, .ref out), (4, .ref outD), (5, .int (nI i))] [] S cells slots := by
  obtain ⟨P, hA, hP⟩ := s_late (l := l) (G := G) (b := b) hst h hq (xs (i + 1))
  refine r_aload_n (i := 1) (n := 1012) C dL_law_1011 rfl rfl rfl ?_
  refine r_aload_n (i := 0) (n := 1013) C dL_law_1012 rfl rfl rfl ?_
  refine r_iload (n := 1015) C dL_law_1013 rfl rfl ?_
  refine r_iconst (v := 1) (n := 1016) C dL_law_1015 rfl rfl ?_
  refine r_iadd (n := 1017) C dL_law_1016 rfl ?_
  refine r_sld (n := 1018) C hX hbl hbA hL (i + 1) (add_nI (a := i) (b := 1) rfl rfl) (by omega) dL_law_1017 rfl ?_
  refine r_aload_n (i := 3) (n := 1019) C dL_law_1018 rfl rfl rfl ?_
  refine kL_143 (n := 1022) C hA (by decide) ⟨by show _ ≤ 601024; omega, by show _ ≤ 7293034; omega⟩ (Nat.le_of_ble_eq_true rfl) dL_law_1019 rfl (fun r T hp => ?_)
  obtain ⟨Pm, hB, hz, hF⟩ := hP r T hp
  refine r_istore (n := 1024) C dL_law_1022 (by decide) rfl rfl ?_
  refine r_aload_n (i := 2) (n := 1025) C dL_law_1024 rfl rfl rfl ?_
  refine r_aload_n (i := 0) (n := 1026) C dL_law_1025 rfl rfl rfl ?_
  refine r_iload (n := 1028) C dL_law_1026 rfl rfl ?_
  refine r_iconst (v := 1) (n := 1029) C dL_law_1028 rfl rfl ?_
  refine r_iadd (n := 1030) C dL_law_1029 rfl ?_
  refine r_sld (n := 1031) C hX hbl hbA hL (i + 1) (add_nI (a := i) (b := 1) rfl rfl) (by omega) dL_law_1030 rfl ?_
  refine kL_145 (n := 1034) C hB hz (by decide) ⟨by show _ ≤ 601024; omega, by show _ ≤ 7293034; omega⟩ (Nat.le_of_ble_eq_true rfl) dL_law_1031 rfl (fun v T1 hv => ?_)
  have hf := hF v T1 hv
  refine r_istore (n := 1036) C dL_law_1034 (by decide) rfl rfl ?_
  refine r_aload_n (i := 2) (n := 1037) C dL_law_1036 rfl rfl rfl ?_
  refine kL_83 (n := 1040) C (m_thr hst hf.2.2) (Rl.z8 hf.2.2) (by decide) ⟨by show _ ≤ 601024; omega, by show _ ≤ 7293034; omega⟩ (Nat.le_of_ble_eq_true rfl) dL_law_1037 rfl (fun r2 T2 h2 => ?_)
  obtain ⟨rfl, rfl⟩ := h2
  refine r_iload (n := 1042) C dL_law_1040 rfl rfl ?_
  refine r_icmp_eqT (t := 1047) C hf.1 dL_law_1042 (by decide) ?_
  refine r_iload (n := 1049) C dL_law_1047 rfl rfl ?_
  by_cases hr0 : r = 0
  · refine r_if_neF (n := 1052) (t := 1064) C hr0 dL_law_1049 (by decide) rfl ?_
    refine r_aload_n (i := 3) (n := 1053) C dL_law_1052 rfl rfl rfl ?_
    refine r_iconst (v := 0) (n := 1054) C dL_law_1053 rfl rfl ?_
    refine q_lald (n := 1055) C 0 (Rl.oL hf.2.2) rfl (by decide) dL_law_1054 rfl ?_
    refine r_iload (n := 1057) C dL_law_1055 rfl rfl ?_
    refine r_i2l (n := 1058) C dL_law_1057 rfl ?_
    refine r_lcmp (n := 1059) C dL_law_1058 rfl ?_
    refine r_if_eqT (t := 1064) C (by rw [hf.2.1 hr0]; exact lgc _) dL_law_1059 (by decide) ?_
    refine r_goto (t := 1279) C dL_law_1064 (by decide) ?_
    exact J.to rfl (J.wide (by omega) (by omega) (kk _ hf.2.2))
  · refine r_if_neT (t := 1064) C hr0 dL_law_1049 (by decide) ?_
    refine r_goto (t := 1279) C dL_law_1064 (by decide) ?_
    exact J.to rfl (J.wide (by omega) (by omega) (kk _ hf.2.2))
set_option maxRecDepth 100000 in
set_option maxHeartbeats 1000000 in
theorem lw_c17 (C : Cx p l s m args meth c cL_law 9 RL (some .boolean) G b) (hst : l.stackTraces = false) {bs L : Nat} {xs : Nat → Int32} (hX : va_X bs L xs s s.heap) (hbl : bs < s.heap.size) (hbA : ¬ Ab b bs) (hL : L ≤ 2560) {i q k z out outD : Nat} (hi : i + 5 ≤ L) (h : Rl S k z out outD q) (hq : q < 512) (hcs : cells + 20 ≤ 601024 ∧ slots + 1600 ≤ 7293034) (kk : ∀ S', Rl S' k z out outD (q + 1) → J p l e room_1 s m args below meth c 9 G b Q 1279 [(0, .ref bs), (1, .ref k), (2, .ref z), (3, .ref out), (4, .ref outD), (5, .int (nI i))] [] S' (cells + 20) (slots + 1600)) : J p l e room_1 s m args below meth c 9 G b Q 1067 [(0, .ref bs), (1, .ref k), (2, .ref z), (3, .ref out), (4, .ref outD), (5, .int (nI i))] [] S cells slots := by
  obtain ⟨P, hA, hP⟩ := s_level (l := l) (G := G) (b := b) hst h hq (xs (i + 1))
  refine r_aload_n (i := 1) (n := 1068) C dL_law_1067 rfl rfl rfl ?_
  refine r_aload_n (i := 0) (n := 1069) C dL_law_1068 rfl rfl rfl ?_
  refine r_iload (n := 1071) C dL_law_1069 rfl rfl ?_
  refine r_iconst (v := 1) (n := 1072) C dL_law_1071 rfl rfl ?_
  refine r_iadd (n := 1073) C dL_law_1072 rfl ?_
  refine r_sld (n := 1074) C hX hbl hbA hL (i + 1) (add_nI (a := i) (b := 1) rfl rfl) (by omega) dL_law_1073 rfl ?_
  refine r_aload (n := 1076) C dL_law_1074 rfl rfl ?_
  refine kL_146 (n := 1079) C hA (by decide) ⟨by show _ ≤ 601024; omega, by show _ ≤ 7293034; omega⟩ (Nat.le_of_ble_eq_true rfl) dL_law_1076 rfl (fun r T hp => ?_)
  obtain ⟨Pm, hB, hz, hF⟩ := hP r T hp
  refine r_istore (n := 1081) C dL_law_1079 (by decide) rfl rfl ?_
  refine r_aload_n (i := 2) (n := 1082) C dL_law_1081 rfl rfl rfl ?_
  refine r_aload_n (i := 0) (n := 1083) C dL_law_1082 rfl rfl rfl ?_
  refine r_iload (n := 1085) C dL_law_1083 rfl rfl ?_
  refine r_iconst (v := 1) (n := 1086) C dL_law_1085 rfl rfl ?_
  refine r_iadd (n := 1087) C dL_law_1086 rfl ?_
  refine r_sld (n := 1088) C hX hbl hbA hL (i + 1) (add_nI (a := i) (b := 1) rfl rfl) (by omega) dL_law_1087 rfl ?_
  refine kL_149 (n := 1091) C hB hz (by decide) ⟨by show _ ≤ 601024; omega, by show _ ≤ 7293034; omega⟩ (Nat.le_of_ble_eq_true rfl) dL_law_1088 rfl (fun v T1 hv => ?_)
  have hf := hF v T1 hv
  refine r_dstore (n := 1093) C dL_law_1091 (by decide) rfl rfl ?_
  refine r_aload_n (i := 2) (n := 1094) C dL_law_1093 rfl rfl rfl ?_
  refine kL_83 (n := 1097) C (m_thr hst hf.2.2) (Rl.z8 hf.2.2) (by decide) ⟨by show _ ≤ 601024; omega, by show _ ≤ 7293034; omega⟩ (Nat.le_of_ble_eq_true rfl) dL_law_1094 rfl (fun r2 T2 h2 => ?_)
  obtain ⟨rfl, rfl⟩ := h2
  refine r_iload (n := 1099) C dL_law_1097 rfl rfl ?_
  refine r_icmp_eqT (t := 1104) C hf.1 dL_law_1099 (by decide) ?_
  refine r_iload (n := 1106) C dL_law_1104 rfl rfl ?_
  by_cases hr0 : r = 0
  · refine r_if_neF (n := 1109) (t := 1141) C hr0 dL_law_1106 (by decide) rfl ?_
    rcases dcm v with hd | hd
    · refine r_aload (n := 1111) C dL_law_1109 rfl rfl ?_
      refine r_iconst (v := 0) (n := 1112) C dL_law_1111 rfl rfl ?_
      refine q_dald (n := 1113) C 0 (Rl.oD hf.2.2) rfl (by decide) dL_law_1112 rfl ?_
      refine r_dload (n := 1115) C dL_law_1113 rfl rfl ?_
      refine r_dcmp (n := 1116) C dL_law_1115 rfl ?_
      refine r_if_eqT (t := 1141) C (by rw [hf.2.1 hr0, hd]; rfl) dL_law_1116 (by decide) ?_
      refine r_goto (t := 1279) C dL_law_1141 (by decide) ?_
      exact J.to rfl (J.wide (by omega) (by omega) (kk _ hf.2.2))
    · refine r_aload (n := 1111) C dL_law_1109 rfl rfl ?_
      refine r_iconst (v := 0) (n := 1112) C dL_law_1111 rfl rfl ?_
      refine q_dald (n := 1113) C 0 (Rl.oD hf.2.2) rfl (by decide) dL_law_1112 rfl ?_
      refine r_dload (n := 1115) C dL_law_1113 rfl rfl ?_
      refine r_dcmp (n := 1116) C dL_law_1115 rfl ?_
      refine r_if_eqF (n := 1119) (t := 1141) C (by rw [hf.2.1 hr0, hd]; decide) dL_law_1116 (by decide) rfl ?_
      refine r_aload (n := 1121) C dL_law_1119 rfl rfl ?_
      refine r_iconst (v := 0) (n := 1122) C dL_law_1121 rfl rfl ?_
      refine q_dald (n := 1123) C 0 (Rl.oD hf.2.2) rfl (by decide) dL_law_1122 rfl ?_
      refine r_aload (n := 1125) C dL_law_1123 rfl rfl ?_
      refine r_iconst (v := 0) (n := 1126) C dL_law_1125 rfl rfl ?_
      refine q_dald (n := 1127) C 0 (Rl.oD hf.2.2) rfl (by decide) dL_law_1126 rfl ?_
      refine r_dcmp (n := 1128) C dL_law_1127 rfl ?_
      refine r_if_eqF (n := 1131) (t := 1139) C (by rw [hf.2.1 hr0, hd]; decide) dL_law_1128 (by decide) rfl ?_
      refine r_dload (n := 1133) C dL_law_1131 rfl rfl ?_
      refine r_dload (n := 1135) C dL_law_1133 rfl rfl ?_
      refine r_dcmp (n := 1136) C dL_law_1135 rfl ?_
      refine r_if_neT (t := 1141) C (by rw [hd]; decide) dL_law_1136 (by decide) ?_
      refine r_goto (t := 1279) C dL_law_1141 (by decide) ?_
      exact J.to rfl (J.wide (by omega) (by omega) (kk _ hf.2.2))
  · refine r_if_neT (t := 1141) C hr0 dL_law_1106 (by decide) ?_
    refine r_goto (t := 1279) C dL_law_1141 (by decide) ?_
    exact J.to rfl (J.wide (by omega) (by omega) (kk _ hf.2.2))
set_option maxRecDepth 100000 in
set_option maxHeartbeats 1000000 in
theorem lw_c18 (C : Cx p l s m args meth c cL_law 9 RL (some .boolean) G b) (hst : l.stackTraces = false) {bs L : Nat} {xs : Nat → Int32} (hX : va_X bs L xs s s.heap) (hbl : bs < s.heap.size) (hbA : ¬ Ab b bs) (hL : L ≤ 2560) {i q k z out outD : Nat} (hi : i + 5 ≤ L) (h : Rl S k z out outD q) (hq : q < 512) (hcs : cells + 20 ≤ 601024 ∧ slots + 1600 ≤ 7293034) (kk : ∀ S', Rl S' k z out outD (q + 1) → J p l e room_1 s m args below meth c 9 G b Q 1279 [(0, .ref bs), (1, .ref k), (2, .ref z), (3, .ref out), (4, .ref outD), (5, .int (nI i))] [] S' (cells + 20) (slots + 1600)) : J p l e room_1 s m args below meth c 9 G b Q 1144 [(0, .ref bs), (1, .ref k), (2, .ref z), (3, .ref out), (4, .ref outD), (5, .int (nI i))] [] S cells slots := by
  obtain ⟨P, hA, hP⟩ := s_clipped (l := l) (G := G) (b := b) hst h hq
  refine r_aload_n (i := 1) (n := 1145) C dL_law_1144 rfl rfl rfl ?_
  refine kL_150 (n := 1148) C hA h.k7 (by decide) ⟨by show _ ≤ 601024; omega, by show _ ≤ 7293034; omega⟩ (Nat.le_of_ble_eq_true rfl) dL_law_1145 rfl (fun r T hp => ?_)
  obtain ⟨Pm, hB, hz, hF⟩ := hP r T hp
  refine r_aload_n (i := 2) (n := 1149) C dL_law_1148 rfl rfl rfl ?_
  refine kL_153 (n := 1152) C hB hz (by decide) ⟨by show _ ≤ 601024; omega, by show _ ≤ 7293034; omega⟩ (Nat.le_of_ble_eq_true rfl) dL_law_1149 rfl (fun v T1 hv => ?_)
  have hf := hF v T1 hv
  refine r_icmp_eqT (t := 1279) C hf.1.symm dL_law_1152 (by decide) ?_
  exact J.to rfl (J.wide (by omega) (by omega) (kk _ hf.2))
set_option maxRecDepth 100000 in
set_option maxHeartbeats 1000000 in
theorem lw_c19 (C : Cx p l s m args meth c cL_law 9 RL (some .boolean) G b) (hst : l.stackTraces = false) {bs L : Nat} {xs : Nat → Int32} (hX : va_X bs L xs s s.heap) (hbl : bs < s.heap.size) (hbA : ¬ Ab b bs) (hL : L ≤ 2560) {i q k z out outD : Nat} (hi : i + 5 ≤ L) (h : Rl S k z out outD q) (hq : q < 512) (hcs : cells + 20 ≤ 601024 ∧ slots + 1600 ≤ 7293034) (kk : ∀ S', Rl S' k z out outD (q + 1) → J p l e room_1 s m args below meth c 9 G b Q 1279 [(0, .ref bs), (1, .ref k), (2, .ref z), (3, .ref out), (4, .ref outD), (5, .int (nI i))] [] S' (cells + 20) (slots + 1600)) : J p l e room_1 s m args below meth c 9 G b Q 1157 [(0, .ref bs), (1, .ref k), (2, .ref z), (3, .ref out), (4, .ref outD), (5, .int (nI i))] [] S cells slots := by
  by_cases hb : xs (i + 1) = 0
  · obtain ⟨P, hA, hP⟩ := s_limit (l := l) (G := G) (b := b) hst h hq 0 (by decide)
    refine r_aload_n (i := 1) (n := 1158) C dL_law_1157 rfl rfl rfl ?_
    refine r_aload_n (i := 0) (n := 1159) C dL_law_1158 rfl rfl rfl ?_
    refine r_iload (n := 1161) C dL_law_1159 rfl rfl ?_
    refine r_iconst (v := 1) (n := 1162) C dL_law_1161 rfl rfl ?_
    refine r_iadd (n := 1163) C dL_law_1162 rfl ?_
    refine r_sld (n := 1164) C hX hbl hbA hL (i + 1) (add_nI (a := i) (b := 1) rfl rfl) (by omega) dL_law_1163 rfl ?_
    refine r_if_eqT (t := 1171) C hb dL_law_1164 (by decide) ?_
    refine r_iconst (v := 0) (n := 1172) C dL_law_1171 rfl rfl ?_
    refine kL_154 (n := 1175) C hA h.k7 (by decide) ⟨by show _ ≤ 601024; omega, by show _ ≤ 7293034; omega⟩ (Nat.le_of_ble_eq_true rfl) dL_law_1172 rfl (fun r T hp => ?_)
    obtain ⟨Pm, hB, hz, hF⟩ := hP r T hp
    refine r_aload_n (i := 2) (n := 1176) C dL_law_1175 rfl rfl rfl ?_
    refine r_aload_n (i := 0) (n := 1177) C dL_law_1176 rfl rfl rfl ?_
    refine r_iload (n := 1179) C dL_law_1177 rfl rfl ?_
    refine r_iconst (v := 1) (n := 1180) C dL_law_1179 rfl rfl ?_
    refine r_iadd (n := 1181) C dL_law_1180 rfl ?_
    refine r_sld (n := 1182) C hX hbl hbA hL (i + 1) (add_nI (a := i) (b := 1) rfl rfl) (by omega) dL_law_1181 rfl ?_
    refine r_if_eqT (t := 1189) C hb dL_law_1182 (by decide) ?_
    refine r_iconst (v := 0) (n := 1190) C dL_law_1189 rfl rfl ?_
    refine kL_158 (n := 1193) C hB hz (by decide) ⟨by show _ ≤ 601024; omega, by show _ ≤ 7293034; omega⟩ (Nat.le_of_ble_eq_true rfl) dL_law_1190 rfl (fun v T1 hv => ?_)
    have hf := hF v T1 hv
    refine r_icmp_eqT (t := 1279) C hf.1.symm dL_law_1193 (by decide) ?_
    exact J.to rfl (J.wide (by omega) (by omega) (kk _ hf.2))
  · obtain ⟨P, hA, hP⟩ := s_limit (l := l) (G := G) (b := b) hst h hq 1 (by decide)
    refine r_aload_n (i := 1) (n := 1158) C dL_law_1157 rfl rfl rfl ?_
    refine r_aload_n (i := 0) (n := 1159) C dL_law_1158 rfl rfl rfl ?_
    refine r_iload (n := 1161) C dL_law_1159 rfl rfl ?_
    refine r_iconst (v := 1) (n := 1162) C dL_law_1161 rfl rfl ?_
    refine r_iadd (n := 1163) C dL_law_1162 rfl ?_
    refine r_sld (n := 1164) C hX hbl hbA hL (i + 1) (add_nI (a := i) (b := 1) rfl rfl) (by omega) dL_law_1163 rfl ?_
    refine r_if_eqF (n := 1167) (t := 1171) C hb dL_law_1164 (by decide) rfl ?_
    refine r_iconst (v := 1) (n := 1168) C dL_law_1167 rfl rfl ?_
    refine r_goto (t := 1172) C dL_law_1168 (by decide) ?_
    refine kL_154 (n := 1175) C hA h.k7 (by decide) ⟨by show _ ≤ 601024; omega, by show _ ≤ 7293034; omega⟩ (Nat.le_of_ble_eq_true rfl) dL_law_1172 rfl (fun r T hp => ?_)
    obtain ⟨Pm, hB, hz, hF⟩ := hP r T hp
    refine r_aload_n (i := 2) (n := 1176) C dL_law_1175 rfl rfl rfl ?_
    refine r_aload_n (i := 0) (n := 1177) C dL_law_1176 rfl rfl rfl ?_
    refine r_iload (n := 1179) C dL_law_1177 rfl rfl ?_
    refine r_iconst (v := 1) (n := 1180) C dL_law_1179 rfl rfl ?_
    refine r_iadd (n := 1181) C dL_law_1180 rfl ?_
    refine r_sld (n := 1182) C hX hbl hbA hL (i + 1) (add_nI (a := i) (b := 1) rfl rfl) (by omega) dL_law_1181 rfl ?_
    refine r_if_eqF (n := 1185) (t := 1189) C hb dL_law_1182 (by decide) rfl ?_
    refine r_iconst (v := 1) (n := 1186) C dL_law_1185 rfl rfl ?_
    refine r_goto (t := 1190) C dL_law_1186 (by decide) ?_
    refine kL_158 (n := 1193) C hB hz (by decide) ⟨by show _ ≤ 601024; omega, by show _ ≤ 7293034; omega⟩ (Nat.le_of_ble_eq_true rfl) dL_law_1190 rfl (fun v T1 hv => ?_)
    have hf := hF v T1 hv
    refine r_icmp_eqT (t := 1279) C hf.1.symm dL_law_1193 (by decide) ?_
    exact J.to rfl (J.wide (by omega) (by omega) (kk _ hf.2))
set_option maxRecDepth 100000 in
set_option maxHeartbeats 1000000 in
theorem lw_c20 (C : Cx p l s m args meth c cL_law 9 RL (some .boolean) G b) (hst : l.stackTraces = false) {bs L : Nat} {xs : Nat → Int32} (hX : va_X bs L xs s s.heap) (hbl : bs < s.heap.size) (hbA : ¬ Ab b bs) (hL : L ≤ 2560) {i q k z out outD : Nat} (hi : i + 5 ≤ L) (h : Rl S k z out outD q) (hq : q < 512) (hcs : cells + 20 ≤ 601024 ∧ slots + 1600 ≤ 7293034) (kk : ∀ S', Rl S' k z out outD (q + 1) → J p l e room_1 s m args below meth c 9 G b Q 1279 [(0, .ref bs), (1, .ref k), (2, .ref z), (3, .ref out), (4, .ref outD), (5, .int (nI i))] [] S' (cells + 20) (slots + 1600)) : J p l e room_1 s m args below meth c 9 G b Q 1198 [(0, .ref bs), (1, .ref k), (2, .ref z), (3, .ref out), (4, .ref outD), (5, .int (nI i))] [] S cells slots := by
  obtain ⟨P, hA, hP⟩ := s_value (l := l) (G := G) (b := b) hst h hq
  refine r_aload_n (i := 1) (n := 1199) C dL_law_1198 rfl rfl rfl ?_
  refine kL_159 (n := 1202) C hA h.k7 (by decide) ⟨by show _ ≤ 601024; omega, by show _ ≤ 7293034; omega⟩ (Nat.le_of_ble_eq_true rfl) dL_law_1199 rfl (fun r T hp => ?_)
  obtain ⟨Pm, hB, hz, hF⟩ := hP r T hp
  refine r_aload_n (i := 2) (n := 1203) C dL_law_1202 rfl rfl rfl ?_
  refine kL_162 (n := 1206) C hB hz (by decide) ⟨by show _ ≤ 601024; omega, by show _ ≤ 7293034; omega⟩ (Nat.le_of_ble_eq_true rfl) dL_law_1203 rfl (fun v T1 hv => ?_)
  have hf := hF v T1 hv
  refine r_icmp_eqT (t := 1279) C hf.1.symm dL_law_1206 (by decide) ?_
  exact J.to rfl (J.wide (by omega) (by omega) (kk _ hf.2))
set_option maxRecDepth 100000 in
set_option maxHeartbeats 1000000 in
theorem lw_c21 (C : Cx p l s m args meth c cL_law 9 RL (some .boolean) G b) (hst : l.stackTraces = false) {bs L : Nat} {xs : Nat → Int32} (hX : va_X bs L xs s s.heap) (hbl : bs < s.heap.size) (hbA : ¬ Ab b bs) (hL : L ≤ 2560) {i q k z out outD : Nat} (hi : i + 5 ≤ L) (h : Rl S k z out outD q) (hq : q < 512) (hcs : cells + 20 ≤ 601024 ∧ slots + 1600 ≤ 7293034) (kk : ∀ S', Rl S' k z out outD (q + 1) → J p l e room_1 s m args below meth c 9 G b Q 1279 [(0, .ref bs), (1, .ref k), (2, .ref z), (3, .ref out), (4, .ref outD), (5, .int (nI i))] [] S' (cells + 20) (slots + 1600)) : J p l e room_1 s m args below meth c 9 G b Q 1211 [(0, .ref bs), (1, .ref k), (2, .ref z), (3, .ref out), (4, .ref outD), (5, .int (nI i))] [] S cells slots := by
  obtain ⟨P, hA, hP⟩ := s_tap (l := l) (G := G) (b := b) hst h hq (xs (i + 1)) (xs (i + 2))
  refine r_aload_n (i := 1) (n := 1212) C dL_law_1211 rfl rfl rfl ?_
  refine r_aload_n (i := 0) (n := 1213) C dL_law_1212 rfl rfl rfl ?_
  refine r_iload (n := 1215) C dL_law_1213 rfl rfl ?_
  refine r_iconst (v := 1) (n := 1216) C dL_law_1215 rfl rfl ?_
  refine r_iadd (n := 1217) C dL_law_1216 rfl ?_
  refine r_sld (n := 1218) C hX hbl hbA hL (i + 1) (add_nI (a := i) (b := 1) rfl rfl) (by omega) dL_law_1217 rfl ?_
  refine r_aload_n (i := 0) (n := 1219) C dL_law_1218 rfl rfl rfl ?_
  refine r_iload (n := 1221) C dL_law_1219 rfl rfl ?_
  refine r_iconst (v := 2) (n := 1222) C dL_law_1221 rfl rfl ?_
  refine r_iadd (n := 1223) C dL_law_1222 rfl ?_
  refine r_sld (n := 1224) C hX hbl hbA hL (i + 2) (add_nI (a := i) (b := 2) rfl rfl) (by omega) dL_law_1223 rfl ?_
  refine r_aload_n (i := 3) (n := 1225) C dL_law_1224 rfl rfl rfl ?_
  refine kL_163 (n := 1228) C hA (by decide) ⟨by show _ ≤ 601024; omega, by show _ ≤ 7293034; omega⟩ (Nat.le_of_ble_eq_true rfl) dL_law_1225 rfl (fun r T hp => ?_)
  obtain ⟨Pm, hB, hz, hF⟩ := hP r T hp
  refine r_istore (n := 1230) C dL_law_1228 (by decide) rfl rfl ?_
  refine r_aload_n (i := 2) (n := 1231) C dL_law_1230 rfl rfl rfl ?_
  refine r_aload_n (i := 0) (n := 1232) C dL_law_1231 rfl rfl rfl ?_
  refine r_iload (n := 1234) C dL_law_1232 rfl rfl ?_
  refine r_iconst (v := 1) (n := 1235) C dL_law_1234 rfl rfl ?_
  refine r_iadd (n := 1236) C dL_law_1235 rfl ?_
  refine r_sld (n := 1237) C hX hbl hbA hL (i + 1) (add_nI (a := i) (b := 1) rfl rfl) (by omega) dL_law_1236 rfl ?_
  refine r_aload_n (i := 0) (n := 1238) C dL_law_1237 rfl rfl rfl ?_
  refine r_iload (n := 1240) C dL_law_1238 rfl rfl ?_
  refine r_iconst (v := 2) (n := 1241) C dL_law_1240 rfl rfl ?_
  refine r_iadd (n := 1242) C dL_law_1241 rfl ?_
  refine r_sld (n := 1243) C hX hbl hbA hL (i + 2) (add_nI (a := i) (b := 2) rfl rfl) (by omega) dL_law_1242 rfl ?_
  refine kL_165 (n := 1246) C hB hz (by decide) ⟨by show _ ≤ 601024; omega, by show _ ≤ 7293034; omega⟩ (Nat.le_of_ble_eq_true rfl) dL_law_1243 rfl (fun v T1 hv => ?_)
  have hf := hF v T1 hv
  refine r_istore (n := 1248) C dL_law_1246 (by decide) rfl rfl ?_
  refine r_aload_n (i := 2) (n := 1249) C dL_law_1248 rfl rfl rfl ?_
  refine kL_83 (n := 1252) C (m_thr hst hf.2.2) (Rl.z8 hf.2.2) (by decide) ⟨by show _ ≤ 601024; omega, by show _ ≤ 7293034; omega⟩ (Nat.le_of_ble_eq_true rfl) dL_law_1249 rfl (fun r2 T2 h2 => ?_)
  obtain ⟨rfl, rfl⟩ := h2
  refine r_iload (n := 1254) C dL_law_1252 rfl rfl ?_
  refine r_icmp_eqT (t := 1259) C hf.1 dL_law_1254 (by decide) ?_
  refine r_iload (n := 1261) C dL_law_1259 rfl rfl ?_
  by_cases hr0 : r = 0
  · refine r_if_neF (n := 1264) (t := 1276) C hr0 dL_law_1261 (by decide) rfl ?_
    refine r_aload_n (i := 3) (n := 1265) C dL_law_1264 rfl rfl rfl ?_
    refine r_iconst (v := 0) (n := 1266) C dL_law_1265 rfl rfl ?_
    refine q_lald (n := 1267) C 0 (Rl.oL hf.2.2) rfl (by decide) dL_law_1266 rfl ?_
    refine r_iload (n := 1269) C dL_law_1267 rfl rfl ?_
    refine r_i2l (n := 1270) C dL_law_1269 rfl ?_
    refine r_lcmp (n := 1271) C dL_law_1270 rfl ?_
    refine r_if_eqT (t := 1276) C (by rw [hf.2.1 hr0]; exact lgc _) dL_law_1271 (by decide) ?_
    refine r_goto (t := 1279) C dL_law_1276 (by decide) ?_
    exact J.to rfl (J.wide (by omega) (by omega) (kk _ hf.2.2))
  · refine r_if_neT (t := 1276) C hr0 dL_law_1261 (by decide) ?_
    refine r_goto (t := 1279) C dL_law_1276 (by decide) ?_
    exact J.to rfl (J.wide (by omega) (by omega) (kk _ hf.2.2))
end
