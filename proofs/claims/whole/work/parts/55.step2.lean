/-! ===== level, clipped, value, limit, tap, played ===== -/
section
variable {l : Launch} {G : GG} {b : Nat} {S : Sw} {k z out outD q : Nat}
theorem s_level (hst : l.stackTraces = false) (h : Rl S k z out outD q) (hq : q < 512) (c0 : Int32) : St2 z (CtW l G b yL_level cL_level 4 (some .int) [(0, 8, 11, 13)] rmL_level mI [.ref k, .int c0, .ref outD] S) (fun T => Ct l G b yX8_level cX8_level 2 (some .double) rmX8_level mD [.ref z, .int c0] T) (FinD k z out outD q) := by
  obtain ⟨E, κ, Ui, Uj, Ua, V, W, D, o, np, rp, m, rfl, rfl, rfl, rfl, hV, hR⟩ := h
  by_cases hc : ∃ j, j < 6 ∧ c0 = nI j ∧ ¬ V 802 j = 0
  · obtain ⟨j, hj, rfl, hth⟩ := hc
    rcases cl_at hV hR hj hth with ⟨hk, hs, hp, n, nx, hd, rr, hpl⟩ | ⟨hk, hs, hp, hz, hh, rk, rr, rd, wh, hls⟩
    · have u := pl_u (i := 0) hj hk (by omega)
      have hM := c_level_y (l := l) (G := G) (b := b) hst S (E 30) (E 34) hV.k7 hV.cl hV.ic j _ hj hs.1 hs.2.1 (fp_div48 _)
      have e1 : FP.ddiv (FP.l2d (fJ S 514 (E (uc j)))) 4631952216750555136 = D j := by rw [show fJ S 514 (E (uc j)) = Uj (uc j) 514 from hV.jj u.1 u.2 514]; exact hpl.2.2.2.2.1.symm
      rw [e1] at hM
      refine ⟨_, l_level_y hst S (E 30) hV.k7 (nI j) (E 902) _ hM (fun v T h => by rw [h.1]; exact hV.oDd), ?_⟩
      rintro r T ⟨rfl, v1, T1, ⟨rfl, rfl⟩, rfl⟩
      refine ⟨_, m_level_p hst _ (E 900) E hV.oD.ly j hj (by rw [hV.oD.m (by decide)]; exact hth) (by rw [hV.oD.m (by decide)]; exact hp), hV.oD.z8, ?_⟩
      rintro w T' ⟨rfl, rfl⟩
      refine ⟨fI800, fun _ => ?_, Rl.mk' hV.oD.m8 (hR.idle (by omega))⟩
      rw [hV.oD.2.2.2.2.2.2 j]
      exact if_pos ⟨rfl, rfl⟩
    · exact rejD hV hR hq 1 _ (by decide) (l_level_t1 hst S (E 30) hV.k7 _ (E 902) (c_level_l hst S (E 30) (E 34) hV.k7 hV.cl hV.ic j _ hj hs.1 hs.2.1)) (m_level_l hst S (E 900) E hV.ly j hj (by rw [hV.m (by decide)]; exact hth) (by rw [hV.m (by decide)]; exact hp))
  · have hn := cl_no hV hR hc
    exact rejD hV hR hq 1 _ (by decide) (l_level_t1 hst S (E 30) hV.k7 c0 (E 902) (c_level_n hst S (E 30) (E 34) hV.k7 hV.cl hV.ic c0 hn.1)) (m_level_n hst S (E 900) E hV.ly c0 hn.2)
theorem RV.lm {S : Sw} {E κ : Nat → Nat} {Ui : Nat → Nat → Int32} {Uj : Nat → Nat → Int64} {Ua : Nat → Nat → Int32} {V : Nat → Nat → Int32} {W : Nat → Int32} {D : Nat → UInt64} (h : RV S E κ Ui Uj Ua V W D) : fR S 701 (E 30) = some (E 33) := h.2.1.1.1.2.2.1
theorem RV.l3 {S : Sw} {E κ : Nat → Nat} {Ui : Nat → Nat → Int32} {Uj : Nat → Nat → Int64} {Ua : Nat → Nat → Int32} {V : Nat → Nat → Int32} {W : Nat → Int32} {D : Nat → UInt64} (h : RV S E κ Ui Uj Ua V W D) : sK S (E 33) = 3 := h.2.1.1.2.2.1
theorem s_clipped (hst : l.stackTraces = false) (h : Rl S k z out outD q) (hq : q < 512) : St2 z (Ct l G b yX7_clipped cX7_clipped 1 (some .int) rmX7_clipped mI [.ref k] S) (fun T => Ct l G b yX8_clipped cX8_clipped 1 (some .int) rmX8_clipped mI [.ref z] T) (FinE k z out outD q) := by
  obtain ⟨E, κ, Ui, Uj, Ua, V, W, D, o, np, rp, m, rfl, rfl, rfl, rfl, hV, hR⟩ := h
  refine ⟨_, c_clipped hst S (E 30) hV.k7 (E 33) hV.lm hV.l3, ?_⟩
  rintro r T ⟨rfl, rfl⟩
  refine ⟨_, m_clipped hst _ (E 900) E hV.ly, hV.z8, ?_⟩
  rintro w T' ⟨rfl, rfl⟩
  refine ⟨?_, Rl.mk' hV.m8 (hR.idle (by omega))⟩
  rw [hV.w (by decide), hV.i (us.b (by decide)) (by decide), hR.1.2.1.2.2.2.1]
theorem s_value (hst : l.stackTraces = false) (h : Rl S k z out outD q) (hq : q < 512) : St2 z (Ct l G b yX7_value cX7_value 1 (some .int) rmX7_value mI [.ref k] S) (fun T => Ct l G b yX8_value cX8_value 1 (some .int) rmX8_value mI [.ref z] T) (FinE k z out outD q) := by
  obtain ⟨E, κ, Ui, Uj, Ua, V, W, D, o, np, rp, m, rfl, rfl, rfl, rfl, hV, hR⟩ := h
  refine ⟨_, c_value hst S (E 30) hV.k7 (E 33) hV.lm hV.l3, ?_⟩
  rintro r T ⟨rfl, rfl⟩
  refine ⟨_, m_value hst _ (E 900) E hV.ly, hV.z8, ?_⟩
  rintro w T' ⟨rfl, rfl⟩
  refine ⟨?_, Rl.mk' hV.m8 (hR.idle (by omega))⟩
  rw [hV.w (by decide), hV.i (us.b (by decide)) (by decide), hR.1.2.1.2.2.1]
theorem bool_n {x : Int32} (h : x = 0 ∨ x = 1) : narrow .boolean (.int x) = .int x ∧ fits .boolean (.int x) = true ∧ vp_nar .boolean x = x := by
  rcases h with rfl | rfl
  · exact ⟨by decide, by decide, by decide⟩
  · exact ⟨by decide, by decide, by decide⟩
theorem s_limit (hst : l.stackTraces = false) (h : Rl S k z out outD q) (hq : q < 512) (is : Int32) (his : is = 0 ∨ is = 1) : St2 z (Ct l G b yX7_limit cX7_limit 3 (some .boolean) rmX7_limit mI [.ref k, .int is] S) (fun T => Ct l G b yX8_limit cX8_limit 3 (some .boolean) rmX8_limit mI [.ref z, .int is] T) (FinE k z out outD q) := by
  obtain ⟨E, κ, Ui, Uj, Ua, V, W, D, o, np, rp, m, rfl, rfl, rfl, rfl, hV, hR⟩ := h
  have bi := bool_n his
  have g2 := hR.1.2.1
  have e0 : fI S 300 (E 33) = W 832 := (hV.i (us.b (by decide)) (by decide) 300).trans g2.1
  have bw := bool_n g2.2.1
  refine ⟨_, c_limit hst S (E 30) hV.k7 (E 33) hV.lm hV.l3 is bi.1 bi.2.1 (by rw [e0]; exact bw.1), ?_⟩
  rintro r T ⟨rfl, rfl⟩
  have hV2 := hV.cI (j0 := 33) (f := 300) (v := is) (us.b (by decide)) (by decide)
  have e2 : fI (uI S 300 (E 33) is) 832 (E 900) = W 832 := hV2.w (by decide)
  refine ⟨_, m_limit hst _ (E 900) E hV2.ly is bi.1 bi.2.1 (by rw [e2]; exact bw.1), hV2.z8, ?_⟩
  rintro w T' ⟨rfl, rfl⟩
  refine ⟨e2.trans e0.symm, Rl.mk' hV2.m8.mU (hR.glob (by omega) ?_ (fun d hd => ⟨agU.rf.i (Or.inl (by have := uc_ge d; omega)), agV.rf, rfl⟩))⟩
  obtain ⟨q1, q2, q3, q4, q5, q6⟩ := hR.1
  refine ⟨?_, ?_, q3, q4, q5, q6⟩
  · simpa [uq2, uq1] using q1
  · refine ⟨by simp [uq2, uq1], by simpa [uq1] using his, by simpa [uq2, uq1] using q2.2.2.1, by simpa [uq2, uq1] using q2.2.2.2.1, q2.2.2.2.2.1, by simpa [uq1] using q2.2.2.2.2.2.1, by have := q2.2.2.2.2.2.2; omega⟩
theorem rng (x : Int32) (n : Nat) (N M : Int32) (hN : N.toInt = n + 1) (hM : M.toInt = n) : (0 ≤ x ∧ x < N) ↔ (0 ≤ x ∧ x ≤ M) := by
  simp only [Int32.le_iff_toInt_le, Int32.lt_iff_toInt_lt, hN, hM]
  omega
theorem s_tap (hst : l.stackTraces = false) (h : Rl S k z out outD q) (hq : q < 512) (ph kk : Int32) : St2 z (CtW l G b yL_tap cL_tap 5 (some .int) [(0, 10, 13, 13)] rmL_tap mI [.ref k, .int ph, .int kk, .ref out] S) (fun T => Ct l G b yX8_tap cX8_tap 3 (some .int) rmX8_tap mI [.ref z, .int ph, .int kk] T) (FinI k z out outD q) := by
  obtain ⟨E, κ, Ui, Uj, Ua, V, W, D, o, np, rp, m, rfl, rfl, rfl, rfl, hV, hR⟩ := h
  have r1 := rng ph 31 32 31 (by decide) (by decide)
  have r2 := rng kk 15 16 15 (by decide) (by decide)
  by_cases h1 : 0 ≤ ph ∧ ph ≤ 31
  · by_cases h2 : 0 ≤ kk ∧ kk ≤ 15
    · obtain ⟨p0, hp0, rfl⟩ := nI_mid (n := 31) (by decide) h1
      obtain ⟨j, hj, rfl⟩ := nI_mid (n := 15) (by decide) h2
      have e1 : aI S (E 1) (16 * p0 + j) = V 801 (16 * p0 + j) := (hV.a (us.b (by decide)) (by decide) _).trans (hR.1.2.2.1 _ (by omega))
      refine qryI hV hR hq (V 801 (16 * p0 + j)) ?_ ?_
      · rw [← e1]; exact l_tap_y hst S (E 30) hV.k7 _ _ (E 901) _ (c_tap_y hst S (E 30) hV.k7 (E 32) (E 1) hV.2.1.1.1.2.1 hV.tc p0 j (by omega) (by omega)) (fun v T h => by rw [h.1]; exact hV.oL)
      · exact (m_tap_y hst _ (E 900) E hV.oJ.ly p0 j (by omega) (by omega)).post (fun w S' h => ⟨h.1, h.2.trans (hV.oJ.m (by decide) _)⟩)
    · exact rejI hV hR hq 1 0 (by decide) (l_tap_t1 hst S (E 30) hV.k7 _ _ (E 901) (c_tap_n2 hst S (E 30) hV.k7 ph kk (fun x => h2 (r2.mp x)))) (m_tap_n2 hst S (E 900) E hV.ly ph kk h1 h2)
  · exact rejI hV hR hq 1 0 (by decide) (l_tap_t1 hst S (E 30) hV.k7 _ _ (E 901) (c_tap_n1 hst S (E 30) hV.k7 ph kk (fun x => h1 (r1.mp x)))) (m_tap_n1 hst S (E 900) E hV.ly ph kk h1)
theorem s_played (hst : l.stackTraces = false) (h : Rl S k z out outD q) (hq : q < 512) (pd i rt : Int32) : St2 z (CtW l G b yL_played cL_played 6 (some .int) [(0, 12, 15, 13)] rmL_played mI [.ref k, .int pd, .int i, .int rt, .ref out] S) (fun T => Ct l G b yX8_played cX8_played 5 (some .int) rmX8_played mI [.ref z, .int pd, .int i, .int rt] T) (FinI k z out outD q) := by
  obtain ⟨E, κ, Ui, Uj, Ua, V, W, D, o, np, rp, m, rfl, rfl, rfl, rfl, hV, hR⟩ := h
  have r1 := rng pd 3 4 3 (by decide) (by decide)
  have r2 := rng i 23 24 23 (by decide) (by decide)
  by_cases h1 : 0 ≤ pd ∧ pd ≤ 3
  · by_cases h2 : 0 ≤ i ∧ i ≤ 23
    · obtain ⟨p0, hp0, rfl⟩ := nI_mid (n := 3) (by decide) h1
      obtain ⟨j, hj, rfl⟩ := nI_mid (n := 23) (by decide) h2
      obtain ⟨q1, q2, q3, q4, q5, q6⟩ := hR.1
      have g := hV.2.1.1
      have gi := g.2.2.2.2.2.2.1 ((np + 4 - p0) % 4) (by omega)
      have hnp : fI S 707 (E 30) = nI np := (hV.i (us.b (by decide)) (by decide) 707).trans q1.2.2.2.2.1
      have hj2 : us κ (20 + (np + 4 - p0) % 4) := us.b (by
        have : (np + 4 - p0) % 4 = 0 ∨ (np + 4 - p0) % 4 = 1 ∨ (np + 4 - p0) % 4 = 2 ∨ (np + 4 - p0) % 4 = 3 := by omega
        rcases this with e | e | e | e <;> rw [e] <;> decide)
      have hM := c_played_y (l := l) (G := G) (b := b) hst S (E 30) hV.k7 (E 36) np p0 j _ g.1.2.2.2.2.2.1 g.2.2.2.2.2.1 hnp q1.2.2.2.2.2.1 (by omega) (by omega) gi.2.2.1 gi.2.2.2 rt
      have hv := q5 p0 (by omega) j (by omega)
      by_cases hrt : rt = 0
      · have e1 : aI S (E (20 + (np + 4 - p0) % 4)) (2 * j + rtb rt) = V 828 (24 * p0 + j) := by
          rw [hV.a hj2 (by omega)]; unfold rtb; rw [if_pos hrt]; exact hv.1
        rw [e1] at hM
        refine qryI hV hR hq _ (l_played_y hst S (E 30) hV.k7 _ _ _ (E 901) _ hM (fun v T h => by rw [h.1]; exact hV.oL)) ?_
        exact (m_played_l hst _ (E 900) E hV.oJ.ly p0 j (by omega) (by omega) rt hrt).post (fun w S' h => ⟨h.1, h.2.trans (hV.oJ.m (by decide) _)⟩)
      · have e1 : aI S (E (20 + (np + 4 - p0) % 4)) (2 * j + rtb rt) = V 829 (24 * p0 + j) := by
          rw [hV.a hj2 (by omega)]; unfold rtb; rw [if_neg hrt]; exact hv.2
        rw [e1] at hM
        refine qryI hV hR hq _ (l_played_y hst S (E 30) hV.k7 _ _ _ (E 901) _ hM (fun v T h => by rw [h.1]; exact hV.oL)) ?_
        exact (m_played_r hst _ (E 900) E hV.oJ.ly p0 j (by omega) (by omega) rt hrt).post (fun w S' h => ⟨h.1, h.2.trans (hV.oJ.m (by decide) _)⟩)
    · exact rejI hV hR hq 1 0 (by decide) (l_played_t1 hst S (E 30) hV.k7 _ _ _ (E 901) (c_played_n2 hst S (E 30) hV.k7 pd i rt (fun x => h2 (r2.mp x)))) (m_played_n2 hst S (E 900) E hV.ly pd i rt h1 h2)
  · exact rejI hV hR hq 1 0 (by decide) (l_played_t1 hst S (E 30) hV.k7 _ _ _ (E 901) (c_played_n1 hst S (E 30) hV.k7 pd i rt (fun x => h1 (r1.mp x)))) (m_played_n1 hst S (E 900) E hV.ly pd i rt h1)
theorem uq2_ne {α : Type} {U : Nat → Nat → α} {j f a c : Nat} {v : α} (h : a ≠ j ∨ c ≠ f) : uq2 U j f v a c = U a c := if_neg (fun q => by omega)
theorem uq2_eq {α : Type} {U : Nat → Nat → α} {j f : Nat} {v : α} : uq2 U j f v j f = v := if_pos ⟨rfl, rfl⟩
theorem uq2_row {α : Type} {U : Nat → Nat → α} {j f a : Nat} {v : α} (h : a ≠ j) : uq2 U j f v a = U a := funext (fun _ => uq2_ne (Or.inl h))
theorem s_coming (hst : l.stackTraces = false) (h : Rl S k z out outD q) (hq : q < 512) (i rt v : Int32) : St2 z (CtW l G b yL_coming cL_coming 5 (some .int) [(0, 7, 10, 13)] rmL_coming mI [.ref k, .int i, .int rt, .int v] S) (fun T => Ct l G b yX8_coming cX8_coming 4 none rmX8_coming mV [.ref z, .int i, .int rt, .int v] T) (FinV k z out outD q) := by
  obtain ⟨E, κ, Ui, Uj, Ua, V, W, D, o, np, rp, m, rfl, rfl, rfl, rfl, hV, hR⟩ := h
  have r2 := rng i 23 24 23 (by decide) (by decide)
  by_cases h2 : 0 ≤ i ∧ i ≤ 23
  · by_cases h1 : (-32768) ≤ v ∧ v ≤ 32767
    · obtain ⟨j, hj, rfl⟩ := nI_mid (n := 23) (by decide) h2
      have g := hV.2.1.1
      refine ⟨_, l_coming_y hst S (E 30) hV.k7 _ _ _ _ (c_coming_y hst S (E 30) hV.k7 (E 2) g.1.2.2.2.2.2.2.1 g.2.2.2.2.2.2.2.1 j (by omega) rt v h1), ?_⟩
      rintro r T ⟨rfl, -, rfl⟩
      have hV2 := hV.cA (j0 := 2) (k := 2 * j + rtb rt) (v := v) (us.b (by decide)) (by decide)
      obtain ⟨q1, q2, q3, q4, q5, q6⟩ := hR.1
      by_cases hrt : rt = 0
      · have e0 : rtb rt = 0 := if_pos hrt
        refine ⟨_, m_coming_l hst _ (E 900) E hV2.ly j (by omega) rt v h1 hrt, hV2.z8, ?_⟩
        rintro w T' rfl
        refine ⟨fI800, Rl.mk' (hV2.m8.mI (by decide)) (hR.glob (by omega) ?_ (fun d hd => ⟨agU.rf.a (Or.inl (by have := uc_ge d; omega)), ?_, rfl⟩))⟩
        · refine ⟨q1, ⟨q2.1, q2.2.1, q2.2.2.1, q2.2.2.2.1, q2.2.2.2.2.1, q2.2.2.2.2.2.1, by have := q2.2.2.2.2.2.2; omega⟩, ?_, ?_, ?_, ?_⟩
          · intro x hx; rw [uq2_ne (by omega), uq2_ne (by omega)]; exact q3 x hx
          · intro p hp x hx; rw [uq2_ne (by omega), uq2_ne (by omega), uq2_ne (by omega), uq2_ne (by omega)]; exact q4 p hp x hx
          · intro p hp x hx; rw [uq2_ne (by omega), uq2_ne (by omega), uq2_ne (by omega), uq2_ne (by omega)]; exact q5 p hp x hx
          · intro x hx
            rw [e0, Nat.add_zero]
            by_cases ex : x = j
            · rw [ex, uq2_eq, uq2_ne (a := 2) (c := 2 * j + 1) (by omega), uq2_eq, uq2_ne (a := 831) (by omega)]
              exact ⟨rfl, (q6 j (by omega)).2⟩
            · rw [uq2_ne (a := 2) (c := 2 * x) (by omega), uq2_ne (a := 2) (c := 2 * x + 1) (by omega), uq2_ne (a := 830) (by omega), uq2_ne (a := 831) (by omega)]
              exact q6 x hx
        · refine ⟨fun f hf => uq2_ne (Or.inl (fun e => by rw [e] at hf; revert hf; decide)), fun i hi => ⟨uq2_ne (by omega), uq2_ne (by omega), uq2_ne (by omega)⟩, fun p hp => uq2_ne (by omega), uq2_row (by omega)⟩
      · have e0 : rtb rt = 1 := if_neg hrt
        refine ⟨_, m_coming_r hst _ (E 900) E hV2.ly j (by omega) rt v h1 hrt, hV2.z8, ?_⟩
        rintro w T' rfl
        refine ⟨fI800, Rl.mk' (hV2.m8.mI (by decide)) (hR.glob (by omega) ?_ (fun d hd => ⟨agU.rf.a (Or.inl (by have := uc_ge d; omega)), ?_, rfl⟩))⟩
        · refine ⟨q1, ⟨q2.1, q2.2.1, q2.2.2.1, q2.2.2.2.1, q2.2.2.2.2.1, q2.2.2.2.2.2.1, by have := q2.2.2.2.2.2.2; omega⟩, ?_, ?_, ?_, ?_⟩
          · intro x hx; rw [uq2_ne (by omega), uq2_ne (by omega)]; exact q3 x hx
          · intro p hp x hx; rw [uq2_ne (by omega), uq2_ne (by omega), uq2_ne (by omega), uq2_ne (by omega)]; exact q4 p hp x hx
          · intro p hp x hx; rw [uq2_ne (by omega), uq2_ne (by omega), uq2_ne (by omega), uq2_ne (by omega)]; exact q5 p hp x hx
          · intro x hx
            rw [e0]
            by_cases ex : x = j
            · rw [ex, uq2_eq, uq2_ne (a := 2) (c := 2 * j) (by omega), uq2_eq, uq2_ne (a := 830) (by omega)]
              exact ⟨(q6 j (by omega)).1, rfl⟩
            · rw [uq2_ne (a := 2) (c := 2 * x) (by omega), uq2_ne (a := 2) (c := 2 * x + 1) (by omega), uq2_ne (a := 830) (by omega), uq2_ne (a := 831) (by omega)]
              exact q6 x hx
        · refine ⟨fun f hf => uq2_ne (Or.inl (fun e => by rw [e] at hf; revert hf; decide)), fun i hi => ⟨uq2_ne (by omega), uq2_ne (by omega), uq2_ne (by omega)⟩, fun p hp => uq2_ne (by omega), uq2_row (by omega)⟩
    · exact rejV hV hR hq 1 (l_coming_t1 hst S (E 30) hV.k7 _ _ _ (c_coming_n2 hst S (E 30) hV.k7 i rt v (r2.mpr h2) h1)) (m_coming_n2 hst S (E 900) E hV.ly i rt v h2 h1)
  · exact rejV hV hR hq 1 (l_coming_t1 hst S (E 30) hV.k7 _ _ _ (c_coming_n1 hst S (E 30) hV.k7 i rt v (fun x => h2 (r2.mp x)))) (m_coming_n1 hst S (E 900) E hV.ly i rt v h2)
end
