/-! ===== start, pause, drain, gain ===== -/
theorem gV_u {V : Nat → Nat → Int32} {c h f k : Nat} {rt v : Int32} (hf : f ≠ 811 ∧ f ≠ 812) : gV (uq2 V f k v) c h rt = gV V c h rt := by
  funext x
  unfold gV
  by_cases hr : rt = 0
  · rw [if_pos hr, uq2_ne (Or.inl (fun e => hf.1 e.symm))]
  · rw [if_neg hr, uq2_ne (Or.inl (fun e => hf.2 e.symm))]
theorem pl_0 {κ : Nat → Nat} {j : Nat} (hj : j < 6) (hk : κ j = 1) : us κ (uc j) ∧ uc j < 800 := ⟨us.p0 hj hk, by have := uc_lt hj; omega⟩
theorem ls_0 {κ : Nat → Nat} {j : Nat} (hj : j < 6) (hk : κ j = 2) : us κ (uc j) ∧ uc j < 800 := ⟨us.l0 hj hk, by have := uc_lt hj; omega⟩
theorem uc_n0 {c d : Nat} (h : d ≠ c) : uc c < uc d ∨ uc d + 20 ≤ uc c := by unfold uc; omega
section
variable {κ : Nat → Nat} {Ui : Nat → Nat → Int32} {Uj : Nat → Nat → Int64} {Ua : Nat → Nat → Int32} {V : Nat → Nat → Int32} {W : Nat → Int32} {D : Nat → UInt64} {c o np rp mm q n nx hd rr h rk rd wh : Nat}
theorem plP.s8 {v : Int32} (hv : v = 0 ∨ v = 1 ∨ v = 2 ∨ v = 3 ∨ v = 4) (g : plP Ui Uj Ua V D c o rp q n nx hd rr) : plP (uq2 Ui (uc c) 2 v) Uj Ua (uq2 V 808 c v) D c o rp (q + 1) n nx hd rr := by
  obtain ⟨h1, h2, h3, h4, h5, h6, h7, h8, h9, h10, h11, h12⟩ := g
  exact ⟨by simpa [uq2] using h1, by simpa [uq2] using ⟨h2.1, h2.2.1, h2.2.2.2⟩, ⟨h3.1, by simpa [uq2] using h3.2.1, by omega⟩, ⟨h4.1, by simpa [uq2] using h4.2.1, by omega⟩, h5, ⟨h6.1, by simpa [uq2] using h6.2.1, by omega⟩, by simpa [uq2] using h7, by simpa [uq2] using h8, h9, by simpa [uq2] using h10, by simpa [uq2] using h11, by simpa [uq2] using hv⟩
theorem plP.dr (g : plP Ui Uj Ua V D c o rp q n nx hd rr) : plP (uq2 (uq2 Ui (uc c) 2 3) (uc c) 4 0) Uj Ua (uq2 (uq2 V 808 c 3) 813 c 0) D c o rp (q + 1) n nx hd rr := by
  obtain ⟨h1, h2, h3, h4, h5, h6, h7, h8, h9, h10, h11, h12⟩ := g
  exact ⟨by simpa [uq2] using h1, by simpa [uq2] using ⟨h2.1, h2.2.1, h2.2.2.2.1, h2.2.2.2.2.2.1, h2.2.2.2.2.2.2.2⟩, ⟨h3.1, by simpa [uq2] using h3.2.1, by omega⟩, ⟨h4.1, by simpa [uq2] using h4.2.1, by omega⟩, h5, ⟨h6.1, by simpa [uq2] using h6.2.1, by omega⟩, by simpa [uq2] using h7, by simpa [uq2] using h8, h9, by simpa [uq2] using h10, by simp [uq2], by simp [uq2]⟩
theorem plP.gn {v : Int32} (g : plP Ui Uj Ua V D c o rp q n nx hd rr) : plP (uq2 Ui (uc c) 508 v) Uj Ua (uq2 V 807 c v) D c o rp (q + 1) n nx hd rr := by
  obtain ⟨h1, h2, h3, h4, h5, h6, h7, h8, h9, h10, h11, h12⟩ := g
  exact ⟨by simpa [uq2] using h1, by simpa [uq2] using ⟨h2.1, h2.2.1, h2.2.2.1, h2.2.2.2.1, h2.2.2.2.2.1, h2.2.2.2.2.2.2⟩, ⟨h3.1, by simpa [uq2] using h3.2.1, by omega⟩, ⟨h4.1, by simpa [uq2] using h4.2.1, by omega⟩, h5, ⟨h6.1, by simpa [uq2] using h6.2.1, by omega⟩, by simpa [uq2] using h7, by simpa [uq2] using h8, h9, by simpa [uq2] using h10, by simpa [uq2] using h11, by simpa [uq2] using h12⟩
theorem lsP.s8 {v : Int32} (hv : v = 0 ∨ v = 1 ∨ v = 2) (g : lsP Ui Uj Ua V c q h rk rr rd wh) : lsP (uq2 Ui (uc c) 2 v) Uj Ua (uq2 V 808 c v) c (q + 1) h rk rr rd wh := by
  obtain ⟨h1, h2, h3, h4, h5, h6, h7, h8, h9, h10, h11⟩ := g
  refine ⟨by simpa [uq2] using h1, by simpa [uq2] using ⟨h2.1, h2.2.1, h2.2.2.2⟩, ⟨h3.1, by simpa [uq2] using h3.2.1, by omega⟩, ⟨h4.1, by simpa [uq2] using h4.2.1, by omega⟩, by simpa [uq2] using h5, by simpa [uq2] using h6, ?_, h8, by simpa [uq2] using h9, by simpa [uq2] using h10, by simpa [uq2] using hv⟩
  intro i hi
  obtain ⟨n, n1, n2, n3, n4, n5⟩ := h7 i hi
  refine ⟨n, by simpa [uq2] using n1, n2, n3, ?_, ?_⟩
  · rw [uq2_row (a := 801) (by decide), gV_u (by decide)]; exact n4
  · rw [uq2_row (a := 801) (by decide), gV_u (by decide)]; exact n5
theorem zrP.u {f j : Nat} {v : Int32} (hf : f ≠ 827) (g : zrP V c rp) : zrP (uq2 V f j v) c rp := fun p hp => (uq2_ne (Or.inl (fun e => hf e.symm))).trans (g p hp)
theorem Rp.s8 {v : Int32} (hR : Rp κ Ui Uj Ua V W D o np rp mm q) (hq : q < 512) (hc : c < 6) (hn : clP κ (uq2 Ui (uc c) 2 v) Uj Ua (uq2 V 808 c v) D c o rp (q + 1)) : Rp κ (uq2 Ui (uc c) 2 v) Uj Ua (uq2 V 808 c v) W D o np rp mm (q + 1) :=
  hR.one (c := c) (by omega) ((agG.rf.i (uc_ge c)).v (by decide)) (fun _ _ _ => rfl) (fun d hd hne => ⟨agU.rf.i (uc_n0 hne), agV.rf.p (by decide) hne, rfl⟩) hn
end
section
variable {l : Launch} {G : GG} {b : Nat} {S : Sw} {k z out outD q : Nat}
theorem s_start (hst : l.stackTraces = false) (h : Rl S k z out outD q) (hq : q < 512) (c0 : Int32) : St2 z (CtW l G b yL_start cL_start 3 (some .int) [(0, 5, 8, 13), (0, 5, 11, 15)] rmL_start mI [.ref k, .int c0] S) (fun T => Ct l G b yX8_start cX8_start 2 none rmX8_start mV [.ref z, .int c0] T) (FinV k z out outD q) := by
  obtain ⟨E, κ, Ui, Uj, Ua, V, W, D, o, np, rp, m, rfl, rfl, rfl, rfl, hV, hR⟩ := h
  by_cases hc : ∃ j, j < 6 ∧ c0 = nI j ∧ ¬ V 802 j = 0
  · obtain ⟨j, hj, rfl, hth⟩ := hc
    have hth0 : ¬ aI S (E 802) j = 0 := by rw [hV.m (by decide)]; exact hth
    have e8 : aI S (E 808) j = V 808 j := hV.m (by decide) j
    rcases cl_at hV hR hj hth with ⟨hk, hs, hp, n, nx, hd, rr, hpl⟩ | ⟨hk, hs, hp, hz, hh, rk, rr, rd, wh, hls⟩
    · have u := pl_0 hj hk
      have e1 : fI S 2 (E (uc j)) = V 808 j := (hV.i u.1 u.2 2).trans hpl.2.1.2.2.1
      by_cases h02 : V 808 j = 0 ∨ V 808 j = 2
      · refine ⟨_, l_start_y hst S (E 30) hV.k7 (nI j) _ (c_start_y5 hst S (E 30) (E 34) hV.k7 hV.cl hV.ic j _ hj hs.1 hs.2.1 (by rw [e1]; exact h02)), ?_⟩
        rintro r T ⟨rfl, -, rfl⟩
        have hV2 := hV.cI (f := 2) (v := 1) u.1 u.2
        have hth2 : ¬ aI (uI S 2 (E (uc j)) 1) (E 802) j = 0 := hth0
        have hfin : Rl (wI (uI (uI S 2 (E (uc j)) 1) 800 (E 900) 0) (E 808) j 1) (E 30) (E 900) (E 901) (E 902) (q + 1) := Rl.mk' (hV2.m8.mI (by decide)) (hR.s8 hq hj (Or.inr (Or.inl ⟨hk, by simpa [uq2] using hth, by simpa [uq2] using hp, n, nx, hd, rr, hpl.s8 (by decide)⟩)))
        rcases h02 with h0 | h2
        · refine ⟨_, m_start_0 hst _ (E 900) E hV2.ly j hj hth2 (e8.trans h0), hV2.z8, ?_⟩
          rintro w T' rfl
          exact ⟨fI800, hfin⟩
        · refine ⟨_, m_start_2 hst _ (E 900) E hV2.ly j hj hth2 (e8.trans h2), hV2.z8, ?_⟩
          rintro w T' rfl
          exact ⟨fI800, hfin⟩
      · have a0 : ¬ V 808 j = 0 := fun e => h02 (Or.inl e)
        have a2 : ¬ V 808 j = 2 := fun e => h02 (Or.inr e)
        exact rejV hV hR hq 2 (l_start_t2 hst S (E 30) hV.k7 _ (c_start_b5 hst S (E 30) (E 34) hV.k7 hV.cl hV.ic j _ hj hs.1 hs.2.1 (by rw [e1]; exact a0) (by rw [e1]; exact a2))) (m_start_n2 hst S (E 900) E hV.ly j hj hth0 (by rw [e8]; exact a0) (by rw [e8]; exact a2))
    · have u := ls_0 hj hk
      have e1 : fI S 2 (E (uc j)) = V 808 j := (hV.i u.1 u.2 2).trans hls.2.1.2.2.1
      by_cases h02 : V 808 j = 0 ∨ V 808 j = 2
      · refine ⟨_, l_start_y hst S (E 30) hV.k7 (nI j) _ (c_start_y4 hst S (E 30) (E 34) hV.k7 hV.cl hV.ic j _ hj hs.1 hs.2.1 (by rw [e1]; exact h02)), ?_⟩
        rintro r T ⟨rfl, -, rfl⟩
        have hV2 := hV.cI (f := 2) (v := 1) u.1 u.2
        have hth2 : ¬ aI (uI S 2 (E (uc j)) 1) (E 802) j = 0 := hth0
        have hfin : Rl (wI (uI (uI S 2 (E (uc j)) 1) 800 (E 900) 0) (E 808) j 1) (E 30) (E 900) (E 901) (E 902) (q + 1) := Rl.mk' (hV2.m8.mI (by decide)) (hR.s8 hq hj (Or.inr (Or.inr ⟨hk, by simpa [uq2] using hth, by simpa [uq2] using hp, hz.u (by decide), hh, rk, rr, rd, wh, hls.s8 (by decide)⟩)))
        rcases h02 with h0 | h2
        · refine ⟨_, m_start_0 hst _ (E 900) E hV2.ly j hj hth2 (e8.trans h0), hV2.z8, ?_⟩
          rintro w T' rfl
          exact ⟨fI800, hfin⟩
        · refine ⟨_, m_start_2 hst _ (E 900) E hV2.ly j hj hth2 (e8.trans h2), hV2.z8, ?_⟩
          rintro w T' rfl
          exact ⟨fI800, hfin⟩
      · have a0 : ¬ V 808 j = 0 := fun e => h02 (Or.inl e)
        have a2 : ¬ V 808 j = 2 := fun e => h02 (Or.inr e)
        exact rejV hV hR hq 2 (l_start_t2 hst S (E 30) hV.k7 _ (c_start_b4 hst S (E 30) (E 34) hV.k7 hV.cl hV.ic j _ hj hs.1 hs.2.1 (by rw [e1]; exact a0) (by rw [e1]; exact a2))) (m_start_n2 hst S (E 900) E hV.ly j hj hth0 (by rw [e8]; exact a0) (by rw [e8]; exact a2))
  · have hn := cl_no hV hR hc
    exact rejV hV hR hq 1 (l_start_t1 hst S (E 30) hV.k7 c0 (c_start_n hst S (E 30) (E 34) hV.k7 hV.cl hV.ic c0 hn.1)) (m_start_n1 hst S (E 900) E hV.ly c0 hn.2)
theorem s_pause (hst : l.stackTraces = false) (h : Rl S k z out outD q) (hq : q < 512) (c0 : Int32) : St2 z (CtW l G b yL_pause cL_pause 3 (some .int) [(0, 5, 8, 13), (0, 5, 11, 15)] rmL_pause mI [.ref k, .int c0] S) (fun T => Ct l G b yX8_pause cX8_pause 2 none rmX8_pause mV [.ref z, .int c0] T) (FinV k z out outD q) := by
  obtain ⟨E, κ, Ui, Uj, Ua, V, W, D, o, np, rp, m, rfl, rfl, rfl, rfl, hV, hR⟩ := h
  by_cases hc : ∃ j, j < 6 ∧ c0 = nI j ∧ ¬ V 802 j = 0
  · obtain ⟨j, hj, rfl, hth⟩ := hc
    have hth0 : ¬ aI S (E 802) j = 0 := by rw [hV.m (by decide)]; exact hth
    have e8 : aI S (E 808) j = V 808 j := hV.m (by decide) j
    rcases cl_at hV hR hj hth with ⟨hk, hs, hp, n, nx, hd, rr, hpl⟩ | ⟨hk, hs, hp, hz, hh, rk, rr, rd, wh, hls⟩
    · have u := pl_0 hj hk
      have e1 : fI S 2 (E (uc j)) = V 808 j := (hV.i u.1 u.2 2).trans hpl.2.1.2.2.1
      by_cases h1 : V 808 j = 1
      · refine ⟨_, l_pause_y hst S (E 30) hV.k7 (nI j) _ (c_pause_y5 hst S (E 30) (E 34) hV.k7 hV.cl hV.ic j _ hj hs.1 hs.2.1 (by rw [e1]; exact h1)), ?_⟩
        rintro r T ⟨rfl, -, rfl⟩
        have hV2 := hV.cI (f := 2) (v := 2) u.1 u.2
        have hth2 : ¬ aI (uI S 2 (E (uc j)) 2) (E 802) j = 0 := hth0
        refine ⟨_, m_pause_y hst _ (E 900) E hV2.ly j hj hth2 (e8.trans h1), hV2.z8, ?_⟩
        rintro w T' rfl
        exact ⟨fI800, Rl.mk' (hV2.m8.mI (by decide)) (hR.s8 hq hj (Or.inr (Or.inl ⟨hk, by simpa [uq2] using hth, by simpa [uq2] using hp, n, nx, hd, rr, hpl.s8 (by decide)⟩)))⟩
      · exact rejV hV hR hq 2 (l_pause_t2 hst S (E 30) hV.k7 _ (c_pause_b5 hst S (E 30) (E 34) hV.k7 hV.cl hV.ic j _ hj hs.1 hs.2.1 (by rw [e1]; exact h1))) (m_pause_n2 hst S (E 900) E hV.ly j hj hth0 (by rw [e8]; exact h1))
    · have u := ls_0 hj hk
      have e1 : fI S 2 (E (uc j)) = V 808 j := (hV.i u.1 u.2 2).trans hls.2.1.2.2.1
      by_cases h1 : V 808 j = 1
      · refine ⟨_, l_pause_y hst S (E 30) hV.k7 (nI j) _ (c_pause_y4 hst S (E 30) (E 34) hV.k7 hV.cl hV.ic j _ hj hs.1 hs.2.1 (by rw [e1]; exact h1)), ?_⟩
        rintro r T ⟨rfl, -, rfl⟩
        have hV2 := hV.cI (f := 2) (v := 2) u.1 u.2
        have hth2 : ¬ aI (uI S 2 (E (uc j)) 2) (E 802) j = 0 := hth0
        refine ⟨_, m_pause_y hst _ (E 900) E hV2.ly j hj hth2 (e8.trans h1), hV2.z8, ?_⟩
        rintro w T' rfl
        exact ⟨fI800, Rl.mk' (hV2.m8.mI (by decide)) (hR.s8 hq hj (Or.inr (Or.inr ⟨hk, by simpa [uq2] using hth, by simpa [uq2] using hp, hz.u (by decide), hh, rk, rr, rd, wh, hls.s8 (by decide)⟩)))⟩
      · exact rejV hV hR hq 2 (l_pause_t2 hst S (E 30) hV.k7 _ (c_pause_b4 hst S (E 30) (E 34) hV.k7 hV.cl hV.ic j _ hj hs.1 hs.2.1 (by rw [e1]; exact h1))) (m_pause_n2 hst S (E 900) E hV.ly j hj hth0 (by rw [e8]; exact h1))
  · have hn := cl_no hV hR hc
    exact rejV hV hR hq 1 (l_pause_t1 hst S (E 30) hV.k7 c0 (c_pause_n hst S (E 30) (E 34) hV.k7 hV.cl hV.ic c0 hn.1)) (m_pause_n1 hst S (E 900) E hV.ly c0 hn.2)
theorem s_drain (hst : l.stackTraces = false) (h : Rl S k z out outD q) (hq : q < 512) (c0 : Int32) : St2 z (CtW l G b yL_drain cL_drain 3 (some .int) [(0, 5, 8, 13), (0, 5, 11, 15)] rmL_drain mI [.ref k, .int c0] S) (fun T => Ct l G b yX8_drain cX8_drain 2 none rmX8_drain mV [.ref z, .int c0] T) (FinV k z out outD q) := by
  obtain ⟨E, κ, Ui, Uj, Ua, V, W, D, o, np, rp, m, rfl, rfl, rfl, rfl, hV, hR⟩ := h
  by_cases hc : ∃ j, j < 6 ∧ c0 = nI j ∧ ¬ V 802 j = 0
  · obtain ⟨j, hj, rfl, hth⟩ := hc
    have hth0 : ¬ aI S (E 802) j = 0 := by rw [hV.m (by decide)]; exact hth
    have e8 : aI S (E 808) j = V 808 j := hV.m (by decide) j
    have e3 : aI S (E 803) j = V 803 j := hV.m (by decide) j
    rcases cl_at hV hR hj hth with ⟨hk, hs, hp, n, nx, hd, rr, hpl⟩ | ⟨hk, hs, hp, hz, hh, rk, rr, rd, wh, hls⟩
    · have u := pl_0 hj hk
      have e1 : fI S 2 (E (uc j)) = V 808 j := (hV.i u.1 u.2 2).trans hpl.2.1.2.2.1
      have hp0 : ¬ aI S (E 803) j = 0 := by rw [e3]; exact hp
      by_cases h1 : V 808 j = 1
      · refine ⟨_, l_drain_y hst S (E 30) hV.k7 (nI j) _ (c_drain_y hst S (E 30) (E 34) hV.k7 hV.cl hV.ic j _ hj hs.1 hs.2.1 (by rw [e1]; exact h1)), ?_⟩
        rintro r T ⟨rfl, -, rfl⟩
        have hV2 := (hV.cI (f := 2) (v := 3) u.1 u.2).cI (f := 4) (v := 0) u.1 u.2
        have hth2 : ¬ aI (uI (uI S 2 (E (uc j)) 3) 4 (E (uc j)) 0) (E 802) j = 0 := hth0
        have hp2 : ¬ aI (uI (uI S 2 (E (uc j)) 3) 4 (E (uc j)) 0) (E 803) j = 0 := hp0
        refine ⟨_, m_drain_y hst _ (E 900) E hV2.ly j hj hth2 hp2 (e8.trans h1), hV2.z8, ?_⟩
        rintro w T' rfl
        refine ⟨fI800, Rl.mk' (o := o) (np := np) (rp := rp) (mm := m) ((hV2.m8.mI (by decide)).mI (by decide)) ?_⟩
        exact hR.one (c := j) (by omega) ((((agG.rf.i (uc_ge j)).i (uc_ge j)).v (by decide)).v (by decide)) (fun _ _ _ => rfl) (fun d hd hne => ⟨(agU.rf.i (uc_n0 hne)).i (uc_n0 hne), (agV.rf.p (by decide) hne).p (by decide) hne, rfl⟩) (Or.inr (Or.inl ⟨hk, by simpa [uq2] using hth, by simpa [uq2] using hp, n, nx, hd, rr, hpl.dr⟩))
      · exact rejV hV hR hq 2 (l_drain_t2 hst S (E 30) hV.k7 _ (c_drain_b hst S (E 30) (E 34) hV.k7 hV.cl hV.ic j _ hj hs.1 hs.2.1 (by rw [e1]; exact h1))) (m_drain_n3 hst S (E 900) E hV.ly j hj hth0 hp0 (by rw [e8]; exact h1))
    · exact rejV hV hR hq 1 (l_drain_t1 hst S (E 30) hV.k7 _ (c_drain_l hst S (E 30) (E 34) hV.k7 hV.cl hV.ic j _ hj hs.1 hs.2.1)) (m_drain_n2 hst S (E 900) E hV.ly j hj hth0 (by rw [e3]; exact hp))
  · have hn := cl_no hV hR hc
    exact rejV hV hR hq 1 (l_drain_t1 hst S (E 30) hV.k7 c0 (c_drain_n hst S (E 30) (E 34) hV.k7 hV.cl hV.ic c0 hn.1)) (m_drain_n1 hst S (E 900) E hV.ly c0 hn.2)
theorem gn_nn {g : UInt64} (h : gnOk g) : vf_n64 (FP.dmul g 4643211215818981376) := by
  refine fp_m256 (fun e => h.1 ?_)
  have : FP.dcmp g FP.dconst0 = none := by
    show FP.Core.order (FP.Core.decode FP.Core.b64 g.toNat) _ = none
    rw [e]; rfl
  rw [this]
  decide
theorem s_gain (hst : l.stackTraces = false) (h : Rl S k z out outD q) (hq : q < 512) (c0 : Int32) (g : UInt64) : St2 z (CtW l G b yL_gain cL_gain 5 (some .int) [(0, 6, 9, 13)] rmL_gain mI [.ref k, .int c0, .double g] S) (fun T => Ct l G b yX8_gain cX8_gain 5 none rmX8_gain mV [.ref z, .int c0, .double g] T) (FinV k z out outD q) := by
  obtain ⟨E, κ, Ui, Uj, Ua, V, W, D, o, np, rp, m, rfl, rfl, rfl, rfl, hV, hR⟩ := h
  by_cases hc : ∃ j, j < 6 ∧ c0 = nI j ∧ ¬ V 802 j = 0
  · obtain ⟨j, hj, rfl, hth⟩ := hc
    have hth0 : ¬ aI S (E 802) j = 0 := by rw [hV.m (by decide)]; exact hth
    have e3 : aI S (E 803) j = V 803 j := hV.m (by decide) j
    rcases cl_at hV hR hj hth with ⟨hk, hs, hp, n, nx, hd, rr, hpl⟩ | ⟨hk, hs, hp, hz, hh, rk, rr, rd, wh, hls⟩
    · have u := pl_0 hj hk
      have hp0 : ¬ aI S (E 803) j = 0 := by rw [e3]; exact hp
      by_cases hg : gnOk g
      · refine ⟨_, l_gain_y hst S (E 30) hV.k7 (nI j) g _ (c_gain_y hst S (E 30) (E 34) hV.k7 hV.cl hV.ic j _ hj hs.1 hs.2.1 g hg (gn_nn hg)), ?_⟩
        rintro r T ⟨rfl, -, rfl⟩
        have hV2 := hV.cI (f := 508) (v := FP.d2i (FP.dmul g 4643211215818981376)) u.1 u.2
        have hth2 : ¬ aI (uI S 508 (E (uc j)) (FP.d2i (FP.dmul g 4643211215818981376))) (E 802) j = 0 := hth0
        have hp2 : ¬ aI (uI S 508 (E (uc j)) (FP.d2i (FP.dmul g 4643211215818981376))) (E 803) j = 0 := hp0
        refine ⟨_, m_gain_y hst _ (E 900) E hV2.ly j hj hth2 hp2 g hg (gn_nn hg), hV2.z8, ?_⟩
        rintro w T' rfl
        refine ⟨fI800, Rl.mk' (o := o) (np := np) (rp := rp) (mm := m) (hV2.m8.mI (by decide)) ?_⟩
        exact hR.one (c := j) (by omega) ((agG.rf.i (uc_ge j)).v (by decide)) (fun _ _ _ => rfl) (fun d hd hne => ⟨agU.rf.i (uc_n0 hne), agV.rf.p (by decide) hne, rfl⟩) (Or.inr (Or.inl ⟨hk, by simpa [uq2] using hth, by simpa [uq2] using hp, n, nx, hd, rr, hpl.gn⟩))
      · exact rejV hV hR hq 1 (l_gain_t1 hst S (E 30) hV.k7 _ _ (c_gain_b hst S (E 30) (E 34) hV.k7 hV.cl hV.ic j _ hj hs.1 hs.2.1 g hg)) (m_gain_n3 hst S (E 900) E hV.ly j hj hth0 hp0 g hg)
    · exact rejV hV hR hq 1 (l_gain_t1 hst S (E 30) hV.k7 _ _ (c_gain_l hst S (E 30) (E 34) hV.k7 hV.cl hV.ic j _ hj hs.1 hs.2.1 g)) (m_gain_n2 hst S (E 900) E hV.ly j hj hth0 (by rw [e3]; exact hp) g)
  · have hn := cl_no hV hR hc
    exact rejV hV hR hq 1 (l_gain_t1 hst S (E 30) hV.k7 c0 g (c_gain_n hst S (E 30) (E 34) hV.k7 hV.cl hV.ic c0 hn.1 g)) (m_gain_n1 hst S (E 900) E hV.ly c0 hn.2 g)
end
