/-! ===== ahead, write ===== -/
section
variable {κ : Nat → Nat} {Ui : Nat → Nat → Int32} {Uj : Nat → Nat → Int64} {Ua : Nat → Nat → Int32} {V : Nat → Nat → Int32} {W : Nat → Int32} {D : Nat → UInt64} {c o np rp mm q n nx hd rr h rk rd wh : Nat}
theorem win {i n : Nat} (hi : i < n) (h2 : n + 1 ≤ i + 256) : ¬ i % 256 = n % 256 := by omega
theorem plP.a1 {s1 s2 : Int32} (g : plP Ui Uj Ua V D c o rp q n nx hd rr) (hf : n < nx * rr / 48000 + 200) (hh : V 813 c = 0) : plP Ui (uq2 Uj (uc c + 2) 202 (lN (n + 1))) (uq2 (uq2 Ua (uc c + 3) (n % 256) s1) (uc c + 4) (n % 256) s2) (uq2 (uq2 (uq2 V 811 (12800 * c + n) s1) 812 (12800 * c + n) s2) 810 c (nI (n + 1))) D c o rp (q + 1) (n + 1) nx hd rr := by
  obtain ⟨h1, h2, h3, h4, h5, h6, h7, h8, h9, h10, h11, h12⟩ := g
  refine ⟨by simpa [uq2] using h1, by simpa [uq2] using h2, ⟨by simpa [uq2] using h3.1, by simpa [uq2] using h3.2.1, by omega⟩, ⟨by simpa [uq2] using h4.1, by simpa [uq2] using h4.2.1, by omega⟩, by simpa [uq2] using h5, ⟨by simp [uq2], by simp [uq2], by omega⟩, ?_, by simpa [uq2] using h8, by omega, by simpa [uq2] using h10, by simp [uq2, hh], by simpa [uq2] using h12⟩
  intro i hi hi2
  by_cases e : i = n
  · subst e; simp [uq2]
  · have := win (i := i) (n := n) (by omega) hi2
    simpa [uq2, this, e] using h7 i (by omega) (by omega)
theorem plP.a2 {s1 s2 : Int32} (g : plP Ui Uj Ua V D c o rp q n nx hd rr) (hf : n < nx * rr / 48000 + 200) : plP (uq2 Ui (uc c) 4 0) (uq2 Uj (uc c + 2) 202 (lN (n + 1))) (uq2 (uq2 Ua (uc c + 3) (n % 256) s1) (uc c + 4) (n % 256) s2) (uq2 (uq2 (uq2 (uq2 V 811 (12800 * c + n) s1) 812 (12800 * c + n) s2) 810 c (nI (n + 1))) 813 c 0) D c o rp (q + 1) (n + 1) nx hd rr := by
  obtain ⟨h1, h2, h3, h4, h5, h6, h7, h8, h9, h10, h11, h12⟩ := g
  refine ⟨by simpa [uq2] using h1, by simpa [uq2] using ⟨h2.1, h2.2.1, h2.2.2.1, h2.2.2.2.1, h2.2.2.2.2.2.1, h2.2.2.2.2.2.2.2⟩, ⟨by simpa [uq2] using h3.1, by simpa [uq2] using h3.2.1, by omega⟩, ⟨by simpa [uq2] using h4.1, by simpa [uq2] using h4.2.1, by omega⟩, by simpa [uq2] using h5, ⟨by simp [uq2], by simp [uq2], by omega⟩, ?_, by simpa [uq2] using h8, by omega, by simpa [uq2] using h10, by simp [uq2], by simpa [uq2] using h12⟩
  intro i hi hi2
  by_cases e : i = n
  · subst e; simp [uq2]
  · have := win (i := i) (n := n) (by omega) hi2
    simpa [uq2, this, e] using h7 i (by omega) (by omega)
theorem plP.a3 {s : Int32} (g : plP Ui Uj Ua V D c o rp q n nx hd rr) (hf : n < nx * rr / 48000 + 200) (hch : ¬ V 805 c = 1) : plP (uq2 (uq2 Ui (uc c) 509 s) (uc c) 4 1) Uj Ua (uq2 (uq2 V 814 c s) 813 c 1) D c o rp (q + 1) n nx hd rr := by
  obtain ⟨h1, h2, h3, h4, h5, h6, h7, h8, h9, h10, h11, h12⟩ := g
  exact ⟨by simpa [uq2] using h1, by simpa [uq2] using ⟨h2.1, h2.2.1, h2.2.2.1, h2.2.2.2.1, h2.2.2.2.2.2.1, h2.2.2.2.2.2.2.2⟩, ⟨h3.1, by simpa [uq2] using h3.2.1, by omega⟩, ⟨h4.1, by simpa [uq2] using h4.2.1, by omega⟩, h5, ⟨h6.1, by simpa [uq2] using h6.2.1, by omega⟩, by simpa [uq2] using h7, by simpa [uq2] using h8, h9, by simpa [uq2] using h10, by simp [uq2, hch]; omega, by simpa [uq2] using h12⟩
end
section
variable {l : Launch} {G : GG} {b : Nat} {S : Sw} {k z out outD q : Nat}
theorem ahd_end {n nx rr : Nat} (hr : rtN rr) (h : n ≤ nx * rr / 48000 + 200) : ¬ (nx + 24 * 50 + 23) * rr / 48000 + (if rr = 48000 then 0 else 8) < n := by
  have h2 : (nx + 24 * 50 + 23) * rr = nx * rr + 1223 * rr := by rw [show nx + 24 * 50 + 23 = nx + 1223 by omega, Nat.add_mul]
  rw [h2]
  generalize nx * rr = x at *
  unfold rtN at hr
  omega
theorem s_ahead (hst : l.stackTraces = false) (h : Rl S k z out outD q) (hq : q < 512) (c0 : Int32) : St2 z (CtW l G b yL_ahead cL_ahead 4 (some .int) [(0, 9, 12, 13)] rmL_ahead mI [.ref k, .int c0, .ref out] S) (fun T => Ct l G b yX8_ahead cX8_ahead 3 (some .int) rmX8_ahead mI [.ref z, .int c0] T) (FinI k z out outD q) := by
  obtain ⟨E, κ, Ui, Uj, Ua, V, W, D, o, np, rp, m, rfl, rfl, rfl, rfl, hV, hR⟩ := h
  by_cases hc : ∃ j, j < 6 ∧ c0 = nI j ∧ ¬ V 802 j = 0
  · obtain ⟨j, hj, rfl, hth⟩ := hc
    have hth' : ∀ v, ¬ aI (wJ S (E 901) 0 v) (E 802) j = 0 := fun v => by rw [hV.oJ.m (by decide)]; exact hth
    rcases cl_at hV hR hj hth with ⟨hk, hs, hp, n, nx, hd, rr, hpl⟩ | ⟨hk, hs, hp, hz, hh, rk, rr, rd, wh, hls⟩
    · have hb := hpl.2.2.1.2.2
      have hb2 := hpl.2.2.2.2.2.1.2.2
      obtain ⟨n2, g1, g2, g3⟩ := leastN (fun i => (nx + 24 * i + 23) * rr / 48000 + (if rr = 48000 then 0 else 8) < n) 50 (ahd_end hpl.1.1 hpl.2.2.2.2.2.2.2.2.1)
      have hM := c_periodsWritten (l := l) (G := G) (b := b) hst S (E (uc j)) hs.2.1 _ _ rr hs.2.2.1 (pl_vC hV hj hk hs hpl) hpl.1.1 _ _ _ n hs.2.2.2.1 (pl_fC hV hj hk hs hpl) (by omega) nx (pl_nx hV hj hk hpl) (by omega) n2 (by omega)
        (fun i hi => by rw [lnE, show nx + 24 * (i + 1) - 1 = nx + 24 * i + 23 by omega]; exact g2 i hi) (by rw [lnE, show nx + 24 * (n2 + 1) - 1 = nx + 24 * n2 + 23 by omega]; exact g3)
      refine qryI hV hR hq _ (l_ahead_y hst S (E 30) hV.k7 (nI j) (E 901) _ (c_ahead_y hst S (E 30) (E 34) hV.k7 hV.cl hV.ic j _ hj hs.1 hs.2.1 _ hM) (fun v T h => by rw [h.1]; exact hV.oL)) ?_
      exact m_ahead_y hst _ (E 900) E hV.oJ.ly j hj (hth' _) (by rw [hV.oJ.m (by decide)]; exact hp) n nx rr n2 ((hV.oJ.m (by decide) j).trans hpl.2.2.2.2.2.1.2.1) (by omega) ((hV.oJ.m (by decide) j).trans hpl.2.2.1.2.1) ((hV.oJ.m (by decide) j).trans hpl.1.2.1) (by omega) hpl.1.1 (by omega) g2 g3
    · exact rejI hV hR hq 1 0 (by decide) (l_ahead_t1 hst S (E 30) hV.k7 _ (E 901) (c_ahead_l hst S (E 30) (E 34) hV.k7 hV.cl hV.ic j _ hj hs.1 hs.2.1)) (m_ahead_n2 hst S (E 900) E hV.ly j hj (by rw [hV.m (by decide)]; exact hth) (by rw [hV.m (by decide)]; exact hp))
  · have hn := cl_no hV hR hc
    exact rejI hV hR hq 1 0 (by decide) (l_ahead_t1 hst S (E 30) hV.k7 c0 (E 901) (c_ahead_n hst S (E 30) (E 34) hV.k7 hV.cl hV.ic c0 hn.1)) (m_ahead_n1 hst S (E 900) E hV.ly c0 hn.2)
theorem fr_l {n p : Nat} (h : n ≤ p + 200) (hb : p < 2 ^ 30) : (1 ≤ 200 - (lN n - lN p)) ↔ n < p + 200 := by
  rw [free_lN h, show (1 : Int64) = lN 1 from rfl, lN_le (by decide) (by omega)]; omega
theorem fr_i {n p : Nat} (h : n ≤ p + 200) (hb : p < 2 ^ 30) : (0 < 200 - (nI n - nI p)) ↔ n < p + 200 := by
  rw [free_nI h, show (0 : Int32) = nI 0 from rfl, nI_ltI (by decide) (by omega)]; omega
theorem s_write (hst : l.stackTraces = false) (h : Rl S k z out outD q) (hq : q < 512) (c0 v : Int32) : St2 z (CtW l G b yL_write cL_write 5 (some .int) [(0, 17, 20, 13), (0, 17, 24, 15)] rmL_write mI [.ref k, .int c0, .int v, .ref out] S) (fun T => Ct l G b yX8_write cX8_write 5 (some .boolean) rmX8_write mI [.ref z, .int c0, .int v] T) (FinW k z out outD q) := by
  obtain ⟨E, κ, Ui, Uj, Ua, V, W, D, o, np, rp, m, rfl, rfl, rfl, rfl, hV, hR⟩ := h
  by_cases hc : ∃ j, j < 6 ∧ c0 = nI j ∧ ¬ V 802 j = 0
  · obtain ⟨j, hj, rfl, hth⟩ := hc
    have hth0 : ¬ aI S (E 802) j = 0 := by rw [hV.m (by decide)]; exact hth
    have e3 : aI S (E 803) j = V 803 j := hV.m (by decide) j
    have e6 : aI S (E 806) j = V 806 j := hV.m (by decide) j
    have e8 : aI S (E 808) j = V 808 j := hV.m (by decide) j
    rcases cl_at hV hR hj hth with ⟨hk, hs, hp, n, nx, hd, rr, hpl⟩ | ⟨hk, hs, hp, hz, hh, rk, rr, rd, wh, hls⟩
    · have u := pl_0 hj hk
      have hp0 : ¬ aI S (E 803) j = 0 := by rw [e3]; exact hp
      have f1 : fI S 1 (E (uc j)) = V 806 j := (hV.i u.1 u.2 1).trans hpl.2.1.2.1
      have f2 : fI S 2 (E (uc j)) = V 808 j := (hV.i u.1 u.2 2).trans hpl.2.1.2.2.1
      by_cases hnum : (if V 806 j = 8 then (if 0 ≤ v ∧ v ≤ 255 then (1 : Int32) else 0) else (if (-32768) ≤ v ∧ v ≤ 32767 then 1 else 0)) = 0
      · exact rejW hV hR hq 1 0 (by decide) (l_write_t1 hst S (E 30) hV.k7 _ _ (E 901) (c_write_k hst S (E 30) (E 34) hV.k7 hV.cl hV.ic j _ hj hs.1 hs.2.1 v (by rw [f1]; exact hnum))) (m_write_n3 hst S (E 900) E hV.ly j hj hth0 hp0 v (by rw [e6]; exact hnum))
      · have h12 := hpl.2.2.2.2.2.2.2.2.2.2.2
        by_cases he : V 808 j = 3 ∨ V 808 j = 4
        · exact rejW hV hR hq 2 0 (by decide) (l_write_t2 hst S (E 30) hV.k7 _ _ (E 901) (c_write_e hst S (E 30) (E 34) hV.k7 hV.cl hV.ic j _ hj hs.1 hs.2.1 v (by rw [f1]; exact hnum) (by rw [f2]; exact he))) (m_write_n4 hst S (E 900) E hV.ly j hj hth0 hp0 v (by rw [e6]; exact hnum) (by rw [e8]; rcases he with he | he <;> rw [he] <;> decide))
        · have hs2 : V 808 j ≤ 2 := by
            rcases h12 with h12 | h12 | h12 | h12 | h12
            · rw [h12]; decide
            · rw [h12]; decide
            · rw [h12]; decide
            · exact absurd (Or.inl h12) he
            · exact absurd (Or.inr h12) he
          have hb := hpl.2.2.1.2.2
          have hb2 := hpl.2.2.2.2.2.1.2.2
          have h9 := hpl.2.2.2.2.2.2.2.2.1
          have h10 := hpl.2.2.2.2.2.2.2.2.2.1
          have h11 := hpl.2.2.2.2.2.2.2.2.2.2.1
          have hpp := pl_place hpl.1.1 hb hq
          have n10 : V 810 j = nI n := hpl.2.2.2.2.2.1.2.1
          have n15 : V 815 j = nI nx := hpl.2.2.1.2.1
          have n4 : V 804 j = nI rr := hpl.1.2.1
          have f0 : fI S 0 (E (uc j)) = V 805 j := (hV.i u.1 u.2 0).trans hpl.2.1.1
          have f4 : fI S 4 (E (uc j)) = V 813 j := (hV.i u.1 u.2 4).trans hpl.2.1.2.2.2.2.1
          have vc := pl_vC hV hj hk hs hpl
          have fc := pl_fC hV hj hk hs hpl
          have hnx := pl_nx hV hj hk hpl
          have nb : ∀ x : Int32, x = 0 ∨ x = 1 → narrow .boolean (.int x) = .int x := fun x hx => (bool_n hx).1
          by_cases hf : n < nx * rr / 48000 + 200
          · have hfl := (fr_l h9 (by omega)).mpr hf
            have hfi := (fr_i h9 (by omega)).mpr hf
            have es : pSmp S (E (uc j)) v = if V 806 j = 8 then (v - 128) * 256 else v := by unfold pSmp; rw [f1]
            have u2 := pl_u (i := 2) hj hk (by omega)
            have u3 := pl_u (i := 3) hj hk (by omega)
            have u4 := pl_u (i := 4) hj hk (by omega)
            by_cases hch : V 805 j = 1
            · have hM := c_accept_1 (l := l) (G := G) (b := b) hst S (E (uc j)) hs.2.1 _ _ rr hs.2.2.1 vc hpl.1.1 _ _ _ n hs.2.2.2.1 fc (by omega) nx hnx (by omega) v hfl (f0.trans hch)
              rw [es] at hM
              generalize hss : (if V 806 j = 8 then (v - 128) * 256 else v) = s at hM
              refine ⟨_, l_write_y hst S (E 30) hV.k7 _ _ (E 901) _ (c_write_y hst S (E 30) (E 34) hV.k7 hV.cl hV.ic j _ hj hs.1 hs.2.1 v (by rw [f1]; exact hnum) (by rw [f2]; exact he) _ 1 (nb 1 (Or.inr rfl)) hM) ?_, ?_⟩
              · rintro v1 T ⟨rfl, -⟩; exact (((hV.cA u3.1 u3.2).cA u4.1 u4.2).cJ u2.1 u2.2).oL
              · rintro r T ⟨rfl, v1, T1, ⟨rfl, rfl⟩, rfl⟩
                have hV2 := ((((hV.cA (k := n % 256) (v := s) u3.1 u3.2).cA (k := n % 256) (v := s) u4.1 u4.2).cJ (f := 202) (v := lN (n + 1)) u2.1 u2.2).oJ (k := 0) (v := if (1 : Int32) = 0 then 0 else 1))
                have em : mSmp (wJ (uJ (wI (wI S (E (uc j + 3)) (n % 256) s) (E (uc j + 4)) (n % 256) s) 202 (E (uc j + 2)) (lN (n + 1))) (E 901) 0 (if (1 : Int32) = 0 then 0 else 1)) E j v = s := by
                  unfold mSmp; rw [hV2.m (f := 806) (by decide) j]; exact hss
                have hB := m_write_1 (l := l) (G := G) (b := b) hst _ (E 900) E hV2.ly j hj (by rw [hV2.m (by decide)]; exact hth) (by rw [hV2.m (by decide)]; exact hp) v (by rw [hV2.m (by decide)]; exact hnum) (by rw [hV2.m (by decide)]; exact hs2) n nx rr ((hV2.m (by decide) j).trans n10) ((hV2.m (by decide) j).trans n15) ((hV2.m (by decide) j).trans n4) (by omega) hpl.1.1 (by rw [hV2.m (by decide), n10]; exact hfi) (by omega) ((hV2.m (by decide) j).trans hch)
                refine ⟨_, hB, hV2.z8, ?_⟩
                rintro w T' ⟨rfl, rfl⟩
                rw [em]
                refine ⟨fI800, fun _ => if_pos ⟨rfl, rfl⟩, Rl.mk' (o := o) (np := np) (rp := rp) (mm := m) (((hV2.m8.mI (by decide)).mI (by decide)).mI (by decide)) ?_⟩
                exact hR.one (c := j) (by omega) ((((((agG.rf.a (by have := uc_ge j; omega)).a (by have := uc_ge j; omega)).j (by have := uc_ge j; omega)).v (by decide)).v (by decide)).v (by decide)) (fun _ _ _ => rfl) (fun d hd hne => ⟨((agU.rf.a (uc_ne hne 3 (by decide))).a (uc_ne hne 4 (by decide))).j (uc_ne hne 2 (by decide)), ((agV.rf.q (c := j) (by decide) hne (by omega)).q (c := j) (by decide) hne (by omega)).p (by decide) hne, rfl⟩) (Or.inr (Or.inl ⟨hk, by simpa [uq2] using hth, by simpa [uq2] using hp, n + 1, nx, hd, rr, hpl.a1 hf (h11.2.2 hch)⟩))
            · by_cases hhf : V 813 j = 0
              · have hM := c_accept_3 (l := l) (G := G) (b := b) hst S (E (uc j)) hs.2.1 _ _ rr hs.2.2.1 vc hpl.1.1 _ _ _ n hs.2.2.2.1 fc (by omega) nx hnx (by omega) v hfl (by rw [f0]; exact hch) (f4.trans hhf)
                rw [es] at hM
                generalize hss : (if V 806 j = 8 then (v - 128) * 256 else v) = s at hM
                refine ⟨_, l_write_y hst S (E 30) hV.k7 _ _ (E 901) _ (c_write_y hst S (E 30) (E 34) hV.k7 hV.cl hV.ic j _ hj hs.1 hs.2.1 v (by rw [f1]; exact hnum) (by rw [f2]; exact he) _ 1 (nb 1 (Or.inr rfl)) hM) ?_, ?_⟩
                · rintro v1 T ⟨rfl, -⟩; exact ((hV.cI u.1 u.2).cI u.1 u.2).oL
                · rintro r T ⟨rfl, v1, T1, ⟨rfl, rfl⟩, rfl⟩
                  have hV2 := ((hV.cI (f := 509) (v := s) u.1 u.2).cI (f := 4) (v := 1) u.1 u.2).oJ (k := 0) (v := if (1 : Int32) = 0 then 0 else 1)
                  have hB := m_write_3 (l := l) (G := G) (b := b) hst _ (E 900) E hV2.ly j hj (by rw [hV2.m (by decide)]; exact hth) (by rw [hV2.m (by decide)]; exact hp) v (by rw [hV2.m (by decide)]; exact hnum) (by rw [hV2.m (by decide)]; exact hs2) n nx rr ((hV2.m (by decide) j).trans n10) ((hV2.m (by decide) j).trans n15) ((hV2.m (by decide) j).trans n4) (by omega) hpl.1.1 (by rw [hV2.m (by decide), n10]; exact hfi) (by omega) (by rw [hV2.m (by decide)]; exact hch) ((hV2.m (by decide) j).trans hhf)
                  have em : mSmp (wJ (uI (uI S 509 (E (uc j)) s) 4 (E (uc j)) 1) (E 901) 0 (if (1 : Int32) = 0 then 0 else 1)) E j v = s := by
                    unfold mSmp; rw [show aI _ (E 806) j = V 806 j from hV2.m (by decide) j]; exact hss
                  rw [em] at hB
                  refine ⟨_, hB, hV2.z8, ?_⟩
                  rintro w T' ⟨rfl, rfl⟩
                  refine ⟨fI800, fun _ => if_pos ⟨rfl, rfl⟩, Rl.mk' (o := o) (np := np) (rp := rp) (mm := m) ((hV2.m8.mI (by decide)).mI (by decide)) ?_⟩
                  exact hR.one (c := j) (by omega) ((((agG.rf.i (uc_ge j)).i (uc_ge j)).v (by decide)).v (by decide)) (fun _ _ _ => rfl) (fun d hd hne => ⟨(agU.rf.i (uc_n0 hne)).i (uc_n0 hne), (agV.rf.p (by decide) hne).p (by decide) hne, rfl⟩) (Or.inr (Or.inl ⟨hk, by simpa [uq2] using hth, by simpa [uq2] using hp, n, nx, hd, rr, hpl.a3 hf hch⟩))
              · have hM := c_accept_2 (l := l) (G := G) (b := b) hst S (E (uc j)) hs.2.1 _ _ rr hs.2.2.1 vc hpl.1.1 _ _ _ n hs.2.2.2.1 fc (by omega) nx hnx (by omega) v hfl (by rw [f0]; exact hch) (by rw [f4]; exact hhf)
                rw [es, show fI S 509 (E (uc j)) = V 814 j from (hV.i u.1 u.2 509).trans (hpl.2.1.2.2.2.2.2.2.1 hhf)] at hM
                generalize hss : (if V 806 j = 8 then (v - 128) * 256 else v) = s at hM
                refine ⟨_, l_write_y hst S (E 30) hV.k7 _ _ (E 901) _ (c_write_y hst S (E 30) (E 34) hV.k7 hV.cl hV.ic j _ hj hs.1 hs.2.1 v (by rw [f1]; exact hnum) (by rw [f2]; exact he) _ 1 (nb 1 (Or.inr rfl)) hM) ?_, ?_⟩
                · rintro v1 T ⟨rfl, -⟩; exact ((((hV.cA u3.1 u3.2).cA u4.1 u4.2).cJ u2.1 u2.2).cI u.1 u.2).oL
                · rintro r T ⟨rfl, v1, T1, ⟨rfl, rfl⟩, rfl⟩
                  have hV2 := ((((hV.cA (k := n % 256) (v := V 814 j) u3.1 u3.2).cA (k := n % 256) (v := s) u4.1 u4.2).cJ (f := 202) (v := lN (n + 1)) u2.1 u2.2).cI (f := 4) (v := 0) u.1 u.2).oJ (k := 0) (v := if (1 : Int32) = 0 then 0 else 1)
                  have hB := m_write_2 (l := l) (G := G) (b := b) hst _ (E 900) E hV2.ly j hj (by rw [hV2.m (by decide)]; exact hth) (by rw [hV2.m (by decide)]; exact hp) v (by rw [hV2.m (by decide)]; exact hnum) (by rw [hV2.m (by decide)]; exact hs2) n nx rr ((hV2.m (by decide) j).trans n10) ((hV2.m (by decide) j).trans n15) ((hV2.m (by decide) j).trans n4) (by omega) hpl.1.1 (by rw [hV2.m (by decide), n10]; exact hfi) (by omega) (by rw [hV2.m (by decide)]; exact hch) (by rw [hV2.m (by decide)]; exact hhf)
                  rw [hV2.m (f := 814) (by decide)] at hB
                  have em : mSmp (wJ (uI (uJ (wI (wI S (E (uc j + 3)) (n % 256) (V 814 j)) (E (uc j + 4)) (n % 256) s) 202 (E (uc j + 2)) (lN (n + 1))) 4 (E (uc j)) 0) (E 901) 0 (if (1 : Int32) = 0 then 0 else 1)) E j v = s := by
                    unfold mSmp; rw [hV2.m (f := 806) (by decide) j]; exact hss
                  rw [em] at hB
                  refine ⟨_, hB, hV2.z8, ?_⟩
                  rintro w T' ⟨rfl, rfl⟩
                  refine ⟨fI800, fun _ => if_pos ⟨rfl, rfl⟩, Rl.mk' (o := o) (np := np) (rp := rp) (mm := m) ((((hV2.m8.mI (by decide)).mI (by decide)).mI (by decide)).mI (by decide)) ?_⟩
                  exact hR.one (c := j) (by omega) ((((((((agG.rf.a (by have := uc_ge j; omega)).a (by have := uc_ge j; omega)).j (by have := uc_ge j; omega)).i (uc_ge j)).v (by decide)).v (by decide)).v (by decide)).v (by decide)) (fun _ _ _ => rfl) (fun d hd hne => ⟨(((agU.rf.a (uc_ne hne 3 (by decide))).a (uc_ne hne 4 (by decide))).j (uc_ne hne 2 (by decide))).i (uc_n0 hne), (((agV.rf.q (c := j) (by decide) hne (by omega)).q (c := j) (by decide) hne (by omega)).p (by decide) hne).p (by decide) hne, rfl⟩) (Or.inr (Or.inl ⟨hk, by simpa [uq2] using hth, by simpa [uq2] using hp, n + 1, nx, hd, rr, hpl.a2 hf⟩))
          · have hfl : ¬ 1 ≤ 200 - (lN n - lN (nx * rr / 48000)) := fun q => hf ((fr_l h9 (by omega)).mp q)
            have hfi : ¬ 0 < 200 - (nI n - nI (nx * rr / 48000)) := fun q => hf ((fr_i h9 (by omega)).mp q)
            have hM := c_accept_f (l := l) (G := G) (b := b) hst S (E (uc j)) hs.2.1 _ _ rr hs.2.2.1 vc hpl.1.1 _ _ _ n hs.2.2.2.1 fc (by omega) nx hnx (by omega) v hfl
            refine ⟨_, l_write_y hst S (E 30) hV.k7 _ _ (E 901) _ (c_write_y hst S (E 30) (E 34) hV.k7 hV.cl hV.ic j _ hj hs.1 hs.2.1 v (by rw [f1]; exact hnum) (by rw [f2]; exact he) _ 0 (nb 0 (Or.inl rfl)) hM) (fun v T h => by rw [h.1]; exact hV.oL), ?_⟩
            rintro r T ⟨rfl, v1, T1, ⟨rfl, rfl⟩, rfl⟩
            have hV2 := hV.oJ (k := 0) (v := if (0 : Int32) = 0 then 0 else 1)
            refine ⟨_, m_write_f hst _ (E 900) E hV2.ly j hj (by rw [hV2.m (by decide)]; exact hth) (by rw [hV2.m (by decide)]; exact hp) v (by rw [hV2.m (by decide)]; exact hnum) (by rw [hV2.m (by decide)]; exact hs2) n nx rr ((hV2.m (by decide) j).trans n10) ((hV2.m (by decide) j).trans n15) ((hV2.m (by decide) j).trans n4) (by omega) hpl.1.1 (by rw [hV2.m (by decide), n10]; exact hfi), hV2.z8, ?_⟩
            rintro w T' ⟨rfl, rfl⟩
            exact ⟨fI800, fun _ => if_pos ⟨rfl, rfl⟩, Rl.mk' hV2.m8 (hR.idle (by omega))⟩
    · exact rejW hV hR hq 1 0 (by decide) (l_write_t1 hst S (E 30) hV.k7 _ _ (E 901) (c_write_l hst S (E 30) (E 34) hV.k7 hV.cl hV.ic j _ hj hs.1 hs.2.1 v)) (m_write_n2 hst S (E 900) E hV.ly j hj hth0 (by rw [e3]; exact hp) v)
  · have hn := cl_no hV hR hc
    exact rejW hV hR hq 1 0 (by decide) (l_write_t1 hst S (E 30) hV.k7 c0 v (E 901) (c_write_n hst S (E 30) (E 34) hV.k7 hV.cl hV.ic c0 hn.1 v)) (m_write_n1 hst S (E 900) E hV.ly c0 hn.2 v)
end
