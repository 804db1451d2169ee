/-! ===== close, read ===== -/
section
variable {S : Sw} {E κ : Nat → Nat} {Ui Ui' : Nat → Nat → Int32} {Uj : Nat → Nat → Int64} {Ua : Nat → Nat → Int32} {V V' : Nat → Nat → Int32} {W : Nat → Int32} {D : Nat → UInt64} {c d o np rp mm q n nx hd rr h rk rd wh j : Nat}
theorem us.clo {x : Nat} (h : us (fun c => if c = j then 0 else κ c) x) : us κ x := by
  rcases h with h | h | ⟨c, hc, h⟩
  · exact Or.inl h
  · exact Or.inr (Or.inl h)
  · refine Or.inr (Or.inr ⟨c, hc, ?_⟩)
    dsimp only at h
    by_cases e : c = j
    · rcases h with h | h
      · have := h.1; rw [if_pos e] at this; exact absurd this (by decide)
      · have := h.1; rw [if_pos e] at this; exact absurd this (by decide)
    · rw [if_neg e] at h; exact h
theorem RV.clo (h : RV S E κ Ui Uj Ua V W D) : RV (wR S (E 34) j none) E (fun c => if c = j then 0 else κ c) Ui Uj Ua V W D := by
  obtain ⟨h1, ⟨hg, hc⟩, h3, h4, h5⟩ := h
  refine ⟨fun a b ha hb e => h1 a b ha.clo hb.clo e, ⟨?_, ?_⟩, h3, fun a ha h8 => h4 a ha.clo h8, h5⟩
  · obtain ⟨g1, g2, g3, g4, g5, g6, g7, g8⟩ := hg
    refine ⟨g1, g2, g3, g4, g5, g6, fun i hi => ?_, g8⟩
    obtain ⟨a1, a2, a3, a4⟩ := g7 i hi
    have n5 : E 35 ≠ E 34 := h1.ne (us.b (by decide)) (us.b (by decide)) (by decide)
    have n6 : E 36 ≠ E 34 := h1.ne (us.b (by decide)) (us.b (by decide)) (by decide)
    exact ⟨(if_neg (fun q => n5 q.1)).trans a1, a2, (if_neg (fun q => n6 q.1)).trans a3, a4⟩
  · intro c hc6
    by_cases e : c = j
    · exact Or.inl ⟨if_pos e, if_pos ⟨rfl, e⟩⟩
    · have er : aR (wR S (E 34) j none) (E 34) c = aR S (E 34) c := if_neg (fun q => e q.2)
      rcases hc c hc6 with ⟨k1, k2⟩ | ⟨k1, k2⟩ | ⟨k1, k2⟩
      · exact Or.inl ⟨(if_neg e).trans k1, er.trans k2⟩
      · exact Or.inr (Or.inl ⟨(if_neg e).trans k1, er.trans k2.1, k2.2⟩)
      · exact Or.inr (Or.inr ⟨(if_neg e).trans k1, er.trans k2.1, k2.2⟩)
theorem agV.oo {p : Nat} {v : Int32} (g : agV V V' d) (hd : d < 6) (hc : c < 6) (hne : d ≠ c) : agV V (uq2 V' 827 (6 * p + c) v) d := by
  refine ⟨fun f hf => (uq2_ne (Or.inl (fun e => by rw [e] at hf; revert hf; decide))).trans (g.1 f hf), fun i hi => ⟨(uq2_ne (Or.inl (by decide))).trans (g.2.1 i hi).1, (uq2_ne (Or.inl (by decide))).trans (g.2.1 i hi).2.1, (uq2_ne (Or.inl (by decide))).trans (g.2.1 i hi).2.2⟩, fun p' hp => (uq2_ne (Or.inr (by omega))).trans (g.2.2.1 p' hp), (uq2_row (by decide)).trans g.2.2.2⟩
theorem agV.s {r : Nat → Int32} (g : agV V V' d) (hr : ∀ i, i < 12800 → r (12800 * d + i) = V 822 (12800 * d + i)) : agV V (uqR V' 822 r) d :=
  ⟨fun f hf => by rw [← g.1 f hf]; show (if f = 822 then r else V' f) d = _; rw [if_neg (fun e => by rw [e] at hf; revert hf; decide)], fun i hi => ⟨(g.2.1 i hi).1, (g.2.1 i hi).2.1, hr i hi⟩, g.2.2.1, g.2.2.2⟩
theorem gV_c {rt : Int32} (h1 : V' 811 = V 811) (h2 : V' 812 = V 812) : gV V' c h rt = gV V c h rt := by
  funext x
  unfold gV
  by_cases hr : rt = 0
  · rw [if_pos hr, h1]
  · rw [if_neg hr, h2]
theorem gM_V (hV : RV S E κ Ui Uj Ua V W D) (rt : Int32) : gM S E c h rt = gV V c h rt := by
  funext x
  unfold gM gV
  by_cases hr : rt = 0
  · rw [if_pos hr, hV.m (by decide)]
  · rw [if_neg hr, hV.m (by decide)]
theorem lsP.rdd (g : lsP Ui Uj Ua V c q h rk rr rd wh) (h0 : 0 < rd) (hU : ∀ f, f < 4 → Ui' (uc c) f = Ui (uc c) f) (hU4 : Ui' (uc c) 4 = 0) : lsP Ui' (uq2 Uj (uc c) 409 (lN (wh + 1))) Ua (uq2 (uqR (uq2 (uq2 V 813 c 0) 821 c (nI (rd - 1))) 822 (shf (V 822) (12800 * c) (rd - 1))) 823 c (nI (wh + 1))) c (q + 1) h rk rr (rd - 1) (wh + 1) := by
  obtain ⟨h1, h2, h3, h4, h5, h6, h7, h8, h9, h10, h11⟩ := g
  refine ⟨by simpa [uq2, uqR] using h1, ⟨?_, ?_, ?_, ?_, ?_⟩, ⟨by simpa [uq2, uqR] using h3.1, by simpa [uq2, uqR] using h3.2.1, by omega⟩, ⟨by simpa [uq2, uqR] using h4.1, by simpa [uq2, uqR] using h4.2.1, h4.2.2⟩, ⟨by simp [uq2], by simp [uq2], ?_, by simp [uq2, uqR], by omega, by omega⟩, by simpa [uq2, uqR] using h6, ?_, h8, by simpa [uq2, uqR] using h9, by simp [uq2, uqR], by simpa [uq2, uqR] using h11⟩
  · rw [hU 0 (by decide)]; simpa [uq2, uqR] using h2.1
  · rw [hU 1 (by decide)]; simpa [uq2, uqR] using h2.2.1
  · rw [hU 2 (by decide)]; simpa [uq2, uqR] using h2.2.2.1
  · rw [hU 3 (by decide)]; simpa [uq2, uqR] using h2.2.2.2.1
  · rw [hU4]; simp [uq2, uqR]
  · rw [show wh + 1 + (rd - 1) = wh + rd by omega]; simpa [uq2, uqR] using h5.2.2.1
  · intro i hi
    obtain ⟨n, n1, n2, n3, n4, n5⟩ := h7 (i + 1) (by omega)
    refine ⟨n, ?_, n2, n3, ?_, ?_⟩
    · have : shf (V 822) (12800 * c) (rd - 1) (12800 * c + i) = V 822 (12800 * c + (i + 1)) := if_pos ⟨by omega, by omega⟩
      rw [← n1, ← this]; simp [uq2, uqR]
    · rw [gV_c (V := V) (by funext x; simp [uq2, uqR]) (by funext x; simp [uq2, uqR]), show wh + 1 + i = wh + (i + 1) by omega, n4]
      congr 1
    · rw [gV_c (V := V) (by funext x; simp [uq2, uqR]) (by funext x; simp [uq2, uqR]), show wh + 1 + i = wh + (i + 1) by omega, n5]
      congr 1
theorem lsP.hf (g : lsP Ui Uj Ua V c q h rk rr rd wh) (h0 : 0 < rd) (hch : V 805 c = 2) : lsP (uq2 Ui (uc c) 4 1) Uj Ua (uq2 V 813 c 1) c (q + 1) h rk rr rd wh := by
  obtain ⟨h1, h2, h3, h4, h5, h6, h7, h8, h9, h10, h11⟩ := g
  refine ⟨by simpa [uq2] using h1, by simpa [uq2] using ⟨h2.1, h2.2.1, h2.2.2.1, h2.2.2.2.1⟩, ⟨h3.1, by simpa [uq2] using h3.2.1, by omega⟩, ⟨h4.1, by simpa [uq2] using h4.2.1, by omega⟩, by simpa [uq2] using h5, by simpa [uq2] using h6, ?_, h8, by simpa [uq2] using h9, by simp [uq2, hch, h0], by simpa [uq2] using h11⟩
  intro i hi
  obtain ⟨n, n1, n2, n3, n4, n5⟩ := h7 i hi
  refine ⟨n, by simpa [uq2] using n1, n2, n3, ?_, ?_⟩
  · rw [uq2_row (a := 801) (by decide), gV_u (by decide)]; exact n4
  · rw [uq2_row (a := 801) (by decide), gV_u (by decide)]; exact n5
end
theorem rd_q {rd : Nat} {ch hf : Int32} (h0 : 0 < rd) (h2 : rd ≤ 200) (hc : (ch = 1 ∧ hf = 0) ∨ ch = 2) : 1 ≤ nI rd * ch - (if hf = 0 then 0 else 1) := by
  rcases hc with ⟨rfl, rfl⟩ | rfl
  · rw [if_pos rfl, Int32.mul_one, Int32.sub_zero]; exact nI_le (a := 1) (by omega) (by omega)
  · rw [show (2 : Int32) = nI 2 from rfl, pk_mul]
    by_cases e : hf = 0
    · rw [if_pos e, Int32.sub_zero]; exact nI_le (a := 1) (by omega) (by omega)
    · rw [if_neg e, show (1 : Int32) = nI 1 from rfl, pk_sub (by omega)]; exact nI_le (a := 1) (by omega) (by omega)
theorem rd_z {ch hf : Int32} (hc : ch = 1 ∨ ch = 2) (hh : hf = 0) : ¬ 1 ≤ nI 0 * ch - (if hf = 0 then 0 else 1) := by
  rw [if_pos hh]
  rcases hc with rfl | rfl <;> decide
section
variable {l : Launch} {G : GG} {b : Nat} {S : Sw} {k z out outD q : Nat}
theorem s_close (hst : l.stackTraces = false) (h : Rl S k z out outD q) (hq : q < 512) (c0 : Int32) : St2 z (CtW l G b yL_close cL_close 3 (some .int) [(0, 5, 8, 13)] rmL_close mI [.ref k, .int c0] S) (fun T => Ct l G b yX8_close cX8_close 3 none rmX8_close mV [.ref z, .int c0] T) (FinV k z out outD q) := by
  obtain ⟨E, κ, Ui, Uj, Ua, V, W, D, o, np, rp, m, rfl, rfl, rfl, rfl, hV, hR⟩ := h
  by_cases hc : ∃ j, j < 6 ∧ c0 = nI j ∧ ¬ V 802 j = 0
  · obtain ⟨j, hj, rfl, hth⟩ := hc
    have hx : ∃ x, aR S (E 34) j = some x := by
      rcases cl_at hV hR hj hth with ⟨-, hs, -⟩ | ⟨-, hs, -⟩
      · exact ⟨_, hs.1⟩
      · exact ⟨_, hs.1⟩
    obtain ⟨x, hx⟩ := hx
    refine ⟨_, l_close_y hst S (E 30) hV.k7 (nI j) _ (c_close_y hst S (E 30) (E 34) hV.k7 hV.cl hV.ic j x hj hx), ?_⟩
    rintro r T ⟨rfl, -, rfl⟩
    have hV2 := hV.clo (j := j)
    refine ⟨_, m_close_y hst _ (E 900) E hV2.ly j hj (by rw [hV2.m (by decide)]; exact hth), hV2.z8, ?_⟩
    rintro w T' rfl
    refine ⟨fI800, Rl.mk' (o := o) (np := np) (rp := rp) (mm := m) (((((hV2.m8.mI (by decide)).mI (by decide)).mI (by decide)).mI (by decide)).mI (by decide)) ?_⟩
    refine hR.one (c := j) (by omega) (((((agG.rf.v (by decide)).v (by decide)).v (by decide)).v (by decide)).v (by decide)) (fun d _ hne => if_neg hne) (fun d hd hne => ⟨agU.rf, ((((agV.rf.p (by decide) hne).oo hd hj hne).oo hd hj hne).oo hd hj hne).oo hd hj hne, rfl⟩) (Or.inl ⟨if_pos rfl, by simp [uq2], ?_⟩)
    intro p hp
    have h4 := hR.1.1.2.2.2.1
    have : p = 0 ∨ p = 1 ∨ p = 2 ∨ p = 3 := by omega
    rcases this with rfl | rfl | rfl | rfl <;> simp [uq2]
  · have hn := cl_no hV hR hc
    exact rejV hV hR hq 1 (l_close_t1 hst S (E 30) hV.k7 c0 (c_close_n hst S (E 30) (E 34) hV.k7 hV.cl hV.ic c0 hn.1)) (m_close_n hst S (E 900) E hV.ly c0 hn.2)
theorem s_read (hst : l.stackTraces = false) (h : Rl S k z out outD q) (hq : q < 512) (c0 : Int32) : St2 z (CtW l G b yL_read cL_read 4 (some .int) [(0, 9, 12, 13), (0, 9, 15, 15)] rmL_read mI [.ref k, .int c0, .ref out] S) (fun T => Ct l G b yX8_read cX8_read 7 (some .int) rmX8_read mI [.ref z, .int c0] T) (FinI k z out outD q) := by
  obtain ⟨E, κ, Ui, Uj, Ua, V, W, D, o, np, rp, m, rfl, rfl, rfl, rfl, hV, hR⟩ := h
  by_cases hc : ∃ j, j < 6 ∧ c0 = nI j ∧ ¬ V 802 j = 0
  · obtain ⟨j, hj, rfl, hth⟩ := hc
    have hth0 : ¬ aI S (E 802) j = 0 := by rw [hV.m (by decide)]; exact hth
    have e3 : aI S (E 803) j = V 803 j := hV.m (by decide) j
    rcases cl_at hV hR hj hth with ⟨hk, hs, hp, n, nx, hd, rr, hpl⟩ | ⟨hk, hs, hp, hz, hh, rk, rr, rd, wh, hls⟩
    · exact rejI hV hR hq 1 0 (by decide) (l_read_t1 hst S (E 30) hV.k7 _ (E 901) (c_read_p hst S (E 30) (E 34) hV.k7 hV.cl hV.ic j _ hj hs.1 hs.2.1)) (m_read_n2 hst S (E 900) E hV.ly j hj hth0 (by rw [e3]; exact hp))
    · have u := ls_0 hj hk
      have h3 := hls.2.2.1
      have h4 := hls.2.2.2.1
      have h5 := hls.2.2.2.2.1
      have h7 := hls.2.2.2.2.2.2.1
      have h9 := hls.2.2.2.2.2.2.2.2.1
      have h10 := hls.2.2.2.2.2.2.2.2.2.1
      have f0 : fI S 0 (E (uc j)) = V 805 j := (hV.i u.1 u.2 0).trans hls.2.1.1
      have f1 : fI S 1 (E (uc j)) = V 806 j := (hV.i u.1 u.2 1).trans hls.2.1.2.1
      have f4 : fI S 4 (E (uc j)) = V 813 j := (hV.i u.1 u.2 4).trans hls.2.1.2.2.2.2
      have f9 : fJ S 409 (E (uc j)) = lN wh := (hV.jj u.1 u.2 409).trans h5.1
      have fc := ls_f2 hV hj hk hs hls
      have hQ := c_numbersNow4 (l := l) (G := G) (b := b) hst S (E (uc j)) hs.2.1 _ _ _ (wh + rd) hs.2.2.2.2.1 fc (by omega) wh f9 (by omega)
      rw [f0, f4, lN_sub (by omega), show wh + rd - wh = rd by omega, lN_i] at hQ
      by_cases h0 : rd = 0
      · have hf0 : V 813 j = 0 := Classical.not_not.mp (fun hx => by have := h10.2.1 hx; omega)
        subst h0
        exact rejI hV hR hq 2 0 (by decide) (l_read_t2 hst S (E 30) hV.k7 _ (E 901) (c_read_z hst S (E 30) (E 34) hV.k7 hV.cl hV.ic j _ hj hs.1 hs.2.1 _ hQ (rd_z h9.1 hf0))) (m_read_n3 hst S (E 900) E hV.ly j hj hth0 (by rw [e3]; exact hp) ((hV.m (by decide) j).trans h5.2.2.2.1))
      · obtain ⟨n, n1, n2, n3, n4, n5⟩ := h7 0 (by omega)
        have u6 := ls_u (i := 6) hj hk (by omega)
        have u7 := ls_u (i := 7) hj hk (by omega)
        rw [Nat.add_zero] at n1 n4 n5
        have l0 : lsV S (E (uc j + 6)) (E (uc j + 7)) (wh + rd) wh 0 = flt (V 801) (gV V j hh 0) n 48000 rr := by
          unfold lsV gC
          rw [if_neg (by omega), if_pos rfl, Int.toNat_natCast, hV.a u6.1 u6.2]; exact n4
        have l1 : lsV S (E (uc j + 6)) (E (uc j + 7)) (wh + rd) wh 1 = flt (V 801) (gV V j hh 1) n 48000 rr := by
          unfold lsV gC
          rw [if_neg (by omega), if_neg (by decide), Int.toNat_natCast, hV.a u7.1 u7.2]; exact n5
        have hb : n < 2 ^ 20 := by omega
        have hcc : (V 805 j = 1 ∧ V 813 j = 0) ∨ V 805 j = 2 := by
          rcases h9.1 with h | h
          · exact Or.inl ⟨h, h10.2.2 h⟩
          · exact Or.inr h
        have hq1 := rd_q (by omega) h5.2.2.2.2.1 hcc
        have eN : ∀ x, lsN S (E (uc j)) x = if V 806 j = 8 then mDnI x 256 + 128 else x := fun x => by unfold lsN; rw [f1, jm256]
        have jw : ∀ {T : Sw} {Ui2 : Nat → Nat → Int32} {Uj2 : Nat → Nat → Int64}, RV T E κ Ui2 Uj2 Ua V W D → ¬ aI T (E 802) j = 0 ∧ aI T (E 803) j = 0 ∧ aI T (E 821) j = nI rd ∧ aI T (E 822) (12800 * j) = nI n ∧ aI T (E 804) j = nI rr ∧ aI T (E 810) j = nI hh ∧ (∀ x, mNum T E j x = if V 806 j = 8 then mDnI x 256 + 128 else x) ∧ aI T (E 801) = V 801 := fun hT => ⟨by rw [hT.m (by decide)]; exact hth, (hT.m (by decide) j).trans hp, (hT.m (by decide) j).trans h5.2.2.2.1, (hT.m (by decide) _).trans n1, (hT.m (by decide) j).trans hls.1.2.1, (hT.m (by decide) j).trans h3.2.1, fun x => by unfold mNum; rw [hT.m (by decide)], funext (hT.m (by decide))⟩
        have fin : ∀ {T : Sw} {Ui2 : Nat → Nat → Int32}, RV T E κ Ui2 (uq2 Uj (uc j) 409 (lN (wh + 1))) Ua V W D → (∀ d, d < 6 → d ≠ j → agU Ui Uj Ua Ui2 (uq2 Uj (uc j) 409 (lN (wh + 1))) Ua d) → agG Ui Uj Ua V W Ui2 (uq2 Uj (uc j) 409 (lN (wh + 1))) Ua V W → (∀ f, f < 4 → Ui2 (uc j) f = Ui (uc j) f) → Ui2 (uc j) 4 = 0 → Rl (mRd T (E 900) E j rd) (E 30) (E 900) (E 901) (E 902) (q + 1) := by
          intro T Ui2 hT ha hg hU hU4
          have e22 : aI T (E 822) = V 822 := funext (hT.m (by decide))
          have e23 : aI T (E 823) j + 1 = nI (wh + 1) := by rw [hT.m (by decide), h5.2.1, nI_1]
          unfold mRd
          rw [e22, e23]
          refine Rl.mk' (o := o) (np := np) (rp := rp) (mm := m) ((((hT.m8.mI (by decide)).mI (by decide)).mIs (by decide)).mI (by decide)) ?_
          refine hR.one (c := j) (by omega) ((((hg.v (by decide)).v (by decide)).vr (by decide)).v (by decide)) (fun _ _ _ => rfl) (fun d hd hne => ⟨ha d hd hne, ((((agV.rf.p (by decide) hne).p (by decide) hne).s (fun i hi => if_neg (by omega))).p (by decide) hne), rfl⟩) (Or.inr (Or.inr ⟨hk, by simpa [uq2, uqR] using hth, by simpa [uq2, uqR] using hp, ?_, hh, rk, rr, rd - 1, wh + 1, hls.rdd (by omega) hU hU4⟩))
          intro p hpp
          have := hz p hpp
          simpa [uq2, uqR] using this
        rcases hcc with ⟨hch, hhf⟩ | hch
        · have hM := c_nextNumber_1 (l := l) (G := G) (b := b) hst S (E (uc j)) hs.2.1 _ _ _ (wh + rd) hs.2.2.2.2.1 fc (by omega) wh f9 (by omega) (f0.trans hch)
          rw [l0, l1, eN, jm2] at hM
          refine ⟨_, l_read_y hst S (E 30) hV.k7 _ (E 901) _ (c_read_y hst S (E 30) (E 34) hV.k7 hV.cl hV.ic j _ hj hs.1 hs.2.1 _ hQ hq1 _ _ hM) ?_, ?_⟩
          · rintro v1 T ⟨rfl, -⟩; exact (hV.cJ u.1 u.2).oL
          · rintro r T ⟨rfl, v1, T1, ⟨rfl, rfl⟩, rfl⟩
            have hT := (hV.cJ (f := 409) (v := lN (wh + 1)) u.1 u.2).oJ (k := 0) (v := (if V 806 j = 8 then mDnI (mDnI (flt (V 801) (gV V j hh 0) n 48000 rr + flt (V 801) (gV V j hh 1) n 48000 rr) 2) 256 + 128 else mDnI (flt (V 801) (gV V j hh 0) n 48000 rr + flt (V 801) (gV V j hh 1) n 48000 rr) 2).toInt64)
            obtain ⟨w1, w2, w3, w4, w5, w6, w7, w8⟩ := jw hT
            have hB := m_read_1 (l := l) (G := G) (b := b) hst _ (E 900) E hT.ly j hj w1 w2 rd n rr hh w3 (by omega) h5.2.2.2.2.1 w4 hb w5 hls.1.1 w6 (by omega) (by rw [hT.m (by decide), hch]; decide)
            rw [w7, w8, gM_V hT, gM_V hT] at hB
            refine ⟨_, hB, hT.z8, ?_⟩
            rintro w T' ⟨rfl, rfl⟩
            exact ⟨if_pos ⟨rfl, rfl⟩, fun _ => if_pos ⟨rfl, rfl⟩, fin hT (fun d hd hne => agU.rf.j (uc_n0 hne)) (agG.rf.j (uc_ge j)) (fun _ _ => rfl) (hls.2.1.2.2.2.2.trans hhf)⟩
        · by_cases hhf : V 813 j = 0
          · have hM := c_nextNumber_3 (l := l) (G := G) (b := b) hst S (E (uc j)) hs.2.1 _ _ _ (wh + rd) hs.2.2.2.2.1 fc (by omega) wh f9 (by omega) (by rw [f0, hch]; decide) (f4.trans hhf)
            rw [l0, eN] at hM
            refine ⟨_, l_read_y hst S (E 30) hV.k7 _ (E 901) _ (c_read_y hst S (E 30) (E 34) hV.k7 hV.cl hV.ic j _ hj hs.1 hs.2.1 _ hQ hq1 _ _ hM) ?_, ?_⟩
            · rintro v1 T ⟨rfl, -⟩; exact (hV.cI u.1 u.2).oL
            · rintro r T ⟨rfl, v1, T1, ⟨rfl, rfl⟩, rfl⟩
              have hT := (hV.cI (f := 4) (v := 1) u.1 u.2).oJ (k := 0) (v := (if V 806 j = 8 then mDnI (flt (V 801) (gV V j hh 0) n 48000 rr) 256 + 128 else flt (V 801) (gV V j hh 0) n 48000 rr).toInt64)
              obtain ⟨w1, w2, w3, w4, w5, w6, w7, w8⟩ := jw hT
              have hB := m_read_h (l := l) (G := G) (b := b) hst _ (E 900) E hT.ly j hj w1 w2 rd n rr hh w3 (by omega) h5.2.2.2.2.1 w4 hb w5 hls.1.1 w6 (by omega) ((hT.m (by decide) j).trans hch) ((hT.m (by decide) j).trans hhf)
              rw [w7, w8, gM_V hT] at hB
              refine ⟨_, hB, hT.z8, ?_⟩
              rintro w T' ⟨rfl, rfl⟩
              refine ⟨if_pos ⟨rfl, rfl⟩, fun _ => if_pos ⟨rfl, rfl⟩, Rl.mk' (o := o) (np := np) (rp := rp) (mm := m) (hT.m8.mI (by decide)) ?_⟩
              exact hR.one (c := j) (by omega) ((agG.rf.i (uc_ge j)).v (by decide)) (fun _ _ _ => rfl) (fun d hd hne => ⟨agU.rf.i (uc_n0 hne), agV.rf.p (by decide) hne, rfl⟩) (Or.inr (Or.inr ⟨hk, by simpa [uq2] using hth, by simpa [uq2] using hp, hz.u (by decide), hh, rk, rr, rd, wh, hls.hf (by omega) hch⟩))
          · have hM := c_nextNumber_2 (l := l) (G := G) (b := b) hst S (E (uc j)) hs.2.1 _ _ _ (wh + rd) hs.2.2.2.2.1 fc (by omega) wh f9 (by omega) (by rw [f0, hch]; decide) (by rw [f4]; exact hhf)
            rw [l1, eN] at hM
            refine ⟨_, l_read_y hst S (E 30) hV.k7 _ (E 901) _ (c_read_y hst S (E 30) (E 34) hV.k7 hV.cl hV.ic j _ hj hs.1 hs.2.1 _ hQ hq1 _ _ hM) ?_, ?_⟩
            · rintro v1 T ⟨rfl, -⟩; exact ((hV.cI u.1 u.2).cJ u.1 u.2).oL
            · rintro r T ⟨rfl, v1, T1, ⟨rfl, rfl⟩, rfl⟩
              have hT := ((hV.cI (f := 4) (v := 0) u.1 u.2).cJ (f := 409) (v := lN (wh + 1)) u.1 u.2).oJ (k := 0) (v := (if V 806 j = 8 then mDnI (flt (V 801) (gV V j hh 1) n 48000 rr) 256 + 128 else flt (V 801) (gV V j hh 1) n 48000 rr).toInt64)
              obtain ⟨w1, w2, w3, w4, w5, w6, w7, w8⟩ := jw hT
              have hB := m_read_2 (l := l) (G := G) (b := b) hst _ (E 900) E hT.ly j hj w1 w2 rd n rr hh w3 (by omega) h5.2.2.2.2.1 w4 hb w5 hls.1.1 w6 (by omega) ((hT.m (by decide) j).trans hch) (by rw [hT.m (by decide)]; exact hhf)
              rw [w7, w8, gM_V hT] at hB
              refine ⟨_, hB, hT.z8, ?_⟩
              rintro w T' ⟨rfl, rfl⟩
              exact ⟨if_pos ⟨rfl, rfl⟩, fun _ => if_pos ⟨rfl, rfl⟩, fin hT (fun d hd hne => (agU.rf.i (uc_n0 hne)).j (uc_n0 hne)) ((agG.rf.i (uc_ge j)).j (uc_ge j)) (fun f hf => uq2_ne (Or.inr (by omega))) uq2_eq⟩
  · have hn := cl_no hV hR hc
    exact rejI hV hR hq 1 0 (by decide) (l_read_t1 hst S (E 30) hV.k7 c0 (E 901) (c_read_n hst S (E 30) (E 34) hV.k7 hV.cl hV.ic c0 hn.1)) (m_read_n1 hst S (E 900) E hV.ly c0 hn.2)
end
