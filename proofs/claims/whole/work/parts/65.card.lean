/-! ===== card ===== -/
section
variable {Ui : Nat → Nat → Int32} {Uj : Nat → Nat → Int64} {Ua : Nat → Nat → Int32} {V V' : Nat → Nat → Int32} {W : Nat → Int32} {d o np rp m q : Nat}
theorem agV.fe (h : ∀ f, f ∉ [825, 826, 828, 829, 830, 831, 836, 837, 838, 839] → V' f = V f) : agV V V' d :=
  ⟨fun f hf => by
    have z : ∀ f ∈ PCF, f ∉ [825, 826, 828, 829, 830, 831, 836, 837, 838, 839] := by decide
    rw [h f (z f hf)], fun i _ => by rw [h 811 (by decide), h 812 (by decide), h 822 (by decide)]; exact ⟨rfl, rfl, rfl⟩, fun p _ => by rw [h 827 (by decide)], h 801 (by decide)⟩
theorem glP.clr {r r1 r2 : Nat → Int32} (g : glP Ui Uj Ua V W o np rp m q) (hr : ∀ i, i < 48 → r i = 0) (h1 : ∀ i, i < 24 → r1 i = 0) (h2 : ∀ i, i < 24 → r2 i = 0) : glP Ui Uj (uqR Ua 2 r) (uqR (uqR V 830 r1) 831 r2) W o np rp m q := by
  obtain ⟨q1, q2, q3, q4, q5, q6⟩ := g
  have e : ∀ f, f ≠ 830 → f ≠ 831 → uqR (uqR V 830 r1) 831 r2 f = V f := fun f a b => (uqR_ne b).trans (uqR_ne a)
  refine ⟨q1, q2, ?_, ?_, ?_, ?_⟩
  · intro i hi; rw [uqR_ne (by omega), e 801 (by decide) (by decide)]; exact q3 i hi
  · intro p hp j hj; rw [uqR_ne (by omega), e 825 (by decide) (by decide), e 826 (by decide) (by decide)]; exact q4 p hp j hj
  · intro p hp j hj; rw [uqR_ne (by omega), e 828 (by decide) (by decide), e 829 (by decide) (by decide)]; exact q5 p hp j hj
  · intro j hj
    rw [uqR_eq, uqR_eq, uqR_ne (by decide), uqR_eq, hr _ (by omega), hr _ (by omega), h1 j hj, h2 j hj]; exact ⟨rfl, rfl⟩
end
section
variable {l : Launch} {G : GG} {b : Nat} {T1 : Sw} {E κ : Nat → Nat} {Ui : Nat → Nat → Int32} {Uj : Nat → Nat → Int64} {Ua : Nat → Nat → Int32} {V V1 : Nat → Nat → Int32} {W W1 : Nat → Int32} {D : Nat → UInt64} {o np rp m q : Nat}
theorem fin_card (hst : l.stackTraces = false) (hV : RV T1 E κ Ui Uj Ua V W D) (hq : q < 512) (hg : glP Ui Uj Ua V1 W1 o np rp m (q + 1)) (hcl : ∀ d, d < 6 → clQ κ Ui Uj Ua V1 D d o rp (q + 1) q) :
    ∃ T2, Ct l G b yX7_captureIncoming cX7_captureIncoming 4 none rmX7_captureIncoming mV [.ref (E 30)] T1 (fun _ S' => S' = T2) ∧ ∃ (Ui2 : Nat → Nat → Int32) (Uj2 : Nat → Nat → Int64) (Ua2 : Nat → Nat → Int32), RV T2 E κ Ui2 Uj2 Ua2 V W D ∧
      ∀ T0, RV T0 E κ Ui2 Uj2 Ua2 V1 W1 D → ∃ Y : Nat → Sw, Y 0 = T0 ∧ (∀ d, d < 6 → cstep l G b (E 900) E (Y d) (Y (d + 1)) d) ∧ lay (Y 6) (E 900) E ∧ Rl (clr (Y 6) (E 830) (E 831) 24) (E 30) (E 900) (E 901) (E 902) (q + 1) := by
  obtain ⟨Ui', Uj', Ua', V', ⟨X, hX0, hXs, hXV⟩, hM, hG, hRc⟩ := cap_loop (l := l) (G := G) (b := b) (D := D) (o := o) (rp := rp) hst hV hq hg.1.2.2.2.1 hg.2.2.1 hg.2.2.2.2.2 hcl 6 (Nat.le_refl _)
  refine ⟨_, c_captureIncoming hst T1 (E 30) (E 34) (E 2) X hX0 hXs hXV.kI, _, _, _, hXV.cAs (us.b (by decide)) (by decide), fun T0 h0 => ?_⟩
  obtain ⟨Y, y0, ys, yV⟩ := hM T0 _ _ _ _ _ h0
  refine ⟨Y, y0, ys, yV.ly, ?_⟩
  unfold clr T2
  refine Rl.mk' (o := o) (np := np) (rp := rp) (mm := m) ((yV.mIs (by decide)).mIs (by decide)) ⟨?_, fun d hd => ?_⟩
  · refine glP.clr (hg.cg ⟨hG.1, hG.2.1, rfl⟩ (Nat.le_refl _)) (fun i hi => pw_lt hi) (fun i hi => pw_lt hi) (fun i hi => pw_lt hi)
  · have h6 : clP κ Ui' Uj' Ua' V' D d o rp (q + 1) := (hRc d hd).1 hd
    exact h6.cg rfl (agU.rf.r (Or.inl (by have := uc_ge d; omega))) (agV.fe (fun f hf => (uqR_ne (fun e => hf (by rw [e]; decide))).trans (uqR_ne (fun e => hf (by rw [e]; decide))))) rfl (Nat.le_refl _) (by omega) hg.1.2.2.2.1
end
section
variable {l : Launch} {G : GG} {b : Nat} {S : Sw} {k z out outD q : Nat}
theorem b4 {i : Nat} (h : i < 4) : 10 + i ∈ BS ∧ 20 + i ∈ BS := by
  have : i = 0 ∨ i = 1 ∨ i = 2 ∨ i = 3 := by omega
  rcases this with rfl | rfl | rfl | rfl <;> exact ⟨by decide, by decide⟩
theorem s_card (hst : l.stackTraces = false) (h : Rl S k z out outD q) (hq : q < 512) : St2 z (Ct l G b yX7_card cX7_card 2 (some .boolean) rmX7_card mI [.ref k] S) (fun T => Ct l G b yX8_card cX8_card 3 (some .boolean) rmX8_card mI [.ref z] T) (FinE k z out outD q) := by
  obtain ⟨E, κ, Ui, Uj, Ua, V, W, D, o, np, rp, m, rfl, rfl, rfl, rfl, hV, hR⟩ := h
  have g1 := hR.1.1
  have gs := hV.2.1.1
  have hnp : fI S 707 (E 30) = nI np := (hV.i (us.b (by decide)) (by decide) 707).trans g1.2.2.2.2.1
  have hrp5 : fI S 705 (E 30) = nI rp := (hV.i (us.b (by decide)) (by decide) 705).trans g1.2.2.1
  have hn1 : (np + 1) % 4 < 4 := by omega
  have hV1 := hV.cI (j0 := 30) (f := 707) (v := nI ((np + 1) % 4)) (us.b (by decide)) (by decide)
  have gi := gs.2.2.2.2.2.2.1 ((np + 1) % 4) hn1
  have bnp := b4 hn1
  by_cases h0 : rp = 0
  · subst h0
    have hT1 := hV1.cAs (j0 := 20 + (np + 1) % 4) (r := pw (fun _ => 0) (aI S (E (20 + (np + 1) % 4))) 48) (us.b bnp.2) (by omega)
    obtain ⟨T2, hC, Ui2, Uj2, Ua2, hV2, hfin⟩ := fin_card (l := l) (G := G) (b := b) (V1 := vP0 V) (W1 := W) (o := o) (np := (np + 1) % 4) (rp := 0) (m := m) hst hT1 hq (play_g0 hR.1 (fun i hi => pw_lt hi)) (fun d hd => by
      have := (hR.2 d hd).cg (κ' := κ) (Ui' := uq2 Ui 30 707 (nI ((np + 1) % 4))) (Uj' := Uj) (Ua' := uqR Ua (20 + (np + 1) % 4) (pw (fun _ => 0) (aI S (E (20 + (np + 1) % 4))) 48)) (V' := vP0 V) (D' := D) (q' := q) rfl ((agU.rf.i (Or.inl (by have := uc_ge d; omega))).r (Or.inl (by have := uc_ge d; omega))) (agV.x (fun f a c => vP0_o ⟨a, c⟩)) rfl (Nat.le_refl _) (by omega) (by omega)
      rcases this with h | ⟨h1, h2, h3, n, nx, hd, rr, h4⟩ | h
      · exact Or.inl h
      · exact Or.inr (Or.inl ⟨h1, h2, h3, n, nx, hd, rr, h4.cg agU.rf agV.rf rfl (by omega) (by omega) (by omega)⟩)
      · exact Or.inr (Or.inr h))
    refine ⟨_, c_card_0 hst S (E 30) hV.k7 np hnp g1.2.2.2.2.2.1 _ T2 hT1.k7 (by rw [hrp5]; decide) (E 36) (E (20 + (np + 1) % 4)) gs.1.2.2.2.2.2.1 gs.2.2.2.2.2.1 gi.2.2.1 gi.2.2.2 rfl hC, ?_⟩
    rintro r T ⟨rfl, rfl⟩
    obtain ⟨Y, y0, ys, yl, yR⟩ := hfin _ (play_M0 hV2)
    refine ⟨_, m_card_0 hst _ (E 900) E hV2.ly (by rw [hV2.w (by decide), g1.2.2.2.2.2.2]; decide) Y y0.symm ys yl, hV2.z8, ?_⟩
    rintro w T' ⟨rfl, rfl⟩
    exact ⟨rfl, yR⟩
  · have ho := g1.2.1
    have bo := b4 ho
    have go := gs.2.2.2.2.2.2.1 o ho
    have er : (fun i => if i < 48 then aI (uI S 707 (E 30) (nI ((np + 1) % 4))) (E (10 + o)) i else aI (uI S 707 (E 30) (nI ((np + 1) % 4))) (E (20 + (np + 1) % 4)) i) = fun i => if i < 48 then Ua (10 + o) i else Ua (20 + (np + 1) % 4) i := by
      funext i
      rw [hV1.a (us.b bo.1) (by omega), hV1.a (us.b bnp.2) (by omega)]
    have hV2 := hV1.cAs (j0 := 20 + (np + 1) % 4) (r := fun i => if i < 48 then Ua (10 + o) i else Ua (20 + (np + 1) % 4) i) (us.b bnp.2) (by omega)
    obtain ⟨X, hX0, hXs, Uj', hX, hj, hd⟩ := play_C (l := l) (G := G) (b := b) (o := o) hst hV2 ho (by simpa [uq2] using g1.1) 6 (Nat.le_refl _)
    have e5 : fI (X 6) 705 (E 30) - 1 = nI (rp - 1) := by
      rw [hX.i (us.b (by decide)) (by decide), show uq2 Ui 30 707 (nI ((np + 1) % 4)) 30 705 = nI rp by simpa [uq2] using g1.2.2.1]
      obtain ⟨r, rfl⟩ : ∃ r, rp = r + 1 := ⟨rp - 1, by omega⟩
      exact nI_pred r
    have km : ∀ {T : Sw} {Uj3 : Nat → Nat → Int64} {Ua3 : Nat → Nat → Int32}, RV T E κ (uq2 Ui 30 707 (nI ((np + 1) % 4))) Uj3 Ua3 V W D → kM T (E 30) (E 34) o := fun hT => ⟨hT.k7, hT.cl, hT.ic, (hT.i (us.b (by decide)) (by decide) 704).trans (by simpa [uq2] using g1.1)⟩
    have hP := c_playOldest (l := l) (G := G) (b := b) hst (uI S 707 (E 30) (nI ((np + 1) % 4))) (E 30) (E 34) o (km hV1) ho (E 35) (E (10 + o)) gs.1.2.2.2.2.1 gs.2.2.2.2.1 go.1 go.2.1 (E 36) ((np + 1) % 4) (E (20 + (np + 1) % 4)) gs.1.2.2.2.2.2.1 gs.2.2.2.2.2.1 ((hV1.i (us.b (by decide)) (by decide) 707).trans uq2_eq) hn1 gi.2.2.1 gi.2.2.2 X (by rw [hX0]; unfold cpy; rw [er]) hXs (km hX)
    rw [e5] at hP
    have hT1 := (hX.cI (j0 := 30) (f := 704) (v := nI ((o + 1) % 4)) (us.b (by decide)) (by decide)).cI (j0 := 30) (f := 705) (v := nI (rp - 1)) (us.b (by decide)) (by decide)
    have g33 : Uj' 33 303 = Uj 33 303 := hj 33 303 (Or.inl (by decide))
    obtain ⟨T2, hC, Ui2, Uj2, Ua2, hV3, hfin⟩ := fin_card (l := l) (G := G) (b := b) (V1 := vP1 V) (W1 := uq1 W 824 (nI (rp - 1))) (o := (o + 1) % 4) (np := (np + 1) % 4) (rp := rp - 1) (m := m) hst hT1 hq (play_g hR.1 (by omega) g33) (fun d hd6 => by
      have hu := uc_ge d
      rcases hR.2 d hd6 with ⟨h1, h2, h3⟩ | ⟨h1, h2, h3, n, nx, hh, rr, h4⟩ | ⟨h1, h2, h3, h4, hh, rk, rr, rd, wh, h5⟩
      · refine Or.inl ⟨h1, by rw [vP1_o (by decide)]; exact h2, fun p hp => ?_⟩
        rw [vP1_27, pw_lt (by omega), show 6 * p + d + 6 = 6 * (p + 1) + d by omega]; exact h3 (p + 1) (by omega)
      · obtain ⟨hd', h4'⟩ := h4.play (Ui' := uq2 (uq2 (uq2 Ui 30 707 (nI ((np + 1) % 4))) 30 704 (nI ((o + 1) % 4))) 30 705 (nI (rp - 1))) (Uj' := Uj') (Ua' := uqR Ua (20 + (np + 1) % 4) (fun i => if i < 48 then Ua (10 + o) i else Ua (20 + (np + 1) % 4) i)) hd6 (by omega) g1.2.2.2.1 ho (fun f => by rw [uq2_ne (by omega), uq2_ne (by omega), uq2_ne (by omega)]) (fun a f hf => hj a f (Or.inl hf)) (by rw [(hd d hd6 h1).1 hd6, uqR_ne (by omega)]) (fun i hi x => by rw [uqR_ne (by omega)])
        exact Or.inr (Or.inl ⟨h1, by rw [vP1_o (by decide)]; exact h2, by rw [vP1_o (by decide)]; exact h3, n, nx, hd', rr, h4'⟩)
      · refine Or.inr (Or.inr ⟨h1, by rw [vP1_o (by decide)]; exact h2, by rw [vP1_o (by decide)]; exact h3, fun p hp => ?_, hh, rk, rr, rd, wh, (h5.fe (V' := vP1 V) ?_).cg ?_ agV.rf (Nat.le_refl _) (by omega)⟩)
        · rw [vP1_27, pw_lt (by omega), show 6 * p + d + 6 = 6 * (p + 1) + d by omega]; exact h4 (p + 1) (by omega)
        · intro f hf
          have z : ∀ f ∈ [801, 804, 805, 806, 808, 809, 810, 811, 812, 813, 820, 821, 822, 823], f ≠ 828 ∧ f ≠ 829 ∧ f ≠ 818 ∧ f ≠ 825 ∧ f ≠ 826 ∧ f ≠ 827 := by decide
          exact vP1_o (z f hf)
        · intro j j1 j2
          refine ⟨fun f => by rw [uq2_ne (by omega), uq2_ne (by omega), uq2_ne (by omega)], fun f => hj j f (Or.inr (fun d' hd' hk e => ?_)), fun i => by rw [uqR_ne (by omega)]⟩
          have : d' = d := by unfold uc at *; omega
          rw [this, h1] at hk
          exact absurd hk (by decide))
    refine ⟨_, c_card_1 hst S (E 30) hV.k7 np hnp g1.2.2.2.2.2.1 _ T2 hT1.k7 (by rw [hrp5]; exact nI_nle (by omega) (by omega)) hP hC, ?_⟩
    rintro r T ⟨rfl, rfl⟩
    have hM1 := play_M1 hV3
    rw [show W 824 - 1 = nI (rp - 1) by
      rw [g1.2.2.2.2.2.2]
      obtain ⟨r, rfl⟩ : ∃ r, rp = r + 1 := ⟨rp - 1, by omega⟩
      exact nI_pred r] at hM1
    obtain ⟨Y, y0, ys, yl, yR⟩ := hfin _ hM1
    refine ⟨_, m_card_1 hst _ (E 900) E hV3.ly (by rw [hV3.w (by decide), g1.2.2.2.2.2.2]; exact nI_nle (by omega) (by omega)) Y y0.symm ys yl, hV3.z8, ?_⟩
    rintro w T' ⟨rfl, rfl⟩
    exact ⟨rfl, yR⟩
end
