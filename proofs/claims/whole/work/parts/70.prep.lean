/-! ===== prepare ===== -/
section
variable {l : Launch} {G : GG} {b : Nat} {S : Sw} {k z out outD q : Nat}
theorem s_prepare (hst : l.stackTraces = false) (h : Rl S k z out outD q) (hq : q < 512) : St2 z (Ct l G b yX7_prepare cX7_prepare 5 (some .boolean) rmX7_prepare mI [.ref k] S) (fun T => Ct l G b yX8_prepare cX8_prepare 3 (some .boolean) rmX8_prepare mI [.ref z] T) (FinE k z out outD q) := by
  obtain ⟨E, κ, Ui, Uj, Ua, V, W, D, o, np, rp, m, rfl, rfl, rfl, rfl, hV, hR⟩ := h
  obtain ⟨g1, g2, g3, g4, g5, g6⟩ := hR.1
  have hrp5 : fI S 705 (E 30) = nI rp := (hV.i (us.b (by decide)) (by decide) 705).trans g1.2.2.1
  have hrp4 := g1.2.2.2.1
  by_cases h4 : rp = 4
  · subst h4
    refine ⟨_, c_prepare_f hst S (E 30) hV.k7 (by rw [hrp5]; decide), ?_⟩
    rintro r T ⟨rfl, rfl⟩
    refine ⟨_, m_prepare_f hst _ (E 900) E hV.ly ((hV.w (by decide)).trans g1.2.2.2.2.2.2), hV.z8, ?_⟩
    rintro w T' ⟨rfl, rfl⟩
    exact ⟨rfl, Rl.mk' hV.m8 (hR.idle (by omega))⟩
  · have hrp : rp < 4 := by omega
    have ho := g1.2.1
    have hsl : (o + rp) % 4 < 4 := by omega
    have bsl := b4 hsl
    have b4' : us κ 4 := us.b (by decide)
    have kn := hV.kN
    have hV1 := hV.cAs (r := pw (fun _ => 0) (aI S (E 4)) 48) b4' (by decide)
    obtain ⟨V1, hV1d⟩ : ∃ V1, V1 = uqR (uqR V 836 (pw (fun _ => 0) (V 836) 24)) 837 (pw (fun _ => 0) (V 837) 24) := ⟨_, rfl⟩
    have v1 : ∀ x, x ≠ 836 → x ≠ 837 → V1 x = V x := fun x h1 h2 => by rw [hV1d, uqR_ne h2, uqR_ne h1]
    obtain ⟨Ui', Uj', Ua', V', D', ⟨X, hX0, hXs, hXV⟩, hM, hH, hS, hRc⟩ := prep_loop (l := l) (G := G) (b := b) (V := V1) (D := D) (o := o) (rp := rp) hst hV1 hq hrp (fun i hi => by rw [uqR_ne (by decide), v1 801 (by decide) (by decide)]; exact g3 i hi) (fun j hj => by
      rw [uqR_eq, hV1d, uqR_ne (by decide), uqR_eq, uqR_eq, pw_lt (i := 2 * j) (by omega), pw_lt (i := 2 * j + 1) (by omega), pw_lt (i := j) hj, pw_lt (i := j) hj]
      exact ⟨⟨rfl, rfl⟩, by decide, by decide⟩) (fun d hd => (hR.2 d hd).cg rfl (agU.rf.r (Or.inl (by have := uc_ge d; omega))) (agV.fe (fun f hf => v1 f (fun e => hf (by rw [e]; decide)) (fun e => hf (by rw [e]; decide)))) rfl (Nat.le_refl _) (by omega) (by omega)) 6 (Nat.le_refl _)
    have h30 := hH.1 30 (by decide)
    have h33 := hH.1 33 (by decide)
    have hm := g2.2.2.2.2.2.2
    have hl0 : limR Ui' Uj' Ua' V' W (10 + (o + rp) % 4) rp m 0 := by
      refine ⟨⟨(h33.1 _).trans g2.1, (h33.1 _).trans g2.2.2.1, (h33.1 _).trans g2.2.2.2.1, (h33.2.1 _).trans g2.2.2.2.2.1, g2.2.2.2.2.2.1⟩, fun j hj => absurd hj (by omega), fun j _ hj => ?_⟩
      have := hS j hj
      exact ⟨this.1, by omega, by omega⟩
    obtain ⟨Ui2, Uj2, Ua2, V2, W2, hC2, hM2, ⟨⟨r1, r2, r3, r4, r5⟩, r6, -⟩, a1, a2, a3, a4, a5, a6⟩ := lim_loop (r := 10 + (o + rp) % 4) (rp := rp) (m := m) (W := W) (V := V') hXV (us.b bsl.1) (by omega) (by omega) (by omega) (by omega) hl0 24 (Nat.le_refl _)
    have gX := hXV.2.1.1
    have gi := gX.2.2.2.2.2.2.1 ((o + rp) % 4) hsl
    have hA := c_prepare_y (l := l) (G := G) (b := b) hst S (E 30) (E 34) (E 3) (E 4) kn o rp ((hV.i (us.b (by decide)) (by decide) 704).trans g1.1) hrp5 ho hrp X hX0.symm hXs hXV.kN (E 33) hXV.lm hXV.l3 (E 35) (E (10 + (o + rp) % 4)) gX.1.2.2.2.2.1 gX.2.2.2.2.1 gi.1 gi.2.1
    have e5 : fI (lmK (X 6) (E 33) (E 4) (E (10 + (o + rp) % 4)) 24) 705 (E 30) + 1 = nI (rp + 1) := by
      rw [hC2.i (us.b (by decide)) (by decide), a1 _ _ (by decide), h30.1, g1.2.2.1, nI_1]
    rw [e5] at hA
    refine ⟨_, hA, ?_⟩
    rintro r T ⟨rfl, rfl⟩
    have hVc := hC2.cI (j0 := 30) (f := 705) (v := nI (rp + 1)) (us.b (by decide)) (by decide)
    have hw4 : W 824 = nI rp := g1.2.2.2.2.2.2
    have hT0 := ((hVc.m8 (v := 0)).mIs (f := 836) (r := pw (fun _ => 0) (V 836) 24) (by decide)).mIs (f := 837) (r := pw (fun _ => 0) (V 837) 24) (by decide)
    rw [← hV1d] at hT0
    obtain ⟨Y, y0, ys, yV⟩ := hM _ _ _ _ W hw4 hT0
    have yM := hM2 _ _ _ _ _ yV
    have hB := m_prepare_y (l := l) (G := G) (b := b) hst (uI (lmK (X 6) (E 33) (E 4) (E (10 + (o + rp) % 4)) 24) 705 (E 30) (nI (rp + 1))) (E 900) E hVc.ly rp hrp (by rw [hVc.w (by decide), hw4]; exact fun e => h4 ((nI_eq (by omega) (by decide)).mp (show nI rp = nI 4 from e))) Y (by
      rw [y0]
      unfold clr T2
      rw [show aI (uI (uI (lmK (X 6) (E 33) (E 4) (E (10 + (o + rp) % 4)) 24) 705 (E 30) (nI (rp + 1))) 800 (E 900) 0) (E 836) = V 836 from funext (hVc.m8.m (by decide)), show aI (uI (uI (lmK (X 6) (E 33) (E 4) (E (10 + (o + rp) % 4)) 24) 705 (E 30) (nI (rp + 1))) 800 (E 900) 0) (E 837) = V 837 from funext (hVc.m8.m (by decide))]) ys yV.ly ((yV.w (by decide)).trans hw4)
    have e6 : fI (mFrs (Y 6) (E 900) E rp 24) 824 (E 900) + 1 = nI (rp + 1) := by
      rw [yM.w (by decide), a6 824 (by decide) (by decide) (by decide), hw4, nI_1]
    rw [e6] at hB
    refine ⟨_, hB, hVc.z8, ?_⟩
    rintro w T' ⟨rfl, rfl⟩
    refine ⟨rfl, Rl.mk' (o := o) (np := np) (rp := rp + 1) (mm := m + 24) yM.mU ⟨⟨⟨?_, ho, uq2_eq, by omega, ?_, g1.2.2.2.2.2.1, if_pos rfl⟩, ⟨?_, ?_, ?_, ?_, r4, ?_, by omega⟩, ?_, ?_, ?_, ?_⟩, fun d hd => ?_⟩⟩
    · rw [uq2_ne (by omega), a1 _ _ (by decide), h30.1]; exact g1.1
    · rw [uq2_ne (by omega), a1 _ _ (by decide), h30.1]; exact g1.2.2.2.2.1
    · rw [uq2_ne (by omega), r1]; exact (if_neg (by decide)).symm
    · rw [show uq1 W2 824 (nI (rp + 1)) 832 = W2 832 from if_neg (by decide), a6 832 (by decide) (by decide) (by decide)]; exact g2.2.1
    · rw [uq2_ne (by omega), r2]; exact (if_neg (by decide)).symm
    · rw [uq2_ne (by omega), r3]; exact (if_neg (by decide)).symm
    · exact (if_neg (by decide)).trans r5
    · intro i hi
      rw [a3 1 (by omega), (hH.1 1 (by decide)).2.2 (by decide) (by decide), uqR_ne (by decide), a4 801 (by decide), hH.2 801 (by decide), v1 801 (by decide) (by decide)]; exact g3 i hi
    · intro p hp j hj
      by_cases e : p = rp
      · rw [e]; exact r6 j hj
      · rw [a3 _ (by omega), (hH.1 _ (by omega)).2.2 (by omega) (by omega), uqR_ne (by omega), (a5 _ (by omega)).1, (a5 _ (by omega)).2, hH.2 825 (by decide), hH.2 826 (by decide), v1 825 (by decide) (by decide), v1 826 (by decide) (by decide)]; exact g4 p (by omega) j hj
    · intro p hp j hj
      rw [a3 _ (by omega), (hH.1 _ (by omega)).2.2 (by omega) (by omega), uqR_ne (by omega), a4 828 (by decide), a4 829 (by decide), hH.2 828 (by decide), hH.2 829 (by decide), v1 828 (by decide) (by decide), v1 829 (by decide) (by decide)]; exact g5 p hp j hj
    · intro j hj
      rw [a3 _ (by omega), (hH.1 _ (by omega)).2.2 (by omega) (by omega), uqR_ne (by omega), a4 830 (by decide), a4 831 (by decide), hH.2 830 (by decide), hH.2 831 (by decide), v1 830 (by decide) (by decide), v1 831 (by decide) (by decide)]; exact g6 j hj
    · refine ((hRc d hd).1 hd).cg rfl (fun j j1 j2 => ?_) (agV.fe (fun f hf => a4 f (fun e => hf ?_))) rfl (Nat.le_refl _) (by omega) (by omega)
      · have := uc_ge d
        exact ⟨fun f => by rw [uq2_ne (by omega)]; exact a1 j f (by omega), fun f => a2 j f (by omega), fun i => by rw [a3 j (by omega)]⟩
      · have z : ∀ f ∈ [825, 826, 836, 837], f ∈ [825, 826, 828, 829, 830, 831, 836, 837, 838, 839] := by decide
        exact z f e
end
