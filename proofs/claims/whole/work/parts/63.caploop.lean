/-! ===== capture: the class's call, the reference's call, all clients ===== -/
theorem ch_ext {st : Sw → Sw → Nat → Prop} {c : Nat} {X : Nat → Sw} {S' : Sw} (h : ∀ d, d < c → st (X d) (X (d + 1)) d) (hs : st (X c) S' c) : ∃ X' : Nat → Sw, X' 0 = X 0 ∧ (∀ d, d < c + 1 → st (X' d) (X' (d + 1)) d) ∧ X' (c + 1) = S' := by
  refine ⟨fun i => if i ≤ c then X i else S', if_pos (by omega), fun d hd => ?_, if_neg (by omega)⟩
  show st (if d ≤ c then X d else S') (if d + 1 ≤ c then X (d + 1) else S') d
  by_cases e : d = c
  · rw [if_pos (by omega), if_neg (by omega), e]; exact hs
  · rw [if_pos (by omega), if_pos (by omega)]; exact h d (by omega)
def clQ (κ : Nat → Nat) (Ui : Nat → Nat → Int32) (Uj : Nat → Nat → Int64) (Ua : Nat → Nat → Int32) (V : Nat → Nat → Int32) (D : Nat → UInt64) (c o rp qp ql : Nat) : Prop := (κ c = 0 ∧ V 802 c = 0 ∧ zrP V c rp) ∨ (κ c = 1 ∧ ¬ V 802 c = 0 ∧ ¬ V 803 c = 0 ∧ ∃ n nx hd rr, plP Ui Uj Ua V D c o rp qp n nx hd rr) ∨ (κ c = 2 ∧ ¬ V 802 c = 0 ∧ V 803 c = 0 ∧ zrP V c rp ∧ ∃ h rk rr rd wh, lsP Ui Uj Ua V c ql h rk rr rd wh)
section
variable {κ : Nat → Nat} {Ui Ui' : Nat → Nat → Int32} {Uj Uj' : Nat → Nat → Int64} {Ua Ua' : Nat → Nat → Int32} {V V' : Nat → Nat → Int32} {D : Nat → UInt64} {W : Nat → Int32} {c d o rp qp ql : Nat}
theorem clQ.cg (hu : agU Ui Uj Ua Ui' Uj' Ua' c) (hv : agV V V' c) (hq : qp ≤ 512) (hq2 : ql ≤ 512) (hrp : rp ≤ 4) (h : clQ κ Ui Uj Ua V D c o rp qp ql) : clQ κ Ui' Uj' Ua' V' D c o rp qp ql := by
  have v2 : V' 802 c = V 802 c := hv.1 802 (by decide)
  have v3 : V' 803 c = V 803 c := hv.1 803 (by decide)
  have hz : zrP V c rp → zrP V' c rp := fun z p hp => (hv.2.2.1 p (by omega)).trans (z p hp)
  rcases h with ⟨h1, h2, h3⟩ | ⟨h1, h2, h3, n, nx, hd, rr, h4⟩ | ⟨h1, h2, h3, h4, h, rk, rr, rd, wh, h5⟩
  · exact Or.inl ⟨h1, v2.trans h2, hz h3⟩
  · exact Or.inr (Or.inl ⟨h1, by rw [v2]; exact h2, by rw [v3]; exact h3, n, nx, hd, rr, h4.cg hu hv rfl (Nat.le_refl _) hq hrp⟩)
  · exact Or.inr (Or.inr ⟨h1, by rw [v2]; exact h2, v3.trans h3, hz h4, h, rk, rr, rd, wh, h5.cg hu hv (Nat.le_refl _) hq2⟩)
theorem agU.ua {a1 a2 n k : Nat} {f g : Nat → Int32} (h : agU Ui Uj Ua Ui' Uj' Ua' d) (h1 : a1 < uc d ∨ uc d + 20 ≤ a1) (h2 : a2 < uc d ∨ uc d + 20 ≤ a2) : agU Ui Uj Ua Ui' Uj' (uaK Ua' a1 a2 n f g k) d := fun j j1 j2 => ⟨(h j j1 j2).1, (h j j1 j2).2.1, fun i => by rw [uaK_o (by omega) (by omega)]; exact (h j j1 j2).2.2 i⟩
theorem agU.uj {w n k : Nat} (h : agU Ui Uj Ua Ui' Uj' Ua' d) (h1 : w < uc d ∨ uc d + 20 ≤ w) : agU Ui Uj Ua Ui' (ujK Uj' w n k) Ua' d := fun j j1 j2 => ⟨(h j j1 j2).1, fun f => (ujK_o (by omega) k).trans ((h j j1 j2).2.1 f), (h j j1 j2).2.2⟩
theorem agG.ua {a1 a2 n k : Nat} {f g : Nat → Int32} {W' : Nat → Int32} (h : agG Ui Uj Ua V W Ui' Uj' Ua' V' W') (h1 : 100 ≤ a1) (h2 : 100 ≤ a2) : agG Ui Uj Ua V W Ui' Uj' (uaK Ua' a1 a2 n f g k) V' W' := ⟨fun j hj => ⟨(h.1 j hj).1, (h.1 j hj).2.1, fun i => by rw [uaK_o (by omega) (by omega)]; exact (h.1 j hj).2.2 i⟩, h.2⟩
theorem agG.uj {w n k : Nat} {W' : Nat → Int32} (h : agG Ui Uj Ua V W Ui' Uj' Ua' V' W') (h1 : 100 ≤ w) : agG Ui Uj Ua V W Ui' (ujK Uj' w n k) Ua' V' W' := ⟨fun j hj => ⟨(h.1 j hj).1, fun f => (ujK_o (by omega) k).trans ((h.1 j hj).2.1 f), (h.1 j hj).2.2⟩, h.2⟩
theorem agG.cb {h n2 : Nat} {W' : Nat → Int32} (g : agG Ui Uj Ua V W Ui' Uj' Ua' V' W') : agG Ui Uj Ua V W Ui' Uj' Ua' (vCb V' c h n2) W' := (((g.v (by decide)).vr (by decide)).vr (by decide)).v (by decide)
theorem agG.cl {h n2 : Nat} {W' : Nat → Int32} (g : agG Ui Uj Ua V W Ui' Uj' Ua' V' W') : agG Ui Uj Ua V W Ui' Uj' Ua' (vCl V' c h n2) W' := g.cb.v (by decide)
theorem agG.cy {h rk fr rd : Nat} {W' : Nat → Int32} (g : agG Ui Uj Ua V W Ui' Uj' Ua' V' W') : agG Ui Uj Ua V W Ui' Uj' Ua' (vCy V' c h rk fr rd) W' := (g.cb.v (by decide)).vr (by decide)
end
section
variable {l : Launch} {G : GG} {b : Nat} {S : Sw} {E κ : Nat → Nat} {Ui : Nat → Nat → Int32} {Uj : Nat → Nat → Int64} {Ua : Nat → Nat → Int32} {V V0 : Nat → Nat → Int32} {W : Nat → Int32} {D : Nat → UInt64} {c q h rk rr rd wh fr : Nat}
theorem RV.st4 (hV : RV S E κ Ui Uj Ua V0 W D) (hc : c < 6) (hk : κ c = 2) : lst S E c := by
  rcases hV.2.1.2 c hc with ⟨k1, -⟩ | ⟨k1, -⟩ | ⟨-, p⟩
  · rw [hk] at k1; exact absurd k1 (by decide)
  · rw [hk] at k1; exact absurd k1 (by decide)
  · exact p
theorem RV.st5 (hV : RV S E κ Ui Uj Ua V0 W D) (hc : c < 6) (hk : κ c = 1) : pst S E c := by
  rcases hV.2.1.2 c hc with ⟨k1, -⟩ | ⟨-, p⟩ | ⟨k1, -⟩
  · rw [hk] at k1; exact absurd k1 (by decide)
  · exact p
  · rw [hk] at k1; exact absurd k1 (by decide)
theorem RV.st0 (hV : RV S E κ Ui Uj Ua V0 W D) (hc : c < 6) (hk : κ c = 0) : aR S (E 34) c = none := by
  rcases hV.2.1.2 c hc with ⟨-, p⟩ | ⟨k1, -⟩ | ⟨k1, -⟩
  · exact p
  · rw [hk] at k1; exact absurd k1 (by decide)
  · rw [hk] at k1; exact absurd k1 (by decide)
theorem gC_U (hV : RV S E κ Ui Uj Ua V0 W D) (h3 : us κ (uc c + 3) ∧ uc c + 3 < 800) (h4 : us κ (uc c + 4) ∧ uc c + 4 < 800) (n : Nat) (rt : Int32) : gC S (E (uc c + 3)) (E (uc c + 4)) n rt = gU Ua c n rt := by
  funext x
  unfold gC gU
  by_cases hr : rt = 0
  · rw [if_pos hr, if_pos hr, hV.a h3.1 h3.2]
  · rw [if_neg hr, if_neg hr, hV.a h4.1 h4.2]
theorem cap_C (hst : l.stackTraces = false) (hV : RV S E κ Ui Uj Ua V0 W D) (hc : c < 6) (hk : κ c = 2) (g : lsP Ui Uj Ua V c q h rk rr rd wh) (hq : q < 512) (hfr : fr ≤ 24) (hall : ∀ i, i < fr → lnd rr (rk + i) < h + 24) (hend : ¬ lnd rr (rk + fr) < h + 24) :
    (200 < rd + fr → ∃ S', Ct l G b yX4_capture cX4_capture 3 none rmX4_capture mV [.ref (E (uc c)), .ref (E 2)] S (fun _ T => T = S') ∧ RV S' E κ (uq2 Ui (uc c) 3 (Ui (uc c) 3 + 1)) (uq2 (ujK Uj (uc c + 2) h 24) (uc c) 408 (lN (rk + fr))) (uaK Ua (uc c + 3) (uc c + 4) h (fun j => Ua 2 (2 * j)) (fun j => Ua 2 (2 * j + 1)) 24) V0 W D) ∧
    (rd + fr ≤ 200 → ∃ (S' : Sw) (f1 f2 : Nat → Int32), (∀ j, j < fr → f1 j = flt2 (uaK Ua (uc c + 3) (uc c + 4) h (fun j => Ua 2 (2 * j)) (fun j => Ua 2 (2 * j + 1)) 24 1) (gU (uaK Ua (uc c + 3) (uc c + 4) h (fun j => Ua 2 (2 * j)) (fun j => Ua 2 (2 * j + 1)) 24) c (h + 24) 0) (rk + j) 48000 rr) ∧
      (∀ j, j < fr → f2 j = flt2 (uaK Ua (uc c + 3) (uc c + 4) h (fun j => Ua 2 (2 * j)) (fun j => Ua 2 (2 * j + 1)) 24 1) (gU (uaK Ua (uc c + 3) (uc c + 4) h (fun j => Ua 2 (2 * j)) (fun j => Ua 2 (2 * j + 1)) 24) c (h + 24) 1) (rk + j) 48000 rr) ∧
      Ct l G b yX4_capture cX4_capture 3 none rmX4_capture mV [.ref (E (uc c)), .ref (E 2)] S (fun _ T => T = S') ∧ RV S' E κ Ui (uq2 (ujK (ujK Uj (uc c + 2) h 24) (uc c + 5) (wh + rd) fr) (uc c) 408 (lN (rk + fr))) (uaK (uaK Ua (uc c + 3) (uc c + 4) h (fun j => Ua 2 (2 * j)) (fun j => Ua 2 (2 * j + 1)) 24) (uc c + 6) (uc c + 7) (wh + rd) f1 f2 fr) V0 W D) := by
  obtain ⟨s1, s2, s3, s4, s5, s6, s7, s8⟩ := hV.st4 hc hk
  have hcg := uc_ge c
  have u0 := ls_0 hc hk
  have u1 := ls_u (i := 1) hc hk (by decide)
  have u2 := ls_u (i := 2) hc hk (by decide)
  have u3 := ls_u (i := 3) hc hk (by decide)
  have u4 := ls_u (i := 4) hc hk (by decide)
  have u5 := ls_u (i := 5) hc hk (by decide)
  have u6 := ls_u (i := 6) hc hk (by decide)
  have u7 := ls_u (i := 7) hc hk (by decide)
  have b1 : us κ 1 := us.b (by decide)
  have b2 : us κ 2 := us.b (by decide)
  obtain ⟨g1, g2, g3, g4, g5, -⟩ := g
  have hr0 : 0 < rr := by have := g1.1; unfold rtN at this; omega
  have vc : vC S (E (uc c + 1)) (E 32) 48000 rr := ⟨s6.1, s6.2, (hV.jj u1.1 u1.2 101).trans g1.2.2.1, (hV.jj u1.1 u1.2 102).trans g1.2.2.2⟩
  have f1 : fC S (E (uc c + 2)) (E (uc c + 3)) (E (uc c + 4)) h := ⟨s7.1, s7.2.1, s7.2.2.1, s7.2.2.2.1, s7.2.2.2.2, (hV.jj u2.1 u2.2 202).trans g3.1⟩
  have f2 : fC S (E (uc c + 5)) (E (uc c + 6)) (E (uc c + 7)) (wh + rd) := ⟨s8.1, s8.2.1, s8.2.2.1, s8.2.2.2.1, s8.2.2.2.2, (hV.jj u5.1 u5.2 202).trans g5.2.2.1⟩
  have i2 : isI S (E 2) 48 := hV.2.1.1.2.2.2.2.2.2.2.1
  have ha : ∀ i, i < fr → (if 48000 = rr then (rk + i) else (rk + i) * 48000 / rr + 8) < h + 24 := fun i hi => by rw [lnE2 _ _ hr0]; exact hall i hi
  have he : fr = 24 ∨ ¬ (if 48000 = rr then (rk + fr) else (rk + fr) * 48000 / rr + 8) < h + 24 := Or.inr (by rw [lnE2 _ _ hr0]; exact hend)
  have ne : ∀ {i j}, us κ i → us κ j → i ≠ j → E i ≠ E j := fun hi hj hne => hV.1.ne hi hj hne
  have er1 : (fun j => aI S (E 2) (2 * j)) = fun j => Ua 2 (2 * j) := funext (fun j => hV.a b2 (by decide) _)
  have er2 : (fun j => aI S (E 2) (2 * j + 1)) = fun j => Ua 2 (2 * j + 1) := funext (fun j => hV.a b2 (by decide) _)
  constructor
  · intro hov
    refine ⟨_, c_capture_l hst S (E (uc c)) s2 _ _ rr s3 vc g1.1 _ _ _ h s4 f1 (by omega) _ _ _ (wh + rd) s5 f2 (by omega) rk ((hV.jj u0.1 u0.2 408).trans g4.1) (by omega) wh ((hV.jj u0.1 u0.2 409).trans g5.1) (by omega) (E 1) hV.tc (ne u2.1 u5.1 (by omega)) (ne u3.1 u6.1 (by omega)) (ne u3.1 u7.1 (by omega)) (ne u4.1 u6.1 (by omega)) (ne u4.1 u7.1 (by omega)) (ne b1 u6.1 (by omega)) (ne b1 u7.1 (by omega)) (E 2) i2 (ne b2 u3.1 (by omega)) (ne b2 u4.1 (by omega)) (by omega) (by omega) fr hfr ha he (by omega), ?_⟩
    unfold lcL lcA
    rw [er1, er2, hV.i u0.1 u0.2 3]
    exact ((hV.fK u2 u3 u4 h _ _ 24).cI u0.1 u0.2).cJ u0.1 u0.2
  · intro hov
    have hA := hV.fK u2 u3 u4 h (fun j => Ua 2 (2 * j)) (fun j => Ua 2 (2 * j + 1)) 24
    have hM := c_capture_y (l := l) (G := G) (b := b) hst S (E (uc c)) s2 _ _ rr s3 vc g1.1 _ _ _ h s4 f1 (by omega) _ _ _ (wh + rd) s5 f2 (by omega) rk ((hV.jj u0.1 u0.2 408).trans g4.1) (by omega) wh ((hV.jj u0.1 u0.2 409).trans g5.1) (by omega) (E 1) hV.tc (ne u2.1 u5.1 (by omega)) (ne u3.1 u6.1 (by omega)) (ne u3.1 u7.1 (by omega)) (ne u4.1 u6.1 (by omega)) (ne u4.1 u7.1 (by omega)) (ne b1 u6.1 (by omega)) (ne b1 u7.1 (by omega)) (E 2) i2 (ne b2 u3.1 (by omega)) (ne b2 u4.1 (by omega)) (by omega) (by omega) fr hfr ha he (by omega)
    unfold lcY lcA at hM
    rw [er1, er2] at hM
    have e1 : aI (faK S (E (uc c + 2)) (E (uc c + 3)) (E (uc c + 4)) h (fun j => Ua 2 (2 * j)) (fun j => Ua 2 (2 * j + 1)) 24) (E 1) = uaK Ua (uc c + 3) (uc c + 4) h (fun j => Ua 2 (2 * j)) (fun j => Ua 2 (2 * j + 1)) 24 1 := funext (fun i => hA.a b1 (by decide) i)
    refine ⟨_, _, _, fun j hj => ?_, fun j hj => ?_, hM, (hA.fK u5 u6 u7 (wh + rd) _ _ fr).cJ u0.1 u0.2⟩
    · unfold ulv; rw [e1, gC_U hA u3 u4]
    · unfold ulv; rw [e1, gC_U hA u3 u4]
theorem cap_M (hst : l.stackTraces = false) (hV : RV S E κ Ui Uj Ua V W D) (hc : c < 6) {Uix : Nat → Nat → Int32} {Ujx : Nat → Nat → Int64} {Uax : Nat → Nat → Int32} (g : lsP Uix Ujx Uax V c q h rk rr rd wh) (hq : q < 512) (hfr : fr ≤ 24) (hall : ∀ i, i < fr → lnd rr (rk + i) < h + 24) (hend : ¬ lnd rr (rk + fr) < h + 24) :
    (200 < rd + fr → ∃ S', Ct l G b yX8_capture cX8_capture 5 none rmX8_capture mV [.ref (E 900), .int (nI c)] S (fun _ T => T = S') ∧ RV S' E κ Ui Uj Ua (vCl V c h (rk + fr)) W D) ∧
    (rd + fr ≤ 200 → ∃ S', Ct l G b yX8_capture cX8_capture 5 none rmX8_capture mV [.ref (E 900), .int (nI c)] S (fun _ T => T = S') ∧ RV S' E κ Ui Uj Ua (vCy V c h rk fr rd) W D) := by
  obtain ⟨g1, g2, g3, g4, g5, -⟩ := g
  have ha : ∀ n, rk ≤ n → n < rk + fr → n * 48000 / rr + (if 48000 = rr then 0 else 8) < h + 24 := fun n h1 h2 => by
    have := hall (n - rk) (by omega)
    rw [show rk + (n - rk) = n by omega] at this
    exact this
  have r11 : aI S (E 811) = V 811 := funext (hV.m (by decide))
  have r12 : aI S (E 812) = V 812 := funext (hV.m (by decide))
  have r22 : aI S (E 822) = V 822 := funext (hV.m (by decide))
  have r30 : aI S (E 830) = V 830 := funext (hV.m (by decide))
  have r31 : aI S (E 831) = V 831 := funext (hV.m (by decide))
  have r9 : aI S (E 809) c = V 809 c := hV.m (by decide) c
  constructor
  · intro hov
    refine ⟨_, m_capture_l hst S (E 900) E hV.ly c h rk rr rd (rk + fr) hc ((hV.m (by decide) c).trans g3.2.1) (by omega) ((hV.m (by decide) c).trans g4.2.1) ((hV.m (by decide) c).trans g1.2.1) g1.1 ((hV.m (by decide) c).trans g5.2.2.2.1) (by omega) (by omega) (by omega) ha hend (by omega), ?_⟩
    unfold mCb mCa T2
    rw [r11, r12, r30, r31, r9]
    exact ((((hV.mI (by decide)).mIs (by decide)).mIs (by decide)).mI (by decide)).mI (by decide)
  · intro hov
    have hM := m_capture_y (l := l) (G := G) (b := b) hst S (E 900) E hV.ly c h rk rr rd (rk + fr) hc ((hV.m (by decide) c).trans g3.2.1) (by omega) ((hV.m (by decide) c).trans g4.2.1) ((hV.m (by decide) c).trans g1.2.1) g1.1 ((hV.m (by decide) c).trans g5.2.2.2.1) (by omega) (by omega) (by omega) ha hend (by omega)
    rw [show rk + fr - rk = fr by omega] at hM
    refine ⟨_, hM, ?_⟩
    unfold mCf mCb mCa T2
    rw [r11, r12, r22, r30, r31]
    exact (((((hV.mI (by decide)).mIs (by decide)).mIs (by decide)).mI (by decide)).mI (by decide)).mIs (by decide)
theorem RV.kI (hV : RV S E κ Ui Uj Ua V W D) : kI S (E 30) (E 34) (E 2) := ⟨hV.k7, hV.cl, hV.ic, hV.2.1.1.1.2.2.2.2.2.2.1, hV.2.1.1.2.2.2.2.2.2.2.1⟩
end
section
variable {l : Launch} {G : GG} {b : Nat} {T1 : Sw} {E κ : Nat → Nat} {Ui : Nat → Nat → Int32} {Uj : Nat → Nat → Int64} {Ua : Nat → Nat → Int32} {V V0 : Nat → Nat → Int32} {W : Nat → Int32} {D D0 : Nat → UInt64} {q o rp : Nat}
theorem cap_loop (hst : l.stackTraces = false) (hV : RV T1 E κ Ui Uj Ua V0 W D0) (hq : q < 512) (hrp : rp ≤ 4) (htp : ∀ i, i < 512 → Ua 1 i = V 801 i) (hin : ∀ j, j < 24 → Ua 2 (2 * j) = V 830 j ∧ Ua 2 (2 * j + 1) = V 831 j) (hR : ∀ d, d < 6 → clQ κ Ui Uj Ua V D d o rp (q + 1) q) (c : Nat) (hc : c ≤ 6) :
    ∃ (Ui' : Nat → Nat → Int32) (Uj' : Nat → Nat → Int64) (Ua' V' : Nat → Nat → Int32), (∃ X : Nat → Sw, X 0 = T1 ∧ (∀ d, d < c → ics l G b (E 30) (E 34) (E 2) (X d) (X (d + 1)) d) ∧ RV (X c) E κ Ui' Uj' Ua' V0 W D0) ∧
      (∀ (T : Sw) (Ux : Nat → Nat → Int32) (Ujx : Nat → Nat → Int64) (Uax : Nat → Nat → Int32) (Wx : Nat → Int32) (Dx : Nat → UInt64), RV T E κ Ux Ujx Uax V Wx Dx → ∃ Y : Nat → Sw, Y 0 = T ∧ (∀ d, d < c → cstep l G b (E 900) E (Y d) (Y (d + 1)) d) ∧ RV (Y c) E κ Ux Ujx Uax V' Wx Dx) ∧
      agG Ui Uj Ua V W Ui' Uj' Ua' V' W ∧ (∀ d, d < 6 → (d < c → clQ κ Ui' Uj' Ua' V' D d o rp (q + 1) (q + 1)) ∧ (c ≤ d → clQ κ Ui' Uj' Ua' V' D d o rp (q + 1) q)) := by
  induction c with
  | zero => exact ⟨Ui, Uj, Ua, V, ⟨fun _ => T1, rfl, fun d hd => absurd hd (by omega), hV⟩, fun T Ux Ujx Uax Wx Dx h => ⟨fun _ => T, rfl, fun d hd => absurd hd (by omega), h⟩, agG.rf, fun d hd => ⟨fun h => absurd h (by omega), fun _ => hR d hd⟩⟩
  | succ c ih =>
    obtain ⟨Ui', Uj', Ua', V', ⟨X, hX0, hXs, hXV⟩, hM, hG, hRc⟩ := ih (by omega)
    have hc6 : c < 6 := by omega
    have hcl := (hRc c hc6).2 (Nat.le_refl _)
    have mono : ∀ {k}, κ c = k → k ≠ 2 → clQ κ Ui' Uj' Ua' V' D c o rp (q + 1) (q + 1) := by
      intro k h1 h2
      rcases hcl with h | h | ⟨h, -⟩
      · exact Or.inl h
      · exact Or.inr (Or.inl h)
      · exact absurd (h1.symm.trans h) h2
    have same : ∀ (hs : ics l G b (E 30) (E 34) (E 2) (X c) (X c) c) (hm : ∀ (T : Sw) (Ux : Nat → Nat → Int32) (Ujx : Nat → Nat → Int64) (Uax : Nat → Nat → Int32) (Wx : Nat → Int32) (Dx : Nat → UInt64), RV T E κ Ux Ujx Uax V' Wx Dx → cstep l G b (E 900) E T T c) (hn : clQ κ Ui' Uj' Ua' V' D c o rp (q + 1) (q + 1)),
        ∃ (Ui' : Nat → Nat → Int32) (Uj' : Nat → Nat → Int64) (Ua' V' : Nat → Nat → Int32), (∃ X : Nat → Sw, X 0 = T1 ∧ (∀ d, d < c + 1 → ics l G b (E 30) (E 34) (E 2) (X d) (X (d + 1)) d) ∧ RV (X (c + 1)) E κ Ui' Uj' Ua' V0 W D0) ∧
          (∀ (T : Sw) (Ux : Nat → Nat → Int32) (Ujx : Nat → Nat → Int64) (Uax : Nat → Nat → Int32) (Wx : Nat → Int32) (Dx : Nat → UInt64), RV T E κ Ux Ujx Uax V Wx Dx → ∃ Y : Nat → Sw, Y 0 = T ∧ (∀ d, d < c + 1 → cstep l G b (E 900) E (Y d) (Y (d + 1)) d) ∧ RV (Y (c + 1)) E κ Ux Ujx Uax V' Wx Dx) ∧
          agG Ui Uj Ua V W Ui' Uj' Ua' V' W ∧ (∀ d, d < 6 → (d < c + 1 → clQ κ Ui' Uj' Ua' V' D d o rp (q + 1) (q + 1)) ∧ (c + 1 ≤ d → clQ κ Ui' Uj' Ua' V' D d o rp (q + 1) q)) := by
      intro hs hm hn
      obtain ⟨X', a1, a2, a3⟩ := ch_ext hXs hs
      refine ⟨Ui', Uj', Ua', V', ⟨X', a1.trans hX0, a2, by rw [a3]; exact hXV⟩, fun T Ux Ujx Uax Wx Dx h => ?_, hG, fun d hd => ⟨fun h => ?_, fun h => (hRc d hd).2 (by omega)⟩⟩
      · obtain ⟨Y, y0, ys, yV⟩ := hM T Ux Ujx Uax Wx Dx h
        obtain ⟨Y', b1, b2, b3⟩ := ch_ext ys (hm _ _ _ _ _ _ yV)
        exact ⟨Y', b1.trans y0, b2, by rw [b3]; exact yV⟩
      · by_cases e : d = c
        · rw [e]; exact hn
        · exact (hRc d hd).1 (by omega)
    have chg : ∀ (S' : Sw) (Ui2 : Nat → Nat → Int32) (Uj2 : Nat → Nat → Int64) (Ua2 V2 : Nat → Nat → Int32) (hs : ics l G b (E 30) (E 34) (E 2) (X c) S' c) (hV2 : RV S' E κ Ui2 Uj2 Ua2 V0 W D0) (hm : ∀ (T : Sw) (Ux : Nat → Nat → Int32) (Ujx : Nat → Nat → Int64) (Uax : Nat → Nat → Int32) (Wx : Nat → Int32) (Dx : Nat → UInt64), RV T E κ Ux Ujx Uax V' Wx Dx → ∃ T', cstep l G b (E 900) E T T' c ∧ RV T' E κ Ux Ujx Uax V2 Wx Dx) (hG2 : agG Ui Uj Ua V W Ui2 Uj2 Ua2 V2 W) (hag : ∀ d, d < 6 → d ≠ c → agU Ui' Uj' Ua' Ui2 Uj2 Ua2 d ∧ agV V' V2 d) (hn : clQ κ Ui2 Uj2 Ua2 V2 D c o rp (q + 1) (q + 1)),
        ∃ (Ui' : Nat → Nat → Int32) (Uj' : Nat → Nat → Int64) (Ua' V' : Nat → Nat → Int32), (∃ X : Nat → Sw, X 0 = T1 ∧ (∀ d, d < c + 1 → ics l G b (E 30) (E 34) (E 2) (X d) (X (d + 1)) d) ∧ RV (X (c + 1)) E κ Ui' Uj' Ua' V0 W D0) ∧
          (∀ (T : Sw) (Ux : Nat → Nat → Int32) (Ujx : Nat → Nat → Int64) (Uax : Nat → Nat → Int32) (Wx : Nat → Int32) (Dx : Nat → UInt64), RV T E κ Ux Ujx Uax V Wx Dx → ∃ Y : Nat → Sw, Y 0 = T ∧ (∀ d, d < c + 1 → cstep l G b (E 900) E (Y d) (Y (d + 1)) d) ∧ RV (Y (c + 1)) E κ Ux Ujx Uax V' Wx Dx) ∧
          agG Ui Uj Ua V W Ui' Uj' Ua' V' W ∧ (∀ d, d < 6 → (d < c + 1 → clQ κ Ui' Uj' Ua' V' D d o rp (q + 1) (q + 1)) ∧ (c + 1 ≤ d → clQ κ Ui' Uj' Ua' V' D d o rp (q + 1) q)) := by
      intro S' Ui2 Uj2 Ua2 V2 hs hV2 hm hG2 hag hn
      obtain ⟨X', a1, a2, a3⟩ := ch_ext hXs hs
      refine ⟨Ui2, Uj2, Ua2, V2, ⟨X', a1.trans hX0, a2, by rw [a3]; exact hV2⟩, fun T Ux Ujx Uax Wx Dx h => ?_, hG2, fun d hd => ⟨fun h => ?_, fun h => ?_⟩⟩
      · obtain ⟨Y, y0, ys, yV⟩ := hM T Ux Ujx Uax Wx Dx h
        obtain ⟨T', t1, t2⟩ := hm _ _ _ _ _ _ yV
        obtain ⟨Y', b1, b2, b3⟩ := ch_ext ys t1
        exact ⟨Y', b1.trans y0, b2, by rw [b3]; exact t2⟩
      · by_cases e : d = c
        · rw [e]; exact hn
        · exact ((hRc d hd).1 (by omega)).cg (hag d hd e).1 (hag d hd e).2 (by omega) (by omega) hrp
      · exact ((hRc d hd).2 (by omega)).cg (hag d hd (by omega)).1 (hag d hd (by omega)).2 (by omega) (by omega) hrp
    have hcg := uc_ge c
    rcases hcl with ⟨h1, h2, h3⟩ | ⟨h1, h2, h3, h4⟩ | ⟨h1, h2, h3, h4, h, rk, rr, rd, wh, h5⟩
    · exact same ⟨hXV.kI, Or.inl ⟨hXV.st0 hc6 h1, rfl⟩⟩ (fun T Ux Ujx Uax Wx Dx hT => ⟨hT.ly, Or.inl ⟨rfl, (hT.m (by decide) c).trans h2⟩⟩) (mono h1 (by decide))
    · have p := hXV.st5 hc6 h1
      exact same ⟨hXV.kI, Or.inr (Or.inl ⟨_, p.1, p.2.1, rfl⟩)⟩ (fun T Ux Ujx Uax Wx Dx hT => ⟨hT.ly, Or.inr (Or.inl ⟨rfl, by rw [hT.m (by decide)]; exact h2, by rw [hT.m (by decide)]; exact h3⟩)⟩) (mono h1 (by decide))
    · have p := hXV.st4 hc6 h1
      have u0 := ls_0 hc6 h1
      have e2 : fI (X c) 2 (E (uc c)) = V' 808 c := (hXV.i u0.1 u0.2 2).trans h5.2.1.2.2.1
      by_cases h8 : V' 808 c = 1
      · have hgi := hG
        have h3b := h5.2.2.1.2.2
        have tp' : ∀ i, i < 512 → Ua' 1 i = V' 801 i := fun i hi => by rw [(hG.1 1 (by decide)).2.2, hG.2.1 801 (by decide)]; exact htp i hi
        have in' : ∀ j, j < 24 → Ua' 2 (2 * j) = V' 830 j ∧ Ua' 2 (2 * j + 1) = V' 831 j := fun j hj => by rw [(hG.1 2 (by decide)).2.2, (hG.1 2 (by decide)).2.2, hG.2.1 830 (by decide), hG.2.1 831 (by decide)]; exact hin j hj
        obtain ⟨fr, f1, f2, f3⟩ := cap_fr h5.1.1 h5.2.2.2.2.2.2.2.1
        have cC := cap_C (l := l) (G := G) (b := b) hst hXV hc6 h1 h5 hq f1 f2 f3
        by_cases hov : 200 < rd + fr
        · obtain ⟨S', hS, hSV⟩ := cC.1 hov
          refine chg S' _ _ _ (vCl V' c h (rk + fr)) ⟨hXV.kI, Or.inr (Or.inr (Or.inr ⟨_, p.1, p.2.1, e2.trans h8, hS⟩))⟩ hSV (fun T Ux Ujx Uax Wx Dx hT => ?_) ?_ (fun d hd hne => ⟨?_, agV.cl hne (by omega)⟩) ?_
          · obtain ⟨T', t1, t2⟩ := (cap_M (l := l) (G := G) (b := b) hst hT hc6 h5 hq f1 f2 f3).1 hov
            exact ⟨T', ⟨hT.ly, Or.inr (Or.inr (Or.inr ⟨by rw [hT.m (by decide)]; exact h2, (hT.m (by decide) c).trans h3, (hT.m (by decide) c).trans h8, t1⟩))⟩, t2⟩
          · exact ((((hG.i hcg).uj (by omega)).j hcg).ua (by omega) (by omega)).cl
          · exact (((agU.rf.i (uc_n0 hne)).uj (uc_ne hne 2 (by decide))).j (uc_n0 hne)).ua (uc_ne hne 3 (by decide)) (uc_ne hne 4 (by decide))
          · refine Or.inr (Or.inr ⟨h1, by simpa [vCl, vCb, uq2, uqR] using h2, by simpa [vCl, vCb, uq2, uqR] using h3, fun p' hp' => ?_, h + 24, rk + fr, rr, rd, wh, cap_l h5 in' f1 f3 (by omega)⟩)
            have := h4 p' hp'
            simpa [vCl, vCb, uq2, uqR] using this
        · obtain ⟨S', g1, g2, hg1, hg2, hS, hSV⟩ := cC.2 (by omega)
          refine chg S' _ _ _ (vCy V' c h rk fr rd) ⟨hXV.kI, Or.inr (Or.inr (Or.inr ⟨_, p.1, p.2.1, e2.trans h8, hS⟩))⟩ hSV (fun T Ux Ujx Uax Wx Dx hT => ?_) ?_ (fun d hd hne => ⟨?_, agV.cy hne (by omega) (by omega)⟩) ?_
          · obtain ⟨T', t1, t2⟩ := (cap_M (l := l) (G := G) (b := b) hst hT hc6 h5 hq f1 f2 f3).2 (by omega)
            exact ⟨T', ⟨hT.ly, Or.inr (Or.inr (Or.inr ⟨by rw [hT.m (by decide)]; exact h2, (hT.m (by decide) c).trans h3, (hT.m (by decide) c).trans h8, t1⟩))⟩, t2⟩
          · exact ((((hG.uj (by omega)).uj (by omega)).j hcg).ua (by omega) (by omega)).ua (by omega) (by omega) |>.cy
          · exact ((((agU.rf.uj (uc_ne hne 2 (by decide))).uj (uc_ne hne 5 (by decide))).j (uc_n0 hne)).ua (uc_ne hne 3 (by decide)) (uc_ne hne 4 (by decide))).ua (uc_ne hne 6 (by decide)) (uc_ne hne 7 (by decide))
          · refine Or.inr (Or.inr ⟨h1, by simpa [vCy, vCb, uq2, uqR] using h2, by simpa [vCy, vCb, uq2, uqR] using h3, fun p' hp' => ?_, h + 24, rk + fr, rr, rd + fr, wh, cap_y h5 tp' in' f1 f2 f3 (by omega) (by omega) hg1 hg2⟩)
            have := h4 p' hp'
            simpa [vCy, vCb, uq2, uqR] using this
      · exact same ⟨hXV.kI, Or.inr (Or.inr (Or.inl ⟨_, p.1, p.2.1, by rw [e2]; exact h8, rfl⟩))⟩ (fun T Ux Ujx Uax Wx Dx hT => ⟨hT.ly, Or.inr (Or.inr (Or.inl ⟨rfl, by rw [hT.m (by decide)]; exact h2, (hT.m (by decide) c).trans h3, by rw [hT.m (by decide)]; exact h8⟩))⟩) (Or.inr (Or.inr ⟨h1, h2, h3, h4, h, rk, rr, rd, wh, h5.cg agU.rf agV.rf (by omega) (by omega)⟩))
end
