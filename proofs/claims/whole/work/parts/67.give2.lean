/-! ===== prepare: one player, the class's calls and the reference's ===== -/
section
variable {l : Launch} {G : GG} {b : Nat} {S X : Sw} {E κ : Nat → Nat} {Ui Ui1 : Nat → Nat → Int32} {Uj Uj1 : Nat → Nat → Int64} {Ua Ua1 : Nat → Nat → Int32} {V V0 V1 : Nat → Nat → Int32} {W : Nat → Int32} {D D1 : Nat → UInt64} {c sl o rp q n nx nx' hd rr : Nat} {f g : Nat → Int32} {st lt lL lR gv gn : Int32}
theorem RV.kN (hV : RV S E κ Ui Uj Ua V W D) : kN S (E 30) (E 34) (E 3) (E 4) := ⟨hV.k7, hV.cl, hV.ic, hV.2.1.1.1.2.2.2.2.2.2.2.1, hV.2.1.1.2.2.2.2.2.2.2.2.1, hV.2.1.1.1.2.2.2.2.2.2.2.2, hV.2.1.1.2.2.2.2.2.2.2.2.2.1⟩
theorem give_tail (hst : l.stackTraces = false) (hX : RV X E κ Ui1 Uj1 Ua1 V0 W D) (hc : c < 6) (hk : κ c = 1) (hrow : ∀ j, j < 24 → Ua1 3 (2 * j) = f j ∧ Ua1 3 (2 * j + 1) = g j) (hgn : Ui1 (uc c) 508 = gn) (gv : Int32) (sl : Nat) :
    ∃ S', (kN (sqd (wI X (E (uc c + 5)) sl gv) (E (uc c)) (E 3)) (E 30) (E 34) (E 3) (E 4) ∧ sK (sqd (wI X (E (uc c + 5)) sl gv) (E (uc c)) (E 3)) (E (uc c)) = 5 ∧ Ct l G b yX5_addLoud cX5_addLoud 4 none rmX5_addLoud mV [.ref (E (uc c)), .ref (E 3), .ref (E 4)] (sqd (wI X (E (uc c + 5)) sl gv) (E (uc c)) (E 3)) (fun _ T' => T' = S')) ∧
      ∃ (Uj' : Nat → Nat → Int64) (Ua' : Nat → Nat → Int32), RV S' E κ Ui1 Uj' Ua' V0 W D ∧ (Uj' (uc c) 514 = sqs f g 24 ∧ ∀ a x, (a ≠ uc c ∨ x ≠ 514) → Uj' a x = Uj1 a x) ∧
      (Ua' (uc c + 5) sl = gv ∧ (∀ x, x ≠ sl → Ua' (uc c + 5) x = Ua1 (uc c + 5) x) ∧ (∀ a, a ≠ 4 → a ≠ uc c + 5 → Ua' a = Ua1 a) ∧ ∀ j, j < 24 → Ua' 4 (2 * j) = Ua1 4 (2 * j) + mDnI (f j * gn) 256 ∧ Ua' 4 (2 * j + 1) = Ua1 4 (2 * j + 1) + mDnI (g j * gn) 256) := by
  have u0 := pl_0 hc hk
  have u5 := pl_u (i := 5) hc hk (by decide)
  have hcg := uc_ge c
  have b3 : us κ 3 := us.b (by decide)
  have b4 : us κ 4 := us.b (by decide)
  have hW := hX.cA (k := sl) (v := gv) u5.1 u5.2
  have e3 : aI (wI X (E (uc c + 5)) sl gv) (E 3) = Ua1 3 := funext (fun i => (hW.a b3 (by decide) i).trans (uq2_ne (Or.inl (by omega))))
  have hT : RV (sqd (wI X (E (uc c + 5)) sl gv) (E (uc c)) (E 3)) E κ Ui1 (uq2 Uj1 (uc c) 514 (sqs f g 24)) (uq2 Ua1 (uc c + 5) sl gv) V0 W D := by
    unfold sqd
    rw [e3, show sq1 (Ua1 3) 48 = sqs f g 24 from sq_sqs 24 hrow]
    exact hW.cJ u0.1 u0.2
  have p := hT.st5 hc hk
  have kn := hT.kN
  have hM := c_addLoud (l := l) (G := G) (b := b) hst _ (E (uc c)) p.2.1 (E 3) (E 4) kn.2.2.2.2.1 kn.2.2.2.2.2.2 (hT.1.ne b3 b4 (by decide))
  rw [show aI (sqd (wI X (E (uc c + 5)) sl gv) (E (uc c)) (E 3)) (E 4) = Ua1 4 from funext (fun i => (hT.a b4 (by decide) i).trans (uq2_ne (Or.inl (by omega)))), show aI (sqd (wI X (E (uc c + 5)) sl gv) (E (uc c)) (E 3)) (E 3) = Ua1 3 from funext (fun i => (hT.a b3 (by decide) i).trans (uq2_ne (Or.inl (by omega)))), hT.i u0.1 u0.2, hgn] at hM
  refine ⟨_, ⟨kn, p.2.1, hM⟩, _, _, hT.cAs b4 (by decide), ⟨uq2_eq, fun a x h => uq2_ne h⟩, ?_, ?_, ?_, ?_⟩
  · rw [uqR_ne (by omega)]; exact uq2_eq
  · intro x hx; rw [uqR_ne (by omega)]; exact uq2_ne (Or.inr hx)
  · intro a h4 h5; rw [uqR_ne h4]; exact uq2_row h5
  · intro j hj
    rw [uqR_eq, pw_lt (by omega), pw_lt (by omega)]
    unfold ald
    rw [jm256, jm256, (hrow j hj).1, (hrow j hj).2]
    exact ⟨rfl, rfl⟩
theorem give_C (hst : l.stackTraces = false) (hV : RV S E κ Ui Uj Ua V0 W D) (hc : c < 6) (hk : κ c = 1) (P : plP Ui Uj Ua V D1 c o rp q n nx hd rr) (htp : ∀ i, i < 512 → Ua 1 i = V 801 i) (hq : q < 512) (hG : gvS V c n nx rr f g nx' st lt lL lR gv) :
    ∃ S', cps l G b (E 30) (E 34) (E 3) (E 4) ((o + rp) % 4) S S' c ∧ ∃ (Ui' : Nat → Nat → Int32) (Uj' : Nat → Nat → Int64) (Ua' : Nat → Nat → Int32), RV S' E κ Ui' Uj' Ua' V0 W D ∧ clsG Ui Uj Ua Ui' Uj' Ua' c ((o + rp) % 4) f g (V 807 c) nx' st lt lL lR gv := by
  have u0 := pl_0 hc hk
  have u1 := pl_u (i := 1) hc hk (by decide)
  have u2 := pl_u (i := 2) hc hk (by decide)
  have u3 := pl_u (i := 3) hc hk (by decide)
  have u4 := pl_u (i := 4) hc hk (by decide)
  have u5 := pl_u (i := 5) hc hk (by decide)
  have hcg := uc_ge c
  have b1 : us κ 1 := us.b (by decide)
  have b3 : us κ 3 := us.b (by decide)
  have b4 : us κ 4 := us.b (by decide)
  have kn := hV.kN
  have hsl : (o + rp) % 4 < 4 := by omega
  obtain ⟨s1, s2, s3, s4, s5, s6, s7, s8⟩ := hV.st5 hc hk
  have hb := P.2.2.1.2.2
  have hb2 := P.2.2.2.2.2.1.2.2
  have h9 := P.2.2.2.2.2.2.2.2.1
  have hpp : (nx + 24) * rr / 48000 ≤ nx + 24 := by
    have hr : rr ≤ 48000 := by have := P.1.1; unfold rtN at this; omega
    have h2 : (nx + 24) * rr ≤ (nx + 24) * 48000 := Nat.mul_le_mul_left _ hr
    omega
  have vc : vC S (E (uc c + 1)) (E 32) rr 48000 := ⟨s6.1, s6.2, (hV.jj u1.1 u1.2 101).trans P.1.2.2.1, (hV.jj u1.1 u1.2 102).trans P.1.2.2.2⟩
  have fc : fC S (E (uc c + 2)) (E (uc c + 3)) (E (uc c + 4)) n := ⟨s7.1, s7.2.1, s7.2.2.1, s7.2.2.2.1, s7.2.2.2.2, (hV.jj u2.1 u2.2 202).trans P.2.2.2.2.2.1.1⟩
  have hnx : fJ S 512 (E (uc c)) = lN nx := (hV.jj u0.1 u0.2 512).trans P.2.2.1.1
  have ne : ∀ {i j}, us κ i → us κ j → i ≠ j → E i ≠ E j := fun hi hj hne => hV.1.ne hi hj hne
  have f2 : fI S 2 (E (uc c)) = V 808 c := (hV.i u0.1 u0.2 2).trans P.2.1.2.2.1
  have g508 : Ui (uc c) 508 = V 807 c := P.2.1.2.2.2.2.2.1
  have g2 : Ui (uc c) 2 = V 808 c := P.2.1.2.2.1
  have g3 : Ui (uc c) 3 = V 809 c := P.2.1.2.2.2.1
  have g510 : Ui (uc c) 510 = V 816 c := P.2.1.2.2.2.2.2.2.2.1
  have g511 : Ui (uc c) 511 = V 817 c := P.2.1.2.2.2.2.2.2.2.2
  have eo : ∀ rt, pOut S (E 1) (E (uc c + 3)) (E (uc c + 4)) n nx rr rt = outV V c n nx rr rt := by
    intro rt
    funext j
    unfold pOut
    rw [show aI S (E 1) = Ua 1 from funext (hV.a b1 (by decide)), gC_U hV u3 u4]
    exact out_ext P htp rt j
  have e3 : aI S (E 3) = Ua 3 := funext (hV.a b3 (by decide))
  have out : ∀ (st0 : Int32) (X : Sw) (Ui1 : Nat → Nat → Int32), RV X E κ Ui1 (uq2 Uj (uc c) 512 (lN (nx + 24))) (uqR Ua 3 (pw (ilv (outV V c n nx rr 0) (outV V c n nx rr 1)) (Ua 3) 48)) V0 W D → (Ui1 (uc c) 2 = st0 ∧ Ui1 (uc c) 3 = V 809 c ∧ Ui1 (uc c) 510 = outV V c n nx rr 0 23 ∧ Ui1 (uc c) 511 = outV V c n nx rr 1 23 ∧ ∀ a x, (a ≠ uc c ∨ (x ≠ 2 ∧ x ≠ 3 ∧ x ≠ 510 ∧ x ≠ 511)) → Ui1 a x = Ui a x) → Ct l G b yX5_give cX5_give 4 none rmX5_give mV [.ref (E (uc c)), .ref (E 3), .int (nI ((o + rp) % 4))] S (fun _ T' => T' = sqd (wI X (E (uc c + 5)) ((o + rp) % 4) 24) (E (uc c)) (E 3)) →
      ∃ S', cps l G b (E 30) (E 34) (E 3) (E 4) ((o + rp) % 4) S S' c ∧ ∃ (Ui' : Nat → Nat → Int32) (Uj' : Nat → Nat → Int64) (Ua' : Nat → Nat → Int32), RV S' E κ Ui' Uj' Ua' V0 W D ∧ clsG Ui Uj Ua Ui' Uj' Ua' c ((o + rp) % 4) (outV V c n nx rr 0) (outV V c n nx rr 1) (V 807 c) (nx + 24) st0 (V 809 c) (outV V c n nx rr 0 23) (outV V c n nx rr 1 23) 24 := by
    intro st0 X Ui1 hX hUi hGv
    obtain ⟨S', ⟨t1, t2, t3⟩, Uj', Ua', hR, ⟨a1, a2⟩, a3, a4, a5, a6⟩ := give_tail (l := l) (G := G) (b := b) (f := outV V c n nx rr 0) (g := outV V c n nx rr 1) (gn := V 807 c) hst hX hc hk (fun j hj => by rw [uqR_eq, pw_lt (by omega), pw_lt (by omega), ilv_e, ilv_o]; exact ⟨rfl, rfl⟩) ((hUi.2.2.2.2 _ _ (Or.inr (by decide))).trans g508) 24 ((o + rp) % 4)
    refine ⟨S', ⟨kn, Or.inr (Or.inr ⟨_, _, s1, s2, hGv, t1, t2, t3⟩)⟩, Ui1, Uj', Ua', hR, hUi, ⟨(a2 _ _ (Or.inr (by decide))).trans uq2_eq, a1, fun a x h => (a2 a x (h.elim Or.inl (fun z => Or.inr z.2))).trans (uq2_ne (h.elim Or.inl (fun z => Or.inr z.1)))⟩, a3, fun x hx => (a4 x hx).trans (by rw [uqR_ne (by omega)]), fun a h3 h4 h5 => (a5 a h4 h5).trans (uqR_ne h3), fun j hj => ?_⟩
    have := a6 j hj
    rw [uqR_ne (by decide)] at this
    exact this
  have hpg : RV (pGk S (E (uc c)) (E 3) (outV V c n nx rr 0) (outV V c n nx rr 1) nx 24) E κ (uq2 (uq2 Ui (uc c) 510 (outV V c n nx rr 0 23)) (uc c) 511 (outV V c n nx rr 1 23)) (uq2 Uj (uc c) 512 (lN (nx + 24))) (uqR Ua 3 (pw (ilv (outV V c n nx rr 0) (outV V c n nx rr 1)) (Ua 3) 48)) V0 W D := by
    unfold pGk
    rw [e3, if_neg (by decide), if_neg (by decide)]
    exact (((hV.cAs b3 (by decide)).cI u0.1 u0.2).cI u0.1 u0.2).cJ u0.1 u0.2
  have hUo : ∀ a x, (a ≠ uc c ∨ (x ≠ 2 ∧ x ≠ 3 ∧ x ≠ 510 ∧ x ≠ 511)) → uq2 (uq2 Ui (uc c) 510 (outV V c n nx rr 0 23)) (uc c) 511 (outV V c n nx rr 1 23) a x = Ui a x := fun a x h => by rw [uq2_ne (by omega), uq2_ne (by omega)]
  rcases hG with ⟨k3, ⟨rfl, rfl⟩, rfl, rfl, rfl, rfl, rfl, rfl⟩ | ⟨k1, kb, ⟨rfl, rfl⟩, rfl, rfl, rfl, rfl, rfl, rfl⟩ | ⟨k1, kb, ⟨rfl, rfl⟩, rfl, rfl, rfl, rfl, rfl, rfl⟩ | ⟨k3, k1, ⟨rfl, rfl⟩, rfl, rfl, rfl, rfl, rfl, rfl⟩
  · have dec := (ls_dec (p := (nx + 24) * rr / 48000) (n := n) (rr := rr) (by omega) (by omega)).1
    by_cases hp : (((nx + 24) * rr / 48000 : Nat) : Int) - lsI rr < (n : Int)
    · rw [if_pos hp]
      have hM := c_give_d1 (l := l) (G := G) (b := b) hst S (E (uc c)) s2 _ _ rr s3 vc P.1.1 _ _ _ n s4 fc (by omega) nx hnx (by omega) (by omega) (E 3) (E 1) kn.2.2.2.2.1 hV.tc (ne u3.1 b3 (by omega)) (ne u4.1 b3 (by omega)) (ne b1 b3 (by omega)) (E (uc c + 5)) ((o + rp) % 4) s5 s8 hsl (f2.trans k3) (dec.mpr hp)
      rw [eo, eo] at hM
      refine out 3 _ _ hpg ⟨?_, ?_, ?_, uq2_eq, hUo⟩ hM
      · rw [uq2_ne (by omega), uq2_ne (by omega), g2, k3]
      · rw [uq2_ne (by omega), uq2_ne (by omega), g3]
      · rw [uq2_ne (by omega), uq2_eq]
    · rw [if_neg hp]
      have hM := c_give_d2 (l := l) (G := G) (b := b) hst S (E (uc c)) s2 _ _ rr s3 vc P.1.1 _ _ _ n s4 fc (by omega) nx hnx (by omega) (by omega) (E 3) (E 1) kn.2.2.2.2.1 hV.tc (ne u3.1 b3 (by omega)) (ne u4.1 b3 (by omega)) (ne b1 b3 (by omega)) (E (uc c + 5)) ((o + rp) % 4) s5 s8 hsl (f2.trans k3) (fun z => hp (dec.mp z))
      rw [eo, eo] at hM
      refine out 4 (uI (pGk S (E (uc c)) (E 3) (outV V c n nx rr 0) (outV V c n nx rr 1) nx 24) 2 (E (uc c)) 4) _ (hpg.cI u0.1 u0.2) ⟨uq2_eq, ?_, ?_, ?_, ?_⟩ hM
      · rw [uq2_ne (by omega), uq2_ne (by omega), uq2_ne (by omega), g3]
      · rw [uq2_ne (by omega), uq2_ne (by omega), uq2_eq]
      · rw [uq2_ne (by omega), uq2_eq]
      · intro a x h; rw [uq2_ne (by omega)]; exact hUo a x h
  · have hM := c_give_r (l := l) (G := G) (b := b) hst S (E (uc c)) s2 _ _ rr s3 vc P.1.1 _ _ _ n s4 fc (by omega) nx hnx (by omega) (by omega) (E 3) (E 1) kn.2.2.2.2.1 hV.tc (ne u3.1 b3 (by omega)) (ne u4.1 b3 (by omega)) (ne b1 b3 (by omega)) (E (uc c + 5)) ((o + rp) % 4) s5 s8 hsl (f2.trans k1) (by rw [lnE, show nx + 24 * 1 - 1 = nx + 23 by omega]; exact kb)
    rw [eo, eo] at hM
    refine out 1 _ _ hpg ⟨?_, ?_, ?_, uq2_eq, hUo⟩ hM
    · rw [uq2_ne (by omega), uq2_ne (by omega), g2, k1]
    · rw [uq2_ne (by omega), uq2_ne (by omega), g3]
    · rw [uq2_ne (by omega), uq2_eq]
  · have hM := c_give_f (l := l) (G := G) (b := b) hst S (E (uc c)) s2 _ _ rr s3 vc P.1.1 _ _ _ n s4 fc (by omega) nx' hnx (by omega) (by omega) (E 3) (E 1) kn.2.2.2.2.1 hV.tc (ne u3.1 b3 (by omega)) (ne u4.1 b3 (by omega)) (ne b1 b3 (by omega)) (E (uc c + 5)) ((o + rp) % 4) s5 s8 hsl (f2.trans k1) (by rw [lnE, show nx' + 24 * 1 - 1 = nx' + 23 by omega]; exact kb)
    rw [hV.i u0.1 u0.2, hV.i u0.1 u0.2, hV.i u0.1 u0.2, e3, g510, g511, g3] at hM
    have hX := (((hV.cAs (r := pw (ilv (pfd (V 816 c)) (pfd (V 817 c))) (Ua 3) 48) b3 (by decide)).cI (f := 510) (v := 0) u0.1 u0.2).cI (f := 511) (v := 0) u0.1 u0.2).cI (f := 3) (v := V 809 c + 1) u0.1 u0.2
    obtain ⟨S', ⟨t1, t2, t3⟩, Uj', Ua', hR, ⟨a1, a2⟩, a3, a4, a5, a6⟩ := give_tail (l := l) (G := G) (b := b) (f := fdr (V 816 c)) (g := fdr (V 817 c)) (gn := V 807 c) hst hX hc hk (fun j hj => by rw [uqR_eq, pw_lt (by omega), pw_lt (by omega), ilv_e, ilv_o, pfd_fdr hj, pfd_fdr hj]; exact ⟨rfl, rfl⟩) (by rw [uq2_ne (by omega), uq2_ne (by omega), uq2_ne (by omega)]; exact g508) 0 ((o + rp) % 4)
    refine ⟨S', ⟨kn, Or.inr (Or.inr ⟨_, _, s1, s2, hM, t1, t2, t3⟩)⟩, _, Uj', Ua', hR, ⟨?_, uq2_eq, ?_, ?_, ?_⟩, ⟨(a2 _ _ (Or.inr (by decide))).trans P.2.2.1.1, a1, fun a x h => a2 a x (h.elim Or.inl (fun z => Or.inr z.2))⟩, a3, fun x hx => (a4 x hx).trans (by rw [uqR_ne (by omega)]), fun a h3 h4 h5 => (a5 a h4 h5).trans (uqR_ne h3), fun j hj => ?_⟩
    · rw [uq2_ne (by omega), uq2_ne (by omega), uq2_ne (by omega), g2, k1]
    · rw [uq2_ne (by omega), uq2_ne (by omega), uq2_eq]
    · rw [uq2_ne (by omega), uq2_eq]
    · intro a x h; rw [uq2_ne (by omega), uq2_ne (by omega), uq2_ne (by omega)]
    · have := a6 j hj
      rw [uqR_ne (by decide)] at this
      exact this
  · have hM := c_give_n (l := l) (G := G) (b := b) hst S (E (uc c)) s2 (E (uc c + 5)) ((o + rp) % 4) s5 s8 hsl (E 3) kn.2.2.2.2.1 (by rw [f2]; exact k1) (by rw [f2]; exact k3)
    rw [e3] at hM
    have hX := hV.cAs (r := pw (fun _ => 0) (Ua 3) 48) b3 (by decide)
    obtain ⟨S', ⟨t1, t2, t3⟩, Uj', Ua', hR, ⟨a1, a2⟩, a3, a4, a5, a6⟩ := give_tail (l := l) (G := G) (b := b) (f := fun _ => 0) (g := fun _ => 0) (gn := V 807 c) hst hX hc hk (fun j hj => by rw [uqR_eq, pw_lt (by omega), pw_lt (by omega)]; exact ⟨rfl, rfl⟩) g508 0 ((o + rp) % 4)
    refine ⟨S', ⟨kn, Or.inr (Or.inr ⟨_, _, s1, s2, hM, t1, t2, t3⟩)⟩, _, Uj', Ua', hR, ⟨g2, g3, g510, g511, fun _ _ _ => rfl⟩, ⟨(a2 _ _ (Or.inr (by decide))).trans P.2.2.1.1, a1, fun a x h => a2 a x (h.elim Or.inl (fun z => Or.inr z.2))⟩, a3, fun x hx => (a4 x hx).trans (by rw [uqR_ne (by omega)]), fun a h3 h4 h5 => (a5 a h4 h5).trans (uqR_ne h3), fun j hj => ?_⟩
    have := a6 j hj
    rw [uqR_ne (by decide)] at this
    exact this
theorem give_Mtail (hX : RV X E κ Ui Uj Ua V1 W D) (hrow : ∀ j, j < 24 → V1 838 j = f j ∧ V1 839 j = g j) (gv : Int32) : RV (wI (mMix X E c) (E 827) (6 * rp + c) gv) E κ Ui Uj Ua (uq2 (uqR (uqR V1 836 (pw (mxr (V1 836) (V1 838) (V1 807 c)) (V1 836) 24)) 837 (pw (mxr (V1 837) (V1 839) (V1 807 c)) (V1 837) 24)) 827 (6 * rp + c) gv) W (uq1 D c (FP.ddiv (FP.l2d (sqs f g 24)) 4631952216750555136)) := by
  have e : ∀ x, x ∈ MLf → aI X (E x) = V1 x := fun x hx => funext (hX.m hx)
  unfold mMix T2
  rw [e 836 (by decide), e 837 (by decide), e 838 (by decide), e 839 (by decide), hX.m (f := 807) (by decide), show sqs (V1 838) (V1 839) 24 = sqs f g 24 from sqs_ext 24 hrow]
  exact (((hX.mIs (by decide)).mIs (by decide)).mD).mI (by decide)
theorem give_M (hst : l.stackTraces = false) (hc : c < 6) {Uix : Nat → Nat → Int32} {Ujx : Nat → Nat → Int64} {Uax : Nat → Nat → Int32} (P : plP Uix Ujx Uax V D1 c o rp q n nx hd rr) (hth : ¬ V 802 c = 0) (hpl : ¬ V 803 c = 0) (hq : q < 512) (hG : gvS V c n nx rr f g nx' st lt lL lR gv) :
    ∃ V', mdlG V V' c rp f g (V 807 c) nx' st lt lL lR gv ∧ ∀ (S : Sw) (Ui : Nat → Nat → Int32) (Uj : Nat → Nat → Int64) (Ua : Nat → Nat → Int32) (W : Nat → Int32) (D : Nat → UInt64), W 824 = nI rp → RV S E κ Ui Uj Ua V W D → ∃ S', pstep l G b (E 900) E rp S S' c ∧ RV S' E κ Ui Uj Ua V' W (uq1 D c (FP.ddiv (FP.l2d (sqs f g 24)) 4631952216750555136)) := by
  have hb := P.2.2.1.2.2
  have hb2 := P.2.2.2.2.2.1.2.2
  have hpp : (nx + 24) * rr / 48000 ≤ nx + 24 := by
    have hr : rr ≤ 48000 := by have := P.1.1; unfold rtN at this; omega
    have h2 : (nx + 24) * rr ≤ (nx + 24) * 48000 := Nat.mul_le_mul_left _ hr
    omega
  obtain ⟨VN, hN⟩ : ∃ VN, VN = uqR (uqR V 838 (pw (fun _ => 0) (V 838) 24)) 839 (pw (fun _ => 0) (V 839) 24) := ⟨_, rfl⟩
  have hgn : ∀ {S : Sw} {Ui : Nat → Nat → Int32} {Uj : Nat → Nat → Int64} {Ua : Nat → Nat → Int32} {W : Nat → Int32} {D : Nat → UInt64}, RV S E κ Ui Uj Ua V W D → RV (mGN S E) E κ Ui Uj Ua VN W D := by
    intro S Ui Uj Ua W D hV
    unfold mGN T2
    rw [hN, show aI S (E 838) = V 838 from funext (hV.m (by decide)), show aI S (E 839) = V 839 from funext (hV.m (by decide))]
    exact (hV.mIs (by decide)).mIs (by decide)
  have eN : ∀ x, x ≠ 838 → x ≠ 839 → VN x = V x := fun x h1 h2 => by rw [hN, uqR_ne h2, uqR_ne h1]
  have z38 : ∀ j, j < 24 → VN 838 j = 0 := fun j hj => by rw [hN, uqR_ne (by decide), uqR_eq, pw_lt hj]
  have z39 : ∀ j, j < 24 → VN 839 j = 0 := fun j hj => by rw [hN, uqR_eq, pw_lt hj]
  have hgo : ∀ {S : Sw} {Ui : Nat → Nat → Int32} {Uj : Nat → Nat → Int64} {Ua : Nat → Nat → Int32} {W : Nat → Int32} {D : Nat → UInt64}, RV S E κ Ui Uj Ua V W D → RV (mGO (mGN S E) E c n nx rr) E κ Ui Uj Ua (uq2 (uq2 (uq2 (uqR (uqR VN 838 (pw (outV V c n nx rr 0) (VN 838) 24)) 839 (pw (outV V c n nx rr 1) (VN 839) 24)) 816 c (outV V c n nx rr 0 23)) 817 c (outV V c n nx rr 1 23)) 815 c (nI (nx + 24))) W D := by
    intro S Ui Uj Ua W D hV
    have hg := hgn hV
    have eo : ∀ rt, outs (mGN S E) E c n nx rr rt = outV V c n nx rr rt := by
      intro rt
      funext j
      unfold outs outV
      rw [show aI (mGN S E) (E 801) = V 801 from funext (fun i => (hg.m (by decide) i).trans (by rw [eN 801 (by decide) (by decide)])), gM_V hg, gV_c (V := V) (eN 811 (by decide) (by decide)) (eN 812 (by decide) (by decide))]
    unfold mGO T2
    rw [eo, eo, show aI (mGN S E) (E 838) = VN 838 from funext (hg.m (by decide)), show aI (mGN S E) (E 839) = VN 839 from funext (hg.m (by decide))]
    exact ((((hg.mIs (by decide)).mIs (by decide)).mI (by decide)).mI (by decide)).mI (by decide)
  have fin : ∀ (V1 : Nat → Nat → Int32) (gb : Int32), (∀ (S : Sw) (Ui : Nat → Nat → Int32) (Uj : Nat → Nat → Int64) (Ua : Nat → Nat → Int32) (W : Nat → Int32) (D : Nat → UInt64), RV S E κ Ui Uj Ua V W D → aI S (E 808) c = V 808 c → aI S (E 810) c = nI n → aI S (E 815) c = nI nx → aI S (E 804) c = nI rr → ∃ X, RV X E κ Ui Uj Ua V1 W D ∧ Ct l G b yX8_give cX8_give 3 (some .boolean) rmX8_give mI [.ref (E 900), .int (nI c)] S (fun r T => T = X ∧ r = gb)) → gv = (if gb = 0 then 0 else 24) → (∀ j, j < 24 → V1 838 j = f j ∧ V1 839 j = g j) → (V1 808 c = st ∧ V1 809 c = lt ∧ V1 815 c = nI nx' ∧ V1 816 c = lL ∧ V1 817 c = lR) → (∀ x, x ∉ [808, 809, 815, 816, 817, 838, 839] → V1 x = V x) → (∀ x, x ∈ [808, 809, 815, 816, 817] → ∀ d, d ≠ c → V1 x d = V x d) → ∃ V', mdlG V V' c rp f g (V 807 c) nx' st lt lL lR gv ∧ ∀ (S : Sw) (Ui : Nat → Nat → Int32) (Uj : Nat → Nat → Int64) (Ua : Nat → Nat → Int32) (W : Nat → Int32) (D : Nat → UInt64), W 824 = nI rp → RV S E κ Ui Uj Ua V W D → ∃ S', pstep l G b (E 900) E rp S S' c ∧ RV S' E κ Ui Uj Ua V' W (uq1 D c (FP.ddiv (FP.l2d (sqs f g 24)) 4631952216750555136)) := by
    intro V1 gb hMk hgv hrow hs h1 h2
    obtain ⟨V', hV'⟩ : ∃ V', V' = uq2 (uqR (uqR V1 836 (pw (mxr (V1 836) (V1 838) (V1 807 c)) (V1 836) 24)) 837 (pw (mxr (V1 837) (V1 839) (V1 807 c)) (V1 837) 24)) 827 (6 * rp + c) gv := ⟨_, rfl⟩
    have r2 : ∀ x, x ∉ [827, 836, 837] → V' x = V1 x := by
      intro x hx
      have h1 : x ≠ 827 ∧ x ≠ 836 ∧ x ≠ 837 := ⟨fun e => hx (by rw [e]; decide), fun e => hx (by rw [e]; decide), fun e => hx (by rw [e]; decide)⟩
      rw [hV', uq2_row h1.1, uqR_ne h1.2.2, uqR_ne h1.2.1]
    have r4 : ∀ j, j < 24 → V' 836 j = V1 836 j + mDnI (f j * V1 807 c) 256 ∧ V' 837 j = V1 837 j + mDnI (g j * V1 807 c) 256 := by
      intro j hj
      constructor
      · rw [hV', uq2_row (by decide), uqR_ne (by decide), uqR_eq, pw_lt hj]
        unfold mxr
        rw [(hrow j hj).1]
      · rw [hV', uq2_row (by decide), uqR_eq, pw_lt hj]
        unfold mxr
        rw [(hrow j hj).2]
    refine ⟨V', ⟨⟨?_, ?_, ?_, ?_, ?_⟩, ?_, ?_, ⟨by rw [hV']; exact uq2_eq, fun i hi => ?_⟩, fun j hj => ?_⟩, fun S Ui Uj Ua W D hw hV => ?_⟩
    · rw [r2 808 (by decide)]; exact hs.1
    · rw [r2 809 (by decide)]; exact hs.2.1
    · rw [r2 815 (by decide)]; exact hs.2.2.1
    · rw [r2 816 (by decide)]; exact hs.2.2.2.1
    · rw [r2 817 (by decide)]; exact hs.2.2.2.2
    · intro x hx
      rw [r2 x (fun h => hx (by have z : ∀ x ∈ [827, 836, 837], x ∈ [808, 809, 815, 816, 817, 827, 836, 837, 838, 839] := by decide
                                exact z x h)), h1 x (fun h => hx (by have z : ∀ x ∈ [808, 809, 815, 816, 817, 838, 839], x ∈ [808, 809, 815, 816, 817, 827, 836, 837, 838, 839] := by decide
                                                                     exact z x h))]
    · intro x hx d hd
      have z : ∀ x ∈ [808, 809, 815, 816, 817], x ∉ [827, 836, 837] := by decide
      rw [r2 x (z x hx)]; exact h2 x hx d hd
    · rw [hV', uq2_ne (Or.inr hi), uqR_ne (by decide), uqR_ne (by decide), h1 827 (by decide)]
    · have := r4 j hj
      rw [h1 807 (by decide), h1 836 (by decide), h1 837 (by decide)] at this
      exact this
    · obtain ⟨X, hX, hM⟩ := hMk S Ui Uj Ua W D hV (hV.m (by decide) c) ((hV.m (by decide) c).trans P.2.2.2.2.2.1.2.1) ((hV.m (by decide) c).trans P.2.2.1.2.1) ((hV.m (by decide) c).trans P.1.2.1)
      refine ⟨_, ⟨hV.ly, (hV.w (by decide)).trans hw, Or.inr (Or.inr ⟨by rw [hV.m (by decide)]; exact hth, by rw [hV.m (by decide)]; exact hpl, X, gb, hM, hX.ly, (hX.w (by decide)).trans hw, rfl⟩)⟩, ?_⟩
      rw [← hgv, hV']
      exact give_Mtail hX hrow gv
  have h5 : ∀ {x d : Nat}, x ∈ [808, 809, 815, 816, 817] → x ≠ 838 ∧ x ≠ 839 := fun {x d} hx => by
    have z : ∀ x ∈ [808, 809, 815, 816, 817], x ≠ 838 ∧ x ≠ 839 := by decide
    exact z x hx
  have h7 : ∀ {x : Nat}, x ∉ [808, 809, 815, 816, 817, 838, 839] → x ≠ 808 ∧ x ≠ 809 ∧ x ≠ 815 ∧ x ≠ 816 ∧ x ≠ 817 ∧ x ≠ 838 ∧ x ≠ 839 := fun {x} hx => by
    simp only [List.mem_cons, List.not_mem_nil, or_false, not_or] at hx
    exact hx
  rcases hG with ⟨k3, ⟨rfl, rfl⟩, rfl, rfl, rfl, rfl, rfl, rfl⟩ | ⟨k1, kb, ⟨rfl, rfl⟩, rfl, rfl, rfl, rfl, rfl, rfl⟩ | ⟨k1, kb, ⟨rfl, rfl⟩, rfl, rfl, rfl, rfl, rfl, rfl⟩ | ⟨k3, k1, ⟨rfl, rfl⟩, rfl, rfl, rfl, rfl, rfl, rfl⟩
  · have dec := (ls_dec (p := (nx + 24) * rr / 48000) (n := n) (rr := rr) (by omega) (by omega)).2
    have ed : (if nI ((nx + 24) * rr / 48000) - mLs rr < nI n then (3 : Int32) else 4) = if (((nx + 24) * rr / 48000 : Nat) : Int) - lsI rr < (n : Int) then 3 else 4 := by
      by_cases hp : (((nx + 24) * rr / 48000 : Nat) : Int) - lsI rr < (n : Int)
      · rw [if_pos hp, if_pos (dec.mpr hp)]
      · rw [if_neg hp, if_neg (fun z => hp (dec.mp z))]
    refine fin (uq2 (uq2 (uq2 (uq2 (uqR (uqR VN 838 (pw (outV V c n nx rr 0) (VN 838) 24)) 839 (pw (outV V c n nx rr 1) (VN 839) 24)) 816 c (outV V c n nx rr 0 23)) 817 c (outV V c n nx rr 1 23)) 815 c (nI (nx + 24))) 808 c (if (((nx + 24) * rr / 48000 : Nat) : Int) - lsI rr < (n : Int) then 3 else 4)) 1 (fun S Ui Uj Ua W D hV e8 n10 n15 n4 => ?_) (by decide) (fun j hj => ?_) ⟨uq2_eq, ?_, ?_, ?_, ?_⟩ (fun x hx => ?_) (fun x hx d hd => ?_)
    · have hM := m_give_d (l := l) (G := G) (b := b) hst S (E 900) E hV.ly c n nx rr hc n10 (by omega) n15 n4 (by omega) P.1.1 (e8.trans k3)
      rw [ed] at hM
      exact ⟨_, (hgo hV).mI (by decide), hM⟩
    · rw [uq2_row (by decide), uq2_row (by decide), uq2_row (by decide), uq2_row (by decide), uqR_ne (by decide), uqR_eq, uq2_row (by decide), uq2_row (by decide), uq2_row (by decide), uq2_row (by decide), uqR_eq, pw_lt hj, pw_lt hj]; exact ⟨rfl, rfl⟩
    · rw [uq2_row (by decide), uq2_row (by decide), uq2_row (by decide), uq2_row (by decide), uqR_ne (by decide), uqR_ne (by decide), eN _ (by decide) (by decide)]
    · rw [uq2_row (by decide), uq2_eq]
    · rw [uq2_row (by decide), uq2_row (by decide), uq2_row (by decide), uq2_eq]
    · rw [uq2_row (by decide), uq2_row (by decide), uq2_eq]
    · obtain ⟨y1, y2, y3, y4, y5, y6, y7⟩ := h7 hx
      rw [uq2_row y1, uq2_row y3, uq2_row y5, uq2_row y4, uqR_ne y7, uqR_ne y6, eN x y6 y7]
    · obtain ⟨y6, y7⟩ := h5 (d := d) hx
      rw [uq2_ne (Or.inr hd), uq2_ne (Or.inr hd), uq2_ne (Or.inr hd), uq2_ne (Or.inr hd), uqR_ne y7, uqR_ne y6, eN x y6 y7]
  · refine fin (uq2 (uq2 (uq2 (uqR (uqR VN 838 (pw (outV V c n nx rr 0) (VN 838) 24)) 839 (pw (outV V c n nx rr 1) (VN 839) 24)) 816 c (outV V c n nx rr 0 23)) 817 c (outV V c n nx rr 1 23)) 815 c (nI (nx + 24))) 1 (fun S Ui Uj Ua W D hV e8 n10 n15 n4 => ⟨_, hgo hV, m_give_b hst S (E 900) E hV.ly c n nx rr hc n10 (by omega) n15 n4 (by omega) P.1.1 (e8.trans k1) kb⟩) (by decide) (fun j hj => ?_) ⟨?_, ?_, uq2_eq, ?_, ?_⟩ (fun x hx => ?_) (fun x hx d hd => ?_)
    · rw [uq2_row (by decide), uq2_row (by decide), uq2_row (by decide), uqR_ne (by decide), uqR_eq, uq2_row (by decide), uq2_row (by decide), uq2_row (by decide), uqR_eq, pw_lt hj, pw_lt hj]; exact ⟨rfl, rfl⟩
    · rw [uq2_row (by decide), uq2_row (by decide), uq2_row (by decide), uqR_ne (by decide), uqR_ne (by decide), eN _ (by decide) (by decide), k1]
    · rw [uq2_row (by decide), uq2_row (by decide), uq2_row (by decide), uqR_ne (by decide), uqR_ne (by decide), eN _ (by decide) (by decide)]
    · rw [uq2_row (by decide), uq2_row (by decide), uq2_eq]
    · rw [uq2_row (by decide), uq2_eq]
    · obtain ⟨y1, y2, y3, y4, y5, y6, y7⟩ := h7 hx
      rw [uq2_row y3, uq2_row y5, uq2_row y4, uqR_ne y7, uqR_ne y6, eN x y6 y7]
    · obtain ⟨y6, y7⟩ := h5 (d := d) hx
      rw [uq2_ne (Or.inr hd), uq2_ne (Or.inr hd), uq2_ne (Or.inr hd), uqR_ne y7, uqR_ne y6, eN x y6 y7]
  · refine fin (uq2 (uq2 (uq2 (uqR (uqR VN 838 (pw (fdr (V 816 c)) (VN 838) 24)) 839 (pw (fdr (V 817 c)) (VN 839) 24)) 816 c 0) 817 c 0) 809 c (V 809 c + 1)) 0 (fun S Ui Uj Ua W D hV e8 n10 n15 n4 => ⟨_, ?_, m_give_f hst S (E 900) E hV.ly c n nx' rr hc n10 (by omega) n15 n4 (by omega) P.1.1 (e8.trans k1) kb⟩) (by decide) (fun j hj => ?_) ⟨?_, uq2_eq, ?_, ?_, ?_⟩ (fun x hx => ?_) (fun x hx d hd => ?_)
    · have hg := hgn hV
      unfold mFd T2
      rw [show aI (mGN S E) (E 816) c = V 816 c from (hg.m (by decide) c).trans (by rw [eN 816 (by decide) (by decide)]), show aI (mGN S E) (E 817) c = V 817 c from (hg.m (by decide) c).trans (by rw [eN 817 (by decide) (by decide)]), show aI (mGN S E) (E 809) c = V 809 c from (hg.m (by decide) c).trans (by rw [eN 809 (by decide) (by decide)]), show aI (mGN S E) (E 838) = VN 838 from funext (hg.m (by decide)), show aI (mGN S E) (E 839) = VN 839 from funext (hg.m (by decide))]
      exact ((((hg.mIs (by decide)).mIs (by decide)).mI (by decide)).mI (by decide)).mI (by decide)
    · rw [uq2_row (by decide), uq2_row (by decide), uq2_row (by decide), uqR_ne (by decide), uqR_eq, uq2_row (by decide), uq2_row (by decide), uq2_row (by decide), uqR_eq, pw_lt hj, pw_lt hj]; exact ⟨rfl, rfl⟩
    · rw [uq2_row (by decide), uq2_row (by decide), uq2_row (by decide), uqR_ne (by decide), uqR_ne (by decide), eN _ (by decide) (by decide), k1]
    · rw [uq2_row (by decide), uq2_row (by decide), uq2_row (by decide), uqR_ne (by decide), uqR_ne (by decide), eN _ (by decide) (by decide)]; exact P.2.2.1.2.1
    · rw [uq2_row (by decide), uq2_row (by decide), uq2_eq]
    · rw [uq2_row (by decide), uq2_eq]
    · obtain ⟨y1, y2, y3, y4, y5, y6, y7⟩ := h7 hx
      rw [uq2_row y2, uq2_row y5, uq2_row y4, uqR_ne y7, uqR_ne y6, eN x y6 y7]
    · obtain ⟨y6, y7⟩ := h5 (d := d) hx
      rw [uq2_ne (Or.inr hd), uq2_ne (Or.inr hd), uq2_ne (Or.inr hd), uqR_ne y7, uqR_ne y6, eN x y6 y7]
  · refine fin VN 0 (fun S Ui Uj Ua W D hV e8 n10 n15 n4 => ⟨_, hgn hV, m_give_0 hst S (E 900) E hV.ly c hc (by rw [e8]; exact k3) (by rw [e8]; exact k1)⟩) (by decide) (fun j hj => ⟨z38 j hj, z39 j hj⟩) ⟨?_, ?_, ?_, ?_, ?_⟩ (fun x hx => ?_) (fun x hx d hd => ?_)
    · rw [eN _ (by decide) (by decide)]
    · rw [eN _ (by decide) (by decide)]
    · rw [eN _ (by decide) (by decide)]; exact P.2.2.1.2.1
    · rw [eN _ (by decide) (by decide)]
    · rw [eN _ (by decide) (by decide)]
    · obtain ⟨y1, y2, y3, y4, y5, y6, y7⟩ := h7 hx
      exact eN x y6 y7
    · obtain ⟨y6, y7⟩ := h5 (d := d) hx
      rw [eN x y6 y7]
end
