/-! ===== open ===== -/
def N8 (a0 a1 a2 a3 a4 a5 a6 a7 : Nat) (i : Nat) : Nat := match i with
  | 0 => a0
  | 1 => a1
  | 2 => a2
  | 3 => a3
  | 4 => a4
  | 5 => a5
  | 6 => a6
  | _ => a7
def vOp (V : Nat → Nat → Int32) (c : Nat) (pl r ch bt : Int32) : Nat → Nat → Int32 := uq2 (uq2 (uq2 (uq2 (uq2 (uq2 (uq2 (uq2 (uq2 (uq2 (uq2 (uq2 (uq2 (uq2 (uq2 (uq2 (uq2 V 802 c 1) 803 c pl) 804 c r) 805 c ch) 806 c bt) 807 c 256) 808 c 0) 809 c 0) 810 c 0) 813 c 0) 815 c 0) 816 c 0) 817 c 0) 818 c 0) 820 c 0) 821 c 0) 823 c 0
section
variable {S : Sw} {E κ : Nat → Nat} {Ui : Nat → Nat → Int32} {Uj : Nat → Nat → Int64} {Ua : Nat → Nat → Int32} {V : Nat → Nat → Int32} {W : Nat → Int32} {D : Nat → UInt64} {k0 : Nat}
theorem RV.opM {T : Sw} {c : Nat} {pl r ch bt : Int32} (h : RV T E κ Ui Uj Ua V W D) : RV (mOpn (uI T 800 (E 900) 0) E c pl r ch bt) E κ Ui Uj Ua (vOp V c pl r ch bt) W (uq1 D c FP.dconst0) :=
  (((((((((((((((((h.m8.mI (by decide)).mI (by decide)).mI (by decide)).mI (by decide)).mI (by decide)).mI (by decide)).mI (by decide)).mI (by decide)).mI (by decide)).mI (by decide)).mI (by decide)).mI (by decide)).mI (by decide)).mI (by decide)).mD).mI (by decide)).mI (by decide)).mI (by decide)
theorem agV.op {c d : Nat} {pl r ch bt : Int32} (hne : d ≠ c) : agV V (vOp V c pl r ch bt) d :=
  ((((((((((((((((agV.rf.p (by decide) hne).p (by decide) hne).p (by decide) hne).p (by decide) hne).p (by decide) hne).p (by decide) hne).p (by decide) hne).p (by decide) hne).p (by decide) hne).p (by decide) hne).p (by decide) hne).p (by decide) hne).p (by decide) hne).p (by decide) hne).p (by decide) hne).p (by decide) hne).p (by decide) hne
theorem agG.op {Ui' : Nat → Nat → Int32} {Uj' : Nat → Nat → Int64} {Ua' : Nat → Nat → Int32} {c : Nat} {pl r ch bt : Int32} (h : agG Ui Uj Ua V W Ui' Uj' Ua' V W) : agG Ui Uj Ua V W Ui' Uj' Ua' (vOp V c pl r ch bt) W :=
  ((((((((((((((((h.v (by decide)).v (by decide)).v (by decide)).v (by decide)).v (by decide)).v (by decide)).v (by decide)).v (by decide)).v (by decide)).v (by decide)).v (by decide)).v (by decide)).v (by decide)).v (by decide)).v (by decide)).v (by decide)).v (by decide)
theorem RV.nw {S1 : Sw} {x kd : Nat} (hV : RV S E κ Ui Uj Ua V W D) (hx : sK S x = 0) (hn : exx x (nO S x kd) S1) : RV S1 E κ Ui Uj Ua V W D ∧ ∀ j, us κ j → E j ≠ x ∧ sK (nO S x kd) (E j) ≠ 0 := by
  have q : ∀ j, us κ j → E j ≠ x ∧ smA S (nO S x kd) (E j) := fun j hj => ⟨k_ne hx (hV.al hj), smA.rf.nO (k_ne hx (hV.al hj))⟩
  have q2 : ∀ j, us κ j → sK (nO S x kd) (E j) ≠ 0 := fun j hj => by rw [(q j hj).2.1]; exact hV.al hj
  exact ⟨hV.sm (fun j hj => (q j hj).2.tr (hn.1 (E j) (q j hj).1 (q2 j hj))), fun j hj => ⟨(q j hj).1, q2 j hj⟩⟩
theorem op_p {S1 : Sw} {x rr cv w L R oi : Nat} {ch bt : Int32} (hV : RV S E κ Ui Uj Ua V W D) (hk : k0 < 6) (h0 : κ k0 = 0) (hx : sK S x = 0) (hn : nPl (nO S x 5) S1 x (E 32) rr ch bt cv w L R oi) :
    ∃ (E' κ' : Nat → Nat) (Ui' : Nat → Nat → Int32) (Uj' : Nat → Nat → Int64) (Ua' : Nat → Nat → Int32), (∀ j, (j < 100 ∨ 800 < j) → E' j = E j) ∧ RV (wR S1 (E 34) k0 (some x)) E' κ' Ui' Uj' Ua' V W D ∧ κ' k0 = 1 ∧ (∀ d, d ≠ k0 → κ' d = κ d) ∧ agG Ui Uj Ua V W Ui' Uj' Ua' V W ∧ (∀ d, d < 6 → d ≠ k0 → agU Ui Uj Ua Ui' Uj' Ua' d) ∧
      ((Ui' (uc k0) 0 = ch ∧ Ui' (uc k0) 1 = bt ∧ Ui' (uc k0) 2 = 0 ∧ Ui' (uc k0) 3 = 0 ∧ Ui' (uc k0) 4 = 0 ∧ Ui' (uc k0) 508 = 256 ∧ Ui' (uc k0) 510 = 0 ∧ Ui' (uc k0) 511 = 0) ∧ (Uj' (uc k0) 512 = 0 ∧ Uj' (uc k0) 513 = 0 ∧ Uj' (uc k0) 514 = 0) ∧ (Uj' (uc k0 + 1) 101 = lN rr ∧ Uj' (uc k0 + 1) 102 = lN 48000) ∧ Uj' (uc k0 + 2) 202 = lN 0 ∧ ∀ i, Ua' (uc k0 + 5) i = 0) := by
  obtain ⟨n1, n2, n3, n4, n5, n6, n7, n8, ⟨z1, z2, z3, z4, z5⟩, d1, d2, d3⟩ := hn
  obtain ⟨hV1, hf⟩ := hV.nw hx n1
  have kx : sK S1 x = 5 := n1.2.trans nO_k
  have tx : sK (nO S x 5) x ≠ 0 := by rw [nO_k]; decide
  have x1 : x ≠ cv := k_ne z1 tx
  have x2 : x ≠ w := k_ne z2 tx
  have x3 : x ≠ L := k_ne z3 tx
  have x4 : x ≠ R := k_ne z4 tx
  have x5 : x ≠ oi := k_ne z5 tx
  have kc : sK S1 cv = 1 := n5.1
  have kw : sK S1 w = 2 := n6.1
  have kL : sK S1 L = 9 := n6.2.2.2.1.1
  have kR : sK S1 R = 9 := n6.2.2.2.2.1.1
  have ko : sK S1 oi = 9 := n7.1
  have c2 : cv ≠ w := fun e => by rw [e, kw] at kc; exact absurd kc (by decide)
  have c3 : cv ≠ L := fun e => by rw [e, kL] at kc; exact absurd kc (by decide)
  have c4 : cv ≠ R := fun e => by rw [e, kR] at kc; exact absurd kc (by decide)
  have c5 : cv ≠ oi := fun e => by rw [e, ko] at kc; exact absurd kc (by decide)
  have w3 : w ≠ L := fun e => by rw [e, kL] at kw; exact absurd kw (by decide)
  have w4 : w ≠ R := fun e => by rw [e, kR] at kw; exact absurd kw (by decide)
  have w5 : w ≠ oi := fun e => by rw [e, ko] at kw; exact absurd kw (by decide)
  obtain ⟨E', κ', Ui', Uj', Ua', r1, r2, r3, r4, r5, r6, r7⟩ := hV1.opn hk h0 1 6 (Or.inl ⟨rfl, rfl⟩) (N8 x cv w L R oi oi oi) x (by
      intro i hi j hj
      obtain ⟨f1, f2⟩ := hf j hj
      have : i = 0 ∨ i = 1 ∨ i = 2 ∨ i = 3 ∨ i = 4 ∨ i = 5 := by omega
      rcases this with rfl | rfl | rfl | rfl | rfl | rfl
      · exact f1
      · exact k_ne z1 f2
      · exact k_ne z2 f2
      · exact k_ne z3 f2
      · exact k_ne z4 f2
      · exact k_ne z5 f2) (by
      intro i j hi hj e
      have a : i = 0 ∨ i = 1 ∨ i = 2 ∨ i = 3 ∨ i = 4 ∨ i = 5 := by omega
      have b : j = 0 ∨ j = 1 ∨ j = 2 ∨ j = 3 ∨ j = 4 ∨ j = 5 := by omega
      rcases a with rfl | rfl | rfl | rfl | rfl | rfl <;> rcases b with rfl | rfl | rfl | rfl | rfl | rfl <;> simp only [N8] at e <;> first | rfl | exact absurd e (by assumption) | exact absurd e.symm (by assumption)) (by
      intro F hF h34 h32
      have e0 : F (uc k0) = x := hF 0 (by decide)
      refine Or.inl ⟨rfl, ?_⟩
      unfold pst
      rw [h34, h32, e0, hF 1 (by decide), hF 2 (by decide), hF 3 (by decide), hF 4 (by decide), hF 5 (by decide)]
      exact ⟨if_pos ⟨rfl, rfl⟩, kx, n4.1, n4.2.1, n4.2.2, ⟨kc, n5.2.1⟩, ⟨kw, n6.2.1, n6.2.2.1, n6.2.2.2.1, n6.2.2.2.2.1⟩, n7⟩)
  have q0 := r7 0 (by decide)
  have q1 := r7 1 (by decide)
  have q2 := r7 2 (by decide)
  have q5 := r7 5 (by decide)
  refine ⟨E', κ', Ui', Uj', Ua', r1, r2, r3, r4, r5, r6, ⟨(q0.1 _).trans n2.1, (q0.1 _).trans n2.2.1, (q0.1 _).trans n2.2.2.1, (q0.1 _).trans n2.2.2.2.1, (q0.1 _).trans n2.2.2.2.2.1, (q0.1 _).trans n2.2.2.2.2.2.1, (q0.1 _).trans n2.2.2.2.2.2.2.1, (q0.1 _).trans n2.2.2.2.2.2.2.2⟩, ⟨(q0.2.1 _).trans n3.1, (q0.2.1 _).trans n3.2.1, (q0.2.1 _).trans n3.2.2⟩, ⟨(q1.2.1 _).trans n5.2.2.1, (q1.2.1 _).trans n5.2.2.2⟩, (q2.2.1 _).trans n6.2.2.2.2.2, fun i => (q5.2.2 i).trans (n8 i)⟩
theorem op_q {S1 : Sw} {x rr cv w1 L1 R1 w2 L2 R2 : Nat} {ch bt : Int32} (hV : RV S E κ Ui Uj Ua V W D) (hk : k0 < 6) (h0 : κ k0 = 0) (hx : sK S x = 0) (hn : nLs (nO S x 4) S1 x (E 32) rr ch bt cv w1 L1 R1 w2 L2 R2) :
    ∃ (E' κ' : Nat → Nat) (Ui' : Nat → Nat → Int32) (Uj' : Nat → Nat → Int64) (Ua' : Nat → Nat → Int32), (∀ j, (j < 100 ∨ 800 < j) → E' j = E j) ∧ RV (wR S1 (E 34) k0 (some x)) E' κ' Ui' Uj' Ua' V W D ∧ κ' k0 = 2 ∧ (∀ d, d ≠ k0 → κ' d = κ d) ∧ agG Ui Uj Ua V W Ui' Uj' Ua' V W ∧ (∀ d, d < 6 → d ≠ k0 → agU Ui Uj Ua Ui' Uj' Ua' d) ∧
      ((Ui' (uc k0) 0 = ch ∧ Ui' (uc k0) 1 = bt ∧ Ui' (uc k0) 2 = 0 ∧ Ui' (uc k0) 3 = 0 ∧ Ui' (uc k0) 4 = 0) ∧ (Uj' (uc k0) 408 = 0 ∧ Uj' (uc k0) 409 = 0) ∧ (Uj' (uc k0 + 1) 101 = lN 48000 ∧ Uj' (uc k0 + 1) 102 = lN rr) ∧ Uj' (uc k0 + 2) 202 = lN 0 ∧ Uj' (uc k0 + 5) 202 = lN 0) := by
  obtain ⟨n1, n2, n3, n4, n5, n6, n7, ⟨z1, z2, z3, z4, z5, z6, z7⟩, d1, d2, d3, d4, d5, d6, d7⟩ := hn
  obtain ⟨hV1, hf⟩ := hV.nw hx n1
  have kx : sK S1 x = 4 := n1.2.trans nO_k
  have tx : sK (nO S x 4) x ≠ 0 := by rw [nO_k]; decide
  have x1 : x ≠ cv := k_ne z1 tx
  have x2 : x ≠ w1 := k_ne z2 tx
  have x3 : x ≠ L1 := k_ne z3 tx
  have x4 : x ≠ R1 := k_ne z4 tx
  have x5 : x ≠ w2 := k_ne z5 tx
  have x6 : x ≠ L2 := k_ne z6 tx
  have x7 : x ≠ R2 := k_ne z7 tx
  have kc : sK S1 cv = 1 := n5.1
  have kw : sK S1 w1 = 2 := n6.1
  have kL : sK S1 L1 = 9 := n6.2.2.2.1.1
  have kR : sK S1 R1 = 9 := n6.2.2.2.2.1.1
  have kw2 : sK S1 w2 = 2 := n7.1
  have kL2 : sK S1 L2 = 9 := n7.2.2.2.1.1
  have kR2 : sK S1 R2 = 9 := n7.2.2.2.2.1.1
  have c2 : cv ≠ w1 := fun e => by rw [e, kw] at kc; exact absurd kc (by decide)
  have c3 : cv ≠ L1 := fun e => by rw [e, kL] at kc; exact absurd kc (by decide)
  have c4 : cv ≠ R1 := fun e => by rw [e, kR] at kc; exact absurd kc (by decide)
  have c5 : cv ≠ w2 := fun e => by rw [e, kw2] at kc; exact absurd kc (by decide)
  have c6 : cv ≠ L2 := fun e => by rw [e, kL2] at kc; exact absurd kc (by decide)
  have c7 : cv ≠ R2 := fun e => by rw [e, kR2] at kc; exact absurd kc (by decide)
  have v3 : w1 ≠ L1 := fun e => by rw [e, kL] at kw; exact absurd kw (by decide)
  have v4 : w1 ≠ R1 := fun e => by rw [e, kR] at kw; exact absurd kw (by decide)
  have v6 : w1 ≠ L2 := fun e => by rw [e, kL2] at kw; exact absurd kw (by decide)
  have v7 : w1 ≠ R2 := fun e => by rw [e, kR2] at kw; exact absurd kw (by decide)
  have u3 : w2 ≠ L1 := fun e => by rw [e, kL] at kw2; exact absurd kw2 (by decide)
  have u4 : w2 ≠ R1 := fun e => by rw [e, kR] at kw2; exact absurd kw2 (by decide)
  have u6 : w2 ≠ L2 := fun e => by rw [e, kL2] at kw2; exact absurd kw2 (by decide)
  have u7 : w2 ≠ R2 := fun e => by rw [e, kR2] at kw2; exact absurd kw2 (by decide)
  obtain ⟨E', κ', Ui', Uj', Ua', r1, r2, r3, r4, r5, r6, r7⟩ := hV1.opn hk h0 2 8 (Or.inr ⟨rfl, rfl⟩) (N8 x cv w1 L1 R1 w2 L2 R2) x (by
      intro i hi j hj
      obtain ⟨f1, f2⟩ := hf j hj
      have : i = 0 ∨ i = 1 ∨ i = 2 ∨ i = 3 ∨ i = 4 ∨ i = 5 ∨ i = 6 ∨ i = 7 := by omega
      rcases this with rfl | rfl | rfl | rfl | rfl | rfl | rfl | rfl
      · exact f1
      · exact k_ne z1 f2
      · exact k_ne z2 f2
      · exact k_ne z3 f2
      · exact k_ne z4 f2
      · exact k_ne z5 f2
      · exact k_ne z6 f2
      · exact k_ne z7 f2) (by
      intro i j hi hj e
      have a : i = 0 ∨ i = 1 ∨ i = 2 ∨ i = 3 ∨ i = 4 ∨ i = 5 ∨ i = 6 ∨ i = 7 := by omega
      have b : j = 0 ∨ j = 1 ∨ j = 2 ∨ j = 3 ∨ j = 4 ∨ j = 5 ∨ j = 6 ∨ j = 7 := by omega
      rcases a with rfl | rfl | rfl | rfl | rfl | rfl | rfl | rfl <;> rcases b with rfl | rfl | rfl | rfl | rfl | rfl | rfl | rfl <;> simp only [N8] at e <;> first | rfl | exact absurd e (by assumption) | exact absurd e.symm (by assumption)) (by
      intro F hF h34 h32
      have e0 : F (uc k0) = x := hF 0 (by decide)
      refine Or.inr ⟨rfl, ?_⟩
      unfold lst
      rw [h34, h32, e0, hF 1 (by decide), hF 2 (by decide), hF 3 (by decide), hF 4 (by decide), hF 5 (by decide), hF 6 (by decide), hF 7 (by decide)]
      exact ⟨if_pos ⟨rfl, rfl⟩, kx, n4.1, n4.2.1, n4.2.2, ⟨kc, n5.2.1⟩, ⟨kw, n6.2.1, n6.2.2.1, n6.2.2.2.1, n6.2.2.2.2.1⟩, ⟨kw2, n7.2.1, n7.2.2.1, n7.2.2.2.1, n7.2.2.2.2.1⟩⟩)
  have q0 := r7 0 (by decide)
  have q1 := r7 1 (by decide)
  have q2 := r7 2 (by decide)
  have q5 := r7 5 (by decide)
  refine ⟨E', κ', Ui', Uj', Ua', r1, r2, r3, r4, r5, r6, ⟨(q0.1 _).trans n2.1, (q0.1 _).trans n2.2.1, (q0.1 _).trans n2.2.2.1, (q0.1 _).trans n2.2.2.2.1, (q0.1 _).trans n2.2.2.2.2⟩, ⟨(q0.2.1 _).trans n3.1, (q0.2.1 _).trans n3.2⟩, ⟨(q1.2.1 _).trans n5.2.2.1, (q1.2.1 _).trans n5.2.2.2⟩, (q2.2.1 _).trans n6.2.2.2.2.2, (q5.2.1 _).trans n7.2.2.2.2.2⟩
end
theorem isRt_rtN {r : Int32} (h : isRt r) : ∃ rr, rtN rr ∧ r = nI rr := by
  unfold isRt at h
  rcases h with rfl | rfl | rfl | rfl | rfl | rfl | rfl
  · exact ⟨8000, by unfold rtN; decide, rfl⟩
  · exact ⟨11025, by unfold rtN; decide, rfl⟩
  · exact ⟨16000, by unfold rtN; decide, rfl⟩
  · exact ⟨22050, by unfold rtN; decide, rfl⟩
  · exact ⟨32000, by unfold rtN; decide, rfl⟩
  · exact ⟨44100, by unfold rtN; decide, rfl⟩
  · exact ⟨48000, by unfold rtN; decide, rfl⟩
theorem lvl0 : FP.dconst0 = FP.ddiv (FP.l2d 0) 4631952216750555136 := by decide +kernel
section
variable {l : Launch} {G : GG} {b : Nat} {S : Sw} {k z out outD q : Nat}
theorem s_open (hst : l.stackTraces = false) (h : Rl S k z out outD q) (hq : q < 512) (pl r0 ch bt : Int32) (hb : pl = 0 ∨ pl = 1) : St2 z (CtW l G b yL_open cL_open 7 (some .int) [(0, 14, 17, 13), (0, 14, 21, 15)] rmL_open mI [.ref k, .int pl, .int r0, .int ch, .int bt, .ref out] S) (fun T => Ct l G b yX8_open cX8_open 7 (some .int) rmX8_open mI [.ref z, .int pl, .int r0, .int ch, .int bt] T) (FinI k z out outD q) := by
  obtain ⟨E, κ, Ui, Uj, Ua, V, W, D, o, np, rp, m, rfl, rfl, rfl, rfl, hV, hR⟩ := h
  have hx : ∀ i, i < 6 → ¬ V 802 i = 0 → ∃ x, aR S (E 34) i = some x := by
    intro i hi hth
    rcases cl_at hV hR hi hth with ⟨-, hs, -⟩ | ⟨-, hs, -⟩
    · exact ⟨_, hs.1⟩
    · exact ⟨_, hs.1⟩
  have e2 : ∀ i, aI S (E 802) i = V 802 i := fun i => hV.m (by decide) i
  by_cases hok : opOk r0 ch bt
  · obtain ⟨rr, hr, rfl⟩ := isRt_rtN hok.1
    have hch := ch12 hok.2.1
    by_cases hfr : ∃ i, i < 6 ∧ V 802 i = 0
    · obtain ⟨i0, hi0, hz0⟩ := hfr
      obtain ⟨k0, g1, g2, g3⟩ := leastN (fun i => ¬ V 802 i = 0) i0 (fun h => h hz0)
      have hz := Classical.not_not.mp g3
      have hk0 : k0 < 6 := by omega
      obtain ⟨c1, c2⟩ := cl_free hV hR hk0 hz
      have zr : zrP V k0 rp := by
        rcases hR.2 k0 hk0 with ⟨-, -, h3⟩ | ⟨h1, -⟩ | ⟨h1, -⟩
        · exact h3
        · rw [c1] at h1; exact absurd h1 (by decide)
        · rw [c1] at h1; exact absurd h1 (by decide)
      have h32 : fR S 700 (E 30) = some (E 32) := hV.2.1.1.1.2.1
      by_cases hp : pl = 0
      · have hM := c_open_q (l := l) (G := G) (b := b) hst S (E 30) (E 34) hV.k7 hV.cl hV.ic pl ch bt rr hr hch hok.2.2 k0 hk0 (fun i hi => hx i (by omega) (g2 i hi)) c2 (E 32) h32 hp
        refine ⟨_, l_open_y hst S (E 30) hV.k7 pl _ ch bt (E 901) _ hM ?_, ?_⟩
        · rintro v T ⟨⟨x, S1, cv, w1, L1, R1, w2, L2, R2, hxx, hn, rfl⟩, -⟩
          obtain ⟨E', κ', Ui', Uj', Ua', r1, r2, -⟩ := op_q hV hk0 c1 hxx hn
          have := r2.oL
          rw [r1 901 (by decide)] at this
          exact this
        · rintro r T ⟨rfl, v1, T1, ⟨⟨x, S1, cv, w1, L1, R1, w2, L2, R2, hxx, hn, rfl⟩, rfl⟩, rfl⟩
          obtain ⟨E', κ', Ui', Uj', Ua', r1, r2, r3, r4, r5, r6, ⟨f1, f2, f3, f4, f5⟩⟩ := op_q hV hk0 c1 hxx hn
          have e900 := r1 900 (by decide)
          have hVo := r2.oJ (k := 0) (v := (nI k0).toInt64)
          rw [r1 901 (by decide)] at hVo
          have ly := hVo.ly
          rw [e900] at ly
          refine ⟨_, m_open_y hst _ (E 900) E' ly pl (nI rr) ch bt hok (bool_n hb).2.2 k0 hk0 (fun i hi => by rw [hVo.m (by decide)]; exact g2 i hi) ((hVo.m (by decide) k0).trans hz), by have := hVo.z8; rw [e900] at this; exact this, ?_⟩
          rintro w T' ⟨rfl, rfl⟩
          have hVm := hVo.opM (c := k0) (pl := pl) (r := nI rr) (ch := ch) (bt := bt)
          rw [e900] at hVm
          refine ⟨?_, fun _ => ?_, E', κ', Ui', Uj', Ua', _, _, _, o, np, rp, m, r1 30 (by decide), e900, r1 901 (by decide), r1 902 (by decide), hVm, ?_⟩
          · simp only [mOpn, fI_wI, fI_wD]; exact fI800
          · simp only [mOpn, aJ_wI, aJ_wD]; exact aJ_out
          · refine hR.one (c := k0) (by omega) r5.op (fun d _ hne => r4 d hne) (fun d hd hne => ⟨r6 d hd hne, agV.op hne, if_neg hne⟩) (Or.inr (Or.inr ⟨r3, by simp [vOp, uq2], by simp [vOp, uq2, hp], ?_, 0, 0, rr, 0, 0, ?_⟩))
            · intro p hpp; have := zr p hpp; simpa [vOp, uq2] using this
            · refine ⟨⟨hr, by simp [vOp, uq2], f3.1, f3.2⟩, ⟨by rw [f1.1]; simp [vOp, uq2], by rw [f1.2.1]; simp [vOp, uq2], by rw [f1.2.2.1]; simp [vOp, uq2], by rw [f1.2.2.2.1]; simp [vOp, uq2], by rw [f1.2.2.2.2]; simp [vOp, uq2]⟩, ⟨f4, by simp [vOp, uq2, nI_0], by omega⟩, ⟨f2.1, by simp [vOp, uq2, nI_0], by omega⟩, ⟨f2.2, by simp [vOp, uq2, nI_0], f5, by simp [vOp, uq2, nI_0], by omega, by omega⟩, fun i hi => absurd hi (by omega), fun i hi => absurd hi (by omega), by omega, ⟨by simpa [vOp, uq2] using hch, by simpa [vOp, uq2] using hok.2.2⟩, by simp [vOp, uq2], by simp [vOp, uq2]⟩
      · have hM := c_open_p (l := l) (G := G) (b := b) hst S (E 30) (E 34) hV.k7 hV.cl hV.ic pl ch bt rr hr hch hok.2.2 k0 hk0 (fun i hi => hx i (by omega) (g2 i hi)) c2 (E 32) h32 hp
        refine ⟨_, l_open_y hst S (E 30) hV.k7 pl _ ch bt (E 901) _ hM ?_, ?_⟩
        · rintro v T ⟨⟨x, S1, cv, w, L, R, oi, hxx, hn, rfl⟩, -⟩
          obtain ⟨E', κ', Ui', Uj', Ua', r1, r2, -⟩ := op_p hV hk0 c1 hxx hn
          have := r2.oL
          rw [r1 901 (by decide)] at this
          exact this
        · rintro r T ⟨rfl, v1, T1, ⟨⟨x, S1, cv, w, L, R, oi, hxx, hn, rfl⟩, rfl⟩, rfl⟩
          obtain ⟨E', κ', Ui', Uj', Ua', r1, r2, r3, r4, r5, r6, ⟨f1, f2, f3, f4, f5⟩⟩ := op_p hV hk0 c1 hxx hn
          have e900 := r1 900 (by decide)
          have hVo := r2.oJ (k := 0) (v := (nI k0).toInt64)
          rw [r1 901 (by decide)] at hVo
          have ly := hVo.ly
          rw [e900] at ly
          refine ⟨_, m_open_y hst _ (E 900) E' ly pl (nI rr) ch bt hok (bool_n hb).2.2 k0 hk0 (fun i hi => by rw [hVo.m (by decide)]; exact g2 i hi) ((hVo.m (by decide) k0).trans hz), by have := hVo.z8; rw [e900] at this; exact this, ?_⟩
          rintro w T' ⟨rfl, rfl⟩
          have hVm := hVo.opM (c := k0) (pl := pl) (r := nI rr) (ch := ch) (bt := bt)
          rw [e900] at hVm
          refine ⟨?_, fun _ => ?_, E', κ', Ui', Uj', Ua', _, _, _, o, np, rp, m, r1 30 (by decide), e900, r1 901 (by decide), r1 902 (by decide), hVm, ?_⟩
          · simp only [mOpn, fI_wI, fI_wD]; exact fI800
          · simp only [mOpn, aJ_wI, aJ_wD]; exact aJ_out
          · refine hR.one (c := k0) (by omega) r5.op (fun d _ hne => r4 d hne) (fun d hd hne => ⟨r6 d hd hne, agV.op hne, if_neg hne⟩) (Or.inr (Or.inl ⟨r3, by simp [vOp, uq2], by simp [vOp, uq2, hp], 0, 0, 0, rr, ?_⟩))
            refine ⟨⟨hr, by simp [vOp, uq2], f3.1, f3.2⟩, ⟨by rw [f1.1]; simp [vOp, uq2], by rw [f1.2.1]; simp [vOp, uq2], by rw [f1.2.2.1]; simp [vOp, uq2], by rw [f1.2.2.2.1]; simp [vOp, uq2], by rw [f1.2.2.2.2.1]; simp [vOp, uq2], by rw [f1.2.2.2.2.2.1]; simp [vOp, uq2], by simp [vOp, uq2], by rw [f1.2.2.2.2.2.2.1]; simp [vOp, uq2], by rw [f1.2.2.2.2.2.2.2]; simp [vOp, uq2]⟩, ⟨f2.1, by simp [vOp, uq2, nI_0], by omega⟩, ⟨f2.2.1, by simp [vOp, uq2, nI_0], by omega⟩, by rw [f2.2.2, ← lvl0]; exact if_pos rfl, ⟨f4, by simp [vOp, uq2, nI_0], by omega⟩, fun i hi => absurd hi (by omega), ?_, by omega, ⟨by simpa [vOp, uq2] using hch, by simpa [vOp, uq2] using hok.2.2⟩, by simp [vOp, uq2], by simp [vOp, uq2]⟩
            intro p hpp
            have := zr p hpp
            have e7 : vOp V k0 pl (nI rr) ch bt 827 (6 * p + k0) = 0 := by simpa [vOp, uq2] using this
            rw [f5, e7]; exact ⟨rfl, Or.inl rfl⟩
    · have hfull : ∀ i, i < 6 → ¬ V 802 i = 0 := fun i hi e => hfr ⟨i, hi, e⟩
      exact rejI hV hR hq 2 0 (by decide) (l_open_t2 hst S (E 30) hV.k7 _ _ _ _ (E 901) (c_open_f hst S (E 30) (E 34) hV.k7 hV.cl hV.ic pl ch bt rr hr hch hok.2.2 (fun i hi => hx i hi (hfull i hi)))) (m_open_f hst S (E 900) E hV.ly pl (nI rr) ch bt hok (fun i hi => by rw [e2]; exact hfull i hi))
  · have hA := l_open_t1 (l := l) (G := G) (b := b) hst S (E 30) hV.k7 pl r0 ch bt (E 901) (c_open_n hst S (E 30) (E 34) hV.k7 hV.cl hV.ic pl r0 ch bt hok)
    by_cases hfr : ∃ i, i < 6 ∧ V 802 i = 0
    · obtain ⟨i0, hi0, hz0⟩ := hfr
      obtain ⟨k0, g1, g2, g3⟩ := leastN (fun i => ¬ V 802 i = 0) i0 (fun h => h hz0)
      exact rejI hV hR hq 1 0 (by decide) hA (m_open_n1 hst S (E 900) E hV.ly pl r0 ch bt hok k0 (by omega) (fun i hi => by rw [e2]; exact g2 i hi) ((e2 k0).trans (Classical.not_not.mp g3)))
    · exact rejI hV hR hq 1 0 (by decide) hA (m_open_n2 hst S (E 900) E hV.ly pl r0 ch bt hok (fun i hi => by rw [e2]; exact fun e => hfr ⟨i, hi, e⟩))
end
