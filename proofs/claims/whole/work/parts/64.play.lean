/-! ===== card: what is played ===== -/
theorem uqR_ne {α : Type} {U : Nat → Nat → α} {j a : Nat} {r : Nat → α} (h : a ≠ j) : uqR U j r a = U a := if_neg h
theorem uqR_eq {α : Type} {U : Nat → Nat → α} {j : Nat} {r : Nat → α} : uqR U j r j = r := if_pos rfl
def vP1 (V : Nat → Nat → Int32) : Nat → Nat → Int32 := uqR (uqR (uqR (uqR (uqR (uqR V 828 (pw (V 825) (sh24 (V 828) 23) 24)) 829 (pw (V 826) (sh24 (V 829) 23) 24)) 818 (pw (fun k => V 818 k + V 827 k) (V 818) 6)) 825 (pw (fun k => V 825 (k + 24)) (V 825) 72)) 826 (pw (fun k => V 826 (k + 24)) (V 826) 72)) 827 (pw (fun k => V 827 (k + 6)) (V 827) 18)
def vP0 (V : Nat → Nat → Int32) : Nat → Nat → Int32 := uqR (uqR V 828 (pw (fun _ => 0) (sh24 (V 828) 23) 24)) 829 (pw (fun _ => 0) (sh24 (V 829) 23) 24)
section
variable {V : Nat → Nat → Int32}
theorem vP1_o {f : Nat} (h : f ≠ 828 ∧ f ≠ 829 ∧ f ≠ 818 ∧ f ≠ 825 ∧ f ≠ 826 ∧ f ≠ 827) : vP1 V f = V f := (((((uqR_ne h.2.2.2.2.2).trans (uqR_ne h.2.2.2.2.1)).trans (uqR_ne h.2.2.2.1)).trans (uqR_ne h.2.2.1)).trans (uqR_ne h.2.1)).trans (uqR_ne h.1)
theorem vP1_28 : vP1 V 828 = pw (V 825) (sh24 (V 828) 23) 24 := by simp [vP1, uqR]
theorem vP1_29 : vP1 V 829 = pw (V 826) (sh24 (V 829) 23) 24 := by simp [vP1, uqR]
theorem vP1_18 : vP1 V 818 = pw (fun k => V 818 k + V 827 k) (V 818) 6 := by simp [vP1, uqR]
theorem vP1_25 : vP1 V 825 = pw (fun k => V 825 (k + 24)) (V 825) 72 := by simp [vP1, uqR]
theorem vP1_26 : vP1 V 826 = pw (fun k => V 826 (k + 24)) (V 826) 72 := by simp [vP1, uqR]
theorem vP1_27 : vP1 V 827 = pw (fun k => V 827 (k + 6)) (V 827) 18 := by simp [vP1, uqR]
theorem vP0_o {f : Nat} (h : f ≠ 828 ∧ f ≠ 829) : vP0 V f = V f := (uqR_ne h.2).trans (uqR_ne h.1)
theorem vP0_28 : vP0 V 828 = pw (fun _ => 0) (sh24 (V 828) 23) 24 := by simp [vP0, uqR]
theorem vP0_29 : vP0 V 829 = pw (fun _ => 0) (sh24 (V 829) 23) 24 := by simp [vP0, uqR]
theorem sh24_p {o : Nat → Int32} {p j : Nat} (hp : 0 < p) (hp4 : p < 4) (hj : j < 24) : sh24 o 23 (24 * p + j) = o (24 * (p - 1) + j) := (if_pos ⟨by omega, by omega⟩).trans (by rw [show 24 * p + j - 24 = 24 * (p - 1) + j by omega])
end
section
variable {κ : Nat → Nat} {Ui Ui' : Nat → Nat → Int32} {Uj Uj' : Nat → Nat → Int64} {Ua Ua' : Nat → Nat → Int32} {V V' : Nat → Nat → Int32} {W : Nat → Int32} {D : Nat → UInt64} {c o np rp m q n nx hd rr h rk rd wh : Nat}
theorem lsP.fe (hf : ∀ f, f ∈ [801, 804, 805, 806, 808, 809, 810, 811, 812, 813, 820, 821, 822, 823] → V' f = V f) (g : lsP Ui Uj Ua V c q h rk rr rd wh) : lsP Ui Uj Ua V' c q h rk rr rd wh := by
  have eg : ∀ rt, gV V' c h rt = gV V c h rt := fun rt => gV_c (hf 811 (by decide)) (hf 812 (by decide))
  unfold lsP at *
  simp only [eg, hf 801 (by decide), hf 804 (by decide), hf 805 (by decide), hf 806 (by decide), hf 808 (by decide), hf 809 (by decide), hf 810 (by decide), hf 811 (by decide), hf 812 (by decide), hf 813 (by decide), hf 820 (by decide), hf 821 (by decide), hf 822 (by decide), hf 823 (by decide)]
  exact g
theorem plP.play (g : plP Ui Uj Ua V D c o rp q n nx hd rr) (hc : c < 6) (h0 : 0 < rp) (hrp : rp ≤ 4) (ho : o < 4) (hUi : ∀ f, Ui' (uc c) f = Ui (uc c) f) (hU0 : ∀ a f, f ≠ 513 → Uj' a f = Uj a f) (hU3 : Uj' (uc c) 513 = Uj (uc c) 513 + (Ua (uc c + 5) o).toInt64) (hUa : ∀ i, i < 20 → ∀ x, Ua' (uc c + i) x = Ua (uc c + i) x) : ∃ hd', plP Ui' Uj' Ua' (vP1 V) D c ((o + 1) % 4) (rp - 1) (q + 1) n nx hd' rr := by
  obtain ⟨h1, h2, h3, h4, h5, h6, h7, h8, h9, h10, h11, h12⟩ := g
  have v : ∀ f, f ≠ 828 ∧ f ≠ 829 ∧ f ≠ 818 ∧ f ≠ 825 ∧ f ≠ 826 ∧ f ≠ 827 → vP1 V f = V f := fun f hf => vP1_o hf
  have e0 := h8 0 h0
  rw [show (o + 0) % 4 = o by omega, show 6 * 0 + c = c by omega] at e0
  have e18 : vP1 V 818 c = V 818 c + V 827 c := by rw [vP1_18, pw_lt hc]
  have mk : ∀ hd', Uj (uc c) 513 + (Ua (uc c + 5) o).toInt64 = lN hd' → V 818 c + V 827 c = nI hd' → hd' ≤ 24 * (q + 1) → plP Ui' Uj' Ua' (vP1 V) D c ((o + 1) % 4) (rp - 1) (q + 1) n nx hd' rr := by
    intro hd' a1 a2 a3
    refine ⟨?_, ?_, ?_, ?_, ?_, ?_, ?_, ?_, h9, ?_, ?_, ?_⟩
    · rw [v 804 (by decide), hU0 _ _ (by decide), hU0 _ _ (by decide)]; exact h1
    · simp only [hUi, v 805 (by decide), v 806 (by decide), v 808 (by decide), v 809 (by decide), v 813 (by decide), v 807 (by decide), v 814 (by decide), v 816 (by decide), v 817 (by decide)]; exact h2
    · rw [hU0 _ _ (by decide), v 815 (by decide)]; exact ⟨h3.1, h3.2.1, by omega⟩
    · exact ⟨hU3.trans a1, e18.trans a2, a3⟩
    · rw [hU0 _ _ (by decide)]; exact h5
    · rw [hU0 _ _ (by decide), v 810 (by decide)]; exact ⟨h6.1, h6.2.1, by omega⟩
    · intro i hi hi2
      rw [hUa 3 (by decide), hUa 4 (by decide), v 811 (by decide), v 812 (by decide)]; exact h7 i hi hi2
    · intro p hp
      have := h8 (p + 1) (by omega)
      rw [hUa 5 (by decide), vP1_27, pw_lt (by omega), show ((o + 1) % 4 + p) % 4 = (o + (p + 1)) % 4 by omega, show 6 * p + c + 6 = 6 * (p + 1) + c by omega]
      exact this
    · rw [v 805 (by decide), v 806 (by decide)]; exact h10
    · rw [v 813 (by decide), v 805 (by decide)]; exact h11
    · rw [v 808 (by decide)]; exact h12
  rw [e0.1, h4.1, h4.2.1] at mk
  rcases e0.2 with e | e
  · rw [e] at mk
    exact ⟨hd, mk hd (by rw [show (0 : Int32).toInt64 = lN 0 from rfl, lN_add]; rfl) (by rw [show (0 : Int32) = nI 0 from rfl, nI_add]; rfl) (by omega)⟩
  · rw [e] at mk
    exact ⟨hd + 24, mk (hd + 24) (by rw [show (24 : Int32).toInt64 = lN 24 from rfl, lN_add]) (by rw [show (24 : Int32) = nI 24 from rfl, nI_add]) (by omega)⟩
theorem play_g (g : glP Ui Uj Ua V W o np rp m q) (h0 : 0 < rp) (hj : Uj' 33 303 = Uj 33 303) : glP (uq2 (uq2 (uq2 Ui 30 707 (nI ((np + 1) % 4))) 30 704 (nI ((o + 1) % 4))) 30 705 (nI (rp - 1))) Uj' (uqR Ua (20 + (np + 1) % 4) (fun i => if i < 48 then Ua (10 + o) i else Ua (20 + (np + 1) % 4) i)) (vP1 V) (uq1 W 824 (nI (rp - 1))) ((o + 1) % 4) ((np + 1) % 4) (rp - 1) m (q + 1) := by
  obtain ⟨h1, h2, h3, h4, h5, h6⟩ := g
  have v : ∀ f, f ≠ 828 ∧ f ≠ 829 ∧ f ≠ 818 ∧ f ≠ 825 ∧ f ≠ 826 ∧ f ≠ 827 → vP1 V f = V f := fun f hf => vP1_o hf
  refine ⟨⟨by simp [uq2], by omega, by simp [uq2], by omega, by simp [uq2], by omega, by simp [uq1]⟩, ⟨by simpa [uq2, uq1] using h2.1, by simpa [uq1] using h2.2.1, by simpa [uq2, uq1] using h2.2.2.1, by simpa [uq2, uq1] using h2.2.2.2.1, hj.trans h2.2.2.2.2.1, by simpa [uq1] using h2.2.2.2.2.2.1, by have := h2.2.2.2.2.2.2; omega⟩, ?_, ?_, ?_, ?_⟩
  · intro i hi; rw [uqR_ne (by omega), v 801 (by decide)]; exact h3 i hi
  · intro p hp j hj
    have := h4 (p + 1) (by omega) j hj
    rw [uqR_ne (by omega), vP1_25, vP1_26, pw_lt (by omega), pw_lt (by omega), show ((o + 1) % 4 + p) % 4 = (o + (p + 1)) % 4 by omega, show 24 * p + j + 24 = 24 * (p + 1) + j by omega]
    exact this
  · intro p hp j hj
    by_cases e : p = 0
    · subst e
      have := h4 0 h0 j hj
      rw [show ((np + 1) % 4 + 4 - 0) % 4 = (np + 1) % 4 by omega, uqR_eq, if_pos (by omega), if_pos (by omega), vP1_28, vP1_29, pw_lt (by omega), pw_lt (by omega)]
      have ho := h1.2.1
      rw [show (o + 0) % 4 = o by omega] at this
      exact this
    · have := h5 (p - 1) (by omega) j hj
      rw [uqR_ne (by omega), vP1_28, vP1_29, pw_ge (by omega), pw_ge (by omega), sh24_p (by omega) hp hj, sh24_p (by omega) hp hj, show ((np + 1) % 4 + 4 - p) % 4 = (np + 4 - (p - 1)) % 4 by omega]
      exact this
  · intro j hj; rw [uqR_ne (by omega), v 830 (by decide), v 831 (by decide)]; exact h6 j hj
theorem play_g0 {r : Nat → Int32} (g : glP Ui Uj Ua V W o np 0 m q) (hr : ∀ i, i < 48 → r i = 0) : glP (uq2 Ui 30 707 (nI ((np + 1) % 4))) Uj (uqR Ua (20 + (np + 1) % 4) r) (vP0 V) W o ((np + 1) % 4) 0 m (q + 1) := by
  obtain ⟨h1, h2, h3, h4, h5, h6⟩ := g
  have v : ∀ f, f ≠ 828 ∧ f ≠ 829 → vP0 V f = V f := fun f hf => vP0_o hf
  refine ⟨⟨by simpa [uq2] using h1.1, h1.2.1, by simpa [uq2] using h1.2.2.1, by omega, by simp [uq2], by omega, h1.2.2.2.2.2.2⟩, ⟨by simpa [uq2, uq1] using h2.1, by simpa [uq1] using h2.2.1, by simpa [uq2, uq1] using h2.2.2.1, by simpa [uq2, uq1] using h2.2.2.2.1, h2.2.2.2.2.1, by simpa [uq1] using h2.2.2.2.2.2.1, by have := h2.2.2.2.2.2.2; omega⟩, ?_, fun p hp => absurd hp (by omega), ?_, ?_⟩
  · intro i hi; rw [uqR_ne (by omega), v 801 (by decide)]; exact h3 i hi
  · intro p hp j hj
    by_cases e : p = 0
    · subst e
      rw [show ((np + 1) % 4 + 4 - 0) % 4 = (np + 1) % 4 by omega, uqR_eq, hr _ (by omega), hr _ (by omega), vP0_28, vP0_29, pw_lt (by omega), pw_lt (by omega)]
      exact ⟨rfl, rfl⟩
    · have := h5 (p - 1) (by omega) j hj
      rw [uqR_ne (by omega), vP0_28, vP0_29, pw_ge (by omega), pw_ge (by omega), sh24_p (by omega) hp hj, sh24_p (by omega) hp hj, show ((np + 1) % 4 + 4 - p) % 4 = (np + 4 - (p - 1)) % 4 by omega]
      exact this
  · intro j hj; rw [uqR_ne (by omega), v 830 (by decide), v 831 (by decide)]; exact h6 j hj
theorem agV.x {d : Nat} (h : ∀ f, f ≠ 828 → f ≠ 829 → V' f = V f) : agV V V' d :=
  ⟨fun f hf => by rw [h f (fun e => by rw [e] at hf; revert hf; decide) (fun e => by rw [e] at hf; revert hf; decide)], fun i _ => by rw [h 811 (by decide) (by decide), h 812 (by decide) (by decide), h 822 (by decide) (by decide)]; exact ⟨rfl, rfl, rfl⟩, fun p _ => by rw [h 827 (by decide) (by decide)], h 801 (by decide) (by decide)⟩
end
section
variable {l : Launch} {G : GG} {b : Nat} {S : Sw} {E κ : Nat → Nat} {Ui : Nat → Nat → Int32} {Uj : Nat → Nat → Int64} {Ua : Nat → Nat → Int32} {V : Nat → Nat → Int32} {W : Nat → Int32} {D : Nat → UInt64} {o : Nat}
theorem play_C (hst : l.stackTraces = false) (hV : RV S E κ Ui Uj Ua V W D) (ho : o < 4) (h4 : Ui 30 704 = nI o) (c : Nat) (hc : c ≤ 6) : ∃ X : Nat → Sw, X 0 = S ∧ (∀ d, d < c → ops l G b (E 30) (E 34) o (X d) (X (d + 1)) d) ∧ ∃ Uj' : Nat → Nat → Int64, RV (X c) E κ Ui Uj' Ua V W D ∧ (∀ a f, (f ≠ 513 ∨ ∀ d, d < 6 → κ d = 1 → a ≠ uc d) → Uj' a f = Uj a f) ∧ (∀ d, d < 6 → κ d = 1 → (d < c → Uj' (uc d) 513 = Uj (uc d) 513 + (Ua (uc d + 5) o).toInt64) ∧ (c ≤ d → Uj' (uc d) 513 = Uj (uc d) 513)) := by
  induction c with
  | zero => exact ⟨fun _ => S, rfl, fun d hd => absurd hd (by omega), Uj, hV, fun _ _ _ => rfl, fun d _ _ => ⟨fun h => absurd h (by omega), fun _ => rfl⟩⟩
  | succ c ih =>
    obtain ⟨X, hX0, hXs, Uj', hX, hj, hd⟩ := ih (by omega)
    have hc6 : c < 6 := by omega
    have km : kM (X c) (E 30) (E 34) o := ⟨hX.k7, hX.cl, hX.ic, (hX.i (us.b (by decide)) (by decide) 704).trans h4⟩
    have same : κ c ≠ 1 → ops l G b (E 30) (E 34) o (X c) (X c) c → ∃ X : Nat → Sw, X 0 = S ∧ (∀ d, d < c + 1 → ops l G b (E 30) (E 34) o (X d) (X (d + 1)) d) ∧ ∃ Uj' : Nat → Nat → Int64, RV (X (c + 1)) E κ Ui Uj' Ua V W D ∧ (∀ a f, (f ≠ 513 ∨ ∀ d, d < 6 → κ d = 1 → a ≠ uc d) → Uj' a f = Uj a f) ∧ (∀ d, d < 6 → κ d = 1 → (d < c + 1 → Uj' (uc d) 513 = Uj (uc d) 513 + (Ua (uc d + 5) o).toInt64) ∧ (c + 1 ≤ d → Uj' (uc d) 513 = Uj (uc d) 513)) := by
      intro hk hs
      obtain ⟨X', a1, a2, a3⟩ := ch_ext hXs hs
      refine ⟨X', a1.trans hX0, a2, Uj', by rw [a3]; exact hX, hj, fun d hd6 h1 => ⟨fun h => (hd d hd6 h1).1 ?_, fun h => (hd d hd6 h1).2 (by omega)⟩⟩
      have : d ≠ c := fun e => hk (by rw [← e]; exact h1)
      omega
    rcases hX.2.1.2 c hc6 with ⟨k1, p⟩ | ⟨k1, p⟩ | ⟨k1, p⟩
    · exact same (by rw [k1]; decide) ⟨km, Or.inl ⟨p, rfl⟩⟩
    · have u0 := pl_0 hc6 k1
      have u5 := pl_u (i := 5) hc6 k1 (by decide)
      have hM := c_markHeard (l := l) (G := G) (b := b) hst (X c) (E (uc c)) p.2.1 (E (uc c + 5)) o p.2.2.2.2.1 p.2.2.2.2.2.2.2 ho
      rw [hX.jj u0.1 u0.2, hX.a u5.1 u5.2] at hM
      obtain ⟨X', a1, a2, a3⟩ := ch_ext hXs (show ops l G b (E 30) (E 34) o (X c) _ c from ⟨km, Or.inr (Or.inr ⟨_, p.1, p.2.1, hM⟩)⟩)
      refine ⟨X', a1.trans hX0, a2, _, by rw [a3]; exact hX.cJ u0.1 u0.2, fun a f hf => (uq2_ne (hf.elim Or.inr (fun h => Or.inl (h c hc6 k1)))).trans (hj a f hf), fun d hd6 h1 => ⟨fun h => ?_, fun h => ?_⟩⟩
      · by_cases e : d = c
        · rw [e, uq2_eq, (hd c hc6 k1).2 (Nat.le_refl _)]
        · rw [uq2_ne (Or.inl (by unfold uc; omega))]; exact (hd d hd6 h1).1 (by omega)
      · rw [uq2_ne (Or.inl (by unfold uc; omega))]; exact (hd d hd6 h1).2 (by omega)
    · exact same (by rw [k1]; decide) ⟨km, Or.inr (Or.inl ⟨_, p.1, p.2.1, rfl⟩)⟩
theorem play_M1 {T : Sw} (hV : RV T E κ Ui Uj Ua V W D) : RV (mShR (mPl1 (uI T 800 (E 900) 0) E) (E 900) E) E κ Ui Uj Ua (vP1 V) (uq1 W 824 (W 824 - 1)) D := by
  have h8 := hV.m8 (v := 0)
  have hP : RV (mPl1 (uI T 800 (E 900) 0) E) E κ Ui Uj Ua (uqR (uqR (uqR V 828 (pw (V 825) (sh24 (V 828) 23) 24)) 829 (pw (V 826) (sh24 (V 829) 23) 24)) 818 (pw (fun k => V 818 k + V 827 k) (V 818) 6)) W D := by
    unfold mPl1 T2
    rw [show aI (uI T 800 (E 900) 0) (E 825) = V 825 from funext (h8.m (by decide)), show aI (uI T 800 (E 900) 0) (E 826) = V 826 from funext (h8.m (by decide)), show aI (uI T 800 (E 900) 0) (E 827) = V 827 from funext (h8.m (by decide)), show aI (uI T 800 (E 900) 0) (E 828) = V 828 from funext (h8.m (by decide)), show aI (uI T 800 (E 900) 0) (E 829) = V 829 from funext (h8.m (by decide)), show aI (uI T 800 (E 900) 0) (E 818) = V 818 from funext (h8.m (by decide))]
    exact ((h8.mIs (by decide)).mIs (by decide)).mIs (by decide)
  unfold mShR T2
  rw [show aI (mPl1 (uI T 800 (E 900) 0) E) (E 825) = V 825 from funext (fun i => (hP.m (by decide) i).trans (by simp [uqR])), show aI (mPl1 (uI T 800 (E 900) 0) E) (E 826) = V 826 from funext (fun i => (hP.m (by decide) i).trans (by simp [uqR])), show aI (mPl1 (uI T 800 (E 900) 0) E) (E 827) = V 827 from funext (fun i => (hP.m (by decide) i).trans (by simp [uqR])), hP.w (by decide)]
  exact ((hP.mU.mIs (by decide)).mIs (by decide)).mIs (by decide)
theorem play_M0 {T : Sw} (hV : RV T E κ Ui Uj Ua V W D) : RV (mPl0 (uI T 800 (E 900) 0) E) E κ Ui Uj Ua (vP0 V) W D := by
  have h8 := hV.m8 (v := 0)
  unfold mPl0 T2
  rw [show aI (uI T 800 (E 900) 0) (E 828) = V 828 from funext (h8.m (by decide)), show aI (uI T 800 (E 900) 0) (E 829) = V 829 from funext (h8.m (by decide))]
  exact (h8.mIs (by decide)).mIs (by decide)
end
