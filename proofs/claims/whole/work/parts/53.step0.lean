/-! ===== steps: what a call does to both sides ===== -/
def Rl (S : Sw) (k z out outD q : Nat) : Prop := ∃ (E κ : Nat → Nat) (Ui : Nat → Nat → Int32) (Uj : Nat → Nat → Int64) (Ua : Nat → Nat → Int32) (V : Nat → Nat → Int32) (W : Nat → Int32) (D : Nat → UInt64) (o np rp mm : Nat), E 30 = k ∧ E 900 = z ∧ E 901 = out ∧ E 902 = outD ∧ RV S E κ Ui Uj Ua V W D ∧ Rp κ Ui Uj Ua V W D o np rp mm q
theorem us.p0 {κ : Nat → Nat} {c : Nat} (hc : c < 6) (hk : κ c = 1) : us κ (uc c) := us.p (i := 0) hc hk (by omega)
theorem us.l0 {κ : Nat → Nat} {c : Nat} (hc : c < 6) (hk : κ c = 2) : us κ (uc c) := us.l (i := 0) hc hk (by omega)
theorem uc_lt {c : Nat} (hc : c < 6) : uc c + 20 ≤ 220 := by unfold uc; omega
theorem uc_ge (c : Nat) : 100 ≤ uc c := by unfold uc; omega
theorem uc_ne {c d : Nat} (h : d ≠ c) (i : Nat) (hi : i < 20) : uc c + i < uc d ∨ uc d + 20 ≤ uc c + i := by unfold uc; omega
section
variable {S : Sw} {E κ : Nat → Nat} {Ui : Nat → Nat → Int32} {Uj : Nat → Nat → Int64} {Ua : Nat → Nat → Int32} {V : Nat → Nat → Int32} {W : Nat → Int32} {D : Nat → UInt64} {o np rp mm q : Nat}
theorem RV.m (h : RV S E κ Ui Uj Ua V W D) {f : Nat} (hf : f ∈ MLf) (i : Nat) : aI S (E f) i = V f i := h.2.2.2.2.1 f hf i
theorem RV.w (h : RV S E κ Ui Uj Ua V W D) {f : Nat} (hf : 800 < f) : fI S f (E 900) = W f := h.2.2.2.2.2.1 f hf
theorem RV.i (h : RV S E κ Ui Uj Ua V W D) {j : Nat} (hu : us κ j) (hj : j < 800) (f : Nat) : fI S f (E j) = Ui j f := (h.2.2.2.1 j hu hj).1 f
theorem RV.jj (h : RV S E κ Ui Uj Ua V W D) {j : Nat} (hu : us κ j) (hj : j < 800) (f : Nat) : fJ S f (E j) = Uj j f := (h.2.2.2.1 j hu hj).2.1 f
theorem RV.a (h : RV S E κ Ui Uj Ua V W D) {j : Nat} (hu : us κ j) (hj : j < 800) (i : Nat) : aI S (E j) i = Ua j i := (h.2.2.2.1 j hu hj).2.2 i
theorem Rp.glob {Ui' : Nat → Nat → Int32} {Uj' : Nat → Nat → Int64} {Ua' : Nat → Nat → Int32} {V' : Nat → Nat → Int32} {W' : Nat → Int32} {D' : Nat → UInt64} (h : Rp κ Ui Uj Ua V W D o np rp mm q) (hq : q ≤ 512) (hg : glP Ui' Uj' Ua' V' W' o np rp mm (q + 1)) (hag : ∀ d, d < 6 → agU Ui Uj Ua Ui' Uj' Ua' d ∧ agV V V' d ∧ D' d = D d) : Rp κ Ui' Uj' Ua' V' W' D' o np rp mm (q + 1) :=
  ⟨hg, fun d hd => (h.2 d hd).cg rfl (hag d hd).1 (hag d hd).2.1 (hag d hd).2.2 (by omega) hq h.1.1.2.2.2.1⟩
theorem cl_at (hV : RV S E κ Ui Uj Ua V W D) (hR : Rp κ Ui Uj Ua V W D o np rp mm q) {j : Nat} (hj : j < 6) (hth : ¬ V 802 j = 0) : (κ j = 1 ∧ pst S E j ∧ ¬ V 803 j = 0 ∧ ∃ n nx hd rr, plP Ui Uj Ua V D j o rp q n nx hd rr) ∨ (κ j = 2 ∧ lst S E j ∧ V 803 j = 0 ∧ zrP V j rp ∧ ∃ h rk rr rd wh, lsP Ui Uj Ua V j q h rk rr rd wh) := by
  have hs := hV.2.1.2 j hj
  rcases hR.2 j hj with ⟨h1, h2, h3⟩ | ⟨h1, h2, h3, h4⟩ | ⟨h1, h2, h3, h4, h5⟩
  · exact absurd h2 hth
  · rcases hs with ⟨s1, -⟩ | ⟨-, s2⟩ | ⟨s1, -⟩
    · rw [h1] at s1; exact absurd s1 (by decide)
    · exact Or.inl ⟨h1, s2, h3, h4⟩
    · rw [h1] at s1; exact absurd s1 (by decide)
  · rcases hs with ⟨s1, -⟩ | ⟨s1, -⟩ | ⟨-, s2⟩
    · rw [h1] at s1; exact absurd s1 (by decide)
    · rw [h1] at s1; exact absurd s1 (by decide)
    · exact Or.inr ⟨h1, s2, h3, h4, h5⟩
theorem cl_free (hV : RV S E κ Ui Uj Ua V W D) (hR : Rp κ Ui Uj Ua V W D o np rp mm q) {j : Nat} (hj : j < 6) (hth : V 802 j = 0) : κ j = 0 ∧ aR S (E 34) j = none := by
  rcases hR.2 j hj with ⟨h1, h2, h3⟩ | ⟨h1, h2, h3, h4⟩ | ⟨h1, h2, h3, h4, h5⟩
  · rcases hV.2.1.2 j hj with ⟨-, s2⟩ | ⟨s1, -⟩ | ⟨s1, -⟩
    · exact ⟨h1, s2⟩
    · rw [h1] at s1; exact absurd s1 (by decide)
    · rw [h1] at s1; exact absurd s1 (by decide)
  · exact absurd hth h2
  · exact absurd hth h2
theorem cl_no (hV : RV S E κ Ui Uj Ua V W D) (hR : Rp κ Ui Uj Ua V W D o np rp mm q) {c0 : Int32} (hno : ¬ ∃ j, j < 6 ∧ c0 = nI j ∧ ¬ V 802 j = 0) : (∀ j, j < 6 → c0 = nI j → aR S (E 34) j = none) ∧ ¬ isCl S E c0 := by
  constructor
  · intro j hj e
    exact (cl_free hV hR hj (Classical.not_not.mp (fun q => hno ⟨j, hj, e, q⟩))).2
  · rintro ⟨j, hj, e, q⟩
    exact hno ⟨j, hj, e, by rw [← hV.m (by decide) j]; exact q⟩
theorem Rl.mk' (hV : RV S E κ Ui Uj Ua V W D) (hR : Rp κ Ui Uj Ua V W D o np rp mm q) : Rl S (E 30) (E 900) (E 901) (E 902) q := ⟨E, κ, Ui, Uj, Ua, V, W, D, o, np, rp, mm, rfl, rfl, rfl, rfl, hV, hR⟩
theorem fI800 {S : Sw} {z : Nat} {v : Int32} : fI (uI S 800 z v) 800 z = v := if_pos ⟨rfl, rfl⟩
theorem aJ_out {S : Sw} {x f z : Nat} {v : Int64} {w : Int32} : aJ (uI (wJ S x 0 v) f z w) x 0 = v := if_pos ⟨rfl, rfl⟩
end
