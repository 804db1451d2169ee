/-! ===== the relation, on views alone ===== -/
def gV (V : Nat → Nat → Int32) (c h : Nat) (rt : Int32) (x : Int) : Int32 := if x < 0 ∨ (h : Int) ≤ x then 0 else V (if rt = 0 then 811 else 812) (12800 * c + x.toNat)
def lnd (rr n : Nat) : Nat := n * 48000 / rr + (if 48000 = rr then 0 else 8)
def plP (Ui : Nat → Nat → Int32) (Uj : Nat → Nat → Int64) (Ua : Nat → Nat → Int32) (V : Nat → Nat → Int32) (D : Nat → UInt64) (c o rp q n nx hd rr : Nat) : Prop :=
  (rtN rr ∧ V 804 c = nI rr ∧ Uj (uc c + 1) 101 = lN rr ∧ Uj (uc c + 1) 102 = lN 48000) ∧
  (Ui (uc c) 0 = V 805 c ∧ Ui (uc c) 1 = V 806 c ∧ Ui (uc c) 2 = V 808 c ∧ Ui (uc c) 3 = V 809 c ∧ Ui (uc c) 4 = V 813 c ∧ Ui (uc c) 508 = V 807 c ∧ (¬ V 813 c = 0 → Ui (uc c) 509 = V 814 c) ∧ Ui (uc c) 510 = V 816 c ∧ Ui (uc c) 511 = V 817 c) ∧
  (Uj (uc c) 512 = lN nx ∧ V 815 c = nI nx ∧ nx ≤ 24 * q) ∧ (Uj (uc c) 513 = lN hd ∧ V 818 c = nI hd ∧ hd ≤ 24 * q) ∧ D c = FP.ddiv (FP.l2d (Uj (uc c) 514)) 4631952216750555136 ∧
  (Uj (uc c + 2) 202 = lN n ∧ V 810 c = nI n ∧ n ≤ q) ∧
  (∀ i, i < n → n ≤ i + 256 → Ua (uc c + 3) (i % 256) = V 811 (12800 * c + i) ∧ Ua (uc c + 4) (i % 256) = V 812 (12800 * c + i)) ∧
  (∀ p, p < rp → Ua (uc c + 5) ((o + p) % 4) = V 827 (6 * p + c) ∧ (V 827 (6 * p + c) = 0 ∨ V 827 (6 * p + c) = 24)) ∧
  n ≤ nx * rr / 48000 + 200 ∧ ((V 805 c = 1 ∨ V 805 c = 2) ∧ (V 806 c = 8 ∨ V 806 c = 16)) ∧ ((V 813 c = 0 ∨ V 813 c = 1) ∧ (¬ V 813 c = 0 → n < nx * rr / 48000 + 200) ∧ (V 805 c = 1 → V 813 c = 0)) ∧
  (V 808 c = 0 ∨ V 808 c = 1 ∨ V 808 c = 2 ∨ V 808 c = 3 ∨ V 808 c = 4)
def lsP (Ui : Nat → Nat → Int32) (Uj : Nat → Nat → Int64) (Ua : Nat → Nat → Int32) (V : Nat → Nat → Int32) (c q h rk rr rd wh : Nat) : Prop :=
  (rtN rr ∧ V 804 c = nI rr ∧ Uj (uc c + 1) 101 = lN 48000 ∧ Uj (uc c + 1) 102 = lN rr) ∧
  (Ui (uc c) 0 = V 805 c ∧ Ui (uc c) 1 = V 806 c ∧ Ui (uc c) 2 = V 808 c ∧ Ui (uc c) 3 = V 809 c ∧ Ui (uc c) 4 = V 813 c) ∧
  (Uj (uc c + 2) 202 = lN h ∧ V 810 c = nI h ∧ h ≤ 24 * q) ∧ (Uj (uc c) 408 = lN rk ∧ V 820 c = nI rk ∧ rk ≤ h) ∧
  (Uj (uc c) 409 = lN wh ∧ V 823 c = nI wh ∧ Uj (uc c + 5) 202 = lN (wh + rd) ∧ V 821 c = nI rd ∧ rd ≤ 200 ∧ wh + rd ≤ rk) ∧
  (∀ i, i < h → h ≤ i + 256 → Ua (uc c + 3) (i % 256) = V 811 (12800 * c + i) ∧ Ua (uc c + 4) (i % 256) = V 812 (12800 * c + i)) ∧
  (∀ i, i < rd → ∃ n, V 822 (12800 * c + i) = nI n ∧ n < rk ∧ lnd rr n < h ∧ Ua (uc c + 6) ((wh + i) % 256) = flt (V 801) (gV V c h 0) n 48000 rr ∧ Ua (uc c + 7) ((wh + i) % 256) = flt (V 801) (gV V c h 1) n 48000 rr) ∧
  ¬ lnd rr rk < h ∧ ((V 805 c = 1 ∨ V 805 c = 2) ∧ (V 806 c = 8 ∨ V 806 c = 16)) ∧ ((V 813 c = 0 ∨ V 813 c = 1) ∧ (¬ V 813 c = 0 → 0 < rd) ∧ (V 805 c = 1 → V 813 c = 0)) ∧ (V 808 c = 0 ∨ V 808 c = 1 ∨ V 808 c = 2)
def zrP (V : Nat → Nat → Int32) (c rp : Nat) : Prop := ∀ p, p < rp → V 827 (6 * p + c) = 0
def clP (κ : Nat → Nat) (Ui : Nat → Nat → Int32) (Uj : Nat → Nat → Int64) (Ua : Nat → Nat → Int32) (V : Nat → Nat → Int32) (D : Nat → UInt64) (c o rp q : Nat) : Prop := (κ c = 0 ∧ V 802 c = 0 ∧ zrP V c rp) ∨ (κ c = 1 ∧ ¬ V 802 c = 0 ∧ ¬ V 803 c = 0 ∧ ∃ n nx hd rr, plP Ui Uj Ua V D c o rp q n nx hd rr) ∨ (κ c = 2 ∧ ¬ V 802 c = 0 ∧ V 803 c = 0 ∧ zrP V c rp ∧ ∃ h rk rr rd wh, lsP Ui Uj Ua V c q h rk rr rd wh)
def glP (Ui : Nat → Nat → Int32) (Uj : Nat → Nat → Int64) (Ua : Nat → Nat → Int32) (V : Nat → Nat → Int32) (W : Nat → Int32) (o np rp m q : Nat) : Prop :=
  (Ui 30 704 = nI o ∧ o < 4 ∧ Ui 30 705 = nI rp ∧ rp ≤ 4 ∧ Ui 30 707 = nI np ∧ np < 4 ∧ W 824 = nI rp) ∧
  (Ui 33 300 = W 832 ∧ (W 832 = 0 ∨ W 832 = 1) ∧ Ui 33 301 = W 833 ∧ Ui 33 302 = W 835 ∧ Uj 33 303 = lN m ∧ W 834 = nI m ∧ m ≤ 24 * q) ∧
  (∀ i, i < 512 → Ua 1 i = V 801 i) ∧
  (∀ p, p < rp → ∀ j, j < 24 → Ua (10 + (o + p) % 4) (2 * j) = V 825 (24 * p + j) ∧ Ua (10 + (o + p) % 4) (2 * j + 1) = V 826 (24 * p + j)) ∧
  (∀ p, p < 4 → ∀ j, j < 24 → Ua (20 + (np + 4 - p) % 4) (2 * j) = V 828 (24 * p + j) ∧ Ua (20 + (np + 4 - p) % 4) (2 * j + 1) = V 829 (24 * p + j)) ∧
  (∀ j, j < 24 → Ua 2 (2 * j) = V 830 j ∧ Ua 2 (2 * j + 1) = V 831 j)
def Rp (κ : Nat → Nat) (Ui : Nat → Nat → Int32) (Uj : Nat → Nat → Int64) (Ua : Nat → Nat → Int32) (V : Nat → Nat → Int32) (W : Nat → Int32) (D : Nat → UInt64) (o np rp m q : Nat) : Prop := glP Ui Uj Ua V W o np rp m q ∧ ∀ c, c < 6 → clP κ Ui Uj Ua V D c o rp q
section
variable {κ κ' : Nat → Nat} {Ui Ui' : Nat → Nat → Int32} {Uj Uj' : Nat → Nat → Int64} {Ua Ua' : Nat → Nat → Int32} {V V' : Nat → Nat → Int32} {W W' : Nat → Int32} {D D' : Nat → UInt64}
/-- the class's side of a client is the same -/
def agU (Ui : Nat → Nat → Int32) (Uj : Nat → Nat → Int64) (Ua : Nat → Nat → Int32) (Ui' : Nat → Nat → Int32) (Uj' : Nat → Nat → Int64) (Ua' : Nat → Nat → Int32) (c : Nat) : Prop := ∀ j, uc c ≤ j → j < uc c + 20 → (∀ f, Ui' j f = Ui j f) ∧ (∀ f, Uj' j f = Uj j f) ∧ ∀ i, Ua' j i = Ua j i
def PCF : List Nat := [802, 803, 804, 805, 806, 807, 808, 809, 810, 813, 814, 815, 816, 817, 818, 820, 821, 823]
def agV (V V' : Nat → Nat → Int32) (c : Nat) : Prop := (∀ f, f ∈ PCF → V' f c = V f c) ∧ (∀ i, i < 12800 → V' 811 (12800 * c + i) = V 811 (12800 * c + i) ∧ V' 812 (12800 * c + i) = V 812 (12800 * c + i) ∧ V' 822 (12800 * c + i) = V 822 (12800 * c + i)) ∧ (∀ p, p < 4 → V' 827 (6 * p + c) = V 827 (6 * p + c)) ∧ V' 801 = V 801
theorem agU.rf {c : Nat} : agU Ui Uj Ua Ui Uj Ua c := fun _ _ _ => ⟨fun _ => rfl, fun _ => rfl, fun _ => rfl⟩
theorem agV.rf {c : Nat} : agV V V c := ⟨fun _ _ => rfl, fun _ _ => ⟨rfl, rfl, rfl⟩, fun _ _ => rfl, rfl⟩
theorem gV_ag {c h : Nat} {rt : Int32} (ha : agV V V' c) (hh : h ≤ 12800) : gV V' c h rt = gV V c h rt := by
  funext x
  unfold gV
  by_cases hx : x < 0 ∨ (h : Int) ≤ x
  · rw [if_pos hx, if_pos hx]
  · rw [if_neg hx, if_neg hx]
    have := ha.2.1 x.toNat (by omega)
    by_cases hr : rt = 0
    · rw [if_pos hr]; exact this.1
    · rw [if_neg hr]; exact this.2.1
theorem plP.cg {c o rp q q' n nx hd rr : Nat} (hu : agU Ui Uj Ua Ui' Uj' Ua' c) (hv : agV V V' c) (hd_ : D' c = D c) (hq : q ≤ q') (hq2 : q ≤ 512) (hrp : rp ≤ 4) (h : plP Ui Uj Ua V D c o rp q n nx hd rr) : plP Ui' Uj' Ua' V' D' c o rp q' n nx hd rr := by
  have v := fun f hf => hv.1 f hf
  have u0 := hu (uc c) (by omega) (by omega)
  have u1 := hu (uc c + 1) (by omega) (by omega)
  have u2 := hu (uc c + 2) (by omega) (by omega)
  have u3 := hu (uc c + 3) (by omega) (by omega)
  have u4 := hu (uc c + 4) (by omega) (by omega)
  have u5 := hu (uc c + 5) (by omega) (by omega)
  obtain ⟨h1, h2, h3, h4, h5, h6, h7, h8, h9, h10, h11, h12⟩ := h
  refine ⟨?_, ?_, ?_, ?_, ?_, ?_, ?_, ?_, h9, ?_, ?_, ?_⟩
  · rw [v 804 (by decide), u1.2.1, u1.2.1]; exact h1
  · simp only [u0.1, v 805 (by decide), v 806 (by decide), v 808 (by decide), v 809 (by decide), v 813 (by decide), v 807 (by decide), v 814 (by decide), v 816 (by decide), v 817 (by decide)]; exact h2
  · rw [u0.2.1, v 815 (by decide)]; exact ⟨h3.1, h3.2.1, by omega⟩
  · rw [u0.2.1, v 818 (by decide)]; exact ⟨h4.1, h4.2.1, by omega⟩
  · rw [hd_, u0.2.1]; exact h5
  · rw [u2.2.1, v 810 (by decide)]; exact ⟨h6.1, h6.2.1, by omega⟩
  · intro i hi hi2
    have := hv.2.1 i (by omega)
    rw [u3.2.2, u4.2.2, this.1, this.2.1]; exact h7 i hi hi2
  · intro p hp
    rw [u5.2.2, hv.2.2.1 p (by omega)]; exact h8 p hp
  · rw [v 805 (by decide), v 806 (by decide)]; exact h10
  · rw [v 813 (by decide), v 805 (by decide)]; exact h11
  · rw [v 808 (by decide)]; exact h12
theorem lsP.cg {c q q' h rk rr rd wh : Nat} (hu : agU Ui Uj Ua Ui' Uj' Ua' c) (hv : agV V V' c) (hq : q ≤ q') (hq2 : q ≤ 512) (g : lsP Ui Uj Ua V c q h rk rr rd wh) : lsP Ui' Uj' Ua' V' c q' h rk rr rd wh := by
  have v := fun f hf => hv.1 f hf
  have u0 := hu (uc c) (by omega) (by omega)
  have u1 := hu (uc c + 1) (by omega) (by omega)
  have u2 := hu (uc c + 2) (by omega) (by omega)
  have u3 := hu (uc c + 3) (by omega) (by omega)
  have u4 := hu (uc c + 4) (by omega) (by omega)
  have u5 := hu (uc c + 5) (by omega) (by omega)
  have u6 := hu (uc c + 6) (by omega) (by omega)
  have u7 := hu (uc c + 7) (by omega) (by omega)
  obtain ⟨h1, h2, h3, h4, h5, h6, h7, h8, h9, h10, h11⟩ := g
  have hh : h ≤ 12800 := by omega
  refine ⟨?_, ?_, ?_, ?_, ?_, ?_, ?_, h8, ?_, ?_, ?_⟩
  · rw [v 804 (by decide), u1.2.1, u1.2.1]; exact h1
  · simp only [u0.1, v 805 (by decide), v 806 (by decide), v 808 (by decide), v 809 (by decide), v 813 (by decide)]; exact h2
  · rw [u2.2.1, v 810 (by decide)]; exact ⟨h3.1, h3.2.1, by omega⟩
  · rw [u0.2.1, v 820 (by decide)]; exact h4
  · rw [u0.2.1, u5.2.1, v 823 (by decide), v 821 (by decide)]; exact h5
  · intro i hi hi2
    have := hv.2.1 i (by omega)
    rw [u3.2.2, u4.2.2, this.1, this.2.1]; exact h6 i hi hi2
  · intro i hi
    obtain ⟨n, n1, n2, n3, n4, n5⟩ := h7 i hi
    refine ⟨n, ?_, n2, n3, ?_, ?_⟩
    · rw [(hv.2.1 i (by omega)).2.2]; exact n1
    · rw [u6.2.2, hv.2.2.2, gV_ag hv hh]; exact n4
    · rw [u7.2.2, hv.2.2.2, gV_ag hv hh]; exact n5
  · rw [v 805 (by decide), v 806 (by decide)]; exact h9
  · rw [v 813 (by decide), v 805 (by decide)]; exact h10
  · rw [v 808 (by decide)]; exact h11
theorem clP.cg {c o rp q q' : Nat} (hκ : κ' c = κ c) (hu : agU Ui Uj Ua Ui' Uj' Ua' c) (hv : agV V V' c) (hd_ : D' c = D c) (hq : q ≤ q') (hq2 : q ≤ 512) (hrp : rp ≤ 4) (h : clP κ Ui Uj Ua V D c o rp q) : clP κ' Ui' Uj' Ua' V' D' c o rp q' := by
  have v2 : V' 802 c = V 802 c := hv.1 802 (by decide)
  have v3 : V' 803 c = V 803 c := hv.1 803 (by decide)
  have hz : zrP V c rp → zrP V' c rp := fun z p hp => (hv.2.2.1 p (by omega)).trans (z p hp)
  rcases h with ⟨h1, h2, h3⟩ | ⟨h1, h2, h3, n, nx, hd, rr, h4⟩ | ⟨h1, h2, h3, h4, h, rk, rr, rd, wh, h5⟩
  · exact Or.inl ⟨hκ.trans h1, v2.trans h2, hz h3⟩
  · exact Or.inr (Or.inl ⟨hκ.trans h1, by rw [v2]; exact h2, by rw [v3]; exact h3, n, nx, hd, rr, h4.cg hu hv hd_ hq hq2 hrp⟩)
  · exact Or.inr (Or.inr ⟨hκ.trans h1, by rw [v2]; exact h2, v3.trans h3, hz h4, h, rk, rr, rd, wh, h5.cg hu hv hq hq2⟩)
/-- the rest is the same -/
def agG (Ui : Nat → Nat → Int32) (Uj : Nat → Nat → Int64) (Ua : Nat → Nat → Int32) (V : Nat → Nat → Int32) (W : Nat → Int32) (Ui' : Nat → Nat → Int32) (Uj' : Nat → Nat → Int64) (Ua' : Nat → Nat → Int32) (V' : Nat → Nat → Int32) (W' : Nat → Int32) : Prop := (∀ j, j < 100 → (∀ f, Ui' j f = Ui j f) ∧ (∀ f, Uj' j f = Uj j f) ∧ ∀ i, Ua' j i = Ua j i) ∧ (∀ f, f ∈ [801, 825, 826, 828, 829, 830, 831] → V' f = V f) ∧ W' = W
theorem glP.cg {o np rp m q q' : Nat} (ha : agG Ui Uj Ua V W Ui' Uj' Ua' V' W') (hq : q ≤ q') (h : glP Ui Uj Ua V W o np rp m q) : glP Ui' Uj' Ua' V' W' o np rp m q' := by
  obtain ⟨a1, a2, a3⟩ := ha
  obtain ⟨h1, h2, h3, h4, h5, h6⟩ := h
  subst a3
  refine ⟨?_, ?_, ?_, ?_, ?_, ?_⟩
  · simp only [(a1 30 (by omega)).1]; exact h1
  · simp only [(a1 33 (by omega)).1, (a1 33 (by omega)).2.1]; exact ⟨h2.1, h2.2.1, h2.2.2.1, h2.2.2.2.1, h2.2.2.2.2.1, h2.2.2.2.2.2.1, by have := h2.2.2.2.2.2.2; omega⟩
  · intro i hi; rw [(a1 1 (by omega)).2.2, a2 801 (by decide)]; exact h3 i hi
  · intro p hp j hj; rw [(a1 _ (by omega)).2.2, (a1 _ (by omega)).2.2, a2 825 (by decide), a2 826 (by decide)]; exact h4 p hp j hj
  · intro p hp j hj; rw [(a1 _ (by omega)).2.2, (a1 _ (by omega)).2.2, a2 828 (by decide), a2 829 (by decide)]; exact h5 p hp j hj
  · intro j hj; rw [(a1 _ (by omega)).2.2, (a1 _ (by omega)).2.2, a2 830 (by decide), a2 831 (by decide)]; exact h6 j hj
/-- one client's change -/
theorem Rp.one {c o np rp m q : Nat} (h : Rp κ Ui Uj Ua V W D o np rp m q) (hq : q ≤ 512) (ha : agG Ui Uj Ua V W Ui' Uj' Ua' V' W') (hκ : ∀ d, d < 6 → d ≠ c → κ' d = κ d) (hag : ∀ d, d < 6 → d ≠ c → agU Ui Uj Ua Ui' Uj' Ua' d ∧ agV V V' d ∧ D' d = D d) (hn : clP κ' Ui' Uj' Ua' V' D' c o rp (q + 1)) : Rp κ' Ui' Uj' Ua' V' W' D' o np rp m (q + 1) :=
  ⟨h.1.cg ha (by omega), fun d hd => by
    by_cases e : d = c
    · rw [e]; exact hn
    · exact (h.2 d hd).cg (hκ d hd e) (hag d hd e).1 (hag d hd e).2.1 (hag d hd e).2.2 (by omega) hq h.1.1.2.2.2.1⟩
theorem Rp.idle {o np rp m q : Nat} (h : Rp κ Ui Uj Ua V W D o np rp m q) (hq : q ≤ 512) : Rp κ Ui Uj Ua V W D o np rp m (q + 1) :=
  ⟨h.1.cg ⟨fun _ _ => ⟨fun _ => rfl, fun _ => rfl, fun _ => rfl⟩, fun _ _ => rfl, rfl⟩ (by omega), fun d hd => (h.2 d hd).cg rfl agU.rf agV.rf rfl (by omega) hq h.1.1.2.2.2.1⟩
-- agreement under an update
theorem agU.i {c j0 f : Nat} {v : Int32} (h : agU Ui Uj Ua Ui' Uj' Ua' c) (hj : j0 < uc c ∨ uc c + 20 ≤ j0) : agU Ui Uj Ua (uq2 Ui' j0 f v) Uj' Ua' c := fun j h1 h2 => ⟨fun g => (if_neg (fun q => by omega)).trans ((h j h1 h2).1 g), (h j h1 h2).2⟩
theorem agU.j {c j0 f : Nat} {v : Int64} (h : agU Ui Uj Ua Ui' Uj' Ua' c) (hj : j0 < uc c ∨ uc c + 20 ≤ j0) : agU Ui Uj Ua Ui' (uq2 Uj' j0 f v) Ua' c := fun j h1 h2 => ⟨(h j h1 h2).1, fun g => (if_neg (fun q => by omega)).trans ((h j h1 h2).2.1 g), (h j h1 h2).2.2⟩
theorem agU.a {c j0 k : Nat} {v : Int32} (h : agU Ui Uj Ua Ui' Uj' Ua' c) (hj : j0 < uc c ∨ uc c + 20 ≤ j0) : agU Ui Uj Ua Ui' Uj' (uq2 Ua' j0 k v) c := fun j h1 h2 => ⟨(h j h1 h2).1, (h j h1 h2).2.1, fun g => (if_neg (fun q => by omega)).trans ((h j h1 h2).2.2 g)⟩
theorem agU.r {c j0 : Nat} {r : Nat → Int32} (h : agU Ui Uj Ua Ui' Uj' Ua' c) (hj : j0 < uc c ∨ uc c + 20 ≤ j0) : agU Ui Uj Ua Ui' Uj' (uqR Ua' j0 r) c := fun j h1 h2 => ⟨(h j h1 h2).1, (h j h1 h2).2.1, fun g => by
  rw [← (h j h1 h2).2.2 g]
  show (if j = j0 then r else Ua' j) g = _
  rw [if_neg (by omega)]⟩
theorem agV.p {c d f : Nat} {v : Int32} (h : agV V V' d) (hf : f ∈ PCF) (hcd : d ≠ c) : agV V (uq2 V' f c v) d := by
  have hf2 : f ≠ 811 ∧ f ≠ 812 ∧ f ≠ 822 ∧ f ≠ 827 ∧ f ≠ 801 := by
    have q : ∀ f ∈ PCF, f ≠ 811 ∧ f ≠ 812 ∧ f ≠ 822 ∧ f ≠ 827 ∧ f ≠ 801 := by decide
    exact q f hf
  refine ⟨fun g hg => (if_neg (fun q => hcd q.2)).trans (h.1 g hg), fun i hi => ⟨(if_neg (fun q => hf2.1 q.1.symm)).trans (h.2.1 i hi).1, (if_neg (fun q => hf2.2.1 q.1.symm)).trans (h.2.1 i hi).2.1, (if_neg (fun q => hf2.2.2.1 q.1.symm)).trans (h.2.1 i hi).2.2⟩, fun p hp => (if_neg (fun q => hf2.2.2.2.1 q.1.symm)).trans (h.2.2.1 p hp), ?_⟩
  rw [← h.2.2.2]
  exact funext (fun i => if_neg (fun q => hf2.2.2.2.2 q.1.symm))
/-- a place of the long rows, of another client -/
theorem agV.q {c d f k : Nat} {v : Int32} (h : agV V V' d) (hf : f = 811 ∨ f = 812 ∨ f = 822) (hcd : d ≠ c) (hk : 12800 * c ≤ k ∧ k < 12800 * c + 12800) : agV V (uq2 V' f k v) d := by
  refine ⟨fun g hg => ?_, fun i hi => ⟨(if_neg (fun q => by omega)).trans (h.2.1 i hi).1, (if_neg (fun q => by omega)).trans (h.2.1 i hi).2.1, (if_neg (fun q => by omega)).trans (h.2.1 i hi).2.2⟩, fun p hp => (if_neg (fun q => by omega)).trans (h.2.2.1 p hp), ?_⟩
  · have hg2 : g ≠ 811 ∧ g ≠ 812 ∧ g ≠ 822 := by
      have q : ∀ f ∈ PCF, f ≠ 811 ∧ f ≠ 812 ∧ f ≠ 822 := by decide
      exact q g hg
    exact (if_neg (fun q => by omega)).trans (h.1 g hg)
  · rw [← h.2.2.2]
    exact funext (fun i => if_neg (fun q => by omega))
theorem agG.rf : agG Ui Uj Ua V W Ui Uj Ua V W := ⟨fun _ _ => ⟨fun _ => rfl, fun _ => rfl, fun _ => rfl⟩, fun _ _ => rfl, rfl⟩
theorem agG.i {j0 f : Nat} {v : Int32} (h : agG Ui Uj Ua V W Ui' Uj' Ua' V' W') (hj : 100 ≤ j0) : agG Ui Uj Ua V W (uq2 Ui' j0 f v) Uj' Ua' V' W' := ⟨fun j hj1 => ⟨fun g => (if_neg (fun q => by omega)).trans ((h.1 j hj1).1 g), (h.1 j hj1).2⟩, h.2⟩
theorem agG.j {j0 f : Nat} {v : Int64} (h : agG Ui Uj Ua V W Ui' Uj' Ua' V' W') (hj : 100 ≤ j0) : agG Ui Uj Ua V W Ui' (uq2 Uj' j0 f v) Ua' V' W' := ⟨fun j hj1 => ⟨(h.1 j hj1).1, fun g => (if_neg (fun q => by omega)).trans ((h.1 j hj1).2.1 g), (h.1 j hj1).2.2⟩, h.2⟩
theorem agG.a {j0 k : Nat} {v : Int32} (h : agG Ui Uj Ua V W Ui' Uj' Ua' V' W') (hj : 100 ≤ j0) : agG Ui Uj Ua V W Ui' Uj' (uq2 Ua' j0 k v) V' W' := ⟨fun j hj1 => ⟨(h.1 j hj1).1, (h.1 j hj1).2.1, fun g => (if_neg (fun q => by omega)).trans ((h.1 j hj1).2.2 g)⟩, h.2⟩
theorem agG.v {f k : Nat} {v : Int32} (h : agG Ui Uj Ua V W Ui' Uj' Ua' V' W') (hf : f ∉ [801, 825, 826, 828, 829, 830, 831]) : agG Ui Uj Ua V W Ui' Uj' Ua' (uq2 V' f k v) W' := ⟨h.1, fun g hg => by
  have hgf : g ≠ f := fun e => hf (by rw [← e]; exact hg)
  rw [← h.2.1 g hg]
  exact funext (fun i => if_neg (fun q => hgf q.1)), h.2.2⟩
theorem agG.vr {f : Nat} {r : Nat → Int32} (h : agG Ui Uj Ua V W Ui' Uj' Ua' V' W') (hf : f ∉ [801, 825, 826, 828, 829, 830, 831]) : agG Ui Uj Ua V W Ui' Uj' Ua' (uqR V' f r) W' := ⟨h.1, fun g hg => by
  have hgf : g ≠ f := fun e => hf (by rw [← e]; exact hg)
  rw [← h.2.1 g hg]
  show (if g = f then r else V' g) = V' g
  exact if_neg hgf, h.2.2⟩
end
