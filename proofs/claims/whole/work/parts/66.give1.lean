/-! ===== prepare: what a player gives, pure ===== -/
def outV (V : Nat → Nat → Int32) (c n nx rr : Nat) (rt : Int32) : Nat → Int32 := fun j => flt (V 801) (gV V c n rt) (nx + j) rr 48000
def lsI (rr : Nat) : Int := if rr = 48000 then 0 else 7
def gvS (V : Nat → Nat → Int32) (c n nx rr : Nat) (f g : Nat → Int32) (nx' : Nat) (st lt lL lR gv : Int32) : Prop :=
  (V 808 c = 3 ∧ (f = outV V c n nx rr 0 ∧ g = outV V c n nx rr 1) ∧ nx' = nx + 24 ∧ lL = f 23 ∧ lR = g 23 ∧ lt = V 809 c ∧ gv = 24 ∧ st = if (((nx + 24) * rr / 48000 : Nat) : Int) - lsI rr < (n : Int) then 3 else 4) ∨
  (V 808 c = 1 ∧ (nx + 23) * rr / 48000 + (if rr = 48000 then 0 else 8) < n ∧ (f = outV V c n nx rr 0 ∧ g = outV V c n nx rr 1) ∧ nx' = nx + 24 ∧ lL = f 23 ∧ lR = g 23 ∧ lt = V 809 c ∧ gv = 24 ∧ st = 1) ∨
  (V 808 c = 1 ∧ ¬ (nx + 23) * rr / 48000 + (if rr = 48000 then 0 else 8) < n ∧ (f = fdr (V 816 c) ∧ g = fdr (V 817 c)) ∧ nx' = nx ∧ lL = 0 ∧ lR = 0 ∧ lt = V 809 c + 1 ∧ gv = 0 ∧ st = 1) ∨
  (¬ V 808 c = 3 ∧ ¬ V 808 c = 1 ∧ (f = (fun _ => 0) ∧ g = fun _ => 0) ∧ nx' = nx ∧ lL = V 816 c ∧ lR = V 817 c ∧ lt = V 809 c ∧ gv = 0 ∧ st = V 808 c)
theorem gvS_ex (V : Nat → Nat → Int32) (c n nx rr : Nat) : ∃ f g nx' st lt lL lR gv, gvS V c n nx rr f g nx' st lt lL lR gv := by
  by_cases h3 : V 808 c = 3
  · exact ⟨_, _, _, _, _, _, _, _, Or.inl ⟨h3, ⟨rfl, rfl⟩, rfl, rfl, rfl, rfl, rfl, rfl⟩⟩
  · by_cases h1 : V 808 c = 1
    · by_cases hb : (nx + 23) * rr / 48000 + (if rr = 48000 then 0 else 8) < n
      · exact ⟨_, _, _, _, _, _, _, _, Or.inr (Or.inl ⟨h1, hb, ⟨rfl, rfl⟩, rfl, rfl, rfl, rfl, rfl, rfl⟩)⟩
      · exact ⟨_, _, _, _, _, _, _, _, Or.inr (Or.inr (Or.inl ⟨h1, hb, ⟨rfl, rfl⟩, rfl, rfl, rfl, rfl, rfl, rfl⟩))⟩
    · exact ⟨_, _, _, _, _, _, _, _, Or.inr (Or.inr (Or.inr ⟨h3, h1, ⟨rfl, rfl⟩, rfl, rfl, rfl, rfl, rfl, rfl⟩))⟩
def clsG (Ui : Nat → Nat → Int32) (Uj : Nat → Nat → Int64) (Ua : Nat → Nat → Int32) (Ui' : Nat → Nat → Int32) (Uj' : Nat → Nat → Int64) (Ua' : Nat → Nat → Int32) (c sl : Nat) (f g : Nat → Int32) (gn : Int32) (nx' : Nat) (st lt lL lR gv : Int32) : Prop :=
  (Ui' (uc c) 2 = st ∧ Ui' (uc c) 3 = lt ∧ Ui' (uc c) 510 = lL ∧ Ui' (uc c) 511 = lR ∧ ∀ a x, (a ≠ uc c ∨ (x ≠ 2 ∧ x ≠ 3 ∧ x ≠ 510 ∧ x ≠ 511)) → Ui' a x = Ui a x) ∧
  (Uj' (uc c) 512 = lN nx' ∧ Uj' (uc c) 514 = sqs f g 24 ∧ ∀ a x, (a ≠ uc c ∨ (x ≠ 512 ∧ x ≠ 514)) → Uj' a x = Uj a x) ∧
  (Ua' (uc c + 5) sl = gv ∧ (∀ x, x ≠ sl → Ua' (uc c + 5) x = Ua (uc c + 5) x) ∧ (∀ a, a ≠ 3 → a ≠ 4 → a ≠ uc c + 5 → Ua' a = Ua a) ∧ ∀ j, j < 24 → Ua' 4 (2 * j) = Ua 4 (2 * j) + mDnI (f j * gn) 256 ∧ Ua' 4 (2 * j + 1) = Ua 4 (2 * j + 1) + mDnI (g j * gn) 256)
def mdlG (V V' : Nat → Nat → Int32) (c rp : Nat) (f g : Nat → Int32) (gn : Int32) (nx' : Nat) (st lt lL lR gv : Int32) : Prop :=
  (V' 808 c = st ∧ V' 809 c = lt ∧ V' 815 c = nI nx' ∧ V' 816 c = lL ∧ V' 817 c = lR) ∧ (∀ x, x ∉ [808, 809, 815, 816, 817, 827, 836, 837, 838, 839] → V' x = V x) ∧ (∀ x, x ∈ [808, 809, 815, 816, 817] → ∀ d, d ≠ c → V' x d = V x d) ∧ (V' 827 (6 * rp + c) = gv ∧ ∀ i, i ≠ 6 * rp + c → V' 827 i = V 827 i) ∧
  ∀ j, j < 24 → V' 836 j = V 836 j + mDnI (f j * gn) 256 ∧ V' 837 j = V 837 j + mDnI (g j * gn) 256
section
variable {κ : Nat → Nat} {Ui Ui' : Nat → Nat → Int32} {Uj Uj' : Nat → Nat → Int64} {Ua Ua' : Nat → Nat → Int32} {V V' : Nat → Nat → Int32} {D D' : Nat → UInt64} {c d o rp q n nx nx' hd rr : Nat} {f g : Nat → Int32} {st lt lL lR gv gn : Int32}
theorem clsG.ag (h : clsG Ui Uj Ua Ui' Uj' Ua' c ((o + rp) % 4) f g gn nx' st lt lL lR gv) (hne : d ≠ c) : agU Ui Uj Ua Ui' Uj' Ua' d := by
  intro j j1 j2
  have hu := uc_n0 hne
  have h5 := uc_ne hne 5 (by decide)
  have hg := uc_ge d
  obtain ⟨⟨-, -, -, -, a1⟩, ⟨-, -, a2⟩, ⟨-, -, a3, -⟩⟩ := h
  exact ⟨fun f => a1 j f (Or.inl (by omega)), fun f => a2 j f (Or.inl (by omega)), fun i => by rw [a3 j (by omega) (by omega) (by omega)]⟩
theorem mdlG.ag (h : mdlG V V' c rp f g gn nx' st lt lL lR gv) (hc : c < 6) (hd : d < 6) (hne : d ≠ c) : agV V V' d := by
  obtain ⟨-, a1, a2, ⟨-, a3⟩, -⟩ := h
  refine ⟨fun x hx => ?_, fun i _ => by rw [a1 811 (by decide), a1 812 (by decide), a1 822 (by decide)]; exact ⟨rfl, rfl, rfl⟩, fun p hp => a3 _ (by omega), a1 801 (by decide)⟩
  by_cases e : x ∈ [808, 809, 815, 816, 817]
  · exact a2 x e d hne
  · have z : ∀ x ∈ PCF, x ∉ [808, 809, 815, 816, 817] → x ∉ [808, 809, 815, 816, 817, 827, 836, 837, 838, 839] := by decide
    rw [a1 x (z x hx e)]
theorem plP.give (P : plP Ui Uj Ua V D c o rp q n nx hd rr) (hG : gvS V c n nx rr f g nx' st lt lL lR gv) (hC : clsG Ui Uj Ua Ui' Uj' Ua' c ((o + rp) % 4) f g gn nx' st lt lL lR gv) (hM : mdlG V V' c rp f g gn nx' st lt lL lR gv) (hD : D' c = FP.ddiv (FP.l2d (sqs f g 24)) 4631952216750555136) (hrp : rp < 4) : plP Ui' Uj' Ua' V' D' c o (rp + 1) (q + 1) n nx' hd rr := by
  obtain ⟨h1, h2, h3, h4, h5, h6, h7, h8, h9, h10, h11, h12⟩ := P
  obtain ⟨⟨c1, c2, c3, c4, c5⟩, ⟨c6, c7, c8⟩, ⟨c9, c10, c11, -⟩⟩ := hC
  obtain ⟨⟨m1, m2, m3, m4, m5⟩, m6, -, ⟨m7, m8⟩, -⟩ := hM
  have hcg := uc_ge c
  have hs : (nx ≤ nx' ∧ nx' ≤ nx + 24) ∧ (st = 0 ∨ st = 1 ∨ st = 2 ∨ st = 3 ∨ st = 4) ∧ (gv = 0 ∨ gv = 24) := by
    rcases hG with ⟨-, -, e1, -, -, -, e2, e3⟩ | ⟨-, -, -, e1, -, -, -, e2, e3⟩ | ⟨-, -, -, e1, -, -, -, e2, e3⟩ | ⟨k3, k1, -, e1, -, -, -, e2, e3⟩
    · refine ⟨by omega, ?_, Or.inr e2⟩
      rw [e3]
      by_cases e : (((nx + 24) * rr / 48000 : Nat) : Int) - lsI rr < (n : Int)
      · rw [if_pos e]; decide
      · rw [if_neg e]; decide
    · exact ⟨by omega, by rw [e3]; decide, Or.inr e2⟩
    · exact ⟨by omega, by rw [e3]; decide, Or.inl e2⟩
    · exact ⟨by omega, by rw [e3]; exact h12, Or.inl e2⟩
  have hmono : nx * rr / 48000 ≤ nx' * rr / 48000 := Nat.div_le_div_right (Nat.mul_le_mul_right _ hs.1.1)
  have nj : ∀ i x, 0 < i → Uj' (uc c + i) x = Uj (uc c + i) x := fun i x hi => c8 _ _ (Or.inl (by omega))
  refine ⟨?_, ?_, ⟨c6, m3, by omega⟩, ?_, ?_, ?_, ?_, ?_, by omega, ?_, ?_, ?_⟩
  · rw [m6 804 (by decide), nj 1 _ (by decide), nj 1 _ (by decide)]; exact h1
  · refine ⟨?_, ?_, ?_, ?_, ?_, ?_, ?_, ?_, ?_⟩
    · rw [c5 _ _ (Or.inr (by decide)), m6 805 (by decide)]; exact h2.1
    · rw [c5 _ _ (Or.inr (by decide)), m6 806 (by decide)]; exact h2.2.1
    · rw [c1, m1]
    · rw [c2, m2]
    · rw [c5 _ _ (Or.inr (by decide)), m6 813 (by decide)]; exact h2.2.2.2.2.1
    · rw [c5 _ _ (Or.inr (by decide)), m6 807 (by decide)]; exact h2.2.2.2.2.2.1
    · rw [c5 _ _ (Or.inr (by decide)), m6 813 (by decide), m6 814 (by decide)]; exact h2.2.2.2.2.2.2.1
    · rw [c3, m4]
    · rw [c4, m5]
  · rw [c8 _ _ (Or.inr (by decide)), m6 818 (by decide)]; exact ⟨h4.1, h4.2.1, by omega⟩
  · rw [hD, c7]
  · rw [nj 2 _ (by decide), m6 810 (by decide)]; exact ⟨h6.1, h6.2.1, by omega⟩
  · intro i hi hi2
    rw [c11 _ (by omega) (by omega) (by omega), c11 _ (by omega) (by omega) (by omega), m6 811 (by decide), m6 812 (by decide)]; exact h7 i hi hi2
  · intro p hp
    by_cases e : p = rp
    · rw [e, c9, m7]; exact ⟨rfl, hs.2.2⟩
    · rw [c10 _ (by omega), m8 _ (by omega)]; exact h8 p (by omega)
  · rw [m6 805 (by decide), m6 806 (by decide)]; exact h10
  · rw [m6 813 (by decide), m6 805 (by decide)]; exact ⟨h11.1, fun hx => by have := h11.2.1 hx; omega, h11.2.2⟩
  · rw [m1]; exact hs.2.1
theorem sq_sqs {r : Nat → Int32} : ∀ k, (∀ j, j < k → r (2 * j) = f j ∧ r (2 * j + 1) = g j) → sq1 r (2 * k) = sqs f g k
  | 0, _ => rfl
  | k + 1, h => by
    show sq1 r (2 * k) + (r (2 * k)).toInt64 * (r (2 * k)).toInt64 + (r (2 * k + 1)).toInt64 * (r (2 * k + 1)).toInt64 = _
    rw [sq_sqs k (fun j hj => h j (by omega)), (h k (by omega)).1, (h k (by omega)).2]
    rfl
theorem sqs_ext {f' g' : Nat → Int32} : ∀ k, (∀ j, j < k → f' j = f j ∧ g' j = g j) → sqs f' g' k = sqs f g k
  | 0, _ => rfl
  | k + 1, h => by
    show sqs f' g' k + (f' k).toInt64 * (f' k).toInt64 + (g' k).toInt64 * (g' k).toInt64 = sqs f g k + (f k).toInt64 * (f k).toInt64 + (g k).toInt64 * (g k).toInt64
    rw [sqs_ext k (fun j hj => h j (by omega)), (h k (by omega)).1, (h k (by omega)).2]
theorem pfd_fdr {v : Int32} {j : Nat} (h : j < 24) : pfd v j = fdr v j := by
  unfold pfd fdr
  have z : ∀ j, j < 24 → jMax 0 (15 - nI j) = fpt j := by decide
  rw [z j h, jm16]
theorem ls_dec {p n rr : Nat} (hp : p < 2 ^ 20) (hn : n < 2 ^ 20) : (lN p - cLs rr < lN n ↔ (p : Int) - lsI rr < (n : Int)) ∧ (nI p - mLs rr < nI n ↔ (p : Int) - lsI rr < (n : Int)) := by
  unfold cLs mLs lsI
  by_cases e : rr = 48000
  · rw [if_pos e, if_pos e, if_pos e]
    rw [Int64.lt_iff_toInt_lt, Int32.lt_iff_toInt_lt, Int64.toInt_sub, Int32.toInt_sub, lN_toInt (by omega), lN_toInt (by omega), nI_toInt (by omega), nI_toInt (by omega), show (0 : Int64).toInt = 0 from rfl, show (0 : Int32).toInt = 0 from rfl, bm64 (by omega) (by omega), bm32 (by omega) (by omega)]
    omega
  · rw [if_neg e, if_neg e, if_neg e]
    rw [Int64.lt_iff_toInt_lt, Int32.lt_iff_toInt_lt, Int64.toInt_sub, Int32.toInt_sub, lN_toInt (by omega), lN_toInt (by omega), nI_toInt (by omega), nI_toInt (by omega), show (7 : Int64).toInt = 7 from rfl, show (7 : Int32).toInt = 7 from rfl, bm64 (by omega) (by omega), bm32 (by omega) (by omega)]
    omega
/-- the class's window serves -/
theorem out_ext (P : plP Ui Uj Ua V D c o rp q n nx hd rr) (htp : ∀ i, i < 512 → Ua 1 i = V 801 i) (rt : Int32) (j : Nat) : flt2 (Ua 1) (gU Ua c n rt) (nx + j) rr 48000 = outV V c n nx rr rt j := by
  obtain ⟨h1, h2, h3, h4, h5, h6, h7, h8, h9, -⟩ := P
  have hmono : nx * rr / 48000 ≤ (nx + j) * rr / 48000 := Nat.div_le_div_right (Nat.mul_le_mul_right _ (by omega))
  rw [flt_2 (by decide)]
  unfold outV
  refine flt_ext (by decide) htp (fun x hx1 hx2 => ?_)
  unfold gU gV
  by_cases e : x < 0 ∨ (n : Int) ≤ x
  · rw [if_pos e, if_pos e]
  · rw [if_neg e, if_neg e]
    by_cases hr : rt = 0
    · rw [if_pos hr, if_pos hr]; exact (h7 _ (by omega) (by omega)).1
    · rw [if_neg hr, if_neg hr]; exact (h7 _ (by omega) (by omega)).2
end
