/-! ===== capture: rows, filters, one listener ===== -/
def uaK (U : Nat → Nat → Int32) (a1 a2 n : Nat) (f g : Nat → Int32) : Nat → Nat → Nat → Int32
  | 0 => U
  | k + 1 => uq2 (uq2 (uaK U a1 a2 n f g k) a1 ((n + k) % 256) (f k)) a2 ((n + k) % 256) (g k)
def ujK (U : Nat → Nat → Int64) (w n : Nat) : Nat → Nat → Nat → Int64
  | 0 => U
  | k + 1 => uq2 (ujK U w n k) w 202 (lN (n + k + 1))
section
variable {S : Sw} {E κ : Nat → Nat} {Ui : Nat → Nat → Int32} {Uj : Nat → Nat → Int64} {Ua : Nat → Nat → Int32} {V : Nat → Nat → Int32} {W : Nat → Int32} {D : Nat → UInt64}
theorem RV.fK {w L R : Nat} (hV : RV S E κ Ui Uj Ua V W D) (hw : us κ w ∧ w < 800) (hL : us κ L ∧ L < 800) (hR : us κ R ∧ R < 800) (n : Nat) (f g : Nat → Int32) (k : Nat) : RV (faK S (E w) (E L) (E R) n f g k) E κ Ui (ujK Uj w n k) (uaK Ua L R n f g k) V W D := by
  induction k with
  | zero => exact hV
  | succ k ih => exact ((ih.cA hL.1 hL.2).cA hR.1 hR.2).cJ hw.1 hw.2
end
section
variable {U : Nat → Nat → Int32} {Uj : Nat → Nat → Int64} {a a1 a2 n w y : Nat} {f g : Nat → Int32}
theorem uaK_o (h1 : a ≠ a1) (h2 : a ≠ a2) (k : Nat) : uaK U a1 a2 n f g k a = U a := by
  induction k with
  | zero => rfl
  | succ k ih => exact ((uq2_row h2).trans (uq2_row h1)).trans ih
theorem uaK_1 (h : a1 ≠ a2) {j : Nat} : ∀ k, j < k → k ≤ 256 → uaK U a1 a2 n f g k a1 ((n + j) % 256) = f j
  | 0, hj, _ => absurd hj (by omega)
  | k + 1, hj, hk => by
    refine (uq2_ne (Or.inl h)).trans ?_
    by_cases e : j = k
    · rw [e]; exact uq2_eq
    · exact (uq2_ne (Or.inr (by omega))).trans (uaK_1 h k (by omega) (by omega))
theorem uaK_2 (h : a1 ≠ a2) {j : Nat} : ∀ k, j < k → k ≤ 256 → uaK U a1 a2 n f g k a2 ((n + j) % 256) = g j
  | 0, hj, _ => absurd hj (by omega)
  | k + 1, hj, hk => by
    by_cases e : j = k
    · rw [e]; exact uq2_eq
    · exact (uq2_ne (Or.inr (by omega))).trans ((uq2_ne (Or.inl (fun q => h q.symm))).trans (uaK_2 h k (by omega) (by omega)))
theorem uaK_1o (h : a1 ≠ a2) : ∀ k, (∀ j, j < k → y ≠ (n + j) % 256) → uaK U a1 a2 n f g k a1 y = U a1 y
  | 0, _ => rfl
  | k + 1, hy => (uq2_ne (Or.inl h)).trans ((uq2_ne (Or.inr (hy k (by omega)))).trans (uaK_1o h k (fun j hj => hy j (by omega))))
theorem uaK_2o (h : a1 ≠ a2) : ∀ k, (∀ j, j < k → y ≠ (n + j) % 256) → uaK U a1 a2 n f g k a2 y = U a2 y
  | 0, _ => rfl
  | k + 1, hy => (uq2_ne (Or.inr (hy k (by omega)))).trans ((uq2_ne (Or.inl (fun q => h q.symm))).trans (uaK_2o h k (fun j hj => hy j (by omega))))
theorem ujK_s (h : Uj w 202 = lN n) (k : Nat) : ujK Uj w n k w 202 = lN (n + k) := by
  cases k with
  | zero => exact h
  | succ k => exact uq2_eq
theorem ujK_o {x : Nat} (h : a ≠ w ∨ x ≠ 202) (k : Nat) : ujK Uj w n k a x = Uj a x := by
  induction k with
  | zero => rfl
  | succ k ih => exact (uq2_ne h).trans ih
theorem win24a {A B : Nat → Int32} {h d : Nat} (hne : a1 ≠ a2) (hw : ∀ i, i < h → h ≤ i + 256 → U a1 (i % 256) = A (d + i)) (h1 : ∀ i, i < h → B (d + i) = A (d + i)) (h2 : ∀ j, j < 24 → B (d + (h + j)) = f j) (i : Nat) (hi : i < h + 24) (hi2 : h + 24 ≤ i + 256) : uaK U a1 a2 h f g 24 a1 (i % 256) = B (d + i) := by
  by_cases e : i < h
  · rw [uaK_1o hne 24 (fun j hj => by omega), hw i e (by omega), h1 i e]
  · obtain ⟨j, rfl⟩ : ∃ j, i = h + j := ⟨i - h, by omega⟩
    rw [uaK_1 hne 24 (by omega) (by omega), h2 j (by omega)]
theorem win24b {A B : Nat → Int32} {h d : Nat} (hne : a1 ≠ a2) (hw : ∀ i, i < h → h ≤ i + 256 → U a2 (i % 256) = A (d + i)) (h1 : ∀ i, i < h → B (d + i) = A (d + i)) (h2 : ∀ j, j < 24 → B (d + (h + j)) = g j) (i : Nat) (hi : i < h + 24) (hi2 : h + 24 ≤ i + 256) : uaK U a1 a2 h f g 24 a2 (i % 256) = B (d + i) := by
  by_cases e : i < h
  · rw [uaK_2o hne 24 (fun j hj => by omega), hw i e (by omega), h1 i e]
  · obtain ⟨j, rfl⟩ : ∃ j, i = h + j := ⟨i - h, by omega⟩
    rw [uaK_2 hne 24 (by omega) (by omega), h2 j (by omega)]
theorem fsum_ext {tp tp' : Nat → Int32} {g g' : Int → Int32} {ph pl : Nat} (ht : ∀ i, i < 512 → tp i = tp' i) (hp : ph < 32) (hg : ∀ k : Nat, k < 16 → g ((pl : Int) + (k : Int) - 7) = g' ((pl : Int) + (k : Int) - 7)) : ∀ K, K ≤ 16 → fsum tp g ph pl K = fsum tp' g' ph pl K
  | 0, _ => rfl
  | K + 1, hK => by
    show fsum tp g ph pl K + _ = fsum tp' g' ph pl K + _
    rw [fsum_ext ht hp hg K (by omega), ht _ (by omega), hg K (by omega)]
theorem flt_ext {tp tp' : Nat → Int32} {g g' : Int → Int32} {n f t : Nat} (h0 : 0 < t) (ht : ∀ i, i < 512 → tp i = tp' i) (hg : ∀ x : Int, ((n * f / t : Nat) : Int) - 7 ≤ x → x ≤ ((n * f / t : Nat) : Int) + (if f = t then 0 else 8) → g x = g' x) : flt tp g n f t = flt tp' g' n f t := by
  unfold flt
  by_cases e : f = t
  · rw [if_pos e] at hg
    rw [if_pos e, if_pos e]
    exact hg _ (by omega) (by omega)
  · rw [if_neg e] at hg
    rw [if_neg e, if_neg e]
    have hp : n * f % t * 32 / t < 32 := by
      rw [Nat.div_lt_iff_lt_mul h0]
      have := Nat.mod_lt (n * f) h0
      omega
    rw [fsum_ext ht hp (fun (k : Nat) hk => hg (((n * f / t : Nat) : Int) + (k : Int) - 7) (by omega) (by omega)) 16 (by omega)]
end
section
variable {V V' : Nat → Nat → Int32} {d : Nat}
theorem agV.s1 {r : Nat → Int32} (g : agV V V' d) (hr : ∀ i, i < 12800 → r (12800 * d + i) = V 811 (12800 * d + i)) : agV V (uqR V' 811 r) d :=
  ⟨fun f hf => by rw [← g.1 f hf]; show (if f = 811 then r else V' f) d = _; rw [if_neg (fun e => by rw [e] at hf; revert hf; decide)], fun i hi => ⟨hr i hi, (g.2.1 i hi).2.1, (g.2.1 i hi).2.2⟩, g.2.2.1, g.2.2.2⟩
theorem agV.s2 {r : Nat → Int32} (g : agV V V' d) (hr : ∀ i, i < 12800 → r (12800 * d + i) = V 812 (12800 * d + i)) : agV V (uqR V' 812 r) d :=
  ⟨fun f hf => by rw [← g.1 f hf]; show (if f = 812 then r else V' f) d = _; rw [if_neg (fun e => by rw [e] at hf; revert hf; decide)], fun i hi => ⟨(g.2.1 i hi).1, hr i hi, (g.2.1 i hi).2.2⟩, g.2.2.1, g.2.2.2⟩
theorem blk_o {o f : Nat → Int32} {b k i : Nat} (h : i < b ∨ b + k ≤ i) : blk o b f k i = o i := if_neg (by omega)
theorem blk_i {o f : Nat → Int32} {b k i : Nat} (h : i < k) : blk o b f k (b + i) = f i := (if_pos ⟨by omega, by omega⟩).trans (by rw [Nat.add_sub_cancel_left])
end
def vCb (V : Nat → Nat → Int32) (c h n2 : Nat) : Nat → Nat → Int32 := uq2 (uqR (uqR (uq2 V 810 c (nI (h + 24))) 811 (blk (V 811) (12800 * c + h) (V 830) 24)) 812 (blk (V 812) (12800 * c + h) (V 831) 24)) 820 c (nI n2)
def vCl (V : Nat → Nat → Int32) (c h n2 : Nat) : Nat → Nat → Int32 := uq2 (vCb V c h n2) 809 c (V 809 c + 1)
def vCy (V : Nat → Nat → Int32) (c h rk fr rd : Nat) : Nat → Nat → Int32 := uqR (uq2 (vCb V c h (rk + fr)) 821 c (nI (rd + fr))) 822 (blk (V 822) (12800 * c + rd) (fun i => nI (rk + i)) fr)
def gU (U : Nat → Nat → Int32) (c n : Nat) (rt : Int32) (x : Int) : Int32 := if x < 0 ∨ (n : Int) ≤ x then 0 else U (if rt = 0 then uc c + 3 else uc c + 4) (x.toNat % 256)
section
variable {Ui : Nat → Nat → Int32} {Uj : Nat → Nat → Int64} {Ua : Nat → Nat → Int32} {V : Nat → Nat → Int32} {c d q h rk rr rd wh fr : Nat}
theorem agV.cb {n2 : Nat} (hne : d ≠ c) (hb : h + 24 ≤ 12800) : agV V (vCb V c h n2) d :=
  (((agV.rf.p (by decide) hne).s1 (fun i hi => blk_o (by omega))).s2 (fun i hi => blk_o (by omega))).p (by decide) hne
theorem agV.cl {n2 : Nat} (hne : d ≠ c) (hb : h + 24 ≤ 12800) : agV V (vCl V c h n2) d := (agV.cb hne hb).p (by decide) hne
theorem agV.cy (hne : d ≠ c) (hb : h + 24 ≤ 12800) (hr : rd + fr ≤ 200) : agV V (vCy V c h rk fr rd) d := ((agV.cb hne hb).p (by decide) hne).s (fun i hi => blk_o (by omega))
theorem lnd_mono {rr n k : Nat} (hr : rtN rr) : lnd rr n + k ≤ lnd rr (n + k) := by
  unfold lnd
  have h0 : 0 < rr := by unfold rtN at hr; omega
  have h1 : rr ≤ 48000 := by unfold rtN at hr; omega
  have : n * 48000 / rr + k ≤ (n + k) * 48000 / rr := by
    rw [Nat.le_div_iff_mul_le h0, Nat.add_mul, Nat.add_mul]
    have a := Nat.div_mul_le_self (n * 48000) rr
    have b : k * rr ≤ k * 48000 := Nat.mul_le_mul_left _ h1
    omega
  omega
/-- how many frames come -/
theorem cap_fr (hr : rtN rr) (hh : ¬ lnd rr rk < h) : ∃ fr, fr ≤ 24 ∧ (∀ i, i < fr → lnd rr (rk + i) < h + 24) ∧ ¬ lnd rr (rk + fr) < h + 24 := by
  obtain ⟨n, h1, h2, h3⟩ := leastN (fun i => lnd rr (rk + i) < h + 24) 24 (by have := lnd_mono (n := rk) (k := 24) hr; omega)
  exact ⟨n, h1, h2, h3⟩
theorem gV_old {V V' : Nat → Nat → Int32} {h' : Nat} {rt : Int32} (hh : h ≤ h') (h1 : ∀ i, i < h → V' 811 (12800 * c + i) = V 811 (12800 * c + i)) (h2 : ∀ i, i < h → V' 812 (12800 * c + i) = V 812 (12800 * c + i)) (x : Int) (hx : x < h) : gV V' c h' rt x = gV V c h rt x := by
  unfold gV
  by_cases e : x < 0
  · rw [if_pos (Or.inl e), if_pos (Or.inl e)]
  · rw [if_neg (show ¬ (x < 0 ∨ (h' : Int) ≤ x) by omega), if_neg (show ¬ (x < 0 ∨ (h : Int) ≤ x) by omega)]
    by_cases hr : rt = 0
    · rw [if_pos hr]; exact h1 _ (by omega)
    · rw [if_neg hr]; exact h2 _ (by omega)
theorem lnd_eq (rr n : Nat) : ((lnd rr n : Nat) : Int) = ((n * 48000 / rr : Nat) : Int) + (if 48000 = rr then 0 else 8) := by
  unfold lnd
  by_cases e : 48000 = rr
  · rw [if_pos e, if_pos e]; omega
  · rw [if_neg e, if_neg e]; omega
theorem cap_l (g : lsP Ui Uj Ua V c q h rk rr rd wh) (hin : ∀ j, j < 24 → Ua 2 (2 * j) = V 830 j ∧ Ua 2 (2 * j + 1) = V 831 j) (hfr : fr ≤ 24) (hend : ¬ lnd rr (rk + fr) < h + 24) (hb : h + 24 ≤ 12800) :
    lsP (uq2 Ui (uc c) 3 (Ui (uc c) 3 + 1)) (uq2 (ujK Uj (uc c + 2) h 24) (uc c) 408 (lN (rk + fr))) (uaK Ua (uc c + 3) (uc c + 4) h (fun j => Ua 2 (2 * j)) (fun j => Ua 2 (2 * j + 1)) 24) (vCl V c h (rk + fr)) c (q + 1) (h + 24) (rk + fr) rr rd wh := by
  obtain ⟨h1, h2, h3, h4, h5, h6, h7, h8, h9, h10, h11⟩ := g
  have hr0 : 0 < rr := by have := h1.1; unfold rtN at this; omega
  have oj : ∀ a x, (a ≠ uc c + 2 ∨ x ≠ 202) → ujK Uj (uc c + 2) h 24 a x = Uj a x := fun a x hx => ujK_o hx 24
  have e11 : ∀ i, vCl V c h (rk + fr) 811 i = blk (V 811) (12800 * c + h) (V 830) 24 i := fun i => by simp [vCl, vCb, uq2, uqR]
  have e12 : ∀ i, vCl V c h (rk + fr) 812 i = blk (V 812) (12800 * c + h) (V 831) 24 i := fun i => by simp [vCl, vCb, uq2, uqR]
  have o11 : ∀ i, i < h → vCl V c h (rk + fr) 811 (12800 * c + i) = V 811 (12800 * c + i) := fun i hi => (e11 _).trans (blk_o (by omega))
  have o12 : ∀ i, i < h → vCl V c h (rk + fr) 812 (12800 * c + i) = V 812 (12800 * c + i) := fun i hi => (e12 _).trans (blk_o (by omega))
  refine ⟨⟨h1.1, by simpa [vCl, vCb, uq2, uqR] using h1.2.1, ?_, ?_⟩, ?_, ⟨?_, by simp [vCl, vCb, uq2, uqR], by omega⟩, ⟨uq2_eq, by simp [vCl, vCb, uq2, uqR], by omega⟩, ⟨?_, by simpa [vCl, vCb, uq2, uqR] using h5.2.1, ?_, by simpa [vCl, vCb, uq2, uqR] using h5.2.2.2.1, h5.2.2.2.2.1, by omega⟩, ?_, ?_, hend, by simpa [vCl, vCb, uq2, uqR] using h9, by simpa [vCl, vCb, uq2, uqR] using h10, by simpa [vCl, vCb, uq2, uqR] using h11⟩
  · rw [uq2_ne (by omega), oj _ _ (by omega)]; exact h1.2.2.1
  · rw [uq2_ne (by omega), oj _ _ (by omega)]; exact h1.2.2.2
  · have e9 : Ui (uc c) 3 = V 809 c := h2.2.2.2.1
    simp only [vCl, vCb]
    refine ⟨by simpa [uq2, uqR] using h2.1, by simpa [uq2, uqR] using h2.2.1, by simpa [uq2, uqR] using h2.2.2.1, by simp [uq2, e9], by simpa [uq2, uqR] using h2.2.2.2.2⟩
  · rw [uq2_ne (by omega)]; exact ujK_s h3.1 24
  · rw [uq2_ne (by omega), oj _ _ (by omega)]; exact h5.1
  · rw [uq2_ne (by omega), oj _ _ (by omega)]; exact h5.2.2.1
  · intro i hi hi2
    exact ⟨win24a (by omega) (fun i hi hi2 => (h6 i hi hi2).1) o11 (fun j hj => by rw [e11, ← Nat.add_assoc, blk_i hj]; exact (hin j hj).1.symm) i hi hi2, win24b (by omega) (fun i hi hi2 => (h6 i hi hi2).2) o12 (fun j hj => by rw [e12, ← Nat.add_assoc, blk_i hj]; exact (hin j hj).2.symm) i hi hi2⟩
  · intro i hi
    obtain ⟨n, n1, n2, n3, n4, n5⟩ := h7 i hi
    have e1 : ∀ i, V 801 i = vCl V c h (rk + fr) 801 i := fun i => by simp [vCl, vCb, uq2, uqR]
    have el := lnd_eq rr n
    refine ⟨n, by simpa [vCl, vCb, uq2, uqR] using n1, by omega, by omega, ?_, ?_⟩
    · rw [uaK_o (by omega) (by omega), n4]
      exact flt_ext hr0 (fun i _ => e1 i) (fun x hx1 hx2 => (gV_old (by omega) o11 o12 x (by omega)).symm)
    · rw [uaK_o (by omega) (by omega), n5]
      exact flt_ext hr0 (fun i _ => e1 i) (fun x hx1 hx2 => (gV_old (by omega) o11 o12 x (by omega)).symm)
theorem cap_y {f1 f2 : Nat → Int32} (g : lsP Ui Uj Ua V c q h rk rr rd wh) (htp : ∀ i, i < 512 → Ua 1 i = V 801 i) (hin : ∀ j, j < 24 → Ua 2 (2 * j) = V 830 j ∧ Ua 2 (2 * j + 1) = V 831 j) (hfr : fr ≤ 24) (hall : ∀ i, i < fr → lnd rr (rk + i) < h + 24) (hend : ¬ lnd rr (rk + fr) < h + 24) (hb : h + 24 ≤ 12800) (hov : rd + fr ≤ 200)
    (hf1 : ∀ j, j < fr → f1 j = flt2 (uaK Ua (uc c + 3) (uc c + 4) h (fun j => Ua 2 (2 * j)) (fun j => Ua 2 (2 * j + 1)) 24 1) (gU (uaK Ua (uc c + 3) (uc c + 4) h (fun j => Ua 2 (2 * j)) (fun j => Ua 2 (2 * j + 1)) 24) c (h + 24) 0) (rk + j) 48000 rr)
    (hf2 : ∀ j, j < fr → f2 j = flt2 (uaK Ua (uc c + 3) (uc c + 4) h (fun j => Ua 2 (2 * j)) (fun j => Ua 2 (2 * j + 1)) 24 1) (gU (uaK Ua (uc c + 3) (uc c + 4) h (fun j => Ua 2 (2 * j)) (fun j => Ua 2 (2 * j + 1)) 24) c (h + 24) 1) (rk + j) 48000 rr) :
    lsP Ui (uq2 (ujK (ujK Uj (uc c + 2) h 24) (uc c + 5) (wh + rd) fr) (uc c) 408 (lN (rk + fr))) (uaK (uaK Ua (uc c + 3) (uc c + 4) h (fun j => Ua 2 (2 * j)) (fun j => Ua 2 (2 * j + 1)) 24) (uc c + 6) (uc c + 7) (wh + rd) f1 f2 fr) (vCy V c h rk fr rd) c (q + 1) (h + 24) (rk + fr) rr (rd + fr) wh := by
  obtain ⟨h1, h2, h3, h4, h5, h6, h7, h8, h9, h10, h11⟩ := g
  have hr0 : 0 < rr := by have := h1.1; unfold rtN at this; omega
  have hcg := uc_ge c
  generalize hA : uaK Ua (uc c + 3) (uc c + 4) h (fun j => Ua 2 (2 * j)) (fun j => Ua 2 (2 * j + 1)) 24 = A at *
  have oj : ∀ a x, (a ≠ uc c + 2 ∨ x ≠ 202) → (a ≠ uc c + 5 ∨ x ≠ 202) → ujK (ujK Uj (uc c + 2) h 24) (uc c + 5) (wh + rd) fr a x = Uj a x := fun a x hx hx2 => (ujK_o hx2 fr).trans (ujK_o hx 24)
  have e11 : ∀ i, vCy V c h rk fr rd 811 i = blk (V 811) (12800 * c + h) (V 830) 24 i := fun i => by simp [vCy, vCb, uq2, uqR]
  have e12 : ∀ i, vCy V c h rk fr rd 812 i = blk (V 812) (12800 * c + h) (V 831) 24 i := fun i => by simp [vCy, vCb, uq2, uqR]
  have e22 : ∀ i, vCy V c h rk fr rd 822 i = blk (V 822) (12800 * c + rd) (fun i => nI (rk + i)) fr i := fun i => by simp [vCy, vCb, uq2, uqR]
  have o11 : ∀ i, i < h → vCy V c h rk fr rd 811 (12800 * c + i) = V 811 (12800 * c + i) := fun i hi => (e11 _).trans (blk_o (by omega))
  have o12 : ∀ i, i < h → vCy V c h rk fr rd 812 (12800 * c + i) = V 812 (12800 * c + i) := fun i hi => (e12 _).trans (blk_o (by omega))
  have w1 : ∀ i, i < h + 24 → h + 24 ≤ i + 256 → A (uc c + 3) (i % 256) = vCy V c h rk fr rd 811 (12800 * c + i) := fun i hi hi2 => by
    rw [← hA]; exact win24a (by omega) (fun i hi hi2 => (h6 i hi hi2).1) o11 (fun j hj => by rw [e11, ← Nat.add_assoc, blk_i hj]; exact (hin j hj).1.symm) i hi hi2
  have w2 : ∀ i, i < h + 24 → h + 24 ≤ i + 256 → A (uc c + 4) (i % 256) = vCy V c h rk fr rd 812 (12800 * c + i) := fun i hi hi2 => by
    rw [← hA]; exact win24b (by omega) (fun i hi hi2 => (h6 i hi hi2).2) o12 (fun j hj => by rw [e12, ← Nat.add_assoc, blk_i hj]; exact (hin j hj).2.symm) i hi hi2
  have aO : ∀ a, a ≠ uc c + 3 → a ≠ uc c + 4 → A a = Ua a := fun a ha hb => by rw [← hA]; exact uaK_o ha hb 24
  have e1 : ∀ i, V 801 i = vCy V c h rk fr rd 801 i := fun i => by simp [vCy, vCb, uq2, uqR]
  have gUV : ∀ (rt : Int32) (x : Int), x < (h : Int) + 24 → (h : Int) ≤ x + 20 → gU A c (h + 24) rt x = gV (vCy V c h rk fr rd) c (h + 24) rt x := by
    intro rt x hx hx2
    unfold gU gV
    by_cases e : x < 0
    · rw [if_pos (Or.inl e), if_pos (Or.inl e)]
    · rw [if_neg (show ¬ (x < 0 ∨ ((h + 24 : Nat) : Int) ≤ x) by omega), if_neg (show ¬ (x < 0 ∨ ((h + 24 : Nat) : Int) ≤ x) by omega)]
      by_cases hr : rt = 0
      · rw [if_pos hr, if_pos hr]; exact w1 _ (by omega) (by omega)
      · rw [if_neg hr, if_neg hr]; exact w2 _ (by omega) (by omega)
  refine ⟨⟨h1.1, by simpa [vCy, vCb, uq2, uqR] using h1.2.1, ?_, ?_⟩, by simpa [vCy, vCb, uq2, uqR] using h2, ⟨?_, by simp [vCy, vCb, uq2, uqR], by omega⟩, ⟨uq2_eq, by simp [vCy, vCb, uq2, uqR], by omega⟩, ⟨?_, by simpa [vCy, vCb, uq2, uqR] using h5.2.1, ?_, by simp [vCy, vCb, uq2, uqR], by omega, by omega⟩, ?_, ?_, hend, by simpa [vCy, vCb, uq2, uqR] using h9, ⟨by simpa [vCy, vCb, uq2, uqR] using h10.1, ?_, by simpa [vCy, vCb, uq2, uqR] using h10.2.2⟩, by simpa [vCy, vCb, uq2, uqR] using h11⟩
  · rw [uq2_ne (by omega), oj _ _ (by omega) (by omega)]; exact h1.2.2.1
  · rw [uq2_ne (by omega), oj _ _ (by omega) (by omega)]; exact h1.2.2.2
  · rw [uq2_ne (by omega), ujK_o (by omega)]; exact ujK_s h3.1 24
  · rw [uq2_ne (by omega), oj _ _ (by omega) (by omega)]; exact h5.1
  · rw [uq2_ne (by omega), ujK_s ((ujK_o (by omega) 24).trans h5.2.2.1), Nat.add_assoc]
  · intro i hi hi2
    rw [uaK_o (by omega) (by omega), uaK_o (by omega) (by omega)]
    exact ⟨w1 i hi hi2, w2 i hi hi2⟩
  · intro i hi
    by_cases hlt : i < rd
    · obtain ⟨n, n1, n2, n3, n4, n5⟩ := h7 i hlt
      have el := lnd_eq rr n
      refine ⟨n, ?_, by omega, by omega, ?_, ?_⟩
      · rw [e22, blk_o (by omega)]; exact n1
      · rw [uaK_1o (by omega) fr (fun j hj => by omega), aO _ (by omega) (by omega), n4]
        exact flt_ext hr0 (fun i _ => e1 i) (fun x hx1 hx2 => (gV_old (by omega) o11 o12 x (by omega)).symm)
      · rw [uaK_2o (by omega) fr (fun j hj => by omega), aO _ (by omega) (by omega), n5]
        exact flt_ext hr0 (fun i _ => e1 i) (fun x hx1 hx2 => (gV_old (by omega) o11 o12 x (by omega)).symm)
    · obtain ⟨j, rfl⟩ : ∃ j, i = rd + j := ⟨i - rd, by omega⟩
      have el := lnd_eq rr (rk + j)
      have el0 := lnd_eq rr rk
      have hm := lnd_mono (n := rk) (k := j) h1.1
      have hj := hall j (by omega)
      have hcl : (if 48000 = rr then (0 : Int) else 8) ≤ 8 := by by_cases e : 48000 = rr <;> simp [e]
      refine ⟨rk + j, ?_, by omega, hj, ?_, ?_⟩
      · rw [e22, ← Nat.add_assoc, blk_i (by omega)]
      · rw [← Nat.add_assoc, uaK_1 (by omega) fr (by omega) (by omega), hf1 j (by omega), flt_2 hr0]
        exact flt_ext hr0 (fun i hi => by rw [aO _ (by omega) (by omega), htp i hi]; exact e1 i) (fun x hx1 hx2 => gUV 0 x (by omega) (by omega))
      · rw [← Nat.add_assoc, uaK_2 (by omega) fr (by omega) (by omega), hf2 j (by omega), flt_2 hr0]
        exact flt_ext hr0 (fun i hi => by rw [aO _ (by omega) (by omega), htp i hi]; exact e1 i) (fun x hx1 hx2 => gUV 1 x (by omega) (by omega))
  · intro hx
    have := h10.2.1 (by simpa [vCy, vCb, uq2, uqR] using hx)
    omega
end
