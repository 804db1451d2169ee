/-! ===== division that rounds down: the class's and the reference's ===== -/
theorem td_pos {X Y : Int} (hY : 0 < Y) (hX : 0 ≤ X) : 0 ≤ X.tdiv Y ∧ X.tdiv Y ≤ X ∧ 0 ≤ X.tdiv Y * Y ∧ X.tdiv Y * Y ≤ X ∧ X < X.tdiv Y * Y + Y := by
  rw [Int.tdiv_eq_ediv_of_nonneg hX]
  have a1 := Int.mul_ediv_add_emod X Y
  have a2 := Int.emod_nonneg X (Int.ne_of_gt hY)
  have a3 := Int.emod_lt_of_pos X hY
  have a4 := Int.ediv_nonneg hX (Int.le_of_lt hY)
  have a5 := Int.ediv_le_self Y hX
  have a6 : Y * (X / Y) = X / Y * Y := Int.mul_comm _ _
  have a7 : 0 ≤ X / Y * Y := Int.mul_nonneg a4 (Int.le_of_lt hY)
  omega
theorem td_neg {X Y : Int} (hY : 0 < Y) (hX : X < 0) : X ≤ X.tdiv Y ∧ X.tdiv Y ≤ 0 ∧ X ≤ X.tdiv Y * Y ∧ X.tdiv Y * Y ≤ 0 ∧ X.tdiv Y * Y < X + Y := by
  have h := td_pos hY (X := -X) (by omega)
  have e : X.tdiv Y = -((-X).tdiv Y) := by rw [Int.neg_tdiv, Int.neg_neg]
  rw [e, Int.neg_mul]
  omega
theorem xorL {x y : Int64} (hy : 0 ≤ y) : 0 ≤ x ^^^ y ↔ 0 ≤ x := by
  have m : ∀ z : Int64, z.toBitVec.msb = decide (z.toInt < 0) := fun z => BitVec.msb_eq_toInt
  have e1 : (x ^^^ y).toBitVec.msb = (x.toBitVec.msb ^^ y.toBitVec.msb) := by rw [Int64.toBitVec_xor, BitVec.msb_xor]
  rw [m, m, m] at e1
  rw [Int64.le_iff_toInt_le] at hy
  rw [Int64.le_iff_toInt_le, Int64.le_iff_toInt_le]
  have z0 : (0 : Int64).toInt = 0 := rfl
  rw [z0] at hy ⊢
  rw [show decide (y.toInt < 0) = false from decide_eq_false (by omega), Bool.xor_false, decide_eq_decide] at e1
  omega
theorem xorI {x y : Int32} (hy : 0 ≤ y) : 0 ≤ x ^^^ y ↔ 0 ≤ x := by
  have m : ∀ z : Int32, z.toBitVec.msb = decide (z.toInt < 0) := fun z => BitVec.msb_eq_toInt
  have e1 : (x ^^^ y).toBitVec.msb = (x.toBitVec.msb ^^ y.toBitVec.msb) := by rw [Int32.toBitVec_xor, BitVec.msb_xor]
  rw [m, m, m] at e1
  rw [Int32.le_iff_toInt_le] at hy
  rw [Int32.le_iff_toInt_le, Int32.le_iff_toInt_le]
  have z0 : (0 : Int32).toInt = 0 := rfl
  rw [z0] at hy ⊢
  rw [show decide (y.toInt < 0) = false from decide_eq_false (by omega), Bool.xor_false, decide_eq_decide] at e1
  omega
theorem bm64 {x : Int} (h1 : -9223372036854775808 ≤ x) (h2 : x < 9223372036854775808) : x.bmod (2 ^ 64) = x := Int.bmod_eq_of_le (by omega) (by omega)
theorem bm32 {x : Int} (h1 : -2147483648 ≤ x) (h2 : x < 2147483648) : x.bmod (2 ^ 32) = x := Int.bmod_eq_of_le (by omega) (by omega)
theorem tdL {x y : Int64} (hy : 0 < y.toInt) : (x / y).toInt = x.toInt.tdiv y.toInt ∧ (x / y * y).toInt = x.toInt.tdiv y.toInt * y.toInt ∧ (x - x / y * y).toInt = x.toInt - x.toInt.tdiv y.toInt * y.toInt := by
  have hx := lN64 (v := x)
  have p1 := fun h => td_pos hy (X := x.toInt) h
  have p2 := fun h => td_neg hy (X := x.toInt) h
  have hc : (0 ≤ x.toInt) ∨ x.toInt < 0 := by omega
  have e1 : (x / y).toInt = x.toInt.tdiv y.toInt := by
    rw [Int64.toInt_div]
    rcases hc with h | h
    · have := p1 h; exact bm64 (by omega) (by omega)
    · have := p2 h; exact bm64 (by omega) (by omega)
  have e2 : (x / y * y).toInt = x.toInt.tdiv y.toInt * y.toInt := by
    rw [Int64.toInt_mul, e1]
    rcases hc with h | h
    · have := p1 h; exact bm64 (by omega) (by omega)
    · have := p2 h; exact bm64 (by omega) (by omega)
  refine ⟨e1, e2, ?_⟩
  rw [Int64.toInt_sub, e2]
  have hy2 := lN64 (v := y)
  rcases hc with h | h
  · have := p1 h; exact bm64 (by omega) (by omega)
  · have := p2 h; exact bm64 (by omega) (by omega)
theorem tdI {x y : Int32} (hy : 0 < y.toInt) : (x / y).toInt = x.toInt.tdiv y.toInt ∧ (x / y * y).toInt = x.toInt.tdiv y.toInt * y.toInt := by
  have hx1 := Int32.le_toInt x
  have hx2 := Int32.toInt_lt x
  have p1 := fun h => td_pos hy (X := x.toInt) h
  have p2 := fun h => td_neg hy (X := x.toInt) h
  have hc : (0 ≤ x.toInt) ∨ x.toInt < 0 := by omega
  have e1 : (x / y).toInt = x.toInt.tdiv y.toInt := by
    rw [Int32.toInt_div]
    rcases hc with h | h
    · have := p1 h; exact bm32 (by omega) (by omega)
    · have := p2 h; exact bm32 (by omega) (by omega)
  refine ⟨e1, ?_⟩
  rw [Int32.toInt_mul, e1]
  rcases hc with h | h
  · have := p1 h; exact bm32 (by omega) (by omega)
  · have := p2 h; exact bm32 (by omega) (by omega)
theorem le0L {x : Int64} : 0 ≤ x ↔ 0 ≤ x.toInt := Int64.le_iff_toInt_le
theorem le0I {x : Int32} : 0 ≤ x ↔ 0 ≤ x.toInt := Int32.le_iff_toInt_le
theorem jm64 {x y : Int64} (hy : 0 < y.toInt) : jFdL x y = mDn x y := by
  obtain ⟨e1, e2, e3⟩ := tdL (x := x) hy
  have h0 : 0 ≤ y := le0L.mpr (by omega)
  unfold jFdL mDn
  by_cases hx : 0 ≤ x
  · have := td_pos hy (le0L.mp hx)
    rw [if_pos ((xorL h0).mpr hx), if_pos (le0L.mpr (by rw [e3]; omega))]
  · have hx' : x.toInt < 0 := by rw [le0L] at hx; omega
    have := td_neg hy hx'
    rw [if_neg (fun q => hx ((xorL h0).mp q))]
    by_cases hz : x / y * y = x
    · rw [if_pos hz, if_pos (le0L.mpr (by rw [e3, ← e2, hz]; omega))]
    · have hz' : ¬ x.toInt.tdiv y.toInt * y.toInt = x.toInt := fun q => hz (Int64.toInt_inj.mp (e2.trans q))
      rw [if_neg hz, if_neg (fun q => by rw [le0L, e3] at q; omega)]
theorem jm32 {x y : Int32} (hy : 0 < y.toInt) : jFd x y = mDnI x y := by
  have hy' : 0 < y.toInt64.toInt := by rw [Int32.toInt_toInt64]; exact hy
  obtain ⟨e1, e2, e3⟩ := tdL (x := x.toInt64) hy'
  obtain ⟨f1, f2⟩ := tdI (x := x) hy
  rw [Int32.toInt_toInt64, Int32.toInt_toInt64] at e1 e2 e3
  have h0 : 0 ≤ y := le0I.mpr (by omega)
  have eq : (x.toInt64 / y.toInt64).toInt32 = x / y := by
    apply Int32.toInt_inj.mp
    rw [Int64.toInt_toInt32, e1, Int32.toInt_div]
  unfold jFd mDnI mDn
  by_cases hx : 0 ≤ x
  · have := td_pos hy (le0I.mp hx)
    rw [if_pos ((xorI h0).mpr hx), if_pos (le0L.mpr (by rw [e3]; omega)), eq]
  · have hx' : x.toInt < 0 := by rw [le0I] at hx; omega
    have := td_neg hy hx'
    rw [if_neg (fun q => hx ((xorI h0).mp q))]
    by_cases hz : x / y * y = x
    · have hz' : x.toInt.tdiv y.toInt * y.toInt = x.toInt := by rw [← f2, hz]
      rw [if_pos hz, if_pos (le0L.mpr (by rw [e3]; omega)), eq]
    · have hz' : ¬ x.toInt.tdiv y.toInt * y.toInt = x.toInt := fun q => hz (Int32.toInt_inj.mp (f2.trans q))
      rw [if_neg hz, if_neg (fun q => by rw [le0L, e3] at q; omega), Int64.toInt32_sub, eq]
      rfl
theorem jm256 (x : Int32) : jFd x 256 = mDnI x 256 := jm32 (by decide)
theorem jm16 (x : Int32) : jFd x 16 = mDnI x 16 := jm32 (by decide)
theorem jm2 (x : Int32) : jFd x 2 = mDnI x 2 := jm32 (by decide)
theorem jm4096 (x : Int64) : jFdL x 4096 = mDn x 4096 := jm64 (by decide)
theorem jm16384 (x : Int64) : jFdL x 16384 = mDn x 16384 := jm64 (by decide)
theorem flt_2 {tp : Nat → Int32} {g : Int → Int32} {n f t : Nat} (ht : 0 < t) : flt2 tp g n f t = flt tp g n f t := by
  unfold flt2 flt
  by_cases h : f = t
  · rw [if_pos h, if_pos h, h, Nat.mul_div_cancel _ ht]
  · rw [if_neg h, if_neg h, jm16384]
theorem leastN (P : Nat → Prop) (N : Nat) (h : ¬ P N) : ∃ n, n ≤ N ∧ (∀ i, i < n → P i) ∧ ¬ P n := by
  induction N using Nat.strongRecOn with
  | _ N ih =>
    by_cases hx : ∃ i, i < N ∧ ¬ P i
    · obtain ⟨i, hi, hn⟩ := hx
      obtain ⟨n, h1, h2, h3⟩ := ih i hi hn
      exact ⟨n, by omega, h2, h3⟩
    · exact ⟨N, Nat.le_refl _, fun i hi => Classical.not_not.mp (fun q => hx ⟨i, hi, q⟩), h⟩
theorem lnE (x rr : Nat) : (if rr = 48000 then x else x * rr / 48000 + 8) = x * rr / 48000 + (if rr = 48000 then 0 else 8) := by
  by_cases h : rr = 48000
  · rw [if_pos h, if_pos h, h, Nat.mul_div_cancel _ (by decide)]; rfl
  · rw [if_neg h, if_neg h]
theorem lnE2 (x rr : Nat) (h0 : 0 < rr) : (if 48000 = rr then x else x * 48000 / rr + 8) = x * 48000 / rr + (if 48000 = rr then 0 else 8) := by
  by_cases h : 48000 = rr
  · rw [if_pos h, if_pos h, h, Nat.mul_div_cancel _ h0]; rfl
  · rw [if_neg h, if_neg h]
