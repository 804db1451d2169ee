/-! ===== the limiter: the class's and the reference's ===== -/
theorem i32r (x : Int32) : -2147483648 ≤ x.toInt ∧ x.toInt < 2147483648 := ⟨Int32.le_toInt x, Int32.toInt_lt x⟩
theorem abs_sz {a : Int32} (h : -2147483648 < a.toInt) : (jAbs a).toInt64 = mSz a ∧ 0 ≤ (jAbs a).toInt := by
  have r := i32r a
  unfold jAbs mSz
  by_cases e : 0 ≤ a
  · rw [if_pos e, if_pos e]; exact ⟨rfl, le0I.mp e⟩
  · have e' : a.toInt < 0 := by rw [le0I] at e; omega
    have en : (-a).toInt = -a.toInt := by rw [Int32.toInt_neg, bm32 (by omega) (by omega)]
    rw [if_neg e, if_neg e]
    refine ⟨Int64.toInt_inj.mp ?_, by omega⟩
    rw [Int32.toInt_toInt64, en, Int64.toInt_neg, Int32.toInt_toInt64, bm64 (by omega) (by omega)]
theorem mx_sz {a b : Int32} (ha : -2147483648 < a.toInt) (hb : -2147483648 < b.toInt) : (jMax (jAbs a) (jAbs b)).toInt64 = lfM a b ∧ 0 ≤ (jMax (jAbs a) (jAbs b)).toInt := by
  obtain ⟨a1, a2⟩ := abs_sz ha
  obtain ⟨b1, b2⟩ := abs_sz hb
  unfold jMax lfM
  rw [← a1, ← b1]
  have hl : ((jAbs a).toInt64 ≤ (jAbs b).toInt64) ↔ (jAbs a).toInt ≤ (jAbs b).toInt := by rw [Int64.le_iff_toInt_le, Int32.toInt_toInt64, Int32.toInt_toInt64]
  by_cases e : jAbs a < jAbs b
  · rw [if_pos e, if_pos (hl.mpr (by rw [Int32.lt_iff_toInt_lt] at e; omega))]; exact ⟨rfl, b2⟩
  · rw [if_neg e]
    refine ⟨?_, a2⟩
    rw [Int32.lt_iff_toInt_lt] at e
    by_cases e2 : (jAbs a).toInt64 ≤ (jAbs b).toInt64
    · rw [if_pos e2, show jAbs a = jAbs b from Int32.toInt_inj.mp (by have := hl.mp e2; omega)]
    · rw [if_neg e2]
theorem rec_eq {F : Int32} {M : Nat} (hM : M < 2 ^ 20) : lmR F (lN M) = lfV1 F (nI M) := by
  unfold lmR lfV1
  have c1 : (lN M - lN M / 32 * 32 = 0) ↔ M - M / 32 * 32 = 0 := by
    rw [show (32 : Int64) = lN 32 from rfl, pk_lDiv (by omega) (by decide) (by decide), lN_mul, lN_sub (Nat.div_mul_le_self M 32), show (0 : Int64) = lN 0 from rfl, lN_eq (by omega) (by decide)]
  have c2 : (nI M - nI M / 32 * 32 = 0) ↔ M - M / 32 * 32 = 0 := by
    rw [show (32 : Int32) = nI 32 from rfl, pk_div (by omega) (by decide) (by decide), pk_mul, pk_sub (Nat.div_mul_le_self M 32), show (0 : Int32) = nI 0 from rfl, nI_eq (by omega) (by decide)]
  by_cases e : M - M / 32 * 32 = 0
  · rw [if_pos (c1.mpr e), if_pos (c2.mpr e)]
    unfold jMin
    by_cases e2 : F + 16 ≤ 4096
    · rw [if_pos e2]
      by_cases e3 : F + 16 < 4096
      · rw [if_pos e3]
      · rw [if_neg e3]
        rw [Int32.le_iff_toInt_le] at e2
        rw [Int32.lt_iff_toInt_lt] at e3
        exact Int32.toInt_inj.mp (by omega)
    · rw [if_neg e2, if_neg (fun z => e2 (by rw [Int32.le_iff_toInt_le]; rw [Int32.lt_iff_toInt_lt] at z; omega))]
  · rw [if_neg (fun z => e (c1.mp z)), if_neg (fun z => e (c2.mp z))]
theorem fac_eq {F a b : Int32} {M : Nat} (hM : M < 2 ^ 20) (ha : -2147483648 < a.toInt) (hb : -2147483648 < b.toInt) : lmY (lmR F (lN M)) (jMax (jAbs a) (jAbs b)) = lfV F (nI M) a b := by
  obtain ⟨s1, s2⟩ := mx_sz ha hb
  unfold lfV
  rw [rec_eq hM, ← s1]
  unfold lmY lfV2
  by_cases e : jMax (jAbs a) (jAbs b) ≤ 0
  · rw [if_pos e]
    have ez : jMax (jAbs a) (jAbs b) = 0 := Int32.toInt_inj.mp (by rw [Int32.le_iff_toInt_le] at e; have : (0 : Int32).toInt = 0 := rfl; omega)
    rw [ez, show (0 : Int32).toInt64 = 0 from rfl, Int64.zero_mul, if_pos (by decide)]
  · rw [if_neg e]
def ccv (v : Int32) : Int32 := if (-32768) ≤ v ∧ v ≤ 32767 then 0 else 1
theorem ct_eq (v : Int32) : ct v.toInt64 = lmC v ∧ (if v.toInt64 < (-32768) ∨ 32767 < v.toInt64 then (1 : Int32) else 0) = ccv v := by
  have r := i32r v
  have l1 : v.toInt64 < (-32768) ↔ v.toInt < -32768 := by rw [Int64.lt_iff_toInt_lt, Int32.toInt_toInt64]; exact Iff.rfl
  have l2 : 32767 < v.toInt64 ↔ 32767 < v.toInt := by rw [Int64.lt_iff_toInt_lt, Int32.toInt_toInt64]; exact Iff.rfl
  have l3 : (-32768) ≤ v ↔ -32768 ≤ v.toInt := by rw [Int32.le_iff_toInt_le]; exact Iff.rfl
  have l4 : v ≤ 32767 ↔ v.toInt ≤ 32767 := by rw [Int32.le_iff_toInt_le]; exact Iff.rfl
  have l5 : v.toInt64.toInt32 = v := Int32.toInt_inj.mp (by rw [Int64.toInt_toInt32, Int32.toInt_toInt64, bm32 (by omega) (by omega)])
  have l6 : 0 ≤ v ↔ 0 ≤ v.toInt := le0I
  unfold ct lmC ccv
  by_cases e1 : v.toInt < -32768
  · have n1 : ¬ ((-32768) ≤ v ∧ v ≤ 32767) := fun z => by have := l3.mp z.1; omega
    rw [if_pos (l1.mpr e1), if_neg n1, if_neg (fun z => by have := l6.mp z; omega), if_pos (Or.inl (l1.mpr e1)), if_neg n1]; exact ⟨rfl, rfl⟩
  · by_cases e2 : 32767 < v.toInt
    · have n1 : ¬ ((-32768) ≤ v ∧ v ≤ 32767) := fun z => by have := l4.mp z.2; omega
      rw [if_neg (fun z => e1 (l1.mp z)), if_pos (l2.mpr e2), if_neg n1, if_pos (l6.mpr (by omega)), if_pos (Or.inr (l2.mpr e2)), if_neg n1]; exact ⟨rfl, rfl⟩
    · have n1 : (-32768) ≤ v ∧ v ≤ 32767 := ⟨l3.mpr (by omega), l4.mpr (by omega)⟩
      rw [if_neg (fun z => e1 (l1.mp z)), if_neg (fun z => e2 (l2.mp z)), if_pos n1, if_neg (fun z => z.elim (fun z => e1 (l1.mp z)) (fun z => e2 (l2.mp z))), if_pos n1, l5]; exact ⟨rfl, rfl⟩
theorem lmCS_eq (T : Sw) (a : Nat) (v : Int32) : lmCS T a v = uI T 302 a (fI T 302 a + ccv v) := by
  unfold lmCS ccv
  by_cases e : (-32768) ≤ v ∧ v ≤ 32767
  · rw [if_pos e, if_pos e, Int32.add_zero, uI_self]
  · rw [if_neg e, if_neg e]
theorem ctS_eq (S : Sw) (z : Nat) (v : Int32) : ctS S z v.toInt64 = uI S 835 z (fI S 835 z + ccv v) := by
  have h := (ct_eq v).2
  unfold ctS
  by_cases e : v.toInt64 < (-32768) ∨ 32767 < v.toInt64
  · rw [if_pos e] at h; rw [if_pos e, ← h]
  · rw [if_neg e] at h; rw [if_neg e, ← h, Int32.add_zero, uI_self]
section
variable {T : Sw} {E κ : Nat → Nat} {Ui : Nat → Nat → Int32} {Uj : Nat → Nat → Int64} {Ua : Nat → Nat → Int32} {V : Nat → Nat → Int32} {W : Nat → Int32} {D : Nat → UInt64} {r k rp : Nat}
theorem lim_C (hV : RV T E κ Ui Uj Ua V W D) (hr : us κ r) (hr8 : r < 800) (hr4 : r ≠ 4) (F v1 v2 : Int32) (hF : F = if Ui 33 300 = 0 then Ui 33 301 else lmY (lmR (Ui 33 301) (Uj 33 303)) (jMax (jAbs (Ua 4 (2 * k))) (jAbs (Ua 4 (2 * k + 1))))) (h1 : v1 = lmV (Ui 33 300) F (Ua 4 (2 * k))) (h2 : v2 = lmV (Ui 33 300) F (Ua 4 (2 * k + 1))) :
    RV (lmF T (E 33) (E 4) (E r) k) E κ (uq2 (uq2 (uq2 Ui 33 301 F) 33 302 (Ui 33 302 + ccv v1)) 33 302 (Ui 33 302 + ccv v1 + ccv v2)) (uq2 Uj 33 303 (Uj 33 303 + 1)) (uq2 (uq2 Ua r (2 * k) (lmC v1)) r (2 * k + 1) (lmC v2)) V W D := by
  have b33 : us κ 33 := us.b (by decide)
  have b4 : us κ 4 := us.b (by decide)
  have e0 : (if fI T 300 (E 33) = 0 then T else lmA T (E 33) (E 4) k) = uI T 301 (E 33) F := by
    rw [hV.i b33 (by decide), hF]
    by_cases e : Ui 33 300 = 0
    · rw [if_pos e, if_pos e, ← hV.i b33 (by decide), uI_self]
    · rw [if_neg e, if_neg e]
      unfold lmA
      rw [uI_uI, hV.i b33 (by decide), hV.jj b33 (by decide), hV.a b4 (by decide), hV.a b4 (by decide), show fI (uI T 301 (E 33) (lmR (Ui 33 301) (Uj 33 303))) 301 (E 33) = lmR (Ui 33 301) (Uj 33 303) from if_pos ⟨rfl, rfl⟩]
  have hA := hV.cI (f := 301) (v := F) b33 (by decide)
  have i0 : fI (uI T 301 (E 33) F) 300 (E 33) = Ui 33 300 := (hA.i b33 (by decide) 300).trans (uq2_ne (Or.inr (by decide)))
  have i1 : fI (uI T 301 (E 33) F) 301 (E 33) = F := (hA.i b33 (by decide) 301).trans uq2_eq
  have i2 : fI (uI T 301 (E 33) F) 302 (E 33) = Ui 33 302 := (hA.i b33 (by decide) 302).trans (uq2_ne (Or.inr (by decide)))
  have g1 : lmG1 (uI T 301 (E 33) F) (E 33) (E 4) (E r) k = wI (uI (uI T 301 (E 33) F) 302 (E 33) (Ui 33 302 + ccv v1)) (E r) (2 * k) (lmC v1) := by
    unfold lmG1 lmO
    rw [i0, i1, hA.a b4 (by decide), ← h1, lmCS_eq, i2]
  have hB := (hA.cI (f := 302) (v := Ui 33 302 + ccv v1) b33 (by decide)).cA (k := 2 * k) (v := lmC v1) hr hr8
  have g2 : lmG2 (wI (uI (uI T 301 (E 33) F) 302 (E 33) (Ui 33 302 + ccv v1)) (E r) (2 * k) (lmC v1)) (E 33) (E 4) (E r) k = wI (uI (wI (uI (uI T 301 (E 33) F) 302 (E 33) (Ui 33 302 + ccv v1)) (E r) (2 * k) (lmC v1)) 302 (E 33) (Ui 33 302 + ccv v1 + ccv v2)) (E r) (2 * k + 1) (lmC v2) := by
    unfold lmG2 lmO
    rw [hB.i b33 (by decide) 300, hB.i b33 (by decide) 301, hB.a b4 (by decide), uq2_ne (a := 4) (Or.inl (fun e => hr4 e.symm)), uq2_ne (a := 33) (c := 300) (by omega), uq2_ne (a := 33) (c := 300) (by omega), uq2_ne (a := 33) (c := 301) (by omega), uq2_eq, ← h2, lmCS_eq, hB.i b33 (by decide) 302, uq2_eq]
  have hC := (hB.cI (f := 302) (v := Ui 33 302 + ccv v1 + ccv v2) b33 (by decide)).cA (k := 2 * k + 1) (v := lmC v2) hr hr8
  unfold lmF
  rw [e0]
  unfold lmG
  rw [g1, g2, hC.jj b33 (by decide)]
  exact hC.cJ b33 (by decide)
theorem lim_M (hV : RV T E κ Ui Uj Ua V W D) (F x1 x2 : Int32) (hF : F = if W 832 = 0 then W 833 else lfV (W 833) (W 834) (V 836 k) (V 837 k)) (h1 : x1 = if W 832 = 0 then V 836 k else lfO (V 836 k) F) (h2 : x2 = if W 832 = 0 then V 837 k else lfO (V 837 k) F) :
    RV (mFr T (E 900) E rp k) E κ Ui Uj Ua (uq2 (uq2 (uq2 (uq2 V 836 k x1) 837 k x2) 825 (24 * rp + k) (lmC x1)) 826 (24 * rp + k) (lmC x2)) (uq1 (uq1 (uq1 (uq1 W 833 F) 834 (W 834 + 1)) 835 (W 835 + ccv x1)) 835 (W 835 + ccv x1 + ccv x2)) D := by
  have e0 : (if fI T 832 (E 900) = 0 then T else mLf T (E 900) E k) = wI (wI (uI T 833 (E 900) F) (E 836) k x1) (E 837) k x2 := by
    rw [hV.w (by decide), hF, h1, h2]
    by_cases e : W 832 = 0
    · rw [if_pos e, if_pos e, if_pos e, if_pos e, ← hV.w (f := 833) (by decide), uI_self, ← hV.m (f := 836) (by decide) k, wI_self, ← hV.m (f := 837) (by decide) k, wI_self]
    · rw [if_neg e, if_neg e, if_neg e, if_neg e, hF, if_neg e]
      unfold mLf
      rw [hV.w (by decide), hV.w (by decide), hV.m (f := 836) (by decide), hV.m (f := 837) (by decide)]
  have hA := ((hV.mU (f := 833) (v := F)).mI (f := 836) (k := k) (v := x1) (by decide)).mI (f := 837) (k := k) (v := x2) (by decide)
  have w4 : fI (wI (wI (uI T 833 (E 900) F) (E 836) k x1) (E 837) k x2) 834 (E 900) = W 834 := (hA.w (by decide)).trans (if_neg (by decide))
  have hB := hA.mU (f := 834) (v := W 834 + 1)
  have a1 : aI (uI (wI (wI (uI T 833 (E 900) F) (E 836) k x1) (E 837) k x2) 834 (E 900) (W 834 + 1)) (E 836) k = x1 := (hB.m (by decide) k).trans ((uq2_ne (Or.inl (by decide))).trans uq2_eq)
  have w5 : fI (uI (wI (wI (uI T 833 (E 900) F) (E 836) k x1) (E 837) k x2) 834 (E 900) (W 834 + 1)) 835 (E 900) = W 835 := (hB.w (by decide)).trans ((if_neg (by decide)).trans (if_neg (by decide)))
  have hC := (hB.mU (f := 835) (v := W 835 + ccv x1)).mI (f := 825) (k := 24 * rp + k) (v := lmC x1) (by decide)
  have a2 : aI (wI (uI (uI (wI (wI (uI T 833 (E 900) F) (E 836) k x1) (E 837) k x2) 834 (E 900) (W 834 + 1)) 835 (E 900) (W 835 + ccv x1)) (E 825) (24 * rp + k) (lmC x1)) (E 837) k = x2 := (hC.m (by decide) k).trans ((uq2_ne (Or.inl (by decide))).trans uq2_eq)
  have w6 : fI (wI (uI (uI (wI (wI (uI T 833 (E 900) F) (E 836) k x1) (E 837) k x2) 834 (E 900) (W 834 + 1)) 835 (E 900) (W 835 + ccv x1)) (E 825) (24 * rp + k) (lmC x1)) 835 (E 900) = W 835 + ccv x1 := (hC.w (by decide)).trans (if_pos rfl)
  have cs1 : ctS (uI (wI (wI (uI T 833 (E 900) F) (E 836) k x1) (E 837) k x2) 834 (E 900) (W 834 + 1)) (E 900) x1.toInt64 = uI (uI (wI (wI (uI T 833 (E 900) F) (E 836) k x1) (E 837) k x2) 834 (E 900) (W 834 + 1)) 835 (E 900) (W 835 + ccv x1) := by rw [ctS_eq, w5]
  have cs2 : ctS (wI (uI (uI (wI (wI (uI T 833 (E 900) F) (E 836) k x1) (E 837) k x2) 834 (E 900) (W 834 + 1)) 835 (E 900) (W 835 + ccv x1)) (E 825) (24 * rp + k) (lmC x1)) (E 900) x2.toInt64 = uI (wI (uI (uI (wI (wI (uI T 833 (E 900) F) (E 836) k x1) (E 837) k x2) 834 (E 900) (W 834 + 1)) 835 (E 900) (W 835 + ccv x1)) (E 825) (24 * rp + k) (lmC x1)) 835 (E 900) (W 835 + ccv x1 + ccv x2) := by rw [ctS_eq, w6]
  unfold mFr
  simp only []
  rw [e0, w4, a1, cs1, (ct_eq x1).1, a2, cs2, (ct_eq x2).1]
  exact (hC.mU (f := 835)).mI (by decide)
end
def limR (Ui : Nat → Nat → Int32) (Uj : Nat → Nat → Int64) (Ua V : Nat → Nat → Int32) (W : Nat → Int32) (r rp m k : Nat) : Prop :=
  (Ui 33 300 = W 832 ∧ Ui 33 301 = W 833 ∧ Ui 33 302 = W 835 ∧ Uj 33 303 = lN (m + k) ∧ W 834 = nI (m + k)) ∧ (∀ j, j < k → Ua r (2 * j) = V 825 (24 * rp + j) ∧ Ua r (2 * j + 1) = V 826 (24 * rp + j)) ∧
  ∀ j, k ≤ j → j < 24 → (Ua 4 (2 * j) = V 836 j ∧ Ua 4 (2 * j + 1) = V 837 j) ∧ -2147483648 < (V 836 j).toInt ∧ -2147483648 < (V 837 j).toInt
section
variable {T : Sw} {E κ : Nat → Nat} {Ui : Nat → Nat → Int32} {Uj : Nat → Nat → Int64} {Ua : Nat → Nat → Int32} {V V0 : Nat → Nat → Int32} {W W0 : Nat → Int32} {D : Nat → UInt64} {r rp m : Nat}
theorem lim_loop (hV : RV T E κ Ui Uj Ua V0 W0 D) (hr : us κ r) (hr8 : r < 800) (hr4 : r ≠ 4) (hr33 : r ≠ 33) (hm : m + 24 < 2 ^ 20) (h : limR Ui Uj Ua V W r rp m 0) (k : Nat) (hk : k ≤ 24) :
    ∃ (Ui' : Nat → Nat → Int32) (Uj' : Nat → Nat → Int64) (Ua' V' : Nat → Nat → Int32) (W' : Nat → Int32), RV (lmK T (E 33) (E 4) (E r) k) E κ Ui' Uj' Ua' V0 W0 D ∧
      (∀ (T' : Sw) (Ux : Nat → Nat → Int32) (Ujx : Nat → Nat → Int64) (Uax : Nat → Nat → Int32) (Dx : Nat → UInt64), RV T' E κ Ux Ujx Uax V W Dx → RV (mFrs T' (E 900) E rp k) E κ Ux Ujx Uax V' W' Dx) ∧ limR Ui' Uj' Ua' V' W' r rp m k ∧
      (∀ a f, a ≠ 33 → Ui' a f = Ui a f) ∧ (∀ a f, a ≠ 33 → Uj' a f = Uj a f) ∧ (∀ a, a ≠ r → Ua' a = Ua a) ∧ (∀ x, x ∉ [825, 826, 836, 837] → V' x = V x) ∧ (∀ i, i < 24 * rp → V' 825 i = V 825 i ∧ V' 826 i = V 826 i) ∧ (∀ x, x ≠ 833 → x ≠ 834 → x ≠ 835 → W' x = W x) := by
  induction k with
  | zero => exact ⟨Ui, Uj, Ua, V, W, hV, fun _ _ _ _ _ h => h, h, fun _ _ _ => rfl, fun _ _ _ => rfl, fun _ _ => rfl, fun _ _ => rfl, fun _ _ => ⟨rfl, rfl⟩, fun _ _ _ _ => rfl⟩
  | succ k ih =>
    obtain ⟨Ui', Uj', Ua', V', W', hC, hM, ⟨⟨r1, r2, r3, r4, r5⟩, r6, r7⟩, a1, a2, a3, a4, a5, a6⟩ := ih (by omega)
    obtain ⟨⟨s1, s2⟩, s3, s4⟩ := r7 k (Nat.le_refl _) (by omega)
    obtain ⟨F, hF⟩ : ∃ F, F = if W' 832 = 0 then W' 833 else lfV (W' 833) (W' 834) (V' 836 k) (V' 837 k) := ⟨_, rfl⟩
    obtain ⟨x1, h1⟩ : ∃ x1, x1 = if W' 832 = 0 then V' 836 k else lfO (V' 836 k) F := ⟨_, rfl⟩
    obtain ⟨x2, h2⟩ : ∃ x2, x2 = if W' 832 = 0 then V' 837 k else lfO (V' 837 k) F := ⟨_, rfl⟩
    have cF : F = if Ui' 33 300 = 0 then Ui' 33 301 else lmY (lmR (Ui' 33 301) (Uj' 33 303)) (jMax (jAbs (Ua' 4 (2 * k))) (jAbs (Ua' 4 (2 * k + 1)))) := by
      rw [hF, r1, r2, r4, r5, s1, s2, fac_eq (by omega) s3 s4]
    have c1 : x1 = lmV (Ui' 33 300) F (Ua' 4 (2 * k)) := by
      rw [h1, r1, s1]; unfold lmV lfO; rw [jm4096]
    have c2 : x2 = lmV (Ui' 33 300) F (Ua' 4 (2 * k + 1)) := by
      rw [h2, r1, s2]; unfold lmV lfO; rw [jm4096]
    refine ⟨_, _, _, _, _, lim_C hC hr hr8 hr4 F x1 x2 cF c1 c2, fun T' Ux Ujx Uax Dx hT => lim_M (hM T' Ux Ujx Uax Dx hT) F x1 x2 hF h1 h2, ⟨⟨?_, ?_, ?_, ?_, ?_⟩, ?_, ?_⟩, ?_, ?_, ?_, ?_, ?_, ?_⟩
    · rw [uq2_ne (by omega), uq2_ne (by omega), uq2_ne (by omega), r1]; simp [uq1]
    · rw [uq2_ne (by omega), uq2_ne (by omega), uq2_eq]; simp [uq1]
    · rw [uq2_eq, r3]; simp [uq1]
    · rw [uq2_eq, r4, lN_1]; rfl
    · have e4 : uq1 (uq1 (uq1 (uq1 W' 833 F) 834 (W' 834 + 1)) 835 (W' 835 + ccv x1)) 835 (W' 835 + ccv x1 + ccv x2) 834 = W' 834 + 1 := by simp [uq1]
      rw [e4, r5, nI_1]; rfl
    · intro j hj
      by_cases e : j = k
      · rw [e, uq2_ne (a := r) (c := 2 * k) (by omega), uq2_eq, uq2_eq, uq2_ne (a := 825) (by omega), uq2_eq, uq2_eq]; exact ⟨rfl, rfl⟩
      · rw [uq2_ne (a := r) (c := 2 * j) (by omega), uq2_ne (a := r) (c := 2 * j) (by omega), uq2_ne (a := r) (c := 2 * j + 1) (by omega), uq2_ne (a := r) (c := 2 * j + 1) (by omega), uq2_ne (a := 825) (by omega), uq2_ne (a := 825) (by omega), uq2_ne (a := 825) (by omega), uq2_ne (a := 825) (by omega), uq2_ne (a := 826) (by omega), uq2_ne (a := 826) (by omega), uq2_ne (a := 826) (by omega), uq2_ne (a := 826) (by omega)]
        exact r6 j (by omega)
    · intro j hj1 hj2
      rw [uq2_row (fun e => hr4 e.symm), uq2_row (fun e => hr4 e.symm), uq2_row (a := 836) (by decide), uq2_row (a := 836) (by decide), uq2_row (a := 836) (by decide), uq2_ne (a := 836) (by omega), uq2_row (a := 837) (by decide), uq2_row (a := 837) (by decide), uq2_ne (a := 837) (by omega), uq2_row (a := 837) (by decide)]
      exact r7 j (by omega) hj2
    · intro a f ha; rw [uq2_ne (Or.inl ha), uq2_ne (Or.inl ha), uq2_ne (Or.inl ha)]; exact a1 a f ha
    · intro a f ha; rw [uq2_ne (Or.inl ha)]; exact a2 a f ha
    · intro a ha; rw [uq2_row ha, uq2_row ha]; exact a3 a ha
    · intro x hx
      have : x ≠ 825 ∧ x ≠ 826 ∧ x ≠ 836 ∧ x ≠ 837 := ⟨fun e => hx (by rw [e]; decide), fun e => hx (by rw [e]; decide), fun e => hx (by rw [e]; decide), fun e => hx (by rw [e]; decide)⟩
      rw [uq2_row this.2.1, uq2_row this.1, uq2_row this.2.2.2, uq2_row this.2.2.1]; exact a4 x hx
    · intro i hi
      rw [uq2_row (a := 825) (by decide), uq2_ne (a := 825) (by omega), uq2_row (a := 825) (by decide), uq2_row (a := 825) (by decide), uq2_ne (a := 826) (by omega), uq2_row (a := 826) (by decide), uq2_row (a := 826) (by decide), uq2_row (a := 826) (by decide)]; exact a5 i hi
    · intro x e1 e2 e3
      simp only [uq1]
      rw [if_neg e3, if_neg e3, if_neg e2, if_neg e1]; exact a6 x e1 e2 e3
end
