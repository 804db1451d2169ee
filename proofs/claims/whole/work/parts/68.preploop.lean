/-! ===== prepare: all clients ===== -/
theorem mdn_b (x : Int32) : -8388608 ≤ (mDnI x 256).toInt ∧ (mDnI x 256).toInt ≤ 8388608 := by
  rw [← jm256]
  obtain ⟨f1, f2⟩ := tdI (x := x) (y := 256) (by decide)
  have hx1 := Int32.le_toInt x
  have hx2 := Int32.toInt_lt x
  have e256 : (256 : Int32).toInt = 256 := by decide
  rw [e256] at f1 f2
  unfold jFd
  by_cases hx : 0 ≤ x
  · have := td_pos (X := x.toInt) (Y := 256) (by decide) (le0I.mp hx)
    rw [if_pos ((xorI (by decide)).mpr hx), f1]
    omega
  · have hx' : x.toInt < 0 := by rw [le0I] at hx; omega
    have := td_neg (X := x.toInt) (Y := 256) (by decide) hx'
    rw [if_neg (fun z => hx ((xorI (by decide)).mp z))]
    by_cases hz : x / 256 * 256 = x
    · rw [if_pos hz, f1]; omega
    · have hz' : ¬ x.toInt.tdiv 256 * 256 = x.toInt := fun z => hz (Int32.toInt_inj.mp (f2.trans z))
      rw [if_neg hz, Int32.toInt_sub, f1, show (1 : Int32).toInt = 1 from rfl, bm32 (by omega) (by omega)]
      omega
def sumR (Ua V : Nat → Nat → Int32) (c : Nat) : Prop := ∀ j, j < 24 → (Ua 4 (2 * j) = V 836 j ∧ Ua 4 (2 * j + 1) = V 837 j) ∧ (-(8388608 * (c : Int)) ≤ (V 836 j).toInt ∧ (V 836 j).toInt ≤ 8388608 * (c : Int)) ∧ (-(8388608 * (c : Int)) ≤ (V 837 j).toInt ∧ (V 837 j).toInt ≤ 8388608 * (c : Int))
theorem sum_b {a x : Int32} {c : Nat} (hc : c < 6) (h : -(8388608 * (c : Int)) ≤ a.toInt ∧ a.toInt ≤ 8388608 * (c : Int)) : -(8388608 * ((c + 1 : Nat) : Int)) ≤ (a + mDnI x 256).toInt ∧ (a + mDnI x 256).toInt ≤ 8388608 * ((c + 1 : Nat) : Int) := by
  have := mdn_b x
  rw [Int32.toInt_add, bm32 (by omega) (by omega)]
  omega
def agH (Ui : Nat → Nat → Int32) (Uj : Nat → Nat → Int64) (Ua : Nat → Nat → Int32) (V : Nat → Nat → Int32) (Ui' : Nat → Nat → Int32) (Uj' : Nat → Nat → Int64) (Ua' : Nat → Nat → Int32) (V' : Nat → Nat → Int32) : Prop := (∀ j, j < 100 → (∀ f, Ui' j f = Ui j f) ∧ (∀ f, Uj' j f = Uj j f) ∧ (j ≠ 3 → j ≠ 4 → Ua' j = Ua j)) ∧ (∀ f, f ∈ [801, 825, 826, 828, 829, 830, 831] → V' f = V f)
section
variable {l : Launch} {G : GG} {b : Nat} {T1 : Sw} {E κ : Nat → Nat} {Ui : Nat → Nat → Int32} {Uj : Nat → Nat → Int64} {Ua : Nat → Nat → Int32} {V V0 : Nat → Nat → Int32} {W : Nat → Int32} {D D0 : Nat → UInt64} {q o rp : Nat}
theorem prep_loop (hst : l.stackTraces = false) (hV : RV T1 E κ Ui Uj Ua V0 W D0) (hq : q < 512) (hrp : rp < 4) (htp : ∀ i, i < 512 → Ua 1 i = V 801 i) (hs : sumR Ua V 0) (hR : ∀ d, d < 6 → clP κ Ui Uj Ua V D d o rp q) (c : Nat) (hc : c ≤ 6) :
    ∃ (Ui' : Nat → Nat → Int32) (Uj' : Nat → Nat → Int64) (Ua' V' : Nat → Nat → Int32) (D' : Nat → UInt64), (∃ X : Nat → Sw, X 0 = T1 ∧ (∀ d, d < c → cps l G b (E 30) (E 34) (E 3) (E 4) ((o + rp) % 4) (X d) (X (d + 1)) d) ∧ RV (X c) E κ Ui' Uj' Ua' V0 W D0) ∧
      (∀ (T : Sw) (Ux : Nat → Nat → Int32) (Ujx : Nat → Nat → Int64) (Uax : Nat → Nat → Int32) (Wx : Nat → Int32), Wx 824 = nI rp → RV T E κ Ux Ujx Uax V Wx D → ∃ Y : Nat → Sw, Y 0 = T ∧ (∀ d, d < c → pstep l G b (E 900) E rp (Y d) (Y (d + 1)) d) ∧ RV (Y c) E κ Ux Ujx Uax V' Wx D') ∧
      agH Ui Uj Ua V Ui' Uj' Ua' V' ∧ sumR Ua' V' c ∧ (∀ d, d < 6 → (d < c → clP κ Ui' Uj' Ua' V' D' d o (rp + 1) (q + 1)) ∧ (c ≤ d → clP κ Ui' Uj' Ua' V' D' d o rp q)) := by
  induction c with
  | zero => exact ⟨Ui, Uj, Ua, V, D, ⟨fun _ => T1, rfl, fun d hd => absurd hd (by omega), hV⟩, fun T Ux Ujx Uax Wx hw h => ⟨fun _ => T, rfl, fun d hd => absurd hd (by omega), h⟩, ⟨fun _ _ => ⟨fun _ => rfl, fun _ => rfl, fun _ _ => rfl⟩, fun _ _ => rfl⟩, hs, fun d hd => ⟨fun h => absurd h (by omega), fun _ => hR d hd⟩⟩
  | succ c ih =>
    obtain ⟨Ui', Uj', Ua', V', D', ⟨X, hX0, hXs, hXV⟩, hM, hG, hS, hRc⟩ := ih (by omega)
    have hc6 : c < 6 := by omega
    have hcl := (hRc c hc6).2 (Nat.le_refl _)
    have hcg := uc_ge c
    have chg : ∀ (S' : Sw) (Ui2 : Nat → Nat → Int32) (Uj2 : Nat → Nat → Int64) (Ua2 V2 : Nat → Nat → Int32) (D2 : Nat → UInt64) (hs : cps l G b (E 30) (E 34) (E 3) (E 4) ((o + rp) % 4) (X c) S' c) (hV2 : RV S' E κ Ui2 Uj2 Ua2 V0 W D0) (hm : ∀ (T : Sw) (Ux : Nat → Nat → Int32) (Ujx : Nat → Nat → Int64) (Uax : Nat → Nat → Int32) (Wx : Nat → Int32), Wx 824 = nI rp → RV T E κ Ux Ujx Uax V' Wx D' → ∃ T', pstep l G b (E 900) E rp T T' c ∧ RV T' E κ Ux Ujx Uax V2 Wx D2) (hG2 : agH Ui Uj Ua V Ui2 Uj2 Ua2 V2) (hS2 : sumR Ua2 V2 (c + 1)) (hag : ∀ d, d < 6 → d ≠ c → agU Ui' Uj' Ua' Ui2 Uj2 Ua2 d ∧ agV V' V2 d ∧ D2 d = D' d) (hn : clP κ Ui2 Uj2 Ua2 V2 D2 c o (rp + 1) (q + 1)),
        ∃ (Ui' : Nat → Nat → Int32) (Uj' : Nat → Nat → Int64) (Ua' V' : Nat → Nat → Int32) (D' : Nat → UInt64), (∃ X : Nat → Sw, X 0 = T1 ∧ (∀ d, d < c + 1 → cps l G b (E 30) (E 34) (E 3) (E 4) ((o + rp) % 4) (X d) (X (d + 1)) d) ∧ RV (X (c + 1)) E κ Ui' Uj' Ua' V0 W D0) ∧
          (∀ (T : Sw) (Ux : Nat → Nat → Int32) (Ujx : Nat → Nat → Int64) (Uax : Nat → Nat → Int32) (Wx : Nat → Int32), Wx 824 = nI rp → RV T E κ Ux Ujx Uax V Wx D → ∃ Y : Nat → Sw, Y 0 = T ∧ (∀ d, d < c + 1 → pstep l G b (E 900) E rp (Y d) (Y (d + 1)) d) ∧ RV (Y (c + 1)) E κ Ux Ujx Uax V' Wx D') ∧
          agH Ui Uj Ua V Ui' Uj' Ua' V' ∧ sumR Ua' V' (c + 1) ∧ (∀ d, d < 6 → (d < c + 1 → clP κ Ui' Uj' Ua' V' D' d o (rp + 1) (q + 1)) ∧ (c + 1 ≤ d → clP κ Ui' Uj' Ua' V' D' d o rp q)) := by
      intro S' Ui2 Uj2 Ua2 V2 D2 hs hV2 hm hG2 hS2 hag hn
      obtain ⟨X', a1, a2, a3⟩ := ch_ext hXs hs
      refine ⟨Ui2, Uj2, Ua2, V2, D2, ⟨X', a1.trans hX0, a2, by rw [a3]; exact hV2⟩, fun T Ux Ujx Uax Wx hw h => ?_, hG2, hS2, fun d hd => ⟨fun h => ?_, fun h => ?_⟩⟩
      · obtain ⟨Y, y0, ys, yV⟩ := hM T Ux Ujx Uax Wx hw h
        obtain ⟨T', t1, t2⟩ := hm _ _ _ _ _ hw yV
        obtain ⟨Y', b1, b2, b3⟩ := ch_ext ys t1
        exact ⟨Y', b1.trans y0, b2, by rw [b3]; exact t2⟩
      · by_cases e : d = c
        · rw [e]; exact hn
        · exact ((hRc d hd).1 (by omega)).cg rfl (hag d hd e).1 (hag d hd e).2.1 (hag d hd e).2.2 (Nat.le_refl _) (by omega) (by omega)
      · exact ((hRc d hd).2 (by omega)).cg rfl (hag d hd (by omega)).1 (hag d hd (by omega)).2.1 (hag d hd (by omega)).2.2 (Nat.le_refl _) (by omega) (by omega)
    have idle : ∀ (hk : κ c ≠ 1) (hs : cps l G b (E 30) (E 34) (E 3) (E 4) ((o + rp) % 4) (X c) (X c) c) (hm : ∀ (T : Sw) (Ux : Nat → Nat → Int32) (Ujx : Nat → Nat → Int64) (Uax : Nat → Nat → Int32) (Wx : Nat → Int32), Wx 824 = nI rp → RV T E κ Ux Ujx Uax V' Wx D' → pstep l G b (E 900) E rp T (wI T (E 827) (6 * rp + c) 0) c) (hn : clP κ Ui' Uj' Ua' (uq2 V' 827 (6 * rp + c) 0) D' c o (rp + 1) (q + 1)),
        ∃ (Ui' : Nat → Nat → Int32) (Uj' : Nat → Nat → Int64) (Ua' V' : Nat → Nat → Int32) (D' : Nat → UInt64), (∃ X : Nat → Sw, X 0 = T1 ∧ (∀ d, d < c + 1 → cps l G b (E 30) (E 34) (E 3) (E 4) ((o + rp) % 4) (X d) (X (d + 1)) d) ∧ RV (X (c + 1)) E κ Ui' Uj' Ua' V0 W D0) ∧
          (∀ (T : Sw) (Ux : Nat → Nat → Int32) (Ujx : Nat → Nat → Int64) (Uax : Nat → Nat → Int32) (Wx : Nat → Int32), Wx 824 = nI rp → RV T E κ Ux Ujx Uax V Wx D → ∃ Y : Nat → Sw, Y 0 = T ∧ (∀ d, d < c + 1 → pstep l G b (E 900) E rp (Y d) (Y (d + 1)) d) ∧ RV (Y (c + 1)) E κ Ux Ujx Uax V' Wx D') ∧
          agH Ui Uj Ua V Ui' Uj' Ua' V' ∧ sumR Ua' V' (c + 1) ∧ (∀ d, d < 6 → (d < c + 1 → clP κ Ui' Uj' Ua' V' D' d o (rp + 1) (q + 1)) ∧ (c + 1 ≤ d → clP κ Ui' Uj' Ua' V' D' d o rp q)) := by
      intro hk hs hm hn
      refine chg (X c) Ui' Uj' Ua' (uq2 V' 827 (6 * rp + c) 0) D' hs hXV (fun T Ux Ujx Uax Wx hw h => ⟨_, hm T Ux Ujx Uax Wx hw h, h.mI (by decide)⟩) ⟨hG.1, fun f hf => ?_⟩ (fun j hj => ?_) (fun d hd hne => ⟨agU.rf, agV.rf.oo hd hc6 hne, rfl⟩) hn
      · have z : ∀ f ∈ [801, 825, 826, 828, 829, 830, 831], f ≠ 827 := by decide
        rw [uq2_row (z f hf)]; exact hG.2 f hf
      · have := hS j hj
        rw [uq2_row (by decide), uq2_row (by decide)]
        exact ⟨this.1, by omega, by omega⟩
    rcases hcl with ⟨h1, h2, h3⟩ | ⟨h1, h2, h3, n, nx, hd, rr, P⟩ | ⟨h1, h2, h3, h4, h, rk, rr, rd, wh, h5⟩
    · refine idle (by rw [h1]; decide) ⟨hXV.kN, Or.inl ⟨hXV.st0 hc6 h1, rfl⟩⟩ (fun T Ux Ujx Uax Wx hw hT => ⟨hT.ly, (hT.w (by decide)).trans hw, Or.inl ⟨rfl, (hT.m (by decide) c).trans h2⟩⟩) (Or.inl ⟨h1, by rw [uq2_row (by decide)]; exact h2, fun p hp => ?_⟩)
      by_cases e : p = rp
      · rw [e]; exact uq2_eq
      · rw [uq2_ne (by omega)]; exact h3 p (by omega)
    · obtain ⟨f, g, nx', st, lt, lL, lR, gv, hgs⟩ := gvS_ex V' c n nx rr
      have tp' : ∀ i, i < 512 → Ua' 1 i = V' 801 i := fun i hi => by rw [(hG.1 1 (by decide)).2.2 (by decide) (by decide), hG.2 801 (by decide)]; exact htp i hi
      obtain ⟨S', hS1, Ui2, Uj2, Ua2, hV2, hC2⟩ := give_C (l := l) (G := G) (b := b) hst hXV hc6 h1 P tp' hq hgs
      obtain ⟨V2, hM2, hT2⟩ := give_M (l := l) (G := G) (b := b) (E := E) (κ := κ) hst hc6 P h2 h3 hq hgs
      refine chg S' Ui2 Uj2 Ua2 V2 (uq1 D' c (FP.ddiv (FP.l2d (sqs f g 24)) 4631952216750555136)) hS1 hV2 (fun T Ux Ujx Uax Wx hw hT => hT2 T Ux Ujx Uax Wx D' hw hT) ⟨fun j hj => ⟨fun x => ?_, fun x => ?_, fun n3 n4 => ?_⟩, fun f hf => ?_⟩ (fun j hj => ?_) (fun d hd hne => ⟨hC2.ag hne, hM2.ag hc6 hd hne, if_neg hne⟩) (Or.inr (Or.inl ⟨h1, ?_, ?_, n, nx', hd, rr, P.give hgs hC2 hM2 (if_pos rfl) hrp⟩))
      · rw [hC2.1.2.2.2.2 j x (Or.inl (by omega))]; exact (hG.1 j hj).1 x
      · rw [hC2.2.1.2.2 j x (Or.inl (by omega))]; exact (hG.1 j hj).2.1 x
      · rw [hC2.2.2.2.2.1 j n3 n4 (by omega)]; exact (hG.1 j hj).2.2 n3 n4
      · have z : ∀ f ∈ [801, 825, 826, 828, 829, 830, 831], f ∉ [808, 809, 815, 816, 817, 827, 836, 837, 838, 839] := by decide
        rw [hM2.2.1 f (z f hf)]; exact hG.2 f hf
      · obtain ⟨⟨s1, s2⟩, s3, s4⟩ := hS j hj
        obtain ⟨a1, a2⟩ := hC2.2.2.2.2.2 j hj
        obtain ⟨m1, m2⟩ := hM2.2.2.2.2 j hj
        rw [a1, a2, m1, m2, s1, s2]
        exact ⟨⟨rfl, rfl⟩, sum_b hc6 s3, sum_b hc6 s4⟩
      · rw [hM2.2.1 802 (by decide)]; exact h2
      · rw [hM2.2.1 803 (by decide)]; exact h3
    · have p := hXV.st4 hc6 h1
      refine idle (by rw [h1]; decide) ⟨hXV.kN, Or.inr (Or.inl ⟨_, p.1, p.2.1, rfl⟩)⟩ (fun T Ux Ujx Uax Wx hw hT => ⟨hT.ly, (hT.w (by decide)).trans hw, Or.inr (Or.inl ⟨rfl, by rw [hT.m (by decide)]; exact h2, (hT.m (by decide) c).trans h3⟩)⟩) (Or.inr (Or.inr ⟨h1, by rw [uq2_row (by decide)]; exact h2, by rw [uq2_row (by decide)]; exact h3, fun p hp => ?_, h, rk, rr, rd, wh, (h5.fe (V' := uq2 V' 827 (6 * rp + c) 0) (fun f hf => ?_)).cg agU.rf agV.rf (by omega) (by omega)⟩))
      · by_cases e : p = rp
        · rw [e]; exact uq2_eq
        · rw [uq2_ne (by omega)]; exact h4 p (by omega)
      · have z : ∀ f ∈ [801, 804, 805, 806, 808, 809, 810, 811, 812, 813, 820, 821, 822, 823], f ≠ 827 := by decide
        exact uq2_row (z f hf)
end
