/-! ===== steps: the form; refusals; questions ===== -/
def St2 {α : Type} (z : Nat) (A : (Int32 → Sw → Prop) → Prop) (B : Sw → (α → Sw → Prop) → Prop) (F : Int32 → α → Sw → Prop) : Prop := ∃ P, A P ∧ ∀ r T, P r T → ∃ Pm, B T Pm ∧ sK T z = 8 ∧ ∀ v T', Pm v T' → F r v T'
def FinI (k z out outD q : Nat) (r v : Int32) (T : Sw) : Prop := fI T 800 z = r ∧ (r = 0 → aJ T out 0 = v.toInt64) ∧ Rl T k z out outD (q + 1)
def FinW (k z out outD q : Nat) (r v : Int32) (T : Sw) : Prop := fI T 800 z = r ∧ (r = 0 → aJ T out 0 = if v = 0 then 0 else 1) ∧ Rl T k z out outD (q + 1)
def FinD (k z out outD q : Nat) (r : Int32) (v : UInt64) (T : Sw) : Prop := fI T 800 z = r ∧ (r = 0 → aD T outD 0 = v) ∧ Rl T k z out outD (q + 1)
def FinV (k z out outD q : Nat) (r : Int32) (_ : Unit) (T : Sw) : Prop := fI T 800 z = r ∧ Rl T k z out outD (q + 1)
def FinE (k z out outD q : Nat) (r v : Int32) (T : Sw) : Prop := v = r ∧ Rl T k z out outD (q + 1)
section
variable {S : Sw} {E κ : Nat → Nat} {Ui : Nat → Nat → Int32} {Uj : Nat → Nat → Int64} {Ua : Nat → Nat → Int32} {V : Nat → Nat → Int32} {W : Nat → Int32} {D : Nat → UInt64} {o np rp m q : Nat}
theorem RV.ly (h : RV S E κ Ui Uj Ua V W D) : lay S (E 900) E := h.2.2.1
theorem RV.z8 (h : RV S E κ Ui Uj Ua V W D) : sK S (E 900) = 8 := h.2.2.1.1
theorem RV.k7 (h : RV S E κ Ui Uj Ua V W D) : sK S (E 30) = 7 := h.2.1.1.1.1
theorem RV.cl (h : RV S E κ Ui Uj Ua V W D) : fR S 702 (E 30) = some (E 34) := h.2.1.1.1.2.2.2.1
theorem RV.ic (h : RV S E κ Ui Uj Ua V W D) : isC S (E 34) 6 := h.2.1.1.2.2.2.1
theorem RV.oL (h : RV S E κ Ui Uj Ua V W D) : isL S (E 901) 1 := h.2.1.1.2.2.2.2.2.2.2.2.2.2.1
theorem RV.oDd (h : RV S E κ Ui Uj Ua V W D) : isD S (E 902) 1 := h.2.1.1.2.2.2.2.2.2.2.2.2.2.2
theorem RV.tc (h : RV S E κ Ui Uj Ua V W D) : tC S (E 32) (E 1) := h.2.1.1.2.1
theorem rejI {A : (Int32 → Sw → Prop) → Prop} {B : Sw → (Int32 → Sw → Prop) → Prop} (hV : RV S E κ Ui Uj Ua V W D) (hR : Rp κ Ui Uj Ua V W D o np rp m q) (hq : q < 512) (e v0 : Int32) (he : ¬ e = 0) (hA : A (fun r S' => S' = S ∧ r = e)) (hB : B S (fun v S' => S' = uI S 800 (E 900) e ∧ v = v0)) : St2 (E 900) A B (FinI (E 30) (E 900) (E 901) (E 902) q) := by
  refine ⟨_, hA, ?_⟩
  rintro r T ⟨rfl, rfl⟩
  refine ⟨_, hB, hV.z8, ?_⟩
  rintro v T' ⟨rfl, rfl⟩
  exact ⟨fI800, fun h => absurd h he, Rl.mk' hV.m8 (hR.idle (by omega))⟩
theorem rejW {A : (Int32 → Sw → Prop) → Prop} {B : Sw → (Int32 → Sw → Prop) → Prop} (hV : RV S E κ Ui Uj Ua V W D) (hR : Rp κ Ui Uj Ua V W D o np rp m q) (hq : q < 512) (e v0 : Int32) (he : ¬ e = 0) (hA : A (fun r S' => S' = S ∧ r = e)) (hB : B S (fun v S' => S' = uI S 800 (E 900) e ∧ v = v0)) : St2 (E 900) A B (FinW (E 30) (E 900) (E 901) (E 902) q) := by
  refine ⟨_, hA, ?_⟩
  rintro r T ⟨rfl, rfl⟩
  refine ⟨_, hB, hV.z8, ?_⟩
  rintro v T' ⟨rfl, rfl⟩
  exact ⟨fI800, fun h => absurd h he, Rl.mk' hV.m8 (hR.idle (by omega))⟩
theorem rejD {A : (Int32 → Sw → Prop) → Prop} {B : Sw → (UInt64 → Sw → Prop) → Prop} (hV : RV S E κ Ui Uj Ua V W D) (hR : Rp κ Ui Uj Ua V W D o np rp m q) (hq : q < 512) (e : Int32) (v0 : UInt64) (he : ¬ e = 0) (hA : A (fun r S' => S' = S ∧ r = e)) (hB : B S (fun v S' => S' = uI S 800 (E 900) e ∧ v = v0)) : St2 (E 900) A B (FinD (E 30) (E 900) (E 901) (E 902) q) := by
  refine ⟨_, hA, ?_⟩
  rintro r T ⟨rfl, rfl⟩
  refine ⟨_, hB, hV.z8, ?_⟩
  rintro v T' ⟨rfl, rfl⟩
  exact ⟨fI800, fun h => absurd h he, Rl.mk' hV.m8 (hR.idle (by omega))⟩
theorem rejV {A : (Int32 → Sw → Prop) → Prop} {B : Sw → (Unit → Sw → Prop) → Prop} (hV : RV S E κ Ui Uj Ua V W D) (hR : Rp κ Ui Uj Ua V W D o np rp m q) (hq : q < 512) (e : Int32) (hA : A (fun r S' => S' = S ∧ r = e)) (hB : B S (fun _ S' => S' = uI S 800 (E 900) e)) : St2 (E 900) A B (FinV (E 30) (E 900) (E 901) (E 902) q) := by
  refine ⟨_, hA, ?_⟩
  rintro r T ⟨rfl, rfl⟩
  refine ⟨_, hB, hV.z8, ?_⟩
  rintro v T' rfl
  exact ⟨fI800, Rl.mk' hV.m8 (hR.idle (by omega))⟩
theorem qryI {A : (Int32 → Sw → Prop) → Prop} {B : Sw → (Int32 → Sw → Prop) → Prop} (hV : RV S E κ Ui Uj Ua V W D) (hR : Rp κ Ui Uj Ua V W D o np rp m q) (hq : q < 512) (v : Int32) (hA : A (fun r S' => r = 0 ∧ ∃ v1 T, (T = S ∧ v1 = v) ∧ S' = wJ T (E 901) 0 v1.toInt64)) (hB : B (wJ S (E 901) 0 v.toInt64) (fun w S' => S' = uI (wJ S (E 901) 0 v.toInt64) 800 (E 900) 0 ∧ w = v)) : St2 (E 900) A B (FinI (E 30) (E 900) (E 901) (E 902) q) := by
  refine ⟨_, hA, ?_⟩
  rintro r T ⟨rfl, v1, T1, ⟨rfl, rfl⟩, rfl⟩
  refine ⟨_, hB, hV.oJ.z8, ?_⟩
  rintro w T' ⟨rfl, rfl⟩
  exact ⟨fI800, fun _ => aJ_out, Rl.mk' hV.oJ.m8 (hR.idle (by omega))⟩
/-- a player's things -/
theorem pl_u {j : Nat} (hj : j < 6) (hk : κ j = 1) {i : Nat} (hi : i < 6) : us κ (uc j + i) ∧ uc j + i < 800 := ⟨us.p hj hk hi, by have := uc_lt hj; omega⟩
theorem ls_u {j : Nat} (hj : j < 6) (hk : κ j = 2) {i : Nat} (hi : i < 8) : us κ (uc j + i) ∧ uc j + i < 800 := ⟨us.l hj hk hi, by have := uc_lt hj; omega⟩
theorem pl_vC {j n nx hd rr : Nat} (hV : RV S E κ Ui Uj Ua V W D) (hj : j < 6) (hk : κ j = 1) (hs : pst S E j) (hp : plP Ui Uj Ua V D j o rp q n nx hd rr) : vC S (E (uc j + 1)) (E 32) rr 48000 := by
  have u := pl_u (i := 1) hj hk (by omega)
  exact ⟨hs.2.2.2.2.2.1.1, hs.2.2.2.2.2.1.2, (hV.jj u.1 u.2 101).trans hp.1.2.2.1, (hV.jj u.1 u.2 102).trans hp.1.2.2.2⟩
theorem pl_fC {j n nx hd rr : Nat} (hV : RV S E κ Ui Uj Ua V W D) (hj : j < 6) (hk : κ j = 1) (hs : pst S E j) (hp : plP Ui Uj Ua V D j o rp q n nx hd rr) : fC S (E (uc j + 2)) (E (uc j + 3)) (E (uc j + 4)) n := by
  have u := pl_u (i := 2) hj hk (by omega)
  obtain ⟨-, -, -, -, -, -, ⟨g1, g2, g3, g4, g5⟩, -⟩ := hs
  exact ⟨g1, g2, g3, g4, g5, (hV.jj u.1 u.2 202).trans hp.2.2.2.2.2.1.1⟩
theorem pl_nx {j n nx hd rr : Nat} (hV : RV S E κ Ui Uj Ua V W D) (hj : j < 6) (hk : κ j = 1) (hp : plP Ui Uj Ua V D j o rp q n nx hd rr) : fJ S 512 (E (uc j)) = lN nx := by
  have u := pl_u (i := 0) hj hk (by omega)
  exact (hV.jj u.1 u.2 512).trans hp.2.2.1.1
theorem ls_vC {j h rk rr rd wh : Nat} (hV : RV S E κ Ui Uj Ua V W D) (hj : j < 6) (hk : κ j = 2) (hs : lst S E j) (hp : lsP Ui Uj Ua V j q h rk rr rd wh) : vC S (E (uc j + 1)) (E 32) 48000 rr := by
  have u := ls_u (i := 1) hj hk (by omega)
  exact ⟨hs.2.2.2.2.2.1.1, hs.2.2.2.2.2.1.2, (hV.jj u.1 u.2 101).trans hp.1.2.2.1, (hV.jj u.1 u.2 102).trans hp.1.2.2.2⟩
theorem ls_f1 {j h rk rr rd wh : Nat} (hV : RV S E κ Ui Uj Ua V W D) (hj : j < 6) (hk : κ j = 2) (hs : lst S E j) (hp : lsP Ui Uj Ua V j q h rk rr rd wh) : fC S (E (uc j + 2)) (E (uc j + 3)) (E (uc j + 4)) h := by
  have u := ls_u (i := 2) hj hk (by omega)
  obtain ⟨-, -, -, -, -, -, ⟨g1, g2, g3, g4, g5⟩, -⟩ := hs
  exact ⟨g1, g2, g3, g4, g5, (hV.jj u.1 u.2 202).trans hp.2.2.1.1⟩
theorem ls_f2 {j h rk rr rd wh : Nat} (hV : RV S E κ Ui Uj Ua V W D) (hj : j < 6) (hk : κ j = 2) (hs : lst S E j) (hp : lsP Ui Uj Ua V j q h rk rr rd wh) : fC S (E (uc j + 5)) (E (uc j + 6)) (E (uc j + 7)) (wh + rd) := by
  have u := ls_u (i := 5) hj hk (by omega)
  obtain ⟨-, -, -, -, -, -, -, ⟨g1, g2, g3, g4, g5⟩⟩ := hs
  exact ⟨g1, g2, g3, g4, g5, (hV.jj u.1 u.2 202).trans hp.2.2.2.2.1.2.2.1⟩
end
/-! ===== state, late, position, room ===== -/
section
variable {l : Launch} {G : GG} {b : Nat} {S : Sw} {k z out outD q : Nat}
theorem s_state (hst : l.stackTraces = false) (h : Rl S k z out outD q) (hq : q < 512) (c0 : Int32) : St2 z (CtW l G b yL_state cL_state 4 (some .int) [(0, 9, 12, 13)] rmL_state mI [.ref k, .int c0, .ref out] S) (fun T => Ct l G b yX8_state cX8_state 2 (some .int) rmX8_state mI [.ref z, .int c0] T) (FinI k z out outD q) := by
  obtain ⟨E, κ, Ui, Uj, Ua, V, W, D, o, np, rp, m, rfl, rfl, rfl, rfl, hV, hR⟩ := h
  by_cases hc : ∃ j, j < 6 ∧ c0 = nI j ∧ ¬ V 802 j = 0
  · obtain ⟨j, hj, rfl, hth⟩ := hc
    have hth' : ∀ v, ¬ aI (wJ S (E 901) 0 v) (E 802) j = 0 := fun v => by rw [hV.oJ.m (by decide)]; exact hth
    rcases cl_at hV hR hj hth with ⟨hk, hs, hp, n, nx, hd, rr, hpl⟩ | ⟨hk, hs, hp, hz, hh, rk, rr, rd, wh, hls⟩
    · have e1 : fI S 2 (E (uc j)) = V 808 j := (hV.i (us.p0 hj hk) (by have := uc_lt hj; omega) 2).trans hpl.2.1.2.2.1
      refine qryI hV hR hq (V 808 j) ?_ ?_
      · rw [← e1]; exact l_state_y hst S (E 30) hV.k7 (nI j) (E 901) _ (c_state_y5 hst S (E 30) (E 34) hV.k7 hV.cl hV.ic j _ hj hs.1 hs.2.1) (fun v T h => by rw [h.1]; exact hV.oL)
      · exact (m_state_y hst _ (E 900) E hV.oJ.ly j hj (hth' _)).post (fun w S' h => ⟨h.1, h.2.trans (hV.oJ.m (by decide) j)⟩)
    · have e1 : fI S 2 (E (uc j)) = V 808 j := (hV.i (us.l0 hj hk) (by have := uc_lt hj; omega) 2).trans hls.2.1.2.2.1
      refine qryI hV hR hq (V 808 j) ?_ ?_
      · rw [← e1]; exact l_state_y hst S (E 30) hV.k7 (nI j) (E 901) _ (c_state_y4 hst S (E 30) (E 34) hV.k7 hV.cl hV.ic j _ hj hs.1 hs.2.1) (fun v T h => by rw [h.1]; exact hV.oL)
      · exact (m_state_y hst _ (E 900) E hV.oJ.ly j hj (hth' _)).post (fun w S' h => ⟨h.1, h.2.trans (hV.oJ.m (by decide) j)⟩)
  · have hn := cl_no hV hR hc
    exact rejI hV hR hq 1 0 (by decide) (l_state_t1 hst S (E 30) hV.k7 c0 (E 901) (c_state_n hst S (E 30) (E 34) hV.k7 hV.cl hV.ic c0 hn.1)) (m_state_n hst S (E 900) E hV.ly c0 hn.2)
theorem s_late (hst : l.stackTraces = false) (h : Rl S k z out outD q) (hq : q < 512) (c0 : Int32) : St2 z (CtW l G b yL_late cL_late 4 (some .int) [(0, 9, 12, 13)] rmL_late mI [.ref k, .int c0, .ref out] S) (fun T => Ct l G b yX8_late cX8_late 2 (some .int) rmX8_late mI [.ref z, .int c0] T) (FinI k z out outD q) := by
  obtain ⟨E, κ, Ui, Uj, Ua, V, W, D, o, np, rp, m, rfl, rfl, rfl, rfl, hV, hR⟩ := h
  by_cases hc : ∃ j, j < 6 ∧ c0 = nI j ∧ ¬ V 802 j = 0
  · obtain ⟨j, hj, rfl, hth⟩ := hc
    have hth' : ∀ v, ¬ aI (wJ S (E 901) 0 v) (E 802) j = 0 := fun v => by rw [hV.oJ.m (by decide)]; exact hth
    rcases cl_at hV hR hj hth with ⟨hk, hs, hp, n, nx, hd, rr, hpl⟩ | ⟨hk, hs, hp, hz, hh, rk, rr, rd, wh, hls⟩
    · have e1 : fI S 3 (E (uc j)) = V 809 j := (hV.i (us.p0 hj hk) (by have := uc_lt hj; omega) 3).trans hpl.2.1.2.2.2.1
      refine qryI hV hR hq (V 809 j) ?_ ?_
      · rw [← e1]; exact l_late_y hst S (E 30) hV.k7 (nI j) (E 901) _ (c_late_y5 hst S (E 30) (E 34) hV.k7 hV.cl hV.ic j _ hj hs.1 hs.2.1) (fun v T h => by rw [h.1]; exact hV.oL)
      · exact (m_late_y hst _ (E 900) E hV.oJ.ly j hj (hth' _)).post (fun w S' h => ⟨h.1, h.2.trans (hV.oJ.m (by decide) j)⟩)
    · have e1 : fI S 3 (E (uc j)) = V 809 j := (hV.i (us.l0 hj hk) (by have := uc_lt hj; omega) 3).trans hls.2.1.2.2.2.1
      refine qryI hV hR hq (V 809 j) ?_ ?_
      · rw [← e1]; exact l_late_y hst S (E 30) hV.k7 (nI j) (E 901) _ (c_late_y4 hst S (E 30) (E 34) hV.k7 hV.cl hV.ic j _ hj hs.1 hs.2.1) (fun v T h => by rw [h.1]; exact hV.oL)
      · exact (m_late_y hst _ (E 900) E hV.oJ.ly j hj (hth' _)).post (fun w S' h => ⟨h.1, h.2.trans (hV.oJ.m (by decide) j)⟩)
  · have hn := cl_no hV hR hc
    exact rejI hV hR hq 1 0 (by decide) (l_late_t1 hst S (E 30) hV.k7 c0 (E 901) (c_late_n hst S (E 30) (E 34) hV.k7 hV.cl hV.ic c0 hn.1)) (m_late_n hst S (E 900) E hV.ly c0 hn.2)
theorem s_position (hst : l.stackTraces = false) (h : Rl S k z out outD q) (hq : q < 512) (c0 : Int32) : St2 z (CtW l G b yL_position cL_position 4 (some .int) [(0, 9, 12, 13)] rmL_position mI [.ref k, .int c0, .ref out] S) (fun T => Ct l G b yX8_position cX8_position 2 (some .int) rmX8_position mI [.ref z, .int c0] T) (FinI k z out outD q) := by
  obtain ⟨E, κ, Ui, Uj, Ua, V, W, D, o, np, rp, m, rfl, rfl, rfl, rfl, hV, hR⟩ := h
  by_cases hc : ∃ j, j < 6 ∧ c0 = nI j ∧ ¬ V 802 j = 0
  · obtain ⟨j, hj, rfl, hth⟩ := hc
    have hth' : ∀ v, ¬ aI (wJ S (E 901) 0 v) (E 802) j = 0 := fun v => by rw [hV.oJ.m (by decide)]; exact hth
    rcases cl_at hV hR hj hth with ⟨hk, hs, hp, n, nx, hd, rr, hpl⟩ | ⟨hk, hs, hp, hz, hh, rk, rr, rd, wh, hls⟩
    · have hb := hpl.2.2.2.1.2.2
      have e1 : fJ S 513 (E (uc j)) = lN hd := (hV.jj (us.p0 hj hk) (by have := uc_lt hj; omega) 513).trans hpl.2.2.2.1.1
      refine qryI hV hR hq (nI (hd * rr / 48000)) ?_ ?_
      · rw [← lN_i (hd * rr / 48000)]; exact l_position_y hst S (E 30) hV.k7 (nI j) (E 901) _ (c_position_y5 hst S (E 30) (E 34) hV.k7 hV.cl hV.ic j _ hj hs.1 hs.2.1 _ (c_place5 hst S (E (uc j)) hs.2.1 _ _ rr hs.2.2.1 (pl_vC hV hj hk hs hpl) hpl.1.1 hd e1 (by omega))) (fun v T h => by rw [h.1]; exact hV.oL)
      · exact m_position_p hst _ (E 900) E hV.oJ.ly j hj (hth' _) (by rw [hV.oJ.m (by decide)]; exact hp) hd rr ((hV.oJ.m (by decide) j).trans hpl.2.2.2.1.2.1) ((hV.oJ.m (by decide) j).trans hpl.1.2.1) (by omega) hpl.1.1
    · have e1 : fJ S 409 (E (uc j)) = lN wh := (hV.jj (us.l0 hj hk) (by have := uc_lt hj; omega) 409).trans hls.2.2.2.2.1.1
      have hM := c_place4 (l := l) (G := G) (b := b) hst S (E (uc j)) hs.2.1
      rw [e1] at hM
      refine qryI hV hR hq (nI wh) ?_ ?_
      · rw [← lN_i wh]; exact l_position_y hst S (E 30) hV.k7 (nI j) (E 901) _ (c_position_y4 hst S (E 30) (E 34) hV.k7 hV.cl hV.ic j _ hj hs.1 hs.2.1 _ hM) (fun v T h => by rw [h.1]; exact hV.oL)
      · exact (m_position_l hst _ (E 900) E hV.oJ.ly j hj (hth' _) (by rw [hV.oJ.m (by decide)]; exact hp)).post (fun w S' h => ⟨h.1, h.2.trans ((hV.oJ.m (by decide) j).trans hls.2.2.2.2.1.2.1)⟩)
  · have hn := cl_no hV hR hc
    exact rejI hV hR hq 1 0 (by decide) (l_position_t1 hst S (E 30) hV.k7 c0 (E 901) (c_position_n hst S (E 30) (E 34) hV.k7 hV.cl hV.ic c0 hn.1)) (m_position_n hst S (E 900) E hV.ly c0 hn.2)
theorem sub3 {a b f : Int32} (h : a + f = 200 + b) : 200 - (a - b) = f := by
  have e : 200 = a + f - b := by rw [h]; exact (Int32.add_sub_cancel 200 b).symm
  rw [e]
  have := Int32.add_sub_cancel
  grind
theorem sub3L {a b f : Int64} (h : a + f = 200 + b) : 200 - (a - b) = f := by
  grind
theorem free_nI {n p : Nat} (h : n ≤ p + 200) : 200 - (nI n - nI p) = nI (p + 200 - n) := sub3 (by rw [nI_add, show (200 : Int32) = nI 200 from rfl, nI_add]; congr 1; omega)
theorem free_lN {n p : Nat} (h : n ≤ p + 200) : 200 - (lN n - lN p) = lN (p + 200 - n) := sub3L (by rw [lN_add, show (200 : Int64) = lN 200 from rfl, lN_add]; congr 1; omega)
theorem rmv_nI {f : Nat} {ch hf : Int32} (hb : f < 2 ^ 31) (h : ¬ hf = 0 → 0 < f) : rmv (nI f) ch hf = nI f * ch - (if hf = 0 then 0 else 1) := by
  unfold rmv
  rw [if_pos (nI_pos' hb)]
  by_cases e : hf = 0
  · rw [if_pos e, if_pos e]
  · rw [if_neg e, if_neg e, if_neg (nI_nle (h e) hb)]
theorem pl_place {nx rr q : Nat} (hr : rtN rr) (h : nx ≤ 24 * q) (hq : q < 512) : nx * rr / 48000 ≤ nx := by
  have : rr ≤ 48000 := by unfold rtN at hr; omega
  have h2 : nx * rr ≤ nx * 48000 := Nat.mul_le_mul_left _ this
  omega
theorem s_room (hst : l.stackTraces = false) (h : Rl S k z out outD q) (hq : q < 512) (c0 : Int32) : St2 z (CtW l G b yL_room cL_room 4 (some .int) [(0, 9, 12, 13)] rmL_room mI [.ref k, .int c0, .ref out] S) (fun T => Ct l G b yX8_room cX8_room 3 (some .int) rmX8_room mI [.ref z, .int c0] T) (FinI k z out outD q) := by
  obtain ⟨E, κ, Ui, Uj, Ua, V, W, D, o, np, rp, m, rfl, rfl, rfl, rfl, hV, hR⟩ := h
  by_cases hc : ∃ j, j < 6 ∧ c0 = nI j ∧ ¬ V 802 j = 0
  · obtain ⟨j, hj, rfl, hth⟩ := hc
    have hth' : ∀ v, ¬ aI (wJ S (E 901) 0 v) (E 802) j = 0 := fun v => by rw [hV.oJ.m (by decide)]; exact hth
    rcases cl_at hV hR hj hth with ⟨hk, hs, hp, n, nx, hd, rr, hpl⟩ | ⟨hk, hs, hp, hz, hh, rk, rr, rd, wh, hls⟩
    · have hp' : ∀ v, ¬ aI (wJ S (E 901) 0 v) (E 803) j = 0 := fun v => by rw [hV.oJ.m (by decide)]; exact hp
      have u := pl_u (i := 0) hj hk (by omega)
      have e2 : fI S 2 (E (uc j)) = V 808 j := (hV.i u.1 u.2 2).trans hpl.2.1.2.2.1
      by_cases he : V 808 j = 3 ∨ V 808 j = 4
      · refine qryI hV hR hq 0 ?_ ?_
        · exact l_room_y hst S (E 30) hV.k7 (nI j) (E 901) _ (c_room_y5 hst S (E 30) (E 34) hV.k7 hV.cl hV.ic j _ hj hs.1 hs.2.1 0 (c_numbersNow5e hst S _ hs.2.1 (by rw [e2]; exact he))) (fun v T h => by rw [h.1]; exact hV.oL)
        · exact m_room_d hst _ (E 900) E hV.oJ.ly j hj (hth' _) (hp' _) (by rw [hV.oJ.m (by decide)]; rcases he with he | he <;> rw [he] <;> decide)
      · have hb := hpl.2.2.1.2.2
        have hb2 := hpl.2.2.2.2.2.1.2.2
        have h9 := hpl.2.2.2.2.2.2.2.2.1
        have h11 := hpl.2.2.2.2.2.2.2.2.2.2.1
        have h12 := hpl.2.2.2.2.2.2.2.2.2.2.2
        have hpp := pl_place hpl.1.1 hb hq
        have e0 : fI S 0 (E (uc j)) = V 805 j := (hV.i u.1 u.2 0).trans hpl.2.1.1
        have e4 : fI S 4 (E (uc j)) = V 813 j := (hV.i u.1 u.2 4).trans hpl.2.1.2.2.2.2.1
        have hM := c_numbersNow5 (l := l) (G := G) (b := b) hst S (E (uc j)) hs.2.1 _ _ rr hs.2.2.1 (pl_vC hV hj hk hs hpl) hpl.1.1 _ _ _ n hs.2.2.2.1 (pl_fC hV hj hk hs hpl) (by omega) nx (pl_nx hV hj hk hpl) (by omega) (by rw [e2]; exact he)
        rw [e0, e4, free_lN h9, lN_i] at hM
        refine qryI hV hR hq _ (l_room_y hst S (E 30) hV.k7 (nI j) (E 901) _ (c_room_y5 hst S (E 30) (E 34) hV.k7 hV.cl hV.ic j _ hj hs.1 hs.2.1 _ hM) (fun v T h => by rw [h.1]; exact hV.oL)) ?_
        refine (m_room_p hst _ (E 900) E hV.oJ.ly j hj (hth' _) (hp' _) ?_ nx rr ((hV.oJ.m (by decide) j).trans hpl.2.2.1.2.1) ((hV.oJ.m (by decide) j).trans hpl.1.2.1) (by omega) hpl.1.1).post (fun w S' h => ⟨h.1, h.2.trans ?_⟩)
        · rw [hV.oJ.m (by decide)]
          rcases h12 with h12 | h12 | h12 | h12 | h12
          · rw [h12]; decide
          · rw [h12]; decide
          · rw [h12]; decide
          · exact absurd (Or.inl h12) he
          · exact absurd (Or.inr h12) he
        · rw [hV.oJ.m (by decide), hV.oJ.m (by decide), hV.oJ.m (by decide), hpl.2.2.2.2.2.1.2.1, free_nI h9, rmv_nI (by omega) (fun hx => by have := h11.2.1 hx; omega)]
    · have hp' : ∀ v, aI (wJ S (E 901) 0 v) (E 803) j = 0 := fun v => by rw [hV.oJ.m (by decide)]; exact hp
      have u := ls_u (i := 0) hj hk (by omega)
      have h3 := hls.2.2.1.2.2
      have h4 := hls.2.2.2.1.2.2
      have h5 := hls.2.2.2.2.1
      have h10 := hls.2.2.2.2.2.2.2.2.2.1
      have e0 : fI S 0 (E (uc j)) = V 805 j := (hV.i u.1 u.2 0).trans hls.2.1.1
      have e4 : fI S 4 (E (uc j)) = V 813 j := (hV.i u.1 u.2 4).trans hls.2.1.2.2.2.2
      have e9 : fJ S 409 (E (uc j)) = lN wh := (hV.jj u.1 u.2 409).trans h5.1
      have hM := c_numbersNow4 (l := l) (G := G) (b := b) hst S (E (uc j)) hs.2.1 _ _ _ (wh + rd) hs.2.2.2.2.1 (ls_f2 hV hj hk hs hls) (by omega) wh e9 (by omega)
      rw [e0, e4, lN_sub (by omega), show wh + rd - wh = rd by omega, lN_i] at hM
      refine qryI hV hR hq _ (l_room_y hst S (E 30) hV.k7 (nI j) (E 901) _ (c_room_y4 hst S (E 30) (E 34) hV.k7 hV.cl hV.ic j _ hj hs.1 hs.2.1 _ hM) (fun v T h => by rw [h.1]; exact hV.oL)) ?_
      refine (m_room_l hst _ (E 900) E hV.oJ.ly j hj (hth' _) (hp' _)).post (fun w S' h => ⟨h.1, h.2.trans ?_⟩)
      rw [hV.oJ.m (by decide), hV.oJ.m (by decide), hV.oJ.m (by decide), h5.2.2.2.1, rmv_nI (by omega) h10.2.1]
  · have hn := cl_no hV hR hc
    exact rejI hV hR hq 1 0 (by decide) (l_room_t1 hst S (E 30) hV.k7 c0 (E 901) (c_room_n hst S (E 30) (E 34) hV.k7 hV.cl hV.ic c0 hn.1)) (m_room_n hst S (E 900) E hV.ly c0 hn.2)
end
