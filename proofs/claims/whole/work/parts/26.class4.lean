theorem uJ_fn {S : Sw} {f a g b : Nat} {v : Int64} (h : g ≠ f) : fJ (uJ S f a v) g b = fJ S g b := if_neg (fun q => h q.1)
theorem uJ_fs {S : Sw} {f a : Nat} {v : Int64} : fJ (uJ S f a v) f a = v := if_pos ⟨rfl, rfl⟩
theorem uI_fn {S : Sw} {f a g b : Nat} {v : Int32} (h : g ≠ f) : fI (uI S f a v) g b = fI S g b := if_neg (fun q => h q.1)
theorem uI_fs {S : Sw} {f a : Nat} {v : Int32} : fI (uI S f a v) f a = v := if_pos ⟨rfl, rfl⟩
def cLs (rr : Nat) : Int64 := if rr = 48000 then 0 else 7
set_option maxRecDepth 100000 in
set_option maxHeartbeats 1000000 in
theorem c_isPast {l : Launch} {G : GG} {b : Nat} (hst : l.stackTraces = false) (S : Sw) (a : Nat) (hk : sK S a = 5) (cv t rr : Nat) (hcv : fR S 505 a = some cv) (hvc : vC S cv t rr 48000) (hr : rtN rr) (w L R n : Nat) (hw : fR S 506 a = some w) (hfc : fC S w L R n) (hn : n < 2 ^ 20) (nx : Nat) (hnx : fJ S 512 a = lN nx) (hnx2 : nx < 2 ^ 19) : Ct l G b yX5_isPastAllWritten cX5_isPastAllWritten 3 (some .boolean) rmX5_isPastAllWritten mI [.ref a] S (fun r S' => S' = S ∧ r = if lN (nx * rr / 48000) - cLs rr < lN n then 0 else 1) := by
  refine Ct.of2 pnX5 (own := RX5) rfl (Nat.le_of_ble_eq_true rfl) hst ?_
  intro p e s m args below meth c C hname
  change J p l e rmX5_isPastAllWritten s m args below meth c 3 G b _ 0 [(0, .ref a)] [] S 0 0
  have h17 : ∀ x : Int64, x = cLs rr → J p l e rmX5_isPastAllWritten s m args below meth c 3 G b (vx_MQ below (Qp G b mI (fun r S' => S' = S ∧ r = if lN (nx * rr / 48000) - cLs rr < lN n then 0 else 1)) (XCp G b S (fun _ => False)) args s rmX5_isPastAllWritten.cells rmX5_isPastAllWritten.slots (Ab b)) 17 [(0, .ref a)] [.long x] S 0 0 := by
    rintro x rfl
    refine r_lstore_n (i := 1) (n := 18) C dX5_isPastAllWritten_17 rfl (by decide) rfl rfl ?_
    refine r_aload_n (i := 0) (n := 19) C dX5_isPastAllWritten_18 rfl rfl rfl ?_
    refine gX5_53 (n := 22) C (by first | with_reducible assumption | (simp only [sK_uI, sK_uJ, sK_uR, sK_wI, sK_wR, sK_wD, sK_wJ, sK_wIs, aN_uI, aN_uJ, aN_uR, aN_wI, aN_wR, aN_wD, aN_wJ, aN_wIs, fR_uI, fR_uJ, fR_wI, fR_wR, fR_wD, fR_wJ, fR_wIs, isI_uI, isI_uJ, isI_wI, isI_wR, isI_wD, isI_wJ, isI_wIs, isC_uI, isC_uJ, isC_wI, isC_wR, isC_wD, isC_wJ, isC_wIs, isG_uI, isG_uJ, isG_wI, isG_wR, isG_wD, isG_wJ, isG_wIs, isZ_uI, isZ_uJ, isZ_wI, isZ_wR, isZ_wD, isZ_wJ, isZ_wIs, isD_uI, isD_uJ, isD_wI, isD_wR, isD_wD, isD_wJ, isD_wIs, isL_uI, isL_uJ, isL_wI, isL_wR, isL_wD, isL_wJ, isL_wIs]; with_reducible assumption)) (by first | with_reducible assumption | (simp only [sK_uI, sK_uJ, sK_uR, sK_wI, sK_wR, sK_wD, sK_wJ, sK_wIs, aN_uI, aN_uJ, aN_uR, aN_wI, aN_wR, aN_wD, aN_wJ, aN_wIs, fR_uI, fR_uJ, fR_wI, fR_wR, fR_wD, fR_wJ, fR_wIs, isI_uI, isI_uJ, isI_wI, isI_wR, isI_wD, isI_wJ, isI_wIs, isC_uI, isC_uJ, isC_wI, isC_wR, isC_wD, isC_wJ, isC_wIs, isG_uI, isG_uJ, isG_wI, isG_wR, isG_wD, isG_wJ, isG_wIs, isZ_uI, isZ_uJ, isZ_wI, isZ_wR, isZ_wD, isZ_wJ, isZ_wIs, isD_uI, isD_uJ, isD_wI, isD_wR, isD_wD, isD_wJ, isD_wIs, isL_uI, isL_uJ, isL_wI, isL_wR, isL_wD, isL_wJ, isL_wIs]; with_reducible assumption)) dX5_isPastAllWritten_19 rfl ?_
    refine r_aload_n (i := 0) (n := 23) C dX5_isPastAllWritten_22 rfl rfl rfl ?_
    refine gX5_37 (n := 26) C hk dX5_isPastAllWritten_23 rfl ?_
    rw [hnx]
    refine kX5_72 (n := 29) C (c_wholePlace hst S cv t rr 48000 hvc (rtN.le hr).1 (rtN.le hr).2 (by omega) (by omega) nx (by omega)) hvc.1 (by decide) (by decide) (Nat.le_of_ble_eq_true rfl) dX5_isPastAllWritten_26 rfl (fun r S1 hp => ?_)
    obtain ⟨hS9, hr9⟩ := hp
    subst S1
    subst r
    refine r_lload_n (i := 1) (n := 30) C dX5_isPastAllWritten_29 rfl rfl rfl ?_
    refine r_lsub (n := 31) C dX5_isPastAllWritten_30 rfl ?_
    refine r_aload_n (i := 0) (n := 32) C dX5_isPastAllWritten_31 rfl rfl rfl ?_
    refine gX5_14 (n := 35) C (by first | with_reducible assumption | (simp only [sK_uI, sK_uJ, sK_uR, sK_wI, sK_wR, sK_wD, sK_wJ, sK_wIs, aN_uI, aN_uJ, aN_uR, aN_wI, aN_wR, aN_wD, aN_wJ, aN_wIs, fR_uI, fR_uJ, fR_wI, fR_wR, fR_wD, fR_wJ, fR_wIs, isI_uI, isI_uJ, isI_wI, isI_wR, isI_wD, isI_wJ, isI_wIs, isC_uI, isC_uJ, isC_wI, isC_wR, isC_wD, isC_wJ, isC_wIs, isG_uI, isG_uJ, isG_wI, isG_wR, isG_wD, isG_wJ, isG_wIs, isZ_uI, isZ_uJ, isZ_wI, isZ_wR, isZ_wD, isZ_wJ, isZ_wIs, isD_uI, isD_uJ, isD_wI, isD_wR, isD_wD, isD_wJ, isD_wIs, isL_uI, isL_uJ, isL_wI, isL_wR, isL_wD, isL_wJ, isL_wIs]; with_reducible assumption)) (by first | with_reducible assumption | (simp only [sK_uI, sK_uJ, sK_uR, sK_wI, sK_wR, sK_wD, sK_wJ, sK_wIs, aN_uI, aN_uJ, aN_uR, aN_wI, aN_wR, aN_wD, aN_wJ, aN_wIs, fR_uI, fR_uJ, fR_wI, fR_wR, fR_wD, fR_wJ, fR_wIs, isI_uI, isI_uJ, isI_wI, isI_wR, isI_wD, isI_wJ, isI_wIs, isC_uI, isC_uJ, isC_wI, isC_wR, isC_wD, isC_wJ, isC_wIs, isG_uI, isG_uJ, isG_wI, isG_wR, isG_wD, isG_wJ, isG_wIs, isZ_uI, isZ_uJ, isZ_wI, isZ_wR, isZ_wD, isZ_wJ, isZ_wIs, isD_uI, isD_uJ, isD_wI, isD_wR, isD_wD, isD_wJ, isD_wIs, isL_uI, isL_uJ, isL_wI, isL_wR, isL_wD, isL_wJ, isL_wIs]; with_reducible assumption)) dX5_isPastAllWritten_32 rfl ?_
    refine gX5_122 (n := 38) C hfc.1 dX5_isPastAllWritten_35 rfl ?_
    rw [hfc.2.2.2.2.2]
    refine r_lcmp (n := 39) C dX5_isPastAllWritten_38 rfl ?_
    refine r_if_lt (n := 42) (t := 46) C dX5_isPastAllWritten_39 (by decide) rfl (fun h39 => ?_) (fun h39 => ?_)
    · refine r_iconst (v := 0) (n := 47) C dX5_isPastAllWritten_46 rfl rfl ?_
      refine t_i C rfl dX5_isPastAllWritten_47 (by decide) ?_
      refine ⟨rfl, ?_⟩
      rw [lg_cmp_lt] at h39
      first | rw [if_pos h39] | rw [if_neg h39]
    · refine r_iconst (v := 1) (n := 43) C dX5_isPastAllWritten_42 rfl rfl ?_
      refine r_goto (t := 47) C dX5_isPastAllWritten_43 (by decide) ?_
      refine t_i C rfl dX5_isPastAllWritten_47 (by decide) ?_
      refine ⟨rfl, ?_⟩
      rw [lg_cmp_lt] at h39
      first | rw [if_pos h39] | rw [if_neg h39]
  by_cases hfg : rr = 48000
  · skip
    refine r_aload_n (i := 0) (n := 1) C dX5_isPastAllWritten_0 rfl rfl rfl ?_
    refine gX5_53 (n := 4) C (by first | with_reducible assumption | (simp only [sK_uI, sK_uJ, sK_uR, sK_wI, sK_wR, sK_wD, sK_wJ, sK_wIs, aN_uI, aN_uJ, aN_uR, aN_wI, aN_wR, aN_wD, aN_wJ, aN_wIs, fR_uI, fR_uJ, fR_wI, fR_wR, fR_wD, fR_wJ, fR_wIs, isI_uI, isI_uJ, isI_wI, isI_wR, isI_wD, isI_wJ, isI_wIs, isC_uI, isC_uJ, isC_wI, isC_wR, isC_wD, isC_wJ, isC_wIs, isG_uI, isG_uJ, isG_wI, isG_wR, isG_wD, isG_wJ, isG_wIs, isZ_uI, isZ_uJ, isZ_wI, isZ_wR, isZ_wD, isZ_wJ, isZ_wIs, isD_uI, isD_uJ, isD_wI, isD_wR, isD_wD, isD_wJ, isD_wIs, isL_uI, isL_uJ, isL_wI, isL_wR, isL_wD, isL_wJ, isL_wIs]; with_reducible assumption)) (by first | with_reducible assumption | (simp only [sK_uI, sK_uJ, sK_uR, sK_wI, sK_wR, sK_wD, sK_wJ, sK_wIs, aN_uI, aN_uJ, aN_uR, aN_wI, aN_wR, aN_wD, aN_wJ, aN_wIs, fR_uI, fR_uJ, fR_wI, fR_wR, fR_wD, fR_wJ, fR_wIs, isI_uI, isI_uJ, isI_wI, isI_wR, isI_wD, isI_wJ, isI_wIs, isC_uI, isC_uJ, isC_wI, isC_wR, isC_wD, isC_wJ, isC_wIs, isG_uI, isG_uJ, isG_wI, isG_wR, isG_wD, isG_wJ, isG_wIs, isZ_uI, isZ_uJ, isZ_wI, isZ_wR, isZ_wD, isZ_wJ, isZ_wIs, isD_uI, isD_uJ, isD_wI, isD_wR, isD_wD, isD_wJ, isD_wIs, isL_uI, isL_uJ, isL_wI, isL_wR, isL_wD, isL_wJ, isL_wIs]; with_reducible assumption)) dX5_isPastAllWritten_1 rfl ?_
    refine kX5_130 (n := 7) C (c_isPlain hst S cv t rr 48000 hvc (rtN.le hr).1 (rtN.le hr).2 (by omega) (by omega)) hvc.1 (by decide) (by decide) (Nat.le_of_ble_eq_true rfl) dX5_isPastAllWritten_4 rfl (fun r S1 hp => ?_)
    obtain ⟨hS9, hr9⟩ := hp
    subst S1
    subst r
    rw [if_pos hfg]
    refine r_if_eqF (n := 10) (t := 14) C (by decide) dX5_isPastAllWritten_7 (by decide) rfl ?_
    refine r_lconst (v := 0) (n := 11) C dX5_isPastAllWritten_10 rfl rfl ?_
    refine r_goto (t := 17) C dX5_isPastAllWritten_11 (by decide) ?_
    exact J.to rfl (h17 0 (if_pos hfg).symm)
  · skip
    refine r_aload_n (i := 0) (n := 1) C dX5_isPastAllWritten_0 rfl rfl rfl ?_
    refine gX5_53 (n := 4) C (by first | with_reducible assumption | (simp only [sK_uI, sK_uJ, sK_uR, sK_wI, sK_wR, sK_wD, sK_wJ, sK_wIs, aN_uI, aN_uJ, aN_uR, aN_wI, aN_wR, aN_wD, aN_wJ, aN_wIs, fR_uI, fR_uJ, fR_wI, fR_wR, fR_wD, fR_wJ, fR_wIs, isI_uI, isI_uJ, isI_wI, isI_wR, isI_wD, isI_wJ, isI_wIs, isC_uI, isC_uJ, isC_wI, isC_wR, isC_wD, isC_wJ, isC_wIs, isG_uI, isG_uJ, isG_wI, isG_wR, isG_wD, isG_wJ, isG_wIs, isZ_uI, isZ_uJ, isZ_wI, isZ_wR, isZ_wD, isZ_wJ, isZ_wIs, isD_uI, isD_uJ, isD_wI, isD_wR, isD_wD, isD_wJ, isD_wIs, isL_uI, isL_uJ, isL_wI, isL_wR, isL_wD, isL_wJ, isL_wIs]; with_reducible assumption)) (by first | with_reducible assumption | (simp only [sK_uI, sK_uJ, sK_uR, sK_wI, sK_wR, sK_wD, sK_wJ, sK_wIs, aN_uI, aN_uJ, aN_uR, aN_wI, aN_wR, aN_wD, aN_wJ, aN_wIs, fR_uI, fR_uJ, fR_wI, fR_wR, fR_wD, fR_wJ, fR_wIs, isI_uI, isI_uJ, isI_wI, isI_wR, isI_wD, isI_wJ, isI_wIs, isC_uI, isC_uJ, isC_wI, isC_wR, isC_wD, isC_wJ, isC_wIs, isG_uI, isG_uJ, isG_wI, isG_wR, isG_wD, isG_wJ, isG_wIs, isZ_uI, isZ_uJ, isZ_wI, isZ_wR, isZ_wD, isZ_wJ, isZ_wIs, isD_uI, isD_uJ, isD_wI, isD_wR, isD_wD, isD_wJ, isD_wIs, isL_uI, isL_uJ, isL_wI, isL_wR, isL_wD, isL_wJ, isL_wIs]; with_reducible assumption)) dX5_isPastAllWritten_1 rfl ?_
    refine kX5_130 (n := 7) C (c_isPlain hst S cv t rr 48000 hvc (rtN.le hr).1 (rtN.le hr).2 (by omega) (by omega)) hvc.1 (by decide) (by decide) (Nat.le_of_ble_eq_true rfl) dX5_isPastAllWritten_4 rfl (fun r S1 hp => ?_)
    obtain ⟨hS9, hr9⟩ := hp
    subst S1
    subst r
    rw [if_neg hfg]
    refine r_if_eqT (t := 14) C rfl dX5_isPastAllWritten_7 (by decide) ?_
    refine r_ldc2 (n := 17) (v := 7) C (mem_tb (mem_tbl 182 (by decide +kernel)) (by decide +kernel)) dX5_isPastAllWritten_14 rfl ?_
    exact J.to rfl (h17 7 (if_neg hfg).symm)
/-- a player's outputs of a period, in the class -/
def pOut (S : Sw) (rw_ L R n nx rr : Nat) (rt : Int32) : Nat → Int32 := fun j => flt2 (aI S rw_) (gC S L R n rt) (nx + j) rr 48000
def pGk (S : Sw) (a row : Nat) (f g : Nat → Int32) (nx k : Nat) : Sw := uJ (uI (uI (wIs S row (pw (ilv f g) (aI S row) (2 * k))) 510 a (if k = 0 then fI S 510 a else f (k - 1))) 511 a (if k = 0 then fI S 511 a else g (k - 1))) 512 a (lN (nx + k))
theorem pGk_0 {S : Sw} {a row nx : Nat} {f g : Nat → Int32} (h : fJ S 512 a = lN nx) : pGk S a row f g nx 0 = S := by
  refine Sw_ext (fun _ => rfl) (fun x y => ?_) (fun x y => ?_) (fun _ _ => rfl) (fun _ => rfl) (fun x y => ?_) (fun _ _ => rfl) (fun _ _ => rfl) (fun _ _ => rfl)
  · show (if x = 511 ∧ y = a then fI S 511 a else if x = 510 ∧ y = a then fI S 510 a else fI S x y) = fI S x y
    by_cases h1 : x = 511 ∧ y = a
    · rw [if_pos h1, h1.1, h1.2]
    · rw [if_neg h1]
      by_cases h2 : x = 510 ∧ y = a
      · rw [if_pos h2, h2.1, h2.2]
      · rw [if_neg h2]
  · show (if x = 512 ∧ y = a then lN (nx + 0) else fJ S x y) = fJ S x y
    by_cases h1 : x = 512 ∧ y = a
    · rw [if_pos h1, h1.1, h1.2, h]; rfl
    · rw [if_neg h1]
  · show (if x = row then pw (ilv f g) (aI S row) (2 * 0) y else aI S x y) = aI S x y
    by_cases h1 : x = row
    · rw [if_pos h1, h1, pw_ge (by omega)]
    · rw [if_neg h1]
theorem pGk_s {S : Sw} {a row nx k : Nat} {f g : Nat → Int32} : uJ (wI (wI (uI (uI (pGk S a row f g nx k) 510 a (f k)) 511 a (g k)) row (2 * k) (f k)) row (2 * k + 1) (g k)) 512 a (lN (nx + k + 1)) = pGk S a row f g nx (k + 1) := by
  refine Sw_ext (fun _ => rfl) (fun x y => ?_) (fun x y => ?_) (fun _ _ => rfl) (fun _ => rfl) (fun x y => ?_) (fun _ _ => rfl) (fun _ _ => rfl) (fun _ _ => rfl)
  · show (if x = 511 ∧ y = a then g k else if x = 510 ∧ y = a then f k else if x = 511 ∧ y = a then _ else if x = 510 ∧ y = a then _ else fI S x y) = if x = 511 ∧ y = a then (if k + 1 = 0 then fI S 511 a else g (k + 1 - 1)) else if x = 510 ∧ y = a then (if k + 1 = 0 then fI S 510 a else f (k + 1 - 1)) else fI S x y
    rw [if_neg (by omega : ¬ k + 1 = 0), if_neg (by omega : ¬ k + 1 = 0), Nat.add_sub_cancel]
    by_cases h1 : x = 511 ∧ y = a
    · rw [if_pos h1, if_pos h1]
    · rw [if_neg h1]
      by_cases h2 : x = 510 ∧ y = a
      · rw [if_pos h2, if_neg h1, if_pos h2]
      · rw [if_neg h2, if_neg h1, if_neg h2, if_neg h1, if_neg h2]
  · show (if x = 512 ∧ y = a then lN (nx + k + 1) else if x = 512 ∧ y = a then _ else fJ S x y) = if x = 512 ∧ y = a then lN (nx + (k + 1)) else fJ S x y
    by_cases h1 : x = 512 ∧ y = a
    · rw [if_pos h1, if_pos h1]; rfl
    · rw [if_neg h1, if_neg h1, if_neg h1]
  · show (if x = row ∧ y = 2 * k + 1 then g k else if x = row ∧ y = 2 * k then f k else if x = row then pw (ilv f g) (aI S row) (2 * k) y else aI S x y) = if x = row then pw (ilv f g) (aI S row) (2 * (k + 1)) y else aI S x y
    by_cases h1 : x = row
    · rw [if_pos h1, if_pos h1, ← congrFun (pw_s2 f g (aI S row) k) y]
      unfold sr
      simp only [h1, true_and]
    · rw [if_neg (fun q => h1 q.1), if_neg (fun q => h1 q.1), if_neg h1, if_neg h1]
theorem gC_c {S S' : Sw} {L R n : Nat} {rt : Int32} (h1 : ∀ i, aI S' L i = aI S L i) (h2 : ∀ i, aI S' R i = aI S R i) : gC S' L R n rt = gC S L R n rt := by
  funext x; unfold gC
  by_cases hr : rt = 0
  · simp only [hr, ↓reduceIte, h1]
  · simp only [hr, ↓reduceIte, h2]
theorem vC_u {S S' : Sw} {c t f g : Nat} (h : vC S c t f g) (h1 : sK S' c = sK S c) (h2 : fR S' 100 c = fR S 100 c) (h3 : fJ S' 101 c = fJ S 101 c) (h4 : fJ S' 102 c = fJ S 102 c) : vC S' c t f g := ⟨h1.trans h.1, h2.trans h.2.1, h3.trans h.2.2.1, h4.trans h.2.2.2⟩
theorem tC_uI {S : Sw} {t r : Nat} {y z : Nat} {v : Int32} (h : tC S t r) : tC (uI S y z v) t r := h
theorem tC_wI {S : Sw} {t r : Nat} {y z : Nat} {v : Int32} (h : tC S t r) : tC (wI S y z v) t r := h
theorem tC_wIs {S : Sw} {t r : Nat} {y : Nat} {v : Nat → Int32} (h : tC S t r) : tC (wIs S y v) t r := h
theorem vC_uI {S : Sw} {c t f g : Nat} {y z : Nat} {v : Int32} (h : vC S c t f g) : vC (uI S y z v) c t f g := h
theorem vC_wI {S : Sw} {c t f g : Nat} {y z : Nat} {v : Int32} (h : vC S c t f g) : vC (wI S y z v) c t f g := h
theorem vC_wIs {S : Sw} {c t f g : Nat} {y : Nat} {v : Nat → Int32} (h : vC S c t f g) : vC (wIs S y v) c t f g := h
theorem fC_uI {S : Sw} {x l r n : Nat} {y z : Nat} {v : Int32} (h : fC S x l r n) : fC (uI S y z v) x l r n := h
theorem fC_wI {S : Sw} {x l r n : Nat} {y z : Nat} {v : Int32} (h : fC S x l r n) : fC (wI S y z v) x l r n := h
theorem fC_wIs {S : Sw} {x l r n : Nat} {y : Nat} {v : Nat → Int32} (h : fC S x l r n) : fC (wIs S y v) x l r n := h
theorem sK_pGk {S : Sw} {a row nx k x : Nat} {f g : Nat → Int32} : sK (pGk S a row f g nx k) x = sK S x := rfl
theorem fR_pGk {S : Sw} {a row nx k x y : Nat} {f g : Nat → Int32} : fR (pGk S a row f g nx k) x y = fR S x y := rfl
theorem isI_pGk {S : Sw} {a row nx k x y : Nat} {f g : Nat → Int32} : isI (pGk S a row f g nx k) x y = isI S x y := rfl
theorem fJ_pGk {S : Sw} {a row nx k x y : Nat} {f g : Nat → Int32} (h : x ≠ 512) : fJ (pGk S a row f g nx k) x y = fJ S x y := if_neg (fun q => h q.1)
theorem fJ_pGks {S : Sw} {a row nx k : Nat} {f g : Nat → Int32} : fJ (pGk S a row f g nx k) 512 a = lN (nx + k) := if_pos ⟨rfl, rfl⟩
theorem aI_pGk {S : Sw} {a row nx k x y : Nat} {f g : Nat → Int32} (h : x ≠ row) : aI (pGk S a row f g nx k) x y = aI S x y := if_neg h
theorem tC_pGk {S : Sw} {a row nx k t r : Nat} {f g : Nat → Int32} (h : tC S t r) : tC (pGk S a row f g nx k) t r := ⟨by rw [sK_pGk]; exact h.1, by rw [fR_pGk]; exact h.2.1, by rw [isI_pGk]; exact h.2.2⟩
theorem vC_pGk {S : Sw} {a row nx k c t x y : Nat} {f g : Nat → Int32} (h : vC S c t x y) : vC (pGk S a row f g nx k) c t x y := ⟨by rw [sK_pGk]; exact h.1, by rw [fR_pGk]; exact h.2.1, by rw [fJ_pGk (by decide)]; exact h.2.2.1, by rw [fJ_pGk (by decide)]; exact h.2.2.2⟩
theorem fC_pGk {S : Sw} {a row nx k w l r n : Nat} {f g : Nat → Int32} (h : fC S w l r n) : fC (pGk S a row f g nx k) w l r n := ⟨by rw [sK_pGk]; exact h.1, by rw [fR_pGk]; exact h.2.1, by rw [fR_pGk]; exact h.2.2.1, by rw [isI_pGk]; exact h.2.2.2.1, by rw [isI_pGk]; exact h.2.2.2.2.1, by rw [fJ_pGk (by decide)]; exact h.2.2.2.2.2⟩
theorem gC_pGk {S : Sw} {a row nx k l r n : Nat} {rt : Int32} {f g : Nat → Int32} (h1 : l ≠ row) (h2 : r ≠ row) : gC (pGk S a row f g nx k) l r n rt = gC S l r n rt := gC_c (fun i => aI_pGk h1) (fun i => aI_pGk h2)
theorem gC_uI {S : Sw} {x y l r n : Nat} {v rt : Int32} : gC (uI S x y v) l r n rt = gC S l r n rt := rfl
set_option maxRecDepth 100000 in
set_option maxHeartbeats 1000000 in
theorem c_giveOutputs {l : Launch} {G : GG} {b : Nat} (hst : l.stackTraces = false) (S : Sw) (a : Nat) (hk : sK S a = 5) (cv t rr : Nat) (hcv : fR S 505 a = some cv) (hvc : vC S cv t rr 48000) (hr : rtN rr) (w L R n : Nat) (hw : fR S 506 a = some w) (hfc : fC S w L R n) (hn : n < 2 ^ 20) (nx : Nat) (hnx : fJ S 512 a = lN nx) (hnx2 : nx < 2 ^ 19) (row rw_ : Nat) (hrow : isI S row 48) (htc : tC S t rw_) (h1 : L ≠ row) (h2 : R ≠ row) (h3 : rw_ ≠ row) : Ct l G b yX5_giveOutputs cX5_giveOutputs 3 none rmX5_giveOutputs mV [.ref a, .ref row] S (fun _ S' => S' = (pGk S a row (pOut S rw_ L R n nx rr 0) (pOut S rw_ L R n nx rr 1) nx 24)) := by
  refine Ct.of2 pnX5 (own := RX5) rfl (Nat.le_of_ble_eq_true rfl) hst ?_
  intro p e s m args below meth c C hname
  change J p l e rmX5_giveOutputs s m args below meth c 3 G b _ 0 [(0, .ref a), (1, .ref row)] [] S 0 0
  refine r_iconst (v := 0) (n := 1) C dX5_giveOutputs_0 rfl rfl ?_
  refine r_istore_n (i := 2) (n := 2) C dX5_giveOutputs_1 rfl (by decide) rfl rfl ?_
  have lp : ∀ (q k : Nat), k + q = 24 → J p l e rmX5_giveOutputs s m args below meth c 3 G b (vx_MQ below (Qp G b mV (fun _ S' => S' = (pGk S a row (pOut S rw_ L R n nx rr 0) (pOut S rw_ L R n nx rr 1) nx 24))) (XCp G b S (fun _ => False)) args s rmX5_giveOutputs.cells rmX5_giveOutputs.slots (Ab b)) 2 [(0, .ref a), (1, .ref row), (2, .int (nI k))] [] (pGk S a row (pOut S rw_ L R n nx rr 0) (pOut S rw_ L R n nx rr 1) nx k) 0 0 := by
    intro q
    induction q with
    | zero =>
      intro k hk9
      obtain rfl : k = 24 := by omega
      refine r_iload_n (i := 2) (n := 3) C dX5_giveOutputs_2 rfl rfl rfl ?_
      refine r_bipush (v := 24) (n := 5) C dX5_giveOutputs_3 rfl rfl ?_
      refine r_icmp_geT (t := 84) C (cle (a := 24) (b := 24) rfl rfl (by omega) (by omega)) dX5_giveOutputs_5 (by decide) ?_
      refine t_v C dX5_giveOutputs_84 (by decide) ?_
      rfl
    | succ q ih =>
      intro k hk9
      obtain ⟨T, hT⟩ : ∃ T, T = (pGk S a row (pOut S rw_ L R n nx rr 0) (pOut S rw_ L R n nx rr 1) nx k) := ⟨_, rfl⟩
      rw [← hT]
      have hkT : sK T a = 5 := by rw [hT, sK_pGk]; exact hk
      have hcvT : fR T 505 a = some cv := by rw [hT, fR_pGk]; exact hcv
      have hwT : fR T 506 a = some w := by rw [hT, fR_pGk]; exact hw
      have hrowT : isI T row 48 := by rw [hT, isI_pGk]; exact hrow
      have hvT : vC T cv t rr 48000 := by rw [hT]; exact vC_pGk hvc
      have hfT : fC T w L R n := by rw [hT]; exact fC_pGk hfc
      have htT : tC T t rw_ := by rw [hT]; exact tC_pGk htc
      have hgT : ∀ rt, gC T L R n rt = gC S L R n rt := by intro rt; rw [hT]; exact gC_pGk h1 h2
      have hrT : aI T rw_ = aI S rw_ := by rw [hT]; exact funext (fun i => aI_pGk h3)
      have hnT : fJ T 512 a = lN (nx + k) := by rw [hT]; exact fJ_pGks
      have step : ∀ T0 : Sw, T0 = uJ (wI (wI (uI (uI T 510 a ((pOut S rw_ L R n nx rr 0) k)) 511 a ((pOut S rw_ L R n nx rr 1) k)) row (2 * k) ((pOut S rw_ L R n nx rr 0) k)) row (2 * k + 1) ((pOut S rw_ L R n nx rr 1) k)) 512 a (lN (nx + k + 1)) → T0 = (pGk S a row (pOut S rw_ L R n nx rr 0) (pOut S rw_ L R n nx rr 1) nx (k + 1)) := by
        intro T0 h0; rw [h0, hT, pGk_s]
      clear hT
      refine r_iload_n (i := 2) (n := 3) C dX5_giveOutputs_2 rfl rfl rfl ?_
      refine r_bipush (v := 24) (n := 5) C dX5_giveOutputs_3 rfl rfl ?_
      refine r_icmp_geF (n := 8) (t := 84) C (cnle (a := 24) (b := k) rfl rfl (by omega) (by omega)) dX5_giveOutputs_5 (by decide) rfl ?_
      refine r_aload_n (i := 0) (n := 9) C dX5_giveOutputs_8 rfl rfl rfl ?_
      refine r_aload_n (i := 0) (n := 10) C dX5_giveOutputs_9 rfl rfl rfl ?_
      refine gX5_53 (n := 13) C (by first | with_reducible assumption | (simp only [sK_uI, sK_uJ, sK_uR, sK_wI, sK_wR, sK_wD, sK_wJ, sK_wIs, aN_uI, aN_uJ, aN_uR, aN_wI, aN_wR, aN_wD, aN_wJ, aN_wIs, fR_uI, fR_uJ, fR_wI, fR_wR, fR_wD, fR_wJ, fR_wIs, isI_uI, isI_uJ, isI_wI, isI_wR, isI_wD, isI_wJ, isI_wIs, isC_uI, isC_uJ, isC_wI, isC_wR, isC_wD, isC_wJ, isC_wIs, isG_uI, isG_uJ, isG_wI, isG_wR, isG_wD, isG_wJ, isG_wIs, isZ_uI, isZ_uJ, isZ_wI, isZ_wR, isZ_wD, isZ_wJ, isZ_wIs, isD_uI, isD_uJ, isD_wI, isD_wR, isD_wD, isD_wJ, isD_wIs, isL_uI, isL_uJ, isL_wI, isL_wR, isL_wD, isL_wJ, isL_wIs]; with_reducible assumption)) (by first | with_reducible assumption | (simp only [sK_uI, sK_uJ, sK_uR, sK_wI, sK_wR, sK_wD, sK_wJ, sK_wIs, aN_uI, aN_uJ, aN_uR, aN_wI, aN_wR, aN_wD, aN_wJ, aN_wIs, fR_uI, fR_uJ, fR_wI, fR_wR, fR_wD, fR_wJ, fR_wIs, isI_uI, isI_uJ, isI_wI, isI_wR, isI_wD, isI_wJ, isI_wIs, isC_uI, isC_uJ, isC_wI, isC_wR, isC_wD, isC_wJ, isC_wIs, isG_uI, isG_uJ, isG_wI, isG_wR, isG_wD, isG_wJ, isG_wIs, isZ_uI, isZ_uJ, isZ_wI, isZ_wR, isZ_wD, isZ_wJ, isZ_wIs, isD_uI, isD_uJ, isD_wI, isD_wR, isD_wD, isD_wJ, isD_wIs, isL_uI, isL_uJ, isL_wI, isL_wR, isL_wD, isL_wJ, isL_wIs]; with_reducible assumption)) dX5_giveOutputs_10 rfl ?_
      refine r_aload_n (i := 0) (n := 14) C dX5_giveOutputs_13 rfl rfl rfl ?_
      refine gX5_14 (n := 17) C (by first | with_reducible assumption | (simp only [sK_uI, sK_uJ, sK_uR, sK_wI, sK_wR, sK_wD, sK_wJ, sK_wIs, aN_uI, aN_uJ, aN_uR, aN_wI, aN_wR, aN_wD, aN_wJ, aN_wIs, fR_uI, fR_uJ, fR_wI, fR_wR, fR_wD, fR_wJ, fR_wIs, isI_uI, isI_uJ, isI_wI, isI_wR, isI_wD, isI_wJ, isI_wIs, isC_uI, isC_uJ, isC_wI, isC_wR, isC_wD, isC_wJ, isC_wIs, isG_uI, isG_uJ, isG_wI, isG_wR, isG_wD, isG_wJ, isG_wIs, isZ_uI, isZ_uJ, isZ_wI, isZ_wR, isZ_wD, isZ_wJ, isZ_wIs, isD_uI, isD_uJ, isD_wI, isD_wR, isD_wD, isD_wJ, isD_wIs, isL_uI, isL_uJ, isL_wI, isL_wR, isL_wD, isL_wJ, isL_wIs]; with_reducible assumption)) (by first | with_reducible assumption | (simp only [sK_uI, sK_uJ, sK_uR, sK_wI, sK_wR, sK_wD, sK_wJ, sK_wIs, aN_uI, aN_uJ, aN_uR, aN_wI, aN_wR, aN_wD, aN_wJ, aN_wIs, fR_uI, fR_uJ, fR_wI, fR_wR, fR_wD, fR_wJ, fR_wIs, isI_uI, isI_uJ, isI_wI, isI_wR, isI_wD, isI_wJ, isI_wIs, isC_uI, isC_uJ, isC_wI, isC_wR, isC_wD, isC_wJ, isC_wIs, isG_uI, isG_uJ, isG_wI, isG_wR, isG_wD, isG_wJ, isG_wIs, isZ_uI, isZ_uJ, isZ_wI, isZ_wR, isZ_wD, isZ_wJ, isZ_wIs, isD_uI, isD_uJ, isD_wI, isD_wR, isD_wD, isD_wJ, isD_wIs, isL_uI, isL_uJ, isL_wI, isL_wR, isL_wD, isL_wJ, isL_wIs]; with_reducible assumption)) dX5_giveOutputs_14 rfl ?_
      refine r_aload_n (i := 0) (n := 18) C dX5_giveOutputs_17 rfl rfl rfl ?_
      refine gX5_37 (n := 21) C (by first | with_reducible assumption | (simp only [sK_uI, sK_uJ, sK_uR, sK_wI, sK_wR, sK_wD, sK_wJ, sK_wIs, aN_uI, aN_uJ, aN_uR, aN_wI, aN_wR, aN_wD, aN_wJ, aN_wIs, fR_uI, fR_uJ, fR_wI, fR_wR, fR_wD, fR_wJ, fR_wIs, isI_uI, isI_uJ, isI_wI, isI_wR, isI_wD, isI_wJ, isI_wIs, isC_uI, isC_uJ, isC_wI, isC_wR, isC_wD, isC_wJ, isC_wIs, isG_uI, isG_uJ, isG_wI, isG_wR, isG_wD, isG_wJ, isG_wIs, isZ_uI, isZ_uJ, isZ_wI, isZ_wR, isZ_wD, isZ_wJ, isZ_wIs, isD_uI, isD_uJ, isD_wI, isD_wR, isD_wD, isD_wJ, isD_wIs, isL_uI, isL_uJ, isL_wI, isL_wR, isL_wD, isL_wJ, isL_wIs]; with_reducible assumption)) dX5_giveOutputs_18 rfl ?_
      simp only [fJ_wI, fJ_uI, hnT]
      refine r_iconst (v := 0) (n := 22) C dX5_giveOutputs_21 rfl rfl ?_
      refine kX5_137 (n := 25) C (c_cSmp hst T cv t rr 48000 hvT (rtN.le hr).1 (rtN.le hr).2 (by omega) (by omega) w L R n rw_ hfT (by omega) htT (nx + k) (by omega) 0) hvT.1 (by decide) (by decide) (Nat.le_of_ble_eq_true rfl) dX5_giveOutputs_22 rfl (fun r S1 hp => ?_)
      obtain ⟨hS9, hr9⟩ := hp
      subst S1
      subst r
      rw [show flt2 (aI T rw_) (gC T L R n 0) (nx + k) rr 48000 = (pOut S rw_ L R n nx rr 0) k from by show flt2 (aI T rw_) (gC T L R n 0) (nx + k) rr 48000 = flt2 (aI S rw_) (gC S L R n 0) (nx + k) rr 48000; rw [hgT, hrT]]
      refine sX5_31 (n := 28) C (by first | with_reducible assumption | (simp only [sK_uI, sK_uJ, sK_uR, sK_wI, sK_wR, sK_wD, sK_wJ, sK_wIs, aN_uI, aN_uJ, aN_uR, aN_wI, aN_wR, aN_wD, aN_wJ, aN_wIs, fR_uI, fR_uJ, fR_wI, fR_wR, fR_wD, fR_wJ, fR_wIs, isI_uI, isI_uJ, isI_wI, isI_wR, isI_wD, isI_wJ, isI_wIs, isC_uI, isC_uJ, isC_wI, isC_wR, isC_wD, isC_wJ, isC_wIs, isG_uI, isG_uJ, isG_wI, isG_wR, isG_wD, isG_wJ, isG_wIs, isZ_uI, isZ_uJ, isZ_wI, isZ_wR, isZ_wD, isZ_wJ, isZ_wIs, isD_uI, isD_uJ, isD_wI, isD_wR, isD_wD, isD_wJ, isD_wIs, isL_uI, isL_uJ, isL_wI, isL_wR, isL_wD, isL_wJ, isL_wIs]; with_reducible assumption)) dX5_giveOutputs_25 rfl ?_
      refine r_aload_n (i := 0) (n := 29) C dX5_giveOutputs_28 rfl rfl rfl ?_
      refine r_aload_n (i := 0) (n := 30) C dX5_giveOutputs_29 rfl rfl rfl ?_
      refine gX5_53 (n := 33) C (by first | with_reducible assumption | (simp only [sK_uI, sK_uJ, sK_uR, sK_wI, sK_wR, sK_wD, sK_wJ, sK_wIs, aN_uI, aN_uJ, aN_uR, aN_wI, aN_wR, aN_wD, aN_wJ, aN_wIs, fR_uI, fR_uJ, fR_wI, fR_wR, fR_wD, fR_wJ, fR_wIs, isI_uI, isI_uJ, isI_wI, isI_wR, isI_wD, isI_wJ, isI_wIs, isC_uI, isC_uJ, isC_wI, isC_wR, isC_wD, isC_wJ, isC_wIs, isG_uI, isG_uJ, isG_wI, isG_wR, isG_wD, isG_wJ, isG_wIs, isZ_uI, isZ_uJ, isZ_wI, isZ_wR, isZ_wD, isZ_wJ, isZ_wIs, isD_uI, isD_uJ, isD_wI, isD_wR, isD_wD, isD_wJ, isD_wIs, isL_uI, isL_uJ, isL_wI, isL_wR, isL_wD, isL_wJ, isL_wIs]; with_reducible assumption)) (by first | with_reducible assumption | (simp only [sK_uI, sK_uJ, sK_uR, sK_wI, sK_wR, sK_wD, sK_wJ, sK_wIs, aN_uI, aN_uJ, aN_uR, aN_wI, aN_wR, aN_wD, aN_wJ, aN_wIs, fR_uI, fR_uJ, fR_wI, fR_wR, fR_wD, fR_wJ, fR_wIs, isI_uI, isI_uJ, isI_wI, isI_wR, isI_wD, isI_wJ, isI_wIs, isC_uI, isC_uJ, isC_wI, isC_wR, isC_wD, isC_wJ, isC_wIs, isG_uI, isG_uJ, isG_wI, isG_wR, isG_wD, isG_wJ, isG_wIs, isZ_uI, isZ_uJ, isZ_wI, isZ_wR, isZ_wD, isZ_wJ, isZ_wIs, isD_uI, isD_uJ, isD_wI, isD_wR, isD_wD, isD_wJ, isD_wIs, isL_uI, isL_uJ, isL_wI, isL_wR, isL_wD, isL_wJ, isL_wIs]; with_reducible assumption)) dX5_giveOutputs_30 rfl ?_
      refine r_aload_n (i := 0) (n := 34) C dX5_giveOutputs_33 rfl rfl rfl ?_
      refine gX5_14 (n := 37) C (by first | with_reducible assumption | (simp only [sK_uI, sK_uJ, sK_uR, sK_wI, sK_wR, sK_wD, sK_wJ, sK_wIs, aN_uI, aN_uJ, aN_uR, aN_wI, aN_wR, aN_wD, aN_wJ, aN_wIs, fR_uI, fR_uJ, fR_wI, fR_wR, fR_wD, fR_wJ, fR_wIs, isI_uI, isI_uJ, isI_wI, isI_wR, isI_wD, isI_wJ, isI_wIs, isC_uI, isC_uJ, isC_wI, isC_wR, isC_wD, isC_wJ, isC_wIs, isG_uI, isG_uJ, isG_wI, isG_wR, isG_wD, isG_wJ, isG_wIs, isZ_uI, isZ_uJ, isZ_wI, isZ_wR, isZ_wD, isZ_wJ, isZ_wIs, isD_uI, isD_uJ, isD_wI, isD_wR, isD_wD, isD_wJ, isD_wIs, isL_uI, isL_uJ, isL_wI, isL_wR, isL_wD, isL_wJ, isL_wIs]; with_reducible assumption)) (by first | with_reducible assumption | (simp only [sK_uI, sK_uJ, sK_uR, sK_wI, sK_wR, sK_wD, sK_wJ, sK_wIs, aN_uI, aN_uJ, aN_uR, aN_wI, aN_wR, aN_wD, aN_wJ, aN_wIs, fR_uI, fR_uJ, fR_wI, fR_wR, fR_wD, fR_wJ, fR_wIs, isI_uI, isI_uJ, isI_wI, isI_wR, isI_wD, isI_wJ, isI_wIs, isC_uI, isC_uJ, isC_wI, isC_wR, isC_wD, isC_wJ, isC_wIs, isG_uI, isG_uJ, isG_wI, isG_wR, isG_wD, isG_wJ, isG_wIs, isZ_uI, isZ_uJ, isZ_wI, isZ_wR, isZ_wD, isZ_wJ, isZ_wIs, isD_uI, isD_uJ, isD_wI, isD_wR, isD_wD, isD_wJ, isD_wIs, isL_uI, isL_uJ, isL_wI, isL_wR, isL_wD, isL_wJ, isL_wIs]; with_reducible assumption)) dX5_giveOutputs_34 rfl ?_
      refine r_aload_n (i := 0) (n := 38) C dX5_giveOutputs_37 rfl rfl rfl ?_
      refine gX5_37 (n := 41) C (by first | with_reducible assumption | (simp only [sK_uI, sK_uJ, sK_uR, sK_wI, sK_wR, sK_wD, sK_wJ, sK_wIs, aN_uI, aN_uJ, aN_uR, aN_wI, aN_wR, aN_wD, aN_wJ, aN_wIs, fR_uI, fR_uJ, fR_wI, fR_wR, fR_wD, fR_wJ, fR_wIs, isI_uI, isI_uJ, isI_wI, isI_wR, isI_wD, isI_wJ, isI_wIs, isC_uI, isC_uJ, isC_wI, isC_wR, isC_wD, isC_wJ, isC_wIs, isG_uI, isG_uJ, isG_wI, isG_wR, isG_wD, isG_wJ, isG_wIs, isZ_uI, isZ_uJ, isZ_wI, isZ_wR, isZ_wD, isZ_wJ, isZ_wIs, isD_uI, isD_uJ, isD_wI, isD_wR, isD_wD, isD_wJ, isD_wIs, isL_uI, isL_uJ, isL_wI, isL_wR, isL_wD, isL_wJ, isL_wIs]; with_reducible assumption)) dX5_giveOutputs_38 rfl ?_
      simp only [fJ_wI, fJ_uI, hnT]
      refine r_iconst (v := 1) (n := 42) C dX5_giveOutputs_41 rfl rfl ?_
      refine kX5_137 (n := 45) C (c_cSmp hst (uI T 510 a ((pOut S rw_ L R n nx rr 0) k)) cv t rr 48000 (vC_uI hvT) (rtN.le hr).1 (rtN.le hr).2 (by omega) (by omega) w L R n rw_ (fC_uI hfT) (by omega) (tC_uI htT) (nx + k) (by omega) 1) (vC_uI hvT).1 (by decide) (by decide) (Nat.le_of_ble_eq_true rfl) dX5_giveOutputs_42 rfl (fun r S1 hp => ?_)
      obtain ⟨hS9, hr9⟩ := hp
      subst S1
      subst r
      rw [show flt2 (aI (uI T 510 a ((pOut S rw_ L R n nx rr 0) k)) rw_) (gC (uI T 510 a ((pOut S rw_ L R n nx rr 0) k)) L R n 1) (nx + k) rr 48000 = (pOut S rw_ L R n nx rr 1) k from by show flt2 (aI T rw_) (gC T L R n 1) (nx + k) rr 48000 = flt2 (aI S rw_) (gC S L R n 1) (nx + k) rr 48000; rw [hgT, hrT]]
      refine sX5_34 (n := 48) C (by first | with_reducible assumption | (simp only [sK_uI, sK_uJ, sK_uR, sK_wI, sK_wR, sK_wD, sK_wJ, sK_wIs, aN_uI, aN_uJ, aN_uR, aN_wI, aN_wR, aN_wD, aN_wJ, aN_wIs, fR_uI, fR_uJ, fR_wI, fR_wR, fR_wD, fR_wJ, fR_wIs, isI_uI, isI_uJ, isI_wI, isI_wR, isI_wD, isI_wJ, isI_wIs, isC_uI, isC_uJ, isC_wI, isC_wR, isC_wD, isC_wJ, isC_wIs, isG_uI, isG_uJ, isG_wI, isG_wR, isG_wD, isG_wJ, isG_wIs, isZ_uI, isZ_uJ, isZ_wI, isZ_wR, isZ_wD, isZ_wJ, isZ_wIs, isD_uI, isD_uJ, isD_wI, isD_wR, isD_wD, isD_wJ, isD_wIs, isL_uI, isL_uJ, isL_wI, isL_wR, isL_wD, isL_wJ, isL_wIs]; with_reducible assumption)) dX5_giveOutputs_45 rfl ?_
      refine r_aload_n (i := 1) (n := 49) C dX5_giveOutputs_48 rfl rfl rfl ?_
      refine r_iconst (v := 2) (n := 50) C dX5_giveOutputs_49 rfl rfl ?_
      refine r_iload_n (i := 2) (n := 51) C dX5_giveOutputs_50 rfl rfl rfl ?_
      refine r_imul (n := 52) C dX5_giveOutputs_51 rfl ?_
      refine r_aload_n (i := 0) (n := 53) C dX5_giveOutputs_52 rfl rfl rfl ?_
      refine gX5_31 (n := 56) C (by first | with_reducible assumption | (simp only [sK_uI, sK_uJ, sK_uR, sK_wI, sK_wR, sK_wD, sK_wJ, sK_wIs, aN_uI, aN_uJ, aN_uR, aN_wI, aN_wR, aN_wD, aN_wJ, aN_wIs, fR_uI, fR_uJ, fR_wI, fR_wR, fR_wD, fR_wJ, fR_wIs, isI_uI, isI_uJ, isI_wI, isI_wR, isI_wD, isI_wJ, isI_wIs, isC_uI, isC_uJ, isC_wI, isC_wR, isC_wD, isC_wJ, isC_wIs, isG_uI, isG_uJ, isG_wI, isG_wR, isG_wD, isG_wJ, isG_wIs, isZ_uI, isZ_uJ, isZ_wI, isZ_wR, isZ_wD, isZ_wJ, isZ_wIs, isD_uI, isD_uJ, isD_wI, isD_wR, isD_wD, isD_wJ, isD_wIs, isL_uI, isL_uJ, isL_wI, isL_wR, isL_wD, isL_wJ, isL_wIs]; with_reducible assumption)) dX5_giveOutputs_53 rfl ?_
      rw [show fI (uI (uI T 510 a ((pOut S rw_ L R n nx rr 0) k)) 511 a ((pOut S rw_ L R n nx rr 1) k)) 510 a = (pOut S rw_ L R n nx rr 0) k from (uI_fn (by decide)).trans uI_fs]
      refine q_iast (n := 57) C (2 * k) (by first | with_reducible assumption | (simp only [sK_uI, sK_uJ, sK_uR, sK_wI, sK_wR, sK_wD, sK_wJ, sK_wIs, aN_uI, aN_uJ, aN_uR, aN_wI, aN_wR, aN_wD, aN_wJ, aN_wIs, fR_uI, fR_uJ, fR_wI, fR_wR, fR_wD, fR_wJ, fR_wIs, isI_uI, isI_uJ, isI_wI, isI_wR, isI_wD, isI_wJ, isI_wIs, isC_uI, isC_uJ, isC_wI, isC_wR, isC_wD, isC_wJ, isC_wIs, isG_uI, isG_uJ, isG_wI, isG_wR, isG_wD, isG_wJ, isG_wIs, isZ_uI, isZ_uJ, isZ_wI, isZ_wR, isZ_wD, isZ_wJ, isZ_wIs, isD_uI, isD_uJ, isD_wI, isD_wR, isD_wD, isD_wJ, isD_wIs, isL_uI, isL_uJ, isL_wI, isL_wR, isL_wD, isL_wJ, isL_wIs]; with_reducible assumption)) (mul_nI (a := 2) (b := k) rfl rfl) (by omega) dX5_giveOutputs_56 rfl ?_
      refine r_aload_n (i := 1) (n := 58) C dX5_giveOutputs_57 rfl rfl rfl ?_
      refine r_iconst (v := 2) (n := 59) C dX5_giveOutputs_58 rfl rfl ?_
      refine r_iload_n (i := 2) (n := 60) C dX5_giveOutputs_59 rfl rfl rfl ?_
      refine r_imul (n := 61) C dX5_giveOutputs_60 rfl ?_
      refine r_iconst (v := 1) (n := 62) C dX5_giveOutputs_61 rfl rfl ?_
      refine r_iadd (n := 63) C dX5_giveOutputs_62 rfl ?_
      refine r_aload_n (i := 0) (n := 64) C dX5_giveOutputs_63 rfl rfl rfl ?_
      refine gX5_34 (n := 67) C (by first | with_reducible assumption | (simp only [sK_uI, sK_uJ, sK_uR, sK_wI, sK_wR, sK_wD, sK_wJ, sK_wIs, aN_uI, aN_uJ, aN_uR, aN_wI, aN_wR, aN_wD, aN_wJ, aN_wIs, fR_uI, fR_uJ, fR_wI, fR_wR, fR_wD, fR_wJ, fR_wIs, isI_uI, isI_uJ, isI_wI, isI_wR, isI_wD, isI_wJ, isI_wIs, isC_uI, isC_uJ, isC_wI, isC_wR, isC_wD, isC_wJ, isC_wIs, isG_uI, isG_uJ, isG_wI, isG_wR, isG_wD, isG_wJ, isG_wIs, isZ_uI, isZ_uJ, isZ_wI, isZ_wR, isZ_wD, isZ_wJ, isZ_wIs, isD_uI, isD_uJ, isD_wI, isD_wR, isD_wD, isD_wJ, isD_wIs, isL_uI, isL_uJ, isL_wI, isL_wR, isL_wD, isL_wJ, isL_wIs]; with_reducible assumption)) dX5_giveOutputs_64 rfl ?_
      rw [show fI (wI (uI (uI T 510 a ((pOut S rw_ L R n nx rr 0) k)) 511 a ((pOut S rw_ L R n nx rr 1) k)) row (2 * k) ((pOut S rw_ L R n nx rr 0) k)) 511 a = (pOut S rw_ L R n nx rr 1) k from (fI_wI _ _ _ _ _ _).trans uI_fs]
      refine q_iast (n := 68) C (2 * k + 1) (by first | with_reducible assumption | (simp only [sK_uI, sK_uJ, sK_uR, sK_wI, sK_wR, sK_wD, sK_wJ, sK_wIs, aN_uI, aN_uJ, aN_uR, aN_wI, aN_wR, aN_wD, aN_wJ, aN_wIs, fR_uI, fR_uJ, fR_wI, fR_wR, fR_wD, fR_wJ, fR_wIs, isI_uI, isI_uJ, isI_wI, isI_wR, isI_wD, isI_wJ, isI_wIs, isC_uI, isC_uJ, isC_wI, isC_wR, isC_wD, isC_wJ, isC_wIs, isG_uI, isG_uJ, isG_wI, isG_wR, isG_wD, isG_wJ, isG_wIs, isZ_uI, isZ_uJ, isZ_wI, isZ_wR, isZ_wD, isZ_wJ, isZ_wIs, isD_uI, isD_uJ, isD_wI, isD_wR, isD_wD, isD_wJ, isD_wIs, isL_uI, isL_uJ, isL_wI, isL_wR, isL_wD, isL_wJ, isL_wIs]; with_reducible assumption)) (add_nI (a := 2 * k) (b := 1) (mul_nI (a := 2) (b := k) rfl rfl) rfl) (by omega) dX5_giveOutputs_67 rfl ?_
      refine r_aload_n (i := 0) (n := 69) C dX5_giveOutputs_68 rfl rfl rfl ?_
      refine r_dup (n := 70) C dX5_giveOutputs_69 rfl rfl ?_
      refine gX5_37 (n := 73) C (by first | with_reducible assumption | (simp only [sK_uI, sK_uJ, sK_uR, sK_wI, sK_wR, sK_wD, sK_wJ, sK_wIs, aN_uI, aN_uJ, aN_uR, aN_wI, aN_wR, aN_wD, aN_wJ, aN_wIs, fR_uI, fR_uJ, fR_wI, fR_wR, fR_wD, fR_wJ, fR_wIs, isI_uI, isI_uJ, isI_wI, isI_wR, isI_wD, isI_wJ, isI_wIs, isC_uI, isC_uJ, isC_wI, isC_wR, isC_wD, isC_wJ, isC_wIs, isG_uI, isG_uJ, isG_wI, isG_wR, isG_wD, isG_wJ, isG_wIs, isZ_uI, isZ_uJ, isZ_wI, isZ_wR, isZ_wD, isZ_wJ, isZ_wIs, isD_uI, isD_uJ, isD_wI, isD_wR, isD_wD, isD_wJ, isD_wIs, isL_uI, isL_uJ, isL_wI, isL_wR, isL_wD, isL_wJ, isL_wIs]; with_reducible assumption)) dX5_giveOutputs_70 rfl ?_
      simp only [fJ_wI, fJ_uI, hnT]
      refine r_lconst (v := 1) (n := 74) C dX5_giveOutputs_73 rfl rfl ?_
      refine r_ladd (n := 75) C dX5_giveOutputs_74 rfl ?_
      rw [lN_1]
      refine sX5_37 (n := 78) C (by first | with_reducible assumption | (simp only [sK_uI, sK_uJ, sK_uR, sK_wI, sK_wR, sK_wD, sK_wJ, sK_wIs, aN_uI, aN_uJ, aN_uR, aN_wI, aN_wR, aN_wD, aN_wJ, aN_wIs, fR_uI, fR_uJ, fR_wI, fR_wR, fR_wD, fR_wJ, fR_wIs, isI_uI, isI_uJ, isI_wI, isI_wR, isI_wD, isI_wJ, isI_wIs, isC_uI, isC_uJ, isC_wI, isC_wR, isC_wD, isC_wJ, isC_wIs, isG_uI, isG_uJ, isG_wI, isG_wR, isG_wD, isG_wJ, isG_wIs, isZ_uI, isZ_uJ, isZ_wI, isZ_wR, isZ_wD, isZ_wJ, isZ_wIs, isD_uI, isD_uJ, isD_wI, isD_wR, isD_wD, isD_wJ, isD_wIs, isL_uI, isL_uJ, isL_wI, isL_wR, isL_wD, isL_wJ, isL_wIs]; with_reducible assumption)) dX5_giveOutputs_75 rfl ?_
      refine r_iinc (n := 81) C dX5_giveOutputs_78 rfl rfl (by decide) rfl rfl ?_
      refine r_goto (t := 2) C dX5_giveOutputs_81 (by decide) ?_
      rw [step _ rfl]
      exact J.to (by rw [show nI k + Int32.ofInt 1 = nI (k + 1) from nI_1 k]; rfl) (ih (k + 1) (by omega))
  have e0 := lp 24 0 (by omega)
  rw [pGk_0 hnx] at e0
  exact J.to rfl e0
def pfd (v : Int32) : Nat → Int32 := fun j => jFd (v * jMax 0 (15 - nI j)) 16
set_option maxRecDepth 100000 in
set_option maxHeartbeats 1000000 in
theorem c_giveFade {l : Launch} {G : GG} {b : Nat} (hst : l.stackTraces = false) (S : Sw) (a : Nat) (hk : sK S a = 5) (row : Nat) (hrow : isI S row 48) : Ct l G b yX5_giveFade cX5_giveFade 4 none rmX5_giveFade mV [.ref a, .ref row] S (fun _ S' => S' = uI (uI (uI (wIs S row (pw (ilv (pfd (fI S 510 a)) (pfd (fI S 511 a))) (aI S row) 48)) 510 a 0) 511 a 0) 3 a (fI S 3 a + 1)) := by
  refine Ct.of2 pnX5 (own := RX5) rfl (Nat.le_of_ble_eq_true rfl) hst ?_
  intro p e s m args below meth c C hname
  change J p l e rmX5_giveFade s m args below meth c 4 G b _ 0 [(0, .ref a), (1, .ref row)] [] S 0 0
  refine r_iconst (v := 0) (n := 1) C dX5_giveFade_0 rfl rfl ?_
  refine r_istore_n (i := 2) (n := 2) C dX5_giveFade_1 rfl (by decide) rfl rfl ?_
  have lp : ∀ (q k : Nat), k + q = 24 → J p l e rmX5_giveFade s m args below meth c 4 G b (vx_MQ below (Qp G b mV (fun _ S' => S' = uI (uI (uI (wIs S row (pw (ilv (pfd (fI S 510 a)) (pfd (fI S 511 a))) (aI S row) 48)) 510 a 0) 511 a 0) 3 a (fI S 3 a + 1))) (XCp G b S (fun _ => False)) args s rmX5_giveFade.cells rmX5_giveFade.slots (Ab b)) 2 [(0, .ref a), (1, .ref row), (2, .int (nI k))] [] (wIs S row (pw (ilv (pfd (fI S 510 a)) (pfd (fI S 511 a))) (aI S row) (2 * k))) 0 0 := by
    intro q
    induction q with
    | zero =>
      intro k hk9
      obtain rfl : k = 24 := by omega
      refine r_iload_n (i := 2) (n := 3) C dX5_giveFade_2 rfl rfl rfl ?_
      refine r_bipush (v := 24) (n := 5) C dX5_giveFade_3 rfl rfl ?_
      refine r_icmp_geT (t := 57) C (cle (a := 24) (b := 24) rfl rfl (by omega) (by omega)) dX5_giveFade_5 (by decide) ?_
      refine r_aload_n (i := 0) (n := 58) C dX5_giveFade_57 rfl rfl rfl ?_
      refine r_iconst (v := 0) (n := 59) C dX5_giveFade_58 rfl rfl ?_
      refine sX5_31 (n := 62) C (by first | with_reducible assumption | (simp only [sK_uI, sK_uJ, sK_uR, sK_wI, sK_wR, sK_wD, sK_wJ, sK_wIs, aN_uI, aN_uJ, aN_uR, aN_wI, aN_wR, aN_wD, aN_wJ, aN_wIs, fR_uI, fR_uJ, fR_wI, fR_wR, fR_wD, fR_wJ, fR_wIs, isI_uI, isI_uJ, isI_wI, isI_wR, isI_wD, isI_wJ, isI_wIs, isC_uI, isC_uJ, isC_wI, isC_wR, isC_wD, isC_wJ, isC_wIs, isG_uI, isG_uJ, isG_wI, isG_wR, isG_wD, isG_wJ, isG_wIs, isZ_uI, isZ_uJ, isZ_wI, isZ_wR, isZ_wD, isZ_wJ, isZ_wIs, isD_uI, isD_uJ, isD_wI, isD_wR, isD_wD, isD_wJ, isD_wIs, isL_uI, isL_uJ, isL_wI, isL_wR, isL_wD, isL_wJ, isL_wIs]; with_reducible assumption)) dX5_giveFade_59 rfl ?_
      refine r_aload_n (i := 0) (n := 63) C dX5_giveFade_62 rfl rfl rfl ?_
      refine r_iconst (v := 0) (n := 64) C dX5_giveFade_63 rfl rfl ?_
      refine sX5_34 (n := 67) C (by first | with_reducible assumption | (simp only [sK_uI, sK_uJ, sK_uR, sK_wI, sK_wR, sK_wD, sK_wJ, sK_wIs, aN_uI, aN_uJ, aN_uR, aN_wI, aN_wR, aN_wD, aN_wJ, aN_wIs, fR_uI, fR_uJ, fR_wI, fR_wR, fR_wD, fR_wJ, fR_wIs, isI_uI, isI_uJ, isI_wI, isI_wR, isI_wD, isI_wJ, isI_wIs, isC_uI, isC_uJ, isC_wI, isC_wR, isC_wD, isC_wJ, isC_wIs, isG_uI, isG_uJ, isG_wI, isG_wR, isG_wD, isG_wJ, isG_wIs, isZ_uI, isZ_uJ, isZ_wI, isZ_wR, isZ_wD, isZ_wJ, isZ_wIs, isD_uI, isD_uJ, isD_wI, isD_wR, isD_wD, isD_wJ, isD_wIs, isL_uI, isL_uJ, isL_wI, isL_wR, isL_wD, isL_wJ, isL_wIs]; with_reducible assumption)) dX5_giveFade_64 rfl ?_
      refine r_aload_n (i := 0) (n := 68) C dX5_giveFade_67 rfl rfl rfl ?_
      refine r_dup (n := 69) C dX5_giveFade_68 rfl rfl ?_
      refine gX5_144 (n := 72) C (by first | with_reducible assumption | (simp only [sK_uI, sK_uJ, sK_uR, sK_wI, sK_wR, sK_wD, sK_wJ, sK_wIs, aN_uI, aN_uJ, aN_uR, aN_wI, aN_wR, aN_wD, aN_wJ, aN_wIs, fR_uI, fR_uJ, fR_wI, fR_wR, fR_wD, fR_wJ, fR_wIs, isI_uI, isI_uJ, isI_wI, isI_wR, isI_wD, isI_wJ, isI_wIs, isC_uI, isC_uJ, isC_wI, isC_wR, isC_wD, isC_wJ, isC_wIs, isG_uI, isG_uJ, isG_wI, isG_wR, isG_wD, isG_wJ, isG_wIs, isZ_uI, isZ_uJ, isZ_wI, isZ_wR, isZ_wD, isZ_wJ, isZ_wIs, isD_uI, isD_uJ, isD_wI, isD_wR, isD_wD, isD_wJ, isD_wIs, isL_uI, isL_uJ, isL_wI, isL_wR, isL_wD, isL_wJ, isL_wIs]; with_reducible assumption)) dX5_giveFade_69 rfl ?_
      rw [show fI (uI (uI (wIs S row (pw (ilv (pfd (fI S 510 a)) (pfd (fI S 511 a))) (aI S row) (2 * 24))) 510 a 0) 511 a 0) 3 a = fI S 3 a from (uI_fn (by decide)).trans (uI_fn (by decide))]
      refine r_iconst (v := 1) (n := 73) C dX5_giveFade_72 rfl rfl ?_
      refine r_iadd (n := 74) C dX5_giveFade_73 rfl ?_
      refine sX5_144 (n := 77) C (by first | with_reducible assumption | (simp only [sK_uI, sK_uJ, sK_uR, sK_wI, sK_wR, sK_wD, sK_wJ, sK_wIs, aN_uI, aN_uJ, aN_uR, aN_wI, aN_wR, aN_wD, aN_wJ, aN_wIs, fR_uI, fR_uJ, fR_wI, fR_wR, fR_wD, fR_wJ, fR_wIs, isI_uI, isI_uJ, isI_wI, isI_wR, isI_wD, isI_wJ, isI_wIs, isC_uI, isC_uJ, isC_wI, isC_wR, isC_wD, isC_wJ, isC_wIs, isG_uI, isG_uJ, isG_wI, isG_wR, isG_wD, isG_wJ, isG_wIs, isZ_uI, isZ_uJ, isZ_wI, isZ_wR, isZ_wD, isZ_wJ, isZ_wIs, isD_uI, isD_uJ, isD_wI, isD_wR, isD_wD, isD_wJ, isD_wIs, isL_uI, isL_uJ, isL_wI, isL_wR, isL_wD, isL_wJ, isL_wIs]; with_reducible assumption)) dX5_giveFade_74 rfl ?_
      refine t_v C dX5_giveFade_77 (by decide) ?_
      rfl
    | succ q ih =>
      intro k hk9
      refine r_iload_n (i := 2) (n := 3) C dX5_giveFade_2 rfl rfl rfl ?_
      refine r_bipush (v := 24) (n := 5) C dX5_giveFade_3 rfl rfl ?_
      refine r_icmp_geF (n := 8) (t := 57) C (cnle (a := 24) (b := k) rfl rfl (by omega) (by omega)) dX5_giveFade_5 (by decide) rfl ?_
      refine r_iconst (v := 0) (n := 9) C dX5_giveFade_8 rfl rfl ?_
      refine r_bipush (v := 15) (n := 11) C dX5_giveFade_9 rfl rfl ?_
      refine r_iload_n (i := 2) (n := 12) C dX5_giveFade_11 rfl rfl rfl ?_
      refine r_isub (n := 13) C dX5_giveFade_12 rfl ?_
      refine kX5_141 (n := 16) C (c_max hst (wIs S row (pw (ilv (pfd (fI S 510 a)) (pfd (fI S 511 a))) (aI S row) (2 * k))) 0 (15 - nI k)) (by decide) (by decide) (Nat.le_of_ble_eq_true rfl) dX5_giveFade_13 rfl (fun r S1 hp => ?_)
      obtain ⟨hS9, hr9⟩ := hp
      subst S1
      subst r
      refine r_istore_n (i := 3) (n := 17) C dX5_giveFade_16 rfl (by decide) rfl rfl ?_
      refine r_aload_n (i := 1) (n := 18) C dX5_giveFade_17 rfl rfl rfl ?_
      refine r_iconst (v := 2) (n := 19) C dX5_giveFade_18 rfl rfl ?_
      refine r_iload_n (i := 2) (n := 20) C dX5_giveFade_19 rfl rfl rfl ?_
      refine r_imul (n := 21) C dX5_giveFade_20 rfl ?_
      refine r_aload_n (i := 0) (n := 22) C dX5_giveFade_21 rfl rfl rfl ?_
      refine gX5_31 (n := 25) C (by first | with_reducible assumption | (simp only [sK_uI, sK_uJ, sK_uR, sK_wI, sK_wR, sK_wD, sK_wJ, sK_wIs, aN_uI, aN_uJ, aN_uR, aN_wI, aN_wR, aN_wD, aN_wJ, aN_wIs, fR_uI, fR_uJ, fR_wI, fR_wR, fR_wD, fR_wJ, fR_wIs, isI_uI, isI_uJ, isI_wI, isI_wR, isI_wD, isI_wJ, isI_wIs, isC_uI, isC_uJ, isC_wI, isC_wR, isC_wD, isC_wJ, isC_wIs, isG_uI, isG_uJ, isG_wI, isG_wR, isG_wD, isG_wJ, isG_wIs, isZ_uI, isZ_uJ, isZ_wI, isZ_wR, isZ_wD, isZ_wJ, isZ_wIs, isD_uI, isD_uJ, isD_wI, isD_wR, isD_wD, isD_wJ, isD_wIs, isL_uI, isL_uJ, isL_wI, isL_wR, isL_wD, isL_wJ, isL_wIs]; with_reducible assumption)) dX5_giveFade_22 rfl ?_
      rw [fI_wIs]
      refine r_iload_n (i := 3) (n := 26) C dX5_giveFade_25 rfl rfl rfl ?_
      refine r_imul (n := 27) C dX5_giveFade_26 rfl ?_
      refine r_bipush (v := 16) (n := 29) C dX5_giveFade_27 rfl rfl ?_
      refine kX5_114 (n := 32) C (c_fd hst (wIs S row (pw (ilv (pfd (fI S 510 a)) (pfd (fI S 511 a))) (aI S row) (2 * k))) (fI S 510 a * jMax 0 (15 - nI k)) 16 (by decide)) (by decide) (by decide) (Nat.le_of_ble_eq_true rfl) dX5_giveFade_29 rfl (fun r S1 hp => ?_)
      obtain ⟨hS9, hr9⟩ := hp
      subst S1
      subst r
      rw [show jFd (fI S 510 a * jMax 0 (15 - nI k)) 16 = (pfd (fI S 510 a)) k from rfl]
      refine q_iast (n := 33) C (2 * k) (by first | with_reducible assumption | (simp only [sK_uI, sK_uJ, sK_uR, sK_wI, sK_wR, sK_wD, sK_wJ, sK_wIs, aN_uI, aN_uJ, aN_uR, aN_wI, aN_wR, aN_wD, aN_wJ, aN_wIs, fR_uI, fR_uJ, fR_wI, fR_wR, fR_wD, fR_wJ, fR_wIs, isI_uI, isI_uJ, isI_wI, isI_wR, isI_wD, isI_wJ, isI_wIs, isC_uI, isC_uJ, isC_wI, isC_wR, isC_wD, isC_wJ, isC_wIs, isG_uI, isG_uJ, isG_wI, isG_wR, isG_wD, isG_wJ, isG_wIs, isZ_uI, isZ_uJ, isZ_wI, isZ_wR, isZ_wD, isZ_wJ, isZ_wIs, isD_uI, isD_uJ, isD_wI, isD_wR, isD_wD, isD_wJ, isD_wIs, isL_uI, isL_uJ, isL_wI, isL_wR, isL_wD, isL_wJ, isL_wIs]; with_reducible assumption)) (mul_nI (a := 2) (b := k) rfl rfl) (by omega) dX5_giveFade_32 rfl ?_
      refine r_aload_n (i := 1) (n := 34) C dX5_giveFade_33 rfl rfl rfl ?_
      refine r_iconst (v := 2) (n := 35) C dX5_giveFade_34 rfl rfl ?_
      refine r_iload_n (i := 2) (n := 36) C dX5_giveFade_35 rfl rfl rfl ?_
      refine r_imul (n := 37) C dX5_giveFade_36 rfl ?_
      refine r_iconst (v := 1) (n := 38) C dX5_giveFade_37 rfl rfl ?_
      refine r_iadd (n := 39) C dX5_giveFade_38 rfl ?_
      refine r_aload_n (i := 0) (n := 40) C dX5_giveFade_39 rfl rfl rfl ?_
      refine gX5_34 (n := 43) C (by first | with_reducible assumption | (simp only [sK_uI, sK_uJ, sK_uR, sK_wI, sK_wR, sK_wD, sK_wJ, sK_wIs, aN_uI, aN_uJ, aN_uR, aN_wI, aN_wR, aN_wD, aN_wJ, aN_wIs, fR_uI, fR_uJ, fR_wI, fR_wR, fR_wD, fR_wJ, fR_wIs, isI_uI, isI_uJ, isI_wI, isI_wR, isI_wD, isI_wJ, isI_wIs, isC_uI, isC_uJ, isC_wI, isC_wR, isC_wD, isC_wJ, isC_wIs, isG_uI, isG_uJ, isG_wI, isG_wR, isG_wD, isG_wJ, isG_wIs, isZ_uI, isZ_uJ, isZ_wI, isZ_wR, isZ_wD, isZ_wJ, isZ_wIs, isD_uI, isD_uJ, isD_wI, isD_wR, isD_wD, isD_wJ, isD_wIs, isL_uI, isL_uJ, isL_wI, isL_wR, isL_wD, isL_wJ, isL_wIs]; with_reducible assumption)) dX5_giveFade_40 rfl ?_
      rw [fI_wI, fI_wIs]
      refine r_iload_n (i := 3) (n := 44) C dX5_giveFade_43 rfl rfl rfl ?_
      refine r_imul (n := 45) C dX5_giveFade_44 rfl ?_
      refine r_bipush (v := 16) (n := 47) C dX5_giveFade_45 rfl rfl ?_
      refine kX5_114 (n := 50) C (c_fd hst (wI (wIs S row (pw (ilv (pfd (fI S 510 a)) (pfd (fI S 511 a))) (aI S row) (2 * k))) row (2 * k) ((pfd (fI S 510 a)) k)) (fI S 511 a * jMax 0 (15 - nI k)) 16 (by decide)) (by decide) (by decide) (Nat.le_of_ble_eq_true rfl) dX5_giveFade_47 rfl (fun r S1 hp => ?_)
      obtain ⟨hS9, hr9⟩ := hp
      subst S1
      subst r
      rw [show jFd (fI S 511 a * jMax 0 (15 - nI k)) 16 = (pfd (fI S 511 a)) k from rfl]
      refine q_iast (n := 51) C (2 * k + 1) (by first | with_reducible assumption | (simp only [sK_uI, sK_uJ, sK_uR, sK_wI, sK_wR, sK_wD, sK_wJ, sK_wIs, aN_uI, aN_uJ, aN_uR, aN_wI, aN_wR, aN_wD, aN_wJ, aN_wIs, fR_uI, fR_uJ, fR_wI, fR_wR, fR_wD, fR_wJ, fR_wIs, isI_uI, isI_uJ, isI_wI, isI_wR, isI_wD, isI_wJ, isI_wIs, isC_uI, isC_uJ, isC_wI, isC_wR, isC_wD, isC_wJ, isC_wIs, isG_uI, isG_uJ, isG_wI, isG_wR, isG_wD, isG_wJ, isG_wIs, isZ_uI, isZ_uJ, isZ_wI, isZ_wR, isZ_wD, isZ_wJ, isZ_wIs, isD_uI, isD_uJ, isD_wI, isD_wR, isD_wD, isD_wJ, isD_wIs, isL_uI, isL_uJ, isL_wI, isL_wR, isL_wD, isL_wJ, isL_wIs]; with_reducible assumption)) (add_nI (a := 2 * k) (b := 1) (mul_nI (a := 2) (b := k) rfl rfl) rfl) (by omega) dX5_giveFade_50 rfl ?_
      refine r_iinc (n := 54) C dX5_giveFade_51 rfl rfl (by decide) rfl rfl ?_
      refine r_goto (t := 2) C dX5_giveFade_54 (by decide) ?_
      rw [wI_wIs, wI_wIs, show (fun i => if i = 2 * k + 1 then (pfd (fI S 511 a)) k else if i = 2 * k then (pfd (fI S 510 a)) k else pw (ilv (pfd (fI S 510 a)) (pfd (fI S 511 a))) (aI S row) (2 * k) i) = pw (ilv (pfd (fI S 510 a)) (pfd (fI S 511 a))) (aI S row) (2 * (k + 1)) from pw_s2 (pfd (fI S 510 a)) (pfd (fI S 511 a)) _ k]
      exact J.to (by rw [show nI k + Int32.ofInt 1 = nI (k + 1) from nI_1 k]; rfl) (ih (k + 1) (by omega))
  have e0 := lp 24 0 (by omega)
  rw [show 2 * 0 = 0 from rfl, pw_0, wIs_self] at e0
  exact J.to rfl e0
