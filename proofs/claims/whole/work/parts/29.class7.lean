/-- frames added one behind the other -/
def faK (S : Sw) (w L R n : Nat) (f g : Nat → Int32) : Nat → Sw
  | 0 => S
  | k + 1 => fAdd (faK S w L R n f g k) w L R (n + k) (f k) (g k)
theorem fA_k {S : Sw} {w L R n x : Nat} {u v : Int32} : sK (fAdd S w L R n u v) x = sK S x := rfl
theorem fA_n {S : Sw} {w L R n x : Nat} {u v : Int32} : aN (fAdd S w L R n u v) x = aN S x := rfl
theorem fA_I {S : Sw} {w L R n x y : Nat} {u v : Int32} : fI (fAdd S w L R n u v) x y = fI S x y := rfl
theorem fA_R {S : Sw} {w L R n x y : Nat} {u v : Int32} : fR (fAdd S w L R n u v) x y = fR S x y := rfl
theorem fA_J {S : Sw} {w L R n x y : Nat} {u v : Int32} (h : ¬ (x = 202 ∧ y = w)) : fJ (fAdd S w L R n u v) x y = fJ S x y := if_neg h
theorem fA_Js {S : Sw} {w L R n : Nat} {u v : Int32} : fJ (fAdd S w L R n u v) 202 w = lN (n + 1) := if_pos ⟨rfl, rfl⟩
theorem fA_a {S : Sw} {w L R n x y : Nat} {u v : Int32} (h1 : x ≠ L) (h2 : x ≠ R) : aI (fAdd S w L R n u v) x y = aI S x y := (if_neg (fun q => h2 q.1)).trans (if_neg (fun q => h1 q.1))
theorem fK_k {S : Sw} {w L R n k x : Nat} {f g : Nat → Int32} : sK (faK S w L R n f g k) x = sK S x := by
  induction k with
  | zero => rfl
  | succ k ih => exact fA_k.trans ih
theorem fK_n {S : Sw} {w L R n k x : Nat} {f g : Nat → Int32} : aN (faK S w L R n f g k) x = aN S x := by
  induction k with
  | zero => rfl
  | succ k ih => exact fA_n.trans ih
theorem fK_I {S : Sw} {w L R n k x y : Nat} {f g : Nat → Int32} : fI (faK S w L R n f g k) x y = fI S x y := by
  induction k with
  | zero => rfl
  | succ k ih => exact fA_I.trans ih
theorem fK_R {S : Sw} {w L R n k x y : Nat} {f g : Nat → Int32} : fR (faK S w L R n f g k) x y = fR S x y := by
  induction k with
  | zero => rfl
  | succ k ih => exact fA_R.trans ih
theorem fK_J {S : Sw} {w L R n k x y : Nat} {f g : Nat → Int32} (h : ¬ (x = 202 ∧ y = w)) : fJ (faK S w L R n f g k) x y = fJ S x y := by
  induction k with
  | zero => rfl
  | succ k ih => exact (fA_J h).trans ih
theorem fK_Js {S : Sw} {w L R n k : Nat} {f g : Nat → Int32} (h : fJ S 202 w = lN n) : fJ (faK S w L R n f g k) 202 w = lN (n + k) := by
  induction k with
  | zero => exact h
  | succ k ih => exact fA_Js
theorem fK_a {S : Sw} {w L R n k x y : Nat} {f g : Nat → Int32} (h1 : x ≠ L) (h2 : x ≠ R) : aI (faK S w L R n f g k) x y = aI S x y := by
  induction k with
  | zero => rfl
  | succ k ih => exact (fA_a h1 h2).trans ih
theorem fK_i {S : Sw} {w L R n k x N : Nat} {f g : Nat → Int32} (h : isI S x N) : isI (faK S w L R n f g k) x N := ⟨fK_k.trans h.1, fK_n.trans h.2.1, h.2.2⟩
theorem fK_fC {S : Sw} {w L R n k : Nat} {f g : Nat → Int32} (h : fC S w L R n) : fC (faK S w L R n f g k) w L R (n + k) := ⟨fK_k.trans h.1, fK_R.trans h.2.1, fK_R.trans h.2.2.1, fK_i h.2.2.2.1, fK_i h.2.2.2.2.1, fK_Js h.2.2.2.2.2⟩
theorem fK_fC2 {S : Sw} {w L R n k w' L' R' n' : Nat} {f g : Nat → Int32} (hne : w' ≠ w) (h : fC S w' L' R' n') : fC (faK S w L R n f g k) w' L' R' n' := ⟨fK_k.trans h.1, fK_R.trans h.2.1, fK_R.trans h.2.2.1, fK_i h.2.2.2.1, fK_i h.2.2.2.2.1, (fK_J (fun q => hne q.2)).trans h.2.2.2.2.2⟩
theorem fK_vC {S : Sw} {w L R n k c t x y : Nat} {f g : Nat → Int32} (h : vC S c t x y) : vC (faK S w L R n f g k) c t x y := ⟨fK_k.trans h.1, fK_R.trans h.2.1, (fK_J (fun q => absurd q.1 (by decide))).trans h.2.2.1, (fK_J (fun q => absurd q.1 (by decide))).trans h.2.2.2⟩
theorem fK_tC {S : Sw} {w L R n k t r : Nat} {f g : Nat → Int32} (h : tC S t r) : tC (faK S w L R n f g k) t r := ⟨fK_k.trans h.1, fK_R.trans h.2.1, fK_i h.2.2⟩
set_option maxRecDepth 100000 in
set_option maxHeartbeats 1000000 in
theorem c_numbersNow4 {l : Launch} {G : GG} {b : Nat} (hst : l.stackTraces = false) (S : Sw) (a : Nat) (hk : sK S a = 4) (w2 L2 R2 un : Nat) (hw2 : fR S 407 a = some w2) (hf2 : fC S w2 L2 R2 un) (hun : un < 2 ^ 20) (wh : Nat) (hwh : fJ S 409 a = lN wh) (hwh2 : wh < 2 ^ 20) : Ct l G b yX4_numbersNow cX4_numbersNow 1 (some .int) rmX4_numbersNow mI [.ref a] S (fun r S' => S' = S ∧ r = (lN un - lN wh).toInt32 * fI S 0 a - (if fI S 4 a = 0 then 0 else 1)) := by
  refine Ct.of2 pnX4 (own := RX4) rfl (Nat.le_of_ble_eq_true rfl) hst ?_
  intro p e s m args below meth c C hname
  change J p l e rmX4_numbersNow s m args below meth c 1 G b _ 0 [(0, .ref a)] [] S 0 0
  refine r_aload_n (i := 0) (n := 1) C dX4_numbersNow_0 rfl rfl rfl ?_
  refine r_aload_n (i := 0) (n := 2) C dX4_numbersNow_1 rfl rfl rfl ?_
  refine gX4_20 (n := 5) C hk hw2 dX4_numbersNow_2 rfl ?_
  refine gX4_40 (n := 8) C hf2.1 dX4_numbersNow_5 rfl ?_
  rw [hf2.2.2.2.2.2]
  refine r_aload_n (i := 0) (n := 9) C dX4_numbersNow_8 rfl rfl rfl ?_
  refine gX4_27 (n := 12) C hk dX4_numbersNow_9 rfl ?_
  rw [hwh]
  refine r_lsub (n := 13) C dX4_numbersNow_12 rfl ?_
  refine kX4_43 (n := 16) C (c_numbersOf_4 hst S a hk _) hk (by decide) (by decide) (Nat.le_of_ble_eq_true rfl) dX4_numbersNow_13 rfl (fun r S1 hp => ?_)
  obtain ⟨hS9, hr9⟩ := hp
  subst S1
  subst r
  refine t_i C rfl dX4_numbersNow_16 (by decide) ?_
  exact ⟨rfl, rfl⟩
set_option maxRecDepth 100000 in
set_option maxHeartbeats 1000000 in
theorem c_place4 {l : Launch} {G : GG} {b : Nat} (hst : l.stackTraces = false) (S : Sw) (a : Nat) (hk : sK S a = 4) : Ct l G b yX4_place cX4_place 1 (some .long) rmX4_place mJ [.ref a] S (fun r S' => S' = S ∧ r = fJ S 409 a) := by
  refine Ct.of2 pnX4 (own := RX4) rfl (Nat.le_of_ble_eq_true rfl) hst ?_
  intro p e s m args below meth c C hname
  change J p l e rmX4_place s m args below meth c 1 G b _ 0 [(0, .ref a)] [] S 0 0
  refine r_aload_n (i := 0) (n := 1) C dX4_place_0 rfl rfl rfl ?_
  refine gX4_27 (n := 4) C (by first | with_reducible assumption | (simp only [sK_uI, sK_uJ, sK_uR, sK_wI, sK_wR, sK_wD, sK_wJ, sK_wIs, aN_uI, aN_uJ, aN_uR, aN_wI, aN_wR, aN_wD, aN_wJ, aN_wIs, fR_uI, fR_uJ, fR_wI, fR_wR, fR_wD, fR_wJ, fR_wIs, isI_uI, isI_uJ, isI_wI, isI_wR, isI_wD, isI_wJ, isI_wIs, isC_uI, isC_uJ, isC_wI, isC_wR, isC_wD, isC_wJ, isC_wIs, isG_uI, isG_uJ, isG_wI, isG_wR, isG_wD, isG_wJ, isG_wIs, isZ_uI, isZ_uJ, isZ_wI, isZ_wR, isZ_wD, isZ_wJ, isZ_wIs, isD_uI, isD_uJ, isD_wI, isD_wR, isD_wD, isD_wJ, isD_wIs, isL_uI, isL_uJ, isL_wI, isL_wR, isL_wD, isL_wJ, isL_wIs]; with_reducible assumption)) dX4_place_1 rfl ?_
  refine t_j C dX4_place_4 (by decide) ?_
  exact ⟨rfl, rfl⟩
set_option maxRecDepth 100000 in
set_option maxHeartbeats 1000000 in
theorem c_freshFrames {l : Launch} {G : GG} {b : Nat} (hst : l.stackTraces = false) (S : Sw) (a : Nat) (hk : sK S a = 4) (cv t rr : Nat) (hcv : fR S 405 a = some cv) (hvc : vC S cv t 48000 rr) (hr : rtN rr) (w1 L1 R1 h : Nat) (hw1 : fR S 406 a = some w1) (hf1 : fC S w1 L1 R1 h) (hh : h < 2 ^ 20) (rk : Nat) (hrk : fJ S 408 a = lN rk) (hrk2 : rk < 2 ^ 19) (fr : Nat) (hfr : fr ≤ 24) (hall : ∀ i, i < fr → (if 48000 = rr then (rk + i) else (rk + i) * 48000 / rr + 8) < h) (hend : fr = 24 ∨ ¬ (if 48000 = rr then (rk + fr) else (rk + fr) * 48000 / rr + 8) < h) : Ct l G b yX4_freshFrames cX4_freshFrames 2 (some .int) rmX4_freshFrames mI [.ref a] S (fun r S' => S' = S ∧ r = nI fr) := by
  refine Ct.of2 pnX4 (own := RX4) rfl (Nat.le_of_ble_eq_true rfl) hst ?_
  intro p e s m args below meth c C hname
  change J p l e rmX4_freshFrames s m args below meth c 2 G b _ 0 [(0, .ref a)] [] S 0 0
  refine r_iconst (v := 0) (n := 1) C dX4_freshFrames_0 rfl rfl ?_
  refine r_istore_n (i := 1) (n := 2) C dX4_freshFrames_1 rfl (by decide) rfl rfl ?_
  have lp : ∀ (q k : Nat), k + q = fr → J p l e rmX4_freshFrames s m args below meth c 2 G b (vx_MQ below (Qp G b mI (fun r S' => S' = S ∧ r = nI fr)) (XCp G b S (fun _ => False)) args s rmX4_freshFrames.cells rmX4_freshFrames.slots (Ab b)) 2 [(0, .ref a), (1, .int (nI k))] [] S 0 0 := by
    intro q
    induction q with
    | zero =>
      intro k hk9
      obtain rfl : k = fr := by omega
      have hb9 := pl_le (n := rk + k) (f := 48000) (t := rr) (by omega) (by omega) (rtN.le hr).2
      rcases hend with he | he
      · have hk24 : k = 24 := he
        refine r_iload_n (i := 1) (n := 3) C dX4_freshFrames_2 rfl rfl rfl ?_
        refine r_bipush (v := 24) (n := 5) C dX4_freshFrames_3 rfl rfl ?_
        refine r_icmp_geT (t := 39) C (cle (a := 24) (b := k) rfl rfl (by omega) (by omega)) dX4_freshFrames_5 (by decide) ?_
        refine r_iload_n (i := 1) (n := 40) C dX4_freshFrames_39 rfl rfl rfl ?_
        refine t_i C rfl dX4_freshFrames_40 (by decide) ?_
        exact ⟨rfl, rfl⟩
      · by_cases hk24 : k = 24
        · skip
          refine r_iload_n (i := 1) (n := 3) C dX4_freshFrames_2 rfl rfl rfl ?_
          refine r_bipush (v := 24) (n := 5) C dX4_freshFrames_3 rfl rfl ?_
          refine r_icmp_geT (t := 39) C (cle (a := 24) (b := k) rfl rfl (by omega) (by omega)) dX4_freshFrames_5 (by decide) ?_
          refine r_iload_n (i := 1) (n := 40) C dX4_freshFrames_39 rfl rfl rfl ?_
          refine t_i C rfl dX4_freshFrames_40 (by decide) ?_
          exact ⟨rfl, rfl⟩
        · skip
          refine r_iload_n (i := 1) (n := 3) C dX4_freshFrames_2 rfl rfl rfl ?_
          refine r_bipush (v := 24) (n := 5) C dX4_freshFrames_3 rfl rfl ?_
          refine r_icmp_geF (n := 8) (t := 39) C (cnle (a := 24) (b := k) rfl rfl (by omega) (by omega)) dX4_freshFrames_5 (by decide) rfl ?_
          refine r_aload_n (i := 0) (n := 9) C dX4_freshFrames_8 rfl rfl rfl ?_
          refine gX4_36 (n := 12) C hk hcv dX4_freshFrames_9 rfl ?_
          refine r_aload_n (i := 0) (n := 13) C dX4_freshFrames_12 rfl rfl rfl ?_
          refine gX4_23 (n := 16) C hk dX4_freshFrames_13 rfl ?_
          rw [hrk]
          refine r_iload_n (i := 1) (n := 17) C dX4_freshFrames_16 rfl rfl rfl ?_
          refine r_i2l (n := 18) C dX4_freshFrames_17 rfl ?_
          rw [nI_l (by omega)]
          refine r_ladd (n := 19) C dX4_freshFrames_18 rfl ?_
          rw [lN_add]
          refine kX4_85 (n := 22) C (c_lastNeeded hst S cv t 48000 rr hvc (by omega) (by omega) (rtN.le hr).1 (rtN.le hr).2 (rk + k) (by omega)) hvc.1 (by decide) (by decide) (Nat.le_of_ble_eq_true rfl) dX4_freshFrames_19 rfl (fun r S1 hp => ?_)
          obtain ⟨hS9, hr9⟩ := hp
          subst S1
          subst r
          refine r_aload_n (i := 0) (n := 23) C dX4_freshFrames_22 rfl rfl rfl ?_
          refine gX4_14 (n := 26) C hk hw1 dX4_freshFrames_23 rfl ?_
          refine gX4_40 (n := 29) C hf1.1 dX4_freshFrames_26 rfl ?_
          rw [hf1.2.2.2.2.2]
          refine r_lcmp (n := 30) C dX4_freshFrames_29 rfl ?_
          refine r_if_geT (t := 39) C (by rw [lg_cmp_ge, pk_lLE (by omega) (by split <;> omega)]; omega) dX4_freshFrames_30 (by decide) ?_
          refine r_iload_n (i := 1) (n := 40) C dX4_freshFrames_39 rfl rfl rfl ?_
          refine t_i C rfl dX4_freshFrames_40 (by decide) ?_
          exact ⟨rfl, rfl⟩
    | succ q ih =>
      intro k hk9
      have hb9 := pl_le (n := rk + k) (f := 48000) (t := rr) (by omega) (by omega) (rtN.le hr).2
      refine r_iload_n (i := 1) (n := 3) C dX4_freshFrames_2 rfl rfl rfl ?_
      refine r_bipush (v := 24) (n := 5) C dX4_freshFrames_3 rfl rfl ?_
      refine r_icmp_geF (n := 8) (t := 39) C (cnle (a := 24) (b := k) rfl rfl (by omega) (by omega)) dX4_freshFrames_5 (by decide) rfl ?_
      refine r_aload_n (i := 0) (n := 9) C dX4_freshFrames_8 rfl rfl rfl ?_
      refine gX4_36 (n := 12) C hk hcv dX4_freshFrames_9 rfl ?_
      refine r_aload_n (i := 0) (n := 13) C dX4_freshFrames_12 rfl rfl rfl ?_
      refine gX4_23 (n := 16) C hk dX4_freshFrames_13 rfl ?_
      rw [hrk]
      refine r_iload_n (i := 1) (n := 17) C dX4_freshFrames_16 rfl rfl rfl ?_
      refine r_i2l (n := 18) C dX4_freshFrames_17 rfl ?_
      rw [nI_l (by omega)]
      refine r_ladd (n := 19) C dX4_freshFrames_18 rfl ?_
      rw [lN_add]
      refine kX4_85 (n := 22) C (c_lastNeeded hst S cv t 48000 rr hvc (by omega) (by omega) (rtN.le hr).1 (rtN.le hr).2 (rk + k) (by omega)) hvc.1 (by decide) (by decide) (Nat.le_of_ble_eq_true rfl) dX4_freshFrames_19 rfl (fun r S1 hp => ?_)
      obtain ⟨hS9, hr9⟩ := hp
      subst S1
      subst r
      refine r_aload_n (i := 0) (n := 23) C dX4_freshFrames_22 rfl rfl rfl ?_
      refine gX4_14 (n := 26) C hk hw1 dX4_freshFrames_23 rfl ?_
      refine gX4_40 (n := 29) C hf1.1 dX4_freshFrames_26 rfl ?_
      rw [hf1.2.2.2.2.2]
      refine r_lcmp (n := 30) C dX4_freshFrames_29 rfl ?_
      refine r_if_geF (n := 33) (t := 39) C (by rw [lg_cmp_ge, pk_lLE (by omega) (by split <;> omega)]; have := hall k (by omega); omega) dX4_freshFrames_30 (by decide) rfl ?_
      refine r_iinc (n := 36) C dX4_freshFrames_33 rfl rfl (by decide) rfl rfl ?_
      refine r_goto (t := 2) C dX4_freshFrames_36 (by decide) ?_
      exact J.to (by rw [show nI k + Int32.ofInt 1 = nI (k + 1) from nI_1 k]; rfl) (ih (k + 1) (by omega))
  exact J.to rfl (lp fr 0 (by omega))
def ulv (S : Sw) (tr L1 R1 h rk rr : Nat) (rt : Int32) : Nat → Int32 := fun j => flt2 (aI S tr) (gC S L1 R1 h rt) (rk + j) 48000 rr
set_option maxRecDepth 100000 in
set_option maxHeartbeats 1000000 in
theorem c_unlock {l : Launch} {G : GG} {b : Nat} (hst : l.stackTraces = false) (S : Sw) (a : Nat) (hk : sK S a = 4) (cv t rr : Nat) (hcv : fR S 405 a = some cv) (hvc : vC S cv t 48000 rr) (hr : rtN rr) (w1 L1 R1 h : Nat) (hw1 : fR S 406 a = some w1) (hf1 : fC S w1 L1 R1 h) (hh : h < 2 ^ 20) (w2 L2 R2 un : Nat) (hw2 : fR S 407 a = some w2) (hf2 : fC S w2 L2 R2 un) (hun : un < 2 ^ 20) (rk : Nat) (hrk : fJ S 408 a = lN rk) (hrk2 : rk < 2 ^ 19) (tr : Nat) (htc : tC S t tr) (hw12 : w1 ≠ w2) (h1 : L1 ≠ L2) (h2 : L1 ≠ R2) (h3 : R1 ≠ L2) (h4 : R1 ≠ R2) (h5 : tr ≠ L2) (h6 : tr ≠ R2) (fr : Nat) (hfr : fr ≤ 24) : Ct l G b yX4_unlock cX4_unlock 3 none rmX4_unlock mV [.ref a, .int (nI fr)] S (fun _ S' => S' = (faK S w2 L2 R2 un (ulv S tr L1 R1 h rk rr 0) (ulv S tr L1 R1 h rk rr 1) fr)) := by
  refine Ct.of2 pnX4 (own := RX4) rfl (Nat.le_of_ble_eq_true rfl) hst ?_
  intro p e s m args below meth c C hname
  change J p l e rmX4_unlock s m args below meth c 3 G b _ 0 [(0, .ref a), (1, .int (nI fr))] [] S 0 0
  refine r_iconst (v := 0) (n := 1) C dX4_unlock_0 rfl rfl ?_
  refine r_istore_n (i := 2) (n := 2) C dX4_unlock_1 rfl (by decide) rfl rfl ?_
  have lp : ∀ (q k : Nat), k + q = fr → J p l e rmX4_unlock s m args below meth c 3 G b (vx_MQ below (Qp G b mV (fun _ S' => S' = (faK S w2 L2 R2 un (ulv S tr L1 R1 h rk rr 0) (ulv S tr L1 R1 h rk rr 1) fr))) (XCp G b S (fun _ => False)) args s rmX4_unlock.cells rmX4_unlock.slots (Ab b)) 2 [(0, .ref a), (1, .int (nI fr)), (2, .int (nI k))] [] (faK S w2 L2 R2 un (ulv S tr L1 R1 h rk rr 0) (ulv S tr L1 R1 h rk rr 1) k) 0 0 := by
    intro q
    induction q with
    | zero =>
      intro k hk9
      obtain rfl : k = fr := by omega
      refine r_iload_n (i := 2) (n := 3) C dX4_unlock_2 rfl rfl rfl ?_
      refine r_iload_n (i := 1) (n := 4) C dX4_unlock_3 rfl rfl rfl ?_
      refine r_icmp_geT (t := 58) C (cle (a := k) (b := k) rfl rfl (by omega) (by omega)) dX4_unlock_4 (by decide) ?_
      refine t_v C dX4_unlock_58 (by decide) ?_
      rfl
    | succ q ih =>
      intro k hk9
      have hkT : sK (faK S w2 L2 R2 un (ulv S tr L1 R1 h rk rr 0) (ulv S tr L1 R1 h rk rr 1) k) a = 4 := fK_k.trans hk
      have hcvT : fR (faK S w2 L2 R2 un (ulv S tr L1 R1 h rk rr 0) (ulv S tr L1 R1 h rk rr 1) k) 405 a = some cv := fK_R.trans hcv
      have hw1T : fR (faK S w2 L2 R2 un (ulv S tr L1 R1 h rk rr 0) (ulv S tr L1 R1 h rk rr 1) k) 406 a = some w1 := fK_R.trans hw1
      have hw2T : fR (faK S w2 L2 R2 un (ulv S tr L1 R1 h rk rr 0) (ulv S tr L1 R1 h rk rr 1) k) 407 a = some w2 := fK_R.trans hw2
      have hvT : vC (faK S w2 L2 R2 un (ulv S tr L1 R1 h rk rr 0) (ulv S tr L1 R1 h rk rr 1) k) cv t 48000 rr := fK_vC hvc
      have hf1T : fC (faK S w2 L2 R2 un (ulv S tr L1 R1 h rk rr 0) (ulv S tr L1 R1 h rk rr 1) k) w1 L1 R1 h := fK_fC2 hw12 hf1
      have hf2T : fC (faK S w2 L2 R2 un (ulv S tr L1 R1 h rk rr 0) (ulv S tr L1 R1 h rk rr 1) k) w2 L2 R2 (un + k) := fK_fC hf2
      have htT : tC (faK S w2 L2 R2 un (ulv S tr L1 R1 h rk rr 0) (ulv S tr L1 R1 h rk rr 1) k) t tr := fK_tC htc
      have hnT : fJ (faK S w2 L2 R2 un (ulv S tr L1 R1 h rk rr 0) (ulv S tr L1 R1 h rk rr 1) k) 408 a = lN rk := (fK_J (fun q => absurd q.1 (by decide))).trans hrk
      have hgT : ∀ rt, gC (faK S w2 L2 R2 un (ulv S tr L1 R1 h rk rr 0) (ulv S tr L1 R1 h rk rr 1) k) L1 R1 h rt = gC S L1 R1 h rt := fun rt => gC_c (fun i => fK_a h1 h2) (fun i => fK_a h3 h4)
      have hrT : aI (faK S w2 L2 R2 un (ulv S tr L1 R1 h rk rr 0) (ulv S tr L1 R1 h rk rr 1) k) tr = aI S tr := funext (fun i => fK_a h5 h6)
      have hn9 := ih (k + 1) (by omega)
      have e9 : (faK S w2 L2 R2 un (ulv S tr L1 R1 h rk rr 0) (ulv S tr L1 R1 h rk rr 1) (k + 1)) = fAdd (faK S w2 L2 R2 un (ulv S tr L1 R1 h rk rr 0) (ulv S tr L1 R1 h rk rr 1) k) w2 L2 R2 (un + k) ((ulv S tr L1 R1 h rk rr 0) k) ((ulv S tr L1 R1 h rk rr 1) k) := rfl
      rw [e9] at hn9
      clear e9 ih
      generalize (faK S w2 L2 R2 un (ulv S tr L1 R1 h rk rr 0) (ulv S tr L1 R1 h rk rr 1) k) = T at *
      refine r_iload_n (i := 2) (n := 3) C dX4_unlock_2 rfl rfl rfl ?_
      refine r_iload_n (i := 1) (n := 4) C dX4_unlock_3 rfl rfl rfl ?_
      refine r_icmp_geF (n := 7) (t := 58) C (cnle (a := fr) (b := k) rfl rfl (by omega) (by omega)) dX4_unlock_4 (by decide) rfl ?_
      refine r_aload_n (i := 0) (n := 8) C dX4_unlock_7 rfl rfl rfl ?_
      refine gX4_20 (n := 11) C hkT hw2T dX4_unlock_8 rfl ?_
      refine r_aload_n (i := 0) (n := 12) C dX4_unlock_11 rfl rfl rfl ?_
      refine gX4_36 (n := 15) C hkT hcvT dX4_unlock_12 rfl ?_
      refine r_aload_n (i := 0) (n := 16) C dX4_unlock_15 rfl rfl rfl ?_
      refine gX4_14 (n := 19) C hkT hw1T dX4_unlock_16 rfl ?_
      refine r_aload_n (i := 0) (n := 20) C dX4_unlock_19 rfl rfl rfl ?_
      refine gX4_23 (n := 23) C hkT dX4_unlock_20 rfl ?_
      rw [hnT]
      refine r_iload_n (i := 2) (n := 24) C dX4_unlock_23 rfl rfl rfl ?_
      refine r_i2l (n := 25) C dX4_unlock_24 rfl ?_
      rw [nI_l (by omega)]
      refine r_ladd (n := 26) C dX4_unlock_25 rfl ?_
      rw [lN_add]
      refine r_iconst (v := 0) (n := 27) C dX4_unlock_26 rfl rfl ?_
      refine kX4_89 (n := 30) C (c_cSmp hst T cv t 48000 rr hvT (by omega) (by omega) (rtN.le hr).1 (rtN.le hr).2 w1 L1 R1 h tr hf1T (by omega) htT (rk + k) (by omega) 0) hvT.1 (by decide) (by decide) (Nat.le_of_ble_eq_true rfl) dX4_unlock_27 rfl (fun r S1 hp => ?_)
      obtain ⟨hS9, hr9⟩ := hp
      subst S1
      subst r
      rw [show flt2 (aI T tr) (gC T L1 R1 h 0) (rk + k) 48000 rr = (ulv S tr L1 R1 h rk rr 0) k from by rw [hgT, hrT]; rfl]
      refine r_aload_n (i := 0) (n := 31) C dX4_unlock_30 rfl rfl rfl ?_
      refine gX4_36 (n := 34) C hkT hcvT dX4_unlock_31 rfl ?_
      refine r_aload_n (i := 0) (n := 35) C dX4_unlock_34 rfl rfl rfl ?_
      refine gX4_14 (n := 38) C hkT hw1T dX4_unlock_35 rfl ?_
      refine r_aload_n (i := 0) (n := 39) C dX4_unlock_38 rfl rfl rfl ?_
      refine gX4_23 (n := 42) C hkT dX4_unlock_39 rfl ?_
      rw [hnT]
      refine r_iload_n (i := 2) (n := 43) C dX4_unlock_42 rfl rfl rfl ?_
      refine r_i2l (n := 44) C dX4_unlock_43 rfl ?_
      rw [nI_l (by omega)]
      refine r_ladd (n := 45) C dX4_unlock_44 rfl ?_
      rw [lN_add]
      refine r_iconst (v := 1) (n := 46) C dX4_unlock_45 rfl rfl ?_
      refine kX4_89 (n := 49) C (c_cSmp hst T cv t 48000 rr hvT (by omega) (by omega) (rtN.le hr).1 (rtN.le hr).2 w1 L1 R1 h tr hf1T (by omega) htT (rk + k) (by omega) 1) hvT.1 (by decide) (by decide) (Nat.le_of_ble_eq_true rfl) dX4_unlock_46 rfl (fun r S1 hp => ?_)
      obtain ⟨hS9, hr9⟩ := hp
      subst S1
      subst r
      rw [show flt2 (aI T tr) (gC T L1 R1 h 1) (rk + k) 48000 rr = (ulv S tr L1 R1 h rk rr 1) k from by rw [hgT, hrT]; rfl]
      refine kX4_47 (n := 52) C (c_fAdd hst T w2 L2 R2 (un + k) hf2T (by omega) ((ulv S tr L1 R1 h rk rr 0) k) ((ulv S tr L1 R1 h rk rr 1) k)) hf2T.1 (by decide) (by decide) (Nat.le_of_ble_eq_true rfl) dX4_unlock_49 rfl (fun r S1 hp => ?_)
      subst hp
      refine r_iinc (n := 55) C dX4_unlock_52 rfl rfl (by decide) rfl rfl ?_
      refine r_goto (t := 2) C dX4_unlock_55 (by decide) ?_
      exact J.to (by rw [show nI k + Int32.ofInt 1 = nI (k + 1) from nI_1 k]; rfl) hn9
  exact J.to rfl (lp fr 0 (by omega))
def lsN (S : Sw) (a : Nat) (v : Int32) : Int32 := if fI S 1 a = 8 then jFd v 256 + 128 else v
def lsV (S : Sw) (L2 R2 un wh : Nat) (rt : Int32) : Int32 := gC S L2 R2 un rt (wh : Int)
set_option maxRecDepth 100000 in
set_option maxHeartbeats 1000000 in
theorem c_nextNumber_1 {l : Launch} {G : GG} {b : Nat} (hst : l.stackTraces = false) (S : Sw) (a : Nat) (hk : sK S a = 4) (w2 L2 R2 un : Nat) (hw2 : fR S 407 a = some w2) (hf2 : fC S w2 L2 R2 un) (hun : un < 2 ^ 20) (wh : Nat) (hwh : fJ S 409 a = lN wh) (hwh2 : wh < 2 ^ 20) (hch : fI S 0 a = 1) : Ct l G b yX4_nextNumber cX4_nextNumber 3 (some .int) rmX4_nextNumber mI [.ref a] S (fun r S' => S' = (uJ S 409 a (lN (wh + 1))) ∧ r = lsN S a (jFd ((lsV S L2 R2 un wh 0) + (lsV S L2 R2 un wh 1)) 2)) := by
  refine Ct.of2 pnX4 (own := RX4) rfl (Nat.le_of_ble_eq_true rfl) hst ?_
  intro p e s m args below meth c C hname
  change J p l e rmX4_nextNumber s m args below meth c 3 G b _ 0 [(0, .ref a)] [] S 0 0
  refine r_aload_n (i := 0) (n := 1) C dX4_nextNumber_0 rfl rfl rfl ?_
  refine gX4_20 (n := 4) C hk hw2 dX4_nextNumber_1 rfl ?_
  refine r_aload_n (i := 0) (n := 5) C dX4_nextNumber_4 rfl rfl rfl ?_
  refine gX4_27 (n := 8) C hk dX4_nextNumber_5 rfl ?_
  rw [hwh]
  refine r_iconst (v := 0) (n := 9) C dX4_nextNumber_8 rfl rfl ?_
  refine kX4_64 (n := 12) C (c_fSmp hst S w2 L2 R2 un hf2 (by omega) (lN wh) 0) hf2.1 (by decide) (by decide) (Nat.le_of_ble_eq_true rfl) dX4_nextNumber_9 rfl (fun r S1 hp => ?_)
  obtain ⟨hS9, hr9⟩ := hp
  subst S1
  subst r
  rw [show gC S L2 R2 un 0 (lN wh).toInt = (lsV S L2 R2 un wh 0) from by rw [lN_toInt (by omega)]; rfl]
  refine r_istore_n (i := 1) (n := 13) C dX4_nextNumber_12 rfl (by decide) rfl rfl ?_
  refine r_aload_n (i := 0) (n := 14) C dX4_nextNumber_13 rfl rfl rfl ?_
  refine gX4_20 (n := 17) C hk hw2 dX4_nextNumber_14 rfl ?_
  refine r_aload_n (i := 0) (n := 18) C dX4_nextNumber_17 rfl rfl rfl ?_
  refine gX4_27 (n := 21) C hk dX4_nextNumber_18 rfl ?_
  rw [hwh]
  refine r_iconst (v := 1) (n := 22) C dX4_nextNumber_21 rfl rfl ?_
  refine kX4_64 (n := 25) C (c_fSmp hst S w2 L2 R2 un hf2 (by omega) (lN wh) 1) hf2.1 (by decide) (by decide) (Nat.le_of_ble_eq_true rfl) dX4_nextNumber_22 rfl (fun r S1 hp => ?_)
  obtain ⟨hS9, hr9⟩ := hp
  subst S1
  subst r
  rw [show gC S L2 R2 un 1 (lN wh).toInt = (lsV S L2 R2 un wh 1) from by rw [lN_toInt (by omega)]; rfl]
  refine r_istore_n (i := 2) (n := 26) C dX4_nextNumber_25 rfl (by decide) rfl rfl ?_
  refine r_aload_n (i := 0) (n := 27) C dX4_nextNumber_26 rfl rfl rfl ?_
  refine gX4_68 (n := 30) C (by first | with_reducible assumption | (simp only [sK_uI, sK_uJ, sK_uR, sK_wI, sK_wR, sK_wD, sK_wJ, sK_wIs, aN_uI, aN_uJ, aN_uR, aN_wI, aN_wR, aN_wD, aN_wJ, aN_wIs, fR_uI, fR_uJ, fR_wI, fR_wR, fR_wD, fR_wJ, fR_wIs, isI_uI, isI_uJ, isI_wI, isI_wR, isI_wD, isI_wJ, isI_wIs, isC_uI, isC_uJ, isC_wI, isC_wR, isC_wD, isC_wJ, isC_wIs, isG_uI, isG_uJ, isG_wI, isG_wR, isG_wD, isG_wJ, isG_wIs, isZ_uI, isZ_uJ, isZ_wI, isZ_wR, isZ_wD, isZ_wJ, isZ_wIs, isD_uI, isD_uJ, isD_wI, isD_wR, isD_wD, isD_wJ, isD_wIs, isL_uI, isL_uJ, isL_wI, isL_wR, isL_wD, isL_wJ, isL_wIs]; with_reducible assumption)) dX4_nextNumber_27 rfl ?_
  refine r_iconst (v := 1) (n := 31) C dX4_nextNumber_30 rfl rfl ?_
  refine r_icmp_neF (n := 34) (t := 56) C hch dX4_nextNumber_31 (by decide) rfl ?_
  refine r_aload_n (i := 0) (n := 35) C dX4_nextNumber_34 rfl rfl rfl ?_
  refine r_dup (n := 36) C dX4_nextNumber_35 rfl rfl ?_
  refine gX4_27 (n := 39) C hk dX4_nextNumber_36 rfl ?_
  rw [hwh]
  refine r_lconst (v := 1) (n := 40) C dX4_nextNumber_39 rfl rfl ?_
  refine r_ladd (n := 41) C dX4_nextNumber_40 rfl ?_
  rw [lN_1]
  refine sX4_27 (n := 44) C hk dX4_nextNumber_41 rfl ?_
  refine r_aload_n (i := 0) (n := 45) C dX4_nextNumber_44 rfl rfl rfl ?_
  refine r_iload_n (i := 1) (n := 46) C dX4_nextNumber_45 rfl rfl rfl ?_
  refine r_iload_n (i := 2) (n := 47) C dX4_nextNumber_46 rfl rfl rfl ?_
  refine r_iadd (n := 48) C dX4_nextNumber_47 rfl ?_
  refine r_iconst (v := 2) (n := 49) C dX4_nextNumber_48 rfl rfl ?_
  refine kX4_71 (n := 52) C (c_fd hst (uJ S 409 a (lN (wh + 1))) ((lsV S L2 R2 un wh 0) + (lsV S L2 R2 un wh 1)) 2 (by decide)) (by decide) (by decide) (Nat.le_of_ble_eq_true rfl) dX4_nextNumber_49 rfl (fun r S1 hp => ?_)
  obtain ⟨hS9, hr9⟩ := hp
  subst S1
  subst r
  refine kX4_77 (n := 55) C (c_numberOf hst (uJ S 409 a (lN (wh + 1))) a hk (jFd ((lsV S L2 R2 un wh 0) + (lsV S L2 R2 un wh 1)) 2)) hk (by decide) (by decide) (Nat.le_of_ble_eq_true rfl) dX4_nextNumber_52 rfl (fun r S1 hp => ?_)
  obtain ⟨hS9, hr9⟩ := hp
  subst S1
  subst r
  refine t_i C rfl dX4_nextNumber_55 (by decide) ?_
  exact ⟨rfl, rfl⟩
set_option maxRecDepth 100000 in
set_option maxHeartbeats 1000000 in
theorem c_nextNumber_2 {l : Launch} {G : GG} {b : Nat} (hst : l.stackTraces = false) (S : Sw) (a : Nat) (hk : sK S a = 4) (w2 L2 R2 un : Nat) (hw2 : fR S 407 a = some w2) (hf2 : fC S w2 L2 R2 un) (hun : un < 2 ^ 20) (wh : Nat) (hwh : fJ S 409 a = lN wh) (hwh2 : wh < 2 ^ 20) (hch : ¬ fI S 0 a = 1) (hhf : ¬ fI S 4 a = 0) : Ct l G b yX4_nextNumber cX4_nextNumber 3 (some .int) rmX4_nextNumber mI [.ref a] S (fun r S' => S' = (uJ (uI S 4 a 0) 409 a (lN (wh + 1))) ∧ r = lsN S a (lsV S L2 R2 un wh 1)) := by
  refine Ct.of2 pnX4 (own := RX4) rfl (Nat.le_of_ble_eq_true rfl) hst ?_
  intro p e s m args below meth c C hname
  change J p l e rmX4_nextNumber s m args below meth c 3 G b _ 0 [(0, .ref a)] [] S 0 0
  refine r_aload_n (i := 0) (n := 1) C dX4_nextNumber_0 rfl rfl rfl ?_
  refine gX4_20 (n := 4) C hk hw2 dX4_nextNumber_1 rfl ?_
  refine r_aload_n (i := 0) (n := 5) C dX4_nextNumber_4 rfl rfl rfl ?_
  refine gX4_27 (n := 8) C hk dX4_nextNumber_5 rfl ?_
  rw [hwh]
  refine r_iconst (v := 0) (n := 9) C dX4_nextNumber_8 rfl rfl ?_
  refine kX4_64 (n := 12) C (c_fSmp hst S w2 L2 R2 un hf2 (by omega) (lN wh) 0) hf2.1 (by decide) (by decide) (Nat.le_of_ble_eq_true rfl) dX4_nextNumber_9 rfl (fun r S1 hp => ?_)
  obtain ⟨hS9, hr9⟩ := hp
  subst S1
  subst r
  rw [show gC S L2 R2 un 0 (lN wh).toInt = (lsV S L2 R2 un wh 0) from by rw [lN_toInt (by omega)]; rfl]
  refine r_istore_n (i := 1) (n := 13) C dX4_nextNumber_12 rfl (by decide) rfl rfl ?_
  refine r_aload_n (i := 0) (n := 14) C dX4_nextNumber_13 rfl rfl rfl ?_
  refine gX4_20 (n := 17) C hk hw2 dX4_nextNumber_14 rfl ?_
  refine r_aload_n (i := 0) (n := 18) C dX4_nextNumber_17 rfl rfl rfl ?_
  refine gX4_27 (n := 21) C hk dX4_nextNumber_18 rfl ?_
  rw [hwh]
  refine r_iconst (v := 1) (n := 22) C dX4_nextNumber_21 rfl rfl ?_
  refine kX4_64 (n := 25) C (c_fSmp hst S w2 L2 R2 un hf2 (by omega) (lN wh) 1) hf2.1 (by decide) (by decide) (Nat.le_of_ble_eq_true rfl) dX4_nextNumber_22 rfl (fun r S1 hp => ?_)
  obtain ⟨hS9, hr9⟩ := hp
  subst S1
  subst r
  rw [show gC S L2 R2 un 1 (lN wh).toInt = (lsV S L2 R2 un wh 1) from by rw [lN_toInt (by omega)]; rfl]
  refine r_istore_n (i := 2) (n := 26) C dX4_nextNumber_25 rfl (by decide) rfl rfl ?_
  refine r_aload_n (i := 0) (n := 27) C dX4_nextNumber_26 rfl rfl rfl ?_
  refine gX4_68 (n := 30) C (by first | with_reducible assumption | (simp only [sK_uI, sK_uJ, sK_uR, sK_wI, sK_wR, sK_wD, sK_wJ, sK_wIs, aN_uI, aN_uJ, aN_uR, aN_wI, aN_wR, aN_wD, aN_wJ, aN_wIs, fR_uI, fR_uJ, fR_wI, fR_wR, fR_wD, fR_wJ, fR_wIs, isI_uI, isI_uJ, isI_wI, isI_wR, isI_wD, isI_wJ, isI_wIs, isC_uI, isC_uJ, isC_wI, isC_wR, isC_wD, isC_wJ, isC_wIs, isG_uI, isG_uJ, isG_wI, isG_wR, isG_wD, isG_wJ, isG_wIs, isZ_uI, isZ_uJ, isZ_wI, isZ_wR, isZ_wD, isZ_wJ, isZ_wIs, isD_uI, isD_uJ, isD_wI, isD_wR, isD_wD, isD_wJ, isD_wIs, isL_uI, isL_uJ, isL_wI, isL_wR, isL_wD, isL_wJ, isL_wIs]; with_reducible assumption)) dX4_nextNumber_27 rfl ?_
  refine r_iconst (v := 1) (n := 31) C dX4_nextNumber_30 rfl rfl ?_
  refine r_icmp_neT (t := 56) C hch dX4_nextNumber_31 (by decide) ?_
  refine r_aload_n (i := 0) (n := 57) C dX4_nextNumber_56 rfl rfl rfl ?_
  refine gX4_81 (n := 60) C (by first | with_reducible assumption | (simp only [sK_uI, sK_uJ, sK_uR, sK_wI, sK_wR, sK_wD, sK_wJ, sK_wIs, aN_uI, aN_uJ, aN_uR, aN_wI, aN_wR, aN_wD, aN_wJ, aN_wIs, fR_uI, fR_uJ, fR_wI, fR_wR, fR_wD, fR_wJ, fR_wIs, isI_uI, isI_uJ, isI_wI, isI_wR, isI_wD, isI_wJ, isI_wIs, isC_uI, isC_uJ, isC_wI, isC_wR, isC_wD, isC_wJ, isC_wIs, isG_uI, isG_uJ, isG_wI, isG_wR, isG_wD, isG_wJ, isG_wIs, isZ_uI, isZ_uJ, isZ_wI, isZ_wR, isZ_wD, isZ_wJ, isZ_wIs, isD_uI, isD_uJ, isD_wI, isD_wR, isD_wD, isD_wJ, isD_wIs, isL_uI, isL_uJ, isL_wI, isL_wR, isL_wD, isL_wJ, isL_wIs]; with_reducible assumption)) dX4_nextNumber_57 rfl ?_
  refine r_if_eqF (n := 63) (t := 84) C hhf dX4_nextNumber_60 (by decide) rfl ?_
  refine r_aload_n (i := 0) (n := 64) C dX4_nextNumber_63 rfl rfl rfl ?_
  refine r_iconst (v := 0) (n := 65) C dX4_nextNumber_64 rfl rfl ?_
  refine sX4_81 (n := 68) C (by first | with_reducible assumption | (simp only [sK_uI, sK_uJ, sK_uR, sK_wI, sK_wR, sK_wD, sK_wJ, sK_wIs, aN_uI, aN_uJ, aN_uR, aN_wI, aN_wR, aN_wD, aN_wJ, aN_wIs, fR_uI, fR_uJ, fR_wI, fR_wR, fR_wD, fR_wJ, fR_wIs, isI_uI, isI_uJ, isI_wI, isI_wR, isI_wD, isI_wJ, isI_wIs, isC_uI, isC_uJ, isC_wI, isC_wR, isC_wD, isC_wJ, isC_wIs, isG_uI, isG_uJ, isG_wI, isG_wR, isG_wD, isG_wJ, isG_wIs, isZ_uI, isZ_uJ, isZ_wI, isZ_wR, isZ_wD, isZ_wJ, isZ_wIs, isD_uI, isD_uJ, isD_wI, isD_wR, isD_wD, isD_wJ, isD_wIs, isL_uI, isL_uJ, isL_wI, isL_wR, isL_wD, isL_wJ, isL_wIs]; with_reducible assumption)) (by first | assumption | rfl) (by first | assumption | rfl) dX4_nextNumber_65 rfl ?_
  refine r_aload_n (i := 0) (n := 69) C dX4_nextNumber_68 rfl rfl rfl ?_
  refine r_dup (n := 70) C dX4_nextNumber_69 rfl rfl ?_
  refine gX4_27 (n := 73) C hk dX4_nextNumber_70 rfl ?_
  rw [fJ_uI, hwh]
  refine r_lconst (v := 1) (n := 74) C dX4_nextNumber_73 rfl rfl ?_
  refine r_ladd (n := 75) C dX4_nextNumber_74 rfl ?_
  rw [lN_1]
  refine sX4_27 (n := 78) C hk dX4_nextNumber_75 rfl ?_
  refine r_aload_n (i := 0) (n := 79) C dX4_nextNumber_78 rfl rfl rfl ?_
  refine r_iload_n (i := 2) (n := 80) C dX4_nextNumber_79 rfl rfl rfl ?_
  refine kX4_77 (n := 83) C (c_numberOf hst (uJ (uI S 4 a 0) 409 a (lN (wh + 1))) a hk (lsV S L2 R2 un wh 1)) hk (by decide) (by decide) (Nat.le_of_ble_eq_true rfl) dX4_nextNumber_80 rfl (fun r S1 hp => ?_)
  obtain ⟨hS9, hr9⟩ := hp
  subst S1
  subst r
  refine t_i C rfl dX4_nextNumber_83 (by decide) ?_
  exact ⟨rfl, rfl⟩
set_option maxRecDepth 100000 in
set_option maxHeartbeats 1000000 in
theorem c_nextNumber_3 {l : Launch} {G : GG} {b : Nat} (hst : l.stackTraces = false) (S : Sw) (a : Nat) (hk : sK S a = 4) (w2 L2 R2 un : Nat) (hw2 : fR S 407 a = some w2) (hf2 : fC S w2 L2 R2 un) (hun : un < 2 ^ 20) (wh : Nat) (hwh : fJ S 409 a = lN wh) (hwh2 : wh < 2 ^ 20) (hch : ¬ fI S 0 a = 1) (hhf : fI S 4 a = 0) : Ct l G b yX4_nextNumber cX4_nextNumber 3 (some .int) rmX4_nextNumber mI [.ref a] S (fun r S' => S' = (uI S 4 a 1) ∧ r = lsN S a (lsV S L2 R2 un wh 0)) := by
  refine Ct.of2 pnX4 (own := RX4) rfl (Nat.le_of_ble_eq_true rfl) hst ?_
  intro p e s m args below meth c C hname
  change J p l e rmX4_nextNumber s m args below meth c 3 G b _ 0 [(0, .ref a)] [] S 0 0
  refine r_aload_n (i := 0) (n := 1) C dX4_nextNumber_0 rfl rfl rfl ?_
  refine gX4_20 (n := 4) C hk hw2 dX4_nextNumber_1 rfl ?_
  refine r_aload_n (i := 0) (n := 5) C dX4_nextNumber_4 rfl rfl rfl ?_
  refine gX4_27 (n := 8) C hk dX4_nextNumber_5 rfl ?_
  rw [hwh]
  refine r_iconst (v := 0) (n := 9) C dX4_nextNumber_8 rfl rfl ?_
  refine kX4_64 (n := 12) C (c_fSmp hst S w2 L2 R2 un hf2 (by omega) (lN wh) 0) hf2.1 (by decide) (by decide) (Nat.le_of_ble_eq_true rfl) dX4_nextNumber_9 rfl (fun r S1 hp => ?_)
  obtain ⟨hS9, hr9⟩ := hp
  subst S1
  subst r
  rw [show gC S L2 R2 un 0 (lN wh).toInt = (lsV S L2 R2 un wh 0) from by rw [lN_toInt (by omega)]; rfl]
  refine r_istore_n (i := 1) (n := 13) C dX4_nextNumber_12 rfl (by decide) rfl rfl ?_
  refine r_aload_n (i := 0) (n := 14) C dX4_nextNumber_13 rfl rfl rfl ?_
  refine gX4_20 (n := 17) C hk hw2 dX4_nextNumber_14 rfl ?_
  refine r_aload_n (i := 0) (n := 18) C dX4_nextNumber_17 rfl rfl rfl ?_
  refine gX4_27 (n := 21) C hk dX4_nextNumber_18 rfl ?_
  rw [hwh]
  refine r_iconst (v := 1) (n := 22) C dX4_nextNumber_21 rfl rfl ?_
  refine kX4_64 (n := 25) C (c_fSmp hst S w2 L2 R2 un hf2 (by omega) (lN wh) 1) hf2.1 (by decide) (by decide) (Nat.le_of_ble_eq_true rfl) dX4_nextNumber_22 rfl (fun r S1 hp => ?_)
  obtain ⟨hS9, hr9⟩ := hp
  subst S1
  subst r
  rw [show gC S L2 R2 un 1 (lN wh).toInt = (lsV S L2 R2 un wh 1) from by rw [lN_toInt (by omega)]; rfl]
  refine r_istore_n (i := 2) (n := 26) C dX4_nextNumber_25 rfl (by decide) rfl rfl ?_
  refine r_aload_n (i := 0) (n := 27) C dX4_nextNumber_26 rfl rfl rfl ?_
  refine gX4_68 (n := 30) C (by first | with_reducible assumption | (simp only [sK_uI, sK_uJ, sK_uR, sK_wI, sK_wR, sK_wD, sK_wJ, sK_wIs, aN_uI, aN_uJ, aN_uR, aN_wI, aN_wR, aN_wD, aN_wJ, aN_wIs, fR_uI, fR_uJ, fR_wI, fR_wR, fR_wD, fR_wJ, fR_wIs, isI_uI, isI_uJ, isI_wI, isI_wR, isI_wD, isI_wJ, isI_wIs, isC_uI, isC_uJ, isC_wI, isC_wR, isC_wD, isC_wJ, isC_wIs, isG_uI, isG_uJ, isG_wI, isG_wR, isG_wD, isG_wJ, isG_wIs, isZ_uI, isZ_uJ, isZ_wI, isZ_wR, isZ_wD, isZ_wJ, isZ_wIs, isD_uI, isD_uJ, isD_wI, isD_wR, isD_wD, isD_wJ, isD_wIs, isL_uI, isL_uJ, isL_wI, isL_wR, isL_wD, isL_wJ, isL_wIs]; with_reducible assumption)) dX4_nextNumber_27 rfl ?_
  refine r_iconst (v := 1) (n := 31) C dX4_nextNumber_30 rfl rfl ?_
  refine r_icmp_neT (t := 56) C hch dX4_nextNumber_31 (by decide) ?_
  refine r_aload_n (i := 0) (n := 57) C dX4_nextNumber_56 rfl rfl rfl ?_
  refine gX4_81 (n := 60) C (by first | with_reducible assumption | (simp only [sK_uI, sK_uJ, sK_uR, sK_wI, sK_wR, sK_wD, sK_wJ, sK_wIs, aN_uI, aN_uJ, aN_uR, aN_wI, aN_wR, aN_wD, aN_wJ, aN_wIs, fR_uI, fR_uJ, fR_wI, fR_wR, fR_wD, fR_wJ, fR_wIs, isI_uI, isI_uJ, isI_wI, isI_wR, isI_wD, isI_wJ, isI_wIs, isC_uI, isC_uJ, isC_wI, isC_wR, isC_wD, isC_wJ, isC_wIs, isG_uI, isG_uJ, isG_wI, isG_wR, isG_wD, isG_wJ, isG_wIs, isZ_uI, isZ_uJ, isZ_wI, isZ_wR, isZ_wD, isZ_wJ, isZ_wIs, isD_uI, isD_uJ, isD_wI, isD_wR, isD_wD, isD_wJ, isD_wIs, isL_uI, isL_uJ, isL_wI, isL_wR, isL_wD, isL_wJ, isL_wIs]; with_reducible assumption)) dX4_nextNumber_57 rfl ?_
  refine r_if_eqT (t := 84) C hhf dX4_nextNumber_60 (by decide) ?_
  refine r_aload_n (i := 0) (n := 85) C dX4_nextNumber_84 rfl rfl rfl ?_
  refine r_iconst (v := 1) (n := 86) C dX4_nextNumber_85 rfl rfl ?_
  refine sX4_81 (n := 89) C (by first | with_reducible assumption | (simp only [sK_uI, sK_uJ, sK_uR, sK_wI, sK_wR, sK_wD, sK_wJ, sK_wIs, aN_uI, aN_uJ, aN_uR, aN_wI, aN_wR, aN_wD, aN_wJ, aN_wIs, fR_uI, fR_uJ, fR_wI, fR_wR, fR_wD, fR_wJ, fR_wIs, isI_uI, isI_uJ, isI_wI, isI_wR, isI_wD, isI_wJ, isI_wIs, isC_uI, isC_uJ, isC_wI, isC_wR, isC_wD, isC_wJ, isC_wIs, isG_uI, isG_uJ, isG_wI, isG_wR, isG_wD, isG_wJ, isG_wIs, isZ_uI, isZ_uJ, isZ_wI, isZ_wR, isZ_wD, isZ_wJ, isZ_wIs, isD_uI, isD_uJ, isD_wI, isD_wR, isD_wD, isD_wJ, isD_wIs, isL_uI, isL_uJ, isL_wI, isL_wR, isL_wD, isL_wJ, isL_wIs]; with_reducible assumption)) (by first | assumption | rfl) (by first | assumption | rfl) dX4_nextNumber_86 rfl ?_
  refine r_aload_n (i := 0) (n := 90) C dX4_nextNumber_89 rfl rfl rfl ?_
  refine r_iload_n (i := 1) (n := 91) C dX4_nextNumber_90 rfl rfl rfl ?_
  refine kX4_77 (n := 94) C (c_numberOf hst (uI S 4 a 1) a hk (lsV S L2 R2 un wh 0)) hk (by decide) (by decide) (Nat.le_of_ble_eq_true rfl) dX4_nextNumber_91 rfl (fun r S1 hp => ?_)
  obtain ⟨hS9, hr9⟩ := hp
  subst S1
  subst r
  refine t_i C rfl dX4_nextNumber_94 (by decide) ?_
  exact ⟨rfl, rfl⟩
