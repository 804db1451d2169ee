/-- what a listener's capture leaves behind -/
def lcA (S : Sw) (w1 L1 R1 h row : Nat) : Sw := faK S w1 L1 R1 h (fun j => aI S row (2 * j)) (fun j => aI S row (2 * j + 1)) 24
def lcL (S : Sw) (a w1 L1 R1 h row rk fr : Nat) : Sw := uJ (uI (lcA S w1 L1 R1 h row) 3 a (fI S 3 a + 1)) 408 a (lN (rk + fr))
def lcY (S : Sw) (a w1 L1 R1 h row rk fr w2 L2 R2 un tr rr : Nat) : Sw := uJ (faK (lcA S w1 L1 R1 h row) w2 L2 R2 un (ulv (lcA S w1 L1 R1 h row) tr L1 R1 (h + 24) rk rr 0) (ulv (lcA S w1 L1 R1 h row) tr L1 R1 (h + 24) rk rr 1) fr) 408 a (lN (rk + fr))
set_option maxRecDepth 100000 in
set_option maxHeartbeats 1000000 in
theorem c_capture_l {l : Launch} {G : GG} {b : Nat} (hst : l.stackTraces = false) (S : Sw) (a : Nat) (hk : sK S a = 4) (cv t rr : Nat) (hcv : fR S 405 a = some cv) (hvc : vC S cv t 48000 rr) (hr : rtN rr) (w1 L1 R1 h : Nat) (hw1 : fR S 406 a = some w1) (hf1 : fC S w1 L1 R1 h) (hh : h < 2 ^ 20) (w2 L2 R2 un : Nat) (hw2 : fR S 407 a = some w2) (hf2 : fC S w2 L2 R2 un) (hun : un < 2 ^ 20) (rk : Nat) (hrk : fJ S 408 a = lN rk) (hrk2 : rk < 2 ^ 19) (wh : Nat) (hwh : fJ S 409 a = lN wh) (hwh2 : wh < 2 ^ 20) (tr : Nat) (htc : tC S t tr) (hw12 : w1 ≠ w2) (h1 : L1 ≠ L2) (h2 : L1 ≠ R2) (h3 : R1 ≠ L2) (h4 : R1 ≠ R2) (h5 : tr ≠ L2) (h6 : tr ≠ R2) (row : Nat) (hrow : isI S row 48) (hr1 : row ≠ L1) (hr2 : row ≠ R1) (hh2 : h + 24 < 2 ^ 20) (hle : wh ≤ un) (fr : Nat) (hfr : fr ≤ 24) (hall : ∀ i, i < fr → (if 48000 = rr then (rk + i) else (rk + i) * 48000 / rr + 8) < h + 24) (hend : fr = 24 ∨ ¬ (if 48000 = rr then (rk + fr) else (rk + fr) * 48000 / rr + 8) < h + 24) (hov : 200 < un - wh + fr) : Ct l G b yX4_capture cX4_capture 3 none rmX4_capture mV [.ref a, .ref row] S (fun _ S' => S' = lcL S a w1 L1 R1 h row rk fr) := by
  refine Ct.of2 pnX4 (own := RX4) rfl (Nat.le_of_ble_eq_true rfl) hst ?_
  intro p e s m args below meth c C hname
  change J p l e rmX4_capture s m args below meth c 3 G b _ 0 [(0, .ref a), (1, .ref row)] [] S 0 0
  refine r_iconst (v := 0) (n := 1) C dX4_capture_0 rfl rfl ?_
  refine r_istore_n (i := 2) (n := 2) C dX4_capture_1 rfl (by decide) rfl rfl ?_
  have lp : ∀ (q k : Nat), k + q = 24 → J p l e rmX4_capture s m args below meth c 3 G b (vx_MQ below (Qp G b mV (fun _ S' => S' = lcL S a w1 L1 R1 h row rk fr)) (XCp G b S (fun _ => False)) args s rmX4_capture.cells rmX4_capture.slots (Ab b)) 2 [(0, .ref a), (1, .ref row), (2, .int (nI k))] [] (faK S w1 L1 R1 h (fun j => aI S row (2 * j)) (fun j => aI S row (2 * j + 1)) k) 0 0 := by
    intro q
    induction q with
    | zero =>
      intro k hk9
      obtain rfl : k = 24 := by omega
      obtain ⟨T, hT⟩ : ∃ T, T = (faK S w1 L1 R1 h (fun j => aI S row (2 * j)) (fun j => aI S row (2 * j + 1)) 24) := ⟨_, rfl⟩
      rw [← hT]
      have hkT : sK T a = 4 := by rw [hT]; exact fK_k.trans hk
      have hcvT : fR T 405 a = some cv := by rw [hT]; exact fK_R.trans hcv
      have hw1T : fR T 406 a = some w1 := by rw [hT]; exact fK_R.trans hw1
      have hw2T : fR T 407 a = some w2 := by rw [hT]; exact fK_R.trans hw2
      have hvT : vC T cv t 48000 rr := by rw [hT]; exact fK_vC hvc
      have hf1T : fC T w1 L1 R1 (h + 24) := by rw [hT]; exact fK_fC hf1
      have hf2T : fC T w2 L2 R2 un := by rw [hT]; exact fK_fC2 (Ne.symm hw12) hf2
      have htT : tC T t tr := by rw [hT]; exact fK_tC htc
      have hnT : fJ T 408 a = lN rk := by rw [hT]; exact (fK_J (fun q => absurd q.1 (by decide))).trans hrk
      have hwhT : fJ T 409 a = lN wh := by rw [hT]; exact (fK_J (fun q => absurd q.1 (by decide))).trans hwh
      have hlT : fI T 3 a = fI S 3 a := by rw [hT]; exact fK_I
      refine r_iload_n (i := 2) (n := 3) C dX4_capture_2 rfl rfl rfl ?_
      refine r_bipush (v := 24) (n := 5) C dX4_capture_3 rfl rfl ?_
      refine r_icmp_geT (t := 33) C (cle (a := 24) (b := 24) rfl rfl (by omega) (by omega)) dX4_capture_5 (by decide) ?_
      refine r_aload_n (i := 0) (n := 34) C dX4_capture_33 rfl rfl rfl ?_
      refine kX4_50 (n := 37) C (c_freshFrames hst T a hkT cv t rr hcvT hvT hr w1 L1 R1 (h + 24) hw1T hf1T (by omega) rk hnT hrk2 fr hfr hall hend) hkT (by decide) (by decide) (Nat.le_of_ble_eq_true rfl) dX4_capture_34 rfl (fun r S1 hp => ?_)
      obtain ⟨hS9, hr9⟩ := hp
      subst S1
      subst r
      refine r_istore_n (i := 2) (n := 38) C dX4_capture_37 rfl (by decide) rfl rfl ?_
      refine r_aload_n (i := 0) (n := 39) C dX4_capture_38 rfl rfl rfl ?_
      refine gX4_20 (n := 42) C hkT hw2T dX4_capture_39 rfl ?_
      refine gX4_40 (n := 45) C hf2T.1 dX4_capture_42 rfl ?_
      rw [hf2T.2.2.2.2.2]
      refine r_aload_n (i := 0) (n := 46) C dX4_capture_45 rfl rfl rfl ?_
      refine gX4_27 (n := 49) C hkT dX4_capture_46 rfl ?_
      rw [hwhT]
      refine r_lsub (n := 50) C dX4_capture_49 rfl ?_
      rw [lN_sub hle]
      refine r_iload_n (i := 2) (n := 51) C dX4_capture_50 rfl rfl rfl ?_
      refine r_i2l (n := 52) C dX4_capture_51 rfl ?_
      rw [nI_l (by omega)]
      refine r_ladd (n := 53) C dX4_capture_52 rfl ?_
      rw [lN_add]
      refine r_ldc2 (n := 56) (v := 200) C (mem_tb (mem_tbl 257 (by decide +kernel)) (by decide +kernel)) dX4_capture_53 rfl ?_
      refine r_lcmp (n := 57) C dX4_capture_56 rfl ?_
      refine r_if_leF (n := 60) (t := 73) C (by rw [lg_cmp_le, show (200 : Int64) = lN 200 from rfl, pk_lLE (by omega) (by omega)]; omega) dX4_capture_57 (by decide) rfl ?_
      refine r_aload_n (i := 0) (n := 61) C dX4_capture_60 rfl rfl rfl ?_
      refine r_dup (n := 62) C dX4_capture_61 rfl rfl ?_
      refine gX4_56 (n := 65) C hkT dX4_capture_62 rfl ?_
      rw [hlT]
      refine r_iconst (v := 1) (n := 66) C dX4_capture_65 rfl rfl ?_
      refine r_iadd (n := 67) C dX4_capture_66 rfl ?_
      refine sX4_56 (n := 70) C (by first | with_reducible assumption | (simp only [sK_uI, sK_uJ, sK_uR, sK_wI, sK_wR, sK_wD, sK_wJ, sK_wIs, aN_uI, aN_uJ, aN_uR, aN_wI, aN_wR, aN_wD, aN_wJ, aN_wIs, fR_uI, fR_uJ, fR_wI, fR_wR, fR_wD, fR_wJ, fR_wIs, isI_uI, isI_uJ, isI_wI, isI_wR, isI_wD, isI_wJ, isI_wIs, isC_uI, isC_uJ, isC_wI, isC_wR, isC_wD, isC_wJ, isC_wIs, isG_uI, isG_uJ, isG_wI, isG_wR, isG_wD, isG_wJ, isG_wIs, isZ_uI, isZ_uJ, isZ_wI, isZ_wR, isZ_wD, isZ_wJ, isZ_wIs, isD_uI, isD_uJ, isD_wI, isD_wR, isD_wD, isD_wJ, isD_wIs, isL_uI, isL_uJ, isL_wI, isL_wR, isL_wD, isL_wJ, isL_wIs]; with_reducible assumption)) dX4_capture_67 rfl ?_
      refine r_goto (t := 78) C dX4_capture_70 (by decide) ?_
      refine r_aload_n (i := 0) (n := 79) C dX4_capture_78 rfl rfl rfl ?_
      refine r_dup (n := 80) C dX4_capture_79 rfl rfl ?_
      refine gX4_23 (n := 83) C hkT dX4_capture_80 rfl ?_
      rw [fJ_uI, hnT]
      refine r_iload_n (i := 2) (n := 84) C dX4_capture_83 rfl rfl rfl ?_
      refine r_i2l (n := 85) C dX4_capture_84 rfl ?_
      rw [nI_l (by omega)]
      refine r_ladd (n := 86) C dX4_capture_85 rfl ?_
      rw [lN_add]
      refine sX4_23 (n := 89) C hkT dX4_capture_86 rfl ?_
      refine t_v C dX4_capture_89 (by decide) ?_
      subst hT
      rfl
    | succ q ih =>
      intro k hk9
      have hkT : sK (faK S w1 L1 R1 h (fun j => aI S row (2 * j)) (fun j => aI S row (2 * j + 1)) k) a = 4 := fK_k.trans hk
      have hw1T : fR (faK S w1 L1 R1 h (fun j => aI S row (2 * j)) (fun j => aI S row (2 * j + 1)) k) 406 a = some w1 := fK_R.trans hw1
      have hf1T : fC (faK S w1 L1 R1 h (fun j => aI S row (2 * j)) (fun j => aI S row (2 * j + 1)) k) w1 L1 R1 (h + k) := fK_fC hf1
      have hroT : isI (faK S w1 L1 R1 h (fun j => aI S row (2 * j)) (fun j => aI S row (2 * j + 1)) k) row 48 := fK_i hrow
      have hraT : ∀ i, aI (faK S w1 L1 R1 h (fun j => aI S row (2 * j)) (fun j => aI S row (2 * j + 1)) k) row i = aI S row i := fun i => fK_a hr1 hr2
      have hn9 := ih (k + 1) (by omega)
      have e9 : (faK S w1 L1 R1 h (fun j => aI S row (2 * j)) (fun j => aI S row (2 * j + 1)) (k + 1)) = fAdd (faK S w1 L1 R1 h (fun j => aI S row (2 * j)) (fun j => aI S row (2 * j + 1)) k) w1 L1 R1 (h + k) (aI S row (2 * k)) (aI S row (2 * k + 1)) := rfl
      rw [e9] at hn9
      clear e9 ih
      generalize (faK S w1 L1 R1 h (fun j => aI S row (2 * j)) (fun j => aI S row (2 * j + 1)) k) = T at *
      refine r_iload_n (i := 2) (n := 3) C dX4_capture_2 rfl rfl rfl ?_
      refine r_bipush (v := 24) (n := 5) C dX4_capture_3 rfl rfl ?_
      refine r_icmp_geF (n := 8) (t := 33) C (cnle (a := 24) (b := k) rfl rfl (by omega) (by omega)) dX4_capture_5 (by decide) rfl ?_
      refine r_aload_n (i := 0) (n := 9) C dX4_capture_8 rfl rfl rfl ?_
      refine gX4_14 (n := 12) C hkT hw1T dX4_capture_9 rfl ?_
      refine r_aload_n (i := 1) (n := 13) C dX4_capture_12 rfl rfl rfl ?_
      refine r_iconst (v := 2) (n := 14) C dX4_capture_13 rfl rfl ?_
      refine r_iload_n (i := 2) (n := 15) C dX4_capture_14 rfl rfl rfl ?_
      refine r_imul (n := 16) C dX4_capture_15 rfl ?_
      refine q_iald (n := 17) C (2 * k) hroT (mul_nI (a := 2) (b := k) rfl rfl) (by omega) dX4_capture_16 rfl ?_
      rw [hraT]
      refine r_aload_n (i := 1) (n := 18) C dX4_capture_17 rfl rfl rfl ?_
      refine r_iconst (v := 2) (n := 19) C dX4_capture_18 rfl rfl ?_
      refine r_iload_n (i := 2) (n := 20) C dX4_capture_19 rfl rfl rfl ?_
      refine r_imul (n := 21) C dX4_capture_20 rfl ?_
      refine r_iconst (v := 1) (n := 22) C dX4_capture_21 rfl rfl ?_
      refine r_iadd (n := 23) C dX4_capture_22 rfl ?_
      refine q_iald (n := 24) C (2 * k + 1) hroT (add_nI (a := 2 * k) (b := 1) (mul_nI (a := 2) (b := k) rfl rfl) rfl) (by omega) dX4_capture_23 rfl ?_
      rw [hraT]
      refine kX4_47 (n := 27) C (c_fAdd hst T w1 L1 R1 (h + k) hf1T (by omega) (aI S row (2 * k)) (aI S row (2 * k + 1))) hf1T.1 (by decide) (by decide) (Nat.le_of_ble_eq_true rfl) dX4_capture_24 rfl (fun r S1 hp => ?_)
      subst hp
      refine r_iinc (n := 30) C dX4_capture_27 rfl rfl (by decide) rfl rfl ?_
      refine r_goto (t := 2) C dX4_capture_30 (by decide) ?_
      exact J.to (by rw [show nI k + Int32.ofInt 1 = nI (k + 1) from nI_1 k]; rfl) hn9
  exact J.to rfl (lp 24 0 (by omega))
set_option maxRecDepth 100000 in
set_option maxHeartbeats 1000000 in
theorem c_capture_y {l : Launch} {G : GG} {b : Nat} (hst : l.stackTraces = false) (S : Sw) (a : Nat) (hk : sK S a = 4) (cv t rr : Nat) (hcv : fR S 405 a = some cv) (hvc : vC S cv t 48000 rr) (hr : rtN rr) (w1 L1 R1 h : Nat) (hw1 : fR S 406 a = some w1) (hf1 : fC S w1 L1 R1 h) (hh : h < 2 ^ 20) (w2 L2 R2 un : Nat) (hw2 : fR S 407 a = some w2) (hf2 : fC S w2 L2 R2 un) (hun : un < 2 ^ 20) (rk : Nat) (hrk : fJ S 408 a = lN rk) (hrk2 : rk < 2 ^ 19) (wh : Nat) (hwh : fJ S 409 a = lN wh) (hwh2 : wh < 2 ^ 20) (tr : Nat) (htc : tC S t tr) (hw12 : w1 ≠ w2) (h1 : L1 ≠ L2) (h2 : L1 ≠ R2) (h3 : R1 ≠ L2) (h4 : R1 ≠ R2) (h5 : tr ≠ L2) (h6 : tr ≠ R2) (row : Nat) (hrow : isI S row 48) (hr1 : row ≠ L1) (hr2 : row ≠ R1) (hh2 : h + 24 < 2 ^ 20) (hle : wh ≤ un) (fr : Nat) (hfr : fr ≤ 24) (hall : ∀ i, i < fr → (if 48000 = rr then (rk + i) else (rk + i) * 48000 / rr + 8) < h + 24) (hend : fr = 24 ∨ ¬ (if 48000 = rr then (rk + fr) else (rk + fr) * 48000 / rr + 8) < h + 24) (hov : un - wh + fr ≤ 200) : Ct l G b yX4_capture cX4_capture 3 none rmX4_capture mV [.ref a, .ref row] S (fun _ S' => S' = lcY S a w1 L1 R1 h row rk fr w2 L2 R2 un tr rr) := by
  refine Ct.of2 pnX4 (own := RX4) rfl (Nat.le_of_ble_eq_true rfl) hst ?_
  intro p e s m args below meth c C hname
  change J p l e rmX4_capture s m args below meth c 3 G b _ 0 [(0, .ref a), (1, .ref row)] [] S 0 0
  refine r_iconst (v := 0) (n := 1) C dX4_capture_0 rfl rfl ?_
  refine r_istore_n (i := 2) (n := 2) C dX4_capture_1 rfl (by decide) rfl rfl ?_
  have lp : ∀ (q k : Nat), k + q = 24 → J p l e rmX4_capture s m args below meth c 3 G b (vx_MQ below (Qp G b mV (fun _ S' => S' = lcY S a w1 L1 R1 h row rk fr w2 L2 R2 un tr rr)) (XCp G b S (fun _ => False)) args s rmX4_capture.cells rmX4_capture.slots (Ab b)) 2 [(0, .ref a), (1, .ref row), (2, .int (nI k))] [] (faK S w1 L1 R1 h (fun j => aI S row (2 * j)) (fun j => aI S row (2 * j + 1)) k) 0 0 := by
    intro q
    induction q with
    | zero =>
      intro k hk9
      obtain rfl : k = 24 := by omega
      obtain ⟨T, hT⟩ : ∃ T, T = (faK S w1 L1 R1 h (fun j => aI S row (2 * j)) (fun j => aI S row (2 * j + 1)) 24) := ⟨_, rfl⟩
      rw [← hT]
      have hkT : sK T a = 4 := by rw [hT]; exact fK_k.trans hk
      have hcvT : fR T 405 a = some cv := by rw [hT]; exact fK_R.trans hcv
      have hw1T : fR T 406 a = some w1 := by rw [hT]; exact fK_R.trans hw1
      have hw2T : fR T 407 a = some w2 := by rw [hT]; exact fK_R.trans hw2
      have hvT : vC T cv t 48000 rr := by rw [hT]; exact fK_vC hvc
      have hf1T : fC T w1 L1 R1 (h + 24) := by rw [hT]; exact fK_fC hf1
      have hf2T : fC T w2 L2 R2 un := by rw [hT]; exact fK_fC2 (Ne.symm hw12) hf2
      have htT : tC T t tr := by rw [hT]; exact fK_tC htc
      have hnT : fJ T 408 a = lN rk := by rw [hT]; exact (fK_J (fun q => absurd q.1 (by decide))).trans hrk
      have hwhT : fJ T 409 a = lN wh := by rw [hT]; exact (fK_J (fun q => absurd q.1 (by decide))).trans hwh
      have hlT : fI T 3 a = fI S 3 a := by rw [hT]; exact fK_I
      refine r_iload_n (i := 2) (n := 3) C dX4_capture_2 rfl rfl rfl ?_
      refine r_bipush (v := 24) (n := 5) C dX4_capture_3 rfl rfl ?_
      refine r_icmp_geT (t := 33) C (cle (a := 24) (b := 24) rfl rfl (by omega) (by omega)) dX4_capture_5 (by decide) ?_
      refine r_aload_n (i := 0) (n := 34) C dX4_capture_33 rfl rfl rfl ?_
      refine kX4_50 (n := 37) C (c_freshFrames hst T a hkT cv t rr hcvT hvT hr w1 L1 R1 (h + 24) hw1T hf1T (by omega) rk hnT hrk2 fr hfr hall hend) hkT (by decide) (by decide) (Nat.le_of_ble_eq_true rfl) dX4_capture_34 rfl (fun r S1 hp => ?_)
      obtain ⟨hS9, hr9⟩ := hp
      subst S1
      subst r
      refine r_istore_n (i := 2) (n := 38) C dX4_capture_37 rfl (by decide) rfl rfl ?_
      refine r_aload_n (i := 0) (n := 39) C dX4_capture_38 rfl rfl rfl ?_
      refine gX4_20 (n := 42) C hkT hw2T dX4_capture_39 rfl ?_
      refine gX4_40 (n := 45) C hf2T.1 dX4_capture_42 rfl ?_
      rw [hf2T.2.2.2.2.2]
      refine r_aload_n (i := 0) (n := 46) C dX4_capture_45 rfl rfl rfl ?_
      refine gX4_27 (n := 49) C hkT dX4_capture_46 rfl ?_
      rw [hwhT]
      refine r_lsub (n := 50) C dX4_capture_49 rfl ?_
      rw [lN_sub hle]
      refine r_iload_n (i := 2) (n := 51) C dX4_capture_50 rfl rfl rfl ?_
      refine r_i2l (n := 52) C dX4_capture_51 rfl ?_
      rw [nI_l (by omega)]
      refine r_ladd (n := 53) C dX4_capture_52 rfl ?_
      rw [lN_add]
      refine r_ldc2 (n := 56) (v := 200) C (mem_tb (mem_tbl 257 (by decide +kernel)) (by decide +kernel)) dX4_capture_53 rfl ?_
      refine r_lcmp (n := 57) C dX4_capture_56 rfl ?_
      refine r_if_leT (t := 73) C (by rw [lg_cmp_le, show (200 : Int64) = lN 200 from rfl, pk_lLE (by omega) (by omega)]; omega) dX4_capture_57 (by decide) ?_
      refine r_aload_n (i := 0) (n := 74) C dX4_capture_73 rfl rfl rfl ?_
      refine r_iload_n (i := 2) (n := 75) C dX4_capture_74 rfl rfl rfl ?_
      refine kX4_60 (n := 78) C (c_unlock hst T a hkT cv t rr hcvT hvT hr w1 L1 R1 (h + 24) hw1T hf1T (by omega) w2 L2 R2 un hw2T hf2T hun rk hnT hrk2 tr htT hw12 h1 h2 h3 h4 h5 h6 fr hfr) hkT (by decide) (by decide) (Nat.le_of_ble_eq_true rfl) dX4_capture_75 rfl (fun r S1 hp => ?_)
      subst hp
      refine r_aload_n (i := 0) (n := 79) C dX4_capture_78 rfl rfl rfl ?_
      refine r_dup (n := 80) C dX4_capture_79 rfl rfl ?_
      refine gX4_23 (n := 83) C (fK_k.trans hkT) dX4_capture_80 rfl ?_
      rw [fK_J (fun q => absurd q.1 (by decide)), hnT]
      refine r_iload_n (i := 2) (n := 84) C dX4_capture_83 rfl rfl rfl ?_
      refine r_i2l (n := 85) C dX4_capture_84 rfl ?_
      rw [nI_l (by omega)]
      refine r_ladd (n := 86) C dX4_capture_85 rfl ?_
      rw [lN_add]
      refine sX4_23 (n := 89) C (fK_k.trans hkT) dX4_capture_86 rfl ?_
      refine t_v C dX4_capture_89 (by decide) ?_
      subst hT
      rfl
    | succ q ih =>
      intro k hk9
      have hkT : sK (faK S w1 L1 R1 h (fun j => aI S row (2 * j)) (fun j => aI S row (2 * j + 1)) k) a = 4 := fK_k.trans hk
      have hw1T : fR (faK S w1 L1 R1 h (fun j => aI S row (2 * j)) (fun j => aI S row (2 * j + 1)) k) 406 a = some w1 := fK_R.trans hw1
      have hf1T : fC (faK S w1 L1 R1 h (fun j => aI S row (2 * j)) (fun j => aI S row (2 * j + 1)) k) w1 L1 R1 (h + k) := fK_fC hf1
      have hroT : isI (faK S w1 L1 R1 h (fun j => aI S row (2 * j)) (fun j => aI S row (2 * j + 1)) k) row 48 := fK_i hrow
      have hraT : ∀ i, aI (faK S w1 L1 R1 h (fun j => aI S row (2 * j)) (fun j => aI S row (2 * j + 1)) k) row i = aI S row i := fun i => fK_a hr1 hr2
      have hn9 := ih (k + 1) (by omega)
      have e9 : (faK S w1 L1 R1 h (fun j => aI S row (2 * j)) (fun j => aI S row (2 * j + 1)) (k + 1)) = fAdd (faK S w1 L1 R1 h (fun j => aI S row (2 * j)) (fun j => aI S row (2 * j + 1)) k) w1 L1 R1 (h + k) (aI S row (2 * k)) (aI S row (2 * k + 1)) := rfl
      rw [e9] at hn9
      clear e9 ih
      generalize (faK S w1 L1 R1 h (fun j => aI S row (2 * j)) (fun j => aI S row (2 * j + 1)) k) = T at *
      refine r_iload_n (i := 2) (n := 3) C dX4_capture_2 rfl rfl rfl ?_
      refine r_bipush (v := 24) (n := 5) C dX4_capture_3 rfl rfl ?_
      refine r_icmp_geF (n := 8) (t := 33) C (cnle (a := 24) (b := k) rfl rfl (by omega) (by omega)) dX4_capture_5 (by decide) rfl ?_
      refine r_aload_n (i := 0) (n := 9) C dX4_capture_8 rfl rfl rfl ?_
      refine gX4_14 (n := 12) C hkT hw1T dX4_capture_9 rfl ?_
      refine r_aload_n (i := 1) (n := 13) C dX4_capture_12 rfl rfl rfl ?_
      refine r_iconst (v := 2) (n := 14) C dX4_capture_13 rfl rfl ?_
      refine r_iload_n (i := 2) (n := 15) C dX4_capture_14 rfl rfl rfl ?_
      refine r_imul (n := 16) C dX4_capture_15 rfl ?_
      refine q_iald (n := 17) C (2 * k) hroT (mul_nI (a := 2) (b := k) rfl rfl) (by omega) dX4_capture_16 rfl ?_
      rw [hraT]
      refine r_aload_n (i := 1) (n := 18) C dX4_capture_17 rfl rfl rfl ?_
      refine r_iconst (v := 2) (n := 19) C dX4_capture_18 rfl rfl ?_
      refine r_iload_n (i := 2) (n := 20) C dX4_capture_19 rfl rfl rfl ?_
      refine r_imul (n := 21) C dX4_capture_20 rfl ?_
      refine r_iconst (v := 1) (n := 22) C dX4_capture_21 rfl rfl ?_
      refine r_iadd (n := 23) C dX4_capture_22 rfl ?_
      refine q_iald (n := 24) C (2 * k + 1) hroT (add_nI (a := 2 * k) (b := 1) (mul_nI (a := 2) (b := k) rfl rfl) rfl) (by omega) dX4_capture_23 rfl ?_
      rw [hraT]
      refine kX4_47 (n := 27) C (c_fAdd hst T w1 L1 R1 (h + k) hf1T (by omega) (aI S row (2 * k)) (aI S row (2 * k + 1))) hf1T.1 (by decide) (by decide) (Nat.le_of_ble_eq_true rfl) dX4_capture_24 rfl (fun r S1 hp => ?_)
      subst hp
      refine r_iinc (n := 30) C dX4_capture_27 rfl rfl (by decide) rfl rfl ?_
      refine r_goto (t := 2) C dX4_capture_30 (by decide) ?_
      exact J.to (by rw [show nI k + Int32.ofInt 1 = nI (k + 1) from nI_1 k]; rfl) hn9
  exact J.to rfl (lp 24 0 (by omega))
