set_option maxRecDepth 100000 in
set_option maxHeartbeats 1000000 in
theorem c_close_n {l : Launch} {G : GG} {b : Nat} (hst : l.stackTraces = false) (S : Sw) (a cl : Nat) (hk : sK S a = 7) (hcl : fR S 702 a = some cl) (hic : isC S cl 6) (c0 : Int32) (hno_ : ∀ j, j < 6 → c0 = nI j → aR S cl j = none) : Cth l G b yX7_close cX7_close 2 none rmX7_close mV [.ref a, .int c0] S (fun _ _ => False) (fun k => k = 1) := by
  refine Cth.of2 pnX7 (own := RX7) rfl (Nat.le_of_ble_eq_true rfl) hst ?_
  intro p e s m args below meth c C hname hno
  change J p l e rmX7_close s m args below meth c 2 G b _ 0 [(0, .ref a), (1, .int c0)] [] S 0 0
  refine r_aload_n (i := 0) (n := 1) C dX7_close_0 rfl rfl rfl ?_
  refine r_iload_n (i := 1) (n := 2) C dX7_close_1 rfl rfl rfl ?_
  refine kX7_85 (n := 5) C (c_rc_n hst S a cl hk hcl hic c0 hno_) hk (by decide) (by decide) (Nat.le_of_ble_eq_true rfl) dX7_close_2 rfl (fun k9 hk9 hx9 => JX.out C hno hk9 (by decide) hx9) (fun r S1 hp => ?_)
  exact hp.elim
set_option maxRecDepth 100000 in
set_option maxHeartbeats 1000000 in
theorem c_close_y {l : Launch} {G : GG} {b : Nat} (hst : l.stackTraces = false) (S : Sw) (a cl : Nat) (hk : sK S a = 7) (hcl : fR S 702 a = some cl) (hic : isC S cl 6) (j x : Nat) (hj : j < 6) (hx : aR S cl j = some x) : Cth l G b yX7_close cX7_close 2 none rmX7_close mV [.ref a, .int (nI j)] S (fun _ S' => S' = wR S cl j none) (fun _ => False) := by
  refine Cth.of2 pnX7 (own := RX7) rfl (Nat.le_of_ble_eq_true rfl) hst ?_
  intro p e s m args below meth c C hname hno
  change J p l e rmX7_close s m args below meth c 2 G b _ 0 [(0, .ref a), (1, .int (nI j))] [] S 0 0
  refine r_aload_n (i := 0) (n := 1) C dX7_close_0 rfl rfl rfl ?_
  refine r_iload_n (i := 1) (n := 2) C dX7_close_1 rfl rfl rfl ?_
  refine kX7_85 (n := 5) C (c_rc_y hst S a cl hk hcl hic j x hj hx) hk (by decide) (by decide) (Nat.le_of_ble_eq_true rfl) dX7_close_2 rfl (fun _ _ h9 => h9.elim) (fun r S1 hp => ?_)
  obtain ⟨hS9, hr9⟩ := hp
  subst S1
  subst r
  refine r_pop (n := 6) C dX7_close_5 rfl rfl ?_
  refine r_aload_n (i := 0) (n := 7) C dX7_close_6 rfl rfl rfl ?_
  refine gX7_25 (n := 10) C hk hcl dX7_close_7 rfl ?_
  refine r_iload_n (i := 1) (n := 11) C dX7_close_10 rfl rfl rfl ?_
  refine r_null (n := 12) C dX7_close_11 rfl ?_
  refine r_aastN (n := 13) (j := j) C hic.1 rfl (by rw [hic.2.1]; exact hj) (by rw [hic.2.1]; decide) dX7_close_12 rfl ?_
  refine t_v C dX7_close_13 (by decide) ?_
  rfl
set_option maxRecDepth 100000 in
set_option maxHeartbeats 1000000 in
theorem c_gain_n {l : Launch} {G : GG} {b : Nat} (hst : l.stackTraces = false) (S : Sw) (a cl : Nat) (hk : sK S a = 7) (hcl : fR S 702 a = some cl) (hic : isC S cl 6) (c0 : Int32) (hno_ : ∀ j, j < 6 → c0 = nI j → aR S cl j = none) (g : UInt64) : Cth l G b yX7_gain cX7_gain 5 none rmX7_gain mV [.ref a, .int c0, .double g] S (fun _ _ => False) (fun k => k = 1) := by
  refine Cth.of2 pnX7 (own := RX7) rfl (Nat.le_of_ble_eq_true rfl) hst ?_
  intro p e s m args below meth c C hname hno
  change J p l e rmX7_gain s m args below meth c 5 G b _ 0 [(0, .ref a), (1, .int c0), (2, .double g)] [] S 0 0
  refine r_aload_n (i := 0) (n := 1) C dX7_gain_0 rfl rfl rfl ?_
  refine r_iload_n (i := 1) (n := 2) C dX7_gain_1 rfl rfl rfl ?_
  refine kX7_89 (n := 5) C (c_rp_n hst S a cl hk hcl hic c0 hno_) hk (by decide) (by decide) (Nat.le_of_ble_eq_true rfl) dX7_gain_2 rfl (fun k9 hk9 hx9 => JX.out C hno hk9 (by decide) hx9) (fun r S1 hp => ?_)
  exact hp.elim
set_option maxRecDepth 100000 in
set_option maxHeartbeats 1000000 in
theorem c_gain_l {l : Launch} {G : GG} {b : Nat} (hst : l.stackTraces = false) (S : Sw) (a cl : Nat) (hk : sK S a = 7) (hcl : fR S 702 a = some cl) (hic : isC S cl 6) (j x : Nat) (hj : j < 6) (hx : aR S cl j = some x) (hkx : sK S x = 4) (g : UInt64) : Cth l G b yX7_gain cX7_gain 5 none rmX7_gain mV [.ref a, .int (nI j), .double g] S (fun _ _ => False) (fun k => k = 1) := by
  refine Cth.of2 pnX7 (own := RX7) rfl (Nat.le_of_ble_eq_true rfl) hst ?_
  intro p e s m args below meth c C hname hno
  change J p l e rmX7_gain s m args below meth c 5 G b _ 0 [(0, .ref a), (1, .int (nI j)), (2, .double g)] [] S 0 0
  refine r_aload_n (i := 0) (n := 1) C dX7_gain_0 rfl rfl rfl ?_
  refine r_iload_n (i := 1) (n := 2) C dX7_gain_1 rfl rfl rfl ?_
  refine kX7_89 (n := 5) C (c_rp_k hst S a cl hk hcl hic j x hj hx hkx) hk (by decide) (by decide) (Nat.le_of_ble_eq_true rfl) dX7_gain_2 rfl (fun k9 hk9 hx9 => JX.out C hno hk9 (by decide) hx9) (fun r S1 hp => ?_)
  exact hp.elim
set_option maxRecDepth 100000 in
set_option maxHeartbeats 1000000 in
theorem c_gain_b {l : Launch} {G : GG} {b : Nat} (hst : l.stackTraces = false) (S : Sw) (a cl : Nat) (hk : sK S a = 7) (hcl : fR S 702 a = some cl) (hic : isC S cl 6) (j x : Nat) (hj : j < 6) (hx : aR S cl j = some x) (hkx : sK S x = 5) (g : UInt64) (hg : ¬ gnOk g) : Cth l G b yX7_gain cX7_gain 5 none rmX7_gain mV [.ref a, .int (nI j), .double g] S (fun _ _ => False) (fun k => k = 1) := by
  refine Cth.of2 pnX7 (own := RX7) rfl (Nat.le_of_ble_eq_true rfl) hst ?_
  intro p e s m args below meth c C hname hno
  change J p l e rmX7_gain s m args below meth c 5 G b _ 0 [(0, .ref a), (1, .int (nI j)), (2, .double g)] [] S 0 0
  refine r_aload_n (i := 0) (n := 1) C dX7_gain_0 rfl rfl rfl ?_
  refine r_iload_n (i := 1) (n := 2) C dX7_gain_1 rfl rfl rfl ?_
  refine kX7_89 (n := 5) C (c_rp_y hst S a cl hk hcl hic j x hj hx hkx) hk (by decide) (by decide) (Nat.le_of_ble_eq_true rfl) dX7_gain_2 rfl (fun _ _ h9 => h9.elim) (fun r S1 hp => ?_)
  obtain ⟨hS9, hr9⟩ := hp
  subst S1
  subst r
  refine r_astore (n := 7) C dX7_gain_5 (by decide) rfl rfl ?_
  refine r_dload_n (i := 2) (n := 8) C dX7_gain_7 rfl rfl rfl ?_
  refine r_dconst0 (n := 9) C dX7_gain_8 rfl ?_
  refine r_dcmp (n := 10) C dX7_gain_9 rfl ?_
  refine r_if_lt (n := 13) (t := 19) C dX7_gain_10 (by decide) rfl (fun h10 => ?_) (fun h10 => ?_)
  · exact r_throw (k := 1) (is := 93) (tx := "a gain is 0 to 1") C hno (Or.inl rfl) (by decide) at_1 (mem_tb (mem_tbl 289 (by decide +kernel)) (by decide +kernel)) (mem_tb (mem_tbl 9 (by decide +kernel)) (by decide +kernel)) dX7_gain_19 dX7_gain_22 dX7_gain_23 dX7_gain_25 dX7_gain_28 (by decide) (by decide) (by decide) rfl
  · refine r_dload_n (i := 2) (n := 14) C dX7_gain_13 rfl rfl rfl ?_
    refine r_dconst1 (n := 15) C dX7_gain_14 rfl ?_
    refine r_dcmp (n := 16) C dX7_gain_15 rfl ?_
    refine r_if_le (n := 19) (t := 29) C dX7_gain_16 (by decide) rfl (fun h16 => ?_) (fun h16 => ?_)
    · exact absurd ⟨h10, Int32.not_lt.mpr h16⟩ hg
    · exact r_throw (k := 1) (is := 93) (tx := "a gain is 0 to 1") C hno (Or.inl rfl) (by decide) at_1 (mem_tb (mem_tbl 289 (by decide +kernel)) (by decide +kernel)) (mem_tb (mem_tbl 9 (by decide +kernel)) (by decide +kernel)) dX7_gain_19 dX7_gain_22 dX7_gain_23 dX7_gain_25 dX7_gain_28 (by decide) (by decide) (by decide) rfl
set_option maxRecDepth 100000 in
set_option maxHeartbeats 1000000 in
theorem c_gain_y {l : Launch} {G : GG} {b : Nat} (hst : l.stackTraces = false) (S : Sw) (a cl : Nat) (hk : sK S a = 7) (hcl : fR S 702 a = some cl) (hic : isC S cl 6) (j x : Nat) (hj : j < 6) (hx : aR S cl j = some x) (hkx : sK S x = 5) (g : UInt64) (hg : gnOk g) (hnn : vf_n64 (FP.dmul g 4643211215818981376)) : Cth l G b yX7_gain cX7_gain 5 none rmX7_gain mV [.ref a, .int (nI j), .double g] S (fun _ S' => S' = uI S 508 x (FP.d2i (FP.dmul g 4643211215818981376))) (fun _ => False) := by
  refine Cth.of2 pnX7 (own := RX7) rfl (Nat.le_of_ble_eq_true rfl) hst ?_
  intro p e s m args below meth c C hname hno
  change J p l e rmX7_gain s m args below meth c 5 G b _ 0 [(0, .ref a), (1, .int (nI j)), (2, .double g)] [] S 0 0
  refine r_aload_n (i := 0) (n := 1) C dX7_gain_0 rfl rfl rfl ?_
  refine r_iload_n (i := 1) (n := 2) C dX7_gain_1 rfl rfl rfl ?_
  refine kX7_89 (n := 5) C (c_rp_y hst S a cl hk hcl hic j x hj hx hkx) hk (by decide) (by decide) (Nat.le_of_ble_eq_true rfl) dX7_gain_2 rfl (fun _ _ h9 => h9.elim) (fun r S1 hp => ?_)
  obtain ⟨hS9, hr9⟩ := hp
  subst S1
  subst r
  refine r_astore (n := 7) C dX7_gain_5 (by decide) rfl rfl ?_
  refine r_dload_n (i := 2) (n := 8) C dX7_gain_7 rfl rfl rfl ?_
  refine r_dconst0 (n := 9) C dX7_gain_8 rfl ?_
  refine r_dcmp (n := 10) C dX7_gain_9 rfl ?_
  refine r_if_ltF (n := 13) (t := 19) C hg.1 dX7_gain_10 (by decide) rfl ?_
  refine r_dload_n (i := 2) (n := 14) C dX7_gain_13 rfl rfl rfl ?_
  refine r_dconst1 (n := 15) C dX7_gain_14 rfl ?_
  refine r_dcmp (n := 16) C dX7_gain_15 rfl ?_
  refine r_if_leT (t := 29) C (Int32.not_lt.mp hg.2) dX7_gain_16 (by decide) ?_
  refine r_aload (n := 31) C dX7_gain_29 rfl rfl ?_
  refine r_dload_n (i := 2) (n := 32) C dX7_gain_31 rfl rfl rfl ?_
  refine r_ldc2d (n := 35) (v := 4643211215818981376) C (mem_tb (mem_tbl 542 (by decide +kernel)) (by decide +kernel)) dX7_gain_32 rfl ?_
  refine r_dmul (n := 36) C dX7_gain_35 (by assumption) rfl ?_
  refine r_d2i (n := 37) C dX7_gain_36 rfl ?_
  refine sX7_97 (n := 40) C (by first | with_reducible assumption | (simp only [sK_uI, sK_uJ, sK_uR, sK_wI, sK_wR, sK_wD, sK_wJ, sK_wIs, aN_uI, aN_uJ, aN_uR, aN_wI, aN_wR, aN_wD, aN_wJ, aN_wIs, fR_uI, fR_uJ, fR_wI, fR_wR, fR_wD, fR_wJ, fR_wIs, isI_uI, isI_uJ, isI_wI, isI_wR, isI_wD, isI_wJ, isI_wIs, isC_uI, isC_uJ, isC_wI, isC_wR, isC_wD, isC_wJ, isC_wIs, isG_uI, isG_uJ, isG_wI, isG_wR, isG_wD, isG_wJ, isG_wIs, isZ_uI, isZ_uJ, isZ_wI, isZ_wR, isZ_wD, isZ_wJ, isZ_wIs, isD_uI, isD_uJ, isD_wI, isD_wR, isD_wD, isD_wJ, isD_wIs, isL_uI, isL_uJ, isL_wI, isL_wR, isL_wD, isL_wJ, isL_wIs]; with_reducible assumption)) dX7_gain_37 rfl ?_
  refine t_v C dX7_gain_40 (by decide) ?_
  rfl
set_option maxRecDepth 100000 in
set_option maxHeartbeats 1000000 in
theorem c_start_b4 {l : Launch} {G : GG} {b : Nat} (hst : l.stackTraces = false) (S : Sw) (a cl : Nat) (hk : sK S a = 7) (hcl : fR S 702 a = some cl) (hic : isC S cl 6) (j x : Nat) (hj : j < 6) (hx : aR S cl j = some x) (hkx : sK S x = 4) (h0 : ¬ fI S 2 x = 0) (h2 : ¬ fI S 2 x = 2) : Cth l G b yX7_start cX7_start 3 none rmX7_start mV [.ref a, .int (nI j)] S (fun _ _ => False) (fun k => k = 2) := by
  refine Cth.of2 pnX7 (own := RX7) rfl (Nat.le_of_ble_eq_true rfl) hst ?_
  intro p e s m args below meth c C hname hno
  change J p l e rmX7_start s m args below meth c 3 G b _ 0 [(0, .ref a), (1, .int (nI j))] [] S 0 0
  refine r_aload_n (i := 0) (n := 1) C dX7_start_0 rfl rfl rfl ?_
  refine r_iload_n (i := 1) (n := 2) C dX7_start_1 rfl rfl rfl ?_
  refine kX7_85 (n := 5) C (c_rc_y hst S a cl hk hcl hic j x hj hx) hk (by decide) (by decide) (Nat.le_of_ble_eq_true rfl) dX7_start_2 rfl (fun _ _ h9 => h9.elim) (fun r S1 hp => ?_)
  obtain ⟨hS9, hr9⟩ := hp
  subst S1
  subst r
  refine r_astore_n (i := 2) (n := 6) C dX7_start_5 rfl (by decide) rfl rfl ?_
  refine r_aload_n (i := 2) (n := 7) C dX7_start_6 rfl rfl rfl ?_
  refine gX7_100_4 (n := 10) C (by first | with_reducible assumption | (simp only [sK_uI, sK_uJ, sK_uR, sK_wI, sK_wR, sK_wD, sK_wJ, sK_wIs, aN_uI, aN_uJ, aN_uR, aN_wI, aN_wR, aN_wD, aN_wJ, aN_wIs, fR_uI, fR_uJ, fR_wI, fR_wR, fR_wD, fR_wJ, fR_wIs, isI_uI, isI_uJ, isI_wI, isI_wR, isI_wD, isI_wJ, isI_wIs, isC_uI, isC_uJ, isC_wI, isC_wR, isC_wD, isC_wJ, isC_wIs, isG_uI, isG_uJ, isG_wI, isG_wR, isG_wD, isG_wJ, isG_wIs, isZ_uI, isZ_uJ, isZ_wI, isZ_wR, isZ_wD, isZ_wJ, isZ_wIs, isD_uI, isD_uJ, isD_wI, isD_wR, isD_wD, isD_wJ, isD_wIs, isL_uI, isL_uJ, isL_wI, isL_wR, isL_wD, isL_wJ, isL_wIs]; with_reducible assumption)) dX7_start_7 rfl ?_
  refine r_if_eqF (n := 13) (t := 31) C h0 dX7_start_10 (by decide) rfl ?_
  refine r_aload_n (i := 2) (n := 14) C dX7_start_13 rfl rfl rfl ?_
  refine gX7_100_4 (n := 17) C (by first | with_reducible assumption | (simp only [sK_uI, sK_uJ, sK_uR, sK_wI, sK_wR, sK_wD, sK_wJ, sK_wIs, aN_uI, aN_uJ, aN_uR, aN_wI, aN_wR, aN_wD, aN_wJ, aN_wIs, fR_uI, fR_uJ, fR_wI, fR_wR, fR_wD, fR_wJ, fR_wIs, isI_uI, isI_uJ, isI_wI, isI_wR, isI_wD, isI_wJ, isI_wIs, isC_uI, isC_uJ, isC_wI, isC_wR, isC_wD, isC_wJ, isC_wIs, isG_uI, isG_uJ, isG_wI, isG_wR, isG_wD, isG_wJ, isG_wIs, isZ_uI, isZ_uJ, isZ_wI, isZ_wR, isZ_wD, isZ_wJ, isZ_wIs, isD_uI, isD_uJ, isD_wI, isD_wR, isD_wD, isD_wJ, isD_wIs, isL_uI, isL_uJ, isL_wI, isL_wR, isL_wD, isL_wJ, isL_wIs]; with_reducible assumption)) dX7_start_14 rfl ?_
  refine r_iconst (v := 2) (n := 18) C dX7_start_17 rfl rfl ?_
  refine r_icmp_eqF (n := 21) (t := 31) C h2 dX7_start_18 (by decide) rfl ?_
  exact r_throw (k := 2) (is := 103) (tx := "neither opened nor paused") C hno (Or.inr rfl) (by decide) at_2 (mem_tb (mem_tbl 360 (by decide +kernel)) (by decide +kernel)) (mem_tb (mem_tbl 10 (by decide +kernel)) (by decide +kernel)) dX7_start_21 dX7_start_24 dX7_start_25 dX7_start_27 dX7_start_30 (by decide) (by decide) (by decide) rfl
set_option maxRecDepth 100000 in
set_option maxHeartbeats 1000000 in
theorem c_start_y4 {l : Launch} {G : GG} {b : Nat} (hst : l.stackTraces = false) (S : Sw) (a cl : Nat) (hk : sK S a = 7) (hcl : fR S 702 a = some cl) (hic : isC S cl 6) (j x : Nat) (hj : j < 6) (hx : aR S cl j = some x) (hkx : sK S x = 4) (h02 : fI S 2 x = 0 ∨ fI S 2 x = 2) : Cth l G b yX7_start cX7_start 3 none rmX7_start mV [.ref a, .int (nI j)] S (fun _ S' => S' = uI S 2 x 1) (fun _ => False) := by
  refine Cth.of2 pnX7 (own := RX7) rfl (Nat.le_of_ble_eq_true rfl) hst ?_
  intro p e s m args below meth c C hname hno
  change J p l e rmX7_start s m args below meth c 3 G b _ 0 [(0, .ref a), (1, .int (nI j))] [] S 0 0
  refine r_aload_n (i := 0) (n := 1) C dX7_start_0 rfl rfl rfl ?_
  refine r_iload_n (i := 1) (n := 2) C dX7_start_1 rfl rfl rfl ?_
  refine kX7_85 (n := 5) C (c_rc_y hst S a cl hk hcl hic j x hj hx) hk (by decide) (by decide) (Nat.le_of_ble_eq_true rfl) dX7_start_2 rfl (fun _ _ h9 => h9.elim) (fun r S1 hp => ?_)
  obtain ⟨hS9, hr9⟩ := hp
  subst S1
  subst r
  refine r_astore_n (i := 2) (n := 6) C dX7_start_5 rfl (by decide) rfl rfl ?_
  refine r_aload_n (i := 2) (n := 7) C dX7_start_6 rfl rfl rfl ?_
  refine gX7_100_4 (n := 10) C (by first | with_reducible assumption | (simp only [sK_uI, sK_uJ, sK_uR, sK_wI, sK_wR, sK_wD, sK_wJ, sK_wIs, aN_uI, aN_uJ, aN_uR, aN_wI, aN_wR, aN_wD, aN_wJ, aN_wIs, fR_uI, fR_uJ, fR_wI, fR_wR, fR_wD, fR_wJ, fR_wIs, isI_uI, isI_uJ, isI_wI, isI_wR, isI_wD, isI_wJ, isI_wIs, isC_uI, isC_uJ, isC_wI, isC_wR, isC_wD, isC_wJ, isC_wIs, isG_uI, isG_uJ, isG_wI, isG_wR, isG_wD, isG_wJ, isG_wIs, isZ_uI, isZ_uJ, isZ_wI, isZ_wR, isZ_wD, isZ_wJ, isZ_wIs, isD_uI, isD_uJ, isD_wI, isD_wR, isD_wD, isD_wJ, isD_wIs, isL_uI, isL_uJ, isL_wI, isL_wR, isL_wD, isL_wJ, isL_wIs]; with_reducible assumption)) dX7_start_7 rfl ?_
  refine r_if_eq (n := 13) (t := 31) C dX7_start_10 (by decide) rfl (fun h10 => ?_) (fun h10 => ?_)
  · refine r_aload_n (i := 2) (n := 32) C dX7_start_31 rfl rfl rfl ?_
    refine r_iconst (v := 1) (n := 33) C dX7_start_32 rfl rfl ?_
    refine sX7_100_4 (n := 36) C (by first | with_reducible assumption | (simp only [sK_uI, sK_uJ, sK_uR, sK_wI, sK_wR, sK_wD, sK_wJ, sK_wIs, aN_uI, aN_uJ, aN_uR, aN_wI, aN_wR, aN_wD, aN_wJ, aN_wIs, fR_uI, fR_uJ, fR_wI, fR_wR, fR_wD, fR_wJ, fR_wIs, isI_uI, isI_uJ, isI_wI, isI_wR, isI_wD, isI_wJ, isI_wIs, isC_uI, isC_uJ, isC_wI, isC_wR, isC_wD, isC_wJ, isC_wIs, isG_uI, isG_uJ, isG_wI, isG_wR, isG_wD, isG_wJ, isG_wIs, isZ_uI, isZ_uJ, isZ_wI, isZ_wR, isZ_wD, isZ_wJ, isZ_wIs, isD_uI, isD_uJ, isD_wI, isD_wR, isD_wD, isD_wJ, isD_wIs, isL_uI, isL_uJ, isL_wI, isL_wR, isL_wD, isL_wJ, isL_wIs]; with_reducible assumption)) dX7_start_33 rfl ?_
    refine t_v C dX7_start_36 (by decide) ?_
    rfl
  · refine r_aload_n (i := 2) (n := 14) C dX7_start_13 rfl rfl rfl ?_
    refine gX7_100_4 (n := 17) C (by first | with_reducible assumption | (simp only [sK_uI, sK_uJ, sK_uR, sK_wI, sK_wR, sK_wD, sK_wJ, sK_wIs, aN_uI, aN_uJ, aN_uR, aN_wI, aN_wR, aN_wD, aN_wJ, aN_wIs, fR_uI, fR_uJ, fR_wI, fR_wR, fR_wD, fR_wJ, fR_wIs, isI_uI, isI_uJ, isI_wI, isI_wR, isI_wD, isI_wJ, isI_wIs, isC_uI, isC_uJ, isC_wI, isC_wR, isC_wD, isC_wJ, isC_wIs, isG_uI, isG_uJ, isG_wI, isG_wR, isG_wD, isG_wJ, isG_wIs, isZ_uI, isZ_uJ, isZ_wI, isZ_wR, isZ_wD, isZ_wJ, isZ_wIs, isD_uI, isD_uJ, isD_wI, isD_wR, isD_wD, isD_wJ, isD_wIs, isL_uI, isL_uJ, isL_wI, isL_wR, isL_wD, isL_wJ, isL_wIs]; with_reducible assumption)) dX7_start_14 rfl ?_
    refine r_iconst (v := 2) (n := 18) C dX7_start_17 rfl rfl ?_
    refine r_icmp_eq (n := 21) (t := 31) C dX7_start_18 (by decide) rfl (fun h18 => ?_) (fun h18 => ?_)
    · refine r_aload_n (i := 2) (n := 32) C dX7_start_31 rfl rfl rfl ?_
      refine r_iconst (v := 1) (n := 33) C dX7_start_32 rfl rfl ?_
      refine sX7_100_4 (n := 36) C (by first | with_reducible assumption | (simp only [sK_uI, sK_uJ, sK_uR, sK_wI, sK_wR, sK_wD, sK_wJ, sK_wIs, aN_uI, aN_uJ, aN_uR, aN_wI, aN_wR, aN_wD, aN_wJ, aN_wIs, fR_uI, fR_uJ, fR_wI, fR_wR, fR_wD, fR_wJ, fR_wIs, isI_uI, isI_uJ, isI_wI, isI_wR, isI_wD, isI_wJ, isI_wIs, isC_uI, isC_uJ, isC_wI, isC_wR, isC_wD, isC_wJ, isC_wIs, isG_uI, isG_uJ, isG_wI, isG_wR, isG_wD, isG_wJ, isG_wIs, isZ_uI, isZ_uJ, isZ_wI, isZ_wR, isZ_wD, isZ_wJ, isZ_wIs, isD_uI, isD_uJ, isD_wI, isD_wR, isD_wD, isD_wJ, isD_wIs, isL_uI, isL_uJ, isL_wI, isL_wR, isL_wD, isL_wJ, isL_wIs]; with_reducible assumption)) dX7_start_33 rfl ?_
      refine t_v C dX7_start_36 (by decide) ?_
      rfl
    · exact absurd h02 (fun q => q.elim h10 h18)
set_option maxRecDepth 100000 in
set_option maxHeartbeats 1000000 in
theorem c_pause_b4 {l : Launch} {G : GG} {b : Nat} (hst : l.stackTraces = false) (S : Sw) (a cl : Nat) (hk : sK S a = 7) (hcl : fR S 702 a = some cl) (hic : isC S cl 6) (j x : Nat) (hj : j < 6) (hx : aR S cl j = some x) (hkx : sK S x = 4) (h1 : ¬ fI S 2 x = 1) : Cth l G b yX7_pause cX7_pause 3 none rmX7_pause mV [.ref a, .int (nI j)] S (fun _ _ => False) (fun k => k = 2) := by
  refine Cth.of2 pnX7 (own := RX7) rfl (Nat.le_of_ble_eq_true rfl) hst ?_
  intro p e s m args below meth c C hname hno
  change J p l e rmX7_pause s m args below meth c 3 G b _ 0 [(0, .ref a), (1, .int (nI j))] [] S 0 0
  refine r_aload_n (i := 0) (n := 1) C dX7_pause_0 rfl rfl rfl ?_
  refine r_iload_n (i := 1) (n := 2) C dX7_pause_1 rfl rfl rfl ?_
  refine kX7_85 (n := 5) C (c_rc_y hst S a cl hk hcl hic j x hj hx) hk (by decide) (by decide) (Nat.le_of_ble_eq_true rfl) dX7_pause_2 rfl (fun _ _ h9 => h9.elim) (fun r S1 hp => ?_)
  obtain ⟨hS9, hr9⟩ := hp
  subst S1
  subst r
  refine r_astore_n (i := 2) (n := 6) C dX7_pause_5 rfl (by decide) rfl rfl ?_
  refine r_aload_n (i := 2) (n := 7) C dX7_pause_6 rfl rfl rfl ?_
  refine kX7_105 (n := 10) C (c_rr_n4 hst S x hkx h1) (by decide) (by decide) (Nat.le_of_ble_eq_true rfl) dX7_pause_7 rfl (fun k9 hk9 hx9 => JX.out C hno hk9 (by decide) hx9) (fun r S1 hp => ?_)
  exact hp.elim
set_option maxRecDepth 100000 in
set_option maxHeartbeats 1000000 in
theorem c_pause_y4 {l : Launch} {G : GG} {b : Nat} (hst : l.stackTraces = false) (S : Sw) (a cl : Nat) (hk : sK S a = 7) (hcl : fR S 702 a = some cl) (hic : isC S cl 6) (j x : Nat) (hj : j < 6) (hx : aR S cl j = some x) (hkx : sK S x = 4) (h1 : fI S 2 x = 1) : Cth l G b yX7_pause cX7_pause 3 none rmX7_pause mV [.ref a, .int (nI j)] S (fun _ S' => S' = uI S 2 x 2) (fun _ => False) := by
  refine Cth.of2 pnX7 (own := RX7) rfl (Nat.le_of_ble_eq_true rfl) hst ?_
  intro p e s m args below meth c C hname hno
  change J p l e rmX7_pause s m args below meth c 3 G b _ 0 [(0, .ref a), (1, .int (nI j))] [] S 0 0
  refine r_aload_n (i := 0) (n := 1) C dX7_pause_0 rfl rfl rfl ?_
  refine r_iload_n (i := 1) (n := 2) C dX7_pause_1 rfl rfl rfl ?_
  refine kX7_85 (n := 5) C (c_rc_y hst S a cl hk hcl hic j x hj hx) hk (by decide) (by decide) (Nat.le_of_ble_eq_true rfl) dX7_pause_2 rfl (fun _ _ h9 => h9.elim) (fun r S1 hp => ?_)
  obtain ⟨hS9, hr9⟩ := hp
  subst S1
  subst r
  refine r_astore_n (i := 2) (n := 6) C dX7_pause_5 rfl (by decide) rfl rfl ?_
  refine r_aload_n (i := 2) (n := 7) C dX7_pause_6 rfl rfl rfl ?_
  refine kX7_105 (n := 10) C (c_rr_y4 hst S x hkx h1) (by decide) (by decide) (Nat.le_of_ble_eq_true rfl) dX7_pause_7 rfl (fun _ _ h9 => h9.elim) (fun r S1 hp => ?_)
  subst hp
  refine r_aload_n (i := 2) (n := 11) C dX7_pause_10 rfl rfl rfl ?_
  refine r_iconst (v := 2) (n := 12) C dX7_pause_11 rfl rfl ?_
  refine sX7_100_4 (n := 15) C (by first | with_reducible assumption | (simp only [sK_uI, sK_uJ, sK_uR, sK_wI, sK_wR, sK_wD, sK_wJ, sK_wIs, aN_uI, aN_uJ, aN_uR, aN_wI, aN_wR, aN_wD, aN_wJ, aN_wIs, fR_uI, fR_uJ, fR_wI, fR_wR, fR_wD, fR_wJ, fR_wIs, isI_uI, isI_uJ, isI_wI, isI_wR, isI_wD, isI_wJ, isI_wIs, isC_uI, isC_uJ, isC_wI, isC_wR, isC_wD, isC_wJ, isC_wIs, isG_uI, isG_uJ, isG_wI, isG_wR, isG_wD, isG_wJ, isG_wIs, isZ_uI, isZ_uJ, isZ_wI, isZ_wR, isZ_wD, isZ_wJ, isZ_wIs, isD_uI, isD_uJ, isD_wI, isD_wR, isD_wD, isD_wJ, isD_wIs, isL_uI, isL_uJ, isL_wI, isL_wR, isL_wD, isL_wJ, isL_wIs]; with_reducible assumption)) dX7_pause_12 rfl ?_
  refine t_v C dX7_pause_15 (by decide) ?_
  rfl
set_option maxRecDepth 100000 in
set_option maxHeartbeats 1000000 in
theorem c_state_y4 {l : Launch} {G : GG} {b : Nat} (hst : l.stackTraces = false) (S : Sw) (a cl : Nat) (hk : sK S a = 7) (hcl : fR S 702 a = some cl) (hic : isC S cl 6) (j x : Nat) (hj : j < 6) (hx : aR S cl j = some x) (hkx : sK S x = 4) : Cth l G b yX7_state cX7_state 2 (some .int) rmX7_state mI [.ref a, .int (nI j)] S (fun r S' => S' = S ∧ r = fI S 2 x) (fun _ => False) := by
  refine Cth.of2 pnX7 (own := RX7) rfl (Nat.le_of_ble_eq_true rfl) hst ?_
  intro p e s m args below meth c C hname hno
  change J p l e rmX7_state s m args below meth c 2 G b _ 0 [(0, .ref a), (1, .int (nI j))] [] S 0 0
  refine r_aload_n (i := 0) (n := 1) C dX7_state_0 rfl rfl rfl ?_
  refine r_iload_n (i := 1) (n := 2) C dX7_state_1 rfl rfl rfl ?_
  refine kX7_85 (n := 5) C (c_rc_y hst S a cl hk hcl hic j x hj hx) hk (by decide) (by decide) (Nat.le_of_ble_eq_true rfl) dX7_state_2 rfl (fun _ _ h9 => h9.elim) (fun r S1 hp => ?_)
  obtain ⟨hS9, hr9⟩ := hp
  subst S1
  subst r
  refine gX7_100_4 (n := 8) C (by first | with_reducible assumption | (simp only [sK_uI, sK_uJ, sK_uR, sK_wI, sK_wR, sK_wD, sK_wJ, sK_wIs, aN_uI, aN_uJ, aN_uR, aN_wI, aN_wR, aN_wD, aN_wJ, aN_wIs, fR_uI, fR_uJ, fR_wI, fR_wR, fR_wD, fR_wJ, fR_wIs, isI_uI, isI_uJ, isI_wI, isI_wR, isI_wD, isI_wJ, isI_wIs, isC_uI, isC_uJ, isC_wI, isC_wR, isC_wD, isC_wJ, isC_wIs, isG_uI, isG_uJ, isG_wI, isG_wR, isG_wD, isG_wJ, isG_wIs, isZ_uI, isZ_uJ, isZ_wI, isZ_wR, isZ_wD, isZ_wJ, isZ_wIs, isD_uI, isD_uJ, isD_wI, isD_wR, isD_wD, isD_wJ, isD_wIs, isL_uI, isL_uJ, isL_wI, isL_wR, isL_wD, isL_wJ, isL_wIs]; with_reducible assumption)) dX7_state_5 rfl ?_
  refine t_i C rfl dX7_state_8 (by decide) ?_
  exact ⟨rfl, rfl⟩
set_option maxRecDepth 100000 in
set_option maxHeartbeats 1000000 in
theorem c_late_y4 {l : Launch} {G : GG} {b : Nat} (hst : l.stackTraces = false) (S : Sw) (a cl : Nat) (hk : sK S a = 7) (hcl : fR S 702 a = some cl) (hic : isC S cl 6) (j x : Nat) (hj : j < 6) (hx : aR S cl j = some x) (hkx : sK S x = 4) : Cth l G b yX7_late cX7_late 2 (some .int) rmX7_late mI [.ref a, .int (nI j)] S (fun r S' => S' = S ∧ r = fI S 3 x) (fun _ => False) := by
  refine Cth.of2 pnX7 (own := RX7) rfl (Nat.le_of_ble_eq_true rfl) hst ?_
  intro p e s m args below meth c C hname hno
  change J p l e rmX7_late s m args below meth c 2 G b _ 0 [(0, .ref a), (1, .int (nI j))] [] S 0 0
  refine r_aload_n (i := 0) (n := 1) C dX7_late_0 rfl rfl rfl ?_
  refine r_iload_n (i := 1) (n := 2) C dX7_late_1 rfl rfl rfl ?_
  refine kX7_85 (n := 5) C (c_rc_y hst S a cl hk hcl hic j x hj hx) hk (by decide) (by decide) (Nat.le_of_ble_eq_true rfl) dX7_late_2 rfl (fun _ _ h9 => h9.elim) (fun r S1 hp => ?_)
  obtain ⟨hS9, hr9⟩ := hp
  subst S1
  subst r
  refine gX7_188_4 (n := 8) C (by first | with_reducible assumption | (simp only [sK_uI, sK_uJ, sK_uR, sK_wI, sK_wR, sK_wD, sK_wJ, sK_wIs, aN_uI, aN_uJ, aN_uR, aN_wI, aN_wR, aN_wD, aN_wJ, aN_wIs, fR_uI, fR_uJ, fR_wI, fR_wR, fR_wD, fR_wJ, fR_wIs, isI_uI, isI_uJ, isI_wI, isI_wR, isI_wD, isI_wJ, isI_wIs, isC_uI, isC_uJ, isC_wI, isC_wR, isC_wD, isC_wJ, isC_wIs, isG_uI, isG_uJ, isG_wI, isG_wR, isG_wD, isG_wJ, isG_wIs, isZ_uI, isZ_uJ, isZ_wI, isZ_wR, isZ_wD, isZ_wJ, isZ_wIs, isD_uI, isD_uJ, isD_wI, isD_wR, isD_wD, isD_wJ, isD_wIs, isL_uI, isL_uJ, isL_wI, isL_wR, isL_wD, isL_wJ, isL_wIs]; with_reducible assumption)) dX7_late_5 rfl ?_
  refine t_i C rfl dX7_late_8 (by decide) ?_
  exact ⟨rfl, rfl⟩
set_option maxRecDepth 100000 in
set_option maxHeartbeats 1000000 in
theorem c_start_b5 {l : Launch} {G : GG} {b : Nat} (hst : l.stackTraces = false) (S : Sw) (a cl : Nat) (hk : sK S a = 7) (hcl : fR S 702 a = some cl) (hic : isC S cl 6) (j x : Nat) (hj : j < 6) (hx : aR S cl j = some x) (hkx : sK S x = 5) (h0 : ¬ fI S 2 x = 0) (h2 : ¬ fI S 2 x = 2) : Cth l G b yX7_start cX7_start 3 none rmX7_start mV [.ref a, .int (nI j)] S (fun _ _ => False) (fun k => k = 2) := by
  refine Cth.of2 pnX7 (own := RX7) rfl (Nat.le_of_ble_eq_true rfl) hst ?_
  intro p e s m args below meth c C hname hno
  change J p l e rmX7_start s m args below meth c 3 G b _ 0 [(0, .ref a), (1, .int (nI j))] [] S 0 0
  refine r_aload_n (i := 0) (n := 1) C dX7_start_0 rfl rfl rfl ?_
  refine r_iload_n (i := 1) (n := 2) C dX7_start_1 rfl rfl rfl ?_
  refine kX7_85 (n := 5) C (c_rc_y hst S a cl hk hcl hic j x hj hx) hk (by decide) (by decide) (Nat.le_of_ble_eq_true rfl) dX7_start_2 rfl (fun _ _ h9 => h9.elim) (fun r S1 hp => ?_)
  obtain ⟨hS9, hr9⟩ := hp
  subst S1
  subst r
  refine r_astore_n (i := 2) (n := 6) C dX7_start_5 rfl (by decide) rfl rfl ?_
  refine r_aload_n (i := 2) (n := 7) C dX7_start_6 rfl rfl rfl ?_
  refine gX7_100_5 (n := 10) C (by first | with_reducible assumption | (simp only [sK_uI, sK_uJ, sK_uR, sK_wI, sK_wR, sK_wD, sK_wJ, sK_wIs, aN_uI, aN_uJ, aN_uR, aN_wI, aN_wR, aN_wD, aN_wJ, aN_wIs, fR_uI, fR_uJ, fR_wI, fR_wR, fR_wD, fR_wJ, fR_wIs, isI_uI, isI_uJ, isI_wI, isI_wR, isI_wD, isI_wJ, isI_wIs, isC_uI, isC_uJ, isC_wI, isC_wR, isC_wD, isC_wJ, isC_wIs, isG_uI, isG_uJ, isG_wI, isG_wR, isG_wD, isG_wJ, isG_wIs, isZ_uI, isZ_uJ, isZ_wI, isZ_wR, isZ_wD, isZ_wJ, isZ_wIs, isD_uI, isD_uJ, isD_wI, isD_wR, isD_wD, isD_wJ, isD_wIs, isL_uI, isL_uJ, isL_wI, isL_wR, isL_wD, isL_wJ, isL_wIs]; with_reducible assumption)) dX7_start_7 rfl ?_
  refine r_if_eqF (n := 13) (t := 31) C h0 dX7_start_10 (by decide) rfl ?_
  refine r_aload_n (i := 2) (n := 14) C dX7_start_13 rfl rfl rfl ?_
  refine gX7_100_5 (n := 17) C (by first | with_reducible assumption | (simp only [sK_uI, sK_uJ, sK_uR, sK_wI, sK_wR, sK_wD, sK_wJ, sK_wIs, aN_uI, aN_uJ, aN_uR, aN_wI, aN_wR, aN_wD, aN_wJ, aN_wIs, fR_uI, fR_uJ, fR_wI, fR_wR, fR_wD, fR_wJ, fR_wIs, isI_uI, isI_uJ, isI_wI, isI_wR, isI_wD, isI_wJ, isI_wIs, isC_uI, isC_uJ, isC_wI, isC_wR, isC_wD, isC_wJ, isC_wIs, isG_uI, isG_uJ, isG_wI, isG_wR, isG_wD, isG_wJ, isG_wIs, isZ_uI, isZ_uJ, isZ_wI, isZ_wR, isZ_wD, isZ_wJ, isZ_wIs, isD_uI, isD_uJ, isD_wI, isD_wR, isD_wD, isD_wJ, isD_wIs, isL_uI, isL_uJ, isL_wI, isL_wR, isL_wD, isL_wJ, isL_wIs]; with_reducible assumption)) dX7_start_14 rfl ?_
  refine r_iconst (v := 2) (n := 18) C dX7_start_17 rfl rfl ?_
  refine r_icmp_eqF (n := 21) (t := 31) C h2 dX7_start_18 (by decide) rfl ?_
  exact r_throw (k := 2) (is := 103) (tx := "neither opened nor paused") C hno (Or.inr rfl) (by decide) at_2 (mem_tb (mem_tbl 360 (by decide +kernel)) (by decide +kernel)) (mem_tb (mem_tbl 10 (by decide +kernel)) (by decide +kernel)) dX7_start_21 dX7_start_24 dX7_start_25 dX7_start_27 dX7_start_30 (by decide) (by decide) (by decide) rfl
set_option maxRecDepth 100000 in
set_option maxHeartbeats 1000000 in
theorem c_start_y5 {l : Launch} {G : GG} {b : Nat} (hst : l.stackTraces = false) (S : Sw) (a cl : Nat) (hk : sK S a = 7) (hcl : fR S 702 a = some cl) (hic : isC S cl 6) (j x : Nat) (hj : j < 6) (hx : aR S cl j = some x) (hkx : sK S x = 5) (h02 : fI S 2 x = 0 ∨ fI S 2 x = 2) : Cth l G b yX7_start cX7_start 3 none rmX7_start mV [.ref a, .int (nI j)] S (fun _ S' => S' = uI S 2 x 1) (fun _ => False) := by
  refine Cth.of2 pnX7 (own := RX7) rfl (Nat.le_of_ble_eq_true rfl) hst ?_
  intro p e s m args below meth c C hname hno
  change J p l e rmX7_start s m args below meth c 3 G b _ 0 [(0, .ref a), (1, .int (nI j))] [] S 0 0
  refine r_aload_n (i := 0) (n := 1) C dX7_start_0 rfl rfl rfl ?_
  refine r_iload_n (i := 1) (n := 2) C dX7_start_1 rfl rfl rfl ?_
  refine kX7_85 (n := 5) C (c_rc_y hst S a cl hk hcl hic j x hj hx) hk (by decide) (by decide) (Nat.le_of_ble_eq_true rfl) dX7_start_2 rfl (fun _ _ h9 => h9.elim) (fun r S1 hp => ?_)
  obtain ⟨hS9, hr9⟩ := hp
  subst S1
  subst r
  refine r_astore_n (i := 2) (n := 6) C dX7_start_5 rfl (by decide) rfl rfl ?_
  refine r_aload_n (i := 2) (n := 7) C dX7_start_6 rfl rfl rfl ?_
  refine gX7_100_5 (n := 10) C (by first | with_reducible assumption | (simp only [sK_uI, sK_uJ, sK_uR, sK_wI, sK_wR, sK_wD, sK_wJ, sK_wIs, aN_uI, aN_uJ, aN_uR, aN_wI, aN_wR, aN_wD, aN_wJ, aN_wIs, fR_uI, fR_uJ, fR_wI, fR_wR, fR_wD, fR_wJ, fR_wIs, isI_uI, isI_uJ, isI_wI, isI_wR, isI_wD, isI_wJ, isI_wIs, isC_uI, isC_uJ, isC_wI, isC_wR, isC_wD, isC_wJ, isC_wIs, isG_uI, isG_uJ, isG_wI, isG_wR, isG_wD, isG_wJ, isG_wIs, isZ_uI, isZ_uJ, isZ_wI, isZ_wR, isZ_wD, isZ_wJ, isZ_wIs, isD_uI, isD_uJ, isD_wI, isD_wR, isD_wD, isD_wJ, isD_wIs, isL_uI, isL_uJ, isL_wI, isL_wR, isL_wD, isL_wJ, isL_wIs]; with_reducible assumption)) dX7_start_7 rfl ?_
  refine r_if_eq (n := 13) (t := 31) C dX7_start_10 (by decide) rfl (fun h10 => ?_) (fun h10 => ?_)
  · refine r_aload_n (i := 2) (n := 32) C dX7_start_31 rfl rfl rfl ?_
    refine r_iconst (v := 1) (n := 33) C dX7_start_32 rfl rfl ?_
    refine sX7_100_5 (n := 36) C (by first | with_reducible assumption | (simp only [sK_uI, sK_uJ, sK_uR, sK_wI, sK_wR, sK_wD, sK_wJ, sK_wIs, aN_uI, aN_uJ, aN_uR, aN_wI, aN_wR, aN_wD, aN_wJ, aN_wIs, fR_uI, fR_uJ, fR_wI, fR_wR, fR_wD, fR_wJ, fR_wIs, isI_uI, isI_uJ, isI_wI, isI_wR, isI_wD, isI_wJ, isI_wIs, isC_uI, isC_uJ, isC_wI, isC_wR, isC_wD, isC_wJ, isC_wIs, isG_uI, isG_uJ, isG_wI, isG_wR, isG_wD, isG_wJ, isG_wIs, isZ_uI, isZ_uJ, isZ_wI, isZ_wR, isZ_wD, isZ_wJ, isZ_wIs, isD_uI, isD_uJ, isD_wI, isD_wR, isD_wD, isD_wJ, isD_wIs, isL_uI, isL_uJ, isL_wI, isL_wR, isL_wD, isL_wJ, isL_wIs]; with_reducible assumption)) dX7_start_33 rfl ?_
    refine t_v C dX7_start_36 (by decide) ?_
    rfl
  · refine r_aload_n (i := 2) (n := 14) C dX7_start_13 rfl rfl rfl ?_
    refine gX7_100_5 (n := 17) C (by first | with_reducible assumption | (simp only [sK_uI, sK_uJ, sK_uR, sK_wI, sK_wR, sK_wD, sK_wJ, sK_wIs, aN_uI, aN_uJ, aN_uR, aN_wI, aN_wR, aN_wD, aN_wJ, aN_wIs, fR_uI, fR_uJ, fR_wI, fR_wR, fR_wD, fR_wJ, fR_wIs, isI_uI, isI_uJ, isI_wI, isI_wR, isI_wD, isI_wJ, isI_wIs, isC_uI, isC_uJ, isC_wI, isC_wR, isC_wD, isC_wJ, isC_wIs, isG_uI, isG_uJ, isG_wI, isG_wR, isG_wD, isG_wJ, isG_wIs, isZ_uI, isZ_uJ, isZ_wI, isZ_wR, isZ_wD, isZ_wJ, isZ_wIs, isD_uI, isD_uJ, isD_wI, isD_wR, isD_wD, isD_wJ, isD_wIs, isL_uI, isL_uJ, isL_wI, isL_wR, isL_wD, isL_wJ, isL_wIs]; with_reducible assumption)) dX7_start_14 rfl ?_
    refine r_iconst (v := 2) (n := 18) C dX7_start_17 rfl rfl ?_
    refine r_icmp_eq (n := 21) (t := 31) C dX7_start_18 (by decide) rfl (fun h18 => ?_) (fun h18 => ?_)
    · refine r_aload_n (i := 2) (n := 32) C dX7_start_31 rfl rfl rfl ?_
      refine r_iconst (v := 1) (n := 33) C dX7_start_32 rfl rfl ?_
      refine sX7_100_5 (n := 36) C (by first | with_reducible assumption | (simp only [sK_uI, sK_uJ, sK_uR, sK_wI, sK_wR, sK_wD, sK_wJ, sK_wIs, aN_uI, aN_uJ, aN_uR, aN_wI, aN_wR, aN_wD, aN_wJ, aN_wIs, fR_uI, fR_uJ, fR_wI, fR_wR, fR_wD, fR_wJ, fR_wIs, isI_uI, isI_uJ, isI_wI, isI_wR, isI_wD, isI_wJ, isI_wIs, isC_uI, isC_uJ, isC_wI, isC_wR, isC_wD, isC_wJ, isC_wIs, isG_uI, isG_uJ, isG_wI, isG_wR, isG_wD, isG_wJ, isG_wIs, isZ_uI, isZ_uJ, isZ_wI, isZ_wR, isZ_wD, isZ_wJ, isZ_wIs, isD_uI, isD_uJ, isD_wI, isD_wR, isD_wD, isD_wJ, isD_wIs, isL_uI, isL_uJ, isL_wI, isL_wR, isL_wD, isL_wJ, isL_wIs]; with_reducible assumption)) dX7_start_33 rfl ?_
      refine t_v C dX7_start_36 (by decide) ?_
      rfl
    · exact absurd h02 (fun q => q.elim h10 h18)
set_option maxRecDepth 100000 in
set_option maxHeartbeats 1000000 in
theorem c_pause_b5 {l : Launch} {G : GG} {b : Nat} (hst : l.stackTraces = false) (S : Sw) (a cl : Nat) (hk : sK S a = 7) (hcl : fR S 702 a = some cl) (hic : isC S cl 6) (j x : Nat) (hj : j < 6) (hx : aR S cl j = some x) (hkx : sK S x = 5) (h1 : ¬ fI S 2 x = 1) : Cth l G b yX7_pause cX7_pause 3 none rmX7_pause mV [.ref a, .int (nI j)] S (fun _ _ => False) (fun k => k = 2) := by
  refine Cth.of2 pnX7 (own := RX7) rfl (Nat.le_of_ble_eq_true rfl) hst ?_
  intro p e s m args below meth c C hname hno
  change J p l e rmX7_pause s m args below meth c 3 G b _ 0 [(0, .ref a), (1, .int (nI j))] [] S 0 0
  refine r_aload_n (i := 0) (n := 1) C dX7_pause_0 rfl rfl rfl ?_
  refine r_iload_n (i := 1) (n := 2) C dX7_pause_1 rfl rfl rfl ?_
  refine kX7_85 (n := 5) C (c_rc_y hst S a cl hk hcl hic j x hj hx) hk (by decide) (by decide) (Nat.le_of_ble_eq_true rfl) dX7_pause_2 rfl (fun _ _ h9 => h9.elim) (fun r S1 hp => ?_)
  obtain ⟨hS9, hr9⟩ := hp
  subst S1
  subst r
  refine r_astore_n (i := 2) (n := 6) C dX7_pause_5 rfl (by decide) rfl rfl ?_
  refine r_aload_n (i := 2) (n := 7) C dX7_pause_6 rfl rfl rfl ?_
  refine kX7_105 (n := 10) C (c_rr_n5 hst S x hkx h1) (by decide) (by decide) (Nat.le_of_ble_eq_true rfl) dX7_pause_7 rfl (fun k9 hk9 hx9 => JX.out C hno hk9 (by decide) hx9) (fun r S1 hp => ?_)
  exact hp.elim
set_option maxRecDepth 100000 in
set_option maxHeartbeats 1000000 in
theorem c_pause_y5 {l : Launch} {G : GG} {b : Nat} (hst : l.stackTraces = false) (S : Sw) (a cl : Nat) (hk : sK S a = 7) (hcl : fR S 702 a = some cl) (hic : isC S cl 6) (j x : Nat) (hj : j < 6) (hx : aR S cl j = some x) (hkx : sK S x = 5) (h1 : fI S 2 x = 1) : Cth l G b yX7_pause cX7_pause 3 none rmX7_pause mV [.ref a, .int (nI j)] S (fun _ S' => S' = uI S 2 x 2) (fun _ => False) := by
  refine Cth.of2 pnX7 (own := RX7) rfl (Nat.le_of_ble_eq_true rfl) hst ?_
  intro p e s m args below meth c C hname hno
  change J p l e rmX7_pause s m args below meth c 3 G b _ 0 [(0, .ref a), (1, .int (nI j))] [] S 0 0
  refine r_aload_n (i := 0) (n := 1) C dX7_pause_0 rfl rfl rfl ?_
  refine r_iload_n (i := 1) (n := 2) C dX7_pause_1 rfl rfl rfl ?_
  refine kX7_85 (n := 5) C (c_rc_y hst S a cl hk hcl hic j x hj hx) hk (by decide) (by decide) (Nat.le_of_ble_eq_true rfl) dX7_pause_2 rfl (fun _ _ h9 => h9.elim) (fun r S1 hp => ?_)
  obtain ⟨hS9, hr9⟩ := hp
  subst S1
  subst r
  refine r_astore_n (i := 2) (n := 6) C dX7_pause_5 rfl (by decide) rfl rfl ?_
  refine r_aload_n (i := 2) (n := 7) C dX7_pause_6 rfl rfl rfl ?_
  refine kX7_105 (n := 10) C (c_rr_y5 hst S x hkx h1) (by decide) (by decide) (Nat.le_of_ble_eq_true rfl) dX7_pause_7 rfl (fun _ _ h9 => h9.elim) (fun r S1 hp => ?_)
  subst hp
  refine r_aload_n (i := 2) (n := 11) C dX7_pause_10 rfl rfl rfl ?_
  refine r_iconst (v := 2) (n := 12) C dX7_pause_11 rfl rfl ?_
  refine sX7_100_5 (n := 15) C (by first | with_reducible assumption | (simp only [sK_uI, sK_uJ, sK_uR, sK_wI, sK_wR, sK_wD, sK_wJ, sK_wIs, aN_uI, aN_uJ, aN_uR, aN_wI, aN_wR, aN_wD, aN_wJ, aN_wIs, fR_uI, fR_uJ, fR_wI, fR_wR, fR_wD, fR_wJ, fR_wIs, isI_uI, isI_uJ, isI_wI, isI_wR, isI_wD, isI_wJ, isI_wIs, isC_uI, isC_uJ, isC_wI, isC_wR, isC_wD, isC_wJ, isC_wIs, isG_uI, isG_uJ, isG_wI, isG_wR, isG_wD, isG_wJ, isG_wIs, isZ_uI, isZ_uJ, isZ_wI, isZ_wR, isZ_wD, isZ_wJ, isZ_wIs, isD_uI, isD_uJ, isD_wI, isD_wR, isD_wD, isD_wJ, isD_wIs, isL_uI, isL_uJ, isL_wI, isL_wR, isL_wD, isL_wJ, isL_wIs]; with_reducible assumption)) dX7_pause_12 rfl ?_
  refine t_v C dX7_pause_15 (by decide) ?_
  rfl
set_option maxRecDepth 100000 in
set_option maxHeartbeats 1000000 in
theorem c_state_y5 {l : Launch} {G : GG} {b : Nat} (hst : l.stackTraces = false) (S : Sw) (a cl : Nat) (hk : sK S a = 7) (hcl : fR S 702 a = some cl) (hic : isC S cl 6) (j x : Nat) (hj : j < 6) (hx : aR S cl j = some x) (hkx : sK S x = 5) : Cth l G b yX7_state cX7_state 2 (some .int) rmX7_state mI [.ref a, .int (nI j)] S (fun r S' => S' = S ∧ r = fI S 2 x) (fun _ => False) := by
  refine Cth.of2 pnX7 (own := RX7) rfl (Nat.le_of_ble_eq_true rfl) hst ?_
  intro p e s m args below meth c C hname hno
  change J p l e rmX7_state s m args below meth c 2 G b _ 0 [(0, .ref a), (1, .int (nI j))] [] S 0 0
  refine r_aload_n (i := 0) (n := 1) C dX7_state_0 rfl rfl rfl ?_
  refine r_iload_n (i := 1) (n := 2) C dX7_state_1 rfl rfl rfl ?_
  refine kX7_85 (n := 5) C (c_rc_y hst S a cl hk hcl hic j x hj hx) hk (by decide) (by decide) (Nat.le_of_ble_eq_true rfl) dX7_state_2 rfl (fun _ _ h9 => h9.elim) (fun r S1 hp => ?_)
  obtain ⟨hS9, hr9⟩ := hp
  subst S1
  subst r
  refine gX7_100_5 (n := 8) C (by first | with_reducible assumption | (simp only [sK_uI, sK_uJ, sK_uR, sK_wI, sK_wR, sK_wD, sK_wJ, sK_wIs, aN_uI, aN_uJ, aN_uR, aN_wI, aN_wR, aN_wD, aN_wJ, aN_wIs, fR_uI, fR_uJ, fR_wI, fR_wR, fR_wD, fR_wJ, fR_wIs, isI_uI, isI_uJ, isI_wI, isI_wR, isI_wD, isI_wJ, isI_wIs, isC_uI, isC_uJ, isC_wI, isC_wR, isC_wD, isC_wJ, isC_wIs, isG_uI, isG_uJ, isG_wI, isG_wR, isG_wD, isG_wJ, isG_wIs, isZ_uI, isZ_uJ, isZ_wI, isZ_wR, isZ_wD, isZ_wJ, isZ_wIs, isD_uI, isD_uJ, isD_wI, isD_wR, isD_wD, isD_wJ, isD_wIs, isL_uI, isL_uJ, isL_wI, isL_wR, isL_wD, isL_wJ, isL_wIs]; with_reducible assumption)) dX7_state_5 rfl ?_
  refine t_i C rfl dX7_state_8 (by decide) ?_
  exact ⟨rfl, rfl⟩
set_option maxRecDepth 100000 in
set_option maxHeartbeats 1000000 in
theorem c_late_y5 {l : Launch} {G : GG} {b : Nat} (hst : l.stackTraces = false) (S : Sw) (a cl : Nat) (hk : sK S a = 7) (hcl : fR S 702 a = some cl) (hic : isC S cl 6) (j x : Nat) (hj : j < 6) (hx : aR S cl j = some x) (hkx : sK S x = 5) : Cth l G b yX7_late cX7_late 2 (some .int) rmX7_late mI [.ref a, .int (nI j)] S (fun r S' => S' = S ∧ r = fI S 3 x) (fun _ => False) := by
  refine Cth.of2 pnX7 (own := RX7) rfl (Nat.le_of_ble_eq_true rfl) hst ?_
  intro p e s m args below meth c C hname hno
  change J p l e rmX7_late s m args below meth c 2 G b _ 0 [(0, .ref a), (1, .int (nI j))] [] S 0 0
  refine r_aload_n (i := 0) (n := 1) C dX7_late_0 rfl rfl rfl ?_
  refine r_iload_n (i := 1) (n := 2) C dX7_late_1 rfl rfl rfl ?_
  refine kX7_85 (n := 5) C (c_rc_y hst S a cl hk hcl hic j x hj hx) hk (by decide) (by decide) (Nat.le_of_ble_eq_true rfl) dX7_late_2 rfl (fun _ _ h9 => h9.elim) (fun r S1 hp => ?_)
  obtain ⟨hS9, hr9⟩ := hp
  subst S1
  subst r
  refine gX7_188_5 (n := 8) C (by first | with_reducible assumption | (simp only [sK_uI, sK_uJ, sK_uR, sK_wI, sK_wR, sK_wD, sK_wJ, sK_wIs, aN_uI, aN_uJ, aN_uR, aN_wI, aN_wR, aN_wD, aN_wJ, aN_wIs, fR_uI, fR_uJ, fR_wI, fR_wR, fR_wD, fR_wJ, fR_wIs, isI_uI, isI_uJ, isI_wI, isI_wR, isI_wD, isI_wJ, isI_wIs, isC_uI, isC_uJ, isC_wI, isC_wR, isC_wD, isC_wJ, isC_wIs, isG_uI, isG_uJ, isG_wI, isG_wR, isG_wD, isG_wJ, isG_wIs, isZ_uI, isZ_uJ, isZ_wI, isZ_wR, isZ_wD, isZ_wJ, isZ_wIs, isD_uI, isD_uJ, isD_wI, isD_wR, isD_wD, isD_wJ, isD_wIs, isL_uI, isL_uJ, isL_wI, isL_wR, isL_wD, isL_wJ, isL_wIs]; with_reducible assumption)) dX7_late_5 rfl ?_
  refine t_i C rfl dX7_late_8 (by decide) ?_
  exact ⟨rfl, rfl⟩
set_option maxRecDepth 100000 in
set_option maxHeartbeats 1000000 in
theorem c_start_n {l : Launch} {G : GG} {b : Nat} (hst : l.stackTraces = false) (S : Sw) (a cl : Nat) (hk : sK S a = 7) (hcl : fR S 702 a = some cl) (hic : isC S cl 6) (c0 : Int32) (hno_ : ∀ j, j < 6 → c0 = nI j → aR S cl j = none) : Cth l G b yX7_start cX7_start 3 none rmX7_start mV [.ref a, .int c0] S (fun _ _ => False) (fun k => k = 1) := by
  refine Cth.of2 pnX7 (own := RX7) rfl (Nat.le_of_ble_eq_true rfl) hst ?_
  intro p e s m args below meth c C hname hno
  change J p l e rmX7_start s m args below meth c 3 G b _ 0 [(0, .ref a), (1, .int c0)] [] S 0 0
  refine r_aload_n (i := 0) (n := 1) C dX7_start_0 rfl rfl rfl ?_
  refine r_iload_n (i := 1) (n := 2) C dX7_start_1 rfl rfl rfl ?_
  refine kX7_85 (n := 5) C (c_rc_n hst S a cl hk hcl hic c0 hno_) hk (by decide) (by decide) (Nat.le_of_ble_eq_true rfl) dX7_start_2 rfl (fun k9 hk9 hx9 => JX.out C hno hk9 (by decide) hx9) (fun r S1 hp => ?_)
  exact hp.elim
set_option maxRecDepth 100000 in
set_option maxHeartbeats 1000000 in
theorem c_pause_n {l : Launch} {G : GG} {b : Nat} (hst : l.stackTraces = false) (S : Sw) (a cl : Nat) (hk : sK S a = 7) (hcl : fR S 702 a = some cl) (hic : isC S cl 6) (c0 : Int32) (hno_ : ∀ j, j < 6 → c0 = nI j → aR S cl j = none) : Cth l G b yX7_pause cX7_pause 3 none rmX7_pause mV [.ref a, .int c0] S (fun _ _ => False) (fun k => k = 1) := by
  refine Cth.of2 pnX7 (own := RX7) rfl (Nat.le_of_ble_eq_true rfl) hst ?_
  intro p e s m args below meth c C hname hno
  change J p l e rmX7_pause s m args below meth c 3 G b _ 0 [(0, .ref a), (1, .int c0)] [] S 0 0
  refine r_aload_n (i := 0) (n := 1) C dX7_pause_0 rfl rfl rfl ?_
  refine r_iload_n (i := 1) (n := 2) C dX7_pause_1 rfl rfl rfl ?_
  refine kX7_85 (n := 5) C (c_rc_n hst S a cl hk hcl hic c0 hno_) hk (by decide) (by decide) (Nat.le_of_ble_eq_true rfl) dX7_pause_2 rfl (fun k9 hk9 hx9 => JX.out C hno hk9 (by decide) hx9) (fun r S1 hp => ?_)
  exact hp.elim
set_option maxRecDepth 100000 in
set_option maxHeartbeats 1000000 in
theorem c_state_n {l : Launch} {G : GG} {b : Nat} (hst : l.stackTraces = false) (S : Sw) (a cl : Nat) (hk : sK S a = 7) (hcl : fR S 702 a = some cl) (hic : isC S cl 6) (c0 : Int32) (hno_ : ∀ j, j < 6 → c0 = nI j → aR S cl j = none) : Cth l G b yX7_state cX7_state 2 (some .int) rmX7_state mI [.ref a, .int c0] S (fun _ _ => False) (fun k => k = 1) := by
  refine Cth.of2 pnX7 (own := RX7) rfl (Nat.le_of_ble_eq_true rfl) hst ?_
  intro p e s m args below meth c C hname hno
  change J p l e rmX7_state s m args below meth c 2 G b _ 0 [(0, .ref a), (1, .int c0)] [] S 0 0
  refine r_aload_n (i := 0) (n := 1) C dX7_state_0 rfl rfl rfl ?_
  refine r_iload_n (i := 1) (n := 2) C dX7_state_1 rfl rfl rfl ?_
  refine kX7_85 (n := 5) C (c_rc_n hst S a cl hk hcl hic c0 hno_) hk (by decide) (by decide) (Nat.le_of_ble_eq_true rfl) dX7_state_2 rfl (fun k9 hk9 hx9 => JX.out C hno hk9 (by decide) hx9) (fun r S1 hp => ?_)
  exact hp.elim
set_option maxRecDepth 100000 in
set_option maxHeartbeats 1000000 in
theorem c_late_n {l : Launch} {G : GG} {b : Nat} (hst : l.stackTraces = false) (S : Sw) (a cl : Nat) (hk : sK S a = 7) (hcl : fR S 702 a = some cl) (hic : isC S cl 6) (c0 : Int32) (hno_ : ∀ j, j < 6 → c0 = nI j → aR S cl j = none) : Cth l G b yX7_late cX7_late 2 (some .int) rmX7_late mI [.ref a, .int c0] S (fun _ _ => False) (fun k => k = 1) := by
  refine Cth.of2 pnX7 (own := RX7) rfl (Nat.le_of_ble_eq_true rfl) hst ?_
  intro p e s m args below meth c C hname hno
  change J p l e rmX7_late s m args below meth c 2 G b _ 0 [(0, .ref a), (1, .int c0)] [] S 0 0
  refine r_aload_n (i := 0) (n := 1) C dX7_late_0 rfl rfl rfl ?_
  refine r_iload_n (i := 1) (n := 2) C dX7_late_1 rfl rfl rfl ?_
  refine kX7_85 (n := 5) C (c_rc_n hst S a cl hk hcl hic c0 hno_) hk (by decide) (by decide) (Nat.le_of_ble_eq_true rfl) dX7_late_2 rfl (fun k9 hk9 hx9 => JX.out C hno hk9 (by decide) hx9) (fun r S1 hp => ?_)
  exact hp.elim
set_option maxRecDepth 100000 in
set_option maxHeartbeats 1000000 in
theorem c_room_n {l : Launch} {G : GG} {b : Nat} (hst : l.stackTraces = false) (S : Sw) (a cl : Nat) (hk : sK S a = 7) (hcl : fR S 702 a = some cl) (hic : isC S cl 6) (c0 : Int32) (hno_ : ∀ j, j < 6 → c0 = nI j → aR S cl j = none) : Cth l G b yX7_room cX7_room 2 (some .int) rmX7_room mI [.ref a, .int c0] S (fun _ _ => False) (fun k => k = 1) := by
  refine Cth.of2 pnX7 (own := RX7) rfl (Nat.le_of_ble_eq_true rfl) hst ?_
  intro p e s m args below meth c C hname hno
  change J p l e rmX7_room s m args below meth c 2 G b _ 0 [(0, .ref a), (1, .int c0)] [] S 0 0
  refine r_aload_n (i := 0) (n := 1) C dX7_room_0 rfl rfl rfl ?_
  refine r_iload_n (i := 1) (n := 2) C dX7_room_1 rfl rfl rfl ?_
  refine kX7_85 (n := 5) C (c_rc_n hst S a cl hk hcl hic c0 hno_) hk (by decide) (by decide) (Nat.le_of_ble_eq_true rfl) dX7_room_2 rfl (fun k9 hk9 hx9 => JX.out C hno hk9 (by decide) hx9) (fun r S1 hp => ?_)
  exact hp.elim
set_option maxRecDepth 100000 in
set_option maxHeartbeats 1000000 in
theorem c_position_n {l : Launch} {G : GG} {b : Nat} (hst : l.stackTraces = false) (S : Sw) (a cl : Nat) (hk : sK S a = 7) (hcl : fR S 702 a = some cl) (hic : isC S cl 6) (c0 : Int32) (hno_ : ∀ j, j < 6 → c0 = nI j → aR S cl j = none) : Cth l G b yX7_position cX7_position 2 (some .int) rmX7_position mI [.ref a, .int c0] S (fun _ _ => False) (fun k => k = 1) := by
  refine Cth.of2 pnX7 (own := RX7) rfl (Nat.le_of_ble_eq_true rfl) hst ?_
  intro p e s m args below meth c C hname hno
  change J p l e rmX7_position s m args below meth c 2 G b _ 0 [(0, .ref a), (1, .int c0)] [] S 0 0
  refine r_aload_n (i := 0) (n := 1) C dX7_position_0 rfl rfl rfl ?_
  refine r_iload_n (i := 1) (n := 2) C dX7_position_1 rfl rfl rfl ?_
  refine kX7_85 (n := 5) C (c_rc_n hst S a cl hk hcl hic c0 hno_) hk (by decide) (by decide) (Nat.le_of_ble_eq_true rfl) dX7_position_2 rfl (fun k9 hk9 hx9 => JX.out C hno hk9 (by decide) hx9) (fun r S1 hp => ?_)
  exact hp.elim
set_option maxRecDepth 100000 in
set_option maxHeartbeats 1000000 in
theorem c_drain_n {l : Launch} {G : GG} {b : Nat} (hst : l.stackTraces = false) (S : Sw) (a cl : Nat) (hk : sK S a = 7) (hcl : fR S 702 a = some cl) (hic : isC S cl 6) (c0 : Int32) (hno_ : ∀ j, j < 6 → c0 = nI j → aR S cl j = none) : Cth l G b yX7_drain cX7_drain 3 none rmX7_drain mV [.ref a, .int c0] S (fun _ _ => False) (fun k => k = 1) := by
  refine Cth.of2 pnX7 (own := RX7) rfl (Nat.le_of_ble_eq_true rfl) hst ?_
  intro p e s m args below meth c C hname hno
  change J p l e rmX7_drain s m args below meth c 3 G b _ 0 [(0, .ref a), (1, .int c0)] [] S 0 0
  refine r_aload_n (i := 0) (n := 1) C dX7_drain_0 rfl rfl rfl ?_
  refine r_iload_n (i := 1) (n := 2) C dX7_drain_1 rfl rfl rfl ?_
  refine kX7_89 (n := 5) C (c_rp_n hst S a cl hk hcl hic c0 hno_) hk (by decide) (by decide) (Nat.le_of_ble_eq_true rfl) dX7_drain_2 rfl (fun k9 hk9 hx9 => JX.out C hno hk9 (by decide) hx9) (fun r S1 hp => ?_)
  exact hp.elim
set_option maxRecDepth 100000 in
set_option maxHeartbeats 1000000 in
theorem c_drain_l {l : Launch} {G : GG} {b : Nat} (hst : l.stackTraces = false) (S : Sw) (a cl : Nat) (hk : sK S a = 7) (hcl : fR S 702 a = some cl) (hic : isC S cl 6) (j x : Nat) (hj : j < 6) (hx : aR S cl j = some x) (hkx : sK S x = 4) : Cth l G b yX7_drain cX7_drain 3 none rmX7_drain mV [.ref a, .int (nI j)] S (fun _ _ => False) (fun k => k = 1) := by
  refine Cth.of2 pnX7 (own := RX7) rfl (Nat.le_of_ble_eq_true rfl) hst ?_
  intro p e s m args below meth c C hname hno
  change J p l e rmX7_drain s m args below meth c 3 G b _ 0 [(0, .ref a), (1, .int (nI j))] [] S 0 0
  refine r_aload_n (i := 0) (n := 1) C dX7_drain_0 rfl rfl rfl ?_
  refine r_iload_n (i := 1) (n := 2) C dX7_drain_1 rfl rfl rfl ?_
  refine kX7_89 (n := 5) C (c_rp_k hst S a cl hk hcl hic j x hj hx hkx) hk (by decide) (by decide) (Nat.le_of_ble_eq_true rfl) dX7_drain_2 rfl (fun k9 hk9 hx9 => JX.out C hno hk9 (by decide) hx9) (fun r S1 hp => ?_)
  exact hp.elim
set_option maxRecDepth 100000 in
set_option maxHeartbeats 1000000 in
theorem c_ahead_n {l : Launch} {G : GG} {b : Nat} (hst : l.stackTraces = false) (S : Sw) (a cl : Nat) (hk : sK S a = 7) (hcl : fR S 702 a = some cl) (hic : isC S cl 6) (c0 : Int32) (hno_ : ∀ j, j < 6 → c0 = nI j → aR S cl j = none) : Cth l G b yX7_ahead cX7_ahead 2 (some .int) rmX7_ahead mI [.ref a, .int c0] S (fun _ _ => False) (fun k => k = 1) := by
  refine Cth.of2 pnX7 (own := RX7) rfl (Nat.le_of_ble_eq_true rfl) hst ?_
  intro p e s m args below meth c C hname hno
  change J p l e rmX7_ahead s m args below meth c 2 G b _ 0 [(0, .ref a), (1, .int c0)] [] S 0 0
  refine r_aload_n (i := 0) (n := 1) C dX7_ahead_0 rfl rfl rfl ?_
  refine r_iload_n (i := 1) (n := 2) C dX7_ahead_1 rfl rfl rfl ?_
  refine kX7_89 (n := 5) C (c_rp_n hst S a cl hk hcl hic c0 hno_) hk (by decide) (by decide) (Nat.le_of_ble_eq_true rfl) dX7_ahead_2 rfl (fun k9 hk9 hx9 => JX.out C hno hk9 (by decide) hx9) (fun r S1 hp => ?_)
  exact hp.elim
set_option maxRecDepth 100000 in
set_option maxHeartbeats 1000000 in
theorem c_ahead_l {l : Launch} {G : GG} {b : Nat} (hst : l.stackTraces = false) (S : Sw) (a cl : Nat) (hk : sK S a = 7) (hcl : fR S 702 a = some cl) (hic : isC S cl 6) (j x : Nat) (hj : j < 6) (hx : aR S cl j = some x) (hkx : sK S x = 4) : Cth l G b yX7_ahead cX7_ahead 2 (some .int) rmX7_ahead mI [.ref a, .int (nI j)] S (fun _ _ => False) (fun k => k = 1) := by
  refine Cth.of2 pnX7 (own := RX7) rfl (Nat.le_of_ble_eq_true rfl) hst ?_
  intro p e s m args below meth c C hname hno
  change J p l e rmX7_ahead s m args below meth c 2 G b _ 0 [(0, .ref a), (1, .int (nI j))] [] S 0 0
  refine r_aload_n (i := 0) (n := 1) C dX7_ahead_0 rfl rfl rfl ?_
  refine r_iload_n (i := 1) (n := 2) C dX7_ahead_1 rfl rfl rfl ?_
  refine kX7_89 (n := 5) C (c_rp_k hst S a cl hk hcl hic j x hj hx hkx) hk (by decide) (by decide) (Nat.le_of_ble_eq_true rfl) dX7_ahead_2 rfl (fun k9 hk9 hx9 => JX.out C hno hk9 (by decide) hx9) (fun r S1 hp => ?_)
  exact hp.elim
set_option maxRecDepth 100000 in
set_option maxHeartbeats 1000000 in
theorem c_level_n {l : Launch} {G : GG} {b : Nat} (hst : l.stackTraces = false) (S : Sw) (a cl : Nat) (hk : sK S a = 7) (hcl : fR S 702 a = some cl) (hic : isC S cl 6) (c0 : Int32) (hno_ : ∀ j, j < 6 → c0 = nI j → aR S cl j = none) : Cth l G b yX7_level cX7_level 2 (some .double) rmX7_level mD [.ref a, .int c0] S (fun _ _ => False) (fun k => k = 1) := by
  refine Cth.of2 pnX7 (own := RX7) rfl (Nat.le_of_ble_eq_true rfl) hst ?_
  intro p e s m args below meth c C hname hno
  change J p l e rmX7_level s m args below meth c 2 G b _ 0 [(0, .ref a), (1, .int c0)] [] S 0 0
  refine r_aload_n (i := 0) (n := 1) C dX7_level_0 rfl rfl rfl ?_
  refine r_iload_n (i := 1) (n := 2) C dX7_level_1 rfl rfl rfl ?_
  refine kX7_89 (n := 5) C (c_rp_n hst S a cl hk hcl hic c0 hno_) hk (by decide) (by decide) (Nat.le_of_ble_eq_true rfl) dX7_level_2 rfl (fun k9 hk9 hx9 => JX.out C hno hk9 (by decide) hx9) (fun r S1 hp => ?_)
  exact hp.elim
set_option maxRecDepth 100000 in
set_option maxHeartbeats 1000000 in
theorem c_level_l {l : Launch} {G : GG} {b : Nat} (hst : l.stackTraces = false) (S : Sw) (a cl : Nat) (hk : sK S a = 7) (hcl : fR S 702 a = some cl) (hic : isC S cl 6) (j x : Nat) (hj : j < 6) (hx : aR S cl j = some x) (hkx : sK S x = 4) : Cth l G b yX7_level cX7_level 2 (some .double) rmX7_level mD [.ref a, .int (nI j)] S (fun _ _ => False) (fun k => k = 1) := by
  refine Cth.of2 pnX7 (own := RX7) rfl (Nat.le_of_ble_eq_true rfl) hst ?_
  intro p e s m args below meth c C hname hno
  change J p l e rmX7_level s m args below meth c 2 G b _ 0 [(0, .ref a), (1, .int (nI j))] [] S 0 0
  refine r_aload_n (i := 0) (n := 1) C dX7_level_0 rfl rfl rfl ?_
  refine r_iload_n (i := 1) (n := 2) C dX7_level_1 rfl rfl rfl ?_
  refine kX7_89 (n := 5) C (c_rp_k hst S a cl hk hcl hic j x hj hx hkx) hk (by decide) (by decide) (Nat.le_of_ble_eq_true rfl) dX7_level_2 rfl (fun k9 hk9 hx9 => JX.out C hno hk9 (by decide) hx9) (fun r S1 hp => ?_)
  exact hp.elim
set_option maxRecDepth 100000 in
set_option maxHeartbeats 1000000 in
theorem c_drain_b {l : Launch} {G : GG} {b : Nat} (hst : l.stackTraces = false) (S : Sw) (a cl : Nat) (hk : sK S a = 7) (hcl : fR S 702 a = some cl) (hic : isC S cl 6) (j x : Nat) (hj : j < 6) (hx : aR S cl j = some x) (hkx : sK S x = 5) (h1 : ¬ fI S 2 x = 1) : Cth l G b yX7_drain cX7_drain 3 none rmX7_drain mV [.ref a, .int (nI j)] S (fun _ _ => False) (fun k => k = 2) := by
  refine Cth.of2 pnX7 (own := RX7) rfl (Nat.le_of_ble_eq_true rfl) hst ?_
  intro p e s m args below meth c C hname hno
  change J p l e rmX7_drain s m args below meth c 3 G b _ 0 [(0, .ref a), (1, .int (nI j))] [] S 0 0
  refine r_aload_n (i := 0) (n := 1) C dX7_drain_0 rfl rfl rfl ?_
  refine r_iload_n (i := 1) (n := 2) C dX7_drain_1 rfl rfl rfl ?_
  refine kX7_89 (n := 5) C (c_rp_y hst S a cl hk hcl hic j x hj hx hkx) hk (by decide) (by decide) (Nat.le_of_ble_eq_true rfl) dX7_drain_2 rfl (fun _ _ h9 => h9.elim) (fun r S1 hp => ?_)
  obtain ⟨hS9, hr9⟩ := hp
  subst S1
  subst r
  refine r_astore_n (i := 2) (n := 6) C dX7_drain_5 rfl (by decide) rfl rfl ?_
  refine r_aload_n (i := 2) (n := 7) C dX7_drain_6 rfl rfl rfl ?_
  refine kX7_105 (n := 10) C (c_rr_n5 hst S x hkx h1) (by decide) (by decide) (Nat.le_of_ble_eq_true rfl) dX7_drain_7 rfl (fun k9 hk9 hx9 => JX.out C hno hk9 (by decide) hx9) (fun r S1 hp => ?_)
  exact hp.elim
set_option maxRecDepth 100000 in
set_option maxHeartbeats 1000000 in
theorem c_drain_y {l : Launch} {G : GG} {b : Nat} (hst : l.stackTraces = false) (S : Sw) (a cl : Nat) (hk : sK S a = 7) (hcl : fR S 702 a = some cl) (hic : isC S cl 6) (j x : Nat) (hj : j < 6) (hx : aR S cl j = some x) (hkx : sK S x = 5) (h1 : fI S 2 x = 1) : Cth l G b yX7_drain cX7_drain 3 none rmX7_drain mV [.ref a, .int (nI j)] S (fun _ S' => S' = uI (uI S 2 x 3) 4 x 0) (fun _ => False) := by
  refine Cth.of2 pnX7 (own := RX7) rfl (Nat.le_of_ble_eq_true rfl) hst ?_
  intro p e s m args below meth c C hname hno
  change J p l e rmX7_drain s m args below meth c 3 G b _ 0 [(0, .ref a), (1, .int (nI j))] [] S 0 0
  refine r_aload_n (i := 0) (n := 1) C dX7_drain_0 rfl rfl rfl ?_
  refine r_iload_n (i := 1) (n := 2) C dX7_drain_1 rfl rfl rfl ?_
  refine kX7_89 (n := 5) C (c_rp_y hst S a cl hk hcl hic j x hj hx hkx) hk (by decide) (by decide) (Nat.le_of_ble_eq_true rfl) dX7_drain_2 rfl (fun _ _ h9 => h9.elim) (fun r S1 hp => ?_)
  obtain ⟨hS9, hr9⟩ := hp
  subst S1
  subst r
  refine r_astore_n (i := 2) (n := 6) C dX7_drain_5 rfl (by decide) rfl rfl ?_
  refine r_aload_n (i := 2) (n := 7) C dX7_drain_6 rfl rfl rfl ?_
  refine kX7_105 (n := 10) C (c_rr_y5 hst S x hkx h1) (by decide) (by decide) (Nat.le_of_ble_eq_true rfl) dX7_drain_7 rfl (fun _ _ h9 => h9.elim) (fun r S1 hp => ?_)
  subst hp
  refine r_aload_n (i := 2) (n := 11) C dX7_drain_10 rfl rfl rfl ?_
  refine r_iconst (v := 3) (n := 12) C dX7_drain_11 rfl rfl ?_
  refine sX7_109 (n := 15) C (by first | with_reducible assumption | (simp only [sK_uI, sK_uJ, sK_uR, sK_wI, sK_wR, sK_wD, sK_wJ, sK_wIs, aN_uI, aN_uJ, aN_uR, aN_wI, aN_wR, aN_wD, aN_wJ, aN_wIs, fR_uI, fR_uJ, fR_wI, fR_wR, fR_wD, fR_wJ, fR_wIs, isI_uI, isI_uJ, isI_wI, isI_wR, isI_wD, isI_wJ, isI_wIs, isC_uI, isC_uJ, isC_wI, isC_wR, isC_wD, isC_wJ, isC_wIs, isG_uI, isG_uJ, isG_wI, isG_wR, isG_wD, isG_wJ, isG_wIs, isZ_uI, isZ_uJ, isZ_wI, isZ_wR, isZ_wD, isZ_wJ, isZ_wIs, isD_uI, isD_uJ, isD_wI, isD_wR, isD_wD, isD_wJ, isD_wIs, isL_uI, isL_uJ, isL_wI, isL_wR, isL_wD, isL_wJ, isL_wIs]; with_reducible assumption)) dX7_drain_12 rfl ?_
  refine r_aload_n (i := 2) (n := 16) C dX7_drain_15 rfl rfl rfl ?_
  refine r_iconst (v := 0) (n := 17) C dX7_drain_16 rfl rfl ?_
  refine sX7_110 (n := 20) C (by first | with_reducible assumption | (simp only [sK_uI, sK_uJ, sK_uR, sK_wI, sK_wR, sK_wD, sK_wJ, sK_wIs, aN_uI, aN_uJ, aN_uR, aN_wI, aN_wR, aN_wD, aN_wJ, aN_wIs, fR_uI, fR_uJ, fR_wI, fR_wR, fR_wD, fR_wJ, fR_wIs, isI_uI, isI_uJ, isI_wI, isI_wR, isI_wD, isI_wJ, isI_wIs, isC_uI, isC_uJ, isC_wI, isC_wR, isC_wD, isC_wJ, isC_wIs, isG_uI, isG_uJ, isG_wI, isG_wR, isG_wD, isG_wJ, isG_wIs, isZ_uI, isZ_uJ, isZ_wI, isZ_wR, isZ_wD, isZ_wJ, isZ_wIs, isD_uI, isD_uJ, isD_wI, isD_wR, isD_wD, isD_wJ, isD_wIs, isL_uI, isL_uJ, isL_wI, isL_wR, isL_wD, isL_wJ, isL_wIs]; with_reducible assumption)) (by first | assumption | rfl) (by first | assumption | rfl) dX7_drain_17 rfl ?_
  refine t_v C dX7_drain_20 (by decide) ?_
  rfl
set_option maxRecDepth 100000 in
set_option maxHeartbeats 1000000 in
theorem c_room_y4 {l : Launch} {G : GG} {b : Nat} (hst : l.stackTraces = false) (S : Sw) (a cl : Nat) (hk : sK S a = 7) (hcl : fR S 702 a = some cl) (hic : isC S cl 6) (j x : Nat) (hj : j < 6) (hx : aR S cl j = some x) (hkx : sK S x = 4) (v : Int32) (hM : Ct l G b yX4_numbersNow cX4_numbersNow 1 (some .int) rmX4_numbersNow mI [.ref x] S (fun r S' => S' = S ∧ r = v)) : Cth l G b yX7_room cX7_room 2 (some .int) rmX7_room mI [.ref a, .int (nI j)] S (fun r S' => S' = S ∧ r = v) (fun _ => False) := by
  refine Cth.of2 pnX7 (own := RX7) rfl (Nat.le_of_ble_eq_true rfl) hst ?_
  intro p e s m args below meth c C hname hno
  change J p l e rmX7_room s m args below meth c 2 G b _ 0 [(0, .ref a), (1, .int (nI j))] [] S 0 0
  refine r_aload_n (i := 0) (n := 1) C dX7_room_0 rfl rfl rfl ?_
  refine r_iload_n (i := 1) (n := 2) C dX7_room_1 rfl rfl rfl ?_
  refine kX7_85 (n := 5) C (c_rc_y hst S a cl hk hcl hic j x hj hx) hk (by decide) (by decide) (Nat.le_of_ble_eq_true rfl) dX7_room_2 rfl (fun _ _ h9 => h9.elim) (fun r S1 hp => ?_)
  obtain ⟨hS9, hr9⟩ := hp
  subst S1
  subst r
  refine kX7_140_4 (n := 8) C (hM) hkx (by decide) (by decide) (Nat.le_of_ble_eq_true rfl) dX7_room_5 rfl (fun r S1 hp => ?_)
  obtain ⟨hS9, hr9⟩ := hp
  subst S1
  subst r
  refine t_i C rfl dX7_room_8 (by decide) ?_
  exact ⟨rfl, rfl⟩
set_option maxRecDepth 100000 in
set_option maxHeartbeats 1000000 in
theorem c_position_y4 {l : Launch} {G : GG} {b : Nat} (hst : l.stackTraces = false) (S : Sw) (a cl : Nat) (hk : sK S a = 7) (hcl : fR S 702 a = some cl) (hic : isC S cl 6) (j x : Nat) (hj : j < 6) (hx : aR S cl j = some x) (hkx : sK S x = 4) (v : Int64) (hM : Ct l G b yX4_place cX4_place 1 (some .long) rmX4_place mJ [.ref x] S (fun r S' => S' = S ∧ r = v)) : Cth l G b yX7_position cX7_position 2 (some .int) rmX7_position mI [.ref a, .int (nI j)] S (fun r S' => S' = S ∧ r = v.toInt32) (fun _ => False) := by
  refine Cth.of2 pnX7 (own := RX7) rfl (Nat.le_of_ble_eq_true rfl) hst ?_
  intro p e s m args below meth c C hname hno
  change J p l e rmX7_position s m args below meth c 2 G b _ 0 [(0, .ref a), (1, .int (nI j))] [] S 0 0
  refine r_aload_n (i := 0) (n := 1) C dX7_position_0 rfl rfl rfl ?_
  refine r_iload_n (i := 1) (n := 2) C dX7_position_1 rfl rfl rfl ?_
  refine kX7_85 (n := 5) C (c_rc_y hst S a cl hk hcl hic j x hj hx) hk (by decide) (by decide) (Nat.le_of_ble_eq_true rfl) dX7_position_2 rfl (fun _ _ h9 => h9.elim) (fun r S1 hp => ?_)
  obtain ⟨hS9, hr9⟩ := hp
  subst S1
  subst r
  refine kX7_184_4 (n := 8) C (hM) hkx (by decide) (by decide) (Nat.le_of_ble_eq_true rfl) dX7_position_5 rfl (fun r S1 hp => ?_)
  obtain ⟨hS9, hr9⟩ := hp
  subst S1
  subst r
  refine r_l2i (n := 9) C dX7_position_8 rfl ?_
  refine t_i C rfl dX7_position_9 (by decide) ?_
  exact ⟨rfl, rfl⟩
set_option maxRecDepth 100000 in
set_option maxHeartbeats 1000000 in
theorem c_room_y5 {l : Launch} {G : GG} {b : Nat} (hst : l.stackTraces = false) (S : Sw) (a cl : Nat) (hk : sK S a = 7) (hcl : fR S 702 a = some cl) (hic : isC S cl 6) (j x : Nat) (hj : j < 6) (hx : aR S cl j = some x) (hkx : sK S x = 5) (v : Int32) (hM : Ct l G b yX5_numbersNow cX5_numbersNow 1 (some .int) rmX5_numbersNow mI [.ref x] S (fun r S' => S' = S ∧ r = v)) : Cth l G b yX7_room cX7_room 2 (some .int) rmX7_room mI [.ref a, .int (nI j)] S (fun r S' => S' = S ∧ r = v) (fun _ => False) := by
  refine Cth.of2 pnX7 (own := RX7) rfl (Nat.le_of_ble_eq_true rfl) hst ?_
  intro p e s m args below meth c C hname hno
  change J p l e rmX7_room s m args below meth c 2 G b _ 0 [(0, .ref a), (1, .int (nI j))] [] S 0 0
  refine r_aload_n (i := 0) (n := 1) C dX7_room_0 rfl rfl rfl ?_
  refine r_iload_n (i := 1) (n := 2) C dX7_room_1 rfl rfl rfl ?_
  refine kX7_85 (n := 5) C (c_rc_y hst S a cl hk hcl hic j x hj hx) hk (by decide) (by decide) (Nat.le_of_ble_eq_true rfl) dX7_room_2 rfl (fun _ _ h9 => h9.elim) (fun r S1 hp => ?_)
  obtain ⟨hS9, hr9⟩ := hp
  subst S1
  subst r
  refine kX7_140_5 (n := 8) C (hM) hkx (by decide) (by decide) (Nat.le_of_ble_eq_true rfl) dX7_room_5 rfl (fun r S1 hp => ?_)
  obtain ⟨hS9, hr9⟩ := hp
  subst S1
  subst r
  refine t_i C rfl dX7_room_8 (by decide) ?_
  exact ⟨rfl, rfl⟩
set_option maxRecDepth 100000 in
set_option maxHeartbeats 1000000 in
theorem c_position_y5 {l : Launch} {G : GG} {b : Nat} (hst : l.stackTraces = false) (S : Sw) (a cl : Nat) (hk : sK S a = 7) (hcl : fR S 702 a = some cl) (hic : isC S cl 6) (j x : Nat) (hj : j < 6) (hx : aR S cl j = some x) (hkx : sK S x = 5) (v : Int64) (hM : Ct l G b yX5_place cX5_place 1 (some .long) rmX5_place mJ [.ref x] S (fun r S' => S' = S ∧ r = v)) : Cth l G b yX7_position cX7_position 2 (some .int) rmX7_position mI [.ref a, .int (nI j)] S (fun r S' => S' = S ∧ r = v.toInt32) (fun _ => False) := by
  refine Cth.of2 pnX7 (own := RX7) rfl (Nat.le_of_ble_eq_true rfl) hst ?_
  intro p e s m args below meth c C hname hno
  change J p l e rmX7_position s m args below meth c 2 G b _ 0 [(0, .ref a), (1, .int (nI j))] [] S 0 0
  refine r_aload_n (i := 0) (n := 1) C dX7_position_0 rfl rfl rfl ?_
  refine r_iload_n (i := 1) (n := 2) C dX7_position_1 rfl rfl rfl ?_
  refine kX7_85 (n := 5) C (c_rc_y hst S a cl hk hcl hic j x hj hx) hk (by decide) (by decide) (Nat.le_of_ble_eq_true rfl) dX7_position_2 rfl (fun _ _ h9 => h9.elim) (fun r S1 hp => ?_)
  obtain ⟨hS9, hr9⟩ := hp
  subst S1
  subst r
  refine kX7_184_5 (n := 8) C (hM) hkx (by decide) (by decide) (Nat.le_of_ble_eq_true rfl) dX7_position_5 rfl (fun r S1 hp => ?_)
  obtain ⟨hS9, hr9⟩ := hp
  subst S1
  subst r
  refine r_l2i (n := 9) C dX7_position_8 rfl ?_
  refine t_i C rfl dX7_position_9 (by decide) ?_
  exact ⟨rfl, rfl⟩
set_option maxRecDepth 100000 in
set_option maxHeartbeats 1000000 in
theorem c_ahead_y {l : Launch} {G : GG} {b : Nat} (hst : l.stackTraces = false) (S : Sw) (a cl : Nat) (hk : sK S a = 7) (hcl : fR S 702 a = some cl) (hic : isC S cl 6) (j x : Nat) (hj : j < 6) (hx : aR S cl j = some x) (hkx : sK S x = 5) (v : Int32) (hM : Ct l G b yX5_periodsWritten cX5_periodsWritten 2 (some .int) rmX5_periodsWritten mI [.ref x] S (fun r S' => S' = S ∧ r = v)) : Cth l G b yX7_ahead cX7_ahead 2 (some .int) rmX7_ahead mI [.ref a, .int (nI j)] S (fun r S' => S' = S ∧ r = v) (fun _ => False) := by
  refine Cth.of2 pnX7 (own := RX7) rfl (Nat.le_of_ble_eq_true rfl) hst ?_
  intro p e s m args below meth c C hname hno
  change J p l e rmX7_ahead s m args below meth c 2 G b _ 0 [(0, .ref a), (1, .int (nI j))] [] S 0 0
  refine r_aload_n (i := 0) (n := 1) C dX7_ahead_0 rfl rfl rfl ?_
  refine r_iload_n (i := 1) (n := 2) C dX7_ahead_1 rfl rfl rfl ?_
  refine kX7_89 (n := 5) C (c_rp_y hst S a cl hk hcl hic j x hj hx hkx) hk (by decide) (by decide) (Nat.le_of_ble_eq_true rfl) dX7_ahead_2 rfl (fun _ _ h9 => h9.elim) (fun r S1 hp => ?_)
  obtain ⟨hS9, hr9⟩ := hp
  subst S1
  subst r
  refine kX7_141 (n := 8) C (hM) hkx (by decide) (by decide) (Nat.le_of_ble_eq_true rfl) dX7_ahead_5 rfl (fun r S1 hp => ?_)
  obtain ⟨hS9, hr9⟩ := hp
  subst S1
  subst r
  refine t_i C rfl dX7_ahead_8 (by decide) ?_
  exact ⟨rfl, rfl⟩
set_option maxRecDepth 100000 in
set_option maxHeartbeats 1000000 in
theorem c_level_y {l : Launch} {G : GG} {b : Nat} (hst : l.stackTraces = false) (S : Sw) (a cl : Nat) (hk : sK S a = 7) (hcl : fR S 702 a = some cl) (hic : isC S cl 6) (j x : Nat) (hj : j < 6) (hx : aR S cl j = some x) (hkx : sK S x = 5) (hnn : vf_n64 (FP.ddiv (FP.l2d (fJ S 514 x)) 4631952216750555136)) : Cth l G b yX7_level cX7_level 2 (some .double) rmX7_level mD [.ref a, .int (nI j)] S (fun r S' => S' = S ∧ r = FP.ddiv (FP.l2d (fJ S 514 x)) 4631952216750555136) (fun _ => False) := by
  refine Cth.of2 pnX7 (own := RX7) rfl (Nat.le_of_ble_eq_true rfl) hst ?_
  intro p e s m args below meth c C hname hno
  change J p l e rmX7_level s m args below meth c 2 G b _ 0 [(0, .ref a), (1, .int (nI j))] [] S 0 0
  refine r_aload_n (i := 0) (n := 1) C dX7_level_0 rfl rfl rfl ?_
  refine r_iload_n (i := 1) (n := 2) C dX7_level_1 rfl rfl rfl ?_
  refine kX7_89 (n := 5) C (c_rp_y hst S a cl hk hcl hic j x hj hx hkx) hk (by decide) (by decide) (Nat.le_of_ble_eq_true rfl) dX7_level_2 rfl (fun _ _ h9 => h9.elim) (fun r S1 hp => ?_)
  obtain ⟨hS9, hr9⟩ := hp
  subst S1
  subst r
  refine gX7_191 (n := 8) C (by first | with_reducible assumption | (simp only [sK_uI, sK_uJ, sK_uR, sK_wI, sK_wR, sK_wD, sK_wJ, sK_wIs, aN_uI, aN_uJ, aN_uR, aN_wI, aN_wR, aN_wD, aN_wJ, aN_wIs, fR_uI, fR_uJ, fR_wI, fR_wR, fR_wD, fR_wJ, fR_wIs, isI_uI, isI_uJ, isI_wI, isI_wR, isI_wD, isI_wJ, isI_wIs, isC_uI, isC_uJ, isC_wI, isC_wR, isC_wD, isC_wJ, isC_wIs, isG_uI, isG_uJ, isG_wI, isG_wR, isG_wD, isG_wJ, isG_wIs, isZ_uI, isZ_uJ, isZ_wI, isZ_wR, isZ_wD, isZ_wJ, isZ_wIs, isD_uI, isD_uJ, isD_wI, isD_wR, isD_wD, isD_wJ, isD_wIs, isL_uI, isL_uJ, isL_wI, isL_wR, isL_wD, isL_wJ, isL_wIs]; with_reducible assumption)) dX7_level_5 rfl ?_
  refine r_l2d (n := 9) C dX7_level_8 rfl ?_
  refine r_ldc2d (n := 12) (v := 4631952216750555136) C (mem_tb (mem_tbl 730 (by decide +kernel)) (by decide +kernel)) dX7_level_9 rfl ?_
  refine r_ddiv (n := 13) C dX7_level_12 (by assumption) rfl ?_
  refine t_d C dX7_level_13 (by decide) ?_
  exact ⟨rfl, rfl⟩
set_option maxRecDepth 100000 in
set_option maxHeartbeats 1000000 in
theorem c_write_n {l : Launch} {G : GG} {b : Nat} (hst : l.stackTraces = false) (S : Sw) (a cl : Nat) (hk : sK S a = 7) (hcl : fR S 702 a = some cl) (hic : isC S cl 6) (c0 : Int32) (hno_ : ∀ j, j < 6 → c0 = nI j → aR S cl j = none) (v : Int32) : Cth l G b yX7_write cX7_write 4 (some .boolean) rmX7_write mI [.ref a, .int c0, .int v] S (fun _ _ => False) (fun k => k = 1) := by
  refine Cth.of2 pnX7 (own := RX7) rfl (Nat.le_of_ble_eq_true rfl) hst ?_
  intro p e s m args below meth c C hname hno
  change J p l e rmX7_write s m args below meth c 4 G b _ 0 [(0, .ref a), (1, .int c0), (2, .int v)] [] S 0 0
  refine r_aload_n (i := 0) (n := 1) C dX7_write_0 rfl rfl rfl ?_
  refine r_iload_n (i := 1) (n := 2) C dX7_write_1 rfl rfl rfl ?_
  refine kX7_89 (n := 5) C (c_rp_n hst S a cl hk hcl hic c0 hno_) hk (by decide) (by decide) (Nat.le_of_ble_eq_true rfl) dX7_write_2 rfl (fun k9 hk9 hx9 => JX.out C hno hk9 (by decide) hx9) (fun r S1 hp => ?_)
  exact hp.elim
set_option maxRecDepth 100000 in
set_option maxHeartbeats 1000000 in
theorem c_write_l {l : Launch} {G : GG} {b : Nat} (hst : l.stackTraces = false) (S : Sw) (a cl : Nat) (hk : sK S a = 7) (hcl : fR S 702 a = some cl) (hic : isC S cl 6) (j x : Nat) (hj : j < 6) (hx : aR S cl j = some x) (hkx : sK S x = 4) (v : Int32) : Cth l G b yX7_write cX7_write 4 (some .boolean) rmX7_write mI [.ref a, .int (nI j), .int v] S (fun _ _ => False) (fun k => k = 1) := by
  refine Cth.of2 pnX7 (own := RX7) rfl (Nat.le_of_ble_eq_true rfl) hst ?_
  intro p e s m args below meth c C hname hno
  change J p l e rmX7_write s m args below meth c 4 G b _ 0 [(0, .ref a), (1, .int (nI j)), (2, .int v)] [] S 0 0
  refine r_aload_n (i := 0) (n := 1) C dX7_write_0 rfl rfl rfl ?_
  refine r_iload_n (i := 1) (n := 2) C dX7_write_1 rfl rfl rfl ?_
  refine kX7_89 (n := 5) C (c_rp_k hst S a cl hk hcl hic j x hj hx hkx) hk (by decide) (by decide) (Nat.le_of_ble_eq_true rfl) dX7_write_2 rfl (fun k9 hk9 hx9 => JX.out C hno hk9 (by decide) hx9) (fun r S1 hp => ?_)
  exact hp.elim
set_option maxRecDepth 100000 in
set_option maxHeartbeats 1000000 in
theorem c_write_k {l : Launch} {G : GG} {b : Nat} (hst : l.stackTraces = false) (S : Sw) (a cl : Nat) (hk : sK S a = 7) (hcl : fR S 702 a = some cl) (hic : isC S cl 6) (j x : Nat) (hj : j < 6) (hx : aR S cl j = some x) (hkx : sK S x = 5) (v : Int32) (hnum : (if fI S 1 x = 8 then (if 0 ≤ v ∧ v ≤ 255 then (1 : Int32) else 0) else (if (-32768) ≤ v ∧ v ≤ 32767 then 1 else 0)) = 0) : Cth l G b yX7_write cX7_write 4 (some .boolean) rmX7_write mI [.ref a, .int (nI j), .int v] S (fun _ _ => False) (fun k => k = 1) := by
  refine Cth.of2 pnX7 (own := RX7) rfl (Nat.le_of_ble_eq_true rfl) hst ?_
  intro p e s m args below meth c C hname hno
  change J p l e rmX7_write s m args below meth c 4 G b _ 0 [(0, .ref a), (1, .int (nI j)), (2, .int v)] [] S 0 0
  refine r_aload_n (i := 0) (n := 1) C dX7_write_0 rfl rfl rfl ?_
  refine r_iload_n (i := 1) (n := 2) C dX7_write_1 rfl rfl rfl ?_
  refine kX7_89 (n := 5) C (c_rp_y hst S a cl hk hcl hic j x hj hx hkx) hk (by decide) (by decide) (Nat.le_of_ble_eq_true rfl) dX7_write_2 rfl (fun _ _ h9 => h9.elim) (fun r S1 hp => ?_)
  obtain ⟨hS9, hr9⟩ := hp
  subst S1
  subst r
  refine r_astore_n (i := 3) (n := 6) C dX7_write_5 rfl (by decide) rfl rfl ?_
  refine r_aload_n (i := 3) (n := 7) C dX7_write_6 rfl rfl rfl ?_
  refine r_iload_n (i := 2) (n := 8) C dX7_write_7 rfl rfl rfl ?_
  refine kX7_114 (n := 11) C (c_isNumber hst S x hkx v) hkx (by decide) (by decide) (Nat.le_of_ble_eq_true rfl) dX7_write_8 rfl (fun r S1 hp => ?_)
  obtain ⟨hS9, hr9⟩ := hp
  subst S1
  subst r
  refine r_if_neF (n := 14) (t := 24) C hnum dX7_write_11 (by decide) rfl ?_
  exact r_throw (k := 1) (is := 117) (tx := "no number of its bits") C hno (Or.inl rfl) (by decide) at_1 (mem_tb (mem_tbl 289 (by decide +kernel)) (by decide +kernel)) (mem_tb (mem_tbl 9 (by decide +kernel)) (by decide +kernel)) dX7_write_14 dX7_write_17 dX7_write_18 dX7_write_20 dX7_write_23 (by decide) (by decide) (by decide) rfl
set_option maxRecDepth 100000 in
set_option maxHeartbeats 1000000 in
theorem c_write_e {l : Launch} {G : GG} {b : Nat} (hst : l.stackTraces = false) (S : Sw) (a cl : Nat) (hk : sK S a = 7) (hcl : fR S 702 a = some cl) (hic : isC S cl 6) (j x : Nat) (hj : j < 6) (hx : aR S cl j = some x) (hkx : sK S x = 5) (v : Int32) (hnum : ¬ (if fI S 1 x = 8 then (if 0 ≤ v ∧ v ≤ 255 then (1 : Int32) else 0) else (if (-32768) ≤ v ∧ v ≤ 32767 then 1 else 0)) = 0) (he : fI S 2 x = 3 ∨ fI S 2 x = 4) : Cth l G b yX7_write cX7_write 4 (some .boolean) rmX7_write mI [.ref a, .int (nI j), .int v] S (fun _ _ => False) (fun k => k = 2) := by
  refine Cth.of2 pnX7 (own := RX7) rfl (Nat.le_of_ble_eq_true rfl) hst ?_
  intro p e s m args below meth c C hname hno
  change J p l e rmX7_write s m args below meth c 4 G b _ 0 [(0, .ref a), (1, .int (nI j)), (2, .int v)] [] S 0 0
  refine r_aload_n (i := 0) (n := 1) C dX7_write_0 rfl rfl rfl ?_
  refine r_iload_n (i := 1) (n := 2) C dX7_write_1 rfl rfl rfl ?_
  refine kX7_89 (n := 5) C (c_rp_y hst S a cl hk hcl hic j x hj hx hkx) hk (by decide) (by decide) (Nat.le_of_ble_eq_true rfl) dX7_write_2 rfl (fun _ _ h9 => h9.elim) (fun r S1 hp => ?_)
  obtain ⟨hS9, hr9⟩ := hp
  subst S1
  subst r
  refine r_astore_n (i := 3) (n := 6) C dX7_write_5 rfl (by decide) rfl rfl ?_
  refine r_aload_n (i := 3) (n := 7) C dX7_write_6 rfl rfl rfl ?_
  refine r_iload_n (i := 2) (n := 8) C dX7_write_7 rfl rfl rfl ?_
  refine kX7_114 (n := 11) C (c_isNumber hst S x hkx v) hkx (by decide) (by decide) (Nat.le_of_ble_eq_true rfl) dX7_write_8 rfl (fun r S1 hp => ?_)
  obtain ⟨hS9, hr9⟩ := hp
  subst S1
  subst r
  refine r_if_neT (t := 24) C hnum dX7_write_11 (by decide) ?_
  refine r_aload_n (i := 3) (n := 25) C dX7_write_24 rfl rfl rfl ?_
  refine kX7_119 (n := 28) C (c_isEnding hst S x hkx) hkx (by decide) (by decide) (Nat.le_of_ble_eq_true rfl) dX7_write_25 rfl (fun r S1 hp => ?_)
  obtain ⟨hS9, hr9⟩ := hp
  subst S1
  subst r
  rw [if_pos he]
  refine r_if_eqF (n := 31) (t := 41) C (by decide) dX7_write_28 (by decide) rfl ?_
  exact r_throw (k := 2) (is := 123) (tx := "draining or stopped") C hno (Or.inr rfl) (by decide) at_2 (mem_tb (mem_tbl 360 (by decide +kernel)) (by decide +kernel)) (mem_tb (mem_tbl 10 (by decide +kernel)) (by decide +kernel)) dX7_write_31 dX7_write_34 dX7_write_35 dX7_write_37 dX7_write_40 (by decide) (by decide) (by decide) rfl
set_option maxRecDepth 100000 in
set_option maxHeartbeats 1000000 in
theorem c_write_y {l : Launch} {G : GG} {b : Nat} (hst : l.stackTraces = false) (S : Sw) (a cl : Nat) (hk : sK S a = 7) (hcl : fR S 702 a = some cl) (hic : isC S cl 6) (j x : Nat) (hj : j < 6) (hx : aR S cl j = some x) (hkx : sK S x = 5) (v : Int32) (hnum : ¬ (if fI S 1 x = 8 then (if 0 ≤ v ∧ v ≤ 255 then (1 : Int32) else 0) else (if (-32768) ≤ v ∧ v ≤ 32767 then 1 else 0)) = 0) (he : ¬ (fI S 2 x = 3 ∨ fI S 2 x = 4)) (T : Sw) (rv : Int32) (hrv : narrow .boolean (.int rv) = .int rv) (hM : Ct l G b yX5_accept cX5_accept 3 (some .boolean) rmX5_accept mI [.ref x, .int v] S (fun r S' => S' = T ∧ r = rv)) : Cth l G b yX7_write cX7_write 4 (some .boolean) rmX7_write mI [.ref a, .int (nI j), .int v] S (fun r S' => S' = T ∧ r = rv) (fun _ => False) := by
  refine Cth.of2 pnX7 (own := RX7) rfl (Nat.le_of_ble_eq_true rfl) hst ?_
  intro p e s m args below meth c C hname hno
  change J p l e rmX7_write s m args below meth c 4 G b _ 0 [(0, .ref a), (1, .int (nI j)), (2, .int v)] [] S 0 0
  refine r_aload_n (i := 0) (n := 1) C dX7_write_0 rfl rfl rfl ?_
  refine r_iload_n (i := 1) (n := 2) C dX7_write_1 rfl rfl rfl ?_
  refine kX7_89 (n := 5) C (c_rp_y hst S a cl hk hcl hic j x hj hx hkx) hk (by decide) (by decide) (Nat.le_of_ble_eq_true rfl) dX7_write_2 rfl (fun _ _ h9 => h9.elim) (fun r S1 hp => ?_)
  obtain ⟨hS9, hr9⟩ := hp
  subst S1
  subst r
  refine r_astore_n (i := 3) (n := 6) C dX7_write_5 rfl (by decide) rfl rfl ?_
  refine r_aload_n (i := 3) (n := 7) C dX7_write_6 rfl rfl rfl ?_
  refine r_iload_n (i := 2) (n := 8) C dX7_write_7 rfl rfl rfl ?_
  refine kX7_114 (n := 11) C (c_isNumber hst S x hkx v) hkx (by decide) (by decide) (Nat.le_of_ble_eq_true rfl) dX7_write_8 rfl (fun r S1 hp => ?_)
  obtain ⟨hS9, hr9⟩ := hp
  subst S1
  subst r
  refine r_if_neT (t := 24) C hnum dX7_write_11 (by decide) ?_
  refine r_aload_n (i := 3) (n := 25) C dX7_write_24 rfl rfl rfl ?_
  refine kX7_119 (n := 28) C (c_isEnding hst S x hkx) hkx (by decide) (by decide) (Nat.le_of_ble_eq_true rfl) dX7_write_25 rfl (fun r S1 hp => ?_)
  obtain ⟨hS9, hr9⟩ := hp
  subst S1
  subst r
  rw [if_neg he]
  refine r_if_eqT (t := 41) C rfl dX7_write_28 (by decide) ?_
  refine r_aload_n (i := 3) (n := 42) C dX7_write_41 rfl rfl rfl ?_
  refine r_iload_n (i := 2) (n := 43) C dX7_write_42 rfl rfl rfl ?_
  refine kX7_125 (n := 46) C (hM) hkx (by decide) (by decide) (Nat.le_of_ble_eq_true rfl) dX7_write_43 rfl (fun r S1 hp => ?_)
  obtain ⟨hS9, hr9⟩ := hp
  subst S1
  subst r
  refine t_i C hrv dX7_write_46 (by decide) ?_
  exact ⟨rfl, rfl⟩
set_option maxRecDepth 100000 in
set_option maxHeartbeats 1000000 in
theorem c_read_n {l : Launch} {G : GG} {b : Nat} (hst : l.stackTraces = false) (S : Sw) (a cl : Nat) (hk : sK S a = 7) (hcl : fR S 702 a = some cl) (hic : isC S cl 6) (c0 : Int32) (hno_ : ∀ j, j < 6 → c0 = nI j → aR S cl j = none) : Cth l G b yX7_read cX7_read 3 (some .int) rmX7_read mI [.ref a, .int c0] S (fun _ _ => False) (fun k => k = 1) := by
  refine Cth.of2 pnX7 (own := RX7) rfl (Nat.le_of_ble_eq_true rfl) hst ?_
  intro p e s m args below meth c C hname hno
  change J p l e rmX7_read s m args below meth c 3 G b _ 0 [(0, .ref a), (1, .int c0)] [] S 0 0
  refine r_aload_n (i := 0) (n := 1) C dX7_read_0 rfl rfl rfl ?_
  refine r_iload_n (i := 1) (n := 2) C dX7_read_1 rfl rfl rfl ?_
  refine kX7_128 (n := 5) C (c_rl_n hst S a cl hk hcl hic c0 hno_) hk (by decide) (by decide) (Nat.le_of_ble_eq_true rfl) dX7_read_2 rfl (fun k9 hk9 hx9 => JX.out C hno hk9 (by decide) hx9) (fun r S1 hp => ?_)
  exact hp.elim
set_option maxRecDepth 100000 in
set_option maxHeartbeats 1000000 in
theorem c_read_p {l : Launch} {G : GG} {b : Nat} (hst : l.stackTraces = false) (S : Sw) (a cl : Nat) (hk : sK S a = 7) (hcl : fR S 702 a = some cl) (hic : isC S cl 6) (j x : Nat) (hj : j < 6) (hx : aR S cl j = some x) (hkx : sK S x = 5) : Cth l G b yX7_read cX7_read 3 (some .int) rmX7_read mI [.ref a, .int (nI j)] S (fun _ _ => False) (fun k => k = 1) := by
  refine Cth.of2 pnX7 (own := RX7) rfl (Nat.le_of_ble_eq_true rfl) hst ?_
  intro p e s m args below meth c C hname hno
  change J p l e rmX7_read s m args below meth c 3 G b _ 0 [(0, .ref a), (1, .int (nI j))] [] S 0 0
  refine r_aload_n (i := 0) (n := 1) C dX7_read_0 rfl rfl rfl ?_
  refine r_iload_n (i := 1) (n := 2) C dX7_read_1 rfl rfl rfl ?_
  refine kX7_128 (n := 5) C (c_rl_k hst S a cl hk hcl hic j x hj hx hkx) hk (by decide) (by decide) (Nat.le_of_ble_eq_true rfl) dX7_read_2 rfl (fun k9 hk9 hx9 => JX.out C hno hk9 (by decide) hx9) (fun r S1 hp => ?_)
  exact hp.elim
set_option maxRecDepth 100000 in
set_option maxHeartbeats 1000000 in
theorem c_read_z {l : Launch} {G : GG} {b : Nat} (hst : l.stackTraces = false) (S : Sw) (a cl : Nat) (hk : sK S a = 7) (hcl : fR S 702 a = some cl) (hic : isC S cl 6) (j x : Nat) (hj : j < 6) (hx : aR S cl j = some x) (hkx : sK S x = 4) (q : Int32) (hQ : Ct l G b yX4_numbersNow cX4_numbersNow 1 (some .int) rmX4_numbersNow mI [.ref x] S (fun r S' => S' = S ∧ r = q)) (hq : ¬ 1 ≤ q) : Cth l G b yX7_read cX7_read 3 (some .int) rmX7_read mI [.ref a, .int (nI j)] S (fun _ _ => False) (fun k => k = 2) := by
  refine Cth.of2 pnX7 (own := RX7) rfl (Nat.le_of_ble_eq_true rfl) hst ?_
  intro p e s m args below meth c C hname hno
  change J p l e rmX7_read s m args below meth c 3 G b _ 0 [(0, .ref a), (1, .int (nI j))] [] S 0 0
  refine r_aload_n (i := 0) (n := 1) C dX7_read_0 rfl rfl rfl ?_
  refine r_iload_n (i := 1) (n := 2) C dX7_read_1 rfl rfl rfl ?_
  refine kX7_128 (n := 5) C (c_rl_y hst S a cl hk hcl hic j x hj hx hkx) hk (by decide) (by decide) (Nat.le_of_ble_eq_true rfl) dX7_read_2 rfl (fun _ _ h9 => h9.elim) (fun r S1 hp => ?_)
  obtain ⟨hS9, hr9⟩ := hp
  subst S1
  subst r
  refine r_astore_n (i := 2) (n := 6) C dX7_read_5 rfl (by decide) rfl rfl ?_
  refine r_aload_n (i := 2) (n := 7) C dX7_read_6 rfl rfl rfl ?_
  refine kX7_132 (n := 10) C (hQ) hkx (by decide) (by decide) (Nat.le_of_ble_eq_true rfl) dX7_read_7 rfl (fun r S1 hp => ?_)
  obtain ⟨hS9, hr9⟩ := hp
  subst S1
  subst r
  refine r_iconst (v := 1) (n := 11) C dX7_read_10 rfl rfl ?_
  refine r_icmp_geF (n := 14) (t := 24) C hq dX7_read_11 (by decide) rfl ?_
  exact r_throw (k := 2) (is := 135) (tx := "none is ready") C hno (Or.inr rfl) (by decide) at_2 (mem_tb (mem_tbl 360 (by decide +kernel)) (by decide +kernel)) (mem_tb (mem_tbl 10 (by decide +kernel)) (by decide +kernel)) dX7_read_14 dX7_read_17 dX7_read_18 dX7_read_20 dX7_read_23 (by decide) (by decide) (by decide) rfl
set_option maxRecDepth 100000 in
set_option maxHeartbeats 1000000 in
theorem c_read_y {l : Launch} {G : GG} {b : Nat} (hst : l.stackTraces = false) (S : Sw) (a cl : Nat) (hk : sK S a = 7) (hcl : fR S 702 a = some cl) (hic : isC S cl 6) (j x : Nat) (hj : j < 6) (hx : aR S cl j = some x) (hkx : sK S x = 4) (q : Int32) (hQ : Ct l G b yX4_numbersNow cX4_numbersNow 1 (some .int) rmX4_numbersNow mI [.ref x] S (fun r S' => S' = S ∧ r = q)) (hq : 1 ≤ q) (T : Sw) (v : Int32) (hM : Ct l G b yX4_nextNumber cX4_nextNumber 3 (some .int) rmX4_nextNumber mI [.ref x] S (fun r S' => S' = T ∧ r = v)) : Cth l G b yX7_read cX7_read 3 (some .int) rmX7_read mI [.ref a, .int (nI j)] S (fun r S' => S' = T ∧ r = v) (fun _ => False) := by
  refine Cth.of2 pnX7 (own := RX7) rfl (Nat.le_of_ble_eq_true rfl) hst ?_
  intro p e s m args below meth c C hname hno
  change J p l e rmX7_read s m args below meth c 3 G b _ 0 [(0, .ref a), (1, .int (nI j))] [] S 0 0
  refine r_aload_n (i := 0) (n := 1) C dX7_read_0 rfl rfl rfl ?_
  refine r_iload_n (i := 1) (n := 2) C dX7_read_1 rfl rfl rfl ?_
  refine kX7_128 (n := 5) C (c_rl_y hst S a cl hk hcl hic j x hj hx hkx) hk (by decide) (by decide) (Nat.le_of_ble_eq_true rfl) dX7_read_2 rfl (fun _ _ h9 => h9.elim) (fun r S1 hp => ?_)
  obtain ⟨hS9, hr9⟩ := hp
  subst S1
  subst r
  refine r_astore_n (i := 2) (n := 6) C dX7_read_5 rfl (by decide) rfl rfl ?_
  refine r_aload_n (i := 2) (n := 7) C dX7_read_6 rfl rfl rfl ?_
  refine kX7_132 (n := 10) C (hQ) hkx (by decide) (by decide) (Nat.le_of_ble_eq_true rfl) dX7_read_7 rfl (fun r S1 hp => ?_)
  obtain ⟨hS9, hr9⟩ := hp
  subst S1
  subst r
  refine r_iconst (v := 1) (n := 11) C dX7_read_10 rfl rfl ?_
  refine r_icmp_geT (t := 24) C hq dX7_read_11 (by decide) ?_
  refine r_aload_n (i := 2) (n := 25) C dX7_read_24 rfl rfl rfl ?_
  refine kX7_137 (n := 28) C (hM) hkx (by decide) (by decide) (Nat.le_of_ble_eq_true rfl) dX7_read_25 rfl (fun r S1 hp => ?_)
  obtain ⟨hS9, hr9⟩ := hp
  subst S1
  subst r
  refine t_i C rfl dX7_read_28 (by decide) ?_
  exact ⟨rfl, rfl⟩
