set_option maxRecDepth 100000 in
set_option maxHeartbeats 1000000 in
theorem c_init0_4 {l : Launch} {G : GG} {b : Nat} (hst : l.stackTraces = false) (S : Sw) (x : Nat) (hk : sK S x = 4) (ch bt : Int32) : Ct l G b yX0_init cX0_init 3 none rmX0_init mV [.ref x, .int ch, .int bt] S (fun _ S' => S' = uI (uI (uI (uI (uI S 2 x 0) 3 x 0) 4 x 0) 0 x ch) 1 x bt) := by
  refine Ct.of2 pnX0 (own := RX0) rfl (Nat.le_of_ble_eq_true rfl) hst ?_
  intro p e s m args below meth c C hname
  change J p l e rmX0_init s m args below meth c 3 G b _ 0 [(0, .ref x), (1, .int ch), (2, .int bt)] [] S 0 0
  refine r_aload_n (i := 0) (n := 1) C dX0_init_0 rfl rfl rfl ?_
  refine kX0_3 (n := 4) C (by decide) dX0_init_1 rfl ?_
  refine r_aload_n (i := 0) (n := 5) C dX0_init_4 rfl rfl rfl ?_
  refine r_iconst (v := 0) (n := 6) C dX0_init_5 rfl rfl ?_
  refine sX0_9_4 (n := 9) C (by first | with_reducible assumption | (simp only [sK_uI, sK_uJ, sK_uR, sK_wI, sK_wR, sK_wD, sK_wJ, sK_wIs, aN_uI, aN_uJ, aN_uR, aN_wI, aN_wR, aN_wD, aN_wJ, aN_wIs, fR_uI, fR_uJ, fR_wI, fR_wR, fR_wD, fR_wJ, fR_wIs, isI_uI, isI_uJ, isI_wI, isI_wR, isI_wD, isI_wJ, isI_wIs, isC_uI, isC_uJ, isC_wI, isC_wR, isC_wD, isC_wJ, isC_wIs, isG_uI, isG_uJ, isG_wI, isG_wR, isG_wD, isG_wJ, isG_wIs, isZ_uI, isZ_uJ, isZ_wI, isZ_wR, isZ_wD, isZ_wJ, isZ_wIs, isD_uI, isD_uJ, isD_wI, isD_wR, isD_wD, isD_wJ, isD_wIs, isL_uI, isL_uJ, isL_wI, isL_wR, isL_wD, isL_wJ, isL_wIs]; with_reducible assumption)) dX0_init_6 rfl ?_
  refine r_aload_n (i := 0) (n := 10) C dX0_init_9 rfl rfl rfl ?_
  refine r_iconst (v := 0) (n := 11) C dX0_init_10 rfl rfl ?_
  refine sX0_15_4 (n := 14) C (by first | with_reducible assumption | (simp only [sK_uI, sK_uJ, sK_uR, sK_wI, sK_wR, sK_wD, sK_wJ, sK_wIs, aN_uI, aN_uJ, aN_uR, aN_wI, aN_wR, aN_wD, aN_wJ, aN_wIs, fR_uI, fR_uJ, fR_wI, fR_wR, fR_wD, fR_wJ, fR_wIs, isI_uI, isI_uJ, isI_wI, isI_wR, isI_wD, isI_wJ, isI_wIs, isC_uI, isC_uJ, isC_wI, isC_wR, isC_wD, isC_wJ, isC_wIs, isG_uI, isG_uJ, isG_wI, isG_wR, isG_wD, isG_wJ, isG_wIs, isZ_uI, isZ_uJ, isZ_wI, isZ_wR, isZ_wD, isZ_wJ, isZ_wIs, isD_uI, isD_uJ, isD_wI, isD_wR, isD_wD, isD_wJ, isD_wIs, isL_uI, isL_uJ, isL_wI, isL_wR, isL_wD, isL_wJ, isL_wIs]; with_reducible assumption)) dX0_init_11 rfl ?_
  refine r_aload_n (i := 0) (n := 15) C dX0_init_14 rfl rfl rfl ?_
  refine r_iconst (v := 0) (n := 16) C dX0_init_15 rfl rfl ?_
  refine sX0_18_4 (n := 19) C (by first | with_reducible assumption | (simp only [sK_uI, sK_uJ, sK_uR, sK_wI, sK_wR, sK_wD, sK_wJ, sK_wIs, aN_uI, aN_uJ, aN_uR, aN_wI, aN_wR, aN_wD, aN_wJ, aN_wIs, fR_uI, fR_uJ, fR_wI, fR_wR, fR_wD, fR_wJ, fR_wIs, isI_uI, isI_uJ, isI_wI, isI_wR, isI_wD, isI_wJ, isI_wIs, isC_uI, isC_uJ, isC_wI, isC_wR, isC_wD, isC_wJ, isC_wIs, isG_uI, isG_uJ, isG_wI, isG_wR, isG_wD, isG_wJ, isG_wIs, isZ_uI, isZ_uJ, isZ_wI, isZ_wR, isZ_wD, isZ_wJ, isZ_wIs, isD_uI, isD_uJ, isD_wI, isD_wR, isD_wD, isD_wJ, isD_wIs, isL_uI, isL_uJ, isL_wI, isL_wR, isL_wD, isL_wJ, isL_wIs]; with_reducible assumption)) (by first | assumption | rfl) (by first | assumption | rfl) dX0_init_16 rfl ?_
  refine r_aload_n (i := 0) (n := 20) C dX0_init_19 rfl rfl rfl ?_
  refine r_iload_n (i := 1) (n := 21) C dX0_init_20 rfl rfl rfl ?_
  refine sX0_22_4 (n := 24) C hname (by first | with_reducible assumption | (simp only [sK_uI, sK_uJ, sK_uR, sK_wI, sK_wR, sK_wD, sK_wJ, sK_wIs, aN_uI, aN_uJ, aN_uR, aN_wI, aN_wR, aN_wD, aN_wJ, aN_wIs, fR_uI, fR_uJ, fR_wI, fR_wR, fR_wD, fR_wJ, fR_wIs, isI_uI, isI_uJ, isI_wI, isI_wR, isI_wD, isI_wJ, isI_wIs, isC_uI, isC_uJ, isC_wI, isC_wR, isC_wD, isC_wJ, isC_wIs, isG_uI, isG_uJ, isG_wI, isG_wR, isG_wD, isG_wJ, isG_wIs, isZ_uI, isZ_uJ, isZ_wI, isZ_wR, isZ_wD, isZ_wJ, isZ_wIs, isD_uI, isD_uJ, isD_wI, isD_wR, isD_wD, isD_wJ, isD_wIs, isL_uI, isL_uJ, isL_wI, isL_wR, isL_wD, isL_wJ, isL_wIs]; with_reducible assumption)) dX0_init_21 rfl ?_
  refine r_aload_n (i := 0) (n := 25) C dX0_init_24 rfl rfl rfl ?_
  refine r_iload_n (i := 2) (n := 26) C dX0_init_25 rfl rfl rfl ?_
  refine sX0_25_4 (n := 29) C hname (by first | with_reducible assumption | (simp only [sK_uI, sK_uJ, sK_uR, sK_wI, sK_wR, sK_wD, sK_wJ, sK_wIs, aN_uI, aN_uJ, aN_uR, aN_wI, aN_wR, aN_wD, aN_wJ, aN_wIs, fR_uI, fR_uJ, fR_wI, fR_wR, fR_wD, fR_wJ, fR_wIs, isI_uI, isI_uJ, isI_wI, isI_wR, isI_wD, isI_wJ, isI_wIs, isC_uI, isC_uJ, isC_wI, isC_wR, isC_wD, isC_wJ, isC_wIs, isG_uI, isG_uJ, isG_wI, isG_wR, isG_wD, isG_wJ, isG_wIs, isZ_uI, isZ_uJ, isZ_wI, isZ_wR, isZ_wD, isZ_wJ, isZ_wIs, isD_uI, isD_uJ, isD_wI, isD_wR, isD_wD, isD_wJ, isD_wIs, isL_uI, isL_uJ, isL_wI, isL_wR, isL_wD, isL_wJ, isL_wIs]; with_reducible assumption)) dX0_init_26 rfl ?_
  refine t_v C dX0_init_29 (by decide) ?_
  rfl
set_option maxRecDepth 100000 in
set_option maxHeartbeats 1000000 in
theorem c_init0_5 {l : Launch} {G : GG} {b : Nat} (hst : l.stackTraces = false) (S : Sw) (x : Nat) (hk : sK S x = 5) (ch bt : Int32) : Ct l G b yX0_init cX0_init 3 none rmX0_init mV [.ref x, .int ch, .int bt] S (fun _ S' => S' = uI (uI (uI (uI (uI S 2 x 0) 3 x 0) 4 x 0) 0 x ch) 1 x bt) := by
  refine Ct.of2 pnX0 (own := RX0) rfl (Nat.le_of_ble_eq_true rfl) hst ?_
  intro p e s m args below meth c C hname
  change J p l e rmX0_init s m args below meth c 3 G b _ 0 [(0, .ref x), (1, .int ch), (2, .int bt)] [] S 0 0
  refine r_aload_n (i := 0) (n := 1) C dX0_init_0 rfl rfl rfl ?_
  refine kX0_3 (n := 4) C (by decide) dX0_init_1 rfl ?_
  refine r_aload_n (i := 0) (n := 5) C dX0_init_4 rfl rfl rfl ?_
  refine r_iconst (v := 0) (n := 6) C dX0_init_5 rfl rfl ?_
  refine sX0_9_5 (n := 9) C (by first | with_reducible assumption | (simp only [sK_uI, sK_uJ, sK_uR, sK_wI, sK_wR, sK_wD, sK_wJ, sK_wIs, aN_uI, aN_uJ, aN_uR, aN_wI, aN_wR, aN_wD, aN_wJ, aN_wIs, fR_uI, fR_uJ, fR_wI, fR_wR, fR_wD, fR_wJ, fR_wIs, isI_uI, isI_uJ, isI_wI, isI_wR, isI_wD, isI_wJ, isI_wIs, isC_uI, isC_uJ, isC_wI, isC_wR, isC_wD, isC_wJ, isC_wIs, isG_uI, isG_uJ, isG_wI, isG_wR, isG_wD, isG_wJ, isG_wIs, isZ_uI, isZ_uJ, isZ_wI, isZ_wR, isZ_wD, isZ_wJ, isZ_wIs, isD_uI, isD_uJ, isD_wI, isD_wR, isD_wD, isD_wJ, isD_wIs, isL_uI, isL_uJ, isL_wI, isL_wR, isL_wD, isL_wJ, isL_wIs]; with_reducible assumption)) dX0_init_6 rfl ?_
  refine r_aload_n (i := 0) (n := 10) C dX0_init_9 rfl rfl rfl ?_
  refine r_iconst (v := 0) (n := 11) C dX0_init_10 rfl rfl ?_
  refine sX0_15_5 (n := 14) C (by first | with_reducible assumption | (simp only [sK_uI, sK_uJ, sK_uR, sK_wI, sK_wR, sK_wD, sK_wJ, sK_wIs, aN_uI, aN_uJ, aN_uR, aN_wI, aN_wR, aN_wD, aN_wJ, aN_wIs, fR_uI, fR_uJ, fR_wI, fR_wR, fR_wD, fR_wJ, fR_wIs, isI_uI, isI_uJ, isI_wI, isI_wR, isI_wD, isI_wJ, isI_wIs, isC_uI, isC_uJ, isC_wI, isC_wR, isC_wD, isC_wJ, isC_wIs, isG_uI, isG_uJ, isG_wI, isG_wR, isG_wD, isG_wJ, isG_wIs, isZ_uI, isZ_uJ, isZ_wI, isZ_wR, isZ_wD, isZ_wJ, isZ_wIs, isD_uI, isD_uJ, isD_wI, isD_wR, isD_wD, isD_wJ, isD_wIs, isL_uI, isL_uJ, isL_wI, isL_wR, isL_wD, isL_wJ, isL_wIs]; with_reducible assumption)) dX0_init_11 rfl ?_
  refine r_aload_n (i := 0) (n := 15) C dX0_init_14 rfl rfl rfl ?_
  refine r_iconst (v := 0) (n := 16) C dX0_init_15 rfl rfl ?_
  refine sX0_18_5 (n := 19) C (by first | with_reducible assumption | (simp only [sK_uI, sK_uJ, sK_uR, sK_wI, sK_wR, sK_wD, sK_wJ, sK_wIs, aN_uI, aN_uJ, aN_uR, aN_wI, aN_wR, aN_wD, aN_wJ, aN_wIs, fR_uI, fR_uJ, fR_wI, fR_wR, fR_wD, fR_wJ, fR_wIs, isI_uI, isI_uJ, isI_wI, isI_wR, isI_wD, isI_wJ, isI_wIs, isC_uI, isC_uJ, isC_wI, isC_wR, isC_wD, isC_wJ, isC_wIs, isG_uI, isG_uJ, isG_wI, isG_wR, isG_wD, isG_wJ, isG_wIs, isZ_uI, isZ_uJ, isZ_wI, isZ_wR, isZ_wD, isZ_wJ, isZ_wIs, isD_uI, isD_uJ, isD_wI, isD_wR, isD_wD, isD_wJ, isD_wIs, isL_uI, isL_uJ, isL_wI, isL_wR, isL_wD, isL_wJ, isL_wIs]; with_reducible assumption)) (by first | assumption | rfl) (by first | assumption | rfl) dX0_init_16 rfl ?_
  refine r_aload_n (i := 0) (n := 20) C dX0_init_19 rfl rfl rfl ?_
  refine r_iload_n (i := 1) (n := 21) C dX0_init_20 rfl rfl rfl ?_
  refine sX0_22_5 (n := 24) C hname (by first | with_reducible assumption | (simp only [sK_uI, sK_uJ, sK_uR, sK_wI, sK_wR, sK_wD, sK_wJ, sK_wIs, aN_uI, aN_uJ, aN_uR, aN_wI, aN_wR, aN_wD, aN_wJ, aN_wIs, fR_uI, fR_uJ, fR_wI, fR_wR, fR_wD, fR_wJ, fR_wIs, isI_uI, isI_uJ, isI_wI, isI_wR, isI_wD, isI_wJ, isI_wIs, isC_uI, isC_uJ, isC_wI, isC_wR, isC_wD, isC_wJ, isC_wIs, isG_uI, isG_uJ, isG_wI, isG_wR, isG_wD, isG_wJ, isG_wIs, isZ_uI, isZ_uJ, isZ_wI, isZ_wR, isZ_wD, isZ_wJ, isZ_wIs, isD_uI, isD_uJ, isD_wI, isD_wR, isD_wD, isD_wJ, isD_wIs, isL_uI, isL_uJ, isL_wI, isL_wR, isL_wD, isL_wJ, isL_wIs]; with_reducible assumption)) dX0_init_21 rfl ?_
  refine r_aload_n (i := 0) (n := 25) C dX0_init_24 rfl rfl rfl ?_
  refine r_iload_n (i := 2) (n := 26) C dX0_init_25 rfl rfl rfl ?_
  refine sX0_25_5 (n := 29) C hname (by first | with_reducible assumption | (simp only [sK_uI, sK_uJ, sK_uR, sK_wI, sK_wR, sK_wD, sK_wJ, sK_wIs, aN_uI, aN_uJ, aN_uR, aN_wI, aN_wR, aN_wD, aN_wJ, aN_wIs, fR_uI, fR_uJ, fR_wI, fR_wR, fR_wD, fR_wJ, fR_wIs, isI_uI, isI_uJ, isI_wI, isI_wR, isI_wD, isI_wJ, isI_wIs, isC_uI, isC_uJ, isC_wI, isC_wR, isC_wD, isC_wJ, isC_wIs, isG_uI, isG_uJ, isG_wI, isG_wR, isG_wD, isG_wJ, isG_wIs, isZ_uI, isZ_uJ, isZ_wI, isZ_wR, isZ_wD, isZ_wJ, isZ_wIs, isD_uI, isD_uJ, isD_wI, isD_wR, isD_wD, isD_wJ, isD_wIs, isL_uI, isL_uJ, isL_wI, isL_wR, isL_wD, isL_wJ, isL_wIs]; with_reducible assumption)) dX0_init_26 rfl ?_
  refine t_v C dX0_init_29 (by decide) ?_
  rfl
theorem jMax1 {g : Nat} (h1 : 1 ≤ g) (h2 : g < 2 ^ 31) : jMax 1 (nI g) = nI g := by
  have h : (1 : Int32) ≤ nI g := nI_le (a := 1) h1 h2
  unfold jMax
  by_cases q : (1 : Int32) < nI g
  · rw [if_pos q]
  · rw [if_neg q]; exact Int32.le_antisymm h (Int32.not_lt.mp q)
set_option maxRecDepth 100000 in
set_option maxHeartbeats 1000000 in
theorem c_init1 {l : Launch} {G : GG} {b : Nat} (hst : l.stackTraces = false) (S : Sw) (x t f g : Nat) (hk : sK S x = 1) (hf : f < 2 ^ 31) (hg1 : 1 ≤ g) (hg : g < 2 ^ 31) : Ct l G b yX1_init cX1_init 4 none rmX1_init mV [.ref x, .ref t, .int (nI f), .int (nI g)] S (fun _ S' => S' = uJ (uJ (uR S 100 x (some t)) 101 x (lN f)) 102 x (lN g)) := by
  refine Ct.of2 pnX1 (own := RX1) rfl (Nat.le_of_ble_eq_true rfl) hst ?_
  intro p e s m args below meth c C hname
  change J p l e rmX1_init s m args below meth c 4 G b _ 0 [(0, .ref x), (1, .ref t), (2, .int (nI f)), (3, .int (nI g))] [] S 0 0
  refine r_aload_n (i := 0) (n := 1) C dX1_init_0 rfl rfl rfl ?_
  refine kX1_1 (n := 4) C (by decide) dX1_init_1 rfl ?_
  refine r_aload_n (i := 0) (n := 5) C dX1_init_4 rfl rfl rfl ?_
  refine r_aload_n (i := 1) (n := 6) C dX1_init_5 rfl rfl rfl ?_
  refine sX1_7 (n := 9) C hname (by first | with_reducible assumption | (simp only [sK_uI, sK_uJ, sK_uR, sK_wI, sK_wR, sK_wD, sK_wJ, sK_wIs, aN_uI, aN_uJ, aN_uR, aN_wI, aN_wR, aN_wD, aN_wJ, aN_wIs, fR_uI, fR_uJ, fR_wI, fR_wR, fR_wD, fR_wJ, fR_wIs, isI_uI, isI_uJ, isI_wI, isI_wR, isI_wD, isI_wJ, isI_wIs, isC_uI, isC_uJ, isC_wI, isC_wR, isC_wD, isC_wJ, isC_wIs, isG_uI, isG_uJ, isG_wI, isG_wR, isG_wD, isG_wJ, isG_wIs, isZ_uI, isZ_uJ, isZ_wI, isZ_wR, isZ_wD, isZ_wJ, isZ_wIs, isD_uI, isD_uJ, isD_wI, isD_wR, isD_wD, isD_wJ, isD_wIs, isL_uI, isL_uJ, isL_wI, isL_wR, isL_wD, isL_wJ, isL_wIs]; with_reducible assumption)) dX1_init_6 rfl ?_
  refine r_aload_n (i := 0) (n := 10) C dX1_init_9 rfl rfl rfl ?_
  refine r_iload_n (i := 2) (n := 11) C dX1_init_10 rfl rfl rfl ?_
  refine r_i2l (n := 12) C dX1_init_11 rfl ?_
  rw [nI_l hf]
  refine sX1_13 (n := 15) C hname (by first | with_reducible assumption | (simp only [sK_uI, sK_uJ, sK_uR, sK_wI, sK_wR, sK_wD, sK_wJ, sK_wIs, aN_uI, aN_uJ, aN_uR, aN_wI, aN_wR, aN_wD, aN_wJ, aN_wIs, fR_uI, fR_uJ, fR_wI, fR_wR, fR_wD, fR_wJ, fR_wIs, isI_uI, isI_uJ, isI_wI, isI_wR, isI_wD, isI_wJ, isI_wIs, isC_uI, isC_uJ, isC_wI, isC_wR, isC_wD, isC_wJ, isC_wIs, isG_uI, isG_uJ, isG_wI, isG_wR, isG_wD, isG_wJ, isG_wIs, isZ_uI, isZ_uJ, isZ_wI, isZ_wR, isZ_wD, isZ_wJ, isZ_wIs, isD_uI, isD_uJ, isD_wI, isD_wR, isD_wD, isD_wJ, isD_wIs, isL_uI, isL_uJ, isL_wI, isL_wR, isL_wD, isL_wJ, isL_wIs]; with_reducible assumption)) dX1_init_12 rfl ?_
  refine r_aload_n (i := 0) (n := 16) C dX1_init_15 rfl rfl rfl ?_
  refine r_iconst (v := 1) (n := 17) C dX1_init_16 rfl rfl ?_
  refine r_iload_n (i := 3) (n := 18) C dX1_init_17 rfl rfl rfl ?_
  refine kX1_17 (n := 21) C (c_max hst _ 1 (nI g)) (by decide) (by decide) (Nat.le_of_ble_eq_true rfl) dX1_init_18 rfl (fun r S1 hp => ?_)
  obtain ⟨hS9, hr9⟩ := hp
  subst S1
  subst r
  rw [jMax1 hg1 hg]
  refine r_i2l (n := 22) C dX1_init_21 rfl ?_
  rw [nI_l hg]
  refine sX1_23 (n := 25) C hname (by first | with_reducible assumption | (simp only [sK_uI, sK_uJ, sK_uR, sK_wI, sK_wR, sK_wD, sK_wJ, sK_wIs, aN_uI, aN_uJ, aN_uR, aN_wI, aN_wR, aN_wD, aN_wJ, aN_wIs, fR_uI, fR_uJ, fR_wI, fR_wR, fR_wD, fR_wJ, fR_wIs, isI_uI, isI_uJ, isI_wI, isI_wR, isI_wD, isI_wJ, isI_wIs, isC_uI, isC_uJ, isC_wI, isC_wR, isC_wD, isC_wJ, isC_wIs, isG_uI, isG_uJ, isG_wI, isG_wR, isG_wD, isG_wJ, isG_wIs, isZ_uI, isZ_uJ, isZ_wI, isZ_wR, isZ_wD, isZ_wJ, isZ_wIs, isD_uI, isD_uJ, isD_wI, isD_wR, isD_wD, isD_wJ, isD_wIs, isL_uI, isL_uJ, isL_wI, isL_wR, isL_wD, isL_wJ, isL_wIs]; with_reducible assumption)) dX1_init_22 rfl ?_
  refine t_v C dX1_init_25 (by decide) ?_
  rfl
set_option maxRecDepth 100000 in
set_option maxHeartbeats 1000000 in
theorem c_init3 {l : Launch} {G : GG} {b : Nat} (hst : l.stackTraces = false) (S : Sw) (x : Nat) (hk : sK S x = 3) : Ct l G b yX3_init cX3_init 1 none rmX3_init mV [.ref x] S (fun _ S' => S' = uJ (uI (uI (uI S 300 x 1) 301 x 4096) 302 x 0) 303 x 0) := by
  refine Ct.of2 pnX3 (own := RX3) rfl (Nat.le_of_ble_eq_true rfl) hst ?_
  intro p e s m args below meth c C hname
  change J p l e rmX3_init s m args below meth c 1 G b _ 0 [(0, .ref x)] [] S 0 0
  refine r_aload_n (i := 0) (n := 1) C dX3_init_0 rfl rfl rfl ?_
  refine kX3_3 (n := 4) C (by decide) dX3_init_1 rfl ?_
  refine r_aload_n (i := 0) (n := 5) C dX3_init_4 rfl rfl rfl ?_
  refine r_iconst (v := 1) (n := 6) C dX3_init_5 rfl rfl ?_
  refine sX3_9 (n := 9) C (by first | with_reducible assumption | (simp only [sK_uI, sK_uJ, sK_uR, sK_wI, sK_wR, sK_wD, sK_wJ, sK_wIs, aN_uI, aN_uJ, aN_uR, aN_wI, aN_wR, aN_wD, aN_wJ, aN_wIs, fR_uI, fR_uJ, fR_wI, fR_wR, fR_wD, fR_wJ, fR_wIs, isI_uI, isI_uJ, isI_wI, isI_wR, isI_wD, isI_wJ, isI_wIs, isC_uI, isC_uJ, isC_wI, isC_wR, isC_wD, isC_wJ, isC_wIs, isG_uI, isG_uJ, isG_wI, isG_wR, isG_wD, isG_wJ, isG_wIs, isZ_uI, isZ_uJ, isZ_wI, isZ_wR, isZ_wD, isZ_wJ, isZ_wIs, isD_uI, isD_uJ, isD_wI, isD_wR, isD_wD, isD_wJ, isD_wIs, isL_uI, isL_uJ, isL_wI, isL_wR, isL_wD, isL_wJ, isL_wIs]; with_reducible assumption)) (by first | assumption | rfl) (by first | assumption | rfl) dX3_init_6 rfl ?_
  refine r_aload_n (i := 0) (n := 10) C dX3_init_9 rfl rfl rfl ?_
  refine r_sipush (v := 4096) (n := 13) C dX3_init_10 rfl rfl ?_
  refine sX3_15 (n := 16) C (by first | with_reducible assumption | (simp only [sK_uI, sK_uJ, sK_uR, sK_wI, sK_wR, sK_wD, sK_wJ, sK_wIs, aN_uI, aN_uJ, aN_uR, aN_wI, aN_wR, aN_wD, aN_wJ, aN_wIs, fR_uI, fR_uJ, fR_wI, fR_wR, fR_wD, fR_wJ, fR_wIs, isI_uI, isI_uJ, isI_wI, isI_wR, isI_wD, isI_wJ, isI_wIs, isC_uI, isC_uJ, isC_wI, isC_wR, isC_wD, isC_wJ, isC_wIs, isG_uI, isG_uJ, isG_wI, isG_wR, isG_wD, isG_wJ, isG_wIs, isZ_uI, isZ_uJ, isZ_wI, isZ_wR, isZ_wD, isZ_wJ, isZ_wIs, isD_uI, isD_uJ, isD_wI, isD_wR, isD_wD, isD_wJ, isD_wIs, isL_uI, isL_uJ, isL_wI, isL_wR, isL_wD, isL_wJ, isL_wIs]; with_reducible assumption)) dX3_init_13 rfl ?_
  refine r_aload_n (i := 0) (n := 17) C dX3_init_16 rfl rfl rfl ?_
  refine r_iconst (v := 0) (n := 18) C dX3_init_17 rfl rfl ?_
  refine sX3_19 (n := 21) C (by first | with_reducible assumption | (simp only [sK_uI, sK_uJ, sK_uR, sK_wI, sK_wR, sK_wD, sK_wJ, sK_wIs, aN_uI, aN_uJ, aN_uR, aN_wI, aN_wR, aN_wD, aN_wJ, aN_wIs, fR_uI, fR_uJ, fR_wI, fR_wR, fR_wD, fR_wJ, fR_wIs, isI_uI, isI_uJ, isI_wI, isI_wR, isI_wD, isI_wJ, isI_wIs, isC_uI, isC_uJ, isC_wI, isC_wR, isC_wD, isC_wJ, isC_wIs, isG_uI, isG_uJ, isG_wI, isG_wR, isG_wD, isG_wJ, isG_wIs, isZ_uI, isZ_uJ, isZ_wI, isZ_wR, isZ_wD, isZ_wJ, isZ_wIs, isD_uI, isD_uJ, isD_wI, isD_wR, isD_wD, isD_wJ, isD_wIs, isL_uI, isL_uJ, isL_wI, isL_wR, isL_wD, isL_wJ, isL_wIs]; with_reducible assumption)) dX3_init_18 rfl ?_
  refine r_aload_n (i := 0) (n := 22) C dX3_init_21 rfl rfl rfl ?_
  refine r_lconst (v := 0) (n := 23) C dX3_init_22 rfl rfl ?_
  refine sX3_22 (n := 26) C (by first | with_reducible assumption | (simp only [sK_uI, sK_uJ, sK_uR, sK_wI, sK_wR, sK_wD, sK_wJ, sK_wIs, aN_uI, aN_uJ, aN_uR, aN_wI, aN_wR, aN_wD, aN_wJ, aN_wIs, fR_uI, fR_uJ, fR_wI, fR_wR, fR_wD, fR_wJ, fR_wIs, isI_uI, isI_uJ, isI_wI, isI_wR, isI_wD, isI_wJ, isI_wIs, isC_uI, isC_uJ, isC_wI, isC_wR, isC_wD, isC_wJ, isC_wIs, isG_uI, isG_uJ, isG_wI, isG_wR, isG_wD, isG_wJ, isG_wIs, isZ_uI, isZ_uJ, isZ_wI, isZ_wR, isZ_wD, isZ_wJ, isZ_wIs, isD_uI, isD_uJ, isD_wI, isD_wR, isD_wD, isD_wJ, isD_wIs, isL_uI, isL_uJ, isL_wI, isL_wR, isL_wD, isL_wJ, isL_wIs]; with_reducible assumption)) dX3_init_23 rfl ?_
  refine t_v C dX3_init_26 (by decide) ?_
  rfl
def nFr (S S' : Sw) (x L R : Nat) : Prop := exx x S S' ∧ fC S' x L R 0 ∧ sK S L = 0 ∧ sK S R = 0 ∧ L ≠ R
theorem nFr_of {S : Sw} {x L R : Nat} (hk : sK S x = 2) (hL : sK S L = 0) (hR : sK (uR (nA S L 9 256) 200 x (some L)) R = 0) : nFr S (uJ (uR (nA (uR (nA S L 9 256) 200 x (some L)) R 9 256) 201 x (some R)) 202 x 0) x L R := by
  have hxL : x ≠ L := k_ne hL (by rw [hk]; decide)
  have hLR : L ≠ R := fun q => by
    rw [← q, sK_uR, nA_k] at hR; exact absurd hR (by decide)
  have hR0 : sK S R = 0 := by rw [sK_uR, sK_nA, if_neg (Ne.symm hLR)] at hR; exact hR
  have hxR : x ≠ R := k_ne hR0 (by rw [hk]; decide)
  refine ⟨⟨fun z hz h0 => ?_, ?_⟩, ⟨?_, ?_, ?_, ?_, ?_, ?_⟩, hL, hR0, hLR⟩
  · exact ((((smA.rf.nA (k_ne hL h0)).uR hz).nA (k_ne hR0 h0)).uR hz).uJ hz
  · rw [sK_uJ, sK_uR, sK_nA, if_neg hxR, sK_uR, sK_nA, if_neg hxL]
  · rw [sK_uJ, sK_uR, sK_nA, if_neg hxR, sK_uR, sK_nA, if_neg hxL]; exact hk
  · simp [fR_uJ, fR_uR, fR_nA]
  · exact if_pos ⟨rfl, rfl⟩
  · have s1 : smA (nA S L 9 256) (uJ (uR (nA (uR (nA S L 9 256) 200 x (some L)) R 9 256) 201 x (some R)) 202 x 0) L := (((smA.rf.uR (Ne.symm hxL)).nA hLR).uR (Ne.symm hxL)).uJ (Ne.symm hxL)
    exact (show isI (nA S L 9 256) L 256 from ⟨nA_k, nA_n, by decide⟩).sm s1
  · exact ⟨(sK_uJ _ _ _ _ _).trans ((sK_uR _ _ _ _ _).trans nA_k), nA_n (k := 9), by decide⟩
  · exact if_pos ⟨rfl, rfl⟩
set_option maxRecDepth 100000 in
set_option maxHeartbeats 1000000 in
theorem c_init2 {l : Launch} {G : GG} {b : Nat} (hst : l.stackTraces = false) (S : Sw) (x : Nat) (hk : sK S x = 2) : Ct l G b yX2_init cX2_init 1 none rmX2_init mV [.ref x] S (fun _ S' => ∃ L R, nFr S S' x L R) := by
  refine Ct.of2 pnX2 (own := RX2) rfl (Nat.le_of_ble_eq_true rfl) hst ?_
  intro p e s m args below meth c C hname
  change J p l e rmX2_init s m args below meth c 1 G b _ 0 [(0, .ref x)] [] S 0 0
  refine r_aload_n (i := 0) (n := 1) C dX2_init_0 rfl rfl rfl ?_
  refine kX2_1 (n := 4) C (by decide) dX2_init_1 rfl ?_
  refine r_aload_n (i := 0) (n := 5) C dX2_init_4 rfl rfl rfl ?_
  refine r_sipush (v := 256) (n := 8) C dX2_init_5 rfl rfl ?_
  refine na_9 (n := 10) (N := 256) C rfl (by decide) (by decide) dX2_init_8 rfl (fun L hzL hbL => ?_)
  refine sX2_9 (n := 13) C hname (by rw [sK_nA, if_neg (k_ne hzL (by rw [hk]; decide))]; exact hk) dX2_init_10 rfl ?_
  refine r_aload_n (i := 0) (n := 14) C dX2_init_13 rfl rfl rfl ?_
  refine r_sipush (v := 256) (n := 17) C dX2_init_14 rfl rfl ?_
  refine na_9 (n := 19) (N := 256) C rfl (by decide) (by decide) dX2_init_17 rfl (fun R hzR hbR => ?_)
  have hkR := (nFr_of hk hzL hzR).1.2.trans hk
  refine sX2_13 (n := 22) C hname hkR dX2_init_19 rfl ?_
  refine r_aload_n (i := 0) (n := 23) C dX2_init_22 rfl rfl rfl ?_
  refine r_lconst (v := 0) (n := 24) C dX2_init_23 rfl rfl ?_
  refine sX2_16 (n := 27) C hkR dX2_init_24 rfl ?_
  refine t_v C dX2_init_27 (by decide) ?_
  exact ⟨L, R, nFr_of hk hzL hzR⟩
def nPl (S S' : Sw) (x t rr : Nat) (ch bt : Int32) (cv w L R oi : Nat) : Prop := exx x S S' ∧ (fI S' 0 x = ch ∧ fI S' 1 x = bt ∧ fI S' 2 x = 0 ∧ fI S' 3 x = 0 ∧ fI S' 4 x = 0 ∧ fI S' 508 x = 256 ∧ fI S' 510 x = 0 ∧ fI S' 511 x = 0) ∧ (fJ S' 512 x = 0 ∧ fJ S' 513 x = 0 ∧ fJ S' 514 x = 0) ∧ (fR S' 505 x = some cv ∧ fR S' 506 x = some w ∧ fR S' 507 x = some oi) ∧ vC S' cv t rr 48000 ∧ fC S' w L R 0 ∧ isI S' oi 4 ∧ (∀ i, aI S' oi i = 0) ∧ (sK S cv = 0 ∧ sK S w = 0 ∧ sK S L = 0 ∧ sK S R = 0 ∧ sK S oi = 0) ∧ L ≠ R ∧ L ≠ oi ∧ R ≠ oi
theorem nPl_of {S Sc : Sw} {x t rr cv w L R oi : Nat} {ch bt : Int32} (hk : sK S x = 5) (hw : sK (uI (uI (uI (uI (uI S 2 x 0) 3 x 0) 4 x 0) 0 x ch) 1 x bt) w = 0) (hF : nFr (nO (uI (uI (uI (uI (uI S 2 x 0) 3 x 0) 4 x 0) 0 x ch) 1 x bt) w 2) Sc w L R) (hoi : sK (uR Sc 506 x (some w)) oi = 0) (hcv : sK (uJ (uJ (uJ (uI (uI (uI (uI (uR (nA (uR Sc 506 x (some w)) oi 9 4) 507 x (some oi)) 508 x 256) 509 x 0) 510 x 0) 511 x 0) 512 x 0) 513 x 0) 514 x 0) cv = 0) : nPl S (uR (uJ (uJ (uR (nO (uJ (uJ (uJ (uI (uI (uI (uI (uR (nA (uR Sc 506 x (some w)) oi 9 4) 507 x (some oi)) 508 x 256) 509 x 0) 510 x 0) 511 x 0) 512 x 0) 513 x 0) 514 x 0) cv 1) 100 cv (some t)) 101 cv (lN rr)) 102 cv (lN 48000)) 505 x (some cv)) x t rr ch bt cv w L R oi := by
  have hw0 : sK S w = 0 := hw
  have hxw : x ≠ w := k_ne hw0 (by rw [hk]; decide)
  obtain ⟨hE, hfc, hL, hR, hLR⟩ := hF
  have hkb : sK (nO (uI (uI (uI (uI (uI S 2 x 0) 3 x 0) 4 x 0) 0 x ch) 1 x bt) w 2) x = 5 := by rw [sK_nO, if_neg hxw]; exact hk
  have hxc := hE.1 x hxw (by rw [hkb]; decide)
  have hL0 : sK S L = 0 := by
    rw [sK_nO] at hL
    by_cases q : L = w
    · rw [if_pos q] at hL; exact absurd hL (by decide)
    · rw [if_neg q] at hL; exact hL
  have hR0 : sK S R = 0 := by
    rw [sK_nO] at hR
    by_cases q : R = w
    · rw [if_pos q] at hR; exact absurd hR (by decide)
    · rw [if_neg q] at hR; exact hR
  have hoc : sK Sc oi = 0 := hoi
  have kc : ∀ z, sK S z ≠ 0 → sK Sc z ≠ 0 := fun z hz => hE.ne (by rw [sK_nO]; split <;> first | decide | exact hz)
  have hoi0 : sK S oi = 0 := Classical.byContradiction (fun q => kc oi q hoc)
  have hLoi : L ≠ oi := k_ne hoc (by rw [hfc.2.2.2.1.1]; decide)
  have hRoi : R ≠ oi := k_ne hoc (by rw [hfc.2.2.2.2.1.1]; decide)
  have hwoi : w ≠ oi := k_ne hoc (by rw [hfc.1]; decide)
  have hxoi : x ≠ oi := k_ne hoi0 (by rw [hk]; decide)
  have hcg : (if cv = oi then 9 else sK Sc cv) = 0 := by
    have q := hcv
    rw [sK_uJ, sK_uJ, sK_uJ, sK_uI, sK_uI, sK_uI, sK_uI, sK_uR, sK_nA, sK_uR] at q
    exact q
  have hcoi : oi ≠ cv := fun q => by rw [if_pos q.symm] at hcg; exact absurd hcg (by decide)
  have hcc : sK Sc cv = 0 := by rw [if_neg (Ne.symm hcoi)] at hcg; exact hcg
  have hcv0 : sK S cv = 0 := Classical.byContradiction (fun q => kc cv q hcc)
  have hxcv : x ≠ cv := k_ne hcv0 (by rw [hk]; decide)
  have hwcv : w ≠ cv := k_ne hcc (by rw [hfc.1]; decide)
  have hLcv : L ≠ cv := k_ne hcc (by rw [hfc.2.2.2.1.1]; decide)
  have hRcv : R ≠ cv := k_ne hcc (by rw [hfc.2.2.2.2.1.1]; decide)
  have sm : ∀ z, z ≠ x → z ≠ oi → z ≠ cv → smA Sc (uR (uJ (uJ (uR (nO (uJ (uJ (uJ (uI (uI (uI (uI (uR (nA (uR Sc 506 x (some w)) oi 9 4) 507 x (some oi)) 508 x 256) 509 x 0) 510 x 0) 511 x 0) 512 x 0) 513 x 0) 514 x 0) cv 1) 100 cv (some t)) 101 cv (lN rr)) 102 cv (lN 48000)) 505 x (some cv)) z := fun z h1 h2 h3 => (((((((((((((((smA.rf.uR h1).nA h2).uR h1).uI h1).uI h1).uI h1).uI h1).uJ h1).uJ h1).uJ h1).nO h3).uR h3).uJ h3).uJ h3).uR h1)
  have sa : ∀ z, z ≠ x → z ≠ w → smA S (nO (uI (uI (uI (uI (uI S 2 x 0) 3 x 0) 4 x 0) 0 x ch) 1 x bt) w 2) z := fun z h1 h2 => ((((((smA.rf.uI h1).uI h1).uI h1).uI h1).uI h1).nO h2)
  have hcx := hxcv.symm
  refine ⟨⟨fun z hz h0 => ?_, ?_⟩, ⟨?_, ?_, ?_, ?_, ?_, ?_, ?_, ?_⟩, ⟨?_, ?_, ?_⟩, ⟨?_, ?_, ?_⟩, ⟨?_, ?_, ?_, ?_⟩, hfc.sm (sm w (Ne.symm hxw) hwoi hwcv) (sm L (fun q => absurd (hL0.symm.trans (q ▸ hk)) (by decide)) hLoi hLcv) (sm R (fun q => absurd (hR0.symm.trans (q ▸ hk)) (by decide)) hRoi hRcv), ⟨?_, ?_, by decide⟩, fun i => ?_, ⟨hcv0, hw0, hL0, hR0, hoi0⟩, hLR, hLoi, hRoi⟩
  · have hzw := k_ne hw0 h0
    have s1 := sa z hz hzw
    have s2 := hE.1 z hzw (by rw [s1.1]; exact h0)
    exact (s1.tr s2).tr (sm z hz (k_ne hoi0 h0) (k_ne hcv0 h0))
  all_goals first
    | (simp [fI_uI, fI_uJ, fI_uR, fJ_uI, fJ_uJ, fJ_uR, fR_uI, fR_uJ, fR_uR, sK_uI, sK_uJ, sK_uR, fI_nO, fJ_nO, fR_nO, sK_nO, fI_nA, fJ_nA, fR_nA, sK_nA, hxc.1, hxc.2.2.1, hxc.2.2.2.1, hxc.2.2.2.2.1, hxw, hxoi, hxcv, hcx, hcoi, hk]; done)
    | skip
  · show aN (uR (uJ (uJ (uR (nO (uJ (uJ (uJ (uI (uI (uI (uI (uR (nA (uR Sc 506 x (some w)) oi 9 4) 507 x (some oi)) 508 x 256) 509 x 0) 510 x 0) 511 x 0) 512 x 0) 513 x 0) 514 x 0) cv 1) 100 cv (some t)) 101 cv (lN rr)) 102 cv (lN 48000)) 505 x (some cv)) oi = 4
    exact nA_n (k := 9)
  · show aI (uR (uJ (uJ (uR (nO (uJ (uJ (uJ (uI (uI (uI (uI (uR (nA (uR Sc 506 x (some w)) oi 9 4) 507 x (some oi)) 508 x 256) 509 x 0) 510 x 0) 511 x 0) 512 x 0) 513 x 0) 514 x 0) cv 1) 100 cv (some t)) 101 cv (lN rr)) 102 cv (lN 48000)) 505 x (some cv)) oi i = 0
    exact congrFun (nA_I (k := 9) (N := 4)) i
set_option maxRecDepth 100000 in
set_option maxHeartbeats 1000000 in
theorem c_init5 {l : Launch} {G : GG} {b : Nat} (hst : l.stackTraces = false) (S : Sw) (x t rr : Nat) (hk : sK S x = 5) (hr : rr < 2 ^ 31) (ch bt : Int32) : Ct l G b yX5_init cX5_init 5 none rmX5_init mV [.ref x, .ref t, .int (nI rr), .int ch, .int bt] S (fun _ S' => ∃ cv w L R oi, nPl S S' x t rr ch bt cv w L R oi) := by
  refine Ct.of2 pnX5 (own := RX5) rfl (Nat.le_of_ble_eq_true rfl) hst ?_
  intro p e s m args below meth c C hname
  change J p l e rmX5_init s m args below meth c 5 G b _ 0 [(0, .ref x), (1, .ref t), (2, .int (nI rr)), (3, .int ch), (4, .int bt)] [] S 0 0
  refine r_aload_n (i := 0) (n := 1) C dX5_init_0 rfl rfl rfl ?_
  refine r_iload_n (i := 3) (n := 2) C dX5_init_1 rfl rfl rfl ?_
  refine r_iload (n := 4) C dX5_init_2 rfl rfl ?_
  refine kX5_3 (n := 7) C (c_init0_5 hst S x hk ch bt) (by decide) (by decide) (Nat.le_of_ble_eq_true rfl) dX5_init_4 rfl (fun r S1 hp => ?_)
  subst hp
  refine r_aload_n (i := 0) (n := 8) C dX5_init_7 rfl rfl rfl ?_
  refine nw_2 (n := 11) C (mem_tb (mem_tbl 383 (by decide +kernel)) (by decide +kernel)) (by decide) dX5_init_8 rfl (fun w hzw hbw => ?_)
  refine r_dup (n := 12) C dX5_init_11 rfl rfl ?_
  refine kX5_11 (n := 15) C (c_init2 hst (nO (uI (uI (uI (uI (uI S 2 x 0) 3 x 0) 4 x 0) 0 x ch) 1 x bt) w 2) w nO_k) (by decide) (by decide) (Nat.le_of_ble_eq_true rfl) dX5_init_12 rfl (fun r Sc hp => ?_)
  obtain ⟨L, R, hF⟩ := hp
  have hxw : x ≠ w := k_ne (show sK S w = 0 from hzw) (by rw [hk]; decide)
  have hkc : sK Sc x = 5 := by
    rw [(hF.1.1 x hxw (by rw [sK_nO, if_neg hxw]; show sK S x ≠ 0; rw [hk]; decide)).1, sK_nO, if_neg hxw]
    exact hk
  refine sX5_14 (n := 18) C hname hkc dX5_init_15 rfl ?_
  refine r_aload_n (i := 0) (n := 19) C dX5_init_18 rfl rfl rfl ?_
  refine r_iconst (v := 4) (n := 20) C dX5_init_19 rfl rfl ?_
  refine na_9 (n := 22) (N := 4) C rfl (by decide) (by decide) dX5_init_20 rfl (fun oi hzoi hboi => ?_)
  have hko : sK (nA (uR Sc 506 x (some w)) oi 9 4) x = 5 := by
    rw [sK_nA, if_neg (k_ne hzoi (by show sK Sc x ≠ 0; rw [hkc]; decide))]
    exact hkc
  refine sX5_20 (n := 25) C hname hko dX5_init_22 rfl ?_
  refine r_aload_n (i := 0) (n := 26) C dX5_init_25 rfl rfl rfl ?_
  refine r_sipush (v := 256) (n := 29) C dX5_init_26 rfl rfl ?_
  refine sX5_24 (n := 32) C hko dX5_init_29 rfl ?_
  refine r_aload_n (i := 0) (n := 33) C dX5_init_32 rfl rfl rfl ?_
  refine r_iconst (v := 0) (n := 34) C dX5_init_33 rfl rfl ?_
  refine sX5_28 (n := 37) C hko dX5_init_34 rfl ?_
  refine r_aload_n (i := 0) (n := 38) C dX5_init_37 rfl rfl rfl ?_
  refine r_iconst (v := 0) (n := 39) C dX5_init_38 rfl rfl ?_
  refine sX5_31 (n := 42) C hko dX5_init_39 rfl ?_
  refine r_aload_n (i := 0) (n := 43) C dX5_init_42 rfl rfl rfl ?_
  refine r_iconst (v := 0) (n := 44) C dX5_init_43 rfl rfl ?_
  refine sX5_34 (n := 47) C hko dX5_init_44 rfl ?_
  refine r_aload_n (i := 0) (n := 48) C dX5_init_47 rfl rfl rfl ?_
  refine r_lconst (v := 0) (n := 49) C dX5_init_48 rfl rfl ?_
  refine sX5_37 (n := 52) C hko dX5_init_49 rfl ?_
  refine r_aload_n (i := 0) (n := 53) C dX5_init_52 rfl rfl rfl ?_
  refine r_lconst (v := 0) (n := 54) C dX5_init_53 rfl rfl ?_
  refine sX5_41 (n := 57) C hko dX5_init_54 rfl ?_
  refine r_aload_n (i := 0) (n := 58) C dX5_init_57 rfl rfl rfl ?_
  refine r_lconst (v := 0) (n := 59) C dX5_init_58 rfl rfl ?_
  refine sX5_44 (n := 62) C hko dX5_init_59 rfl ?_
  refine r_aload_n (i := 0) (n := 63) C dX5_init_62 rfl rfl rfl ?_
  refine nw_1 (n := 66) C (mem_tb (mem_tbl 401 (by decide +kernel)) (by decide +kernel)) (by decide) dX5_init_63 rfl (fun cv hzcv hbcv => ?_)
  have hkv : sK (nO (uJ (uJ (uJ (uI (uI (uI (uI (uR (nA (uR Sc 506 x (some w)) oi 9 4) 507 x (some oi)) 508 x 256) 509 x 0) 510 x 0) 511 x 0) 512 x 0) 513 x 0) 514 x 0) cv 1) x = 5 := by
    rw [sK_nO, if_neg (k_ne hzcv (by show sK (nA (uR Sc 506 x (some w)) oi 9 4) x ≠ 0; rw [hko]; decide))]
    exact hko
  refine r_dup (n := 67) C dX5_init_66 rfl rfl ?_
  refine r_aload_n (i := 1) (n := 68) C dX5_init_67 rfl rfl rfl ?_
  refine r_iload_n (i := 2) (n := 69) C dX5_init_68 rfl rfl rfl ?_
  refine r_ldc (n := 71) (v := 48000) C (mem_tb (mem_tbl 403 (by decide +kernel)) (by decide +kernel)) dX5_init_69 rfl ?_
  refine kX5_50 (n := 74) C (c_init1 hst (nO (uJ (uJ (uJ (uI (uI (uI (uI (uR (nA (uR Sc 506 x (some w)) oi 9 4) 507 x (some oi)) 508 x 256) 509 x 0) 510 x 0) 511 x 0) 512 x 0) 513 x 0) 514 x 0) cv 1) cv t rr 48000 nO_k hr (by decide) (by decide)) (by decide) (by decide) (Nat.le_of_ble_eq_true rfl) dX5_init_71 rfl (fun r S1 hp => ?_)
  subst hp
  refine sX5_53 (n := 77) C hname hkv dX5_init_74 rfl ?_
  refine t_v C dX5_init_77 (by decide) ?_
  exact ⟨cv, w, L, R, oi, nPl_of hk hzw hF hzoi hzcv⟩
