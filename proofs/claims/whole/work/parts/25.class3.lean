theorem Sw_ext {S T : Sw} (h1 : ∀ a, sK S a = sK T a) (h2 : ∀ f a, fI S f a = fI T f a) (h3 : ∀ f a, fJ S f a = fJ T f a) (h4 : ∀ f a, fR S f a = fR T f a) (h5 : ∀ a, aN S a = aN T a) (h6 : ∀ a i, aI S a i = aI T a i) (h7 : ∀ a i, aR S a i = aR T a i) (h8 : ∀ a i, aD S a i = aD T a i) (h9 : ∀ a i, aJ S a i = aJ T a i) : S = T :=
  Prod.ext (funext h1) (Prod.ext (funext fun f => funext fun a => h2 f a) (Prod.ext (funext fun f => funext fun a => h3 f a) (Prod.ext (funext fun f => funext fun a => h4 f a) (Prod.ext (funext h5) (Prod.ext (funext fun f => funext fun a => h6 f a) (Prod.ext (funext fun f => funext fun a => h7 f a) (Prod.ext (funext fun f => funext fun a => h8 f a) (funext fun f => funext fun a => h9 f a))))))))
def ilv (f g : Nat → Int32) : Nat → Int32 := fun i => if i % 2 = 0 then f (i / 2) else g (i / 2)
theorem ilv_e (f g : Nat → Int32) (k : Nat) : ilv f g (2 * k) = f k := by unfold ilv; rw [if_pos (by omega), show 2 * k / 2 = k by omega]
theorem ilv_o (f g : Nat → Int32) (k : Nat) : ilv f g (2 * k + 1) = g k := by unfold ilv; rw [if_neg (by omega), show (2 * k + 1) / 2 = k by omega]
theorem pw_s2 (f g o : Nat → Int32) (k : Nat) : sr (sr (pw (ilv f g) o (2 * k)) (2 * k) (f k)) (2 * k + 1) (g k) = pw (ilv f g) o (2 * (k + 1)) := by
  rw [← ilv_e f g k, pw_s, ← ilv_o f g k, pw_s]
  rfl
set_option maxRecDepth 100000 in
set_option maxHeartbeats 1000000 in
theorem c_fill {l : Launch} {G : GG} {b : Nat} (hst : l.stackTraces = false) (S : Sw) (row N : Nat) (hi : isI S row N) (v : Int32) : Ct l G b yJ7_fill_53178 cJ7_fill_53178 4 none rmJ7_fill_53178 mV [.ref row, .int v] S (fun _ S' => S' = wIs S row (pw (fun _ => v) (aI S row) N)) := by
  refine Ct.of2 (by decide +kernel) (own := RJ7) rfl (Nat.le_of_ble_eq_true rfl) hst ?_
  intro p e s m args below meth c C hname
  change J p l e rmJ7_fill_53178 s m args below meth c 4 G b _ 0 [(0, .ref row), (1, .int v)] [] S 0 0
  refine r_iconst (v := 0) (n := 1) C dJ7_fill_53178_0 rfl rfl ?_
  refine r_istore_n (i := 2) (n := 2) C dJ7_fill_53178_1 rfl (by decide) rfl rfl ?_
  refine r_aload_n (i := 0) (n := 3) C dJ7_fill_53178_2 rfl rfl rfl ?_
  refine r_alen (n := 4) C hi.1 (by rw [hi.2.1]) dJ7_fill_53178_3 rfl ?_
  refine r_istore_n (i := 3) (n := 5) C dJ7_fill_53178_4 rfl (by decide) rfl rfl ?_
  have hi2 := hi.2.2
  have lp : ∀ (q k : Nat), k + q = N → J p l e rmJ7_fill_53178 s m args below meth c 4 G b (vx_MQ below (Qp G b mV (fun _ S' => S' = wIs S row (pw (fun _ => v) (aI S row) N))) (XCp G b S (fun _ => False)) args s rmJ7_fill_53178.cells rmJ7_fill_53178.slots (Ab b)) 5 [(0, .ref row), (1, .int v), (2, .int (nI k)), (3, .int (nI N))] [] (wIs S row (pw (fun _ => v) (aI S row) k)) 0 0 := by
    intro q
    induction q with
    | zero =>
      intro k hk
      rw [show k = N by omega]
      refine r_iload_n (i := 2) (n := 6) C dJ7_fill_53178_5 rfl rfl rfl ?_
      refine r_iload_n (i := 3) (n := 7) C dJ7_fill_53178_6 rfl rfl rfl ?_
      refine r_icmp_geT (t := 20) C (cle (a := N) (b := N) rfl rfl (by omega) (by omega)) dJ7_fill_53178_7 (by decide) ?_
      refine t_v C dJ7_fill_53178_20 (by decide) ?_
      rfl
    | succ q ih =>
      intro k hk
      refine r_iload_n (i := 2) (n := 6) C dJ7_fill_53178_5 rfl rfl rfl ?_
      refine r_iload_n (i := 3) (n := 7) C dJ7_fill_53178_6 rfl rfl rfl ?_
      refine r_icmp_geF (n := 10) (t := 20) C (cnle (a := N) (b := k) rfl rfl (by omega) (by omega)) dJ7_fill_53178_7 (by decide) rfl ?_
      refine r_aload_n (i := 0) (n := 11) C dJ7_fill_53178_10 rfl rfl rfl ?_
      refine r_iload_n (i := 2) (n := 12) C dJ7_fill_53178_11 rfl rfl rfl ?_
      refine r_iload_n (i := 1) (n := 13) C dJ7_fill_53178_12 rfl rfl rfl ?_
      refine q_iast (n := 14) C (k) (by first | with_reducible assumption | (simp only [sK_uI, sK_uJ, sK_uR, sK_wI, sK_wR, sK_wD, sK_wJ, sK_wIs, aN_uI, aN_uJ, aN_uR, aN_wI, aN_wR, aN_wD, aN_wJ, aN_wIs, fR_uI, fR_uJ, fR_wI, fR_wR, fR_wD, fR_wJ, fR_wIs, isI_uI, isI_uJ, isI_wI, isI_wR, isI_wD, isI_wJ, isI_wIs, isC_uI, isC_uJ, isC_wI, isC_wR, isC_wD, isC_wJ, isC_wIs, isG_uI, isG_uJ, isG_wI, isG_wR, isG_wD, isG_wJ, isG_wIs, isZ_uI, isZ_uJ, isZ_wI, isZ_wR, isZ_wD, isZ_wJ, isZ_wIs, isD_uI, isD_uJ, isD_wI, isD_wR, isD_wD, isD_wJ, isD_wIs, isL_uI, isL_uJ, isL_wI, isL_wR, isL_wD, isL_wJ, isL_wIs]; with_reducible assumption)) rfl (by omega) dJ7_fill_53178_13 rfl ?_
      refine r_iinc (n := 17) C dJ7_fill_53178_14 rfl rfl (by decide) rfl rfl ?_
      refine r_goto (t := 5) C dJ7_fill_53178_17 (by decide) ?_
      rw [wI_wIs, show (fun i => if i = k then v else pw (fun _ => v) (aI S row) k i) = pw (fun _ => v) (aI S row) (k + 1) from pw_s (fun _ => v) _ k]
      exact J.to (by rw [show nI k + Int32.ofInt 1 = nI (k + 1) from nI_1 k]; rfl) (ih (k + 1) (by omega))
  have e0 := lp N 0 (by omega)
  rw [pw_0, wIs_self] at e0
  exact J.to rfl e0
def sq1 (r : Nat → Int32) : Nat → Int64
  | 0 => 0
  | k + 1 => sq1 r k + (r k).toInt64 * (r k).toInt64
set_option maxRecDepth 100000 in
set_option maxHeartbeats 1000000 in
theorem c_sumSq {l : Launch} {G : GG} {b : Nat} (hst : l.stackTraces = false) (S : Sw) (row : Nat) (hi : isI S row 48) : Ct l G b yX5_sumOfSquares cX5_sumOfSquares 4 (some .long) rmX5_sumOfSquares mJ [.ref row] S (fun r S' => S' = S ∧ r = sq1 (aI S row) 48) := by
  refine Ct.of2 pnX5 (own := RX5) rfl (Nat.le_of_ble_eq_true rfl) hst ?_
  intro p e s m args below meth c C hname
  change J p l e rmX5_sumOfSquares s m args below meth c 4 G b _ 0 [(0, .ref row)] [] S 0 0
  refine r_lconst (v := 0) (n := 1) C dX5_sumOfSquares_0 rfl rfl ?_
  refine r_lstore_n (i := 1) (n := 2) C dX5_sumOfSquares_1 rfl (by decide) rfl rfl ?_
  refine r_iconst (v := 0) (n := 3) C dX5_sumOfSquares_2 rfl rfl ?_
  refine r_istore_n (i := 3) (n := 4) C dX5_sumOfSquares_3 rfl (by decide) rfl rfl ?_
  have lp : ∀ (q k : Nat), k + q = 48 → J p l e rmX5_sumOfSquares s m args below meth c 4 G b (vx_MQ below (Qp G b mJ (fun r S' => S' = S ∧ r = sq1 (aI S row) 48)) (XCp G b S (fun _ => False)) args s rmX5_sumOfSquares.cells rmX5_sumOfSquares.slots (Ab b)) 4 [(0, .ref row), (1, .long (sq1 (aI S row) k)), (3, .int (nI k))] [] S 0 0 := by
    intro q
    induction q with
    | zero =>
      intro k hk
      obtain rfl : k = 48 := by omega
      refine r_iload_n (i := 3) (n := 5) C dX5_sumOfSquares_4 rfl rfl rfl ?_
      refine r_bipush (v := 48) (n := 7) C dX5_sumOfSquares_5 rfl rfl ?_
      refine r_icmp_geT (t := 28) C (cle (a := 48) (b := 48) rfl rfl (by omega) (by omega)) dX5_sumOfSquares_7 (by decide) ?_
      refine r_lload_n (i := 1) (n := 29) C dX5_sumOfSquares_28 rfl rfl rfl ?_
      refine t_j C dX5_sumOfSquares_29 (by decide) ?_
      exact ⟨rfl, rfl⟩
    | succ q ih =>
      intro k hk
      refine r_iload_n (i := 3) (n := 5) C dX5_sumOfSquares_4 rfl rfl rfl ?_
      refine r_bipush (v := 48) (n := 7) C dX5_sumOfSquares_5 rfl rfl ?_
      refine r_icmp_geF (n := 10) (t := 28) C (cnle (a := 48) (b := k) rfl rfl (by omega) (by omega)) dX5_sumOfSquares_7 (by decide) rfl ?_
      refine r_lload_n (i := 1) (n := 11) C dX5_sumOfSquares_10 rfl rfl rfl ?_
      refine r_aload_n (i := 0) (n := 12) C dX5_sumOfSquares_11 rfl rfl rfl ?_
      refine r_iload_n (i := 3) (n := 13) C dX5_sumOfSquares_12 rfl rfl rfl ?_
      refine q_iald (n := 14) C (k) (by first | with_reducible assumption | (simp only [sK_uI, sK_uJ, sK_uR, sK_wI, sK_wR, sK_wD, sK_wJ, sK_wIs, aN_uI, aN_uJ, aN_uR, aN_wI, aN_wR, aN_wD, aN_wJ, aN_wIs, fR_uI, fR_uJ, fR_wI, fR_wR, fR_wD, fR_wJ, fR_wIs, isI_uI, isI_uJ, isI_wI, isI_wR, isI_wD, isI_wJ, isI_wIs, isC_uI, isC_uJ, isC_wI, isC_wR, isC_wD, isC_wJ, isC_wIs, isG_uI, isG_uJ, isG_wI, isG_wR, isG_wD, isG_wJ, isG_wIs, isZ_uI, isZ_uJ, isZ_wI, isZ_wR, isZ_wD, isZ_wJ, isZ_wIs, isD_uI, isD_uJ, isD_wI, isD_wR, isD_wD, isD_wJ, isD_wIs, isL_uI, isL_uJ, isL_wI, isL_wR, isL_wD, isL_wJ, isL_wIs]; with_reducible assumption)) rfl (by omega) dX5_sumOfSquares_13 rfl ?_
      refine r_i2l (n := 15) C dX5_sumOfSquares_14 rfl ?_
      refine r_aload_n (i := 0) (n := 16) C dX5_sumOfSquares_15 rfl rfl rfl ?_
      refine r_iload_n (i := 3) (n := 17) C dX5_sumOfSquares_16 rfl rfl rfl ?_
      refine q_iald (n := 18) C (k) (by first | with_reducible assumption | (simp only [sK_uI, sK_uJ, sK_uR, sK_wI, sK_wR, sK_wD, sK_wJ, sK_wIs, aN_uI, aN_uJ, aN_uR, aN_wI, aN_wR, aN_wD, aN_wJ, aN_wIs, fR_uI, fR_uJ, fR_wI, fR_wR, fR_wD, fR_wJ, fR_wIs, isI_uI, isI_uJ, isI_wI, isI_wR, isI_wD, isI_wJ, isI_wIs, isC_uI, isC_uJ, isC_wI, isC_wR, isC_wD, isC_wJ, isC_wIs, isG_uI, isG_uJ, isG_wI, isG_wR, isG_wD, isG_wJ, isG_wIs, isZ_uI, isZ_uJ, isZ_wI, isZ_wR, isZ_wD, isZ_wJ, isZ_wIs, isD_uI, isD_uJ, isD_wI, isD_wR, isD_wD, isD_wJ, isD_wIs, isL_uI, isL_uJ, isL_wI, isL_wR, isL_wD, isL_wJ, isL_wIs]; with_reducible assumption)) rfl (by omega) dX5_sumOfSquares_17 rfl ?_
      refine r_i2l (n := 19) C dX5_sumOfSquares_18 rfl ?_
      refine r_lmul (n := 20) C dX5_sumOfSquares_19 rfl ?_
      refine r_ladd (n := 21) C dX5_sumOfSquares_20 rfl ?_
      refine r_lstore_n (i := 1) (n := 22) C dX5_sumOfSquares_21 rfl (by decide) rfl rfl ?_
      refine r_iinc (n := 25) C dX5_sumOfSquares_22 rfl rfl (by decide) rfl rfl ?_
      refine r_goto (t := 4) C dX5_sumOfSquares_25 (by decide) ?_
      exact J.to (by rw [show nI k + Int32.ofInt 1 = nI (k + 1) from nI_1 k]; rfl) (ih (k + 1) (by omega))
  exact J.to rfl (lp 48 0 (by omega))
def ald (s r : Nat → Int32) (g : Int32) : Nat → Int32 := fun i => s i + jFd (r i * g) 256
set_option maxRecDepth 100000 in
set_option maxHeartbeats 1000000 in
theorem c_addLoud {l : Launch} {G : GG} {b : Nat} (hst : l.stackTraces = false) (S : Sw) (a : Nat) (hk : sK S a = 5) (row sm : Nat) (hi : isI S row 48) (hi2 : isI S sm 48) (hne : row ≠ sm) : Ct l G b yX5_addLoud cX5_addLoud 4 none rmX5_addLoud mV [.ref a, .ref row, .ref sm] S (fun _ S' => S' = wIs S sm (pw (ald (aI S sm) (aI S row) (fI S 508 a)) (aI S sm) 48)) := by
  refine Ct.of2 pnX5 (own := RX5) rfl (Nat.le_of_ble_eq_true rfl) hst ?_
  intro p e s m args below meth c C hname
  change J p l e rmX5_addLoud s m args below meth c 4 G b _ 0 [(0, .ref a), (1, .ref row), (2, .ref sm)] [] S 0 0
  refine r_iconst (v := 0) (n := 1) C dX5_addLoud_0 rfl rfl ?_
  refine r_istore_n (i := 3) (n := 2) C dX5_addLoud_1 rfl (by decide) rfl rfl ?_
  have lp : ∀ (q k : Nat), k + q = 48 → J p l e rmX5_addLoud s m args below meth c 4 G b (vx_MQ below (Qp G b mV (fun _ S' => S' = wIs S sm (pw (ald (aI S sm) (aI S row) (fI S 508 a)) (aI S sm) 48))) (XCp G b S (fun _ => False)) args s rmX5_addLoud.cells rmX5_addLoud.slots (Ab b)) 2 [(0, .ref a), (1, .ref row), (2, .ref sm), (3, .int (nI k))] [] (wIs S sm (pw (ald (aI S sm) (aI S row) (fI S 508 a)) (aI S sm) k)) 0 0 := by
    intro q
    induction q with
    | zero =>
      intro k hk
      obtain rfl : k = 48 := by omega
      refine r_iload_n (i := 3) (n := 3) C dX5_addLoud_2 rfl rfl rfl ?_
      refine r_bipush (v := 48) (n := 5) C dX5_addLoud_3 rfl rfl ?_
      refine r_icmp_geT (t := 34) C (cle (a := 48) (b := 48) rfl rfl (by omega) (by omega)) dX5_addLoud_5 (by decide) ?_
      refine t_v C dX5_addLoud_34 (by decide) ?_
      rfl
    | succ q ih =>
      intro k hk
      refine r_iload_n (i := 3) (n := 3) C dX5_addLoud_2 rfl rfl rfl ?_
      refine r_bipush (v := 48) (n := 5) C dX5_addLoud_3 rfl rfl ?_
      refine r_icmp_geF (n := 8) (t := 34) C (cnle (a := 48) (b := k) rfl rfl (by omega) (by omega)) dX5_addLoud_5 (by decide) rfl ?_
      refine r_aload_n (i := 2) (n := 9) C dX5_addLoud_8 rfl rfl rfl ?_
      refine r_iload_n (i := 3) (n := 10) C dX5_addLoud_9 rfl rfl rfl ?_
      refine r_dup2_11 (n := 11) C dX5_addLoud_10 rfl rfl rfl ?_
      refine q_ialdv (n := 12) (v := aI S sm k) C (k) (by first | with_reducible assumption | (simp only [sK_uI, sK_uJ, sK_uR, sK_wI, sK_wR, sK_wD, sK_wJ, sK_wIs, aN_uI, aN_uJ, aN_uR, aN_wI, aN_wR, aN_wD, aN_wJ, aN_wIs, fR_uI, fR_uJ, fR_wI, fR_wR, fR_wD, fR_wJ, fR_wIs, isI_uI, isI_uJ, isI_wI, isI_wR, isI_wD, isI_wJ, isI_wIs, isC_uI, isC_uJ, isC_wI, isC_wR, isC_wD, isC_wJ, isC_wIs, isG_uI, isG_uJ, isG_wI, isG_wR, isG_wD, isG_wJ, isG_wIs, isZ_uI, isZ_uJ, isZ_wI, isZ_wR, isZ_wD, isZ_wJ, isZ_wIs, isD_uI, isD_uJ, isD_wI, isD_wR, isD_wD, isD_wJ, isD_wIs, isL_uI, isL_uJ, isL_wI, isL_wR, isL_wD, isL_wJ, isL_wIs]; with_reducible assumption)) rfl (by omega) dX5_addLoud_11 rfl ((if_pos rfl).trans (pw_ge (Nat.le_refl k))) ?_
      refine r_aload_n (i := 1) (n := 13) C dX5_addLoud_12 rfl rfl rfl ?_
      refine r_iload_n (i := 3) (n := 14) C dX5_addLoud_13 rfl rfl rfl ?_
      refine q_ialdv (n := 15) (v := aI S row k) C (k) (by first | with_reducible assumption | (simp only [sK_uI, sK_uJ, sK_uR, sK_wI, sK_wR, sK_wD, sK_wJ, sK_wIs, aN_uI, aN_uJ, aN_uR, aN_wI, aN_wR, aN_wD, aN_wJ, aN_wIs, fR_uI, fR_uJ, fR_wI, fR_wR, fR_wD, fR_wJ, fR_wIs, isI_uI, isI_uJ, isI_wI, isI_wR, isI_wD, isI_wJ, isI_wIs, isC_uI, isC_uJ, isC_wI, isC_wR, isC_wD, isC_wJ, isC_wIs, isG_uI, isG_uJ, isG_wI, isG_wR, isG_wD, isG_wJ, isG_wIs, isZ_uI, isZ_uJ, isZ_wI, isZ_wR, isZ_wD, isZ_wJ, isZ_wIs, isD_uI, isD_uJ, isD_wI, isD_wR, isD_wD, isD_wJ, isD_wIs, isL_uI, isL_uJ, isL_wI, isL_wR, isL_wD, isL_wJ, isL_wIs]; with_reducible assumption)) rfl (by omega) dX5_addLoud_14 rfl (aI_wsn hne) ?_
      refine r_aload_n (i := 0) (n := 16) C dX5_addLoud_15 rfl rfl rfl ?_
      refine gX5_24 (n := 19) C (by first | with_reducible assumption | (simp only [sK_uI, sK_uJ, sK_uR, sK_wI, sK_wR, sK_wD, sK_wJ, sK_wIs, aN_uI, aN_uJ, aN_uR, aN_wI, aN_wR, aN_wD, aN_wJ, aN_wIs, fR_uI, fR_uJ, fR_wI, fR_wR, fR_wD, fR_wJ, fR_wIs, isI_uI, isI_uJ, isI_wI, isI_wR, isI_wD, isI_wJ, isI_wIs, isC_uI, isC_uJ, isC_wI, isC_wR, isC_wD, isC_wJ, isC_wIs, isG_uI, isG_uJ, isG_wI, isG_wR, isG_wD, isG_wJ, isG_wIs, isZ_uI, isZ_uJ, isZ_wI, isZ_wR, isZ_wD, isZ_wJ, isZ_wIs, isD_uI, isD_uJ, isD_wI, isD_wR, isD_wD, isD_wJ, isD_wIs, isL_uI, isL_uJ, isL_wI, isL_wR, isL_wD, isL_wJ, isL_wIs]; with_reducible assumption)) dX5_addLoud_16 rfl ?_
      refine r_imul (n := 20) C dX5_addLoud_19 rfl ?_
      refine r_sipush (v := 256) (n := 23) C dX5_addLoud_20 rfl rfl ?_
      refine kX5_114 (n := 26) C (c_fd hst (wIs S sm (pw (ald (aI S sm) (aI S row) (fI S 508 a)) (aI S sm) k)) (aI S row k * fI S 508 a) 256 (by decide)) (by decide) (by decide) (Nat.le_of_ble_eq_true rfl) dX5_addLoud_23 rfl (fun r S1 hp => ?_)
      obtain ⟨hS, hr⟩ := hp
      subst S1
      subst r
      refine r_iadd (n := 27) C dX5_addLoud_26 rfl ?_
      refine q_iast (n := 28) C (k) (by first | with_reducible assumption | (simp only [sK_uI, sK_uJ, sK_uR, sK_wI, sK_wR, sK_wD, sK_wJ, sK_wIs, aN_uI, aN_uJ, aN_uR, aN_wI, aN_wR, aN_wD, aN_wJ, aN_wIs, fR_uI, fR_uJ, fR_wI, fR_wR, fR_wD, fR_wJ, fR_wIs, isI_uI, isI_uJ, isI_wI, isI_wR, isI_wD, isI_wJ, isI_wIs, isC_uI, isC_uJ, isC_wI, isC_wR, isC_wD, isC_wJ, isC_wIs, isG_uI, isG_uJ, isG_wI, isG_wR, isG_wD, isG_wJ, isG_wIs, isZ_uI, isZ_uJ, isZ_wI, isZ_wR, isZ_wD, isZ_wJ, isZ_wIs, isD_uI, isD_uJ, isD_wI, isD_wR, isD_wD, isD_wJ, isD_wIs, isL_uI, isL_uJ, isL_wI, isL_wR, isL_wD, isL_wJ, isL_wIs]; with_reducible assumption)) rfl (by omega) dX5_addLoud_27 rfl ?_
      refine r_iinc (n := 31) C dX5_addLoud_28 rfl rfl (by decide) rfl rfl ?_
      refine r_goto (t := 2) C dX5_addLoud_31 (by decide) ?_
      rw [wI_wIs, show (fun i => if i = k then aI S sm k + jFd (aI S row k * fI S 508 a) 256 else pw (ald (aI S sm) (aI S row) (fI S 508 a)) (aI S sm) k i) = pw (ald (aI S sm) (aI S row) (fI S 508 a)) (aI S sm) (k + 1) from pw_s (ald (aI S sm) (aI S row) (fI S 508 a)) _ k]
      exact J.to (by rw [show nI k + Int32.ofInt 1 = nI (k + 1) from nI_1 k]; rfl) (ih (k + 1) (by omega))
  have e0 := lp 48 0 (by omega)
  rw [pw_0, wIs_self] at e0
  exact J.to rfl e0
set_option maxRecDepth 100000 in
set_option maxHeartbeats 1000000 in
theorem c_markHeard {l : Launch} {G : GG} {b : Nat} (hst : l.stackTraces = false) (S : Sw) (a : Nat) (hk : sK S a = 5) (oi sl : Nat) (hoi : fR S 507 a = some oi) (hi : isI S oi 4) (hsl : sl < 4) : Ct l G b yX5_markHeard cX5_markHeard 2 none rmX5_markHeard mV [.ref a, .int (nI sl)] S (fun _ S' => S' = uJ S 513 a (fJ S 513 a + (aI S oi sl).toInt64)) := by
  refine Ct.of2 pnX5 (own := RX5) rfl (Nat.le_of_ble_eq_true rfl) hst ?_
  intro p e s m args below meth c C hname
  change J p l e rmX5_markHeard s m args below meth c 2 G b _ 0 [(0, .ref a), (1, .int (nI sl))] [] S 0 0
  refine r_aload_n (i := 0) (n := 1) C dX5_markHeard_0 rfl rfl rfl ?_
  refine r_dup (n := 2) C dX5_markHeard_1 rfl rfl ?_
  refine gX5_41 (n := 5) C (by first | with_reducible assumption | (simp only [sK_uI, sK_uJ, sK_uR, sK_wI, sK_wR, sK_wD, sK_wJ, sK_wIs, aN_uI, aN_uJ, aN_uR, aN_wI, aN_wR, aN_wD, aN_wJ, aN_wIs, fR_uI, fR_uJ, fR_wI, fR_wR, fR_wD, fR_wJ, fR_wIs, isI_uI, isI_uJ, isI_wI, isI_wR, isI_wD, isI_wJ, isI_wIs, isC_uI, isC_uJ, isC_wI, isC_wR, isC_wD, isC_wJ, isC_wIs, isG_uI, isG_uJ, isG_wI, isG_wR, isG_wD, isG_wJ, isG_wIs, isZ_uI, isZ_uJ, isZ_wI, isZ_wR, isZ_wD, isZ_wJ, isZ_wIs, isD_uI, isD_uJ, isD_wI, isD_wR, isD_wD, isD_wJ, isD_wIs, isL_uI, isL_uJ, isL_wI, isL_wR, isL_wD, isL_wJ, isL_wIs]; with_reducible assumption)) dX5_markHeard_2 rfl ?_
  refine r_aload_n (i := 0) (n := 6) C dX5_markHeard_5 rfl rfl rfl ?_
  refine gX5_20 (n := 9) C (by first | with_reducible assumption | (simp only [sK_uI, sK_uJ, sK_uR, sK_wI, sK_wR, sK_wD, sK_wJ, sK_wIs, aN_uI, aN_uJ, aN_uR, aN_wI, aN_wR, aN_wD, aN_wJ, aN_wIs, fR_uI, fR_uJ, fR_wI, fR_wR, fR_wD, fR_wJ, fR_wIs, isI_uI, isI_uJ, isI_wI, isI_wR, isI_wD, isI_wJ, isI_wIs, isC_uI, isC_uJ, isC_wI, isC_wR, isC_wD, isC_wJ, isC_wIs, isG_uI, isG_uJ, isG_wI, isG_wR, isG_wD, isG_wJ, isG_wIs, isZ_uI, isZ_uJ, isZ_wI, isZ_wR, isZ_wD, isZ_wJ, isZ_wIs, isD_uI, isD_uJ, isD_wI, isD_wR, isD_wD, isD_wJ, isD_wIs, isL_uI, isL_uJ, isL_wI, isL_wR, isL_wD, isL_wJ, isL_wIs]; with_reducible assumption)) (by first | with_reducible assumption | (simp only [sK_uI, sK_uJ, sK_uR, sK_wI, sK_wR, sK_wD, sK_wJ, sK_wIs, aN_uI, aN_uJ, aN_uR, aN_wI, aN_wR, aN_wD, aN_wJ, aN_wIs, fR_uI, fR_uJ, fR_wI, fR_wR, fR_wD, fR_wJ, fR_wIs, isI_uI, isI_uJ, isI_wI, isI_wR, isI_wD, isI_wJ, isI_wIs, isC_uI, isC_uJ, isC_wI, isC_wR, isC_wD, isC_wJ, isC_wIs, isG_uI, isG_uJ, isG_wI, isG_wR, isG_wD, isG_wJ, isG_wIs, isZ_uI, isZ_uJ, isZ_wI, isZ_wR, isZ_wD, isZ_wJ, isZ_wIs, isD_uI, isD_uJ, isD_wI, isD_wR, isD_wD, isD_wJ, isD_wIs, isL_uI, isL_uJ, isL_wI, isL_wR, isL_wD, isL_wJ, isL_wIs]; with_reducible assumption)) dX5_markHeard_6 rfl ?_
  refine r_iload_n (i := 1) (n := 10) C dX5_markHeard_9 rfl rfl rfl ?_
  refine q_iald (n := 11) C (sl) (by first | with_reducible assumption | (simp only [sK_uI, sK_uJ, sK_uR, sK_wI, sK_wR, sK_wD, sK_wJ, sK_wIs, aN_uI, aN_uJ, aN_uR, aN_wI, aN_wR, aN_wD, aN_wJ, aN_wIs, fR_uI, fR_uJ, fR_wI, fR_wR, fR_wD, fR_wJ, fR_wIs, isI_uI, isI_uJ, isI_wI, isI_wR, isI_wD, isI_wJ, isI_wIs, isC_uI, isC_uJ, isC_wI, isC_wR, isC_wD, isC_wJ, isC_wIs, isG_uI, isG_uJ, isG_wI, isG_wR, isG_wD, isG_wJ, isG_wIs, isZ_uI, isZ_uJ, isZ_wI, isZ_wR, isZ_wD, isZ_wJ, isZ_wIs, isD_uI, isD_uJ, isD_wI, isD_wR, isD_wD, isD_wJ, isD_wIs, isL_uI, isL_uJ, isL_wI, isL_wR, isL_wD, isL_wJ, isL_wIs]; with_reducible assumption)) rfl (by omega) dX5_markHeard_10 rfl ?_
  refine r_i2l (n := 12) C dX5_markHeard_11 rfl ?_
  refine r_ladd (n := 13) C dX5_markHeard_12 rfl ?_
  refine sX5_41 (n := 16) C (by first | with_reducible assumption | (simp only [sK_uI, sK_uJ, sK_uR, sK_wI, sK_wR, sK_wD, sK_wJ, sK_wIs, aN_uI, aN_uJ, aN_uR, aN_wI, aN_wR, aN_wD, aN_wJ, aN_wIs, fR_uI, fR_uJ, fR_wI, fR_wR, fR_wD, fR_wJ, fR_wIs, isI_uI, isI_uJ, isI_wI, isI_wR, isI_wD, isI_wJ, isI_wIs, isC_uI, isC_uJ, isC_wI, isC_wR, isC_wD, isC_wJ, isC_wIs, isG_uI, isG_uJ, isG_wI, isG_wR, isG_wD, isG_wJ, isG_wIs, isZ_uI, isZ_uJ, isZ_wI, isZ_wR, isZ_wD, isZ_wJ, isZ_wIs, isD_uI, isD_uJ, isD_wI, isD_wR, isD_wD, isD_wJ, isD_wIs, isL_uI, isL_uJ, isL_wI, isL_wR, isL_wD, isL_wJ, isL_wIs]; with_reducible assumption)) dX5_markHeard_13 rfl ?_
  refine t_v C dX5_markHeard_16 (by decide) ?_
  rfl
set_option maxRecDepth 100000 in
set_option maxHeartbeats 1000000 in
theorem c_numbersNow5e {l : Launch} {G : GG} {b : Nat} (hst : l.stackTraces = false) (S : Sw) (a : Nat) (hk : sK S a = 5) (he : fI S 2 a = 3 ∨ fI S 2 a = 4) : Ct l G b yX5_numbersNow cX5_numbersNow 1 (some .int) rmX5_numbersNow mI [.ref a] S (fun r S' => S' = S ∧ r = 0) := by
  refine Ct.of2 pnX5 (own := RX5) rfl (Nat.le_of_ble_eq_true rfl) hst ?_
  intro p e s m args below meth c C hname
  change J p l e rmX5_numbersNow s m args below meth c 1 G b _ 0 [(0, .ref a)] [] S 0 0
  refine r_aload_n (i := 0) (n := 1) C dX5_numbersNow_0 rfl rfl rfl ?_
  refine kX5_60 (n := 4) C (c_isEnding hst S a hk) hk (by decide) (by decide) (Nat.le_of_ble_eq_true rfl) dX5_numbersNow_1 rfl (fun r S1 hp => ?_)
  obtain ⟨hS9, hr9⟩ := hp
  subst S1
  subst r
  rw [if_pos he]
  refine r_if_eqF (n := 7) (t := 11) C (by decide) dX5_numbersNow_4 (by decide) rfl ?_
  refine r_iconst (v := 0) (n := 8) C dX5_numbersNow_7 rfl rfl ?_
  refine r_goto (t := 19) C dX5_numbersNow_8 (by decide) ?_
  refine t_i C rfl dX5_numbersNow_19 (by decide) ?_
  exact ⟨rfl, rfl⟩
set_option maxRecDepth 100000 in
set_option maxHeartbeats 1000000 in
theorem c_numbersNow5 {l : Launch} {G : GG} {b : Nat} (hst : l.stackTraces = false) (S : Sw) (a : Nat) (hk : sK S a = 5) (cv t rr : Nat) (hcv : fR S 505 a = some cv) (hvc : vC S cv t rr 48000) (hr : rtN rr) (w L R n : Nat) (hw : fR S 506 a = some w) (hfc : fC S w L R n) (hn : n < 2 ^ 20) (nx : Nat) (hnx : fJ S 512 a = lN nx) (hnx2 : nx < 2 ^ 19) (he : ¬ (fI S 2 a = 3 ∨ fI S 2 a = 4)) : Ct l G b yX5_numbersNow cX5_numbersNow 1 (some .int) rmX5_numbersNow mI [.ref a] S (fun r S' => S' = S ∧ r = (200 - (lN n - lN (nx * rr / 48000))).toInt32 * fI S 0 a - (if fI S 4 a = 0 then 0 else 1)) := by
  refine Ct.of2 pnX5 (own := RX5) rfl (Nat.le_of_ble_eq_true rfl) hst ?_
  intro p e s m args below meth c C hname
  change J p l e rmX5_numbersNow s m args below meth c 1 G b _ 0 [(0, .ref a)] [] S 0 0
  refine r_aload_n (i := 0) (n := 1) C dX5_numbersNow_0 rfl rfl rfl ?_
  refine kX5_60 (n := 4) C (c_isEnding hst S a hk) hk (by decide) (by decide) (Nat.le_of_ble_eq_true rfl) dX5_numbersNow_1 rfl (fun r S1 hp => ?_)
  obtain ⟨hS9, hr9⟩ := hp
  subst S1
  subst r
  rw [if_neg he]
  refine r_if_eqT (t := 11) C rfl dX5_numbersNow_4 (by decide) ?_
  refine r_aload_n (i := 0) (n := 12) C dX5_numbersNow_11 rfl rfl rfl ?_
  refine r_aload_n (i := 0) (n := 13) C dX5_numbersNow_12 rfl rfl rfl ?_
  refine kX5_64 (n := 16) C (c_freeFrames hst S a hk cv t rr hcv hvc hr w L R n hw hfc hn nx hnx hnx2) hk (by decide) (by decide) (Nat.le_of_ble_eq_true rfl) dX5_numbersNow_13 rfl (fun r S1 hp => ?_)
  obtain ⟨hS9, hr9⟩ := hp
  subst S1
  subst r
  refine kX5_68 (n := 19) C (c_numbersOf_5 hst S a hk _) hk (by decide) (by decide) (Nat.le_of_ble_eq_true rfl) dX5_numbersNow_16 rfl (fun r S1 hp => ?_)
  obtain ⟨hS9, hr9⟩ := hp
  subst S1
  subst r
  refine t_i C rfl dX5_numbersNow_19 (by decide) ?_
  exact ⟨rfl, rfl⟩
def pSmp (S : Sw) (a : Nat) (v : Int32) : Int32 := if fI S 1 a = 8 then (v - 128) * 256 else v
set_option maxRecDepth 100000 in
set_option maxHeartbeats 1000000 in
theorem c_accept_f {l : Launch} {G : GG} {b : Nat} (hst : l.stackTraces = false) (S : Sw) (a : Nat) (hk : sK S a = 5) (cv t rr : Nat) (hcv : fR S 505 a = some cv) (hvc : vC S cv t rr 48000) (hr : rtN rr) (w L R n : Nat) (hw : fR S 506 a = some w) (hfc : fC S w L R n) (hn : n < 2 ^ 20) (nx : Nat) (hnx : fJ S 512 a = lN nx) (hnx2 : nx < 2 ^ 19) (v : Int32) (hf : ¬ 1 ≤ 200 - (lN n - lN (nx * rr / 48000))) : Ct l G b yX5_accept cX5_accept 3 (some .boolean) rmX5_accept mI [.ref a, .int v] S (fun r S' => S' = S ∧ r = 0) := by
  refine Ct.of2 pnX5 (own := RX5) rfl (Nat.le_of_ble_eq_true rfl) hst ?_
  intro p e s m args below meth c C hname
  change J p l e rmX5_accept s m args below meth c 3 G b _ 0 [(0, .ref a), (1, .int v)] [] S 0 0
  refine r_aload_n (i := 0) (n := 1) C dX5_accept_0 rfl rfl rfl ?_
  refine kX5_64 (n := 4) C (c_freeFrames hst S a hk cv t rr hcv hvc hr w L R n hw hfc hn nx hnx hnx2) hk (by decide) (by decide) (Nat.le_of_ble_eq_true rfl) dX5_accept_1 rfl (fun r S1 hp => ?_)
  obtain ⟨hS9, hr9⟩ := hp
  subst S1
  subst r
  refine r_lconst (v := 1) (n := 5) C dX5_accept_4 rfl rfl ?_
  refine r_lcmp (n := 6) C dX5_accept_5 rfl ?_
  refine r_if_geF (n := 9) (t := 11) C (fun q => hf ((lg_cmp_ge _ _).mp q)) dX5_accept_6 (by decide) rfl ?_
  refine r_iconst (v := 0) (n := 10) C dX5_accept_9 rfl rfl ?_
  refine t_i C rfl dX5_accept_10 (by decide) ?_
  exact ⟨rfl, rfl⟩
set_option maxRecDepth 100000 in
set_option maxHeartbeats 1000000 in
theorem c_accept_1 {l : Launch} {G : GG} {b : Nat} (hst : l.stackTraces = false) (S : Sw) (a : Nat) (hk : sK S a = 5) (cv t rr : Nat) (hcv : fR S 505 a = some cv) (hvc : vC S cv t rr 48000) (hr : rtN rr) (w L R n : Nat) (hw : fR S 506 a = some w) (hfc : fC S w L R n) (hn : n < 2 ^ 20) (nx : Nat) (hnx : fJ S 512 a = lN nx) (hnx2 : nx < 2 ^ 19) (v : Int32) (hf : 1 ≤ 200 - (lN n - lN (nx * rr / 48000))) (hch : fI S 0 a = 1) : Ct l G b yX5_accept cX5_accept 3 (some .boolean) rmX5_accept mI [.ref a, .int v] S (fun r S' => S' = fAdd S w L R n (pSmp S a v) (pSmp S a v) ∧ r = 1) := by
  refine Ct.of2 pnX5 (own := RX5) rfl (Nat.le_of_ble_eq_true rfl) hst ?_
  intro p e s m args below meth c C hname
  change J p l e rmX5_accept s m args below meth c 3 G b _ 0 [(0, .ref a), (1, .int v)] [] S 0 0
  refine r_aload_n (i := 0) (n := 1) C dX5_accept_0 rfl rfl rfl ?_
  refine kX5_64 (n := 4) C (c_freeFrames hst S a hk cv t rr hcv hvc hr w L R n hw hfc hn nx hnx hnx2) hk (by decide) (by decide) (Nat.le_of_ble_eq_true rfl) dX5_accept_1 rfl (fun r S1 hp => ?_)
  obtain ⟨hS9, hr9⟩ := hp
  subst S1
  subst r
  refine r_lconst (v := 1) (n := 5) C dX5_accept_4 rfl rfl ?_
  refine r_lcmp (n := 6) C dX5_accept_5 rfl ?_
  refine r_if_geT (t := 11) C ((lg_cmp_ge _ _).mpr hf) dX5_accept_6 (by decide) ?_
  refine r_aload_n (i := 0) (n := 12) C dX5_accept_11 rfl rfl rfl ?_
  refine r_iload_n (i := 1) (n := 13) C dX5_accept_12 rfl rfl rfl ?_
  refine kX5_76 (n := 16) C (c_sampleOf hst S a hk v) hk (by decide) (by decide) (Nat.le_of_ble_eq_true rfl) dX5_accept_13 rfl (fun r S1 hp => ?_)
  obtain ⟨hS9, hr9⟩ := hp
  subst S1
  subst r
  refine r_istore_n (i := 2) (n := 17) C dX5_accept_16 rfl (by decide) rfl rfl ?_
  refine r_aload_n (i := 0) (n := 18) C dX5_accept_17 rfl rfl rfl ?_
  refine gX5_80 (n := 21) C (by first | with_reducible assumption | (simp only [sK_uI, sK_uJ, sK_uR, sK_wI, sK_wR, sK_wD, sK_wJ, sK_wIs, aN_uI, aN_uJ, aN_uR, aN_wI, aN_wR, aN_wD, aN_wJ, aN_wIs, fR_uI, fR_uJ, fR_wI, fR_wR, fR_wD, fR_wJ, fR_wIs, isI_uI, isI_uJ, isI_wI, isI_wR, isI_wD, isI_wJ, isI_wIs, isC_uI, isC_uJ, isC_wI, isC_wR, isC_wD, isC_wJ, isC_wIs, isG_uI, isG_uJ, isG_wI, isG_wR, isG_wD, isG_wJ, isG_wIs, isZ_uI, isZ_uJ, isZ_wI, isZ_wR, isZ_wD, isZ_wJ, isZ_wIs, isD_uI, isD_uJ, isD_wI, isD_wR, isD_wD, isD_wJ, isD_wIs, isL_uI, isL_uJ, isL_wI, isL_wR, isL_wD, isL_wJ, isL_wIs]; with_reducible assumption)) dX5_accept_18 rfl ?_
  refine r_iconst (v := 1) (n := 22) C dX5_accept_21 rfl rfl ?_
  refine r_icmp_neF (n := 25) (t := 37) C hch dX5_accept_22 (by decide) rfl ?_
  refine r_aload_n (i := 0) (n := 26) C dX5_accept_25 rfl rfl rfl ?_
  refine gX5_14 (n := 29) C (by first | with_reducible assumption | (simp only [sK_uI, sK_uJ, sK_uR, sK_wI, sK_wR, sK_wD, sK_wJ, sK_wIs, aN_uI, aN_uJ, aN_uR, aN_wI, aN_wR, aN_wD, aN_wJ, aN_wIs, fR_uI, fR_uJ, fR_wI, fR_wR, fR_wD, fR_wJ, fR_wIs, isI_uI, isI_uJ, isI_wI, isI_wR, isI_wD, isI_wJ, isI_wIs, isC_uI, isC_uJ, isC_wI, isC_wR, isC_wD, isC_wJ, isC_wIs, isG_uI, isG_uJ, isG_wI, isG_wR, isG_wD, isG_wJ, isG_wIs, isZ_uI, isZ_uJ, isZ_wI, isZ_wR, isZ_wD, isZ_wJ, isZ_wIs, isD_uI, isD_uJ, isD_wI, isD_wR, isD_wD, isD_wJ, isD_wIs, isL_uI, isL_uJ, isL_wI, isL_wR, isL_wD, isL_wJ, isL_wIs]; with_reducible assumption)) (by first | with_reducible assumption | (simp only [sK_uI, sK_uJ, sK_uR, sK_wI, sK_wR, sK_wD, sK_wJ, sK_wIs, aN_uI, aN_uJ, aN_uR, aN_wI, aN_wR, aN_wD, aN_wJ, aN_wIs, fR_uI, fR_uJ, fR_wI, fR_wR, fR_wD, fR_wJ, fR_wIs, isI_uI, isI_uJ, isI_wI, isI_wR, isI_wD, isI_wJ, isI_wIs, isC_uI, isC_uJ, isC_wI, isC_wR, isC_wD, isC_wJ, isC_wIs, isG_uI, isG_uJ, isG_wI, isG_wR, isG_wD, isG_wJ, isG_wIs, isZ_uI, isZ_uJ, isZ_wI, isZ_wR, isZ_wD, isZ_wJ, isZ_wIs, isD_uI, isD_uJ, isD_wI, isD_wR, isD_wD, isD_wJ, isD_wIs, isL_uI, isL_uJ, isL_wI, isL_wR, isL_wD, isL_wJ, isL_wIs]; with_reducible assumption)) dX5_accept_26 rfl ?_
  refine r_iload_n (i := 2) (n := 30) C dX5_accept_29 rfl rfl rfl ?_
  refine r_iload_n (i := 2) (n := 31) C dX5_accept_30 rfl rfl rfl ?_
  refine kX5_83 (n := 34) C (c_fAdd hst S w L R n hfc (by omega) (pSmp S a v) (pSmp S a v)) hfc.1 (by decide) (by decide) (Nat.le_of_ble_eq_true rfl) dX5_accept_31 rfl (fun r S1 hp => ?_)
  subst hp
  refine r_goto (t := 74) C dX5_accept_34 (by decide) ?_
  refine r_iconst (v := 1) (n := 75) C dX5_accept_74 rfl rfl ?_
  refine t_i C rfl dX5_accept_75 (by decide) ?_
  exact ⟨rfl, rfl⟩
set_option maxRecDepth 100000 in
set_option maxHeartbeats 1000000 in
theorem c_accept_2 {l : Launch} {G : GG} {b : Nat} (hst : l.stackTraces = false) (S : Sw) (a : Nat) (hk : sK S a = 5) (cv t rr : Nat) (hcv : fR S 505 a = some cv) (hvc : vC S cv t rr 48000) (hr : rtN rr) (w L R n : Nat) (hw : fR S 506 a = some w) (hfc : fC S w L R n) (hn : n < 2 ^ 20) (nx : Nat) (hnx : fJ S 512 a = lN nx) (hnx2 : nx < 2 ^ 19) (v : Int32) (hf : 1 ≤ 200 - (lN n - lN (nx * rr / 48000))) (hch : ¬ fI S 0 a = 1) (hhf : ¬ fI S 4 a = 0) : Ct l G b yX5_accept cX5_accept 3 (some .boolean) rmX5_accept mI [.ref a, .int v] S (fun r S' => S' = uI (fAdd S w L R n (fI S 509 a) (pSmp S a v)) 4 a 0 ∧ r = 1) := by
  refine Ct.of2 pnX5 (own := RX5) rfl (Nat.le_of_ble_eq_true rfl) hst ?_
  intro p e s m args below meth c C hname
  change J p l e rmX5_accept s m args below meth c 3 G b _ 0 [(0, .ref a), (1, .int v)] [] S 0 0
  refine r_aload_n (i := 0) (n := 1) C dX5_accept_0 rfl rfl rfl ?_
  refine kX5_64 (n := 4) C (c_freeFrames hst S a hk cv t rr hcv hvc hr w L R n hw hfc hn nx hnx hnx2) hk (by decide) (by decide) (Nat.le_of_ble_eq_true rfl) dX5_accept_1 rfl (fun r S1 hp => ?_)
  obtain ⟨hS9, hr9⟩ := hp
  subst S1
  subst r
  refine r_lconst (v := 1) (n := 5) C dX5_accept_4 rfl rfl ?_
  refine r_lcmp (n := 6) C dX5_accept_5 rfl ?_
  refine r_if_geT (t := 11) C ((lg_cmp_ge _ _).mpr hf) dX5_accept_6 (by decide) ?_
  refine r_aload_n (i := 0) (n := 12) C dX5_accept_11 rfl rfl rfl ?_
  refine r_iload_n (i := 1) (n := 13) C dX5_accept_12 rfl rfl rfl ?_
  refine kX5_76 (n := 16) C (c_sampleOf hst S a hk v) hk (by decide) (by decide) (Nat.le_of_ble_eq_true rfl) dX5_accept_13 rfl (fun r S1 hp => ?_)
  obtain ⟨hS9, hr9⟩ := hp
  subst S1
  subst r
  refine r_istore_n (i := 2) (n := 17) C dX5_accept_16 rfl (by decide) rfl rfl ?_
  refine r_aload_n (i := 0) (n := 18) C dX5_accept_17 rfl rfl rfl ?_
  refine gX5_80 (n := 21) C (by first | with_reducible assumption | (simp only [sK_uI, sK_uJ, sK_uR, sK_wI, sK_wR, sK_wD, sK_wJ, sK_wIs, aN_uI, aN_uJ, aN_uR, aN_wI, aN_wR, aN_wD, aN_wJ, aN_wIs, fR_uI, fR_uJ, fR_wI, fR_wR, fR_wD, fR_wJ, fR_wIs, isI_uI, isI_uJ, isI_wI, isI_wR, isI_wD, isI_wJ, isI_wIs, isC_uI, isC_uJ, isC_wI, isC_wR, isC_wD, isC_wJ, isC_wIs, isG_uI, isG_uJ, isG_wI, isG_wR, isG_wD, isG_wJ, isG_wIs, isZ_uI, isZ_uJ, isZ_wI, isZ_wR, isZ_wD, isZ_wJ, isZ_wIs, isD_uI, isD_uJ, isD_wI, isD_wR, isD_wD, isD_wJ, isD_wIs, isL_uI, isL_uJ, isL_wI, isL_wR, isL_wD, isL_wJ, isL_wIs]; with_reducible assumption)) dX5_accept_18 rfl ?_
  refine r_iconst (v := 1) (n := 22) C dX5_accept_21 rfl rfl ?_
  refine r_icmp_neT (t := 37) C hch dX5_accept_22 (by decide) ?_
  refine r_aload_n (i := 0) (n := 38) C dX5_accept_37 rfl rfl rfl ?_
  refine gX5_86 (n := 41) C (by first | with_reducible assumption | (simp only [sK_uI, sK_uJ, sK_uR, sK_wI, sK_wR, sK_wD, sK_wJ, sK_wIs, aN_uI, aN_uJ, aN_uR, aN_wI, aN_wR, aN_wD, aN_wJ, aN_wIs, fR_uI, fR_uJ, fR_wI, fR_wR, fR_wD, fR_wJ, fR_wIs, isI_uI, isI_uJ, isI_wI, isI_wR, isI_wD, isI_wJ, isI_wIs, isC_uI, isC_uJ, isC_wI, isC_wR, isC_wD, isC_wJ, isC_wIs, isG_uI, isG_uJ, isG_wI, isG_wR, isG_wD, isG_wJ, isG_wIs, isZ_uI, isZ_uJ, isZ_wI, isZ_wR, isZ_wD, isZ_wJ, isZ_wIs, isD_uI, isD_uJ, isD_wI, isD_wR, isD_wD, isD_wJ, isD_wIs, isL_uI, isL_uJ, isL_wI, isL_wR, isL_wD, isL_wJ, isL_wIs]; with_reducible assumption)) dX5_accept_38 rfl ?_
  refine r_if_eqF (n := 44) (t := 64) C hhf dX5_accept_41 (by decide) rfl ?_
  refine r_aload_n (i := 0) (n := 45) C dX5_accept_44 rfl rfl rfl ?_
  refine gX5_14 (n := 48) C (by first | with_reducible assumption | (simp only [sK_uI, sK_uJ, sK_uR, sK_wI, sK_wR, sK_wD, sK_wJ, sK_wIs, aN_uI, aN_uJ, aN_uR, aN_wI, aN_wR, aN_wD, aN_wJ, aN_wIs, fR_uI, fR_uJ, fR_wI, fR_wR, fR_wD, fR_wJ, fR_wIs, isI_uI, isI_uJ, isI_wI, isI_wR, isI_wD, isI_wJ, isI_wIs, isC_uI, isC_uJ, isC_wI, isC_wR, isC_wD, isC_wJ, isC_wIs, isG_uI, isG_uJ, isG_wI, isG_wR, isG_wD, isG_wJ, isG_wIs, isZ_uI, isZ_uJ, isZ_wI, isZ_wR, isZ_wD, isZ_wJ, isZ_wIs, isD_uI, isD_uJ, isD_wI, isD_wR, isD_wD, isD_wJ, isD_wIs, isL_uI, isL_uJ, isL_wI, isL_wR, isL_wD, isL_wJ, isL_wIs]; with_reducible assumption)) (by first | with_reducible assumption | (simp only [sK_uI, sK_uJ, sK_uR, sK_wI, sK_wR, sK_wD, sK_wJ, sK_wIs, aN_uI, aN_uJ, aN_uR, aN_wI, aN_wR, aN_wD, aN_wJ, aN_wIs, fR_uI, fR_uJ, fR_wI, fR_wR, fR_wD, fR_wJ, fR_wIs, isI_uI, isI_uJ, isI_wI, isI_wR, isI_wD, isI_wJ, isI_wIs, isC_uI, isC_uJ, isC_wI, isC_wR, isC_wD, isC_wJ, isC_wIs, isG_uI, isG_uJ, isG_wI, isG_wR, isG_wD, isG_wJ, isG_wIs, isZ_uI, isZ_uJ, isZ_wI, isZ_wR, isZ_wD, isZ_wJ, isZ_wIs, isD_uI, isD_uJ, isD_wI, isD_wR, isD_wD, isD_wJ, isD_wIs, isL_uI, isL_uJ, isL_wI, isL_wR, isL_wD, isL_wJ, isL_wIs]; with_reducible assumption)) dX5_accept_45 rfl ?_
  refine r_aload_n (i := 0) (n := 49) C dX5_accept_48 rfl rfl rfl ?_
  refine gX5_28 (n := 52) C (by first | with_reducible assumption | (simp only [sK_uI, sK_uJ, sK_uR, sK_wI, sK_wR, sK_wD, sK_wJ, sK_wIs, aN_uI, aN_uJ, aN_uR, aN_wI, aN_wR, aN_wD, aN_wJ, aN_wIs, fR_uI, fR_uJ, fR_wI, fR_wR, fR_wD, fR_wJ, fR_wIs, isI_uI, isI_uJ, isI_wI, isI_wR, isI_wD, isI_wJ, isI_wIs, isC_uI, isC_uJ, isC_wI, isC_wR, isC_wD, isC_wJ, isC_wIs, isG_uI, isG_uJ, isG_wI, isG_wR, isG_wD, isG_wJ, isG_wIs, isZ_uI, isZ_uJ, isZ_wI, isZ_wR, isZ_wD, isZ_wJ, isZ_wIs, isD_uI, isD_uJ, isD_wI, isD_wR, isD_wD, isD_wJ, isD_wIs, isL_uI, isL_uJ, isL_wI, isL_wR, isL_wD, isL_wJ, isL_wIs]; with_reducible assumption)) dX5_accept_49 rfl ?_
  refine r_iload_n (i := 2) (n := 53) C dX5_accept_52 rfl rfl rfl ?_
  refine kX5_83 (n := 56) C (c_fAdd hst S w L R n hfc (by omega) (fI S 509 a) (pSmp S a v)) hfc.1 (by decide) (by decide) (Nat.le_of_ble_eq_true rfl) dX5_accept_53 rfl (fun r S1 hp => ?_)
  subst hp
  refine r_aload_n (i := 0) (n := 57) C dX5_accept_56 rfl rfl rfl ?_
  refine r_iconst (v := 0) (n := 58) C dX5_accept_57 rfl rfl ?_
  refine sX5_86 (n := 61) C hk rfl rfl dX5_accept_58 rfl ?_
  refine r_goto (t := 74) C dX5_accept_61 (by decide) ?_
  refine r_iconst (v := 1) (n := 75) C dX5_accept_74 rfl rfl ?_
  refine t_i C rfl dX5_accept_75 (by decide) ?_
  exact ⟨rfl, rfl⟩
set_option maxRecDepth 100000 in
set_option maxHeartbeats 1000000 in
theorem c_accept_3 {l : Launch} {G : GG} {b : Nat} (hst : l.stackTraces = false) (S : Sw) (a : Nat) (hk : sK S a = 5) (cv t rr : Nat) (hcv : fR S 505 a = some cv) (hvc : vC S cv t rr 48000) (hr : rtN rr) (w L R n : Nat) (hw : fR S 506 a = some w) (hfc : fC S w L R n) (hn : n < 2 ^ 20) (nx : Nat) (hnx : fJ S 512 a = lN nx) (hnx2 : nx < 2 ^ 19) (v : Int32) (hf : 1 ≤ 200 - (lN n - lN (nx * rr / 48000))) (hch : ¬ fI S 0 a = 1) (hhf : fI S 4 a = 0) : Ct l G b yX5_accept cX5_accept 3 (some .boolean) rmX5_accept mI [.ref a, .int v] S (fun r S' => S' = uI (uI S 509 a (pSmp S a v)) 4 a 1 ∧ r = 1) := by
  refine Ct.of2 pnX5 (own := RX5) rfl (Nat.le_of_ble_eq_true rfl) hst ?_
  intro p e s m args below meth c C hname
  change J p l e rmX5_accept s m args below meth c 3 G b _ 0 [(0, .ref a), (1, .int v)] [] S 0 0
  refine r_aload_n (i := 0) (n := 1) C dX5_accept_0 rfl rfl rfl ?_
  refine kX5_64 (n := 4) C (c_freeFrames hst S a hk cv t rr hcv hvc hr w L R n hw hfc hn nx hnx hnx2) hk (by decide) (by decide) (Nat.le_of_ble_eq_true rfl) dX5_accept_1 rfl (fun r S1 hp => ?_)
  obtain ⟨hS9, hr9⟩ := hp
  subst S1
  subst r
  refine r_lconst (v := 1) (n := 5) C dX5_accept_4 rfl rfl ?_
  refine r_lcmp (n := 6) C dX5_accept_5 rfl ?_
  refine r_if_geT (t := 11) C ((lg_cmp_ge _ _).mpr hf) dX5_accept_6 (by decide) ?_
  refine r_aload_n (i := 0) (n := 12) C dX5_accept_11 rfl rfl rfl ?_
  refine r_iload_n (i := 1) (n := 13) C dX5_accept_12 rfl rfl rfl ?_
  refine kX5_76 (n := 16) C (c_sampleOf hst S a hk v) hk (by decide) (by decide) (Nat.le_of_ble_eq_true rfl) dX5_accept_13 rfl (fun r S1 hp => ?_)
  obtain ⟨hS9, hr9⟩ := hp
  subst S1
  subst r
  refine r_istore_n (i := 2) (n := 17) C dX5_accept_16 rfl (by decide) rfl rfl ?_
  refine r_aload_n (i := 0) (n := 18) C dX5_accept_17 rfl rfl rfl ?_
  refine gX5_80 (n := 21) C (by first | with_reducible assumption | (simp only [sK_uI, sK_uJ, sK_uR, sK_wI, sK_wR, sK_wD, sK_wJ, sK_wIs, aN_uI, aN_uJ, aN_uR, aN_wI, aN_wR, aN_wD, aN_wJ, aN_wIs, fR_uI, fR_uJ, fR_wI, fR_wR, fR_wD, fR_wJ, fR_wIs, isI_uI, isI_uJ, isI_wI, isI_wR, isI_wD, isI_wJ, isI_wIs, isC_uI, isC_uJ, isC_wI, isC_wR, isC_wD, isC_wJ, isC_wIs, isG_uI, isG_uJ, isG_wI, isG_wR, isG_wD, isG_wJ, isG_wIs, isZ_uI, isZ_uJ, isZ_wI, isZ_wR, isZ_wD, isZ_wJ, isZ_wIs, isD_uI, isD_uJ, isD_wI, isD_wR, isD_wD, isD_wJ, isD_wIs, isL_uI, isL_uJ, isL_wI, isL_wR, isL_wD, isL_wJ, isL_wIs]; with_reducible assumption)) dX5_accept_18 rfl ?_
  refine r_iconst (v := 1) (n := 22) C dX5_accept_21 rfl rfl ?_
  refine r_icmp_neT (t := 37) C hch dX5_accept_22 (by decide) ?_
  refine r_aload_n (i := 0) (n := 38) C dX5_accept_37 rfl rfl rfl ?_
  refine gX5_86 (n := 41) C (by first | with_reducible assumption | (simp only [sK_uI, sK_uJ, sK_uR, sK_wI, sK_wR, sK_wD, sK_wJ, sK_wIs, aN_uI, aN_uJ, aN_uR, aN_wI, aN_wR, aN_wD, aN_wJ, aN_wIs, fR_uI, fR_uJ, fR_wI, fR_wR, fR_wD, fR_wJ, fR_wIs, isI_uI, isI_uJ, isI_wI, isI_wR, isI_wD, isI_wJ, isI_wIs, isC_uI, isC_uJ, isC_wI, isC_wR, isC_wD, isC_wJ, isC_wIs, isG_uI, isG_uJ, isG_wI, isG_wR, isG_wD, isG_wJ, isG_wIs, isZ_uI, isZ_uJ, isZ_wI, isZ_wR, isZ_wD, isZ_wJ, isZ_wIs, isD_uI, isD_uJ, isD_wI, isD_wR, isD_wD, isD_wJ, isD_wIs, isL_uI, isL_uJ, isL_wI, isL_wR, isL_wD, isL_wJ, isL_wIs]; with_reducible assumption)) dX5_accept_38 rfl ?_
  refine r_if_eqT (t := 64) C hhf dX5_accept_41 (by decide) ?_
  refine r_aload_n (i := 0) (n := 65) C dX5_accept_64 rfl rfl rfl ?_
  refine r_iload_n (i := 2) (n := 66) C dX5_accept_65 rfl rfl rfl ?_
  refine sX5_28 (n := 69) C (by first | with_reducible assumption | (simp only [sK_uI, sK_uJ, sK_uR, sK_wI, sK_wR, sK_wD, sK_wJ, sK_wIs, aN_uI, aN_uJ, aN_uR, aN_wI, aN_wR, aN_wD, aN_wJ, aN_wIs, fR_uI, fR_uJ, fR_wI, fR_wR, fR_wD, fR_wJ, fR_wIs, isI_uI, isI_uJ, isI_wI, isI_wR, isI_wD, isI_wJ, isI_wIs, isC_uI, isC_uJ, isC_wI, isC_wR, isC_wD, isC_wJ, isC_wIs, isG_uI, isG_uJ, isG_wI, isG_wR, isG_wD, isG_wJ, isG_wIs, isZ_uI, isZ_uJ, isZ_wI, isZ_wR, isZ_wD, isZ_wJ, isZ_wIs, isD_uI, isD_uJ, isD_wI, isD_wR, isD_wD, isD_wJ, isD_wIs, isL_uI, isL_uJ, isL_wI, isL_wR, isL_wD, isL_wJ, isL_wIs]; with_reducible assumption)) dX5_accept_66 rfl ?_
  refine r_aload_n (i := 0) (n := 70) C dX5_accept_69 rfl rfl rfl ?_
  refine r_iconst (v := 1) (n := 71) C dX5_accept_70 rfl rfl ?_
  refine sX5_86 (n := 74) C (by first | with_reducible assumption | (simp only [sK_uI, sK_uJ, sK_uR, sK_wI, sK_wR, sK_wD, sK_wJ, sK_wIs, aN_uI, aN_uJ, aN_uR, aN_wI, aN_wR, aN_wD, aN_wJ, aN_wIs, fR_uI, fR_uJ, fR_wI, fR_wR, fR_wD, fR_wJ, fR_wIs, isI_uI, isI_uJ, isI_wI, isI_wR, isI_wD, isI_wJ, isI_wIs, isC_uI, isC_uJ, isC_wI, isC_wR, isC_wD, isC_wJ, isC_wIs, isG_uI, isG_uJ, isG_wI, isG_wR, isG_wD, isG_wJ, isG_wIs, isZ_uI, isZ_uJ, isZ_wI, isZ_wR, isZ_wD, isZ_wJ, isZ_wIs, isD_uI, isD_uJ, isD_wI, isD_wR, isD_wD, isD_wJ, isD_wIs, isL_uI, isL_uJ, isL_wI, isL_wR, isL_wD, isL_wJ, isL_wIs]; with_reducible assumption)) (by first | assumption | rfl) (by first | assumption | rfl) dX5_accept_71 rfl ?_
  refine r_iconst (v := 1) (n := 75) C dX5_accept_74 rfl rfl ?_
  refine t_i C rfl dX5_accept_75 (by decide) ?_
  exact ⟨rfl, rfl⟩
set_option maxRecDepth 100000 in
set_option maxHeartbeats 1000000 in
theorem c_periodsWritten {l : Launch} {G : GG} {b : Nat} (hst : l.stackTraces = false) (S : Sw) (a : Nat) (hk : sK S a = 5) (cv t rr : Nat) (hcv : fR S 505 a = some cv) (hvc : vC S cv t rr 48000) (hr : rtN rr) (w L R n : Nat) (hw : fR S 506 a = some w) (hfc : fC S w L R n) (hn : n < 2 ^ 20) (nx : Nat) (hnx : fJ S 512 a = lN nx) (hnx2 : nx < 2 ^ 19) (n2 : Nat) (hn2 : n2 < 200) (hall : ∀ i, i < n2 → (if rr = 48000 then nx + 24 * (i + 1) - 1 else (nx + 24 * (i + 1) - 1) * rr / 48000 + 8) < n) (hend : ¬ (if rr = 48000 then nx + 24 * (n2 + 1) - 1 else (nx + 24 * (n2 + 1) - 1) * rr / 48000 + 8) < n) : Ct l G b yX5_periodsWritten cX5_periodsWritten 2 (some .int) rmX5_periodsWritten mI [.ref a] S (fun r S' => S' = S ∧ r = nI n2) := by
  refine Ct.of2 pnX5 (own := RX5) rfl (Nat.le_of_ble_eq_true rfl) hst ?_
  intro p e s m args below meth c C hname
  change J p l e rmX5_periodsWritten s m args below meth c 2 G b _ 0 [(0, .ref a)] [] S 0 0
  refine r_iconst (v := 0) (n := 1) C dX5_periodsWritten_0 rfl rfl ?_
  refine r_istore_n (i := 1) (n := 2) C dX5_periodsWritten_1 rfl (by decide) rfl rfl ?_
  have lp : ∀ (q k : Nat), k + q = n2 → J p l e rmX5_periodsWritten s m args below meth c 2 G b (vx_MQ below (Qp G b mI (fun r S' => S' = S ∧ r = nI n2)) (XCp G b S (fun _ => False)) args s rmX5_periodsWritten.cells rmX5_periodsWritten.slots (Ab b)) 2 [(0, .ref a), (1, .int (nI k))] [] S 0 0 := by
    intro q
    induction q with
    | zero =>
      intro k hk9
      rw [show k = n2 by omega]
      refine r_iload_n (i := 1) (n := 3) C dX5_periodsWritten_2 rfl rfl rfl ?_
      refine r_sipush (v := 200) (n := 6) C dX5_periodsWritten_3 rfl rfl ?_
      refine r_icmp_geF (n := 9) (t := 25) C (cnle (a := 200) (b := n2) rfl rfl (by omega) (by omega)) dX5_periodsWritten_6 (by decide) rfl ?_
      refine r_aload_n (i := 0) (n := 10) C dX5_periodsWritten_9 rfl rfl rfl ?_
      refine r_iload_n (i := 1) (n := 11) C dX5_periodsWritten_10 rfl rfl rfl ?_
      refine r_iconst (v := 1) (n := 12) C dX5_periodsWritten_11 rfl rfl ?_
      refine r_iadd (n := 13) C dX5_periodsWritten_12 rfl ?_
      rw [show nI n2 + 1 = nI (n2 + 1) from nI_1 n2]
      refine kX5_90 (n := 16) C (c_isWrittenFor hst S a hk cv t rr hcv hvc hr w L R n hw hfc hn nx hnx hnx2 (n2 + 1) (by omega) (by omega)) hk (by decide) (by decide) (Nat.le_of_ble_eq_true rfl) dX5_periodsWritten_13 rfl (fun r S1 hp => ?_)
      obtain ⟨hS9, hr9⟩ := hp
      subst S1
      subst r
      rw [if_neg hend]
      refine r_if_eqT (t := 25) C rfl dX5_periodsWritten_16 (by decide) ?_
      refine r_iload_n (i := 1) (n := 26) C dX5_periodsWritten_25 rfl rfl rfl ?_
      refine t_i C rfl dX5_periodsWritten_26 (by decide) ?_
      exact ⟨rfl, rfl⟩
    | succ q ih =>
      intro k hk9
      refine r_iload_n (i := 1) (n := 3) C dX5_periodsWritten_2 rfl rfl rfl ?_
      refine r_sipush (v := 200) (n := 6) C dX5_periodsWritten_3 rfl rfl ?_
      refine r_icmp_geF (n := 9) (t := 25) C (cnle (a := 200) (b := k) rfl rfl (by omega) (by omega)) dX5_periodsWritten_6 (by decide) rfl ?_
      refine r_aload_n (i := 0) (n := 10) C dX5_periodsWritten_9 rfl rfl rfl ?_
      refine r_iload_n (i := 1) (n := 11) C dX5_periodsWritten_10 rfl rfl rfl ?_
      refine r_iconst (v := 1) (n := 12) C dX5_periodsWritten_11 rfl rfl ?_
      refine r_iadd (n := 13) C dX5_periodsWritten_12 rfl ?_
      rw [show nI k + 1 = nI (k + 1) from nI_1 k]
      refine kX5_90 (n := 16) C (c_isWrittenFor hst S a hk cv t rr hcv hvc hr w L R n hw hfc hn nx hnx hnx2 (k + 1) (by omega) (by omega)) hk (by decide) (by decide) (Nat.le_of_ble_eq_true rfl) dX5_periodsWritten_13 rfl (fun r S1 hp => ?_)
      obtain ⟨hS9, hr9⟩ := hp
      subst S1
      subst r
      rw [if_pos (hall k (by omega))]
      refine r_if_eqF (n := 19) (t := 25) C (by decide) dX5_periodsWritten_16 (by decide) rfl ?_
      refine r_iinc (n := 22) C dX5_periodsWritten_19 rfl rfl (by decide) rfl rfl ?_
      refine r_goto (t := 2) C dX5_periodsWritten_22 (by decide) ?_
      exact J.to (by rw [show nI k + Int32.ofInt 1 = nI (k + 1) from nI_1 k]; rfl) (ih (k + 1) (by omega))
  exact J.to rfl (lp n2 0 (by omega))
