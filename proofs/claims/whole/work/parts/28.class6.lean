def lmV (on f v : Int32) : Int32 := if on = 0 then v else (jFdL (v.toInt64 * f.toInt64) 4096).toInt32
def lmA (T : Sw) (a sm k : Nat) : Sw := uI (uI T 301 a (lmR (fI T 301 a) (fJ T 303 a))) 301 a (lmY (fI (uI T 301 a (lmR (fI T 301 a) (fJ T 303 a))) 301 a) (jMax (jAbs (aI T sm (2 * k))) (jAbs (aI T sm (2 * k + 1)))))
def lmO (T : Sw) (a row i : Nat) (v : Int32) : Sw := wI (lmCS T a v) row i (lmC v)
def lmG1 (T : Sw) (a sm row k : Nat) : Sw := lmO T a row (2 * k) (lmV (fI T 300 a) (fI T 301 a) (aI T sm (2 * k)))
def lmG2 (T : Sw) (a sm row k : Nat) : Sw := lmO T a row (2 * k + 1) (lmV (fI T 300 a) (fI T 301 a) (aI T sm (2 * k + 1)))
def lmG (T : Sw) (a sm row k : Nat) : Sw := uJ (lmG2 (lmG1 T a sm row k) a sm row k) 303 a (fJ (lmG2 (lmG1 T a sm row k) a sm row k) 303 a + 1)
def lmF (T : Sw) (a sm row k : Nat) : Sw := lmG (if fI T 300 a = 0 then T else lmA T a sm k) a sm row k
def lmK (S : Sw) (a sm row : Nat) : Nat → Sw
  | 0 => S
  | k + 1 => lmF (lmK S a sm row k) a sm row k
theorem lmCS_k {S : Sw} {a x : Nat} {v : Int32} : sK (lmCS S a v) x = sK S x := by unfold lmCS; split <;> rfl
theorem lmCS_n {S : Sw} {a x : Nat} {v : Int32} : aN (lmCS S a v) x = aN S x := by unfold lmCS; split <;> rfl
theorem lmCS_i {S : Sw} {a x : Nat} {v : Int32} : aI (lmCS S a v) x = aI S x := by unfold lmCS; split <;> rfl
theorem lmCS_j {S : Sw} {a x y : Nat} {v : Int32} : fJ (lmCS S a v) x y = fJ S x y := by unfold lmCS; split <;> rfl
theorem lmCS_f {S : Sw} {a x y : Nat} {v : Int32} (h : x ≠ 302) : fI (lmCS S a v) x y = fI S x y := by
  unfold lmCS; split
  · rfl
  · exact if_neg (fun q => h q.1)
theorem lmO_k {S : Sw} {a row i x : Nat} {v : Int32} : sK (lmO S a row i v) x = sK S x := lmCS_k
theorem lmO_n {S : Sw} {a row i x : Nat} {v : Int32} : aN (lmO S a row i v) x = aN S x := lmCS_n
theorem lmO_I {S : Sw} {a row i x N : Nat} {v : Int32} (h : isI S x N) : isI (lmO S a row i v) x N := ⟨lmO_k.trans h.1, lmO_n.trans h.2.1, h.2.2⟩
theorem lmG_k {S : Sw} {a sm row k x : Nat} : sK (lmG S a sm row k) x = sK S x := by unfold lmG; rw [sK_uJ]; unfold lmG2; rw [lmO_k]; unfold lmG1; rw [lmO_k]
theorem lmG_n {S : Sw} {a sm row k x : Nat} : aN (lmG S a sm row k) x = aN S x := by unfold lmG; rw [aN_uJ]; unfold lmG2; rw [lmO_n]; unfold lmG1; rw [lmO_n]
theorem lmF_k {S : Sw} {a sm row k x : Nat} : sK (lmF S a sm row k) x = sK S x := by unfold lmF; rw [lmG_k]; split <;> rfl
theorem lmF_n {S : Sw} {a sm row k x : Nat} : aN (lmF S a sm row k) x = aN S x := by unfold lmF; rw [lmG_n]; split <;> rfl
theorem lmK_k {S : Sw} {a sm row k x : Nat} : sK (lmK S a sm row k) x = sK S x := by
  induction k with
  | zero => rfl
  | succ k ih => exact lmF_k.trans ih
theorem lmK_n {S : Sw} {a sm row k x : Nat} : aN (lmK S a sm row k) x = aN S x := by
  induction k with
  | zero => rfl
  | succ k ih => exact lmF_n.trans ih
theorem lmK_I {S : Sw} {a sm row k x N : Nat} (h : isI S x N) : isI (lmK S a sm row k) x N := ⟨lmK_k.trans h.1, lmK_n.trans h.2.1, h.2.2⟩
set_option maxRecDepth 100000 in
set_option maxHeartbeats 1000000 in
theorem c_make {l : Launch} {G : GG} {b : Nat} (hst : l.stackTraces = false) (S : Sw) (a : Nat) (hk : sK S a = 3) (sm row : Nat) (hsm : isI S sm 48) (hrow : isI S row 48) : Ct l G b yX3_make cX3_make 4 none rmX3_make mV [.ref a, .ref sm, .ref row] S (fun _ S' => S' = lmK S a sm row 24) := by
  refine Ct.of2 pnX3 (own := RX3) rfl (Nat.le_of_ble_eq_true rfl) hst ?_
  intro p e s m args below meth c C hname
  change J p l e rmX3_make s m args below meth c 4 G b _ 0 [(0, .ref a), (1, .ref sm), (2, .ref row)] [] S 0 0
  have h44 : ∀ (T1 : Sw) (k : Nat), k < 24 → sK T1 a = 3 → isI T1 sm 48 → isI T1 row 48 → J p l e rmX3_make s m args below meth c 4 G b (vx_MQ below (Qp G b mV (fun _ S' => S' = lmK S a sm row 24)) (XCp G b S (fun _ => False)) args s rmX3_make.cells rmX3_make.slots (Ab b)) 2 [(0, .ref a), (1, .ref sm), (2, .ref row), (3, .int (nI (k + 1)))] [] (lmG T1 a sm row k) 0 0 → J p l e rmX3_make s m args below meth c 4 G b (vx_MQ below (Qp G b mV (fun _ S' => S' = lmK S a sm row 24)) (XCp G b S (fun _ => False)) args s rmX3_make.cells rmX3_make.slots (Ab b)) 44 [(0, .ref a), (1, .ref sm), (2, .ref row), (3, .int (nI k))] [] T1 0 0 := by
    intro T1 k hkk hk1 hs1 hr1 hgo
    refine r_aload_n (i := 2) (n := 45) C dX3_make_44 rfl rfl rfl ?_
    refine r_iconst (v := 2) (n := 46) C dX3_make_45 rfl rfl ?_
    refine r_iload_n (i := 3) (n := 47) C dX3_make_46 rfl rfl rfl ?_
    refine r_imul (n := 48) C dX3_make_47 rfl ?_
    refine r_aload_n (i := 0) (n := 49) C dX3_make_48 rfl rfl rfl ?_
    refine r_aload_n (i := 0) (n := 50) C dX3_make_49 rfl rfl rfl ?_
    refine r_aload_n (i := 1) (n := 51) C dX3_make_50 rfl rfl rfl ?_
    refine r_iconst (v := 2) (n := 52) C dX3_make_51 rfl rfl ?_
    refine r_iload_n (i := 3) (n := 53) C dX3_make_52 rfl rfl rfl ?_
    refine r_imul (n := 54) C dX3_make_53 rfl ?_
    refine q_iald (n := 55) C (2 * k) hs1 (mul_nI (a := 2) (b := k) rfl rfl) (by omega) dX3_make_54 rfl ?_
    refine kX3_43 (n := 58) C (c_limited hst T1 a hk1 (aI T1 sm (2 * k))) hk1 (by decide) (by decide) (Nat.le_of_ble_eq_true rfl) dX3_make_55 rfl (fun r S1 hp => ?_)
    obtain ⟨hS9, hr9⟩ := hp
    subst S1
    subst r
    refine kX3_46 (n := 61) C (c_cut hst T1 a hk1 (lmV (fI T1 300 a) (fI T1 301 a) (aI T1 sm (2 * k)))) hk1 (by decide) (by decide) (Nat.le_of_ble_eq_true rfl) dX3_make_58 rfl (fun r S1 hp => ?_)
    obtain ⟨hS9, hr9⟩ := hp
    subst S1
    subst r
    refine q_iast (n := 62) C (2 * k) (show isI (lmCS T1 a (lmV (fI T1 300 a) (fI T1 301 a) (aI T1 sm (2 * k)))) row 48 from ⟨lmCS_k.trans hr1.1, lmCS_n.trans hr1.2.1, hr1.2.2⟩) (mul_nI (a := 2) (b := k) rfl rfl) (by omega) dX3_make_61 rfl ?_
    obtain ⟨T2, hT2⟩ : ∃ T2, T2 = lmG1 T1 a sm row k := ⟨_, rfl⟩
    have hk2 : sK T2 a = 3 := by rw [hT2]; exact lmO_k.trans hk1
    have hs2 : isI T2 sm 48 := by rw [hT2]; exact lmO_I hs1
    have hr2 : isI T2 row 48 := by rw [hT2]; exact lmO_I hr1
    rw [show wI (lmCS T1 a (lmV (fI T1 300 a) (fI T1 301 a) (aI T1 sm (2 * k)))) row (2 * k) (lmC (lmV (fI T1 300 a) (fI T1 301 a) (aI T1 sm (2 * k)))) = T2 from hT2.symm]
    refine r_aload_n (i := 2) (n := 63) C dX3_make_62 rfl rfl rfl ?_
    refine r_iconst (v := 2) (n := 64) C dX3_make_63 rfl rfl ?_
    refine r_iload_n (i := 3) (n := 65) C dX3_make_64 rfl rfl rfl ?_
    refine r_imul (n := 66) C dX3_make_65 rfl ?_
    refine r_iconst (v := 1) (n := 67) C dX3_make_66 rfl rfl ?_
    refine r_iadd (n := 68) C dX3_make_67 rfl ?_
    refine r_aload_n (i := 0) (n := 69) C dX3_make_68 rfl rfl rfl ?_
    refine r_aload_n (i := 0) (n := 70) C dX3_make_69 rfl rfl rfl ?_
    refine r_aload_n (i := 1) (n := 71) C dX3_make_70 rfl rfl rfl ?_
    refine r_iconst (v := 2) (n := 72) C dX3_make_71 rfl rfl ?_
    refine r_iload_n (i := 3) (n := 73) C dX3_make_72 rfl rfl rfl ?_
    refine r_imul (n := 74) C dX3_make_73 rfl ?_
    refine r_iconst (v := 1) (n := 75) C dX3_make_74 rfl rfl ?_
    refine r_iadd (n := 76) C dX3_make_75 rfl ?_
    refine q_iald (n := 77) C (2 * k + 1) hs2 (add_nI (a := 2 * k) (b := 1) (mul_nI (a := 2) (b := k) rfl rfl) rfl) (by omega) dX3_make_76 rfl ?_
    refine kX3_43 (n := 80) C (c_limited hst T2 a hk2 (aI T2 sm (2 * k + 1))) hk2 (by decide) (by decide) (Nat.le_of_ble_eq_true rfl) dX3_make_77 rfl (fun r S1 hp => ?_)
    obtain ⟨hS9, hr9⟩ := hp
    subst S1
    subst r
    refine kX3_46 (n := 83) C (c_cut hst T2 a hk2 (lmV (fI T2 300 a) (fI T2 301 a) (aI T2 sm (2 * k + 1)))) hk2 (by decide) (by decide) (Nat.le_of_ble_eq_true rfl) dX3_make_80 rfl (fun r S1 hp => ?_)
    obtain ⟨hS9, hr9⟩ := hp
    subst S1
    subst r
    refine q_iast (n := 84) C (2 * k + 1) (show isI (lmCS T2 a (lmV (fI T2 300 a) (fI T2 301 a) (aI T2 sm (2 * k + 1)))) row 48 from ⟨lmCS_k.trans hr2.1, lmCS_n.trans hr2.2.1, hr2.2.2⟩) (add_nI (a := 2 * k) (b := 1) (mul_nI (a := 2) (b := k) rfl rfl) rfl) (by omega) dX3_make_83 rfl ?_
    obtain ⟨T3, hT3⟩ : ∃ T3, T3 = lmG2 T2 a sm row k := ⟨_, rfl⟩
    have hk3 : sK T3 a = 3 := by rw [hT3]; exact lmO_k.trans hk2
    rw [show wI (lmCS T2 a (lmV (fI T2 300 a) (fI T2 301 a) (aI T2 sm (2 * k + 1)))) row (2 * k + 1) (lmC (lmV (fI T2 300 a) (fI T2 301 a) (aI T2 sm (2 * k + 1)))) = T3 from hT3.symm]
    refine r_aload_n (i := 0) (n := 85) C dX3_make_84 rfl rfl rfl ?_
    refine r_dup (n := 86) C dX3_make_85 rfl rfl ?_
    refine gX3_22 (n := 89) C (by first | with_reducible assumption | (simp only [sK_uI, sK_uJ, sK_uR, sK_wI, sK_wR, sK_wD, sK_wJ, sK_wIs, aN_uI, aN_uJ, aN_uR, aN_wI, aN_wR, aN_wD, aN_wJ, aN_wIs, fR_uI, fR_uJ, fR_wI, fR_wR, fR_wD, fR_wJ, fR_wIs, isI_uI, isI_uJ, isI_wI, isI_wR, isI_wD, isI_wJ, isI_wIs, isC_uI, isC_uJ, isC_wI, isC_wR, isC_wD, isC_wJ, isC_wIs, isG_uI, isG_uJ, isG_wI, isG_wR, isG_wD, isG_wJ, isG_wIs, isZ_uI, isZ_uJ, isZ_wI, isZ_wR, isZ_wD, isZ_wJ, isZ_wIs, isD_uI, isD_uJ, isD_wI, isD_wR, isD_wD, isD_wJ, isD_wIs, isL_uI, isL_uJ, isL_wI, isL_wR, isL_wD, isL_wJ, isL_wIs]; with_reducible assumption)) dX3_make_86 rfl ?_
    refine r_lconst (v := 1) (n := 90) C dX3_make_89 rfl rfl ?_
    refine r_ladd (n := 91) C dX3_make_90 rfl ?_
    refine sX3_22 (n := 94) C (by first | with_reducible assumption | (simp only [sK_uI, sK_uJ, sK_uR, sK_wI, sK_wR, sK_wD, sK_wJ, sK_wIs, aN_uI, aN_uJ, aN_uR, aN_wI, aN_wR, aN_wD, aN_wJ, aN_wIs, fR_uI, fR_uJ, fR_wI, fR_wR, fR_wD, fR_wJ, fR_wIs, isI_uI, isI_uJ, isI_wI, isI_wR, isI_wD, isI_wJ, isI_wIs, isC_uI, isC_uJ, isC_wI, isC_wR, isC_wD, isC_wJ, isC_wIs, isG_uI, isG_uJ, isG_wI, isG_wR, isG_wD, isG_wJ, isG_wIs, isZ_uI, isZ_uJ, isZ_wI, isZ_wR, isZ_wD, isZ_wJ, isZ_wIs, isD_uI, isD_uJ, isD_wI, isD_wR, isD_wD, isD_wJ, isD_wIs, isL_uI, isL_uJ, isL_wI, isL_wR, isL_wD, isL_wJ, isL_wIs]; with_reducible assumption)) dX3_make_91 rfl ?_
    refine r_iinc (n := 97) C dX3_make_94 rfl rfl (by decide) rfl rfl ?_
    refine r_goto (t := 2) C dX3_make_97 (by decide) ?_
    rw [show uJ T3 303 a (fJ T3 303 a + 1) = lmG T1 a sm row k from by rw [hT3, hT2]; rfl]
    exact J.to (by rw [show nI k + Int32.ofInt 1 = nI (k + 1) from nI_1 k]; rfl) hgo
  refine r_iconst (v := 0) (n := 1) C dX3_make_0 rfl rfl ?_
  refine r_istore_n (i := 3) (n := 2) C dX3_make_1 rfl (by decide) rfl rfl ?_
  have lp : ∀ (q k : Nat), k + q = 24 → J p l e rmX3_make s m args below meth c 4 G b (vx_MQ below (Qp G b mV (fun _ S' => S' = lmK S a sm row 24)) (XCp G b S (fun _ => False)) args s rmX3_make.cells rmX3_make.slots (Ab b)) 2 [(0, .ref a), (1, .ref sm), (2, .ref row), (3, .int (nI k))] [] (lmK S a sm row k) 0 0 := by
    intro q
    induction q with
    | zero =>
      intro k hk9
      obtain rfl : k = 24 := by omega
      refine r_iload_n (i := 3) (n := 3) C dX3_make_2 rfl rfl rfl ?_
      refine r_bipush (v := 24) (n := 5) C dX3_make_3 rfl rfl ?_
      refine r_icmp_geT (t := 100) C (cle (a := 24) (b := 24) rfl rfl (by omega) (by omega)) dX3_make_5 (by decide) ?_
      refine t_v C dX3_make_100 (by decide) ?_
      rfl
    | succ q ih =>
      intro k hk9
      have hn9 := ih (k + 1) (by omega)
      have e9 : lmK S a sm row (k + 1) = lmG (if fI (lmK S a sm row k) 300 a = 0 then lmK S a sm row k else lmA (lmK S a sm row k) a sm k) a sm row k := rfl
      rw [e9] at hn9
      have hkT : sK (lmK S a sm row k) a = 3 := lmK_k.trans hk
      have hsT : isI (lmK S a sm row k) sm 48 := lmK_I hsm
      have hrT : isI (lmK S a sm row k) row 48 := lmK_I hrow
      clear e9
      generalize lmK S a sm row k = T at hn9 hkT hsT hrT ⊢
      by_cases hon : fI T 300 a = 0
      · rw [if_pos hon] at hn9
        refine r_iload_n (i := 3) (n := 3) C dX3_make_2 rfl rfl rfl ?_
        refine r_bipush (v := 24) (n := 5) C dX3_make_3 rfl rfl ?_
        refine r_icmp_geF (n := 8) (t := 100) C (cnle (a := 24) (b := k) rfl rfl (by omega) (by omega)) dX3_make_5 (by decide) rfl ?_
        refine r_aload_n (i := 0) (n := 9) C dX3_make_8 rfl rfl rfl ?_
        refine gX3_9 (n := 12) C (by first | with_reducible assumption | (simp only [sK_uI, sK_uJ, sK_uR, sK_wI, sK_wR, sK_wD, sK_wJ, sK_wIs, aN_uI, aN_uJ, aN_uR, aN_wI, aN_wR, aN_wD, aN_wJ, aN_wIs, fR_uI, fR_uJ, fR_wI, fR_wR, fR_wD, fR_wJ, fR_wIs, isI_uI, isI_uJ, isI_wI, isI_wR, isI_wD, isI_wJ, isI_wIs, isC_uI, isC_uJ, isC_wI, isC_wR, isC_wD, isC_wJ, isC_wIs, isG_uI, isG_uJ, isG_wI, isG_wR, isG_wD, isG_wJ, isG_wIs, isZ_uI, isZ_uJ, isZ_wI, isZ_wR, isZ_wD, isZ_wJ, isZ_wIs, isD_uI, isD_uJ, isD_wI, isD_wR, isD_wD, isD_wJ, isD_wIs, isL_uI, isL_uJ, isL_wI, isL_wR, isL_wD, isL_wJ, isL_wIs]; with_reducible assumption)) dX3_make_9 rfl ?_
        refine r_if_eqT (t := 44) C hon dX3_make_12 (by decide) ?_
        exact J.to rfl (h44 T k (by omega) hkT hsT hrT hn9)
      · rw [if_neg hon] at hn9
        refine r_iload_n (i := 3) (n := 3) C dX3_make_2 rfl rfl rfl ?_
        refine r_bipush (v := 24) (n := 5) C dX3_make_3 rfl rfl ?_
        refine r_icmp_geF (n := 8) (t := 100) C (cnle (a := 24) (b := k) rfl rfl (by omega) (by omega)) dX3_make_5 (by decide) rfl ?_
        refine r_aload_n (i := 0) (n := 9) C dX3_make_8 rfl rfl rfl ?_
        refine gX3_9 (n := 12) C (by first | with_reducible assumption | (simp only [sK_uI, sK_uJ, sK_uR, sK_wI, sK_wR, sK_wD, sK_wJ, sK_wIs, aN_uI, aN_uJ, aN_uR, aN_wI, aN_wR, aN_wD, aN_wJ, aN_wIs, fR_uI, fR_uJ, fR_wI, fR_wR, fR_wD, fR_wJ, fR_wIs, isI_uI, isI_uJ, isI_wI, isI_wR, isI_wD, isI_wJ, isI_wIs, isC_uI, isC_uJ, isC_wI, isC_wR, isC_wD, isC_wJ, isC_wIs, isG_uI, isG_uJ, isG_wI, isG_wR, isG_wD, isG_wJ, isG_wIs, isZ_uI, isZ_uJ, isZ_wI, isZ_wR, isZ_wD, isZ_wJ, isZ_wIs, isD_uI, isD_uJ, isD_wI, isD_wR, isD_wD, isD_wJ, isD_wIs, isL_uI, isL_uJ, isL_wI, isL_wR, isL_wD, isL_wJ, isL_wIs]; with_reducible assumption)) dX3_make_9 rfl ?_
        refine r_if_eqF (n := 15) (t := 44) C hon dX3_make_12 (by decide) rfl ?_
        refine r_aload_n (i := 0) (n := 16) C dX3_make_15 rfl rfl rfl ?_
        refine kX3_26 (n := 19) C (c_recover hst T a hkT) hkT (by decide) (by decide) (Nat.le_of_ble_eq_true rfl) dX3_make_16 rfl (fun r S1 hp => ?_)
        subst hp
        refine r_aload_n (i := 0) (n := 20) C dX3_make_19 rfl rfl rfl ?_
        refine r_aload_n (i := 1) (n := 21) C dX3_make_20 rfl rfl rfl ?_
        refine r_iconst (v := 2) (n := 22) C dX3_make_21 rfl rfl ?_
        refine r_iload_n (i := 3) (n := 23) C dX3_make_22 rfl rfl rfl ?_
        refine r_imul (n := 24) C dX3_make_23 rfl ?_
        refine q_iald (n := 25) C (2 * k) (by rw [isI_uI]; exact hsT) (mul_nI (a := 2) (b := k) rfl rfl) (by omega) dX3_make_24 rfl ?_
        rw [aI_uI]
        refine kX3_29 (n := 28) C (c_abs hst (uI T 301 a (lmR (fI T 301 a) (fJ T 303 a))) (aI T sm (2 * k))) (by decide) (by decide) (Nat.le_of_ble_eq_true rfl) dX3_make_25 rfl (fun r S1 hp => ?_)
        obtain ⟨hS9, hr9⟩ := hp
        subst S1
        subst r
        refine r_aload_n (i := 1) (n := 29) C dX3_make_28 rfl rfl rfl ?_
        refine r_iconst (v := 2) (n := 30) C dX3_make_29 rfl rfl ?_
        refine r_iload_n (i := 3) (n := 31) C dX3_make_30 rfl rfl rfl ?_
        refine r_imul (n := 32) C dX3_make_31 rfl ?_
        refine r_iconst (v := 1) (n := 33) C dX3_make_32 rfl rfl ?_
        refine r_iadd (n := 34) C dX3_make_33 rfl ?_
        refine q_iald (n := 35) C (2 * k + 1) (by rw [isI_uI]; exact hsT) (add_nI (a := 2 * k) (b := 1) (mul_nI (a := 2) (b := k) rfl rfl) rfl) (by omega) dX3_make_34 rfl ?_
        rw [aI_uI]
        refine kX3_29 (n := 38) C (c_abs hst (uI T 301 a (lmR (fI T 301 a) (fJ T 303 a))) (aI T sm (2 * k + 1))) (by decide) (by decide) (Nat.le_of_ble_eq_true rfl) dX3_make_35 rfl (fun r S1 hp => ?_)
        obtain ⟨hS9, hr9⟩ := hp
        subst S1
        subst r
        refine kX3_35 (n := 41) C (c_max hst (uI T 301 a (lmR (fI T 301 a) (fJ T 303 a))) (jAbs (aI T sm (2 * k))) (jAbs (aI T sm (2 * k + 1)))) (by decide) (by decide) (Nat.le_of_ble_eq_true rfl) dX3_make_38 rfl (fun r S1 hp => ?_)
        obtain ⟨hS9, hr9⟩ := hp
        subst S1
        subst r
        refine kX3_39 (n := 44) C (c_yieldTo hst (uI T 301 a (lmR (fI T 301 a) (fJ T 303 a))) a (by rw [sK_uI]; exact hkT) (jMax (jAbs (aI T sm (2 * k))) (jAbs (aI T sm (2 * k + 1))))) (by rw [sK_uI]; exact hkT) (by decide) (by decide) (Nat.le_of_ble_eq_true rfl) dX3_make_41 rfl (fun r S1 hp => ?_)
        subst hp
        exact J.to rfl (h44 (lmA T a sm k) k (by omega) hkT hsT hrT hn9)
  exact J.to rfl (lp 24 0 (by omega))
