set_option maxRecDepth 100000 in
set_option maxHeartbeats 1000000 in
theorem c_numbersOf_4 {l : Launch} {G : GG} {b : Nat} (hst : l.stackTraces = false) (S : Sw) (a : Nat) (hk : sK S a = 4) (n : Int64) : Ct l G b yX0_numbersOf cX0_numbersOf 3 (some .int) rmX0_numbersOf mI [.ref a, .long n] S (fun r S' => S' = S ∧ r = n.toInt32 * fI S 0 a - (if fI S 4 a = 0 then 0 else 1)) := by
  refine Ct.of2 pnX0 (own := RX0) rfl (Nat.le_of_ble_eq_true rfl) hst ?_
  intro p e s m args below meth c C hname
  change J p l e rmX0_numbersOf s m args below meth c 3 G b _ 0 [(0, .ref a), (1, .long n)] [] S 0 0
  refine r_lload_n (i := 1) (n := 1) C dX0_numbersOf_0 rfl rfl rfl ?_
  refine r_l2i (n := 2) C dX0_numbersOf_1 rfl ?_
  refine r_aload_n (i := 0) (n := 3) C dX0_numbersOf_2 rfl rfl rfl ?_
  refine gX0_22_4 (n := 6) C (by first | with_reducible assumption | (simp only [sK_uI, sK_uJ, sK_uR, sK_wI, sK_wR, sK_wD, sK_wJ, sK_wIs, aN_uI, aN_uJ, aN_uR, aN_wI, aN_wR, aN_wD, aN_wJ, aN_wIs, fR_uI, fR_uJ, fR_wI, fR_wR, fR_wD, fR_wJ, fR_wIs, isI_uI, isI_uJ, isI_wI, isI_wR, isI_wD, isI_wJ, isI_wIs, isC_uI, isC_uJ, isC_wI, isC_wR, isC_wD, isC_wJ, isC_wIs, isG_uI, isG_uJ, isG_wI, isG_wR, isG_wD, isG_wJ, isG_wIs, isZ_uI, isZ_uJ, isZ_wI, isZ_wR, isZ_wD, isZ_wJ, isZ_wIs, isD_uI, isD_uJ, isD_wI, isD_wR, isD_wD, isD_wJ, isD_wIs, isL_uI, isL_uJ, isL_wI, isL_wR, isL_wD, isL_wJ, isL_wIs]; with_reducible assumption)) dX0_numbersOf_3 rfl ?_
  refine r_imul (n := 7) C dX0_numbersOf_6 rfl ?_
  refine r_aload_n (i := 0) (n := 8) C dX0_numbersOf_7 rfl rfl rfl ?_
  refine gX0_18_4 (n := 11) C (by first | with_reducible assumption | (simp only [sK_uI, sK_uJ, sK_uR, sK_wI, sK_wR, sK_wD, sK_wJ, sK_wIs, aN_uI, aN_uJ, aN_uR, aN_wI, aN_wR, aN_wD, aN_wJ, aN_wIs, fR_uI, fR_uJ, fR_wI, fR_wR, fR_wD, fR_wJ, fR_wIs, isI_uI, isI_uJ, isI_wI, isI_wR, isI_wD, isI_wJ, isI_wIs, isC_uI, isC_uJ, isC_wI, isC_wR, isC_wD, isC_wJ, isC_wIs, isG_uI, isG_uJ, isG_wI, isG_wR, isG_wD, isG_wJ, isG_wIs, isZ_uI, isZ_uJ, isZ_wI, isZ_wR, isZ_wD, isZ_wJ, isZ_wIs, isD_uI, isD_uJ, isD_wI, isD_wR, isD_wD, isD_wJ, isD_wIs, isL_uI, isL_uJ, isL_wI, isL_wR, isL_wD, isL_wJ, isL_wIs]; with_reducible assumption)) dX0_numbersOf_8 rfl ?_
  refine r_if_eq (n := 14) (t := 18) C dX0_numbersOf_11 (by decide) rfl (fun h11 => ?_) (fun h11 => ?_)
  · refine r_iconst (v := 0) (n := 19) C dX0_numbersOf_18 rfl rfl ?_
    refine r_isub (n := 20) C dX0_numbersOf_19 rfl ?_
    refine t_i C rfl dX0_numbersOf_20 (by decide) ?_
    refine ⟨rfl, ?_⟩
    simp only [*, ↓reduceIte]
  · refine r_iconst (v := 1) (n := 15) C dX0_numbersOf_14 rfl rfl ?_
    refine r_goto (t := 19) C dX0_numbersOf_15 (by decide) ?_
    refine r_isub (n := 20) C dX0_numbersOf_19 rfl ?_
    refine t_i C rfl dX0_numbersOf_20 (by decide) ?_
    refine ⟨rfl, ?_⟩
    simp only [*, ↓reduceIte]
set_option maxRecDepth 100000 in
set_option maxHeartbeats 1000000 in
theorem c_numbersOf_5 {l : Launch} {G : GG} {b : Nat} (hst : l.stackTraces = false) (S : Sw) (a : Nat) (hk : sK S a = 5) (n : Int64) : Ct l G b yX0_numbersOf cX0_numbersOf 3 (some .int) rmX0_numbersOf mI [.ref a, .long n] S (fun r S' => S' = S ∧ r = n.toInt32 * fI S 0 a - (if fI S 4 a = 0 then 0 else 1)) := by
  refine Ct.of2 pnX0 (own := RX0) rfl (Nat.le_of_ble_eq_true rfl) hst ?_
  intro p e s m args below meth c C hname
  change J p l e rmX0_numbersOf s m args below meth c 3 G b _ 0 [(0, .ref a), (1, .long n)] [] S 0 0
  refine r_lload_n (i := 1) (n := 1) C dX0_numbersOf_0 rfl rfl rfl ?_
  refine r_l2i (n := 2) C dX0_numbersOf_1 rfl ?_
  refine r_aload_n (i := 0) (n := 3) C dX0_numbersOf_2 rfl rfl rfl ?_
  refine gX0_22_5 (n := 6) C (by first | with_reducible assumption | (simp only [sK_uI, sK_uJ, sK_uR, sK_wI, sK_wR, sK_wD, sK_wJ, sK_wIs, aN_uI, aN_uJ, aN_uR, aN_wI, aN_wR, aN_wD, aN_wJ, aN_wIs, fR_uI, fR_uJ, fR_wI, fR_wR, fR_wD, fR_wJ, fR_wIs, isI_uI, isI_uJ, isI_wI, isI_wR, isI_wD, isI_wJ, isI_wIs, isC_uI, isC_uJ, isC_wI, isC_wR, isC_wD, isC_wJ, isC_wIs, isG_uI, isG_uJ, isG_wI, isG_wR, isG_wD, isG_wJ, isG_wIs, isZ_uI, isZ_uJ, isZ_wI, isZ_wR, isZ_wD, isZ_wJ, isZ_wIs, isD_uI, isD_uJ, isD_wI, isD_wR, isD_wD, isD_wJ, isD_wIs, isL_uI, isL_uJ, isL_wI, isL_wR, isL_wD, isL_wJ, isL_wIs]; with_reducible assumption)) dX0_numbersOf_3 rfl ?_
  refine r_imul (n := 7) C dX0_numbersOf_6 rfl ?_
  refine r_aload_n (i := 0) (n := 8) C dX0_numbersOf_7 rfl rfl rfl ?_
  refine gX0_18_5 (n := 11) C (by first | with_reducible assumption | (simp only [sK_uI, sK_uJ, sK_uR, sK_wI, sK_wR, sK_wD, sK_wJ, sK_wIs, aN_uI, aN_uJ, aN_uR, aN_wI, aN_wR, aN_wD, aN_wJ, aN_wIs, fR_uI, fR_uJ, fR_wI, fR_wR, fR_wD, fR_wJ, fR_wIs, isI_uI, isI_uJ, isI_wI, isI_wR, isI_wD, isI_wJ, isI_wIs, isC_uI, isC_uJ, isC_wI, isC_wR, isC_wD, isC_wJ, isC_wIs, isG_uI, isG_uJ, isG_wI, isG_wR, isG_wD, isG_wJ, isG_wIs, isZ_uI, isZ_uJ, isZ_wI, isZ_wR, isZ_wD, isZ_wJ, isZ_wIs, isD_uI, isD_uJ, isD_wI, isD_wR, isD_wD, isD_wJ, isD_wIs, isL_uI, isL_uJ, isL_wI, isL_wR, isL_wD, isL_wJ, isL_wIs]; with_reducible assumption)) dX0_numbersOf_8 rfl ?_
  refine r_if_eq (n := 14) (t := 18) C dX0_numbersOf_11 (by decide) rfl (fun h11 => ?_) (fun h11 => ?_)
  · refine r_iconst (v := 0) (n := 19) C dX0_numbersOf_18 rfl rfl ?_
    refine r_isub (n := 20) C dX0_numbersOf_19 rfl ?_
    refine t_i C rfl dX0_numbersOf_20 (by decide) ?_
    refine ⟨rfl, ?_⟩
    simp only [*, ↓reduceIte]
  · refine r_iconst (v := 1) (n := 15) C dX0_numbersOf_14 rfl rfl ?_
    refine r_goto (t := 19) C dX0_numbersOf_15 (by decide) ?_
    refine r_isub (n := 20) C dX0_numbersOf_19 rfl ?_
    refine t_i C rfl dX0_numbersOf_20 (by decide) ?_
    refine ⟨rfl, ?_⟩
    simp only [*, ↓reduceIte]
set_option maxRecDepth 100000 in
set_option maxHeartbeats 1000000 in
theorem c_isNumber {l : Launch} {G : GG} {b : Nat} (hst : l.stackTraces = false) (S : Sw) (a : Nat) (hk : sK S a = 5) (v : Int32) : Ct l G b yX0_isNumber cX0_isNumber 2 (some .boolean) rmX0_isNumber mI [.ref a, .int v] S (fun r S' => S' = S ∧ r = if fI S 1 a = 8 then (if 0 ≤ v ∧ v ≤ 255 then 1 else 0) else (if (-32768) ≤ v ∧ v ≤ 32767 then 1 else 0)) := by
  refine Ct.of2 pnX0 (own := RX0) rfl (Nat.le_of_ble_eq_true rfl) hst ?_
  intro p e s m args below meth c C hname
  change J p l e rmX0_isNumber s m args below meth c 2 G b _ 0 [(0, .ref a), (1, .int v)] [] S 0 0
  refine r_aload_n (i := 0) (n := 1) C dX0_isNumber_0 rfl rfl rfl ?_
  refine gX0_25_5 (n := 4) C (by first | with_reducible assumption | (simp only [sK_uI, sK_uJ, sK_uR, sK_wI, sK_wR, sK_wD, sK_wJ, sK_wIs, aN_uI, aN_uJ, aN_uR, aN_wI, aN_wR, aN_wD, aN_wJ, aN_wIs, fR_uI, fR_uJ, fR_wI, fR_wR, fR_wD, fR_wJ, fR_wIs, isI_uI, isI_uJ, isI_wI, isI_wR, isI_wD, isI_wJ, isI_wIs, isC_uI, isC_uJ, isC_wI, isC_wR, isC_wD, isC_wJ, isC_wIs, isG_uI, isG_uJ, isG_wI, isG_wR, isG_wD, isG_wJ, isG_wIs, isZ_uI, isZ_uJ, isZ_wI, isZ_wR, isZ_wD, isZ_wJ, isZ_wIs, isD_uI, isD_uJ, isD_wI, isD_wR, isD_wD, isD_wJ, isD_wIs, isL_uI, isL_uJ, isL_wI, isL_wR, isL_wD, isL_wJ, isL_wIs]; with_reducible assumption)) dX0_isNumber_1 rfl ?_
  refine r_bipush (v := 8) (n := 6) C dX0_isNumber_4 rfl rfl ?_
  refine r_icmp_ne (n := 9) (t := 28) C dX0_isNumber_6 (by decide) rfl (fun h6 => ?_) (fun h6 => ?_)
  · refine r_iload_n (i := 1) (n := 29) C dX0_isNumber_28 rfl rfl rfl ?_
    refine kX0_28 (n := 32) C (c_X7_isSample hst S v) (by decide) (by decide) (Nat.le_of_ble_eq_true rfl) dX0_isNumber_29 rfl (fun r S1 hp => ?_)
    obtain ⟨hS, hr⟩ := hp
    subst S1
    subst r
    refine t_i C (by first | rfl | (split <;> rfl)) dX0_isNumber_32 (by decide) ?_
    refine ⟨rfl, ?_⟩
    first | (rw [if_neg h6]) | (rw [if_pos h6]; first | (rw [if_pos (by simp only [Int32.le_iff_toInt_le, Int32.lt_iff_toInt_lt] at *; omega)]) | (rw [if_neg (by simp only [Int32.le_iff_toInt_le, Int32.lt_iff_toInt_lt] at *; omega)]))
  · refine r_iload_n (i := 1) (n := 10) C dX0_isNumber_9 rfl rfl rfl ?_
    refine r_if_lt (n := 13) (t := 24) C dX0_isNumber_10 (by decide) rfl (fun h10 => ?_) (fun h10 => ?_)
    · refine r_iconst (v := 0) (n := 25) C dX0_isNumber_24 rfl rfl ?_
      refine r_goto (t := 32) C dX0_isNumber_25 (by decide) ?_
      refine t_i C (by first | rfl | (split <;> rfl)) dX0_isNumber_32 (by decide) ?_
      refine ⟨rfl, ?_⟩
      first | (rw [if_neg h6]) | (rw [if_pos h6]; first | (rw [if_pos (by simp only [Int32.le_iff_toInt_le, Int32.lt_iff_toInt_lt] at *; omega)]) | (rw [if_neg (by simp only [Int32.le_iff_toInt_le, Int32.lt_iff_toInt_lt] at *; omega)]))
    · refine r_iload_n (i := 1) (n := 14) C dX0_isNumber_13 rfl rfl rfl ?_
      refine r_sipush (v := 255) (n := 17) C dX0_isNumber_14 rfl rfl ?_
      refine r_icmp_gt (n := 20) (t := 24) C dX0_isNumber_17 (by decide) rfl (fun h17 => ?_) (fun h17 => ?_)
      · refine r_iconst (v := 0) (n := 25) C dX0_isNumber_24 rfl rfl ?_
        refine r_goto (t := 32) C dX0_isNumber_25 (by decide) ?_
        refine t_i C (by first | rfl | (split <;> rfl)) dX0_isNumber_32 (by decide) ?_
        refine ⟨rfl, ?_⟩
        first | (rw [if_neg h6]) | (rw [if_pos h6]; first | (rw [if_pos (by simp only [Int32.le_iff_toInt_le, Int32.lt_iff_toInt_lt] at *; omega)]) | (rw [if_neg (by simp only [Int32.le_iff_toInt_le, Int32.lt_iff_toInt_lt] at *; omega)]))
      · refine r_iconst (v := 1) (n := 21) C dX0_isNumber_20 rfl rfl ?_
        refine r_goto (t := 32) C dX0_isNumber_21 (by decide) ?_
        refine t_i C (by first | rfl | (split <;> rfl)) dX0_isNumber_32 (by decide) ?_
        refine ⟨rfl, ?_⟩
        first | (rw [if_neg h6]) | (rw [if_pos h6]; first | (rw [if_pos (by simp only [Int32.le_iff_toInt_le, Int32.lt_iff_toInt_lt] at *; omega)]) | (rw [if_neg (by simp only [Int32.le_iff_toInt_le, Int32.lt_iff_toInt_lt] at *; omega)]))
set_option maxRecDepth 100000 in
set_option maxHeartbeats 1000000 in
theorem c_sampleOf {l : Launch} {G : GG} {b : Nat} (hst : l.stackTraces = false) (S : Sw) (a : Nat) (hk : sK S a = 5) (v : Int32) : Ct l G b yX0_sampleOf cX0_sampleOf 2 (some .int) rmX0_sampleOf mI [.ref a, .int v] S (fun r S' => S' = S ∧ r = if fI S 1 a = 8 then (v - 128) * 256 else v) := by
  refine Ct.of2 pnX0 (own := RX0) rfl (Nat.le_of_ble_eq_true rfl) hst ?_
  intro p e s m args below meth c C hname
  change J p l e rmX0_sampleOf s m args below meth c 2 G b _ 0 [(0, .ref a), (1, .int v)] [] S 0 0
  refine r_aload_n (i := 0) (n := 1) C dX0_sampleOf_0 rfl rfl rfl ?_
  refine gX0_25_5 (n := 4) C (by first | with_reducible assumption | (simp only [sK_uI, sK_uJ, sK_uR, sK_wI, sK_wR, sK_wD, sK_wJ, sK_wIs, aN_uI, aN_uJ, aN_uR, aN_wI, aN_wR, aN_wD, aN_wJ, aN_wIs, fR_uI, fR_uJ, fR_wI, fR_wR, fR_wD, fR_wJ, fR_wIs, isI_uI, isI_uJ, isI_wI, isI_wR, isI_wD, isI_wJ, isI_wIs, isC_uI, isC_uJ, isC_wI, isC_wR, isC_wD, isC_wJ, isC_wIs, isG_uI, isG_uJ, isG_wI, isG_wR, isG_wD, isG_wJ, isG_wIs, isZ_uI, isZ_uJ, isZ_wI, isZ_wR, isZ_wD, isZ_wJ, isZ_wIs, isD_uI, isD_uJ, isD_wI, isD_wR, isD_wD, isD_wJ, isD_wIs, isL_uI, isL_uJ, isL_wI, isL_wR, isL_wD, isL_wJ, isL_wIs]; with_reducible assumption)) dX0_sampleOf_1 rfl ?_
  refine r_bipush (v := 8) (n := 6) C dX0_sampleOf_4 rfl rfl ?_
  refine r_icmp_ne (n := 9) (t := 21) C dX0_sampleOf_6 (by decide) rfl (fun h6 => ?_) (fun h6 => ?_)
  · refine r_iload_n (i := 1) (n := 22) C dX0_sampleOf_21 rfl rfl rfl ?_
    refine t_i C rfl dX0_sampleOf_22 (by decide) ?_
    refine ⟨rfl, ?_⟩
    simp only [*, ↓reduceIte]
  · refine r_iload_n (i := 1) (n := 10) C dX0_sampleOf_9 rfl rfl rfl ?_
    refine r_sipush (v := 128) (n := 13) C dX0_sampleOf_10 rfl rfl ?_
    refine r_isub (n := 14) C dX0_sampleOf_13 rfl ?_
    refine r_sipush (v := 256) (n := 17) C dX0_sampleOf_14 rfl rfl ?_
    refine r_imul (n := 18) C dX0_sampleOf_17 rfl ?_
    refine r_goto (t := 22) C dX0_sampleOf_18 (by decide) ?_
    refine t_i C rfl dX0_sampleOf_22 (by decide) ?_
    refine ⟨rfl, ?_⟩
    simp only [*, ↓reduceIte]
set_option maxRecDepth 100000 in
set_option maxHeartbeats 1000000 in
theorem c_numberOf {l : Launch} {G : GG} {b : Nat} (hst : l.stackTraces = false) (S : Sw) (a : Nat) (hk : sK S a = 4) (v : Int32) : Ct l G b yX0_numberOf cX0_numberOf 2 (some .int) rmX0_numberOf mI [.ref a, .int v] S (fun r S' => S' = S ∧ r = if fI S 1 a = 8 then jFd v 256 + 128 else v) := by
  refine Ct.of2 pnX0 (own := RX0) rfl (Nat.le_of_ble_eq_true rfl) hst ?_
  intro p e s m args below meth c C hname
  change J p l e rmX0_numberOf s m args below meth c 2 G b _ 0 [(0, .ref a), (1, .int v)] [] S 0 0
  refine r_aload_n (i := 0) (n := 1) C dX0_numberOf_0 rfl rfl rfl ?_
  refine gX0_25_4 (n := 4) C (by first | with_reducible assumption | (simp only [sK_uI, sK_uJ, sK_uR, sK_wI, sK_wR, sK_wD, sK_wJ, sK_wIs, aN_uI, aN_uJ, aN_uR, aN_wI, aN_wR, aN_wD, aN_wJ, aN_wIs, fR_uI, fR_uJ, fR_wI, fR_wR, fR_wD, fR_wJ, fR_wIs, isI_uI, isI_uJ, isI_wI, isI_wR, isI_wD, isI_wJ, isI_wIs, isC_uI, isC_uJ, isC_wI, isC_wR, isC_wD, isC_wJ, isC_wIs, isG_uI, isG_uJ, isG_wI, isG_wR, isG_wD, isG_wJ, isG_wIs, isZ_uI, isZ_uJ, isZ_wI, isZ_wR, isZ_wD, isZ_wJ, isZ_wIs, isD_uI, isD_uJ, isD_wI, isD_wR, isD_wD, isD_wJ, isD_wIs, isL_uI, isL_uJ, isL_wI, isL_wR, isL_wD, isL_wJ, isL_wIs]; with_reducible assumption)) dX0_numberOf_1 rfl ?_
  refine r_bipush (v := 8) (n := 6) C dX0_numberOf_4 rfl rfl ?_
  refine r_icmp_ne (n := 9) (t := 23) C dX0_numberOf_6 (by decide) rfl (fun h6 => ?_) (fun h6 => ?_)
  · refine r_iload_n (i := 1) (n := 24) C dX0_numberOf_23 rfl rfl rfl ?_
    refine t_i C rfl dX0_numberOf_24 (by decide) ?_
    refine ⟨rfl, ?_⟩
    simp only [*, ↓reduceIte]
  · refine r_iload_n (i := 1) (n := 10) C dX0_numberOf_9 rfl rfl rfl ?_
    refine r_sipush (v := 256) (n := 13) C dX0_numberOf_10 rfl rfl ?_
    refine kX0_32 (n := 16) C (c_fd hst S v 256 (by decide)) (by decide) (by decide) (Nat.le_of_ble_eq_true rfl) dX0_numberOf_13 rfl (fun r S1 hp => ?_)
    obtain ⟨hS, hr⟩ := hp
    subst S1
    subst r
    refine r_sipush (v := 128) (n := 19) C dX0_numberOf_16 rfl rfl ?_
    refine r_iadd (n := 20) C dX0_numberOf_19 rfl ?_
    refine r_goto (t := 24) C dX0_numberOf_20 (by decide) ?_
    refine t_i C rfl dX0_numberOf_24 (by decide) ?_
    refine ⟨rfl, ?_⟩
    simp only [*, ↓reduceIte]
def lmR (v : Int32) (n : Int64) : Int32 := if n - n / 32 * 32 = 0 then jMin 4096 (v + 16) else v
set_option maxRecDepth 100000 in
set_option maxHeartbeats 1000000 in
theorem c_recover {l : Launch} {G : GG} {b : Nat} (hst : l.stackTraces = false) (S : Sw) (a : Nat) (hk : sK S a = 3) : Ct l G b yX3_recover cX3_recover 1 none rmX3_recover mV [.ref a] S (fun _ S' => S' = uI S 301 a (lmR (fI S 301 a) (fJ S 303 a))) := by
  refine Ct.of2 pnX3 (own := RX3) rfl (Nat.le_of_ble_eq_true rfl) hst ?_
  intro p e s m args below meth c C hname
  change J p l e rmX3_recover s m args below meth c 1 G b _ 0 [(0, .ref a)] [] S 0 0
  refine r_aload_n (i := 0) (n := 1) C dX3_recover_0 rfl rfl rfl ?_
  refine gX3_22 (n := 4) C (by first | with_reducible assumption | (simp only [sK_uI, sK_uJ, sK_uR, sK_wI, sK_wR, sK_wD, sK_wJ, sK_wIs, aN_uI, aN_uJ, aN_uR, aN_wI, aN_wR, aN_wD, aN_wJ, aN_wIs, fR_uI, fR_uJ, fR_wI, fR_wR, fR_wD, fR_wJ, fR_wIs, isI_uI, isI_uJ, isI_wI, isI_wR, isI_wD, isI_wJ, isI_wIs, isC_uI, isC_uJ, isC_wI, isC_wR, isC_wD, isC_wJ, isC_wIs, isG_uI, isG_uJ, isG_wI, isG_wR, isG_wD, isG_wJ, isG_wIs, isZ_uI, isZ_uJ, isZ_wI, isZ_wR, isZ_wD, isZ_wJ, isZ_wIs, isD_uI, isD_uJ, isD_wI, isD_wR, isD_wD, isD_wJ, isD_wIs, isL_uI, isL_uJ, isL_wI, isL_wR, isL_wD, isL_wJ, isL_wIs]; with_reducible assumption)) dX3_recover_1 rfl ?_
  refine r_ldc2 (n := 7) (v := 32) C (mem_tb (mem_tbl 199 (by decide +kernel)) (by decide +kernel)) dX3_recover_4 rfl ?_
  refine r_lrem (n := 8) C dX3_recover_7 (by decide) rfl ?_
  refine r_lconst (v := 0) (n := 9) C dX3_recover_8 rfl rfl ?_
  refine r_lcmp (n := 10) C dX3_recover_9 rfl ?_
  refine r_if_ne (n := 13) (t := 30) C dX3_recover_10 (by decide) rfl (fun h10 => ?_) (fun h10 => ?_)
  · refine t_v C dX3_recover_30 (by decide) ?_
    rw [lg_cmp_eq] at h10
    unfold lmR
    first | (rw [if_pos h10]) | (rw [if_neg h10, uI_self])
  · refine r_aload_n (i := 0) (n := 14) C dX3_recover_13 rfl rfl rfl ?_
    refine r_sipush (v := 4096) (n := 17) C dX3_recover_14 rfl rfl ?_
    refine r_aload_n (i := 0) (n := 18) C dX3_recover_17 rfl rfl rfl ?_
    refine gX3_15 (n := 21) C (by first | with_reducible assumption | (simp only [sK_uI, sK_uJ, sK_uR, sK_wI, sK_wR, sK_wD, sK_wJ, sK_wIs, aN_uI, aN_uJ, aN_uR, aN_wI, aN_wR, aN_wD, aN_wJ, aN_wIs, fR_uI, fR_uJ, fR_wI, fR_wR, fR_wD, fR_wJ, fR_wIs, isI_uI, isI_uJ, isI_wI, isI_wR, isI_wD, isI_wJ, isI_wIs, isC_uI, isC_uJ, isC_wI, isC_wR, isC_wD, isC_wJ, isC_wIs, isG_uI, isG_uJ, isG_wI, isG_wR, isG_wD, isG_wJ, isG_wIs, isZ_uI, isZ_uJ, isZ_wI, isZ_wR, isZ_wD, isZ_wJ, isZ_wIs, isD_uI, isD_uJ, isD_wI, isD_wR, isD_wD, isD_wJ, isD_wIs, isL_uI, isL_uJ, isL_wI, isL_wR, isL_wD, isL_wJ, isL_wIs]; with_reducible assumption)) dX3_recover_18 rfl ?_
    refine r_bipush (v := 16) (n := 23) C dX3_recover_21 rfl rfl ?_
    refine r_iadd (n := 24) C dX3_recover_23 rfl ?_
    refine kX3_51 (n := 27) C (c_min hst S 4096 (fI S 301 a + 16)) (by decide) (by decide) (Nat.le_of_ble_eq_true rfl) dX3_recover_24 rfl (fun r S1 hp => ?_)
    obtain ⟨hS, hr⟩ := hp
    subst S1
    subst r
    refine sX3_15 (n := 30) C (by first | with_reducible assumption | (simp only [sK_uI, sK_uJ, sK_uR, sK_wI, sK_wR, sK_wD, sK_wJ, sK_wIs, aN_uI, aN_uJ, aN_uR, aN_wI, aN_wR, aN_wD, aN_wJ, aN_wIs, fR_uI, fR_uJ, fR_wI, fR_wR, fR_wD, fR_wJ, fR_wIs, isI_uI, isI_uJ, isI_wI, isI_wR, isI_wD, isI_wJ, isI_wIs, isC_uI, isC_uJ, isC_wI, isC_wR, isC_wD, isC_wJ, isC_wIs, isG_uI, isG_uJ, isG_wI, isG_wR, isG_wD, isG_wJ, isG_wIs, isZ_uI, isZ_uJ, isZ_wI, isZ_wR, isZ_wD, isZ_wJ, isZ_wIs, isD_uI, isD_uJ, isD_wI, isD_wR, isD_wD, isD_wJ, isD_wIs, isL_uI, isL_uJ, isL_wI, isL_wR, isL_wD, isL_wJ, isL_wIs]; with_reducible assumption)) dX3_recover_27 rfl ?_
    refine t_v C dX3_recover_30 (by decide) ?_
    rw [lg_cmp_eq] at h10
    unfold lmR
    first | (rw [if_pos h10]) | (rw [if_neg h10, uI_self])
def lmY (v size : Int32) : Int32 := if size ≤ 0 then v else if size.toInt64 * v.toInt64 ≤ 134213632 then v else (134213632 / size.toInt64).toInt32
set_option maxRecDepth 100000 in
set_option maxHeartbeats 1000000 in
theorem c_yieldTo {l : Launch} {G : GG} {b : Nat} (hst : l.stackTraces = false) (S : Sw) (a : Nat) (hk : sK S a = 3) (size : Int32) : Ct l G b yX3_yieldTo cX3_yieldTo 4 none rmX3_yieldTo mV [.ref a, .int size] S (fun _ S' => S' = uI S 301 a (lmY (fI S 301 a) size)) := by
  refine Ct.of2 pnX3 (own := RX3) rfl (Nat.le_of_ble_eq_true rfl) hst ?_
  intro p e s m args below meth c C hname
  change J p l e rmX3_yieldTo s m args below meth c 4 G b _ 0 [(0, .ref a), (1, .int size)] [] S 0 0
  refine r_ldc2 (n := 3) (v := 134213632) C (mem_tb (mem_tbl 209 (by decide +kernel)) (by decide +kernel)) dX3_yieldTo_0 rfl ?_
  refine r_lstore_n (i := 2) (n := 4) C dX3_yieldTo_3 rfl (by decide) rfl rfl ?_
  refine r_iload_n (i := 1) (n := 5) C dX3_yieldTo_4 rfl rfl rfl ?_
  refine r_if_le (n := 8) (t := 30) C dX3_yieldTo_5 (by decide) rfl (fun h5 => ?_) (fun h5 => ?_)
  · refine t_v C dX3_yieldTo_30 (by decide) ?_
    try rw [lg_cmp_le] at h18
    unfold lmY
    first | (rw [if_pos h5, uI_self]) | (rw [if_neg h5]; first | (rw [if_pos h18, uI_self]) | (rw [if_neg h18]))
  · refine r_iload_n (i := 1) (n := 9) C dX3_yieldTo_8 rfl rfl rfl ?_
    refine r_i2l (n := 10) C dX3_yieldTo_9 rfl ?_
    refine r_aload_n (i := 0) (n := 11) C dX3_yieldTo_10 rfl rfl rfl ?_
    refine gX3_15 (n := 14) C (by first | with_reducible assumption | (simp only [sK_uI, sK_uJ, sK_uR, sK_wI, sK_wR, sK_wD, sK_wJ, sK_wIs, aN_uI, aN_uJ, aN_uR, aN_wI, aN_wR, aN_wD, aN_wJ, aN_wIs, fR_uI, fR_uJ, fR_wI, fR_wR, fR_wD, fR_wJ, fR_wIs, isI_uI, isI_uJ, isI_wI, isI_wR, isI_wD, isI_wJ, isI_wIs, isC_uI, isC_uJ, isC_wI, isC_wR, isC_wD, isC_wJ, isC_wIs, isG_uI, isG_uJ, isG_wI, isG_wR, isG_wD, isG_wJ, isG_wIs, isZ_uI, isZ_uJ, isZ_wI, isZ_wR, isZ_wD, isZ_wJ, isZ_wIs, isD_uI, isD_uJ, isD_wI, isD_wR, isD_wD, isD_wJ, isD_wIs, isL_uI, isL_uJ, isL_wI, isL_wR, isL_wD, isL_wJ, isL_wIs]; with_reducible assumption)) dX3_yieldTo_11 rfl ?_
    refine r_i2l (n := 15) C dX3_yieldTo_14 rfl ?_
    refine r_lmul (n := 16) C dX3_yieldTo_15 rfl ?_
    refine r_lload_n (i := 2) (n := 17) C dX3_yieldTo_16 rfl rfl rfl ?_
    refine r_lcmp (n := 18) C dX3_yieldTo_17 rfl ?_
    refine r_if_le (n := 21) (t := 30) C dX3_yieldTo_18 (by decide) rfl (fun h18 => ?_) (fun h18 => ?_)
    · refine t_v C dX3_yieldTo_30 (by decide) ?_
      try rw [lg_cmp_le] at h18
      unfold lmY
      first | (rw [if_pos h5, uI_self]) | (rw [if_neg h5]; first | (rw [if_pos h18, uI_self]) | (rw [if_neg h18]))
    · refine r_aload_n (i := 0) (n := 22) C dX3_yieldTo_21 rfl rfl rfl ?_
      refine r_lload_n (i := 2) (n := 23) C dX3_yieldTo_22 rfl rfl rfl ?_
      refine r_iload_n (i := 1) (n := 24) C dX3_yieldTo_23 rfl rfl rfl ?_
      refine r_i2l (n := 25) C dX3_yieldTo_24 rfl ?_
      refine r_ldiv (n := 26) C dX3_yieldTo_25 (fun q => h18 ((lg_cmp_le _ _).mpr (by rw [q, Int64.zero_mul]; decide))) rfl ?_
      refine r_l2i (n := 27) C dX3_yieldTo_26 rfl ?_
      refine sX3_15 (n := 30) C (by first | with_reducible assumption | (simp only [sK_uI, sK_uJ, sK_uR, sK_wI, sK_wR, sK_wD, sK_wJ, sK_wIs, aN_uI, aN_uJ, aN_uR, aN_wI, aN_wR, aN_wD, aN_wJ, aN_wIs, fR_uI, fR_uJ, fR_wI, fR_wR, fR_wD, fR_wJ, fR_wIs, isI_uI, isI_uJ, isI_wI, isI_wR, isI_wD, isI_wJ, isI_wIs, isC_uI, isC_uJ, isC_wI, isC_wR, isC_wD, isC_wJ, isC_wIs, isG_uI, isG_uJ, isG_wI, isG_wR, isG_wD, isG_wJ, isG_wIs, isZ_uI, isZ_uJ, isZ_wI, isZ_wR, isZ_wD, isZ_wJ, isZ_wIs, isD_uI, isD_uJ, isD_wI, isD_wR, isD_wD, isD_wJ, isD_wIs, isL_uI, isL_uJ, isL_wI, isL_wR, isL_wD, isL_wJ, isL_wIs]; with_reducible assumption)) dX3_yieldTo_27 rfl ?_
      refine t_v C dX3_yieldTo_30 (by decide) ?_
      try rw [lg_cmp_le] at h18
      unfold lmY
      first | (rw [if_pos h5, uI_self]) | (rw [if_neg h5]; first | (rw [if_pos h18, uI_self]) | (rw [if_neg h18]))
set_option maxRecDepth 100000 in
set_option maxHeartbeats 1000000 in
theorem c_limited {l : Launch} {G : GG} {b : Nat} (hst : l.stackTraces = false) (S : Sw) (a : Nat) (hk : sK S a = 3) (v : Int32) : Ct l G b yX3_limited cX3_limited 2 (some .int) rmX3_limited mI [.ref a, .int v] S (fun r S' => S' = S ∧ r = if fI S 300 a = 0 then v else (jFdL (v.toInt64 * (fI S 301 a).toInt64) 4096).toInt32) := by
  refine Ct.of2 pnX3 (own := RX3) rfl (Nat.le_of_ble_eq_true rfl) hst ?_
  intro p e s m args below meth c C hname
  change J p l e rmX3_limited s m args below meth c 2 G b _ 0 [(0, .ref a), (1, .int v)] [] S 0 0
  refine r_aload_n (i := 0) (n := 1) C dX3_limited_0 rfl rfl rfl ?_
  refine gX3_9 (n := 4) C (by first | with_reducible assumption | (simp only [sK_uI, sK_uJ, sK_uR, sK_wI, sK_wR, sK_wD, sK_wJ, sK_wIs, aN_uI, aN_uJ, aN_uR, aN_wI, aN_wR, aN_wD, aN_wJ, aN_wIs, fR_uI, fR_uJ, fR_wI, fR_wR, fR_wD, fR_wJ, fR_wIs, isI_uI, isI_uJ, isI_wI, isI_wR, isI_wD, isI_wJ, isI_wIs, isC_uI, isC_uJ, isC_wI, isC_wR, isC_wD, isC_wJ, isC_wIs, isG_uI, isG_uJ, isG_wI, isG_wR, isG_wD, isG_wJ, isG_wIs, isZ_uI, isZ_uJ, isZ_wI, isZ_wR, isZ_wD, isZ_wJ, isZ_wIs, isD_uI, isD_uJ, isD_wI, isD_wR, isD_wD, isD_wJ, isD_wIs, isL_uI, isL_uJ, isL_wI, isL_wR, isL_wD, isL_wJ, isL_wIs]; with_reducible assumption)) dX3_limited_1 rfl ?_
  refine r_if_eq (n := 7) (t := 25) C dX3_limited_4 (by decide) rfl (fun h4 => ?_) (fun h4 => ?_)
  · refine r_iload_n (i := 1) (n := 26) C dX3_limited_25 rfl rfl rfl ?_
    refine t_i C rfl dX3_limited_26 (by decide) ?_
    refine ⟨rfl, ?_⟩
    simp only [*, ↓reduceIte]
  · refine r_iload_n (i := 1) (n := 8) C dX3_limited_7 rfl rfl rfl ?_
    refine r_i2l (n := 9) C dX3_limited_8 rfl ?_
    refine r_aload_n (i := 0) (n := 10) C dX3_limited_9 rfl rfl rfl ?_
    refine gX3_15 (n := 13) C (by first | with_reducible assumption | (simp only [sK_uI, sK_uJ, sK_uR, sK_wI, sK_wR, sK_wD, sK_wJ, sK_wIs, aN_uI, aN_uJ, aN_uR, aN_wI, aN_wR, aN_wD, aN_wJ, aN_wIs, fR_uI, fR_uJ, fR_wI, fR_wR, fR_wD, fR_wJ, fR_wIs, isI_uI, isI_uJ, isI_wI, isI_wR, isI_wD, isI_wJ, isI_wIs, isC_uI, isC_uJ, isC_wI, isC_wR, isC_wD, isC_wJ, isC_wIs, isG_uI, isG_uJ, isG_wI, isG_wR, isG_wD, isG_wJ, isG_wIs, isZ_uI, isZ_uJ, isZ_wI, isZ_wR, isZ_wD, isZ_wJ, isZ_wIs, isD_uI, isD_uJ, isD_wI, isD_wR, isD_wD, isD_wJ, isD_wIs, isL_uI, isL_uJ, isL_wI, isL_wR, isL_wD, isL_wJ, isL_wIs]; with_reducible assumption)) dX3_limited_10 rfl ?_
    refine r_i2l (n := 14) C dX3_limited_13 rfl ?_
    refine r_lmul (n := 15) C dX3_limited_14 rfl ?_
    refine r_ldc2 (n := 18) (v := 4096) C (mem_tb (mem_tbl 214 (by decide +kernel)) (by decide +kernel)) dX3_limited_15 rfl ?_
    refine kX3_58 (n := 21) C (c_fdL hst S (v.toInt64 * (fI S 301 a).toInt64) 4096 (by decide)) (by decide) (by decide) (Nat.le_of_ble_eq_true rfl) dX3_limited_18 rfl (fun r S1 hp => ?_)
    obtain ⟨hS, hr⟩ := hp
    subst S1
    subst r
    refine r_l2i (n := 22) C dX3_limited_21 rfl ?_
    refine r_goto (t := 26) C dX3_limited_22 (by decide) ?_
    refine t_i C rfl dX3_limited_26 (by decide) ?_
    refine ⟨rfl, ?_⟩
    simp only [*, ↓reduceIte]
def lmC (v : Int32) : Int32 := if (-32768) ≤ v ∧ v ≤ 32767 then v else if 0 ≤ v then 32767 else (-32768)
def lmCS (S : Sw) (a : Nat) (v : Int32) : Sw := if (-32768) ≤ v ∧ v ≤ 32767 then S else uI S 302 a (fI S 302 a + 1)
set_option maxRecDepth 100000 in
set_option maxHeartbeats 1000000 in
theorem c_cut {l : Launch} {G : GG} {b : Nat} (hst : l.stackTraces = false) (S : Sw) (a : Nat) (hk : sK S a = 3) (v : Int32) : Ct l G b yX3_cut cX3_cut 2 (some .int) rmX3_cut mI [.ref a, .int v] S (fun r S' => S' = lmCS S a v ∧ r = lmC v) := by
  refine Ct.of2 pnX3 (own := RX3) rfl (Nat.le_of_ble_eq_true rfl) hst ?_
  intro p e s m args below meth c C hname
  change J p l e rmX3_cut s m args below meth c 2 G b _ 0 [(0, .ref a), (1, .int v)] [] S 0 0
  by_cases hv : (-32768) ≤ v ∧ v ≤ 32767
  · skip
    refine r_iload_n (i := 1) (n := 1) C dX3_cut_0 rfl rfl rfl ?_
    refine kX3_62 (n := 4) C (c_X7_isSample hst S v) (by decide) (by decide) (Nat.le_of_ble_eq_true rfl) dX3_cut_1 rfl (fun r S1 hp => ?_)
    obtain ⟨hS, hr⟩ := hp
    subst S1
    subst r
    rw [if_pos hv]
    refine r_if_eqF (n := 7) (t := 9) C (by decide) dX3_cut_4 (by decide) rfl ?_
    refine r_iload_n (i := 1) (n := 8) C dX3_cut_7 rfl rfl rfl ?_
    refine t_i C rfl dX3_cut_8 (by decide) ?_
    exact ⟨(if_pos hv).symm, (if_pos hv).symm⟩
  · skip
    refine r_iload_n (i := 1) (n := 1) C dX3_cut_0 rfl rfl rfl ?_
    refine kX3_62 (n := 4) C (c_X7_isSample hst S v) (by decide) (by decide) (Nat.le_of_ble_eq_true rfl) dX3_cut_1 rfl (fun r S1 hp => ?_)
    obtain ⟨hS, hr⟩ := hp
    subst S1
    subst r
    rw [if_neg hv]
    refine r_if_eqT (t := 9) C rfl dX3_cut_4 (by decide) ?_
    refine r_aload_n (i := 0) (n := 10) C dX3_cut_9 rfl rfl rfl ?_
    refine r_dup (n := 11) C dX3_cut_10 rfl rfl ?_
    refine gX3_19 (n := 14) C (by first | with_reducible assumption | (simp only [sK_uI, sK_uJ, sK_uR, sK_wI, sK_wR, sK_wD, sK_wJ, sK_wIs, aN_uI, aN_uJ, aN_uR, aN_wI, aN_wR, aN_wD, aN_wJ, aN_wIs, fR_uI, fR_uJ, fR_wI, fR_wR, fR_wD, fR_wJ, fR_wIs, isI_uI, isI_uJ, isI_wI, isI_wR, isI_wD, isI_wJ, isI_wIs, isC_uI, isC_uJ, isC_wI, isC_wR, isC_wD, isC_wJ, isC_wIs, isG_uI, isG_uJ, isG_wI, isG_wR, isG_wD, isG_wJ, isG_wIs, isZ_uI, isZ_uJ, isZ_wI, isZ_wR, isZ_wD, isZ_wJ, isZ_wIs, isD_uI, isD_uJ, isD_wI, isD_wR, isD_wD, isD_wJ, isD_wIs, isL_uI, isL_uJ, isL_wI, isL_wR, isL_wD, isL_wJ, isL_wIs]; with_reducible assumption)) dX3_cut_11 rfl ?_
    refine r_iconst (v := 1) (n := 15) C dX3_cut_14 rfl rfl ?_
    refine r_iadd (n := 16) C dX3_cut_15 rfl ?_
    refine sX3_19 (n := 19) C (by first | with_reducible assumption | (simp only [sK_uI, sK_uJ, sK_uR, sK_wI, sK_wR, sK_wD, sK_wJ, sK_wIs, aN_uI, aN_uJ, aN_uR, aN_wI, aN_wR, aN_wD, aN_wJ, aN_wIs, fR_uI, fR_uJ, fR_wI, fR_wR, fR_wD, fR_wJ, fR_wIs, isI_uI, isI_uJ, isI_wI, isI_wR, isI_wD, isI_wJ, isI_wIs, isC_uI, isC_uJ, isC_wI, isC_wR, isC_wD, isC_wJ, isC_wIs, isG_uI, isG_uJ, isG_wI, isG_wR, isG_wD, isG_wJ, isG_wIs, isZ_uI, isZ_uJ, isZ_wI, isZ_wR, isZ_wD, isZ_wJ, isZ_wIs, isD_uI, isD_uJ, isD_wI, isD_wR, isD_wD, isD_wJ, isD_wIs, isL_uI, isL_uJ, isL_wI, isL_wR, isL_wD, isL_wJ, isL_wIs]; with_reducible assumption)) dX3_cut_16 rfl ?_
    refine r_iload_n (i := 1) (n := 20) C dX3_cut_19 rfl rfl rfl ?_
    refine r_if_ge (n := 23) (t := 29) C dX3_cut_20 (by decide) rfl (fun h20 => ?_) (fun h20 => ?_)
    · refine r_sipush (v := 32767) (n := 32) C dX3_cut_29 rfl rfl ?_
      refine t_i C rfl dX3_cut_32 (by decide) ?_
      refine ⟨(if_neg hv).symm, ?_⟩
      unfold lmC
      rw [if_neg hv]
      first | rw [if_pos h20] | rw [if_neg h20]
    · refine r_sipush (v := (-32768)) (n := 26) C dX3_cut_23 rfl rfl ?_
      refine r_goto (t := 32) C dX3_cut_26 (by decide) ?_
      refine t_i C rfl dX3_cut_32 (by decide) ?_
      refine ⟨(if_neg hv).symm, ?_⟩
      unfold lmC
      rw [if_neg hv]
      first | rw [if_pos h20] | rw [if_neg h20]
set_option maxRecDepth 100000 in
set_option maxHeartbeats 1000000 in
theorem c_isEnding {l : Launch} {G : GG} {b : Nat} (hst : l.stackTraces = false) (S : Sw) (a : Nat) (hk : sK S a = 5) : Ct l G b yX5_isEnding cX5_isEnding 1 (some .boolean) rmX5_isEnding mI [.ref a] S (fun r S' => S' = S ∧ r = if fI S 2 a = 3 ∨ fI S 2 a = 4 then 1 else 0) := by
  refine Ct.of2 pnX5 (own := RX5) rfl (Nat.le_of_ble_eq_true rfl) hst ?_
  intro p e s m args below meth c C hname
  change J p l e rmX5_isEnding s m args below meth c 1 G b _ 0 [(0, .ref a)] [] S 0 0
  refine r_aload_n (i := 0) (n := 1) C dX5_isEnding_0 rfl rfl rfl ?_
  refine gX5_57 (n := 4) C (by first | with_reducible assumption | (simp only [sK_uI, sK_uJ, sK_uR, sK_wI, sK_wR, sK_wD, sK_wJ, sK_wIs, aN_uI, aN_uJ, aN_uR, aN_wI, aN_wR, aN_wD, aN_wJ, aN_wIs, fR_uI, fR_uJ, fR_wI, fR_wR, fR_wD, fR_wJ, fR_wIs, isI_uI, isI_uJ, isI_wI, isI_wR, isI_wD, isI_wJ, isI_wIs, isC_uI, isC_uJ, isC_wI, isC_wR, isC_wD, isC_wJ, isC_wIs, isG_uI, isG_uJ, isG_wI, isG_wR, isG_wD, isG_wJ, isG_wIs, isZ_uI, isZ_uJ, isZ_wI, isZ_wR, isZ_wD, isZ_wJ, isZ_wIs, isD_uI, isD_uJ, isD_wI, isD_wR, isD_wD, isD_wJ, isD_wIs, isL_uI, isL_uJ, isL_wI, isL_wR, isL_wD, isL_wJ, isL_wIs]; with_reducible assumption)) dX5_isEnding_1 rfl ?_
  refine r_iconst (v := 3) (n := 5) C dX5_isEnding_4 rfl rfl ?_
  refine r_icmp_eq (n := 8) (t := 16) C dX5_isEnding_5 (by decide) rfl (fun h5 => ?_) (fun h5 => ?_)
  · refine r_iconst (v := 1) (n := 17) C dX5_isEnding_16 rfl rfl ?_
    refine r_goto (t := 21) C dX5_isEnding_17 (by decide) ?_
    refine t_i C rfl dX5_isEnding_21 (by decide) ?_
    refine ⟨rfl, ?_⟩
    first | (rw [if_pos (Or.inl h5)]) | (rw [if_pos (Or.inr h13)]) | (rw [if_neg (fun q => q.elim h5 h13)])
  · refine r_aload_n (i := 0) (n := 9) C dX5_isEnding_8 rfl rfl rfl ?_
    refine gX5_57 (n := 12) C (by first | with_reducible assumption | (simp only [sK_uI, sK_uJ, sK_uR, sK_wI, sK_wR, sK_wD, sK_wJ, sK_wIs, aN_uI, aN_uJ, aN_uR, aN_wI, aN_wR, aN_wD, aN_wJ, aN_wIs, fR_uI, fR_uJ, fR_wI, fR_wR, fR_wD, fR_wJ, fR_wIs, isI_uI, isI_uJ, isI_wI, isI_wR, isI_wD, isI_wJ, isI_wIs, isC_uI, isC_uJ, isC_wI, isC_wR, isC_wD, isC_wJ, isC_wIs, isG_uI, isG_uJ, isG_wI, isG_wR, isG_wD, isG_wJ, isG_wIs, isZ_uI, isZ_uJ, isZ_wI, isZ_wR, isZ_wD, isZ_wJ, isZ_wIs, isD_uI, isD_uJ, isD_wI, isD_wR, isD_wD, isD_wJ, isD_wIs, isL_uI, isL_uJ, isL_wI, isL_wR, isL_wD, isL_wJ, isL_wIs]; with_reducible assumption)) dX5_isEnding_9 rfl ?_
    refine r_iconst (v := 4) (n := 13) C dX5_isEnding_12 rfl rfl ?_
    refine r_icmp_ne (n := 16) (t := 20) C dX5_isEnding_13 (by decide) rfl (fun h13 => ?_) (fun h13 => ?_)
    · refine r_iconst (v := 0) (n := 21) C dX5_isEnding_20 rfl rfl ?_
      refine t_i C rfl dX5_isEnding_21 (by decide) ?_
      refine ⟨rfl, ?_⟩
      first | (rw [if_pos (Or.inl h5)]) | (rw [if_pos (Or.inr h13)]) | (rw [if_neg (fun q => q.elim h5 h13)])
    · refine r_iconst (v := 1) (n := 17) C dX5_isEnding_16 rfl rfl ?_
      refine r_goto (t := 21) C dX5_isEnding_17 (by decide) ?_
      refine t_i C rfl dX5_isEnding_21 (by decide) ?_
      refine ⟨rfl, ?_⟩
      first | (rw [if_pos (Or.inl h5)]) | (rw [if_pos (Or.inr h13)]) | (rw [if_neg (fun q => q.elim h5 h13)])
set_option maxRecDepth 100000 in
set_option maxHeartbeats 1000000 in
theorem c_place5 {l : Launch} {G : GG} {b : Nat} (hst : l.stackTraces = false) (S : Sw) (a : Nat) (hk : sK S a = 5) (cv t rr : Nat) (hcv : fR S 505 a = some cv) (hvc : vC S cv t rr 48000) (hr : rtN rr) (hd : Nat) (hhd : fJ S 513 a = lN hd) (hd2 : hd < 2 ^ 20) : Ct l G b yX5_place cX5_place 1 (some .long) rmX5_place mJ [.ref a] S (fun r S' => S' = S ∧ r = lN (hd * rr / 48000)) := by
  refine Ct.of2 pnX5 (own := RX5) rfl (Nat.le_of_ble_eq_true rfl) hst ?_
  intro p e s m args below meth c C hname
  change J p l e rmX5_place s m args below meth c 1 G b _ 0 [(0, .ref a)] [] S 0 0
  refine r_aload_n (i := 0) (n := 1) C dX5_place_0 rfl rfl rfl ?_
  refine gX5_53 (n := 4) C (by first | with_reducible assumption | (simp only [sK_uI, sK_uJ, sK_uR, sK_wI, sK_wR, sK_wD, sK_wJ, sK_wIs, aN_uI, aN_uJ, aN_uR, aN_wI, aN_wR, aN_wD, aN_wJ, aN_wIs, fR_uI, fR_uJ, fR_wI, fR_wR, fR_wD, fR_wJ, fR_wIs, isI_uI, isI_uJ, isI_wI, isI_wR, isI_wD, isI_wJ, isI_wIs, isC_uI, isC_uJ, isC_wI, isC_wR, isC_wD, isC_wJ, isC_wIs, isG_uI, isG_uJ, isG_wI, isG_wR, isG_wD, isG_wJ, isG_wIs, isZ_uI, isZ_uJ, isZ_wI, isZ_wR, isZ_wD, isZ_wJ, isZ_wIs, isD_uI, isD_uJ, isD_wI, isD_wR, isD_wD, isD_wJ, isD_wIs, isL_uI, isL_uJ, isL_wI, isL_wR, isL_wD, isL_wJ, isL_wIs]; with_reducible assumption)) (by first | with_reducible assumption | (simp only [sK_uI, sK_uJ, sK_uR, sK_wI, sK_wR, sK_wD, sK_wJ, sK_wIs, aN_uI, aN_uJ, aN_uR, aN_wI, aN_wR, aN_wD, aN_wJ, aN_wIs, fR_uI, fR_uJ, fR_wI, fR_wR, fR_wD, fR_wJ, fR_wIs, isI_uI, isI_uJ, isI_wI, isI_wR, isI_wD, isI_wJ, isI_wIs, isC_uI, isC_uJ, isC_wI, isC_wR, isC_wD, isC_wJ, isC_wIs, isG_uI, isG_uJ, isG_wI, isG_wR, isG_wD, isG_wJ, isG_wIs, isZ_uI, isZ_uJ, isZ_wI, isZ_wR, isZ_wD, isZ_wJ, isZ_wIs, isD_uI, isD_uJ, isD_wI, isD_wR, isD_wD, isD_wJ, isD_wIs, isL_uI, isL_uJ, isL_wI, isL_wR, isL_wD, isL_wJ, isL_wIs]; with_reducible assumption)) dX5_place_1 rfl ?_
  refine r_aload_n (i := 0) (n := 5) C dX5_place_4 rfl rfl rfl ?_
  refine gX5_41 (n := 8) C hk dX5_place_5 rfl ?_
  rw [hhd]
  refine kX5_72 (n := 11) C (c_wholePlace hst S cv t rr 48000 hvc (rtN.le hr).1 (rtN.le hr).2 (by omega) (by omega) hd hd2) hvc.1 (by decide) (by decide) (Nat.le_of_ble_eq_true rfl) dX5_place_8 rfl (fun r S1 hp => ?_)
  obtain ⟨hS, hr⟩ := hp
  subst S1
  subst r
  refine t_j C dX5_place_11 (by decide) ?_
  exact ⟨rfl, rfl⟩
set_option maxRecDepth 100000 in
set_option maxHeartbeats 1000000 in
theorem c_freeFrames {l : Launch} {G : GG} {b : Nat} (hst : l.stackTraces = false) (S : Sw) (a : Nat) (hk : sK S a = 5) (cv t rr : Nat) (hcv : fR S 505 a = some cv) (hvc : vC S cv t rr 48000) (hr : rtN rr) (w L R n : Nat) (hw : fR S 506 a = some w) (hfc : fC S w L R n) (hn : n < 2 ^ 20) (nx : Nat) (hnx : fJ S 512 a = lN nx) (hnx2 : nx < 2 ^ 19) : Ct l G b yX5_freeFrames cX5_freeFrames 1 (some .long) rmX5_freeFrames mJ [.ref a] S (fun r S' => S' = S ∧ r = 200 - (lN n - lN (nx * rr / 48000))) := by
  refine Ct.of2 pnX5 (own := RX5) rfl (Nat.le_of_ble_eq_true rfl) hst ?_
  intro p e s m args below meth c C hname
  change J p l e rmX5_freeFrames s m args below meth c 1 G b _ 0 [(0, .ref a)] [] S 0 0
  refine r_ldc2 (n := 3) (v := 200) C (mem_tb (mem_tbl 604 (by decide +kernel)) (by decide +kernel)) dX5_freeFrames_0 rfl ?_
  refine r_aload_n (i := 0) (n := 4) C dX5_freeFrames_3 rfl rfl rfl ?_
  refine gX5_14 (n := 7) C (by first | with_reducible assumption | (simp only [sK_uI, sK_uJ, sK_uR, sK_wI, sK_wR, sK_wD, sK_wJ, sK_wIs, aN_uI, aN_uJ, aN_uR, aN_wI, aN_wR, aN_wD, aN_wJ, aN_wIs, fR_uI, fR_uJ, fR_wI, fR_wR, fR_wD, fR_wJ, fR_wIs, isI_uI, isI_uJ, isI_wI, isI_wR, isI_wD, isI_wJ, isI_wIs, isC_uI, isC_uJ, isC_wI, isC_wR, isC_wD, isC_wJ, isC_wIs, isG_uI, isG_uJ, isG_wI, isG_wR, isG_wD, isG_wJ, isG_wIs, isZ_uI, isZ_uJ, isZ_wI, isZ_wR, isZ_wD, isZ_wJ, isZ_wIs, isD_uI, isD_uJ, isD_wI, isD_wR, isD_wD, isD_wJ, isD_wIs, isL_uI, isL_uJ, isL_wI, isL_wR, isL_wD, isL_wJ, isL_wIs]; with_reducible assumption)) (by first | with_reducible assumption | (simp only [sK_uI, sK_uJ, sK_uR, sK_wI, sK_wR, sK_wD, sK_wJ, sK_wIs, aN_uI, aN_uJ, aN_uR, aN_wI, aN_wR, aN_wD, aN_wJ, aN_wIs, fR_uI, fR_uJ, fR_wI, fR_wR, fR_wD, fR_wJ, fR_wIs, isI_uI, isI_uJ, isI_wI, isI_wR, isI_wD, isI_wJ, isI_wIs, isC_uI, isC_uJ, isC_wI, isC_wR, isC_wD, isC_wJ, isC_wIs, isG_uI, isG_uJ, isG_wI, isG_wR, isG_wD, isG_wJ, isG_wIs, isZ_uI, isZ_uJ, isZ_wI, isZ_wR, isZ_wD, isZ_wJ, isZ_wIs, isD_uI, isD_uJ, isD_wI, isD_wR, isD_wD, isD_wJ, isD_wIs, isL_uI, isL_uJ, isL_wI, isL_wR, isL_wD, isL_wJ, isL_wIs]; with_reducible assumption)) dX5_freeFrames_4 rfl ?_
  refine gX5_122 (n := 10) C hfc.1 dX5_freeFrames_7 rfl ?_
  rw [hfc.2.2.2.2.2]
  refine r_aload_n (i := 0) (n := 11) C dX5_freeFrames_10 rfl rfl rfl ?_
  refine gX5_53 (n := 14) C (by first | with_reducible assumption | (simp only [sK_uI, sK_uJ, sK_uR, sK_wI, sK_wR, sK_wD, sK_wJ, sK_wIs, aN_uI, aN_uJ, aN_uR, aN_wI, aN_wR, aN_wD, aN_wJ, aN_wIs, fR_uI, fR_uJ, fR_wI, fR_wR, fR_wD, fR_wJ, fR_wIs, isI_uI, isI_uJ, isI_wI, isI_wR, isI_wD, isI_wJ, isI_wIs, isC_uI, isC_uJ, isC_wI, isC_wR, isC_wD, isC_wJ, isC_wIs, isG_uI, isG_uJ, isG_wI, isG_wR, isG_wD, isG_wJ, isG_wIs, isZ_uI, isZ_uJ, isZ_wI, isZ_wR, isZ_wD, isZ_wJ, isZ_wIs, isD_uI, isD_uJ, isD_wI, isD_wR, isD_wD, isD_wJ, isD_wIs, isL_uI, isL_uJ, isL_wI, isL_wR, isL_wD, isL_wJ, isL_wIs]; with_reducible assumption)) (by first | with_reducible assumption | (simp only [sK_uI, sK_uJ, sK_uR, sK_wI, sK_wR, sK_wD, sK_wJ, sK_wIs, aN_uI, aN_uJ, aN_uR, aN_wI, aN_wR, aN_wD, aN_wJ, aN_wIs, fR_uI, fR_uJ, fR_wI, fR_wR, fR_wD, fR_wJ, fR_wIs, isI_uI, isI_uJ, isI_wI, isI_wR, isI_wD, isI_wJ, isI_wIs, isC_uI, isC_uJ, isC_wI, isC_wR, isC_wD, isC_wJ, isC_wIs, isG_uI, isG_uJ, isG_wI, isG_wR, isG_wD, isG_wJ, isG_wIs, isZ_uI, isZ_uJ, isZ_wI, isZ_wR, isZ_wD, isZ_wJ, isZ_wIs, isD_uI, isD_uJ, isD_wI, isD_wR, isD_wD, isD_wJ, isD_wIs, isL_uI, isL_uJ, isL_wI, isL_wR, isL_wD, isL_wJ, isL_wIs]; with_reducible assumption)) dX5_freeFrames_11 rfl ?_
  refine r_aload_n (i := 0) (n := 15) C dX5_freeFrames_14 rfl rfl rfl ?_
  refine gX5_37 (n := 18) C hk dX5_freeFrames_15 rfl ?_
  rw [hnx]
  refine kX5_72 (n := 21) C (c_wholePlace hst S cv t rr 48000 hvc (rtN.le hr).1 (rtN.le hr).2 (by omega) (by omega) nx (by omega)) hvc.1 (by decide) (by decide) (Nat.le_of_ble_eq_true rfl) dX5_freeFrames_18 rfl (fun r S1 hp => ?_)
  obtain ⟨hS, hr⟩ := hp
  subst S1
  subst r
  refine r_lsub (n := 22) C dX5_freeFrames_21 rfl ?_
  refine r_lsub (n := 23) C dX5_freeFrames_22 rfl ?_
  refine t_j C dX5_freeFrames_23 (by decide) ?_
  exact ⟨rfl, rfl⟩
set_option maxRecDepth 100000 in
set_option maxHeartbeats 1000000 in
theorem c_isWrittenFor {l : Launch} {G : GG} {b : Nat} (hst : l.stackTraces = false) (S : Sw) (a : Nat) (hk : sK S a = 5) (cv t rr : Nat) (hcv : fR S 505 a = some cv) (hvc : vC S cv t rr 48000) (hr : rtN rr) (w L R n : Nat) (hw : fR S 506 a = some w) (hfc : fC S w L R n) (hn : n < 2 ^ 20) (nx : Nat) (hnx : fJ S 512 a = lN nx) (hnx2 : nx < 2 ^ 19) (pd : Nat) (hpd : 0 < pd) (hpd2 : pd ≤ 1000) : Ct l G b yX5_isWrittenFor cX5_isWrittenFor 2 (some .boolean) rmX5_isWrittenFor mI [.ref a, .int (nI pd)] S (fun r S' => S' = S ∧ r = if (if rr = 48000 then nx + 24 * pd - 1 else (nx + 24 * pd - 1) * rr / 48000 + 8) < n then 1 else 0) := by
  refine Ct.of2 pnX5 (own := RX5) rfl (Nat.le_of_ble_eq_true rfl) hst ?_
  intro p e s m args below meth c C hname
  change J p l e rmX5_isWrittenFor s m args below meth c 2 G b _ 0 [(0, .ref a), (1, .int (nI pd))] [] S 0 0
  refine r_aload_n (i := 0) (n := 1) C dX5_isWrittenFor_0 rfl rfl rfl ?_
  refine gX5_53 (n := 4) C (by first | with_reducible assumption | (simp only [sK_uI, sK_uJ, sK_uR, sK_wI, sK_wR, sK_wD, sK_wJ, sK_wIs, aN_uI, aN_uJ, aN_uR, aN_wI, aN_wR, aN_wD, aN_wJ, aN_wIs, fR_uI, fR_uJ, fR_wI, fR_wR, fR_wD, fR_wJ, fR_wIs, isI_uI, isI_uJ, isI_wI, isI_wR, isI_wD, isI_wJ, isI_wIs, isC_uI, isC_uJ, isC_wI, isC_wR, isC_wD, isC_wJ, isC_wIs, isG_uI, isG_uJ, isG_wI, isG_wR, isG_wD, isG_wJ, isG_wIs, isZ_uI, isZ_uJ, isZ_wI, isZ_wR, isZ_wD, isZ_wJ, isZ_wIs, isD_uI, isD_uJ, isD_wI, isD_wR, isD_wD, isD_wJ, isD_wIs, isL_uI, isL_uJ, isL_wI, isL_wR, isL_wD, isL_wJ, isL_wIs]; with_reducible assumption)) (by first | with_reducible assumption | (simp only [sK_uI, sK_uJ, sK_uR, sK_wI, sK_wR, sK_wD, sK_wJ, sK_wIs, aN_uI, aN_uJ, aN_uR, aN_wI, aN_wR, aN_wD, aN_wJ, aN_wIs, fR_uI, fR_uJ, fR_wI, fR_wR, fR_wD, fR_wJ, fR_wIs, isI_uI, isI_uJ, isI_wI, isI_wR, isI_wD, isI_wJ, isI_wIs, isC_uI, isC_uJ, isC_wI, isC_wR, isC_wD, isC_wJ, isC_wIs, isG_uI, isG_uJ, isG_wI, isG_wR, isG_wD, isG_wJ, isG_wIs, isZ_uI, isZ_uJ, isZ_wI, isZ_wR, isZ_wD, isZ_wJ, isZ_wIs, isD_uI, isD_uJ, isD_wI, isD_wR, isD_wD, isD_wJ, isD_wIs, isL_uI, isL_uJ, isL_wI, isL_wR, isL_wD, isL_wJ, isL_wIs]; with_reducible assumption)) dX5_isWrittenFor_1 rfl ?_
  refine r_aload_n (i := 0) (n := 5) C dX5_isWrittenFor_4 rfl rfl rfl ?_
  refine gX5_37 (n := 8) C hk dX5_isWrittenFor_5 rfl ?_
  rw [hnx]
  refine r_ldc2 (n := 11) (v := 24) C (mem_tb (mem_tbl 129 (by decide +kernel)) (by decide +kernel)) dX5_isWrittenFor_8 rfl ?_
  refine r_iload_n (i := 1) (n := 12) C dX5_isWrittenFor_11 rfl rfl rfl ?_
  refine r_i2l (n := 13) C dX5_isWrittenFor_12 rfl ?_
  refine r_lmul (n := 14) C dX5_isWrittenFor_13 rfl ?_
  refine r_ladd (n := 15) C dX5_isWrittenFor_14 rfl ?_
  refine r_lconst (v := 1) (n := 16) C dX5_isWrittenFor_15 rfl rfl ?_
  refine r_lsub (n := 17) C dX5_isWrittenFor_16 rfl ?_
  rw [nI_l (by omega), show (24 : Int64) = lN 24 from rfl, show (1 : Int64) = lN 1 from rfl, lN_mul, lN_add, lN_sub (a := nx + 24 * pd) (b := 1) (by omega)]
  refine kX5_127 (n := 20) C (c_lastNeeded hst S cv t rr 48000 hvc (rtN.le hr).1 (rtN.le hr).2 (by omega) (by omega) (nx + 24 * pd - 1) (by omega)) hvc.1 (by decide) (by decide) (Nat.le_of_ble_eq_true rfl) dX5_isWrittenFor_17 rfl (fun r S1 hp => ?_)
  obtain ⟨hS, hr⟩ := hp
  subst S1
  subst r
  refine r_aload_n (i := 0) (n := 21) C dX5_isWrittenFor_20 rfl rfl rfl ?_
  refine gX5_14 (n := 24) C (by first | with_reducible assumption | (simp only [sK_uI, sK_uJ, sK_uR, sK_wI, sK_wR, sK_wD, sK_wJ, sK_wIs, aN_uI, aN_uJ, aN_uR, aN_wI, aN_wR, aN_wD, aN_wJ, aN_wIs, fR_uI, fR_uJ, fR_wI, fR_wR, fR_wD, fR_wJ, fR_wIs, isI_uI, isI_uJ, isI_wI, isI_wR, isI_wD, isI_wJ, isI_wIs, isC_uI, isC_uJ, isC_wI, isC_wR, isC_wD, isC_wJ, isC_wIs, isG_uI, isG_uJ, isG_wI, isG_wR, isG_wD, isG_wJ, isG_wIs, isZ_uI, isZ_uJ, isZ_wI, isZ_wR, isZ_wD, isZ_wJ, isZ_wIs, isD_uI, isD_uJ, isD_wI, isD_wR, isD_wD, isD_wJ, isD_wIs, isL_uI, isL_uJ, isL_wI, isL_wR, isL_wD, isL_wJ, isL_wIs]; with_reducible assumption)) (by first | with_reducible assumption | (simp only [sK_uI, sK_uJ, sK_uR, sK_wI, sK_wR, sK_wD, sK_wJ, sK_wIs, aN_uI, aN_uJ, aN_uR, aN_wI, aN_wR, aN_wD, aN_wJ, aN_wIs, fR_uI, fR_uJ, fR_wI, fR_wR, fR_wD, fR_wJ, fR_wIs, isI_uI, isI_uJ, isI_wI, isI_wR, isI_wD, isI_wJ, isI_wIs, isC_uI, isC_uJ, isC_wI, isC_wR, isC_wD, isC_wJ, isC_wIs, isG_uI, isG_uJ, isG_wI, isG_wR, isG_wD, isG_wJ, isG_wIs, isZ_uI, isZ_uJ, isZ_wI, isZ_wR, isZ_wD, isZ_wJ, isZ_wIs, isD_uI, isD_uJ, isD_wI, isD_wR, isD_wD, isD_wJ, isD_wIs, isL_uI, isL_uJ, isL_wI, isL_wR, isL_wD, isL_wJ, isL_wIs]; with_reducible assumption)) dX5_isWrittenFor_21 rfl ?_
  refine gX5_122 (n := 27) C hfc.1 dX5_isWrittenFor_24 rfl ?_
  rw [hfc.2.2.2.2.2]
  refine r_lcmp (n := 28) C dX5_isWrittenFor_27 rfl ?_
  refine r_if_ge (n := 31) (t := 35) C dX5_isWrittenFor_28 (by decide) rfl (fun h28 => ?_) (fun h28 => ?_)
  · refine r_iconst (v := 0) (n := 36) C dX5_isWrittenFor_35 rfl rfl ?_
    refine t_i C rfl dX5_isWrittenFor_36 (by decide) ?_
    refine ⟨rfl, ?_⟩
    have hb9 := pl_le (n := nx + 24 * pd - 1) (f := rr) (t := 48000) (by omega) (rtN.le hr).1 (by omega)
    have hq : (if rr = 48000 then nx + 24 * pd - 1 else (nx + 24 * pd - 1) * rr / 48000 + 8) < 2 ^ 40 := by split <;> omega
    rw [lg_cmp_ge, pk_lLE (by omega) (by omega)] at h28
    first | (rw [if_neg (by omega)]) | (rw [if_pos (by omega)])
  · refine r_iconst (v := 1) (n := 32) C dX5_isWrittenFor_31 rfl rfl ?_
    refine r_goto (t := 36) C dX5_isWrittenFor_32 (by decide) ?_
    refine t_i C rfl dX5_isWrittenFor_36 (by decide) ?_
    refine ⟨rfl, ?_⟩
    have hb9 := pl_le (n := nx + 24 * pd - 1) (f := rr) (t := 48000) (by omega) (rtN.le hr).1 (by omega)
    have hq : (if rr = 48000 then nx + 24 * pd - 1 else (nx + 24 * pd - 1) * rr / 48000 + 8) < 2 ^ 40 := by split <;> omega
    rw [lg_cmp_ge, pk_lLE (by omega) (by omega)] at h28
    first | (rw [if_neg (by omega)]) | (rw [if_pos (by omega)])
