theorem jFm_s {i : Nat} (h : i < 8) : jFm (nI i) 4 = nI (i % 4) := by
  have q : ∀ i : Fin 8, jFm (nI i.1) 4 = nI (i.1 % 4) := by decide +kernel
  exact q ⟨i, h⟩
theorem jFm_d {x y : Nat} (hx : x < 4) (hy : y < 4) : jFm (nI x - nI y) 4 = nI ((x + 4 - y) % 4) := by
  have q : ∀ (x y : Fin 4), jFm (nI x.1 - nI y.1) 4 = nI ((x.1 + 4 - y.1) % 4) := by decide +kernel
  exact q ⟨x, hx⟩ ⟨y, hy⟩
def rtb (r : Int32) : Nat := if r = 0 then 0 else 1
theorem smI {j : Nat} {r : Int32} : 2 * nI j + (if r = 0 then 0 else 1) = nI (2 * j + rtb r) := by
  unfold rtb
  split
  · exact add_nI (a := 2 * j) (b := 0) (mul_nI (a := 2) (b := j) rfl rfl) rfl
  · exact add_nI (a := 2 * j) (b := 1) (mul_nI (a := 2) (b := j) rfl rfl) rfl
theorem rtb_lt (r : Int32) : rtb r < 2 := by unfold rtb; split <;> omega
set_option maxRecDepth 100000 in
set_option maxHeartbeats 1000000 in
theorem c_coming_n1 {l : Launch} {G : GG} {b : Nat} (hst : l.stackTraces = false) (S : Sw) (a : Nat) (hk : sK S a = 7) (i rt v : Int32) (hi : ¬ (0 ≤ i ∧ i < 24)) : Cth l G b yX7_coming cX7_coming 4 none rmX7_coming mV [.ref a, .int i, .int rt, .int v] S (fun _ _ => False) (fun k => k = 1) := by
  refine Cth.of2 pnX7 (own := RX7) rfl (Nat.le_of_ble_eq_true rfl) hst ?_
  intro p e s m args below meth c C hname hno
  change J p l e rmX7_coming s m args below meth c 4 G b _ 0 [(0, .ref a), (1, .int i), (2, .int rt), (3, .int v)] [] S 0 0
  refine r_iload_n (i := 1) (n := 1) C dX7_coming_0 rfl rfl rfl ?_
  refine kX7_170 (n := 4) C (c_X7_isFrame hst S i) (by decide) (by decide) (Nat.le_of_ble_eq_true rfl) dX7_coming_1 rfl (fun r S1 hp => ?_)
  obtain ⟨hS9, hr9⟩ := hp
  subst S1
  subst r
  rw [if_neg hi]
  refine r_if_eqT (t := 14) C rfl dX7_coming_4 (by decide) ?_
  exact r_throw (k := 1) (is := 176) (tx := "no such frame or sample") C hno (Or.inl rfl) (by decide) at_1 (mem_tb (mem_tbl 289 (by decide +kernel)) (by decide +kernel)) (mem_tb (mem_tbl 9 (by decide +kernel)) (by decide +kernel)) dX7_coming_14 dX7_coming_17 dX7_coming_18 dX7_coming_20 dX7_coming_23 (by decide) (by decide) (by decide) rfl
set_option maxRecDepth 100000 in
set_option maxHeartbeats 1000000 in
theorem c_coming_n2 {l : Launch} {G : GG} {b : Nat} (hst : l.stackTraces = false) (S : Sw) (a : Nat) (hk : sK S a = 7) (i rt v : Int32) (hi : 0 ≤ i ∧ i < 24) (hv : ¬ ((-32768) ≤ v ∧ v ≤ 32767)) : Cth l G b yX7_coming cX7_coming 4 none rmX7_coming mV [.ref a, .int i, .int rt, .int v] S (fun _ _ => False) (fun k => k = 1) := by
  refine Cth.of2 pnX7 (own := RX7) rfl (Nat.le_of_ble_eq_true rfl) hst ?_
  intro p e s m args below meth c C hname hno
  change J p l e rmX7_coming s m args below meth c 4 G b _ 0 [(0, .ref a), (1, .int i), (2, .int rt), (3, .int v)] [] S 0 0
  refine r_iload_n (i := 1) (n := 1) C dX7_coming_0 rfl rfl rfl ?_
  refine kX7_170 (n := 4) C (c_X7_isFrame hst S i) (by decide) (by decide) (Nat.le_of_ble_eq_true rfl) dX7_coming_1 rfl (fun r S1 hp => ?_)
  obtain ⟨hS9, hr9⟩ := hp
  subst S1
  subst r
  rw [if_pos hi]
  refine r_if_eqF (n := 7) (t := 14) C (by decide) dX7_coming_4 (by decide) rfl ?_
  refine r_iload_n (i := 3) (n := 8) C dX7_coming_7 rfl rfl rfl ?_
  refine kX7_173 (n := 11) C (c_X7_isSample hst S v) (by decide) (by decide) (Nat.le_of_ble_eq_true rfl) dX7_coming_8 rfl (fun r S1 hp => ?_)
  obtain ⟨hS9, hr9⟩ := hp
  subst S1
  subst r
  rw [if_neg hv]
  refine r_if_neF (n := 14) (t := 24) C rfl dX7_coming_11 (by decide) rfl ?_
  exact r_throw (k := 1) (is := 176) (tx := "no such frame or sample") C hno (Or.inl rfl) (by decide) at_1 (mem_tb (mem_tbl 289 (by decide +kernel)) (by decide +kernel)) (mem_tb (mem_tbl 9 (by decide +kernel)) (by decide +kernel)) dX7_coming_14 dX7_coming_17 dX7_coming_18 dX7_coming_20 dX7_coming_23 (by decide) (by decide) (by decide) rfl
theorem fr24 {j : Nat} (hj : j < 24) : (0 : Int32) ≤ nI j ∧ nI j < 24 := ⟨cle (a := 0) (b := j) rfl rfl (by omega) (by omega), clt (a := j) (b := 24) rfl rfl hj (by omega)⟩
set_option maxRecDepth 100000 in
set_option maxHeartbeats 1000000 in
theorem c_coming_y {l : Launch} {G : GG} {b : Nat} (hst : l.stackTraces = false) (S : Sw) (a : Nat) (hk : sK S a = 7) (inc : Nat) (hin : fR S 708 a = some inc) (hii : isI S inc 48) (j : Nat) (hj : j < 24) (rt v : Int32) (hv : (-32768) ≤ v ∧ v ≤ 32767) : Cth l G b yX7_coming cX7_coming 4 none rmX7_coming mV [.ref a, .int (nI j), .int rt, .int v] S (fun _ S' => S' = wI S inc (2 * j + rtb rt) v) (fun _ => False) := by
  refine Cth.of2 pnX7 (own := RX7) rfl (Nat.le_of_ble_eq_true rfl) hst ?_
  intro p e s m args below meth c C hname hno
  change J p l e rmX7_coming s m args below meth c 4 G b _ 0 [(0, .ref a), (1, .int (nI j)), (2, .int rt), (3, .int v)] [] S 0 0
  refine r_iload_n (i := 1) (n := 1) C dX7_coming_0 rfl rfl rfl ?_
  refine kX7_170 (n := 4) C (c_X7_isFrame hst S (nI j)) (by decide) (by decide) (Nat.le_of_ble_eq_true rfl) dX7_coming_1 rfl (fun r S1 hp => ?_)
  obtain ⟨hS9, hr9⟩ := hp
  subst S1
  subst r
  rw [if_pos (fr24 hj)]
  refine r_if_eqF (n := 7) (t := 14) C (by decide) dX7_coming_4 (by decide) rfl ?_
  refine r_iload_n (i := 3) (n := 8) C dX7_coming_7 rfl rfl rfl ?_
  refine kX7_173 (n := 11) C (c_X7_isSample hst S v) (by decide) (by decide) (Nat.le_of_ble_eq_true rfl) dX7_coming_8 rfl (fun r S1 hp => ?_)
  obtain ⟨hS9, hr9⟩ := hp
  subst S1
  subst r
  rw [if_pos hv]
  refine r_if_neT (t := 24) C (by decide) dX7_coming_11 (by decide) ?_
  refine r_aload_n (i := 0) (n := 25) C dX7_coming_24 rfl rfl rfl ?_
  refine gX7_47 (n := 28) C (by first | with_reducible assumption | (simp only [sK_uI, sK_uJ, sK_uR, sK_wI, sK_wR, sK_wD, sK_wJ, sK_wIs, aN_uI, aN_uJ, aN_uR, aN_wI, aN_wR, aN_wD, aN_wJ, aN_wIs, fR_uI, fR_uJ, fR_wI, fR_wR, fR_wD, fR_wJ, fR_wIs, isI_uI, isI_uJ, isI_wI, isI_wR, isI_wD, isI_wJ, isI_wIs, isC_uI, isC_uJ, isC_wI, isC_wR, isC_wD, isC_wJ, isC_wIs, isG_uI, isG_uJ, isG_wI, isG_wR, isG_wD, isG_wJ, isG_wIs, isZ_uI, isZ_uJ, isZ_wI, isZ_wR, isZ_wD, isZ_wJ, isZ_wIs, isD_uI, isD_uJ, isD_wI, isD_wR, isD_wD, isD_wJ, isD_wIs, isL_uI, isL_uJ, isL_wI, isL_wR, isL_wD, isL_wJ, isL_wIs]; with_reducible assumption)) (by first | with_reducible assumption | (simp only [sK_uI, sK_uJ, sK_uR, sK_wI, sK_wR, sK_wD, sK_wJ, sK_wIs, aN_uI, aN_uJ, aN_uR, aN_wI, aN_wR, aN_wD, aN_wJ, aN_wIs, fR_uI, fR_uJ, fR_wI, fR_wR, fR_wD, fR_wJ, fR_wIs, isI_uI, isI_uJ, isI_wI, isI_wR, isI_wD, isI_wJ, isI_wIs, isC_uI, isC_uJ, isC_wI, isC_wR, isC_wD, isC_wJ, isC_wIs, isG_uI, isG_uJ, isG_wI, isG_wR, isG_wD, isG_wJ, isG_wIs, isZ_uI, isZ_uJ, isZ_wI, isZ_wR, isZ_wD, isZ_wJ, isZ_wIs, isD_uI, isD_uJ, isD_wI, isD_wR, isD_wD, isD_wJ, isD_wIs, isL_uI, isL_uJ, isL_wI, isL_wR, isL_wD, isL_wJ, isL_wIs]; with_reducible assumption)) dX7_coming_25 rfl ?_
  refine r_iload_n (i := 1) (n := 29) C dX7_coming_28 rfl rfl rfl ?_
  refine r_iload_n (i := 2) (n := 30) C dX7_coming_29 rfl rfl rfl ?_
  refine kX7_178 (n := 33) C (c_X7_sampleIndex hst S (nI j) rt) (by decide) (by decide) (Nat.le_of_ble_eq_true rfl) dX7_coming_30 rfl (fun r S1 hp => ?_)
  obtain ⟨hS9, hr9⟩ := hp
  subst S1
  subst r
  rw [smI]
  refine r_iload_n (i := 3) (n := 34) C dX7_coming_33 rfl rfl rfl ?_
  refine q_iast (n := 35) C (2 * j + rtb rt) hii rfl (by have := rtb_lt rt; omega) dX7_coming_34 rfl ?_
  refine t_v C dX7_coming_35 (by decide) ?_
  rfl
set_option maxRecDepth 100000 in
set_option maxHeartbeats 1000000 in
theorem c_played_n1 {l : Launch} {G : GG} {b : Nat} (hst : l.stackTraces = false) (S : Sw) (a : Nat) (hk : sK S a = 7) (pd i rt : Int32) (hp_ : ¬ (0 ≤ pd ∧ pd < 4)) : Cth l G b yX7_played cX7_played 4 (some .int) rmX7_played mI [.ref a, .int pd, .int i, .int rt] S (fun _ _ => False) (fun k => k = 1) := by
  refine Cth.of2 pnX7 (own := RX7) rfl (Nat.le_of_ble_eq_true rfl) hst ?_
  intro p e s m args below meth c C hname hno
  change J p l e rmX7_played s m args below meth c 4 G b _ 0 [(0, .ref a), (1, .int pd), (2, .int i), (3, .int rt)] [] S 0 0
  refine r_iload_n (i := 1) (n := 1) C dX7_played_0 rfl rfl rfl ?_
  refine r_if_lt (n := 4) (t := 16) C dX7_played_1 (by decide) rfl (fun h1 => ?_) (fun h1 => ?_)
  · exact r_throw (k := 1) (is := 182) (tx := "no such period or frame") C hno (Or.inl rfl) (by decide) at_1 (mem_tb (mem_tbl 289 (by decide +kernel)) (by decide +kernel)) (mem_tb (mem_tbl 9 (by decide +kernel)) (by decide +kernel)) dX7_played_16 dX7_played_19 dX7_played_20 dX7_played_22 dX7_played_25 (by decide) (by decide) (by decide) rfl
  · refine r_iload_n (i := 1) (n := 5) C dX7_played_4 rfl rfl rfl ?_
    refine r_iconst (v := 4) (n := 6) C dX7_played_5 rfl rfl ?_
    refine r_icmp_ge (n := 9) (t := 16) C dX7_played_6 (by decide) rfl (fun h6 => ?_) (fun h6 => ?_)
    · exact r_throw (k := 1) (is := 182) (tx := "no such period or frame") C hno (Or.inl rfl) (by decide) at_1 (mem_tb (mem_tbl 289 (by decide +kernel)) (by decide +kernel)) (mem_tb (mem_tbl 9 (by decide +kernel)) (by decide +kernel)) dX7_played_16 dX7_played_19 dX7_played_20 dX7_played_22 dX7_played_25 (by decide) (by decide) (by decide) rfl
    · exact absurd ⟨Int32.not_lt.mp h1, Int32.not_le.mp h6⟩ hp_
set_option maxRecDepth 100000 in
set_option maxHeartbeats 1000000 in
theorem c_played_n2 {l : Launch} {G : GG} {b : Nat} (hst : l.stackTraces = false) (S : Sw) (a : Nat) (hk : sK S a = 7) (pd i rt : Int32) (hi : ¬ (0 ≤ i ∧ i < 24)) : Cth l G b yX7_played cX7_played 4 (some .int) rmX7_played mI [.ref a, .int pd, .int i, .int rt] S (fun _ _ => False) (fun k => k = 1) := by
  refine Cth.of2 pnX7 (own := RX7) rfl (Nat.le_of_ble_eq_true rfl) hst ?_
  intro p e s m args below meth c C hname hno
  change J p l e rmX7_played s m args below meth c 4 G b _ 0 [(0, .ref a), (1, .int pd), (2, .int i), (3, .int rt)] [] S 0 0
  refine r_iload_n (i := 1) (n := 1) C dX7_played_0 rfl rfl rfl ?_
  refine r_if_lt (n := 4) (t := 16) C dX7_played_1 (by decide) rfl (fun h1 => ?_) (fun h1 => ?_)
  · exact r_throw (k := 1) (is := 182) (tx := "no such period or frame") C hno (Or.inl rfl) (by decide) at_1 (mem_tb (mem_tbl 289 (by decide +kernel)) (by decide +kernel)) (mem_tb (mem_tbl 9 (by decide +kernel)) (by decide +kernel)) dX7_played_16 dX7_played_19 dX7_played_20 dX7_played_22 dX7_played_25 (by decide) (by decide) (by decide) rfl
  · refine r_iload_n (i := 1) (n := 5) C dX7_played_4 rfl rfl rfl ?_
    refine r_iconst (v := 4) (n := 6) C dX7_played_5 rfl rfl ?_
    refine r_icmp_ge (n := 9) (t := 16) C dX7_played_6 (by decide) rfl (fun h6 => ?_) (fun h6 => ?_)
    · exact r_throw (k := 1) (is := 182) (tx := "no such period or frame") C hno (Or.inl rfl) (by decide) at_1 (mem_tb (mem_tbl 289 (by decide +kernel)) (by decide +kernel)) (mem_tb (mem_tbl 9 (by decide +kernel)) (by decide +kernel)) dX7_played_16 dX7_played_19 dX7_played_20 dX7_played_22 dX7_played_25 (by decide) (by decide) (by decide) rfl
    · refine r_iload_n (i := 2) (n := 10) C dX7_played_9 rfl rfl rfl ?_
      refine kX7_170 (n := 13) C (c_X7_isFrame hst S i) (by decide) (by decide) (Nat.le_of_ble_eq_true rfl) dX7_played_10 rfl (fun r S1 hp => ?_)
      obtain ⟨hS9, hr9⟩ := hp
      subst S1
      subst r
      rw [if_neg hi]
      refine r_if_neF (n := 16) (t := 26) C rfl dX7_played_13 (by decide) rfl ?_
      exact r_throw (k := 1) (is := 182) (tx := "no such period or frame") C hno (Or.inl rfl) (by decide) at_1 (mem_tb (mem_tbl 289 (by decide +kernel)) (by decide +kernel)) (mem_tb (mem_tbl 9 (by decide +kernel)) (by decide +kernel)) dX7_played_16 dX7_played_19 dX7_played_20 dX7_played_22 dX7_played_25 (by decide) (by decide) (by decide) rfl
set_option maxRecDepth 100000 in
set_option maxHeartbeats 1000000 in
theorem c_played_y {l : Launch} {G : GG} {b : Nat} (hst : l.stackTraces = false) (S : Sw) (a : Nat) (hk : sK S a = 7) (pst np p0 j py : Nat) (hps : fR S 706 a = some pst) (hig : isG S pst 4) (hnp : fI S 707 a = nI np) (hn4 : np < 4) (hp0 : p0 < 4) (hj : j < 24) (hpy : aR S pst ((np + 4 - p0) % 4) = some py) (hyi : isI S py 48) (rt : Int32) : Cth l G b yX7_played cX7_played 4 (some .int) rmX7_played mI [.ref a, .int (nI p0), .int (nI j), .int rt] S (fun r S' => S' = S ∧ r = aI S py (2 * j + rtb rt)) (fun _ => False) := by
  refine Cth.of2 pnX7 (own := RX7) rfl (Nat.le_of_ble_eq_true rfl) hst ?_
  intro p e s m args below meth c C hname hno
  change J p l e rmX7_played s m args below meth c 4 G b _ 0 [(0, .ref a), (1, .int (nI p0)), (2, .int (nI j)), (3, .int rt)] [] S 0 0
  refine r_iload_n (i := 1) (n := 1) C dX7_played_0 rfl rfl rfl ?_
  refine r_if_ltF (n := 4) (t := 16) C (cnlt (a := p0) (b := 0) rfl rfl (by omega) (by omega)) dX7_played_1 (by decide) rfl ?_
  refine r_iload_n (i := 1) (n := 5) C dX7_played_4 rfl rfl rfl ?_
  refine r_iconst (v := 4) (n := 6) C dX7_played_5 rfl rfl ?_
  refine r_icmp_geF (n := 9) (t := 16) C (cnle (a := 4) (b := p0) rfl rfl (by omega) (by omega)) dX7_played_6 (by decide) rfl ?_
  refine r_iload_n (i := 2) (n := 10) C dX7_played_9 rfl rfl rfl ?_
  refine kX7_170 (n := 13) C (c_X7_isFrame hst S (nI j)) (by decide) (by decide) (Nat.le_of_ble_eq_true rfl) dX7_played_10 rfl (fun r S1 hp => ?_)
  obtain ⟨hS9, hr9⟩ := hp
  subst S1
  subst r
  rw [if_pos (fr24 hj)]
  refine r_if_neT (t := 26) C (by decide) dX7_played_13 (by decide) ?_
  refine r_aload_n (i := 0) (n := 27) C dX7_played_26 rfl rfl rfl ?_
  refine gX7_41 (n := 30) C hk hps dX7_played_27 rfl ?_
  refine r_aload_n (i := 0) (n := 31) C dX7_played_30 rfl rfl rfl ?_
  refine gX7_44 (n := 34) C hk dX7_played_31 rfl ?_
  rw [hnp]
  refine r_iload_n (i := 1) (n := 35) C dX7_played_34 rfl rfl rfl ?_
  refine r_isub (n := 36) C dX7_played_35 rfl ?_
  refine kX7_144 (n := 39) C (c_X7_slotOf hst S (nI np - nI p0)) (by decide) (by decide) (Nat.le_of_ble_eq_true rfl) dX7_played_36 rfl (fun r S1 hp => ?_)
  obtain ⟨hS9, hr9⟩ := hp
  subst S1
  subst r
  rw [jFm_d hn4 hp0]
  refine r_aaldI (n := 40) (j := (np + 4 - p0) % 4) (x := py) C hig.1 rfl (by rw [hig.2.1]; omega) (by rw [hig.2.1]; decide) hpy dX7_played_39 rfl ?_
  refine r_iload_n (i := 2) (n := 41) C dX7_played_40 rfl rfl rfl ?_
  refine r_iload_n (i := 3) (n := 42) C dX7_played_41 rfl rfl rfl ?_
  refine kX7_178 (n := 45) C (c_X7_sampleIndex hst S (nI j) rt) (by decide) (by decide) (Nat.le_of_ble_eq_true rfl) dX7_played_42 rfl (fun r S1 hp => ?_)
  obtain ⟨hS9, hr9⟩ := hp
  subst S1
  subst r
  rw [smI]
  refine q_iald (n := 46) C (2 * j + rtb rt) hyi rfl (by have := rtb_lt rt; omega) dX7_played_45 rfl ?_
  refine t_i C rfl dX7_played_46 (by decide) ?_
  exact ⟨rfl, rfl⟩
set_option maxRecDepth 100000 in
set_option maxHeartbeats 1000000 in
theorem c_tap_n1 {l : Launch} {G : GG} {b : Nat} (hst : l.stackTraces = false) (S : Sw) (a : Nat) (hk : sK S a = 7) (ph kk : Int32) (hp_ : ¬ (0 ≤ ph ∧ ph < 32)) : Cth l G b yX7_tap cX7_tap 3 (some .int) rmX7_tap mI [.ref a, .int ph, .int kk] S (fun _ _ => False) (fun k => k = 1) := by
  refine Cth.of2 pnX7 (own := RX7) rfl (Nat.le_of_ble_eq_true rfl) hst ?_
  intro p e s m args below meth c C hname hno
  change J p l e rmX7_tap s m args below meth c 3 G b _ 0 [(0, .ref a), (1, .int ph), (2, .int kk)] [] S 0 0
  refine r_iload_n (i := 1) (n := 1) C dX7_tap_0 rfl rfl rfl ?_
  refine r_if_lt (n := 4) (t := 20) C dX7_tap_1 (by decide) rfl (fun h1 => ?_) (fun h1 => ?_)
  · exact r_throw (k := 1) (is := 206) (tx := "no such tap") C hno (Or.inl rfl) (by decide) at_1 (mem_tb (mem_tbl 289 (by decide +kernel)) (by decide +kernel)) (mem_tb (mem_tbl 9 (by decide +kernel)) (by decide +kernel)) dX7_tap_20 dX7_tap_23 dX7_tap_24 dX7_tap_26 dX7_tap_29 (by decide) (by decide) (by decide) rfl
  · refine r_iload_n (i := 1) (n := 5) C dX7_tap_4 rfl rfl rfl ?_
    refine r_bipush (v := 32) (n := 7) C dX7_tap_5 rfl rfl ?_
    refine r_icmp_ge (n := 10) (t := 20) C dX7_tap_7 (by decide) rfl (fun h7 => ?_) (fun h7 => ?_)
    · exact r_throw (k := 1) (is := 206) (tx := "no such tap") C hno (Or.inl rfl) (by decide) at_1 (mem_tb (mem_tbl 289 (by decide +kernel)) (by decide +kernel)) (mem_tb (mem_tbl 9 (by decide +kernel)) (by decide +kernel)) dX7_tap_20 dX7_tap_23 dX7_tap_24 dX7_tap_26 dX7_tap_29 (by decide) (by decide) (by decide) rfl
    · exact absurd ⟨Int32.not_lt.mp h1, Int32.not_le.mp h7⟩ hp_
set_option maxRecDepth 100000 in
set_option maxHeartbeats 1000000 in
theorem c_tap_n2 {l : Launch} {G : GG} {b : Nat} (hst : l.stackTraces = false) (S : Sw) (a : Nat) (hk : sK S a = 7) (ph kk : Int32) (hq_ : ¬ (0 ≤ kk ∧ kk < 16)) : Cth l G b yX7_tap cX7_tap 3 (some .int) rmX7_tap mI [.ref a, .int ph, .int kk] S (fun _ _ => False) (fun k => k = 1) := by
  refine Cth.of2 pnX7 (own := RX7) rfl (Nat.le_of_ble_eq_true rfl) hst ?_
  intro p e s m args below meth c C hname hno
  change J p l e rmX7_tap s m args below meth c 3 G b _ 0 [(0, .ref a), (1, .int ph), (2, .int kk)] [] S 0 0
  refine r_iload_n (i := 1) (n := 1) C dX7_tap_0 rfl rfl rfl ?_
  refine r_if_lt (n := 4) (t := 20) C dX7_tap_1 (by decide) rfl (fun h1 => ?_) (fun h1 => ?_)
  · exact r_throw (k := 1) (is := 206) (tx := "no such tap") C hno (Or.inl rfl) (by decide) at_1 (mem_tb (mem_tbl 289 (by decide +kernel)) (by decide +kernel)) (mem_tb (mem_tbl 9 (by decide +kernel)) (by decide +kernel)) dX7_tap_20 dX7_tap_23 dX7_tap_24 dX7_tap_26 dX7_tap_29 (by decide) (by decide) (by decide) rfl
  · refine r_iload_n (i := 1) (n := 5) C dX7_tap_4 rfl rfl rfl ?_
    refine r_bipush (v := 32) (n := 7) C dX7_tap_5 rfl rfl ?_
    refine r_icmp_ge (n := 10) (t := 20) C dX7_tap_7 (by decide) rfl (fun h7 => ?_) (fun h7 => ?_)
    · exact r_throw (k := 1) (is := 206) (tx := "no such tap") C hno (Or.inl rfl) (by decide) at_1 (mem_tb (mem_tbl 289 (by decide +kernel)) (by decide +kernel)) (mem_tb (mem_tbl 9 (by decide +kernel)) (by decide +kernel)) dX7_tap_20 dX7_tap_23 dX7_tap_24 dX7_tap_26 dX7_tap_29 (by decide) (by decide) (by decide) rfl
    · refine r_iload_n (i := 2) (n := 11) C dX7_tap_10 rfl rfl rfl ?_
      refine r_if_lt (n := 14) (t := 20) C dX7_tap_11 (by decide) rfl (fun h11 => ?_) (fun h11 => ?_)
      · exact r_throw (k := 1) (is := 206) (tx := "no such tap") C hno (Or.inl rfl) (by decide) at_1 (mem_tb (mem_tbl 289 (by decide +kernel)) (by decide +kernel)) (mem_tb (mem_tbl 9 (by decide +kernel)) (by decide +kernel)) dX7_tap_20 dX7_tap_23 dX7_tap_24 dX7_tap_26 dX7_tap_29 (by decide) (by decide) (by decide) rfl
      · refine r_iload_n (i := 2) (n := 15) C dX7_tap_14 rfl rfl rfl ?_
        refine r_bipush (v := 16) (n := 17) C dX7_tap_15 rfl rfl ?_
        refine r_icmp_lt (n := 20) (t := 30) C dX7_tap_17 (by decide) rfl (fun h17 => ?_) (fun h17 => ?_)
        · exact absurd ⟨Int32.not_lt.mp h11, h17⟩ hq_
        · exact r_throw (k := 1) (is := 206) (tx := "no such tap") C hno (Or.inl rfl) (by decide) at_1 (mem_tb (mem_tbl 289 (by decide +kernel)) (by decide +kernel)) (mem_tb (mem_tbl 9 (by decide +kernel)) (by decide +kernel)) dX7_tap_20 dX7_tap_23 dX7_tap_24 dX7_tap_26 dX7_tap_29 (by decide) (by decide) (by decide) rfl
set_option maxRecDepth 100000 in
set_option maxHeartbeats 1000000 in
theorem c_tap_y {l : Launch} {G : GG} {b : Nat} (hst : l.stackTraces = false) (S : Sw) (a : Nat) (hk : sK S a = 7) (t row : Nat) (ht : fR S 700 a = some t) (htc : tC S t row) (p0 j : Nat) (hp0 : p0 < 32) (hj : j < 16) : Cth l G b yX7_tap cX7_tap 3 (some .int) rmX7_tap mI [.ref a, .int (nI p0), .int (nI j)] S (fun r S' => S' = S ∧ r = aI S row (16 * p0 + j)) (fun _ => False) := by
  refine Cth.of2 pnX7 (own := RX7) rfl (Nat.le_of_ble_eq_true rfl) hst ?_
  intro p e s m args below meth c C hname hno
  change J p l e rmX7_tap s m args below meth c 3 G b _ 0 [(0, .ref a), (1, .int (nI p0)), (2, .int (nI j))] [] S 0 0
  refine r_iload_n (i := 1) (n := 1) C dX7_tap_0 rfl rfl rfl ?_
  refine r_if_ltF (n := 4) (t := 20) C (cnlt (a := p0) (b := 0) rfl rfl (by omega) (by omega)) dX7_tap_1 (by decide) rfl ?_
  refine r_iload_n (i := 1) (n := 5) C dX7_tap_4 rfl rfl rfl ?_
  refine r_bipush (v := 32) (n := 7) C dX7_tap_5 rfl rfl ?_
  refine r_icmp_geF (n := 10) (t := 20) C (cnle (a := 32) (b := p0) rfl rfl (by omega) (by omega)) dX7_tap_7 (by decide) rfl ?_
  refine r_iload_n (i := 2) (n := 11) C dX7_tap_10 rfl rfl rfl ?_
  refine r_if_ltF (n := 14) (t := 20) C (cnlt (a := j) (b := 0) rfl rfl (by omega) (by omega)) dX7_tap_11 (by decide) rfl ?_
  refine r_iload_n (i := 2) (n := 15) C dX7_tap_14 rfl rfl rfl ?_
  refine r_bipush (v := 16) (n := 17) C dX7_tap_15 rfl rfl ?_
  refine r_icmp_ltT (t := 30) C (clt (a := j) (b := 16) rfl rfl (by omega) (by omega)) dX7_tap_17 (by decide) ?_
  refine r_aload_n (i := 0) (n := 31) C dX7_tap_30 rfl rfl rfl ?_
  refine gX7_10 (n := 34) C (by first | with_reducible assumption | (simp only [sK_uI, sK_uJ, sK_uR, sK_wI, sK_wR, sK_wD, sK_wJ, sK_wIs, aN_uI, aN_uJ, aN_uR, aN_wI, aN_wR, aN_wD, aN_wJ, aN_wIs, fR_uI, fR_uJ, fR_wI, fR_wR, fR_wD, fR_wJ, fR_wIs, isI_uI, isI_uJ, isI_wI, isI_wR, isI_wD, isI_wJ, isI_wIs, isC_uI, isC_uJ, isC_wI, isC_wR, isC_wD, isC_wJ, isC_wIs, isG_uI, isG_uJ, isG_wI, isG_wR, isG_wD, isG_wJ, isG_wIs, isZ_uI, isZ_uJ, isZ_wI, isZ_wR, isZ_wD, isZ_wJ, isZ_wIs, isD_uI, isD_uJ, isD_wI, isD_wR, isD_wD, isD_wJ, isD_wIs, isL_uI, isL_uJ, isL_wI, isL_wR, isL_wD, isL_wJ, isL_wIs]; with_reducible assumption)) (by first | with_reducible assumption | (simp only [sK_uI, sK_uJ, sK_uR, sK_wI, sK_wR, sK_wD, sK_wJ, sK_wIs, aN_uI, aN_uJ, aN_uR, aN_wI, aN_wR, aN_wD, aN_wJ, aN_wIs, fR_uI, fR_uJ, fR_wI, fR_wR, fR_wD, fR_wJ, fR_wIs, isI_uI, isI_uJ, isI_wI, isI_wR, isI_wD, isI_wJ, isI_wIs, isC_uI, isC_uJ, isC_wI, isC_wR, isC_wD, isC_wJ, isC_wIs, isG_uI, isG_uJ, isG_wI, isG_wR, isG_wD, isG_wJ, isG_wIs, isZ_uI, isZ_uJ, isZ_wI, isZ_wR, isZ_wD, isZ_wJ, isZ_wIs, isD_uI, isD_uJ, isD_wI, isD_wR, isD_wD, isD_wJ, isD_wIs, isL_uI, isL_uJ, isL_wI, isL_wR, isL_wD, isL_wJ, isL_wIs]; with_reducible assumption)) dX7_tap_31 rfl ?_
  refine r_iload_n (i := 1) (n := 35) C dX7_tap_34 rfl rfl rfl ?_
  refine r_iload_n (i := 2) (n := 36) C dX7_tap_35 rfl rfl rfl ?_
  refine kX7_208 (n := 39) C (c_of hst S t row p0 j htc hp0 hj) htc.1 (by decide) (by decide) (Nat.le_of_ble_eq_true rfl) dX7_tap_36 rfl (fun r S1 hp => ?_)
  obtain ⟨hS9, hr9⟩ := hp
  subst S1
  subst r
  refine t_i C rfl dX7_tap_39 (by decide) ?_
  exact ⟨rfl, rfl⟩
set_option maxRecDepth 100000 in
set_option maxHeartbeats 1000000 in
theorem c_clipped {l : Launch} {G : GG} {b : Nat} (hst : l.stackTraces = false) (S : Sw) (a : Nat) (hk : sK S a = 7) (lm : Nat) (hlm : fR S 701 a = some lm) (hkl : sK S lm = 3) : Ct l G b yX7_clipped cX7_clipped 1 (some .int) rmX7_clipped mI [.ref a] S (fun r S' => S' = S ∧ r = fI S 302 lm) := by
  refine Ct.of2 pnX7 (own := RX7) rfl (Nat.le_of_ble_eq_true rfl) hst ?_
  intro p e s m args below meth c C hname
  change J p l e rmX7_clipped s m args below meth c 1 G b _ 0 [(0, .ref a)] [] S 0 0
  refine r_aload_n (i := 0) (n := 1) C dX7_clipped_0 rfl rfl rfl ?_
  refine gX7_19 (n := 4) C (by first | with_reducible assumption | (simp only [sK_uI, sK_uJ, sK_uR, sK_wI, sK_wR, sK_wD, sK_wJ, sK_wIs, aN_uI, aN_uJ, aN_uR, aN_wI, aN_wR, aN_wD, aN_wJ, aN_wIs, fR_uI, fR_uJ, fR_wI, fR_wR, fR_wD, fR_wJ, fR_wIs, isI_uI, isI_uJ, isI_wI, isI_wR, isI_wD, isI_wJ, isI_wIs, isC_uI, isC_uJ, isC_wI, isC_wR, isC_wD, isC_wJ, isC_wIs, isG_uI, isG_uJ, isG_wI, isG_wR, isG_wD, isG_wJ, isG_wIs, isZ_uI, isZ_uJ, isZ_wI, isZ_wR, isZ_wD, isZ_wJ, isZ_wIs, isD_uI, isD_uJ, isD_wI, isD_wR, isD_wD, isD_wJ, isD_wIs, isL_uI, isL_uJ, isL_wI, isL_wR, isL_wD, isL_wJ, isL_wIs]; with_reducible assumption)) (by first | with_reducible assumption | (simp only [sK_uI, sK_uJ, sK_uR, sK_wI, sK_wR, sK_wD, sK_wJ, sK_wIs, aN_uI, aN_uJ, aN_uR, aN_wI, aN_wR, aN_wD, aN_wJ, aN_wIs, fR_uI, fR_uJ, fR_wI, fR_wR, fR_wD, fR_wJ, fR_wIs, isI_uI, isI_uJ, isI_wI, isI_wR, isI_wD, isI_wJ, isI_wIs, isC_uI, isC_uJ, isC_wI, isC_wR, isC_wD, isC_wJ, isC_wIs, isG_uI, isG_uJ, isG_wI, isG_wR, isG_wD, isG_wJ, isG_wIs, isZ_uI, isZ_uJ, isZ_wI, isZ_wR, isZ_wD, isZ_wJ, isZ_wIs, isD_uI, isD_uJ, isD_wI, isD_wR, isD_wD, isD_wJ, isD_wIs, isL_uI, isL_uJ, isL_wI, isL_wR, isL_wD, isL_wJ, isL_wIs]; with_reducible assumption)) dX7_clipped_1 rfl ?_
  refine gX7_197 (n := 7) C (by first | with_reducible assumption | (simp only [sK_uI, sK_uJ, sK_uR, sK_wI, sK_wR, sK_wD, sK_wJ, sK_wIs, aN_uI, aN_uJ, aN_uR, aN_wI, aN_wR, aN_wD, aN_wJ, aN_wIs, fR_uI, fR_uJ, fR_wI, fR_wR, fR_wD, fR_wJ, fR_wIs, isI_uI, isI_uJ, isI_wI, isI_wR, isI_wD, isI_wJ, isI_wIs, isC_uI, isC_uJ, isC_wI, isC_wR, isC_wD, isC_wJ, isC_wIs, isG_uI, isG_uJ, isG_wI, isG_wR, isG_wD, isG_wJ, isG_wIs, isZ_uI, isZ_uJ, isZ_wI, isZ_wR, isZ_wD, isZ_wJ, isZ_wIs, isD_uI, isD_uJ, isD_wI, isD_wR, isD_wD, isD_wJ, isD_wIs, isL_uI, isL_uJ, isL_wI, isL_wR, isL_wD, isL_wJ, isL_wIs]; with_reducible assumption)) dX7_clipped_4 rfl ?_
  refine t_i C rfl dX7_clipped_7 (by decide) ?_
  exact ⟨rfl, rfl⟩
set_option maxRecDepth 100000 in
set_option maxHeartbeats 1000000 in
theorem c_value {l : Launch} {G : GG} {b : Nat} (hst : l.stackTraces = false) (S : Sw) (a : Nat) (hk : sK S a = 7) (lm : Nat) (hlm : fR S 701 a = some lm) (hkl : sK S lm = 3) : Ct l G b yX7_value cX7_value 1 (some .int) rmX7_value mI [.ref a] S (fun r S' => S' = S ∧ r = fI S 301 lm) := by
  refine Ct.of2 pnX7 (own := RX7) rfl (Nat.le_of_ble_eq_true rfl) hst ?_
  intro p e s m args below meth c C hname
  change J p l e rmX7_value s m args below meth c 1 G b _ 0 [(0, .ref a)] [] S 0 0
  refine r_aload_n (i := 0) (n := 1) C dX7_value_0 rfl rfl rfl ?_
  refine gX7_19 (n := 4) C (by first | with_reducible assumption | (simp only [sK_uI, sK_uJ, sK_uR, sK_wI, sK_wR, sK_wD, sK_wJ, sK_wIs, aN_uI, aN_uJ, aN_uR, aN_wI, aN_wR, aN_wD, aN_wJ, aN_wIs, fR_uI, fR_uJ, fR_wI, fR_wR, fR_wD, fR_wJ, fR_wIs, isI_uI, isI_uJ, isI_wI, isI_wR, isI_wD, isI_wJ, isI_wIs, isC_uI, isC_uJ, isC_wI, isC_wR, isC_wD, isC_wJ, isC_wIs, isG_uI, isG_uJ, isG_wI, isG_wR, isG_wD, isG_wJ, isG_wIs, isZ_uI, isZ_uJ, isZ_wI, isZ_wR, isZ_wD, isZ_wJ, isZ_wIs, isD_uI, isD_uJ, isD_wI, isD_wR, isD_wD, isD_wJ, isD_wIs, isL_uI, isL_uJ, isL_wI, isL_wR, isL_wD, isL_wJ, isL_wIs]; with_reducible assumption)) (by first | with_reducible assumption | (simp only [sK_uI, sK_uJ, sK_uR, sK_wI, sK_wR, sK_wD, sK_wJ, sK_wIs, aN_uI, aN_uJ, aN_uR, aN_wI, aN_wR, aN_wD, aN_wJ, aN_wIs, fR_uI, fR_uJ, fR_wI, fR_wR, fR_wD, fR_wJ, fR_wIs, isI_uI, isI_uJ, isI_wI, isI_wR, isI_wD, isI_wJ, isI_wIs, isC_uI, isC_uJ, isC_wI, isC_wR, isC_wD, isC_wJ, isC_wIs, isG_uI, isG_uJ, isG_wI, isG_wR, isG_wD, isG_wJ, isG_wIs, isZ_uI, isZ_uJ, isZ_wI, isZ_wR, isZ_wD, isZ_wJ, isZ_wIs, isD_uI, isD_uJ, isD_wI, isD_wR, isD_wD, isD_wJ, isD_wIs, isL_uI, isL_uJ, isL_wI, isL_wR, isL_wD, isL_wJ, isL_wIs]; with_reducible assumption)) dX7_value_1 rfl ?_
  refine gX7_203 (n := 7) C (by first | with_reducible assumption | (simp only [sK_uI, sK_uJ, sK_uR, sK_wI, sK_wR, sK_wD, sK_wJ, sK_wIs, aN_uI, aN_uJ, aN_uR, aN_wI, aN_wR, aN_wD, aN_wJ, aN_wIs, fR_uI, fR_uJ, fR_wI, fR_wR, fR_wD, fR_wJ, fR_wIs, isI_uI, isI_uJ, isI_wI, isI_wR, isI_wD, isI_wJ, isI_wIs, isC_uI, isC_uJ, isC_wI, isC_wR, isC_wD, isC_wJ, isC_wIs, isG_uI, isG_uJ, isG_wI, isG_wR, isG_wD, isG_wJ, isG_wIs, isZ_uI, isZ_uJ, isZ_wI, isZ_wR, isZ_wD, isZ_wJ, isZ_wIs, isD_uI, isD_uJ, isD_wI, isD_wR, isD_wD, isD_wJ, isD_wIs, isL_uI, isL_uJ, isL_wI, isL_wR, isL_wD, isL_wJ, isL_wIs]; with_reducible assumption)) dX7_value_4 rfl ?_
  refine t_i C rfl dX7_value_7 (by decide) ?_
  exact ⟨rfl, rfl⟩
set_option maxRecDepth 100000 in
set_option maxHeartbeats 1000000 in
theorem c_limit {l : Launch} {G : GG} {b : Nat} (hst : l.stackTraces = false) (S : Sw) (a : Nat) (hk : sK S a = 7) (lm : Nat) (hlm : fR S 701 a = some lm) (hkl : sK S lm = 3) (is : Int32) (hb1 : narrow .boolean (.int is) = .int is) (hb2 : fits .boolean (.int is) = true) (hb3 : narrow .boolean (.int (fI S 300 lm)) = .int (fI S 300 lm)) : Ct l G b yX7_limit cX7_limit 3 (some .boolean) rmX7_limit mI [.ref a, .int is] S (fun r S' => S' = uI S 300 lm is ∧ r = fI S 300 lm) := by
  refine Ct.of2 pnX7 (own := RX7) rfl (Nat.le_of_ble_eq_true rfl) hst ?_
  intro p e s m args below meth c C hname
  change J p l e rmX7_limit s m args below meth c 3 G b _ 0 [(0, .ref a), (1, .int is)] [] S 0 0
  refine r_aload_n (i := 0) (n := 1) C dX7_limit_0 rfl rfl rfl ?_
  refine gX7_19 (n := 4) C (by first | with_reducible assumption | (simp only [sK_uI, sK_uJ, sK_uR, sK_wI, sK_wR, sK_wD, sK_wJ, sK_wIs, aN_uI, aN_uJ, aN_uR, aN_wI, aN_wR, aN_wD, aN_wJ, aN_wIs, fR_uI, fR_uJ, fR_wI, fR_wR, fR_wD, fR_wJ, fR_wIs, isI_uI, isI_uJ, isI_wI, isI_wR, isI_wD, isI_wJ, isI_wIs, isC_uI, isC_uJ, isC_wI, isC_wR, isC_wD, isC_wJ, isC_wIs, isG_uI, isG_uJ, isG_wI, isG_wR, isG_wD, isG_wJ, isG_wIs, isZ_uI, isZ_uJ, isZ_wI, isZ_wR, isZ_wD, isZ_wJ, isZ_wIs, isD_uI, isD_uJ, isD_wI, isD_wR, isD_wD, isD_wJ, isD_wIs, isL_uI, isL_uJ, isL_wI, isL_wR, isL_wD, isL_wJ, isL_wIs]; with_reducible assumption)) (by first | with_reducible assumption | (simp only [sK_uI, sK_uJ, sK_uR, sK_wI, sK_wR, sK_wD, sK_wJ, sK_wIs, aN_uI, aN_uJ, aN_uR, aN_wI, aN_wR, aN_wD, aN_wJ, aN_wIs, fR_uI, fR_uJ, fR_wI, fR_wR, fR_wD, fR_wJ, fR_wIs, isI_uI, isI_uJ, isI_wI, isI_wR, isI_wD, isI_wJ, isI_wIs, isC_uI, isC_uJ, isC_wI, isC_wR, isC_wD, isC_wJ, isC_wIs, isG_uI, isG_uJ, isG_wI, isG_wR, isG_wD, isG_wJ, isG_wIs, isZ_uI, isZ_uJ, isZ_wI, isZ_wR, isZ_wD, isZ_wJ, isZ_wIs, isD_uI, isD_uJ, isD_wI, isD_wR, isD_wD, isD_wJ, isD_wIs, isL_uI, isL_uJ, isL_wI, isL_wR, isL_wD, isL_wJ, isL_wIs]; with_reducible assumption)) dX7_limit_1 rfl ?_
  refine gX7_200 (n := 7) C (by first | with_reducible assumption | (simp only [sK_uI, sK_uJ, sK_uR, sK_wI, sK_wR, sK_wD, sK_wJ, sK_wIs, aN_uI, aN_uJ, aN_uR, aN_wI, aN_wR, aN_wD, aN_wJ, aN_wIs, fR_uI, fR_uJ, fR_wI, fR_wR, fR_wD, fR_wJ, fR_wIs, isI_uI, isI_uJ, isI_wI, isI_wR, isI_wD, isI_wJ, isI_wIs, isC_uI, isC_uJ, isC_wI, isC_wR, isC_wD, isC_wJ, isC_wIs, isG_uI, isG_uJ, isG_wI, isG_wR, isG_wD, isG_wJ, isG_wIs, isZ_uI, isZ_uJ, isZ_wI, isZ_wR, isZ_wD, isZ_wJ, isZ_wIs, isD_uI, isD_uJ, isD_wI, isD_wR, isD_wD, isD_wJ, isD_wIs, isL_uI, isL_uJ, isL_wI, isL_wR, isL_wD, isL_wJ, isL_wIs]; with_reducible assumption)) dX7_limit_4 rfl ?_
  refine r_istore_n (i := 2) (n := 8) C dX7_limit_7 rfl (by decide) rfl rfl ?_
  refine r_aload_n (i := 0) (n := 9) C dX7_limit_8 rfl rfl rfl ?_
  refine gX7_19 (n := 12) C (by first | with_reducible assumption | (simp only [sK_uI, sK_uJ, sK_uR, sK_wI, sK_wR, sK_wD, sK_wJ, sK_wIs, aN_uI, aN_uJ, aN_uR, aN_wI, aN_wR, aN_wD, aN_wJ, aN_wIs, fR_uI, fR_uJ, fR_wI, fR_wR, fR_wD, fR_wJ, fR_wIs, isI_uI, isI_uJ, isI_wI, isI_wR, isI_wD, isI_wJ, isI_wIs, isC_uI, isC_uJ, isC_wI, isC_wR, isC_wD, isC_wJ, isC_wIs, isG_uI, isG_uJ, isG_wI, isG_wR, isG_wD, isG_wJ, isG_wIs, isZ_uI, isZ_uJ, isZ_wI, isZ_wR, isZ_wD, isZ_wJ, isZ_wIs, isD_uI, isD_uJ, isD_wI, isD_wR, isD_wD, isD_wJ, isD_wIs, isL_uI, isL_uJ, isL_wI, isL_wR, isL_wD, isL_wJ, isL_wIs]; with_reducible assumption)) (by first | with_reducible assumption | (simp only [sK_uI, sK_uJ, sK_uR, sK_wI, sK_wR, sK_wD, sK_wJ, sK_wIs, aN_uI, aN_uJ, aN_uR, aN_wI, aN_wR, aN_wD, aN_wJ, aN_wIs, fR_uI, fR_uJ, fR_wI, fR_wR, fR_wD, fR_wJ, fR_wIs, isI_uI, isI_uJ, isI_wI, isI_wR, isI_wD, isI_wJ, isI_wIs, isC_uI, isC_uJ, isC_wI, isC_wR, isC_wD, isC_wJ, isC_wIs, isG_uI, isG_uJ, isG_wI, isG_wR, isG_wD, isG_wJ, isG_wIs, isZ_uI, isZ_uJ, isZ_wI, isZ_wR, isZ_wD, isZ_wJ, isZ_wIs, isD_uI, isD_uJ, isD_wI, isD_wR, isD_wD, isD_wJ, isD_wIs, isL_uI, isL_uJ, isL_wI, isL_wR, isL_wD, isL_wJ, isL_wIs]; with_reducible assumption)) dX7_limit_9 rfl ?_
  refine r_iload_n (i := 1) (n := 13) C dX7_limit_12 rfl rfl rfl ?_
  refine sX7_200 (n := 16) C (by first | with_reducible assumption | (simp only [sK_uI, sK_uJ, sK_uR, sK_wI, sK_wR, sK_wD, sK_wJ, sK_wIs, aN_uI, aN_uJ, aN_uR, aN_wI, aN_wR, aN_wD, aN_wJ, aN_wIs, fR_uI, fR_uJ, fR_wI, fR_wR, fR_wD, fR_wJ, fR_wIs, isI_uI, isI_uJ, isI_wI, isI_wR, isI_wD, isI_wJ, isI_wIs, isC_uI, isC_uJ, isC_wI, isC_wR, isC_wD, isC_wJ, isC_wIs, isG_uI, isG_uJ, isG_wI, isG_wR, isG_wD, isG_wJ, isG_wIs, isZ_uI, isZ_uJ, isZ_wI, isZ_wR, isZ_wD, isZ_wJ, isZ_wIs, isD_uI, isD_uJ, isD_wI, isD_wR, isD_wD, isD_wJ, isD_wIs, isL_uI, isL_uJ, isL_wI, isL_wR, isL_wD, isL_wJ, isL_wIs]; with_reducible assumption)) hb1 hb2 dX7_limit_13 rfl ?_
  refine r_iload_n (i := 2) (n := 17) C dX7_limit_16 rfl rfl rfl ?_
  refine t_i C hb3 dX7_limit_17 (by decide) ?_
  exact ⟨rfl, rfl⟩
set_option maxRecDepth 100000 in
set_option maxHeartbeats 1000000 in
theorem c_leastFree_y {l : Launch} {G : GG} {b : Nat} (hst : l.stackTraces = false) (S : Sw) (a cl : Nat) (hk : sK S a = 7) (hcl : fR S 702 a = some cl) (hic : isC S cl 6) (k0 : Nat) (hk0 : k0 < 6) (hfull : ∀ i, i < k0 → ∃ x, aR S cl i = some x) (hfree : aR S cl k0 = none) : Ct l G b yX7_leastFree cX7_leastFree 2 (some .int) rmX7_leastFree mI [.ref a] S (fun r S' => S' = S ∧ r = nI k0) := by
  refine Ct.of2 pnX7 (own := RX7) rfl (Nat.le_of_ble_eq_true rfl) hst ?_
  intro p e s m args below meth c C hname
  change J p l e rmX7_leastFree s m args below meth c 2 G b _ 0 [(0, .ref a)] [] S 0 0
  refine r_iconst (v := 0) (n := 1) C dX7_leastFree_0 rfl rfl ?_
  refine r_istore_n (i := 1) (n := 2) C dX7_leastFree_1 rfl (by decide) rfl rfl ?_
  have lp : ∀ (q k : Nat), k + q = k0 → J p l e rmX7_leastFree s m args below meth c 2 G b (vx_MQ below (Qp G b mI (fun r S' => S' = S ∧ r = nI k0)) (XCp G b S (fun _ => False)) args s rmX7_leastFree.cells rmX7_leastFree.slots (Ab b)) 2 [(0, .ref a), (1, .int (nI k))] [] S 0 0 := by
    intro q
    induction q with
    | zero =>
      intro k hk9
      obtain rfl : k = k0 := by omega
      refine r_iload_n (i := 1) (n := 3) C dX7_leastFree_2 rfl rfl rfl ?_
      refine r_bipush (v := 6) (n := 5) C dX7_leastFree_3 rfl rfl ?_
      refine r_icmp_geF (n := 8) (t := 25) C (cnle (a := 6) (b := k) rfl rfl (by omega) (by omega)) dX7_leastFree_5 (by decide) rfl ?_
      refine r_aload_n (i := 0) (n := 9) C dX7_leastFree_8 rfl rfl rfl ?_
      refine gX7_25 (n := 12) C hk hcl dX7_leastFree_9 rfl ?_
      refine r_iload_n (i := 1) (n := 13) C dX7_leastFree_12 rfl rfl rfl ?_
      refine r_aaldC (n := 14) (j := k) (v := .null) C hic.1 rfl (by rw [hic.2.1]; omega) (by rw [hic.2.1]; decide) (by rw [hfree]; rfl) dX7_leastFree_13 rfl ?_
      refine r_ifnonnullN (n := 17) C dX7_leastFree_14 rfl ?_
      refine r_iload_n (i := 1) (n := 18) C dX7_leastFree_17 rfl rfl rfl ?_
      refine t_i C rfl dX7_leastFree_18 (by decide) ?_
      exact ⟨rfl, rfl⟩
    | succ q ih =>
      intro k hk9
      refine r_iload_n (i := 1) (n := 3) C dX7_leastFree_2 rfl rfl rfl ?_
      refine r_bipush (v := 6) (n := 5) C dX7_leastFree_3 rfl rfl ?_
      refine r_icmp_geF (n := 8) (t := 25) C (cnle (a := 6) (b := k) rfl rfl (by omega) (by omega)) dX7_leastFree_5 (by decide) rfl ?_
      refine r_aload_n (i := 0) (n := 9) C dX7_leastFree_8 rfl rfl rfl ?_
      refine gX7_25 (n := 12) C hk hcl dX7_leastFree_9 rfl ?_
      refine r_iload_n (i := 1) (n := 13) C dX7_leastFree_12 rfl rfl rfl ?_
      obtain ⟨x9, hx9⟩ := hfull k (by omega)
      refine r_aaldC (n := 14) (j := k) (v := .ref x9) C hic.1 rfl (by rw [hic.2.1]; omega) (by rw [hic.2.1]; decide) (by rw [hx9]; rfl) dX7_leastFree_13 rfl ?_
      refine r_ifnonnull (t := 19) C dX7_leastFree_14 (by decide) ?_
      refine r_iinc (n := 22) C dX7_leastFree_19 rfl rfl (by decide) rfl rfl ?_
      refine r_goto (t := 2) C dX7_leastFree_22 (by decide) ?_
      exact J.to (by rw [show nI k + Int32.ofInt 1 = nI (k + 1) from nI_1 k]; rfl) (ih (k + 1) (by omega))
  exact J.to rfl (lp k0 0 (by omega))
set_option maxRecDepth 100000 in
set_option maxHeartbeats 1000000 in
theorem c_leastFree_f {l : Launch} {G : GG} {b : Nat} (hst : l.stackTraces = false) (S : Sw) (a cl : Nat) (hk : sK S a = 7) (hcl : fR S 702 a = some cl) (hic : isC S cl 6) (hfull : ∀ i, i < 6 → ∃ x, aR S cl i = some x) : Ct l G b yX7_leastFree cX7_leastFree 2 (some .int) rmX7_leastFree mI [.ref a] S (fun r S' => S' = S ∧ r = (-1)) := by
  refine Ct.of2 pnX7 (own := RX7) rfl (Nat.le_of_ble_eq_true rfl) hst ?_
  intro p e s m args below meth c C hname
  change J p l e rmX7_leastFree s m args below meth c 2 G b _ 0 [(0, .ref a)] [] S 0 0
  refine r_iconst (v := 0) (n := 1) C dX7_leastFree_0 rfl rfl ?_
  refine r_istore_n (i := 1) (n := 2) C dX7_leastFree_1 rfl (by decide) rfl rfl ?_
  have lp : ∀ (q k : Nat), k + q = 6 → J p l e rmX7_leastFree s m args below meth c 2 G b (vx_MQ below (Qp G b mI (fun r S' => S' = S ∧ r = (-1))) (XCp G b S (fun _ => False)) args s rmX7_leastFree.cells rmX7_leastFree.slots (Ab b)) 2 [(0, .ref a), (1, .int (nI k))] [] S 0 0 := by
    intro q
    induction q with
    | zero =>
      intro k hk9
      obtain rfl : k = 6 := by omega
      refine r_iload_n (i := 1) (n := 3) C dX7_leastFree_2 rfl rfl rfl ?_
      refine r_bipush (v := 6) (n := 5) C dX7_leastFree_3 rfl rfl ?_
      refine r_icmp_geT (t := 25) C (cle (a := 6) (b := 6) rfl rfl (by omega) (by omega)) dX7_leastFree_5 (by decide) ?_
      refine r_iconst (v := (-1)) (n := 26) C dX7_leastFree_25 rfl rfl ?_
      refine t_i C rfl dX7_leastFree_26 (by decide) ?_
      exact ⟨rfl, rfl⟩
    | succ q ih =>
      intro k hk9
      refine r_iload_n (i := 1) (n := 3) C dX7_leastFree_2 rfl rfl rfl ?_
      refine r_bipush (v := 6) (n := 5) C dX7_leastFree_3 rfl rfl ?_
      refine r_icmp_geF (n := 8) (t := 25) C (cnle (a := 6) (b := k) rfl rfl (by omega) (by omega)) dX7_leastFree_5 (by decide) rfl ?_
      refine r_aload_n (i := 0) (n := 9) C dX7_leastFree_8 rfl rfl rfl ?_
      refine gX7_25 (n := 12) C hk hcl dX7_leastFree_9 rfl ?_
      refine r_iload_n (i := 1) (n := 13) C dX7_leastFree_12 rfl rfl rfl ?_
      obtain ⟨x9, hx9⟩ := hfull k (by omega)
      refine r_aaldC (n := 14) (j := k) (v := .ref x9) C hic.1 rfl (by rw [hic.2.1]; omega) (by rw [hic.2.1]; decide) (by rw [hx9]; rfl) dX7_leastFree_13 rfl ?_
      refine r_ifnonnull (t := 19) C dX7_leastFree_14 (by decide) ?_
      refine r_iinc (n := 22) C dX7_leastFree_19 rfl rfl (by decide) rfl rfl ?_
      refine r_goto (t := 2) C dX7_leastFree_22 (by decide) ?_
      exact J.to (by rw [show nI k + Int32.ofInt 1 = nI (k + 1) from nI_1 k]; rfl) (ih (k + 1) (by omega))
  exact J.to rfl (lp 6 0 (by omega))
def rv7 (j : Nat) : Int32 := match j with
  | 0 => 8000
  | 1 => 11025
  | 2 => 16000
  | 3 => 22050
  | 4 => 32000
  | 5 => 44100
  | _ => 48000
theorem rts_rv : ∀ j : Nat, rts j = .int (rv7 j)
  | 0 => rfl
  | 1 => rfl
  | 2 => rfl
  | 3 => rfl
  | 4 => rfl
  | 5 => rfl
  | _ + 6 => rfl
theorem isRt_rv {r : Int32} (h : isRt r) : ∃ j, j < 7 ∧ rv7 j = r := by
  rcases h with h | h | h | h | h | h | h
  · exact ⟨0, by omega, h.symm⟩
  · exact ⟨1, by omega, h.symm⟩
  · exact ⟨2, by omega, h.symm⟩
  · exact ⟨3, by omega, h.symm⟩
  · exact ⟨4, by omega, h.symm⟩
  · exact ⟨5, by omega, h.symm⟩
  · exact ⟨6, by omega, h.symm⟩
theorem rv_isRt {j : Nat} (h : j < 7) : isRt (rv7 j) := by
  have q : ∀ j : Fin 7, rv7 j.1 = 8000 ∨ rv7 j.1 = 11025 ∨ rv7 j.1 = 16000 ∨ rv7 j.1 = 22050 ∨ rv7 j.1 = 32000 ∨ rv7 j.1 = 44100 ∨ rv7 j.1 = 48000 := by decide +kernel
  exact q ⟨j, h⟩
set_option maxRecDepth 100000 in
set_option maxHeartbeats 1000000 in
theorem c_isRate {l : Launch} {G : GG} {b : Nat} (hst : l.stackTraces = false) (S : Sw) (r0 : Int32) : Ct l G b yX7_isRate cX7_isRate 5 (some .boolean) rmX7_isRate mI [.int r0] S (fun r S' => S' = S ∧ (isRt r0 → r = 1) ∧ (¬ isRt r0 → r = 0)) := by
  refine Ct.of2 pnX7 (own := RX7) rfl (Nat.le_of_ble_eq_true rfl) hst ?_
  intro p e s m args below meth c C hname
  change J p l e rmX7_isRate s m args below meth c 5 G b _ 0 [(0, .int r0)] [] S 0 0
  refine r_rates (n := 3) C (mem_tb (mem_tbl 287 (by decide +kernel)) (by decide +kernel)) dX7_isRate_0 rfl (fun t hT => ?_)
  refine r_astore_n (i := 1) (n := 4) C dX7_isRate_3 rfl (by decide) rfl rfl ?_
  refine r_aload_n (i := 1) (n := 5) C dX7_isRate_4 rfl rfl rfl ?_
  refine r_rlen (n := 6) C hT dX7_isRate_5 rfl ?_
  refine r_istore_n (i := 2) (n := 7) C dX7_isRate_6 rfl (by decide) rfl rfl ?_
  refine r_iconst (v := 0) (n := 8) C dX7_isRate_7 rfl rfl ?_
  refine r_istore_n (i := 3) (n := 9) C dX7_isRate_8 rfl (by decide) rfl rfl ?_
  have lp : ∀ (q k : Nat), k + q = 7 → (∀ i, i < k → rv7 i ≠ r0) → J p l e rmX7_isRate s m args below meth c 5 G b (vx_MQ below (Qp G b mI (fun r S' => S' = S ∧ (isRt r0 → r = 1) ∧ (¬ isRt r0 → r = 0))) (XCp G b S (fun _ => False)) args s rmX7_isRate.cells rmX7_isRate.slots (Ab b)) 9 [(0, .int r0), (1, .ref t), (2, .int 7), (3, .int (nI k))] [] S 0 0 := by
    intro q
    induction q with
    | zero =>
      intro k hk9 hall
      obtain rfl : k = 7 := by omega
      refine r_iload_n (i := 3) (n := 10) C dX7_isRate_9 rfl rfl rfl ?_
      refine r_iload_n (i := 2) (n := 11) C dX7_isRate_10 rfl rfl rfl ?_
      refine r_icmp_geT (t := 33) C (cle (a := 7) (b := 7) rfl rfl (by omega) (by omega)) dX7_isRate_11 (by decide) ?_
      refine r_iconst (v := 0) (n := 34) C dX7_isRate_33 rfl rfl ?_
      refine t_i C rfl dX7_isRate_34 (by decide) ?_
      refine ⟨rfl, fun q => ?_, fun _ => rfl⟩
      obtain ⟨j9, hj9, e9⟩ := isRt_rv q
      exact absurd e9 (hall j9 hj9)
    | succ q ih =>
      intro k hk9 hall
      refine r_iload_n (i := 3) (n := 10) C dX7_isRate_9 rfl rfl rfl ?_
      refine r_iload_n (i := 2) (n := 11) C dX7_isRate_10 rfl rfl rfl ?_
      refine r_icmp_geF (n := 14) (t := 33) C (cnle (a := 7) (b := k) rfl rfl (by omega) (by omega)) dX7_isRate_11 (by decide) rfl ?_
      refine r_aload_n (i := 1) (n := 15) C dX7_isRate_14 rfl rfl rfl ?_
      refine r_iload_n (i := 3) (n := 16) C dX7_isRate_15 rfl rfl rfl ?_
      refine r_rald (n := 17) (j := k) (v := rv7 k) C hT rfl (by omega) (rts_rv k) dX7_isRate_16 rfl ?_
      refine r_istore (n := 19) C dX7_isRate_17 (by decide) rfl rfl ?_
      refine r_iload (n := 21) C dX7_isRate_19 rfl rfl ?_
      refine r_iload_n (i := 0) (n := 22) C dX7_isRate_21 rfl rfl rfl ?_
      refine r_icmp_ne (n := 25) (t := 27) C dX7_isRate_22 (by decide) rfl (fun h22 => ?_) (fun h22 => ?_)
      · refine r_iinc (n := 30) C dX7_isRate_27 rfl rfl (by decide) rfl rfl ?_
        refine r_goto (t := 9) C dX7_isRate_30 (by decide) ?_
        exact J.to (by rw [show nI k + Int32.ofInt 1 = nI (k + 1) from nI_1 k]; rfl) (ih (k + 1) (by omega) (fun i hi => by
          by_cases e9 : i = k
          · rw [e9]; exact h22
          · exact hall i (by omega)))
      · refine r_iconst (v := 1) (n := 26) C dX7_isRate_25 rfl rfl ?_
        refine t_i C rfl dX7_isRate_26 (by decide) ?_
        refine ⟨rfl, fun _ => rfl, fun q => absurd ?_ q⟩
        rw [← h22]
        exact rv_isRt (by omega)
  exact J.to rfl (lp 7 0 (by omega) (fun i hi => absurd hi (by omega)))
