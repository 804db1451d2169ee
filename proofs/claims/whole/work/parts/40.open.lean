theorem ch12 {c : Int32} (h : 1 ≤ c ∧ c ≤ 2) : c = 1 ∨ c = 2 := by
  by_cases q : c ≤ 1
  · exact Or.inl (Int32.le_antisymm q h.1)
  · right
    apply Int32.toInt_inj.mp
    have h1 := Int32.le_iff_toInt_le.mp h.2
    have h2 : ¬ c.toInt ≤ (1 : Int32).toInt := fun z => q (Int32.le_iff_toInt_le.mpr z)
    have e1 : (1 : Int32).toInt = 1 := by decide
    have e2 : (2 : Int32).toInt = 2 := by decide
    rw [e1] at h2
    rw [e2] at h1 ⊢
    omega
theorem nI_nm1 {k : Nat} (h : k < 6) : ¬ nI k = (-1 : Int32) := by
  have q : ∀ i : Fin 6, ¬ nI i.1 = (-1 : Int32) := by decide +kernel
  exact q ⟨k, h⟩
theorem rtN_isRt {r : Nat} (h : rtN r) : isRt (nI r) := by
  rcases h with h | h | h | h | h | h | h <;> (subst h; unfold isRt; decide)
set_option maxRecDepth 100000 in
set_option maxHeartbeats 1000000 in
theorem c_open_n {l : Launch} {G : GG} {b : Nat} (hst : l.stackTraces = false) (S : Sw) (a cl : Nat) (hk : sK S a = 7) (hcl : fR S 702 a = some cl) (hic : isC S cl 6) (pl r0 ch bt : Int32) (hok : ¬ opOk r0 ch bt) : Cth l G b yX7_open cX7_open 6 (some .int) rmX7_open mI [.ref a, .int pl, .int r0, .int ch, .int bt] S (fun _ _ => False) (fun k => k = 1) := by
  refine Cth.of2 pnX7 (own := RX7) rfl (Nat.le_of_ble_eq_true rfl) hst ?_
  intro p e s m args below meth c C hname hno
  change J p l e rmX7_open s m args below meth c 6 G b _ 0 [(0, .ref a), (1, .int pl), (2, .int r0), (3, .int ch), (4, .int bt)] [] S 0 0
  refine r_iload_n (i := 2) (n := 1) C dX7_open_0 rfl rfl rfl ?_
  refine kX7_57 (n := 4) C (c_isRate hst S r0) (by decide) (by decide) (Nat.le_of_ble_eq_true rfl) dX7_open_1 rfl (fun r S1 hp => ?_)
  obtain ⟨hS9, hr9⟩ := hp
  subst S1
  by_cases hrt : isRt r0
  · have e9 := hr9.1 hrt
    subst e9
    refine r_if_eqF (n := 7) (t := 31) C (by decide) dX7_open_4 (by decide) rfl ?_
    refine r_iload_n (i := 3) (n := 8) C dX7_open_7 rfl rfl rfl ?_
    refine r_iconst (v := 1) (n := 9) C dX7_open_8 rfl rfl ?_
    refine r_icmp_eq (n := 12) (t := 17) C dX7_open_9 (by decide) rfl (fun h9 => ?_) (fun h9 => ?_)
    · refine r_iload (n := 19) C dX7_open_17 rfl rfl ?_
      refine r_bipush (v := 8) (n := 21) C dX7_open_19 rfl rfl ?_
      refine r_icmp_eq (n := 24) (t := 41) C dX7_open_21 (by decide) rfl (fun h21 => ?_) (fun h21 => ?_)
      · exact absurd ⟨hrt, by first | (rw [h9]; decide) | (rw [h14]; decide) | (rw [Classical.not_not.mp h14]; decide), by first | exact Or.inl h21 | exact Or.inr h28⟩ hok
      · refine r_iload (n := 26) C dX7_open_24 rfl rfl ?_
        refine r_bipush (v := 16) (n := 28) C dX7_open_26 rfl rfl ?_
        refine r_icmp_eq (n := 31) (t := 41) C dX7_open_28 (by decide) rfl (fun h28 => ?_) (fun h28 => ?_)
        · exact absurd ⟨hrt, by first | (rw [h9]; decide) | (rw [h14]; decide) | (rw [Classical.not_not.mp h14]; decide), by first | exact Or.inl h21 | exact Or.inr h28⟩ hok
        · exact r_throw (k := 1) (is := 63) (tx := "no such rate, channels or bits") C hno (Or.inl rfl) (by decide) at_1 (mem_tb (mem_tbl 289 (by decide +kernel)) (by decide +kernel)) (mem_tb (mem_tbl 9 (by decide +kernel)) (by decide +kernel)) dX7_open_31 dX7_open_34 dX7_open_35 dX7_open_37 dX7_open_40 (by decide) (by decide) (by decide) rfl
    · refine r_iload_n (i := 3) (n := 13) C dX7_open_12 rfl rfl rfl ?_
      refine r_iconst (v := 2) (n := 14) C dX7_open_13 rfl rfl ?_
      refine r_icmp_ne (n := 17) (t := 31) C dX7_open_14 (by decide) rfl (fun h14 => ?_) (fun h14 => ?_)
      · exact r_throw (k := 1) (is := 63) (tx := "no such rate, channels or bits") C hno (Or.inl rfl) (by decide) at_1 (mem_tb (mem_tbl 289 (by decide +kernel)) (by decide +kernel)) (mem_tb (mem_tbl 9 (by decide +kernel)) (by decide +kernel)) dX7_open_31 dX7_open_34 dX7_open_35 dX7_open_37 dX7_open_40 (by decide) (by decide) (by decide) rfl
      · refine r_iload (n := 19) C dX7_open_17 rfl rfl ?_
        refine r_bipush (v := 8) (n := 21) C dX7_open_19 rfl rfl ?_
        refine r_icmp_eq (n := 24) (t := 41) C dX7_open_21 (by decide) rfl (fun h21 => ?_) (fun h21 => ?_)
        · exact absurd ⟨hrt, by first | (rw [h9]; decide) | (rw [h14]; decide) | (rw [Classical.not_not.mp h14]; decide), by first | exact Or.inl h21 | exact Or.inr h28⟩ hok
        · refine r_iload (n := 26) C dX7_open_24 rfl rfl ?_
          refine r_bipush (v := 16) (n := 28) C dX7_open_26 rfl rfl ?_
          refine r_icmp_eq (n := 31) (t := 41) C dX7_open_28 (by decide) rfl (fun h28 => ?_) (fun h28 => ?_)
          · exact absurd ⟨hrt, by first | (rw [h9]; decide) | (rw [h14]; decide) | (rw [Classical.not_not.mp h14]; decide), by first | exact Or.inl h21 | exact Or.inr h28⟩ hok
          · exact r_throw (k := 1) (is := 63) (tx := "no such rate, channels or bits") C hno (Or.inl rfl) (by decide) at_1 (mem_tb (mem_tbl 289 (by decide +kernel)) (by decide +kernel)) (mem_tb (mem_tbl 9 (by decide +kernel)) (by decide +kernel)) dX7_open_31 dX7_open_34 dX7_open_35 dX7_open_37 dX7_open_40 (by decide) (by decide) (by decide) rfl
  · have e9 := hr9.2 hrt
    subst e9
    refine r_if_eqT (t := 31) C rfl dX7_open_4 (by decide) ?_
    exact r_throw (k := 1) (is := 63) (tx := "no such rate, channels or bits") C hno (Or.inl rfl) (by decide) at_1 (mem_tb (mem_tbl 289 (by decide +kernel)) (by decide +kernel)) (mem_tb (mem_tbl 9 (by decide +kernel)) (by decide +kernel)) dX7_open_31 dX7_open_34 dX7_open_35 dX7_open_37 dX7_open_40 (by decide) (by decide) (by decide) rfl
set_option maxRecDepth 100000 in
set_option maxHeartbeats 1000000 in
theorem c_open_f {l : Launch} {G : GG} {b : Nat} (hst : l.stackTraces = false) (S : Sw) (a cl : Nat) (hk : sK S a = 7) (hcl : fR S 702 a = some cl) (hic : isC S cl 6) (pl ch bt : Int32) (rr : Nat) (hr : rtN rr) (hch : ch = 1 ∨ ch = 2) (hbt : bt = 8 ∨ bt = 16) (hfull : ∀ i, i < 6 → ∃ x, aR S cl i = some x) : Cth l G b yX7_open cX7_open 6 (some .int) rmX7_open mI [.ref a, .int pl, .int (nI rr), .int ch, .int bt] S (fun _ _ => False) (fun k => k = 2) := by
  refine Cth.of2 pnX7 (own := RX7) rfl (Nat.le_of_ble_eq_true rfl) hst ?_
  intro p e s m args below meth c C hname hno
  change J p l e rmX7_open s m args below meth c 6 G b _ 0 [(0, .ref a), (1, .int pl), (2, .int (nI rr)), (3, .int ch), (4, .int bt)] [] S 0 0
  have h41 : J p l e rmX7_open s m args below meth c 6 G b (vx_MQ below (Qp G b mI (fun _ _ => False)) (XCp G b S (fun k => k = 2)) args s rmX7_open.cells rmX7_open.slots (Ab b)) 41 [(0, .ref a), (1, .int pl), (2, .int (nI rr)), (3, .int ch), (4, .int bt)] [] S 0 0 := by
    refine r_aload_n (i := 0) (n := 42) C dX7_open_41 rfl rfl rfl ?_
    refine kX7_68 (n := 45) C (c_leastFree_f hst S a cl hk hcl hic hfull) hk (by decide) (by decide) (Nat.le_of_ble_eq_true rfl) dX7_open_42 rfl (fun r S1 hp => ?_)
    obtain ⟨hS9, hr9⟩ := hp
    subst S1
    subst r
    refine r_istore (n := 47) C dX7_open_45 (by decide) rfl rfl ?_
    refine r_iload (n := 49) C dX7_open_47 rfl rfl ?_
    refine r_iconst (v := (-1)) (n := 50) C dX7_open_49 rfl rfl ?_
    refine r_icmp_neF (n := 53) (t := 63) C rfl dX7_open_50 (by decide) rfl ?_
    exact r_throw (k := 2) (is := 74) (tx := "there are six clients") C hno (Or.inr rfl) (by decide) at_2 (mem_tb (mem_tbl 360 (by decide +kernel)) (by decide +kernel)) (mem_tb (mem_tbl 10 (by decide +kernel)) (by decide +kernel)) dX7_open_53 dX7_open_56 dX7_open_57 dX7_open_59 dX7_open_62 (by decide) (by decide) (by decide) rfl
  refine r_iload_n (i := 2) (n := 1) C dX7_open_0 rfl rfl rfl ?_
  refine kX7_57 (n := 4) C (c_isRate hst S (nI rr)) (by decide) (by decide) (Nat.le_of_ble_eq_true rfl) dX7_open_1 rfl (fun r S1 hp => ?_)
  obtain ⟨hS9, hr9⟩ := hp
  subst S1
  have e9 := hr9.1 (rtN_isRt hr)
  subst e9
  refine r_if_eqF (n := 7) (t := 31) C (by decide) dX7_open_4 (by decide) rfl ?_
  refine r_iload_n (i := 3) (n := 8) C dX7_open_7 rfl rfl rfl ?_
  refine r_iconst (v := 1) (n := 9) C dX7_open_8 rfl rfl ?_
  refine r_icmp_eq (n := 12) (t := 17) C dX7_open_9 (by decide) rfl (fun h9 => ?_) (fun h9 => ?_)
  · refine r_iload (n := 19) C dX7_open_17 rfl rfl ?_
    refine r_bipush (v := 8) (n := 21) C dX7_open_19 rfl rfl ?_
    refine r_icmp_eq (n := 24) (t := 41) C dX7_open_21 (by decide) rfl (fun h21 => ?_) (fun h21 => ?_)
    · exact J.to rfl h41
    · refine r_iload (n := 26) C dX7_open_24 rfl rfl ?_
      refine r_bipush (v := 16) (n := 28) C dX7_open_26 rfl rfl ?_
      refine r_icmp_eq (n := 31) (t := 41) C dX7_open_28 (by decide) rfl (fun h28 => ?_) (fun h28 => ?_)
      · exact J.to rfl h41
      · first | exact absurd hbt (fun q => q.elim h21 h28) | exact absurd hch (fun q => q.elim h9 h14) | exact absurd hch (fun q => q.elim h9 (fun z => h14 z))
  · refine r_iload_n (i := 3) (n := 13) C dX7_open_12 rfl rfl rfl ?_
    refine r_iconst (v := 2) (n := 14) C dX7_open_13 rfl rfl ?_
    refine r_icmp_ne (n := 17) (t := 31) C dX7_open_14 (by decide) rfl (fun h14 => ?_) (fun h14 => ?_)
    · first | exact absurd hbt (fun q => q.elim h21 h28) | exact absurd hch (fun q => q.elim h9 h14) | exact absurd hch (fun q => q.elim h9 (fun z => h14 z))
    · refine r_iload (n := 19) C dX7_open_17 rfl rfl ?_
      refine r_bipush (v := 8) (n := 21) C dX7_open_19 rfl rfl ?_
      refine r_icmp_eq (n := 24) (t := 41) C dX7_open_21 (by decide) rfl (fun h21 => ?_) (fun h21 => ?_)
      · exact J.to rfl h41
      · refine r_iload (n := 26) C dX7_open_24 rfl rfl ?_
        refine r_bipush (v := 16) (n := 28) C dX7_open_26 rfl rfl ?_
        refine r_icmp_eq (n := 31) (t := 41) C dX7_open_28 (by decide) rfl (fun h28 => ?_) (fun h28 => ?_)
        · exact J.to rfl h41
        · first | exact absurd hbt (fun q => q.elim h21 h28) | exact absurd hch (fun q => q.elim h9 h14) | exact absurd hch (fun q => q.elim h9 (fun z => h14 z))
set_option maxRecDepth 100000 in
set_option maxHeartbeats 1000000 in
theorem c_open_p {l : Launch} {G : GG} {b : Nat} (hst : l.stackTraces = false) (S : Sw) (a cl : Nat) (hk : sK S a = 7) (hcl : fR S 702 a = some cl) (hic : isC S cl 6) (pl ch bt : Int32) (rr : Nat) (hr : rtN rr) (hch : ch = 1 ∨ ch = 2) (hbt : bt = 8 ∨ bt = 16) (k0 : Nat) (hk0 : k0 < 6) (hfull : ∀ i, i < k0 → ∃ x, aR S cl i = some x) (hfree : aR S cl k0 = none) (t : Nat) (ht : fR S 700 a = some t) (hpl : ¬ pl = 0) : Cth l G b yX7_open cX7_open 6 (some .int) rmX7_open mI [.ref a, .int pl, .int (nI rr), .int ch, .int bt] S (fun r S' => (∃ x S1 cv w L R oi, sK S x = 0 ∧ nPl (nO S x 5) S1 x t rr ch bt cv w L R oi ∧ S' = wR S1 cl k0 (some x)) ∧ r = nI k0) (fun _ => False) := by
  refine Cth.of2 pnX7 (own := RX7) rfl (Nat.le_of_ble_eq_true rfl) hst ?_
  intro p e s m args below meth c C hname hno
  change J p l e rmX7_open s m args below meth c 6 G b _ 0 [(0, .ref a), (1, .int pl), (2, .int (nI rr)), (3, .int ch), (4, .int bt)] [] S 0 0
  have h41 : J p l e rmX7_open s m args below meth c 6 G b (vx_MQ below (Qp G b mI (fun r S' => (∃ x S1 cv w L R oi, sK S x = 0 ∧ nPl (nO S x 5) S1 x t rr ch bt cv w L R oi ∧ S' = wR S1 cl k0 (some x)) ∧ r = nI k0)) (XCp G b S (fun _ => False)) args s rmX7_open.cells rmX7_open.slots (Ab b)) 41 [(0, .ref a), (1, .int pl), (2, .int (nI rr)), (3, .int ch), (4, .int bt)] [] S 0 0 := by
    refine r_aload_n (i := 0) (n := 42) C dX7_open_41 rfl rfl rfl ?_
    refine kX7_68 (n := 45) C (c_leastFree_y hst S a cl hk hcl hic k0 hk0 hfull hfree) hk (by decide) (by decide) (Nat.le_of_ble_eq_true rfl) dX7_open_42 rfl (fun r S1 hp => ?_)
    obtain ⟨hS9, hr9⟩ := hp
    subst S1
    subst r
    refine r_istore (n := 47) C dX7_open_45 (by decide) rfl rfl ?_
    refine r_iload (n := 49) C dX7_open_47 rfl rfl ?_
    refine r_iconst (v := (-1)) (n := 50) C dX7_open_49 rfl rfl ?_
    refine r_icmp_neT (t := 63) C (nI_nm1 hk0) dX7_open_50 (by decide) ?_
    refine r_aload_n (i := 0) (n := 64) C dX7_open_63 rfl rfl rfl ?_
    refine gX7_25 (n := 67) C hk hcl dX7_open_64 rfl ?_
    refine r_iload (n := 69) C dX7_open_67 rfl rfl ?_
    refine r_iload_n (i := 1) (n := 70) C dX7_open_69 rfl rfl rfl ?_
    refine r_if_eqF (n := 73) (t := 91) C hpl dX7_open_70 (by decide) rfl ?_
    refine nw_5 (n := 76) C (mem_tb (mem_tbl 119 (by decide +kernel)) (by decide +kernel)) (by decide) dX7_open_73 rfl (fun x hzx hbx => ?_)
    have hxa : a ≠ x := k_ne hzx (by rw [hk]; decide)
    have hka : sK (nO S x 5) a = 7 := by rw [sK_nO, if_neg hxa]; exact hk
    have hta : fR (nO S x 5) 700 a = some t := by rw [fR_nO, if_neg hxa]; exact ht
    refine r_dup (n := 77) C dX7_open_76 rfl rfl ?_
    refine r_aload_n (i := 0) (n := 78) C dX7_open_77 rfl rfl rfl ?_
    refine gX7_10 (n := 81) C hka hta dX7_open_78 rfl ?_
    refine r_iload_n (i := 2) (n := 82) C dX7_open_81 rfl rfl rfl ?_
    refine r_iload_n (i := 3) (n := 83) C dX7_open_82 rfl rfl rfl ?_
    refine r_iload (n := 85) C dX7_open_83 rfl rfl ?_
    refine kX7_79 (n := 88) C (c_init5 hst (nO S x 5) x t rr nO_k (by have := rtN.le hr; omega) ch bt) (by decide) (by decide) (Nat.le_of_ble_eq_true rfl) dX7_open_85 rfl (fun r T1 hp => ?_)
    obtain ⟨cv, w, L, R, oi, hN⟩ := hp
    have hclx : cl ≠ x := k_ne hzx (by rw [hic.1]; decide)
    have scl : smA S T1 cl := (smA.rf.nO hclx).tr (hN.1.1 cl hclx (by rw [sK_nO, if_neg hclx, hic.1]; decide))
    have hkx : sK T1 x = 5 := hN.1.2.trans nO_k
    refine r_goto (t := 106) C dX7_open_88 (by decide) ?_
    refine r_aastC (n := 107) (j := k0) (v := x) (q := (RX5, TX5, 15)) C (scl.1.trans hic.1) rfl (by rw [scl.2.1, hic.2.1]; exact hk0) (by rw [scl.2.1, hic.2.1]; decide) (by rw [hkx]; decide) (ent_5 hkx) rfl (mem_bw (mem_tbl 1086 (by decide +kernel)) rfl) dX7_open_106 rfl ?_
    refine r_iload (n := 109) C dX7_open_107 rfl rfl ?_
    refine t_i C rfl dX7_open_109 (by decide) ?_
    exact ⟨⟨x, T1, cv, w, L, R, oi, hzx, hN, rfl⟩, rfl⟩
  refine r_iload_n (i := 2) (n := 1) C dX7_open_0 rfl rfl rfl ?_
  refine kX7_57 (n := 4) C (c_isRate hst S (nI rr)) (by decide) (by decide) (Nat.le_of_ble_eq_true rfl) dX7_open_1 rfl (fun r S1 hp => ?_)
  obtain ⟨hS9, hr9⟩ := hp
  subst S1
  have e9 := hr9.1 (rtN_isRt hr)
  subst e9
  refine r_if_eqF (n := 7) (t := 31) C (by decide) dX7_open_4 (by decide) rfl ?_
  refine r_iload_n (i := 3) (n := 8) C dX7_open_7 rfl rfl rfl ?_
  refine r_iconst (v := 1) (n := 9) C dX7_open_8 rfl rfl ?_
  refine r_icmp_eq (n := 12) (t := 17) C dX7_open_9 (by decide) rfl (fun h9 => ?_) (fun h9 => ?_)
  · refine r_iload (n := 19) C dX7_open_17 rfl rfl ?_
    refine r_bipush (v := 8) (n := 21) C dX7_open_19 rfl rfl ?_
    refine r_icmp_eq (n := 24) (t := 41) C dX7_open_21 (by decide) rfl (fun h21 => ?_) (fun h21 => ?_)
    · exact J.to rfl h41
    · refine r_iload (n := 26) C dX7_open_24 rfl rfl ?_
      refine r_bipush (v := 16) (n := 28) C dX7_open_26 rfl rfl ?_
      refine r_icmp_eq (n := 31) (t := 41) C dX7_open_28 (by decide) rfl (fun h28 => ?_) (fun h28 => ?_)
      · exact J.to rfl h41
      · first | exact absurd hbt (fun q => q.elim h21 h28) | exact absurd hch (fun q => q.elim h9 h14) | exact absurd hch (fun q => q.elim h9 (fun z => h14 z))
  · refine r_iload_n (i := 3) (n := 13) C dX7_open_12 rfl rfl rfl ?_
    refine r_iconst (v := 2) (n := 14) C dX7_open_13 rfl rfl ?_
    refine r_icmp_ne (n := 17) (t := 31) C dX7_open_14 (by decide) rfl (fun h14 => ?_) (fun h14 => ?_)
    · first | exact absurd hbt (fun q => q.elim h21 h28) | exact absurd hch (fun q => q.elim h9 h14) | exact absurd hch (fun q => q.elim h9 (fun z => h14 z))
    · refine r_iload (n := 19) C dX7_open_17 rfl rfl ?_
      refine r_bipush (v := 8) (n := 21) C dX7_open_19 rfl rfl ?_
      refine r_icmp_eq (n := 24) (t := 41) C dX7_open_21 (by decide) rfl (fun h21 => ?_) (fun h21 => ?_)
      · exact J.to rfl h41
      · refine r_iload (n := 26) C dX7_open_24 rfl rfl ?_
        refine r_bipush (v := 16) (n := 28) C dX7_open_26 rfl rfl ?_
        refine r_icmp_eq (n := 31) (t := 41) C dX7_open_28 (by decide) rfl (fun h28 => ?_) (fun h28 => ?_)
        · exact J.to rfl h41
        · first | exact absurd hbt (fun q => q.elim h21 h28) | exact absurd hch (fun q => q.elim h9 h14) | exact absurd hch (fun q => q.elim h9 (fun z => h14 z))
set_option maxRecDepth 100000 in
set_option maxHeartbeats 1000000 in
theorem c_open_q {l : Launch} {G : GG} {b : Nat} (hst : l.stackTraces = false) (S : Sw) (a cl : Nat) (hk : sK S a = 7) (hcl : fR S 702 a = some cl) (hic : isC S cl 6) (pl ch bt : Int32) (rr : Nat) (hr : rtN rr) (hch : ch = 1 ∨ ch = 2) (hbt : bt = 8 ∨ bt = 16) (k0 : Nat) (hk0 : k0 < 6) (hfull : ∀ i, i < k0 → ∃ x, aR S cl i = some x) (hfree : aR S cl k0 = none) (t : Nat) (ht : fR S 700 a = some t) (hpl : pl = 0) : Cth l G b yX7_open cX7_open 6 (some .int) rmX7_open mI [.ref a, .int pl, .int (nI rr), .int ch, .int bt] S (fun r S' => (∃ x S1 cv w1 L1 R1 w2 L2 R2, sK S x = 0 ∧ nLs (nO S x 4) S1 x t rr ch bt cv w1 L1 R1 w2 L2 R2 ∧ S' = wR S1 cl k0 (some x)) ∧ r = nI k0) (fun _ => False) := by
  refine Cth.of2 pnX7 (own := RX7) rfl (Nat.le_of_ble_eq_true rfl) hst ?_
  intro p e s m args below meth c C hname hno
  change J p l e rmX7_open s m args below meth c 6 G b _ 0 [(0, .ref a), (1, .int pl), (2, .int (nI rr)), (3, .int ch), (4, .int bt)] [] S 0 0
  have h41 : J p l e rmX7_open s m args below meth c 6 G b (vx_MQ below (Qp G b mI (fun r S' => (∃ x S1 cv w1 L1 R1 w2 L2 R2, sK S x = 0 ∧ nLs (nO S x 4) S1 x t rr ch bt cv w1 L1 R1 w2 L2 R2 ∧ S' = wR S1 cl k0 (some x)) ∧ r = nI k0)) (XCp G b S (fun _ => False)) args s rmX7_open.cells rmX7_open.slots (Ab b)) 41 [(0, .ref a), (1, .int pl), (2, .int (nI rr)), (3, .int ch), (4, .int bt)] [] S 0 0 := by
    refine r_aload_n (i := 0) (n := 42) C dX7_open_41 rfl rfl rfl ?_
    refine kX7_68 (n := 45) C (c_leastFree_y hst S a cl hk hcl hic k0 hk0 hfull hfree) hk (by decide) (by decide) (Nat.le_of_ble_eq_true rfl) dX7_open_42 rfl (fun r S1 hp => ?_)
    obtain ⟨hS9, hr9⟩ := hp
    subst S1
    subst r
    refine r_istore (n := 47) C dX7_open_45 (by decide) rfl rfl ?_
    refine r_iload (n := 49) C dX7_open_47 rfl rfl ?_
    refine r_iconst (v := (-1)) (n := 50) C dX7_open_49 rfl rfl ?_
    refine r_icmp_neT (t := 63) C (nI_nm1 hk0) dX7_open_50 (by decide) ?_
    refine r_aload_n (i := 0) (n := 64) C dX7_open_63 rfl rfl rfl ?_
    refine gX7_25 (n := 67) C hk hcl dX7_open_64 rfl ?_
    refine r_iload (n := 69) C dX7_open_67 rfl rfl ?_
    refine r_iload_n (i := 1) (n := 70) C dX7_open_69 rfl rfl rfl ?_
    refine r_if_eqT (t := 91) C hpl dX7_open_70 (by decide) ?_
    refine nw_4 (n := 94) C (mem_tb (mem_tbl 242 (by decide +kernel)) (by decide +kernel)) (by decide) dX7_open_91 rfl (fun x hzx hbx => ?_)
    have hxa : a ≠ x := k_ne hzx (by rw [hk]; decide)
    have hka : sK (nO S x 4) a = 7 := by rw [sK_nO, if_neg hxa]; exact hk
    have hta : fR (nO S x 4) 700 a = some t := by rw [fR_nO, if_neg hxa]; exact ht
    refine r_dup (n := 95) C dX7_open_94 rfl rfl ?_
    refine r_aload_n (i := 0) (n := 96) C dX7_open_95 rfl rfl rfl ?_
    refine gX7_10 (n := 99) C hka hta dX7_open_96 rfl ?_
    refine r_iload_n (i := 2) (n := 100) C dX7_open_99 rfl rfl rfl ?_
    refine r_iload_n (i := 3) (n := 101) C dX7_open_100 rfl rfl rfl ?_
    refine r_iload (n := 103) C dX7_open_101 rfl rfl ?_
    refine kX7_84 (n := 106) C (c_init4 hst (nO S x 4) x t rr nO_k (by have := rtN.le hr; omega) (by have := rtN.le hr; omega) ch bt) (by decide) (by decide) (Nat.le_of_ble_eq_true rfl) dX7_open_103 rfl (fun r T1 hp => ?_)
    obtain ⟨cv, w1, L1, R1, w2, L2, R2, hN⟩ := hp
    have hclx : cl ≠ x := k_ne hzx (by rw [hic.1]; decide)
    have scl : smA S T1 cl := (smA.rf.nO hclx).tr (hN.1.1 cl hclx (by rw [sK_nO, if_neg hclx, hic.1]; decide))
    have hkx : sK T1 x = 4 := hN.1.2.trans nO_k
    refine r_aastC (n := 107) (j := k0) (v := x) (q := (RX4, TX4, 10)) C (scl.1.trans hic.1) rfl (by rw [scl.2.1, hic.2.1]; exact hk0) (by rw [scl.2.1, hic.2.1]; decide) (by rw [hkx]; decide) (ent_4 hkx) rfl (mem_bw (mem_tbl 1085 (by decide +kernel)) rfl) dX7_open_106 rfl ?_
    refine r_iload (n := 109) C dX7_open_107 rfl rfl ?_
    refine t_i C rfl dX7_open_109 (by decide) ?_
    exact ⟨⟨x, T1, cv, w1, L1, R1, w2, L2, R2, hzx, hN, rfl⟩, rfl⟩
  refine r_iload_n (i := 2) (n := 1) C dX7_open_0 rfl rfl rfl ?_
  refine kX7_57 (n := 4) C (c_isRate hst S (nI rr)) (by decide) (by decide) (Nat.le_of_ble_eq_true rfl) dX7_open_1 rfl (fun r S1 hp => ?_)
  obtain ⟨hS9, hr9⟩ := hp
  subst S1
  have e9 := hr9.1 (rtN_isRt hr)
  subst e9
  refine r_if_eqF (n := 7) (t := 31) C (by decide) dX7_open_4 (by decide) rfl ?_
  refine r_iload_n (i := 3) (n := 8) C dX7_open_7 rfl rfl rfl ?_
  refine r_iconst (v := 1) (n := 9) C dX7_open_8 rfl rfl ?_
  refine r_icmp_eq (n := 12) (t := 17) C dX7_open_9 (by decide) rfl (fun h9 => ?_) (fun h9 => ?_)
  · refine r_iload (n := 19) C dX7_open_17 rfl rfl ?_
    refine r_bipush (v := 8) (n := 21) C dX7_open_19 rfl rfl ?_
    refine r_icmp_eq (n := 24) (t := 41) C dX7_open_21 (by decide) rfl (fun h21 => ?_) (fun h21 => ?_)
    · exact J.to rfl h41
    · refine r_iload (n := 26) C dX7_open_24 rfl rfl ?_
      refine r_bipush (v := 16) (n := 28) C dX7_open_26 rfl rfl ?_
      refine r_icmp_eq (n := 31) (t := 41) C dX7_open_28 (by decide) rfl (fun h28 => ?_) (fun h28 => ?_)
      · exact J.to rfl h41
      · first | exact absurd hbt (fun q => q.elim h21 h28) | exact absurd hch (fun q => q.elim h9 h14) | exact absurd hch (fun q => q.elim h9 (fun z => h14 z))
  · refine r_iload_n (i := 3) (n := 13) C dX7_open_12 rfl rfl rfl ?_
    refine r_iconst (v := 2) (n := 14) C dX7_open_13 rfl rfl ?_
    refine r_icmp_ne (n := 17) (t := 31) C dX7_open_14 (by decide) rfl (fun h14 => ?_) (fun h14 => ?_)
    · first | exact absurd hbt (fun q => q.elim h21 h28) | exact absurd hch (fun q => q.elim h9 h14) | exact absurd hch (fun q => q.elim h9 (fun z => h14 z))
    · refine r_iload (n := 19) C dX7_open_17 rfl rfl ?_
      refine r_bipush (v := 8) (n := 21) C dX7_open_19 rfl rfl ?_
      refine r_icmp_eq (n := 24) (t := 41) C dX7_open_21 (by decide) rfl (fun h21 => ?_) (fun h21 => ?_)
      · exact J.to rfl h41
      · refine r_iload (n := 26) C dX7_open_24 rfl rfl ?_
        refine r_bipush (v := 16) (n := 28) C dX7_open_26 rfl rfl ?_
        refine r_icmp_eq (n := 31) (t := 41) C dX7_open_28 (by decide) rfl (fun h28 => ?_) (fun h28 => ?_)
        · exact J.to rfl h41
        · first | exact absurd hbt (fun q => q.elim h21 h28) | exact absurd hch (fun q => q.elim h9 h14) | exact absurd hch (fun q => q.elim h9 (fun z => h14 z))
