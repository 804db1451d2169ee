def okN (n : Nat) : Prop := n % 9223372036854775808 ≤ 9218868437227405312
def okD (d : FP.Core.Datum) : Prop := match d with
  | .nan => False
  | .inf _ => True
  | .fin _ c q => c < 9007199254740992 ∧ q ≤ 971
theorem fp_e1 : FP.Core.b64.exps = 2048 := by decide
theorem fp_e2 : FP.Core.b64.tails = 4503599627370496 := by decide
theorem fp_e3 : FP.Core.b64.qmin = -1074 := by decide
theorem fp_e4 : FP.Core.b64.qmax = 971 := by decide
theorem fp_e5 : 2 ^ FP.Core.b64.p = 9007199254740992 := by decide
theorem fp_as (s : Bool) (e t : Nat) (h : (e ≤ 2046 ∧ t < 4503599627370496) ∨ (e = 2047 ∧ t = 0)) : okN (FP.Core.assemble FP.Core.b64 s e t) ∧ FP.Core.assemble FP.Core.b64 s e t < 18446744073709551616 := by
  unfold FP.Core.assemble okN
  rw [fp_e1, fp_e2]
  cases s <;> simp only [Bool.toNat_true, Bool.toNat_false] <;> omega
theorem fp_en {d : FP.Core.Datum} (h : okD d) : okN (FP.Core.encode FP.Core.b64 d) ∧ FP.Core.encode FP.Core.b64 d < 18446744073709551616 := by
  cases d with
  | nan => exact absurd h (fun q => q)
  | inf s =>
    simp only [FP.Core.encode]
    exact fp_as s _ _ (Or.inr ⟨by rw [fp_e1], rfl⟩)
  | fin s c q =>
    obtain ⟨h1, h2⟩ := h
    simp only [FP.Core.encode]
    rw [fp_e2, fp_e3]
    by_cases hc : c < 4503599627370496
    · rw [if_pos hc]; exact fp_as s _ _ (Or.inl ⟨by omega, hc⟩)
    · rw [if_neg hc]; exact fp_as s _ _ (Or.inl ⟨by omega, by omega⟩)
theorem fp_bd {s : Bool} {c : Nat} {q : Int} (h : c < 9007199254740992) : okD (FP.Core.bound FP.Core.b64 s c q) := by
  unfold FP.Core.bound
  rw [fp_e4]
  by_cases hq : q ≤ 971
  · rw [if_pos hq]; exact ⟨h, hq⟩
  · rw [if_neg hq]; exact trivial
theorem fp_st (s : Bool) (c : Nat) (q : Int) : okD (FP.Core.settle FP.Core.b64 s c q) := by
  unfold FP.Core.settle
  rw [fp_e5]
  by_cases hc : c < 9007199254740992
  · rw [if_pos hc]; exact fp_bd hc
  · rw [if_neg hc]; exact fp_bd (by rw [fp_e2]; decide)
theorem fp_rr (s : Bool) (A B : Nat) (e : Int) : okD (FP.Core.roundRatio FP.Core.b64 s A B e) := by
  unfold FP.Core.roundRatio
  by_cases hA : A = 0
  · rw [if_pos hA]; exact ⟨by decide, by decide⟩
  · rw [if_neg hA]; exact fp_st _ _ _
theorem fp_ro {d : FP.Core.Datum} (h : d ≠ .nan) : okD (FP.Core.round FP.Core.b64 d) := by
  cases d with
  | nan => exact absurd rfl h
  | inf s => exact trivial
  | fin s c q => exact fp_rr _ _ _ _
theorem fp_dn {n : Nat} (h : okN n) : FP.Core.decode FP.Core.b64 n ≠ .nan := by
  unfold okN at h
  unfold FP.Core.decode FP.Core.fieldE FP.Core.fieldT
  rw [fp_e1, fp_e2]
  by_cases h1 : n / 4503599627370496 % 2048 = 2048 - 1
  · rw [if_pos h1, if_pos (show n % 4503599627370496 = 0 by omega)]; intro q; cases q
  · rw [if_neg h1]
    by_cases h3 : n / 4503599627370496 % 2048 = 0
    · rw [if_pos h3]; intro q; cases q
    · rw [if_neg h3]; intro q; cases q
theorem fp_vf {n : Nat} (h : okN n) (h2 : n < 18446744073709551616) : vf_n64 (UInt64.ofNat n) := by
  unfold vf_n64
  have e : (UInt64.ofNat n).toNat = n := UInt64.toNat_ofNat_of_lt' h2
  have em : (0x7fffffffffffffff : UInt64).toNat = 2 ^ 63 - 1 := by decide
  have ei : (0x7ff0000000000000 : UInt64).toNat = 9218868437227405312 := by decide
  rw [UInt64.le_iff_toNat_le, UInt64.toNat_and, e, em, ei, Nat.and_two_pow_sub_one_eq_mod]
  exact h
theorem fp_in (i : Int) : FP.Core.decode FP.Core.b64 (UInt64.ofNat (FP.Core.fromInt FP.Core.b64 i)).toNat ≠ .nan := by
  have q := fp_en (fp_ro (d := FP.Core.ofInt i) (fun q => by unfold FP.Core.ofInt at q; cases q))
  have e : (UInt64.ofNat (FP.Core.fromInt FP.Core.b64 i)).toNat = FP.Core.fromInt FP.Core.b64 i := UInt64.toNat_ofNat_of_lt' q.2
  rw [e]; exact fp_dn q.1
theorem fp_qu {x : FP.Core.Datum} (h : x ≠ .nan) (t : Bool) {d : Nat} (r : Int) (hd : ¬ d = 0) : okD (FP.Core.quotient FP.Core.b64 x (.fin t d r)) := by
  cases x with
  | nan => exact absurd rfl h
  | inf s => exact trivial
  | fin s c q => simp only [FP.Core.quotient]; rw [if_neg hd]; exact fp_rr _ _ _ _
theorem fp_pr {x : FP.Core.Datum} (h : x ≠ .nan) (t : Bool) {d : Nat} (r : Int) (hd : ¬ d = 0) : FP.Core.exactProduct x (.fin t d r) ≠ .nan := by
  cases x with
  | nan => exact absurd rfl h
  | inf s => simp only [FP.Core.exactProduct]; rw [if_neg hd]; intro q; cases q
  | fin s c q => simp only [FP.Core.exactProduct]; intro q; cases q
theorem fp_c48 : FP.Core.decode FP.Core.b64 (4631952216750555136 : UInt64).toNat = .fin false 6755399441055744 (-47) := by decide +kernel
theorem fp_c256 : FP.Core.decode FP.Core.b64 (4643211215818981376 : UInt64).toNat = .fin false 4503599627370496 (-44) := by decide +kernel
theorem fp_c8 : FP.Core.decode FP.Core.b64 (4593671619917905920 : UInt64).toNat = .fin false 4503599627370496 (-55) := by decide +kernel
theorem fp_div48 (x : Int64) : vf_n64 (FP.ddiv (FP.l2d x) 4631952216750555136) := by
  have q := fp_en (fp_qu (fp_in x.toInt) false (d := 6755399441055744) (-47) (by decide))
  rw [← fp_c48] at q
  exact fp_vf q.1 q.2
theorem fp_m256 {g : UInt64} (h : FP.Core.decode FP.Core.b64 g.toNat ≠ .nan) : vf_n64 (FP.dmul g 4643211215818981376) := by
  have q := fp_en (fp_ro (fp_pr h false (d := 4503599627370496) (-44) (by decide)))
  rw [← fp_c256] at q
  exact fp_vf q.1 q.2
theorem fp_m8 (x : Int32) : vf_n64 (FP.dmul (FP.i2d x) 4593671619917905920) := by
  have q := fp_en (fp_ro (fp_pr (fp_in x.toInt) false (d := 4503599627370496) (-55) (by decide)))
  rw [← fp_c8] at q
  exact fp_vf q.1 q.2
def mSz (v : Int32) : Int64 := if 0 ≤ v then v.toInt64 else -(v.toInt64)
def ct (v : Int64) : Int32 := if v < (-32768) then (-32768) else if 32767 < v then 32767 else v.toInt32
def ctS (S : Sw) (z : Nat) (v : Int64) : Sw := if v < (-32768) ∨ 32767 < v then uI S 835 z (fI S 835 z + 1) else S
theorem uI_self (S : Sw) (f a : Nat) : uI S f a (fI S f a) = S := by
  refine Prod.ext rfl (Prod.ext (funext fun x => funext fun i => ?_) rfl)
  show (if x = f ∧ i = a then fI S f a else fI S x i) = fI S x i
  by_cases h : x = f ∧ i = a
  · rw [if_pos h, h.1, h.2]
  · rw [if_neg h]
theorem uI_uI (S : Sw) (f a : Nat) (v w : Int32) : uI (uI S f a v) f a w = uI S f a w := by
  refine Prod.ext rfl (Prod.ext (funext fun x => funext fun i => ?_) rfl)
  show (if x = f ∧ i = a then w else if x = f ∧ i = a then v else fI S x i) = if x = f ∧ i = a then w else fI S x i
  by_cases h : x = f ∧ i = a <;> simp [h]
set_option maxRecDepth 100000 in
set_option maxHeartbeats 1000000 in
theorem m_sizeOf {l : Launch} {G : GG} {b : Nat} (hst : l.stackTraces = false) (S : Sw) (v : Int32) : Ct l G b yX8_sizeOf cX8_sizeOf 1 (some .long) rmX8_sizeOf mJ [.int v] S (fun r S' => S' = S ∧ r = mSz v) := by
  refine Ct.of2 pnX8 (own := RX8) rfl (Nat.le_of_ble_eq_true rfl) hst ?_
  intro p e s m args below meth c C hname
  change J p l e rmX8_sizeOf s m args below meth c 1 G b _ 0 [(0, .int v)] [] S 0 0
  refine r_iload_n (i := 0) (n := 1) C dX8_sizeOf_0 rfl rfl rfl ?_
  refine r_if_ge (n := 4) (t := 10) C dX8_sizeOf_1 (by decide) rfl (fun h1 => ?_) (fun h1 => ?_)
  · refine r_iload_n (i := 0) (n := 11) C dX8_sizeOf_10 rfl rfl rfl ?_
    refine r_i2l (n := 12) C dX8_sizeOf_11 rfl ?_
    refine t_j C dX8_sizeOf_12 (by decide) ?_
    refine ⟨rfl, ?_⟩
    simp only [mSz, *, ↓reduceIte]
  · refine r_iload_n (i := 0) (n := 5) C dX8_sizeOf_4 rfl rfl rfl ?_
    refine r_i2l (n := 6) C dX8_sizeOf_5 rfl ?_
    refine r_lneg (n := 7) C dX8_sizeOf_6 rfl ?_
    refine r_goto (t := 12) C dX8_sizeOf_7 (by decide) ?_
    refine t_j C dX8_sizeOf_12 (by decide) ?_
    refine ⟨rfl, ?_⟩
    simp only [mSz, *, ↓reduceIte]
theorem ct1 {v : Int64} (h : v < (-32768)) : ct v = (-32768) := if_pos h
theorem ct2 {v : Int64} (h : ¬ v < (-32768)) (h2 : 32767 < v) : ct v = 32767 := by unfold ct; rw [if_neg h, if_pos h2]
theorem ct3 {v : Int64} (h : ¬ v < (-32768)) (h2 : ¬ 32767 < v) : ct v = v.toInt32 := by unfold ct; rw [if_neg h, if_neg h2]
theorem i64c {v : Int64} (h : v < (-32768)) : ¬ 32767 < v := by
  have e1 : ((-32768 : Int64)).toInt = -32768 := by decide
  have e2 : ((32767 : Int64)).toInt = 32767 := by decide
  simp only [Int64.lt_iff_toInt_lt] at *; omega
theorem not_le64 {v w : Int64} (h : ¬ v ≤ w) : w < v := by simp only [Int64.le_iff_toInt_le, Int64.lt_iff_toInt_lt] at *; omega
theorem not_lt64 {v w : Int64} (h : v ≤ w) : ¬ w < v := by simp only [Int64.le_iff_toInt_le, Int64.lt_iff_toInt_lt] at *; omega
set_option maxRecDepth 100000 in
set_option maxHeartbeats 1000000 in
theorem m_cut1 {l : Launch} {G : GG} {b : Nat} (hst : l.stackTraces = false) (S : Sw) (z : Nat) (ad : Nat → Nat) (hm : lay S z ad) (v : Int64) (hv : v < (-32768)) : Ct l G b yX8_cut cX8_cut 3 (some .int) rmX8_cut mI [.ref z, .long v] S (fun r S' => S' = uI S 835 z (fI S 835 z + 1) ∧ r = ct v) := by
  refine Ct.of2 pnX8 (own := RX8) rfl (Nat.le_of_ble_eq_true rfl) hst ?_
  intro p e s m args below meth c C hname
  change J p l e rmX8_cut s m args below meth c 3 G b _ 0 [(0, .ref z), (1, .long v)] [] S 0 0
  refine r_lload_n (i := 1) (n := 1) C dX8_cut_0 rfl rfl rfl ?_
  refine r_ldc2 (n := 4) (v := (-32768)) C (mem_tb (mem_tbl 1026 (by decide +kernel)) (by decide +kernel)) dX8_cut_1 rfl ?_
  refine r_lcmp (n := 5) C dX8_cut_4 rfl ?_
  refine r_if_ltT (t := 16) C ((lg_cmp_lt _ _).mpr hv) dX8_cut_5 (by decide) ?_
  refine r_aload_n (i := 0) (n := 17) C dX8_cut_16 rfl rfl rfl ?_
  refine r_dup (n := 18) C dX8_cut_17 rfl rfl ?_
  refine gX8_215 (n := 21) C hm.1 dX8_cut_18 rfl ?_
  refine r_iconst (v := 1) (n := 22) C dX8_cut_21 rfl rfl ?_
  refine r_iadd (n := 23) C dX8_cut_22 rfl ?_
  refine sX8_215 (n := 26) C hm.1 dX8_cut_23 rfl ?_
  refine r_lload_n (i := 1) (n := 27) C dX8_cut_26 rfl rfl rfl ?_
  refine r_ldc2 (n := 30) (v := (-32768)) C (mem_tb (mem_tbl 1026 (by decide +kernel)) (by decide +kernel)) dX8_cut_27 rfl ?_
  refine r_lcmp (n := 31) C dX8_cut_30 rfl ?_
  refine r_if_geF (n := 34) (t := 40) C (fun q => absurd ((lg_cmp_ge _ _).mp q) (fun q => not_lt64 q hv)) dX8_cut_31 (by decide) rfl ?_
  refine r_sipush (v := (-32768)) (n := 37) C dX8_cut_34 rfl rfl ?_
  refine r_goto (t := 56) C dX8_cut_37 (by decide) ?_
  refine t_i C rfl dX8_cut_56 (by decide) ?_
  exact ⟨rfl, (ct1 hv).symm⟩
set_option maxRecDepth 100000 in
set_option maxHeartbeats 1000000 in
theorem m_cut2 {l : Launch} {G : GG} {b : Nat} (hst : l.stackTraces = false) (S : Sw) (z : Nat) (ad : Nat → Nat) (hm : lay S z ad) (v : Int64) (hv : ¬ v < (-32768)) (hv2 : 32767 < v) : Ct l G b yX8_cut cX8_cut 3 (some .int) rmX8_cut mI [.ref z, .long v] S (fun r S' => S' = uI S 835 z (fI S 835 z + 1) ∧ r = ct v) := by
  refine Ct.of2 pnX8 (own := RX8) rfl (Nat.le_of_ble_eq_true rfl) hst ?_
  intro p e s m args below meth c C hname
  change J p l e rmX8_cut s m args below meth c 3 G b _ 0 [(0, .ref z), (1, .long v)] [] S 0 0
  refine r_lload_n (i := 1) (n := 1) C dX8_cut_0 rfl rfl rfl ?_
  refine r_ldc2 (n := 4) (v := (-32768)) C (mem_tb (mem_tbl 1026 (by decide +kernel)) (by decide +kernel)) dX8_cut_1 rfl ?_
  refine r_lcmp (n := 5) C dX8_cut_4 rfl ?_
  refine r_if_ltF (n := 8) (t := 16) C (fun q => hv ((lg_cmp_lt _ _).mp q)) dX8_cut_5 (by decide) rfl ?_
  refine r_lload_n (i := 1) (n := 9) C dX8_cut_8 rfl rfl rfl ?_
  refine r_ldc2 (n := 12) (v := 32767) C (mem_tb (mem_tbl 1027 (by decide +kernel)) (by decide +kernel)) dX8_cut_9 rfl ?_
  refine r_lcmp (n := 13) C dX8_cut_12 rfl ?_
  refine r_if_leF (n := 16) (t := 26) C (fun q => not_lt64 ((lg_cmp_le _ _).mp q) hv2) dX8_cut_13 (by decide) rfl ?_
  refine r_aload_n (i := 0) (n := 17) C dX8_cut_16 rfl rfl rfl ?_
  refine r_dup (n := 18) C dX8_cut_17 rfl rfl ?_
  refine gX8_215 (n := 21) C hm.1 dX8_cut_18 rfl ?_
  refine r_iconst (v := 1) (n := 22) C dX8_cut_21 rfl rfl ?_
  refine r_iadd (n := 23) C dX8_cut_22 rfl ?_
  refine sX8_215 (n := 26) C hm.1 dX8_cut_23 rfl ?_
  refine r_lload_n (i := 1) (n := 27) C dX8_cut_26 rfl rfl rfl ?_
  refine r_ldc2 (n := 30) (v := (-32768)) C (mem_tb (mem_tbl 1026 (by decide +kernel)) (by decide +kernel)) dX8_cut_27 rfl ?_
  refine r_lcmp (n := 31) C dX8_cut_30 rfl ?_
  refine r_if_geT (t := 40) C ((lg_cmp_ge _ _).mpr (by simp only [Int64.le_iff_toInt_le, Int64.lt_iff_toInt_lt] at *; omega)) dX8_cut_31 (by decide) ?_
  refine r_lload_n (i := 1) (n := 41) C dX8_cut_40 rfl rfl rfl ?_
  refine r_ldc2 (n := 44) (v := 32767) C (mem_tb (mem_tbl 1027 (by decide +kernel)) (by decide +kernel)) dX8_cut_41 rfl ?_
  refine r_lcmp (n := 45) C dX8_cut_44 rfl ?_
  refine r_if_leF (n := 48) (t := 54) C (fun q => not_lt64 ((lg_cmp_le _ _).mp q) hv2) dX8_cut_45 (by decide) rfl ?_
  refine r_sipush (v := 32767) (n := 51) C dX8_cut_48 rfl rfl ?_
  refine r_goto (t := 56) C dX8_cut_51 (by decide) ?_
  refine t_i C rfl dX8_cut_56 (by decide) ?_
  exact ⟨rfl, (ct2 hv hv2).symm⟩
set_option maxRecDepth 100000 in
set_option maxHeartbeats 1000000 in
theorem m_cut3 {l : Launch} {G : GG} {b : Nat} (hst : l.stackTraces = false) (S : Sw) (z : Nat) (ad : Nat → Nat) (hm : lay S z ad) (v : Int64) (hv : ¬ v < (-32768)) (hv2 : ¬ 32767 < v) : Ct l G b yX8_cut cX8_cut 3 (some .int) rmX8_cut mI [.ref z, .long v] S (fun r S' => S' = S ∧ r = ct v) := by
  refine Ct.of2 pnX8 (own := RX8) rfl (Nat.le_of_ble_eq_true rfl) hst ?_
  intro p e s m args below meth c C hname
  change J p l e rmX8_cut s m args below meth c 3 G b _ 0 [(0, .ref z), (1, .long v)] [] S 0 0
  refine r_lload_n (i := 1) (n := 1) C dX8_cut_0 rfl rfl rfl ?_
  refine r_ldc2 (n := 4) (v := (-32768)) C (mem_tb (mem_tbl 1026 (by decide +kernel)) (by decide +kernel)) dX8_cut_1 rfl ?_
  refine r_lcmp (n := 5) C dX8_cut_4 rfl ?_
  refine r_if_ltF (n := 8) (t := 16) C (fun q => hv ((lg_cmp_lt _ _).mp q)) dX8_cut_5 (by decide) rfl ?_
  refine r_lload_n (i := 1) (n := 9) C dX8_cut_8 rfl rfl rfl ?_
  refine r_ldc2 (n := 12) (v := 32767) C (mem_tb (mem_tbl 1027 (by decide +kernel)) (by decide +kernel)) dX8_cut_9 rfl ?_
  refine r_lcmp (n := 13) C dX8_cut_12 rfl ?_
  refine r_if_leT (t := 26) C ((lg_cmp_le _ _).mpr (by simp only [Int64.le_iff_toInt_le, Int64.lt_iff_toInt_lt] at *; omega)) dX8_cut_13 (by decide) ?_
  refine r_lload_n (i := 1) (n := 27) C dX8_cut_26 rfl rfl rfl ?_
  refine r_ldc2 (n := 30) (v := (-32768)) C (mem_tb (mem_tbl 1026 (by decide +kernel)) (by decide +kernel)) dX8_cut_27 rfl ?_
  refine r_lcmp (n := 31) C dX8_cut_30 rfl ?_
  refine r_if_geT (t := 40) C ((lg_cmp_ge _ _).mpr (by simp only [Int64.le_iff_toInt_le, Int64.lt_iff_toInt_lt] at *; omega)) dX8_cut_31 (by decide) ?_
  refine r_lload_n (i := 1) (n := 41) C dX8_cut_40 rfl rfl rfl ?_
  refine r_ldc2 (n := 44) (v := 32767) C (mem_tb (mem_tbl 1027 (by decide +kernel)) (by decide +kernel)) dX8_cut_41 rfl ?_
  refine r_lcmp (n := 45) C dX8_cut_44 rfl ?_
  refine r_if_leT (t := 54) C ((lg_cmp_le _ _).mpr (by simp only [Int64.le_iff_toInt_le, Int64.lt_iff_toInt_lt] at *; omega)) dX8_cut_45 (by decide) ?_
  refine r_lload_n (i := 1) (n := 55) C dX8_cut_54 rfl rfl rfl ?_
  refine r_l2i (n := 56) C dX8_cut_55 rfl ?_
  refine t_i C rfl dX8_cut_56 (by decide) ?_
  exact ⟨rfl, (ct3 hv hv2).symm⟩
theorem m_cut {l : Launch} {G : GG} {b : Nat} (hst : l.stackTraces = false) (S : Sw) (z : Nat) (ad : Nat → Nat) (hm : lay S z ad) (v : Int64) : Ct l G b yX8_cut cX8_cut 3 (some .int) rmX8_cut mI [.ref z, .long v] S (fun r S' => S' = ctS S z v ∧ r = ct v) := by
  by_cases h : v < (-32768)
  · exact (m_cut1 hst S z ad hm v h).post (fun r S' q => ⟨by rw [q.1]; exact (if_pos (Or.inl h)).symm, q.2⟩)
  · by_cases h2 : 32767 < v
    · exact (m_cut2 hst S z ad hm v h h2).post (fun r S' q => ⟨by rw [q.1]; exact (if_pos (Or.inr h2)).symm, q.2⟩)
    · exact (m_cut3 hst S z ad hm v h h2).post (fun r S' q => ⟨by rw [q.1]; exact (if_neg (fun z => z.elim h h2)).symm, q.2⟩)
def lfV1 (value made : Int32) : Int32 := if made - made / 32 * 32 = 0 then (if value + 16 ≤ 4096 then value + 16 else 4096) else value
def lfM (a b : Int32) : Int64 := if mSz a ≤ mSz b then mSz b else mSz a
def lfV2 (v : Int32) (q : Int64) : Int32 := if q * v.toInt64 ≤ 134213632 then v else (134213632 / q).toInt32
def lfO (a v : Int32) : Int32 := (mDn (a.toInt64 * v.toInt64) 4096).toInt32
def lfV (value made a b : Int32) : Int32 := lfV2 (lfV1 value made) (lfM a b)
def mLf (S : Sw) (z : Nat) (ad : Nat → Nat) (j : Nat) : Sw := wI (wI (uI S 833 z (lfV (fI S 833 z) (fI S 834 z) (aI S (ad 836) j) (aI S (ad 837) j))) (ad 836) j (lfO (aI S (ad 836) j) (lfV (fI S 833 z) (fI S 834 z) (aI S (ad 836) j) (aI S (ad 837) j)))) (ad 837) j (lfO (aI S (ad 837) j) (lfV (fI S 833 z) (fI S 834 z) (aI S (ad 836) j) (aI S (ad 837) j)))
set_option maxRecDepth 100000 in
set_option maxHeartbeats 1000000 in
theorem m_limitFrame {l : Launch} {G : GG} {b : Nat} (hst : l.stackTraces = false) (S : Sw) (z : Nat) (ad : Nat → Nat) (hm : lay S z ad) (k : Nat) (hk : k < 24) : Ct l G b yX8_limitFrame cX8_limitFrame 4 none rmX8_limitFrame mV [.ref z, .int (nI k)] S (fun _ S' => S' = mLf S z ad k) := by
  refine Ct.of2 pnX8 (own := RX8) rfl (Nat.le_of_ble_eq_true rfl) hst ?_
  intro p e s m args below meth c C hname
  change J p l e rmX8_limitFrame s m args below meth c 4 G b _ 0 [(0, .ref z), (1, .int (nI k))] [] S 0 0
  have h108 : J p l e rmX8_limitFrame s m args below meth c 4 G b (vx_MQ below (Qp G b mV (fun _ S' => S' = mLf S z ad k)) (XCp G b S (fun _ => False)) args s rmX8_limitFrame.cells rmX8_limitFrame.slots (Ab b)) 108 [(0, .ref z), (1, .int (nI k))] [] (uI S 833 z (lfV (fI S 833 z) (fI S 834 z) (aI S (ad 836) k) (aI S (ad 837) k))) 0 0 := by
    refine r_aload_n (i := 0) (n := 109) C dX8_limitFrame_108 rfl rfl rfl ?_
    refine hX8_111 (n := 112) C hm dX8_limitFrame_109 rfl ?_
    refine r_iload_n (i := 1) (n := 113) C dX8_limitFrame_112 rfl rfl rfl ?_
    refine r_aload_n (i := 0) (n := 114) C dX8_limitFrame_113 rfl rfl rfl ?_
    refine hX8_111 (n := 117) C hm dX8_limitFrame_114 rfl ?_
    refine r_iload_n (i := 1) (n := 118) C dX8_limitFrame_117 rfl rfl rfl ?_
    refine q_ialdv (n := 119) (v := (aI S (ad 836) k)) C (k) (ly_836 hm) rfl (by omega) dX8_limitFrame_118 rfl rfl ?_
    refine r_i2l (n := 120) C dX8_limitFrame_119 rfl ?_
    refine r_aload_n (i := 0) (n := 121) C dX8_limitFrame_120 rfl rfl rfl ?_
    refine gX8_107 (n := 124) C hm.1 dX8_limitFrame_121 rfl ?_
    rw [show fI (uI S 833 z (lfV (fI S 833 z) (fI S 834 z) (aI S (ad 836) k) (aI S (ad 837) k))) 833 z = (lfV (fI S 833 z) (fI S 834 z) (aI S (ad 836) k) (aI S (ad 837) k)) from if_pos ⟨rfl, rfl⟩]
    refine r_i2l (n := 125) C dX8_limitFrame_124 rfl ?_
    refine r_lmul (n := 126) C dX8_limitFrame_125 rfl ?_
    refine r_ldc2 (n := 129) (v := 4096) C (mem_tb (mem_tbl 1021 (by decide +kernel)) (by decide +kernel)) dX8_limitFrame_126 rfl ?_
    refine kX8_134 (n := 132) C (m_down hst (uI S 833 z (lfV (fI S 833 z) (fI S 834 z) (aI S (ad 836) k) (aI S (ad 837) k))) ((aI S (ad 836) k).toInt64 * (lfV (fI S 833 z) (fI S 834 z) (aI S (ad 836) k) (aI S (ad 837) k)).toInt64) 4096 (by decide)) (by decide) (by decide) (Nat.le_of_ble_eq_true rfl) dX8_limitFrame_129 rfl (fun r S1 hp => ?_)
    obtain ⟨hS, hr⟩ := hp
    subst S1
    subst r
    refine r_l2i (n := 133) C dX8_limitFrame_132 rfl ?_
    refine q_iast (n := 134) C (k) (ly_836 hm) rfl (by omega) dX8_limitFrame_133 rfl ?_
    refine r_aload_n (i := 0) (n := 135) C dX8_limitFrame_134 rfl rfl rfl ?_
    refine hX8_114 (n := 138) C hm dX8_limitFrame_135 rfl ?_
    refine r_iload_n (i := 1) (n := 139) C dX8_limitFrame_138 rfl rfl rfl ?_
    refine r_aload_n (i := 0) (n := 140) C dX8_limitFrame_139 rfl rfl rfl ?_
    refine hX8_114 (n := 143) C hm dX8_limitFrame_140 rfl ?_
    refine r_iload_n (i := 1) (n := 144) C dX8_limitFrame_143 rfl rfl rfl ?_
    refine q_ialdv (n := 145) (v := (aI S (ad 837) k)) C (k) (ly_837 hm) rfl (by omega) dX8_limitFrame_144 rfl (aI_wn (hm.ne2 837 836 (by decide) (by decide) (by decide))) ?_
    refine r_i2l (n := 146) C dX8_limitFrame_145 rfl ?_
    refine r_aload_n (i := 0) (n := 147) C dX8_limitFrame_146 rfl rfl rfl ?_
    refine gX8_107 (n := 150) C hm.1 dX8_limitFrame_147 rfl ?_
    rw [show fI (wI (uI S 833 z (lfV (fI S 833 z) (fI S 834 z) (aI S (ad 836) k) (aI S (ad 837) k))) (ad 836) k (mDn ((aI S (ad 836) k).toInt64 * (lfV (fI S 833 z) (fI S 834 z) (aI S (ad 836) k) (aI S (ad 837) k)).toInt64) 4096).toInt32) 833 z = (lfV (fI S 833 z) (fI S 834 z) (aI S (ad 836) k) (aI S (ad 837) k)) from if_pos ⟨rfl, rfl⟩]
    refine r_i2l (n := 151) C dX8_limitFrame_150 rfl ?_
    refine r_lmul (n := 152) C dX8_limitFrame_151 rfl ?_
    refine r_ldc2 (n := 155) (v := 4096) C (mem_tb (mem_tbl 1021 (by decide +kernel)) (by decide +kernel)) dX8_limitFrame_152 rfl ?_
    refine kX8_134 (n := 158) C (m_down hst (wI (uI S 833 z (lfV (fI S 833 z) (fI S 834 z) (aI S (ad 836) k) (aI S (ad 837) k))) (ad 836) k (mDn ((aI S (ad 836) k).toInt64 * (lfV (fI S 833 z) (fI S 834 z) (aI S (ad 836) k) (aI S (ad 837) k)).toInt64) 4096).toInt32) ((aI S (ad 837) k).toInt64 * (lfV (fI S 833 z) (fI S 834 z) (aI S (ad 836) k) (aI S (ad 837) k)).toInt64) 4096 (by decide)) (by decide) (by decide) (Nat.le_of_ble_eq_true rfl) dX8_limitFrame_155 rfl (fun r S1 hp => ?_)
    obtain ⟨hS, hr⟩ := hp
    subst S1
    subst r
    refine r_l2i (n := 159) C dX8_limitFrame_158 rfl ?_
    refine q_iast (n := 160) C (k) (ly_837 hm) rfl (by omega) dX8_limitFrame_159 rfl ?_
    refine t_v C dX8_limitFrame_160 (by decide) ?_
    rfl
  have h84 : J p l e rmX8_limitFrame s m args below meth c 4 G b (vx_MQ below (Qp G b mV (fun _ S' => S' = mLf S z ad k)) (XCp G b S (fun _ => False)) args s rmX8_limitFrame.cells rmX8_limitFrame.slots (Ab b)) 84 [(0, .ref z), (1, .int (nI k)), (2, .long (lfM (aI S (ad 836) k) (aI S (ad 837) k)))] [] (uI S 833 z (lfV1 (fI S 833 z) (fI S 834 z))) 0 0 := by
    refine r_lload_n (i := 2) (n := 85) C dX8_limitFrame_84 rfl rfl rfl ?_
    refine r_aload_n (i := 0) (n := 86) C dX8_limitFrame_85 rfl rfl rfl ?_
    refine gX8_107 (n := 89) C hm.1 dX8_limitFrame_86 rfl ?_
    rw [show fI (uI S 833 z (lfV1 (fI S 833 z) (fI S 834 z))) 833 z = (lfV1 (fI S 833 z) (fI S 834 z)) from if_pos ⟨rfl, rfl⟩]
    refine r_i2l (n := 90) C dX8_limitFrame_89 rfl ?_
    refine r_lmul (n := 91) C dX8_limitFrame_90 rfl ?_
    refine r_ldc2 (n := 94) (v := 134213632) C (mem_tb (mem_tbl 1020 (by decide +kernel)) (by decide +kernel)) dX8_limitFrame_91 rfl ?_
    refine r_lcmp (n := 95) C dX8_limitFrame_94 rfl ?_
    refine r_if_le (n := 98) (t := 108) C dX8_limitFrame_95 (by decide) rfl (fun h95 => ?_) (fun h95 => ?_)
    · first | (have h := h108; rw [show (lfV (fI S 833 z) (fI S 834 z) (aI S (ad 836) k) (aI S (ad 837) k)) = (lfV1 (fI S 833 z) (fI S 834 z)) from if_pos ((lg_cmp_le _ _).mp h95)] at h; exact J.to rfl h) | (rw [uI_uI, show (134213632 / lfM (aI S (ad 836) k) (aI S (ad 837) k)).toInt32 = (lfV (fI S 833 z) (fI S 834 z) (aI S (ad 836) k) (aI S (ad 837) k)) from (if_neg (fun q => h95 ((lg_cmp_le _ _).mpr q))).symm]; exact J.to rfl h108)
    · refine r_aload_n (i := 0) (n := 99) C dX8_limitFrame_98 rfl rfl rfl ?_
      refine r_ldc2 (n := 102) (v := 134213632) C (mem_tb (mem_tbl 1020 (by decide +kernel)) (by decide +kernel)) dX8_limitFrame_99 rfl ?_
      refine r_lload_n (i := 2) (n := 103) C dX8_limitFrame_102 rfl rfl rfl ?_
      refine r_ldiv (n := 104) C dX8_limitFrame_103 (fun q => h95 ((lg_cmp_le _ _).mpr (by rw [q, Int64.zero_mul]; decide))) rfl ?_
      refine r_l2i (n := 105) C dX8_limitFrame_104 rfl ?_
      refine sX8_107 (n := 108) C hm.1 dX8_limitFrame_105 rfl ?_
      first | (have h := h108; rw [show (lfV (fI S 833 z) (fI S 834 z) (aI S (ad 836) k) (aI S (ad 837) k)) = (lfV1 (fI S 833 z) (fI S 834 z)) from if_pos ((lg_cmp_le _ _).mp h95)] at h; exact J.to rfl h) | (rw [uI_uI, show (134213632 / lfM (aI S (ad 836) k) (aI S (ad 837) k)).toInt32 = (lfV (fI S 833 z) (fI S 834 z) (aI S (ad 836) k) (aI S (ad 837) k)) from (if_neg (fun q => h95 ((lg_cmp_le _ _).mpr q))).symm]; exact J.to rfl h108)
  have h83 : J p l e rmX8_limitFrame s m args below meth c 4 G b (vx_MQ below (Qp G b mV (fun _ S' => S' = mLf S z ad k)) (XCp G b S (fun _ => False)) args s rmX8_limitFrame.cells rmX8_limitFrame.slots (Ab b)) 83 [(0, .ref z), (1, .int (nI k))] [.long (lfM (aI S (ad 836) k) (aI S (ad 837) k))] (uI S 833 z (lfV1 (fI S 833 z) (fI S 834 z))) 0 0 := by
    refine r_lstore_n (i := 2) (n := 84) C dX8_limitFrame_83 rfl (by decide) rfl rfl ?_
    exact J.to rfl h84
  have h40 : J p l e rmX8_limitFrame s m args below meth c 4 G b (vx_MQ below (Qp G b mV (fun _ S' => S' = mLf S z ad k)) (XCp G b S (fun _ => False)) args s rmX8_limitFrame.cells rmX8_limitFrame.slots (Ab b)) 40 [(0, .ref z), (1, .int (nI k))] [] (uI S 833 z (lfV1 (fI S 833 z) (fI S 834 z))) 0 0 := by
    refine r_aload_n (i := 0) (n := 41) C dX8_limitFrame_40 rfl rfl rfl ?_
    refine hX8_111 (n := 44) C hm dX8_limitFrame_41 rfl ?_
    refine r_iload_n (i := 1) (n := 45) C dX8_limitFrame_44 rfl rfl rfl ?_
    refine q_ialdv (n := 46) (v := (aI S (ad 836) k)) C (k) (ly_836 hm) rfl (by omega) dX8_limitFrame_45 rfl rfl ?_
    refine kX8_221 (n := 49) C (m_sizeOf hst (uI S 833 z (lfV1 (fI S 833 z) (fI S 834 z))) (aI S (ad 836) k)) (by decide) (by decide) (Nat.le_of_ble_eq_true rfl) dX8_limitFrame_46 rfl (fun r S1 hp => ?_)
    obtain ⟨hS, hr⟩ := hp
    subst S1
    subst r
    refine r_aload_n (i := 0) (n := 50) C dX8_limitFrame_49 rfl rfl rfl ?_
    refine hX8_114 (n := 53) C hm dX8_limitFrame_50 rfl ?_
    refine r_iload_n (i := 1) (n := 54) C dX8_limitFrame_53 rfl rfl rfl ?_
    refine q_ialdv (n := 55) (v := (aI S (ad 837) k)) C (k) (ly_837 hm) rfl (by omega) dX8_limitFrame_54 rfl rfl ?_
    refine kX8_221 (n := 58) C (m_sizeOf hst (uI S 833 z (lfV1 (fI S 833 z) (fI S 834 z))) (aI S (ad 837) k)) (by decide) (by decide) (Nat.le_of_ble_eq_true rfl) dX8_limitFrame_55 rfl (fun r S1 hp => ?_)
    obtain ⟨hS, hr⟩ := hp
    subst S1
    subst r
    refine r_lcmp (n := 59) C dX8_limitFrame_58 rfl ?_
    refine r_if_le (n := 62) (t := 74) C dX8_limitFrame_59 (by decide) rfl (fun h59 => ?_) (fun h59 => ?_)
    · refine r_aload_n (i := 0) (n := 75) C dX8_limitFrame_74 rfl rfl rfl ?_
      refine hX8_114 (n := 78) C hm dX8_limitFrame_75 rfl ?_
      refine r_iload_n (i := 1) (n := 79) C dX8_limitFrame_78 rfl rfl rfl ?_
      refine q_ialdv (n := 80) (v := (aI S (ad 837) k)) C (k) (ly_837 hm) rfl (by omega) dX8_limitFrame_79 rfl rfl ?_
      refine kX8_221 (n := 83) C (m_sizeOf hst (uI S 833 z (lfV1 (fI S 833 z) (fI S 834 z))) (aI S (ad 837) k)) (by decide) (by decide) (Nat.le_of_ble_eq_true rfl) dX8_limitFrame_80 rfl (fun r S1 hp => ?_)
      obtain ⟨hS, hr⟩ := hp
      subst S1
      subst r
      first | (rw [show mSz (aI S (ad 837) k) = lfM (aI S (ad 836) k) (aI S (ad 837) k) from (if_pos ((lg_cmp_le _ _).mp h59)).symm]; exact J.to rfl h83) | (rw [show mSz (aI S (ad 836) k) = lfM (aI S (ad 836) k) (aI S (ad 837) k) from (if_neg (fun q => h59 ((lg_cmp_le _ _).mpr q))).symm]; exact J.to rfl h83)
    · refine r_aload_n (i := 0) (n := 63) C dX8_limitFrame_62 rfl rfl rfl ?_
      refine hX8_111 (n := 66) C hm dX8_limitFrame_63 rfl ?_
      refine r_iload_n (i := 1) (n := 67) C dX8_limitFrame_66 rfl rfl rfl ?_
      refine q_ialdv (n := 68) (v := (aI S (ad 836) k)) C (k) (ly_836 hm) rfl (by omega) dX8_limitFrame_67 rfl rfl ?_
      refine kX8_221 (n := 71) C (m_sizeOf hst (uI S 833 z (lfV1 (fI S 833 z) (fI S 834 z))) (aI S (ad 836) k)) (by decide) (by decide) (Nat.le_of_ble_eq_true rfl) dX8_limitFrame_68 rfl (fun r S1 hp => ?_)
      obtain ⟨hS, hr⟩ := hp
      subst S1
      subst r
      refine r_goto (t := 83) C dX8_limitFrame_71 (by decide) ?_
      first | (rw [show mSz (aI S (ad 837) k) = lfM (aI S (ad 836) k) (aI S (ad 837) k) from (if_pos ((lg_cmp_le _ _).mp h59)).symm]; exact J.to rfl h83) | (rw [show mSz (aI S (ad 836) k) = lfM (aI S (ad 836) k) (aI S (ad 837) k) from (if_neg (fun q => h59 ((lg_cmp_le _ _).mpr q))).symm]; exact J.to rfl h83)
  refine r_aload_n (i := 0) (n := 1) C dX8_limitFrame_0 rfl rfl rfl ?_
  refine gX8_218 (n := 4) C hm.1 dX8_limitFrame_1 rfl ?_
  refine r_bipush (v := 32) (n := 6) C dX8_limitFrame_4 rfl rfl ?_
  refine r_irem (n := 7) C dX8_limitFrame_6 (by first | assumption | decide) rfl ?_
  refine r_if_ne (n := 10) (t := 40) C dX8_limitFrame_7 (by decide) rfl (fun h7 => ?_) (fun h7 => ?_)
  · first | (have h := h40; rw [show (uI S 833 z (lfV1 (fI S 833 z) (fI S 834 z))) = S from by rw [show (lfV1 (fI S 833 z) (fI S 834 z)) = fI S 833 z from if_neg h7, uI_self]] at h; exact J.to rfl h) | (rw [show (4096 : Int32) = (lfV1 (fI S 833 z) (fI S 834 z)) from by unfold lfV1; rw [if_pos h7, if_neg h21]]; exact J.to rfl h40) | (rw [show fI S 833 z + 16 = (lfV1 (fI S 833 z) (fI S 834 z)) from by unfold lfV1; rw [if_pos h7, if_pos h21]]; exact J.to rfl h40)
  · refine r_aload_n (i := 0) (n := 11) C dX8_limitFrame_10 rfl rfl rfl ?_
    refine r_aload_n (i := 0) (n := 12) C dX8_limitFrame_11 rfl rfl rfl ?_
    refine gX8_107 (n := 15) C hm.1 dX8_limitFrame_12 rfl ?_
    refine r_bipush (v := 16) (n := 17) C dX8_limitFrame_15 rfl rfl ?_
    refine r_iadd (n := 18) C dX8_limitFrame_17 rfl ?_
    refine r_sipush (v := 4096) (n := 21) C dX8_limitFrame_18 rfl rfl ?_
    refine r_icmp_le (n := 24) (t := 30) C dX8_limitFrame_21 (by decide) rfl (fun h21 => ?_) (fun h21 => ?_)
    · refine r_aload_n (i := 0) (n := 31) C dX8_limitFrame_30 rfl rfl rfl ?_
      refine gX8_107 (n := 34) C hm.1 dX8_limitFrame_31 rfl ?_
      refine r_bipush (v := 16) (n := 36) C dX8_limitFrame_34 rfl rfl ?_
      refine r_iadd (n := 37) C dX8_limitFrame_36 rfl ?_
      refine sX8_107 (n := 40) C hm.1 dX8_limitFrame_37 rfl ?_
      first | (have h := h40; rw [show (uI S 833 z (lfV1 (fI S 833 z) (fI S 834 z))) = S from by rw [show (lfV1 (fI S 833 z) (fI S 834 z)) = fI S 833 z from if_neg h7, uI_self]] at h; exact J.to rfl h) | (rw [show (4096 : Int32) = (lfV1 (fI S 833 z) (fI S 834 z)) from by unfold lfV1; rw [if_pos h7, if_neg h21]]; exact J.to rfl h40) | (rw [show fI S 833 z + 16 = (lfV1 (fI S 833 z) (fI S 834 z)) from by unfold lfV1; rw [if_pos h7, if_pos h21]]; exact J.to rfl h40)
    · refine r_sipush (v := 4096) (n := 27) C dX8_limitFrame_24 rfl rfl ?_
      refine r_goto (t := 37) C dX8_limitFrame_27 (by decide) ?_
      refine sX8_107 (n := 40) C hm.1 dX8_limitFrame_37 rfl ?_
      first | (have h := h40; rw [show (uI S 833 z (lfV1 (fI S 833 z) (fI S 834 z))) = S from by rw [show (lfV1 (fI S 833 z) (fI S 834 z)) = fI S 833 z from if_neg h7, uI_self]] at h; exact J.to rfl h) | (rw [show (4096 : Int32) = (lfV1 (fI S 833 z) (fI S 834 z)) from by unfold lfV1; rw [if_pos h7, if_neg h21]]; exact J.to rfl h40) | (rw [show fI S 833 z + 16 = (lfV1 (fI S 833 z) (fI S 834 z)) from by unfold lfV1; rw [if_pos h7, if_pos h21]]; exact J.to rfl h40)
