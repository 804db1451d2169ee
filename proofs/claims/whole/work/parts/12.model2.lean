theorem sub7 {a k : Nat} (ha : a < 2 ^ 29) (hk : k < 16) : (nI a + nI k - 7).toInt = (a : Int) + (k : Int) - 7 := by
  rw [nI_add, show (7 : Int32) = nI 7 from rfl, pk_sub_toInt (by omega) (by omega)]; omega
theorem ph_lt {n f t : Nat} (ht : 0 < t) : n * f % t * 32 / t < 32 := by
  have := Nat.mod_lt (n * f) ht
  exact Nat.div_lt_of_lt_mul (by rw [Nat.mul_comm t 32]; omega)
set_option maxRecDepth 100000 in
set_option maxHeartbeats 4000000 in
theorem m_between {l : Launch} {G : GG} {b : Nat} (hst : l.stackTraces = false) (S : Sw) (z : Nat) (ad : Nat → Nat) (hm : lay S z ad) (c0 h : Nat) (hc : c0 < 6) (hh : aI S (ad 810) c0 = nI h) (hb : h ≤ 12800) (n f t : Nat) (hn : n < 2 ^ 20) (hf : f ≤ 48000) (hf0 : 0 < f) (ht : 0 < t) (ht2 : t ≤ 48000) (hp : n * f / t < 2 ^ 29) (rt : Int32) : Ct l G b yX8_between cX8_between 11 (some .int) rmX8_between mI [.ref z, .int (nI c0), .int (nI n), .int (nI f), .int (nI t), .int rt] S (fun r S' => S' = S ∧ r = flt (aI S (ad 801)) (gM S ad c0 h rt) n f t) := by
  refine Ct.of2 pnX8 (own := RX8) rfl (Nat.le_of_ble_eq_true rfl) hst ?_
  intro p e s m args below meth c C hname
  change J p l e rmX8_between s m args below meth c 11 G b _ 0 [(0, .ref z), (1, .int (nI c0)), (2, .int (nI n)), (3, .int (nI f)), (4, .int (nI t)), (5, .int rt)] [] S 0 0
  refine r_iload_n (i := 2) (n := 1) C dX8_between_0 rfl rfl rfl ?_
  refine r_iload_n (i := 3) (n := 2) C dX8_between_1 rfl rfl rfl ?_
  refine r_iload (n := 4) C dX8_between_2 rfl rfl ?_
  refine kX8_154 (n := 7) C (m_placeOf hst S n f t hn hf ht ht2) (by decide) (by decide) (Nat.le_of_ble_eq_true rfl) dX8_between_4 rfl (fun r S1 hp => ?_)
  obtain ⟨hS, hr⟩ := hp
  subst S1
  subst r
  refine r_istore (n := 9) C dX8_between_7 (by decide) rfl rfl ?_
  refine r_iload_n (i := 3) (n := 10) C dX8_between_9 rfl rfl rfl ?_
  refine r_iload (n := 12) C dX8_between_10 rfl rfl ?_
  refine r_icmp_ne (n := 15) (t := 25) C dX8_between_12 (by decide) rfl (fun h12 => ?_) (fun h12 => ?_)
  · refine r_iload_n (i := 2) (n := 26) C dX8_between_25 rfl rfl rfl ?_
    refine r_iload_n (i := 3) (n := 27) C dX8_between_26 rfl rfl rfl ?_
    refine r_iload (n := 29) C dX8_between_27 rfl rfl ?_
    refine kX8_162 (n := 32) C (m_phaseOf hst S n f t hn hf ht ht2) (by decide) (by decide) (Nat.le_of_ble_eq_true rfl) dX8_between_29 rfl (fun r S1 hp => ?_)
    obtain ⟨hS, hr⟩ := hp
    subst S1
    subst r
    refine r_istore (n := 34) C dX8_between_32 (by decide) rfl rfl ?_
    refine r_lconst (v := 0) (n := 35) C dX8_between_34 rfl rfl ?_
    refine r_lstore (n := 37) C dX8_between_35 (by decide) rfl rfl ?_
    refine r_iconst (v := 0) (n := 38) C dX8_between_37 rfl rfl ?_
    refine r_istore (n := 40) C dX8_between_38 (by decide) rfl rfl ?_
    have h13 : ¬ f = t := fun z => h12 (by rw [z])
    have hph := ph_lt (n := n) (f := f) ht
    have loop : ∀ (q k : Nat), k + q = 16 → J p l e rmX8_between s m args below meth c 11 G b (vx_MQ below (Qp G b mI (fun r S' => S' = S ∧ r = flt (aI S (ad 801)) (gM S ad c0 h rt) n f t)) (XCp G b S (fun _ => False)) args s rmX8_between.cells rmX8_between.slots (Ab b)) 40 [(0, .ref z), (1, .int (nI c0)), (5, .int rt), (6, .int (nI (n * f / t))), (7, .int (nI (n * f % t * 32 / t))), (8, .long (fsum (aI S (ad 801)) (gM S ad c0 h rt) (n * f % t * 32 / t) (n * f / t) k)), (10, .int (nI k))] [] S 0 0 := by
      intro q
      induction q with
      | zero =>
        intro k hk
        refine r_iload (n := 42) C dX8_between_40 rfl rfl ?_
        refine r_bipush (v := 16) (n := 44) C dX8_between_42 rfl rfl ?_
        refine r_icmp_geT (t := 89) C (cle (a := 16) (b := k) rfl rfl (by omega) (by omega)) dX8_between_44 (by decide) ?_
        refine r_lload (n := 91) C dX8_between_89 rfl rfl ?_
        refine r_ldc2 (n := 94) (v := 16384) C (mem_tb (mem_tbl 965 (by decide +kernel)) (by decide +kernel)) dX8_between_91 rfl ?_
        refine kX8_134 (n := 97) C (m_down hst S _ 16384 (by decide)) (by decide) (by decide) (Nat.le_of_ble_eq_true rfl) dX8_between_94 rfl (fun r S1 hp => ?_)
        obtain ⟨hS, hr⟩ := hp
        subst S1
        subst r
        refine r_l2i (n := 98) C dX8_between_97 rfl ?_
        refine t_i C rfl dX8_between_98 (by decide) ?_
        refine ⟨rfl, ?_⟩
        rw [flt, if_neg h13, show k = 16 by omega]
      | succ q ih =>
        intro k hk
        refine r_iload (n := 42) C dX8_between_40 rfl rfl ?_
        refine r_bipush (v := 16) (n := 44) C dX8_between_42 rfl rfl ?_
        refine r_icmp_geF (n := 47) (t := 89) C (cnle (a := 16) (b := k) rfl rfl (by omega) (by omega)) dX8_between_44 (by decide) rfl ?_
        refine r_lload (n := 49) C dX8_between_47 rfl rfl ?_
        refine r_aload_n (i := 0) (n := 50) C dX8_between_49 rfl rfl rfl ?_
        refine hX8_7 (n := 53) C hm dX8_between_50 rfl ?_
        refine r_bipush (v := 16) (n := 55) C dX8_between_53 rfl rfl ?_
        refine r_iload (n := 57) C dX8_between_55 rfl rfl ?_
        refine r_imul (n := 58) C dX8_between_57 rfl ?_
        refine r_iload (n := 60) C dX8_between_58 rfl rfl ?_
        refine r_iadd (n := 61) C dX8_between_60 rfl ?_
        refine q_iald (n := 62) C (((16 * (n * f % t * 32 / t)) + k)) (ly_801 hm) (add_nI (a := (16 * (n * f % t * 32 / t))) (b := k) (mul_nI (a := 16) (b := (n * f % t * 32 / t)) rfl rfl) rfl) (by omega) dX8_between_61 rfl ?_
        refine r_i2l (n := 63) C dX8_between_62 rfl ?_
        refine r_aload_n (i := 0) (n := 64) C dX8_between_63 rfl rfl rfl ?_
        refine r_iload_n (i := 1) (n := 65) C dX8_between_64 rfl rfl rfl ?_
        refine r_iload (n := 67) C dX8_between_65 rfl rfl ?_
        refine r_iload (n := 69) C dX8_between_67 rfl rfl ?_
        refine r_iadd (n := 70) C dX8_between_69 rfl ?_
        refine r_bipush (v := 7) (n := 72) C dX8_between_70 rfl rfl ?_
        refine r_isub (n := 73) C dX8_between_72 rfl ?_
        refine r_iload (n := 75) C dX8_between_73 rfl rfl ?_
        refine kX8_158 (n := 78) C (m_sampleAt hst S z ad hm c0 h hc hh hb _ rt) hm.1 (by decide) (by decide) (Nat.le_of_ble_eq_true rfl) dX8_between_75 rfl (fun r S1 hp => ?_)
        obtain ⟨hS, hr⟩ := hp
        subst S1
        subst r
        refine r_i2l (n := 79) C dX8_between_78 rfl ?_
        refine r_lmul (n := 80) C dX8_between_79 rfl ?_
        refine r_ladd (n := 81) C dX8_between_80 rfl ?_
        refine r_lstore (n := 83) C dX8_between_81 (by decide) rfl rfl ?_
        refine r_iinc (n := 86) C dX8_between_83 rfl rfl (by decide) rfl rfl ?_
        refine r_goto (t := 40) C dX8_between_86 (by decide) ?_
        rw [sub7 (by omega) (by omega)]
        exact J.to (by rw [show nI k + Int32.ofInt 1 = nI (k + 1) from nI_1 k]; rfl) (ih (k + 1) (by omega))
    exact J.to rfl (loop 16 0 rfl)
  · refine r_aload_n (i := 0) (n := 16) C dX8_between_15 rfl rfl rfl ?_
    refine r_iload_n (i := 1) (n := 17) C dX8_between_16 rfl rfl rfl ?_
    refine r_iload (n := 19) C dX8_between_17 rfl rfl ?_
    refine r_iload (n := 21) C dX8_between_19 rfl rfl ?_
    refine kX8_158 (n := 24) C (m_sampleAt hst S z ad hm c0 h hc hh hb (nI (n * f / t)) rt) hm.1 (by decide) (by decide) (Nat.le_of_ble_eq_true rfl) dX8_between_21 rfl (fun r S1 hp => ?_)
    obtain ⟨hS, hr⟩ := hp
    subst S1
    subst r
    refine t_i C rfl dX8_between_24 (by decide) ?_
    refine ⟨rfl, ?_⟩
    have h13 : f = t := (nI_eq (by omega) (by omega)).mp h12
    rw [flt, if_pos h13, nI_toInt (by omega)]
