set_option maxRecDepth 100000 in
set_option maxHeartbeats 1000000 in
theorem m_write_n1 {l : Launch} {G : GG} {b : Nat} (hst : l.stackTraces = false) (S : Sw) (z : Nat) (ad : Nat → Nat) (hm : lay S z ad) (c0 : Int32) (hno_ : ¬ isCl S ad c0) (v : Int32) : Ct l G b yX8_write cX8_write 5 (some .boolean) rmX8_write mI [.ref z, .int c0, .int v] S (fun r S' => S' = uI S 800 z 1 ∧ r = 0) := by
  refine Ct.of2 pnX8 (own := RX8) rfl (Nat.le_of_ble_eq_true rfl) hst ?_
  intro p e s m args below meth c C hname
  change J p l e rmX8_write s m args below meth c 5 G b _ 0 [(0, .ref z), (1, .int c0), (2, .int v)] [] S 0 0
  refine r_aload_n (i := 0) (n := 1) C dX8_write_0 rfl rfl rfl ?_
  refine r_iload_n (i := 1) (n := 2) C dX8_write_1 rfl rfl rfl ?_
  refine kX8_147 (n := 5) C (m_isCl_n hst S z ad hm c0 hno_) hm.1 (by decide) (by decide) (Nat.le_of_ble_eq_true rfl) dX8_write_2 rfl (fun r S1 hp => ?_)
  obtain ⟨hS, hr⟩ := hp
  subst S1
  subst r
  refine r_if_eqT (t := 30) C rfl dX8_write_5 (by decide) ?_
  refine r_iconst (v := 0) (n := 31) C dX8_write_30 rfl rfl ?_
  refine r_istore_n (i := 3) (n := 32) C dX8_write_31 rfl (by decide) rfl rfl ?_
  refine r_aload_n (i := 0) (n := 33) C dX8_write_32 rfl rfl rfl ?_
  refine r_iload_n (i := 3) (n := 34) C dX8_write_33 rfl rfl rfl ?_
  refine r_if_neF (n := 37) (t := 41) C (ceq (a := 0) (b := 0) rfl rfl (by omega)) dX8_write_34 (by decide) rfl ?_
  refine r_iconst (v := 1) (n := 38) C dX8_write_37 rfl rfl ?_
  refine r_goto (t := 56) C dX8_write_38 (by decide) ?_
  refine kX8_144 (n := 59) C (m_refused1 hst S z ad hm) hm.1 (by decide) (by decide) (Nat.le_of_ble_eq_true rfl) dX8_write_56 rfl (fun r S1 hp => ?_)
  obtain ⟨hS, hr⟩ := hp
  subst S1
  subst r
  refine r_if_eqF (n := 62) (t := 64) C (by decide) dX8_write_59 (by decide) rfl ?_
  refine r_iconst (v := 0) (n := 63) C dX8_write_62 rfl rfl ?_
  refine t_i C rfl dX8_write_63 (by decide) ?_
  exact ⟨rfl, rfl⟩
set_option maxRecDepth 100000 in
set_option maxHeartbeats 1000000 in
theorem m_write_n2 {l : Launch} {G : GG} {b : Nat} (hst : l.stackTraces = false) (S : Sw) (z : Nat) (ad : Nat → Nat) (hm : lay S z ad) (c0 : Nat) (hc : c0 < 6) (hth : ¬ aI S (ad 802) c0 = 0) (hpl : aI S (ad 803) c0 = 0) (v : Int32) : Ct l G b yX8_write cX8_write 5 (some .boolean) rmX8_write mI [.ref z, .int (nI c0), .int v] S (fun r S' => S' = uI S 800 z 1 ∧ r = 0) := by
  refine Ct.of2 pnX8 (own := RX8) rfl (Nat.le_of_ble_eq_true rfl) hst ?_
  intro p e s m args below meth c C hname
  change J p l e rmX8_write s m args below meth c 5 G b _ 0 [(0, .ref z), (1, .int (nI c0)), (2, .int v)] [] S 0 0
  refine r_aload_n (i := 0) (n := 1) C dX8_write_0 rfl rfl rfl ?_
  refine r_iload_n (i := 1) (n := 2) C dX8_write_1 rfl rfl rfl ?_
  refine kX8_147 (n := 5) C (m_isCl_y hst S z ad hm c0 hc hth) hm.1 (by decide) (by decide) (Nat.le_of_ble_eq_true rfl) dX8_write_2 rfl (fun r S1 hp => ?_)
  obtain ⟨hS, hr⟩ := hp
  subst S1
  subst r
  refine r_if_eqF (n := 8) (t := 30) C (by decide) dX8_write_5 (by decide) rfl ?_
  refine r_aload_n (i := 0) (n := 9) C dX8_write_8 rfl rfl rfl ?_
  refine hX8_17 (n := 12) C hm dX8_write_9 rfl ?_
  refine r_iload_n (i := 1) (n := 13) C dX8_write_12 rfl rfl rfl ?_
  refine q_zaldv (n := 14) (v := nI (0)) C (c0) (ly_803 hm) rfl (by omega) dX8_write_13 rfl hpl ?_
  refine r_if_eqT (t := 30) C (ceq (a := 0) (b := 0) rfl rfl (by omega)) dX8_write_14 (by decide) ?_
  refine r_iconst (v := 0) (n := 31) C dX8_write_30 rfl rfl ?_
  refine r_istore_n (i := 3) (n := 32) C dX8_write_31 rfl (by decide) rfl rfl ?_
  refine r_aload_n (i := 0) (n := 33) C dX8_write_32 rfl rfl rfl ?_
  refine r_iload_n (i := 3) (n := 34) C dX8_write_33 rfl rfl rfl ?_
  refine r_if_neF (n := 37) (t := 41) C (ceq (a := 0) (b := 0) rfl rfl (by omega)) dX8_write_34 (by decide) rfl ?_
  refine r_iconst (v := 1) (n := 38) C dX8_write_37 rfl rfl ?_
  refine r_goto (t := 56) C dX8_write_38 (by decide) ?_
  refine kX8_144 (n := 59) C (m_refused1 hst S z ad hm) hm.1 (by decide) (by decide) (Nat.le_of_ble_eq_true rfl) dX8_write_56 rfl (fun r S1 hp => ?_)
  obtain ⟨hS, hr⟩ := hp
  subst S1
  subst r
  refine r_if_eqF (n := 62) (t := 64) C (by decide) dX8_write_59 (by decide) rfl ?_
  refine r_iconst (v := 0) (n := 63) C dX8_write_62 rfl rfl ?_
  refine t_i C rfl dX8_write_63 (by decide) ?_
  exact ⟨rfl, rfl⟩
set_option maxRecDepth 100000 in
set_option maxHeartbeats 1000000 in
theorem m_write_n3 {l : Launch} {G : GG} {b : Nat} (hst : l.stackTraces = false) (S : Sw) (z : Nat) (ad : Nat → Nat) (hm : lay S z ad) (c0 : Nat) (hc : c0 < 6) (hth : ¬ aI S (ad 802) c0 = 0) (hpl : ¬ aI S (ad 803) c0 = 0) (v : Int32) (hnum : (if aI S (ad 806) c0 = 8 then (if 0 ≤ v ∧ v ≤ 255 then (1 : Int32) else 0) else (if (-32768) ≤ v ∧ v ≤ 32767 then 1 else 0)) = 0) : Ct l G b yX8_write cX8_write 5 (some .boolean) rmX8_write mI [.ref z, .int (nI c0), .int v] S (fun r S' => S' = uI S 800 z 1 ∧ r = 0) := by
  refine Ct.of2 pnX8 (own := RX8) rfl (Nat.le_of_ble_eq_true rfl) hst ?_
  intro p e s m args below meth c C hname
  change J p l e rmX8_write s m args below meth c 5 G b _ 0 [(0, .ref z), (1, .int (nI c0)), (2, .int v)] [] S 0 0
  refine r_aload_n (i := 0) (n := 1) C dX8_write_0 rfl rfl rfl ?_
  refine r_iload_n (i := 1) (n := 2) C dX8_write_1 rfl rfl rfl ?_
  refine kX8_147 (n := 5) C (m_isCl_y hst S z ad hm c0 hc hth) hm.1 (by decide) (by decide) (Nat.le_of_ble_eq_true rfl) dX8_write_2 rfl (fun r S1 hp => ?_)
  obtain ⟨hS, hr⟩ := hp
  subst S1
  subst r
  refine r_if_eqF (n := 8) (t := 30) C (by decide) dX8_write_5 (by decide) rfl ?_
  refine r_aload_n (i := 0) (n := 9) C dX8_write_8 rfl rfl rfl ?_
  refine hX8_17 (n := 12) C hm dX8_write_9 rfl ?_
  refine r_iload_n (i := 1) (n := 13) C dX8_write_12 rfl rfl rfl ?_
  refine q_zald (n := 14) C (c0) (ly_803 hm) rfl (by omega) dX8_write_13 rfl ?_
  refine r_if_eqF (n := 17) (t := 30) C hpl dX8_write_14 (by decide) rfl ?_
  refine r_aload_n (i := 0) (n := 18) C dX8_write_17 rfl rfl rfl ?_
  refine r_iload_n (i := 1) (n := 19) C dX8_write_18 rfl rfl rfl ?_
  refine r_iload_n (i := 2) (n := 20) C dX8_write_19 rfl rfl rfl ?_
  refine kX8_171 (n := 23) C (m_isNumber hst S z ad hm c0 hc v) hm.1 (by decide) (by decide) (Nat.le_of_ble_eq_true rfl) dX8_write_20 rfl (fun r S1 hp => ?_)
  obtain ⟨hS, hr⟩ := hp
  subst S1
  subst r
  refine r_if_eqT (t := 30) C hnum dX8_write_23 (by decide) ?_
  refine r_iconst (v := 0) (n := 31) C dX8_write_30 rfl rfl ?_
  refine r_istore_n (i := 3) (n := 32) C dX8_write_31 rfl (by decide) rfl rfl ?_
  refine r_aload_n (i := 0) (n := 33) C dX8_write_32 rfl rfl rfl ?_
  refine r_iload_n (i := 3) (n := 34) C dX8_write_33 rfl rfl rfl ?_
  refine r_if_neF (n := 37) (t := 41) C (ceq (a := 0) (b := 0) rfl rfl (by omega)) dX8_write_34 (by decide) rfl ?_
  refine r_iconst (v := 1) (n := 38) C dX8_write_37 rfl rfl ?_
  refine r_goto (t := 56) C dX8_write_38 (by decide) ?_
  refine kX8_144 (n := 59) C (m_refused1 hst S z ad hm) hm.1 (by decide) (by decide) (Nat.le_of_ble_eq_true rfl) dX8_write_56 rfl (fun r S1 hp => ?_)
  obtain ⟨hS, hr⟩ := hp
  subst S1
  subst r
  refine r_if_eqF (n := 62) (t := 64) C (by decide) dX8_write_59 (by decide) rfl ?_
  refine r_iconst (v := 0) (n := 63) C dX8_write_62 rfl rfl ?_
  refine t_i C rfl dX8_write_63 (by decide) ?_
  exact ⟨rfl, rfl⟩
set_option maxRecDepth 100000 in
set_option maxHeartbeats 1000000 in
theorem m_write_n4 {l : Launch} {G : GG} {b : Nat} (hst : l.stackTraces = false) (S : Sw) (z : Nat) (ad : Nat → Nat) (hm : lay S z ad) (c0 : Nat) (hc : c0 < 6) (hth : ¬ aI S (ad 802) c0 = 0) (hpl : ¬ aI S (ad 803) c0 = 0) (v : Int32) (hnum : ¬ (if aI S (ad 806) c0 = 8 then (if 0 ≤ v ∧ v ≤ 255 then (1 : Int32) else 0) else (if (-32768) ≤ v ∧ v ≤ 32767 then 1 else 0)) = 0) (hs2 : ¬ aI S (ad 808) c0 ≤ 2) : Ct l G b yX8_write cX8_write 5 (some .boolean) rmX8_write mI [.ref z, .int (nI c0), .int v] S (fun r S' => S' = uI S 800 z 2 ∧ r = 0) := by
  refine Ct.of2 pnX8 (own := RX8) rfl (Nat.le_of_ble_eq_true rfl) hst ?_
  intro p e s m args below meth c C hname
  change J p l e rmX8_write s m args below meth c 5 G b _ 0 [(0, .ref z), (1, .int (nI c0)), (2, .int v)] [] S 0 0
  refine r_aload_n (i := 0) (n := 1) C dX8_write_0 rfl rfl rfl ?_
  refine r_iload_n (i := 1) (n := 2) C dX8_write_1 rfl rfl rfl ?_
  refine kX8_147 (n := 5) C (m_isCl_y hst S z ad hm c0 hc hth) hm.1 (by decide) (by decide) (Nat.le_of_ble_eq_true rfl) dX8_write_2 rfl (fun r S1 hp => ?_)
  obtain ⟨hS, hr⟩ := hp
  subst S1
  subst r
  refine r_if_eqF (n := 8) (t := 30) C (by decide) dX8_write_5 (by decide) rfl ?_
  refine r_aload_n (i := 0) (n := 9) C dX8_write_8 rfl rfl rfl ?_
  refine hX8_17 (n := 12) C hm dX8_write_9 rfl ?_
  refine r_iload_n (i := 1) (n := 13) C dX8_write_12 rfl rfl rfl ?_
  refine q_zald (n := 14) C (c0) (ly_803 hm) rfl (by omega) dX8_write_13 rfl ?_
  refine r_if_eqF (n := 17) (t := 30) C hpl dX8_write_14 (by decide) rfl ?_
  refine r_aload_n (i := 0) (n := 18) C dX8_write_17 rfl rfl rfl ?_
  refine r_iload_n (i := 1) (n := 19) C dX8_write_18 rfl rfl rfl ?_
  refine r_iload_n (i := 2) (n := 20) C dX8_write_19 rfl rfl rfl ?_
  refine kX8_171 (n := 23) C (m_isNumber hst S z ad hm c0 hc v) hm.1 (by decide) (by decide) (Nat.le_of_ble_eq_true rfl) dX8_write_20 rfl (fun r S1 hp => ?_)
  obtain ⟨hS, hr⟩ := hp
  subst S1
  subst r
  refine r_if_eqF (n := 26) (t := 30) C hnum dX8_write_23 (by decide) rfl ?_
  refine r_iconst (v := 1) (n := 27) C dX8_write_26 rfl rfl ?_
  refine r_goto (t := 31) C dX8_write_27 (by decide) ?_
  refine r_istore_n (i := 3) (n := 32) C dX8_write_31 rfl (by decide) rfl rfl ?_
  refine r_aload_n (i := 0) (n := 33) C dX8_write_32 rfl rfl rfl ?_
  refine r_iload_n (i := 3) (n := 34) C dX8_write_33 rfl rfl rfl ?_
  refine r_if_neT (t := 41) C (cne (a := 1) (b := 0) rfl rfl (by omega) (by omega) (by omega)) dX8_write_34 (by decide) ?_
  refine r_aload_n (i := 0) (n := 42) C dX8_write_41 rfl rfl rfl ?_
  refine hX8_32 (n := 45) C hm dX8_write_42 rfl ?_
  refine r_iload_n (i := 1) (n := 46) C dX8_write_45 rfl rfl rfl ?_
  refine q_iald (n := 47) C (c0) (ly_808 hm) rfl (by omega) dX8_write_46 rfl ?_
  refine r_iconst (v := 2) (n := 48) C dX8_write_47 rfl rfl ?_
  refine r_icmp_leF (n := 51) (t := 55) C hs2 dX8_write_48 (by decide) rfl ?_
  refine r_iconst (v := 2) (n := 52) C dX8_write_51 rfl rfl ?_
  refine r_goto (t := 56) C dX8_write_52 (by decide) ?_
  refine kX8_144 (n := 59) C (m_refused2 hst S z ad hm) hm.1 (by decide) (by decide) (Nat.le_of_ble_eq_true rfl) dX8_write_56 rfl (fun r S1 hp => ?_)
  obtain ⟨hS, hr⟩ := hp
  subst S1
  subst r
  refine r_if_eqF (n := 62) (t := 64) C (by decide) dX8_write_59 (by decide) rfl ?_
  refine r_iconst (v := 0) (n := 63) C dX8_write_62 rfl rfl ?_
  refine t_i C rfl dX8_write_63 (by decide) ?_
  exact ⟨rfl, rfl⟩
set_option maxRecDepth 100000 in
set_option maxHeartbeats 1000000 in
theorem m_write_f {l : Launch} {G : GG} {b : Nat} (hst : l.stackTraces = false) (S : Sw) (z : Nat) (ad : Nat → Nat) (hm : lay S z ad) (c0 : Nat) (hc : c0 < 6) (hth : ¬ aI S (ad 802) c0 = 0) (hpl : ¬ aI S (ad 803) c0 = 0) (v : Int32) (hnum : ¬ (if aI S (ad 806) c0 = 8 then (if 0 ≤ v ∧ v ≤ 255 then (1 : Int32) else 0) else (if (-32768) ≤ v ∧ v ≤ 32767 then 1 else 0)) = 0) (hs2 : aI S (ad 808) c0 ≤ 2) (h nx rr : Nat) (hh : aI S (ad 810) c0 = nI h) (hnx : aI S (ad 815) c0 = nI nx) (hrr : aI S (ad 804) c0 = nI rr) (hn : nx < 2 ^ 20) (hr : rtN rr) (hfull : ¬ 0 < 200 - (aI S (ad 810) c0 - nI (nx * rr / 48000))) : Ct l G b yX8_write cX8_write 5 (some .boolean) rmX8_write mI [.ref z, .int (nI c0), .int v] S (fun r S' => S' = uI S 800 z 0 ∧ r = 0) := by
  refine Ct.of2 pnX8 (own := RX8) rfl (Nat.le_of_ble_eq_true rfl) hst ?_
  intro p e s m args below meth c C hname
  change J p l e rmX8_write s m args below meth c 5 G b _ 0 [(0, .ref z), (1, .int (nI c0)), (2, .int v)] [] S 0 0
  refine r_aload_n (i := 0) (n := 1) C dX8_write_0 rfl rfl rfl ?_
  refine r_iload_n (i := 1) (n := 2) C dX8_write_1 rfl rfl rfl ?_
  refine kX8_147 (n := 5) C (m_isCl_y hst S z ad hm c0 hc hth) hm.1 (by decide) (by decide) (Nat.le_of_ble_eq_true rfl) dX8_write_2 rfl (fun r S1 hp => ?_)
  obtain ⟨hS, hr⟩ := hp
  subst S1
  subst r
  refine r_if_eqF (n := 8) (t := 30) C (by decide) dX8_write_5 (by decide) rfl ?_
  refine r_aload_n (i := 0) (n := 9) C dX8_write_8 rfl rfl rfl ?_
  refine hX8_17 (n := 12) C hm dX8_write_9 rfl ?_
  refine r_iload_n (i := 1) (n := 13) C dX8_write_12 rfl rfl rfl ?_
  refine q_zald (n := 14) C (c0) (ly_803 hm) rfl (by omega) dX8_write_13 rfl ?_
  refine r_if_eqF (n := 17) (t := 30) C hpl dX8_write_14 (by decide) rfl ?_
  refine r_aload_n (i := 0) (n := 18) C dX8_write_17 rfl rfl rfl ?_
  refine r_iload_n (i := 1) (n := 19) C dX8_write_18 rfl rfl rfl ?_
  refine r_iload_n (i := 2) (n := 20) C dX8_write_19 rfl rfl rfl ?_
  refine kX8_171 (n := 23) C (m_isNumber hst S z ad hm c0 hc v) hm.1 (by decide) (by decide) (Nat.le_of_ble_eq_true rfl) dX8_write_20 rfl (fun r S1 hp => ?_)
  obtain ⟨hS, hr⟩ := hp
  subst S1
  subst r
  refine r_if_eqF (n := 26) (t := 30) C hnum dX8_write_23 (by decide) rfl ?_
  refine r_iconst (v := 1) (n := 27) C dX8_write_26 rfl rfl ?_
  refine r_goto (t := 31) C dX8_write_27 (by decide) ?_
  refine r_istore_n (i := 3) (n := 32) C dX8_write_31 rfl (by decide) rfl rfl ?_
  refine r_aload_n (i := 0) (n := 33) C dX8_write_32 rfl rfl rfl ?_
  refine r_iload_n (i := 3) (n := 34) C dX8_write_33 rfl rfl rfl ?_
  refine r_if_neT (t := 41) C (cne (a := 1) (b := 0) rfl rfl (by omega) (by omega) (by omega)) dX8_write_34 (by decide) ?_
  refine r_aload_n (i := 0) (n := 42) C dX8_write_41 rfl rfl rfl ?_
  refine hX8_32 (n := 45) C hm dX8_write_42 rfl ?_
  refine r_iload_n (i := 1) (n := 46) C dX8_write_45 rfl rfl rfl ?_
  refine q_iald (n := 47) C (c0) (ly_808 hm) rfl (by omega) dX8_write_46 rfl ?_
  refine r_iconst (v := 2) (n := 48) C dX8_write_47 rfl rfl ?_
  refine r_icmp_leT (t := 55) C hs2 dX8_write_48 (by decide) ?_
  refine r_iconst (v := 0) (n := 56) C dX8_write_55 rfl rfl ?_
  refine kX8_144 (n := 59) C (m_refused0 hst S z ad hm) hm.1 (by decide) (by decide) (Nat.le_of_ble_eq_true rfl) dX8_write_56 rfl (fun r S1 hp => ?_)
  obtain ⟨hS, hr⟩ := hp
  subst S1
  subst r
  refine r_if_eqT (t := 64) C rfl dX8_write_59 (by decide) ?_
  refine r_aload_n (i := 0) (n := 65) C dX8_write_64 rfl rfl rfl ?_
  refine r_iload_n (i := 1) (n := 66) C dX8_write_65 rfl rfl rfl ?_
  refine kX8_175 (n := 69) C (m_spare hst (uI S 800 z 0) z ad hm c0 nx rr hc hnx hrr hn hr) hm.1 (by decide) (by decide) (Nat.le_of_ble_eq_true rfl) dX8_write_66 rfl (fun r S1 hp => ?_)
  obtain ⟨hS, hr⟩ := hp
  subst S1
  subst r
  refine r_if_gtF (n := 72) (t := 74) C hfull dX8_write_69 (by decide) rfl ?_
  refine r_iconst (v := 0) (n := 73) C dX8_write_72 rfl rfl ?_
  refine t_i C rfl dX8_write_73 (by decide) ?_
  exact ⟨rfl, rfl⟩
def mSmp (S : Sw) (ad : Nat → Nat) (c : Nat) (v : Int32) : Int32 := if aI S (ad 806) c = 8 then (v - 128) * 256 else v
set_option maxRecDepth 100000 in
set_option maxHeartbeats 1000000 in
theorem m_write_1 {l : Launch} {G : GG} {b : Nat} (hst : l.stackTraces = false) (S : Sw) (z : Nat) (ad : Nat → Nat) (hm : lay S z ad) (c0 : Nat) (hc : c0 < 6) (hth : ¬ aI S (ad 802) c0 = 0) (hpl : ¬ aI S (ad 803) c0 = 0) (v : Int32) (hnum : ¬ (if aI S (ad 806) c0 = 8 then (if 0 ≤ v ∧ v ≤ 255 then (1 : Int32) else 0) else (if (-32768) ≤ v ∧ v ≤ 32767 then 1 else 0)) = 0) (hs2 : aI S (ad 808) c0 ≤ 2) (h nx rr : Nat) (hh : aI S (ad 810) c0 = nI h) (hnx : aI S (ad 815) c0 = nI nx) (hrr : aI S (ad 804) c0 = nI rr) (hn : nx < 2 ^ 20) (hr : rtN rr) (hfree : 0 < 200 - (aI S (ad 810) c0 - nI (nx * rr / 48000))) (hb : h < 12800) (hch : aI S (ad 805) c0 = 1) : Ct l G b yX8_write cX8_write 5 (some .boolean) rmX8_write mI [.ref z, .int (nI c0), .int v] S (fun r S' => S' = mAdd (uI S 800 z 0) ad c0 h (mSmp S ad c0 v) (mSmp S ad c0 v) ∧ r = 1) := by
  refine Ct.of2 pnX8 (own := RX8) rfl (Nat.le_of_ble_eq_true rfl) hst ?_
  intro p e s m args below meth c C hname
  change J p l e rmX8_write s m args below meth c 5 G b _ 0 [(0, .ref z), (1, .int (nI c0)), (2, .int v)] [] S 0 0
  refine r_aload_n (i := 0) (n := 1) C dX8_write_0 rfl rfl rfl ?_
  refine r_iload_n (i := 1) (n := 2) C dX8_write_1 rfl rfl rfl ?_
  refine kX8_147 (n := 5) C (m_isCl_y hst S z ad hm c0 hc hth) hm.1 (by decide) (by decide) (Nat.le_of_ble_eq_true rfl) dX8_write_2 rfl (fun r S1 hp => ?_)
  obtain ⟨hS, hr⟩ := hp
  subst S1
  subst r
  refine r_if_eqF (n := 8) (t := 30) C (by decide) dX8_write_5 (by decide) rfl ?_
  refine r_aload_n (i := 0) (n := 9) C dX8_write_8 rfl rfl rfl ?_
  refine hX8_17 (n := 12) C hm dX8_write_9 rfl ?_
  refine r_iload_n (i := 1) (n := 13) C dX8_write_12 rfl rfl rfl ?_
  refine q_zald (n := 14) C (c0) (ly_803 hm) rfl (by omega) dX8_write_13 rfl ?_
  refine r_if_eqF (n := 17) (t := 30) C hpl dX8_write_14 (by decide) rfl ?_
  refine r_aload_n (i := 0) (n := 18) C dX8_write_17 rfl rfl rfl ?_
  refine r_iload_n (i := 1) (n := 19) C dX8_write_18 rfl rfl rfl ?_
  refine r_iload_n (i := 2) (n := 20) C dX8_write_19 rfl rfl rfl ?_
  refine kX8_171 (n := 23) C (m_isNumber hst S z ad hm c0 hc v) hm.1 (by decide) (by decide) (Nat.le_of_ble_eq_true rfl) dX8_write_20 rfl (fun r S1 hp => ?_)
  obtain ⟨hS, hr⟩ := hp
  subst S1
  subst r
  refine r_if_eqF (n := 26) (t := 30) C hnum dX8_write_23 (by decide) rfl ?_
  refine r_iconst (v := 1) (n := 27) C dX8_write_26 rfl rfl ?_
  refine r_goto (t := 31) C dX8_write_27 (by decide) ?_
  refine r_istore_n (i := 3) (n := 32) C dX8_write_31 rfl (by decide) rfl rfl ?_
  refine r_aload_n (i := 0) (n := 33) C dX8_write_32 rfl rfl rfl ?_
  refine r_iload_n (i := 3) (n := 34) C dX8_write_33 rfl rfl rfl ?_
  refine r_if_neT (t := 41) C (cne (a := 1) (b := 0) rfl rfl (by omega) (by omega) (by omega)) dX8_write_34 (by decide) ?_
  refine r_aload_n (i := 0) (n := 42) C dX8_write_41 rfl rfl rfl ?_
  refine hX8_32 (n := 45) C hm dX8_write_42 rfl ?_
  refine r_iload_n (i := 1) (n := 46) C dX8_write_45 rfl rfl rfl ?_
  refine q_iald (n := 47) C (c0) (ly_808 hm) rfl (by omega) dX8_write_46 rfl ?_
  refine r_iconst (v := 2) (n := 48) C dX8_write_47 rfl rfl ?_
  refine r_icmp_leT (t := 55) C hs2 dX8_write_48 (by decide) ?_
  refine r_iconst (v := 0) (n := 56) C dX8_write_55 rfl rfl ?_
  refine kX8_144 (n := 59) C (m_refused0 hst S z ad hm) hm.1 (by decide) (by decide) (Nat.le_of_ble_eq_true rfl) dX8_write_56 rfl (fun r S1 hp => ?_)
  obtain ⟨hS, hr⟩ := hp
  subst S1
  subst r
  refine r_if_eqT (t := 64) C rfl dX8_write_59 (by decide) ?_
  refine r_aload_n (i := 0) (n := 65) C dX8_write_64 rfl rfl rfl ?_
  refine r_iload_n (i := 1) (n := 66) C dX8_write_65 rfl rfl rfl ?_
  refine kX8_175 (n := 69) C (m_spare hst (uI S 800 z 0) z ad hm c0 nx rr hc hnx hrr hn hr) hm.1 (by decide) (by decide) (Nat.le_of_ble_eq_true rfl) dX8_write_66 rfl (fun r S1 hp => ?_)
  obtain ⟨hS, hr⟩ := hp
  subst S1
  subst r
  refine r_if_gtT (t := 74) C hfree dX8_write_69 (by decide) ?_
  refine r_aload_n (i := 0) (n := 75) C dX8_write_74 rfl rfl rfl ?_
  refine r_iload_n (i := 1) (n := 76) C dX8_write_75 rfl rfl rfl ?_
  refine r_iload_n (i := 2) (n := 77) C dX8_write_76 rfl rfl rfl ?_
  refine kX8_178 (n := 80) C (m_toSample hst (uI S 800 z 0) z ad hm c0 hc v) hm.1 (by decide) (by decide) (Nat.le_of_ble_eq_true rfl) dX8_write_77 rfl (fun r S1 hp => ?_)
  obtain ⟨hS, hr⟩ := hp
  subst S1
  subst r
  refine r_istore (n := 82) C dX8_write_80 (by decide) rfl rfl ?_
  refine r_aload_n (i := 0) (n := 83) C dX8_write_82 rfl rfl rfl ?_
  refine hX8_23 (n := 86) C hm dX8_write_83 rfl ?_
  refine r_iload_n (i := 1) (n := 87) C dX8_write_86 rfl rfl rfl ?_
  refine q_iald (n := 88) C (c0) (ly_805 hm) rfl (by omega) dX8_write_87 rfl ?_
  refine r_iconst (v := 1) (n := 89) C dX8_write_88 rfl rfl ?_
  refine r_icmp_neF (n := 92) (t := 104) C hch dX8_write_89 (by decide) rfl ?_
  refine r_aload_n (i := 0) (n := 93) C dX8_write_92 rfl rfl rfl ?_
  refine r_iload_n (i := 1) (n := 94) C dX8_write_93 rfl rfl rfl ?_
  refine r_iload (n := 96) C dX8_write_94 rfl rfl ?_
  refine r_iload (n := 98) C dX8_write_96 rfl rfl ?_
  refine kX8_181 (n := 101) C (m_add hst (uI S 800 z 0) z ad hm c0 h hc hh hb (mSmp S ad c0 v) (mSmp S ad c0 v)) hm.1 (by decide) (by decide) (Nat.le_of_ble_eq_true rfl) dX8_write_98 rfl (fun r S1 hp => ?_)
  subst hp
  refine r_goto (t := 151) C dX8_write_101 (by decide) ?_
  refine r_iconst (v := 1) (n := 152) C dX8_write_151 rfl rfl ?_
  refine t_i C rfl dX8_write_152 (by decide) ?_
  exact ⟨rfl, rfl⟩
set_option maxRecDepth 100000 in
set_option maxHeartbeats 1000000 in
theorem m_write_2 {l : Launch} {G : GG} {b : Nat} (hst : l.stackTraces = false) (S : Sw) (z : Nat) (ad : Nat → Nat) (hm : lay S z ad) (c0 : Nat) (hc : c0 < 6) (hth : ¬ aI S (ad 802) c0 = 0) (hpl : ¬ aI S (ad 803) c0 = 0) (v : Int32) (hnum : ¬ (if aI S (ad 806) c0 = 8 then (if 0 ≤ v ∧ v ≤ 255 then (1 : Int32) else 0) else (if (-32768) ≤ v ∧ v ≤ 32767 then 1 else 0)) = 0) (hs2 : aI S (ad 808) c0 ≤ 2) (h nx rr : Nat) (hh : aI S (ad 810) c0 = nI h) (hnx : aI S (ad 815) c0 = nI nx) (hrr : aI S (ad 804) c0 = nI rr) (hn : nx < 2 ^ 20) (hr : rtN rr) (hfree : 0 < 200 - (aI S (ad 810) c0 - nI (nx * rr / 48000))) (hb : h < 12800) (hch : ¬ aI S (ad 805) c0 = 1) (hhf : ¬ aI S (ad 813) c0 = 0) : Ct l G b yX8_write cX8_write 5 (some .boolean) rmX8_write mI [.ref z, .int (nI c0), .int v] S (fun r S' => S' = wI (mAdd (uI S 800 z 0) ad c0 h (aI S (ad 814) c0) (mSmp S ad c0 v)) (ad 813) c0 0 ∧ r = 1) := by
  refine Ct.of2 pnX8 (own := RX8) rfl (Nat.le_of_ble_eq_true rfl) hst ?_
  intro p e s m args below meth c C hname
  change J p l e rmX8_write s m args below meth c 5 G b _ 0 [(0, .ref z), (1, .int (nI c0)), (2, .int v)] [] S 0 0
  refine r_aload_n (i := 0) (n := 1) C dX8_write_0 rfl rfl rfl ?_
  refine r_iload_n (i := 1) (n := 2) C dX8_write_1 rfl rfl rfl ?_
  refine kX8_147 (n := 5) C (m_isCl_y hst S z ad hm c0 hc hth) hm.1 (by decide) (by decide) (Nat.le_of_ble_eq_true rfl) dX8_write_2 rfl (fun r S1 hp => ?_)
  obtain ⟨hS, hr⟩ := hp
  subst S1
  subst r
  refine r_if_eqF (n := 8) (t := 30) C (by decide) dX8_write_5 (by decide) rfl ?_
  refine r_aload_n (i := 0) (n := 9) C dX8_write_8 rfl rfl rfl ?_
  refine hX8_17 (n := 12) C hm dX8_write_9 rfl ?_
  refine r_iload_n (i := 1) (n := 13) C dX8_write_12 rfl rfl rfl ?_
  refine q_zald (n := 14) C (c0) (ly_803 hm) rfl (by omega) dX8_write_13 rfl ?_
  refine r_if_eqF (n := 17) (t := 30) C hpl dX8_write_14 (by decide) rfl ?_
  refine r_aload_n (i := 0) (n := 18) C dX8_write_17 rfl rfl rfl ?_
  refine r_iload_n (i := 1) (n := 19) C dX8_write_18 rfl rfl rfl ?_
  refine r_iload_n (i := 2) (n := 20) C dX8_write_19 rfl rfl rfl ?_
  refine kX8_171 (n := 23) C (m_isNumber hst S z ad hm c0 hc v) hm.1 (by decide) (by decide) (Nat.le_of_ble_eq_true rfl) dX8_write_20 rfl (fun r S1 hp => ?_)
  obtain ⟨hS, hr⟩ := hp
  subst S1
  subst r
  refine r_if_eqF (n := 26) (t := 30) C hnum dX8_write_23 (by decide) rfl ?_
  refine r_iconst (v := 1) (n := 27) C dX8_write_26 rfl rfl ?_
  refine r_goto (t := 31) C dX8_write_27 (by decide) ?_
  refine r_istore_n (i := 3) (n := 32) C dX8_write_31 rfl (by decide) rfl rfl ?_
  refine r_aload_n (i := 0) (n := 33) C dX8_write_32 rfl rfl rfl ?_
  refine r_iload_n (i := 3) (n := 34) C dX8_write_33 rfl rfl rfl ?_
  refine r_if_neT (t := 41) C (cne (a := 1) (b := 0) rfl rfl (by omega) (by omega) (by omega)) dX8_write_34 (by decide) ?_
  refine r_aload_n (i := 0) (n := 42) C dX8_write_41 rfl rfl rfl ?_
  refine hX8_32 (n := 45) C hm dX8_write_42 rfl ?_
  refine r_iload_n (i := 1) (n := 46) C dX8_write_45 rfl rfl rfl ?_
  refine q_iald (n := 47) C (c0) (ly_808 hm) rfl (by omega) dX8_write_46 rfl ?_
  refine r_iconst (v := 2) (n := 48) C dX8_write_47 rfl rfl ?_
  refine r_icmp_leT (t := 55) C hs2 dX8_write_48 (by decide) ?_
  refine r_iconst (v := 0) (n := 56) C dX8_write_55 rfl rfl ?_
  refine kX8_144 (n := 59) C (m_refused0 hst S z ad hm) hm.1 (by decide) (by decide) (Nat.le_of_ble_eq_true rfl) dX8_write_56 rfl (fun r S1 hp => ?_)
  obtain ⟨hS, hr⟩ := hp
  subst S1
  subst r
  refine r_if_eqT (t := 64) C rfl dX8_write_59 (by decide) ?_
  refine r_aload_n (i := 0) (n := 65) C dX8_write_64 rfl rfl rfl ?_
  refine r_iload_n (i := 1) (n := 66) C dX8_write_65 rfl rfl rfl ?_
  refine kX8_175 (n := 69) C (m_spare hst (uI S 800 z 0) z ad hm c0 nx rr hc hnx hrr hn hr) hm.1 (by decide) (by decide) (Nat.le_of_ble_eq_true rfl) dX8_write_66 rfl (fun r S1 hp => ?_)
  obtain ⟨hS, hr⟩ := hp
  subst S1
  subst r
  refine r_if_gtT (t := 74) C hfree dX8_write_69 (by decide) ?_
  refine r_aload_n (i := 0) (n := 75) C dX8_write_74 rfl rfl rfl ?_
  refine r_iload_n (i := 1) (n := 76) C dX8_write_75 rfl rfl rfl ?_
  refine r_iload_n (i := 2) (n := 77) C dX8_write_76 rfl rfl rfl ?_
  refine kX8_178 (n := 80) C (m_toSample hst (uI S 800 z 0) z ad hm c0 hc v) hm.1 (by decide) (by decide) (Nat.le_of_ble_eq_true rfl) dX8_write_77 rfl (fun r S1 hp => ?_)
  obtain ⟨hS, hr⟩ := hp
  subst S1
  subst r
  refine r_istore (n := 82) C dX8_write_80 (by decide) rfl rfl ?_
  refine r_aload_n (i := 0) (n := 83) C dX8_write_82 rfl rfl rfl ?_
  refine hX8_23 (n := 86) C hm dX8_write_83 rfl ?_
  refine r_iload_n (i := 1) (n := 87) C dX8_write_86 rfl rfl rfl ?_
  refine q_iald (n := 88) C (c0) (ly_805 hm) rfl (by omega) dX8_write_87 rfl ?_
  refine r_iconst (v := 1) (n := 89) C dX8_write_88 rfl rfl ?_
  refine r_icmp_neT (t := 104) C hch dX8_write_89 (by decide) ?_
  refine r_aload_n (i := 0) (n := 105) C dX8_write_104 rfl rfl rfl ?_
  refine hX8_48 (n := 108) C hm dX8_write_105 rfl ?_
  refine r_iload_n (i := 1) (n := 109) C dX8_write_108 rfl rfl rfl ?_
  refine q_zald (n := 110) C (c0) (ly_813 hm) rfl (by omega) dX8_write_109 rfl ?_
  refine r_if_eqF (n := 113) (t := 136) C hhf dX8_write_110 (by decide) rfl ?_
  refine r_aload_n (i := 0) (n := 114) C dX8_write_113 rfl rfl rfl ?_
  refine r_iload_n (i := 1) (n := 115) C dX8_write_114 rfl rfl rfl ?_
  refine r_aload_n (i := 0) (n := 116) C dX8_write_115 rfl rfl rfl ?_
  refine hX8_51 (n := 119) C hm dX8_write_116 rfl ?_
  refine r_iload_n (i := 1) (n := 120) C dX8_write_119 rfl rfl rfl ?_
  refine q_iald (n := 121) C (c0) (ly_814 hm) rfl (by omega) dX8_write_120 rfl ?_
  refine r_iload (n := 123) C dX8_write_121 rfl rfl ?_
  refine kX8_181 (n := 126) C (m_add hst (uI S 800 z 0) z ad hm c0 h hc hh hb (aI S (ad 814) c0) (mSmp S ad c0 v)) hm.1 (by decide) (by decide) (Nat.le_of_ble_eq_true rfl) dX8_write_123 rfl (fun r S1 hp => ?_)
  subst hp
  refine r_aload_n (i := 0) (n := 127) C dX8_write_126 rfl rfl rfl ?_
  refine hX8_48 (n := 130) C hm dX8_write_127 rfl ?_
  refine r_iload_n (i := 1) (n := 131) C dX8_write_130 rfl rfl rfl ?_
  refine r_iconst (v := 0) (n := 132) C dX8_write_131 rfl rfl ?_
  refine q_zast (n := 133) C (c0) (ly_813 hm) rfl (by omega) (by first | assumption | rfl) dX8_write_132 rfl ?_
  refine r_goto (t := 151) C dX8_write_133 (by decide) ?_
  refine r_iconst (v := 1) (n := 152) C dX8_write_151 rfl rfl ?_
  refine t_i C rfl dX8_write_152 (by decide) ?_
  exact ⟨rfl, rfl⟩
set_option maxRecDepth 100000 in
set_option maxHeartbeats 1000000 in
theorem m_write_3 {l : Launch} {G : GG} {b : Nat} (hst : l.stackTraces = false) (S : Sw) (z : Nat) (ad : Nat → Nat) (hm : lay S z ad) (c0 : Nat) (hc : c0 < 6) (hth : ¬ aI S (ad 802) c0 = 0) (hpl : ¬ aI S (ad 803) c0 = 0) (v : Int32) (hnum : ¬ (if aI S (ad 806) c0 = 8 then (if 0 ≤ v ∧ v ≤ 255 then (1 : Int32) else 0) else (if (-32768) ≤ v ∧ v ≤ 32767 then 1 else 0)) = 0) (hs2 : aI S (ad 808) c0 ≤ 2) (h nx rr : Nat) (hh : aI S (ad 810) c0 = nI h) (hnx : aI S (ad 815) c0 = nI nx) (hrr : aI S (ad 804) c0 = nI rr) (hn : nx < 2 ^ 20) (hr : rtN rr) (hfree : 0 < 200 - (aI S (ad 810) c0 - nI (nx * rr / 48000))) (hb : h < 12800) (hch : ¬ aI S (ad 805) c0 = 1) (hhf : aI S (ad 813) c0 = 0) : Ct l G b yX8_write cX8_write 5 (some .boolean) rmX8_write mI [.ref z, .int (nI c0), .int v] S (fun r S' => S' = wI (wI (uI S 800 z 0) (ad 814) c0 (mSmp S ad c0 v)) (ad 813) c0 1 ∧ r = 1) := by
  refine Ct.of2 pnX8 (own := RX8) rfl (Nat.le_of_ble_eq_true rfl) hst ?_
  intro p e s m args below meth c C hname
  change J p l e rmX8_write s m args below meth c 5 G b _ 0 [(0, .ref z), (1, .int (nI c0)), (2, .int v)] [] S 0 0
  refine r_aload_n (i := 0) (n := 1) C dX8_write_0 rfl rfl rfl ?_
  refine r_iload_n (i := 1) (n := 2) C dX8_write_1 rfl rfl rfl ?_
  refine kX8_147 (n := 5) C (m_isCl_y hst S z ad hm c0 hc hth) hm.1 (by decide) (by decide) (Nat.le_of_ble_eq_true rfl) dX8_write_2 rfl (fun r S1 hp => ?_)
  obtain ⟨hS, hr⟩ := hp
  subst S1
  subst r
  refine r_if_eqF (n := 8) (t := 30) C (by decide) dX8_write_5 (by decide) rfl ?_
  refine r_aload_n (i := 0) (n := 9) C dX8_write_8 rfl rfl rfl ?_
  refine hX8_17 (n := 12) C hm dX8_write_9 rfl ?_
  refine r_iload_n (i := 1) (n := 13) C dX8_write_12 rfl rfl rfl ?_
  refine q_zald (n := 14) C (c0) (ly_803 hm) rfl (by omega) dX8_write_13 rfl ?_
  refine r_if_eqF (n := 17) (t := 30) C hpl dX8_write_14 (by decide) rfl ?_
  refine r_aload_n (i := 0) (n := 18) C dX8_write_17 rfl rfl rfl ?_
  refine r_iload_n (i := 1) (n := 19) C dX8_write_18 rfl rfl rfl ?_
  refine r_iload_n (i := 2) (n := 20) C dX8_write_19 rfl rfl rfl ?_
  refine kX8_171 (n := 23) C (m_isNumber hst S z ad hm c0 hc v) hm.1 (by decide) (by decide) (Nat.le_of_ble_eq_true rfl) dX8_write_20 rfl (fun r S1 hp => ?_)
  obtain ⟨hS, hr⟩ := hp
  subst S1
  subst r
  refine r_if_eqF (n := 26) (t := 30) C hnum dX8_write_23 (by decide) rfl ?_
  refine r_iconst (v := 1) (n := 27) C dX8_write_26 rfl rfl ?_
  refine r_goto (t := 31) C dX8_write_27 (by decide) ?_
  refine r_istore_n (i := 3) (n := 32) C dX8_write_31 rfl (by decide) rfl rfl ?_
  refine r_aload_n (i := 0) (n := 33) C dX8_write_32 rfl rfl rfl ?_
  refine r_iload_n (i := 3) (n := 34) C dX8_write_33 rfl rfl rfl ?_
  refine r_if_neT (t := 41) C (cne (a := 1) (b := 0) rfl rfl (by omega) (by omega) (by omega)) dX8_write_34 (by decide) ?_
  refine r_aload_n (i := 0) (n := 42) C dX8_write_41 rfl rfl rfl ?_
  refine hX8_32 (n := 45) C hm dX8_write_42 rfl ?_
  refine r_iload_n (i := 1) (n := 46) C dX8_write_45 rfl rfl rfl ?_
  refine q_iald (n := 47) C (c0) (ly_808 hm) rfl (by omega) dX8_write_46 rfl ?_
  refine r_iconst (v := 2) (n := 48) C dX8_write_47 rfl rfl ?_
  refine r_icmp_leT (t := 55) C hs2 dX8_write_48 (by decide) ?_
  refine r_iconst (v := 0) (n := 56) C dX8_write_55 rfl rfl ?_
  refine kX8_144 (n := 59) C (m_refused0 hst S z ad hm) hm.1 (by decide) (by decide) (Nat.le_of_ble_eq_true rfl) dX8_write_56 rfl (fun r S1 hp => ?_)
  obtain ⟨hS, hr⟩ := hp
  subst S1
  subst r
  refine r_if_eqT (t := 64) C rfl dX8_write_59 (by decide) ?_
  refine r_aload_n (i := 0) (n := 65) C dX8_write_64 rfl rfl rfl ?_
  refine r_iload_n (i := 1) (n := 66) C dX8_write_65 rfl rfl rfl ?_
  refine kX8_175 (n := 69) C (m_spare hst (uI S 800 z 0) z ad hm c0 nx rr hc hnx hrr hn hr) hm.1 (by decide) (by decide) (Nat.le_of_ble_eq_true rfl) dX8_write_66 rfl (fun r S1 hp => ?_)
  obtain ⟨hS, hr⟩ := hp
  subst S1
  subst r
  refine r_if_gtT (t := 74) C hfree dX8_write_69 (by decide) ?_
  refine r_aload_n (i := 0) (n := 75) C dX8_write_74 rfl rfl rfl ?_
  refine r_iload_n (i := 1) (n := 76) C dX8_write_75 rfl rfl rfl ?_
  refine r_iload_n (i := 2) (n := 77) C dX8_write_76 rfl rfl rfl ?_
  refine kX8_178 (n := 80) C (m_toSample hst (uI S 800 z 0) z ad hm c0 hc v) hm.1 (by decide) (by decide) (Nat.le_of_ble_eq_true rfl) dX8_write_77 rfl (fun r S1 hp => ?_)
  obtain ⟨hS, hr⟩ := hp
  subst S1
  subst r
  refine r_istore (n := 82) C dX8_write_80 (by decide) rfl rfl ?_
  refine r_aload_n (i := 0) (n := 83) C dX8_write_82 rfl rfl rfl ?_
  refine hX8_23 (n := 86) C hm dX8_write_83 rfl ?_
  refine r_iload_n (i := 1) (n := 87) C dX8_write_86 rfl rfl rfl ?_
  refine q_iald (n := 88) C (c0) (ly_805 hm) rfl (by omega) dX8_write_87 rfl ?_
  refine r_iconst (v := 1) (n := 89) C dX8_write_88 rfl rfl ?_
  refine r_icmp_neT (t := 104) C hch dX8_write_89 (by decide) ?_
  refine r_aload_n (i := 0) (n := 105) C dX8_write_104 rfl rfl rfl ?_
  refine hX8_48 (n := 108) C hm dX8_write_105 rfl ?_
  refine r_iload_n (i := 1) (n := 109) C dX8_write_108 rfl rfl rfl ?_
  refine q_zald (n := 110) C (c0) (ly_813 hm) rfl (by omega) dX8_write_109 rfl ?_
  refine r_if_eqT (t := 136) C hhf dX8_write_110 (by decide) ?_
  refine r_aload_n (i := 0) (n := 137) C dX8_write_136 rfl rfl rfl ?_
  refine hX8_51 (n := 140) C hm dX8_write_137 rfl ?_
  refine r_iload_n (i := 1) (n := 141) C dX8_write_140 rfl rfl rfl ?_
  refine r_iload (n := 143) C dX8_write_141 rfl rfl ?_
  refine q_iast (n := 144) C (c0) (ly_814 hm) rfl (by omega) dX8_write_143 rfl ?_
  refine r_aload_n (i := 0) (n := 145) C dX8_write_144 rfl rfl rfl ?_
  refine hX8_48 (n := 148) C hm dX8_write_145 rfl ?_
  refine r_iload_n (i := 1) (n := 149) C dX8_write_148 rfl rfl rfl ?_
  refine r_iconst (v := 1) (n := 150) C dX8_write_149 rfl rfl ?_
  refine q_zast (n := 151) C (c0) (ly_813 hm) rfl (by omega) (by first | assumption | rfl) dX8_write_150 rfl ?_
  refine r_iconst (v := 1) (n := 152) C dX8_write_151 rfl rfl ?_
  refine t_i C rfl dX8_write_152 (by decide) ?_
  exact ⟨rfl, rfl⟩
def mNum (S : Sw) (ad : Nat → Nat) (c : Nat) (v : Int32) : Int32 := if aI S (ad 806) c = 8 then mDnI v 256 + 128 else v
set_option maxRecDepth 100000 in
set_option maxHeartbeats 1000000 in
theorem m_toNumber {l : Launch} {G : GG} {b : Nat} (hst : l.stackTraces = false) (S : Sw) (z : Nat) (ad : Nat → Nat) (hm : lay S z ad) (c0 : Nat) (hc : c0 < 6) (v : Int32) : Ct l G b yX8_toNumber cX8_toNumber 3 (some .int) rmX8_toNumber mI [.ref z, .int (nI c0), .int v] S (fun r S' => S' = S ∧ r = mNum S ad c0 v) := by
  refine Ct.of2 pnX8 (own := RX8) rfl (Nat.le_of_ble_eq_true rfl) hst ?_
  intro p e s m args below meth c C hname
  change J p l e rmX8_toNumber s m args below meth c 3 G b _ 0 [(0, .ref z), (1, .int (nI c0)), (2, .int v)] [] S 0 0
  refine r_aload_n (i := 0) (n := 1) C dX8_toNumber_0 rfl rfl rfl ?_
  refine hX8_26 (n := 4) C hm dX8_toNumber_1 rfl ?_
  refine r_iload_n (i := 1) (n := 5) C dX8_toNumber_4 rfl rfl rfl ?_
  refine q_iald (n := 6) C (c0) (ly_806 hm) rfl (by omega) dX8_toNumber_5 rfl ?_
  refine r_bipush (v := 8) (n := 8) C dX8_toNumber_6 rfl rfl ?_
  refine r_icmp_ne (n := 11) (t := 25) C dX8_toNumber_8 (by decide) rfl (fun h8 => ?_) (fun h8 => ?_)
  · refine r_iload_n (i := 2) (n := 26) C dX8_toNumber_25 rfl rfl rfl ?_
    refine t_i C rfl dX8_toNumber_26 (by decide) ?_
    refine ⟨rfl, ?_⟩
    simp only [mNum, *, ↓reduceIte]
  · refine r_iload_n (i := 2) (n := 12) C dX8_toNumber_11 rfl rfl rfl ?_
    refine r_sipush (v := 256) (n := 15) C dX8_toNumber_12 rfl rfl ?_
    refine kX8_185 (n := 18) C (m_downBy hst S v 256 (by decide)) (by decide) (by decide) (Nat.le_of_ble_eq_true rfl) dX8_toNumber_15 rfl (fun r S1 hp => ?_)
    obtain ⟨hS, hr⟩ := hp
    subst S1
    subst r
    refine r_sipush (v := 128) (n := 21) C dX8_toNumber_18 rfl rfl ?_
    refine r_iadd (n := 22) C dX8_toNumber_21 rfl ?_
    refine r_goto (t := 26) C dX8_toNumber_22 (by decide) ?_
    refine t_i C rfl dX8_toNumber_26 (by decide) ?_
    refine ⟨rfl, ?_⟩
    simp only [mNum, *, ↓reduceIte]
set_option maxRecDepth 100000 in
set_option maxHeartbeats 1000000 in
theorem m_read_n1 {l : Launch} {G : GG} {b : Nat} (hst : l.stackTraces = false) (S : Sw) (z : Nat) (ad : Nat → Nat) (hm : lay S z ad) (c0 : Int32) (hno_ : ¬ isCl S ad c0) : Ct l G b yX8_read cX8_read 7 (some .int) rmX8_read mI [.ref z, .int c0] S (fun r S' => S' = uI S 800 z 1 ∧ r = 0) := by
  refine Ct.of2 pnX8 (own := RX8) rfl (Nat.le_of_ble_eq_true rfl) hst ?_
  intro p e s m args below meth c C hname
  change J p l e rmX8_read s m args below meth c 7 G b _ 0 [(0, .ref z), (1, .int c0)] [] S 0 0
  refine r_aload_n (i := 0) (n := 1) C dX8_read_0 rfl rfl rfl ?_
  refine r_iload_n (i := 1) (n := 2) C dX8_read_1 rfl rfl rfl ?_
  refine kX8_147 (n := 5) C (m_isCl_n hst S z ad hm c0 hno_) hm.1 (by decide) (by decide) (Nat.le_of_ble_eq_true rfl) dX8_read_2 rfl (fun r S1 hp => ?_)
  obtain ⟨hS, hr⟩ := hp
  subst S1
  subst r
  refine r_if_eqT (t := 21) C rfl dX8_read_5 (by decide) ?_
  refine r_iconst (v := 0) (n := 22) C dX8_read_21 rfl rfl ?_
  refine r_istore_n (i := 2) (n := 23) C dX8_read_22 rfl (by decide) rfl rfl ?_
  refine r_aload_n (i := 0) (n := 24) C dX8_read_23 rfl rfl rfl ?_
  refine r_iload_n (i := 2) (n := 25) C dX8_read_24 rfl rfl rfl ?_
  refine r_if_neF (n := 28) (t := 32) C (ceq (a := 0) (b := 0) rfl rfl (by omega)) dX8_read_25 (by decide) rfl ?_
  refine r_iconst (v := 1) (n := 29) C dX8_read_28 rfl rfl ?_
  refine r_goto (t := 46) C dX8_read_29 (by decide) ?_
  refine kX8_144 (n := 49) C (m_refused1 hst S z ad hm) hm.1 (by decide) (by decide) (Nat.le_of_ble_eq_true rfl) dX8_read_46 rfl (fun r S1 hp => ?_)
  obtain ⟨hS, hr⟩ := hp
  subst S1
  subst r
  refine r_if_eqF (n := 52) (t := 54) C (by decide) dX8_read_49 (by decide) rfl ?_
  refine r_iconst (v := 0) (n := 53) C dX8_read_52 rfl rfl ?_
  refine t_i C rfl dX8_read_53 (by decide) ?_
  exact ⟨rfl, rfl⟩
set_option maxRecDepth 100000 in
set_option maxHeartbeats 1000000 in
theorem m_read_n2 {l : Launch} {G : GG} {b : Nat} (hst : l.stackTraces = false) (S : Sw) (z : Nat) (ad : Nat → Nat) (hm : lay S z ad) (c0 : Nat) (hc : c0 < 6) (hth : ¬ aI S (ad 802) c0 = 0) (hpl : ¬ aI S (ad 803) c0 = 0) : Ct l G b yX8_read cX8_read 7 (some .int) rmX8_read mI [.ref z, .int (nI c0)] S (fun r S' => S' = uI S 800 z 1 ∧ r = 0) := by
  refine Ct.of2 pnX8 (own := RX8) rfl (Nat.le_of_ble_eq_true rfl) hst ?_
  intro p e s m args below meth c C hname
  change J p l e rmX8_read s m args below meth c 7 G b _ 0 [(0, .ref z), (1, .int (nI c0))] [] S 0 0
  refine r_aload_n (i := 0) (n := 1) C dX8_read_0 rfl rfl rfl ?_
  refine r_iload_n (i := 1) (n := 2) C dX8_read_1 rfl rfl rfl ?_
  refine kX8_147 (n := 5) C (m_isCl_y hst S z ad hm c0 hc hth) hm.1 (by decide) (by decide) (Nat.le_of_ble_eq_true rfl) dX8_read_2 rfl (fun r S1 hp => ?_)
  obtain ⟨hS, hr⟩ := hp
  subst S1
  subst r
  refine r_if_eqF (n := 8) (t := 21) C (by decide) dX8_read_5 (by decide) rfl ?_
  refine r_aload_n (i := 0) (n := 9) C dX8_read_8 rfl rfl rfl ?_
  refine hX8_17 (n := 12) C hm dX8_read_9 rfl ?_
  refine r_iload_n (i := 1) (n := 13) C dX8_read_12 rfl rfl rfl ?_
  refine q_zald (n := 14) C (c0) (ly_803 hm) rfl (by omega) dX8_read_13 rfl ?_
  refine r_if_neT (t := 21) C hpl dX8_read_14 (by decide) ?_
  refine r_iconst (v := 0) (n := 22) C dX8_read_21 rfl rfl ?_
  refine r_istore_n (i := 2) (n := 23) C dX8_read_22 rfl (by decide) rfl rfl ?_
  refine r_aload_n (i := 0) (n := 24) C dX8_read_23 rfl rfl rfl ?_
  refine r_iload_n (i := 2) (n := 25) C dX8_read_24 rfl rfl rfl ?_
  refine r_if_neF (n := 28) (t := 32) C (ceq (a := 0) (b := 0) rfl rfl (by omega)) dX8_read_25 (by decide) rfl ?_
  refine r_iconst (v := 1) (n := 29) C dX8_read_28 rfl rfl ?_
  refine r_goto (t := 46) C dX8_read_29 (by decide) ?_
  refine kX8_144 (n := 49) C (m_refused1 hst S z ad hm) hm.1 (by decide) (by decide) (Nat.le_of_ble_eq_true rfl) dX8_read_46 rfl (fun r S1 hp => ?_)
  obtain ⟨hS, hr⟩ := hp
  subst S1
  subst r
  refine r_if_eqF (n := 52) (t := 54) C (by decide) dX8_read_49 (by decide) rfl ?_
  refine r_iconst (v := 0) (n := 53) C dX8_read_52 rfl rfl ?_
  refine t_i C rfl dX8_read_53 (by decide) ?_
  exact ⟨rfl, rfl⟩
set_option maxRecDepth 100000 in
set_option maxHeartbeats 1000000 in
theorem m_read_n3 {l : Launch} {G : GG} {b : Nat} (hst : l.stackTraces = false) (S : Sw) (z : Nat) (ad : Nat → Nat) (hm : lay S z ad) (c0 : Nat) (hc : c0 < 6) (hth : ¬ aI S (ad 802) c0 = 0) (hpl : aI S (ad 803) c0 = 0) (hrd : aI S (ad 821) c0 = 0) : Ct l G b yX8_read cX8_read 7 (some .int) rmX8_read mI [.ref z, .int (nI c0)] S (fun r S' => S' = uI S 800 z 2 ∧ r = 0) := by
  refine Ct.of2 pnX8 (own := RX8) rfl (Nat.le_of_ble_eq_true rfl) hst ?_
  intro p e s m args below meth c C hname
  change J p l e rmX8_read s m args below meth c 7 G b _ 0 [(0, .ref z), (1, .int (nI c0))] [] S 0 0
  refine r_aload_n (i := 0) (n := 1) C dX8_read_0 rfl rfl rfl ?_
  refine r_iload_n (i := 1) (n := 2) C dX8_read_1 rfl rfl rfl ?_
  refine kX8_147 (n := 5) C (m_isCl_y hst S z ad hm c0 hc hth) hm.1 (by decide) (by decide) (Nat.le_of_ble_eq_true rfl) dX8_read_2 rfl (fun r S1 hp => ?_)
  obtain ⟨hS, hr⟩ := hp
  subst S1
  subst r
  refine r_if_eqF (n := 8) (t := 21) C (by decide) dX8_read_5 (by decide) rfl ?_
  refine r_aload_n (i := 0) (n := 9) C dX8_read_8 rfl rfl rfl ?_
  refine hX8_17 (n := 12) C hm dX8_read_9 rfl ?_
  refine r_iload_n (i := 1) (n := 13) C dX8_read_12 rfl rfl rfl ?_
  refine q_zaldv (n := 14) (v := nI (0)) C (c0) (ly_803 hm) rfl (by omega) dX8_read_13 rfl hpl ?_
  refine r_if_neF (n := 17) (t := 21) C (ceq (a := 0) (b := 0) rfl rfl (by omega)) dX8_read_14 (by decide) rfl ?_
  refine r_iconst (v := 1) (n := 18) C dX8_read_17 rfl rfl ?_
  refine r_goto (t := 22) C dX8_read_18 (by decide) ?_
  refine r_istore_n (i := 2) (n := 23) C dX8_read_22 rfl (by decide) rfl rfl ?_
  refine r_aload_n (i := 0) (n := 24) C dX8_read_23 rfl rfl rfl ?_
  refine r_iload_n (i := 2) (n := 25) C dX8_read_24 rfl rfl rfl ?_
  refine r_if_neT (t := 32) C (cne (a := 1) (b := 0) rfl rfl (by omega) (by omega) (by omega)) dX8_read_25 (by decide) ?_
  refine r_aload_n (i := 0) (n := 33) C dX8_read_32 rfl rfl rfl ?_
  refine hX8_73 (n := 36) C hm dX8_read_33 rfl ?_
  refine r_iload_n (i := 1) (n := 37) C dX8_read_36 rfl rfl rfl ?_
  refine q_iald (n := 38) C (c0) (ly_821 hm) rfl (by omega) dX8_read_37 rfl ?_
  refine r_if_neF (n := 41) (t := 45) C hrd dX8_read_38 (by decide) rfl ?_
  refine r_iconst (v := 2) (n := 42) C dX8_read_41 rfl rfl ?_
  refine r_goto (t := 46) C dX8_read_42 (by decide) ?_
  refine kX8_144 (n := 49) C (m_refused2 hst S z ad hm) hm.1 (by decide) (by decide) (Nat.le_of_ble_eq_true rfl) dX8_read_46 rfl (fun r S1 hp => ?_)
  obtain ⟨hS, hr⟩ := hp
  subst S1
  subst r
  refine r_if_eqF (n := 52) (t := 54) C (by decide) dX8_read_49 (by decide) rfl ?_
  refine r_iconst (v := 0) (n := 53) C dX8_read_52 rfl rfl ?_
  refine t_i C rfl dX8_read_53 (by decide) ?_
  exact ⟨rfl, rfl⟩
set_option maxRecDepth 100000 in
set_option maxHeartbeats 1000000 in
theorem m_read_h {l : Launch} {G : GG} {b : Nat} (hst : l.stackTraces = false) (S : Sw) (z : Nat) (ad : Nat → Nat) (hm : lay S z ad) (c0 : Nat) (hc : c0 < 6) (hth : ¬ aI S (ad 802) c0 = 0) (hpl : aI S (ad 803) c0 = 0) (rd n rr h : Nat) (hrd : aI S (ad 821) c0 = nI rd) (hrd0 : 0 < rd) (hrd2 : rd ≤ 200) (hat : aI S (ad 822) (12800 * c0) = nI n) (hn : n < 2 ^ 20) (hrr : aI S (ad 804) c0 = nI rr) (hr : rtN rr) (hh : aI S (ad 810) c0 = nI h) (hb : h ≤ 12800) (hch : aI S (ad 805) c0 = 2) (hhf : aI S (ad 813) c0 = 0) : Ct l G b yX8_read cX8_read 7 (some .int) rmX8_read mI [.ref z, .int (nI c0)] S (fun r S' => S' = (wI (uI S 800 z 0) (ad 813) c0 1) ∧ r = mNum S ad c0 (flt (aI S (ad 801)) (gM S ad c0 h 0) n 48000 rr)) := by
  refine Ct.of2 pnX8 (own := RX8) rfl (Nat.le_of_ble_eq_true rfl) hst ?_
  intro p e s m args below meth c C hname
  change J p l e rmX8_read s m args below meth c 7 G b _ 0 [(0, .ref z), (1, .int (nI c0))] [] S 0 0
  refine r_aload_n (i := 0) (n := 1) C dX8_read_0 rfl rfl rfl ?_
  refine r_iload_n (i := 1) (n := 2) C dX8_read_1 rfl rfl rfl ?_
  refine kX8_147 (n := 5) C (m_isCl_y hst S z ad hm c0 hc hth) hm.1 (by decide) (by decide) (Nat.le_of_ble_eq_true rfl) dX8_read_2 rfl (fun r S1 hp => ?_)
  obtain ⟨hS, hr⟩ := hp
  subst S1
  subst r
  refine r_if_eqF (n := 8) (t := 21) C (by decide) dX8_read_5 (by decide) rfl ?_
  refine r_aload_n (i := 0) (n := 9) C dX8_read_8 rfl rfl rfl ?_
  refine hX8_17 (n := 12) C hm dX8_read_9 rfl ?_
  refine r_iload_n (i := 1) (n := 13) C dX8_read_12 rfl rfl rfl ?_
  refine q_zaldv (n := 14) (v := nI (0)) C (c0) (ly_803 hm) rfl (by omega) dX8_read_13 rfl hpl ?_
  refine r_if_neF (n := 17) (t := 21) C (ceq (a := 0) (b := 0) rfl rfl (by omega)) dX8_read_14 (by decide) rfl ?_
  refine r_iconst (v := 1) (n := 18) C dX8_read_17 rfl rfl ?_
  refine r_goto (t := 22) C dX8_read_18 (by decide) ?_
  refine r_istore_n (i := 2) (n := 23) C dX8_read_22 rfl (by decide) rfl rfl ?_
  refine r_aload_n (i := 0) (n := 24) C dX8_read_23 rfl rfl rfl ?_
  refine r_iload_n (i := 2) (n := 25) C dX8_read_24 rfl rfl rfl ?_
  refine r_if_neT (t := 32) C (cne (a := 1) (b := 0) rfl rfl (by omega) (by omega) (by omega)) dX8_read_25 (by decide) ?_
  refine r_aload_n (i := 0) (n := 33) C dX8_read_32 rfl rfl rfl ?_
  refine hX8_73 (n := 36) C hm dX8_read_33 rfl ?_
  refine r_iload_n (i := 1) (n := 37) C dX8_read_36 rfl rfl rfl ?_
  refine q_iald (n := 38) C (c0) (ly_821 hm) rfl (by omega) dX8_read_37 rfl ?_
  refine r_if_neT (t := 45) C (by rw [hrd]; exact nI_ne0 hrd0 (by omega)) dX8_read_38 (by decide) ?_
  refine r_iconst (v := 0) (n := 46) C dX8_read_45 rfl rfl ?_
  refine kX8_144 (n := 49) C (m_refused0 hst S z ad hm) hm.1 (by decide) (by decide) (Nat.le_of_ble_eq_true rfl) dX8_read_46 rfl (fun r S1 hp => ?_)
  obtain ⟨hS, hr⟩ := hp
  subst S1
  subst r
  refine r_if_eqT (t := 54) C rfl dX8_read_49 (by decide) ?_
  refine r_aload_n (i := 0) (n := 55) C dX8_read_54 rfl rfl rfl ?_
  refine hX8_76 (n := 58) C hm dX8_read_55 rfl ?_
  refine r_sipush (v := 12800) (n := 61) C dX8_read_58 rfl rfl ?_
  refine r_iload_n (i := 1) (n := 62) C dX8_read_61 rfl rfl rfl ?_
  refine r_imul (n := 63) C dX8_read_62 rfl ?_
  refine q_ialdv (n := 64) (v := nI (n)) C ((12800 * c0)) (ly_822 hm) (mul_nI (a := 12800) (b := c0) rfl rfl) (by omega) dX8_read_63 rfl hat ?_
  refine r_istore_n (i := 3) (n := 65) C dX8_read_64 rfl (by decide) rfl rfl ?_
  refine r_aload_n (i := 0) (n := 66) C dX8_read_65 rfl rfl rfl ?_
  refine r_iload_n (i := 1) (n := 67) C dX8_read_66 rfl rfl rfl ?_
  refine r_iload_n (i := 3) (n := 68) C dX8_read_67 rfl rfl rfl ?_
  refine r_ldc (n := 70) (v := 48000) C (mem_tb (mem_tbl 885 (by decide +kernel)) (by decide +kernel)) dX8_read_68 rfl ?_
  refine r_aload_n (i := 0) (n := 71) C dX8_read_70 rfl rfl rfl ?_
  refine hX8_20 (n := 74) C hm dX8_read_71 rfl ?_
  refine r_iload_n (i := 1) (n := 75) C dX8_read_74 rfl rfl rfl ?_
  refine q_ialdv (n := 76) (v := nI (rr)) C (c0) (ly_804 hm) rfl (by omega) dX8_read_75 rfl hrr ?_
  refine r_iconst (v := 0) (n := 77) C dX8_read_76 rfl rfl ?_
  refine kX8_188 (n := 80) C (m_between hst (uI S 800 z 0) z ad hm c0 h hc hh hb n 48000 rr hn (by omega) (by omega) (by have := rtN.le hr; omega) (rtN.le hr).1 (pl_le hn (by omega) (rtN.le hr).2) 0) hm.1 (by decide) (by decide) (Nat.le_of_ble_eq_true rfl) dX8_read_77 rfl (fun r S1 hp => ?_)
  obtain ⟨hS, hr⟩ := hp
  subst S1
  subst r
  refine r_istore (n := 82) C dX8_read_80 (by decide) rfl rfl ?_
  refine r_aload_n (i := 0) (n := 83) C dX8_read_82 rfl rfl rfl ?_
  refine r_iload_n (i := 1) (n := 84) C dX8_read_83 rfl rfl rfl ?_
  refine r_iload_n (i := 3) (n := 85) C dX8_read_84 rfl rfl rfl ?_
  refine r_ldc (n := 87) (v := 48000) C (mem_tb (mem_tbl 885 (by decide +kernel)) (by decide +kernel)) dX8_read_85 rfl ?_
  refine r_aload_n (i := 0) (n := 88) C dX8_read_87 rfl rfl rfl ?_
  refine hX8_20 (n := 91) C hm dX8_read_88 rfl ?_
  refine r_iload_n (i := 1) (n := 92) C dX8_read_91 rfl rfl rfl ?_
  refine q_ialdv (n := 93) (v := nI (rr)) C (c0) (ly_804 hm) rfl (by omega) dX8_read_92 rfl hrr ?_
  refine r_iconst (v := 1) (n := 94) C dX8_read_93 rfl rfl ?_
  refine kX8_188 (n := 97) C (m_between hst (uI S 800 z 0) z ad hm c0 h hc hh hb n 48000 rr hn (by omega) (by omega) (by have := rtN.le hr; omega) (rtN.le hr).1 (pl_le hn (by omega) (rtN.le hr).2) 1) hm.1 (by decide) (by decide) (Nat.le_of_ble_eq_true rfl) dX8_read_94 rfl (fun r S1 hp => ?_)
  obtain ⟨hS, hr⟩ := hp
  subst S1
  subst r
  refine r_istore (n := 99) C dX8_read_97 (by decide) rfl rfl ?_
  refine r_aload_n (i := 0) (n := 100) C dX8_read_99 rfl rfl rfl ?_
  refine hX8_23 (n := 103) C hm dX8_read_100 rfl ?_
  refine r_iload_n (i := 1) (n := 104) C dX8_read_103 rfl rfl rfl ?_
  refine q_iald (n := 105) C (c0) (ly_805 hm) rfl (by omega) dX8_read_104 rfl ?_
  refine r_iconst (v := 2) (n := 106) C dX8_read_105 rfl rfl ?_
  refine r_icmp_neF (n := 109) (t := 133) C hch dX8_read_106 (by decide) rfl ?_
  refine r_aload_n (i := 0) (n := 110) C dX8_read_109 rfl rfl rfl ?_
  refine hX8_48 (n := 113) C hm dX8_read_110 rfl ?_
  refine r_iload_n (i := 1) (n := 114) C dX8_read_113 rfl rfl rfl ?_
  refine q_zald (n := 115) C (c0) (ly_813 hm) rfl (by omega) dX8_read_114 rfl ?_
  refine r_if_neF (n := 118) (t := 133) C hhf dX8_read_115 (by decide) rfl ?_
  refine r_aload_n (i := 0) (n := 119) C dX8_read_118 rfl rfl rfl ?_
  refine hX8_48 (n := 122) C hm dX8_read_119 rfl ?_
  refine r_iload_n (i := 1) (n := 123) C dX8_read_122 rfl rfl rfl ?_
  refine r_iconst (v := 1) (n := 124) C dX8_read_123 rfl rfl ?_
  refine q_zast (n := 125) C (c0) (ly_813 hm) rfl (by omega) (by first | assumption | rfl) dX8_read_124 rfl ?_
  refine r_aload_n (i := 0) (n := 126) C dX8_read_125 rfl rfl rfl ?_
  refine r_iload_n (i := 1) (n := 127) C dX8_read_126 rfl rfl rfl ?_
  refine r_iload (n := 129) C dX8_read_127 rfl rfl ?_
  refine kX8_192 (n := 132) C (m_toNumber hst (wI (uI S 800 z 0) (ad 813) c0 1) z ad hm c0 hc (flt (aI S (ad 801)) (gM S ad c0 h 0) n 48000 rr)) hm.1 (by decide) (by decide) (Nat.le_of_ble_eq_true rfl) dX8_read_129 rfl (fun r S1 hp => ?_)
  obtain ⟨hS, hr⟩ := hp
  subst S1
  subst r
  refine t_i C rfl dX8_read_132 (by decide) ?_
  refine ⟨rfl, ?_⟩
  unfold mNum
  rw [show aI (wI (uI S 800 z 0) (ad 813) c0 1) (ad 806) c0 = aI S (ad 806) c0 from aI_wn (hm.ne2 806 813 (by decide) (by decide) (by decide))]
def shf (f : Nat → Int32) (b k : Nat) : Nat → Int32 := fun i => if b ≤ i ∧ i < b + k then f (i + 1) else f i
theorem shf_s (f : Nat → Int32) (b k : Nat) : (fun i => if i = b + k then shf f b k (b + k + 1) else shf f b k i) = shf f b (k + 1) := by
  funext i
  unfold shf
  by_cases h : i = b + k
  · subst h; rw [if_pos rfl, if_neg (by omega), if_pos (by omega)]
  · rw [if_neg h]
    by_cases h2 : b ≤ i ∧ i < b + k
    · rw [if_pos h2, if_pos (by omega)]
    · rw [if_neg h2, if_neg (by omega)]
/-- a frame is read wholly -/
def mRd (S : Sw) (z : Nat) (ad : Nat → Nat) (c rd : Nat) : Sw := wI (wIs (wI (wI (uI S 800 z 0) (ad 813) c 0) (ad 821) c (nI (rd - 1))) (ad 822) (shf (aI S (ad 822)) (12800 * c) (rd - 1))) (ad 823) c (aI S (ad 823) c + 1)
set_option maxRecDepth 100000 in
set_option maxHeartbeats 1000000 in
theorem m_read_2 {l : Launch} {G : GG} {b : Nat} (hst : l.stackTraces = false) (S : Sw) (z : Nat) (ad : Nat → Nat) (hm : lay S z ad) (c0 : Nat) (hc : c0 < 6) (hth : ¬ aI S (ad 802) c0 = 0) (hpl : aI S (ad 803) c0 = 0) (rd n rr h : Nat) (hrd : aI S (ad 821) c0 = nI rd) (hrd0 : 0 < rd) (hrd2 : rd ≤ 200) (hat : aI S (ad 822) (12800 * c0) = nI n) (hn : n < 2 ^ 20) (hrr : aI S (ad 804) c0 = nI rr) (hr : rtN rr) (hh : aI S (ad 810) c0 = nI h) (hb : h ≤ 12800) (hch : aI S (ad 805) c0 = 2) (hhf : ¬ aI S (ad 813) c0 = 0) : Ct l G b yX8_read cX8_read 7 (some .int) rmX8_read mI [.ref z, .int (nI c0)] S (fun r S' => S' = mRd S z ad c0 rd ∧ r = mNum S ad c0 (flt (aI S (ad 801)) (gM S ad c0 h 1) n 48000 rr)) := by
  refine Ct.of2 pnX8 (own := RX8) rfl (Nat.le_of_ble_eq_true rfl) hst ?_
  intro p e s m args below meth c C hname
  change J p l e rmX8_read s m args below meth c 7 G b _ 0 [(0, .ref z), (1, .int (nI c0))] [] S 0 0
  refine r_aload_n (i := 0) (n := 1) C dX8_read_0 rfl rfl rfl ?_
  refine r_iload_n (i := 1) (n := 2) C dX8_read_1 rfl rfl rfl ?_
  refine kX8_147 (n := 5) C (m_isCl_y hst S z ad hm c0 hc hth) hm.1 (by decide) (by decide) (Nat.le_of_ble_eq_true rfl) dX8_read_2 rfl (fun r S1 hp => ?_)
  obtain ⟨hS, hr⟩ := hp
  subst S1
  subst r
  refine r_if_eqF (n := 8) (t := 21) C (by decide) dX8_read_5 (by decide) rfl ?_
  refine r_aload_n (i := 0) (n := 9) C dX8_read_8 rfl rfl rfl ?_
  refine hX8_17 (n := 12) C hm dX8_read_9 rfl ?_
  refine r_iload_n (i := 1) (n := 13) C dX8_read_12 rfl rfl rfl ?_
  refine q_zaldv (n := 14) (v := nI (0)) C (c0) (ly_803 hm) rfl (by omega) dX8_read_13 rfl hpl ?_
  refine r_if_neF (n := 17) (t := 21) C (ceq (a := 0) (b := 0) rfl rfl (by omega)) dX8_read_14 (by decide) rfl ?_
  refine r_iconst (v := 1) (n := 18) C dX8_read_17 rfl rfl ?_
  refine r_goto (t := 22) C dX8_read_18 (by decide) ?_
  refine r_istore_n (i := 2) (n := 23) C dX8_read_22 rfl (by decide) rfl rfl ?_
  refine r_aload_n (i := 0) (n := 24) C dX8_read_23 rfl rfl rfl ?_
  refine r_iload_n (i := 2) (n := 25) C dX8_read_24 rfl rfl rfl ?_
  refine r_if_neT (t := 32) C (cne (a := 1) (b := 0) rfl rfl (by omega) (by omega) (by omega)) dX8_read_25 (by decide) ?_
  refine r_aload_n (i := 0) (n := 33) C dX8_read_32 rfl rfl rfl ?_
  refine hX8_73 (n := 36) C hm dX8_read_33 rfl ?_
  refine r_iload_n (i := 1) (n := 37) C dX8_read_36 rfl rfl rfl ?_
  refine q_iald (n := 38) C (c0) (ly_821 hm) rfl (by omega) dX8_read_37 rfl ?_
  refine r_if_neT (t := 45) C (by rw [hrd]; exact nI_ne0 hrd0 (by omega)) dX8_read_38 (by decide) ?_
  refine r_iconst (v := 0) (n := 46) C dX8_read_45 rfl rfl ?_
  refine kX8_144 (n := 49) C (m_refused0 hst S z ad hm) hm.1 (by decide) (by decide) (Nat.le_of_ble_eq_true rfl) dX8_read_46 rfl (fun r S1 hp => ?_)
  obtain ⟨hS, hr⟩ := hp
  subst S1
  subst r
  refine r_if_eqT (t := 54) C rfl dX8_read_49 (by decide) ?_
  refine r_aload_n (i := 0) (n := 55) C dX8_read_54 rfl rfl rfl ?_
  refine hX8_76 (n := 58) C hm dX8_read_55 rfl ?_
  refine r_sipush (v := 12800) (n := 61) C dX8_read_58 rfl rfl ?_
  refine r_iload_n (i := 1) (n := 62) C dX8_read_61 rfl rfl rfl ?_
  refine r_imul (n := 63) C dX8_read_62 rfl ?_
  refine q_ialdv (n := 64) (v := nI (n)) C ((12800 * c0)) (ly_822 hm) (mul_nI (a := 12800) (b := c0) rfl rfl) (by omega) dX8_read_63 rfl hat ?_
  refine r_istore_n (i := 3) (n := 65) C dX8_read_64 rfl (by decide) rfl rfl ?_
  refine r_aload_n (i := 0) (n := 66) C dX8_read_65 rfl rfl rfl ?_
  refine r_iload_n (i := 1) (n := 67) C dX8_read_66 rfl rfl rfl ?_
  refine r_iload_n (i := 3) (n := 68) C dX8_read_67 rfl rfl rfl ?_
  refine r_ldc (n := 70) (v := 48000) C (mem_tb (mem_tbl 885 (by decide +kernel)) (by decide +kernel)) dX8_read_68 rfl ?_
  refine r_aload_n (i := 0) (n := 71) C dX8_read_70 rfl rfl rfl ?_
  refine hX8_20 (n := 74) C hm dX8_read_71 rfl ?_
  refine r_iload_n (i := 1) (n := 75) C dX8_read_74 rfl rfl rfl ?_
  refine q_ialdv (n := 76) (v := nI (rr)) C (c0) (ly_804 hm) rfl (by omega) dX8_read_75 rfl hrr ?_
  refine r_iconst (v := 0) (n := 77) C dX8_read_76 rfl rfl ?_
  refine kX8_188 (n := 80) C (m_between hst (uI S 800 z 0) z ad hm c0 h hc hh hb n 48000 rr hn (by omega) (by omega) (by have := rtN.le hr; omega) (rtN.le hr).1 (pl_le hn (by omega) (rtN.le hr).2) 0) hm.1 (by decide) (by decide) (Nat.le_of_ble_eq_true rfl) dX8_read_77 rfl (fun r S1 hp => ?_)
  obtain ⟨hS, hr⟩ := hp
  subst S1
  subst r
  refine r_istore (n := 82) C dX8_read_80 (by decide) rfl rfl ?_
  refine r_aload_n (i := 0) (n := 83) C dX8_read_82 rfl rfl rfl ?_
  refine r_iload_n (i := 1) (n := 84) C dX8_read_83 rfl rfl rfl ?_
  refine r_iload_n (i := 3) (n := 85) C dX8_read_84 rfl rfl rfl ?_
  refine r_ldc (n := 87) (v := 48000) C (mem_tb (mem_tbl 885 (by decide +kernel)) (by decide +kernel)) dX8_read_85 rfl ?_
  refine r_aload_n (i := 0) (n := 88) C dX8_read_87 rfl rfl rfl ?_
  refine hX8_20 (n := 91) C hm dX8_read_88 rfl ?_
  refine r_iload_n (i := 1) (n := 92) C dX8_read_91 rfl rfl rfl ?_
  refine q_ialdv (n := 93) (v := nI (rr)) C (c0) (ly_804 hm) rfl (by omega) dX8_read_92 rfl hrr ?_
  refine r_iconst (v := 1) (n := 94) C dX8_read_93 rfl rfl ?_
  refine kX8_188 (n := 97) C (m_between hst (uI S 800 z 0) z ad hm c0 h hc hh hb n 48000 rr hn (by omega) (by omega) (by have := rtN.le hr; omega) (rtN.le hr).1 (pl_le hn (by omega) (rtN.le hr).2) 1) hm.1 (by decide) (by decide) (Nat.le_of_ble_eq_true rfl) dX8_read_94 rfl (fun r S1 hp => ?_)
  obtain ⟨hS, hr⟩ := hp
  subst S1
  subst r
  refine r_istore (n := 99) C dX8_read_97 (by decide) rfl rfl ?_
  refine r_aload_n (i := 0) (n := 100) C dX8_read_99 rfl rfl rfl ?_
  refine hX8_23 (n := 103) C hm dX8_read_100 rfl ?_
  refine r_iload_n (i := 1) (n := 104) C dX8_read_103 rfl rfl rfl ?_
  refine q_iald (n := 105) C (c0) (ly_805 hm) rfl (by omega) dX8_read_104 rfl ?_
  refine r_iconst (v := 2) (n := 106) C dX8_read_105 rfl rfl ?_
  refine r_icmp_neF (n := 109) (t := 133) C hch dX8_read_106 (by decide) rfl ?_
  refine r_aload_n (i := 0) (n := 110) C dX8_read_109 rfl rfl rfl ?_
  refine hX8_48 (n := 113) C hm dX8_read_110 rfl ?_
  refine r_iload_n (i := 1) (n := 114) C dX8_read_113 rfl rfl rfl ?_
  refine q_zald (n := 115) C (c0) (ly_813 hm) rfl (by omega) dX8_read_114 rfl ?_
  refine r_if_neT (t := 133) C hhf dX8_read_115 (by decide) ?_
  refine r_aload_n (i := 0) (n := 134) C dX8_read_133 rfl rfl rfl ?_
  refine hX8_48 (n := 137) C hm dX8_read_134 rfl ?_
  refine r_iload_n (i := 1) (n := 138) C dX8_read_137 rfl rfl rfl ?_
  refine r_iconst (v := 0) (n := 139) C dX8_read_138 rfl rfl ?_
  refine q_zast (n := 140) C (c0) (ly_813 hm) rfl (by omega) (by first | assumption | rfl) dX8_read_139 rfl ?_
  refine r_aload_n (i := 0) (n := 141) C dX8_read_140 rfl rfl rfl ?_
  refine hX8_73 (n := 144) C hm dX8_read_141 rfl ?_
  refine r_iload_n (i := 1) (n := 145) C dX8_read_144 rfl rfl rfl ?_
  refine r_dup2_11 (n := 146) C dX8_read_145 rfl rfl rfl ?_
  refine q_ialdv (n := 147) (v := nI (rd)) C (c0) (ly_821 hm) rfl (by omega) dX8_read_146 rfl ((aI_wn (hm.ne2 821 813 (by decide) (by decide) (by decide))).trans hrd) ?_
  refine r_iconst (v := 1) (n := 148) C dX8_read_147 rfl rfl ?_
  refine r_isub (n := 149) C dX8_read_148 rfl ?_
  refine q_iast (n := 150) C (c0) (ly_821 hm) rfl (by omega) dX8_read_149 rfl ?_
  refine r_iconst (v := 0) (n := 151) C dX8_read_150 rfl rfl ?_
  refine r_istore (n := 153) C dX8_read_151 (by decide) rfl rfl ?_
  have loop : ∀ (q k : Nat), k + q = rd - 1 → J p l e rmX8_read s m args below meth c 7 G b (vx_MQ below (Qp G b mI (fun r S' => S' = mRd S z ad c0 rd ∧ r = mNum S ad c0 (flt (aI S (ad 801)) (gM S ad c0 h 1) n 48000 rr))) (XCp G b S (fun _ => False)) args s rmX8_read.cells rmX8_read.slots (Ab b)) 153 [(0, .ref z), (1, .int (nI c0)), (4, .int (flt (aI S (ad 801)) (gM S ad c0 h 0) n 48000 rr)), (5, .int (flt (aI S (ad 801)) (gM S ad c0 h 1) n 48000 rr)), (6, .int (nI k))] [] (wIs (wI (wI (uI S 800 z 0) (ad 813) c0 0) (ad 821) c0 (nI (rd - 1))) (ad 822) (shf (aI S (ad 822)) (12800 * c0) k)) 0 0 := by
    intro q
    induction q with
    | zero =>
      intro k hk
      obtain rfl : k = rd - 1 := by omega
      refine r_iload (n := 155) C dX8_read_153 rfl rfl ?_
      refine r_aload_n (i := 0) (n := 156) C dX8_read_155 rfl rfl rfl ?_
      refine hX8_73 (n := 159) C hm dX8_read_156 rfl ?_
      refine r_iload_n (i := 1) (n := 160) C dX8_read_159 rfl rfl rfl ?_
      refine q_ialdv (n := 161) (v := nI ((rd - 1))) C (c0) (ly_821 hm) rfl (by omega) dX8_read_160 rfl (by rw [show aI (wIs (wI (wI (uI S 800 z 0) (ad 813) c0 0) (ad 821) c0 (nI (rd - 1))) (ad 822) (shf (aI S (ad 822)) (12800 * c0) (rd - 1))) (ad 821) c0 = aI (wI (wI (uI S 800 z 0) (ad 813) c0 0) (ad 821) c0 (nI (rd - 1))) (ad 821) c0 from aI_wsn (hm.ne2 821 822 (by decide) (by decide) (by decide)), aI_wI, if_pos ⟨rfl, rfl⟩]) ?_
      refine r_icmp_geT (t := 198) C (cle (a := (rd - 1)) (b := (rd - 1)) rfl rfl (by omega) (by omega)) dX8_read_161 (by decide) ?_
      refine r_aload_n (i := 0) (n := 199) C dX8_read_198 rfl rfl rfl ?_
      refine hX8_79 (n := 202) C hm dX8_read_199 rfl ?_
      refine r_iload_n (i := 1) (n := 203) C dX8_read_202 rfl rfl rfl ?_
      refine r_dup2_11 (n := 204) C dX8_read_203 rfl rfl rfl ?_
      refine q_ialdv (n := 205) (v := aI S (ad 823) c0) C (c0) (ly_823 hm) rfl (by omega) dX8_read_204 rfl ((aI_wsn (hm.ne2 823 822 (by decide) (by decide) (by decide))).trans ((aI_wn (hm.ne2 823 821 (by decide) (by decide) (by decide))).trans (aI_wn (hm.ne2 823 813 (by decide) (by decide) (by decide))))) ?_
      refine r_iconst (v := 1) (n := 206) C dX8_read_205 rfl rfl ?_
      refine r_iadd (n := 207) C dX8_read_206 rfl ?_
      refine q_iast (n := 208) C (c0) (ly_823 hm) rfl (by omega) dX8_read_207 rfl ?_
      refine r_aload_n (i := 0) (n := 209) C dX8_read_208 rfl rfl rfl ?_
      refine r_iload_n (i := 1) (n := 210) C dX8_read_209 rfl rfl rfl ?_
      refine r_aload_n (i := 0) (n := 211) C dX8_read_210 rfl rfl rfl ?_
      refine hX8_23 (n := 214) C hm dX8_read_211 rfl ?_
      refine r_iload_n (i := 1) (n := 215) C dX8_read_214 rfl rfl rfl ?_
      refine q_iald (n := 216) C (c0) (ly_805 hm) rfl (by omega) dX8_read_215 rfl ?_
      refine r_iconst (v := 2) (n := 217) C dX8_read_216 rfl rfl ?_
      refine r_icmp_neF (n := 220) (t := 225) C (((aI_wn (hm.ne2 805 823 (by decide) (by decide) (by decide))).trans ((aI_wsn (hm.ne2 805 822 (by decide) (by decide) (by decide))).trans ((aI_wn (hm.ne2 805 821 (by decide) (by decide) (by decide))).trans (aI_wn (hm.ne2 805 813 (by decide) (by decide) (by decide)))))).trans hch) dX8_read_217 (by decide) rfl ?_
      refine r_iload (n := 222) C dX8_read_220 rfl rfl ?_
      refine r_goto (t := 234) C dX8_read_222 (by decide) ?_
      refine kX8_192 (n := 237) C (m_toNumber hst (wI (wIs (wI (wI (uI S 800 z 0) (ad 813) c0 0) (ad 821) c0 (nI (rd - 1))) (ad 822) (shf (aI S (ad 822)) (12800 * c0) (rd - 1))) (ad 823) c0 (aI S (ad 823) c0 + 1)) z ad hm c0 hc (flt (aI S (ad 801)) (gM S ad c0 h 1) n 48000 rr)) hm.1 (by decide) (by decide) (Nat.le_of_ble_eq_true rfl) dX8_read_234 rfl (fun r S1 hp => ?_)
      obtain ⟨hS, hr⟩ := hp
      subst S1
      subst r
      refine t_i C rfl dX8_read_237 (by decide) ?_
      refine ⟨by unfold mRd; rfl, ?_⟩
      unfold mNum
      rw [show aI (wI (wIs (wI (wI (uI S 800 z 0) (ad 813) c0 0) (ad 821) c0 (nI (rd - 1))) (ad 822) (shf (aI S (ad 822)) (12800 * c0) (rd - 1))) (ad 823) c0 (aI S (ad 823) c0 + 1)) (ad 806) c0 = aI S (ad 806) c0 from ((aI_wn (hm.ne2 806 823 (by decide) (by decide) (by decide))).trans ((aI_wsn (hm.ne2 806 822 (by decide) (by decide) (by decide))).trans ((aI_wn (hm.ne2 806 821 (by decide) (by decide) (by decide))).trans (aI_wn (hm.ne2 806 813 (by decide) (by decide) (by decide))))))]
    | succ q ih =>
      intro k hk
      refine r_iload (n := 155) C dX8_read_153 rfl rfl ?_
      refine r_aload_n (i := 0) (n := 156) C dX8_read_155 rfl rfl rfl ?_
      refine hX8_73 (n := 159) C hm dX8_read_156 rfl ?_
      refine r_iload_n (i := 1) (n := 160) C dX8_read_159 rfl rfl rfl ?_
      refine q_ialdv (n := 161) (v := nI ((rd - 1))) C (c0) (ly_821 hm) rfl (by omega) dX8_read_160 rfl (by rw [show aI (wIs (wI (wI (uI S 800 z 0) (ad 813) c0 0) (ad 821) c0 (nI (rd - 1))) (ad 822) (shf (aI S (ad 822)) (12800 * c0) k)) (ad 821) c0 = aI (wI (wI (uI S 800 z 0) (ad 813) c0 0) (ad 821) c0 (nI (rd - 1))) (ad 821) c0 from aI_wsn (hm.ne2 821 822 (by decide) (by decide) (by decide)), aI_wI, if_pos ⟨rfl, rfl⟩]) ?_
      refine r_icmp_geF (n := 164) (t := 198) C (cnle (a := (rd - 1)) (b := k) rfl rfl (by omega) (by omega)) dX8_read_161 (by decide) rfl ?_
      refine r_aload_n (i := 0) (n := 165) C dX8_read_164 rfl rfl rfl ?_
      refine hX8_76 (n := 168) C hm dX8_read_165 rfl ?_
      refine r_sipush (v := 12800) (n := 171) C dX8_read_168 rfl rfl ?_
      refine r_iload_n (i := 1) (n := 172) C dX8_read_171 rfl rfl rfl ?_
      refine r_imul (n := 173) C dX8_read_172 rfl ?_
      refine r_iload (n := 175) C dX8_read_173 rfl rfl ?_
      refine r_iadd (n := 176) C dX8_read_175 rfl ?_
      refine r_aload_n (i := 0) (n := 177) C dX8_read_176 rfl rfl rfl ?_
      refine hX8_76 (n := 180) C hm dX8_read_177 rfl ?_
      refine r_sipush (v := 12800) (n := 183) C dX8_read_180 rfl rfl ?_
      refine r_iload_n (i := 1) (n := 184) C dX8_read_183 rfl rfl rfl ?_
      refine r_imul (n := 185) C dX8_read_184 rfl ?_
      refine r_iload (n := 187) C dX8_read_185 rfl rfl ?_
      refine r_iadd (n := 188) C dX8_read_187 rfl ?_
      refine r_iconst (v := 1) (n := 189) C dX8_read_188 rfl rfl ?_
      refine r_iadd (n := 190) C dX8_read_189 rfl ?_
      refine q_iald (n := 191) C ((((12800 * c0) + k) + 1)) (ly_822 hm) (add_nI (a := ((12800 * c0) + k)) (b := 1) (add_nI (a := (12800 * c0)) (b := k) (mul_nI (a := 12800) (b := c0) rfl rfl) rfl) rfl) (by omega) dX8_read_190 rfl ?_
      refine q_iast (n := 192) C (((12800 * c0) + k)) (ly_822 hm) (add_nI (a := (12800 * c0)) (b := k) (mul_nI (a := 12800) (b := c0) rfl rfl) rfl) (by omega) dX8_read_191 rfl ?_
      refine r_iinc (n := 195) C dX8_read_192 rfl rfl (by decide) rfl rfl ?_
      refine r_goto (t := 153) C dX8_read_195 (by decide) ?_
      rw [show aI (wIs (wI (wI (uI S 800 z 0) (ad 813) c0 0) (ad 821) c0 (nI (rd - 1))) (ad 822) (shf (aI S (ad 822)) (12800 * c0) k)) (ad 822) (12800 * c0 + k + 1) = shf (aI S (ad 822)) (12800 * c0) k (12800 * c0 + k + 1) from if_pos rfl, wI_wIs, shf_s]
      exact J.to (by rw [show nI k + Int32.ofInt 1 = nI (k + 1) from nI_1 k]; rfl) (ih (k + 1) (by omega))
  have e0 : (wI (wI (uI S 800 z 0) (ad 813) c0 0) (ad 821) c0 (nI (rd - 1))) = wIs (wI (wI (uI S 800 z 0) (ad 813) c0 0) (ad 821) c0 (nI (rd - 1))) (ad 822) (shf (aI S (ad 822)) (12800 * c0) 0) := by
    refine (wIs_self _ (ad 822)).symm.trans (wIs_c (fun i => ?_))
    unfold shf
    rw [if_neg (by omega)]
    exact (aI_wn (hm.ne2 822 821 (by decide) (by decide) (by decide))).trans (aI_wn (hm.ne2 822 813 (by decide) (by decide) (by decide)))
  rw [show nI rd - 1 = nI (rd - 1) from sub_nI (b := 1) rfl rfl (by omega), e0]
  exact J.to rfl (loop (rd - 1) 0 (by omega))
set_option maxRecDepth 100000 in
set_option maxHeartbeats 1000000 in
theorem m_read_1 {l : Launch} {G : GG} {b : Nat} (hst : l.stackTraces = false) (S : Sw) (z : Nat) (ad : Nat → Nat) (hm : lay S z ad) (c0 : Nat) (hc : c0 < 6) (hth : ¬ aI S (ad 802) c0 = 0) (hpl : aI S (ad 803) c0 = 0) (rd n rr h : Nat) (hrd : aI S (ad 821) c0 = nI rd) (hrd0 : 0 < rd) (hrd2 : rd ≤ 200) (hat : aI S (ad 822) (12800 * c0) = nI n) (hn : n < 2 ^ 20) (hrr : aI S (ad 804) c0 = nI rr) (hr : rtN rr) (hh : aI S (ad 810) c0 = nI h) (hb : h ≤ 12800) (hch : ¬ aI S (ad 805) c0 = 2) : Ct l G b yX8_read cX8_read 7 (some .int) rmX8_read mI [.ref z, .int (nI c0)] S (fun r S' => S' = mRd S z ad c0 rd ∧ r = mNum S ad c0 (mDnI ((flt (aI S (ad 801)) (gM S ad c0 h 0) n 48000 rr) + (flt (aI S (ad 801)) (gM S ad c0 h 1) n 48000 rr)) 2)) := by
  refine Ct.of2 pnX8 (own := RX8) rfl (Nat.le_of_ble_eq_true rfl) hst ?_
  intro p e s m args below meth c C hname
  change J p l e rmX8_read s m args below meth c 7 G b _ 0 [(0, .ref z), (1, .int (nI c0))] [] S 0 0
  refine r_aload_n (i := 0) (n := 1) C dX8_read_0 rfl rfl rfl ?_
  refine r_iload_n (i := 1) (n := 2) C dX8_read_1 rfl rfl rfl ?_
  refine kX8_147 (n := 5) C (m_isCl_y hst S z ad hm c0 hc hth) hm.1 (by decide) (by decide) (Nat.le_of_ble_eq_true rfl) dX8_read_2 rfl (fun r S1 hp => ?_)
  obtain ⟨hS, hr⟩ := hp
  subst S1
  subst r
  refine r_if_eqF (n := 8) (t := 21) C (by decide) dX8_read_5 (by decide) rfl ?_
  refine r_aload_n (i := 0) (n := 9) C dX8_read_8 rfl rfl rfl ?_
  refine hX8_17 (n := 12) C hm dX8_read_9 rfl ?_
  refine r_iload_n (i := 1) (n := 13) C dX8_read_12 rfl rfl rfl ?_
  refine q_zaldv (n := 14) (v := nI (0)) C (c0) (ly_803 hm) rfl (by omega) dX8_read_13 rfl hpl ?_
  refine r_if_neF (n := 17) (t := 21) C (ceq (a := 0) (b := 0) rfl rfl (by omega)) dX8_read_14 (by decide) rfl ?_
  refine r_iconst (v := 1) (n := 18) C dX8_read_17 rfl rfl ?_
  refine r_goto (t := 22) C dX8_read_18 (by decide) ?_
  refine r_istore_n (i := 2) (n := 23) C dX8_read_22 rfl (by decide) rfl rfl ?_
  refine r_aload_n (i := 0) (n := 24) C dX8_read_23 rfl rfl rfl ?_
  refine r_iload_n (i := 2) (n := 25) C dX8_read_24 rfl rfl rfl ?_
  refine r_if_neT (t := 32) C (cne (a := 1) (b := 0) rfl rfl (by omega) (by omega) (by omega)) dX8_read_25 (by decide) ?_
  refine r_aload_n (i := 0) (n := 33) C dX8_read_32 rfl rfl rfl ?_
  refine hX8_73 (n := 36) C hm dX8_read_33 rfl ?_
  refine r_iload_n (i := 1) (n := 37) C dX8_read_36 rfl rfl rfl ?_
  refine q_iald (n := 38) C (c0) (ly_821 hm) rfl (by omega) dX8_read_37 rfl ?_
  refine r_if_neT (t := 45) C (by rw [hrd]; exact nI_ne0 hrd0 (by omega)) dX8_read_38 (by decide) ?_
  refine r_iconst (v := 0) (n := 46) C dX8_read_45 rfl rfl ?_
  refine kX8_144 (n := 49) C (m_refused0 hst S z ad hm) hm.1 (by decide) (by decide) (Nat.le_of_ble_eq_true rfl) dX8_read_46 rfl (fun r S1 hp => ?_)
  obtain ⟨hS, hr⟩ := hp
  subst S1
  subst r
  refine r_if_eqT (t := 54) C rfl dX8_read_49 (by decide) ?_
  refine r_aload_n (i := 0) (n := 55) C dX8_read_54 rfl rfl rfl ?_
  refine hX8_76 (n := 58) C hm dX8_read_55 rfl ?_
  refine r_sipush (v := 12800) (n := 61) C dX8_read_58 rfl rfl ?_
  refine r_iload_n (i := 1) (n := 62) C dX8_read_61 rfl rfl rfl ?_
  refine r_imul (n := 63) C dX8_read_62 rfl ?_
  refine q_ialdv (n := 64) (v := nI (n)) C ((12800 * c0)) (ly_822 hm) (mul_nI (a := 12800) (b := c0) rfl rfl) (by omega) dX8_read_63 rfl hat ?_
  refine r_istore_n (i := 3) (n := 65) C dX8_read_64 rfl (by decide) rfl rfl ?_
  refine r_aload_n (i := 0) (n := 66) C dX8_read_65 rfl rfl rfl ?_
  refine r_iload_n (i := 1) (n := 67) C dX8_read_66 rfl rfl rfl ?_
  refine r_iload_n (i := 3) (n := 68) C dX8_read_67 rfl rfl rfl ?_
  refine r_ldc (n := 70) (v := 48000) C (mem_tb (mem_tbl 885 (by decide +kernel)) (by decide +kernel)) dX8_read_68 rfl ?_
  refine r_aload_n (i := 0) (n := 71) C dX8_read_70 rfl rfl rfl ?_
  refine hX8_20 (n := 74) C hm dX8_read_71 rfl ?_
  refine r_iload_n (i := 1) (n := 75) C dX8_read_74 rfl rfl rfl ?_
  refine q_ialdv (n := 76) (v := nI (rr)) C (c0) (ly_804 hm) rfl (by omega) dX8_read_75 rfl hrr ?_
  refine r_iconst (v := 0) (n := 77) C dX8_read_76 rfl rfl ?_
  refine kX8_188 (n := 80) C (m_between hst (uI S 800 z 0) z ad hm c0 h hc hh hb n 48000 rr hn (by omega) (by omega) (by have := rtN.le hr; omega) (rtN.le hr).1 (pl_le hn (by omega) (rtN.le hr).2) 0) hm.1 (by decide) (by decide) (Nat.le_of_ble_eq_true rfl) dX8_read_77 rfl (fun r S1 hp => ?_)
  obtain ⟨hS, hr⟩ := hp
  subst S1
  subst r
  refine r_istore (n := 82) C dX8_read_80 (by decide) rfl rfl ?_
  refine r_aload_n (i := 0) (n := 83) C dX8_read_82 rfl rfl rfl ?_
  refine r_iload_n (i := 1) (n := 84) C dX8_read_83 rfl rfl rfl ?_
  refine r_iload_n (i := 3) (n := 85) C dX8_read_84 rfl rfl rfl ?_
  refine r_ldc (n := 87) (v := 48000) C (mem_tb (mem_tbl 885 (by decide +kernel)) (by decide +kernel)) dX8_read_85 rfl ?_
  refine r_aload_n (i := 0) (n := 88) C dX8_read_87 rfl rfl rfl ?_
  refine hX8_20 (n := 91) C hm dX8_read_88 rfl ?_
  refine r_iload_n (i := 1) (n := 92) C dX8_read_91 rfl rfl rfl ?_
  refine q_ialdv (n := 93) (v := nI (rr)) C (c0) (ly_804 hm) rfl (by omega) dX8_read_92 rfl hrr ?_
  refine r_iconst (v := 1) (n := 94) C dX8_read_93 rfl rfl ?_
  refine kX8_188 (n := 97) C (m_between hst (uI S 800 z 0) z ad hm c0 h hc hh hb n 48000 rr hn (by omega) (by omega) (by have := rtN.le hr; omega) (rtN.le hr).1 (pl_le hn (by omega) (rtN.le hr).2) 1) hm.1 (by decide) (by decide) (Nat.le_of_ble_eq_true rfl) dX8_read_94 rfl (fun r S1 hp => ?_)
  obtain ⟨hS, hr⟩ := hp
  subst S1
  subst r
  refine r_istore (n := 99) C dX8_read_97 (by decide) rfl rfl ?_
  refine r_aload_n (i := 0) (n := 100) C dX8_read_99 rfl rfl rfl ?_
  refine hX8_23 (n := 103) C hm dX8_read_100 rfl ?_
  refine r_iload_n (i := 1) (n := 104) C dX8_read_103 rfl rfl rfl ?_
  refine q_iald (n := 105) C (c0) (ly_805 hm) rfl (by omega) dX8_read_104 rfl ?_
  refine r_iconst (v := 2) (n := 106) C dX8_read_105 rfl rfl ?_
  refine r_icmp_neT (t := 133) C hch dX8_read_106 (by decide) ?_
  refine r_aload_n (i := 0) (n := 134) C dX8_read_133 rfl rfl rfl ?_
  refine hX8_48 (n := 137) C hm dX8_read_134 rfl ?_
  refine r_iload_n (i := 1) (n := 138) C dX8_read_137 rfl rfl rfl ?_
  refine r_iconst (v := 0) (n := 139) C dX8_read_138 rfl rfl ?_
  refine q_zast (n := 140) C (c0) (ly_813 hm) rfl (by omega) (by first | assumption | rfl) dX8_read_139 rfl ?_
  refine r_aload_n (i := 0) (n := 141) C dX8_read_140 rfl rfl rfl ?_
  refine hX8_73 (n := 144) C hm dX8_read_141 rfl ?_
  refine r_iload_n (i := 1) (n := 145) C dX8_read_144 rfl rfl rfl ?_
  refine r_dup2_11 (n := 146) C dX8_read_145 rfl rfl rfl ?_
  refine q_ialdv (n := 147) (v := nI (rd)) C (c0) (ly_821 hm) rfl (by omega) dX8_read_146 rfl ((aI_wn (hm.ne2 821 813 (by decide) (by decide) (by decide))).trans hrd) ?_
  refine r_iconst (v := 1) (n := 148) C dX8_read_147 rfl rfl ?_
  refine r_isub (n := 149) C dX8_read_148 rfl ?_
  refine q_iast (n := 150) C (c0) (ly_821 hm) rfl (by omega) dX8_read_149 rfl ?_
  refine r_iconst (v := 0) (n := 151) C dX8_read_150 rfl rfl ?_
  refine r_istore (n := 153) C dX8_read_151 (by decide) rfl rfl ?_
  have loop : ∀ (q k : Nat), k + q = rd - 1 → J p l e rmX8_read s m args below meth c 7 G b (vx_MQ below (Qp G b mI (fun r S' => S' = mRd S z ad c0 rd ∧ r = mNum S ad c0 (mDnI ((flt (aI S (ad 801)) (gM S ad c0 h 0) n 48000 rr) + (flt (aI S (ad 801)) (gM S ad c0 h 1) n 48000 rr)) 2))) (XCp G b S (fun _ => False)) args s rmX8_read.cells rmX8_read.slots (Ab b)) 153 [(0, .ref z), (1, .int (nI c0)), (4, .int (flt (aI S (ad 801)) (gM S ad c0 h 0) n 48000 rr)), (5, .int (flt (aI S (ad 801)) (gM S ad c0 h 1) n 48000 rr)), (6, .int (nI k))] [] (wIs (wI (wI (uI S 800 z 0) (ad 813) c0 0) (ad 821) c0 (nI (rd - 1))) (ad 822) (shf (aI S (ad 822)) (12800 * c0) k)) 0 0 := by
    intro q
    induction q with
    | zero =>
      intro k hk
      obtain rfl : k = rd - 1 := by omega
      refine r_iload (n := 155) C dX8_read_153 rfl rfl ?_
      refine r_aload_n (i := 0) (n := 156) C dX8_read_155 rfl rfl rfl ?_
      refine hX8_73 (n := 159) C hm dX8_read_156 rfl ?_
      refine r_iload_n (i := 1) (n := 160) C dX8_read_159 rfl rfl rfl ?_
      refine q_ialdv (n := 161) (v := nI ((rd - 1))) C (c0) (ly_821 hm) rfl (by omega) dX8_read_160 rfl (by rw [show aI (wIs (wI (wI (uI S 800 z 0) (ad 813) c0 0) (ad 821) c0 (nI (rd - 1))) (ad 822) (shf (aI S (ad 822)) (12800 * c0) (rd - 1))) (ad 821) c0 = aI (wI (wI (uI S 800 z 0) (ad 813) c0 0) (ad 821) c0 (nI (rd - 1))) (ad 821) c0 from aI_wsn (hm.ne2 821 822 (by decide) (by decide) (by decide)), aI_wI, if_pos ⟨rfl, rfl⟩]) ?_
      refine r_icmp_geT (t := 198) C (cle (a := (rd - 1)) (b := (rd - 1)) rfl rfl (by omega) (by omega)) dX8_read_161 (by decide) ?_
      refine r_aload_n (i := 0) (n := 199) C dX8_read_198 rfl rfl rfl ?_
      refine hX8_79 (n := 202) C hm dX8_read_199 rfl ?_
      refine r_iload_n (i := 1) (n := 203) C dX8_read_202 rfl rfl rfl ?_
      refine r_dup2_11 (n := 204) C dX8_read_203 rfl rfl rfl ?_
      refine q_ialdv (n := 205) (v := aI S (ad 823) c0) C (c0) (ly_823 hm) rfl (by omega) dX8_read_204 rfl ((aI_wsn (hm.ne2 823 822 (by decide) (by decide) (by decide))).trans ((aI_wn (hm.ne2 823 821 (by decide) (by decide) (by decide))).trans (aI_wn (hm.ne2 823 813 (by decide) (by decide) (by decide))))) ?_
      refine r_iconst (v := 1) (n := 206) C dX8_read_205 rfl rfl ?_
      refine r_iadd (n := 207) C dX8_read_206 rfl ?_
      refine q_iast (n := 208) C (c0) (ly_823 hm) rfl (by omega) dX8_read_207 rfl ?_
      refine r_aload_n (i := 0) (n := 209) C dX8_read_208 rfl rfl rfl ?_
      refine r_iload_n (i := 1) (n := 210) C dX8_read_209 rfl rfl rfl ?_
      refine r_aload_n (i := 0) (n := 211) C dX8_read_210 rfl rfl rfl ?_
      refine hX8_23 (n := 214) C hm dX8_read_211 rfl ?_
      refine r_iload_n (i := 1) (n := 215) C dX8_read_214 rfl rfl rfl ?_
      refine q_iald (n := 216) C (c0) (ly_805 hm) rfl (by omega) dX8_read_215 rfl ?_
      refine r_iconst (v := 2) (n := 217) C dX8_read_216 rfl rfl ?_
      refine r_icmp_neT (t := 225) C (fun q => hch (((aI_wn (hm.ne2 805 823 (by decide) (by decide) (by decide))).trans ((aI_wsn (hm.ne2 805 822 (by decide) (by decide) (by decide))).trans ((aI_wn (hm.ne2 805 821 (by decide) (by decide) (by decide))).trans (aI_wn (hm.ne2 805 813 (by decide) (by decide) (by decide)))))).symm.trans q)) dX8_read_217 (by decide) ?_
      refine r_iload (n := 227) C dX8_read_225 rfl rfl ?_
      refine r_iload (n := 229) C dX8_read_227 rfl rfl ?_
      refine r_iadd (n := 230) C dX8_read_229 rfl ?_
      refine r_iconst (v := 2) (n := 231) C dX8_read_230 rfl rfl ?_
      refine kX8_185 (n := 234) C (m_downBy hst (wI (wIs (wI (wI (uI S 800 z 0) (ad 813) c0 0) (ad 821) c0 (nI (rd - 1))) (ad 822) (shf (aI S (ad 822)) (12800 * c0) (rd - 1))) (ad 823) c0 (aI S (ad 823) c0 + 1)) ((flt (aI S (ad 801)) (gM S ad c0 h 0) n 48000 rr) + (flt (aI S (ad 801)) (gM S ad c0 h 1) n 48000 rr)) 2 (by decide)) (by decide) (by decide) (Nat.le_of_ble_eq_true rfl) dX8_read_231 rfl (fun r S1 hp => ?_)
      obtain ⟨hS, hr⟩ := hp
      subst S1
      subst r
      refine kX8_192 (n := 237) C (m_toNumber hst (wI (wIs (wI (wI (uI S 800 z 0) (ad 813) c0 0) (ad 821) c0 (nI (rd - 1))) (ad 822) (shf (aI S (ad 822)) (12800 * c0) (rd - 1))) (ad 823) c0 (aI S (ad 823) c0 + 1)) z ad hm c0 hc (mDnI ((flt (aI S (ad 801)) (gM S ad c0 h 0) n 48000 rr) + (flt (aI S (ad 801)) (gM S ad c0 h 1) n 48000 rr)) 2)) hm.1 (by decide) (by decide) (Nat.le_of_ble_eq_true rfl) dX8_read_234 rfl (fun r S1 hp => ?_)
      obtain ⟨hS, hr⟩ := hp
      subst S1
      subst r
      refine t_i C rfl dX8_read_237 (by decide) ?_
      refine ⟨by unfold mRd; rfl, ?_⟩
      unfold mNum
      rw [show aI (wI (wIs (wI (wI (uI S 800 z 0) (ad 813) c0 0) (ad 821) c0 (nI (rd - 1))) (ad 822) (shf (aI S (ad 822)) (12800 * c0) (rd - 1))) (ad 823) c0 (aI S (ad 823) c0 + 1)) (ad 806) c0 = aI S (ad 806) c0 from ((aI_wn (hm.ne2 806 823 (by decide) (by decide) (by decide))).trans ((aI_wsn (hm.ne2 806 822 (by decide) (by decide) (by decide))).trans ((aI_wn (hm.ne2 806 821 (by decide) (by decide) (by decide))).trans (aI_wn (hm.ne2 806 813 (by decide) (by decide) (by decide))))))]
    | succ q ih =>
      intro k hk
      refine r_iload (n := 155) C dX8_read_153 rfl rfl ?_
      refine r_aload_n (i := 0) (n := 156) C dX8_read_155 rfl rfl rfl ?_
      refine hX8_73 (n := 159) C hm dX8_read_156 rfl ?_
      refine r_iload_n (i := 1) (n := 160) C dX8_read_159 rfl rfl rfl ?_
      refine q_ialdv (n := 161) (v := nI ((rd - 1))) C (c0) (ly_821 hm) rfl (by omega) dX8_read_160 rfl (by rw [show aI (wIs (wI (wI (uI S 800 z 0) (ad 813) c0 0) (ad 821) c0 (nI (rd - 1))) (ad 822) (shf (aI S (ad 822)) (12800 * c0) k)) (ad 821) c0 = aI (wI (wI (uI S 800 z 0) (ad 813) c0 0) (ad 821) c0 (nI (rd - 1))) (ad 821) c0 from aI_wsn (hm.ne2 821 822 (by decide) (by decide) (by decide)), aI_wI, if_pos ⟨rfl, rfl⟩]) ?_
      refine r_icmp_geF (n := 164) (t := 198) C (cnle (a := (rd - 1)) (b := k) rfl rfl (by omega) (by omega)) dX8_read_161 (by decide) rfl ?_
      refine r_aload_n (i := 0) (n := 165) C dX8_read_164 rfl rfl rfl ?_
      refine hX8_76 (n := 168) C hm dX8_read_165 rfl ?_
      refine r_sipush (v := 12800) (n := 171) C dX8_read_168 rfl rfl ?_
      refine r_iload_n (i := 1) (n := 172) C dX8_read_171 rfl rfl rfl ?_
      refine r_imul (n := 173) C dX8_read_172 rfl ?_
      refine r_iload (n := 175) C dX8_read_173 rfl rfl ?_
      refine r_iadd (n := 176) C dX8_read_175 rfl ?_
      refine r_aload_n (i := 0) (n := 177) C dX8_read_176 rfl rfl rfl ?_
      refine hX8_76 (n := 180) C hm dX8_read_177 rfl ?_
      refine r_sipush (v := 12800) (n := 183) C dX8_read_180 rfl rfl ?_
      refine r_iload_n (i := 1) (n := 184) C dX8_read_183 rfl rfl rfl ?_
      refine r_imul (n := 185) C dX8_read_184 rfl ?_
      refine r_iload (n := 187) C dX8_read_185 rfl rfl ?_
      refine r_iadd (n := 188) C dX8_read_187 rfl ?_
      refine r_iconst (v := 1) (n := 189) C dX8_read_188 rfl rfl ?_
      refine r_iadd (n := 190) C dX8_read_189 rfl ?_
      refine q_iald (n := 191) C ((((12800 * c0) + k) + 1)) (ly_822 hm) (add_nI (a := ((12800 * c0) + k)) (b := 1) (add_nI (a := (12800 * c0)) (b := k) (mul_nI (a := 12800) (b := c0) rfl rfl) rfl) rfl) (by omega) dX8_read_190 rfl ?_
      refine q_iast (n := 192) C (((12800 * c0) + k)) (ly_822 hm) (add_nI (a := (12800 * c0)) (b := k) (mul_nI (a := 12800) (b := c0) rfl rfl) rfl) (by omega) dX8_read_191 rfl ?_
      refine r_iinc (n := 195) C dX8_read_192 rfl rfl (by decide) rfl rfl ?_
      refine r_goto (t := 153) C dX8_read_195 (by decide) ?_
      rw [show aI (wIs (wI (wI (uI S 800 z 0) (ad 813) c0 0) (ad 821) c0 (nI (rd - 1))) (ad 822) (shf (aI S (ad 822)) (12800 * c0) k)) (ad 822) (12800 * c0 + k + 1) = shf (aI S (ad 822)) (12800 * c0) k (12800 * c0 + k + 1) from if_pos rfl, wI_wIs, shf_s]
      exact J.to (by rw [show nI k + Int32.ofInt 1 = nI (k + 1) from nI_1 k]; rfl) (ih (k + 1) (by omega))
  have e0 : (wI (wI (uI S 800 z 0) (ad 813) c0 0) (ad 821) c0 (nI (rd - 1))) = wIs (wI (wI (uI S 800 z 0) (ad 813) c0 0) (ad 821) c0 (nI (rd - 1))) (ad 822) (shf (aI S (ad 822)) (12800 * c0) 0) := by
    refine (wIs_self _ (ad 822)).symm.trans (wIs_c (fun i => ?_))
    unfold shf
    rw [if_neg (by omega)]
    exact (aI_wn (hm.ne2 822 821 (by decide) (by decide) (by decide))).trans (aI_wn (hm.ne2 822 813 (by decide) (by decide) (by decide)))
  rw [show nI rd - 1 = nI (rd - 1) from sub_nI (b := 1) rfl rfl (by omega), e0]
  exact J.to rfl (loop (rd - 1) 0 (by omega))
