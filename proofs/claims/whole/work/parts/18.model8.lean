set_option maxRecDepth 100000 in
set_option maxHeartbeats 1000000 in
theorem m_state_n {l : Launch} {G : GG} {b : Nat} (hst : l.stackTraces = false) (S : Sw) (z : Nat) (ad : Nat → Nat) (hm : lay S z ad) (c0 : Int32) (hno_ : ¬ isCl S ad c0) : Ct l G b yX8_state cX8_state 2 (some .int) rmX8_state mI [.ref z, .int c0] S (fun r S' => S' = uI S 800 z 1 ∧ r = 0) := by
  refine Ct.of2 pnX8 (own := RX8) rfl (Nat.le_of_ble_eq_true rfl) hst ?_
  intro p e s m args below meth c C hname
  change J p l e rmX8_state s m args below meth c 2 G b _ 0 [(0, .ref z), (1, .int c0)] [] S 0 0
  refine r_aload_n (i := 0) (n := 1) C dX8_state_0 rfl rfl rfl ?_
  refine r_aload_n (i := 0) (n := 2) C dX8_state_1 rfl rfl rfl ?_
  refine r_iload_n (i := 1) (n := 3) C dX8_state_2 rfl rfl rfl ?_
  refine kX8_147 (n := 6) C (m_isCl_n hst S z ad hm c0 hno_) hm.1 (by decide) (by decide) (Nat.le_of_ble_eq_true rfl) dX8_state_3 rfl (fun r S1 hp => ?_)
  obtain ⟨hS, hr⟩ := hp
  subst S1
  subst r
  refine r_if_eqT (t := 13) C rfl dX8_state_6 (by decide) ?_
  refine r_iconst (v := 1) (n := 14) C dX8_state_13 rfl rfl ?_
  refine kX8_144 (n := 17) C (m_refused1 hst S z ad hm) hm.1 (by decide) (by decide) (Nat.le_of_ble_eq_true rfl) dX8_state_14 rfl (fun r S1 hp => ?_)
  obtain ⟨hS, hr⟩ := hp
  subst S1
  subst r
  refine r_if_eqF (n := 20) (t := 24) C (by decide) dX8_state_17 (by decide) rfl ?_
  refine r_iconst (v := 0) (n := 21) C dX8_state_20 rfl rfl ?_
  refine r_goto (t := 30) C dX8_state_21 (by decide) ?_
  refine t_i C rfl dX8_state_30 (by decide) ?_
  exact ⟨rfl, rfl⟩
set_option maxRecDepth 100000 in
set_option maxHeartbeats 1000000 in
theorem m_state_y {l : Launch} {G : GG} {b : Nat} (hst : l.stackTraces = false) (S : Sw) (z : Nat) (ad : Nat → Nat) (hm : lay S z ad) (c0 : Nat) (hc : c0 < 6) (hth : ¬ aI S (ad 802) c0 = 0) : Ct l G b yX8_state cX8_state 2 (some .int) rmX8_state mI [.ref z, .int (nI c0)] S (fun r S' => S' = uI S 800 z 0 ∧ r = aI S (ad 808) c0) := by
  refine Ct.of2 pnX8 (own := RX8) rfl (Nat.le_of_ble_eq_true rfl) hst ?_
  intro p e s m args below meth c C hname
  change J p l e rmX8_state s m args below meth c 2 G b _ 0 [(0, .ref z), (1, .int (nI c0))] [] S 0 0
  refine r_aload_n (i := 0) (n := 1) C dX8_state_0 rfl rfl rfl ?_
  refine r_aload_n (i := 0) (n := 2) C dX8_state_1 rfl rfl rfl ?_
  refine r_iload_n (i := 1) (n := 3) C dX8_state_2 rfl rfl rfl ?_
  refine kX8_147 (n := 6) C (m_isCl_y hst S z ad hm c0 hc hth) hm.1 (by decide) (by decide) (Nat.le_of_ble_eq_true rfl) dX8_state_3 rfl (fun r S1 hp => ?_)
  obtain ⟨hS, hr⟩ := hp
  subst S1
  subst r
  refine r_if_eqF (n := 9) (t := 13) C (by decide) dX8_state_6 (by decide) rfl ?_
  refine r_iconst (v := 0) (n := 10) C dX8_state_9 rfl rfl ?_
  refine r_goto (t := 14) C dX8_state_10 (by decide) ?_
  refine kX8_144 (n := 17) C (m_refused0 hst S z ad hm) hm.1 (by decide) (by decide) (Nat.le_of_ble_eq_true rfl) dX8_state_14 rfl (fun r S1 hp => ?_)
  obtain ⟨hS, hr⟩ := hp
  subst S1
  subst r
  refine r_if_eqT (t := 24) C rfl dX8_state_17 (by decide) ?_
  refine r_aload_n (i := 0) (n := 25) C dX8_state_24 rfl rfl rfl ?_
  refine hX8_32 (n := 28) C hm dX8_state_25 rfl ?_
  refine r_iload_n (i := 1) (n := 29) C dX8_state_28 rfl rfl rfl ?_
  refine q_iald (n := 30) C (c0) (ly_808 hm) rfl (by omega) dX8_state_29 rfl ?_
  refine t_i C rfl dX8_state_30 (by decide) ?_
  exact ⟨rfl, rfl⟩
set_option maxRecDepth 100000 in
set_option maxHeartbeats 1000000 in
theorem m_late_n {l : Launch} {G : GG} {b : Nat} (hst : l.stackTraces = false) (S : Sw) (z : Nat) (ad : Nat → Nat) (hm : lay S z ad) (c0 : Int32) (hno_ : ¬ isCl S ad c0) : Ct l G b yX8_late cX8_late 2 (some .int) rmX8_late mI [.ref z, .int c0] S (fun r S' => S' = uI S 800 z 1 ∧ r = 0) := by
  refine Ct.of2 pnX8 (own := RX8) rfl (Nat.le_of_ble_eq_true rfl) hst ?_
  intro p e s m args below meth c C hname
  change J p l e rmX8_late s m args below meth c 2 G b _ 0 [(0, .ref z), (1, .int c0)] [] S 0 0
  refine r_aload_n (i := 0) (n := 1) C dX8_late_0 rfl rfl rfl ?_
  refine r_aload_n (i := 0) (n := 2) C dX8_late_1 rfl rfl rfl ?_
  refine r_iload_n (i := 1) (n := 3) C dX8_late_2 rfl rfl rfl ?_
  refine kX8_147 (n := 6) C (m_isCl_n hst S z ad hm c0 hno_) hm.1 (by decide) (by decide) (Nat.le_of_ble_eq_true rfl) dX8_late_3 rfl (fun r S1 hp => ?_)
  obtain ⟨hS, hr⟩ := hp
  subst S1
  subst r
  refine r_if_eqT (t := 13) C rfl dX8_late_6 (by decide) ?_
  refine r_iconst (v := 1) (n := 14) C dX8_late_13 rfl rfl ?_
  refine kX8_144 (n := 17) C (m_refused1 hst S z ad hm) hm.1 (by decide) (by decide) (Nat.le_of_ble_eq_true rfl) dX8_late_14 rfl (fun r S1 hp => ?_)
  obtain ⟨hS, hr⟩ := hp
  subst S1
  subst r
  refine r_if_eqF (n := 20) (t := 24) C (by decide) dX8_late_17 (by decide) rfl ?_
  refine r_iconst (v := 0) (n := 21) C dX8_late_20 rfl rfl ?_
  refine r_goto (t := 30) C dX8_late_21 (by decide) ?_
  refine t_i C rfl dX8_late_30 (by decide) ?_
  exact ⟨rfl, rfl⟩
set_option maxRecDepth 100000 in
set_option maxHeartbeats 1000000 in
theorem m_late_y {l : Launch} {G : GG} {b : Nat} (hst : l.stackTraces = false) (S : Sw) (z : Nat) (ad : Nat → Nat) (hm : lay S z ad) (c0 : Nat) (hc : c0 < 6) (hth : ¬ aI S (ad 802) c0 = 0) : Ct l G b yX8_late cX8_late 2 (some .int) rmX8_late mI [.ref z, .int (nI c0)] S (fun r S' => S' = uI S 800 z 0 ∧ r = aI S (ad 809) c0) := by
  refine Ct.of2 pnX8 (own := RX8) rfl (Nat.le_of_ble_eq_true rfl) hst ?_
  intro p e s m args below meth c C hname
  change J p l e rmX8_late s m args below meth c 2 G b _ 0 [(0, .ref z), (1, .int (nI c0))] [] S 0 0
  refine r_aload_n (i := 0) (n := 1) C dX8_late_0 rfl rfl rfl ?_
  refine r_aload_n (i := 0) (n := 2) C dX8_late_1 rfl rfl rfl ?_
  refine r_iload_n (i := 1) (n := 3) C dX8_late_2 rfl rfl rfl ?_
  refine kX8_147 (n := 6) C (m_isCl_y hst S z ad hm c0 hc hth) hm.1 (by decide) (by decide) (Nat.le_of_ble_eq_true rfl) dX8_late_3 rfl (fun r S1 hp => ?_)
  obtain ⟨hS, hr⟩ := hp
  subst S1
  subst r
  refine r_if_eqF (n := 9) (t := 13) C (by decide) dX8_late_6 (by decide) rfl ?_
  refine r_iconst (v := 0) (n := 10) C dX8_late_9 rfl rfl ?_
  refine r_goto (t := 14) C dX8_late_10 (by decide) ?_
  refine kX8_144 (n := 17) C (m_refused0 hst S z ad hm) hm.1 (by decide) (by decide) (Nat.le_of_ble_eq_true rfl) dX8_late_14 rfl (fun r S1 hp => ?_)
  obtain ⟨hS, hr⟩ := hp
  subst S1
  subst r
  refine r_if_eqT (t := 24) C rfl dX8_late_17 (by decide) ?_
  refine r_aload_n (i := 0) (n := 25) C dX8_late_24 rfl rfl rfl ?_
  refine hX8_35 (n := 28) C hm dX8_late_25 rfl ?_
  refine r_iload_n (i := 1) (n := 29) C dX8_late_28 rfl rfl rfl ?_
  refine q_iald (n := 30) C (c0) (ly_809 hm) rfl (by omega) dX8_late_29 rfl ?_
  refine t_i C rfl dX8_late_30 (by decide) ?_
  exact ⟨rfl, rfl⟩
set_option maxRecDepth 100000 in
set_option maxHeartbeats 1000000 in
theorem m_position_n {l : Launch} {G : GG} {b : Nat} (hst : l.stackTraces = false) (S : Sw) (z : Nat) (ad : Nat → Nat) (hm : lay S z ad) (c0 : Int32) (hno_ : ¬ isCl S ad c0) : Ct l G b yX8_position cX8_position 2 (some .int) rmX8_position mI [.ref z, .int c0] S (fun r S' => S' = uI S 800 z 1 ∧ r = 0) := by
  refine Ct.of2 pnX8 (own := RX8) rfl (Nat.le_of_ble_eq_true rfl) hst ?_
  intro p e s m args below meth c C hname
  change J p l e rmX8_position s m args below meth c 2 G b _ 0 [(0, .ref z), (1, .int c0)] [] S 0 0
  refine r_aload_n (i := 0) (n := 1) C dX8_position_0 rfl rfl rfl ?_
  refine r_aload_n (i := 0) (n := 2) C dX8_position_1 rfl rfl rfl ?_
  refine r_iload_n (i := 1) (n := 3) C dX8_position_2 rfl rfl rfl ?_
  refine kX8_147 (n := 6) C (m_isCl_n hst S z ad hm c0 hno_) hm.1 (by decide) (by decide) (Nat.le_of_ble_eq_true rfl) dX8_position_3 rfl (fun r S1 hp => ?_)
  obtain ⟨hS, hr⟩ := hp
  subst S1
  subst r
  refine r_if_eqT (t := 13) C rfl dX8_position_6 (by decide) ?_
  refine r_iconst (v := 1) (n := 14) C dX8_position_13 rfl rfl ?_
  refine kX8_144 (n := 17) C (m_refused1 hst S z ad hm) hm.1 (by decide) (by decide) (Nat.le_of_ble_eq_true rfl) dX8_position_14 rfl (fun r S1 hp => ?_)
  obtain ⟨hS, hr⟩ := hp
  subst S1
  subst r
  refine r_if_eqF (n := 20) (t := 22) C (by decide) dX8_position_17 (by decide) rfl ?_
  refine r_iconst (v := 0) (n := 21) C dX8_position_20 rfl rfl ?_
  refine t_i C rfl dX8_position_21 (by decide) ?_
  exact ⟨rfl, rfl⟩
set_option maxRecDepth 100000 in
set_option maxHeartbeats 1000000 in
theorem m_position_l {l : Launch} {G : GG} {b : Nat} (hst : l.stackTraces = false) (S : Sw) (z : Nat) (ad : Nat → Nat) (hm : lay S z ad) (c0 : Nat) (hc : c0 < 6) (hth : ¬ aI S (ad 802) c0 = 0) (hpl : aI S (ad 803) c0 = 0) : Ct l G b yX8_position cX8_position 2 (some .int) rmX8_position mI [.ref z, .int (nI c0)] S (fun r S' => S' = uI S 800 z 0 ∧ r = aI S (ad 823) c0) := by
  refine Ct.of2 pnX8 (own := RX8) rfl (Nat.le_of_ble_eq_true rfl) hst ?_
  intro p e s m args below meth c C hname
  change J p l e rmX8_position s m args below meth c 2 G b _ 0 [(0, .ref z), (1, .int (nI c0))] [] S 0 0
  refine r_aload_n (i := 0) (n := 1) C dX8_position_0 rfl rfl rfl ?_
  refine r_aload_n (i := 0) (n := 2) C dX8_position_1 rfl rfl rfl ?_
  refine r_iload_n (i := 1) (n := 3) C dX8_position_2 rfl rfl rfl ?_
  refine kX8_147 (n := 6) C (m_isCl_y hst S z ad hm c0 hc hth) hm.1 (by decide) (by decide) (Nat.le_of_ble_eq_true rfl) dX8_position_3 rfl (fun r S1 hp => ?_)
  obtain ⟨hS, hr⟩ := hp
  subst S1
  subst r
  refine r_if_eqF (n := 9) (t := 13) C (by decide) dX8_position_6 (by decide) rfl ?_
  refine r_iconst (v := 0) (n := 10) C dX8_position_9 rfl rfl ?_
  refine r_goto (t := 14) C dX8_position_10 (by decide) ?_
  refine kX8_144 (n := 17) C (m_refused0 hst S z ad hm) hm.1 (by decide) (by decide) (Nat.le_of_ble_eq_true rfl) dX8_position_14 rfl (fun r S1 hp => ?_)
  obtain ⟨hS, hr⟩ := hp
  subst S1
  subst r
  refine r_if_eqT (t := 22) C rfl dX8_position_17 (by decide) ?_
  refine r_aload_n (i := 0) (n := 23) C dX8_position_22 rfl rfl rfl ?_
  refine hX8_17 (n := 26) C hm dX8_position_23 rfl ?_
  refine r_iload_n (i := 1) (n := 27) C dX8_position_26 rfl rfl rfl ?_
  refine q_zald (n := 28) C (c0) (ly_803 hm) rfl (by omega) dX8_position_27 rfl ?_
  refine r_if_eqT (t := 51) C hpl dX8_position_28 (by decide) ?_
  refine r_aload_n (i := 0) (n := 52) C dX8_position_51 rfl rfl rfl ?_
  refine hX8_79 (n := 55) C hm dX8_position_52 rfl ?_
  refine r_iload_n (i := 1) (n := 56) C dX8_position_55 rfl rfl rfl ?_
  refine q_iald (n := 57) C (c0) (ly_823 hm) rfl (by omega) dX8_position_56 rfl ?_
  refine t_i C rfl dX8_position_57 (by decide) ?_
  exact ⟨rfl, rfl⟩
set_option maxRecDepth 100000 in
set_option maxHeartbeats 1000000 in
theorem m_position_p {l : Launch} {G : GG} {b : Nat} (hst : l.stackTraces = false) (S : Sw) (z : Nat) (ad : Nat → Nat) (hm : lay S z ad) (c0 : Nat) (hc : c0 < 6) (hth : ¬ aI S (ad 802) c0 = 0) (hpl : ¬ aI S (ad 803) c0 = 0) (ou rr : Nat) (hou : aI S (ad 818) c0 = nI ou) (hrr : aI S (ad 804) c0 = nI rr) (hn : ou < 2 ^ 20) (hr : rtN rr) : Ct l G b yX8_position cX8_position 2 (some .int) rmX8_position mI [.ref z, .int (nI c0)] S (fun r S' => S' = uI S 800 z 0 ∧ r = nI (ou * rr / 48000)) := by
  refine Ct.of2 pnX8 (own := RX8) rfl (Nat.le_of_ble_eq_true rfl) hst ?_
  intro p e s m args below meth c C hname
  change J p l e rmX8_position s m args below meth c 2 G b _ 0 [(0, .ref z), (1, .int (nI c0))] [] S 0 0
  refine r_aload_n (i := 0) (n := 1) C dX8_position_0 rfl rfl rfl ?_
  refine r_aload_n (i := 0) (n := 2) C dX8_position_1 rfl rfl rfl ?_
  refine r_iload_n (i := 1) (n := 3) C dX8_position_2 rfl rfl rfl ?_
  refine kX8_147 (n := 6) C (m_isCl_y hst S z ad hm c0 hc hth) hm.1 (by decide) (by decide) (Nat.le_of_ble_eq_true rfl) dX8_position_3 rfl (fun r S1 hp => ?_)
  obtain ⟨hS, hr⟩ := hp
  subst S1
  subst r
  refine r_if_eqF (n := 9) (t := 13) C (by decide) dX8_position_6 (by decide) rfl ?_
  refine r_iconst (v := 0) (n := 10) C dX8_position_9 rfl rfl ?_
  refine r_goto (t := 14) C dX8_position_10 (by decide) ?_
  refine kX8_144 (n := 17) C (m_refused0 hst S z ad hm) hm.1 (by decide) (by decide) (Nat.le_of_ble_eq_true rfl) dX8_position_14 rfl (fun r S1 hp => ?_)
  obtain ⟨hS, hr⟩ := hp
  subst S1
  subst r
  refine r_if_eqT (t := 22) C rfl dX8_position_17 (by decide) ?_
  refine r_aload_n (i := 0) (n := 23) C dX8_position_22 rfl rfl rfl ?_
  refine hX8_17 (n := 26) C hm dX8_position_23 rfl ?_
  refine r_iload_n (i := 1) (n := 27) C dX8_position_26 rfl rfl rfl ?_
  refine q_zald (n := 28) C (c0) (ly_803 hm) rfl (by omega) dX8_position_27 rfl ?_
  refine r_if_eqF (n := 31) (t := 51) C hpl dX8_position_28 (by decide) rfl ?_
  refine r_aload_n (i := 0) (n := 32) C dX8_position_31 rfl rfl rfl ?_
  refine hX8_63 (n := 35) C hm dX8_position_32 rfl ?_
  refine r_iload_n (i := 1) (n := 36) C dX8_position_35 rfl rfl rfl ?_
  refine q_ialdv (n := 37) (v := nI (ou)) C (c0) (ly_818 hm) rfl (by omega) dX8_position_36 rfl hou ?_
  refine r_aload_n (i := 0) (n := 38) C dX8_position_37 rfl rfl rfl ?_
  refine hX8_20 (n := 41) C hm dX8_position_38 rfl ?_
  refine r_iload_n (i := 1) (n := 42) C dX8_position_41 rfl rfl rfl ?_
  refine q_ialdv (n := 43) (v := nI (rr)) C (c0) (ly_804 hm) rfl (by omega) dX8_position_42 rfl hrr ?_
  refine r_ldc (n := 45) (v := 48000) C (mem_tb (mem_tbl 885 (by decide +kernel)) (by decide +kernel)) dX8_position_43 rfl ?_
  refine kX8_154 (n := 48) C (m_placeOf hst (uI S 800 z 0) ou rr 48000 hn (rtN.le hr).1 (by omega) (by omega)) (by decide) (by decide) (Nat.le_of_ble_eq_true rfl) dX8_position_45 rfl (fun r S1 hp => ?_)
  obtain ⟨hS, hr⟩ := hp
  subst S1
  subst r
  refine r_goto (t := 57) C dX8_position_48 (by decide) ?_
  refine t_i C rfl dX8_position_57 (by decide) ?_
  exact ⟨rfl, rfl⟩
set_option maxRecDepth 100000 in
set_option maxHeartbeats 1000000 in
theorem m_level_n {l : Launch} {G : GG} {b : Nat} (hst : l.stackTraces = false) (S : Sw) (z : Nat) (ad : Nat → Nat) (hm : lay S z ad) (c0 : Int32) (hno_ : ¬ isCl S ad c0) : Ct l G b yX8_level cX8_level 2 (some .double) rmX8_level mD [.ref z, .int c0] S (fun r S' => S' = uI S 800 z 1 ∧ r = FP.dconst0) := by
  refine Ct.of2 pnX8 (own := RX8) rfl (Nat.le_of_ble_eq_true rfl) hst ?_
  intro p e s m args below meth c C hname
  change J p l e rmX8_level s m args below meth c 2 G b _ 0 [(0, .ref z), (1, .int c0)] [] S 0 0
  refine r_aload_n (i := 0) (n := 1) C dX8_level_0 rfl rfl rfl ?_
  refine r_aload_n (i := 0) (n := 2) C dX8_level_1 rfl rfl rfl ?_
  refine r_iload_n (i := 1) (n := 3) C dX8_level_2 rfl rfl rfl ?_
  refine kX8_147 (n := 6) C (m_isCl_n hst S z ad hm c0 hno_) hm.1 (by decide) (by decide) (Nat.le_of_ble_eq_true rfl) dX8_level_3 rfl (fun r S1 hp => ?_)
  obtain ⟨hS, hr⟩ := hp
  subst S1
  subst r
  refine r_if_eqT (t := 22) C rfl dX8_level_6 (by decide) ?_
  refine r_iconst (v := 1) (n := 23) C dX8_level_22 rfl rfl ?_
  refine kX8_144 (n := 26) C (m_refused1 hst S z ad hm) hm.1 (by decide) (by decide) (Nat.le_of_ble_eq_true rfl) dX8_level_23 rfl (fun r S1 hp => ?_)
  obtain ⟨hS, hr⟩ := hp
  subst S1
  subst r
  refine r_if_eqF (n := 29) (t := 33) C (by decide) dX8_level_26 (by decide) rfl ?_
  refine r_dconst0 (n := 30) C dX8_level_29 rfl ?_
  refine r_goto (t := 39) C dX8_level_30 (by decide) ?_
  refine t_d C dX8_level_39 (by decide) ?_
  exact ⟨rfl, rfl⟩
set_option maxRecDepth 100000 in
set_option maxHeartbeats 1000000 in
theorem m_level_l {l : Launch} {G : GG} {b : Nat} (hst : l.stackTraces = false) (S : Sw) (z : Nat) (ad : Nat → Nat) (hm : lay S z ad) (c0 : Nat) (hc : c0 < 6) (hth : ¬ aI S (ad 802) c0 = 0) (hpl : aI S (ad 803) c0 = 0) : Ct l G b yX8_level cX8_level 2 (some .double) rmX8_level mD [.ref z, .int (nI c0)] S (fun r S' => S' = uI S 800 z 1 ∧ r = FP.dconst0) := by
  refine Ct.of2 pnX8 (own := RX8) rfl (Nat.le_of_ble_eq_true rfl) hst ?_
  intro p e s m args below meth c C hname
  change J p l e rmX8_level s m args below meth c 2 G b _ 0 [(0, .ref z), (1, .int (nI c0))] [] S 0 0
  refine r_aload_n (i := 0) (n := 1) C dX8_level_0 rfl rfl rfl ?_
  refine r_aload_n (i := 0) (n := 2) C dX8_level_1 rfl rfl rfl ?_
  refine r_iload_n (i := 1) (n := 3) C dX8_level_2 rfl rfl rfl ?_
  refine kX8_147 (n := 6) C (m_isCl_y hst S z ad hm c0 hc hth) hm.1 (by decide) (by decide) (Nat.le_of_ble_eq_true rfl) dX8_level_3 rfl (fun r S1 hp => ?_)
  obtain ⟨hS, hr⟩ := hp
  subst S1
  subst r
  refine r_if_eqF (n := 9) (t := 22) C (by decide) dX8_level_6 (by decide) rfl ?_
  refine r_aload_n (i := 0) (n := 10) C dX8_level_9 rfl rfl rfl ?_
  refine hX8_17 (n := 13) C hm dX8_level_10 rfl ?_
  refine r_iload_n (i := 1) (n := 14) C dX8_level_13 rfl rfl rfl ?_
  refine q_zald (n := 15) C (c0) (ly_803 hm) rfl (by omega) dX8_level_14 rfl ?_
  refine r_if_eqT (t := 22) C hpl dX8_level_15 (by decide) ?_
  refine r_iconst (v := 1) (n := 23) C dX8_level_22 rfl rfl ?_
  refine kX8_144 (n := 26) C (m_refused1 hst S z ad hm) hm.1 (by decide) (by decide) (Nat.le_of_ble_eq_true rfl) dX8_level_23 rfl (fun r S1 hp => ?_)
  obtain ⟨hS, hr⟩ := hp
  subst S1
  subst r
  refine r_if_eqF (n := 29) (t := 33) C (by decide) dX8_level_26 (by decide) rfl ?_
  refine r_dconst0 (n := 30) C dX8_level_29 rfl ?_
  refine r_goto (t := 39) C dX8_level_30 (by decide) ?_
  refine t_d C dX8_level_39 (by decide) ?_
  exact ⟨rfl, rfl⟩
set_option maxRecDepth 100000 in
set_option maxHeartbeats 1000000 in
theorem m_level_p {l : Launch} {G : GG} {b : Nat} (hst : l.stackTraces = false) (S : Sw) (z : Nat) (ad : Nat → Nat) (hm : lay S z ad) (c0 : Nat) (hc : c0 < 6) (hth : ¬ aI S (ad 802) c0 = 0) (hpl : ¬ aI S (ad 803) c0 = 0) : Ct l G b yX8_level cX8_level 2 (some .double) rmX8_level mD [.ref z, .int (nI c0)] S (fun r S' => S' = uI S 800 z 0 ∧ r = aD S (ad 819) c0) := by
  refine Ct.of2 pnX8 (own := RX8) rfl (Nat.le_of_ble_eq_true rfl) hst ?_
  intro p e s m args below meth c C hname
  change J p l e rmX8_level s m args below meth c 2 G b _ 0 [(0, .ref z), (1, .int (nI c0))] [] S 0 0
  refine r_aload_n (i := 0) (n := 1) C dX8_level_0 rfl rfl rfl ?_
  refine r_aload_n (i := 0) (n := 2) C dX8_level_1 rfl rfl rfl ?_
  refine r_iload_n (i := 1) (n := 3) C dX8_level_2 rfl rfl rfl ?_
  refine kX8_147 (n := 6) C (m_isCl_y hst S z ad hm c0 hc hth) hm.1 (by decide) (by decide) (Nat.le_of_ble_eq_true rfl) dX8_level_3 rfl (fun r S1 hp => ?_)
  obtain ⟨hS, hr⟩ := hp
  subst S1
  subst r
  refine r_if_eqF (n := 9) (t := 22) C (by decide) dX8_level_6 (by decide) rfl ?_
  refine r_aload_n (i := 0) (n := 10) C dX8_level_9 rfl rfl rfl ?_
  refine hX8_17 (n := 13) C hm dX8_level_10 rfl ?_
  refine r_iload_n (i := 1) (n := 14) C dX8_level_13 rfl rfl rfl ?_
  refine q_zald (n := 15) C (c0) (ly_803 hm) rfl (by omega) dX8_level_14 rfl ?_
  refine r_if_eqF (n := 18) (t := 22) C hpl dX8_level_15 (by decide) rfl ?_
  refine r_iconst (v := 0) (n := 19) C dX8_level_18 rfl rfl ?_
  refine r_goto (t := 23) C dX8_level_19 (by decide) ?_
  refine kX8_144 (n := 26) C (m_refused0 hst S z ad hm) hm.1 (by decide) (by decide) (Nat.le_of_ble_eq_true rfl) dX8_level_23 rfl (fun r S1 hp => ?_)
  obtain ⟨hS, hr⟩ := hp
  subst S1
  subst r
  refine r_if_eqT (t := 33) C rfl dX8_level_26 (by decide) ?_
  refine r_aload_n (i := 0) (n := 34) C dX8_level_33 rfl rfl rfl ?_
  refine hX8_66 (n := 37) C hm dX8_level_34 rfl ?_
  refine r_iload_n (i := 1) (n := 38) C dX8_level_37 rfl rfl rfl ?_
  refine q_dald (n := 39) C (c0) (ly_819 hm) rfl (by omega) dX8_level_38 rfl ?_
  refine t_d C dX8_level_39 (by decide) ?_
  exact ⟨rfl, rfl⟩
set_option maxRecDepth 100000 in
set_option maxHeartbeats 1000000 in
theorem m_clipped {l : Launch} {G : GG} {b : Nat} (hst : l.stackTraces = false) (S : Sw) (z : Nat) (ad : Nat → Nat) (hm : lay S z ad) : Ct l G b yX8_clipped cX8_clipped 1 (some .int) rmX8_clipped mI [.ref z] S (fun r S' => S' = uI S 800 z 0 ∧ r = fI S 835 z) := by
  refine Ct.of2 pnX8 (own := RX8) rfl (Nat.le_of_ble_eq_true rfl) hst ?_
  intro p e s m args below meth c C hname
  change J p l e rmX8_clipped s m args below meth c 1 G b _ 0 [(0, .ref z)] [] S 0 0
  refine r_aload_n (i := 0) (n := 1) C dX8_clipped_0 rfl rfl rfl ?_
  refine r_iconst (v := 0) (n := 2) C dX8_clipped_1 rfl rfl ?_
  refine sX8_127 (n := 5) C hm.1 dX8_clipped_2 rfl ?_
  refine r_aload_n (i := 0) (n := 6) C dX8_clipped_5 rfl rfl rfl ?_
  refine gX8_215 (n := 9) C hm.1 dX8_clipped_6 rfl ?_
  refine t_i C rfl dX8_clipped_9 (by decide) ?_
  exact ⟨rfl, rfl⟩
set_option maxRecDepth 100000 in
set_option maxHeartbeats 1000000 in
theorem m_value {l : Launch} {G : GG} {b : Nat} (hst : l.stackTraces = false) (S : Sw) (z : Nat) (ad : Nat → Nat) (hm : lay S z ad) : Ct l G b yX8_value cX8_value 1 (some .int) rmX8_value mI [.ref z] S (fun r S' => S' = uI S 800 z 0 ∧ r = fI S 833 z) := by
  refine Ct.of2 pnX8 (own := RX8) rfl (Nat.le_of_ble_eq_true rfl) hst ?_
  intro p e s m args below meth c C hname
  change J p l e rmX8_value s m args below meth c 1 G b _ 0 [(0, .ref z)] [] S 0 0
  refine r_aload_n (i := 0) (n := 1) C dX8_value_0 rfl rfl rfl ?_
  refine r_iconst (v := 0) (n := 2) C dX8_value_1 rfl rfl ?_
  refine sX8_127 (n := 5) C hm.1 dX8_value_2 rfl ?_
  refine r_aload_n (i := 0) (n := 6) C dX8_value_5 rfl rfl rfl ?_
  refine gX8_107 (n := 9) C hm.1 dX8_value_6 rfl ?_
  refine t_i C rfl dX8_value_9 (by decide) ?_
  exact ⟨rfl, rfl⟩
set_option maxRecDepth 100000 in
set_option maxHeartbeats 1000000 in
theorem m_limit {l : Launch} {G : GG} {b : Nat} (hst : l.stackTraces = false) (S : Sw) (z : Nat) (ad : Nat → Nat) (hm : lay S z ad) (is : Int32) (hb1 : narrow .boolean (.int is) = .int is) (hb2 : fits .boolean (.int is) = true) (hb3 : narrow .boolean (.int (fI S 832 z)) = .int (fI S 832 z)) : Ct l G b yX8_limit cX8_limit 3 (some .boolean) rmX8_limit mI [.ref z, .int is] S (fun r S' => S' = uI (uI S 800 z 0) 832 z is ∧ r = fI S 832 z) := by
  refine Ct.of2 pnX8 (own := RX8) rfl (Nat.le_of_ble_eq_true rfl) hst ?_
  intro p e s m args below meth c C hname
  change J p l e rmX8_limit s m args below meth c 3 G b _ 0 [(0, .ref z), (1, .int is)] [] S 0 0
  refine r_aload_n (i := 0) (n := 1) C dX8_limit_0 rfl rfl rfl ?_
  refine r_iconst (v := 0) (n := 2) C dX8_limit_1 rfl rfl ?_
  refine sX8_127 (n := 5) C hm.1 dX8_limit_2 rfl ?_
  refine r_aload_n (i := 0) (n := 6) C dX8_limit_5 rfl rfl rfl ?_
  refine gX8_103 (n := 9) C hm.1 dX8_limit_6 rfl ?_
  refine r_istore_n (i := 2) (n := 10) C dX8_limit_9 rfl (by decide) rfl rfl ?_
  refine r_aload_n (i := 0) (n := 11) C dX8_limit_10 rfl rfl rfl ?_
  refine r_iload_n (i := 1) (n := 12) C dX8_limit_11 rfl rfl rfl ?_
  refine sX8_103 (n := 15) C hm.1 hb1 hb2 dX8_limit_12 rfl ?_
  refine r_iload_n (i := 2) (n := 16) C dX8_limit_15 rfl rfl rfl ?_
  refine t_i C hb3 dX8_limit_16 (by decide) ?_
  exact ⟨rfl, rfl⟩
set_option maxRecDepth 100000 in
set_option maxHeartbeats 1000000 in
theorem m_coming_n1 {l : Launch} {G : GG} {b : Nat} (hst : l.stackTraces = false) (S : Sw) (z : Nat) (ad : Nat → Nat) (hm : lay S z ad) (i rt v : Int32) (hi : ¬ (0 ≤ i ∧ i ≤ 23)) : Ct l G b yX8_coming cX8_coming 4 none rmX8_coming mV [.ref z, .int i, .int rt, .int v] S (fun _ S' => S' = uI S 800 z 1) := by
  refine Ct.of2 pnX8 (own := RX8) rfl (Nat.le_of_ble_eq_true rfl) hst ?_
  intro p e s m args below meth c C hname
  change J p l e rmX8_coming s m args below meth c 4 G b _ 0 [(0, .ref z), (1, .int i), (2, .int rt), (3, .int v)] [] S 0 0
  refine r_aload_n (i := 0) (n := 1) C dX8_coming_0 rfl rfl rfl ?_
  refine r_iload_n (i := 1) (n := 2) C dX8_coming_1 rfl rfl rfl ?_
  refine r_iconst (v := 0) (n := 3) C dX8_coming_2 rfl rfl ?_
  refine r_bipush (v := 23) (n := 5) C dX8_coming_3 rfl rfl ?_
  refine kX8_130 (n := 8) C (m_isIn hst S i 0 23) (by decide) (by decide) (Nat.le_of_ble_eq_true rfl) dX8_coming_5 rfl (fun r S1 hp => ?_)
  obtain ⟨hS, hr⟩ := hp
  subst S1
  subst r
  rw [if_neg hi]
  refine r_if_eqT (t := 28) C rfl dX8_coming_8 (by decide) ?_
  refine r_iconst (v := 1) (n := 29) C dX8_coming_28 rfl rfl ?_
  refine kX8_144 (n := 32) C (m_refused1 hst S z ad hm) hm.1 (by decide) (by decide) (Nat.le_of_ble_eq_true rfl) dX8_coming_29 rfl (fun r S1 hp => ?_)
  obtain ⟨hS, hr⟩ := hp
  subst S1
  subst r
  refine r_if_eqF (n := 35) (t := 36) C (by decide) dX8_coming_32 (by decide) rfl ?_
  refine t_v C dX8_coming_35 (by decide) ?_
  rfl
set_option maxRecDepth 100000 in
set_option maxHeartbeats 1000000 in
theorem m_coming_n2 {l : Launch} {G : GG} {b : Nat} (hst : l.stackTraces = false) (S : Sw) (z : Nat) (ad : Nat → Nat) (hm : lay S z ad) (i rt v : Int32) (hi : 0 ≤ i ∧ i ≤ 23) (hv : ¬ ((-32768) ≤ v ∧ v ≤ 32767)) : Ct l G b yX8_coming cX8_coming 4 none rmX8_coming mV [.ref z, .int i, .int rt, .int v] S (fun _ S' => S' = uI S 800 z 1) := by
  refine Ct.of2 pnX8 (own := RX8) rfl (Nat.le_of_ble_eq_true rfl) hst ?_
  intro p e s m args below meth c C hname
  change J p l e rmX8_coming s m args below meth c 4 G b _ 0 [(0, .ref z), (1, .int i), (2, .int rt), (3, .int v)] [] S 0 0
  refine r_aload_n (i := 0) (n := 1) C dX8_coming_0 rfl rfl rfl ?_
  refine r_iload_n (i := 1) (n := 2) C dX8_coming_1 rfl rfl rfl ?_
  refine r_iconst (v := 0) (n := 3) C dX8_coming_2 rfl rfl ?_
  refine r_bipush (v := 23) (n := 5) C dX8_coming_3 rfl rfl ?_
  refine kX8_130 (n := 8) C (m_isIn hst S i 0 23) (by decide) (by decide) (Nat.le_of_ble_eq_true rfl) dX8_coming_5 rfl (fun r S1 hp => ?_)
  obtain ⟨hS, hr⟩ := hp
  subst S1
  subst r
  rw [if_pos hi]
  refine r_if_eqF (n := 11) (t := 28) C (by decide) dX8_coming_8 (by decide) rfl ?_
  refine r_iload_n (i := 3) (n := 12) C dX8_coming_11 rfl rfl rfl ?_
  refine r_sipush (v := (-32768)) (n := 15) C dX8_coming_12 rfl rfl ?_
  refine r_sipush (v := 32767) (n := 18) C dX8_coming_15 rfl rfl ?_
  refine kX8_130 (n := 21) C (m_isIn hst S v (-32768) 32767) (by decide) (by decide) (Nat.le_of_ble_eq_true rfl) dX8_coming_18 rfl (fun r S1 hp => ?_)
  obtain ⟨hS, hr⟩ := hp
  subst S1
  subst r
  rw [if_neg hv]
  refine r_if_eqT (t := 28) C rfl dX8_coming_21 (by decide) ?_
  refine r_iconst (v := 1) (n := 29) C dX8_coming_28 rfl rfl ?_
  refine kX8_144 (n := 32) C (m_refused1 hst S z ad hm) hm.1 (by decide) (by decide) (Nat.le_of_ble_eq_true rfl) dX8_coming_29 rfl (fun r S1 hp => ?_)
  obtain ⟨hS, hr⟩ := hp
  subst S1
  subst r
  refine r_if_eqF (n := 35) (t := 36) C (by decide) dX8_coming_32 (by decide) rfl ?_
  refine t_v C dX8_coming_35 (by decide) ?_
  rfl
set_option maxRecDepth 100000 in
set_option maxHeartbeats 1000000 in
theorem m_coming_l {l : Launch} {G : GG} {b : Nat} (hst : l.stackTraces = false) (S : Sw) (z : Nat) (ad : Nat → Nat) (hm : lay S z ad) (j : Nat) (hj : j < 24) (rt v : Int32) (hv : (-32768) ≤ v ∧ v ≤ 32767) (hrt : rt = 0) : Ct l G b yX8_coming cX8_coming 4 none rmX8_coming mV [.ref z, .int (nI j), .int rt, .int v] S (fun _ S' => S' = wI (uI S 800 z 0) (ad 830) j v) := by
  refine Ct.of2 pnX8 (own := RX8) rfl (Nat.le_of_ble_eq_true rfl) hst ?_
  intro p e s m args below meth c C hname
  change J p l e rmX8_coming s m args below meth c 4 G b _ 0 [(0, .ref z), (1, .int (nI j)), (2, .int rt), (3, .int v)] [] S 0 0
  refine r_aload_n (i := 0) (n := 1) C dX8_coming_0 rfl rfl rfl ?_
  refine r_iload_n (i := 1) (n := 2) C dX8_coming_1 rfl rfl rfl ?_
  refine r_iconst (v := 0) (n := 3) C dX8_coming_2 rfl rfl ?_
  refine r_bipush (v := 23) (n := 5) C dX8_coming_3 rfl rfl ?_
  refine kX8_130 (n := 8) C (m_isIn hst S (nI j) 0 23) (by decide) (by decide) (Nat.le_of_ble_eq_true rfl) dX8_coming_5 rfl (fun r S1 hp => ?_)
  obtain ⟨hS, hr⟩ := hp
  subst S1
  subst r
  rw [if_pos ⟨nI_pos' (by omega), cle (b := 23) rfl rfl (by omega) (by omega)⟩]
  refine r_if_eqF (n := 11) (t := 28) C (by decide) dX8_coming_8 (by decide) rfl ?_
  refine r_iload_n (i := 3) (n := 12) C dX8_coming_11 rfl rfl rfl ?_
  refine r_sipush (v := (-32768)) (n := 15) C dX8_coming_12 rfl rfl ?_
  refine r_sipush (v := 32767) (n := 18) C dX8_coming_15 rfl rfl ?_
  refine kX8_130 (n := 21) C (m_isIn hst S v (-32768) 32767) (by decide) (by decide) (Nat.le_of_ble_eq_true rfl) dX8_coming_18 rfl (fun r S1 hp => ?_)
  obtain ⟨hS, hr⟩ := hp
  subst S1
  subst r
  rw [if_pos hv]
  refine r_if_eqF (n := 24) (t := 28) C (by decide) dX8_coming_21 (by decide) rfl ?_
  refine r_iconst (v := 0) (n := 25) C dX8_coming_24 rfl rfl ?_
  refine r_goto (t := 29) C dX8_coming_25 (by decide) ?_
  refine kX8_144 (n := 32) C (m_refused0 hst S z ad hm) hm.1 (by decide) (by decide) (Nat.le_of_ble_eq_true rfl) dX8_coming_29 rfl (fun r S1 hp => ?_)
  obtain ⟨hS, hr⟩ := hp
  subst S1
  subst r
  refine r_if_eqT (t := 36) C rfl dX8_coming_32 (by decide) ?_
  refine r_iload_n (i := 2) (n := 37) C dX8_coming_36 rfl rfl rfl ?_
  refine r_if_eqT (t := 50) C hrt dX8_coming_37 (by decide) ?_
  refine r_aload_n (i := 0) (n := 51) C dX8_coming_50 rfl rfl rfl ?_
  refine hX8_97 (n := 54) C hm dX8_coming_51 rfl ?_
  refine r_iload_n (i := 1) (n := 55) C dX8_coming_54 rfl rfl rfl ?_
  refine r_iload_n (i := 3) (n := 56) C dX8_coming_55 rfl rfl rfl ?_
  refine q_iast (n := 57) C (j) (ly_830 hm) rfl (by omega) dX8_coming_56 rfl ?_
  refine t_v C dX8_coming_57 (by decide) ?_
  rfl
set_option maxRecDepth 100000 in
set_option maxHeartbeats 1000000 in
theorem m_coming_r {l : Launch} {G : GG} {b : Nat} (hst : l.stackTraces = false) (S : Sw) (z : Nat) (ad : Nat → Nat) (hm : lay S z ad) (j : Nat) (hj : j < 24) (rt v : Int32) (hv : (-32768) ≤ v ∧ v ≤ 32767) (hrt : ¬ rt = 0) : Ct l G b yX8_coming cX8_coming 4 none rmX8_coming mV [.ref z, .int (nI j), .int rt, .int v] S (fun _ S' => S' = wI (uI S 800 z 0) (ad 831) j v) := by
  refine Ct.of2 pnX8 (own := RX8) rfl (Nat.le_of_ble_eq_true rfl) hst ?_
  intro p e s m args below meth c C hname
  change J p l e rmX8_coming s m args below meth c 4 G b _ 0 [(0, .ref z), (1, .int (nI j)), (2, .int rt), (3, .int v)] [] S 0 0
  refine r_aload_n (i := 0) (n := 1) C dX8_coming_0 rfl rfl rfl ?_
  refine r_iload_n (i := 1) (n := 2) C dX8_coming_1 rfl rfl rfl ?_
  refine r_iconst (v := 0) (n := 3) C dX8_coming_2 rfl rfl ?_
  refine r_bipush (v := 23) (n := 5) C dX8_coming_3 rfl rfl ?_
  refine kX8_130 (n := 8) C (m_isIn hst S (nI j) 0 23) (by decide) (by decide) (Nat.le_of_ble_eq_true rfl) dX8_coming_5 rfl (fun r S1 hp => ?_)
  obtain ⟨hS, hr⟩ := hp
  subst S1
  subst r
  rw [if_pos ⟨nI_pos' (by omega), cle (b := 23) rfl rfl (by omega) (by omega)⟩]
  refine r_if_eqF (n := 11) (t := 28) C (by decide) dX8_coming_8 (by decide) rfl ?_
  refine r_iload_n (i := 3) (n := 12) C dX8_coming_11 rfl rfl rfl ?_
  refine r_sipush (v := (-32768)) (n := 15) C dX8_coming_12 rfl rfl ?_
  refine r_sipush (v := 32767) (n := 18) C dX8_coming_15 rfl rfl ?_
  refine kX8_130 (n := 21) C (m_isIn hst S v (-32768) 32767) (by decide) (by decide) (Nat.le_of_ble_eq_true rfl) dX8_coming_18 rfl (fun r S1 hp => ?_)
  obtain ⟨hS, hr⟩ := hp
  subst S1
  subst r
  rw [if_pos hv]
  refine r_if_eqF (n := 24) (t := 28) C (by decide) dX8_coming_21 (by decide) rfl ?_
  refine r_iconst (v := 0) (n := 25) C dX8_coming_24 rfl rfl ?_
  refine r_goto (t := 29) C dX8_coming_25 (by decide) ?_
  refine kX8_144 (n := 32) C (m_refused0 hst S z ad hm) hm.1 (by decide) (by decide) (Nat.le_of_ble_eq_true rfl) dX8_coming_29 rfl (fun r S1 hp => ?_)
  obtain ⟨hS, hr⟩ := hp
  subst S1
  subst r
  refine r_if_eqT (t := 36) C rfl dX8_coming_32 (by decide) ?_
  refine r_iload_n (i := 2) (n := 37) C dX8_coming_36 rfl rfl rfl ?_
  refine r_if_eqF (n := 40) (t := 50) C hrt dX8_coming_37 (by decide) rfl ?_
  refine r_aload_n (i := 0) (n := 41) C dX8_coming_40 rfl rfl rfl ?_
  refine hX8_100 (n := 44) C hm dX8_coming_41 rfl ?_
  refine r_iload_n (i := 1) (n := 45) C dX8_coming_44 rfl rfl rfl ?_
  refine r_iload_n (i := 3) (n := 46) C dX8_coming_45 rfl rfl rfl ?_
  refine q_iast (n := 47) C (j) (ly_831 hm) rfl (by omega) dX8_coming_46 rfl ?_
  refine r_goto (t := 57) C dX8_coming_47 (by decide) ?_
  refine t_v C dX8_coming_57 (by decide) ?_
  rfl
set_option maxRecDepth 100000 in
set_option maxHeartbeats 1000000 in
theorem m_played_n1 {l : Launch} {G : GG} {b : Nat} (hst : l.stackTraces = false) (S : Sw) (z : Nat) (ad : Nat → Nat) (hm : lay S z ad) (pd i rt : Int32) (hp : ¬ (0 ≤ pd ∧ pd ≤ 3)) : Ct l G b yX8_played cX8_played 5 (some .int) rmX8_played mI [.ref z, .int pd, .int i, .int rt] S (fun r S' => S' = uI S 800 z 1 ∧ r = 0) := by
  refine Ct.of2 pnX8 (own := RX8) rfl (Nat.le_of_ble_eq_true rfl) hst ?_
  intro p e s m args below meth c C hname
  change J p l e rmX8_played s m args below meth c 5 G b _ 0 [(0, .ref z), (1, .int pd), (2, .int i), (3, .int rt)] [] S 0 0
  refine r_aload_n (i := 0) (n := 1) C dX8_played_0 rfl rfl rfl ?_
  refine r_iload_n (i := 1) (n := 2) C dX8_played_1 rfl rfl rfl ?_
  refine r_iconst (v := 0) (n := 3) C dX8_played_2 rfl rfl ?_
  refine r_iconst (v := 3) (n := 4) C dX8_played_3 rfl rfl ?_
  refine kX8_130 (n := 7) C (m_isIn hst S pd 0 3) (by decide) (by decide) (Nat.le_of_ble_eq_true rfl) dX8_played_4 rfl (fun r S1 hq => ?_)
  obtain ⟨hS, hr⟩ := hq
  subst S1
  subst r
  rw [if_neg hp]
  refine r_if_eqT (t := 24) C rfl dX8_played_7 (by decide) ?_
  refine r_iconst (v := 1) (n := 25) C dX8_played_24 rfl rfl ?_
  refine kX8_144 (n := 28) C (m_refused1 hst S z ad hm) hm.1 (by decide) (by decide) (Nat.le_of_ble_eq_true rfl) dX8_played_25 rfl (fun r S1 hq => ?_)
  obtain ⟨hS, hr⟩ := hq
  subst S1
  subst r
  refine r_if_eqF (n := 31) (t := 33) C (by decide) dX8_played_28 (by decide) rfl ?_
  refine r_iconst (v := 0) (n := 32) C dX8_played_31 rfl rfl ?_
  refine t_i C rfl dX8_played_32 (by decide) ?_
  exact ⟨rfl, rfl⟩
set_option maxRecDepth 100000 in
set_option maxHeartbeats 1000000 in
theorem m_played_n2 {l : Launch} {G : GG} {b : Nat} (hst : l.stackTraces = false) (S : Sw) (z : Nat) (ad : Nat → Nat) (hm : lay S z ad) (pd i rt : Int32) (hp : 0 ≤ pd ∧ pd ≤ 3) (hi : ¬ (0 ≤ i ∧ i ≤ 23)) : Ct l G b yX8_played cX8_played 5 (some .int) rmX8_played mI [.ref z, .int pd, .int i, .int rt] S (fun r S' => S' = uI S 800 z 1 ∧ r = 0) := by
  refine Ct.of2 pnX8 (own := RX8) rfl (Nat.le_of_ble_eq_true rfl) hst ?_
  intro p e s m args below meth c C hname
  change J p l e rmX8_played s m args below meth c 5 G b _ 0 [(0, .ref z), (1, .int pd), (2, .int i), (3, .int rt)] [] S 0 0
  refine r_aload_n (i := 0) (n := 1) C dX8_played_0 rfl rfl rfl ?_
  refine r_iload_n (i := 1) (n := 2) C dX8_played_1 rfl rfl rfl ?_
  refine r_iconst (v := 0) (n := 3) C dX8_played_2 rfl rfl ?_
  refine r_iconst (v := 3) (n := 4) C dX8_played_3 rfl rfl ?_
  refine kX8_130 (n := 7) C (m_isIn hst S pd 0 3) (by decide) (by decide) (Nat.le_of_ble_eq_true rfl) dX8_played_4 rfl (fun r S1 hq => ?_)
  obtain ⟨hS, hr⟩ := hq
  subst S1
  subst r
  rw [if_pos hp]
  refine r_if_eqF (n := 10) (t := 24) C (by decide) dX8_played_7 (by decide) rfl ?_
  refine r_iload_n (i := 2) (n := 11) C dX8_played_10 rfl rfl rfl ?_
  refine r_iconst (v := 0) (n := 12) C dX8_played_11 rfl rfl ?_
  refine r_bipush (v := 23) (n := 14) C dX8_played_12 rfl rfl ?_
  refine kX8_130 (n := 17) C (m_isIn hst S i 0 23) (by decide) (by decide) (Nat.le_of_ble_eq_true rfl) dX8_played_14 rfl (fun r S1 hq => ?_)
  obtain ⟨hS, hr⟩ := hq
  subst S1
  subst r
  rw [if_neg hi]
  refine r_if_eqT (t := 24) C rfl dX8_played_17 (by decide) ?_
  refine r_iconst (v := 1) (n := 25) C dX8_played_24 rfl rfl ?_
  refine kX8_144 (n := 28) C (m_refused1 hst S z ad hm) hm.1 (by decide) (by decide) (Nat.le_of_ble_eq_true rfl) dX8_played_25 rfl (fun r S1 hq => ?_)
  obtain ⟨hS, hr⟩ := hq
  subst S1
  subst r
  refine r_if_eqF (n := 31) (t := 33) C (by decide) dX8_played_28 (by decide) rfl ?_
  refine r_iconst (v := 0) (n := 32) C dX8_played_31 rfl rfl ?_
  refine t_i C rfl dX8_played_32 (by decide) ?_
  exact ⟨rfl, rfl⟩
set_option maxRecDepth 100000 in
set_option maxHeartbeats 1000000 in
theorem m_played_l {l : Launch} {G : GG} {b : Nat} (hst : l.stackTraces = false) (S : Sw) (z : Nat) (ad : Nat → Nat) (hm : lay S z ad) (p0 j : Nat) (hp0 : p0 < 4) (hj : j < 24) (rt : Int32) (hrt : rt = 0) : Ct l G b yX8_played cX8_played 5 (some .int) rmX8_played mI [.ref z, .int (nI p0), .int (nI j), .int rt] S (fun r S' => S' = uI S 800 z 0 ∧ r = aI S (ad 828) (24 * p0 + j)) := by
  refine Ct.of2 pnX8 (own := RX8) rfl (Nat.le_of_ble_eq_true rfl) hst ?_
  intro p e s m args below meth c C hname
  change J p l e rmX8_played s m args below meth c 5 G b _ 0 [(0, .ref z), (1, .int (nI p0)), (2, .int (nI j)), (3, .int rt)] [] S 0 0
  refine r_aload_n (i := 0) (n := 1) C dX8_played_0 rfl rfl rfl ?_
  refine r_iload_n (i := 1) (n := 2) C dX8_played_1 rfl rfl rfl ?_
  refine r_iconst (v := 0) (n := 3) C dX8_played_2 rfl rfl ?_
  refine r_iconst (v := 3) (n := 4) C dX8_played_3 rfl rfl ?_
  refine kX8_130 (n := 7) C (m_isIn hst S (nI p0) 0 3) (by decide) (by decide) (Nat.le_of_ble_eq_true rfl) dX8_played_4 rfl (fun r S1 hp => ?_)
  obtain ⟨hS, hr⟩ := hp
  subst S1
  subst r
  rw [if_pos ⟨nI_pos' (by omega), cle (b := 3) rfl rfl (by omega) (by omega)⟩]
  refine r_if_eqF (n := 10) (t := 24) C (by decide) dX8_played_7 (by decide) rfl ?_
  refine r_iload_n (i := 2) (n := 11) C dX8_played_10 rfl rfl rfl ?_
  refine r_iconst (v := 0) (n := 12) C dX8_played_11 rfl rfl ?_
  refine r_bipush (v := 23) (n := 14) C dX8_played_12 rfl rfl ?_
  refine kX8_130 (n := 17) C (m_isIn hst S (nI j) 0 23) (by decide) (by decide) (Nat.le_of_ble_eq_true rfl) dX8_played_14 rfl (fun r S1 hp => ?_)
  obtain ⟨hS, hr⟩ := hp
  subst S1
  subst r
  rw [if_pos ⟨nI_pos' (by omega), cle (b := 23) rfl rfl (by omega) (by omega)⟩]
  refine r_if_eqF (n := 20) (t := 24) C (by decide) dX8_played_17 (by decide) rfl ?_
  refine r_iconst (v := 0) (n := 21) C dX8_played_20 rfl rfl ?_
  refine r_goto (t := 25) C dX8_played_21 (by decide) ?_
  refine kX8_144 (n := 28) C (m_refused0 hst S z ad hm) hm.1 (by decide) (by decide) (Nat.le_of_ble_eq_true rfl) dX8_played_25 rfl (fun r S1 hp => ?_)
  obtain ⟨hS, hr⟩ := hp
  subst S1
  subst r
  refine r_if_eqT (t := 33) C rfl dX8_played_28 (by decide) ?_
  refine r_bipush (v := 24) (n := 35) C dX8_played_33 rfl rfl ?_
  refine r_iload_n (i := 1) (n := 36) C dX8_played_35 rfl rfl rfl ?_
  refine r_imul (n := 37) C dX8_played_36 rfl ?_
  refine r_iload_n (i := 2) (n := 38) C dX8_played_37 rfl rfl rfl ?_
  refine r_iadd (n := 39) C dX8_played_38 rfl ?_
  refine r_istore (n := 41) C dX8_played_39 (by decide) rfl rfl ?_
  refine r_iload_n (i := 3) (n := 42) C dX8_played_41 rfl rfl rfl ?_
  refine r_if_eqT (t := 55) C hrt dX8_played_42 (by decide) ?_
  refine r_aload_n (i := 0) (n := 56) C dX8_played_55 rfl rfl rfl ?_
  refine hX8_91 (n := 59) C hm dX8_played_56 rfl ?_
  refine r_iload (n := 61) C dX8_played_59 rfl rfl ?_
  refine q_iald (n := 62) C (((24 * p0) + j)) (ly_828 hm) (add_nI (a := (24 * p0)) (b := j) (mul_nI (a := 24) (b := p0) rfl rfl) rfl) (by omega) dX8_played_61 rfl ?_
  refine t_i C rfl dX8_played_62 (by decide) ?_
  exact ⟨rfl, rfl⟩
set_option maxRecDepth 100000 in
set_option maxHeartbeats 1000000 in
theorem m_played_r {l : Launch} {G : GG} {b : Nat} (hst : l.stackTraces = false) (S : Sw) (z : Nat) (ad : Nat → Nat) (hm : lay S z ad) (p0 j : Nat) (hp0 : p0 < 4) (hj : j < 24) (rt : Int32) (hrt : ¬ rt = 0) : Ct l G b yX8_played cX8_played 5 (some .int) rmX8_played mI [.ref z, .int (nI p0), .int (nI j), .int rt] S (fun r S' => S' = uI S 800 z 0 ∧ r = aI S (ad 829) (24 * p0 + j)) := by
  refine Ct.of2 pnX8 (own := RX8) rfl (Nat.le_of_ble_eq_true rfl) hst ?_
  intro p e s m args below meth c C hname
  change J p l e rmX8_played s m args below meth c 5 G b _ 0 [(0, .ref z), (1, .int (nI p0)), (2, .int (nI j)), (3, .int rt)] [] S 0 0
  refine r_aload_n (i := 0) (n := 1) C dX8_played_0 rfl rfl rfl ?_
  refine r_iload_n (i := 1) (n := 2) C dX8_played_1 rfl rfl rfl ?_
  refine r_iconst (v := 0) (n := 3) C dX8_played_2 rfl rfl ?_
  refine r_iconst (v := 3) (n := 4) C dX8_played_3 rfl rfl ?_
  refine kX8_130 (n := 7) C (m_isIn hst S (nI p0) 0 3) (by decide) (by decide) (Nat.le_of_ble_eq_true rfl) dX8_played_4 rfl (fun r S1 hp => ?_)
  obtain ⟨hS, hr⟩ := hp
  subst S1
  subst r
  rw [if_pos ⟨nI_pos' (by omega), cle (b := 3) rfl rfl (by omega) (by omega)⟩]
  refine r_if_eqF (n := 10) (t := 24) C (by decide) dX8_played_7 (by decide) rfl ?_
  refine r_iload_n (i := 2) (n := 11) C dX8_played_10 rfl rfl rfl ?_
  refine r_iconst (v := 0) (n := 12) C dX8_played_11 rfl rfl ?_
  refine r_bipush (v := 23) (n := 14) C dX8_played_12 rfl rfl ?_
  refine kX8_130 (n := 17) C (m_isIn hst S (nI j) 0 23) (by decide) (by decide) (Nat.le_of_ble_eq_true rfl) dX8_played_14 rfl (fun r S1 hp => ?_)
  obtain ⟨hS, hr⟩ := hp
  subst S1
  subst r
  rw [if_pos ⟨nI_pos' (by omega), cle (b := 23) rfl rfl (by omega) (by omega)⟩]
  refine r_if_eqF (n := 20) (t := 24) C (by decide) dX8_played_17 (by decide) rfl ?_
  refine r_iconst (v := 0) (n := 21) C dX8_played_20 rfl rfl ?_
  refine r_goto (t := 25) C dX8_played_21 (by decide) ?_
  refine kX8_144 (n := 28) C (m_refused0 hst S z ad hm) hm.1 (by decide) (by decide) (Nat.le_of_ble_eq_true rfl) dX8_played_25 rfl (fun r S1 hp => ?_)
  obtain ⟨hS, hr⟩ := hp
  subst S1
  subst r
  refine r_if_eqT (t := 33) C rfl dX8_played_28 (by decide) ?_
  refine r_bipush (v := 24) (n := 35) C dX8_played_33 rfl rfl ?_
  refine r_iload_n (i := 1) (n := 36) C dX8_played_35 rfl rfl rfl ?_
  refine r_imul (n := 37) C dX8_played_36 rfl ?_
  refine r_iload_n (i := 2) (n := 38) C dX8_played_37 rfl rfl rfl ?_
  refine r_iadd (n := 39) C dX8_played_38 rfl ?_
  refine r_istore (n := 41) C dX8_played_39 (by decide) rfl rfl ?_
  refine r_iload_n (i := 3) (n := 42) C dX8_played_41 rfl rfl rfl ?_
  refine r_if_eqF (n := 45) (t := 55) C hrt dX8_played_42 (by decide) rfl ?_
  refine r_aload_n (i := 0) (n := 46) C dX8_played_45 rfl rfl rfl ?_
  refine hX8_94 (n := 49) C hm dX8_played_46 rfl ?_
  refine r_iload (n := 51) C dX8_played_49 rfl rfl ?_
  refine q_iald (n := 52) C (((24 * p0) + j)) (ly_829 hm) (add_nI (a := (24 * p0)) (b := j) (mul_nI (a := 24) (b := p0) rfl rfl) rfl) (by omega) dX8_played_51 rfl ?_
  refine r_goto (t := 62) C dX8_played_52 (by decide) ?_
  refine t_i C rfl dX8_played_62 (by decide) ?_
  exact ⟨rfl, rfl⟩
set_option maxRecDepth 100000 in
set_option maxHeartbeats 1000000 in
theorem m_tap_n1 {l : Launch} {G : GG} {b : Nat} (hst : l.stackTraces = false) (S : Sw) (z : Nat) (ad : Nat → Nat) (hm : lay S z ad) (ph k : Int32) (hp : ¬ (0 ≤ ph ∧ ph ≤ 31)) : Ct l G b yX8_tap cX8_tap 3 (some .int) rmX8_tap mI [.ref z, .int ph, .int k] S (fun r S' => S' = uI S 800 z 1 ∧ r = 0) := by
  refine Ct.of2 pnX8 (own := RX8) rfl (Nat.le_of_ble_eq_true rfl) hst ?_
  intro p e s m args below meth c C hname
  change J p l e rmX8_tap s m args below meth c 3 G b _ 0 [(0, .ref z), (1, .int ph), (2, .int k)] [] S 0 0
  refine r_aload_n (i := 0) (n := 1) C dX8_tap_0 rfl rfl rfl ?_
  refine r_iload_n (i := 1) (n := 2) C dX8_tap_1 rfl rfl rfl ?_
  refine r_iconst (v := 0) (n := 3) C dX8_tap_2 rfl rfl ?_
  refine r_bipush (v := 31) (n := 5) C dX8_tap_3 rfl rfl ?_
  refine kX8_130 (n := 8) C (m_isIn hst S ph 0 31) (by decide) (by decide) (Nat.le_of_ble_eq_true rfl) dX8_tap_5 rfl (fun r S1 hq => ?_)
  obtain ⟨hS, hr⟩ := hq
  subst S1
  subst r
  rw [if_neg hp]
  refine r_if_eqT (t := 25) C rfl dX8_tap_8 (by decide) ?_
  refine r_iconst (v := 1) (n := 26) C dX8_tap_25 rfl rfl ?_
  refine kX8_144 (n := 29) C (m_refused1 hst S z ad hm) hm.1 (by decide) (by decide) (Nat.le_of_ble_eq_true rfl) dX8_tap_26 rfl (fun r S1 hq => ?_)
  obtain ⟨hS, hr⟩ := hq
  subst S1
  subst r
  refine r_if_eqF (n := 32) (t := 36) C (by decide) dX8_tap_29 (by decide) rfl ?_
  refine r_iconst (v := 0) (n := 33) C dX8_tap_32 rfl rfl ?_
  refine r_goto (t := 47) C dX8_tap_33 (by decide) ?_
  refine t_i C rfl dX8_tap_47 (by decide) ?_
  exact ⟨rfl, rfl⟩
set_option maxRecDepth 100000 in
set_option maxHeartbeats 1000000 in
theorem m_tap_n2 {l : Launch} {G : GG} {b : Nat} (hst : l.stackTraces = false) (S : Sw) (z : Nat) (ad : Nat → Nat) (hm : lay S z ad) (ph k : Int32) (hp : 0 ≤ ph ∧ ph ≤ 31) (hi : ¬ (0 ≤ k ∧ k ≤ 15)) : Ct l G b yX8_tap cX8_tap 3 (some .int) rmX8_tap mI [.ref z, .int ph, .int k] S (fun r S' => S' = uI S 800 z 1 ∧ r = 0) := by
  refine Ct.of2 pnX8 (own := RX8) rfl (Nat.le_of_ble_eq_true rfl) hst ?_
  intro p e s m args below meth c C hname
  change J p l e rmX8_tap s m args below meth c 3 G b _ 0 [(0, .ref z), (1, .int ph), (2, .int k)] [] S 0 0
  refine r_aload_n (i := 0) (n := 1) C dX8_tap_0 rfl rfl rfl ?_
  refine r_iload_n (i := 1) (n := 2) C dX8_tap_1 rfl rfl rfl ?_
  refine r_iconst (v := 0) (n := 3) C dX8_tap_2 rfl rfl ?_
  refine r_bipush (v := 31) (n := 5) C dX8_tap_3 rfl rfl ?_
  refine kX8_130 (n := 8) C (m_isIn hst S ph 0 31) (by decide) (by decide) (Nat.le_of_ble_eq_true rfl) dX8_tap_5 rfl (fun r S1 hq => ?_)
  obtain ⟨hS, hr⟩ := hq
  subst S1
  subst r
  rw [if_pos hp]
  refine r_if_eqF (n := 11) (t := 25) C (by decide) dX8_tap_8 (by decide) rfl ?_
  refine r_iload_n (i := 2) (n := 12) C dX8_tap_11 rfl rfl rfl ?_
  refine r_iconst (v := 0) (n := 13) C dX8_tap_12 rfl rfl ?_
  refine r_bipush (v := 15) (n := 15) C dX8_tap_13 rfl rfl ?_
  refine kX8_130 (n := 18) C (m_isIn hst S k 0 15) (by decide) (by decide) (Nat.le_of_ble_eq_true rfl) dX8_tap_15 rfl (fun r S1 hq => ?_)
  obtain ⟨hS, hr⟩ := hq
  subst S1
  subst r
  rw [if_neg hi]
  refine r_if_eqT (t := 25) C rfl dX8_tap_18 (by decide) ?_
  refine r_iconst (v := 1) (n := 26) C dX8_tap_25 rfl rfl ?_
  refine kX8_144 (n := 29) C (m_refused1 hst S z ad hm) hm.1 (by decide) (by decide) (Nat.le_of_ble_eq_true rfl) dX8_tap_26 rfl (fun r S1 hq => ?_)
  obtain ⟨hS, hr⟩ := hq
  subst S1
  subst r
  refine r_if_eqF (n := 32) (t := 36) C (by decide) dX8_tap_29 (by decide) rfl ?_
  refine r_iconst (v := 0) (n := 33) C dX8_tap_32 rfl rfl ?_
  refine r_goto (t := 47) C dX8_tap_33 (by decide) ?_
  refine t_i C rfl dX8_tap_47 (by decide) ?_
  exact ⟨rfl, rfl⟩
set_option maxRecDepth 100000 in
set_option maxHeartbeats 1000000 in
theorem m_tap_y {l : Launch} {G : GG} {b : Nat} (hst : l.stackTraces = false) (S : Sw) (z : Nat) (ad : Nat → Nat) (hm : lay S z ad) (p0 j : Nat) (hp0 : p0 < 32) (hj : j < 16) : Ct l G b yX8_tap cX8_tap 3 (some .int) rmX8_tap mI [.ref z, .int (nI p0), .int (nI j)] S (fun r S' => S' = uI S 800 z 0 ∧ r = aI S (ad 801) (16 * p0 + j)) := by
  refine Ct.of2 pnX8 (own := RX8) rfl (Nat.le_of_ble_eq_true rfl) hst ?_
  intro p e s m args below meth c C hname
  change J p l e rmX8_tap s m args below meth c 3 G b _ 0 [(0, .ref z), (1, .int (nI p0)), (2, .int (nI j))] [] S 0 0
  refine r_aload_n (i := 0) (n := 1) C dX8_tap_0 rfl rfl rfl ?_
  refine r_iload_n (i := 1) (n := 2) C dX8_tap_1 rfl rfl rfl ?_
  refine r_iconst (v := 0) (n := 3) C dX8_tap_2 rfl rfl ?_
  refine r_bipush (v := 31) (n := 5) C dX8_tap_3 rfl rfl ?_
  refine kX8_130 (n := 8) C (m_isIn hst S (nI p0) 0 31) (by decide) (by decide) (Nat.le_of_ble_eq_true rfl) dX8_tap_5 rfl (fun r S1 hp => ?_)
  obtain ⟨hS, hr⟩ := hp
  subst S1
  subst r
  rw [if_pos ⟨nI_pos' (by omega), cle (b := 31) rfl rfl (by omega) (by omega)⟩]
  refine r_if_eqF (n := 11) (t := 25) C (by decide) dX8_tap_8 (by decide) rfl ?_
  refine r_iload_n (i := 2) (n := 12) C dX8_tap_11 rfl rfl rfl ?_
  refine r_iconst (v := 0) (n := 13) C dX8_tap_12 rfl rfl ?_
  refine r_bipush (v := 15) (n := 15) C dX8_tap_13 rfl rfl ?_
  refine kX8_130 (n := 18) C (m_isIn hst S (nI j) 0 15) (by decide) (by decide) (Nat.le_of_ble_eq_true rfl) dX8_tap_15 rfl (fun r S1 hp => ?_)
  obtain ⟨hS, hr⟩ := hp
  subst S1
  subst r
  rw [if_pos ⟨nI_pos' (by omega), cle (b := 15) rfl rfl (by omega) (by omega)⟩]
  refine r_if_eqF (n := 21) (t := 25) C (by decide) dX8_tap_18 (by decide) rfl ?_
  refine r_iconst (v := 0) (n := 22) C dX8_tap_21 rfl rfl ?_
  refine r_goto (t := 26) C dX8_tap_22 (by decide) ?_
  refine kX8_144 (n := 29) C (m_refused0 hst S z ad hm) hm.1 (by decide) (by decide) (Nat.le_of_ble_eq_true rfl) dX8_tap_26 rfl (fun r S1 hp => ?_)
  obtain ⟨hS, hr⟩ := hp
  subst S1
  subst r
  refine r_if_eqT (t := 36) C rfl dX8_tap_29 (by decide) ?_
  refine r_aload_n (i := 0) (n := 37) C dX8_tap_36 rfl rfl rfl ?_
  refine hX8_7 (n := 40) C hm dX8_tap_37 rfl ?_
  refine r_bipush (v := 16) (n := 42) C dX8_tap_40 rfl rfl ?_
  refine r_iload_n (i := 1) (n := 43) C dX8_tap_42 rfl rfl rfl ?_
  refine r_imul (n := 44) C dX8_tap_43 rfl ?_
  refine r_iload_n (i := 2) (n := 45) C dX8_tap_44 rfl rfl rfl ?_
  refine r_iadd (n := 46) C dX8_tap_45 rfl ?_
  refine q_iald (n := 47) C (((16 * p0) + j)) (ly_801 hm) (add_nI (a := (16 * p0)) (b := j) (mul_nI (a := 16) (b := p0) rfl rfl) rfl) (by omega) dX8_tap_46 rfl ?_
  refine t_i C rfl dX8_tap_47 (by decide) ?_
  exact ⟨rfl, rfl⟩
set_option maxRecDepth 100000 in
set_option maxHeartbeats 1000000 in
theorem m_start_n1 {l : Launch} {G : GG} {b : Nat} (hst : l.stackTraces = false) (S : Sw) (z : Nat) (ad : Nat → Nat) (hm : lay S z ad) (c0 : Int32) (hno_ : ¬ isCl S ad c0) : Ct l G b yX8_start cX8_start 2 none rmX8_start mV [.ref z, .int c0] S (fun _ S' => S' = uI S 800 z 1) := by
  refine Ct.of2 pnX8 (own := RX8) rfl (Nat.le_of_ble_eq_true rfl) hst ?_
  intro p e s m args below meth c C hname
  change J p l e rmX8_start s m args below meth c 2 G b _ 0 [(0, .ref z), (1, .int c0)] [] S 0 0
  refine r_aload_n (i := 0) (n := 1) C dX8_start_0 rfl rfl rfl ?_
  refine r_aload_n (i := 0) (n := 2) C dX8_start_1 rfl rfl rfl ?_
  refine r_iload_n (i := 1) (n := 3) C dX8_start_2 rfl rfl rfl ?_
  refine kX8_147 (n := 6) C (m_isCl_n hst S z ad hm c0 hno_) hm.1 (by decide) (by decide) (Nat.le_of_ble_eq_true rfl) dX8_start_3 rfl (fun r S1 hp => ?_)
  obtain ⟨hS, hr⟩ := hp
  subst S1
  subst r
  refine r_if_neF (n := 9) (t := 13) C rfl dX8_start_6 (by decide) rfl ?_
  refine r_iconst (v := 1) (n := 10) C dX8_start_9 rfl rfl ?_
  refine r_goto (t := 37) C dX8_start_10 (by decide) ?_
  refine kX8_144 (n := 40) C (m_refused1 hst S z ad hm) hm.1 (by decide) (by decide) (Nat.le_of_ble_eq_true rfl) dX8_start_37 rfl (fun r S1 hp => ?_)
  obtain ⟨hS, hr⟩ := hp
  subst S1
  subst r
  refine r_if_neT (t := 50) C (by decide) dX8_start_40 (by decide) ?_
  refine t_v C dX8_start_50 (by decide) ?_
  rfl
set_option maxRecDepth 100000 in
set_option maxHeartbeats 1000000 in
theorem m_pause_n1 {l : Launch} {G : GG} {b : Nat} (hst : l.stackTraces = false) (S : Sw) (z : Nat) (ad : Nat → Nat) (hm : lay S z ad) (c0 : Int32) (hno_ : ¬ isCl S ad c0) : Ct l G b yX8_pause cX8_pause 2 none rmX8_pause mV [.ref z, .int c0] S (fun _ S' => S' = uI S 800 z 1) := by
  refine Ct.of2 pnX8 (own := RX8) rfl (Nat.le_of_ble_eq_true rfl) hst ?_
  intro p e s m args below meth c C hname
  change J p l e rmX8_pause s m args below meth c 2 G b _ 0 [(0, .ref z), (1, .int c0)] [] S 0 0
  refine r_aload_n (i := 0) (n := 1) C dX8_pause_0 rfl rfl rfl ?_
  refine r_aload_n (i := 0) (n := 2) C dX8_pause_1 rfl rfl rfl ?_
  refine r_iload_n (i := 1) (n := 3) C dX8_pause_2 rfl rfl rfl ?_
  refine kX8_147 (n := 6) C (m_isCl_n hst S z ad hm c0 hno_) hm.1 (by decide) (by decide) (Nat.le_of_ble_eq_true rfl) dX8_pause_3 rfl (fun r S1 hp => ?_)
  obtain ⟨hS, hr⟩ := hp
  subst S1
  subst r
  refine r_if_neF (n := 9) (t := 13) C rfl dX8_pause_6 (by decide) rfl ?_
  refine r_iconst (v := 1) (n := 10) C dX8_pause_9 rfl rfl ?_
  refine r_goto (t := 28) C dX8_pause_10 (by decide) ?_
  refine kX8_144 (n := 31) C (m_refused1 hst S z ad hm) hm.1 (by decide) (by decide) (Nat.le_of_ble_eq_true rfl) dX8_pause_28 rfl (fun r S1 hp => ?_)
  obtain ⟨hS, hr⟩ := hp
  subst S1
  subst r
  refine r_if_neT (t := 41) C (by decide) dX8_pause_31 (by decide) ?_
  refine t_v C dX8_pause_41 (by decide) ?_
  rfl
set_option maxRecDepth 100000 in
set_option maxHeartbeats 1000000 in
theorem m_start_n2 {l : Launch} {G : GG} {b : Nat} (hst : l.stackTraces = false) (S : Sw) (z : Nat) (ad : Nat → Nat) (hm : lay S z ad) (c0 : Nat) (hc : c0 < 6) (hth : ¬ aI S (ad 802) c0 = 0) (h0 : ¬ aI S (ad 808) c0 = 0) (h2 : ¬ aI S (ad 808) c0 = 2) : Ct l G b yX8_start cX8_start 2 none rmX8_start mV [.ref z, .int (nI c0)] S (fun _ S' => S' = uI S 800 z 2) := by
  refine Ct.of2 pnX8 (own := RX8) rfl (Nat.le_of_ble_eq_true rfl) hst ?_
  intro p e s m args below meth c C hname
  change J p l e rmX8_start s m args below meth c 2 G b _ 0 [(0, .ref z), (1, .int (nI c0))] [] S 0 0
  refine r_aload_n (i := 0) (n := 1) C dX8_start_0 rfl rfl rfl ?_
  refine r_aload_n (i := 0) (n := 2) C dX8_start_1 rfl rfl rfl ?_
  refine r_iload_n (i := 1) (n := 3) C dX8_start_2 rfl rfl rfl ?_
  refine kX8_147 (n := 6) C (m_isCl_y hst S z ad hm c0 hc hth) hm.1 (by decide) (by decide) (Nat.le_of_ble_eq_true rfl) dX8_start_3 rfl (fun r S1 hp => ?_)
  obtain ⟨hS, hr⟩ := hp
  subst S1
  subst r
  refine r_if_neT (t := 13) C (by decide) dX8_start_6 (by decide) ?_
  refine r_aload_n (i := 0) (n := 14) C dX8_start_13 rfl rfl rfl ?_
  refine hX8_32 (n := 17) C hm dX8_start_14 rfl ?_
  refine r_iload_n (i := 1) (n := 18) C dX8_start_17 rfl rfl rfl ?_
  refine q_iald (n := 19) C (c0) (ly_808 hm) rfl (by omega) dX8_start_18 rfl ?_
  refine r_if_eqF (n := 22) (t := 36) C h0 dX8_start_19 (by decide) rfl ?_
  refine r_aload_n (i := 0) (n := 23) C dX8_start_22 rfl rfl rfl ?_
  refine hX8_32 (n := 26) C hm dX8_start_23 rfl ?_
  refine r_iload_n (i := 1) (n := 27) C dX8_start_26 rfl rfl rfl ?_
  refine q_iald (n := 28) C (c0) (ly_808 hm) rfl (by omega) dX8_start_27 rfl ?_
  refine r_iconst (v := 2) (n := 29) C dX8_start_28 rfl rfl ?_
  refine r_icmp_eqF (n := 32) (t := 36) C h2 dX8_start_29 (by decide) rfl ?_
  refine r_iconst (v := 2) (n := 33) C dX8_start_32 rfl rfl ?_
  refine r_goto (t := 37) C dX8_start_33 (by decide) ?_
  refine kX8_144 (n := 40) C (m_refused2 hst S z ad hm) hm.1 (by decide) (by decide) (Nat.le_of_ble_eq_true rfl) dX8_start_37 rfl (fun r S1 hp => ?_)
  obtain ⟨hS, hr⟩ := hp
  subst S1
  subst r
  refine r_if_neT (t := 50) C (by decide) dX8_start_40 (by decide) ?_
  refine t_v C dX8_start_50 (by decide) ?_
  rfl
set_option maxRecDepth 100000 in
set_option maxHeartbeats 1000000 in
theorem m_start_0 {l : Launch} {G : GG} {b : Nat} (hst : l.stackTraces = false) (S : Sw) (z : Nat) (ad : Nat → Nat) (hm : lay S z ad) (c0 : Nat) (hc : c0 < 6) (hth : ¬ aI S (ad 802) c0 = 0) (h0 : aI S (ad 808) c0 = 0) : Ct l G b yX8_start cX8_start 2 none rmX8_start mV [.ref z, .int (nI c0)] S (fun _ S' => S' = wI (uI S 800 z 0) (ad 808) c0 1) := by
  refine Ct.of2 pnX8 (own := RX8) rfl (Nat.le_of_ble_eq_true rfl) hst ?_
  intro p e s m args below meth c C hname
  change J p l e rmX8_start s m args below meth c 2 G b _ 0 [(0, .ref z), (1, .int (nI c0))] [] S 0 0
  refine r_aload_n (i := 0) (n := 1) C dX8_start_0 rfl rfl rfl ?_
  refine r_aload_n (i := 0) (n := 2) C dX8_start_1 rfl rfl rfl ?_
  refine r_iload_n (i := 1) (n := 3) C dX8_start_2 rfl rfl rfl ?_
  refine kX8_147 (n := 6) C (m_isCl_y hst S z ad hm c0 hc hth) hm.1 (by decide) (by decide) (Nat.le_of_ble_eq_true rfl) dX8_start_3 rfl (fun r S1 hp => ?_)
  obtain ⟨hS, hr⟩ := hp
  subst S1
  subst r
  refine r_if_neT (t := 13) C (by decide) dX8_start_6 (by decide) ?_
  refine r_aload_n (i := 0) (n := 14) C dX8_start_13 rfl rfl rfl ?_
  refine hX8_32 (n := 17) C hm dX8_start_14 rfl ?_
  refine r_iload_n (i := 1) (n := 18) C dX8_start_17 rfl rfl rfl ?_
  refine q_iald (n := 19) C (c0) (ly_808 hm) rfl (by omega) dX8_start_18 rfl ?_
  refine r_if_eqT (t := 36) C h0 dX8_start_19 (by decide) ?_
  refine r_iconst (v := 0) (n := 37) C dX8_start_36 rfl rfl ?_
  refine kX8_144 (n := 40) C (m_refused0 hst S z ad hm) hm.1 (by decide) (by decide) (Nat.le_of_ble_eq_true rfl) dX8_start_37 rfl (fun r S1 hp => ?_)
  obtain ⟨hS, hr⟩ := hp
  subst S1
  subst r
  refine r_if_neF (n := 43) (t := 50) C rfl dX8_start_40 (by decide) rfl ?_
  refine r_aload_n (i := 0) (n := 44) C dX8_start_43 rfl rfl rfl ?_
  refine hX8_32 (n := 47) C hm dX8_start_44 rfl ?_
  refine r_iload_n (i := 1) (n := 48) C dX8_start_47 rfl rfl rfl ?_
  refine r_iconst (v := 1) (n := 49) C dX8_start_48 rfl rfl ?_
  refine q_iast (n := 50) C (c0) (ly_808 hm) rfl (by omega) dX8_start_49 rfl ?_
  refine t_v C dX8_start_50 (by decide) ?_
  rfl
set_option maxRecDepth 100000 in
set_option maxHeartbeats 1000000 in
theorem m_start_2 {l : Launch} {G : GG} {b : Nat} (hst : l.stackTraces = false) (S : Sw) (z : Nat) (ad : Nat → Nat) (hm : lay S z ad) (c0 : Nat) (hc : c0 < 6) (hth : ¬ aI S (ad 802) c0 = 0) (h2 : aI S (ad 808) c0 = 2) : Ct l G b yX8_start cX8_start 2 none rmX8_start mV [.ref z, .int (nI c0)] S (fun _ S' => S' = wI (uI S 800 z 0) (ad 808) c0 1) := by
  refine Ct.of2 pnX8 (own := RX8) rfl (Nat.le_of_ble_eq_true rfl) hst ?_
  intro p e s m args below meth c C hname
  change J p l e rmX8_start s m args below meth c 2 G b _ 0 [(0, .ref z), (1, .int (nI c0))] [] S 0 0
  refine r_aload_n (i := 0) (n := 1) C dX8_start_0 rfl rfl rfl ?_
  refine r_aload_n (i := 0) (n := 2) C dX8_start_1 rfl rfl rfl ?_
  refine r_iload_n (i := 1) (n := 3) C dX8_start_2 rfl rfl rfl ?_
  refine kX8_147 (n := 6) C (m_isCl_y hst S z ad hm c0 hc hth) hm.1 (by decide) (by decide) (Nat.le_of_ble_eq_true rfl) dX8_start_3 rfl (fun r S1 hp => ?_)
  obtain ⟨hS, hr⟩ := hp
  subst S1
  subst r
  refine r_if_neT (t := 13) C (by decide) dX8_start_6 (by decide) ?_
  refine r_aload_n (i := 0) (n := 14) C dX8_start_13 rfl rfl rfl ?_
  refine hX8_32 (n := 17) C hm dX8_start_14 rfl ?_
  refine r_iload_n (i := 1) (n := 18) C dX8_start_17 rfl rfl rfl ?_
  refine q_iald (n := 19) C (c0) (ly_808 hm) rfl (by omega) dX8_start_18 rfl ?_
  refine r_if_eqF (n := 22) (t := 36) C (by rw [h2]; decide) dX8_start_19 (by decide) rfl ?_
  refine r_aload_n (i := 0) (n := 23) C dX8_start_22 rfl rfl rfl ?_
  refine hX8_32 (n := 26) C hm dX8_start_23 rfl ?_
  refine r_iload_n (i := 1) (n := 27) C dX8_start_26 rfl rfl rfl ?_
  refine q_iald (n := 28) C (c0) (ly_808 hm) rfl (by omega) dX8_start_27 rfl ?_
  refine r_iconst (v := 2) (n := 29) C dX8_start_28 rfl rfl ?_
  refine r_icmp_eqT (t := 36) C h2 dX8_start_29 (by decide) ?_
  refine r_iconst (v := 0) (n := 37) C dX8_start_36 rfl rfl ?_
  refine kX8_144 (n := 40) C (m_refused0 hst S z ad hm) hm.1 (by decide) (by decide) (Nat.le_of_ble_eq_true rfl) dX8_start_37 rfl (fun r S1 hp => ?_)
  obtain ⟨hS, hr⟩ := hp
  subst S1
  subst r
  refine r_if_neF (n := 43) (t := 50) C rfl dX8_start_40 (by decide) rfl ?_
  refine r_aload_n (i := 0) (n := 44) C dX8_start_43 rfl rfl rfl ?_
  refine hX8_32 (n := 47) C hm dX8_start_44 rfl ?_
  refine r_iload_n (i := 1) (n := 48) C dX8_start_47 rfl rfl rfl ?_
  refine r_iconst (v := 1) (n := 49) C dX8_start_48 rfl rfl ?_
  refine q_iast (n := 50) C (c0) (ly_808 hm) rfl (by omega) dX8_start_49 rfl ?_
  refine t_v C dX8_start_50 (by decide) ?_
  rfl
set_option maxRecDepth 100000 in
set_option maxHeartbeats 1000000 in
theorem m_pause_n2 {l : Launch} {G : GG} {b : Nat} (hst : l.stackTraces = false) (S : Sw) (z : Nat) (ad : Nat → Nat) (hm : lay S z ad) (c0 : Nat) (hc : c0 < 6) (hth : ¬ aI S (ad 802) c0 = 0) (h1 : ¬ aI S (ad 808) c0 = 1) : Ct l G b yX8_pause cX8_pause 2 none rmX8_pause mV [.ref z, .int (nI c0)] S (fun _ S' => S' = uI S 800 z 2) := by
  refine Ct.of2 pnX8 (own := RX8) rfl (Nat.le_of_ble_eq_true rfl) hst ?_
  intro p e s m args below meth c C hname
  change J p l e rmX8_pause s m args below meth c 2 G b _ 0 [(0, .ref z), (1, .int (nI c0))] [] S 0 0
  refine r_aload_n (i := 0) (n := 1) C dX8_pause_0 rfl rfl rfl ?_
  refine r_aload_n (i := 0) (n := 2) C dX8_pause_1 rfl rfl rfl ?_
  refine r_iload_n (i := 1) (n := 3) C dX8_pause_2 rfl rfl rfl ?_
  refine kX8_147 (n := 6) C (m_isCl_y hst S z ad hm c0 hc hth) hm.1 (by decide) (by decide) (Nat.le_of_ble_eq_true rfl) dX8_pause_3 rfl (fun r S1 hp => ?_)
  obtain ⟨hS, hr⟩ := hp
  subst S1
  subst r
  refine r_if_neT (t := 13) C (by decide) dX8_pause_6 (by decide) ?_
  refine r_aload_n (i := 0) (n := 14) C dX8_pause_13 rfl rfl rfl ?_
  refine hX8_32 (n := 17) C hm dX8_pause_14 rfl ?_
  refine r_iload_n (i := 1) (n := 18) C dX8_pause_17 rfl rfl rfl ?_
  refine q_iald (n := 19) C (c0) (ly_808 hm) rfl (by omega) dX8_pause_18 rfl ?_
  refine r_iconst (v := 1) (n := 20) C dX8_pause_19 rfl rfl ?_
  refine r_icmp_eqF (n := 23) (t := 27) C h1 dX8_pause_20 (by decide) rfl ?_
  refine r_iconst (v := 2) (n := 24) C dX8_pause_23 rfl rfl ?_
  refine r_goto (t := 28) C dX8_pause_24 (by decide) ?_
  refine kX8_144 (n := 31) C (m_refused2 hst S z ad hm) hm.1 (by decide) (by decide) (Nat.le_of_ble_eq_true rfl) dX8_pause_28 rfl (fun r S1 hp => ?_)
  obtain ⟨hS, hr⟩ := hp
  subst S1
  subst r
  refine r_if_neT (t := 41) C (by decide) dX8_pause_31 (by decide) ?_
  refine t_v C dX8_pause_41 (by decide) ?_
  rfl
set_option maxRecDepth 100000 in
set_option maxHeartbeats 1000000 in
theorem m_pause_y {l : Launch} {G : GG} {b : Nat} (hst : l.stackTraces = false) (S : Sw) (z : Nat) (ad : Nat → Nat) (hm : lay S z ad) (c0 : Nat) (hc : c0 < 6) (hth : ¬ aI S (ad 802) c0 = 0) (h1 : aI S (ad 808) c0 = 1) : Ct l G b yX8_pause cX8_pause 2 none rmX8_pause mV [.ref z, .int (nI c0)] S (fun _ S' => S' = wI (uI S 800 z 0) (ad 808) c0 2) := by
  refine Ct.of2 pnX8 (own := RX8) rfl (Nat.le_of_ble_eq_true rfl) hst ?_
  intro p e s m args below meth c C hname
  change J p l e rmX8_pause s m args below meth c 2 G b _ 0 [(0, .ref z), (1, .int (nI c0))] [] S 0 0
  refine r_aload_n (i := 0) (n := 1) C dX8_pause_0 rfl rfl rfl ?_
  refine r_aload_n (i := 0) (n := 2) C dX8_pause_1 rfl rfl rfl ?_
  refine r_iload_n (i := 1) (n := 3) C dX8_pause_2 rfl rfl rfl ?_
  refine kX8_147 (n := 6) C (m_isCl_y hst S z ad hm c0 hc hth) hm.1 (by decide) (by decide) (Nat.le_of_ble_eq_true rfl) dX8_pause_3 rfl (fun r S1 hp => ?_)
  obtain ⟨hS, hr⟩ := hp
  subst S1
  subst r
  refine r_if_neT (t := 13) C (by decide) dX8_pause_6 (by decide) ?_
  refine r_aload_n (i := 0) (n := 14) C dX8_pause_13 rfl rfl rfl ?_
  refine hX8_32 (n := 17) C hm dX8_pause_14 rfl ?_
  refine r_iload_n (i := 1) (n := 18) C dX8_pause_17 rfl rfl rfl ?_
  refine q_iald (n := 19) C (c0) (ly_808 hm) rfl (by omega) dX8_pause_18 rfl ?_
  refine r_iconst (v := 1) (n := 20) C dX8_pause_19 rfl rfl ?_
  refine r_icmp_eqT (t := 27) C h1 dX8_pause_20 (by decide) ?_
  refine r_iconst (v := 0) (n := 28) C dX8_pause_27 rfl rfl ?_
  refine kX8_144 (n := 31) C (m_refused0 hst S z ad hm) hm.1 (by decide) (by decide) (Nat.le_of_ble_eq_true rfl) dX8_pause_28 rfl (fun r S1 hp => ?_)
  obtain ⟨hS, hr⟩ := hp
  subst S1
  subst r
  refine r_if_neF (n := 34) (t := 41) C rfl dX8_pause_31 (by decide) rfl ?_
  refine r_aload_n (i := 0) (n := 35) C dX8_pause_34 rfl rfl rfl ?_
  refine hX8_32 (n := 38) C hm dX8_pause_35 rfl ?_
  refine r_iload_n (i := 1) (n := 39) C dX8_pause_38 rfl rfl rfl ?_
  refine r_iconst (v := 2) (n := 40) C dX8_pause_39 rfl rfl ?_
  refine q_iast (n := 41) C (c0) (ly_808 hm) rfl (by omega) dX8_pause_40 rfl ?_
  refine t_v C dX8_pause_41 (by decide) ?_
  rfl
set_option maxRecDepth 100000 in
set_option maxHeartbeats 1000000 in
theorem m_drain_n1 {l : Launch} {G : GG} {b : Nat} (hst : l.stackTraces = false) (S : Sw) (z : Nat) (ad : Nat → Nat) (hm : lay S z ad) (c0 : Int32) (hno_ : ¬ isCl S ad c0) : Ct l G b yX8_drain cX8_drain 2 none rmX8_drain mV [.ref z, .int c0] S (fun _ S' => S' = uI S 800 z 1) := by
  refine Ct.of2 pnX8 (own := RX8) rfl (Nat.le_of_ble_eq_true rfl) hst ?_
  intro p e s m args below meth c C hname
  change J p l e rmX8_drain s m args below meth c 2 G b _ 0 [(0, .ref z), (1, .int c0)] [] S 0 0
  refine r_aload_n (i := 0) (n := 1) C dX8_drain_0 rfl rfl rfl ?_
  refine r_aload_n (i := 0) (n := 2) C dX8_drain_1 rfl rfl rfl ?_
  refine r_iload_n (i := 1) (n := 3) C dX8_drain_2 rfl rfl rfl ?_
  refine kX8_147 (n := 6) C (m_isCl_n hst S z ad hm c0 hno_) hm.1 (by decide) (by decide) (Nat.le_of_ble_eq_true rfl) dX8_drain_3 rfl (fun r S1 hp => ?_)
  obtain ⟨hS, hr⟩ := hp
  subst S1
  subst r
  refine r_if_eqT (t := 18) C rfl dX8_drain_6 (by decide) ?_
  refine r_iconst (v := 1) (n := 19) C dX8_drain_18 rfl rfl ?_
  refine r_goto (t := 37) C dX8_drain_19 (by decide) ?_
  refine kX8_144 (n := 40) C (m_refused1 hst S z ad hm) hm.1 (by decide) (by decide) (Nat.le_of_ble_eq_true rfl) dX8_drain_37 rfl (fun r S1 hp => ?_)
  obtain ⟨hS, hr⟩ := hp
  subst S1
  subst r
  refine r_if_neT (t := 57) C (by decide) dX8_drain_40 (by decide) ?_
  refine t_v C dX8_drain_57 (by decide) ?_
  rfl
set_option maxRecDepth 100000 in
set_option maxHeartbeats 1000000 in
theorem m_drain_n2 {l : Launch} {G : GG} {b : Nat} (hst : l.stackTraces = false) (S : Sw) (z : Nat) (ad : Nat → Nat) (hm : lay S z ad) (c0 : Nat) (hc : c0 < 6) (hth : ¬ aI S (ad 802) c0 = 0) (hpl : aI S (ad 803) c0 = 0) : Ct l G b yX8_drain cX8_drain 2 none rmX8_drain mV [.ref z, .int (nI c0)] S (fun _ S' => S' = uI S 800 z 1) := by
  refine Ct.of2 pnX8 (own := RX8) rfl (Nat.le_of_ble_eq_true rfl) hst ?_
  intro p e s m args below meth c C hname
  change J p l e rmX8_drain s m args below meth c 2 G b _ 0 [(0, .ref z), (1, .int (nI c0))] [] S 0 0
  refine r_aload_n (i := 0) (n := 1) C dX8_drain_0 rfl rfl rfl ?_
  refine r_aload_n (i := 0) (n := 2) C dX8_drain_1 rfl rfl rfl ?_
  refine r_iload_n (i := 1) (n := 3) C dX8_drain_2 rfl rfl rfl ?_
  refine kX8_147 (n := 6) C (m_isCl_y hst S z ad hm c0 hc hth) hm.1 (by decide) (by decide) (Nat.le_of_ble_eq_true rfl) dX8_drain_3 rfl (fun r S1 hp => ?_)
  obtain ⟨hS, hr⟩ := hp
  subst S1
  subst r
  refine r_if_eqF (n := 9) (t := 18) C (by decide) dX8_drain_6 (by decide) rfl ?_
  refine r_aload_n (i := 0) (n := 10) C dX8_drain_9 rfl rfl rfl ?_
  refine hX8_17 (n := 13) C hm dX8_drain_10 rfl ?_
  refine r_iload_n (i := 1) (n := 14) C dX8_drain_13 rfl rfl rfl ?_
  refine q_zald (n := 15) C (c0) (ly_803 hm) rfl (by omega) dX8_drain_14 rfl ?_
  refine r_if_neF (n := 18) (t := 22) C hpl dX8_drain_15 (by decide) rfl ?_
  refine r_iconst (v := 1) (n := 19) C dX8_drain_18 rfl rfl ?_
  refine r_goto (t := 37) C dX8_drain_19 (by decide) ?_
  refine kX8_144 (n := 40) C (m_refused1 hst S z ad hm) hm.1 (by decide) (by decide) (Nat.le_of_ble_eq_true rfl) dX8_drain_37 rfl (fun r S1 hp => ?_)
  obtain ⟨hS, hr⟩ := hp
  subst S1
  subst r
  refine r_if_neT (t := 57) C (by decide) dX8_drain_40 (by decide) ?_
  refine t_v C dX8_drain_57 (by decide) ?_
  rfl
set_option maxRecDepth 100000 in
set_option maxHeartbeats 1000000 in
theorem m_drain_n3 {l : Launch} {G : GG} {b : Nat} (hst : l.stackTraces = false) (S : Sw) (z : Nat) (ad : Nat → Nat) (hm : lay S z ad) (c0 : Nat) (hc : c0 < 6) (hth : ¬ aI S (ad 802) c0 = 0) (hpl : ¬ aI S (ad 803) c0 = 0) (h1 : ¬ aI S (ad 808) c0 = 1) : Ct l G b yX8_drain cX8_drain 2 none rmX8_drain mV [.ref z, .int (nI c0)] S (fun _ S' => S' = uI S 800 z 2) := by
  refine Ct.of2 pnX8 (own := RX8) rfl (Nat.le_of_ble_eq_true rfl) hst ?_
  intro p e s m args below meth c C hname
  change J p l e rmX8_drain s m args below meth c 2 G b _ 0 [(0, .ref z), (1, .int (nI c0))] [] S 0 0
  refine r_aload_n (i := 0) (n := 1) C dX8_drain_0 rfl rfl rfl ?_
  refine r_aload_n (i := 0) (n := 2) C dX8_drain_1 rfl rfl rfl ?_
  refine r_iload_n (i := 1) (n := 3) C dX8_drain_2 rfl rfl rfl ?_
  refine kX8_147 (n := 6) C (m_isCl_y hst S z ad hm c0 hc hth) hm.1 (by decide) (by decide) (Nat.le_of_ble_eq_true rfl) dX8_drain_3 rfl (fun r S1 hp => ?_)
  obtain ⟨hS, hr⟩ := hp
  subst S1
  subst r
  refine r_if_eqF (n := 9) (t := 18) C (by decide) dX8_drain_6 (by decide) rfl ?_
  refine r_aload_n (i := 0) (n := 10) C dX8_drain_9 rfl rfl rfl ?_
  refine hX8_17 (n := 13) C hm dX8_drain_10 rfl ?_
  refine r_iload_n (i := 1) (n := 14) C dX8_drain_13 rfl rfl rfl ?_
  refine q_zald (n := 15) C (c0) (ly_803 hm) rfl (by omega) dX8_drain_14 rfl ?_
  refine r_if_neT (t := 22) C hpl dX8_drain_15 (by decide) ?_
  refine r_aload_n (i := 0) (n := 23) C dX8_drain_22 rfl rfl rfl ?_
  refine hX8_32 (n := 26) C hm dX8_drain_23 rfl ?_
  refine r_iload_n (i := 1) (n := 27) C dX8_drain_26 rfl rfl rfl ?_
  refine q_iald (n := 28) C (c0) (ly_808 hm) rfl (by omega) dX8_drain_27 rfl ?_
  refine r_iconst (v := 1) (n := 29) C dX8_drain_28 rfl rfl ?_
  refine r_icmp_eqF (n := 32) (t := 36) C h1 dX8_drain_29 (by decide) rfl ?_
  refine r_iconst (v := 2) (n := 33) C dX8_drain_32 rfl rfl ?_
  refine r_goto (t := 37) C dX8_drain_33 (by decide) ?_
  refine kX8_144 (n := 40) C (m_refused2 hst S z ad hm) hm.1 (by decide) (by decide) (Nat.le_of_ble_eq_true rfl) dX8_drain_37 rfl (fun r S1 hp => ?_)
  obtain ⟨hS, hr⟩ := hp
  subst S1
  subst r
  refine r_if_neT (t := 57) C (by decide) dX8_drain_40 (by decide) ?_
  refine t_v C dX8_drain_57 (by decide) ?_
  rfl
set_option maxRecDepth 100000 in
set_option maxHeartbeats 1000000 in
theorem m_drain_y {l : Launch} {G : GG} {b : Nat} (hst : l.stackTraces = false) (S : Sw) (z : Nat) (ad : Nat → Nat) (hm : lay S z ad) (c0 : Nat) (hc : c0 < 6) (hth : ¬ aI S (ad 802) c0 = 0) (hpl : ¬ aI S (ad 803) c0 = 0) (h1 : aI S (ad 808) c0 = 1) : Ct l G b yX8_drain cX8_drain 2 none rmX8_drain mV [.ref z, .int (nI c0)] S (fun _ S' => S' = wI (wI (uI S 800 z 0) (ad 808) c0 3) (ad 813) c0 0) := by
  refine Ct.of2 pnX8 (own := RX8) rfl (Nat.le_of_ble_eq_true rfl) hst ?_
  intro p e s m args below meth c C hname
  change J p l e rmX8_drain s m args below meth c 2 G b _ 0 [(0, .ref z), (1, .int (nI c0))] [] S 0 0
  refine r_aload_n (i := 0) (n := 1) C dX8_drain_0 rfl rfl rfl ?_
  refine r_aload_n (i := 0) (n := 2) C dX8_drain_1 rfl rfl rfl ?_
  refine r_iload_n (i := 1) (n := 3) C dX8_drain_2 rfl rfl rfl ?_
  refine kX8_147 (n := 6) C (m_isCl_y hst S z ad hm c0 hc hth) hm.1 (by decide) (by decide) (Nat.le_of_ble_eq_true rfl) dX8_drain_3 rfl (fun r S1 hp => ?_)
  obtain ⟨hS, hr⟩ := hp
  subst S1
  subst r
  refine r_if_eqF (n := 9) (t := 18) C (by decide) dX8_drain_6 (by decide) rfl ?_
  refine r_aload_n (i := 0) (n := 10) C dX8_drain_9 rfl rfl rfl ?_
  refine hX8_17 (n := 13) C hm dX8_drain_10 rfl ?_
  refine r_iload_n (i := 1) (n := 14) C dX8_drain_13 rfl rfl rfl ?_
  refine q_zald (n := 15) C (c0) (ly_803 hm) rfl (by omega) dX8_drain_14 rfl ?_
  refine r_if_neT (t := 22) C hpl dX8_drain_15 (by decide) ?_
  refine r_aload_n (i := 0) (n := 23) C dX8_drain_22 rfl rfl rfl ?_
  refine hX8_32 (n := 26) C hm dX8_drain_23 rfl ?_
  refine r_iload_n (i := 1) (n := 27) C dX8_drain_26 rfl rfl rfl ?_
  refine q_iald (n := 28) C (c0) (ly_808 hm) rfl (by omega) dX8_drain_27 rfl ?_
  refine r_iconst (v := 1) (n := 29) C dX8_drain_28 rfl rfl ?_
  refine r_icmp_eqT (t := 36) C h1 dX8_drain_29 (by decide) ?_
  refine r_iconst (v := 0) (n := 37) C dX8_drain_36 rfl rfl ?_
  refine kX8_144 (n := 40) C (m_refused0 hst S z ad hm) hm.1 (by decide) (by decide) (Nat.le_of_ble_eq_true rfl) dX8_drain_37 rfl (fun r S1 hp => ?_)
  obtain ⟨hS, hr⟩ := hp
  subst S1
  subst r
  refine r_if_neF (n := 43) (t := 57) C rfl dX8_drain_40 (by decide) rfl ?_
  refine r_aload_n (i := 0) (n := 44) C dX8_drain_43 rfl rfl rfl ?_
  refine hX8_32 (n := 47) C hm dX8_drain_44 rfl ?_
  refine r_iload_n (i := 1) (n := 48) C dX8_drain_47 rfl rfl rfl ?_
  refine r_iconst (v := 3) (n := 49) C dX8_drain_48 rfl rfl ?_
  refine q_iast (n := 50) C (c0) (ly_808 hm) rfl (by omega) dX8_drain_49 rfl ?_
  refine r_aload_n (i := 0) (n := 51) C dX8_drain_50 rfl rfl rfl ?_
  refine hX8_48 (n := 54) C hm dX8_drain_51 rfl ?_
  refine r_iload_n (i := 1) (n := 55) C dX8_drain_54 rfl rfl rfl ?_
  refine r_iconst (v := 0) (n := 56) C dX8_drain_55 rfl rfl ?_
  refine q_zast (n := 57) C (c0) (ly_813 hm) rfl (by omega) (by first | assumption | rfl) dX8_drain_56 rfl ?_
  refine t_v C dX8_drain_57 (by decide) ?_
  rfl
def gnOk (g : UInt64) : Prop := ¬ Op.cmpValue (FP.dcmp g FP.dconst0) .l < 0 ∧ ¬ 0 < Op.cmpValue (FP.dcmp g FP.dconst1) .g
set_option maxRecDepth 100000 in
set_option maxHeartbeats 1000000 in
theorem m_gain_n1 {l : Launch} {G : GG} {b : Nat} (hst : l.stackTraces = false) (S : Sw) (z : Nat) (ad : Nat → Nat) (hm : lay S z ad) (c0 : Int32) (hno_ : ¬ isCl S ad c0) (g : UInt64) : Ct l G b yX8_gain cX8_gain 5 none rmX8_gain mV [.ref z, .int c0, .double g] S (fun _ S' => S' = uI S 800 z 1) := by
  refine Ct.of2 pnX8 (own := RX8) rfl (Nat.le_of_ble_eq_true rfl) hst ?_
  intro p e s m args below meth c C hname
  change J p l e rmX8_gain s m args below meth c 5 G b _ 0 [(0, .ref z), (1, .int c0), (2, .double g)] [] S 0 0
  refine r_aload_n (i := 0) (n := 1) C dX8_gain_0 rfl rfl rfl ?_
  refine r_iload_n (i := 1) (n := 2) C dX8_gain_1 rfl rfl rfl ?_
  refine kX8_147 (n := 5) C (m_isCl_n hst S z ad hm c0 hno_) hm.1 (by decide) (by decide) (Nat.le_of_ble_eq_true rfl) dX8_gain_2 rfl (fun r S1 hp => ?_)
  obtain ⟨hS, hr⟩ := hp
  subst S1
  subst r
  refine r_if_eqT (t := 33) C rfl dX8_gain_5 (by decide) ?_
  refine r_iconst (v := 0) (n := 34) C dX8_gain_33 rfl rfl ?_
  refine r_istore (n := 36) C dX8_gain_34 (by decide) rfl rfl ?_
  refine r_aload_n (i := 0) (n := 37) C dX8_gain_36 rfl rfl rfl ?_
  refine r_iload (n := 39) C dX8_gain_37 rfl rfl ?_
  refine r_if_eqT (t := 46) C (ceq (a := 0) (b := 0) rfl rfl (by omega)) dX8_gain_39 (by decide) ?_
  refine r_iconst (v := 1) (n := 47) C dX8_gain_46 rfl rfl ?_
  refine kX8_144 (n := 50) C (m_refused1 hst S z ad hm) hm.1 (by decide) (by decide) (Nat.le_of_ble_eq_true rfl) dX8_gain_47 rfl (fun r S1 hp => ?_)
  obtain ⟨hS, hr⟩ := hp
  subst S1
  subst r
  refine r_if_neT (t := 65) C (by decide) dX8_gain_50 (by decide) ?_
  refine t_v C dX8_gain_65 (by decide) ?_
  rfl
set_option maxRecDepth 100000 in
set_option maxHeartbeats 1000000 in
theorem m_gain_n2 {l : Launch} {G : GG} {b : Nat} (hst : l.stackTraces = false) (S : Sw) (z : Nat) (ad : Nat → Nat) (hm : lay S z ad) (c0 : Nat) (hc : c0 < 6) (hth : ¬ aI S (ad 802) c0 = 0) (hpl : aI S (ad 803) c0 = 0) (g : UInt64) : Ct l G b yX8_gain cX8_gain 5 none rmX8_gain mV [.ref z, .int (nI c0), .double g] S (fun _ S' => S' = uI S 800 z 1) := by
  refine Ct.of2 pnX8 (own := RX8) rfl (Nat.le_of_ble_eq_true rfl) hst ?_
  intro p e s m args below meth c C hname
  change J p l e rmX8_gain s m args below meth c 5 G b _ 0 [(0, .ref z), (1, .int (nI c0)), (2, .double g)] [] S 0 0
  refine r_aload_n (i := 0) (n := 1) C dX8_gain_0 rfl rfl rfl ?_
  refine r_iload_n (i := 1) (n := 2) C dX8_gain_1 rfl rfl rfl ?_
  refine kX8_147 (n := 5) C (m_isCl_y hst S z ad hm c0 hc hth) hm.1 (by decide) (by decide) (Nat.le_of_ble_eq_true rfl) dX8_gain_2 rfl (fun r S1 hp => ?_)
  obtain ⟨hS, hr⟩ := hp
  subst S1
  subst r
  refine r_if_eqF (n := 8) (t := 33) C (by decide) dX8_gain_5 (by decide) rfl ?_
  refine r_aload_n (i := 0) (n := 9) C dX8_gain_8 rfl rfl rfl ?_
  refine hX8_17 (n := 12) C hm dX8_gain_9 rfl ?_
  refine r_iload_n (i := 1) (n := 13) C dX8_gain_12 rfl rfl rfl ?_
  refine q_zald (n := 14) C (c0) (ly_803 hm) rfl (by omega) dX8_gain_13 rfl ?_
  refine r_if_eqT (t := 33) C hpl dX8_gain_14 (by decide) ?_
  refine r_iconst (v := 0) (n := 34) C dX8_gain_33 rfl rfl ?_
  refine r_istore (n := 36) C dX8_gain_34 (by decide) rfl rfl ?_
  refine r_aload_n (i := 0) (n := 37) C dX8_gain_36 rfl rfl rfl ?_
  refine r_iload (n := 39) C dX8_gain_37 rfl rfl ?_
  refine r_if_eqT (t := 46) C (ceq (a := 0) (b := 0) rfl rfl (by omega)) dX8_gain_39 (by decide) ?_
  refine r_iconst (v := 1) (n := 47) C dX8_gain_46 rfl rfl ?_
  refine kX8_144 (n := 50) C (m_refused1 hst S z ad hm) hm.1 (by decide) (by decide) (Nat.le_of_ble_eq_true rfl) dX8_gain_47 rfl (fun r S1 hp => ?_)
  obtain ⟨hS, hr⟩ := hp
  subst S1
  subst r
  refine r_if_neT (t := 65) C (by decide) dX8_gain_50 (by decide) ?_
  refine t_v C dX8_gain_65 (by decide) ?_
  rfl
set_option maxRecDepth 100000 in
set_option maxHeartbeats 1000000 in
theorem m_gain_n3 {l : Launch} {G : GG} {b : Nat} (hst : l.stackTraces = false) (S : Sw) (z : Nat) (ad : Nat → Nat) (hm : lay S z ad) (c0 : Nat) (hc : c0 < 6) (hth : ¬ aI S (ad 802) c0 = 0) (hpl : ¬ aI S (ad 803) c0 = 0) (g : UInt64) (hg : ¬ gnOk g) : Ct l G b yX8_gain cX8_gain 5 none rmX8_gain mV [.ref z, .int (nI c0), .double g] S (fun _ S' => S' = uI S 800 z 1) := by
  refine Ct.of2 pnX8 (own := RX8) rfl (Nat.le_of_ble_eq_true rfl) hst ?_
  intro p e s m args below meth c C hname
  change J p l e rmX8_gain s m args below meth c 5 G b _ 0 [(0, .ref z), (1, .int (nI c0)), (2, .double g)] [] S 0 0
  refine r_aload_n (i := 0) (n := 1) C dX8_gain_0 rfl rfl rfl ?_
  refine r_iload_n (i := 1) (n := 2) C dX8_gain_1 rfl rfl rfl ?_
  refine kX8_147 (n := 5) C (m_isCl_y hst S z ad hm c0 hc hth) hm.1 (by decide) (by decide) (Nat.le_of_ble_eq_true rfl) dX8_gain_2 rfl (fun r S1 hp => ?_)
  obtain ⟨hS, hr⟩ := hp
  subst S1
  subst r
  refine r_if_eqF (n := 8) (t := 33) C (by decide) dX8_gain_5 (by decide) rfl ?_
  refine r_aload_n (i := 0) (n := 9) C dX8_gain_8 rfl rfl rfl ?_
  refine hX8_17 (n := 12) C hm dX8_gain_9 rfl ?_
  refine r_iload_n (i := 1) (n := 13) C dX8_gain_12 rfl rfl rfl ?_
  refine q_zald (n := 14) C (c0) (ly_803 hm) rfl (by omega) dX8_gain_13 rfl ?_
  refine r_if_eqF (n := 17) (t := 33) C hpl dX8_gain_14 (by decide) rfl ?_
  refine r_dload_n (i := 2) (n := 18) C dX8_gain_17 rfl rfl rfl ?_
  refine r_dconst0 (n := 19) C dX8_gain_18 rfl ?_
  refine r_dcmp (n := 20) C dX8_gain_19 rfl ?_
  refine r_if_lt (n := 23) (t := 33) C dX8_gain_20 (by decide) rfl (fun h20 => ?_) (fun h20 => ?_)
  · refine r_iconst (v := 0) (n := 34) C dX8_gain_33 rfl rfl ?_
    refine r_istore (n := 36) C dX8_gain_34 (by decide) rfl rfl ?_
    refine r_aload_n (i := 0) (n := 37) C dX8_gain_36 rfl rfl rfl ?_
    refine r_iload (n := 39) C dX8_gain_37 rfl rfl ?_
    refine r_if_eqT (t := 46) C (ceq (a := 0) (b := 0) rfl rfl (by omega)) dX8_gain_39 (by decide) ?_
    refine r_iconst (v := 1) (n := 47) C dX8_gain_46 rfl rfl ?_
    refine kX8_144 (n := 50) C (m_refused1 hst S z ad hm) hm.1 (by decide) (by decide) (Nat.le_of_ble_eq_true rfl) dX8_gain_47 rfl (fun r S1 hp => ?_)
    obtain ⟨hS, hr⟩ := hp
    subst S1
    subst r
    refine r_if_neT (t := 65) C (by decide) dX8_gain_50 (by decide) ?_
    refine t_v C dX8_gain_65 (by decide) ?_
    rfl
  · refine r_dload_n (i := 2) (n := 24) C dX8_gain_23 rfl rfl rfl ?_
    refine r_dconst1 (n := 25) C dX8_gain_24 rfl ?_
    refine r_dcmp (n := 26) C dX8_gain_25 rfl ?_
    refine r_if_gt (n := 29) (t := 33) C dX8_gain_26 (by decide) rfl (fun h26 => ?_) (fun h26 => ?_)
    · refine r_iconst (v := 0) (n := 34) C dX8_gain_33 rfl rfl ?_
      refine r_istore (n := 36) C dX8_gain_34 (by decide) rfl rfl ?_
      refine r_aload_n (i := 0) (n := 37) C dX8_gain_36 rfl rfl rfl ?_
      refine r_iload (n := 39) C dX8_gain_37 rfl rfl ?_
      refine r_if_eqT (t := 46) C (ceq (a := 0) (b := 0) rfl rfl (by omega)) dX8_gain_39 (by decide) ?_
      refine r_iconst (v := 1) (n := 47) C dX8_gain_46 rfl rfl ?_
      refine kX8_144 (n := 50) C (m_refused1 hst S z ad hm) hm.1 (by decide) (by decide) (Nat.le_of_ble_eq_true rfl) dX8_gain_47 rfl (fun r S1 hp => ?_)
      obtain ⟨hS, hr⟩ := hp
      subst S1
      subst r
      refine r_if_neT (t := 65) C (by decide) dX8_gain_50 (by decide) ?_
      refine t_v C dX8_gain_65 (by decide) ?_
      rfl
    · exact absurd ⟨h20, h26⟩ hg
set_option maxRecDepth 100000 in
set_option maxHeartbeats 1000000 in
theorem m_gain_y {l : Launch} {G : GG} {b : Nat} (hst : l.stackTraces = false) (S : Sw) (z : Nat) (ad : Nat → Nat) (hm : lay S z ad) (c0 : Nat) (hc : c0 < 6) (hth : ¬ aI S (ad 802) c0 = 0) (hpl : ¬ aI S (ad 803) c0 = 0) (g : UInt64) (hg : gnOk g) (hnn : vf_n64 (FP.dmul g 4643211215818981376)) : Ct l G b yX8_gain cX8_gain 5 none rmX8_gain mV [.ref z, .int (nI c0), .double g] S (fun _ S' => S' = wI (uI S 800 z 0) (ad 807) c0 (FP.d2i (FP.dmul g 4643211215818981376))) := by
  refine Ct.of2 pnX8 (own := RX8) rfl (Nat.le_of_ble_eq_true rfl) hst ?_
  intro p e s m args below meth c C hname
  change J p l e rmX8_gain s m args below meth c 5 G b _ 0 [(0, .ref z), (1, .int (nI c0)), (2, .double g)] [] S 0 0
  refine r_aload_n (i := 0) (n := 1) C dX8_gain_0 rfl rfl rfl ?_
  refine r_iload_n (i := 1) (n := 2) C dX8_gain_1 rfl rfl rfl ?_
  refine kX8_147 (n := 5) C (m_isCl_y hst S z ad hm c0 hc hth) hm.1 (by decide) (by decide) (Nat.le_of_ble_eq_true rfl) dX8_gain_2 rfl (fun r S1 hp => ?_)
  obtain ⟨hS, hr⟩ := hp
  subst S1
  subst r
  refine r_if_eqF (n := 8) (t := 33) C (by decide) dX8_gain_5 (by decide) rfl ?_
  refine r_aload_n (i := 0) (n := 9) C dX8_gain_8 rfl rfl rfl ?_
  refine hX8_17 (n := 12) C hm dX8_gain_9 rfl ?_
  refine r_iload_n (i := 1) (n := 13) C dX8_gain_12 rfl rfl rfl ?_
  refine q_zald (n := 14) C (c0) (ly_803 hm) rfl (by omega) dX8_gain_13 rfl ?_
  refine r_if_eqF (n := 17) (t := 33) C hpl dX8_gain_14 (by decide) rfl ?_
  refine r_dload_n (i := 2) (n := 18) C dX8_gain_17 rfl rfl rfl ?_
  refine r_dconst0 (n := 19) C dX8_gain_18 rfl ?_
  refine r_dcmp (n := 20) C dX8_gain_19 rfl ?_
  refine r_if_ltF (n := 23) (t := 33) C hg.1 dX8_gain_20 (by decide) rfl ?_
  refine r_dload_n (i := 2) (n := 24) C dX8_gain_23 rfl rfl rfl ?_
  refine r_dconst1 (n := 25) C dX8_gain_24 rfl ?_
  refine r_dcmp (n := 26) C dX8_gain_25 rfl ?_
  refine r_if_gtF (n := 29) (t := 33) C hg.2 dX8_gain_26 (by decide) rfl ?_
  refine r_iconst (v := 1) (n := 30) C dX8_gain_29 rfl rfl ?_
  refine r_goto (t := 34) C dX8_gain_30 (by decide) ?_
  refine r_istore (n := 36) C dX8_gain_34 (by decide) rfl rfl ?_
  refine r_aload_n (i := 0) (n := 37) C dX8_gain_36 rfl rfl rfl ?_
  refine r_iload (n := 39) C dX8_gain_37 rfl rfl ?_
  refine r_if_eqF (n := 42) (t := 46) C (cne (a := 1) (b := 0) rfl rfl (by omega) (by omega) (by omega)) dX8_gain_39 (by decide) rfl ?_
  refine r_iconst (v := 0) (n := 43) C dX8_gain_42 rfl rfl ?_
  refine r_goto (t := 47) C dX8_gain_43 (by decide) ?_
  refine kX8_144 (n := 50) C (m_refused0 hst S z ad hm) hm.1 (by decide) (by decide) (Nat.le_of_ble_eq_true rfl) dX8_gain_47 rfl (fun r S1 hp => ?_)
  obtain ⟨hS, hr⟩ := hp
  subst S1
  subst r
  refine r_if_neF (n := 53) (t := 65) C rfl dX8_gain_50 (by decide) rfl ?_
  refine r_aload_n (i := 0) (n := 54) C dX8_gain_53 rfl rfl rfl ?_
  refine hX8_29 (n := 57) C hm dX8_gain_54 rfl ?_
  refine r_iload_n (i := 1) (n := 58) C dX8_gain_57 rfl rfl rfl ?_
  refine r_dload_n (i := 2) (n := 59) C dX8_gain_58 rfl rfl rfl ?_
  refine r_ldc2d (n := 62) (v := 4643211215818981376) C (mem_tb (mem_tbl 905 (by decide +kernel)) (by decide +kernel)) dX8_gain_59 rfl ?_
  refine r_dmul (n := 63) C dX8_gain_62 (by assumption) rfl ?_
  refine r_d2i (n := 64) C dX8_gain_63 rfl ?_
  refine q_iast (n := 65) C (c0) (ly_807 hm) rfl (by omega) dX8_gain_64 rfl ?_
  refine t_v C dX8_gain_65 (by decide) ?_
  rfl
set_option maxRecDepth 100000 in
set_option maxHeartbeats 1000000 in
theorem m_close_n {l : Launch} {G : GG} {b : Nat} (hst : l.stackTraces = false) (S : Sw) (z : Nat) (ad : Nat → Nat) (hm : lay S z ad) (c0 : Int32) (hno_ : ¬ isCl S ad c0) : Ct l G b yX8_close cX8_close 3 none rmX8_close mV [.ref z, .int c0] S (fun _ S' => S' = uI S 800 z 1) := by
  refine Ct.of2 pnX8 (own := RX8) rfl (Nat.le_of_ble_eq_true rfl) hst ?_
  intro p e s m args below meth c C hname
  change J p l e rmX8_close s m args below meth c 3 G b _ 0 [(0, .ref z), (1, .int c0)] [] S 0 0
  refine r_aload_n (i := 0) (n := 1) C dX8_close_0 rfl rfl rfl ?_
  refine r_aload_n (i := 0) (n := 2) C dX8_close_1 rfl rfl rfl ?_
  refine r_iload_n (i := 1) (n := 3) C dX8_close_2 rfl rfl rfl ?_
  refine kX8_147 (n := 6) C (m_isCl_n hst S z ad hm c0 hno_) hm.1 (by decide) (by decide) (Nat.le_of_ble_eq_true rfl) dX8_close_3 rfl (fun r S1 hp => ?_)
  obtain ⟨hS, hr⟩ := hp
  subst S1
  subst r
  refine r_if_eqT (t := 13) C rfl dX8_close_6 (by decide) ?_
  refine r_iconst (v := 1) (n := 14) C dX8_close_13 rfl rfl ?_
  refine kX8_144 (n := 17) C (m_refused1 hst S z ad hm) hm.1 (by decide) (by decide) (Nat.le_of_ble_eq_true rfl) dX8_close_14 rfl (fun r S1 hp => ?_)
  obtain ⟨hS, hr⟩ := hp
  subst S1
  subst r
  refine r_if_eqF (n := 20) (t := 21) C (by decide) dX8_close_17 (by decide) rfl ?_
  refine t_v C dX8_close_20 (by decide) ?_
  rfl
set_option maxRecDepth 100000 in
set_option maxHeartbeats 1000000 in
theorem m_close_y {l : Launch} {G : GG} {b : Nat} (hst : l.stackTraces = false) (S : Sw) (z : Nat) (ad : Nat → Nat) (hm : lay S z ad) (c0 : Nat) (hc : c0 < 6) (hth : ¬ aI S (ad 802) c0 = 0) : Ct l G b yX8_close cX8_close 3 none rmX8_close mV [.ref z, .int (nI c0)] S (fun _ S' => S' = (wI (wI (wI (wI (wI (uI S 800 z 0) (ad 802) c0 0) (ad 827) (6 * 0 + c0) 0) (ad 827) (6 * 1 + c0) 0) (ad 827) (6 * 2 + c0) 0) (ad 827) (6 * 3 + c0) 0)) := by
  refine Ct.of2 pnX8 (own := RX8) rfl (Nat.le_of_ble_eq_true rfl) hst ?_
  intro p e s m args below meth c C hname
  change J p l e rmX8_close s m args below meth c 3 G b _ 0 [(0, .ref z), (1, .int (nI c0))] [] S 0 0
  refine r_aload_n (i := 0) (n := 1) C dX8_close_0 rfl rfl rfl ?_
  refine r_aload_n (i := 0) (n := 2) C dX8_close_1 rfl rfl rfl ?_
  refine r_iload_n (i := 1) (n := 3) C dX8_close_2 rfl rfl rfl ?_
  refine kX8_147 (n := 6) C (m_isCl_y hst S z ad hm c0 hc hth) hm.1 (by decide) (by decide) (Nat.le_of_ble_eq_true rfl) dX8_close_3 rfl (fun r S1 hp => ?_)
  obtain ⟨hS, hr⟩ := hp
  subst S1
  subst r
  refine r_if_eqF (n := 9) (t := 13) C (by decide) dX8_close_6 (by decide) rfl ?_
  refine r_iconst (v := 0) (n := 10) C dX8_close_9 rfl rfl ?_
  refine r_goto (t := 14) C dX8_close_10 (by decide) ?_
  refine kX8_144 (n := 17) C (m_refused0 hst S z ad hm) hm.1 (by decide) (by decide) (Nat.le_of_ble_eq_true rfl) dX8_close_14 rfl (fun r S1 hp => ?_)
  obtain ⟨hS, hr⟩ := hp
  subst S1
  subst r
  refine r_if_eqT (t := 21) C rfl dX8_close_17 (by decide) ?_
  refine r_aload_n (i := 0) (n := 22) C dX8_close_21 rfl rfl rfl ?_
  refine hX8_13 (n := 25) C hm dX8_close_22 rfl ?_
  refine r_iload_n (i := 1) (n := 26) C dX8_close_25 rfl rfl rfl ?_
  refine r_iconst (v := 0) (n := 27) C dX8_close_26 rfl rfl ?_
  refine q_zast (n := 28) C (c0) (ly_802 hm) rfl (by omega) (by first | assumption | rfl) dX8_close_27 rfl ?_
  refine r_iconst (v := 0) (n := 29) C dX8_close_28 rfl rfl ?_
  refine r_istore_n (i := 2) (n := 30) C dX8_close_29 rfl (by decide) rfl rfl ?_
  refine r_iload_n (i := 2) (n := 31) C dX8_close_30 rfl rfl rfl ?_
  refine r_iconst (v := 4) (n := 32) C dX8_close_31 rfl rfl ?_
  refine r_icmp_geF (n := 35) (t := 53) C (cnle (a := 4) (b := 0) rfl rfl (by omega) (by omega)) dX8_close_32 (by decide) rfl ?_
  refine r_aload_n (i := 0) (n := 36) C dX8_close_35 rfl rfl rfl ?_
  refine hX8_88 (n := 39) C hm dX8_close_36 rfl ?_
  refine r_bipush (v := 6) (n := 41) C dX8_close_39 rfl rfl ?_
  refine r_iload_n (i := 2) (n := 42) C dX8_close_41 rfl rfl rfl ?_
  refine r_imul (n := 43) C dX8_close_42 rfl ?_
  refine r_iload_n (i := 1) (n := 44) C dX8_close_43 rfl rfl rfl ?_
  refine r_iadd (n := 45) C dX8_close_44 rfl ?_
  refine r_iconst (v := 0) (n := 46) C dX8_close_45 rfl rfl ?_
  refine q_iast (n := 47) C (((6 * 0) + c0)) (ly_827 hm) (add_nI (a := (6 * 0)) (b := c0) (mul_nI (a := 6) (b := 0) rfl rfl) rfl) (by omega) dX8_close_46 rfl ?_
  refine r_iinc (n := 50) C dX8_close_47 rfl rfl (by decide) rfl rfl ?_
  refine r_goto (t := 30) C dX8_close_50 (by decide) ?_
  refine r_iload_n (i := 2) (n := 31) C dX8_close_30 rfl rfl rfl ?_
  refine r_iconst (v := 4) (n := 32) C dX8_close_31 rfl rfl ?_
  refine r_icmp_geF (n := 35) (t := 53) C (cnle (a := 4) (b := 1) rfl rfl (by omega) (by omega)) dX8_close_32 (by decide) rfl ?_
  refine r_aload_n (i := 0) (n := 36) C dX8_close_35 rfl rfl rfl ?_
  refine hX8_88 (n := 39) C hm dX8_close_36 rfl ?_
  refine r_bipush (v := 6) (n := 41) C dX8_close_39 rfl rfl ?_
  refine r_iload_n (i := 2) (n := 42) C dX8_close_41 rfl rfl rfl ?_
  refine r_imul (n := 43) C dX8_close_42 rfl ?_
  refine r_iload_n (i := 1) (n := 44) C dX8_close_43 rfl rfl rfl ?_
  refine r_iadd (n := 45) C dX8_close_44 rfl ?_
  refine r_iconst (v := 0) (n := 46) C dX8_close_45 rfl rfl ?_
  refine q_iast (n := 47) C (((6 * 1) + c0)) (ly_827 hm) (add_nI (a := (6 * 1)) (b := c0) (mul_nI (a := 6) (b := 1) rfl rfl) rfl) (by omega) dX8_close_46 rfl ?_
  refine r_iinc (n := 50) C dX8_close_47 rfl rfl (by decide) rfl rfl ?_
  refine r_goto (t := 30) C dX8_close_50 (by decide) ?_
  refine r_iload_n (i := 2) (n := 31) C dX8_close_30 rfl rfl rfl ?_
  refine r_iconst (v := 4) (n := 32) C dX8_close_31 rfl rfl ?_
  refine r_icmp_geF (n := 35) (t := 53) C (cnle (a := 4) (b := 2) rfl rfl (by omega) (by omega)) dX8_close_32 (by decide) rfl ?_
  refine r_aload_n (i := 0) (n := 36) C dX8_close_35 rfl rfl rfl ?_
  refine hX8_88 (n := 39) C hm dX8_close_36 rfl ?_
  refine r_bipush (v := 6) (n := 41) C dX8_close_39 rfl rfl ?_
  refine r_iload_n (i := 2) (n := 42) C dX8_close_41 rfl rfl rfl ?_
  refine r_imul (n := 43) C dX8_close_42 rfl ?_
  refine r_iload_n (i := 1) (n := 44) C dX8_close_43 rfl rfl rfl ?_
  refine r_iadd (n := 45) C dX8_close_44 rfl ?_
  refine r_iconst (v := 0) (n := 46) C dX8_close_45 rfl rfl ?_
  refine q_iast (n := 47) C (((6 * 2) + c0)) (ly_827 hm) (add_nI (a := (6 * 2)) (b := c0) (mul_nI (a := 6) (b := 2) rfl rfl) rfl) (by omega) dX8_close_46 rfl ?_
  refine r_iinc (n := 50) C dX8_close_47 rfl rfl (by decide) rfl rfl ?_
  refine r_goto (t := 30) C dX8_close_50 (by decide) ?_
  refine r_iload_n (i := 2) (n := 31) C dX8_close_30 rfl rfl rfl ?_
  refine r_iconst (v := 4) (n := 32) C dX8_close_31 rfl rfl ?_
  refine r_icmp_geF (n := 35) (t := 53) C (cnle (a := 4) (b := 3) rfl rfl (by omega) (by omega)) dX8_close_32 (by decide) rfl ?_
  refine r_aload_n (i := 0) (n := 36) C dX8_close_35 rfl rfl rfl ?_
  refine hX8_88 (n := 39) C hm dX8_close_36 rfl ?_
  refine r_bipush (v := 6) (n := 41) C dX8_close_39 rfl rfl ?_
  refine r_iload_n (i := 2) (n := 42) C dX8_close_41 rfl rfl rfl ?_
  refine r_imul (n := 43) C dX8_close_42 rfl ?_
  refine r_iload_n (i := 1) (n := 44) C dX8_close_43 rfl rfl rfl ?_
  refine r_iadd (n := 45) C dX8_close_44 rfl ?_
  refine r_iconst (v := 0) (n := 46) C dX8_close_45 rfl rfl ?_
  refine q_iast (n := 47) C (((6 * 3) + c0)) (ly_827 hm) (add_nI (a := (6 * 3)) (b := c0) (mul_nI (a := 6) (b := 3) rfl rfl) rfl) (by omega) dX8_close_46 rfl ?_
  refine r_iinc (n := 50) C dX8_close_47 rfl rfl (by decide) rfl rfl ?_
  refine r_goto (t := 30) C dX8_close_50 (by decide) ?_
  refine r_iload_n (i := 2) (n := 31) C dX8_close_30 rfl rfl rfl ?_
  refine r_iconst (v := 4) (n := 32) C dX8_close_31 rfl rfl ?_
  refine r_icmp_geT (t := 53) C (cle (a := 4) (b := 4) rfl rfl (by omega) (by omega)) dX8_close_32 (by decide) ?_
  refine t_v C dX8_close_53 (by decide) ?_
  rfl
