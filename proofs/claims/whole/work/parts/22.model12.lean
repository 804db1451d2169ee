theorem lay_wI {S : Sw} {z a j : Nat} {ad : Nat → Nat} {v : Int32} (h : lay S z ad) : lay (wI S a j v) z ad := h
theorem lay_wD {S : Sw} {z a j : Nat} {ad : Nat → Nat} {v : UInt64} (h : lay S z ad) : lay (wD S a j v) z ad := h
theorem lay_uI {S : Sw} {z f a : Nat} {ad : Nat → Nat} {v : Int32} (h : lay S z ad) : lay (uI S f a v) z ad := h
set_option maxRecDepth 100000 in
set_option maxHeartbeats 1000000 in
theorem m_room_n {l : Launch} {G : GG} {b : Nat} (hst : l.stackTraces = false) (S : Sw) (z : Nat) (ad : Nat → Nat) (hm : lay S z ad) (c0 : Int32) (hno_ : ¬ isCl S ad c0) : Ct l G b yX8_room cX8_room 3 (some .int) rmX8_room mI [.ref z, .int c0] S (fun r S' => S' = uI S 800 z 1 ∧ r = 0) := by
  refine Ct.of2 pnX8 (own := RX8) rfl (Nat.le_of_ble_eq_true rfl) hst ?_
  intro p e s m args below meth c C hname
  change J p l e rmX8_room s m args below meth c 3 G b _ 0 [(0, .ref z), (1, .int c0)] [] S 0 0
  refine r_aload_n (i := 0) (n := 1) C dX8_room_0 rfl rfl rfl ?_
  refine r_aload_n (i := 0) (n := 2) C dX8_room_1 rfl rfl rfl ?_
  refine r_iload_n (i := 1) (n := 3) C dX8_room_2 rfl rfl rfl ?_
  refine kX8_147 (n := 6) C (m_isCl_n hst S z ad hm c0 hno_) hm.1 (by decide) (by decide) (Nat.le_of_ble_eq_true rfl) dX8_room_3 rfl (fun r S1 hp => ?_)
  obtain ⟨hS, hr⟩ := hp
  subst S1
  subst r
  refine r_if_eqT (t := 13) C rfl dX8_room_6 (by decide) ?_
  refine r_iconst (v := 1) (n := 14) C dX8_room_13 rfl rfl ?_
  refine kX8_144 (n := 17) C (m_refused1 hst S z ad hm) hm.1 (by decide) (by decide) (Nat.le_of_ble_eq_true rfl) dX8_room_14 rfl (fun r S1 hp => ?_)
  obtain ⟨hS, hr⟩ := hp
  subst S1
  subst r
  refine r_if_eqF (n := 20) (t := 22) C (by decide) dX8_room_17 (by decide) rfl ?_
  refine r_iconst (v := 0) (n := 21) C dX8_room_20 rfl rfl ?_
  refine t_i C rfl dX8_room_21 (by decide) ?_
  exact ⟨rfl, rfl⟩
set_option maxRecDepth 100000 in
set_option maxHeartbeats 1000000 in
theorem m_room_d {l : Launch} {G : GG} {b : Nat} (hst : l.stackTraces = false) (S : Sw) (z : Nat) (ad : Nat → Nat) (hm : lay S z ad) (c0 : Nat) (hc : c0 < 6) (hth : ¬ aI S (ad 802) c0 = 0) (hpl : ¬ aI S (ad 803) c0 = 0) (hs2 : ¬ aI S (ad 808) c0 ≤ 2) : Ct l G b yX8_room cX8_room 3 (some .int) rmX8_room mI [.ref z, .int (nI c0)] S (fun r S' => S' = uI S 800 z 0 ∧ r = 0) := by
  refine Ct.of2 pnX8 (own := RX8) rfl (Nat.le_of_ble_eq_true rfl) hst ?_
  intro p e s m args below meth c C hname
  change J p l e rmX8_room s m args below meth c 3 G b _ 0 [(0, .ref z), (1, .int (nI c0))] [] S 0 0
  refine r_aload_n (i := 0) (n := 1) C dX8_room_0 rfl rfl rfl ?_
  refine r_aload_n (i := 0) (n := 2) C dX8_room_1 rfl rfl rfl ?_
  refine r_iload_n (i := 1) (n := 3) C dX8_room_2 rfl rfl rfl ?_
  refine kX8_147 (n := 6) C (m_isCl_y hst S z ad hm c0 hc hth) hm.1 (by decide) (by decide) (Nat.le_of_ble_eq_true rfl) dX8_room_3 rfl (fun r S1 hp => ?_)
  obtain ⟨hS, hr⟩ := hp
  subst S1
  subst r
  refine r_if_eqF (n := 9) (t := 13) C (by decide) dX8_room_6 (by decide) rfl ?_
  refine r_iconst (v := 0) (n := 10) C dX8_room_9 rfl rfl ?_
  refine r_goto (t := 14) C dX8_room_10 (by decide) ?_
  refine kX8_144 (n := 17) C (m_refused0 hst S z ad hm) hm.1 (by decide) (by decide) (Nat.le_of_ble_eq_true rfl) dX8_room_14 rfl (fun r S1 hp => ?_)
  obtain ⟨hS, hr⟩ := hp
  subst S1
  subst r
  refine r_if_eqT (t := 22) C rfl dX8_room_17 (by decide) ?_
  refine r_aload_n (i := 0) (n := 23) C dX8_room_22 rfl rfl rfl ?_
  refine hX8_17 (n := 26) C hm dX8_room_23 rfl ?_
  refine r_iload_n (i := 1) (n := 27) C dX8_room_26 rfl rfl rfl ?_
  refine q_zald (n := 28) C (c0) (ly_803 hm) rfl (by omega) dX8_room_27 rfl ?_
  refine r_if_eqF (n := 31) (t := 43) C hpl dX8_room_28 (by decide) rfl ?_
  refine r_aload_n (i := 0) (n := 32) C dX8_room_31 rfl rfl rfl ?_
  refine hX8_32 (n := 35) C hm dX8_room_32 rfl ?_
  refine r_iload_n (i := 1) (n := 36) C dX8_room_35 rfl rfl rfl ?_
  refine q_iald (n := 37) C (c0) (ly_808 hm) rfl (by omega) dX8_room_36 rfl ?_
  refine r_iconst (v := 2) (n := 38) C dX8_room_37 rfl rfl ?_
  refine r_icmp_leF (n := 41) (t := 43) C hs2 dX8_room_38 (by decide) rfl ?_
  refine r_iconst (v := 0) (n := 42) C dX8_room_41 rfl rfl ?_
  refine t_i C rfl dX8_room_42 (by decide) ?_
  exact ⟨rfl, rfl⟩
def rmv (fr ch hf : Int32) : Int32 := (if 0 ≤ fr then fr else 0) * ch - (if hf = 0 then 0 else if (if 0 ≤ fr then fr else 0) ≤ 0 then 0 else 1)
set_option maxRecDepth 100000 in
set_option maxHeartbeats 1000000 in
theorem m_room_l {l : Launch} {G : GG} {b : Nat} (hst : l.stackTraces = false) (S : Sw) (z : Nat) (ad : Nat → Nat) (hm : lay S z ad) (c0 : Nat) (hc : c0 < 6) (hth : ¬ aI S (ad 802) c0 = 0) (hpl : aI S (ad 803) c0 = 0) : Ct l G b yX8_room cX8_room 3 (some .int) rmX8_room mI [.ref z, .int (nI c0)] S (fun r S' => S' = uI S 800 z 0 ∧ r = rmv (aI S (ad 821) c0) (aI S (ad 805) c0) (aI S (ad 813) c0)) := by
  refine Ct.of2 pnX8 (own := RX8) rfl (Nat.le_of_ble_eq_true rfl) hst ?_
  intro p e s m args below meth c C hname
  change J p l e rmX8_room s m args below meth c 3 G b _ 0 [(0, .ref z), (1, .int (nI c0))] [] S 0 0
  refine r_aload_n (i := 0) (n := 1) C dX8_room_0 rfl rfl rfl ?_
  refine r_aload_n (i := 0) (n := 2) C dX8_room_1 rfl rfl rfl ?_
  refine r_iload_n (i := 1) (n := 3) C dX8_room_2 rfl rfl rfl ?_
  refine kX8_147 (n := 6) C (m_isCl_y hst S z ad hm c0 hc hth) hm.1 (by decide) (by decide) (Nat.le_of_ble_eq_true rfl) dX8_room_3 rfl (fun r S1 hp => ?_)
  obtain ⟨hS, hr⟩ := hp
  subst S1
  subst r
  refine r_if_eqF (n := 9) (t := 13) C (by decide) dX8_room_6 (by decide) rfl ?_
  refine r_iconst (v := 0) (n := 10) C dX8_room_9 rfl rfl ?_
  refine r_goto (t := 14) C dX8_room_10 (by decide) ?_
  refine kX8_144 (n := 17) C (m_refused0 hst S z ad hm) hm.1 (by decide) (by decide) (Nat.le_of_ble_eq_true rfl) dX8_room_14 rfl (fun r S1 hp => ?_)
  obtain ⟨hS, hr⟩ := hp
  subst S1
  subst r
  refine r_if_eqT (t := 22) C rfl dX8_room_17 (by decide) ?_
  refine r_aload_n (i := 0) (n := 23) C dX8_room_22 rfl rfl rfl ?_
  refine hX8_17 (n := 26) C hm dX8_room_23 rfl ?_
  refine r_iload_n (i := 1) (n := 27) C dX8_room_26 rfl rfl rfl ?_
  refine q_zald (n := 28) C (c0) (ly_803 hm) rfl (by omega) dX8_room_27 rfl ?_
  refine r_if_eqT (t := 43) C hpl dX8_room_28 (by decide) ?_
  refine r_aload_n (i := 0) (n := 44) C dX8_room_43 rfl rfl rfl ?_
  refine hX8_17 (n := 47) C hm dX8_room_44 rfl ?_
  refine r_iload_n (i := 1) (n := 48) C dX8_room_47 rfl rfl rfl ?_
  refine q_zald (n := 49) C (c0) (ly_803 hm) rfl (by omega) dX8_room_48 rfl ?_
  refine r_if_eqT (t := 60) C hpl dX8_room_49 (by decide) ?_
  refine r_aload_n (i := 0) (n := 61) C dX8_room_60 rfl rfl rfl ?_
  refine hX8_73 (n := 64) C hm dX8_room_61 rfl ?_
  refine r_iload_n (i := 1) (n := 65) C dX8_room_64 rfl rfl rfl ?_
  refine q_iald (n := 66) C (c0) (ly_821 hm) rfl (by omega) dX8_room_65 rfl ?_
  refine r_istore_n (i := 2) (n := 67) C dX8_room_66 rfl (by decide) rfl rfl ?_
  refine r_iload_n (i := 2) (n := 68) C dX8_room_67 rfl rfl rfl ?_
  refine r_if_ge (n := 71) (t := 75) C dX8_room_68 (by decide) rfl (fun h68 => ?_) (fun h68 => ?_)
  · refine r_iload_n (i := 2) (n := 76) C dX8_room_75 rfl rfl rfl ?_
    refine r_istore_n (i := 2) (n := 77) C dX8_room_76 rfl (by decide) rfl rfl ?_
    refine r_iload_n (i := 2) (n := 78) C dX8_room_77 rfl rfl rfl ?_
    refine r_aload_n (i := 0) (n := 79) C dX8_room_78 rfl rfl rfl ?_
    refine hX8_23 (n := 82) C hm dX8_room_79 rfl ?_
    refine r_iload_n (i := 1) (n := 83) C dX8_room_82 rfl rfl rfl ?_
    refine q_iald (n := 84) C (c0) (ly_805 hm) rfl (by omega) dX8_room_83 rfl ?_
    refine r_imul (n := 85) C dX8_room_84 rfl ?_
    refine r_aload_n (i := 0) (n := 86) C dX8_room_85 rfl rfl rfl ?_
    refine hX8_48 (n := 89) C hm dX8_room_86 rfl ?_
    refine r_iload_n (i := 1) (n := 90) C dX8_room_89 rfl rfl rfl ?_
    refine q_zald (n := 91) C (c0) (ly_813 hm) rfl (by omega) dX8_room_90 rfl ?_
    refine r_if_eq (n := 94) (t := 102) C dX8_room_91 (by decide) rfl (fun h91 => ?_) (fun h91 => ?_)
    · refine r_iconst (v := 0) (n := 103) C dX8_room_102 rfl rfl ?_
      refine r_isub (n := 104) C dX8_room_103 rfl ?_
      refine t_i C rfl dX8_room_104 (by decide) ?_
      refine ⟨rfl, ?_⟩
      simp only [aI_uI] at *
      unfold rmv
      simp only [*, ↓reduceIte]
    · refine r_iload_n (i := 2) (n := 95) C dX8_room_94 rfl rfl rfl ?_
      refine r_if_le (n := 98) (t := 102) C dX8_room_95 (by decide) rfl (fun h95 => ?_) (fun h95 => ?_)
      · refine r_iconst (v := 0) (n := 103) C dX8_room_102 rfl rfl ?_
        refine r_isub (n := 104) C dX8_room_103 rfl ?_
        refine t_i C rfl dX8_room_104 (by decide) ?_
        refine ⟨rfl, ?_⟩
        simp only [aI_uI] at *
        unfold rmv
        simp only [*, ↓reduceIte]
      · refine r_iconst (v := 1) (n := 99) C dX8_room_98 rfl rfl ?_
        refine r_goto (t := 103) C dX8_room_99 (by decide) ?_
        refine r_isub (n := 104) C dX8_room_103 rfl ?_
        refine t_i C rfl dX8_room_104 (by decide) ?_
        refine ⟨rfl, ?_⟩
        simp only [aI_uI] at *
        unfold rmv
        simp only [*, ↓reduceIte]
  · refine r_iconst (v := 0) (n := 72) C dX8_room_71 rfl rfl ?_
    refine r_goto (t := 76) C dX8_room_72 (by decide) ?_
    refine r_istore_n (i := 2) (n := 77) C dX8_room_76 rfl (by decide) rfl rfl ?_
    refine r_iload_n (i := 2) (n := 78) C dX8_room_77 rfl rfl rfl ?_
    refine r_aload_n (i := 0) (n := 79) C dX8_room_78 rfl rfl rfl ?_
    refine hX8_23 (n := 82) C hm dX8_room_79 rfl ?_
    refine r_iload_n (i := 1) (n := 83) C dX8_room_82 rfl rfl rfl ?_
    refine q_iald (n := 84) C (c0) (ly_805 hm) rfl (by omega) dX8_room_83 rfl ?_
    refine r_imul (n := 85) C dX8_room_84 rfl ?_
    refine r_aload_n (i := 0) (n := 86) C dX8_room_85 rfl rfl rfl ?_
    refine hX8_48 (n := 89) C hm dX8_room_86 rfl ?_
    refine r_iload_n (i := 1) (n := 90) C dX8_room_89 rfl rfl rfl ?_
    refine q_zald (n := 91) C (c0) (ly_813 hm) rfl (by omega) dX8_room_90 rfl ?_
    refine r_if_eq (n := 94) (t := 102) C dX8_room_91 (by decide) rfl (fun h91 => ?_) (fun h91 => ?_)
    · refine r_iconst (v := 0) (n := 103) C dX8_room_102 rfl rfl ?_
      refine r_isub (n := 104) C dX8_room_103 rfl ?_
      refine t_i C rfl dX8_room_104 (by decide) ?_
      refine ⟨rfl, ?_⟩
      simp only [aI_uI] at *
      unfold rmv
      simp only [*, ↓reduceIte]
    · refine r_iload_n (i := 2) (n := 95) C dX8_room_94 rfl rfl rfl ?_
      refine r_if_le (n := 98) (t := 102) C dX8_room_95 (by decide) rfl (fun h95 => ?_) (fun h95 => ?_)
      · refine r_iconst (v := 0) (n := 103) C dX8_room_102 rfl rfl ?_
        refine r_isub (n := 104) C dX8_room_103 rfl ?_
        refine t_i C rfl dX8_room_104 (by decide) ?_
        refine ⟨rfl, ?_⟩
        simp only [aI_uI] at *
        unfold rmv
        simp only [*, ↓reduceIte]
      · refine r_iconst (v := 1) (n := 99) C dX8_room_98 rfl rfl ?_
        refine r_goto (t := 103) C dX8_room_99 (by decide) ?_
        refine r_isub (n := 104) C dX8_room_103 rfl ?_
        refine t_i C rfl dX8_room_104 (by decide) ?_
        refine ⟨rfl, ?_⟩
        simp only [aI_uI] at *
        unfold rmv
        simp only [*, ↓reduceIte]
set_option maxRecDepth 100000 in
set_option maxHeartbeats 1000000 in
theorem m_room_p {l : Launch} {G : GG} {b : Nat} (hst : l.stackTraces = false) (S : Sw) (z : Nat) (ad : Nat → Nat) (hm : lay S z ad) (c0 : Nat) (hc : c0 < 6) (hth : ¬ aI S (ad 802) c0 = 0) (hpl : ¬ aI S (ad 803) c0 = 0) (hs2 : aI S (ad 808) c0 ≤ 2) (nx rr : Nat) (hnx : aI S (ad 815) c0 = nI nx) (hrr : aI S (ad 804) c0 = nI rr) (hn : nx < 2 ^ 20) (hr : rtN rr) : Ct l G b yX8_room cX8_room 3 (some .int) rmX8_room mI [.ref z, .int (nI c0)] S (fun r S' => S' = uI S 800 z 0 ∧ r = rmv (200 - (aI S (ad 810) c0 - nI (nx * rr / 48000))) (aI S (ad 805) c0) (aI S (ad 813) c0)) := by
  refine Ct.of2 pnX8 (own := RX8) rfl (Nat.le_of_ble_eq_true rfl) hst ?_
  intro p e s m args below meth c C hname
  change J p l e rmX8_room s m args below meth c 3 G b _ 0 [(0, .ref z), (1, .int (nI c0))] [] S 0 0
  refine r_aload_n (i := 0) (n := 1) C dX8_room_0 rfl rfl rfl ?_
  refine r_aload_n (i := 0) (n := 2) C dX8_room_1 rfl rfl rfl ?_
  refine r_iload_n (i := 1) (n := 3) C dX8_room_2 rfl rfl rfl ?_
  refine kX8_147 (n := 6) C (m_isCl_y hst S z ad hm c0 hc hth) hm.1 (by decide) (by decide) (Nat.le_of_ble_eq_true rfl) dX8_room_3 rfl (fun r S1 hp => ?_)
  obtain ⟨hS, hr⟩ := hp
  subst S1
  subst r
  refine r_if_eqF (n := 9) (t := 13) C (by decide) dX8_room_6 (by decide) rfl ?_
  refine r_iconst (v := 0) (n := 10) C dX8_room_9 rfl rfl ?_
  refine r_goto (t := 14) C dX8_room_10 (by decide) ?_
  refine kX8_144 (n := 17) C (m_refused0 hst S z ad hm) hm.1 (by decide) (by decide) (Nat.le_of_ble_eq_true rfl) dX8_room_14 rfl (fun r S1 hp => ?_)
  obtain ⟨hS, hr⟩ := hp
  subst S1
  subst r
  refine r_if_eqT (t := 22) C rfl dX8_room_17 (by decide) ?_
  refine r_aload_n (i := 0) (n := 23) C dX8_room_22 rfl rfl rfl ?_
  refine hX8_17 (n := 26) C hm dX8_room_23 rfl ?_
  refine r_iload_n (i := 1) (n := 27) C dX8_room_26 rfl rfl rfl ?_
  refine q_zald (n := 28) C (c0) (ly_803 hm) rfl (by omega) dX8_room_27 rfl ?_
  refine r_if_eqF (n := 31) (t := 43) C hpl dX8_room_28 (by decide) rfl ?_
  refine r_aload_n (i := 0) (n := 32) C dX8_room_31 rfl rfl rfl ?_
  refine hX8_32 (n := 35) C hm dX8_room_32 rfl ?_
  refine r_iload_n (i := 1) (n := 36) C dX8_room_35 rfl rfl rfl ?_
  refine q_iald (n := 37) C (c0) (ly_808 hm) rfl (by omega) dX8_room_36 rfl ?_
  refine r_iconst (v := 2) (n := 38) C dX8_room_37 rfl rfl ?_
  refine r_icmp_leT (t := 43) C hs2 dX8_room_38 (by decide) ?_
  refine r_aload_n (i := 0) (n := 44) C dX8_room_43 rfl rfl rfl ?_
  refine hX8_17 (n := 47) C hm dX8_room_44 rfl ?_
  refine r_iload_n (i := 1) (n := 48) C dX8_room_47 rfl rfl rfl ?_
  refine q_zald (n := 49) C (c0) (ly_803 hm) rfl (by omega) dX8_room_48 rfl ?_
  refine r_if_eqF (n := 52) (t := 60) C hpl dX8_room_49 (by decide) rfl ?_
  refine r_aload_n (i := 0) (n := 53) C dX8_room_52 rfl rfl rfl ?_
  refine r_iload_n (i := 1) (n := 54) C dX8_room_53 rfl rfl rfl ?_
  refine kX8_175 (n := 57) C (m_spare hst (uI S 800 z 0) z ad hm c0 nx rr hc hnx hrr hn hr) hm.1 (by decide) (by decide) (Nat.le_of_ble_eq_true rfl) dX8_room_54 rfl (fun r S1 hp => ?_)
  obtain ⟨hS, hr⟩ := hp
  subst S1
  subst r
  refine r_goto (t := 66) C dX8_room_57 (by decide) ?_
  refine r_istore_n (i := 2) (n := 67) C dX8_room_66 rfl (by decide) rfl rfl ?_
  refine r_iload_n (i := 2) (n := 68) C dX8_room_67 rfl rfl rfl ?_
  refine r_if_ge (n := 71) (t := 75) C dX8_room_68 (by decide) rfl (fun h68 => ?_) (fun h68 => ?_)
  · refine r_iload_n (i := 2) (n := 76) C dX8_room_75 rfl rfl rfl ?_
    refine r_istore_n (i := 2) (n := 77) C dX8_room_76 rfl (by decide) rfl rfl ?_
    refine r_iload_n (i := 2) (n := 78) C dX8_room_77 rfl rfl rfl ?_
    refine r_aload_n (i := 0) (n := 79) C dX8_room_78 rfl rfl rfl ?_
    refine hX8_23 (n := 82) C hm dX8_room_79 rfl ?_
    refine r_iload_n (i := 1) (n := 83) C dX8_room_82 rfl rfl rfl ?_
    refine q_iald (n := 84) C (c0) (ly_805 hm) rfl (by omega) dX8_room_83 rfl ?_
    refine r_imul (n := 85) C dX8_room_84 rfl ?_
    refine r_aload_n (i := 0) (n := 86) C dX8_room_85 rfl rfl rfl ?_
    refine hX8_48 (n := 89) C hm dX8_room_86 rfl ?_
    refine r_iload_n (i := 1) (n := 90) C dX8_room_89 rfl rfl rfl ?_
    refine q_zald (n := 91) C (c0) (ly_813 hm) rfl (by omega) dX8_room_90 rfl ?_
    refine r_if_eq (n := 94) (t := 102) C dX8_room_91 (by decide) rfl (fun h91 => ?_) (fun h91 => ?_)
    · refine r_iconst (v := 0) (n := 103) C dX8_room_102 rfl rfl ?_
      refine r_isub (n := 104) C dX8_room_103 rfl ?_
      refine t_i C rfl dX8_room_104 (by decide) ?_
      refine ⟨rfl, ?_⟩
      simp only [aI_uI] at *
      unfold rmv
      simp only [*, ↓reduceIte]
    · refine r_iload_n (i := 2) (n := 95) C dX8_room_94 rfl rfl rfl ?_
      refine r_if_le (n := 98) (t := 102) C dX8_room_95 (by decide) rfl (fun h95 => ?_) (fun h95 => ?_)
      · refine r_iconst (v := 0) (n := 103) C dX8_room_102 rfl rfl ?_
        refine r_isub (n := 104) C dX8_room_103 rfl ?_
        refine t_i C rfl dX8_room_104 (by decide) ?_
        refine ⟨rfl, ?_⟩
        simp only [aI_uI] at *
        unfold rmv
        simp only [*, ↓reduceIte]
      · refine r_iconst (v := 1) (n := 99) C dX8_room_98 rfl rfl ?_
        refine r_goto (t := 103) C dX8_room_99 (by decide) ?_
        refine r_isub (n := 104) C dX8_room_103 rfl ?_
        refine t_i C rfl dX8_room_104 (by decide) ?_
        refine ⟨rfl, ?_⟩
        simp only [aI_uI] at *
        unfold rmv
        simp only [*, ↓reduceIte]
  · refine r_iconst (v := 0) (n := 72) C dX8_room_71 rfl rfl ?_
    refine r_goto (t := 76) C dX8_room_72 (by decide) ?_
    refine r_istore_n (i := 2) (n := 77) C dX8_room_76 rfl (by decide) rfl rfl ?_
    refine r_iload_n (i := 2) (n := 78) C dX8_room_77 rfl rfl rfl ?_
    refine r_aload_n (i := 0) (n := 79) C dX8_room_78 rfl rfl rfl ?_
    refine hX8_23 (n := 82) C hm dX8_room_79 rfl ?_
    refine r_iload_n (i := 1) (n := 83) C dX8_room_82 rfl rfl rfl ?_
    refine q_iald (n := 84) C (c0) (ly_805 hm) rfl (by omega) dX8_room_83 rfl ?_
    refine r_imul (n := 85) C dX8_room_84 rfl ?_
    refine r_aload_n (i := 0) (n := 86) C dX8_room_85 rfl rfl rfl ?_
    refine hX8_48 (n := 89) C hm dX8_room_86 rfl ?_
    refine r_iload_n (i := 1) (n := 90) C dX8_room_89 rfl rfl rfl ?_
    refine q_zald (n := 91) C (c0) (ly_813 hm) rfl (by omega) dX8_room_90 rfl ?_
    refine r_if_eq (n := 94) (t := 102) C dX8_room_91 (by decide) rfl (fun h91 => ?_) (fun h91 => ?_)
    · refine r_iconst (v := 0) (n := 103) C dX8_room_102 rfl rfl ?_
      refine r_isub (n := 104) C dX8_room_103 rfl ?_
      refine t_i C rfl dX8_room_104 (by decide) ?_
      refine ⟨rfl, ?_⟩
      simp only [aI_uI] at *
      unfold rmv
      simp only [*, ↓reduceIte]
    · refine r_iload_n (i := 2) (n := 95) C dX8_room_94 rfl rfl rfl ?_
      refine r_if_le (n := 98) (t := 102) C dX8_room_95 (by decide) rfl (fun h95 => ?_) (fun h95 => ?_)
      · refine r_iconst (v := 0) (n := 103) C dX8_room_102 rfl rfl ?_
        refine r_isub (n := 104) C dX8_room_103 rfl ?_
        refine t_i C rfl dX8_room_104 (by decide) ?_
        refine ⟨rfl, ?_⟩
        simp only [aI_uI] at *
        unfold rmv
        simp only [*, ↓reduceIte]
      · refine r_iconst (v := 1) (n := 99) C dX8_room_98 rfl rfl ?_
        refine r_goto (t := 103) C dX8_room_99 (by decide) ?_
        refine r_isub (n := 104) C dX8_room_103 rfl ?_
        refine t_i C rfl dX8_room_104 (by decide) ?_
        refine ⟨rfl, ?_⟩
        simp only [aI_uI] at *
        unfold rmv
        simp only [*, ↓reduceIte]
set_option maxRecDepth 100000 in
set_option maxHeartbeats 1000000 in
theorem m_ahead_n1 {l : Launch} {G : GG} {b : Nat} (hst : l.stackTraces = false) (S : Sw) (z : Nat) (ad : Nat → Nat) (hm : lay S z ad) (c0 : Int32) (hno_ : ¬ isCl S ad c0) : Ct l G b yX8_ahead cX8_ahead 3 (some .int) rmX8_ahead mI [.ref z, .int c0] S (fun r S' => S' = uI S 800 z 1 ∧ r = 0) := by
  refine Ct.of2 pnX8 (own := RX8) rfl (Nat.le_of_ble_eq_true rfl) hst ?_
  intro p e s m args below meth c C hname
  change J p l e rmX8_ahead s m args below meth c 3 G b _ 0 [(0, .ref z), (1, .int c0)] [] S 0 0
  refine r_aload_n (i := 0) (n := 1) C dX8_ahead_0 rfl rfl rfl ?_
  refine r_aload_n (i := 0) (n := 2) C dX8_ahead_1 rfl rfl rfl ?_
  refine r_iload_n (i := 1) (n := 3) C dX8_ahead_2 rfl rfl rfl ?_
  refine kX8_147 (n := 6) C (m_isCl_n hst S z ad hm c0 hno_) hm.1 (by decide) (by decide) (Nat.le_of_ble_eq_true rfl) dX8_ahead_3 rfl (fun r S1 hp => ?_)
  obtain ⟨hS, hr⟩ := hp
  subst S1
  subst r
  refine r_if_eqT (t := 22) C rfl dX8_ahead_6 (by decide) ?_
  refine r_iconst (v := 1) (n := 23) C dX8_ahead_22 rfl rfl ?_
  refine kX8_144 (n := 26) C (m_refused1 hst S z ad hm) hm.1 (by decide) (by decide) (Nat.le_of_ble_eq_true rfl) dX8_ahead_23 rfl (fun r S1 hp => ?_)
  obtain ⟨hS, hr⟩ := hp
  subst S1
  subst r
  refine r_if_eqF (n := 29) (t := 31) C (by decide) dX8_ahead_26 (by decide) rfl ?_
  refine r_iconst (v := 0) (n := 30) C dX8_ahead_29 rfl rfl ?_
  refine t_i C rfl dX8_ahead_30 (by decide) ?_
  exact ⟨rfl, rfl⟩
set_option maxRecDepth 100000 in
set_option maxHeartbeats 1000000 in
theorem m_ahead_n2 {l : Launch} {G : GG} {b : Nat} (hst : l.stackTraces = false) (S : Sw) (z : Nat) (ad : Nat → Nat) (hm : lay S z ad) (c0 : Nat) (hc : c0 < 6) (hth : ¬ aI S (ad 802) c0 = 0) (hpl : aI S (ad 803) c0 = 0) : Ct l G b yX8_ahead cX8_ahead 3 (some .int) rmX8_ahead mI [.ref z, .int (nI c0)] S (fun r S' => S' = uI S 800 z 1 ∧ r = 0) := by
  refine Ct.of2 pnX8 (own := RX8) rfl (Nat.le_of_ble_eq_true rfl) hst ?_
  intro p e s m args below meth c C hname
  change J p l e rmX8_ahead s m args below meth c 3 G b _ 0 [(0, .ref z), (1, .int (nI c0))] [] S 0 0
  refine r_aload_n (i := 0) (n := 1) C dX8_ahead_0 rfl rfl rfl ?_
  refine r_aload_n (i := 0) (n := 2) C dX8_ahead_1 rfl rfl rfl ?_
  refine r_iload_n (i := 1) (n := 3) C dX8_ahead_2 rfl rfl rfl ?_
  refine kX8_147 (n := 6) C (m_isCl_y hst S z ad hm c0 hc hth) hm.1 (by decide) (by decide) (Nat.le_of_ble_eq_true rfl) dX8_ahead_3 rfl (fun r S1 hp => ?_)
  obtain ⟨hS, hr⟩ := hp
  subst S1
  subst r
  refine r_if_eqF (n := 9) (t := 22) C (by decide) dX8_ahead_6 (by decide) rfl ?_
  refine r_aload_n (i := 0) (n := 10) C dX8_ahead_9 rfl rfl rfl ?_
  refine hX8_17 (n := 13) C hm dX8_ahead_10 rfl ?_
  refine r_iload_n (i := 1) (n := 14) C dX8_ahead_13 rfl rfl rfl ?_
  refine q_zald (n := 15) C (c0) (ly_803 hm) rfl (by omega) dX8_ahead_14 rfl ?_
  refine r_if_eqT (t := 22) C hpl dX8_ahead_15 (by decide) ?_
  refine r_iconst (v := 1) (n := 23) C dX8_ahead_22 rfl rfl ?_
  refine kX8_144 (n := 26) C (m_refused1 hst S z ad hm) hm.1 (by decide) (by decide) (Nat.le_of_ble_eq_true rfl) dX8_ahead_23 rfl (fun r S1 hp => ?_)
  obtain ⟨hS, hr⟩ := hp
  subst S1
  subst r
  refine r_if_eqF (n := 29) (t := 31) C (by decide) dX8_ahead_26 (by decide) rfl ?_
  refine r_iconst (v := 0) (n := 30) C dX8_ahead_29 rfl rfl ?_
  refine t_i C rfl dX8_ahead_30 (by decide) ?_
  exact ⟨rfl, rfl⟩
set_option maxRecDepth 100000 in
set_option maxHeartbeats 1000000 in
theorem m_ahead_y {l : Launch} {G : GG} {b : Nat} (hst : l.stackTraces = false) (S : Sw) (z : Nat) (ad : Nat → Nat) (hm : lay S z ad) (c0 : Nat) (hc : c0 < 6) (hth : ¬ aI S (ad 802) c0 = 0) (hpl : ¬ aI S (ad 803) c0 = 0) (h nx rr n2 : Nat) (hh : aI S (ad 810) c0 = nI h) (hb : h ≤ 12800) (hnx : aI S (ad 815) c0 = nI nx) (hrr : aI S (ad 804) c0 = nI rr) (hn : nx < 2 ^ 19) (hr : rtN rr) (hn2 : n2 ≤ 4000) (hall : ∀ n, n < n2 → (nx + 24 * n + 23) * rr / 48000 + (if rr = 48000 then 0 else 8) < h) (hend : ¬ (nx + 24 * n2 + 23) * rr / 48000 + (if rr = 48000 then 0 else 8) < h) : Ct l G b yX8_ahead cX8_ahead 3 (some .int) rmX8_ahead mI [.ref z, .int (nI c0)] S (fun r S' => S' = uI S 800 z 0 ∧ r = nI n2) := by
  refine Ct.of2 pnX8 (own := RX8) rfl (Nat.le_of_ble_eq_true rfl) hst ?_
  intro p e s m args below meth c C hname
  change J p l e rmX8_ahead s m args below meth c 3 G b _ 0 [(0, .ref z), (1, .int (nI c0))] [] S 0 0
  refine r_aload_n (i := 0) (n := 1) C dX8_ahead_0 rfl rfl rfl ?_
  refine r_aload_n (i := 0) (n := 2) C dX8_ahead_1 rfl rfl rfl ?_
  refine r_iload_n (i := 1) (n := 3) C dX8_ahead_2 rfl rfl rfl ?_
  refine kX8_147 (n := 6) C (m_isCl_y hst S z ad hm c0 hc hth) hm.1 (by decide) (by decide) (Nat.le_of_ble_eq_true rfl) dX8_ahead_3 rfl (fun r S1 hp => ?_)
  obtain ⟨hS, hr⟩ := hp
  subst S1
  subst r
  refine r_if_eqF (n := 9) (t := 22) C (by decide) dX8_ahead_6 (by decide) rfl ?_
  refine r_aload_n (i := 0) (n := 10) C dX8_ahead_9 rfl rfl rfl ?_
  refine hX8_17 (n := 13) C hm dX8_ahead_10 rfl ?_
  refine r_iload_n (i := 1) (n := 14) C dX8_ahead_13 rfl rfl rfl ?_
  refine q_zald (n := 15) C (c0) (ly_803 hm) rfl (by omega) dX8_ahead_14 rfl ?_
  refine r_if_eqF (n := 18) (t := 22) C hpl dX8_ahead_15 (by decide) rfl ?_
  refine r_iconst (v := 0) (n := 19) C dX8_ahead_18 rfl rfl ?_
  refine r_goto (t := 23) C dX8_ahead_19 (by decide) ?_
  refine kX8_144 (n := 26) C (m_refused0 hst S z ad hm) hm.1 (by decide) (by decide) (Nat.le_of_ble_eq_true rfl) dX8_ahead_23 rfl (fun r S1 hp => ?_)
  obtain ⟨hS, hr⟩ := hp
  subst S1
  subst r
  refine r_if_eqT (t := 31) C rfl dX8_ahead_26 (by decide) ?_
  refine r_iconst (v := 0) (n := 32) C dX8_ahead_31 rfl rfl ?_
  refine r_istore_n (i := 2) (n := 33) C dX8_ahead_32 rfl (by decide) rfl rfl ?_
  have hrl := rtN.le hr
  have lp : ∀ (q k : Nat), k + q = n2 → J p l e rmX8_ahead s m args below meth c 3 G b (vx_MQ below (Qp G b mI (fun r S' => S' = uI S 800 z 0 ∧ r = nI n2)) (XCp G b S (fun _ => False)) args s rmX8_ahead.cells rmX8_ahead.slots (Ab b)) 33 [(0, .ref z), (1, .int (nI c0)), (2, .int (nI k))] [] (uI S 800 z 0) 0 0 := by
    intro q
    induction q with
    | zero =>
      intro k hk
      rw [show k = n2 by omega]
      refine r_aload_n (i := 0) (n := 34) C dX8_ahead_33 rfl rfl rfl ?_
      refine r_iload_n (i := 1) (n := 35) C dX8_ahead_34 rfl rfl rfl ?_
      refine r_aload_n (i := 0) (n := 36) C dX8_ahead_35 rfl rfl rfl ?_
      refine hX8_54 (n := 39) C hm dX8_ahead_36 rfl ?_
      refine r_iload_n (i := 1) (n := 40) C dX8_ahead_39 rfl rfl rfl ?_
      refine q_ialdv (n := 41) (v := nI (nx)) C (c0) (ly_815 hm) rfl (by omega) dX8_ahead_40 rfl hnx ?_
      refine r_bipush (v := 24) (n := 43) C dX8_ahead_41 rfl rfl ?_
      refine r_iload_n (i := 2) (n := 44) C dX8_ahead_43 rfl rfl rfl ?_
      refine r_imul (n := 45) C dX8_ahead_44 rfl ?_
      rw [show (24 : Int32) * nI n2 = nI (24 * n2) from pk_mul 24 n2]
      refine r_iadd (n := 46) C dX8_ahead_45 rfl ?_
      rw [nI_add]
      refine r_bipush (v := 24) (n := 48) C dX8_ahead_46 rfl rfl ?_
      refine r_iadd (n := 49) C dX8_ahead_48 rfl ?_
      rw [show nI (nx + 24 * n2) + 24 = nI (nx + 24 * n2 + 24) from nI_add _ 24]
      refine r_iconst (v := 1) (n := 50) C dX8_ahead_49 rfl rfl ?_
      refine r_isub (n := 51) C dX8_ahead_50 rfl ?_
      refine r_aload_n (i := 0) (n := 52) C dX8_ahead_51 rfl rfl rfl ?_
      refine hX8_20 (n := 55) C hm dX8_ahead_52 rfl ?_
      refine r_iload_n (i := 1) (n := 56) C dX8_ahead_55 rfl rfl rfl ?_
      refine q_ialdv (n := 57) (v := nI (rr)) C (c0) (ly_804 hm) rfl (by omega) dX8_ahead_56 rfl hrr ?_
      refine r_ldc (n := 59) (v := 48000) C (mem_tb (mem_tbl 885 (by decide +kernel)) (by decide +kernel)) dX8_ahead_57 rfl ?_
      rw [show nI (nx + 24 * n2 + 24) - 1 = nI (nx + 24 * n2 + 23) from sub_nI (b := 1) rfl rfl (by omega)]
      refine kX8_195 (n := 62) C (m_isBacked hst (uI S 800 z 0) z ad hm c0 h hc hh hb (nx + 24 * n2 + 23) rr 48000 (by omega) hrl.1 hrl.2 (by omega) (by omega)) hm.1 (by decide) (by decide) (Nat.le_of_ble_eq_true rfl) dX8_ahead_59 rfl (fun r S1 hp => ?_)
      obtain ⟨hS, hr⟩ := hp
      subst S1
      subst r
      rw [if_neg hend]
      refine r_if_eqT (t := 71) C rfl dX8_ahead_62 (by decide) ?_
      refine r_iload_n (i := 2) (n := 72) C dX8_ahead_71 rfl rfl rfl ?_
      refine t_i C rfl dX8_ahead_72 (by decide) ?_
      exact ⟨rfl, rfl⟩
    | succ q ih =>
      intro k hk
      refine r_aload_n (i := 0) (n := 34) C dX8_ahead_33 rfl rfl rfl ?_
      refine r_iload_n (i := 1) (n := 35) C dX8_ahead_34 rfl rfl rfl ?_
      refine r_aload_n (i := 0) (n := 36) C dX8_ahead_35 rfl rfl rfl ?_
      refine hX8_54 (n := 39) C hm dX8_ahead_36 rfl ?_
      refine r_iload_n (i := 1) (n := 40) C dX8_ahead_39 rfl rfl rfl ?_
      refine q_ialdv (n := 41) (v := nI (nx)) C (c0) (ly_815 hm) rfl (by omega) dX8_ahead_40 rfl hnx ?_
      refine r_bipush (v := 24) (n := 43) C dX8_ahead_41 rfl rfl ?_
      refine r_iload_n (i := 2) (n := 44) C dX8_ahead_43 rfl rfl rfl ?_
      refine r_imul (n := 45) C dX8_ahead_44 rfl ?_
      rw [show (24 : Int32) * nI k = nI (24 * k) from pk_mul 24 k]
      refine r_iadd (n := 46) C dX8_ahead_45 rfl ?_
      rw [nI_add]
      refine r_bipush (v := 24) (n := 48) C dX8_ahead_46 rfl rfl ?_
      refine r_iadd (n := 49) C dX8_ahead_48 rfl ?_
      rw [show nI (nx + 24 * k) + 24 = nI (nx + 24 * k + 24) from nI_add _ 24]
      refine r_iconst (v := 1) (n := 50) C dX8_ahead_49 rfl rfl ?_
      refine r_isub (n := 51) C dX8_ahead_50 rfl ?_
      refine r_aload_n (i := 0) (n := 52) C dX8_ahead_51 rfl rfl rfl ?_
      refine hX8_20 (n := 55) C hm dX8_ahead_52 rfl ?_
      refine r_iload_n (i := 1) (n := 56) C dX8_ahead_55 rfl rfl rfl ?_
      refine q_ialdv (n := 57) (v := nI (rr)) C (c0) (ly_804 hm) rfl (by omega) dX8_ahead_56 rfl hrr ?_
      refine r_ldc (n := 59) (v := 48000) C (mem_tb (mem_tbl 885 (by decide +kernel)) (by decide +kernel)) dX8_ahead_57 rfl ?_
      rw [show nI (nx + 24 * k + 24) - 1 = nI (nx + 24 * k + 23) from sub_nI (b := 1) rfl rfl (by omega)]
      refine kX8_195 (n := 62) C (m_isBacked hst (uI S 800 z 0) z ad hm c0 h hc hh hb (nx + 24 * k + 23) rr 48000 (by omega) hrl.1 hrl.2 (by omega) (by omega)) hm.1 (by decide) (by decide) (Nat.le_of_ble_eq_true rfl) dX8_ahead_59 rfl (fun r S1 hp => ?_)
      obtain ⟨hS, hr⟩ := hp
      subst S1
      subst r
      rw [if_pos (hall k (by omega))]
      refine r_if_eqF (n := 65) (t := 71) C (by decide) dX8_ahead_62 (by decide) rfl ?_
      refine r_iinc (n := 68) C dX8_ahead_65 rfl rfl (by decide) rfl rfl ?_
      refine r_goto (t := 33) C dX8_ahead_68 (by decide) ?_
      exact J.to (by rw [show nI k + Int32.ofInt 1 = nI (k + 1) from nI_1 k]; rfl) (ih (k + 1) (by omega))
  exact J.to rfl (lp n2 0 (by omega))
def opOk (r ch bt : Int32) : Prop := isRt r ∧ (1 ≤ ch ∧ ch ≤ 2) ∧ (bt = 8 ∨ bt = 16)
def mOpn (S : Sw) (ad : Nat → Nat) (c : Nat) (pl r ch bt : Int32) : Sw := wI (wI (wI (wD (wI (wI (wI (wI (wI (wI (wI (wI (wI (wI (wI (wI (wI (wI S (ad 802) c 1) (ad 803) c pl) (ad 804) c r) (ad 805) c ch) (ad 806) c bt) (ad 807) c 256) (ad 808) c 0) (ad 809) c 0) (ad 810) c 0) (ad 813) c 0) (ad 815) c 0) (ad 816) c 0) (ad 817) c 0) (ad 818) c 0) (ad 819) c FP.dconst0) (ad 820) c 0) (ad 821) c 0) (ad 823) c 0
set_option maxRecDepth 100000 in
set_option maxHeartbeats 1000000 in
theorem m_open_n1 {l : Launch} {G : GG} {b : Nat} (hst : l.stackTraces = false) (S : Sw) (z : Nat) (ad : Nat → Nat) (hm : lay S z ad) (pl r0 ch bt : Int32) (hok : ¬ opOk r0 ch bt) (k0 : Nat) (hk0 : k0 < 6) (hfull : ∀ i, i < k0 → ¬ aI S (ad 802) i = 0) (hfree : aI S (ad 802) k0 = 0) : Ct l G b yX8_open cX8_open 7 (some .int) rmX8_open mI [.ref z, .int pl, .int r0, .int ch, .int bt] S (fun r S' => S' = uI S 800 z 1 ∧ r = 0) := by
  refine Ct.of2 pnX8 (own := RX8) rfl (Nat.le_of_ble_eq_true rfl) hst ?_
  intro p e s m args below meth c C hname
  change J p l e rmX8_open s m args below meth c 7 G b _ 0 [(0, .ref z), (1, .int pl), (2, .int r0), (3, .int ch), (4, .int bt)] [] S 0 0
  have lp : ∀ (q k : Nat), k + q = k0 → J p l e rmX8_open s m args below meth c 7 G b (vx_MQ below (Qp G b mI (fun r S' => S' = uI S 800 z 1 ∧ r = 0)) (XCp G b S (fun _ => False)) args s rmX8_open.cells rmX8_open.slots (Ab b)) 40 [(0, .ref z), (1, .int pl), (2, .int r0), (3, .int ch), (4, .int bt), (5, .int 0), (6, .int (nI k))] [] S 0 0 := by
    intro q
    induction q with
    | zero =>
      intro k hk
      rw [show k = k0 by omega]
      refine r_iload (n := 42) C dX8_open_40 rfl rfl ?_
      refine r_bipush (v := 6) (n := 44) C dX8_open_42 rfl rfl ?_
      refine r_icmp_geF (n := 47) (t := 63) C (cnle (a := 6) (b := k0) rfl rfl (by omega) (by omega)) dX8_open_44 (by decide) rfl ?_
      refine r_aload_n (i := 0) (n := 48) C dX8_open_47 rfl rfl rfl ?_
      refine hX8_13 (n := 51) C hm dX8_open_48 rfl ?_
      refine r_iload (n := 53) C dX8_open_51 rfl rfl ?_
      refine q_zald (n := 54) C (k0) (ly_802 hm) rfl (by omega) dX8_open_53 rfl ?_
      refine r_if_eqT (t := 63) C hfree dX8_open_54 (by decide) ?_
      refine r_aload_n (i := 0) (n := 64) C dX8_open_63 rfl rfl rfl ?_
      refine r_iload (n := 66) C dX8_open_64 rfl rfl ?_
      refine r_if_neF (n := 69) (t := 73) C (ceq (a := 0) (b := 0) rfl rfl (by omega)) dX8_open_66 (by decide) rfl ?_
      refine r_iconst (v := 1) (n := 70) C dX8_open_69 rfl rfl ?_
      refine r_goto (t := 85) C dX8_open_70 (by decide) ?_
      refine kX8_144 (n := 88) C (m_refused1 hst S z ad hm) hm.1 (by decide) (by decide) (Nat.le_of_ble_eq_true rfl) dX8_open_85 rfl (fun r S1 hp => ?_)
      obtain ⟨hS, hr⟩ := hp
      subst S1
      subst r
      refine r_if_eqF (n := 91) (t := 93) C (by decide) dX8_open_88 (by decide) rfl ?_
      refine r_iconst (v := 0) (n := 92) C dX8_open_91 rfl rfl ?_
      refine t_i C rfl dX8_open_92 (by decide) ?_
      exact ⟨rfl, rfl⟩
    | succ q ih =>
      intro k hk
      refine r_iload (n := 42) C dX8_open_40 rfl rfl ?_
      refine r_bipush (v := 6) (n := 44) C dX8_open_42 rfl rfl ?_
      refine r_icmp_geF (n := 47) (t := 63) C (cnle (a := 6) (b := k) rfl rfl (by omega) (by omega)) dX8_open_44 (by decide) rfl ?_
      refine r_aload_n (i := 0) (n := 48) C dX8_open_47 rfl rfl rfl ?_
      refine hX8_13 (n := 51) C hm dX8_open_48 rfl ?_
      refine r_iload (n := 53) C dX8_open_51 rfl rfl ?_
      refine q_zald (n := 54) C (k) (ly_802 hm) rfl (by omega) dX8_open_53 rfl ?_
      refine r_if_eqF (n := 57) (t := 63) C (hfull k (by omega)) dX8_open_54 (by decide) rfl ?_
      refine r_iinc (n := 60) C dX8_open_57 rfl rfl (by decide) rfl rfl ?_
      refine r_goto (t := 40) C dX8_open_60 (by decide) ?_
      exact J.to (by rw [show nI k + Int32.ofInt 1 = nI (k + 1) from nI_1 k]; rfl) (ih (k + 1) (by omega))
  have h35 : J p l e rmX8_open s m args below meth c 7 G b (vx_MQ below (Qp G b mI (fun r S' => S' = uI S 800 z 1 ∧ r = 0)) (XCp G b S (fun _ => False)) args s rmX8_open.cells rmX8_open.slots (Ab b)) 35 [(0, .ref z), (1, .int pl), (2, .int r0), (3, .int ch), (4, .int bt)] [.int 0] S 0 0 := by
    refine r_istore (n := 37) C dX8_open_35 (by decide) rfl rfl ?_
    refine r_iconst (v := 0) (n := 38) C dX8_open_37 rfl rfl ?_
    refine r_istore (n := 40) C dX8_open_38 (by decide) rfl rfl ?_
    exact J.to rfl (lp k0 0 (by omega))
  refine r_iload_n (i := 2) (n := 1) C dX8_open_0 rfl rfl rfl ?_
  refine kX8_140 (n := 4) C (m_isRate hst S r0) (by decide) (by decide) (Nat.le_of_ble_eq_true rfl) dX8_open_1 rfl (fun r S1 hp => ?_)
  obtain ⟨hS, hr1, hr2⟩ := hp
  subst S1
  by_cases h1 : isRt r0
  · rw [hr1 h1]
    refine r_if_eqF (n := 7) (t := 34) C (by decide) dX8_open_4 (by decide) rfl ?_
    refine r_iload_n (i := 3) (n := 8) C dX8_open_7 rfl rfl rfl ?_
    refine r_iconst (v := 1) (n := 9) C dX8_open_8 rfl rfl ?_
    refine r_iconst (v := 2) (n := 10) C dX8_open_9 rfl rfl ?_
    refine kX8_130 (n := 13) C (m_isIn hst S ch 1 2) (by decide) (by decide) (Nat.le_of_ble_eq_true rfl) dX8_open_10 rfl (fun r S1 hp => ?_)
    obtain ⟨hS, hr⟩ := hp
    subst S1
    subst r
    by_cases h2 : 1 ≤ ch ∧ ch ≤ 2
    · rw [if_pos h2]
      refine r_if_eqF (n := 16) (t := 34) C (by decide) dX8_open_13 (by decide) rfl ?_
      refine r_iload (n := 18) C dX8_open_16 rfl rfl ?_
      refine r_bipush (v := 8) (n := 20) C dX8_open_18 rfl rfl ?_
      refine r_icmp_eq (n := 23) (t := 30) C dX8_open_20 (by decide) rfl (fun h20 => ?_) (fun h20 => ?_)
      · refine r_iconst (v := 1) (n := 31) C dX8_open_30 rfl rfl ?_
        refine r_goto (t := 35) C dX8_open_31 (by decide) ?_
        first | exact J.to rfl h35 | exact absurd (show opOk r0 ch bt from And.intro h1 (And.intro h2 (by first | exact Or.inl h20 | exact Or.inr h27))) hok
      · refine r_iload (n := 25) C dX8_open_23 rfl rfl ?_
        refine r_bipush (v := 16) (n := 27) C dX8_open_25 rfl rfl ?_
        refine r_icmp_ne (n := 30) (t := 34) C dX8_open_27 (by decide) rfl (fun h27 => ?_) (fun h27 => ?_)
        · refine r_iconst (v := 0) (n := 35) C dX8_open_34 rfl rfl ?_
          first | exact J.to rfl h35 | exact absurd (show opOk r0 ch bt from And.intro h1 (And.intro h2 (by first | exact Or.inl h20 | exact Or.inr h27))) hok
        · refine r_iconst (v := 1) (n := 31) C dX8_open_30 rfl rfl ?_
          refine r_goto (t := 35) C dX8_open_31 (by decide) ?_
          first | exact J.to rfl h35 | exact absurd (show opOk r0 ch bt from And.intro h1 (And.intro h2 (by first | exact Or.inl h20 | exact Or.inr h27))) hok
    · rw [if_neg h2]
      refine r_if_eqT (t := 34) C rfl dX8_open_13 (by decide) ?_
      refine r_iconst (v := 0) (n := 35) C dX8_open_34 rfl rfl ?_
      exact J.to rfl h35
  · rw [hr2 h1]
    refine r_if_eqT (t := 34) C rfl dX8_open_4 (by decide) ?_
    refine r_iconst (v := 0) (n := 35) C dX8_open_34 rfl rfl ?_
    exact J.to rfl h35
set_option maxRecDepth 100000 in
set_option maxHeartbeats 1000000 in
theorem m_open_n2 {l : Launch} {G : GG} {b : Nat} (hst : l.stackTraces = false) (S : Sw) (z : Nat) (ad : Nat → Nat) (hm : lay S z ad) (pl r0 ch bt : Int32) (hok : ¬ opOk r0 ch bt) (hfull : ∀ i, i < 6 → ¬ aI S (ad 802) i = 0) : Ct l G b yX8_open cX8_open 7 (some .int) rmX8_open mI [.ref z, .int pl, .int r0, .int ch, .int bt] S (fun r S' => S' = uI S 800 z 1 ∧ r = 0) := by
  refine Ct.of2 pnX8 (own := RX8) rfl (Nat.le_of_ble_eq_true rfl) hst ?_
  intro p e s m args below meth c C hname
  change J p l e rmX8_open s m args below meth c 7 G b _ 0 [(0, .ref z), (1, .int pl), (2, .int r0), (3, .int ch), (4, .int bt)] [] S 0 0
  have lp : ∀ (q k : Nat), k + q = 6 → J p l e rmX8_open s m args below meth c 7 G b (vx_MQ below (Qp G b mI (fun r S' => S' = uI S 800 z 1 ∧ r = 0)) (XCp G b S (fun _ => False)) args s rmX8_open.cells rmX8_open.slots (Ab b)) 40 [(0, .ref z), (1, .int pl), (2, .int r0), (3, .int ch), (4, .int bt), (5, .int 0), (6, .int (nI k))] [] S 0 0 := by
    intro q
    induction q with
    | zero =>
      intro k hk
      rw [show k = 6 by omega]
      refine r_iload (n := 42) C dX8_open_40 rfl rfl ?_
      refine r_bipush (v := 6) (n := 44) C dX8_open_42 rfl rfl ?_
      refine r_icmp_geT (t := 63) C (cle (a := 6) (b := 6) rfl rfl (by omega) (by omega)) dX8_open_44 (by decide) ?_
      refine r_aload_n (i := 0) (n := 64) C dX8_open_63 rfl rfl rfl ?_
      refine r_iload (n := 66) C dX8_open_64 rfl rfl ?_
      refine r_if_neF (n := 69) (t := 73) C (ceq (a := 0) (b := 0) rfl rfl (by omega)) dX8_open_66 (by decide) rfl ?_
      refine r_iconst (v := 1) (n := 70) C dX8_open_69 rfl rfl ?_
      refine r_goto (t := 85) C dX8_open_70 (by decide) ?_
      refine kX8_144 (n := 88) C (m_refused1 hst S z ad hm) hm.1 (by decide) (by decide) (Nat.le_of_ble_eq_true rfl) dX8_open_85 rfl (fun r S1 hp => ?_)
      obtain ⟨hS, hr⟩ := hp
      subst S1
      subst r
      refine r_if_eqF (n := 91) (t := 93) C (by decide) dX8_open_88 (by decide) rfl ?_
      refine r_iconst (v := 0) (n := 92) C dX8_open_91 rfl rfl ?_
      refine t_i C rfl dX8_open_92 (by decide) ?_
      exact ⟨rfl, rfl⟩
    | succ q ih =>
      intro k hk
      refine r_iload (n := 42) C dX8_open_40 rfl rfl ?_
      refine r_bipush (v := 6) (n := 44) C dX8_open_42 rfl rfl ?_
      refine r_icmp_geF (n := 47) (t := 63) C (cnle (a := 6) (b := k) rfl rfl (by omega) (by omega)) dX8_open_44 (by decide) rfl ?_
      refine r_aload_n (i := 0) (n := 48) C dX8_open_47 rfl rfl rfl ?_
      refine hX8_13 (n := 51) C hm dX8_open_48 rfl ?_
      refine r_iload (n := 53) C dX8_open_51 rfl rfl ?_
      refine q_zald (n := 54) C (k) (ly_802 hm) rfl (by omega) dX8_open_53 rfl ?_
      refine r_if_eqF (n := 57) (t := 63) C (hfull k (by omega)) dX8_open_54 (by decide) rfl ?_
      refine r_iinc (n := 60) C dX8_open_57 rfl rfl (by decide) rfl rfl ?_
      refine r_goto (t := 40) C dX8_open_60 (by decide) ?_
      exact J.to (by rw [show nI k + Int32.ofInt 1 = nI (k + 1) from nI_1 k]; rfl) (ih (k + 1) (by omega))
  have h35 : J p l e rmX8_open s m args below meth c 7 G b (vx_MQ below (Qp G b mI (fun r S' => S' = uI S 800 z 1 ∧ r = 0)) (XCp G b S (fun _ => False)) args s rmX8_open.cells rmX8_open.slots (Ab b)) 35 [(0, .ref z), (1, .int pl), (2, .int r0), (3, .int ch), (4, .int bt)] [.int 0] S 0 0 := by
    refine r_istore (n := 37) C dX8_open_35 (by decide) rfl rfl ?_
    refine r_iconst (v := 0) (n := 38) C dX8_open_37 rfl rfl ?_
    refine r_istore (n := 40) C dX8_open_38 (by decide) rfl rfl ?_
    exact J.to rfl (lp 6 0 (by omega))
  refine r_iload_n (i := 2) (n := 1) C dX8_open_0 rfl rfl rfl ?_
  refine kX8_140 (n := 4) C (m_isRate hst S r0) (by decide) (by decide) (Nat.le_of_ble_eq_true rfl) dX8_open_1 rfl (fun r S1 hp => ?_)
  obtain ⟨hS, hr1, hr2⟩ := hp
  subst S1
  by_cases h1 : isRt r0
  · rw [hr1 h1]
    refine r_if_eqF (n := 7) (t := 34) C (by decide) dX8_open_4 (by decide) rfl ?_
    refine r_iload_n (i := 3) (n := 8) C dX8_open_7 rfl rfl rfl ?_
    refine r_iconst (v := 1) (n := 9) C dX8_open_8 rfl rfl ?_
    refine r_iconst (v := 2) (n := 10) C dX8_open_9 rfl rfl ?_
    refine kX8_130 (n := 13) C (m_isIn hst S ch 1 2) (by decide) (by decide) (Nat.le_of_ble_eq_true rfl) dX8_open_10 rfl (fun r S1 hp => ?_)
    obtain ⟨hS, hr⟩ := hp
    subst S1
    subst r
    by_cases h2 : 1 ≤ ch ∧ ch ≤ 2
    · rw [if_pos h2]
      refine r_if_eqF (n := 16) (t := 34) C (by decide) dX8_open_13 (by decide) rfl ?_
      refine r_iload (n := 18) C dX8_open_16 rfl rfl ?_
      refine r_bipush (v := 8) (n := 20) C dX8_open_18 rfl rfl ?_
      refine r_icmp_eq (n := 23) (t := 30) C dX8_open_20 (by decide) rfl (fun h20 => ?_) (fun h20 => ?_)
      · refine r_iconst (v := 1) (n := 31) C dX8_open_30 rfl rfl ?_
        refine r_goto (t := 35) C dX8_open_31 (by decide) ?_
        first | exact J.to rfl h35 | exact absurd (show opOk r0 ch bt from And.intro h1 (And.intro h2 (by first | exact Or.inl h20 | exact Or.inr h27))) hok
      · refine r_iload (n := 25) C dX8_open_23 rfl rfl ?_
        refine r_bipush (v := 16) (n := 27) C dX8_open_25 rfl rfl ?_
        refine r_icmp_ne (n := 30) (t := 34) C dX8_open_27 (by decide) rfl (fun h27 => ?_) (fun h27 => ?_)
        · refine r_iconst (v := 0) (n := 35) C dX8_open_34 rfl rfl ?_
          first | exact J.to rfl h35 | exact absurd (show opOk r0 ch bt from And.intro h1 (And.intro h2 (by first | exact Or.inl h20 | exact Or.inr h27))) hok
        · refine r_iconst (v := 1) (n := 31) C dX8_open_30 rfl rfl ?_
          refine r_goto (t := 35) C dX8_open_31 (by decide) ?_
          first | exact J.to rfl h35 | exact absurd (show opOk r0 ch bt from And.intro h1 (And.intro h2 (by first | exact Or.inl h20 | exact Or.inr h27))) hok
    · rw [if_neg h2]
      refine r_if_eqT (t := 34) C rfl dX8_open_13 (by decide) ?_
      refine r_iconst (v := 0) (n := 35) C dX8_open_34 rfl rfl ?_
      exact J.to rfl h35
  · rw [hr2 h1]
    refine r_if_eqT (t := 34) C rfl dX8_open_4 (by decide) ?_
    refine r_iconst (v := 0) (n := 35) C dX8_open_34 rfl rfl ?_
    exact J.to rfl h35
set_option maxRecDepth 100000 in
set_option maxHeartbeats 1000000 in
theorem m_open_f {l : Launch} {G : GG} {b : Nat} (hst : l.stackTraces = false) (S : Sw) (z : Nat) (ad : Nat → Nat) (hm : lay S z ad) (pl r0 ch bt : Int32) (hok : opOk r0 ch bt) (hfull : ∀ i, i < 6 → ¬ aI S (ad 802) i = 0) : Ct l G b yX8_open cX8_open 7 (some .int) rmX8_open mI [.ref z, .int pl, .int r0, .int ch, .int bt] S (fun r S' => S' = uI S 800 z 2 ∧ r = 0) := by
  refine Ct.of2 pnX8 (own := RX8) rfl (Nat.le_of_ble_eq_true rfl) hst ?_
  intro p e s m args below meth c C hname
  change J p l e rmX8_open s m args below meth c 7 G b _ 0 [(0, .ref z), (1, .int pl), (2, .int r0), (3, .int ch), (4, .int bt)] [] S 0 0
  have lp : ∀ (q k : Nat), k + q = 6 → J p l e rmX8_open s m args below meth c 7 G b (vx_MQ below (Qp G b mI (fun r S' => S' = uI S 800 z 2 ∧ r = 0)) (XCp G b S (fun _ => False)) args s rmX8_open.cells rmX8_open.slots (Ab b)) 40 [(0, .ref z), (1, .int pl), (2, .int r0), (3, .int ch), (4, .int bt), (5, .int 1), (6, .int (nI k))] [] S 0 0 := by
    intro q
    induction q with
    | zero =>
      intro k hk
      rw [show k = 6 by omega]
      refine r_iload (n := 42) C dX8_open_40 rfl rfl ?_
      refine r_bipush (v := 6) (n := 44) C dX8_open_42 rfl rfl ?_
      refine r_icmp_geT (t := 63) C (cle (a := 6) (b := 6) rfl rfl (by omega) (by omega)) dX8_open_44 (by decide) ?_
      refine r_aload_n (i := 0) (n := 64) C dX8_open_63 rfl rfl rfl ?_
      refine r_iload (n := 66) C dX8_open_64 rfl rfl ?_
      refine r_if_neT (t := 73) C (cne (a := 1) (b := 0) rfl rfl (by omega) (by omega) (by omega)) dX8_open_66 (by decide) ?_
      refine r_iload (n := 75) C dX8_open_73 rfl rfl ?_
      refine r_bipush (v := 6) (n := 77) C dX8_open_75 rfl rfl ?_
      refine r_icmp_neF (n := 80) (t := 84) C (ceq (a := 6) (b := 6) rfl rfl (by omega)) dX8_open_77 (by decide) rfl ?_
      refine r_iconst (v := 2) (n := 81) C dX8_open_80 rfl rfl ?_
      refine r_goto (t := 85) C dX8_open_81 (by decide) ?_
      refine kX8_144 (n := 88) C (m_refused2 hst S z ad hm) hm.1 (by decide) (by decide) (Nat.le_of_ble_eq_true rfl) dX8_open_85 rfl (fun r S1 hp => ?_)
      obtain ⟨hS, hr⟩ := hp
      subst S1
      subst r
      refine r_if_eqF (n := 91) (t := 93) C (by decide) dX8_open_88 (by decide) rfl ?_
      refine r_iconst (v := 0) (n := 92) C dX8_open_91 rfl rfl ?_
      refine t_i C rfl dX8_open_92 (by decide) ?_
      exact ⟨rfl, rfl⟩
    | succ q ih =>
      intro k hk
      refine r_iload (n := 42) C dX8_open_40 rfl rfl ?_
      refine r_bipush (v := 6) (n := 44) C dX8_open_42 rfl rfl ?_
      refine r_icmp_geF (n := 47) (t := 63) C (cnle (a := 6) (b := k) rfl rfl (by omega) (by omega)) dX8_open_44 (by decide) rfl ?_
      refine r_aload_n (i := 0) (n := 48) C dX8_open_47 rfl rfl rfl ?_
      refine hX8_13 (n := 51) C hm dX8_open_48 rfl ?_
      refine r_iload (n := 53) C dX8_open_51 rfl rfl ?_
      refine q_zald (n := 54) C (k) (ly_802 hm) rfl (by omega) dX8_open_53 rfl ?_
      refine r_if_eqF (n := 57) (t := 63) C (hfull k (by omega)) dX8_open_54 (by decide) rfl ?_
      refine r_iinc (n := 60) C dX8_open_57 rfl rfl (by decide) rfl rfl ?_
      refine r_goto (t := 40) C dX8_open_60 (by decide) ?_
      exact J.to (by rw [show nI k + Int32.ofInt 1 = nI (k + 1) from nI_1 k]; rfl) (ih (k + 1) (by omega))
  have h35 : J p l e rmX8_open s m args below meth c 7 G b (vx_MQ below (Qp G b mI (fun r S' => S' = uI S 800 z 2 ∧ r = 0)) (XCp G b S (fun _ => False)) args s rmX8_open.cells rmX8_open.slots (Ab b)) 35 [(0, .ref z), (1, .int pl), (2, .int r0), (3, .int ch), (4, .int bt)] [.int 1] S 0 0 := by
    refine r_istore (n := 37) C dX8_open_35 (by decide) rfl rfl ?_
    refine r_iconst (v := 0) (n := 38) C dX8_open_37 rfl rfl ?_
    refine r_istore (n := 40) C dX8_open_38 (by decide) rfl rfl ?_
    exact J.to rfl (lp 6 0 (by omega))
  refine r_iload_n (i := 2) (n := 1) C dX8_open_0 rfl rfl rfl ?_
  refine kX8_140 (n := 4) C (m_isRate hst S r0) (by decide) (by decide) (Nat.le_of_ble_eq_true rfl) dX8_open_1 rfl (fun r S1 hp => ?_)
  obtain ⟨hS, hr1, hr2⟩ := hp
  subst S1
  rw [hr1 hok.1]
  refine r_if_eqF (n := 7) (t := 34) C (by decide) dX8_open_4 (by decide) rfl ?_
  refine r_iload_n (i := 3) (n := 8) C dX8_open_7 rfl rfl rfl ?_
  refine r_iconst (v := 1) (n := 9) C dX8_open_8 rfl rfl ?_
  refine r_iconst (v := 2) (n := 10) C dX8_open_9 rfl rfl ?_
  refine kX8_130 (n := 13) C (m_isIn hst S ch 1 2) (by decide) (by decide) (Nat.le_of_ble_eq_true rfl) dX8_open_10 rfl (fun r S1 hp => ?_)
  obtain ⟨hS, hr⟩ := hp
  subst S1
  subst r
  rw [if_pos hok.2.1]
  refine r_if_eqF (n := 16) (t := 34) C (by decide) dX8_open_13 (by decide) rfl ?_
  refine r_iload (n := 18) C dX8_open_16 rfl rfl ?_
  refine r_bipush (v := 8) (n := 20) C dX8_open_18 rfl rfl ?_
  refine r_icmp_eq (n := 23) (t := 30) C dX8_open_20 (by decide) rfl (fun h20 => ?_) (fun h20 => ?_)
  · refine r_iconst (v := 1) (n := 31) C dX8_open_30 rfl rfl ?_
    refine r_goto (t := 35) C dX8_open_31 (by decide) ?_
    first | exact J.to rfl h35 | exact absurd hok.2.2 (fun q => q.elim (fun e => h20 e) (fun e => h27 e))
  · refine r_iload (n := 25) C dX8_open_23 rfl rfl ?_
    refine r_bipush (v := 16) (n := 27) C dX8_open_25 rfl rfl ?_
    refine r_icmp_ne (n := 30) (t := 34) C dX8_open_27 (by decide) rfl (fun h27 => ?_) (fun h27 => ?_)
    · refine r_iconst (v := 0) (n := 35) C dX8_open_34 rfl rfl ?_
      first | exact J.to rfl h35 | exact absurd hok.2.2 (fun q => q.elim (fun e => h20 e) (fun e => h27 e))
    · refine r_iconst (v := 1) (n := 31) C dX8_open_30 rfl rfl ?_
      refine r_goto (t := 35) C dX8_open_31 (by decide) ?_
      first | exact J.to rfl h35 | exact absurd hok.2.2 (fun q => q.elim (fun e => h20 e) (fun e => h27 e))
set_option maxRecDepth 100000 in
set_option maxHeartbeats 1000000 in
theorem m_open_y {l : Launch} {G : GG} {b : Nat} (hst : l.stackTraces = false) (S : Sw) (z : Nat) (ad : Nat → Nat) (hm : lay S z ad) (pl r0 ch bt : Int32) (hok : opOk r0 ch bt) (hpb : vp_nar .boolean pl = pl) (k0 : Nat) (hk0 : k0 < 6) (hfull : ∀ i, i < k0 → ¬ aI S (ad 802) i = 0) (hfree : aI S (ad 802) k0 = 0) : Ct l G b yX8_open cX8_open 7 (some .int) rmX8_open mI [.ref z, .int pl, .int r0, .int ch, .int bt] S (fun r S' => S' = mOpn (uI S 800 z 0) ad k0 pl r0 ch bt ∧ r = nI k0) := by
  refine Ct.of2 pnX8 (own := RX8) rfl (Nat.le_of_ble_eq_true rfl) hst ?_
  intro p e s m args below meth c C hname
  change J p l e rmX8_open s m args below meth c 7 G b _ 0 [(0, .ref z), (1, .int pl), (2, .int r0), (3, .int ch), (4, .int bt)] [] S 0 0
  have lp : ∀ (q k : Nat), k + q = k0 → J p l e rmX8_open s m args below meth c 7 G b (vx_MQ below (Qp G b mI (fun r S' => S' = mOpn (uI S 800 z 0) ad k0 pl r0 ch bt ∧ r = nI k0)) (XCp G b S (fun _ => False)) args s rmX8_open.cells rmX8_open.slots (Ab b)) 40 [(0, .ref z), (1, .int pl), (2, .int r0), (3, .int ch), (4, .int bt), (5, .int 1), (6, .int (nI k))] [] S 0 0 := by
    intro q
    induction q with
    | zero =>
      intro k hk
      rw [show k = k0 by omega]
      refine r_iload (n := 42) C dX8_open_40 rfl rfl ?_
      refine r_bipush (v := 6) (n := 44) C dX8_open_42 rfl rfl ?_
      refine r_icmp_geF (n := 47) (t := 63) C (cnle (a := 6) (b := k0) rfl rfl (by omega) (by omega)) dX8_open_44 (by decide) rfl ?_
      refine r_aload_n (i := 0) (n := 48) C dX8_open_47 rfl rfl rfl ?_
      refine hX8_13 (n := 51) C hm dX8_open_48 rfl ?_
      refine r_iload (n := 53) C dX8_open_51 rfl rfl ?_
      refine q_zald (n := 54) C (k0) (ly_802 hm) rfl (by omega) dX8_open_53 rfl ?_
      refine r_if_eqT (t := 63) C hfree dX8_open_54 (by decide) ?_
      refine r_aload_n (i := 0) (n := 64) C dX8_open_63 rfl rfl rfl ?_
      refine r_iload (n := 66) C dX8_open_64 rfl rfl ?_
      refine r_if_neT (t := 73) C (cne (a := 1) (b := 0) rfl rfl (by omega) (by omega) (by omega)) dX8_open_66 (by decide) ?_
      refine r_iload (n := 75) C dX8_open_73 rfl rfl ?_
      refine r_bipush (v := 6) (n := 77) C dX8_open_75 rfl rfl ?_
      refine r_icmp_neT (t := 84) C (cne (a := k0) (b := 6) rfl rfl (by omega) (by omega) (by omega)) dX8_open_77 (by decide) ?_
      refine r_iconst (v := 0) (n := 85) C dX8_open_84 rfl rfl ?_
      refine kX8_144 (n := 88) C (m_refused0 hst S z ad hm) hm.1 (by decide) (by decide) (Nat.le_of_ble_eq_true rfl) dX8_open_85 rfl (fun r S1 hp => ?_)
      obtain ⟨hS, hr⟩ := hp
      subst S1
      subst r
      refine r_if_eqT (t := 93) C rfl dX8_open_88 (by decide) ?_
      refine r_aload_n (i := 0) (n := 94) C dX8_open_93 rfl rfl rfl ?_
      refine hX8_13 (n := 97) C (lay_uI hm) dX8_open_94 rfl ?_
      refine r_iload (n := 99) C dX8_open_97 rfl rfl ?_
      refine r_iconst (v := 1) (n := 100) C dX8_open_99 rfl rfl ?_
      refine q_zast (n := 101) C (k0) (ly_802 (lay_uI hm)) rfl (by omega) (by first | assumption | rfl) dX8_open_100 rfl ?_
      refine r_aload_n (i := 0) (n := 102) C dX8_open_101 rfl rfl rfl ?_
      refine hX8_17 (n := 105) C (lay_wI (lay_uI hm)) dX8_open_102 rfl ?_
      refine r_iload (n := 107) C dX8_open_105 rfl rfl ?_
      refine r_iload_n (i := 1) (n := 108) C dX8_open_107 rfl rfl rfl ?_
      refine q_zast (n := 109) C (k0) (ly_803 (lay_wI (lay_uI hm))) rfl (by omega) hpb dX8_open_108 rfl ?_
      refine r_aload_n (i := 0) (n := 110) C dX8_open_109 rfl rfl rfl ?_
      refine hX8_20 (n := 113) C (lay_wI (lay_wI (lay_uI hm))) dX8_open_110 rfl ?_
      refine r_iload (n := 115) C dX8_open_113 rfl rfl ?_
      refine r_iload_n (i := 2) (n := 116) C dX8_open_115 rfl rfl rfl ?_
      refine q_iast (n := 117) C (k0) (ly_804 (lay_wI (lay_wI (lay_uI hm)))) rfl (by omega) dX8_open_116 rfl ?_
      refine r_aload_n (i := 0) (n := 118) C dX8_open_117 rfl rfl rfl ?_
      refine hX8_23 (n := 121) C (lay_wI (lay_wI (lay_wI (lay_uI hm)))) dX8_open_118 rfl ?_
      refine r_iload (n := 123) C dX8_open_121 rfl rfl ?_
      refine r_iload_n (i := 3) (n := 124) C dX8_open_123 rfl rfl rfl ?_
      refine q_iast (n := 125) C (k0) (ly_805 (lay_wI (lay_wI (lay_wI (lay_uI hm))))) rfl (by omega) dX8_open_124 rfl ?_
      refine r_aload_n (i := 0) (n := 126) C dX8_open_125 rfl rfl rfl ?_
      refine hX8_26 (n := 129) C (lay_wI (lay_wI (lay_wI (lay_wI (lay_uI hm))))) dX8_open_126 rfl ?_
      refine r_iload (n := 131) C dX8_open_129 rfl rfl ?_
      refine r_iload (n := 133) C dX8_open_131 rfl rfl ?_
      refine q_iast (n := 134) C (k0) (ly_806 (lay_wI (lay_wI (lay_wI (lay_wI (lay_uI hm)))))) rfl (by omega) dX8_open_133 rfl ?_
      refine r_aload_n (i := 0) (n := 135) C dX8_open_134 rfl rfl rfl ?_
      refine hX8_29 (n := 138) C (lay_wI (lay_wI (lay_wI (lay_wI (lay_wI (lay_uI hm)))))) dX8_open_135 rfl ?_
      refine r_iload (n := 140) C dX8_open_138 rfl rfl ?_
      refine r_sipush (v := 256) (n := 143) C dX8_open_140 rfl rfl ?_
      refine q_iast (n := 144) C (k0) (ly_807 (lay_wI (lay_wI (lay_wI (lay_wI (lay_wI (lay_uI hm))))))) rfl (by omega) dX8_open_143 rfl ?_
      refine r_aload_n (i := 0) (n := 145) C dX8_open_144 rfl rfl rfl ?_
      refine hX8_32 (n := 148) C (lay_wI (lay_wI (lay_wI (lay_wI (lay_wI (lay_wI (lay_uI hm))))))) dX8_open_145 rfl ?_
      refine r_iload (n := 150) C dX8_open_148 rfl rfl ?_
      refine r_iconst (v := 0) (n := 151) C dX8_open_150 rfl rfl ?_
      refine q_iast (n := 152) C (k0) (ly_808 (lay_wI (lay_wI (lay_wI (lay_wI (lay_wI (lay_wI (lay_uI hm)))))))) rfl (by omega) dX8_open_151 rfl ?_
      refine r_aload_n (i := 0) (n := 153) C dX8_open_152 rfl rfl rfl ?_
      refine hX8_35 (n := 156) C (lay_wI (lay_wI (lay_wI (lay_wI (lay_wI (lay_wI (lay_wI (lay_uI hm)))))))) dX8_open_153 rfl ?_
      refine r_iload (n := 158) C dX8_open_156 rfl rfl ?_
      refine r_iconst (v := 0) (n := 159) C dX8_open_158 rfl rfl ?_
      refine q_iast (n := 160) C (k0) (ly_809 (lay_wI (lay_wI (lay_wI (lay_wI (lay_wI (lay_wI (lay_wI (lay_uI hm))))))))) rfl (by omega) dX8_open_159 rfl ?_
      refine r_aload_n (i := 0) (n := 161) C dX8_open_160 rfl rfl rfl ?_
      refine hX8_38 (n := 164) C (lay_wI (lay_wI (lay_wI (lay_wI (lay_wI (lay_wI (lay_wI (lay_wI (lay_uI hm))))))))) dX8_open_161 rfl ?_
      refine r_iload (n := 166) C dX8_open_164 rfl rfl ?_
      refine r_iconst (v := 0) (n := 167) C dX8_open_166 rfl rfl ?_
      refine q_iast (n := 168) C (k0) (ly_810 (lay_wI (lay_wI (lay_wI (lay_wI (lay_wI (lay_wI (lay_wI (lay_wI (lay_uI hm)))))))))) rfl (by omega) dX8_open_167 rfl ?_
      refine r_aload_n (i := 0) (n := 169) C dX8_open_168 rfl rfl rfl ?_
      refine hX8_48 (n := 172) C (lay_wI (lay_wI (lay_wI (lay_wI (lay_wI (lay_wI (lay_wI (lay_wI (lay_wI (lay_uI hm)))))))))) dX8_open_169 rfl ?_
      refine r_iload (n := 174) C dX8_open_172 rfl rfl ?_
      refine r_iconst (v := 0) (n := 175) C dX8_open_174 rfl rfl ?_
      refine q_zast (n := 176) C (k0) (ly_813 (lay_wI (lay_wI (lay_wI (lay_wI (lay_wI (lay_wI (lay_wI (lay_wI (lay_wI (lay_uI hm))))))))))) rfl (by omega) (by first | assumption | rfl) dX8_open_175 rfl ?_
      refine r_aload_n (i := 0) (n := 177) C dX8_open_176 rfl rfl rfl ?_
      refine hX8_54 (n := 180) C (lay_wI (lay_wI (lay_wI (lay_wI (lay_wI (lay_wI (lay_wI (lay_wI (lay_wI (lay_wI (lay_uI hm))))))))))) dX8_open_177 rfl ?_
      refine r_iload (n := 182) C dX8_open_180 rfl rfl ?_
      refine r_iconst (v := 0) (n := 183) C dX8_open_182 rfl rfl ?_
      refine q_iast (n := 184) C (k0) (ly_815 (lay_wI (lay_wI (lay_wI (lay_wI (lay_wI (lay_wI (lay_wI (lay_wI (lay_wI (lay_wI (lay_uI hm)))))))))))) rfl (by omega) dX8_open_183 rfl ?_
      refine r_aload_n (i := 0) (n := 185) C dX8_open_184 rfl rfl rfl ?_
      refine hX8_57 (n := 188) C (lay_wI (lay_wI (lay_wI (lay_wI (lay_wI (lay_wI (lay_wI (lay_wI (lay_wI (lay_wI (lay_wI (lay_uI hm)))))))))))) dX8_open_185 rfl ?_
      refine r_iload (n := 190) C dX8_open_188 rfl rfl ?_
      refine r_iconst (v := 0) (n := 191) C dX8_open_190 rfl rfl ?_
      refine q_iast (n := 192) C (k0) (ly_816 (lay_wI (lay_wI (lay_wI (lay_wI (lay_wI (lay_wI (lay_wI (lay_wI (lay_wI (lay_wI (lay_wI (lay_uI hm))))))))))))) rfl (by omega) dX8_open_191 rfl ?_
      refine r_aload_n (i := 0) (n := 193) C dX8_open_192 rfl rfl rfl ?_
      refine hX8_60 (n := 196) C (lay_wI (lay_wI (lay_wI (lay_wI (lay_wI (lay_wI (lay_wI (lay_wI (lay_wI (lay_wI (lay_wI (lay_wI (lay_uI hm))))))))))))) dX8_open_193 rfl ?_
      refine r_iload (n := 198) C dX8_open_196 rfl rfl ?_
      refine r_iconst (v := 0) (n := 199) C dX8_open_198 rfl rfl ?_
      refine q_iast (n := 200) C (k0) (ly_817 (lay_wI (lay_wI (lay_wI (lay_wI (lay_wI (lay_wI (lay_wI (lay_wI (lay_wI (lay_wI (lay_wI (lay_wI (lay_uI hm)))))))))))))) rfl (by omega) dX8_open_199 rfl ?_
      refine r_aload_n (i := 0) (n := 201) C dX8_open_200 rfl rfl rfl ?_
      refine hX8_63 (n := 204) C (lay_wI (lay_wI (lay_wI (lay_wI (lay_wI (lay_wI (lay_wI (lay_wI (lay_wI (lay_wI (lay_wI (lay_wI (lay_wI (lay_uI hm)))))))))))))) dX8_open_201 rfl ?_
      refine r_iload (n := 206) C dX8_open_204 rfl rfl ?_
      refine r_iconst (v := 0) (n := 207) C dX8_open_206 rfl rfl ?_
      refine q_iast (n := 208) C (k0) (ly_818 (lay_wI (lay_wI (lay_wI (lay_wI (lay_wI (lay_wI (lay_wI (lay_wI (lay_wI (lay_wI (lay_wI (lay_wI (lay_wI (lay_uI hm))))))))))))))) rfl (by omega) dX8_open_207 rfl ?_
      refine r_aload_n (i := 0) (n := 209) C dX8_open_208 rfl rfl rfl ?_
      refine hX8_66 (n := 212) C (lay_wI (lay_wI (lay_wI (lay_wI (lay_wI (lay_wI (lay_wI (lay_wI (lay_wI (lay_wI (lay_wI (lay_wI (lay_wI (lay_wI (lay_uI hm))))))))))))))) dX8_open_209 rfl ?_
      refine r_iload (n := 214) C dX8_open_212 rfl rfl ?_
      refine r_dconst0 (n := 215) C dX8_open_214 rfl ?_
      refine q_dast (n := 216) C (k0) (ly_819 (lay_wI (lay_wI (lay_wI (lay_wI (lay_wI (lay_wI (lay_wI (lay_wI (lay_wI (lay_wI (lay_wI (lay_wI (lay_wI (lay_wI (lay_uI hm)))))))))))))))) rfl (by omega) dX8_open_215 rfl ?_
      refine r_aload_n (i := 0) (n := 217) C dX8_open_216 rfl rfl rfl ?_
      refine hX8_70 (n := 220) C (lay_wD (lay_wI (lay_wI (lay_wI (lay_wI (lay_wI (lay_wI (lay_wI (lay_wI (lay_wI (lay_wI (lay_wI (lay_wI (lay_wI (lay_wI (lay_uI hm)))))))))))))))) dX8_open_217 rfl ?_
      refine r_iload (n := 222) C dX8_open_220 rfl rfl ?_
      refine r_iconst (v := 0) (n := 223) C dX8_open_222 rfl rfl ?_
      refine q_iast (n := 224) C (k0) (ly_820 (lay_wD (lay_wI (lay_wI (lay_wI (lay_wI (lay_wI (lay_wI (lay_wI (lay_wI (lay_wI (lay_wI (lay_wI (lay_wI (lay_wI (lay_wI (lay_uI hm))))))))))))))))) rfl (by omega) dX8_open_223 rfl ?_
      refine r_aload_n (i := 0) (n := 225) C dX8_open_224 rfl rfl rfl ?_
      refine hX8_73 (n := 228) C (lay_wI (lay_wD (lay_wI (lay_wI (lay_wI (lay_wI (lay_wI (lay_wI (lay_wI (lay_wI (lay_wI (lay_wI (lay_wI (lay_wI (lay_wI (lay_wI (lay_uI hm))))))))))))))))) dX8_open_225 rfl ?_
      refine r_iload (n := 230) C dX8_open_228 rfl rfl ?_
      refine r_iconst (v := 0) (n := 231) C dX8_open_230 rfl rfl ?_
      refine q_iast (n := 232) C (k0) (ly_821 (lay_wI (lay_wD (lay_wI (lay_wI (lay_wI (lay_wI (lay_wI (lay_wI (lay_wI (lay_wI (lay_wI (lay_wI (lay_wI (lay_wI (lay_wI (lay_wI (lay_uI hm)))))))))))))))))) rfl (by omega) dX8_open_231 rfl ?_
      refine r_aload_n (i := 0) (n := 233) C dX8_open_232 rfl rfl rfl ?_
      refine hX8_79 (n := 236) C (lay_wI (lay_wI (lay_wD (lay_wI (lay_wI (lay_wI (lay_wI (lay_wI (lay_wI (lay_wI (lay_wI (lay_wI (lay_wI (lay_wI (lay_wI (lay_wI (lay_wI (lay_uI hm)))))))))))))))))) dX8_open_233 rfl ?_
      refine r_iload (n := 238) C dX8_open_236 rfl rfl ?_
      refine r_iconst (v := 0) (n := 239) C dX8_open_238 rfl rfl ?_
      refine q_iast (n := 240) C (k0) (ly_823 (lay_wI (lay_wI (lay_wD (lay_wI (lay_wI (lay_wI (lay_wI (lay_wI (lay_wI (lay_wI (lay_wI (lay_wI (lay_wI (lay_wI (lay_wI (lay_wI (lay_wI (lay_uI hm))))))))))))))))))) rfl (by omega) dX8_open_239 rfl ?_
      refine r_iload (n := 242) C dX8_open_240 rfl rfl ?_
      refine t_i C rfl dX8_open_242 (by decide) ?_
      exact ⟨rfl, rfl⟩
    | succ q ih =>
      intro k hk
      refine r_iload (n := 42) C dX8_open_40 rfl rfl ?_
      refine r_bipush (v := 6) (n := 44) C dX8_open_42 rfl rfl ?_
      refine r_icmp_geF (n := 47) (t := 63) C (cnle (a := 6) (b := k) rfl rfl (by omega) (by omega)) dX8_open_44 (by decide) rfl ?_
      refine r_aload_n (i := 0) (n := 48) C dX8_open_47 rfl rfl rfl ?_
      refine hX8_13 (n := 51) C hm dX8_open_48 rfl ?_
      refine r_iload (n := 53) C dX8_open_51 rfl rfl ?_
      refine q_zald (n := 54) C (k) (ly_802 hm) rfl (by omega) dX8_open_53 rfl ?_
      refine r_if_eqF (n := 57) (t := 63) C (hfull k (by omega)) dX8_open_54 (by decide) rfl ?_
      refine r_iinc (n := 60) C dX8_open_57 rfl rfl (by decide) rfl rfl ?_
      refine r_goto (t := 40) C dX8_open_60 (by decide) ?_
      exact J.to (by rw [show nI k + Int32.ofInt 1 = nI (k + 1) from nI_1 k]; rfl) (ih (k + 1) (by omega))
  have h35 : J p l e rmX8_open s m args below meth c 7 G b (vx_MQ below (Qp G b mI (fun r S' => S' = mOpn (uI S 800 z 0) ad k0 pl r0 ch bt ∧ r = nI k0)) (XCp G b S (fun _ => False)) args s rmX8_open.cells rmX8_open.slots (Ab b)) 35 [(0, .ref z), (1, .int pl), (2, .int r0), (3, .int ch), (4, .int bt)] [.int 1] S 0 0 := by
    refine r_istore (n := 37) C dX8_open_35 (by decide) rfl rfl ?_
    refine r_iconst (v := 0) (n := 38) C dX8_open_37 rfl rfl ?_
    refine r_istore (n := 40) C dX8_open_38 (by decide) rfl rfl ?_
    exact J.to rfl (lp k0 0 (by omega))
  refine r_iload_n (i := 2) (n := 1) C dX8_open_0 rfl rfl rfl ?_
  refine kX8_140 (n := 4) C (m_isRate hst S r0) (by decide) (by decide) (Nat.le_of_ble_eq_true rfl) dX8_open_1 rfl (fun r S1 hp => ?_)
  obtain ⟨hS, hr1, hr2⟩ := hp
  subst S1
  rw [hr1 hok.1]
  refine r_if_eqF (n := 7) (t := 34) C (by decide) dX8_open_4 (by decide) rfl ?_
  refine r_iload_n (i := 3) (n := 8) C dX8_open_7 rfl rfl rfl ?_
  refine r_iconst (v := 1) (n := 9) C dX8_open_8 rfl rfl ?_
  refine r_iconst (v := 2) (n := 10) C dX8_open_9 rfl rfl ?_
  refine kX8_130 (n := 13) C (m_isIn hst S ch 1 2) (by decide) (by decide) (Nat.le_of_ble_eq_true rfl) dX8_open_10 rfl (fun r S1 hp => ?_)
  obtain ⟨hS, hr⟩ := hp
  subst S1
  subst r
  rw [if_pos hok.2.1]
  refine r_if_eqF (n := 16) (t := 34) C (by decide) dX8_open_13 (by decide) rfl ?_
  refine r_iload (n := 18) C dX8_open_16 rfl rfl ?_
  refine r_bipush (v := 8) (n := 20) C dX8_open_18 rfl rfl ?_
  refine r_icmp_eq (n := 23) (t := 30) C dX8_open_20 (by decide) rfl (fun h20 => ?_) (fun h20 => ?_)
  · refine r_iconst (v := 1) (n := 31) C dX8_open_30 rfl rfl ?_
    refine r_goto (t := 35) C dX8_open_31 (by decide) ?_
    first | exact J.to rfl h35 | exact absurd hok.2.2 (fun q => q.elim (fun e => h20 e) (fun e => h27 e))
  · refine r_iload (n := 25) C dX8_open_23 rfl rfl ?_
    refine r_bipush (v := 16) (n := 27) C dX8_open_25 rfl rfl ?_
    refine r_icmp_ne (n := 30) (t := 34) C dX8_open_27 (by decide) rfl (fun h27 => ?_) (fun h27 => ?_)
    · refine r_iconst (v := 0) (n := 35) C dX8_open_34 rfl rfl ?_
      first | exact J.to rfl h35 | exact absurd hok.2.2 (fun q => q.elim (fun e => h20 e) (fun e => h27 e))
    · refine r_iconst (v := 1) (n := 31) C dX8_open_30 rfl rfl ?_
      refine r_goto (t := 35) C dX8_open_31 (by decide) ?_
      first | exact J.to rfl h35 | exact absurd hok.2.2 (fun q => q.elim (fun e => h20 e) (fun e => h27 e))
