def mPl1 (S : Sw) (ad : Nat → Nat) : Sw := wIs (T2 S (ad 828) (ad 829) (pw (aI S (ad 825)) (sh24 (aI S (ad 828)) 23) 24) (pw (aI S (ad 826)) (sh24 (aI S (ad 829)) 23) 24)) (ad 818) (pw (fun k => aI S (ad 818) k + aI S (ad 827) k) (aI S (ad 818)) 6)
set_option maxRecDepth 100000 in
set_option maxHeartbeats 1000000 in
theorem m_playOne_1 {l : Launch} {G : GG} {b : Nat} (hst : l.stackTraces = false) (S : Sw) (z : Nat) (ad : Nat → Nat) (hm : lay S z ad) : Ct l G b yX8_playOne cX8_playOne 3 none rmX8_playOne mV [.ref z, .int 1] S (fun _ S' => S' = mPl1 S ad) := by
  refine Ct.of2 pnX8 (own := RX8) rfl (Nat.le_of_ble_eq_true rfl) hst ?_
  intro p e s m args below meth c C hname
  change J p l e rmX8_playOne s m args below meth c 3 G b _ 0 [(0, .ref z), (1, .int 1)] [] S 0 0
  refine r_bipush (v := 95) (n := 2) C dX8_playOne_0 rfl rfl ?_
  refine r_istore_n (i := 2) (n := 3) C dX8_playOne_2 rfl (by decide) rfl rfl ?_
  have hba : ad 829 ≠ ad 828 := (hm.ne2 829 828 (by decide) (by decide) (by decide))
  have lp3 : ∀ (q k : Nat), k + q = 6 → J p l e rmX8_playOne s m args below meth c 3 G b (vx_MQ below (Qp G b mV (fun _ S' => S' = mPl1 S ad)) (XCp G b S (fun _ => False)) args s rmX8_playOne.cells rmX8_playOne.slots (Ab b)) 101 [(0, .ref z), (1, .int 1), (2, .int (nI k))] [] (wIs (T2 S (ad 828) (ad 829) (pw (aI S (ad 825)) (sh24 (aI S (ad 828)) 23) 24) (pw (aI S (ad 826)) (sh24 (aI S (ad 829)) 23) 24)) (ad 818) (pw (fun k => aI S (ad 818) k + aI S (ad 827) k) (aI S (ad 818)) k)) 0 0 := by
    intro q
    induction q with
    | zero =>
      intro k hk
      obtain rfl : k = 6 := by omega
      refine r_iload_n (i := 2) (n := 102) C dX8_playOne_101 rfl rfl rfl ?_
      refine r_bipush (v := 6) (n := 104) C dX8_playOne_102 rfl rfl ?_
      refine r_icmp_geT (t := 136) C (cle (a := 6) (b := 6) rfl rfl (by omega) (by omega)) dX8_playOne_104 (by decide) ?_
      refine t_v C dX8_playOne_136 (by decide) ?_
      rfl
    | succ q ih =>
      intro k hk
      refine r_iload_n (i := 2) (n := 102) C dX8_playOne_101 rfl rfl rfl ?_
      refine r_bipush (v := 6) (n := 104) C dX8_playOne_102 rfl rfl ?_
      refine r_icmp_geF (n := 107) (t := 136) C (cnle (a := 6) (b := k) rfl rfl (by omega) (by omega)) dX8_playOne_104 (by decide) rfl ?_
      refine r_iload_n (i := 1) (n := 108) C dX8_playOne_107 rfl rfl rfl ?_
      refine r_if_eqF (n := 111) (t := 136) C (by decide) dX8_playOne_108 (by decide) rfl ?_
      refine r_aload_n (i := 0) (n := 112) C dX8_playOne_111 rfl rfl rfl ?_
      refine hX8_63 (n := 115) C hm dX8_playOne_112 rfl ?_
      refine r_iload_n (i := 2) (n := 116) C dX8_playOne_115 rfl rfl rfl ?_
      refine r_aload_n (i := 0) (n := 117) C dX8_playOne_116 rfl rfl rfl ?_
      refine hX8_63 (n := 120) C hm dX8_playOne_117 rfl ?_
      refine r_iload_n (i := 2) (n := 121) C dX8_playOne_120 rfl rfl rfl ?_
      refine q_ialdv (n := 122) (v := aI S (ad 818) k) C (k) (ly_818 hm) rfl (by omega) dX8_playOne_121 rfl ((if_pos rfl).trans (pw_ge (by omega))) ?_
      refine r_aload_n (i := 0) (n := 123) C dX8_playOne_122 rfl rfl rfl ?_
      refine hX8_88 (n := 126) C hm dX8_playOne_123 rfl ?_
      refine r_iload_n (i := 2) (n := 127) C dX8_playOne_126 rfl rfl rfl ?_
      refine q_ialdv (n := 128) (v := aI S (ad 827) k) C (k) (ly_827 hm) rfl (by omega) dX8_playOne_127 rfl ((aI_wsn (hm.ne2 827 818 (by decide) (by decide) (by decide))).trans (T2_n (hm.ne2 827 828 (by decide) (by decide) (by decide)) (hm.ne2 827 829 (by decide) (by decide) (by decide)) _)) ?_
      refine r_iadd (n := 129) C dX8_playOne_128 rfl ?_
      refine q_iast (n := 130) C (k) (ly_818 hm) rfl (by omega) dX8_playOne_129 rfl ?_
      refine r_iinc (n := 133) C dX8_playOne_130 rfl rfl (by decide) rfl rfl ?_
      refine r_goto (t := 101) C dX8_playOne_133 (by decide) ?_
      rw [wI_wIs, show (fun i => if i = k then aI S (ad 818) k + aI S (ad 827) k else pw (fun k => aI S (ad 818) k + aI S (ad 827) k) (aI S (ad 818)) k i) = pw (fun k => aI S (ad 818) k + aI S (ad 827) k) (aI S (ad 818)) (k + 1) from pw_s _ _ k]
      exact J.to (by rw [show nI k + Int32.ofInt 1 = nI (k + 1) from nI_1 k]; rfl) (ih (k + 1) (by omega))
  have lp2 : ∀ (q k : Nat), k + q = 24 → J p l e rmX8_playOne s m args below meth c 3 G b (vx_MQ below (Qp G b mV (fun _ S' => S' = mPl1 S ad)) (XCp G b S (fun _ => False)) args s rmX8_playOne.cells rmX8_playOne.slots (Ab b)) 47 [(0, .ref z), (1, .int 1), (2, .int (nI k))] [] (T2 S (ad 828) (ad 829) (pw (aI S (ad 825)) (sh24 (aI S (ad 828)) 23) k) (pw (aI S (ad 826)) (sh24 (aI S (ad 829)) 23) k)) 0 0 := by
    intro q
    induction q with
    | zero =>
      intro k hk
      obtain rfl : k = 24 := by omega
      refine r_iload_n (i := 2) (n := 48) C dX8_playOne_47 rfl rfl rfl ?_
      refine r_bipush (v := 24) (n := 50) C dX8_playOne_48 rfl rfl ?_
      refine r_icmp_geT (t := 99) C (cle (a := 24) (b := 24) rfl rfl (by omega) (by omega)) dX8_playOne_50 (by decide) ?_
      refine r_iconst (v := 0) (n := 100) C dX8_playOne_99 rfl rfl ?_
      refine r_istore_n (i := 2) (n := 101) C dX8_playOne_100 rfl (by decide) rfl rfl ?_
      have e2 := lp3 6 0 (by omega)
      rw [pw_0, show wIs (T2 S (ad 828) (ad 829) (pw (aI S (ad 825)) (sh24 (aI S (ad 828)) 23) 24) (pw (aI S (ad 826)) (sh24 (aI S (ad 829)) 23) 24)) (ad 818) (aI S (ad 818)) = (T2 S (ad 828) (ad 829) (pw (aI S (ad 825)) (sh24 (aI S (ad 828)) 23) 24) (pw (aI S (ad 826)) (sh24 (aI S (ad 829)) 23) 24)) from (wIs_c (fun i => (T2_n (hm.ne2 818 828 (by decide) (by decide) (by decide)) (hm.ne2 818 829 (by decide) (by decide) (by decide)) i).symm)).trans (wIs_self _ _)] at e2
      exact J.to rfl e2
    | succ q ih =>
      intro k hk
      refine r_iload_n (i := 2) (n := 48) C dX8_playOne_47 rfl rfl rfl ?_
      refine r_bipush (v := 24) (n := 50) C dX8_playOne_48 rfl rfl ?_
      refine r_icmp_geF (n := 53) (t := 99) C (cnle (a := 24) (b := k) rfl rfl (by omega) (by omega)) dX8_playOne_50 (by decide) rfl ?_
      refine r_aload_n (i := 0) (n := 54) C dX8_playOne_53 rfl rfl rfl ?_
      refine hX8_91 (n := 57) C hm dX8_playOne_54 rfl ?_
      refine r_iload_n (i := 2) (n := 58) C dX8_playOne_57 rfl rfl rfl ?_
      refine r_iload_n (i := 1) (n := 59) C dX8_playOne_58 rfl rfl rfl ?_
      refine r_if_eqF (n := 62) (t := 71) C (by decide) dX8_playOne_59 (by decide) rfl ?_
      refine r_aload_n (i := 0) (n := 63) C dX8_playOne_62 rfl rfl rfl ?_
      refine hX8_82 (n := 66) C hm dX8_playOne_63 rfl ?_
      refine r_iload_n (i := 2) (n := 67) C dX8_playOne_66 rfl rfl rfl ?_
      refine q_ialdv (n := 68) (v := aI S (ad 825) k) C (k) (ly_825 hm) rfl (by omega) dX8_playOne_67 rfl (T2_n (hm.ne2 825 828 (by decide) (by decide) (by decide)) (hm.ne2 825 829 (by decide) (by decide) (by decide)) _) ?_
      refine r_goto (t := 72) C dX8_playOne_68 (by decide) ?_
      refine q_iast (n := 73) C (k) (ly_828 hm) rfl (by omega) dX8_playOne_72 rfl ?_
      refine r_aload_n (i := 0) (n := 74) C dX8_playOne_73 rfl rfl rfl ?_
      refine hX8_94 (n := 77) C hm dX8_playOne_74 rfl ?_
      refine r_iload_n (i := 2) (n := 78) C dX8_playOne_77 rfl rfl rfl ?_
      refine r_iload_n (i := 1) (n := 79) C dX8_playOne_78 rfl rfl rfl ?_
      refine r_if_eqF (n := 82) (t := 91) C (by decide) dX8_playOne_79 (by decide) rfl ?_
      refine r_aload_n (i := 0) (n := 83) C dX8_playOne_82 rfl rfl rfl ?_
      refine hX8_85 (n := 86) C hm dX8_playOne_83 rfl ?_
      refine r_iload_n (i := 2) (n := 87) C dX8_playOne_86 rfl rfl rfl ?_
      refine q_ialdv (n := 88) (v := aI S (ad 826) k) C (k) (ly_826 hm) rfl (by omega) dX8_playOne_87 rfl ((aI_wn (hm.ne2 826 828 (by decide) (by decide) (by decide))).trans (T2_n (hm.ne2 826 828 (by decide) (by decide) (by decide)) (hm.ne2 826 829 (by decide) (by decide) (by decide)) _)) ?_
      refine r_goto (t := 92) C dX8_playOne_88 (by decide) ?_
      refine q_iast (n := 93) C (k) (ly_829 hm) rfl (by omega) dX8_playOne_92 rfl ?_
      refine r_iinc (n := 96) C dX8_playOne_93 rfl rfl (by decide) rfl rfl ?_
      refine r_goto (t := 47) C dX8_playOne_96 (by decide) ?_
      rw [T2_a hba, T2_b, pw_s, pw_s]
      exact J.to (by rw [show nI k + Int32.ofInt 1 = nI (k + 1) from nI_1 k]; rfl) (ih (k + 1) (by omega))
  have lp1 : ∀ (q k : Nat), k = 23 + q → k ≤ 95 → J p l e rmX8_playOne s m args below meth c 3 G b (vx_MQ below (Qp G b mV (fun _ S' => S' = mPl1 S ad)) (XCp G b S (fun _ => False)) args s rmX8_playOne.cells rmX8_playOne.slots (Ab b)) 3 [(0, .ref z), (1, .int 1), (2, .int (nI k))] [] (T2 S (ad 828) (ad 829) (sh24 (aI S (ad 828)) k) (sh24 (aI S (ad 829)) k)) 0 0 := by
    intro q
    induction q with
    | zero =>
      intro k hk hk2
      obtain rfl : k = 23 := by omega
      refine r_iload_n (i := 2) (n := 4) C dX8_playOne_3 rfl rfl rfl ?_
      refine r_bipush (v := 24) (n := 6) C dX8_playOne_4 rfl rfl ?_
      refine r_icmp_ltT (t := 45) C (clt (a := 23) (b := 24) rfl rfl (by omega) (by omega)) dX8_playOne_6 (by decide) ?_
      refine r_iconst (v := 0) (n := 46) C dX8_playOne_45 rfl rfl ?_
      refine r_istore_n (i := 2) (n := 47) C dX8_playOne_46 rfl (by decide) rfl rfl ?_
      have e1 := lp2 24 0 (by omega)
      rw [pw_0, pw_0] at e1
      exact J.to rfl e1
    | succ q ih =>
      intro k hk hk2
      refine r_iload_n (i := 2) (n := 4) C dX8_playOne_3 rfl rfl rfl ?_
      refine r_bipush (v := 24) (n := 6) C dX8_playOne_4 rfl rfl ?_
      refine r_icmp_ltF (n := 9) (t := 45) C (cnlt (a := k) (b := 24) rfl rfl (by omega) (by omega)) dX8_playOne_6 (by decide) rfl ?_
      refine r_aload_n (i := 0) (n := 10) C dX8_playOne_9 rfl rfl rfl ?_
      refine hX8_91 (n := 13) C hm dX8_playOne_10 rfl ?_
      refine r_iload_n (i := 2) (n := 14) C dX8_playOne_13 rfl rfl rfl ?_
      refine r_aload_n (i := 0) (n := 15) C dX8_playOne_14 rfl rfl rfl ?_
      refine hX8_91 (n := 18) C hm dX8_playOne_15 rfl ?_
      refine r_iload_n (i := 2) (n := 19) C dX8_playOne_18 rfl rfl rfl ?_
      refine r_bipush (v := 24) (n := 21) C dX8_playOne_19 rfl rfl ?_
      refine r_isub (n := 22) C dX8_playOne_21 rfl ?_
      refine q_ialdv (n := 23) (v := aI S (ad 828) (k - 24)) C ((k - 24)) (ly_828 hm) (sub_nI (a := k) (b := 24) rfl rfl (by omega)) (by omega) dX8_playOne_22 rfl ((T2_ra hba _).trans (sh24_r _)) ?_
      refine q_iast (n := 24) C (k) (ly_828 hm) rfl (by omega) dX8_playOne_23 rfl ?_
      refine r_aload_n (i := 0) (n := 25) C dX8_playOne_24 rfl rfl rfl ?_
      refine hX8_94 (n := 28) C hm dX8_playOne_25 rfl ?_
      refine r_iload_n (i := 2) (n := 29) C dX8_playOne_28 rfl rfl rfl ?_
      refine r_aload_n (i := 0) (n := 30) C dX8_playOne_29 rfl rfl rfl ?_
      refine hX8_94 (n := 33) C hm dX8_playOne_30 rfl ?_
      refine r_iload_n (i := 2) (n := 34) C dX8_playOne_33 rfl rfl rfl ?_
      refine r_bipush (v := 24) (n := 36) C dX8_playOne_34 rfl rfl ?_
      refine r_isub (n := 37) C dX8_playOne_36 rfl ?_
      refine q_ialdv (n := 38) (v := aI S (ad 829) (k - 24)) C ((k - 24)) (ly_829 hm) (sub_nI (a := k) (b := 24) rfl rfl (by omega)) (by omega) dX8_playOne_37 rfl ((aI_wn (hm.ne2 829 828 (by decide) (by decide) (by decide))).trans ((T2_rb _).trans (sh24_r _))) ?_
      refine q_iast (n := 39) C (k) (ly_829 hm) rfl (by omega) dX8_playOne_38 rfl ?_
      refine r_iinc (n := 42) C dX8_playOne_39 rfl rfl (by decide) rfl rfl ?_
      refine r_goto (t := 3) C dX8_playOne_42 (by decide) ?_
      rw [T2_a hba, T2_b, sh24_s _ (by omega) hk2, sh24_s _ (by omega) hk2]
      exact J.to (by rw [dec_nI (by omega)]; rfl) (ih (k - 1) (by omega) (by omega))
  have e0 := lp1 72 95 (by omega) (by omega)
  rw [sh24_0, sh24_0, T2_self hba] at e0
  exact J.to rfl e0
def mPl0 (S : Sw) (ad : Nat → Nat) : Sw := (T2 S (ad 828) (ad 829) (pw (fun _ => 0) (sh24 (aI S (ad 828)) 23) 24) (pw (fun _ => 0) (sh24 (aI S (ad 829)) 23) 24))
set_option maxRecDepth 100000 in
set_option maxHeartbeats 1000000 in
theorem m_playOne_0 {l : Launch} {G : GG} {b : Nat} (hst : l.stackTraces = false) (S : Sw) (z : Nat) (ad : Nat → Nat) (hm : lay S z ad) : Ct l G b yX8_playOne cX8_playOne 3 none rmX8_playOne mV [.ref z, .int 0] S (fun _ S' => S' = mPl0 S ad) := by
  refine Ct.of2 pnX8 (own := RX8) rfl (Nat.le_of_ble_eq_true rfl) hst ?_
  intro p e s m args below meth c C hname
  change J p l e rmX8_playOne s m args below meth c 3 G b _ 0 [(0, .ref z), (1, .int 0)] [] S 0 0
  refine r_bipush (v := 95) (n := 2) C dX8_playOne_0 rfl rfl ?_
  refine r_istore_n (i := 2) (n := 3) C dX8_playOne_2 rfl (by decide) rfl rfl ?_
  have hba : ad 829 ≠ ad 828 := (hm.ne2 829 828 (by decide) (by decide) (by decide))
  have lp2 : ∀ (q k : Nat), k + q = 24 → J p l e rmX8_playOne s m args below meth c 3 G b (vx_MQ below (Qp G b mV (fun _ S' => S' = mPl0 S ad)) (XCp G b S (fun _ => False)) args s rmX8_playOne.cells rmX8_playOne.slots (Ab b)) 47 [(0, .ref z), (1, .int 0), (2, .int (nI k))] [] (T2 S (ad 828) (ad 829) (pw (fun _ => 0) (sh24 (aI S (ad 828)) 23) k) (pw (fun _ => 0) (sh24 (aI S (ad 829)) 23) k)) 0 0 := by
    intro q
    induction q with
    | zero =>
      intro k hk
      obtain rfl : k = 24 := by omega
      refine r_iload_n (i := 2) (n := 48) C dX8_playOne_47 rfl rfl rfl ?_
      refine r_bipush (v := 24) (n := 50) C dX8_playOne_48 rfl rfl ?_
      refine r_icmp_geT (t := 99) C (cle (a := 24) (b := 24) rfl rfl (by omega) (by omega)) dX8_playOne_50 (by decide) ?_
      refine r_iconst (v := 0) (n := 100) C dX8_playOne_99 rfl rfl ?_
      refine r_istore_n (i := 2) (n := 101) C dX8_playOne_100 rfl (by decide) rfl rfl ?_
      refine r_iload_n (i := 2) (n := 102) C dX8_playOne_101 rfl rfl rfl ?_
      refine r_bipush (v := 6) (n := 104) C dX8_playOne_102 rfl rfl ?_
      refine r_icmp_geF (n := 107) (t := 136) C (cnle (a := 6) (b := 0) rfl rfl (by omega) (by omega)) dX8_playOne_104 (by decide) rfl ?_
      refine r_iload_n (i := 1) (n := 108) C dX8_playOne_107 rfl rfl rfl ?_
      refine r_if_eqT (t := 136) C rfl dX8_playOne_108 (by decide) ?_
      refine t_v C dX8_playOne_136 (by decide) ?_
      rfl
    | succ q ih =>
      intro k hk
      refine r_iload_n (i := 2) (n := 48) C dX8_playOne_47 rfl rfl rfl ?_
      refine r_bipush (v := 24) (n := 50) C dX8_playOne_48 rfl rfl ?_
      refine r_icmp_geF (n := 53) (t := 99) C (cnle (a := 24) (b := k) rfl rfl (by omega) (by omega)) dX8_playOne_50 (by decide) rfl ?_
      refine r_aload_n (i := 0) (n := 54) C dX8_playOne_53 rfl rfl rfl ?_
      refine hX8_91 (n := 57) C hm dX8_playOne_54 rfl ?_
      refine r_iload_n (i := 2) (n := 58) C dX8_playOne_57 rfl rfl rfl ?_
      refine r_iload_n (i := 1) (n := 59) C dX8_playOne_58 rfl rfl rfl ?_
      refine r_if_eqT (t := 71) C rfl dX8_playOne_59 (by decide) ?_
      refine r_iconst (v := 0) (n := 72) C dX8_playOne_71 rfl rfl ?_
      refine q_iast (n := 73) C (k) (ly_828 hm) rfl (by omega) dX8_playOne_72 rfl ?_
      refine r_aload_n (i := 0) (n := 74) C dX8_playOne_73 rfl rfl rfl ?_
      refine hX8_94 (n := 77) C hm dX8_playOne_74 rfl ?_
      refine r_iload_n (i := 2) (n := 78) C dX8_playOne_77 rfl rfl rfl ?_
      refine r_iload_n (i := 1) (n := 79) C dX8_playOne_78 rfl rfl rfl ?_
      refine r_if_eqT (t := 91) C rfl dX8_playOne_79 (by decide) ?_
      refine r_iconst (v := 0) (n := 92) C dX8_playOne_91 rfl rfl ?_
      refine q_iast (n := 93) C (k) (ly_829 hm) rfl (by omega) dX8_playOne_92 rfl ?_
      refine r_iinc (n := 96) C dX8_playOne_93 rfl rfl (by decide) rfl rfl ?_
      refine r_goto (t := 47) C dX8_playOne_96 (by decide) ?_
      rw [T2_a hba, T2_b, show sr (pw (fun _ => 0) (sh24 (aI S (ad 828)) 23) k) k 0 = _ from pw_s _ _ _, show sr (pw (fun _ => 0) (sh24 (aI S (ad 829)) 23) k) k 0 = _ from pw_s _ _ _]
      exact J.to (by rw [show nI k + Int32.ofInt 1 = nI (k + 1) from nI_1 k]; rfl) (ih (k + 1) (by omega))
  have lp1 : ∀ (q k : Nat), k = 23 + q → k ≤ 95 → J p l e rmX8_playOne s m args below meth c 3 G b (vx_MQ below (Qp G b mV (fun _ S' => S' = mPl0 S ad)) (XCp G b S (fun _ => False)) args s rmX8_playOne.cells rmX8_playOne.slots (Ab b)) 3 [(0, .ref z), (1, .int 0), (2, .int (nI k))] [] (T2 S (ad 828) (ad 829) (sh24 (aI S (ad 828)) k) (sh24 (aI S (ad 829)) k)) 0 0 := by
    intro q
    induction q with
    | zero =>
      intro k hk hk2
      obtain rfl : k = 23 := by omega
      refine r_iload_n (i := 2) (n := 4) C dX8_playOne_3 rfl rfl rfl ?_
      refine r_bipush (v := 24) (n := 6) C dX8_playOne_4 rfl rfl ?_
      refine r_icmp_ltT (t := 45) C (clt (a := 23) (b := 24) rfl rfl (by omega) (by omega)) dX8_playOne_6 (by decide) ?_
      refine r_iconst (v := 0) (n := 46) C dX8_playOne_45 rfl rfl ?_
      refine r_istore_n (i := 2) (n := 47) C dX8_playOne_46 rfl (by decide) rfl rfl ?_
      have e1 := lp2 24 0 (by omega)
      rw [pw_0, pw_0] at e1
      exact J.to rfl e1
    | succ q ih =>
      intro k hk hk2
      refine r_iload_n (i := 2) (n := 4) C dX8_playOne_3 rfl rfl rfl ?_
      refine r_bipush (v := 24) (n := 6) C dX8_playOne_4 rfl rfl ?_
      refine r_icmp_ltF (n := 9) (t := 45) C (cnlt (a := k) (b := 24) rfl rfl (by omega) (by omega)) dX8_playOne_6 (by decide) rfl ?_
      refine r_aload_n (i := 0) (n := 10) C dX8_playOne_9 rfl rfl rfl ?_
      refine hX8_91 (n := 13) C hm dX8_playOne_10 rfl ?_
      refine r_iload_n (i := 2) (n := 14) C dX8_playOne_13 rfl rfl rfl ?_
      refine r_aload_n (i := 0) (n := 15) C dX8_playOne_14 rfl rfl rfl ?_
      refine hX8_91 (n := 18) C hm dX8_playOne_15 rfl ?_
      refine r_iload_n (i := 2) (n := 19) C dX8_playOne_18 rfl rfl rfl ?_
      refine r_bipush (v := 24) (n := 21) C dX8_playOne_19 rfl rfl ?_
      refine r_isub (n := 22) C dX8_playOne_21 rfl ?_
      refine q_ialdv (n := 23) (v := aI S (ad 828) (k - 24)) C ((k - 24)) (ly_828 hm) (sub_nI (a := k) (b := 24) rfl rfl (by omega)) (by omega) dX8_playOne_22 rfl ((T2_ra hba _).trans (sh24_r _)) ?_
      refine q_iast (n := 24) C (k) (ly_828 hm) rfl (by omega) dX8_playOne_23 rfl ?_
      refine r_aload_n (i := 0) (n := 25) C dX8_playOne_24 rfl rfl rfl ?_
      refine hX8_94 (n := 28) C hm dX8_playOne_25 rfl ?_
      refine r_iload_n (i := 2) (n := 29) C dX8_playOne_28 rfl rfl rfl ?_
      refine r_aload_n (i := 0) (n := 30) C dX8_playOne_29 rfl rfl rfl ?_
      refine hX8_94 (n := 33) C hm dX8_playOne_30 rfl ?_
      refine r_iload_n (i := 2) (n := 34) C dX8_playOne_33 rfl rfl rfl ?_
      refine r_bipush (v := 24) (n := 36) C dX8_playOne_34 rfl rfl ?_
      refine r_isub (n := 37) C dX8_playOne_36 rfl ?_
      refine q_ialdv (n := 38) (v := aI S (ad 829) (k - 24)) C ((k - 24)) (ly_829 hm) (sub_nI (a := k) (b := 24) rfl rfl (by omega)) (by omega) dX8_playOne_37 rfl ((aI_wn (hm.ne2 829 828 (by decide) (by decide) (by decide))).trans ((T2_rb _).trans (sh24_r _))) ?_
      refine q_iast (n := 39) C (k) (ly_829 hm) rfl (by omega) dX8_playOne_38 rfl ?_
      refine r_iinc (n := 42) C dX8_playOne_39 rfl rfl (by decide) rfl rfl ?_
      refine r_goto (t := 3) C dX8_playOne_42 (by decide) ?_
      rw [T2_a hba, T2_b, sh24_s _ (by omega) hk2, sh24_s _ (by omega) hk2]
      exact J.to (by rw [dec_nI (by omega)]; rfl) (ih (k - 1) (by omega) (by omega))
  have e0 := lp1 72 95 (by omega) (by omega)
  rw [sh24_0, sh24_0, T2_self hba] at e0
  exact J.to rfl e0
/-- a period's frames are laid behind those that are there -/
def mCa (S : Sw) (ad : Nat → Nat) (c h k : Nat) : Sw := T2 (wI S (ad 810) c (nI (h + k))) (ad 811) (ad 812) (blk (aI S (ad 811)) (12800 * c + h) (aI S (ad 830)) k) (blk (aI S (ad 812)) (12800 * c + h) (aI S (ad 831)) k)
/-- .. and reckoned *)-/
def mCb (S : Sw) (ad : Nat → Nat) (c h n : Nat) : Sw := wI (mCa S ad c h 24) (ad 820) c (nI n)
def mCf (S : Sw) (ad : Nat → Nat) (c h rk n2 rd k : Nat) : Sw := wIs (wI (mCb S ad c h n2) (ad 821) c (nI (rd + k))) (ad 822) (blk (aI S (ad 822)) (12800 * c + rd) (fun i => nI (rk + i)) k)
theorem wI_self (S : Sw) (a j : Nat) : wI S a j (aI S a j) = S := by
  refine Prod.ext rfl (Prod.ext rfl (Prod.ext rfl (Prod.ext rfl (Prod.ext rfl (Prod.ext (funext fun x => funext fun i => ?_) rfl)))))
  show (if x = a ∧ i = j then aI S a j else aI S x i) = aI S x i
  by_cases h : x = a ∧ i = j
  · rw [if_pos h, h.1, h.2]
  · rw [if_neg h]
set_option maxRecDepth 100000 in
set_option maxHeartbeats 1000000 in
theorem m_capture_l {l : Launch} {G : GG} {b : Nat} (hst : l.stackTraces = false) (S : Sw) (z : Nat) (ad : Nat → Nat) (hm : lay S z ad) (c0 h rk rr rd n2 : Nat) (hc : c0 < 6) (hh : aI S (ad 810) c0 = nI h) (hb : h + 24 ≤ 12800) (hrk : aI S (ad 820) c0 = nI rk) (hrr : aI S (ad 804) c0 = nI rr) (hr : rtN rr) (hrd : aI S (ad 821) c0 = nI rd) (hrd2 : rd ≤ 200) (hle : rk ≤ n2) (hn2 : n2 ≤ 13000) (hall : ∀ n, rk ≤ n → n < n2 → n * 48000 / rr + (if 48000 = rr then 0 else 8) < h + 24) (hend : ¬ n2 * 48000 / rr + (if 48000 = rr then 0 else 8) < h + 24) (hov : 200 < rd + (n2 - rk)) : Ct l G b yX8_capture cX8_capture 5 none rmX8_capture mV [.ref z, .int (nI c0)] S (fun _ S' => S' = wI (mCb S ad c0 h n2) (ad 809) c0 (aI S (ad 809) c0 + 1)) := by
  refine Ct.of2 pnX8 (own := RX8) rfl (Nat.le_of_ble_eq_true rfl) hst ?_
  intro p e s m args below meth c C hname
  change J p l e rmX8_capture s m args below meth c 5 G b _ 0 [(0, .ref z), (1, .int (nI c0))] [] S 0 0
  refine r_iconst (v := 0) (n := 1) C dX8_capture_0 rfl rfl ?_
  refine r_istore_n (i := 2) (n := 2) C dX8_capture_1 rfl (by decide) rfl rfl ?_
  have hrl := rtN.le hr
  have hba : ad 812 ≠ ad 811 := (hm.ne2 812 811 (by decide) (by decide) (by decide))
  have lp2 : ∀ (q k : Nat), k + q = n2 → rk ≤ k → J p l e rmX8_capture s m args below meth c 5 G b (vx_MQ below (Qp G b mV (fun _ S' => S' = wI (mCb S ad c0 h n2) (ad 809) c0 (aI S (ad 809) c0 + 1))) (XCp G b S (fun _ => False)) args s rmX8_capture.cells rmX8_capture.slots (Ab b)) 38 [(0, .ref z), (1, .int (nI c0)), (2, .int (nI rk))] [] (mCb S ad c0 h k) 0 0 := by
    intro q
    induction q with
    | zero =>
      intro k hk hk2
      rw [show k = n2 by omega]
      refine r_aload_n (i := 0) (n := 39) C dX8_capture_38 rfl rfl rfl ?_
      refine r_iload_n (i := 1) (n := 40) C dX8_capture_39 rfl rfl rfl ?_
      refine r_aload_n (i := 0) (n := 41) C dX8_capture_40 rfl rfl rfl ?_
      refine hX8_70 (n := 44) C hm dX8_capture_41 rfl ?_
      refine r_iload_n (i := 1) (n := 45) C dX8_capture_44 rfl rfl rfl ?_
      refine q_ialdv (n := 46) (v := nI (n2)) C (c0) (ly_820 hm) rfl (by omega) dX8_capture_45 rfl (if_pos ⟨rfl, rfl⟩) ?_
      refine r_ldc (n := 48) (v := 48000) C (mem_tb (mem_tbl 885 (by decide +kernel)) (by decide +kernel)) dX8_capture_46 rfl ?_
      refine r_aload_n (i := 0) (n := 49) C dX8_capture_48 rfl rfl rfl ?_
      refine hX8_20 (n := 52) C hm dX8_capture_49 rfl ?_
      refine r_iload_n (i := 1) (n := 53) C dX8_capture_52 rfl rfl rfl ?_
      refine q_ialdv (n := 54) (v := nI (rr)) C (c0) (ly_804 hm) rfl (by omega) dX8_capture_53 rfl (((aI_wn (hm.ne2 804 820 (by decide) (by decide) (by decide))).trans ((T2_n (hm.ne2 804 811 (by decide) (by decide) (by decide)) (hm.ne2 804 812 (by decide) (by decide) (by decide)) _).trans (aI_wn (hm.ne2 804 810 (by decide) (by decide) (by decide))))).trans hrr) ?_
      refine kX8_195 (n := 57) C (m_isBacked hst (mCb S ad c0 h n2) z ad hm c0 (h + 24) hc ((aI_wn (hm.ne2 810 820 (by decide) (by decide) (by decide))).trans ((T2_n (hm.ne2 810 811 (by decide) (by decide) (by decide)) (hm.ne2 810 812 (by decide) (by decide) (by decide)) c0).trans (if_pos ⟨rfl, rfl⟩))) (by omega) n2 48000 rr (by omega) (by omega) (by omega) (by omega) (by omega)) hm.1 (by decide) (by decide) (Nat.le_of_ble_eq_true rfl) dX8_capture_54 rfl (fun r S1 hp => ?_)
      obtain ⟨hS, hr⟩ := hp
      subst S1
      subst r
      rw [if_neg hend]
      refine r_if_eqT (t := 73) C rfl dX8_capture_57 (by decide) ?_
      refine r_aload_n (i := 0) (n := 74) C dX8_capture_73 rfl rfl rfl ?_
      refine hX8_70 (n := 77) C hm dX8_capture_74 rfl ?_
      refine r_iload_n (i := 1) (n := 78) C dX8_capture_77 rfl rfl rfl ?_
      refine q_ialdv (n := 79) (v := nI (n2)) C (c0) (ly_820 hm) rfl (by omega) dX8_capture_78 rfl (if_pos ⟨rfl, rfl⟩) ?_
      refine r_iload_n (i := 2) (n := 80) C dX8_capture_79 rfl rfl rfl ?_
      refine r_isub (n := 81) C dX8_capture_80 rfl ?_
      refine r_istore_n (i := 3) (n := 82) C dX8_capture_81 rfl (by decide) rfl rfl ?_
      refine r_aload_n (i := 0) (n := 83) C dX8_capture_82 rfl rfl rfl ?_
      refine hX8_73 (n := 86) C hm dX8_capture_83 rfl ?_
      refine r_iload_n (i := 1) (n := 87) C dX8_capture_86 rfl rfl rfl ?_
      refine q_ialdv (n := 88) (v := nI (rd)) C (c0) (ly_821 hm) rfl (by omega) dX8_capture_87 rfl (((aI_wn (hm.ne2 821 820 (by decide) (by decide) (by decide))).trans ((T2_n (hm.ne2 821 811 (by decide) (by decide) (by decide)) (hm.ne2 821 812 (by decide) (by decide) (by decide)) _).trans (aI_wn (hm.ne2 821 810 (by decide) (by decide) (by decide))))).trans hrd) ?_
      refine r_iload_n (i := 3) (n := 89) C dX8_capture_88 rfl rfl rfl ?_
      refine r_iadd (n := 90) C dX8_capture_89 rfl ?_
      refine r_sipush (v := 200) (n := 93) C dX8_capture_90 rfl rfl ?_
      refine r_icmp_leF (n := 96) (t := 107) C (cnle (a := (rd + (n2 - rk))) (b := 200) (add_nI (a := rd) (b := (n2 - rk)) rfl (sub_nI (a := n2) (b := rk) rfl rfl (by omega))) rfl (by omega) (by omega)) dX8_capture_93 (by decide) rfl ?_
      refine r_aload_n (i := 0) (n := 97) C dX8_capture_96 rfl rfl rfl ?_
      refine hX8_35 (n := 100) C hm dX8_capture_97 rfl ?_
      refine r_iload_n (i := 1) (n := 101) C dX8_capture_100 rfl rfl rfl ?_
      refine r_dup2_11 (n := 102) C dX8_capture_101 rfl rfl rfl ?_
      refine q_ialdv (n := 103) (v := aI S (ad 809) c0) C (c0) (ly_809 hm) rfl (by omega) dX8_capture_102 rfl ((aI_wn (hm.ne2 809 820 (by decide) (by decide) (by decide))).trans ((T2_n (hm.ne2 809 811 (by decide) (by decide) (by decide)) (hm.ne2 809 812 (by decide) (by decide) (by decide)) _).trans (aI_wn (hm.ne2 809 810 (by decide) (by decide) (by decide))))) ?_
      refine r_iconst (v := 1) (n := 104) C dX8_capture_103 rfl rfl ?_
      refine r_iadd (n := 105) C dX8_capture_104 rfl ?_
      refine q_iast (n := 106) C (c0) (ly_809 hm) rfl (by omega) dX8_capture_105 rfl ?_
      refine t_v C dX8_capture_106 (by decide) ?_
      rfl
    | succ q ih =>
      intro k hk hk2
      refine r_aload_n (i := 0) (n := 39) C dX8_capture_38 rfl rfl rfl ?_
      refine r_iload_n (i := 1) (n := 40) C dX8_capture_39 rfl rfl rfl ?_
      refine r_aload_n (i := 0) (n := 41) C dX8_capture_40 rfl rfl rfl ?_
      refine hX8_70 (n := 44) C hm dX8_capture_41 rfl ?_
      refine r_iload_n (i := 1) (n := 45) C dX8_capture_44 rfl rfl rfl ?_
      refine q_ialdv (n := 46) (v := nI (k)) C (c0) (ly_820 hm) rfl (by omega) dX8_capture_45 rfl (if_pos ⟨rfl, rfl⟩) ?_
      refine r_ldc (n := 48) (v := 48000) C (mem_tb (mem_tbl 885 (by decide +kernel)) (by decide +kernel)) dX8_capture_46 rfl ?_
      refine r_aload_n (i := 0) (n := 49) C dX8_capture_48 rfl rfl rfl ?_
      refine hX8_20 (n := 52) C hm dX8_capture_49 rfl ?_
      refine r_iload_n (i := 1) (n := 53) C dX8_capture_52 rfl rfl rfl ?_
      refine q_ialdv (n := 54) (v := nI (rr)) C (c0) (ly_804 hm) rfl (by omega) dX8_capture_53 rfl (((aI_wn (hm.ne2 804 820 (by decide) (by decide) (by decide))).trans ((T2_n (hm.ne2 804 811 (by decide) (by decide) (by decide)) (hm.ne2 804 812 (by decide) (by decide) (by decide)) _).trans (aI_wn (hm.ne2 804 810 (by decide) (by decide) (by decide))))).trans hrr) ?_
      refine kX8_195 (n := 57) C (m_isBacked hst (mCb S ad c0 h k) z ad hm c0 (h + 24) hc ((aI_wn (hm.ne2 810 820 (by decide) (by decide) (by decide))).trans ((T2_n (hm.ne2 810 811 (by decide) (by decide) (by decide)) (hm.ne2 810 812 (by decide) (by decide) (by decide)) c0).trans (if_pos ⟨rfl, rfl⟩))) (by omega) k 48000 rr (by omega) (by omega) (by omega) (by omega) (by omega)) hm.1 (by decide) (by decide) (Nat.le_of_ble_eq_true rfl) dX8_capture_54 rfl (fun r S1 hp => ?_)
      obtain ⟨hS, hr⟩ := hp
      subst S1
      subst r
      rw [if_pos (hall k (by omega) (by omega))]
      refine r_if_eqF (n := 60) (t := 73) C (by decide) dX8_capture_57 (by decide) rfl ?_
      refine r_aload_n (i := 0) (n := 61) C dX8_capture_60 rfl rfl rfl ?_
      refine hX8_70 (n := 64) C hm dX8_capture_61 rfl ?_
      refine r_iload_n (i := 1) (n := 65) C dX8_capture_64 rfl rfl rfl ?_
      refine r_dup2_11 (n := 66) C dX8_capture_65 rfl rfl rfl ?_
      refine q_ialdv (n := 67) (v := nI (k)) C (c0) (ly_820 hm) rfl (by omega) dX8_capture_66 rfl (if_pos ⟨rfl, rfl⟩) ?_
      refine r_iconst (v := 1) (n := 68) C dX8_capture_67 rfl rfl ?_
      refine r_iadd (n := 69) C dX8_capture_68 rfl ?_
      refine q_iast (n := 70) C (c0) (ly_820 hm) rfl (by omega) dX8_capture_69 rfl ?_
      refine r_goto (t := 38) C dX8_capture_70 (by decide) ?_
      rw [show wI (mCb S ad c0 h k) (ad 820) c0 (nI k + 1) = (mCb S ad c0 h (k + 1)) from by unfold mCb; rw [wI_wI, nI_1]]
      exact ih (k + 1) (by omega) (by omega)
  have lp1 : ∀ (q k : Nat), k + q = 24 → J p l e rmX8_capture s m args below meth c 5 G b (vx_MQ below (Qp G b mV (fun _ S' => S' = wI (mCb S ad c0 h n2) (ad 809) c0 (aI S (ad 809) c0 + 1))) (XCp G b S (fun _ => False)) args s rmX8_capture.cells rmX8_capture.slots (Ab b)) 2 [(0, .ref z), (1, .int (nI c0)), (2, .int (nI k))] [] (mCa S ad c0 h k) 0 0 := by
    intro q
    induction q with
    | zero =>
      intro k hk
      obtain rfl : k = 24 := by omega
      refine r_iload_n (i := 2) (n := 3) C dX8_capture_2 rfl rfl rfl ?_
      refine r_bipush (v := 24) (n := 5) C dX8_capture_3 rfl rfl ?_
      refine r_icmp_geT (t := 31) C (cle (a := 24) (b := 24) rfl rfl (by omega) (by omega)) dX8_capture_5 (by decide) ?_
      refine r_aload_n (i := 0) (n := 32) C dX8_capture_31 rfl rfl rfl ?_
      refine hX8_70 (n := 35) C hm dX8_capture_32 rfl ?_
      refine r_iload_n (i := 1) (n := 36) C dX8_capture_35 rfl rfl rfl ?_
      refine q_ialdv (n := 37) (v := nI (rk)) C (c0) (ly_820 hm) rfl (by omega) dX8_capture_36 rfl (((T2_n (hm.ne2 820 811 (by decide) (by decide) (by decide)) (hm.ne2 820 812 (by decide) (by decide) (by decide)) _).trans (aI_wn (hm.ne2 820 810 (by decide) (by decide) (by decide)))).trans hrk) ?_
      refine r_istore_n (i := 2) (n := 38) C dX8_capture_37 rfl (by decide) rfl rfl ?_
      have e1 := lp2 (n2 - rk) rk (by omega) (Nat.le_refl _)
      rw [show (mCb S ad c0 h rk) = (mCa S ad c0 h 24) from by unfold mCb; rw [← hrk, ← show aI (mCa S ad c0 h 24) (ad 820) c0 = aI S (ad 820) c0 from ((T2_n (hm.ne2 820 811 (by decide) (by decide) (by decide)) (hm.ne2 820 812 (by decide) (by decide) (by decide)) _).trans (aI_wn (hm.ne2 820 810 (by decide) (by decide) (by decide))))]; exact wI_self _ _ _] at e1
      exact J.to rfl e1
    | succ q ih =>
      intro k hk
      refine r_iload_n (i := 2) (n := 3) C dX8_capture_2 rfl rfl rfl ?_
      refine r_bipush (v := 24) (n := 5) C dX8_capture_3 rfl rfl ?_
      refine r_icmp_geF (n := 8) (t := 31) C (cnle (a := 24) (b := k) rfl rfl (by omega) (by omega)) dX8_capture_5 (by decide) rfl ?_
      refine r_aload_n (i := 0) (n := 9) C dX8_capture_8 rfl rfl rfl ?_
      refine r_iload_n (i := 1) (n := 10) C dX8_capture_9 rfl rfl rfl ?_
      refine r_aload_n (i := 0) (n := 11) C dX8_capture_10 rfl rfl rfl ?_
      refine hX8_97 (n := 14) C hm dX8_capture_11 rfl ?_
      refine r_iload_n (i := 2) (n := 15) C dX8_capture_14 rfl rfl rfl ?_
      refine q_ialdv (n := 16) (v := aI S (ad 830) k) C (k) (ly_830 hm) rfl (by omega) dX8_capture_15 rfl ((T2_n (hm.ne2 830 811 (by decide) (by decide) (by decide)) (hm.ne2 830 812 (by decide) (by decide) (by decide)) _).trans (aI_wn (hm.ne2 830 810 (by decide) (by decide) (by decide)))) ?_
      refine r_aload_n (i := 0) (n := 17) C dX8_capture_16 rfl rfl rfl ?_
      refine hX8_100 (n := 20) C hm dX8_capture_17 rfl ?_
      refine r_iload_n (i := 2) (n := 21) C dX8_capture_20 rfl rfl rfl ?_
      refine q_ialdv (n := 22) (v := aI S (ad 831) k) C (k) (ly_831 hm) rfl (by omega) dX8_capture_21 rfl ((T2_n (hm.ne2 831 811 (by decide) (by decide) (by decide)) (hm.ne2 831 812 (by decide) (by decide) (by decide)) _).trans (aI_wn (hm.ne2 831 810 (by decide) (by decide) (by decide)))) ?_
      refine kX8_181 (n := 25) C (m_add hst (mCa S ad c0 h k) z ad hm c0 (h + k) hc ((T2_n (hm.ne2 810 811 (by decide) (by decide) (by decide)) (hm.ne2 810 812 (by decide) (by decide) (by decide)) c0).trans (if_pos ⟨rfl, rfl⟩)) (by omega) (aI S (ad 830) k) (aI S (ad 831) k)) hm.1 (by decide) (by decide) (Nat.le_of_ble_eq_true rfl) dX8_capture_22 rfl (fun r S1 hp => ?_)
      subst hp
      refine r_iinc (n := 28) C dX8_capture_25 rfl rfl (by decide) rfl rfl ?_
      refine r_goto (t := 2) C dX8_capture_28 (by decide) ?_
      rw [show mAdd (mCa S ad c0 h k) ad c0 (h + k) (aI S (ad 830) k) (aI S (ad 831) k) = (mCa S ad c0 h (k + 1)) from by
        unfold mAdd mCa
        rw [T2_a hba, T2_b, wI_T2 (hm.ne2 811 810 (by decide) (by decide) (by decide)) (hm.ne2 812 810 (by decide) (by decide) (by decide)), wI_wI, show 12800 * c0 + (h + k) = 12800 * c0 + h + k by omega, blk_s, blk_s]
        rfl]
      exact J.to (by rw [show nI k + Int32.ofInt 1 = nI (k + 1) from nI_1 k]; rfl) (ih (k + 1) (by omega))
  have e0 := lp1 24 0 (by omega)
  rw [show (mCa S ad c0 h 0) = S from by unfold mCa; rw [blk_0, blk_0, Nat.add_zero, ← hh, show wI S (ad 810) c0 (aI S (ad 810) c0) = S from wI_self _ _ _]; exact T2_self hba] at e0
  exact J.to rfl e0
set_option maxRecDepth 100000 in
set_option maxHeartbeats 1000000 in
theorem m_capture_y {l : Launch} {G : GG} {b : Nat} (hst : l.stackTraces = false) (S : Sw) (z : Nat) (ad : Nat → Nat) (hm : lay S z ad) (c0 h rk rr rd n2 : Nat) (hc : c0 < 6) (hh : aI S (ad 810) c0 = nI h) (hb : h + 24 ≤ 12800) (hrk : aI S (ad 820) c0 = nI rk) (hrr : aI S (ad 804) c0 = nI rr) (hr : rtN rr) (hrd : aI S (ad 821) c0 = nI rd) (hrd2 : rd ≤ 200) (hle : rk ≤ n2) (hn2 : n2 ≤ 13000) (hall : ∀ n, rk ≤ n → n < n2 → n * 48000 / rr + (if 48000 = rr then 0 else 8) < h + 24) (hend : ¬ n2 * 48000 / rr + (if 48000 = rr then 0 else 8) < h + 24) (hov : rd + (n2 - rk) ≤ 200) : Ct l G b yX8_capture cX8_capture 5 none rmX8_capture mV [.ref z, .int (nI c0)] S (fun _ S' => S' = (mCf S ad c0 h rk n2 rd (n2 - rk))) := by
  refine Ct.of2 pnX8 (own := RX8) rfl (Nat.le_of_ble_eq_true rfl) hst ?_
  intro p e s m args below meth c C hname
  change J p l e rmX8_capture s m args below meth c 5 G b _ 0 [(0, .ref z), (1, .int (nI c0))] [] S 0 0
  refine r_iconst (v := 0) (n := 1) C dX8_capture_0 rfl rfl ?_
  refine r_istore_n (i := 2) (n := 2) C dX8_capture_1 rfl (by decide) rfl rfl ?_
  have hrl := rtN.le hr
  have hba : ad 812 ≠ ad 811 := (hm.ne2 812 811 (by decide) (by decide) (by decide))
  have lp3 : ∀ (q k : Nat), k + q = (n2 - rk) → J p l e rmX8_capture s m args below meth c 5 G b (vx_MQ below (Qp G b mV (fun _ S' => S' = (mCf S ad c0 h rk n2 rd (n2 - rk)))) (XCp G b S (fun _ => False)) args s rmX8_capture.cells rmX8_capture.slots (Ab b)) 110 [(0, .ref z), (1, .int (nI c0)), (2, .int (nI rk)), (3, .int (nI (n2 - rk))), (4, .int (nI k))] [] (mCf S ad c0 h rk n2 rd k) 0 0 := by
    intro q
    induction q with
    | zero =>
      intro k hk
      obtain rfl : k = (n2 - rk) := by omega
      refine r_iload (n := 112) C dX8_capture_110 rfl rfl ?_
      refine r_iload_n (i := 3) (n := 113) C dX8_capture_112 rfl rfl rfl ?_
      refine r_icmp_geT (t := 153) C (cle (a := (n2 - rk)) (b := (n2 - rk)) rfl rfl (by omega) (by omega)) dX8_capture_113 (by decide) ?_
      refine t_v C dX8_capture_153 (by decide) ?_
      rfl
    | succ q ih =>
      intro k hk
      refine r_iload (n := 112) C dX8_capture_110 rfl rfl ?_
      refine r_iload_n (i := 3) (n := 113) C dX8_capture_112 rfl rfl rfl ?_
      refine r_icmp_geF (n := 116) (t := 153) C (cnle (a := (n2 - rk)) (b := k) rfl rfl (by omega) (by omega)) dX8_capture_113 (by decide) rfl ?_
      refine r_aload_n (i := 0) (n := 117) C dX8_capture_116 rfl rfl rfl ?_
      refine hX8_76 (n := 120) C hm dX8_capture_117 rfl ?_
      refine r_sipush (v := 12800) (n := 123) C dX8_capture_120 rfl rfl ?_
      refine r_iload_n (i := 1) (n := 124) C dX8_capture_123 rfl rfl rfl ?_
      refine r_imul (n := 125) C dX8_capture_124 rfl ?_
      refine r_aload_n (i := 0) (n := 126) C dX8_capture_125 rfl rfl rfl ?_
      refine hX8_73 (n := 129) C hm dX8_capture_126 rfl ?_
      refine r_iload_n (i := 1) (n := 130) C dX8_capture_129 rfl rfl rfl ?_
      refine q_ialdv (n := 131) (v := nI ((rd + k))) C (c0) (ly_821 hm) rfl (by omega) dX8_capture_130 rfl ((aI_wsn (hm.ne2 821 822 (by decide) (by decide) (by decide))).trans (if_pos ⟨rfl, rfl⟩)) ?_
      refine r_iadd (n := 132) C dX8_capture_131 rfl ?_
      refine r_iload_n (i := 2) (n := 133) C dX8_capture_132 rfl rfl rfl ?_
      refine r_iload (n := 135) C dX8_capture_133 rfl rfl ?_
      refine r_iadd (n := 136) C dX8_capture_135 rfl ?_
      refine q_iast (n := 137) C (((12800 * c0) + (rd + k))) (ly_822 hm) (add_nI (a := (12800 * c0)) (b := (rd + k)) (mul_nI (a := 12800) (b := c0) rfl rfl) rfl) (by omega) dX8_capture_136 rfl ?_
      refine r_aload_n (i := 0) (n := 138) C dX8_capture_137 rfl rfl rfl ?_
      refine hX8_73 (n := 141) C hm dX8_capture_138 rfl ?_
      refine r_iload_n (i := 1) (n := 142) C dX8_capture_141 rfl rfl rfl ?_
      refine r_dup2_11 (n := 143) C dX8_capture_142 rfl rfl rfl ?_
      refine q_ialdv (n := 144) (v := nI ((rd + k))) C (c0) (ly_821 hm) rfl (by omega) dX8_capture_143 rfl ((aI_wn (hm.ne2 821 822 (by decide) (by decide) (by decide))).trans ((aI_wsn (hm.ne2 821 822 (by decide) (by decide) (by decide))).trans (if_pos ⟨rfl, rfl⟩))) ?_
      refine r_iconst (v := 1) (n := 145) C dX8_capture_144 rfl rfl ?_
      refine r_iadd (n := 146) C dX8_capture_145 rfl ?_
      refine q_iast (n := 147) C (c0) (ly_821 hm) rfl (by omega) dX8_capture_146 rfl ?_
      refine r_iinc (n := 150) C dX8_capture_147 rfl rfl (by decide) rfl rfl ?_
      refine r_goto (t := 110) C dX8_capture_150 (by decide) ?_
      rw [show wI (wI (mCf S ad c0 h rk n2 rd k) (ad 822) (12800 * c0 + (rd + k)) (nI rk + nI k)) (ad 821) c0 (nI (rd + k) + 1) = (mCf S ad c0 h rk n2 rd (k + 1)) from by
        unfold mCf
        rw [wI_wIs, wI_wIs2 _ _ _ _ (hm.ne2 822 821 (by decide) (by decide) (by decide)), wI_wI, nI_1, nI_add, show 12800 * c0 + (rd + k) = 12800 * c0 + rd + k by omega]
        exact wIs_c (fun i => congrFun (blk_s (aI S (ad 822)) (fun i => nI (rk + i)) (12800 * c0 + rd) k) i)]
      exact J.to (by rw [show nI k + Int32.ofInt 1 = nI (k + 1) from nI_1 k]; rfl) (ih (k + 1) (by omega))
  have lp2 : ∀ (q k : Nat), k + q = n2 → rk ≤ k → J p l e rmX8_capture s m args below meth c 5 G b (vx_MQ below (Qp G b mV (fun _ S' => S' = (mCf S ad c0 h rk n2 rd (n2 - rk)))) (XCp G b S (fun _ => False)) args s rmX8_capture.cells rmX8_capture.slots (Ab b)) 38 [(0, .ref z), (1, .int (nI c0)), (2, .int (nI rk))] [] (mCb S ad c0 h k) 0 0 := by
    intro q
    induction q with
    | zero =>
      intro k hk hk2
      rw [show k = n2 by omega]
      refine r_aload_n (i := 0) (n := 39) C dX8_capture_38 rfl rfl rfl ?_
      refine r_iload_n (i := 1) (n := 40) C dX8_capture_39 rfl rfl rfl ?_
      refine r_aload_n (i := 0) (n := 41) C dX8_capture_40 rfl rfl rfl ?_
      refine hX8_70 (n := 44) C hm dX8_capture_41 rfl ?_
      refine r_iload_n (i := 1) (n := 45) C dX8_capture_44 rfl rfl rfl ?_
      refine q_ialdv (n := 46) (v := nI (n2)) C (c0) (ly_820 hm) rfl (by omega) dX8_capture_45 rfl (if_pos ⟨rfl, rfl⟩) ?_
      refine r_ldc (n := 48) (v := 48000) C (mem_tb (mem_tbl 885 (by decide +kernel)) (by decide +kernel)) dX8_capture_46 rfl ?_
      refine r_aload_n (i := 0) (n := 49) C dX8_capture_48 rfl rfl rfl ?_
      refine hX8_20 (n := 52) C hm dX8_capture_49 rfl ?_
      refine r_iload_n (i := 1) (n := 53) C dX8_capture_52 rfl rfl rfl ?_
      refine q_ialdv (n := 54) (v := nI (rr)) C (c0) (ly_804 hm) rfl (by omega) dX8_capture_53 rfl (((aI_wn (hm.ne2 804 820 (by decide) (by decide) (by decide))).trans ((T2_n (hm.ne2 804 811 (by decide) (by decide) (by decide)) (hm.ne2 804 812 (by decide) (by decide) (by decide)) _).trans (aI_wn (hm.ne2 804 810 (by decide) (by decide) (by decide))))).trans hrr) ?_
      refine kX8_195 (n := 57) C (m_isBacked hst (mCb S ad c0 h n2) z ad hm c0 (h + 24) hc ((aI_wn (hm.ne2 810 820 (by decide) (by decide) (by decide))).trans ((T2_n (hm.ne2 810 811 (by decide) (by decide) (by decide)) (hm.ne2 810 812 (by decide) (by decide) (by decide)) c0).trans (if_pos ⟨rfl, rfl⟩))) (by omega) n2 48000 rr (by omega) (by omega) (by omega) (by omega) (by omega)) hm.1 (by decide) (by decide) (Nat.le_of_ble_eq_true rfl) dX8_capture_54 rfl (fun r S1 hp => ?_)
      obtain ⟨hS, hr⟩ := hp
      subst S1
      subst r
      rw [if_neg hend]
      refine r_if_eqT (t := 73) C rfl dX8_capture_57 (by decide) ?_
      refine r_aload_n (i := 0) (n := 74) C dX8_capture_73 rfl rfl rfl ?_
      refine hX8_70 (n := 77) C hm dX8_capture_74 rfl ?_
      refine r_iload_n (i := 1) (n := 78) C dX8_capture_77 rfl rfl rfl ?_
      refine q_ialdv (n := 79) (v := nI (n2)) C (c0) (ly_820 hm) rfl (by omega) dX8_capture_78 rfl (if_pos ⟨rfl, rfl⟩) ?_
      refine r_iload_n (i := 2) (n := 80) C dX8_capture_79 rfl rfl rfl ?_
      refine r_isub (n := 81) C dX8_capture_80 rfl ?_
      refine r_istore_n (i := 3) (n := 82) C dX8_capture_81 rfl (by decide) rfl rfl ?_
      refine r_aload_n (i := 0) (n := 83) C dX8_capture_82 rfl rfl rfl ?_
      refine hX8_73 (n := 86) C hm dX8_capture_83 rfl ?_
      refine r_iload_n (i := 1) (n := 87) C dX8_capture_86 rfl rfl rfl ?_
      refine q_ialdv (n := 88) (v := nI (rd)) C (c0) (ly_821 hm) rfl (by omega) dX8_capture_87 rfl (((aI_wn (hm.ne2 821 820 (by decide) (by decide) (by decide))).trans ((T2_n (hm.ne2 821 811 (by decide) (by decide) (by decide)) (hm.ne2 821 812 (by decide) (by decide) (by decide)) _).trans (aI_wn (hm.ne2 821 810 (by decide) (by decide) (by decide))))).trans hrd) ?_
      refine r_iload_n (i := 3) (n := 89) C dX8_capture_88 rfl rfl rfl ?_
      refine r_iadd (n := 90) C dX8_capture_89 rfl ?_
      refine r_sipush (v := 200) (n := 93) C dX8_capture_90 rfl rfl ?_
      refine r_icmp_leT (t := 107) C (cle (a := (rd + (n2 - rk))) (b := 200) (add_nI (a := rd) (b := (n2 - rk)) rfl (sub_nI (a := n2) (b := rk) rfl rfl (by omega))) rfl (by omega) (by omega)) dX8_capture_93 (by decide) ?_
      refine r_iconst (v := 0) (n := 108) C dX8_capture_107 rfl rfl ?_
      refine r_istore (n := 110) C dX8_capture_108 (by decide) rfl rfl ?_
      have e3 := lp3 (n2 - rk) 0 (by omega)
      rw [show (mCf S ad c0 h rk n2 rd 0) = (mCb S ad c0 h n2) from by unfold mCf; rw [Nat.add_zero, ← hrd, ← show aI (mCb S ad c0 h n2) (ad 821) c0 = aI S (ad 821) c0 from ((aI_wn (hm.ne2 821 820 (by decide) (by decide) (by decide))).trans ((T2_n (hm.ne2 821 811 (by decide) (by decide) (by decide)) (hm.ne2 821 812 (by decide) (by decide) (by decide)) _).trans (aI_wn (hm.ne2 821 810 (by decide) (by decide) (by decide))))), wI_self, blk_0]; exact (wIs_c (fun i => (((aI_wn (hm.ne2 822 820 (by decide) (by decide) (by decide))).trans ((T2_n (hm.ne2 822 811 (by decide) (by decide) (by decide)) (hm.ne2 822 812 (by decide) (by decide) (by decide)) _).trans (aI_wn (hm.ne2 822 810 (by decide) (by decide) (by decide)))))).symm)).trans (wIs_self _ _)] at e3
      rw [show nI n2 - nI rk = nI (n2 - rk) from pk_sub hle]
      exact J.to rfl e3
    | succ q ih =>
      intro k hk hk2
      refine r_aload_n (i := 0) (n := 39) C dX8_capture_38 rfl rfl rfl ?_
      refine r_iload_n (i := 1) (n := 40) C dX8_capture_39 rfl rfl rfl ?_
      refine r_aload_n (i := 0) (n := 41) C dX8_capture_40 rfl rfl rfl ?_
      refine hX8_70 (n := 44) C hm dX8_capture_41 rfl ?_
      refine r_iload_n (i := 1) (n := 45) C dX8_capture_44 rfl rfl rfl ?_
      refine q_ialdv (n := 46) (v := nI (k)) C (c0) (ly_820 hm) rfl (by omega) dX8_capture_45 rfl (if_pos ⟨rfl, rfl⟩) ?_
      refine r_ldc (n := 48) (v := 48000) C (mem_tb (mem_tbl 885 (by decide +kernel)) (by decide +kernel)) dX8_capture_46 rfl ?_
      refine r_aload_n (i := 0) (n := 49) C dX8_capture_48 rfl rfl rfl ?_
      refine hX8_20 (n := 52) C hm dX8_capture_49 rfl ?_
      refine r_iload_n (i := 1) (n := 53) C dX8_capture_52 rfl rfl rfl ?_
      refine q_ialdv (n := 54) (v := nI (rr)) C (c0) (ly_804 hm) rfl (by omega) dX8_capture_53 rfl (((aI_wn (hm.ne2 804 820 (by decide) (by decide) (by decide))).trans ((T2_n (hm.ne2 804 811 (by decide) (by decide) (by decide)) (hm.ne2 804 812 (by decide) (by decide) (by decide)) _).trans (aI_wn (hm.ne2 804 810 (by decide) (by decide) (by decide))))).trans hrr) ?_
      refine kX8_195 (n := 57) C (m_isBacked hst (mCb S ad c0 h k) z ad hm c0 (h + 24) hc ((aI_wn (hm.ne2 810 820 (by decide) (by decide) (by decide))).trans ((T2_n (hm.ne2 810 811 (by decide) (by decide) (by decide)) (hm.ne2 810 812 (by decide) (by decide) (by decide)) c0).trans (if_pos ⟨rfl, rfl⟩))) (by omega) k 48000 rr (by omega) (by omega) (by omega) (by omega) (by omega)) hm.1 (by decide) (by decide) (Nat.le_of_ble_eq_true rfl) dX8_capture_54 rfl (fun r S1 hp => ?_)
      obtain ⟨hS, hr⟩ := hp
      subst S1
      subst r
      rw [if_pos (hall k (by omega) (by omega))]
      refine r_if_eqF (n := 60) (t := 73) C (by decide) dX8_capture_57 (by decide) rfl ?_
      refine r_aload_n (i := 0) (n := 61) C dX8_capture_60 rfl rfl rfl ?_
      refine hX8_70 (n := 64) C hm dX8_capture_61 rfl ?_
      refine r_iload_n (i := 1) (n := 65) C dX8_capture_64 rfl rfl rfl ?_
      refine r_dup2_11 (n := 66) C dX8_capture_65 rfl rfl rfl ?_
      refine q_ialdv (n := 67) (v := nI (k)) C (c0) (ly_820 hm) rfl (by omega) dX8_capture_66 rfl (if_pos ⟨rfl, rfl⟩) ?_
      refine r_iconst (v := 1) (n := 68) C dX8_capture_67 rfl rfl ?_
      refine r_iadd (n := 69) C dX8_capture_68 rfl ?_
      refine q_iast (n := 70) C (c0) (ly_820 hm) rfl (by omega) dX8_capture_69 rfl ?_
      refine r_goto (t := 38) C dX8_capture_70 (by decide) ?_
      rw [show wI (mCb S ad c0 h k) (ad 820) c0 (nI k + 1) = (mCb S ad c0 h (k + 1)) from by unfold mCb; rw [wI_wI, nI_1]]
      exact ih (k + 1) (by omega) (by omega)
  have lp1 : ∀ (q k : Nat), k + q = 24 → J p l e rmX8_capture s m args below meth c 5 G b (vx_MQ below (Qp G b mV (fun _ S' => S' = (mCf S ad c0 h rk n2 rd (n2 - rk)))) (XCp G b S (fun _ => False)) args s rmX8_capture.cells rmX8_capture.slots (Ab b)) 2 [(0, .ref z), (1, .int (nI c0)), (2, .int (nI k))] [] (mCa S ad c0 h k) 0 0 := by
    intro q
    induction q with
    | zero =>
      intro k hk
      obtain rfl : k = 24 := by omega
      refine r_iload_n (i := 2) (n := 3) C dX8_capture_2 rfl rfl rfl ?_
      refine r_bipush (v := 24) (n := 5) C dX8_capture_3 rfl rfl ?_
      refine r_icmp_geT (t := 31) C (cle (a := 24) (b := 24) rfl rfl (by omega) (by omega)) dX8_capture_5 (by decide) ?_
      refine r_aload_n (i := 0) (n := 32) C dX8_capture_31 rfl rfl rfl ?_
      refine hX8_70 (n := 35) C hm dX8_capture_32 rfl ?_
      refine r_iload_n (i := 1) (n := 36) C dX8_capture_35 rfl rfl rfl ?_
      refine q_ialdv (n := 37) (v := nI (rk)) C (c0) (ly_820 hm) rfl (by omega) dX8_capture_36 rfl (((T2_n (hm.ne2 820 811 (by decide) (by decide) (by decide)) (hm.ne2 820 812 (by decide) (by decide) (by decide)) _).trans (aI_wn (hm.ne2 820 810 (by decide) (by decide) (by decide)))).trans hrk) ?_
      refine r_istore_n (i := 2) (n := 38) C dX8_capture_37 rfl (by decide) rfl rfl ?_
      have e1 := lp2 (n2 - rk) rk (by omega) (Nat.le_refl _)
      rw [show (mCb S ad c0 h rk) = (mCa S ad c0 h 24) from by unfold mCb; rw [← hrk, ← show aI (mCa S ad c0 h 24) (ad 820) c0 = aI S (ad 820) c0 from ((T2_n (hm.ne2 820 811 (by decide) (by decide) (by decide)) (hm.ne2 820 812 (by decide) (by decide) (by decide)) _).trans (aI_wn (hm.ne2 820 810 (by decide) (by decide) (by decide))))]; exact wI_self _ _ _] at e1
      exact J.to rfl e1
    | succ q ih =>
      intro k hk
      refine r_iload_n (i := 2) (n := 3) C dX8_capture_2 rfl rfl rfl ?_
      refine r_bipush (v := 24) (n := 5) C dX8_capture_3 rfl rfl ?_
      refine r_icmp_geF (n := 8) (t := 31) C (cnle (a := 24) (b := k) rfl rfl (by omega) (by omega)) dX8_capture_5 (by decide) rfl ?_
      refine r_aload_n (i := 0) (n := 9) C dX8_capture_8 rfl rfl rfl ?_
      refine r_iload_n (i := 1) (n := 10) C dX8_capture_9 rfl rfl rfl ?_
      refine r_aload_n (i := 0) (n := 11) C dX8_capture_10 rfl rfl rfl ?_
      refine hX8_97 (n := 14) C hm dX8_capture_11 rfl ?_
      refine r_iload_n (i := 2) (n := 15) C dX8_capture_14 rfl rfl rfl ?_
      refine q_ialdv (n := 16) (v := aI S (ad 830) k) C (k) (ly_830 hm) rfl (by omega) dX8_capture_15 rfl ((T2_n (hm.ne2 830 811 (by decide) (by decide) (by decide)) (hm.ne2 830 812 (by decide) (by decide) (by decide)) _).trans (aI_wn (hm.ne2 830 810 (by decide) (by decide) (by decide)))) ?_
      refine r_aload_n (i := 0) (n := 17) C dX8_capture_16 rfl rfl rfl ?_
      refine hX8_100 (n := 20) C hm dX8_capture_17 rfl ?_
      refine r_iload_n (i := 2) (n := 21) C dX8_capture_20 rfl rfl rfl ?_
      refine q_ialdv (n := 22) (v := aI S (ad 831) k) C (k) (ly_831 hm) rfl (by omega) dX8_capture_21 rfl ((T2_n (hm.ne2 831 811 (by decide) (by decide) (by decide)) (hm.ne2 831 812 (by decide) (by decide) (by decide)) _).trans (aI_wn (hm.ne2 831 810 (by decide) (by decide) (by decide)))) ?_
      refine kX8_181 (n := 25) C (m_add hst (mCa S ad c0 h k) z ad hm c0 (h + k) hc ((T2_n (hm.ne2 810 811 (by decide) (by decide) (by decide)) (hm.ne2 810 812 (by decide) (by decide) (by decide)) c0).trans (if_pos ⟨rfl, rfl⟩)) (by omega) (aI S (ad 830) k) (aI S (ad 831) k)) hm.1 (by decide) (by decide) (Nat.le_of_ble_eq_true rfl) dX8_capture_22 rfl (fun r S1 hp => ?_)
      subst hp
      refine r_iinc (n := 28) C dX8_capture_25 rfl rfl (by decide) rfl rfl ?_
      refine r_goto (t := 2) C dX8_capture_28 (by decide) ?_
      rw [show mAdd (mCa S ad c0 h k) ad c0 (h + k) (aI S (ad 830) k) (aI S (ad 831) k) = (mCa S ad c0 h (k + 1)) from by
        unfold mAdd mCa
        rw [T2_a hba, T2_b, wI_T2 (hm.ne2 811 810 (by decide) (by decide) (by decide)) (hm.ne2 812 810 (by decide) (by decide) (by decide)), wI_wI, show 12800 * c0 + (h + k) = 12800 * c0 + h + k by omega, blk_s, blk_s]
        rfl]
      exact J.to (by rw [show nI k + Int32.ofInt 1 = nI (k + 1) from nI_1 k]; rfl) (ih (k + 1) (by omega))
  have e0 := lp1 24 0 (by omega)
  rw [show (mCa S ad c0 h 0) = S from by unfold mCa; rw [blk_0, blk_0, Nat.add_zero, ← hh, show wI S (ad 810) c0 (aI S (ad 810) c0) = S from wI_self _ _ _]; exact T2_self hba] at e0
  exact J.to rfl e0
