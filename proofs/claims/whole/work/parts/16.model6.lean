def inM (f : Nat) : Bool := (ML.map (·.1)).contains f
theorem mGN_n {S : Sw} {z : Nat} {ad : Nat → Nat} (hm : lay S z ad) (f : Nat) (hf : inM f = true) (h1 : f ≠ 838) (h2 : f ≠ 839) (i : Nat) : aI (mGN S ad) (ad f) i = aI S (ad f) i := T2_n (hm.ne2 f 838 hf (by decide) h1) (hm.ne2 f 839 hf (by decide) h2) i
theorem mGO_n {S : Sw} {z : Nat} {ad : Nat → Nat} (hm : lay S z ad) {c h nx rr : Nat} (f : Nat) (hf : inM f = true) (h1 : f ≠ 838) (h2 : f ≠ 839) (h3 : f ≠ 816) (h4 : f ≠ 817) (h5 : f ≠ 815) (i : Nat) : aI (mGO S ad c h nx rr) (ad f) i = aI S (ad f) i :=
  (aI_wn (hm.ne2 f 815 hf (by decide) h5)).trans ((aI_wn (hm.ne2 f 817 hf (by decide) h4)).trans ((aI_wn (hm.ne2 f 816 hf (by decide) h3)).trans (T2_n (hm.ne2 f 838 hf (by decide) h1) (hm.ne2 f 839 hf (by decide) h2) i)))
theorem mFd_n {S : Sw} {z : Nat} {ad : Nat → Nat} (hm : lay S z ad) {c : Nat} (f : Nat) (hf : inM f = true) (h1 : f ≠ 838) (h2 : f ≠ 839) (h3 : f ≠ 816) (h4 : f ≠ 817) (h5 : f ≠ 809) (i : Nat) : aI (mFd S ad c) (ad f) i = aI S (ad f) i :=
  (aI_wn (hm.ne2 f 809 hf (by decide) h5)).trans ((aI_wn (hm.ne2 f 817 hf (by decide) h4)).trans ((aI_wn (hm.ne2 f 816 hf (by decide) h3)).trans (T2_n (hm.ne2 f 838 hf (by decide) h1) (hm.ne2 f 839 hf (by decide) h2) i)))
set_option maxRecDepth 100000 in
set_option maxHeartbeats 1000000 in
theorem m_give_0 {l : Launch} {G : GG} {b : Nat} (hst : l.stackTraces = false) (S : Sw) (z : Nat) (ad : Nat → Nat) (hm : lay S z ad) (c0 : Nat) (hc : c0 < 6) (h3 : ¬ aI S (ad 808) c0 = 3) (h1 : ¬ aI S (ad 808) c0 = 1) : Ct l G b yX8_give cX8_give 3 (some .boolean) rmX8_give mI [.ref z, .int (nI c0)] S (fun r S' => S' = mGN S ad ∧ r = 0) := by
  refine Ct.of2 pnX8 (own := RX8) rfl (Nat.le_of_ble_eq_true rfl) hst ?_
  intro p e s m args below meth c C hname
  change J p l e rmX8_give s m args below meth c 3 G b _ 0 [(0, .ref z), (1, .int (nI c0))] [] S 0 0
  refine r_aload_n (i := 0) (n := 1) C dX8_give_0 rfl rfl rfl ?_
  refine kX8_199 (n := 4) C (m_giveNothing hst S z ad hm) hm.1 (by decide) (by decide) (Nat.le_of_ble_eq_true rfl) dX8_give_1 rfl (fun r S1 hp => ?_)
  subst hp
  refine r_aload_n (i := 0) (n := 5) C dX8_give_4 rfl rfl rfl ?_
  refine hX8_32 (n := 8) C hm dX8_give_5 rfl ?_
  refine r_iload_n (i := 1) (n := 9) C dX8_give_8 rfl rfl rfl ?_
  refine q_ialdv (n := 10) (v := aI S (ad 808) c0) C (c0) (ly_808 hm) rfl (by omega) dX8_give_9 rfl (mGN_n hm 808 (by decide) (by decide) (by decide) _) ?_
  refine r_iconst (v := 3) (n := 11) C dX8_give_10 rfl rfl ?_
  refine r_icmp_neT (t := 66) C h3 dX8_give_11 (by decide) ?_
  refine r_aload_n (i := 0) (n := 67) C dX8_give_66 rfl rfl rfl ?_
  refine hX8_32 (n := 70) C hm dX8_give_67 rfl ?_
  refine r_iload_n (i := 1) (n := 71) C dX8_give_70 rfl rfl rfl ?_
  refine q_ialdv (n := 72) (v := aI S (ad 808) c0) C (c0) (ly_808 hm) rfl (by omega) dX8_give_71 rfl (mGN_n hm 808 (by decide) (by decide) (by decide) _) ?_
  refine r_iconst (v := 1) (n := 73) C dX8_give_72 rfl rfl ?_
  refine r_icmp_eqF (n := 76) (t := 78) C h1 dX8_give_73 (by decide) rfl ?_
  refine r_iconst (v := 0) (n := 77) C dX8_give_76 rfl rfl ?_
  refine t_i C rfl dX8_give_77 (by decide) ?_
  exact ⟨rfl, rfl⟩
set_option maxRecDepth 100000 in
set_option maxHeartbeats 1000000 in
theorem m_give_b {l : Launch} {G : GG} {b : Nat} (hst : l.stackTraces = false) (S : Sw) (z : Nat) (ad : Nat → Nat) (hm : lay S z ad) (c0 h nx rr : Nat) (hc : c0 < 6) (hh : aI S (ad 810) c0 = nI h) (hb : h ≤ 12800) (hnx : aI S (ad 815) c0 = nI nx) (hrr : aI S (ad 804) c0 = nI rr) (hn : nx < 2 ^ 19) (hr : rtN rr) (h1 : aI S (ad 808) c0 = 1) (hbk : (nx + 23) * rr / 48000 + (if rr = 48000 then 0 else 8) < h) : Ct l G b yX8_give cX8_give 3 (some .boolean) rmX8_give mI [.ref z, .int (nI c0)] S (fun r S' => S' = (mGO (mGN S ad) ad c0 h nx rr) ∧ r = 1) := by
  refine Ct.of2 pnX8 (own := RX8) rfl (Nat.le_of_ble_eq_true rfl) hst ?_
  intro p e s m args below meth c C hname
  change J p l e rmX8_give s m args below meth c 3 G b _ 0 [(0, .ref z), (1, .int (nI c0))] [] S 0 0
  refine r_aload_n (i := 0) (n := 1) C dX8_give_0 rfl rfl rfl ?_
  refine kX8_199 (n := 4) C (m_giveNothing hst S z ad hm) hm.1 (by decide) (by decide) (Nat.le_of_ble_eq_true rfl) dX8_give_1 rfl (fun r S1 hp => ?_)
  subst hp
  refine r_aload_n (i := 0) (n := 5) C dX8_give_4 rfl rfl rfl ?_
  refine hX8_32 (n := 8) C hm dX8_give_5 rfl ?_
  refine r_iload_n (i := 1) (n := 9) C dX8_give_8 rfl rfl rfl ?_
  refine q_ialdv (n := 10) (v := aI S (ad 808) c0) C (c0) (ly_808 hm) rfl (by omega) dX8_give_9 rfl (mGN_n hm 808 (by decide) (by decide) (by decide) _) ?_
  refine r_iconst (v := 3) (n := 11) C dX8_give_10 rfl rfl ?_
  refine r_icmp_neT (t := 66) C (by rw [h1]; decide) dX8_give_11 (by decide) ?_
  refine r_aload_n (i := 0) (n := 67) C dX8_give_66 rfl rfl rfl ?_
  refine hX8_32 (n := 70) C hm dX8_give_67 rfl ?_
  refine r_iload_n (i := 1) (n := 71) C dX8_give_70 rfl rfl rfl ?_
  refine q_ialdv (n := 72) (v := aI S (ad 808) c0) C (c0) (ly_808 hm) rfl (by omega) dX8_give_71 rfl (mGN_n hm 808 (by decide) (by decide) (by decide) _) ?_
  refine r_iconst (v := 1) (n := 73) C dX8_give_72 rfl rfl ?_
  refine r_icmp_eqT (t := 78) C h1 dX8_give_73 (by decide) ?_
  refine r_aload_n (i := 0) (n := 79) C dX8_give_78 rfl rfl rfl ?_
  refine r_iload_n (i := 1) (n := 80) C dX8_give_79 rfl rfl rfl ?_
  refine r_aload_n (i := 0) (n := 81) C dX8_give_80 rfl rfl rfl ?_
  refine hX8_54 (n := 84) C hm dX8_give_81 rfl ?_
  refine r_iload_n (i := 1) (n := 85) C dX8_give_84 rfl rfl rfl ?_
  refine q_ialdv (n := 86) (v := nI (nx)) C (c0) (ly_815 hm) rfl (by omega) dX8_give_85 rfl ((mGN_n hm 815 (by decide) (by decide) (by decide) _).trans hnx) ?_
  refine r_bipush (v := 24) (n := 88) C dX8_give_86 rfl rfl ?_
  refine r_iadd (n := 89) C dX8_give_88 rfl ?_
  rw [show nI nx + 24 = nI (nx + 24) from nI_add nx 24]
  refine r_iconst (v := 1) (n := 90) C dX8_give_89 rfl rfl ?_
  refine r_isub (n := 91) C dX8_give_90 rfl ?_
  refine r_aload_n (i := 0) (n := 92) C dX8_give_91 rfl rfl rfl ?_
  refine hX8_20 (n := 95) C hm dX8_give_92 rfl ?_
  refine r_iload_n (i := 1) (n := 96) C dX8_give_95 rfl rfl rfl ?_
  refine q_ialdv (n := 97) (v := nI (rr)) C (c0) (ly_804 hm) rfl (by omega) dX8_give_96 rfl ((mGN_n hm 804 (by decide) (by decide) (by decide) _).trans hrr) ?_
  refine r_ldc (n := 99) (v := 48000) C (mem_tb (mem_tbl 885 (by decide +kernel)) (by decide +kernel)) dX8_give_97 rfl ?_
  rw [show nI (nx + 24) - 1 = nI (nx + 23) from sub_nI (b := 1) rfl rfl (by omega)]
  refine kX8_195 (n := 102) C (m_isBacked hst (mGN S ad) z ad hm c0 h hc ((mGN_n hm 810 (by decide) (by decide) (by decide) _).trans hh) hb (nx + 23) rr 48000 (by omega) (rtN.le hr).1 (rtN.le hr).2 (by omega) (by omega)) hm.1 (by decide) (by decide) (Nat.le_of_ble_eq_true rfl) dX8_give_99 rfl (fun r S1 hp => ?_)
  obtain ⟨hS, hr⟩ := hp
  subst S1
  subst r
  rw [if_pos hbk]
  refine r_istore_n (i := 2) (n := 103) C dX8_give_102 rfl (by decide) rfl rfl ?_
  refine r_iload_n (i := 2) (n := 104) C dX8_give_103 rfl rfl rfl ?_
  refine r_if_eqF (n := 107) (t := 115) C (by decide) dX8_give_104 (by decide) rfl ?_
  refine r_aload_n (i := 0) (n := 108) C dX8_give_107 rfl rfl rfl ?_
  refine r_iload_n (i := 1) (n := 109) C dX8_give_108 rfl rfl rfl ?_
  refine kX8_202 (n := 112) C (m_giveOutputs hst (mGN S ad) z ad hm c0 h nx rr hc ((mGN_n hm 810 (by decide) (by decide) (by decide) _).trans hh) hb ((mGN_n hm 815 (by decide) (by decide) (by decide) _).trans hnx) ((mGN_n hm 804 (by decide) (by decide) (by decide) _).trans hrr) hn hr) hm.1 (by decide) (by decide) (Nat.le_of_ble_eq_true rfl) dX8_give_109 rfl (fun r S1 hp => ?_)
  subst hp
  refine r_goto (t := 120) C dX8_give_112 (by decide) ?_
  refine r_iload_n (i := 2) (n := 121) C dX8_give_120 rfl rfl rfl ?_
  refine t_i C rfl dX8_give_121 (by decide) ?_
  exact ⟨rfl, rfl⟩
set_option maxRecDepth 100000 in
set_option maxHeartbeats 1000000 in
theorem m_give_f {l : Launch} {G : GG} {b : Nat} (hst : l.stackTraces = false) (S : Sw) (z : Nat) (ad : Nat → Nat) (hm : lay S z ad) (c0 h nx rr : Nat) (hc : c0 < 6) (hh : aI S (ad 810) c0 = nI h) (hb : h ≤ 12800) (hnx : aI S (ad 815) c0 = nI nx) (hrr : aI S (ad 804) c0 = nI rr) (hn : nx < 2 ^ 19) (hr : rtN rr) (h1 : aI S (ad 808) c0 = 1) (hbk : ¬ (nx + 23) * rr / 48000 + (if rr = 48000 then 0 else 8) < h) : Ct l G b yX8_give cX8_give 3 (some .boolean) rmX8_give mI [.ref z, .int (nI c0)] S (fun r S' => S' = mFd (mGN S ad) ad c0 ∧ r = 0) := by
  refine Ct.of2 pnX8 (own := RX8) rfl (Nat.le_of_ble_eq_true rfl) hst ?_
  intro p e s m args below meth c C hname
  change J p l e rmX8_give s m args below meth c 3 G b _ 0 [(0, .ref z), (1, .int (nI c0))] [] S 0 0
  refine r_aload_n (i := 0) (n := 1) C dX8_give_0 rfl rfl rfl ?_
  refine kX8_199 (n := 4) C (m_giveNothing hst S z ad hm) hm.1 (by decide) (by decide) (Nat.le_of_ble_eq_true rfl) dX8_give_1 rfl (fun r S1 hp => ?_)
  subst hp
  refine r_aload_n (i := 0) (n := 5) C dX8_give_4 rfl rfl rfl ?_
  refine hX8_32 (n := 8) C hm dX8_give_5 rfl ?_
  refine r_iload_n (i := 1) (n := 9) C dX8_give_8 rfl rfl rfl ?_
  refine q_ialdv (n := 10) (v := aI S (ad 808) c0) C (c0) (ly_808 hm) rfl (by omega) dX8_give_9 rfl (mGN_n hm 808 (by decide) (by decide) (by decide) _) ?_
  refine r_iconst (v := 3) (n := 11) C dX8_give_10 rfl rfl ?_
  refine r_icmp_neT (t := 66) C (by rw [h1]; decide) dX8_give_11 (by decide) ?_
  refine r_aload_n (i := 0) (n := 67) C dX8_give_66 rfl rfl rfl ?_
  refine hX8_32 (n := 70) C hm dX8_give_67 rfl ?_
  refine r_iload_n (i := 1) (n := 71) C dX8_give_70 rfl rfl rfl ?_
  refine q_ialdv (n := 72) (v := aI S (ad 808) c0) C (c0) (ly_808 hm) rfl (by omega) dX8_give_71 rfl (mGN_n hm 808 (by decide) (by decide) (by decide) _) ?_
  refine r_iconst (v := 1) (n := 73) C dX8_give_72 rfl rfl ?_
  refine r_icmp_eqT (t := 78) C h1 dX8_give_73 (by decide) ?_
  refine r_aload_n (i := 0) (n := 79) C dX8_give_78 rfl rfl rfl ?_
  refine r_iload_n (i := 1) (n := 80) C dX8_give_79 rfl rfl rfl ?_
  refine r_aload_n (i := 0) (n := 81) C dX8_give_80 rfl rfl rfl ?_
  refine hX8_54 (n := 84) C hm dX8_give_81 rfl ?_
  refine r_iload_n (i := 1) (n := 85) C dX8_give_84 rfl rfl rfl ?_
  refine q_ialdv (n := 86) (v := nI (nx)) C (c0) (ly_815 hm) rfl (by omega) dX8_give_85 rfl ((mGN_n hm 815 (by decide) (by decide) (by decide) _).trans hnx) ?_
  refine r_bipush (v := 24) (n := 88) C dX8_give_86 rfl rfl ?_
  refine r_iadd (n := 89) C dX8_give_88 rfl ?_
  rw [show nI nx + 24 = nI (nx + 24) from nI_add nx 24]
  refine r_iconst (v := 1) (n := 90) C dX8_give_89 rfl rfl ?_
  refine r_isub (n := 91) C dX8_give_90 rfl ?_
  refine r_aload_n (i := 0) (n := 92) C dX8_give_91 rfl rfl rfl ?_
  refine hX8_20 (n := 95) C hm dX8_give_92 rfl ?_
  refine r_iload_n (i := 1) (n := 96) C dX8_give_95 rfl rfl rfl ?_
  refine q_ialdv (n := 97) (v := nI (rr)) C (c0) (ly_804 hm) rfl (by omega) dX8_give_96 rfl ((mGN_n hm 804 (by decide) (by decide) (by decide) _).trans hrr) ?_
  refine r_ldc (n := 99) (v := 48000) C (mem_tb (mem_tbl 885 (by decide +kernel)) (by decide +kernel)) dX8_give_97 rfl ?_
  rw [show nI (nx + 24) - 1 = nI (nx + 23) from sub_nI (b := 1) rfl rfl (by omega)]
  refine kX8_195 (n := 102) C (m_isBacked hst (mGN S ad) z ad hm c0 h hc ((mGN_n hm 810 (by decide) (by decide) (by decide) _).trans hh) hb (nx + 23) rr 48000 (by omega) (rtN.le hr).1 (rtN.le hr).2 (by omega) (by omega)) hm.1 (by decide) (by decide) (Nat.le_of_ble_eq_true rfl) dX8_give_99 rfl (fun r S1 hp => ?_)
  obtain ⟨hS, hr⟩ := hp
  subst S1
  subst r
  rw [if_neg hbk]
  refine r_istore_n (i := 2) (n := 103) C dX8_give_102 rfl (by decide) rfl rfl ?_
  refine r_iload_n (i := 2) (n := 104) C dX8_give_103 rfl rfl rfl ?_
  refine r_if_eqT (t := 115) C rfl dX8_give_104 (by decide) ?_
  refine r_aload_n (i := 0) (n := 116) C dX8_give_115 rfl rfl rfl ?_
  refine r_iload_n (i := 1) (n := 117) C dX8_give_116 rfl rfl rfl ?_
  refine kX8_206 (n := 120) C (m_fade hst (mGN S ad) z ad hm c0 hc) hm.1 (by decide) (by decide) (Nat.le_of_ble_eq_true rfl) dX8_give_117 rfl (fun r S1 hp => ?_)
  subst hp
  refine r_iload_n (i := 2) (n := 121) C dX8_give_120 rfl rfl rfl ?_
  refine t_i C rfl dX8_give_121 (by decide) ?_
  exact ⟨rfl, rfl⟩
def mLs (rr : Nat) : Int32 := if rr = 48000 then 0 else 7
set_option maxRecDepth 100000 in
set_option maxHeartbeats 1000000 in
theorem m_give_d {l : Launch} {G : GG} {b : Nat} (hst : l.stackTraces = false) (S : Sw) (z : Nat) (ad : Nat → Nat) (hm : lay S z ad) (c0 h nx rr : Nat) (hc : c0 < 6) (hh : aI S (ad 810) c0 = nI h) (hb : h ≤ 12800) (hnx : aI S (ad 815) c0 = nI nx) (hrr : aI S (ad 804) c0 = nI rr) (hn : nx < 2 ^ 19) (hr : rtN rr) (h3 : aI S (ad 808) c0 = 3) : Ct l G b yX8_give cX8_give 3 (some .boolean) rmX8_give mI [.ref z, .int (nI c0)] S (fun r S' => S' = wI (mGO (mGN S ad) ad c0 h nx rr) (ad 808) c0 (if nI ((nx + 24) * rr / 48000) - mLs rr < nI h then 3 else 4) ∧ r = 1) := by
  refine Ct.of2 pnX8 (own := RX8) rfl (Nat.le_of_ble_eq_true rfl) hst ?_
  intro p e s m args below meth c C hname
  change J p l e rmX8_give s m args below meth c 3 G b _ 0 [(0, .ref z), (1, .int (nI c0))] [] S 0 0
  refine r_aload_n (i := 0) (n := 1) C dX8_give_0 rfl rfl rfl ?_
  refine kX8_199 (n := 4) C (m_giveNothing hst S z ad hm) hm.1 (by decide) (by decide) (Nat.le_of_ble_eq_true rfl) dX8_give_1 rfl (fun r S1 hp => ?_)
  subst hp
  refine r_aload_n (i := 0) (n := 5) C dX8_give_4 rfl rfl rfl ?_
  refine hX8_32 (n := 8) C hm dX8_give_5 rfl ?_
  refine r_iload_n (i := 1) (n := 9) C dX8_give_8 rfl rfl rfl ?_
  refine q_ialdv (n := 10) (v := aI S (ad 808) c0) C (c0) (ly_808 hm) rfl (by omega) dX8_give_9 rfl (mGN_n hm 808 (by decide) (by decide) (by decide) _) ?_
  refine r_iconst (v := 3) (n := 11) C dX8_give_10 rfl rfl ?_
  refine r_icmp_neF (n := 14) (t := 66) C h3 dX8_give_11 (by decide) rfl ?_
  refine r_aload_n (i := 0) (n := 15) C dX8_give_14 rfl rfl rfl ?_
  refine r_iload_n (i := 1) (n := 16) C dX8_give_15 rfl rfl rfl ?_
  refine kX8_202 (n := 19) C (m_giveOutputs hst (mGN S ad) z ad hm c0 h nx rr hc ((mGN_n hm 810 (by decide) (by decide) (by decide) _).trans hh) hb ((mGN_n hm 815 (by decide) (by decide) (by decide) _).trans hnx) ((mGN_n hm 804 (by decide) (by decide) (by decide) _).trans hrr) hn hr) hm.1 (by decide) (by decide) (Nat.le_of_ble_eq_true rfl) dX8_give_16 rfl (fun r S1 hp => ?_)
  subst hp
  refine r_aload_n (i := 0) (n := 20) C dX8_give_19 rfl rfl rfl ?_
  refine hX8_20 (n := 23) C hm dX8_give_20 rfl ?_
  refine r_iload_n (i := 1) (n := 24) C dX8_give_23 rfl rfl rfl ?_
  refine q_ialdv (n := 25) (v := nI (rr)) C (c0) (ly_804 hm) rfl (by omega) dX8_give_24 rfl (((mGO_n (S := mGN S ad) hm 804 (by decide) (by decide) (by decide) (by decide) (by decide) (by decide) _).trans (mGN_n hm 804 (by decide) (by decide) (by decide) _)).trans hrr) ?_
  refine r_ldc (n := 27) (v := 48000) C (mem_tb (mem_tbl 885 (by decide +kernel)) (by decide +kernel)) dX8_give_25 rfl ?_
  have hj : ∀ lx : Int32, lx = mLs rr → J p l e rmX8_give s m args below meth c 3 G b (vx_MQ below (Qp G b mI (fun r S' => S' = wI (mGO (mGN S ad) ad c0 h nx rr) (ad 808) c0 (if nI ((nx + 24) * rr / 48000) - mLs rr < nI h then 3 else 4) ∧ r = 1)) (XCp G b S (fun _ => False)) args s rmX8_give.cells rmX8_give.slots (Ab b)) 36 [(0, .ref z), (1, .int (nI c0))] [.int lx] (mGO (mGN S ad) ad c0 h nx rr) 0 0 := by
    rintro lx rfl
    refine r_istore_n (i := 2) (n := 37) C dX8_give_36 rfl (by decide) rfl rfl ?_
    refine r_aload_n (i := 0) (n := 38) C dX8_give_37 rfl rfl rfl ?_
    refine hX8_32 (n := 41) C hm dX8_give_38 rfl ?_
    refine r_iload_n (i := 1) (n := 42) C dX8_give_41 rfl rfl rfl ?_
    refine r_aload_n (i := 0) (n := 43) C dX8_give_42 rfl rfl rfl ?_
    refine r_iload_n (i := 1) (n := 44) C dX8_give_43 rfl rfl rfl ?_
    refine kX8_167 (n := 47) C (m_place hst (mGO (mGN S ad) ad c0 h nx rr) z ad hm c0 (nx + 24) rr hc (show aI (mGO (mGN S ad) ad c0 h nx rr) (ad 815) c0 = nI (nx + 24) from if_pos ⟨rfl, rfl⟩) (((mGO_n (S := mGN S ad) hm 804 (by decide) (by decide) (by decide) (by decide) (by decide) (by decide) _).trans (mGN_n hm 804 (by decide) (by decide) (by decide) _)).trans hrr) (by omega) hr) hm.1 (by decide) (by decide) (Nat.le_of_ble_eq_true rfl) dX8_give_44 rfl (fun r S1 hp => ?_)
    obtain ⟨hS, hr⟩ := hp
    subst S1
    subst r
    refine r_iload_n (i := 2) (n := 48) C dX8_give_47 rfl rfl rfl ?_
    refine r_isub (n := 49) C dX8_give_48 rfl ?_
    refine r_aload_n (i := 0) (n := 50) C dX8_give_49 rfl rfl rfl ?_
    refine hX8_38 (n := 53) C hm dX8_give_50 rfl ?_
    refine r_iload_n (i := 1) (n := 54) C dX8_give_53 rfl rfl rfl ?_
    refine q_ialdv (n := 55) (v := nI (h)) C (c0) (ly_810 hm) rfl (by omega) dX8_give_54 rfl (((mGO_n (S := mGN S ad) hm 810 (by decide) (by decide) (by decide) (by decide) (by decide) (by decide) _).trans (mGN_n hm 810 (by decide) (by decide) (by decide) _)).trans hh) ?_
    refine r_icmp_lt (n := 58) (t := 62) C dX8_give_55 (by decide) rfl (fun h55 => ?_) (fun h55 => ?_)
    · refine r_iconst (v := 3) (n := 63) C dX8_give_62 rfl rfl ?_
      refine q_iast (n := 64) C (c0) (ly_808 hm) rfl (by omega) dX8_give_63 rfl ?_
      refine r_iconst (v := 1) (n := 65) C dX8_give_64 rfl rfl ?_
      refine t_i C rfl dX8_give_65 (by decide) ?_
      refine ⟨?_, rfl⟩
      first | (rw [if_pos h55]) | (rw [if_neg h55])
    · refine r_iconst (v := 4) (n := 59) C dX8_give_58 rfl rfl ?_
      refine r_goto (t := 63) C dX8_give_59 (by decide) ?_
      refine q_iast (n := 64) C (c0) (ly_808 hm) rfl (by omega) dX8_give_63 rfl ?_
      refine r_iconst (v := 1) (n := 65) C dX8_give_64 rfl rfl ?_
      refine t_i C rfl dX8_give_65 (by decide) ?_
      refine ⟨?_, rfl⟩
      first | (rw [if_pos h55]) | (rw [if_neg h55])
  refine r_icmp_ne (n := 30) (t := 34) C dX8_give_27 (by decide) rfl (fun h27 => ?_) (fun h27 => ?_)
  · refine r_bipush (v := 7) (n := 36) C dX8_give_34 rfl rfl ?_
    first | exact J.to rfl (hj 0 (show 0 = mLs rr from (if_pos ((nI_eq (b := 48000) (by have := rtN.le hr; omega) (by omega)).mp h27)).symm)) | exact J.to rfl (hj 7 (show 7 = mLs rr from (if_neg (fun q => h27 (by rw [q]; rfl))).symm))
  · refine r_iconst (v := 0) (n := 31) C dX8_give_30 rfl rfl ?_
    refine r_goto (t := 36) C dX8_give_31 (by decide) ?_
    first | exact J.to rfl (hj 0 (show 0 = mLs rr from (if_pos ((nI_eq (b := 48000) (by have := rtN.le hr; omega) (by omega)).mp h27)).symm)) | exact J.to rfl (hj 7 (show 7 = mLs rr from (if_neg (fun q => h27 (by rw [q]; rfl))).symm))
