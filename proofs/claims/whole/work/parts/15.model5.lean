def sr (r : Nat → Int32) (j : Nat) (v : Int32) : Nat → Int32 := fun i => if i = j then v else r i
/-- new up to j, old behind -/
def pw (f g : Nat → Int32) (j : Nat) : Nat → Int32 := fun i => if i < j then f i else g i
theorem pw_0 (f g : Nat → Int32) : pw f g 0 = g := funext fun i => if_neg (Nat.not_lt_zero i)
theorem pw_s (f g : Nat → Int32) (j : Nat) : sr (pw f g j) j (f j) = pw f g (j + 1) := funext fun i => by
  unfold sr pw
  by_cases h : i = j
  · subst h; rw [if_pos rfl, if_pos (by omega)]
  · rw [if_neg h]
    by_cases h2 : i < j
    · rw [if_pos h2, if_pos (by omega)]
    · rw [if_neg h2, if_neg (by omega)]
theorem pw_lt {f g : Nat → Int32} {j i : Nat} (h : i < j) : pw f g j i = f i := if_pos h
theorem pw_ge {f g : Nat → Int32} {j i : Nat} (h : j ≤ i) : pw f g j i = g i := if_neg (by omega)
theorem pw_pw (f g h : Nat → Int32) (j : Nat) : pw f (pw g h j) j = pw f h j := funext fun i => by
  unfold pw
  by_cases h2 : i < j
  · rw [if_pos h2, if_pos h2]
  · rw [if_neg h2, if_neg h2, if_neg h2]
def T2 (S : Sw) (a b : Nat) (r1 r2 : Nat → Int32) : Sw := wIs (wIs S a r1) b r2
theorem T2_a {S : Sw} {a b : Nat} {r1 r2 : Nat → Int32} (h : b ≠ a) (j : Nat) (v : Int32) : wI (T2 S a b r1 r2) a j v = T2 S a b (sr r1 j v) r2 := by
  unfold T2; rw [wI_wIs2 _ _ _ _ h, wI_wIs]; rfl
theorem T2_b {S : Sw} {a b : Nat} {r1 r2 : Nat → Int32} (j : Nat) (v : Int32) : wI (T2 S a b r1 r2) b j v = T2 S a b r1 (sr r2 j v) := by
  unfold T2; rw [wI_wIs]; rfl
theorem T2_self {S : Sw} {a b : Nat} (h : b ≠ a) : T2 S a b (aI S a) (aI S b) = S := by
  unfold T2; rw [wIs_self]; exact wIs_self S b
theorem T2_T2 {S : Sw} {a b : Nat} {r1 r2 r3 r4 : Nat → Int32} (h : b ≠ a) : T2 (T2 S a b r1 r2) a b r3 r4 = T2 S a b r3 r4 := by
  unfold T2; rw [wIs_comm _ _ _ h, wIs_wIs, wIs_wIs]
theorem T2_ra {S : Sw} {a b : Nat} {r1 r2 : Nat → Int32} (h : b ≠ a) (i : Nat) : aI (T2 S a b r1 r2) a i = r1 i := (aI_wsn h.symm).trans (if_pos rfl)
theorem T2_rb {S : Sw} {a b : Nat} {r1 r2 : Nat → Int32} (i : Nat) : aI (T2 S a b r1 r2) b i = r2 i := if_pos rfl
theorem T2_n {S : Sw} {a b x : Nat} {r1 r2 : Nat → Int32} (h1 : x ≠ a) (h2 : x ≠ b) (i : Nat) : aI (T2 S a b r1 r2) x i = aI S x i := (aI_wsn h2).trans (aI_wsn h1)
theorem gM_c {S S' : Sw} {ad : Nat → Nat} {c h : Nat} {rt : Int32} (h1 : ∀ i, aI S' (ad 811) i = aI S (ad 811) i) (h2 : ∀ i, aI S' (ad 812) i = aI S (ad 812) i) : gM S' ad c h rt = gM S ad c h rt := by
  funext x; unfold gM
  by_cases hr : rt = 0
  · simp only [hr, ↓reduceIte, h1]
  · simp only [hr, ↓reduceIte, h2]
def mGN (S : Sw) (ad : Nat → Nat) : Sw := T2 S (ad 838) (ad 839) (pw (fun _ => 0) (aI S (ad 838)) 24) (pw (fun _ => 0) (aI S (ad 839)) 24)
set_option maxRecDepth 100000 in
set_option maxHeartbeats 1000000 in
theorem m_giveNothing {l : Launch} {G : GG} {b : Nat} (hst : l.stackTraces = false) (S : Sw) (z : Nat) (ad : Nat → Nat) (hm : lay S z ad) : Ct l G b yX8_giveNothing cX8_giveNothing 2 none rmX8_giveNothing mV [.ref z] S (fun _ S' => S' = mGN S ad) := by
  refine Ct.of2 pnX8 (own := RX8) rfl (Nat.le_of_ble_eq_true rfl) hst ?_
  intro p e s m args below meth c C hname
  change J p l e rmX8_giveNothing s m args below meth c 2 G b _ 0 [(0, .ref z)] [] S 0 0
  refine r_iconst (v := 0) (n := 1) C dX8_giveNothing_0 rfl rfl ?_
  refine r_istore_n (i := 1) (n := 2) C dX8_giveNothing_1 rfl (by decide) rfl rfl ?_
  have hba : ad 839 ≠ ad 838 := (hm.ne2 839 838 (by decide) (by decide) (by decide))
  have loop : ∀ (q k : Nat), k + q = 24 → J p l e rmX8_giveNothing s m args below meth c 2 G b (vx_MQ below (Qp G b mV (fun _ S' => S' = mGN S ad)) (XCp G b S (fun _ => False)) args s rmX8_giveNothing.cells rmX8_giveNothing.slots (Ab b)) 2 [(0, .ref z), (1, .int (nI k))] [] (T2 S (ad 838) (ad 839) (pw (fun _ => 0) (aI S (ad 838)) k) (pw (fun _ => 0) (aI S (ad 839)) k)) 0 0 := by
    intro q
    induction q with
    | zero =>
      intro k hk
      obtain rfl : k = 24 := by omega
      refine r_iload_n (i := 1) (n := 3) C dX8_giveNothing_2 rfl rfl rfl ?_
      refine r_bipush (v := 24) (n := 5) C dX8_giveNothing_3 rfl rfl ?_
      refine r_icmp_geT (t := 28) C (cle (a := 24) (b := 24) rfl rfl (by omega) (by omega)) dX8_giveNothing_5 (by decide) ?_
      refine t_v C dX8_giveNothing_28 (by decide) ?_
      rfl
    | succ q ih =>
      intro k hk
      refine r_iload_n (i := 1) (n := 3) C dX8_giveNothing_2 rfl rfl rfl ?_
      refine r_bipush (v := 24) (n := 5) C dX8_giveNothing_3 rfl rfl ?_
      refine r_icmp_geF (n := 8) (t := 28) C (cnle (a := 24) (b := k) rfl rfl (by omega) (by omega)) dX8_giveNothing_5 (by decide) rfl ?_
      refine r_aload_n (i := 0) (n := 9) C dX8_giveNothing_8 rfl rfl rfl ?_
      refine hX8_117 (n := 12) C hm dX8_giveNothing_9 rfl ?_
      refine r_iload_n (i := 1) (n := 13) C dX8_giveNothing_12 rfl rfl rfl ?_
      refine r_iconst (v := 0) (n := 14) C dX8_giveNothing_13 rfl rfl ?_
      refine q_iast (n := 15) C (k) (ly_838 hm) rfl (by omega) dX8_giveNothing_14 rfl ?_
      refine r_aload_n (i := 0) (n := 16) C dX8_giveNothing_15 rfl rfl rfl ?_
      refine hX8_120 (n := 19) C hm dX8_giveNothing_16 rfl ?_
      refine r_iload_n (i := 1) (n := 20) C dX8_giveNothing_19 rfl rfl rfl ?_
      refine r_iconst (v := 0) (n := 21) C dX8_giveNothing_20 rfl rfl ?_
      refine q_iast (n := 22) C (k) (ly_839 hm) rfl (by omega) dX8_giveNothing_21 rfl ?_
      refine r_iinc (n := 25) C dX8_giveNothing_22 rfl rfl (by decide) rfl rfl ?_
      refine r_goto (t := 2) C dX8_giveNothing_25 (by decide) ?_
      rw [T2_a hba, T2_b, show sr (pw (fun _ => 0) (aI S (ad 838)) k) k 0 = _ from pw_s _ _ _, show sr (pw (fun _ => 0) (aI S (ad 839)) k) k 0 = _ from pw_s _ _ _]
      exact J.to (by rw [show nI k + Int32.ofInt 1 = nI (k + 1) from nI_1 k]; rfl) (ih (k + 1) (by omega))
  have e0 := loop 24 0 (by omega)
  rw [pw_0, pw_0, T2_self hba] at e0
  exact J.to rfl e0
/-- a player's outputs of a period -/
def outs (S : Sw) (ad : Nat → Nat) (c h nx rr : Nat) (rt : Int32) : Nat → Int32 := fun j => flt (aI S (ad 801)) (gM S ad c h rt) (nx + j) rr 48000
def mGO (S : Sw) (ad : Nat → Nat) (c h nx rr : Nat) : Sw := wI (wI (wI (T2 S (ad 838) (ad 839) (pw (outs S ad c h nx rr 0) (aI S (ad 838)) 24) (pw (outs S ad c h nx rr 1) (aI S (ad 839)) 24)) (ad 816) c (outs S ad c h nx rr 0 23)) (ad 817) c (outs S ad c h nx rr 1 23)) (ad 815) c (nI (nx + 24))
set_option maxRecDepth 100000 in
set_option maxHeartbeats 1000000 in
theorem m_giveOutputs {l : Launch} {G : GG} {b : Nat} (hst : l.stackTraces = false) (S : Sw) (z : Nat) (ad : Nat → Nat) (hm : lay S z ad) (c0 h nx rr : Nat) (hc : c0 < 6) (hh : aI S (ad 810) c0 = nI h) (hb : h ≤ 12800) (hnx : aI S (ad 815) c0 = nI nx) (hrr : aI S (ad 804) c0 = nI rr) (hn : nx < 2 ^ 19) (hr : rtN rr) : Ct l G b yX8_giveOutputs cX8_giveOutputs 3 none rmX8_giveOutputs mV [.ref z, .int (nI c0)] S (fun _ S' => S' = mGO S ad c0 h nx rr) := by
  refine Ct.of2 pnX8 (own := RX8) rfl (Nat.le_of_ble_eq_true rfl) hst ?_
  intro p e s m args below meth c C hname
  change J p l e rmX8_giveOutputs s m args below meth c 3 G b _ 0 [(0, .ref z), (1, .int (nI c0))] [] S 0 0
  refine r_iconst (v := 0) (n := 1) C dX8_giveOutputs_0 rfl rfl ?_
  refine r_istore_n (i := 2) (n := 2) C dX8_giveOutputs_1 rfl (by decide) rfl rfl ?_
  have hba : ad 839 ≠ ad 838 := (hm.ne2 839 838 (by decide) (by decide) (by decide))
  have loop : ∀ (q k : Nat), k + q = 24 → J p l e rmX8_giveOutputs s m args below meth c 3 G b (vx_MQ below (Qp G b mV (fun _ S' => S' = mGO S ad c0 h nx rr)) (XCp G b S (fun _ => False)) args s rmX8_giveOutputs.cells rmX8_giveOutputs.slots (Ab b)) 2 [(0, .ref z), (1, .int (nI c0)), (2, .int (nI k))] [] (T2 S (ad 838) (ad 839) (pw (outs S ad c0 h nx rr 0) (aI S (ad 838)) k) (pw (outs S ad c0 h nx rr 1) (aI S (ad 839)) k)) 0 0 := by
    intro q
    induction q with
    | zero =>
      intro k hk
      obtain rfl : k = 24 := by omega
      refine r_iload_n (i := 2) (n := 3) C dX8_giveOutputs_2 rfl rfl rfl ?_
      refine r_bipush (v := 24) (n := 5) C dX8_giveOutputs_3 rfl rfl ?_
      refine r_icmp_geT (t := 70) C (cle (a := 24) (b := 24) rfl rfl (by omega) (by omega)) dX8_giveOutputs_5 (by decide) ?_
      refine r_aload_n (i := 0) (n := 71) C dX8_giveOutputs_70 rfl rfl rfl ?_
      refine hX8_57 (n := 74) C hm dX8_giveOutputs_71 rfl ?_
      refine r_iload_n (i := 1) (n := 75) C dX8_giveOutputs_74 rfl rfl rfl ?_
      refine r_aload_n (i := 0) (n := 76) C dX8_giveOutputs_75 rfl rfl rfl ?_
      refine hX8_117 (n := 79) C hm dX8_giveOutputs_76 rfl ?_
      refine r_bipush (v := 23) (n := 81) C dX8_giveOutputs_79 rfl rfl ?_
      refine q_ialdv (n := 82) (v := outs S ad c0 h nx rr 0 23) C (23) (ly_838 hm) rfl (by omega) dX8_giveOutputs_81 rfl ((T2_ra hba 23).trans (pw_lt (by omega))) ?_
      refine q_iast (n := 83) C (c0) (ly_816 hm) rfl (by omega) dX8_giveOutputs_82 rfl ?_
      refine r_aload_n (i := 0) (n := 84) C dX8_giveOutputs_83 rfl rfl rfl ?_
      refine hX8_60 (n := 87) C hm dX8_giveOutputs_84 rfl ?_
      refine r_iload_n (i := 1) (n := 88) C dX8_giveOutputs_87 rfl rfl rfl ?_
      refine r_aload_n (i := 0) (n := 89) C dX8_giveOutputs_88 rfl rfl rfl ?_
      refine hX8_120 (n := 92) C hm dX8_giveOutputs_89 rfl ?_
      refine r_bipush (v := 23) (n := 94) C dX8_giveOutputs_92 rfl rfl ?_
      refine q_ialdv (n := 95) (v := outs S ad c0 h nx rr 1 23) C (23) (ly_839 hm) rfl (by omega) dX8_giveOutputs_94 rfl ((aI_wn (hm.ne2 839 816 (by decide) (by decide) (by decide))).trans ((T2_rb 23).trans (pw_lt (by omega)))) ?_
      refine q_iast (n := 96) C (c0) (ly_817 hm) rfl (by omega) dX8_giveOutputs_95 rfl ?_
      refine r_aload_n (i := 0) (n := 97) C dX8_giveOutputs_96 rfl rfl rfl ?_
      refine hX8_54 (n := 100) C hm dX8_giveOutputs_97 rfl ?_
      refine r_iload_n (i := 1) (n := 101) C dX8_giveOutputs_100 rfl rfl rfl ?_
      refine r_aload_n (i := 0) (n := 102) C dX8_giveOutputs_101 rfl rfl rfl ?_
      refine hX8_54 (n := 105) C hm dX8_giveOutputs_102 rfl ?_
      refine r_iload_n (i := 1) (n := 106) C dX8_giveOutputs_105 rfl rfl rfl ?_
      refine q_ialdv (n := 107) (v := nI (nx)) C (c0) (ly_815 hm) rfl (by omega) dX8_giveOutputs_106 rfl ((aI_wn (hm.ne2 815 817 (by decide) (by decide) (by decide))).trans ((aI_wn (hm.ne2 815 816 (by decide) (by decide) (by decide))).trans ((T2_n (hm.ne2 815 838 (by decide) (by decide) (by decide)) (hm.ne2 815 839 (by decide) (by decide) (by decide)) _).trans hnx))) ?_
      refine r_bipush (v := 24) (n := 109) C dX8_giveOutputs_107 rfl rfl ?_
      refine r_iadd (n := 110) C dX8_giveOutputs_109 rfl ?_
      refine q_iast (n := 111) C (c0) (ly_815 hm) rfl (by omega) dX8_giveOutputs_110 rfl ?_
      refine t_v C dX8_giveOutputs_111 (by decide) ?_
      show _ = _
      unfold mGO
      rw [← nI_add]
      rfl
    | succ q ih =>
      intro k hk
      refine r_iload_n (i := 2) (n := 3) C dX8_giveOutputs_2 rfl rfl rfl ?_
      refine r_bipush (v := 24) (n := 5) C dX8_giveOutputs_3 rfl rfl ?_
      refine r_icmp_geF (n := 8) (t := 70) C (cnle (a := 24) (b := k) rfl rfl (by omega) (by omega)) dX8_giveOutputs_5 (by decide) rfl ?_
      refine r_aload_n (i := 0) (n := 9) C dX8_giveOutputs_8 rfl rfl rfl ?_
      refine hX8_117 (n := 12) C hm dX8_giveOutputs_9 rfl ?_
      refine r_iload_n (i := 2) (n := 13) C dX8_giveOutputs_12 rfl rfl rfl ?_
      refine r_aload_n (i := 0) (n := 14) C dX8_giveOutputs_13 rfl rfl rfl ?_
      refine r_iload_n (i := 1) (n := 15) C dX8_giveOutputs_14 rfl rfl rfl ?_
      refine r_aload_n (i := 0) (n := 16) C dX8_giveOutputs_15 rfl rfl rfl ?_
      refine hX8_54 (n := 19) C hm dX8_giveOutputs_16 rfl ?_
      refine r_iload_n (i := 1) (n := 20) C dX8_giveOutputs_19 rfl rfl rfl ?_
      refine q_ialdv (n := 21) (v := nI (nx)) C (c0) (ly_815 hm) rfl (by omega) dX8_giveOutputs_20 rfl ((T2_n (hm.ne2 815 838 (by decide) (by decide) (by decide)) (hm.ne2 815 839 (by decide) (by decide) (by decide)) _).trans hnx) ?_
      refine r_iload_n (i := 2) (n := 22) C dX8_giveOutputs_21 rfl rfl rfl ?_
      refine r_iadd (n := 23) C dX8_giveOutputs_22 rfl ?_
      refine r_aload_n (i := 0) (n := 24) C dX8_giveOutputs_23 rfl rfl rfl ?_
      refine hX8_20 (n := 27) C hm dX8_giveOutputs_24 rfl ?_
      refine r_iload_n (i := 1) (n := 28) C dX8_giveOutputs_27 rfl rfl rfl ?_
      refine q_ialdv (n := 29) (v := nI (rr)) C (c0) (ly_804 hm) rfl (by omega) dX8_giveOutputs_28 rfl ((T2_n (hm.ne2 804 838 (by decide) (by decide) (by decide)) (hm.ne2 804 839 (by decide) (by decide) (by decide)) _).trans hrr) ?_
      refine r_ldc (n := 31) (v := 48000) C (mem_tb (mem_tbl 885 (by decide +kernel)) (by decide +kernel)) dX8_giveOutputs_29 rfl ?_
      refine r_iconst (v := 0) (n := 32) C dX8_giveOutputs_31 rfl rfl ?_
      rw [nI_add]
      have hhk : aI (T2 S (ad 838) (ad 839) (pw (outs S ad c0 h nx rr 0) (aI S (ad 838)) k) (pw (outs S ad c0 h nx rr 1) (aI S (ad 839)) k)) (ad 810) c0 = nI h := (T2_n (hm.ne2 810 838 (by decide) (by decide) (by decide)) (hm.ne2 810 839 (by decide) (by decide) (by decide)) _).trans hh
      refine kX8_188 (n := 35) C (m_between hst (T2 S (ad 838) (ad 839) (pw (outs S ad c0 h nx rr 0) (aI S (ad 838)) k) (pw (outs S ad c0 h nx rr 1) (aI S (ad 839)) k)) z ad hm c0 h hc hhk hb (nx + k) rr 48000 (by omega) (rtN.le hr).1 (by have := rtN.le hr; omega) (by omega) (by omega) (pl_le (by omega) (rtN.le hr).1 (by omega)) 0) hm.1 (by decide) (by decide) (Nat.le_of_ble_eq_true rfl) dX8_giveOutputs_32 rfl (fun r S1 hp => ?_)
      obtain ⟨hS, hr⟩ := hp
      subst S1
      subst r
      rw [show flt (aI (T2 S (ad 838) (ad 839) (pw (outs S ad c0 h nx rr 0) (aI S (ad 838)) k) (pw (outs S ad c0 h nx rr 1) (aI S (ad 839)) k)) (ad 801)) (gM (T2 S (ad 838) (ad 839) (pw (outs S ad c0 h nx rr 0) (aI S (ad 838)) k) (pw (outs S ad c0 h nx rr 1) (aI S (ad 839)) k)) ad c0 h 0) (nx + k) rr 48000 = outs S ad c0 h nx rr 0 k from by show _ = flt (aI S (ad 801)) (gM S ad c0 h 0) (nx + k) rr 48000; rw [gM_c (fun i => (T2_n (hm.ne2 811 838 (by decide) (by decide) (by decide)) (hm.ne2 811 839 (by decide) (by decide) (by decide)) _)) (fun i => (T2_n (hm.ne2 812 838 (by decide) (by decide) (by decide)) (hm.ne2 812 839 (by decide) (by decide) (by decide)) _)), show aI (T2 S (ad 838) (ad 839) (pw (outs S ad c0 h nx rr 0) (aI S (ad 838)) k) (pw (outs S ad c0 h nx rr 1) (aI S (ad 839)) k)) (ad 801) = aI S (ad 801) from funext (fun i => (T2_n (hm.ne2 801 838 (by decide) (by decide) (by decide)) (hm.ne2 801 839 (by decide) (by decide) (by decide)) _))]]
      refine q_iast (n := 36) C (k) (ly_838 hm) rfl (by omega) dX8_giveOutputs_35 rfl ?_
      refine r_aload_n (i := 0) (n := 37) C dX8_giveOutputs_36 rfl rfl rfl ?_
      refine hX8_120 (n := 40) C hm dX8_giveOutputs_37 rfl ?_
      refine r_iload_n (i := 2) (n := 41) C dX8_giveOutputs_40 rfl rfl rfl ?_
      refine r_aload_n (i := 0) (n := 42) C dX8_giveOutputs_41 rfl rfl rfl ?_
      refine r_iload_n (i := 1) (n := 43) C dX8_giveOutputs_42 rfl rfl rfl ?_
      refine r_aload_n (i := 0) (n := 44) C dX8_giveOutputs_43 rfl rfl rfl ?_
      refine hX8_54 (n := 47) C hm dX8_giveOutputs_44 rfl ?_
      refine r_iload_n (i := 1) (n := 48) C dX8_giveOutputs_47 rfl rfl rfl ?_
      refine q_ialdv (n := 49) (v := nI (nx)) C (c0) (ly_815 hm) rfl (by omega) dX8_giveOutputs_48 rfl ((aI_wn (hm.ne2 815 838 (by decide) (by decide) (by decide))).trans ((T2_n (hm.ne2 815 838 (by decide) (by decide) (by decide)) (hm.ne2 815 839 (by decide) (by decide) (by decide)) _).trans hnx)) ?_
      refine r_iload_n (i := 2) (n := 50) C dX8_giveOutputs_49 rfl rfl rfl ?_
      refine r_iadd (n := 51) C dX8_giveOutputs_50 rfl ?_
      refine r_aload_n (i := 0) (n := 52) C dX8_giveOutputs_51 rfl rfl rfl ?_
      refine hX8_20 (n := 55) C hm dX8_giveOutputs_52 rfl ?_
      refine r_iload_n (i := 1) (n := 56) C dX8_giveOutputs_55 rfl rfl rfl ?_
      refine q_ialdv (n := 57) (v := nI (rr)) C (c0) (ly_804 hm) rfl (by omega) dX8_giveOutputs_56 rfl ((aI_wn (hm.ne2 804 838 (by decide) (by decide) (by decide))).trans ((T2_n (hm.ne2 804 838 (by decide) (by decide) (by decide)) (hm.ne2 804 839 (by decide) (by decide) (by decide)) _).trans hrr)) ?_
      refine r_ldc (n := 59) (v := 48000) C (mem_tb (mem_tbl 885 (by decide +kernel)) (by decide +kernel)) dX8_giveOutputs_57 rfl ?_
      refine r_iconst (v := 1) (n := 60) C dX8_giveOutputs_59 rfl rfl ?_
      rw [nI_add]
      have hhk : aI (wI (T2 S (ad 838) (ad 839) (pw (outs S ad c0 h nx rr 0) (aI S (ad 838)) k) (pw (outs S ad c0 h nx rr 1) (aI S (ad 839)) k)) (ad 838) k (outs S ad c0 h nx rr 0 k)) (ad 810) c0 = nI h := (aI_wn (hm.ne2 810 838 (by decide) (by decide) (by decide))).trans ((T2_n (hm.ne2 810 838 (by decide) (by decide) (by decide)) (hm.ne2 810 839 (by decide) (by decide) (by decide)) _).trans hh)
      refine kX8_188 (n := 63) C (m_between hst (wI (T2 S (ad 838) (ad 839) (pw (outs S ad c0 h nx rr 0) (aI S (ad 838)) k) (pw (outs S ad c0 h nx rr 1) (aI S (ad 839)) k)) (ad 838) k (outs S ad c0 h nx rr 0 k)) z ad hm c0 h hc hhk hb (nx + k) rr 48000 (by omega) (rtN.le hr).1 (by have := rtN.le hr; omega) (by omega) (by omega) (pl_le (by omega) (rtN.le hr).1 (by omega)) 1) hm.1 (by decide) (by decide) (Nat.le_of_ble_eq_true rfl) dX8_giveOutputs_60 rfl (fun r S1 hp => ?_)
      obtain ⟨hS, hr⟩ := hp
      subst S1
      subst r
      rw [show flt (aI (wI (T2 S (ad 838) (ad 839) (pw (outs S ad c0 h nx rr 0) (aI S (ad 838)) k) (pw (outs S ad c0 h nx rr 1) (aI S (ad 839)) k)) (ad 838) k (outs S ad c0 h nx rr 0 k)) (ad 801)) (gM (wI (T2 S (ad 838) (ad 839) (pw (outs S ad c0 h nx rr 0) (aI S (ad 838)) k) (pw (outs S ad c0 h nx rr 1) (aI S (ad 839)) k)) (ad 838) k (outs S ad c0 h nx rr 0 k)) ad c0 h 1) (nx + k) rr 48000 = outs S ad c0 h nx rr 1 k from by show _ = flt (aI S (ad 801)) (gM S ad c0 h 1) (nx + k) rr 48000; rw [gM_c (fun i => (aI_wn (hm.ne2 811 838 (by decide) (by decide) (by decide))).trans (T2_n (hm.ne2 811 838 (by decide) (by decide) (by decide)) (hm.ne2 811 839 (by decide) (by decide) (by decide)) _)) (fun i => (aI_wn (hm.ne2 812 838 (by decide) (by decide) (by decide))).trans (T2_n (hm.ne2 812 838 (by decide) (by decide) (by decide)) (hm.ne2 812 839 (by decide) (by decide) (by decide)) _)), show aI (wI (T2 S (ad 838) (ad 839) (pw (outs S ad c0 h nx rr 0) (aI S (ad 838)) k) (pw (outs S ad c0 h nx rr 1) (aI S (ad 839)) k)) (ad 838) k (outs S ad c0 h nx rr 0 k)) (ad 801) = aI S (ad 801) from funext (fun i => (aI_wn (hm.ne2 801 838 (by decide) (by decide) (by decide))).trans (T2_n (hm.ne2 801 838 (by decide) (by decide) (by decide)) (hm.ne2 801 839 (by decide) (by decide) (by decide)) _))]]
      refine q_iast (n := 64) C (k) (ly_839 hm) rfl (by omega) dX8_giveOutputs_63 rfl ?_
      refine r_iinc (n := 67) C dX8_giveOutputs_64 rfl rfl (by decide) rfl rfl ?_
      refine r_goto (t := 2) C dX8_giveOutputs_67 (by decide) ?_
      rw [T2_a hba, T2_b, pw_s, pw_s]
      exact J.to (by rw [show nI k + Int32.ofInt 1 = nI (k + 1) from nI_1 k]; rfl) (ih (k + 1) (by omega))
  have e0 := loop 24 0 (by omega)
  rw [pw_0, pw_0, T2_self hba] at e0
  exact J.to rfl e0
def fpt (j : Nat) : Int32 := if j < 15 then nI (15 - j) else 0
def fdr (v : Int32) : Nat → Int32 := fun j => mDnI (v * fpt j) 16
def mFd (S : Sw) (ad : Nat → Nat) (c : Nat) : Sw := wI (wI (wI (T2 S (ad 838) (ad 839) (pw (fdr (aI S (ad 816) c)) (aI S (ad 838)) 24) (pw (fdr (aI S (ad 817) c)) (aI S (ad 839)) 24)) (ad 816) c 0) (ad 817) c 0) (ad 809) c (aI S (ad 809) c + 1)
set_option maxRecDepth 100000 in
set_option maxHeartbeats 1000000 in
theorem m_fade {l : Launch} {G : GG} {b : Nat} (hst : l.stackTraces = false) (S : Sw) (z : Nat) (ad : Nat → Nat) (hm : lay S z ad) (c0 : Nat) (hc : c0 < 6) : Ct l G b yX8_fade cX8_fade 4 none rmX8_fade mV [.ref z, .int (nI c0)] S (fun _ S' => S' = mFd S ad c0) := by
  refine Ct.of2 pnX8 (own := RX8) rfl (Nat.le_of_ble_eq_true rfl) hst ?_
  intro p e s m args below meth c C hname
  change J p l e rmX8_fade s m args below meth c 4 G b _ 0 [(0, .ref z), (1, .int (nI c0))] [] S 0 0
  refine r_iconst (v := 0) (n := 1) C dX8_fade_0 rfl rfl ?_
  refine r_istore_n (i := 2) (n := 2) C dX8_fade_1 rfl (by decide) rfl rfl ?_
  have hba : ad 839 ≠ ad 838 := (hm.ne2 839 838 (by decide) (by decide) (by decide))
  have loop : ∀ (q k : Nat), k + q = 24 → J p l e rmX8_fade s m args below meth c 4 G b (vx_MQ below (Qp G b mV (fun _ S' => S' = mFd S ad c0)) (XCp G b S (fun _ => False)) args s rmX8_fade.cells rmX8_fade.slots (Ab b)) 2 [(0, .ref z), (1, .int (nI c0)), (2, .int (nI k))] [] (T2 S (ad 838) (ad 839) (pw (fdr (aI S (ad 816) c0)) (aI S (ad 838)) k) (pw (fdr (aI S (ad 817) c0)) (aI S (ad 839)) k)) 0 0 := by
    intro q
    induction q with
    | zero =>
      intro k hk
      obtain rfl : k = 24 := by omega
      refine r_iload_n (i := 2) (n := 3) C dX8_fade_2 rfl rfl rfl ?_
      refine r_bipush (v := 24) (n := 5) C dX8_fade_3 rfl rfl ?_
      refine r_icmp_geT (t := 67) C (cle (a := 24) (b := 24) rfl rfl (by omega) (by omega)) dX8_fade_5 (by decide) ?_
      refine r_aload_n (i := 0) (n := 68) C dX8_fade_67 rfl rfl rfl ?_
      refine hX8_57 (n := 71) C hm dX8_fade_68 rfl ?_
      refine r_iload_n (i := 1) (n := 72) C dX8_fade_71 rfl rfl rfl ?_
      refine r_iconst (v := 0) (n := 73) C dX8_fade_72 rfl rfl ?_
      refine q_iast (n := 74) C (c0) (ly_816 hm) rfl (by omega) dX8_fade_73 rfl ?_
      refine r_aload_n (i := 0) (n := 75) C dX8_fade_74 rfl rfl rfl ?_
      refine hX8_60 (n := 78) C hm dX8_fade_75 rfl ?_
      refine r_iload_n (i := 1) (n := 79) C dX8_fade_78 rfl rfl rfl ?_
      refine r_iconst (v := 0) (n := 80) C dX8_fade_79 rfl rfl ?_
      refine q_iast (n := 81) C (c0) (ly_817 hm) rfl (by omega) dX8_fade_80 rfl ?_
      refine r_aload_n (i := 0) (n := 82) C dX8_fade_81 rfl rfl rfl ?_
      refine hX8_35 (n := 85) C hm dX8_fade_82 rfl ?_
      refine r_iload_n (i := 1) (n := 86) C dX8_fade_85 rfl rfl rfl ?_
      refine r_dup2_11 (n := 87) C dX8_fade_86 rfl rfl rfl ?_
      refine q_ialdv (n := 88) (v := aI S (ad 809) c0) C (c0) (ly_809 hm) rfl (by omega) dX8_fade_87 rfl ((aI_wn (hm.ne2 809 817 (by decide) (by decide) (by decide))).trans ((aI_wn (hm.ne2 809 816 (by decide) (by decide) (by decide))).trans (T2_n (hm.ne2 809 838 (by decide) (by decide) (by decide)) (hm.ne2 809 839 (by decide) (by decide) (by decide)) _))) ?_
      refine r_iconst (v := 1) (n := 89) C dX8_fade_88 rfl rfl ?_
      refine r_iadd (n := 90) C dX8_fade_89 rfl ?_
      refine q_iast (n := 91) C (c0) (ly_809 hm) rfl (by omega) dX8_fade_90 rfl ?_
      refine t_v C dX8_fade_91 (by decide) ?_
      rfl
    | succ q ih =>
      intro k hk
      refine r_iload_n (i := 2) (n := 3) C dX8_fade_2 rfl rfl rfl ?_
      refine r_bipush (v := 24) (n := 5) C dX8_fade_3 rfl rfl ?_
      refine r_icmp_geF (n := 8) (t := 67) C (cnle (a := 24) (b := k) rfl rfl (by omega) (by omega)) dX8_fade_5 (by decide) rfl ?_
      have hpt : J p l e rmX8_fade s m args below meth c 4 G b (vx_MQ below (Qp G b mV (fun _ S' => S' = mFd S ad c0)) (XCp G b S (fun _ => False)) args s rmX8_fade.cells rmX8_fade.slots (Ab b)) 22 [(0, .ref z), (1, .int (nI c0)), (2, .int (nI k))] [.int (fpt k)] (T2 S (ad 838) (ad 839) (pw (fdr (aI S (ad 816) c0)) (aI S (ad 838)) k) (pw (fdr (aI S (ad 817) c0)) (aI S (ad 839)) k)) 0 0 := by
        refine r_istore_n (i := 3) (n := 23) C dX8_fade_22 rfl (by decide) rfl rfl ?_
        refine r_aload_n (i := 0) (n := 24) C dX8_fade_23 rfl rfl rfl ?_
        refine hX8_117 (n := 27) C hm dX8_fade_24 rfl ?_
        refine r_iload_n (i := 2) (n := 28) C dX8_fade_27 rfl rfl rfl ?_
        refine r_aload_n (i := 0) (n := 29) C dX8_fade_28 rfl rfl rfl ?_
        refine hX8_57 (n := 32) C hm dX8_fade_29 rfl ?_
        refine r_iload_n (i := 1) (n := 33) C dX8_fade_32 rfl rfl rfl ?_
        refine q_ialdv (n := 34) (v := aI S (ad 816) c0) C (c0) (ly_816 hm) rfl (by omega) dX8_fade_33 rfl (T2_n (hm.ne2 816 838 (by decide) (by decide) (by decide)) (hm.ne2 816 839 (by decide) (by decide) (by decide)) _) ?_
        refine r_iload_n (i := 3) (n := 35) C dX8_fade_34 rfl rfl rfl ?_
        refine r_imul (n := 36) C dX8_fade_35 rfl ?_
        refine r_bipush (v := 16) (n := 38) C dX8_fade_36 rfl rfl ?_
        refine kX8_185 (n := 41) C (m_downBy hst (T2 S (ad 838) (ad 839) (pw (fdr (aI S (ad 816) c0)) (aI S (ad 838)) k) (pw (fdr (aI S (ad 817) c0)) (aI S (ad 839)) k)) (aI S (ad 816) c0 * fpt k) 16 (by decide)) (by decide) (by decide) (Nat.le_of_ble_eq_true rfl) dX8_fade_38 rfl (fun r S1 hp => ?_)
        obtain ⟨hS, hr⟩ := hp
        subst S1
        subst r
        rw [show mDnI (aI S (ad 816) c0 * fpt k) 16 = fdr (aI S (ad 816) c0) k from rfl]
        refine q_iast (n := 42) C (k) (ly_838 hm) rfl (by omega) dX8_fade_41 rfl ?_
        refine r_aload_n (i := 0) (n := 43) C dX8_fade_42 rfl rfl rfl ?_
        refine hX8_120 (n := 46) C hm dX8_fade_43 rfl ?_
        refine r_iload_n (i := 2) (n := 47) C dX8_fade_46 rfl rfl rfl ?_
        refine r_aload_n (i := 0) (n := 48) C dX8_fade_47 rfl rfl rfl ?_
        refine hX8_60 (n := 51) C hm dX8_fade_48 rfl ?_
        refine r_iload_n (i := 1) (n := 52) C dX8_fade_51 rfl rfl rfl ?_
        refine q_ialdv (n := 53) (v := aI S (ad 817) c0) C (c0) (ly_817 hm) rfl (by omega) dX8_fade_52 rfl ((aI_wn (hm.ne2 817 838 (by decide) (by decide) (by decide))).trans (T2_n (hm.ne2 817 838 (by decide) (by decide) (by decide)) (hm.ne2 817 839 (by decide) (by decide) (by decide)) _)) ?_
        refine r_iload_n (i := 3) (n := 54) C dX8_fade_53 rfl rfl rfl ?_
        refine r_imul (n := 55) C dX8_fade_54 rfl ?_
        refine r_bipush (v := 16) (n := 57) C dX8_fade_55 rfl rfl ?_
        refine kX8_185 (n := 60) C (m_downBy hst (wI (T2 S (ad 838) (ad 839) (pw (fdr (aI S (ad 816) c0)) (aI S (ad 838)) k) (pw (fdr (aI S (ad 817) c0)) (aI S (ad 839)) k)) (ad 838) k (fdr (aI S (ad 816) c0) k)) (aI S (ad 817) c0 * fpt k) 16 (by decide)) (by decide) (by decide) (Nat.le_of_ble_eq_true rfl) dX8_fade_57 rfl (fun r S1 hp => ?_)
        obtain ⟨hS, hr⟩ := hp
        subst S1
        subst r
        rw [show mDnI (aI S (ad 817) c0 * fpt k) 16 = fdr (aI S (ad 817) c0) k from rfl]
        refine q_iast (n := 61) C (k) (ly_839 hm) rfl (by omega) dX8_fade_60 rfl ?_
        refine r_iinc (n := 64) C dX8_fade_61 rfl rfl (by decide) rfl rfl ?_
        refine r_goto (t := 2) C dX8_fade_64 (by decide) ?_
        rw [T2_a hba, T2_b, pw_s, pw_s]
        exact J.to (by rw [show nI k + Int32.ofInt 1 = nI (k + 1) from nI_1 k]; rfl) (ih (k + 1) (by omega))
      refine r_iload_n (i := 2) (n := 9) C dX8_fade_8 rfl rfl rfl ?_
      refine r_bipush (v := 15) (n := 11) C dX8_fade_9 rfl rfl ?_
      refine r_icmp_ge (n := 14) (t := 21) C dX8_fade_11 (by decide) rfl (fun h11 => ?_) (fun h11 => ?_)
      · refine r_iconst (v := 0) (n := 22) C dX8_fade_21 rfl rfl ?_
        first | (rw [show fpt k = 0 from if_neg (Nat.not_lt.mpr ((nI_leI (a := 15) (by omega) (by omega)).mp h11))] at hpt; exact J.to rfl hpt) | (have h12 : k < 15 := Nat.lt_of_not_le (fun q => h11 ((nI_leI (a := 15) (by omega) (by omega)).mpr q)); rw [show fpt k = nI (15 - k) from if_pos h12, ← show (15 : Int32) - nI k = nI (15 - k) from sub_nI (a := 15) rfl rfl (by omega)] at hpt; exact J.to rfl hpt)
      · refine r_bipush (v := 15) (n := 16) C dX8_fade_14 rfl rfl ?_
        refine r_iload_n (i := 2) (n := 17) C dX8_fade_16 rfl rfl rfl ?_
        refine r_isub (n := 18) C dX8_fade_17 rfl ?_
        refine r_goto (t := 22) C dX8_fade_18 (by decide) ?_
        first | (rw [show fpt k = 0 from if_neg (Nat.not_lt.mpr ((nI_leI (a := 15) (by omega) (by omega)).mp h11))] at hpt; exact J.to rfl hpt) | (have h12 : k < 15 := Nat.lt_of_not_le (fun q => h11 ((nI_leI (a := 15) (by omega) (by omega)).mpr q)); rw [show fpt k = nI (15 - k) from if_pos h12, ← show (15 : Int32) - nI k = nI (15 - k) from sub_nI (a := 15) rfl rfl (by omega)] at hpt; exact J.to rfl hpt)
  have e0 := loop 24 0 (by omega)
  rw [pw_0, pw_0, T2_self hba] at e0
  exact J.to rfl e0
