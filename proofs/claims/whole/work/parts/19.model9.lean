theorem wI_wI (S : Sw) (a j : Nat) (v w : Int32) : wI (wI S a j v) a j w = wI S a j w := by
  refine Prod.ext rfl (Prod.ext rfl (Prod.ext rfl (Prod.ext rfl (Prod.ext rfl (Prod.ext (funext fun x => funext fun i => ?_) rfl)))))
  show (if x = a ∧ i = j then w else if x = a ∧ i = j then v else aI S x i) = if x = a ∧ i = j then w else aI S x i
  by_cases h : x = a ∧ i = j <;> simp [h]
theorem wI_T2 {S : Sw} {a b x : Nat} {r1 r2 : Nat → Int32} (h1 : a ≠ x) (h2 : b ≠ x) (j : Nat) (v : Int32) : wI (T2 S a b r1 r2) x j v = T2 (wI S x j v) a b r1 r2 := by
  unfold T2; rw [wI_wIs2 _ _ _ _ h2, wI_wIs2 _ _ _ _ h1]
def sqs (g1 g2 : Nat → Int32) : Nat → Int64
  | 0 => 0
  | k + 1 => sqs g1 g2 k + (g1 k).toInt64 * (g1 k).toInt64 + (g2 k).toInt64 * (g2 k).toInt64
def mxr (s g : Nat → Int32) (gn : Int32) : Nat → Int32 := fun j => s j + mDnI (g j * gn) 256
def mMix (S : Sw) (ad : Nat → Nat) (c : Nat) : Sw := wD (T2 S (ad 836) (ad 837) (pw (mxr (aI S (ad 836)) (aI S (ad 838)) (aI S (ad 807) c)) (aI S (ad 836)) 24) (pw (mxr (aI S (ad 837)) (aI S (ad 839)) (aI S (ad 807) c)) (aI S (ad 837)) 24)) (ad 819) c (FP.ddiv (FP.l2d (sqs (aI S (ad 838)) (aI S (ad 839)) 24)) 4631952216750555136)
def blk (o : Nat → Int32) (b : Nat) (f : Nat → Int32) (k : Nat) : Nat → Int32 := fun i => if b ≤ i ∧ i < b + k then f (i - b) else o i
theorem blk_0 (o f : Nat → Int32) (b : Nat) : blk o b f 0 = o := funext fun i => if_neg (by omega)
theorem blk_s (o f : Nat → Int32) (b k : Nat) : sr (blk o b f k) (b + k) (f k) = blk o b f (k + 1) := funext fun i => by
  unfold sr blk
  by_cases h : i = b + k
  · subst h; rw [if_pos rfl, if_pos (by omega), Nat.add_sub_cancel_left]
  · rw [if_neg h]
    by_cases h2 : b ≤ i ∧ i < b + k
    · rw [if_pos h2, if_pos (by omega)]
    · rw [if_neg h2, if_neg (by omega)]
def sh24 (o : Nat → Int32) (i : Nat) : Nat → Int32 := fun x => if i < x ∧ x ≤ 95 then o (x - 24) else o x
theorem sh24_0 (o : Nat → Int32) : sh24 o 95 = o := funext fun x => if_neg (by omega)
theorem sh24_s (o : Nat → Int32) {i : Nat} (h : 24 ≤ i) (h2 : i ≤ 95) : sr (sh24 o i) i (o (i - 24)) = sh24 o (i - 1) := funext fun x => by
  unfold sr sh24
  by_cases e : x = i
  · subst e; rw [if_pos rfl, if_pos (by omega)]
  · rw [if_neg e]
    by_cases h3 : i < x ∧ x ≤ 95
    · rw [if_pos h3, if_pos (by omega)]
    · rw [if_neg h3, if_neg (by omega)]
theorem sh24_r (o : Nat → Int32) {i : Nat} : sh24 o i (i - 24) = o (i - 24) := if_neg (by omega)
theorem dec_nI {k : Nat} (h : 0 < k) : nI k + Int32.ofInt (-1) = nI (k - 1) := sb_m1 h
set_option maxRecDepth 100000 in
set_option maxHeartbeats 1000000 in
theorem m_mix {l : Launch} {G : GG} {b : Nat} (hst : l.stackTraces = false) (S : Sw) (z : Nat) (ad : Nat → Nat) (hm : lay S z ad) (c0 : Nat) (hc : c0 < 6) : Ct l G b yX8_mix cX8_mix 5 none rmX8_mix mV [.ref z, .int (nI c0)] S (fun _ S' => S' = mMix S ad c0) := by
  refine Ct.of2 pnX8 (own := RX8) rfl (Nat.le_of_ble_eq_true rfl) hst ?_
  intro p e s m args below meth c C hname
  change J p l e rmX8_mix s m args below meth c 5 G b _ 0 [(0, .ref z), (1, .int (nI c0))] [] S 0 0
  refine r_lconst (v := 0) (n := 1) C dX8_mix_0 rfl rfl ?_
  refine r_lstore_n (i := 2) (n := 2) C dX8_mix_1 rfl (by decide) rfl rfl ?_
  refine r_iconst (v := 0) (n := 3) C dX8_mix_2 rfl rfl ?_
  refine r_istore (n := 5) C dX8_mix_3 (by decide) rfl rfl ?_
  have hba : ad 837 ≠ ad 836 := (hm.ne2 837 836 (by decide) (by decide) (by decide))
  have lp : ∀ (q k : Nat), k + q = 24 → J p l e rmX8_mix s m args below meth c 5 G b (vx_MQ below (Qp G b mV (fun _ S' => S' = mMix S ad c0)) (XCp G b S (fun _ => False)) args s rmX8_mix.cells rmX8_mix.slots (Ab b)) 5 [(0, .ref z), (1, .int (nI c0)), (2, .long (sqs (aI S (ad 838)) (aI S (ad 839)) k)), (4, .int (nI k))] [] (T2 S (ad 836) (ad 837) (pw (mxr (aI S (ad 836)) (aI S (ad 838)) (aI S (ad 807) c0)) (aI S (ad 836)) k) (pw (mxr (aI S (ad 837)) (aI S (ad 839)) (aI S (ad 807) c0)) (aI S (ad 837)) k)) 0 0 := by
    intro q
    induction q with
    | zero =>
      intro k hk
      obtain rfl : k = 24 := by omega
      refine r_iload (n := 7) C dX8_mix_5 rfl rfl ?_
      refine r_bipush (v := 24) (n := 9) C dX8_mix_7 rfl rfl ?_
      refine r_icmp_geT (t := 126) C (cle (a := 24) (b := 24) rfl rfl (by omega) (by omega)) dX8_mix_9 (by decide) ?_
      refine r_aload_n (i := 0) (n := 127) C dX8_mix_126 rfl rfl rfl ?_
      refine hX8_66 (n := 130) C hm dX8_mix_127 rfl ?_
      refine r_iload_n (i := 1) (n := 131) C dX8_mix_130 rfl rfl rfl ?_
      refine r_lload_n (i := 2) (n := 132) C dX8_mix_131 rfl rfl rfl ?_
      refine r_l2d (n := 133) C dX8_mix_132 rfl ?_
      refine r_ldc2d (n := 136) (v := 4631952216750555136) C (mem_tb (mem_tbl 1012 (by decide +kernel)) (by decide +kernel)) dX8_mix_133 rfl ?_
      refine r_ddiv (n := 137) C dX8_mix_136 (fp_div48 _) rfl ?_
      refine q_dast (n := 138) C (c0) (ly_819 hm) rfl (by omega) dX8_mix_137 rfl ?_
      refine t_v C dX8_mix_138 (by decide) ?_
      rfl
    | succ q ih =>
      intro k hk
      refine r_iload (n := 7) C dX8_mix_5 rfl rfl ?_
      refine r_bipush (v := 24) (n := 9) C dX8_mix_7 rfl rfl ?_
      refine r_icmp_geF (n := 12) (t := 126) C (cnle (a := 24) (b := k) rfl rfl (by omega) (by omega)) dX8_mix_9 (by decide) rfl ?_
      refine r_lload_n (i := 2) (n := 13) C dX8_mix_12 rfl rfl rfl ?_
      refine r_aload_n (i := 0) (n := 14) C dX8_mix_13 rfl rfl rfl ?_
      refine hX8_117 (n := 17) C hm dX8_mix_14 rfl ?_
      refine r_iload (n := 19) C dX8_mix_17 rfl rfl ?_
      refine q_ialdv (n := 20) (v := aI S (ad 838) k) C (k) (ly_838 hm) rfl (by omega) dX8_mix_19 rfl (T2_n (hm.ne2 838 836 (by decide) (by decide) (by decide)) (hm.ne2 838 837 (by decide) (by decide) (by decide)) _) ?_
      refine r_i2l (n := 21) C dX8_mix_20 rfl ?_
      refine r_aload_n (i := 0) (n := 22) C dX8_mix_21 rfl rfl rfl ?_
      refine hX8_117 (n := 25) C hm dX8_mix_22 rfl ?_
      refine r_iload (n := 27) C dX8_mix_25 rfl rfl ?_
      refine q_ialdv (n := 28) (v := aI S (ad 838) k) C (k) (ly_838 hm) rfl (by omega) dX8_mix_27 rfl (T2_n (hm.ne2 838 836 (by decide) (by decide) (by decide)) (hm.ne2 838 837 (by decide) (by decide) (by decide)) _) ?_
      refine r_i2l (n := 29) C dX8_mix_28 rfl ?_
      refine r_lmul (n := 30) C dX8_mix_29 rfl ?_
      refine r_ladd (n := 31) C dX8_mix_30 rfl ?_
      refine r_aload_n (i := 0) (n := 32) C dX8_mix_31 rfl rfl rfl ?_
      refine hX8_120 (n := 35) C hm dX8_mix_32 rfl ?_
      refine r_iload (n := 37) C dX8_mix_35 rfl rfl ?_
      refine q_ialdv (n := 38) (v := aI S (ad 839) k) C (k) (ly_839 hm) rfl (by omega) dX8_mix_37 rfl (T2_n (hm.ne2 839 836 (by decide) (by decide) (by decide)) (hm.ne2 839 837 (by decide) (by decide) (by decide)) _) ?_
      refine r_i2l (n := 39) C dX8_mix_38 rfl ?_
      refine r_aload_n (i := 0) (n := 40) C dX8_mix_39 rfl rfl rfl ?_
      refine hX8_120 (n := 43) C hm dX8_mix_40 rfl ?_
      refine r_iload (n := 45) C dX8_mix_43 rfl rfl ?_
      refine q_ialdv (n := 46) (v := aI S (ad 839) k) C (k) (ly_839 hm) rfl (by omega) dX8_mix_45 rfl (T2_n (hm.ne2 839 836 (by decide) (by decide) (by decide)) (hm.ne2 839 837 (by decide) (by decide) (by decide)) _) ?_
      refine r_i2l (n := 47) C dX8_mix_46 rfl ?_
      refine r_lmul (n := 48) C dX8_mix_47 rfl ?_
      refine r_ladd (n := 49) C dX8_mix_48 rfl ?_
      refine r_lstore_n (i := 2) (n := 50) C dX8_mix_49 rfl (by decide) rfl rfl ?_
      refine r_aload_n (i := 0) (n := 51) C dX8_mix_50 rfl rfl rfl ?_
      refine hX8_111 (n := 54) C hm dX8_mix_51 rfl ?_
      refine r_iload (n := 56) C dX8_mix_54 rfl rfl ?_
      refine r_aload_n (i := 0) (n := 57) C dX8_mix_56 rfl rfl rfl ?_
      refine hX8_111 (n := 60) C hm dX8_mix_57 rfl ?_
      refine r_iload (n := 62) C dX8_mix_60 rfl rfl ?_
      refine q_ialdv (n := 63) (v := aI S (ad 836) k) C (k) (ly_836 hm) rfl (by omega) dX8_mix_62 rfl ((T2_ra hba k).trans (pw_ge (Nat.le_refl k))) ?_
      refine r_aload_n (i := 0) (n := 64) C dX8_mix_63 rfl rfl rfl ?_
      refine hX8_117 (n := 67) C hm dX8_mix_64 rfl ?_
      refine r_iload (n := 69) C dX8_mix_67 rfl rfl ?_
      refine q_ialdv (n := 70) (v := aI S (ad 838) k) C (k) (ly_838 hm) rfl (by omega) dX8_mix_69 rfl (T2_n (hm.ne2 838 836 (by decide) (by decide) (by decide)) (hm.ne2 838 837 (by decide) (by decide) (by decide)) _) ?_
      refine r_aload_n (i := 0) (n := 71) C dX8_mix_70 rfl rfl rfl ?_
      refine hX8_29 (n := 74) C hm dX8_mix_71 rfl ?_
      refine r_iload_n (i := 1) (n := 75) C dX8_mix_74 rfl rfl rfl ?_
      refine q_ialdv (n := 76) (v := aI S (ad 807) c0) C (c0) (ly_807 hm) rfl (by omega) dX8_mix_75 rfl (T2_n (hm.ne2 807 836 (by decide) (by decide) (by decide)) (hm.ne2 807 837 (by decide) (by decide) (by decide)) _) ?_
      refine r_imul (n := 77) C dX8_mix_76 rfl ?_
      refine r_sipush (v := 256) (n := 80) C dX8_mix_77 rfl rfl ?_
      refine kX8_185 (n := 83) C (m_downBy hst (T2 S (ad 836) (ad 837) (pw (mxr (aI S (ad 836)) (aI S (ad 838)) (aI S (ad 807) c0)) (aI S (ad 836)) k) (pw (mxr (aI S (ad 837)) (aI S (ad 839)) (aI S (ad 807) c0)) (aI S (ad 837)) k)) (aI S (ad 838) k * aI S (ad 807) c0) 256 (by decide)) (by decide) (by decide) (Nat.le_of_ble_eq_true rfl) dX8_mix_80 rfl (fun r S1 hp => ?_)
      obtain ⟨hS, hr⟩ := hp
      subst S1
      subst r
      refine r_iadd (n := 84) C dX8_mix_83 rfl ?_
      rw [show aI S (ad 836) k + mDnI (aI S (ad 838) k * aI S (ad 807) c0) 256 = (mxr (aI S (ad 836)) (aI S (ad 838)) (aI S (ad 807) c0)) k from rfl]
      refine q_iast (n := 85) C (k) (ly_836 hm) rfl (by omega) dX8_mix_84 rfl ?_
      refine r_aload_n (i := 0) (n := 86) C dX8_mix_85 rfl rfl rfl ?_
      refine hX8_114 (n := 89) C hm dX8_mix_86 rfl ?_
      refine r_iload (n := 91) C dX8_mix_89 rfl rfl ?_
      refine r_aload_n (i := 0) (n := 92) C dX8_mix_91 rfl rfl rfl ?_
      refine hX8_114 (n := 95) C hm dX8_mix_92 rfl ?_
      refine r_iload (n := 97) C dX8_mix_95 rfl rfl ?_
      refine q_ialdv (n := 98) (v := aI S (ad 837) k) C (k) (ly_837 hm) rfl (by omega) dX8_mix_97 rfl ((aI_wn (hm.ne2 837 836 (by decide) (by decide) (by decide))).trans ((T2_rb k).trans (pw_ge (Nat.le_refl k)))) ?_
      refine r_aload_n (i := 0) (n := 99) C dX8_mix_98 rfl rfl rfl ?_
      refine hX8_120 (n := 102) C hm dX8_mix_99 rfl ?_
      refine r_iload (n := 104) C dX8_mix_102 rfl rfl ?_
      refine q_ialdv (n := 105) (v := aI S (ad 839) k) C (k) (ly_839 hm) rfl (by omega) dX8_mix_104 rfl ((aI_wn (hm.ne2 839 836 (by decide) (by decide) (by decide))).trans (T2_n (hm.ne2 839 836 (by decide) (by decide) (by decide)) (hm.ne2 839 837 (by decide) (by decide) (by decide)) _)) ?_
      refine r_aload_n (i := 0) (n := 106) C dX8_mix_105 rfl rfl rfl ?_
      refine hX8_29 (n := 109) C hm dX8_mix_106 rfl ?_
      refine r_iload_n (i := 1) (n := 110) C dX8_mix_109 rfl rfl rfl ?_
      refine q_ialdv (n := 111) (v := aI S (ad 807) c0) C (c0) (ly_807 hm) rfl (by omega) dX8_mix_110 rfl ((aI_wn (hm.ne2 807 836 (by decide) (by decide) (by decide))).trans (T2_n (hm.ne2 807 836 (by decide) (by decide) (by decide)) (hm.ne2 807 837 (by decide) (by decide) (by decide)) _)) ?_
      refine r_imul (n := 112) C dX8_mix_111 rfl ?_
      refine r_sipush (v := 256) (n := 115) C dX8_mix_112 rfl rfl ?_
      refine kX8_185 (n := 118) C (m_downBy hst (wI (T2 S (ad 836) (ad 837) (pw (mxr (aI S (ad 836)) (aI S (ad 838)) (aI S (ad 807) c0)) (aI S (ad 836)) k) (pw (mxr (aI S (ad 837)) (aI S (ad 839)) (aI S (ad 807) c0)) (aI S (ad 837)) k)) (ad 836) k ((mxr (aI S (ad 836)) (aI S (ad 838)) (aI S (ad 807) c0)) k)) (aI S (ad 839) k * aI S (ad 807) c0) 256 (by decide)) (by decide) (by decide) (Nat.le_of_ble_eq_true rfl) dX8_mix_115 rfl (fun r S1 hp => ?_)
      obtain ⟨hS, hr⟩ := hp
      subst S1
      subst r
      refine r_iadd (n := 119) C dX8_mix_118 rfl ?_
      rw [show aI S (ad 837) k + mDnI (aI S (ad 839) k * aI S (ad 807) c0) 256 = (mxr (aI S (ad 837)) (aI S (ad 839)) (aI S (ad 807) c0)) k from rfl]
      refine q_iast (n := 120) C (k) (ly_837 hm) rfl (by omega) dX8_mix_119 rfl ?_
      refine r_iinc (n := 123) C dX8_mix_120 rfl rfl (by decide) rfl rfl ?_
      refine r_goto (t := 5) C dX8_mix_123 (by decide) ?_
      rw [T2_a hba, T2_b, pw_s, pw_s]
      exact J.to (by rw [show nI k + Int32.ofInt 1 = nI (k + 1) from nI_1 k]; rfl) (ih (k + 1) (by omega))
  have e0 := lp 24 0 (by omega)
  rw [pw_0, pw_0, T2_self hba] at e0
  exact J.to rfl e0
def mShR (S : Sw) (z : Nat) (ad : Nat → Nat) : Sw := wIs (T2 (uI S 824 z (fI S 824 z - 1)) (ad 825) (ad 826) (pw (fun k => aI S (ad 825) (k + 24)) (aI S (ad 825)) 72) (pw (fun k => aI S (ad 826) (k + 24)) (aI S (ad 826)) 72)) (ad 827) (pw (fun k => aI S (ad 827) (k + 6)) (aI S (ad 827)) 18)
set_option maxRecDepth 100000 in
set_option maxHeartbeats 1000000 in
theorem m_shiftReady {l : Launch} {G : GG} {b : Nat} (hst : l.stackTraces = false) (S : Sw) (z : Nat) (ad : Nat → Nat) (hm : lay S z ad) : Ct l G b yX8_shiftReady cX8_shiftReady 2 none rmX8_shiftReady mV [.ref z] S (fun _ S' => S' = mShR S z ad) := by
  refine Ct.of2 pnX8 (own := RX8) rfl (Nat.le_of_ble_eq_true rfl) hst ?_
  intro p e s m args below meth c C hname
  change J p l e rmX8_shiftReady s m args below meth c 2 G b _ 0 [(0, .ref z)] [] S 0 0
  refine r_aload_n (i := 0) (n := 1) C dX8_shiftReady_0 rfl rfl rfl ?_
  refine r_dup (n := 2) C dX8_shiftReady_1 rfl rfl ?_
  refine gX8_229 (n := 5) C hm.1 dX8_shiftReady_2 rfl ?_
  refine r_iconst (v := 1) (n := 6) C dX8_shiftReady_5 rfl rfl ?_
  refine r_isub (n := 7) C dX8_shiftReady_6 rfl ?_
  refine sX8_229 (n := 10) C hm.1 dX8_shiftReady_7 rfl ?_
  refine r_iconst (v := 0) (n := 11) C dX8_shiftReady_10 rfl rfl ?_
  refine r_istore_n (i := 1) (n := 12) C dX8_shiftReady_11 rfl (by decide) rfl rfl ?_
  have hba : ad 826 ≠ ad 825 := (hm.ne2 826 825 (by decide) (by decide) (by decide))
  have lp2 : ∀ (q k : Nat), k + q = 18 → J p l e rmX8_shiftReady s m args below meth c 2 G b (vx_MQ below (Qp G b mV (fun _ S' => S' = mShR S z ad)) (XCp G b S (fun _ => False)) args s rmX8_shiftReady.cells rmX8_shiftReady.slots (Ab b)) 56 [(0, .ref z), (1, .int (nI k))] [] (wIs (T2 (uI S 824 z (fI S 824 z - 1)) (ad 825) (ad 826) (pw (fun k => aI S (ad 825) (k + 24)) (aI S (ad 825)) 72) (pw (fun k => aI S (ad 826) (k + 24)) (aI S (ad 826)) 72)) (ad 827) (pw (fun k => aI S (ad 827) (k + 6)) (aI S (ad 827)) k)) 0 0 := by
    intro q
    induction q with
    | zero =>
      intro k hk
      obtain rfl : k = 18 := by omega
      refine r_iload_n (i := 1) (n := 57) C dX8_shiftReady_56 rfl rfl rfl ?_
      refine r_bipush (v := 18) (n := 59) C dX8_shiftReady_57 rfl rfl ?_
      refine r_icmp_geT (t := 83) C (cle (a := 18) (b := 18) rfl rfl (by omega) (by omega)) dX8_shiftReady_59 (by decide) ?_
      refine t_v C dX8_shiftReady_83 (by decide) ?_
      rfl
    | succ q ih =>
      intro k hk
      refine r_iload_n (i := 1) (n := 57) C dX8_shiftReady_56 rfl rfl rfl ?_
      refine r_bipush (v := 18) (n := 59) C dX8_shiftReady_57 rfl rfl ?_
      refine r_icmp_geF (n := 62) (t := 83) C (cnle (a := 18) (b := k) rfl rfl (by omega) (by omega)) dX8_shiftReady_59 (by decide) rfl ?_
      refine r_aload_n (i := 0) (n := 63) C dX8_shiftReady_62 rfl rfl rfl ?_
      refine hX8_88 (n := 66) C hm dX8_shiftReady_63 rfl ?_
      refine r_iload_n (i := 1) (n := 67) C dX8_shiftReady_66 rfl rfl rfl ?_
      refine r_aload_n (i := 0) (n := 68) C dX8_shiftReady_67 rfl rfl rfl ?_
      refine hX8_88 (n := 71) C hm dX8_shiftReady_68 rfl ?_
      refine r_iload_n (i := 1) (n := 72) C dX8_shiftReady_71 rfl rfl rfl ?_
      refine r_bipush (v := 6) (n := 74) C dX8_shiftReady_72 rfl rfl ?_
      refine r_iadd (n := 75) C dX8_shiftReady_74 rfl ?_
      refine q_ialdv (n := 76) (v := (fun k => aI S (ad 827) (k + 6)) k) C ((k + 6)) (ly_827 hm) (add_nI (a := k) (b := 6) rfl rfl) (by omega) dX8_shiftReady_75 rfl ((if_pos rfl).trans (pw_ge (by omega))) ?_
      refine q_iast (n := 77) C (k) (ly_827 hm) rfl (by omega) dX8_shiftReady_76 rfl ?_
      refine r_iinc (n := 80) C dX8_shiftReady_77 rfl rfl (by decide) rfl rfl ?_
      refine r_goto (t := 56) C dX8_shiftReady_80 (by decide) ?_
      rw [wI_wIs, show (fun i => if i = k then (fun k => aI S (ad 827) (k + 6)) k else pw (fun k => aI S (ad 827) (k + 6)) (aI S (ad 827)) k i) = pw (fun k => aI S (ad 827) (k + 6)) (aI S (ad 827)) (k + 1) from pw_s _ _ k]
      exact J.to (by rw [show nI k + Int32.ofInt 1 = nI (k + 1) from nI_1 k]; rfl) (ih (k + 1) (by omega))
  have lp1 : ∀ (q k : Nat), k + q = 72 → J p l e rmX8_shiftReady s m args below meth c 2 G b (vx_MQ below (Qp G b mV (fun _ S' => S' = mShR S z ad)) (XCp G b S (fun _ => False)) args s rmX8_shiftReady.cells rmX8_shiftReady.slots (Ab b)) 12 [(0, .ref z), (1, .int (nI k))] [] (T2 (uI S 824 z (fI S 824 z - 1)) (ad 825) (ad 826) (pw (fun k => aI S (ad 825) (k + 24)) (aI S (ad 825)) k) (pw (fun k => aI S (ad 826) (k + 24)) (aI S (ad 826)) k)) 0 0 := by
    intro q
    induction q with
    | zero =>
      intro k hk
      obtain rfl : k = 72 := by omega
      refine r_iload_n (i := 1) (n := 13) C dX8_shiftReady_12 rfl rfl rfl ?_
      refine r_bipush (v := 72) (n := 15) C dX8_shiftReady_13 rfl rfl ?_
      refine r_icmp_geT (t := 54) C (cle (a := 72) (b := 72) rfl rfl (by omega) (by omega)) dX8_shiftReady_15 (by decide) ?_
      refine r_iconst (v := 0) (n := 55) C dX8_shiftReady_54 rfl rfl ?_
      refine r_istore_n (i := 1) (n := 56) C dX8_shiftReady_55 rfl (by decide) rfl rfl ?_
      have e1 := lp2 18 0 (by omega)
      rw [pw_0, show wIs (T2 (uI S 824 z (fI S 824 z - 1)) (ad 825) (ad 826) (pw (fun k => aI S (ad 825) (k + 24)) (aI S (ad 825)) 72) (pw (fun k => aI S (ad 826) (k + 24)) (aI S (ad 826)) 72)) (ad 827) (aI S (ad 827)) = (T2 (uI S 824 z (fI S 824 z - 1)) (ad 825) (ad 826) (pw (fun k => aI S (ad 825) (k + 24)) (aI S (ad 825)) 72) (pw (fun k => aI S (ad 826) (k + 24)) (aI S (ad 826)) 72)) from (wIs_c (fun i => (T2_n (hm.ne2 827 825 (by decide) (by decide) (by decide)) (hm.ne2 827 826 (by decide) (by decide) (by decide)) i).symm)).trans (wIs_self _ _)] at e1
      exact J.to rfl e1
    | succ q ih =>
      intro k hk
      refine r_iload_n (i := 1) (n := 13) C dX8_shiftReady_12 rfl rfl rfl ?_
      refine r_bipush (v := 72) (n := 15) C dX8_shiftReady_13 rfl rfl ?_
      refine r_icmp_geF (n := 18) (t := 54) C (cnle (a := 72) (b := k) rfl rfl (by omega) (by omega)) dX8_shiftReady_15 (by decide) rfl ?_
      refine r_aload_n (i := 0) (n := 19) C dX8_shiftReady_18 rfl rfl rfl ?_
      refine hX8_82 (n := 22) C hm dX8_shiftReady_19 rfl ?_
      refine r_iload_n (i := 1) (n := 23) C dX8_shiftReady_22 rfl rfl rfl ?_
      refine r_aload_n (i := 0) (n := 24) C dX8_shiftReady_23 rfl rfl rfl ?_
      refine hX8_82 (n := 27) C hm dX8_shiftReady_24 rfl ?_
      refine r_iload_n (i := 1) (n := 28) C dX8_shiftReady_27 rfl rfl rfl ?_
      refine r_bipush (v := 24) (n := 30) C dX8_shiftReady_28 rfl rfl ?_
      refine r_iadd (n := 31) C dX8_shiftReady_30 rfl ?_
      refine q_ialdv (n := 32) (v := (fun k => aI S (ad 825) (k + 24)) k) C ((k + 24)) (ly_825 hm) (add_nI (a := k) (b := 24) rfl rfl) (by omega) dX8_shiftReady_31 rfl ((T2_ra hba _).trans (pw_ge (by omega))) ?_
      refine q_iast (n := 33) C (k) (ly_825 hm) rfl (by omega) dX8_shiftReady_32 rfl ?_
      refine r_aload_n (i := 0) (n := 34) C dX8_shiftReady_33 rfl rfl rfl ?_
      refine hX8_85 (n := 37) C hm dX8_shiftReady_34 rfl ?_
      refine r_iload_n (i := 1) (n := 38) C dX8_shiftReady_37 rfl rfl rfl ?_
      refine r_aload_n (i := 0) (n := 39) C dX8_shiftReady_38 rfl rfl rfl ?_
      refine hX8_85 (n := 42) C hm dX8_shiftReady_39 rfl ?_
      refine r_iload_n (i := 1) (n := 43) C dX8_shiftReady_42 rfl rfl rfl ?_
      refine r_bipush (v := 24) (n := 45) C dX8_shiftReady_43 rfl rfl ?_
      refine r_iadd (n := 46) C dX8_shiftReady_45 rfl ?_
      refine q_ialdv (n := 47) (v := (fun k => aI S (ad 826) (k + 24)) k) C ((k + 24)) (ly_826 hm) (add_nI (a := k) (b := 24) rfl rfl) (by omega) dX8_shiftReady_46 rfl ((aI_wn (hm.ne2 826 825 (by decide) (by decide) (by decide))).trans ((T2_rb _).trans (pw_ge (by omega)))) ?_
      refine q_iast (n := 48) C (k) (ly_826 hm) rfl (by omega) dX8_shiftReady_47 rfl ?_
      refine r_iinc (n := 51) C dX8_shiftReady_48 rfl rfl (by decide) rfl rfl ?_
      refine r_goto (t := 12) C dX8_shiftReady_51 (by decide) ?_
      rw [T2_a hba, T2_b, pw_s, pw_s]
      exact J.to (by rw [show nI k + Int32.ofInt 1 = nI (k + 1) from nI_1 k]; rfl) (ih (k + 1) (by omega))
  have e0 := lp1 72 0 (by omega)
  rw [pw_0, pw_0, show T2 (uI S 824 z (fI S 824 z - 1)) (ad 825) (ad 826) (aI S (ad 825)) (aI S (ad 826)) = (uI S 824 z (fI S 824 z - 1)) from T2_self (S := (uI S 824 z (fI S 824 z - 1))) hba] at e0
  exact J.to rfl e0
