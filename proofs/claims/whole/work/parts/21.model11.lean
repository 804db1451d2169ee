def cstep (l : Launch) (G : GG) (b z : Nat) (ad : Nat → Nat) (S S' : Sw) (c : Nat) : Prop := lay S z ad ∧ ((S' = S ∧ aI S (ad 802) c = 0) ∨ (S' = S ∧ ¬ aI S (ad 802) c = 0 ∧ ¬ aI S (ad 803) c = 0) ∨ (S' = S ∧ ¬ aI S (ad 802) c = 0 ∧ aI S (ad 803) c = 0 ∧ ¬ aI S (ad 808) c = 1) ∨ (¬ aI S (ad 802) c = 0 ∧ aI S (ad 803) c = 0 ∧ aI S (ad 808) c = 1 ∧ Ct l G b yX8_capture cX8_capture 5 none rmX8_capture mV [.ref z, .int (nI c)] S (fun _ T => T = S')))
def pstep (l : Launch) (G : GG) (b z : Nat) (ad : Nat → Nat) (rp : Nat) (S S' : Sw) (c : Nat) : Prop := lay S z ad ∧ fI S 824 z = nI rp ∧ ((S' = wI S (ad 827) (6 * rp + c) 0 ∧ aI S (ad 802) c = 0) ∨ (S' = wI S (ad 827) (6 * rp + c) 0 ∧ ¬ aI S (ad 802) c = 0 ∧ aI S (ad 803) c = 0) ∨ (¬ aI S (ad 802) c = 0 ∧ ¬ aI S (ad 803) c = 0 ∧ ∃ S1 gv, Ct l G b yX8_give cX8_give 3 (some .boolean) rmX8_give mI [.ref z, .int (nI c)] S (fun r T => T = S1 ∧ r = gv) ∧ lay S1 z ad ∧ fI S1 824 z = nI rp ∧ S' = wI (mMix S1 ad c) (ad 827) (6 * rp + c) (if gv = 0 then 0 else 24)))
def clr (S : Sw) (a b n : Nat) : Sw := T2 S a b (pw (fun _ => 0) (aI S a) n) (pw (fun _ => 0) (aI S b) n)
set_option maxRecDepth 100000 in
set_option maxHeartbeats 1000000 in
theorem m_card_1 {l : Launch} {G : GG} {b : Nat} (hst : l.stackTraces = false) (S : Sw) (z : Nat) (ad : Nat → Nat) (hm : lay S z ad) (hrp : ¬ fI S 824 z ≤ 0) (X : Nat → Sw) (hX0 : mShR (mPl1 (uI S 800 z 0) ad) z ad = X 0) (hX : ∀ c, c < 6 → cstep l G b z ad (X c) (X (c + 1)) c) (hX6 : lay (X 6) z ad) : Ct l G b yX8_card cX8_card 3 (some .boolean) rmX8_card mI [.ref z] S (fun r S' => S' = (clr (X 6) (ad 830) (ad 831) 24) ∧ r = 1) := by
  refine Ct.of2 pnX8 (own := RX8) rfl (Nat.le_of_ble_eq_true rfl) hst ?_
  intro p e s m args below meth c C hname
  change J p l e rmX8_card s m args below meth c 3 G b _ 0 [(0, .ref z)] [] S 0 0
  refine r_aload_n (i := 0) (n := 1) C dX8_card_0 rfl rfl rfl ?_
  refine r_iconst (v := 0) (n := 2) C dX8_card_1 rfl rfl ?_
  refine sX8_127 (n := 5) C hm.1 dX8_card_2 rfl ?_
  refine r_aload_n (i := 0) (n := 6) C dX8_card_5 rfl rfl rfl ?_
  refine gX8_229 (n := 9) C hm.1 dX8_card_6 rfl ?_
  refine r_if_leF (n := 12) (t := 16) C hrp dX8_card_9 (by decide) rfl ?_
  refine r_iconst (v := 1) (n := 13) C dX8_card_12 rfl rfl ?_
  refine r_goto (t := 17) C dX8_card_13 (by decide) ?_
  refine r_istore_n (i := 1) (n := 18) C dX8_card_17 rfl (by decide) rfl rfl ?_
  refine r_aload_n (i := 0) (n := 19) C dX8_card_18 rfl rfl rfl ?_
  refine r_iload_n (i := 1) (n := 20) C dX8_card_19 rfl rfl rfl ?_
  refine kX8_245 (n := 23) C (m_playOne_1 hst (uI S 800 z 0) z ad hm) hm.1 (by decide) (by decide) (Nat.le_of_ble_eq_true rfl) dX8_card_20 rfl (fun r S1 hp => ?_)
  subst hp
  refine r_iload_n (i := 1) (n := 24) C dX8_card_23 rfl rfl rfl ?_
  refine r_if_eqF (n := 27) (t := 31) C (by decide) dX8_card_24 (by decide) rfl ?_
  refine r_aload_n (i := 0) (n := 28) C dX8_card_27 rfl rfl rfl ?_
  refine kX8_249 (n := 31) C (m_shiftReady hst (mPl1 (uI S 800 z 0) ad) z ad hm) hm.1 (by decide) (by decide) (Nat.le_of_ble_eq_true rfl) dX8_card_28 rfl (fun r S1 hp => ?_)
  subst hp
  refine r_iconst (v := 0) (n := 32) C dX8_card_31 rfl rfl ?_
  refine r_istore_n (i := 2) (n := 33) C dX8_card_32 rfl (by decide) rfl rfl ?_
  have hba : ad 831 ≠ ad 830 := (hm.ne2 831 830 (by decide) (by decide) (by decide))
  have lp2 : ∀ (q k : Nat), k + q = 24 → J p l e rmX8_card s m args below meth c 3 G b (vx_MQ below (Qp G b mI (fun r S' => S' = (clr (X 6) (ad 830) (ad 831) 24) ∧ r = 1)) (XCp G b S (fun _ => False)) args s rmX8_card.cells rmX8_card.slots (Ab b)) 80 [(0, .ref z), (1, .int 1), (2, .int (nI k))] [] (T2 (X 6) (ad 830) (ad 831) (pw (fun _ => 0) (aI (X 6) (ad 830)) k) (pw (fun _ => 0) (aI (X 6) (ad 831)) k)) 0 0 := by
    intro q
    induction q with
    | zero =>
      intro k hk
      obtain rfl : k = 24 := by omega
      refine r_iload_n (i := 2) (n := 81) C dX8_card_80 rfl rfl rfl ?_
      refine r_bipush (v := 24) (n := 83) C dX8_card_81 rfl rfl ?_
      refine r_icmp_geT (t := 106) C (cle (a := 24) (b := 24) rfl rfl (by omega) (by omega)) dX8_card_83 (by decide) ?_
      refine r_iload_n (i := 1) (n := 107) C dX8_card_106 rfl rfl rfl ?_
      refine t_i C rfl dX8_card_107 (by decide) ?_
      exact ⟨rfl, rfl⟩
    | succ q ih =>
      intro k hk
      refine r_iload_n (i := 2) (n := 81) C dX8_card_80 rfl rfl rfl ?_
      refine r_bipush (v := 24) (n := 83) C dX8_card_81 rfl rfl ?_
      refine r_icmp_geF (n := 86) (t := 106) C (cnle (a := 24) (b := k) rfl rfl (by omega) (by omega)) dX8_card_83 (by decide) rfl ?_
      refine r_aload_n (i := 0) (n := 87) C dX8_card_86 rfl rfl rfl ?_
      refine hX8_97 (n := 90) C hX6 dX8_card_87 rfl ?_
      refine r_iload_n (i := 2) (n := 91) C dX8_card_90 rfl rfl rfl ?_
      refine r_iconst (v := 0) (n := 92) C dX8_card_91 rfl rfl ?_
      refine q_iast (n := 93) C (k) (ly_830 hX6) rfl (by omega) dX8_card_92 rfl ?_
      refine r_aload_n (i := 0) (n := 94) C dX8_card_93 rfl rfl rfl ?_
      refine hX8_100 (n := 97) C hX6 dX8_card_94 rfl ?_
      refine r_iload_n (i := 2) (n := 98) C dX8_card_97 rfl rfl rfl ?_
      refine r_iconst (v := 0) (n := 99) C dX8_card_98 rfl rfl ?_
      refine q_iast (n := 100) C (k) (ly_831 hX6) rfl (by omega) dX8_card_99 rfl ?_
      refine r_iinc (n := 103) C dX8_card_100 rfl rfl (by decide) rfl rfl ?_
      refine r_goto (t := 80) C dX8_card_103 (by decide) ?_
      rw [T2_a hba, T2_b, show sr (pw (fun _ => 0) (aI (X 6) (ad 830)) k) k 0 = _ from pw_s _ _ _, show sr (pw (fun _ => 0) (aI (X 6) (ad 831)) k) k 0 = _ from pw_s _ _ _]
      exact J.to (by rw [show nI k + Int32.ofInt 1 = nI (k + 1) from nI_1 k]; rfl) (ih (k + 1) (by omega))
  have lp1 : ∀ (q k : Nat), k + q = 6 → J p l e rmX8_card s m args below meth c 3 G b (vx_MQ below (Qp G b mI (fun r S' => S' = (clr (X 6) (ad 830) (ad 831) 24) ∧ r = 1)) (XCp G b S (fun _ => False)) args s rmX8_card.cells rmX8_card.slots (Ab b)) 33 [(0, .ref z), (1, .int 1), (2, .int (nI k))] [] (X k) 0 0 := by
    intro q
    induction q with
    | zero =>
      intro k hk
      obtain rfl : k = 6 := by omega
      refine r_iload_n (i := 2) (n := 34) C dX8_card_33 rfl rfl rfl ?_
      refine r_bipush (v := 6) (n := 36) C dX8_card_34 rfl rfl ?_
      refine r_icmp_geT (t := 78) C (cle (a := 6) (b := 6) rfl rfl (by omega) (by omega)) dX8_card_36 (by decide) ?_
      refine r_iconst (v := 0) (n := 79) C dX8_card_78 rfl rfl ?_
      refine r_istore_n (i := 2) (n := 80) C dX8_card_79 rfl (by decide) rfl rfl ?_
      have e1 := lp2 24 0 (by omega)
      rw [pw_0, pw_0, T2_self hba] at e1
      exact J.to rfl e1
    | succ q ih =>
      intro k hk
      obtain ⟨hk0, hk1⟩ := hX k (by omega)
      rcases hk1 with ⟨h1, h2⟩ | ⟨h1, h2, h3⟩ | ⟨h1, h2, h3, h4⟩ | ⟨h2, h3, h4, h5⟩
      · skip
        refine r_iload_n (i := 2) (n := 34) C dX8_card_33 rfl rfl rfl ?_
        refine r_bipush (v := 6) (n := 36) C dX8_card_34 rfl rfl ?_
        refine r_icmp_geF (n := 39) (t := 78) C (cnle (a := 6) (b := k) rfl rfl (by omega) (by omega)) dX8_card_36 (by decide) rfl ?_
        refine r_aload_n (i := 0) (n := 40) C dX8_card_39 rfl rfl rfl ?_
        refine hX8_13 (n := 43) C hk0 dX8_card_40 rfl ?_
        refine r_iload_n (i := 2) (n := 44) C dX8_card_43 rfl rfl rfl ?_
        refine q_zald (n := 45) C (k) (ly_802 hk0) rfl (by omega) dX8_card_44 rfl ?_
        refine r_if_eqT (t := 72) C h2 dX8_card_45 (by decide) ?_
        refine r_iinc (n := 75) C dX8_card_72 rfl rfl (by decide) rfl rfl ?_
        refine r_goto (t := 33) C dX8_card_75 (by decide) ?_
        rw [← h1]
        exact J.to (by rw [show nI k + Int32.ofInt 1 = nI (k + 1) from nI_1 k]; rfl) (ih (k + 1) (by omega))
      · skip
        refine r_iload_n (i := 2) (n := 34) C dX8_card_33 rfl rfl rfl ?_
        refine r_bipush (v := 6) (n := 36) C dX8_card_34 rfl rfl ?_
        refine r_icmp_geF (n := 39) (t := 78) C (cnle (a := 6) (b := k) rfl rfl (by omega) (by omega)) dX8_card_36 (by decide) rfl ?_
        refine r_aload_n (i := 0) (n := 40) C dX8_card_39 rfl rfl rfl ?_
        refine hX8_13 (n := 43) C hk0 dX8_card_40 rfl ?_
        refine r_iload_n (i := 2) (n := 44) C dX8_card_43 rfl rfl rfl ?_
        refine q_zald (n := 45) C (k) (ly_802 hk0) rfl (by omega) dX8_card_44 rfl ?_
        refine r_if_eqF (n := 48) (t := 72) C h2 dX8_card_45 (by decide) rfl ?_
        refine r_aload_n (i := 0) (n := 49) C dX8_card_48 rfl rfl rfl ?_
        refine hX8_17 (n := 52) C hk0 dX8_card_49 rfl ?_
        refine r_iload_n (i := 2) (n := 53) C dX8_card_52 rfl rfl rfl ?_
        refine q_zald (n := 54) C (k) (ly_803 hk0) rfl (by omega) dX8_card_53 rfl ?_
        refine r_if_neT (t := 72) C h3 dX8_card_54 (by decide) ?_
        refine r_iinc (n := 75) C dX8_card_72 rfl rfl (by decide) rfl rfl ?_
        refine r_goto (t := 33) C dX8_card_75 (by decide) ?_
        rw [← h1]
        exact J.to (by rw [show nI k + Int32.ofInt 1 = nI (k + 1) from nI_1 k]; rfl) (ih (k + 1) (by omega))
      · skip
        refine r_iload_n (i := 2) (n := 34) C dX8_card_33 rfl rfl rfl ?_
        refine r_bipush (v := 6) (n := 36) C dX8_card_34 rfl rfl ?_
        refine r_icmp_geF (n := 39) (t := 78) C (cnle (a := 6) (b := k) rfl rfl (by omega) (by omega)) dX8_card_36 (by decide) rfl ?_
        refine r_aload_n (i := 0) (n := 40) C dX8_card_39 rfl rfl rfl ?_
        refine hX8_13 (n := 43) C hk0 dX8_card_40 rfl ?_
        refine r_iload_n (i := 2) (n := 44) C dX8_card_43 rfl rfl rfl ?_
        refine q_zald (n := 45) C (k) (ly_802 hk0) rfl (by omega) dX8_card_44 rfl ?_
        refine r_if_eqF (n := 48) (t := 72) C h2 dX8_card_45 (by decide) rfl ?_
        refine r_aload_n (i := 0) (n := 49) C dX8_card_48 rfl rfl rfl ?_
        refine hX8_17 (n := 52) C hk0 dX8_card_49 rfl ?_
        refine r_iload_n (i := 2) (n := 53) C dX8_card_52 rfl rfl rfl ?_
        refine q_zald (n := 54) C (k) (ly_803 hk0) rfl (by omega) dX8_card_53 rfl ?_
        refine r_if_neF (n := 57) (t := 72) C h3 dX8_card_54 (by decide) rfl ?_
        refine r_aload_n (i := 0) (n := 58) C dX8_card_57 rfl rfl rfl ?_
        refine hX8_32 (n := 61) C hk0 dX8_card_58 rfl ?_
        refine r_iload_n (i := 2) (n := 62) C dX8_card_61 rfl rfl rfl ?_
        refine q_iald (n := 63) C (k) (ly_808 hk0) rfl (by omega) dX8_card_62 rfl ?_
        refine r_iconst (v := 1) (n := 64) C dX8_card_63 rfl rfl ?_
        refine r_icmp_neT (t := 72) C h4 dX8_card_64 (by decide) ?_
        refine r_iinc (n := 75) C dX8_card_72 rfl rfl (by decide) rfl rfl ?_
        refine r_goto (t := 33) C dX8_card_75 (by decide) ?_
        rw [← h1]
        exact J.to (by rw [show nI k + Int32.ofInt 1 = nI (k + 1) from nI_1 k]; rfl) (ih (k + 1) (by omega))
      · skip
        refine r_iload_n (i := 2) (n := 34) C dX8_card_33 rfl rfl rfl ?_
        refine r_bipush (v := 6) (n := 36) C dX8_card_34 rfl rfl ?_
        refine r_icmp_geF (n := 39) (t := 78) C (cnle (a := 6) (b := k) rfl rfl (by omega) (by omega)) dX8_card_36 (by decide) rfl ?_
        refine r_aload_n (i := 0) (n := 40) C dX8_card_39 rfl rfl rfl ?_
        refine hX8_13 (n := 43) C hk0 dX8_card_40 rfl ?_
        refine r_iload_n (i := 2) (n := 44) C dX8_card_43 rfl rfl rfl ?_
        refine q_zald (n := 45) C (k) (ly_802 hk0) rfl (by omega) dX8_card_44 rfl ?_
        refine r_if_eqF (n := 48) (t := 72) C h2 dX8_card_45 (by decide) rfl ?_
        refine r_aload_n (i := 0) (n := 49) C dX8_card_48 rfl rfl rfl ?_
        refine hX8_17 (n := 52) C hk0 dX8_card_49 rfl ?_
        refine r_iload_n (i := 2) (n := 53) C dX8_card_52 rfl rfl rfl ?_
        refine q_zald (n := 54) C (k) (ly_803 hk0) rfl (by omega) dX8_card_53 rfl ?_
        refine r_if_neF (n := 57) (t := 72) C h3 dX8_card_54 (by decide) rfl ?_
        refine r_aload_n (i := 0) (n := 58) C dX8_card_57 rfl rfl rfl ?_
        refine hX8_32 (n := 61) C hk0 dX8_card_58 rfl ?_
        refine r_iload_n (i := 2) (n := 62) C dX8_card_61 rfl rfl rfl ?_
        refine q_iald (n := 63) C (k) (ly_808 hk0) rfl (by omega) dX8_card_62 rfl ?_
        refine r_iconst (v := 1) (n := 64) C dX8_card_63 rfl rfl ?_
        refine r_icmp_neF (n := 67) (t := 72) C h4 dX8_card_64 (by decide) rfl ?_
        refine r_aload_n (i := 0) (n := 68) C dX8_card_67 rfl rfl rfl ?_
        refine r_iload_n (i := 2) (n := 69) C dX8_card_68 rfl rfl rfl ?_
        refine kX8_252 (n := 72) C (h5) hk0.1 (by decide) (by decide) (Nat.le_of_ble_eq_true rfl) dX8_card_69 rfl (fun r S1 hp => ?_)
        subst hp
        refine r_iinc (n := 75) C dX8_card_72 rfl rfl (by decide) rfl rfl ?_
        refine r_goto (t := 33) C dX8_card_75 (by decide) ?_
        exact J.to (by rw [show nI k + Int32.ofInt 1 = nI (k + 1) from nI_1 k]; rfl) (ih (k + 1) (by omega))
  rw [hX0]
  exact J.to rfl (lp1 6 0 (by omega))
set_option maxRecDepth 100000 in
set_option maxHeartbeats 1000000 in
theorem m_card_0 {l : Launch} {G : GG} {b : Nat} (hst : l.stackTraces = false) (S : Sw) (z : Nat) (ad : Nat → Nat) (hm : lay S z ad) (hrp : fI S 824 z ≤ 0) (X : Nat → Sw) (hX0 : mPl0 (uI S 800 z 0) ad = X 0) (hX : ∀ c, c < 6 → cstep l G b z ad (X c) (X (c + 1)) c) (hX6 : lay (X 6) z ad) : Ct l G b yX8_card cX8_card 3 (some .boolean) rmX8_card mI [.ref z] S (fun r S' => S' = (clr (X 6) (ad 830) (ad 831) 24) ∧ r = 0) := by
  refine Ct.of2 pnX8 (own := RX8) rfl (Nat.le_of_ble_eq_true rfl) hst ?_
  intro p e s m args below meth c C hname
  change J p l e rmX8_card s m args below meth c 3 G b _ 0 [(0, .ref z)] [] S 0 0
  refine r_aload_n (i := 0) (n := 1) C dX8_card_0 rfl rfl rfl ?_
  refine r_iconst (v := 0) (n := 2) C dX8_card_1 rfl rfl ?_
  refine sX8_127 (n := 5) C hm.1 dX8_card_2 rfl ?_
  refine r_aload_n (i := 0) (n := 6) C dX8_card_5 rfl rfl rfl ?_
  refine gX8_229 (n := 9) C hm.1 dX8_card_6 rfl ?_
  refine r_if_leT (t := 16) C hrp dX8_card_9 (by decide) ?_
  refine r_iconst (v := 0) (n := 17) C dX8_card_16 rfl rfl ?_
  refine r_istore_n (i := 1) (n := 18) C dX8_card_17 rfl (by decide) rfl rfl ?_
  refine r_aload_n (i := 0) (n := 19) C dX8_card_18 rfl rfl rfl ?_
  refine r_iload_n (i := 1) (n := 20) C dX8_card_19 rfl rfl rfl ?_
  refine kX8_245 (n := 23) C (m_playOne_0 hst (uI S 800 z 0) z ad hm) hm.1 (by decide) (by decide) (Nat.le_of_ble_eq_true rfl) dX8_card_20 rfl (fun r S1 hp => ?_)
  subst hp
  refine r_iload_n (i := 1) (n := 24) C dX8_card_23 rfl rfl rfl ?_
  refine r_if_eqT (t := 31) C rfl dX8_card_24 (by decide) ?_
  refine r_iconst (v := 0) (n := 32) C dX8_card_31 rfl rfl ?_
  refine r_istore_n (i := 2) (n := 33) C dX8_card_32 rfl (by decide) rfl rfl ?_
  have hba : ad 831 ≠ ad 830 := (hm.ne2 831 830 (by decide) (by decide) (by decide))
  have lp2 : ∀ (q k : Nat), k + q = 24 → J p l e rmX8_card s m args below meth c 3 G b (vx_MQ below (Qp G b mI (fun r S' => S' = (clr (X 6) (ad 830) (ad 831) 24) ∧ r = 0)) (XCp G b S (fun _ => False)) args s rmX8_card.cells rmX8_card.slots (Ab b)) 80 [(0, .ref z), (1, .int 0), (2, .int (nI k))] [] (T2 (X 6) (ad 830) (ad 831) (pw (fun _ => 0) (aI (X 6) (ad 830)) k) (pw (fun _ => 0) (aI (X 6) (ad 831)) k)) 0 0 := by
    intro q
    induction q with
    | zero =>
      intro k hk
      obtain rfl : k = 24 := by omega
      refine r_iload_n (i := 2) (n := 81) C dX8_card_80 rfl rfl rfl ?_
      refine r_bipush (v := 24) (n := 83) C dX8_card_81 rfl rfl ?_
      refine r_icmp_geT (t := 106) C (cle (a := 24) (b := 24) rfl rfl (by omega) (by omega)) dX8_card_83 (by decide) ?_
      refine r_iload_n (i := 1) (n := 107) C dX8_card_106 rfl rfl rfl ?_
      refine t_i C rfl dX8_card_107 (by decide) ?_
      exact ⟨rfl, rfl⟩
    | succ q ih =>
      intro k hk
      refine r_iload_n (i := 2) (n := 81) C dX8_card_80 rfl rfl rfl ?_
      refine r_bipush (v := 24) (n := 83) C dX8_card_81 rfl rfl ?_
      refine r_icmp_geF (n := 86) (t := 106) C (cnle (a := 24) (b := k) rfl rfl (by omega) (by omega)) dX8_card_83 (by decide) rfl ?_
      refine r_aload_n (i := 0) (n := 87) C dX8_card_86 rfl rfl rfl ?_
      refine hX8_97 (n := 90) C hX6 dX8_card_87 rfl ?_
      refine r_iload_n (i := 2) (n := 91) C dX8_card_90 rfl rfl rfl ?_
      refine r_iconst (v := 0) (n := 92) C dX8_card_91 rfl rfl ?_
      refine q_iast (n := 93) C (k) (ly_830 hX6) rfl (by omega) dX8_card_92 rfl ?_
      refine r_aload_n (i := 0) (n := 94) C dX8_card_93 rfl rfl rfl ?_
      refine hX8_100 (n := 97) C hX6 dX8_card_94 rfl ?_
      refine r_iload_n (i := 2) (n := 98) C dX8_card_97 rfl rfl rfl ?_
      refine r_iconst (v := 0) (n := 99) C dX8_card_98 rfl rfl ?_
      refine q_iast (n := 100) C (k) (ly_831 hX6) rfl (by omega) dX8_card_99 rfl ?_
      refine r_iinc (n := 103) C dX8_card_100 rfl rfl (by decide) rfl rfl ?_
      refine r_goto (t := 80) C dX8_card_103 (by decide) ?_
      rw [T2_a hba, T2_b, show sr (pw (fun _ => 0) (aI (X 6) (ad 830)) k) k 0 = _ from pw_s _ _ _, show sr (pw (fun _ => 0) (aI (X 6) (ad 831)) k) k 0 = _ from pw_s _ _ _]
      exact J.to (by rw [show nI k + Int32.ofInt 1 = nI (k + 1) from nI_1 k]; rfl) (ih (k + 1) (by omega))
  have lp1 : ∀ (q k : Nat), k + q = 6 → J p l e rmX8_card s m args below meth c 3 G b (vx_MQ below (Qp G b mI (fun r S' => S' = (clr (X 6) (ad 830) (ad 831) 24) ∧ r = 0)) (XCp G b S (fun _ => False)) args s rmX8_card.cells rmX8_card.slots (Ab b)) 33 [(0, .ref z), (1, .int 0), (2, .int (nI k))] [] (X k) 0 0 := by
    intro q
    induction q with
    | zero =>
      intro k hk
      obtain rfl : k = 6 := by omega
      refine r_iload_n (i := 2) (n := 34) C dX8_card_33 rfl rfl rfl ?_
      refine r_bipush (v := 6) (n := 36) C dX8_card_34 rfl rfl ?_
      refine r_icmp_geT (t := 78) C (cle (a := 6) (b := 6) rfl rfl (by omega) (by omega)) dX8_card_36 (by decide) ?_
      refine r_iconst (v := 0) (n := 79) C dX8_card_78 rfl rfl ?_
      refine r_istore_n (i := 2) (n := 80) C dX8_card_79 rfl (by decide) rfl rfl ?_
      have e1 := lp2 24 0 (by omega)
      rw [pw_0, pw_0, T2_self hba] at e1
      exact J.to rfl e1
    | succ q ih =>
      intro k hk
      obtain ⟨hk0, hk1⟩ := hX k (by omega)
      rcases hk1 with ⟨h1, h2⟩ | ⟨h1, h2, h3⟩ | ⟨h1, h2, h3, h4⟩ | ⟨h2, h3, h4, h5⟩
      · skip
        refine r_iload_n (i := 2) (n := 34) C dX8_card_33 rfl rfl rfl ?_
        refine r_bipush (v := 6) (n := 36) C dX8_card_34 rfl rfl ?_
        refine r_icmp_geF (n := 39) (t := 78) C (cnle (a := 6) (b := k) rfl rfl (by omega) (by omega)) dX8_card_36 (by decide) rfl ?_
        refine r_aload_n (i := 0) (n := 40) C dX8_card_39 rfl rfl rfl ?_
        refine hX8_13 (n := 43) C hk0 dX8_card_40 rfl ?_
        refine r_iload_n (i := 2) (n := 44) C dX8_card_43 rfl rfl rfl ?_
        refine q_zald (n := 45) C (k) (ly_802 hk0) rfl (by omega) dX8_card_44 rfl ?_
        refine r_if_eqT (t := 72) C h2 dX8_card_45 (by decide) ?_
        refine r_iinc (n := 75) C dX8_card_72 rfl rfl (by decide) rfl rfl ?_
        refine r_goto (t := 33) C dX8_card_75 (by decide) ?_
        rw [← h1]
        exact J.to (by rw [show nI k + Int32.ofInt 1 = nI (k + 1) from nI_1 k]; rfl) (ih (k + 1) (by omega))
      · skip
        refine r_iload_n (i := 2) (n := 34) C dX8_card_33 rfl rfl rfl ?_
        refine r_bipush (v := 6) (n := 36) C dX8_card_34 rfl rfl ?_
        refine r_icmp_geF (n := 39) (t := 78) C (cnle (a := 6) (b := k) rfl rfl (by omega) (by omega)) dX8_card_36 (by decide) rfl ?_
        refine r_aload_n (i := 0) (n := 40) C dX8_card_39 rfl rfl rfl ?_
        refine hX8_13 (n := 43) C hk0 dX8_card_40 rfl ?_
        refine r_iload_n (i := 2) (n := 44) C dX8_card_43 rfl rfl rfl ?_
        refine q_zald (n := 45) C (k) (ly_802 hk0) rfl (by omega) dX8_card_44 rfl ?_
        refine r_if_eqF (n := 48) (t := 72) C h2 dX8_card_45 (by decide) rfl ?_
        refine r_aload_n (i := 0) (n := 49) C dX8_card_48 rfl rfl rfl ?_
        refine hX8_17 (n := 52) C hk0 dX8_card_49 rfl ?_
        refine r_iload_n (i := 2) (n := 53) C dX8_card_52 rfl rfl rfl ?_
        refine q_zald (n := 54) C (k) (ly_803 hk0) rfl (by omega) dX8_card_53 rfl ?_
        refine r_if_neT (t := 72) C h3 dX8_card_54 (by decide) ?_
        refine r_iinc (n := 75) C dX8_card_72 rfl rfl (by decide) rfl rfl ?_
        refine r_goto (t := 33) C dX8_card_75 (by decide) ?_
        rw [← h1]
        exact J.to (by rw [show nI k + Int32.ofInt 1 = nI (k + 1) from nI_1 k]; rfl) (ih (k + 1) (by omega))
      · skip
        refine r_iload_n (i := 2) (n := 34) C dX8_card_33 rfl rfl rfl ?_
        refine r_bipush (v := 6) (n := 36) C dX8_card_34 rfl rfl ?_
        refine r_icmp_geF (n := 39) (t := 78) C (cnle (a := 6) (b := k) rfl rfl (by omega) (by omega)) dX8_card_36 (by decide) rfl ?_
        refine r_aload_n (i := 0) (n := 40) C dX8_card_39 rfl rfl rfl ?_
        refine hX8_13 (n := 43) C hk0 dX8_card_40 rfl ?_
        refine r_iload_n (i := 2) (n := 44) C dX8_card_43 rfl rfl rfl ?_
        refine q_zald (n := 45) C (k) (ly_802 hk0) rfl (by omega) dX8_card_44 rfl ?_
        refine r_if_eqF (n := 48) (t := 72) C h2 dX8_card_45 (by decide) rfl ?_
        refine r_aload_n (i := 0) (n := 49) C dX8_card_48 rfl rfl rfl ?_
        refine hX8_17 (n := 52) C hk0 dX8_card_49 rfl ?_
        refine r_iload_n (i := 2) (n := 53) C dX8_card_52 rfl rfl rfl ?_
        refine q_zald (n := 54) C (k) (ly_803 hk0) rfl (by omega) dX8_card_53 rfl ?_
        refine r_if_neF (n := 57) (t := 72) C h3 dX8_card_54 (by decide) rfl ?_
        refine r_aload_n (i := 0) (n := 58) C dX8_card_57 rfl rfl rfl ?_
        refine hX8_32 (n := 61) C hk0 dX8_card_58 rfl ?_
        refine r_iload_n (i := 2) (n := 62) C dX8_card_61 rfl rfl rfl ?_
        refine q_iald (n := 63) C (k) (ly_808 hk0) rfl (by omega) dX8_card_62 rfl ?_
        refine r_iconst (v := 1) (n := 64) C dX8_card_63 rfl rfl ?_
        refine r_icmp_neT (t := 72) C h4 dX8_card_64 (by decide) ?_
        refine r_iinc (n := 75) C dX8_card_72 rfl rfl (by decide) rfl rfl ?_
        refine r_goto (t := 33) C dX8_card_75 (by decide) ?_
        rw [← h1]
        exact J.to (by rw [show nI k + Int32.ofInt 1 = nI (k + 1) from nI_1 k]; rfl) (ih (k + 1) (by omega))
      · skip
        refine r_iload_n (i := 2) (n := 34) C dX8_card_33 rfl rfl rfl ?_
        refine r_bipush (v := 6) (n := 36) C dX8_card_34 rfl rfl ?_
        refine r_icmp_geF (n := 39) (t := 78) C (cnle (a := 6) (b := k) rfl rfl (by omega) (by omega)) dX8_card_36 (by decide) rfl ?_
        refine r_aload_n (i := 0) (n := 40) C dX8_card_39 rfl rfl rfl ?_
        refine hX8_13 (n := 43) C hk0 dX8_card_40 rfl ?_
        refine r_iload_n (i := 2) (n := 44) C dX8_card_43 rfl rfl rfl ?_
        refine q_zald (n := 45) C (k) (ly_802 hk0) rfl (by omega) dX8_card_44 rfl ?_
        refine r_if_eqF (n := 48) (t := 72) C h2 dX8_card_45 (by decide) rfl ?_
        refine r_aload_n (i := 0) (n := 49) C dX8_card_48 rfl rfl rfl ?_
        refine hX8_17 (n := 52) C hk0 dX8_card_49 rfl ?_
        refine r_iload_n (i := 2) (n := 53) C dX8_card_52 rfl rfl rfl ?_
        refine q_zald (n := 54) C (k) (ly_803 hk0) rfl (by omega) dX8_card_53 rfl ?_
        refine r_if_neF (n := 57) (t := 72) C h3 dX8_card_54 (by decide) rfl ?_
        refine r_aload_n (i := 0) (n := 58) C dX8_card_57 rfl rfl rfl ?_
        refine hX8_32 (n := 61) C hk0 dX8_card_58 rfl ?_
        refine r_iload_n (i := 2) (n := 62) C dX8_card_61 rfl rfl rfl ?_
        refine q_iald (n := 63) C (k) (ly_808 hk0) rfl (by omega) dX8_card_62 rfl ?_
        refine r_iconst (v := 1) (n := 64) C dX8_card_63 rfl rfl ?_
        refine r_icmp_neF (n := 67) (t := 72) C h4 dX8_card_64 (by decide) rfl ?_
        refine r_aload_n (i := 0) (n := 68) C dX8_card_67 rfl rfl rfl ?_
        refine r_iload_n (i := 2) (n := 69) C dX8_card_68 rfl rfl rfl ?_
        refine kX8_252 (n := 72) C (h5) hk0.1 (by decide) (by decide) (Nat.le_of_ble_eq_true rfl) dX8_card_69 rfl (fun r S1 hp => ?_)
        subst hp
        refine r_iinc (n := 75) C dX8_card_72 rfl rfl (by decide) rfl rfl ?_
        refine r_goto (t := 33) C dX8_card_75 (by decide) ?_
        exact J.to (by rw [show nI k + Int32.ofInt 1 = nI (k + 1) from nI_1 k]; rfl) (ih (k + 1) (by omega))
  rw [hX0]
  exact J.to rfl (lp1 6 0 (by omega))
set_option maxRecDepth 100000 in
set_option maxHeartbeats 1000000 in
theorem m_prepare_f {l : Launch} {G : GG} {b : Nat} (hst : l.stackTraces = false) (S : Sw) (z : Nat) (ad : Nat → Nat) (hm : lay S z ad) (hrp : fI S 824 z = 4) : Ct l G b yX8_prepare cX8_prepare 3 (some .boolean) rmX8_prepare mI [.ref z] S (fun r S' => S' = uI S 800 z 0 ∧ r = 0) := by
  refine Ct.of2 pnX8 (own := RX8) rfl (Nat.le_of_ble_eq_true rfl) hst ?_
  intro p e s m args below meth c C hname
  change J p l e rmX8_prepare s m args below meth c 3 G b _ 0 [(0, .ref z)] [] S 0 0
  refine r_aload_n (i := 0) (n := 1) C dX8_prepare_0 rfl rfl rfl ?_
  refine r_iconst (v := 0) (n := 2) C dX8_prepare_1 rfl rfl ?_
  refine sX8_127 (n := 5) C hm.1 dX8_prepare_2 rfl ?_
  refine r_aload_n (i := 0) (n := 6) C dX8_prepare_5 rfl rfl rfl ?_
  refine gX8_229 (n := 9) C hm.1 dX8_prepare_6 rfl ?_
  refine r_iconst (v := 4) (n := 10) C dX8_prepare_9 rfl rfl ?_
  refine r_icmp_neF (n := 13) (t := 15) C hrp dX8_prepare_10 (by decide) rfl ?_
  refine r_iconst (v := 0) (n := 14) C dX8_prepare_13 rfl rfl ?_
  refine t_i C rfl dX8_prepare_14 (by decide) ?_
  exact ⟨rfl, rfl⟩
/-- one frame of the limiter's row, in the reference *)-/
def mFr (S : Sw) (z : Nat) (ad : Nat → Nat) (rp k : Nat) : Sw :=
  let S1 := if fI S 832 z = 0 then S else mLf S z ad k
  let S2 := uI S1 834 z (fI S1 834 z + 1)
  let S3 := wI (ctS S2 z (aI S2 (ad 836) k).toInt64) (ad 825) (24 * rp + k) (ct (aI S2 (ad 836) k).toInt64)
  wI (ctS S3 z (aI S3 (ad 837) k).toInt64) (ad 826) (24 * rp + k) (ct (aI S3 (ad 837) k).toInt64)
def mFrs (S : Sw) (z : Nat) (ad : Nat → Nat) (rp : Nat) : Nat → Sw
  | 0 => S
  | k + 1 => mFr (mFrs S z ad rp k) z ad rp k
theorem ctS_lay {S : Sw} {z : Nat} {ad : Nat → Nat} {v : Int64} (h : lay S z ad) : lay (ctS S z v) z ad := by unfold ctS; split <;> exact h
theorem ctS_f {S : Sw} {z : Nat} {v : Int64} {f : Nat} (h : f ≠ 835) : fI (ctS S z v) f z = fI S f z := by
  unfold ctS; split
  · exact if_neg (fun q => h q.1)
  · rfl
theorem ctS_a {S : Sw} {z : Nat} {v : Int64} {a i : Nat} : aI (ctS S z v) a i = aI S a i := by unfold ctS; split <;> rfl
theorem mLf_f {S : Sw} {z : Nat} {ad : Nat → Nat} {k f : Nat} (h : f ≠ 833) : fI (mLf S z ad k) f z = fI S f z := if_neg (fun q => h q.1)
theorem mFr_lay {S : Sw} {z : Nat} {ad : Nat → Nat} {rp k : Nat} (h : lay S z ad) : lay (mFr S z ad rp k) z ad := by
  unfold mFr
  by_cases h1 : fI S 832 z = 0
  · simp only [h1, ↓reduceIte]
    exact ctS_lay (show lay (wI (ctS (uI S 834 z (fI S 834 z + 1)) z _) (ad 825) _ _) z ad from ctS_lay (S := uI S 834 z (fI S 834 z + 1)) h)
  · simp only [h1, ↓reduceIte]
    exact ctS_lay (show lay (wI (ctS (uI (mLf S z ad k) 834 z (fI (mLf S z ad k) 834 z + 1)) z _) (ad 825) _ _) z ad from ctS_lay (S := uI (mLf S z ad k) 834 z (fI (mLf S z ad k) 834 z + 1)) h)
theorem mFr_f {S : Sw} {z : Nat} {ad : Nat → Nat} {rp k f : Nat} (h1 : f ≠ 833) (h2 : f ≠ 834) (h3 : f ≠ 835) : fI (mFr S z ad rp k) f z = fI S f z := by
  unfold mFr
  by_cases e : fI S 832 z = 0
  · simp only [e, ↓reduceIte]
    refine (ctS_f h3).trans ((ctS_f h3).trans (if_neg (fun q => h2 q.1)))
  · simp only [e, ↓reduceIte]
    refine (ctS_f h3).trans ((ctS_f h3).trans ((if_neg (fun q => h2 q.1)).trans (mLf_f h1)))
theorem mFrs_lay {S : Sw} {z : Nat} {ad : Nat → Nat} {rp : Nat} (h : lay S z ad) : ∀ k, lay (mFrs S z ad rp k) z ad
  | 0 => h
  | k + 1 => mFr_lay (mFrs_lay h k)
theorem mFrs_f {S : Sw} {z : Nat} {ad : Nat → Nat} {rp f : Nat} (h1 : f ≠ 833) (h2 : f ≠ 834) (h3 : f ≠ 835) : ∀ k, fI (mFrs S z ad rp k) f z = fI S f z
  | 0 => rfl
  | k + 1 => (mFr_f h1 h2 h3).trans (mFrs_f h1 h2 h3 k)
set_option maxRecDepth 100000 in
set_option maxHeartbeats 1000000 in
theorem m_prepare_y {l : Launch} {G : GG} {b : Nat} (hst : l.stackTraces = false) (S : Sw) (z : Nat) (ad : Nat → Nat) (hm : lay S z ad) (rp : Nat) (hrp4 : rp < 4) (hrp : ¬ fI S 824 z = 4) (X : Nat → Sw) (hX0 : clr (uI S 800 z 0) (ad 836) (ad 837) 24 = X 0) (hX : ∀ c, c < 6 → pstep l G b z ad rp (X c) (X (c + 1)) c) (hX6 : lay (X 6) z ad) (hr6 : fI (X 6) 824 z = nI rp) : Ct l G b yX8_prepare cX8_prepare 3 (some .boolean) rmX8_prepare mI [.ref z] S (fun r S' => S' = (uI (mFrs (X 6) z ad rp 24) 824 z (fI (mFrs (X 6) z ad rp 24) 824 z + 1)) ∧ r = 1) := by
  refine Ct.of2 pnX8 (own := RX8) rfl (Nat.le_of_ble_eq_true rfl) hst ?_
  intro p e s m args below meth c C hname
  change J p l e rmX8_prepare s m args below meth c 3 G b _ 0 [(0, .ref z)] [] S 0 0
  refine r_aload_n (i := 0) (n := 1) C dX8_prepare_0 rfl rfl rfl ?_
  refine r_iconst (v := 0) (n := 2) C dX8_prepare_1 rfl rfl ?_
  refine sX8_127 (n := 5) C hm.1 dX8_prepare_2 rfl ?_
  refine r_aload_n (i := 0) (n := 6) C dX8_prepare_5 rfl rfl rfl ?_
  refine gX8_229 (n := 9) C hm.1 dX8_prepare_6 rfl ?_
  refine r_iconst (v := 4) (n := 10) C dX8_prepare_9 rfl rfl ?_
  refine r_icmp_neT (t := 15) C hrp dX8_prepare_10 (by decide) ?_
  refine r_iconst (v := 0) (n := 16) C dX8_prepare_15 rfl rfl ?_
  refine r_istore_n (i := 1) (n := 17) C dX8_prepare_16 rfl (by decide) rfl rfl ?_
  have hba : ad 837 ≠ ad 836 := (hm.ne2 837 836 (by decide) (by decide) (by decide))
  have lp3 : ∀ (q k : Nat), k + q = 24 → J p l e rmX8_prepare s m args below meth c 3 G b (vx_MQ below (Qp G b mI (fun r S' => S' = (uI (mFrs (X 6) z ad rp 24) 824 z (fI (mFrs (X 6) z ad rp 24) 824 z + 1)) ∧ r = 1)) (XCp G b S (fun _ => False)) args s rmX8_prepare.cells rmX8_prepare.slots (Ab b)) 114 [(0, .ref z), (1, .int (nI k))] [] (mFrs (X 6) z ad rp k) 0 0 := by
    intro q
    induction q with
    | zero =>
      intro k hk
      obtain rfl : k = 24 := by omega
      refine r_iload_n (i := 1) (n := 115) C dX8_prepare_114 rfl rfl rfl ?_
      refine r_bipush (v := 24) (n := 117) C dX8_prepare_115 rfl rfl ?_
      refine r_icmp_geT (t := 198) C (cle (a := 24) (b := 24) rfl rfl (by omega) (by omega)) dX8_prepare_117 (by decide) ?_
      refine r_aload_n (i := 0) (n := 199) C dX8_prepare_198 rfl rfl rfl ?_
      refine r_dup (n := 200) C dX8_prepare_199 rfl rfl ?_
      refine gX8_229 (n := 203) C (mFrs_lay hX6 24).1 dX8_prepare_200 rfl ?_
      refine r_iconst (v := 1) (n := 204) C dX8_prepare_203 rfl rfl ?_
      refine r_iadd (n := 205) C dX8_prepare_204 rfl ?_
      refine sX8_229 (n := 208) C (mFrs_lay hX6 24).1 dX8_prepare_205 rfl ?_
      refine r_iconst (v := 1) (n := 209) C dX8_prepare_208 rfl rfl ?_
      refine t_i C rfl dX8_prepare_209 (by decide) ?_
      exact ⟨rfl, rfl⟩
    | succ q ih =>
      intro k hk
      have hlm : lay (mFrs (X 6) z ad rp k) z ad := mFrs_lay hX6 k
      have hrm : fI (mFrs (X 6) z ad rp k) 824 z = nI rp := (mFrs_f (by decide) (by decide) (by decide) k).trans hr6
      have h132 : ∀ Sa : Sw, Sa = (if fI (mFrs (X 6) z ad rp k) 832 z = 0 then (mFrs (X 6) z ad rp k) else mLf (mFrs (X 6) z ad rp k) z ad k) → J p l e rmX8_prepare s m args below meth c 3 G b (vx_MQ below (Qp G b mI (fun r S' => S' = (uI (mFrs (X 6) z ad rp 24) 824 z (fI (mFrs (X 6) z ad rp 24) 824 z + 1)) ∧ r = 1)) (XCp G b S (fun _ => False)) args s rmX8_prepare.cells rmX8_prepare.slots (Ab b)) 132 [(0, .ref z), (1, .int (nI k))] [] Sa 0 0 := by
        intro Sa hSa
        have hla : lay Sa z ad := by rw [hSa]; split <;> exact hlm
        have hra : fI Sa 824 z = nI rp := by
          rw [hSa]; split
          · exact hrm
          · exact (mLf_f (by decide)).trans hrm
        have hfr : wI (ctS (wI (ctS (uI Sa 834 z (fI Sa 834 z + 1)) z (aI (uI Sa 834 z (fI Sa 834 z + 1)) (ad 836) k).toInt64) (ad 825) (24 * rp + k) (ct (aI (uI Sa 834 z (fI Sa 834 z + 1)) (ad 836) k).toInt64)) z (aI (wI (ctS (uI Sa 834 z (fI Sa 834 z + 1)) z (aI (uI Sa 834 z (fI Sa 834 z + 1)) (ad 836) k).toInt64) (ad 825) (24 * rp + k) (ct (aI (uI Sa 834 z (fI Sa 834 z + 1)) (ad 836) k).toInt64)) (ad 837) k).toInt64) (ad 826) (24 * rp + k) (ct (aI (wI (ctS (uI Sa 834 z (fI Sa 834 z + 1)) z (aI (uI Sa 834 z (fI Sa 834 z + 1)) (ad 836) k).toInt64) (ad 825) (24 * rp + k) (ct (aI (uI Sa 834 z (fI Sa 834 z + 1)) (ad 836) k).toInt64)) (ad 837) k).toInt64) = (mFrs (X 6) z ad rp (k + 1)) := by
          show _ = mFr (mFrs (X 6) z ad rp k) z ad rp k
          unfold mFr
          rw [hSa]
        refine r_aload_n (i := 0) (n := 133) C dX8_prepare_132 rfl rfl rfl ?_
        refine r_dup (n := 134) C dX8_prepare_133 rfl rfl ?_
        refine gX8_218 (n := 137) C hla.1 dX8_prepare_134 rfl ?_
        refine r_iconst (v := 1) (n := 138) C dX8_prepare_137 rfl rfl ?_
        refine r_iadd (n := 139) C dX8_prepare_138 rfl ?_
        refine sX8_218 (n := 142) C hla.1 dX8_prepare_139 rfl ?_
        refine r_aload_n (i := 0) (n := 143) C dX8_prepare_142 rfl rfl rfl ?_
        refine hX8_82 (n := 146) C hla dX8_prepare_143 rfl ?_
        refine r_bipush (v := 24) (n := 148) C dX8_prepare_146 rfl rfl ?_
        refine r_aload_n (i := 0) (n := 149) C dX8_prepare_148 rfl rfl rfl ?_
        refine gX8_229 (n := 152) C hla.1 dX8_prepare_149 rfl ?_
        rw [show fI (uI Sa 834 z (fI Sa 834 z + 1)) 824 z = nI rp from hra]
        refine r_imul (n := 153) C dX8_prepare_152 rfl ?_
        refine r_iload_n (i := 1) (n := 154) C dX8_prepare_153 rfl rfl rfl ?_
        refine r_iadd (n := 155) C dX8_prepare_154 rfl ?_
        refine r_aload_n (i := 0) (n := 156) C dX8_prepare_155 rfl rfl rfl ?_
        refine r_aload_n (i := 0) (n := 157) C dX8_prepare_156 rfl rfl rfl ?_
        refine hX8_111 (n := 160) C hla dX8_prepare_157 rfl ?_
        refine r_iload_n (i := 1) (n := 161) C dX8_prepare_160 rfl rfl rfl ?_
        refine q_iald (n := 162) C (k) (ly_836 hla) rfl (by omega) dX8_prepare_161 rfl ?_
        refine r_i2l (n := 163) C dX8_prepare_162 rfl ?_
        refine kX8_241 (n := 166) C (m_cut hst (uI Sa 834 z (fI Sa 834 z + 1)) z ad hla (aI (uI Sa 834 z (fI Sa 834 z + 1)) (ad 836) k).toInt64) hla.1 (by decide) (by decide) (Nat.le_of_ble_eq_true rfl) dX8_prepare_163 rfl (fun r S1 hp => ?_)
        obtain ⟨hS, hr⟩ := hp
        subst S1
        subst r
        have hlb : lay (wI (ctS (uI Sa 834 z (fI Sa 834 z + 1)) z (aI (uI Sa 834 z (fI Sa 834 z + 1)) (ad 836) k).toInt64) (ad 825) (24 * rp + k) (ct (aI (uI Sa 834 z (fI Sa 834 z + 1)) (ad 836) k).toInt64)) z ad := ctS_lay (S := (uI Sa 834 z (fI Sa 834 z + 1))) hla
        have hrb : fI (wI (ctS (uI Sa 834 z (fI Sa 834 z + 1)) z (aI (uI Sa 834 z (fI Sa 834 z + 1)) (ad 836) k).toInt64) (ad 825) (24 * rp + k) (ct (aI (uI Sa 834 z (fI Sa 834 z + 1)) (ad 836) k).toInt64)) 824 z = nI rp := (ctS_f (by decide)).trans hra
        refine q_iast (n := 167) C (24 * rp + k) (ly_825 (ctS_lay (S := (uI Sa 834 z (fI Sa 834 z + 1))) hla)) (add_nI (a := (24 * rp)) (b := k) (mul_nI (a := 24) (b := rp) rfl rfl) rfl) (by omega) dX8_prepare_166 rfl ?_
        refine r_aload_n (i := 0) (n := 168) C dX8_prepare_167 rfl rfl rfl ?_
        refine hX8_85 (n := 171) C hlb dX8_prepare_168 rfl ?_
        refine r_bipush (v := 24) (n := 173) C dX8_prepare_171 rfl rfl ?_
        refine r_aload_n (i := 0) (n := 174) C dX8_prepare_173 rfl rfl rfl ?_
        refine gX8_229 (n := 177) C hlb.1 dX8_prepare_174 rfl ?_
        rw [show fI (wI (ctS (uI Sa 834 z (fI Sa 834 z + 1)) z (aI (uI Sa 834 z (fI Sa 834 z + 1)) (ad 836) k).toInt64) (ad 825) (24 * rp + k) (ct (aI (uI Sa 834 z (fI Sa 834 z + 1)) (ad 836) k).toInt64)) 824 z = nI rp from hrb]
        refine r_imul (n := 178) C dX8_prepare_177 rfl ?_
        refine r_iload_n (i := 1) (n := 179) C dX8_prepare_178 rfl rfl rfl ?_
        refine r_iadd (n := 180) C dX8_prepare_179 rfl ?_
        refine r_aload_n (i := 0) (n := 181) C dX8_prepare_180 rfl rfl rfl ?_
        refine r_aload_n (i := 0) (n := 182) C dX8_prepare_181 rfl rfl rfl ?_
        refine hX8_114 (n := 185) C hlb dX8_prepare_182 rfl ?_
        refine r_iload_n (i := 1) (n := 186) C dX8_prepare_185 rfl rfl rfl ?_
        refine q_iald (n := 187) C (k) (ly_837 hlb) rfl (by omega) dX8_prepare_186 rfl ?_
        refine r_i2l (n := 188) C dX8_prepare_187 rfl ?_
        refine kX8_241 (n := 191) C (m_cut hst (wI (ctS (uI Sa 834 z (fI Sa 834 z + 1)) z (aI (uI Sa 834 z (fI Sa 834 z + 1)) (ad 836) k).toInt64) (ad 825) (24 * rp + k) (ct (aI (uI Sa 834 z (fI Sa 834 z + 1)) (ad 836) k).toInt64)) z ad hlb (aI (wI (ctS (uI Sa 834 z (fI Sa 834 z + 1)) z (aI (uI Sa 834 z (fI Sa 834 z + 1)) (ad 836) k).toInt64) (ad 825) (24 * rp + k) (ct (aI (uI Sa 834 z (fI Sa 834 z + 1)) (ad 836) k).toInt64)) (ad 837) k).toInt64) hlb.1 (by decide) (by decide) (Nat.le_of_ble_eq_true rfl) dX8_prepare_188 rfl (fun r S1 hp => ?_)
        obtain ⟨hS, hr⟩ := hp
        subst S1
        subst r
        refine q_iast (n := 192) C (24 * rp + k) (ly_826 (ctS_lay (S := (wI (ctS (uI Sa 834 z (fI Sa 834 z + 1)) z (aI (uI Sa 834 z (fI Sa 834 z + 1)) (ad 836) k).toInt64) (ad 825) (24 * rp + k) (ct (aI (uI Sa 834 z (fI Sa 834 z + 1)) (ad 836) k).toInt64))) hlb)) (add_nI (a := (24 * rp)) (b := k) (mul_nI (a := 24) (b := rp) rfl rfl) rfl) (by omega) dX8_prepare_191 rfl ?_
        refine r_iinc (n := 195) C dX8_prepare_192 rfl rfl (by decide) rfl rfl ?_
        refine r_goto (t := 114) C dX8_prepare_195 (by decide) ?_
        rw [hfr]
        exact J.to (by rw [show nI k + Int32.ofInt 1 = nI (k + 1) from nI_1 k]; rfl) (ih (k + 1) (by omega))
      refine r_iload_n (i := 1) (n := 115) C dX8_prepare_114 rfl rfl rfl ?_
      refine r_bipush (v := 24) (n := 117) C dX8_prepare_115 rfl rfl ?_
      refine r_icmp_geF (n := 120) (t := 198) C (cnle (a := 24) (b := k) rfl rfl (by omega) (by omega)) dX8_prepare_117 (by decide) rfl ?_
      refine r_aload_n (i := 0) (n := 121) C dX8_prepare_120 rfl rfl rfl ?_
      refine gX8_103 (n := 124) C hlm.1 dX8_prepare_121 rfl ?_
      refine r_if_eq (n := 127) (t := 132) C dX8_prepare_124 (by decide) rfl (fun h124 => ?_) (fun h124 => ?_)
      · first | exact J.to rfl (h132 _ (if_pos h124).symm) | exact J.to rfl (h132 _ (if_neg h124).symm)
      · refine r_aload_n (i := 0) (n := 128) C dX8_prepare_127 rfl rfl rfl ?_
        refine r_iload_n (i := 1) (n := 129) C dX8_prepare_128 rfl rfl rfl ?_
        refine kX8_238 (n := 132) C (m_limitFrame hst (mFrs (X 6) z ad rp k) z ad hlm k (by omega)) hlm.1 (by decide) (by decide) (Nat.le_of_ble_eq_true rfl) dX8_prepare_129 rfl (fun r S1 hp => ?_)
        subst hp
        first | exact J.to rfl (h132 _ (if_pos h124).symm) | exact J.to rfl (h132 _ (if_neg h124).symm)
  have lp2 : ∀ (q k : Nat), k + q = 6 → J p l e rmX8_prepare s m args below meth c 3 G b (vx_MQ below (Qp G b mI (fun r S' => S' = (uI (mFrs (X 6) z ad rp 24) 824 z (fI (mFrs (X 6) z ad rp 24) 824 z + 1)) ∧ r = 1)) (XCp G b S (fun _ => False)) args s rmX8_prepare.cells rmX8_prepare.slots (Ab b)) 45 [(0, .ref z), (1, .int (nI k))] [] (X k) 0 0 := by
    intro q
    induction q with
    | zero =>
      intro k hk
      obtain rfl : k = 6 := by omega
      refine r_iload_n (i := 1) (n := 46) C dX8_prepare_45 rfl rfl rfl ?_
      refine r_bipush (v := 6) (n := 48) C dX8_prepare_46 rfl rfl ?_
      refine r_icmp_geT (t := 112) C (cle (a := 6) (b := 6) rfl rfl (by omega) (by omega)) dX8_prepare_48 (by decide) ?_
      refine r_iconst (v := 0) (n := 113) C dX8_prepare_112 rfl rfl ?_
      refine r_istore_n (i := 1) (n := 114) C dX8_prepare_113 rfl (by decide) rfl rfl ?_
      exact J.to rfl (lp3 24 0 (by omega))
    | succ q ih =>
      intro k hk
      obtain ⟨hk0, hk1, hk2⟩ := hX k (by omega)
      rcases hk2 with ⟨h1, h2⟩ | ⟨h1, h2, h3⟩ | ⟨h2, h3, S1, gv, hgv, hl1, hr1, h1⟩
      · skip
        refine r_iload_n (i := 1) (n := 46) C dX8_prepare_45 rfl rfl rfl ?_
        refine r_bipush (v := 6) (n := 48) C dX8_prepare_46 rfl rfl ?_
        refine r_icmp_geF (n := 51) (t := 112) C (cnle (a := 6) (b := k) rfl rfl (by omega) (by omega)) dX8_prepare_48 (by decide) rfl ?_
        refine r_iconst (v := 0) (n := 52) C dX8_prepare_51 rfl rfl ?_
        refine r_istore_n (i := 2) (n := 53) C dX8_prepare_52 rfl (by decide) rfl rfl ?_
        refine r_aload_n (i := 0) (n := 54) C dX8_prepare_53 rfl rfl rfl ?_
        refine hX8_13 (n := 57) C hk0 dX8_prepare_54 rfl ?_
        refine r_iload_n (i := 1) (n := 58) C dX8_prepare_57 rfl rfl rfl ?_
        refine q_zald (n := 59) C (k) (ly_802 hk0) rfl (by omega) dX8_prepare_58 rfl ?_
        refine r_if_eqT (t := 82) C h2 dX8_prepare_59 (by decide) ?_
        refine r_aload_n (i := 0) (n := 83) C dX8_prepare_82 rfl rfl rfl ?_
        refine hX8_88 (n := 86) C hk0 dX8_prepare_83 rfl ?_
        refine r_bipush (v := 6) (n := 88) C dX8_prepare_86 rfl rfl ?_
        refine r_aload_n (i := 0) (n := 89) C dX8_prepare_88 rfl rfl rfl ?_
        refine gX8_229 (n := 92) C hk0.1 dX8_prepare_89 rfl ?_
        rw [hk1]
        refine r_imul (n := 93) C dX8_prepare_92 rfl ?_
        refine r_iload_n (i := 1) (n := 94) C dX8_prepare_93 rfl rfl rfl ?_
        refine r_iadd (n := 95) C dX8_prepare_94 rfl ?_
        refine r_iload_n (i := 2) (n := 96) C dX8_prepare_95 rfl rfl rfl ?_
        refine r_if_eqT (t := 104) C (ceq (a := 0) (b := 0) rfl rfl (by omega)) dX8_prepare_96 (by decide) ?_
        refine r_iconst (v := 0) (n := 105) C dX8_prepare_104 rfl rfl ?_
        refine q_iast (n := 106) C (((6 * rp) + k)) (ly_827 hk0) (add_nI (a := (6 * rp)) (b := k) (mul_nI (a := 6) (b := rp) rfl rfl) rfl) (by omega) dX8_prepare_105 rfl ?_
        refine r_iinc (n := 109) C dX8_prepare_106 rfl rfl (by decide) rfl rfl ?_
        refine r_goto (t := 45) C dX8_prepare_109 (by decide) ?_
        rw [← h1]
        exact J.to (by rw [show nI k + Int32.ofInt 1 = nI (k + 1) from nI_1 k]; rfl) (ih (k + 1) (by omega))
      · skip
        refine r_iload_n (i := 1) (n := 46) C dX8_prepare_45 rfl rfl rfl ?_
        refine r_bipush (v := 6) (n := 48) C dX8_prepare_46 rfl rfl ?_
        refine r_icmp_geF (n := 51) (t := 112) C (cnle (a := 6) (b := k) rfl rfl (by omega) (by omega)) dX8_prepare_48 (by decide) rfl ?_
        refine r_iconst (v := 0) (n := 52) C dX8_prepare_51 rfl rfl ?_
        refine r_istore_n (i := 2) (n := 53) C dX8_prepare_52 rfl (by decide) rfl rfl ?_
        refine r_aload_n (i := 0) (n := 54) C dX8_prepare_53 rfl rfl rfl ?_
        refine hX8_13 (n := 57) C hk0 dX8_prepare_54 rfl ?_
        refine r_iload_n (i := 1) (n := 58) C dX8_prepare_57 rfl rfl rfl ?_
        refine q_zald (n := 59) C (k) (ly_802 hk0) rfl (by omega) dX8_prepare_58 rfl ?_
        refine r_if_eqF (n := 62) (t := 82) C h2 dX8_prepare_59 (by decide) rfl ?_
        refine r_aload_n (i := 0) (n := 63) C dX8_prepare_62 rfl rfl rfl ?_
        refine hX8_17 (n := 66) C hk0 dX8_prepare_63 rfl ?_
        refine r_iload_n (i := 1) (n := 67) C dX8_prepare_66 rfl rfl rfl ?_
        refine q_zald (n := 68) C (k) (ly_803 hk0) rfl (by omega) dX8_prepare_67 rfl ?_
        refine r_if_eqT (t := 82) C h3 dX8_prepare_68 (by decide) ?_
        refine r_aload_n (i := 0) (n := 83) C dX8_prepare_82 rfl rfl rfl ?_
        refine hX8_88 (n := 86) C hk0 dX8_prepare_83 rfl ?_
        refine r_bipush (v := 6) (n := 88) C dX8_prepare_86 rfl rfl ?_
        refine r_aload_n (i := 0) (n := 89) C dX8_prepare_88 rfl rfl rfl ?_
        refine gX8_229 (n := 92) C hk0.1 dX8_prepare_89 rfl ?_
        rw [hk1]
        refine r_imul (n := 93) C dX8_prepare_92 rfl ?_
        refine r_iload_n (i := 1) (n := 94) C dX8_prepare_93 rfl rfl rfl ?_
        refine r_iadd (n := 95) C dX8_prepare_94 rfl ?_
        refine r_iload_n (i := 2) (n := 96) C dX8_prepare_95 rfl rfl rfl ?_
        refine r_if_eqT (t := 104) C (ceq (a := 0) (b := 0) rfl rfl (by omega)) dX8_prepare_96 (by decide) ?_
        refine r_iconst (v := 0) (n := 105) C dX8_prepare_104 rfl rfl ?_
        refine q_iast (n := 106) C (((6 * rp) + k)) (ly_827 hk0) (add_nI (a := (6 * rp)) (b := k) (mul_nI (a := 6) (b := rp) rfl rfl) rfl) (by omega) dX8_prepare_105 rfl ?_
        refine r_iinc (n := 109) C dX8_prepare_106 rfl rfl (by decide) rfl rfl ?_
        refine r_goto (t := 45) C dX8_prepare_109 (by decide) ?_
        rw [← h1]
        exact J.to (by rw [show nI k + Int32.ofInt 1 = nI (k + 1) from nI_1 k]; rfl) (ih (k + 1) (by omega))
      · skip
        refine r_iload_n (i := 1) (n := 46) C dX8_prepare_45 rfl rfl rfl ?_
        refine r_bipush (v := 6) (n := 48) C dX8_prepare_46 rfl rfl ?_
        refine r_icmp_geF (n := 51) (t := 112) C (cnle (a := 6) (b := k) rfl rfl (by omega) (by omega)) dX8_prepare_48 (by decide) rfl ?_
        refine r_iconst (v := 0) (n := 52) C dX8_prepare_51 rfl rfl ?_
        refine r_istore_n (i := 2) (n := 53) C dX8_prepare_52 rfl (by decide) rfl rfl ?_
        refine r_aload_n (i := 0) (n := 54) C dX8_prepare_53 rfl rfl rfl ?_
        refine hX8_13 (n := 57) C hk0 dX8_prepare_54 rfl ?_
        refine r_iload_n (i := 1) (n := 58) C dX8_prepare_57 rfl rfl rfl ?_
        refine q_zald (n := 59) C (k) (ly_802 hk0) rfl (by omega) dX8_prepare_58 rfl ?_
        refine r_if_eqF (n := 62) (t := 82) C h2 dX8_prepare_59 (by decide) rfl ?_
        refine r_aload_n (i := 0) (n := 63) C dX8_prepare_62 rfl rfl rfl ?_
        refine hX8_17 (n := 66) C hk0 dX8_prepare_63 rfl ?_
        refine r_iload_n (i := 1) (n := 67) C dX8_prepare_66 rfl rfl rfl ?_
        refine q_zald (n := 68) C (k) (ly_803 hk0) rfl (by omega) dX8_prepare_67 rfl ?_
        refine r_if_eqF (n := 71) (t := 82) C h3 dX8_prepare_68 (by decide) rfl ?_
        refine r_aload_n (i := 0) (n := 72) C dX8_prepare_71 rfl rfl rfl ?_
        refine r_iload_n (i := 1) (n := 73) C dX8_prepare_72 rfl rfl rfl ?_
        refine kX8_232 (n := 76) C (hgv) hk0.1 (by decide) (by decide) (Nat.le_of_ble_eq_true rfl) dX8_prepare_73 rfl (fun r2 S2 hq => ?_)
        obtain ⟨hq1, hq2⟩ := hq
        subst S2
        subst r2
        refine r_istore_n (i := 2) (n := 77) C dX8_prepare_76 rfl (by decide) rfl rfl ?_
        refine r_aload_n (i := 0) (n := 78) C dX8_prepare_77 rfl rfl rfl ?_
        refine r_iload_n (i := 1) (n := 79) C dX8_prepare_78 rfl rfl rfl ?_
        refine kX8_235 (n := 82) C (m_mix hst S1 z ad hl1 k (by omega)) hl1.1 (by decide) (by decide) (Nat.le_of_ble_eq_true rfl) dX8_prepare_79 rfl (fun r2 S2 hq => ?_)
        subst hq
        by_cases hg : gv = 0
        · skip
          refine r_aload_n (i := 0) (n := 83) C dX8_prepare_82 rfl rfl rfl ?_
          refine hX8_88 (n := 86) C hl1 dX8_prepare_83 rfl ?_
          refine r_bipush (v := 6) (n := 88) C dX8_prepare_86 rfl rfl ?_
          refine r_aload_n (i := 0) (n := 89) C dX8_prepare_88 rfl rfl rfl ?_
          refine gX8_229 (n := 92) C hl1.1 dX8_prepare_89 rfl ?_
          rw [show fI (mMix S1 ad k) 824 z = nI rp from hr1]
          refine r_imul (n := 93) C dX8_prepare_92 rfl ?_
          refine r_iload_n (i := 1) (n := 94) C dX8_prepare_93 rfl rfl rfl ?_
          refine r_iadd (n := 95) C dX8_prepare_94 rfl ?_
          refine r_iload_n (i := 2) (n := 96) C dX8_prepare_95 rfl rfl rfl ?_
          refine r_if_eqT (t := 104) C hg dX8_prepare_96 (by decide) ?_
          refine r_iconst (v := 0) (n := 105) C dX8_prepare_104 rfl rfl ?_
          refine q_iast (n := 106) C (((6 * rp) + k)) (ly_827 hl1) (add_nI (a := (6 * rp)) (b := k) (mul_nI (a := 6) (b := rp) rfl rfl) rfl) (by omega) dX8_prepare_105 rfl ?_
          refine r_iinc (n := 109) C dX8_prepare_106 rfl rfl (by decide) rfl rfl ?_
          refine r_goto (t := 45) C dX8_prepare_109 (by decide) ?_
          rw [if_pos hg] at h1
          rw [← h1]
          exact J.to (by rw [show nI k + Int32.ofInt 1 = nI (k + 1) from nI_1 k]; rfl) (ih (k + 1) (by omega))
        · skip
          refine r_aload_n (i := 0) (n := 83) C dX8_prepare_82 rfl rfl rfl ?_
          refine hX8_88 (n := 86) C hl1 dX8_prepare_83 rfl ?_
          refine r_bipush (v := 6) (n := 88) C dX8_prepare_86 rfl rfl ?_
          refine r_aload_n (i := 0) (n := 89) C dX8_prepare_88 rfl rfl rfl ?_
          refine gX8_229 (n := 92) C hl1.1 dX8_prepare_89 rfl ?_
          rw [show fI (mMix S1 ad k) 824 z = nI rp from hr1]
          refine r_imul (n := 93) C dX8_prepare_92 rfl ?_
          refine r_iload_n (i := 1) (n := 94) C dX8_prepare_93 rfl rfl rfl ?_
          refine r_iadd (n := 95) C dX8_prepare_94 rfl ?_
          refine r_iload_n (i := 2) (n := 96) C dX8_prepare_95 rfl rfl rfl ?_
          refine r_if_eqF (n := 99) (t := 104) C hg dX8_prepare_96 (by decide) rfl ?_
          refine r_bipush (v := 24) (n := 101) C dX8_prepare_99 rfl rfl ?_
          refine r_goto (t := 105) C dX8_prepare_101 (by decide) ?_
          refine q_iast (n := 106) C (((6 * rp) + k)) (ly_827 hl1) (add_nI (a := (6 * rp)) (b := k) (mul_nI (a := 6) (b := rp) rfl rfl) rfl) (by omega) dX8_prepare_105 rfl ?_
          refine r_iinc (n := 109) C dX8_prepare_106 rfl rfl (by decide) rfl rfl ?_
          refine r_goto (t := 45) C dX8_prepare_109 (by decide) ?_
          rw [if_neg hg] at h1
          rw [← h1]
          exact J.to (by rw [show nI k + Int32.ofInt 1 = nI (k + 1) from nI_1 k]; rfl) (ih (k + 1) (by omega))
  have lp1 : ∀ (q k : Nat), k + q = 24 → J p l e rmX8_prepare s m args below meth c 3 G b (vx_MQ below (Qp G b mI (fun r S' => S' = (uI (mFrs (X 6) z ad rp 24) 824 z (fI (mFrs (X 6) z ad rp 24) 824 z + 1)) ∧ r = 1)) (XCp G b S (fun _ => False)) args s rmX8_prepare.cells rmX8_prepare.slots (Ab b)) 17 [(0, .ref z), (1, .int (nI k))] [] (T2 (uI S 800 z 0) (ad 836) (ad 837) (pw (fun _ => 0) (aI S (ad 836)) k) (pw (fun _ => 0) (aI S (ad 837)) k)) 0 0 := by
    intro q
    induction q with
    | zero =>
      intro k hk
      obtain rfl : k = 24 := by omega
      refine r_iload_n (i := 1) (n := 18) C dX8_prepare_17 rfl rfl rfl ?_
      refine r_bipush (v := 24) (n := 20) C dX8_prepare_18 rfl rfl ?_
      refine r_icmp_geT (t := 43) C (cle (a := 24) (b := 24) rfl rfl (by omega) (by omega)) dX8_prepare_20 (by decide) ?_
      refine r_iconst (v := 0) (n := 44) C dX8_prepare_43 rfl rfl ?_
      refine r_istore_n (i := 1) (n := 45) C dX8_prepare_44 rfl (by decide) rfl rfl ?_
      have e2 := lp2 6 0 (by omega)
      rw [← hX0] at e2
      exact J.to rfl e2
    | succ q ih =>
      intro k hk
      refine r_iload_n (i := 1) (n := 18) C dX8_prepare_17 rfl rfl rfl ?_
      refine r_bipush (v := 24) (n := 20) C dX8_prepare_18 rfl rfl ?_
      refine r_icmp_geF (n := 23) (t := 43) C (cnle (a := 24) (b := k) rfl rfl (by omega) (by omega)) dX8_prepare_20 (by decide) rfl ?_
      refine r_aload_n (i := 0) (n := 24) C dX8_prepare_23 rfl rfl rfl ?_
      refine hX8_111 (n := 27) C hm dX8_prepare_24 rfl ?_
      refine r_iload_n (i := 1) (n := 28) C dX8_prepare_27 rfl rfl rfl ?_
      refine r_iconst (v := 0) (n := 29) C dX8_prepare_28 rfl rfl ?_
      refine q_iast (n := 30) C (k) (ly_836 hm) rfl (by omega) dX8_prepare_29 rfl ?_
      refine r_aload_n (i := 0) (n := 31) C dX8_prepare_30 rfl rfl rfl ?_
      refine hX8_114 (n := 34) C hm dX8_prepare_31 rfl ?_
      refine r_iload_n (i := 1) (n := 35) C dX8_prepare_34 rfl rfl rfl ?_
      refine r_iconst (v := 0) (n := 36) C dX8_prepare_35 rfl rfl ?_
      refine q_iast (n := 37) C (k) (ly_837 hm) rfl (by omega) dX8_prepare_36 rfl ?_
      refine r_iinc (n := 40) C dX8_prepare_37 rfl rfl (by decide) rfl rfl ?_
      refine r_goto (t := 17) C dX8_prepare_40 (by decide) ?_
      rw [T2_a hba, T2_b, show sr (pw (fun _ => 0) (aI S (ad 836)) k) k 0 = _ from pw_s _ _ _, show sr (pw (fun _ => 0) (aI S (ad 837)) k) k 0 = _ from pw_s _ _ _]
      exact J.to (by rw [show nI k + Int32.ofInt 1 = nI (k + 1) from nI_1 k]; rfl) (ih (k + 1) (by omega))
  have e0 := lp1 24 0 (by omega)
  rw [pw_0, pw_0, show T2 (uI S 800 z 0) (ad 836) (ad 837) (aI S (ad 836)) (aI S (ad 837)) = uI S 800 z 0 from T2_self (S := uI S 800 z 0) hba] at e0
  exact J.to rfl e0
