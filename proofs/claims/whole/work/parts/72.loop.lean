/-! ===== the law's loop ===== -/
theorem and31 (a : Int32) : ∃ t, t < 32 ∧ a &&& 31 = nI t := by
  refine ⟨(a &&& 31).toBitVec.toNat, ?_, ?_⟩
  · rw [Int32.toBitVec_and, BitVec.toNat_and]
    have h : (31 : Int32).toBitVec.toNat = 31 := by decide
    rw [h]
    exact Nat.lt_succ_of_le Nat.and_le_right
  · apply Int32.toBitVec_inj.mp
    show _ = BitVec.ofNat 32 _
    rw [BitVec.ofNat_toNat, BitVec.setWidth_eq]
section
variable {p : Program} {l : Launch} {e : Env} {s : State} {m : MethodId} {args : Array Value} {below : List Frame} {meth : Method} {c : Code} {G : GG} {b : Nat} {Q : State → Prop}
set_option maxRecDepth 100000 in
set_option maxHeartbeats 1000000 in
theorem lw_loop (C : Cx p l s m args meth c cL_law 9 RL (some .boolean) G b) (hst : l.stackTraces = false) {bs L : Nat} {xs : Nat → Int32} (hX : va_X bs L xs s s.heap) (hbl : bs < s.heap.size) (hbA : ¬ Ab b bs) (hL : L ≤ 2560) {k z out outD : Nat}
    (fin : ∀ (S : Sw) (lv : List (Nat × Value)) (ce sl : Nat), ce ≤ 601024 → sl ≤ 7293034 → J p l e room_1 s m args below meth c 9 G b Q 1285 lv [] S ce sl) :
    ∀ (n q : Nat) (S : Sw), L ≤ 5 * q + n → 5 * q < L + 5 → Rl S k z out outD q → J p l e room_1 s m args below meth c 9 G b Q 28 [(0, .ref bs), (1, .ref k), (2, .ref z), (3, .ref out), (4, .ref outD), (5, .int (nI (5 * q)))] [] S (100 + 20 * q) (240000 + 1600 * q) := by
  intro n
  induction n with
  | zero =>
    intro q S h1 h2 h
    refine r_iload (n := 30) C dL_law_28 rfl rfl ?_
    refine r_aload_n (i := 0) (n := 31) C dL_law_30 rfl rfl rfl ?_
    refine r_slen (n := 32) C hX hbl hbA dL_law_31 rfl ?_
    refine r_iconst (v := 5) (n := 33) C dL_law_32 rfl rfl ?_
    refine r_isub (n := 34) C dL_law_33 rfl ?_
    refine r_icmp_gtT (t := 1285) C ?_ dL_law_34 (by decide) ?_
    · rw [Int32.lt_iff_toInt_lt, Int32.toInt_sub, nI_toInt (by omega), nI_toInt (by omega), show (5 : Int32).toInt = 5 from rfl, bm32 (by omega) (by omega)]; omega
    · exact fin _ _ _ _ (by omega) (by omega)
  | succ n ih =>
    intro q S h1 h2 h
    refine r_iload (n := 30) C dL_law_28 rfl rfl ?_
    refine r_aload_n (i := 0) (n := 31) C dL_law_30 rfl rfl rfl ?_
    refine r_slen (n := 32) C hX hbl hbA dL_law_31 rfl ?_
    refine r_iconst (v := 5) (n := 33) C dL_law_32 rfl rfl ?_
    refine r_isub (n := 34) C dL_law_33 rfl ?_
    by_cases hlt : 5 * q + 5 ≤ L
    · refine r_icmp_gtF (n := 37) (t := 1285) C ?_ dL_law_34 (by decide) rfl ?_
      · rw [Int32.lt_iff_toInt_lt, Int32.toInt_sub, nI_toInt (by omega), nI_toInt (by omega), show (5 : Int32).toInt = 5 from rfl, bm32 (by omega) (by omega)]; omega
      refine r_aload_n (i := 0) (n := 38) C dL_law_37 rfl rfl rfl ?_
      refine r_iload (n := 40) C dL_law_38 rfl rfl ?_
      refine r_sld (n := 41) C hX hbl hbA hL (5 * q) rfl (by omega) dL_law_40 rfl ?_
      refine r_bipush (v := 31) (n := 43) C dL_law_41 rfl rfl ?_
      refine r_iand (n := 44) C dL_law_43 rfl ?_
      have kk : ∀ S', Rl S' k z out outD (q + 1) → J p l e room_1 s m args below meth c 9 G b Q 1279 [(0, .ref bs), (1, .ref k), (2, .ref z), (3, .ref out), (4, .ref outD), (5, .int (nI (5 * q)))] [] S' (100 + 20 * q + 20) (240000 + 1600 * q + 1600) := by
        intro S' h'
        refine r_iinc (n := 1282) (v := nI (5 * (q + 1))) C dL_law_1279 rfl (by rw [show 5 * (q + 1) = 5 * q + 5 by omega]; exact inc5_nI rfl) (by decide) rfl rfl ?_
        refine r_goto (t := 28) C dL_law_1282 (by decide) ?_
        exact J.to rfl (J.wide (by omega) (by omega) (ih (q + 1) S' (by omega) (by omega) h'))
      obtain ⟨t, ht, et⟩ := and31 (xs (5 * q))
      rw [et]
      have hcs : 100 + 20 * q + 20 ≤ 601024 ∧ 240000 + 1600 * q + 1600 ≤ 7293034 := ⟨by omega, by omega⟩
      have hcases : t = 0 ∨ t = 1 ∨ t = 2 ∨ t = 3 ∨ t = 4 ∨ t = 5 ∨ t = 6 ∨ t = 7 ∨ t = 8 ∨ t = 9 ∨ t = 10 ∨ t = 11 ∨ t = 12 ∨ t = 13 ∨ t = 14 ∨ t = 15 ∨ t = 16 ∨ t = 17 ∨ t = 18 ∨ t = 19 ∨ t = 20 ∨ t = 21 ∨ 22 ≤ t := by omega
      rcases hcases with rfl | rfl | rfl | rfl | rfl | rfl | rfl | rfl | rfl | rfl | rfl | rfl | rfl | rfl | rfl | rfl | rfl | rfl | rfl | rfl | rfl | rfl | hge
      · exact r_swI (off := 104) (tgt := 148) C dL_law_44 (by decide) (by decide) (by decide) (by decide) (lw_c0 C hst hX hbl hbA hL hlt h (by omega) hcs kk)
      · exact r_swI (off := 212) (tgt := 256) C dL_law_44 (by decide) (by decide) (by decide) (by decide) (lw_c1 C hst hX hbl hbA hL hlt h (by omega) hcs kk)
      · exact r_swI (off := 248) (tgt := 292) C dL_law_44 (by decide) (by decide) (by decide) (by decide) (lw_c2 C hst hX hbl hbA hL hlt h (by omega) hcs kk)
      · exact r_swI (off := 306) (tgt := 350) C dL_law_44 (by decide) (by decide) (by decide) (by decide) (lw_c3 C hst hX hbl hbA hL hlt h (by omega) hcs kk)
      · exact r_swI (off := 342) (tgt := 386) C dL_law_44 (by decide) (by decide) (by decide) (by decide) (lw_c4 C hst hX hbl hbA hL hlt h (by omega) hcs kk)
      · exact r_swI (off := 378) (tgt := 422) C dL_law_44 (by decide) (by decide) (by decide) (by decide) (lw_c5 C hst hX hbl hbA hL hlt h (by omega) hcs kk)
      · exact r_swI (off := 414) (tgt := 458) C dL_law_44 (by decide) (by decide) (by decide) (by decide) (lw_c6 C hst hX hbl hbA hL hlt h (by omega) hcs kk)
      · exact r_swI (off := 470) (tgt := 514) C dL_law_44 (by decide) (by decide) (by decide) (by decide) (lw_c7 C hst hX hbl hbA hL hlt h (by omega) hcs kk)
      · exact r_swI (off := 545) (tgt := 589) C dL_law_44 (by decide) (by decide) (by decide) (by decide) (lw_c8 C hst hX hbl hbA hL hlt h (by omega) hcs kk)
      · exact r_swI (off := 601) (tgt := 645) C dL_law_44 (by decide) (by decide) (by decide) (by decide) (lw_c9 C hst hX hbl hbA hL hlt h (by omega) hcs kk)
      · exact r_swI (off := 657) (tgt := 701) C dL_law_44 (by decide) (by decide) (by decide) (by decide) (lw_c10 C hst hX hbl hbA hL hlt h (by omega) hcs kk)
      · exact r_swI (off := 713) (tgt := 757) C dL_law_44 (by decide) (by decide) (by decide) (by decide) (lw_c11 C hst hX hbl hbA hL hlt h (by omega) hcs kk)
      · exact r_swI (off := 726) (tgt := 770) C dL_law_44 (by decide) (by decide) (by decide) (by decide) (lw_c12 C hst hX hbl hbA hL hlt h (by omega) hcs kk)
      · exact r_swI (off := 739) (tgt := 783) C dL_law_44 (by decide) (by decide) (by decide) (by decide) (lw_c13 C hst hX hbl hbA hL hlt h (by omega) hcs kk)
      · exact r_swI (off := 815) (tgt := 859) C dL_law_44 (by decide) (by decide) (by decide) (by decide) (lw_c14 C hst hX hbl hbA hL hlt h (by omega) hcs kk)
      · exact r_swI (off := 911) (tgt := 955) C dL_law_44 (by decide) (by decide) (by decide) (by decide) (lw_c15 C hst hX hbl hbA hL hlt h (by omega) hcs kk)
      · exact r_swI (off := 967) (tgt := 1011) C dL_law_44 (by decide) (by decide) (by decide) (by decide) (lw_c16 C hst hX hbl hbA hL hlt h (by omega) hcs kk)
      · exact r_swI (off := 1023) (tgt := 1067) C dL_law_44 (by decide) (by decide) (by decide) (by decide) (lw_c17 C hst hX hbl hbA hL hlt h (by omega) hcs kk)
      · exact r_swI (off := 1100) (tgt := 1144) C dL_law_44 (by decide) (by decide) (by decide) (by decide) (lw_c18 C hst hX hbl hbA hL hlt h (by omega) hcs kk)
      · exact r_swI (off := 1113) (tgt := 1157) C dL_law_44 (by decide) (by decide) (by decide) (by decide) (lw_c19 C hst hX hbl hbA hL hlt h (by omega) hcs kk)
      · exact r_swI (off := 1154) (tgt := 1198) C dL_law_44 (by decide) (by decide) (by decide) (by decide) (lw_c20 C hst hX hbl hbA hL hlt h (by omega) hcs kk)
      · exact r_swI (off := 1167) (tgt := 1211) C dL_law_44 (by decide) (by decide) (by decide) (by decide) (lw_c21 C hst hX hbl hbA hL hlt h (by omega) hcs kk)
      · refine r_swO (tgt := 1279) C dL_law_44 (Or.inr ?_) (by decide) (J.wide (by omega) (by omega) (kk S (h.idle (by omega))))
        rw [nI_toInt (by omega)]; omega
    · refine r_icmp_gtT (t := 1285) C ?_ dL_law_34 (by decide) ?_
      · rw [Int32.lt_iff_toInt_lt, Int32.toInt_sub, nI_toInt (by omega), nI_toInt (by omega), show (5 : Int32).toInt = 5 from rfl, bm32 (by omega) (by omega)]; omega
      · exact fin _ _ _ _ (by omega) (by omega)
end
