section
variable {p : Program} {l : Launch} {e : Env} {R : Room} {s : State} {m : MethodId} {args : Array Value} {below : List Frame} {meth : Method} {c : Code} {cc : ByteArray} {nL : Nat} {own : String} {ret : Option FieldType} {G : GG} {b : Nat} {Q : State → Prop} {pc : Nat} {lv : List (Nat × Value)} {st : List Value} {S : Sw} {cells slots : Nat}
theorem r_instNull (C : Cx p l s m args meth c cc nL own ret G b) {n index : Nat} (d : decode cc pc = .ok (.instanceof index, 3)) (hn : pc + 3 = n)
    (kk : J p l e R s m args below meth c nL G b Q n lv (.int 0 :: st) S cells slots) : J p l e R s m args below meth c nL G b Q pc lv (.null :: st) S cells slots := fun ls H locs h1 h2 h3 => by
  subst hn
  exact lv_instN C.1 C.2.1 d (kk ls H locs h1 h2 h3)
theorem r_aload_nN (C : Cx p l s m args meth c cc nL own ret G b) {n : Nat} {z : Fin 4} {i : Nat} (d : decode cc pc = .ok (.aload_n z, 1)) (hi : (z : Nat) = i) (hl : lv.lookup i = some .null) (hn : pc + 1 = n) (k : J p l e R s m args below meth c nL G b Q n lv (.null :: st) S cells slots) : J p l e R s m args below meth c nL G b Q pc lv st S cells slots := fun ls H locs h1 h2 h3 => by subst hn; exact lv_aload_nN C.1 C.2.1 d hi (lk_at h1 hl) (k ls H locs h1 h2 h3)
theorem r_aloadN (C : Cx p l s m args meth c cc nL own ret G b) {n : Nat} {i : Nat} (d : decode cc pc = .ok (.aload i, 2)) (hl : lv.lookup i = some .null) (hn : pc + 2 = n) (k : J p l e R s m args below meth c nL G b Q n lv (.null :: st) S cells slots) : J p l e R s m args below meth c nL G b Q pc lv st S cells slots := fun ls H locs h1 h2 h3 => by subst hn; exact lv_aloadN C.1 C.2.1 d (lk_at h1 hl) (k ls H locs h1 h2 h3)
theorem r_astore_nN (C : Cx p l s m args meth c cc nL own ret G b) {n : Nat} {z : Fin 4} {i : Nat} {lv' : List (Nat × Value)} (d : decode cc pc = .ok (.astore_n z, 1)) (hi : (z : Nat) = i) (hb : i < nL) (hl : st1 lv i .null = lv') (hn : pc + 1 = n) (k : J p l e R s m args below meth c nL G b Q n lv' st S cells slots) : J p l e R s m args below meth c nL G b Q pc lv (.null :: st) S cells slots := fun ls H locs h1 h2 h3 => by subst hn; exact lv_astore_nN C.1 C.2.1 d hi h1 hb hl (fun ls' h1 => k ls' H locs h1 h2 h3)
theorem r_astoreN (C : Cx p l s m args meth c cc nL own ret G b) {n : Nat} {i : Nat} {lv' : List (Nat × Value)} (d : decode cc pc = .ok (.astore i, 2)) (hb : i < nL) (hl : st1 lv i .null = lv') (hn : pc + 2 = n) (k : J p l e R s m args below meth c nL G b Q n lv' st S cells slots) : J p l e R s m args below meth c nL G b Q pc lv (.null :: st) S cells slots := fun ls H locs h1 h2 h3 => by subst hn; exact lv_astoreN C.1 C.2.1 d h1 hb hl (fun ls' h1 => k ls' H locs h1 h2 h3)
end
def kN (S : Sw) (a cl gv sm : Nat) : Prop := sK S a = 7 ∧ fR S 702 a = some cl ∧ isC S cl 6 ∧ fR S 709 a = some gv ∧ isI S gv 48 ∧ fR S 710 a = some sm ∧ isI S sm 48
def cps (l : Launch) (G : GG) (b a cl gv sm sl : Nat) (S S' : Sw) (k : Nat) : Prop := kN S a cl gv sm ∧ ((aR S cl k = none ∧ S' = S) ∨ (∃ x, aR S cl k = some x ∧ sK S x = 4 ∧ S' = S) ∨ (∃ x T, aR S cl k = some x ∧ sK S x = 5 ∧ Ct l G b yX5_give cX5_give 4 none rmX5_give mV [.ref x, .ref gv, .int (nI sl)] S (fun _ T' => T' = T) ∧ kN T a cl gv sm ∧ sK T x = 5 ∧ Ct l G b yX5_addLoud cX5_addLoud 4 none rmX5_addLoud mV [.ref x, .ref gv, .ref sm] T (fun _ T' => T' = S')))
set_option maxRecDepth 100000 in
set_option maxHeartbeats 1000000 in
theorem c_prepare_f {l : Launch} {G : GG} {b : Nat} (hst : l.stackTraces = false) (S : Sw) (a : Nat) (hk : sK S a = 7) (hrp : ¬ fI S 705 a < 4) : Ct l G b yX7_prepare cX7_prepare 5 (some .boolean) rmX7_prepare mI [.ref a] S (fun r S' => S' = S ∧ r = 0) := by
  refine Ct.of2 pnX7 (own := RX7) rfl (Nat.le_of_ble_eq_true rfl) hst ?_
  intro p e s m args below meth c C hname
  change J p l e rmX7_prepare s m args below meth c 5 G b _ 0 [(0, .ref a)] [] S 0 0
  refine r_aload_n (i := 0) (n := 1) C dX7_prepare_0 rfl rfl rfl ?_
  refine gX7_38 (n := 4) C (by first | with_reducible assumption | (simp only [sK_uI, sK_uJ, sK_uR, sK_wI, sK_wR, sK_wD, sK_wJ, sK_wIs, aN_uI, aN_uJ, aN_uR, aN_wI, aN_wR, aN_wD, aN_wJ, aN_wIs, fR_uI, fR_uJ, fR_wI, fR_wR, fR_wD, fR_wJ, fR_wIs, isI_uI, isI_uJ, isI_wI, isI_wR, isI_wD, isI_wJ, isI_wIs, isC_uI, isC_uJ, isC_wI, isC_wR, isC_wD, isC_wJ, isC_wIs, isG_uI, isG_uJ, isG_wI, isG_wR, isG_wD, isG_wJ, isG_wIs, isZ_uI, isZ_uJ, isZ_wI, isZ_wR, isZ_wD, isZ_wJ, isZ_wIs, isD_uI, isD_uJ, isD_wI, isD_wR, isD_wD, isD_wJ, isD_wIs, isL_uI, isL_uJ, isL_wI, isL_wR, isL_wD, isL_wJ, isL_wIs]; with_reducible assumption)) dX7_prepare_1 rfl ?_
  refine r_iconst (v := 4) (n := 5) C dX7_prepare_4 rfl rfl ?_
  refine r_icmp_ltF (n := 8) (t := 10) C hrp dX7_prepare_5 (by decide) rfl ?_
  refine r_iconst (v := 0) (n := 9) C dX7_prepare_8 rfl rfl ?_
  refine t_i C rfl dX7_prepare_9 (by decide) ?_
  exact ⟨rfl, rfl⟩
set_option maxRecDepth 100000 in
set_option maxHeartbeats 1000000 in
theorem c_prepare_y {l : Launch} {G : GG} {b : Nat} (hst : l.stackTraces = false) (S : Sw) (a cl gv sm : Nat) (hN : kN S a cl gv sm) (o0 rp : Nat) (ho : fI S 704 a = nI o0) (hrp : fI S 705 a = nI rp) (ho4 : o0 < 4) (hrp4 : rp < 4) (X : Nat → Sw) (hX0 : wIs S sm (pw (fun _ => 0) (aI S sm) 48) = X 0) (hX : ∀ k, k < 6 → cps l G b a cl gv sm ((o0 + rp) % 4) (X k) (X (k + 1)) k) (h6 : kN (X 6) a cl gv sm) (lm : Nat) (hlm : fR (X 6) 701 a = some lm) (hkl : sK (X 6) lm = 3) (rdy rw_ : Nat) (hrd : fR (X 6) 703 a = some rdy) (hig : isG (X 6) rdy 4) (hrw : aR (X 6) rdy ((o0 + rp) % 4) = some rw_) (hiw : isI (X 6) rw_ 48) : Ct l G b yX7_prepare cX7_prepare 5 (some .boolean) rmX7_prepare mI [.ref a] S (fun r S' => S' = uI (lmK (X 6) lm sm rw_ 24) 705 a (fI (lmK (X 6) lm sm rw_ 24) 705 a + 1) ∧ r = 1) := by
  refine Ct.of2 pnX7 (own := RX7) rfl (Nat.le_of_ble_eq_true rfl) hst ?_
  intro p e s m args below meth c C hname
  change J p l e rmX7_prepare s m args below meth c 5 G b _ 0 [(0, .ref a)] [] S 0 0
  refine r_aload_n (i := 0) (n := 1) C dX7_prepare_0 rfl rfl rfl ?_
  refine gX7_38 (n := 4) C hN.1 dX7_prepare_1 rfl ?_
  refine r_iconst (v := 4) (n := 5) C dX7_prepare_4 rfl rfl ?_
  refine r_icmp_ltT (t := 10) C (by rw [hrp]; exact clt (a := rp) (b := 4) rfl rfl hrp4 (by omega)) dX7_prepare_5 (by decide) ?_
  refine r_aload_n (i := 0) (n := 11) C dX7_prepare_10 rfl rfl rfl ?_
  refine gX7_34 (n := 14) C hN.1 dX7_prepare_11 rfl ?_
  rw [ho]
  refine r_aload_n (i := 0) (n := 15) C dX7_prepare_14 rfl rfl rfl ?_
  refine gX7_38 (n := 18) C hN.1 dX7_prepare_15 rfl ?_
  rw [hrp]
  refine r_iadd (n := 19) C dX7_prepare_18 rfl ?_
  refine kX7_144 (n := 22) C (c_X7_slotOf hst S (nI o0 + nI rp)) (by decide) (by decide) (Nat.le_of_ble_eq_true rfl) dX7_prepare_19 rfl (fun r S1 hp => ?_)
  obtain ⟨hS9, hr9⟩ := hp
  subst S1
  subst r
  rw [show nI o0 + nI rp = nI (o0 + rp) from add_nI rfl rfl, jFm_s (by omega)]
  refine r_istore_n (i := 1) (n := 23) C dX7_prepare_22 rfl (by decide) rfl rfl ?_
  refine r_aload_n (i := 0) (n := 24) C dX7_prepare_23 rfl rfl rfl ?_
  refine gX7_54 (n := 27) C hN.1 hN.2.2.2.2.2.1 dX7_prepare_24 rfl ?_
  refine r_iconst (v := 0) (n := 28) C dX7_prepare_27 rfl rfl ?_
  refine kX7_148 (n := 31) C (c_fill hst S sm 48 hN.2.2.2.2.2.2 0) (by decide) (by decide) (Nat.le_of_ble_eq_true rfl) dX7_prepare_28 rfl (fun r S1 hp => ?_)
  rw [hX0] at hp
  subst hp
  refine r_iconst (v := 0) (n := 32) C dX7_prepare_31 rfl rfl ?_
  refine r_istore_n (i := 2) (n := 33) C dX7_prepare_32 rfl (by decide) rfl rfl ?_
  have lp : ∀ (q k : Nat), k + q = 6 → J p l e rmX7_prepare s m args below meth c 5 G b (vx_MQ below (Qp G b mI (fun r S' => S' = uI (lmK (X 6) lm sm rw_ 24) 705 a (fI (lmK (X 6) lm sm rw_ 24) 705 a + 1) ∧ r = 1)) (XCp G b S (fun _ => False)) args s rmX7_prepare.cells rmX7_prepare.slots (Ab b)) 33 [(0, .ref a), (1, .int (nI ((o0 + rp) % 4))), (2, .int (nI k))] [] (X k) 0 0 := by
    intro q
    induction q with
    | zero =>
      intro k hk9
      obtain rfl : k = 6 := by omega
      refine r_iload_n (i := 2) (n := 34) C dX7_prepare_33 rfl rfl rfl ?_
      refine r_bipush (v := 6) (n := 36) C dX7_prepare_34 rfl rfl ?_
      refine r_icmp_geT (t := 88) C (cle (a := 6) (b := 6) rfl rfl (by omega) (by omega)) dX7_prepare_36 (by decide) ?_
      refine r_aload_n (i := 0) (n := 89) C dX7_prepare_88 rfl rfl rfl ?_
      refine gX7_19 (n := 92) C h6.1 hlm dX7_prepare_89 rfl ?_
      refine r_aload_n (i := 0) (n := 93) C dX7_prepare_92 rfl rfl rfl ?_
      refine gX7_54 (n := 96) C h6.1 h6.2.2.2.2.2.1 dX7_prepare_93 rfl ?_
      refine r_aload_n (i := 0) (n := 97) C dX7_prepare_96 rfl rfl rfl ?_
      refine gX7_31 (n := 100) C h6.1 hrd dX7_prepare_97 rfl ?_
      refine r_iload_n (i := 1) (n := 101) C dX7_prepare_100 rfl rfl rfl ?_
      refine r_aaldI (n := 102) (j := (o0 + rp) % 4) (x := rw_) C hig.1 rfl (by rw [hig.2.1]; omega) (by rw [hig.2.1]; decide) hrw dX7_prepare_101 rfl ?_
      refine kX7_161 (n := 105) C (c_make hst (X 6) lm hkl sm rw_ h6.2.2.2.2.2.2 hiw) hkl (by decide) (by decide) (Nat.le_of_ble_eq_true rfl) dX7_prepare_102 rfl (fun r S1 hp => ?_)
      subst hp
      refine r_aload_n (i := 0) (n := 106) C dX7_prepare_105 rfl rfl rfl ?_
      refine r_dup (n := 107) C dX7_prepare_106 rfl rfl ?_
      refine gX7_38 (n := 110) C (lmK_k.trans h6.1) dX7_prepare_107 rfl ?_
      refine r_iconst (v := 1) (n := 111) C dX7_prepare_110 rfl rfl ?_
      refine r_iadd (n := 112) C dX7_prepare_111 rfl ?_
      refine sX7_38 (n := 115) C (lmK_k.trans h6.1) dX7_prepare_112 rfl ?_
      refine r_iconst (v := 1) (n := 116) C dX7_prepare_115 rfl rfl ?_
      refine t_i C rfl dX7_prepare_116 (by decide) ?_
      exact ⟨rfl, rfl⟩
    | succ q ih =>
      intro k hk9
      obtain ⟨hN9, hs9⟩ := hX k (by omega)
      rcases hs9 with ⟨hn, he⟩ | ⟨x, hx, hkx, he⟩ | ⟨x, T, hx, hkx, hG, hNT, hkT, hA⟩
      · skip
        refine r_iload_n (i := 2) (n := 34) C dX7_prepare_33 rfl rfl rfl ?_
        refine r_bipush (v := 6) (n := 36) C dX7_prepare_34 rfl rfl ?_
        refine r_icmp_geF (n := 39) (t := 88) C (cnle (a := 6) (b := k) rfl rfl (by omega) (by omega)) dX7_prepare_36 (by decide) rfl ?_
        refine r_aload_n (i := 0) (n := 40) C dX7_prepare_39 rfl rfl rfl ?_
        refine gX7_25 (n := 43) C hN9.1 hN9.2.1 dX7_prepare_40 rfl ?_
        refine r_iload_n (i := 2) (n := 44) C dX7_prepare_43 rfl rfl rfl ?_
        refine r_aaldC (n := 45) (j := k) (v := .null) C hN9.2.2.1.1 rfl (by rw [hN9.2.2.1.2.1]; omega) (by rw [hN9.2.2.1.2.1]; decide) (by rw [hn]; rfl) dX7_prepare_44 rfl ?_
        refine r_astoreN (n := 47) C dX7_prepare_45 (by decide) rfl rfl ?_
        refine r_aloadN (n := 49) C dX7_prepare_47 rfl rfl ?_
        refine r_instNull (n := 52) C dX7_prepare_49 rfl ?_
        refine r_if_eqT (t := 82) C rfl dX7_prepare_52 (by decide) ?_
        refine r_iinc (n := 85) C dX7_prepare_82 rfl rfl (by decide) rfl rfl ?_
        refine r_goto (t := 33) C dX7_prepare_85 (by decide) ?_
        rw [← he]
        exact J.to (by rw [show nI k + Int32.ofInt 1 = nI (k + 1) from nI_1 k]; rfl) (ih (k + 1) (by omega))
      · skip
        refine r_iload_n (i := 2) (n := 34) C dX7_prepare_33 rfl rfl rfl ?_
        refine r_bipush (v := 6) (n := 36) C dX7_prepare_34 rfl rfl ?_
        refine r_icmp_geF (n := 39) (t := 88) C (cnle (a := 6) (b := k) rfl rfl (by omega) (by omega)) dX7_prepare_36 (by decide) rfl ?_
        refine r_aload_n (i := 0) (n := 40) C dX7_prepare_39 rfl rfl rfl ?_
        refine gX7_25 (n := 43) C hN9.1 hN9.2.1 dX7_prepare_40 rfl ?_
        refine r_iload_n (i := 2) (n := 44) C dX7_prepare_43 rfl rfl rfl ?_
        refine r_aaldC (n := 45) (j := k) (v := .ref x) C hN9.2.2.1.1 rfl (by rw [hN9.2.2.1.2.1]; omega) (by rw [hN9.2.2.1.2.1]; decide) (by rw [hx]; rfl) dX7_prepare_44 rfl ?_
        refine r_astore (n := 47) C dX7_prepare_45 (by decide) rfl rfl ?_
        refine r_aload (n := 49) C dX7_prepare_47 rfl rfl ?_
        refine r_instNo (n := 52) (q := (RX4, TX4, 10)) (nm := RX5) C (mem_tb (mem_tbl 119 (by decide +kernel)) (by decide +kernel)) (by decide) (by rw [hkx]; decide) (ent_4 hkx) rfl dX7_prepare_49 rfl ?_
        refine r_if_eqT (t := 82) C rfl dX7_prepare_52 (by decide) ?_
        refine r_iinc (n := 85) C dX7_prepare_82 rfl rfl (by decide) rfl rfl ?_
        refine r_goto (t := 33) C dX7_prepare_85 (by decide) ?_
        rw [← he]
        exact J.to (by rw [show nI k + Int32.ofInt 1 = nI (k + 1) from nI_1 k]; rfl) (ih (k + 1) (by omega))
      · skip
        refine r_iload_n (i := 2) (n := 34) C dX7_prepare_33 rfl rfl rfl ?_
        refine r_bipush (v := 6) (n := 36) C dX7_prepare_34 rfl rfl ?_
        refine r_icmp_geF (n := 39) (t := 88) C (cnle (a := 6) (b := k) rfl rfl (by omega) (by omega)) dX7_prepare_36 (by decide) rfl ?_
        refine r_aload_n (i := 0) (n := 40) C dX7_prepare_39 rfl rfl rfl ?_
        refine gX7_25 (n := 43) C hN9.1 hN9.2.1 dX7_prepare_40 rfl ?_
        refine r_iload_n (i := 2) (n := 44) C dX7_prepare_43 rfl rfl rfl ?_
        refine r_aaldC (n := 45) (j := k) (v := .ref x) C hN9.2.2.1.1 rfl (by rw [hN9.2.2.1.2.1]; omega) (by rw [hN9.2.2.1.2.1]; decide) (by rw [hx]; rfl) dX7_prepare_44 rfl ?_
        refine r_astore (n := 47) C dX7_prepare_45 (by decide) rfl rfl ?_
        refine r_aload (n := 49) C dX7_prepare_47 rfl rfl ?_
        refine r_instY (n := 52) (q := (RX5, TX5, 15)) C (mem_tb (mem_tbl 119 (by decide +kernel)) (by decide +kernel)) (mem_bw (mem_tbl 1083 (by decide +kernel)) rfl) (by rw [hkx]; decide) (ent_5 hkx) rfl dX7_prepare_49 rfl ?_
        refine r_if_eqF (n := 55) (t := 82) C (by decide) dX7_prepare_52 (by decide) rfl ?_
        refine r_aload (n := 57) C dX7_prepare_55 rfl rfl ?_
        refine r_castY (n := 60) (q := (RX5, TX5, 15)) C (mem_tb (mem_tbl 119 (by decide +kernel)) (by decide +kernel)) (mem_bw (mem_tbl 1083 (by decide +kernel)) rfl) (by rw [hkx]; decide) (ent_5 hkx) rfl dX7_prepare_57 rfl ?_
        refine r_astore_n (i := 3) (n := 61) C dX7_prepare_60 rfl (by decide) rfl rfl ?_
        refine r_aload_n (i := 3) (n := 62) C dX7_prepare_61 rfl rfl rfl ?_
        refine r_aload_n (i := 0) (n := 63) C dX7_prepare_62 rfl rfl rfl ?_
        refine gX7_51 (n := 66) C hN9.1 hN9.2.2.2.1 dX7_prepare_63 rfl ?_
        refine r_iload_n (i := 1) (n := 67) C dX7_prepare_66 rfl rfl rfl ?_
        refine kX7_154 (n := 70) C (hG) hkx (by decide) (by decide) (Nat.le_of_ble_eq_true rfl) dX7_prepare_67 rfl (fun r S1 hp => ?_)
        subst hp
        refine r_aload_n (i := 3) (n := 71) C dX7_prepare_70 rfl rfl rfl ?_
        refine r_aload_n (i := 0) (n := 72) C dX7_prepare_71 rfl rfl rfl ?_
        refine gX7_51 (n := 75) C hNT.1 hNT.2.2.2.1 dX7_prepare_72 rfl ?_
        refine r_aload_n (i := 0) (n := 76) C dX7_prepare_75 rfl rfl rfl ?_
        refine gX7_54 (n := 79) C hNT.1 hNT.2.2.2.2.2.1 dX7_prepare_76 rfl ?_
        refine kX7_157 (n := 82) C (hA) hkT (by decide) (by decide) (Nat.le_of_ble_eq_true rfl) dX7_prepare_79 rfl (fun r S1 hp => ?_)
        subst hp
        refine r_iinc (n := 85) C dX7_prepare_82 rfl rfl (by decide) rfl rfl ?_
        refine r_goto (t := 33) C dX7_prepare_85 (by decide) ?_
        exact J.to (by rw [show nI k + Int32.ofInt 1 = nI (k + 1) from nI_1 k]; rfl) (ih (k + 1) (by omega))
  exact J.to rfl (lp 6 0 (by omega))
def kM (S : Sw) (a cl o0 : Nat) : Prop := sK S a = 7 ∧ fR S 702 a = some cl ∧ isC S cl 6 ∧ fI S 704 a = nI o0
def ops (l : Launch) (G : GG) (b a cl o0 : Nat) (S S' : Sw) (k : Nat) : Prop := kM S a cl o0 ∧ ((aR S cl k = none ∧ S' = S) ∨ (∃ x, aR S cl k = some x ∧ sK S x = 4 ∧ S' = S) ∨ (∃ x, aR S cl k = some x ∧ sK S x = 5 ∧ Ct l G b yX5_markHeard cX5_markHeard 2 none rmX5_markHeard mV [.ref x, .int (nI o0)] S (fun _ T' => T' = S')))
def cpy (S : Sw) (rw_ pw_ : Nat) : Sw := wIs S pw_ (fun i => if i < 48 then aI S rw_ i else aI S pw_ i)
set_option maxRecDepth 100000 in
set_option maxHeartbeats 1000000 in
theorem c_playOldest {l : Launch} {G : GG} {b : Nat} (hst : l.stackTraces = false) (S : Sw) (a cl o0 : Nat) (hM : kM S a cl o0) (ho4 : o0 < 4) (rdy rw_ : Nat) (hrd : fR S 703 a = some rdy) (hig : isG S rdy 4) (hrw : aR S rdy o0 = some rw_) (hiw : isI S rw_ 48) (pst np pw_ : Nat) (hps : fR S 706 a = some pst) (hig2 : isG S pst 4) (hnp : fI S 707 a = nI np) (hn4 : np < 4) (hpw : aR S pst np = some pw_) (hip : isI S pw_ 48) (X : Nat → Sw) (hX0 : cpy S rw_ pw_ = X 0) (hX : ∀ k, k < 6 → ops l G b a cl o0 (X k) (X (k + 1)) k) (h6 : kM (X 6) a cl o0) : Ct l G b yX7_playOldest cX7_playOldest 4 none rmX7_playOldest mV [.ref a] S (fun _ S' => S' = uI (uI (X 6) 704 a (nI ((o0 + 1) % 4))) 705 a (fI (X 6) 705 a - 1)) := by
  refine Ct.of2 pnX7 (own := RX7) rfl (Nat.le_of_ble_eq_true rfl) hst ?_
  intro p e s m args below meth c C hname
  change J p l e rmX7_playOldest s m args below meth c 4 G b _ 0 [(0, .ref a)] [] S 0 0
  refine r_aload_n (i := 0) (n := 1) C dX7_playOldest_0 rfl rfl rfl ?_
  refine gX7_31 (n := 4) C hM.1 hrd dX7_playOldest_1 rfl ?_
  refine r_aload_n (i := 0) (n := 5) C dX7_playOldest_4 rfl rfl rfl ?_
  refine gX7_34 (n := 8) C hM.1 dX7_playOldest_5 rfl ?_
  rw [hM.2.2.2]
  refine r_aaldI (n := 9) (j := o0) (x := rw_) C hig.1 rfl (by rw [hig.2.1]; omega) (by rw [hig.2.1]; decide) hrw dX7_playOldest_8 rfl ?_
  refine r_iconst (v := 0) (n := 10) C dX7_playOldest_9 rfl rfl ?_
  refine r_aload_n (i := 0) (n := 11) C dX7_playOldest_10 rfl rfl rfl ?_
  refine gX7_41 (n := 14) C hM.1 hps dX7_playOldest_11 rfl ?_
  refine r_aload_n (i := 0) (n := 15) C dX7_playOldest_14 rfl rfl rfl ?_
  refine gX7_44 (n := 18) C hM.1 dX7_playOldest_15 rfl ?_
  rw [hnp]
  refine r_aaldI (n := 19) (j := np) (x := pw_) C hig2.1 rfl (by rw [hig2.2.1]; omega) (by rw [hig2.2.1]; decide) hpw dX7_playOldest_18 rfl ?_
  refine r_iconst (v := 0) (n := 20) C dX7_playOldest_19 rfl rfl ?_
  refine r_bipush (v := 48) (n := 22) C dX7_playOldest_20 rfl rfl ?_
  refine r_copy (n := 25) (k := 48) C kX7_220_w hiw.1 hip.1 rfl (by omega) (Nat.le_of_eq hiw.2.1.symm) hip.2.1.symm (by decide) dX7_playOldest_22 rfl ?_
  rw [show wIs S pw_ (fun i => if i < 48 then aI S rw_ i else aI S pw_ i) = X 0 from hX0]
  refine r_iconst (v := 0) (n := 26) C dX7_playOldest_25 rfl rfl ?_
  refine r_istore_n (i := 1) (n := 27) C dX7_playOldest_26 rfl (by decide) rfl rfl ?_
  have lp : ∀ (q k : Nat), k + q = 6 → J p l e rmX7_playOldest s m args below meth c 4 G b (vx_MQ below (Qp G b mV (fun _ S' => S' = uI (uI (X 6) 704 a (nI ((o0 + 1) % 4))) 705 a (fI (X 6) 705 a - 1))) (XCp G b S (fun _ => False)) args s rmX7_playOldest.cells rmX7_playOldest.slots (Ab b)) 27 [(0, .ref a), (1, .int (nI k))] [] (X k) 0 0 := by
    intro q
    induction q with
    | zero =>
      intro k hk9
      obtain rfl : k = 6 := by omega
      refine r_iload_n (i := 1) (n := 28) C dX7_playOldest_27 rfl rfl rfl ?_
      refine r_bipush (v := 6) (n := 30) C dX7_playOldest_28 rfl rfl ?_
      refine r_icmp_geT (t := 66) C (cle (a := 6) (b := 6) rfl rfl (by omega) (by omega)) dX7_playOldest_30 (by decide) ?_
      refine r_aload_n (i := 0) (n := 67) C dX7_playOldest_66 rfl rfl rfl ?_
      refine r_aload_n (i := 0) (n := 68) C dX7_playOldest_67 rfl rfl rfl ?_
      refine gX7_34 (n := 71) C h6.1 dX7_playOldest_68 rfl ?_
      rw [h6.2.2.2]
      refine r_iconst (v := 1) (n := 72) C dX7_playOldest_71 rfl rfl ?_
      refine r_iadd (n := 73) C dX7_playOldest_72 rfl ?_
      refine kX7_144 (n := 76) C (c_X7_slotOf hst (X 6) (nI o0 + 1)) (by decide) (by decide) (Nat.le_of_ble_eq_true rfl) dX7_playOldest_73 rfl (fun r S1 hp => ?_)
      obtain ⟨hS9, hr9⟩ := hp
      subst S1
      subst r
      rw [show nI o0 + 1 = nI (o0 + 1) from add_nI (b := 1) rfl rfl, jFm_s (by omega)]
      refine sX7_34 (n := 79) C h6.1 dX7_playOldest_76 rfl ?_
      refine r_aload_n (i := 0) (n := 80) C dX7_playOldest_79 rfl rfl rfl ?_
      refine r_dup (n := 81) C dX7_playOldest_80 rfl rfl ?_
      refine gX7_38 (n := 84) C h6.1 dX7_playOldest_81 rfl ?_
      rw [show fI (uI (X 6) 704 a (nI ((o0 + 1) % 4))) 705 a = fI (X 6) 705 a from uI_fn (by decide)]
      refine r_iconst (v := 1) (n := 85) C dX7_playOldest_84 rfl rfl ?_
      refine r_isub (n := 86) C dX7_playOldest_85 rfl ?_
      refine sX7_38 (n := 89) C h6.1 dX7_playOldest_86 rfl ?_
      refine t_v C dX7_playOldest_89 (by decide) ?_
      rfl
    | succ q ih =>
      intro k hk9
      obtain ⟨hN9, hs9⟩ := hX k (by omega)
      rcases hs9 with ⟨hn, he⟩ | ⟨x, hx, hkx, he⟩ | ⟨x, hx, hkx, hG⟩
      · skip
        refine r_iload_n (i := 1) (n := 28) C dX7_playOldest_27 rfl rfl rfl ?_
        refine r_bipush (v := 6) (n := 30) C dX7_playOldest_28 rfl rfl ?_
        refine r_icmp_geF (n := 33) (t := 66) C (cnle (a := 6) (b := k) rfl rfl (by omega) (by omega)) dX7_playOldest_30 (by decide) rfl ?_
        refine r_aload_n (i := 0) (n := 34) C dX7_playOldest_33 rfl rfl rfl ?_
        refine gX7_25 (n := 37) C hN9.1 hN9.2.1 dX7_playOldest_34 rfl ?_
        refine r_iload_n (i := 1) (n := 38) C dX7_playOldest_37 rfl rfl rfl ?_
        refine r_aaldC (n := 39) (j := k) (v := .null) C hN9.2.2.1.1 rfl (by rw [hN9.2.2.1.2.1]; omega) (by rw [hN9.2.2.1.2.1]; decide) (by rw [hn]; rfl) dX7_playOldest_38 rfl ?_
        refine r_astore_nN (i := 3) (n := 40) C dX7_playOldest_39 rfl (by decide) rfl rfl ?_
        refine r_aload_nN (i := 3) (n := 41) C dX7_playOldest_40 rfl rfl rfl ?_
        refine r_instNull (n := 44) C dX7_playOldest_41 rfl ?_
        refine r_if_eqT (t := 60) C rfl dX7_playOldest_44 (by decide) ?_
        refine r_iinc (n := 63) C dX7_playOldest_60 rfl rfl (by decide) rfl rfl ?_
        refine r_goto (t := 27) C dX7_playOldest_63 (by decide) ?_
        rw [← he]
        exact J.to (by rw [show nI k + Int32.ofInt 1 = nI (k + 1) from nI_1 k]; rfl) (ih (k + 1) (by omega))
      · skip
        refine r_iload_n (i := 1) (n := 28) C dX7_playOldest_27 rfl rfl rfl ?_
        refine r_bipush (v := 6) (n := 30) C dX7_playOldest_28 rfl rfl ?_
        refine r_icmp_geF (n := 33) (t := 66) C (cnle (a := 6) (b := k) rfl rfl (by omega) (by omega)) dX7_playOldest_30 (by decide) rfl ?_
        refine r_aload_n (i := 0) (n := 34) C dX7_playOldest_33 rfl rfl rfl ?_
        refine gX7_25 (n := 37) C hN9.1 hN9.2.1 dX7_playOldest_34 rfl ?_
        refine r_iload_n (i := 1) (n := 38) C dX7_playOldest_37 rfl rfl rfl ?_
        refine r_aaldC (n := 39) (j := k) (v := .ref x) C hN9.2.2.1.1 rfl (by rw [hN9.2.2.1.2.1]; omega) (by rw [hN9.2.2.1.2.1]; decide) (by rw [hx]; rfl) dX7_playOldest_38 rfl ?_
        refine r_astore_n (i := 3) (n := 40) C dX7_playOldest_39 rfl (by decide) rfl rfl ?_
        refine r_aload_n (i := 3) (n := 41) C dX7_playOldest_40 rfl rfl rfl ?_
        refine r_instNo (n := 44) (q := (RX4, TX4, 10)) (nm := RX5) C (mem_tb (mem_tbl 119 (by decide +kernel)) (by decide +kernel)) (by decide) (by rw [hkx]; decide) (ent_4 hkx) rfl dX7_playOldest_41 rfl ?_
        refine r_if_eqT (t := 60) C rfl dX7_playOldest_44 (by decide) ?_
        refine r_iinc (n := 63) C dX7_playOldest_60 rfl rfl (by decide) rfl rfl ?_
        refine r_goto (t := 27) C dX7_playOldest_63 (by decide) ?_
        rw [← he]
        exact J.to (by rw [show nI k + Int32.ofInt 1 = nI (k + 1) from nI_1 k]; rfl) (ih (k + 1) (by omega))
      · skip
        refine r_iload_n (i := 1) (n := 28) C dX7_playOldest_27 rfl rfl rfl ?_
        refine r_bipush (v := 6) (n := 30) C dX7_playOldest_28 rfl rfl ?_
        refine r_icmp_geF (n := 33) (t := 66) C (cnle (a := 6) (b := k) rfl rfl (by omega) (by omega)) dX7_playOldest_30 (by decide) rfl ?_
        refine r_aload_n (i := 0) (n := 34) C dX7_playOldest_33 rfl rfl rfl ?_
        refine gX7_25 (n := 37) C hN9.1 hN9.2.1 dX7_playOldest_34 rfl ?_
        refine r_iload_n (i := 1) (n := 38) C dX7_playOldest_37 rfl rfl rfl ?_
        refine r_aaldC (n := 39) (j := k) (v := .ref x) C hN9.2.2.1.1 rfl (by rw [hN9.2.2.1.2.1]; omega) (by rw [hN9.2.2.1.2.1]; decide) (by rw [hx]; rfl) dX7_playOldest_38 rfl ?_
        refine r_astore_n (i := 3) (n := 40) C dX7_playOldest_39 rfl (by decide) rfl rfl ?_
        refine r_aload_n (i := 3) (n := 41) C dX7_playOldest_40 rfl rfl rfl ?_
        refine r_instY (n := 44) (q := (RX5, TX5, 15)) C (mem_tb (mem_tbl 119 (by decide +kernel)) (by decide +kernel)) (mem_bw (mem_tbl 1083 (by decide +kernel)) rfl) (by rw [hkx]; decide) (ent_5 hkx) rfl dX7_playOldest_41 rfl ?_
        refine r_if_eqF (n := 47) (t := 60) C (by decide) dX7_playOldest_44 (by decide) rfl ?_
        refine r_aload_n (i := 3) (n := 48) C dX7_playOldest_47 rfl rfl rfl ?_
        refine r_castY (n := 51) (q := (RX5, TX5, 15)) C (mem_tb (mem_tbl 119 (by decide +kernel)) (by decide +kernel)) (mem_bw (mem_tbl 1083 (by decide +kernel)) rfl) (by rw [hkx]; decide) (ent_5 hkx) rfl dX7_playOldest_48 rfl ?_
        refine r_astore_n (i := 2) (n := 52) C dX7_playOldest_51 rfl (by decide) rfl rfl ?_
        refine r_aload_n (i := 2) (n := 53) C dX7_playOldest_52 rfl rfl rfl ?_
        refine r_aload_n (i := 0) (n := 54) C dX7_playOldest_53 rfl rfl rfl ?_
        refine gX7_34 (n := 57) C hN9.1 dX7_playOldest_54 rfl ?_
        rw [hN9.2.2.2]
        refine kX7_226 (n := 60) C (hG) hkx (by decide) (by decide) (Nat.le_of_ble_eq_true rfl) dX7_playOldest_57 rfl (fun r S1 hp => ?_)
        subst hp
        refine r_iinc (n := 63) C dX7_playOldest_60 rfl rfl (by decide) rfl rfl ?_
        refine r_goto (t := 27) C dX7_playOldest_63 (by decide) ?_
        exact J.to (by rw [show nI k + Int32.ofInt 1 = nI (k + 1) from nI_1 k]; rfl) (ih (k + 1) (by omega))
  exact J.to rfl (lp 6 0 (by omega))
def kI (S : Sw) (a cl inc : Nat) : Prop := sK S a = 7 ∧ fR S 702 a = some cl ∧ isC S cl 6 ∧ fR S 708 a = some inc ∧ isI S inc 48
def ics (l : Launch) (G : GG) (b a cl inc : Nat) (S S' : Sw) (k : Nat) : Prop := kI S a cl inc ∧ ((aR S cl k = none ∧ S' = S) ∨ (∃ x, aR S cl k = some x ∧ sK S x = 5 ∧ S' = S) ∨ (∃ x, aR S cl k = some x ∧ sK S x = 4 ∧ ¬ fI S 2 x = 1 ∧ S' = S) ∨ (∃ x, aR S cl k = some x ∧ sK S x = 4 ∧ fI S 2 x = 1 ∧ Ct l G b yX4_capture cX4_capture 3 none rmX4_capture mV [.ref x, .ref inc] S (fun _ T' => T' = S')))
set_option maxRecDepth 100000 in
set_option maxHeartbeats 1000000 in
theorem c_captureIncoming {l : Launch} {G : GG} {b : Nat} (hst : l.stackTraces = false) (S : Sw) (a cl inc : Nat) (X : Nat → Sw) (hX0 : X 0 = S) (hX : ∀ k, k < 6 → ics l G b a cl inc (X k) (X (k + 1)) k) (h6 : kI (X 6) a cl inc) : Ct l G b yX7_captureIncoming cX7_captureIncoming 4 none rmX7_captureIncoming mV [.ref a] S (fun _ S' => S' = wIs (X 6) inc (pw (fun _ => 0) (aI (X 6) inc) 48)) := by
  refine Ct.of2 pnX7 (own := RX7) rfl (Nat.le_of_ble_eq_true rfl) hst ?_
  intro p e s m args below meth c C hname
  change J p l e rmX7_captureIncoming s m args below meth c 4 G b _ 0 [(0, .ref a)] [] S 0 0
  refine r_iconst (v := 0) (n := 1) C dX7_captureIncoming_0 rfl rfl ?_
  refine r_istore_n (i := 1) (n := 2) C dX7_captureIncoming_1 rfl (by decide) rfl rfl ?_
  have lp : ∀ (q k : Nat), k + q = 6 → J p l e rmX7_captureIncoming s m args below meth c 4 G b (vx_MQ below (Qp G b mV (fun _ S' => S' = wIs (X 6) inc (pw (fun _ => 0) (aI (X 6) inc) 48))) (XCp G b S (fun _ => False)) args s rmX7_captureIncoming.cells rmX7_captureIncoming.slots (Ab b)) 2 [(0, .ref a), (1, .int (nI k))] [] (X k) 0 0 := by
    intro q
    induction q with
    | zero =>
      intro k hk9
      obtain rfl : k = 6 := by omega
      refine r_iload_n (i := 1) (n := 3) C dX7_captureIncoming_2 rfl rfl rfl ?_
      refine r_bipush (v := 6) (n := 5) C dX7_captureIncoming_3 rfl rfl ?_
      refine r_icmp_geT (t := 49) C (cle (a := 6) (b := 6) rfl rfl (by omega) (by omega)) dX7_captureIncoming_5 (by decide) ?_
      refine r_aload_n (i := 0) (n := 50) C dX7_captureIncoming_49 rfl rfl rfl ?_
      refine gX7_47 (n := 53) C h6.1 h6.2.2.2.1 dX7_captureIncoming_50 rfl ?_
      refine r_iconst (v := 0) (n := 54) C dX7_captureIncoming_53 rfl rfl ?_
      refine kX7_148 (n := 57) C (c_fill hst (X 6) inc 48 h6.2.2.2.2 0) (by decide) (by decide) (Nat.le_of_ble_eq_true rfl) dX7_captureIncoming_54 rfl (fun r S1 hp => ?_)
      subst hp
      refine t_v C dX7_captureIncoming_57 (by decide) ?_
      rfl
    | succ q ih =>
      intro k hk9
      obtain ⟨hN9, hs9⟩ := hX k (by omega)
      rcases hs9 with ⟨hn, he⟩ | ⟨x, hx, hkx, he⟩ | ⟨x, hx, hkx, hc1, he⟩ | ⟨x, hx, hkx, hc1, hG⟩
      · skip
        refine r_iload_n (i := 1) (n := 3) C dX7_captureIncoming_2 rfl rfl rfl ?_
        refine r_bipush (v := 6) (n := 5) C dX7_captureIncoming_3 rfl rfl ?_
        refine r_icmp_geF (n := 8) (t := 49) C (cnle (a := 6) (b := k) rfl rfl (by omega) (by omega)) dX7_captureIncoming_5 (by decide) rfl ?_
        refine r_aload_n (i := 0) (n := 9) C dX7_captureIncoming_8 rfl rfl rfl ?_
        refine gX7_25 (n := 12) C hN9.1 hN9.2.1 dX7_captureIncoming_9 rfl ?_
        refine r_iload_n (i := 1) (n := 13) C dX7_captureIncoming_12 rfl rfl rfl ?_
        refine r_aaldC (n := 14) (j := k) (v := .null) C hN9.2.2.1.1 rfl (by rw [hN9.2.2.1.2.1]; omega) (by rw [hN9.2.2.1.2.1]; decide) (by rw [hn]; rfl) dX7_captureIncoming_13 rfl ?_
        refine r_astore_nN (i := 3) (n := 15) C dX7_captureIncoming_14 rfl (by decide) rfl rfl ?_
        refine r_aload_nN (i := 3) (n := 16) C dX7_captureIncoming_15 rfl rfl rfl ?_
        refine r_instNull (n := 19) C dX7_captureIncoming_16 rfl ?_
        refine r_if_eqT (t := 43) C rfl dX7_captureIncoming_19 (by decide) ?_
        refine r_iinc (n := 46) C dX7_captureIncoming_43 rfl rfl (by decide) rfl rfl ?_
        refine r_goto (t := 2) C dX7_captureIncoming_46 (by decide) ?_
        rw [← he]
        exact J.to (by rw [show nI k + Int32.ofInt 1 = nI (k + 1) from nI_1 k]; rfl) (ih (k + 1) (by omega))
      · skip
        refine r_iload_n (i := 1) (n := 3) C dX7_captureIncoming_2 rfl rfl rfl ?_
        refine r_bipush (v := 6) (n := 5) C dX7_captureIncoming_3 rfl rfl ?_
        refine r_icmp_geF (n := 8) (t := 49) C (cnle (a := 6) (b := k) rfl rfl (by omega) (by omega)) dX7_captureIncoming_5 (by decide) rfl ?_
        refine r_aload_n (i := 0) (n := 9) C dX7_captureIncoming_8 rfl rfl rfl ?_
        refine gX7_25 (n := 12) C hN9.1 hN9.2.1 dX7_captureIncoming_9 rfl ?_
        refine r_iload_n (i := 1) (n := 13) C dX7_captureIncoming_12 rfl rfl rfl ?_
        refine r_aaldC (n := 14) (j := k) (v := .ref x) C hN9.2.2.1.1 rfl (by rw [hN9.2.2.1.2.1]; omega) (by rw [hN9.2.2.1.2.1]; decide) (by rw [hx]; rfl) dX7_captureIncoming_13 rfl ?_
        refine r_astore_n (i := 3) (n := 15) C dX7_captureIncoming_14 rfl (by decide) rfl rfl ?_
        refine r_aload_n (i := 3) (n := 16) C dX7_captureIncoming_15 rfl rfl rfl ?_
        refine r_instNo (n := 19) (q := (RX5, TX5, 15)) (nm := RX4) C (mem_tb (mem_tbl 242 (by decide +kernel)) (by decide +kernel)) (by decide) (by rw [hkx]; decide) (ent_5 hkx) rfl dX7_captureIncoming_16 rfl ?_
        refine r_if_eqT (t := 43) C rfl dX7_captureIncoming_19 (by decide) ?_
        refine r_iinc (n := 46) C dX7_captureIncoming_43 rfl rfl (by decide) rfl rfl ?_
        refine r_goto (t := 2) C dX7_captureIncoming_46 (by decide) ?_
        rw [← he]
        exact J.to (by rw [show nI k + Int32.ofInt 1 = nI (k + 1) from nI_1 k]; rfl) (ih (k + 1) (by omega))
      · skip
        refine r_iload_n (i := 1) (n := 3) C dX7_captureIncoming_2 rfl rfl rfl ?_
        refine r_bipush (v := 6) (n := 5) C dX7_captureIncoming_3 rfl rfl ?_
        refine r_icmp_geF (n := 8) (t := 49) C (cnle (a := 6) (b := k) rfl rfl (by omega) (by omega)) dX7_captureIncoming_5 (by decide) rfl ?_
        refine r_aload_n (i := 0) (n := 9) C dX7_captureIncoming_8 rfl rfl rfl ?_
        refine gX7_25 (n := 12) C hN9.1 hN9.2.1 dX7_captureIncoming_9 rfl ?_
        refine r_iload_n (i := 1) (n := 13) C dX7_captureIncoming_12 rfl rfl rfl ?_
        refine r_aaldC (n := 14) (j := k) (v := .ref x) C hN9.2.2.1.1 rfl (by rw [hN9.2.2.1.2.1]; omega) (by rw [hN9.2.2.1.2.1]; decide) (by rw [hx]; rfl) dX7_captureIncoming_13 rfl ?_
        refine r_astore_n (i := 3) (n := 15) C dX7_captureIncoming_14 rfl (by decide) rfl rfl ?_
        refine r_aload_n (i := 3) (n := 16) C dX7_captureIncoming_15 rfl rfl rfl ?_
        refine r_instY (n := 19) (q := (RX4, TX4, 10)) C (mem_tb (mem_tbl 242 (by decide +kernel)) (by decide +kernel)) (mem_bw (mem_tbl 1084 (by decide +kernel)) rfl) (by rw [hkx]; decide) (ent_4 hkx) rfl dX7_captureIncoming_16 rfl ?_
        refine r_if_eqF (n := 22) (t := 43) C (by decide) dX7_captureIncoming_19 (by decide) rfl ?_
        refine r_aload_n (i := 3) (n := 23) C dX7_captureIncoming_22 rfl rfl rfl ?_
        refine r_castY (n := 26) (q := (RX4, TX4, 10)) C (mem_tb (mem_tbl 242 (by decide +kernel)) (by decide +kernel)) (mem_bw (mem_tbl 1084 (by decide +kernel)) rfl) (by rw [hkx]; decide) (ent_4 hkx) rfl dX7_captureIncoming_23 rfl ?_
        refine r_astore_n (i := 2) (n := 27) C dX7_captureIncoming_26 rfl (by decide) rfl rfl ?_
        refine r_aload_n (i := 2) (n := 28) C dX7_captureIncoming_27 rfl rfl rfl ?_
        refine gX7_230 (n := 31) C (by first | with_reducible assumption | (simp only [sK_uI, sK_uJ, sK_uR, sK_wI, sK_wR, sK_wD, sK_wJ, sK_wIs, aN_uI, aN_uJ, aN_uR, aN_wI, aN_wR, aN_wD, aN_wJ, aN_wIs, fR_uI, fR_uJ, fR_wI, fR_wR, fR_wD, fR_wJ, fR_wIs, isI_uI, isI_uJ, isI_wI, isI_wR, isI_wD, isI_wJ, isI_wIs, isC_uI, isC_uJ, isC_wI, isC_wR, isC_wD, isC_wJ, isC_wIs, isG_uI, isG_uJ, isG_wI, isG_wR, isG_wD, isG_wJ, isG_wIs, isZ_uI, isZ_uJ, isZ_wI, isZ_wR, isZ_wD, isZ_wJ, isZ_wIs, isD_uI, isD_uJ, isD_wI, isD_wR, isD_wD, isD_wJ, isD_wIs, isL_uI, isL_uJ, isL_wI, isL_wR, isL_wD, isL_wJ, isL_wIs]; with_reducible assumption)) dX7_captureIncoming_28 rfl ?_
        refine r_iconst (v := 1) (n := 32) C dX7_captureIncoming_31 rfl rfl ?_
        refine r_icmp_neT (t := 43) C hc1 dX7_captureIncoming_32 (by decide) ?_
        refine r_iinc (n := 46) C dX7_captureIncoming_43 rfl rfl (by decide) rfl rfl ?_
        refine r_goto (t := 2) C dX7_captureIncoming_46 (by decide) ?_
        rw [← he]
        exact J.to (by rw [show nI k + Int32.ofInt 1 = nI (k + 1) from nI_1 k]; rfl) (ih (k + 1) (by omega))
      · skip
        refine r_iload_n (i := 1) (n := 3) C dX7_captureIncoming_2 rfl rfl rfl ?_
        refine r_bipush (v := 6) (n := 5) C dX7_captureIncoming_3 rfl rfl ?_
        refine r_icmp_geF (n := 8) (t := 49) C (cnle (a := 6) (b := k) rfl rfl (by omega) (by omega)) dX7_captureIncoming_5 (by decide) rfl ?_
        refine r_aload_n (i := 0) (n := 9) C dX7_captureIncoming_8 rfl rfl rfl ?_
        refine gX7_25 (n := 12) C hN9.1 hN9.2.1 dX7_captureIncoming_9 rfl ?_
        refine r_iload_n (i := 1) (n := 13) C dX7_captureIncoming_12 rfl rfl rfl ?_
        refine r_aaldC (n := 14) (j := k) (v := .ref x) C hN9.2.2.1.1 rfl (by rw [hN9.2.2.1.2.1]; omega) (by rw [hN9.2.2.1.2.1]; decide) (by rw [hx]; rfl) dX7_captureIncoming_13 rfl ?_
        refine r_astore_n (i := 3) (n := 15) C dX7_captureIncoming_14 rfl (by decide) rfl rfl ?_
        refine r_aload_n (i := 3) (n := 16) C dX7_captureIncoming_15 rfl rfl rfl ?_
        refine r_instY (n := 19) (q := (RX4, TX4, 10)) C (mem_tb (mem_tbl 242 (by decide +kernel)) (by decide +kernel)) (mem_bw (mem_tbl 1084 (by decide +kernel)) rfl) (by rw [hkx]; decide) (ent_4 hkx) rfl dX7_captureIncoming_16 rfl ?_
        refine r_if_eqF (n := 22) (t := 43) C (by decide) dX7_captureIncoming_19 (by decide) rfl ?_
        refine r_aload_n (i := 3) (n := 23) C dX7_captureIncoming_22 rfl rfl rfl ?_
        refine r_castY (n := 26) (q := (RX4, TX4, 10)) C (mem_tb (mem_tbl 242 (by decide +kernel)) (by decide +kernel)) (mem_bw (mem_tbl 1084 (by decide +kernel)) rfl) (by rw [hkx]; decide) (ent_4 hkx) rfl dX7_captureIncoming_23 rfl ?_
        refine r_astore_n (i := 2) (n := 27) C dX7_captureIncoming_26 rfl (by decide) rfl rfl ?_
        refine r_aload_n (i := 2) (n := 28) C dX7_captureIncoming_27 rfl rfl rfl ?_
        refine gX7_230 (n := 31) C (by first | with_reducible assumption | (simp only [sK_uI, sK_uJ, sK_uR, sK_wI, sK_wR, sK_wD, sK_wJ, sK_wIs, aN_uI, aN_uJ, aN_uR, aN_wI, aN_wR, aN_wD, aN_wJ, aN_wIs, fR_uI, fR_uJ, fR_wI, fR_wR, fR_wD, fR_wJ, fR_wIs, isI_uI, isI_uJ, isI_wI, isI_wR, isI_wD, isI_wJ, isI_wIs, isC_uI, isC_uJ, isC_wI, isC_wR, isC_wD, isC_wJ, isC_wIs, isG_uI, isG_uJ, isG_wI, isG_wR, isG_wD, isG_wJ, isG_wIs, isZ_uI, isZ_uJ, isZ_wI, isZ_wR, isZ_wD, isZ_wJ, isZ_wIs, isD_uI, isD_uJ, isD_wI, isD_wR, isD_wD, isD_wJ, isD_wIs, isL_uI, isL_uJ, isL_wI, isL_wR, isL_wD, isL_wJ, isL_wIs]; with_reducible assumption)) dX7_captureIncoming_28 rfl ?_
        refine r_iconst (v := 1) (n := 32) C dX7_captureIncoming_31 rfl rfl ?_
        refine r_icmp_neF (n := 35) (t := 43) C hc1 dX7_captureIncoming_32 (by decide) rfl ?_
        refine r_aload_n (i := 2) (n := 36) C dX7_captureIncoming_35 rfl rfl rfl ?_
        refine r_aload_n (i := 0) (n := 37) C dX7_captureIncoming_36 rfl rfl rfl ?_
        refine gX7_47 (n := 40) C hN9.1 hN9.2.2.2.1 dX7_captureIncoming_37 rfl ?_
        refine kX7_231 (n := 43) C (hG) hkx (by decide) (by decide) (Nat.le_of_ble_eq_true rfl) dX7_captureIncoming_40 rfl (fun r S1 hp => ?_)
        subst hp
        refine r_iinc (n := 46) C dX7_captureIncoming_43 rfl rfl (by decide) rfl rfl ?_
        refine r_goto (t := 2) C dX7_captureIncoming_46 (by decide) ?_
        exact J.to (by rw [show nI k + Int32.ofInt 1 = nI (k + 1) from nI_1 k]; rfl) (ih (k + 1) (by omega))
  have e0 := lp 6 0 (by omega)
  rw [hX0] at e0
  exact J.to rfl e0
set_option maxRecDepth 100000 in
set_option maxHeartbeats 1000000 in
theorem c_card_1 {l : Launch} {G : GG} {b : Nat} (hst : l.stackTraces = false) (S : Sw) (a : Nat) (hk : sK S a = 7) (np : Nat) (hnp : fI S 707 a = nI np) (hn4 : np < 4) (T1 T2 : Sw) (hk1 : sK T1 a = 7) (hrp : ¬ fI S 705 a ≤ 0) (hP : Ct l G b yX7_playOldest cX7_playOldest 4 none rmX7_playOldest mV [.ref a] (uI S 707 a (nI ((np + 1) % 4))) (fun _ S' => S' = T1)) (hC : Ct l G b yX7_captureIncoming cX7_captureIncoming 4 none rmX7_captureIncoming mV [.ref a] T1 (fun _ S' => S' = T2)) : Ct l G b yX7_card cX7_card 2 (some .boolean) rmX7_card mI [.ref a] S (fun r S' => S' = T2 ∧ r = 1) := by
  refine Ct.of2 pnX7 (own := RX7) rfl (Nat.le_of_ble_eq_true rfl) hst ?_
  intro p e s m args below meth c C hname
  change J p l e rmX7_card s m args below meth c 2 G b _ 0 [(0, .ref a)] [] S 0 0
  refine r_aload_n (i := 0) (n := 1) C dX7_card_0 rfl rfl rfl ?_
  refine gX7_38 (n := 4) C (by first | with_reducible assumption | (simp only [sK_uI, sK_uJ, sK_uR, sK_wI, sK_wR, sK_wD, sK_wJ, sK_wIs, aN_uI, aN_uJ, aN_uR, aN_wI, aN_wR, aN_wD, aN_wJ, aN_wIs, fR_uI, fR_uJ, fR_wI, fR_wR, fR_wD, fR_wJ, fR_wIs, isI_uI, isI_uJ, isI_wI, isI_wR, isI_wD, isI_wJ, isI_wIs, isC_uI, isC_uJ, isC_wI, isC_wR, isC_wD, isC_wJ, isC_wIs, isG_uI, isG_uJ, isG_wI, isG_wR, isG_wD, isG_wJ, isG_wIs, isZ_uI, isZ_uJ, isZ_wI, isZ_wR, isZ_wD, isZ_wJ, isZ_wIs, isD_uI, isD_uJ, isD_wI, isD_wR, isD_wD, isD_wJ, isD_wIs, isL_uI, isL_uJ, isL_wI, isL_wR, isL_wD, isL_wJ, isL_wIs]; with_reducible assumption)) dX7_card_1 rfl ?_
  refine r_if_leF (n := 7) (t := 11) C hrp dX7_card_4 (by decide) rfl ?_
  refine r_iconst (v := 1) (n := 8) C dX7_card_7 rfl rfl ?_
  refine r_goto (t := 12) C dX7_card_8 (by decide) ?_
  refine r_istore_n (i := 1) (n := 13) C dX7_card_12 rfl (by decide) rfl rfl ?_
  refine r_aload_n (i := 0) (n := 14) C dX7_card_13 rfl rfl rfl ?_
  refine r_aload_n (i := 0) (n := 15) C dX7_card_14 rfl rfl rfl ?_
  refine gX7_44 (n := 18) C hk dX7_card_15 rfl ?_
  rw [hnp]
  refine r_iconst (v := 1) (n := 19) C dX7_card_18 rfl rfl ?_
  refine r_iadd (n := 20) C dX7_card_19 rfl ?_
  refine kX7_144 (n := 23) C (c_X7_slotOf hst S (nI np + 1)) (by decide) (by decide) (Nat.le_of_ble_eq_true rfl) dX7_card_20 rfl (fun r S1 hp => ?_)
  obtain ⟨hS9, hr9⟩ := hp
  subst S1
  subst r
  rw [show nI np + 1 = nI (np + 1) from add_nI (b := 1) rfl rfl, jFm_s (by omega)]
  refine sX7_44 (n := 26) C (by first | with_reducible assumption | (simp only [sK_uI, sK_uJ, sK_uR, sK_wI, sK_wR, sK_wD, sK_wJ, sK_wIs, aN_uI, aN_uJ, aN_uR, aN_wI, aN_wR, aN_wD, aN_wJ, aN_wIs, fR_uI, fR_uJ, fR_wI, fR_wR, fR_wD, fR_wJ, fR_wIs, isI_uI, isI_uJ, isI_wI, isI_wR, isI_wD, isI_wJ, isI_wIs, isC_uI, isC_uJ, isC_wI, isC_wR, isC_wD, isC_wJ, isC_wIs, isG_uI, isG_uJ, isG_wI, isG_wR, isG_wD, isG_wJ, isG_wIs, isZ_uI, isZ_uJ, isZ_wI, isZ_wR, isZ_wD, isZ_wJ, isZ_wIs, isD_uI, isD_uJ, isD_wI, isD_wR, isD_wD, isD_wJ, isD_wIs, isL_uI, isL_uJ, isL_wI, isL_wR, isL_wD, isL_wJ, isL_wIs]; with_reducible assumption)) dX7_card_23 rfl ?_
  refine r_iload_n (i := 1) (n := 27) C dX7_card_26 rfl rfl rfl ?_
  refine r_if_eqF (n := 30) (t := 37) C (by decide) dX7_card_27 (by decide) rfl ?_
  refine r_aload_n (i := 0) (n := 31) C dX7_card_30 rfl rfl rfl ?_
  refine kX7_164 (n := 34) C (hP) hk (by decide) (by decide) (Nat.le_of_ble_eq_true rfl) dX7_card_31 rfl (fun r S1 hp => ?_)
  subst hp
  refine r_goto (t := 50) C dX7_card_34 (by decide) ?_
  refine r_aload_n (i := 0) (n := 51) C dX7_card_50 rfl rfl rfl ?_
  refine kX7_167 (n := 54) C (hC) hk1 (by decide) (by decide) (Nat.le_of_ble_eq_true rfl) dX7_card_51 rfl (fun r S1 hp => ?_)
  subst hp
  refine r_iload_n (i := 1) (n := 55) C dX7_card_54 rfl rfl rfl ?_
  refine t_i C rfl dX7_card_55 (by decide) ?_
  exact ⟨rfl, rfl⟩
set_option maxRecDepth 100000 in
set_option maxHeartbeats 1000000 in
theorem c_card_0 {l : Launch} {G : GG} {b : Nat} (hst : l.stackTraces = false) (S : Sw) (a : Nat) (hk : sK S a = 7) (np : Nat) (hnp : fI S 707 a = nI np) (hn4 : np < 4) (T1 T2 : Sw) (hk1 : sK T1 a = 7) (hrp : fI S 705 a ≤ 0) (pst pw_ : Nat) (hps : fR S 706 a = some pst) (hig2 : isG S pst 4) (hpw : aR S pst ((np + 1) % 4) = some pw_) (hip : isI S pw_ 48) (hT1 : T1 = wIs (uI S 707 a (nI ((np + 1) % 4))) pw_ (pw (fun _ => 0) (aI S pw_) 48)) (hC : Ct l G b yX7_captureIncoming cX7_captureIncoming 4 none rmX7_captureIncoming mV [.ref a] T1 (fun _ S' => S' = T2)) : Ct l G b yX7_card cX7_card 2 (some .boolean) rmX7_card mI [.ref a] S (fun r S' => S' = T2 ∧ r = 0) := by
  refine Ct.of2 pnX7 (own := RX7) rfl (Nat.le_of_ble_eq_true rfl) hst ?_
  intro p e s m args below meth c C hname
  change J p l e rmX7_card s m args below meth c 2 G b _ 0 [(0, .ref a)] [] S 0 0
  refine r_aload_n (i := 0) (n := 1) C dX7_card_0 rfl rfl rfl ?_
  refine gX7_38 (n := 4) C (by first | with_reducible assumption | (simp only [sK_uI, sK_uJ, sK_uR, sK_wI, sK_wR, sK_wD, sK_wJ, sK_wIs, aN_uI, aN_uJ, aN_uR, aN_wI, aN_wR, aN_wD, aN_wJ, aN_wIs, fR_uI, fR_uJ, fR_wI, fR_wR, fR_wD, fR_wJ, fR_wIs, isI_uI, isI_uJ, isI_wI, isI_wR, isI_wD, isI_wJ, isI_wIs, isC_uI, isC_uJ, isC_wI, isC_wR, isC_wD, isC_wJ, isC_wIs, isG_uI, isG_uJ, isG_wI, isG_wR, isG_wD, isG_wJ, isG_wIs, isZ_uI, isZ_uJ, isZ_wI, isZ_wR, isZ_wD, isZ_wJ, isZ_wIs, isD_uI, isD_uJ, isD_wI, isD_wR, isD_wD, isD_wJ, isD_wIs, isL_uI, isL_uJ, isL_wI, isL_wR, isL_wD, isL_wJ, isL_wIs]; with_reducible assumption)) dX7_card_1 rfl ?_
  refine r_if_leT (t := 11) C hrp dX7_card_4 (by decide) ?_
  refine r_iconst (v := 0) (n := 12) C dX7_card_11 rfl rfl ?_
  refine r_istore_n (i := 1) (n := 13) C dX7_card_12 rfl (by decide) rfl rfl ?_
  refine r_aload_n (i := 0) (n := 14) C dX7_card_13 rfl rfl rfl ?_
  refine r_aload_n (i := 0) (n := 15) C dX7_card_14 rfl rfl rfl ?_
  refine gX7_44 (n := 18) C hk dX7_card_15 rfl ?_
  rw [hnp]
  refine r_iconst (v := 1) (n := 19) C dX7_card_18 rfl rfl ?_
  refine r_iadd (n := 20) C dX7_card_19 rfl ?_
  refine kX7_144 (n := 23) C (c_X7_slotOf hst S (nI np + 1)) (by decide) (by decide) (Nat.le_of_ble_eq_true rfl) dX7_card_20 rfl (fun r S1 hp => ?_)
  obtain ⟨hS9, hr9⟩ := hp
  subst S1
  subst r
  rw [show nI np + 1 = nI (np + 1) from add_nI (b := 1) rfl rfl, jFm_s (by omega)]
  refine sX7_44 (n := 26) C (by first | with_reducible assumption | (simp only [sK_uI, sK_uJ, sK_uR, sK_wI, sK_wR, sK_wD, sK_wJ, sK_wIs, aN_uI, aN_uJ, aN_uR, aN_wI, aN_wR, aN_wD, aN_wJ, aN_wIs, fR_uI, fR_uJ, fR_wI, fR_wR, fR_wD, fR_wJ, fR_wIs, isI_uI, isI_uJ, isI_wI, isI_wR, isI_wD, isI_wJ, isI_wIs, isC_uI, isC_uJ, isC_wI, isC_wR, isC_wD, isC_wJ, isC_wIs, isG_uI, isG_uJ, isG_wI, isG_wR, isG_wD, isG_wJ, isG_wIs, isZ_uI, isZ_uJ, isZ_wI, isZ_wR, isZ_wD, isZ_wJ, isZ_wIs, isD_uI, isD_uJ, isD_wI, isD_wR, isD_wD, isD_wJ, isD_wIs, isL_uI, isL_uJ, isL_wI, isL_wR, isL_wD, isL_wJ, isL_wIs]; with_reducible assumption)) dX7_card_23 rfl ?_
  refine r_iload_n (i := 1) (n := 27) C dX7_card_26 rfl rfl rfl ?_
  refine r_if_eqT (t := 37) C rfl dX7_card_27 (by decide) ?_
  refine r_aload_n (i := 0) (n := 38) C dX7_card_37 rfl rfl rfl ?_
  refine gX7_41 (n := 41) C hk hps dX7_card_38 rfl ?_
  refine r_aload_n (i := 0) (n := 42) C dX7_card_41 rfl rfl rfl ?_
  refine gX7_44 (n := 45) C hk dX7_card_42 rfl ?_
  rw [show fI (uI S 707 a (nI ((np + 1) % 4))) 707 a = nI ((np + 1) % 4) from uI_fs]
  refine r_aaldI (n := 46) (j := (np + 1) % 4) (x := pw_) C hig2.1 rfl (by show _ < aN S pst; rw [hig2.2.1]; omega) (by show aN S pst < _; rw [hig2.2.1]; decide) hpw dX7_card_45 rfl ?_
  refine r_iconst (v := 0) (n := 47) C dX7_card_46 rfl rfl ?_
  refine kX7_148 (n := 50) C (c_fill hst (uI S 707 a (nI ((np + 1) % 4))) pw_ 48 hip 0) (by decide) (by decide) (Nat.le_of_ble_eq_true rfl) dX7_card_47 rfl (fun r S1 hp => ?_)
  obtain rfl := hp.trans hT1.symm
  refine r_aload_n (i := 0) (n := 51) C dX7_card_50 rfl rfl rfl ?_
  refine kX7_167 (n := 54) C (hC) hk1 (by decide) (by decide) (Nat.le_of_ble_eq_true rfl) dX7_card_51 rfl (fun r S1 hp => ?_)
  subst hp
  refine r_iload_n (i := 1) (n := 55) C dX7_card_54 rfl rfl rfl ?_
  refine t_i C rfl dX7_card_55 (by decide) ?_
  exact ⟨rfl, rfl⟩
