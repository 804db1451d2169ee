def wsm (ph : Nat) : Nat → Int32
  | 0 => 0
  | k + 1 => wsm ph k + mwt (nI ph) (nI k)
def tp0 (ph k : Nat) : Int32 := 16384 * mwt (nI ph) (nI k) / wsm ph 16
def tlk (ph : Nat) : Nat → Int32
  | 0 => 16384
  | k + 1 => tlk ph k - tp0 ph k
def tsm (ph : Nat) : Nat → Int32
  | 0 => 0
  | k + 1 => tsm ph k + tp0 ph k
def mid (ph : Nat) : Nat := if ph ≤ 16 then 7 else 8
def tpC (ph k : Nat) : Int32 := if k = mid ph then tp0 ph k + tlk ph 16 else tp0 ph k
def tbC (p : Nat) (o : Nat → Int32) : Nat → Int32 := fun i => if i < p * 16 then tpC (i / 16) (i % 16) else o i
def tbI (p k : Nat) (o : Nat → Int32) : Nat → Int32 := fun i => if i < p * 16 then tpC (i / 16) (i % 16) else if i < p * 16 + k then tp0 p (i - p * 16) else o i
theorem wsm_pos {p : Nat} (h : p < 32) : ¬ wsm p 16 ≤ 0 := by
  have q : ∀ p : Fin 32, ¬ wsm p.1 16 ≤ 0 := by decide +kernel
  exact q ⟨p, h⟩
theorem wsm_ne {p : Nat} (h : p < 32) : ¬ wsm p 16 = 0 := fun q => wsm_pos h (by rw [q]; exact Int32.le_refl 0)
theorem tlk_eq {p : Nat} (h : p < 32) : tlk p 16 = 16384 - tsm p 16 := by
  have q : ∀ p : Fin 32, tlk p.1 16 = 16384 - tsm p.1 16 := by decide +kernel
  exact q ⟨p, h⟩
theorem tbC_0 {o : Nat → Int32} : tbC 0 o = o := funext (fun i => if_neg (by omega))
theorem tbI_0 {p : Nat} {o : Nat → Int32} : tbI p 0 o = tbC p o := funext (fun i => by
  unfold tbI tbC
  by_cases h : i < p * 16
  · rw [if_pos h, if_pos h]
  · rw [if_neg h, if_neg h, if_neg (by omega)])
theorem tbI_s {p k : Nat} {o : Nat → Int32} : (fun i => if i = p * 16 + k then tp0 p k else tbI p k o i) = tbI p (k + 1) o := funext (fun i => by
  unfold tbI
  by_cases e : i = p * 16 + k
  · rw [if_pos e, if_neg (by omega), if_pos (by omega), e, Nat.add_sub_cancel_left]
  · rw [if_neg e]
    by_cases h : i < p * 16
    · rw [if_pos h, if_pos h]
    · rw [if_neg h, if_neg h]
      by_cases h2 : i < p * 16 + k
      · rw [if_pos h2, if_pos (by omega)]
      · rw [if_neg h2, if_neg (by omega)])
theorem mid_lt (p : Nat) : mid p < 16 := by unfold mid; split <;> omega
theorem tbI_at {p k j : Nat} {o : Nat → Int32} (h : j < k) : tbI p k o (p * 16 + j) = tp0 p j := by
  unfold tbI
  rw [if_neg (by omega), if_pos (by omega), Nat.add_sub_cancel_left]
theorem tbI_e {p : Nat} {o : Nat → Int32} {v : Int32} (hv : v = tp0 p (mid p) + tlk p 16) : (fun i => if i = p * 16 + mid p then v else tbI p 16 o i) = tbC (p + 1) o := funext (fun i => by
  have hm := mid_lt p
  unfold tbI tbC
  by_cases e : i = p * 16 + mid p
  · rw [if_pos e, if_pos (by omega), hv]
    unfold tpC
    rw [show i / 16 = p by omega, show i % 16 = mid p by omega, if_pos rfl]
  · rw [if_neg e]
    by_cases h : i < p * 16
    · rw [if_pos h, if_pos (by omega)]
    · rw [if_neg h]
      by_cases h2 : i < p * 16 + 16
      · rw [if_pos h2, if_pos (by omega)]
        unfold tpC
        rw [show i / 16 = p by omega, show i - p * 16 = i % 16 by omega, if_neg (fun q => e (by omega))]
      · rw [if_neg h2, if_neg (by omega)])
set_option maxRecDepth 100000 in
set_option maxHeartbeats 1000000 in
theorem c_weight {l : Launch} {G : GG} {b : Nat} (hst : l.stackTraces = false) (S : Sw) (x k : Int32) : Ct l G b yX6_weight cX6_weight 3 (some .int) rmX6_weight mI [.int x, .int k] S (fun r S' => S' = S ∧ r = mwt x k) := by
  refine Ct.of2 pnX6 (own := RX6) rfl (Nat.le_of_ble_eq_true rfl) hst ?_
  intro p e s m args below meth c C hname
  change J p l e rmX6_weight s m args below meth c 3 G b _ 0 [(0, .int x), (1, .int k)] [] S 0 0
  refine r_bipush (v := 32) (n := 2) C dX6_weight_0 rfl rfl ?_
  refine r_iload_n (i := 1) (n := 3) C dX6_weight_2 rfl rfl rfl ?_
  refine r_bipush (v := 7) (n := 5) C dX6_weight_3 rfl rfl ?_
  refine r_isub (n := 6) C dX6_weight_5 rfl ?_
  refine r_imul (n := 7) C dX6_weight_6 rfl ?_
  refine r_iload_n (i := 0) (n := 8) C dX6_weight_7 rfl rfl rfl ?_
  refine r_isub (n := 9) C dX6_weight_8 rfl ?_
  refine kX6_21 (n := 12) C (c_abs hst S (32 * (k - 7) - x)) (by decide) (by decide) (Nat.le_of_ble_eq_true rfl) dX6_weight_9 rfl (fun r S1 hp => ?_)
  obtain ⟨hS9, hr9⟩ := hp
  subst S1
  subst r
  refine r_istore_n (i := 2) (n := 13) C dX6_weight_12 rfl (by decide) rfl rfl ?_
  refine r_iload_n (i := 2) (n := 14) C dX6_weight_13 rfl rfl rfl ?_
  refine r_sipush (v := 256) (n := 17) C dX6_weight_14 rfl rfl ?_
  refine r_icmp_le (n := 20) (t := 24) C dX6_weight_17 (by decide) rfl (fun h17 => ?_) (fun h17 => ?_)
  · refine r_sipush (v := 256) (n := 27) C dX6_weight_24 rfl rfl ?_
    refine r_iload_n (i := 2) (n := 28) C dX6_weight_27 rfl rfl rfl ?_
    refine r_isub (n := 29) C dX6_weight_28 rfl ?_
    refine r_sipush (v := 256) (n := 32) C dX6_weight_29 rfl rfl ?_
    refine r_iload_n (i := 2) (n := 33) C dX6_weight_32 rfl rfl rfl ?_
    refine r_isub (n := 34) C dX6_weight_33 rfl ?_
    refine r_imul (n := 35) C dX6_weight_34 rfl ?_
    refine t_i C rfl dX6_weight_35 (by decide) ?_
    refine ⟨rfl, ?_⟩
    unfold mwt
    first | exact (if_pos h17).symm | exact (if_neg h17).symm
  · refine r_iconst (v := 0) (n := 21) C dX6_weight_20 rfl rfl ?_
    refine r_goto (t := 35) C dX6_weight_21 (by decide) ?_
    refine t_i C rfl dX6_weight_35 (by decide) ?_
    refine ⟨rfl, ?_⟩
    unfold mwt
    first | exact (if_pos h17).symm | exact (if_neg h17).symm
set_option maxRecDepth 100000 in
set_option maxHeartbeats 1000000 in
theorem c_weightsOf {l : Launch} {G : GG} {b : Nat} (hst : l.stackTraces = false) (S : Sw) (ph : Nat) : Ct l G b yX6_weightsOf cX6_weightsOf 3 (some .int) rmX6_weightsOf mI [.int (nI ph)] S (fun r S' => S' = S ∧ r = wsm ph 16) := by
  refine Ct.of2 pnX6 (own := RX6) rfl (Nat.le_of_ble_eq_true rfl) hst ?_
  intro p e s m args below meth c C hname
  change J p l e rmX6_weightsOf s m args below meth c 3 G b _ 0 [(0, .int (nI ph))] [] S 0 0
  refine r_iconst (v := 0) (n := 1) C dX6_weightsOf_0 rfl rfl ?_
  refine r_istore_n (i := 1) (n := 2) C dX6_weightsOf_1 rfl (by decide) rfl rfl ?_
  refine r_iconst (v := 0) (n := 3) C dX6_weightsOf_2 rfl rfl ?_
  refine r_istore_n (i := 2) (n := 4) C dX6_weightsOf_3 rfl (by decide) rfl rfl ?_
  have lp : ∀ (q k : Nat), k + q = 16 → J p l e rmX6_weightsOf s m args below meth c 3 G b (vx_MQ below (Qp G b mI (fun r S' => S' = S ∧ r = wsm ph 16)) (XCp G b S (fun _ => False)) args s rmX6_weightsOf.cells rmX6_weightsOf.slots (Ab b)) 4 [(0, .int (nI ph)), (1, .int (wsm ph k)), (2, .int (nI k))] [] S 0 0 := by
    intro q
    induction q with
    | zero =>
      intro k hk9
      obtain rfl : k = 16 := by omega
      refine r_iload_n (i := 2) (n := 5) C dX6_weightsOf_4 rfl rfl rfl ?_
      refine r_bipush (v := 16) (n := 7) C dX6_weightsOf_5 rfl rfl ?_
      refine r_icmp_geT (t := 24) C (cle (a := 16) (b := 16) rfl rfl (by omega) (by omega)) dX6_weightsOf_7 (by decide) ?_
      refine r_iload_n (i := 1) (n := 25) C dX6_weightsOf_24 rfl rfl rfl ?_
      refine t_i C rfl dX6_weightsOf_25 (by decide) ?_
      exact ⟨rfl, rfl⟩
    | succ q ih =>
      intro k hk9
      refine r_iload_n (i := 2) (n := 5) C dX6_weightsOf_4 rfl rfl rfl ?_
      refine r_bipush (v := 16) (n := 7) C dX6_weightsOf_5 rfl rfl ?_
      refine r_icmp_geF (n := 10) (t := 24) C (cnle (a := 16) (b := k) rfl rfl (by omega) (by omega)) dX6_weightsOf_7 (by decide) rfl ?_
      refine r_iload_n (i := 1) (n := 11) C dX6_weightsOf_10 rfl rfl rfl ?_
      refine r_iload_n (i := 0) (n := 12) C dX6_weightsOf_11 rfl rfl rfl ?_
      refine r_iload_n (i := 2) (n := 13) C dX6_weightsOf_12 rfl rfl rfl ?_
      refine kX6_17 (n := 16) C (c_weight hst S (nI ph) (nI k)) (by decide) (by decide) (Nat.le_of_ble_eq_true rfl) dX6_weightsOf_13 rfl (fun r S1 hp => ?_)
      obtain ⟨hS9, hr9⟩ := hp
      subst S1
      subst r
      refine r_iadd (n := 17) C dX6_weightsOf_16 rfl ?_
      refine r_istore_n (i := 1) (n := 18) C dX6_weightsOf_17 rfl (by decide) rfl rfl ?_
      refine r_iinc (n := 21) C dX6_weightsOf_18 rfl rfl (by decide) rfl rfl ?_
      refine r_goto (t := 4) C dX6_weightsOf_21 (by decide) ?_
      exact J.to (by rw [show nI k + Int32.ofInt 1 = nI (k + 1) from nI_1 k]; rfl) (ih (k + 1) (by omega))
  exact J.to rfl (lp 16 0 (by omega))
set_option maxRecDepth 100000 in
set_option maxHeartbeats 1000000 in
theorem c_init6 {l : Launch} {G : GG} {b : Nat} (hst : l.stackTraces = false) (S : Sw) (x : Nat) (hk : sK S x = 6) : Ct l G b yX6_init cX6_init 6 none rmX6_init mV [.ref x] S (fun _ S' => ∃ row, sK S row = 0 ∧ S' = wIs (uR (nA S row 9 512) 600 x (some row)) row (tbC 32 (fun _ => 0))) := by
  refine Ct.of2 pnX6 (own := RX6) rfl (Nat.le_of_ble_eq_true rfl) hst ?_
  intro p e s m args below meth c C hname
  change J p l e rmX6_init s m args below meth c 6 G b _ 0 [(0, .ref x)] [] S 0 0
  refine r_aload_n (i := 0) (n := 1) C dX6_init_0 rfl rfl rfl ?_
  refine kX6_1 (n := 4) C (by decide) dX6_init_1 rfl ?_
  refine r_aload_n (i := 0) (n := 5) C dX6_init_4 rfl rfl rfl ?_
  refine r_sipush (v := 512) (n := 8) C dX6_init_5 rfl rfl ?_
  refine na_9 (n := 10) (N := 512) C rfl (by decide) (by decide) dX6_init_8 rfl (fun row hz hb => ?_)
  have hxr : x ≠ row := k_ne hz (by rw [hk]; decide)
  have hkn : sK (nA S row 9 512) x = 6 := by rw [sK_nA, if_neg hxr]; exact hk
  refine sX6_9 (n := 13) C hname hkn dX6_init_10 rfl ?_
  obtain ⟨T, hT⟩ : ∃ T, T = uR (nA S row 9 512) 600 x (some row) := ⟨_, rfl⟩
  rw [← hT]
  have hkT : sK T x = 6 := by rw [hT]; exact hkn
  have hrT : fR T 600 x = some row := by rw [hT]; exact if_pos ⟨rfl, rfl⟩
  have hiT : isI T row 512 := by rw [hT]; exact ⟨nA_k (N := 512), nA_n (k := 9), by decide⟩
  have hoT : aI T row = fun _ => 0 := by rw [hT]; exact nA_I (k := 9) (N := 512)
  refine r_iconst (v := 0) (n := 14) C dX6_init_13 rfl rfl ?_
  refine r_istore_n (i := 1) (n := 15) C dX6_init_14 rfl (by decide) rfl rfl ?_
  have lp : ∀ (q p9 : Nat), p9 + q = 32 → J p l e rmX6_init s m args below meth c 6 G b (vx_MQ below (Qp G b mV (fun _ S' => ∃ row, sK S row = 0 ∧ S' = wIs (uR (nA S row 9 512) 600 x (some row)) row (tbC 32 (fun _ => 0)))) (XCp G b S (fun _ => False)) args s rmX6_init.cells rmX6_init.slots (Ab b)) 15 [(0, .ref x), (1, .int (nI p9))] [] (wIs T row (tbC p9 (aI T row))) (0 + 1) (0 + 512) := by
    intro q
    induction q with
    | zero =>
      intro p9 hp9
      obtain rfl : p9 = 32 := by omega
      refine r_iload_n (i := 1) (n := 16) C dX6_init_15 rfl rfl rfl ?_
      refine r_bipush (v := 32) (n := 18) C dX6_init_16 rfl rfl ?_
      refine r_icmp_geT (t := 120) C (cle (a := 32) (b := 32) rfl rfl (by omega) (by omega)) dX6_init_18 (by decide) ?_
      refine t_v C dX6_init_120 (by decide) ?_
      refine ⟨row, hz, ?_⟩
      rw [hoT, hT]
    | succ q ih =>
      intro p9 hp9
      have hin : ∀ (q k : Nat), k + q = 16 → J p l e rmX6_init s m args below meth c 6 G b (vx_MQ below (Qp G b mV (fun _ S' => ∃ row, sK S row = 0 ∧ S' = wIs (uR (nA S row 9 512) 600 x (some row)) row (tbC 32 (fun _ => 0)))) (XCp G b S (fun _ => False)) args s rmX6_init.cells rmX6_init.slots (Ab b)) 33 [(0, .ref x), (1, .int (nI p9)), (2, .int (wsm p9 16)), (3, .int (tlk p9 k)), (4, .int (nI k))] [] (wIs T row (tbI p9 k (aI T row))) (0 + 1) (0 + 512) := by
        intro q2
        induction q2 with
        | zero =>
          intro k hk9
          obtain rfl : k = 16 := by omega
          have hn9 := ih (p9 + 1) (by omega)
          by_cases hle : p9 ≤ 16
          · have hmd : mid p9 = 7 := if_pos hle
            refine r_iload (n := 35) C dX6_init_33 rfl rfl ?_
            refine r_bipush (v := 16) (n := 37) C dX6_init_35 rfl rfl ?_
            refine r_icmp_geT (t := 87) C (cle (a := 16) (b := 16) rfl rfl (by omega) (by omega)) dX6_init_37 (by decide) ?_
            refine r_aload_n (i := 0) (n := 88) C dX6_init_87 rfl rfl rfl ?_
            refine gX6_9 (n := 91) C (by rw [sK_wIs]; exact hkT) (by rw [fR_wIs]; exact hrT) dX6_init_88 rfl ?_
            refine r_iload_n (i := 1) (n := 92) C dX6_init_91 rfl rfl rfl ?_
            refine r_bipush (v := 16) (n := 94) C dX6_init_92 rfl rfl ?_
            refine r_imul (n := 95) C dX6_init_94 rfl ?_
            refine r_iload_n (i := 1) (n := 96) C dX6_init_95 rfl rfl rfl ?_
            refine r_bipush (v := 16) (n := 98) C dX6_init_96 rfl rfl ?_
            refine r_icmp_leT (t := 106) C (cle (a := p9) (b := 16) rfl rfl (by omega) (by omega)) dX6_init_98 (by decide) ?_
            refine r_bipush (v := 7) (n := 108) C dX6_init_106 rfl rfl ?_
            refine r_iadd (n := 109) C dX6_init_108 rfl ?_
            refine r_dup2_11 (n := 110) C dX6_init_109 rfl rfl rfl ?_
            refine q_iald (n := 111) C (p9 * 16 + 7) (by rw [isI_wIs]; exact hiT) (add_nI (a := p9 * 16) (b := 7) (mul_nI (a := p9) (b := 16) rfl rfl) rfl) (by omega) dX6_init_110 rfl ?_
            rw [show aI (wIs T row (tbI p9 16 (aI T row))) row (p9 * 16 + 7) = tp0 p9 7 from (if_pos rfl).trans (tbI_at (by omega))]
            refine r_iload_n (i := 3) (n := 112) C dX6_init_111 rfl rfl rfl ?_
            refine r_iadd (n := 113) C dX6_init_112 rfl ?_
            refine q_iast (n := 114) C (p9 * 16 + 7) (by rw [isI_wIs]; exact hiT) (add_nI (a := p9 * 16) (b := 7) (mul_nI (a := p9) (b := 16) rfl rfl) rfl) (by omega) dX6_init_113 rfl ?_
            rw [wI_wIs]
            rw [show (fun i => if i = p9 * 16 + 7 then tp0 p9 7 + tlk p9 16 else tbI p9 16 (aI T row) i) = tbC (p9 + 1) (aI T row) from by rw [← hmd]; exact tbI_e rfl]
            refine r_iinc (n := 117) C dX6_init_114 rfl rfl (by decide) rfl rfl ?_
            refine r_goto (t := 15) C dX6_init_117 (by decide) ?_
            exact J.to (by rw [show nI p9 + Int32.ofInt 1 = nI (p9 + 1) from nI_1 p9]; rfl) hn9
          · have hmd : mid p9 = 8 := if_neg hle
            refine r_iload (n := 35) C dX6_init_33 rfl rfl ?_
            refine r_bipush (v := 16) (n := 37) C dX6_init_35 rfl rfl ?_
            refine r_icmp_geT (t := 87) C (cle (a := 16) (b := 16) rfl rfl (by omega) (by omega)) dX6_init_37 (by decide) ?_
            refine r_aload_n (i := 0) (n := 88) C dX6_init_87 rfl rfl rfl ?_
            refine gX6_9 (n := 91) C (by rw [sK_wIs]; exact hkT) (by rw [fR_wIs]; exact hrT) dX6_init_88 rfl ?_
            refine r_iload_n (i := 1) (n := 92) C dX6_init_91 rfl rfl rfl ?_
            refine r_bipush (v := 16) (n := 94) C dX6_init_92 rfl rfl ?_
            refine r_imul (n := 95) C dX6_init_94 rfl ?_
            refine r_iload_n (i := 1) (n := 96) C dX6_init_95 rfl rfl rfl ?_
            refine r_bipush (v := 16) (n := 98) C dX6_init_96 rfl rfl ?_
            refine r_icmp_leF (n := 101) (t := 106) C (cnle (a := p9) (b := 16) rfl rfl (by omega) (by omega)) dX6_init_98 (by decide) rfl ?_
            refine r_bipush (v := 8) (n := 103) C dX6_init_101 rfl rfl ?_
            refine r_goto (t := 108) C dX6_init_103 (by decide) ?_
            refine r_iadd (n := 109) C dX6_init_108 rfl ?_
            refine r_dup2_11 (n := 110) C dX6_init_109 rfl rfl rfl ?_
            refine q_iald (n := 111) C (p9 * 16 + 8) (by rw [isI_wIs]; exact hiT) (add_nI (a := p9 * 16) (b := 8) (mul_nI (a := p9) (b := 16) rfl rfl) rfl) (by omega) dX6_init_110 rfl ?_
            rw [show aI (wIs T row (tbI p9 16 (aI T row))) row (p9 * 16 + 8) = tp0 p9 8 from (if_pos rfl).trans (tbI_at (by omega))]
            refine r_iload_n (i := 3) (n := 112) C dX6_init_111 rfl rfl rfl ?_
            refine r_iadd (n := 113) C dX6_init_112 rfl ?_
            refine q_iast (n := 114) C (p9 * 16 + 8) (by rw [isI_wIs]; exact hiT) (add_nI (a := p9 * 16) (b := 8) (mul_nI (a := p9) (b := 16) rfl rfl) rfl) (by omega) dX6_init_113 rfl ?_
            rw [wI_wIs]
            rw [show (fun i => if i = p9 * 16 + 8 then tp0 p9 8 + tlk p9 16 else tbI p9 16 (aI T row) i) = tbC (p9 + 1) (aI T row) from by rw [← hmd]; exact tbI_e rfl]
            refine r_iinc (n := 117) C dX6_init_114 rfl rfl (by decide) rfl rfl ?_
            refine r_goto (t := 15) C dX6_init_117 (by decide) ?_
            exact J.to (by rw [show nI p9 + Int32.ofInt 1 = nI (p9 + 1) from nI_1 p9]; rfl) hn9
        | succ q2 ih2 =>
          intro k hk9
          refine r_iload (n := 35) C dX6_init_33 rfl rfl ?_
          refine r_bipush (v := 16) (n := 37) C dX6_init_35 rfl rfl ?_
          refine r_icmp_geF (n := 40) (t := 87) C (cnle (a := 16) (b := k) rfl rfl (by omega) (by omega)) dX6_init_37 (by decide) rfl ?_
          refine r_iload_n (i := 2) (n := 41) C dX6_init_40 rfl rfl rfl ?_
          refine r_if_leF (n := 44) (t := 59) C (wsm_pos (by omega)) dX6_init_41 (by decide) rfl ?_
          refine r_sipush (v := 16384) (n := 47) C dX6_init_44 rfl rfl ?_
          refine r_iload_n (i := 1) (n := 48) C dX6_init_47 rfl rfl rfl ?_
          refine r_iload (n := 50) C dX6_init_48 rfl rfl ?_
          refine kX6_17 (n := 53) C (c_weight hst (wIs T row (tbI p9 k (aI T row))) (nI p9) (nI k)) (by decide) (by decide) (Nat.le_of_ble_eq_true rfl) dX6_init_50 rfl (fun r S1 hp => ?_)
          obtain ⟨hS9, hr9⟩ := hp
          subst S1
          subst r
          refine r_imul (n := 54) C dX6_init_53 rfl ?_
          refine r_iload_n (i := 2) (n := 55) C dX6_init_54 rfl rfl rfl ?_
          refine r_idiv (n := 56) C dX6_init_55 (wsm_ne (by omega)) rfl ?_
          refine r_goto (t := 60) C dX6_init_56 (by decide) ?_
          refine r_istore (n := 62) C dX6_init_60 (by decide) rfl rfl ?_
          refine r_aload_n (i := 0) (n := 63) C dX6_init_62 rfl rfl rfl ?_
          refine gX6_9 (n := 66) C (by rw [sK_wIs]; exact hkT) (by rw [fR_wIs]; exact hrT) dX6_init_63 rfl ?_
          refine r_iload_n (i := 1) (n := 67) C dX6_init_66 rfl rfl rfl ?_
          refine r_bipush (v := 16) (n := 69) C dX6_init_67 rfl rfl ?_
          refine r_imul (n := 70) C dX6_init_69 rfl ?_
          refine r_iload (n := 72) C dX6_init_70 rfl rfl ?_
          refine r_iadd (n := 73) C dX6_init_72 rfl ?_
          refine r_iload (n := 75) C dX6_init_73 rfl rfl ?_
          refine q_iast (n := 76) C (p9 * 16 + k) (by rw [isI_wIs]; exact hiT) (add_nI (a := p9 * 16) (b := k) (mul_nI (a := p9) (b := 16) rfl rfl) rfl) (by omega) dX6_init_75 rfl ?_
          rw [wI_wIs]
          rw [show (fun i => if i = p9 * 16 + k then 16384 * mwt (nI p9) (nI k) / wsm p9 16 else tbI p9 k (aI T row) i) = tbI p9 (k + 1) (aI T row) from tbI_s]
          refine r_iload_n (i := 3) (n := 77) C dX6_init_76 rfl rfl rfl ?_
          refine r_iload (n := 79) C dX6_init_77 rfl rfl ?_
          refine r_isub (n := 80) C dX6_init_79 rfl ?_
          refine r_istore_n (i := 3) (n := 81) C dX6_init_80 rfl (by decide) rfl rfl ?_
          refine r_iinc (n := 84) C dX6_init_81 rfl rfl (by decide) rfl rfl ?_
          refine r_goto (t := 33) C dX6_init_84 (by decide) ?_
          exact J.to (by rw [show nI k + Int32.ofInt 1 = nI (k + 1) from nI_1 k]; rfl) (ih2 (k + 1) (by omega))
      refine r_iload_n (i := 1) (n := 16) C dX6_init_15 rfl rfl rfl ?_
      refine r_bipush (v := 32) (n := 18) C dX6_init_16 rfl rfl ?_
      refine r_icmp_geF (n := 21) (t := 120) C (cnle (a := 32) (b := p9) rfl rfl (by omega) (by omega)) dX6_init_18 (by decide) rfl ?_
      refine r_iload_n (i := 1) (n := 22) C dX6_init_21 rfl rfl rfl ?_
      refine kX6_13 (n := 25) C (c_weightsOf hst (wIs T row (tbC p9 (aI T row))) p9) (by decide) (by decide) (Nat.le_of_ble_eq_true rfl) dX6_init_22 rfl (fun r S1 hp => ?_)
      obtain ⟨hS9, hr9⟩ := hp
      subst S1
      subst r
      refine r_istore_n (i := 2) (n := 26) C dX6_init_25 rfl (by decide) rfl rfl ?_
      refine r_sipush (v := 16384) (n := 29) C dX6_init_26 rfl rfl ?_
      refine r_istore_n (i := 3) (n := 30) C dX6_init_29 rfl (by decide) rfl rfl ?_
      refine r_iconst (v := 0) (n := 31) C dX6_init_30 rfl rfl ?_
      refine r_istore (n := 33) C dX6_init_31 (by decide) rfl rfl ?_
      have e1 := hin 16 0 (by omega)
      rw [tbI_0] at e1
      exact J.to rfl e1
  have e0 := lp 32 0 (by omega)
  rw [tbC_0, wIs_self] at e0
  exact J.to rfl e0
