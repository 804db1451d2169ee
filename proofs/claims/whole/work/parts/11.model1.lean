def mwt (p k : Int32) : Int32 := if (if 0 ≤ 32 * (k - 7) - p then 32 * (k - 7) - p else -(32 * (k - 7) - p)) ≤ 256 then (256 - (if 0 ≤ 32 * (k - 7) - p then 32 * (k - 7) - p else -(32 * (k - 7) - p))) * (256 - (if 0 ≤ 32 * (k - 7) - p then 32 * (k - 7) - p else -(32 * (k - 7) - p))) else 0
def mDn (v y : Int64) : Int64 := if 0 ≤ v - v / y * y then v / y else v / y - 1
def mDnI (v y : Int32) : Int32 := (mDn v.toInt64 y.toInt64).toInt32
def isCl (S : Sw) (ad : Nat → Nat) (c : Int32) : Prop := ∃ j, j < 6 ∧ c = nI j ∧ ¬ aI S (ad 802) j = 0
def isRt (r : Int32) : Prop := r = 8000 ∨ r = 11025 ∨ r = 16000 ∨ r = 22050 ∨ r = 32000 ∨ r = 44100 ∨ r = 48000
/-- a frame's sample in the reference's rows; 0 outside -/
def gM (S : Sw) (ad : Nat → Nat) (c h : Nat) (rt : Int32) (x : Int) : Int32 := if x < 0 ∨ (h : Int) ≤ x then 0 else aI S (ad (if rt = 0 then 811 else 812)) (12800 * c + x.toNat)
def fsum (tp : Nat → Int32) (g : Int → Int32) (ph pl : Nat) : Nat → Int64
  | 0 => 0
  | k + 1 => fsum tp g ph pl k + (tp (16 * ph + k)).toInt64 * (g ((pl : Int) + (k : Int) - 7)).toInt64
/-- a sample between the frames -/
def flt (tp : Nat → Int32) (g : Int → Int32) (n f t : Nat) : Int32 := if f = t then g ((n * f / t : Nat) : Int) else (mDn (fsum tp g (n * f % t * 32 / t) (n * f / t) 16) 16384).toInt32
theorem nI_inj6 {a b : Nat} (ha : a < 6) (hb : b < 6) (h : nI a = nI b) : a = b := (nI_eq (by omega) (by omega)).mp h
theorem nI_mid {x : Int32} {n : Nat} {M : Int32} (hM : M.toInt = n) (h : 0 ≤ x ∧ x ≤ M) : ∃ j, j ≤ n ∧ x = nI j := nI_of2 hM (by simp only [Int32.le_iff_toInt_le, Int32.lt_iff_toInt_lt] at *; omega) h.2
theorem pl_lt {n f t : Nat} (hn : n < 2 ^ 20) (hf : f ≤ 48000) (ht : 0 < t) : n * f / t < 2 ^ 46 := Nat.lt_of_le_of_lt (Nat.div_le_self _ _) (by have : n * f ≤ 2 ^ 20 * 48000 := Nat.mul_le_mul (by omega) hf; omega)
theorem nf_lt {n f : Nat} (hn : n < 2 ^ 20) (hf : f ≤ 48000) : n * f < 2 ^ 46 := by have : n * f ≤ 2 ^ 20 * 48000 := Nat.mul_le_mul (by omega) hf; omega
set_option maxRecDepth 100000 in
set_option maxHeartbeats 1000000 in
theorem m_weight {l : Launch} {G : GG} {b : Nat} (hst : l.stackTraces = false) (S : Sw) (x k : Int32) : Ct l G b yX8_weight cX8_weight 3 (some .int) rmX8_weight mI [.int x, .int k] S (fun r S' => S' = S ∧ r = mwt x k) := by
  refine Ct.of2 pnX8 (own := RX8) rfl (Nat.le_of_ble_eq_true rfl) hst ?_
  intro p e s m args below meth c C hname
  change J p l e rmX8_weight s m args below meth c 3 G b _ 0 [(0, .int x), (1, .int k)] [] S 0 0
  refine r_bipush (v := 32) (n := 2) C dX8_weight_0 rfl rfl ?_
  refine r_iload_n (i := 1) (n := 3) C dX8_weight_2 rfl rfl rfl ?_
  refine r_bipush (v := 7) (n := 5) C dX8_weight_3 rfl rfl ?_
  refine r_isub (n := 6) C dX8_weight_5 rfl ?_
  refine r_imul (n := 7) C dX8_weight_6 rfl ?_
  refine r_iload_n (i := 0) (n := 8) C dX8_weight_7 rfl rfl rfl ?_
  refine r_isub (n := 9) C dX8_weight_8 rfl ?_
  refine r_istore_n (i := 2) (n := 10) C dX8_weight_9 rfl (by decide) rfl rfl ?_
  refine r_iload_n (i := 2) (n := 11) C dX8_weight_10 rfl rfl rfl ?_
  refine r_if_ge (n := 14) (t := 19) C dX8_weight_11 (by decide) rfl (fun h11 => ?_) (fun h11 => ?_)
  · refine r_iload_n (i := 2) (n := 20) C dX8_weight_19 rfl rfl rfl ?_
    refine r_istore_n (i := 2) (n := 21) C dX8_weight_20 rfl (by decide) rfl rfl ?_
    refine r_iload_n (i := 2) (n := 22) C dX8_weight_21 rfl rfl rfl ?_
    refine r_sipush (v := 256) (n := 25) C dX8_weight_22 rfl rfl ?_
    refine r_icmp_le (n := 28) (t := 32) C dX8_weight_25 (by decide) rfl (fun h25 => ?_) (fun h25 => ?_)
    · refine r_sipush (v := 256) (n := 35) C dX8_weight_32 rfl rfl ?_
      refine r_iload_n (i := 2) (n := 36) C dX8_weight_35 rfl rfl rfl ?_
      refine r_isub (n := 37) C dX8_weight_36 rfl ?_
      refine r_sipush (v := 256) (n := 40) C dX8_weight_37 rfl rfl ?_
      refine r_iload_n (i := 2) (n := 41) C dX8_weight_40 rfl rfl rfl ?_
      refine r_isub (n := 42) C dX8_weight_41 rfl ?_
      refine r_imul (n := 43) C dX8_weight_42 rfl ?_
      refine t_i C rfl dX8_weight_43 (by decide) ?_
      refine ⟨rfl, ?_⟩
      simp only [mwt, *, ↓reduceIte]
    · refine r_iconst (v := 0) (n := 29) C dX8_weight_28 rfl rfl ?_
      refine r_goto (t := 43) C dX8_weight_29 (by decide) ?_
      refine t_i C rfl dX8_weight_43 (by decide) ?_
      refine ⟨rfl, ?_⟩
      simp only [mwt, *, ↓reduceIte]
  · refine r_iload_n (i := 2) (n := 15) C dX8_weight_14 rfl rfl rfl ?_
    refine r_ineg (n := 16) C dX8_weight_15 rfl ?_
    refine r_goto (t := 20) C dX8_weight_16 (by decide) ?_
    refine r_istore_n (i := 2) (n := 21) C dX8_weight_20 rfl (by decide) rfl rfl ?_
    refine r_iload_n (i := 2) (n := 22) C dX8_weight_21 rfl rfl rfl ?_
    refine r_sipush (v := 256) (n := 25) C dX8_weight_22 rfl rfl ?_
    refine r_icmp_le (n := 28) (t := 32) C dX8_weight_25 (by decide) rfl (fun h25 => ?_) (fun h25 => ?_)
    · refine r_sipush (v := 256) (n := 35) C dX8_weight_32 rfl rfl ?_
      refine r_iload_n (i := 2) (n := 36) C dX8_weight_35 rfl rfl rfl ?_
      refine r_isub (n := 37) C dX8_weight_36 rfl ?_
      refine r_sipush (v := 256) (n := 40) C dX8_weight_37 rfl rfl ?_
      refine r_iload_n (i := 2) (n := 41) C dX8_weight_40 rfl rfl rfl ?_
      refine r_isub (n := 42) C dX8_weight_41 rfl ?_
      refine r_imul (n := 43) C dX8_weight_42 rfl ?_
      refine t_i C rfl dX8_weight_43 (by decide) ?_
      refine ⟨rfl, ?_⟩
      simp only [mwt, *, ↓reduceIte]
    · refine r_iconst (v := 0) (n := 29) C dX8_weight_28 rfl rfl ?_
      refine r_goto (t := 43) C dX8_weight_29 (by decide) ?_
      refine t_i C rfl dX8_weight_43 (by decide) ?_
      refine ⟨rfl, ?_⟩
      simp only [mwt, *, ↓reduceIte]
set_option maxRecDepth 100000 in
set_option maxHeartbeats 1000000 in
theorem m_thrown {l : Launch} {G : GG} {b : Nat} (hst : l.stackTraces = false) (S : Sw) (z : Nat) (ad : Nat → Nat) (hm : lay S z ad) : Ct l G b yX8_thrown cX8_thrown 1 (some .int) rmX8_thrown mI [.ref z] S (fun r S' => S' = S ∧ r = fI S 800 z) := by
  refine Ct.of2 pnX8 (own := RX8) rfl (Nat.le_of_ble_eq_true rfl) hst ?_
  intro p e s m args below meth c C hname
  change J p l e rmX8_thrown s m args below meth c 1 G b _ 0 [(0, .ref z)] [] S 0 0
  refine r_aload_n (i := 0) (n := 1) C dX8_thrown_0 rfl rfl rfl ?_
  refine gX8_127 (n := 4) C hm.1 dX8_thrown_1 rfl ?_
  refine t_i C rfl dX8_thrown_4 (by decide) ?_
  first | exact ⟨rfl, rfl⟩ | simp_all
set_option maxRecDepth 100000 in
set_option maxHeartbeats 1000000 in
theorem m_refused {l : Launch} {G : GG} {b : Nat} (hst : l.stackTraces = false) (S : Sw) (z : Nat) (ad : Nat → Nat) (hm : lay S z ad) (w : Int32) : Ct l G b yX8_refused cX8_refused 2 (some .boolean) rmX8_refused mI [.ref z, .int w] S (fun r S' => S' = uI S 800 z w ∧ r = if 0 < w then 1 else 0) := by
  refine Ct.of2 pnX8 (own := RX8) rfl (Nat.le_of_ble_eq_true rfl) hst ?_
  intro p e s m args below meth c C hname
  change J p l e rmX8_refused s m args below meth c 2 G b _ 0 [(0, .ref z), (1, .int w)] [] S 0 0
  refine r_aload_n (i := 0) (n := 1) C dX8_refused_0 rfl rfl rfl ?_
  refine r_iload_n (i := 1) (n := 2) C dX8_refused_1 rfl rfl rfl ?_
  refine sX8_127 (n := 5) C hm.1 dX8_refused_2 rfl ?_
  refine r_iload_n (i := 1) (n := 6) C dX8_refused_5 rfl rfl rfl ?_
  refine r_if_le (n := 9) (t := 13) C dX8_refused_6 (by decide) rfl (fun h6 => ?_) (fun h6 => ?_)
  · refine r_iconst (v := 0) (n := 14) C dX8_refused_13 rfl rfl ?_
    refine t_i C rfl dX8_refused_14 (by decide) ?_
    exact ⟨rfl, by first | (rw [if_pos (by simp only [Int32.le_iff_toInt_le, Int32.lt_iff_toInt_lt] at *; omega)]) | (rw [if_neg (by simp only [Int32.le_iff_toInt_le, Int32.lt_iff_toInt_lt] at *; omega)])⟩
  · refine r_iconst (v := 1) (n := 10) C dX8_refused_9 rfl rfl ?_
    refine r_goto (t := 14) C dX8_refused_10 (by decide) ?_
    refine t_i C rfl dX8_refused_14 (by decide) ?_
    exact ⟨rfl, by first | (rw [if_pos (by simp only [Int32.le_iff_toInt_le, Int32.lt_iff_toInt_lt] at *; omega)]) | (rw [if_neg (by simp only [Int32.le_iff_toInt_le, Int32.lt_iff_toInt_lt] at *; omega)])⟩
set_option maxRecDepth 100000 in
set_option maxHeartbeats 1000000 in
theorem m_isIn {l : Launch} {G : GG} {b : Nat} (hst : l.stackTraces = false) (S : Sw) (v lo hi : Int32) : Ct l G b yX8_isIn cX8_isIn 3 (some .boolean) rmX8_isIn mI [.int v, .int lo, .int hi] S (fun r S' => S' = S ∧ r = if lo ≤ v ∧ v ≤ hi then 1 else 0) := by
  refine Ct.of2 pnX8 (own := RX8) rfl (Nat.le_of_ble_eq_true rfl) hst ?_
  intro p e s m args below meth c C hname
  change J p l e rmX8_isIn s m args below meth c 3 G b _ 0 [(0, .int v), (1, .int lo), (2, .int hi)] [] S 0 0
  refine r_iload_n (i := 0) (n := 1) C dX8_isIn_0 rfl rfl rfl ?_
  refine r_iload_n (i := 1) (n := 2) C dX8_isIn_1 rfl rfl rfl ?_
  refine r_icmp_lt (n := 5) (t := 14) C dX8_isIn_2 (by decide) rfl (fun h2 => ?_) (fun h2 => ?_)
  · refine r_iconst (v := 0) (n := 15) C dX8_isIn_14 rfl rfl ?_
    refine t_i C rfl dX8_isIn_15 (by decide) ?_
    exact ⟨rfl, by first | (rw [if_pos (by simp only [Int32.le_iff_toInt_le, Int32.lt_iff_toInt_lt] at *; omega)]) | (rw [if_neg (by simp only [Int32.le_iff_toInt_le, Int32.lt_iff_toInt_lt] at *; omega)])⟩
  · refine r_iload_n (i := 0) (n := 6) C dX8_isIn_5 rfl rfl rfl ?_
    refine r_iload_n (i := 2) (n := 7) C dX8_isIn_6 rfl rfl rfl ?_
    refine r_icmp_gt (n := 10) (t := 14) C dX8_isIn_7 (by decide) rfl (fun h7 => ?_) (fun h7 => ?_)
    · refine r_iconst (v := 0) (n := 15) C dX8_isIn_14 rfl rfl ?_
      refine t_i C rfl dX8_isIn_15 (by decide) ?_
      exact ⟨rfl, by first | (rw [if_pos (by simp only [Int32.le_iff_toInt_le, Int32.lt_iff_toInt_lt] at *; omega)]) | (rw [if_neg (by simp only [Int32.le_iff_toInt_le, Int32.lt_iff_toInt_lt] at *; omega)])⟩
    · refine r_iconst (v := 1) (n := 11) C dX8_isIn_10 rfl rfl ?_
      refine r_goto (t := 15) C dX8_isIn_11 (by decide) ?_
      refine t_i C rfl dX8_isIn_15 (by decide) ?_
      exact ⟨rfl, by first | (rw [if_pos (by simp only [Int32.le_iff_toInt_le, Int32.lt_iff_toInt_lt] at *; omega)]) | (rw [if_neg (by simp only [Int32.le_iff_toInt_le, Int32.lt_iff_toInt_lt] at *; omega)])⟩
set_option maxRecDepth 100000 in
set_option maxHeartbeats 1000000 in
theorem m_isClient {l : Launch} {G : GG} {b : Nat} (hst : l.stackTraces = false) (S : Sw) (z : Nat) (ad : Nat → Nat) (hm : lay S z ad) (c0 : Int32) : Ct l G b yX8_isClient cX8_isClient 2 (some .boolean) rmX8_isClient mI [.ref z, .int c0] S (fun r S' => S' = S ∧ (isCl S ad c0 → r = 1) ∧ (¬ isCl S ad c0 → r = 0)) := by
  refine Ct.of2 pnX8 (own := RX8) rfl (Nat.le_of_ble_eq_true rfl) hst ?_
  intro p e s m args below meth c C hname
  change J p l e rmX8_isClient s m args below meth c 2 G b _ 0 [(0, .ref z), (1, .int c0)] [] S 0 0
  refine r_iload_n (i := 1) (n := 1) C dX8_isClient_0 rfl rfl rfl ?_
  refine r_iconst (v := 0) (n := 2) C dX8_isClient_1 rfl rfl ?_
  refine r_iconst (v := 5) (n := 3) C dX8_isClient_2 rfl rfl ?_
  refine kX8_130 (n := 6) C (m_isIn hst S c0 0 5) (by decide) (by decide) (Nat.le_of_ble_eq_true rfl) dX8_isClient_3 rfl (fun r S1 hp => ?_)
  obtain ⟨hS, hr⟩ := hp
  subst S1
  subst r
  by_cases hc : 0 ≤ c0 ∧ c0 ≤ 5
  · rw [if_pos hc]
    obtain ⟨j, hj, rfl⟩ := nI_mid (n := 5) rfl hc
    refine r_if_eqF (n := 9) (t := 22) C (by decide) dX8_isClient_6 (by decide) rfl ?_
    refine r_aload_n (i := 0) (n := 10) C dX8_isClient_9 rfl rfl rfl ?_
    refine hX8_13 (n := 13) C hm dX8_isClient_10 rfl ?_
    refine r_iload_n (i := 1) (n := 14) C dX8_isClient_13 rfl rfl rfl ?_
    refine q_zald (n := 15) C (j) (ly_802 hm) rfl (by omega) dX8_isClient_14 rfl ?_
    refine r_if_eq (n := 18) (t := 22) C dX8_isClient_15 (by decide) rfl (fun h15 => ?_) (fun h15 => ?_)
    · refine r_iconst (v := 0) (n := 23) C dX8_isClient_22 rfl rfl ?_
      refine t_i C rfl dX8_isClient_23 (by decide) ?_
      first | exact ⟨rfl, fun _ => rfl, fun h => absurd ⟨j, by omega, rfl, h15⟩ h⟩ | exact ⟨rfl, fun ⟨k, hk, e, hn⟩ => absurd ((nI_inj6 (by omega) hk e) ▸ h15) hn, fun _ => rfl⟩
    · refine r_iconst (v := 1) (n := 19) C dX8_isClient_18 rfl rfl ?_
      refine r_goto (t := 23) C dX8_isClient_19 (by decide) ?_
      refine t_i C rfl dX8_isClient_23 (by decide) ?_
      first | exact ⟨rfl, fun _ => rfl, fun h => absurd ⟨j, by omega, rfl, h15⟩ h⟩ | exact ⟨rfl, fun ⟨k, hk, e, hn⟩ => absurd ((nI_inj6 (by omega) hk e) ▸ h15) hn, fun _ => rfl⟩
  · rw [if_neg hc]
    refine r_if_eqT (t := 22) C rfl dX8_isClient_6 (by decide) ?_
    refine r_iconst (v := 0) (n := 23) C dX8_isClient_22 rfl rfl ?_
    refine t_i C rfl dX8_isClient_23 (by decide) ?_
    exact ⟨rfl, fun ⟨k, hk, e, hn⟩ => absurd (by rw [e]; exact ⟨nI_pos' (by omega), cle (b := 5) rfl rfl (by omega) (by omega)⟩) hc, fun _ => rfl⟩
set_option maxRecDepth 100000 in
set_option maxHeartbeats 1000000 in
theorem m_down {l : Launch} {G : GG} {b : Nat} (hst : l.stackTraces = false) (S : Sw) (v y : Int64) (hy : ¬ y = 0) : Ct l G b yX8_down cX8_down 6 (some .long) rmX8_down mJ [.long v, .long y] S (fun r S' => S' = S ∧ r = mDn v y) := by
  refine Ct.of2 pnX8 (own := RX8) rfl (Nat.le_of_ble_eq_true rfl) hst ?_
  intro p e s m args below meth c C hname
  change J p l e rmX8_down s m args below meth c 6 G b _ 0 [(0, .long v), (2, .long y)] [] S 0 0
  refine r_lload_n (i := 0) (n := 1) C dX8_down_0 rfl rfl rfl ?_
  refine r_lload_n (i := 2) (n := 2) C dX8_down_1 rfl rfl rfl ?_
  refine r_ldiv (n := 3) C dX8_down_2 (by first | assumption | decide) rfl ?_
  refine r_lstore (n := 5) C dX8_down_3 (by decide) rfl rfl ?_
  refine r_lload_n (i := 0) (n := 6) C dX8_down_5 rfl rfl rfl ?_
  refine r_lload_n (i := 2) (n := 7) C dX8_down_6 rfl rfl rfl ?_
  refine r_lrem (n := 8) C dX8_down_7 (by first | assumption | decide) rfl ?_
  refine r_lconst (v := 0) (n := 9) C dX8_down_8 rfl rfl ?_
  refine r_lcmp (n := 10) C dX8_down_9 rfl ?_
  refine r_if_ge (n := 13) (t := 20) C dX8_down_10 (by decide) rfl (fun h10 => ?_) (fun h10 => ?_)
  · refine r_lload (n := 22) C dX8_down_20 rfl rfl ?_
    refine t_j C dX8_down_22 (by decide) ?_
    refine ⟨rfl, ?_⟩
    simp only [lg_cmp_ge, lg_cmp_eq, lg_cmp_lt] at *
    simp only [mDn, *, ↓reduceIte]
  · refine r_lload (n := 15) C dX8_down_13 rfl rfl ?_
    refine r_lconst (v := 1) (n := 16) C dX8_down_15 rfl rfl ?_
    refine r_lsub (n := 17) C dX8_down_16 rfl ?_
    refine r_goto (t := 22) C dX8_down_17 (by decide) ?_
    refine t_j C dX8_down_22 (by decide) ?_
    refine ⟨rfl, ?_⟩
    simp only [lg_cmp_ge, lg_cmp_eq, lg_cmp_lt] at *
    simp only [mDn, *, ↓reduceIte]
set_option maxRecDepth 100000 in
set_option maxHeartbeats 1000000 in
theorem m_downBy {l : Launch} {G : GG} {b : Nat} (hst : l.stackTraces = false) (S : Sw) (v y : Int32) (hy : ¬ y.toInt64 = 0) : Ct l G b yX8_downBy cX8_downBy 2 (some .int) rmX8_downBy mI [.int v, .int y] S (fun r S' => S' = S ∧ r = mDnI v y) := by
  refine Ct.of2 pnX8 (own := RX8) rfl (Nat.le_of_ble_eq_true rfl) hst ?_
  intro p e s m args below meth c C hname
  change J p l e rmX8_downBy s m args below meth c 2 G b _ 0 [(0, .int v), (1, .int y)] [] S 0 0
  refine r_iload_n (i := 0) (n := 1) C dX8_downBy_0 rfl rfl rfl ?_
  refine r_i2l (n := 2) C dX8_downBy_1 rfl ?_
  refine r_iload_n (i := 1) (n := 3) C dX8_downBy_2 rfl rfl rfl ?_
  refine r_i2l (n := 4) C dX8_downBy_3 rfl ?_
  refine kX8_134 (n := 7) C (m_down hst S v.toInt64 y.toInt64 hy) (by decide) (by decide) (Nat.le_of_ble_eq_true rfl) dX8_downBy_4 rfl (fun r S1 hp => ?_)
  obtain ⟨hS, hr⟩ := hp
  subst S1
  subst r
  refine r_l2i (n := 8) C dX8_downBy_7 rfl ?_
  refine t_i C rfl dX8_downBy_8 (by decide) ?_
  exact ⟨rfl, rfl⟩
set_option maxRecDepth 100000 in
set_option maxHeartbeats 1000000 in
theorem m_isRate {l : Launch} {G : GG} {b : Nat} (hst : l.stackTraces = false) (S : Sw) (r0 : Int32) : Ct l G b yX8_isRate cX8_isRate 1 (some .boolean) rmX8_isRate mI [.int r0] S (fun r S' => S' = S ∧ (isRt r0 → r = 1) ∧ (¬ isRt r0 → r = 0)) := by
  refine Ct.of2 pnX8 (own := RX8) rfl (Nat.le_of_ble_eq_true rfl) hst ?_
  intro p e s m args below meth c C hname
  change J p l e rmX8_isRate s m args below meth c 1 G b _ 0 [(0, .int r0)] [] S 0 0
  refine r_iload_n (i := 0) (n := 1) C dX8_isRate_0 rfl rfl rfl ?_
  refine r_sipush (v := 8000) (n := 4) C dX8_isRate_1 rfl rfl ?_
  refine r_icmp_eq (n := 7) (t := 47) C dX8_isRate_4 (by decide) rfl (fun h4 => ?_) (fun h4 => ?_)
  · refine r_iconst (v := 1) (n := 48) C dX8_isRate_47 rfl rfl ?_
    refine r_goto (t := 52) C dX8_isRate_48 (by decide) ?_
    refine t_i C rfl dX8_isRate_52 (by decide) ?_
    refine ⟨rfl, ?_, ?_⟩ <;> simp_all [isRt]
  · refine r_iload_n (i := 0) (n := 8) C dX8_isRate_7 rfl rfl rfl ?_
    refine r_sipush (v := 11025) (n := 11) C dX8_isRate_8 rfl rfl ?_
    refine r_icmp_eq (n := 14) (t := 47) C dX8_isRate_11 (by decide) rfl (fun h11 => ?_) (fun h11 => ?_)
    · refine r_iconst (v := 1) (n := 48) C dX8_isRate_47 rfl rfl ?_
      refine r_goto (t := 52) C dX8_isRate_48 (by decide) ?_
      refine t_i C rfl dX8_isRate_52 (by decide) ?_
      refine ⟨rfl, ?_, ?_⟩ <;> simp_all [isRt]
    · refine r_iload_n (i := 0) (n := 15) C dX8_isRate_14 rfl rfl rfl ?_
      refine r_sipush (v := 16000) (n := 18) C dX8_isRate_15 rfl rfl ?_
      refine r_icmp_eq (n := 21) (t := 47) C dX8_isRate_18 (by decide) rfl (fun h18 => ?_) (fun h18 => ?_)
      · refine r_iconst (v := 1) (n := 48) C dX8_isRate_47 rfl rfl ?_
        refine r_goto (t := 52) C dX8_isRate_48 (by decide) ?_
        refine t_i C rfl dX8_isRate_52 (by decide) ?_
        refine ⟨rfl, ?_, ?_⟩ <;> simp_all [isRt]
      · refine r_iload_n (i := 0) (n := 22) C dX8_isRate_21 rfl rfl rfl ?_
        refine r_sipush (v := 22050) (n := 25) C dX8_isRate_22 rfl rfl ?_
        refine r_icmp_eq (n := 28) (t := 47) C dX8_isRate_25 (by decide) rfl (fun h25 => ?_) (fun h25 => ?_)
        · refine r_iconst (v := 1) (n := 48) C dX8_isRate_47 rfl rfl ?_
          refine r_goto (t := 52) C dX8_isRate_48 (by decide) ?_
          refine t_i C rfl dX8_isRate_52 (by decide) ?_
          refine ⟨rfl, ?_, ?_⟩ <;> simp_all [isRt]
        · refine r_iload_n (i := 0) (n := 29) C dX8_isRate_28 rfl rfl rfl ?_
          refine r_sipush (v := 32000) (n := 32) C dX8_isRate_29 rfl rfl ?_
          refine r_icmp_eq (n := 35) (t := 47) C dX8_isRate_32 (by decide) rfl (fun h32 => ?_) (fun h32 => ?_)
          · refine r_iconst (v := 1) (n := 48) C dX8_isRate_47 rfl rfl ?_
            refine r_goto (t := 52) C dX8_isRate_48 (by decide) ?_
            refine t_i C rfl dX8_isRate_52 (by decide) ?_
            refine ⟨rfl, ?_, ?_⟩ <;> simp_all [isRt]
          · refine r_iload_n (i := 0) (n := 36) C dX8_isRate_35 rfl rfl rfl ?_
            refine r_ldc (n := 38) (v := 44100) C (mem_tb (mem_tbl 884 (by decide +kernel)) (by decide +kernel)) dX8_isRate_36 rfl ?_
            refine r_icmp_eq (n := 41) (t := 47) C dX8_isRate_38 (by decide) rfl (fun h38 => ?_) (fun h38 => ?_)
            · refine r_iconst (v := 1) (n := 48) C dX8_isRate_47 rfl rfl ?_
              refine r_goto (t := 52) C dX8_isRate_48 (by decide) ?_
              refine t_i C rfl dX8_isRate_52 (by decide) ?_
              refine ⟨rfl, ?_, ?_⟩ <;> simp_all [isRt]
            · refine r_iload_n (i := 0) (n := 42) C dX8_isRate_41 rfl rfl rfl ?_
              refine r_ldc (n := 44) (v := 48000) C (mem_tb (mem_tbl 885 (by decide +kernel)) (by decide +kernel)) dX8_isRate_42 rfl ?_
              refine r_icmp_ne (n := 47) (t := 51) C dX8_isRate_44 (by decide) rfl (fun h44 => ?_) (fun h44 => ?_)
              · refine r_iconst (v := 0) (n := 52) C dX8_isRate_51 rfl rfl ?_
                refine t_i C rfl dX8_isRate_52 (by decide) ?_
                refine ⟨rfl, ?_, ?_⟩ <;> simp_all [isRt]
              · refine r_iconst (v := 1) (n := 48) C dX8_isRate_47 rfl rfl ?_
                refine r_goto (t := 52) C dX8_isRate_48 (by decide) ?_
                refine t_i C rfl dX8_isRate_52 (by decide) ?_
                refine ⟨rfl, ?_, ?_⟩ <;> simp_all [isRt]
set_option maxRecDepth 100000 in
set_option maxHeartbeats 1000000 in
theorem m_placeOf {l : Launch} {G : GG} {b : Nat} (hst : l.stackTraces = false) (S : Sw) (n f t : Nat) (hn : n < 2 ^ 20) (hf : f ≤ 48000) (ht : 0 < t) (ht2 : t ≤ 48000) : Ct l G b yX8_placeOf cX8_placeOf 3 (some .int) rmX8_placeOf mI [.int (nI n), .int (nI f), .int (nI t)] S (fun r S' => S' = S ∧ r = nI (n * f / t)) := by
  refine Ct.of2 pnX8 (own := RX8) rfl (Nat.le_of_ble_eq_true rfl) hst ?_
  intro p e s m args below meth c C hname
  change J p l e rmX8_placeOf s m args below meth c 3 G b _ 0 [(0, .int (nI n)), (1, .int (nI f)), (2, .int (nI t))] [] S 0 0
  refine r_iload_n (i := 0) (n := 1) C dX8_placeOf_0 rfl rfl rfl ?_
  refine r_i2l (n := 2) C dX8_placeOf_1 rfl ?_
  refine r_iload_n (i := 1) (n := 3) C dX8_placeOf_2 rfl rfl rfl ?_
  refine r_i2l (n := 4) C dX8_placeOf_3 rfl ?_
  refine r_lmul (n := 5) C dX8_placeOf_4 rfl ?_
  refine r_iload_n (i := 2) (n := 6) C dX8_placeOf_5 rfl rfl rfl ?_
  refine r_i2l (n := 7) C dX8_placeOf_6 rfl ?_
  refine r_ldiv (n := 8) C dX8_placeOf_7 (by rw [nI_l (by omega)]; exact fun h => absurd ((pk_lEQ (b := 0) (by omega) (by omega)).mp h) (by omega)) rfl ?_
  refine r_l2i (n := 9) C dX8_placeOf_8 rfl ?_
  refine t_i C rfl dX8_placeOf_9 (by decide) ?_
  refine ⟨rfl, ?_⟩
  have h9 := nf_lt hn hf
  rw [nI_l (by omega), nI_l (by omega), nI_l (by omega), lN_mul, pk_lDiv (by omega) ht (by omega), lN_i]
set_option maxRecDepth 100000 in
set_option maxHeartbeats 1000000 in
theorem m_phaseOf {l : Launch} {G : GG} {b : Nat} (hst : l.stackTraces = false) (S : Sw) (n f t : Nat) (hn : n < 2 ^ 20) (hf : f ≤ 48000) (ht : 0 < t) (ht2 : t ≤ 48000) : Ct l G b yX8_phaseOf cX8_phaseOf 3 (some .int) rmX8_phaseOf mI [.int (nI n), .int (nI f), .int (nI t)] S (fun r S' => S' = S ∧ r = nI (n * f % t * 32 / t)) := by
  refine Ct.of2 pnX8 (own := RX8) rfl (Nat.le_of_ble_eq_true rfl) hst ?_
  intro p e s m args below meth c C hname
  change J p l e rmX8_phaseOf s m args below meth c 3 G b _ 0 [(0, .int (nI n)), (1, .int (nI f)), (2, .int (nI t))] [] S 0 0
  refine r_iload_n (i := 0) (n := 1) C dX8_phaseOf_0 rfl rfl rfl ?_
  refine r_i2l (n := 2) C dX8_phaseOf_1 rfl ?_
  refine r_iload_n (i := 1) (n := 3) C dX8_phaseOf_2 rfl rfl rfl ?_
  refine r_i2l (n := 4) C dX8_phaseOf_3 rfl ?_
  refine r_lmul (n := 5) C dX8_phaseOf_4 rfl ?_
  refine r_iload_n (i := 2) (n := 6) C dX8_phaseOf_5 rfl rfl rfl ?_
  refine r_i2l (n := 7) C dX8_phaseOf_6 rfl ?_
  refine r_lrem (n := 8) C dX8_phaseOf_7 (by rw [nI_l (by omega)]; exact fun h => absurd ((pk_lEQ (b := 0) (by omega) (by omega)).mp h) (by omega)) rfl ?_
  refine r_ldc2 (n := 11) (v := 32) C (mem_tb (mem_tbl 964 (by decide +kernel)) (by decide +kernel)) dX8_phaseOf_8 rfl ?_
  refine r_lmul (n := 12) C dX8_phaseOf_11 rfl ?_
  refine r_iload_n (i := 2) (n := 13) C dX8_phaseOf_12 rfl rfl rfl ?_
  refine r_i2l (n := 14) C dX8_phaseOf_13 rfl ?_
  refine r_ldiv (n := 15) C dX8_phaseOf_14 (by rw [nI_l (by omega)]; exact fun h => absurd ((pk_lEQ (b := 0) (by omega) (by omega)).mp h) (by omega)) rfl ?_
  refine r_l2i (n := 16) C dX8_phaseOf_15 rfl ?_
  refine t_i C rfl dX8_phaseOf_16 (by decide) ?_
  refine ⟨rfl, ?_⟩
  have h9 := nf_lt hn hf
  have h8 := Nat.mod_lt (n * f) ht
  rw [nI_l (by omega), nI_l (by omega), nI_l (by omega), lN_mul, pk_lRem (by omega) ht (by omega), show (32 : Int64) = lN 32 from rfl, lN_mul, pk_lDiv (by omega) ht (by omega), lN_i]
set_option maxRecDepth 100000 in
set_option maxHeartbeats 1000000 in
theorem m_sampleAt {l : Launch} {G : GG} {b : Nat} (hst : l.stackTraces = false) (S : Sw) (z : Nat) (ad : Nat → Nat) (hm : lay S z ad) (c0 h : Nat) (hc : c0 < 6) (hh : aI S (ad 810) c0 = nI h) (hb : h ≤ 12800) (i rt : Int32) : Ct l G b yX8_sampleAt cX8_sampleAt 4 (some .int) rmX8_sampleAt mI [.ref z, .int (nI c0), .int i, .int rt] S (fun r S' => S' = S ∧ r = gM S ad c0 h rt i.toInt) := by
  refine Ct.of2 pnX8 (own := RX8) rfl (Nat.le_of_ble_eq_true rfl) hst ?_
  intro p e s m args below meth c C hname
  change J p l e rmX8_sampleAt s m args below meth c 4 G b _ 0 [(0, .ref z), (1, .int (nI c0)), (2, .int i), (3, .int rt)] [] S 0 0
  refine r_iload_n (i := 2) (n := 1) C dX8_sampleAt_0 rfl rfl rfl ?_
  refine r_if_lt (n := 4) (t := 14) C dX8_sampleAt_1 (by decide) rfl (fun h1 => ?_) (fun h1 => ?_)
  · refine r_iconst (v := 0) (n := 15) C dX8_sampleAt_14 rfl rfl ?_
    refine r_goto (t := 49) C dX8_sampleAt_15 (by decide) ?_
    refine t_i C rfl dX8_sampleAt_49 (by decide) ?_
    refine ⟨rfl, ?_⟩
    unfold gM
    first | (rw [if_pos (Or.inl (by simp only [Int32.lt_iff_toInt_lt] at h1; exact h1))]) | (rw [nI_toInt hj, if_neg (by omega)]; simp [*]; done) | (rw [nI_toInt hj, if_pos (by omega)])
  · obtain ⟨j, hj, rfl⟩ := nI_of h1
    refine r_iload_n (i := 2) (n := 5) C dX8_sampleAt_4 rfl rfl rfl ?_
    refine r_aload_n (i := 0) (n := 6) C dX8_sampleAt_5 rfl rfl rfl ?_
    refine hX8_38 (n := 9) C hm dX8_sampleAt_6 rfl ?_
    refine r_iload_n (i := 1) (n := 10) C dX8_sampleAt_9 rfl rfl rfl ?_
    refine q_ialdv (n := 11) (v := nI (h)) C (c0) (ly_810 hm) rfl (by omega) dX8_sampleAt_10 rfl hh ?_
    refine r_icmp_lt (n := 14) (t := 18) C dX8_sampleAt_11 (by decide) rfl (fun h11 => ?_) (fun h11 => ?_)
    · have h12 : j < h := (nI_ltI hj (by omega)).mp h11
      refine r_iload_n (i := 3) (n := 19) C dX8_sampleAt_18 rfl rfl rfl ?_
      refine r_if_eq (n := 22) (t := 37) C dX8_sampleAt_19 (by decide) rfl (fun h19 => ?_) (fun h19 => ?_)
      · refine r_aload_n (i := 0) (n := 38) C dX8_sampleAt_37 rfl rfl rfl ?_
        refine hX8_42 (n := 41) C hm dX8_sampleAt_38 rfl ?_
        refine r_sipush (v := 12800) (n := 44) C dX8_sampleAt_41 rfl rfl ?_
        refine r_iload_n (i := 1) (n := 45) C dX8_sampleAt_44 rfl rfl rfl ?_
        refine r_imul (n := 46) C dX8_sampleAt_45 rfl ?_
        refine r_iload_n (i := 2) (n := 47) C dX8_sampleAt_46 rfl rfl rfl ?_
        refine r_iadd (n := 48) C dX8_sampleAt_47 rfl ?_
        refine q_iald (n := 49) C (((12800 * c0) + j)) (ly_811 hm) (add_nI (a := (12800 * c0)) (b := j) (mul_nI (a := 12800) (b := c0) rfl rfl) rfl) (by omega) dX8_sampleAt_48 rfl ?_
        refine t_i C rfl dX8_sampleAt_49 (by decide) ?_
        refine ⟨rfl, ?_⟩
        unfold gM
        rw [nI_toInt hj, if_neg (by omega)]
        simp [*]
      · refine r_aload_n (i := 0) (n := 23) C dX8_sampleAt_22 rfl rfl rfl ?_
        refine hX8_45 (n := 26) C hm dX8_sampleAt_23 rfl ?_
        refine r_sipush (v := 12800) (n := 29) C dX8_sampleAt_26 rfl rfl ?_
        refine r_iload_n (i := 1) (n := 30) C dX8_sampleAt_29 rfl rfl rfl ?_
        refine r_imul (n := 31) C dX8_sampleAt_30 rfl ?_
        refine r_iload_n (i := 2) (n := 32) C dX8_sampleAt_31 rfl rfl rfl ?_
        refine r_iadd (n := 33) C dX8_sampleAt_32 rfl ?_
        refine q_iald (n := 34) C (((12800 * c0) + j)) (ly_812 hm) (add_nI (a := (12800 * c0)) (b := j) (mul_nI (a := 12800) (b := c0) rfl rfl) rfl) (by omega) dX8_sampleAt_33 rfl ?_
        refine r_goto (t := 49) C dX8_sampleAt_34 (by decide) ?_
        refine t_i C rfl dX8_sampleAt_49 (by decide) ?_
        refine ⟨rfl, ?_⟩
        unfold gM
        rw [nI_toInt hj, if_neg (by omega)]
        simp [*]
    · have h12 : ¬ j < h := fun z => h11 ((nI_ltI hj (by omega)).mpr z)
      refine r_iconst (v := 0) (n := 15) C dX8_sampleAt_14 rfl rfl ?_
      refine r_goto (t := 49) C dX8_sampleAt_15 (by decide) ?_
      refine t_i C rfl dX8_sampleAt_49 (by decide) ?_
      refine ⟨rfl, ?_⟩
      unfold gM
      rw [nI_toInt hj, if_pos (by omega)]
