theorem i32_nat {c : Int32} (h0 : ¬ c < 0) : ∃ j, c = nI j ∧ j < 2 ^ 31 := ⟨c.toInt.toNat, by
    have h1 : 0 ≤ c.toInt := by rw [Int32.lt_iff_toInt_lt] at h0; exact Int.not_lt.mp h0
    show c = Int32.ofInt ((c.toInt.toNat : Nat) : Int)
    rw [Int.toNat_of_nonneg h1, Int32.ofInt_toInt], by
    have h2 := Int32.toInt_lt c
    have h1 : 0 ≤ c.toInt := by rw [Int32.lt_iff_toInt_lt] at h0; exact Int.not_lt.mp h0
    omega⟩
theorem i32_nat6 {c : Int32} {k : Nat} (hk : k < 2 ^ 31) (h0 : ¬ c < 0) (h6 : ¬ nI k ≤ c) : ∃ j, c = nI j ∧ j < k := by
  obtain ⟨j, rfl, hj⟩ := i32_nat h0
  exact ⟨j, rfl, Nat.lt_of_not_le (fun q => h6 (nI_le q hj))⟩
set_option maxRecDepth 100000 in
set_option maxHeartbeats 1000000 in
theorem c_rc_n {l : Launch} {G : GG} {b : Nat} (hst : l.stackTraces = false) (S : Sw) (a cl : Nat) (hk : sK S a = 7) (hcl : fR S 702 a = some cl) (hic : isC S cl 6) (c0 : Int32) (hno_ : ∀ j, j < 6 → c0 = nI j → aR S cl j = none) : Cth l G b yX7_requireClient cX7_requireClient 2 (some (.object "SoundKernel$Client")) rmX7_requireClient mA [.ref a, .int c0] S (fun _ _ => False) (fun k => k = 1) := by
  refine Cth.of2 pnX7 (own := RX7) rfl (Nat.le_of_ble_eq_true rfl) hst ?_
  intro p e s m args below meth c C hname hno
  change J p l e rmX7_requireClient s m args below meth c 2 G b _ 0 [(0, .ref a), (1, .int c0)] [] S 0 0
  refine r_iload_n (i := 1) (n := 1) C dX7_requireClient_0 rfl rfl rfl ?_
  refine r_if_lt (n := 4) (t := 19) C dX7_requireClient_1 (by decide) rfl (fun h1 => ?_) (fun h1 => ?_)
  · exact r_throw (k := 1) (is := 212) (tx := "no such client") C hno (Or.inl rfl) (by decide) at_1 (mem_tb (mem_tbl 289 (by decide +kernel)) (by decide +kernel)) (mem_tb (mem_tbl 9 (by decide +kernel)) (by decide +kernel)) dX7_requireClient_19 dX7_requireClient_22 dX7_requireClient_23 dX7_requireClient_25 dX7_requireClient_28 (by decide) (by decide) (by decide) rfl
  · refine r_iload_n (i := 1) (n := 5) C dX7_requireClient_4 rfl rfl rfl ?_
    refine r_bipush (v := 6) (n := 7) C dX7_requireClient_5 rfl rfl ?_
    refine r_icmp_ge (n := 10) (t := 19) C dX7_requireClient_7 (by decide) rfl (fun h7 => ?_) (fun h7 => ?_)
    · exact r_throw (k := 1) (is := 212) (tx := "no such client") C hno (Or.inl rfl) (by decide) at_1 (mem_tb (mem_tbl 289 (by decide +kernel)) (by decide +kernel)) (mem_tb (mem_tbl 9 (by decide +kernel)) (by decide +kernel)) dX7_requireClient_19 dX7_requireClient_22 dX7_requireClient_23 dX7_requireClient_25 dX7_requireClient_28 (by decide) (by decide) (by decide) rfl
    · refine r_aload_n (i := 0) (n := 11) C dX7_requireClient_10 rfl rfl rfl ?_
      refine gX7_25 (n := 14) C hk hcl dX7_requireClient_11 rfl ?_
      refine r_iload_n (i := 1) (n := 15) C dX7_requireClient_14 rfl rfl rfl ?_
      obtain ⟨j9, rfl, hj9⟩ := i32_nat6 (k := 6) (by omega) h1 h7
      refine r_aaldC (n := 16) (j := j9) (v := .null) C hic.1 rfl (by rw [hic.2.1]; exact hj9) (by rw [hic.2.1]; decide) (by rw [hno_ j9 hj9 rfl]; rfl) dX7_requireClient_15 rfl ?_
      refine r_ifnonnullN (n := 19) C dX7_requireClient_16 rfl ?_
      exact r_throw (k := 1) (is := 212) (tx := "no such client") C hno (Or.inl rfl) (by decide) at_1 (mem_tb (mem_tbl 289 (by decide +kernel)) (by decide +kernel)) (mem_tb (mem_tbl 9 (by decide +kernel)) (by decide +kernel)) dX7_requireClient_19 dX7_requireClient_22 dX7_requireClient_23 dX7_requireClient_25 dX7_requireClient_28 (by decide) (by decide) (by decide) rfl
set_option maxRecDepth 100000 in
set_option maxHeartbeats 1000000 in
theorem c_rc_y {l : Launch} {G : GG} {b : Nat} (hst : l.stackTraces = false) (S : Sw) (a cl : Nat) (hk : sK S a = 7) (hcl : fR S 702 a = some cl) (hic : isC S cl 6) (j x : Nat) (hj : j < 6) (hx : aR S cl j = some x) : Cth l G b yX7_requireClient cX7_requireClient 2 (some (.object "SoundKernel$Client")) rmX7_requireClient mA [.ref a, .int (nI j)] S (fun r S' => S' = S ∧ r = x) (fun _ => False) := by
  refine Cth.of2 pnX7 (own := RX7) rfl (Nat.le_of_ble_eq_true rfl) hst ?_
  intro p e s m args below meth c C hname hno
  change J p l e rmX7_requireClient s m args below meth c 2 G b _ 0 [(0, .ref a), (1, .int (nI j))] [] S 0 0
  refine r_iload_n (i := 1) (n := 1) C dX7_requireClient_0 rfl rfl rfl ?_
  refine r_if_ltF (n := 4) (t := 19) C (cnlt (a := j) (b := 0) rfl rfl (by omega) (by omega)) dX7_requireClient_1 (by decide) rfl ?_
  refine r_iload_n (i := 1) (n := 5) C dX7_requireClient_4 rfl rfl rfl ?_
  refine r_bipush (v := 6) (n := 7) C dX7_requireClient_5 rfl rfl ?_
  refine r_icmp_geF (n := 10) (t := 19) C (cnle (a := 6) (b := j) rfl rfl (by omega) (by omega)) dX7_requireClient_7 (by decide) rfl ?_
  refine r_aload_n (i := 0) (n := 11) C dX7_requireClient_10 rfl rfl rfl ?_
  refine gX7_25 (n := 14) C hk hcl dX7_requireClient_11 rfl ?_
  refine r_iload_n (i := 1) (n := 15) C dX7_requireClient_14 rfl rfl rfl ?_
  refine r_aaldC (n := 16) (j := j) (v := .ref x) C hic.1 rfl (by rw [hic.2.1]; exact hj) (by rw [hic.2.1]; decide) (by rw [hx]; rfl) dX7_requireClient_15 rfl ?_
  refine r_ifnonnull (t := 29) C dX7_requireClient_16 (by decide) ?_
  refine r_aload_n (i := 0) (n := 30) C dX7_requireClient_29 rfl rfl rfl ?_
  refine gX7_25 (n := 33) C hk hcl dX7_requireClient_30 rfl ?_
  refine r_iload_n (i := 1) (n := 34) C dX7_requireClient_33 rfl rfl rfl ?_
  refine r_aaldC (n := 35) (j := j) (v := .ref x) C hic.1 rfl (by rw [hic.2.1]; exact hj) (by rw [hic.2.1]; decide) (by rw [hx]; rfl) dX7_requireClient_34 rfl ?_
  refine t_a C dX7_requireClient_35 (by decide) ?_
  exact ⟨rfl, rfl⟩
set_option maxRecDepth 100000 in
set_option maxHeartbeats 1000000 in
theorem c_rp_n {l : Launch} {G : GG} {b : Nat} (hst : l.stackTraces = false) (S : Sw) (a cl : Nat) (hk : sK S a = 7) (hcl : fR S 702 a = some cl) (hic : isC S cl 6) (c0 : Int32) (hno_ : ∀ j, j < 6 → c0 = nI j → aR S cl j = none) : Cth l G b yX7_requirePlayer cX7_requirePlayer 4 (some (.object "SoundKernel$Player")) rmX7_requirePlayer mA [.ref a, .int c0] S (fun _ _ => False) (fun k => k = 1) := by
  refine Cth.of2 pnX7 (own := RX7) rfl (Nat.le_of_ble_eq_true rfl) hst ?_
  intro p e s m args below meth c C hname hno
  change J p l e rmX7_requirePlayer s m args below meth c 4 G b _ 0 [(0, .ref a), (1, .int c0)] [] S 0 0
  refine r_aload_n (i := 0) (n := 1) C dX7_requirePlayer_0 rfl rfl rfl ?_
  refine r_iload_n (i := 1) (n := 2) C dX7_requirePlayer_1 rfl rfl rfl ?_
  refine kX7_85 (n := 5) C (c_rc_n hst S a cl hk hcl hic c0 hno_) hk (by decide) (by decide) (Nat.le_of_ble_eq_true rfl) dX7_requirePlayer_2 rfl (fun k9 hk9 hx9 => JX.out C hno hk9 (by decide) hx9) (fun r S1 hp => ?_)
  exact hp.elim
set_option maxRecDepth 100000 in
set_option maxHeartbeats 1000000 in
theorem c_rp_k {l : Launch} {G : GG} {b : Nat} (hst : l.stackTraces = false) (S : Sw) (a cl : Nat) (hk : sK S a = 7) (hcl : fR S 702 a = some cl) (hic : isC S cl 6) (j x : Nat) (hj : j < 6) (hx : aR S cl j = some x) (hkx : sK S x = 4) : Cth l G b yX7_requirePlayer cX7_requirePlayer 4 (some (.object "SoundKernel$Player")) rmX7_requirePlayer mA [.ref a, .int (nI j)] S (fun _ _ => False) (fun k => k = 1) := by
  refine Cth.of2 pnX7 (own := RX7) rfl (Nat.le_of_ble_eq_true rfl) hst ?_
  intro p e s m args below meth c C hname hno
  change J p l e rmX7_requirePlayer s m args below meth c 4 G b _ 0 [(0, .ref a), (1, .int (nI j))] [] S 0 0
  refine r_aload_n (i := 0) (n := 1) C dX7_requirePlayer_0 rfl rfl rfl ?_
  refine r_iload_n (i := 1) (n := 2) C dX7_requirePlayer_1 rfl rfl rfl ?_
  refine kX7_85 (n := 5) C (c_rc_y hst S a cl hk hcl hic j x hj hx) hk (by decide) (by decide) (Nat.le_of_ble_eq_true rfl) dX7_requirePlayer_2 rfl (fun _ _ h9 => h9.elim) (fun r S1 hp => ?_)
  obtain ⟨hS9, hr9⟩ := hp
  subst S1
  subst r
  refine r_astore_n (i := 3) (n := 6) C dX7_requirePlayer_5 rfl (by decide) rfl rfl ?_
  refine r_aload_n (i := 3) (n := 7) C dX7_requirePlayer_6 rfl rfl rfl ?_
  refine r_instNo (n := 10) (q := (RX4, TX4, 10)) (nm := RX5) C (mem_tb (mem_tbl 119 (by decide +kernel)) (by decide +kernel)) (by decide) (by rw [hkx]; decide) (ent_4 hkx) rfl dX7_requirePlayer_7 rfl ?_
  refine r_if_eqT (t := 20) C rfl dX7_requirePlayer_10 (by decide) ?_
  exact r_throw (k := 1) (is := 214) (tx := "the client listens") C hno (Or.inl rfl) (by decide) at_1 (mem_tb (mem_tbl 289 (by decide +kernel)) (by decide +kernel)) (mem_tb (mem_tbl 9 (by decide +kernel)) (by decide +kernel)) dX7_requirePlayer_20 dX7_requirePlayer_23 dX7_requirePlayer_24 dX7_requirePlayer_26 dX7_requirePlayer_29 (by decide) (by decide) (by decide) rfl
set_option maxRecDepth 100000 in
set_option maxHeartbeats 1000000 in
theorem c_rp_y {l : Launch} {G : GG} {b : Nat} (hst : l.stackTraces = false) (S : Sw) (a cl : Nat) (hk : sK S a = 7) (hcl : fR S 702 a = some cl) (hic : isC S cl 6) (j x : Nat) (hj : j < 6) (hx : aR S cl j = some x) (hkx : sK S x = 5) : Cth l G b yX7_requirePlayer cX7_requirePlayer 4 (some (.object "SoundKernel$Player")) rmX7_requirePlayer mA [.ref a, .int (nI j)] S (fun r S' => S' = S ∧ r = x) (fun _ => False) := by
  refine Cth.of2 pnX7 (own := RX7) rfl (Nat.le_of_ble_eq_true rfl) hst ?_
  intro p e s m args below meth c C hname hno
  change J p l e rmX7_requirePlayer s m args below meth c 4 G b _ 0 [(0, .ref a), (1, .int (nI j))] [] S 0 0
  refine r_aload_n (i := 0) (n := 1) C dX7_requirePlayer_0 rfl rfl rfl ?_
  refine r_iload_n (i := 1) (n := 2) C dX7_requirePlayer_1 rfl rfl rfl ?_
  refine kX7_85 (n := 5) C (c_rc_y hst S a cl hk hcl hic j x hj hx) hk (by decide) (by decide) (Nat.le_of_ble_eq_true rfl) dX7_requirePlayer_2 rfl (fun _ _ h9 => h9.elim) (fun r S1 hp => ?_)
  obtain ⟨hS9, hr9⟩ := hp
  subst S1
  subst r
  refine r_astore_n (i := 3) (n := 6) C dX7_requirePlayer_5 rfl (by decide) rfl rfl ?_
  refine r_aload_n (i := 3) (n := 7) C dX7_requirePlayer_6 rfl rfl rfl ?_
  refine r_instY (n := 10) (q := (RX5, TX5, 15)) C (mem_tb (mem_tbl 119 (by decide +kernel)) (by decide +kernel)) (mem_bw (mem_tbl 1083 (by decide +kernel)) rfl) (by rw [hkx]; decide) (ent_5 hkx) rfl dX7_requirePlayer_7 rfl ?_
  refine r_if_eqF (n := 13) (t := 20) C (by decide) dX7_requirePlayer_10 (by decide) rfl ?_
  refine r_aload_n (i := 3) (n := 14) C dX7_requirePlayer_13 rfl rfl rfl ?_
  refine r_castY (n := 17) (q := (RX5, TX5, 15)) C (mem_tb (mem_tbl 119 (by decide +kernel)) (by decide +kernel)) (mem_bw (mem_tbl 1083 (by decide +kernel)) rfl) (by rw [hkx]; decide) (ent_5 hkx) rfl dX7_requirePlayer_14 rfl ?_
  refine r_astore_n (i := 2) (n := 18) C dX7_requirePlayer_17 rfl (by decide) rfl rfl ?_
  refine r_aload_n (i := 2) (n := 19) C dX7_requirePlayer_18 rfl rfl rfl ?_
  refine t_a C dX7_requirePlayer_19 (by decide) ?_
  exact ⟨rfl, rfl⟩
set_option maxRecDepth 100000 in
set_option maxHeartbeats 1000000 in
theorem c_rl_n {l : Launch} {G : GG} {b : Nat} (hst : l.stackTraces = false) (S : Sw) (a cl : Nat) (hk : sK S a = 7) (hcl : fR S 702 a = some cl) (hic : isC S cl 6) (c0 : Int32) (hno_ : ∀ j, j < 6 → c0 = nI j → aR S cl j = none) : Cth l G b yX7_requireListener cX7_requireListener 4 (some (.object "SoundKernel$Listener")) rmX7_requireListener mA [.ref a, .int c0] S (fun _ _ => False) (fun k => k = 1) := by
  refine Cth.of2 pnX7 (own := RX7) rfl (Nat.le_of_ble_eq_true rfl) hst ?_
  intro p e s m args below meth c C hname hno
  change J p l e rmX7_requireListener s m args below meth c 4 G b _ 0 [(0, .ref a), (1, .int c0)] [] S 0 0
  refine r_aload_n (i := 0) (n := 1) C dX7_requireListener_0 rfl rfl rfl ?_
  refine r_iload_n (i := 1) (n := 2) C dX7_requireListener_1 rfl rfl rfl ?_
  refine kX7_85 (n := 5) C (c_rc_n hst S a cl hk hcl hic c0 hno_) hk (by decide) (by decide) (Nat.le_of_ble_eq_true rfl) dX7_requireListener_2 rfl (fun k9 hk9 hx9 => JX.out C hno hk9 (by decide) hx9) (fun r S1 hp => ?_)
  exact hp.elim
set_option maxRecDepth 100000 in
set_option maxHeartbeats 1000000 in
theorem c_rl_k {l : Launch} {G : GG} {b : Nat} (hst : l.stackTraces = false) (S : Sw) (a cl : Nat) (hk : sK S a = 7) (hcl : fR S 702 a = some cl) (hic : isC S cl 6) (j x : Nat) (hj : j < 6) (hx : aR S cl j = some x) (hkx : sK S x = 5) : Cth l G b yX7_requireListener cX7_requireListener 4 (some (.object "SoundKernel$Listener")) rmX7_requireListener mA [.ref a, .int (nI j)] S (fun _ _ => False) (fun k => k = 1) := by
  refine Cth.of2 pnX7 (own := RX7) rfl (Nat.le_of_ble_eq_true rfl) hst ?_
  intro p e s m args below meth c C hname hno
  change J p l e rmX7_requireListener s m args below meth c 4 G b _ 0 [(0, .ref a), (1, .int (nI j))] [] S 0 0
  refine r_aload_n (i := 0) (n := 1) C dX7_requireListener_0 rfl rfl rfl ?_
  refine r_iload_n (i := 1) (n := 2) C dX7_requireListener_1 rfl rfl rfl ?_
  refine kX7_85 (n := 5) C (c_rc_y hst S a cl hk hcl hic j x hj hx) hk (by decide) (by decide) (Nat.le_of_ble_eq_true rfl) dX7_requireListener_2 rfl (fun _ _ h9 => h9.elim) (fun r S1 hp => ?_)
  obtain ⟨hS9, hr9⟩ := hp
  subst S1
  subst r
  refine r_astore_n (i := 3) (n := 6) C dX7_requireListener_5 rfl (by decide) rfl rfl ?_
  refine r_aload_n (i := 3) (n := 7) C dX7_requireListener_6 rfl rfl rfl ?_
  refine r_instNo (n := 10) (q := (RX5, TX5, 15)) (nm := RX4) C (mem_tb (mem_tbl 242 (by decide +kernel)) (by decide +kernel)) (by decide) (by rw [hkx]; decide) (ent_5 hkx) rfl dX7_requireListener_7 rfl ?_
  refine r_if_eqT (t := 20) C rfl dX7_requireListener_10 (by decide) ?_
  exact r_throw (k := 1) (is := 216) (tx := "the client plays") C hno (Or.inl rfl) (by decide) at_1 (mem_tb (mem_tbl 289 (by decide +kernel)) (by decide +kernel)) (mem_tb (mem_tbl 9 (by decide +kernel)) (by decide +kernel)) dX7_requireListener_20 dX7_requireListener_23 dX7_requireListener_24 dX7_requireListener_26 dX7_requireListener_29 (by decide) (by decide) (by decide) rfl
set_option maxRecDepth 100000 in
set_option maxHeartbeats 1000000 in
theorem c_rl_y {l : Launch} {G : GG} {b : Nat} (hst : l.stackTraces = false) (S : Sw) (a cl : Nat) (hk : sK S a = 7) (hcl : fR S 702 a = some cl) (hic : isC S cl 6) (j x : Nat) (hj : j < 6) (hx : aR S cl j = some x) (hkx : sK S x = 4) : Cth l G b yX7_requireListener cX7_requireListener 4 (some (.object "SoundKernel$Listener")) rmX7_requireListener mA [.ref a, .int (nI j)] S (fun r S' => S' = S ∧ r = x) (fun _ => False) := by
  refine Cth.of2 pnX7 (own := RX7) rfl (Nat.le_of_ble_eq_true rfl) hst ?_
  intro p e s m args below meth c C hname hno
  change J p l e rmX7_requireListener s m args below meth c 4 G b _ 0 [(0, .ref a), (1, .int (nI j))] [] S 0 0
  refine r_aload_n (i := 0) (n := 1) C dX7_requireListener_0 rfl rfl rfl ?_
  refine r_iload_n (i := 1) (n := 2) C dX7_requireListener_1 rfl rfl rfl ?_
  refine kX7_85 (n := 5) C (c_rc_y hst S a cl hk hcl hic j x hj hx) hk (by decide) (by decide) (Nat.le_of_ble_eq_true rfl) dX7_requireListener_2 rfl (fun _ _ h9 => h9.elim) (fun r S1 hp => ?_)
  obtain ⟨hS9, hr9⟩ := hp
  subst S1
  subst r
  refine r_astore_n (i := 3) (n := 6) C dX7_requireListener_5 rfl (by decide) rfl rfl ?_
  refine r_aload_n (i := 3) (n := 7) C dX7_requireListener_6 rfl rfl rfl ?_
  refine r_instY (n := 10) (q := (RX4, TX4, 10)) C (mem_tb (mem_tbl 242 (by decide +kernel)) (by decide +kernel)) (mem_bw (mem_tbl 1084 (by decide +kernel)) rfl) (by rw [hkx]; decide) (ent_4 hkx) rfl dX7_requireListener_7 rfl ?_
  refine r_if_eqF (n := 13) (t := 20) C (by decide) dX7_requireListener_10 (by decide) rfl ?_
  refine r_aload_n (i := 3) (n := 14) C dX7_requireListener_13 rfl rfl rfl ?_
  refine r_castY (n := 17) (q := (RX4, TX4, 10)) C (mem_tb (mem_tbl 242 (by decide +kernel)) (by decide +kernel)) (mem_bw (mem_tbl 1084 (by decide +kernel)) rfl) (by rw [hkx]; decide) (ent_4 hkx) rfl dX7_requireListener_14 rfl ?_
  refine r_astore_n (i := 2) (n := 18) C dX7_requireListener_17 rfl (by decide) rfl rfl ?_
  refine r_aload_n (i := 2) (n := 19) C dX7_requireListener_18 rfl rfl rfl ?_
  refine t_a C dX7_requireListener_19 (by decide) ?_
  exact ⟨rfl, rfl⟩
set_option maxRecDepth 100000 in
set_option maxHeartbeats 1000000 in
theorem c_rr_n4 {l : Launch} {G : GG} {b : Nat} (hst : l.stackTraces = false) (S : Sw) (x : Nat) (hkx : sK S x = 4) (hc1 : ¬ fI S 2 x = 1) : Cth l G b yX7_requireRunning cX7_requireRunning 1 none rmX7_requireRunning mV [.ref x] S (fun _ _ => False) (fun k => k = 2) := by
  refine Cth.of2 pnX7 (own := RX7) rfl (Nat.le_of_ble_eq_true rfl) hst ?_
  intro p e s m args below meth c C hname hno
  change J p l e rmX7_requireRunning s m args below meth c 1 G b _ 0 [(0, .ref x)] [] S 0 0
  refine r_aload_n (i := 0) (n := 1) C dX7_requireRunning_0 rfl rfl rfl ?_
  refine gX7_100_4 (n := 4) C (by first | with_reducible assumption | (simp only [sK_uI, sK_uJ, sK_uR, sK_wI, sK_wR, sK_wD, sK_wJ, sK_wIs, aN_uI, aN_uJ, aN_uR, aN_wI, aN_wR, aN_wD, aN_wJ, aN_wIs, fR_uI, fR_uJ, fR_wI, fR_wR, fR_wD, fR_wJ, fR_wIs, isI_uI, isI_uJ, isI_wI, isI_wR, isI_wD, isI_wJ, isI_wIs, isC_uI, isC_uJ, isC_wI, isC_wR, isC_wD, isC_wJ, isC_wIs, isG_uI, isG_uJ, isG_wI, isG_wR, isG_wD, isG_wJ, isG_wIs, isZ_uI, isZ_uJ, isZ_wI, isZ_wR, isZ_wD, isZ_wJ, isZ_wIs, isD_uI, isD_uJ, isD_wI, isD_wR, isD_wD, isD_wJ, isD_wIs, isL_uI, isL_uJ, isL_wI, isL_wR, isL_wD, isL_wJ, isL_wIs]; with_reducible assumption)) dX7_requireRunning_1 rfl ?_
  refine r_iconst (v := 1) (n := 5) C dX7_requireRunning_4 rfl rfl ?_
  refine r_icmp_eqF (n := 8) (t := 18) C hc1 dX7_requireRunning_5 (by decide) rfl ?_
  exact r_throw (k := 2) (is := 218) (tx := "not running") C hno (Or.inr rfl) (by decide) at_2 (mem_tb (mem_tbl 360 (by decide +kernel)) (by decide +kernel)) (mem_tb (mem_tbl 10 (by decide +kernel)) (by decide +kernel)) dX7_requireRunning_8 dX7_requireRunning_11 dX7_requireRunning_12 dX7_requireRunning_14 dX7_requireRunning_17 (by decide) (by decide) (by decide) rfl
set_option maxRecDepth 100000 in
set_option maxHeartbeats 1000000 in
theorem c_rr_y4 {l : Launch} {G : GG} {b : Nat} (hst : l.stackTraces = false) (S : Sw) (x : Nat) (hkx : sK S x = 4) (hc1 : fI S 2 x = 1) : Cth l G b yX7_requireRunning cX7_requireRunning 1 none rmX7_requireRunning mV [.ref x] S (fun _ S' => S' = S) (fun _ => False) := by
  refine Cth.of2 pnX7 (own := RX7) rfl (Nat.le_of_ble_eq_true rfl) hst ?_
  intro p e s m args below meth c C hname hno
  change J p l e rmX7_requireRunning s m args below meth c 1 G b _ 0 [(0, .ref x)] [] S 0 0
  refine r_aload_n (i := 0) (n := 1) C dX7_requireRunning_0 rfl rfl rfl ?_
  refine gX7_100_4 (n := 4) C (by first | with_reducible assumption | (simp only [sK_uI, sK_uJ, sK_uR, sK_wI, sK_wR, sK_wD, sK_wJ, sK_wIs, aN_uI, aN_uJ, aN_uR, aN_wI, aN_wR, aN_wD, aN_wJ, aN_wIs, fR_uI, fR_uJ, fR_wI, fR_wR, fR_wD, fR_wJ, fR_wIs, isI_uI, isI_uJ, isI_wI, isI_wR, isI_wD, isI_wJ, isI_wIs, isC_uI, isC_uJ, isC_wI, isC_wR, isC_wD, isC_wJ, isC_wIs, isG_uI, isG_uJ, isG_wI, isG_wR, isG_wD, isG_wJ, isG_wIs, isZ_uI, isZ_uJ, isZ_wI, isZ_wR, isZ_wD, isZ_wJ, isZ_wIs, isD_uI, isD_uJ, isD_wI, isD_wR, isD_wD, isD_wJ, isD_wIs, isL_uI, isL_uJ, isL_wI, isL_wR, isL_wD, isL_wJ, isL_wIs]; with_reducible assumption)) dX7_requireRunning_1 rfl ?_
  refine r_iconst (v := 1) (n := 5) C dX7_requireRunning_4 rfl rfl ?_
  refine r_icmp_eqT (t := 18) C hc1 dX7_requireRunning_5 (by decide) ?_
  refine t_v C dX7_requireRunning_18 (by decide) ?_
  rfl
set_option maxRecDepth 100000 in
set_option maxHeartbeats 1000000 in
theorem c_rr_n5 {l : Launch} {G : GG} {b : Nat} (hst : l.stackTraces = false) (S : Sw) (x : Nat) (hkx : sK S x = 5) (hc1 : ¬ fI S 2 x = 1) : Cth l G b yX7_requireRunning cX7_requireRunning 1 none rmX7_requireRunning mV [.ref x] S (fun _ _ => False) (fun k => k = 2) := by
  refine Cth.of2 pnX7 (own := RX7) rfl (Nat.le_of_ble_eq_true rfl) hst ?_
  intro p e s m args below meth c C hname hno
  change J p l e rmX7_requireRunning s m args below meth c 1 G b _ 0 [(0, .ref x)] [] S 0 0
  refine r_aload_n (i := 0) (n := 1) C dX7_requireRunning_0 rfl rfl rfl ?_
  refine gX7_100_5 (n := 4) C (by first | with_reducible assumption | (simp only [sK_uI, sK_uJ, sK_uR, sK_wI, sK_wR, sK_wD, sK_wJ, sK_wIs, aN_uI, aN_uJ, aN_uR, aN_wI, aN_wR, aN_wD, aN_wJ, aN_wIs, fR_uI, fR_uJ, fR_wI, fR_wR, fR_wD, fR_wJ, fR_wIs, isI_uI, isI_uJ, isI_wI, isI_wR, isI_wD, isI_wJ, isI_wIs, isC_uI, isC_uJ, isC_wI, isC_wR, isC_wD, isC_wJ, isC_wIs, isG_uI, isG_uJ, isG_wI, isG_wR, isG_wD, isG_wJ, isG_wIs, isZ_uI, isZ_uJ, isZ_wI, isZ_wR, isZ_wD, isZ_wJ, isZ_wIs, isD_uI, isD_uJ, isD_wI, isD_wR, isD_wD, isD_wJ, isD_wIs, isL_uI, isL_uJ, isL_wI, isL_wR, isL_wD, isL_wJ, isL_wIs]; with_reducible assumption)) dX7_requireRunning_1 rfl ?_
  refine r_iconst (v := 1) (n := 5) C dX7_requireRunning_4 rfl rfl ?_
  refine r_icmp_eqF (n := 8) (t := 18) C hc1 dX7_requireRunning_5 (by decide) rfl ?_
  exact r_throw (k := 2) (is := 218) (tx := "not running") C hno (Or.inr rfl) (by decide) at_2 (mem_tb (mem_tbl 360 (by decide +kernel)) (by decide +kernel)) (mem_tb (mem_tbl 10 (by decide +kernel)) (by decide +kernel)) dX7_requireRunning_8 dX7_requireRunning_11 dX7_requireRunning_12 dX7_requireRunning_14 dX7_requireRunning_17 (by decide) (by decide) (by decide) rfl
set_option maxRecDepth 100000 in
set_option maxHeartbeats 1000000 in
theorem c_rr_y5 {l : Launch} {G : GG} {b : Nat} (hst : l.stackTraces = false) (S : Sw) (x : Nat) (hkx : sK S x = 5) (hc1 : fI S 2 x = 1) : Cth l G b yX7_requireRunning cX7_requireRunning 1 none rmX7_requireRunning mV [.ref x] S (fun _ S' => S' = S) (fun _ => False) := by
  refine Cth.of2 pnX7 (own := RX7) rfl (Nat.le_of_ble_eq_true rfl) hst ?_
  intro p e s m args below meth c C hname hno
  change J p l e rmX7_requireRunning s m args below meth c 1 G b _ 0 [(0, .ref x)] [] S 0 0
  refine r_aload_n (i := 0) (n := 1) C dX7_requireRunning_0 rfl rfl rfl ?_
  refine gX7_100_5 (n := 4) C (by first | with_reducible assumption | (simp only [sK_uI, sK_uJ, sK_uR, sK_wI, sK_wR, sK_wD, sK_wJ, sK_wIs, aN_uI, aN_uJ, aN_uR, aN_wI, aN_wR, aN_wD, aN_wJ, aN_wIs, fR_uI, fR_uJ, fR_wI, fR_wR, fR_wD, fR_wJ, fR_wIs, isI_uI, isI_uJ, isI_wI, isI_wR, isI_wD, isI_wJ, isI_wIs, isC_uI, isC_uJ, isC_wI, isC_wR, isC_wD, isC_wJ, isC_wIs, isG_uI, isG_uJ, isG_wI, isG_wR, isG_wD, isG_wJ, isG_wIs, isZ_uI, isZ_uJ, isZ_wI, isZ_wR, isZ_wD, isZ_wJ, isZ_wIs, isD_uI, isD_uJ, isD_wI, isD_wR, isD_wD, isD_wJ, isD_wIs, isL_uI, isL_uJ, isL_wI, isL_wR, isL_wD, isL_wJ, isL_wIs]; with_reducible assumption)) dX7_requireRunning_1 rfl ?_
  refine r_iconst (v := 1) (n := 5) C dX7_requireRunning_4 rfl rfl ?_
  refine r_icmp_eqT (t := 18) C hc1 dX7_requireRunning_5 (by decide) ?_
  refine t_v C dX7_requireRunning_18 (by decide) ?_
  rfl
