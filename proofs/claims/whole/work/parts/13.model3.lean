theorem aI_wn {S : Sw} {a j a' i : Nat} {v : Int32} (h : a' ≠ a) : aI (wI S a j v) a' i = aI S a' i := if_neg (fun q => h q.1)
theorem aI_wsn {S : Sw} {a a' i : Nat} {r : Nat → Int32} (h : a' ≠ a) : aI (wIs S a r) a' i = aI S a' i := if_neg h
theorem lay.ne2 {S : Sw} {z : Nat} {ad : Nat → Nat} (h : lay S z ad) (f g : Nat) (hf : (ML.map (·.1)).contains f = true) (hg : (ML.map (·.1)).contains g = true) (hne : f ≠ g) : ad f ≠ ad g := by
  simp only [List.contains_eq_mem, decide_eq_true_eq, List.mem_map] at hf hg
  obtain ⟨q, hq, rfl⟩ := hf
  obtain ⟨r, hr, rfl⟩ := hg
  exact fun e => hne (h.2.2 q hq r hr e)
def rtN (r : Nat) : Prop := r = 8000 ∨ r = 11025 ∨ r = 16000 ∨ r = 22050 ∨ r = 32000 ∨ r = 44100 ∨ r = 48000
theorem rtN.le {r : Nat} (h : rtN r) : r ≤ 48000 ∧ 8000 ≤ r := by unfold rtN at h; omega
theorem pl_le {n f t : Nat} (hn : n < 2 ^ 20) (hf : f ≤ 48000) (ht : 8000 ≤ t) : n * f / t < 2 ^ 29 := by
  have h1 := nf_lt hn hf
  have h2 : n * f / t ≤ n * f / 8000 := Nat.div_le_div_left ht (by decide)
  have h3 : n * f ≤ 2 ^ 20 * 48000 := Nat.mul_le_mul (by omega) hf
  have h4 : n * f / 8000 ≤ 2 ^ 20 * 48000 / 8000 := Nat.div_le_div_right h3
  omega
theorem m_refused0 {l : Launch} {G : GG} {b : Nat} (hst : l.stackTraces = false) (S : Sw) (z : Nat) (ad : Nat → Nat) (hm : lay S z ad) : Ct l G b yX8_refused cX8_refused 2 (some .boolean) rmX8_refused mI [.ref z, .int 0] S (fun r S' => S' = uI S 800 z 0 ∧ r = 0) := (m_refused hst S z ad hm 0).post (fun v S' h => h)
theorem m_refused1 {l : Launch} {G : GG} {b : Nat} (hst : l.stackTraces = false) (S : Sw) (z : Nat) (ad : Nat → Nat) (hm : lay S z ad) : Ct l G b yX8_refused cX8_refused 2 (some .boolean) rmX8_refused mI [.ref z, .int 1] S (fun r S' => S' = uI S 800 z 1 ∧ r = 1) := (m_refused hst S z ad hm 1).post (fun v S' h => h)
theorem m_refused2 {l : Launch} {G : GG} {b : Nat} (hst : l.stackTraces = false) (S : Sw) (z : Nat) (ad : Nat → Nat) (hm : lay S z ad) : Ct l G b yX8_refused cX8_refused 2 (some .boolean) rmX8_refused mI [.ref z, .int 2] S (fun r S' => S' = uI S 800 z 2 ∧ r = 1) := (m_refused hst S z ad hm 2).post (fun v S' h => h)
theorem m_isCl_n {l : Launch} {G : GG} {b : Nat} (hst : l.stackTraces = false) (S : Sw) (z : Nat) (ad : Nat → Nat) (hm : lay S z ad) (c0 : Int32) (h : ¬ isCl S ad c0) : Ct l G b yX8_isClient cX8_isClient 2 (some .boolean) rmX8_isClient mI [.ref z, .int c0] S (fun r S' => S' = S ∧ r = 0) := (m_isClient hst S z ad hm c0).post (fun v S' q => ⟨q.1, q.2.2 h⟩)
theorem m_isCl_y {l : Launch} {G : GG} {b : Nat} (hst : l.stackTraces = false) (S : Sw) (z : Nat) (ad : Nat → Nat) (hm : lay S z ad) (j : Nat) (hj : j < 6) (h : ¬ aI S (ad 802) j = 0) : Ct l G b yX8_isClient cX8_isClient 2 (some .boolean) rmX8_isClient mI [.ref z, .int (nI j)] S (fun r S' => S' = S ∧ r = 1) := (m_isClient hst S z ad hm (nI j)).post (fun v S' q => ⟨q.1, q.2.1 ⟨j, hj, rfl, h⟩⟩)
set_option maxRecDepth 100000 in
set_option maxHeartbeats 1000000 in
theorem m_isBacked {l : Launch} {G : GG} {b : Nat} (hst : l.stackTraces = false) (S : Sw) (z : Nat) (ad : Nat → Nat) (hm : lay S z ad) (c0 h : Nat) (hc : c0 < 6) (hh : aI S (ad 810) c0 = nI h) (hb : h ≤ 12800) (n f t : Nat) (hn : n < 2 ^ 20) (hf : f ≤ 48000) (hf0 : 8000 ≤ f) (ht : 8000 ≤ t) (ht2 : t ≤ 48000) : Ct l G b yX8_isBacked cX8_isBacked 5 (some .boolean) rmX8_isBacked mI [.ref z, .int (nI c0), .int (nI n), .int (nI f), .int (nI t)] S (fun r S' => S' = S ∧ r = if n * f / t + (if f = t then 0 else 8) < h then 1 else 0) := by
  refine Ct.of2 pnX8 (own := RX8) rfl (Nat.le_of_ble_eq_true rfl) hst ?_
  intro p e s m args below meth c C hname
  change J p l e rmX8_isBacked s m args below meth c 5 G b _ 0 [(0, .ref z), (1, .int (nI c0)), (2, .int (nI n)), (3, .int (nI f)), (4, .int (nI t))] [] S 0 0
  refine r_iload_n (i := 2) (n := 1) C dX8_isBacked_0 rfl rfl rfl ?_
  refine r_iload_n (i := 3) (n := 2) C dX8_isBacked_1 rfl rfl rfl ?_
  refine r_iload (n := 4) C dX8_isBacked_2 rfl rfl ?_
  refine kX8_154 (n := 7) C (m_placeOf hst S n f t (by omega) hf (by omega) ht2) (by decide) (by decide) (Nat.le_of_ble_eq_true rfl) dX8_isBacked_4 rfl (fun r S1 hp => ?_)
  obtain ⟨hS, hr⟩ := hp
  subst S1
  subst r
  refine r_iload_n (i := 3) (n := 8) C dX8_isBacked_7 rfl rfl rfl ?_
  refine r_iload (n := 10) C dX8_isBacked_8 rfl rfl ?_
  refine r_icmp_ne (n := 13) (t := 17) C dX8_isBacked_10 (by decide) rfl (fun h10 => ?_) (fun h10 => ?_)
  · refine r_bipush (v := 8) (n := 19) C dX8_isBacked_17 rfl rfl ?_
    refine r_iadd (n := 20) C dX8_isBacked_19 rfl ?_
    refine r_aload_n (i := 0) (n := 21) C dX8_isBacked_20 rfl rfl rfl ?_
    refine hX8_38 (n := 24) C hm dX8_isBacked_21 rfl ?_
    refine r_iload_n (i := 1) (n := 25) C dX8_isBacked_24 rfl rfl rfl ?_
    refine q_iald (n := 26) C (c0) (ly_810 hm) rfl (by omega) dX8_isBacked_25 rfl ?_
    refine r_icmp_ge (n := 29) (t := 33) C dX8_isBacked_26 (by decide) rfl (fun h26 => ?_) (fun h26 => ?_)
    · refine r_iconst (v := 0) (n := 34) C dX8_isBacked_33 rfl rfl ?_
      refine t_i C rfl dX8_isBacked_34 (by decide) ?_
      refine ⟨rfl, ?_⟩
      have h29 := pl_le hn hf ht
      rw [hh] at *
      have e1 : ∀ k : Nat, k ≤ 8 → (nI (n * f / t) + nI k < nI h ↔ n * f / t + k < h) := fun k hk => by rw [nI_add]; exact nI_ltI (by omega) (by omega)
      have e2 : f = t ↔ nI f = nI t := (nI_eq (by omega) (by omega)).symm
      have e0 := e1 0 (by omega)
      have e8 := e1 8 (by omega)
      first | (rw [if_pos]; first | (rw [if_pos (e2.mpr (by assumption))]; simp only [Int32.le_iff_toInt_le, Int32.lt_iff_toInt_lt, show nI 0 = 0 from rfl, show nI 8 = 8 from rfl] at *; omega) | (rw [if_neg (fun z => absurd (e2.mp z) (by assumption))]; simp only [Int32.le_iff_toInt_le, Int32.lt_iff_toInt_lt, show nI 0 = 0 from rfl, show nI 8 = 8 from rfl] at *; omega)) | (rw [if_neg]; first | (rw [if_pos (e2.mpr (by assumption))]; simp only [Int32.le_iff_toInt_le, Int32.lt_iff_toInt_lt, show nI 0 = 0 from rfl, show nI 8 = 8 from rfl] at *; omega) | (rw [if_neg (fun z => absurd (e2.mp z) (by assumption))]; simp only [Int32.le_iff_toInt_le, Int32.lt_iff_toInt_lt, show nI 0 = 0 from rfl, show nI 8 = 8 from rfl] at *; omega))
    · refine r_iconst (v := 1) (n := 30) C dX8_isBacked_29 rfl rfl ?_
      refine r_goto (t := 34) C dX8_isBacked_30 (by decide) ?_
      refine t_i C rfl dX8_isBacked_34 (by decide) ?_
      refine ⟨rfl, ?_⟩
      have h29 := pl_le hn hf ht
      rw [hh] at *
      have e1 : ∀ k : Nat, k ≤ 8 → (nI (n * f / t) + nI k < nI h ↔ n * f / t + k < h) := fun k hk => by rw [nI_add]; exact nI_ltI (by omega) (by omega)
      have e2 : f = t ↔ nI f = nI t := (nI_eq (by omega) (by omega)).symm
      have e0 := e1 0 (by omega)
      have e8 := e1 8 (by omega)
      first | (rw [if_pos]; first | (rw [if_pos (e2.mpr (by assumption))]; simp only [Int32.le_iff_toInt_le, Int32.lt_iff_toInt_lt, show nI 0 = 0 from rfl, show nI 8 = 8 from rfl] at *; omega) | (rw [if_neg (fun z => absurd (e2.mp z) (by assumption))]; simp only [Int32.le_iff_toInt_le, Int32.lt_iff_toInt_lt, show nI 0 = 0 from rfl, show nI 8 = 8 from rfl] at *; omega)) | (rw [if_neg]; first | (rw [if_pos (e2.mpr (by assumption))]; simp only [Int32.le_iff_toInt_le, Int32.lt_iff_toInt_lt, show nI 0 = 0 from rfl, show nI 8 = 8 from rfl] at *; omega) | (rw [if_neg (fun z => absurd (e2.mp z) (by assumption))]; simp only [Int32.le_iff_toInt_le, Int32.lt_iff_toInt_lt, show nI 0 = 0 from rfl, show nI 8 = 8 from rfl] at *; omega))
  · refine r_iconst (v := 0) (n := 14) C dX8_isBacked_13 rfl rfl ?_
    refine r_goto (t := 19) C dX8_isBacked_14 (by decide) ?_
    refine r_iadd (n := 20) C dX8_isBacked_19 rfl ?_
    refine r_aload_n (i := 0) (n := 21) C dX8_isBacked_20 rfl rfl rfl ?_
    refine hX8_38 (n := 24) C hm dX8_isBacked_21 rfl ?_
    refine r_iload_n (i := 1) (n := 25) C dX8_isBacked_24 rfl rfl rfl ?_
    refine q_iald (n := 26) C (c0) (ly_810 hm) rfl (by omega) dX8_isBacked_25 rfl ?_
    refine r_icmp_ge (n := 29) (t := 33) C dX8_isBacked_26 (by decide) rfl (fun h26 => ?_) (fun h26 => ?_)
    · refine r_iconst (v := 0) (n := 34) C dX8_isBacked_33 rfl rfl ?_
      refine t_i C rfl dX8_isBacked_34 (by decide) ?_
      refine ⟨rfl, ?_⟩
      have h29 := pl_le hn hf ht
      rw [hh] at *
      have e1 : ∀ k : Nat, k ≤ 8 → (nI (n * f / t) + nI k < nI h ↔ n * f / t + k < h) := fun k hk => by rw [nI_add]; exact nI_ltI (by omega) (by omega)
      have e2 : f = t ↔ nI f = nI t := (nI_eq (by omega) (by omega)).symm
      have e0 := e1 0 (by omega)
      have e8 := e1 8 (by omega)
      first | (rw [if_pos]; first | (rw [if_pos (e2.mpr (by assumption))]; simp only [Int32.le_iff_toInt_le, Int32.lt_iff_toInt_lt, show nI 0 = 0 from rfl, show nI 8 = 8 from rfl] at *; omega) | (rw [if_neg (fun z => absurd (e2.mp z) (by assumption))]; simp only [Int32.le_iff_toInt_le, Int32.lt_iff_toInt_lt, show nI 0 = 0 from rfl, show nI 8 = 8 from rfl] at *; omega)) | (rw [if_neg]; first | (rw [if_pos (e2.mpr (by assumption))]; simp only [Int32.le_iff_toInt_le, Int32.lt_iff_toInt_lt, show nI 0 = 0 from rfl, show nI 8 = 8 from rfl] at *; omega) | (rw [if_neg (fun z => absurd (e2.mp z) (by assumption))]; simp only [Int32.le_iff_toInt_le, Int32.lt_iff_toInt_lt, show nI 0 = 0 from rfl, show nI 8 = 8 from rfl] at *; omega))
    · refine r_iconst (v := 1) (n := 30) C dX8_isBacked_29 rfl rfl ?_
      refine r_goto (t := 34) C dX8_isBacked_30 (by decide) ?_
      refine t_i C rfl dX8_isBacked_34 (by decide) ?_
      refine ⟨rfl, ?_⟩
      have h29 := pl_le hn hf ht
      rw [hh] at *
      have e1 : ∀ k : Nat, k ≤ 8 → (nI (n * f / t) + nI k < nI h ↔ n * f / t + k < h) := fun k hk => by rw [nI_add]; exact nI_ltI (by omega) (by omega)
      have e2 : f = t ↔ nI f = nI t := (nI_eq (by omega) (by omega)).symm
      have e0 := e1 0 (by omega)
      have e8 := e1 8 (by omega)
      first | (rw [if_pos]; first | (rw [if_pos (e2.mpr (by assumption))]; simp only [Int32.le_iff_toInt_le, Int32.lt_iff_toInt_lt, show nI 0 = 0 from rfl, show nI 8 = 8 from rfl] at *; omega) | (rw [if_neg (fun z => absurd (e2.mp z) (by assumption))]; simp only [Int32.le_iff_toInt_le, Int32.lt_iff_toInt_lt, show nI 0 = 0 from rfl, show nI 8 = 8 from rfl] at *; omega)) | (rw [if_neg]; first | (rw [if_pos (e2.mpr (by assumption))]; simp only [Int32.le_iff_toInt_le, Int32.lt_iff_toInt_lt, show nI 0 = 0 from rfl, show nI 8 = 8 from rfl] at *; omega) | (rw [if_neg (fun z => absurd (e2.mp z) (by assumption))]; simp only [Int32.le_iff_toInt_le, Int32.lt_iff_toInt_lt, show nI 0 = 0 from rfl, show nI 8 = 8 from rfl] at *; omega))
set_option maxRecDepth 100000 in
set_option maxHeartbeats 1000000 in
theorem m_place {l : Launch} {G : GG} {b : Nat} (hst : l.stackTraces = false) (S : Sw) (z : Nat) (ad : Nat → Nat) (hm : lay S z ad) (c0 nx rr : Nat) (hc : c0 < 6) (hnx : aI S (ad 815) c0 = nI nx) (hrr : aI S (ad 804) c0 = nI rr) (hn : nx < 2 ^ 20) (hr : rtN rr) : Ct l G b yX8_place cX8_place 2 (some .int) rmX8_place mI [.ref z, .int (nI c0)] S (fun r S' => S' = S ∧ r = nI (nx * rr / 48000)) := by
  refine Ct.of2 pnX8 (own := RX8) rfl (Nat.le_of_ble_eq_true rfl) hst ?_
  intro p e s m args below meth c C hname
  change J p l e rmX8_place s m args below meth c 2 G b _ 0 [(0, .ref z), (1, .int (nI c0))] [] S 0 0
  refine r_aload_n (i := 0) (n := 1) C dX8_place_0 rfl rfl rfl ?_
  refine hX8_54 (n := 4) C hm dX8_place_1 rfl ?_
  refine r_iload_n (i := 1) (n := 5) C dX8_place_4 rfl rfl rfl ?_
  refine q_iald (n := 6) C (c0) (ly_815 hm) rfl (by omega) dX8_place_5 rfl ?_
  refine r_aload_n (i := 0) (n := 7) C dX8_place_6 rfl rfl rfl ?_
  refine hX8_20 (n := 10) C hm dX8_place_7 rfl ?_
  refine r_iload_n (i := 1) (n := 11) C dX8_place_10 rfl rfl rfl ?_
  refine q_iald (n := 12) C (c0) (ly_804 hm) rfl (by omega) dX8_place_11 rfl ?_
  refine r_ldc (n := 14) (v := 48000) C (mem_tb (mem_tbl 885 (by decide +kernel)) (by decide +kernel)) dX8_place_12 rfl ?_
  rw [hnx, hrr]
  refine kX8_154 (n := 17) C (m_placeOf hst S nx rr 48000 hn (rtN.le hr).1 (by omega) (by omega)) (by decide) (by decide) (Nat.le_of_ble_eq_true rfl) dX8_place_14 rfl (fun r S1 hp => ?_)
  obtain ⟨hS, hr⟩ := hp
  subst S1
  subst r
  refine t_i C rfl dX8_place_17 (by decide) ?_
  exact ⟨rfl, rfl⟩
set_option maxRecDepth 100000 in
set_option maxHeartbeats 1000000 in
theorem m_toSample {l : Launch} {G : GG} {b : Nat} (hst : l.stackTraces = false) (S : Sw) (z : Nat) (ad : Nat → Nat) (hm : lay S z ad) (c0 : Nat) (hc : c0 < 6) (v : Int32) : Ct l G b yX8_toSample cX8_toSample 3 (some .int) rmX8_toSample mI [.ref z, .int (nI c0), .int v] S (fun r S' => S' = S ∧ r = if aI S (ad 806) c0 = 8 then (v - 128) * 256 else v) := by
  refine Ct.of2 pnX8 (own := RX8) rfl (Nat.le_of_ble_eq_true rfl) hst ?_
  intro p e s m args below meth c C hname
  change J p l e rmX8_toSample s m args below meth c 3 G b _ 0 [(0, .ref z), (1, .int (nI c0)), (2, .int v)] [] S 0 0
  refine r_aload_n (i := 0) (n := 1) C dX8_toSample_0 rfl rfl rfl ?_
  refine hX8_26 (n := 4) C hm dX8_toSample_1 rfl ?_
  refine r_iload_n (i := 1) (n := 5) C dX8_toSample_4 rfl rfl rfl ?_
  refine q_iald (n := 6) C (c0) (ly_806 hm) rfl (by omega) dX8_toSample_5 rfl ?_
  refine r_bipush (v := 8) (n := 8) C dX8_toSample_6 rfl rfl ?_
  refine r_icmp_ne (n := 11) (t := 23) C dX8_toSample_8 (by decide) rfl (fun h8 => ?_) (fun h8 => ?_)
  · refine r_iload_n (i := 2) (n := 24) C dX8_toSample_23 rfl rfl rfl ?_
    refine t_i C rfl dX8_toSample_24 (by decide) ?_
    refine ⟨rfl, ?_⟩
    simp only [*, ↓reduceIte]
  · refine r_iload_n (i := 2) (n := 12) C dX8_toSample_11 rfl rfl rfl ?_
    refine r_sipush (v := 128) (n := 15) C dX8_toSample_12 rfl rfl ?_
    refine r_isub (n := 16) C dX8_toSample_15 rfl ?_
    refine r_sipush (v := 256) (n := 19) C dX8_toSample_16 rfl rfl ?_
    refine r_imul (n := 20) C dX8_toSample_19 rfl ?_
    refine r_goto (t := 24) C dX8_toSample_20 (by decide) ?_
    refine t_i C rfl dX8_toSample_24 (by decide) ?_
    refine ⟨rfl, ?_⟩
    simp only [*, ↓reduceIte]
set_option maxRecDepth 100000 in
set_option maxHeartbeats 1000000 in
theorem m_isNumber {l : Launch} {G : GG} {b : Nat} (hst : l.stackTraces = false) (S : Sw) (z : Nat) (ad : Nat → Nat) (hm : lay S z ad) (c0 : Nat) (hc : c0 < 6) (v : Int32) : Ct l G b yX8_isNumber cX8_isNumber 3 (some .boolean) rmX8_isNumber mI [.ref z, .int (nI c0), .int v] S (fun r S' => S' = S ∧ r = if aI S (ad 806) c0 = 8 then (if 0 ≤ v ∧ v ≤ 255 then 1 else 0) else (if (-32768) ≤ v ∧ v ≤ 32767 then 1 else 0)) := by
  refine Ct.of2 pnX8 (own := RX8) rfl (Nat.le_of_ble_eq_true rfl) hst ?_
  intro p e s m args below meth c C hname
  change J p l e rmX8_isNumber s m args below meth c 3 G b _ 0 [(0, .ref z), (1, .int (nI c0)), (2, .int v)] [] S 0 0
  refine r_aload_n (i := 0) (n := 1) C dX8_isNumber_0 rfl rfl rfl ?_
  refine hX8_26 (n := 4) C hm dX8_isNumber_1 rfl ?_
  refine r_iload_n (i := 1) (n := 5) C dX8_isNumber_4 rfl rfl rfl ?_
  refine q_iald (n := 6) C (c0) (ly_806 hm) rfl (by omega) dX8_isNumber_5 rfl ?_
  refine r_bipush (v := 8) (n := 8) C dX8_isNumber_6 rfl rfl ?_
  refine r_icmp_ne (n := 11) (t := 22) C dX8_isNumber_8 (by decide) rfl (fun h8 => ?_) (fun h8 => ?_)
  · refine r_iload_n (i := 2) (n := 23) C dX8_isNumber_22 rfl rfl rfl ?_
    refine r_sipush (v := (-32768)) (n := 26) C dX8_isNumber_23 rfl rfl ?_
    refine r_sipush (v := 32767) (n := 29) C dX8_isNumber_26 rfl rfl ?_
    refine kX8_130 (n := 32) C (m_isIn hst S v (-32768) 32767) (by decide) (by decide) (Nat.le_of_ble_eq_true rfl) dX8_isNumber_29 rfl (fun r S1 hp => ?_)
    obtain ⟨hS, hr⟩ := hp
    subst S1
    subst r
    refine t_i C (by split <;> rfl) dX8_isNumber_32 (by decide) ?_
    refine ⟨rfl, ?_⟩
    simp only [*, ↓reduceIte]
  · refine r_iload_n (i := 2) (n := 12) C dX8_isNumber_11 rfl rfl rfl ?_
    refine r_iconst (v := 0) (n := 13) C dX8_isNumber_12 rfl rfl ?_
    refine r_sipush (v := 255) (n := 16) C dX8_isNumber_13 rfl rfl ?_
    refine kX8_130 (n := 19) C (m_isIn hst S v 0 255) (by decide) (by decide) (Nat.le_of_ble_eq_true rfl) dX8_isNumber_16 rfl (fun r S1 hp => ?_)
    obtain ⟨hS, hr⟩ := hp
    subst S1
    subst r
    refine r_goto (t := 32) C dX8_isNumber_19 (by decide) ?_
    refine t_i C (by split <;> rfl) dX8_isNumber_32 (by decide) ?_
    refine ⟨rfl, ?_⟩
    simp only [*, ↓reduceIte]
set_option maxRecDepth 100000 in
set_option maxHeartbeats 1000000 in
theorem m_spare {l : Launch} {G : GG} {b : Nat} (hst : l.stackTraces = false) (S : Sw) (z : Nat) (ad : Nat → Nat) (hm : lay S z ad) (c0 nx rr : Nat) (hc : c0 < 6) (hnx : aI S (ad 815) c0 = nI nx) (hrr : aI S (ad 804) c0 = nI rr) (hn : nx < 2 ^ 20) (hr : rtN rr) : Ct l G b yX8_spare cX8_spare 2 (some .int) rmX8_spare mI [.ref z, .int (nI c0)] S (fun r S' => S' = S ∧ r = 200 - (aI S (ad 810) c0 - nI (nx * rr / 48000))) := by
  refine Ct.of2 pnX8 (own := RX8) rfl (Nat.le_of_ble_eq_true rfl) hst ?_
  intro p e s m args below meth c C hname
  change J p l e rmX8_spare s m args below meth c 2 G b _ 0 [(0, .ref z), (1, .int (nI c0))] [] S 0 0
  refine r_sipush (v := 200) (n := 3) C dX8_spare_0 rfl rfl ?_
  refine r_aload_n (i := 0) (n := 4) C dX8_spare_3 rfl rfl rfl ?_
  refine hX8_38 (n := 7) C hm dX8_spare_4 rfl ?_
  refine r_iload_n (i := 1) (n := 8) C dX8_spare_7 rfl rfl rfl ?_
  refine q_iald (n := 9) C (c0) (ly_810 hm) rfl (by omega) dX8_spare_8 rfl ?_
  refine r_aload_n (i := 0) (n := 10) C dX8_spare_9 rfl rfl rfl ?_
  refine r_iload_n (i := 1) (n := 11) C dX8_spare_10 rfl rfl rfl ?_
  refine kX8_167 (n := 14) C (m_place hst S z ad hm c0 nx rr hc hnx hrr hn hr) hm.1 (by decide) (by decide) (Nat.le_of_ble_eq_true rfl) dX8_spare_11 rfl (fun r S1 hp => ?_)
  obtain ⟨hS, hr⟩ := hp
  subst S1
  subst r
  refine r_isub (n := 15) C dX8_spare_14 rfl ?_
  refine r_isub (n := 16) C dX8_spare_15 rfl ?_
  refine t_i C rfl dX8_spare_16 (by decide) ?_
  exact ⟨rfl, rfl⟩
def mAdd (S : Sw) (ad : Nat → Nat) (c h : Nat) (l r : Int32) : Sw := wI (wI (wI S (ad 811) (12800 * c + h) l) (ad 812) (12800 * c + h) r) (ad 810) c (nI (h + 1))
set_option maxRecDepth 100000 in
set_option maxHeartbeats 1000000 in
theorem m_add {l : Launch} {G : GG} {b : Nat} (hst : l.stackTraces = false) (S : Sw) (z : Nat) (ad : Nat → Nat) (hm : lay S z ad) (c0 h : Nat) (hc : c0 < 6) (hh : aI S (ad 810) c0 = nI h) (hb : h < 12800) (lf rg : Int32) : Ct l G b yX8_add cX8_add 4 none rmX8_add mV [.ref z, .int (nI c0), .int lf, .int rg] S (fun _ S' => S' = mAdd S ad c0 h lf rg) := by
  refine Ct.of2 pnX8 (own := RX8) rfl (Nat.le_of_ble_eq_true rfl) hst ?_
  intro p e s m args below meth c C hname
  change J p l e rmX8_add s m args below meth c 4 G b _ 0 [(0, .ref z), (1, .int (nI c0)), (2, .int lf), (3, .int rg)] [] S 0 0
  refine r_aload_n (i := 0) (n := 1) C dX8_add_0 rfl rfl rfl ?_
  refine hX8_42 (n := 4) C hm dX8_add_1 rfl ?_
  refine r_sipush (v := 12800) (n := 7) C dX8_add_4 rfl rfl ?_
  refine r_iload_n (i := 1) (n := 8) C dX8_add_7 rfl rfl rfl ?_
  refine r_imul (n := 9) C dX8_add_8 rfl ?_
  refine r_aload_n (i := 0) (n := 10) C dX8_add_9 rfl rfl rfl ?_
  refine hX8_38 (n := 13) C hm dX8_add_10 rfl ?_
  refine r_iload_n (i := 1) (n := 14) C dX8_add_13 rfl rfl rfl ?_
  refine q_ialdv (n := 15) (v := nI (h)) C (c0) (ly_810 hm) rfl (by omega) dX8_add_14 rfl hh ?_
  refine r_iadd (n := 16) C dX8_add_15 rfl ?_
  refine r_iload_n (i := 2) (n := 17) C dX8_add_16 rfl rfl rfl ?_
  refine q_iast (n := 18) C (((12800 * c0) + h)) (ly_811 hm) (add_nI (a := (12800 * c0)) (b := h) (mul_nI (a := 12800) (b := c0) rfl rfl) rfl) (by omega) dX8_add_17 rfl ?_
  refine r_aload_n (i := 0) (n := 19) C dX8_add_18 rfl rfl rfl ?_
  refine hX8_45 (n := 22) C hm dX8_add_19 rfl ?_
  refine r_sipush (v := 12800) (n := 25) C dX8_add_22 rfl rfl ?_
  refine r_iload_n (i := 1) (n := 26) C dX8_add_25 rfl rfl rfl ?_
  refine r_imul (n := 27) C dX8_add_26 rfl ?_
  refine r_aload_n (i := 0) (n := 28) C dX8_add_27 rfl rfl rfl ?_
  refine hX8_38 (n := 31) C hm dX8_add_28 rfl ?_
  refine r_iload_n (i := 1) (n := 32) C dX8_add_31 rfl rfl rfl ?_
  refine q_ialdv (n := 33) (v := nI (h)) C (c0) (ly_810 hm) rfl (by omega) dX8_add_32 rfl ((aI_wn (hm.ne2 810 811 (by decide) (by decide) (by decide))).trans hh) ?_
  refine r_iadd (n := 34) C dX8_add_33 rfl ?_
  refine r_iload_n (i := 3) (n := 35) C dX8_add_34 rfl rfl rfl ?_
  refine q_iast (n := 36) C (((12800 * c0) + h)) (ly_812 hm) (add_nI (a := (12800 * c0)) (b := h) (mul_nI (a := 12800) (b := c0) rfl rfl) rfl) (by omega) dX8_add_35 rfl ?_
  refine r_aload_n (i := 0) (n := 37) C dX8_add_36 rfl rfl rfl ?_
  refine hX8_38 (n := 40) C hm dX8_add_37 rfl ?_
  refine r_iload_n (i := 1) (n := 41) C dX8_add_40 rfl rfl rfl ?_
  refine r_dup2_11 (n := 42) C dX8_add_41 rfl rfl rfl ?_
  refine q_ialdv (n := 43) (v := nI (h)) C (c0) (ly_810 hm) rfl (by omega) dX8_add_42 rfl ((aI_wn (hm.ne2 810 812 (by decide) (by decide) (by decide))).trans ((aI_wn (hm.ne2 810 811 (by decide) (by decide) (by decide))).trans hh)) ?_
  refine r_iconst (v := 1) (n := 44) C dX8_add_43 rfl rfl ?_
  refine r_iadd (n := 45) C dX8_add_44 rfl ?_
  refine q_iast (n := 46) C (c0) (ly_810 hm) rfl (by omega) dX8_add_45 rfl ?_
  refine t_v C dX8_add_46 (by decide) ?_
  show _ = _
  unfold mAdd
  rw [← nI_1]
