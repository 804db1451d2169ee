/-- the reference while it is made -/
def iML (S T : Sw) (z : Nat) (ad : Nat → Nat) (v : Nat → Int32) (ms : List (Nat × Nat × Nat)) : Prop := exx z S T ∧ sK T z = 8 ∧ (∀ f, fI T f z = v f) ∧
  (∀ q ∈ ms, fR T q.1 z = some (ad q.1) ∧ sK T (ad q.1) = q.2.1 ∧ aN T (ad q.1) = q.2.2 ∧ (∀ i, aI T (ad q.1) i = 0) ∧ (∀ i, aD T (ad q.1) i = FP.dconst0) ∧ sK S (ad q.1) = 0) ∧ (∀ q ∈ ms, ∀ r ∈ ms, ad q.1 = ad r.1 → q.1 = r.1) ∧ ∀ q ∈ ms, q.2.1 ≠ 0
theorem iML_0 {S : Sw} {z : Nat} (hk : sK S z = 8) (h0 : ∀ f, fI S f z = 0) : iML S S z (fun _ => 0) (fun _ => 0) [] := ⟨⟨fun _ _ _ => smA.rf, rfl⟩, hk, h0, fun _ h => (nomatch h), fun _ h => (nomatch h), fun _ h => (nomatch h)⟩
theorem iML_u {S T : Sw} {z f : Nat} {ad : Nat → Nat} {v : Nat → Int32} {w : Int32} {ms : List (Nat × Nat × Nat)} (hkS : sK S z ≠ 0) (h : iML S T z ad v ms) : iML S (uI T f z w) z ad (fun g => if g = f then w else v g) ms := by
  refine ⟨⟨fun y hy h0 => (h.1.1 y hy h0).uI hy, h.1.2⟩, h.2.1, fun g => ?_, fun q hq => h.2.2.2.1 q hq, h.2.2.2.2⟩
  by_cases e : g = f
  · show _ = if g = f then w else v g
    rw [if_pos e]; exact if_pos ⟨e, rfl⟩
  · show _ = if g = f then w else v g
    rw [if_neg e]; exact (if_neg (fun q => e q.1)).trans (h.2.2.1 g)
theorem iML_s {S T : Sw} {z x f k n : Nat} {ad : Nat → Nat} {v : Nat → Int32} {ms : List (Nat × Nat × Nat)} (hkS : sK S z ≠ 0) (h : iML S T z ad v ms) (hx : sK T x = 0) (hk : k ≠ 0) (hf : ∀ q ∈ ms, q.1 ≠ f) : iML S (uR (nA T x k n) f z (some x)) z (fun g => if g = f then x else ad g) v ((f, k, n) :: ms) := by
  obtain ⟨h1, h2, h3, h4, h5, h6⟩ := h
  have hzx : z ≠ x := k_ne hx (by rw [h2]; decide)
  have hx0 : sK S x = 0 := Classical.byContradiction (fun q => by
    by_cases e : x = z
    · exact hzx e.symm
    · exact q ((h1.1 x e q).1.symm.trans hx))
  have old : ∀ q ∈ ms, ad q.1 ≠ x := fun q hq e => by
    have := (h4 q hq).2.1
    rw [e, hx] at this
    exact h6 q hq this.symm
  have oz : ∀ q ∈ ms, ad q.1 ≠ z := fun q hq e => by
    have := (h4 q hq).2.2.2.2.2
    rw [e] at this
    exact hkS this
  refine ⟨⟨fun y hy h0 => ((h1.1 y hy h0).nA (fun e => h0 (by rw [e]; exact hx0))).uR hy, ?_⟩, ?_, fun g => h3 g, fun q hq => ?_, fun q hq r hr e => ?_, fun q hq => ?_⟩
  · exact ((smA.rf (S := T).nA (k := k) (N := n) hzx).1).trans h1.2
  · exact ((smA.rf (S := T).nA (k := k) (N := n) hzx).1).trans h2
  · rcases List.mem_cons.mp hq with e | hq
    · subst e
      simp only [if_pos]
      exact ⟨if_pos ⟨rfl, rfl⟩, nA_k (N := n), nA_n (k := k), fun i => congrFun (nA_I (k := k) (N := n)) i, fun i => congrFun (nA_D (k := k) (N := n)) i, hx0⟩
    · have hne := hf q hq
      simp only [if_neg hne]
      have ho := h4 q hq
      have s : smA T (uR (nA T x k n) f z (some x)) (ad q.1) := (smA.rf.nA (old q hq)).uR (oz q hq)
      exact ⟨(if_neg (fun w => hne w.1)).trans ho.1, s.1.trans ho.2.1, s.2.1.trans ho.2.2.1, fun i => (s.2.2.2.2.2.1 i).trans (ho.2.2.2.1 i), fun i => (s.2.2.2.2.2.2.2.1 i).trans (ho.2.2.2.2.1 i), ho.2.2.2.2.2⟩
  · rcases List.mem_cons.mp hq with e1 | hq
    · rcases List.mem_cons.mp hr with e2 | hr
      · rw [e1, e2]
      · subst e1
        simp only [if_pos, if_neg (hf r hr)] at e
        exact absurd e.symm (old r hr)
    · rcases List.mem_cons.mp hr with e2 | hr
      · subst e2
        simp only [if_pos, if_neg (hf q hq)] at e
        exact absurd e (old q hq)
      · simp only [if_neg (hf q hq), if_neg (hf r hr)] at e
        exact h5 q hq r hr e
  · rcases List.mem_cons.mp hq with e | hq
    · subst e; exact hk
    · exact h6 q hq
def tbM_v (p : Nat) : Int32 := tp0 p (mid p) + 16384 - tsm p 16
theorem tbM_e {p : Nat} (h : p < 32) : tbM_v p = tp0 p (mid p) + tlk p 16 := by
  unfold tbM_v
  rw [tlk_eq h, Int32.sub_eq_add_neg, Int32.sub_eq_add_neg, Int32.add_assoc]
/-- a new reference -/
def nMd (S S' : Sw) (z : Nat) (ad : Nat → Nat) : Prop := exx z S S' ∧ lay S' z ad ∧ (∀ q ∈ ML, sK S (ad q.1) = 0) ∧ (∀ q ∈ ML, q.1 ≠ 801 → ∀ i, aI S' (ad q.1) i = 0) ∧ (∀ i, aD S' (ad 819) i = FP.dconst0) ∧ (∀ i, aI S' (ad 801) i = tbC 32 (fun _ => 0) i) ∧ (∀ f, fI S' f z = if f = 832 then 1 else if f = 833 then 4096 else 0)
theorem nMd_of {S T : Sw} {z : Nat} {ad : Nat → Nat} {ms : List (Nat × Nat × Nat)} {v : Nat → Int32} (hkS : sK S z ≠ 0) (I : iML S T z ad v ms) (hms : ∀ q ∈ ML, q ∈ ms) (hv : ∀ f, v f = if f = 832 then 1 else if f = 833 then 4096 else 0) : nMd S (wIs T (ad 801) (tbC 32 (aI T (ad 801)))) z ad := by
  have h8 := I.2.2.2.1 (801, 9, 512) (hms _ (by decide))
  have o0 : aI T (ad 801) = fun _ => 0 := funext h8.2.2.2.1
  have hne : ∀ q ∈ ML, q.1 ≠ 801 → ad q.1 ≠ ad 801 := fun q hq h e => h (I.2.2.2.2.1 q (hms q hq) (801, 9, 512) (hms _ (by decide)) e)
  refine ⟨⟨fun y hy h0 => (I.1.1 y hy h0).wIs (fun e => ?_), I.1.2⟩, ⟨I.2.1, fun q hq => ?_, fun q hq r hr e => I.2.2.2.2.1 q (hms q hq) r (hms r hr) e⟩, fun q hq => (I.2.2.2.1 q (hms q hq)).2.2.2.2.2, fun q hq h i => ?_, fun i => ?_, fun i => ?_, fun f => ?_⟩
  · rw [e, h8.2.2.2.2.2] at h0; exact h0 rfl
  · have h := I.2.2.2.1 q (hms q hq)
    exact ⟨h.1, h.2.1, h.2.2.1⟩
  · exact (if_neg (hne q hq h)).trans ((I.2.2.2.1 q (hms q hq)).2.2.2.1 i)
  · exact (I.2.2.2.1 (819, 12, 6) (hms _ (by decide))).2.2.2.2.1 i
  · rw [o0]; exact if_pos rfl
  · exact (I.2.2.1 f).trans (hv f)
set_option maxRecDepth 100000 in
set_option maxHeartbeats 1000000 in
theorem c_init8 {l : Launch} {G : GG} {b : Nat} (hst : l.stackTraces = false) (S : Sw) (z : Nat) (hk : sK S z = 8) (h0 : ∀ f, fI S f z = 0) : Ct l G b yX8_init cX8_init 5 none rmX8_init mV [.ref z] S (fun _ S' => ∃ ad, nMd S S' z ad) := by
  refine Ct.of2 pnX8 (own := RX8) rfl (Nat.le_of_ble_eq_true rfl) hst ?_
  intro p e s m args below meth c C hname
  change J p l e rmX8_init s m args below meth c 5 G b _ 0 [(0, .ref z)] [] S 0 0
  have hkS : sK S z ≠ 0 := by rw [hk]; decide
  refine r_aload_n (i := 0) (n := 1) C dX8_init_0 rfl rfl rfl ?_
  refine kX8_1 (n := 4) C (by decide) dX8_init_1 rfl ?_
  have I : iML S S z (fun _ => 0) (fun _ => 0) [] := iML_0 hk h0
  suffices hs : ∀ T ad, iML S T z ad (fun _ => 0) [] → J p l e rmX8_init s m args below meth c 5 G b (vx_MQ below (Qp G b mV (fun _ S' => ∃ ad, nMd S S' z ad)) (XCp G b S (fun _ => False)) args s rmX8_init.cells rmX8_init.slots (Ab b)) 4 [(0, .ref z)] [] T 0 0 from hs S _ I
  clear I
  intro T ad I
  refine r_aload_n (i := 0) (n := 5) C dX8_init_4 rfl rfl rfl ?_
  refine r_sipush (v := 512) (n := 8) C dX8_init_5 rfl rfl ?_
  refine na_9 (n := 10) (N := 512) C rfl (by decide) (by decide) dX8_init_8 rfl (fun x hz hb => ?_)
  refine sX8_7 (n := 13) C hname (by rw [sK_nA, if_neg (k_ne hz (by rw [I.2.1]; decide))]; exact I.2.1) dX8_init_10 rfl ?_
  replace I := iML_s (f := 801) (k := 9) (n := 512) hkS I hz (by decide) (by decide)
  clear hz hb
  generalize uR (nA T x 9 512) 801 z (some x) = T at I ⊢
  generalize (fun g => if g = 801 then x else ad g) = ad at I
  clear x
  refine r_aload_n (i := 0) (n := 14) C dX8_init_13 rfl rfl rfl ?_
  refine r_bipush (v := 6) (n := 16) C dX8_init_14 rfl rfl ?_
  refine na_10 (n := 18) (N := 6) C rfl (by decide) (by decide) dX8_init_16 rfl (fun x hz hb => ?_)
  refine sX8_13 (n := 21) C hname (by rw [sK_nA, if_neg (k_ne hz (by rw [I.2.1]; decide))]; exact I.2.1) dX8_init_18 rfl ?_
  replace I := iML_s (f := 802) (k := 10) (n := 6) hkS I hz (by decide) (by decide)
  clear hz hb
  generalize uR (nA T x 10 6) 802 z (some x) = T at I ⊢
  generalize (fun g => if g = 802 then x else ad g) = ad at I
  clear x
  refine r_aload_n (i := 0) (n := 22) C dX8_init_21 rfl rfl rfl ?_
  refine r_bipush (v := 6) (n := 24) C dX8_init_22 rfl rfl ?_
  refine na_10 (n := 26) (N := 6) C rfl (by decide) (by decide) dX8_init_24 rfl (fun x hz hb => ?_)
  refine sX8_17 (n := 29) C hname (by rw [sK_nA, if_neg (k_ne hz (by rw [I.2.1]; decide))]; exact I.2.1) dX8_init_26 rfl ?_
  replace I := iML_s (f := 803) (k := 10) (n := 6) hkS I hz (by decide) (by decide)
  clear hz hb
  generalize uR (nA T x 10 6) 803 z (some x) = T at I ⊢
  generalize (fun g => if g = 803 then x else ad g) = ad at I
  clear x
  refine r_aload_n (i := 0) (n := 30) C dX8_init_29 rfl rfl rfl ?_
  refine r_bipush (v := 6) (n := 32) C dX8_init_30 rfl rfl ?_
  refine na_9 (n := 34) (N := 6) C rfl (by decide) (by decide) dX8_init_32 rfl (fun x hz hb => ?_)
  refine sX8_20 (n := 37) C hname (by rw [sK_nA, if_neg (k_ne hz (by rw [I.2.1]; decide))]; exact I.2.1) dX8_init_34 rfl ?_
  replace I := iML_s (f := 804) (k := 9) (n := 6) hkS I hz (by decide) (by decide)
  clear hz hb
  generalize uR (nA T x 9 6) 804 z (some x) = T at I ⊢
  generalize (fun g => if g = 804 then x else ad g) = ad at I
  clear x
  refine r_aload_n (i := 0) (n := 38) C dX8_init_37 rfl rfl rfl ?_
  refine r_bipush (v := 6) (n := 40) C dX8_init_38 rfl rfl ?_
  refine na_9 (n := 42) (N := 6) C rfl (by decide) (by decide) dX8_init_40 rfl (fun x hz hb => ?_)
  refine sX8_23 (n := 45) C hname (by rw [sK_nA, if_neg (k_ne hz (by rw [I.2.1]; decide))]; exact I.2.1) dX8_init_42 rfl ?_
  replace I := iML_s (f := 805) (k := 9) (n := 6) hkS I hz (by decide) (by decide)
  clear hz hb
  generalize uR (nA T x 9 6) 805 z (some x) = T at I ⊢
  generalize (fun g => if g = 805 then x else ad g) = ad at I
  clear x
  refine r_aload_n (i := 0) (n := 46) C dX8_init_45 rfl rfl rfl ?_
  refine r_bipush (v := 6) (n := 48) C dX8_init_46 rfl rfl ?_
  refine na_9 (n := 50) (N := 6) C rfl (by decide) (by decide) dX8_init_48 rfl (fun x hz hb => ?_)
  refine sX8_26 (n := 53) C hname (by rw [sK_nA, if_neg (k_ne hz (by rw [I.2.1]; decide))]; exact I.2.1) dX8_init_50 rfl ?_
  replace I := iML_s (f := 806) (k := 9) (n := 6) hkS I hz (by decide) (by decide)
  clear hz hb
  generalize uR (nA T x 9 6) 806 z (some x) = T at I ⊢
  generalize (fun g => if g = 806 then x else ad g) = ad at I
  clear x
  refine r_aload_n (i := 0) (n := 54) C dX8_init_53 rfl rfl rfl ?_
  refine r_bipush (v := 6) (n := 56) C dX8_init_54 rfl rfl ?_
  refine na_9 (n := 58) (N := 6) C rfl (by decide) (by decide) dX8_init_56 rfl (fun x hz hb => ?_)
  refine sX8_29 (n := 61) C hname (by rw [sK_nA, if_neg (k_ne hz (by rw [I.2.1]; decide))]; exact I.2.1) dX8_init_58 rfl ?_
  replace I := iML_s (f := 807) (k := 9) (n := 6) hkS I hz (by decide) (by decide)
  clear hz hb
  generalize uR (nA T x 9 6) 807 z (some x) = T at I ⊢
  generalize (fun g => if g = 807 then x else ad g) = ad at I
  clear x
  refine r_aload_n (i := 0) (n := 62) C dX8_init_61 rfl rfl rfl ?_
  refine r_bipush (v := 6) (n := 64) C dX8_init_62 rfl rfl ?_
  refine na_9 (n := 66) (N := 6) C rfl (by decide) (by decide) dX8_init_64 rfl (fun x hz hb => ?_)
  refine sX8_32 (n := 69) C hname (by rw [sK_nA, if_neg (k_ne hz (by rw [I.2.1]; decide))]; exact I.2.1) dX8_init_66 rfl ?_
  replace I := iML_s (f := 808) (k := 9) (n := 6) hkS I hz (by decide) (by decide)
  clear hz hb
  generalize uR (nA T x 9 6) 808 z (some x) = T at I ⊢
  generalize (fun g => if g = 808 then x else ad g) = ad at I
  clear x
  refine r_aload_n (i := 0) (n := 70) C dX8_init_69 rfl rfl rfl ?_
  refine r_bipush (v := 6) (n := 72) C dX8_init_70 rfl rfl ?_
  refine na_9 (n := 74) (N := 6) C rfl (by decide) (by decide) dX8_init_72 rfl (fun x hz hb => ?_)
  refine sX8_35 (n := 77) C hname (by rw [sK_nA, if_neg (k_ne hz (by rw [I.2.1]; decide))]; exact I.2.1) dX8_init_74 rfl ?_
  replace I := iML_s (f := 809) (k := 9) (n := 6) hkS I hz (by decide) (by decide)
  clear hz hb
  generalize uR (nA T x 9 6) 809 z (some x) = T at I ⊢
  generalize (fun g => if g = 809 then x else ad g) = ad at I
  clear x
  refine r_aload_n (i := 0) (n := 78) C dX8_init_77 rfl rfl rfl ?_
  refine r_bipush (v := 6) (n := 80) C dX8_init_78 rfl rfl ?_
  refine na_9 (n := 82) (N := 6) C rfl (by decide) (by decide) dX8_init_80 rfl (fun x hz hb => ?_)
  refine sX8_38 (n := 85) C hname (by rw [sK_nA, if_neg (k_ne hz (by rw [I.2.1]; decide))]; exact I.2.1) dX8_init_82 rfl ?_
  replace I := iML_s (f := 810) (k := 9) (n := 6) hkS I hz (by decide) (by decide)
  clear hz hb
  generalize uR (nA T x 9 6) 810 z (some x) = T at I ⊢
  generalize (fun g => if g = 810 then x else ad g) = ad at I
  clear x
  refine r_aload_n (i := 0) (n := 86) C dX8_init_85 rfl rfl rfl ?_
  refine r_ldc (n := 88) (v := 76800) C (mem_tb (mem_tbl 746 (by decide +kernel)) (by decide +kernel)) dX8_init_86 rfl ?_
  refine na_9 (n := 90) (N := 76800) C rfl (by decide) (by decide) dX8_init_88 rfl (fun x hz hb => ?_)
  refine sX8_42 (n := 93) C hname (by rw [sK_nA, if_neg (k_ne hz (by rw [I.2.1]; decide))]; exact I.2.1) dX8_init_90 rfl ?_
  replace I := iML_s (f := 811) (k := 9) (n := 76800) hkS I hz (by decide) (by decide)
  clear hz hb
  generalize uR (nA T x 9 76800) 811 z (some x) = T at I ⊢
  generalize (fun g => if g = 811 then x else ad g) = ad at I
  clear x
  refine r_aload_n (i := 0) (n := 94) C dX8_init_93 rfl rfl rfl ?_
  refine r_ldc (n := 96) (v := 76800) C (mem_tb (mem_tbl 746 (by decide +kernel)) (by decide +kernel)) dX8_init_94 rfl ?_
  refine na_9 (n := 98) (N := 76800) C rfl (by decide) (by decide) dX8_init_96 rfl (fun x hz hb => ?_)
  refine sX8_45 (n := 101) C hname (by rw [sK_nA, if_neg (k_ne hz (by rw [I.2.1]; decide))]; exact I.2.1) dX8_init_98 rfl ?_
  replace I := iML_s (f := 812) (k := 9) (n := 76800) hkS I hz (by decide) (by decide)
  clear hz hb
  generalize uR (nA T x 9 76800) 812 z (some x) = T at I ⊢
  generalize (fun g => if g = 812 then x else ad g) = ad at I
  clear x
  refine r_aload_n (i := 0) (n := 102) C dX8_init_101 rfl rfl rfl ?_
  refine r_bipush (v := 6) (n := 104) C dX8_init_102 rfl rfl ?_
  refine na_10 (n := 106) (N := 6) C rfl (by decide) (by decide) dX8_init_104 rfl (fun x hz hb => ?_)
  refine sX8_48 (n := 109) C hname (by rw [sK_nA, if_neg (k_ne hz (by rw [I.2.1]; decide))]; exact I.2.1) dX8_init_106 rfl ?_
  replace I := iML_s (f := 813) (k := 10) (n := 6) hkS I hz (by decide) (by decide)
  clear hz hb
  generalize uR (nA T x 10 6) 813 z (some x) = T at I ⊢
  generalize (fun g => if g = 813 then x else ad g) = ad at I
  clear x
  refine r_aload_n (i := 0) (n := 110) C dX8_init_109 rfl rfl rfl ?_
  refine r_bipush (v := 6) (n := 112) C dX8_init_110 rfl rfl ?_
  refine na_9 (n := 114) (N := 6) C rfl (by decide) (by decide) dX8_init_112 rfl (fun x hz hb => ?_)
  refine sX8_51 (n := 117) C hname (by rw [sK_nA, if_neg (k_ne hz (by rw [I.2.1]; decide))]; exact I.2.1) dX8_init_114 rfl ?_
  replace I := iML_s (f := 814) (k := 9) (n := 6) hkS I hz (by decide) (by decide)
  clear hz hb
  generalize uR (nA T x 9 6) 814 z (some x) = T at I ⊢
  generalize (fun g => if g = 814 then x else ad g) = ad at I
  clear x
  refine r_aload_n (i := 0) (n := 118) C dX8_init_117 rfl rfl rfl ?_
  refine r_bipush (v := 6) (n := 120) C dX8_init_118 rfl rfl ?_
  refine na_9 (n := 122) (N := 6) C rfl (by decide) (by decide) dX8_init_120 rfl (fun x hz hb => ?_)
  refine sX8_54 (n := 125) C hname (by rw [sK_nA, if_neg (k_ne hz (by rw [I.2.1]; decide))]; exact I.2.1) dX8_init_122 rfl ?_
  replace I := iML_s (f := 815) (k := 9) (n := 6) hkS I hz (by decide) (by decide)
  clear hz hb
  generalize uR (nA T x 9 6) 815 z (some x) = T at I ⊢
  generalize (fun g => if g = 815 then x else ad g) = ad at I
  clear x
  refine r_aload_n (i := 0) (n := 126) C dX8_init_125 rfl rfl rfl ?_
  refine r_bipush (v := 6) (n := 128) C dX8_init_126 rfl rfl ?_
  refine na_9 (n := 130) (N := 6) C rfl (by decide) (by decide) dX8_init_128 rfl (fun x hz hb => ?_)
  refine sX8_57 (n := 133) C hname (by rw [sK_nA, if_neg (k_ne hz (by rw [I.2.1]; decide))]; exact I.2.1) dX8_init_130 rfl ?_
  replace I := iML_s (f := 816) (k := 9) (n := 6) hkS I hz (by decide) (by decide)
  clear hz hb
  generalize uR (nA T x 9 6) 816 z (some x) = T at I ⊢
  generalize (fun g => if g = 816 then x else ad g) = ad at I
  clear x
  refine r_aload_n (i := 0) (n := 134) C dX8_init_133 rfl rfl rfl ?_
  refine r_bipush (v := 6) (n := 136) C dX8_init_134 rfl rfl ?_
  refine na_9 (n := 138) (N := 6) C rfl (by decide) (by decide) dX8_init_136 rfl (fun x hz hb => ?_)
  refine sX8_60 (n := 141) C hname (by rw [sK_nA, if_neg (k_ne hz (by rw [I.2.1]; decide))]; exact I.2.1) dX8_init_138 rfl ?_
  replace I := iML_s (f := 817) (k := 9) (n := 6) hkS I hz (by decide) (by decide)
  clear hz hb
  generalize uR (nA T x 9 6) 817 z (some x) = T at I ⊢
  generalize (fun g => if g = 817 then x else ad g) = ad at I
  clear x
  refine r_aload_n (i := 0) (n := 142) C dX8_init_141 rfl rfl rfl ?_
  refine r_bipush (v := 6) (n := 144) C dX8_init_142 rfl rfl ?_
  refine na_9 (n := 146) (N := 6) C rfl (by decide) (by decide) dX8_init_144 rfl (fun x hz hb => ?_)
  refine sX8_63 (n := 149) C hname (by rw [sK_nA, if_neg (k_ne hz (by rw [I.2.1]; decide))]; exact I.2.1) dX8_init_146 rfl ?_
  replace I := iML_s (f := 818) (k := 9) (n := 6) hkS I hz (by decide) (by decide)
  clear hz hb
  generalize uR (nA T x 9 6) 818 z (some x) = T at I ⊢
  generalize (fun g => if g = 818 then x else ad g) = ad at I
  clear x
  refine r_aload_n (i := 0) (n := 150) C dX8_init_149 rfl rfl rfl ?_
  refine r_bipush (v := 6) (n := 152) C dX8_init_150 rfl rfl ?_
  refine na_12 (n := 154) (N := 6) C rfl (by decide) (by decide) dX8_init_152 rfl (fun x hz hb => ?_)
  refine sX8_66 (n := 157) C hname (by rw [sK_nA, if_neg (k_ne hz (by rw [I.2.1]; decide))]; exact I.2.1) dX8_init_154 rfl ?_
  replace I := iML_s (f := 819) (k := 12) (n := 6) hkS I hz (by decide) (by decide)
  clear hz hb
  generalize uR (nA T x 12 6) 819 z (some x) = T at I ⊢
  generalize (fun g => if g = 819 then x else ad g) = ad at I
  clear x
  refine r_aload_n (i := 0) (n := 158) C dX8_init_157 rfl rfl rfl ?_
  refine r_bipush (v := 6) (n := 160) C dX8_init_158 rfl rfl ?_
  refine na_9 (n := 162) (N := 6) C rfl (by decide) (by decide) dX8_init_160 rfl (fun x hz hb => ?_)
  refine sX8_70 (n := 165) C hname (by rw [sK_nA, if_neg (k_ne hz (by rw [I.2.1]; decide))]; exact I.2.1) dX8_init_162 rfl ?_
  replace I := iML_s (f := 820) (k := 9) (n := 6) hkS I hz (by decide) (by decide)
  clear hz hb
  generalize uR (nA T x 9 6) 820 z (some x) = T at I ⊢
  generalize (fun g => if g = 820 then x else ad g) = ad at I
  clear x
  refine r_aload_n (i := 0) (n := 166) C dX8_init_165 rfl rfl rfl ?_
  refine r_bipush (v := 6) (n := 168) C dX8_init_166 rfl rfl ?_
  refine na_9 (n := 170) (N := 6) C rfl (by decide) (by decide) dX8_init_168 rfl (fun x hz hb => ?_)
  refine sX8_73 (n := 173) C hname (by rw [sK_nA, if_neg (k_ne hz (by rw [I.2.1]; decide))]; exact I.2.1) dX8_init_170 rfl ?_
  replace I := iML_s (f := 821) (k := 9) (n := 6) hkS I hz (by decide) (by decide)
  clear hz hb
  generalize uR (nA T x 9 6) 821 z (some x) = T at I ⊢
  generalize (fun g => if g = 821 then x else ad g) = ad at I
  clear x
  refine r_aload_n (i := 0) (n := 174) C dX8_init_173 rfl rfl rfl ?_
  refine r_ldc (n := 176) (v := 76800) C (mem_tb (mem_tbl 746 (by decide +kernel)) (by decide +kernel)) dX8_init_174 rfl ?_
  refine na_9 (n := 178) (N := 76800) C rfl (by decide) (by decide) dX8_init_176 rfl (fun x hz hb => ?_)
  refine sX8_76 (n := 181) C hname (by rw [sK_nA, if_neg (k_ne hz (by rw [I.2.1]; decide))]; exact I.2.1) dX8_init_178 rfl ?_
  replace I := iML_s (f := 822) (k := 9) (n := 76800) hkS I hz (by decide) (by decide)
  clear hz hb
  generalize uR (nA T x 9 76800) 822 z (some x) = T at I ⊢
  generalize (fun g => if g = 822 then x else ad g) = ad at I
  clear x
  refine r_aload_n (i := 0) (n := 182) C dX8_init_181 rfl rfl rfl ?_
  refine r_bipush (v := 6) (n := 184) C dX8_init_182 rfl rfl ?_
  refine na_9 (n := 186) (N := 6) C rfl (by decide) (by decide) dX8_init_184 rfl (fun x hz hb => ?_)
  refine sX8_79 (n := 189) C hname (by rw [sK_nA, if_neg (k_ne hz (by rw [I.2.1]; decide))]; exact I.2.1) dX8_init_186 rfl ?_
  replace I := iML_s (f := 823) (k := 9) (n := 6) hkS I hz (by decide) (by decide)
  clear hz hb
  generalize uR (nA T x 9 6) 823 z (some x) = T at I ⊢
  generalize (fun g => if g = 823 then x else ad g) = ad at I
  clear x
  refine r_aload_n (i := 0) (n := 190) C dX8_init_189 rfl rfl rfl ?_
  refine r_bipush (v := 96) (n := 192) C dX8_init_190 rfl rfl ?_
  refine na_9 (n := 194) (N := 96) C rfl (by decide) (by decide) dX8_init_192 rfl (fun x hz hb => ?_)
  refine sX8_82 (n := 197) C hname (by rw [sK_nA, if_neg (k_ne hz (by rw [I.2.1]; decide))]; exact I.2.1) dX8_init_194 rfl ?_
  replace I := iML_s (f := 825) (k := 9) (n := 96) hkS I hz (by decide) (by decide)
  clear hz hb
  generalize uR (nA T x 9 96) 825 z (some x) = T at I ⊢
  generalize (fun g => if g = 825 then x else ad g) = ad at I
  clear x
  refine r_aload_n (i := 0) (n := 198) C dX8_init_197 rfl rfl rfl ?_
  refine r_bipush (v := 96) (n := 200) C dX8_init_198 rfl rfl ?_
  refine na_9 (n := 202) (N := 96) C rfl (by decide) (by decide) dX8_init_200 rfl (fun x hz hb => ?_)
  refine sX8_85 (n := 205) C hname (by rw [sK_nA, if_neg (k_ne hz (by rw [I.2.1]; decide))]; exact I.2.1) dX8_init_202 rfl ?_
  replace I := iML_s (f := 826) (k := 9) (n := 96) hkS I hz (by decide) (by decide)
  clear hz hb
  generalize uR (nA T x 9 96) 826 z (some x) = T at I ⊢
  generalize (fun g => if g = 826 then x else ad g) = ad at I
  clear x
  refine r_aload_n (i := 0) (n := 206) C dX8_init_205 rfl rfl rfl ?_
  refine r_bipush (v := 24) (n := 208) C dX8_init_206 rfl rfl ?_
  refine na_9 (n := 210) (N := 24) C rfl (by decide) (by decide) dX8_init_208 rfl (fun x hz hb => ?_)
  refine sX8_88 (n := 213) C hname (by rw [sK_nA, if_neg (k_ne hz (by rw [I.2.1]; decide))]; exact I.2.1) dX8_init_210 rfl ?_
  replace I := iML_s (f := 827) (k := 9) (n := 24) hkS I hz (by decide) (by decide)
  clear hz hb
  generalize uR (nA T x 9 24) 827 z (some x) = T at I ⊢
  generalize (fun g => if g = 827 then x else ad g) = ad at I
  clear x
  refine r_aload_n (i := 0) (n := 214) C dX8_init_213 rfl rfl rfl ?_
  refine r_bipush (v := 96) (n := 216) C dX8_init_214 rfl rfl ?_
  refine na_9 (n := 218) (N := 96) C rfl (by decide) (by decide) dX8_init_216 rfl (fun x hz hb => ?_)
  refine sX8_91 (n := 221) C hname (by rw [sK_nA, if_neg (k_ne hz (by rw [I.2.1]; decide))]; exact I.2.1) dX8_init_218 rfl ?_
  replace I := iML_s (f := 828) (k := 9) (n := 96) hkS I hz (by decide) (by decide)
  clear hz hb
  generalize uR (nA T x 9 96) 828 z (some x) = T at I ⊢
  generalize (fun g => if g = 828 then x else ad g) = ad at I
  clear x
  refine r_aload_n (i := 0) (n := 222) C dX8_init_221 rfl rfl rfl ?_
  refine r_bipush (v := 96) (n := 224) C dX8_init_222 rfl rfl ?_
  refine na_9 (n := 226) (N := 96) C rfl (by decide) (by decide) dX8_init_224 rfl (fun x hz hb => ?_)
  refine sX8_94 (n := 229) C hname (by rw [sK_nA, if_neg (k_ne hz (by rw [I.2.1]; decide))]; exact I.2.1) dX8_init_226 rfl ?_
  replace I := iML_s (f := 829) (k := 9) (n := 96) hkS I hz (by decide) (by decide)
  clear hz hb
  generalize uR (nA T x 9 96) 829 z (some x) = T at I ⊢
  generalize (fun g => if g = 829 then x else ad g) = ad at I
  clear x
  refine r_aload_n (i := 0) (n := 230) C dX8_init_229 rfl rfl rfl ?_
  refine r_bipush (v := 24) (n := 232) C dX8_init_230 rfl rfl ?_
  refine na_9 (n := 234) (N := 24) C rfl (by decide) (by decide) dX8_init_232 rfl (fun x hz hb => ?_)
  refine sX8_97 (n := 237) C hname (by rw [sK_nA, if_neg (k_ne hz (by rw [I.2.1]; decide))]; exact I.2.1) dX8_init_234 rfl ?_
  replace I := iML_s (f := 830) (k := 9) (n := 24) hkS I hz (by decide) (by decide)
  clear hz hb
  generalize uR (nA T x 9 24) 830 z (some x) = T at I ⊢
  generalize (fun g => if g = 830 then x else ad g) = ad at I
  clear x
  refine r_aload_n (i := 0) (n := 238) C dX8_init_237 rfl rfl rfl ?_
  refine r_bipush (v := 24) (n := 240) C dX8_init_238 rfl rfl ?_
  refine na_9 (n := 242) (N := 24) C rfl (by decide) (by decide) dX8_init_240 rfl (fun x hz hb => ?_)
  refine sX8_100 (n := 245) C hname (by rw [sK_nA, if_neg (k_ne hz (by rw [I.2.1]; decide))]; exact I.2.1) dX8_init_242 rfl ?_
  replace I := iML_s (f := 831) (k := 9) (n := 24) hkS I hz (by decide) (by decide)
  clear hz hb
  generalize uR (nA T x 9 24) 831 z (some x) = T at I ⊢
  generalize (fun g => if g = 831 then x else ad g) = ad at I
  clear x
  refine r_aload_n (i := 0) (n := 246) C dX8_init_245 rfl rfl rfl ?_
  refine r_iconst (v := 1) (n := 247) C dX8_init_246 rfl rfl ?_
  refine sX8_103 (n := 250) C I.2.1 rfl rfl dX8_init_247 rfl ?_
  replace I := iML_u (f := 832) (w := 1) hkS I
  generalize uI T 832 z 1 = T at I ⊢
  refine r_aload_n (i := 0) (n := 251) C dX8_init_250 rfl rfl rfl ?_
  refine r_sipush (v := 4096) (n := 254) C dX8_init_251 rfl rfl ?_
  refine sX8_107 (n := 257) C I.2.1 dX8_init_254 rfl ?_
  replace I := iML_u (f := 833) (w := 4096) hkS I
  generalize uI T 833 z 4096 = T at I ⊢
  refine r_aload_n (i := 0) (n := 258) C dX8_init_257 rfl rfl rfl ?_
  refine r_bipush (v := 24) (n := 260) C dX8_init_258 rfl rfl ?_
  refine na_9 (n := 262) (N := 24) C rfl (by decide) (by decide) dX8_init_260 rfl (fun x hz hb => ?_)
  refine sX8_111 (n := 265) C hname (by rw [sK_nA, if_neg (k_ne hz (by rw [I.2.1]; decide))]; exact I.2.1) dX8_init_262 rfl ?_
  replace I := iML_s (f := 836) (k := 9) (n := 24) hkS I hz (by decide) (by decide)
  clear hz hb
  generalize uR (nA T x 9 24) 836 z (some x) = T at I ⊢
  generalize (fun g => if g = 836 then x else ad g) = ad at I
  clear x
  refine r_aload_n (i := 0) (n := 266) C dX8_init_265 rfl rfl rfl ?_
  refine r_bipush (v := 24) (n := 268) C dX8_init_266 rfl rfl ?_
  refine na_9 (n := 270) (N := 24) C rfl (by decide) (by decide) dX8_init_268 rfl (fun x hz hb => ?_)
  refine sX8_114 (n := 273) C hname (by rw [sK_nA, if_neg (k_ne hz (by rw [I.2.1]; decide))]; exact I.2.1) dX8_init_270 rfl ?_
  replace I := iML_s (f := 837) (k := 9) (n := 24) hkS I hz (by decide) (by decide)
  clear hz hb
  generalize uR (nA T x 9 24) 837 z (some x) = T at I ⊢
  generalize (fun g => if g = 837 then x else ad g) = ad at I
  clear x
  refine r_aload_n (i := 0) (n := 274) C dX8_init_273 rfl rfl rfl ?_
  refine r_bipush (v := 24) (n := 276) C dX8_init_274 rfl rfl ?_
  refine na_9 (n := 278) (N := 24) C rfl (by decide) (by decide) dX8_init_276 rfl (fun x hz hb => ?_)
  refine sX8_117 (n := 281) C hname (by rw [sK_nA, if_neg (k_ne hz (by rw [I.2.1]; decide))]; exact I.2.1) dX8_init_278 rfl ?_
  replace I := iML_s (f := 838) (k := 9) (n := 24) hkS I hz (by decide) (by decide)
  clear hz hb
  generalize uR (nA T x 9 24) 838 z (some x) = T at I ⊢
  generalize (fun g => if g = 838 then x else ad g) = ad at I
  clear x
  refine r_aload_n (i := 0) (n := 282) C dX8_init_281 rfl rfl rfl ?_
  refine r_bipush (v := 24) (n := 284) C dX8_init_282 rfl rfl ?_
  refine na_9 (n := 286) (N := 24) C rfl (by decide) (by decide) dX8_init_284 rfl (fun x hz hb => ?_)
  refine sX8_120 (n := 289) C hname (by rw [sK_nA, if_neg (k_ne hz (by rw [I.2.1]; decide))]; exact I.2.1) dX8_init_286 rfl ?_
  replace I := iML_s (f := 839) (k := 9) (n := 24) hkS I hz (by decide) (by decide)
  clear hz hb
  generalize uR (nA T x 9 24) 839 z (some x) = T at I ⊢
  generalize (fun g => if g = 839 then x else ad g) = ad at I
  clear x
  refine r_iconst (v := 0) (n := 290) C dX8_init_289 rfl rfl ?_
  refine r_istore_n (i := 1) (n := 291) C dX8_init_290 rfl (by decide) rfl rfl ?_
  have h801 := I.2.2.2.1 (801, 9, 512) (by decide)
  have kS : ∀ r, sK (wIs T (ad 801) r) z = 8 := fun r => I.2.1
  have rS : ∀ r, fR (wIs T (ad 801) r) 801 z = some (ad 801) := fun r => h801.1
  have iS : ∀ r, isI (wIs T (ad 801) r) (ad 801) 512 := fun r => ⟨h801.2.1, h801.2.2.1, by decide⟩
  have lp : ∀ (q p9 : Nat), p9 + q = 32 → J p l e rmX8_init s m args below meth c 5 G b (vx_MQ below (Qp G b mV (fun _ S' => ∃ ad, nMd S S' z ad)) (XCp G b S (fun _ => False)) args s rmX8_init.cells rmX8_init.slots (Ab b)) 291 [(0, .ref z), (1, .int (nI p9))] [] (wIs T (ad 801) (tbC p9 (aI T (ad 801)))) ((((((((((((((((((((((((((((((((((0 + 1) + 1) + 1) + 1) + 1) + 1) + 1) + 1) + 1) + 1) + 1) + 1) + 1) + 1) + 1) + 1) + 1) + 1) + 1) + 1) + 1) + 1) + 1) + 1) + 1) + 1) + 1) + 1) + 1) + 1) + 1) + 1) + 1) + 1) ((((((((((((((((((((((((((((((((((0 + 512) + 6) + 6) + 6) + 6) + 6) + 6) + 6) + 6) + 6) + 76800) + 76800) + 6) + 6) + 6) + 6) + 6) + 6) + 6) + 6) + 6) + 76800) + 6) + 96) + 96) + 24) + 96) + 96) + 24) + 24) + 24) + 24) + 24) + 24) := by
    intro q
    induction q with
    | zero =>
      intro p9 hp9
      obtain rfl : p9 = 32 := by omega
      refine r_iload_n (i := 1) (n := 292) C dX8_init_291 rfl rfl rfl ?_
      refine r_bipush (v := 32) (n := 294) C dX8_init_292 rfl rfl ?_
      refine r_icmp_geT (t := 429) C (cle (a := 32) (b := 32) rfl rfl (by omega) (by omega)) dX8_init_294 (by decide) ?_
      refine t_v C dX8_init_429 (by decide) ?_
      refine ⟨ad, nMd_of hkS I (by decide) (fun f => ?_)⟩
      by_cases h2 : f = 832
      · subst h2; rfl
      · by_cases h3 : f = 833
        · subst h3; rfl
        · simp [h2, h3]
    | succ q ih =>
      intro p9 hp9
      have hi2 : ∀ (q k : Nat), k + q = 16 → J p l e rmX8_init s m args below meth c 5 G b (vx_MQ below (Qp G b mV (fun _ S' => ∃ ad, nMd S S' z ad)) (XCp G b S (fun _ => False)) args s rmX8_init.cells rmX8_init.slots (Ab b)) 326 [(0, .ref z), (1, .int (nI p9)), (2, .int (wsm p9 16)), (3, .int (tsm p9 k)), (4, .int (nI k))] [] (wIs T (ad 801) (tbI p9 k (aI T (ad 801)))) ((((((((((((((((((((((((((((((((((0 + 1) + 1) + 1) + 1) + 1) + 1) + 1) + 1) + 1) + 1) + 1) + 1) + 1) + 1) + 1) + 1) + 1) + 1) + 1) + 1) + 1) + 1) + 1) + 1) + 1) + 1) + 1) + 1) + 1) + 1) + 1) + 1) + 1) + 1) ((((((((((((((((((((((((((((((((((0 + 512) + 6) + 6) + 6) + 6) + 6) + 6) + 6) + 6) + 6) + 76800) + 76800) + 6) + 6) + 6) + 6) + 6) + 6) + 6) + 6) + 6) + 76800) + 6) + 96) + 96) + 24) + 96) + 96) + 24) + 24) + 24) + 24) + 24) + 24) := by
        intro q2
        induction q2 with
        | zero =>
          intro k hk9
          obtain rfl : k = 16 := by omega
          have hn9 := ih (p9 + 1) (by omega)
          by_cases hle : p9 ≤ 16
          · have hmd : mid p9 = 7 := if_pos hle
            refine r_iload (n := 328) C dX8_init_326 rfl rfl ?_
            refine r_bipush (v := 16) (n := 330) C dX8_init_328 rfl rfl ?_
            refine r_icmp_geT (t := 378) C (cle (a := 16) (b := 16) rfl rfl (by omega) (by omega)) dX8_init_330 (by decide) ?_
            refine r_iload_n (i := 1) (n := 379) C dX8_init_378 rfl rfl rfl ?_
            refine r_bipush (v := 16) (n := 381) C dX8_init_379 rfl rfl ?_
            refine r_icmp_leT (t := 389) C (cle (a := p9) (b := 16) rfl rfl (by omega) (by omega)) dX8_init_381 (by decide) ?_
            refine r_bipush (v := 7) (n := 391) C dX8_init_389 rfl rfl ?_
            refine r_istore (n := 393) C dX8_init_391 (by decide) rfl rfl ?_
            refine r_aload_n (i := 0) (n := 394) C dX8_init_393 rfl rfl rfl ?_
            refine gX8_7 (n := 397) C (kS _) (rS _) dX8_init_394 rfl ?_
            refine r_bipush (v := 16) (n := 399) C dX8_init_397 rfl rfl ?_
            refine r_iload_n (i := 1) (n := 400) C dX8_init_399 rfl rfl rfl ?_
            refine r_imul (n := 401) C dX8_init_400 rfl ?_
            refine r_iload (n := 403) C dX8_init_401 rfl rfl ?_
            refine r_iadd (n := 404) C dX8_init_403 rfl ?_
            refine r_aload_n (i := 0) (n := 405) C dX8_init_404 rfl rfl rfl ?_
            refine gX8_7 (n := 408) C (kS _) (rS _) dX8_init_405 rfl ?_
            refine r_bipush (v := 16) (n := 410) C dX8_init_408 rfl rfl ?_
            refine r_iload_n (i := 1) (n := 411) C dX8_init_410 rfl rfl rfl ?_
            refine r_imul (n := 412) C dX8_init_411 rfl ?_
            refine r_iload (n := 414) C dX8_init_412 rfl rfl ?_
            refine r_iadd (n := 415) C dX8_init_414 rfl ?_
            refine q_iald (n := 416) C (16 * p9 + 7) (iS _) (add_nI (a := 16 * p9) (b := 7) (mul_nI (a := 16) (b := p9) rfl rfl) rfl) (by omega) dX8_init_415 rfl ?_
            rw [show aI (wIs T (ad 801) (tbI p9 16 (aI T (ad 801)))) (ad 801) (16 * p9 + 7) = tp0 p9 7 from (if_pos rfl).trans (by rw [Nat.mul_comm 16 p9]; exact tbI_at (by omega))]
            refine r_sipush (v := 16384) (n := 419) C dX8_init_416 rfl rfl ?_
            refine r_iadd (n := 420) C dX8_init_419 rfl ?_
            refine r_iload_n (i := 3) (n := 421) C dX8_init_420 rfl rfl rfl ?_
            refine r_isub (n := 422) C dX8_init_421 rfl ?_
            refine q_iast (n := 423) C (16 * p9 + 7) (iS _) (add_nI (a := 16 * p9) (b := 7) (mul_nI (a := 16) (b := p9) rfl rfl) rfl) (by omega) dX8_init_422 rfl ?_
            rw [wI_wIs, Nat.mul_comm 16 p9]
            rw [show (fun i => if i = p9 * 16 + 7 then tp0 p9 7 + 16384 - tsm p9 16 else tbI p9 16 (aI T (ad 801)) i) = tbC (p9 + 1) (aI T (ad 801)) from by rw [← hmd]; exact tbI_e (tbM_e (by omega))]
            refine r_iinc (n := 426) C dX8_init_423 rfl rfl (by decide) rfl rfl ?_
            refine r_goto (t := 291) C dX8_init_426 (by decide) ?_
            exact J.to (by rw [show nI p9 + Int32.ofInt 1 = nI (p9 + 1) from nI_1 p9]; rfl) hn9
          · have hmd : mid p9 = 8 := if_neg hle
            refine r_iload (n := 328) C dX8_init_326 rfl rfl ?_
            refine r_bipush (v := 16) (n := 330) C dX8_init_328 rfl rfl ?_
            refine r_icmp_geT (t := 378) C (cle (a := 16) (b := 16) rfl rfl (by omega) (by omega)) dX8_init_330 (by decide) ?_
            refine r_iload_n (i := 1) (n := 379) C dX8_init_378 rfl rfl rfl ?_
            refine r_bipush (v := 16) (n := 381) C dX8_init_379 rfl rfl ?_
            refine r_icmp_leF (n := 384) (t := 389) C (cnle (a := p9) (b := 16) rfl rfl (by omega) (by omega)) dX8_init_381 (by decide) rfl ?_
            refine r_bipush (v := 8) (n := 386) C dX8_init_384 rfl rfl ?_
            refine r_goto (t := 391) C dX8_init_386 (by decide) ?_
            refine r_istore (n := 393) C dX8_init_391 (by decide) rfl rfl ?_
            refine r_aload_n (i := 0) (n := 394) C dX8_init_393 rfl rfl rfl ?_
            refine gX8_7 (n := 397) C (kS _) (rS _) dX8_init_394 rfl ?_
            refine r_bipush (v := 16) (n := 399) C dX8_init_397 rfl rfl ?_
            refine r_iload_n (i := 1) (n := 400) C dX8_init_399 rfl rfl rfl ?_
            refine r_imul (n := 401) C dX8_init_400 rfl ?_
            refine r_iload (n := 403) C dX8_init_401 rfl rfl ?_
            refine r_iadd (n := 404) C dX8_init_403 rfl ?_
            refine r_aload_n (i := 0) (n := 405) C dX8_init_404 rfl rfl rfl ?_
            refine gX8_7 (n := 408) C (kS _) (rS _) dX8_init_405 rfl ?_
            refine r_bipush (v := 16) (n := 410) C dX8_init_408 rfl rfl ?_
            refine r_iload_n (i := 1) (n := 411) C dX8_init_410 rfl rfl rfl ?_
            refine r_imul (n := 412) C dX8_init_411 rfl ?_
            refine r_iload (n := 414) C dX8_init_412 rfl rfl ?_
            refine r_iadd (n := 415) C dX8_init_414 rfl ?_
            refine q_iald (n := 416) C (16 * p9 + 8) (iS _) (add_nI (a := 16 * p9) (b := 8) (mul_nI (a := 16) (b := p9) rfl rfl) rfl) (by omega) dX8_init_415 rfl ?_
            rw [show aI (wIs T (ad 801) (tbI p9 16 (aI T (ad 801)))) (ad 801) (16 * p9 + 8) = tp0 p9 8 from (if_pos rfl).trans (by rw [Nat.mul_comm 16 p9]; exact tbI_at (by omega))]
            refine r_sipush (v := 16384) (n := 419) C dX8_init_416 rfl rfl ?_
            refine r_iadd (n := 420) C dX8_init_419 rfl ?_
            refine r_iload_n (i := 3) (n := 421) C dX8_init_420 rfl rfl rfl ?_
            refine r_isub (n := 422) C dX8_init_421 rfl ?_
            refine q_iast (n := 423) C (16 * p9 + 8) (iS _) (add_nI (a := 16 * p9) (b := 8) (mul_nI (a := 16) (b := p9) rfl rfl) rfl) (by omega) dX8_init_422 rfl ?_
            rw [wI_wIs, Nat.mul_comm 16 p9]
            rw [show (fun i => if i = p9 * 16 + 8 then tp0 p9 8 + 16384 - tsm p9 16 else tbI p9 16 (aI T (ad 801)) i) = tbC (p9 + 1) (aI T (ad 801)) from by rw [← hmd]; exact tbI_e (tbM_e (by omega))]
            refine r_iinc (n := 426) C dX8_init_423 rfl rfl (by decide) rfl rfl ?_
            refine r_goto (t := 291) C dX8_init_426 (by decide) ?_
            exact J.to (by rw [show nI p9 + Int32.ofInt 1 = nI (p9 + 1) from nI_1 p9]; rfl) hn9
        | succ q2 ih2 =>
          intro k hk9
          refine r_iload (n := 328) C dX8_init_326 rfl rfl ?_
          refine r_bipush (v := 16) (n := 330) C dX8_init_328 rfl rfl ?_
          refine r_icmp_geF (n := 333) (t := 378) C (cnle (a := 16) (b := k) rfl rfl (by omega) (by omega)) dX8_init_330 (by decide) rfl ?_
          refine r_aload_n (i := 0) (n := 334) C dX8_init_333 rfl rfl rfl ?_
          refine gX8_7 (n := 337) C (kS _) (rS _) dX8_init_334 rfl ?_
          refine r_bipush (v := 16) (n := 339) C dX8_init_337 rfl rfl ?_
          refine r_iload_n (i := 1) (n := 340) C dX8_init_339 rfl rfl rfl ?_
          refine r_imul (n := 341) C dX8_init_340 rfl ?_
          refine r_iload (n := 343) C dX8_init_341 rfl rfl ?_
          refine r_iadd (n := 344) C dX8_init_343 rfl ?_
          refine r_sipush (v := 16384) (n := 347) C dX8_init_344 rfl rfl ?_
          refine r_iload_n (i := 1) (n := 348) C dX8_init_347 rfl rfl rfl ?_
          refine r_iload (n := 350) C dX8_init_348 rfl rfl ?_
          refine kX8_123 (n := 353) C (m_weight hst (wIs T (ad 801) (tbI p9 k (aI T (ad 801)))) (nI p9) (nI k)) (by decide) (by decide) (Nat.le_of_ble_eq_true rfl) dX8_init_350 rfl (fun r S1 hp => ?_)
          obtain ⟨hS9, hr9⟩ := hp
          subst S1
          subst r
          refine r_imul (n := 354) C dX8_init_353 rfl ?_
          refine r_iload_n (i := 2) (n := 355) C dX8_init_354 rfl rfl rfl ?_
          refine r_idiv (n := 356) C dX8_init_355 (wsm_ne (by omega)) rfl ?_
          refine q_iast (n := 357) C (16 * p9 + k) (iS _) (add_nI (a := 16 * p9) (b := k) (mul_nI (a := 16) (b := p9) rfl rfl) rfl) (by omega) dX8_init_356 rfl ?_
          rw [wI_wIs, Nat.mul_comm 16 p9]
          rw [show (fun i => if i = p9 * 16 + k then 16384 * mwt (nI p9) (nI k) / wsm p9 16 else tbI p9 k (aI T (ad 801)) i) = tbI p9 (k + 1) (aI T (ad 801)) from tbI_s]
          refine r_iload_n (i := 3) (n := 358) C dX8_init_357 rfl rfl rfl ?_
          refine r_aload_n (i := 0) (n := 359) C dX8_init_358 rfl rfl rfl ?_
          refine gX8_7 (n := 362) C (kS _) (rS _) dX8_init_359 rfl ?_
          refine r_bipush (v := 16) (n := 364) C dX8_init_362 rfl rfl ?_
          refine r_iload_n (i := 1) (n := 365) C dX8_init_364 rfl rfl rfl ?_
          refine r_imul (n := 366) C dX8_init_365 rfl ?_
          refine r_iload (n := 368) C dX8_init_366 rfl rfl ?_
          refine r_iadd (n := 369) C dX8_init_368 rfl ?_
          refine q_iald (n := 370) C (16 * p9 + k) (iS _) (add_nI (a := 16 * p9) (b := k) (mul_nI (a := 16) (b := p9) rfl rfl) rfl) (by omega) dX8_init_369 rfl ?_
          rw [show aI (wIs T (ad 801) (tbI p9 (k + 1) (aI T (ad 801)))) (ad 801) (16 * p9 + k) = tp0 p9 k from (if_pos rfl).trans (by rw [Nat.mul_comm 16 p9]; exact tbI_at (by omega))]
          refine r_iadd (n := 371) C dX8_init_370 rfl ?_
          refine r_istore_n (i := 3) (n := 372) C dX8_init_371 rfl (by decide) rfl rfl ?_
          refine r_iinc (n := 375) C dX8_init_372 rfl rfl (by decide) rfl rfl ?_
          refine r_goto (t := 326) C dX8_init_375 (by decide) ?_
          exact J.to (by rw [show nI k + Int32.ofInt 1 = nI (k + 1) from nI_1 k]; rfl) (ih2 (k + 1) (by omega))
      have hi1 : ∀ (q k : Nat), k + q = 16 → J p l e rmX8_init s m args below meth c 5 G b (vx_MQ below (Qp G b mV (fun _ S' => ∃ ad, nMd S S' z ad)) (XCp G b S (fun _ => False)) args s rmX8_init.cells rmX8_init.slots (Ab b)) 301 [(0, .ref z), (1, .int (nI p9)), (2, .int (wsm p9 k)), (3, .int (nI k))] [] (wIs T (ad 801) (tbC p9 (aI T (ad 801)))) ((((((((((((((((((((((((((((((((((0 + 1) + 1) + 1) + 1) + 1) + 1) + 1) + 1) + 1) + 1) + 1) + 1) + 1) + 1) + 1) + 1) + 1) + 1) + 1) + 1) + 1) + 1) + 1) + 1) + 1) + 1) + 1) + 1) + 1) + 1) + 1) + 1) + 1) + 1) ((((((((((((((((((((((((((((((((((0 + 512) + 6) + 6) + 6) + 6) + 6) + 6) + 6) + 6) + 6) + 76800) + 76800) + 6) + 6) + 6) + 6) + 6) + 6) + 6) + 6) + 6) + 76800) + 6) + 96) + 96) + 24) + 96) + 96) + 24) + 24) + 24) + 24) + 24) + 24) := by
        intro q2
        induction q2 with
        | zero =>
          intro k hk9
          obtain rfl : k = 16 := by omega
          refine r_iload_n (i := 3) (n := 302) C dX8_init_301 rfl rfl rfl ?_
          refine r_bipush (v := 16) (n := 304) C dX8_init_302 rfl rfl ?_
          refine r_icmp_geT (t := 321) C (cle (a := 16) (b := 16) rfl rfl (by omega) (by omega)) dX8_init_304 (by decide) ?_
          refine r_iconst (v := 0) (n := 322) C dX8_init_321 rfl rfl ?_
          refine r_istore_n (i := 3) (n := 323) C dX8_init_322 rfl (by decide) rfl rfl ?_
          refine r_iconst (v := 0) (n := 324) C dX8_init_323 rfl rfl ?_
          refine r_istore (n := 326) C dX8_init_324 (by decide) rfl rfl ?_
          have e1 := hi2 16 0 (by omega)
          rw [tbI_0] at e1
          exact J.to rfl e1
        | succ q2 ih2 =>
          intro k hk9
          refine r_iload_n (i := 3) (n := 302) C dX8_init_301 rfl rfl rfl ?_
          refine r_bipush (v := 16) (n := 304) C dX8_init_302 rfl rfl ?_
          refine r_icmp_geF (n := 307) (t := 321) C (cnle (a := 16) (b := k) rfl rfl (by omega) (by omega)) dX8_init_304 (by decide) rfl ?_
          refine r_iload_n (i := 2) (n := 308) C dX8_init_307 rfl rfl rfl ?_
          refine r_iload_n (i := 1) (n := 309) C dX8_init_308 rfl rfl rfl ?_
          refine r_iload_n (i := 3) (n := 310) C dX8_init_309 rfl rfl rfl ?_
          refine kX8_123 (n := 313) C (m_weight hst (wIs T (ad 801) (tbC p9 (aI T (ad 801)))) (nI p9) (nI k)) (by decide) (by decide) (Nat.le_of_ble_eq_true rfl) dX8_init_310 rfl (fun r S1 hp => ?_)
          obtain ⟨hS9, hr9⟩ := hp
          subst S1
          subst r
          refine r_iadd (n := 314) C dX8_init_313 rfl ?_
          refine r_istore_n (i := 2) (n := 315) C dX8_init_314 rfl (by decide) rfl rfl ?_
          refine r_iinc (n := 318) C dX8_init_315 rfl rfl (by decide) rfl rfl ?_
          refine r_goto (t := 301) C dX8_init_318 (by decide) ?_
          exact J.to (by rw [show nI k + Int32.ofInt 1 = nI (k + 1) from nI_1 k]; rfl) (ih2 (k + 1) (by omega))
      refine r_iload_n (i := 1) (n := 292) C dX8_init_291 rfl rfl rfl ?_
      refine r_bipush (v := 32) (n := 294) C dX8_init_292 rfl rfl ?_
      refine r_icmp_geF (n := 297) (t := 429) C (cnle (a := 32) (b := p9) rfl rfl (by omega) (by omega)) dX8_init_294 (by decide) rfl ?_
      refine r_iconst (v := 0) (n := 298) C dX8_init_297 rfl rfl ?_
      refine r_istore_n (i := 2) (n := 299) C dX8_init_298 rfl (by decide) rfl rfl ?_
      refine r_iconst (v := 0) (n := 300) C dX8_init_299 rfl rfl ?_
      refine r_istore_n (i := 3) (n := 301) C dX8_init_300 rfl (by decide) rfl rfl ?_
      exact J.to rfl (hi1 16 0 (by omega))
  have e0 := lp 32 0 (by omega)
  rw [tbC_0, wIs_self] at e0
  exact J.to rfl e0
