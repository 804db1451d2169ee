theorem wl1 : Cond.classLink RL 13 (EXn 1) ∈ TB := (mem_tb (mem_tbl 278 (by decide +kernel)) (by decide +kernel))
theorem wl2 : Cond.classLink RL 15 (EXn 2) ∈ TB := (mem_tb (mem_tbl 279 (by decide +kernel)) (by decide +kernel))
theorem wb1 : Cond.castable (EXn 1) (EXn 1) ∈ BW := (mem_bw (mem_tbl 291 (by decide +kernel)) rfl)
theorem wb2 : Cond.castable (EXn 2) (EXn 2) ∈ BW := (mem_bw (mem_tbl 362 (by decide +kernel)) rfl)
section
variable {p : Program} {l : Launch} {e : Env} {R : Room} {s : State} {m : MethodId} {args : Array Value} {below : List Frame} {meth : Method} {c : Code} {cc : ByteArray} {nL : Nat} {own : String} {ret : Option FieldType} {G : GG} {b : Nat} {Q : State → Prop} {pc : Nat} {lv : List (Nat × Value)} {st : List Value} {S : Sw} {cells slots : Nat}
theorem JX.c1 (C : Cx p l s m args meth c cc nL RL ret G b) {sp ep hp : Nat} {suf : List (Nat × Nat × Nat × Nat)} (ht : c.exceptionTable.toList = tableOf ((sp, ep, hp, 13) :: suf)) (hcov : sp ≤ pc ∧ pc < ep) (kk : ∀ q, J p l e R s m args below meth c nL G b Q hp lv [.ref q] S cells slots) : JX p l e R s m args below meth c nL G b Q 1 pc lv st S cells slots := fun ls H locs ce q h1 h2 h3 h4 h5 h6 =>
  vx_catch (own := RL) (name := EXn 1) (E := EXn 1) C.2.2.2.1 [] _ (tableOf suf) ht (fun z hz => nomatch hz) (by simp [covers, hcov.1, hcov.2]) (show (13 : Nat) ≠ 0 by decide) (C.w wl1) (va_Nw.use (A := args) rfl (C.fx.2.1 _ wb1)) h4 h5 h6 (kk q ls H locs h1 h2 h3)
theorem JX.c2 (C : Cx p l s m args meth c cc nL RL ret G b) {sp ep hp sp2 ep2 hp2 : Nat} {suf : List (Nat × Nat × Nat × Nat)} (ht : c.exceptionTable.toList = tableOf ((sp, ep, hp, 13) :: (sp2, ep2, hp2, 15) :: suf)) (hcov : sp2 ≤ pc ∧ pc < ep2) (kk : ∀ q, J p l e R s m args below meth c nL G b Q hp2 lv [.ref q] S cells slots) : JX p l e R s m args below meth c nL G b Q 2 pc lv st S cells slots := fun ls H locs ce q h1 h2 h3 h4 h5 h6 =>
  vx_catch (own := RL) (name := EXn 2) (E := EXn 2) C.2.2.2.1 (tableOf [(sp, ep, hp, 13)]) _ (tableOf suf) ht (fun z hz => by
    have hz' : z = _ := List.mem_singleton.mp hz
    subst hz'
    exact Or.inr ⟨show (13 : Nat) ≠ 0 by decide, EXn 1, C.w wl1, C.fx.2.2.2.1 (EXn 2, EXn 1) (by decide)⟩) (by simp [covers, hcov.1, hcov.2]) (show (15 : Nat) ≠ 0 by decide) (C.w wl2) (va_Nw.use (A := args) rfl (C.fx.2.1 _ wb2)) h4 h5 h6 (kk q ls H locs h1 h2 h3)
end
set_option maxRecDepth 100000 in
set_option maxHeartbeats 1000000 in
theorem l_open_y {l : Launch} {G : GG} {b : Nat} (hst : l.stackTraces = false) (S : Sw) (k : Nat) (hk : sK S k = 7) (a0 : Int32) (a1 : Int32) (a2 : Int32) (a3 : Int32) (out : Nat) (P : Int32 → Sw → Prop) (hM : Cth l G b yX7_open cX7_open 6 (some .int) rmX7_open mI [.ref k, .int a0, .int a1, .int a2, .int a3] S P (fun _ => False)) (hP : ∀ v T, P v T → isL T out 1) : CtW l G b yL_open cL_open 7 (some .int) [(0, 14, 17, 13), (0, 14, 21, 15)] rmL_open mI [.ref k, .int a0, .int a1, .int a2, .int a3, .ref out] S (fun r S' => r = 0 ∧ ∃ v T, P v T ∧ S' = wJ T out 0 v.toInt64) := by
  refine CtW.of pnL (own := RL) rfl (Nat.le_of_ble_eq_true rfl) hst ?_
  intro p e s m args below meth c C htab
  change J p l e rmL_open s m args below meth c 7 G b _ 0 [(0, .ref k), (1, .int a0), (2, .int a1), (3, .int a2), (4, .int a3), (5, .ref out)] [] S 0 0
  refine r_aload (n := 2) C dL_open_0 rfl rfl ?_
  refine r_iconst (v := 0) (n := 3) C dL_open_2 rfl rfl ?_
  refine r_aload_n (i := 0) (n := 4) C dL_open_3 rfl rfl rfl ?_
  refine r_iload_n (i := 1) (n := 5) C dL_open_4 rfl rfl rfl ?_
  refine r_iload_n (i := 2) (n := 6) C dL_open_5 rfl rfl rfl ?_
  refine r_iload_n (i := 3) (n := 7) C dL_open_6 rfl rfl rfl ?_
  refine r_iload (n := 9) C dL_open_7 rfl rfl ?_
  refine kL_7 (n := 12) C (hM) hk (by decide) (by decide) (Nat.le_of_ble_eq_true rfl) dL_open_9 rfl (fun _ _ h9 => h9.elim) (fun v T hp => ?_)
  refine r_i2l (n := 13) C dL_open_12 rfl ?_
  refine q_last (n := 14) C 0 (hP v T hp) rfl (by decide) dL_open_13 rfl ?_
  refine r_goto (t := 25) C dL_open_14 (by decide) ?_
  refine r_iconst (v := 0) (n := 26) C dL_open_25 rfl rfl ?_
  refine t_i C rfl dL_open_26 (by decide) ?_
  exact ⟨rfl, v, T, hp, rfl⟩
set_option maxRecDepth 100000 in
set_option maxHeartbeats 1000000 in
theorem l_open_t1 {l : Launch} {G : GG} {b : Nat} (hst : l.stackTraces = false) (S : Sw) (k : Nat) (hk : sK S k = 7) (a0 : Int32) (a1 : Int32) (a2 : Int32) (a3 : Int32) (out : Nat) (hM : Cth l G b yX7_open cX7_open 6 (some .int) rmX7_open mI [.ref k, .int a0, .int a1, .int a2, .int a3] S (fun _ _ => False) (fun k => k = 1)) : CtW l G b yL_open cL_open 7 (some .int) [(0, 14, 17, 13), (0, 14, 21, 15)] rmL_open mI [.ref k, .int a0, .int a1, .int a2, .int a3, .ref out] S (fun r S' => S' = S ∧ r = 1) := by
  refine CtW.of pnL (own := RL) rfl (Nat.le_of_ble_eq_true rfl) hst ?_
  intro p e s m args below meth c C htab
  change J p l e rmL_open s m args below meth c 7 G b _ 0 [(0, .ref k), (1, .int a0), (2, .int a1), (3, .int a2), (4, .int a3), (5, .ref out)] [] S 0 0
  have hJ : ∀ q : Nat, J p l e rmL_open s m args below meth c 7 G b (vx_MQ below (Qp G b mI (fun r S' => S' = S ∧ r = 1)) (XCp G b S (fun _ => False)) args s rmL_open.cells rmL_open.slots (Ab b)) 17 [(0, .ref k), (1, .int a0), (2, .int a1), (3, .int a2), (4, .int a3), (5, .ref out)] [.ref q] S (0 + 15) (0 + 1586) := by
    intro q
    refine r_astore (n := 19) C dL_open_17 (by decide) rfl rfl ?_
    refine r_iconst (v := 1) (n := 20) C dL_open_19 rfl rfl ?_
    refine t_i C rfl dL_open_20 (by decide) ?_
    exact ⟨rfl, rfl⟩
  refine r_aload (n := 2) C dL_open_0 rfl rfl ?_
  refine r_iconst (v := 0) (n := 3) C dL_open_2 rfl rfl ?_
  refine r_aload_n (i := 0) (n := 4) C dL_open_3 rfl rfl rfl ?_
  refine r_iload_n (i := 1) (n := 5) C dL_open_4 rfl rfl rfl ?_
  refine r_iload_n (i := 2) (n := 6) C dL_open_5 rfl rfl rfl ?_
  refine r_iload_n (i := 3) (n := 7) C dL_open_6 rfl rfl rfl ?_
  refine r_iload (n := 9) C dL_open_7 rfl rfl ?_
  refine kL_7 (n := 12) C (hM) hk (by decide) (by decide) (Nat.le_of_ble_eq_true rfl) dL_open_9 rfl (fun k9 _ hx9 => by subst hx9; exact JX.c1 C htab (by decide) hJ) (fun v T hp => ?_)
  exact hp.elim
set_option maxRecDepth 100000 in
set_option maxHeartbeats 1000000 in
theorem l_open_t2 {l : Launch} {G : GG} {b : Nat} (hst : l.stackTraces = false) (S : Sw) (k : Nat) (hk : sK S k = 7) (a0 : Int32) (a1 : Int32) (a2 : Int32) (a3 : Int32) (out : Nat) (hM : Cth l G b yX7_open cX7_open 6 (some .int) rmX7_open mI [.ref k, .int a0, .int a1, .int a2, .int a3] S (fun _ _ => False) (fun k => k = 2)) : CtW l G b yL_open cL_open 7 (some .int) [(0, 14, 17, 13), (0, 14, 21, 15)] rmL_open mI [.ref k, .int a0, .int a1, .int a2, .int a3, .ref out] S (fun r S' => S' = S ∧ r = 2) := by
  refine CtW.of pnL (own := RL) rfl (Nat.le_of_ble_eq_true rfl) hst ?_
  intro p e s m args below meth c C htab
  change J p l e rmL_open s m args below meth c 7 G b _ 0 [(0, .ref k), (1, .int a0), (2, .int a1), (3, .int a2), (4, .int a3), (5, .ref out)] [] S 0 0
  have hJ : ∀ q : Nat, J p l e rmL_open s m args below meth c 7 G b (vx_MQ below (Qp G b mI (fun r S' => S' = S ∧ r = 2)) (XCp G b S (fun _ => False)) args s rmL_open.cells rmL_open.slots (Ab b)) 21 [(0, .ref k), (1, .int a0), (2, .int a1), (3, .int a2), (4, .int a3), (5, .ref out)] [.ref q] S (0 + 15) (0 + 1586) := by
    intro q
    refine r_astore (n := 23) C dL_open_21 (by decide) rfl rfl ?_
    refine r_iconst (v := 2) (n := 24) C dL_open_23 rfl rfl ?_
    refine t_i C rfl dL_open_24 (by decide) ?_
    exact ⟨rfl, rfl⟩
  refine r_aload (n := 2) C dL_open_0 rfl rfl ?_
  refine r_iconst (v := 0) (n := 3) C dL_open_2 rfl rfl ?_
  refine r_aload_n (i := 0) (n := 4) C dL_open_3 rfl rfl rfl ?_
  refine r_iload_n (i := 1) (n := 5) C dL_open_4 rfl rfl rfl ?_
  refine r_iload_n (i := 2) (n := 6) C dL_open_5 rfl rfl rfl ?_
  refine r_iload_n (i := 3) (n := 7) C dL_open_6 rfl rfl rfl ?_
  refine r_iload (n := 9) C dL_open_7 rfl rfl ?_
  refine kL_7 (n := 12) C (hM) hk (by decide) (by decide) (Nat.le_of_ble_eq_true rfl) dL_open_9 rfl (fun k9 _ hx9 => by subst hx9; exact JX.c2 C htab (by decide) hJ) (fun v T hp => ?_)
  exact hp.elim
set_option maxRecDepth 100000 in
set_option maxHeartbeats 1000000 in
theorem l_close_y {l : Launch} {G : GG} {b : Nat} (hst : l.stackTraces = false) (S : Sw) (k : Nat) (hk : sK S k = 7) (a0 : Int32) (P : Unit → Sw → Prop) (hM : Cth l G b yX7_close cX7_close 2 none rmX7_close mV [.ref k, .int a0] S P (fun _ => False)) : CtW l G b yL_close cL_close 3 (some .int) [(0, 5, 8, 13)] rmL_close mI [.ref k, .int a0] S (fun r S' => r = 0 ∧ ∃ v, P v S') := by
  refine CtW.of pnL (own := RL) rfl (Nat.le_of_ble_eq_true rfl) hst ?_
  intro p e s m args below meth c C htab
  change J p l e rmL_close s m args below meth c 3 G b _ 0 [(0, .ref k), (1, .int a0)] [] S 0 0
  refine r_aload_n (i := 0) (n := 1) C dL_close_0 rfl rfl rfl ?_
  refine r_iload_n (i := 1) (n := 2) C dL_close_1 rfl rfl rfl ?_
  refine kL_17 (n := 5) C (hM) hk (by decide) (by decide) (Nat.le_of_ble_eq_true rfl) dL_close_2 rfl (fun _ _ h9 => h9.elim) (fun v T hp => ?_)
  refine r_goto (t := 11) C dL_close_5 (by decide) ?_
  refine r_iconst (v := 0) (n := 12) C dL_close_11 rfl rfl ?_
  refine t_i C rfl dL_close_12 (by decide) ?_
  exact ⟨rfl, v, hp⟩
set_option maxRecDepth 100000 in
set_option maxHeartbeats 1000000 in
theorem l_close_t1 {l : Launch} {G : GG} {b : Nat} (hst : l.stackTraces = false) (S : Sw) (k : Nat) (hk : sK S k = 7) (a0 : Int32) (hM : Cth l G b yX7_close cX7_close 2 none rmX7_close mV [.ref k, .int a0] S (fun _ _ => False) (fun k => k = 1)) : CtW l G b yL_close cL_close 3 (some .int) [(0, 5, 8, 13)] rmL_close mI [.ref k, .int a0] S (fun r S' => S' = S ∧ r = 1) := by
  refine CtW.of pnL (own := RL) rfl (Nat.le_of_ble_eq_true rfl) hst ?_
  intro p e s m args below meth c C htab
  change J p l e rmL_close s m args below meth c 3 G b _ 0 [(0, .ref k), (1, .int a0)] [] S 0 0
  have hJ : ∀ q : Nat, J p l e rmL_close s m args below meth c 3 G b (vx_MQ below (Qp G b mI (fun r S' => S' = S ∧ r = 1)) (XCp G b S (fun _ => False)) args s rmL_close.cells rmL_close.slots (Ab b)) 8 [(0, .ref k), (1, .int a0)] [.ref q] S (0 + 1) (0 + 6) := by
    intro q
    refine r_astore_n (i := 2) (n := 9) C dL_close_8 rfl (by decide) rfl rfl ?_
    refine r_iconst (v := 1) (n := 10) C dL_close_9 rfl rfl ?_
    refine t_i C rfl dL_close_10 (by decide) ?_
    exact ⟨rfl, rfl⟩
  refine r_aload_n (i := 0) (n := 1) C dL_close_0 rfl rfl rfl ?_
  refine r_iload_n (i := 1) (n := 2) C dL_close_1 rfl rfl rfl ?_
  refine kL_17 (n := 5) C (hM) hk (by decide) (by decide) (Nat.le_of_ble_eq_true rfl) dL_close_2 rfl (fun k9 _ hx9 => by subst hx9; exact JX.c1 C htab (by decide) hJ) (fun v T hp => ?_)
  exact hp.elim
set_option maxRecDepth 100000 in
set_option maxHeartbeats 1000000 in
theorem l_gain_y {l : Launch} {G : GG} {b : Nat} (hst : l.stackTraces = false) (S : Sw) (k : Nat) (hk : sK S k = 7) (a0 : Int32) (a1 : UInt64) (P : Unit → Sw → Prop) (hM : Cth l G b yX7_gain cX7_gain 5 none rmX7_gain mV [.ref k, .int a0, .double a1] S P (fun _ => False)) : CtW l G b yL_gain cL_gain 5 (some .int) [(0, 6, 9, 13)] rmL_gain mI [.ref k, .int a0, .double a1] S (fun r S' => r = 0 ∧ ∃ v, P v S') := by
  refine CtW.of pnL (own := RL) rfl (Nat.le_of_ble_eq_true rfl) hst ?_
  intro p e s m args below meth c C htab
  change J p l e rmL_gain s m args below meth c 5 G b _ 0 [(0, .ref k), (1, .int a0), (2, .double a1)] [] S 0 0
  refine r_aload_n (i := 0) (n := 1) C dL_gain_0 rfl rfl rfl ?_
  refine r_iload_n (i := 1) (n := 2) C dL_gain_1 rfl rfl rfl ?_
  refine r_dload_n (i := 2) (n := 3) C dL_gain_2 rfl rfl rfl ?_
  refine kL_21 (n := 6) C (hM) hk (by decide) (by decide) (Nat.le_of_ble_eq_true rfl) dL_gain_3 rfl (fun _ _ h9 => h9.elim) (fun v T hp => ?_)
  refine r_goto (t := 13) C dL_gain_6 (by decide) ?_
  refine r_iconst (v := 0) (n := 14) C dL_gain_13 rfl rfl ?_
  refine t_i C rfl dL_gain_14 (by decide) ?_
  exact ⟨rfl, v, hp⟩
set_option maxRecDepth 100000 in
set_option maxHeartbeats 1000000 in
theorem l_gain_t1 {l : Launch} {G : GG} {b : Nat} (hst : l.stackTraces = false) (S : Sw) (k : Nat) (hk : sK S k = 7) (a0 : Int32) (a1 : UInt64) (hM : Cth l G b yX7_gain cX7_gain 5 none rmX7_gain mV [.ref k, .int a0, .double a1] S (fun _ _ => False) (fun k => k = 1)) : CtW l G b yL_gain cL_gain 5 (some .int) [(0, 6, 9, 13)] rmL_gain mI [.ref k, .int a0, .double a1] S (fun r S' => S' = S ∧ r = 1) := by
  refine CtW.of pnL (own := RL) rfl (Nat.le_of_ble_eq_true rfl) hst ?_
  intro p e s m args below meth c C htab
  change J p l e rmL_gain s m args below meth c 5 G b _ 0 [(0, .ref k), (1, .int a0), (2, .double a1)] [] S 0 0
  have hJ : ∀ q : Nat, J p l e rmL_gain s m args below meth c 5 G b (vx_MQ below (Qp G b mI (fun r S' => S' = S ∧ r = 1)) (XCp G b S (fun _ => False)) args s rmL_gain.cells rmL_gain.slots (Ab b)) 9 [(0, .ref k), (1, .int a0), (2, .double a1)] [.ref q] S (0 + 3) (0 + 18) := by
    intro q
    refine r_astore (n := 11) C dL_gain_9 (by decide) rfl rfl ?_
    refine r_iconst (v := 1) (n := 12) C dL_gain_11 rfl rfl ?_
    refine t_i C rfl dL_gain_12 (by decide) ?_
    exact ⟨rfl, rfl⟩
  refine r_aload_n (i := 0) (n := 1) C dL_gain_0 rfl rfl rfl ?_
  refine r_iload_n (i := 1) (n := 2) C dL_gain_1 rfl rfl rfl ?_
  refine r_dload_n (i := 2) (n := 3) C dL_gain_2 rfl rfl rfl ?_
  refine kL_21 (n := 6) C (hM) hk (by decide) (by decide) (Nat.le_of_ble_eq_true rfl) dL_gain_3 rfl (fun k9 _ hx9 => by subst hx9; exact JX.c1 C htab (by decide) hJ) (fun v T hp => ?_)
  exact hp.elim
set_option maxRecDepth 100000 in
set_option maxHeartbeats 1000000 in
theorem l_start_y {l : Launch} {G : GG} {b : Nat} (hst : l.stackTraces = false) (S : Sw) (k : Nat) (hk : sK S k = 7) (a0 : Int32) (P : Unit → Sw → Prop) (hM : Cth l G b yX7_start cX7_start 3 none rmX7_start mV [.ref k, .int a0] S P (fun _ => False)) : CtW l G b yL_start cL_start 3 (some .int) [(0, 5, 8, 13), (0, 5, 11, 15)] rmL_start mI [.ref k, .int a0] S (fun r S' => r = 0 ∧ ∃ v, P v S') := by
  refine CtW.of pnL (own := RL) rfl (Nat.le_of_ble_eq_true rfl) hst ?_
  intro p e s m args below meth c C htab
  change J p l e rmL_start s m args below meth c 3 G b _ 0 [(0, .ref k), (1, .int a0)] [] S 0 0
  refine r_aload_n (i := 0) (n := 1) C dL_start_0 rfl rfl rfl ?_
  refine r_iload_n (i := 1) (n := 2) C dL_start_1 rfl rfl rfl ?_
  refine kL_25 (n := 5) C (hM) hk (by decide) (by decide) (Nat.le_of_ble_eq_true rfl) dL_start_2 rfl (fun _ _ h9 => h9.elim) (fun v T hp => ?_)
  refine r_goto (t := 14) C dL_start_5 (by decide) ?_
  refine r_iconst (v := 0) (n := 15) C dL_start_14 rfl rfl ?_
  refine t_i C rfl dL_start_15 (by decide) ?_
  exact ⟨rfl, v, hp⟩
set_option maxRecDepth 100000 in
set_option maxHeartbeats 1000000 in
theorem l_start_t1 {l : Launch} {G : GG} {b : Nat} (hst : l.stackTraces = false) (S : Sw) (k : Nat) (hk : sK S k = 7) (a0 : Int32) (hM : Cth l G b yX7_start cX7_start 3 none rmX7_start mV [.ref k, .int a0] S (fun _ _ => False) (fun k => k = 1)) : CtW l G b yL_start cL_start 3 (some .int) [(0, 5, 8, 13), (0, 5, 11, 15)] rmL_start mI [.ref k, .int a0] S (fun r S' => S' = S ∧ r = 1) := by
  refine CtW.of pnL (own := RL) rfl (Nat.le_of_ble_eq_true rfl) hst ?_
  intro p e s m args below meth c C htab
  change J p l e rmL_start s m args below meth c 3 G b _ 0 [(0, .ref k), (1, .int a0)] [] S 0 0
  have hJ : ∀ q : Nat, J p l e rmL_start s m args below meth c 3 G b (vx_MQ below (Qp G b mI (fun r S' => S' = S ∧ r = 1)) (XCp G b S (fun _ => False)) args s rmL_start.cells rmL_start.slots (Ab b)) 8 [(0, .ref k), (1, .int a0)] [.ref q] S (0 + 2) (0 + 12) := by
    intro q
    refine r_astore_n (i := 2) (n := 9) C dL_start_8 rfl (by decide) rfl rfl ?_
    refine r_iconst (v := 1) (n := 10) C dL_start_9 rfl rfl ?_
    refine t_i C rfl dL_start_10 (by decide) ?_
    exact ⟨rfl, rfl⟩
  refine r_aload_n (i := 0) (n := 1) C dL_start_0 rfl rfl rfl ?_
  refine r_iload_n (i := 1) (n := 2) C dL_start_1 rfl rfl rfl ?_
  refine kL_25 (n := 5) C (hM) hk (by decide) (by decide) (Nat.le_of_ble_eq_true rfl) dL_start_2 rfl (fun k9 _ hx9 => by subst hx9; exact JX.c1 C htab (by decide) hJ) (fun v T hp => ?_)
  exact hp.elim
set_option maxRecDepth 100000 in
set_option maxHeartbeats 1000000 in
theorem l_start_t2 {l : Launch} {G : GG} {b : Nat} (hst : l.stackTraces = false) (S : Sw) (k : Nat) (hk : sK S k = 7) (a0 : Int32) (hM : Cth l G b yX7_start cX7_start 3 none rmX7_start mV [.ref k, .int a0] S (fun _ _ => False) (fun k => k = 2)) : CtW l G b yL_start cL_start 3 (some .int) [(0, 5, 8, 13), (0, 5, 11, 15)] rmL_start mI [.ref k, .int a0] S (fun r S' => S' = S ∧ r = 2) := by
  refine CtW.of pnL (own := RL) rfl (Nat.le_of_ble_eq_true rfl) hst ?_
  intro p e s m args below meth c C htab
  change J p l e rmL_start s m args below meth c 3 G b _ 0 [(0, .ref k), (1, .int a0)] [] S 0 0
  have hJ : ∀ q : Nat, J p l e rmL_start s m args below meth c 3 G b (vx_MQ below (Qp G b mI (fun r S' => S' = S ∧ r = 2)) (XCp G b S (fun _ => False)) args s rmL_start.cells rmL_start.slots (Ab b)) 11 [(0, .ref k), (1, .int a0)] [.ref q] S (0 + 2) (0 + 12) := by
    intro q
    refine r_astore_n (i := 2) (n := 12) C dL_start_11 rfl (by decide) rfl rfl ?_
    refine r_iconst (v := 2) (n := 13) C dL_start_12 rfl rfl ?_
    refine t_i C rfl dL_start_13 (by decide) ?_
    exact ⟨rfl, rfl⟩
  refine r_aload_n (i := 0) (n := 1) C dL_start_0 rfl rfl rfl ?_
  refine r_iload_n (i := 1) (n := 2) C dL_start_1 rfl rfl rfl ?_
  refine kL_25 (n := 5) C (hM) hk (by decide) (by decide) (Nat.le_of_ble_eq_true rfl) dL_start_2 rfl (fun k9 _ hx9 => by subst hx9; exact JX.c2 C htab (by decide) hJ) (fun v T hp => ?_)
  exact hp.elim
set_option maxRecDepth 100000 in
set_option maxHeartbeats 1000000 in
theorem l_pause_y {l : Launch} {G : GG} {b : Nat} (hst : l.stackTraces = false) (S : Sw) (k : Nat) (hk : sK S k = 7) (a0 : Int32) (P : Unit → Sw → Prop) (hM : Cth l G b yX7_pause cX7_pause 3 none rmX7_pause mV [.ref k, .int a0] S P (fun _ => False)) : CtW l G b yL_pause cL_pause 3 (some .int) [(0, 5, 8, 13), (0, 5, 11, 15)] rmL_pause mI [.ref k, .int a0] S (fun r S' => r = 0 ∧ ∃ v, P v S') := by
  refine CtW.of pnL (own := RL) rfl (Nat.le_of_ble_eq_true rfl) hst ?_
  intro p e s m args below meth c C htab
  change J p l e rmL_pause s m args below meth c 3 G b _ 0 [(0, .ref k), (1, .int a0)] [] S 0 0
  refine r_aload_n (i := 0) (n := 1) C dL_pause_0 rfl rfl rfl ?_
  refine r_iload_n (i := 1) (n := 2) C dL_pause_1 rfl rfl rfl ?_
  refine kL_28 (n := 5) C (hM) hk (by decide) (by decide) (Nat.le_of_ble_eq_true rfl) dL_pause_2 rfl (fun _ _ h9 => h9.elim) (fun v T hp => ?_)
  refine r_goto (t := 14) C dL_pause_5 (by decide) ?_
  refine r_iconst (v := 0) (n := 15) C dL_pause_14 rfl rfl ?_
  refine t_i C rfl dL_pause_15 (by decide) ?_
  exact ⟨rfl, v, hp⟩
set_option maxRecDepth 100000 in
set_option maxHeartbeats 1000000 in
theorem l_pause_t1 {l : Launch} {G : GG} {b : Nat} (hst : l.stackTraces = false) (S : Sw) (k : Nat) (hk : sK S k = 7) (a0 : Int32) (hM : Cth l G b yX7_pause cX7_pause 3 none rmX7_pause mV [.ref k, .int a0] S (fun _ _ => False) (fun k => k = 1)) : CtW l G b yL_pause cL_pause 3 (some .int) [(0, 5, 8, 13), (0, 5, 11, 15)] rmL_pause mI [.ref k, .int a0] S (fun r S' => S' = S ∧ r = 1) := by
  refine CtW.of pnL (own := RL) rfl (Nat.le_of_ble_eq_true rfl) hst ?_
  intro p e s m args below meth c C htab
  change J p l e rmL_pause s m args below meth c 3 G b _ 0 [(0, .ref k), (1, .int a0)] [] S 0 0
  have hJ : ∀ q : Nat, J p l e rmL_pause s m args below meth c 3 G b (vx_MQ below (Qp G b mI (fun r S' => S' = S ∧ r = 1)) (XCp G b S (fun _ => False)) args s rmL_pause.cells rmL_pause.slots (Ab b)) 8 [(0, .ref k), (1, .int a0)] [.ref q] S (0 + 2) (0 + 12) := by
    intro q
    refine r_astore_n (i := 2) (n := 9) C dL_pause_8 rfl (by decide) rfl rfl ?_
    refine r_iconst (v := 1) (n := 10) C dL_pause_9 rfl rfl ?_
    refine t_i C rfl dL_pause_10 (by decide) ?_
    exact ⟨rfl, rfl⟩
  refine r_aload_n (i := 0) (n := 1) C dL_pause_0 rfl rfl rfl ?_
  refine r_iload_n (i := 1) (n := 2) C dL_pause_1 rfl rfl rfl ?_
  refine kL_28 (n := 5) C (hM) hk (by decide) (by decide) (Nat.le_of_ble_eq_true rfl) dL_pause_2 rfl (fun k9 _ hx9 => by subst hx9; exact JX.c1 C htab (by decide) hJ) (fun v T hp => ?_)
  exact hp.elim
set_option maxRecDepth 100000 in
set_option maxHeartbeats 1000000 in
theorem l_pause_t2 {l : Launch} {G : GG} {b : Nat} (hst : l.stackTraces = false) (S : Sw) (k : Nat) (hk : sK S k = 7) (a0 : Int32) (hM : Cth l G b yX7_pause cX7_pause 3 none rmX7_pause mV [.ref k, .int a0] S (fun _ _ => False) (fun k => k = 2)) : CtW l G b yL_pause cL_pause 3 (some .int) [(0, 5, 8, 13), (0, 5, 11, 15)] rmL_pause mI [.ref k, .int a0] S (fun r S' => S' = S ∧ r = 2) := by
  refine CtW.of pnL (own := RL) rfl (Nat.le_of_ble_eq_true rfl) hst ?_
  intro p e s m args below meth c C htab
  change J p l e rmL_pause s m args below meth c 3 G b _ 0 [(0, .ref k), (1, .int a0)] [] S 0 0
  have hJ : ∀ q : Nat, J p l e rmL_pause s m args below meth c 3 G b (vx_MQ below (Qp G b mI (fun r S' => S' = S ∧ r = 2)) (XCp G b S (fun _ => False)) args s rmL_pause.cells rmL_pause.slots (Ab b)) 11 [(0, .ref k), (1, .int a0)] [.ref q] S (0 + 2) (0 + 12) := by
    intro q
    refine r_astore_n (i := 2) (n := 12) C dL_pause_11 rfl (by decide) rfl rfl ?_
    refine r_iconst (v := 2) (n := 13) C dL_pause_12 rfl rfl ?_
    refine t_i C rfl dL_pause_13 (by decide) ?_
    exact ⟨rfl, rfl⟩
  refine r_aload_n (i := 0) (n := 1) C dL_pause_0 rfl rfl rfl ?_
  refine r_iload_n (i := 1) (n := 2) C dL_pause_1 rfl rfl rfl ?_
  refine kL_28 (n := 5) C (hM) hk (by decide) (by decide) (Nat.le_of_ble_eq_true rfl) dL_pause_2 rfl (fun k9 _ hx9 => by subst hx9; exact JX.c2 C htab (by decide) hJ) (fun v T hp => ?_)
  exact hp.elim
set_option maxRecDepth 100000 in
set_option maxHeartbeats 1000000 in
theorem l_drain_y {l : Launch} {G : GG} {b : Nat} (hst : l.stackTraces = false) (S : Sw) (k : Nat) (hk : sK S k = 7) (a0 : Int32) (P : Unit → Sw → Prop) (hM : Cth l G b yX7_drain cX7_drain 3 none rmX7_drain mV [.ref k, .int a0] S P (fun _ => False)) : CtW l G b yL_drain cL_drain 3 (some .int) [(0, 5, 8, 13), (0, 5, 11, 15)] rmL_drain mI [.ref k, .int a0] S (fun r S' => r = 0 ∧ ∃ v, P v S') := by
  refine CtW.of pnL (own := RL) rfl (Nat.le_of_ble_eq_true rfl) hst ?_
  intro p e s m args below meth c C htab
  change J p l e rmL_drain s m args below meth c 3 G b _ 0 [(0, .ref k), (1, .int a0)] [] S 0 0
  refine r_aload_n (i := 0) (n := 1) C dL_drain_0 rfl rfl rfl ?_
  refine r_iload_n (i := 1) (n := 2) C dL_drain_1 rfl rfl rfl ?_
  refine kL_31 (n := 5) C (hM) hk (by decide) (by decide) (Nat.le_of_ble_eq_true rfl) dL_drain_2 rfl (fun _ _ h9 => h9.elim) (fun v T hp => ?_)
  refine r_goto (t := 14) C dL_drain_5 (by decide) ?_
  refine r_iconst (v := 0) (n := 15) C dL_drain_14 rfl rfl ?_
  refine t_i C rfl dL_drain_15 (by decide) ?_
  exact ⟨rfl, v, hp⟩
set_option maxRecDepth 100000 in
set_option maxHeartbeats 1000000 in
theorem l_drain_t1 {l : Launch} {G : GG} {b : Nat} (hst : l.stackTraces = false) (S : Sw) (k : Nat) (hk : sK S k = 7) (a0 : Int32) (hM : Cth l G b yX7_drain cX7_drain 3 none rmX7_drain mV [.ref k, .int a0] S (fun _ _ => False) (fun k => k = 1)) : CtW l G b yL_drain cL_drain 3 (some .int) [(0, 5, 8, 13), (0, 5, 11, 15)] rmL_drain mI [.ref k, .int a0] S (fun r S' => S' = S ∧ r = 1) := by
  refine CtW.of pnL (own := RL) rfl (Nat.le_of_ble_eq_true rfl) hst ?_
  intro p e s m args below meth c C htab
  change J p l e rmL_drain s m args below meth c 3 G b _ 0 [(0, .ref k), (1, .int a0)] [] S 0 0
  have hJ : ∀ q : Nat, J p l e rmL_drain s m args below meth c 3 G b (vx_MQ below (Qp G b mI (fun r S' => S' = S ∧ r = 1)) (XCp G b S (fun _ => False)) args s rmL_drain.cells rmL_drain.slots (Ab b)) 8 [(0, .ref k), (1, .int a0)] [.ref q] S (0 + 3) (0 + 18) := by
    intro q
    refine r_astore_n (i := 2) (n := 9) C dL_drain_8 rfl (by decide) rfl rfl ?_
    refine r_iconst (v := 1) (n := 10) C dL_drain_9 rfl rfl ?_
    refine t_i C rfl dL_drain_10 (by decide) ?_
    exact ⟨rfl, rfl⟩
  refine r_aload_n (i := 0) (n := 1) C dL_drain_0 rfl rfl rfl ?_
  refine r_iload_n (i := 1) (n := 2) C dL_drain_1 rfl rfl rfl ?_
  refine kL_31 (n := 5) C (hM) hk (by decide) (by decide) (Nat.le_of_ble_eq_true rfl) dL_drain_2 rfl (fun k9 _ hx9 => by subst hx9; exact JX.c1 C htab (by decide) hJ) (fun v T hp => ?_)
  exact hp.elim
set_option maxRecDepth 100000 in
set_option maxHeartbeats 1000000 in
theorem l_drain_t2 {l : Launch} {G : GG} {b : Nat} (hst : l.stackTraces = false) (S : Sw) (k : Nat) (hk : sK S k = 7) (a0 : Int32) (hM : Cth l G b yX7_drain cX7_drain 3 none rmX7_drain mV [.ref k, .int a0] S (fun _ _ => False) (fun k => k = 2)) : CtW l G b yL_drain cL_drain 3 (some .int) [(0, 5, 8, 13), (0, 5, 11, 15)] rmL_drain mI [.ref k, .int a0] S (fun r S' => S' = S ∧ r = 2) := by
  refine CtW.of pnL (own := RL) rfl (Nat.le_of_ble_eq_true rfl) hst ?_
  intro p e s m args below meth c C htab
  change J p l e rmL_drain s m args below meth c 3 G b _ 0 [(0, .ref k), (1, .int a0)] [] S 0 0
  have hJ : ∀ q : Nat, J p l e rmL_drain s m args below meth c 3 G b (vx_MQ below (Qp G b mI (fun r S' => S' = S ∧ r = 2)) (XCp G b S (fun _ => False)) args s rmL_drain.cells rmL_drain.slots (Ab b)) 11 [(0, .ref k), (1, .int a0)] [.ref q] S (0 + 3) (0 + 18) := by
    intro q
    refine r_astore_n (i := 2) (n := 12) C dL_drain_11 rfl (by decide) rfl rfl ?_
    refine r_iconst (v := 2) (n := 13) C dL_drain_12 rfl rfl ?_
    refine t_i C rfl dL_drain_13 (by decide) ?_
    exact ⟨rfl, rfl⟩
  refine r_aload_n (i := 0) (n := 1) C dL_drain_0 rfl rfl rfl ?_
  refine r_iload_n (i := 1) (n := 2) C dL_drain_1 rfl rfl rfl ?_
  refine kL_31 (n := 5) C (hM) hk (by decide) (by decide) (Nat.le_of_ble_eq_true rfl) dL_drain_2 rfl (fun k9 _ hx9 => by subst hx9; exact JX.c2 C htab (by decide) hJ) (fun v T hp => ?_)
  exact hp.elim
set_option maxRecDepth 100000 in
set_option maxHeartbeats 1000000 in
theorem l_state_y {l : Launch} {G : GG} {b : Nat} (hst : l.stackTraces = false) (S : Sw) (k : Nat) (hk : sK S k = 7) (a0 : Int32) (out : Nat) (P : Int32 → Sw → Prop) (hM : Cth l G b yX7_state cX7_state 2 (some .int) rmX7_state mI [.ref k, .int a0] S P (fun _ => False)) (hP : ∀ v T, P v T → isL T out 1) : CtW l G b yL_state cL_state 4 (some .int) [(0, 9, 12, 13)] rmL_state mI [.ref k, .int a0, .ref out] S (fun r S' => r = 0 ∧ ∃ v T, P v T ∧ S' = wJ T out 0 v.toInt64) := by
  refine CtW.of pnL (own := RL) rfl (Nat.le_of_ble_eq_true rfl) hst ?_
  intro p e s m args below meth c C htab
  change J p l e rmL_state s m args below meth c 4 G b _ 0 [(0, .ref k), (1, .int a0), (2, .ref out)] [] S 0 0
  refine r_aload_n (i := 2) (n := 1) C dL_state_0 rfl rfl rfl ?_
  refine r_iconst (v := 0) (n := 2) C dL_state_1 rfl rfl ?_
  refine r_aload_n (i := 0) (n := 3) C dL_state_2 rfl rfl rfl ?_
  refine r_iload_n (i := 1) (n := 4) C dL_state_3 rfl rfl rfl ?_
  refine kL_34 (n := 7) C (hM) hk (by decide) (by decide) (Nat.le_of_ble_eq_true rfl) dL_state_4 rfl (fun _ _ h9 => h9.elim) (fun v T hp => ?_)
  refine r_i2l (n := 8) C dL_state_7 rfl ?_
  refine q_last (n := 9) C 0 (hP v T hp) rfl (by decide) dL_state_8 rfl ?_
  refine r_goto (t := 15) C dL_state_9 (by decide) ?_
  refine r_iconst (v := 0) (n := 16) C dL_state_15 rfl rfl ?_
  refine t_i C rfl dL_state_16 (by decide) ?_
  exact ⟨rfl, v, T, hp, rfl⟩
set_option maxRecDepth 100000 in
set_option maxHeartbeats 1000000 in
theorem l_state_t1 {l : Launch} {G : GG} {b : Nat} (hst : l.stackTraces = false) (S : Sw) (k : Nat) (hk : sK S k = 7) (a0 : Int32) (out : Nat) (hM : Cth l G b yX7_state cX7_state 2 (some .int) rmX7_state mI [.ref k, .int a0] S (fun _ _ => False) (fun k => k = 1)) : CtW l G b yL_state cL_state 4 (some .int) [(0, 9, 12, 13)] rmL_state mI [.ref k, .int a0, .ref out] S (fun r S' => S' = S ∧ r = 1) := by
  refine CtW.of pnL (own := RL) rfl (Nat.le_of_ble_eq_true rfl) hst ?_
  intro p e s m args below meth c C htab
  change J p l e rmL_state s m args below meth c 4 G b _ 0 [(0, .ref k), (1, .int a0), (2, .ref out)] [] S 0 0
  have hJ : ∀ q : Nat, J p l e rmL_state s m args below meth c 4 G b (vx_MQ below (Qp G b mI (fun r S' => S' = S ∧ r = 1)) (XCp G b S (fun _ => False)) args s rmL_state.cells rmL_state.slots (Ab b)) 12 [(0, .ref k), (1, .int a0), (2, .ref out)] [.ref q] S (0 + 1) (0 + 6) := by
    intro q
    refine r_astore_n (i := 3) (n := 13) C dL_state_12 rfl (by decide) rfl rfl ?_
    refine r_iconst (v := 1) (n := 14) C dL_state_13 rfl rfl ?_
    refine t_i C rfl dL_state_14 (by decide) ?_
    exact ⟨rfl, rfl⟩
  refine r_aload_n (i := 2) (n := 1) C dL_state_0 rfl rfl rfl ?_
  refine r_iconst (v := 0) (n := 2) C dL_state_1 rfl rfl ?_
  refine r_aload_n (i := 0) (n := 3) C dL_state_2 rfl rfl rfl ?_
  refine r_iload_n (i := 1) (n := 4) C dL_state_3 rfl rfl rfl ?_
  refine kL_34 (n := 7) C (hM) hk (by decide) (by decide) (Nat.le_of_ble_eq_true rfl) dL_state_4 rfl (fun k9 _ hx9 => by subst hx9; exact JX.c1 C htab (by decide) hJ) (fun v T hp => ?_)
  exact hp.elim
set_option maxRecDepth 100000 in
set_option maxHeartbeats 1000000 in
theorem l_write_y {l : Launch} {G : GG} {b : Nat} (hst : l.stackTraces = false) (S : Sw) (k : Nat) (hk : sK S k = 7) (a0 : Int32) (a1 : Int32) (out : Nat) (P : Int32 → Sw → Prop) (hM : Cth l G b yX7_write cX7_write 4 (some .boolean) rmX7_write mI [.ref k, .int a0, .int a1] S P (fun _ => False)) (hP : ∀ v T, P v T → isL T out 1) : CtW l G b yL_write cL_write 5 (some .int) [(0, 17, 20, 13), (0, 17, 24, 15)] rmL_write mI [.ref k, .int a0, .int a1, .ref out] S (fun r S' => r = 0 ∧ ∃ v T, P v T ∧ S' = wJ T out 0 (if v = 0 then 0 else 1)) := by
  refine CtW.of pnL (own := RL) rfl (Nat.le_of_ble_eq_true rfl) hst ?_
  intro p e s m args below meth c C htab
  change J p l e rmL_write s m args below meth c 5 G b _ 0 [(0, .ref k), (1, .int a0), (2, .int a1), (3, .ref out)] [] S 0 0
  refine r_aload_n (i := 3) (n := 1) C dL_write_0 rfl rfl rfl ?_
  refine r_iconst (v := 0) (n := 2) C dL_write_1 rfl rfl ?_
  refine r_aload_n (i := 0) (n := 3) C dL_write_2 rfl rfl rfl ?_
  refine r_iload_n (i := 1) (n := 4) C dL_write_3 rfl rfl rfl ?_
  refine r_iload_n (i := 2) (n := 5) C dL_write_4 rfl rfl rfl ?_
  refine kL_38 (n := 8) C (hM) hk (by decide) (by decide) (Nat.le_of_ble_eq_true rfl) dL_write_5 rfl (fun _ _ h9 => h9.elim) (fun v T hp => ?_)
  refine r_if_eq (n := 11) (t := 15) C dL_write_8 (by decide) rfl (fun h8 => ?_) (fun h8 => ?_)
  · refine r_lconst (v := 0) (n := 16) C dL_write_15 rfl rfl ?_
    refine q_last (n := 17) C 0 (hP v T hp) rfl (by decide) dL_write_16 rfl ?_
    refine r_goto (t := 28) C dL_write_17 (by decide) ?_
    refine r_iconst (v := 0) (n := 29) C dL_write_28 rfl rfl ?_
    refine t_i C rfl dL_write_29 (by decide) ?_
    refine ⟨rfl, v, T, hp, ?_⟩
    first | rw [if_pos h8] | rw [if_neg h8]
  · refine r_lconst (v := 1) (n := 12) C dL_write_11 rfl rfl ?_
    refine r_goto (t := 16) C dL_write_12 (by decide) ?_
    refine q_last (n := 17) C 0 (hP v T hp) rfl (by decide) dL_write_16 rfl ?_
    refine r_goto (t := 28) C dL_write_17 (by decide) ?_
    refine r_iconst (v := 0) (n := 29) C dL_write_28 rfl rfl ?_
    refine t_i C rfl dL_write_29 (by decide) ?_
    refine ⟨rfl, v, T, hp, ?_⟩
    first | rw [if_pos h8] | rw [if_neg h8]
set_option maxRecDepth 100000 in
set_option maxHeartbeats 1000000 in
theorem l_write_t1 {l : Launch} {G : GG} {b : Nat} (hst : l.stackTraces = false) (S : Sw) (k : Nat) (hk : sK S k = 7) (a0 : Int32) (a1 : Int32) (out : Nat) (hM : Cth l G b yX7_write cX7_write 4 (some .boolean) rmX7_write mI [.ref k, .int a0, .int a1] S (fun _ _ => False) (fun k => k = 1)) : CtW l G b yL_write cL_write 5 (some .int) [(0, 17, 20, 13), (0, 17, 24, 15)] rmL_write mI [.ref k, .int a0, .int a1, .ref out] S (fun r S' => S' = S ∧ r = 1) := by
  refine CtW.of pnL (own := RL) rfl (Nat.le_of_ble_eq_true rfl) hst ?_
  intro p e s m args below meth c C htab
  change J p l e rmL_write s m args below meth c 5 G b _ 0 [(0, .ref k), (1, .int a0), (2, .int a1), (3, .ref out)] [] S 0 0
  have hJ : ∀ q : Nat, J p l e rmL_write s m args below meth c 5 G b (vx_MQ below (Qp G b mI (fun r S' => S' = S ∧ r = 1)) (XCp G b S (fun _ => False)) args s rmL_write.cells rmL_write.slots (Ab b)) 20 [(0, .ref k), (1, .int a0), (2, .int a1), (3, .ref out)] [.ref q] S (0 + 3) (0 + 18) := by
    intro q
    refine r_astore (n := 22) C dL_write_20 (by decide) rfl rfl ?_
    refine r_iconst (v := 1) (n := 23) C dL_write_22 rfl rfl ?_
    refine t_i C rfl dL_write_23 (by decide) ?_
    exact ⟨rfl, rfl⟩
  refine r_aload_n (i := 3) (n := 1) C dL_write_0 rfl rfl rfl ?_
  refine r_iconst (v := 0) (n := 2) C dL_write_1 rfl rfl ?_
  refine r_aload_n (i := 0) (n := 3) C dL_write_2 rfl rfl rfl ?_
  refine r_iload_n (i := 1) (n := 4) C dL_write_3 rfl rfl rfl ?_
  refine r_iload_n (i := 2) (n := 5) C dL_write_4 rfl rfl rfl ?_
  refine kL_38 (n := 8) C (hM) hk (by decide) (by decide) (Nat.le_of_ble_eq_true rfl) dL_write_5 rfl (fun k9 _ hx9 => by subst hx9; exact JX.c1 C htab (by decide) hJ) (fun v T hp => ?_)
  exact hp.elim
set_option maxRecDepth 100000 in
set_option maxHeartbeats 1000000 in
theorem l_write_t2 {l : Launch} {G : GG} {b : Nat} (hst : l.stackTraces = false) (S : Sw) (k : Nat) (hk : sK S k = 7) (a0 : Int32) (a1 : Int32) (out : Nat) (hM : Cth l G b yX7_write cX7_write 4 (some .boolean) rmX7_write mI [.ref k, .int a0, .int a1] S (fun _ _ => False) (fun k => k = 2)) : CtW l G b yL_write cL_write 5 (some .int) [(0, 17, 20, 13), (0, 17, 24, 15)] rmL_write mI [.ref k, .int a0, .int a1, .ref out] S (fun r S' => S' = S ∧ r = 2) := by
  refine CtW.of pnL (own := RL) rfl (Nat.le_of_ble_eq_true rfl) hst ?_
  intro p e s m args below meth c C htab
  change J p l e rmL_write s m args below meth c 5 G b _ 0 [(0, .ref k), (1, .int a0), (2, .int a1), (3, .ref out)] [] S 0 0
  have hJ : ∀ q : Nat, J p l e rmL_write s m args below meth c 5 G b (vx_MQ below (Qp G b mI (fun r S' => S' = S ∧ r = 2)) (XCp G b S (fun _ => False)) args s rmL_write.cells rmL_write.slots (Ab b)) 24 [(0, .ref k), (1, .int a0), (2, .int a1), (3, .ref out)] [.ref q] S (0 + 3) (0 + 18) := by
    intro q
    refine r_astore (n := 26) C dL_write_24 (by decide) rfl rfl ?_
    refine r_iconst (v := 2) (n := 27) C dL_write_26 rfl rfl ?_
    refine t_i C rfl dL_write_27 (by decide) ?_
    exact ⟨rfl, rfl⟩
  refine r_aload_n (i := 3) (n := 1) C dL_write_0 rfl rfl rfl ?_
  refine r_iconst (v := 0) (n := 2) C dL_write_1 rfl rfl ?_
  refine r_aload_n (i := 0) (n := 3) C dL_write_2 rfl rfl rfl ?_
  refine r_iload_n (i := 1) (n := 4) C dL_write_3 rfl rfl rfl ?_
  refine r_iload_n (i := 2) (n := 5) C dL_write_4 rfl rfl rfl ?_
  refine kL_38 (n := 8) C (hM) hk (by decide) (by decide) (Nat.le_of_ble_eq_true rfl) dL_write_5 rfl (fun k9 _ hx9 => by subst hx9; exact JX.c2 C htab (by decide) hJ) (fun v T hp => ?_)
  exact hp.elim
set_option maxRecDepth 100000 in
set_option maxHeartbeats 1000000 in
theorem l_read_y {l : Launch} {G : GG} {b : Nat} (hst : l.stackTraces = false) (S : Sw) (k : Nat) (hk : sK S k = 7) (a0 : Int32) (out : Nat) (P : Int32 → Sw → Prop) (hM : Cth l G b yX7_read cX7_read 3 (some .int) rmX7_read mI [.ref k, .int a0] S P (fun _ => False)) (hP : ∀ v T, P v T → isL T out 1) : CtW l G b yL_read cL_read 4 (some .int) [(0, 9, 12, 13), (0, 9, 15, 15)] rmL_read mI [.ref k, .int a0, .ref out] S (fun r S' => r = 0 ∧ ∃ v T, P v T ∧ S' = wJ T out 0 v.toInt64) := by
  refine CtW.of pnL (own := RL) rfl (Nat.le_of_ble_eq_true rfl) hst ?_
  intro p e s m args below meth c C htab
  change J p l e rmL_read s m args below meth c 4 G b _ 0 [(0, .ref k), (1, .int a0), (2, .ref out)] [] S 0 0
  refine r_aload_n (i := 2) (n := 1) C dL_read_0 rfl rfl rfl ?_
  refine r_iconst (v := 0) (n := 2) C dL_read_1 rfl rfl ?_
  refine r_aload_n (i := 0) (n := 3) C dL_read_2 rfl rfl rfl ?_
  refine r_iload_n (i := 1) (n := 4) C dL_read_3 rfl rfl rfl ?_
  refine kL_42 (n := 7) C (hM) hk (by decide) (by decide) (Nat.le_of_ble_eq_true rfl) dL_read_4 rfl (fun _ _ h9 => h9.elim) (fun v T hp => ?_)
  refine r_i2l (n := 8) C dL_read_7 rfl ?_
  refine q_last (n := 9) C 0 (hP v T hp) rfl (by decide) dL_read_8 rfl ?_
  refine r_goto (t := 18) C dL_read_9 (by decide) ?_
  refine r_iconst (v := 0) (n := 19) C dL_read_18 rfl rfl ?_
  refine t_i C rfl dL_read_19 (by decide) ?_
  exact ⟨rfl, v, T, hp, rfl⟩
set_option maxRecDepth 100000 in
set_option maxHeartbeats 1000000 in
theorem l_read_t1 {l : Launch} {G : GG} {b : Nat} (hst : l.stackTraces = false) (S : Sw) (k : Nat) (hk : sK S k = 7) (a0 : Int32) (out : Nat) (hM : Cth l G b yX7_read cX7_read 3 (some .int) rmX7_read mI [.ref k, .int a0] S (fun _ _ => False) (fun k => k = 1)) : CtW l G b yL_read cL_read 4 (some .int) [(0, 9, 12, 13), (0, 9, 15, 15)] rmL_read mI [.ref k, .int a0, .ref out] S (fun r S' => S' = S ∧ r = 1) := by
  refine CtW.of pnL (own := RL) rfl (Nat.le_of_ble_eq_true rfl) hst ?_
  intro p e s m args below meth c C htab
  change J p l e rmL_read s m args below meth c 4 G b _ 0 [(0, .ref k), (1, .int a0), (2, .ref out)] [] S 0 0
  have hJ : ∀ q : Nat, J p l e rmL_read s m args below meth c 4 G b (vx_MQ below (Qp G b mI (fun r S' => S' = S ∧ r = 1)) (XCp G b S (fun _ => False)) args s rmL_read.cells rmL_read.slots (Ab b)) 12 [(0, .ref k), (1, .int a0), (2, .ref out)] [.ref q] S (0 + 3) (0 + 18) := by
    intro q
    refine r_astore_n (i := 3) (n := 13) C dL_read_12 rfl (by decide) rfl rfl ?_
    refine r_iconst (v := 1) (n := 14) C dL_read_13 rfl rfl ?_
    refine t_i C rfl dL_read_14 (by decide) ?_
    exact ⟨rfl, rfl⟩
  refine r_aload_n (i := 2) (n := 1) C dL_read_0 rfl rfl rfl ?_
  refine r_iconst (v := 0) (n := 2) C dL_read_1 rfl rfl ?_
  refine r_aload_n (i := 0) (n := 3) C dL_read_2 rfl rfl rfl ?_
  refine r_iload_n (i := 1) (n := 4) C dL_read_3 rfl rfl rfl ?_
  refine kL_42 (n := 7) C (hM) hk (by decide) (by decide) (Nat.le_of_ble_eq_true rfl) dL_read_4 rfl (fun k9 _ hx9 => by subst hx9; exact JX.c1 C htab (by decide) hJ) (fun v T hp => ?_)
  exact hp.elim
set_option maxRecDepth 100000 in
set_option maxHeartbeats 1000000 in
theorem l_read_t2 {l : Launch} {G : GG} {b : Nat} (hst : l.stackTraces = false) (S : Sw) (k : Nat) (hk : sK S k = 7) (a0 : Int32) (out : Nat) (hM : Cth l G b yX7_read cX7_read 3 (some .int) rmX7_read mI [.ref k, .int a0] S (fun _ _ => False) (fun k => k = 2)) : CtW l G b yL_read cL_read 4 (some .int) [(0, 9, 12, 13), (0, 9, 15, 15)] rmL_read mI [.ref k, .int a0, .ref out] S (fun r S' => S' = S ∧ r = 2) := by
  refine CtW.of pnL (own := RL) rfl (Nat.le_of_ble_eq_true rfl) hst ?_
  intro p e s m args below meth c C htab
  change J p l e rmL_read s m args below meth c 4 G b _ 0 [(0, .ref k), (1, .int a0), (2, .ref out)] [] S 0 0
  have hJ : ∀ q : Nat, J p l e rmL_read s m args below meth c 4 G b (vx_MQ below (Qp G b mI (fun r S' => S' = S ∧ r = 2)) (XCp G b S (fun _ => False)) args s rmL_read.cells rmL_read.slots (Ab b)) 15 [(0, .ref k), (1, .int a0), (2, .ref out)] [.ref q] S (0 + 3) (0 + 18) := by
    intro q
    refine r_astore_n (i := 3) (n := 16) C dL_read_15 rfl (by decide) rfl rfl ?_
    refine r_iconst (v := 2) (n := 17) C dL_read_16 rfl rfl ?_
    refine t_i C rfl dL_read_17 (by decide) ?_
    exact ⟨rfl, rfl⟩
  refine r_aload_n (i := 2) (n := 1) C dL_read_0 rfl rfl rfl ?_
  refine r_iconst (v := 0) (n := 2) C dL_read_1 rfl rfl ?_
  refine r_aload_n (i := 0) (n := 3) C dL_read_2 rfl rfl rfl ?_
  refine r_iload_n (i := 1) (n := 4) C dL_read_3 rfl rfl rfl ?_
  refine kL_42 (n := 7) C (hM) hk (by decide) (by decide) (Nat.le_of_ble_eq_true rfl) dL_read_4 rfl (fun k9 _ hx9 => by subst hx9; exact JX.c2 C htab (by decide) hJ) (fun v T hp => ?_)
  exact hp.elim
set_option maxRecDepth 100000 in
set_option maxHeartbeats 1000000 in
theorem l_room_y {l : Launch} {G : GG} {b : Nat} (hst : l.stackTraces = false) (S : Sw) (k : Nat) (hk : sK S k = 7) (a0 : Int32) (out : Nat) (P : Int32 → Sw → Prop) (hM : Cth l G b yX7_room cX7_room 2 (some .int) rmX7_room mI [.ref k, .int a0] S P (fun _ => False)) (hP : ∀ v T, P v T → isL T out 1) : CtW l G b yL_room cL_room 4 (some .int) [(0, 9, 12, 13)] rmL_room mI [.ref k, .int a0, .ref out] S (fun r S' => r = 0 ∧ ∃ v T, P v T ∧ S' = wJ T out 0 v.toInt64) := by
  refine CtW.of pnL (own := RL) rfl (Nat.le_of_ble_eq_true rfl) hst ?_
  intro p e s m args below meth c C htab
  change J p l e rmL_room s m args below meth c 4 G b _ 0 [(0, .ref k), (1, .int a0), (2, .ref out)] [] S 0 0
  refine r_aload_n (i := 2) (n := 1) C dL_room_0 rfl rfl rfl ?_
  refine r_iconst (v := 0) (n := 2) C dL_room_1 rfl rfl ?_
  refine r_aload_n (i := 0) (n := 3) C dL_room_2 rfl rfl rfl ?_
  refine r_iload_n (i := 1) (n := 4) C dL_room_3 rfl rfl rfl ?_
  refine kL_45 (n := 7) C (hM) hk (by decide) (by decide) (Nat.le_of_ble_eq_true rfl) dL_room_4 rfl (fun _ _ h9 => h9.elim) (fun v T hp => ?_)
  refine r_i2l (n := 8) C dL_room_7 rfl ?_
  refine q_last (n := 9) C 0 (hP v T hp) rfl (by decide) dL_room_8 rfl ?_
  refine r_goto (t := 15) C dL_room_9 (by decide) ?_
  refine r_iconst (v := 0) (n := 16) C dL_room_15 rfl rfl ?_
  refine t_i C rfl dL_room_16 (by decide) ?_
  exact ⟨rfl, v, T, hp, rfl⟩
set_option maxRecDepth 100000 in
set_option maxHeartbeats 1000000 in
theorem l_room_t1 {l : Launch} {G : GG} {b : Nat} (hst : l.stackTraces = false) (S : Sw) (k : Nat) (hk : sK S k = 7) (a0 : Int32) (out : Nat) (hM : Cth l G b yX7_room cX7_room 2 (some .int) rmX7_room mI [.ref k, .int a0] S (fun _ _ => False) (fun k => k = 1)) : CtW l G b yL_room cL_room 4 (some .int) [(0, 9, 12, 13)] rmL_room mI [.ref k, .int a0, .ref out] S (fun r S' => S' = S ∧ r = 1) := by
  refine CtW.of pnL (own := RL) rfl (Nat.le_of_ble_eq_true rfl) hst ?_
  intro p e s m args below meth c C htab
  change J p l e rmL_room s m args below meth c 4 G b _ 0 [(0, .ref k), (1, .int a0), (2, .ref out)] [] S 0 0
  have hJ : ∀ q : Nat, J p l e rmL_room s m args below meth c 4 G b (vx_MQ below (Qp G b mI (fun r S' => S' = S ∧ r = 1)) (XCp G b S (fun _ => False)) args s rmL_room.cells rmL_room.slots (Ab b)) 12 [(0, .ref k), (1, .int a0), (2, .ref out)] [.ref q] S (0 + 1) (0 + 6) := by
    intro q
    refine r_astore_n (i := 3) (n := 13) C dL_room_12 rfl (by decide) rfl rfl ?_
    refine r_iconst (v := 1) (n := 14) C dL_room_13 rfl rfl ?_
    refine t_i C rfl dL_room_14 (by decide) ?_
    exact ⟨rfl, rfl⟩
  refine r_aload_n (i := 2) (n := 1) C dL_room_0 rfl rfl rfl ?_
  refine r_iconst (v := 0) (n := 2) C dL_room_1 rfl rfl ?_
  refine r_aload_n (i := 0) (n := 3) C dL_room_2 rfl rfl rfl ?_
  refine r_iload_n (i := 1) (n := 4) C dL_room_3 rfl rfl rfl ?_
  refine kL_45 (n := 7) C (hM) hk (by decide) (by decide) (Nat.le_of_ble_eq_true rfl) dL_room_4 rfl (fun k9 _ hx9 => by subst hx9; exact JX.c1 C htab (by decide) hJ) (fun v T hp => ?_)
  exact hp.elim
set_option maxRecDepth 100000 in
set_option maxHeartbeats 1000000 in
theorem l_ahead_y {l : Launch} {G : GG} {b : Nat} (hst : l.stackTraces = false) (S : Sw) (k : Nat) (hk : sK S k = 7) (a0 : Int32) (out : Nat) (P : Int32 → Sw → Prop) (hM : Cth l G b yX7_ahead cX7_ahead 2 (some .int) rmX7_ahead mI [.ref k, .int a0] S P (fun _ => False)) (hP : ∀ v T, P v T → isL T out 1) : CtW l G b yL_ahead cL_ahead 4 (some .int) [(0, 9, 12, 13)] rmL_ahead mI [.ref k, .int a0, .ref out] S (fun r S' => r = 0 ∧ ∃ v T, P v T ∧ S' = wJ T out 0 v.toInt64) := by
  refine CtW.of pnL (own := RL) rfl (Nat.le_of_ble_eq_true rfl) hst ?_
  intro p e s m args below meth c C htab
  change J p l e rmL_ahead s m args below meth c 4 G b _ 0 [(0, .ref k), (1, .int a0), (2, .ref out)] [] S 0 0
  refine r_aload_n (i := 2) (n := 1) C dL_ahead_0 rfl rfl rfl ?_
  refine r_iconst (v := 0) (n := 2) C dL_ahead_1 rfl rfl ?_
  refine r_aload_n (i := 0) (n := 3) C dL_ahead_2 rfl rfl rfl ?_
  refine r_iload_n (i := 1) (n := 4) C dL_ahead_3 rfl rfl rfl ?_
  refine kL_48 (n := 7) C (hM) hk (by decide) (by decide) (Nat.le_of_ble_eq_true rfl) dL_ahead_4 rfl (fun _ _ h9 => h9.elim) (fun v T hp => ?_)
  refine r_i2l (n := 8) C dL_ahead_7 rfl ?_
  refine q_last (n := 9) C 0 (hP v T hp) rfl (by decide) dL_ahead_8 rfl ?_
  refine r_goto (t := 15) C dL_ahead_9 (by decide) ?_
  refine r_iconst (v := 0) (n := 16) C dL_ahead_15 rfl rfl ?_
  refine t_i C rfl dL_ahead_16 (by decide) ?_
  exact ⟨rfl, v, T, hp, rfl⟩
set_option maxRecDepth 100000 in
set_option maxHeartbeats 1000000 in
theorem l_ahead_t1 {l : Launch} {G : GG} {b : Nat} (hst : l.stackTraces = false) (S : Sw) (k : Nat) (hk : sK S k = 7) (a0 : Int32) (out : Nat) (hM : Cth l G b yX7_ahead cX7_ahead 2 (some .int) rmX7_ahead mI [.ref k, .int a0] S (fun _ _ => False) (fun k => k = 1)) : CtW l G b yL_ahead cL_ahead 4 (some .int) [(0, 9, 12, 13)] rmL_ahead mI [.ref k, .int a0, .ref out] S (fun r S' => S' = S ∧ r = 1) := by
  refine CtW.of pnL (own := RL) rfl (Nat.le_of_ble_eq_true rfl) hst ?_
  intro p e s m args below meth c C htab
  change J p l e rmL_ahead s m args below meth c 4 G b _ 0 [(0, .ref k), (1, .int a0), (2, .ref out)] [] S 0 0
  have hJ : ∀ q : Nat, J p l e rmL_ahead s m args below meth c 4 G b (vx_MQ below (Qp G b mI (fun r S' => S' = S ∧ r = 1)) (XCp G b S (fun _ => False)) args s rmL_ahead.cells rmL_ahead.slots (Ab b)) 12 [(0, .ref k), (1, .int a0), (2, .ref out)] [.ref q] S (0 + 2) (0 + 12) := by
    intro q
    refine r_astore_n (i := 3) (n := 13) C dL_ahead_12 rfl (by decide) rfl rfl ?_
    refine r_iconst (v := 1) (n := 14) C dL_ahead_13 rfl rfl ?_
    refine t_i C rfl dL_ahead_14 (by decide) ?_
    exact ⟨rfl, rfl⟩
  refine r_aload_n (i := 2) (n := 1) C dL_ahead_0 rfl rfl rfl ?_
  refine r_iconst (v := 0) (n := 2) C dL_ahead_1 rfl rfl ?_
  refine r_aload_n (i := 0) (n := 3) C dL_ahead_2 rfl rfl rfl ?_
  refine r_iload_n (i := 1) (n := 4) C dL_ahead_3 rfl rfl rfl ?_
  refine kL_48 (n := 7) C (hM) hk (by decide) (by decide) (Nat.le_of_ble_eq_true rfl) dL_ahead_4 rfl (fun k9 _ hx9 => by subst hx9; exact JX.c1 C htab (by decide) hJ) (fun v T hp => ?_)
  exact hp.elim
set_option maxRecDepth 100000 in
set_option maxHeartbeats 1000000 in
theorem l_coming_y {l : Launch} {G : GG} {b : Nat} (hst : l.stackTraces = false) (S : Sw) (k : Nat) (hk : sK S k = 7) (a0 : Int32) (a1 : Int32) (a2 : Int32) (P : Unit → Sw → Prop) (hM : Cth l G b yX7_coming cX7_coming 4 none rmX7_coming mV [.ref k, .int a0, .int a1, .int a2] S P (fun _ => False)) : CtW l G b yL_coming cL_coming 5 (some .int) [(0, 7, 10, 13)] rmL_coming mI [.ref k, .int a0, .int a1, .int a2] S (fun r S' => r = 0 ∧ ∃ v, P v S') := by
  refine CtW.of pnL (own := RL) rfl (Nat.le_of_ble_eq_true rfl) hst ?_
  intro p e s m args below meth c C htab
  change J p l e rmL_coming s m args below meth c 5 G b _ 0 [(0, .ref k), (1, .int a0), (2, .int a1), (3, .int a2)] [] S 0 0
  refine r_aload_n (i := 0) (n := 1) C dL_coming_0 rfl rfl rfl ?_
  refine r_iload_n (i := 1) (n := 2) C dL_coming_1 rfl rfl rfl ?_
  refine r_iload_n (i := 2) (n := 3) C dL_coming_2 rfl rfl rfl ?_
  refine r_iload_n (i := 3) (n := 4) C dL_coming_3 rfl rfl rfl ?_
  refine kL_51 (n := 7) C (hM) hk (by decide) (by decide) (Nat.le_of_ble_eq_true rfl) dL_coming_4 rfl (fun _ _ h9 => h9.elim) (fun v T hp => ?_)
  refine r_goto (t := 14) C dL_coming_7 (by decide) ?_
  refine r_iconst (v := 0) (n := 15) C dL_coming_14 rfl rfl ?_
  refine t_i C rfl dL_coming_15 (by decide) ?_
  exact ⟨rfl, v, hp⟩
set_option maxRecDepth 100000 in
set_option maxHeartbeats 1000000 in
theorem l_coming_t1 {l : Launch} {G : GG} {b : Nat} (hst : l.stackTraces = false) (S : Sw) (k : Nat) (hk : sK S k = 7) (a0 : Int32) (a1 : Int32) (a2 : Int32) (hM : Cth l G b yX7_coming cX7_coming 4 none rmX7_coming mV [.ref k, .int a0, .int a1, .int a2] S (fun _ _ => False) (fun k => k = 1)) : CtW l G b yL_coming cL_coming 5 (some .int) [(0, 7, 10, 13)] rmL_coming mI [.ref k, .int a0, .int a1, .int a2] S (fun r S' => S' = S ∧ r = 1) := by
  refine CtW.of pnL (own := RL) rfl (Nat.le_of_ble_eq_true rfl) hst ?_
  intro p e s m args below meth c C htab
  change J p l e rmL_coming s m args below meth c 5 G b _ 0 [(0, .ref k), (1, .int a0), (2, .int a1), (3, .int a2)] [] S 0 0
  have hJ : ∀ q : Nat, J p l e rmL_coming s m args below meth c 5 G b (vx_MQ below (Qp G b mI (fun r S' => S' = S ∧ r = 1)) (XCp G b S (fun _ => False)) args s rmL_coming.cells rmL_coming.slots (Ab b)) 10 [(0, .ref k), (1, .int a0), (2, .int a1), (3, .int a2)] [.ref q] S (0 + 1) (0 + 6) := by
    intro q
    refine r_astore (n := 12) C dL_coming_10 (by decide) rfl rfl ?_
    refine r_iconst (v := 1) (n := 13) C dL_coming_12 rfl rfl ?_
    refine t_i C rfl dL_coming_13 (by decide) ?_
    exact ⟨rfl, rfl⟩
  refine r_aload_n (i := 0) (n := 1) C dL_coming_0 rfl rfl rfl ?_
  refine r_iload_n (i := 1) (n := 2) C dL_coming_1 rfl rfl rfl ?_
  refine r_iload_n (i := 2) (n := 3) C dL_coming_2 rfl rfl rfl ?_
  refine r_iload_n (i := 3) (n := 4) C dL_coming_3 rfl rfl rfl ?_
  refine kL_51 (n := 7) C (hM) hk (by decide) (by decide) (Nat.le_of_ble_eq_true rfl) dL_coming_4 rfl (fun k9 _ hx9 => by subst hx9; exact JX.c1 C htab (by decide) hJ) (fun v T hp => ?_)
  exact hp.elim
set_option maxRecDepth 100000 in
set_option maxHeartbeats 1000000 in
theorem l_played_y {l : Launch} {G : GG} {b : Nat} (hst : l.stackTraces = false) (S : Sw) (k : Nat) (hk : sK S k = 7) (a0 : Int32) (a1 : Int32) (a2 : Int32) (out : Nat) (P : Int32 → Sw → Prop) (hM : Cth l G b yX7_played cX7_played 4 (some .int) rmX7_played mI [.ref k, .int a0, .int a1, .int a2] S P (fun _ => False)) (hP : ∀ v T, P v T → isL T out 1) : CtW l G b yL_played cL_played 6 (some .int) [(0, 12, 15, 13)] rmL_played mI [.ref k, .int a0, .int a1, .int a2, .ref out] S (fun r S' => r = 0 ∧ ∃ v T, P v T ∧ S' = wJ T out 0 v.toInt64) := by
  refine CtW.of pnL (own := RL) rfl (Nat.le_of_ble_eq_true rfl) hst ?_
  intro p e s m args below meth c C htab
  change J p l e rmL_played s m args below meth c 6 G b _ 0 [(0, .ref k), (1, .int a0), (2, .int a1), (3, .int a2), (4, .ref out)] [] S 0 0
  refine r_aload (n := 2) C dL_played_0 rfl rfl ?_
  refine r_iconst (v := 0) (n := 3) C dL_played_2 rfl rfl ?_
  refine r_aload_n (i := 0) (n := 4) C dL_played_3 rfl rfl rfl ?_
  refine r_iload_n (i := 1) (n := 5) C dL_played_4 rfl rfl rfl ?_
  refine r_iload_n (i := 2) (n := 6) C dL_played_5 rfl rfl rfl ?_
  refine r_iload_n (i := 3) (n := 7) C dL_played_6 rfl rfl rfl ?_
  refine kL_55 (n := 10) C (hM) hk (by decide) (by decide) (Nat.le_of_ble_eq_true rfl) dL_played_7 rfl (fun _ _ h9 => h9.elim) (fun v T hp => ?_)
  refine r_i2l (n := 11) C dL_played_10 rfl ?_
  refine q_last (n := 12) C 0 (hP v T hp) rfl (by decide) dL_played_11 rfl ?_
  refine r_goto (t := 19) C dL_played_12 (by decide) ?_
  refine r_iconst (v := 0) (n := 20) C dL_played_19 rfl rfl ?_
  refine t_i C rfl dL_played_20 (by decide) ?_
  exact ⟨rfl, v, T, hp, rfl⟩
set_option maxRecDepth 100000 in
set_option maxHeartbeats 1000000 in
theorem l_played_t1 {l : Launch} {G : GG} {b : Nat} (hst : l.stackTraces = false) (S : Sw) (k : Nat) (hk : sK S k = 7) (a0 : Int32) (a1 : Int32) (a2 : Int32) (out : Nat) (hM : Cth l G b yX7_played cX7_played 4 (some .int) rmX7_played mI [.ref k, .int a0, .int a1, .int a2] S (fun _ _ => False) (fun k => k = 1)) : CtW l G b yL_played cL_played 6 (some .int) [(0, 12, 15, 13)] rmL_played mI [.ref k, .int a0, .int a1, .int a2, .ref out] S (fun r S' => S' = S ∧ r = 1) := by
  refine CtW.of pnL (own := RL) rfl (Nat.le_of_ble_eq_true rfl) hst ?_
  intro p e s m args below meth c C htab
  change J p l e rmL_played s m args below meth c 6 G b _ 0 [(0, .ref k), (1, .int a0), (2, .int a1), (3, .int a2), (4, .ref out)] [] S 0 0
  have hJ : ∀ q : Nat, J p l e rmL_played s m args below meth c 6 G b (vx_MQ below (Qp G b mI (fun r S' => S' = S ∧ r = 1)) (XCp G b S (fun _ => False)) args s rmL_played.cells rmL_played.slots (Ab b)) 15 [(0, .ref k), (1, .int a0), (2, .int a1), (3, .int a2), (4, .ref out)] [.ref q] S (0 + 1) (0 + 6) := by
    intro q
    refine r_astore (n := 17) C dL_played_15 (by decide) rfl rfl ?_
    refine r_iconst (v := 1) (n := 18) C dL_played_17 rfl rfl ?_
    refine t_i C rfl dL_played_18 (by decide) ?_
    exact ⟨rfl, rfl⟩
  refine r_aload (n := 2) C dL_played_0 rfl rfl ?_
  refine r_iconst (v := 0) (n := 3) C dL_played_2 rfl rfl ?_
  refine r_aload_n (i := 0) (n := 4) C dL_played_3 rfl rfl rfl ?_
  refine r_iload_n (i := 1) (n := 5) C dL_played_4 rfl rfl rfl ?_
  refine r_iload_n (i := 2) (n := 6) C dL_played_5 rfl rfl rfl ?_
  refine r_iload_n (i := 3) (n := 7) C dL_played_6 rfl rfl rfl ?_
  refine kL_55 (n := 10) C (hM) hk (by decide) (by decide) (Nat.le_of_ble_eq_true rfl) dL_played_7 rfl (fun k9 _ hx9 => by subst hx9; exact JX.c1 C htab (by decide) hJ) (fun v T hp => ?_)
  exact hp.elim
set_option maxRecDepth 100000 in
set_option maxHeartbeats 1000000 in
theorem l_position_y {l : Launch} {G : GG} {b : Nat} (hst : l.stackTraces = false) (S : Sw) (k : Nat) (hk : sK S k = 7) (a0 : Int32) (out : Nat) (P : Int32 → Sw → Prop) (hM : Cth l G b yX7_position cX7_position 2 (some .int) rmX7_position mI [.ref k, .int a0] S P (fun _ => False)) (hP : ∀ v T, P v T → isL T out 1) : CtW l G b yL_position cL_position 4 (some .int) [(0, 9, 12, 13)] rmL_position mI [.ref k, .int a0, .ref out] S (fun r S' => r = 0 ∧ ∃ v T, P v T ∧ S' = wJ T out 0 v.toInt64) := by
  refine CtW.of pnL (own := RL) rfl (Nat.le_of_ble_eq_true rfl) hst ?_
  intro p e s m args below meth c C htab
  change J p l e rmL_position s m args below meth c 4 G b _ 0 [(0, .ref k), (1, .int a0), (2, .ref out)] [] S 0 0
  refine r_aload_n (i := 2) (n := 1) C dL_position_0 rfl rfl rfl ?_
  refine r_iconst (v := 0) (n := 2) C dL_position_1 rfl rfl ?_
  refine r_aload_n (i := 0) (n := 3) C dL_position_2 rfl rfl rfl ?_
  refine r_iload_n (i := 1) (n := 4) C dL_position_3 rfl rfl rfl ?_
  refine kL_59 (n := 7) C (hM) hk (by decide) (by decide) (Nat.le_of_ble_eq_true rfl) dL_position_4 rfl (fun _ _ h9 => h9.elim) (fun v T hp => ?_)
  refine r_i2l (n := 8) C dL_position_7 rfl ?_
  refine q_last (n := 9) C 0 (hP v T hp) rfl (by decide) dL_position_8 rfl ?_
  refine r_goto (t := 15) C dL_position_9 (by decide) ?_
  refine r_iconst (v := 0) (n := 16) C dL_position_15 rfl rfl ?_
  refine t_i C rfl dL_position_16 (by decide) ?_
  exact ⟨rfl, v, T, hp, rfl⟩
set_option maxRecDepth 100000 in
set_option maxHeartbeats 1000000 in
theorem l_position_t1 {l : Launch} {G : GG} {b : Nat} (hst : l.stackTraces = false) (S : Sw) (k : Nat) (hk : sK S k = 7) (a0 : Int32) (out : Nat) (hM : Cth l G b yX7_position cX7_position 2 (some .int) rmX7_position mI [.ref k, .int a0] S (fun _ _ => False) (fun k => k = 1)) : CtW l G b yL_position cL_position 4 (some .int) [(0, 9, 12, 13)] rmL_position mI [.ref k, .int a0, .ref out] S (fun r S' => S' = S ∧ r = 1) := by
  refine CtW.of pnL (own := RL) rfl (Nat.le_of_ble_eq_true rfl) hst ?_
  intro p e s m args below meth c C htab
  change J p l e rmL_position s m args below meth c 4 G b _ 0 [(0, .ref k), (1, .int a0), (2, .ref out)] [] S 0 0
  have hJ : ∀ q : Nat, J p l e rmL_position s m args below meth c 4 G b (vx_MQ below (Qp G b mI (fun r S' => S' = S ∧ r = 1)) (XCp G b S (fun _ => False)) args s rmL_position.cells rmL_position.slots (Ab b)) 12 [(0, .ref k), (1, .int a0), (2, .ref out)] [.ref q] S (0 + 1) (0 + 6) := by
    intro q
    refine r_astore_n (i := 3) (n := 13) C dL_position_12 rfl (by decide) rfl rfl ?_
    refine r_iconst (v := 1) (n := 14) C dL_position_13 rfl rfl ?_
    refine t_i C rfl dL_position_14 (by decide) ?_
    exact ⟨rfl, rfl⟩
  refine r_aload_n (i := 2) (n := 1) C dL_position_0 rfl rfl rfl ?_
  refine r_iconst (v := 0) (n := 2) C dL_position_1 rfl rfl ?_
  refine r_aload_n (i := 0) (n := 3) C dL_position_2 rfl rfl rfl ?_
  refine r_iload_n (i := 1) (n := 4) C dL_position_3 rfl rfl rfl ?_
  refine kL_59 (n := 7) C (hM) hk (by decide) (by decide) (Nat.le_of_ble_eq_true rfl) dL_position_4 rfl (fun k9 _ hx9 => by subst hx9; exact JX.c1 C htab (by decide) hJ) (fun v T hp => ?_)
  exact hp.elim
set_option maxRecDepth 100000 in
set_option maxHeartbeats 1000000 in
theorem l_late_y {l : Launch} {G : GG} {b : Nat} (hst : l.stackTraces = false) (S : Sw) (k : Nat) (hk : sK S k = 7) (a0 : Int32) (out : Nat) (P : Int32 → Sw → Prop) (hM : Cth l G b yX7_late cX7_late 2 (some .int) rmX7_late mI [.ref k, .int a0] S P (fun _ => False)) (hP : ∀ v T, P v T → isL T out 1) : CtW l G b yL_late cL_late 4 (some .int) [(0, 9, 12, 13)] rmL_late mI [.ref k, .int a0, .ref out] S (fun r S' => r = 0 ∧ ∃ v T, P v T ∧ S' = wJ T out 0 v.toInt64) := by
  refine CtW.of pnL (own := RL) rfl (Nat.le_of_ble_eq_true rfl) hst ?_
  intro p e s m args below meth c C htab
  change J p l e rmL_late s m args below meth c 4 G b _ 0 [(0, .ref k), (1, .int a0), (2, .ref out)] [] S 0 0
  refine r_aload_n (i := 2) (n := 1) C dL_late_0 rfl rfl rfl ?_
  refine r_iconst (v := 0) (n := 2) C dL_late_1 rfl rfl ?_
  refine r_aload_n (i := 0) (n := 3) C dL_late_2 rfl rfl rfl ?_
  refine r_iload_n (i := 1) (n := 4) C dL_late_3 rfl rfl rfl ?_
  refine kL_62 (n := 7) C (hM) hk (by decide) (by decide) (Nat.le_of_ble_eq_true rfl) dL_late_4 rfl (fun _ _ h9 => h9.elim) (fun v T hp => ?_)
  refine r_i2l (n := 8) C dL_late_7 rfl ?_
  refine q_last (n := 9) C 0 (hP v T hp) rfl (by decide) dL_late_8 rfl ?_
  refine r_goto (t := 15) C dL_late_9 (by decide) ?_
  refine r_iconst (v := 0) (n := 16) C dL_late_15 rfl rfl ?_
  refine t_i C rfl dL_late_16 (by decide) ?_
  exact ⟨rfl, v, T, hp, rfl⟩
set_option maxRecDepth 100000 in
set_option maxHeartbeats 1000000 in
theorem l_late_t1 {l : Launch} {G : GG} {b : Nat} (hst : l.stackTraces = false) (S : Sw) (k : Nat) (hk : sK S k = 7) (a0 : Int32) (out : Nat) (hM : Cth l G b yX7_late cX7_late 2 (some .int) rmX7_late mI [.ref k, .int a0] S (fun _ _ => False) (fun k => k = 1)) : CtW l G b yL_late cL_late 4 (some .int) [(0, 9, 12, 13)] rmL_late mI [.ref k, .int a0, .ref out] S (fun r S' => S' = S ∧ r = 1) := by
  refine CtW.of pnL (own := RL) rfl (Nat.le_of_ble_eq_true rfl) hst ?_
  intro p e s m args below meth c C htab
  change J p l e rmL_late s m args below meth c 4 G b _ 0 [(0, .ref k), (1, .int a0), (2, .ref out)] [] S 0 0
  have hJ : ∀ q : Nat, J p l e rmL_late s m args below meth c 4 G b (vx_MQ below (Qp G b mI (fun r S' => S' = S ∧ r = 1)) (XCp G b S (fun _ => False)) args s rmL_late.cells rmL_late.slots (Ab b)) 12 [(0, .ref k), (1, .int a0), (2, .ref out)] [.ref q] S (0 + 1) (0 + 6) := by
    intro q
    refine r_astore_n (i := 3) (n := 13) C dL_late_12 rfl (by decide) rfl rfl ?_
    refine r_iconst (v := 1) (n := 14) C dL_late_13 rfl rfl ?_
    refine t_i C rfl dL_late_14 (by decide) ?_
    exact ⟨rfl, rfl⟩
  refine r_aload_n (i := 2) (n := 1) C dL_late_0 rfl rfl rfl ?_
  refine r_iconst (v := 0) (n := 2) C dL_late_1 rfl rfl ?_
  refine r_aload_n (i := 0) (n := 3) C dL_late_2 rfl rfl rfl ?_
  refine r_iload_n (i := 1) (n := 4) C dL_late_3 rfl rfl rfl ?_
  refine kL_62 (n := 7) C (hM) hk (by decide) (by decide) (Nat.le_of_ble_eq_true rfl) dL_late_4 rfl (fun k9 _ hx9 => by subst hx9; exact JX.c1 C htab (by decide) hJ) (fun v T hp => ?_)
  exact hp.elim
set_option maxRecDepth 100000 in
set_option maxHeartbeats 1000000 in
theorem l_level_y {l : Launch} {G : GG} {b : Nat} (hst : l.stackTraces = false) (S : Sw) (k : Nat) (hk : sK S k = 7) (a0 : Int32) (out : Nat) (P : UInt64 → Sw → Prop) (hM : Cth l G b yX7_level cX7_level 2 (some .double) rmX7_level mD [.ref k, .int a0] S P (fun _ => False)) (hP : ∀ v T, P v T → isD T out 1) : CtW l G b yL_level cL_level 4 (some .int) [(0, 8, 11, 13)] rmL_level mI [.ref k, .int a0, .ref out] S (fun r S' => r = 0 ∧ ∃ v T, P v T ∧ S' = wD T out 0 v) := by
  refine CtW.of pnL (own := RL) rfl (Nat.le_of_ble_eq_true rfl) hst ?_
  intro p e s m args below meth c C htab
  change J p l e rmL_level s m args below meth c 4 G b _ 0 [(0, .ref k), (1, .int a0), (2, .ref out)] [] S 0 0
  refine r_aload_n (i := 2) (n := 1) C dL_level_0 rfl rfl rfl ?_
  refine r_iconst (v := 0) (n := 2) C dL_level_1 rfl rfl ?_
  refine r_aload_n (i := 0) (n := 3) C dL_level_2 rfl rfl rfl ?_
  refine r_iload_n (i := 1) (n := 4) C dL_level_3 rfl rfl rfl ?_
  refine kL_65 (n := 7) C (hM) hk (by decide) (by decide) (Nat.le_of_ble_eq_true rfl) dL_level_4 rfl (fun _ _ h9 => h9.elim) (fun v T hp => ?_)
  refine q_dast (n := 8) C 0 (hP v T hp) rfl (by decide) dL_level_7 rfl ?_
  refine r_goto (t := 14) C dL_level_8 (by decide) ?_
  refine r_iconst (v := 0) (n := 15) C dL_level_14 rfl rfl ?_
  refine t_i C rfl dL_level_15 (by decide) ?_
  exact ⟨rfl, v, T, hp, rfl⟩
set_option maxRecDepth 100000 in
set_option maxHeartbeats 1000000 in
theorem l_level_t1 {l : Launch} {G : GG} {b : Nat} (hst : l.stackTraces = false) (S : Sw) (k : Nat) (hk : sK S k = 7) (a0 : Int32) (out : Nat) (hM : Cth l G b yX7_level cX7_level 2 (some .double) rmX7_level mD [.ref k, .int a0] S (fun _ _ => False) (fun k => k = 1)) : CtW l G b yL_level cL_level 4 (some .int) [(0, 8, 11, 13)] rmL_level mI [.ref k, .int a0, .ref out] S (fun r S' => S' = S ∧ r = 1) := by
  refine CtW.of pnL (own := RL) rfl (Nat.le_of_ble_eq_true rfl) hst ?_
  intro p e s m args below meth c C htab
  change J p l e rmL_level s m args below meth c 4 G b _ 0 [(0, .ref k), (1, .int a0), (2, .ref out)] [] S 0 0
  have hJ : ∀ q : Nat, J p l e rmL_level s m args below meth c 4 G b (vx_MQ below (Qp G b mI (fun r S' => S' = S ∧ r = 1)) (XCp G b S (fun _ => False)) args s rmL_level.cells rmL_level.slots (Ab b)) 11 [(0, .ref k), (1, .int a0), (2, .ref out)] [.ref q] S (0 + 2) (0 + 12) := by
    intro q
    refine r_astore_n (i := 3) (n := 12) C dL_level_11 rfl (by decide) rfl rfl ?_
    refine r_iconst (v := 1) (n := 13) C dL_level_12 rfl rfl ?_
    refine t_i C rfl dL_level_13 (by decide) ?_
    exact ⟨rfl, rfl⟩
  refine r_aload_n (i := 2) (n := 1) C dL_level_0 rfl rfl rfl ?_
  refine r_iconst (v := 0) (n := 2) C dL_level_1 rfl rfl ?_
  refine r_aload_n (i := 0) (n := 3) C dL_level_2 rfl rfl rfl ?_
  refine r_iload_n (i := 1) (n := 4) C dL_level_3 rfl rfl rfl ?_
  refine kL_65 (n := 7) C (hM) hk (by decide) (by decide) (Nat.le_of_ble_eq_true rfl) dL_level_4 rfl (fun k9 _ hx9 => by subst hx9; exact JX.c1 C htab (by decide) hJ) (fun v T hp => ?_)
  exact hp.elim
set_option maxRecDepth 100000 in
set_option maxHeartbeats 1000000 in
theorem l_tap_y {l : Launch} {G : GG} {b : Nat} (hst : l.stackTraces = false) (S : Sw) (k : Nat) (hk : sK S k = 7) (a0 : Int32) (a1 : Int32) (out : Nat) (P : Int32 → Sw → Prop) (hM : Cth l G b yX7_tap cX7_tap 3 (some .int) rmX7_tap mI [.ref k, .int a0, .int a1] S P (fun _ => False)) (hP : ∀ v T, P v T → isL T out 1) : CtW l G b yL_tap cL_tap 5 (some .int) [(0, 10, 13, 13)] rmL_tap mI [.ref k, .int a0, .int a1, .ref out] S (fun r S' => r = 0 ∧ ∃ v T, P v T ∧ S' = wJ T out 0 v.toInt64) := by
  refine CtW.of pnL (own := RL) rfl (Nat.le_of_ble_eq_true rfl) hst ?_
  intro p e s m args below meth c C htab
  change J p l e rmL_tap s m args below meth c 5 G b _ 0 [(0, .ref k), (1, .int a0), (2, .int a1), (3, .ref out)] [] S 0 0
  refine r_aload_n (i := 3) (n := 1) C dL_tap_0 rfl rfl rfl ?_
  refine r_iconst (v := 0) (n := 2) C dL_tap_1 rfl rfl ?_
  refine r_aload_n (i := 0) (n := 3) C dL_tap_2 rfl rfl rfl ?_
  refine r_iload_n (i := 1) (n := 4) C dL_tap_3 rfl rfl rfl ?_
  refine r_iload_n (i := 2) (n := 5) C dL_tap_4 rfl rfl rfl ?_
  refine kL_69 (n := 8) C (hM) hk (by decide) (by decide) (Nat.le_of_ble_eq_true rfl) dL_tap_5 rfl (fun _ _ h9 => h9.elim) (fun v T hp => ?_)
  refine r_i2l (n := 9) C dL_tap_8 rfl ?_
  refine q_last (n := 10) C 0 (hP v T hp) rfl (by decide) dL_tap_9 rfl ?_
  refine r_goto (t := 17) C dL_tap_10 (by decide) ?_
  refine r_iconst (v := 0) (n := 18) C dL_tap_17 rfl rfl ?_
  refine t_i C rfl dL_tap_18 (by decide) ?_
  exact ⟨rfl, v, T, hp, rfl⟩
set_option maxRecDepth 100000 in
set_option maxHeartbeats 1000000 in
theorem l_tap_t1 {l : Launch} {G : GG} {b : Nat} (hst : l.stackTraces = false) (S : Sw) (k : Nat) (hk : sK S k = 7) (a0 : Int32) (a1 : Int32) (out : Nat) (hM : Cth l G b yX7_tap cX7_tap 3 (some .int) rmX7_tap mI [.ref k, .int a0, .int a1] S (fun _ _ => False) (fun k => k = 1)) : CtW l G b yL_tap cL_tap 5 (some .int) [(0, 10, 13, 13)] rmL_tap mI [.ref k, .int a0, .int a1, .ref out] S (fun r S' => S' = S ∧ r = 1) := by
  refine CtW.of pnL (own := RL) rfl (Nat.le_of_ble_eq_true rfl) hst ?_
  intro p e s m args below meth c C htab
  change J p l e rmL_tap s m args below meth c 5 G b _ 0 [(0, .ref k), (1, .int a0), (2, .int a1), (3, .ref out)] [] S 0 0
  have hJ : ∀ q : Nat, J p l e rmL_tap s m args below meth c 5 G b (vx_MQ below (Qp G b mI (fun r S' => S' = S ∧ r = 1)) (XCp G b S (fun _ => False)) args s rmL_tap.cells rmL_tap.slots (Ab b)) 13 [(0, .ref k), (1, .int a0), (2, .int a1), (3, .ref out)] [.ref q] S (0 + 1) (0 + 6) := by
    intro q
    refine r_astore (n := 15) C dL_tap_13 (by decide) rfl rfl ?_
    refine r_iconst (v := 1) (n := 16) C dL_tap_15 rfl rfl ?_
    refine t_i C rfl dL_tap_16 (by decide) ?_
    exact ⟨rfl, rfl⟩
  refine r_aload_n (i := 3) (n := 1) C dL_tap_0 rfl rfl rfl ?_
  refine r_iconst (v := 0) (n := 2) C dL_tap_1 rfl rfl ?_
  refine r_aload_n (i := 0) (n := 3) C dL_tap_2 rfl rfl rfl ?_
  refine r_iload_n (i := 1) (n := 4) C dL_tap_3 rfl rfl rfl ?_
  refine r_iload_n (i := 2) (n := 5) C dL_tap_4 rfl rfl rfl ?_
  refine kL_69 (n := 8) C (hM) hk (by decide) (by decide) (Nat.le_of_ble_eq_true rfl) dL_tap_5 rfl (fun k9 _ hx9 => by subst hx9; exact JX.c1 C htab (by decide) hJ) (fun v T hp => ?_)
  exact hp.elim
