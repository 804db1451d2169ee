theorem Ct.of2 {l : Launch} {cc : ByteArray} {nL : Nat} {own : String} {ret : Option FieldType} {G : GG} {b : Nat} {S : Sw} {y : MethodName} {rm : Room} {α : Type} {mk : α → Option Value} {av : List Value} {post : α → Sw → Prop} (hy : plainName y.cls = true) (ho : y.cls = own) (hlen : (lg_sl av).length ≤ nL) (hst : l.stackTraces = false)
    (body : ∀ (p : Program) (e : Env) (s : State) (m : MethodId) (args : Array Value) (below : List Frame) (meth : Method) (c : Code), Cx p l s m args meth c cc nL own ret G b → meth.name = y.name →
      J p l e rm s m args below meth c nL G b (vx_MQ below (Qp G b mk post) (XCp G b S (fun _ => False)) args s rm.cells rm.slots (Ab b)) 0 (lv_args 0 av) [] S 0 0) : Ct l G b y cc nL ret rm mk av S post := by
  subst ho
  exact Ct.of hy hlen hst body
theorem Cth.of2 {l : Launch} {cc : ByteArray} {nL : Nat} {own : String} {ret : Option FieldType} {G : GG} {b : Nat} {S : Sw} {y : MethodName} {rm : Room} {α : Type} {mk : α → Option Value} {av : List Value} {post : α → Sw → Prop} {px : Nat → Prop} (hy : plainName y.cls = true) (ho : y.cls = own) (hlen : (lg_sl av).length ≤ nL) (hst : l.stackTraces = false)
    (body : ∀ (p : Program) (e : Env) (s : State) (m : MethodId) (args : Array Value) (below : List Frame) (meth : Method) (c : Code), Cx p l s m args meth c cc nL own ret G b → meth.name = y.name → (∀ x ∈ c.exceptionTable.toList, False) →
      J p l e rm s m args below meth c nL G b (vx_MQ below (Qp G b mk post) (XCp G b S px) args s rm.cells rm.slots (Ab b)) 0 (lv_args 0 av) [] S 0 0) : Cth l G b y cc nL ret rm mk av S post px := by
  subst ho
  exact Cth.of hy hlen hst body
theorem W.mono {p : Program} {l : Launch} {e : Env} {R : Room} {s : State} {m : MethodId} {args : Array Value} {below : List Frame} {meth : Method} {c : Code} {H : Heap} {locs : List Loc} {cells slots : Nat} {Q Q' : State → Prop} {g : JFrame} (k : W p l e R s m args below meth c H locs cells slots Q g) (h : ∀ t, Q t → Q' t) : W p l e R s m args below meth c H locs cells slots Q' g := fun T hT X => by
  obtain ⟨t, a1, b1⟩ := k T hT X
  exact ⟨t, a1, h t b1⟩
theorem Ct.ofF {l : Launch} {cc : ByteArray} {nL : Nat} {own : String} {ret : Option FieldType} {G : GG} {b : Nat} {S : Sw} {y : MethodName} {rm : Room} {α : Type} {mk : α → Option Value} {av : List Value} {post : α → Sw → Prop} (hy : plainFor y = true) (ho : y.cls = own) (hlen : (lg_sl av).length ≤ nL) (hst : l.stackTraces = false)
    (body : ∀ (p : Program) (e : Env) (s : State) (m : MethodId) (args : Array Value) (below : List Frame) (meth : Method) (c : Code), Cx p l s m args meth c cc nL own ret G b → meth.name = y.name →
      J p l e rm s m args below meth c nL G b (vx_MQ below (Qp G b mk post) (XCp G b S (fun _ => False)) args s rm.cells rm.slots (Ab b)) 0 (lv_args 0 av) [] S 0 0) : Ct l G b y cc nL ret rm mk av S post := by
  subst ho
  refine va_MetF (cc := cc) (maxL := nL) (ret := ret) hy rfl ?_
  intro p e s m args below meth c s₁ B hml hv
  obtain ⟨rfl, hF, hH⟩ := hv
  have hts := atoms_spec (ws := .code y cc nL ret :: TB) B.pre
  have C : Cx p l s m av.toArray meth c cc nL y.cls ret G b := ⟨B.exec, B.bytes, hml, findClass_of_methodNamed B.named, fun w hw => hts w (List.mem_cons_of_mem _ hw), hF, B.notSynchronized, B.returns, hst⟩
  have hl := lv_entry av (n := nL) hlen
  rw [lg_entry_eq]
  refine W.mono (body p e s m av.toArray below meth c C (name_of_methodNamed B.named B.method).1 _ s.heap [] hl hH va_S.rf) (fun t ht => ?_)
  obtain ⟨o, q1, q2, q3⟩ := ht
  rcases q3 with q3 | ⟨q, -, E, ce, L, ⟨⟨k, -, -, hF, -⟩, -⟩, -⟩
  · exact ⟨o, q1, q2, q3⟩
  · exact hF.elim
def jAbs (x : Int32) : Int32 := if 0 ≤ x then x else -x
def jMax (x y : Int32) : Int32 := if x < y then y else x
def jMin (x y : Int32) : Int32 := if y < x then y else x
def jFd (x y : Int32) : Int32 := if 0 ≤ x ^^^ y then x / y else if x / y * y = x then x / y else x / y - 1
def jFm (x y : Int32) : Int32 := if 0 ≤ x ^^^ y then x - x / y * y else if x - x / y * y = 0 then x - x / y * y else x - x / y * y + y
def jFdL (x y : Int64) : Int64 := if 0 ≤ x ^^^ y then x / y else if x / y * y = x then x / y else x / y - 1
set_option maxRecDepth 100000 in
set_option maxHeartbeats 4000000 in
theorem c_abs {l : Launch} {G : GG} {b : Nat} (hst : l.stackTraces = false) (S : Sw) (x : Int32) : Ct l G b yJ9_abs_0f7a4 cJ9_abs_0f7a4 1 (some .int) rmJ9_abs_0f7a4 mI [.int x] S (fun r S' => S' = S ∧ r = jAbs x) := by
  refine Ct.ofF (by decide +kernel) (own := RJ9) rfl (Nat.le_of_ble_eq_true rfl) hst ?_
  intro p e s m args below meth c C hname
  change J p l e rmJ9_abs_0f7a4 s m args below meth c 1 G b _ 0 [(0, .int x)] [] S 0 0
  refine r_iload_n (i := 0) (n := 1) C dJ9_abs_0f7a4_0 rfl rfl rfl ?_
  refine r_if_ge (n := 4) (t := 9) C dJ9_abs_0f7a4_1 (by decide) rfl (fun h1 => ?_) (fun h1 => ?_)
  · refine r_iload_n (i := 0) (n := 10) C dJ9_abs_0f7a4_9 rfl rfl rfl ?_
    refine t_i C rfl dJ9_abs_0f7a4_10 (by decide) ?_
    exact ⟨rfl, by simp [jAbs, *]⟩
  · refine r_iload_n (i := 0) (n := 5) C dJ9_abs_0f7a4_4 rfl rfl rfl ?_
    refine r_ineg (n := 6) C dJ9_abs_0f7a4_5 rfl ?_
    refine r_goto (t := 10) C dJ9_abs_0f7a4_6 (by decide) ?_
    refine t_i C rfl dJ9_abs_0f7a4_10 (by decide) ?_
    exact ⟨rfl, by simp [jAbs, *]⟩
set_option maxRecDepth 100000 in
set_option maxHeartbeats 4000000 in
theorem c_max {l : Launch} {G : GG} {b : Nat} (hst : l.stackTraces = false) (S : Sw) (x y : Int32) : Ct l G b yJ9_max_7cf53 cJ9_max_7cf53 2 (some .int) rmJ9_max_7cf53 mI [.int x, .int y] S (fun r S' => S' = S ∧ r = jMax x y) := by
  refine Ct.ofF (by decide +kernel) (own := RJ9) rfl (Nat.le_of_ble_eq_true rfl) hst ?_
  intro p e s m args below meth c C hname
  change J p l e rmJ9_max_7cf53 s m args below meth c 2 G b _ 0 [(0, .int x), (1, .int y)] [] S 0 0
  refine r_iload_n (i := 0) (n := 1) C dJ9_max_7cf53_0 rfl rfl rfl ?_
  refine r_iload_n (i := 1) (n := 2) C dJ9_max_7cf53_1 rfl rfl rfl ?_
  refine r_icmp_lt (n := 5) (t := 9) C dJ9_max_7cf53_2 (by decide) rfl (fun h2 => ?_) (fun h2 => ?_)
  · refine r_iload_n (i := 1) (n := 10) C dJ9_max_7cf53_9 rfl rfl rfl ?_
    refine t_i C rfl dJ9_max_7cf53_10 (by decide) ?_
    exact ⟨rfl, by simp [jMax, *]⟩
  · refine r_iload_n (i := 0) (n := 6) C dJ9_max_7cf53_5 rfl rfl rfl ?_
    refine r_goto (t := 10) C dJ9_max_7cf53_6 (by decide) ?_
    refine t_i C rfl dJ9_max_7cf53_10 (by decide) ?_
    exact ⟨rfl, by simp [jMax, *]⟩
set_option maxRecDepth 100000 in
set_option maxHeartbeats 4000000 in
theorem c_min {l : Launch} {G : GG} {b : Nat} (hst : l.stackTraces = false) (S : Sw) (x y : Int32) : Ct l G b yJ9_min_7cf53 cJ9_min_7cf53 2 (some .int) rmJ9_min_7cf53 mI [.int x, .int y] S (fun r S' => S' = S ∧ r = jMin x y) := by
  refine Ct.ofF (by decide +kernel) (own := RJ9) rfl (Nat.le_of_ble_eq_true rfl) hst ?_
  intro p e s m args below meth c C hname
  change J p l e rmJ9_min_7cf53 s m args below meth c 2 G b _ 0 [(0, .int x), (1, .int y)] [] S 0 0
  refine r_iload_n (i := 0) (n := 1) C dJ9_min_7cf53_0 rfl rfl rfl ?_
  refine r_iload_n (i := 1) (n := 2) C dJ9_min_7cf53_1 rfl rfl rfl ?_
  refine r_icmp_gt (n := 5) (t := 9) C dJ9_min_7cf53_2 (by decide) rfl (fun h2 => ?_) (fun h2 => ?_)
  · refine r_iload_n (i := 1) (n := 10) C dJ9_min_7cf53_9 rfl rfl rfl ?_
    refine t_i C rfl dJ9_min_7cf53_10 (by decide) ?_
    exact ⟨rfl, by simp [jMin, *]⟩
  · refine r_iload_n (i := 0) (n := 6) C dJ9_min_7cf53_5 rfl rfl rfl ?_
    refine r_goto (t := 10) C dJ9_min_7cf53_6 (by decide) ?_
    refine t_i C rfl dJ9_min_7cf53_10 (by decide) ?_
    exact ⟨rfl, by simp [jMin, *]⟩
set_option maxRecDepth 100000 in
set_option maxHeartbeats 4000000 in
theorem c_fd {l : Launch} {G : GG} {b : Nat} (hst : l.stackTraces = false) (S : Sw) (x y : Int32) (hy : ¬ y = 0) : Ct l G b yJ9_floorDiv_7cf53 cJ9_floorDiv_7cf53 3 (some .int) rmJ9_floorDiv_7cf53 mI [.int x, .int y] S (fun r S' => S' = S ∧ r = jFd x y) := by
  refine Ct.ofF (by decide +kernel) (own := RJ9) rfl (Nat.le_of_ble_eq_true rfl) hst ?_
  intro p e s m args below meth c C hname
  change J p l e rmJ9_floorDiv_7cf53 s m args below meth c 3 G b _ 0 [(0, .int x), (1, .int y)] [] S 0 0
  refine r_iload_n (i := 0) (n := 1) C dJ9_floorDiv_7cf53_0 rfl rfl rfl ?_
  refine r_iload_n (i := 1) (n := 2) C dJ9_floorDiv_7cf53_1 rfl rfl rfl ?_
  refine r_idiv (n := 3) C dJ9_floorDiv_7cf53_2 hy rfl ?_
  refine r_istore_n (i := 2) (n := 4) C dJ9_floorDiv_7cf53_3 rfl (by decide) rfl rfl ?_
  refine r_iload_n (i := 0) (n := 5) C dJ9_floorDiv_7cf53_4 rfl rfl rfl ?_
  refine r_iload_n (i := 1) (n := 6) C dJ9_floorDiv_7cf53_5 rfl rfl rfl ?_
  refine r_ixor (n := 7) C dJ9_floorDiv_7cf53_6 rfl ?_
  refine r_if_ge (n := 10) (t := 21) C dJ9_floorDiv_7cf53_7 (by decide) rfl (fun h7 => ?_) (fun h7 => ?_)
  · refine r_iload_n (i := 2) (n := 22) C dJ9_floorDiv_7cf53_21 rfl rfl rfl ?_
    refine t_i C rfl dJ9_floorDiv_7cf53_22 (by decide) ?_
    exact ⟨rfl, by simp [jFd, *]⟩
  · refine r_iload_n (i := 2) (n := 11) C dJ9_floorDiv_7cf53_10 rfl rfl rfl ?_
    refine r_iload_n (i := 1) (n := 12) C dJ9_floorDiv_7cf53_11 rfl rfl rfl ?_
    refine r_imul (n := 13) C dJ9_floorDiv_7cf53_12 rfl ?_
    refine r_iload_n (i := 0) (n := 14) C dJ9_floorDiv_7cf53_13 rfl rfl rfl ?_
    refine r_icmp_eq (n := 17) (t := 21) C dJ9_floorDiv_7cf53_14 (by decide) rfl (fun h14 => ?_) (fun h14 => ?_)
    · refine r_iload_n (i := 2) (n := 22) C dJ9_floorDiv_7cf53_21 rfl rfl rfl ?_
      refine t_i C rfl dJ9_floorDiv_7cf53_22 (by decide) ?_
      exact ⟨rfl, by simp [jFd, *]⟩
    · refine r_iload_n (i := 2) (n := 18) C dJ9_floorDiv_7cf53_17 rfl rfl rfl ?_
      refine r_iconst (v := 1) (n := 19) C dJ9_floorDiv_7cf53_18 rfl rfl ?_
      refine r_isub (n := 20) C dJ9_floorDiv_7cf53_19 rfl ?_
      refine t_i C rfl dJ9_floorDiv_7cf53_20 (by decide) ?_
      exact ⟨rfl, by simp [jFd, *]⟩
set_option maxRecDepth 100000 in
set_option maxHeartbeats 4000000 in
theorem c_fm {l : Launch} {G : GG} {b : Nat} (hst : l.stackTraces = false) (S : Sw) (x y : Int32) (hy : ¬ y = 0) : Ct l G b yJ9_floorMod_7cf53 cJ9_floorMod_7cf53 3 (some .int) rmJ9_floorMod_7cf53 mI [.int x, .int y] S (fun r S' => S' = S ∧ r = jFm x y) := by
  refine Ct.ofF (by decide +kernel) (own := RJ9) rfl (Nat.le_of_ble_eq_true rfl) hst ?_
  intro p e s m args below meth c C hname
  change J p l e rmJ9_floorMod_7cf53 s m args below meth c 3 G b _ 0 [(0, .int x), (1, .int y)] [] S 0 0
  refine r_iload_n (i := 0) (n := 1) C dJ9_floorMod_7cf53_0 rfl rfl rfl ?_
  refine r_iload_n (i := 1) (n := 2) C dJ9_floorMod_7cf53_1 rfl rfl rfl ?_
  refine r_irem (n := 3) C dJ9_floorMod_7cf53_2 hy rfl ?_
  refine r_istore_n (i := 2) (n := 4) C dJ9_floorMod_7cf53_3 rfl (by decide) rfl rfl ?_
  refine r_iload_n (i := 0) (n := 5) C dJ9_floorMod_7cf53_4 rfl rfl rfl ?_
  refine r_iload_n (i := 1) (n := 6) C dJ9_floorMod_7cf53_5 rfl rfl rfl ?_
  refine r_ixor (n := 7) C dJ9_floorMod_7cf53_6 rfl ?_
  refine r_if_ge (n := 10) (t := 18) C dJ9_floorMod_7cf53_7 (by decide) rfl (fun h7 => ?_) (fun h7 => ?_)
  · refine r_iload_n (i := 2) (n := 19) C dJ9_floorMod_7cf53_18 rfl rfl rfl ?_
    refine t_i C rfl dJ9_floorMod_7cf53_19 (by decide) ?_
    exact ⟨rfl, by simp [jFm, *]⟩
  · refine r_iload_n (i := 2) (n := 11) C dJ9_floorMod_7cf53_10 rfl rfl rfl ?_
    refine r_if_eq (n := 14) (t := 18) C dJ9_floorMod_7cf53_11 (by decide) rfl (fun h11 => ?_) (fun h11 => ?_)
    · refine r_iload_n (i := 2) (n := 19) C dJ9_floorMod_7cf53_18 rfl rfl rfl ?_
      refine t_i C rfl dJ9_floorMod_7cf53_19 (by decide) ?_
      exact ⟨rfl, by simp [jFm, *]⟩
    · refine r_iload_n (i := 2) (n := 15) C dJ9_floorMod_7cf53_14 rfl rfl rfl ?_
      refine r_iload_n (i := 1) (n := 16) C dJ9_floorMod_7cf53_15 rfl rfl rfl ?_
      refine r_iadd (n := 17) C dJ9_floorMod_7cf53_16 rfl ?_
      refine t_i C rfl dJ9_floorMod_7cf53_17 (by decide) ?_
      exact ⟨rfl, by simp [jFm, *]⟩
set_option maxRecDepth 100000 in
set_option maxHeartbeats 4000000 in
theorem c_fdL {l : Launch} {G : GG} {b : Nat} (hst : l.stackTraces = false) (S : Sw) (x y : Int64) (hy : ¬ y = 0) : Ct l G b yJ9_floorDiv_f86c9 cJ9_floorDiv_f86c9 6 (some .long) rmJ9_floorDiv_f86c9 mJ [.long x, .long y] S (fun r S' => S' = S ∧ r = jFdL x y) := by
  refine Ct.ofF (by decide +kernel) (own := RJ9) rfl (Nat.le_of_ble_eq_true rfl) hst ?_
  intro p e s m args below meth c C hname
  change J p l e rmJ9_floorDiv_f86c9 s m args below meth c 6 G b _ 0 [(0, .long x), (2, .long y)] [] S 0 0
  refine r_lload_n (i := 0) (n := 1) C dJ9_floorDiv_f86c9_0 rfl rfl rfl ?_
  refine r_lload_n (i := 2) (n := 2) C dJ9_floorDiv_f86c9_1 rfl rfl rfl ?_
  refine r_ldiv (n := 3) C dJ9_floorDiv_f86c9_2 hy rfl ?_
  refine r_lstore (n := 5) C dJ9_floorDiv_f86c9_3 (by decide) rfl rfl ?_
  refine r_lload_n (i := 0) (n := 6) C dJ9_floorDiv_f86c9_5 rfl rfl rfl ?_
  refine r_lload_n (i := 2) (n := 7) C dJ9_floorDiv_f86c9_6 rfl rfl rfl ?_
  refine r_lxor (n := 8) C dJ9_floorDiv_f86c9_7 rfl ?_
  refine r_lconst (v := 0) (n := 9) C dJ9_floorDiv_f86c9_8 rfl rfl ?_
  refine r_lcmp (n := 10) C dJ9_floorDiv_f86c9_9 rfl ?_
  refine r_if_ge (n := 13) (t := 27) C dJ9_floorDiv_f86c9_10 (by decide) rfl (fun h10 => ?_) (fun h10 => ?_)
  · refine r_lload (n := 29) C dJ9_floorDiv_f86c9_27 rfl rfl ?_
    refine t_j C dJ9_floorDiv_f86c9_29 (by decide) ?_
    exact ⟨rfl, by simp only [lg_cmp_ge, lg_cmp_eq] at *; simp [jFdL, *]⟩
  · refine r_lload (n := 15) C dJ9_floorDiv_f86c9_13 rfl rfl ?_
    refine r_lload_n (i := 2) (n := 16) C dJ9_floorDiv_f86c9_15 rfl rfl rfl ?_
    refine r_lmul (n := 17) C dJ9_floorDiv_f86c9_16 rfl ?_
    refine r_lload_n (i := 0) (n := 18) C dJ9_floorDiv_f86c9_17 rfl rfl rfl ?_
    refine r_lcmp (n := 19) C dJ9_floorDiv_f86c9_18 rfl ?_
    refine r_if_eq (n := 22) (t := 27) C dJ9_floorDiv_f86c9_19 (by decide) rfl (fun h19 => ?_) (fun h19 => ?_)
    · refine r_lload (n := 29) C dJ9_floorDiv_f86c9_27 rfl rfl ?_
      refine t_j C dJ9_floorDiv_f86c9_29 (by decide) ?_
      exact ⟨rfl, by simp only [lg_cmp_ge, lg_cmp_eq] at *; simp [jFdL, *]⟩
    · refine r_lload (n := 24) C dJ9_floorDiv_f86c9_22 rfl rfl ?_
      refine r_lconst (v := 1) (n := 25) C dJ9_floorDiv_f86c9_24 rfl rfl ?_
      refine r_lsub (n := 26) C dJ9_floorDiv_f86c9_25 rfl ?_
      refine t_j C dJ9_floorDiv_f86c9_26 (by decide) ?_
      exact ⟨rfl, by simp only [lg_cmp_ge, lg_cmp_eq] at *; simp [jFdL, *]⟩
set_option maxRecDepth 100000 in
set_option maxHeartbeats 4000000 in
theorem c_X7_isFrame {l : Launch} {G : GG} {b : Nat} (hst : l.stackTraces = false) (S : Sw) (i : Int32) : Ct l G b yX7_isFrame cX7_isFrame 1 (some .boolean) rmX7_isFrame mI [.int i] S (fun r S' => S' = S ∧ r = if 0 ≤ i ∧ i < 24 then 1 else 0) := by
  refine Ct.of2 (by decide +kernel) (own := RX7) rfl (Nat.le_of_ble_eq_true rfl) hst ?_
  intro p e s m args below meth c C hname
  change J p l e rmX7_isFrame s m args below meth c 1 G b _ 0 [(0, .int i)] [] S 0 0
  refine r_iload_n (i := 0) (n := 1) C dX7_isFrame_0 rfl rfl rfl ?_
  refine r_if_lt (n := 4) (t := 14) C dX7_isFrame_1 (by decide) rfl (fun h1 => ?_) (fun h1 => ?_)
  · refine r_iconst (v := 0) (n := 15) C dX7_isFrame_14 rfl rfl ?_
    refine t_i C rfl dX7_isFrame_15 (by decide) ?_
    refine ⟨rfl, ?_⟩
    first | (rw [if_pos (by simp only [Int32.le_iff_toInt_le, Int32.lt_iff_toInt_lt] at *; omega)]) | (rw [if_neg (by simp only [Int32.le_iff_toInt_le, Int32.lt_iff_toInt_lt] at *; omega)])
  · refine r_iload_n (i := 0) (n := 5) C dX7_isFrame_4 rfl rfl rfl ?_
    refine r_bipush (v := 24) (n := 7) C dX7_isFrame_5 rfl rfl ?_
    refine r_icmp_ge (n := 10) (t := 14) C dX7_isFrame_7 (by decide) rfl (fun h7 => ?_) (fun h7 => ?_)
    · refine r_iconst (v := 0) (n := 15) C dX7_isFrame_14 rfl rfl ?_
      refine t_i C rfl dX7_isFrame_15 (by decide) ?_
      refine ⟨rfl, ?_⟩
      first | (rw [if_pos (by simp only [Int32.le_iff_toInt_le, Int32.lt_iff_toInt_lt] at *; omega)]) | (rw [if_neg (by simp only [Int32.le_iff_toInt_le, Int32.lt_iff_toInt_lt] at *; omega)])
    · refine r_iconst (v := 1) (n := 11) C dX7_isFrame_10 rfl rfl ?_
      refine r_goto (t := 15) C dX7_isFrame_11 (by decide) ?_
      refine t_i C rfl dX7_isFrame_15 (by decide) ?_
      refine ⟨rfl, ?_⟩
      first | (rw [if_pos (by simp only [Int32.le_iff_toInt_le, Int32.lt_iff_toInt_lt] at *; omega)]) | (rw [if_neg (by simp only [Int32.le_iff_toInt_le, Int32.lt_iff_toInt_lt] at *; omega)])
set_option maxRecDepth 100000 in
set_option maxHeartbeats 4000000 in
theorem c_X7_isSample {l : Launch} {G : GG} {b : Nat} (hst : l.stackTraces = false) (S : Sw) (i : Int32) : Ct l G b yX7_isSample cX7_isSample 1 (some .boolean) rmX7_isSample mI [.int i] S (fun r S' => S' = S ∧ r = if (-32768) ≤ i ∧ i ≤ 32767 then 1 else 0) := by
  refine Ct.of2 (by decide +kernel) (own := RX7) rfl (Nat.le_of_ble_eq_true rfl) hst ?_
  intro p e s m args below meth c C hname
  change J p l e rmX7_isSample s m args below meth c 1 G b _ 0 [(0, .int i)] [] S 0 0
  refine r_iload_n (i := 0) (n := 1) C dX7_isSample_0 rfl rfl rfl ?_
  refine r_sipush (v := (-32768)) (n := 4) C dX7_isSample_1 rfl rfl ?_
  refine r_icmp_lt (n := 7) (t := 18) C dX7_isSample_4 (by decide) rfl (fun h4 => ?_) (fun h4 => ?_)
  · refine r_iconst (v := 0) (n := 19) C dX7_isSample_18 rfl rfl ?_
    refine t_i C rfl dX7_isSample_19 (by decide) ?_
    refine ⟨rfl, ?_⟩
    first | (rw [if_pos (by simp only [Int32.le_iff_toInt_le, Int32.lt_iff_toInt_lt] at *; omega)]) | (rw [if_neg (by simp only [Int32.le_iff_toInt_le, Int32.lt_iff_toInt_lt] at *; omega)])
  · refine r_iload_n (i := 0) (n := 8) C dX7_isSample_7 rfl rfl rfl ?_
    refine r_sipush (v := 32767) (n := 11) C dX7_isSample_8 rfl rfl ?_
    refine r_icmp_gt (n := 14) (t := 18) C dX7_isSample_11 (by decide) rfl (fun h11 => ?_) (fun h11 => ?_)
    · refine r_iconst (v := 0) (n := 19) C dX7_isSample_18 rfl rfl ?_
      refine t_i C rfl dX7_isSample_19 (by decide) ?_
      refine ⟨rfl, ?_⟩
      first | (rw [if_pos (by simp only [Int32.le_iff_toInt_le, Int32.lt_iff_toInt_lt] at *; omega)]) | (rw [if_neg (by simp only [Int32.le_iff_toInt_le, Int32.lt_iff_toInt_lt] at *; omega)])
    · refine r_iconst (v := 1) (n := 15) C dX7_isSample_14 rfl rfl ?_
      refine r_goto (t := 19) C dX7_isSample_15 (by decide) ?_
      refine t_i C rfl dX7_isSample_19 (by decide) ?_
      refine ⟨rfl, ?_⟩
      first | (rw [if_pos (by simp only [Int32.le_iff_toInt_le, Int32.lt_iff_toInt_lt] at *; omega)]) | (rw [if_neg (by simp only [Int32.le_iff_toInt_le, Int32.lt_iff_toInt_lt] at *; omega)])
set_option maxRecDepth 100000 in
set_option maxHeartbeats 4000000 in
theorem c_X7_sampleIndex {l : Launch} {G : GG} {b : Nat} (hst : l.stackTraces = false) (S : Sw) (i r : Int32) : Ct l G b yX7_sampleIndex cX7_sampleIndex 2 (some .int) rmX7_sampleIndex mI [.int i, .int r] S (fun x S' => S' = S ∧ x = 2 * i + (if r = 0 then 0 else 1)) := by
  refine Ct.of2 (by decide +kernel) (own := RX7) rfl (Nat.le_of_ble_eq_true rfl) hst ?_
  intro p e s m args below meth c C hname
  change J p l e rmX7_sampleIndex s m args below meth c 2 G b _ 0 [(0, .int i), (1, .int r)] [] S 0 0
  refine r_iconst (v := 2) (n := 1) C dX7_sampleIndex_0 rfl rfl ?_
  refine r_iload_n (i := 0) (n := 2) C dX7_sampleIndex_1 rfl rfl rfl ?_
  refine r_imul (n := 3) C dX7_sampleIndex_2 rfl ?_
  refine r_iload_n (i := 1) (n := 4) C dX7_sampleIndex_3 rfl rfl rfl ?_
  refine r_if_eq (n := 7) (t := 11) C dX7_sampleIndex_4 (by decide) rfl (fun h4 => ?_) (fun h4 => ?_)
  · refine r_iconst (v := 0) (n := 12) C dX7_sampleIndex_11 rfl rfl ?_
    refine r_iadd (n := 13) C dX7_sampleIndex_12 rfl ?_
    refine t_i C rfl dX7_sampleIndex_13 (by decide) ?_
    exact ⟨rfl, by simp_all⟩
  · refine r_iconst (v := 1) (n := 8) C dX7_sampleIndex_7 rfl rfl ?_
    refine r_goto (t := 12) C dX7_sampleIndex_8 (by decide) ?_
    refine r_iadd (n := 13) C dX7_sampleIndex_12 rfl ?_
    refine t_i C rfl dX7_sampleIndex_13 (by decide) ?_
    exact ⟨rfl, by simp_all⟩
set_option maxRecDepth 100000 in
set_option maxHeartbeats 4000000 in
theorem c_X7_slotOf {l : Launch} {G : GG} {b : Nat} (hst : l.stackTraces = false) (S : Sw) (i : Int32) : Ct l G b yX7_slotOf cX7_slotOf 1 (some .int) rmX7_slotOf mI [.int i] S (fun x S' => S' = S ∧ x = jFm i 4) := by
  refine Ct.of2 (by decide +kernel) (own := RX7) rfl (Nat.le_of_ble_eq_true rfl) hst ?_
  intro p e s m args below meth c C hname
  change J p l e rmX7_slotOf s m args below meth c 1 G b _ 0 [(0, .int i)] [] S 0 0
  refine r_iload_n (i := 0) (n := 1) C dX7_slotOf_0 rfl rfl rfl ?_
  refine r_iconst (v := 4) (n := 2) C dX7_slotOf_1 rfl rfl ?_
  refine kX7_238 (n := 5) C (c_fm hst S i 4 (by decide)) (by decide) (by decide) (by decide) dX7_slotOf_2 rfl (fun r S1 hp => ?_)
  refine t_i C rfl dX7_slotOf_5 (by decide) ?_
  exact hp
