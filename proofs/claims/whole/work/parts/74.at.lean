def R_law : String := "SoundKernelLaw"
def lw_P (b : Addr) (xs : List Int32) (args : Array Value) (s : State) : Prop := args = #[.ref b] ∧ s.IntsAt b xs ∧ xs.length ≤ 2560 ∧ (Jvm.Cond.and given_1 narrow_1).before args s = true
def lw_Q (_ : Array Value) (s : State) (o : Outcome) (t : State) : Prop := o = .returned (some (.int 1)) ∧ Framed s o t [] 601024 7293034
def lw_Z (below : List Frame) (a : Array Value) (s : State) : State → Prop := fun t => ∃ o, t.status = .running ∧ Ended t below o ∧ lw_Q a s o t
/-- the law's own end, with 1 on the stack, nothing written that was there before, its room as the claim has it -/
theorem lw_ret {p : Program} {l : Launch} {e : Env} {s : State} {m : MethodId} {below : List Frame} {meth : Method} {c : Code} {b : Nat} (hx : p.tables.exec = Jvm.exec) (hb : c.code = code) (hr : meth.sig.returnType = ret) (hlocks : meth.locks = false) {pc : Nat} {H : Heap} {ls : Array Slot} (hdg : decode code pc = .ok (.ireturn, 1)) : W p l e room_1 s m #[Value.ref b] below meth c H [] 601024 7293034 (lw_Z below #[Value.ref b] s) (F0 m pc ls [.int 1]) := by
  intro T hT X
  obtain ⟨fs, hret, hrun, hended, hW, hframe⟩ := X.leave (v := some (.int 1)) (hlocks := hlocks) (fun h => by rw [hr] at h; cases h)
  have hmeth' : T.vm.method? m = some meth := X.method'
  refine ⟨T.setFrames fs, ?_, .returned (some (.int 1)), hrun, hended, rfl, ⟨_, rfl⟩, hW, hframe⟩
  jvm_step X.here [X.here.top, hx, hb, hdg, hmeth', hr, ret, narrow_b1]
  (try refine ⟨rfl, ?_⟩); (try refine ⟨rfl, ?_⟩)
  first | (intro acts; rw [hret _ acts rfl rfl rfl]) | rw [hret _ _ rfl rfl rfl]
  exact Steps.refl _
/-- what holds at the law's entry: the machine, the code, the tables' words (any of lw_tbl by 'hts w (by decide +kernel)'), the script of L ints xs at the cell b, what the Statement gives of the start (any of its parts by flat_of_before) -/
def lw_At (p : Program) (s : State) (m : MethodId) (meth : Method) (c : Code) (b L : Nat) (xs : Nat → Int32) : Prop :=
  p.tables.exec = Jvm.exec ∧ c.code = code ∧ meth.sig.returnType = ret ∧ c.maxLocals = 9 ∧ s.vm.findClass R_law = some m.cls ∧ (∀ w ∈ lw_tbl, w.before #[Value.ref b] s = true) ∧ va_X b L xs s s.heap ∧ b < s.heap.size ∧ meth.locks = false ∧ (Jvm.Cond.and given_1 narrow_1).before #[Value.ref b] s = true
/-! ===== what holds all along holds at the entry ===== -/
theorem known8 {s : State} {args : Array Value} (hts : ∀ w ∈ lw_tbl, w.before args s = true) : ∃ D : va_G, ∀ (k : Nat) (q : vw_C), vwCl[k]? = some q → u_Kn s q.1 q.2.1 q.2.2 (D.1 k) (D.2 k) := by
  have ht : ∀ w ∈ TB, w.before args s = true := fun w h => hts w (List.mem_filter.mp h).1
  obtain ⟨c1, i1, h1⟩ := u_known (C := RX1) (T := TX1) (N := 3) (n := 3) ht inb_1 (hts (.instantiable RX1 3) (mem_tbl 402 (by decide +kernel)))
  obtain ⟨c2, i2, h2⟩ := u_known (C := RX2) (T := TX2) (N := 3) (n := 3) ht inb_2 (hts (.instantiable RX2 3) (mem_tbl 384 (by decide +kernel)))
  obtain ⟨c3, i3, h3⟩ := u_known (C := RX3) (T := TX3) (N := 4) (n := 4) ht inb_3 (hts (.instantiable RX3 4) (mem_tbl 47 (by decide +kernel)))
  obtain ⟨c4, i4, h4⟩ := u_known (C := RX4) (T := TX4) (N := 10) (n := 10) ht inb_4 (hts (.instantiable RX4 10) (mem_tbl 254 (by decide +kernel)))
  obtain ⟨c5, i5, h5⟩ := u_known (C := RX5) (T := TX5) (N := 15) (n := 15) ht inb_5 (hts (.instantiable RX5 15) (mem_tbl 127 (by decide +kernel)))
  obtain ⟨c6, i6, h6⟩ := u_known (C := RX6) (T := TX6) (N := 1) (n := 1) ht inb_6 (hts (.instantiable RX6 1) (mem_tbl 27 (by decide +kernel)))
  obtain ⟨c7, i7, h7⟩ := u_known (C := RX7) (T := TX7) (N := 11) (n := 11) ht inb_7 (hts (.instantiable RX7 11) (mem_tbl 19 (by decide +kernel)))
  obtain ⟨c8, i8, h8⟩ := u_known (C := RX8) (T := TX8) (N := 40) (n := 40) ht inb_8 (hts (.instantiable RX8 40) (mem_tbl 741 (by decide +kernel)))
  refine ⟨(fun k => match k with | 0 => c1 | 1 => c2 | 2 => c3 | 3 => c4 | 4 => c5 | 5 => c6 | 6 => c7 | _ => c8, fun k => match k with | 0 => i1 | 1 => i2 | 2 => i3 | 3 => i4 | 4 => i5 | 5 => i6 | 6 => i7 | _ => i8), ?_⟩
  intro k q hq
  match k, hq with
  | 0, hq => cases hq; exact h1
  | 1, hq => cases hq; exact h2
  | 2, hq => cases hq; exact h3
  | 3, hq => cases hq; exact h4
  | 4, hq => cases hq; exact h5
  | 5, hq => cases hq; exact h6
  | 6, hq => cases hq; exact h7
  | 7, hq => cases hq; exact h8
  | k + 8, hq => simp [vwCl] at hq
theorem arrC {s : State} {args : Array Value} {ty : FieldType} (h : (Cond.arrayClass ty).before args s = true) : ∃ c : ClassId, ArrOfT s c ty ∧ s.vm.findClass ("[" ++ ty.toString) = some c := by
  obtain ⟨c, k, comp, h1, h2, h3⟩ := Cond.arrayClass_spec h
  exact ⟨c, fun N z => ⟨(fun k h => by cases h), k, h2, comp, h3⟩, h1⟩
theorem known6 {s : State} {args : Array Value} (hts : ∀ w ∈ lw_tbl, w.before args s = true) : ∃ g : Nat → ClassId, ∀ (D : va_G) (k : Nat) (q : ClassId × FieldType), (tyl (D, g))[k]? = some q → ArrOfT s q.1 q.2 ∧ va_RA s q.1 q.2 := by
  obtain ⟨c0, a0, r0⟩ := arrC (hts (.arrayClass .int) (mem_tbl 45 (by decide +kernel)))
  obtain ⟨c1, a1, r1⟩ := arrC (hts (.arrayClass .boolean) (mem_tbl 871 (by decide +kernel)))
  obtain ⟨c2, a2, r2⟩ := arrC (hts (.arrayClass .long) (mem_tbl 1081 (by decide +kernel)))
  obtain ⟨c3, a3, r3⟩ := arrC (hts (.arrayClass .double) (mem_tbl 872 (by decide +kernel)))
  obtain ⟨o4, c4, k4, f1, f2, f3, f4, f5⟩ := Cond.arrayOver_spec (hts (.arrayOver (.object "SoundKernel$Client")) (mem_tbl 69 (by decide +kernel)))
  obtain ⟨o5, c5, k5, e1, e3, e4, e5⟩ := Cond.arrayOver_specA (hts (.arrayOver (.array .int)) (mem_tbl 71 (by decide +kernel)))
  refine ⟨fun k => match k with | 0 => c0 | 1 => c1 | 2 => c2 | 3 => c3 | 4 => c4 | _ => c5, ?_⟩
  intro D k q hq
  match k, hq with
  | 0, hq => cases hq; exact ⟨a0, r0⟩
  | 1, hq => cases hq; exact ⟨a1, r1⟩
  | 2, hq => cases hq; exact ⟨a2, r2⟩
  | 3, hq => cases hq; exact ⟨a3, r3⟩
  | 4, hq => cases hq; exact ⟨fun N z => ⟨(fun k h => by cases h), k4, f3, o4, f4⟩, k4, o4, f3, f4, f1, f5⟩
  | 5, hq => cases hq; exact ⟨fun N z => ⟨(fun k h => by cases h), k5, e3, o5, e4⟩, e5⟩
  | k + 6, hq => simp [tyl] at hq
theorem fx_str {s : State} {b : Nat} (hts : ∀ w ∈ lw_tbl, w.before #[Value.ref b] s = true) (hgv : ∀ w ∈ flatC (Jvm.Cond.and given_1 narrow_1), w.before #[Value.ref b] s = true) : ∀ q ∈ STR, ∃ a, vk_R "SoundKernel" q.1 q.2 a s := by
  have one : ∀ (k : Nat) (tx : String), Cond.stringRef "SoundKernel" k tx ∈ lw_tbl → Cond.exactly (.string "SoundKernel" k) "java/lang/String" ∈ flatC (Jvm.Cond.and given_1 narrow_1) → ∃ a, vk_R "SoundKernel" k tx a s := fun k tx h1 h2 => by
    obtain ⟨a, c, cA, kA, q1, -⟩ := Cond.exactly_spec (args := #[Value.ref b]) (first := s) (o := none) (s := s) (idx := []) (t := .string "SoundKernel" k) (cls := "java/lang/String") (hgv _ h2)
    exact ⟨a, vk_R.of (hts _ h1) q1⟩
  refine List.forall_mem_cons.mpr ⟨one _ _ (mem_tbl 329 (by decide +kernel)) (by decide +kernel), ?_⟩
  refine List.forall_mem_cons.mpr ⟨one _ _ (mem_tbl 369 (by decide +kernel)) (by decide +kernel), ?_⟩
  refine List.forall_mem_cons.mpr ⟨one _ _ (mem_tbl 541 (by decide +kernel)) (by decide +kernel), ?_⟩
  refine List.forall_mem_cons.mpr ⟨one _ _ (mem_tbl 550 (by decide +kernel)) (by decide +kernel), ?_⟩
  refine List.forall_mem_cons.mpr ⟨one _ _ (mem_tbl 590 (by decide +kernel)) (by decide +kernel), ?_⟩
  refine List.forall_mem_cons.mpr ⟨one _ _ (mem_tbl 595 (by decide +kernel)) (by decide +kernel), ?_⟩
  refine List.forall_mem_cons.mpr ⟨one _ _ (mem_tbl 634 (by decide +kernel)) (by decide +kernel), ?_⟩
  refine List.forall_mem_cons.mpr ⟨one _ _ (mem_tbl 688 (by decide +kernel)) (by decide +kernel), ?_⟩
  refine List.forall_mem_cons.mpr ⟨one _ _ (mem_tbl 699 (by decide +kernel)) (by decide +kernel), ?_⟩
  refine List.forall_mem_cons.mpr ⟨one _ _ (mem_tbl 738 (by decide +kernel)) (by decide +kernel), ?_⟩
  refine List.forall_mem_cons.mpr ⟨one _ _ (mem_tbl 528 (by decide +kernel)) (by decide +kernel), ?_⟩
  refine List.forall_mem_cons.mpr ⟨one _ _ (mem_tbl 540 (by decide +kernel)) (by decide +kernel), ?_⟩
  refine List.forall_mem_cons.mpr ⟨one _ _ (mem_tbl 623 (by decide +kernel)) (by decide +kernel), ?_⟩
  refine List.forall_mem_cons.mpr ⟨one _ _ (mem_tbl 561 (by decide +kernel)) (by decide +kernel), ?_⟩
  exact fun _ h => nomatch h
theorem fx_at {p : Program} {s : State} {m : MethodId} {meth : Method} {c : Code} {b L : Nat} {xs : Nat → Int32} (C0 : lw_At p s m meth c b L xs) : ∃ G : GG, Fx G s.heap.size s := by
  obtain ⟨hx, hb, hr, hml, hown, hts, hX, hbl, hlocks, hgv⟩ := id C0
  have hf := flat_of_before _ hgv
  have hA : ∀ a : Nat, a < s.heap.size → ¬ Ab s.heap.size a := fun a h => Nat.not_le.mpr h
  obtain ⟨D, hD⟩ := known8 hts
  obtain ⟨g, hg⟩ := known6 hts
  refine ⟨(D, g), ⟨hD, hg D⟩, fun w hw => va_Nw.of (bw_on hw) (hts w (List.mem_filter.mp hw).1), fx_str hts hf, ?_, ?_, ?_, ?_, ⟨va_AO.of (hts _ (mem_tbl 69 (by decide +kernel))), (show va_AOA .int s from hts (.arrayOver (.array .int)) (mem_tbl 71 (by decide +kernel)))⟩, Nat.le_refl _⟩
  · refine List.forall_mem_cons.mpr ⟨va_Nc.of (hf _ (by decide +kernel)), ?_⟩
    refine List.forall_mem_cons.mpr ⟨va_Nc.of (hf _ (by decide +kernel)), ?_⟩
    refine List.forall_mem_cons.mpr ⟨va_Nc.of (hf _ (by decide +kernel)), ?_⟩
    exact fun _ h => nomatch h
  · exact vx_Zqof (hts _ (mem_tbl 316 (by decide +kernel))) (hts _ (mem_tbl 6 (by decide +kernel))) (hf _ (by decide +kernel)) hA
  · exact vx_Zqof (hts _ (mem_tbl 318 (by decide +kernel))) (hts _ (mem_tbl 6 (by decide +kernel))) (hf _ (by decide +kernel)) hA
  · obtain ⟨t, h1, h2⟩ := va_Tof (tm := .static "SoundKernel" "RATES" "[I") (ty := .int) (N := 7) (f := rts) (A := Ab s.heap.size) (by decide) (hf _ (by decide +kernel)) (va_eqt (z := 7) (hf _ (by decide +kernel))) (fun j hj => by
      have q : j = 0 ∨ j = 1 ∨ j = 2 ∨ j = 3 ∨ j = 4 ∨ j = 5 ∨ j = 6 := by omega
      rcases q with rfl | rfl | rfl | rfl | rfl | rfl | rfl <;> exact va_eqt (hf _ (by decide +kernel))) hA
    exact ⟨t, va_Zref (hts _ (mem_tbl 288 (by decide +kernel))) (hts _ (mem_tbl 1 (by decide +kernel))) h1 hA, h2⟩
