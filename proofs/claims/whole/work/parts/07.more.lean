section MOR
variable {p : Program} {l : Launch} {e : Env} {R : Room} {s : State} {m : MethodId} {args : Array Value} {below : List Frame} {meth : Method} {c : Code} {Q : State → Prop} {cc : ByteArray} {nL : Nat} {own : String} {ret : Option FieldType} {G : GG} {b : Nat} {pc : Nat} {lv : List (Nat × Value)} {st : List Value} {S : Sw} {cells slots : Nat}
theorem map_mem {α β : Type} {f g : α → β} : ∀ {l : List α}, l.map f = l.map g → ∀ q ∈ l, f q = g q
  | [], _, q, h => nomatch h
  | a :: l, e, q, h => by
    simp only [List.map_cons, List.cons.injEq] at e
    rcases List.mem_cons.mp h with rfl | h
    · exact e.1
    · exact map_mem e.2 q h
theorem J.to {lv' : List (Nat × Value)} (h : lv'.map (fun q => lv.lookup q.1) = lv'.map (fun q => some q.2)) (k : J p l e R s m args below meth c nL G b Q pc lv' st S cells slots) : J p l e R s m args below meth c nL G b Q pc lv st S cells slots := J.sub (fun q hq => map_mem h q hq) k
theorem Hd.grow {H H1 : Heap} (h : Hd G b S H) (hq : ∀ q : Nat, q < H.size → H1[q]? = H[q]?) : Hd G b S H1 := by
  obtain ⟨L, hP, hD, hL⟩ := h
  exact ⟨L, hP.kept (fun k q hk => hq q.1 ((hP k q hk).lt)), hD, hL⟩
/-! ===== throwing ===== -/
def XNm : List String := ["java/lang/RuntimeException", "java/lang/Exception"]
theorem at_all {ic : Nat} {X : String} (h : (vx_atS RX7 ic X XNm).all (fun w => decide (w ∈ lw_tbl) && (goodWord w || isB w)) = true) : ∀ w ∈ vx_atS RX7 ic X XNm, w ∈ TB ∨ w ∈ BW := fun w hw => by
  have h2 := List.all_eq_true.mp h w hw
  simp only [Bool.and_eq_true, decide_eq_true_eq, Bool.or_eq_true] at h2
  exact h2.2.elim (fun z => Or.inl (mem_tb h2.1 z)) (fun z => Or.inr (mem_bw h2.1 z))
theorem at_1 : ∀ w ∈ vx_atS RX7 65 "java/lang/IllegalArgumentException" XNm, w ∈ TB ∨ w ∈ BW := at_all (by decide +kernel)
theorem at_2 : ∀ w ∈ vx_atS RX7 76 "java/lang/IllegalStateException" XNm, w ∈ TB ∨ w ∈ BW := at_all (by decide +kernel)
theorem at_ot {w : Cond} (h : w ∈ TB ∨ w ∈ BW) : vx_ot w = true := by
  unfold vx_ot
  rcases h with h | h
  · rw [tb_good h, Bool.or_true]
  · rw [bw_on h, Bool.true_or]
theorem r_throw (C : Cx p l s m args meth c cc nL RX7 ret G b) {k ik is ic mc ms : Nat} {tx : String} {Qc : Array Value → State → Outcome → State → Prop} {px : Nat → Prop} (hno : ∀ x ∈ c.exceptionTable.toList, False) (hk : k = 1 ∨ k = 2) (hstr : (is, tx) ∈ STR) (hat : ∀ w ∈ vx_atS RX7 ic (EXn k) XNm, w ∈ TB ∨ w ∈ BW) (w1 : .classLink RX7 ik (EXn k) ∈ TB) (w2 : .initialized (EXn k) ∈ TB)
    (d0 : decode cc pc = .ok (.new ik, 3)) (d3 : decode cc (pc + 3) = .ok (.dup, 1)) (d4 : decode cc (pc + 4) = .ok (.ldc is, 2)) (d6 : decode cc (pc + 6) = .ok (.invokespecial ic, 3)) (d9 : decode cc (pc + 9) = .ok (.athrow, 1))
    (hR : 5 < R.frames ∧ cat st + 82 ≤ R.locals) (hr : cells + 1 ≤ R.cells ∧ slots + 6 ≤ R.slots) (hm : cells + 1 ≤ mc ∧ slots + 6 ≤ ms) (hx : px k) :
    J p l e R s m args below meth c nL G b (vx_MQ below Qc (XCp G b S px) args s mc ms (Ab b)) pc lv st S cells slots := by
  intro ls H locs h1 h2 h3
  obtain ⟨sa, hsa⟩ := C.fx.2.2.1 _ hstr
  have hfit : Bundle.fit (EXn k) = true := by rcases hk with rfl | rfl <;> decide
  have hw : ∀ w ∈ vx_atS RX7 ic (EXn k) XNm, w.before args s = true := fun w hw => (hat w hw).elim (fun h => C.w h) (fun h => C.bw h)
  refine vx_throwS (text := tx) (names := XNm) C.1 C.2.1 C.2.2.2.2.2.2.2.2 C.2.2.2.1 hfit (by decide) (C.w w1) (C.w w2) hsa hw ?_ C.fx.2.2.2.2.1 C.fx.2.2.2.2.2.1 h3 (h1.1.trans C.2.2.1.symm) d0 d3 d4 d6 d9 (fun x hx => (hno x hx).elim) hR.1 (by simpa [XNm, cat] using hR.2) hr.1 hr.2 C.2.2.2.2.2.2.1 ?_ h3.2.2 hm.1 hm.2
  · intro w hw
    rcases List.mem_cons.mp hw with rfl | hw
    · exact at_ot (Or.inl w1)
    · rcases List.mem_cons.mp hw with rfl | hw
      · exact at_ot (Or.inl w2)
      · exact at_ot (hat w hw)
  · intro t hv hz hq
    exact ⟨⟨k, hk, rfl, hx, h2.grow hq⟩, Nat.le_trans h3.1 hz, fun q h4 h5 => by rw [hq q (Nat.lt_of_lt_of_le h4 h3.1)]; exact h3.2.1 q h4 h5⟩
/-- the goal where k has been thrown over this frame -/
def JX (p : Program) (l : Launch) (e : Env) (R : Room) (s : State) (m : MethodId) (args : Array Value) (below : List Frame) (meth : Method) (c : Code) (nL : Nat) (G : GG) (b : Nat) (Q : State → Prop) (k pc : Nat) (lv : List (Nat × Value)) (st : List Value) (S : Sw) (cells slots : Nat) : Prop :=
  ∀ (ls : Array Slot) (H : Heap) (locs : List Loc) (ce : Cell) (q : Addr), lv_has ls nL lv → Hd G b S H → va_S (Ab b) s.heap H locs → H[q]? = some ce → ce.vm = .none → s.vm.findClass (EXn k) = some ce.cls → vx_W p l e R s m args below meth c H locs cells slots Q (F0 m pc ls st) q
theorem JX.out (C : Cx p l s m args meth c cc nL own ret G b) {k mc ms : Nat} {Qc : Array Value → State → Outcome → State → Prop} {px : Nat → Prop} (hno : ∀ x ∈ c.exceptionTable.toList, False) (hk : k = 1 ∨ k = 2) (hm : cells ≤ mc ∧ slots ≤ ms) (hx : px k) :
    JX p l e R s m args below meth c nL G b (vx_MQ below Qc (XCp G b S px) args s mc ms (Ab b)) k pc lv st S cells slots := fun ls H locs ce q h1 h2 h3 h4 h5 h6 =>
  vx_out (fun x hx => (hno x hx).elim) C.2.2.2.2.2.2.1 h4 h5 h6 (fun t ht hv => ⟨⟨k, hk, rfl, hx, by rw [ht]; exact h2⟩, h3.F ht⟩) h3.2.2 hm.1 hm.2
theorem J.runx {n mc ms : Nat} {rest st0 : List Value} {α : Type} {mk : α → Option Value} {post : α → Sw → Prop} {px : Nat → Prop} {av : Array Value} (hr : ∀ (ls : Array Slot) (H : Heap) (locs : List Loc), lv_has ls nL lv → Hd G b S H → va_S (Ab b) s.heap H locs → vx_Run p l e R s m args below meth c H locs cells slots mc ms (F0 m pc ls st0) rest (Qp G b mk post av) (XCp G b S px) (Ab b))
    (hn : pc + 3 = n) (kx : ∀ k, k = 1 ∨ k = 2 → px k → JX p l e R s m args below meth c nL G b Q k pc lv rest S (cells + mc) (slots + ms)) (kk : ∀ (v : α) (S' : Sw), post v S' → J p l e R s m args below meth c nL G b Q n lv ((mk v).toList ++ rest) S' (cells + mc) (slots + ms)) : J p l e R s m args below meth c nL G b Q pc lv st0 S cells slots := by
  subst hn
  intro ls H locs h1 h2 h3 T hT X
  rcases hr ls H locs h1 h2 h3 T hT X with ⟨v, st₀, t, T', L, e0, X', hL, e1, e2, ⟨⟨r, S', hv, hp, hH⟩, hF⟩, go⟩ | ⟨q, st₀, t, T', L, E, ce, e0, X', hL, e1, e2, ⟨⟨k, hk, rfl, hp, hH⟩, hF⟩, hce, hcv, hcl, go⟩
  · cases hv
    obtain ⟨k1, k2, k3⟩ := vx_keep e0 e1 h3 (fun _ _ h => h) (fun _ h => h) hL hF
    obtain ⟨t2, a1, b1⟩ := kk r S' hp ls T'.heap (locs ++ L) h1 (by rw [e1]; exact hH) k3 T' rfl X'
    exact ⟨t2, go t2 a1, b1⟩
  · obtain ⟨k1, k2, k3⟩ := vx_keep e0 e1 h3 (fun _ _ h => h) (fun _ h => h) hL hF
    obtain ⟨t2, a1, b1⟩ := kx k hk hp ls T'.heap (locs ++ L) ce q h1 (by rw [e1]; exact hH) k3 (by rw [e1]; exact hce) hcv hcl T' rfl X'
    exact ⟨t2, go.trans a1, b1⟩
theorem r_callVx (C : Cx p l s m args meth c cc nL own ret G b) {n index nL' k a ci N : Nat} {Cn : String} {T : u_T} {fs : List Value} {y : MethodName} {cc' : ByteArray} {ret' : Option FieldType} {rm : Room} {av rest : List Value} {α : Type} {mk : α → Option Value} {post : α → Sw → Prop} {px : Nat → Prop} (hM : Cth l G b y cc' nL' ret' rm mk (.ref a :: av) S post px)
    (hK : sK S a ≠ 0) (he : ent G S a = .inr (ci, fs)) (hc : vwCl[ci]? = some (Cn, T, N)) (hC : y.cls = Cn)
    (w : .methodLink own index y ∈ TB ∧ .instanceMethod y ∈ TB ∧ .selects Cn y y ∈ TB ∧ .initialized Cn ∈ TB ∧ .code y cc' nL' ret' ∈ TB) (hd : dOk y k) (hR : rm.frames + 1 ≤ R.frames ∧ 8 + (nL' + 11) + rm.locals ≤ R.locals) (hf : cells + rm.cells ≤ R.cells ∧ slots + rm.slots ≤ R.slots) (hk : av.length = k) (hcat : cat rest ≤ 8) (hs : av.reverse ++ .ref a :: rest = st) (d : decode cc pc = .ok (.invokevirtual index, 3)) (hn : pc + 3 = n)
    (kx : ∀ k, k = 1 ∨ k = 2 → px k → JX p l e R s m args below meth c nL G b Q k pc lv rest S (cells + rm.cells) (slots + rm.slots))
    (kk : ∀ (v : α) (S' : Sw), post v S' → J p l e R s m args below meth c nL G b Q n lv ((mk v).toList ++ rest) S' (cells + rm.cells) (slots + rm.slots)) : J p l e R s m args below meth c nL G b Q pc lv st S cells slots := by
  subst hs
  refine J.runx (av := (Value.ref a :: av).toArray) (fun ls H locs h1 h2 h3 => ?_) hn kx kk
  exact vx_runV C.fix hM (cwV k C.2.2.2.2.1 (tb_inT (all_c w.1 (all_c w.2.1 (all_c w.2.2.1 (all_c w.2.2.2.1 (all_c w.2.2.2.2 all_tb)))))) rfl rfl rfl ⟨hC, hd⟩ hR) (C.preV h2 h3 hK he hc) rfl hk h1.1 rfl (lv_room hcat) d hf
theorem r_callSx (C : Cx p l s m args meth c cc nL own ret G b) {n index nL' k : Nat} {y : MethodName} {cc' : ByteArray} {ret' : Option FieldType} {rm : Room} {av rest : List Value} {α : Type} {mk : α → Option Value} {post : α → Sw → Prop} {px : Nat → Prop} (hM : Cth l G b y cc' nL' ret' rm mk av S post px)
    (w : .methodLink own index y ∈ TB ∧ .static y ∈ TB ∧ .initialized y.cls ∈ TB ∧ .code y cc' nL' ret' ∈ TB) (hd : dOk y k) (hR : rm.frames + 1 ≤ R.frames ∧ 8 + (nL' + 11) + rm.locals ≤ R.locals) (hf : cells + rm.cells ≤ R.cells ∧ slots + rm.slots ≤ R.slots) (hk : av.length = k) (hcat : cat rest ≤ 8) (hs : av.reverse ++ rest = st) (d : decode cc pc = .ok (.invokestatic index, 3)) (hn : pc + 3 = n)
    (kx : ∀ k, k = 1 ∨ k = 2 → px k → JX p l e R s m args below meth c nL G b Q k pc lv rest S (cells + rm.cells) (slots + rm.slots))
    (kk : ∀ (v : α) (S' : Sw), post v S' → J p l e R s m args below meth c nL G b Q n lv ((mk v).toList ++ rest) S' (cells + rm.cells) (slots + rm.slots)) : J p l e R s m args below meth c nL G b Q pc lv st S cells slots := by
  subst hs
  refine J.runx (av := av.toArray) (fun ls H locs h1 h2 h3 => ?_) hn kx kk
  exact vx_runS C.fix hM (va_cwS k C.2.2.2.2.1 (tb_inT (all_c w.1 (all_c w.2.1 (all_c w.2.2.1 (all_c w.2.2.2 all_tb))))) rfl rfl rfl hd hR) (C.preS h2 h3) rfl hk h1.1 rfl (lv_room hcat) d hf
/-! ===== is it one ===== -/
theorem cell_of (C : Cx p l s m args meth c cc nL own ret G b) {H : Heap} {a ci : Nat} {q : vw_C} {fs : List Value} (h2 : Hd G b S H) (hK : sK S a ≠ 0) (he : ent G S a = .inr (ci, fs)) (hc : vwCl[ci]? = some q) : ∃ cell : Cell, H[a]? = some cell ∧ cell.vm.isStatics = false ∧ s.vm.findClass q.1 = some cell.cls := by
  obtain ⟨ws, k, hP, hD, hq, -, -⟩ := h2.at hK
  rw [he] at hq
  exact va_recv C.K hP hc hq
theorem r_instY (C : Cx p l s m args meth c cc nL own ret G b) {n a ci index : Nat} {q : vw_C} {fs : List Value} (w : .classLink own index q.1 ∈ TB) (w2 : .castable q.1 q.1 ∈ BW) (hK : sK S a ≠ 0) (he : ent G S a = .inr (ci, fs)) (hc : vwCl[ci]? = some q) (d : decode cc pc = .ok (.instanceof index, 3)) (hn : pc + 3 = n)
    (kk : J p l e R s m args below meth c nL G b Q n lv (.int 1 :: st) S cells slots) : J p l e R s m args below meth c nL G b Q pc lv (.ref a :: st) S cells slots := by
  subst hn
  intro ls H locs h1 h2 h3
  exact va_instY C.1 C.2.1 C.2.2.2.1 (C.w w) (C.fx.2.1 _ w2) (cell_of C h2 hK he hc) d (kk ls H locs h1 h2 h3)
theorem r_instNo (C : Cx p l s m args meth c cc nL own ret G b) {n a ci index : Nat} {q : vw_C} {nm : String} {fs : List Value} (w : .classLink own index nm ∈ TB) (w2 : (q.1, nm) ∈ NCL) (hK : sK S a ≠ 0) (he : ent G S a = .inr (ci, fs)) (hc : vwCl[ci]? = some q) (d : decode cc pc = .ok (.instanceof index, 3)) (hn : pc + 3 = n)
    (kk : J p l e R s m args below meth c nL G b Q n lv (.int 0 :: st) S cells slots) : J p l e R s m args below meth c nL G b Q pc lv (.ref a :: st) S cells slots := by
  subst hn
  intro ls H locs h1 h2 h3
  exact va_instNo C.1 C.2.1 C.2.2.2.1 (C.w w) (C.fx.2.2.2.1 _ w2) (cell_of C h2 hK he hc) d (kk ls H locs h1 h2 h3)
theorem r_castY (C : Cx p l s m args meth c cc nL own ret G b) {n a ci index : Nat} {q : vw_C} {fs : List Value} (w : .classLink own index q.1 ∈ TB) (w2 : .castable q.1 q.1 ∈ BW) (hK : sK S a ≠ 0) (he : ent G S a = .inr (ci, fs)) (hc : vwCl[ci]? = some q) (d : decode cc pc = .ok (.checkcast index, 3)) (hn : pc + 3 = n)
    (kk : J p l e R s m args below meth c nL G b Q n lv (.ref a :: st) S cells slots) : J p l e R s m args below meth c nL G b Q pc lv (.ref a :: st) S cells slots := by
  subst hn
  intro ls H locs h1 h2 h3
  exact va_castY C.1 C.2.1 C.2.2.2.1 (C.w w) (C.fx.2.1 _ w2) (cell_of C h2 hK he hc) d (kk ls H locs h1 h2 h3)
/-! ===== the row of clients; copying; the rates ===== -/
theorem r_aastN (C : Cx p l s m args meth c cc nL own ret G b) {n a j : Nat} {i : Int32} (hK : sK S a = 13) (hi : i = nI j) (hj : j < aN S a) (hb : aN S a < 2 ^ 31) (d : decode cc pc = .ok (.aastore, 1)) (hn : pc + 1 = n)
    (kk : J p l e R s m args below meth c nL G b Q n lv st (wR S a j none) cells slots) : J p l e R s m args below meth c nL G b Q pc lv (.null :: .int i :: .ref a :: st) S cells slots := by
  subst hn; subst hi
  intro ls H locs h1 h2 h3
  obtain ⟨ws, q, hP, hD, hq, hset, -⟩ := h2.at (by rw [hK]; decide : sK S a ≠ 0)
  rw [ent_13 hK] at hq
  refine va_astqN C.1 C.2.1 C.K hP hD h3 q 4 hq rfl (vp_in_nI hj hb) d (fun H1 locs1 g1 g2 g3 => kk ls H1 locs1 h1 (hset _ H1 _ g1 g2 ?_ wR_ne (fun _ h => h)) g3)
  rw [ent_13 (show sK (wR S a j none) a = 13 from hK), nI_clamp (by omega)]
  refine congrArg (fun f => Sum.inl (G.2 4, aN S a, Sum.inr (Sum.inr (Sum.inr (Sum.inr f))))) (funext fun k => ?_)
  show (if a = a ∧ k = j then none else aR S a k) = va_up (aR S a) j none k
  simp [va_up]
theorem Hd.at2 {H : Heap} {a v : Nat} (h : Hd G b S H) (ha : sK S a ≠ 0) (hv : sK S v ≠ 0) : ∃ (ws : va_W) (k k2 : Nat), va_P G.1 vwCl ws H ∧ va_D (Ab b) ws ∧ ws[k]? = some (a, ent G S a) ∧ ws[k2]? = some (v, ent G S v) ∧
    (∀ (S' : Sw) (H1 : Heap) (e : va_E), va_P G.1 vwCl (ws.set k (a, e)) H1 → va_D (Ab b) (ws.set k (a, e)) → ent G S' a = e → (∀ x, x ≠ a → ent G S' x = ent G S x) → (∀ x, sK S' x ≠ 0 → sK S x ≠ 0) → Hd G b S' H1) := by
  obtain ⟨L, hP, hD, hL⟩ := h
  obtain ⟨k, hk⟩ := va_pl_get (X := []) (f := ent G S) (hL a ha)
  obtain ⟨k2, hk2⟩ := va_pl_get (X := []) (f := ent G S) (hL v hv)
  refine ⟨va_pl L (ent G S), k, k2, hP, hD, hk, hk2, ?_⟩
  intro S' H1 e hP1 hD1 he hx hK
  have hs : (va_pl L (ent G S)).set k (a, e) = va_pl L (ent G S') := by
    rw [show (va_pl L (ent G S)).set k (a, e) = va_pl L (va_up (ent G S) a e) from va_pl_set (X := []) hD (hL a ha) hk]
    refine va_pl_congr (fun z => ?_)
    by_cases hz : z = a
    · subst hz; rw [va_up_self]; exact he.symm
    · rw [va_up_ne _ _ hz]; exact (hx z hz).symm
  rw [hs] at hP1 hD1
  exact ⟨L, hP1, hD1, fun z hz => hL z (hK z hz)⟩
theorem r_aastC (C : Cx p l s m args meth c cc nL own ret G b) {n a j v ci : Nat} {q : vw_C} {fs : List Value} {i : Int32} (hK : sK S a = 13) (hi : i = nI j) (hj : j < aN S a) (hb : aN S a < 2 ^ 31) (hv : sK S v ≠ 0) (he : ent G S v = .inr (ci, fs)) (hc : vwCl[ci]? = some q) (w : .castable q.1 "SoundKernel$Client" ∈ BW) (d : decode cc pc = .ok (.aastore, 1)) (hn : pc + 1 = n)
    (kk : J p l e R s m args below meth c nL G b Q n lv st (wR S a j (some v)) cells slots) : J p l e R s m args below meth c nL G b Q pc lv (.ref v :: .int i :: .ref a :: st) S cells slots := by
  subst hn; subst hi
  intro ls H locs h1 h2 h3
  obtain ⟨ws, q0, q1, hP, hD, hq, hq1, hset⟩ := h2.at2 (by rw [hK]; decide : sK S a ≠ 0) hv
  rw [ent_13 hK] at hq
  rw [he] at hq1
  refine va_astqO C.1 C.2.1 C.K hP hD h3 q0 4 q1 ci hq rfl (C.fx.2.1 _ w) hq1 hc (vp_in_nI hj hb) d (fun H1 locs1 g1 g2 g3 => kk ls H1 locs1 h1 (hset _ H1 _ g1 g2 ?_ wR_ne (fun _ h => h)) g3)
  rw [ent_13 (show sK (wR S a j (some v)) a = 13 from hK), nI_clamp (by omega)]
  refine congrArg (fun f => Sum.inl (G.2 4, aN S a, Sum.inr (Sum.inr (Sum.inr (Sum.inr f))))) (funext fun k => ?_)
  show (if a = a ∧ k = j then some v else aR S a k) = va_up (aR S a) j (some v) k
  simp [va_up]
theorem r_copy (C : Cx p l s m args meth c cc nL own ret G b) {n a a0 index k : Nat} {len : Int32} (w : .methodLink own index arraycopyName ∈ TB ∧ .native arraycopyName ∈ TB ∧ .static arraycopyName ∈ TB ∧ .initialized "java/lang/System" ∈ TB) (hK0 : sK S a0 = 9) (hK : sK S a = 9) (hl : len = nI k) (hk : k < 2 ^ 31) (h0 : k ≤ aN S a0) (h1 : k = aN S a)
    (hR : 1 ≤ R.frames ∧ cat st + (nativeFrameWords "java/lang/System" "arraycopy" 5 + 11) ≤ R.locals) (d : decode cc pc = .ok (.invokestatic index, 3)) (hn : pc + 3 = n)
    (kk : J p l e R s m args below meth c nL G b Q n lv st (wIs S a (fun i => if i < k then aI S a0 i else aI S a i)) cells slots) : J p l e R s m args below meth c nL G b Q pc lv (.int len :: .int 0 :: .ref a :: .int 0 :: .ref a0 :: st) S cells slots := by
  subst hn; subst hl
  intro ls H locs g1 g2 g3
  obtain ⟨ws, q1, q0, hP, hD, hq, hq1, hset⟩ := g2.at2 (by rw [hK]; decide : sK S a ≠ 0) (by rw [hK0]; decide : sK S a0 ≠ 0)
  rw [ent_9 hK] at hq
  rw [ent_9 hK0] at hq1
  have hcl : (nI k).toNatClampNeg = k := nI_clamp hk
  have hz : (0 : Int32).toNatClampNeg = 0 := by decide
  refine va_copyi (ty := .int) C.1 C.2.1 (C.2.2.1.trans g1.1.symm) C.2.2.2.1 (C.w w.1) (C.w w.2.1) (C.w w.2.2.1) (C.w w.2.2.2) C.K hP hD g3 q0 q1 0 0 hq1 hq rfl rfl rfl (by decide) (by decide) (nI_pos hk) (by rw [hcl, hz]; omega) (by rw [hcl, hz]; omega) (fun i hi => rfl) hR.1 hR.2 d (fun H1 locs1 j1 j2 j3 => kk ls H1 locs1 g1 (hset _ H1 _ j1 j2 ?_ wIs_ne (fun _ h => h)) j3)
  rw [ent_9 (show sK (wIs S a (fun i => if i < k then aI S a0 i else aI S a i)) a = 9 from hK)]
  refine congrArg (fun f => Sum.inl (G.2 0, aN S a, Sum.inl f)) (funext fun i => ?_)
  show (if a = a then (if i < k then aI S a0 i else aI S a i) else aI S a i) = va_cpy (aI S a0) (aI S a) (0 : Int32).toNatClampNeg (0 : Int32).toNatClampNeg (nI k).toNatClampNeg i
  rw [hcl, hz]
  simp [va_cpy]
theorem r_rates (C : Cx p l s m args meth c cc nL RX7 ret G b) {n index : Nat} (w : .fieldLink RX7 index "SoundKernel" "RATES" "[I" ∈ TB) (d : decode cc pc = .ok (.getstatic index, 3)) (hn : pc + 3 = n)
    (kk : ∀ t, va_T .int t 7 rts (Ab b) s s.heap → J p l e R s m args below meth c nL G b Q n lv (.ref t :: st) S cells slots) : J p l e R s m args below meth c nL G b Q pc lv st S cells slots := by
  subst hn
  intro ls H locs h1 h2 h3
  obtain ⟨t, hZ, hT⟩ := C.fx.2.2.2.2.2.2.1
  exact va_gets C.1 C.2.1 hZ h3 C.2.2.2.1 (C.w w) (fun _ h => h) d (kk t hT ls H locs h1 h2 h3)
theorem r_rlen (C : Cx p l s m args meth c cc nL own ret G b) {n t : Nat} (hT : va_T .int t 7 rts (Ab b) s s.heap) (d : decode cc pc = .ok (.arraylength, 1)) (hn : pc + 1 = n)
    (kk : J p l e R s m args below meth c nL G b Q n lv (.int 7 :: st) S cells slots) : J p l e R s m args below meth c nL G b Q pc lv (.ref t :: st) S cells slots := by
  subst hn
  intro ls H locs h1 h2 h3
  exact va_tlen C.1 C.2.1 hT h3 rfl d (kk ls H locs h1 h2 h3)
theorem r_rald (C : Cx p l s m args meth c cc nL own ret G b) {n t j : Nat} {i : Int32} {v : Int32} (hT : va_T .int t 7 rts (Ab b) s s.heap) (hi : i = nI j) (hj : j < 7) (hv : rts j = .int v) (d : decode cc pc = .ok (.iaload, 1)) (hn : pc + 1 = n)
    (kk : J p l e R s m args below meth c nL G b Q n lv (.int v :: st) S cells slots) : J p l e R s m args below meth c nL G b Q pc lv (.int i :: .ref t :: st) S cells slots := by
  subst hn; subst hi
  intro ls H locs h1 h2 h3
  exact va_ti C.1 C.2.1 hT h3 (vp_in_nI hj (by decide)) (by rw [nI_clamp (by omega)]; exact hv) d (kk ls H locs h1 h2 h3)
end MOR
