section
variable {p : Program} {l : Launch} {e : Env} {R : Room} {s : State} {m : MethodId} {args : Array Value} {below : List Frame} {meth : Method} {c : Code} {cc : ByteArray} {nL : Nat} {own : String} {ret : Option FieldType} {G : GG} {b : Nat} {Q : State → Prop} {pc : Nat} {lv : List (Nat × Value)} {st : List Value} {S : Sw} {cells slots : Nat}
theorem na_13 (C : Cx p l s m args meth c cc nL own ret G b) {n N index : Nat} {z : Int32} (w1 : .classLink own index "SoundKernel$Client" ∈ TB) (hz : z = nI N) (hN : N < 2 ^ 25) (hr : cells + 1 ≤ R.cells ∧ slots + N ≤ R.slots) (d : decode cc pc = .ok (.anewarray index, 3)) (hn : pc + 3 = n)
    (kk : ∀ x : Nat, sK S x = 0 → b ≤ x → J p l e R s m args below meth c nL G b Q n lv (.ref x :: st) (nA S x 13 N) (cells + 1) (slots + N)) : J p l e R s m args below meth c nL G b Q pc lv (.int z :: st) S cells slots := by
  subst hn; subst hz
  intro ls H locs h1 h2 h3
  obtain ⟨ws, hP, hD, hall, hpush⟩ := h2.new
  refine va_newq C.1 C.2.1 C.2.2.2.1 (C.w w1) C.fx.2.2.2.2.2.2.2.1.1 C.K hP hD h3 (fun q hq => Nat.le_trans C.fx.2.2.2.2.2.2.2.2 hq) (nI_pos (by omega)) (nI_clamp (by omega)) (by omega) hr.1 hr.2 d (fun q cA H1 gK g1 g2 g3 => ?_)
  have hcA : cA = G.2 4 := by
    obtain ⟨_, _, _, _, _, e1⟩ := (gK.2 6 (cA, .object "SoundKernel$Client") rfl).2
    obtain ⟨_, _, _, _, _, e2⟩ := (C.K.2 4 (G.2 4, .object "SoundKernel$Client") rfl).2
    exact Option.some.inj (e1.symm.trans e2)
  subst hcA
  exact kk q (new_fresh hall g2) (new_zero g2) ls H1 locs h1 (hpush _ H1 q _ g1 g2 (by rw [ent_13 nA_k, nA_n, nA_R]) nA_ne nA_K) g3
def nG (S : Sw) (q : Nat) (r : Nat → Nat) (K : Nat) : Sw := (fun x => if x = q then 14 else if x ∈ [r 0, r 1, r 2, r 3] then 9 else sK S x, S.2.1, S.2.2.1, S.2.2.2.1, fun x => if x = q then 4 else if x ∈ [r 0, r 1, r 2, r 3] then K else aN S x, fun x i => if x ∈ [r 0, r 1, r 2, r 3] then 0 else aI S x i, fun x i => if x = q then (if i < 4 then some (r i) else none) else aR S x i, S.2.2.2.2.2.2.2)
theorem nG_q {q K : Nat} {r : Nat → Nat} : sK (nG S q r K) q = 14 := if_pos rfl
theorem nG_r {q K x : Nat} {r : Nat → Nat} (h1 : x ≠ q) (h2 : x ∈ [r 0, r 1, r 2, r 3]) : sK (nG S q r K) x = 9 := (if_neg h1).trans (if_pos h2)
theorem nG_o {q K x : Nat} {r : Nat → Nat} (h1 : x ≠ q) (h2 : x ∉ [r 0, r 1, r 2, r 3]) : smA S (nG S q r K) x := ⟨(if_neg h1).trans (if_neg h2), (if_neg h1).trans (if_neg h2), fun _ => rfl, fun _ => rfl, fun _ => rfl, fun _ => if_neg h2, fun _ => if_neg h1, fun _ => rfl, fun _ => rfl⟩
theorem ent_sm {S S' : Sw} {x : Nat} (h : smA S S' x) : ent G S' x = ent G S x := by
  have a1 : aI S' x = aI S x := funext h.2.2.2.2.2.1
  have a2 : aR S' x = aR S x := funext h.2.2.2.2.2.2.1
  have a3 : aD S' x = aD S x := funext h.2.2.2.2.2.2.2.1
  have a4 : aJ S' x = aJ S x := funext h.2.2.2.2.2.2.2.2
  unfold ent
  simp only [h.1, h.2.1, h.2.2.1, h.2.2.2.1, h.2.2.2.2.1, a1, a2, a3, a4]
theorem na_14 (C : Cx p l s m args meth c cc nL own ret G b) {n K index : Nat} {z : Int32} (w1 : .classLink own index "[[I" ∈ TB) (hz : z = nI K) (hN : K < 2 ^ 25) (hr : cells + (1 + 4) ≤ R.cells ∧ slots + (4 + 4 * K) ≤ R.slots) (d : decode cc pc = .ok (.multianewarray index 2, 4)) (hn : pc + 4 = n)
    (kk : ∀ (q : Nat) (r : Nat → Nat), sK S q = 0 → b ≤ q → (∀ i, i < 4 → sK S (r i) = 0 ∧ r i ≠ q) → (∀ i j, i < 4 → j < 4 → r i = r j → i = j) → J p l e R s m args below meth c nL G b Q n lv (.ref q :: st) (nG S q r K) (cells + 1 + 4) (slots + 4 + 4 * K)) : J p l e R s m args below meth c nL G b Q pc lv (.int z :: .int 4 :: st) S cells slots := by
  subst hn; subst hz
  intro ls H locs h1 h2 h3
  obtain ⟨L, hP, hD, hall⟩ := h2
  have hcy : s.vm.findClass (FieldType.array .int).toString = some (G.2 0) := (C.K.2 0 (G.2 0, .int) rfl).2
  refine va_mna (X := []) (ty := .int) (cy := G.2 0) (z := (K, .inl (fun _ => 0))) C.1 C.2.1 C.2.2.2.1 (C.w w1) C.fx.2.2.2.2.2.2.2.1.2 (C.w (mem_tb (mem_tbl 45 (by decide +kernel)) (by decide +kernel))) hcy C.K hP hD h3 (fun q hq => Nat.le_trans C.fx.2.2.2.2.2.2.2.2 hq) (by decide) (nI_pos (by omega)) (N' := 4) rfl (nI_clamp (by omega)) (by decide) (by show K * 4 ≤ _; omega) (by omega) rfl rfl hr.1 hr.2 (fun _ => ?_) d (fun q r cA H1 hinj hnl gK g1 g2 g3 => ?_)
  · show ({ cls := _, slots := Array.replicate K (.int 0), vm := .none } : Cell) = arrV _ K (fun _ => .int 0)
    first | exact arrV_new _ _ _ | exact (arrV_new _ _ _).symm | rw [arrV_new] | rw [← arrV_new]
  have hcA : cA = G.2 5 := by
    have e1 := (gK.2 6 (cA, .array .int) rfl).2
    have e2 := (C.K.2 5 (G.2 5, .array .int) rfl).2
    exact Option.some.inj (e1.symm.trans e2)
  subst hcA
  have hmem : ∀ x, x ∈ (List.range 4).map r ↔ x ∈ [r 0, r 1, r 2, r 3] := fun x => by simp [List.range, List.range.loop]
  have hrq : ∀ x, x ∈ L ++ (List.range 4).map r → x ≠ q := fun x hx e => by
    obtain ⟨k, hk⟩ := va_pl_get (X := []) (f := vr_up (ent G S) ((List.range 4).map r) (.inl (G.2 0, (K, .inl (fun _ => 0))))) hx
    have hk' : ((([] : va_W) ++ [(q, .inl (G.2 5, 4, .inr (.inr (.inr (.inr (fun i => if i < 4 then some (r i) else none))))))]) ++ va_pl (L ++ (List.range 4).map r) (vr_up (ent G S) ((List.range 4).map r) (.inl (G.2 0, (K, .inl (fun _ => 0))))))[k + 1]? = some (x, vr_up (ent G S) ((List.range 4).map r) (.inl (G.2 0, (K, .inl (fun _ => 0)))) x) := hk
    have := g2.1 0 (k + 1) _ _ rfl hk' e.symm
    omega
  have hqL : q ∉ L := fun h => hrq q (List.mem_append_left _ h) rfl
  have hz0 : ∀ x, x ∉ L → sK S x = 0 := fun x hx => Classical.byContradiction (fun h => hx (hall x h))
  have hri : ∀ i, i < 4 → r i ∈ (List.range 4).map r := fun i hi => List.mem_map.mpr ⟨i, List.mem_range.mpr hi, rfl⟩
  refine kk q r (hz0 q hqL) (g2.2 0 _ rfl) (fun i hi => ⟨hz0 _ (hnl i hi), hrq _ (List.mem_append_right _ (hri i hi))⟩) (fun i j hi hj => hinj i j hi hj) ls H1 locs h1 ?_ g3
  have hent : va_pl (q :: (L ++ (List.range 4).map r)) (ent G (nG S q r K)) = (([] : va_W) ++ [(q, .inl (G.2 5, 4, .inr (.inr (.inr (.inr (fun i => if i < 4 then some (r i) else none))))))]) ++ va_pl (L ++ (List.range 4).map r) (vr_up (ent G S) ((List.range 4).map r) (.inl (G.2 0, (K, .inl (fun _ => 0))))) := by
    have e1 : ent G (nG S q r K) q = .inl (G.2 5, 4, .inr (.inr (.inr (.inr (fun i => if i < 4 then some (r i) else none))))) := by
      rw [ent_14 nG_q]
      have a1 : aN (nG S q r K) q = 4 := if_pos rfl
      have a2 : aR (nG S q r K) q = fun i => if i < 4 then some (r i) else none := funext (fun i => if_pos rfl)
      rw [a1, a2]
    show (q, ent G (nG S q r K) q) :: va_pl (L ++ (List.range 4).map r) (ent G (nG S q r K)) = (q, _) :: va_pl _ _
    rw [e1]
    congr 1
    refine List.map_congr_left (fun x hx => ?_)
    have hxq := hrq x hx
    by_cases hm : x ∈ (List.range 4).map r
    · have hm' := (hmem x).mp hm
      rw [vr_up_in hm, ent_9 (nG_r hxq hm')]
      have a1 : aN (nG S q r K) x = K := (if_neg hxq).trans (if_pos hm')
      have a2 : aI (nG S q r K) x = fun _ => 0 := funext (fun i => if_pos hm')
      rw [a1, a2]
    · rw [vr_up_ne hm, ent_sm (nG_o hxq (fun h => hm ((hmem x).mpr h)))]
  refine ⟨q :: (L ++ (List.range 4).map r), by rw [hent]; exact g1, by rw [hent]; exact g2, fun x hx => ?_⟩
  by_cases e1 : x = q
  · rw [e1]; exact List.mem_cons_self
  · refine List.mem_cons_of_mem _ ?_
    by_cases e2 : x ∈ [r 0, r 1, r 2, r 3]
    · exact List.mem_append_right _ ((hmem x).mpr e2)
    · refine List.mem_append_left _ (hall x ?_)
      rw [← (nG_o (K := K) e1 e2).1]; exact hx
end
def nLs (S S' : Sw) (x t rr : Nat) (ch bt : Int32) (cv w1 L1 R1 w2 L2 R2 : Nat) : Prop := exx x S S' ∧ (fI S' 0 x = ch ∧ fI S' 1 x = bt ∧ fI S' 2 x = 0 ∧ fI S' 3 x = 0 ∧ fI S' 4 x = 0) ∧ (fJ S' 408 x = 0 ∧ fJ S' 409 x = 0) ∧ (fR S' 405 x = some cv ∧ fR S' 406 x = some w1 ∧ fR S' 407 x = some w2) ∧ vC S' cv t 48000 rr ∧ fC S' w1 L1 R1 0 ∧ fC S' w2 L2 R2 0 ∧ (sK S cv = 0 ∧ sK S w1 = 0 ∧ sK S L1 = 0 ∧ sK S R1 = 0 ∧ sK S w2 = 0 ∧ sK S L2 = 0 ∧ sK S R2 = 0) ∧ (L1 ≠ R1 ∧ L2 ≠ R2 ∧ L1 ≠ L2 ∧ L1 ≠ R2 ∧ R1 ≠ L2 ∧ R1 ≠ R2 ∧ w1 ≠ w2)
theorem nFr_z {S S' : Sw} {w L R : Nat} (hw : sK S w = 0) (h : nFr (nO S w 2) S' w L R) : sK S L = 0 ∧ sK S R = 0 ∧ (∀ z, sK S z ≠ 0 → smA S S' z) ∧ (∀ z, sK S z ≠ 0 → sK S' z ≠ 0) := by
  have k1 : ∀ z, sK (nO S w 2) z = 0 → sK S z = 0 := fun z hz => by
    rw [sK_nO] at hz
    by_cases q : z = w
    · rw [if_pos q] at hz; exact absurd hz (by decide)
    · rw [if_neg q] at hz; exact hz
  have k2 : ∀ z, sK S z ≠ 0 → smA S S' z := fun z hz => by
    have hzw := k_ne hw hz
    have s1 : smA S (nO S w 2) z := smA.rf.nO hzw
    exact s1.tr (h.1.1 z hzw (by rw [s1.1]; exact hz))
  exact ⟨k1 _ h.2.2.1, k1 _ h.2.2.2.1, k2, fun z hz => by rw [(k2 z hz).1]; exact hz⟩
theorem nLs_of {S Sc Sf : Sw} {x t rr cv w1 L1 R1 w2 L2 R2 : Nat} {ch bt : Int32} (hk : sK S x = 4) (hw1 : sK (uI (uI (uI (uI (uI S 2 x 0) 3 x 0) 4 x 0) 0 x ch) 1 x bt) w1 = 0) (hF1 : nFr (nO (uI (uI (uI (uI (uI S 2 x 0) 3 x 0) 4 x 0) 0 x ch) 1 x bt) w1 2) Sc w1 L1 R1) (hw2 : sK (uR Sc 406 x (some w1)) w2 = 0) (hF2 : nFr (nO (uR Sc 406 x (some w1)) w2 2) Sf w2 L2 R2) (hcv : sK (uJ (uJ (uR Sf 407 x (some w2)) 408 x 0) 409 x 0) cv = 0) : nLs S (uR (uJ (uJ (uR (nO (uJ (uJ (uR Sf 407 x (some w2)) 408 x 0) 409 x 0) cv 1) 100 cv (some t)) 101 cv (lN 48000)) 102 cv (lN rr)) 405 x (some cv)) x t rr ch bt cv w1 L1 R1 w2 L2 R2 := by
  have hw10 : sK S w1 = 0 := hw1
  obtain ⟨z1, z2, z3, z4⟩ := nFr_z hw1 hF1
  obtain ⟨y1, y2, y3, y4⟩ := nFr_z hw2 hF2
  obtain ⟨hE1, hfc1, hL1, hR1, hLR1⟩ := hF1
  obtain ⟨hE2, hfc2, hL2, hR2, hLR2⟩ := hF2
  have hL10 : sK S L1 = 0 := z1
  have hR10 : sK S R1 = 0 := z2
  have kc : ∀ z, sK S z ≠ 0 → sK Sc z ≠ 0 := fun z hz => z4 z hz
  have kf : ∀ z, sK Sc z ≠ 0 → sK Sf z ≠ 0 := fun z hz => y4 z hz
  have b1 : ∀ z, sK Sc z = 0 → sK S z = 0 := fun z hz => Classical.byContradiction (fun q => kc z q hz)
  have b2 : ∀ z, sK Sf z = 0 → sK Sc z = 0 := fun z hz => Classical.byContradiction (fun q => kf z q hz)
  have hw2c : sK Sc w2 = 0 := hw2
  have hL2c : sK Sc L2 = 0 := y1
  have hR2c : sK Sc R2 = 0 := y2
  have hcf : sK Sf cv = 0 := hcv
  have aw1 : sK Sc w1 ≠ 0 := by rw [hfc1.1]; decide
  have aL1 : sK Sc L1 ≠ 0 := by rw [hfc1.2.2.2.1.1]; decide
  have aR1 : sK Sc R1 ≠ 0 := by rw [hfc1.2.2.2.2.1.1]; decide
  have ax : sK Sc x ≠ 0 := kc x (by rw [hk]; decide)
  have aw2 : sK Sf w2 ≠ 0 := by rw [hfc2.1]; decide
  have aL2 : sK Sf L2 ≠ 0 := by rw [hfc2.2.2.2.1.1]; decide
  have aR2 : sK Sf R2 ≠ 0 := by rw [hfc2.2.2.2.2.1.1]; decide
  have hxw1 : x ≠ w1 := k_ne hw10 (by rw [hk]; decide)
  have hxw2 : x ≠ w2 := k_ne hw2c ax
  have hxcv : x ≠ cv := k_ne hcf (kf x ax)
  have sxc : smA (uI (uI (uI (uI (uI S 2 x 0) 3 x 0) 4 x 0) 0 x ch) 1 x bt) Sc x := z3 x (by show sK S x ≠ 0; rw [hk]; decide)
  have sxf : smA (uR Sc 406 x (some w1)) Sf x := y3 x ax
  have hcx := hxcv.symm
  have t1 : ∀ z, z ≠ x → z ≠ cv → smA Sf (uR (uJ (uJ (uR (nO (uJ (uJ (uR Sf 407 x (some w2)) 408 x 0) 409 x 0) cv 1) 100 cv (some t)) 101 cv (lN 48000)) 102 cv (lN rr)) 405 x (some cv)) z := fun z h1 h2 => (((((((smA.rf.uR h1).uJ h1).uJ h1).nO h2).uR h2).uJ h2).uJ h2).uR h1
  have t2 : ∀ z, z ≠ x → sK Sc z ≠ 0 → smA Sc Sf z := fun z h1 h2 => (smA.rf.uR h1).tr (y3 z h2)
  have t0 : ∀ z, z ≠ x → sK S z ≠ 0 → smA S Sc z := fun z h1 h2 => (((((smA.rf.uI h1).uI h1).uI h1).uI h1).uI h1).tr (z3 z h2)
  have nx : ∀ z, sK S z = 0 → z ≠ x := fun z hz e => by rw [e, hk] at hz; exact absurd hz (by decide)
  refine ⟨⟨fun z hz h0 => (((t0 z hz h0).tr (t2 z hz (kc z h0))).tr (t1 z hz (k_ne hcf (kf z (kc z h0))))), ?_⟩, ⟨?_, ?_, ?_, ?_, ?_⟩, ⟨?_, ?_⟩, ⟨?_, ?_, ?_⟩, ⟨?_, ?_, ?_, ?_⟩, ?_, ?_, ⟨b1 _ (b2 _ hcf), hw10, hL10, hR10, b1 _ hw2c, b1 _ hL2c, b1 _ hR2c⟩, ⟨hLR1, hLR2, k_ne hL2c aL1, k_ne hR2c aL1, k_ne hL2c aR1, k_ne hR2c aR1, k_ne hw2c aw1⟩⟩
  case refine_16 => exact hfc1.sm ((t2 w1 (nx _ hw10) aw1).tr (t1 w1 (nx _ hw10) (k_ne hcf (kf w1 aw1)))) ((t2 L1 (nx _ hL10) aL1).tr (t1 L1 (nx _ hL10) (k_ne hcf (kf L1 aL1)))) ((t2 R1 (nx _ hR10) aR1).tr (t1 R1 (nx _ hR10) (k_ne hcf (kf R1 aR1))))
  case refine_17 => exact hfc2.sm (t1 w2 (Ne.symm hxw2) (k_ne hcf aw2)) (t1 L2 (nx _ (b1 _ hL2c)) (k_ne hcf aL2)) (t1 R2 (nx _ (b1 _ hR2c)) (k_ne hcf aR2))
  all_goals (simp [fI_uI, fI_uJ, fI_uR, fJ_uI, fJ_uJ, fJ_uR, fR_uI, fR_uJ, fR_uR, sK_uI, sK_uJ, sK_uR, fI_nO, fJ_nO, fR_nO, sK_nO, fI_nA, fJ_nA, fR_nA, sK_nA, sxf.1, sxf.2.2.1, sxf.2.2.2.1, sxf.2.2.2.2.1, sxc.1, sxc.2.2.1, sxc.2.2.2.1, sxc.2.2.2.2.1, hxw1, hxw2, hxcv, hcx, hk]; done)
set_option maxRecDepth 100000 in
set_option maxHeartbeats 1000000 in
theorem c_init4 {l : Launch} {G : GG} {b : Nat} (hst : l.stackTraces = false) (S : Sw) (x t rr : Nat) (hk : sK S x = 4) (hr1 : 1 ≤ rr) (hr : rr < 2 ^ 31) (ch bt : Int32) : Ct l G b yX4_init cX4_init 5 none rmX4_init mV [.ref x, .ref t, .int (nI rr), .int ch, .int bt] S (fun _ S' => ∃ cv w1 L1 R1 w2 L2 R2, nLs S S' x t rr ch bt cv w1 L1 R1 w2 L2 R2) := by
  refine Ct.of2 pnX4 (own := RX4) rfl (Nat.le_of_ble_eq_true rfl) hst ?_
  intro p e s m args below meth c C hname
  change J p l e rmX4_init s m args below meth c 5 G b _ 0 [(0, .ref x), (1, .ref t), (2, .int (nI rr)), (3, .int ch), (4, .int bt)] [] S 0 0
  refine r_aload_n (i := 0) (n := 1) C dX4_init_0 rfl rfl rfl ?_
  refine r_iload_n (i := 3) (n := 2) C dX4_init_1 rfl rfl rfl ?_
  refine r_iload (n := 4) C dX4_init_2 rfl rfl ?_
  refine kX4_3 (n := 7) C (c_init0_4 hst S x hk ch bt) (by decide) (by decide) (Nat.le_of_ble_eq_true rfl) dX4_init_4 rfl (fun r S1 hp => ?_)
  subst hp
  refine r_aload_n (i := 0) (n := 8) C dX4_init_7 rfl rfl rfl ?_
  refine nw_2 (n := 11) C (mem_tb (mem_tbl 491 (by decide +kernel)) (by decide +kernel)) (by decide) dX4_init_8 rfl (fun w1 hzw1 hbw1 => ?_)
  refine r_dup (n := 12) C dX4_init_11 rfl rfl ?_
  refine kX4_11 (n := 15) C (c_init2 hst (nO (uI (uI (uI (uI (uI S 2 x 0) 3 x 0) 4 x 0) 0 x ch) 1 x bt) w1 2) w1 nO_k) (by decide) (by decide) (Nat.le_of_ble_eq_true rfl) dX4_init_12 rfl (fun r Sc hp => ?_)
  obtain ⟨L1, R1, hF1⟩ := hp
  have hkc : sK Sc x = 4 := ((nFr_z hzw1 hF1).2.2.1 x (by show sK S x ≠ 0; rw [hk]; decide)).1.trans hk
  refine sX4_14 (n := 18) C hname hkc dX4_init_15 rfl ?_
  refine r_aload_n (i := 0) (n := 19) C dX4_init_18 rfl rfl rfl ?_
  refine nw_2 (n := 22) C (mem_tb (mem_tbl 491 (by decide +kernel)) (by decide +kernel)) (by decide) dX4_init_19 rfl (fun w2 hzw2 hbw2 => ?_)
  refine r_dup (n := 23) C dX4_init_22 rfl rfl ?_
  refine kX4_11 (n := 26) C (c_init2 hst (nO (uR Sc 406 x (some w1)) w2 2) w2 nO_k) (by decide) (by decide) (Nat.le_of_ble_eq_true rfl) dX4_init_23 rfl (fun r Sf hp => ?_)
  obtain ⟨L2, R2, hF2⟩ := hp
  have hkf : sK Sf x = 4 := ((nFr_z hzw2 hF2).2.2.1 x (by show sK Sc x ≠ 0; rw [hkc]; decide)).1.trans hkc
  refine sX4_20 (n := 29) C hname hkf dX4_init_26 rfl ?_
  refine r_aload_n (i := 0) (n := 30) C dX4_init_29 rfl rfl rfl ?_
  refine r_lconst (v := 0) (n := 31) C dX4_init_30 rfl rfl ?_
  refine sX4_23 (n := 34) C hkf dX4_init_31 rfl ?_
  refine r_aload_n (i := 0) (n := 35) C dX4_init_34 rfl rfl rfl ?_
  refine r_lconst (v := 0) (n := 36) C dX4_init_35 rfl rfl ?_
  refine sX4_27 (n := 39) C hkf dX4_init_36 rfl ?_
  refine r_aload_n (i := 0) (n := 40) C dX4_init_39 rfl rfl rfl ?_
  refine nw_1 (n := 43) C (mem_tb (mem_tbl 493 (by decide +kernel)) (by decide +kernel)) (by decide) dX4_init_40 rfl (fun cv hzcv hbcv => ?_)
  have hkv : sK (nO (uJ (uJ (uR Sf 407 x (some w2)) 408 x 0) 409 x 0) cv 1) x = 4 := by
    rw [sK_nO, if_neg (k_ne hzcv (by show sK Sf x ≠ 0; rw [hkf]; decide))]
    exact hkf
  refine r_dup (n := 44) C dX4_init_43 rfl rfl ?_
  refine r_aload_n (i := 1) (n := 45) C dX4_init_44 rfl rfl rfl ?_
  refine r_ldc (n := 47) (v := 48000) C (mem_tb (mem_tbl 494 (by decide +kernel)) (by decide +kernel)) dX4_init_45 rfl ?_
  refine r_iload_n (i := 2) (n := 48) C dX4_init_47 rfl rfl rfl ?_
  refine kX4_33 (n := 51) C (c_init1 hst (nO (uJ (uJ (uR Sf 407 x (some w2)) 408 x 0) 409 x 0) cv 1) cv t 48000 rr nO_k (by decide) hr1 hr) (by decide) (by decide) (Nat.le_of_ble_eq_true rfl) dX4_init_48 rfl (fun r S1 hp => ?_)
  subst hp
  refine sX4_36 (n := 54) C hname hkv dX4_init_51 rfl ?_
  refine t_v C dX4_init_54 (by decide) ?_
  exact ⟨cv, w1, L1, R1, w2, L2, R2, nLs_of hk hzw1 hF1 hzw2 hF2 hzcv⟩
