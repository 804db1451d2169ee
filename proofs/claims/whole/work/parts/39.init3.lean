theorem smA.wIs {S T : Sw} {z a : Nat} {r : Nat → Int32} (h : smA S T z) (hz : z ≠ a) : smA S (wIs T a r) z := h.tr ⟨rfl, rfl, fun _ => rfl, fun _ => rfl, fun _ => rfl, fun _ => if_neg hz, fun _ => rfl, fun _ => rfl, fun _ => rfl⟩
def stp (x : Nat) (S T : Sw) : Prop := ∀ z, z ≠ x → sK S z ≠ 0 → smA S T z
theorem stp.tr {x : Nat} {S T U : Sw} (h : stp x S T) (g : stp x T U) : stp x S U := fun z hz h0 => (h z hz h0).tr (g z hz (by rw [(h z hz h0).1]; exact h0))
theorem isC.sm {S T : Sw} {z N : Nat} (h : smA S T z) (q : isC S z N) : isC T z N := ⟨h.1.trans q.1, h.2.1.trans q.2.1, q.2.2⟩
theorem isG.sm {S T : Sw} {z N : Nat} (h : smA S T z) (q : isG S z N) : isG T z N := ⟨h.1.trans q.1, h.2.1.trans q.2.1, q.2.2⟩
theorem nG_N {S : Sw} {q x : Nat} {r : Nat → Nat} (h0 : sK S x ≠ 0) (hq : sK S q = 0) (hr : ∀ i, i < 4 → sK S (r i) = 0 ∧ r i ≠ q) : x ≠ q ∧ x ∉ [r 0, r 1, r 2, r 3] := ⟨k_ne hq h0, fun h => by
  simp only [List.mem_cons, List.not_mem_nil, or_false] at h
  rcases h with h | h | h | h
  · exact h0 (by rw [h]; exact (hr 0 (by omega)).1)
  · exact h0 (by rw [h]; exact (hr 1 (by omega)).1)
  · exact h0 (by rw [h]; exact (hr 2 (by omega)).1)
  · exact h0 (by rw [h]; exact (hr 3 (by omega)).1)⟩
theorem r4_mem {r : Nat → Nat} {i : Nat} (h : i < 4) : r i ∈ [r 0, r 1, r 2, r 3] := by
  have q : i = 0 ∨ i = 1 ∨ i = 2 ∨ i = 3 := by omega
  rcases q with rfl | rfl | rfl | rfl <;> simp
theorem fI_nG (S : Sw) (q : Nat) (r : Nat → Nat) (K f x : Nat) : fI (nG S q r K) f x = fI S f x := rfl
theorem fR_nG (S : Sw) (q : Nat) (r : Nat → Nat) (K f x : Nat) : fR (nG S q r K) f x = fR S f x := rfl
theorem fJ_nG (S : Sw) (q : Nat) (r : Nat → Nat) (K f x : Nat) : fJ (nG S q r K) f x = fJ S f x := rfl
/-- a new kernel -/
def nKn (S S' : Sw) (x t row lm cl q1 q2 inc gv sm : Nat) (r1 r2 : Nat → Nat) : Prop := exx x S S' ∧ (fR S' 700 x = some t ∧ fR S' 701 x = some lm ∧ fR S' 702 x = some cl ∧ fR S' 703 x = some q1 ∧ fI S' 704 x = 0 ∧ fI S' 705 x = 0 ∧ fR S' 706 x = some q2 ∧ fI S' 707 x = 0 ∧ fR S' 708 x = some inc ∧ fR S' 709 x = some gv ∧ fR S' 710 x = some sm) ∧
  (tC S' t row ∧ ∀ i, aI S' row i = tbC 32 (fun _ => 0) i) ∧ (sK S' lm = 3 ∧ fI S' 300 lm = 1 ∧ fI S' 301 lm = 4096 ∧ fI S' 302 lm = 0 ∧ fJ S' 303 lm = 0) ∧ (isC S' cl 6 ∧ ∀ i, aR S' cl i = none) ∧ (isG S' q1 4 ∧ ∀ i, i < 4 → aR S' q1 i = some (r1 i) ∧ isI S' (r1 i) 48) ∧ (isG S' q2 4 ∧ ∀ i, i < 4 → aR S' q2 i = some (r2 i) ∧ isI S' (r2 i) 48 ∧ ∀ j, aI S' (r2 i) j = 0) ∧ (isI S' inc 48 ∧ ∀ j, aI S' inc j = 0) ∧ isI S' gv 48 ∧ isI S' sm 48 ∧
  (sK S row = 0 ∧ sK S inc = 0 ∧ sK S gv = 0 ∧ sK S sm = 0 ∧ ∀ i, i < 4 → sK S (r1 i) = 0 ∧ sK S (r2 i) = 0) ∧ (∀ i j, i < 4 → j < 4 → r1 i = r1 j → i = j) ∧ (∀ i j, i < 4 → j < 4 → r2 i = r2 j → i = j) ∧ (∀ i j, i < 4 → j < 4 → r1 i ≠ r2 j) ∧
  (∀ i, i < 4 → r1 i ≠ row ∧ r2 i ≠ row ∧ r1 i ≠ inc ∧ r2 i ≠ inc ∧ r1 i ≠ gv ∧ r2 i ≠ gv ∧ r1 i ≠ sm ∧ r2 i ≠ sm) ∧ row ≠ inc ∧ row ≠ gv ∧ row ≠ sm ∧ inc ≠ gv ∧ inc ≠ sm ∧ gv ≠ sm
theorem nKn_of {S T1 T2 T3 T5 T6 T7 T8 T9 T10 : Sw} {x t row lm cl q1 q2 inc gv sm : Nat} {r1 r2 : Nat → Nat} (hk : sK S x = 7) (ht : sK S t = 0) (hrow : sK (nO S t 6) row = 0) (e1 : T1 = wIs (uR (nA (nO S t 6) row 9 512) 600 t (some row)) row (tbC 32 (fun _ => 0))) (e2 : T2 = uR T1 700 x (some t)) (hlm : sK T2 lm = 0) (e3 : T3 = uR (uJ (uI (uI (uI (nO T2 lm 3) 300 lm 1) 301 lm 4096) 302 lm 0) 303 lm 0) 701 x (some lm)) (hcl : sK T3 cl = 0) (e5 : T5 = uR (nA T3 cl 13 6) 702 x (some cl)) (hq1 : sK T5 q1 = 0) (hr1 : ∀ i, i < 4 → sK T5 (r1 i) = 0 ∧ r1 i ≠ q1) (hj1 : ∀ i j, i < 4 → j < 4 → r1 i = r1 j → i = j) (e6 : T6 = uI (uI (uR (nG T5 q1 r1 48) 703 x (some q1)) 704 x 0) 705 x 0) (hq2 : sK T6 q2 = 0) (hr2 : ∀ i, i < 4 → sK T6 (r2 i) = 0 ∧ r2 i ≠ q2) (hj2 : ∀ i j, i < 4 → j < 4 → r2 i = r2 j → i = j) (e7 : T7 = uI (uR (nG T6 q2 r2 48) 706 x (some q2)) 707 x 0) (hinc : sK T7 inc = 0) (e8 : T8 = uR (nA T7 inc 9 48) 708 x (some inc)) (hgv : sK T8 gv = 0) (e9 : T9 = uR (nA T8 gv 9 48) 709 x (some gv)) (hsm : sK T9 sm = 0) (e10 : T10 = uR (nA T9 sm 9 48) 710 x (some sm)) : nKn S T10 x t row lm cl q1 q2 inc gv sm r1 r2 := by
  have hxt : x ≠ t := k_ne ht (by rw [hk]; decide)
  have hrt : t ≠ row := fun q => by rw [← q, nO_k] at hrow; exact absurd hrow (by decide)
  have hrow0 : sK S row = 0 := by rw [sK_nO, if_neg (Ne.symm hrt)] at hrow; exact hrow
  have hxrow : x ≠ row := k_ne hrow0 (by rw [hk]; decide)
  have s1 : stp x S T1 := fun z hz h0 => by
    rw [e1]
    exact (((smA.rf.nO (k_ne ht h0)).nA (k_ne hrow0 h0)).uR (k_ne ht h0)).wIs (k_ne hrow0 h0)
  have kx1 : sK T1 x = 7 := by
    rw [e1]
    exact ((((smA.rf (S := S).nO hxt).nA hxrow).uR hxt).wIs hxrow).1.trans hk
  have s2 : stp x T1 T2 := fun z hz h0 => by rw [e2]; exact smA.rf.uR hz
  have kx2 : sK T2 x = 7 := by rw [e2]; exact kx1
  have hxlm : x ≠ lm := k_ne hlm (by rw [kx2]; decide)
  have s3 : stp x T2 T3 := fun z hz h0 => by
    have n := k_ne hlm h0
    rw [e3]; exact (((((smA.rf.nO n).uI n).uI n).uI n).uJ n).uR hz
  have kx3 : sK T3 x = 7 := by rw [e3]; exact (smA.rf (S := T2).nO (k := 3) hxlm).1.trans kx2
  have hxcl : x ≠ cl := k_ne hcl (by rw [kx3]; decide)
  have s5 : stp x T3 T5 := fun z hz h0 => by rw [e5]; exact (smA.rf.nA (k_ne hcl h0)).uR hz
  have kx5 : sK T5 x = 7 := by rw [e5]; exact (smA.rf (S := T3).nA (k := 13) (N := 6) hxcl).1.trans kx3
  have n5 : ∀ z, sK T5 z ≠ 0 → z ≠ q1 ∧ z ∉ [r1 0, r1 1, r1 2, r1 3] := fun z h0 => nG_N h0 hq1 hr1
  have s6 : stp x T5 T6 := fun z hz h0 => by rw [e6]; exact (((nG_o (n5 z h0).1 (n5 z h0).2).uR hz).uI hz).uI hz
  have nx5 := n5 x (by rw [kx5]; decide)
  have kx6 : sK T6 x = 7 := by rw [e6]; exact (nG_o (K := 48) nx5.1 nx5.2).1.trans kx5
  have n6 : ∀ z, sK T6 z ≠ 0 → z ≠ q2 ∧ z ∉ [r2 0, r2 1, r2 2, r2 3] := fun z h0 => nG_N h0 hq2 hr2
  have s7 : stp x T6 T7 := fun z hz h0 => by rw [e7]; exact ((nG_o (n6 z h0).1 (n6 z h0).2).uR hz).uI hz
  have nx6 := n6 x (by rw [kx6]; decide)
  have kx7 : sK T7 x = 7 := by rw [e7]; exact (nG_o (K := 48) nx6.1 nx6.2).1.trans kx6
  have hxinc : x ≠ inc := k_ne hinc (by rw [kx7]; decide)
  have s8 : stp x T7 T8 := fun z hz h0 => by rw [e8]; exact (smA.rf.nA (k_ne hinc h0)).uR hz
  have kx8 : sK T8 x = 7 := by rw [e8]; exact (smA.rf (S := T7).nA (k := 9) (N := 48) hxinc).1.trans kx7
  have hxgv : x ≠ gv := k_ne hgv (by rw [kx8]; decide)
  have s9 : stp x T8 T9 := fun z hz h0 => by rw [e9]; exact (smA.rf.nA (k_ne hgv h0)).uR hz
  have kx9 : sK T9 x = 7 := by rw [e9]; exact (smA.rf (S := T8).nA (k := 9) (N := 48) hxgv).1.trans kx8
  have hxsm : x ≠ sm := k_ne hsm (by rw [kx9]; decide)
  have s10 : stp x T9 T10 := fun z hz h0 => by rw [e10]; exact (smA.rf.nA (k_ne hsm h0)).uR hz
  have kx10 : sK T10 x = 7 := by rw [e10]; exact (smA.rf (S := T9).nA (k := 9) (N := 48) hxsm).1.trans kx9
  have z9 := s9.tr s10
  have z8 := s8.tr z9
  have z7 := s7.tr z8
  have z6 := s6.tr z7
  have z5 := s5.tr z6
  have z3 := s3.tr z5
  have z2 := s2.tr z3
  have z1 := s1.tr z2
  -- what is new
  have a1t : tC T1 t row := by
    rw [e1]
    refine ⟨((smA.rf (S := nO S t 6).nA (k := 9) (N := 512) hrt).uR (f := 600) (v := some row) (a := row) hrt).1.trans nO_k, ?_, nA_k (N := 512), nA_n (k := 9), by decide⟩
    exact if_pos ⟨rfl, rfl⟩
  have a1r : ∀ i, aI T1 row i = tbC 32 (fun _ => 0) i := fun i => by rw [e1]; exact if_pos rfl
  have a3 : sK T3 lm = 3 ∧ fI T3 300 lm = 1 ∧ fI T3 301 lm = 4096 ∧ fI T3 302 lm = 0 ∧ fJ T3 303 lm = 0 := by
    rw [e3]
    refine ⟨nO_k, ?_, ?_, ?_, ?_⟩ <;> simp [fI_uI, fI_uJ, fI_uR, fJ_uI, fJ_uJ, fJ_uR, fR_uI, fR_uJ, fR_uR, sK_uI, sK_uJ, sK_uR, fI_nO, fJ_nO, fR_nO, sK_nO, fI_nA, fJ_nA, fR_nA, sK_nA]
  have a5 : isC T5 cl 6 ∧ ∀ i, aR T5 cl i = none := by
    rw [e5]
    exact ⟨⟨nA_k (N := 6), nA_n (k := 13), by decide⟩, fun i => congrFun (nA_R (k := 13) (N := 6)) i⟩
  have a6 : isG T6 q1 4 ∧ ∀ i, i < 4 → aR T6 q1 i = some (r1 i) ∧ isI T6 (r1 i) 48 := by
    rw [e6]
    exact ⟨⟨if_pos rfl, if_pos rfl, by decide⟩, fun i hi => ⟨(if_pos rfl).trans (if_pos hi), (if_neg (hr1 i hi).2).trans (if_pos (r4_mem hi)), (if_neg (hr1 i hi).2).trans (if_pos (r4_mem hi)), by decide⟩⟩
  have a7 : isG T7 q2 4 ∧ ∀ i, i < 4 → aR T7 q2 i = some (r2 i) ∧ isI T7 (r2 i) 48 ∧ ∀ j, aI T7 (r2 i) j = 0 := by
    rw [e7]
    exact ⟨⟨if_pos rfl, if_pos rfl, by decide⟩, fun i hi => ⟨(if_pos rfl).trans (if_pos hi), ⟨(if_neg (hr2 i hi).2).trans (if_pos (r4_mem hi)), (if_neg (hr2 i hi).2).trans (if_pos (r4_mem hi)), by decide⟩, fun j => if_pos (r4_mem hi)⟩⟩
  have a8 : isI T8 inc 48 ∧ ∀ j, aI T8 inc j = 0 := by
    rw [e8]; exact ⟨⟨nA_k (N := 48), nA_n (k := 9), by decide⟩, fun i => congrFun (nA_I (k := 9) (N := 48)) i⟩
  have a9 : isI T9 gv 48 := by rw [e9]; exact ⟨nA_k (N := 48), nA_n (k := 9), by decide⟩
  have a10 : isI T10 sm 48 := by rw [e10]; exact ⟨nA_k (N := 48), nA_n (k := 9), by decide⟩
  have w : ∀ {T : Sw} {z n : Nat}, isI T z n → sK T z ≠ 0 := fun h => by rw [h.1]; decide
  have nx : ∀ z, sK T10 z ≠ 7 → z ≠ x := fun z hz e => hz (by rw [e]; exact kx10)
  have nx1 : t ≠ x := Ne.symm hxt
  have b1 : smA T1 T10 row := z2 row (Ne.symm hxrow) (w a1t.2.2)
  have b3 := z5 lm (Ne.symm hxlm) (by rw [a3.1]; decide)
  have b5 := z6 cl (Ne.symm hxcl) (by rw [a5.1.1]; decide)
  have b6 := z7 q1 (Ne.symm nx5.1) (by rw [a6.1.1]; decide)
  have x1 : ∀ i, i < 4 → r1 i ≠ x := fun i hi e => nx5.2 (by rw [← e]; exact r4_mem hi)
  have x2 : ∀ i, i < 4 → r2 i ≠ x := fun i hi e => nx6.2 (by rw [← e]; exact r4_mem hi)
  have b6r : ∀ i, i < 4 → smA T6 T10 (r1 i) := fun i hi => z7 _ (x1 i hi) (w (a6.2 i hi).2)
  have b7 := z8 q2 (Ne.symm nx6.1) (by rw [a7.1.1]; decide)
  have b7r : ∀ i, i < 4 → smA T7 T10 (r2 i) := fun i hi => z8 _ (x2 i hi) (w (a7.2 i hi).2.1)
  have b8 := z9 inc (Ne.symm hxinc) (w a8.1)
  have b9 := s10 gv (Ne.symm hxgv) (w a9)
  have al : ∀ {T U : Sw} {z : Nat}, stp x T U → z ≠ x → sK U z = 0 → sK T z = 0 := fun h hz h0 => Classical.byContradiction (fun q => q ((h _ hz q).1.symm.trans h0))
  have zs5 := s1.tr (s2.tr (s3.tr s5))
  have zs6 := zs5.tr s6
  have zs7 := zs6.tr s7
  have zs8 := zs7.tr s8
  have zs9 := zs8.tr s9
  have ne : ∀ {T U : Sw} {y z : Nat}, stp x T U → y ≠ x → sK T y ≠ 0 → sK U z = 0 → y ≠ z := fun h hy h0 hz e => by
    rw [← e, (h _ hy h0).1] at hz; exact h0 hz
  have ar : sK T1 row ≠ 0 := w a1t.2.2
  have rx : row ≠ x := Ne.symm hxrow
  have r1r : ∀ i, i < 4 → row ≠ r1 i := fun i hi => ne (s2.tr (s3.tr s5)) rx ar (hr1 i hi).1
  have r2r : ∀ i, i < 4 → row ≠ r2 i := fun i hi => ne (s2.tr (s3.tr (s5.tr s6))) rx ar (hr2 i hi).1
  have ri := ne (s2.tr (s3.tr (s5.tr (s6.tr s7)))) rx ar hinc
  have rg := ne (s2.tr (s3.tr (s5.tr (s6.tr (s7.tr s8))))) rx ar hgv
  have rs := ne (s2.tr (s3.tr (s5.tr (s6.tr (s7.tr (s8.tr s9)))))) rx ar hsm
  refine ⟨⟨z1, kx10.trans hk.symm⟩, ⟨?_, ?_, ?_, ?_, ?_, ?_, ?_, ?_, ?_, ?_, ?_⟩, ⟨a1t.sm (z2 t nx1 (by rw [a1t.1]; decide)) b1, fun i => (b1.2.2.2.2.2.1 i).trans (a1r i)⟩, ⟨b3.1.trans a3.1, (b3.2.2.1 _).trans a3.2.1, (b3.2.2.1 _).trans a3.2.2.1, (b3.2.2.1 _).trans a3.2.2.2.1, (b3.2.2.2.1 _).trans a3.2.2.2.2⟩, ⟨a5.1.sm b5, fun i => (b5.2.2.2.2.2.2.1 i).trans (a5.2 i)⟩, ⟨a6.1.sm b6, fun i hi => ⟨(b6.2.2.2.2.2.2.1 i).trans (a6.2 i hi).1, (a6.2 i hi).2.sm (b6r i hi)⟩⟩, ⟨a7.1.sm b7, fun i hi => ⟨(b7.2.2.2.2.2.2.1 i).trans (a7.2 i hi).1, (a7.2 i hi).2.1.sm (b7r i hi), fun j => ((b7r i hi).2.2.2.2.2.1 j).trans ((a7.2 i hi).2.2 j)⟩⟩, ⟨a8.1.sm b8, fun j => (b8.2.2.2.2.2.1 j).trans (a8.2 j)⟩, a9.sm b9, a10, ⟨hrow0, al zs7 (Ne.symm hxinc) hinc, al zs8 (Ne.symm hxgv) hgv, al zs9 (Ne.symm hxsm) hsm, fun i hi => ⟨al zs5 (x1 i hi) (hr1 i hi).1, al zs6 (x2 i hi) (hr2 i hi).1⟩⟩, hj1, hj2, fun i j hi hj e => (n6 _ (w (a6.2 i hi).2)).2 (by rw [e]; exact r4_mem hj), fun i hi => ⟨Ne.symm (r1r i hi), Ne.symm (r2r i hi), ne s7 (x1 i hi) (w (a6.2 i hi).2) hinc, k_ne hinc (w (a7.2 i hi).2.1), ne (s7.tr s8) (x1 i hi) (w (a6.2 i hi).2) hgv, ne s8 (x2 i hi) (w (a7.2 i hi).2.1) hgv, ne (s7.tr (s8.tr s9)) (x1 i hi) (w (a6.2 i hi).2) hsm, ne (s8.tr s9) (x2 i hi) (w (a7.2 i hi).2.1) hsm⟩, ri, rg, rs, k_ne hgv (w a8.1), ne s9 (Ne.symm hxinc) (w a8.1) hsm, k_ne hsm (w a9)⟩
  all_goals (rw [e10, e9, e8, e7, e6, e5, e3, e2]; simp [fI_uI, fI_uJ, fI_uR, fJ_uI, fJ_uJ, fJ_uR, fR_uI, fR_uJ, fR_uR, sK_uI, sK_uJ, sK_uR, fI_nO, fJ_nO, fR_nO, sK_nO, fI_nA, fJ_nA, fR_nA, sK_nA, fI_nG, fR_nG, fJ_nG, fI_wIs, fR_wIs, fJ_wIs, hxlm, hxt])
set_option maxRecDepth 100000 in
set_option maxHeartbeats 1000000 in
theorem c_init7 {l : Launch} {G : GG} {b : Nat} (hst : l.stackTraces = false) (S : Sw) (x : Nat) (hk : sK S x = 7) : Ct l G b yX7_init cX7_init 1 none rmX7_init mV [.ref x] S (fun _ S' => ∃ t row lm cl q1 q2 inc gv sm r1 r2, nKn S S' x t row lm cl q1 q2 inc gv sm r1 r2) := by
  refine Ct.of2 pnX7 (own := RX7) rfl (Nat.le_of_ble_eq_true rfl) hst ?_
  intro p e s m args below meth c C hname
  change J p l e rmX7_init s m args below meth c 1 G b _ 0 [(0, .ref x)] [] S 0 0
  refine r_aload_n (i := 0) (n := 1) C dX7_init_0 rfl rfl rfl ?_
  refine kX7_1 (n := 4) C (by decide) dX7_init_1 rfl ?_
  refine r_aload_n (i := 0) (n := 5) C dX7_init_4 rfl rfl rfl ?_
  refine nw_6 (n := 8) C (mem_tb (mem_tbl 26 (by decide +kernel)) (by decide +kernel)) (by decide) dX7_init_5 rfl (fun t hzt hbt => ?_)
  refine r_dup (n := 9) C dX7_init_8 rfl rfl ?_
  refine kX7_9 (n := 12) C (c_init6 hst (nO S t 6) t nO_k) (by decide) (by decide) (Nat.le_of_ble_eq_true rfl) dX7_init_9 rfl (fun r S1 hp => ?_)
  obtain ⟨row, hzrow, hp⟩ := hp
  have hxt : x ≠ t := k_ne hzt (by rw [hk]; decide)
  have hk0 : sK (nO S t 6) x = 7 := by rw [sK_nO, if_neg hxt]; exact hk
  have hxrow : x ≠ row := k_ne hzrow (by rw [hk0]; decide)
  have kx1 : sK S1 x = 7 := by
    rw [hp]
    exact (((smA.rf (S := nO S t 6).nA (k := 9) (N := 512) hxrow).uR (f := 600) (v := some row) hxt)).1.trans hk0
  refine sX7_10 (n := 15) C hname kx1 dX7_init_12 rfl ?_
  obtain ⟨T2, e2⟩ : ∃ T, T = uR S1 700 x (some t) := ⟨_, rfl⟩
  rw [← e2]
  have kx2 : sK T2 x = 7 := by rw [e2]; exact kx1
  refine r_aload_n (i := 0) (n := 16) C dX7_init_15 rfl rfl rfl ?_
  refine nw_3 (n := 19) C (mem_tb (mem_tbl 46 (by decide +kernel)) (by decide +kernel)) (by decide) dX7_init_16 rfl (fun lm hzlm hblm => ?_)
  have hxlm : x ≠ lm := k_ne hzlm (by rw [kx2]; decide)
  have hkl : sK (nO T2 lm 3) x = 7 := by rw [sK_nO, if_neg hxlm]; exact kx2
  refine r_dup (n := 20) C dX7_init_19 rfl rfl ?_
  refine kX7_18 (n := 23) C (c_init3 hst (nO T2 lm 3) lm nO_k) (by decide) (by decide) (Nat.le_of_ble_eq_true rfl) dX7_init_20 rfl (fun r S1 hp => ?_)
  subst hp
  refine sX7_19 (n := 26) C hname hkl dX7_init_23 rfl ?_
  obtain ⟨T3, e3⟩ : ∃ T, T = uR (uJ (uI (uI (uI (nO T2 lm 3) 300 lm 1) 301 lm 4096) 302 lm 0) 303 lm 0) 701 x (some lm) := ⟨_, rfl⟩
  rw [← e3]
  have kx3 : sK T3 x = 7 := by rw [e3]; exact hkl
  refine r_aload_n (i := 0) (n := 27) C dX7_init_26 rfl rfl rfl ?_
  refine r_bipush (v := 6) (n := 29) C dX7_init_27 rfl rfl ?_
  refine na_13 (n := 32) (N := 6) C (mem_tb (mem_tbl 68 (by decide +kernel)) (by decide +kernel)) rfl (by decide) (by decide) dX7_init_29 rfl (fun cl hzcl hbcl => ?_)
  have hkc : sK (nA T3 cl 13 6) x = 7 := by rw [sK_nA, if_neg (k_ne hzcl (by rw [kx3]; decide))]; exact kx3
  refine sX7_25 (n := 35) C hname hkc dX7_init_32 rfl ?_
  obtain ⟨T5, e5⟩ : ∃ T, T = uR (nA T3 cl 13 6) 702 x (some cl) := ⟨_, rfl⟩
  rw [← e5]
  have kx5 : sK T5 x = 7 := by rw [e5]; exact hkc
  refine r_aload_n (i := 0) (n := 36) C dX7_init_35 rfl rfl rfl ?_
  refine r_iconst (v := 4) (n := 37) C dX7_init_36 rfl rfl ?_
  refine r_bipush (v := 48) (n := 39) C dX7_init_37 rfl rfl ?_
  refine na_14 (n := 43) (K := 48) C (mem_tb (mem_tbl 70 (by decide +kernel)) (by decide +kernel)) rfl (by decide) (by decide) dX7_init_39 rfl (fun q1 r1 hzq1 hbq1 hr1 hj1 => ?_)
  have hkg : sK (nG T5 q1 r1 48) x = 7 := (nG_o (nG_N (by rw [kx5]; decide) hzq1 hr1).1 (nG_N (by rw [kx5]; decide) hzq1 hr1).2).1.trans kx5
  refine sX7_31 (n := 46) C hname hkg dX7_init_43 rfl ?_
  refine r_aload_n (i := 0) (n := 47) C dX7_init_46 rfl rfl rfl ?_
  refine r_iconst (v := 0) (n := 48) C dX7_init_47 rfl rfl ?_
  refine sX7_34 (n := 51) C hkg dX7_init_48 rfl ?_
  refine r_aload_n (i := 0) (n := 52) C dX7_init_51 rfl rfl rfl ?_
  refine r_iconst (v := 0) (n := 53) C dX7_init_52 rfl rfl ?_
  refine sX7_38 (n := 56) C hkg dX7_init_53 rfl ?_
  obtain ⟨T6, e6⟩ : ∃ T, T = uI (uI (uR (nG T5 q1 r1 48) 703 x (some q1)) 704 x 0) 705 x 0 := ⟨_, rfl⟩
  rw [← e6]
  have kx6 : sK T6 x = 7 := by rw [e6]; exact hkg
  refine r_aload_n (i := 0) (n := 57) C dX7_init_56 rfl rfl rfl ?_
  refine r_iconst (v := 4) (n := 58) C dX7_init_57 rfl rfl ?_
  refine r_bipush (v := 48) (n := 60) C dX7_init_58 rfl rfl ?_
  refine na_14 (n := 64) (K := 48) C (mem_tb (mem_tbl 70 (by decide +kernel)) (by decide +kernel)) rfl (by decide) (by decide) dX7_init_60 rfl (fun q2 r2 hzq2 hbq2 hr2 hj2 => ?_)
  have hkh : sK (nG T6 q2 r2 48) x = 7 := (nG_o (nG_N (by rw [kx6]; decide) hzq2 hr2).1 (nG_N (by rw [kx6]; decide) hzq2 hr2).2).1.trans kx6
  refine sX7_41 (n := 67) C hname hkh dX7_init_64 rfl ?_
  refine r_aload_n (i := 0) (n := 68) C dX7_init_67 rfl rfl rfl ?_
  refine r_iconst (v := 0) (n := 69) C dX7_init_68 rfl rfl ?_
  refine sX7_44 (n := 72) C hkh dX7_init_69 rfl ?_
  obtain ⟨T7, e7⟩ : ∃ T, T = uI (uR (nG T6 q2 r2 48) 706 x (some q2)) 707 x 0 := ⟨_, rfl⟩
  rw [← e7]
  have kx7 : sK T7 x = 7 := by rw [e7]; exact hkh
  refine r_aload_n (i := 0) (n := 73) C dX7_init_72 rfl rfl rfl ?_
  refine r_bipush (v := 48) (n := 75) C dX7_init_73 rfl rfl ?_
  refine na_9 (n := 77) (N := 48) C rfl (by decide) (by decide) dX7_init_75 rfl (fun inc hzinc hbinc => ?_)
  have hki : sK (nA T7 inc 9 48) x = 7 := by rw [sK_nA, if_neg (k_ne hzinc (by rw [kx7]; decide))]; exact kx7
  refine sX7_47 (n := 80) C hname hki dX7_init_77 rfl ?_
  obtain ⟨T8, e8⟩ : ∃ T, T = uR (nA T7 inc 9 48) 708 x (some inc) := ⟨_, rfl⟩
  rw [← e8]
  have kx8 : sK T8 x = 7 := by rw [e8]; exact hki
  refine r_aload_n (i := 0) (n := 81) C dX7_init_80 rfl rfl rfl ?_
  refine r_bipush (v := 48) (n := 83) C dX7_init_81 rfl rfl ?_
  refine na_9 (n := 85) (N := 48) C rfl (by decide) (by decide) dX7_init_83 rfl (fun gv hzgv hbgv => ?_)
  have hkv : sK (nA T8 gv 9 48) x = 7 := by rw [sK_nA, if_neg (k_ne hzgv (by rw [kx8]; decide))]; exact kx8
  refine sX7_51 (n := 88) C hname hkv dX7_init_85 rfl ?_
  obtain ⟨T9, e9⟩ : ∃ T, T = uR (nA T8 gv 9 48) 709 x (some gv) := ⟨_, rfl⟩
  rw [← e9]
  have kx9 : sK T9 x = 7 := by rw [e9]; exact hkv
  refine r_aload_n (i := 0) (n := 89) C dX7_init_88 rfl rfl rfl ?_
  refine r_bipush (v := 48) (n := 91) C dX7_init_89 rfl rfl ?_
  refine na_9 (n := 93) (N := 48) C rfl (by decide) (by decide) dX7_init_91 rfl (fun sm hzsm hbsm => ?_)
  have hks : sK (nA T9 sm 9 48) x = 7 := by rw [sK_nA, if_neg (k_ne hzsm (by rw [kx9]; decide))]; exact kx9
  refine sX7_54 (n := 96) C hname hks dX7_init_93 rfl ?_
  refine t_v C dX7_init_96 (by decide) ?_
  exact ⟨t, row, lm, cl, q1, q2, inc, gv, sm, r1, r2, nKn_of hk hzt hzrow hp e2 hzlm e3 hzcl e5 hzq1 hr1 hj1 e6 hzq2 hr2 hj2 e7 hzinc e8 hzgv e9 hzsm rfl⟩
