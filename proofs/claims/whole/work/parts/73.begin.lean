/-! ===== the start: both sides agree ===== -/
theorem E_ex (row inc gv sm x t lm cl q1 q2 z out outD : Nat) (r1 r2 ad : Nat → Nat) : ∃ E : Nat → Nat, (E 1 = row ∧ E 2 = inc ∧ E 3 = gv ∧ E 4 = sm) ∧ (∀ i, i < 4 → E (10 + i) = r1 i ∧ E (20 + i) = r2 i) ∧ (E 30 = x ∧ E 32 = t ∧ E 33 = lm ∧ E 34 = cl ∧ E 35 = q1 ∧ E 36 = q2) ∧ (E 900 = z ∧ E 901 = out ∧ E 902 = outD) ∧ ∀ f, f ∈ MLf → E f = ad f := by
  refine ⟨fun j => if j = 1 then row else if j = 2 then inc else if j = 3 then gv else if j = 4 then sm else if 10 ≤ j ∧ j < 14 then r1 (j - 10) else if 20 ≤ j ∧ j < 24 then r2 (j - 20) else if j = 30 then x else if j = 32 then t else if j = 33 then lm else if j = 34 then cl else if j = 35 then q1 else if j = 36 then q2 else if j = 900 then z else if j = 901 then out else if j = 902 then outD else ad j, ⟨rfl, rfl, rfl, rfl⟩, fun i hi => ⟨?_, ?_⟩, ⟨rfl, rfl, rfl, rfl, rfl, rfl⟩, ⟨rfl, rfl, rfl⟩, fun f hf => ?_⟩
  · have : i = 0 ∨ i = 1 ∨ i = 2 ∨ i = 3 := by omega
    rcases this with rfl | rfl | rfl | rfl <;> rfl
  · have : i = 0 ∨ i = 1 ∨ i = 2 ∨ i = 3 := by omega
    rcases this with rfl | rfl | rfl | rfl <;> rfl
  · have h := MLf_ge hf
    show (if f = 1 then row else if f = 2 then inc else if f = 3 then gv else if f = 4 then sm else if 10 ≤ f ∧ f < 14 then r1 (f - 10) else if 20 ≤ f ∧ f < 24 then r2 (f - 20) else if f = 30 then x else if f = 32 then t else if f = 33 then lm else if f = 34 then cl else if f = 35 then q1 else if f = 36 then q2 else if f = 900 then z else if f = 901 then out else if f = 902 then outD else ad f) = ad f
    rw [if_neg (by omega), if_neg (by omega), if_neg (by omega), if_neg (by omega), if_neg (by omega), if_neg (by omega), if_neg (by omega), if_neg (by omega), if_neg (by omega), if_neg (by omega), if_neg (by omega), if_neg (by omega), if_neg (by omega), if_neg (by omega), if_neg (by omega)]
theorem BS_c {a : Nat} (h : a ∈ BS) : (a = 30 ∨ a = 32 ∨ a = 33 ∨ a = 34 ∨ a = 35 ∨ a = 36) ∨ (a = 1 ∨ a = 2 ∨ a = 3 ∨ a = 4 ∨ (∃ i, i < 4 ∧ a = 10 + i) ∨ ∃ i, i < 4 ∧ a = 20 + i) := by
  have q : ∀ a ∈ BS, (a = 30 ∨ a = 32 ∨ a = 33 ∨ a = 34 ∨ a = 35 ∨ a = 36) ∨ (a = 1 ∨ a = 2 ∨ a = 3 ∨ a = 4 ∨ (∃ i, i < 4 ∧ a = 10 + i) ∨ ∃ i, i < 4 ∧ a = 20 + i) := by decide
  exact q a h
theorem start_Rl {S0 S1 S2 : Sw} {x t row lm cl q1 q2 inc gv sm z out outD : Nat} {r1 r2 ad : Nat → Nat} (hn : nKn (nO S0 x 7) S1 x t row lm cl q1 q2 inc gv sm r1 r2) (hz : sK S1 z = 0) (hm : nMd (nO S1 z 8) S2 z ad) (ho : sK S2 out = 0) (hd : sK (nA S2 out 11 1) outD = 0) : Rl (nA (nA S2 out 11 1) outD 12 1) x z out outD 0 := by
  obtain ⟨E, ⟨e1, e2, e3, e4⟩, er, ⟨e30, e32, e33, e34, e35, e36⟩, ⟨e900, e901, e902⟩, em⟩ := E_ex row inc gv sm x t lm cl q1 q2 z out outD r1 r2 ad
  obtain ⟨nx, ⟨f1, f2, f3, f4, f5, f6, f7, f8, f9, f10, f11⟩, ⟨ht, htv⟩, ⟨l1, l2, l3, l4, l5⟩, ⟨hc, hcn⟩, ⟨hq1, hr1⟩, ⟨hq2, hr2⟩, ⟨hin, hin0⟩, hgv, hsm, -, j1, j2, j12, jr, d1, d2, d3, d4, d5, d6⟩ := hn
  obtain ⟨mx, ml, mf, m0, mD, mT, mI⟩ := hm
  have kx : sK S1 x = 7 := nx.2.trans nO_k
  have kz : sK (nO S1 z 8) z = 8 := nO_k
  have kz2 : sK S2 z = 8 := ml.1
  -- what stood stands
  have up1 : ∀ a, sK S1 a ≠ 0 → (a ≠ z ∧ sK (nO S1 z 8) a ≠ 0) ∧ (sK S2 a ≠ 0 ∧ smA S1 S2 a) := fun a ha => by
    have n1 := k_ne hz ha
    have s1 : smA S1 (nO S1 z 8) a := smA.rf.nO n1
    have a1 : sK (nO S1 z 8) a ≠ 0 := by rw [s1.1]; exact ha
    have s2 := mx.1 a n1 a1
    exact ⟨⟨n1, a1⟩, by rw [s2.1]; exact a1, s1.tr s2⟩
  have up2 : ∀ a, sK S2 a ≠ 0 → sK (nA S2 out 11 1) a ≠ 0 ∧ smA S2 (nA (nA S2 out 11 1) outD 12 1) a := fun a ha => by
    have n1 := k_ne ho ha
    have s1 : smA S2 (nA S2 out 11 1) a := smA.rf.nA n1
    have a1 : sK (nA S2 out 11 1) a ≠ 0 := by rw [s1.1]; exact ha
    exact ⟨a1, s1.nA (k_ne hd a1)⟩
  have up : ∀ a, sK S1 a ≠ 0 → smA S1 (nA (nA S2 out 11 1) outD 12 1) a := fun a ha => (up1 a ha).2.2.tr (up2 a (up1 a ha).2.1).2
  have ko3 : sK (nA S2 out 11 1) out ≠ 0 := by rw [nA_k]; decide
  have so : smA (nA S2 out 11 1) (nA (nA S2 out 11 1) outD 12 1) out := smA.rf.nA (k_ne hd ko3)
  have mk : ∀ f, f ∈ MLf → sK S2 (ad f) ≠ 0 := fun f hf => by
    obtain ⟨q, hq, rfl⟩ := List.mem_map.mp hf
    rw [(ml.2.1 q hq).2.1]
    have w : ∀ q ∈ ML, q.2.1 ≠ 0 := by decide
    exact w q hq
  have mfr : ∀ f, f ∈ MLf → sK (nO S1 z 8) (ad f) = 0 := fun f hf => by
    obtain ⟨q, hq, rfl⟩ := List.mem_map.mp hf
    exact mf q hq
  have aB : ∀ j, j ∈ BS → sK S1 (E j) ≠ 0 := fun j hj => by
    rcases BS_c hj with (rfl | rfl | rfl | rfl | rfl | rfl) | (rfl | rfl | rfl | rfl | ⟨i, hi, rfl⟩ | ⟨i, hi, rfl⟩)
    · rw [e30, kx]; decide
    · rw [e32, ht.1]; decide
    · rw [e33, l1]; decide
    · rw [e34, hc.1]; decide
    · rw [e35, hq1.1]; decide
    · rw [e36, hq2.1]; decide
    · rw [e1, ht.2.2.1]; decide
    · rw [e2, hin.1]; decide
    · rw [e3, hgv.1]; decide
    · rw [e4, hsm.1]; decide
    · rw [(er i hi).1, (hr1 i hi).2.1]; decide
    · rw [(er i hi).2, (hr2 i hi).2.1.1]; decide
  have k9 : ∀ j, (j = 1 ∨ j = 2 ∨ j = 3 ∨ j = 4 ∨ (∃ i, i < 4 ∧ j = 10 + i) ∨ ∃ i, i < 4 ∧ j = 20 + i) → sK S1 (E j) = 9 := fun j hj => by
    rcases hj with rfl | rfl | rfl | rfl | ⟨i, hi, rfl⟩ | ⟨i, hi, rfl⟩
    · rw [e1]; exact ht.2.2.1
    · rw [e2]; exact hin.1
    · rw [e3]; exact hgv.1
    · rw [e4]; exact hsm.1
    · rw [(er i hi).1]; exact (hr1 i hi).2.1
    · rw [(er i hi).2]; exact (hr2 i hi).2.1.1
  have bb9 : ∀ i j, (i = 1 ∨ i = 2 ∨ i = 3 ∨ i = 4 ∨ (∃ a, a < 4 ∧ i = 10 + a) ∨ ∃ a, a < 4 ∧ i = 20 + a) → (j = 1 ∨ j = 2 ∨ j = 3 ∨ j = 4 ∨ (∃ a, a < 4 ∧ j = 10 + a) ∨ ∃ a, a < 4 ∧ j = 20 + a) → E i = E j → i = j := by
    intro i j hi hj e
    rcases hi with rfl | rfl | rfl | rfl | ⟨a, ha, rfl⟩ | ⟨a, ha, rfl⟩ <;> rcases hj with rfl | rfl | rfl | rfl | ⟨c, hc4, rfl⟩ | ⟨c, hc4, rfl⟩ <;> (try simp only [e1, e2, e3, e4] at e)
    · rfl
    · exact absurd e d1
    · exact absurd e d2
    · exact absurd e d3
    · rw [(er c hc4).1] at e; exact absurd e.symm (jr c hc4).1
    · rw [(er c hc4).2] at e; exact absurd e.symm (jr c hc4).2.1
    · exact absurd e.symm d1
    · rfl
    · exact absurd e d4
    · exact absurd e d5
    · rw [(er c hc4).1] at e; exact absurd e.symm (jr c hc4).2.2.1
    · rw [(er c hc4).2] at e; exact absurd e.symm (jr c hc4).2.2.2.1
    · exact absurd e.symm d2
    · exact absurd e.symm d4
    · rfl
    · exact absurd e d6
    · rw [(er c hc4).1] at e; exact absurd e.symm (jr c hc4).2.2.2.2.1
    · rw [(er c hc4).2] at e; exact absurd e.symm (jr c hc4).2.2.2.2.2.1
    · exact absurd e.symm d3
    · exact absurd e.symm d5
    · exact absurd e.symm d6
    · rfl
    · rw [(er c hc4).1] at e; exact absurd e.symm (jr c hc4).2.2.2.2.2.2.1
    · rw [(er c hc4).2] at e; exact absurd e.symm (jr c hc4).2.2.2.2.2.2.2
    · rw [(er a ha).1] at e; exact absurd e (jr a ha).1
    · rw [(er a ha).1] at e; exact absurd e (jr a ha).2.2.1
    · rw [(er a ha).1] at e; exact absurd e (jr a ha).2.2.2.2.1
    · rw [(er a ha).1] at e; exact absurd e (jr a ha).2.2.2.2.2.2.1
    · rw [(er a ha).1, (er c hc4).1] at e; rw [j1 a c ha hc4 e]
    · rw [(er a ha).1, (er c hc4).2] at e; exact absurd e (j12 a c ha hc4)
    · rw [(er a ha).2] at e; exact absurd e (jr a ha).2.1
    · rw [(er a ha).2] at e; exact absurd e (jr a ha).2.2.2.1
    · rw [(er a ha).2] at e; exact absurd e (jr a ha).2.2.2.2.2.1
    · rw [(er a ha).2] at e; exact absurd e (jr a ha).2.2.2.2.2.2.2
    · rw [(er a ha).2, (er c hc4).1] at e; exact absurd e.symm (j12 c a hc4 ha)
    · rw [(er a ha).2, (er c hc4).2] at e; rw [j2 a c ha hc4 e]
  have q12 : q1 ≠ q2 := fun e => by
    have h1 := (hr1 0 (by decide)).1
    have h2 := (hr2 0 (by decide)).1
    rw [e] at h1
    exact j12 0 0 (by decide) (by decide) (Option.some.inj (h1.symm.trans h2))
  have k6 : ∀ j, (j = 30 ∨ j = 32 ∨ j = 33 ∨ j = 34 ∨ j = 35 ∨ j = 36) → sK S1 (E j) = (if j = 30 then 7 else if j = 32 then 6 else if j = 33 then 3 else if j = 34 then 13 else 14) := fun j hj => by
    rcases hj with rfl | rfl | rfl | rfl | rfl | rfl
    · rw [e30]; exact kx
    · rw [e32]; exact ht.1
    · rw [e33]; exact l1
    · rw [e34]; exact hc.1
    · rw [e35]; exact hq1.1
    · rw [e36]; exact hq2.1
  have bb : ∀ i j, i ∈ BS → j ∈ BS → E i = E j → i = j := by
    intro i j hi hj e
    rcases BS_c hi with h6 | h9
    · rcases BS_c hj with g6 | g9
      · have k1 := k6 i h6
        have k2 := k6 j g6
        rw [e, k2] at k1
        rcases h6 with rfl | rfl | rfl | rfl | rfl | rfl <;> rcases g6 with rfl | rfl | rfl | rfl | rfl | rfl <;> first | rfl | (exact absurd k1 (by decide)) | (rw [e35, e36] at e; exact absurd e q12) | (rw [e35, e36] at e; exact absurd e.symm q12)
      · have k1 := k6 i h6
        rw [e, k9 j g9] at k1
        rcases h6 with rfl | rfl | rfl | rfl | rfl | rfl <;> exact absurd k1 (by decide)
    · rcases BS_c hj with g6 | g9
      · have k1 := k6 j g6
        rw [← e, k9 i h9] at k1
        rcases g6 with rfl | rfl | rfl | rfl | rfl | rfl <;> exact absurd k1 (by decide)
      · exact bb9 i j h9 g9 e
  have usj : ∀ j, us (fun _ => 0) j → j ∈ BS ∨ j ∈ MLf ∨ j = 900 ∨ j = 901 ∨ j = 902 := fun j hj => by
    rcases hj with h | h | ⟨c, -, h⟩
    · exact Or.inl h
    · rcases List.mem_append.mp h with h | h
      · exact Or.inr (Or.inl h)
      · exact Or.inr (Or.inr (by simpa using h))
    · rcases h with h | h
      · exact absurd (show (0 : Nat) = 1 from h.1) (by decide)
      · exact absurd (show (0 : Nat) = 2 from h.1) (by decide)
  have bm : ∀ i f, i ∈ BS → f ∈ MLf → E i ≠ E f := fun i f hi hf => by rw [em f hf]; exact k_ne (mfr f hf) (up1 _ (aB i hi)).1.2
  have bz : ∀ i, i ∈ BS → E i ≠ E 900 := fun i hi => by rw [e900]; exact (up1 _ (aB i hi)).1.1
  have bo : ∀ i, i ∈ BS → E i ≠ E 901 := fun i hi => by rw [e901]; exact k_ne ho (up1 _ (aB i hi)).2.1
  have bd : ∀ i, i ∈ BS → E i ≠ E 902 := fun i hi => by rw [e902]; exact k_ne hd (up2 _ (up1 _ (aB i hi)).2.1).1
  have mz : ∀ f, f ∈ MLf → E f ≠ E 900 := fun f hf => by rw [em f hf, e900]; exact fun e => by have := mfr f hf; rw [e, kz] at this; exact absurd this (by decide)
  have mo : ∀ f, f ∈ MLf → E f ≠ E 901 := fun f hf => by rw [em f hf, e901]; exact k_ne ho (mk f hf)
  have md : ∀ f, f ∈ MLf → E f ≠ E 902 := fun f hf => by rw [em f hf, e902]; exact k_ne hd (up2 _ (mk f hf)).1
  have z2 : sK S2 z ≠ 0 := by rw [kz2]; decide
  have zo : E 900 ≠ E 901 := by rw [e900, e901]; exact k_ne ho z2
  have zd : E 900 ≠ E 902 := by rw [e900, e902]; exact k_ne hd (up2 _ z2).1
  have od : E 901 ≠ E 902 := by rw [e901, e902]; exact k_ne hd ko3
  have hE : inE (fun _ => 0) E := by
    intro i j hi hj e
    rcases usj i hi with a | a | rfl | rfl | rfl <;> rcases usj j hj with a' | a' | rfl | rfl | rfl
    · exact bb i j a a' e
    · exact absurd e (bm i j a a')
    · exact absurd e (bz i a)
    · exact absurd e (bo i a)
    · exact absurd e (bd i a)
    · exact absurd e.symm (bm j i a' a)
    · obtain ⟨q, hq, rfl⟩ := List.mem_map.mp a
      obtain ⟨r, hr, rfl⟩ := List.mem_map.mp a'
      rw [em _ a, em _ a'] at e
      exact ml.2.2 q hq r hr e
    · exact absurd e (mz i a)
    · exact absurd e (mo i a)
    · exact absurd e (md i a)
    · exact absurd e.symm (bz j a')
    · exact absurd e.symm (mz j a')
    · rfl
    · exact absurd e zo
    · exact absurd e zd
    · exact absurd e.symm (bo j a')
    · exact absurd e.symm (mo j a')
    · exact absurd e.symm zo
    · rfl
    · exact absurd e od
    · exact absurd e.symm (bd j a')
    · exact absurd e.symm (md j a')
    · exact absurd e.symm zd
    · exact absurd e.symm od
    · rfl
  have sx := up x (by rw [kx]; decide)
  have sl := up lm (by rw [l1]; decide)
  have sc := up cl (by rw [hc.1]; decide)
  have s1 := up q1 (by rw [hq1.1]; decide)
  have s2 := up q2 (by rw [hq2.1]; decide)
  have st := up t (by rw [ht.1]; decide)
  have sr := up row (by rw [ht.2.2.1]; decide)
  have si := up inc (by rw [hin.1]; decide)
  have sg := up gv (by rw [hgv.1]; decide)
  have ss := up sm (by rw [hsm.1]; decide)
  have szz := (up2 z z2).2
  have sm' : ∀ f, f ∈ MLf → smA S2 (nA (nA S2 out 11 1) outD 12 1) (ad f) := fun f hf => (up2 _ (mk f hf)).2
  have rr1 : ∀ i, i < 4 → smA S1 (nA (nA S2 out 11 1) outD 12 1) (r1 i) := fun i hi => up _ (by rw [(hr1 i hi).2.1]; decide)
  have rr2 : ∀ i, i < 4 → smA S1 (nA (nA S2 out 11 1) outD 12 1) (r2 i) := fun i hi => up _ (by rw [(hr2 i hi).2.1.1]; decide)
  have hlay : lay (nA (nA S2 out 11 1) outD 12 1) (E 900) E := by
    obtain ⟨b1, b2, b3⟩ := ml
    rw [e900]
    refine ⟨szz.1.trans b1, fun q hq => ?_, fun q hq r hr e => ?_⟩
    · obtain ⟨c1, c2, c3⟩ := b2 q hq
      rw [em q.1 (ML_f hq)]
      have := sm' q.1 (ML_f hq)
      exact ⟨(szz.2.2.2.2.1 _).trans c1, this.1.trans c2, this.2.1.trans c3⟩
    · rw [em q.1 (ML_f hq), em r.1 (ML_f hr)] at e
      exact b3 q hq r hr e
  have hgst : gst (nA (nA S2 out 11 1) outD 12 1) E := by
    refine ⟨?_, ?_, ?_, ?_, ?_, ?_, fun i hi => ?_, ?_, ?_, ?_, ?_, ?_⟩
    · rw [e30, e32, e33, e34, e35, e36, e2, e3, e4]
      have r := sx.2.2.2.2.1
      exact ⟨sx.1.trans kx, (r _).trans f1, (r _).trans f2, (r _).trans f3, (r _).trans f4, (r _).trans f7, (r _).trans f9, (r _).trans f10, (r _).trans f11⟩
    · rw [e32, e1]; exact tC.sm st sr ht
    · rw [e33]; exact sl.1.trans l1
    · rw [e34]; exact ⟨sc.1.trans hc.1, sc.2.1.trans hc.2.1, hc.2.2⟩
    · rw [e35]; exact ⟨s1.1.trans hq1.1, s1.2.1.trans hq1.2.1, hq1.2.2⟩
    · rw [e36]; exact ⟨s2.1.trans hq2.1, s2.2.1.trans hq2.2.1, hq2.2.2⟩
    · rw [e35, e36, (er i hi).1, (er i hi).2]
      exact ⟨(s1.2.2.2.2.2.2.1 i).trans (hr1 i hi).1, isI.s2 (rr1 i hi) (hr1 i hi).2, (s2.2.2.2.2.2.2.1 i).trans (hr2 i hi).1, isI.s2 (rr2 i hi) (hr2 i hi).2.1⟩
    · rw [e2]; exact isI.s2 si hin
    · rw [e3]; exact isI.s2 sg hgv
    · rw [e4]; exact isI.s2 ss hsm
    · rw [e901]; exact ⟨so.1.trans nA_k, so.2.1.trans nA_n, by decide⟩
    · rw [e902]; exact ⟨nA_k, nA_n, by decide⟩
  refine ⟨E, fun _ => 0, fun j f => fI (nA (nA S2 out 11 1) outD 12 1) f (E j), fun j f => fJ (nA (nA S2 out 11 1) outD 12 1) f (E j), fun j i => aI (nA (nA S2 out 11 1) outD 12 1) (E j) i, fun f i => aI (nA (nA S2 out 11 1) outD 12 1) (E f) i, fun f => fI (nA (nA S2 out 11 1) outD 12 1) f (E 900), fun i => aD (nA (nA S2 out 11 1) outD 12 1) (E 819) i, 0, 0, 0, 0, e30, e900, e901, e902, ⟨hE, ⟨hgst, fun c hc6 => Or.inl ⟨rfl, by rw [e34]; exact (sc.2.2.2.2.2.2.1 c).trans (hcn c)⟩⟩, hlay, fun j _ _ => ⟨fun _ => rfl, fun _ => rfl, fun _ => rfl⟩, fun _ _ _ => rfl, fun _ _ => rfl, fun _ => rfl⟩, ⟨⟨?_, ?_, ?_, ?_, ?_, ?_⟩, fun c hc6 => Or.inl ⟨rfl, ?_, fun p hp => absurd hp (by omega)⟩⟩⟩
  · simp only [e30, e900]
    have r := sx.2.2.1
    exact ⟨(r _).trans f5, by decide, (r _).trans f6, by decide, (r _).trans f8, by decide, (szz.2.2.1 _).trans (mI _)⟩
  · simp only [e33, e900]
    have r := sl.2.2.1
    have w : ∀ f, fI (nA (nA S2 out 11 1) outD 12 1) f z = if f = 832 then 1 else if f = 833 then 4096 else 0 := fun f => (szz.2.2.1 f).trans (mI f)
    exact ⟨((r _).trans l2).trans (w 832).symm, Or.inr (w 832), ((r _).trans l3).trans (w 833).symm, ((r _).trans l4).trans (w 835).symm, (sl.2.2.2.1 _).trans l5, w 834, by decide⟩
  · intro i hi
    simp only [e1, em 801 (by decide)]
    rw [sr.2.2.2.2.2.1, (sm' 801 (by decide)).2.2.2.2.2.1, htv, mT]
  · intro p hp; exact absurd hp (by omega)
  · intro p hp j hj
    have h4 : (0 + 4 - p) % 4 < 4 := by omega
    simp only [(er _ h4).2, em 828 (by decide), em 829 (by decide)]
    rw [(rr2 _ h4).2.2.2.2.2.1, (rr2 _ h4).2.2.2.2.2.1, (hr2 _ h4).2.2, (hr2 _ h4).2.2, (sm' 828 (by decide)).2.2.2.2.2.1, (sm' 829 (by decide)).2.2.2.2.2.1, m0 (828, 9, 96) (by decide) (by decide), m0 (829, 9, 96) (by decide) (by decide)]
    exact ⟨rfl, rfl⟩
  · intro j hj
    simp only [e2, em 830 (by decide), em 831 (by decide)]
    rw [si.2.2.2.2.2.1, si.2.2.2.2.2.1, hin0, hin0, (sm' 830 (by decide)).2.2.2.2.2.1, (sm' 831 (by decide)).2.2.2.2.2.1, m0 (830, 9, 24) (by decide) (by decide), m0 (831, 9, 24) (by decide) (by decide)]
    exact ⟨rfl, rfl⟩
  · simp only [em 802 (by decide)]
    rw [(sm' 802 (by decide)).2.2.2.2.2.1, m0 (802, 10, 6) (by decide) (by decide)]
