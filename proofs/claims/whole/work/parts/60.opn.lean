/-! ===== open: the views with a new client ===== -/
theorem BS_lt {a : Nat} (h : a ∈ BS) : a < 100 := by
  have q : ∀ a ∈ BS, a < 100 := by decide
  exact q a h
theorem MS_ge {a : Nat} (h : a ∈ MS) : 800 < a := by
  have q : ∀ a ∈ MS, 800 < a := by decide
  exact q a h
section
variable {S : Sw} {E κ : Nat → Nat} {Ui : Nat → Nat → Int32} {Uj : Nat → Nat → Int64} {Ua : Nat → Nat → Int32} {V : Nat → Nat → Int32} {W : Nat → Int32} {D : Nat → UInt64}
theorem gst.ee {A : Sw} {E' : Nat → Nat} (h : ∀ j, (j < 100 ∨ 800 < j) → E' j = E j) (g : gst A E) : gst A E' := by
  obtain ⟨g1, g2, g3, g4, g5, g6, g7, g8, g9, g10, g11, g12⟩ := g
  refine ⟨?_, ?_, ?_, ?_, ?_, ?_, fun i hi => ?_, ?_, ?_, ?_, ?_, ?_⟩
  · rw [h 30 (by decide), h 32 (by decide), h 33 (by decide), h 34 (by decide), h 35 (by decide), h 36 (by decide), h 2 (by decide), h 3 (by decide), h 4 (by decide)]; exact g1
  · rw [h 32 (by decide), h 1 (by decide)]; exact g2
  · rw [h 33 (by decide)]; exact g3
  · rw [h 34 (by decide)]; exact g4
  · rw [h 35 (by decide)]; exact g5
  · rw [h 36 (by decide)]; exact g6
  · rw [h 35 (by decide), h 36 (by decide), h (10 + i) (by omega), h (20 + i) (by omega)]; exact g7 i hi
  · rw [h 2 (by decide)]; exact g8
  · rw [h 3 (by decide)]; exact g9
  · rw [h 4 (by decide)]; exact g10
  · rw [h 901 (by decide)]; exact g11
  · rw [h 902 (by decide)]; exact g12
theorem pst.ee {A : Sw} {E' : Nat → Nat} {c : Nat} (h4 : E' 34 = E 34) (h2 : E' 32 = E 32) (h : ∀ i, i < 8 → E' (uc c + i) = E (uc c + i)) (g : pst A E c) : pst A E' c := by
  have e0 : E' (uc c) = E (uc c) := h 0 (by decide)
  unfold pst at *
  rw [h4, h2, e0, h 1 (by decide), h 2 (by decide), h 3 (by decide), h 4 (by decide), h 5 (by decide)]
  exact g
theorem lst.ee {A : Sw} {E' : Nat → Nat} {c : Nat} (h4 : E' 34 = E 34) (h2 : E' 32 = E 32) (h : ∀ i, i < 8 → E' (uc c + i) = E (uc c + i)) (g : lst A E c) : lst A E' c := by
  have e0 : E' (uc c) = E (uc c) := h 0 (by decide)
  unfold lst at *
  rw [h4, h2, e0, h 1 (by decide), h 2 (by decide), h 3 (by decide), h 4 (by decide), h 5 (by decide), h 6 (by decide), h 7 (by decide)]
  exact g
theorem ML_f {q : Nat × Nat × Nat} (h : q ∈ ML) : q.1 ∈ MLf := List.mem_map_of_mem h
theorem RV.opn {S1 : Sw} {k0 : Nat} (hV : RV S1 E κ Ui Uj Ua V W D) (hk : k0 < 6) (h0 : κ k0 = 0) (kk sz : Nat) (hkk : (kk = 1 ∧ sz = 6) ∨ (kk = 2 ∧ sz = 8)) (N : Nat → Nat) (x : Nat) (hfresh : ∀ i, i < sz → ∀ j, us κ j → E j ≠ N i) (hinj : ∀ i j, i < sz → j < sz → N i = N j → i = j)
    (hstr : ∀ F : Nat → Nat, (∀ i, i < 8 → F (uc k0 + i) = N i) → F 34 = E 34 → F 32 = E 32 → (kk = 1 ∧ pst (wR S1 (E 34) k0 (some x)) F k0) ∨ (kk = 2 ∧ lst (wR S1 (E 34) k0 (some x)) F k0)) :
    ∃ (E' κ' : Nat → Nat) (Ui' : Nat → Nat → Int32) (Uj' : Nat → Nat → Int64) (Ua' : Nat → Nat → Int32), (∀ j, (j < 100 ∨ 800 < j) → E' j = E j) ∧ RV (wR S1 (E 34) k0 (some x)) E' κ' Ui' Uj' Ua' V W D ∧ κ' k0 = kk ∧ (∀ d, d ≠ k0 → κ' d = κ d) ∧ agG Ui Uj Ua V W Ui' Uj' Ua' V W ∧ (∀ d, d < 6 → d ≠ k0 → agU Ui Uj Ua Ui' Uj' Ua' d) ∧
      ∀ i, i < 8 → (∀ f, Ui' (uc k0 + i) f = fI S1 f (N i)) ∧ (∀ f, Uj' (uc k0 + i) f = fJ S1 f (N i)) ∧ ∀ a, Ua' (uc k0 + i) a = aI S1 (N i) a := by
  have hu := uc_ge k0
  have hl := uc_lt hk
  obtain ⟨h1, ⟨hg, hc⟩, h3, h4, h5⟩ := hV
  obtain ⟨E', hE'⟩ : ∃ E' : Nat → Nat, E' = fun a => if uc k0 ≤ a ∧ a < uc k0 + 8 then N (a - uc k0) else E a := ⟨_, rfl⟩
  obtain ⟨κ', hκ'⟩ : ∃ κ' : Nat → Nat, κ' = fun c => if c = k0 then kk else κ c := ⟨_, rfl⟩
  have eo : ∀ a, ¬ (uc k0 ≤ a ∧ a < uc k0 + 8) → E' a = E a := fun a ha => by rw [hE']; exact if_neg ha
  have en : ∀ i, i < 8 → E' (uc k0 + i) = N i := fun i hi => by rw [hE']; show (if _ then _ else _) = _; rw [if_pos (by omega), Nat.add_sub_cancel_left]
  have ko : ∀ d, d ≠ k0 → κ' d = κ d := fun d hd => by rw [hκ']; exact if_neg hd
  have kn : κ' k0 = kk := by rw [hκ']; exact if_pos rfl
  have ee : ∀ j, (j < 100 ∨ 800 < j) → E' j = E j := fun j hj => eo j (by omega)
  have usc : ∀ a, us κ' a → (us κ a ∧ ¬ (uc k0 ≤ a ∧ a < uc k0 + 8)) ∨ ∃ i, i < sz ∧ a = uc k0 + i := by
    intro a ha
    rcases ha with b | m | ⟨c, hc6, h⟩
    · have := BS_lt b; exact Or.inl ⟨us.b b, by omega⟩
    · have := MS_ge m; exact Or.inl ⟨us.m m, by omega⟩
    · by_cases e : c = k0
      · rw [e, kn] at h
        exact Or.inr ⟨a - uc k0, by omega, by omega⟩
      · rw [ko c e] at h
        refine Or.inl ⟨Or.inr (Or.inr ⟨c, hc6, h⟩), ?_⟩
        have : c ≠ k0 := e
        unfold uc at *
        omega
  have n5 : E 35 ≠ E 34 := h1.ne (us.b (by decide)) (us.b (by decide)) (by decide)
  have n6 : E 36 ≠ E 34 := h1.ne (us.b (by decide)) (us.b (by decide)) (by decide)
  refine ⟨E', κ', fun a f => if uc k0 ≤ a ∧ a < uc k0 + 8 then fI S1 f (N (a - uc k0)) else Ui a f, fun a f => if uc k0 ≤ a ∧ a < uc k0 + 8 then fJ S1 f (N (a - uc k0)) else Uj a f, fun a f => if uc k0 ≤ a ∧ a < uc k0 + 8 then aI S1 (N (a - uc k0)) f else Ua a f, ee, ⟨?_, ⟨?_, ?_⟩, ?_, ?_, ?_⟩, kn, ko, ?_, ?_, ?_⟩
  · intro a c ha hc' e
    rcases usc a ha with ⟨u1, v1⟩ | ⟨i, hi, rfl⟩
    · rcases usc c hc' with ⟨u2, v2⟩ | ⟨i2, hi2, rfl⟩
      · rw [eo a v1, eo c v2] at e; exact h1 a c u1 u2 e
      · rw [eo a v1, en i2 (by omega)] at e; exact absurd e (hfresh i2 hi2 a u1)
    · rcases usc c hc' with ⟨u2, v2⟩ | ⟨i2, hi2, rfl⟩
      · rw [eo c v2, en i (by omega)] at e; exact absurd e.symm (hfresh i hi c u2)
      · rw [en i (by omega), en i2 (by omega)] at e; rw [hinj i i2 hi hi2 e]
  · refine gst.ee ee ?_
    obtain ⟨g1, g2, g3, g4, g5, g6, g7, g8⟩ := hg
    refine ⟨g1, g2, g3, g4, g5, g6, fun i hi => ?_, g8⟩
    obtain ⟨a1, a2, a3, a4⟩ := g7 i hi
    exact ⟨(if_neg (fun q => n5 q.1)).trans a1, a2, (if_neg (fun q => n6 q.1)).trans a3, a4⟩
  · intro c hc6
    by_cases e : c = k0
    · rw [e, kn]; exact Or.inr (hstr E' en (ee 34 (by decide)) (ee 32 (by decide)))
    · rw [ko c e]
      have er : aR (wR S1 (E 34) k0 (some x)) (E 34) c = aR S1 (E 34) c := if_neg (fun q => e q.2)
      have eu : ∀ i, i < 8 → E' (uc c + i) = E (uc c + i) := fun i hi => eo _ (by have := uc_ne (c := c) (d := k0) (fun q => e q.symm) i (by omega); omega)
      rcases hc c hc6 with ⟨k1, k2⟩ | ⟨k1, k2⟩ | ⟨k1, k2⟩
      · exact Or.inl ⟨k1, by rw [ee 34 (by decide)]; exact er.trans k2⟩
      · exact Or.inr (Or.inl ⟨k1, pst.ee (ee 34 (by decide)) (ee 32 (by decide)) eu ⟨er.trans k2.1, k2.2⟩⟩)
      · exact Or.inr (Or.inr ⟨k1, lst.ee (ee 34 (by decide)) (ee 32 (by decide)) eu ⟨er.trans k2.1, k2.2⟩⟩)
  · obtain ⟨l1, l2, l3⟩ := h3
    have em : ∀ q, q ∈ ML → E' q.1 = E q.1 := fun q hq => ee q.1 (Or.inr (MLf_ge (ML_f hq)).1)
    refine ⟨by rw [ee 900 (by decide)]; exact l1, fun q hq => ?_, fun q hq r hr e => ?_⟩
    · rw [ee 900 (by decide), em q hq]; exact l2 q hq
    · rw [em q hq, em r hr] at e; exact l3 q hq r hr e
  · intro a ha h8
    rcases usc a ha with ⟨u1, v1⟩ | ⟨i, hi, rfl⟩
    · rw [eo a v1]
      obtain ⟨q1, q2, q3⟩ := h4 a u1 h8
      exact ⟨fun f => (q1 f).trans (if_neg v1).symm, fun f => (q2 f).trans (if_neg v1).symm, fun f => (q3 f).trans (if_neg v1).symm⟩
    · rw [en i (by omega)]
      refine ⟨fun f => ?_, fun f => ?_, fun f => ?_⟩
      · show _ = if _ then _ else _
        rw [if_pos (by omega), Nat.add_sub_cancel_left]; rfl
      · show _ = if _ then _ else _
        rw [if_pos (by omega), Nat.add_sub_cancel_left]; rfl
      · show _ = if _ then _ else _
        rw [if_pos (by omega), Nat.add_sub_cancel_left]; rfl
  · exact ⟨fun f hf i => by rw [ee f (Or.inr (MLf_ge hf).1)]; exact h5.1 f hf i, fun f hf => by rw [ee 900 (by decide)]; exact h5.2.1 f hf, fun i => by rw [ee 819 (by decide)]; exact h5.2.2 i⟩
  · exact ⟨fun j hj => ⟨fun f => if_neg (by omega), fun f => if_neg (by omega), fun f => if_neg (by omega)⟩, fun _ _ => rfl, rfl⟩
  · intro d hd hne j h1 h2
    have := uc_n0 (c := k0) (d := d) hne
    have hj : ¬ (uc k0 ≤ j ∧ j < uc k0 + 8) := by unfold uc at *; omega
    exact ⟨fun f => if_neg hj, fun f => if_neg hj, fun f => if_neg hj⟩
  · intro i hi
    refine ⟨fun f => ?_, fun f => ?_, fun f => ?_⟩
    · show (if _ then _ else _) = _
      rw [if_pos (by omega), Nat.add_sub_cancel_left]
    · show (if _ then _ else _) = _
      rw [if_pos (by omega), Nat.add_sub_cancel_left]
    · show (if _ then _ else _) = _
      rw [if_pos (by omega), Nat.add_sub_cancel_left]
/-- what stands is alive -/
theorem RV.al (hV : RV S E κ Ui Uj Ua V W D) {j : Nat} (h : us κ j) : sK S (E j) ≠ 0 := by
  obtain ⟨-, ⟨hg, hc⟩, h3, -, -⟩ := hV
  rcases h with h | h | ⟨c, hc6, h⟩
  · obtain ⟨g1, g2, g3, g4, g5, g6, g7, g8, g9, g10, g11, g12⟩ := hg
    have q : ∀ a ∈ BS, a = 1 ∨ a = 2 ∨ a = 3 ∨ a = 4 ∨ (∃ i, i < 4 ∧ a = 10 + i) ∨ (∃ i, i < 4 ∧ a = 20 + i) ∨ a = 30 ∨ a = 32 ∨ a = 33 ∨ a = 34 ∨ a = 35 ∨ a = 36 := by decide
    rcases q j h with rfl | rfl | rfl | rfl | ⟨i, hi, rfl⟩ | ⟨i, hi, rfl⟩ | rfl | rfl | rfl | rfl | rfl | rfl
    · rw [g2.2.2.1]; decide
    · rw [g8.1]; decide
    · rw [g9.1]; decide
    · rw [g10.1]; decide
    · rw [(g7 i hi).2.1.1]; decide
    · rw [(g7 i hi).2.2.2.1]; decide
    · rw [g1.1]; decide
    · rw [g2.1]; decide
    · rw [g3]; decide
    · rw [g4.1]; decide
    · rw [g5.1]; decide
    · rw [g6.1]; decide
  · rcases List.mem_append.mp h with hm | hm
    · obtain ⟨q, hq, rfl⟩ := List.mem_map.mp hm
      rw [(h3.2.1 q hq).2.1]
      have z : ∀ q ∈ ML, q.2.1 ≠ 0 := by decide
      exact z q hq
    · have z : j = 900 ∨ j = 901 ∨ j = 902 := by simpa using hm
      rcases z with rfl | rfl | rfl
      · rw [h3.1]; decide
      · rw [hg.2.2.2.2.2.2.2.2.2.2.1.1]; decide
      · rw [hg.2.2.2.2.2.2.2.2.2.2.2.1]; decide
  · rcases hc c hc6 with ⟨k1, -⟩ | ⟨k1, p⟩ | ⟨k1, p⟩
    · rw [k1] at h; omega
    · rw [k1] at h
      obtain ⟨p1, p2, p3, p4, p5, p6, p7, p8⟩ := p
      have z : j = uc c ∨ j = uc c + 1 ∨ j = uc c + 2 ∨ j = uc c + 3 ∨ j = uc c + 4 ∨ j = uc c + 5 := by omega
      rcases z with rfl | rfl | rfl | rfl | rfl | rfl
      · rw [p2]; decide
      · rw [p6.1]; decide
      · rw [p7.1]; decide
      · rw [p7.2.2.2.1.1]; decide
      · rw [p7.2.2.2.2.1]; decide
      · rw [p8.1]; decide
    · rw [k1] at h
      obtain ⟨p1, p2, p3, p4, p5, p6, p7, p8⟩ := p
      have z : j = uc c ∨ j = uc c + 1 ∨ j = uc c + 2 ∨ j = uc c + 3 ∨ j = uc c + 4 ∨ j = uc c + 5 ∨ j = uc c + 6 ∨ j = uc c + 7 := by omega
      rcases z with rfl | rfl | rfl | rfl | rfl | rfl | rfl | rfl
      · rw [p2]; decide
      · rw [p6.1]; decide
      · rw [p7.1]; decide
      · rw [p7.2.2.2.1.1]; decide
      · rw [p7.2.2.2.2.1]; decide
      · rw [p8.1]; decide
      · rw [p8.2.2.2.1.1]; decide
      · rw [p8.2.2.2.2.1]; decide
theorem isI.s2 {S T : Sw} {z N : Nat} (h : smA S T z) (q : isI S z N) : isI T z N := ⟨h.1.trans q.1, h.2.1.trans q.2.1, q.2.2⟩
/-- the same things, in another pool -/
theorem RV.sm {S1 : Sw} (hV : RV S E κ Ui Uj Ua V W D) (hs : ∀ j, us κ j → smA S S1 (E j)) : RV S1 E κ Ui Uj Ua V W D := by
  obtain ⟨h1, ⟨hg, hc⟩, h3, h4, h5⟩ := hV
  have sb : ∀ j, j ∈ BS → smA S S1 (E j) := fun j hj => hs j (us.b hj)
  have sm : ∀ j, j ∈ MS → smA S S1 (E j) := fun j hj => hs j (us.m hj)
  refine ⟨h1, ⟨?_, ?_⟩, ?_, ?_, ?_⟩
  · obtain ⟨g1, g2, g3, g4, g5, g6, g7, g8, g9, g10, g11, g12⟩ := hg
    have s30 := sb 30 (by decide)
    have s32 := sb 32 (by decide)
    refine ⟨?_, tC.sm s32 (sb 1 (by decide)) g2, (sb 33 (by decide)).1.trans g3, ⟨(sb 34 (by decide)).1.trans g4.1, (sb 34 (by decide)).2.1.trans g4.2.1, g4.2.2⟩, ⟨(sb 35 (by decide)).1.trans g5.1, (sb 35 (by decide)).2.1.trans g5.2.1, g5.2.2⟩, ⟨(sb 36 (by decide)).1.trans g6.1, (sb 36 (by decide)).2.1.trans g6.2.1, g6.2.2⟩, fun i hi => ?_, isI.s2 (sb 2 (by decide)) g8, isI.s2 (sb 3 (by decide)) g9, isI.s2 (sb 4 (by decide)) g10, ⟨(sm 901 (by decide)).1.trans g11.1, (sm 901 (by decide)).2.1.trans g11.2.1, g11.2.2⟩, ⟨(sm 902 (by decide)).1.trans g12.1, (sm 902 (by decide)).2.1.trans g12.2.1, g12.2.2⟩⟩
    · obtain ⟨a1, a2, a3, a4, a5, a6, a7, a8, a9⟩ := g1
      have r := s30.2.2.2.2.1
      exact ⟨s30.1.trans a1, (r _).trans a2, (r _).trans a3, (r _).trans a4, (r _).trans a5, (r _).trans a6, (r _).trans a7, (r _).trans a8, (r _).trans a9⟩
    · obtain ⟨a1, a2, a3, a4⟩ := g7 i hi
      have m1 : 10 + i ∈ BS := by
        have : i = 0 ∨ i = 1 ∨ i = 2 ∨ i = 3 := by omega
        rcases this with rfl | rfl | rfl | rfl <;> decide
      have m2 : 20 + i ∈ BS := by
        have : i = 0 ∨ i = 1 ∨ i = 2 ∨ i = 3 := by omega
        rcases this with rfl | rfl | rfl | rfl <;> decide
      exact ⟨((sb 35 (by decide)).2.2.2.2.2.2.1 i).trans a1, isI.s2 (sb _ m1) a2, ((sb 36 (by decide)).2.2.2.2.2.2.1 i).trans a3, isI.s2 (sb _ m2) a4⟩
  · intro c hc6
    have s34 := (sb 34 (by decide)).2.2.2.2.2.2.1 c
    rcases hc c hc6 with ⟨k1, k2⟩ | ⟨k1, p⟩ | ⟨k1, p⟩
    · exact Or.inl ⟨k1, s34.trans k2⟩
    · have s : ∀ i, i < 6 → smA S S1 (E (uc c + i)) := fun i hi => hs _ (us.p hc6 k1 hi)
      have s0 : smA S S1 (E (uc c)) := s 0 (by decide)
      obtain ⟨p1, p2, p3, p4, p5, p6, p7, p8⟩ := p
      exact Or.inr (Or.inl ⟨k1, s34.trans p1, s0.1.trans p2, (s0.2.2.2.2.1 _).trans p3, (s0.2.2.2.2.1 _).trans p4, (s0.2.2.2.2.1 _).trans p5, ⟨(s 1 (by decide)).1.trans p6.1, ((s 1 (by decide)).2.2.2.2.1 _).trans p6.2⟩, ⟨(s 2 (by decide)).1.trans p7.1, ((s 2 (by decide)).2.2.2.2.1 _).trans p7.2.1, ((s 2 (by decide)).2.2.2.2.1 _).trans p7.2.2.1, isI.s2 (s 3 (by decide)) p7.2.2.2.1, isI.s2 (s 4 (by decide)) p7.2.2.2.2⟩, isI.s2 (s 5 (by decide)) p8⟩)
    · have s : ∀ i, i < 8 → smA S S1 (E (uc c + i)) := fun i hi => hs _ (us.l hc6 k1 hi)
      have s0 : smA S S1 (E (uc c)) := s 0 (by decide)
      obtain ⟨p1, p2, p3, p4, p5, p6, p7, p8⟩ := p
      exact Or.inr (Or.inr ⟨k1, s34.trans p1, s0.1.trans p2, (s0.2.2.2.2.1 _).trans p3, (s0.2.2.2.2.1 _).trans p4, (s0.2.2.2.2.1 _).trans p5, ⟨(s 1 (by decide)).1.trans p6.1, ((s 1 (by decide)).2.2.2.2.1 _).trans p6.2⟩, ⟨(s 2 (by decide)).1.trans p7.1, ((s 2 (by decide)).2.2.2.2.1 _).trans p7.2.1, ((s 2 (by decide)).2.2.2.2.1 _).trans p7.2.2.1, isI.s2 (s 3 (by decide)) p7.2.2.2.1, isI.s2 (s 4 (by decide)) p7.2.2.2.2⟩, ⟨(s 5 (by decide)).1.trans p8.1, ((s 5 (by decide)).2.2.2.2.1 _).trans p8.2.1, ((s 5 (by decide)).2.2.2.2.1 _).trans p8.2.2.1, isI.s2 (s 6 (by decide)) p8.2.2.2.1, isI.s2 (s 7 (by decide)) p8.2.2.2.2⟩⟩)
  · obtain ⟨l1, l2, l3⟩ := h3
    refine ⟨(sm 900 (by decide)).1.trans l1, fun q hq => ?_, l3⟩
    obtain ⟨b1, b2, b3⟩ := l2 q hq
    have sq : smA S S1 (E q.1) := hs _ (us.f (ML_f hq))
    exact ⟨((sm 900 (by decide)).2.2.2.2.1 _).trans b1, sq.1.trans b2, sq.2.1.trans b3⟩
  · intro j hj h8
    obtain ⟨q1, q2, q3⟩ := h4 j hj h8
    have s := hs j hj
    exact ⟨fun f => (s.2.2.1 f).trans (q1 f), fun f => (s.2.2.2.1 f).trans (q2 f), fun i => (s.2.2.2.2.2.1 i).trans (q3 i)⟩
  · exact ⟨fun f hf i => ((hs _ (us.f hf)).2.2.2.2.2.1 i).trans (h5.1 f hf i), fun f hf => ((sm 900 (by decide)).2.2.1 f).trans (h5.2.1 f hf), fun i => ((sm 819 (by decide)).2.2.2.2.2.2.2.1 i).trans (h5.2.2 i)⟩
end
