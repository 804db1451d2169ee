/-! ===== roles, structure, views ===== -/
def uc (c : Nat) : Nat := 100 + 20 * c
def BS : List Nat := [1, 2, 3, 4, 10, 11, 12, 13, 20, 21, 22, 23, 30, 32, 33, 34, 35, 36]
def MLf : List Nat := ML.map (·.1)
def MS : List Nat := MLf ++ [900, 901, 902]
def us (κ : Nat → Nat) (j : Nat) : Prop := j ∈ BS ∨ j ∈ MS ∨ ∃ c, c < 6 ∧ ((κ c = 1 ∧ uc c ≤ j ∧ j < uc c + 6) ∨ (κ c = 2 ∧ uc c ≤ j ∧ j < uc c + 8))
theorem us.b {κ : Nat → Nat} {j : Nat} (h : j ∈ BS) : us κ j := Or.inl h
theorem us.m {κ : Nat → Nat} {j : Nat} (h : j ∈ MS) : us κ j := Or.inr (Or.inl h)
theorem us.p {κ : Nat → Nat} {c i : Nat} (hc : c < 6) (hk : κ c = 1) (hi : i < 6) : us κ (uc c + i) := Or.inr (Or.inr ⟨c, hc, Or.inl ⟨hk, Nat.le_add_right _ _, Nat.add_lt_add_left hi _⟩⟩)
theorem us.l {κ : Nat → Nat} {c i : Nat} (hc : c < 6) (hk : κ c = 2) (hi : i < 8) : us κ (uc c + i) := Or.inr (Or.inr ⟨c, hc, Or.inr ⟨hk, Nat.le_add_right _ _, Nat.add_lt_add_left hi _⟩⟩)
theorem us.f {κ : Nat → Nat} {f : Nat} (h : f ∈ MLf) : us κ f := us.m (List.mem_append_left _ h)
theorem MLf_ge {f : Nat} (h : f ∈ MLf) : 800 < f ∧ f < 900 := by
  have q : ∀ f ∈ MLf, 800 < f ∧ f < 900 := by decide
  exact q f h
def inE (κ E : Nat → Nat) : Prop := ∀ i j, us κ i → us κ j → E i = E j → i = j
theorem inE.ne {κ E : Nat → Nat} (h : inE κ E) {i j : Nat} (hi : us κ i) (hj : us κ j) (hne : i ≠ j) : E i ≠ E j := fun e => hne (h i j hi hj e)
def pst (A : Sw) (E : Nat → Nat) (c : Nat) : Prop := aR A (E 34) c = some (E (uc c)) ∧ sK A (E (uc c)) = 5 ∧ fR A 505 (E (uc c)) = some (E (uc c + 1)) ∧ fR A 506 (E (uc c)) = some (E (uc c + 2)) ∧ fR A 507 (E (uc c)) = some (E (uc c + 5)) ∧ (sK A (E (uc c + 1)) = 1 ∧ fR A 100 (E (uc c + 1)) = some (E 32)) ∧ (sK A (E (uc c + 2)) = 2 ∧ fR A 200 (E (uc c + 2)) = some (E (uc c + 3)) ∧ fR A 201 (E (uc c + 2)) = some (E (uc c + 4)) ∧ isI A (E (uc c + 3)) 256 ∧ isI A (E (uc c + 4)) 256) ∧ isI A (E (uc c + 5)) 4
def lst (A : Sw) (E : Nat → Nat) (c : Nat) : Prop := aR A (E 34) c = some (E (uc c)) ∧ sK A (E (uc c)) = 4 ∧ fR A 405 (E (uc c)) = some (E (uc c + 1)) ∧ fR A 406 (E (uc c)) = some (E (uc c + 2)) ∧ fR A 407 (E (uc c)) = some (E (uc c + 5)) ∧ (sK A (E (uc c + 1)) = 1 ∧ fR A 100 (E (uc c + 1)) = some (E 32)) ∧ (sK A (E (uc c + 2)) = 2 ∧ fR A 200 (E (uc c + 2)) = some (E (uc c + 3)) ∧ fR A 201 (E (uc c + 2)) = some (E (uc c + 4)) ∧ isI A (E (uc c + 3)) 256 ∧ isI A (E (uc c + 4)) 256) ∧ (sK A (E (uc c + 5)) = 2 ∧ fR A 200 (E (uc c + 5)) = some (E (uc c + 6)) ∧ fR A 201 (E (uc c + 5)) = some (E (uc c + 7)) ∧ isI A (E (uc c + 6)) 256 ∧ isI A (E (uc c + 7)) 256)
def gst (A : Sw) (E : Nat → Nat) : Prop := (sK A (E 30) = 7 ∧ fR A 700 (E 30) = some (E 32) ∧ fR A 701 (E 30) = some (E 33) ∧ fR A 702 (E 30) = some (E 34) ∧ fR A 703 (E 30) = some (E 35) ∧ fR A 706 (E 30) = some (E 36) ∧ fR A 708 (E 30) = some (E 2) ∧ fR A 709 (E 30) = some (E 3) ∧ fR A 710 (E 30) = some (E 4)) ∧ tC A (E 32) (E 1) ∧ sK A (E 33) = 3 ∧ isC A (E 34) 6 ∧ isG A (E 35) 4 ∧ isG A (E 36) 4 ∧ (∀ i, i < 4 → aR A (E 35) i = some (E (10 + i)) ∧ isI A (E (10 + i)) 48 ∧ aR A (E 36) i = some (E (20 + i)) ∧ isI A (E (20 + i)) 48) ∧ isI A (E 2) 48 ∧ isI A (E 3) 48 ∧ isI A (E 4) 48 ∧ isL A (E 901) 1 ∧ isD A (E 902) 1
def cst (A : Sw) (E κ : Nat → Nat) : Prop := gst A E ∧ ∀ c, c < 6 → (κ c = 0 ∧ aR A (E 34) c = none) ∨ (κ c = 1 ∧ pst A E c) ∨ (κ c = 2 ∧ lst A E c)
def shp (A A' : Sw) : Prop := sK A' = sK A ∧ fR A' = fR A ∧ aN A' = aN A ∧ aR A' = aR A
theorem cst.shp {A A' : Sw} {E κ : Nat → Nat} (h : shp A A') (q : cst A E κ) : cst A' E κ := by
  obtain ⟨h1, h2, h3, h4⟩ := h
  unfold cst gst pst lst tC isI isC isG isL isD at *
  rw [h1, h2, h3, h4]
  exact q
theorem lay.shp {A A' : Sw} {z : Nat} {ad : Nat → Nat} (h : shp A A') (q : lay A z ad) : lay A' z ad := by
  obtain ⟨h1, h2, h3, h4⟩ := h
  unfold lay at *
  rw [h1, h2, h3]
  exact q
def cvw (A : Sw) (E κ : Nat → Nat) (Ui : Nat → Nat → Int32) (Uj : Nat → Nat → Int64) (Ua : Nat → Nat → Int32) : Prop := ∀ j, us κ j → j < 800 → (∀ f, fI A f (E j) = Ui j f) ∧ (∀ f, fJ A f (E j) = Uj j f) ∧ ∀ i, aI A (E j) i = Ua j i
def mvw (B : Sw) (E : Nat → Nat) (V : Nat → Nat → Int32) (W : Nat → Int32) (D : Nat → UInt64) : Prop := (∀ f, f ∈ MLf → ∀ i, aI B (E f) i = V f i) ∧ (∀ f, 800 < f → fI B f (E 900) = W f) ∧ ∀ i, aD B (E 819) i = D i
def RV (S : Sw) (E κ : Nat → Nat) (Ui : Nat → Nat → Int32) (Uj : Nat → Nat → Int64) (Ua : Nat → Nat → Int32) (V : Nat → Nat → Int32) (W : Nat → Int32) (D : Nat → UInt64) : Prop := inE κ E ∧ cst S E κ ∧ lay S (E 900) E ∧ cvw S E κ Ui Uj Ua ∧ mvw S E V W D
def uq2 {α : Type} (U : Nat → Nat → α) (j f : Nat) (v : α) : Nat → Nat → α := fun a b => if a = j ∧ b = f then v else U a b
def uqR {α : Type} (U : Nat → Nat → α) (j : Nat) (r : Nat → α) : Nat → Nat → α := fun a => if a = j then r else U a
def uq1 {α : Type} (U : Nat → α) (j : Nat) (v : α) : Nat → α := fun a => if a = j then v else U a
section
variable {S : Sw} {E κ : Nat → Nat} {Ui : Nat → Nat → Int32} {Uj : Nat → Nat → Int64} {Ua : Nat → Nat → Int32} {V : Nat → Nat → Int32} {W : Nat → Int32} {D : Nat → UInt64}
theorem RV.cI {j0 f : Nat} {v : Int32} (h : RV S E κ Ui Uj Ua V W D) (hu : us κ j0) (hj : j0 < 800) : RV (uI S f (E j0) v) E κ (uq2 Ui j0 f v) Uj Ua V W D := by
  obtain ⟨h1, h2, h3, h4, h5⟩ := h
  refine ⟨h1, h2.shp ⟨rfl, rfl, rfl, rfl⟩, h3.shp ⟨rfl, rfl, rfl, rfl⟩, fun j hju hj8 => ⟨fun g => ?_, fun g => (h4 j hju hj8).2.1 g, fun i => (h4 j hju hj8).2.2 i⟩, fun g hg i => h5.1 g hg i, fun g hg => ?_, fun i => h5.2.2 i⟩
  · show (if g = f ∧ E j = E j0 then v else fI S g (E j)) = if j = j0 ∧ g = f then v else Ui j g
    by_cases e : j = j0
    · by_cases e2 : g = f
      · rw [if_pos ⟨e2, by rw [e]⟩, if_pos ⟨e, e2⟩]
      · rw [if_neg (fun q => e2 q.1), if_neg (fun q => e2 q.2)]; exact (h4 j hju hj8).1 g
    · rw [if_neg (fun q => e (h1 _ _ hju hu q.2)), if_neg (fun q => e q.1)]; exact (h4 j hju hj8).1 g
  · exact (if_neg (fun q => absurd (h1 _ _ (us.m (by decide)) hu q.2) (by omega))).trans (h5.2.1 g hg)
theorem RV.cJ {j0 f : Nat} {v : Int64} (h : RV S E κ Ui Uj Ua V W D) (hu : us κ j0) (hj : j0 < 800) : RV (uJ S f (E j0) v) E κ Ui (uq2 Uj j0 f v) Ua V W D := by
  obtain ⟨h1, h2, h3, h4, h5⟩ := h
  refine ⟨h1, h2.shp ⟨rfl, rfl, rfl, rfl⟩, h3.shp ⟨rfl, rfl, rfl, rfl⟩, fun j hju hj8 => ⟨fun g => (h4 j hju hj8).1 g, fun g => ?_, fun i => (h4 j hju hj8).2.2 i⟩, fun g hg i => h5.1 g hg i, fun g hg => h5.2.1 g hg, fun i => h5.2.2 i⟩
  show (if g = f ∧ E j = E j0 then v else fJ S g (E j)) = if j = j0 ∧ g = f then v else Uj j g
  by_cases e : j = j0
  · by_cases e2 : g = f
    · rw [if_pos ⟨e2, by rw [e]⟩, if_pos ⟨e, e2⟩]
    · rw [if_neg (fun q => e2 q.1), if_neg (fun q => e2 q.2)]; exact (h4 j hju hj8).2.1 g
  · rw [if_neg (fun q => e (h1 _ _ hju hu q.2)), if_neg (fun q => e q.1)]; exact (h4 j hju hj8).2.1 g
theorem RV.cA {j0 k : Nat} {v : Int32} (h : RV S E κ Ui Uj Ua V W D) (hu : us κ j0) (hj : j0 < 800) : RV (wI S (E j0) k v) E κ Ui Uj (uq2 Ua j0 k v) V W D := by
  obtain ⟨h1, h2, h3, h4, h5⟩ := h
  refine ⟨h1, h2.shp ⟨rfl, rfl, rfl, rfl⟩, h3.shp ⟨rfl, rfl, rfl, rfl⟩, fun j hju hj8 => ⟨fun g => (h4 j hju hj8).1 g, fun g => (h4 j hju hj8).2.1 g, fun i => ?_⟩, fun g hg i => ?_, fun g hg => h5.2.1 g hg, fun i => h5.2.2 i⟩
  · show (if E j = E j0 ∧ i = k then v else aI S (E j) i) = if j = j0 ∧ i = k then v else Ua j i
    by_cases e : j = j0
    · by_cases e2 : i = k
      · rw [if_pos ⟨by rw [e], e2⟩, if_pos ⟨e, e2⟩]
      · rw [if_neg (fun q => e2 q.2), if_neg (fun q => e2 q.2)]; exact (h4 j hju hj8).2.2 i
    · rw [if_neg (fun q => e (h1 _ _ hju hu q.1)), if_neg (fun q => e q.1)]; exact (h4 j hju hj8).2.2 i
  · exact (if_neg (fun q => absurd (h1 _ _ (us.f hg) hu q.1) (by have := MLf_ge hg; omega))).trans (h5.1 g hg i)
theorem RV.cAs {j0 : Nat} {r : Nat → Int32} (h : RV S E κ Ui Uj Ua V W D) (hu : us κ j0) (hj : j0 < 800) : RV (wIs S (E j0) r) E κ Ui Uj (uqR Ua j0 r) V W D := by
  obtain ⟨h1, h2, h3, h4, h5⟩ := h
  refine ⟨h1, h2.shp ⟨rfl, rfl, rfl, rfl⟩, h3.shp ⟨rfl, rfl, rfl, rfl⟩, fun j hju hj8 => ⟨fun g => (h4 j hju hj8).1 g, fun g => (h4 j hju hj8).2.1 g, fun i => ?_⟩, fun g hg i => ?_, fun g hg => h5.2.1 g hg, fun i => h5.2.2 i⟩
  · show (if E j = E j0 then r i else aI S (E j) i) = (if j = j0 then r else Ua j) i
    by_cases e : j = j0
    · rw [if_pos (by rw [e]), if_pos e]
    · rw [if_neg (fun q => e (h1 _ _ hju hu q)), if_neg e]; exact (h4 j hju hj8).2.2 i
  · exact (if_neg (fun q => absurd (h1 _ _ (us.f hg) hu q) (by have := MLf_ge hg; omega))).trans (h5.1 g hg i)
theorem RV.mI {f k : Nat} {v : Int32} (h : RV S E κ Ui Uj Ua V W D) (hf : f ∈ MLf) : RV (wI S (E f) k v) E κ Ui Uj Ua (uq2 V f k v) W D := by
  obtain ⟨h1, h2, h3, h4, h5⟩ := h
  refine ⟨h1, h2.shp ⟨rfl, rfl, rfl, rfl⟩, h3.shp ⟨rfl, rfl, rfl, rfl⟩, fun j hju hj8 => ⟨fun g => (h4 j hju hj8).1 g, fun g => (h4 j hju hj8).2.1 g, fun i => ?_⟩, fun g hg i => ?_, fun g hg => h5.2.1 g hg, fun i => h5.2.2 i⟩
  · exact (if_neg (fun q => absurd (h1 _ _ hju (us.f hf) q.1) (by have := MLf_ge hf; omega))).trans ((h4 j hju hj8).2.2 i)
  · show (if E g = E f ∧ i = k then v else aI S (E g) i) = if g = f ∧ i = k then v else V g i
    by_cases e : g = f
    · by_cases e2 : i = k
      · rw [if_pos ⟨by rw [e], e2⟩, if_pos ⟨e, e2⟩]
      · rw [if_neg (fun q => e2 q.2), if_neg (fun q => e2 q.2)]; exact h5.1 g hg i
    · rw [if_neg (fun q => e (h1 _ _ (us.f hg) (us.f hf) q.1)), if_neg (fun q => e q.1)]; exact h5.1 g hg i
theorem RV.mIs {f : Nat} {r : Nat → Int32} (h : RV S E κ Ui Uj Ua V W D) (hf : f ∈ MLf) : RV (wIs S (E f) r) E κ Ui Uj Ua (uqR V f r) W D := by
  obtain ⟨h1, h2, h3, h4, h5⟩ := h
  refine ⟨h1, h2.shp ⟨rfl, rfl, rfl, rfl⟩, h3.shp ⟨rfl, rfl, rfl, rfl⟩, fun j hju hj8 => ⟨fun g => (h4 j hju hj8).1 g, fun g => (h4 j hju hj8).2.1 g, fun i => ?_⟩, fun g hg i => ?_, fun g hg => h5.2.1 g hg, fun i => h5.2.2 i⟩
  · exact (if_neg (fun q => absurd (h1 _ _ hju (us.f hf) q) (by have := MLf_ge hf; omega))).trans ((h4 j hju hj8).2.2 i)
  · show (if E g = E f then r i else aI S (E g) i) = (if g = f then r else V g) i
    by_cases e : g = f
    · rw [if_pos (by rw [e]), if_pos e]
    · rw [if_neg (fun q => e (h1 _ _ (us.f hg) (us.f hf) q)), if_neg e]; exact h5.1 g hg i
theorem RV.mU {f : Nat} {v : Int32} (h : RV S E κ Ui Uj Ua V W D) : RV (uI S f (E 900) v) E κ Ui Uj Ua V (uq1 W f v) D := by
  obtain ⟨h1, h2, h3, h4, h5⟩ := h
  refine ⟨h1, h2.shp ⟨rfl, rfl, rfl, rfl⟩, h3.shp ⟨rfl, rfl, rfl, rfl⟩, fun j hju hj8 => ⟨fun g => ?_, fun g => (h4 j hju hj8).2.1 g, fun i => (h4 j hju hj8).2.2 i⟩, fun g hg i => h5.1 g hg i, fun g hg => ?_, fun i => h5.2.2 i⟩
  · exact (if_neg (fun q => absurd (h1 _ _ hju (us.m (by decide)) q.2) (by omega))).trans ((h4 j hju hj8).1 g)
  · show (if g = f ∧ E 900 = E 900 then v else fI S g (E 900)) = if g = f then v else W g
    by_cases e : g = f
    · rw [if_pos ⟨e, rfl⟩, if_pos e]
    · rw [if_neg (fun q => e q.1), if_neg e]; exact h5.2.1 g hg
theorem RV.m8 {v : Int32} (h : RV S E κ Ui Uj Ua V W D) : RV (uI S 800 (E 900) v) E κ Ui Uj Ua V W D := by
  have q := h.mU (f := 800) (v := v)
  exact ⟨q.1, q.2.1, q.2.2.1, q.2.2.2.1, q.2.2.2.2.1, fun g hg => (q.2.2.2.2.2.1 g hg).trans (if_neg (by omega)), q.2.2.2.2.2.2⟩
theorem RV.mD {k : Nat} {v : UInt64} (h : RV S E κ Ui Uj Ua V W D) : RV (wD S (E 819) k v) E κ Ui Uj Ua V W (uq1 D k v) := by
  obtain ⟨h1, h2, h3, h4, h5⟩ := h
  refine ⟨h1, h2.shp ⟨rfl, rfl, rfl, rfl⟩, h3.shp ⟨rfl, rfl, rfl, rfl⟩, fun j hju hj8 => h4 j hju hj8, fun g hg i => h5.1 g hg i, fun g hg => h5.2.1 g hg, fun i => ?_⟩
  show (if E 819 = E 819 ∧ i = k then v else aD S (E 819) i) = if i = k then v else D i
  by_cases e : i = k
  · rw [if_pos ⟨rfl, e⟩, if_pos e]
  · rw [if_neg (fun q => e q.2), if_neg e]; exact h5.2.2 i
theorem RV.oJ {k : Nat} {v : Int64} (h : RV S E κ Ui Uj Ua V W D) : RV (wJ S (E 901) k v) E κ Ui Uj Ua V W D := by
  obtain ⟨h1, h2, h3, h4, h5⟩ := h
  exact ⟨h1, h2.shp ⟨rfl, rfl, rfl, rfl⟩, h3.shp ⟨rfl, rfl, rfl, rfl⟩, fun j hju hj8 => h4 j hju hj8, fun g hg i => h5.1 g hg i, fun g hg => h5.2.1 g hg, fun i => h5.2.2 i⟩
theorem RV.oD {k : Nat} {v : UInt64} (h : RV S E κ Ui Uj Ua V W D) : RV (wD S (E 902) k v) E κ Ui Uj Ua V W D := by
  obtain ⟨h1, h2, h3, h4, h5⟩ := h
  refine ⟨h1, h2.shp ⟨rfl, rfl, rfl, rfl⟩, h3.shp ⟨rfl, rfl, rfl, rfl⟩, fun j hju hj8 => h4 j hju hj8, fun g hg i => h5.1 g hg i, fun g hg => h5.2.1 g hg, fun i => ?_⟩
  exact (if_neg (fun q => absurd (h1 819 902 (us.m (by decide)) (us.m (by decide)) q.1) (by decide))).trans (h5.2.2 i)
end
