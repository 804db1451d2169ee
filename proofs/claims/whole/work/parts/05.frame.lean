/-! ===== the pool: the kind of every address, and what its fields or places hold, a function a sort ===== -/
abbrev Sw : Type := (Nat → Nat) × (Nat → Nat → Int32) × (Nat → Nat → Int64) × (Nat → Nat → Option Nat) × (Nat → Nat) × (Nat → Nat → Int32) × (Nat → Nat → Option Nat) × (Nat → Nat → UInt64) × (Nat → Nat → Int64)
def sK (S : Sw) (a : Nat) : Nat := S.1 a
def fI (S : Sw) (f a : Nat) : Int32 := S.2.1 f a
def fJ (S : Sw) (f a : Nat) : Int64 := S.2.2.1 f a
def fR (S : Sw) (f a : Nat) : Option Nat := S.2.2.2.1 f a
def aN (S : Sw) (a : Nat) : Nat := S.2.2.2.2.1 a
def aI (S : Sw) (a i : Nat) : Int32 := S.2.2.2.2.2.1 a i
def aR (S : Sw) (a i : Nat) : Option Nat := S.2.2.2.2.2.2.1 a i
def aD (S : Sw) (a i : Nat) : UInt64 := S.2.2.2.2.2.2.2.1 a i
def aJ (S : Sw) (a i : Nat) : Int64 := S.2.2.2.2.2.2.2.2 a i
def up2 {α : Type} (F : Nat → Nat → α) (f a : Nat) (v : α) : Nat → Nat → α := fun g b => if g = f ∧ b = a then v else F g b
def uI (S : Sw) (f a : Nat) (v : Int32) : Sw := (S.1, up2 S.2.1 f a v, S.2.2)
def uJ (S : Sw) (f a : Nat) (v : Int64) : Sw := (S.1, S.2.1, up2 S.2.2.1 f a v, S.2.2.2)
def uR (S : Sw) (f a : Nat) (v : Option Nat) : Sw := (S.1, S.2.1, S.2.2.1, up2 S.2.2.2.1 f a v, S.2.2.2.2)
def wI (S : Sw) (a i : Nat) (v : Int32) : Sw := (S.1, S.2.1, S.2.2.1, S.2.2.2.1, S.2.2.2.2.1, up2 S.2.2.2.2.2.1 a i v, S.2.2.2.2.2.2)
def wR (S : Sw) (a i : Nat) (v : Option Nat) : Sw := (S.1, S.2.1, S.2.2.1, S.2.2.2.1, S.2.2.2.2.1, S.2.2.2.2.2.1, up2 S.2.2.2.2.2.2.1 a i v, S.2.2.2.2.2.2.2)
def wD (S : Sw) (a i : Nat) (v : UInt64) : Sw := (S.1, S.2.1, S.2.2.1, S.2.2.2.1, S.2.2.2.2.1, S.2.2.2.2.2.1, S.2.2.2.2.2.2.1, up2 S.2.2.2.2.2.2.2.1 a i v, S.2.2.2.2.2.2.2.2)
def wJ (S : Sw) (a i : Nat) (v : Int64) : Sw := (S.1, S.2.1, S.2.2.1, S.2.2.2.1, S.2.2.2.2.1, S.2.2.2.2.2.1, S.2.2.2.2.2.2.1, S.2.2.2.2.2.2.2.1, up2 S.2.2.2.2.2.2.2.2 a i v)
/-- a whole row of ints anew (System.arraycopy) -/
def wIs (S : Sw) (a : Nat) (r : Nat → Int32) : Sw := (S.1, S.2.1, S.2.2.1, S.2.2.2.1, S.2.2.2.2.1, (fun b i => if b = a then r i else S.2.2.2.2.2.1 b i), S.2.2.2.2.2.2)
def z2 {α : Type} (F : Nat → Nat → α) (a : Nat) (z : α) : Nat → Nat → α := fun f b => if b = a then z else F f b
def z1 {α : Type} (F : Nat → Nat → α) (a : Nat) (z : α) : Nat → Nat → α := fun b i => if b = a then z else F b i
/-- a new object of a kind -/
def nO (S : Sw) (a k : Nat) : Sw := (va_up S.1 a k, z2 S.2.1 a 0, z2 S.2.2.1 a 0, z2 S.2.2.2.1 a none, S.2.2.2.2)
/-- a new array of a kind, of n places -/
def nA (S : Sw) (a k n : Nat) : Sw := (va_up S.1 a k, S.2.1, S.2.2.1, S.2.2.2.1, va_up S.2.2.2.2.1 a n, z1 S.2.2.2.2.2.1 a 0, z1 S.2.2.2.2.2.2.1 a none, z1 S.2.2.2.2.2.2.2.1 a FP.dconst0, z1 S.2.2.2.2.2.2.2.2 a 0)
theorem sK_uI (S : Sw) (f a : Nat) (v : Int32) (b : Nat) : sK (uI S f a v) b = sK S b := rfl
theorem fI_uI (S : Sw) (f a : Nat) (v : Int32) (g b : Nat) : fI (uI S f a v) g b = if g = f ∧ b = a then v else fI S g b := rfl
theorem fJ_uI (S : Sw) (f a : Nat) (v : Int32) (g b : Nat) : fJ (uI S f a v) g b = fJ S g b := rfl
theorem fR_uI (S : Sw) (f a : Nat) (v : Int32) (g b : Nat) : fR (uI S f a v) g b = fR S g b := rfl
theorem aN_uI (S : Sw) (f a : Nat) (v : Int32) (b : Nat) : aN (uI S f a v) b = aN S b := rfl
theorem aI_uI (S : Sw) (f a : Nat) (v : Int32) (g b : Nat) : aI (uI S f a v) g b = aI S g b := rfl
theorem aR_uI (S : Sw) (f a : Nat) (v : Int32) (g b : Nat) : aR (uI S f a v) g b = aR S g b := rfl
theorem aD_uI (S : Sw) (f a : Nat) (v : Int32) (g b : Nat) : aD (uI S f a v) g b = aD S g b := rfl
theorem aJ_uI (S : Sw) (f a : Nat) (v : Int32) (g b : Nat) : aJ (uI S f a v) g b = aJ S g b := rfl
theorem sK_uJ (S : Sw) (f a : Nat) (v : Int64) (b : Nat) : sK (uJ S f a v) b = sK S b := rfl
theorem fI_uJ (S : Sw) (f a : Nat) (v : Int64) (g b : Nat) : fI (uJ S f a v) g b = fI S g b := rfl
theorem fJ_uJ (S : Sw) (f a : Nat) (v : Int64) (g b : Nat) : fJ (uJ S f a v) g b = if g = f ∧ b = a then v else fJ S g b := rfl
theorem fR_uJ (S : Sw) (f a : Nat) (v : Int64) (g b : Nat) : fR (uJ S f a v) g b = fR S g b := rfl
theorem aN_uJ (S : Sw) (f a : Nat) (v : Int64) (b : Nat) : aN (uJ S f a v) b = aN S b := rfl
theorem aI_uJ (S : Sw) (f a : Nat) (v : Int64) (g b : Nat) : aI (uJ S f a v) g b = aI S g b := rfl
theorem aR_uJ (S : Sw) (f a : Nat) (v : Int64) (g b : Nat) : aR (uJ S f a v) g b = aR S g b := rfl
theorem aD_uJ (S : Sw) (f a : Nat) (v : Int64) (g b : Nat) : aD (uJ S f a v) g b = aD S g b := rfl
theorem aJ_uJ (S : Sw) (f a : Nat) (v : Int64) (g b : Nat) : aJ (uJ S f a v) g b = aJ S g b := rfl
theorem sK_uR (S : Sw) (f a : Nat) (v : Option Nat) (b : Nat) : sK (uR S f a v) b = sK S b := rfl
theorem fI_uR (S : Sw) (f a : Nat) (v : Option Nat) (g b : Nat) : fI (uR S f a v) g b = fI S g b := rfl
theorem fJ_uR (S : Sw) (f a : Nat) (v : Option Nat) (g b : Nat) : fJ (uR S f a v) g b = fJ S g b := rfl
theorem fR_uR (S : Sw) (f a : Nat) (v : Option Nat) (g b : Nat) : fR (uR S f a v) g b = if g = f ∧ b = a then v else fR S g b := rfl
theorem aN_uR (S : Sw) (f a : Nat) (v : Option Nat) (b : Nat) : aN (uR S f a v) b = aN S b := rfl
theorem aI_uR (S : Sw) (f a : Nat) (v : Option Nat) (g b : Nat) : aI (uR S f a v) g b = aI S g b := rfl
theorem aR_uR (S : Sw) (f a : Nat) (v : Option Nat) (g b : Nat) : aR (uR S f a v) g b = aR S g b := rfl
theorem aD_uR (S : Sw) (f a : Nat) (v : Option Nat) (g b : Nat) : aD (uR S f a v) g b = aD S g b := rfl
theorem aJ_uR (S : Sw) (f a : Nat) (v : Option Nat) (g b : Nat) : aJ (uR S f a v) g b = aJ S g b := rfl
theorem sK_wI (S : Sw) (f a : Nat) (v : Int32) (b : Nat) : sK (wI S f a v) b = sK S b := rfl
theorem fI_wI (S : Sw) (f a : Nat) (v : Int32) (g b : Nat) : fI (wI S f a v) g b = fI S g b := rfl
theorem fJ_wI (S : Sw) (f a : Nat) (v : Int32) (g b : Nat) : fJ (wI S f a v) g b = fJ S g b := rfl
theorem fR_wI (S : Sw) (f a : Nat) (v : Int32) (g b : Nat) : fR (wI S f a v) g b = fR S g b := rfl
theorem aN_wI (S : Sw) (f a : Nat) (v : Int32) (b : Nat) : aN (wI S f a v) b = aN S b := rfl
theorem aI_wI (S : Sw) (f a : Nat) (v : Int32) (g b : Nat) : aI (wI S f a v) g b = if g = f ∧ b = a then v else aI S g b := rfl
theorem aR_wI (S : Sw) (f a : Nat) (v : Int32) (g b : Nat) : aR (wI S f a v) g b = aR S g b := rfl
theorem aD_wI (S : Sw) (f a : Nat) (v : Int32) (g b : Nat) : aD (wI S f a v) g b = aD S g b := rfl
theorem aJ_wI (S : Sw) (f a : Nat) (v : Int32) (g b : Nat) : aJ (wI S f a v) g b = aJ S g b := rfl
theorem sK_wR (S : Sw) (f a : Nat) (v : Option Nat) (b : Nat) : sK (wR S f a v) b = sK S b := rfl
theorem fI_wR (S : Sw) (f a : Nat) (v : Option Nat) (g b : Nat) : fI (wR S f a v) g b = fI S g b := rfl
theorem fJ_wR (S : Sw) (f a : Nat) (v : Option Nat) (g b : Nat) : fJ (wR S f a v) g b = fJ S g b := rfl
theorem fR_wR (S : Sw) (f a : Nat) (v : Option Nat) (g b : Nat) : fR (wR S f a v) g b = fR S g b := rfl
theorem aN_wR (S : Sw) (f a : Nat) (v : Option Nat) (b : Nat) : aN (wR S f a v) b = aN S b := rfl
theorem aI_wR (S : Sw) (f a : Nat) (v : Option Nat) (g b : Nat) : aI (wR S f a v) g b = aI S g b := rfl
theorem aR_wR (S : Sw) (f a : Nat) (v : Option Nat) (g b : Nat) : aR (wR S f a v) g b = if g = f ∧ b = a then v else aR S g b := rfl
theorem aD_wR (S : Sw) (f a : Nat) (v : Option Nat) (g b : Nat) : aD (wR S f a v) g b = aD S g b := rfl
theorem aJ_wR (S : Sw) (f a : Nat) (v : Option Nat) (g b : Nat) : aJ (wR S f a v) g b = aJ S g b := rfl
theorem sK_wD (S : Sw) (f a : Nat) (v : UInt64) (b : Nat) : sK (wD S f a v) b = sK S b := rfl
theorem fI_wD (S : Sw) (f a : Nat) (v : UInt64) (g b : Nat) : fI (wD S f a v) g b = fI S g b := rfl
theorem fJ_wD (S : Sw) (f a : Nat) (v : UInt64) (g b : Nat) : fJ (wD S f a v) g b = fJ S g b := rfl
theorem fR_wD (S : Sw) (f a : Nat) (v : UInt64) (g b : Nat) : fR (wD S f a v) g b = fR S g b := rfl
theorem aN_wD (S : Sw) (f a : Nat) (v : UInt64) (b : Nat) : aN (wD S f a v) b = aN S b := rfl
theorem aI_wD (S : Sw) (f a : Nat) (v : UInt64) (g b : Nat) : aI (wD S f a v) g b = aI S g b := rfl
theorem aR_wD (S : Sw) (f a : Nat) (v : UInt64) (g b : Nat) : aR (wD S f a v) g b = aR S g b := rfl
theorem aD_wD (S : Sw) (f a : Nat) (v : UInt64) (g b : Nat) : aD (wD S f a v) g b = if g = f ∧ b = a then v else aD S g b := rfl
theorem aJ_wD (S : Sw) (f a : Nat) (v : UInt64) (g b : Nat) : aJ (wD S f a v) g b = aJ S g b := rfl
theorem sK_wJ (S : Sw) (f a : Nat) (v : Int64) (b : Nat) : sK (wJ S f a v) b = sK S b := rfl
theorem fI_wJ (S : Sw) (f a : Nat) (v : Int64) (g b : Nat) : fI (wJ S f a v) g b = fI S g b := rfl
theorem fJ_wJ (S : Sw) (f a : Nat) (v : Int64) (g b : Nat) : fJ (wJ S f a v) g b = fJ S g b := rfl
theorem fR_wJ (S : Sw) (f a : Nat) (v : Int64) (g b : Nat) : fR (wJ S f a v) g b = fR S g b := rfl
theorem aN_wJ (S : Sw) (f a : Nat) (v : Int64) (b : Nat) : aN (wJ S f a v) b = aN S b := rfl
theorem aI_wJ (S : Sw) (f a : Nat) (v : Int64) (g b : Nat) : aI (wJ S f a v) g b = aI S g b := rfl
theorem aR_wJ (S : Sw) (f a : Nat) (v : Int64) (g b : Nat) : aR (wJ S f a v) g b = aR S g b := rfl
theorem aD_wJ (S : Sw) (f a : Nat) (v : Int64) (g b : Nat) : aD (wJ S f a v) g b = aD S g b := rfl
theorem aJ_wJ (S : Sw) (f a : Nat) (v : Int64) (g b : Nat) : aJ (wJ S f a v) g b = if g = f ∧ b = a then v else aJ S g b := rfl
theorem sK_wIs (S : Sw) (a : Nat) (r : Nat → Int32) (b : Nat) : sK (wIs S a r) b = sK S b := rfl
theorem sK_nO (S : Sw) (a k : Nat) (b : Nat) : sK (nO S a k) b = if b = a then k else sK S b := rfl
theorem sK_nA (S : Sw) (a k n : Nat) (b : Nat) : sK (nA S a k n) b = if b = a then k else sK S b := rfl
theorem fI_wIs (S : Sw) (a : Nat) (r : Nat → Int32) (g b : Nat) : fI (wIs S a r) g b = fI S g b := rfl
theorem fI_nO (S : Sw) (a k : Nat) (g b : Nat) : fI (nO S a k) g b = if b = a then 0 else fI S g b := rfl
theorem fI_nA (S : Sw) (a k n : Nat) (g b : Nat) : fI (nA S a k n) g b = fI S g b := rfl
theorem fJ_wIs (S : Sw) (a : Nat) (r : Nat → Int32) (g b : Nat) : fJ (wIs S a r) g b = fJ S g b := rfl
theorem fJ_nO (S : Sw) (a k : Nat) (g b : Nat) : fJ (nO S a k) g b = if b = a then 0 else fJ S g b := rfl
theorem fJ_nA (S : Sw) (a k n : Nat) (g b : Nat) : fJ (nA S a k n) g b = fJ S g b := rfl
theorem fR_wIs (S : Sw) (a : Nat) (r : Nat → Int32) (g b : Nat) : fR (wIs S a r) g b = fR S g b := rfl
theorem fR_nO (S : Sw) (a k : Nat) (g b : Nat) : fR (nO S a k) g b = if b = a then none else fR S g b := rfl
theorem fR_nA (S : Sw) (a k n : Nat) (g b : Nat) : fR (nA S a k n) g b = fR S g b := rfl
theorem aN_wIs (S : Sw) (a : Nat) (r : Nat → Int32) (b : Nat) : aN (wIs S a r) b = aN S b := rfl
theorem aN_nO (S : Sw) (a k : Nat) (b : Nat) : aN (nO S a k) b = aN S b := rfl
theorem aN_nA (S : Sw) (a k n : Nat) (b : Nat) : aN (nA S a k n) b = if b = a then n else aN S b := rfl
theorem aI_wIs (S : Sw) (a : Nat) (r : Nat → Int32) (g b : Nat) : aI (wIs S a r) g b = if g = a then r b else aI S g b := rfl
theorem aI_nO (S : Sw) (a k : Nat) (g b : Nat) : aI (nO S a k) g b = aI S g b := rfl
theorem aI_nA (S : Sw) (a k n : Nat) (g b : Nat) : aI (nA S a k n) g b = if g = a then 0 else aI S g b := rfl
theorem aR_wIs (S : Sw) (a : Nat) (r : Nat → Int32) (g b : Nat) : aR (wIs S a r) g b = aR S g b := rfl
theorem aR_nO (S : Sw) (a k : Nat) (g b : Nat) : aR (nO S a k) g b = aR S g b := rfl
theorem aR_nA (S : Sw) (a k n : Nat) (g b : Nat) : aR (nA S a k n) g b = if g = a then none else aR S g b := rfl
theorem aD_wIs (S : Sw) (a : Nat) (r : Nat → Int32) (g b : Nat) : aD (wIs S a r) g b = aD S g b := rfl
theorem aD_nO (S : Sw) (a k : Nat) (g b : Nat) : aD (nO S a k) g b = aD S g b := rfl
theorem aD_nA (S : Sw) (a k n : Nat) (g b : Nat) : aD (nA S a k n) g b = if g = a then FP.dconst0 else aD S g b := rfl
theorem aJ_wIs (S : Sw) (a : Nat) (r : Nat → Int32) (g b : Nat) : aJ (wIs S a r) g b = aJ S g b := rfl
theorem aJ_nO (S : Sw) (a k : Nat) (g b : Nat) : aJ (nO S a k) g b = aJ S g b := rfl
theorem aJ_nA (S : Sw) (a k n : Nat) (g b : Nat) : aJ (nA S a k n) g b = if g = a then 0 else aJ S g b := rfl
abbrev GG : Type := va_G × (Nat → ClassId)
/-- what lies at an address, by its kind -/
def ent (G : GG) (S : Sw) (a : Nat) : va_E := match sK S a with
  | 1 => .inr (0, [va_rf (fR S 100 a), .long (fJ S 101 a), .long (fJ S 102 a)])
  | 2 => .inr (1, [va_rf (fR S 200 a), va_rf (fR S 201 a), .long (fJ S 202 a)])
  | 3 => .inr (2, [.int (fI S 300 a), .int (fI S 301 a), .int (fI S 302 a), .long (fJ S 303 a)])
  | 4 => .inr (3, [.int (fI S 0 a), .int (fI S 1 a), .int (fI S 2 a), .int (fI S 3 a), .int (fI S 4 a), va_rf (fR S 405 a), va_rf (fR S 406 a), va_rf (fR S 407 a), .long (fJ S 408 a), .long (fJ S 409 a)])
  | 5 => .inr (4, [.int (fI S 0 a), .int (fI S 1 a), .int (fI S 2 a), .int (fI S 3 a), .int (fI S 4 a), va_rf (fR S 505 a), va_rf (fR S 506 a), va_rf (fR S 507 a), .int (fI S 508 a), .int (fI S 509 a), .int (fI S 510 a), .int (fI S 511 a), .long (fJ S 512 a), .long (fJ S 513 a), .long (fJ S 514 a)])
  | 6 => .inr (5, [va_rf (fR S 600 a)])
  | 7 => .inr (6, [va_rf (fR S 700 a), va_rf (fR S 701 a), va_rf (fR S 702 a), va_rf (fR S 703 a), .int (fI S 704 a), .int (fI S 705 a), va_rf (fR S 706 a), .int (fI S 707 a), va_rf (fR S 708 a), va_rf (fR S 709 a), va_rf (fR S 710 a)])
  | 8 => .inr (7, [.int (fI S 800 a), va_rf (fR S 801 a), va_rf (fR S 802 a), va_rf (fR S 803 a), va_rf (fR S 804 a), va_rf (fR S 805 a), va_rf (fR S 806 a), va_rf (fR S 807 a), va_rf (fR S 808 a), va_rf (fR S 809 a), va_rf (fR S 810 a), va_rf (fR S 811 a), va_rf (fR S 812 a), va_rf (fR S 813 a), va_rf (fR S 814 a), va_rf (fR S 815 a), va_rf (fR S 816 a), va_rf (fR S 817 a), va_rf (fR S 818 a), va_rf (fR S 819 a), va_rf (fR S 820 a), va_rf (fR S 821 a), va_rf (fR S 822 a), va_rf (fR S 823 a), .int (fI S 824 a), va_rf (fR S 825 a), va_rf (fR S 826 a), va_rf (fR S 827 a), va_rf (fR S 828 a), va_rf (fR S 829 a), va_rf (fR S 830 a), va_rf (fR S 831 a), .int (fI S 832 a), .int (fI S 833 a), .int (fI S 834 a), .int (fI S 835 a), va_rf (fR S 836 a), va_rf (fR S 837 a), va_rf (fR S 838 a), va_rf (fR S 839 a)])
  | 9 => .inl (G.2 0, aN S a, .inl (aI S a))
  | 10 => .inl (G.2 1, aN S a, .inl (aI S a))
  | 11 => .inl (G.2 2, aN S a, .inr (.inl (aJ S a)))
  | 12 => .inl (G.2 3, aN S a, .inr (.inr (.inr (.inl (aD S a)))))
  | 13 => .inl (G.2 4, aN S a, .inr (.inr (.inr (.inr (aR S a)))))
  | 14 => .inl (G.2 5, aN S a, .inr (.inr (.inr (.inr (aR S a)))))
  | _ => .inr (0, [])
theorem ent_1 {G : GG} {S : Sw} {a : Nat} (h : sK S a = 1) : ent G S a = .inr (0, [va_rf (fR S 100 a), .long (fJ S 101 a), .long (fJ S 102 a)]) := by unfold ent; rw [h]; rfl
theorem ent_2 {G : GG} {S : Sw} {a : Nat} (h : sK S a = 2) : ent G S a = .inr (1, [va_rf (fR S 200 a), va_rf (fR S 201 a), .long (fJ S 202 a)]) := by unfold ent; rw [h]; rfl
theorem ent_3 {G : GG} {S : Sw} {a : Nat} (h : sK S a = 3) : ent G S a = .inr (2, [.int (fI S 300 a), .int (fI S 301 a), .int (fI S 302 a), .long (fJ S 303 a)]) := by unfold ent; rw [h]; rfl
theorem ent_4 {G : GG} {S : Sw} {a : Nat} (h : sK S a = 4) : ent G S a = .inr (3, [.int (fI S 0 a), .int (fI S 1 a), .int (fI S 2 a), .int (fI S 3 a), .int (fI S 4 a), va_rf (fR S 405 a), va_rf (fR S 406 a), va_rf (fR S 407 a), .long (fJ S 408 a), .long (fJ S 409 a)]) := by unfold ent; rw [h]; rfl
theorem ent_5 {G : GG} {S : Sw} {a : Nat} (h : sK S a = 5) : ent G S a = .inr (4, [.int (fI S 0 a), .int (fI S 1 a), .int (fI S 2 a), .int (fI S 3 a), .int (fI S 4 a), va_rf (fR S 505 a), va_rf (fR S 506 a), va_rf (fR S 507 a), .int (fI S 508 a), .int (fI S 509 a), .int (fI S 510 a), .int (fI S 511 a), .long (fJ S 512 a), .long (fJ S 513 a), .long (fJ S 514 a)]) := by unfold ent; rw [h]; rfl
theorem ent_6 {G : GG} {S : Sw} {a : Nat} (h : sK S a = 6) : ent G S a = .inr (5, [va_rf (fR S 600 a)]) := by unfold ent; rw [h]; rfl
theorem ent_7 {G : GG} {S : Sw} {a : Nat} (h : sK S a = 7) : ent G S a = .inr (6, [va_rf (fR S 700 a), va_rf (fR S 701 a), va_rf (fR S 702 a), va_rf (fR S 703 a), .int (fI S 704 a), .int (fI S 705 a), va_rf (fR S 706 a), .int (fI S 707 a), va_rf (fR S 708 a), va_rf (fR S 709 a), va_rf (fR S 710 a)]) := by unfold ent; rw [h]; rfl
theorem ent_8 {G : GG} {S : Sw} {a : Nat} (h : sK S a = 8) : ent G S a = .inr (7, [.int (fI S 800 a), va_rf (fR S 801 a), va_rf (fR S 802 a), va_rf (fR S 803 a), va_rf (fR S 804 a), va_rf (fR S 805 a), va_rf (fR S 806 a), va_rf (fR S 807 a), va_rf (fR S 808 a), va_rf (fR S 809 a), va_rf (fR S 810 a), va_rf (fR S 811 a), va_rf (fR S 812 a), va_rf (fR S 813 a), va_rf (fR S 814 a), va_rf (fR S 815 a), va_rf (fR S 816 a), va_rf (fR S 817 a), va_rf (fR S 818 a), va_rf (fR S 819 a), va_rf (fR S 820 a), va_rf (fR S 821 a), va_rf (fR S 822 a), va_rf (fR S 823 a), .int (fI S 824 a), va_rf (fR S 825 a), va_rf (fR S 826 a), va_rf (fR S 827 a), va_rf (fR S 828 a), va_rf (fR S 829 a), va_rf (fR S 830 a), va_rf (fR S 831 a), .int (fI S 832 a), .int (fI S 833 a), .int (fI S 834 a), .int (fI S 835 a), va_rf (fR S 836 a), va_rf (fR S 837 a), va_rf (fR S 838 a), va_rf (fR S 839 a)]) := by unfold ent; rw [h]; rfl
theorem ent_9 {G : GG} {S : Sw} {a : Nat} (h : sK S a = 9) : ent G S a = .inl (G.2 0, aN S a, .inl (aI S a)) := by unfold ent; rw [h]; rfl
theorem ent_10 {G : GG} {S : Sw} {a : Nat} (h : sK S a = 10) : ent G S a = .inl (G.2 1, aN S a, .inl (aI S a)) := by unfold ent; rw [h]; rfl
theorem ent_11 {G : GG} {S : Sw} {a : Nat} (h : sK S a = 11) : ent G S a = .inl (G.2 2, aN S a, .inr (.inl (aJ S a))) := by unfold ent; rw [h]; rfl
theorem ent_12 {G : GG} {S : Sw} {a : Nat} (h : sK S a = 12) : ent G S a = .inl (G.2 3, aN S a, .inr (.inr (.inr (.inl (aD S a))))) := by unfold ent; rw [h]; rfl
theorem ent_13 {G : GG} {S : Sw} {a : Nat} (h : sK S a = 13) : ent G S a = .inl (G.2 4, aN S a, .inr (.inr (.inr (.inr (aR S a))))) := by unfold ent; rw [h]; rfl
theorem ent_14 {G : GG} {S : Sw} {a : Nat} (h : sK S a = 14) : ent G S a = .inl (G.2 5, aN S a, .inr (.inr (.inr (.inr (aR S a))))) := by unfold ent; rw [h]; rfl
/-! ===== words: one list for all methods ===== -/
def TB : List Cond := lw_tbl.filter goodWord
theorem mem_tbl {w : Cond} (i : Nat) (h : tables_1[i]? = some w) : w ∈ lw_tbl := List.mem_append_right _ (List.mem_of_getElem? h)
theorem mem_tb {w : Cond} (h : w ∈ lw_tbl) (hg : goodWord w = true) : w ∈ TB := List.mem_filter.mpr ⟨h, hg⟩
theorem tb_good {w : Cond} (h : w ∈ TB) : goodWord w = true := (List.mem_filter.mp h).2
theorem tb_in {big : List Cond} {z : Cond} (hb : big = z :: TB) {ws : List Cond} (h : ∀ w ∈ ws, w ∈ TB) : GoodIn big ws := fun w hw => ⟨by rw [hb]; exact List.mem_cons_of_mem _ (h w hw), good_of_word (tb_good (h w hw))⟩
theorem tb_inT {ws : List Cond} (h : ∀ w ∈ ws, w ∈ TB) : GoodIn TB ws := fun w hw => ⟨h w hw, good_of_word (tb_good (h w hw))⟩
theorem all_c {w : Cond} {B : List Cond} (h : w ∈ TB) (t : ∀ w ∈ B, w ∈ TB) : ∀ w' ∈ w :: B, w' ∈ TB := fun w' h' => (List.mem_cons.mp h').elim (fun e => by rw [e]; exact h) (t w')
theorem all_n : ∀ w' ∈ ([] : List Cond), w' ∈ TB := fun _ h => nomatch h
theorem all_tb : ∀ w' ∈ TB, w' ∈ TB := fun _ h => h
/-! ===== the heap holds the pool ===== -/
abbrev Ab (b : Nat) : Nat → Prop := fun q => b ≤ q
def tyl (G : GG) : List (ClassId × FieldType) := [(G.2 0, .int), (G.2 1, .boolean), (G.2 2, .long), (G.2 3, .double), (G.2 4, .object "SoundKernel$Client"), (G.2 5, .array .int)]
def Hd (G : GG) (b : Nat) (S : Sw) (H : Heap) : Prop := ∃ L : List Nat, va_P G.1 vwCl (va_pl L (ent G S)) H ∧ va_D (Ab b) (va_pl L (ent G S)) ∧ ∀ a, sK S a ≠ 0 → a ∈ L
theorem Hd.at {G : GG} {b : Nat} {S : Sw} {H : Heap} {a : Nat} (h : Hd G b S H) (ha : sK S a ≠ 0) : ∃ (ws : va_W) (k : Nat), va_P G.1 vwCl ws H ∧ va_D (Ab b) ws ∧ ws[k]? = some (a, ent G S a) ∧
    (∀ (S' : Sw) (H1 : Heap) (e : va_E), va_P G.1 vwCl (ws.set k (a, e)) H1 → va_D (Ab b) (ws.set k (a, e)) → ent G S' a = e → (∀ x, x ≠ a → ent G S' x = ent G S x) → (∀ x, sK S' x ≠ 0 → sK S x ≠ 0) → Hd G b S' H1) ∧
    (∀ (S' : Sw) (H1 : Heap) (x : Nat) (e : va_E), va_P G.1 vwCl (ws ++ [(x, e)]) H1 → va_D (Ab b) (ws ++ [(x, e)]) → ent G S' x = e → (∀ z, z ≠ x → ent G S' z = ent G S z) → (∀ z, sK S' z ≠ 0 → z = x ∨ sK S z ≠ 0) → Hd G b S' H1) := by
  obtain ⟨L, hP, hD, hL⟩ := h
  obtain ⟨k, hk⟩ := va_pl_get (X := []) (f := ent G S) (hL a ha)
  refine ⟨va_pl L (ent G S), k, hP, hD, hk, ?_, ?_⟩
  · intro S' H1 e hP1 hD1 he hx hK
    have hs : (va_pl L (ent G S)).set k (a, e) = va_pl L (ent G S') := by
      rw [show (va_pl L (ent G S)).set k (a, e) = va_pl L (va_up (ent G S) a e) from va_pl_set (X := []) hD (hL a ha) hk]
      refine va_pl_congr (fun z => ?_)
      by_cases hz : z = a
      · subst hz; rw [va_up_self]; exact he.symm
      · rw [va_up_ne _ _ hz]; exact (hx z hz).symm
    rw [hs] at hP1 hD1
    exact ⟨L, hP1, hD1, fun z hz => hL z (hK z hz)⟩
  · intro S' H1 x e hP1 hD1 he hx hK
    have hn : x ∉ L := by
      intro hin
      obtain ⟨i, hi⟩ := va_pl_get (X := []) (f := ent G S) hin
      have hi' : (va_pl L (ent G S))[i]? = some (x, ent G S x) := hi
      have hl := (List.getElem?_eq_some_iff.mp hi').1
      have h1 : (va_pl L (ent G S) ++ [(x, e)])[i]? = some (x, ent G S x) := by rw [List.getElem?_append_left hl]; exact hi'
      have h2 : (va_pl L (ent G S) ++ [(x, e)])[(va_pl L (ent G S)).length]? = some (x, e) := by rw [List.getElem?_append_right (Nat.le_refl _), Nat.sub_self]; rfl
      have := hD1.1 _ _ _ _ h1 h2 rfl
      omega
    have hs : va_pl L (ent G S) ++ [(x, e)] = va_pl (L ++ [x]) (ent G S') := by
      rw [va_pl_push hn]
      refine va_pl_congr (fun z => ?_)
      by_cases hz : z = x
      · subst hz; rw [va_up_self]; exact he.symm
      · rw [va_up_ne _ _ hz]; exact (hx z hz).symm
    rw [hs] at hP1 hD1
    exact ⟨L ++ [x], hP1, hD1, fun z hz => (hK z hz).elim (fun e => by rw [e]; simp) (fun e => List.mem_append_left _ (hL z e))⟩
theorem Hd.new {G : GG} {b : Nat} {S : Sw} {H : Heap} (h : Hd G b S H) : ∃ ws : va_W, va_P G.1 vwCl ws H ∧ va_D (Ab b) ws ∧ (∀ z : Nat, sK S z ≠ 0 → ∃ k : Nat, ws[k]? = some (z, ent G S z)) ∧
    (∀ (S' : Sw) (H1 : Heap) (x : Nat) (e : va_E), va_P G.1 vwCl (ws ++ [(x, e)]) H1 → va_D (Ab b) (ws ++ [(x, e)]) → ent G S' x = e → (∀ z, z ≠ x → ent G S' z = ent G S z) → (∀ z, sK S' z ≠ 0 → z = x ∨ sK S z ≠ 0) → Hd G b S' H1) := by
  obtain ⟨L, hP, hD, hL⟩ := h
  refine ⟨va_pl L (ent G S), hP, hD, fun z hz => va_pl_get (X := []) (f := ent G S) (hL z hz), ?_⟩
  intro S' H1 x e hP1 hD1 he hx hK
  have hn : x ∉ L := by
    intro hin
    obtain ⟨i, hi⟩ := va_pl_get (X := []) (f := ent G S) hin
    have hi' : (va_pl L (ent G S))[i]? = some (x, ent G S x) := hi
    have hl := (List.getElem?_eq_some_iff.mp hi').1
    have h1 : (va_pl L (ent G S) ++ [(x, e)])[i]? = some (x, ent G S x) := by rw [List.getElem?_append_left hl]; exact hi'
    have h2 : (va_pl L (ent G S) ++ [(x, e)])[(va_pl L (ent G S)).length]? = some (x, e) := by rw [List.getElem?_append_right (Nat.le_refl _), Nat.sub_self]; rfl
    have := hD1.1 _ _ _ _ h1 h2 rfl
    omega
  have hs : va_pl L (ent G S) ++ [(x, e)] = va_pl (L ++ [x]) (ent G S') := by
    rw [va_pl_push hn]
    refine va_pl_congr (fun z => ?_)
    by_cases hz : z = x
    · subst hz; rw [va_up_self]; exact he.symm
    · rw [va_up_ne _ _ hz]; exact (hx z hz).symm
  rw [hs] at hP1 hD1
  exact ⟨L ++ [x], hP1, hD1, fun z hz => (hK z hz).elim (fun e => by rw [e]; simp) (fun e => List.mem_append_left _ (hL z e))⟩
/-! ===== what holds all along: the tables, the constants ===== -/
def isB : Cond → Bool
  | .castable .. => true
  | .declares .. => true
  | .fieldLinkNest .. => true
  | .methodLinkNest .. => true
  | _ => false
def BW : List Cond := lw_tbl.filter isB
theorem mem_bw {w : Cond} (h : w ∈ lw_tbl) (hg : isB w = true) : w ∈ BW := List.mem_filter.mpr ⟨h, hg⟩
theorem bw_warm {w : Cond} (h : w ∈ BW) {s U : State} (hW : s.WarmedH U.vm) (hw : va_Nw w s) : va_Nw w U := by
  have hb := (List.mem_filter.mp h).2
  cases w <;> first | exact va_Nw.warmC hW hw | exact va_Nw.warmD hW hw | exact va_Nw.warmF hW hw | exact va_Nw.warmM hW hw | exact absurd hb (by simp [isB])
theorem bw_on {w : Cond} (h : w ∈ BW) : w.onTables = true := by
  have hb := (List.mem_filter.mp h).2
  cases w <;> first | rfl | exact absurd hb (by simp [isB])
def STR : List (Nat × String) := [(63, "no such rate, channels or bits"), (74, "there are six clients"), (93, "a gain is 0 to 1"), (103, "neither opened nor paused"), (117, "no number of its bits"), (123, "draining or stopped"), (135, "none is ready"), (176, "no such frame or sample"), (182, "no such period or frame"), (206, "no such tap"), (212, "no such client"), (214, "the client listens"), (216, "the client plays"), (218, "not running")]
def NCL : List (String × String) := [("SoundKernel$Player", "SoundKernel$Listener"), ("SoundKernel$Listener", "SoundKernel$Player"), ("java/lang/IllegalStateException", "java/lang/IllegalArgumentException")]
def rts : Nat → Value := fun j => match j with
  | 0 => .int 8000
  | 1 => .int 11025
  | 2 => .int 16000
  | 3 => .int 22050
  | 4 => .int 32000
  | 5 => .int 44100
  | _ => .int 48000
theorem va_AOA.moved {ty : FieldType} {u U : State} (hvm : u.vm.Alike U.vm) (h : va_AOA ty u) : va_AOA ty U := by
  have q := Cond.arrayOver_setVmC (args := #[]) (s := u) hvm (.array ty)
  unfold va_AOA at h ⊢
  rw [← q] at h
  exact h
def Fx (G : GG) (b : Nat) (U : State) : Prop :=
  va_K G.1 vwCl (tyl G) U ∧ (∀ w ∈ BW, va_Nw w U) ∧ (∀ q ∈ STR, ∃ a, vk_R "SoundKernel" q.1 q.2 a U) ∧ (∀ q ∈ NCL, va_Nc q.1 q.2 U) ∧ vx_Zq Bundle.tN "UNASSIGNED_STACK" Bundle.steD (Ab b) U U.heap ∧ vx_Zq Bundle.tN "SUPPRESSED_SENTINEL" Bundle.listD (Ab b) U U.heap ∧
  (∃ t, va_Z "SoundKernel" "RATES" "[I" (.ref t) (Ab b) U U.heap ∧ va_T .int t 7 rts (Ab b) U U.heap) ∧ (va_AO "SoundKernel$Client" U ∧ va_AOA .int U) ∧ b ≤ U.heap.size
theorem Fx.move {G : GG} {b : Nat} {s U : State} (hW : s.WarmedH U.vm) (hz : s.heap.size ≤ U.heap.size) (hk : ∀ q : Nat, q < s.heap.size → ¬ Ab b q → U.heap[q]? = s.heap[q]?) (h : Fx G b s) : Fx G b U := by
  obtain ⟨h1, h2, h3, h4, h5, h6, ⟨t, h7, h8⟩, h9, h10⟩ := h
  have hv := hW.alike
  exact ⟨va_K.moved hv h1, fun w hw => bw_warm hw hW (h2 w hw), fun q hq => (h3 q hq).elim (fun a ha => ⟨a, vk_R.warm hW ha⟩), fun q hq => va_Nc.moved hv (h4 q hq), vx_Zq.moved hv (vx_Zq.kept h5 hk), vx_Zq.moved hv (vx_Zq.kept h6 hk),
    ⟨t, va_Z.moved hv (va_Z.kept h7 hk), va_T.moved hv (va_T.kept h8 hk)⟩, ⟨va_AO.moved hv h9.1, va_AOA.moved hv h9.2⟩, Nat.le_trans h10 hz⟩
def HU (G : GG) (b : Nat) (S : Sw) (U : State) : Prop := Fx G b U ∧ Hd G b S U.heap
theorem HU.blind {G : GG} {b : Nat} {S : Sw} {av : List Value} : FrameBlind (va_Pc av (HU G b S)) := by
  intro a U g mk h
  obtain ⟨h0, hF, hH⟩ := h
  refine ⟨h0, ?_, hH⟩
  obtain ⟨h1, h2, h3, h4, h5, h6, ⟨t, h7, h8⟩, h9, h10⟩ := hF
  have hv : U.vm.Alike (U.calling g mk a).vm := Vm.Alike.refl U.vm
  have hs : (U.calling g mk a).vm = U.vm := rfl
  exact ⟨va_K.moved hv h1, fun w hw => va_Nw.same (bw_on hw) hs.symm (h2 w hw), fun q hq => (h3 q hq).elim (fun a ha => ⟨a, vk_R.same hs ha⟩), fun q hq => va_Nc.moved hv (h4 q hq), vx_Zq.moved hv h5, vx_Zq.moved hv h6, ⟨t, va_Z.moved hv h7, va_T.moved hv h8⟩, ⟨va_AO.moved hv h9.1, va_AOA.moved hv h9.2⟩, h10⟩
/-! ===== a method's body: what stands fast, and the goal at a place of it ===== -/
def Cx (p : Program) (l : Launch) (s : State) (m : MethodId) (args : Array Value) (meth : Method) (c : Code) (cc : ByteArray) (nL : Nat) (own : String) (ret : Option FieldType) (G : GG) (b : Nat) : Prop :=
  p.tables.exec = Jvm.exec ∧ c.code = cc ∧ c.maxLocals = nL ∧ s.vm.findClass own = some m.cls ∧ (∀ w ∈ TB, w.before args s = true) ∧ Fx G b s ∧ meth.locks = false ∧ meth.sig.returnType = ret ∧ l.stackTraces = false
section JJ
variable {p : Program} {l : Launch} {e : Env} {R : Room} {s : State} {m : MethodId} {args : Array Value} {below : List Frame} {meth : Method} {c : Code} {Q : State → Prop} {cc : ByteArray} {nL : Nat} {own : String} {ret : Option FieldType} {G : GG} {b : Nat} {pc : Nat} {lv : List (Nat × Value)} {st : List Value} {S : Sw} {cells slots : Nat}
def J (p : Program) (l : Launch) (e : Env) (R : Room) (s : State) (m : MethodId) (args : Array Value) (below : List Frame) (meth : Method) (c : Code) (nL : Nat) (G : GG) (b : Nat) (Q : State → Prop) (pc : Nat) (lv : List (Nat × Value)) (st : List Value) (S : Sw) (cells slots : Nat) : Prop :=
  ∀ (ls : Array Slot) (H : Heap) (locs : List Loc), lv_has ls nL lv → Hd G b S H → va_S (Ab b) s.heap H locs → W p l e R s m args below meth c H locs cells slots Q (F0 m pc ls st)
theorem Cx.w (C : Cx p l s m args meth c cc nL own ret G b) {w : Cond} (h : w ∈ TB) : w.before args s = true := C.2.2.2.2.1 w h
theorem Cx.fx (C : Cx p l s m args meth c cc nL own ret G b) : Fx G b s := C.2.2.2.2.2.1
theorem Cx.K (C : Cx p l s m args meth c cc nL own ret G b) : va_K G.1 vwCl (tyl G) s := C.fx.1
theorem Cx.bw (C : Cx p l s m args meth c cc nL own ret G b) {w : Cond} (h : w ∈ BW) : w.before args s = true := va_Nw.use (bw_on h) (C.fx.2.1 w h)
theorem lk_at : ∀ {lv : List (Nat × Value)} {i : Nat} {v : Value} {ls : Array Slot} {n : Nat}, lv_has ls n lv → lv.lookup i = some v → ls[i]? = some (.val v)
  | [], _, _, _, _, _, h => by simp at h
  | (j, w) :: lv, i, v, ls, n, hl, h => by
    by_cases hij : i = j
    · subst hij
      simp [List.lookup] at h
      subst h
      exact hl.2.2 (i, w) List.mem_cons_self
    · have h2 : lv.lookup i = some v := by
        have hb : (i == j) = false := by simpa using hij
        simpa [List.lookup, hb] using h
      exact lk_at ⟨hl.1, hl.2.1, fun q hq => hl.2.2 q (List.mem_cons_of_mem _ hq)⟩ h2
def st1 (lv : List (Nat × Value)) (i : Nat) (v : Value) : List (Nat × Value) := (i, v) :: lv.filter (fun q => !(q.1 == i) && !(q.1 + 1 == i && q.2.category == 2))
def st2 (lv : List (Nat × Value)) (i : Nat) (v : Value) : List (Nat × Value) := (i, v) :: lv.filter (fun q => !(q.1 == i) && (!(q.1 == i + 1) && !(q.1 + 1 == i && q.2.category == 2)))
/-- fewer locals, in another order -/
theorem J.sub {lv' : List (Nat × Value)} (h : ∀ q ∈ lv', lv.lookup q.1 = some q.2) (k : J p l e R s m args below meth c nL G b Q pc lv' st S cells slots) : J p l e R s m args below meth c nL G b Q pc lv st S cells slots :=
  fun ls H locs h1 h2 h3 => k ls H locs ⟨h1.1, h1.2.1, fun q hq => lk_at h1 (h q hq)⟩ h2 h3
theorem J.wide {k n : Nat} (h1 : cells ≤ k) (h2 : slots ≤ n) (kk : J p l e R s m args below meth c nL G b Q pc lv st S k n) : J p l e R s m args below meth c nL G b Q pc lv st S cells slots :=
  fun ls H locs a1 a2 a3 => W.widen h1 h2 (kk ls H locs a1 a2 a3)
theorem r_iconst (C : Cx p l s m args meth c cc nL own ret G b) {n : Nat} {z : Int} {v : Int32} (d : decode cc pc = .ok (.iconst z, 1)) (hv : Int32.ofInt z = v) (hn : pc + 1 = n) (k : J p l e R s m args below meth c nL G b Q n lv (.int v :: st) S cells slots) : J p l e R s m args below meth c nL G b Q pc lv (st) S cells slots := fun ls H locs h1 h2 h3 => by subst hn; exact lv_iconst C.1 C.2.1 d hv (k ls H locs h1 h2 h3)
theorem r_bipush (C : Cx p l s m args meth c cc nL own ret G b) {n : Nat} {z : Int} {v : Int32} (d : decode cc pc = .ok (.bipush z, 2)) (hv : (Int8.ofInt z).toInt32 = v) (hn : pc + 2 = n) (k : J p l e R s m args below meth c nL G b Q n lv (.int v :: st) S cells slots) : J p l e R s m args below meth c nL G b Q pc lv (st) S cells slots := fun ls H locs h1 h2 h3 => by subst hn; exact lv_bipush C.1 C.2.1 d hv (k ls H locs h1 h2 h3)
theorem r_sipush (C : Cx p l s m args meth c cc nL own ret G b) {n : Nat} {z : Int} {v : Int32} (d : decode cc pc = .ok (.sipush z, 3)) (hv : (Int16.ofInt z).toInt32 = v) (hn : pc + 3 = n) (k : J p l e R s m args below meth c nL G b Q n lv (.int v :: st) S cells slots) : J p l e R s m args below meth c nL G b Q pc lv (st) S cells slots := fun ls H locs h1 h2 h3 => by subst hn; exact lv_sipush C.1 C.2.1 d hv (k ls H locs h1 h2 h3)
theorem r_lconst (C : Cx p l s m args meth c cc nL own ret G b) {n : Nat} {z : Fin 2} {v : Int64} (d : decode cc pc = .ok (.lconst z, 1)) (hv : Int64.ofNat (z : Nat) = v) (hn : pc + 1 = n) (k : J p l e R s m args below meth c nL G b Q n lv (.long v :: st) S cells slots) : J p l e R s m args below meth c nL G b Q pc lv (st) S cells slots := fun ls H locs h1 h2 h3 => by subst hn; exact lv_lconst C.1 C.2.1 d hv (k ls H locs h1 h2 h3)
theorem r_dconst0 (C : Cx p l s m args meth c cc nL own ret G b) {n : Nat}  (d : decode cc pc = .ok (.dconst 0, 1))  (hn : pc + 1 = n) (k : J p l e R s m args below meth c nL G b Q n lv (.double FP.dconst0 :: st) S cells slots) : J p l e R s m args below meth c nL G b Q pc lv (st) S cells slots := fun ls H locs h1 h2 h3 => by subst hn; exact lv_dconst0 C.1 C.2.1 d  (k ls H locs h1 h2 h3)
theorem r_dconst1 (C : Cx p l s m args meth c cc nL own ret G b) {n : Nat}  (d : decode cc pc = .ok (.dconst 1, 1))  (hn : pc + 1 = n) (k : J p l e R s m args below meth c nL G b Q n lv (.double FP.dconst1 :: st) S cells slots) : J p l e R s m args below meth c nL G b Q pc lv (st) S cells slots := fun ls H locs h1 h2 h3 => by subst hn; exact lv_dconst1 C.1 C.2.1 d  (k ls H locs h1 h2 h3)
theorem r_null (C : Cx p l s m args meth c cc nL own ret G b) {n : Nat}  (d : decode cc pc = .ok (.aconst_null, 1))  (hn : pc + 1 = n) (k : J p l e R s m args below meth c nL G b Q n lv (.null :: st) S cells slots) : J p l e R s m args below meth c nL G b Q pc lv (st) S cells slots := fun ls H locs h1 h2 h3 => by subst hn; exact lv_null C.1 C.2.1 d  (k ls H locs h1 h2 h3)
theorem r_iload_n (C : Cx p l s m args meth c cc nL own ret G b) {n : Nat} {z : Fin 4} {i : Nat} {x : Int32} (d : decode cc pc = .ok (.iload_n z, 1)) (hi : (z : Nat) = i) (hl : lv.lookup i = some (.int x)) (hn : pc + 1 = n) (k : J p l e R s m args below meth c nL G b Q n lv (.int x :: st) S cells slots) : J p l e R s m args below meth c nL G b Q pc lv (st) S cells slots := fun ls H locs h1 h2 h3 => by subst hn; exact lv_iload_n C.1 C.2.1 d hi (lk_at h1 hl) (k ls H locs h1 h2 h3)
theorem r_iload (C : Cx p l s m args meth c cc nL own ret G b) {n : Nat} {i : Nat} {x : Int32} (d : decode cc pc = .ok (.iload i, 2)) (hl : lv.lookup i = some (.int x)) (hn : pc + 2 = n) (k : J p l e R s m args below meth c nL G b Q n lv (.int x :: st) S cells slots) : J p l e R s m args below meth c nL G b Q pc lv (st) S cells slots := fun ls H locs h1 h2 h3 => by subst hn; exact lv_iload C.1 C.2.1 d (lk_at h1 hl) (k ls H locs h1 h2 h3)
theorem r_lload_n (C : Cx p l s m args meth c cc nL own ret G b) {n : Nat} {z : Fin 4} {i : Nat} {x : Int64} (d : decode cc pc = .ok (.lload_n z, 1)) (hi : (z : Nat) = i) (hl : lv.lookup i = some (.long x)) (hn : pc + 1 = n) (k : J p l e R s m args below meth c nL G b Q n lv (.long x :: st) S cells slots) : J p l e R s m args below meth c nL G b Q pc lv (st) S cells slots := fun ls H locs h1 h2 h3 => by subst hn; exact lv_lload_n C.1 C.2.1 d hi (lk_at h1 hl) (k ls H locs h1 h2 h3)
theorem r_lload (C : Cx p l s m args meth c cc nL own ret G b) {n : Nat} {i : Nat} {x : Int64} (d : decode cc pc = .ok (.lload i, 2)) (hl : lv.lookup i = some (.long x)) (hn : pc + 2 = n) (k : J p l e R s m args below meth c nL G b Q n lv (.long x :: st) S cells slots) : J p l e R s m args below meth c nL G b Q pc lv (st) S cells slots := fun ls H locs h1 h2 h3 => by subst hn; exact lv_lload C.1 C.2.1 d (lk_at h1 hl) (k ls H locs h1 h2 h3)
theorem r_aload_n (C : Cx p l s m args meth c cc nL own ret G b) {n : Nat} {z : Fin 4} {i : Nat} {x : Nat} (d : decode cc pc = .ok (.aload_n z, 1)) (hi : (z : Nat) = i) (hl : lv.lookup i = some (.ref x)) (hn : pc + 1 = n) (k : J p l e R s m args below meth c nL G b Q n lv (.ref x :: st) S cells slots) : J p l e R s m args below meth c nL G b Q pc lv (st) S cells slots := fun ls H locs h1 h2 h3 => by subst hn; exact lv_aload_n C.1 C.2.1 d hi (lk_at h1 hl) (k ls H locs h1 h2 h3)
theorem r_aload (C : Cx p l s m args meth c cc nL own ret G b) {n : Nat} {i : Nat} {x : Nat} (d : decode cc pc = .ok (.aload i, 2)) (hl : lv.lookup i = some (.ref x)) (hn : pc + 2 = n) (k : J p l e R s m args below meth c nL G b Q n lv (.ref x :: st) S cells slots) : J p l e R s m args below meth c nL G b Q pc lv (st) S cells slots := fun ls H locs h1 h2 h3 => by subst hn; exact lv_aload C.1 C.2.1 d (lk_at h1 hl) (k ls H locs h1 h2 h3)
theorem r_dload_n (C : Cx p l s m args meth c cc nL own ret G b) {n : Nat} {z : Fin 4} {i : Nat} {x : UInt64} (d : decode cc pc = .ok (.dload_n z, 1)) (hi : (z : Nat) = i) (hl : lv.lookup i = some (.double x)) (hn : pc + 1 = n) (k : J p l e R s m args below meth c nL G b Q n lv (.double x :: st) S cells slots) : J p l e R s m args below meth c nL G b Q pc lv (st) S cells slots := fun ls H locs h1 h2 h3 => by subst hn; exact lv_dload_n C.1 C.2.1 d hi (lk_at h1 hl) (k ls H locs h1 h2 h3)
theorem r_dload (C : Cx p l s m args meth c cc nL own ret G b) {n : Nat} {i : Nat} {x : UInt64} (d : decode cc pc = .ok (.dload i, 2)) (hl : lv.lookup i = some (.double x)) (hn : pc + 2 = n) (k : J p l e R s m args below meth c nL G b Q n lv (.double x :: st) S cells slots) : J p l e R s m args below meth c nL G b Q pc lv (st) S cells slots := fun ls H locs h1 h2 h3 => by subst hn; exact lv_dload C.1 C.2.1 d (lk_at h1 hl) (k ls H locs h1 h2 h3)
theorem r_istore_n (C : Cx p l s m args meth c cc nL own ret G b) {n : Nat} {z : Fin 4} {i : Nat} {x : Int32} {lv' : List (Nat × Value)} (d : decode cc pc = .ok (.istore_n z, 1)) (hi : (z : Nat) = i) (hb : i < nL) (hl : st1 lv i (.int x) = lv') (hn : pc + 1 = n) (k : J p l e R s m args below meth c nL G b Q n lv' st S cells slots) : J p l e R s m args below meth c nL G b Q pc lv (.int x :: st) S cells slots := fun ls H locs h1 h2 h3 => by subst hn; exact lv_istore_n C.1 C.2.1 d hi h1 hb hl (fun ls' h1 => k ls' H locs h1 h2 h3)
theorem r_istore (C : Cx p l s m args meth c cc nL own ret G b) {n : Nat} {i : Nat} {x : Int32} {lv' : List (Nat × Value)} (d : decode cc pc = .ok (.istore i, 2)) (hb : i < nL) (hl : st1 lv i (.int x) = lv') (hn : pc + 2 = n) (k : J p l e R s m args below meth c nL G b Q n lv' st S cells slots) : J p l e R s m args below meth c nL G b Q pc lv (.int x :: st) S cells slots := fun ls H locs h1 h2 h3 => by subst hn; exact lv_istore C.1 C.2.1 d h1 hb hl (fun ls' h1 => k ls' H locs h1 h2 h3)
theorem r_lstore_n (C : Cx p l s m args meth c cc nL own ret G b) {n : Nat} {z : Fin 4} {i : Nat} {x : Int64} {lv' : List (Nat × Value)} (d : decode cc pc = .ok (.lstore_n z, 1)) (hi : (z : Nat) = i) (hb : i + 1 < nL) (hl : st2 lv i (.long x) = lv') (hn : pc + 1 = n) (k : J p l e R s m args below meth c nL G b Q n lv' st S cells slots) : J p l e R s m args below meth c nL G b Q pc lv (.long x :: st) S cells slots := fun ls H locs h1 h2 h3 => by subst hn; exact lv_lstore_n C.1 C.2.1 d hi h1 hb hl (fun ls' h1 => k ls' H locs h1 h2 h3)
theorem r_lstore (C : Cx p l s m args meth c cc nL own ret G b) {n : Nat} {i : Nat} {x : Int64} {lv' : List (Nat × Value)} (d : decode cc pc = .ok (.lstore i, 2)) (hb : i + 1 < nL) (hl : st2 lv i (.long x) = lv') (hn : pc + 2 = n) (k : J p l e R s m args below meth c nL G b Q n lv' st S cells slots) : J p l e R s m args below meth c nL G b Q pc lv (.long x :: st) S cells slots := fun ls H locs h1 h2 h3 => by subst hn; exact lv_lstore C.1 C.2.1 d h1 hb hl (fun ls' h1 => k ls' H locs h1 h2 h3)
theorem r_astore_n (C : Cx p l s m args meth c cc nL own ret G b) {n : Nat} {z : Fin 4} {i : Nat} {x : Nat} {lv' : List (Nat × Value)} (d : decode cc pc = .ok (.astore_n z, 1)) (hi : (z : Nat) = i) (hb : i < nL) (hl : st1 lv i (.ref x) = lv') (hn : pc + 1 = n) (k : J p l e R s m args below meth c nL G b Q n lv' st S cells slots) : J p l e R s m args below meth c nL G b Q pc lv (.ref x :: st) S cells slots := fun ls H locs h1 h2 h3 => by subst hn; exact lv_astore_n C.1 C.2.1 d hi h1 hb hl (fun ls' h1 => k ls' H locs h1 h2 h3)
theorem r_astore (C : Cx p l s m args meth c cc nL own ret G b) {n : Nat} {i : Nat} {x : Nat} {lv' : List (Nat × Value)} (d : decode cc pc = .ok (.astore i, 2)) (hb : i < nL) (hl : st1 lv i (.ref x) = lv') (hn : pc + 2 = n) (k : J p l e R s m args below meth c nL G b Q n lv' st S cells slots) : J p l e R s m args below meth c nL G b Q pc lv (.ref x :: st) S cells slots := fun ls H locs h1 h2 h3 => by subst hn; exact lv_astore C.1 C.2.1 d h1 hb hl (fun ls' h1 => k ls' H locs h1 h2 h3)
theorem r_dstore_n (C : Cx p l s m args meth c cc nL own ret G b) {n : Nat} {z : Fin 4} {i : Nat} {x : UInt64} {lv' : List (Nat × Value)} (d : decode cc pc = .ok (.dstore_n z, 1)) (hi : (z : Nat) = i) (hb : i + 1 < nL) (hl : st2 lv i (.double x) = lv') (hn : pc + 1 = n) (k : J p l e R s m args below meth c nL G b Q n lv' st S cells slots) : J p l e R s m args below meth c nL G b Q pc lv (.double x :: st) S cells slots := fun ls H locs h1 h2 h3 => by subst hn; exact lv_dstore_n C.1 C.2.1 d hi h1 hb hl (fun ls' h1 => k ls' H locs h1 h2 h3)
theorem r_dstore (C : Cx p l s m args meth c cc nL own ret G b) {n : Nat} {i : Nat} {x : UInt64} {lv' : List (Nat × Value)} (d : decode cc pc = .ok (.dstore i, 2)) (hb : i + 1 < nL) (hl : st2 lv i (.double x) = lv') (hn : pc + 2 = n) (k : J p l e R s m args below meth c nL G b Q n lv' st S cells slots) : J p l e R s m args below meth c nL G b Q pc lv (.double x :: st) S cells slots := fun ls H locs h1 h2 h3 => by subst hn; exact lv_dstore C.1 C.2.1 d h1 hb hl (fun ls' h1 => k ls' H locs h1 h2 h3)
theorem r_iinc (C : Cx p l s m args meth c cc nL own ret G b) {n : Nat} {i : Nat} {z : Int} {x v : Int32} {lv' : List (Nat × Value)} (d : decode cc pc = .ok (.iinc i z, 3)) (hx : lv.lookup i = some (.int x)) (hv : x + Int32.ofInt z = v) (hb : i < nL) (hl : st1 lv i (.int v) = lv') (hn : pc + 3 = n) (k : J p l e R s m args below meth c nL G b Q n lv' st S cells slots) : J p l e R s m args below meth c nL G b Q pc lv st S cells slots := fun ls H locs h1 h2 h3 => by
  subst hn
  have h1' : lv_has ls nL ((i, .int x) :: lv) := ⟨h1.1, h1.2.1, fun q hq => (List.mem_cons.mp hq).elim (fun e => by rw [e]; exact lk_at h1 hx) (fun h => h1.2.2 q h)⟩
  refine lv_iinc C.1 C.2.1 d h1' (k := 0) rfl hv hb (lv' := lv') ?_ (fun ls' h1 => k ls' H locs h1 h2 h3)
  rw [← hl]
  simp [st1]
theorem r_iadd (C : Cx p l s m args meth c cc nL own ret G b) {n : Nat} {x y : Int32} (d : decode cc pc = .ok (.iadd, 1))  (hn : pc + 1 = n) (k : J p l e R s m args below meth c nL G b Q n lv (.int (x + y) :: st) S cells slots) : J p l e R s m args below meth c nL G b Q pc lv (.int y :: .int x :: st) S cells slots := fun ls H locs h1 h2 h3 => by subst hn; exact lv_iadd C.1 C.2.1 d  (k ls H locs h1 h2 h3)
theorem r_isub (C : Cx p l s m args meth c cc nL own ret G b) {n : Nat} {x y : Int32} (d : decode cc pc = .ok (.isub, 1))  (hn : pc + 1 = n) (k : J p l e R s m args below meth c nL G b Q n lv (.int (x - y) :: st) S cells slots) : J p l e R s m args below meth c nL G b Q pc lv (.int y :: .int x :: st) S cells slots := fun ls H locs h1 h2 h3 => by subst hn; exact lv_isub C.1 C.2.1 d  (k ls H locs h1 h2 h3)
theorem r_imul (C : Cx p l s m args meth c cc nL own ret G b) {n : Nat} {x y : Int32} (d : decode cc pc = .ok (.imul, 1))  (hn : pc + 1 = n) (k : J p l e R s m args below meth c nL G b Q n lv (.int (x * y) :: st) S cells slots) : J p l e R s m args below meth c nL G b Q pc lv (.int y :: .int x :: st) S cells slots := fun ls H locs h1 h2 h3 => by subst hn; exact lv_imul C.1 C.2.1 d  (k ls H locs h1 h2 h3)
theorem r_iand (C : Cx p l s m args meth c cc nL own ret G b) {n : Nat} {x y : Int32} (d : decode cc pc = .ok (.iand, 1))  (hn : pc + 1 = n) (k : J p l e R s m args below meth c nL G b Q n lv (.int (x &&& y) :: st) S cells slots) : J p l e R s m args below meth c nL G b Q pc lv (.int y :: .int x :: st) S cells slots := fun ls H locs h1 h2 h3 => by subst hn; exact lv_iand C.1 C.2.1 d  (k ls H locs h1 h2 h3)
theorem r_ixor (C : Cx p l s m args meth c cc nL own ret G b) {n : Nat} {x y : Int32} (d : decode cc pc = .ok (.ixor, 1))  (hn : pc + 1 = n) (k : J p l e R s m args below meth c nL G b Q n lv (.int (x ^^^ y) :: st) S cells slots) : J p l e R s m args below meth c nL G b Q pc lv (.int y :: .int x :: st) S cells slots := fun ls H locs h1 h2 h3 => by subst hn; exact lv_ixor C.1 C.2.1 d  (k ls H locs h1 h2 h3)
theorem r_idiv (C : Cx p l s m args meth c cc nL own ret G b) {n : Nat} {x y : Int32} (d : decode cc pc = .ok (.idiv, 1)) (hz : ¬ y = 0) (hn : pc + 1 = n) (k : J p l e R s m args below meth c nL G b Q n lv (.int (x / y) :: st) S cells slots) : J p l e R s m args below meth c nL G b Q pc lv (.int y :: .int x :: st) S cells slots := fun ls H locs h1 h2 h3 => by subst hn; exact lv_idiv C.1 C.2.1 d hz (k ls H locs h1 h2 h3)
theorem r_irem (C : Cx p l s m args meth c cc nL own ret G b) {n : Nat} {x y : Int32} (d : decode cc pc = .ok (.irem, 1)) (hz : ¬ y = 0) (hn : pc + 1 = n) (k : J p l e R s m args below meth c nL G b Q n lv (.int (x - x / y * y) :: st) S cells slots) : J p l e R s m args below meth c nL G b Q pc lv (.int y :: .int x :: st) S cells slots := fun ls H locs h1 h2 h3 => by subst hn; exact lv_irem C.1 C.2.1 d hz (k ls H locs h1 h2 h3)
theorem r_ineg (C : Cx p l s m args meth c cc nL own ret G b) {n : Nat} {x : Int32} (d : decode cc pc = .ok (.ineg, 1))  (hn : pc + 1 = n) (k : J p l e R s m args below meth c nL G b Q n lv (.int (-x) :: st) S cells slots) : J p l e R s m args below meth c nL G b Q pc lv (.int x :: st) S cells slots := fun ls H locs h1 h2 h3 => by subst hn; exact lv_ineg C.1 C.2.1 d  (k ls H locs h1 h2 h3)
theorem r_ladd (C : Cx p l s m args meth c cc nL own ret G b) {n : Nat} {x y : Int64} (d : decode cc pc = .ok (.ladd, 1))  (hn : pc + 1 = n) (k : J p l e R s m args below meth c nL G b Q n lv (.long (x + y) :: st) S cells slots) : J p l e R s m args below meth c nL G b Q pc lv (.long y :: .long x :: st) S cells slots := fun ls H locs h1 h2 h3 => by subst hn; exact lv_ladd C.1 C.2.1 d  (k ls H locs h1 h2 h3)
theorem r_lsub (C : Cx p l s m args meth c cc nL own ret G b) {n : Nat} {x y : Int64} (d : decode cc pc = .ok (.lsub, 1))  (hn : pc + 1 = n) (k : J p l e R s m args below meth c nL G b Q n lv (.long (x - y) :: st) S cells slots) : J p l e R s m args below meth c nL G b Q pc lv (.long y :: .long x :: st) S cells slots := fun ls H locs h1 h2 h3 => by subst hn; exact lv_lsub C.1 C.2.1 d  (k ls H locs h1 h2 h3)
theorem r_lmul (C : Cx p l s m args meth c cc nL own ret G b) {n : Nat} {x y : Int64} (d : decode cc pc = .ok (.lmul, 1))  (hn : pc + 1 = n) (k : J p l e R s m args below meth c nL G b Q n lv (.long (x * y) :: st) S cells slots) : J p l e R s m args below meth c nL G b Q pc lv (.long y :: .long x :: st) S cells slots := fun ls H locs h1 h2 h3 => by subst hn; exact lv_lmul C.1 C.2.1 d  (k ls H locs h1 h2 h3)
theorem r_land (C : Cx p l s m args meth c cc nL own ret G b) {n : Nat} {x y : Int64} (d : decode cc pc = .ok (.land, 1))  (hn : pc + 1 = n) (k : J p l e R s m args below meth c nL G b Q n lv (.long (x &&& y) :: st) S cells slots) : J p l e R s m args below meth c nL G b Q pc lv (.long y :: .long x :: st) S cells slots := fun ls H locs h1 h2 h3 => by subst hn; exact lv_land C.1 C.2.1 d  (k ls H locs h1 h2 h3)
theorem r_lxor (C : Cx p l s m args meth c cc nL own ret G b) {n : Nat} {x y : Int64} (d : decode cc pc = .ok (.lxor, 1))  (hn : pc + 1 = n) (k : J p l e R s m args below meth c nL G b Q n lv (.long (x ^^^ y) :: st) S cells slots) : J p l e R s m args below meth c nL G b Q pc lv (.long y :: .long x :: st) S cells slots := fun ls H locs h1 h2 h3 => by subst hn; exact lv_lxor C.1 C.2.1 d  (k ls H locs h1 h2 h3)
theorem r_ldiv (C : Cx p l s m args meth c cc nL own ret G b) {n : Nat} {x y : Int64} (d : decode cc pc = .ok (.ldiv, 1)) (hz : ¬ y = 0) (hn : pc + 1 = n) (k : J p l e R s m args below meth c nL G b Q n lv (.long (x / y) :: st) S cells slots) : J p l e R s m args below meth c nL G b Q pc lv (.long y :: .long x :: st) S cells slots := fun ls H locs h1 h2 h3 => by subst hn; exact lv_ldiv C.1 C.2.1 d hz (k ls H locs h1 h2 h3)
theorem r_lrem (C : Cx p l s m args meth c cc nL own ret G b) {n : Nat} {x y : Int64} (d : decode cc pc = .ok (.lrem, 1)) (hz : ¬ y = 0) (hn : pc + 1 = n) (k : J p l e R s m args below meth c nL G b Q n lv (.long (x - x / y * y) :: st) S cells slots) : J p l e R s m args below meth c nL G b Q pc lv (.long y :: .long x :: st) S cells slots := fun ls H locs h1 h2 h3 => by subst hn; exact lv_lrem C.1 C.2.1 d hz (k ls H locs h1 h2 h3)
theorem r_lneg (C : Cx p l s m args meth c cc nL own ret G b) {n : Nat} {x : Int64} (d : decode cc pc = .ok (.lneg, 1))  (hn : pc + 1 = n) (k : J p l e R s m args below meth c nL G b Q n lv (.long (-x) :: st) S cells slots) : J p l e R s m args below meth c nL G b Q pc lv (.long x :: st) S cells slots := fun ls H locs h1 h2 h3 => by subst hn; exact lv_lneg C.1 C.2.1 d  (k ls H locs h1 h2 h3)
theorem r_dmul (C : Cx p l s m args meth c cc nL own ret G b) {n : Nat} {x y : UInt64} (d : decode cc pc = .ok (.dmul, 1)) (hz : vf_n64 (FP.dmul x y)) (hn : pc + 1 = n) (k : J p l e R s m args below meth c nL G b Q n lv (.double (FP.dmul x y) :: st) S cells slots) : J p l e R s m args below meth c nL G b Q pc lv (.double y :: .double x :: st) S cells slots := fun ls H locs h1 h2 h3 => by subst hn; exact lv_dmul C.1 C.2.1 d hz (k ls H locs h1 h2 h3)
theorem r_ddiv (C : Cx p l s m args meth c cc nL own ret G b) {n : Nat} {x y : UInt64} (d : decode cc pc = .ok (.ddiv, 1)) (hz : vf_n64 (FP.ddiv x y)) (hn : pc + 1 = n) (k : J p l e R s m args below meth c nL G b Q n lv (.double (FP.ddiv x y) :: st) S cells slots) : J p l e R s m args below meth c nL G b Q pc lv (.double y :: .double x :: st) S cells slots := fun ls H locs h1 h2 h3 => by subst hn; exact lv_ddiv C.1 C.2.1 d hz (k ls H locs h1 h2 h3)
theorem r_i2l (C : Cx p l s m args meth c cc nL own ret G b) {n : Nat} {x : Int32} (d : decode cc pc = .ok (.i2l, 1))  (hn : pc + 1 = n) (k : J p l e R s m args below meth c nL G b Q n lv (.long x.toInt64 :: st) S cells slots) : J p l e R s m args below meth c nL G b Q pc lv (.int x :: st) S cells slots := fun ls H locs h1 h2 h3 => by subst hn; exact lv_i2l C.1 C.2.1 d rfl (k ls H locs h1 h2 h3)
theorem r_l2i (C : Cx p l s m args meth c cc nL own ret G b) {n : Nat} {x : Int64} (d : decode cc pc = .ok (.l2i, 1))  (hn : pc + 1 = n) (k : J p l e R s m args below meth c nL G b Q n lv (.int x.toInt32 :: st) S cells slots) : J p l e R s m args below meth c nL G b Q pc lv (.long x :: st) S cells slots := fun ls H locs h1 h2 h3 => by subst hn; exact lv_l2i C.1 C.2.1 d rfl (k ls H locs h1 h2 h3)
theorem r_i2d (C : Cx p l s m args meth c cc nL own ret G b) {n : Nat} {x : Int32} (d : decode cc pc = .ok (.i2d, 1))  (hn : pc + 1 = n) (k : J p l e R s m args below meth c nL G b Q n lv (.double (FP.i2d x) :: st) S cells slots) : J p l e R s m args below meth c nL G b Q pc lv (.int x :: st) S cells slots := fun ls H locs h1 h2 h3 => by subst hn; exact lv_i2d C.1 C.2.1 d  (k ls H locs h1 h2 h3)
theorem r_l2d (C : Cx p l s m args meth c cc nL own ret G b) {n : Nat} {x : Int64} (d : decode cc pc = .ok (.l2d, 1))  (hn : pc + 1 = n) (k : J p l e R s m args below meth c nL G b Q n lv (.double (FP.l2d x) :: st) S cells slots) : J p l e R s m args below meth c nL G b Q pc lv (.long x :: st) S cells slots := fun ls H locs h1 h2 h3 => by subst hn; exact lv_l2d C.1 C.2.1 d  (k ls H locs h1 h2 h3)
theorem r_d2i (C : Cx p l s m args meth c cc nL own ret G b) {n : Nat} {x : UInt64} (d : decode cc pc = .ok (.d2i, 1))  (hn : pc + 1 = n) (k : J p l e R s m args below meth c nL G b Q n lv (.int (FP.d2i x) :: st) S cells slots) : J p l e R s m args below meth c nL G b Q pc lv (.double x :: st) S cells slots := fun ls H locs h1 h2 h3 => by subst hn; exact lv_d2i C.1 C.2.1 d  (k ls H locs h1 h2 h3)
theorem r_dcmp (C : Cx p l s m args meth c cc nL own ret G b) {n : Nat} {x y : UInt64} {op : CmpOp} (d : decode cc pc = .ok (.dcmp op, 1))  (hn : pc + 1 = n) (k : J p l e R s m args below meth c nL G b Q n lv (.int (Op.cmpValue (FP.dcmp x y) op) :: st) S cells slots) : J p l e R s m args below meth c nL G b Q pc lv (.double y :: .double x :: st) S cells slots := fun ls H locs h1 h2 h3 => by subst hn; exact lv_dcmp C.1 C.2.1 d  (k ls H locs h1 h2 h3)
theorem r_dup (C : Cx p l s m args meth c cc nL own ret G b) {n : Nat} {v : Value} (d : decode cc pc = .ok (.dup, 1)) (hc : v.category = 1) (hn : pc + 1 = n) (k : J p l e R s m args below meth c nL G b Q n lv (v :: v :: st) S cells slots) : J p l e R s m args below meth c nL G b Q pc lv (v :: st) S cells slots := fun ls H locs h1 h2 h3 => by subst hn; exact lv_dup C.1 C.2.1 d hc (k ls H locs h1 h2 h3)
theorem r_pop (C : Cx p l s m args meth c cc nL own ret G b) {n : Nat} {v : Value} (d : decode cc pc = .ok (.pop, 1)) (hc : v.category = 1) (hn : pc + 1 = n) (k : J p l e R s m args below meth c nL G b Q n lv (st) S cells slots) : J p l e R s m args below meth c nL G b Q pc lv (v :: st) S cells slots := fun ls H locs h1 h2 h3 => by subst hn; exact lv_pop C.1 C.2.1 d hc (k ls H locs h1 h2 h3)
theorem r_dup2_11 (C : Cx p l s m args meth c cc nL own ret G b) {n : Nat} {v w : Value} (d : decode cc pc = .ok (.dup2, 1)) (hc : v.category = 1) (hd : w.category = 1) (hn : pc + 1 = n) (k : J p l e R s m args below meth c nL G b Q n lv (v :: w :: v :: w :: st) S cells slots) : J p l e R s m args below meth c nL G b Q pc lv (v :: w :: st) S cells slots := fun ls H locs h1 h2 h3 => by subst hn; exact lv_dup2_11 C.1 C.2.1 d hc hd (k ls H locs h1 h2 h3)
theorem r_lcmp (C : Cx p l s m args meth c cc nL own ret G b) {n : Nat} {x y : Int64} (d : decode cc pc = .ok (.lcmp, 1))  (hn : pc + 1 = n) (k : J p l e R s m args below meth c nL G b Q n lv (.int (lg_cmp x y) :: st) S cells slots) : J p l e R s m args below meth c nL G b Q pc lv (.long y :: .long x :: st) S cells slots := fun ls H locs h1 h2 h3 => by subst hn; exact W.lcmp C.1 C.2.1 d (k ls H locs h1 h2 h3)
theorem r_if_eq (C : Cx p l s m args meth c cc nL own ret G b) {n t : Nat} {x : Int32} {off : Int} (d : decode cc pc = .ok (.ifCond .eq off, 3)) (ht : (pc : Int) + off = (t : Int)) (hn : pc + 3 = n) (kt : x = 0 → J p l e R s m args below meth c nL G b Q t lv st S cells slots) (kf : ¬ x = 0 → J p l e R s m args below meth c nL G b Q n lv st S cells slots) : J p l e R s m args below meth c nL G b Q pc lv (.int x :: st) S cells slots := fun ls H locs h1 h2 h3 => by subst hn; exact lv_if_eq C.1 C.2.1 d ht (fun z => kt z ls H locs h1 h2 h3) (fun z => kf z ls H locs h1 h2 h3)
theorem r_icmp_eq (C : Cx p l s m args meth c cc nL own ret G b) {n t : Nat} {x y : Int32} {off : Int} (d : decode cc pc = .ok (.if_icmp .eq off, 3)) (ht : (pc : Int) + off = (t : Int)) (hn : pc + 3 = n) (kt : x = y → J p l e R s m args below meth c nL G b Q t lv st S cells slots) (kf : ¬ x = y → J p l e R s m args below meth c nL G b Q n lv st S cells slots) : J p l e R s m args below meth c nL G b Q pc lv (.int y :: .int x :: st) S cells slots := fun ls H locs h1 h2 h3 => by subst hn; exact lv_icmp_eq C.1 C.2.1 d ht (fun z => kt z ls H locs h1 h2 h3) (fun z => kf z ls H locs h1 h2 h3)
theorem r_if_ne (C : Cx p l s m args meth c cc nL own ret G b) {n t : Nat} {x : Int32} {off : Int} (d : decode cc pc = .ok (.ifCond .ne off, 3)) (ht : (pc : Int) + off = (t : Int)) (hn : pc + 3 = n) (kt : ¬ x = 0 → J p l e R s m args below meth c nL G b Q t lv st S cells slots) (kf : x = 0 → J p l e R s m args below meth c nL G b Q n lv st S cells slots) : J p l e R s m args below meth c nL G b Q pc lv (.int x :: st) S cells slots := fun ls H locs h1 h2 h3 => by subst hn; exact lv_if_ne C.1 C.2.1 d ht (fun z => kt z ls H locs h1 h2 h3) (fun z => kf z ls H locs h1 h2 h3)
theorem r_icmp_ne (C : Cx p l s m args meth c cc nL own ret G b) {n t : Nat} {x y : Int32} {off : Int} (d : decode cc pc = .ok (.if_icmp .ne off, 3)) (ht : (pc : Int) + off = (t : Int)) (hn : pc + 3 = n) (kt : ¬ x = y → J p l e R s m args below meth c nL G b Q t lv st S cells slots) (kf : x = y → J p l e R s m args below meth c nL G b Q n lv st S cells slots) : J p l e R s m args below meth c nL G b Q pc lv (.int y :: .int x :: st) S cells slots := fun ls H locs h1 h2 h3 => by subst hn; exact lv_icmp_ne C.1 C.2.1 d ht (fun z => kt z ls H locs h1 h2 h3) (fun z => kf z ls H locs h1 h2 h3)
theorem r_if_lt (C : Cx p l s m args meth c cc nL own ret G b) {n t : Nat} {x : Int32} {off : Int} (d : decode cc pc = .ok (.ifCond .lt off, 3)) (ht : (pc : Int) + off = (t : Int)) (hn : pc + 3 = n) (kt : x < 0 → J p l e R s m args below meth c nL G b Q t lv st S cells slots) (kf : ¬ x < 0 → J p l e R s m args below meth c nL G b Q n lv st S cells slots) : J p l e R s m args below meth c nL G b Q pc lv (.int x :: st) S cells slots := fun ls H locs h1 h2 h3 => by subst hn; exact lv_if_lt C.1 C.2.1 d ht (fun z => kt z ls H locs h1 h2 h3) (fun z => kf z ls H locs h1 h2 h3)
theorem r_icmp_lt (C : Cx p l s m args meth c cc nL own ret G b) {n t : Nat} {x y : Int32} {off : Int} (d : decode cc pc = .ok (.if_icmp .lt off, 3)) (ht : (pc : Int) + off = (t : Int)) (hn : pc + 3 = n) (kt : x < y → J p l e R s m args below meth c nL G b Q t lv st S cells slots) (kf : ¬ x < y → J p l e R s m args below meth c nL G b Q n lv st S cells slots) : J p l e R s m args below meth c nL G b Q pc lv (.int y :: .int x :: st) S cells slots := fun ls H locs h1 h2 h3 => by subst hn; exact lv_icmp_lt C.1 C.2.1 d ht (fun z => kt z ls H locs h1 h2 h3) (fun z => kf z ls H locs h1 h2 h3)
theorem r_if_ge (C : Cx p l s m args meth c cc nL own ret G b) {n t : Nat} {x : Int32} {off : Int} (d : decode cc pc = .ok (.ifCond .ge off, 3)) (ht : (pc : Int) + off = (t : Int)) (hn : pc + 3 = n) (kt : 0 ≤ x → J p l e R s m args below meth c nL G b Q t lv st S cells slots) (kf : ¬ 0 ≤ x → J p l e R s m args below meth c nL G b Q n lv st S cells slots) : J p l e R s m args below meth c nL G b Q pc lv (.int x :: st) S cells slots := fun ls H locs h1 h2 h3 => by subst hn; exact lv_if_ge C.1 C.2.1 d ht (fun z => kt z ls H locs h1 h2 h3) (fun z => kf z ls H locs h1 h2 h3)
theorem r_icmp_ge (C : Cx p l s m args meth c cc nL own ret G b) {n t : Nat} {x y : Int32} {off : Int} (d : decode cc pc = .ok (.if_icmp .ge off, 3)) (ht : (pc : Int) + off = (t : Int)) (hn : pc + 3 = n) (kt : y ≤ x → J p l e R s m args below meth c nL G b Q t lv st S cells slots) (kf : ¬ y ≤ x → J p l e R s m args below meth c nL G b Q n lv st S cells slots) : J p l e R s m args below meth c nL G b Q pc lv (.int y :: .int x :: st) S cells slots := fun ls H locs h1 h2 h3 => by subst hn; exact lv_icmp_ge C.1 C.2.1 d ht (fun z => kt z ls H locs h1 h2 h3) (fun z => kf z ls H locs h1 h2 h3)
theorem r_if_gt (C : Cx p l s m args meth c cc nL own ret G b) {n t : Nat} {x : Int32} {off : Int} (d : decode cc pc = .ok (.ifCond .gt off, 3)) (ht : (pc : Int) + off = (t : Int)) (hn : pc + 3 = n) (kt : 0 < x → J p l e R s m args below meth c nL G b Q t lv st S cells slots) (kf : ¬ 0 < x → J p l e R s m args below meth c nL G b Q n lv st S cells slots) : J p l e R s m args below meth c nL G b Q pc lv (.int x :: st) S cells slots := fun ls H locs h1 h2 h3 => by subst hn; exact lv_if_gt C.1 C.2.1 d ht (fun z => kt z ls H locs h1 h2 h3) (fun z => kf z ls H locs h1 h2 h3)
theorem r_icmp_gt (C : Cx p l s m args meth c cc nL own ret G b) {n t : Nat} {x y : Int32} {off : Int} (d : decode cc pc = .ok (.if_icmp .gt off, 3)) (ht : (pc : Int) + off = (t : Int)) (hn : pc + 3 = n) (kt : y < x → J p l e R s m args below meth c nL G b Q t lv st S cells slots) (kf : ¬ y < x → J p l e R s m args below meth c nL G b Q n lv st S cells slots) : J p l e R s m args below meth c nL G b Q pc lv (.int y :: .int x :: st) S cells slots := fun ls H locs h1 h2 h3 => by subst hn; exact lv_icmp_gt C.1 C.2.1 d ht (fun z => kt z ls H locs h1 h2 h3) (fun z => kf z ls H locs h1 h2 h3)
theorem r_if_le (C : Cx p l s m args meth c cc nL own ret G b) {n t : Nat} {x : Int32} {off : Int} (d : decode cc pc = .ok (.ifCond .le off, 3)) (ht : (pc : Int) + off = (t : Int)) (hn : pc + 3 = n) (kt : x ≤ 0 → J p l e R s m args below meth c nL G b Q t lv st S cells slots) (kf : ¬ x ≤ 0 → J p l e R s m args below meth c nL G b Q n lv st S cells slots) : J p l e R s m args below meth c nL G b Q pc lv (.int x :: st) S cells slots := fun ls H locs h1 h2 h3 => by subst hn; exact lv_if_le C.1 C.2.1 d ht (fun z => kt z ls H locs h1 h2 h3) (fun z => kf z ls H locs h1 h2 h3)
theorem r_icmp_le (C : Cx p l s m args meth c cc nL own ret G b) {n t : Nat} {x y : Int32} {off : Int} (d : decode cc pc = .ok (.if_icmp .le off, 3)) (ht : (pc : Int) + off = (t : Int)) (hn : pc + 3 = n) (kt : x ≤ y → J p l e R s m args below meth c nL G b Q t lv st S cells slots) (kf : ¬ x ≤ y → J p l e R s m args below meth c nL G b Q n lv st S cells slots) : J p l e R s m args below meth c nL G b Q pc lv (.int y :: .int x :: st) S cells slots := fun ls H locs h1 h2 h3 => by subst hn; exact lv_icmp_le C.1 C.2.1 d ht (fun z => kt z ls H locs h1 h2 h3) (fun z => kf z ls H locs h1 h2 h3)
theorem r_goto (C : Cx p l s m args meth c cc nL own ret G b) {t : Nat} {off : Int} (d : decode cc pc = .ok (.goto off, 3)) (ht : (pc : Int) + off = (t : Int)) (k : J p l e R s m args below meth c nL G b Q t lv st S cells slots) : J p l e R s m args below meth c nL G b Q pc lv st S cells slots := fun ls H locs h1 h2 h3 => lv_goto C.1 C.2.1 d ht (k ls H locs h1 h2 h3)
theorem r_ifnonnull (C : Cx p l s m args meth c cc nL own ret G b) {t x : Nat} {off : Int} (d : decode cc pc = .ok (.ifnonnull off, 3)) (ht : (pc : Int) + off = (t : Int)) (k : J p l e R s m args below meth c nL G b Q t lv st S cells slots) : J p l e R s m args below meth c nL G b Q pc lv (.ref x :: st) S cells slots := fun ls H locs h1 h2 h3 => lv_ifnonnull C.1 C.2.1 d ht (k ls H locs h1 h2 h3)
theorem r_ifnonnullN (C : Cx p l s m args meth c cc nL own ret G b) {n : Nat} {off : Int} (d : decode cc pc = .ok (.ifnonnull off, 3)) (hn : pc + 3 = n) (k : J p l e R s m args below meth c nL G b Q n lv st S cells slots) : J p l e R s m args below meth c nL G b Q pc lv (.null :: st) S cells slots := fun ls H locs h1 h2 h3 => by subst hn; exact lv_ifnonnullN C.1 C.2.1 d (k ls H locs h1 h2 h3)
theorem r_ldc (C : Cx p l s m args meth c cc nL own ret G b) {n index : Nat} {v : Int32} (hw : Jvm.Cond.constant own index v ∈ TB) (d : decode cc pc = .ok (.ldc index, 2)) (hn : pc + 2 = n) (k : J p l e R s m args below meth c nL G b Q n lv (.int v :: st) S cells slots) : J p l e R s m args below meth c nL G b Q pc lv st S cells slots := fun ls H locs h1 h2 h3 => by subst hn; exact lv_ldc C.1 C.2.1 C.2.2.2.1 (C.w hw) d (k ls H locs h1 h2 h3)
theorem r_ldc2 (C : Cx p l s m args meth c cc nL own ret G b) {n index : Nat} {v : Int64} (hw : Jvm.Cond.constantLong own index v ∈ TB) (d : decode cc pc = .ok (.ldc2_w index, 3)) (hn : pc + 3 = n) (k : J p l e R s m args below meth c nL G b Q n lv (.long v :: st) S cells slots) : J p l e R s m args below meth c nL G b Q pc lv st S cells slots := fun ls H locs h1 h2 h3 => by subst hn; exact lv_ldc2 C.1 C.2.1 C.2.2.2.1 (C.w hw) d (k ls H locs h1 h2 h3)
theorem r_ldc2d (C : Cx p l s m args meth c cc nL own ret G b) {n index : Nat} {v : UInt64} (hw : Jvm.Cond.constantDouble own index v ∈ TB) (d : decode cc pc = .ok (.ldc2_w index, 3)) (hn : pc + 3 = n) (k : J p l e R s m args below meth c nL G b Q n lv (.double v :: st) S cells slots) : J p l e R s m args below meth c nL G b Q pc lv st S cells slots := fun ls H locs h1 h2 h3 => by subst hn; exact lv_ldc2d C.1 C.2.1 C.2.2.2.1 (C.w hw) d (k ls H locs h1 h2 h3)
/-! ===== reading and writing the pool ===== -/
theorem r_get (C : Cx p l s m args meth c cc nL own ret G b) {n a ci N index : Nat} {ref Cn : String} {T : u_T} {fs : List Value} (hK : sK S a ≠ 0) (he : ent G S a = .inr (ci, fs)) (hc : vwCl[ci]? = some (Cn, T, N)) (k : Nat) (hk : k < N) (hin : ∀ w ∈ u_ws Cn T N, w ∈ TB)
    (hlink : (Cond.fieldLink own index ref (T k).2.1 (T k).2.2.1).before args s = true) (hsame : ∀ x, s.fieldFound? (T k).1 (T k).2.1 (T k).2.2.1 = some x → s.fieldFound? ref (T k).2.1 (T k).2.2.1 = some x) {v : Value} (hv : fs[k]? = some v) (d : decode cc pc = .ok (.getfield index, 3)) (hn : pc + 3 = n)
    (kk : J p l e R s m args below meth c nL G b Q n lv (v :: st) S cells slots) : J p l e R s m args below meth c nL G b Q pc lv (.ref a :: st) S cells slots := by
  subst hn
  intro ls H locs h1 h2 h3
  obtain ⟨ws, q, hP, hD, hq, -, -⟩ := h2.at hK
  rw [he] at hq
  exact va_get C.1 C.2.1 C.2.2.2.2.1 hin C.2.2.2.1 C.K hP q hq hc k hk hlink hsame hv d (kk ls H locs h1 h2 h3)
theorem r_getN (C : Cx p l s m args meth c cc nL own ret G b) {n a ci N index : Nat} {ref Cn host : String} {T : u_T} {fs : List Value} (hK : sK S a ≠ 0) (he : ent G S a = .inr (ci, fs)) (hc : vwCl[ci]? = some (Cn, T, N)) (k : Nat) (hk : k < N) (hin : ∀ w ∈ u_ws Cn T N, w ∈ TB)
    (hlink : (Cond.fieldLinkNest own index ref (T k).2.1 (T k).2.2.1 host).before args s = true) (hsame : ∀ x, s.fieldFound? (T k).1 (T k).2.1 (T k).2.2.1 = some x → s.fieldFound? ref (T k).2.1 (T k).2.2.1 = some x) {v : Value} (hv : fs[k]? = some v) (d : decode cc pc = .ok (.getfield index, 3)) (hn : pc + 3 = n)
    (kk : J p l e R s m args below meth c nL G b Q n lv (v :: st) S cells slots) : J p l e R s m args below meth c nL G b Q pc lv (.ref a :: st) S cells slots := by
  subst hn
  intro ls H locs h1 h2 h3
  obtain ⟨ws, q, hP, hD, hq, -, -⟩ := h2.at hK
  rw [he] at hq
  exact va_getN C.1 C.2.1 C.2.2.2.2.1 hin C.2.2.2.1 C.K hP q hq hc k hk hlink hsame hv d (kk ls H locs h1 h2 h3)
theorem r_put (C : Cx p l s m args meth c cc nL own ret G b) {n a ci N index : Nat} {ref Cn : String} {T : u_T} {ty0 : Nat → FieldType} {fs : List Value} {S' : Sw} (hK : sK S a ≠ 0) (he : ent G S a = .inr (ci, fs)) (hc : vwCl[ci]? = some (Cn, T, N)) (k : Nat) (hk : k < N) (hin : ∀ w ∈ u_ws Cn T N, w ∈ TB)
    (hty : ∀ k, k < N → parseFieldDescriptor (T k).2.2.1 = some (ty0 k)) (hnm : ∀ a, a < N → ∀ b, b < N → a ≠ b → (T a).2.1 ≠ (T b).2.1)
    (hlink : (Cond.fieldLink own index ref (T k).2.1 (T k).2.2.1).before args s = true) (hsame : ∀ x, s.fieldFound? (T k).1 (T k).2.1 (T k).2.2.1 = some x → s.fieldFound? ref (T k).2.1 (T k).2.2.1 = some x) {ty : FieldType} {v : Value} (hfin : (T k).2.2.2 = false ∨ ((T k).2.2.2 = true ∧ meth.name = "<init>" ∧ (T k).1 = own)) (hd : parseFieldDescriptor (T k).2.2.1 = some ty) (hnr : narrow ty v = v) (hfit : fits ty v = true) (hl : k < fs.length)
    (hs : ent G S' a = .inr (ci, fs.set k v)) (hx : ∀ x, x ≠ a → ent G S' x = ent G S x) (hKK : ∀ x, sK S' x ≠ 0 → sK S x ≠ 0) (d : decode cc pc = .ok (.putfield index, 3)) (hn : pc + 3 = n)
    (kk : J p l e R s m args below meth c nL G b Q n lv st S' cells slots) : J p l e R s m args below meth c nL G b Q pc lv (v :: .ref a :: st) S cells slots := by
  subst hn
  intro ls H locs h1 h2 h3
  obtain ⟨ws, q, hP, hD, hq, hset, -⟩ := h2.at hK
  rw [he] at hq
  rcases hfin with hfin | ⟨hfin, hin2, hdecl⟩
  · exact va_put C.1 C.2.1 C.2.2.2.2.1 hin ty0 hty hnm C.2.2.2.1 C.K hP hD h3 q hq hc k hk hlink hsame hfin hd hnr hfit hl d (fun H1 locs1 g1 g2 g3 => kk ls H1 locs1 h1 (hset S' H1 _ g1 g2 hs hx hKK) g3)
  · exact va_putF C.1 C.2.1 C.2.2.2.2.1 hin ty0 hty hnm C.2.2.2.1 C.K hP hD h3 q hq hc k hk hlink hsame hfin hin2 hdecl hd hnr hfit hl d (fun H1 locs1 g1 g2 g3 => kk ls H1 locs1 h1 (hset S' H1 _ g1 g2 hs hx hKK) g3)
theorem r_putN (C : Cx p l s m args meth c cc nL own ret G b) {n a ci N index : Nat} {ref Cn host : String} {T : u_T} {ty0 : Nat → FieldType} {fs : List Value} {S' : Sw} (hK : sK S a ≠ 0) (he : ent G S a = .inr (ci, fs)) (hc : vwCl[ci]? = some (Cn, T, N)) (k : Nat) (hk : k < N) (hin : ∀ w ∈ u_ws Cn T N, w ∈ TB)
    (hty : ∀ k, k < N → parseFieldDescriptor (T k).2.2.1 = some (ty0 k)) (hnm : ∀ a, a < N → ∀ b, b < N → a ≠ b → (T a).2.1 ≠ (T b).2.1)
    (hlink : (Cond.fieldLinkNest own index ref (T k).2.1 (T k).2.2.1 host).before args s = true) (hsame : ∀ x, s.fieldFound? (T k).1 (T k).2.1 (T k).2.2.1 = some x → s.fieldFound? ref (T k).2.1 (T k).2.2.1 = some x) {ty : FieldType} {v : Value} (hfin : (T k).2.2.2 = false) (hd : parseFieldDescriptor (T k).2.2.1 = some ty) (hnr : narrow ty v = v) (hfit : fits ty v = true) (hl : k < fs.length)
    (hs : ent G S' a = .inr (ci, fs.set k v)) (hx : ∀ x, x ≠ a → ent G S' x = ent G S x) (hKK : ∀ x, sK S' x ≠ 0 → sK S x ≠ 0) (d : decode cc pc = .ok (.putfield index, 3)) (hn : pc + 3 = n)
    (kk : J p l e R s m args below meth c nL G b Q n lv st S' cells slots) : J p l e R s m args below meth c nL G b Q pc lv (v :: .ref a :: st) S cells slots := by
  subst hn
  intro ls H locs h1 h2 h3
  obtain ⟨ws, q, hP, hD, hq, hset, -⟩ := h2.at hK
  rw [he] at hq
  exact va_putN C.1 C.2.1 C.2.2.2.2.1 hin ty0 hty hnm C.2.2.2.1 C.K hP hD h3 q hq hc k hk hlink hsame hfin hd hnr hfit hl d (fun H1 locs1 g1 g2 g3 => kk ls H1 locs1 h1 (hset S' H1 _ g1 g2 hs hx hKK) g3)
/-- a place of an array, by a number -/
theorem r_iald (C : Cx p l s m args meth c cc nL own ret G b) {n a j : Nat} {i : Int32} (hK : sK S a = 9) (hi : i = nI j) (hj : j < aN S a) (hb : aN S a < 2 ^ 31) (d : decode cc pc = .ok (.iaload, 1)) (hn : pc + 1 = n)
    (kk : J p l e R s m args below meth c nL G b Q n lv (.int (aI S a j) :: st) S cells slots) : J p l e R s m args below meth c nL G b Q pc lv (.int i :: .ref a :: st) S cells slots := by
  subst hn; subst hi
  intro ls H locs h1 h2 h3
  obtain ⟨ws, q, hP, hD, hq, -, -⟩ := h2.at (by rw [hK]; decide : sK S a ≠ 0)
  rw [ent_9 hK] at hq
  refine va_iald C.1 C.2.1 C.K hP q 0 hq rfl (vp_in_nI hj hb) d ?_
  rw [nI_clamp (by omega)]
  exact kk ls H locs h1 h2 h3
theorem r_zald (C : Cx p l s m args meth c cc nL own ret G b) {n a j : Nat} {i : Int32} (hK : sK S a = 10) (hi : i = nI j) (hj : j < aN S a) (hb : aN S a < 2 ^ 31) (d : decode cc pc = .ok (.baload, 1)) (hn : pc + 1 = n)
    (kk : J p l e R s m args below meth c nL G b Q n lv (.int (aI S a j) :: st) S cells slots) : J p l e R s m args below meth c nL G b Q pc lv (.int i :: .ref a :: st) S cells slots := by
  subst hn; subst hi
  intro ls H locs h1 h2 h3
  obtain ⟨ws, q, hP, hD, hq, -, -⟩ := h2.at (by rw [hK]; decide : sK S a ≠ 0)
  rw [ent_10 hK] at hq
  refine va_zald C.1 C.2.1 C.K hP q 1 hq rfl (vp_in_nI hj hb) d ?_
  rw [nI_clamp (by omega)]
  exact kk ls H locs h1 h2 h3
theorem r_lald (C : Cx p l s m args meth c cc nL own ret G b) {n a j : Nat} {i : Int32} (hK : sK S a = 11) (hi : i = nI j) (hj : j < aN S a) (hb : aN S a < 2 ^ 31) (d : decode cc pc = .ok (.laload, 1)) (hn : pc + 1 = n)
    (kk : J p l e R s m args below meth c nL G b Q n lv (.long (aJ S a j) :: st) S cells slots) : J p l e R s m args below meth c nL G b Q pc lv (.int i :: .ref a :: st) S cells slots := by
  subst hn; subst hi
  intro ls H locs h1 h2 h3
  obtain ⟨ws, q, hP, hD, hq, -, -⟩ := h2.at (by rw [hK]; decide : sK S a ≠ 0)
  rw [ent_11 hK] at hq
  refine va_lald C.1 C.2.1 C.K hP q 2 hq rfl (vp_in_nI hj hb) d ?_
  rw [nI_clamp (by omega)]
  exact kk ls H locs h1 h2 h3
theorem r_dald (C : Cx p l s m args meth c cc nL own ret G b) {n a j : Nat} {i : Int32} (hK : sK S a = 12) (hi : i = nI j) (hj : j < aN S a) (hb : aN S a < 2 ^ 31) (d : decode cc pc = .ok (.daload, 1)) (hn : pc + 1 = n)
    (kk : J p l e R s m args below meth c nL G b Q n lv (.double (aD S a j) :: st) S cells slots) : J p l e R s m args below meth c nL G b Q pc lv (.int i :: .ref a :: st) S cells slots := by
  subst hn; subst hi
  intro ls H locs h1 h2 h3
  obtain ⟨ws, q, hP, hD, hq, -, -⟩ := h2.at (by rw [hK]; decide : sK S a ≠ 0)
  rw [ent_12 hK] at hq
  refine va_dald C.1 C.2.1 C.K hP q 3 hq rfl (vp_in_nI hj hb) d ?_
  rw [nI_clamp (by omega)]
  exact kk ls H locs h1 h2 h3
theorem r_aaldC (C : Cx p l s m args meth c cc nL own ret G b) {n a j : Nat} {i : Int32} {v : Value} (hK : sK S a = 13) (hi : i = nI j) (hj : j < aN S a) (hb : aN S a < 2 ^ 31) (hv : va_rf (aR S a j) = v) (d : decode cc pc = .ok (.aaload, 1)) (hn : pc + 1 = n)
    (kk : J p l e R s m args below meth c nL G b Q n lv (v :: st) S cells slots) : J p l e R s m args below meth c nL G b Q pc lv (.int i :: .ref a :: st) S cells slots := by
  subst hn; subst hi; subst hv
  intro ls H locs h1 h2 h3
  obtain ⟨ws, q, hP, hD, hq, -, -⟩ := h2.at (by rw [hK]; decide : sK S a ≠ 0)
  rw [ent_13 hK] at hq
  refine va_aldq C.1 C.2.1 C.K hP q 4 hq rfl (vp_in_nI hj hb) d ?_
  rw [nI_clamp (by omega)]
  exact kk ls H locs h1 h2 h3
theorem r_aaldI (C : Cx p l s m args meth c cc nL own ret G b) {n a j x : Nat} {i : Int32} (hK : sK S a = 14) (hi : i = nI j) (hj : j < aN S a) (hb : aN S a < 2 ^ 31) (hv : aR S a j = some x) (d : decode cc pc = .ok (.aaload, 1)) (hn : pc + 1 = n)
    (kk : J p l e R s m args below meth c nL G b Q n lv (.ref x :: st) S cells slots) : J p l e R s m args below meth c nL G b Q pc lv (.int i :: .ref a :: st) S cells slots := by
  subst hn; subst hi
  intro ls H locs h1 h2 h3
  obtain ⟨ws, q, hP, hD, hq, -, -⟩ := h2.at (by rw [hK]; decide : sK S a ≠ 0)
  rw [ent_14 hK] at hq
  refine W.aald (v := va_rf (aR S a j)) (ty := .array .int) C.1 C.2.1 (hP q _ hq) ((C.K.2 5 _ rfl).1 (aN S a) (fun j => va_rf (aR S a j))) rfl (fun q => by cases q) (by show ¬ (nI j < 0 ∨ (arrV _ _ _).slots.size ≤ _); rw [arrV_size]; exact vp_in_nI hj hb) (by show (arrV _ _ _).slots[_]? = _; rw [nI_clamp (by omega), arrV_read _ _ hj]) rfl rfl d ?_
  rw [hv]
  exact kk ls H locs h1 h2 h3
theorem r_alen (C : Cx p l s m args meth c cc nL own ret G b) {n a : Nat} {v : Int32} (hK : sK S a = 9) (hv : nI (aN S a) = v) (d : decode cc pc = .ok (.arraylength, 1)) (hn : pc + 1 = n)
    (kk : J p l e R s m args below meth c nL G b Q n lv (.int v :: st) S cells slots) : J p l e R s m args below meth c nL G b Q pc lv (.ref a :: st) S cells slots := by
  subst hn
  intro ls H locs h1 h2 h3
  obtain ⟨ws, q, hP, hD, hq, -, -⟩ := h2.at (by rw [hK]; decide : sK S a ≠ 0)
  rw [ent_9 hK] at hq
  exact va_alen C.1 C.2.1 C.K hP q 0 hq (ty := .int) rfl hv d (kk ls H locs h1 h2 h3)
theorem ent_ne {S S' : Sw} {a : Nat} (h1 : ∀ x, sK S' x = sK S x) (h2 : ∀ f x, x ≠ a → fI S' f x = fI S f x) (h3 : ∀ f x, x ≠ a → fJ S' f x = fJ S f x) (h4 : ∀ f x, x ≠ a → fR S' f x = fR S f x) (h5 : ∀ x, x ≠ a → aN S' x = aN S x) (h6 : ∀ x i, x ≠ a → aI S' x i = aI S x i) (h7 : ∀ x i, x ≠ a → aR S' x i = aR S x i) (h8 : ∀ x i, x ≠ a → aD S' x i = aD S x i) (h9 : ∀ x i, x ≠ a → aJ S' x i = aJ S x i) : ∀ x, x ≠ a → ent G S' x = ent G S x := by
  intro x hx
  unfold ent
  rw [h1 x, h5 x hx, funext (fun i => h6 x i hx), funext (fun i => h7 x i hx), funext (fun i => h8 x i hx), funext (fun i => h9 x i hx)]
  simp only [h2 _ x hx, h3 _ x hx, h4 _ x hx]
theorem up2_ne {α : Type} {F : Nat → Nat → α} {f a x g : Nat} {v : α} (h : x ≠ a) : up2 F f a v g x = F g x := if_neg (fun z => h z.2)
theorem up2_ne1 {α : Type} {F : Nat → Nat → α} {f a x g : Nat} {v : α} (h : x ≠ f) : up2 F f a v x g = F x g := if_neg (fun z => h z.1)
theorem uI_ne {f a : Nat} {v : Int32} : ∀ x, x ≠ a → ent G (uI S f a v) x = ent G S x := ent_ne (fun _ => rfl) (fun _ _ h => up2_ne h) (fun _ _ _ => rfl) (fun _ _ _ => rfl) (fun _ _ => rfl) (fun _ _ _ => rfl) (fun _ _ _ => rfl) (fun _ _ _ => rfl) (fun _ _ _ => rfl)
theorem uJ_ne {f a : Nat} {v : Int64} : ∀ x, x ≠ a → ent G (uJ S f a v) x = ent G S x := ent_ne (fun _ => rfl) (fun _ _ _ => rfl) (fun _ _ h => up2_ne h) (fun _ _ _ => rfl) (fun _ _ => rfl) (fun _ _ _ => rfl) (fun _ _ _ => rfl) (fun _ _ _ => rfl) (fun _ _ _ => rfl)
theorem uR_ne {f a : Nat} {v : Option Nat} : ∀ x, x ≠ a → ent G (uR S f a v) x = ent G S x := ent_ne (fun _ => rfl) (fun _ _ _ => rfl) (fun _ _ _ => rfl) (fun _ _ h => up2_ne h) (fun _ _ => rfl) (fun _ _ _ => rfl) (fun _ _ _ => rfl) (fun _ _ _ => rfl) (fun _ _ _ => rfl)
theorem wI_ne {a j : Nat} {v : Int32} : ∀ x, x ≠ a → ent G (wI S a j v) x = ent G S x := ent_ne (fun _ => rfl) (fun _ _ _ => rfl) (fun _ _ _ => rfl) (fun _ _ _ => rfl) (fun _ _ => rfl) (fun _ _ h => up2_ne1 h) (fun _ _ _ => rfl) (fun _ _ _ => rfl) (fun _ _ _ => rfl)
theorem wR_ne {a j : Nat} {v : Option Nat} : ∀ x, x ≠ a → ent G (wR S a j v) x = ent G S x := ent_ne (fun _ => rfl) (fun _ _ _ => rfl) (fun _ _ _ => rfl) (fun _ _ _ => rfl) (fun _ _ => rfl) (fun _ _ _ => rfl) (fun _ _ h => up2_ne1 h) (fun _ _ _ => rfl) (fun _ _ _ => rfl)
theorem wD_ne {a j : Nat} {v : UInt64} : ∀ x, x ≠ a → ent G (wD S a j v) x = ent G S x := ent_ne (fun _ => rfl) (fun _ _ _ => rfl) (fun _ _ _ => rfl) (fun _ _ _ => rfl) (fun _ _ => rfl) (fun _ _ _ => rfl) (fun _ _ _ => rfl) (fun _ _ h => up2_ne1 h) (fun _ _ _ => rfl)
theorem wJ_ne {a j : Nat} {v : Int64} : ∀ x, x ≠ a → ent G (wJ S a j v) x = ent G S x := ent_ne (fun _ => rfl) (fun _ _ _ => rfl) (fun _ _ _ => rfl) (fun _ _ _ => rfl) (fun _ _ => rfl) (fun _ _ _ => rfl) (fun _ _ _ => rfl) (fun _ _ _ => rfl) (fun _ _ h => up2_ne1 h)
theorem wIs_ne {a : Nat} {r : Nat → Int32} : ∀ x, x ≠ a → ent G (wIs S a r) x = ent G S x := ent_ne (fun _ => rfl) (fun _ _ _ => rfl) (fun _ _ _ => rfl) (fun _ _ _ => rfl) (fun _ _ => rfl) (fun _ _ h => if_neg h) (fun _ _ _ => rfl) (fun _ _ _ => rfl) (fun _ _ _ => rfl)
theorem r_iast (C : Cx p l s m args meth c cc nL own ret G b) {n a j : Nat} {i x : Int32} (hK : sK S a = 9) (hi : i = nI j) (hj : j < aN S a) (hb : aN S a < 2 ^ 31) (d : decode cc pc = .ok (.iastore, 1)) (hn : pc + 1 = n)
    (kk : J p l e R s m args below meth c nL G b Q n lv st (wI S a j x) cells slots) : J p l e R s m args below meth c nL G b Q pc lv (.int x :: .int i :: .ref a :: st) S cells slots := by
  subst hn; subst hi
  intro ls H locs h1 h2 h3
  obtain ⟨ws, q, hP, hD, hq, hset, -⟩ := h2.at (by rw [hK]; decide : sK S a ≠ 0)
  rw [ent_9 hK] at hq
  refine va_iast C.1 C.2.1 C.K hP hD h3 q 0 hq rfl (vp_in_nI hj hb) d (fun H1 locs1 g1 g2 g3 => kk ls H1 locs1 h1 (hset _ H1 _ g1 g2 ?_ wI_ne (fun _ h => h)) g3)
  rw [ent_9 (show sK (wI S a j x) a = 9 from hK), nI_clamp (by omega)]
  refine congrArg (fun f => Sum.inl (G.2 0, aN S a, Sum.inl f)) (funext fun k => ?_)
  show (if a = a ∧ k = j then x else aI S a k) = upd (aI S a) j x k
  simp [upd]
theorem r_zast (C : Cx p l s m args meth c cc nL own ret G b) {n a j : Nat} {i x : Int32} (hK : sK S a = 10) (hi : i = nI j) (hj : j < aN S a) (hb : aN S a < 2 ^ 31) (hx : vp_nar .boolean x = x) (d : decode cc pc = .ok (.bastore, 1)) (hn : pc + 1 = n)
    (kk : J p l e R s m args below meth c nL G b Q n lv st (wI S a j x) cells slots) : J p l e R s m args below meth c nL G b Q pc lv (.int x :: .int i :: .ref a :: st) S cells slots := by
  subst hn; subst hi
  intro ls H locs h1 h2 h3
  obtain ⟨ws, q, hP, hD, hq, hset, -⟩ := h2.at (by rw [hK]; decide : sK S a ≠ 0)
  rw [ent_10 hK] at hq
  refine va_zast C.1 C.2.1 C.K hP hD h3 q 1 hq rfl (vp_in_nI hj hb) d (fun H1 locs1 g1 g2 g3 => kk ls H1 locs1 h1 (hset _ H1 _ g1 g2 ?_ wI_ne (fun _ h => h)) g3)
  rw [ent_10 (show sK (wI S a j x) a = 10 from hK), nI_clamp (by omega), hx]
  refine congrArg (fun f => Sum.inl (G.2 1, aN S a, Sum.inl f)) (funext fun k => ?_)
  show (if a = a ∧ k = j then x else aI S a k) = upd (aI S a) j x k
  simp [upd]
theorem r_last (C : Cx p l s m args meth c cc nL own ret G b) {n a j : Nat} {i : Int32} {x : Int64} (hK : sK S a = 11) (hi : i = nI j) (hj : j < aN S a) (hb : aN S a < 2 ^ 31) (d : decode cc pc = .ok (.lastore, 1)) (hn : pc + 1 = n)
    (kk : J p l e R s m args below meth c nL G b Q n lv st (wJ S a j x) cells slots) : J p l e R s m args below meth c nL G b Q pc lv (.long x :: .int i :: .ref a :: st) S cells slots := by
  subst hn; subst hi
  intro ls H locs h1 h2 h3
  obtain ⟨ws, q, hP, hD, hq, hset, -⟩ := h2.at (by rw [hK]; decide : sK S a ≠ 0)
  rw [ent_11 hK] at hq
  refine va_last C.1 C.2.1 C.K hP hD h3 q 2 hq rfl (vp_in_nI hj hb) d (fun H1 locs1 g1 g2 g3 => kk ls H1 locs1 h1 (hset _ H1 _ g1 g2 ?_ wJ_ne (fun _ h => h)) g3)
  rw [ent_11 (show sK (wJ S a j x) a = 11 from hK), nI_clamp (by omega)]
  refine congrArg (fun f => Sum.inl (G.2 2, aN S a, Sum.inr (Sum.inl f))) (funext fun k => ?_)
  show (if a = a ∧ k = j then x else aJ S a k) = vp_updL (aJ S a) j x k
  simp [vp_updL]
theorem r_dast (C : Cx p l s m args meth c cc nL own ret G b) {n a j : Nat} {i : Int32} {x : UInt64} (hK : sK S a = 12) (hi : i = nI j) (hj : j < aN S a) (hb : aN S a < 2 ^ 31) (d : decode cc pc = .ok (.dastore, 1)) (hn : pc + 1 = n)
    (kk : J p l e R s m args below meth c nL G b Q n lv st (wD S a j x) cells slots) : J p l e R s m args below meth c nL G b Q pc lv (.double x :: .int i :: .ref a :: st) S cells slots := by
  subst hn; subst hi
  intro ls H locs h1 h2 h3
  obtain ⟨ws, q, hP, hD, hq, hset, -⟩ := h2.at (by rw [hK]; decide : sK S a ≠ 0)
  rw [ent_12 hK] at hq
  refine va_dast C.1 C.2.1 C.K hP hD h3 q 3 hq rfl (vp_in_nI hj hb) d (fun H1 locs1 g1 g2 g3 => kk ls H1 locs1 h1 (hset _ H1 _ g1 g2 ?_ wD_ne (fun _ h => h)) g3)
  rw [ent_12 (show sK (wD S a j x) a = 12 from hK), nI_clamp (by omega)]
  refine congrArg (fun f => Sum.inl (G.2 3, aN S a, Sum.inr (Sum.inr (Sum.inr (Sum.inl f))))) (funext fun k => ?_)
  show (if a = a ∧ k = j then x else aD S a k) = vf_upd (aD S a) j x k
  simp [vf_upd]
/-! ===== making cells ===== -/
theorem nO_ne {a k : Nat} : ∀ x, x ≠ a → ent G (nO S a k) x = ent G S x := by
  intro x hx
  have h1 : sK (nO S a k) x = sK S x := va_up_ne _ _ hx
  have h2 : ∀ f, fI (nO S a k) f x = fI S f x := fun f => if_neg hx
  have h3 : ∀ f, fJ (nO S a k) f x = fJ S f x := fun f => if_neg hx
  have h4 : ∀ f, fR (nO S a k) f x = fR S f x := fun f => if_neg hx
  unfold ent
  rw [h1]
  simp only [h2, h3, h4]
  rfl
theorem nA_ne {a k n : Nat} : ∀ x, x ≠ a → ent G (nA S a k n) x = ent G S x := by
  intro x hx
  have h1 : sK (nA S a k n) x = sK S x := va_up_ne _ _ hx
  have h2 : aN (nA S a k n) x = aN S x := va_up_ne _ _ hx
  have h3 : aI (nA S a k n) x = aI S x := funext fun i => if_neg hx
  have h4 : aR (nA S a k n) x = aR S x := funext fun i => if_neg hx
  have h5 : aD (nA S a k n) x = aD S x := funext fun i => if_neg hx
  have h6 : aJ (nA S a k n) x = aJ S x := funext fun i => if_neg hx
  unfold ent
  rw [h1, h2, h3, h4, h5, h6]
  rfl
theorem nO_K {a k : Nat} : ∀ z, sK (nO S a k) z ≠ 0 → z = a ∨ sK S z ≠ 0 := by
  intro z hz
  by_cases h : z = a
  · exact Or.inl h
  · exact Or.inr (by rwa [show sK (nO S a k) z = sK S z from va_up_ne _ _ h] at hz)
theorem nA_K {a k n : Nat} : ∀ z, sK (nA S a k n) z ≠ 0 → z = a ∨ sK S z ≠ 0 := by
  intro z hz
  by_cases h : z = a
  · exact Or.inl h
  · exact Or.inr (by rwa [show sK (nA S a k n) z = sK S z from va_up_ne _ _ h] at hz)
/-- the new address is none of the pool's -/
theorem new_fresh {ws : va_W} {x : Nat} {e' : va_E} (hall : ∀ z : Nat, sK S z ≠ 0 → ∃ k : Nat, ws[k]? = some (z, ent G S z)) (hD : va_D (Ab b) (ws ++ [(x, e')])) : sK S x = 0 := by
  rcases Nat.eq_zero_or_pos (sK S x) with h | h
  · exact h
  · obtain ⟨k, hk⟩ := hall x (by omega)
    have hl := (List.getElem?_eq_some_iff.mp hk).1
    have h1 : (ws ++ [(x, e')])[k]? = some (x, ent G S x) := by rw [List.getElem?_append_left hl]; exact hk
    have h2 : (ws ++ [(x, e')])[ws.length]? = some (x, e') := by rw [List.getElem?_append_right (Nat.le_refl _), Nat.sub_self]; rfl
    have := hD.1 _ _ _ _ h1 h2 rfl
    omega
theorem new_zero {ws : va_W} {x : Nat} {e' : va_E} (hD : va_D (Ab b) (ws ++ [(x, e')])) : b ≤ x := hD.2 ws.length (x, e') (by rw [List.getElem?_append_right (Nat.le_refl _), Nat.sub_self]; rfl)
theorem r_new (C : Cx p l s m args meth c cc nL own ret G b) {n ci N index k : Nat} {Cn : String} {T : u_T} {ty : Nat → FieldType} {fs : List Value} (hin : ∀ w ∈ u_ws Cn T N, w ∈ TB) (hty : ∀ k, k < N → parseFieldDescriptor (T k).2.2.1 = some (ty k)) (w1 : .classLink own index Cn ∈ TB) (w2 : .instantiable Cn N ∈ TB) (w3 : .initialized Cn ∈ TB)
    (hc : vwCl[ci]? = some (Cn, T, N)) (hfs : ∀ j, j < N → defaultValue (ty j) = vp_V fs j) (he : ∀ x : Nat, ent G (nO S x k) x = .inr (ci, fs)) (hr : cells + 1 ≤ R.cells ∧ slots + N ≤ R.slots) (d : decode cc pc = .ok (.new index, 3)) (hn : pc + 3 = n)
    (kk : ∀ x : Nat, sK S x = 0 → b ≤ x → J p l e R s m args below meth c nL G b Q n lv (.ref x :: st) (nO S x k) (cells + 1) (slots + N)) : J p l e R s m args below meth c nL G b Q pc lv st S cells slots := by
  subst hn
  intro ls H locs h1 h2 h3
  obtain ⟨ws, hP, hD, hall, hpush⟩ := h2.new
  exact va_new C.1 C.2.1 C.2.2.2.2.1 hin ty hty C.2.2.2.1 (C.w w1) (C.w w2) (C.w w3) C.K hP hD h3 (fun q hq => Nat.le_trans C.fx.2.2.2.2.2.2.2.2 hq) hc hfs hr.1 hr.2 d
    (fun x H1 g1 g2 g3 => kk x (new_fresh hall g2) (new_zero g2) ls H1 locs h1 (hpush _ H1 x _ g1 g2 (he x) nO_ne nO_K) g3)
theorem va_K_id {cA : ClassId} {ty : FieldType} {k : Nat} {cB : ClassId} (hK : va_K G.1 vwCl (tyl G) s) (hk : (tyl G)[k]? = some (cB, ty)) (h : s.vm.findClass ("[" ++ ty.toString) = some cA) (hnr : (tyl G)[k]?.map (fun q => match q.2 with | .object _ => false | _ => true) = some true) : cB = cA := by
  have h2 := (hK.2 k _ hk).2
  rw [hk] at hnr
  cases ty <;> first | exact Option.some.inj (h2.symm.trans h) | (simp at hnr)
theorem r_newa (C : Cx p l s m args meth c cc nL own ret G b) {n N : Nat} {z : Int32} {atype : ArrayType} {ty : FieldType} {k i : Nat} (w1 : .arrayClass ty ∈ TB) (hty : newarray.typeOf atype = ty) (hi : (tyl G)[i]? = some (G.2 i, ty)) (hnr : (tyl G)[i]?.map (fun q => match q.2 with | .object _ => false | _ => true) = some true) {a0 : vp_A} (ha : ∀ cA : ClassId, vp_cell cA a0 = arrV cA N (fun _ => defaultValue ty)) (he : ∀ x : Nat, ent G (nA S x k N) x = .inl (G.2 i, a0)) (hz : z = nI N) (hN : N < 2 ^ 25) (hcb : componentBytes ty ≤ 8) (hr : cells + 1 ≤ R.cells ∧ slots + N ≤ R.slots) (d : decode cc pc = .ok (.newarray atype, 2)) (hn : pc + 2 = n)
    (kk : ∀ x : Nat, sK S x = 0 → b ≤ x → J p l e R s m args below meth c nL G b Q n lv (.ref x :: st) (nA S x k N) (cells + 1) (slots + N)) : J p l e R s m args below meth c nL G b Q pc lv (.int z :: st) S cells slots := by
  subst hn; subst hz; subst hty
  intro ls H locs h1 h2 h3
  obtain ⟨ws, hP, hD, hall, hpush⟩ := h2.new
  have hb : N * componentBytes (newarray.typeOf atype) ≤ 536870912 := Nat.le_trans (Nat.mul_le_mul_left N hcb) (by omega)
  refine va_newaK C.1 C.2.1 (C.w w1) (g := F0 m pc ls (.int (nI N) :: st)) rfl d rfl (nI_pos (by omega)) (nI_clamp (by omega)) hb hr.1 hr.2 (h := H.size) rfl (fun H1 cA g1 g2 g3 g4 g5 => ?_)
  have hcA : G.2 i = cA := va_K_id C.K hi g5 hnr
  have hx : va_at G.1 vwCl (H.size, .inl (G.2 i, a0)) H1 := by
    show H1[H.size]? = some (vp_cell (G.2 i) a0)
    rw [hcA, ha]; exact g1
  have hP1 : va_P G.1 vwCl (ws ++ [(H.size, .inl (G.2 i, a0))]) H1 := va_P.app (hP.kept (fun k q hk => g3 q.1 ((hP k q hk).lt))) (fun k q hk => by
    have h0 : k < 1 := (List.getElem?_eq_some_iff.mp hk).1
    rw [show k = 0 by omega] at hk
    cases hk
    exact hx)
  have hA : Ab b H.size := Nat.le_trans C.fx.2.2.2.2.2.2.2.2 h3.1
  have hD1 : va_D (Ab b) (ws ++ [(H.size, .inl (G.2 i, a0))]) := hD.push hP rfl hA
  exact kk H.size (new_fresh hall hD1) hA ls H1 locs h1 (hpush _ H1 H.size _ hP1 hD1 (he _) nA_ne nA_K) ⟨by rw [g2]; exact Nat.le_succ_of_le h3.1, fun q hq hq2 => by rw [g3 q (Nat.lt_of_lt_of_le hq h3.1)]; exact h3.2.1 q hq hq2, h3.2.2⟩
/-! ===== ends ===== -/
def Qp (G : GG) (b : Nat) {α : Type} (mk : α → Option Value) (post : α → Sw → Prop) : Array Value → State → Outcome → State → Prop := fun _ st o t => (∃ (v : α) (S' : Sw), o = .returned (mk v) ∧ post v S' ∧ Hd G b S' t.heap) ∧ va_F (Ab b) st t
def EXn (k : Nat) : String := if k = 1 then "java/lang/IllegalArgumentException" else "java/lang/IllegalStateException"
def XCp (G : GG) (b : Nat) (S : Sw) (px : Nat → Prop) : String → State → State → Prop := fun E st t => (∃ k, (k = 1 ∨ k = 2) ∧ E = EXn k ∧ px k ∧ Hd G b S t.heap) ∧ va_F (Ab b) st t
abbrev mI : Int32 → Option Value := fun r => some (.int r)
abbrev mJ : Int64 → Option Value := fun r => some (.long r)
abbrev mD : UInt64 → Option Value := fun r => some (.double r)
abbrev mV : Unit → Option Value := fun _ => none
abbrev mA : Nat → Option Value := fun r => some (.ref r)
theorem t_i {ty : FieldType} {mc ms : Nat} {v : Int32} {post : Int32 → Sw → Prop} {XC : String → State → State → Prop} (C : Cx p l s m args meth c cc nL own (some ty) G b) (hn : narrow ty (.int v) = .int v) (d : decode cc pc = .ok (.ireturn, 1)) (hc : cells ≤ mc ∧ slots ≤ ms) (hq : post v S) :
    J p l e R s m args below meth c nL G b (vx_MQ below (Qp G b mI post) XC args s mc ms (Ab b)) pc lv [.int v] S cells slots := fun ls H locs h1 h2 h3 =>
  W.widen hc.1 hc.2 (vx_ret (W.zret C.1 C.2.1 C.2.2.2.2.2.2.2.1 hn (fun t ht hW => ⟨⟨v, S, rfl, hq, by rw [ht]; exact h2⟩, h3.F ht⟩) h3.2.2 d C.2.2.2.2.2.2.1))
theorem t_j {mc ms : Nat} {v : Int64} {post : Int64 → Sw → Prop} {XC : String → State → State → Prop} (C : Cx p l s m args meth c cc nL own (some .long) G b) (d : decode cc pc = .ok (.lreturn, 1)) (hc : cells ≤ mc ∧ slots ≤ ms) (hq : post v S) :
    J p l e R s m args below meth c nL G b (vx_MQ below (Qp G b mJ post) XC args s mc ms (Ab b)) pc lv [.long v] S cells slots := fun ls H locs h1 h2 h3 =>
  W.widen hc.1 hc.2 (vx_ret (W.lret C.1 C.2.1 C.2.2.2.2.2.2.2.1 (fun t ht hW => ⟨⟨v, S, rfl, hq, by rw [ht]; exact h2⟩, h3.F ht⟩) h3.2.2 d C.2.2.2.2.2.2.1))
theorem t_d {mc ms : Nat} {v : UInt64} {post : UInt64 → Sw → Prop} {XC : String → State → State → Prop} (C : Cx p l s m args meth c cc nL own (some .double) G b) (d : decode cc pc = .ok (.dreturn, 1)) (hc : cells ≤ mc ∧ slots ≤ ms) (hq : post v S) :
    J p l e R s m args below meth c nL G b (vx_MQ below (Qp G b mD post) XC args s mc ms (Ab b)) pc lv [.double v] S cells slots := fun ls H locs h1 h2 h3 =>
  W.widen hc.1 hc.2 (vx_ret (W.dret C.1 C.2.1 C.2.2.2.2.2.2.2.1 (fun t ht hW => ⟨⟨v, S, rfl, hq, by rw [ht]; exact h2⟩, h3.F ht⟩) h3.2.2 d C.2.2.2.2.2.2.1))
theorem t_v {mc ms : Nat} {post : Unit → Sw → Prop} {XC : String → State → State → Prop} (C : Cx p l s m args meth c cc nL own none G b) (d : decode cc pc = .ok (.return_, 1)) (hc : cells ≤ mc ∧ slots ≤ ms) (hq : post () S) :
    J p l e R s m args below meth c nL G b (vx_MQ below (Qp G b mV post) XC args s mc ms (Ab b)) pc lv [] S cells slots := fun ls H locs h1 h2 h3 =>
  W.widen hc.1 hc.2 (vx_ret (W.vret C.1 C.2.1 C.2.2.2.2.2.2.2.1 (fun t ht hW => ⟨⟨(), S, rfl, hq, by rw [ht]; exact h2⟩, h3.F ht⟩) h3.2.2 d C.2.2.2.2.2.2.1))
theorem t_a {mc ms : Nat} {v : Nat} {nm : String} {post : Nat → Sw → Prop} {XC : String → State → State → Prop} (C : Cx p l s m args meth c cc nL own (some (.object nm)) G b) (d : decode cc pc = .ok (.areturn, 1)) (hc : cells ≤ mc ∧ slots ≤ ms) (hq : post v S) :
    J p l e R s m args below meth c nL G b (vx_MQ below (Qp G b mA post) XC args s mc ms (Ab b)) pc lv [.ref v] S cells slots := fun ls H locs h1 h2 h3 =>
  W.widen hc.1 hc.2 (vx_ret (W.aret C.1 C.2.1 C.2.2.2.2.2.2.2.1 (Or.inl ⟨nm, rfl⟩) (Or.inr ⟨v, rfl⟩) (fun t ht hW => ⟨⟨v, S, rfl, hq, by rw [ht]; exact h2⟩, h3.F ht⟩) h3.2.2 d C.2.2.2.2.2.2.1))
/-! ===== contracts ===== -/
def Ct (l : Launch) (G : GG) (b : Nat) (y : MethodName) (cc : ByteArray) (nL : Nat) (ret : Option FieldType) (rm : Room) {α : Type} (mk : α → Option Value) (av : List Value) (S : Sw) (post : α → Sw → Prop) : Prop :=
  Met l y (.code y cc nL ret :: TB) rm (va_Pc av (HU G b S)) (Qp G b mk post) rm.cells rm.slots (Ab b)
def Cth (l : Launch) (G : GG) (b : Nat) (y : MethodName) (cc : ByteArray) (nL : Nat) (ret : Option FieldType) (rm : Room) {α : Type} (mk : α → Option Value) (av : List Value) (S : Sw) (post : α → Sw → Prop) (px : Nat → Prop) : Prop :=
  vx_Met l y (.code y cc nL ret :: TB) rm (va_Pc av (HU G b S)) (Qp G b mk post) (XCp G b S px) rm.cells rm.slots (Ab b)
theorem Cth.of {y : MethodName} {rm : Room} {α : Type} {mk : α → Option Value} {av : List Value} {post : α → Sw → Prop} {px : Nat → Prop} (hy : plainName y.cls = true) (hlen : (lg_sl av).length ≤ nL) (hst : l.stackTraces = false)
    (body : ∀ (p : Program) (e : Env) (s : State) (m : MethodId) (args : Array Value) (below : List Frame) (meth : Method) (c : Code), Cx p l s m args meth c cc nL y.cls ret G b → meth.name = y.name → (∀ x ∈ c.exceptionTable.toList, False) →
      J p l e rm s m args below meth c nL G b (vx_MQ below (Qp G b mk post) (XCp G b S px) args s rm.cells rm.slots (Ab b)) 0 (lv_args 0 av) [] S 0 0) : Cth l G b y cc nL ret rm mk av S post px := by
  refine vx_ofW (cc := cc) (maxL := nL) (ret := ret) hy rfl ?_
  intro p e s m args below meth c s₁ B hml hno hv
  obtain ⟨rfl, hF, hH⟩ := hv
  have hts := atoms_spec (ws := .code y cc nL ret :: TB) B.pre
  have C : Cx p l s m av.toArray meth c cc nL y.cls ret G b := ⟨B.exec, B.bytes, hml, findClass_of_methodNamed B.named, fun w hw => hts w (List.mem_cons_of_mem _ hw), hF, B.notSynchronized, B.returns, hst⟩
  have hl := lv_entry av (n := nL) hlen
  rw [lg_entry_eq]
  exact body p e s m av.toArray below meth c C (name_of_methodNamed B.named B.method).1 hno _ s.heap [] hl hH va_S.rf
theorem Ct.of {y : MethodName} {rm : Room} {α : Type} {mk : α → Option Value} {av : List Value} {post : α → Sw → Prop} (hy : plainName y.cls = true) (hlen : (lg_sl av).length ≤ nL) (hst : l.stackTraces = false)
    (body : ∀ (p : Program) (e : Env) (s : State) (m : MethodId) (args : Array Value) (below : List Frame) (meth : Method) (c : Code), Cx p l s m args meth c cc nL y.cls ret G b → meth.name = y.name →
      J p l e rm s m args below meth c nL G b (vx_MQ below (Qp G b mk post) (XCp G b S (fun _ => False)) args s rm.cells rm.slots (Ab b)) 0 (lv_args 0 av) [] S 0 0) : Ct l G b y cc nL ret rm mk av S post := by
  have h : Cth l G b y cc nL ret rm mk av S post (fun _ => False) := Cth.of hy hlen hst (fun p e s m args below meth c C hn _ => body p e s m args below meth c C hn)
  intro p e ha hc hk s m args below hf happ hP hK
  obtain ⟨n, o, q1, q2, q3, q4⟩ := h p e ha hc hk s m args below hf happ hP hK
  rcases q4 with q4 | ⟨q, -, E, ce, L, ⟨⟨k, -, -, hF, -⟩, -⟩, -⟩
  · exact ⟨n, o, q1, q2, q3, q4⟩
  · exact hF.elim
/-- a contract asks less, or says less -/
theorem Ct.post {y : MethodName} {rm : Room} {α : Type} {mk : α → Option Value} {av : List Value} {post post' : α → Sw → Prop} (h : Ct l G b y cc nL ret rm mk av S post) (hp : ∀ v S', post v S' → post' v S') : Ct l G b y cc nL ret rm mk av S post' := by
  intro p e ha hc hk s m args below hf happ hP hK
  obtain ⟨n, o, q1, q2, q3, ⟨⟨v, S', e1, e2, e3⟩, e4⟩, q5⟩ := h p e ha hc hk s m args below hf happ hP hK
  exact ⟨n, o, q1, q2, q3, ⟨⟨v, S', e1, hp v S' e2, e3⟩, e4⟩, q5⟩
/-! ===== calls ===== -/
theorem J.run {n mc ms : Nat} {rest st0 : List Value} {α : Type} {mk : α → Option Value} {post : α → Sw → Prop} {av : Array Value} (hr : ∀ (ls : Array Slot) (H : Heap) (locs : List Loc), lv_has ls nL lv → Hd G b S H → va_S (Ab b) s.heap H locs → va_Run p l e R s m args below meth c H locs cells slots mc ms (F0 m pc ls st0) rest (Qp G b mk post av) (Ab b))
    (hn : pc + 3 = n) (kk : ∀ (v : α) (S' : Sw), post v S' → J p l e R s m args below meth c nL G b Q n lv ((mk v).toList ++ rest) S' (cells + mc) (slots + ms)) : J p l e R s m args below meth c nL G b Q pc lv st0 S cells slots := by
  subst hn
  intro ls H locs h1 h2 h3 T hT X
  obtain ⟨v, st₀, t, T', L, e0, X', hL, e1, e2, ⟨⟨r, S', hv, hp, hH⟩, hF⟩, go⟩ := hr ls H locs h1 h2 h3 T hT X
  cases hv
  obtain ⟨k1, k2, k3⟩ := vx_keep e0 e1 h3 (fun _ _ h => h) (fun _ h => h) hL hF
  obtain ⟨t2, a1, b1⟩ := kk r S' hp ls T'.heap (locs ++ L) h1 (by rw [e1]; exact hH) k3 T' rfl X'
  exact ⟨t2, go t2 a1, b1⟩
theorem Cx.fix (C : Cx p l s m args meth c cc nL own ret G b) : CallFix p m c cc nL s args TB own := ⟨C.1, C.2.1, C.2.2.1, C.2.2.2.1, C.2.2.2.2.1⟩
theorem Cx.preS (C : Cx p l s m args meth c cc nL own ret G b) {H : Heap} {locs : List Loc} {av : List Value} (h2 : Hd G b S H) (h3 : va_S (Ab b) s.heap H locs) : PreS s H (va_Pc av (HU G b S)) av :=
  ⟨HU.blind, fun U hU hW => ⟨rfl, Fx.move hW (by rw [hU]; exact h3.1) (by rw [hU]; exact h3.2.1) C.fx, by rw [hU]; exact h2⟩⟩
theorem Cx.preV (C : Cx p l s m args meth c cc nL own ret G b) {H : Heap} {locs : List Loc} {a ci : Nat} {av : List Value} {q : vw_C} {fs : List Value} (h2 : Hd G b S H) (h3 : va_S (Ab b) s.heap H locs) (hK : sK S a ≠ 0) (he : ent G S a = .inr (ci, fs)) (hc : vwCl[ci]? = some q) : PreV s H q.1 a (va_Pc (.ref a :: av) (HU G b S)) av := by
  obtain ⟨ws, k, hP, hD, hq, -, -⟩ := h2.at hK
  rw [he] at hq
  exact ⟨HU.blind, va_recv C.K hP hc hq, (C.preS h2 h3).2⟩
def dOk (y : MethodName) (k : Nat) : Prop := y.cls ≠ "java/lang/invoke/MethodHandle" ∧ y.cls ≠ "java/lang/invoke/VarHandle" ∧ (parseMethodDescriptor y.desc).map (fun d => d.parameters.length) = some k
def cat (st : List Value) : Nat := (st.map fun v => v.category).sum
theorem r_callS (C : Cx p l s m args meth c cc nL own ret G b) {n index nL' k : Nat} {y : MethodName} {cc' : ByteArray} {ret' : Option FieldType} {rm : Room} {av rest : List Value} {α : Type} {mk : α → Option Value} {post : α → Sw → Prop} (hM : Ct l G b y cc' nL' ret' rm mk av S post)
    (w : .methodLink own index y ∈ TB ∧ .static y ∈ TB ∧ .initialized y.cls ∈ TB ∧ .code y cc' nL' ret' ∈ TB) (hd : dOk y k) (hR : rm.frames + 1 ≤ R.frames ∧ 8 + (nL' + 11) + rm.locals ≤ R.locals) (hf : cells + rm.cells ≤ R.cells ∧ slots + rm.slots ≤ R.slots) (hk : av.length = k) (hcat : cat rest ≤ 8) (hs : av.reverse ++ rest = st) (d : decode cc pc = .ok (.invokestatic index, 3)) (hn : pc + 3 = n)
    (kk : ∀ (v : α) (S' : Sw), post v S' → J p l e R s m args below meth c nL G b Q n lv ((mk v).toList ++ rest) S' (cells + rm.cells) (slots + rm.slots)) : J p l e R s m args below meth c nL G b Q pc lv st S cells slots := by
  subst hs
  refine J.run (av := av.toArray) (fun ls H locs h1 h2 h3 => ?_) hn kk
  exact va_runS C.fix hM (va_cwS k C.2.2.2.2.1 (tb_inT (all_c w.1 (all_c w.2.1 (all_c w.2.2.1 (all_c w.2.2.2 all_tb))))) rfl rfl rfl hd hR) (C.preS h2 h3) rfl hk h1.1 rfl (lv_room hcat) d hf
theorem r_callSN (C : Cx p l s m args meth c cc nL own ret G b) {n index nL' k : Nat} {host : String} {y : MethodName} {cc' : ByteArray} {ret' : Option FieldType} {rm : Room} {av rest : List Value} {α : Type} {mk : α → Option Value} {post : α → Sw → Prop} (hM : Ct l G b y cc' nL' ret' rm mk av S post)
    (w : .methodLinkNest own index y host ∈ BW ∧ .static y ∈ TB ∧ .initialized y.cls ∈ TB ∧ .code y cc' nL' ret' ∈ TB) (hd : dOk y k) (hR : rm.frames + 1 ≤ R.frames ∧ 8 + (nL' + 11) + rm.locals ≤ R.locals) (hf : cells + rm.cells ≤ R.cells ∧ slots + rm.slots ≤ R.slots) (hk : av.length = k) (hcat : cat rest ≤ 8) (hs : av.reverse ++ rest = st) (d : decode cc pc = .ok (.invokestatic index, 3)) (hn : pc + 3 = n)
    (kk : ∀ (v : α) (S' : Sw), post v S' → J p l e R s m args below meth c nL G b Q n lv ((mk v).toList ++ rest) S' (cells + rm.cells) (slots + rm.slots)) : J p l e R s m args below meth c nL G b Q pc lv st S cells slots := by
  subst hs
  refine J.run (av := av.toArray) (fun ls H locs h1 h2 h3 => ?_) hn kk
  exact va_runSN C.fix hM ⟨va_cnB k C.2.2.2.2.1 (tb_inT (all_c w.2.2.2 all_tb)) rfl rfl rfl (C.fx.2.1 _ w.1) (C.w w.2.2.1) hd hR, C.w w.2.1, trivial⟩ (C.preS h2 h3) rfl hk h1.1 rfl (lv_room hcat) d hf
theorem r_callV (C : Cx p l s m args meth c cc nL own ret G b) {n index nL' k a ci N : Nat} {Cn : String} {T : u_T} {fs : List Value} {y : MethodName} {cc' : ByteArray} {ret' : Option FieldType} {rm : Room} {av rest : List Value} {α : Type} {mk : α → Option Value} {post : α → Sw → Prop} (hM : Ct l G b y cc' nL' ret' rm mk (.ref a :: av) S post)
    (hK : sK S a ≠ 0) (he : ent G S a = .inr (ci, fs)) (hc : vwCl[ci]? = some (Cn, T, N)) (hC : y.cls = Cn)
    (w : .methodLink own index y ∈ TB ∧ .instanceMethod y ∈ TB ∧ .selects Cn y y ∈ TB ∧ .initialized Cn ∈ TB ∧ .code y cc' nL' ret' ∈ TB) (hd : dOk y k) (hR : rm.frames + 1 ≤ R.frames ∧ 8 + (nL' + 11) + rm.locals ≤ R.locals) (hf : cells + rm.cells ≤ R.cells ∧ slots + rm.slots ≤ R.slots) (hk : av.length = k) (hcat : cat rest ≤ 8) (hs : av.reverse ++ .ref a :: rest = st) (d : decode cc pc = .ok (.invokevirtual index, 3)) (hn : pc + 3 = n)
    (kk : ∀ (v : α) (S' : Sw), post v S' → J p l e R s m args below meth c nL G b Q n lv ((mk v).toList ++ rest) S' (cells + rm.cells) (slots + rm.slots)) : J p l e R s m args below meth c nL G b Q pc lv st S cells slots := by
  subst hs
  refine J.run (av := (Value.ref a :: av).toArray) (fun ls H locs h1 h2 h3 => ?_) hn kk
  exact va_runV C.fix hM (cwV k C.2.2.2.2.1 (tb_inT (all_c w.1 (all_c w.2.1 (all_c w.2.2.1 (all_c w.2.2.2.1 (all_c w.2.2.2.2 all_tb)))))) rfl rfl rfl ⟨hC, hd⟩ hR) (C.preV h2 h3 hK he hc) rfl hk h1.1 rfl (lv_room hcat) d hf
theorem r_callU (C : Cx p l s m args meth c cc nL own ret G b) {n index nL' k a ci N : Nat} {Cn owner : String} {T : u_T} {fs : List Value} {x y : MethodName} {cc' : ByteArray} {ret' : Option FieldType} {rm : Room} {av rest : List Value} {α : Type} {mk : α → Option Value} {post : α → Sw → Prop} (hM : Ct l G b y cc' nL' ret' rm mk (.ref a :: av) S post)
    (hK : sK S a ≠ 0) (he : ent G S a = .inr (ci, fs)) (hc : vwCl[ci]? = some (Cn, T, N))
    (w : .methodLink own index x ∈ TB ∧ .sameMethod x.cls owner x.name x.desc ∈ TB ∧ .selects Cn x y ∈ TB ∧ .instanceMethod y ∈ TB ∧ .initialized y.cls ∈ TB ∧ .code y cc' nL' ret' ∈ TB ∧ .declares ⟨owner, x.name, x.desc⟩ ∈ BW) (hd : owner ≠ "java/lang/invoke/MethodHandle" ∧ owner ≠ "java/lang/invoke/VarHandle" ∧ (parseMethodDescriptor x.desc).map (fun d => d.parameters.length) = some k) (hR : rm.frames + 1 ≤ R.frames ∧ 8 + (nL' + 11) + rm.locals ≤ R.locals) (hf : cells + rm.cells ≤ R.cells ∧ slots + rm.slots ≤ R.slots) (hk : av.length = k) (hcat : cat rest ≤ 8) (hs : av.reverse ++ .ref a :: rest = st) (d : decode cc pc = .ok (.invokevirtual index, 3)) (hn : pc + 3 = n)
    (kk : ∀ (v : α) (S' : Sw), post v S' → J p l e R s m args below meth c nL G b Q n lv ((mk v).toList ++ rest) S' (cells + rm.cells) (slots + rm.slots)) : J p l e R s m args below meth c nL G b Q pc lv st S cells slots := by
  subst hs
  refine J.run (av := (Value.ref a :: av).toArray) (fun ls H locs h1 h2 h3 => ?_) hn kk
  exact va_runU C.fix hM (va_cwA k C.2.2.2.2.1 (tb_inT (all_c w.1 (all_c w.2.1 (all_c w.2.2.1 (all_c w.2.2.2.1 (all_c w.2.2.2.2.1 (all_c w.2.2.2.2.2.1 all_tb))))))) rfl rfl rfl (C.fx.2.1 _ w.2.2.2.2.2.2) hd hR) (C.preV h2 h3 hK he hc) rfl hk h1.1 rfl (lv_room hcat) d hf
theorem r_callI (C : Cx p l s m args meth c cc nL own ret G b) {n index nL' k a : Nat} {y : MethodName} {cc' : ByteArray} {rm : Room} {av rest : List Value} {α : Type} {mk : α → Option Value} {post : α → Sw → Prop} (hM : Ct l G b y cc' nL' none rm mk (.ref a :: av) S post)
    (w : .methodLink own index y ∈ TB ∧ .instanceMethod y ∈ TB ∧ .initialized y.cls ∈ TB ∧ .code y cc' nL' none ∈ TB) (hi : y.name = "<init>") (hd : dOk y k) (hR : rm.frames + 1 ≤ R.frames ∧ 8 + (nL' + 11) + rm.locals ≤ R.locals) (hf : cells + rm.cells ≤ R.cells ∧ slots + rm.slots ≤ R.slots) (hk : av.length = k) (hcat : cat rest ≤ 8) (hs : av.reverse ++ .ref a :: rest = st) (d : decode cc pc = .ok (.invokespecial index, 3)) (hn : pc + 3 = n)
    (kk : ∀ (v : α) (S' : Sw), post v S' → J p l e R s m args below meth c nL G b Q n lv ((mk v).toList ++ rest) S' (cells + rm.cells) (slots + rm.slots)) : J p l e R s m args below meth c nL G b Q pc lv st S cells slots := by
  subst hs
  refine J.run (av := (Value.ref a :: av).toArray) (fun ls H locs h1 h2 h3 => ?_) hn kk
  exact va_runI C.fix hM (cwI k C.2.2.2.2.1 (tb_inT (all_c w.2.2.2 all_tb)) rfl rfl rfl (C.w w.2.2.1) (C.w w.1) (C.w w.2.1) hi hd hR) (C.preS h2 h3) rfl hk h1.1 rfl (lv_room hcat) d hf
theorem r_callIN (C : Cx p l s m args meth c cc nL own ret G b) {n index nL' k a : Nat} {host : String} {y : MethodName} {cc' : ByteArray} {rm : Room} {av rest : List Value} {α : Type} {mk : α → Option Value} {post : α → Sw → Prop} (hM : Ct l G b y cc' nL' none rm mk (.ref a :: av) S post)
    (w : .methodLinkNest own index y host ∈ BW ∧ .instanceMethod y ∈ TB ∧ .initialized y.cls ∈ TB ∧ .code y cc' nL' none ∈ TB) (hi : y.name = "<init>") (hd : dOk y k) (hR : rm.frames + 1 ≤ R.frames ∧ 8 + (nL' + 11) + rm.locals ≤ R.locals) (hf : cells + rm.cells ≤ R.cells ∧ slots + rm.slots ≤ R.slots) (hk : av.length = k) (hcat : cat rest ≤ 8) (hs : av.reverse ++ .ref a :: rest = st) (d : decode cc pc = .ok (.invokespecial index, 3)) (hn : pc + 3 = n)
    (kk : ∀ (v : α) (S' : Sw), post v S' → J p l e R s m args below meth c nL G b Q n lv ((mk v).toList ++ rest) S' (cells + rm.cells) (slots + rm.slots)) : J p l e R s m args below meth c nL G b Q pc lv st S cells slots := by
  subst hs
  refine J.run (av := (Value.ref a :: av).toArray) (fun ls H locs h1 h2 h3 => ?_) hn kk
  exact va_runIN C.fix hM ⟨va_cnB k C.2.2.2.2.1 (tb_inT (all_c w.2.2.2 all_tb)) rfl rfl rfl (C.fx.2.1 _ w.1) (C.w w.2.2.1) hd hR, hi, C.w w.2.1⟩ (C.preS h2 h3) rfl hk h1.1 rfl (lv_room hcat) d hf
theorem r_objInit (C : Cx p l s m args meth c cc nL own ret G b) {n index a : Nat} (w : .methodLink own index Lib.objectInit ∈ TB ∧ .instanceMethod Lib.objectInit ∈ TB ∧ .code Lib.objectInit ⟨#[0xb1]⟩ 1 none ∈ TB) (hR : 1 ≤ R.frames ∧ cat st + 12 ≤ R.locals) (d : decode cc pc = .ok (.invokespecial index, 3)) (hn : pc + 3 = n)
    (kk : J p l e R s m args below meth c nL G b Q n lv st S cells slots) : J p l e R s m args below meth c nL G b Q pc lv (.ref a :: st) S cells slots := by
  subst hn
  intro ls H locs h1 h2 h3
  exact W.objInit C.1 C.2.1 C.2.2.2.1 (C.w w.1) (C.w w.2.1) (C.w w.2.2) rfl (h1.1.trans C.2.2.1.symm) rfl d hR.1 (by show 2 * 0 + _ + 12 ≤ _; simpa [cat] using hR.2) (kk ls H locs h1 h2 h3)
end JJ
