theorem isI_uI (S : Sw) (f a : Nat) (v : Int32) (x n : Nat) : isI (uI S f a v) x n = isI S x n := rfl
theorem isI_uJ (S : Sw) (f a : Nat) (v : Int64) (x n : Nat) : isI (uJ S f a v) x n = isI S x n := rfl
theorem isI_wI (S : Sw) (f a : Nat) (v : Int32) (x n : Nat) : isI (wI S f a v) x n = isI S x n := rfl
theorem isI_wR (S : Sw) (f a : Nat) (v : Option Nat) (x n : Nat) : isI (wR S f a v) x n = isI S x n := rfl
theorem isI_wD (S : Sw) (f a : Nat) (v : UInt64) (x n : Nat) : isI (wD S f a v) x n = isI S x n := rfl
theorem isI_wJ (S : Sw) (f a : Nat) (v : Int64) (x n : Nat) : isI (wJ S f a v) x n = isI S x n := rfl
theorem isI_wIs (S : Sw) (a : Nat) (r : Nat → Int32) (x n : Nat) : isI (wIs S a r) x n = isI S x n := rfl
theorem isC_uI (S : Sw) (f a : Nat) (v : Int32) (x n : Nat) : isC (uI S f a v) x n = isC S x n := rfl
theorem isC_uJ (S : Sw) (f a : Nat) (v : Int64) (x n : Nat) : isC (uJ S f a v) x n = isC S x n := rfl
theorem isC_wI (S : Sw) (f a : Nat) (v : Int32) (x n : Nat) : isC (wI S f a v) x n = isC S x n := rfl
theorem isC_wR (S : Sw) (f a : Nat) (v : Option Nat) (x n : Nat) : isC (wR S f a v) x n = isC S x n := rfl
theorem isC_wD (S : Sw) (f a : Nat) (v : UInt64) (x n : Nat) : isC (wD S f a v) x n = isC S x n := rfl
theorem isC_wJ (S : Sw) (f a : Nat) (v : Int64) (x n : Nat) : isC (wJ S f a v) x n = isC S x n := rfl
theorem isC_wIs (S : Sw) (a : Nat) (r : Nat → Int32) (x n : Nat) : isC (wIs S a r) x n = isC S x n := rfl
theorem isG_uI (S : Sw) (f a : Nat) (v : Int32) (x n : Nat) : isG (uI S f a v) x n = isG S x n := rfl
theorem isG_uJ (S : Sw) (f a : Nat) (v : Int64) (x n : Nat) : isG (uJ S f a v) x n = isG S x n := rfl
theorem isG_wI (S : Sw) (f a : Nat) (v : Int32) (x n : Nat) : isG (wI S f a v) x n = isG S x n := rfl
theorem isG_wR (S : Sw) (f a : Nat) (v : Option Nat) (x n : Nat) : isG (wR S f a v) x n = isG S x n := rfl
theorem isG_wD (S : Sw) (f a : Nat) (v : UInt64) (x n : Nat) : isG (wD S f a v) x n = isG S x n := rfl
theorem isG_wJ (S : Sw) (f a : Nat) (v : Int64) (x n : Nat) : isG (wJ S f a v) x n = isG S x n := rfl
theorem isG_wIs (S : Sw) (a : Nat) (r : Nat → Int32) (x n : Nat) : isG (wIs S a r) x n = isG S x n := rfl
theorem isZ_uI (S : Sw) (f a : Nat) (v : Int32) (x n : Nat) : isZ (uI S f a v) x n = isZ S x n := rfl
theorem isZ_uJ (S : Sw) (f a : Nat) (v : Int64) (x n : Nat) : isZ (uJ S f a v) x n = isZ S x n := rfl
theorem isZ_wI (S : Sw) (f a : Nat) (v : Int32) (x n : Nat) : isZ (wI S f a v) x n = isZ S x n := rfl
theorem isZ_wR (S : Sw) (f a : Nat) (v : Option Nat) (x n : Nat) : isZ (wR S f a v) x n = isZ S x n := rfl
theorem isZ_wD (S : Sw) (f a : Nat) (v : UInt64) (x n : Nat) : isZ (wD S f a v) x n = isZ S x n := rfl
theorem isZ_wJ (S : Sw) (f a : Nat) (v : Int64) (x n : Nat) : isZ (wJ S f a v) x n = isZ S x n := rfl
theorem isZ_wIs (S : Sw) (a : Nat) (r : Nat → Int32) (x n : Nat) : isZ (wIs S a r) x n = isZ S x n := rfl
theorem isD_uI (S : Sw) (f a : Nat) (v : Int32) (x n : Nat) : isD (uI S f a v) x n = isD S x n := rfl
theorem isD_uJ (S : Sw) (f a : Nat) (v : Int64) (x n : Nat) : isD (uJ S f a v) x n = isD S x n := rfl
theorem isD_wI (S : Sw) (f a : Nat) (v : Int32) (x n : Nat) : isD (wI S f a v) x n = isD S x n := rfl
theorem isD_wR (S : Sw) (f a : Nat) (v : Option Nat) (x n : Nat) : isD (wR S f a v) x n = isD S x n := rfl
theorem isD_wD (S : Sw) (f a : Nat) (v : UInt64) (x n : Nat) : isD (wD S f a v) x n = isD S x n := rfl
theorem isD_wJ (S : Sw) (f a : Nat) (v : Int64) (x n : Nat) : isD (wJ S f a v) x n = isD S x n := rfl
theorem isD_wIs (S : Sw) (a : Nat) (r : Nat → Int32) (x n : Nat) : isD (wIs S a r) x n = isD S x n := rfl
theorem isL_uI (S : Sw) (f a : Nat) (v : Int32) (x n : Nat) : isL (uI S f a v) x n = isL S x n := rfl
theorem isL_uJ (S : Sw) (f a : Nat) (v : Int64) (x n : Nat) : isL (uJ S f a v) x n = isL S x n := rfl
theorem isL_wI (S : Sw) (f a : Nat) (v : Int32) (x n : Nat) : isL (wI S f a v) x n = isL S x n := rfl
theorem isL_wR (S : Sw) (f a : Nat) (v : Option Nat) (x n : Nat) : isL (wR S f a v) x n = isL S x n := rfl
theorem isL_wD (S : Sw) (f a : Nat) (v : UInt64) (x n : Nat) : isL (wD S f a v) x n = isL S x n := rfl
theorem isL_wJ (S : Sw) (f a : Nat) (v : Int64) (x n : Nat) : isL (wJ S f a v) x n = isL S x n := rfl
theorem isL_wIs (S : Sw) (a : Nat) (r : Nat → Int32) (x n : Nat) : isL (wIs S a r) x n = isL S x n := rfl
def gC (S : Sw) (L R n : Nat) (rt : Int32) (x : Int) : Int32 := if x < 0 ∨ (n : Int) ≤ x then 0 else aI S (if rt = 0 then L else R) (x.toNat % 256)
theorem and255 {n : Nat} (h : n < 2 ^ 40) : ((lN n &&& 255).toInt32) = nI (n % 256) := by
  have e : lN n &&& 255 = lN (n % 256) := by
    apply Int64.toBitVec_inj.mp
    show (lN n).toBitVec &&& _ = _
    apply BitVec.eq_of_toNat_eq
    have h1 : (lN n).toBitVec.toNat = n := by
      show (BitVec.ofNat 64 n).toNat = n
      rw [BitVec.toNat_ofNat]; exact Nat.mod_eq_of_lt (by omega)
    have h2 : (lN (n % 256)).toBitVec.toNat = n % 256 := by
      show (BitVec.ofNat 64 (n % 256)).toNat = n % 256
      rw [BitVec.toNat_ofNat]; exact Nat.mod_eq_of_lt (by omega)
    rw [BitVec.toNat_and, h1, h2]
    show n &&& (2 ^ 8 - 1) = n % 256
    rw [Nat.and_two_pow_sub_one_eq_mod]
  rw [e, lN_i]
def tC (S : Sw) (t row : Nat) : Prop := sK S t = 6 ∧ fR S 600 t = some row ∧ isI S row 512
def vC (S : Sw) (c t f g : Nat) : Prop := sK S c = 1 ∧ fR S 100 c = some t ∧ fJ S 101 c = lN f ∧ fJ S 102 c = lN g
def fC (S : Sw) (a L R n : Nat) : Prop := sK S a = 2 ∧ fR S 200 a = some L ∧ fR S 201 a = some R ∧ isI S L 256 ∧ isI S R 256 ∧ fJ S 202 a = lN n
theorem lN_ne {t : Nat} (h : 0 < t) (h2 : t < 2 ^ 63) : ¬ lN t = 0 := fun q => absurd ((pk_lEQ (b := 0) h2 (by omega)).mp q) (by omega)
def fAdd (S : Sw) (a L R n : Nat) (l r : Int32) : Sw := uJ (wI (wI S L (n % 256) l) R (n % 256) r) 202 a (lN (n + 1))
set_option maxRecDepth 100000 in
set_option maxHeartbeats 1000000 in
theorem c_fAdd {l : Launch} {G : GG} {b : Nat} (hst : l.stackTraces = false) (S : Sw) (a L R n : Nat) (hf : fC S a L R n) (hn : n < 2 ^ 40) (lf rg : Int32) : Ct l G b yX2_add cX2_add 4 none rmX2_add mV [.ref a, .int lf, .int rg] S (fun _ S' => S' = fAdd S a L R n lf rg) := by
  refine Ct.of2 pnX2 (own := RX2) rfl (Nat.le_of_ble_eq_true rfl) hst ?_
  intro p e s m args below meth c C hname
  change J p l e rmX2_add s m args below meth c 4 G b _ 0 [(0, .ref a), (1, .int lf), (2, .int rg)] [] S 0 0
  obtain ⟨hk, hL, hR, hiL, hiR, hct⟩ := hf
  refine r_aload_n (i := 0) (n := 1) C dX2_add_0 rfl rfl rfl ?_
  refine gX2_16 (n := 4) C (by first | with_reducible assumption | (simp only [sK_uI, sK_uJ, sK_uR, sK_wI, sK_wR, sK_wD, sK_wJ, sK_wIs, aN_uI, aN_uJ, aN_uR, aN_wI, aN_wR, aN_wD, aN_wJ, aN_wIs, fR_uI, fR_uJ, fR_wI, fR_wR, fR_wD, fR_wJ, fR_wIs, isI_uI, isI_uJ, isI_wI, isI_wR, isI_wD, isI_wJ, isI_wIs, isC_uI, isC_uJ, isC_wI, isC_wR, isC_wD, isC_wJ, isC_wIs, isG_uI, isG_uJ, isG_wI, isG_wR, isG_wD, isG_wJ, isG_wIs, isZ_uI, isZ_uJ, isZ_wI, isZ_wR, isZ_wD, isZ_wJ, isZ_wIs, isD_uI, isD_uJ, isD_wI, isD_wR, isD_wD, isD_wJ, isD_wIs, isL_uI, isL_uJ, isL_wI, isL_wR, isL_wD, isL_wJ, isL_wIs]; with_reducible assumption)) dX2_add_1 rfl ?_
  rw [show fJ S 202 a = lN n from hct]
  refine r_ldc2 (n := 7) (v := 255) C (mem_tb (mem_tbl 156 (by decide +kernel)) (by decide +kernel)) dX2_add_4 rfl ?_
  refine r_land (n := 8) C dX2_add_7 rfl ?_
  refine r_l2i (n := 9) C dX2_add_8 rfl ?_
  rw [and255 hn]
  refine r_istore_n (i := 3) (n := 10) C dX2_add_9 rfl (by decide) rfl rfl ?_
  refine r_aload_n (i := 0) (n := 11) C dX2_add_10 rfl rfl rfl ?_
  refine gX2_9 (n := 14) C (by first | with_reducible assumption | (simp only [sK_uI, sK_uJ, sK_uR, sK_wI, sK_wR, sK_wD, sK_wJ, sK_wIs, aN_uI, aN_uJ, aN_uR, aN_wI, aN_wR, aN_wD, aN_wJ, aN_wIs, fR_uI, fR_uJ, fR_wI, fR_wR, fR_wD, fR_wJ, fR_wIs, isI_uI, isI_uJ, isI_wI, isI_wR, isI_wD, isI_wJ, isI_wIs, isC_uI, isC_uJ, isC_wI, isC_wR, isC_wD, isC_wJ, isC_wIs, isG_uI, isG_uJ, isG_wI, isG_wR, isG_wD, isG_wJ, isG_wIs, isZ_uI, isZ_uJ, isZ_wI, isZ_wR, isZ_wD, isZ_wJ, isZ_wIs, isD_uI, isD_uJ, isD_wI, isD_wR, isD_wD, isD_wJ, isD_wIs, isL_uI, isL_uJ, isL_wI, isL_wR, isL_wD, isL_wJ, isL_wIs]; with_reducible assumption)) (by first | with_reducible assumption | (simp only [sK_uI, sK_uJ, sK_uR, sK_wI, sK_wR, sK_wD, sK_wJ, sK_wIs, aN_uI, aN_uJ, aN_uR, aN_wI, aN_wR, aN_wD, aN_wJ, aN_wIs, fR_uI, fR_uJ, fR_wI, fR_wR, fR_wD, fR_wJ, fR_wIs, isI_uI, isI_uJ, isI_wI, isI_wR, isI_wD, isI_wJ, isI_wIs, isC_uI, isC_uJ, isC_wI, isC_wR, isC_wD, isC_wJ, isC_wIs, isG_uI, isG_uJ, isG_wI, isG_wR, isG_wD, isG_wJ, isG_wIs, isZ_uI, isZ_uJ, isZ_wI, isZ_wR, isZ_wD, isZ_wJ, isZ_wIs, isD_uI, isD_uJ, isD_wI, isD_wR, isD_wD, isD_wJ, isD_wIs, isL_uI, isL_uJ, isL_wI, isL_wR, isL_wD, isL_wJ, isL_wIs]; with_reducible assumption)) dX2_add_11 rfl ?_
  refine r_iload_n (i := 3) (n := 15) C dX2_add_14 rfl rfl rfl ?_
  refine r_iload_n (i := 1) (n := 16) C dX2_add_15 rfl rfl rfl ?_
  refine q_iast (n := 17) C ((n % 256)) (by first | with_reducible assumption | (simp only [sK_uI, sK_uJ, sK_uR, sK_wI, sK_wR, sK_wD, sK_wJ, sK_wIs, aN_uI, aN_uJ, aN_uR, aN_wI, aN_wR, aN_wD, aN_wJ, aN_wIs, fR_uI, fR_uJ, fR_wI, fR_wR, fR_wD, fR_wJ, fR_wIs, isI_uI, isI_uJ, isI_wI, isI_wR, isI_wD, isI_wJ, isI_wIs, isC_uI, isC_uJ, isC_wI, isC_wR, isC_wD, isC_wJ, isC_wIs, isG_uI, isG_uJ, isG_wI, isG_wR, isG_wD, isG_wJ, isG_wIs, isZ_uI, isZ_uJ, isZ_wI, isZ_wR, isZ_wD, isZ_wJ, isZ_wIs, isD_uI, isD_uJ, isD_wI, isD_wR, isD_wD, isD_wJ, isD_wIs, isL_uI, isL_uJ, isL_wI, isL_wR, isL_wD, isL_wJ, isL_wIs]; with_reducible assumption)) rfl (by omega) dX2_add_16 rfl ?_
  refine r_aload_n (i := 0) (n := 18) C dX2_add_17 rfl rfl rfl ?_
  refine gX2_13 (n := 21) C (by first | with_reducible assumption | (simp only [sK_uI, sK_uJ, sK_uR, sK_wI, sK_wR, sK_wD, sK_wJ, sK_wIs, aN_uI, aN_uJ, aN_uR, aN_wI, aN_wR, aN_wD, aN_wJ, aN_wIs, fR_uI, fR_uJ, fR_wI, fR_wR, fR_wD, fR_wJ, fR_wIs, isI_uI, isI_uJ, isI_wI, isI_wR, isI_wD, isI_wJ, isI_wIs, isC_uI, isC_uJ, isC_wI, isC_wR, isC_wD, isC_wJ, isC_wIs, isG_uI, isG_uJ, isG_wI, isG_wR, isG_wD, isG_wJ, isG_wIs, isZ_uI, isZ_uJ, isZ_wI, isZ_wR, isZ_wD, isZ_wJ, isZ_wIs, isD_uI, isD_uJ, isD_wI, isD_wR, isD_wD, isD_wJ, isD_wIs, isL_uI, isL_uJ, isL_wI, isL_wR, isL_wD, isL_wJ, isL_wIs]; with_reducible assumption)) (by first | with_reducible assumption | (simp only [sK_uI, sK_uJ, sK_uR, sK_wI, sK_wR, sK_wD, sK_wJ, sK_wIs, aN_uI, aN_uJ, aN_uR, aN_wI, aN_wR, aN_wD, aN_wJ, aN_wIs, fR_uI, fR_uJ, fR_wI, fR_wR, fR_wD, fR_wJ, fR_wIs, isI_uI, isI_uJ, isI_wI, isI_wR, isI_wD, isI_wJ, isI_wIs, isC_uI, isC_uJ, isC_wI, isC_wR, isC_wD, isC_wJ, isC_wIs, isG_uI, isG_uJ, isG_wI, isG_wR, isG_wD, isG_wJ, isG_wIs, isZ_uI, isZ_uJ, isZ_wI, isZ_wR, isZ_wD, isZ_wJ, isZ_wIs, isD_uI, isD_uJ, isD_wI, isD_wR, isD_wD, isD_wJ, isD_wIs, isL_uI, isL_uJ, isL_wI, isL_wR, isL_wD, isL_wJ, isL_wIs]; with_reducible assumption)) dX2_add_18 rfl ?_
  refine r_iload_n (i := 3) (n := 22) C dX2_add_21 rfl rfl rfl ?_
  refine r_iload_n (i := 2) (n := 23) C dX2_add_22 rfl rfl rfl ?_
  refine q_iast (n := 24) C ((n % 256)) (by first | with_reducible assumption | (simp only [sK_uI, sK_uJ, sK_uR, sK_wI, sK_wR, sK_wD, sK_wJ, sK_wIs, aN_uI, aN_uJ, aN_uR, aN_wI, aN_wR, aN_wD, aN_wJ, aN_wIs, fR_uI, fR_uJ, fR_wI, fR_wR, fR_wD, fR_wJ, fR_wIs, isI_uI, isI_uJ, isI_wI, isI_wR, isI_wD, isI_wJ, isI_wIs, isC_uI, isC_uJ, isC_wI, isC_wR, isC_wD, isC_wJ, isC_wIs, isG_uI, isG_uJ, isG_wI, isG_wR, isG_wD, isG_wJ, isG_wIs, isZ_uI, isZ_uJ, isZ_wI, isZ_wR, isZ_wD, isZ_wJ, isZ_wIs, isD_uI, isD_uJ, isD_wI, isD_wR, isD_wD, isD_wJ, isD_wIs, isL_uI, isL_uJ, isL_wI, isL_wR, isL_wD, isL_wJ, isL_wIs]; with_reducible assumption)) rfl (by omega) dX2_add_23 rfl ?_
  refine r_aload_n (i := 0) (n := 25) C dX2_add_24 rfl rfl rfl ?_
  refine r_dup (n := 26) C dX2_add_25 rfl rfl ?_
  refine gX2_16 (n := 29) C (by first | with_reducible assumption | (simp only [sK_uI, sK_uJ, sK_uR, sK_wI, sK_wR, sK_wD, sK_wJ, sK_wIs, aN_uI, aN_uJ, aN_uR, aN_wI, aN_wR, aN_wD, aN_wJ, aN_wIs, fR_uI, fR_uJ, fR_wI, fR_wR, fR_wD, fR_wJ, fR_wIs, isI_uI, isI_uJ, isI_wI, isI_wR, isI_wD, isI_wJ, isI_wIs, isC_uI, isC_uJ, isC_wI, isC_wR, isC_wD, isC_wJ, isC_wIs, isG_uI, isG_uJ, isG_wI, isG_wR, isG_wD, isG_wJ, isG_wIs, isZ_uI, isZ_uJ, isZ_wI, isZ_wR, isZ_wD, isZ_wJ, isZ_wIs, isD_uI, isD_uJ, isD_wI, isD_wR, isD_wD, isD_wJ, isD_wIs, isL_uI, isL_uJ, isL_wI, isL_wR, isL_wD, isL_wJ, isL_wIs]; with_reducible assumption)) dX2_add_26 rfl ?_
  rw [show fJ (wI (wI S L (n % 256) lf) R (n % 256) rg) 202 a = lN n from hct]
  refine r_lconst (v := 1) (n := 30) C dX2_add_29 rfl rfl ?_
  refine r_ladd (n := 31) C dX2_add_30 rfl ?_
  rw [lN_1]
  refine sX2_16 (n := 34) C (by first | with_reducible assumption | (simp only [sK_uI, sK_uJ, sK_uR, sK_wI, sK_wR, sK_wD, sK_wJ, sK_wIs, aN_uI, aN_uJ, aN_uR, aN_wI, aN_wR, aN_wD, aN_wJ, aN_wIs, fR_uI, fR_uJ, fR_wI, fR_wR, fR_wD, fR_wJ, fR_wIs, isI_uI, isI_uJ, isI_wI, isI_wR, isI_wD, isI_wJ, isI_wIs, isC_uI, isC_uJ, isC_wI, isC_wR, isC_wD, isC_wJ, isC_wIs, isG_uI, isG_uJ, isG_wI, isG_wR, isG_wD, isG_wJ, isG_wIs, isZ_uI, isZ_uJ, isZ_wI, isZ_wR, isZ_wD, isZ_wJ, isZ_wIs, isD_uI, isD_uJ, isD_wI, isD_wR, isD_wD, isD_wJ, isD_wIs, isL_uI, isL_uJ, isL_wI, isL_wR, isL_wD, isL_wJ, isL_wIs]; with_reducible assumption)) dX2_add_31 rfl ?_
  refine t_v C dX2_add_34 (by decide) ?_
  rfl
set_option maxRecDepth 100000 in
set_option maxHeartbeats 1000000 in
theorem c_fSmp {l : Launch} {G : GG} {b : Nat} (hst : l.stackTraces = false) (S : Sw) (a L R n : Nat) (hf : fC S a L R n) (hn : n < 2 ^ 40) (i : Int64) (rt : Int32) : Ct l G b yX2_sample cX2_sample 5 (some .int) rmX2_sample mI [.ref a, .long i, .int rt] S (fun r S' => S' = S ∧ r = gC S L R n rt i.toInt) := by
  refine Ct.of2 pnX2 (own := RX2) rfl (Nat.le_of_ble_eq_true rfl) hst ?_
  intro p e s m args below meth c C hname
  change J p l e rmX2_sample s m args below meth c 5 G b _ 0 [(0, .ref a), (1, .long i), (3, .int rt)] [] S 0 0
  obtain ⟨hk, hL, hR, hiL, hiR, hct⟩ := hf
  refine r_lload_n (i := 1) (n := 1) C dX2_sample_0 rfl rfl rfl ?_
  refine r_lconst (v := 0) (n := 2) C dX2_sample_1 rfl rfl ?_
  refine r_lcmp (n := 3) C dX2_sample_2 rfl ?_
  refine r_if_lt (n := 6) (t := 15) C dX2_sample_3 (by decide) rfl (fun h3 => ?_) (fun h3 => ?_)
  · refine r_iconst (v := 0) (n := 16) C dX2_sample_15 rfl rfl ?_
    refine t_i C rfl dX2_sample_16 (by decide) ?_
    refine ⟨rfl, ?_⟩
    unfold gC
    first | (rw [if_pos (Or.inl (by have := (lg_cmp_lt _ _).mp h3; rw [Int64.lt_iff_toInt_lt] at this; exact this))]) | (rw [if_pos (Or.inr (by have := mt (lg_cmp_lt _ _).mpr h12; rw [Int64.lt_iff_toInt_lt, pk_lT (by omega)] at this; omega))])
  · refine r_lload_n (i := 1) (n := 7) C dX2_sample_6 rfl rfl rfl ?_
    refine r_aload_n (i := 0) (n := 8) C dX2_sample_7 rfl rfl rfl ?_
    refine gX2_16 (n := 11) C (by first | with_reducible assumption | (simp only [sK_uI, sK_uJ, sK_uR, sK_wI, sK_wR, sK_wD, sK_wJ, sK_wIs, aN_uI, aN_uJ, aN_uR, aN_wI, aN_wR, aN_wD, aN_wJ, aN_wIs, fR_uI, fR_uJ, fR_wI, fR_wR, fR_wD, fR_wJ, fR_wIs, isI_uI, isI_uJ, isI_wI, isI_wR, isI_wD, isI_wJ, isI_wIs, isC_uI, isC_uJ, isC_wI, isC_wR, isC_wD, isC_wJ, isC_wIs, isG_uI, isG_uJ, isG_wI, isG_wR, isG_wD, isG_wJ, isG_wIs, isZ_uI, isZ_uJ, isZ_wI, isZ_wR, isZ_wD, isZ_wJ, isZ_wIs, isD_uI, isD_uJ, isD_wI, isD_wR, isD_wD, isD_wJ, isD_wIs, isL_uI, isL_uJ, isL_wI, isL_wR, isL_wD, isL_wJ, isL_wIs]; with_reducible assumption)) dX2_sample_8 rfl ?_
    rw [show fJ S 202 a = lN n from hct]
    refine r_lcmp (n := 12) C dX2_sample_11 rfl ?_
    refine r_if_lt (n := 15) (t := 17) C dX2_sample_12 (by decide) rfl (fun h12 => ?_) (fun h12 => ?_)
    · obtain ⟨j, hj, rfl⟩ := pk_lOf (fun q => h3 ((lg_cmp_lt _ _).mpr q))
      have hjn : j < n := (pk_lLT hj (by omega)).mp ((lg_cmp_lt _ _).mp h12)
      refine r_lload_n (i := 1) (n := 18) C dX2_sample_17 rfl rfl rfl ?_
      refine r_ldc2 (n := 21) (v := 255) C (mem_tb (mem_tbl 156 (by decide +kernel)) (by decide +kernel)) dX2_sample_18 rfl ?_
      refine r_land (n := 22) C dX2_sample_21 rfl ?_
      refine r_l2i (n := 23) C dX2_sample_22 rfl ?_
      rw [and255 (by omega)]
      refine r_istore (n := 25) C dX2_sample_23 (by decide) rfl rfl ?_
      refine r_iload_n (i := 3) (n := 26) C dX2_sample_25 rfl rfl rfl ?_
      refine r_if_eq (n := 29) (t := 39) C dX2_sample_26 (by decide) rfl (fun h26 => ?_) (fun h26 => ?_)
      · refine r_aload_n (i := 0) (n := 40) C dX2_sample_39 rfl rfl rfl ?_
        refine gX2_9 (n := 43) C (by first | with_reducible assumption | (simp only [sK_uI, sK_uJ, sK_uR, sK_wI, sK_wR, sK_wD, sK_wJ, sK_wIs, aN_uI, aN_uJ, aN_uR, aN_wI, aN_wR, aN_wD, aN_wJ, aN_wIs, fR_uI, fR_uJ, fR_wI, fR_wR, fR_wD, fR_wJ, fR_wIs, isI_uI, isI_uJ, isI_wI, isI_wR, isI_wD, isI_wJ, isI_wIs, isC_uI, isC_uJ, isC_wI, isC_wR, isC_wD, isC_wJ, isC_wIs, isG_uI, isG_uJ, isG_wI, isG_wR, isG_wD, isG_wJ, isG_wIs, isZ_uI, isZ_uJ, isZ_wI, isZ_wR, isZ_wD, isZ_wJ, isZ_wIs, isD_uI, isD_uJ, isD_wI, isD_wR, isD_wD, isD_wJ, isD_wIs, isL_uI, isL_uJ, isL_wI, isL_wR, isL_wD, isL_wJ, isL_wIs]; with_reducible assumption)) (by first | with_reducible assumption | (simp only [sK_uI, sK_uJ, sK_uR, sK_wI, sK_wR, sK_wD, sK_wJ, sK_wIs, aN_uI, aN_uJ, aN_uR, aN_wI, aN_wR, aN_wD, aN_wJ, aN_wIs, fR_uI, fR_uJ, fR_wI, fR_wR, fR_wD, fR_wJ, fR_wIs, isI_uI, isI_uJ, isI_wI, isI_wR, isI_wD, isI_wJ, isI_wIs, isC_uI, isC_uJ, isC_wI, isC_wR, isC_wD, isC_wJ, isC_wIs, isG_uI, isG_uJ, isG_wI, isG_wR, isG_wD, isG_wJ, isG_wIs, isZ_uI, isZ_uJ, isZ_wI, isZ_wR, isZ_wD, isZ_wJ, isZ_wIs, isD_uI, isD_uJ, isD_wI, isD_wR, isD_wD, isD_wJ, isD_wIs, isL_uI, isL_uJ, isL_wI, isL_wR, isL_wD, isL_wJ, isL_wIs]; with_reducible assumption)) dX2_sample_40 rfl ?_
        refine r_iload (n := 45) C dX2_sample_43 rfl rfl ?_
        refine q_iald (n := 46) C ((j % 256)) (by first | with_reducible assumption | (simp only [sK_uI, sK_uJ, sK_uR, sK_wI, sK_wR, sK_wD, sK_wJ, sK_wIs, aN_uI, aN_uJ, aN_uR, aN_wI, aN_wR, aN_wD, aN_wJ, aN_wIs, fR_uI, fR_uJ, fR_wI, fR_wR, fR_wD, fR_wJ, fR_wIs, isI_uI, isI_uJ, isI_wI, isI_wR, isI_wD, isI_wJ, isI_wIs, isC_uI, isC_uJ, isC_wI, isC_wR, isC_wD, isC_wJ, isC_wIs, isG_uI, isG_uJ, isG_wI, isG_wR, isG_wD, isG_wJ, isG_wIs, isZ_uI, isZ_uJ, isZ_wI, isZ_wR, isZ_wD, isZ_wJ, isZ_wIs, isD_uI, isD_uJ, isD_wI, isD_wR, isD_wD, isD_wJ, isD_wIs, isL_uI, isL_uJ, isL_wI, isL_wR, isL_wD, isL_wJ, isL_wIs]; with_reducible assumption)) rfl (by omega) dX2_sample_45 rfl ?_
        refine t_i C rfl dX2_sample_46 (by decide) ?_
        refine ⟨rfl, ?_⟩
        unfold gC
        rw [pk_lT hj, if_neg (by omega)]
        first | (rw [if_pos h26]; rfl) | (rw [if_neg h26]; rfl)
      · refine r_aload_n (i := 0) (n := 30) C dX2_sample_29 rfl rfl rfl ?_
        refine gX2_13 (n := 33) C (by first | with_reducible assumption | (simp only [sK_uI, sK_uJ, sK_uR, sK_wI, sK_wR, sK_wD, sK_wJ, sK_wIs, aN_uI, aN_uJ, aN_uR, aN_wI, aN_wR, aN_wD, aN_wJ, aN_wIs, fR_uI, fR_uJ, fR_wI, fR_wR, fR_wD, fR_wJ, fR_wIs, isI_uI, isI_uJ, isI_wI, isI_wR, isI_wD, isI_wJ, isI_wIs, isC_uI, isC_uJ, isC_wI, isC_wR, isC_wD, isC_wJ, isC_wIs, isG_uI, isG_uJ, isG_wI, isG_wR, isG_wD, isG_wJ, isG_wIs, isZ_uI, isZ_uJ, isZ_wI, isZ_wR, isZ_wD, isZ_wJ, isZ_wIs, isD_uI, isD_uJ, isD_wI, isD_wR, isD_wD, isD_wJ, isD_wIs, isL_uI, isL_uJ, isL_wI, isL_wR, isL_wD, isL_wJ, isL_wIs]; with_reducible assumption)) (by first | with_reducible assumption | (simp only [sK_uI, sK_uJ, sK_uR, sK_wI, sK_wR, sK_wD, sK_wJ, sK_wIs, aN_uI, aN_uJ, aN_uR, aN_wI, aN_wR, aN_wD, aN_wJ, aN_wIs, fR_uI, fR_uJ, fR_wI, fR_wR, fR_wD, fR_wJ, fR_wIs, isI_uI, isI_uJ, isI_wI, isI_wR, isI_wD, isI_wJ, isI_wIs, isC_uI, isC_uJ, isC_wI, isC_wR, isC_wD, isC_wJ, isC_wIs, isG_uI, isG_uJ, isG_wI, isG_wR, isG_wD, isG_wJ, isG_wIs, isZ_uI, isZ_uJ, isZ_wI, isZ_wR, isZ_wD, isZ_wJ, isZ_wIs, isD_uI, isD_uJ, isD_wI, isD_wR, isD_wD, isD_wJ, isD_wIs, isL_uI, isL_uJ, isL_wI, isL_wR, isL_wD, isL_wJ, isL_wIs]; with_reducible assumption)) dX2_sample_30 rfl ?_
        refine r_iload (n := 35) C dX2_sample_33 rfl rfl ?_
        refine q_iald (n := 36) C ((j % 256)) (by first | with_reducible assumption | (simp only [sK_uI, sK_uJ, sK_uR, sK_wI, sK_wR, sK_wD, sK_wJ, sK_wIs, aN_uI, aN_uJ, aN_uR, aN_wI, aN_wR, aN_wD, aN_wJ, aN_wIs, fR_uI, fR_uJ, fR_wI, fR_wR, fR_wD, fR_wJ, fR_wIs, isI_uI, isI_uJ, isI_wI, isI_wR, isI_wD, isI_wJ, isI_wIs, isC_uI, isC_uJ, isC_wI, isC_wR, isC_wD, isC_wJ, isC_wIs, isG_uI, isG_uJ, isG_wI, isG_wR, isG_wD, isG_wJ, isG_wIs, isZ_uI, isZ_uJ, isZ_wI, isZ_wR, isZ_wD, isZ_wJ, isZ_wIs, isD_uI, isD_uJ, isD_wI, isD_wR, isD_wD, isD_wJ, isD_wIs, isL_uI, isL_uJ, isL_wI, isL_wR, isL_wD, isL_wJ, isL_wIs]; with_reducible assumption)) rfl (by omega) dX2_sample_35 rfl ?_
        refine r_goto (t := 46) C dX2_sample_36 (by decide) ?_
        refine t_i C rfl dX2_sample_46 (by decide) ?_
        refine ⟨rfl, ?_⟩
        unfold gC
        rw [pk_lT hj, if_neg (by omega)]
        first | (rw [if_pos h26]; rfl) | (rw [if_neg h26]; rfl)
    · refine r_iconst (v := 0) (n := 16) C dX2_sample_15 rfl rfl ?_
      refine t_i C rfl dX2_sample_16 (by decide) ?_
      refine ⟨rfl, ?_⟩
      unfold gC
      first | (rw [if_pos (Or.inl (by have := (lg_cmp_lt _ _).mp h3; rw [Int64.lt_iff_toInt_lt] at this; exact this))]) | (rw [if_pos (Or.inr (by have := mt (lg_cmp_lt _ _).mpr h12; rw [Int64.lt_iff_toInt_lt, pk_lT (by omega)] at this; omega))])
set_option maxRecDepth 100000 in
set_option maxHeartbeats 1000000 in
theorem c_of {l : Launch} {G : GG} {b : Nat} (hst : l.stackTraces = false) (S : Sw) (t row ph k : Nat) (ht : tC S t row) (hp : ph < 32) (hk : k < 16) : Ct l G b yX6_of cX6_of 3 (some .int) rmX6_of mI [.ref t, .int (nI ph), .int (nI k)] S (fun r S' => S' = S ∧ r = aI S row (16 * ph + k)) := by
  refine Ct.of2 pnX6 (own := RX6) rfl (Nat.le_of_ble_eq_true rfl) hst ?_
  intro p e s m args below meth c C hname
  change J p l e rmX6_of s m args below meth c 3 G b _ 0 [(0, .ref t), (1, .int (nI ph)), (2, .int (nI k))] [] S 0 0
  obtain ⟨hkt, hrow, hir⟩ := ht
  refine r_aload_n (i := 0) (n := 1) C dX6_of_0 rfl rfl rfl ?_
  refine gX6_9 (n := 4) C (by first | with_reducible assumption | (simp only [sK_uI, sK_uJ, sK_uR, sK_wI, sK_wR, sK_wD, sK_wJ, sK_wIs, aN_uI, aN_uJ, aN_uR, aN_wI, aN_wR, aN_wD, aN_wJ, aN_wIs, fR_uI, fR_uJ, fR_wI, fR_wR, fR_wD, fR_wJ, fR_wIs, isI_uI, isI_uJ, isI_wI, isI_wR, isI_wD, isI_wJ, isI_wIs, isC_uI, isC_uJ, isC_wI, isC_wR, isC_wD, isC_wJ, isC_wIs, isG_uI, isG_uJ, isG_wI, isG_wR, isG_wD, isG_wJ, isG_wIs, isZ_uI, isZ_uJ, isZ_wI, isZ_wR, isZ_wD, isZ_wJ, isZ_wIs, isD_uI, isD_uJ, isD_wI, isD_wR, isD_wD, isD_wJ, isD_wIs, isL_uI, isL_uJ, isL_wI, isL_wR, isL_wD, isL_wJ, isL_wIs]; with_reducible assumption)) (by first | with_reducible assumption | (simp only [sK_uI, sK_uJ, sK_uR, sK_wI, sK_wR, sK_wD, sK_wJ, sK_wIs, aN_uI, aN_uJ, aN_uR, aN_wI, aN_wR, aN_wD, aN_wJ, aN_wIs, fR_uI, fR_uJ, fR_wI, fR_wR, fR_wD, fR_wJ, fR_wIs, isI_uI, isI_uJ, isI_wI, isI_wR, isI_wD, isI_wJ, isI_wIs, isC_uI, isC_uJ, isC_wI, isC_wR, isC_wD, isC_wJ, isC_wIs, isG_uI, isG_uJ, isG_wI, isG_wR, isG_wD, isG_wJ, isG_wIs, isZ_uI, isZ_uJ, isZ_wI, isZ_wR, isZ_wD, isZ_wJ, isZ_wIs, isD_uI, isD_uJ, isD_wI, isD_wR, isD_wD, isD_wJ, isD_wIs, isL_uI, isL_uJ, isL_wI, isL_wR, isL_wD, isL_wJ, isL_wIs]; with_reducible assumption)) dX6_of_1 rfl ?_
  refine r_iload_n (i := 1) (n := 5) C dX6_of_4 rfl rfl rfl ?_
  refine r_bipush (v := 16) (n := 7) C dX6_of_5 rfl rfl ?_
  refine r_imul (n := 8) C dX6_of_7 rfl ?_
  refine r_iload_n (i := 2) (n := 9) C dX6_of_8 rfl rfl rfl ?_
  refine r_iadd (n := 10) C dX6_of_9 rfl ?_
  refine q_iald (n := 11) C (((ph * 16) + k)) (by first | with_reducible assumption | (simp only [sK_uI, sK_uJ, sK_uR, sK_wI, sK_wR, sK_wD, sK_wJ, sK_wIs, aN_uI, aN_uJ, aN_uR, aN_wI, aN_wR, aN_wD, aN_wJ, aN_wIs, fR_uI, fR_uJ, fR_wI, fR_wR, fR_wD, fR_wJ, fR_wIs, isI_uI, isI_uJ, isI_wI, isI_wR, isI_wD, isI_wJ, isI_wIs, isC_uI, isC_uJ, isC_wI, isC_wR, isC_wD, isC_wJ, isC_wIs, isG_uI, isG_uJ, isG_wI, isG_wR, isG_wD, isG_wJ, isG_wIs, isZ_uI, isZ_uJ, isZ_wI, isZ_wR, isZ_wD, isZ_wJ, isZ_wIs, isD_uI, isD_uJ, isD_wI, isD_wR, isD_wD, isD_wJ, isD_wIs, isL_uI, isL_uJ, isL_wI, isL_wR, isL_wD, isL_wJ, isL_wIs]; with_reducible assumption)) (add_nI (a := (ph * 16)) (b := k) (mul_nI (a := ph) (b := 16) rfl rfl) rfl) (by omega) dX6_of_10 rfl ?_
  refine t_i C rfl dX6_of_11 (by decide) ?_
  exact ⟨rfl, by rw [Nat.mul_comm]⟩
set_option maxRecDepth 100000 in
set_option maxHeartbeats 1000000 in
theorem c_isPlain {l : Launch} {G : GG} {b : Nat} (hst : l.stackTraces = false) (S : Sw) (a t f g : Nat) (hv : vC S a t f g) (hf : f ≤ 48000) (hf0 : 8000 ≤ f) (hg : g ≤ 48000) (hg0 : 8000 ≤ g) : Ct l G b yX1_isPlain cX1_isPlain 1 (some .boolean) rmX1_isPlain mI [.ref a] S (fun r S' => S' = S ∧ r = if f = g then 1 else 0) := by
  refine Ct.of2 pnX1 (own := RX1) rfl (Nat.le_of_ble_eq_true rfl) hst ?_
  intro p e s m args below meth c C hname
  change J p l e rmX1_isPlain s m args below meth c 1 G b _ 0 [(0, .ref a)] [] S 0 0
  obtain ⟨hk, ht, hfr, hto⟩ := hv
  refine r_aload_n (i := 0) (n := 1) C dX1_isPlain_0 rfl rfl rfl ?_
  refine gX1_13 (n := 4) C hk dX1_isPlain_1 rfl ?_
  rw [hfr]
  refine r_aload_n (i := 0) (n := 5) C dX1_isPlain_4 rfl rfl rfl ?_
  refine gX1_23 (n := 8) C hk dX1_isPlain_5 rfl ?_
  rw [hto]
  refine r_lcmp (n := 9) C dX1_isPlain_8 rfl ?_
  refine r_if_ne (n := 12) (t := 16) C dX1_isPlain_9 (by decide) rfl (fun h9 => ?_) (fun h9 => ?_)
  · refine r_iconst (v := 0) (n := 17) C dX1_isPlain_16 rfl rfl ?_
    refine t_i C rfl dX1_isPlain_17 (by decide) ?_
    refine ⟨rfl, ?_⟩
    rw [lg_cmp_eq, pk_lEQ (by omega) (by omega)] at h9
    first | rw [if_pos h9] | rw [if_neg h9]
  · refine r_iconst (v := 1) (n := 13) C dX1_isPlain_12 rfl rfl ?_
    refine r_goto (t := 17) C dX1_isPlain_13 (by decide) ?_
    refine t_i C rfl dX1_isPlain_17 (by decide) ?_
    refine ⟨rfl, ?_⟩
    rw [lg_cmp_eq, pk_lEQ (by omega) (by omega)] at h9
    first | rw [if_pos h9] | rw [if_neg h9]
set_option maxRecDepth 100000 in
set_option maxHeartbeats 1000000 in
theorem c_wholePlace {l : Launch} {G : GG} {b : Nat} (hst : l.stackTraces = false) (S : Sw) (a t f g : Nat) (hv : vC S a t f g) (hf : f ≤ 48000) (hf0 : 8000 ≤ f) (hg : g ≤ 48000) (hg0 : 8000 ≤ g) (n : Nat) (hn : n < 2 ^ 20) : Ct l G b yX1_wholePlace cX1_wholePlace 3 (some .long) rmX1_wholePlace mJ [.ref a, .long (lN n)] S (fun r S' => S' = S ∧ r = lN (n * f / g)) := by
  refine Ct.of2 pnX1 (own := RX1) rfl (Nat.le_of_ble_eq_true rfl) hst ?_
  intro p e s m args below meth c C hname
  change J p l e rmX1_wholePlace s m args below meth c 3 G b _ 0 [(0, .ref a), (1, .long (lN n))] [] S 0 0
  obtain ⟨hk, ht, hfr, hto⟩ := hv
  refine r_lload_n (i := 1) (n := 1) C dX1_wholePlace_0 rfl rfl rfl ?_
  refine r_aload_n (i := 0) (n := 2) C dX1_wholePlace_1 rfl rfl rfl ?_
  refine gX1_13 (n := 5) C hk dX1_wholePlace_2 rfl ?_
  rw [hfr]
  refine r_lmul (n := 6) C dX1_wholePlace_5 rfl ?_
  refine r_aload_n (i := 0) (n := 7) C dX1_wholePlace_6 rfl rfl rfl ?_
  refine gX1_23 (n := 10) C hk dX1_wholePlace_7 rfl ?_
  rw [hto]
  refine r_ldiv (n := 11) C dX1_wholePlace_10 (lN_ne (by omega) (by omega)) rfl ?_
  refine t_j C dX1_wholePlace_11 (by decide) ?_
  refine ⟨rfl, ?_⟩
  have h9 := nf_lt hn hf
  rw [lN_mul, pk_lDiv (by omega) (by omega) (by omega)]
set_option maxRecDepth 100000 in
set_option maxHeartbeats 1000000 in
theorem c_lastNeeded {l : Launch} {G : GG} {b : Nat} (hst : l.stackTraces = false) (S : Sw) (a t f g : Nat) (hv : vC S a t f g) (hf : f ≤ 48000) (hf0 : 8000 ≤ f) (hg : g ≤ 48000) (hg0 : 8000 ≤ g) (n : Nat) (hn : n < 2 ^ 20) : Ct l G b yX1_lastNeeded cX1_lastNeeded 3 (some .long) rmX1_lastNeeded mJ [.ref a, .long (lN n)] S (fun r S' => S' = S ∧ r = lN (if f = g then n else n * f / g + 8)) := by
  refine Ct.of2 pnX1 (own := RX1) rfl (Nat.le_of_ble_eq_true rfl) hst ?_
  intro p e s m args below meth c C hname
  change J p l e rmX1_lastNeeded s m args below meth c 3 G b _ 0 [(0, .ref a), (1, .long (lN n))] [] S 0 0
  obtain ⟨hk, ht, hfr, hto⟩ := hv
  by_cases hfg : f = g
  · skip
    refine r_aload_n (i := 0) (n := 1) C dX1_lastNeeded_0 rfl rfl rfl ?_
    refine kX1_26 (n := 4) C (c_isPlain hst S a t f g ⟨hk, ht, hfr, hto⟩ hf hf0 hg hg0) hk (by decide) (by decide) (Nat.le_of_ble_eq_true rfl) dX1_lastNeeded_1 rfl (fun r S1 hp => ?_)
    obtain ⟨hS, hr⟩ := hp
    subst S1
    subst r
    rw [show (if f = g then (1 : Int32) else 0) = 1 from if_pos hfg]
    refine r_if_eqF (n := 7) (t := 11) C (by decide) dX1_lastNeeded_4 (by decide) rfl ?_
    refine r_lload_n (i := 1) (n := 8) C dX1_lastNeeded_7 rfl rfl rfl ?_
    refine r_goto (t := 26) C dX1_lastNeeded_8 (by decide) ?_
    refine t_j C dX1_lastNeeded_26 (by decide) ?_
    exact ⟨rfl, by rw [if_pos hfg]⟩
  · skip
    refine r_aload_n (i := 0) (n := 1) C dX1_lastNeeded_0 rfl rfl rfl ?_
    refine kX1_26 (n := 4) C (c_isPlain hst S a t f g ⟨hk, ht, hfr, hto⟩ hf hf0 hg hg0) hk (by decide) (by decide) (Nat.le_of_ble_eq_true rfl) dX1_lastNeeded_1 rfl (fun r S1 hp => ?_)
    obtain ⟨hS, hr⟩ := hp
    subst S1
    subst r
    rw [show (if f = g then (1 : Int32) else 0) = 0 from if_neg hfg]
    refine r_if_eqT (t := 11) C rfl dX1_lastNeeded_4 (by decide) ?_
    refine r_aload_n (i := 0) (n := 12) C dX1_lastNeeded_11 rfl rfl rfl ?_
    refine r_lload_n (i := 1) (n := 13) C dX1_lastNeeded_12 rfl rfl rfl ?_
    refine kX1_30 (n := 16) C (c_wholePlace hst S a t f g ⟨hk, ht, hfr, hto⟩ hf hf0 hg hg0 n hn) hk (by decide) (by decide) (Nat.le_of_ble_eq_true rfl) dX1_lastNeeded_13 rfl (fun r S1 hp => ?_)
    obtain ⟨hS, hr⟩ := hp
    subst S1
    subst r
    refine r_ldc2 (n := 19) (v := 16) C (mem_tb (mem_tbl 142 (by decide +kernel)) (by decide +kernel)) dX1_lastNeeded_16 rfl ?_
    refine r_ladd (n := 20) C dX1_lastNeeded_19 rfl ?_
    refine r_lconst (v := 1) (n := 21) C dX1_lastNeeded_20 rfl rfl ?_
    refine r_lsub (n := 22) C dX1_lastNeeded_21 rfl ?_
    refine r_ldc2 (n := 25) (v := 7) C (mem_tb (mem_tbl 143 (by decide +kernel)) (by decide +kernel)) dX1_lastNeeded_22 rfl ?_
    refine r_lsub (n := 26) C dX1_lastNeeded_25 rfl ?_
    refine t_j C dX1_lastNeeded_26 (by decide) ?_
    refine ⟨rfl, ?_⟩
    rw [if_neg hfg]
    show lN (n * f / g) + lN 16 - lN 1 - lN 7 = _
    generalize n * f / g = w
    rw [lN_add, lN_sub (a := w + 16) (b := 1) (by omega), lN_sub (a := w + 16 - 1) (b := 7) (by omega)]
    exact congrArg lN (by omega)
theorem lN64 {v : Int64} : (-9223372036854775808 : Int) ≤ v.toInt ∧ v.toInt < 9223372036854775808 := ⟨Int64.le_toInt v, Int64.toInt_lt v⟩
/-- as the class reckons it -/
def flt2 (tp : Nat → Int32) (g : Int → Int32) (n f t : Nat) : Int32 := if f = t then g (n : Int) else (jFdL (fsum tp g (n * f % t * 32 / t) (n * f / t) 16) 16384).toInt32
theorem sub7L {a k : Nat} (ha : a < 2 ^ 46) (hk : k < 16) : (lN a - 7 + (nI k).toInt64).toInt = (a : Int) + (k : Int) - 7 := by
  rw [nI_l (by omega), show (7 : Int64) = lN 7 from rfl, Int64.toInt_add, Int64.toInt_sub, pk_lT (by omega), pk_lT (by omega), pk_lT (by omega)]
  simp only [Int.bmod]
  omega
set_option maxRecDepth 100000 in
set_option maxHeartbeats 1000000 in
theorem c_cSmp {l : Launch} {G : GG} {b : Nat} (hst : l.stackTraces = false) (S : Sw) (a t f g : Nat) (hv : vC S a t f g) (hf : f ≤ 48000) (hf0 : 8000 ≤ f) (hg : g ≤ 48000) (hg0 : 8000 ≤ g) (x L R cn row : Nat) (hx : fC S x L R cn) (hm : cn < 2 ^ 40) (htc : tC S t row) (n : Nat) (hn : n < 2 ^ 20) (rt : Int32) : Ct l G b yX1_sample cX1_sample 11 (some .int) rmX1_sample mI [.ref a, .ref x, .long (lN n), .int rt] S (fun r S' => S' = S ∧ r = flt2 (aI S row) (gC S L R cn rt) n f g) := by
  refine Ct.of2 pnX1 (own := RX1) rfl (Nat.le_of_ble_eq_true rfl) hst ?_
  intro p e s m args below meth c C hname
  change J p l e rmX1_sample s m args below meth c 11 G b _ 0 [(0, .ref a), (1, .ref x), (2, .long (lN n)), (4, .int rt)] [] S 0 0
  obtain ⟨hk, ht, hfr, hto⟩ := hv
  refine r_aload_n (i := 0) (n := 1) C dX1_sample_0 rfl rfl rfl ?_
  refine kX1_26 (n := 4) C (c_isPlain hst S a t f g ⟨hk, ht, hfr, hto⟩ hf hf0 hg hg0) hk (by decide) (by decide) (Nat.le_of_ble_eq_true rfl) dX1_sample_1 rfl (fun r S1 hp => ?_)
  obtain ⟨hS, hr⟩ := hp
  subst S1
  subst r
  refine r_if_eq (n := 7) (t := 15) C dX1_sample_4 (by decide) rfl (fun h4 => ?_) (fun h4 => ?_)
  · refine r_lload_n (i := 2) (n := 16) C dX1_sample_15 rfl rfl rfl ?_
    refine r_aload_n (i := 0) (n := 17) C dX1_sample_16 rfl rfl rfl ?_
    refine gX1_13 (n := 20) C hk dX1_sample_17 rfl ?_
    rw [hfr]
    refine r_lmul (n := 21) C dX1_sample_20 rfl ?_
    refine r_aload_n (i := 0) (n := 22) C dX1_sample_21 rfl rfl rfl ?_
    refine gX1_23 (n := 25) C hk dX1_sample_22 rfl ?_
    rw [hto]
    refine r_lrem (n := 26) C dX1_sample_25 (lN_ne (by omega) (by omega)) rfl ?_
    refine r_ldc2 (n := 29) (v := 32) C (mem_tb (mem_tbl 157 (by decide +kernel)) (by decide +kernel)) dX1_sample_26 rfl ?_
    refine r_lmul (n := 30) C dX1_sample_29 rfl ?_
    refine r_aload_n (i := 0) (n := 31) C dX1_sample_30 rfl rfl rfl ?_
    refine gX1_23 (n := 34) C hk dX1_sample_31 rfl ?_
    rw [hto]
    refine r_ldiv (n := 35) C dX1_sample_34 (lN_ne (by omega) (by omega)) rfl ?_
    refine r_l2i (n := 36) C dX1_sample_35 rfl ?_
    have h9 := nf_lt hn hf
    have h8 := Nat.mod_lt (n * f) (show 0 < g by omega)
    rw [lN_mul, pk_lRem (by omega) (by omega) (by omega), show (32 : Int64) = lN 32 from rfl, lN_mul, pk_lDiv (by omega) (by omega) (by omega), lN_i]
    refine r_istore (n := 38) C dX1_sample_36 (by decide) rfl rfl ?_
    refine r_aload_n (i := 0) (n := 39) C dX1_sample_38 rfl rfl rfl ?_
    refine r_lload_n (i := 2) (n := 40) C dX1_sample_39 rfl rfl rfl ?_
    refine kX1_30 (n := 43) C (c_wholePlace hst S a t f g ⟨hk, ht, hfr, hto⟩ hf hf0 hg hg0 n hn) hk (by decide) (by decide) (Nat.le_of_ble_eq_true rfl) dX1_sample_40 rfl (fun r S1 hp => ?_)
    obtain ⟨hS, hr⟩ := hp
    subst S1
    subst r
    refine r_ldc2 (n := 46) (v := 7) C (mem_tb (mem_tbl 143 (by decide +kernel)) (by decide +kernel)) dX1_sample_43 rfl ?_
    refine r_lsub (n := 47) C dX1_sample_46 rfl ?_
    refine r_lstore (n := 49) C dX1_sample_47 (by decide) rfl rfl ?_
    refine r_lconst (v := 0) (n := 50) C dX1_sample_49 rfl rfl ?_
    refine r_lstore (n := 52) C dX1_sample_50 (by decide) rfl rfl ?_
    refine r_iconst (v := 0) (n := 53) C dX1_sample_52 rfl rfl ?_
    refine r_istore (n := 55) C dX1_sample_53 (by decide) rfl rfl ?_
    have h13 : ¬ f = g := fun q => absurd h4 (by rw [if_pos q]; decide)
    have hpl := nf_lt hn hf
    have hph := ph_lt (n := n) (f := f) (t := g) (by omega)
    have lp : ∀ (q k : Nat), k + q = 16 → J p l e rmX1_sample s m args below meth c 11 G b (vx_MQ below (Qp G b mI (fun r S' => S' = S ∧ r = flt2 (aI S row) (gC S L R cn rt) n f g)) (XCp G b S (fun _ => False)) args s rmX1_sample.cells rmX1_sample.slots (Ab b)) 55 [(0, .ref a), (1, .ref x), (4, .int rt), (5, .int (nI (n * f % g * 32 / g))), (6, .long (lN (n * f / g) - 7)), (8, .long (fsum (aI S row) (gC S L R cn rt) (n * f % g * 32 / g) (n * f / g) k)), (10, .int (nI k))] [] S 0 0 := by
      intro q
      induction q with
      | zero =>
        intro k hk9
        obtain rfl : k = 16 := by omega
        refine r_iload (n := 57) C dX1_sample_55 rfl rfl ?_
        refine r_bipush (v := 16) (n := 59) C dX1_sample_57 rfl rfl ?_
        refine r_icmp_geT (t := 99) C (cle (a := 16) (b := 16) rfl rfl (by omega) (by omega)) dX1_sample_59 (by decide) ?_
        refine r_lload (n := 101) C dX1_sample_99 rfl rfl ?_
        refine r_ldc2 (n := 104) (v := 16384) C (mem_tb (mem_tbl 162 (by decide +kernel)) (by decide +kernel)) dX1_sample_101 rfl ?_
        refine kX1_53 (n := 107) C (c_fdL hst S _ 16384 (by decide)) (by decide) (by decide) (Nat.le_of_ble_eq_true rfl) dX1_sample_104 rfl (fun r S1 hp => ?_)
        obtain ⟨hS, hr⟩ := hp
        subst S1
        subst r
        refine r_l2i (n := 108) C dX1_sample_107 rfl ?_
        refine t_i C rfl dX1_sample_108 (by decide) ?_
        refine ⟨rfl, ?_⟩
        rw [flt2, if_neg h13]
      | succ q ih =>
        intro k hk9
        refine r_iload (n := 57) C dX1_sample_55 rfl rfl ?_
        refine r_bipush (v := 16) (n := 59) C dX1_sample_57 rfl rfl ?_
        refine r_icmp_geF (n := 62) (t := 99) C (cnle (a := 16) (b := k) rfl rfl (by omega) (by omega)) dX1_sample_59 (by decide) rfl ?_
        refine r_lload (n := 64) C dX1_sample_62 rfl rfl ?_
        refine r_aload_n (i := 0) (n := 65) C dX1_sample_64 rfl rfl rfl ?_
        refine gX1_7 (n := 68) C hk ht dX1_sample_65 rfl ?_
        refine r_iload (n := 70) C dX1_sample_68 rfl rfl ?_
        refine r_iload (n := 72) C dX1_sample_70 rfl rfl ?_
        refine kX1_48 (n := 75) C (c_of hst S t row (n * f % g * 32 / g) k htc hph (by omega)) htc.1 (by decide) (by decide) (Nat.le_of_ble_eq_true rfl) dX1_sample_72 rfl (fun r S1 hp => ?_)
        obtain ⟨hS, hr⟩ := hp
        subst S1
        subst r
        refine r_i2l (n := 76) C dX1_sample_75 rfl ?_
        refine r_aload_n (i := 1) (n := 77) C dX1_sample_76 rfl rfl rfl ?_
        refine r_lload (n := 79) C dX1_sample_77 rfl rfl ?_
        refine r_iload (n := 81) C dX1_sample_79 rfl rfl ?_
        refine r_i2l (n := 82) C dX1_sample_81 rfl ?_
        refine r_ladd (n := 83) C dX1_sample_82 rfl ?_
        refine r_iload (n := 85) C dX1_sample_83 rfl rfl ?_
        refine kX1_40 (n := 88) C (c_fSmp hst S x L R cn hx hm (lN (n * f / g) - 7 + (nI k).toInt64) rt) hx.1 (by decide) (by decide) (Nat.le_of_ble_eq_true rfl) dX1_sample_85 rfl (fun r S1 hp => ?_)
        obtain ⟨hS, hr⟩ := hp
        subst S1
        subst r
        refine r_i2l (n := 89) C dX1_sample_88 rfl ?_
        refine r_lmul (n := 90) C dX1_sample_89 rfl ?_
        refine r_ladd (n := 91) C dX1_sample_90 rfl ?_
        refine r_lstore (n := 93) C dX1_sample_91 (by decide) rfl rfl ?_
        refine r_iinc (n := 96) C dX1_sample_93 rfl rfl (by decide) rfl rfl ?_
        refine r_goto (t := 55) C dX1_sample_96 (by decide) ?_
        rw [sub7L (Nat.lt_of_le_of_lt (Nat.div_le_self _ _) hpl) (by omega)]
        exact J.to (by rw [show nI k + Int32.ofInt 1 = nI (k + 1) from nI_1 k]; rfl) (ih (k + 1) (by omega))
    exact J.to rfl (lp 16 0 (by omega))
  · refine r_aload_n (i := 1) (n := 8) C dX1_sample_7 rfl rfl rfl ?_
    refine r_lload_n (i := 2) (n := 9) C dX1_sample_8 rfl rfl rfl ?_
    refine r_iload (n := 11) C dX1_sample_9 rfl rfl ?_
    refine kX1_40 (n := 14) C (c_fSmp hst S x L R cn hx hm (lN n) rt) hx.1 (by decide) (by decide) (Nat.le_of_ble_eq_true rfl) dX1_sample_11 rfl (fun r S1 hp => ?_)
    obtain ⟨hS, hr⟩ := hp
    subst S1
    subst r
    refine t_i C rfl dX1_sample_14 (by decide) ?_
    refine ⟨rfl, ?_⟩
    rw [flt2, if_pos (Decidable.of_not_not (fun q => h4 (if_neg q))), pk_lT (by omega)]
