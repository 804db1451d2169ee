theorem fI_pGk {S : Sw} {a row nx k x y : Nat} {f g : Nat → Int32} (h1 : x ≠ 511) (h2 : x ≠ 510) : fI (pGk S a row f g nx k) x y = fI S x y := (if_neg (fun q => h1 q.1)).trans (if_neg (fun q => h2 q.1))
/-- squares of the row just given -/
def sqd (S : Sw) (a row : Nat) : Sw := uJ S 514 a (sq1 (aI S row) 48)
set_option maxRecDepth 100000 in
set_option maxHeartbeats 1000000 in
theorem c_give_d1 {l : Launch} {G : GG} {b : Nat} (hst : l.stackTraces = false) (S : Sw) (a : Nat) (hk : sK S a = 5) (cv t rr : Nat) (hcv : fR S 505 a = some cv) (hvc : vC S cv t rr 48000) (hr : rtN rr) (w L R n : Nat) (hw : fR S 506 a = some w) (hfc : fC S w L R n) (hn : n < 2 ^ 20) (nx : Nat) (hnx : fJ S 512 a = lN nx) (hnx2 : nx < 2 ^ 19) (hnx3 : nx + 24 < 2 ^ 19) (row rw_ : Nat) (hrow : isI S row 48) (htc : tC S t rw_) (h1 : L ≠ row) (h2 : R ≠ row) (h3 : rw_ ≠ row) (oi sl : Nat) (hoi : fR S 507 a = some oi) (hio : isI S oi 4) (hsl : sl < 4) (hcd : fI S 2 a = 3) (hpb : lN ((nx + 24) * rr / 48000) - cLs rr < lN n) : Ct l G b yX5_give cX5_give 4 none rmX5_give mV [.ref a, .ref row, .int (nI sl)] S (fun _ S' => S' = sqd (wI (pGk S a row (pOut S rw_ L R n nx rr 0) (pOut S rw_ L R n nx rr 1) nx 24) oi sl 24) a row) := by
  refine Ct.of2 pnX5 (own := RX5) rfl (Nat.le_of_ble_eq_true rfl) hst ?_
  intro p e s m args below meth c C hname
  change J p l e rmX5_give s m args below meth c 4 G b _ 0 [(0, .ref a), (1, .ref row), (2, .int (nI sl))] [] S 0 0
  refine r_aload_n (i := 0) (n := 1) C dX5_give_0 rfl rfl rfl ?_
  refine gX5_57 (n := 4) C (by first | with_reducible assumption | (simp only [sK_uI, sK_uJ, sK_uR, sK_wI, sK_wR, sK_wD, sK_wJ, sK_wIs, aN_uI, aN_uJ, aN_uR, aN_wI, aN_wR, aN_wD, aN_wJ, aN_wIs, fR_uI, fR_uJ, fR_wI, fR_wR, fR_wD, fR_wJ, fR_wIs, isI_uI, isI_uJ, isI_wI, isI_wR, isI_wD, isI_wJ, isI_wIs, isC_uI, isC_uJ, isC_wI, isC_wR, isC_wD, isC_wJ, isC_wIs, isG_uI, isG_uJ, isG_wI, isG_wR, isG_wD, isG_wJ, isG_wIs, isZ_uI, isZ_uJ, isZ_wI, isZ_wR, isZ_wD, isZ_wJ, isZ_wIs, isD_uI, isD_uJ, isD_wI, isD_wR, isD_wD, isD_wJ, isD_wIs, isL_uI, isL_uJ, isL_wI, isL_wR, isL_wD, isL_wJ, isL_wIs]; with_reducible assumption)) dX5_give_1 rfl ?_
  refine r_iconst (v := 3) (n := 5) C dX5_give_4 rfl rfl ?_
  refine r_icmp_eqT (t := 24) C hcd dX5_give_5 (by decide) ?_
  refine r_iconst (v := 1) (n := 25) C dX5_give_24 rfl rfl ?_
  refine r_goto (t := 29) C dX5_give_25 (by decide) ?_
  refine r_istore_n (i := 3) (n := 30) C dX5_give_29 rfl (by decide) rfl rfl ?_
  refine r_iload_n (i := 3) (n := 31) C dX5_give_30 rfl rfl rfl ?_
  refine r_if_eqF (n := 34) (t := 42) C (by decide) dX5_give_31 (by decide) rfl ?_
  refine r_aload_n (i := 0) (n := 35) C dX5_give_34 rfl rfl rfl ?_
  refine r_aload_n (i := 1) (n := 36) C dX5_give_35 rfl rfl rfl ?_
  refine kX5_94 (n := 39) C (c_giveOutputs hst S a hk cv t rr hcv hvc hr w L R n hw hfc hn nx hnx hnx2 row rw_ hrow htc h1 h2 h3) hk (by decide) (by decide) (Nat.le_of_ble_eq_true rfl) dX5_give_36 rfl (fun r S1 hp => ?_)
  subst hp
  refine r_goto (t := 63) C dX5_give_39 (by decide) ?_
  obtain ⟨T, hT⟩ : ∃ T, T = (pGk S a row (pOut S rw_ L R n nx rr 0) (pOut S rw_ L R n nx rr 1) nx 24) := ⟨_, rfl⟩
  rw [← hT]
  have hkT : sK T a = 5 := by rw [hT, sK_pGk]; exact hk
  have hcvT : fR T 505 a = some cv := by rw [hT, fR_pGk]; exact hcv
  have hwT : fR T 506 a = some w := by rw [hT, fR_pGk]; exact hw
  have hoiT : fR T 507 a = some oi := by rw [hT, fR_pGk]; exact hoi
  have hioT : isI T oi 4 := by rw [hT, isI_pGk]; exact hio
  have hrowT : isI T row 48 := by rw [hT, isI_pGk]; exact hrow
  have hcT : fI T 2 a = fI S 2 a := by rw [hT]; exact fI_pGk (by decide) (by decide)
  have hvT : vC T cv t rr 48000 := by rw [hT]; exact vC_pGk hvc
  have hfT : fC T w L R n := by rw [hT]; exact fC_pGk hfc
  have hnT : fJ T 512 a = lN (nx + 24) := by rw [hT]; exact fJ_pGks
  refine r_aload_n (i := 0) (n := 64) C dX5_give_63 rfl rfl rfl ?_
  refine gX5_20 (n := 67) C hkT hoiT dX5_give_64 rfl ?_
  refine r_iload_n (i := 2) (n := 68) C dX5_give_67 rfl rfl rfl ?_
  refine r_iload_n (i := 3) (n := 69) C dX5_give_68 rfl rfl rfl ?_
  refine r_if_eqF (n := 72) (t := 77) C (by decide) dX5_give_69 (by decide) rfl ?_
  refine r_bipush (v := 24) (n := 74) C dX5_give_72 rfl rfl ?_
  refine r_goto (t := 78) C dX5_give_74 (by decide) ?_
  refine q_iast (n := 79) C (sl) (by first | with_reducible assumption | (simp only [sK_uI, sK_uJ, sK_uR, sK_wI, sK_wR, sK_wD, sK_wJ, sK_wIs, aN_uI, aN_uJ, aN_uR, aN_wI, aN_wR, aN_wD, aN_wJ, aN_wIs, fR_uI, fR_uJ, fR_wI, fR_wR, fR_wD, fR_wJ, fR_wIs, isI_uI, isI_uJ, isI_wI, isI_wR, isI_wD, isI_wJ, isI_wIs, isC_uI, isC_uJ, isC_wI, isC_wR, isC_wD, isC_wJ, isC_wIs, isG_uI, isG_uJ, isG_wI, isG_wR, isG_wD, isG_wJ, isG_wIs, isZ_uI, isZ_uJ, isZ_wI, isZ_wR, isZ_wD, isZ_wJ, isZ_wIs, isD_uI, isD_uJ, isD_wI, isD_wR, isD_wD, isD_wJ, isD_wIs, isL_uI, isL_uJ, isL_wI, isL_wR, isL_wD, isL_wJ, isL_wIs]; with_reducible assumption)) rfl (by omega) dX5_give_78 rfl ?_
  refine r_aload_n (i := 0) (n := 80) C dX5_give_79 rfl rfl rfl ?_
  refine gX5_57 (n := 83) C (by first | with_reducible assumption | (simp only [sK_uI, sK_uJ, sK_uR, sK_wI, sK_wR, sK_wD, sK_wJ, sK_wIs, aN_uI, aN_uJ, aN_uR, aN_wI, aN_wR, aN_wD, aN_wJ, aN_wIs, fR_uI, fR_uJ, fR_wI, fR_wR, fR_wD, fR_wJ, fR_wIs, isI_uI, isI_uJ, isI_wI, isI_wR, isI_wD, isI_wJ, isI_wIs, isC_uI, isC_uJ, isC_wI, isC_wR, isC_wD, isC_wJ, isC_wIs, isG_uI, isG_uJ, isG_wI, isG_wR, isG_wD, isG_wJ, isG_wIs, isZ_uI, isZ_uJ, isZ_wI, isZ_wR, isZ_wD, isZ_wJ, isZ_wIs, isD_uI, isD_uJ, isD_wI, isD_wR, isD_wD, isD_wJ, isD_wIs, isL_uI, isL_uJ, isL_wI, isL_wR, isL_wD, isL_wJ, isL_wIs]; with_reducible assumption)) dX5_give_80 rfl ?_
  refine r_iconst (v := 3) (n := 84) C dX5_give_83 rfl rfl ?_
  refine r_icmp_neF (n := 87) (t := 99) C (hcT.trans hcd) dX5_give_84 (by decide) rfl ?_
  refine r_aload_n (i := 0) (n := 88) C dX5_give_87 rfl rfl rfl ?_
  refine kX5_107 (n := 91) C (c_isPast hst (wI T oi sl 24) a hkT cv t rr hcvT (vC_wI hvT) hr w L R n hwT (fC_wI hfT) hn (nx + 24) hnT (by omega)) hkT (by decide) (by decide) (Nat.le_of_ble_eq_true rfl) dX5_give_88 rfl (fun r S1 hp => ?_)
  obtain ⟨hS9, hr9⟩ := hp
  subst S1
  subst r
  rw [if_pos hpb]
  refine r_if_eqT (t := 99) C rfl dX5_give_91 (by decide) ?_
  refine r_aload_n (i := 0) (n := 100) C dX5_give_99 rfl rfl rfl ?_
  refine r_aload_n (i := 1) (n := 101) C dX5_give_100 rfl rfl rfl ?_
  refine kX5_110 (n := 104) C (c_sumSq hst (wI T oi sl 24) row (by simp only [isI_uI, isI_wI]; exact hrowT)) (by decide) (by decide) (Nat.le_of_ble_eq_true rfl) dX5_give_101 rfl (fun r S1 hp => ?_)
  obtain ⟨hS9, hr9⟩ := hp
  subst S1
  subst r
  refine sX5_44 (n := 107) C (by first | with_reducible assumption | (simp only [sK_uI, sK_uJ, sK_uR, sK_wI, sK_wR, sK_wD, sK_wJ, sK_wIs, aN_uI, aN_uJ, aN_uR, aN_wI, aN_wR, aN_wD, aN_wJ, aN_wIs, fR_uI, fR_uJ, fR_wI, fR_wR, fR_wD, fR_wJ, fR_wIs, isI_uI, isI_uJ, isI_wI, isI_wR, isI_wD, isI_wJ, isI_wIs, isC_uI, isC_uJ, isC_wI, isC_wR, isC_wD, isC_wJ, isC_wIs, isG_uI, isG_uJ, isG_wI, isG_wR, isG_wD, isG_wJ, isG_wIs, isZ_uI, isZ_uJ, isZ_wI, isZ_wR, isZ_wD, isZ_wJ, isZ_wIs, isD_uI, isD_uJ, isD_wI, isD_wR, isD_wD, isD_wJ, isD_wIs, isL_uI, isL_uJ, isL_wI, isL_wR, isL_wD, isL_wJ, isL_wIs]; with_reducible assumption)) dX5_give_104 rfl ?_
  refine t_v C dX5_give_107 (by decide) ?_
  subst hT
  rfl
set_option maxRecDepth 100000 in
set_option maxHeartbeats 1000000 in
theorem c_give_d2 {l : Launch} {G : GG} {b : Nat} (hst : l.stackTraces = false) (S : Sw) (a : Nat) (hk : sK S a = 5) (cv t rr : Nat) (hcv : fR S 505 a = some cv) (hvc : vC S cv t rr 48000) (hr : rtN rr) (w L R n : Nat) (hw : fR S 506 a = some w) (hfc : fC S w L R n) (hn : n < 2 ^ 20) (nx : Nat) (hnx : fJ S 512 a = lN nx) (hnx2 : nx < 2 ^ 19) (hnx3 : nx + 24 < 2 ^ 19) (row rw_ : Nat) (hrow : isI S row 48) (htc : tC S t rw_) (h1 : L ≠ row) (h2 : R ≠ row) (h3 : rw_ ≠ row) (oi sl : Nat) (hoi : fR S 507 a = some oi) (hio : isI S oi 4) (hsl : sl < 4) (hcd : fI S 2 a = 3) (hpb : ¬ lN ((nx + 24) * rr / 48000) - cLs rr < lN n) : Ct l G b yX5_give cX5_give 4 none rmX5_give mV [.ref a, .ref row, .int (nI sl)] S (fun _ S' => S' = sqd (uI (wI (pGk S a row (pOut S rw_ L R n nx rr 0) (pOut S rw_ L R n nx rr 1) nx 24) oi sl 24) 2 a 4) a row) := by
  refine Ct.of2 pnX5 (own := RX5) rfl (Nat.le_of_ble_eq_true rfl) hst ?_
  intro p e s m args below meth c C hname
  change J p l e rmX5_give s m args below meth c 4 G b _ 0 [(0, .ref a), (1, .ref row), (2, .int (nI sl))] [] S 0 0
  refine r_aload_n (i := 0) (n := 1) C dX5_give_0 rfl rfl rfl ?_
  refine gX5_57 (n := 4) C (by first | with_reducible assumption | (simp only [sK_uI, sK_uJ, sK_uR, sK_wI, sK_wR, sK_wD, sK_wJ, sK_wIs, aN_uI, aN_uJ, aN_uR, aN_wI, aN_wR, aN_wD, aN_wJ, aN_wIs, fR_uI, fR_uJ, fR_wI, fR_wR, fR_wD, fR_wJ, fR_wIs, isI_uI, isI_uJ, isI_wI, isI_wR, isI_wD, isI_wJ, isI_wIs, isC_uI, isC_uJ, isC_wI, isC_wR, isC_wD, isC_wJ, isC_wIs, isG_uI, isG_uJ, isG_wI, isG_wR, isG_wD, isG_wJ, isG_wIs, isZ_uI, isZ_uJ, isZ_wI, isZ_wR, isZ_wD, isZ_wJ, isZ_wIs, isD_uI, isD_uJ, isD_wI, isD_wR, isD_wD, isD_wJ, isD_wIs, isL_uI, isL_uJ, isL_wI, isL_wR, isL_wD, isL_wJ, isL_wIs]; with_reducible assumption)) dX5_give_1 rfl ?_
  refine r_iconst (v := 3) (n := 5) C dX5_give_4 rfl rfl ?_
  refine r_icmp_eqT (t := 24) C hcd dX5_give_5 (by decide) ?_
  refine r_iconst (v := 1) (n := 25) C dX5_give_24 rfl rfl ?_
  refine r_goto (t := 29) C dX5_give_25 (by decide) ?_
  refine r_istore_n (i := 3) (n := 30) C dX5_give_29 rfl (by decide) rfl rfl ?_
  refine r_iload_n (i := 3) (n := 31) C dX5_give_30 rfl rfl rfl ?_
  refine r_if_eqF (n := 34) (t := 42) C (by decide) dX5_give_31 (by decide) rfl ?_
  refine r_aload_n (i := 0) (n := 35) C dX5_give_34 rfl rfl rfl ?_
  refine r_aload_n (i := 1) (n := 36) C dX5_give_35 rfl rfl rfl ?_
  refine kX5_94 (n := 39) C (c_giveOutputs hst S a hk cv t rr hcv hvc hr w L R n hw hfc hn nx hnx hnx2 row rw_ hrow htc h1 h2 h3) hk (by decide) (by decide) (Nat.le_of_ble_eq_true rfl) dX5_give_36 rfl (fun r S1 hp => ?_)
  subst hp
  refine r_goto (t := 63) C dX5_give_39 (by decide) ?_
  obtain ⟨T, hT⟩ : ∃ T, T = (pGk S a row (pOut S rw_ L R n nx rr 0) (pOut S rw_ L R n nx rr 1) nx 24) := ⟨_, rfl⟩
  rw [← hT]
  have hkT : sK T a = 5 := by rw [hT, sK_pGk]; exact hk
  have hcvT : fR T 505 a = some cv := by rw [hT, fR_pGk]; exact hcv
  have hwT : fR T 506 a = some w := by rw [hT, fR_pGk]; exact hw
  have hoiT : fR T 507 a = some oi := by rw [hT, fR_pGk]; exact hoi
  have hioT : isI T oi 4 := by rw [hT, isI_pGk]; exact hio
  have hrowT : isI T row 48 := by rw [hT, isI_pGk]; exact hrow
  have hcT : fI T 2 a = fI S 2 a := by rw [hT]; exact fI_pGk (by decide) (by decide)
  have hvT : vC T cv t rr 48000 := by rw [hT]; exact vC_pGk hvc
  have hfT : fC T w L R n := by rw [hT]; exact fC_pGk hfc
  have hnT : fJ T 512 a = lN (nx + 24) := by rw [hT]; exact fJ_pGks
  refine r_aload_n (i := 0) (n := 64) C dX5_give_63 rfl rfl rfl ?_
  refine gX5_20 (n := 67) C hkT hoiT dX5_give_64 rfl ?_
  refine r_iload_n (i := 2) (n := 68) C dX5_give_67 rfl rfl rfl ?_
  refine r_iload_n (i := 3) (n := 69) C dX5_give_68 rfl rfl rfl ?_
  refine r_if_eqF (n := 72) (t := 77) C (by decide) dX5_give_69 (by decide) rfl ?_
  refine r_bipush (v := 24) (n := 74) C dX5_give_72 rfl rfl ?_
  refine r_goto (t := 78) C dX5_give_74 (by decide) ?_
  refine q_iast (n := 79) C (sl) (by first | with_reducible assumption | (simp only [sK_uI, sK_uJ, sK_uR, sK_wI, sK_wR, sK_wD, sK_wJ, sK_wIs, aN_uI, aN_uJ, aN_uR, aN_wI, aN_wR, aN_wD, aN_wJ, aN_wIs, fR_uI, fR_uJ, fR_wI, fR_wR, fR_wD, fR_wJ, fR_wIs, isI_uI, isI_uJ, isI_wI, isI_wR, isI_wD, isI_wJ, isI_wIs, isC_uI, isC_uJ, isC_wI, isC_wR, isC_wD, isC_wJ, isC_wIs, isG_uI, isG_uJ, isG_wI, isG_wR, isG_wD, isG_wJ, isG_wIs, isZ_uI, isZ_uJ, isZ_wI, isZ_wR, isZ_wD, isZ_wJ, isZ_wIs, isD_uI, isD_uJ, isD_wI, isD_wR, isD_wD, isD_wJ, isD_wIs, isL_uI, isL_uJ, isL_wI, isL_wR, isL_wD, isL_wJ, isL_wIs]; with_reducible assumption)) rfl (by omega) dX5_give_78 rfl ?_
  refine r_aload_n (i := 0) (n := 80) C dX5_give_79 rfl rfl rfl ?_
  refine gX5_57 (n := 83) C (by first | with_reducible assumption | (simp only [sK_uI, sK_uJ, sK_uR, sK_wI, sK_wR, sK_wD, sK_wJ, sK_wIs, aN_uI, aN_uJ, aN_uR, aN_wI, aN_wR, aN_wD, aN_wJ, aN_wIs, fR_uI, fR_uJ, fR_wI, fR_wR, fR_wD, fR_wJ, fR_wIs, isI_uI, isI_uJ, isI_wI, isI_wR, isI_wD, isI_wJ, isI_wIs, isC_uI, isC_uJ, isC_wI, isC_wR, isC_wD, isC_wJ, isC_wIs, isG_uI, isG_uJ, isG_wI, isG_wR, isG_wD, isG_wJ, isG_wIs, isZ_uI, isZ_uJ, isZ_wI, isZ_wR, isZ_wD, isZ_wJ, isZ_wIs, isD_uI, isD_uJ, isD_wI, isD_wR, isD_wD, isD_wJ, isD_wIs, isL_uI, isL_uJ, isL_wI, isL_wR, isL_wD, isL_wJ, isL_wIs]; with_reducible assumption)) dX5_give_80 rfl ?_
  refine r_iconst (v := 3) (n := 84) C dX5_give_83 rfl rfl ?_
  refine r_icmp_neF (n := 87) (t := 99) C (hcT.trans hcd) dX5_give_84 (by decide) rfl ?_
  refine r_aload_n (i := 0) (n := 88) C dX5_give_87 rfl rfl rfl ?_
  refine kX5_107 (n := 91) C (c_isPast hst (wI T oi sl 24) a hkT cv t rr hcvT (vC_wI hvT) hr w L R n hwT (fC_wI hfT) hn (nx + 24) hnT (by omega)) hkT (by decide) (by decide) (Nat.le_of_ble_eq_true rfl) dX5_give_88 rfl (fun r S1 hp => ?_)
  obtain ⟨hS9, hr9⟩ := hp
  subst S1
  subst r
  rw [if_neg hpb]
  refine r_if_eqF (n := 94) (t := 99) C (by decide) dX5_give_91 (by decide) rfl ?_
  refine r_aload_n (i := 0) (n := 95) C dX5_give_94 rfl rfl rfl ?_
  refine r_iconst (v := 4) (n := 96) C dX5_give_95 rfl rfl ?_
  refine sX5_57 (n := 99) C (by first | with_reducible assumption | (simp only [sK_uI, sK_uJ, sK_uR, sK_wI, sK_wR, sK_wD, sK_wJ, sK_wIs, aN_uI, aN_uJ, aN_uR, aN_wI, aN_wR, aN_wD, aN_wJ, aN_wIs, fR_uI, fR_uJ, fR_wI, fR_wR, fR_wD, fR_wJ, fR_wIs, isI_uI, isI_uJ, isI_wI, isI_wR, isI_wD, isI_wJ, isI_wIs, isC_uI, isC_uJ, isC_wI, isC_wR, isC_wD, isC_wJ, isC_wIs, isG_uI, isG_uJ, isG_wI, isG_wR, isG_wD, isG_wJ, isG_wIs, isZ_uI, isZ_uJ, isZ_wI, isZ_wR, isZ_wD, isZ_wJ, isZ_wIs, isD_uI, isD_uJ, isD_wI, isD_wR, isD_wD, isD_wJ, isD_wIs, isL_uI, isL_uJ, isL_wI, isL_wR, isL_wD, isL_wJ, isL_wIs]; with_reducible assumption)) dX5_give_96 rfl ?_
  refine r_aload_n (i := 0) (n := 100) C dX5_give_99 rfl rfl rfl ?_
  refine r_aload_n (i := 1) (n := 101) C dX5_give_100 rfl rfl rfl ?_
  refine kX5_110 (n := 104) C (c_sumSq hst (uI (wI T oi sl 24) 2 a 4) row (by simp only [isI_uI, isI_wI]; exact hrowT)) (by decide) (by decide) (Nat.le_of_ble_eq_true rfl) dX5_give_101 rfl (fun r S1 hp => ?_)
  obtain ⟨hS9, hr9⟩ := hp
  subst S1
  subst r
  refine sX5_44 (n := 107) C (by first | with_reducible assumption | (simp only [sK_uI, sK_uJ, sK_uR, sK_wI, sK_wR, sK_wD, sK_wJ, sK_wIs, aN_uI, aN_uJ, aN_uR, aN_wI, aN_wR, aN_wD, aN_wJ, aN_wIs, fR_uI, fR_uJ, fR_wI, fR_wR, fR_wD, fR_wJ, fR_wIs, isI_uI, isI_uJ, isI_wI, isI_wR, isI_wD, isI_wJ, isI_wIs, isC_uI, isC_uJ, isC_wI, isC_wR, isC_wD, isC_wJ, isC_wIs, isG_uI, isG_uJ, isG_wI, isG_wR, isG_wD, isG_wJ, isG_wIs, isZ_uI, isZ_uJ, isZ_wI, isZ_wR, isZ_wD, isZ_wJ, isZ_wIs, isD_uI, isD_uJ, isD_wI, isD_wR, isD_wD, isD_wJ, isD_wIs, isL_uI, isL_uJ, isL_wI, isL_wR, isL_wD, isL_wJ, isL_wIs]; with_reducible assumption)) dX5_give_104 rfl ?_
  refine t_v C dX5_give_107 (by decide) ?_
  subst hT
  rfl
set_option maxRecDepth 100000 in
set_option maxHeartbeats 1000000 in
theorem c_give_r {l : Launch} {G : GG} {b : Nat} (hst : l.stackTraces = false) (S : Sw) (a : Nat) (hk : sK S a = 5) (cv t rr : Nat) (hcv : fR S 505 a = some cv) (hvc : vC S cv t rr 48000) (hr : rtN rr) (w L R n : Nat) (hw : fR S 506 a = some w) (hfc : fC S w L R n) (hn : n < 2 ^ 20) (nx : Nat) (hnx : fJ S 512 a = lN nx) (hnx2 : nx < 2 ^ 19) (hnx3 : nx + 24 < 2 ^ 19) (row rw_ : Nat) (hrow : isI S row 48) (htc : tC S t rw_) (h1 : L ≠ row) (h2 : R ≠ row) (h3 : rw_ ≠ row) (oi sl : Nat) (hoi : fR S 507 a = some oi) (hio : isI S oi 4) (hsl : sl < 4) (hcd : fI S 2 a = 1) (hbk : (if rr = 48000 then nx + 24 * 1 - 1 else (nx + 24 * 1 - 1) * rr / 48000 + 8) < n) : Ct l G b yX5_give cX5_give 4 none rmX5_give mV [.ref a, .ref row, .int (nI sl)] S (fun _ S' => S' = sqd (wI (pGk S a row (pOut S rw_ L R n nx rr 0) (pOut S rw_ L R n nx rr 1) nx 24) oi sl 24) a row) := by
  refine Ct.of2 pnX5 (own := RX5) rfl (Nat.le_of_ble_eq_true rfl) hst ?_
  intro p e s m args below meth c C hname
  change J p l e rmX5_give s m args below meth c 4 G b _ 0 [(0, .ref a), (1, .ref row), (2, .int (nI sl))] [] S 0 0
  refine r_aload_n (i := 0) (n := 1) C dX5_give_0 rfl rfl rfl ?_
  refine gX5_57 (n := 4) C (by first | with_reducible assumption | (simp only [sK_uI, sK_uJ, sK_uR, sK_wI, sK_wR, sK_wD, sK_wJ, sK_wIs, aN_uI, aN_uJ, aN_uR, aN_wI, aN_wR, aN_wD, aN_wJ, aN_wIs, fR_uI, fR_uJ, fR_wI, fR_wR, fR_wD, fR_wJ, fR_wIs, isI_uI, isI_uJ, isI_wI, isI_wR, isI_wD, isI_wJ, isI_wIs, isC_uI, isC_uJ, isC_wI, isC_wR, isC_wD, isC_wJ, isC_wIs, isG_uI, isG_uJ, isG_wI, isG_wR, isG_wD, isG_wJ, isG_wIs, isZ_uI, isZ_uJ, isZ_wI, isZ_wR, isZ_wD, isZ_wJ, isZ_wIs, isD_uI, isD_uJ, isD_wI, isD_wR, isD_wD, isD_wJ, isD_wIs, isL_uI, isL_uJ, isL_wI, isL_wR, isL_wD, isL_wJ, isL_wIs]; with_reducible assumption)) dX5_give_1 rfl ?_
  refine r_iconst (v := 3) (n := 5) C dX5_give_4 rfl rfl ?_
  refine r_icmp_eqF (n := 8) (t := 24) C (by rw [hcd]; decide) dX5_give_5 (by decide) rfl ?_
  refine r_aload_n (i := 0) (n := 9) C dX5_give_8 rfl rfl rfl ?_
  refine gX5_57 (n := 12) C (by first | with_reducible assumption | (simp only [sK_uI, sK_uJ, sK_uR, sK_wI, sK_wR, sK_wD, sK_wJ, sK_wIs, aN_uI, aN_uJ, aN_uR, aN_wI, aN_wR, aN_wD, aN_wJ, aN_wIs, fR_uI, fR_uJ, fR_wI, fR_wR, fR_wD, fR_wJ, fR_wIs, isI_uI, isI_uJ, isI_wI, isI_wR, isI_wD, isI_wJ, isI_wIs, isC_uI, isC_uJ, isC_wI, isC_wR, isC_wD, isC_wJ, isC_wIs, isG_uI, isG_uJ, isG_wI, isG_wR, isG_wD, isG_wJ, isG_wIs, isZ_uI, isZ_uJ, isZ_wI, isZ_wR, isZ_wD, isZ_wJ, isZ_wIs, isD_uI, isD_uJ, isD_wI, isD_wR, isD_wD, isD_wJ, isD_wIs, isL_uI, isL_uJ, isL_wI, isL_wR, isL_wD, isL_wJ, isL_wIs]; with_reducible assumption)) dX5_give_9 rfl ?_
  refine r_iconst (v := 1) (n := 13) C dX5_give_12 rfl rfl ?_
  refine r_icmp_neF (n := 16) (t := 28) C hcd dX5_give_13 (by decide) rfl ?_
  refine r_aload_n (i := 0) (n := 17) C dX5_give_16 rfl rfl rfl ?_
  refine r_iconst (v := 1) (n := 18) C dX5_give_17 rfl rfl ?_
  refine kX5_90 (n := 21) C (c_isWrittenFor hst S a hk cv t rr hcv hvc hr w L R n hw hfc hn nx hnx hnx2 1 (by omega) (by omega)) hk (by decide) (by decide) (Nat.le_of_ble_eq_true rfl) dX5_give_18 rfl (fun r S1 hp => ?_)
  obtain ⟨hS9, hr9⟩ := hp
  subst S1
  subst r
  rw [if_pos hbk]
  refine r_if_eqF (n := 24) (t := 28) C (by decide) dX5_give_21 (by decide) rfl ?_
  refine r_iconst (v := 1) (n := 25) C dX5_give_24 rfl rfl ?_
  refine r_goto (t := 29) C dX5_give_25 (by decide) ?_
  refine r_istore_n (i := 3) (n := 30) C dX5_give_29 rfl (by decide) rfl rfl ?_
  refine r_iload_n (i := 3) (n := 31) C dX5_give_30 rfl rfl rfl ?_
  refine r_if_eqF (n := 34) (t := 42) C (by decide) dX5_give_31 (by decide) rfl ?_
  refine r_aload_n (i := 0) (n := 35) C dX5_give_34 rfl rfl rfl ?_
  refine r_aload_n (i := 1) (n := 36) C dX5_give_35 rfl rfl rfl ?_
  refine kX5_94 (n := 39) C (c_giveOutputs hst S a hk cv t rr hcv hvc hr w L R n hw hfc hn nx hnx hnx2 row rw_ hrow htc h1 h2 h3) hk (by decide) (by decide) (Nat.le_of_ble_eq_true rfl) dX5_give_36 rfl (fun r S1 hp => ?_)
  subst hp
  refine r_goto (t := 63) C dX5_give_39 (by decide) ?_
  obtain ⟨T, hT⟩ : ∃ T, T = (pGk S a row (pOut S rw_ L R n nx rr 0) (pOut S rw_ L R n nx rr 1) nx 24) := ⟨_, rfl⟩
  rw [← hT]
  have hkT : sK T a = 5 := by rw [hT, sK_pGk]; exact hk
  have hcvT : fR T 505 a = some cv := by rw [hT, fR_pGk]; exact hcv
  have hwT : fR T 506 a = some w := by rw [hT, fR_pGk]; exact hw
  have hoiT : fR T 507 a = some oi := by rw [hT, fR_pGk]; exact hoi
  have hioT : isI T oi 4 := by rw [hT, isI_pGk]; exact hio
  have hrowT : isI T row 48 := by rw [hT, isI_pGk]; exact hrow
  have hcT : fI T 2 a = fI S 2 a := by rw [hT]; exact fI_pGk (by decide) (by decide)
  have hvT : vC T cv t rr 48000 := by rw [hT]; exact vC_pGk hvc
  have hfT : fC T w L R n := by rw [hT]; exact fC_pGk hfc
  have hnT : fJ T 512 a = lN (nx + 24) := by rw [hT]; exact fJ_pGks
  refine r_aload_n (i := 0) (n := 64) C dX5_give_63 rfl rfl rfl ?_
  refine gX5_20 (n := 67) C hkT hoiT dX5_give_64 rfl ?_
  refine r_iload_n (i := 2) (n := 68) C dX5_give_67 rfl rfl rfl ?_
  refine r_iload_n (i := 3) (n := 69) C dX5_give_68 rfl rfl rfl ?_
  refine r_if_eqF (n := 72) (t := 77) C (by decide) dX5_give_69 (by decide) rfl ?_
  refine r_bipush (v := 24) (n := 74) C dX5_give_72 rfl rfl ?_
  refine r_goto (t := 78) C dX5_give_74 (by decide) ?_
  refine q_iast (n := 79) C (sl) (by first | with_reducible assumption | (simp only [sK_uI, sK_uJ, sK_uR, sK_wI, sK_wR, sK_wD, sK_wJ, sK_wIs, aN_uI, aN_uJ, aN_uR, aN_wI, aN_wR, aN_wD, aN_wJ, aN_wIs, fR_uI, fR_uJ, fR_wI, fR_wR, fR_wD, fR_wJ, fR_wIs, isI_uI, isI_uJ, isI_wI, isI_wR, isI_wD, isI_wJ, isI_wIs, isC_uI, isC_uJ, isC_wI, isC_wR, isC_wD, isC_wJ, isC_wIs, isG_uI, isG_uJ, isG_wI, isG_wR, isG_wD, isG_wJ, isG_wIs, isZ_uI, isZ_uJ, isZ_wI, isZ_wR, isZ_wD, isZ_wJ, isZ_wIs, isD_uI, isD_uJ, isD_wI, isD_wR, isD_wD, isD_wJ, isD_wIs, isL_uI, isL_uJ, isL_wI, isL_wR, isL_wD, isL_wJ, isL_wIs]; with_reducible assumption)) rfl (by omega) dX5_give_78 rfl ?_
  refine r_aload_n (i := 0) (n := 80) C dX5_give_79 rfl rfl rfl ?_
  refine gX5_57 (n := 83) C (by first | with_reducible assumption | (simp only [sK_uI, sK_uJ, sK_uR, sK_wI, sK_wR, sK_wD, sK_wJ, sK_wIs, aN_uI, aN_uJ, aN_uR, aN_wI, aN_wR, aN_wD, aN_wJ, aN_wIs, fR_uI, fR_uJ, fR_wI, fR_wR, fR_wD, fR_wJ, fR_wIs, isI_uI, isI_uJ, isI_wI, isI_wR, isI_wD, isI_wJ, isI_wIs, isC_uI, isC_uJ, isC_wI, isC_wR, isC_wD, isC_wJ, isC_wIs, isG_uI, isG_uJ, isG_wI, isG_wR, isG_wD, isG_wJ, isG_wIs, isZ_uI, isZ_uJ, isZ_wI, isZ_wR, isZ_wD, isZ_wJ, isZ_wIs, isD_uI, isD_uJ, isD_wI, isD_wR, isD_wD, isD_wJ, isD_wIs, isL_uI, isL_uJ, isL_wI, isL_wR, isL_wD, isL_wJ, isL_wIs]; with_reducible assumption)) dX5_give_80 rfl ?_
  refine r_iconst (v := 3) (n := 84) C dX5_give_83 rfl rfl ?_
  refine r_icmp_neT (t := 99) C (fun q => absurd ((hcT.symm.trans q).symm.trans hcd) (by decide)) dX5_give_84 (by decide) ?_
  refine r_aload_n (i := 0) (n := 100) C dX5_give_99 rfl rfl rfl ?_
  refine r_aload_n (i := 1) (n := 101) C dX5_give_100 rfl rfl rfl ?_
  refine kX5_110 (n := 104) C (c_sumSq hst (wI T oi sl 24) row (by simp only [isI_uI, isI_wI]; exact hrowT)) (by decide) (by decide) (Nat.le_of_ble_eq_true rfl) dX5_give_101 rfl (fun r S1 hp => ?_)
  obtain ⟨hS9, hr9⟩ := hp
  subst S1
  subst r
  refine sX5_44 (n := 107) C (by first | with_reducible assumption | (simp only [sK_uI, sK_uJ, sK_uR, sK_wI, sK_wR, sK_wD, sK_wJ, sK_wIs, aN_uI, aN_uJ, aN_uR, aN_wI, aN_wR, aN_wD, aN_wJ, aN_wIs, fR_uI, fR_uJ, fR_wI, fR_wR, fR_wD, fR_wJ, fR_wIs, isI_uI, isI_uJ, isI_wI, isI_wR, isI_wD, isI_wJ, isI_wIs, isC_uI, isC_uJ, isC_wI, isC_wR, isC_wD, isC_wJ, isC_wIs, isG_uI, isG_uJ, isG_wI, isG_wR, isG_wD, isG_wJ, isG_wIs, isZ_uI, isZ_uJ, isZ_wI, isZ_wR, isZ_wD, isZ_wJ, isZ_wIs, isD_uI, isD_uJ, isD_wI, isD_wR, isD_wD, isD_wJ, isD_wIs, isL_uI, isL_uJ, isL_wI, isL_wR, isL_wD, isL_wJ, isL_wIs]; with_reducible assumption)) dX5_give_104 rfl ?_
  refine t_v C dX5_give_107 (by decide) ?_
  subst hT
  rfl
set_option maxRecDepth 100000 in
set_option maxHeartbeats 1000000 in
theorem c_give_f {l : Launch} {G : GG} {b : Nat} (hst : l.stackTraces = false) (S : Sw) (a : Nat) (hk : sK S a = 5) (cv t rr : Nat) (hcv : fR S 505 a = some cv) (hvc : vC S cv t rr 48000) (hr : rtN rr) (w L R n : Nat) (hw : fR S 506 a = some w) (hfc : fC S w L R n) (hn : n < 2 ^ 20) (nx : Nat) (hnx : fJ S 512 a = lN nx) (hnx2 : nx < 2 ^ 19) (hnx3 : nx + 24 < 2 ^ 19) (row rw_ : Nat) (hrow : isI S row 48) (htc : tC S t rw_) (h1 : L ≠ row) (h2 : R ≠ row) (h3 : rw_ ≠ row) (oi sl : Nat) (hoi : fR S 507 a = some oi) (hio : isI S oi 4) (hsl : sl < 4) (hcd : fI S 2 a = 1) (hbk : ¬ (if rr = 48000 then nx + 24 * 1 - 1 else (nx + 24 * 1 - 1) * rr / 48000 + 8) < n) : Ct l G b yX5_give cX5_give 4 none rmX5_give mV [.ref a, .ref row, .int (nI sl)] S (fun _ S' => S' = sqd (wI (uI (uI (uI (wIs S row (pw (ilv (pfd (fI S 510 a)) (pfd (fI S 511 a))) (aI S row) 48)) 510 a 0) 511 a 0) 3 a (fI S 3 a + 1)) oi sl 0) a row) := by
  refine Ct.of2 pnX5 (own := RX5) rfl (Nat.le_of_ble_eq_true rfl) hst ?_
  intro p e s m args below meth c C hname
  change J p l e rmX5_give s m args below meth c 4 G b _ 0 [(0, .ref a), (1, .ref row), (2, .int (nI sl))] [] S 0 0
  refine r_aload_n (i := 0) (n := 1) C dX5_give_0 rfl rfl rfl ?_
  refine gX5_57 (n := 4) C (by first | with_reducible assumption | (simp only [sK_uI, sK_uJ, sK_uR, sK_wI, sK_wR, sK_wD, sK_wJ, sK_wIs, aN_uI, aN_uJ, aN_uR, aN_wI, aN_wR, aN_wD, aN_wJ, aN_wIs, fR_uI, fR_uJ, fR_wI, fR_wR, fR_wD, fR_wJ, fR_wIs, isI_uI, isI_uJ, isI_wI, isI_wR, isI_wD, isI_wJ, isI_wIs, isC_uI, isC_uJ, isC_wI, isC_wR, isC_wD, isC_wJ, isC_wIs, isG_uI, isG_uJ, isG_wI, isG_wR, isG_wD, isG_wJ, isG_wIs, isZ_uI, isZ_uJ, isZ_wI, isZ_wR, isZ_wD, isZ_wJ, isZ_wIs, isD_uI, isD_uJ, isD_wI, isD_wR, isD_wD, isD_wJ, isD_wIs, isL_uI, isL_uJ, isL_wI, isL_wR, isL_wD, isL_wJ, isL_wIs]; with_reducible assumption)) dX5_give_1 rfl ?_
  refine r_iconst (v := 3) (n := 5) C dX5_give_4 rfl rfl ?_
  refine r_icmp_eqF (n := 8) (t := 24) C (by rw [hcd]; decide) dX5_give_5 (by decide) rfl ?_
  refine r_aload_n (i := 0) (n := 9) C dX5_give_8 rfl rfl rfl ?_
  refine gX5_57 (n := 12) C (by first | with_reducible assumption | (simp only [sK_uI, sK_uJ, sK_uR, sK_wI, sK_wR, sK_wD, sK_wJ, sK_wIs, aN_uI, aN_uJ, aN_uR, aN_wI, aN_wR, aN_wD, aN_wJ, aN_wIs, fR_uI, fR_uJ, fR_wI, fR_wR, fR_wD, fR_wJ, fR_wIs, isI_uI, isI_uJ, isI_wI, isI_wR, isI_wD, isI_wJ, isI_wIs, isC_uI, isC_uJ, isC_wI, isC_wR, isC_wD, isC_wJ, isC_wIs, isG_uI, isG_uJ, isG_wI, isG_wR, isG_wD, isG_wJ, isG_wIs, isZ_uI, isZ_uJ, isZ_wI, isZ_wR, isZ_wD, isZ_wJ, isZ_wIs, isD_uI, isD_uJ, isD_wI, isD_wR, isD_wD, isD_wJ, isD_wIs, isL_uI, isL_uJ, isL_wI, isL_wR, isL_wD, isL_wJ, isL_wIs]; with_reducible assumption)) dX5_give_9 rfl ?_
  refine r_iconst (v := 1) (n := 13) C dX5_give_12 rfl rfl ?_
  refine r_icmp_neF (n := 16) (t := 28) C hcd dX5_give_13 (by decide) rfl ?_
  refine r_aload_n (i := 0) (n := 17) C dX5_give_16 rfl rfl rfl ?_
  refine r_iconst (v := 1) (n := 18) C dX5_give_17 rfl rfl ?_
  refine kX5_90 (n := 21) C (c_isWrittenFor hst S a hk cv t rr hcv hvc hr w L R n hw hfc hn nx hnx hnx2 1 (by omega) (by omega)) hk (by decide) (by decide) (Nat.le_of_ble_eq_true rfl) dX5_give_18 rfl (fun r S1 hp => ?_)
  obtain ⟨hS9, hr9⟩ := hp
  subst S1
  subst r
  rw [if_neg hbk]
  refine r_if_eqT (t := 28) C rfl dX5_give_21 (by decide) ?_
  refine r_iconst (v := 0) (n := 29) C dX5_give_28 rfl rfl ?_
  refine r_istore_n (i := 3) (n := 30) C dX5_give_29 rfl (by decide) rfl rfl ?_
  refine r_iload_n (i := 3) (n := 31) C dX5_give_30 rfl rfl rfl ?_
  refine r_if_eqT (t := 42) C rfl dX5_give_31 (by decide) ?_
  refine r_aload_n (i := 0) (n := 43) C dX5_give_42 rfl rfl rfl ?_
  refine gX5_57 (n := 46) C (by first | with_reducible assumption | (simp only [sK_uI, sK_uJ, sK_uR, sK_wI, sK_wR, sK_wD, sK_wJ, sK_wIs, aN_uI, aN_uJ, aN_uR, aN_wI, aN_wR, aN_wD, aN_wJ, aN_wIs, fR_uI, fR_uJ, fR_wI, fR_wR, fR_wD, fR_wJ, fR_wIs, isI_uI, isI_uJ, isI_wI, isI_wR, isI_wD, isI_wJ, isI_wIs, isC_uI, isC_uJ, isC_wI, isC_wR, isC_wD, isC_wJ, isC_wIs, isG_uI, isG_uJ, isG_wI, isG_wR, isG_wD, isG_wJ, isG_wIs, isZ_uI, isZ_uJ, isZ_wI, isZ_wR, isZ_wD, isZ_wJ, isZ_wIs, isD_uI, isD_uJ, isD_wI, isD_wR, isD_wD, isD_wJ, isD_wIs, isL_uI, isL_uJ, isL_wI, isL_wR, isL_wD, isL_wJ, isL_wIs]; with_reducible assumption)) dX5_give_43 rfl ?_
  refine r_iconst (v := 1) (n := 47) C dX5_give_46 rfl rfl ?_
  refine r_icmp_neF (n := 50) (t := 58) C hcd dX5_give_47 (by decide) rfl ?_
  refine r_aload_n (i := 0) (n := 51) C dX5_give_50 rfl rfl rfl ?_
  refine r_aload_n (i := 1) (n := 52) C dX5_give_51 rfl rfl rfl ?_
  refine kX5_98 (n := 55) C (c_giveFade hst S a hk row hrow) hk (by decide) (by decide) (Nat.le_of_ble_eq_true rfl) dX5_give_52 rfl (fun r S1 hp => ?_)
  subst hp
  refine r_goto (t := 63) C dX5_give_55 (by decide) ?_
  obtain ⟨T, hT⟩ : ∃ T, T = (uI (uI (uI (wIs S row (pw (ilv (pfd (fI S 510 a)) (pfd (fI S 511 a))) (aI S row) 48)) 510 a 0) 511 a 0) 3 a (fI S 3 a + 1)) := ⟨_, rfl⟩
  rw [← hT]
  have hkT : sK T a = 5 := by rw [hT]; exact hk
  have hcvT : fR T 505 a = some cv := by rw [hT]; exact hcv
  have hwT : fR T 506 a = some w := by rw [hT]; exact hw
  have hoiT : fR T 507 a = some oi := by rw [hT]; exact hoi
  have hioT : isI T oi 4 := by rw [hT]; exact hio
  have hrowT : isI T row 48 := by rw [hT]; exact hrow
  have hcT : fI T 2 a = fI S 2 a := by rw [hT]; exact (uI_fn (by decide)).trans ((uI_fn (by decide)).trans (uI_fn (by decide)))
  refine r_aload_n (i := 0) (n := 64) C dX5_give_63 rfl rfl rfl ?_
  refine gX5_20 (n := 67) C hkT hoiT dX5_give_64 rfl ?_
  refine r_iload_n (i := 2) (n := 68) C dX5_give_67 rfl rfl rfl ?_
  refine r_iload_n (i := 3) (n := 69) C dX5_give_68 rfl rfl rfl ?_
  refine r_if_eqT (t := 77) C rfl dX5_give_69 (by decide) ?_
  refine r_iconst (v := 0) (n := 78) C dX5_give_77 rfl rfl ?_
  refine q_iast (n := 79) C (sl) (by first | with_reducible assumption | (simp only [sK_uI, sK_uJ, sK_uR, sK_wI, sK_wR, sK_wD, sK_wJ, sK_wIs, aN_uI, aN_uJ, aN_uR, aN_wI, aN_wR, aN_wD, aN_wJ, aN_wIs, fR_uI, fR_uJ, fR_wI, fR_wR, fR_wD, fR_wJ, fR_wIs, isI_uI, isI_uJ, isI_wI, isI_wR, isI_wD, isI_wJ, isI_wIs, isC_uI, isC_uJ, isC_wI, isC_wR, isC_wD, isC_wJ, isC_wIs, isG_uI, isG_uJ, isG_wI, isG_wR, isG_wD, isG_wJ, isG_wIs, isZ_uI, isZ_uJ, isZ_wI, isZ_wR, isZ_wD, isZ_wJ, isZ_wIs, isD_uI, isD_uJ, isD_wI, isD_wR, isD_wD, isD_wJ, isD_wIs, isL_uI, isL_uJ, isL_wI, isL_wR, isL_wD, isL_wJ, isL_wIs]; with_reducible assumption)) rfl (by omega) dX5_give_78 rfl ?_
  refine r_aload_n (i := 0) (n := 80) C dX5_give_79 rfl rfl rfl ?_
  refine gX5_57 (n := 83) C (by first | with_reducible assumption | (simp only [sK_uI, sK_uJ, sK_uR, sK_wI, sK_wR, sK_wD, sK_wJ, sK_wIs, aN_uI, aN_uJ, aN_uR, aN_wI, aN_wR, aN_wD, aN_wJ, aN_wIs, fR_uI, fR_uJ, fR_wI, fR_wR, fR_wD, fR_wJ, fR_wIs, isI_uI, isI_uJ, isI_wI, isI_wR, isI_wD, isI_wJ, isI_wIs, isC_uI, isC_uJ, isC_wI, isC_wR, isC_wD, isC_wJ, isC_wIs, isG_uI, isG_uJ, isG_wI, isG_wR, isG_wD, isG_wJ, isG_wIs, isZ_uI, isZ_uJ, isZ_wI, isZ_wR, isZ_wD, isZ_wJ, isZ_wIs, isD_uI, isD_uJ, isD_wI, isD_wR, isD_wD, isD_wJ, isD_wIs, isL_uI, isL_uJ, isL_wI, isL_wR, isL_wD, isL_wJ, isL_wIs]; with_reducible assumption)) dX5_give_80 rfl ?_
  refine r_iconst (v := 3) (n := 84) C dX5_give_83 rfl rfl ?_
  refine r_icmp_neT (t := 99) C (fun q => absurd ((hcT.symm.trans q).symm.trans hcd) (by decide)) dX5_give_84 (by decide) ?_
  refine r_aload_n (i := 0) (n := 100) C dX5_give_99 rfl rfl rfl ?_
  refine r_aload_n (i := 1) (n := 101) C dX5_give_100 rfl rfl rfl ?_
  refine kX5_110 (n := 104) C (c_sumSq hst (wI T oi sl 0) row (by simp only [isI_uI, isI_wI]; exact hrowT)) (by decide) (by decide) (Nat.le_of_ble_eq_true rfl) dX5_give_101 rfl (fun r S1 hp => ?_)
  obtain ⟨hS9, hr9⟩ := hp
  subst S1
  subst r
  refine sX5_44 (n := 107) C (by first | with_reducible assumption | (simp only [sK_uI, sK_uJ, sK_uR, sK_wI, sK_wR, sK_wD, sK_wJ, sK_wIs, aN_uI, aN_uJ, aN_uR, aN_wI, aN_wR, aN_wD, aN_wJ, aN_wIs, fR_uI, fR_uJ, fR_wI, fR_wR, fR_wD, fR_wJ, fR_wIs, isI_uI, isI_uJ, isI_wI, isI_wR, isI_wD, isI_wJ, isI_wIs, isC_uI, isC_uJ, isC_wI, isC_wR, isC_wD, isC_wJ, isC_wIs, isG_uI, isG_uJ, isG_wI, isG_wR, isG_wD, isG_wJ, isG_wIs, isZ_uI, isZ_uJ, isZ_wI, isZ_wR, isZ_wD, isZ_wJ, isZ_wIs, isD_uI, isD_uJ, isD_wI, isD_wR, isD_wD, isD_wJ, isD_wIs, isL_uI, isL_uJ, isL_wI, isL_wR, isL_wD, isL_wJ, isL_wIs]; with_reducible assumption)) dX5_give_104 rfl ?_
  refine t_v C dX5_give_107 (by decide) ?_
  subst hT
  rfl
set_option maxRecDepth 100000 in
set_option maxHeartbeats 1000000 in
theorem c_give_n {l : Launch} {G : GG} {b : Nat} (hst : l.stackTraces = false) (S : Sw) (a : Nat) (hk : sK S a = 5) (oi sl : Nat) (hoi : fR S 507 a = some oi) (hio : isI S oi 4) (hsl : sl < 4) (row : Nat) (hrow : isI S row 48) (hc1 : ¬ fI S 2 a = 1) (hc3 : ¬ fI S 2 a = 3) : Ct l G b yX5_give cX5_give 4 none rmX5_give mV [.ref a, .ref row, .int (nI sl)] S (fun _ S' => S' = sqd (wI (wIs S row (pw (fun _ => 0) (aI S row) 48)) oi sl 0) a row) := by
  refine Ct.of2 pnX5 (own := RX5) rfl (Nat.le_of_ble_eq_true rfl) hst ?_
  intro p e s m args below meth c C hname
  change J p l e rmX5_give s m args below meth c 4 G b _ 0 [(0, .ref a), (1, .ref row), (2, .int (nI sl))] [] S 0 0
  refine r_aload_n (i := 0) (n := 1) C dX5_give_0 rfl rfl rfl ?_
  refine gX5_57 (n := 4) C (by first | with_reducible assumption | (simp only [sK_uI, sK_uJ, sK_uR, sK_wI, sK_wR, sK_wD, sK_wJ, sK_wIs, aN_uI, aN_uJ, aN_uR, aN_wI, aN_wR, aN_wD, aN_wJ, aN_wIs, fR_uI, fR_uJ, fR_wI, fR_wR, fR_wD, fR_wJ, fR_wIs, isI_uI, isI_uJ, isI_wI, isI_wR, isI_wD, isI_wJ, isI_wIs, isC_uI, isC_uJ, isC_wI, isC_wR, isC_wD, isC_wJ, isC_wIs, isG_uI, isG_uJ, isG_wI, isG_wR, isG_wD, isG_wJ, isG_wIs, isZ_uI, isZ_uJ, isZ_wI, isZ_wR, isZ_wD, isZ_wJ, isZ_wIs, isD_uI, isD_uJ, isD_wI, isD_wR, isD_wD, isD_wJ, isD_wIs, isL_uI, isL_uJ, isL_wI, isL_wR, isL_wD, isL_wJ, isL_wIs]; with_reducible assumption)) dX5_give_1 rfl ?_
  refine r_iconst (v := 3) (n := 5) C dX5_give_4 rfl rfl ?_
  refine r_icmp_eqF (n := 8) (t := 24) C hc3 dX5_give_5 (by decide) rfl ?_
  refine r_aload_n (i := 0) (n := 9) C dX5_give_8 rfl rfl rfl ?_
  refine gX5_57 (n := 12) C (by first | with_reducible assumption | (simp only [sK_uI, sK_uJ, sK_uR, sK_wI, sK_wR, sK_wD, sK_wJ, sK_wIs, aN_uI, aN_uJ, aN_uR, aN_wI, aN_wR, aN_wD, aN_wJ, aN_wIs, fR_uI, fR_uJ, fR_wI, fR_wR, fR_wD, fR_wJ, fR_wIs, isI_uI, isI_uJ, isI_wI, isI_wR, isI_wD, isI_wJ, isI_wIs, isC_uI, isC_uJ, isC_wI, isC_wR, isC_wD, isC_wJ, isC_wIs, isG_uI, isG_uJ, isG_wI, isG_wR, isG_wD, isG_wJ, isG_wIs, isZ_uI, isZ_uJ, isZ_wI, isZ_wR, isZ_wD, isZ_wJ, isZ_wIs, isD_uI, isD_uJ, isD_wI, isD_wR, isD_wD, isD_wJ, isD_wIs, isL_uI, isL_uJ, isL_wI, isL_wR, isL_wD, isL_wJ, isL_wIs]; with_reducible assumption)) dX5_give_9 rfl ?_
  refine r_iconst (v := 1) (n := 13) C dX5_give_12 rfl rfl ?_
  refine r_icmp_neT (t := 28) C hc1 dX5_give_13 (by decide) ?_
  refine r_iconst (v := 0) (n := 29) C dX5_give_28 rfl rfl ?_
  refine r_istore_n (i := 3) (n := 30) C dX5_give_29 rfl (by decide) rfl rfl ?_
  refine r_iload_n (i := 3) (n := 31) C dX5_give_30 rfl rfl rfl ?_
  refine r_if_eqT (t := 42) C rfl dX5_give_31 (by decide) ?_
  refine r_aload_n (i := 0) (n := 43) C dX5_give_42 rfl rfl rfl ?_
  refine gX5_57 (n := 46) C (by first | with_reducible assumption | (simp only [sK_uI, sK_uJ, sK_uR, sK_wI, sK_wR, sK_wD, sK_wJ, sK_wIs, aN_uI, aN_uJ, aN_uR, aN_wI, aN_wR, aN_wD, aN_wJ, aN_wIs, fR_uI, fR_uJ, fR_wI, fR_wR, fR_wD, fR_wJ, fR_wIs, isI_uI, isI_uJ, isI_wI, isI_wR, isI_wD, isI_wJ, isI_wIs, isC_uI, isC_uJ, isC_wI, isC_wR, isC_wD, isC_wJ, isC_wIs, isG_uI, isG_uJ, isG_wI, isG_wR, isG_wD, isG_wJ, isG_wIs, isZ_uI, isZ_uJ, isZ_wI, isZ_wR, isZ_wD, isZ_wJ, isZ_wIs, isD_uI, isD_uJ, isD_wI, isD_wR, isD_wD, isD_wJ, isD_wIs, isL_uI, isL_uJ, isL_wI, isL_wR, isL_wD, isL_wJ, isL_wIs]; with_reducible assumption)) dX5_give_43 rfl ?_
  refine r_iconst (v := 1) (n := 47) C dX5_give_46 rfl rfl ?_
  refine r_icmp_neT (t := 58) C hc1 dX5_give_47 (by decide) ?_
  refine r_aload_n (i := 1) (n := 59) C dX5_give_58 rfl rfl rfl ?_
  refine r_iconst (v := 0) (n := 60) C dX5_give_59 rfl rfl ?_
  refine kX5_101 (n := 63) C (c_fill hst S row 48 hrow 0) (by decide) (by decide) (Nat.le_of_ble_eq_true rfl) dX5_give_60 rfl (fun r S1 hp => ?_)
  subst hp
  obtain ⟨T, hT⟩ : ∃ T, T = (wIs S row (pw (fun _ => 0) (aI S row) 48)) := ⟨_, rfl⟩
  rw [← hT]
  have hkT : sK T a = 5 := by rw [hT]; exact hk
  have hoiT : fR T 507 a = some oi := by rw [hT]; exact hoi
  have hioT : isI T oi 4 := by rw [hT]; exact hio
  have hrowT : isI T row 48 := by rw [hT]; exact hrow
  have hcT : fI T 2 a = fI S 2 a := by rw [hT]; exact rfl
  refine r_aload_n (i := 0) (n := 64) C dX5_give_63 rfl rfl rfl ?_
  refine gX5_20 (n := 67) C hkT hoiT dX5_give_64 rfl ?_
  refine r_iload_n (i := 2) (n := 68) C dX5_give_67 rfl rfl rfl ?_
  refine r_iload_n (i := 3) (n := 69) C dX5_give_68 rfl rfl rfl ?_
  refine r_if_eqT (t := 77) C rfl dX5_give_69 (by decide) ?_
  refine r_iconst (v := 0) (n := 78) C dX5_give_77 rfl rfl ?_
  refine q_iast (n := 79) C (sl) (by first | with_reducible assumption | (simp only [sK_uI, sK_uJ, sK_uR, sK_wI, sK_wR, sK_wD, sK_wJ, sK_wIs, aN_uI, aN_uJ, aN_uR, aN_wI, aN_wR, aN_wD, aN_wJ, aN_wIs, fR_uI, fR_uJ, fR_wI, fR_wR, fR_wD, fR_wJ, fR_wIs, isI_uI, isI_uJ, isI_wI, isI_wR, isI_wD, isI_wJ, isI_wIs, isC_uI, isC_uJ, isC_wI, isC_wR, isC_wD, isC_wJ, isC_wIs, isG_uI, isG_uJ, isG_wI, isG_wR, isG_wD, isG_wJ, isG_wIs, isZ_uI, isZ_uJ, isZ_wI, isZ_wR, isZ_wD, isZ_wJ, isZ_wIs, isD_uI, isD_uJ, isD_wI, isD_wR, isD_wD, isD_wJ, isD_wIs, isL_uI, isL_uJ, isL_wI, isL_wR, isL_wD, isL_wJ, isL_wIs]; with_reducible assumption)) rfl (by omega) dX5_give_78 rfl ?_
  refine r_aload_n (i := 0) (n := 80) C dX5_give_79 rfl rfl rfl ?_
  refine gX5_57 (n := 83) C (by first | with_reducible assumption | (simp only [sK_uI, sK_uJ, sK_uR, sK_wI, sK_wR, sK_wD, sK_wJ, sK_wIs, aN_uI, aN_uJ, aN_uR, aN_wI, aN_wR, aN_wD, aN_wJ, aN_wIs, fR_uI, fR_uJ, fR_wI, fR_wR, fR_wD, fR_wJ, fR_wIs, isI_uI, isI_uJ, isI_wI, isI_wR, isI_wD, isI_wJ, isI_wIs, isC_uI, isC_uJ, isC_wI, isC_wR, isC_wD, isC_wJ, isC_wIs, isG_uI, isG_uJ, isG_wI, isG_wR, isG_wD, isG_wJ, isG_wIs, isZ_uI, isZ_uJ, isZ_wI, isZ_wR, isZ_wD, isZ_wJ, isZ_wIs, isD_uI, isD_uJ, isD_wI, isD_wR, isD_wD, isD_wJ, isD_wIs, isL_uI, isL_uJ, isL_wI, isL_wR, isL_wD, isL_wJ, isL_wIs]; with_reducible assumption)) dX5_give_80 rfl ?_
  refine r_iconst (v := 3) (n := 84) C dX5_give_83 rfl rfl ?_
  refine r_icmp_neT (t := 99) C (fun q => hc3 (hcT.symm.trans q)) dX5_give_84 (by decide) ?_
  refine r_aload_n (i := 0) (n := 100) C dX5_give_99 rfl rfl rfl ?_
  refine r_aload_n (i := 1) (n := 101) C dX5_give_100 rfl rfl rfl ?_
  refine kX5_110 (n := 104) C (c_sumSq hst (wI T oi sl 0) row (by simp only [isI_uI, isI_wI]; exact hrowT)) (by decide) (by decide) (Nat.le_of_ble_eq_true rfl) dX5_give_101 rfl (fun r S1 hp => ?_)
  obtain ⟨hS9, hr9⟩ := hp
  subst S1
  subst r
  refine sX5_44 (n := 107) C (by first | with_reducible assumption | (simp only [sK_uI, sK_uJ, sK_uR, sK_wI, sK_wR, sK_wD, sK_wJ, sK_wIs, aN_uI, aN_uJ, aN_uR, aN_wI, aN_wR, aN_wD, aN_wJ, aN_wIs, fR_uI, fR_uJ, fR_wI, fR_wR, fR_wD, fR_wJ, fR_wIs, isI_uI, isI_uJ, isI_wI, isI_wR, isI_wD, isI_wJ, isI_wIs, isC_uI, isC_uJ, isC_wI, isC_wR, isC_wD, isC_wJ, isC_wIs, isG_uI, isG_uJ, isG_wI, isG_wR, isG_wD, isG_wJ, isG_wIs, isZ_uI, isZ_uJ, isZ_wI, isZ_wR, isZ_wD, isZ_wJ, isZ_wIs, isD_uI, isD_uJ, isD_wI, isD_wR, isD_wD, isD_wJ, isD_wIs, isL_uI, isL_uJ, isL_wI, isL_wR, isL_wD, isL_wJ, isL_wIs]; with_reducible assumption)) dX5_give_104 rfl ?_
  refine t_v C dX5_give_107 (by decide) ?_
  subst hT
  rfl
