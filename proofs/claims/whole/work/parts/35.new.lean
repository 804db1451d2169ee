theorem nO_I {S : Sw} {x k f : Nat} : fI (nO S x k) f x = 0 := if_pos rfl
theorem nO_J {S : Sw} {x k f : Nat} : fJ (nO S x k) f x = 0 := if_pos rfl
theorem nO_R {S : Sw} {x k f : Nat} : fR (nO S x k) f x = none := if_pos rfl
theorem nO_k {S : Sw} {x k : Nat} : sK (nO S x k) x = k := va_up_self _ _ _
theorem nA_k {S : Sw} {x k N : Nat} : sK (nA S x k N) x = k := va_up_self _ _ _
theorem nA_n {S : Sw} {x k N : Nat} : aN (nA S x k N) x = N := va_up_self _ _ _
theorem nA_I {S : Sw} {x k N : Nat} : aI (nA S x k N) x = fun _ => 0 := funext (fun _ => if_pos rfl)
theorem nA_J {S : Sw} {x k N : Nat} : aJ (nA S x k N) x = fun _ => 0 := funext (fun _ => if_pos rfl)
theorem nA_D {S : Sw} {x k N : Nat} : aD (nA S x k N) x = fun _ => FP.dconst0 := funext (fun _ => if_pos rfl)
theorem nA_R {S : Sw} {x k N : Nat} : aR (nA S x k N) x = fun _ => none := funext (fun _ => if_pos rfl)
def smA (S S' : Sw) (z : Nat) : Prop := sK S' z = sK S z ∧ aN S' z = aN S z ∧ (∀ f, fI S' f z = fI S f z) ∧ (∀ f, fJ S' f z = fJ S f z) ∧ (∀ f, fR S' f z = fR S f z) ∧ (∀ i, aI S' z i = aI S z i) ∧ (∀ i, aR S' z i = aR S z i) ∧ (∀ i, aD S' z i = aD S z i) ∧ (∀ i, aJ S' z i = aJ S z i)
theorem smA.rf {S : Sw} {z : Nat} : smA S S z := ⟨rfl, rfl, fun _ => rfl, fun _ => rfl, fun _ => rfl, fun _ => rfl, fun _ => rfl, fun _ => rfl, fun _ => rfl⟩
theorem smA.tr {S T U : Sw} {z : Nat} (h : smA S T z) (g : smA T U z) : smA S U z := ⟨g.1.trans h.1, g.2.1.trans h.2.1, fun f => (g.2.2.1 f).trans (h.2.2.1 f), fun f => (g.2.2.2.1 f).trans (h.2.2.2.1 f), fun f => (g.2.2.2.2.1 f).trans (h.2.2.2.2.1 f), fun i => (g.2.2.2.2.2.1 i).trans (h.2.2.2.2.2.1 i), fun i => (g.2.2.2.2.2.2.1 i).trans (h.2.2.2.2.2.2.1 i), fun i => (g.2.2.2.2.2.2.2.1 i).trans (h.2.2.2.2.2.2.2.1 i), fun i => (g.2.2.2.2.2.2.2.2 i).trans (h.2.2.2.2.2.2.2.2 i)⟩
theorem smA.uI {S T : Sw} {z f a : Nat} {v : Int32} (h : smA S T z) (hz : z ≠ a) : smA S (uI T f a v) z := h.tr ⟨rfl, rfl, fun _ => if_neg (fun q => hz q.2), fun _ => rfl, fun _ => rfl, fun _ => rfl, fun _ => rfl, fun _ => rfl, fun _ => rfl⟩
theorem smA.uJ {S T : Sw} {z f a : Nat} {v : Int64} (h : smA S T z) (hz : z ≠ a) : smA S (uJ T f a v) z := h.tr ⟨rfl, rfl, fun _ => rfl, fun _ => if_neg (fun q => hz q.2), fun _ => rfl, fun _ => rfl, fun _ => rfl, fun _ => rfl, fun _ => rfl⟩
theorem smA.uR {S T : Sw} {z f a : Nat} {v : Option Nat} (h : smA S T z) (hz : z ≠ a) : smA S (uR T f a v) z := h.tr ⟨rfl, rfl, fun _ => rfl, fun _ => rfl, fun _ => if_neg (fun q => hz q.2), fun _ => rfl, fun _ => rfl, fun _ => rfl, fun _ => rfl⟩
theorem smA.wI {S T : Sw} {z a j : Nat} {v : Int32} (h : smA S T z) (hz : z ≠ a) : smA S (wI T a j v) z := h.tr ⟨rfl, rfl, fun _ => rfl, fun _ => rfl, fun _ => rfl, fun _ => if_neg (fun q => hz q.1), fun _ => rfl, fun _ => rfl, fun _ => rfl⟩
theorem smA.wR {S T : Sw} {z a j : Nat} {v : Option Nat} (h : smA S T z) (hz : z ≠ a) : smA S (wR T a j v) z := h.tr ⟨rfl, rfl, fun _ => rfl, fun _ => rfl, fun _ => rfl, fun _ => rfl, fun _ => if_neg (fun q => hz q.1), fun _ => rfl, fun _ => rfl⟩
theorem smA.nO {S T : Sw} {z a k : Nat} (h : smA S T z) (hz : z ≠ a) : smA S (nO T a k) z := h.tr ⟨va_up_ne _ _ hz, rfl, fun _ => if_neg hz, fun _ => if_neg hz, fun _ => if_neg hz, fun _ => rfl, fun _ => rfl, fun _ => rfl, fun _ => rfl⟩
theorem smA.nA {S T : Sw} {z a k N : Nat} (h : smA S T z) (hz : z ≠ a) : smA S (nA T a k N) z := h.tr ⟨va_up_ne _ _ hz, va_up_ne _ _ hz, fun _ => rfl, fun _ => rfl, fun _ => rfl, fun _ => if_neg hz, fun _ => if_neg hz, fun _ => if_neg hz, fun _ => if_neg hz⟩
theorem isI.sm {S T : Sw} {z N : Nat} (h : smA S T z) (q : isI S z N) : isI T z N := ⟨h.1.trans q.1, h.2.1.trans q.2.1, q.2.2⟩
theorem fC.sm {S T : Sw} {w L R n : Nat} (h : smA S T w) (hL : smA S T L) (hR : smA S T R) (q : fC S w L R n) : fC T w L R n := ⟨h.1.trans q.1, (h.2.2.2.2.1 _).trans q.2.1, (h.2.2.2.2.1 _).trans q.2.2.1, q.2.2.2.1.sm hL, q.2.2.2.2.1.sm hR, (h.2.2.2.1 _).trans q.2.2.2.2.2⟩
theorem vC.sm {S T : Sw} {c t f g : Nat} (h : smA S T c) (q : vC S c t f g) : vC T c t f g := ⟨h.1.trans q.1, (h.2.2.2.2.1 _).trans q.2.1, (h.2.2.2.1 _).trans q.2.2.1, (h.2.2.2.1 _).trans q.2.2.2⟩
theorem tC.sm {S T : Sw} {t r : Nat} (h : smA S T t) (hr : smA S T r) (q : tC S t r) : tC T t r := ⟨h.1.trans q.1, (h.2.2.2.2.1 _).trans q.2.1, q.2.2.sm hr⟩
/-- nothing allocated changes but x, and x keeps its kind -/
def exx (x : Nat) (S S' : Sw) : Prop := (∀ z, z ≠ x → sK S z ≠ 0 → smA S S' z) ∧ sK S' x = sK S x
theorem exx.ne {x z : Nat} {S S' : Sw} (h : exx x S S') (hz : sK S z ≠ 0) : sK S' z ≠ 0 := by
  by_cases e : z = x
  · rw [e, h.2, ← e]; exact hz
  · rw [(h.1 z e hz).1]; exact hz
theorem k_ne {S : Sw} {x y : Nat} (hx : sK S x = 0) (hy : sK S y ≠ 0) : y ≠ x := fun e => hy (e ▸ hx)
section
variable {p : Program} {l : Launch} {e : Env} {R : Room} {s : State} {m : MethodId} {args : Array Value} {below : List Frame} {meth : Method} {c : Code} {cc : ByteArray} {nL : Nat} {own : String} {ret : Option FieldType} {G : GG} {b : Nat} {Q : State → Prop} {pc : Nat} {lv : List (Nat × Value)} {st : List Value} {S : Sw} {cells slots : Nat}
theorem nw_1 (C : Cx p l s m args meth c cc nL own ret G b) {n index : Nat} (w1 : .classLink own index RX1 ∈ TB) (hr : cells + 1 ≤ R.cells ∧ slots + 3 ≤ R.slots) (d : decode cc pc = .ok (.new index, 3)) (hn : pc + 3 = n)
    (kk : ∀ x : Nat, sK S x = 0 → b ≤ x → J p l e R s m args below meth c nL G b Q n lv (.ref x :: st) (nO S x 1) (cells + 1) (slots + 3)) : J p l e R s m args below meth c nL G b Q pc lv st S cells slots :=
  r_new (T := TX1) (Cn := RX1) (ty := tyX1) (ci := 0) (N := 3) (fs := [.null, .long 0, .long 0]) C inb_1 tyX1_ok w1 (mem_tb (mem_tbl 402 (by decide +kernel)) (by decide +kernel)) (mem_tb (mem_tbl 14 (by decide +kernel)) (by decide +kernel)) rfl (fun j hj => by
    have q : j = 0 ∨ j = 1 ∨ j = 2 := by omega
    rcases q with rfl | rfl | rfl <;> rfl) (fun x => by
    rw [ent_1 nO_k]
    simp only [nO_I, nO_J, nO_R] <;> rfl) hr d hn kk
theorem nw_2 (C : Cx p l s m args meth c cc nL own ret G b) {n index : Nat} (w1 : .classLink own index RX2 ∈ TB) (hr : cells + 1 ≤ R.cells ∧ slots + 3 ≤ R.slots) (d : decode cc pc = .ok (.new index, 3)) (hn : pc + 3 = n)
    (kk : ∀ x : Nat, sK S x = 0 → b ≤ x → J p l e R s m args below meth c nL G b Q n lv (.ref x :: st) (nO S x 2) (cells + 1) (slots + 3)) : J p l e R s m args below meth c nL G b Q pc lv st S cells slots :=
  r_new (T := TX2) (Cn := RX2) (ty := tyX2) (ci := 1) (N := 3) (fs := [.null, .null, .long 0]) C inb_2 tyX2_ok w1 (mem_tb (mem_tbl 384 (by decide +kernel)) (by decide +kernel)) (mem_tb (mem_tbl 13 (by decide +kernel)) (by decide +kernel)) rfl (fun j hj => by
    have q : j = 0 ∨ j = 1 ∨ j = 2 := by omega
    rcases q with rfl | rfl | rfl <;> rfl) (fun x => by
    rw [ent_2 nO_k]
    simp only [nO_I, nO_J, nO_R] <;> rfl) hr d hn kk
theorem nw_3 (C : Cx p l s m args meth c cc nL own ret G b) {n index : Nat} (w1 : .classLink own index RX3 ∈ TB) (hr : cells + 1 ≤ R.cells ∧ slots + 4 ≤ R.slots) (d : decode cc pc = .ok (.new index, 3)) (hn : pc + 3 = n)
    (kk : ∀ x : Nat, sK S x = 0 → b ≤ x → J p l e R s m args below meth c nL G b Q n lv (.ref x :: st) (nO S x 3) (cells + 1) (slots + 4)) : J p l e R s m args below meth c nL G b Q pc lv st S cells slots :=
  r_new (T := TX3) (Cn := RX3) (ty := tyX3) (ci := 2) (N := 4) (fs := [.int 0, .int 0, .int 0, .long 0]) C inb_3 tyX3_ok w1 (mem_tb (mem_tbl 47 (by decide +kernel)) (by decide +kernel)) (mem_tb (mem_tbl 4 (by decide +kernel)) (by decide +kernel)) rfl (fun j hj => by
    have q : j = 0 ∨ j = 1 ∨ j = 2 ∨ j = 3 := by omega
    rcases q with rfl | rfl | rfl | rfl <;> rfl) (fun x => by
    rw [ent_3 nO_k]
    simp only [nO_I, nO_J, nO_R] <;> rfl) hr d hn kk
theorem nw_4 (C : Cx p l s m args meth c cc nL own ret G b) {n index : Nat} (w1 : .classLink own index RX4 ∈ TB) (hr : cells + 1 ≤ R.cells ∧ slots + 10 ≤ R.slots) (d : decode cc pc = .ok (.new index, 3)) (hn : pc + 3 = n)
    (kk : ∀ x : Nat, sK S x = 0 → b ≤ x → J p l e R s m args below meth c nL G b Q n lv (.ref x :: st) (nO S x 4) (cells + 1) (slots + 10)) : J p l e R s m args below meth c nL G b Q pc lv st S cells slots :=
  r_new (T := TX4) (Cn := RX4) (ty := tyX4) (ci := 3) (N := 10) (fs := [.int 0, .int 0, .int 0, .int 0, .int 0, .null, .null, .null, .long 0, .long 0]) C inb_4 tyX4_ok w1 (mem_tb (mem_tbl 254 (by decide +kernel)) (by decide +kernel)) (mem_tb (mem_tbl 15 (by decide +kernel)) (by decide +kernel)) rfl (fun j hj => by
    have q : j = 0 ∨ j = 1 ∨ j = 2 ∨ j = 3 ∨ j = 4 ∨ j = 5 ∨ j = 6 ∨ j = 7 ∨ j = 8 ∨ j = 9 := by omega
    rcases q with rfl | rfl | rfl | rfl | rfl | rfl | rfl | rfl | rfl | rfl <;> rfl) (fun x => by
    rw [ent_4 nO_k]
    simp only [nO_I, nO_J, nO_R] <;> rfl) hr d hn kk
theorem nw_5 (C : Cx p l s m args meth c cc nL own ret G b) {n index : Nat} (w1 : .classLink own index RX5 ∈ TB) (hr : cells + 1 ≤ R.cells ∧ slots + 15 ≤ R.slots) (d : decode cc pc = .ok (.new index, 3)) (hn : pc + 3 = n)
    (kk : ∀ x : Nat, sK S x = 0 → b ≤ x → J p l e R s m args below meth c nL G b Q n lv (.ref x :: st) (nO S x 5) (cells + 1) (slots + 15)) : J p l e R s m args below meth c nL G b Q pc lv st S cells slots :=
  r_new (T := TX5) (Cn := RX5) (ty := tyX5) (ci := 4) (N := 15) (fs := [.int 0, .int 0, .int 0, .int 0, .int 0, .null, .null, .null, .int 0, .int 0, .int 0, .int 0, .long 0, .long 0, .long 0]) C inb_5 tyX5_ok w1 (mem_tb (mem_tbl 127 (by decide +kernel)) (by decide +kernel)) (mem_tb (mem_tbl 12 (by decide +kernel)) (by decide +kernel)) rfl (fun j hj => by
    have q : j = 0 ∨ j = 1 ∨ j = 2 ∨ j = 3 ∨ j = 4 ∨ j = 5 ∨ j = 6 ∨ j = 7 ∨ j = 8 ∨ j = 9 ∨ j = 10 ∨ j = 11 ∨ j = 12 ∨ j = 13 ∨ j = 14 := by omega
    rcases q with rfl | rfl | rfl | rfl | rfl | rfl | rfl | rfl | rfl | rfl | rfl | rfl | rfl | rfl | rfl <;> rfl) (fun x => by
    rw [ent_5 nO_k]
    simp only [nO_I, nO_J, nO_R] <;> rfl) hr d hn kk
theorem nw_6 (C : Cx p l s m args meth c cc nL own ret G b) {n index : Nat} (w1 : .classLink own index RX6 ∈ TB) (hr : cells + 1 ≤ R.cells ∧ slots + 1 ≤ R.slots) (d : decode cc pc = .ok (.new index, 3)) (hn : pc + 3 = n)
    (kk : ∀ x : Nat, sK S x = 0 → b ≤ x → J p l e R s m args below meth c nL G b Q n lv (.ref x :: st) (nO S x 6) (cells + 1) (slots + 1)) : J p l e R s m args below meth c nL G b Q pc lv st S cells slots :=
  r_new (T := TX6) (Cn := RX6) (ty := tyX6) (ci := 5) (N := 1) (fs := [.null]) C inb_6 tyX6_ok w1 (mem_tb (mem_tbl 27 (by decide +kernel)) (by decide +kernel)) (mem_tb (mem_tbl 2 (by decide +kernel)) (by decide +kernel)) rfl (fun j hj => by
    have q : j = 0 := by omega
    rcases q with rfl <;> rfl) (fun x => by
    rw [ent_6 nO_k]
    simp only [nO_I, nO_J, nO_R] <;> rfl) hr d hn kk
theorem nw_7 (C : Cx p l s m args meth c cc nL own ret G b) {n index : Nat} (w1 : .classLink own index RX7 ∈ TB) (hr : cells + 1 ≤ R.cells ∧ slots + 11 ≤ R.slots) (d : decode cc pc = .ok (.new index, 3)) (hn : pc + 3 = n)
    (kk : ∀ x : Nat, sK S x = 0 → b ≤ x → J p l e R s m args below meth c nL G b Q n lv (.ref x :: st) (nO S x 7) (cells + 1) (slots + 11)) : J p l e R s m args below meth c nL G b Q pc lv st S cells slots :=
  r_new (T := TX7) (Cn := RX7) (ty := tyX7) (ci := 6) (N := 11) (fs := [.null, .null, .null, .null, .int 0, .int 0, .null, .int 0, .null, .null, .null]) C inb_7 tyX7_ok w1 (mem_tb (mem_tbl 19 (by decide +kernel)) (by decide +kernel)) (mem_tb (mem_tbl 1 (by decide +kernel)) (by decide +kernel)) rfl (fun j hj => by
    have q : j = 0 ∨ j = 1 ∨ j = 2 ∨ j = 3 ∨ j = 4 ∨ j = 5 ∨ j = 6 ∨ j = 7 ∨ j = 8 ∨ j = 9 ∨ j = 10 := by omega
    rcases q with rfl | rfl | rfl | rfl | rfl | rfl | rfl | rfl | rfl | rfl | rfl <;> rfl) (fun x => by
    rw [ent_7 nO_k]
    simp only [nO_I, nO_J, nO_R] <;> rfl) hr d hn kk
theorem nw_8 (C : Cx p l s m args meth c cc nL own ret G b) {n index : Nat} (w1 : .classLink own index RX8 ∈ TB) (hr : cells + 1 ≤ R.cells ∧ slots + 40 ≤ R.slots) (d : decode cc pc = .ok (.new index, 3)) (hn : pc + 3 = n)
    (kk : ∀ x : Nat, sK S x = 0 → b ≤ x → J p l e R s m args below meth c nL G b Q n lv (.ref x :: st) (nO S x 8) (cells + 1) (slots + 40)) : J p l e R s m args below meth c nL G b Q pc lv st S cells slots :=
  r_new (T := TX8) (Cn := RX8) (ty := tyX8) (ci := 7) (N := 40) (fs := [.int 0, .null, .null, .null, .null, .null, .null, .null, .null, .null, .null, .null, .null, .null, .null, .null, .null, .null, .null, .null, .null, .null, .null, .null, .int 0, .null, .null, .null, .null, .null, .null, .null, .int 0, .int 0, .int 0, .int 0, .null, .null, .null, .null]) C inb_8 tyX8_ok w1 (mem_tb (mem_tbl 741 (by decide +kernel)) (by decide +kernel)) (mem_tb (mem_tbl 5 (by decide +kernel)) (by decide +kernel)) rfl (fun j hj => by
    have q : j = 0 ∨ j = 1 ∨ j = 2 ∨ j = 3 ∨ j = 4 ∨ j = 5 ∨ j = 6 ∨ j = 7 ∨ j = 8 ∨ j = 9 ∨ j = 10 ∨ j = 11 ∨ j = 12 ∨ j = 13 ∨ j = 14 ∨ j = 15 ∨ j = 16 ∨ j = 17 ∨ j = 18 ∨ j = 19 ∨ j = 20 ∨ j = 21 ∨ j = 22 ∨ j = 23 ∨ j = 24 ∨ j = 25 ∨ j = 26 ∨ j = 27 ∨ j = 28 ∨ j = 29 ∨ j = 30 ∨ j = 31 ∨ j = 32 ∨ j = 33 ∨ j = 34 ∨ j = 35 ∨ j = 36 ∨ j = 37 ∨ j = 38 ∨ j = 39 := by omega
    rcases q with rfl | rfl | rfl | rfl | rfl | rfl | rfl | rfl | rfl | rfl | rfl | rfl | rfl | rfl | rfl | rfl | rfl | rfl | rfl | rfl | rfl | rfl | rfl | rfl | rfl | rfl | rfl | rfl | rfl | rfl | rfl | rfl | rfl | rfl | rfl | rfl | rfl | rfl | rfl | rfl <;> rfl) (fun x => by
    rw [ent_8 nO_k]
    simp only [nO_I, nO_J, nO_R] <;> rfl) hr d hn kk
theorem na_9 (C : Cx p l s m args meth c cc nL own ret G b) {n N : Nat} {z : Int32} (hz : z = nI N) (hN : N < 2 ^ 25) (hr : cells + 1 ≤ R.cells ∧ slots + N ≤ R.slots) (d : decode cc pc = .ok (.newarray .int, 2)) (hn : pc + 2 = n)
    (kk : ∀ x : Nat, sK S x = 0 → b ≤ x → J p l e R s m args below meth c nL G b Q n lv (.ref x :: st) (nA S x 9 N) (cells + 1) (slots + N)) : J p l e R s m args below meth c nL G b Q pc lv (.int z :: st) S cells slots :=
  r_newa (ty := .int) (i := 0) (a0 := (N, .inl (fun _ => 0))) C (mem_tb (mem_tbl 45 (by decide +kernel)) (by decide +kernel)) rfl rfl rfl (fun _ => rfl) (fun x => by rw [ent_9 nA_k, nA_n, nA_I]) hz hN (by decide) hr d hn kk
theorem na_10 (C : Cx p l s m args meth c cc nL own ret G b) {n N : Nat} {z : Int32} (hz : z = nI N) (hN : N < 2 ^ 25) (hr : cells + 1 ≤ R.cells ∧ slots + N ≤ R.slots) (d : decode cc pc = .ok (.newarray .boolean, 2)) (hn : pc + 2 = n)
    (kk : ∀ x : Nat, sK S x = 0 → b ≤ x → J p l e R s m args below meth c nL G b Q n lv (.ref x :: st) (nA S x 10 N) (cells + 1) (slots + N)) : J p l e R s m args below meth c nL G b Q pc lv (.int z :: st) S cells slots :=
  r_newa (ty := .boolean) (i := 1) (a0 := (N, .inl (fun _ => 0))) C (mem_tb (mem_tbl 871 (by decide +kernel)) (by decide +kernel)) rfl rfl rfl (fun _ => rfl) (fun x => by rw [ent_10 nA_k, nA_n, nA_I]) hz hN (by decide) hr d hn kk
theorem na_11 (C : Cx p l s m args meth c cc nL own ret G b) {n N : Nat} {z : Int32} (hz : z = nI N) (hN : N < 2 ^ 25) (hr : cells + 1 ≤ R.cells ∧ slots + N ≤ R.slots) (d : decode cc pc = .ok (.newarray .long, 2)) (hn : pc + 2 = n)
    (kk : ∀ x : Nat, sK S x = 0 → b ≤ x → J p l e R s m args below meth c nL G b Q n lv (.ref x :: st) (nA S x 11 N) (cells + 1) (slots + N)) : J p l e R s m args below meth c nL G b Q pc lv (.int z :: st) S cells slots :=
  r_newa (ty := .long) (i := 2) (a0 := (N, .inr (.inl (fun _ => 0)))) C (mem_tb (mem_tbl 1081 (by decide +kernel)) (by decide +kernel)) rfl rfl rfl (fun _ => rfl) (fun x => by rw [ent_11 nA_k, nA_n, nA_J]) hz hN (by decide) hr d hn kk
theorem na_12 (C : Cx p l s m args meth c cc nL own ret G b) {n N : Nat} {z : Int32} (hz : z = nI N) (hN : N < 2 ^ 25) (hr : cells + 1 ≤ R.cells ∧ slots + N ≤ R.slots) (d : decode cc pc = .ok (.newarray .double, 2)) (hn : pc + 2 = n)
    (kk : ∀ x : Nat, sK S x = 0 → b ≤ x → J p l e R s m args below meth c nL G b Q n lv (.ref x :: st) (nA S x 12 N) (cells + 1) (slots + N)) : J p l e R s m args below meth c nL G b Q pc lv (.int z :: st) S cells slots :=
  r_newa (ty := .double) (i := 3) (a0 := (N, .inr (.inr (.inr (.inl (fun _ => FP.dconst0)))))) C (mem_tb (mem_tbl 872 (by decide +kernel)) (by decide +kernel)) rfl rfl rfl (fun _ => rfl) (fun x => by rw [ent_12 nA_k, nA_n, nA_D]) hz hN (by decide) hr d hn kk
end
