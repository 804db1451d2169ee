/-! ===== the law from its entry ===== -/
def S00 : Sw := (fun _ => 0, fun _ _ => 0, fun _ _ => 0, fun _ _ => none, fun _ => 0, fun _ _ => 0, fun _ _ => none, fun _ _ => 0, fun _ _ => 0)
theorem S00_Hd {G : GG} {b : Nat} {H : Heap} : Hd G b S00 H := ⟨[], fun k q h => by simp [va_pl] at h, ⟨fun i j p q h => by simp [va_pl] at h, fun k q h => by simp [va_pl] at h⟩, fun a h => absurd rfl h⟩
section
variable {p : Program} {l : Launch} {e : Env} {s : State} {m : MethodId} {args : Array Value} {below : List Frame} {meth : Method} {c : Code} {G : GG} {b : Nat} {Q : State → Prop}
theorem lw_begin (C : Cx p l s m args meth c cL_law 9 RL (some .boolean) G b) (hst : l.stackTraces = false) {bs L : Nat} {xs : Nat → Int32} (hX : va_X bs L xs s s.heap) (hbl : bs < s.heap.size) (hbA : ¬ Ab b bs) (hL : L ≤ 2560)
    (fin : ∀ (S : Sw) (lv : List (Nat × Value)) (ce sl : Nat), ce ≤ 601024 → sl ≤ 7293034 → J p l e room_1 s m args below meth c 9 G b Q 1285 lv [] S ce sl) :
    J p l e room_1 s m args below meth c 9 G b Q 0 [(0, .ref bs)] [] S00 0 0 := by
  refine nw_7 (n := 3) C (mem_tb (mem_tbl 18 (by decide +kernel)) (by decide +kernel)) ⟨by show _ ≤ 601024; omega, by show _ ≤ 7293034; omega⟩ dL_law_0 rfl (fun x hx _ => ?_)
  refine r_dup (n := 4) C dL_law_3 rfl rfl ?_
  refine kL_73 (n := 7) C (c_init7 hst _ x nO_k) (by decide) ⟨by show _ ≤ 601024; omega, by show _ ≤ 7293034; omega⟩ (Nat.le_of_ble_eq_true rfl) dL_law_4 rfl (fun _ S1 h1 => ?_)
  obtain ⟨t, row, lm, cl, q1, q2, inc, gv, sm, r1, r2, hn⟩ := h1
  refine r_astore_n (i := 1) (n := 8) C dL_law_7 rfl (by decide) rfl rfl ?_
  refine nw_8 (n := 11) C (mem_tb (mem_tbl 740 (by decide +kernel)) (by decide +kernel)) ⟨by show _ ≤ 601024; omega, by show _ ≤ 7293034; omega⟩ dL_law_8 rfl (fun z hz _ => ?_)
  refine r_dup (n := 12) C dL_law_11 rfl rfl ?_
  refine kL_76 (n := 15) C (c_init8 hst _ z nO_k (fun f => nO_I)) (by decide) ⟨by show _ ≤ 601024; omega, by show _ ≤ 7293034; omega⟩ (Nat.le_of_ble_eq_true rfl) dL_law_12 rfl (fun _ S2 h2 => ?_)
  obtain ⟨ad, hm⟩ := h2
  refine r_astore_n (i := 2) (n := 16) C dL_law_15 rfl (by decide) rfl rfl ?_
  refine r_iconst (v := 1) (n := 17) C dL_law_16 rfl rfl ?_
  refine na_11 (N := 1) (n := 19) C rfl (by decide) ⟨by show _ ≤ 601024; omega, by show _ ≤ 7293034; omega⟩ dL_law_17 rfl (fun out ho _ => ?_)
  refine r_astore_n (i := 3) (n := 20) C dL_law_19 rfl (by decide) rfl rfl ?_
  refine r_iconst (v := 1) (n := 21) C dL_law_20 rfl rfl ?_
  refine na_12 (N := 1) (n := 23) C rfl (by decide) ⟨by show _ ≤ 601024; omega, by show _ ≤ 7293034; omega⟩ dL_law_21 rfl (fun outD hd _ => ?_)
  refine r_astore (i := 4) (n := 25) C dL_law_23 (by decide) rfl rfl ?_
  refine r_iconst (v := 0) (n := 26) C dL_law_25 rfl rfl ?_
  refine r_istore (i := 5) (n := 28) C dL_law_26 (by decide) rfl rfl ?_
  refine J.wide (k := 100) (n := 240000) (by omega) (by omega) ?_
  have k := lw_loop (Q := Q) (below := below) (e := e) C hst hX hbl hbA hL fin 2560 0 _ (by omega) (by omega) (start_Rl hn hz hm ho hd)
  refine J.sub ?_ k
  intro q hq
  simp only [List.mem_cons, List.not_mem_nil, or_false] at hq
  rcases hq with rfl | rfl | rfl | rfl | rfl | rfl <;> rfl
end
theorem whole_start {p : Program} {e : Env} {s : State} {m : MethodId} {below : List Frame} {meth : Method} {c : Code} (l : Launch) (hst : l.stackTraces = false) {b L : Nat} {xs : Nat → Int32} (hL : L ≤ 2560) (C0 : lw_At p s m meth c b L xs) : W p l e room_1 s m #[Value.ref b] below meth c s.heap [] 0 0 (lw_Z below #[Value.ref b] s) (entryFrame m ([Value.ref b] : List Value).toArray 9) := by
  obtain ⟨G, hF⟩ := fx_at C0
  obtain ⟨hx, hb, hr, hml, hown, hts, hX, hbl, hlocks, hgv⟩ := id C0
  have C : Cx p l s m #[Value.ref b] meth c cL_law 9 RL (some .boolean) G s.heap.size := ⟨hx, hb, hml, hown, fun w h => hts w (List.mem_filter.mp h).1, hF, hlocks, hr, hst⟩
  have hl := lv_entry ([.ref b]) (n := 9) (Nat.le_of_ble_eq_true rfl)
  rw [lg_entry_eq]
  refine lw_begin C hst hX hbl (Nat.not_le.mpr hbl) hL ?_ _ s.heap [] hl S00_Hd va_S.rf
  intro S lv ce sl h1 h2
  refine r_iconst (v := 1) (n := 1286) C dL_law_1285 rfl rfl ?_
  intro ls H locs a1 a2 a3
  refine va_forget (fun q hq => a3.2.2 q hq) (W.widen h1 h2 ?_)
  exact lw_ret hx hb hr hlocks dL_law_1286
