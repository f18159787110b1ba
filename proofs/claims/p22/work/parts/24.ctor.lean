set_option maxHeartbeats 4000000 in
set_option maxRecDepth 100000 in
theorem c_X0_init (l : Launch) (dC : Nat → ClassId) (dI : Nat → Nat → Nat) (cI : ClassId) (rk : Nat) (sz : Nat) : Met l yX0_init wsX0_init ({ frames := 1, cells := 3, slots := 14, locals := 20 } : Room) (va_Pc [.ref rk] (pc_ (dC, dI) [(cI, .int)] [(rk, .inr (0, [.null, .null, .null, .int 0, .int 0, .int 0, .int 0, .int 0, .int 0, .int 0, .int 0]))] sz)) (va_Qv (fun (u : Nat × Nat × Nat) => True) (fun (u : Nat × Nat × Nat) (t : State) => va_P (dC, dI) vwCl [(rk, .inr (0, [.ref u.1, .ref u.2.1, .ref u.2.2, .int 0, .int 0, .int 0, .int 0, .int 0, .int 0, .int 0, .int 0])), (u.1, .inl (cI, 4, .inl (fun _ => 0))), (u.2.1, .inl (cI, 4, .inl (fun _ => 0))), (u.2.2, .inl (cI, 6, .inl (fun _ => 0)))] t.heap ∧ va_D (va_A [(rk, .inr (0, [.null, .null, .null, .int 0, .int 0, .int 0, .int 0, .int 0, .int 0, .int 0, .int 0]))] sz) [(rk, .inr (0, [.ref u.1, .ref u.2.1, .ref u.2.2, .int 0, .int 0, .int 0, .int 0, .int 0, .int 0, .int 0, .int 0])), (u.1, .inl (cI, 4, .inl (fun _ => 0))), (u.2.1, .inl (cI, 4, .inl (fun _ => 0))), (u.2.2, .inl (cI, 6, .inl (fun _ => 0)))]) (va_A [(rk, .inr (0, [.null, .null, .null, .int 0, .int 0, .int 0, .int 0, .int 0, .int 0, .int 0, .int 0]))] sz)) 3 14 (va_A [(rk, .inr (0, [.null, .null, .null, .int 0, .int 0, .int 0, .int 0, .int 0, .int 0, .int 0, .int 0]))] sz) := by
  refine Met.ofW (cc := cX0_init) (maxL := 1) (ret := none) (by decide) rfl ?_
  intro p e s m args below meth c s₁ BB hml hv
  obtain ⟨rfl, hsz, hP, hK, hD0⟩ := hv
  have hx := BB.exec
  have hb := BB.bytes
  have hr := BB.returns
  have hts := atoms_spec (ws := wsX0_init) BB.pre
  have hown : s.vm.findClass RX0 = some m.cls := findClass_of_methodNamed BB.named
  have hlocks := BB.notSynchronized
  have hin9 : meth.name = "<init>" := (name_of_methodNamed BB.named BB.method).1
  subst hsz
  have hD := hD0.self (sz := s.heap.size)
  generalize hAe : va_A [(rk, .inr (0, [.null, .null, .null, .int 0, .int 0, .int 0, .int 0, .int 0, .int 0, .int 0, .int 0]))] s.heap.size = A at hD ⊢
  have hA : ∀ q : Nat, s.heap.size ≤ q → A q := fun q h => by rw [← hAe]; exact Or.inr h
  have hS : va_S A s.heap s.heap [] := va_S.rf
  have hP : va_P (dC, dI) vwCl [(rk, .inr (0, [.null, .null, .null, .int 0, .int 0, .int 0, .int 0, .int 0, .int 0, .int 0, .int 0]))] s.heap := hP
  have hl := lv_entry ([.ref rk]) (n := 1) (Nat.le_of_ble_eq_true rfl)
  rw [lg_entry_eq]
  generalize (lg_sl ([.ref rk]) ++ List.replicate (1 - (lg_sl ([.ref rk])).length) Slot.unset).toArray = ls at hl ⊢
  have hl : lv_has ls 1 [(0, .ref rk)] := hl
  have k0 := hts (.methodLink RX0 3 objectInit) (by decide +kernel)
  have k1 := hts (.instanceMethod objectInit) (by decide +kernel)
  have k2 := hts (.code objectInit ⟨#[0xb1]⟩ 1 none) (by decide +kernel)
  have k3 := hts (.arrayClass .int) (by decide +kernel)
  have k4 := hts (.fieldLink RX0 9 "KnifeLedger$Reckoning" "lights" "[I") (by decide +kernel)
  have hinX0 : ∀ w ∈ wsX00, w ∈ wsX0_init := by decide +kernel
  have k6 := hts (.fieldLink RX0 15 "KnifeLedger$Reckoning" "trembles" "[I") (by decide +kernel)
  have k7 := hts (.fieldLink RX0 18 "KnifeLedger$Reckoning" "trusts" "[I") (by decide +kernel)
  refine lv_aload_n hx hb dX0_init_0 rfl (lv_at hl 0 rfl) ?_
  refine W.objInit hx hb hown k0 k1 k2 rfl (by rw [hml]; exact hl.1) rfl dX0_init_1 (Nat.le_of_ble_eq_true rfl) (Nat.le_of_ble_eq_true rfl) ?_
  refine W.eq (g2 := F0 m 4 ls []) rfl ?_
  refine lv_aload_n hx hb dX0_init_4 rfl (lv_at hl 0 rfl) ?_
  refine lv_iconst (v := 4) hx hb dX0_init_5 (by decide) ?_
  refine va_newa (atype := .int) (ty := .int) (a0 := (4, .inl (fun _ => 0))) hx hb k3 rfl hK hP hD hS hA (fun _ => rfl) (by decide) (by decide) (by decide) (by decide) (by decide) dX0_init_6 (fun q_6 cA_6 H_1 hK hP hD hS => ?_)
  have hK : va_K (dC, dI) vwCl [(cI, .int), (cA_6, .int)] s := hK
  have hP : va_P (dC, dI) vwCl [(rk, .inr (0, [.null, .null, .null, .int 0, .int 0, .int 0, .int 0, .int 0, .int 0, .int 0, .int 0])), (q_6, .inl (cA_6, 4, .inl (fun _ => 0)))] H_1 := hP
  have hD : va_D A [(rk, .inr (0, [.null, .null, .null, .int 0, .int 0, .int 0, .int 0, .int 0, .int 0, .int 0, .int 0])), (q_6, .inl (cA_6, 4, .inl (fun _ => 0)))] := hD
  obtain rfl : cI = cA_6 := arr_same hK 0 1 rfl rfl
  have hK := hK.sub (tys' := [(cI, .int)]) [0] rfl
  refine W.widen (k := 1) (n := 4) (by decide) (by decide) ?_
  refine va_putF (D := (dC, dI)) (ci := 0) (v := .ref q_6) (ty := .array .int) (C := RX0) (T := TX0) (N := 11) hx hb hts hinX0 tyX0 tyX0_ok nmX0 hown hK hP hD hS 0 rfl rfl 0 (by decide) k4 (fun _ h9 => h9) rfl hin9 rfl (by decide +kernel) rfl rfl (Nat.le_of_ble_eq_true rfl) dX0_init_8 (fun H_2 locs hP hD hS => ?_)
  have hP : va_P (dC, dI) vwCl [(rk, .inr (0, [.ref q_6, .null, .null, .int 0, .int 0, .int 0, .int 0, .int 0, .int 0, .int 0, .int 0])), (q_6, .inl (cI, 4, .inl (fun _ => 0)))] H_2 := hP
  have hD : va_D A [(rk, .inr (0, [.ref q_6, .null, .null, .int 0, .int 0, .int 0, .int 0, .int 0, .int 0, .int 0, .int 0])), (q_6, .inl (cI, 4, .inl (fun _ => 0)))] := hD
  refine lv_aload_n hx hb dX0_init_11 rfl (lv_at hl 0 rfl) ?_
  refine lv_iconst (v := 4) hx hb dX0_init_12 (by decide) ?_
  refine va_newa (atype := .int) (ty := .int) (a0 := (4, .inl (fun _ => 0))) hx hb k3 rfl hK hP hD hS hA (fun _ => rfl) (by decide) (by decide) (by decide) (by decide) (by decide) dX0_init_13 (fun q_13 cA_13 H_3 hK hP hD hS => ?_)
  have hK : va_K (dC, dI) vwCl [(cI, .int), (cA_13, .int)] s := hK
  have hP : va_P (dC, dI) vwCl [(rk, .inr (0, [.ref q_6, .null, .null, .int 0, .int 0, .int 0, .int 0, .int 0, .int 0, .int 0, .int 0])), (q_6, .inl (cI, 4, .inl (fun _ => 0))), (q_13, .inl (cA_13, 4, .inl (fun _ => 0)))] H_3 := hP
  have hD : va_D A [(rk, .inr (0, [.ref q_6, .null, .null, .int 0, .int 0, .int 0, .int 0, .int 0, .int 0, .int 0, .int 0])), (q_6, .inl (cI, 4, .inl (fun _ => 0))), (q_13, .inl (cA_13, 4, .inl (fun _ => 0)))] := hD
  obtain rfl : cI = cA_13 := arr_same hK 0 1 rfl rfl
  have hK := hK.sub (tys' := [(cI, .int)]) [0] rfl
  refine W.widen (k := 2) (n := 8) (by decide) (by decide) ?_
  refine va_putF (D := (dC, dI)) (ci := 0) (v := .ref q_13) (ty := .array .int) (C := RX0) (T := TX0) (N := 11) hx hb hts hinX0 tyX0 tyX0_ok nmX0 hown hK hP hD hS 0 rfl rfl 1 (by decide) k6 (fun _ h9 => h9) rfl hin9 rfl (by decide +kernel) rfl rfl (Nat.le_of_ble_eq_true rfl) dX0_init_15 (fun H_4 locs hP hD hS => ?_)
  have hP : va_P (dC, dI) vwCl [(rk, .inr (0, [.ref q_6, .ref q_13, .null, .int 0, .int 0, .int 0, .int 0, .int 0, .int 0, .int 0, .int 0])), (q_6, .inl (cI, 4, .inl (fun _ => 0))), (q_13, .inl (cI, 4, .inl (fun _ => 0)))] H_4 := hP
  have hD : va_D A [(rk, .inr (0, [.ref q_6, .ref q_13, .null, .int 0, .int 0, .int 0, .int 0, .int 0, .int 0, .int 0, .int 0])), (q_6, .inl (cI, 4, .inl (fun _ => 0))), (q_13, .inl (cI, 4, .inl (fun _ => 0)))] := hD
  refine lv_aload_n hx hb dX0_init_18 rfl (lv_at hl 0 rfl) ?_
  refine lv_bipush (v := 6) hx hb dX0_init_19 (by decide) ?_
  refine va_newa (atype := .int) (ty := .int) (a0 := (6, .inl (fun _ => 0))) hx hb k3 rfl hK hP hD hS hA (fun _ => rfl) (by decide) (by decide) (by decide) (by decide) (by decide) dX0_init_21 (fun q_21 cA_21 H_5 hK hP hD hS => ?_)
  have hK : va_K (dC, dI) vwCl [(cI, .int), (cA_21, .int)] s := hK
  have hP : va_P (dC, dI) vwCl [(rk, .inr (0, [.ref q_6, .ref q_13, .null, .int 0, .int 0, .int 0, .int 0, .int 0, .int 0, .int 0, .int 0])), (q_6, .inl (cI, 4, .inl (fun _ => 0))), (q_13, .inl (cI, 4, .inl (fun _ => 0))), (q_21, .inl (cA_21, 6, .inl (fun _ => 0)))] H_5 := hP
  have hD : va_D A [(rk, .inr (0, [.ref q_6, .ref q_13, .null, .int 0, .int 0, .int 0, .int 0, .int 0, .int 0, .int 0, .int 0])), (q_6, .inl (cI, 4, .inl (fun _ => 0))), (q_13, .inl (cI, 4, .inl (fun _ => 0))), (q_21, .inl (cA_21, 6, .inl (fun _ => 0)))] := hD
  obtain rfl : cI = cA_21 := arr_same hK 0 1 rfl rfl
  have hK := hK.sub (tys' := [(cI, .int)]) [0] rfl
  refine W.widen (k := 3) (n := 14) (by decide) (by decide) ?_
  refine va_putF (D := (dC, dI)) (ci := 0) (v := .ref q_21) (ty := .array .int) (C := RX0) (T := TX0) (N := 11) hx hb hts hinX0 tyX0 tyX0_ok nmX0 hown hK hP hD hS 0 rfl rfl 2 (by decide) k7 (fun _ h9 => h9) rfl hin9 rfl (by decide +kernel) rfl rfl (Nat.le_of_ble_eq_true rfl) dX0_init_23 (fun H_6 locs hP hD hS => ?_)
  have hP : va_P (dC, dI) vwCl [(rk, .inr (0, [.ref q_6, .ref q_13, .ref q_21, .int 0, .int 0, .int 0, .int 0, .int 0, .int 0, .int 0, .int 0])), (q_6, .inl (cI, 4, .inl (fun _ => 0))), (q_13, .inl (cI, 4, .inl (fun _ => 0))), (q_21, .inl (cI, 6, .inl (fun _ => 0)))] H_6 := hP
  have hD : va_D A [(rk, .inr (0, [.ref q_6, .ref q_13, .ref q_21, .int 0, .int 0, .int 0, .int 0, .int 0, .int 0, .int 0, .int 0])), (q_6, .inl (cI, 4, .inl (fun _ => 0))), (q_13, .inl (cI, 4, .inl (fun _ => 0))), (q_21, .inl (cI, 6, .inl (fun _ => 0)))] := hD
  have hpost : True := by
    trivial
  have hP9 := hP.sub (ws' := [(rk, .inr (0, [.ref q_6, .ref q_13, .ref q_21, .int 0, .int 0, .int 0, .int 0, .int 0, .int 0, .int 0, .int 0])), (q_6, .inl (cI, 4, .inl (fun _ => 0))), (q_13, .inl (cI, 4, .inl (fun _ => 0))), (q_21, .inl (cI, 6, .inl (fun _ => 0)))]) [0, 1, 2, 3] rfl
  have hD9 := hD.sub (ws' := [(rk, .inr (0, [.ref q_6, .ref q_13, .ref q_21, .int 0, .int 0, .int 0, .int 0, .int 0, .int 0, .int 0, .int 0])), (q_6, .inl (cI, 4, .inl (fun _ => 0))), (q_13, .inl (cI, 4, .inl (fun _ => 0))), (q_21, .inl (cI, 6, .inl (fun _ => 0)))]) [0, 1, 2, 3] (by decide) rfl
  exact W.vret hx hb hr (fun t ht hW => ⟨⟨(q_6, q_13, q_21), rfl, hpost, by rw [ht]; exact hP9, hD9⟩, hS.F ht⟩) hS.2.2 dX0_init_26

set_option maxHeartbeats 4000000 in
set_option maxRecDepth 100000 in
theorem c_X1_init (l : Launch) (dC : Nat → ClassId) (dI : Nat → Nat → Nat) (kl : Nat) (sz : Nat)  : Met l yX1_init wsX1_init ({ frames := 2, cells := 8, slots := 265, locals := 42 } : Room) (va_Pc [.ref kl] (pn_  (dC, dI) [] [(kl, .inr (1, [.null, .null, .null, .null, .int 0, .null]))] sz)) (va_Qv (fun (u : Nat × Nat × Nat × Nat × Nat × Nat × Nat × Nat × ClassId × ClassId) => True) (fun (u : Nat × Nat × Nat × Nat × Nat × Nat × Nat × Nat × ClassId × ClassId) (t : State) => va_P (dC, dI) vwCl [(kl, .inr (1, [.ref u.1, .ref u.2.1, .ref u.2.2.1, .ref u.2.2.2.1, .int 0, .ref u.2.2.2.2.1])), (u.1, .inl (u.2.2.2.2.2.2.2.2.1, 60, .inl (fun _ => 0))), (u.2.1, .inl (u.2.2.2.2.2.2.2.2.1, 60, .inl (fun _ => 0))), (u.2.2.1, .inl (u.2.2.2.2.2.2.2.2.1, 60, .inl (fun _ => 0))), (u.2.2.2.1, .inl (u.2.2.2.2.2.2.2.2.2, 60, .inl (fun _ => 0))), (u.2.2.2.2.1, .inr (0, [.ref u.2.2.2.2.2.1, .ref u.2.2.2.2.2.2.1, .ref u.2.2.2.2.2.2.2.1, .int 0, .int 0, .int 0, .int 0, .int 0, .int 0, .int 0, .int 0])), (u.2.2.2.2.2.1, .inl (u.2.2.2.2.2.2.2.2.1, 4, .inl (fun _ => 0))), (u.2.2.2.2.2.2.1, .inl (u.2.2.2.2.2.2.2.2.1, 4, .inl (fun _ => 0))), (u.2.2.2.2.2.2.2.1, .inl (u.2.2.2.2.2.2.2.2.1, 6, .inl (fun _ => 0)))] t.heap ∧ va_D (va_A [(kl, .inr (1, [.null, .null, .null, .null, .int 0, .null]))] sz) [(kl, .inr (1, [.ref u.1, .ref u.2.1, .ref u.2.2.1, .ref u.2.2.2.1, .int 0, .ref u.2.2.2.2.1])), (u.1, .inl (u.2.2.2.2.2.2.2.2.1, 60, .inl (fun _ => 0))), (u.2.1, .inl (u.2.2.2.2.2.2.2.2.1, 60, .inl (fun _ => 0))), (u.2.2.1, .inl (u.2.2.2.2.2.2.2.2.1, 60, .inl (fun _ => 0))), (u.2.2.2.1, .inl (u.2.2.2.2.2.2.2.2.2, 60, .inl (fun _ => 0))), (u.2.2.2.2.1, .inr (0, [.ref u.2.2.2.2.2.1, .ref u.2.2.2.2.2.2.1, .ref u.2.2.2.2.2.2.2.1, .int 0, .int 0, .int 0, .int 0, .int 0, .int 0, .int 0, .int 0])), (u.2.2.2.2.2.1, .inl (u.2.2.2.2.2.2.2.2.1, 4, .inl (fun _ => 0))), (u.2.2.2.2.2.2.1, .inl (u.2.2.2.2.2.2.2.2.1, 4, .inl (fun _ => 0))), (u.2.2.2.2.2.2.2.1, .inl (u.2.2.2.2.2.2.2.2.1, 6, .inl (fun _ => 0)))] ∧ va_K (dC, dI) vwCl [(u.2.2.2.2.2.2.2.2.1, .int), (u.2.2.2.2.2.2.2.2.2, .boolean)] t) (va_A [(kl, .inr (1, [.null, .null, .null, .null, .int 0, .null]))] sz)) 8 265 (va_A [(kl, .inr (1, [.null, .null, .null, .null, .int 0, .null]))] sz) := by
  refine Met.ofW (cc := cX1_init) (maxL := 1) (ret := none) (by decide) rfl ?_
  intro p e s m args below meth c s₁ BB hml hv
  obtain ⟨rfl, hsz, hP, hK, hD0, hN⟩ := hv
  have hx := BB.exec
  have hb := BB.bytes
  have hr := BB.returns
  have hts := atoms_spec (ws := wsX1_init) BB.pre
  have hown : s.vm.findClass RX1 = some m.cls := findClass_of_methodNamed BB.named
  have hlocks := BB.notSynchronized
  have hin9 : meth.name = "<init>" := (name_of_methodNamed BB.named BB.method).1
  subst hsz
  have hD := hD0.self (sz := s.heap.size)
  generalize hAe : va_A [(kl, .inr (1, [.null, .null, .null, .null, .int 0, .null]))] s.heap.size = A at hD ⊢
  have hA : ∀ q : Nat, s.heap.size ≤ q → A q := fun q h => by rw [← hAe]; exact Or.inr h
  have hS : va_S A s.heap s.heap [] := va_S.rf
  have hP : va_P (dC, dI) vwCl [(kl, .inr (1, [.null, .null, .null, .null, .int 0, .null]))] s.heap := hP
  have hl := lv_entry ([.ref kl]) (n := 1) (Nat.le_of_ble_eq_true rfl)
  rw [lg_entry_eq]
  generalize (lg_sl ([.ref kl]) ++ List.replicate (1 - (lg_sl ([.ref kl])).length) Slot.unset).toArray = ls at hl ⊢
  have hl : lv_has ls 1 [(0, .ref kl)] := hl
  have k0 := hts (.methodLink RX1 1 objectInit) (by decide +kernel)
  have k1 := hts (.instanceMethod objectInit) (by decide +kernel)
  have k2 := hts (.code objectInit ⟨#[0xb1]⟩ 1 none) (by decide +kernel)
  have k3 := hts (.arrayClass .int) (by decide +kernel)
  have k4 := hts (.fieldLink RX1 9 "KnifeLedger" "kinds" "[I") (by decide +kernel)
  have hinX1 : ∀ w ∈ wsX10, w ∈ wsX1_init := by decide +kernel
  have k6 := hts (.fieldLink RX1 13 "KnifeLedger" "firsts" "[I") (by decide +kernel)
  have k7 := hts (.fieldLink RX1 16 "KnifeLedger" "seconds" "[I") (by decide +kernel)
  have k8 := hts (.arrayClass .boolean) (by decide +kernel)
  have k9 := hts (.fieldLink RX1 19 "KnifeLedger" "struck" "[Z") (by decide +kernel)
  have k10 := hts (.fieldLink RX1 23 "KnifeLedger" "size" "I") (by decide +kernel)
  have hinX0 : ∀ w ∈ wsX00, w ∈ wsX1_init := by decide +kernel
  have k12 := hts (.classLink RX1 27 RX0) (by decide +kernel)
  have k13 := hts (.instantiable RX0 11) (by decide +kernel)
  have k14 := hts (.initialized RX0) (by decide +kernel)
  have k15 := hts (.instanceMethod yX0_init) (by decide +kernel)
  have k16 := hts (.fieldLink RX1 30 "KnifeLedger" "reckoning" "LKnifeLedger$Reckoning;") (by decide +kernel)
  refine lv_aload_n hx hb dX1_init_0 rfl (lv_at hl 0 rfl) ?_
  refine W.objInit hx hb hown k0 k1 k2 rfl (by rw [hml]; exact hl.1) rfl dX1_init_1 (Nat.le_of_ble_eq_true rfl) (Nat.le_of_ble_eq_true rfl) ?_
  refine W.eq (g2 := F0 m 4 ls []) rfl ?_
  refine lv_aload_n hx hb dX1_init_4 rfl (lv_at hl 0 rfl) ?_
  refine lv_bipush (v := 60) hx hb dX1_init_5 (by decide) ?_
  refine va_newa (atype := .int) (ty := .int) (a0 := (60, .inl (fun _ => 0))) hx hb k3 rfl hK hP hD hS hA (fun _ => rfl) (by decide) (by decide) (by decide) (by decide) (by decide) dX1_init_7 (fun q_7 cA_7 H_1 hK hP hD hS => ?_)
  have hK : va_K (dC, dI) vwCl [(cA_7, .int)] s := hK
  have hP : va_P (dC, dI) vwCl [(kl, .inr (1, [.null, .null, .null, .null, .int 0, .null])), (q_7, .inl (cA_7, 60, .inl (fun _ => 0)))] H_1 := hP
  have hD : va_D A [(kl, .inr (1, [.null, .null, .null, .null, .int 0, .null])), (q_7, .inl (cA_7, 60, .inl (fun _ => 0)))] := hD
  refine W.widen (k := 1) (n := 60) (by decide) (by decide) ?_
  refine va_putF (D := (dC, dI)) (ci := 1) (v := .ref q_7) (ty := .array .int) (C := RX1) (T := TX1) (N := 6) hx hb hts hinX1 tyX1 tyX1_ok nmX1 hown hK hP hD hS 0 rfl rfl 0 (by decide) k4 (fun _ h9 => h9) rfl hin9 rfl (by decide +kernel) rfl rfl (Nat.le_of_ble_eq_true rfl) dX1_init_9 (fun H_2 locs hP hD hS => ?_)
  have hP : va_P (dC, dI) vwCl [(kl, .inr (1, [.ref q_7, .null, .null, .null, .int 0, .null])), (q_7, .inl (cA_7, 60, .inl (fun _ => 0)))] H_2 := hP
  have hD : va_D A [(kl, .inr (1, [.ref q_7, .null, .null, .null, .int 0, .null])), (q_7, .inl (cA_7, 60, .inl (fun _ => 0)))] := hD
  refine lv_aload_n hx hb dX1_init_12 rfl (lv_at hl 0 rfl) ?_
  refine lv_bipush (v := 60) hx hb dX1_init_13 (by decide) ?_
  refine va_newa (atype := .int) (ty := .int) (a0 := (60, .inl (fun _ => 0))) hx hb k3 rfl hK hP hD hS hA (fun _ => rfl) (by decide) (by decide) (by decide) (by decide) (by decide) dX1_init_15 (fun q_15 cA_15 H_3 hK hP hD hS => ?_)
  have hK : va_K (dC, dI) vwCl [(cA_7, .int), (cA_15, .int)] s := hK
  have hP : va_P (dC, dI) vwCl [(kl, .inr (1, [.ref q_7, .null, .null, .null, .int 0, .null])), (q_7, .inl (cA_7, 60, .inl (fun _ => 0))), (q_15, .inl (cA_15, 60, .inl (fun _ => 0)))] H_3 := hP
  have hD : va_D A [(kl, .inr (1, [.ref q_7, .null, .null, .null, .int 0, .null])), (q_7, .inl (cA_7, 60, .inl (fun _ => 0))), (q_15, .inl (cA_15, 60, .inl (fun _ => 0)))] := hD
  obtain rfl : cA_7 = cA_15 := arr_same hK 0 1 rfl rfl
  have hK := hK.sub (tys' := [(cA_7, .int)]) [0] rfl
  refine W.widen (k := 2) (n := 120) (by decide) (by decide) ?_
  refine va_putF (D := (dC, dI)) (ci := 1) (v := .ref q_15) (ty := .array .int) (C := RX1) (T := TX1) (N := 6) hx hb hts hinX1 tyX1 tyX1_ok nmX1 hown hK hP hD hS 0 rfl rfl 1 (by decide) k6 (fun _ h9 => h9) rfl hin9 rfl (by decide +kernel) rfl rfl (Nat.le_of_ble_eq_true rfl) dX1_init_17 (fun H_4 locs hP hD hS => ?_)
  have hP : va_P (dC, dI) vwCl [(kl, .inr (1, [.ref q_7, .ref q_15, .null, .null, .int 0, .null])), (q_7, .inl (cA_7, 60, .inl (fun _ => 0))), (q_15, .inl (cA_7, 60, .inl (fun _ => 0)))] H_4 := hP
  have hD : va_D A [(kl, .inr (1, [.ref q_7, .ref q_15, .null, .null, .int 0, .null])), (q_7, .inl (cA_7, 60, .inl (fun _ => 0))), (q_15, .inl (cA_7, 60, .inl (fun _ => 0)))] := hD
  refine lv_aload_n hx hb dX1_init_20 rfl (lv_at hl 0 rfl) ?_
  refine lv_bipush (v := 60) hx hb dX1_init_21 (by decide) ?_
  refine va_newa (atype := .int) (ty := .int) (a0 := (60, .inl (fun _ => 0))) hx hb k3 rfl hK hP hD hS hA (fun _ => rfl) (by decide) (by decide) (by decide) (by decide) (by decide) dX1_init_23 (fun q_23 cA_23 H_5 hK hP hD hS => ?_)
  have hK : va_K (dC, dI) vwCl [(cA_7, .int), (cA_23, .int)] s := hK
  have hP : va_P (dC, dI) vwCl [(kl, .inr (1, [.ref q_7, .ref q_15, .null, .null, .int 0, .null])), (q_7, .inl (cA_7, 60, .inl (fun _ => 0))), (q_15, .inl (cA_7, 60, .inl (fun _ => 0))), (q_23, .inl (cA_23, 60, .inl (fun _ => 0)))] H_5 := hP
  have hD : va_D A [(kl, .inr (1, [.ref q_7, .ref q_15, .null, .null, .int 0, .null])), (q_7, .inl (cA_7, 60, .inl (fun _ => 0))), (q_15, .inl (cA_7, 60, .inl (fun _ => 0))), (q_23, .inl (cA_23, 60, .inl (fun _ => 0)))] := hD
  obtain rfl : cA_7 = cA_23 := arr_same hK 0 1 rfl rfl
  have hK := hK.sub (tys' := [(cA_7, .int)]) [0] rfl
  refine W.widen (k := 3) (n := 180) (by decide) (by decide) ?_
  refine va_putF (D := (dC, dI)) (ci := 1) (v := .ref q_23) (ty := .array .int) (C := RX1) (T := TX1) (N := 6) hx hb hts hinX1 tyX1 tyX1_ok nmX1 hown hK hP hD hS 0 rfl rfl 2 (by decide) k7 (fun _ h9 => h9) rfl hin9 rfl (by decide +kernel) rfl rfl (Nat.le_of_ble_eq_true rfl) dX1_init_25 (fun H_6 locs hP hD hS => ?_)
  have hP : va_P (dC, dI) vwCl [(kl, .inr (1, [.ref q_7, .ref q_15, .ref q_23, .null, .int 0, .null])), (q_7, .inl (cA_7, 60, .inl (fun _ => 0))), (q_15, .inl (cA_7, 60, .inl (fun _ => 0))), (q_23, .inl (cA_7, 60, .inl (fun _ => 0)))] H_6 := hP
  have hD : va_D A [(kl, .inr (1, [.ref q_7, .ref q_15, .ref q_23, .null, .int 0, .null])), (q_7, .inl (cA_7, 60, .inl (fun _ => 0))), (q_15, .inl (cA_7, 60, .inl (fun _ => 0))), (q_23, .inl (cA_7, 60, .inl (fun _ => 0)))] := hD
  refine lv_aload_n hx hb dX1_init_28 rfl (lv_at hl 0 rfl) ?_
  refine lv_bipush (v := 60) hx hb dX1_init_29 (by decide) ?_
  refine va_newa (atype := .boolean) (ty := .boolean) (a0 := (60, .inl (fun _ => 0))) hx hb k8 rfl hK hP hD hS hA (fun _ => rfl) (by decide) (by decide) (by decide) (by decide) (by decide) dX1_init_31 (fun q_31 cA_31 H_7 hK hP hD hS => ?_)
  have hK : va_K (dC, dI) vwCl [(cA_7, .int), (cA_31, .boolean)] s := hK
  have hP : va_P (dC, dI) vwCl [(kl, .inr (1, [.ref q_7, .ref q_15, .ref q_23, .null, .int 0, .null])), (q_7, .inl (cA_7, 60, .inl (fun _ => 0))), (q_15, .inl (cA_7, 60, .inl (fun _ => 0))), (q_23, .inl (cA_7, 60, .inl (fun _ => 0))), (q_31, .inl (cA_31, 60, .inl (fun _ => 0)))] H_7 := hP
  have hD : va_D A [(kl, .inr (1, [.ref q_7, .ref q_15, .ref q_23, .null, .int 0, .null])), (q_7, .inl (cA_7, 60, .inl (fun _ => 0))), (q_15, .inl (cA_7, 60, .inl (fun _ => 0))), (q_23, .inl (cA_7, 60, .inl (fun _ => 0))), (q_31, .inl (cA_31, 60, .inl (fun _ => 0)))] := hD
  refine W.widen (k := 4) (n := 240) (by decide) (by decide) ?_
  refine va_putF (D := (dC, dI)) (ci := 1) (v := .ref q_31) (ty := .array .boolean) (C := RX1) (T := TX1) (N := 6) hx hb hts hinX1 tyX1 tyX1_ok nmX1 hown hK hP hD hS 0 rfl rfl 3 (by decide) k9 (fun _ h9 => h9) rfl hin9 rfl (by decide +kernel) rfl rfl (Nat.le_of_ble_eq_true rfl) dX1_init_33 (fun H_8 locs hP hD hS => ?_)
  have hP : va_P (dC, dI) vwCl [(kl, .inr (1, [.ref q_7, .ref q_15, .ref q_23, .ref q_31, .int 0, .null])), (q_7, .inl (cA_7, 60, .inl (fun _ => 0))), (q_15, .inl (cA_7, 60, .inl (fun _ => 0))), (q_23, .inl (cA_7, 60, .inl (fun _ => 0))), (q_31, .inl (cA_31, 60, .inl (fun _ => 0)))] H_8 := hP
  have hD : va_D A [(kl, .inr (1, [.ref q_7, .ref q_15, .ref q_23, .ref q_31, .int 0, .null])), (q_7, .inl (cA_7, 60, .inl (fun _ => 0))), (q_15, .inl (cA_7, 60, .inl (fun _ => 0))), (q_23, .inl (cA_7, 60, .inl (fun _ => 0))), (q_31, .inl (cA_31, 60, .inl (fun _ => 0)))] := hD
  refine lv_aload_n hx hb dX1_init_36 rfl (lv_at hl 0 rfl) ?_
  refine lv_iconst (v := 0) hx hb dX1_init_37 (by decide) ?_
  refine va_put (D := (dC, dI)) (ci := 1) (v := .int 0) (ty := .int) (C := RX1) (T := TX1) (N := 6) hx hb hts hinX1 tyX1 tyX1_ok nmX1 hown hK hP hD hS 0 rfl rfl 4 (by decide) k10 (fun _ h9 => h9) rfl (by decide +kernel) rfl rfl (Nat.le_of_ble_eq_true rfl) dX1_init_38 (fun H_9 locs hP hD hS => ?_)
  have hP : va_P (dC, dI) vwCl [(kl, .inr (1, [.ref q_7, .ref q_15, .ref q_23, .ref q_31, .int 0, .null])), (q_7, .inl (cA_7, 60, .inl (fun _ => 0))), (q_15, .inl (cA_7, 60, .inl (fun _ => 0))), (q_23, .inl (cA_7, 60, .inl (fun _ => 0))), (q_31, .inl (cA_31, 60, .inl (fun _ => 0)))] H_9 := hP
  have hD : va_D A [(kl, .inr (1, [.ref q_7, .ref q_15, .ref q_23, .ref q_31, .int 0, .null])), (q_7, .inl (cA_7, 60, .inl (fun _ => 0))), (q_15, .inl (cA_7, 60, .inl (fun _ => 0))), (q_23, .inl (cA_7, 60, .inl (fun _ => 0))), (q_31, .inl (cA_31, 60, .inl (fun _ => 0)))] := hD
  refine lv_aload_n hx hb dX1_init_41 rfl (lv_at hl 0 rfl) ?_
  refine va_new (ci := 0) (fs := [.null, .null, .null, .int 0, .int 0, .int 0, .int 0, .int 0, .int 0, .int 0, .int 0]) (C := RX0) (T := TX0) (N := 11) hx hb hts hinX0 tyX0 tyX0_ok hown k12 k13 k14 hK hP hD hS hA rfl (fun j hj => by rcases (show j = 0 ∨ j = 1 ∨ j = 2 ∨ j = 3 ∨ j = 4 ∨ j = 5 ∨ j = 6 ∨ j = 7 ∨ j = 8 ∨ j = 9 ∨ j = 10 by omega) with rfl | rfl | rfl | rfl | rfl | rfl | rfl | rfl | rfl | rfl | rfl <;> rfl) (Nat.le_of_ble_eq_true rfl) (Nat.le_of_ble_eq_true rfl) dX1_init_42 (fun q_42 H_10 hP hD hS => ?_)
  have hP : va_P (dC, dI) vwCl [(kl, .inr (1, [.ref q_7, .ref q_15, .ref q_23, .ref q_31, .int 0, .null])), (q_7, .inl (cA_7, 60, .inl (fun _ => 0))), (q_15, .inl (cA_7, 60, .inl (fun _ => 0))), (q_23, .inl (cA_7, 60, .inl (fun _ => 0))), (q_31, .inl (cA_31, 60, .inl (fun _ => 0))), (q_42, .inr (0, [.null, .null, .null, .int 0, .int 0, .int 0, .int 0, .int 0, .int 0, .int 0, .int 0]))] H_10 := hP
  have hD : va_D A [(kl, .inr (1, [.ref q_7, .ref q_15, .ref q_23, .ref q_31, .int 0, .null])), (q_7, .inl (cA_7, 60, .inl (fun _ => 0))), (q_15, .inl (cA_7, 60, .inl (fun _ => 0))), (q_23, .inl (cA_7, 60, .inl (fun _ => 0))), (q_31, .inl (cA_31, 60, .inl (fun _ => 0))), (q_42, .inr (0, [.null, .null, .null, .int 0, .int 0, .int 0, .int 0, .int 0, .int 0, .int 0, .int 0]))] := hD
  refine W.widen (k := 5) (n := 251) (by decide) (by decide) ?_
  refine lv_dup hx hb dX1_init_45 rfl ?_
  have hPc := hP.sub (ws' := [(q_42, .inr (0, [.null, .null, .null, .int 0, .int 0, .int 0, .int 0, .int 0, .int 0, .int 0, .int 0]))]) [5] rfl
  have hDc := hD.sub (ws' := [(q_42, .inr (0, [.null, .null, .null, .int 0, .int 0, .int 0, .int 0, .int 0, .int 0, .int 0, .int 0]))]) [5] (by decide) rfl
  have hKc := hK.sub (tys' := [(cA_7, .int)]) [0] rfl
  have hFc := va_free (wc := [(q_42, .inr (0, [.null, .null, .null, .int 0, .int 0, .int 0, .int 0, .int 0, .int 0, .int 0, .int 0]))]) hD hS hA [5] rfl
  refine va_callv (va_runIN (As := []) (rest := [.ref q_42, .ref kl]) ⟨hx, hb, hml, hown, hts⟩ (c_X0_init l dC dI cA_7 q_42 H_10.size) ⟨va_cnB (host := "KnifeLedger") 0 hts gX1_init_X0_init_n29 rfl rfl rfl (nw_use0 hN (by decide +kernel)) k14 (by decide +kernel) ⟨Nat.le_of_ble_eq_true rfl, Nat.le_of_ble_eq_true rfl⟩, rfl, k15⟩ (pc_S hKc hPc hDc) rfl rfl hl.1 rfl (lv_room (Nat.le_of_ble_eq_true rfl)) dX1_init_46 ⟨Nat.le_of_ble_eq_true rfl, Nat.le_of_ble_eq_true rfl⟩) hS (fun q _ h => hFc q h) hFc (fun u t H_11 locs ht hvm hw hB hz1 hk1 hS => ?_)
  obtain ⟨aL1_11, aT1_11, aU1_11⟩ := u
  try dsimp only at hw hB
  have hw_11 := hw
  obtain ⟨hP1, hD1⟩ := hB
  rw [ht] at hP1
  obtain ⟨hP, hD⟩ := va_join (wr := [(kl, .inr (1, [.ref q_7, .ref q_15, .ref q_23, .ref q_31, .int 0, .null])), (q_7, .inl (cA_7, 60, .inl (fun _ => 0))), (q_15, .inl (cA_7, 60, .inl (fun _ => 0))), (q_23, .inl (cA_7, 60, .inl (fun _ => 0))), (q_31, .inl (cA_31, 60, .inl (fun _ => 0)))]) (w1 := [(q_42, .inr (0, [.ref aL1_11, .ref aT1_11, .ref aU1_11, .int 0, .int 0, .int 0, .int 0, .int 0, .int 0, .int 0, .int 0])), (aL1_11, .inl (cA_7, 4, .inl (fun _ => 0))), (aT1_11, .inl (cA_7, 4, .inl (fun _ => 0))), (aU1_11, .inl (cA_7, 6, .inl (fun _ => 0)))]) hP hD [5] [0, 1, 2, 3, 4] rfl rfl (by decide) (by decide) hk1 hFc hP1 hD1
  have hP : va_P (dC, dI) vwCl [(kl, .inr (1, [.ref q_7, .ref q_15, .ref q_23, .ref q_31, .int 0, .null])), (q_7, .inl (cA_7, 60, .inl (fun _ => 0))), (q_15, .inl (cA_7, 60, .inl (fun _ => 0))), (q_23, .inl (cA_7, 60, .inl (fun _ => 0))), (q_31, .inl (cA_31, 60, .inl (fun _ => 0))), (q_42, .inr (0, [.ref aL1_11, .ref aT1_11, .ref aU1_11, .int 0, .int 0, .int 0, .int 0, .int 0, .int 0, .int 0, .int 0])), (aL1_11, .inl (cA_7, 4, .inl (fun _ => 0))), (aT1_11, .inl (cA_7, 4, .inl (fun _ => 0))), (aU1_11, .inl (cA_7, 6, .inl (fun _ => 0)))] H_11 := hP
  have hD : va_D A [(kl, .inr (1, [.ref q_7, .ref q_15, .ref q_23, .ref q_31, .int 0, .null])), (q_7, .inl (cA_7, 60, .inl (fun _ => 0))), (q_15, .inl (cA_7, 60, .inl (fun _ => 0))), (q_23, .inl (cA_7, 60, .inl (fun _ => 0))), (q_31, .inl (cA_31, 60, .inl (fun _ => 0))), (q_42, .inr (0, [.ref aL1_11, .ref aT1_11, .ref aU1_11, .int 0, .int 0, .int 0, .int 0, .int 0, .int 0, .int 0, .int 0])), (aL1_11, .inl (cA_7, 4, .inl (fun _ => 0))), (aT1_11, .inl (cA_7, 4, .inl (fun _ => 0))), (aU1_11, .inl (cA_7, 6, .inl (fun _ => 0)))] := hD
  refine va_putF (D := (dC, dI)) (ci := 1) (v := .ref q_42) (ty := .object "KnifeLedger$Reckoning") (C := RX1) (T := TX1) (N := 6) hx hb hts hinX1 tyX1 tyX1_ok nmX1 hown hK hP hD hS 0 rfl rfl 5 (by decide) k16 (fun _ h9 => h9) rfl hin9 rfl (by decide +kernel) rfl rfl (Nat.le_of_ble_eq_true rfl) dX1_init_49 (fun H_12 locs hP hD hS => ?_)
  have hP : va_P (dC, dI) vwCl [(kl, .inr (1, [.ref q_7, .ref q_15, .ref q_23, .ref q_31, .int 0, .ref q_42])), (q_7, .inl (cA_7, 60, .inl (fun _ => 0))), (q_15, .inl (cA_7, 60, .inl (fun _ => 0))), (q_23, .inl (cA_7, 60, .inl (fun _ => 0))), (q_31, .inl (cA_31, 60, .inl (fun _ => 0))), (q_42, .inr (0, [.ref aL1_11, .ref aT1_11, .ref aU1_11, .int 0, .int 0, .int 0, .int 0, .int 0, .int 0, .int 0, .int 0])), (aL1_11, .inl (cA_7, 4, .inl (fun _ => 0))), (aT1_11, .inl (cA_7, 4, .inl (fun _ => 0))), (aU1_11, .inl (cA_7, 6, .inl (fun _ => 0)))] H_12 := hP
  have hD : va_D A [(kl, .inr (1, [.ref q_7, .ref q_15, .ref q_23, .ref q_31, .int 0, .ref q_42])), (q_7, .inl (cA_7, 60, .inl (fun _ => 0))), (q_15, .inl (cA_7, 60, .inl (fun _ => 0))), (q_23, .inl (cA_7, 60, .inl (fun _ => 0))), (q_31, .inl (cA_31, 60, .inl (fun _ => 0))), (q_42, .inr (0, [.ref aL1_11, .ref aT1_11, .ref aU1_11, .int 0, .int 0, .int 0, .int 0, .int 0, .int 0, .int 0, .int 0])), (aL1_11, .inl (cA_7, 4, .inl (fun _ => 0))), (aT1_11, .inl (cA_7, 4, .inl (fun _ => 0))), (aU1_11, .inl (cA_7, 6, .inl (fun _ => 0)))] := hD
  have hpost : True := by
    trivial
  have hP9 := hP.sub (ws' := [(kl, .inr (1, [.ref q_7, .ref q_15, .ref q_23, .ref q_31, .int 0, .ref q_42])), (q_7, .inl (cA_7, 60, .inl (fun _ => 0))), (q_15, .inl (cA_7, 60, .inl (fun _ => 0))), (q_23, .inl (cA_7, 60, .inl (fun _ => 0))), (q_31, .inl (cA_31, 60, .inl (fun _ => 0))), (q_42, .inr (0, [.ref aL1_11, .ref aT1_11, .ref aU1_11, .int 0, .int 0, .int 0, .int 0, .int 0, .int 0, .int 0, .int 0])), (aL1_11, .inl (cA_7, 4, .inl (fun _ => 0))), (aT1_11, .inl (cA_7, 4, .inl (fun _ => 0))), (aU1_11, .inl (cA_7, 6, .inl (fun _ => 0)))]) [0, 1, 2, 3, 4, 5, 6, 7, 8] rfl
  have hD9 := hD.sub (ws' := [(kl, .inr (1, [.ref q_7, .ref q_15, .ref q_23, .ref q_31, .int 0, .ref q_42])), (q_7, .inl (cA_7, 60, .inl (fun _ => 0))), (q_15, .inl (cA_7, 60, .inl (fun _ => 0))), (q_23, .inl (cA_7, 60, .inl (fun _ => 0))), (q_31, .inl (cA_31, 60, .inl (fun _ => 0))), (q_42, .inr (0, [.ref aL1_11, .ref aT1_11, .ref aU1_11, .int 0, .int 0, .int 0, .int 0, .int 0, .int 0, .int 0, .int 0])), (aL1_11, .inl (cA_7, 4, .inl (fun _ => 0))), (aT1_11, .inl (cA_7, 4, .inl (fun _ => 0))), (aU1_11, .inl (cA_7, 6, .inl (fun _ => 0)))]) [0, 1, 2, 3, 4, 5, 6, 7, 8] (by decide) rfl
  have hK9 := hK.sub (tys' := [(cA_7, .int), (cA_31, .boolean)]) [0, 1] rfl
  exact W.vret hx hb hr (fun t ht hW => ⟨⟨(q_7, q_15, q_23, q_31, q_42, aL1_11, aT1_11, aU1_11, cA_7, cA_31), rfl, hpost, by rw [ht]; exact hP9, hD9, va_K.moved hW.alike hK9⟩, hS.F ht⟩) hS.2.2 dX1_init_52
