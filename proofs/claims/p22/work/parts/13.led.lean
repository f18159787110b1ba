set_option maxHeartbeats 4000000 in
set_option maxRecDepth 100000 in
theorem c_X1_needIndex (l : Launch) (dC : Nat → ClassId) (dI : Nat → Nat → Nat) (sz : Nat) (ix : Int32) (lm : Int32) (h0 : ¬ ix < 0) (h1 : ix < lm) : Met l yX1_needIndex wsX1_needIndex ({ frames := 0, cells := 0, slots := 0, locals := 0 } : Room) (va_Pc [.int ix, .int lm] (pc_ (dC, dI) [] [] sz)) (va_Qv (fun (u : Unit) => True) (fun (u : Unit) (t : State) => va_P (dC, dI) vwCl [] t.heap ∧ va_D (va_A [] sz) []) (va_A [] sz)) 0 0 (va_A [] sz) := by
  refine Met.ofW (cc := cX1_needIndex) (maxL := 2) (ret := none) (by decide) rfl ?_
  intro p e s m args below meth c s₁ BB hml hv
  obtain ⟨rfl, hsz, hP, hK, hD0⟩ := hv
  have hx := BB.exec
  have hb := BB.bytes
  have hr := BB.returns
  have hts := atoms_spec (ws := wsX1_needIndex) BB.pre
  have hown : s.vm.findClass RX1 = some m.cls := findClass_of_methodNamed BB.named
  have hlocks := BB.notSynchronized
  subst hsz
  have hD := hD0.self (sz := s.heap.size)
  generalize hAe : va_A [] s.heap.size = A at hD ⊢
  have hA : ∀ q : Nat, s.heap.size ≤ q → A q := fun q h => by rw [← hAe]; exact Or.inr h
  have hS : va_S A s.heap s.heap [] := va_S.rf
  have hP : va_P (dC, dI) vwCl [] s.heap := hP
  have hl := lv_entry ([.int ix, .int lm]) (n := 2) (Nat.le_of_ble_eq_true rfl)
  rw [lg_entry_eq]
  generalize (lg_sl ([.int ix, .int lm]) ++ List.replicate (2 - (lg_sl ([.int ix, .int lm])).length) Slot.unset).toArray = ls at hl ⊢
  have hl : lv_has ls 2 [(0, .int ix), (1, .int lm)] := hl
  refine lv_iload_n hx hb dX1_needIndex_0 rfl (lv_at hl 0 rfl) ?_
  refine lv_if_lt (tgt := 9) hx hb dX1_needIndex_1 (by decide) (fun h9 => absurd h9 (h0)) (fun _ => ?_)
  refine lv_iload_n hx hb dX1_needIndex_4 rfl (lv_at hl 0 rfl) ?_
  refine lv_iload_n hx hb dX1_needIndex_5 rfl (lv_at hl 1 rfl) ?_
  refine lv_icmp_lt (tgt := 19) hx hb dX1_needIndex_6 (by decide) (fun _ => ?_) (fun h9 => absurd (h1) h9)
  have hpost : True := by
    trivial
  have hP9 := hP.sub (ws' := []) [] rfl
  have hD9 := hD.sub (ws' := []) [] (by decide) rfl
  exact W.vret hx hb hr (fun t ht hW => ⟨⟨(), rfl, hpost, by rw [ht]; exact hP9, hD9⟩, hS.F ht⟩) hS.2.2 dX1_needIndex_19

set_option maxHeartbeats 4000000 in
set_option maxRecDepth 100000 in
theorem c_X1_needWithin (l : Launch) (dC : Nat → ClassId) (dI : Nat → Nat → Nat) (sz : Nat) (vv : Int32) (lo : Int32) (hi : Int32) (h0 : ¬ vv < lo) (h1 : vv ≤ hi) : Met l yX1_needWithin wsX1_needWithin ({ frames := 0, cells := 0, slots := 0, locals := 0 } : Room) (va_Pc [.int vv, .int lo, .int hi] (pc_ (dC, dI) [] [] sz)) (va_Qv (fun (u : Unit) => True) (fun (u : Unit) (t : State) => va_P (dC, dI) vwCl [] t.heap ∧ va_D (va_A [] sz) []) (va_A [] sz)) 0 0 (va_A [] sz) := by
  refine Met.ofW (cc := cX1_needWithin) (maxL := 3) (ret := none) (by decide) rfl ?_
  intro p e s m args below meth c s₁ BB hml hv
  obtain ⟨rfl, hsz, hP, hK, hD0⟩ := hv
  have hx := BB.exec
  have hb := BB.bytes
  have hr := BB.returns
  have hts := atoms_spec (ws := wsX1_needWithin) BB.pre
  have hown : s.vm.findClass RX1 = some m.cls := findClass_of_methodNamed BB.named
  have hlocks := BB.notSynchronized
  subst hsz
  have hD := hD0.self (sz := s.heap.size)
  generalize hAe : va_A [] s.heap.size = A at hD ⊢
  have hA : ∀ q : Nat, s.heap.size ≤ q → A q := fun q h => by rw [← hAe]; exact Or.inr h
  have hS : va_S A s.heap s.heap [] := va_S.rf
  have hP : va_P (dC, dI) vwCl [] s.heap := hP
  have hl := lv_entry ([.int vv, .int lo, .int hi]) (n := 3) (Nat.le_of_ble_eq_true rfl)
  rw [lg_entry_eq]
  generalize (lg_sl ([.int vv, .int lo, .int hi]) ++ List.replicate (3 - (lg_sl ([.int vv, .int lo, .int hi])).length) Slot.unset).toArray = ls at hl ⊢
  have hl : lv_has ls 3 [(0, .int vv), (1, .int lo), (2, .int hi)] := hl
  refine lv_iload_n hx hb dX1_needWithin_0 rfl (lv_at hl 0 rfl) ?_
  refine lv_iload_n hx hb dX1_needWithin_1 rfl (lv_at hl 1 rfl) ?_
  refine lv_icmp_lt (tgt := 10) hx hb dX1_needWithin_2 (by decide) (fun h9 => absurd h9 (h0)) (fun _ => ?_)
  refine lv_iload_n hx hb dX1_needWithin_5 rfl (lv_at hl 0 rfl) ?_
  refine lv_iload_n hx hb dX1_needWithin_6 rfl (lv_at hl 2 rfl) ?_
  refine lv_icmp_le (tgt := 20) hx hb dX1_needWithin_7 (by decide) (fun _ => ?_) (fun h9 => absurd (h1) h9)
  have hpost : True := by
    trivial
  have hP9 := hP.sub (ws' := []) [] rfl
  have hD9 := hD.sub (ws' := []) [] (by decide) rfl
  exact W.vret hx hb hr (fun t ht hW => ⟨⟨(), rfl, hpost, by rw [ht]; exact hP9, hD9⟩, hS.F ht⟩) hS.2.2 dX1_needWithin_20

set_option maxHeartbeats 4000000 in
set_option maxRecDepth 100000 in
theorem c_X1_swapNumbers (l : Launch) (dC : Nat → ClassId) (dI : Nat → Nat → Nat) (cI : ClassId) (aN : Nat) (sz : Nat) (f : N2I) (i : Nat) (q : Nat) (hi : i < 60) (hq : q < 60) : Met l yX1_swapNumbers wsX1_swapNumbers ({ frames := 0, cells := 0, slots := 0, locals := 0 } : Room) (va_Pc [.ref aN, .int (nI i), .int (nI q)] (pc_ (dC, dI) [(cI, .int)] [(aN, .inl (cI, 60, .inl f))] sz)) (va_Qv (fun (u : N2I) => u = swp f i q) (fun (u : N2I) (t : State) => va_P (dC, dI) vwCl [(aN, .inl (cI, 60, .inl u))] t.heap ∧ va_D (va_A [(aN, .inl (cI, 60, .inl f))] sz) [(aN, .inl (cI, 60, .inl u))]) (va_A [(aN, .inl (cI, 60, .inl f))] sz)) 0 0 (va_A [(aN, .inl (cI, 60, .inl f))] sz) := by
  refine Met.ofW (cc := cX1_swapNumbers) (maxL := 4) (ret := none) (by decide) rfl ?_
  intro p e s m args below meth c s₁ BB hml hv
  obtain ⟨rfl, hsz, hP, hK, hD0⟩ := hv
  have hx := BB.exec
  have hb := BB.bytes
  have hr := BB.returns
  have hts := atoms_spec (ws := wsX1_swapNumbers) BB.pre
  have hown : s.vm.findClass RX1 = some m.cls := findClass_of_methodNamed BB.named
  have hlocks := BB.notSynchronized
  subst hsz
  have hD := hD0.self (sz := s.heap.size)
  generalize hAe : va_A [(aN, .inl (cI, 60, .inl f))] s.heap.size = A at hD ⊢
  have hA : ∀ q : Nat, s.heap.size ≤ q → A q := fun q h => by rw [← hAe]; exact Or.inr h
  have hS : va_S A s.heap s.heap [] := va_S.rf
  have hP : va_P (dC, dI) vwCl [(aN, .inl (cI, 60, .inl f))] s.heap := hP
  have hl := lv_entry ([.ref aN, .int (nI i), .int (nI q)]) (n := 4) (Nat.le_of_ble_eq_true rfl)
  rw [lg_entry_eq]
  generalize (lg_sl ([.ref aN, .int (nI i), .int (nI q)]) ++ List.replicate (4 - (lg_sl ([.ref aN, .int (nI i), .int (nI q)])).length) Slot.unset).toArray = ls at hl ⊢
  have hl : lv_has ls 4 [(0, .ref aN), (1, .int (nI i)), (2, .int (nI q))] := hl
  refine lv_aload_n hx hb dX1_swapNumbers_0 rfl (lv_at hl 0 rfl) ?_
  refine lv_iload_n hx hb dX1_swapNumbers_1 rfl (lv_at hl 1 rfl) ?_
  refine va_iald hx hb hK hP 0 0 rfl rfl (vp_in_nI (by omega) (by omega)) dX1_swapNumbers_2 ?_
  rw [nI_clamp (n := i) (by omega)]
  refine lv_istore_n (lv' := [(3, .int (f i)), (0, .ref aN), (1, .int (nI i)), (2, .int (nI q))]) hx hb dX1_swapNumbers_3 rfl hl (by decide) rfl (fun ls hl => ?_)
  refine lv_aload_n hx hb dX1_swapNumbers_4 rfl (lv_at hl 1 rfl) ?_
  refine lv_iload_n hx hb dX1_swapNumbers_5 rfl (lv_at hl 2 rfl) ?_
  refine lv_aload_n hx hb dX1_swapNumbers_6 rfl (lv_at hl 1 rfl) ?_
  refine lv_iload_n hx hb dX1_swapNumbers_7 rfl (lv_at hl 3 rfl) ?_
  refine va_iald hx hb hK hP 0 0 rfl rfl (vp_in_nI (by omega) (by omega)) dX1_swapNumbers_8 ?_
  rw [nI_clamp (n := q) (by omega)]
  refine va_iast hx hb hK hP hD hS 0 0 rfl rfl (vp_in_nI (by omega) (by omega)) dX1_swapNumbers_9 (fun H_2 locs hP hD hS => ?_)
  have hP : va_P (dC, dI) vwCl [(aN, .inl (cI, 60, .inl (upd f ((nI i).toNatClampNeg) (f q))))] H_2 := hP
  have hD : va_D A [(aN, .inl (cI, 60, .inl (upd f ((nI i).toNatClampNeg) (f q))))] := hD
  rw [nI_clamp (by omega)] at hP hD
  have hP : va_P (dC, dI) vwCl [(aN, .inl (cI, 60, .inl (upd f (i) (f q))))] H_2 := hP
  have hD : va_D A [(aN, .inl (cI, 60, .inl (upd f (i) (f q))))] := hD
  refine lv_aload_n hx hb dX1_swapNumbers_10 rfl (lv_at hl 1 rfl) ?_
  refine lv_iload_n hx hb dX1_swapNumbers_11 rfl (lv_at hl 3 rfl) ?_
  refine lv_iload_n hx hb dX1_swapNumbers_12 rfl (lv_at hl 0 rfl) ?_
  refine va_iast hx hb hK hP hD hS 0 0 rfl rfl (vp_in_nI (by omega) (by omega)) dX1_swapNumbers_13 (fun H_4 locs hP hD hS => ?_)
  have hP : va_P (dC, dI) vwCl [(aN, .inl (cI, 60, .inl (upd (upd f (i) (f q)) ((nI q).toNatClampNeg) (f i))))] H_4 := hP
  have hD : va_D A [(aN, .inl (cI, 60, .inl (upd (upd f (i) (f q)) ((nI q).toNatClampNeg) (f i))))] := hD
  rw [nI_clamp (by omega)] at hP hD
  have hP : va_P (dC, dI) vwCl [(aN, .inl (cI, 60, .inl (upd (upd f (i) (f q)) (q) (f i))))] H_4 := hP
  have hD : va_D A [(aN, .inl (cI, 60, .inl (upd (upd f (i) (f q)) (q) (f i))))] := hD
  have hpost : (upd (upd f (i) (f q)) (q) (f i)) = swp f i q := by
    rfl
  have hP9 := hP.sub (ws' := [(aN, .inl (cI, 60, .inl (upd (upd f (i) (f q)) (q) (f i))))]) [0] rfl
  have hD9 := hD.sub (ws' := [(aN, .inl (cI, 60, .inl (upd (upd f (i) (f q)) (q) (f i))))]) [0] (by decide) rfl
  exact W.vret hx hb hr (fun t ht hW => ⟨⟨(upd (upd f (i) (f q)) (q) (f i)), rfl, hpost, by rw [ht]; exact hP9, hD9⟩, hS.F ht⟩) hS.2.2 dX1_swapNumbers_14

set_option maxHeartbeats 4000000 in
set_option maxRecDepth 100000 in
theorem c_X1_reckon (l : Launch) (dC : Nat → ClassId) (dI : Nat → Nat → Nat) (cI cZ : ClassId) (kl aK aF aS aB rk aL aT aU : Nat) (sz : Nat)  (L : N2I) (T : N2I) (K : N2I) (F : N2I) (S : N2I) (B : N2I) (U : N2I) (n : Nat) (co : Int32) (pl : Int32) (st : Int32) (jo : Int32) (cn : Int32) (ii : Int32) (fi : Int32) (fe : Int32) (mm : Nat) (fl : Int32) (hX : okX K F S B n) (hm : mm ≤ n) : Met l yX1_reckon wsX1_reckon ({ frames := 6, cells := 0, slots := 0, locals := 127 } : Room) (va_Pc [.ref kl, .int (nI mm), .int fl] (pn_  (dC, dI) [(cI, .int), (cZ, .boolean)] [(kl, .inr (1, [.ref aK, .ref aF, .ref aS, .ref aB, .int (nI n), .ref rk])), (aK, .inl (cI, 60, .inl K)), (aF, .inl (cI, 60, .inl F)), (aS, .inl (cI, 60, .inl S)), (aB, .inl (cZ, 60, .inl B)), (rk, .inr (0, [.ref aL, .ref aT, .ref aU, .int co, .int pl, .int st, .int jo, .int cn, .int ii, .int fi, .int fe])), (aL, .inl (cI, 4, .inl L)), (aT, .inl (cI, 4, .inl T)), (aU, .inl (cI, 6, .inl U))] sz)) (va_Qv (fun (u : Int32 × Int32 × Int32 × Int32 × Int32 × Int32 × Int32 × Int32 × N2I) => (u.1, u.2.1, u.2.2.1, u.2.2.2.1, u.2.2.2.2.1, u.2.2.2.2.2.1, u.2.2.2.2.2.2.1, u.2.2.2.2.2.2.2.1, u.2.2.2.2.2.2.2.2) = mRec L T K F S (mFl B fl) U mm) (fun (u : Int32 × Int32 × Int32 × Int32 × Int32 × Int32 × Int32 × Int32 × N2I) (t : State) => va_P (dC, dI) vwCl [(kl, .inr (1, [.ref aK, .ref aF, .ref aS, .ref aB, .int (nI n), .ref rk])), (aK, .inl (cI, 60, .inl K)), (aF, .inl (cI, 60, .inl F)), (aS, .inl (cI, 60, .inl S)), (aB, .inl (cZ, 60, .inl B)), (rk, .inr (0, [.ref aL, .ref aT, .ref aU, .int u.1, .int u.2.1, .int u.2.2.1, .int u.2.2.2.1, .int u.2.2.2.2.1, .int u.2.2.2.2.2.1, .int u.2.2.2.2.2.2.1, .int u.2.2.2.2.2.2.2.1])), (aL, .inl (cI, 4, .inl L)), (aT, .inl (cI, 4, .inl T)), (aU, .inl (cI, 6, .inl u.2.2.2.2.2.2.2.2))] t.heap ∧ va_D (va_A [(kl, .inr (1, [.ref aK, .ref aF, .ref aS, .ref aB, .int (nI n), .ref rk])), (aK, .inl (cI, 60, .inl K)), (aF, .inl (cI, 60, .inl F)), (aS, .inl (cI, 60, .inl S)), (aB, .inl (cZ, 60, .inl B)), (rk, .inr (0, [.ref aL, .ref aT, .ref aU, .int co, .int pl, .int st, .int jo, .int cn, .int ii, .int fi, .int fe])), (aL, .inl (cI, 4, .inl L)), (aT, .inl (cI, 4, .inl T)), (aU, .inl (cI, 6, .inl U))] sz) [(kl, .inr (1, [.ref aK, .ref aF, .ref aS, .ref aB, .int (nI n), .ref rk])), (aK, .inl (cI, 60, .inl K)), (aF, .inl (cI, 60, .inl F)), (aS, .inl (cI, 60, .inl S)), (aB, .inl (cZ, 60, .inl B)), (rk, .inr (0, [.ref aL, .ref aT, .ref aU, .int u.1, .int u.2.1, .int u.2.2.1, .int u.2.2.2.1, .int u.2.2.2.2.1, .int u.2.2.2.2.2.1, .int u.2.2.2.2.2.2.1, .int u.2.2.2.2.2.2.2.1])), (aL, .inl (cI, 4, .inl L)), (aT, .inl (cI, 4, .inl T)), (aU, .inl (cI, 6, .inl u.2.2.2.2.2.2.2.2))]) (va_A [(kl, .inr (1, [.ref aK, .ref aF, .ref aS, .ref aB, .int (nI n), .ref rk])), (aK, .inl (cI, 60, .inl K)), (aF, .inl (cI, 60, .inl F)), (aS, .inl (cI, 60, .inl S)), (aB, .inl (cZ, 60, .inl B)), (rk, .inr (0, [.ref aL, .ref aT, .ref aU, .int co, .int pl, .int st, .int jo, .int cn, .int ii, .int fi, .int fe])), (aL, .inl (cI, 4, .inl L)), (aT, .inl (cI, 4, .inl T)), (aU, .inl (cI, 6, .inl U))] sz)) 0 0 (va_A [(kl, .inr (1, [.ref aK, .ref aF, .ref aS, .ref aB, .int (nI n), .ref rk])), (aK, .inl (cI, 60, .inl K)), (aF, .inl (cI, 60, .inl F)), (aS, .inl (cI, 60, .inl S)), (aB, .inl (cZ, 60, .inl B)), (rk, .inr (0, [.ref aL, .ref aT, .ref aU, .int co, .int pl, .int st, .int jo, .int cn, .int ii, .int fi, .int fe])), (aL, .inl (cI, 4, .inl L)), (aT, .inl (cI, 4, .inl T)), (aU, .inl (cI, 6, .inl U))] sz) := by
  refine Met.ofW (cc := cX1_reckon) (maxL := 6) (ret := none) (by decide) rfl ?_
  intro p e s m args below meth c s₁ BB hml hv
  obtain ⟨rfl, hsz, hP, hK, hD0, hN⟩ := hv
  have hx := BB.exec
  have hb := BB.bytes
  have hr := BB.returns
  have hts := atoms_spec (ws := wsX1_reckon) BB.pre
  have hown : s.vm.findClass RX1 = some m.cls := findClass_of_methodNamed BB.named
  have hlocks := BB.notSynchronized
  subst hsz
  have hD := hD0.self (sz := s.heap.size)
  generalize hAe : va_A [(kl, .inr (1, [.ref aK, .ref aF, .ref aS, .ref aB, .int (nI n), .ref rk])), (aK, .inl (cI, 60, .inl K)), (aF, .inl (cI, 60, .inl F)), (aS, .inl (cI, 60, .inl S)), (aB, .inl (cZ, 60, .inl B)), (rk, .inr (0, [.ref aL, .ref aT, .ref aU, .int co, .int pl, .int st, .int jo, .int cn, .int ii, .int fi, .int fe])), (aL, .inl (cI, 4, .inl L)), (aT, .inl (cI, 4, .inl T)), (aU, .inl (cI, 6, .inl U))] s.heap.size = A at hD ⊢
  have hA : ∀ q : Nat, s.heap.size ≤ q → A q := fun q h => by rw [← hAe]; exact Or.inr h
  have hS : va_S A s.heap s.heap [] := va_S.rf
  have hP : va_P (dC, dI) vwCl [(kl, .inr (1, [.ref aK, .ref aF, .ref aS, .ref aB, .int (nI n), .ref rk])), (aK, .inl (cI, 60, .inl K)), (aF, .inl (cI, 60, .inl F)), (aS, .inl (cI, 60, .inl S)), (aB, .inl (cZ, 60, .inl B)), (rk, .inr (0, [.ref aL, .ref aT, .ref aU, .int co, .int pl, .int st, .int jo, .int cn, .int ii, .int fi, .int fe])), (aL, .inl (cI, 4, .inl L)), (aT, .inl (cI, 4, .inl T)), (aU, .inl (cI, 6, .inl U))] s.heap := hP
  have hl := lv_entry ([.ref kl, .int (nI mm), .int fl]) (n := 6) (Nat.le_of_ble_eq_true rfl)
  rw [lg_entry_eq]
  generalize (lg_sl ([.ref kl, .int (nI mm), .int fl]) ++ List.replicate (6 - (lg_sl ([.ref kl, .int (nI mm), .int fl])).length) Slot.unset).toArray = ls at hl ⊢
  have hl : lv_has ls 6 [(0, .ref kl), (1, .int (nI mm)), (2, .int fl)] := hl
  have k0 := hts (.fieldLink RX1 30 "KnifeLedger" "reckoning" "LKnifeLedger$Reckoning;") (by decide +kernel)
  have hinX1 : ∀ w ∈ wsX10, w ∈ wsX1_reckon := by decide +kernel
  have k2 := hts (.initialized RX0) (by decide +kernel)
  have k3 := hts (.instanceMethod yX0_begin) (by decide +kernel)
  have k4 := hts (.selects RX0 yX0_begin yX0_begin) (by decide +kernel)
  have k5 := hts (.fieldLink RX1 19 "KnifeLedger" "struck" "[Z") (by decide +kernel)
  have k6 := hts (.fieldLink RX1 9 "KnifeLedger" "kinds" "[I") (by decide +kernel)
  have k7 := hts (.fieldLink RX1 13 "KnifeLedger" "firsts" "[I") (by decide +kernel)
  have k8 := hts (.fieldLink RX1 16 "KnifeLedger" "seconds" "[I") (by decide +kernel)
  have k9 := hts (.instanceMethod yX0_happens) (by decide +kernel)
  have k10 := hts (.selects RX0 yX0_happens yX0_happens) (by decide +kernel)
  have k11 := hts (.instanceMethod yX0_tally) (by decide +kernel)
  have k12 := hts (.selects RX0 yX0_tally yX0_tally) (by decide +kernel)
  refine lv_aload_n hx hb dX1_reckon_0 rfl (lv_at hl 0 rfl) ?_
  refine va_get (D := (dC, dI)) (ci := 1) (v := .ref rk) (C := RX1) (T := TX1) (N := 6) hx hb hts hinX1 hown hK hP 0 rfl rfl 5 (by decide) k0 (fun _ h9 => h9) rfl dX1_reckon_1 ?_
  have hPc := hP.sub (ws' := [(rk, .inr (0, [.ref aL, .ref aT, .ref aU, .int co, .int pl, .int st, .int jo, .int cn, .int ii, .int fi, .int fe])), (aL, .inl (cI, 4, .inl L)), (aT, .inl (cI, 4, .inl T)), (aU, .inl (cI, 6, .inl U))]) [5, 6, 7, 8] rfl
  have hDc := hD.sub (ws' := [(rk, .inr (0, [.ref aL, .ref aT, .ref aU, .int co, .int pl, .int st, .int jo, .int cn, .int ii, .int fi, .int fe])), (aL, .inl (cI, 4, .inl L)), (aT, .inl (cI, 4, .inl T)), (aU, .inl (cI, 6, .inl U))]) [5, 6, 7, 8] (by decide) rfl
  have hKc := hK.sub (tys' := [(cI, .int)]) [0] rfl
  have hFc := va_free (wc := [(rk, .inr (0, [.ref aL, .ref aT, .ref aU, .int co, .int pl, .int st, .int jo, .int cn, .int ii, .int fi, .int fe])), (aL, .inl (cI, 4, .inl L)), (aT, .inl (cI, 4, .inl T)), (aU, .inl (cI, 6, .inl U))]) hD hS hA [5, 6, 7, 8] rfl
  refine va_callv (va_runVN (As := []) (rest := []) ⟨hx, hb, hml, hown, hts⟩ (c_X0_begin l dC dI cI rk aL aT aU s.heap.size L T U co pl st jo cn ii fi fe) ⟨va_cnB (host := "KnifeLedger") 0 hts gX1_reckon_X0_begin_n146 rfl rfl rfl (nw_use0 hN (by decide +kernel)) k2 (by decide +kernel) ⟨Nat.le_of_ble_eq_true rfl, Nat.le_of_ble_eq_true rfl⟩, k3, k4⟩ (pc_V hKc hPc hDc (ci := 0) (C := RX0) (T := TX0) (N := 11) (q0 := 0) rfl rfl) rfl rfl hl.1 rfl (lv_room (Nat.le_of_ble_eq_true rfl)) dX1_reckon_4 ⟨Nat.le_of_ble_eq_true rfl, Nat.le_of_ble_eq_true rfl⟩) hS (fun q _ h => hFc q h) hFc (fun u t H_1 locs ht hvm hw hB hz1 hk1 hS => ?_)
  try dsimp only at hw hB
  have hw_1 := hw
  obtain ⟨hP1, hD1⟩ := hB
  rw [ht] at hP1
  obtain ⟨hP, hD⟩ := va_join (wr := [(kl, .inr (1, [.ref aK, .ref aF, .ref aS, .ref aB, .int (nI n), .ref rk])), (aK, .inl (cI, 60, .inl K)), (aF, .inl (cI, 60, .inl F)), (aS, .inl (cI, 60, .inl S)), (aB, .inl (cZ, 60, .inl B))]) (w1 := [(rk, .inr (0, [.ref aL, .ref aT, .ref aU, .int 10, .int 0, .int 0, .int 0, .int 0, .int 0, .int (-1), .int 10])), (aL, .inl (cI, 4, .inl L)), (aT, .inl (cI, 4, .inl T)), (aU, .inl (cI, 6, .inl U))]) hP hD [5, 6, 7, 8] [0, 1, 2, 3, 4] rfl rfl (by decide) (by decide) hk1 hFc hP1 hD1
  have hP : va_P (dC, dI) vwCl [(kl, .inr (1, [.ref aK, .ref aF, .ref aS, .ref aB, .int (nI n), .ref rk])), (aK, .inl (cI, 60, .inl K)), (aF, .inl (cI, 60, .inl F)), (aS, .inl (cI, 60, .inl S)), (aB, .inl (cZ, 60, .inl B)), (rk, .inr (0, [.ref aL, .ref aT, .ref aU, .int 10, .int 0, .int 0, .int 0, .int 0, .int 0, .int (-1), .int 10])), (aL, .inl (cI, 4, .inl L)), (aT, .inl (cI, 4, .inl T)), (aU, .inl (cI, 6, .inl U))] H_1 := hP
  have hD : va_D A [(kl, .inr (1, [.ref aK, .ref aF, .ref aS, .ref aB, .int (nI n), .ref rk])), (aK, .inl (cI, 60, .inl K)), (aF, .inl (cI, 60, .inl F)), (aS, .inl (cI, 60, .inl S)), (aB, .inl (cZ, 60, .inl B)), (rk, .inr (0, [.ref aL, .ref aT, .ref aU, .int 10, .int 0, .int 0, .int 0, .int 0, .int 0, .int (-1), .int 10])), (aL, .inl (cI, 4, .inl L)), (aT, .inl (cI, 4, .inl T)), (aU, .inl (cI, 6, .inl U))] := hD
  refine lv_iconst (v := 0) hx hb dX1_reckon_7 (by decide) ?_
  refine lv_istore_n (lv' := [(3, .int 0), (0, .ref kl), (1, .int (nI mm)), (2, .int fl)]) hx hb dX1_reckon_8 rfl hl (by decide) rfl (fun ls hl => ?_)
  refine (fun (KK : ∀ (nn9 : Nat) (i : Nat) (co2 : Int32) (pl2 : Int32) (st2 : Int32) (jo2 : Int32) (cn2 : Int32) (ii2 : Int32) (fi2 : Int32) (fe2 : Int32) (U2 : N2I) (H : Heap) (locs : List Loc) (ls : Array Slot) (hi : i ≤ mm) (hs : (co2, pl2, st2, jo2, cn2, ii2, fi2, fe2, U2) = mRec L T K F S (mFl B fl) U i), mm - i < nn9 → va_P (dC, dI) vwCl [(kl, .inr (1, [.ref aK, .ref aF, .ref aS, .ref aB, .int (nI n), .ref rk])), (aK, .inl (cI, 60, .inl K)), (aF, .inl (cI, 60, .inl F)), (aS, .inl (cI, 60, .inl S)), (aB, .inl (cZ, 60, .inl B)), (rk, .inr (0, [.ref aL, .ref aT, .ref aU, .int co2, .int pl2, .int st2, .int jo2, .int cn2, .int ii2, .int fi2, .int fe2])), (aL, .inl (cI, 4, .inl L)), (aT, .inl (cI, 4, .inl T)), (aU, .inl (cI, 6, .inl U2))] H → va_D A [(kl, .inr (1, [.ref aK, .ref aF, .ref aS, .ref aB, .int (nI n), .ref rk])), (aK, .inl (cI, 60, .inl K)), (aF, .inl (cI, 60, .inl F)), (aS, .inl (cI, 60, .inl S)), (aB, .inl (cZ, 60, .inl B)), (rk, .inr (0, [.ref aL, .ref aT, .ref aU, .int co2, .int pl2, .int st2, .int jo2, .int cn2, .int ii2, .int fi2, .int fe2])), (aL, .inl (cI, 4, .inl L)), (aT, .inl (cI, 4, .inl T)), (aU, .inl (cI, 6, .inl U2))] → va_S A s.heap H locs → lv_has ls 6 [(3, .int (nI i)), (0, .ref kl), (1, .int (nI mm)), (2, .int fl)] → W p l e _ s m _ below meth c H locs 0 0 _ (F0 m 9 ls [])) => KK (mm - 0 + 1) 0 10 0 0 0 0 0 (-1) 10 U _ _ _ (Nat.zero_le _) (rfl) (by omega) hP hD hS (lv_sub hl [0, 1, 2, 3] rfl)) ?_
  intro nn_9
  induction nn_9 with
  | zero => intro i co2 pl2 st2 jo2 cn2 ii2 fi2 fe2 U2 H locs ls hi hs hn9; exact absurd hn9 (Nat.not_lt_zero _)
  | succ nn_9 ih_9 =>
    intro i co2 pl2 st2 jo2 cn2 ii2 fi2 fe2 U2 H_2 locs ls hi hs hn_9 hP hD hS hl
    refine lv_iload_n hx hb dX1_reckon_9 rfl (lv_at hl 0 rfl) ?_
    refine lv_iload_n hx hb dX1_reckon_10 rfl (lv_at hl 2 rfl) ?_
    refine lv_icmp_ge (tgt := 88) hx hb dX1_reckon_11 (by decide) (fun c_11 => ?_) (fun c_11 => ?_)
    · -- 11
      have hge : i = mm := by rw [nI_leI (by have := hX.1; omega) (by have := hX.1; omega)] at c_11; omega
      have hpost : (co2, pl2, st2, jo2, cn2, ii2, fi2, fe2, U2) = mRec L T K F S (mFl B fl) U mm := by
        rw [← hge]; exact hs
      have hP9 := hP.sub (ws' := [(kl, .inr (1, [.ref aK, .ref aF, .ref aS, .ref aB, .int (nI n), .ref rk])), (aK, .inl (cI, 60, .inl K)), (aF, .inl (cI, 60, .inl F)), (aS, .inl (cI, 60, .inl S)), (aB, .inl (cZ, 60, .inl B)), (rk, .inr (0, [.ref aL, .ref aT, .ref aU, .int co2, .int pl2, .int st2, .int jo2, .int cn2, .int ii2, .int fi2, .int fe2])), (aL, .inl (cI, 4, .inl L)), (aT, .inl (cI, 4, .inl T)), (aU, .inl (cI, 6, .inl U2))]) [0, 1, 2, 3, 4, 5, 6, 7, 8] rfl
      have hD9 := hD.sub (ws' := [(kl, .inr (1, [.ref aK, .ref aF, .ref aS, .ref aB, .int (nI n), .ref rk])), (aK, .inl (cI, 60, .inl K)), (aF, .inl (cI, 60, .inl F)), (aS, .inl (cI, 60, .inl S)), (aB, .inl (cZ, 60, .inl B)), (rk, .inr (0, [.ref aL, .ref aT, .ref aU, .int co2, .int pl2, .int st2, .int jo2, .int cn2, .int ii2, .int fi2, .int fe2])), (aL, .inl (cI, 4, .inl L)), (aT, .inl (cI, 4, .inl T)), (aU, .inl (cI, 6, .inl U2))]) [0, 1, 2, 3, 4, 5, 6, 7, 8] (by decide) rfl
      exact W.vret hx hb hr (fun t ht hW => ⟨⟨(co2, pl2, st2, jo2, cn2, ii2, fi2, fe2, U2), rfl, hpost, by rw [ht]; exact hP9, hD9⟩, hS.F ht⟩) hS.2.2 dX1_reckon_88
    · -- 11
      have hlt : i < mm := by rw [nI_leI (by have := hX.1; omega) (by have := hX.1; omega)] at c_11; omega
      have hn6 : n ≤ 60 := hX.1
      refine lv_aload_n hx hb dX1_reckon_14 rfl (lv_at hl 1 rfl) ?_
      refine va_get (D := (dC, dI)) (ci := 1) (v := .ref aB) (C := RX1) (T := TX1) (N := 6) hx hb hts hinX1 hown hK hP 0 rfl rfl 3 (by decide) k5 (fun _ h9 => h9) rfl dX1_reckon_15 ?_
      refine lv_iload_n hx hb dX1_reckon_18 rfl (lv_at hl 0 rfl) ?_
      refine va_zald hx hb hK hP 4 1 rfl rfl (vp_in_nI (by omega) (by omega)) dX1_reckon_19 ?_
      rw [nI_clamp (n := i) (by omega)]
      refine lv_iload_n hx hb dX1_reckon_20 rfl (lv_at hl 0 rfl) ?_
      refine lv_iload_n hx hb dX1_reckon_21 rfl (lv_at hl 3 rfl) ?_
      refine lv_icmp_ne (tgt := 29) hx hb dX1_reckon_22 (by decide) (fun c_22 => ?_) (fun c_22 => ?_)
      · -- 22
        refine lv_iconst (v := 0) hx hb dX1_reckon_29 (by decide) ?_
        refine lv_icmp_eq (tgt := 37) hx hb dX1_reckon_30 (by decide) (fun c_30 => ?_) (fun c_30 => ?_)
        · -- 30
          refine lv_iconst (v := 0) hx hb dX1_reckon_37 (by decide) ?_
          refine lv_istore (lv' := [(4, .int 0), (3, .int (nI i)), (0, .ref kl), (1, .int (nI mm)), (2, .int fl)]) hx hb dX1_reckon_38 hl (by decide) rfl (fun ls hl => ?_)
          refine lv_iload hx hb dX1_reckon_40 (lv_at hl 0 rfl) ?_
          refine lv_if_ne (tgt := 82) hx hb dX1_reckon_42 (by decide) (fun h9 => absurd (by decide) h9) (fun _ => ?_)
          obtain ⟨hst9, hjo9, -⟩ := okX_hap hX (by omega) hs
          refine lv_aload_n hx hb dX1_reckon_45 rfl (lv_at hl 2 rfl) ?_
          refine va_get (D := (dC, dI)) (ci := 1) (v := .ref rk) (C := RX1) (T := TX1) (N := 6) hx hb hts hinX1 hown hK hP 0 rfl rfl 5 (by decide) k0 (fun _ h9 => h9) rfl dX1_reckon_46 ?_
          refine lv_aload_n hx hb dX1_reckon_49 rfl (lv_at hl 2 rfl) ?_
          refine va_get (D := (dC, dI)) (ci := 1) (v := .ref aK) (C := RX1) (T := TX1) (N := 6) hx hb hts hinX1 hown hK hP 0 rfl rfl 0 (by decide) k6 (fun _ h9 => h9) rfl dX1_reckon_50 ?_
          refine lv_iload_n hx hb dX1_reckon_53 rfl (lv_at hl 1 rfl) ?_
          refine va_iald hx hb hK hP 1 0 rfl rfl (vp_in_nI (by omega) (by omega)) dX1_reckon_54 ?_
          rw [nI_clamp (n := i) (by omega)]
          refine lv_aload_n hx hb dX1_reckon_55 rfl (lv_at hl 2 rfl) ?_
          refine va_get (D := (dC, dI)) (ci := 1) (v := .ref aF) (C := RX1) (T := TX1) (N := 6) hx hb hts hinX1 hown hK hP 0 rfl rfl 1 (by decide) k7 (fun _ h9 => h9) rfl dX1_reckon_56 ?_
          refine lv_iload_n hx hb dX1_reckon_59 rfl (lv_at hl 1 rfl) ?_
          refine va_iald hx hb hK hP 2 0 rfl rfl (vp_in_nI (by omega) (by omega)) dX1_reckon_60 ?_
          rw [nI_clamp (n := i) (by omega)]
          refine lv_aload_n hx hb dX1_reckon_61 rfl (lv_at hl 2 rfl) ?_
          refine va_get (D := (dC, dI)) (ci := 1) (v := .ref aS) (C := RX1) (T := TX1) (N := 6) hx hb hts hinX1 hown hK hP 0 rfl rfl 2 (by decide) k8 (fun _ h9 => h9) rfl dX1_reckon_62 ?_
          refine lv_iload_n hx hb dX1_reckon_65 rfl (lv_at hl 1 rfl) ?_
          refine va_iald hx hb hK hP 3 0 rfl rfl (vp_in_nI (by omega) (by omega)) dX1_reckon_66 ?_
          rw [nI_clamp (n := i) (by omega)]
          have hPc := hP.sub (ws' := [(rk, .inr (0, [.ref aL, .ref aT, .ref aU, .int co2, .int pl2, .int st2, .int jo2, .int cn2, .int ii2, .int fi2, .int fe2])), (aL, .inl (cI, 4, .inl L)), (aT, .inl (cI, 4, .inl T)), (aU, .inl (cI, 6, .inl U2))]) [5, 6, 7, 8] rfl
          have hDc := hD.sub (ws' := [(rk, .inr (0, [.ref aL, .ref aT, .ref aU, .int co2, .int pl2, .int st2, .int jo2, .int cn2, .int ii2, .int fi2, .int fe2])), (aL, .inl (cI, 4, .inl L)), (aT, .inl (cI, 4, .inl T)), (aU, .inl (cI, 6, .inl U2))]) [5, 6, 7, 8] (by decide) rfl
          have hKc := hK.sub (tys' := [(cI, .int)]) [0] rfl
          have hFc := va_free (wc := [(rk, .inr (0, [.ref aL, .ref aT, .ref aU, .int co2, .int pl2, .int st2, .int jo2, .int cn2, .int ii2, .int fi2, .int fe2])), (aL, .inl (cI, 4, .inl L)), (aT, .inl (cI, 4, .inl T)), (aU, .inl (cI, 6, .inl U2))]) hD hS hA [5, 6, 7, 8] rfl
          refine va_calli (va_runVN (As := [.int (K i), .int (F i), .int (S i)]) (rest := []) ⟨hx, hb, hml, hown, hts⟩ (c_X0_happens l dC dI cI rk aL aT aU H_2.size L T U2 co2 pl2 st2 jo2 cn2 ii2 fi2 fe2 (K i) (F i) (S i) (hjo9) (hst9) (hX.2.1 i (by omega))) ⟨va_cnB (host := "KnifeLedger") 3 hts gX1_reckon_X0_happens_n149 rfl rfl rfl (nw_use0 hN (by decide +kernel)) k2 (by decide +kernel) ⟨Nat.le_of_ble_eq_true rfl, Nat.le_of_ble_eq_true rfl⟩, k9, k10⟩ (pc_V hKc hPc hDc (ci := 0) (C := RX0) (T := TX0) (N := 11) (q0 := 0) rfl rfl) rfl rfl hl.1 rfl (lv_room (Nat.le_of_ble_eq_true rfl)) dX1_reckon_67 ⟨Nat.le_of_ble_eq_true rfl, Nat.le_of_ble_eq_true rfl⟩) hS (fun q _ h => hFc q h) hFc (fun r_3 u t H_3 locs ht hvm hw hB hz1 hk1 hS => ?_)
          obtain ⟨co1_3, pl1_3, st1_3, jo1_3, U1_3⟩ := u
          try dsimp only at hw hB
          have hw_3 := hw
          obtain ⟨hP1, hD1⟩ := hB
          rw [ht] at hP1
          obtain ⟨hP, hD⟩ := va_join (wr := [(kl, .inr (1, [.ref aK, .ref aF, .ref aS, .ref aB, .int (nI n), .ref rk])), (aK, .inl (cI, 60, .inl K)), (aF, .inl (cI, 60, .inl F)), (aS, .inl (cI, 60, .inl S)), (aB, .inl (cZ, 60, .inl B))]) (w1 := [(rk, .inr (0, [.ref aL, .ref aT, .ref aU, .int co1_3, .int pl1_3, .int st1_3, .int jo1_3, .int cn2, .int ii2, .int fi2, .int fe2])), (aL, .inl (cI, 4, .inl L)), (aT, .inl (cI, 4, .inl T)), (aU, .inl (cI, 6, .inl U1_3))]) hP hD [5, 6, 7, 8] [0, 1, 2, 3, 4] rfl rfl (by decide) (by decide) hk1 hFc hP1 hD1
          have hP : va_P (dC, dI) vwCl [(kl, .inr (1, [.ref aK, .ref aF, .ref aS, .ref aB, .int (nI n), .ref rk])), (aK, .inl (cI, 60, .inl K)), (aF, .inl (cI, 60, .inl F)), (aS, .inl (cI, 60, .inl S)), (aB, .inl (cZ, 60, .inl B)), (rk, .inr (0, [.ref aL, .ref aT, .ref aU, .int co1_3, .int pl1_3, .int st1_3, .int jo1_3, .int cn2, .int ii2, .int fi2, .int fe2])), (aL, .inl (cI, 4, .inl L)), (aT, .inl (cI, 4, .inl T)), (aU, .inl (cI, 6, .inl U1_3))] H_3 := hP
          have hD : va_D A [(kl, .inr (1, [.ref aK, .ref aF, .ref aS, .ref aB, .int (nI n), .ref rk])), (aK, .inl (cI, 60, .inl K)), (aF, .inl (cI, 60, .inl F)), (aS, .inl (cI, 60, .inl S)), (aB, .inl (cZ, 60, .inl B)), (rk, .inr (0, [.ref aL, .ref aT, .ref aU, .int co1_3, .int pl1_3, .int st1_3, .int jo1_3, .int cn2, .int ii2, .int fi2, .int fe2])), (aL, .inl (cI, 4, .inl L)), (aT, .inl (cI, 4, .inl T)), (aU, .inl (cI, 6, .inl U1_3))] := hD
          refine lv_istore (lv' := [(5, .int r_3), (4, .int 0), (3, .int (nI i)), (0, .ref kl), (1, .int (nI mm)), (2, .int fl)]) hx hb dX1_reckon_70 hl (by decide) rfl (fun ls hl => ?_)
          refine lv_aload_n hx hb dX1_reckon_72 rfl (lv_at hl 3 rfl) ?_
          refine va_get (D := (dC, dI)) (ci := 1) (v := .ref rk) (C := RX1) (T := TX1) (N := 6) hx hb hts hinX1 hown hK hP 0 rfl rfl 5 (by decide) k0 (fun _ h9 => h9) rfl dX1_reckon_73 ?_
          refine lv_iload_n hx hb dX1_reckon_76 rfl (lv_at hl 2 rfl) ?_
          refine lv_iload hx hb dX1_reckon_77 (lv_at hl 0 rfl) ?_
          have hPc := hP.sub (ws' := [(rk, .inr (0, [.ref aL, .ref aT, .ref aU, .int co1_3, .int pl1_3, .int st1_3, .int jo1_3, .int cn2, .int ii2, .int fi2, .int fe2])), (aL, .inl (cI, 4, .inl L)), (aT, .inl (cI, 4, .inl T)), (aU, .inl (cI, 6, .inl U1_3))]) [5, 6, 7, 8] rfl
          have hDc := hD.sub (ws' := [(rk, .inr (0, [.ref aL, .ref aT, .ref aU, .int co1_3, .int pl1_3, .int st1_3, .int jo1_3, .int cn2, .int ii2, .int fi2, .int fe2])), (aL, .inl (cI, 4, .inl L)), (aT, .inl (cI, 4, .inl T)), (aU, .inl (cI, 6, .inl U1_3))]) [5, 6, 7, 8] (by decide) rfl
          have hKc := hK.sub (tys' := [(cI, .int)]) [0] rfl
          have hFc := va_free (wc := [(rk, .inr (0, [.ref aL, .ref aT, .ref aU, .int co1_3, .int pl1_3, .int st1_3, .int jo1_3, .int cn2, .int ii2, .int fi2, .int fe2])), (aL, .inl (cI, 4, .inl L)), (aT, .inl (cI, 4, .inl T)), (aU, .inl (cI, 6, .inl U1_3))]) hD hS hA [5, 6, 7, 8] rfl
          refine va_callv (va_runVN (As := [.int (nI i), .int r_3]) (rest := []) ⟨hx, hb, hml, hown, hts⟩ (c_X0_tally l dC dI cI rk aL aT aU H_3.size L T U1_3 co1_3 pl1_3 st1_3 jo1_3 cn2 ii2 fi2 fe2 (nI i) r_3) ⟨va_cnB (host := "KnifeLedger") 2 hts gX1_reckon_X0_tally_n153 rfl rfl rfl (nw_use0 hN (by decide +kernel)) k2 (by decide +kernel) ⟨Nat.le_of_ble_eq_true rfl, Nat.le_of_ble_eq_true rfl⟩, k11, k12⟩ (pc_V hKc hPc hDc (ci := 0) (C := RX0) (T := TX0) (N := 11) (q0 := 0) rfl rfl) rfl rfl hl.1 rfl (lv_room (Nat.le_of_ble_eq_true rfl)) dX1_reckon_79 ⟨Nat.le_of_ble_eq_true rfl, Nat.le_of_ble_eq_true rfl⟩) hS (fun q _ h => hFc q h) hFc (fun u t H_4 locs ht hvm hw hB hz1 hk1 hS => ?_)
          obtain ⟨cn1_4, ii1_4, fi1_4, fe1_4⟩ := u
          try dsimp only at hw hB
          have hw_4 := hw
          obtain ⟨hP1, hD1⟩ := hB
          rw [ht] at hP1
          obtain ⟨hP, hD⟩ := va_join (wr := [(kl, .inr (1, [.ref aK, .ref aF, .ref aS, .ref aB, .int (nI n), .ref rk])), (aK, .inl (cI, 60, .inl K)), (aF, .inl (cI, 60, .inl F)), (aS, .inl (cI, 60, .inl S)), (aB, .inl (cZ, 60, .inl B))]) (w1 := [(rk, .inr (0, [.ref aL, .ref aT, .ref aU, .int co1_3, .int pl1_3, .int st1_3, .int jo1_3, .int cn1_4, .int ii1_4, .int fi1_4, .int fe1_4])), (aL, .inl (cI, 4, .inl L)), (aT, .inl (cI, 4, .inl T)), (aU, .inl (cI, 6, .inl U1_3))]) hP hD [5, 6, 7, 8] [0, 1, 2, 3, 4] rfl rfl (by decide) (by decide) hk1 hFc hP1 hD1
          have hP : va_P (dC, dI) vwCl [(kl, .inr (1, [.ref aK, .ref aF, .ref aS, .ref aB, .int (nI n), .ref rk])), (aK, .inl (cI, 60, .inl K)), (aF, .inl (cI, 60, .inl F)), (aS, .inl (cI, 60, .inl S)), (aB, .inl (cZ, 60, .inl B)), (rk, .inr (0, [.ref aL, .ref aT, .ref aU, .int co1_3, .int pl1_3, .int st1_3, .int jo1_3, .int cn1_4, .int ii1_4, .int fi1_4, .int fe1_4])), (aL, .inl (cI, 4, .inl L)), (aT, .inl (cI, 4, .inl T)), (aU, .inl (cI, 6, .inl U1_3))] H_4 := hP
          have hD : va_D A [(kl, .inr (1, [.ref aK, .ref aF, .ref aS, .ref aB, .int (nI n), .ref rk])), (aK, .inl (cI, 60, .inl K)), (aF, .inl (cI, 60, .inl F)), (aS, .inl (cI, 60, .inl S)), (aB, .inl (cZ, 60, .inl B)), (rk, .inr (0, [.ref aL, .ref aT, .ref aU, .int co1_3, .int pl1_3, .int st1_3, .int jo1_3, .int cn1_4, .int ii1_4, .int fi1_4, .int fe1_4])), (aL, .inl (cI, 4, .inl L)), (aT, .inl (cI, 4, .inl T)), (aU, .inl (cI, 6, .inl U1_3))] := hD
          refine lv_iinc (v := nI (i + 1)) (lv' := [(3, .int (nI (i + 1))), (5, .int r_3), (4, .int 0), (0, .ref kl), (1, .int (nI mm)), (2, .int fl)]) hx hb dX1_reckon_82 hl (k := 2) rfl (nI_1 _) (by decide) rfl (fun ls hl => ?_)
          refine lv_goto (tgt := 9) hx hb dX1_reckon_85 (by decide) ?_
          exact ih_9 (i + 1) co1_3 pl1_3 st1_3 jo1_3 cn1_4 ii1_4 fi1_4 fe1_4 U1_3 _ _ _ (by omega) (by rw [mRec_take (fl_in1 c_22 c_30), ← hs]; exact mStep_of hw_3 hw_4) (by omega) hP hD hS (lv_sub hl [0, 3, 4, 5] rfl)
        · -- 30
          refine lv_iconst (v := 1) hx hb dX1_reckon_33 (by decide) ?_
          refine lv_goto (tgt := 38) hx hb dX1_reckon_34 (by decide) ?_
          refine lv_istore (lv' := [(4, .int 1), (3, .int (nI i)), (0, .ref kl), (1, .int (nI mm)), (2, .int fl)]) hx hb dX1_reckon_38 hl (by decide) rfl (fun ls hl => ?_)
          refine lv_iload hx hb dX1_reckon_40 (lv_at hl 0 rfl) ?_
          refine lv_if_ne (tgt := 82) hx hb dX1_reckon_42 (by decide) (fun _ => ?_) (fun h9 => absurd h9 (by decide))
          refine lv_iinc (v := nI (i + 1)) (lv' := [(3, .int (nI (i + 1))), (4, .int 1), (0, .ref kl), (1, .int (nI mm)), (2, .int fl)]) hx hb dX1_reckon_82 hl (k := 1) rfl (nI_1 _) (by decide) rfl (fun ls hl => ?_)
          refine lv_goto (tgt := 9) hx hb dX1_reckon_85 (by decide) ?_
          exact ih_9 (i + 1) co2 pl2 st2 jo2 cn2 ii2 fi2 fe2 U2 _ _ _ (by omega) (by rw [mRec_skip (fl_out1 c_22 c_30)]; exact hs) (by omega) hP hD hS (lv_sub hl [0, 2, 3, 4] rfl)
      · -- 22
        refine lv_iconst (v := 1) hx hb dX1_reckon_25 (by decide) ?_
        refine lv_goto (tgt := 30) hx hb dX1_reckon_26 (by decide) ?_
        refine lv_icmp_eq (tgt := 37) hx hb dX1_reckon_30 (by decide) (fun c_30 => ?_) (fun c_30 => ?_)
        · -- 30
          refine lv_iconst (v := 0) hx hb dX1_reckon_37 (by decide) ?_
          refine lv_istore (lv' := [(4, .int 0), (3, .int (nI i)), (0, .ref kl), (1, .int (nI mm)), (2, .int fl)]) hx hb dX1_reckon_38 hl (by decide) rfl (fun ls hl => ?_)
          refine lv_iload hx hb dX1_reckon_40 (lv_at hl 0 rfl) ?_
          refine lv_if_ne (tgt := 82) hx hb dX1_reckon_42 (by decide) (fun h9 => absurd (by decide) h9) (fun _ => ?_)
          obtain ⟨hst9, hjo9, -⟩ := okX_hap hX (by omega) hs
          refine lv_aload_n hx hb dX1_reckon_45 rfl (lv_at hl 2 rfl) ?_
          refine va_get (D := (dC, dI)) (ci := 1) (v := .ref rk) (C := RX1) (T := TX1) (N := 6) hx hb hts hinX1 hown hK hP 0 rfl rfl 5 (by decide) k0 (fun _ h9 => h9) rfl dX1_reckon_46 ?_
          refine lv_aload_n hx hb dX1_reckon_49 rfl (lv_at hl 2 rfl) ?_
          refine va_get (D := (dC, dI)) (ci := 1) (v := .ref aK) (C := RX1) (T := TX1) (N := 6) hx hb hts hinX1 hown hK hP 0 rfl rfl 0 (by decide) k6 (fun _ h9 => h9) rfl dX1_reckon_50 ?_
          refine lv_iload_n hx hb dX1_reckon_53 rfl (lv_at hl 1 rfl) ?_
          refine va_iald hx hb hK hP 1 0 rfl rfl (vp_in_nI (by omega) (by omega)) dX1_reckon_54 ?_
          rw [nI_clamp (n := i) (by omega)]
          refine lv_aload_n hx hb dX1_reckon_55 rfl (lv_at hl 2 rfl) ?_
          refine va_get (D := (dC, dI)) (ci := 1) (v := .ref aF) (C := RX1) (T := TX1) (N := 6) hx hb hts hinX1 hown hK hP 0 rfl rfl 1 (by decide) k7 (fun _ h9 => h9) rfl dX1_reckon_56 ?_
          refine lv_iload_n hx hb dX1_reckon_59 rfl (lv_at hl 1 rfl) ?_
          refine va_iald hx hb hK hP 2 0 rfl rfl (vp_in_nI (by omega) (by omega)) dX1_reckon_60 ?_
          rw [nI_clamp (n := i) (by omega)]
          refine lv_aload_n hx hb dX1_reckon_61 rfl (lv_at hl 2 rfl) ?_
          refine va_get (D := (dC, dI)) (ci := 1) (v := .ref aS) (C := RX1) (T := TX1) (N := 6) hx hb hts hinX1 hown hK hP 0 rfl rfl 2 (by decide) k8 (fun _ h9 => h9) rfl dX1_reckon_62 ?_
          refine lv_iload_n hx hb dX1_reckon_65 rfl (lv_at hl 1 rfl) ?_
          refine va_iald hx hb hK hP 3 0 rfl rfl (vp_in_nI (by omega) (by omega)) dX1_reckon_66 ?_
          rw [nI_clamp (n := i) (by omega)]
          have hPc := hP.sub (ws' := [(rk, .inr (0, [.ref aL, .ref aT, .ref aU, .int co2, .int pl2, .int st2, .int jo2, .int cn2, .int ii2, .int fi2, .int fe2])), (aL, .inl (cI, 4, .inl L)), (aT, .inl (cI, 4, .inl T)), (aU, .inl (cI, 6, .inl U2))]) [5, 6, 7, 8] rfl
          have hDc := hD.sub (ws' := [(rk, .inr (0, [.ref aL, .ref aT, .ref aU, .int co2, .int pl2, .int st2, .int jo2, .int cn2, .int ii2, .int fi2, .int fe2])), (aL, .inl (cI, 4, .inl L)), (aT, .inl (cI, 4, .inl T)), (aU, .inl (cI, 6, .inl U2))]) [5, 6, 7, 8] (by decide) rfl
          have hKc := hK.sub (tys' := [(cI, .int)]) [0] rfl
          have hFc := va_free (wc := [(rk, .inr (0, [.ref aL, .ref aT, .ref aU, .int co2, .int pl2, .int st2, .int jo2, .int cn2, .int ii2, .int fi2, .int fe2])), (aL, .inl (cI, 4, .inl L)), (aT, .inl (cI, 4, .inl T)), (aU, .inl (cI, 6, .inl U2))]) hD hS hA [5, 6, 7, 8] rfl
          refine va_calli (va_runVN (As := [.int (K i), .int (F i), .int (S i)]) (rest := []) ⟨hx, hb, hml, hown, hts⟩ (c_X0_happens l dC dI cI rk aL aT aU H_2.size L T U2 co2 pl2 st2 jo2 cn2 ii2 fi2 fe2 (K i) (F i) (S i) (hjo9) (hst9) (hX.2.1 i (by omega))) ⟨va_cnB (host := "KnifeLedger") 3 hts gX1_reckon_X0_happens_n149 rfl rfl rfl (nw_use0 hN (by decide +kernel)) k2 (by decide +kernel) ⟨Nat.le_of_ble_eq_true rfl, Nat.le_of_ble_eq_true rfl⟩, k9, k10⟩ (pc_V hKc hPc hDc (ci := 0) (C := RX0) (T := TX0) (N := 11) (q0 := 0) rfl rfl) rfl rfl hl.1 rfl (lv_room (Nat.le_of_ble_eq_true rfl)) dX1_reckon_67 ⟨Nat.le_of_ble_eq_true rfl, Nat.le_of_ble_eq_true rfl⟩) hS (fun q _ h => hFc q h) hFc (fun r_5 u t H_5 locs ht hvm hw hB hz1 hk1 hS => ?_)
          obtain ⟨co1_5, pl1_5, st1_5, jo1_5, U1_5⟩ := u
          try dsimp only at hw hB
          have hw_5 := hw
          obtain ⟨hP1, hD1⟩ := hB
          rw [ht] at hP1
          obtain ⟨hP, hD⟩ := va_join (wr := [(kl, .inr (1, [.ref aK, .ref aF, .ref aS, .ref aB, .int (nI n), .ref rk])), (aK, .inl (cI, 60, .inl K)), (aF, .inl (cI, 60, .inl F)), (aS, .inl (cI, 60, .inl S)), (aB, .inl (cZ, 60, .inl B))]) (w1 := [(rk, .inr (0, [.ref aL, .ref aT, .ref aU, .int co1_5, .int pl1_5, .int st1_5, .int jo1_5, .int cn2, .int ii2, .int fi2, .int fe2])), (aL, .inl (cI, 4, .inl L)), (aT, .inl (cI, 4, .inl T)), (aU, .inl (cI, 6, .inl U1_5))]) hP hD [5, 6, 7, 8] [0, 1, 2, 3, 4] rfl rfl (by decide) (by decide) hk1 hFc hP1 hD1
          have hP : va_P (dC, dI) vwCl [(kl, .inr (1, [.ref aK, .ref aF, .ref aS, .ref aB, .int (nI n), .ref rk])), (aK, .inl (cI, 60, .inl K)), (aF, .inl (cI, 60, .inl F)), (aS, .inl (cI, 60, .inl S)), (aB, .inl (cZ, 60, .inl B)), (rk, .inr (0, [.ref aL, .ref aT, .ref aU, .int co1_5, .int pl1_5, .int st1_5, .int jo1_5, .int cn2, .int ii2, .int fi2, .int fe2])), (aL, .inl (cI, 4, .inl L)), (aT, .inl (cI, 4, .inl T)), (aU, .inl (cI, 6, .inl U1_5))] H_5 := hP
          have hD : va_D A [(kl, .inr (1, [.ref aK, .ref aF, .ref aS, .ref aB, .int (nI n), .ref rk])), (aK, .inl (cI, 60, .inl K)), (aF, .inl (cI, 60, .inl F)), (aS, .inl (cI, 60, .inl S)), (aB, .inl (cZ, 60, .inl B)), (rk, .inr (0, [.ref aL, .ref aT, .ref aU, .int co1_5, .int pl1_5, .int st1_5, .int jo1_5, .int cn2, .int ii2, .int fi2, .int fe2])), (aL, .inl (cI, 4, .inl L)), (aT, .inl (cI, 4, .inl T)), (aU, .inl (cI, 6, .inl U1_5))] := hD
          refine lv_istore (lv' := [(5, .int r_5), (4, .int 0), (3, .int (nI i)), (0, .ref kl), (1, .int (nI mm)), (2, .int fl)]) hx hb dX1_reckon_70 hl (by decide) rfl (fun ls hl => ?_)
          refine lv_aload_n hx hb dX1_reckon_72 rfl (lv_at hl 3 rfl) ?_
          refine va_get (D := (dC, dI)) (ci := 1) (v := .ref rk) (C := RX1) (T := TX1) (N := 6) hx hb hts hinX1 hown hK hP 0 rfl rfl 5 (by decide) k0 (fun _ h9 => h9) rfl dX1_reckon_73 ?_
          refine lv_iload_n hx hb dX1_reckon_76 rfl (lv_at hl 2 rfl) ?_
          refine lv_iload hx hb dX1_reckon_77 (lv_at hl 0 rfl) ?_
          have hPc := hP.sub (ws' := [(rk, .inr (0, [.ref aL, .ref aT, .ref aU, .int co1_5, .int pl1_5, .int st1_5, .int jo1_5, .int cn2, .int ii2, .int fi2, .int fe2])), (aL, .inl (cI, 4, .inl L)), (aT, .inl (cI, 4, .inl T)), (aU, .inl (cI, 6, .inl U1_5))]) [5, 6, 7, 8] rfl
          have hDc := hD.sub (ws' := [(rk, .inr (0, [.ref aL, .ref aT, .ref aU, .int co1_5, .int pl1_5, .int st1_5, .int jo1_5, .int cn2, .int ii2, .int fi2, .int fe2])), (aL, .inl (cI, 4, .inl L)), (aT, .inl (cI, 4, .inl T)), (aU, .inl (cI, 6, .inl U1_5))]) [5, 6, 7, 8] (by decide) rfl
          have hKc := hK.sub (tys' := [(cI, .int)]) [0] rfl
          have hFc := va_free (wc := [(rk, .inr (0, [.ref aL, .ref aT, .ref aU, .int co1_5, .int pl1_5, .int st1_5, .int jo1_5, .int cn2, .int ii2, .int fi2, .int fe2])), (aL, .inl (cI, 4, .inl L)), (aT, .inl (cI, 4, .inl T)), (aU, .inl (cI, 6, .inl U1_5))]) hD hS hA [5, 6, 7, 8] rfl
          refine va_callv (va_runVN (As := [.int (nI i), .int r_5]) (rest := []) ⟨hx, hb, hml, hown, hts⟩ (c_X0_tally l dC dI cI rk aL aT aU H_5.size L T U1_5 co1_5 pl1_5 st1_5 jo1_5 cn2 ii2 fi2 fe2 (nI i) r_5) ⟨va_cnB (host := "KnifeLedger") 2 hts gX1_reckon_X0_tally_n153 rfl rfl rfl (nw_use0 hN (by decide +kernel)) k2 (by decide +kernel) ⟨Nat.le_of_ble_eq_true rfl, Nat.le_of_ble_eq_true rfl⟩, k11, k12⟩ (pc_V hKc hPc hDc (ci := 0) (C := RX0) (T := TX0) (N := 11) (q0 := 0) rfl rfl) rfl rfl hl.1 rfl (lv_room (Nat.le_of_ble_eq_true rfl)) dX1_reckon_79 ⟨Nat.le_of_ble_eq_true rfl, Nat.le_of_ble_eq_true rfl⟩) hS (fun q _ h => hFc q h) hFc (fun u t H_6 locs ht hvm hw hB hz1 hk1 hS => ?_)
          obtain ⟨cn1_6, ii1_6, fi1_6, fe1_6⟩ := u
          try dsimp only at hw hB
          have hw_6 := hw
          obtain ⟨hP1, hD1⟩ := hB
          rw [ht] at hP1
          obtain ⟨hP, hD⟩ := va_join (wr := [(kl, .inr (1, [.ref aK, .ref aF, .ref aS, .ref aB, .int (nI n), .ref rk])), (aK, .inl (cI, 60, .inl K)), (aF, .inl (cI, 60, .inl F)), (aS, .inl (cI, 60, .inl S)), (aB, .inl (cZ, 60, .inl B))]) (w1 := [(rk, .inr (0, [.ref aL, .ref aT, .ref aU, .int co1_5, .int pl1_5, .int st1_5, .int jo1_5, .int cn1_6, .int ii1_6, .int fi1_6, .int fe1_6])), (aL, .inl (cI, 4, .inl L)), (aT, .inl (cI, 4, .inl T)), (aU, .inl (cI, 6, .inl U1_5))]) hP hD [5, 6, 7, 8] [0, 1, 2, 3, 4] rfl rfl (by decide) (by decide) hk1 hFc hP1 hD1
          have hP : va_P (dC, dI) vwCl [(kl, .inr (1, [.ref aK, .ref aF, .ref aS, .ref aB, .int (nI n), .ref rk])), (aK, .inl (cI, 60, .inl K)), (aF, .inl (cI, 60, .inl F)), (aS, .inl (cI, 60, .inl S)), (aB, .inl (cZ, 60, .inl B)), (rk, .inr (0, [.ref aL, .ref aT, .ref aU, .int co1_5, .int pl1_5, .int st1_5, .int jo1_5, .int cn1_6, .int ii1_6, .int fi1_6, .int fe1_6])), (aL, .inl (cI, 4, .inl L)), (aT, .inl (cI, 4, .inl T)), (aU, .inl (cI, 6, .inl U1_5))] H_6 := hP
          have hD : va_D A [(kl, .inr (1, [.ref aK, .ref aF, .ref aS, .ref aB, .int (nI n), .ref rk])), (aK, .inl (cI, 60, .inl K)), (aF, .inl (cI, 60, .inl F)), (aS, .inl (cI, 60, .inl S)), (aB, .inl (cZ, 60, .inl B)), (rk, .inr (0, [.ref aL, .ref aT, .ref aU, .int co1_5, .int pl1_5, .int st1_5, .int jo1_5, .int cn1_6, .int ii1_6, .int fi1_6, .int fe1_6])), (aL, .inl (cI, 4, .inl L)), (aT, .inl (cI, 4, .inl T)), (aU, .inl (cI, 6, .inl U1_5))] := hD
          refine lv_iinc (v := nI (i + 1)) (lv' := [(3, .int (nI (i + 1))), (5, .int r_5), (4, .int 0), (0, .ref kl), (1, .int (nI mm)), (2, .int fl)]) hx hb dX1_reckon_82 hl (k := 2) rfl (nI_1 _) (by decide) rfl (fun ls hl => ?_)
          refine lv_goto (tgt := 9) hx hb dX1_reckon_85 (by decide) ?_
          exact ih_9 (i + 1) co1_5 pl1_5 st1_5 jo1_5 cn1_6 ii1_6 fi1_6 fe1_6 U1_5 _ _ _ (by omega) (by rw [mRec_take (fl_in0 c_22 c_30), ← hs]; exact mStep_of hw_5 hw_6) (by omega) hP hD hS (lv_sub hl [0, 3, 4, 5] rfl)
        · -- 30
          refine lv_iconst (v := 1) hx hb dX1_reckon_33 (by decide) ?_
          refine lv_goto (tgt := 38) hx hb dX1_reckon_34 (by decide) ?_
          refine lv_istore (lv' := [(4, .int 1), (3, .int (nI i)), (0, .ref kl), (1, .int (nI mm)), (2, .int fl)]) hx hb dX1_reckon_38 hl (by decide) rfl (fun ls hl => ?_)
          refine lv_iload hx hb dX1_reckon_40 (lv_at hl 0 rfl) ?_
          refine lv_if_ne (tgt := 82) hx hb dX1_reckon_42 (by decide) (fun _ => ?_) (fun h9 => absurd h9 (by decide))
          refine lv_iinc (v := nI (i + 1)) (lv' := [(3, .int (nI (i + 1))), (4, .int 1), (0, .ref kl), (1, .int (nI mm)), (2, .int fl)]) hx hb dX1_reckon_82 hl (k := 1) rfl (nI_1 _) (by decide) rfl (fun ls hl => ?_)
          refine lv_goto (tgt := 9) hx hb dX1_reckon_85 (by decide) ?_
          exact ih_9 (i + 1) co2 pl2 st2 jo2 cn2 ii2 fi2 fe2 U2 _ _ _ (by omega) (by rw [mRec_skip (fl_out0 c_22 (hX.2.2 i) c_30)]; exact hs) (by omega) hP hD hS (lv_sub hl [0, 2, 3, 4] rfl)

set_option maxHeartbeats 4000000 in
set_option maxRecDepth 100000 in
theorem c_X1_coinsBehindAll (l : Launch) (dC : Nat → ClassId) (dI : Nat → Nat → Nat) (cI cZ : ClassId) (kl aK aF aS aB rk aL aT aU : Nat) (sz : Nat)  (L : N2I) (T : N2I) (K : N2I) (F : N2I) (S : N2I) (B : N2I) (U : N2I) (n : Nat) (co : Int32) (pl : Int32) (st : Int32) (jo : Int32) (cn : Int32) (ii : Int32) (fi : Int32) (fe : Int32) (fl : Int32) (hX : okX K F S B n) : Met l yX1_coinsBehindAll wsX1_coinsBehindAll ({ frames := 7, cells := 0, slots := 0, locals := 152 } : Room) (va_Pc [.ref kl, .int fl] (pn_  (dC, dI) [(cI, .int), (cZ, .boolean)] [(kl, .inr (1, [.ref aK, .ref aF, .ref aS, .ref aB, .int (nI n), .ref rk])), (aK, .inl (cI, 60, .inl K)), (aF, .inl (cI, 60, .inl F)), (aS, .inl (cI, 60, .inl S)), (aB, .inl (cZ, 60, .inl B)), (rk, .inr (0, [.ref aL, .ref aT, .ref aU, .int co, .int pl, .int st, .int jo, .int cn, .int ii, .int fi, .int fe])), (aL, .inl (cI, 4, .inl L)), (aT, .inl (cI, 4, .inl T)), (aU, .inl (cI, 6, .inl U))] sz)) (va_Qi (fun (r : Int32) (u : Int32 × Int32 × Int32 × Int32 × Int32 × Int32 × Int32 × Int32 × N2I) => (u.1, u.2.1, u.2.2.1, u.2.2.2.1, u.2.2.2.2.1, u.2.2.2.2.2.1, u.2.2.2.2.2.2.1, u.2.2.2.2.2.2.2.1, u.2.2.2.2.2.2.2.2) = mRec L T K F S (mFl B fl) U n ∧ r = u.1) (fun (u : Int32 × Int32 × Int32 × Int32 × Int32 × Int32 × Int32 × Int32 × N2I) (t : State) => va_P (dC, dI) vwCl [(kl, .inr (1, [.ref aK, .ref aF, .ref aS, .ref aB, .int (nI n), .ref rk])), (aK, .inl (cI, 60, .inl K)), (aF, .inl (cI, 60, .inl F)), (aS, .inl (cI, 60, .inl S)), (aB, .inl (cZ, 60, .inl B)), (rk, .inr (0, [.ref aL, .ref aT, .ref aU, .int u.1, .int u.2.1, .int u.2.2.1, .int u.2.2.2.1, .int u.2.2.2.2.1, .int u.2.2.2.2.2.1, .int u.2.2.2.2.2.2.1, .int u.2.2.2.2.2.2.2.1])), (aL, .inl (cI, 4, .inl L)), (aT, .inl (cI, 4, .inl T)), (aU, .inl (cI, 6, .inl u.2.2.2.2.2.2.2.2))] t.heap ∧ va_D (va_A [(kl, .inr (1, [.ref aK, .ref aF, .ref aS, .ref aB, .int (nI n), .ref rk])), (aK, .inl (cI, 60, .inl K)), (aF, .inl (cI, 60, .inl F)), (aS, .inl (cI, 60, .inl S)), (aB, .inl (cZ, 60, .inl B)), (rk, .inr (0, [.ref aL, .ref aT, .ref aU, .int co, .int pl, .int st, .int jo, .int cn, .int ii, .int fi, .int fe])), (aL, .inl (cI, 4, .inl L)), (aT, .inl (cI, 4, .inl T)), (aU, .inl (cI, 6, .inl U))] sz) [(kl, .inr (1, [.ref aK, .ref aF, .ref aS, .ref aB, .int (nI n), .ref rk])), (aK, .inl (cI, 60, .inl K)), (aF, .inl (cI, 60, .inl F)), (aS, .inl (cI, 60, .inl S)), (aB, .inl (cZ, 60, .inl B)), (rk, .inr (0, [.ref aL, .ref aT, .ref aU, .int u.1, .int u.2.1, .int u.2.2.1, .int u.2.2.2.1, .int u.2.2.2.2.1, .int u.2.2.2.2.2.1, .int u.2.2.2.2.2.2.1, .int u.2.2.2.2.2.2.2.1])), (aL, .inl (cI, 4, .inl L)), (aT, .inl (cI, 4, .inl T)), (aU, .inl (cI, 6, .inl u.2.2.2.2.2.2.2.2))]) (va_A [(kl, .inr (1, [.ref aK, .ref aF, .ref aS, .ref aB, .int (nI n), .ref rk])), (aK, .inl (cI, 60, .inl K)), (aF, .inl (cI, 60, .inl F)), (aS, .inl (cI, 60, .inl S)), (aB, .inl (cZ, 60, .inl B)), (rk, .inr (0, [.ref aL, .ref aT, .ref aU, .int co, .int pl, .int st, .int jo, .int cn, .int ii, .int fi, .int fe])), (aL, .inl (cI, 4, .inl L)), (aT, .inl (cI, 4, .inl T)), (aU, .inl (cI, 6, .inl U))] sz)) 0 0 (va_A [(kl, .inr (1, [.ref aK, .ref aF, .ref aS, .ref aB, .int (nI n), .ref rk])), (aK, .inl (cI, 60, .inl K)), (aF, .inl (cI, 60, .inl F)), (aS, .inl (cI, 60, .inl S)), (aB, .inl (cZ, 60, .inl B)), (rk, .inr (0, [.ref aL, .ref aT, .ref aU, .int co, .int pl, .int st, .int jo, .int cn, .int ii, .int fi, .int fe])), (aL, .inl (cI, 4, .inl L)), (aT, .inl (cI, 4, .inl T)), (aU, .inl (cI, 6, .inl U))] sz) := by
  refine Met.ofW (cc := cX1_coinsBehindAll) (maxL := 2) (ret := (some .int)) (by decide) rfl ?_
  intro p e s m args below meth c s₁ BB hml hv
  obtain ⟨rfl, hsz, hP, hK, hD0, hN⟩ := hv
  have hx := BB.exec
  have hb := BB.bytes
  have hr := BB.returns
  have hts := atoms_spec (ws := wsX1_coinsBehindAll) BB.pre
  have hown : s.vm.findClass RX1 = some m.cls := findClass_of_methodNamed BB.named
  have hlocks := BB.notSynchronized
  subst hsz
  have hD := hD0.self (sz := s.heap.size)
  generalize hAe : va_A [(kl, .inr (1, [.ref aK, .ref aF, .ref aS, .ref aB, .int (nI n), .ref rk])), (aK, .inl (cI, 60, .inl K)), (aF, .inl (cI, 60, .inl F)), (aS, .inl (cI, 60, .inl S)), (aB, .inl (cZ, 60, .inl B)), (rk, .inr (0, [.ref aL, .ref aT, .ref aU, .int co, .int pl, .int st, .int jo, .int cn, .int ii, .int fi, .int fe])), (aL, .inl (cI, 4, .inl L)), (aT, .inl (cI, 4, .inl T)), (aU, .inl (cI, 6, .inl U))] s.heap.size = A at hD ⊢
  have hA : ∀ q : Nat, s.heap.size ≤ q → A q := fun q h => by rw [← hAe]; exact Or.inr h
  have hS : va_S A s.heap s.heap [] := va_S.rf
  have hP : va_P (dC, dI) vwCl [(kl, .inr (1, [.ref aK, .ref aF, .ref aS, .ref aB, .int (nI n), .ref rk])), (aK, .inl (cI, 60, .inl K)), (aF, .inl (cI, 60, .inl F)), (aS, .inl (cI, 60, .inl S)), (aB, .inl (cZ, 60, .inl B)), (rk, .inr (0, [.ref aL, .ref aT, .ref aU, .int co, .int pl, .int st, .int jo, .int cn, .int ii, .int fi, .int fe])), (aL, .inl (cI, 4, .inl L)), (aT, .inl (cI, 4, .inl T)), (aU, .inl (cI, 6, .inl U))] s.heap := hP
  have hl := lv_entry ([.ref kl, .int fl]) (n := 2) (Nat.le_of_ble_eq_true rfl)
  rw [lg_entry_eq]
  generalize (lg_sl ([.ref kl, .int fl]) ++ List.replicate (2 - (lg_sl ([.ref kl, .int fl])).length) Slot.unset).toArray = ls at hl ⊢
  have hl : lv_has ls 2 [(0, .ref kl), (1, .int fl)] := hl
  have k0 := hts (.fieldLink RX1 23 "KnifeLedger" "size" "I") (by decide +kernel)
  have hinX1 : ∀ w ∈ wsX10, w ∈ wsX1_coinsBehindAll := by decide +kernel
  have k2 := hts (.fieldLink RX1 30 "KnifeLedger" "reckoning" "LKnifeLedger$Reckoning;") (by decide +kernel)
  have hinX0 : ∀ w ∈ wsX00, w ∈ wsX1_coinsBehindAll := by decide +kernel
  refine lv_aload_n hx hb dX1_coinsBehindAll_0 rfl (lv_at hl 0 rfl) ?_
  refine lv_aload_n hx hb dX1_coinsBehindAll_1 rfl (lv_at hl 0 rfl) ?_
  refine va_get (D := (dC, dI)) (ci := 1) (v := .int (nI n)) (C := RX1) (T := TX1) (N := 6) hx hb hts hinX1 hown hK hP 0 rfl rfl 4 (by decide) k0 (fun _ h9 => h9) rfl dX1_coinsBehindAll_2 ?_
  refine lv_iload_n hx hb dX1_coinsBehindAll_5 rfl (lv_at hl 1 rfl) ?_
  have hPc := hP.sub (ws' := [(kl, .inr (1, [.ref aK, .ref aF, .ref aS, .ref aB, .int (nI n), .ref rk])), (aK, .inl (cI, 60, .inl K)), (aF, .inl (cI, 60, .inl F)), (aS, .inl (cI, 60, .inl S)), (aB, .inl (cZ, 60, .inl B)), (rk, .inr (0, [.ref aL, .ref aT, .ref aU, .int co, .int pl, .int st, .int jo, .int cn, .int ii, .int fi, .int fe])), (aL, .inl (cI, 4, .inl L)), (aT, .inl (cI, 4, .inl T)), (aU, .inl (cI, 6, .inl U))]) [0, 1, 2, 3, 4, 5, 6, 7, 8] rfl
  have hDc := hD.sub (ws' := [(kl, .inr (1, [.ref aK, .ref aF, .ref aS, .ref aB, .int (nI n), .ref rk])), (aK, .inl (cI, 60, .inl K)), (aF, .inl (cI, 60, .inl F)), (aS, .inl (cI, 60, .inl S)), (aB, .inl (cZ, 60, .inl B)), (rk, .inr (0, [.ref aL, .ref aT, .ref aU, .int co, .int pl, .int st, .int jo, .int cn, .int ii, .int fi, .int fe])), (aL, .inl (cI, 4, .inl L)), (aT, .inl (cI, 4, .inl T)), (aU, .inl (cI, 6, .inl U))]) [0, 1, 2, 3, 4, 5, 6, 7, 8] (by decide) rfl
  have hKc := hK.sub (tys' := [(cI, .int), (cZ, .boolean)]) [0, 1] rfl
  have hFc := va_free (wc := [(kl, .inr (1, [.ref aK, .ref aF, .ref aS, .ref aB, .int (nI n), .ref rk])), (aK, .inl (cI, 60, .inl K)), (aF, .inl (cI, 60, .inl F)), (aS, .inl (cI, 60, .inl S)), (aB, .inl (cZ, 60, .inl B)), (rk, .inr (0, [.ref aL, .ref aT, .ref aU, .int co, .int pl, .int st, .int jo, .int cn, .int ii, .int fi, .int fe])), (aL, .inl (cI, 4, .inl L)), (aT, .inl (cI, 4, .inl T)), (aU, .inl (cI, 6, .inl U))]) hD hS hA [0, 1, 2, 3, 4, 5, 6, 7, 8] rfl
  refine va_callv (va_runV (As := [.int (nI n), .int fl]) (rest := []) ⟨hx, hb, hml, hown, hts⟩ (c_X1_reckon l dC dI cI cZ kl aK aF aS aB rk aL aT aU s.heap.size L T K F S B U n co pl st jo cn ii fi fe n fl (hX) (Nat.le_refl n)) (cwV 2 hts gX1_coinsBehindAll_X1_reckon rfl rfl rfl (by decide +kernel) ⟨Nat.le_of_ble_eq_true rfl, Nat.le_of_ble_eq_true rfl⟩) (pn_V hN hKc hPc hDc (ci := 1) (C := RX1) (T := TX1) (N := 6) (q0 := 0) rfl rfl) rfl rfl hl.1 rfl (lv_room (Nat.le_of_ble_eq_true rfl)) dX1_coinsBehindAll_6 ⟨Nat.le_of_ble_eq_true rfl, Nat.le_of_ble_eq_true rfl⟩) hS (fun q _ h => hFc q h) hFc (fun u t H_1 locs ht hvm hw hB hz1 hk1 hS => ?_)
  obtain ⟨co1_1, pl1_1, st1_1, jo1_1, cn1_1, ii1_1, fi1_1, fe1_1, U1_1⟩ := u
  try dsimp only at hw hB
  have hw_1 := hw
  obtain ⟨hP1, hD1⟩ := hB
  rw [ht] at hP1
  obtain ⟨hP, hD⟩ := va_join (wr := []) (w1 := [(kl, .inr (1, [.ref aK, .ref aF, .ref aS, .ref aB, .int (nI n), .ref rk])), (aK, .inl (cI, 60, .inl K)), (aF, .inl (cI, 60, .inl F)), (aS, .inl (cI, 60, .inl S)), (aB, .inl (cZ, 60, .inl B)), (rk, .inr (0, [.ref aL, .ref aT, .ref aU, .int co1_1, .int pl1_1, .int st1_1, .int jo1_1, .int cn1_1, .int ii1_1, .int fi1_1, .int fe1_1])), (aL, .inl (cI, 4, .inl L)), (aT, .inl (cI, 4, .inl T)), (aU, .inl (cI, 6, .inl U1_1))]) hP hD [0, 1, 2, 3, 4, 5, 6, 7, 8] [] rfl rfl (by decide) (by decide) hk1 hFc hP1 hD1
  have hP : va_P (dC, dI) vwCl [(kl, .inr (1, [.ref aK, .ref aF, .ref aS, .ref aB, .int (nI n), .ref rk])), (aK, .inl (cI, 60, .inl K)), (aF, .inl (cI, 60, .inl F)), (aS, .inl (cI, 60, .inl S)), (aB, .inl (cZ, 60, .inl B)), (rk, .inr (0, [.ref aL, .ref aT, .ref aU, .int co1_1, .int pl1_1, .int st1_1, .int jo1_1, .int cn1_1, .int ii1_1, .int fi1_1, .int fe1_1])), (aL, .inl (cI, 4, .inl L)), (aT, .inl (cI, 4, .inl T)), (aU, .inl (cI, 6, .inl U1_1))] H_1 := hP
  have hD : va_D A [(kl, .inr (1, [.ref aK, .ref aF, .ref aS, .ref aB, .int (nI n), .ref rk])), (aK, .inl (cI, 60, .inl K)), (aF, .inl (cI, 60, .inl F)), (aS, .inl (cI, 60, .inl S)), (aB, .inl (cZ, 60, .inl B)), (rk, .inr (0, [.ref aL, .ref aT, .ref aU, .int co1_1, .int pl1_1, .int st1_1, .int jo1_1, .int cn1_1, .int ii1_1, .int fi1_1, .int fe1_1])), (aL, .inl (cI, 4, .inl L)), (aT, .inl (cI, 4, .inl T)), (aU, .inl (cI, 6, .inl U1_1))] := hD
  refine lv_aload_n hx hb dX1_coinsBehindAll_9 rfl (lv_at hl 0 rfl) ?_
  refine va_get (D := (dC, dI)) (ci := 1) (v := .ref rk) (C := RX1) (T := TX1) (N := 6) hx hb hts hinX1 hown hK hP 0 rfl rfl 5 (by decide) k2 (fun _ h9 => h9) rfl dX1_coinsBehindAll_10 ?_
  refine va_getN (D := (dC, dI)) (ci := 0) (v := .int co1_1) (C := RX0) (T := TX0) (N := 11) hx hb hts hinX0 hown hK hP 5 rfl rfl 3 (by decide) (nw_use hN (by decide +kernel) : (Cond.fieldLinkNest RX1 69 "KnifeLedger$Reckoning" "coins" "I" "KnifeLedger").before _ _ = true) (fun _ h9 => h9) rfl dX1_coinsBehindAll_13 ?_
  have hpost : (co1_1, pl1_1, st1_1, jo1_1, cn1_1, ii1_1, fi1_1, fe1_1, U1_1) = mRec L T K F S (mFl B fl) U n ∧ co1_1 = co1_1 := by
    exact ⟨hw_1, rfl⟩
  have hP9 := hP.sub (ws' := [(kl, .inr (1, [.ref aK, .ref aF, .ref aS, .ref aB, .int (nI n), .ref rk])), (aK, .inl (cI, 60, .inl K)), (aF, .inl (cI, 60, .inl F)), (aS, .inl (cI, 60, .inl S)), (aB, .inl (cZ, 60, .inl B)), (rk, .inr (0, [.ref aL, .ref aT, .ref aU, .int co1_1, .int pl1_1, .int st1_1, .int jo1_1, .int cn1_1, .int ii1_1, .int fi1_1, .int fe1_1])), (aL, .inl (cI, 4, .inl L)), (aT, .inl (cI, 4, .inl T)), (aU, .inl (cI, 6, .inl U1_1))]) [0, 1, 2, 3, 4, 5, 6, 7, 8] rfl
  have hD9 := hD.sub (ws' := [(kl, .inr (1, [.ref aK, .ref aF, .ref aS, .ref aB, .int (nI n), .ref rk])), (aK, .inl (cI, 60, .inl K)), (aF, .inl (cI, 60, .inl F)), (aS, .inl (cI, 60, .inl S)), (aB, .inl (cZ, 60, .inl B)), (rk, .inr (0, [.ref aL, .ref aT, .ref aU, .int co1_1, .int pl1_1, .int st1_1, .int jo1_1, .int cn1_1, .int ii1_1, .int fi1_1, .int fe1_1])), (aL, .inl (cI, 4, .inl L)), (aT, .inl (cI, 4, .inl T)), (aU, .inl (cI, 6, .inl U1_1))]) [0, 1, 2, 3, 4, 5, 6, 7, 8] (by decide) rfl
  exact W.iret (v := co1_1) hx hb hr (fun t ht hW => ⟨⟨co1_1, (co1_1, pl1_1, st1_1, jo1_1, cn1_1, ii1_1, fi1_1, fe1_1, U1_1), rfl, hpost, by rw [ht]; exact hP9, hD9⟩, hS.F ht⟩) hS.2.2 dX1_coinsBehindAll_16

set_option maxHeartbeats 4000000 in
set_option maxRecDepth 100000 in
theorem c_X1_counts (l : Launch) (dC : Nat → ClassId) (dI : Nat → Nat → Nat) (cI cZ : ClassId) (kl aK aF aS aB rk aL aT aU : Nat) (sz : Nat)  (L : N2I) (T : N2I) (K : N2I) (F : N2I) (S : N2I) (B : N2I) (U : N2I) (n : Nat) (co : Int32) (pl : Int32) (st : Int32) (jo : Int32) (cn : Int32) (ii : Int32) (fi : Int32) (fe : Int32) (i : Nat) (hX : okX K F S B n) (hi : i < n) : Met l yX1_counts wsX1_counts ({ frames := 7, cells := 0, slots := 0, locals := 152 } : Room) (va_Pc [.ref kl, .int (nI i)] (pn_  (dC, dI) [(cI, .int), (cZ, .boolean)] [(kl, .inr (1, [.ref aK, .ref aF, .ref aS, .ref aB, .int (nI n), .ref rk])), (aK, .inl (cI, 60, .inl K)), (aF, .inl (cI, 60, .inl F)), (aS, .inl (cI, 60, .inl S)), (aB, .inl (cZ, 60, .inl B)), (rk, .inr (0, [.ref aL, .ref aT, .ref aU, .int co, .int pl, .int st, .int jo, .int cn, .int ii, .int fi, .int fe])), (aL, .inl (cI, 4, .inl L)), (aT, .inl (cI, 4, .inl T)), (aU, .inl (cI, 6, .inl U))] sz)) (va_Qi (fun (r : Int32) (u : Int32 × Int32 × Int32 × Int32 × Int32 × Int32 × Int32 × Int32 × N2I) => r = aCnt L T K F S B i) (fun (u : Int32 × Int32 × Int32 × Int32 × Int32 × Int32 × Int32 × Int32 × N2I) (t : State) => va_P (dC, dI) vwCl [(kl, .inr (1, [.ref aK, .ref aF, .ref aS, .ref aB, .int (nI n), .ref rk])), (aK, .inl (cI, 60, .inl K)), (aF, .inl (cI, 60, .inl F)), (aS, .inl (cI, 60, .inl S)), (aB, .inl (cZ, 60, .inl B)), (rk, .inr (0, [.ref aL, .ref aT, .ref aU, .int u.1, .int u.2.1, .int u.2.2.1, .int u.2.2.2.1, .int u.2.2.2.2.1, .int u.2.2.2.2.2.1, .int u.2.2.2.2.2.2.1, .int u.2.2.2.2.2.2.2.1])), (aL, .inl (cI, 4, .inl L)), (aT, .inl (cI, 4, .inl T)), (aU, .inl (cI, 6, .inl u.2.2.2.2.2.2.2.2))] t.heap ∧ va_D (va_A [(kl, .inr (1, [.ref aK, .ref aF, .ref aS, .ref aB, .int (nI n), .ref rk])), (aK, .inl (cI, 60, .inl K)), (aF, .inl (cI, 60, .inl F)), (aS, .inl (cI, 60, .inl S)), (aB, .inl (cZ, 60, .inl B)), (rk, .inr (0, [.ref aL, .ref aT, .ref aU, .int co, .int pl, .int st, .int jo, .int cn, .int ii, .int fi, .int fe])), (aL, .inl (cI, 4, .inl L)), (aT, .inl (cI, 4, .inl T)), (aU, .inl (cI, 6, .inl U))] sz) [(kl, .inr (1, [.ref aK, .ref aF, .ref aS, .ref aB, .int (nI n), .ref rk])), (aK, .inl (cI, 60, .inl K)), (aF, .inl (cI, 60, .inl F)), (aS, .inl (cI, 60, .inl S)), (aB, .inl (cZ, 60, .inl B)), (rk, .inr (0, [.ref aL, .ref aT, .ref aU, .int u.1, .int u.2.1, .int u.2.2.1, .int u.2.2.2.1, .int u.2.2.2.2.1, .int u.2.2.2.2.2.1, .int u.2.2.2.2.2.2.1, .int u.2.2.2.2.2.2.2.1])), (aL, .inl (cI, 4, .inl L)), (aT, .inl (cI, 4, .inl T)), (aU, .inl (cI, 6, .inl u.2.2.2.2.2.2.2.2))]) (va_A [(kl, .inr (1, [.ref aK, .ref aF, .ref aS, .ref aB, .int (nI n), .ref rk])), (aK, .inl (cI, 60, .inl K)), (aF, .inl (cI, 60, .inl F)), (aS, .inl (cI, 60, .inl S)), (aB, .inl (cZ, 60, .inl B)), (rk, .inr (0, [.ref aL, .ref aT, .ref aU, .int co, .int pl, .int st, .int jo, .int cn, .int ii, .int fi, .int fe])), (aL, .inl (cI, 4, .inl L)), (aT, .inl (cI, 4, .inl T)), (aU, .inl (cI, 6, .inl U))] sz)) 0 0 (va_A [(kl, .inr (1, [.ref aK, .ref aF, .ref aS, .ref aB, .int (nI n), .ref rk])), (aK, .inl (cI, 60, .inl K)), (aF, .inl (cI, 60, .inl F)), (aS, .inl (cI, 60, .inl S)), (aB, .inl (cZ, 60, .inl B)), (rk, .inr (0, [.ref aL, .ref aT, .ref aU, .int co, .int pl, .int st, .int jo, .int cn, .int ii, .int fi, .int fe])), (aL, .inl (cI, 4, .inl L)), (aT, .inl (cI, 4, .inl T)), (aU, .inl (cI, 6, .inl U))] sz) := by
  refine Met.ofW (cc := cX1_counts) (maxL := 2) (ret := (some .boolean)) (by decide) rfl ?_
  intro p e s m args below meth c s₁ BB hml hv
  obtain ⟨rfl, hsz, hP, hK, hD0, hN⟩ := hv
  have hx := BB.exec
  have hb := BB.bytes
  have hr := BB.returns
  have hts := atoms_spec (ws := wsX1_counts) BB.pre
  have hown : s.vm.findClass RX1 = some m.cls := findClass_of_methodNamed BB.named
  have hlocks := BB.notSynchronized
  subst hsz
  have hD := hD0.self (sz := s.heap.size)
  generalize hAe : va_A [(kl, .inr (1, [.ref aK, .ref aF, .ref aS, .ref aB, .int (nI n), .ref rk])), (aK, .inl (cI, 60, .inl K)), (aF, .inl (cI, 60, .inl F)), (aS, .inl (cI, 60, .inl S)), (aB, .inl (cZ, 60, .inl B)), (rk, .inr (0, [.ref aL, .ref aT, .ref aU, .int co, .int pl, .int st, .int jo, .int cn, .int ii, .int fi, .int fe])), (aL, .inl (cI, 4, .inl L)), (aT, .inl (cI, 4, .inl T)), (aU, .inl (cI, 6, .inl U))] s.heap.size = A at hD ⊢
  have hA : ∀ q : Nat, s.heap.size ≤ q → A q := fun q h => by rw [← hAe]; exact Or.inr h
  have hS : va_S A s.heap s.heap [] := va_S.rf
  have hP : va_P (dC, dI) vwCl [(kl, .inr (1, [.ref aK, .ref aF, .ref aS, .ref aB, .int (nI n), .ref rk])), (aK, .inl (cI, 60, .inl K)), (aF, .inl (cI, 60, .inl F)), (aS, .inl (cI, 60, .inl S)), (aB, .inl (cZ, 60, .inl B)), (rk, .inr (0, [.ref aL, .ref aT, .ref aU, .int co, .int pl, .int st, .int jo, .int cn, .int ii, .int fi, .int fe])), (aL, .inl (cI, 4, .inl L)), (aT, .inl (cI, 4, .inl T)), (aU, .inl (cI, 6, .inl U))] s.heap := hP
  have hl := lv_entry ([.ref kl, .int (nI i)]) (n := 2) (Nat.le_of_ble_eq_true rfl)
  rw [lg_entry_eq]
  generalize (lg_sl ([.ref kl, .int (nI i)]) ++ List.replicate (2 - (lg_sl ([.ref kl, .int (nI i)])).length) Slot.unset).toArray = ls at hl ⊢
  have hl : lv_has ls 2 [(0, .ref kl), (1, .int (nI i))] := hl
  have k0 := hts (.fieldLink RX1 19 "KnifeLedger" "struck" "[Z") (by decide +kernel)
  have hinX1 : ∀ w ∈ wsX10, w ∈ wsX1_counts := by decide +kernel
  have k2 := hts (.fieldLink RX1 30 "KnifeLedger" "reckoning" "LKnifeLedger$Reckoning;") (by decide +kernel)
  have k3 := hts (.fieldLink RX1 9 "KnifeLedger" "kinds" "[I") (by decide +kernel)
  have k4 := hts (.fieldLink RX1 13 "KnifeLedger" "firsts" "[I") (by decide +kernel)
  have k5 := hts (.fieldLink RX1 16 "KnifeLedger" "seconds" "[I") (by decide +kernel)
  have k6 := hts (.initialized RX0) (by decide +kernel)
  have k7 := hts (.instanceMethod yX0_happens) (by decide +kernel)
  have k8 := hts (.selects RX0 yX0_happens yX0_happens) (by decide +kernel)
  have hn6 : n ≤ 60 := hX.1
  refine lv_aload_n hx hb dX1_counts_0 rfl (lv_at hl 0 rfl) ?_
  refine va_get (D := (dC, dI)) (ci := 1) (v := .ref aB) (C := RX1) (T := TX1) (N := 6) hx hb hts hinX1 hown hK hP 0 rfl rfl 3 (by decide) k0 (fun _ h9 => h9) rfl dX1_counts_1 ?_
  refine lv_iload_n hx hb dX1_counts_4 rfl (lv_at hl 1 rfl) ?_
  refine va_zald hx hb hK hP 4 1 rfl rfl (vp_in_nI (by omega) (by omega)) dX1_counts_5 ?_
  rw [nI_clamp (n := i) (by omega)]
  refine lv_if_eq (tgt := 11) hx hb dX1_counts_6 (by decide) (fun c_6 => ?_) (fun c_6 => ?_)
  · -- 6
    refine lv_aload_n hx hb dX1_counts_11 rfl (lv_at hl 0 rfl) ?_
    refine lv_iload_n hx hb dX1_counts_12 rfl (lv_at hl 1 rfl) ?_
    refine lv_iconst (v := (-1)) hx hb dX1_counts_13 (by decide) ?_
    have hPc := hP.sub (ws' := [(kl, .inr (1, [.ref aK, .ref aF, .ref aS, .ref aB, .int (nI n), .ref rk])), (aK, .inl (cI, 60, .inl K)), (aF, .inl (cI, 60, .inl F)), (aS, .inl (cI, 60, .inl S)), (aB, .inl (cZ, 60, .inl B)), (rk, .inr (0, [.ref aL, .ref aT, .ref aU, .int co, .int pl, .int st, .int jo, .int cn, .int ii, .int fi, .int fe])), (aL, .inl (cI, 4, .inl L)), (aT, .inl (cI, 4, .inl T)), (aU, .inl (cI, 6, .inl U))]) [0, 1, 2, 3, 4, 5, 6, 7, 8] rfl
    have hDc := hD.sub (ws' := [(kl, .inr (1, [.ref aK, .ref aF, .ref aS, .ref aB, .int (nI n), .ref rk])), (aK, .inl (cI, 60, .inl K)), (aF, .inl (cI, 60, .inl F)), (aS, .inl (cI, 60, .inl S)), (aB, .inl (cZ, 60, .inl B)), (rk, .inr (0, [.ref aL, .ref aT, .ref aU, .int co, .int pl, .int st, .int jo, .int cn, .int ii, .int fi, .int fe])), (aL, .inl (cI, 4, .inl L)), (aT, .inl (cI, 4, .inl T)), (aU, .inl (cI, 6, .inl U))]) [0, 1, 2, 3, 4, 5, 6, 7, 8] (by decide) rfl
    have hKc := hK.sub (tys' := [(cI, .int), (cZ, .boolean)]) [0, 1] rfl
    have hFc := va_free (wc := [(kl, .inr (1, [.ref aK, .ref aF, .ref aS, .ref aB, .int (nI n), .ref rk])), (aK, .inl (cI, 60, .inl K)), (aF, .inl (cI, 60, .inl F)), (aS, .inl (cI, 60, .inl S)), (aB, .inl (cZ, 60, .inl B)), (rk, .inr (0, [.ref aL, .ref aT, .ref aU, .int co, .int pl, .int st, .int jo, .int cn, .int ii, .int fi, .int fe])), (aL, .inl (cI, 4, .inl L)), (aT, .inl (cI, 4, .inl T)), (aU, .inl (cI, 6, .inl U))]) hD hS hA [0, 1, 2, 3, 4, 5, 6, 7, 8] rfl
    refine va_callv (va_runV (As := [.int (nI i), .int (-1)]) (rest := []) ⟨hx, hb, hml, hown, hts⟩ (c_X1_reckon l dC dI cI cZ kl aK aF aS aB rk aL aT aU s.heap.size L T K F S B U n co pl st jo cn ii fi fe i (-1) (hX) (by omega)) (cwV 2 hts gX1_counts_X1_reckon rfl rfl rfl (by decide +kernel) ⟨Nat.le_of_ble_eq_true rfl, Nat.le_of_ble_eq_true rfl⟩) (pn_V hN hKc hPc hDc (ci := 1) (C := RX1) (T := TX1) (N := 6) (q0 := 0) rfl rfl) rfl rfl hl.1 rfl (lv_room (Nat.le_of_ble_eq_true rfl)) dX1_counts_14 ⟨Nat.le_of_ble_eq_true rfl, Nat.le_of_ble_eq_true rfl⟩) hS (fun q _ h => hFc q h) hFc (fun u t H_1 locs ht hvm hw hB hz1 hk1 hS => ?_)
    obtain ⟨co1_1, pl1_1, st1_1, jo1_1, cn1_1, ii1_1, fi1_1, fe1_1, U1_1⟩ := u
    try dsimp only at hw hB
    have hw_1 := hw
    obtain ⟨hP1, hD1⟩ := hB
    rw [ht] at hP1
    obtain ⟨hP, hD⟩ := va_join (wr := []) (w1 := [(kl, .inr (1, [.ref aK, .ref aF, .ref aS, .ref aB, .int (nI n), .ref rk])), (aK, .inl (cI, 60, .inl K)), (aF, .inl (cI, 60, .inl F)), (aS, .inl (cI, 60, .inl S)), (aB, .inl (cZ, 60, .inl B)), (rk, .inr (0, [.ref aL, .ref aT, .ref aU, .int co1_1, .int pl1_1, .int st1_1, .int jo1_1, .int cn1_1, .int ii1_1, .int fi1_1, .int fe1_1])), (aL, .inl (cI, 4, .inl L)), (aT, .inl (cI, 4, .inl T)), (aU, .inl (cI, 6, .inl U1_1))]) hP hD [0, 1, 2, 3, 4, 5, 6, 7, 8] [] rfl rfl (by decide) (by decide) hk1 hFc hP1 hD1
    have hP : va_P (dC, dI) vwCl [(kl, .inr (1, [.ref aK, .ref aF, .ref aS, .ref aB, .int (nI n), .ref rk])), (aK, .inl (cI, 60, .inl K)), (aF, .inl (cI, 60, .inl F)), (aS, .inl (cI, 60, .inl S)), (aB, .inl (cZ, 60, .inl B)), (rk, .inr (0, [.ref aL, .ref aT, .ref aU, .int co1_1, .int pl1_1, .int st1_1, .int jo1_1, .int cn1_1, .int ii1_1, .int fi1_1, .int fe1_1])), (aL, .inl (cI, 4, .inl L)), (aT, .inl (cI, 4, .inl T)), (aU, .inl (cI, 6, .inl U1_1))] H_1 := hP
    have hD : va_D A [(kl, .inr (1, [.ref aK, .ref aF, .ref aS, .ref aB, .int (nI n), .ref rk])), (aK, .inl (cI, 60, .inl K)), (aF, .inl (cI, 60, .inl F)), (aS, .inl (cI, 60, .inl S)), (aB, .inl (cZ, 60, .inl B)), (rk, .inr (0, [.ref aL, .ref aT, .ref aU, .int co1_1, .int pl1_1, .int st1_1, .int jo1_1, .int cn1_1, .int ii1_1, .int fi1_1, .int fe1_1])), (aL, .inl (cI, 4, .inl L)), (aT, .inl (cI, 4, .inl T)), (aU, .inl (cI, 6, .inl U1_1))] := hD
    rw [mRec_noFl (by omega)] at hw_1
    obtain ⟨hst9, hjo9, -⟩ := okX_hap hX (by omega) hw_1
    refine lv_aload_n hx hb dX1_counts_17 rfl (lv_at hl 0 rfl) ?_
    refine va_get (D := (dC, dI)) (ci := 1) (v := .ref rk) (C := RX1) (T := TX1) (N := 6) hx hb hts hinX1 hown hK hP 0 rfl rfl 5 (by decide) k2 (fun _ h9 => h9) rfl dX1_counts_18 ?_
    refine lv_aload_n hx hb dX1_counts_21 rfl (lv_at hl 0 rfl) ?_
    refine va_get (D := (dC, dI)) (ci := 1) (v := .ref aK) (C := RX1) (T := TX1) (N := 6) hx hb hts hinX1 hown hK hP 0 rfl rfl 0 (by decide) k3 (fun _ h9 => h9) rfl dX1_counts_22 ?_
    refine lv_iload_n hx hb dX1_counts_25 rfl (lv_at hl 1 rfl) ?_
    refine va_iald hx hb hK hP 1 0 rfl rfl (vp_in_nI (by omega) (by omega)) dX1_counts_26 ?_
    rw [nI_clamp (n := i) (by omega)]
    refine lv_aload_n hx hb dX1_counts_27 rfl (lv_at hl 0 rfl) ?_
    refine va_get (D := (dC, dI)) (ci := 1) (v := .ref aF) (C := RX1) (T := TX1) (N := 6) hx hb hts hinX1 hown hK hP 0 rfl rfl 1 (by decide) k4 (fun _ h9 => h9) rfl dX1_counts_28 ?_
    refine lv_iload_n hx hb dX1_counts_31 rfl (lv_at hl 1 rfl) ?_
    refine va_iald hx hb hK hP 2 0 rfl rfl (vp_in_nI (by omega) (by omega)) dX1_counts_32 ?_
    rw [nI_clamp (n := i) (by omega)]
    refine lv_aload_n hx hb dX1_counts_33 rfl (lv_at hl 0 rfl) ?_
    refine va_get (D := (dC, dI)) (ci := 1) (v := .ref aS) (C := RX1) (T := TX1) (N := 6) hx hb hts hinX1 hown hK hP 0 rfl rfl 2 (by decide) k5 (fun _ h9 => h9) rfl dX1_counts_34 ?_
    refine lv_iload_n hx hb dX1_counts_37 rfl (lv_at hl 1 rfl) ?_
    refine va_iald hx hb hK hP 3 0 rfl rfl (vp_in_nI (by omega) (by omega)) dX1_counts_38 ?_
    rw [nI_clamp (n := i) (by omega)]
    have hPc := hP.sub (ws' := [(rk, .inr (0, [.ref aL, .ref aT, .ref aU, .int co1_1, .int pl1_1, .int st1_1, .int jo1_1, .int cn1_1, .int ii1_1, .int fi1_1, .int fe1_1])), (aL, .inl (cI, 4, .inl L)), (aT, .inl (cI, 4, .inl T)), (aU, .inl (cI, 6, .inl U1_1))]) [5, 6, 7, 8] rfl
    have hDc := hD.sub (ws' := [(rk, .inr (0, [.ref aL, .ref aT, .ref aU, .int co1_1, .int pl1_1, .int st1_1, .int jo1_1, .int cn1_1, .int ii1_1, .int fi1_1, .int fe1_1])), (aL, .inl (cI, 4, .inl L)), (aT, .inl (cI, 4, .inl T)), (aU, .inl (cI, 6, .inl U1_1))]) [5, 6, 7, 8] (by decide) rfl
    have hKc := hK.sub (tys' := [(cI, .int)]) [0] rfl
    have hFc := va_free (wc := [(rk, .inr (0, [.ref aL, .ref aT, .ref aU, .int co1_1, .int pl1_1, .int st1_1, .int jo1_1, .int cn1_1, .int ii1_1, .int fi1_1, .int fe1_1])), (aL, .inl (cI, 4, .inl L)), (aT, .inl (cI, 4, .inl T)), (aU, .inl (cI, 6, .inl U1_1))]) hD hS hA [5, 6, 7, 8] rfl
    refine va_calli (va_runVN (As := [.int (K i), .int (F i), .int (S i)]) (rest := []) ⟨hx, hb, hml, hown, hts⟩ (c_X0_happens l dC dI cI rk aL aT aU H_1.size L T U1_1 co1_1 pl1_1 st1_1 jo1_1 cn1_1 ii1_1 fi1_1 fe1_1 (K i) (F i) (S i) (hjo9) (hst9) (hX.2.1 i (by omega))) ⟨va_cnB (host := "KnifeLedger") 3 hts gX1_counts_X0_happens_n149 rfl rfl rfl (nw_use0 hN (by decide +kernel)) k6 (by decide +kernel) ⟨Nat.le_of_ble_eq_true rfl, Nat.le_of_ble_eq_true rfl⟩, k7, k8⟩ (pc_V hKc hPc hDc (ci := 0) (C := RX0) (T := TX0) (N := 11) (q0 := 0) rfl rfl) rfl rfl hl.1 rfl (lv_room (Nat.le_of_ble_eq_true rfl)) dX1_counts_39 ⟨Nat.le_of_ble_eq_true rfl, Nat.le_of_ble_eq_true rfl⟩) hS (fun q _ h => hFc q h) hFc (fun r_2 u t H_2 locs ht hvm hw hB hz1 hk1 hS => ?_)
    obtain ⟨co1_2, pl1_2, st1_2, jo1_2, U1_2⟩ := u
    try dsimp only at hw hB
    have hw_2 := hw
    obtain ⟨hP1, hD1⟩ := hB
    rw [ht] at hP1
    obtain ⟨hP, hD⟩ := va_join (wr := [(kl, .inr (1, [.ref aK, .ref aF, .ref aS, .ref aB, .int (nI n), .ref rk])), (aK, .inl (cI, 60, .inl K)), (aF, .inl (cI, 60, .inl F)), (aS, .inl (cI, 60, .inl S)), (aB, .inl (cZ, 60, .inl B))]) (w1 := [(rk, .inr (0, [.ref aL, .ref aT, .ref aU, .int co1_2, .int pl1_2, .int st1_2, .int jo1_2, .int cn1_1, .int ii1_1, .int fi1_1, .int fe1_1])), (aL, .inl (cI, 4, .inl L)), (aT, .inl (cI, 4, .inl T)), (aU, .inl (cI, 6, .inl U1_2))]) hP hD [5, 6, 7, 8] [0, 1, 2, 3, 4] rfl rfl (by decide) (by decide) hk1 hFc hP1 hD1
    have hP : va_P (dC, dI) vwCl [(kl, .inr (1, [.ref aK, .ref aF, .ref aS, .ref aB, .int (nI n), .ref rk])), (aK, .inl (cI, 60, .inl K)), (aF, .inl (cI, 60, .inl F)), (aS, .inl (cI, 60, .inl S)), (aB, .inl (cZ, 60, .inl B)), (rk, .inr (0, [.ref aL, .ref aT, .ref aU, .int co1_2, .int pl1_2, .int st1_2, .int jo1_2, .int cn1_1, .int ii1_1, .int fi1_1, .int fe1_1])), (aL, .inl (cI, 4, .inl L)), (aT, .inl (cI, 4, .inl T)), (aU, .inl (cI, 6, .inl U1_2))] H_2 := hP
    have hD : va_D A [(kl, .inr (1, [.ref aK, .ref aF, .ref aS, .ref aB, .int (nI n), .ref rk])), (aK, .inl (cI, 60, .inl K)), (aF, .inl (cI, 60, .inl F)), (aS, .inl (cI, 60, .inl S)), (aB, .inl (cZ, 60, .inl B)), (rk, .inr (0, [.ref aL, .ref aT, .ref aU, .int co1_2, .int pl1_2, .int st1_2, .int jo1_2, .int cn1_1, .int ii1_1, .int fi1_1, .int fe1_1])), (aL, .inl (cI, 4, .inl L)), (aT, .inl (cI, 4, .inl T)), (aU, .inl (cI, 6, .inl U1_2))] := hD
    have hpost : r_2 = aCnt L T K F S B i := by
      exact aCnt_of hX hi c_6 hw_1 hw_2
    have hP9 := hP.sub (ws' := [(kl, .inr (1, [.ref aK, .ref aF, .ref aS, .ref aB, .int (nI n), .ref rk])), (aK, .inl (cI, 60, .inl K)), (aF, .inl (cI, 60, .inl F)), (aS, .inl (cI, 60, .inl S)), (aB, .inl (cZ, 60, .inl B)), (rk, .inr (0, [.ref aL, .ref aT, .ref aU, .int co1_2, .int pl1_2, .int st1_2, .int jo1_2, .int cn1_1, .int ii1_1, .int fi1_1, .int fe1_1])), (aL, .inl (cI, 4, .inl L)), (aT, .inl (cI, 4, .inl T)), (aU, .inl (cI, 6, .inl U1_2))]) [0, 1, 2, 3, 4, 5, 6, 7, 8] rfl
    have hD9 := hD.sub (ws' := [(kl, .inr (1, [.ref aK, .ref aF, .ref aS, .ref aB, .int (nI n), .ref rk])), (aK, .inl (cI, 60, .inl K)), (aF, .inl (cI, 60, .inl F)), (aS, .inl (cI, 60, .inl S)), (aB, .inl (cZ, 60, .inl B)), (rk, .inr (0, [.ref aL, .ref aT, .ref aU, .int co1_2, .int pl1_2, .int st1_2, .int jo1_2, .int cn1_1, .int ii1_1, .int fi1_1, .int fe1_1])), (aL, .inl (cI, 4, .inl L)), (aT, .inl (cI, 4, .inl T)), (aU, .inl (cI, 6, .inl U1_2))]) [0, 1, 2, 3, 4, 5, 6, 7, 8] (by decide) rfl
    exact W.zret (v := r_2) (ty := .boolean) hx hb hr (nz_01 (by have h9 := mHap_01 L T (K i) (F i) (S i) co1_1 pl1_1 st1_1 jo1_1 U1_1; rw [← hw] at h9; exact h9)) (fun t ht hW => ⟨⟨r_2, (co1_2, pl1_2, st1_2, jo1_2, cn1_1, ii1_1, fi1_1, fe1_1, U1_2), rfl, hpost, by rw [ht]; exact hP9, hD9⟩, hS.F ht⟩) hS.2.2 dX1_counts_42
  · -- 6
    refine lv_iconst (v := 0) hx hb dX1_counts_9 (by decide) ?_
    have hpost : (0 : Int32) = aCnt L T K F S B i := by
      unfold aCnt; rw [if_neg c_6]
    have hP9 := hP.sub (ws' := [(kl, .inr (1, [.ref aK, .ref aF, .ref aS, .ref aB, .int (nI n), .ref rk])), (aK, .inl (cI, 60, .inl K)), (aF, .inl (cI, 60, .inl F)), (aS, .inl (cI, 60, .inl S)), (aB, .inl (cZ, 60, .inl B)), (rk, .inr (0, [.ref aL, .ref aT, .ref aU, .int co, .int pl, .int st, .int jo, .int cn, .int ii, .int fi, .int fe])), (aL, .inl (cI, 4, .inl L)), (aT, .inl (cI, 4, .inl T)), (aU, .inl (cI, 6, .inl U))]) [0, 1, 2, 3, 4, 5, 6, 7, 8] rfl
    have hD9 := hD.sub (ws' := [(kl, .inr (1, [.ref aK, .ref aF, .ref aS, .ref aB, .int (nI n), .ref rk])), (aK, .inl (cI, 60, .inl K)), (aF, .inl (cI, 60, .inl F)), (aS, .inl (cI, 60, .inl S)), (aB, .inl (cZ, 60, .inl B)), (rk, .inr (0, [.ref aL, .ref aT, .ref aU, .int co, .int pl, .int st, .int jo, .int cn, .int ii, .int fi, .int fe])), (aL, .inl (cI, 4, .inl L)), (aT, .inl (cI, 4, .inl T)), (aU, .inl (cI, 6, .inl U))]) [0, 1, 2, 3, 4, 5, 6, 7, 8] (by decide) rfl
    exact W.zret (v := 0) (ty := .boolean) hx hb hr (rfl) (fun t ht hW => ⟨⟨0, (co, pl, st, jo, cn, ii, fi, fe, U), rfl, hpost, by rw [ht]; exact hP9, hD9⟩, hS.F ht⟩) hS.2.2 dX1_counts_10
