theorem lt6_in {x : Int32} (h : vp_in x 7) (h2 : x < 6) : vp_in x 6 := by
  rw [vp_in_iff] at h ⊢
  have h3 : x.toInt < (6 : Int32).toInt := Int32.lt_iff_toInt_lt.mp h2
  have h4 : (6 : Int32).toInt = 6 := rfl
  rw [h4] at h3
  omega
set_option maxHeartbeats 4000000 in
set_option maxRecDepth 100000 in
theorem c_X0_hasJoined (l : Launch) (dC : Nat → ClassId) (dI : Nat → Nat → Nat) (cI : ClassId) (rk aL aT aU : Nat) (sz : Nat) (L : N2I) (T : N2I) (U : N2I) (co : Int32) (pl : Int32) (st : Int32) (jo : Int32) (cn : Int32) (ii : Int32) (fi : Int32) (fe : Int32) (pa : Int32) : Met l yX0_hasJoined wsX0_hasJoined ({ frames := 0, cells := 0, slots := 0, locals := 0 } : Room) (va_Pc [.ref rk, .int pa] (pc_ (dC, dI) [(cI, .int)] [(rk, .inr (0, [.ref aL, .ref aT, .ref aU, .int co, .int pl, .int st, .int jo, .int cn, .int ii, .int fi, .int fe])), (aL, .inl (cI, 4, .inl L)), (aT, .inl (cI, 4, .inl T)), (aU, .inl (cI, 6, .inl U))] sz)) (va_Qi (fun (r : Int32) (u : Unit) => r = mJd jo pa) (fun (u : Unit) (t : State) => va_P (dC, dI) vwCl [(rk, .inr (0, [.ref aL, .ref aT, .ref aU, .int co, .int pl, .int st, .int jo, .int cn, .int ii, .int fi, .int fe])), (aL, .inl (cI, 4, .inl L)), (aT, .inl (cI, 4, .inl T)), (aU, .inl (cI, 6, .inl U))] t.heap ∧ va_D (va_A [(rk, .inr (0, [.ref aL, .ref aT, .ref aU, .int co, .int pl, .int st, .int jo, .int cn, .int ii, .int fi, .int fe])), (aL, .inl (cI, 4, .inl L)), (aT, .inl (cI, 4, .inl T)), (aU, .inl (cI, 6, .inl U))] sz) [(rk, .inr (0, [.ref aL, .ref aT, .ref aU, .int co, .int pl, .int st, .int jo, .int cn, .int ii, .int fi, .int fe])), (aL, .inl (cI, 4, .inl L)), (aT, .inl (cI, 4, .inl T)), (aU, .inl (cI, 6, .inl U))]) (va_A [(rk, .inr (0, [.ref aL, .ref aT, .ref aU, .int co, .int pl, .int st, .int jo, .int cn, .int ii, .int fi, .int fe])), (aL, .inl (cI, 4, .inl L)), (aT, .inl (cI, 4, .inl T)), (aU, .inl (cI, 6, .inl U))] sz)) 0 0 (va_A [(rk, .inr (0, [.ref aL, .ref aT, .ref aU, .int co, .int pl, .int st, .int jo, .int cn, .int ii, .int fi, .int fe])), (aL, .inl (cI, 4, .inl L)), (aT, .inl (cI, 4, .inl T)), (aU, .inl (cI, 6, .inl U))] sz) := by
  refine Met.ofW (cc := cX0_hasJoined) (maxL := 2) (ret := (some .boolean)) (by decide) rfl ?_
  intro p e s m args below meth c s₁ BB hml hv
  obtain ⟨rfl, hsz, hP, hK, hD0⟩ := hv
  have hx := BB.exec
  have hb := BB.bytes
  have hr := BB.returns
  have hts := atoms_spec (ws := wsX0_hasJoined) BB.pre
  have hown : s.vm.findClass RX0 = some m.cls := findClass_of_methodNamed BB.named
  have hlocks := BB.notSynchronized
  subst hsz
  have hD := hD0.self (sz := s.heap.size)
  generalize hAe : va_A [(rk, .inr (0, [.ref aL, .ref aT, .ref aU, .int co, .int pl, .int st, .int jo, .int cn, .int ii, .int fi, .int fe])), (aL, .inl (cI, 4, .inl L)), (aT, .inl (cI, 4, .inl T)), (aU, .inl (cI, 6, .inl U))] s.heap.size = A at hD ⊢
  have hA : ∀ q : Nat, s.heap.size ≤ q → A q := fun q h => by rw [← hAe]; exact Or.inr h
  have hS : va_S A s.heap s.heap [] := va_S.rf
  have hP : va_P (dC, dI) vwCl [(rk, .inr (0, [.ref aL, .ref aT, .ref aU, .int co, .int pl, .int st, .int jo, .int cn, .int ii, .int fi, .int fe])), (aL, .inl (cI, 4, .inl L)), (aT, .inl (cI, 4, .inl T)), (aU, .inl (cI, 6, .inl U))] s.heap := hP
  have hl := lv_entry ([.ref rk, .int pa]) (n := 2) (Nat.le_of_ble_eq_true rfl)
  rw [lg_entry_eq]
  generalize (lg_sl ([.ref rk, .int pa]) ++ List.replicate (2 - (lg_sl ([.ref rk, .int pa])).length) Slot.unset).toArray = ls at hl ⊢
  have hl : lv_has ls 2 [(0, .ref rk), (1, .int pa)] := hl
  have k0 := hts (.fieldLink RX0 31 "KnifeLedger$Reckoning" "joined" "I") (by decide +kernel)
  have hinX0 : ∀ w ∈ wsX00, w ∈ wsX0_hasJoined := by decide +kernel
  refine lv_iload_n hx hb dX0_hasJoined_0 rfl (lv_at hl 1 rfl) ?_
  refine lv_aload_n hx hb dX0_hasJoined_1 rfl (lv_at hl 0 rfl) ?_
  refine va_get (D := (dC, dI)) (ci := 0) (v := .int jo) (C := RX0) (T := TX0) (N := 11) hx hb hts hinX0 hown hK hP 0 rfl rfl 6 (by decide) k0 (fun _ h9 => h9) rfl dX0_hasJoined_2 ?_
  refine lv_icmp_ge (tgt := 12) hx hb dX0_hasJoined_5 (by decide) (fun c_5 => ?_) (fun c_5 => ?_)
  · -- 5
    refine lv_iconst (v := 0) hx hb dX0_hasJoined_12 (by decide) ?_
    have hpost : (0 : Int32) = mJd jo pa := by
      first | rfl | (simp only [mJd, if_pos c_5]; done) | (simp only [mJd, if_pos c_5]; rfl)
    have hP9 := hP.sub (ws' := [(rk, .inr (0, [.ref aL, .ref aT, .ref aU, .int co, .int pl, .int st, .int jo, .int cn, .int ii, .int fi, .int fe])), (aL, .inl (cI, 4, .inl L)), (aT, .inl (cI, 4, .inl T)), (aU, .inl (cI, 6, .inl U))]) [0, 1, 2, 3] rfl
    have hD9 := hD.sub (ws' := [(rk, .inr (0, [.ref aL, .ref aT, .ref aU, .int co, .int pl, .int st, .int jo, .int cn, .int ii, .int fi, .int fe])), (aL, .inl (cI, 4, .inl L)), (aT, .inl (cI, 4, .inl T)), (aU, .inl (cI, 6, .inl U))]) [0, 1, 2, 3] (by decide) rfl
    exact W.zret (v := 0) (ty := .boolean) hx hb hr (rfl) (fun t ht hW => ⟨⟨0, (), rfl, hpost, by rw [ht]; exact hP9, hD9⟩, hS.F ht⟩) hS.2.2 dX0_hasJoined_13
  · -- 5
    refine lv_iconst (v := 1) hx hb dX0_hasJoined_8 (by decide) ?_
    refine lv_goto (tgt := 13) hx hb dX0_hasJoined_9 (by decide) ?_
    have hpost : (1 : Int32) = mJd jo pa := by
      first | rfl | (simp only [mJd, if_neg c_5]; done) | (simp only [mJd, if_neg c_5]; rfl)
    have hP9 := hP.sub (ws' := [(rk, .inr (0, [.ref aL, .ref aT, .ref aU, .int co, .int pl, .int st, .int jo, .int cn, .int ii, .int fi, .int fe])), (aL, .inl (cI, 4, .inl L)), (aT, .inl (cI, 4, .inl T)), (aU, .inl (cI, 6, .inl U))]) [0, 1, 2, 3] rfl
    have hD9 := hD.sub (ws' := [(rk, .inr (0, [.ref aL, .ref aT, .ref aU, .int co, .int pl, .int st, .int jo, .int cn, .int ii, .int fi, .int fe])), (aL, .inl (cI, 4, .inl L)), (aT, .inl (cI, 4, .inl T)), (aU, .inl (cI, 6, .inl U))]) [0, 1, 2, 3] (by decide) rfl
    exact W.zret (v := 1) (ty := .boolean) hx hb hr (rfl) (fun t ht hW => ⟨⟨1, (), rfl, hpost, by rw [ht]; exact hP9, hD9⟩, hS.F ht⟩) hS.2.2 dX0_hasJoined_13

set_option maxHeartbeats 4000000 in
set_option maxRecDepth 100000 in
theorem c_X0_takings (l : Launch) (dC : Nat → ClassId) (dI : Nat → Nat → Nat) (cI : ClassId) (rk aL aT aU : Nat) (sz : Nat) (L : N2I) (T : N2I) (U : N2I) (co : Int32) (pl : Int32) (st : Int32) (jo : Int32) (cn : Int32) (ii : Int32) (fi : Int32) (fe : Int32) (th : Int32) (hst : vp_in st 4) : Met l yX0_takings wsX0_takings ({ frames := 0, cells := 0, slots := 0, locals := 0 } : Room) (va_Pc [.ref rk, .int th] (pc_ (dC, dI) [(cI, .int)] [(rk, .inr (0, [.ref aL, .ref aT, .ref aU, .int co, .int pl, .int st, .int jo, .int cn, .int ii, .int fi, .int fe])), (aL, .inl (cI, 4, .inl L)), (aT, .inl (cI, 4, .inl T)), (aU, .inl (cI, 6, .inl U))] sz)) (va_Qi (fun (r : Int32) (u : Unit) => r = mTak L st th) (fun (u : Unit) (t : State) => va_P (dC, dI) vwCl [(rk, .inr (0, [.ref aL, .ref aT, .ref aU, .int co, .int pl, .int st, .int jo, .int cn, .int ii, .int fi, .int fe])), (aL, .inl (cI, 4, .inl L)), (aT, .inl (cI, 4, .inl T)), (aU, .inl (cI, 6, .inl U))] t.heap ∧ va_D (va_A [(rk, .inr (0, [.ref aL, .ref aT, .ref aU, .int co, .int pl, .int st, .int jo, .int cn, .int ii, .int fi, .int fe])), (aL, .inl (cI, 4, .inl L)), (aT, .inl (cI, 4, .inl T)), (aU, .inl (cI, 6, .inl U))] sz) [(rk, .inr (0, [.ref aL, .ref aT, .ref aU, .int co, .int pl, .int st, .int jo, .int cn, .int ii, .int fi, .int fe])), (aL, .inl (cI, 4, .inl L)), (aT, .inl (cI, 4, .inl T)), (aU, .inl (cI, 6, .inl U))]) (va_A [(rk, .inr (0, [.ref aL, .ref aT, .ref aU, .int co, .int pl, .int st, .int jo, .int cn, .int ii, .int fi, .int fe])), (aL, .inl (cI, 4, .inl L)), (aT, .inl (cI, 4, .inl T)), (aU, .inl (cI, 6, .inl U))] sz)) 0 0 (va_A [(rk, .inr (0, [.ref aL, .ref aT, .ref aU, .int co, .int pl, .int st, .int jo, .int cn, .int ii, .int fi, .int fe])), (aL, .inl (cI, 4, .inl L)), (aT, .inl (cI, 4, .inl T)), (aU, .inl (cI, 6, .inl U))] sz) := by
  refine Met.ofW (cc := cX0_takings) (maxL := 2) (ret := (some .int)) (by decide) rfl ?_
  intro p e s m args below meth c s₁ BB hml hv
  obtain ⟨rfl, hsz, hP, hK, hD0⟩ := hv
  have hx := BB.exec
  have hb := BB.bytes
  have hr := BB.returns
  have hts := atoms_spec (ws := wsX0_takings) BB.pre
  have hown : s.vm.findClass RX0 = some m.cls := findClass_of_methodNamed BB.named
  have hlocks := BB.notSynchronized
  subst hsz
  have hD := hD0.self (sz := s.heap.size)
  generalize hAe : va_A [(rk, .inr (0, [.ref aL, .ref aT, .ref aU, .int co, .int pl, .int st, .int jo, .int cn, .int ii, .int fi, .int fe])), (aL, .inl (cI, 4, .inl L)), (aT, .inl (cI, 4, .inl T)), (aU, .inl (cI, 6, .inl U))] s.heap.size = A at hD ⊢
  have hA : ∀ q : Nat, s.heap.size ≤ q → A q := fun q h => by rw [← hAe]; exact Or.inr h
  have hS : va_S A s.heap s.heap [] := va_S.rf
  have hP : va_P (dC, dI) vwCl [(rk, .inr (0, [.ref aL, .ref aT, .ref aU, .int co, .int pl, .int st, .int jo, .int cn, .int ii, .int fi, .int fe])), (aL, .inl (cI, 4, .inl L)), (aT, .inl (cI, 4, .inl T)), (aU, .inl (cI, 6, .inl U))] s.heap := hP
  have hl := lv_entry ([.ref rk, .int th]) (n := 2) (Nat.le_of_ble_eq_true rfl)
  rw [lg_entry_eq]
  generalize (lg_sl ([.ref rk, .int th]) ++ List.replicate (2 - (lg_sl ([.ref rk, .int th])).length) Slot.unset).toArray = ls at hl ⊢
  have hl : lv_has ls 2 [(0, .ref rk), (1, .int th)] := hl
  have k0 := hts (.fieldLink RX0 9 "KnifeLedger$Reckoning" "lights" "[I") (by decide +kernel)
  have hinX0 : ∀ w ∈ wsX00, w ∈ wsX0_takings := by decide +kernel
  have k2 := hts (.fieldLink RX0 28 "KnifeLedger$Reckoning" "stage" "I") (by decide +kernel)
  refine lv_iload_n hx hb dX0_takings_0 rfl (lv_at hl 1 rfl) ?_
  refine lv_if_ne (tgt := 6) hx hb dX0_takings_1 (by decide) (fun c_1 => ?_) (fun c_1 => ?_)
  · -- 1
    refine lv_iload_n hx hb dX0_takings_6 rfl (lv_at hl 1 rfl) ?_
    refine lv_iconst (v := 3) hx hb dX0_takings_7 (by decide) ?_
    refine lv_icmp_gt (tgt := 24) hx hb dX0_takings_8 (by decide) (fun c_8 => ?_) (fun c_8 => ?_)
    · -- 8
      refine lv_iload_n hx hb dX0_takings_24 rfl (lv_at hl 1 rfl) ?_
      refine lv_bipush (v := 9) hx hb dX0_takings_25 (by decide) ?_
      refine lv_icmp_gt (tgt := 44) hx hb dX0_takings_27 (by decide) (fun c_27 => ?_) (fun c_27 => ?_)
      · -- 27
        refine lv_iconst (v := 1) hx hb dX0_takings_44 (by decide) ?_
        have hpost : (1 : Int32) = mTak L st th := by
          first | rfl | (simp only [mTak, if_neg c_1, if_pos c_8, if_pos c_27]; done) | (simp only [mTak, if_neg c_1, if_pos c_8, if_pos c_27]; rfl)
        have hP9 := hP.sub (ws' := [(rk, .inr (0, [.ref aL, .ref aT, .ref aU, .int co, .int pl, .int st, .int jo, .int cn, .int ii, .int fi, .int fe])), (aL, .inl (cI, 4, .inl L)), (aT, .inl (cI, 4, .inl T)), (aU, .inl (cI, 6, .inl U))]) [0, 1, 2, 3] rfl
        have hD9 := hD.sub (ws' := [(rk, .inr (0, [.ref aL, .ref aT, .ref aU, .int co, .int pl, .int st, .int jo, .int cn, .int ii, .int fi, .int fe])), (aL, .inl (cI, 4, .inl L)), (aT, .inl (cI, 4, .inl T)), (aU, .inl (cI, 6, .inl U))]) [0, 1, 2, 3] (by decide) rfl
        exact W.iret (v := 1) hx hb hr (fun t ht hW => ⟨⟨1, (), rfl, hpost, by rw [ht]; exact hP9, hD9⟩, hS.F ht⟩) hS.2.2 dX0_takings_45
      · -- 27
        refine lv_iconst (v := 5) hx hb dX0_takings_30 (by decide) ?_
        refine lv_aload_n hx hb dX0_takings_31 rfl (lv_at hl 0 rfl) ?_
        refine va_get (D := (dC, dI)) (ci := 0) (v := .ref aL) (C := RX0) (T := TX0) (N := 11) hx hb hts hinX0 hown hK hP 0 rfl rfl 0 (by decide) k0 (fun _ h9 => h9) rfl dX0_takings_32 ?_
        refine lv_aload_n hx hb dX0_takings_35 rfl (lv_at hl 0 rfl) ?_
        refine va_get (D := (dC, dI)) (ci := 0) (v := .int st) (C := RX0) (T := TX0) (N := 11) hx hb hts hinX0 hown hK hP 0 rfl rfl 5 (by decide) k2 (fun _ h9 => h9) rfl dX0_takings_36 ?_
        refine va_iald hx hb hK hP 1 0 rfl rfl (by assumption) dX0_takings_39 ?_
        refine lv_iconst (v := 2) hx hb dX0_takings_40 (by decide) ?_
        refine lv_idiv hx hb dX0_takings_41 (by decide) ?_
        refine lv_iadd hx hb dX0_takings_42 ?_
        have hpost : (5 + ((L st.toNatClampNeg) / 2)) = mTak L st th := by
          first | rfl | (simp only [mTak, if_neg c_1, if_pos c_8, if_neg c_27]; done) | (simp only [mTak, if_neg c_1, if_pos c_8, if_neg c_27]; rfl)
        have hP9 := hP.sub (ws' := [(rk, .inr (0, [.ref aL, .ref aT, .ref aU, .int co, .int pl, .int st, .int jo, .int cn, .int ii, .int fi, .int fe])), (aL, .inl (cI, 4, .inl L)), (aT, .inl (cI, 4, .inl T)), (aU, .inl (cI, 6, .inl U))]) [0, 1, 2, 3] rfl
        have hD9 := hD.sub (ws' := [(rk, .inr (0, [.ref aL, .ref aT, .ref aU, .int co, .int pl, .int st, .int jo, .int cn, .int ii, .int fi, .int fe])), (aL, .inl (cI, 4, .inl L)), (aT, .inl (cI, 4, .inl T)), (aU, .inl (cI, 6, .inl U))]) [0, 1, 2, 3] (by decide) rfl
        exact W.iret (v := 5 + ((L st.toNatClampNeg) / 2)) hx hb hr (fun t ht hW => ⟨⟨(5 + ((L st.toNatClampNeg) / 2)), (), rfl, hpost, by rw [ht]; exact hP9, hD9⟩, hS.F ht⟩) hS.2.2 dX0_takings_43
    · -- 8
      refine lv_bipush (v := 12) hx hb dX0_takings_11 (by decide) ?_
      refine lv_aload_n hx hb dX0_takings_13 rfl (lv_at hl 0 rfl) ?_
      refine va_get (D := (dC, dI)) (ci := 0) (v := .ref aL) (C := RX0) (T := TX0) (N := 11) hx hb hts hinX0 hown hK hP 0 rfl rfl 0 (by decide) k0 (fun _ h9 => h9) rfl dX0_takings_14 ?_
      refine lv_aload_n hx hb dX0_takings_17 rfl (lv_at hl 0 rfl) ?_
      refine va_get (D := (dC, dI)) (ci := 0) (v := .int st) (C := RX0) (T := TX0) (N := 11) hx hb hts hinX0 hown hK hP 0 rfl rfl 5 (by decide) k2 (fun _ h9 => h9) rfl dX0_takings_18 ?_
      refine va_iald hx hb hK hP 1 0 rfl rfl (by assumption) dX0_takings_21 ?_
      refine lv_iadd hx hb dX0_takings_22 ?_
      have hpost : (12 + (L st.toNatClampNeg)) = mTak L st th := by
        first | rfl | (simp only [mTak, if_neg c_1, if_neg c_8]; done) | (simp only [mTak, if_neg c_1, if_neg c_8]; rfl)
      have hP9 := hP.sub (ws' := [(rk, .inr (0, [.ref aL, .ref aT, .ref aU, .int co, .int pl, .int st, .int jo, .int cn, .int ii, .int fi, .int fe])), (aL, .inl (cI, 4, .inl L)), (aT, .inl (cI, 4, .inl T)), (aU, .inl (cI, 6, .inl U))]) [0, 1, 2, 3] rfl
      have hD9 := hD.sub (ws' := [(rk, .inr (0, [.ref aL, .ref aT, .ref aU, .int co, .int pl, .int st, .int jo, .int cn, .int ii, .int fi, .int fe])), (aL, .inl (cI, 4, .inl L)), (aT, .inl (cI, 4, .inl T)), (aU, .inl (cI, 6, .inl U))]) [0, 1, 2, 3] (by decide) rfl
      exact W.iret (v := 12 + (L st.toNatClampNeg)) hx hb hr (fun t ht hW => ⟨⟨(12 + (L st.toNatClampNeg)), (), rfl, hpost, by rw [ht]; exact hP9, hD9⟩, hS.F ht⟩) hS.2.2 dX0_takings_23
  · -- 1
    refine lv_iconst (v := 0) hx hb dX0_takings_4 (by decide) ?_
    have hpost : (0 : Int32) = mTak L st th := by
      first | rfl | (simp only [mTak, if_pos c_1]; done) | (simp only [mTak, if_pos c_1]; rfl)
    have hP9 := hP.sub (ws' := [(rk, .inr (0, [.ref aL, .ref aT, .ref aU, .int co, .int pl, .int st, .int jo, .int cn, .int ii, .int fi, .int fe])), (aL, .inl (cI, 4, .inl L)), (aT, .inl (cI, 4, .inl T)), (aU, .inl (cI, 6, .inl U))]) [0, 1, 2, 3] rfl
    have hD9 := hD.sub (ws' := [(rk, .inr (0, [.ref aL, .ref aT, .ref aU, .int co, .int pl, .int st, .int jo, .int cn, .int ii, .int fi, .int fe])), (aL, .inl (cI, 4, .inl L)), (aT, .inl (cI, 4, .inl T)), (aU, .inl (cI, 6, .inl U))]) [0, 1, 2, 3] (by decide) rfl
    exact W.iret (v := 0) hx hb hr (fun t ht hW => ⟨⟨0, (), rfl, hpost, by rw [ht]; exact hP9, hD9⟩, hS.F ht⟩) hS.2.2 dX0_takings_5

set_option maxHeartbeats 4000000 in
set_option maxRecDepth 100000 in
theorem c_X0_addTrust (l : Launch) (dC : Nat → ClassId) (dI : Nat → Nat → Nat) (cI : ClassId) (rk aL aT aU : Nat) (sz : Nat) (L : N2I) (T : N2I) (U : N2I) (co : Int32) (pl : Int32) (st : Int32) (jo : Int32) (cn : Int32) (ii : Int32) (fi : Int32) (fe : Int32) (pa : Int32) (b : Int32) (hp : vp_in pa 6) : Met l yX0_addTrust wsX0_addTrust ({ frames := 1, cells := 0, slots := 0, locals := 16 } : Room) (va_Pc [.ref rk, .int pa, .int b] (pc_ (dC, dI) [(cI, .int)] [(rk, .inr (0, [.ref aL, .ref aT, .ref aU, .int co, .int pl, .int st, .int jo, .int cn, .int ii, .int fi, .int fe])), (aL, .inl (cI, 4, .inl L)), (aT, .inl (cI, 4, .inl T)), (aU, .inl (cI, 6, .inl U))] sz)) (va_Qv (fun (u : N2I) => u = mAdd U pa b) (fun (u : N2I) (t : State) => va_P (dC, dI) vwCl [(rk, .inr (0, [.ref aL, .ref aT, .ref aU, .int co, .int pl, .int st, .int jo, .int cn, .int ii, .int fi, .int fe])), (aL, .inl (cI, 4, .inl L)), (aT, .inl (cI, 4, .inl T)), (aU, .inl (cI, 6, .inl u))] t.heap ∧ va_D (va_A [(rk, .inr (0, [.ref aL, .ref aT, .ref aU, .int co, .int pl, .int st, .int jo, .int cn, .int ii, .int fi, .int fe])), (aL, .inl (cI, 4, .inl L)), (aT, .inl (cI, 4, .inl T)), (aU, .inl (cI, 6, .inl U))] sz) [(rk, .inr (0, [.ref aL, .ref aT, .ref aU, .int co, .int pl, .int st, .int jo, .int cn, .int ii, .int fi, .int fe])), (aL, .inl (cI, 4, .inl L)), (aT, .inl (cI, 4, .inl T)), (aU, .inl (cI, 6, .inl u))]) (va_A [(rk, .inr (0, [.ref aL, .ref aT, .ref aU, .int co, .int pl, .int st, .int jo, .int cn, .int ii, .int fi, .int fe])), (aL, .inl (cI, 4, .inl L)), (aT, .inl (cI, 4, .inl T)), (aU, .inl (cI, 6, .inl U))] sz)) 0 0 (va_A [(rk, .inr (0, [.ref aL, .ref aT, .ref aU, .int co, .int pl, .int st, .int jo, .int cn, .int ii, .int fi, .int fe])), (aL, .inl (cI, 4, .inl L)), (aT, .inl (cI, 4, .inl T)), (aU, .inl (cI, 6, .inl U))] sz) := by
  refine Met.ofW (cc := cX0_addTrust) (maxL := 3) (ret := none) (by decide) rfl ?_
  intro p e s m args below meth c s₁ BB hml hv
  obtain ⟨rfl, hsz, hP, hK, hD0⟩ := hv
  have hx := BB.exec
  have hb := BB.bytes
  have hr := BB.returns
  have hts := atoms_spec (ws := wsX0_addTrust) BB.pre
  have hown : s.vm.findClass RX0 = some m.cls := findClass_of_methodNamed BB.named
  have hlocks := BB.notSynchronized
  subst hsz
  have hD := hD0.self (sz := s.heap.size)
  generalize hAe : va_A [(rk, .inr (0, [.ref aL, .ref aT, .ref aU, .int co, .int pl, .int st, .int jo, .int cn, .int ii, .int fi, .int fe])), (aL, .inl (cI, 4, .inl L)), (aT, .inl (cI, 4, .inl T)), (aU, .inl (cI, 6, .inl U))] s.heap.size = A at hD ⊢
  have hA : ∀ q : Nat, s.heap.size ≤ q → A q := fun q h => by rw [← hAe]; exact Or.inr h
  have hS : va_S A s.heap s.heap [] := va_S.rf
  have hP : va_P (dC, dI) vwCl [(rk, .inr (0, [.ref aL, .ref aT, .ref aU, .int co, .int pl, .int st, .int jo, .int cn, .int ii, .int fi, .int fe])), (aL, .inl (cI, 4, .inl L)), (aT, .inl (cI, 4, .inl T)), (aU, .inl (cI, 6, .inl U))] s.heap := hP
  have hl := lv_entry ([.ref rk, .int pa, .int b]) (n := 3) (Nat.le_of_ble_eq_true rfl)
  rw [lg_entry_eq]
  generalize (lg_sl ([.ref rk, .int pa, .int b]) ++ List.replicate (3 - (lg_sl ([.ref rk, .int pa, .int b])).length) Slot.unset).toArray = ls at hl ⊢
  have hl : lv_has ls 3 [(0, .ref rk), (1, .int pa), (2, .int b)] := hl
  have k0 := hts (.fieldLink RX0 18 "KnifeLedger$Reckoning" "trusts" "[I") (by decide +kernel)
  have hinX0 : ∀ w ∈ wsX00, w ∈ wsX0_addTrust := by decide +kernel
  have k2 := hts (.methodLink RX0 46 Lib.Math.min.name) (by decide +kernel)
  have k3 := hts (.static Lib.Math.min.name) (by decide +kernel)
  have k4 := hts (.initialized "java/lang/Math") (by decide +kernel)
  have k5 := hts (.code Lib.Math.min.name Lib.Math.min.code 2 (some .int)) (by decide +kernel)
  have k6 := hts (.methodLink RX0 86 Lib.Math.max.name) (by decide +kernel)
  have k7 := hts (.static Lib.Math.max.name) (by decide +kernel)
  have k8 := hts (.code Lib.Math.max.name Lib.Math.max.code 2 (some .int)) (by decide +kernel)
  refine lv_aload_n hx hb dX0_addTrust_0 rfl (lv_at hl 0 rfl) ?_
  refine va_get (D := (dC, dI)) (ci := 0) (v := .ref aU) (C := RX0) (T := TX0) (N := 11) hx hb hts hinX0 hown hK hP 0 rfl rfl 2 (by decide) k0 (fun _ h9 => h9) rfl dX0_addTrust_1 ?_
  refine lv_iload_n hx hb dX0_addTrust_4 rfl (lv_at hl 1 rfl) ?_
  refine lv_iconst (v := 0) hx hb dX0_addTrust_5 (by decide) ?_
  refine lv_bipush (v := 100) hx hb dX0_addTrust_6 (by decide) ?_
  refine lv_aload_n hx hb dX0_addTrust_8 rfl (lv_at hl 0 rfl) ?_
  refine va_get (D := (dC, dI)) (ci := 0) (v := .ref aU) (C := RX0) (T := TX0) (N := 11) hx hb hts hinX0 hown hK hP 0 rfl rfl 2 (by decide) k0 (fun _ h9 => h9) rfl dX0_addTrust_9 ?_
  refine lv_iload_n hx hb dX0_addTrust_12 rfl (lv_at hl 1 rfl) ?_
  refine va_iald hx hb hK hP 3 0 rfl rfl (by assumption) dX0_addTrust_13 ?_
  refine lv_iload_n hx hb dX0_addTrust_14 rfl (lv_at hl 2 rfl) ?_
  refine lv_iadd hx hb dX0_addTrust_15 ?_
  refine va_mmin hx hb (hml.trans hl.1.symm) hown k2 k3 k4 k5 (Nat.le_of_ble_eq_true rfl) (Nat.le_of_ble_eq_true rfl) (Nat.le_of_ble_eq_true rfl) (Nat.le_of_ble_eq_true rfl) dX0_addTrust_16 ?_
  refine lv_topi (fun f_1 ef_1 => ?_)
  have ef_1 : f_1 = kmin 100 ((U pa.toNatClampNeg) + b) := ef_1
  refine va_mmax hx hb (hml.trans hl.1.symm) hown k6 k7 k4 k8 (Nat.le_of_ble_eq_true rfl) (Nat.le_of_ble_eq_true rfl) (Nat.le_of_ble_eq_true rfl) (Nat.le_of_ble_eq_true rfl) dX0_addTrust_19 ?_
  refine lv_topi (fun f_2 ef_2 => ?_)
  have ef_2 : f_2 = kmax 0 f_1 := ef_2
  refine va_iast hx hb hK hP hD hS 3 0 rfl rfl (by assumption) dX0_addTrust_22 (fun H_3 locs hP hD hS => ?_)
  have hP : va_P (dC, dI) vwCl [(rk, .inr (0, [.ref aL, .ref aT, .ref aU, .int co, .int pl, .int st, .int jo, .int cn, .int ii, .int fi, .int fe])), (aL, .inl (cI, 4, .inl L)), (aT, .inl (cI, 4, .inl T)), (aU, .inl (cI, 6, .inl (upd U (pa.toNatClampNeg) f_2)))] H_3 := hP
  have hD : va_D A [(rk, .inr (0, [.ref aL, .ref aT, .ref aU, .int co, .int pl, .int st, .int jo, .int cn, .int ii, .int fi, .int fe])), (aL, .inl (cI, 4, .inl L)), (aT, .inl (cI, 4, .inl T)), (aU, .inl (cI, 6, .inl (upd U (pa.toNatClampNeg) f_2)))] := hD
  have hpost : (upd U (pa.toNatClampNeg) f_2) = mAdd U pa b := by
    first | rfl | (simp only [mAdd, ef_1, ef_2]; done) | (simp only [mAdd, ef_1, ef_2]; rfl)
  have hP9 := hP.sub (ws' := [(rk, .inr (0, [.ref aL, .ref aT, .ref aU, .int co, .int pl, .int st, .int jo, .int cn, .int ii, .int fi, .int fe])), (aL, .inl (cI, 4, .inl L)), (aT, .inl (cI, 4, .inl T)), (aU, .inl (cI, 6, .inl (upd U (pa.toNatClampNeg) f_2)))]) [0, 1, 2, 3] rfl
  have hD9 := hD.sub (ws' := [(rk, .inr (0, [.ref aL, .ref aT, .ref aU, .int co, .int pl, .int st, .int jo, .int cn, .int ii, .int fi, .int fe])), (aL, .inl (cI, 4, .inl L)), (aT, .inl (cI, 4, .inl T)), (aU, .inl (cI, 6, .inl (upd U (pa.toNatClampNeg) f_2)))]) [0, 1, 2, 3] (by decide) rfl
  exact W.vret hx hb hr (fun t ht hW => ⟨⟨(upd U (pa.toNatClampNeg) f_2), rfl, hpost, by rw [ht]; exact hP9, hD9⟩, hS.F ht⟩) hS.2.2 dX0_addTrust_23

set_option maxHeartbeats 4000000 in
set_option maxRecDepth 100000 in
theorem c_X0_standsFor (l : Launch) (dC : Nat → ClassId) (dI : Nat → Nat → Nat) (cI : ClassId) (rk aL aT aU : Nat) (sz : Nat) (L : N2I) (T : N2I) (U : N2I) (co : Int32) (pl : Int32) (st : Int32) (jo : Int32) (cn : Int32) (ii : Int32) (fi : Int32) (fe : Int32) (pa : Int32) (hp : vp_in pa 6) (hst : vp_in st 4) : Met l yX0_standsFor wsX0_standsFor ({ frames := 1, cells := 0, slots := 0, locals := 21 } : Room) (va_Pc [.ref rk, .int pa] (pc_ (dC, dI) [(cI, .int)] [(rk, .inr (0, [.ref aL, .ref aT, .ref aU, .int co, .int pl, .int st, .int jo, .int cn, .int ii, .int fi, .int fe])), (aL, .inl (cI, 4, .inl L)), (aT, .inl (cI, 4, .inl T)), (aU, .inl (cI, 6, .inl U))] sz)) (va_Qi (fun (r : Int32) (u : Unit) => r = mCan T st jo U pa) (fun (u : Unit) (t : State) => va_P (dC, dI) vwCl [(rk, .inr (0, [.ref aL, .ref aT, .ref aU, .int co, .int pl, .int st, .int jo, .int cn, .int ii, .int fi, .int fe])), (aL, .inl (cI, 4, .inl L)), (aT, .inl (cI, 4, .inl T)), (aU, .inl (cI, 6, .inl U))] t.heap ∧ va_D (va_A [(rk, .inr (0, [.ref aL, .ref aT, .ref aU, .int co, .int pl, .int st, .int jo, .int cn, .int ii, .int fi, .int fe])), (aL, .inl (cI, 4, .inl L)), (aT, .inl (cI, 4, .inl T)), (aU, .inl (cI, 6, .inl U))] sz) [(rk, .inr (0, [.ref aL, .ref aT, .ref aU, .int co, .int pl, .int st, .int jo, .int cn, .int ii, .int fi, .int fe])), (aL, .inl (cI, 4, .inl L)), (aT, .inl (cI, 4, .inl T)), (aU, .inl (cI, 6, .inl U))]) (va_A [(rk, .inr (0, [.ref aL, .ref aT, .ref aU, .int co, .int pl, .int st, .int jo, .int cn, .int ii, .int fi, .int fe])), (aL, .inl (cI, 4, .inl L)), (aT, .inl (cI, 4, .inl T)), (aU, .inl (cI, 6, .inl U))] sz)) 0 0 (va_A [(rk, .inr (0, [.ref aL, .ref aT, .ref aU, .int co, .int pl, .int st, .int jo, .int cn, .int ii, .int fi, .int fe])), (aL, .inl (cI, 4, .inl L)), (aT, .inl (cI, 4, .inl T)), (aU, .inl (cI, 6, .inl U))] sz) := by
  refine Met.ofW (cc := cX0_standsFor) (maxL := 2) (ret := (some .boolean)) (by decide) rfl ?_
  intro p e s m args below meth c s₁ BB hml hv
  obtain ⟨rfl, hsz, hP, hK, hD0⟩ := hv
  have hx := BB.exec
  have hb := BB.bytes
  have hr := BB.returns
  have hts := atoms_spec (ws := wsX0_standsFor) BB.pre
  have hown : s.vm.findClass RX0 = some m.cls := findClass_of_methodNamed BB.named
  have hlocks := BB.notSynchronized
  subst hsz
  have hD := hD0.self (sz := s.heap.size)
  generalize hAe : va_A [(rk, .inr (0, [.ref aL, .ref aT, .ref aU, .int co, .int pl, .int st, .int jo, .int cn, .int ii, .int fi, .int fe])), (aL, .inl (cI, 4, .inl L)), (aT, .inl (cI, 4, .inl T)), (aU, .inl (cI, 6, .inl U))] s.heap.size = A at hD ⊢
  have hA : ∀ q : Nat, s.heap.size ≤ q → A q := fun q h => by rw [← hAe]; exact Or.inr h
  have hS : va_S A s.heap s.heap [] := va_S.rf
  have hP : va_P (dC, dI) vwCl [(rk, .inr (0, [.ref aL, .ref aT, .ref aU, .int co, .int pl, .int st, .int jo, .int cn, .int ii, .int fi, .int fe])), (aL, .inl (cI, 4, .inl L)), (aT, .inl (cI, 4, .inl T)), (aU, .inl (cI, 6, .inl U))] s.heap := hP
  have hl := lv_entry ([.ref rk, .int pa]) (n := 2) (Nat.le_of_ble_eq_true rfl)
  rw [lg_entry_eq]
  generalize (lg_sl ([.ref rk, .int pa]) ++ List.replicate (2 - (lg_sl ([.ref rk, .int pa])).length) Slot.unset).toArray = ls at hl ⊢
  have hl : lv_has ls 2 [(0, .ref rk), (1, .int pa)] := hl
  have k0 := hts (.fieldLink RX0 18 "KnifeLedger$Reckoning" "trusts" "[I") (by decide +kernel)
  have hinX0 : ∀ w ∈ wsX00, w ∈ wsX0_standsFor := by decide +kernel
  have k2 := hts (.fieldLink RX0 15 "KnifeLedger$Reckoning" "trembles" "[I") (by decide +kernel)
  have k3 := hts (.fieldLink RX0 28 "KnifeLedger$Reckoning" "stage" "I") (by decide +kernel)
  refine lv_aload_n hx hb dX0_standsFor_0 rfl (lv_at hl 0 rfl) ?_
  refine lv_iload_n hx hb dX0_standsFor_1 rfl (lv_at hl 1 rfl) ?_
  have hPc := hP.sub (ws' := [(rk, .inr (0, [.ref aL, .ref aT, .ref aU, .int co, .int pl, .int st, .int jo, .int cn, .int ii, .int fi, .int fe])), (aL, .inl (cI, 4, .inl L)), (aT, .inl (cI, 4, .inl T)), (aU, .inl (cI, 6, .inl U))]) [0, 1, 2, 3] rfl
  have hDc := hD.sub (ws' := [(rk, .inr (0, [.ref aL, .ref aT, .ref aU, .int co, .int pl, .int st, .int jo, .int cn, .int ii, .int fi, .int fe])), (aL, .inl (cI, 4, .inl L)), (aT, .inl (cI, 4, .inl T)), (aU, .inl (cI, 6, .inl U))]) [0, 1, 2, 3] (by decide) rfl
  have hKc := hK.sub (tys' := [(cI, .int)]) [0] rfl
  have hFc := va_free (wc := [(rk, .inr (0, [.ref aL, .ref aT, .ref aU, .int co, .int pl, .int st, .int jo, .int cn, .int ii, .int fi, .int fe])), (aL, .inl (cI, 4, .inl L)), (aT, .inl (cI, 4, .inl T)), (aU, .inl (cI, 6, .inl U))]) hD hS hA [0, 1, 2, 3] rfl
  refine va_calli (va_runV (As := [.int pa]) (rest := []) ⟨hx, hb, hml, hown, hts⟩ (c_X0_hasJoined l dC dI cI rk aL aT aU s.heap.size L T U co pl st jo cn ii fi fe pa) (cwV 1 hts gX0_standsFor_X0_hasJoined rfl rfl rfl (by decide +kernel) ⟨Nat.le_of_ble_eq_true rfl, Nat.le_of_ble_eq_true rfl⟩) (pc_V hKc hPc hDc (ci := 0) (C := RX0) (T := TX0) (N := 11) (q0 := 0) rfl rfl) rfl rfl hl.1 rfl (lv_room (Nat.le_of_ble_eq_true rfl)) dX0_standsFor_2 ⟨Nat.le_of_ble_eq_true rfl, Nat.le_of_ble_eq_true rfl⟩) hS (fun q _ h => hFc q h) hFc (fun r_1 u t H_1 locs ht hvm hw hB hz1 hk1 hS => ?_)
  try dsimp only at hw hB
  have hw_1 := hw
  replace hw_1 := hw_1.symm
  subst hw_1
  obtain ⟨hP1, hD1⟩ := hB
  rw [ht] at hP1
  obtain ⟨hP, hD⟩ := va_join (wr := []) (w1 := [(rk, .inr (0, [.ref aL, .ref aT, .ref aU, .int co, .int pl, .int st, .int jo, .int cn, .int ii, .int fi, .int fe])), (aL, .inl (cI, 4, .inl L)), (aT, .inl (cI, 4, .inl T)), (aU, .inl (cI, 6, .inl U))]) hP hD [0, 1, 2, 3] [] rfl rfl (by decide) (by decide) hk1 hFc hP1 hD1
  have hP : va_P (dC, dI) vwCl [(rk, .inr (0, [.ref aL, .ref aT, .ref aU, .int co, .int pl, .int st, .int jo, .int cn, .int ii, .int fi, .int fe])), (aL, .inl (cI, 4, .inl L)), (aT, .inl (cI, 4, .inl T)), (aU, .inl (cI, 6, .inl U))] H_1 := hP
  have hD : va_D A [(rk, .inr (0, [.ref aL, .ref aT, .ref aU, .int co, .int pl, .int st, .int jo, .int cn, .int ii, .int fi, .int fe])), (aL, .inl (cI, 4, .inl L)), (aT, .inl (cI, 4, .inl T)), (aU, .inl (cI, 6, .inl U))] := hD
  refine lv_if_eq (tgt := 33) hx hb dX0_standsFor_5 (by decide) (fun c_5 => ?_) (fun c_5 => ?_)
  · -- 5
    refine lv_iconst (v := 0) hx hb dX0_standsFor_33 (by decide) ?_
    have hpost : (0 : Int32) = mCan T st jo U pa := by
      first | rfl | (simp only [mCan, if_pos c_5]; done) | (simp only [mCan, if_pos c_5]; rfl)
    have hP9 := hP.sub (ws' := [(rk, .inr (0, [.ref aL, .ref aT, .ref aU, .int co, .int pl, .int st, .int jo, .int cn, .int ii, .int fi, .int fe])), (aL, .inl (cI, 4, .inl L)), (aT, .inl (cI, 4, .inl T)), (aU, .inl (cI, 6, .inl U))]) [0, 1, 2, 3] rfl
    have hD9 := hD.sub (ws' := [(rk, .inr (0, [.ref aL, .ref aT, .ref aU, .int co, .int pl, .int st, .int jo, .int cn, .int ii, .int fi, .int fe])), (aL, .inl (cI, 4, .inl L)), (aT, .inl (cI, 4, .inl T)), (aU, .inl (cI, 6, .inl U))]) [0, 1, 2, 3] (by decide) rfl
    exact W.zret (v := 0) (ty := .boolean) hx hb hr (rfl) (fun t ht hW => ⟨⟨0, (), rfl, hpost, by rw [ht]; exact hP9, hD9⟩, hS.F ht⟩) hS.2.2 dX0_standsFor_34
  · -- 5
    refine lv_aload_n hx hb dX0_standsFor_8 rfl (lv_at hl 0 rfl) ?_
    refine va_get (D := (dC, dI)) (ci := 0) (v := .ref aU) (C := RX0) (T := TX0) (N := 11) hx hb hts hinX0 hown hK hP 0 rfl rfl 2 (by decide) k0 (fun _ h9 => h9) rfl dX0_standsFor_9 ?_
    refine lv_iload_n hx hb dX0_standsFor_12 rfl (lv_at hl 1 rfl) ?_
    refine va_iald hx hb hK hP 3 0 rfl rfl (by assumption) dX0_standsFor_13 ?_
    refine lv_bipush (v := 20) hx hb dX0_standsFor_14 (by decide) ?_
    refine lv_aload_n hx hb dX0_standsFor_16 rfl (lv_at hl 0 rfl) ?_
    refine va_get (D := (dC, dI)) (ci := 0) (v := .ref aT) (C := RX0) (T := TX0) (N := 11) hx hb hts hinX0 hown hK hP 0 rfl rfl 1 (by decide) k2 (fun _ h9 => h9) rfl dX0_standsFor_17 ?_
    refine lv_aload_n hx hb dX0_standsFor_20 rfl (lv_at hl 0 rfl) ?_
    refine va_get (D := (dC, dI)) (ci := 0) (v := .int st) (C := RX0) (T := TX0) (N := 11) hx hb hts hinX0 hown hK hP 0 rfl rfl 5 (by decide) k3 (fun _ h9 => h9) rfl dX0_standsFor_21 ?_
    refine va_iald hx hb hK hP 2 0 rfl rfl (by assumption) dX0_standsFor_24 ?_
    refine lv_iadd hx hb dX0_standsFor_25 ?_
    refine lv_icmp_lt (tgt := 33) hx hb dX0_standsFor_26 (by decide) (fun c_26 => ?_) (fun c_26 => ?_)
    · -- 26
      refine lv_iconst (v := 0) hx hb dX0_standsFor_33 (by decide) ?_
      have hpost : (0 : Int32) = mCan T st jo U pa := by
        first | rfl | (simp only [mCan, if_neg c_5, if_pos c_26]; done) | (simp only [mCan, if_neg c_5, if_pos c_26]; rfl)
      have hP9 := hP.sub (ws' := [(rk, .inr (0, [.ref aL, .ref aT, .ref aU, .int co, .int pl, .int st, .int jo, .int cn, .int ii, .int fi, .int fe])), (aL, .inl (cI, 4, .inl L)), (aT, .inl (cI, 4, .inl T)), (aU, .inl (cI, 6, .inl U))]) [0, 1, 2, 3] rfl
      have hD9 := hD.sub (ws' := [(rk, .inr (0, [.ref aL, .ref aT, .ref aU, .int co, .int pl, .int st, .int jo, .int cn, .int ii, .int fi, .int fe])), (aL, .inl (cI, 4, .inl L)), (aT, .inl (cI, 4, .inl T)), (aU, .inl (cI, 6, .inl U))]) [0, 1, 2, 3] (by decide) rfl
      exact W.zret (v := 0) (ty := .boolean) hx hb hr (rfl) (fun t ht hW => ⟨⟨0, (), rfl, hpost, by rw [ht]; exact hP9, hD9⟩, hS.F ht⟩) hS.2.2 dX0_standsFor_34
    · -- 26
      refine lv_iconst (v := 1) hx hb dX0_standsFor_29 (by decide) ?_
      refine lv_goto (tgt := 34) hx hb dX0_standsFor_30 (by decide) ?_
      have hpost : (1 : Int32) = mCan T st jo U pa := by
        first | rfl | (simp only [mCan, if_neg c_5, if_neg c_26]; done) | (simp only [mCan, if_neg c_5, if_neg c_26]; rfl)
      have hP9 := hP.sub (ws' := [(rk, .inr (0, [.ref aL, .ref aT, .ref aU, .int co, .int pl, .int st, .int jo, .int cn, .int ii, .int fi, .int fe])), (aL, .inl (cI, 4, .inl L)), (aT, .inl (cI, 4, .inl T)), (aU, .inl (cI, 6, .inl U))]) [0, 1, 2, 3] rfl
      have hD9 := hD.sub (ws' := [(rk, .inr (0, [.ref aL, .ref aT, .ref aU, .int co, .int pl, .int st, .int jo, .int cn, .int ii, .int fi, .int fe])), (aL, .inl (cI, 4, .inl L)), (aT, .inl (cI, 4, .inl T)), (aU, .inl (cI, 6, .inl U))]) [0, 1, 2, 3] (by decide) rfl
      exact W.zret (v := 1) (ty := .boolean) hx hb hr (rfl) (fun t ht hW => ⟨⟨1, (), rfl, hpost, by rw [ht]; exact hP9, hD9⟩, hS.F ht⟩) hS.2.2 dX0_standsFor_34

set_option maxHeartbeats 4000000 in
set_option maxRecDepth 100000 in
theorem c_X0_trustMore (l : Launch) (dC : Nat → ClassId) (dI : Nat → Nat → Nat) (cI : ClassId) (rk aL aT aU : Nat) (sz : Nat) (L : N2I) (T : N2I) (U : N2I) (co : Int32) (pl : Int32) (st : Int32) (jo : Int32) (cn : Int32) (ii : Int32) (fi : Int32) (fe : Int32) (th : Int32) : Met l yX0_trustMore wsX0_trustMore ({ frames := 0, cells := 0, slots := 0, locals := 0 } : Room) (va_Pc [.ref rk, .int th] (pc_ (dC, dI) [(cI, .int)] [(rk, .inr (0, [.ref aL, .ref aT, .ref aU, .int co, .int pl, .int st, .int jo, .int cn, .int ii, .int fi, .int fe])), (aL, .inl (cI, 4, .inl L)), (aT, .inl (cI, 4, .inl T)), (aU, .inl (cI, 6, .inl U))] sz)) (va_Qi (fun (r : Int32) (u : Unit) => r = mTm pl th) (fun (u : Unit) (t : State) => va_P (dC, dI) vwCl [(rk, .inr (0, [.ref aL, .ref aT, .ref aU, .int co, .int pl, .int st, .int jo, .int cn, .int ii, .int fi, .int fe])), (aL, .inl (cI, 4, .inl L)), (aT, .inl (cI, 4, .inl T)), (aU, .inl (cI, 6, .inl U))] t.heap ∧ va_D (va_A [(rk, .inr (0, [.ref aL, .ref aT, .ref aU, .int co, .int pl, .int st, .int jo, .int cn, .int ii, .int fi, .int fe])), (aL, .inl (cI, 4, .inl L)), (aT, .inl (cI, 4, .inl T)), (aU, .inl (cI, 6, .inl U))] sz) [(rk, .inr (0, [.ref aL, .ref aT, .ref aU, .int co, .int pl, .int st, .int jo, .int cn, .int ii, .int fi, .int fe])), (aL, .inl (cI, 4, .inl L)), (aT, .inl (cI, 4, .inl T)), (aU, .inl (cI, 6, .inl U))]) (va_A [(rk, .inr (0, [.ref aL, .ref aT, .ref aU, .int co, .int pl, .int st, .int jo, .int cn, .int ii, .int fi, .int fe])), (aL, .inl (cI, 4, .inl L)), (aT, .inl (cI, 4, .inl T)), (aU, .inl (cI, 6, .inl U))] sz)) 0 0 (va_A [(rk, .inr (0, [.ref aL, .ref aT, .ref aU, .int co, .int pl, .int st, .int jo, .int cn, .int ii, .int fi, .int fe])), (aL, .inl (cI, 4, .inl L)), (aT, .inl (cI, 4, .inl T)), (aU, .inl (cI, 6, .inl U))] sz) := by
  refine Met.ofW (cc := cX0_trustMore) (maxL := 2) (ret := (some .int)) (by decide) rfl ?_
  intro p e s m args below meth c s₁ BB hml hv
  obtain ⟨rfl, hsz, hP, hK, hD0⟩ := hv
  have hx := BB.exec
  have hb := BB.bytes
  have hr := BB.returns
  have hts := atoms_spec (ws := wsX0_trustMore) BB.pre
  have hown : s.vm.findClass RX0 = some m.cls := findClass_of_methodNamed BB.named
  have hlocks := BB.notSynchronized
  subst hsz
  have hD := hD0.self (sz := s.heap.size)
  generalize hAe : va_A [(rk, .inr (0, [.ref aL, .ref aT, .ref aU, .int co, .int pl, .int st, .int jo, .int cn, .int ii, .int fi, .int fe])), (aL, .inl (cI, 4, .inl L)), (aT, .inl (cI, 4, .inl T)), (aU, .inl (cI, 6, .inl U))] s.heap.size = A at hD ⊢
  have hA : ∀ q : Nat, s.heap.size ≤ q → A q := fun q h => by rw [← hAe]; exact Or.inr h
  have hS : va_S A s.heap s.heap [] := va_S.rf
  have hP : va_P (dC, dI) vwCl [(rk, .inr (0, [.ref aL, .ref aT, .ref aU, .int co, .int pl, .int st, .int jo, .int cn, .int ii, .int fi, .int fe])), (aL, .inl (cI, 4, .inl L)), (aT, .inl (cI, 4, .inl T)), (aU, .inl (cI, 6, .inl U))] s.heap := hP
  have hl := lv_entry ([.ref rk, .int th]) (n := 2) (Nat.le_of_ble_eq_true rfl)
  rw [lg_entry_eq]
  generalize (lg_sl ([.ref rk, .int th]) ++ List.replicate (2 - (lg_sl ([.ref rk, .int th])).length) Slot.unset).toArray = ls at hl ⊢
  have hl : lv_has ls 2 [(0, .ref rk), (1, .int th)] := hl
  have k0 := hts (.fieldLink RX0 25 "KnifeLedger$Reckoning" "plasters" "I") (by decide +kernel)
  have hinX0 : ∀ w ∈ wsX00, w ∈ wsX0_trustMore := by decide +kernel
  refine lv_iload_n hx hb dX0_trustMore_0 rfl (lv_at hl 1 rfl) ?_
  refine lv_if_ne (tgt := 19) hx hb dX0_trustMore_1 (by decide) (fun c_1 => ?_) (fun c_1 => ?_)
  · -- 1
    refine lv_iload_n hx hb dX0_trustMore_19 rfl (lv_at hl 1 rfl) ?_
    refine lv_iconst (v := 3) hx hb dX0_trustMore_20 (by decide) ?_
    refine lv_icmp_gt (tgt := 27) hx hb dX0_trustMore_21 (by decide) (fun c_21 => ?_) (fun c_21 => ?_)
    · -- 21
      refine lv_iload_n hx hb dX0_trustMore_27 rfl (lv_at hl 1 rfl) ?_
      refine lv_bipush (v := 9) hx hb dX0_trustMore_28 (by decide) ?_
      refine lv_icmp_gt (tgt := 35) hx hb dX0_trustMore_30 (by decide) (fun c_30 => ?_) (fun c_30 => ?_)
      · -- 30
        refine lv_iconst (v := 3) hx hb dX0_trustMore_35 (by decide) ?_
        have hpost : (3 : Int32) = mTm pl th := by
          first | rfl | (simp only [mTm, if_neg c_1, if_pos c_21, if_pos c_30]; done) | (simp only [mTm, if_neg c_1, if_pos c_21, if_pos c_30]; rfl)
        have hP9 := hP.sub (ws' := [(rk, .inr (0, [.ref aL, .ref aT, .ref aU, .int co, .int pl, .int st, .int jo, .int cn, .int ii, .int fi, .int fe])), (aL, .inl (cI, 4, .inl L)), (aT, .inl (cI, 4, .inl T)), (aU, .inl (cI, 6, .inl U))]) [0, 1, 2, 3] rfl
        have hD9 := hD.sub (ws' := [(rk, .inr (0, [.ref aL, .ref aT, .ref aU, .int co, .int pl, .int st, .int jo, .int cn, .int ii, .int fi, .int fe])), (aL, .inl (cI, 4, .inl L)), (aT, .inl (cI, 4, .inl T)), (aU, .inl (cI, 6, .inl U))]) [0, 1, 2, 3] (by decide) rfl
        exact W.iret (v := 3) hx hb hr (fun t ht hW => ⟨⟨3, (), rfl, hpost, by rw [ht]; exact hP9, hD9⟩, hS.F ht⟩) hS.2.2 dX0_trustMore_36
      · -- 30
        refine lv_iconst (v := 1) hx hb dX0_trustMore_33 (by decide) ?_
        have hpost : (1 : Int32) = mTm pl th := by
          first | rfl | (simp only [mTm, if_neg c_1, if_pos c_21, if_neg c_30]; done) | (simp only [mTm, if_neg c_1, if_pos c_21, if_neg c_30]; rfl)
        have hP9 := hP.sub (ws' := [(rk, .inr (0, [.ref aL, .ref aT, .ref aU, .int co, .int pl, .int st, .int jo, .int cn, .int ii, .int fi, .int fe])), (aL, .inl (cI, 4, .inl L)), (aT, .inl (cI, 4, .inl T)), (aU, .inl (cI, 6, .inl U))]) [0, 1, 2, 3] rfl
        have hD9 := hD.sub (ws' := [(rk, .inr (0, [.ref aL, .ref aT, .ref aU, .int co, .int pl, .int st, .int jo, .int cn, .int ii, .int fi, .int fe])), (aL, .inl (cI, 4, .inl L)), (aT, .inl (cI, 4, .inl T)), (aU, .inl (cI, 6, .inl U))]) [0, 1, 2, 3] (by decide) rfl
        exact W.iret (v := 1) hx hb hr (fun t ht hW => ⟨⟨1, (), rfl, hpost, by rw [ht]; exact hP9, hD9⟩, hS.F ht⟩) hS.2.2 dX0_trustMore_34
    · -- 21
      refine lv_bipush (v := (-4)) hx hb dX0_trustMore_24 (by decide) ?_
      have hpost : (-4 : Int32) = mTm pl th := by
        first | rfl | (simp only [mTm, if_neg c_1, if_neg c_21]; done) | (simp only [mTm, if_neg c_1, if_neg c_21]; rfl)
      have hP9 := hP.sub (ws' := [(rk, .inr (0, [.ref aL, .ref aT, .ref aU, .int co, .int pl, .int st, .int jo, .int cn, .int ii, .int fi, .int fe])), (aL, .inl (cI, 4, .inl L)), (aT, .inl (cI, 4, .inl T)), (aU, .inl (cI, 6, .inl U))]) [0, 1, 2, 3] rfl
      have hD9 := hD.sub (ws' := [(rk, .inr (0, [.ref aL, .ref aT, .ref aU, .int co, .int pl, .int st, .int jo, .int cn, .int ii, .int fi, .int fe])), (aL, .inl (cI, 4, .inl L)), (aT, .inl (cI, 4, .inl T)), (aU, .inl (cI, 6, .inl U))]) [0, 1, 2, 3] (by decide) rfl
      exact W.iret (v := (-4)) hx hb hr (fun t ht hW => ⟨⟨(-4), (), rfl, hpost, by rw [ht]; exact hP9, hD9⟩, hS.F ht⟩) hS.2.2 dX0_trustMore_26
  · -- 1
    refine lv_aload_n hx hb dX0_trustMore_4 rfl (lv_at hl 0 rfl) ?_
    refine va_get (D := (dC, dI)) (ci := 0) (v := .int pl) (C := RX0) (T := TX0) (N := 11) hx hb hts hinX0 hown hK hP 0 rfl rfl 4 (by decide) k0 (fun _ h9 => h9) rfl dX0_trustMore_5 ?_
    refine lv_if_le (tgt := 16) hx hb dX0_trustMore_8 (by decide) (fun c_8 => ?_) (fun c_8 => ?_)
    · -- 8
      refine lv_bipush (v := (-60)) hx hb dX0_trustMore_16 (by decide) ?_
      have hpost : (-60 : Int32) = mTm pl th := by
        first | rfl | (simp only [mTm, if_pos c_1, if_pos c_8]; done) | (simp only [mTm, if_pos c_1, if_pos c_8]; rfl)
      have hP9 := hP.sub (ws' := [(rk, .inr (0, [.ref aL, .ref aT, .ref aU, .int co, .int pl, .int st, .int jo, .int cn, .int ii, .int fi, .int fe])), (aL, .inl (cI, 4, .inl L)), (aT, .inl (cI, 4, .inl T)), (aU, .inl (cI, 6, .inl U))]) [0, 1, 2, 3] rfl
      have hD9 := hD.sub (ws' := [(rk, .inr (0, [.ref aL, .ref aT, .ref aU, .int co, .int pl, .int st, .int jo, .int cn, .int ii, .int fi, .int fe])), (aL, .inl (cI, 4, .inl L)), (aT, .inl (cI, 4, .inl T)), (aU, .inl (cI, 6, .inl U))]) [0, 1, 2, 3] (by decide) rfl
      exact W.iret (v := (-60)) hx hb hr (fun t ht hW => ⟨⟨(-60), (), rfl, hpost, by rw [ht]; exact hP9, hD9⟩, hS.F ht⟩) hS.2.2 dX0_trustMore_18
    · -- 8
      refine lv_bipush (v := (-30)) hx hb dX0_trustMore_11 (by decide) ?_
      refine lv_goto (tgt := 18) hx hb dX0_trustMore_13 (by decide) ?_
      have hpost : (-30 : Int32) = mTm pl th := by
        first | rfl | (simp only [mTm, if_pos c_1, if_neg c_8]; done) | (simp only [mTm, if_pos c_1, if_neg c_8]; rfl)
      have hP9 := hP.sub (ws' := [(rk, .inr (0, [.ref aL, .ref aT, .ref aU, .int co, .int pl, .int st, .int jo, .int cn, .int ii, .int fi, .int fe])), (aL, .inl (cI, 4, .inl L)), (aT, .inl (cI, 4, .inl T)), (aU, .inl (cI, 6, .inl U))]) [0, 1, 2, 3] rfl
      have hD9 := hD.sub (ws' := [(rk, .inr (0, [.ref aL, .ref aT, .ref aU, .int co, .int pl, .int st, .int jo, .int cn, .int ii, .int fi, .int fe])), (aL, .inl (cI, 4, .inl L)), (aT, .inl (cI, 4, .inl T)), (aU, .inl (cI, 6, .inl U))]) [0, 1, 2, 3] (by decide) rfl
      exact W.iret (v := (-30)) hx hb hr (fun t ht hW => ⟨⟨(-30), (), rfl, hpost, by rw [ht]; exact hP9, hD9⟩, hS.F ht⟩) hS.2.2 dX0_trustMore_18

set_option maxHeartbeats 4000000 in
set_option maxRecDepth 100000 in
theorem c_X0_happensJoin (l : Launch) (dC : Nat → ClassId) (dI : Nat → Nat → Nat) (cI : ClassId) (rk aL aT aU : Nat) (sz : Nat) (L : N2I) (T : N2I) (U : N2I) (co : Int32) (pl : Int32) (st : Int32) (jo : Int32) (cn : Int32) (ii : Int32) (fi : Int32) (fe : Int32) (a : Int32) (hjo : vp_in jo 7) : Met l yX0_happensJoin wsX0_happensJoin ({ frames := 0, cells := 0, slots := 0, locals := 0 } : Room) (va_Pc [.ref rk, .int a] (pc_ (dC, dI) [(cI, .int)] [(rk, .inr (0, [.ref aL, .ref aT, .ref aU, .int co, .int pl, .int st, .int jo, .int cn, .int ii, .int fi, .int fe])), (aL, .inl (cI, 4, .inl L)), (aT, .inl (cI, 4, .inl T)), (aU, .inl (cI, 6, .inl U))] sz)) (va_Qi (fun (r : Int32) (u : Int32 × Int32 × Int32 × Int32 × N2I) => (r, u.1, u.2.1, u.2.2.1, u.2.2.2.1, u.2.2.2.2) = mJoin co pl st jo U a) (fun (u : Int32 × Int32 × Int32 × Int32 × N2I) (t : State) => va_P (dC, dI) vwCl [(rk, .inr (0, [.ref aL, .ref aT, .ref aU, .int u.1, .int u.2.1, .int u.2.2.1, .int u.2.2.2.1, .int cn, .int ii, .int fi, .int fe])), (aL, .inl (cI, 4, .inl L)), (aT, .inl (cI, 4, .inl T)), (aU, .inl (cI, 6, .inl u.2.2.2.2))] t.heap ∧ va_D (va_A [(rk, .inr (0, [.ref aL, .ref aT, .ref aU, .int co, .int pl, .int st, .int jo, .int cn, .int ii, .int fi, .int fe])), (aL, .inl (cI, 4, .inl L)), (aT, .inl (cI, 4, .inl T)), (aU, .inl (cI, 6, .inl U))] sz) [(rk, .inr (0, [.ref aL, .ref aT, .ref aU, .int u.1, .int u.2.1, .int u.2.2.1, .int u.2.2.2.1, .int cn, .int ii, .int fi, .int fe])), (aL, .inl (cI, 4, .inl L)), (aT, .inl (cI, 4, .inl T)), (aU, .inl (cI, 6, .inl u.2.2.2.2))]) (va_A [(rk, .inr (0, [.ref aL, .ref aT, .ref aU, .int co, .int pl, .int st, .int jo, .int cn, .int ii, .int fi, .int fe])), (aL, .inl (cI, 4, .inl L)), (aT, .inl (cI, 4, .inl T)), (aU, .inl (cI, 6, .inl U))] sz)) 0 0 (va_A [(rk, .inr (0, [.ref aL, .ref aT, .ref aU, .int co, .int pl, .int st, .int jo, .int cn, .int ii, .int fi, .int fe])), (aL, .inl (cI, 4, .inl L)), (aT, .inl (cI, 4, .inl T)), (aU, .inl (cI, 6, .inl U))] sz) := by
  refine Met.ofW (cc := cX0_happensJoin) (maxL := 2) (ret := (some .boolean)) (by decide) rfl ?_
  intro p e s m args below meth c s₁ BB hml hv
  obtain ⟨rfl, hsz, hP, hK, hD0⟩ := hv
  have hx := BB.exec
  have hb := BB.bytes
  have hr := BB.returns
  have hts := atoms_spec (ws := wsX0_happensJoin) BB.pre
  have hown : s.vm.findClass RX0 = some m.cls := findClass_of_methodNamed BB.named
  have hlocks := BB.notSynchronized
  subst hsz
  have hD := hD0.self (sz := s.heap.size)
  generalize hAe : va_A [(rk, .inr (0, [.ref aL, .ref aT, .ref aU, .int co, .int pl, .int st, .int jo, .int cn, .int ii, .int fi, .int fe])), (aL, .inl (cI, 4, .inl L)), (aT, .inl (cI, 4, .inl T)), (aU, .inl (cI, 6, .inl U))] s.heap.size = A at hD ⊢
  have hA : ∀ q : Nat, s.heap.size ≤ q → A q := fun q h => by rw [← hAe]; exact Or.inr h
  have hS : va_S A s.heap s.heap [] := va_S.rf
  have hP : va_P (dC, dI) vwCl [(rk, .inr (0, [.ref aL, .ref aT, .ref aU, .int co, .int pl, .int st, .int jo, .int cn, .int ii, .int fi, .int fe])), (aL, .inl (cI, 4, .inl L)), (aT, .inl (cI, 4, .inl T)), (aU, .inl (cI, 6, .inl U))] s.heap := hP
  have hl := lv_entry ([.ref rk, .int a]) (n := 2) (Nat.le_of_ble_eq_true rfl)
  rw [lg_entry_eq]
  generalize (lg_sl ([.ref rk, .int a]) ++ List.replicate (2 - (lg_sl ([.ref rk, .int a])).length) Slot.unset).toArray = ls at hl ⊢
  have hl : lv_has ls 2 [(0, .ref rk), (1, .int a)] := hl
  have k0 := hts (.fieldLink RX0 31 "KnifeLedger$Reckoning" "joined" "I") (by decide +kernel)
  have hinX0 : ∀ w ∈ wsX00, w ∈ wsX0_happensJoin := by decide +kernel
  have k2 := hts (.fieldLink RX0 18 "KnifeLedger$Reckoning" "trusts" "[I") (by decide +kernel)
  refine lv_aload_n hx hb dX0_happensJoin_0 rfl (lv_at hl 0 rfl) ?_
  refine va_get (D := (dC, dI)) (ci := 0) (v := .int jo) (C := RX0) (T := TX0) (N := 11) hx hb hts hinX0 hown hK hP 0 rfl rfl 6 (by decide) k0 (fun _ h9 => h9) rfl dX0_happensJoin_1 ?_
  refine lv_bipush (v := 6) hx hb dX0_happensJoin_4 (by decide) ?_
  refine lv_icmp_lt (tgt := 11) hx hb dX0_happensJoin_6 (by decide) (fun c_6 => ?_) (fun c_6 => ?_)
  · -- 6
    refine lv_aload_n hx hb dX0_happensJoin_11 rfl (lv_at hl 0 rfl) ?_
    refine va_get (D := (dC, dI)) (ci := 0) (v := .ref aU) (C := RX0) (T := TX0) (N := 11) hx hb hts hinX0 hown hK hP 0 rfl rfl 2 (by decide) k2 (fun _ h9 => h9) rfl dX0_happensJoin_12 ?_
    refine lv_aload_n hx hb dX0_happensJoin_15 rfl (lv_at hl 0 rfl) ?_
    refine va_get (D := (dC, dI)) (ci := 0) (v := .int jo) (C := RX0) (T := TX0) (N := 11) hx hb hts hinX0 hown hK hP 0 rfl rfl 6 (by decide) k0 (fun _ h9 => h9) rfl dX0_happensJoin_16 ?_
    refine lv_iload_n hx hb dX0_happensJoin_19 rfl (lv_at hl 1 rfl) ?_
    refine va_iast hx hb hK hP hD hS 3 0 rfl rfl (lt6_in hjo c_6) dX0_happensJoin_20 (fun H_1 locs hP hD hS => ?_)
    have hP : va_P (dC, dI) vwCl [(rk, .inr (0, [.ref aL, .ref aT, .ref aU, .int co, .int pl, .int st, .int jo, .int cn, .int ii, .int fi, .int fe])), (aL, .inl (cI, 4, .inl L)), (aT, .inl (cI, 4, .inl T)), (aU, .inl (cI, 6, .inl (upd U (jo.toNatClampNeg) a)))] H_1 := hP
    have hD : va_D A [(rk, .inr (0, [.ref aL, .ref aT, .ref aU, .int co, .int pl, .int st, .int jo, .int cn, .int ii, .int fi, .int fe])), (aL, .inl (cI, 4, .inl L)), (aT, .inl (cI, 4, .inl T)), (aU, .inl (cI, 6, .inl (upd U (jo.toNatClampNeg) a)))] := hD
    refine lv_aload_n hx hb dX0_happensJoin_21 rfl (lv_at hl 0 rfl) ?_
    refine lv_dup hx hb dX0_happensJoin_22 rfl ?_
    refine va_get (D := (dC, dI)) (ci := 0) (v := .int jo) (C := RX0) (T := TX0) (N := 11) hx hb hts hinX0 hown hK hP 0 rfl rfl 6 (by decide) k0 (fun _ h9 => h9) rfl dX0_happensJoin_23 ?_
    refine lv_iconst (v := 1) hx hb dX0_happensJoin_26 (by decide) ?_
    refine lv_iadd hx hb dX0_happensJoin_27 ?_
    refine lv_topi (fun f_2 ef_2 => ?_)
    refine va_put (D := (dC, dI)) (ci := 0) (v := .int f_2) (ty := .int) (C := RX0) (T := TX0) (N := 11) hx hb hts hinX0 tyX0 tyX0_ok nmX0 hown hK hP hD hS 0 rfl rfl 6 (by decide) k0 (fun _ h9 => h9) rfl (by decide +kernel) rfl rfl (Nat.le_of_ble_eq_true rfl) dX0_happensJoin_28 (fun H_3 locs hP hD hS => ?_)
    have hP : va_P (dC, dI) vwCl [(rk, .inr (0, [.ref aL, .ref aT, .ref aU, .int co, .int pl, .int st, .int f_2, .int cn, .int ii, .int fi, .int fe])), (aL, .inl (cI, 4, .inl L)), (aT, .inl (cI, 4, .inl T)), (aU, .inl (cI, 6, .inl (upd U (jo.toNatClampNeg) a)))] H_3 := hP
    have hD : va_D A [(rk, .inr (0, [.ref aL, .ref aT, .ref aU, .int co, .int pl, .int st, .int f_2, .int cn, .int ii, .int fi, .int fe])), (aL, .inl (cI, 4, .inl L)), (aT, .inl (cI, 4, .inl T)), (aU, .inl (cI, 6, .inl (upd U (jo.toNatClampNeg) a)))] := hD
    refine lv_iconst (v := 1) hx hb dX0_happensJoin_31 (by decide) ?_
    have hpost : ((1 : Int32), co, pl, st, f_2, (upd U (jo.toNatClampNeg) a)) = mJoin co pl st jo U a := by
      first | rfl | (simp only [mJoin, if_pos c_6, ef_2]; done) | (simp only [mJoin, if_pos c_6, ef_2]; rfl)
    have hP9 := hP.sub (ws' := [(rk, .inr (0, [.ref aL, .ref aT, .ref aU, .int co, .int pl, .int st, .int f_2, .int cn, .int ii, .int fi, .int fe])), (aL, .inl (cI, 4, .inl L)), (aT, .inl (cI, 4, .inl T)), (aU, .inl (cI, 6, .inl (upd U (jo.toNatClampNeg) a)))]) [0, 1, 2, 3] rfl
    have hD9 := hD.sub (ws' := [(rk, .inr (0, [.ref aL, .ref aT, .ref aU, .int co, .int pl, .int st, .int f_2, .int cn, .int ii, .int fi, .int fe])), (aL, .inl (cI, 4, .inl L)), (aT, .inl (cI, 4, .inl T)), (aU, .inl (cI, 6, .inl (upd U (jo.toNatClampNeg) a)))]) [0, 1, 2, 3] (by decide) rfl
    exact W.zret (v := 1) (ty := .boolean) hx hb hr (rfl) (fun t ht hW => ⟨⟨1, (co, pl, st, f_2, upd U (jo.toNatClampNeg) a), rfl, hpost, by rw [ht]; exact hP9, hD9⟩, hS.F ht⟩) hS.2.2 dX0_happensJoin_32
  · -- 6
    refine lv_iconst (v := 0) hx hb dX0_happensJoin_9 (by decide) ?_
    have hpost : ((0 : Int32), co, pl, st, jo, U) = mJoin co pl st jo U a := by
      first | rfl | (simp only [mJoin, if_neg c_6]; done) | (simp only [mJoin, if_neg c_6]; rfl)
    have hP9 := hP.sub (ws' := [(rk, .inr (0, [.ref aL, .ref aT, .ref aU, .int co, .int pl, .int st, .int jo, .int cn, .int ii, .int fi, .int fe])), (aL, .inl (cI, 4, .inl L)), (aT, .inl (cI, 4, .inl T)), (aU, .inl (cI, 6, .inl U))]) [0, 1, 2, 3] rfl
    have hD9 := hD.sub (ws' := [(rk, .inr (0, [.ref aL, .ref aT, .ref aU, .int co, .int pl, .int st, .int jo, .int cn, .int ii, .int fi, .int fe])), (aL, .inl (cI, 4, .inl L)), (aT, .inl (cI, 4, .inl T)), (aU, .inl (cI, 6, .inl U))]) [0, 1, 2, 3] (by decide) rfl
    exact W.zret (v := 0) (ty := .boolean) hx hb hr (rfl) (fun t ht hW => ⟨⟨0, (co, pl, st, jo, U), rfl, hpost, by rw [ht]; exact hP9, hD9⟩, hS.F ht⟩) hS.2.2 dX0_happensJoin_10

set_option maxHeartbeats 4000000 in
set_option maxRecDepth 100000 in
theorem c_X0_happensToss (l : Launch) (dC : Nat → ClassId) (dI : Nat → Nat → Nat) (cI : ClassId) (rk aL aT aU : Nat) (sz : Nat) (L : N2I) (T : N2I) (U : N2I) (co : Int32) (pl : Int32) (st : Int32) (jo : Int32) (cn : Int32) (ii : Int32) (fi : Int32) (fe : Int32) (pa : Int32) (th : Int32) (hp : vp_in pa 6) (hst : vp_in st 4) : Met l yX0_happensToss wsX0_happensToss ({ frames := 3, cells := 0, slots := 0, locals := 59 } : Room) (va_Pc [.ref rk, .int pa, .int th] (pc_ (dC, dI) [(cI, .int)] [(rk, .inr (0, [.ref aL, .ref aT, .ref aU, .int co, .int pl, .int st, .int jo, .int cn, .int ii, .int fi, .int fe])), (aL, .inl (cI, 4, .inl L)), (aT, .inl (cI, 4, .inl T)), (aU, .inl (cI, 6, .inl U))] sz)) (va_Qi (fun (r : Int32) (u : Int32 × Int32 × Int32 × Int32 × N2I) => (r, u.1, u.2.1, u.2.2.1, u.2.2.2.1, u.2.2.2.2) = mToss L T co pl st jo U pa th) (fun (u : Int32 × Int32 × Int32 × Int32 × N2I) (t : State) => va_P (dC, dI) vwCl [(rk, .inr (0, [.ref aL, .ref aT, .ref aU, .int u.1, .int u.2.1, .int u.2.2.1, .int u.2.2.2.1, .int cn, .int ii, .int fi, .int fe])), (aL, .inl (cI, 4, .inl L)), (aT, .inl (cI, 4, .inl T)), (aU, .inl (cI, 6, .inl u.2.2.2.2))] t.heap ∧ va_D (va_A [(rk, .inr (0, [.ref aL, .ref aT, .ref aU, .int co, .int pl, .int st, .int jo, .int cn, .int ii, .int fi, .int fe])), (aL, .inl (cI, 4, .inl L)), (aT, .inl (cI, 4, .inl T)), (aU, .inl (cI, 6, .inl U))] sz) [(rk, .inr (0, [.ref aL, .ref aT, .ref aU, .int u.1, .int u.2.1, .int u.2.2.1, .int u.2.2.2.1, .int cn, .int ii, .int fi, .int fe])), (aL, .inl (cI, 4, .inl L)), (aT, .inl (cI, 4, .inl T)), (aU, .inl (cI, 6, .inl u.2.2.2.2))]) (va_A [(rk, .inr (0, [.ref aL, .ref aT, .ref aU, .int co, .int pl, .int st, .int jo, .int cn, .int ii, .int fi, .int fe])), (aL, .inl (cI, 4, .inl L)), (aT, .inl (cI, 4, .inl T)), (aU, .inl (cI, 6, .inl U))] sz)) 0 0 (va_A [(rk, .inr (0, [.ref aL, .ref aT, .ref aU, .int co, .int pl, .int st, .int jo, .int cn, .int ii, .int fi, .int fe])), (aL, .inl (cI, 4, .inl L)), (aT, .inl (cI, 4, .inl T)), (aU, .inl (cI, 6, .inl U))] sz) := by
  refine Met.ofW (cc := cX0_happensToss) (maxL := 3) (ret := (some .boolean)) (by decide) rfl ?_
  intro p e s m args below meth c s₁ BB hml hv
  obtain ⟨rfl, hsz, hP, hK, hD0⟩ := hv
  have hx := BB.exec
  have hb := BB.bytes
  have hr := BB.returns
  have hts := atoms_spec (ws := wsX0_happensToss) BB.pre
  have hown : s.vm.findClass RX0 = some m.cls := findClass_of_methodNamed BB.named
  have hlocks := BB.notSynchronized
  subst hsz
  have hD := hD0.self (sz := s.heap.size)
  generalize hAe : va_A [(rk, .inr (0, [.ref aL, .ref aT, .ref aU, .int co, .int pl, .int st, .int jo, .int cn, .int ii, .int fi, .int fe])), (aL, .inl (cI, 4, .inl L)), (aT, .inl (cI, 4, .inl T)), (aU, .inl (cI, 6, .inl U))] s.heap.size = A at hD ⊢
  have hA : ∀ q : Nat, s.heap.size ≤ q → A q := fun q h => by rw [← hAe]; exact Or.inr h
  have hS : va_S A s.heap s.heap [] := va_S.rf
  have hP : va_P (dC, dI) vwCl [(rk, .inr (0, [.ref aL, .ref aT, .ref aU, .int co, .int pl, .int st, .int jo, .int cn, .int ii, .int fi, .int fe])), (aL, .inl (cI, 4, .inl L)), (aT, .inl (cI, 4, .inl T)), (aU, .inl (cI, 6, .inl U))] s.heap := hP
  have hl := lv_entry ([.ref rk, .int pa, .int th]) (n := 3) (Nat.le_of_ble_eq_true rfl)
  rw [lg_entry_eq]
  generalize (lg_sl ([.ref rk, .int pa, .int th]) ++ List.replicate (3 - (lg_sl ([.ref rk, .int pa, .int th])).length) Slot.unset).toArray = ls at hl ⊢
  have hl : lv_has ls 3 [(0, .ref rk), (1, .int pa), (2, .int th)] := hl
  have k0 := hts (.fieldLink RX0 21 "KnifeLedger$Reckoning" "coins" "I") (by decide +kernel)
  have hinX0 : ∀ w ∈ wsX00, w ∈ wsX0_happensToss := by decide +kernel
  have k2 := hts (.fieldLink RX0 25 "KnifeLedger$Reckoning" "plasters" "I") (by decide +kernel)
  refine lv_aload_n hx hb dX0_happensToss_0 rfl (lv_at hl 0 rfl) ?_
  refine lv_iload_n hx hb dX0_happensToss_1 rfl (lv_at hl 1 rfl) ?_
  have hPc := hP.sub (ws' := [(rk, .inr (0, [.ref aL, .ref aT, .ref aU, .int co, .int pl, .int st, .int jo, .int cn, .int ii, .int fi, .int fe])), (aL, .inl (cI, 4, .inl L)), (aT, .inl (cI, 4, .inl T)), (aU, .inl (cI, 6, .inl U))]) [0, 1, 2, 3] rfl
  have hDc := hD.sub (ws' := [(rk, .inr (0, [.ref aL, .ref aT, .ref aU, .int co, .int pl, .int st, .int jo, .int cn, .int ii, .int fi, .int fe])), (aL, .inl (cI, 4, .inl L)), (aT, .inl (cI, 4, .inl T)), (aU, .inl (cI, 6, .inl U))]) [0, 1, 2, 3] (by decide) rfl
  have hKc := hK.sub (tys' := [(cI, .int)]) [0] rfl
  have hFc := va_free (wc := [(rk, .inr (0, [.ref aL, .ref aT, .ref aU, .int co, .int pl, .int st, .int jo, .int cn, .int ii, .int fi, .int fe])), (aL, .inl (cI, 4, .inl L)), (aT, .inl (cI, 4, .inl T)), (aU, .inl (cI, 6, .inl U))]) hD hS hA [0, 1, 2, 3] rfl
  refine va_calli (va_runV (As := [.int pa]) (rest := []) ⟨hx, hb, hml, hown, hts⟩ (c_X0_standsFor l dC dI cI rk aL aT aU s.heap.size L T U co pl st jo cn ii fi fe pa (by assumption) (by assumption)) (cwV 1 hts gX0_happensToss_X0_standsFor rfl rfl rfl (by decide +kernel) ⟨Nat.le_of_ble_eq_true rfl, Nat.le_of_ble_eq_true rfl⟩) (pc_V hKc hPc hDc (ci := 0) (C := RX0) (T := TX0) (N := 11) (q0 := 0) rfl rfl) rfl rfl hl.1 rfl (lv_room (Nat.le_of_ble_eq_true rfl)) dX0_happensToss_2 ⟨Nat.le_of_ble_eq_true rfl, Nat.le_of_ble_eq_true rfl⟩) hS (fun q _ h => hFc q h) hFc (fun r_1 u t H_1 locs ht hvm hw hB hz1 hk1 hS => ?_)
  try dsimp only at hw hB
  have hw_1 := hw
  replace hw_1 := hw_1.symm
  subst hw_1
  obtain ⟨hP1, hD1⟩ := hB
  rw [ht] at hP1
  obtain ⟨hP, hD⟩ := va_join (wr := []) (w1 := [(rk, .inr (0, [.ref aL, .ref aT, .ref aU, .int co, .int pl, .int st, .int jo, .int cn, .int ii, .int fi, .int fe])), (aL, .inl (cI, 4, .inl L)), (aT, .inl (cI, 4, .inl T)), (aU, .inl (cI, 6, .inl U))]) hP hD [0, 1, 2, 3] [] rfl rfl (by decide) (by decide) hk1 hFc hP1 hD1
  have hP : va_P (dC, dI) vwCl [(rk, .inr (0, [.ref aL, .ref aT, .ref aU, .int co, .int pl, .int st, .int jo, .int cn, .int ii, .int fi, .int fe])), (aL, .inl (cI, 4, .inl L)), (aT, .inl (cI, 4, .inl T)), (aU, .inl (cI, 6, .inl U))] H_1 := hP
  have hD : va_D A [(rk, .inr (0, [.ref aL, .ref aT, .ref aU, .int co, .int pl, .int st, .int jo, .int cn, .int ii, .int fi, .int fe])), (aL, .inl (cI, 4, .inl L)), (aT, .inl (cI, 4, .inl T)), (aU, .inl (cI, 6, .inl U))] := hD
  refine lv_if_ne (tgt := 10) hx hb dX0_happensToss_5 (by decide) (fun c_5 => ?_) (fun c_5 => ?_)
  · -- 5
    refine lv_aload_n hx hb dX0_happensToss_10 rfl (lv_at hl 0 rfl) ?_
    refine lv_dup hx hb dX0_happensToss_11 rfl ?_
    refine va_get (D := (dC, dI)) (ci := 0) (v := .int co) (C := RX0) (T := TX0) (N := 11) hx hb hts hinX0 hown hK hP 0 rfl rfl 3 (by decide) k0 (fun _ h9 => h9) rfl dX0_happensToss_12 ?_
    refine lv_aload_n hx hb dX0_happensToss_15 rfl (lv_at hl 0 rfl) ?_
    refine lv_iload_n hx hb dX0_happensToss_16 rfl (lv_at hl 2 rfl) ?_
    have hPc := hP.sub (ws' := [(rk, .inr (0, [.ref aL, .ref aT, .ref aU, .int co, .int pl, .int st, .int jo, .int cn, .int ii, .int fi, .int fe])), (aL, .inl (cI, 4, .inl L)), (aT, .inl (cI, 4, .inl T)), (aU, .inl (cI, 6, .inl U))]) [0, 1, 2, 3] rfl
    have hDc := hD.sub (ws' := [(rk, .inr (0, [.ref aL, .ref aT, .ref aU, .int co, .int pl, .int st, .int jo, .int cn, .int ii, .int fi, .int fe])), (aL, .inl (cI, 4, .inl L)), (aT, .inl (cI, 4, .inl T)), (aU, .inl (cI, 6, .inl U))]) [0, 1, 2, 3] (by decide) rfl
    have hKc := hK.sub (tys' := [(cI, .int)]) [0] rfl
    have hFc := va_free (wc := [(rk, .inr (0, [.ref aL, .ref aT, .ref aU, .int co, .int pl, .int st, .int jo, .int cn, .int ii, .int fi, .int fe])), (aL, .inl (cI, 4, .inl L)), (aT, .inl (cI, 4, .inl T)), (aU, .inl (cI, 6, .inl U))]) hD hS hA [0, 1, 2, 3] rfl
    refine va_calli (va_runV (As := [.int th]) (rest := [.int co, .ref rk]) ⟨hx, hb, hml, hown, hts⟩ (c_X0_takings l dC dI cI rk aL aT aU H_1.size L T U co pl st jo cn ii fi fe th (by assumption)) (cwV 1 hts gX0_happensToss_X0_takings rfl rfl rfl (by decide +kernel) ⟨Nat.le_of_ble_eq_true rfl, Nat.le_of_ble_eq_true rfl⟩) (pc_V hKc hPc hDc (ci := 0) (C := RX0) (T := TX0) (N := 11) (q0 := 0) rfl rfl) rfl rfl hl.1 rfl (lv_room (Nat.le_of_ble_eq_true rfl)) dX0_happensToss_17 ⟨Nat.le_of_ble_eq_true rfl, Nat.le_of_ble_eq_true rfl⟩) hS (fun q _ h => hFc q h) hFc (fun r_2 u t H_2 locs ht hvm hw hB hz1 hk1 hS => ?_)
    try dsimp only at hw hB
    have hw_2 := hw
    replace hw_2 := hw_2.symm
    subst hw_2
    obtain ⟨hP1, hD1⟩ := hB
    rw [ht] at hP1
    obtain ⟨hP, hD⟩ := va_join (wr := []) (w1 := [(rk, .inr (0, [.ref aL, .ref aT, .ref aU, .int co, .int pl, .int st, .int jo, .int cn, .int ii, .int fi, .int fe])), (aL, .inl (cI, 4, .inl L)), (aT, .inl (cI, 4, .inl T)), (aU, .inl (cI, 6, .inl U))]) hP hD [0, 1, 2, 3] [] rfl rfl (by decide) (by decide) hk1 hFc hP1 hD1
    have hP : va_P (dC, dI) vwCl [(rk, .inr (0, [.ref aL, .ref aT, .ref aU, .int co, .int pl, .int st, .int jo, .int cn, .int ii, .int fi, .int fe])), (aL, .inl (cI, 4, .inl L)), (aT, .inl (cI, 4, .inl T)), (aU, .inl (cI, 6, .inl U))] H_2 := hP
    have hD : va_D A [(rk, .inr (0, [.ref aL, .ref aT, .ref aU, .int co, .int pl, .int st, .int jo, .int cn, .int ii, .int fi, .int fe])), (aL, .inl (cI, 4, .inl L)), (aT, .inl (cI, 4, .inl T)), (aU, .inl (cI, 6, .inl U))] := hD
    refine lv_iadd hx hb dX0_happensToss_20 ?_
    refine lv_topi (fun f_3 ef_3 => ?_)
    refine va_put (D := (dC, dI)) (ci := 0) (v := .int f_3) (ty := .int) (C := RX0) (T := TX0) (N := 11) hx hb hts hinX0 tyX0 tyX0_ok nmX0 hown hK hP hD hS 0 rfl rfl 3 (by decide) k0 (fun _ h9 => h9) rfl (by decide +kernel) rfl rfl (Nat.le_of_ble_eq_true rfl) dX0_happensToss_21 (fun H_4 locs hP hD hS => ?_)
    have hP : va_P (dC, dI) vwCl [(rk, .inr (0, [.ref aL, .ref aT, .ref aU, .int f_3, .int pl, .int st, .int jo, .int cn, .int ii, .int fi, .int fe])), (aL, .inl (cI, 4, .inl L)), (aT, .inl (cI, 4, .inl T)), (aU, .inl (cI, 6, .inl U))] H_4 := hP
    have hD : va_D A [(rk, .inr (0, [.ref aL, .ref aT, .ref aU, .int f_3, .int pl, .int st, .int jo, .int cn, .int ii, .int fi, .int fe])), (aL, .inl (cI, 4, .inl L)), (aT, .inl (cI, 4, .inl T)), (aU, .inl (cI, 6, .inl U))] := hD
    refine lv_aload_n hx hb dX0_happensToss_24 rfl (lv_at hl 0 rfl) ?_
    refine lv_iload_n hx hb dX0_happensToss_25 rfl (lv_at hl 1 rfl) ?_
    refine lv_aload_n hx hb dX0_happensToss_26 rfl (lv_at hl 0 rfl) ?_
    refine lv_iload_n hx hb dX0_happensToss_27 rfl (lv_at hl 2 rfl) ?_
    have hPc := hP.sub (ws' := [(rk, .inr (0, [.ref aL, .ref aT, .ref aU, .int f_3, .int pl, .int st, .int jo, .int cn, .int ii, .int fi, .int fe])), (aL, .inl (cI, 4, .inl L)), (aT, .inl (cI, 4, .inl T)), (aU, .inl (cI, 6, .inl U))]) [0, 1, 2, 3] rfl
    have hDc := hD.sub (ws' := [(rk, .inr (0, [.ref aL, .ref aT, .ref aU, .int f_3, .int pl, .int st, .int jo, .int cn, .int ii, .int fi, .int fe])), (aL, .inl (cI, 4, .inl L)), (aT, .inl (cI, 4, .inl T)), (aU, .inl (cI, 6, .inl U))]) [0, 1, 2, 3] (by decide) rfl
    have hKc := hK.sub (tys' := [(cI, .int)]) [0] rfl
    have hFc := va_free (wc := [(rk, .inr (0, [.ref aL, .ref aT, .ref aU, .int f_3, .int pl, .int st, .int jo, .int cn, .int ii, .int fi, .int fe])), (aL, .inl (cI, 4, .inl L)), (aT, .inl (cI, 4, .inl T)), (aU, .inl (cI, 6, .inl U))]) hD hS hA [0, 1, 2, 3] rfl
    refine va_calli (va_runV (As := [.int th]) (rest := [.int pa, .ref rk]) ⟨hx, hb, hml, hown, hts⟩ (c_X0_trustMore l dC dI cI rk aL aT aU H_4.size L T U f_3 pl st jo cn ii fi fe th) (cwV 1 hts gX0_happensToss_X0_trustMore rfl rfl rfl (by decide +kernel) ⟨Nat.le_of_ble_eq_true rfl, Nat.le_of_ble_eq_true rfl⟩) (pc_V hKc hPc hDc (ci := 0) (C := RX0) (T := TX0) (N := 11) (q0 := 0) rfl rfl) rfl rfl hl.1 rfl (lv_room (Nat.le_of_ble_eq_true rfl)) dX0_happensToss_28 ⟨Nat.le_of_ble_eq_true rfl, Nat.le_of_ble_eq_true rfl⟩) hS (fun q _ h => hFc q h) hFc (fun r_5 u t H_5 locs ht hvm hw hB hz1 hk1 hS => ?_)
    try dsimp only at hw hB
    have hw_5 := hw
    replace hw_5 := hw_5.symm
    subst hw_5
    obtain ⟨hP1, hD1⟩ := hB
    rw [ht] at hP1
    obtain ⟨hP, hD⟩ := va_join (wr := []) (w1 := [(rk, .inr (0, [.ref aL, .ref aT, .ref aU, .int f_3, .int pl, .int st, .int jo, .int cn, .int ii, .int fi, .int fe])), (aL, .inl (cI, 4, .inl L)), (aT, .inl (cI, 4, .inl T)), (aU, .inl (cI, 6, .inl U))]) hP hD [0, 1, 2, 3] [] rfl rfl (by decide) (by decide) hk1 hFc hP1 hD1
    have hP : va_P (dC, dI) vwCl [(rk, .inr (0, [.ref aL, .ref aT, .ref aU, .int f_3, .int pl, .int st, .int jo, .int cn, .int ii, .int fi, .int fe])), (aL, .inl (cI, 4, .inl L)), (aT, .inl (cI, 4, .inl T)), (aU, .inl (cI, 6, .inl U))] H_5 := hP
    have hD : va_D A [(rk, .inr (0, [.ref aL, .ref aT, .ref aU, .int f_3, .int pl, .int st, .int jo, .int cn, .int ii, .int fi, .int fe])), (aL, .inl (cI, 4, .inl L)), (aT, .inl (cI, 4, .inl T)), (aU, .inl (cI, 6, .inl U))] := hD
    have hPc := hP.sub (ws' := [(rk, .inr (0, [.ref aL, .ref aT, .ref aU, .int f_3, .int pl, .int st, .int jo, .int cn, .int ii, .int fi, .int fe])), (aL, .inl (cI, 4, .inl L)), (aT, .inl (cI, 4, .inl T)), (aU, .inl (cI, 6, .inl U))]) [0, 1, 2, 3] rfl
    have hDc := hD.sub (ws' := [(rk, .inr (0, [.ref aL, .ref aT, .ref aU, .int f_3, .int pl, .int st, .int jo, .int cn, .int ii, .int fi, .int fe])), (aL, .inl (cI, 4, .inl L)), (aT, .inl (cI, 4, .inl T)), (aU, .inl (cI, 6, .inl U))]) [0, 1, 2, 3] (by decide) rfl
    have hKc := hK.sub (tys' := [(cI, .int)]) [0] rfl
    have hFc := va_free (wc := [(rk, .inr (0, [.ref aL, .ref aT, .ref aU, .int f_3, .int pl, .int st, .int jo, .int cn, .int ii, .int fi, .int fe])), (aL, .inl (cI, 4, .inl L)), (aT, .inl (cI, 4, .inl T)), (aU, .inl (cI, 6, .inl U))]) hD hS hA [0, 1, 2, 3] rfl
    refine va_callv (va_runV (As := [.int pa, .int (mTm pl th)]) (rest := []) ⟨hx, hb, hml, hown, hts⟩ (c_X0_addTrust l dC dI cI rk aL aT aU H_5.size L T U f_3 pl st jo cn ii fi fe pa (mTm pl th) (by assumption)) (cwV 2 hts gX0_happensToss_X0_addTrust rfl rfl rfl (by decide +kernel) ⟨Nat.le_of_ble_eq_true rfl, Nat.le_of_ble_eq_true rfl⟩) (pc_V hKc hPc hDc (ci := 0) (C := RX0) (T := TX0) (N := 11) (q0 := 0) rfl rfl) rfl rfl hl.1 rfl (lv_room (Nat.le_of_ble_eq_true rfl)) dX0_happensToss_31 ⟨Nat.le_of_ble_eq_true rfl, Nat.le_of_ble_eq_true rfl⟩) hS (fun q _ h => hFc q h) hFc (fun u t H_6 locs ht hvm hw hB hz1 hk1 hS => ?_)
    obtain ⟨U1_6, rfl⟩ : ∃ z, z = u := ⟨_, rfl⟩
    try dsimp only at hw hB
    have hw_6 := hw
    obtain ⟨hP1, hD1⟩ := hB
    rw [ht] at hP1
    obtain ⟨hP, hD⟩ := va_join (wr := []) (w1 := [(rk, .inr (0, [.ref aL, .ref aT, .ref aU, .int f_3, .int pl, .int st, .int jo, .int cn, .int ii, .int fi, .int fe])), (aL, .inl (cI, 4, .inl L)), (aT, .inl (cI, 4, .inl T)), (aU, .inl (cI, 6, .inl U1_6))]) hP hD [0, 1, 2, 3] [] rfl rfl (by decide) (by decide) hk1 hFc hP1 hD1
    have hP : va_P (dC, dI) vwCl [(rk, .inr (0, [.ref aL, .ref aT, .ref aU, .int f_3, .int pl, .int st, .int jo, .int cn, .int ii, .int fi, .int fe])), (aL, .inl (cI, 4, .inl L)), (aT, .inl (cI, 4, .inl T)), (aU, .inl (cI, 6, .inl U1_6))] H_6 := hP
    have hD : va_D A [(rk, .inr (0, [.ref aL, .ref aT, .ref aU, .int f_3, .int pl, .int st, .int jo, .int cn, .int ii, .int fi, .int fe])), (aL, .inl (cI, 4, .inl L)), (aT, .inl (cI, 4, .inl T)), (aU, .inl (cI, 6, .inl U1_6))] := hD
    refine lv_iload_n hx hb dX0_happensToss_34 rfl (lv_at hl 2 rfl) ?_
    refine lv_if_ne (tgt := 55) hx hb dX0_happensToss_35 (by decide) (fun c_35 => ?_) (fun c_35 => ?_)
    · -- 35
      refine lv_iconst (v := 1) hx hb dX0_happensToss_55 (by decide) ?_
      have hpost : ((1 : Int32), f_3, pl, st, jo, U1_6) = mToss L T co pl st jo U pa th := by
        rw [mToss_eq c_5]
        first | rfl | (simp only [ef_3, hw_6, if_neg c_35]; done) | (simp only [ef_3, hw_6, if_neg c_35]; rfl)
      have hP9 := hP.sub (ws' := [(rk, .inr (0, [.ref aL, .ref aT, .ref aU, .int f_3, .int pl, .int st, .int jo, .int cn, .int ii, .int fi, .int fe])), (aL, .inl (cI, 4, .inl L)), (aT, .inl (cI, 4, .inl T)), (aU, .inl (cI, 6, .inl U1_6))]) [0, 1, 2, 3] rfl
      have hD9 := hD.sub (ws' := [(rk, .inr (0, [.ref aL, .ref aT, .ref aU, .int f_3, .int pl, .int st, .int jo, .int cn, .int ii, .int fi, .int fe])), (aL, .inl (cI, 4, .inl L)), (aT, .inl (cI, 4, .inl T)), (aU, .inl (cI, 6, .inl U1_6))]) [0, 1, 2, 3] (by decide) rfl
      exact W.zret (v := 1) (ty := .boolean) hx hb hr (rfl) (fun t ht hW => ⟨⟨1, (f_3, pl, st, jo, U1_6), rfl, hpost, by rw [ht]; exact hP9, hD9⟩, hS.F ht⟩) hS.2.2 dX0_happensToss_56
    · -- 35
      refine lv_aload_n hx hb dX0_happensToss_38 rfl (lv_at hl 0 rfl) ?_
      refine va_get (D := (dC, dI)) (ci := 0) (v := .int pl) (C := RX0) (T := TX0) (N := 11) hx hb hts hinX0 hown hK hP 0 rfl rfl 4 (by decide) k2 (fun _ h9 => h9) rfl dX0_happensToss_39 ?_
      refine lv_if_le (tgt := 55) hx hb dX0_happensToss_42 (by decide) (fun c_42 => ?_) (fun c_42 => ?_)
      · -- 42
        refine lv_iconst (v := 1) hx hb dX0_happensToss_55 (by decide) ?_
        have hpost : ((1 : Int32), f_3, pl, st, jo, U1_6) = mToss L T co pl st jo U pa th := by
          rw [mToss_eq c_5]
          first | rfl | (simp only [ef_3, hw_6, if_pos c_35, if_pos c_42]; done) | (simp only [ef_3, hw_6, if_pos c_35, if_pos c_42]; rfl)
        have hP9 := hP.sub (ws' := [(rk, .inr (0, [.ref aL, .ref aT, .ref aU, .int f_3, .int pl, .int st, .int jo, .int cn, .int ii, .int fi, .int fe])), (aL, .inl (cI, 4, .inl L)), (aT, .inl (cI, 4, .inl T)), (aU, .inl (cI, 6, .inl U1_6))]) [0, 1, 2, 3] rfl
        have hD9 := hD.sub (ws' := [(rk, .inr (0, [.ref aL, .ref aT, .ref aU, .int f_3, .int pl, .int st, .int jo, .int cn, .int ii, .int fi, .int fe])), (aL, .inl (cI, 4, .inl L)), (aT, .inl (cI, 4, .inl T)), (aU, .inl (cI, 6, .inl U1_6))]) [0, 1, 2, 3] (by decide) rfl
        exact W.zret (v := 1) (ty := .boolean) hx hb hr (rfl) (fun t ht hW => ⟨⟨1, (f_3, pl, st, jo, U1_6), rfl, hpost, by rw [ht]; exact hP9, hD9⟩, hS.F ht⟩) hS.2.2 dX0_happensToss_56
      · -- 42
        refine lv_aload_n hx hb dX0_happensToss_45 rfl (lv_at hl 0 rfl) ?_
        refine lv_dup hx hb dX0_happensToss_46 rfl ?_
        refine va_get (D := (dC, dI)) (ci := 0) (v := .int pl) (C := RX0) (T := TX0) (N := 11) hx hb hts hinX0 hown hK hP 0 rfl rfl 4 (by decide) k2 (fun _ h9 => h9) rfl dX0_happensToss_47 ?_
        refine lv_iconst (v := 1) hx hb dX0_happensToss_50 (by decide) ?_
        refine lv_isub hx hb dX0_happensToss_51 ?_
        refine lv_topi (fun f_7 ef_7 => ?_)
        refine va_put (D := (dC, dI)) (ci := 0) (v := .int f_7) (ty := .int) (C := RX0) (T := TX0) (N := 11) hx hb hts hinX0 tyX0 tyX0_ok nmX0 hown hK hP hD hS 0 rfl rfl 4 (by decide) k2 (fun _ h9 => h9) rfl (by decide +kernel) rfl rfl (Nat.le_of_ble_eq_true rfl) dX0_happensToss_52 (fun H_8 locs hP hD hS => ?_)
        have hP : va_P (dC, dI) vwCl [(rk, .inr (0, [.ref aL, .ref aT, .ref aU, .int f_3, .int f_7, .int st, .int jo, .int cn, .int ii, .int fi, .int fe])), (aL, .inl (cI, 4, .inl L)), (aT, .inl (cI, 4, .inl T)), (aU, .inl (cI, 6, .inl U1_6))] H_8 := hP
        have hD : va_D A [(rk, .inr (0, [.ref aL, .ref aT, .ref aU, .int f_3, .int f_7, .int st, .int jo, .int cn, .int ii, .int fi, .int fe])), (aL, .inl (cI, 4, .inl L)), (aT, .inl (cI, 4, .inl T)), (aU, .inl (cI, 6, .inl U1_6))] := hD
        refine lv_iconst (v := 1) hx hb dX0_happensToss_55 (by decide) ?_
        have hpost : ((1 : Int32), f_3, f_7, st, jo, U1_6) = mToss L T co pl st jo U pa th := by
          rw [mToss_eq c_5]
          first | rfl | (simp only [ef_3, hw_6, if_pos c_35, if_neg c_42, ef_7]; done) | (simp only [ef_3, hw_6, if_pos c_35, if_neg c_42, ef_7]; rfl)
        have hP9 := hP.sub (ws' := [(rk, .inr (0, [.ref aL, .ref aT, .ref aU, .int f_3, .int f_7, .int st, .int jo, .int cn, .int ii, .int fi, .int fe])), (aL, .inl (cI, 4, .inl L)), (aT, .inl (cI, 4, .inl T)), (aU, .inl (cI, 6, .inl U1_6))]) [0, 1, 2, 3] rfl
        have hD9 := hD.sub (ws' := [(rk, .inr (0, [.ref aL, .ref aT, .ref aU, .int f_3, .int f_7, .int st, .int jo, .int cn, .int ii, .int fi, .int fe])), (aL, .inl (cI, 4, .inl L)), (aT, .inl (cI, 4, .inl T)), (aU, .inl (cI, 6, .inl U1_6))]) [0, 1, 2, 3] (by decide) rfl
        exact W.zret (v := 1) (ty := .boolean) hx hb hr (rfl) (fun t ht hW => ⟨⟨1, (f_3, f_7, st, jo, U1_6), rfl, hpost, by rw [ht]; exact hP9, hD9⟩, hS.F ht⟩) hS.2.2 dX0_happensToss_56
  · -- 5
    refine lv_iconst (v := 0) hx hb dX0_happensToss_8 (by decide) ?_
    have hpost : ((0 : Int32), co, pl, st, jo, U) = mToss L T co pl st jo U pa th := by
      simp only [mToss, if_pos c_5]
    have hP9 := hP.sub (ws' := [(rk, .inr (0, [.ref aL, .ref aT, .ref aU, .int co, .int pl, .int st, .int jo, .int cn, .int ii, .int fi, .int fe])), (aL, .inl (cI, 4, .inl L)), (aT, .inl (cI, 4, .inl T)), (aU, .inl (cI, 6, .inl U))]) [0, 1, 2, 3] rfl
    have hD9 := hD.sub (ws' := [(rk, .inr (0, [.ref aL, .ref aT, .ref aU, .int co, .int pl, .int st, .int jo, .int cn, .int ii, .int fi, .int fe])), (aL, .inl (cI, 4, .inl L)), (aT, .inl (cI, 4, .inl T)), (aU, .inl (cI, 6, .inl U))]) [0, 1, 2, 3] (by decide) rfl
    exact W.zret (v := 0) (ty := .boolean) hx hb hr (rfl) (fun t ht hW => ⟨⟨0, (co, pl, st, jo, U), rfl, hpost, by rw [ht]; exact hP9, hD9⟩, hS.F ht⟩) hS.2.2 dX0_happensToss_9

set_option maxHeartbeats 4000000 in
set_option maxRecDepth 100000 in
theorem c_X0_happensRest (l : Launch) (dC : Nat → ClassId) (dI : Nat → Nat → Nat) (cI : ClassId) (rk aL aT aU : Nat) (sz : Nat) (L : N2I) (T : N2I) (U : N2I) (co : Int32) (pl : Int32) (st : Int32) (jo : Int32) (cn : Int32) (ii : Int32) (fi : Int32) (fe : Int32) (pa : Int32) (hp : vp_in pa 6) : Met l yX0_happensRest wsX0_happensRest ({ frames := 2, cells := 0, slots := 0, locals := 38 } : Room) (va_Pc [.ref rk, .int pa] (pc_ (dC, dI) [(cI, .int)] [(rk, .inr (0, [.ref aL, .ref aT, .ref aU, .int co, .int pl, .int st, .int jo, .int cn, .int ii, .int fi, .int fe])), (aL, .inl (cI, 4, .inl L)), (aT, .inl (cI, 4, .inl T)), (aU, .inl (cI, 6, .inl U))] sz)) (va_Qi (fun (r : Int32) (u : Int32 × Int32 × Int32 × Int32 × N2I) => (r, u.1, u.2.1, u.2.2.1, u.2.2.2.1, u.2.2.2.2) = mRest co pl st jo U pa) (fun (u : Int32 × Int32 × Int32 × Int32 × N2I) (t : State) => va_P (dC, dI) vwCl [(rk, .inr (0, [.ref aL, .ref aT, .ref aU, .int u.1, .int u.2.1, .int u.2.2.1, .int u.2.2.2.1, .int cn, .int ii, .int fi, .int fe])), (aL, .inl (cI, 4, .inl L)), (aT, .inl (cI, 4, .inl T)), (aU, .inl (cI, 6, .inl u.2.2.2.2))] t.heap ∧ va_D (va_A [(rk, .inr (0, [.ref aL, .ref aT, .ref aU, .int co, .int pl, .int st, .int jo, .int cn, .int ii, .int fi, .int fe])), (aL, .inl (cI, 4, .inl L)), (aT, .inl (cI, 4, .inl T)), (aU, .inl (cI, 6, .inl U))] sz) [(rk, .inr (0, [.ref aL, .ref aT, .ref aU, .int u.1, .int u.2.1, .int u.2.2.1, .int u.2.2.2.1, .int cn, .int ii, .int fi, .int fe])), (aL, .inl (cI, 4, .inl L)), (aT, .inl (cI, 4, .inl T)), (aU, .inl (cI, 6, .inl u.2.2.2.2))]) (va_A [(rk, .inr (0, [.ref aL, .ref aT, .ref aU, .int co, .int pl, .int st, .int jo, .int cn, .int ii, .int fi, .int fe])), (aL, .inl (cI, 4, .inl L)), (aT, .inl (cI, 4, .inl T)), (aU, .inl (cI, 6, .inl U))] sz)) 0 0 (va_A [(rk, .inr (0, [.ref aL, .ref aT, .ref aU, .int co, .int pl, .int st, .int jo, .int cn, .int ii, .int fi, .int fe])), (aL, .inl (cI, 4, .inl L)), (aT, .inl (cI, 4, .inl T)), (aU, .inl (cI, 6, .inl U))] sz) := by
  refine Met.ofW (cc := cX0_happensRest) (maxL := 2) (ret := (some .boolean)) (by decide) rfl ?_
  intro p e s m args below meth c s₁ BB hml hv
  obtain ⟨rfl, hsz, hP, hK, hD0⟩ := hv
  have hx := BB.exec
  have hb := BB.bytes
  have hr := BB.returns
  have hts := atoms_spec (ws := wsX0_happensRest) BB.pre
  have hown : s.vm.findClass RX0 = some m.cls := findClass_of_methodNamed BB.named
  have hlocks := BB.notSynchronized
  subst hsz
  have hD := hD0.self (sz := s.heap.size)
  generalize hAe : va_A [(rk, .inr (0, [.ref aL, .ref aT, .ref aU, .int co, .int pl, .int st, .int jo, .int cn, .int ii, .int fi, .int fe])), (aL, .inl (cI, 4, .inl L)), (aT, .inl (cI, 4, .inl T)), (aU, .inl (cI, 6, .inl U))] s.heap.size = A at hD ⊢
  have hA : ∀ q : Nat, s.heap.size ≤ q → A q := fun q h => by rw [← hAe]; exact Or.inr h
  have hS : va_S A s.heap s.heap [] := va_S.rf
  have hP : va_P (dC, dI) vwCl [(rk, .inr (0, [.ref aL, .ref aT, .ref aU, .int co, .int pl, .int st, .int jo, .int cn, .int ii, .int fi, .int fe])), (aL, .inl (cI, 4, .inl L)), (aT, .inl (cI, 4, .inl T)), (aU, .inl (cI, 6, .inl U))] s.heap := hP
  have hl := lv_entry ([.ref rk, .int pa]) (n := 2) (Nat.le_of_ble_eq_true rfl)
  rw [lg_entry_eq]
  generalize (lg_sl ([.ref rk, .int pa]) ++ List.replicate (2 - (lg_sl ([.ref rk, .int pa])).length) Slot.unset).toArray = ls at hl ⊢
  have hl : lv_has ls 2 [(0, .ref rk), (1, .int pa)] := hl
  refine lv_aload_n hx hb dX0_happensRest_0 rfl (lv_at hl 0 rfl) ?_
  refine lv_iload_n hx hb dX0_happensRest_1 rfl (lv_at hl 1 rfl) ?_
  have hPc := hP.sub (ws' := [(rk, .inr (0, [.ref aL, .ref aT, .ref aU, .int co, .int pl, .int st, .int jo, .int cn, .int ii, .int fi, .int fe])), (aL, .inl (cI, 4, .inl L)), (aT, .inl (cI, 4, .inl T)), (aU, .inl (cI, 6, .inl U))]) [0, 1, 2, 3] rfl
  have hDc := hD.sub (ws' := [(rk, .inr (0, [.ref aL, .ref aT, .ref aU, .int co, .int pl, .int st, .int jo, .int cn, .int ii, .int fi, .int fe])), (aL, .inl (cI, 4, .inl L)), (aT, .inl (cI, 4, .inl T)), (aU, .inl (cI, 6, .inl U))]) [0, 1, 2, 3] (by decide) rfl
  have hKc := hK.sub (tys' := [(cI, .int)]) [0] rfl
  have hFc := va_free (wc := [(rk, .inr (0, [.ref aL, .ref aT, .ref aU, .int co, .int pl, .int st, .int jo, .int cn, .int ii, .int fi, .int fe])), (aL, .inl (cI, 4, .inl L)), (aT, .inl (cI, 4, .inl T)), (aU, .inl (cI, 6, .inl U))]) hD hS hA [0, 1, 2, 3] rfl
  refine va_calli (va_runV (As := [.int pa]) (rest := []) ⟨hx, hb, hml, hown, hts⟩ (c_X0_hasJoined l dC dI cI rk aL aT aU s.heap.size L T U co pl st jo cn ii fi fe pa) (cwV 1 hts gX0_happensRest_X0_hasJoined rfl rfl rfl (by decide +kernel) ⟨Nat.le_of_ble_eq_true rfl, Nat.le_of_ble_eq_true rfl⟩) (pc_V hKc hPc hDc (ci := 0) (C := RX0) (T := TX0) (N := 11) (q0 := 0) rfl rfl) rfl rfl hl.1 rfl (lv_room (Nat.le_of_ble_eq_true rfl)) dX0_happensRest_2 ⟨Nat.le_of_ble_eq_true rfl, Nat.le_of_ble_eq_true rfl⟩) hS (fun q _ h => hFc q h) hFc (fun r_1 u t H_1 locs ht hvm hw hB hz1 hk1 hS => ?_)
  try dsimp only at hw hB
  have hw_1 := hw
  replace hw_1 := hw_1.symm
  subst hw_1
  obtain ⟨hP1, hD1⟩ := hB
  rw [ht] at hP1
  obtain ⟨hP, hD⟩ := va_join (wr := []) (w1 := [(rk, .inr (0, [.ref aL, .ref aT, .ref aU, .int co, .int pl, .int st, .int jo, .int cn, .int ii, .int fi, .int fe])), (aL, .inl (cI, 4, .inl L)), (aT, .inl (cI, 4, .inl T)), (aU, .inl (cI, 6, .inl U))]) hP hD [0, 1, 2, 3] [] rfl rfl (by decide) (by decide) hk1 hFc hP1 hD1
  have hP : va_P (dC, dI) vwCl [(rk, .inr (0, [.ref aL, .ref aT, .ref aU, .int co, .int pl, .int st, .int jo, .int cn, .int ii, .int fi, .int fe])), (aL, .inl (cI, 4, .inl L)), (aT, .inl (cI, 4, .inl T)), (aU, .inl (cI, 6, .inl U))] H_1 := hP
  have hD : va_D A [(rk, .inr (0, [.ref aL, .ref aT, .ref aU, .int co, .int pl, .int st, .int jo, .int cn, .int ii, .int fi, .int fe])), (aL, .inl (cI, 4, .inl L)), (aT, .inl (cI, 4, .inl T)), (aU, .inl (cI, 6, .inl U))] := hD
  refine lv_if_ne (tgt := 10) hx hb dX0_happensRest_5 (by decide) (fun c_5 => ?_) (fun c_5 => ?_)
  · -- 5
    refine lv_aload_n hx hb dX0_happensRest_10 rfl (lv_at hl 0 rfl) ?_
    refine lv_iload_n hx hb dX0_happensRest_11 rfl (lv_at hl 1 rfl) ?_
    refine lv_bipush (v := 6) hx hb dX0_happensRest_12 (by decide) ?_
    have hPc := hP.sub (ws' := [(rk, .inr (0, [.ref aL, .ref aT, .ref aU, .int co, .int pl, .int st, .int jo, .int cn, .int ii, .int fi, .int fe])), (aL, .inl (cI, 4, .inl L)), (aT, .inl (cI, 4, .inl T)), (aU, .inl (cI, 6, .inl U))]) [0, 1, 2, 3] rfl
    have hDc := hD.sub (ws' := [(rk, .inr (0, [.ref aL, .ref aT, .ref aU, .int co, .int pl, .int st, .int jo, .int cn, .int ii, .int fi, .int fe])), (aL, .inl (cI, 4, .inl L)), (aT, .inl (cI, 4, .inl T)), (aU, .inl (cI, 6, .inl U))]) [0, 1, 2, 3] (by decide) rfl
    have hKc := hK.sub (tys' := [(cI, .int)]) [0] rfl
    have hFc := va_free (wc := [(rk, .inr (0, [.ref aL, .ref aT, .ref aU, .int co, .int pl, .int st, .int jo, .int cn, .int ii, .int fi, .int fe])), (aL, .inl (cI, 4, .inl L)), (aT, .inl (cI, 4, .inl T)), (aU, .inl (cI, 6, .inl U))]) hD hS hA [0, 1, 2, 3] rfl
    refine va_callv (va_runV (As := [.int pa, .int 6]) (rest := []) ⟨hx, hb, hml, hown, hts⟩ (c_X0_addTrust l dC dI cI rk aL aT aU H_1.size L T U co pl st jo cn ii fi fe pa 6 (by assumption)) (cwV 2 hts gX0_happensRest_X0_addTrust rfl rfl rfl (by decide +kernel) ⟨Nat.le_of_ble_eq_true rfl, Nat.le_of_ble_eq_true rfl⟩) (pc_V hKc hPc hDc (ci := 0) (C := RX0) (T := TX0) (N := 11) (q0 := 0) rfl rfl) rfl rfl hl.1 rfl (lv_room (Nat.le_of_ble_eq_true rfl)) dX0_happensRest_14 ⟨Nat.le_of_ble_eq_true rfl, Nat.le_of_ble_eq_true rfl⟩) hS (fun q _ h => hFc q h) hFc (fun u t H_2 locs ht hvm hw hB hz1 hk1 hS => ?_)
    obtain ⟨U1_2, rfl⟩ : ∃ z, z = u := ⟨_, rfl⟩
    try dsimp only at hw hB
    have hw_2 := hw
    obtain ⟨hP1, hD1⟩ := hB
    rw [ht] at hP1
    obtain ⟨hP, hD⟩ := va_join (wr := []) (w1 := [(rk, .inr (0, [.ref aL, .ref aT, .ref aU, .int co, .int pl, .int st, .int jo, .int cn, .int ii, .int fi, .int fe])), (aL, .inl (cI, 4, .inl L)), (aT, .inl (cI, 4, .inl T)), (aU, .inl (cI, 6, .inl U1_2))]) hP hD [0, 1, 2, 3] [] rfl rfl (by decide) (by decide) hk1 hFc hP1 hD1
    have hP : va_P (dC, dI) vwCl [(rk, .inr (0, [.ref aL, .ref aT, .ref aU, .int co, .int pl, .int st, .int jo, .int cn, .int ii, .int fi, .int fe])), (aL, .inl (cI, 4, .inl L)), (aT, .inl (cI, 4, .inl T)), (aU, .inl (cI, 6, .inl U1_2))] H_2 := hP
    have hD : va_D A [(rk, .inr (0, [.ref aL, .ref aT, .ref aU, .int co, .int pl, .int st, .int jo, .int cn, .int ii, .int fi, .int fe])), (aL, .inl (cI, 4, .inl L)), (aT, .inl (cI, 4, .inl T)), (aU, .inl (cI, 6, .inl U1_2))] := hD
    refine lv_iconst (v := 1) hx hb dX0_happensRest_17 (by decide) ?_
    have hpost : ((1 : Int32), co, pl, st, jo, U1_2) = mRest co pl st jo U pa := by
      first | rfl | (simp only [mRest, if_neg c_5, hw_2]; done) | (simp only [mRest, if_neg c_5, hw_2]; rfl)
    have hP9 := hP.sub (ws' := [(rk, .inr (0, [.ref aL, .ref aT, .ref aU, .int co, .int pl, .int st, .int jo, .int cn, .int ii, .int fi, .int fe])), (aL, .inl (cI, 4, .inl L)), (aT, .inl (cI, 4, .inl T)), (aU, .inl (cI, 6, .inl U1_2))]) [0, 1, 2, 3] rfl
    have hD9 := hD.sub (ws' := [(rk, .inr (0, [.ref aL, .ref aT, .ref aU, .int co, .int pl, .int st, .int jo, .int cn, .int ii, .int fi, .int fe])), (aL, .inl (cI, 4, .inl L)), (aT, .inl (cI, 4, .inl T)), (aU, .inl (cI, 6, .inl U1_2))]) [0, 1, 2, 3] (by decide) rfl
    exact W.zret (v := 1) (ty := .boolean) hx hb hr (rfl) (fun t ht hW => ⟨⟨1, (co, pl, st, jo, U1_2), rfl, hpost, by rw [ht]; exact hP9, hD9⟩, hS.F ht⟩) hS.2.2 dX0_happensRest_18
  · -- 5
    refine lv_iconst (v := 0) hx hb dX0_happensRest_8 (by decide) ?_
    have hpost : ((0 : Int32), co, pl, st, jo, U) = mRest co pl st jo U pa := by
      first | rfl | (simp only [mRest, if_pos c_5]; done) | (simp only [mRest, if_pos c_5]; rfl)
    have hP9 := hP.sub (ws' := [(rk, .inr (0, [.ref aL, .ref aT, .ref aU, .int co, .int pl, .int st, .int jo, .int cn, .int ii, .int fi, .int fe])), (aL, .inl (cI, 4, .inl L)), (aT, .inl (cI, 4, .inl T)), (aU, .inl (cI, 6, .inl U))]) [0, 1, 2, 3] rfl
    have hD9 := hD.sub (ws' := [(rk, .inr (0, [.ref aL, .ref aT, .ref aU, .int co, .int pl, .int st, .int jo, .int cn, .int ii, .int fi, .int fe])), (aL, .inl (cI, 4, .inl L)), (aT, .inl (cI, 4, .inl T)), (aU, .inl (cI, 6, .inl U))]) [0, 1, 2, 3] (by decide) rfl
    exact W.zret (v := 0) (ty := .boolean) hx hb hr (rfl) (fun t ht hW => ⟨⟨0, (co, pl, st, jo, U), rfl, hpost, by rw [ht]; exact hP9, hD9⟩, hS.F ht⟩) hS.2.2 dX0_happensRest_9

set_option maxHeartbeats 4000000 in
set_option maxRecDepth 100000 in
theorem c_X0_happensPay (l : Launch) (dC : Nat → ClassId) (dI : Nat → Nat → Nat) (cI : ClassId) (rk aL aT aU : Nat) (sz : Nat) (L : N2I) (T : N2I) (U : N2I) (co : Int32) (pl : Int32) (st : Int32) (jo : Int32) (cn : Int32) (ii : Int32) (fi : Int32) (fe : Int32) (pa : Int32) (b : Int32) (hp : vp_in pa 6) : Met l yX0_happensPay wsX0_happensPay ({ frames := 2, cells := 0, slots := 0, locals := 38 } : Room) (va_Pc [.ref rk, .int pa, .int b] (pc_ (dC, dI) [(cI, .int)] [(rk, .inr (0, [.ref aL, .ref aT, .ref aU, .int co, .int pl, .int st, .int jo, .int cn, .int ii, .int fi, .int fe])), (aL, .inl (cI, 4, .inl L)), (aT, .inl (cI, 4, .inl T)), (aU, .inl (cI, 6, .inl U))] sz)) (va_Qi (fun (r : Int32) (u : Int32 × Int32 × Int32 × Int32 × N2I) => (r, u.1, u.2.1, u.2.2.1, u.2.2.2.1, u.2.2.2.2) = mPay co pl st jo U pa b) (fun (u : Int32 × Int32 × Int32 × Int32 × N2I) (t : State) => va_P (dC, dI) vwCl [(rk, .inr (0, [.ref aL, .ref aT, .ref aU, .int u.1, .int u.2.1, .int u.2.2.1, .int u.2.2.2.1, .int cn, .int ii, .int fi, .int fe])), (aL, .inl (cI, 4, .inl L)), (aT, .inl (cI, 4, .inl T)), (aU, .inl (cI, 6, .inl u.2.2.2.2))] t.heap ∧ va_D (va_A [(rk, .inr (0, [.ref aL, .ref aT, .ref aU, .int co, .int pl, .int st, .int jo, .int cn, .int ii, .int fi, .int fe])), (aL, .inl (cI, 4, .inl L)), (aT, .inl (cI, 4, .inl T)), (aU, .inl (cI, 6, .inl U))] sz) [(rk, .inr (0, [.ref aL, .ref aT, .ref aU, .int u.1, .int u.2.1, .int u.2.2.1, .int u.2.2.2.1, .int cn, .int ii, .int fi, .int fe])), (aL, .inl (cI, 4, .inl L)), (aT, .inl (cI, 4, .inl T)), (aU, .inl (cI, 6, .inl u.2.2.2.2))]) (va_A [(rk, .inr (0, [.ref aL, .ref aT, .ref aU, .int co, .int pl, .int st, .int jo, .int cn, .int ii, .int fi, .int fe])), (aL, .inl (cI, 4, .inl L)), (aT, .inl (cI, 4, .inl T)), (aU, .inl (cI, 6, .inl U))] sz)) 0 0 (va_A [(rk, .inr (0, [.ref aL, .ref aT, .ref aU, .int co, .int pl, .int st, .int jo, .int cn, .int ii, .int fi, .int fe])), (aL, .inl (cI, 4, .inl L)), (aT, .inl (cI, 4, .inl T)), (aU, .inl (cI, 6, .inl U))] sz) := by
  refine Met.ofW (cc := cX0_happensPay) (maxL := 3) (ret := (some .boolean)) (by decide) rfl ?_
  intro p e s m args below meth c s₁ BB hml hv
  obtain ⟨rfl, hsz, hP, hK, hD0⟩ := hv
  have hx := BB.exec
  have hb := BB.bytes
  have hr := BB.returns
  have hts := atoms_spec (ws := wsX0_happensPay) BB.pre
  have hown : s.vm.findClass RX0 = some m.cls := findClass_of_methodNamed BB.named
  have hlocks := BB.notSynchronized
  subst hsz
  have hD := hD0.self (sz := s.heap.size)
  generalize hAe : va_A [(rk, .inr (0, [.ref aL, .ref aT, .ref aU, .int co, .int pl, .int st, .int jo, .int cn, .int ii, .int fi, .int fe])), (aL, .inl (cI, 4, .inl L)), (aT, .inl (cI, 4, .inl T)), (aU, .inl (cI, 6, .inl U))] s.heap.size = A at hD ⊢
  have hA : ∀ q : Nat, s.heap.size ≤ q → A q := fun q h => by rw [← hAe]; exact Or.inr h
  have hS : va_S A s.heap s.heap [] := va_S.rf
  have hP : va_P (dC, dI) vwCl [(rk, .inr (0, [.ref aL, .ref aT, .ref aU, .int co, .int pl, .int st, .int jo, .int cn, .int ii, .int fi, .int fe])), (aL, .inl (cI, 4, .inl L)), (aT, .inl (cI, 4, .inl T)), (aU, .inl (cI, 6, .inl U))] s.heap := hP
  have hl := lv_entry ([.ref rk, .int pa, .int b]) (n := 3) (Nat.le_of_ble_eq_true rfl)
  rw [lg_entry_eq]
  generalize (lg_sl ([.ref rk, .int pa, .int b]) ++ List.replicate (3 - (lg_sl ([.ref rk, .int pa, .int b])).length) Slot.unset).toArray = ls at hl ⊢
  have hl : lv_has ls 3 [(0, .ref rk), (1, .int pa), (2, .int b)] := hl
  have k0 := hts (.fieldLink RX0 21 "KnifeLedger$Reckoning" "coins" "I") (by decide +kernel)
  have hinX0 : ∀ w ∈ wsX00, w ∈ wsX0_happensPay := by decide +kernel
  refine lv_aload_n hx hb dX0_happensPay_0 rfl (lv_at hl 0 rfl) ?_
  refine lv_iload_n hx hb dX0_happensPay_1 rfl (lv_at hl 1 rfl) ?_
  have hPc := hP.sub (ws' := [(rk, .inr (0, [.ref aL, .ref aT, .ref aU, .int co, .int pl, .int st, .int jo, .int cn, .int ii, .int fi, .int fe])), (aL, .inl (cI, 4, .inl L)), (aT, .inl (cI, 4, .inl T)), (aU, .inl (cI, 6, .inl U))]) [0, 1, 2, 3] rfl
  have hDc := hD.sub (ws' := [(rk, .inr (0, [.ref aL, .ref aT, .ref aU, .int co, .int pl, .int st, .int jo, .int cn, .int ii, .int fi, .int fe])), (aL, .inl (cI, 4, .inl L)), (aT, .inl (cI, 4, .inl T)), (aU, .inl (cI, 6, .inl U))]) [0, 1, 2, 3] (by decide) rfl
  have hKc := hK.sub (tys' := [(cI, .int)]) [0] rfl
  have hFc := va_free (wc := [(rk, .inr (0, [.ref aL, .ref aT, .ref aU, .int co, .int pl, .int st, .int jo, .int cn, .int ii, .int fi, .int fe])), (aL, .inl (cI, 4, .inl L)), (aT, .inl (cI, 4, .inl T)), (aU, .inl (cI, 6, .inl U))]) hD hS hA [0, 1, 2, 3] rfl
  refine va_calli (va_runV (As := [.int pa]) (rest := []) ⟨hx, hb, hml, hown, hts⟩ (c_X0_hasJoined l dC dI cI rk aL aT aU s.heap.size L T U co pl st jo cn ii fi fe pa) (cwV 1 hts gX0_happensPay_X0_hasJoined rfl rfl rfl (by decide +kernel) ⟨Nat.le_of_ble_eq_true rfl, Nat.le_of_ble_eq_true rfl⟩) (pc_V hKc hPc hDc (ci := 0) (C := RX0) (T := TX0) (N := 11) (q0 := 0) rfl rfl) rfl rfl hl.1 rfl (lv_room (Nat.le_of_ble_eq_true rfl)) dX0_happensPay_2 ⟨Nat.le_of_ble_eq_true rfl, Nat.le_of_ble_eq_true rfl⟩) hS (fun q _ h => hFc q h) hFc (fun r_1 u t H_1 locs ht hvm hw hB hz1 hk1 hS => ?_)
  try dsimp only at hw hB
  have hw_1 := hw
  replace hw_1 := hw_1.symm
  subst hw_1
  obtain ⟨hP1, hD1⟩ := hB
  rw [ht] at hP1
  obtain ⟨hP, hD⟩ := va_join (wr := []) (w1 := [(rk, .inr (0, [.ref aL, .ref aT, .ref aU, .int co, .int pl, .int st, .int jo, .int cn, .int ii, .int fi, .int fe])), (aL, .inl (cI, 4, .inl L)), (aT, .inl (cI, 4, .inl T)), (aU, .inl (cI, 6, .inl U))]) hP hD [0, 1, 2, 3] [] rfl rfl (by decide) (by decide) hk1 hFc hP1 hD1
  have hP : va_P (dC, dI) vwCl [(rk, .inr (0, [.ref aL, .ref aT, .ref aU, .int co, .int pl, .int st, .int jo, .int cn, .int ii, .int fi, .int fe])), (aL, .inl (cI, 4, .inl L)), (aT, .inl (cI, 4, .inl T)), (aU, .inl (cI, 6, .inl U))] H_1 := hP
  have hD : va_D A [(rk, .inr (0, [.ref aL, .ref aT, .ref aU, .int co, .int pl, .int st, .int jo, .int cn, .int ii, .int fi, .int fe])), (aL, .inl (cI, 4, .inl L)), (aT, .inl (cI, 4, .inl T)), (aU, .inl (cI, 6, .inl U))] := hD
  refine lv_if_eq (tgt := 16) hx hb dX0_happensPay_5 (by decide) (fun c_5 => ?_) (fun c_5 => ?_)
  · -- 5
    refine lv_iconst (v := 0) hx hb dX0_happensPay_16 (by decide) ?_
    have hpost : ((0 : Int32), co, pl, st, jo, U) = mPay co pl st jo U pa b := by
      first | rfl | (simp only [mPay, if_pos c_5]; done) | (simp only [mPay, if_pos c_5]; rfl)
    have hP9 := hP.sub (ws' := [(rk, .inr (0, [.ref aL, .ref aT, .ref aU, .int co, .int pl, .int st, .int jo, .int cn, .int ii, .int fi, .int fe])), (aL, .inl (cI, 4, .inl L)), (aT, .inl (cI, 4, .inl T)), (aU, .inl (cI, 6, .inl U))]) [0, 1, 2, 3] rfl
    have hD9 := hD.sub (ws' := [(rk, .inr (0, [.ref aL, .ref aT, .ref aU, .int co, .int pl, .int st, .int jo, .int cn, .int ii, .int fi, .int fe])), (aL, .inl (cI, 4, .inl L)), (aT, .inl (cI, 4, .inl T)), (aU, .inl (cI, 6, .inl U))]) [0, 1, 2, 3] (by decide) rfl
    exact W.zret (v := 0) (ty := .boolean) hx hb hr (rfl) (fun t ht hW => ⟨⟨0, (co, pl, st, jo, U), rfl, hpost, by rw [ht]; exact hP9, hD9⟩, hS.F ht⟩) hS.2.2 dX0_happensPay_17
  · -- 5
    refine lv_aload_n hx hb dX0_happensPay_8 rfl (lv_at hl 0 rfl) ?_
    refine va_get (D := (dC, dI)) (ci := 0) (v := .int co) (C := RX0) (T := TX0) (N := 11) hx hb hts hinX0 hown hK hP 0 rfl rfl 3 (by decide) k0 (fun _ h9 => h9) rfl dX0_happensPay_9 ?_
    refine lv_iload_n hx hb dX0_happensPay_12 rfl (lv_at hl 2 rfl) ?_
    refine lv_icmp_ge (tgt := 18) hx hb dX0_happensPay_13 (by decide) (fun c_13 => ?_) (fun c_13 => ?_)
    · -- 13
      refine lv_aload_n hx hb dX0_happensPay_18 rfl (lv_at hl 0 rfl) ?_
      refine lv_dup hx hb dX0_happensPay_19 rfl ?_
      refine va_get (D := (dC, dI)) (ci := 0) (v := .int co) (C := RX0) (T := TX0) (N := 11) hx hb hts hinX0 hown hK hP 0 rfl rfl 3 (by decide) k0 (fun _ h9 => h9) rfl dX0_happensPay_20 ?_
      refine lv_iload_n hx hb dX0_happensPay_23 rfl (lv_at hl 2 rfl) ?_
      refine lv_isub hx hb dX0_happensPay_24 ?_
      refine lv_topi (fun f_2 ef_2 => ?_)
      refine va_put (D := (dC, dI)) (ci := 0) (v := .int f_2) (ty := .int) (C := RX0) (T := TX0) (N := 11) hx hb hts hinX0 tyX0 tyX0_ok nmX0 hown hK hP hD hS 0 rfl rfl 3 (by decide) k0 (fun _ h9 => h9) rfl (by decide +kernel) rfl rfl (Nat.le_of_ble_eq_true rfl) dX0_happensPay_25 (fun H_3 locs hP hD hS => ?_)
      have hP : va_P (dC, dI) vwCl [(rk, .inr (0, [.ref aL, .ref aT, .ref aU, .int f_2, .int pl, .int st, .int jo, .int cn, .int ii, .int fi, .int fe])), (aL, .inl (cI, 4, .inl L)), (aT, .inl (cI, 4, .inl T)), (aU, .inl (cI, 6, .inl U))] H_3 := hP
      have hD : va_D A [(rk, .inr (0, [.ref aL, .ref aT, .ref aU, .int f_2, .int pl, .int st, .int jo, .int cn, .int ii, .int fi, .int fe])), (aL, .inl (cI, 4, .inl L)), (aT, .inl (cI, 4, .inl T)), (aU, .inl (cI, 6, .inl U))] := hD
      refine lv_aload_n hx hb dX0_happensPay_28 rfl (lv_at hl 0 rfl) ?_
      refine lv_iload_n hx hb dX0_happensPay_29 rfl (lv_at hl 1 rfl) ?_
      refine lv_iload_n hx hb dX0_happensPay_30 rfl (lv_at hl 2 rfl) ?_
      refine lv_iconst (v := 3) hx hb dX0_happensPay_31 (by decide) ?_
      refine lv_idiv hx hb dX0_happensPay_32 (by decide) ?_
      have hPc := hP.sub (ws' := [(rk, .inr (0, [.ref aL, .ref aT, .ref aU, .int f_2, .int pl, .int st, .int jo, .int cn, .int ii, .int fi, .int fe])), (aL, .inl (cI, 4, .inl L)), (aT, .inl (cI, 4, .inl T)), (aU, .inl (cI, 6, .inl U))]) [0, 1, 2, 3] rfl
      have hDc := hD.sub (ws' := [(rk, .inr (0, [.ref aL, .ref aT, .ref aU, .int f_2, .int pl, .int st, .int jo, .int cn, .int ii, .int fi, .int fe])), (aL, .inl (cI, 4, .inl L)), (aT, .inl (cI, 4, .inl T)), (aU, .inl (cI, 6, .inl U))]) [0, 1, 2, 3] (by decide) rfl
      have hKc := hK.sub (tys' := [(cI, .int)]) [0] rfl
      have hFc := va_free (wc := [(rk, .inr (0, [.ref aL, .ref aT, .ref aU, .int f_2, .int pl, .int st, .int jo, .int cn, .int ii, .int fi, .int fe])), (aL, .inl (cI, 4, .inl L)), (aT, .inl (cI, 4, .inl T)), (aU, .inl (cI, 6, .inl U))]) hD hS hA [0, 1, 2, 3] rfl
      refine va_callv (va_runV (As := [.int pa, .int (b / 3)]) (rest := []) ⟨hx, hb, hml, hown, hts⟩ (c_X0_addTrust l dC dI cI rk aL aT aU H_3.size L T U f_2 pl st jo cn ii fi fe pa (b / 3) (by assumption)) (cwV 2 hts gX0_happensPay_X0_addTrust rfl rfl rfl (by decide +kernel) ⟨Nat.le_of_ble_eq_true rfl, Nat.le_of_ble_eq_true rfl⟩) (pc_V hKc hPc hDc (ci := 0) (C := RX0) (T := TX0) (N := 11) (q0 := 0) rfl rfl) rfl rfl hl.1 rfl (lv_room (Nat.le_of_ble_eq_true rfl)) dX0_happensPay_33 ⟨Nat.le_of_ble_eq_true rfl, Nat.le_of_ble_eq_true rfl⟩) hS (fun q _ h => hFc q h) hFc (fun u t H_4 locs ht hvm hw hB hz1 hk1 hS => ?_)
      obtain ⟨U1_4, rfl⟩ : ∃ z, z = u := ⟨_, rfl⟩
      try dsimp only at hw hB
      have hw_4 := hw
      obtain ⟨hP1, hD1⟩ := hB
      rw [ht] at hP1
      obtain ⟨hP, hD⟩ := va_join (wr := []) (w1 := [(rk, .inr (0, [.ref aL, .ref aT, .ref aU, .int f_2, .int pl, .int st, .int jo, .int cn, .int ii, .int fi, .int fe])), (aL, .inl (cI, 4, .inl L)), (aT, .inl (cI, 4, .inl T)), (aU, .inl (cI, 6, .inl U1_4))]) hP hD [0, 1, 2, 3] [] rfl rfl (by decide) (by decide) hk1 hFc hP1 hD1
      have hP : va_P (dC, dI) vwCl [(rk, .inr (0, [.ref aL, .ref aT, .ref aU, .int f_2, .int pl, .int st, .int jo, .int cn, .int ii, .int fi, .int fe])), (aL, .inl (cI, 4, .inl L)), (aT, .inl (cI, 4, .inl T)), (aU, .inl (cI, 6, .inl U1_4))] H_4 := hP
      have hD : va_D A [(rk, .inr (0, [.ref aL, .ref aT, .ref aU, .int f_2, .int pl, .int st, .int jo, .int cn, .int ii, .int fi, .int fe])), (aL, .inl (cI, 4, .inl L)), (aT, .inl (cI, 4, .inl T)), (aU, .inl (cI, 6, .inl U1_4))] := hD
      refine lv_iconst (v := 1) hx hb dX0_happensPay_36 (by decide) ?_
      have hpost : ((1 : Int32), f_2, pl, st, jo, U1_4) = mPay co pl st jo U pa b := by
        first | rfl | (simp only [mPay, if_neg c_5, if_pos c_13, ef_2, hw_4]; done) | (simp only [mPay, if_neg c_5, if_pos c_13, ef_2, hw_4]; rfl)
      have hP9 := hP.sub (ws' := [(rk, .inr (0, [.ref aL, .ref aT, .ref aU, .int f_2, .int pl, .int st, .int jo, .int cn, .int ii, .int fi, .int fe])), (aL, .inl (cI, 4, .inl L)), (aT, .inl (cI, 4, .inl T)), (aU, .inl (cI, 6, .inl U1_4))]) [0, 1, 2, 3] rfl
      have hD9 := hD.sub (ws' := [(rk, .inr (0, [.ref aL, .ref aT, .ref aU, .int f_2, .int pl, .int st, .int jo, .int cn, .int ii, .int fi, .int fe])), (aL, .inl (cI, 4, .inl L)), (aT, .inl (cI, 4, .inl T)), (aU, .inl (cI, 6, .inl U1_4))]) [0, 1, 2, 3] (by decide) rfl
      exact W.zret (v := 1) (ty := .boolean) hx hb hr (rfl) (fun t ht hW => ⟨⟨1, (f_2, pl, st, jo, U1_4), rfl, hpost, by rw [ht]; exact hP9, hD9⟩, hS.F ht⟩) hS.2.2 dX0_happensPay_37
    · -- 13
      refine lv_iconst (v := 0) hx hb dX0_happensPay_16 (by decide) ?_
      have hpost : ((0 : Int32), co, pl, st, jo, U) = mPay co pl st jo U pa b := by
        first | rfl | (simp only [mPay, if_neg c_5, if_neg c_13]; done) | (simp only [mPay, if_neg c_5, if_neg c_13]; rfl)
      have hP9 := hP.sub (ws' := [(rk, .inr (0, [.ref aL, .ref aT, .ref aU, .int co, .int pl, .int st, .int jo, .int cn, .int ii, .int fi, .int fe])), (aL, .inl (cI, 4, .inl L)), (aT, .inl (cI, 4, .inl T)), (aU, .inl (cI, 6, .inl U))]) [0, 1, 2, 3] rfl
      have hD9 := hD.sub (ws' := [(rk, .inr (0, [.ref aL, .ref aT, .ref aU, .int co, .int pl, .int st, .int jo, .int cn, .int ii, .int fi, .int fe])), (aL, .inl (cI, 4, .inl L)), (aT, .inl (cI, 4, .inl T)), (aU, .inl (cI, 6, .inl U))]) [0, 1, 2, 3] (by decide) rfl
      exact W.zret (v := 0) (ty := .boolean) hx hb hr (rfl) (fun t ht hW => ⟨⟨0, (co, pl, st, jo, U), rfl, hpost, by rw [ht]; exact hP9, hD9⟩, hS.F ht⟩) hS.2.2 dX0_happensPay_17

set_option maxHeartbeats 4000000 in
set_option maxRecDepth 100000 in
theorem c_X0_happensBuy (l : Launch) (dC : Nat → ClassId) (dI : Nat → Nat → Nat) (cI : ClassId) (rk aL aT aU : Nat) (sz : Nat) (L : N2I) (T : N2I) (U : N2I) (co : Int32) (pl : Int32) (st : Int32) (jo : Int32) (cn : Int32) (ii : Int32) (fi : Int32) (fe : Int32) (b : Int32) : Met l yX0_happensBuy wsX0_happensBuy ({ frames := 0, cells := 0, slots := 0, locals := 0 } : Room) (va_Pc [.ref rk, .int b] (pc_ (dC, dI) [(cI, .int)] [(rk, .inr (0, [.ref aL, .ref aT, .ref aU, .int co, .int pl, .int st, .int jo, .int cn, .int ii, .int fi, .int fe])), (aL, .inl (cI, 4, .inl L)), (aT, .inl (cI, 4, .inl T)), (aU, .inl (cI, 6, .inl U))] sz)) (va_Qi (fun (r : Int32) (u : Int32 × Int32 × Int32 × Int32 × N2I) => (r, u.1, u.2.1, u.2.2.1, u.2.2.2.1, u.2.2.2.2) = mBuy co pl st jo U b) (fun (u : Int32 × Int32 × Int32 × Int32 × N2I) (t : State) => va_P (dC, dI) vwCl [(rk, .inr (0, [.ref aL, .ref aT, .ref aU, .int u.1, .int u.2.1, .int u.2.2.1, .int u.2.2.2.1, .int cn, .int ii, .int fi, .int fe])), (aL, .inl (cI, 4, .inl L)), (aT, .inl (cI, 4, .inl T)), (aU, .inl (cI, 6, .inl u.2.2.2.2))] t.heap ∧ va_D (va_A [(rk, .inr (0, [.ref aL, .ref aT, .ref aU, .int co, .int pl, .int st, .int jo, .int cn, .int ii, .int fi, .int fe])), (aL, .inl (cI, 4, .inl L)), (aT, .inl (cI, 4, .inl T)), (aU, .inl (cI, 6, .inl U))] sz) [(rk, .inr (0, [.ref aL, .ref aT, .ref aU, .int u.1, .int u.2.1, .int u.2.2.1, .int u.2.2.2.1, .int cn, .int ii, .int fi, .int fe])), (aL, .inl (cI, 4, .inl L)), (aT, .inl (cI, 4, .inl T)), (aU, .inl (cI, 6, .inl u.2.2.2.2))]) (va_A [(rk, .inr (0, [.ref aL, .ref aT, .ref aU, .int co, .int pl, .int st, .int jo, .int cn, .int ii, .int fi, .int fe])), (aL, .inl (cI, 4, .inl L)), (aT, .inl (cI, 4, .inl T)), (aU, .inl (cI, 6, .inl U))] sz)) 0 0 (va_A [(rk, .inr (0, [.ref aL, .ref aT, .ref aU, .int co, .int pl, .int st, .int jo, .int cn, .int ii, .int fi, .int fe])), (aL, .inl (cI, 4, .inl L)), (aT, .inl (cI, 4, .inl T)), (aU, .inl (cI, 6, .inl U))] sz) := by
  refine Met.ofW (cc := cX0_happensBuy) (maxL := 3) (ret := (some .boolean)) (by decide) rfl ?_
  intro p e s m args below meth c s₁ BB hml hv
  obtain ⟨rfl, hsz, hP, hK, hD0⟩ := hv
  have hx := BB.exec
  have hb := BB.bytes
  have hr := BB.returns
  have hts := atoms_spec (ws := wsX0_happensBuy) BB.pre
  have hown : s.vm.findClass RX0 = some m.cls := findClass_of_methodNamed BB.named
  have hlocks := BB.notSynchronized
  subst hsz
  have hD := hD0.self (sz := s.heap.size)
  generalize hAe : va_A [(rk, .inr (0, [.ref aL, .ref aT, .ref aU, .int co, .int pl, .int st, .int jo, .int cn, .int ii, .int fi, .int fe])), (aL, .inl (cI, 4, .inl L)), (aT, .inl (cI, 4, .inl T)), (aU, .inl (cI, 6, .inl U))] s.heap.size = A at hD ⊢
  have hA : ∀ q : Nat, s.heap.size ≤ q → A q := fun q h => by rw [← hAe]; exact Or.inr h
  have hS : va_S A s.heap s.heap [] := va_S.rf
  have hP : va_P (dC, dI) vwCl [(rk, .inr (0, [.ref aL, .ref aT, .ref aU, .int co, .int pl, .int st, .int jo, .int cn, .int ii, .int fi, .int fe])), (aL, .inl (cI, 4, .inl L)), (aT, .inl (cI, 4, .inl T)), (aU, .inl (cI, 6, .inl U))] s.heap := hP
  have hl := lv_entry ([.ref rk, .int b]) (n := 3) (Nat.le_of_ble_eq_true rfl)
  rw [lg_entry_eq]
  generalize (lg_sl ([.ref rk, .int b]) ++ List.replicate (3 - (lg_sl ([.ref rk, .int b])).length) Slot.unset).toArray = ls at hl ⊢
  have hl : lv_has ls 3 [(0, .ref rk), (1, .int b)] := hl
  have k0 := hts (.fieldLink RX0 21 "KnifeLedger$Reckoning" "coins" "I") (by decide +kernel)
  have hinX0 : ∀ w ∈ wsX00, w ∈ wsX0_happensBuy := by decide +kernel
  have k2 := hts (.fieldLink RX0 25 "KnifeLedger$Reckoning" "plasters" "I") (by decide +kernel)
  refine lv_iconst (v := 2) hx hb dX0_happensBuy_0 (by decide) ?_
  refine lv_iload_n hx hb dX0_happensBuy_1 rfl (lv_at hl 1 rfl) ?_
  refine lv_imul hx hb dX0_happensBuy_2 ?_
  refine lv_istore_n (lv' := [(2, .int (2 * b)), (0, .ref rk), (1, .int b)]) hx hb dX0_happensBuy_3 rfl hl (by decide) rfl (fun ls hl => ?_)
  refine lv_aload_n hx hb dX0_happensBuy_4 rfl (lv_at hl 1 rfl) ?_
  refine va_get (D := (dC, dI)) (ci := 0) (v := .int co) (C := RX0) (T := TX0) (N := 11) hx hb hts hinX0 hown hK hP 0 rfl rfl 3 (by decide) k0 (fun _ h9 => h9) rfl dX0_happensBuy_5 ?_
  refine lv_iload_n hx hb dX0_happensBuy_8 rfl (lv_at hl 0 rfl) ?_
  refine lv_icmp_ge (tgt := 14) hx hb dX0_happensBuy_9 (by decide) (fun c_9 => ?_) (fun c_9 => ?_)
  · -- 9
    refine lv_aload_n hx hb dX0_happensBuy_14 rfl (lv_at hl 1 rfl) ?_
    refine lv_dup hx hb dX0_happensBuy_15 rfl ?_
    refine va_get (D := (dC, dI)) (ci := 0) (v := .int co) (C := RX0) (T := TX0) (N := 11) hx hb hts hinX0 hown hK hP 0 rfl rfl 3 (by decide) k0 (fun _ h9 => h9) rfl dX0_happensBuy_16 ?_
    refine lv_iload_n hx hb dX0_happensBuy_19 rfl (lv_at hl 0 rfl) ?_
    refine lv_isub hx hb dX0_happensBuy_20 ?_
    refine lv_topi (fun f_1 ef_1 => ?_)
    refine va_put (D := (dC, dI)) (ci := 0) (v := .int f_1) (ty := .int) (C := RX0) (T := TX0) (N := 11) hx hb hts hinX0 tyX0 tyX0_ok nmX0 hown hK hP hD hS 0 rfl rfl 3 (by decide) k0 (fun _ h9 => h9) rfl (by decide +kernel) rfl rfl (Nat.le_of_ble_eq_true rfl) dX0_happensBuy_21 (fun H_2 locs hP hD hS => ?_)
    have hP : va_P (dC, dI) vwCl [(rk, .inr (0, [.ref aL, .ref aT, .ref aU, .int f_1, .int pl, .int st, .int jo, .int cn, .int ii, .int fi, .int fe])), (aL, .inl (cI, 4, .inl L)), (aT, .inl (cI, 4, .inl T)), (aU, .inl (cI, 6, .inl U))] H_2 := hP
    have hD : va_D A [(rk, .inr (0, [.ref aL, .ref aT, .ref aU, .int f_1, .int pl, .int st, .int jo, .int cn, .int ii, .int fi, .int fe])), (aL, .inl (cI, 4, .inl L)), (aT, .inl (cI, 4, .inl T)), (aU, .inl (cI, 6, .inl U))] := hD
    refine lv_aload_n hx hb dX0_happensBuy_24 rfl (lv_at hl 1 rfl) ?_
    refine lv_dup hx hb dX0_happensBuy_25 rfl ?_
    refine va_get (D := (dC, dI)) (ci := 0) (v := .int pl) (C := RX0) (T := TX0) (N := 11) hx hb hts hinX0 hown hK hP 0 rfl rfl 4 (by decide) k2 (fun _ h9 => h9) rfl dX0_happensBuy_26 ?_
    refine lv_iload_n hx hb dX0_happensBuy_29 rfl (lv_at hl 2 rfl) ?_
    refine lv_iadd hx hb dX0_happensBuy_30 ?_
    refine lv_topi (fun f_3 ef_3 => ?_)
    refine va_put (D := (dC, dI)) (ci := 0) (v := .int f_3) (ty := .int) (C := RX0) (T := TX0) (N := 11) hx hb hts hinX0 tyX0 tyX0_ok nmX0 hown hK hP hD hS 0 rfl rfl 4 (by decide) k2 (fun _ h9 => h9) rfl (by decide +kernel) rfl rfl (Nat.le_of_ble_eq_true rfl) dX0_happensBuy_31 (fun H_4 locs hP hD hS => ?_)
    have hP : va_P (dC, dI) vwCl [(rk, .inr (0, [.ref aL, .ref aT, .ref aU, .int f_1, .int f_3, .int st, .int jo, .int cn, .int ii, .int fi, .int fe])), (aL, .inl (cI, 4, .inl L)), (aT, .inl (cI, 4, .inl T)), (aU, .inl (cI, 6, .inl U))] H_4 := hP
    have hD : va_D A [(rk, .inr (0, [.ref aL, .ref aT, .ref aU, .int f_1, .int f_3, .int st, .int jo, .int cn, .int ii, .int fi, .int fe])), (aL, .inl (cI, 4, .inl L)), (aT, .inl (cI, 4, .inl T)), (aU, .inl (cI, 6, .inl U))] := hD
    refine lv_iconst (v := 1) hx hb dX0_happensBuy_34 (by decide) ?_
    have hpost : ((1 : Int32), f_1, f_3, st, jo, U) = mBuy co pl st jo U b := by
      first | rfl | (simp only [mBuy, if_pos c_9, ef_1, ef_3]; done) | (simp only [mBuy, if_pos c_9, ef_1, ef_3]; rfl)
    have hP9 := hP.sub (ws' := [(rk, .inr (0, [.ref aL, .ref aT, .ref aU, .int f_1, .int f_3, .int st, .int jo, .int cn, .int ii, .int fi, .int fe])), (aL, .inl (cI, 4, .inl L)), (aT, .inl (cI, 4, .inl T)), (aU, .inl (cI, 6, .inl U))]) [0, 1, 2, 3] rfl
    have hD9 := hD.sub (ws' := [(rk, .inr (0, [.ref aL, .ref aT, .ref aU, .int f_1, .int f_3, .int st, .int jo, .int cn, .int ii, .int fi, .int fe])), (aL, .inl (cI, 4, .inl L)), (aT, .inl (cI, 4, .inl T)), (aU, .inl (cI, 6, .inl U))]) [0, 1, 2, 3] (by decide) rfl
    exact W.zret (v := 1) (ty := .boolean) hx hb hr (rfl) (fun t ht hW => ⟨⟨1, (f_1, f_3, st, jo, U), rfl, hpost, by rw [ht]; exact hP9, hD9⟩, hS.F ht⟩) hS.2.2 dX0_happensBuy_35
  · -- 9
    refine lv_iconst (v := 0) hx hb dX0_happensBuy_12 (by decide) ?_
    have hpost : ((0 : Int32), co, pl, st, jo, U) = mBuy co pl st jo U b := by
      first | rfl | (simp only [mBuy, if_neg c_9]; done) | (simp only [mBuy, if_neg c_9]; rfl)
    have hP9 := hP.sub (ws' := [(rk, .inr (0, [.ref aL, .ref aT, .ref aU, .int co, .int pl, .int st, .int jo, .int cn, .int ii, .int fi, .int fe])), (aL, .inl (cI, 4, .inl L)), (aT, .inl (cI, 4, .inl T)), (aU, .inl (cI, 6, .inl U))]) [0, 1, 2, 3] rfl
    have hD9 := hD.sub (ws' := [(rk, .inr (0, [.ref aL, .ref aT, .ref aU, .int co, .int pl, .int st, .int jo, .int cn, .int ii, .int fi, .int fe])), (aL, .inl (cI, 4, .inl L)), (aT, .inl (cI, 4, .inl T)), (aU, .inl (cI, 6, .inl U))]) [0, 1, 2, 3] (by decide) rfl
    exact W.zret (v := 0) (ty := .boolean) hx hb hr (rfl) (fun t ht hW => ⟨⟨0, (co, pl, st, jo, U), rfl, hpost, by rw [ht]; exact hP9, hD9⟩, hS.F ht⟩) hS.2.2 dX0_happensBuy_13

set_option maxHeartbeats 4000000 in
set_option maxRecDepth 100000 in
theorem c_X0_happens (l : Launch) (dC : Nat → ClassId) (dI : Nat → Nat → Nat) (cI : ClassId) (rk aL aT aU : Nat) (sz : Nat) (L : N2I) (T : N2I) (U : N2I) (co : Int32) (pl : Int32) (st : Int32) (jo : Int32) (cn : Int32) (ii : Int32) (fi : Int32) (fe : Int32) (k : Int32) (a : Int32) (b : Int32) (hjo : vp_in jo 7) (hst : vp_in st 4) (hok : okE k a b) : Met l yX0_happens wsX0_happens ({ frames := 4, cells := 0, slots := 0, locals := 81 } : Room) (va_Pc [.ref rk, .int k, .int a, .int b] (pc_ (dC, dI) [(cI, .int)] [(rk, .inr (0, [.ref aL, .ref aT, .ref aU, .int co, .int pl, .int st, .int jo, .int cn, .int ii, .int fi, .int fe])), (aL, .inl (cI, 4, .inl L)), (aT, .inl (cI, 4, .inl T)), (aU, .inl (cI, 6, .inl U))] sz)) (va_Qi (fun (r : Int32) (u : Int32 × Int32 × Int32 × Int32 × N2I) => (r, u.1, u.2.1, u.2.2.1, u.2.2.2.1, u.2.2.2.2) = mHap L T k a b co pl st jo U) (fun (u : Int32 × Int32 × Int32 × Int32 × N2I) (t : State) => va_P (dC, dI) vwCl [(rk, .inr (0, [.ref aL, .ref aT, .ref aU, .int u.1, .int u.2.1, .int u.2.2.1, .int u.2.2.2.1, .int cn, .int ii, .int fi, .int fe])), (aL, .inl (cI, 4, .inl L)), (aT, .inl (cI, 4, .inl T)), (aU, .inl (cI, 6, .inl u.2.2.2.2))] t.heap ∧ va_D (va_A [(rk, .inr (0, [.ref aL, .ref aT, .ref aU, .int co, .int pl, .int st, .int jo, .int cn, .int ii, .int fi, .int fe])), (aL, .inl (cI, 4, .inl L)), (aT, .inl (cI, 4, .inl T)), (aU, .inl (cI, 6, .inl U))] sz) [(rk, .inr (0, [.ref aL, .ref aT, .ref aU, .int u.1, .int u.2.1, .int u.2.2.1, .int u.2.2.2.1, .int cn, .int ii, .int fi, .int fe])), (aL, .inl (cI, 4, .inl L)), (aT, .inl (cI, 4, .inl T)), (aU, .inl (cI, 6, .inl u.2.2.2.2))]) (va_A [(rk, .inr (0, [.ref aL, .ref aT, .ref aU, .int co, .int pl, .int st, .int jo, .int cn, .int ii, .int fi, .int fe])), (aL, .inl (cI, 4, .inl L)), (aT, .inl (cI, 4, .inl T)), (aU, .inl (cI, 6, .inl U))] sz)) 0 0 (va_A [(rk, .inr (0, [.ref aL, .ref aT, .ref aU, .int co, .int pl, .int st, .int jo, .int cn, .int ii, .int fi, .int fe])), (aL, .inl (cI, 4, .inl L)), (aT, .inl (cI, 4, .inl T)), (aU, .inl (cI, 6, .inl U))] sz) := by
  refine Met.ofW (cc := cX0_happens) (maxL := 4) (ret := (some .boolean)) (by decide) rfl ?_
  intro p e s m args below meth c s₁ BB hml hv
  obtain ⟨rfl, hsz, hP, hK, hD0⟩ := hv
  have hx := BB.exec
  have hb := BB.bytes
  have hr := BB.returns
  have hts := atoms_spec (ws := wsX0_happens) BB.pre
  have hown : s.vm.findClass RX0 = some m.cls := findClass_of_methodNamed BB.named
  have hlocks := BB.notSynchronized
  subst hsz
  have hD := hD0.self (sz := s.heap.size)
  generalize hAe : va_A [(rk, .inr (0, [.ref aL, .ref aT, .ref aU, .int co, .int pl, .int st, .int jo, .int cn, .int ii, .int fi, .int fe])), (aL, .inl (cI, 4, .inl L)), (aT, .inl (cI, 4, .inl T)), (aU, .inl (cI, 6, .inl U))] s.heap.size = A at hD ⊢
  have hA : ∀ q : Nat, s.heap.size ≤ q → A q := fun q h => by rw [← hAe]; exact Or.inr h
  have hS : va_S A s.heap s.heap [] := va_S.rf
  have hP : va_P (dC, dI) vwCl [(rk, .inr (0, [.ref aL, .ref aT, .ref aU, .int co, .int pl, .int st, .int jo, .int cn, .int ii, .int fi, .int fe])), (aL, .inl (cI, 4, .inl L)), (aT, .inl (cI, 4, .inl T)), (aU, .inl (cI, 6, .inl U))] s.heap := hP
  have hl := lv_entry ([.ref rk, .int k, .int a, .int b]) (n := 4) (Nat.le_of_ble_eq_true rfl)
  rw [lg_entry_eq]
  generalize (lg_sl ([.ref rk, .int k, .int a, .int b]) ++ List.replicate (4 - (lg_sl ([.ref rk, .int k, .int a, .int b])).length) Slot.unset).toArray = ls at hl ⊢
  have hl : lv_has ls 4 [(0, .ref rk), (1, .int k), (2, .int a), (3, .int b)] := hl
  have k0 := hts (.fieldLink RX0 28 "KnifeLedger$Reckoning" "stage" "I") (by decide +kernel)
  have hinX0 : ∀ w ∈ wsX00, w ∈ wsX0_happens := by decide +kernel
  refine lv_iload_n hx hb dX0_happens_0 rfl (lv_at hl 1 rfl) ?_
  by_cases k_1_0 : k = 0
  · -- case 0
    refine lv_tableIn (off := 35) (tgt := 36) hx hb dX0_happens_1 (by rw [k_1_0]; decide) (by rw [k_1_0]; decide) (by rw [k_1_0]; rfl) (by decide) ?_
    refine lv_aload_n hx hb dX0_happens_36 rfl (lv_at hl 0 rfl) ?_
    refine lv_iload_n hx hb dX0_happens_37 rfl (lv_at hl 2 rfl) ?_
    have hPc := hP.sub (ws' := [(rk, .inr (0, [.ref aL, .ref aT, .ref aU, .int co, .int pl, .int st, .int jo, .int cn, .int ii, .int fi, .int fe])), (aL, .inl (cI, 4, .inl L)), (aT, .inl (cI, 4, .inl T)), (aU, .inl (cI, 6, .inl U))]) [0, 1, 2, 3] rfl
    have hDc := hD.sub (ws' := [(rk, .inr (0, [.ref aL, .ref aT, .ref aU, .int co, .int pl, .int st, .int jo, .int cn, .int ii, .int fi, .int fe])), (aL, .inl (cI, 4, .inl L)), (aT, .inl (cI, 4, .inl T)), (aU, .inl (cI, 6, .inl U))]) [0, 1, 2, 3] (by decide) rfl
    have hKc := hK.sub (tys' := [(cI, .int)]) [0] rfl
    have hFc := va_free (wc := [(rk, .inr (0, [.ref aL, .ref aT, .ref aU, .int co, .int pl, .int st, .int jo, .int cn, .int ii, .int fi, .int fe])), (aL, .inl (cI, 4, .inl L)), (aT, .inl (cI, 4, .inl T)), (aU, .inl (cI, 6, .inl U))]) hD hS hA [0, 1, 2, 3] rfl
    refine va_calli (va_runV (As := [.int a]) (rest := []) ⟨hx, hb, hml, hown, hts⟩ (c_X0_happensJoin l dC dI cI rk aL aT aU s.heap.size L T U co pl st jo cn ii fi fe a (by assumption)) (cwV 1 hts gX0_happens_X0_happensJoin rfl rfl rfl (by decide +kernel) ⟨Nat.le_of_ble_eq_true rfl, Nat.le_of_ble_eq_true rfl⟩) (pc_V hKc hPc hDc (ci := 0) (C := RX0) (T := TX0) (N := 11) (q0 := 0) rfl rfl) rfl rfl hl.1 rfl (lv_room (Nat.le_of_ble_eq_true rfl)) dX0_happens_38 ⟨Nat.le_of_ble_eq_true rfl, Nat.le_of_ble_eq_true rfl⟩) hS (fun q _ h => hFc q h) hFc (fun r_1 u t H_1 locs ht hvm hw hB hz1 hk1 hS => ?_)
    obtain ⟨co1_1, pl1_1, st1_1, jo1_1, U1_1⟩ := u
    try dsimp only at hw hB
    have hw_1 := hw
    obtain ⟨hP1, hD1⟩ := hB
    rw [ht] at hP1
    obtain ⟨hP, hD⟩ := va_join (wr := []) (w1 := [(rk, .inr (0, [.ref aL, .ref aT, .ref aU, .int co1_1, .int pl1_1, .int st1_1, .int jo1_1, .int cn, .int ii, .int fi, .int fe])), (aL, .inl (cI, 4, .inl L)), (aT, .inl (cI, 4, .inl T)), (aU, .inl (cI, 6, .inl U1_1))]) hP hD [0, 1, 2, 3] [] rfl rfl (by decide) (by decide) hk1 hFc hP1 hD1
    have hP : va_P (dC, dI) vwCl [(rk, .inr (0, [.ref aL, .ref aT, .ref aU, .int co1_1, .int pl1_1, .int st1_1, .int jo1_1, .int cn, .int ii, .int fi, .int fe])), (aL, .inl (cI, 4, .inl L)), (aT, .inl (cI, 4, .inl T)), (aU, .inl (cI, 6, .inl U1_1))] H_1 := hP
    have hD : va_D A [(rk, .inr (0, [.ref aL, .ref aT, .ref aU, .int co1_1, .int pl1_1, .int st1_1, .int jo1_1, .int cn, .int ii, .int fi, .int fe])), (aL, .inl (cI, 4, .inl L)), (aT, .inl (cI, 4, .inl T)), (aU, .inl (cI, 6, .inl U1_1))] := hD
    have hpost : (r_1, co1_1, pl1_1, st1_1, jo1_1, U1_1) = mHap L T k a b co pl st jo U := by
      first | rfl | (simp only [mHap, if_pos k_1_0, ← hw_1]; done) | (simp only [mHap, if_pos k_1_0, ← hw_1]; rfl)
    have hP9 := hP.sub (ws' := [(rk, .inr (0, [.ref aL, .ref aT, .ref aU, .int co1_1, .int pl1_1, .int st1_1, .int jo1_1, .int cn, .int ii, .int fi, .int fe])), (aL, .inl (cI, 4, .inl L)), (aT, .inl (cI, 4, .inl T)), (aU, .inl (cI, 6, .inl U1_1))]) [0, 1, 2, 3] rfl
    have hD9 := hD.sub (ws' := [(rk, .inr (0, [.ref aL, .ref aT, .ref aU, .int co1_1, .int pl1_1, .int st1_1, .int jo1_1, .int cn, .int ii, .int fi, .int fe])), (aL, .inl (cI, 4, .inl L)), (aT, .inl (cI, 4, .inl T)), (aU, .inl (cI, 6, .inl U1_1))]) [0, 1, 2, 3] (by decide) rfl
    exact W.zret (v := r_1) (ty := .boolean) hx hb hr (nz_01 (by have h9 := mJoin_01 co pl st jo U a; rw [← hw] at h9; exact h9)) (fun t ht hW => ⟨⟨r_1, (co1_1, pl1_1, st1_1, jo1_1, U1_1), rfl, hpost, by rw [ht]; exact hP9, hD9⟩, hS.F ht⟩) hS.2.2 dX0_happens_41
  by_cases k_1_1 : k = 1
  · -- case 1
    refine lv_tableIn (off := 41) (tgt := 42) hx hb dX0_happens_1 (by rw [k_1_1]; decide) (by rw [k_1_1]; decide) (by rw [k_1_1]; rfl) (by decide) ?_
    refine lv_aload_n hx hb dX0_happens_42 rfl (lv_at hl 0 rfl) ?_
    refine lv_iload_n hx hb dX0_happens_43 rfl (lv_at hl 2 rfl) ?_
    refine lv_iload_n hx hb dX0_happens_44 rfl (lv_at hl 3 rfl) ?_
    have hPc := hP.sub (ws' := [(rk, .inr (0, [.ref aL, .ref aT, .ref aU, .int co, .int pl, .int st, .int jo, .int cn, .int ii, .int fi, .int fe])), (aL, .inl (cI, 4, .inl L)), (aT, .inl (cI, 4, .inl T)), (aU, .inl (cI, 6, .inl U))]) [0, 1, 2, 3] rfl
    have hDc := hD.sub (ws' := [(rk, .inr (0, [.ref aL, .ref aT, .ref aU, .int co, .int pl, .int st, .int jo, .int cn, .int ii, .int fi, .int fe])), (aL, .inl (cI, 4, .inl L)), (aT, .inl (cI, 4, .inl T)), (aU, .inl (cI, 6, .inl U))]) [0, 1, 2, 3] (by decide) rfl
    have hKc := hK.sub (tys' := [(cI, .int)]) [0] rfl
    have hFc := va_free (wc := [(rk, .inr (0, [.ref aL, .ref aT, .ref aU, .int co, .int pl, .int st, .int jo, .int cn, .int ii, .int fi, .int fe])), (aL, .inl (cI, 4, .inl L)), (aT, .inl (cI, 4, .inl T)), (aU, .inl (cI, 6, .inl U))]) hD hS hA [0, 1, 2, 3] rfl
    refine va_calli (va_runV (As := [.int a, .int b]) (rest := []) ⟨hx, hb, hml, hown, hts⟩ (c_X0_happensToss l dC dI cI rk aL aT aU s.heap.size L T U co pl st jo cn ii fi fe a b (hok.2.1 (Or.inl k_1_1)) (by assumption)) (cwV 2 hts gX0_happens_X0_happensToss rfl rfl rfl (by decide +kernel) ⟨Nat.le_of_ble_eq_true rfl, Nat.le_of_ble_eq_true rfl⟩) (pc_V hKc hPc hDc (ci := 0) (C := RX0) (T := TX0) (N := 11) (q0 := 0) rfl rfl) rfl rfl hl.1 rfl (lv_room (Nat.le_of_ble_eq_true rfl)) dX0_happens_45 ⟨Nat.le_of_ble_eq_true rfl, Nat.le_of_ble_eq_true rfl⟩) hS (fun q _ h => hFc q h) hFc (fun r_2 u t H_2 locs ht hvm hw hB hz1 hk1 hS => ?_)
    obtain ⟨co1_2, pl1_2, st1_2, jo1_2, U1_2⟩ := u
    try dsimp only at hw hB
    have hw_2 := hw
    obtain ⟨hP1, hD1⟩ := hB
    rw [ht] at hP1
    obtain ⟨hP, hD⟩ := va_join (wr := []) (w1 := [(rk, .inr (0, [.ref aL, .ref aT, .ref aU, .int co1_2, .int pl1_2, .int st1_2, .int jo1_2, .int cn, .int ii, .int fi, .int fe])), (aL, .inl (cI, 4, .inl L)), (aT, .inl (cI, 4, .inl T)), (aU, .inl (cI, 6, .inl U1_2))]) hP hD [0, 1, 2, 3] [] rfl rfl (by decide) (by decide) hk1 hFc hP1 hD1
    have hP : va_P (dC, dI) vwCl [(rk, .inr (0, [.ref aL, .ref aT, .ref aU, .int co1_2, .int pl1_2, .int st1_2, .int jo1_2, .int cn, .int ii, .int fi, .int fe])), (aL, .inl (cI, 4, .inl L)), (aT, .inl (cI, 4, .inl T)), (aU, .inl (cI, 6, .inl U1_2))] H_2 := hP
    have hD : va_D A [(rk, .inr (0, [.ref aL, .ref aT, .ref aU, .int co1_2, .int pl1_2, .int st1_2, .int jo1_2, .int cn, .int ii, .int fi, .int fe])), (aL, .inl (cI, 4, .inl L)), (aT, .inl (cI, 4, .inl T)), (aU, .inl (cI, 6, .inl U1_2))] := hD
    have hpost : (r_2, co1_2, pl1_2, st1_2, jo1_2, U1_2) = mHap L T k a b co pl st jo U := by
      first | rfl | (simp only [mHap, if_neg k_1_0, if_pos k_1_1, ← hw_2]; done) | (simp only [mHap, if_neg k_1_0, if_pos k_1_1, ← hw_2]; rfl)
    have hP9 := hP.sub (ws' := [(rk, .inr (0, [.ref aL, .ref aT, .ref aU, .int co1_2, .int pl1_2, .int st1_2, .int jo1_2, .int cn, .int ii, .int fi, .int fe])), (aL, .inl (cI, 4, .inl L)), (aT, .inl (cI, 4, .inl T)), (aU, .inl (cI, 6, .inl U1_2))]) [0, 1, 2, 3] rfl
    have hD9 := hD.sub (ws' := [(rk, .inr (0, [.ref aL, .ref aT, .ref aU, .int co1_2, .int pl1_2, .int st1_2, .int jo1_2, .int cn, .int ii, .int fi, .int fe])), (aL, .inl (cI, 4, .inl L)), (aT, .inl (cI, 4, .inl T)), (aU, .inl (cI, 6, .inl U1_2))]) [0, 1, 2, 3] (by decide) rfl
    exact W.zret (v := r_2) (ty := .boolean) hx hb hr (nz_01 (by have h9 := mToss_01 L T co pl st jo U a b; rw [← hw] at h9; exact h9)) (fun t ht hW => ⟨⟨r_2, (co1_2, pl1_2, st1_2, jo1_2, U1_2), rfl, hpost, by rw [ht]; exact hP9, hD9⟩, hS.F ht⟩) hS.2.2 dX0_happens_48
  by_cases k_1_2 : k = 2
  · -- case 2
    refine lv_tableIn (off := 48) (tgt := 49) hx hb dX0_happens_1 (by rw [k_1_2]; decide) (by rw [k_1_2]; decide) (by rw [k_1_2]; rfl) (by decide) ?_
    refine lv_aload_n hx hb dX0_happens_49 rfl (lv_at hl 0 rfl) ?_
    refine lv_iload_n hx hb dX0_happens_50 rfl (lv_at hl 2 rfl) ?_
    have hPc := hP.sub (ws' := [(rk, .inr (0, [.ref aL, .ref aT, .ref aU, .int co, .int pl, .int st, .int jo, .int cn, .int ii, .int fi, .int fe])), (aL, .inl (cI, 4, .inl L)), (aT, .inl (cI, 4, .inl T)), (aU, .inl (cI, 6, .inl U))]) [0, 1, 2, 3] rfl
    have hDc := hD.sub (ws' := [(rk, .inr (0, [.ref aL, .ref aT, .ref aU, .int co, .int pl, .int st, .int jo, .int cn, .int ii, .int fi, .int fe])), (aL, .inl (cI, 4, .inl L)), (aT, .inl (cI, 4, .inl T)), (aU, .inl (cI, 6, .inl U))]) [0, 1, 2, 3] (by decide) rfl
    have hKc := hK.sub (tys' := [(cI, .int)]) [0] rfl
    have hFc := va_free (wc := [(rk, .inr (0, [.ref aL, .ref aT, .ref aU, .int co, .int pl, .int st, .int jo, .int cn, .int ii, .int fi, .int fe])), (aL, .inl (cI, 4, .inl L)), (aT, .inl (cI, 4, .inl T)), (aU, .inl (cI, 6, .inl U))]) hD hS hA [0, 1, 2, 3] rfl
    refine va_calli (va_runV (As := [.int a]) (rest := []) ⟨hx, hb, hml, hown, hts⟩ (c_X0_happensRest l dC dI cI rk aL aT aU s.heap.size L T U co pl st jo cn ii fi fe a (hok.2.1 (Or.inr (Or.inl k_1_2)))) (cwV 1 hts gX0_happens_X0_happensRest rfl rfl rfl (by decide +kernel) ⟨Nat.le_of_ble_eq_true rfl, Nat.le_of_ble_eq_true rfl⟩) (pc_V hKc hPc hDc (ci := 0) (C := RX0) (T := TX0) (N := 11) (q0 := 0) rfl rfl) rfl rfl hl.1 rfl (lv_room (Nat.le_of_ble_eq_true rfl)) dX0_happens_51 ⟨Nat.le_of_ble_eq_true rfl, Nat.le_of_ble_eq_true rfl⟩) hS (fun q _ h => hFc q h) hFc (fun r_3 u t H_3 locs ht hvm hw hB hz1 hk1 hS => ?_)
    obtain ⟨co1_3, pl1_3, st1_3, jo1_3, U1_3⟩ := u
    try dsimp only at hw hB
    have hw_3 := hw
    obtain ⟨hP1, hD1⟩ := hB
    rw [ht] at hP1
    obtain ⟨hP, hD⟩ := va_join (wr := []) (w1 := [(rk, .inr (0, [.ref aL, .ref aT, .ref aU, .int co1_3, .int pl1_3, .int st1_3, .int jo1_3, .int cn, .int ii, .int fi, .int fe])), (aL, .inl (cI, 4, .inl L)), (aT, .inl (cI, 4, .inl T)), (aU, .inl (cI, 6, .inl U1_3))]) hP hD [0, 1, 2, 3] [] rfl rfl (by decide) (by decide) hk1 hFc hP1 hD1
    have hP : va_P (dC, dI) vwCl [(rk, .inr (0, [.ref aL, .ref aT, .ref aU, .int co1_3, .int pl1_3, .int st1_3, .int jo1_3, .int cn, .int ii, .int fi, .int fe])), (aL, .inl (cI, 4, .inl L)), (aT, .inl (cI, 4, .inl T)), (aU, .inl (cI, 6, .inl U1_3))] H_3 := hP
    have hD : va_D A [(rk, .inr (0, [.ref aL, .ref aT, .ref aU, .int co1_3, .int pl1_3, .int st1_3, .int jo1_3, .int cn, .int ii, .int fi, .int fe])), (aL, .inl (cI, 4, .inl L)), (aT, .inl (cI, 4, .inl T)), (aU, .inl (cI, 6, .inl U1_3))] := hD
    have hpost : (r_3, co1_3, pl1_3, st1_3, jo1_3, U1_3) = mHap L T k a b co pl st jo U := by
      first | rfl | (simp only [mHap, if_neg k_1_0, if_neg k_1_1, if_pos k_1_2, ← hw_3]; done) | (simp only [mHap, if_neg k_1_0, if_neg k_1_1, if_pos k_1_2, ← hw_3]; rfl)
    have hP9 := hP.sub (ws' := [(rk, .inr (0, [.ref aL, .ref aT, .ref aU, .int co1_3, .int pl1_3, .int st1_3, .int jo1_3, .int cn, .int ii, .int fi, .int fe])), (aL, .inl (cI, 4, .inl L)), (aT, .inl (cI, 4, .inl T)), (aU, .inl (cI, 6, .inl U1_3))]) [0, 1, 2, 3] rfl
    have hD9 := hD.sub (ws' := [(rk, .inr (0, [.ref aL, .ref aT, .ref aU, .int co1_3, .int pl1_3, .int st1_3, .int jo1_3, .int cn, .int ii, .int fi, .int fe])), (aL, .inl (cI, 4, .inl L)), (aT, .inl (cI, 4, .inl T)), (aU, .inl (cI, 6, .inl U1_3))]) [0, 1, 2, 3] (by decide) rfl
    exact W.zret (v := r_3) (ty := .boolean) hx hb hr (nz_01 (by have h9 := mRest_01 co pl st jo U a; rw [← hw] at h9; exact h9)) (fun t ht hW => ⟨⟨r_3, (co1_3, pl1_3, st1_3, jo1_3, U1_3), rfl, hpost, by rw [ht]; exact hP9, hD9⟩, hS.F ht⟩) hS.2.2 dX0_happens_54
  by_cases k_1_3 : k = 3
  · -- case 3
    refine lv_tableIn (off := 54) (tgt := 55) hx hb dX0_happens_1 (by rw [k_1_3]; decide) (by rw [k_1_3]; decide) (by rw [k_1_3]; rfl) (by decide) ?_
    refine lv_aload_n hx hb dX0_happens_55 rfl (lv_at hl 0 rfl) ?_
    refine lv_iload_n hx hb dX0_happens_56 rfl (lv_at hl 2 rfl) ?_
    refine va_put (D := (dC, dI)) (ci := 0) (v := .int a) (ty := .int) (C := RX0) (T := TX0) (N := 11) hx hb hts hinX0 tyX0 tyX0_ok nmX0 hown hK hP hD hS 0 rfl rfl 5 (by decide) k0 (fun _ h9 => h9) rfl (by decide +kernel) rfl rfl (Nat.le_of_ble_eq_true rfl) dX0_happens_57 (fun H_4 locs hP hD hS => ?_)
    have hP : va_P (dC, dI) vwCl [(rk, .inr (0, [.ref aL, .ref aT, .ref aU, .int co, .int pl, .int a, .int jo, .int cn, .int ii, .int fi, .int fe])), (aL, .inl (cI, 4, .inl L)), (aT, .inl (cI, 4, .inl T)), (aU, .inl (cI, 6, .inl U))] H_4 := hP
    have hD : va_D A [(rk, .inr (0, [.ref aL, .ref aT, .ref aU, .int co, .int pl, .int a, .int jo, .int cn, .int ii, .int fi, .int fe])), (aL, .inl (cI, 4, .inl L)), (aT, .inl (cI, 4, .inl T)), (aU, .inl (cI, 6, .inl U))] := hD
    refine lv_iconst (v := 1) hx hb dX0_happens_60 (by decide) ?_
    have hpost : ((1 : Int32), co, pl, a, jo, U) = mHap L T k a b co pl st jo U := by
      first | rfl | (simp only [mHap, if_neg k_1_0, if_neg k_1_1, if_neg k_1_2, if_pos k_1_3]; done) | (simp only [mHap, if_neg k_1_0, if_neg k_1_1, if_neg k_1_2, if_pos k_1_3]; rfl)
    have hP9 := hP.sub (ws' := [(rk, .inr (0, [.ref aL, .ref aT, .ref aU, .int co, .int pl, .int a, .int jo, .int cn, .int ii, .int fi, .int fe])), (aL, .inl (cI, 4, .inl L)), (aT, .inl (cI, 4, .inl T)), (aU, .inl (cI, 6, .inl U))]) [0, 1, 2, 3] rfl
    have hD9 := hD.sub (ws' := [(rk, .inr (0, [.ref aL, .ref aT, .ref aU, .int co, .int pl, .int a, .int jo, .int cn, .int ii, .int fi, .int fe])), (aL, .inl (cI, 4, .inl L)), (aT, .inl (cI, 4, .inl T)), (aU, .inl (cI, 6, .inl U))]) [0, 1, 2, 3] (by decide) rfl
    exact W.zret (v := 1) (ty := .boolean) hx hb hr (rfl) (fun t ht hW => ⟨⟨1, (co, pl, a, jo, U), rfl, hpost, by rw [ht]; exact hP9, hD9⟩, hS.F ht⟩) hS.2.2 dX0_happens_61
  by_cases k_1_4 : k = 4
  · -- case 4
    refine lv_tableIn (off := 61) (tgt := 62) hx hb dX0_happens_1 (by rw [k_1_4]; decide) (by rw [k_1_4]; decide) (by rw [k_1_4]; rfl) (by decide) ?_
    refine lv_aload_n hx hb dX0_happens_62 rfl (lv_at hl 0 rfl) ?_
    refine lv_iload_n hx hb dX0_happens_63 rfl (lv_at hl 2 rfl) ?_
    refine lv_iload_n hx hb dX0_happens_64 rfl (lv_at hl 3 rfl) ?_
    have hPc := hP.sub (ws' := [(rk, .inr (0, [.ref aL, .ref aT, .ref aU, .int co, .int pl, .int st, .int jo, .int cn, .int ii, .int fi, .int fe])), (aL, .inl (cI, 4, .inl L)), (aT, .inl (cI, 4, .inl T)), (aU, .inl (cI, 6, .inl U))]) [0, 1, 2, 3] rfl
    have hDc := hD.sub (ws' := [(rk, .inr (0, [.ref aL, .ref aT, .ref aU, .int co, .int pl, .int st, .int jo, .int cn, .int ii, .int fi, .int fe])), (aL, .inl (cI, 4, .inl L)), (aT, .inl (cI, 4, .inl T)), (aU, .inl (cI, 6, .inl U))]) [0, 1, 2, 3] (by decide) rfl
    have hKc := hK.sub (tys' := [(cI, .int)]) [0] rfl
    have hFc := va_free (wc := [(rk, .inr (0, [.ref aL, .ref aT, .ref aU, .int co, .int pl, .int st, .int jo, .int cn, .int ii, .int fi, .int fe])), (aL, .inl (cI, 4, .inl L)), (aT, .inl (cI, 4, .inl T)), (aU, .inl (cI, 6, .inl U))]) hD hS hA [0, 1, 2, 3] rfl
    refine va_calli (va_runV (As := [.int a, .int b]) (rest := []) ⟨hx, hb, hml, hown, hts⟩ (c_X0_happensPay l dC dI cI rk aL aT aU s.heap.size L T U co pl st jo cn ii fi fe a b (hok.2.1 (Or.inr (Or.inr k_1_4)))) (cwV 2 hts gX0_happens_X0_happensPay rfl rfl rfl (by decide +kernel) ⟨Nat.le_of_ble_eq_true rfl, Nat.le_of_ble_eq_true rfl⟩) (pc_V hKc hPc hDc (ci := 0) (C := RX0) (T := TX0) (N := 11) (q0 := 0) rfl rfl) rfl rfl hl.1 rfl (lv_room (Nat.le_of_ble_eq_true rfl)) dX0_happens_65 ⟨Nat.le_of_ble_eq_true rfl, Nat.le_of_ble_eq_true rfl⟩) hS (fun q _ h => hFc q h) hFc (fun r_5 u t H_5 locs ht hvm hw hB hz1 hk1 hS => ?_)
    obtain ⟨co1_5, pl1_5, st1_5, jo1_5, U1_5⟩ := u
    try dsimp only at hw hB
    have hw_5 := hw
    obtain ⟨hP1, hD1⟩ := hB
    rw [ht] at hP1
    obtain ⟨hP, hD⟩ := va_join (wr := []) (w1 := [(rk, .inr (0, [.ref aL, .ref aT, .ref aU, .int co1_5, .int pl1_5, .int st1_5, .int jo1_5, .int cn, .int ii, .int fi, .int fe])), (aL, .inl (cI, 4, .inl L)), (aT, .inl (cI, 4, .inl T)), (aU, .inl (cI, 6, .inl U1_5))]) hP hD [0, 1, 2, 3] [] rfl rfl (by decide) (by decide) hk1 hFc hP1 hD1
    have hP : va_P (dC, dI) vwCl [(rk, .inr (0, [.ref aL, .ref aT, .ref aU, .int co1_5, .int pl1_5, .int st1_5, .int jo1_5, .int cn, .int ii, .int fi, .int fe])), (aL, .inl (cI, 4, .inl L)), (aT, .inl (cI, 4, .inl T)), (aU, .inl (cI, 6, .inl U1_5))] H_5 := hP
    have hD : va_D A [(rk, .inr (0, [.ref aL, .ref aT, .ref aU, .int co1_5, .int pl1_5, .int st1_5, .int jo1_5, .int cn, .int ii, .int fi, .int fe])), (aL, .inl (cI, 4, .inl L)), (aT, .inl (cI, 4, .inl T)), (aU, .inl (cI, 6, .inl U1_5))] := hD
    have hpost : (r_5, co1_5, pl1_5, st1_5, jo1_5, U1_5) = mHap L T k a b co pl st jo U := by
      first | rfl | (simp only [mHap, if_neg k_1_0, if_neg k_1_1, if_neg k_1_2, if_neg k_1_3, if_pos k_1_4, ← hw_5]; done) | (simp only [mHap, if_neg k_1_0, if_neg k_1_1, if_neg k_1_2, if_neg k_1_3, if_pos k_1_4, ← hw_5]; rfl)
    have hP9 := hP.sub (ws' := [(rk, .inr (0, [.ref aL, .ref aT, .ref aU, .int co1_5, .int pl1_5, .int st1_5, .int jo1_5, .int cn, .int ii, .int fi, .int fe])), (aL, .inl (cI, 4, .inl L)), (aT, .inl (cI, 4, .inl T)), (aU, .inl (cI, 6, .inl U1_5))]) [0, 1, 2, 3] rfl
    have hD9 := hD.sub (ws' := [(rk, .inr (0, [.ref aL, .ref aT, .ref aU, .int co1_5, .int pl1_5, .int st1_5, .int jo1_5, .int cn, .int ii, .int fi, .int fe])), (aL, .inl (cI, 4, .inl L)), (aT, .inl (cI, 4, .inl T)), (aU, .inl (cI, 6, .inl U1_5))]) [0, 1, 2, 3] (by decide) rfl
    exact W.zret (v := r_5) (ty := .boolean) hx hb hr (nz_01 (by have h9 := mPay_01 co pl st jo U a b; rw [← hw] at h9; exact h9)) (fun t ht hW => ⟨⟨r_5, (co1_5, pl1_5, st1_5, jo1_5, U1_5), rfl, hpost, by rw [ht]; exact hP9, hD9⟩, hS.F ht⟩) hS.2.2 dX0_happens_68
  refine lv_tableOut (tgt := 69) hx hb dX0_happens_1 (sw_out5 k_1_0 k_1_1 k_1_2 k_1_3 k_1_4) (by decide) ?_
  refine lv_aload_n hx hb dX0_happens_69 rfl (lv_at hl 0 rfl) ?_
  refine lv_iload_n hx hb dX0_happens_70 rfl (lv_at hl 2 rfl) ?_
  have hPc := hP.sub (ws' := [(rk, .inr (0, [.ref aL, .ref aT, .ref aU, .int co, .int pl, .int st, .int jo, .int cn, .int ii, .int fi, .int fe])), (aL, .inl (cI, 4, .inl L)), (aT, .inl (cI, 4, .inl T)), (aU, .inl (cI, 6, .inl U))]) [0, 1, 2, 3] rfl
  have hDc := hD.sub (ws' := [(rk, .inr (0, [.ref aL, .ref aT, .ref aU, .int co, .int pl, .int st, .int jo, .int cn, .int ii, .int fi, .int fe])), (aL, .inl (cI, 4, .inl L)), (aT, .inl (cI, 4, .inl T)), (aU, .inl (cI, 6, .inl U))]) [0, 1, 2, 3] (by decide) rfl
  have hKc := hK.sub (tys' := [(cI, .int)]) [0] rfl
  have hFc := va_free (wc := [(rk, .inr (0, [.ref aL, .ref aT, .ref aU, .int co, .int pl, .int st, .int jo, .int cn, .int ii, .int fi, .int fe])), (aL, .inl (cI, 4, .inl L)), (aT, .inl (cI, 4, .inl T)), (aU, .inl (cI, 6, .inl U))]) hD hS hA [0, 1, 2, 3] rfl
  refine va_calli (va_runV (As := [.int a]) (rest := []) ⟨hx, hb, hml, hown, hts⟩ (c_X0_happensBuy l dC dI cI rk aL aT aU s.heap.size L T U co pl st jo cn ii fi fe a) (cwV 1 hts gX0_happens_X0_happensBuy rfl rfl rfl (by decide +kernel) ⟨Nat.le_of_ble_eq_true rfl, Nat.le_of_ble_eq_true rfl⟩) (pc_V hKc hPc hDc (ci := 0) (C := RX0) (T := TX0) (N := 11) (q0 := 0) rfl rfl) rfl rfl hl.1 rfl (lv_room (Nat.le_of_ble_eq_true rfl)) dX0_happens_71 ⟨Nat.le_of_ble_eq_true rfl, Nat.le_of_ble_eq_true rfl⟩) hS (fun q _ h => hFc q h) hFc (fun r_6 u t H_6 locs ht hvm hw hB hz1 hk1 hS => ?_)
  obtain ⟨co1_6, pl1_6, st1_6, jo1_6, U1_6⟩ := u
  try dsimp only at hw hB
  have hw_6 := hw
  obtain ⟨hP1, hD1⟩ := hB
  rw [ht] at hP1
  obtain ⟨hP, hD⟩ := va_join (wr := []) (w1 := [(rk, .inr (0, [.ref aL, .ref aT, .ref aU, .int co1_6, .int pl1_6, .int st1_6, .int jo1_6, .int cn, .int ii, .int fi, .int fe])), (aL, .inl (cI, 4, .inl L)), (aT, .inl (cI, 4, .inl T)), (aU, .inl (cI, 6, .inl U1_6))]) hP hD [0, 1, 2, 3] [] rfl rfl (by decide) (by decide) hk1 hFc hP1 hD1
  have hP : va_P (dC, dI) vwCl [(rk, .inr (0, [.ref aL, .ref aT, .ref aU, .int co1_6, .int pl1_6, .int st1_6, .int jo1_6, .int cn, .int ii, .int fi, .int fe])), (aL, .inl (cI, 4, .inl L)), (aT, .inl (cI, 4, .inl T)), (aU, .inl (cI, 6, .inl U1_6))] H_6 := hP
  have hD : va_D A [(rk, .inr (0, [.ref aL, .ref aT, .ref aU, .int co1_6, .int pl1_6, .int st1_6, .int jo1_6, .int cn, .int ii, .int fi, .int fe])), (aL, .inl (cI, 4, .inl L)), (aT, .inl (cI, 4, .inl T)), (aU, .inl (cI, 6, .inl U1_6))] := hD
  have hpost : (r_6, co1_6, pl1_6, st1_6, jo1_6, U1_6) = mHap L T k a b co pl st jo U := by
    first | rfl | (simp only [mHap, if_neg k_1_0, if_neg k_1_1, if_neg k_1_2, if_neg k_1_3, if_neg k_1_4, ← hw_6]; done) | (simp only [mHap, if_neg k_1_0, if_neg k_1_1, if_neg k_1_2, if_neg k_1_3, if_neg k_1_4, ← hw_6]; rfl)
  have hP9 := hP.sub (ws' := [(rk, .inr (0, [.ref aL, .ref aT, .ref aU, .int co1_6, .int pl1_6, .int st1_6, .int jo1_6, .int cn, .int ii, .int fi, .int fe])), (aL, .inl (cI, 4, .inl L)), (aT, .inl (cI, 4, .inl T)), (aU, .inl (cI, 6, .inl U1_6))]) [0, 1, 2, 3] rfl
  have hD9 := hD.sub (ws' := [(rk, .inr (0, [.ref aL, .ref aT, .ref aU, .int co1_6, .int pl1_6, .int st1_6, .int jo1_6, .int cn, .int ii, .int fi, .int fe])), (aL, .inl (cI, 4, .inl L)), (aT, .inl (cI, 4, .inl T)), (aU, .inl (cI, 6, .inl U1_6))]) [0, 1, 2, 3] (by decide) rfl
  exact W.zret (v := r_6) (ty := .boolean) hx hb hr (nz_01 (by have h9 := mBuy_01 co pl st jo U a; rw [← hw] at h9; exact h9)) (fun t ht hW => ⟨⟨r_6, (co1_6, pl1_6, st1_6, jo1_6, U1_6), rfl, hpost, by rw [ht]; exact hP9, hD9⟩, hS.F ht⟩) hS.2.2 dX0_happens_74

set_option maxHeartbeats 4000000 in
set_option maxRecDepth 100000 in
theorem c_X0_tally (l : Launch) (dC : Nat → ClassId) (dI : Nat → Nat → Nat) (cI : ClassId) (rk aL aT aU : Nat) (sz : Nat) (L : N2I) (T : N2I) (U : N2I) (co : Int32) (pl : Int32) (st : Int32) (jo : Int32) (cn : Int32) (ii : Int32) (fi : Int32) (fe : Int32) (x : Int32) (r9 : Int32) : Met l yX0_tally wsX0_tally ({ frames := 1, cells := 0, slots := 0, locals := 16 } : Room) (va_Pc [.ref rk, .int x, .int r9] (pc_ (dC, dI) [(cI, .int)] [(rk, .inr (0, [.ref aL, .ref aT, .ref aU, .int co, .int pl, .int st, .int jo, .int cn, .int ii, .int fi, .int fe])), (aL, .inl (cI, 4, .inl L)), (aT, .inl (cI, 4, .inl T)), (aU, .inl (cI, 6, .inl U))] sz)) (va_Qv (fun (u : Int32 × Int32 × Int32 × Int32) => (u.1, u.2.1, u.2.2.1, u.2.2.2) = mTal x r9 co cn ii fi fe) (fun (u : Int32 × Int32 × Int32 × Int32) (t : State) => va_P (dC, dI) vwCl [(rk, .inr (0, [.ref aL, .ref aT, .ref aU, .int co, .int pl, .int st, .int jo, .int u.1, .int u.2.1, .int u.2.2.1, .int u.2.2.2])), (aL, .inl (cI, 4, .inl L)), (aT, .inl (cI, 4, .inl T)), (aU, .inl (cI, 6, .inl U))] t.heap ∧ va_D (va_A [(rk, .inr (0, [.ref aL, .ref aT, .ref aU, .int co, .int pl, .int st, .int jo, .int cn, .int ii, .int fi, .int fe])), (aL, .inl (cI, 4, .inl L)), (aT, .inl (cI, 4, .inl T)), (aU, .inl (cI, 6, .inl U))] sz) [(rk, .inr (0, [.ref aL, .ref aT, .ref aU, .int co, .int pl, .int st, .int jo, .int u.1, .int u.2.1, .int u.2.2.1, .int u.2.2.2])), (aL, .inl (cI, 4, .inl L)), (aT, .inl (cI, 4, .inl T)), (aU, .inl (cI, 6, .inl U))]) (va_A [(rk, .inr (0, [.ref aL, .ref aT, .ref aU, .int co, .int pl, .int st, .int jo, .int cn, .int ii, .int fi, .int fe])), (aL, .inl (cI, 4, .inl L)), (aT, .inl (cI, 4, .inl T)), (aU, .inl (cI, 6, .inl U))] sz)) 0 0 (va_A [(rk, .inr (0, [.ref aL, .ref aT, .ref aU, .int co, .int pl, .int st, .int jo, .int cn, .int ii, .int fi, .int fe])), (aL, .inl (cI, 4, .inl L)), (aT, .inl (cI, 4, .inl T)), (aU, .inl (cI, 6, .inl U))] sz) := by
  refine Met.ofW (cc := cX0_tally) (maxL := 3) (ret := none) (by decide) rfl ?_
  intro p e s m args below meth c s₁ BB hml hv
  obtain ⟨rfl, hsz, hP, hK, hD0⟩ := hv
  have hx := BB.exec
  have hb := BB.bytes
  have hr := BB.returns
  have hts := atoms_spec (ws := wsX0_tally) BB.pre
  have hown : s.vm.findClass RX0 = some m.cls := findClass_of_methodNamed BB.named
  have hlocks := BB.notSynchronized
  subst hsz
  have hD := hD0.self (sz := s.heap.size)
  generalize hAe : va_A [(rk, .inr (0, [.ref aL, .ref aT, .ref aU, .int co, .int pl, .int st, .int jo, .int cn, .int ii, .int fi, .int fe])), (aL, .inl (cI, 4, .inl L)), (aT, .inl (cI, 4, .inl T)), (aU, .inl (cI, 6, .inl U))] s.heap.size = A at hD ⊢
  have hA : ∀ q : Nat, s.heap.size ≤ q → A q := fun q h => by rw [← hAe]; exact Or.inr h
  have hS : va_S A s.heap s.heap [] := va_S.rf
  have hP : va_P (dC, dI) vwCl [(rk, .inr (0, [.ref aL, .ref aT, .ref aU, .int co, .int pl, .int st, .int jo, .int cn, .int ii, .int fi, .int fe])), (aL, .inl (cI, 4, .inl L)), (aT, .inl (cI, 4, .inl T)), (aU, .inl (cI, 6, .inl U))] s.heap := hP
  have hl := lv_entry ([.ref rk, .int x, .int r9]) (n := 3) (Nat.le_of_ble_eq_true rfl)
  rw [lg_entry_eq]
  generalize (lg_sl ([.ref rk, .int x, .int r9]) ++ List.replicate (3 - (lg_sl ([.ref rk, .int x, .int r9])).length) Slot.unset).toArray = ls at hl ⊢
  have hl : lv_has ls 3 [(0, .ref rk), (1, .int x), (2, .int r9)] := hl
  have k0 := hts (.fieldLink RX0 37 "KnifeLedger$Reckoning" "idle" "I") (by decide +kernel)
  have hinX0 : ∀ w ∈ wsX00, w ∈ wsX0_tally := by decide +kernel
  have k2 := hts (.fieldLink RX0 40 "KnifeLedger$Reckoning" "firstIdle" "I") (by decide +kernel)
  have k3 := hts (.fieldLink RX0 34 "KnifeLedger$Reckoning" "counting" "I") (by decide +kernel)
  have k4 := hts (.fieldLink RX0 43 "KnifeLedger$Reckoning" "fewestCoins" "I") (by decide +kernel)
  have k5 := hts (.fieldLink RX0 21 "KnifeLedger$Reckoning" "coins" "I") (by decide +kernel)
  have k6 := hts (.methodLink RX0 46 Lib.Math.min.name) (by decide +kernel)
  have k7 := hts (.static Lib.Math.min.name) (by decide +kernel)
  have k8 := hts (.initialized "java/lang/Math") (by decide +kernel)
  have k9 := hts (.code Lib.Math.min.name Lib.Math.min.code 2 (some .int)) (by decide +kernel)
  refine lv_iload_n hx hb dX0_tally_0 rfl (lv_at hl 2 rfl) ?_
  refine lv_if_eq (tgt := 30) hx hb dX0_tally_1 (by decide) (fun c_1 => ?_) (fun c_1 => ?_)
  · -- 1
    refine lv_aload_n hx hb dX0_tally_30 rfl (lv_at hl 0 rfl) ?_
    refine va_get (D := (dC, dI)) (ci := 0) (v := .int ii) (C := RX0) (T := TX0) (N := 11) hx hb hts hinX0 hown hK hP 0 rfl rfl 8 (by decide) k0 (fun _ h9 => h9) rfl dX0_tally_31 ?_
    refine lv_if_ne (tgt := 42) hx hb dX0_tally_34 (by decide) (fun c_34 => ?_) (fun c_34 => ?_)
    · -- 34
      refine lv_aload_n hx hb dX0_tally_42 rfl (lv_at hl 0 rfl) ?_
      refine lv_dup hx hb dX0_tally_43 rfl ?_
      refine va_get (D := (dC, dI)) (ci := 0) (v := .int ii) (C := RX0) (T := TX0) (N := 11) hx hb hts hinX0 hown hK hP 0 rfl rfl 8 (by decide) k0 (fun _ h9 => h9) rfl dX0_tally_44 ?_
      refine lv_iconst (v := 1) hx hb dX0_tally_47 (by decide) ?_
      refine lv_iadd hx hb dX0_tally_48 ?_
      refine lv_topi (fun f_1 ef_1 => ?_)
      refine va_put (D := (dC, dI)) (ci := 0) (v := .int f_1) (ty := .int) (C := RX0) (T := TX0) (N := 11) hx hb hts hinX0 tyX0 tyX0_ok nmX0 hown hK hP hD hS 0 rfl rfl 8 (by decide) k0 (fun _ h9 => h9) rfl (by decide +kernel) rfl rfl (Nat.le_of_ble_eq_true rfl) dX0_tally_49 (fun H_2 locs hP hD hS => ?_)
      have hP : va_P (dC, dI) vwCl [(rk, .inr (0, [.ref aL, .ref aT, .ref aU, .int co, .int pl, .int st, .int jo, .int cn, .int f_1, .int fi, .int fe])), (aL, .inl (cI, 4, .inl L)), (aT, .inl (cI, 4, .inl T)), (aU, .inl (cI, 6, .inl U))] H_2 := hP
      have hD : va_D A [(rk, .inr (0, [.ref aL, .ref aT, .ref aU, .int co, .int pl, .int st, .int jo, .int cn, .int f_1, .int fi, .int fe])), (aL, .inl (cI, 4, .inl L)), (aT, .inl (cI, 4, .inl T)), (aU, .inl (cI, 6, .inl U))] := hD
      have hpost : (cn, f_1, fi, fe) = mTal x r9 co cn ii fi fe := by
        first | rfl | (simp only [mTal, if_pos c_1, if_neg c_34, ef_1]; done) | (simp only [mTal, if_pos c_1, if_neg c_34, ef_1]; rfl)
      have hP9 := hP.sub (ws' := [(rk, .inr (0, [.ref aL, .ref aT, .ref aU, .int co, .int pl, .int st, .int jo, .int cn, .int f_1, .int fi, .int fe])), (aL, .inl (cI, 4, .inl L)), (aT, .inl (cI, 4, .inl T)), (aU, .inl (cI, 6, .inl U))]) [0, 1, 2, 3] rfl
      have hD9 := hD.sub (ws' := [(rk, .inr (0, [.ref aL, .ref aT, .ref aU, .int co, .int pl, .int st, .int jo, .int cn, .int f_1, .int fi, .int fe])), (aL, .inl (cI, 4, .inl L)), (aT, .inl (cI, 4, .inl T)), (aU, .inl (cI, 6, .inl U))]) [0, 1, 2, 3] (by decide) rfl
      exact W.vret hx hb hr (fun t ht hW => ⟨⟨(cn, f_1, fi, fe), rfl, hpost, by rw [ht]; exact hP9, hD9⟩, hS.F ht⟩) hS.2.2 dX0_tally_52
    · -- 34
      refine lv_aload_n hx hb dX0_tally_37 rfl (lv_at hl 0 rfl) ?_
      refine lv_iload_n hx hb dX0_tally_38 rfl (lv_at hl 1 rfl) ?_
      refine va_put (D := (dC, dI)) (ci := 0) (v := .int x) (ty := .int) (C := RX0) (T := TX0) (N := 11) hx hb hts hinX0 tyX0 tyX0_ok nmX0 hown hK hP hD hS 0 rfl rfl 9 (by decide) k2 (fun _ h9 => h9) rfl (by decide +kernel) rfl rfl (Nat.le_of_ble_eq_true rfl) dX0_tally_39 (fun H_3 locs hP hD hS => ?_)
      have hP : va_P (dC, dI) vwCl [(rk, .inr (0, [.ref aL, .ref aT, .ref aU, .int co, .int pl, .int st, .int jo, .int cn, .int ii, .int x, .int fe])), (aL, .inl (cI, 4, .inl L)), (aT, .inl (cI, 4, .inl T)), (aU, .inl (cI, 6, .inl U))] H_3 := hP
      have hD : va_D A [(rk, .inr (0, [.ref aL, .ref aT, .ref aU, .int co, .int pl, .int st, .int jo, .int cn, .int ii, .int x, .int fe])), (aL, .inl (cI, 4, .inl L)), (aT, .inl (cI, 4, .inl T)), (aU, .inl (cI, 6, .inl U))] := hD
      refine lv_aload_n hx hb dX0_tally_42 rfl (lv_at hl 0 rfl) ?_
      refine lv_dup hx hb dX0_tally_43 rfl ?_
      refine va_get (D := (dC, dI)) (ci := 0) (v := .int ii) (C := RX0) (T := TX0) (N := 11) hx hb hts hinX0 hown hK hP 0 rfl rfl 8 (by decide) k0 (fun _ h9 => h9) rfl dX0_tally_44 ?_
      refine lv_iconst (v := 1) hx hb dX0_tally_47 (by decide) ?_
      refine lv_iadd hx hb dX0_tally_48 ?_
      refine lv_topi (fun f_4 ef_4 => ?_)
      refine va_put (D := (dC, dI)) (ci := 0) (v := .int f_4) (ty := .int) (C := RX0) (T := TX0) (N := 11) hx hb hts hinX0 tyX0 tyX0_ok nmX0 hown hK hP hD hS 0 rfl rfl 8 (by decide) k0 (fun _ h9 => h9) rfl (by decide +kernel) rfl rfl (Nat.le_of_ble_eq_true rfl) dX0_tally_49 (fun H_5 locs hP hD hS => ?_)
      have hP : va_P (dC, dI) vwCl [(rk, .inr (0, [.ref aL, .ref aT, .ref aU, .int co, .int pl, .int st, .int jo, .int cn, .int f_4, .int x, .int fe])), (aL, .inl (cI, 4, .inl L)), (aT, .inl (cI, 4, .inl T)), (aU, .inl (cI, 6, .inl U))] H_5 := hP
      have hD : va_D A [(rk, .inr (0, [.ref aL, .ref aT, .ref aU, .int co, .int pl, .int st, .int jo, .int cn, .int f_4, .int x, .int fe])), (aL, .inl (cI, 4, .inl L)), (aT, .inl (cI, 4, .inl T)), (aU, .inl (cI, 6, .inl U))] := hD
      have hpost : (cn, f_4, x, fe) = mTal x r9 co cn ii fi fe := by
        first | rfl | (simp only [mTal, if_pos c_1, if_pos c_34, ef_4]; done) | (simp only [mTal, if_pos c_1, if_pos c_34, ef_4]; rfl)
      have hP9 := hP.sub (ws' := [(rk, .inr (0, [.ref aL, .ref aT, .ref aU, .int co, .int pl, .int st, .int jo, .int cn, .int f_4, .int x, .int fe])), (aL, .inl (cI, 4, .inl L)), (aT, .inl (cI, 4, .inl T)), (aU, .inl (cI, 6, .inl U))]) [0, 1, 2, 3] rfl
      have hD9 := hD.sub (ws' := [(rk, .inr (0, [.ref aL, .ref aT, .ref aU, .int co, .int pl, .int st, .int jo, .int cn, .int f_4, .int x, .int fe])), (aL, .inl (cI, 4, .inl L)), (aT, .inl (cI, 4, .inl T)), (aU, .inl (cI, 6, .inl U))]) [0, 1, 2, 3] (by decide) rfl
      exact W.vret hx hb hr (fun t ht hW => ⟨⟨(cn, f_4, x, fe), rfl, hpost, by rw [ht]; exact hP9, hD9⟩, hS.F ht⟩) hS.2.2 dX0_tally_52
  · -- 1
    refine lv_aload_n hx hb dX0_tally_4 rfl (lv_at hl 0 rfl) ?_
    refine lv_dup hx hb dX0_tally_5 rfl ?_
    refine va_get (D := (dC, dI)) (ci := 0) (v := .int cn) (C := RX0) (T := TX0) (N := 11) hx hb hts hinX0 hown hK hP 0 rfl rfl 7 (by decide) k3 (fun _ h9 => h9) rfl dX0_tally_6 ?_
    refine lv_iconst (v := 1) hx hb dX0_tally_9 (by decide) ?_
    refine lv_iadd hx hb dX0_tally_10 ?_
    refine lv_topi (fun f_6 ef_6 => ?_)
    refine va_put (D := (dC, dI)) (ci := 0) (v := .int f_6) (ty := .int) (C := RX0) (T := TX0) (N := 11) hx hb hts hinX0 tyX0 tyX0_ok nmX0 hown hK hP hD hS 0 rfl rfl 7 (by decide) k3 (fun _ h9 => h9) rfl (by decide +kernel) rfl rfl (Nat.le_of_ble_eq_true rfl) dX0_tally_11 (fun H_7 locs hP hD hS => ?_)
    have hP : va_P (dC, dI) vwCl [(rk, .inr (0, [.ref aL, .ref aT, .ref aU, .int co, .int pl, .int st, .int jo, .int f_6, .int ii, .int fi, .int fe])), (aL, .inl (cI, 4, .inl L)), (aT, .inl (cI, 4, .inl T)), (aU, .inl (cI, 6, .inl U))] H_7 := hP
    have hD : va_D A [(rk, .inr (0, [.ref aL, .ref aT, .ref aU, .int co, .int pl, .int st, .int jo, .int f_6, .int ii, .int fi, .int fe])), (aL, .inl (cI, 4, .inl L)), (aT, .inl (cI, 4, .inl T)), (aU, .inl (cI, 6, .inl U))] := hD
    refine lv_aload_n hx hb dX0_tally_14 rfl (lv_at hl 0 rfl) ?_
    refine lv_aload_n hx hb dX0_tally_15 rfl (lv_at hl 0 rfl) ?_
    refine va_get (D := (dC, dI)) (ci := 0) (v := .int fe) (C := RX0) (T := TX0) (N := 11) hx hb hts hinX0 hown hK hP 0 rfl rfl 10 (by decide) k4 (fun _ h9 => h9) rfl dX0_tally_16 ?_
    refine lv_aload_n hx hb dX0_tally_19 rfl (lv_at hl 0 rfl) ?_
    refine va_get (D := (dC, dI)) (ci := 0) (v := .int co) (C := RX0) (T := TX0) (N := 11) hx hb hts hinX0 hown hK hP 0 rfl rfl 3 (by decide) k5 (fun _ h9 => h9) rfl dX0_tally_20 ?_
    refine va_mmin hx hb (hml.trans hl.1.symm) hown k6 k7 k8 k9 (Nat.le_of_ble_eq_true rfl) (Nat.le_of_ble_eq_true rfl) (Nat.le_of_ble_eq_true rfl) (Nat.le_of_ble_eq_true rfl) dX0_tally_23 ?_
    refine lv_topi (fun f_8 ef_8 => ?_)
    have ef_8 : f_8 = kmin fe co := ef_8
    refine va_put (D := (dC, dI)) (ci := 0) (v := .int f_8) (ty := .int) (C := RX0) (T := TX0) (N := 11) hx hb hts hinX0 tyX0 tyX0_ok nmX0 hown hK hP hD hS 0 rfl rfl 10 (by decide) k4 (fun _ h9 => h9) rfl (by decide +kernel) rfl rfl (Nat.le_of_ble_eq_true rfl) dX0_tally_26 (fun H_9 locs hP hD hS => ?_)
    have hP : va_P (dC, dI) vwCl [(rk, .inr (0, [.ref aL, .ref aT, .ref aU, .int co, .int pl, .int st, .int jo, .int f_6, .int ii, .int fi, .int f_8])), (aL, .inl (cI, 4, .inl L)), (aT, .inl (cI, 4, .inl T)), (aU, .inl (cI, 6, .inl U))] H_9 := hP
    have hD : va_D A [(rk, .inr (0, [.ref aL, .ref aT, .ref aU, .int co, .int pl, .int st, .int jo, .int f_6, .int ii, .int fi, .int f_8])), (aL, .inl (cI, 4, .inl L)), (aT, .inl (cI, 4, .inl T)), (aU, .inl (cI, 6, .inl U))] := hD
    have hpost : (f_6, ii, fi, f_8) = mTal x r9 co cn ii fi fe := by
      first | rfl | (simp only [mTal, if_neg c_1, ef_6, ef_8]; done) | (simp only [mTal, if_neg c_1, ef_6, ef_8]; rfl)
    have hP9 := hP.sub (ws' := [(rk, .inr (0, [.ref aL, .ref aT, .ref aU, .int co, .int pl, .int st, .int jo, .int f_6, .int ii, .int fi, .int f_8])), (aL, .inl (cI, 4, .inl L)), (aT, .inl (cI, 4, .inl T)), (aU, .inl (cI, 6, .inl U))]) [0, 1, 2, 3] rfl
    have hD9 := hD.sub (ws' := [(rk, .inr (0, [.ref aL, .ref aT, .ref aU, .int co, .int pl, .int st, .int jo, .int f_6, .int ii, .int fi, .int f_8])), (aL, .inl (cI, 4, .inl L)), (aT, .inl (cI, 4, .inl T)), (aU, .inl (cI, 6, .inl U))]) [0, 1, 2, 3] (by decide) rfl
    exact W.vret hx hb hr (fun t ht hW => ⟨⟨(f_6, ii, fi, f_8), rfl, hpost, by rw [ht]; exact hP9, hD9⟩, hS.F ht⟩) hS.2.2 dX0_tally_29

set_option maxHeartbeats 4000000 in
set_option maxRecDepth 100000 in
theorem c_X0_begin (l : Launch) (dC : Nat → ClassId) (dI : Nat → Nat → Nat) (cI : ClassId) (rk aL aT aU : Nat) (sz : Nat) (L : N2I) (T : N2I) (U : N2I) (co : Int32) (pl : Int32) (st : Int32) (jo : Int32) (cn : Int32) (ii : Int32) (fi : Int32) (fe : Int32) : Met l yX0_begin wsX0_begin ({ frames := 0, cells := 0, slots := 0, locals := 0 } : Room) (va_Pc [.ref rk] (pc_ (dC, dI) [(cI, .int)] [(rk, .inr (0, [.ref aL, .ref aT, .ref aU, .int co, .int pl, .int st, .int jo, .int cn, .int ii, .int fi, .int fe])), (aL, .inl (cI, 4, .inl L)), (aT, .inl (cI, 4, .inl T)), (aU, .inl (cI, 6, .inl U))] sz)) (va_Qv (fun (u : Unit) => True) (fun (u : Unit) (t : State) => va_P (dC, dI) vwCl [(rk, .inr (0, [.ref aL, .ref aT, .ref aU, .int 10, .int 0, .int 0, .int 0, .int 0, .int 0, .int (-1), .int 10])), (aL, .inl (cI, 4, .inl L)), (aT, .inl (cI, 4, .inl T)), (aU, .inl (cI, 6, .inl U))] t.heap ∧ va_D (va_A [(rk, .inr (0, [.ref aL, .ref aT, .ref aU, .int co, .int pl, .int st, .int jo, .int cn, .int ii, .int fi, .int fe])), (aL, .inl (cI, 4, .inl L)), (aT, .inl (cI, 4, .inl T)), (aU, .inl (cI, 6, .inl U))] sz) [(rk, .inr (0, [.ref aL, .ref aT, .ref aU, .int 10, .int 0, .int 0, .int 0, .int 0, .int 0, .int (-1), .int 10])), (aL, .inl (cI, 4, .inl L)), (aT, .inl (cI, 4, .inl T)), (aU, .inl (cI, 6, .inl U))]) (va_A [(rk, .inr (0, [.ref aL, .ref aT, .ref aU, .int co, .int pl, .int st, .int jo, .int cn, .int ii, .int fi, .int fe])), (aL, .inl (cI, 4, .inl L)), (aT, .inl (cI, 4, .inl T)), (aU, .inl (cI, 6, .inl U))] sz)) 0 0 (va_A [(rk, .inr (0, [.ref aL, .ref aT, .ref aU, .int co, .int pl, .int st, .int jo, .int cn, .int ii, .int fi, .int fe])), (aL, .inl (cI, 4, .inl L)), (aT, .inl (cI, 4, .inl T)), (aU, .inl (cI, 6, .inl U))] sz) := by
  refine Met.ofW (cc := cX0_begin) (maxL := 1) (ret := none) (by decide) rfl ?_
  intro p e s m args below meth c s₁ BB hml hv
  obtain ⟨rfl, hsz, hP, hK, hD0⟩ := hv
  have hx := BB.exec
  have hb := BB.bytes
  have hr := BB.returns
  have hts := atoms_spec (ws := wsX0_begin) BB.pre
  have hown : s.vm.findClass RX0 = some m.cls := findClass_of_methodNamed BB.named
  have hlocks := BB.notSynchronized
  subst hsz
  have hD := hD0.self (sz := s.heap.size)
  generalize hAe : va_A [(rk, .inr (0, [.ref aL, .ref aT, .ref aU, .int co, .int pl, .int st, .int jo, .int cn, .int ii, .int fi, .int fe])), (aL, .inl (cI, 4, .inl L)), (aT, .inl (cI, 4, .inl T)), (aU, .inl (cI, 6, .inl U))] s.heap.size = A at hD ⊢
  have hA : ∀ q : Nat, s.heap.size ≤ q → A q := fun q h => by rw [← hAe]; exact Or.inr h
  have hS : va_S A s.heap s.heap [] := va_S.rf
  have hP : va_P (dC, dI) vwCl [(rk, .inr (0, [.ref aL, .ref aT, .ref aU, .int co, .int pl, .int st, .int jo, .int cn, .int ii, .int fi, .int fe])), (aL, .inl (cI, 4, .inl L)), (aT, .inl (cI, 4, .inl T)), (aU, .inl (cI, 6, .inl U))] s.heap := hP
  have hl := lv_entry ([.ref rk]) (n := 1) (Nat.le_of_ble_eq_true rfl)
  rw [lg_entry_eq]
  generalize (lg_sl ([.ref rk]) ++ List.replicate (1 - (lg_sl ([.ref rk])).length) Slot.unset).toArray = ls at hl ⊢
  have hl : lv_has ls 1 [(0, .ref rk)] := hl
  have k0 := hts (.fieldLink RX0 21 "KnifeLedger$Reckoning" "coins" "I") (by decide +kernel)
  have hinX0 : ∀ w ∈ wsX00, w ∈ wsX0_begin := by decide +kernel
  have k2 := hts (.fieldLink RX0 25 "KnifeLedger$Reckoning" "plasters" "I") (by decide +kernel)
  have k3 := hts (.fieldLink RX0 28 "KnifeLedger$Reckoning" "stage" "I") (by decide +kernel)
  have k4 := hts (.fieldLink RX0 31 "KnifeLedger$Reckoning" "joined" "I") (by decide +kernel)
  have k5 := hts (.fieldLink RX0 34 "KnifeLedger$Reckoning" "counting" "I") (by decide +kernel)
  have k6 := hts (.fieldLink RX0 37 "KnifeLedger$Reckoning" "idle" "I") (by decide +kernel)
  have k7 := hts (.fieldLink RX0 40 "KnifeLedger$Reckoning" "firstIdle" "I") (by decide +kernel)
  have k8 := hts (.fieldLink RX0 43 "KnifeLedger$Reckoning" "fewestCoins" "I") (by decide +kernel)
  refine lv_aload_n hx hb dX0_begin_0 rfl (lv_at hl 0 rfl) ?_
  refine lv_bipush (v := 10) hx hb dX0_begin_1 (by decide) ?_
  refine va_put (D := (dC, dI)) (ci := 0) (v := .int 10) (ty := .int) (C := RX0) (T := TX0) (N := 11) hx hb hts hinX0 tyX0 tyX0_ok nmX0 hown hK hP hD hS 0 rfl rfl 3 (by decide) k0 (fun _ h9 => h9) rfl (by decide +kernel) rfl rfl (Nat.le_of_ble_eq_true rfl) dX0_begin_3 (fun H_1 locs hP hD hS => ?_)
  have hP : va_P (dC, dI) vwCl [(rk, .inr (0, [.ref aL, .ref aT, .ref aU, .int 10, .int pl, .int st, .int jo, .int cn, .int ii, .int fi, .int fe])), (aL, .inl (cI, 4, .inl L)), (aT, .inl (cI, 4, .inl T)), (aU, .inl (cI, 6, .inl U))] H_1 := hP
  have hD : va_D A [(rk, .inr (0, [.ref aL, .ref aT, .ref aU, .int 10, .int pl, .int st, .int jo, .int cn, .int ii, .int fi, .int fe])), (aL, .inl (cI, 4, .inl L)), (aT, .inl (cI, 4, .inl T)), (aU, .inl (cI, 6, .inl U))] := hD
  refine lv_aload_n hx hb dX0_begin_6 rfl (lv_at hl 0 rfl) ?_
  refine lv_iconst (v := 0) hx hb dX0_begin_7 (by decide) ?_
  refine va_put (D := (dC, dI)) (ci := 0) (v := .int 0) (ty := .int) (C := RX0) (T := TX0) (N := 11) hx hb hts hinX0 tyX0 tyX0_ok nmX0 hown hK hP hD hS 0 rfl rfl 4 (by decide) k2 (fun _ h9 => h9) rfl (by decide +kernel) rfl rfl (Nat.le_of_ble_eq_true rfl) dX0_begin_8 (fun H_2 locs hP hD hS => ?_)
  have hP : va_P (dC, dI) vwCl [(rk, .inr (0, [.ref aL, .ref aT, .ref aU, .int 10, .int 0, .int st, .int jo, .int cn, .int ii, .int fi, .int fe])), (aL, .inl (cI, 4, .inl L)), (aT, .inl (cI, 4, .inl T)), (aU, .inl (cI, 6, .inl U))] H_2 := hP
  have hD : va_D A [(rk, .inr (0, [.ref aL, .ref aT, .ref aU, .int 10, .int 0, .int st, .int jo, .int cn, .int ii, .int fi, .int fe])), (aL, .inl (cI, 4, .inl L)), (aT, .inl (cI, 4, .inl T)), (aU, .inl (cI, 6, .inl U))] := hD
  refine lv_aload_n hx hb dX0_begin_11 rfl (lv_at hl 0 rfl) ?_
  refine lv_iconst (v := 0) hx hb dX0_begin_12 (by decide) ?_
  refine va_put (D := (dC, dI)) (ci := 0) (v := .int 0) (ty := .int) (C := RX0) (T := TX0) (N := 11) hx hb hts hinX0 tyX0 tyX0_ok nmX0 hown hK hP hD hS 0 rfl rfl 5 (by decide) k3 (fun _ h9 => h9) rfl (by decide +kernel) rfl rfl (Nat.le_of_ble_eq_true rfl) dX0_begin_13 (fun H_3 locs hP hD hS => ?_)
  have hP : va_P (dC, dI) vwCl [(rk, .inr (0, [.ref aL, .ref aT, .ref aU, .int 10, .int 0, .int 0, .int jo, .int cn, .int ii, .int fi, .int fe])), (aL, .inl (cI, 4, .inl L)), (aT, .inl (cI, 4, .inl T)), (aU, .inl (cI, 6, .inl U))] H_3 := hP
  have hD : va_D A [(rk, .inr (0, [.ref aL, .ref aT, .ref aU, .int 10, .int 0, .int 0, .int jo, .int cn, .int ii, .int fi, .int fe])), (aL, .inl (cI, 4, .inl L)), (aT, .inl (cI, 4, .inl T)), (aU, .inl (cI, 6, .inl U))] := hD
  refine lv_aload_n hx hb dX0_begin_16 rfl (lv_at hl 0 rfl) ?_
  refine lv_iconst (v := 0) hx hb dX0_begin_17 (by decide) ?_
  refine va_put (D := (dC, dI)) (ci := 0) (v := .int 0) (ty := .int) (C := RX0) (T := TX0) (N := 11) hx hb hts hinX0 tyX0 tyX0_ok nmX0 hown hK hP hD hS 0 rfl rfl 6 (by decide) k4 (fun _ h9 => h9) rfl (by decide +kernel) rfl rfl (Nat.le_of_ble_eq_true rfl) dX0_begin_18 (fun H_4 locs hP hD hS => ?_)
  have hP : va_P (dC, dI) vwCl [(rk, .inr (0, [.ref aL, .ref aT, .ref aU, .int 10, .int 0, .int 0, .int 0, .int cn, .int ii, .int fi, .int fe])), (aL, .inl (cI, 4, .inl L)), (aT, .inl (cI, 4, .inl T)), (aU, .inl (cI, 6, .inl U))] H_4 := hP
  have hD : va_D A [(rk, .inr (0, [.ref aL, .ref aT, .ref aU, .int 10, .int 0, .int 0, .int 0, .int cn, .int ii, .int fi, .int fe])), (aL, .inl (cI, 4, .inl L)), (aT, .inl (cI, 4, .inl T)), (aU, .inl (cI, 6, .inl U))] := hD
  refine lv_aload_n hx hb dX0_begin_21 rfl (lv_at hl 0 rfl) ?_
  refine lv_iconst (v := 0) hx hb dX0_begin_22 (by decide) ?_
  refine va_put (D := (dC, dI)) (ci := 0) (v := .int 0) (ty := .int) (C := RX0) (T := TX0) (N := 11) hx hb hts hinX0 tyX0 tyX0_ok nmX0 hown hK hP hD hS 0 rfl rfl 7 (by decide) k5 (fun _ h9 => h9) rfl (by decide +kernel) rfl rfl (Nat.le_of_ble_eq_true rfl) dX0_begin_23 (fun H_5 locs hP hD hS => ?_)
  have hP : va_P (dC, dI) vwCl [(rk, .inr (0, [.ref aL, .ref aT, .ref aU, .int 10, .int 0, .int 0, .int 0, .int 0, .int ii, .int fi, .int fe])), (aL, .inl (cI, 4, .inl L)), (aT, .inl (cI, 4, .inl T)), (aU, .inl (cI, 6, .inl U))] H_5 := hP
  have hD : va_D A [(rk, .inr (0, [.ref aL, .ref aT, .ref aU, .int 10, .int 0, .int 0, .int 0, .int 0, .int ii, .int fi, .int fe])), (aL, .inl (cI, 4, .inl L)), (aT, .inl (cI, 4, .inl T)), (aU, .inl (cI, 6, .inl U))] := hD
  refine lv_aload_n hx hb dX0_begin_26 rfl (lv_at hl 0 rfl) ?_
  refine lv_iconst (v := 0) hx hb dX0_begin_27 (by decide) ?_
  refine va_put (D := (dC, dI)) (ci := 0) (v := .int 0) (ty := .int) (C := RX0) (T := TX0) (N := 11) hx hb hts hinX0 tyX0 tyX0_ok nmX0 hown hK hP hD hS 0 rfl rfl 8 (by decide) k6 (fun _ h9 => h9) rfl (by decide +kernel) rfl rfl (Nat.le_of_ble_eq_true rfl) dX0_begin_28 (fun H_6 locs hP hD hS => ?_)
  have hP : va_P (dC, dI) vwCl [(rk, .inr (0, [.ref aL, .ref aT, .ref aU, .int 10, .int 0, .int 0, .int 0, .int 0, .int 0, .int fi, .int fe])), (aL, .inl (cI, 4, .inl L)), (aT, .inl (cI, 4, .inl T)), (aU, .inl (cI, 6, .inl U))] H_6 := hP
  have hD : va_D A [(rk, .inr (0, [.ref aL, .ref aT, .ref aU, .int 10, .int 0, .int 0, .int 0, .int 0, .int 0, .int fi, .int fe])), (aL, .inl (cI, 4, .inl L)), (aT, .inl (cI, 4, .inl T)), (aU, .inl (cI, 6, .inl U))] := hD
  refine lv_aload_n hx hb dX0_begin_31 rfl (lv_at hl 0 rfl) ?_
  refine lv_iconst (v := (-1)) hx hb dX0_begin_32 (by decide) ?_
  refine va_put (D := (dC, dI)) (ci := 0) (v := .int (-1)) (ty := .int) (C := RX0) (T := TX0) (N := 11) hx hb hts hinX0 tyX0 tyX0_ok nmX0 hown hK hP hD hS 0 rfl rfl 9 (by decide) k7 (fun _ h9 => h9) rfl (by decide +kernel) rfl rfl (Nat.le_of_ble_eq_true rfl) dX0_begin_33 (fun H_7 locs hP hD hS => ?_)
  have hP : va_P (dC, dI) vwCl [(rk, .inr (0, [.ref aL, .ref aT, .ref aU, .int 10, .int 0, .int 0, .int 0, .int 0, .int 0, .int (-1), .int fe])), (aL, .inl (cI, 4, .inl L)), (aT, .inl (cI, 4, .inl T)), (aU, .inl (cI, 6, .inl U))] H_7 := hP
  have hD : va_D A [(rk, .inr (0, [.ref aL, .ref aT, .ref aU, .int 10, .int 0, .int 0, .int 0, .int 0, .int 0, .int (-1), .int fe])), (aL, .inl (cI, 4, .inl L)), (aT, .inl (cI, 4, .inl T)), (aU, .inl (cI, 6, .inl U))] := hD
  refine lv_aload_n hx hb dX0_begin_36 rfl (lv_at hl 0 rfl) ?_
  refine lv_bipush (v := 10) hx hb dX0_begin_37 (by decide) ?_
  refine va_put (D := (dC, dI)) (ci := 0) (v := .int 10) (ty := .int) (C := RX0) (T := TX0) (N := 11) hx hb hts hinX0 tyX0 tyX0_ok nmX0 hown hK hP hD hS 0 rfl rfl 10 (by decide) k8 (fun _ h9 => h9) rfl (by decide +kernel) rfl rfl (Nat.le_of_ble_eq_true rfl) dX0_begin_39 (fun H_8 locs hP hD hS => ?_)
  have hP : va_P (dC, dI) vwCl [(rk, .inr (0, [.ref aL, .ref aT, .ref aU, .int 10, .int 0, .int 0, .int 0, .int 0, .int 0, .int (-1), .int 10])), (aL, .inl (cI, 4, .inl L)), (aT, .inl (cI, 4, .inl T)), (aU, .inl (cI, 6, .inl U))] H_8 := hP
  have hD : va_D A [(rk, .inr (0, [.ref aL, .ref aT, .ref aU, .int 10, .int 0, .int 0, .int 0, .int 0, .int 0, .int (-1), .int 10])), (aL, .inl (cI, 4, .inl L)), (aT, .inl (cI, 4, .inl T)), (aU, .inl (cI, 6, .inl U))] := hD
  have hpost : True := by
    trivial
  have hP9 := hP.sub (ws' := [(rk, .inr (0, [.ref aL, .ref aT, .ref aU, .int 10, .int 0, .int 0, .int 0, .int 0, .int 0, .int (-1), .int 10])), (aL, .inl (cI, 4, .inl L)), (aT, .inl (cI, 4, .inl T)), (aU, .inl (cI, 6, .inl U))]) [0, 1, 2, 3] rfl
  have hD9 := hD.sub (ws' := [(rk, .inr (0, [.ref aL, .ref aT, .ref aU, .int 10, .int 0, .int 0, .int 0, .int 0, .int 0, .int (-1), .int 10])), (aL, .inl (cI, 4, .inl L)), (aT, .inl (cI, 4, .inl T)), (aU, .inl (cI, 6, .inl U))]) [0, 1, 2, 3] (by decide) rfl
  exact W.vret hx hb hr (fun t ht hW => ⟨⟨(), rfl, hpost, by rw [ht]; exact hP9, hD9⟩, hS.F ht⟩) hS.2.2 dX0_begin_42

set_option maxHeartbeats 4000000 in
set_option maxRecDepth 100000 in
theorem c_X0_trustOfAll (l : Launch) (dC : Nat → ClassId) (dI : Nat → Nat → Nat) (cI : ClassId) (rk aL aT aU : Nat) (sz : Nat) (L : N2I) (T : N2I) (U : N2I) (co : Int32) (pl : Int32) (st : Int32) (jo : Int32) (cn : Int32) (ii : Int32) (fi : Int32) (fe : Int32) (j : Nat) (hj : jo = nI j) (hj6 : j ≤ 6) : Met l yX0_trustOfAll wsX0_trustOfAll ({ frames := 0, cells := 0, slots := 0, locals := 0 } : Room) (va_Pc [.ref rk] (pc_ (dC, dI) [(cI, .int)] [(rk, .inr (0, [.ref aL, .ref aT, .ref aU, .int co, .int pl, .int st, .int jo, .int cn, .int ii, .int fi, .int fe])), (aL, .inl (cI, 4, .inl L)), (aT, .inl (cI, 4, .inl T)), (aU, .inl (cI, 6, .inl U))] sz)) (va_Qi (fun (r : Int32) (u : Unit) => r = mSum U j) (fun (u : Unit) (t : State) => va_P (dC, dI) vwCl [(rk, .inr (0, [.ref aL, .ref aT, .ref aU, .int co, .int pl, .int st, .int jo, .int cn, .int ii, .int fi, .int fe])), (aL, .inl (cI, 4, .inl L)), (aT, .inl (cI, 4, .inl T)), (aU, .inl (cI, 6, .inl U))] t.heap ∧ va_D (va_A [(rk, .inr (0, [.ref aL, .ref aT, .ref aU, .int co, .int pl, .int st, .int jo, .int cn, .int ii, .int fi, .int fe])), (aL, .inl (cI, 4, .inl L)), (aT, .inl (cI, 4, .inl T)), (aU, .inl (cI, 6, .inl U))] sz) [(rk, .inr (0, [.ref aL, .ref aT, .ref aU, .int co, .int pl, .int st, .int jo, .int cn, .int ii, .int fi, .int fe])), (aL, .inl (cI, 4, .inl L)), (aT, .inl (cI, 4, .inl T)), (aU, .inl (cI, 6, .inl U))]) (va_A [(rk, .inr (0, [.ref aL, .ref aT, .ref aU, .int co, .int pl, .int st, .int jo, .int cn, .int ii, .int fi, .int fe])), (aL, .inl (cI, 4, .inl L)), (aT, .inl (cI, 4, .inl T)), (aU, .inl (cI, 6, .inl U))] sz)) 0 0 (va_A [(rk, .inr (0, [.ref aL, .ref aT, .ref aU, .int co, .int pl, .int st, .int jo, .int cn, .int ii, .int fi, .int fe])), (aL, .inl (cI, 4, .inl L)), (aT, .inl (cI, 4, .inl T)), (aU, .inl (cI, 6, .inl U))] sz) := by
  refine Met.ofW (cc := cX0_trustOfAll) (maxL := 3) (ret := (some .int)) (by decide) rfl ?_
  intro p e s m args below meth c s₁ BB hml hv
  obtain ⟨rfl, hsz, hP, hK, hD0⟩ := hv
  have hx := BB.exec
  have hb := BB.bytes
  have hr := BB.returns
  have hts := atoms_spec (ws := wsX0_trustOfAll) BB.pre
  have hown : s.vm.findClass RX0 = some m.cls := findClass_of_methodNamed BB.named
  have hlocks := BB.notSynchronized
  subst hsz
  have hD := hD0.self (sz := s.heap.size)
  generalize hAe : va_A [(rk, .inr (0, [.ref aL, .ref aT, .ref aU, .int co, .int pl, .int st, .int jo, .int cn, .int ii, .int fi, .int fe])), (aL, .inl (cI, 4, .inl L)), (aT, .inl (cI, 4, .inl T)), (aU, .inl (cI, 6, .inl U))] s.heap.size = A at hD ⊢
  have hA : ∀ q : Nat, s.heap.size ≤ q → A q := fun q h => by rw [← hAe]; exact Or.inr h
  have hS : va_S A s.heap s.heap [] := va_S.rf
  have hP : va_P (dC, dI) vwCl [(rk, .inr (0, [.ref aL, .ref aT, .ref aU, .int co, .int pl, .int st, .int jo, .int cn, .int ii, .int fi, .int fe])), (aL, .inl (cI, 4, .inl L)), (aT, .inl (cI, 4, .inl T)), (aU, .inl (cI, 6, .inl U))] s.heap := hP
  have hl := lv_entry ([.ref rk]) (n := 3) (Nat.le_of_ble_eq_true rfl)
  rw [lg_entry_eq]
  generalize (lg_sl ([.ref rk]) ++ List.replicate (3 - (lg_sl ([.ref rk])).length) Slot.unset).toArray = ls at hl ⊢
  have hl : lv_has ls 3 [(0, .ref rk)] := hl
  have k0 := hts (.fieldLink RX0 31 "KnifeLedger$Reckoning" "joined" "I") (by decide +kernel)
  have hinX0 : ∀ w ∈ wsX00, w ∈ wsX0_trustOfAll := by decide +kernel
  have k2 := hts (.fieldLink RX0 18 "KnifeLedger$Reckoning" "trusts" "[I") (by decide +kernel)
  refine lv_iconst (v := 0) hx hb dX0_trustOfAll_0 (by decide) ?_
  refine lv_istore_n (lv' := [(1, .int 0), (0, .ref rk)]) hx hb dX0_trustOfAll_1 rfl hl (by decide) rfl (fun ls hl => ?_)
  refine lv_iconst (v := 0) hx hb dX0_trustOfAll_2 (by decide) ?_
  refine lv_istore_n (lv' := [(2, .int 0), (1, .int 0), (0, .ref rk)]) hx hb dX0_trustOfAll_3 rfl hl (by decide) rfl (fun ls hl => ?_)
  refine (fun (KK : ∀ (nn9 : Nat) (k : Nat) (H : Heap) (locs : List Loc) (ls : Array Slot) (hk : k ≤ j), j - k < nn9 → va_P (dC, dI) vwCl [(rk, .inr (0, [.ref aL, .ref aT, .ref aU, .int co, .int pl, .int st, .int jo, .int cn, .int ii, .int fi, .int fe])), (aL, .inl (cI, 4, .inl L)), (aT, .inl (cI, 4, .inl T)), (aU, .inl (cI, 6, .inl U))] H → va_D A [(rk, .inr (0, [.ref aL, .ref aT, .ref aU, .int co, .int pl, .int st, .int jo, .int cn, .int ii, .int fi, .int fe])), (aL, .inl (cI, 4, .inl L)), (aT, .inl (cI, 4, .inl T)), (aU, .inl (cI, 6, .inl U))] → va_S A s.heap H locs → lv_has ls 3 [(1, .int (mSum U k)), (2, .int (nI k)), (0, .ref rk)] → W p l e _ s m _ below meth c H locs 0 0 _ (F0 m 4 ls [])) => KK (j - 0 + 1) 0 _ _ _ (Nat.zero_le _) (by omega) hP hD hS (lv_sub hl [1, 0, 2] rfl)) ?_
  intro nn_4
  induction nn_4 with
  | zero => intro k H locs ls hk hn9; exact absurd hn9 (Nat.not_lt_zero _)
  | succ nn_4 ih_4 =>
    intro k H_1 locs ls hk hn_4 hP hD hS hl
    refine lv_iload_n hx hb dX0_trustOfAll_4 rfl (lv_at hl 1 rfl) ?_
    refine lv_aload_n hx hb dX0_trustOfAll_5 rfl (lv_at hl 2 rfl) ?_
    refine va_get (D := (dC, dI)) (ci := 0) (v := .int jo) (C := RX0) (T := TX0) (N := 11) hx hb hts hinX0 hown hK hP 0 rfl rfl 6 (by decide) k0 (fun _ h9 => h9) rfl dX0_trustOfAll_6 ?_
    refine lv_icmp_ge (tgt := 27) hx hb dX0_trustOfAll_9 (by decide) (fun c_9 => ?_) (fun c_9 => ?_)
    · -- 9
      have hge : j ≤ k := by rw [hj, nI_leI (by omega) (by omega)] at c_9; omega
      refine lv_iload_n hx hb dX0_trustOfAll_27 rfl (lv_at hl 0 rfl) ?_
      have hpost : (mSum U k) = mSum U j := by
        rw [show j = k from by omega]
      have hP9 := hP.sub (ws' := [(rk, .inr (0, [.ref aL, .ref aT, .ref aU, .int co, .int pl, .int st, .int jo, .int cn, .int ii, .int fi, .int fe])), (aL, .inl (cI, 4, .inl L)), (aT, .inl (cI, 4, .inl T)), (aU, .inl (cI, 6, .inl U))]) [0, 1, 2, 3] rfl
      have hD9 := hD.sub (ws' := [(rk, .inr (0, [.ref aL, .ref aT, .ref aU, .int co, .int pl, .int st, .int jo, .int cn, .int ii, .int fi, .int fe])), (aL, .inl (cI, 4, .inl L)), (aT, .inl (cI, 4, .inl T)), (aU, .inl (cI, 6, .inl U))]) [0, 1, 2, 3] (by decide) rfl
      exact W.iret (v := mSum U k) hx hb hr (fun t ht hW => ⟨⟨(mSum U k), (), rfl, hpost, by rw [ht]; exact hP9, hD9⟩, hS.F ht⟩) hS.2.2 dX0_trustOfAll_28
    · -- 9
      have hlt : k < j := by rw [hj, nI_leI (by omega) (by omega)] at c_9; omega
      refine lv_iload_n hx hb dX0_trustOfAll_12 rfl (lv_at hl 0 rfl) ?_
      refine lv_aload_n hx hb dX0_trustOfAll_13 rfl (lv_at hl 2 rfl) ?_
      refine va_get (D := (dC, dI)) (ci := 0) (v := .ref aU) (C := RX0) (T := TX0) (N := 11) hx hb hts hinX0 hown hK hP 0 rfl rfl 2 (by decide) k2 (fun _ h9 => h9) rfl dX0_trustOfAll_14 ?_
      refine lv_iload_n hx hb dX0_trustOfAll_17 rfl (lv_at hl 1 rfl) ?_
      refine va_iald hx hb hK hP 3 0 rfl rfl (vp_in_nI (by omega) (by omega)) dX0_trustOfAll_18 ?_
      rw [nI_clamp (n := k) (by omega)]
      refine lv_iadd hx hb dX0_trustOfAll_19 ?_
      refine lv_istore_n (lv' := [(1, .int ((mSum U k) + (U k))), (2, .int (nI k)), (0, .ref rk)]) hx hb dX0_trustOfAll_20 rfl hl (by decide) rfl (fun ls hl => ?_)
      refine lv_iinc (v := nI (k + 1)) (lv' := [(2, .int (nI (k + 1))), (1, .int ((mSum U k) + (U k))), (0, .ref rk)]) hx hb dX0_trustOfAll_21 hl (k := 1) rfl (nI_1 _) (by decide) rfl (fun ls hl => ?_)
      refine lv_goto (tgt := 4) hx hb dX0_trustOfAll_24 (by decide) ?_
      exact ih_4 (k + 1) _ _ _ (by omega) (by omega) hP hD hS (lv_sub hl [1, 0, 2] rfl)
