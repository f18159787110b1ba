theorem mJoin_yes {co pl st jo : Int32} {U : N2I} {a : Int32} (h : ¬ (mJoin co pl st jo U a).1 = 0) : jo < 6 := by
  by_cases h6 : jo < 6
  · exact h6
  · exact absurd (by unfold mJoin; rw [if_neg h6]) h
theorem mPay_yes {co pl st jo : Int32} {U : N2I} {a b : Int32} (h : ¬ (mPay co pl st jo U a b).1 = 0) : ¬ mJd jo a = 0 ∧ b ≤ co := by
  by_cases h6 : mJd jo a = 0
  · exact absurd (by unfold mPay; rw [if_pos h6]) h
  · by_cases h7 : b ≤ co
    · exact ⟨h6, h7⟩
    · exact absurd (by unfold mPay; rw [if_neg h6, if_neg h7]) h
theorem mBuy_yes {co pl st jo : Int32} {U : N2I} {a : Int32} (h : ¬ (mBuy co pl st jo U a).1 = 0) : 2 * a ≤ co := by
  by_cases h6 : 2 * a ≤ co
  · exact h6
  · exact absurd (by unfold mBuy; rw [if_neg h6]) h
theorem mM_no {L T : N2I} {e k a b co pl st jo cn ii fi fe : Int32} {U : N2I} (h : (mHap L T k a b co pl st jo U).1 = 0) {i2 f2 : Int32} (hf : (ii = 0 ∧ f2 = e) ∨ (¬ ii = 0 ∧ f2 = fi)) (hi : i2 = ii + 1) : (co, pl, st, jo, cn, i2, f2, fe, U) = mStep9 L T e k a b (co, pl, st, jo, cn, ii, fi, fe, U) := by
  show _ = mFin e cn ii fi fe (mHap L T k a b co pl st jo U)
  rw [mHap_no h]
  unfold mFin
  dsimp only
  rw [if_pos rfl, hi]
  rcases hf with ⟨h1, h2⟩ | ⟨h1, h2⟩
  · rw [if_pos h1, h2]
  · rw [if_neg h1, h2]
theorem mM_yes {L T : N2I} {e k a b co pl st jo cn ii fi fe : Int32} {U : N2I} (h : ¬ (mHap L T k a b co pl st jo U).1 = 0) {co1 pl1 st1 jo1 c2 f2 : Int32} {U1 : N2I} (hw : (co1, pl1, st1, jo1, U1) = (mHap L T k a b co pl st jo U).2) (hc : c2 = cn + 1) (hf : f2 = kmin fe co1) : (co1, pl1, st1, jo1, c2, ii, fi, f2, U1) = mStep9 L T e k a b (co, pl, st, jo, cn, ii, fi, fe, U) := by
  show _ = mFin e cn ii fi fe (mHap L T k a b co pl st jo U)
  generalize mHap L T k a b co pl st jo U = g at h hw ⊢
  obtain ⟨r, co', pl', st', jo', U'⟩ := g
  cases hw
  unfold mFin
  dsimp only at h ⊢
  rw [if_neg h, hc, hf]
theorem mDoes_skip {L T K F S B U : N2I} {e : Nat} (h : ¬ B e = 0) : mDoes L T K F S B U (e + 1) = 0 := if_neg h
theorem mDoes_take {L T K F S B U : N2I} {e : Nat} (h : B e = 0) : mDoes L T K F S B U (e + 1) = (mHap9 L T (K e) (F e) (S e) (mRec L T K F S B U e)).1 := if_pos h
theorem mDoes_01 (L T K F S B U : N2I) (i : Nat) : mDoes L T K F S B U i = 0 ∨ mDoes L T K F S B U i = 1 := by
  rcases i with _ | e
  · exact Or.inl rfl
  · by_cases h : B e = 0
    · rw [mDoes_take h]; exact mHap_01 L T _ _ _ _ _ _ _ _
    · rw [mDoes_skip h]; exact Or.inl rfl
set_option maxHeartbeats 4000000 in
set_option maxRecDepth 100000 in
theorem c_X2_isIn (l : Launch) (dC : Nat → ClassId) (dI : Nat → Nat → Nat) (sz : Nat) (vv : Int32) (lo : Int32) (hi : Int32) : Met l yX2_isIn wsX2_isIn ({ frames := 0, cells := 0, slots := 0, locals := 0 } : Room) (va_Pc [.int vv, .int lo, .int hi] (pc_ (dC, dI) [] [] sz)) (va_Qi (fun (r : Int32) (u : Unit) => r = mIn vv lo hi) (fun (u : Unit) (t : State) => va_P (dC, dI) vwCl [] t.heap ∧ va_D (va_A [] sz) []) (va_A [] sz)) 0 0 (va_A [] sz) := by
  refine Met.ofW (cc := cX2_isIn) (maxL := 3) (ret := (some .boolean)) (by decide) rfl ?_
  intro p e s m args below meth c s₁ BB hml hv
  obtain ⟨rfl, hsz, hP, hK, hD0⟩ := hv
  have hx := BB.exec
  have hb := BB.bytes
  have hr := BB.returns
  have hts := atoms_spec (ws := wsX2_isIn) BB.pre
  have hown : s.vm.findClass RX2 = some m.cls := findClass_of_methodNamed BB.named
  have hlocks := BB.notSynchronized
  subst hsz
  have hD := hD0.self (sz := s.heap.size)
  generalize hAe : va_A [] s.heap.size = A at hD ⊢
  have hA : ∀ q : Nat, s.heap.size ≤ q → A q := fun q h => by rw [← hAe]; exact Or.inr h
  have hS : va_S A s.heap s.heap [] := va_S.rf
  have hP : va_P (dC, dI) vwCl [] s.heap := hP
  have hl := lv_entry ([.int vv, .int lo, .int hi]) (n := 3) (Nat.le_of_ble_eq_true rfl)
  rw [lg_entry_eq]
  generalize (lg_sl ([.int vv, .int lo, .int hi]) ++ List.replicate (3 - (lg_sl ([.int vv, .int lo, .int hi])).length) Slot.unset).toArray = ls at hl ⊢
  have hl : lv_has ls 3 [(0, .int vv), (1, .int lo), (2, .int hi)] := hl
  refine lv_iload_n hx hb dX2_isIn_0 rfl (lv_at hl 0 rfl) ?_
  refine lv_iload_n hx hb dX2_isIn_1 rfl (lv_at hl 1 rfl) ?_
  refine lv_icmp_lt (tgt := 14) hx hb dX2_isIn_2 (by decide) (fun c_2 => ?_) (fun c_2 => ?_)
  · -- 2
    refine lv_iconst (v := 0) hx hb dX2_isIn_14 (by decide) ?_
    have hpost : (0 : Int32) = mIn vv lo hi := by
      first | rfl | (simp only [mIn, if_pos c_2]; done) | (simp only [mIn, if_pos c_2]; rfl)
    have hP9 := hP.sub (ws' := []) [] rfl
    have hD9 := hD.sub (ws' := []) [] (by decide) rfl
    exact W.zret (v := 0) (ty := .boolean) hx hb hr (rfl) (fun t ht hW => ⟨⟨0, (), rfl, hpost, by rw [ht]; exact hP9, hD9⟩, hS.F ht⟩) hS.2.2 dX2_isIn_15
  · -- 2
    refine lv_iload_n hx hb dX2_isIn_5 rfl (lv_at hl 0 rfl) ?_
    refine lv_iload_n hx hb dX2_isIn_6 rfl (lv_at hl 2 rfl) ?_
    refine lv_icmp_gt (tgt := 14) hx hb dX2_isIn_7 (by decide) (fun c_7 => ?_) (fun c_7 => ?_)
    · -- 7
      refine lv_iconst (v := 0) hx hb dX2_isIn_14 (by decide) ?_
      have hpost : (0 : Int32) = mIn vv lo hi := by
        first | rfl | (simp only [mIn, if_neg c_2, if_pos c_7]; done) | (simp only [mIn, if_neg c_2, if_pos c_7]; rfl)
      have hP9 := hP.sub (ws' := []) [] rfl
      have hD9 := hD.sub (ws' := []) [] (by decide) rfl
      exact W.zret (v := 0) (ty := .boolean) hx hb hr (rfl) (fun t ht hW => ⟨⟨0, (), rfl, hpost, by rw [ht]; exact hP9, hD9⟩, hS.F ht⟩) hS.2.2 dX2_isIn_15
    · -- 7
      refine lv_iconst (v := 1) hx hb dX2_isIn_10 (by decide) ?_
      refine lv_goto (tgt := 15) hx hb dX2_isIn_11 (by decide) ?_
      have hpost : (1 : Int32) = mIn vv lo hi := by
        first | rfl | (simp only [mIn, if_neg c_2, if_neg c_7]; done) | (simp only [mIn, if_neg c_2, if_neg c_7]; rfl)
      have hP9 := hP.sub (ws' := []) [] rfl
      have hD9 := hD.sub (ws' := []) [] (by decide) rfl
      exact W.zret (v := 1) (ty := .boolean) hx hb hr (rfl) (fun t ht hW => ⟨⟨1, (), rfl, hpost, by rw [ht]; exact hP9, hD9⟩, hS.F ht⟩) hS.2.2 dX2_isIn_15

set_option maxHeartbeats 4000000 in
set_option maxRecDepth 100000 in
theorem c_X2_thrown (l : Launch) (dC : Nat → ClassId) (dI : Nat → Nat → Nat) (cI cZ : ClassId) (mo bK bF bS bB bL bT bU : Nat) (sz : Nat) (L : N2I) (T : N2I) (K : N2I) (F : N2I) (S : N2I) (B : N2I) (U : N2I) (n : Nat) (tw : Int32) (co : Int32) (pl : Int32) (st : Int32) (jo : Int32) (cn : Int32) (ii : Int32) (fi : Int32) (fe : Int32) : Met l yX2_thrown wsX2_thrown ({ frames := 0, cells := 0, slots := 0, locals := 0 } : Room) (va_Pc [.ref mo] (pc_ (dC, dI) [(cI, .int), (cZ, .boolean)] [(mo, .inr (2, [.int tw, .ref bL, .ref bT, .int (nI n), .ref bK, .ref bF, .ref bS, .ref bB, .int co, .int pl, .int st, .int jo, .int cn, .int ii, .int fi, .int fe, .ref bU])), (bK, .inl (cI, 60, .inl K)), (bF, .inl (cI, 60, .inl F)), (bS, .inl (cI, 60, .inl S)), (bB, .inl (cZ, 60, .inl B)), (bL, .inl (cI, 4, .inl L)), (bT, .inl (cI, 4, .inl T)), (bU, .inl (cI, 6, .inl U))] sz)) (va_Qi (fun (r : Int32) (u : Unit) => r = tw) (fun (u : Unit) (t : State) => va_P (dC, dI) vwCl [(mo, .inr (2, [.int tw, .ref bL, .ref bT, .int (nI n), .ref bK, .ref bF, .ref bS, .ref bB, .int co, .int pl, .int st, .int jo, .int cn, .int ii, .int fi, .int fe, .ref bU])), (bK, .inl (cI, 60, .inl K)), (bF, .inl (cI, 60, .inl F)), (bS, .inl (cI, 60, .inl S)), (bB, .inl (cZ, 60, .inl B)), (bL, .inl (cI, 4, .inl L)), (bT, .inl (cI, 4, .inl T)), (bU, .inl (cI, 6, .inl U))] t.heap ∧ va_D (va_A [(mo, .inr (2, [.int tw, .ref bL, .ref bT, .int (nI n), .ref bK, .ref bF, .ref bS, .ref bB, .int co, .int pl, .int st, .int jo, .int cn, .int ii, .int fi, .int fe, .ref bU])), (bK, .inl (cI, 60, .inl K)), (bF, .inl (cI, 60, .inl F)), (bS, .inl (cI, 60, .inl S)), (bB, .inl (cZ, 60, .inl B)), (bL, .inl (cI, 4, .inl L)), (bT, .inl (cI, 4, .inl T)), (bU, .inl (cI, 6, .inl U))] sz) [(mo, .inr (2, [.int tw, .ref bL, .ref bT, .int (nI n), .ref bK, .ref bF, .ref bS, .ref bB, .int co, .int pl, .int st, .int jo, .int cn, .int ii, .int fi, .int fe, .ref bU])), (bK, .inl (cI, 60, .inl K)), (bF, .inl (cI, 60, .inl F)), (bS, .inl (cI, 60, .inl S)), (bB, .inl (cZ, 60, .inl B)), (bL, .inl (cI, 4, .inl L)), (bT, .inl (cI, 4, .inl T)), (bU, .inl (cI, 6, .inl U))]) (va_A [(mo, .inr (2, [.int tw, .ref bL, .ref bT, .int (nI n), .ref bK, .ref bF, .ref bS, .ref bB, .int co, .int pl, .int st, .int jo, .int cn, .int ii, .int fi, .int fe, .ref bU])), (bK, .inl (cI, 60, .inl K)), (bF, .inl (cI, 60, .inl F)), (bS, .inl (cI, 60, .inl S)), (bB, .inl (cZ, 60, .inl B)), (bL, .inl (cI, 4, .inl L)), (bT, .inl (cI, 4, .inl T)), (bU, .inl (cI, 6, .inl U))] sz)) 0 0 (va_A [(mo, .inr (2, [.int tw, .ref bL, .ref bT, .int (nI n), .ref bK, .ref bF, .ref bS, .ref bB, .int co, .int pl, .int st, .int jo, .int cn, .int ii, .int fi, .int fe, .ref bU])), (bK, .inl (cI, 60, .inl K)), (bF, .inl (cI, 60, .inl F)), (bS, .inl (cI, 60, .inl S)), (bB, .inl (cZ, 60, .inl B)), (bL, .inl (cI, 4, .inl L)), (bT, .inl (cI, 4, .inl T)), (bU, .inl (cI, 6, .inl U))] sz) := by
  refine Met.ofW (cc := cX2_thrown) (maxL := 1) (ret := (some .int)) (by decide) rfl ?_
  intro p e s m args below meth c s₁ BB hml hv
  obtain ⟨rfl, hsz, hP, hK, hD0⟩ := hv
  have hx := BB.exec
  have hb := BB.bytes
  have hr := BB.returns
  have hts := atoms_spec (ws := wsX2_thrown) BB.pre
  have hown : s.vm.findClass RX2 = some m.cls := findClass_of_methodNamed BB.named
  have hlocks := BB.notSynchronized
  subst hsz
  have hD := hD0.self (sz := s.heap.size)
  generalize hAe : va_A [(mo, .inr (2, [.int tw, .ref bL, .ref bT, .int (nI n), .ref bK, .ref bF, .ref bS, .ref bB, .int co, .int pl, .int st, .int jo, .int cn, .int ii, .int fi, .int fe, .ref bU])), (bK, .inl (cI, 60, .inl K)), (bF, .inl (cI, 60, .inl F)), (bS, .inl (cI, 60, .inl S)), (bB, .inl (cZ, 60, .inl B)), (bL, .inl (cI, 4, .inl L)), (bT, .inl (cI, 4, .inl T)), (bU, .inl (cI, 6, .inl U))] s.heap.size = A at hD ⊢
  have hA : ∀ q : Nat, s.heap.size ≤ q → A q := fun q h => by rw [← hAe]; exact Or.inr h
  have hS : va_S A s.heap s.heap [] := va_S.rf
  have hP : va_P (dC, dI) vwCl [(mo, .inr (2, [.int tw, .ref bL, .ref bT, .int (nI n), .ref bK, .ref bF, .ref bS, .ref bB, .int co, .int pl, .int st, .int jo, .int cn, .int ii, .int fi, .int fe, .ref bU])), (bK, .inl (cI, 60, .inl K)), (bF, .inl (cI, 60, .inl F)), (bS, .inl (cI, 60, .inl S)), (bB, .inl (cZ, 60, .inl B)), (bL, .inl (cI, 4, .inl L)), (bT, .inl (cI, 4, .inl T)), (bU, .inl (cI, 6, .inl U))] s.heap := hP
  have hl := lv_entry ([.ref mo]) (n := 1) (Nat.le_of_ble_eq_true rfl)
  rw [lg_entry_eq]
  generalize (lg_sl ([.ref mo]) ++ List.replicate (1 - (lg_sl ([.ref mo])).length) Slot.unset).toArray = ls at hl ⊢
  have hl : lv_has ls 1 [(0, .ref mo)] := hl
  have k0 := hts (.fieldLink RX2 32 "KnifeLedgerModel" "thrown" "I") (by decide +kernel)
  have hinX2 : ∀ w ∈ wsX20, w ∈ wsX2_thrown := by decide +kernel
  refine lv_aload_n hx hb dX2_thrown_0 rfl (lv_at hl 0 rfl) ?_
  refine va_get (D := (dC, dI)) (ci := 2) (v := .int tw) (C := RX2) (T := TX2) (N := 17) hx hb hts hinX2 hown hK hP 0 rfl rfl 0 (by decide) k0 (fun _ h9 => h9) rfl dX2_thrown_1 ?_
  have hpost : tw = tw := by
    rfl
  have hP9 := hP.sub (ws' := [(mo, .inr (2, [.int tw, .ref bL, .ref bT, .int (nI n), .ref bK, .ref bF, .ref bS, .ref bB, .int co, .int pl, .int st, .int jo, .int cn, .int ii, .int fi, .int fe, .ref bU])), (bK, .inl (cI, 60, .inl K)), (bF, .inl (cI, 60, .inl F)), (bS, .inl (cI, 60, .inl S)), (bB, .inl (cZ, 60, .inl B)), (bL, .inl (cI, 4, .inl L)), (bT, .inl (cI, 4, .inl T)), (bU, .inl (cI, 6, .inl U))]) [0, 1, 2, 3, 4, 5, 6, 7] rfl
  have hD9 := hD.sub (ws' := [(mo, .inr (2, [.int tw, .ref bL, .ref bT, .int (nI n), .ref bK, .ref bF, .ref bS, .ref bB, .int co, .int pl, .int st, .int jo, .int cn, .int ii, .int fi, .int fe, .ref bU])), (bK, .inl (cI, 60, .inl K)), (bF, .inl (cI, 60, .inl F)), (bS, .inl (cI, 60, .inl S)), (bB, .inl (cZ, 60, .inl B)), (bL, .inl (cI, 4, .inl L)), (bT, .inl (cI, 4, .inl T)), (bU, .inl (cI, 6, .inl U))]) [0, 1, 2, 3, 4, 5, 6, 7] (by decide) rfl
  exact W.iret (v := tw) hx hb hr (fun t ht hW => ⟨⟨tw, (), rfl, hpost, by rw [ht]; exact hP9, hD9⟩, hS.F ht⟩) hS.2.2 dX2_thrown_4

set_option maxHeartbeats 4000000 in
set_option maxRecDepth 100000 in
theorem c_X2_fail (l : Launch) (dC : Nat → ClassId) (dI : Nat → Nat → Nat) (cI cZ : ClassId) (mo bK bF bS bB bL bT bU : Nat) (sz : Nat) (L : N2I) (T : N2I) (K : N2I) (F : N2I) (S : N2I) (B : N2I) (U : N2I) (n : Nat) (tw : Int32) (co : Int32) (pl : Int32) (st : Int32) (jo : Int32) (cn : Int32) (ii : Int32) (fi : Int32) (fe : Int32) (k : Int32) : Met l yX2_fail wsX2_fail ({ frames := 0, cells := 0, slots := 0, locals := 0 } : Room) (va_Pc [.ref mo, .int k] (pc_ (dC, dI) [(cI, .int), (cZ, .boolean)] [(mo, .inr (2, [.int tw, .ref bL, .ref bT, .int (nI n), .ref bK, .ref bF, .ref bS, .ref bB, .int co, .int pl, .int st, .int jo, .int cn, .int ii, .int fi, .int fe, .ref bU])), (bK, .inl (cI, 60, .inl K)), (bF, .inl (cI, 60, .inl F)), (bS, .inl (cI, 60, .inl S)), (bB, .inl (cZ, 60, .inl B)), (bL, .inl (cI, 4, .inl L)), (bT, .inl (cI, 4, .inl T)), (bU, .inl (cI, 6, .inl U))] sz)) (va_Qi (fun (r : Int32) (u : Unit) => r = 0) (fun (u : Unit) (t : State) => va_P (dC, dI) vwCl [(mo, .inr (2, [.int k, .ref bL, .ref bT, .int (nI n), .ref bK, .ref bF, .ref bS, .ref bB, .int co, .int pl, .int st, .int jo, .int cn, .int ii, .int fi, .int fe, .ref bU])), (bK, .inl (cI, 60, .inl K)), (bF, .inl (cI, 60, .inl F)), (bS, .inl (cI, 60, .inl S)), (bB, .inl (cZ, 60, .inl B)), (bL, .inl (cI, 4, .inl L)), (bT, .inl (cI, 4, .inl T)), (bU, .inl (cI, 6, .inl U))] t.heap ∧ va_D (va_A [(mo, .inr (2, [.int tw, .ref bL, .ref bT, .int (nI n), .ref bK, .ref bF, .ref bS, .ref bB, .int co, .int pl, .int st, .int jo, .int cn, .int ii, .int fi, .int fe, .ref bU])), (bK, .inl (cI, 60, .inl K)), (bF, .inl (cI, 60, .inl F)), (bS, .inl (cI, 60, .inl S)), (bB, .inl (cZ, 60, .inl B)), (bL, .inl (cI, 4, .inl L)), (bT, .inl (cI, 4, .inl T)), (bU, .inl (cI, 6, .inl U))] sz) [(mo, .inr (2, [.int k, .ref bL, .ref bT, .int (nI n), .ref bK, .ref bF, .ref bS, .ref bB, .int co, .int pl, .int st, .int jo, .int cn, .int ii, .int fi, .int fe, .ref bU])), (bK, .inl (cI, 60, .inl K)), (bF, .inl (cI, 60, .inl F)), (bS, .inl (cI, 60, .inl S)), (bB, .inl (cZ, 60, .inl B)), (bL, .inl (cI, 4, .inl L)), (bT, .inl (cI, 4, .inl T)), (bU, .inl (cI, 6, .inl U))]) (va_A [(mo, .inr (2, [.int tw, .ref bL, .ref bT, .int (nI n), .ref bK, .ref bF, .ref bS, .ref bB, .int co, .int pl, .int st, .int jo, .int cn, .int ii, .int fi, .int fe, .ref bU])), (bK, .inl (cI, 60, .inl K)), (bF, .inl (cI, 60, .inl F)), (bS, .inl (cI, 60, .inl S)), (bB, .inl (cZ, 60, .inl B)), (bL, .inl (cI, 4, .inl L)), (bT, .inl (cI, 4, .inl T)), (bU, .inl (cI, 6, .inl U))] sz)) 0 0 (va_A [(mo, .inr (2, [.int tw, .ref bL, .ref bT, .int (nI n), .ref bK, .ref bF, .ref bS, .ref bB, .int co, .int pl, .int st, .int jo, .int cn, .int ii, .int fi, .int fe, .ref bU])), (bK, .inl (cI, 60, .inl K)), (bF, .inl (cI, 60, .inl F)), (bS, .inl (cI, 60, .inl S)), (bB, .inl (cZ, 60, .inl B)), (bL, .inl (cI, 4, .inl L)), (bT, .inl (cI, 4, .inl T)), (bU, .inl (cI, 6, .inl U))] sz) := by
  refine Met.ofW (cc := cX2_fail) (maxL := 2) (ret := (some .int)) (by decide) rfl ?_
  intro p e s m args below meth c s₁ BB hml hv
  obtain ⟨rfl, hsz, hP, hK, hD0⟩ := hv
  have hx := BB.exec
  have hb := BB.bytes
  have hr := BB.returns
  have hts := atoms_spec (ws := wsX2_fail) BB.pre
  have hown : s.vm.findClass RX2 = some m.cls := findClass_of_methodNamed BB.named
  have hlocks := BB.notSynchronized
  subst hsz
  have hD := hD0.self (sz := s.heap.size)
  generalize hAe : va_A [(mo, .inr (2, [.int tw, .ref bL, .ref bT, .int (nI n), .ref bK, .ref bF, .ref bS, .ref bB, .int co, .int pl, .int st, .int jo, .int cn, .int ii, .int fi, .int fe, .ref bU])), (bK, .inl (cI, 60, .inl K)), (bF, .inl (cI, 60, .inl F)), (bS, .inl (cI, 60, .inl S)), (bB, .inl (cZ, 60, .inl B)), (bL, .inl (cI, 4, .inl L)), (bT, .inl (cI, 4, .inl T)), (bU, .inl (cI, 6, .inl U))] s.heap.size = A at hD ⊢
  have hA : ∀ q : Nat, s.heap.size ≤ q → A q := fun q h => by rw [← hAe]; exact Or.inr h
  have hS : va_S A s.heap s.heap [] := va_S.rf
  have hP : va_P (dC, dI) vwCl [(mo, .inr (2, [.int tw, .ref bL, .ref bT, .int (nI n), .ref bK, .ref bF, .ref bS, .ref bB, .int co, .int pl, .int st, .int jo, .int cn, .int ii, .int fi, .int fe, .ref bU])), (bK, .inl (cI, 60, .inl K)), (bF, .inl (cI, 60, .inl F)), (bS, .inl (cI, 60, .inl S)), (bB, .inl (cZ, 60, .inl B)), (bL, .inl (cI, 4, .inl L)), (bT, .inl (cI, 4, .inl T)), (bU, .inl (cI, 6, .inl U))] s.heap := hP
  have hl := lv_entry ([.ref mo, .int k]) (n := 2) (Nat.le_of_ble_eq_true rfl)
  rw [lg_entry_eq]
  generalize (lg_sl ([.ref mo, .int k]) ++ List.replicate (2 - (lg_sl ([.ref mo, .int k])).length) Slot.unset).toArray = ls at hl ⊢
  have hl : lv_has ls 2 [(0, .ref mo), (1, .int k)] := hl
  have k0 := hts (.fieldLink RX2 32 "KnifeLedgerModel" "thrown" "I") (by decide +kernel)
  have hinX2 : ∀ w ∈ wsX20, w ∈ wsX2_fail := by decide +kernel
  refine lv_aload_n hx hb dX2_fail_0 rfl (lv_at hl 0 rfl) ?_
  refine lv_iload_n hx hb dX2_fail_1 rfl (lv_at hl 1 rfl) ?_
  refine va_put (D := (dC, dI)) (ci := 2) (v := .int k) (ty := .int) (C := RX2) (T := TX2) (N := 17) hx hb hts hinX2 tyX2 tyX2_ok nmX2 hown hK hP hD hS 0 rfl rfl 0 (by decide) k0 (fun _ h9 => h9) rfl (by decide +kernel) rfl rfl (Nat.le_of_ble_eq_true rfl) dX2_fail_2 (fun H_1 locs hP hD hS => ?_)
  have hP : va_P (dC, dI) vwCl [(mo, .inr (2, [.int k, .ref bL, .ref bT, .int (nI n), .ref bK, .ref bF, .ref bS, .ref bB, .int co, .int pl, .int st, .int jo, .int cn, .int ii, .int fi, .int fe, .ref bU])), (bK, .inl (cI, 60, .inl K)), (bF, .inl (cI, 60, .inl F)), (bS, .inl (cI, 60, .inl S)), (bB, .inl (cZ, 60, .inl B)), (bL, .inl (cI, 4, .inl L)), (bT, .inl (cI, 4, .inl T)), (bU, .inl (cI, 6, .inl U))] H_1 := hP
  have hD : va_D A [(mo, .inr (2, [.int k, .ref bL, .ref bT, .int (nI n), .ref bK, .ref bF, .ref bS, .ref bB, .int co, .int pl, .int st, .int jo, .int cn, .int ii, .int fi, .int fe, .ref bU])), (bK, .inl (cI, 60, .inl K)), (bF, .inl (cI, 60, .inl F)), (bS, .inl (cI, 60, .inl S)), (bB, .inl (cZ, 60, .inl B)), (bL, .inl (cI, 4, .inl L)), (bT, .inl (cI, 4, .inl T)), (bU, .inl (cI, 6, .inl U))] := hD
  refine lv_iconst (v := 0) hx hb dX2_fail_5 (by decide) ?_
  have hpost : (0 : Int32) = 0 := by
    rfl
  have hP9 := hP.sub (ws' := [(mo, .inr (2, [.int k, .ref bL, .ref bT, .int (nI n), .ref bK, .ref bF, .ref bS, .ref bB, .int co, .int pl, .int st, .int jo, .int cn, .int ii, .int fi, .int fe, .ref bU])), (bK, .inl (cI, 60, .inl K)), (bF, .inl (cI, 60, .inl F)), (bS, .inl (cI, 60, .inl S)), (bB, .inl (cZ, 60, .inl B)), (bL, .inl (cI, 4, .inl L)), (bT, .inl (cI, 4, .inl T)), (bU, .inl (cI, 6, .inl U))]) [0, 1, 2, 3, 4, 5, 6, 7] rfl
  have hD9 := hD.sub (ws' := [(mo, .inr (2, [.int k, .ref bL, .ref bT, .int (nI n), .ref bK, .ref bF, .ref bS, .ref bB, .int co, .int pl, .int st, .int jo, .int cn, .int ii, .int fi, .int fe, .ref bU])), (bK, .inl (cI, 60, .inl K)), (bF, .inl (cI, 60, .inl F)), (bS, .inl (cI, 60, .inl S)), (bB, .inl (cZ, 60, .inl B)), (bL, .inl (cI, 4, .inl L)), (bT, .inl (cI, 4, .inl T)), (bU, .inl (cI, 6, .inl U))]) [0, 1, 2, 3, 4, 5, 6, 7] (by decide) rfl
  exact W.iret (v := 0) hx hb hr (fun t ht hW => ⟨⟨0, (), rfl, hpost, by rw [ht]; exact hP9, hD9⟩, hS.F ht⟩) hS.2.2 dX2_fail_6

set_option maxHeartbeats 4000000 in
set_option maxRecDepth 100000 in
theorem c_X2_isEntry (l : Launch) (dC : Nat → ClassId) (dI : Nat → Nat → Nat) (cI cZ : ClassId) (mo bK bF bS bB bL bT bU : Nat) (sz : Nat) (L : N2I) (T : N2I) (K : N2I) (F : N2I) (S : N2I) (B : N2I) (U : N2I) (n : Nat) (tw : Int32) (co : Int32) (pl : Int32) (st : Int32) (jo : Int32) (cn : Int32) (ii : Int32) (fi : Int32) (fe : Int32) (x : Int32) : Met l yX2_isEntry wsX2_isEntry ({ frames := 1, cells := 0, slots := 0, locals := 22 } : Room) (va_Pc [.ref mo, .int x] (pc_ (dC, dI) [(cI, .int), (cZ, .boolean)] [(mo, .inr (2, [.int tw, .ref bL, .ref bT, .int (nI n), .ref bK, .ref bF, .ref bS, .ref bB, .int co, .int pl, .int st, .int jo, .int cn, .int ii, .int fi, .int fe, .ref bU])), (bK, .inl (cI, 60, .inl K)), (bF, .inl (cI, 60, .inl F)), (bS, .inl (cI, 60, .inl S)), (bB, .inl (cZ, 60, .inl B)), (bL, .inl (cI, 4, .inl L)), (bT, .inl (cI, 4, .inl T)), (bU, .inl (cI, 6, .inl U))] sz)) (va_Qi (fun (r : Int32) (u : Unit) => r = mIn x 0 (nI n - 1)) (fun (u : Unit) (t : State) => va_P (dC, dI) vwCl [(mo, .inr (2, [.int tw, .ref bL, .ref bT, .int (nI n), .ref bK, .ref bF, .ref bS, .ref bB, .int co, .int pl, .int st, .int jo, .int cn, .int ii, .int fi, .int fe, .ref bU])), (bK, .inl (cI, 60, .inl K)), (bF, .inl (cI, 60, .inl F)), (bS, .inl (cI, 60, .inl S)), (bB, .inl (cZ, 60, .inl B)), (bL, .inl (cI, 4, .inl L)), (bT, .inl (cI, 4, .inl T)), (bU, .inl (cI, 6, .inl U))] t.heap ∧ va_D (va_A [(mo, .inr (2, [.int tw, .ref bL, .ref bT, .int (nI n), .ref bK, .ref bF, .ref bS, .ref bB, .int co, .int pl, .int st, .int jo, .int cn, .int ii, .int fi, .int fe, .ref bU])), (bK, .inl (cI, 60, .inl K)), (bF, .inl (cI, 60, .inl F)), (bS, .inl (cI, 60, .inl S)), (bB, .inl (cZ, 60, .inl B)), (bL, .inl (cI, 4, .inl L)), (bT, .inl (cI, 4, .inl T)), (bU, .inl (cI, 6, .inl U))] sz) [(mo, .inr (2, [.int tw, .ref bL, .ref bT, .int (nI n), .ref bK, .ref bF, .ref bS, .ref bB, .int co, .int pl, .int st, .int jo, .int cn, .int ii, .int fi, .int fe, .ref bU])), (bK, .inl (cI, 60, .inl K)), (bF, .inl (cI, 60, .inl F)), (bS, .inl (cI, 60, .inl S)), (bB, .inl (cZ, 60, .inl B)), (bL, .inl (cI, 4, .inl L)), (bT, .inl (cI, 4, .inl T)), (bU, .inl (cI, 6, .inl U))]) (va_A [(mo, .inr (2, [.int tw, .ref bL, .ref bT, .int (nI n), .ref bK, .ref bF, .ref bS, .ref bB, .int co, .int pl, .int st, .int jo, .int cn, .int ii, .int fi, .int fe, .ref bU])), (bK, .inl (cI, 60, .inl K)), (bF, .inl (cI, 60, .inl F)), (bS, .inl (cI, 60, .inl S)), (bB, .inl (cZ, 60, .inl B)), (bL, .inl (cI, 4, .inl L)), (bT, .inl (cI, 4, .inl T)), (bU, .inl (cI, 6, .inl U))] sz)) 0 0 (va_A [(mo, .inr (2, [.int tw, .ref bL, .ref bT, .int (nI n), .ref bK, .ref bF, .ref bS, .ref bB, .int co, .int pl, .int st, .int jo, .int cn, .int ii, .int fi, .int fe, .ref bU])), (bK, .inl (cI, 60, .inl K)), (bF, .inl (cI, 60, .inl F)), (bS, .inl (cI, 60, .inl S)), (bB, .inl (cZ, 60, .inl B)), (bL, .inl (cI, 4, .inl L)), (bT, .inl (cI, 4, .inl T)), (bU, .inl (cI, 6, .inl U))] sz) := by
  refine Met.ofW (cc := cX2_isEntry) (maxL := 2) (ret := (some .boolean)) (by decide) rfl ?_
  intro p e s m args below meth c s₁ BB hml hv
  obtain ⟨rfl, hsz, hP, hK, hD0⟩ := hv
  have hx := BB.exec
  have hb := BB.bytes
  have hr := BB.returns
  have hts := atoms_spec (ws := wsX2_isEntry) BB.pre
  have hown : s.vm.findClass RX2 = some m.cls := findClass_of_methodNamed BB.named
  have hlocks := BB.notSynchronized
  subst hsz
  have hD := hD0.self (sz := s.heap.size)
  generalize hAe : va_A [(mo, .inr (2, [.int tw, .ref bL, .ref bT, .int (nI n), .ref bK, .ref bF, .ref bS, .ref bB, .int co, .int pl, .int st, .int jo, .int cn, .int ii, .int fi, .int fe, .ref bU])), (bK, .inl (cI, 60, .inl K)), (bF, .inl (cI, 60, .inl F)), (bS, .inl (cI, 60, .inl S)), (bB, .inl (cZ, 60, .inl B)), (bL, .inl (cI, 4, .inl L)), (bT, .inl (cI, 4, .inl T)), (bU, .inl (cI, 6, .inl U))] s.heap.size = A at hD ⊢
  have hA : ∀ q : Nat, s.heap.size ≤ q → A q := fun q h => by rw [← hAe]; exact Or.inr h
  have hS : va_S A s.heap s.heap [] := va_S.rf
  have hP : va_P (dC, dI) vwCl [(mo, .inr (2, [.int tw, .ref bL, .ref bT, .int (nI n), .ref bK, .ref bF, .ref bS, .ref bB, .int co, .int pl, .int st, .int jo, .int cn, .int ii, .int fi, .int fe, .ref bU])), (bK, .inl (cI, 60, .inl K)), (bF, .inl (cI, 60, .inl F)), (bS, .inl (cI, 60, .inl S)), (bB, .inl (cZ, 60, .inl B)), (bL, .inl (cI, 4, .inl L)), (bT, .inl (cI, 4, .inl T)), (bU, .inl (cI, 6, .inl U))] s.heap := hP
  have hl := lv_entry ([.ref mo, .int x]) (n := 2) (Nat.le_of_ble_eq_true rfl)
  rw [lg_entry_eq]
  generalize (lg_sl ([.ref mo, .int x]) ++ List.replicate (2 - (lg_sl ([.ref mo, .int x])).length) Slot.unset).toArray = ls at hl ⊢
  have hl : lv_has ls 2 [(0, .ref mo), (1, .int x)] := hl
  have k0 := hts (.fieldLink RX2 36 "KnifeLedgerModel" "entries" "I") (by decide +kernel)
  have hinX2 : ∀ w ∈ wsX20, w ∈ wsX2_isEntry := by decide +kernel
  refine lv_iload_n hx hb dX2_isEntry_0 rfl (lv_at hl 1 rfl) ?_
  refine lv_iconst (v := 0) hx hb dX2_isEntry_1 (by decide) ?_
  refine lv_aload_n hx hb dX2_isEntry_2 rfl (lv_at hl 0 rfl) ?_
  refine va_get (D := (dC, dI)) (ci := 2) (v := .int (nI n)) (C := RX2) (T := TX2) (N := 17) hx hb hts hinX2 hown hK hP 0 rfl rfl 3 (by decide) k0 (fun _ h9 => h9) rfl dX2_isEntry_3 ?_
  refine lv_iconst (v := 1) hx hb dX2_isEntry_6 (by decide) ?_
  refine lv_isub hx hb dX2_isEntry_7 ?_
  have hPc := hP.sub (ws' := []) [] rfl
  have hDc := hD.sub (ws' := []) [] (by decide) rfl
  have hKc := hK.sub (tys' := []) [] rfl
  have hFc := va_free (wc := []) hD hS hA [] rfl
  refine va_calli (va_runS (As := [.int x, .int 0, .int ((nI n) - 1)]) (rest := []) ⟨hx, hb, hml, hown, hts⟩ (c_X2_isIn l dC dI s.heap.size x 0 ((nI n) - 1)) (va_cwS 3 hts gX2_isEntry_X2_isIn rfl rfl rfl (by decide +kernel) ⟨Nat.le_of_ble_eq_true rfl, Nat.le_of_ble_eq_true rfl⟩) (pc_S hKc hPc hDc) rfl rfl hl.1 rfl (lv_room (Nat.le_of_ble_eq_true rfl)) dX2_isEntry_8 ⟨Nat.le_of_ble_eq_true rfl, Nat.le_of_ble_eq_true rfl⟩) hS (fun q _ h => hFc q h) hFc (fun r_1 u t H_1 locs ht hvm hw hB hz1 hk1 hS => ?_)
  try dsimp only at hw hB
  have hw_1 := hw
  replace hw_1 := hw_1.symm
  subst hw_1
  obtain ⟨hP1, hD1⟩ := hB
  rw [ht] at hP1
  obtain ⟨hP, hD⟩ := va_join (wr := [(mo, .inr (2, [.int tw, .ref bL, .ref bT, .int (nI n), .ref bK, .ref bF, .ref bS, .ref bB, .int co, .int pl, .int st, .int jo, .int cn, .int ii, .int fi, .int fe, .ref bU])), (bK, .inl (cI, 60, .inl K)), (bF, .inl (cI, 60, .inl F)), (bS, .inl (cI, 60, .inl S)), (bB, .inl (cZ, 60, .inl B)), (bL, .inl (cI, 4, .inl L)), (bT, .inl (cI, 4, .inl T)), (bU, .inl (cI, 6, .inl U))]) (w1 := []) hP hD [] [0, 1, 2, 3, 4, 5, 6, 7] rfl rfl (by decide) (by decide) hk1 hFc hP1 hD1
  have hP : va_P (dC, dI) vwCl [(mo, .inr (2, [.int tw, .ref bL, .ref bT, .int (nI n), .ref bK, .ref bF, .ref bS, .ref bB, .int co, .int pl, .int st, .int jo, .int cn, .int ii, .int fi, .int fe, .ref bU])), (bK, .inl (cI, 60, .inl K)), (bF, .inl (cI, 60, .inl F)), (bS, .inl (cI, 60, .inl S)), (bB, .inl (cZ, 60, .inl B)), (bL, .inl (cI, 4, .inl L)), (bT, .inl (cI, 4, .inl T)), (bU, .inl (cI, 6, .inl U))] H_1 := hP
  have hD : va_D A [(mo, .inr (2, [.int tw, .ref bL, .ref bT, .int (nI n), .ref bK, .ref bF, .ref bS, .ref bB, .int co, .int pl, .int st, .int jo, .int cn, .int ii, .int fi, .int fe, .ref bU])), (bK, .inl (cI, 60, .inl K)), (bF, .inl (cI, 60, .inl F)), (bS, .inl (cI, 60, .inl S)), (bB, .inl (cZ, 60, .inl B)), (bL, .inl (cI, 4, .inl L)), (bT, .inl (cI, 4, .inl T)), (bU, .inl (cI, 6, .inl U))] := hD
  have hpost : (mIn x 0 ((nI n) - 1)) = mIn x 0 (nI n - 1) := by
    rfl
  have hP9 := hP.sub (ws' := [(mo, .inr (2, [.int tw, .ref bL, .ref bT, .int (nI n), .ref bK, .ref bF, .ref bS, .ref bB, .int co, .int pl, .int st, .int jo, .int cn, .int ii, .int fi, .int fe, .ref bU])), (bK, .inl (cI, 60, .inl K)), (bF, .inl (cI, 60, .inl F)), (bS, .inl (cI, 60, .inl S)), (bB, .inl (cZ, 60, .inl B)), (bL, .inl (cI, 4, .inl L)), (bT, .inl (cI, 4, .inl T)), (bU, .inl (cI, 6, .inl U))]) [0, 1, 2, 3, 4, 5, 6, 7] rfl
  have hD9 := hD.sub (ws' := [(mo, .inr (2, [.int tw, .ref bL, .ref bT, .int (nI n), .ref bK, .ref bF, .ref bS, .ref bB, .int co, .int pl, .int st, .int jo, .int cn, .int ii, .int fi, .int fe, .ref bU])), (bK, .inl (cI, 60, .inl K)), (bF, .inl (cI, 60, .inl F)), (bS, .inl (cI, 60, .inl S)), (bB, .inl (cZ, 60, .inl B)), (bL, .inl (cI, 4, .inl L)), (bT, .inl (cI, 4, .inl T)), (bU, .inl (cI, 6, .inl U))]) [0, 1, 2, 3, 4, 5, 6, 7] (by decide) rfl
  exact W.zret (v := mIn x 0 ((nI n) - 1)) (ty := .boolean) hx hb hr (nz_01 (mIn_01 _ _ _)) (fun t ht hW => ⟨⟨(mIn x 0 ((nI n) - 1)), (), rfl, hpost, by rw [ht]; exact hP9, hD9⟩, hS.F ht⟩) hS.2.2 dX2_isEntry_11

set_option maxHeartbeats 4000000 in
set_option maxRecDepth 100000 in
theorem c_X2_write (l : Launch) (dC : Nat → ClassId) (dI : Nat → Nat → Nat) (cI cZ : ClassId) (mo bK bF bS bB bL bT bU : Nat) (sz : Nat) (L : N2I) (T : N2I) (K : N2I) (F : N2I) (S : N2I) (B : N2I) (U : N2I) (n : Nat) (tw : Int32) (co : Int32) (pl : Int32) (st : Int32) (jo : Int32) (cn : Int32) (ii : Int32) (fi : Int32) (fe : Int32) (k : Int32) (a : Int32) (b : Int32) (hn : n < 60) : Met l yX2_write wsX2_write ({ frames := 0, cells := 0, slots := 0, locals := 0 } : Room) (va_Pc [.ref mo, .int k, .int a, .int b] (pc_ (dC, dI) [(cI, .int), (cZ, .boolean)] [(mo, .inr (2, [.int tw, .ref bL, .ref bT, .int (nI n), .ref bK, .ref bF, .ref bS, .ref bB, .int co, .int pl, .int st, .int jo, .int cn, .int ii, .int fi, .int fe, .ref bU])), (bK, .inl (cI, 60, .inl K)), (bF, .inl (cI, 60, .inl F)), (bS, .inl (cI, 60, .inl S)), (bB, .inl (cZ, 60, .inl B)), (bL, .inl (cI, 4, .inl L)), (bT, .inl (cI, 4, .inl T)), (bU, .inl (cI, 6, .inl U))] sz)) (va_Qi (fun (r : Int32) (u : Unit) => r = nI n) (fun (u : Unit) (t : State) => va_P (dC, dI) vwCl [(mo, .inr (2, [.int tw, .ref bL, .ref bT, .int (nI (n + 1)), .ref bK, .ref bF, .ref bS, .ref bB, .int co, .int pl, .int st, .int jo, .int cn, .int ii, .int fi, .int fe, .ref bU])), (bK, .inl (cI, 60, .inl (upd K n k))), (bF, .inl (cI, 60, .inl (upd F n a))), (bS, .inl (cI, 60, .inl (upd S n b))), (bB, .inl (cZ, 60, .inl (upd B n 0))), (bL, .inl (cI, 4, .inl L)), (bT, .inl (cI, 4, .inl T)), (bU, .inl (cI, 6, .inl U))] t.heap ∧ va_D (va_A [(mo, .inr (2, [.int tw, .ref bL, .ref bT, .int (nI n), .ref bK, .ref bF, .ref bS, .ref bB, .int co, .int pl, .int st, .int jo, .int cn, .int ii, .int fi, .int fe, .ref bU])), (bK, .inl (cI, 60, .inl K)), (bF, .inl (cI, 60, .inl F)), (bS, .inl (cI, 60, .inl S)), (bB, .inl (cZ, 60, .inl B)), (bL, .inl (cI, 4, .inl L)), (bT, .inl (cI, 4, .inl T)), (bU, .inl (cI, 6, .inl U))] sz) [(mo, .inr (2, [.int tw, .ref bL, .ref bT, .int (nI (n + 1)), .ref bK, .ref bF, .ref bS, .ref bB, .int co, .int pl, .int st, .int jo, .int cn, .int ii, .int fi, .int fe, .ref bU])), (bK, .inl (cI, 60, .inl (upd K n k))), (bF, .inl (cI, 60, .inl (upd F n a))), (bS, .inl (cI, 60, .inl (upd S n b))), (bB, .inl (cZ, 60, .inl (upd B n 0))), (bL, .inl (cI, 4, .inl L)), (bT, .inl (cI, 4, .inl T)), (bU, .inl (cI, 6, .inl U))]) (va_A [(mo, .inr (2, [.int tw, .ref bL, .ref bT, .int (nI n), .ref bK, .ref bF, .ref bS, .ref bB, .int co, .int pl, .int st, .int jo, .int cn, .int ii, .int fi, .int fe, .ref bU])), (bK, .inl (cI, 60, .inl K)), (bF, .inl (cI, 60, .inl F)), (bS, .inl (cI, 60, .inl S)), (bB, .inl (cZ, 60, .inl B)), (bL, .inl (cI, 4, .inl L)), (bT, .inl (cI, 4, .inl T)), (bU, .inl (cI, 6, .inl U))] sz)) 0 0 (va_A [(mo, .inr (2, [.int tw, .ref bL, .ref bT, .int (nI n), .ref bK, .ref bF, .ref bS, .ref bB, .int co, .int pl, .int st, .int jo, .int cn, .int ii, .int fi, .int fe, .ref bU])), (bK, .inl (cI, 60, .inl K)), (bF, .inl (cI, 60, .inl F)), (bS, .inl (cI, 60, .inl S)), (bB, .inl (cZ, 60, .inl B)), (bL, .inl (cI, 4, .inl L)), (bT, .inl (cI, 4, .inl T)), (bU, .inl (cI, 6, .inl U))] sz) := by
  refine Met.ofW (cc := cX2_write) (maxL := 4) (ret := (some .int)) (by decide) rfl ?_
  intro p e s m args below meth c s₁ BB hml hv
  obtain ⟨rfl, hsz, hP, hK, hD0⟩ := hv
  have hx := BB.exec
  have hb := BB.bytes
  have hr := BB.returns
  have hts := atoms_spec (ws := wsX2_write) BB.pre
  have hown : s.vm.findClass RX2 = some m.cls := findClass_of_methodNamed BB.named
  have hlocks := BB.notSynchronized
  subst hsz
  have hD := hD0.self (sz := s.heap.size)
  generalize hAe : va_A [(mo, .inr (2, [.int tw, .ref bL, .ref bT, .int (nI n), .ref bK, .ref bF, .ref bS, .ref bB, .int co, .int pl, .int st, .int jo, .int cn, .int ii, .int fi, .int fe, .ref bU])), (bK, .inl (cI, 60, .inl K)), (bF, .inl (cI, 60, .inl F)), (bS, .inl (cI, 60, .inl S)), (bB, .inl (cZ, 60, .inl B)), (bL, .inl (cI, 4, .inl L)), (bT, .inl (cI, 4, .inl T)), (bU, .inl (cI, 6, .inl U))] s.heap.size = A at hD ⊢
  have hA : ∀ q : Nat, s.heap.size ≤ q → A q := fun q h => by rw [← hAe]; exact Or.inr h
  have hS : va_S A s.heap s.heap [] := va_S.rf
  have hP : va_P (dC, dI) vwCl [(mo, .inr (2, [.int tw, .ref bL, .ref bT, .int (nI n), .ref bK, .ref bF, .ref bS, .ref bB, .int co, .int pl, .int st, .int jo, .int cn, .int ii, .int fi, .int fe, .ref bU])), (bK, .inl (cI, 60, .inl K)), (bF, .inl (cI, 60, .inl F)), (bS, .inl (cI, 60, .inl S)), (bB, .inl (cZ, 60, .inl B)), (bL, .inl (cI, 4, .inl L)), (bT, .inl (cI, 4, .inl T)), (bU, .inl (cI, 6, .inl U))] s.heap := hP
  have hl := lv_entry ([.ref mo, .int k, .int a, .int b]) (n := 4) (Nat.le_of_ble_eq_true rfl)
  rw [lg_entry_eq]
  generalize (lg_sl ([.ref mo, .int k, .int a, .int b]) ++ List.replicate (4 - (lg_sl ([.ref mo, .int k, .int a, .int b])).length) Slot.unset).toArray = ls at hl ⊢
  have hl : lv_has ls 4 [(0, .ref mo), (1, .int k), (2, .int a), (3, .int b)] := hl
  have k0 := hts (.fieldLink RX2 16 "KnifeLedgerModel" "kinds" "[I") (by decide +kernel)
  have hinX2 : ∀ w ∈ wsX20, w ∈ wsX2_write := by decide +kernel
  have k2 := hts (.fieldLink RX2 36 "KnifeLedgerModel" "entries" "I") (by decide +kernel)
  have k3 := hts (.fieldLink RX2 19 "KnifeLedgerModel" "firsts" "[I") (by decide +kernel)
  have k4 := hts (.fieldLink RX2 22 "KnifeLedgerModel" "seconds" "[I") (by decide +kernel)
  have k5 := hts (.fieldLink RX2 25 "KnifeLedgerModel" "struck" "[Z") (by decide +kernel)
  refine lv_aload_n hx hb dX2_write_0 rfl (lv_at hl 0 rfl) ?_
  refine va_get (D := (dC, dI)) (ci := 2) (v := .ref bK) (C := RX2) (T := TX2) (N := 17) hx hb hts hinX2 hown hK hP 0 rfl rfl 4 (by decide) k0 (fun _ h9 => h9) rfl dX2_write_1 ?_
  refine lv_aload_n hx hb dX2_write_4 rfl (lv_at hl 0 rfl) ?_
  refine va_get (D := (dC, dI)) (ci := 2) (v := .int (nI n)) (C := RX2) (T := TX2) (N := 17) hx hb hts hinX2 hown hK hP 0 rfl rfl 3 (by decide) k2 (fun _ h9 => h9) rfl dX2_write_5 ?_
  refine lv_iload_n hx hb dX2_write_8 rfl (lv_at hl 1 rfl) ?_
  refine va_iast hx hb hK hP hD hS 1 0 rfl rfl (vp_in_nI (by omega) (by omega)) dX2_write_9 (fun H_1 locs hP hD hS => ?_)
  have hP : va_P (dC, dI) vwCl [(mo, .inr (2, [.int tw, .ref bL, .ref bT, .int (nI n), .ref bK, .ref bF, .ref bS, .ref bB, .int co, .int pl, .int st, .int jo, .int cn, .int ii, .int fi, .int fe, .ref bU])), (bK, .inl (cI, 60, .inl (upd K ((nI n).toNatClampNeg) k))), (bF, .inl (cI, 60, .inl F)), (bS, .inl (cI, 60, .inl S)), (bB, .inl (cZ, 60, .inl B)), (bL, .inl (cI, 4, .inl L)), (bT, .inl (cI, 4, .inl T)), (bU, .inl (cI, 6, .inl U))] H_1 := hP
  have hD : va_D A [(mo, .inr (2, [.int tw, .ref bL, .ref bT, .int (nI n), .ref bK, .ref bF, .ref bS, .ref bB, .int co, .int pl, .int st, .int jo, .int cn, .int ii, .int fi, .int fe, .ref bU])), (bK, .inl (cI, 60, .inl (upd K ((nI n).toNatClampNeg) k))), (bF, .inl (cI, 60, .inl F)), (bS, .inl (cI, 60, .inl S)), (bB, .inl (cZ, 60, .inl B)), (bL, .inl (cI, 4, .inl L)), (bT, .inl (cI, 4, .inl T)), (bU, .inl (cI, 6, .inl U))] := hD
  rw [nI_clamp (by omega)] at hP hD
  have hP : va_P (dC, dI) vwCl [(mo, .inr (2, [.int tw, .ref bL, .ref bT, .int (nI n), .ref bK, .ref bF, .ref bS, .ref bB, .int co, .int pl, .int st, .int jo, .int cn, .int ii, .int fi, .int fe, .ref bU])), (bK, .inl (cI, 60, .inl (upd K (n) k))), (bF, .inl (cI, 60, .inl F)), (bS, .inl (cI, 60, .inl S)), (bB, .inl (cZ, 60, .inl B)), (bL, .inl (cI, 4, .inl L)), (bT, .inl (cI, 4, .inl T)), (bU, .inl (cI, 6, .inl U))] H_1 := hP
  have hD : va_D A [(mo, .inr (2, [.int tw, .ref bL, .ref bT, .int (nI n), .ref bK, .ref bF, .ref bS, .ref bB, .int co, .int pl, .int st, .int jo, .int cn, .int ii, .int fi, .int fe, .ref bU])), (bK, .inl (cI, 60, .inl (upd K (n) k))), (bF, .inl (cI, 60, .inl F)), (bS, .inl (cI, 60, .inl S)), (bB, .inl (cZ, 60, .inl B)), (bL, .inl (cI, 4, .inl L)), (bT, .inl (cI, 4, .inl T)), (bU, .inl (cI, 6, .inl U))] := hD
  refine lv_aload_n hx hb dX2_write_10 rfl (lv_at hl 0 rfl) ?_
  refine va_get (D := (dC, dI)) (ci := 2) (v := .ref bF) (C := RX2) (T := TX2) (N := 17) hx hb hts hinX2 hown hK hP 0 rfl rfl 5 (by decide) k3 (fun _ h9 => h9) rfl dX2_write_11 ?_
  refine lv_aload_n hx hb dX2_write_14 rfl (lv_at hl 0 rfl) ?_
  refine va_get (D := (dC, dI)) (ci := 2) (v := .int (nI n)) (C := RX2) (T := TX2) (N := 17) hx hb hts hinX2 hown hK hP 0 rfl rfl 3 (by decide) k2 (fun _ h9 => h9) rfl dX2_write_15 ?_
  refine lv_iload_n hx hb dX2_write_18 rfl (lv_at hl 2 rfl) ?_
  refine va_iast hx hb hK hP hD hS 2 0 rfl rfl (vp_in_nI (by omega) (by omega)) dX2_write_19 (fun H_2 locs hP hD hS => ?_)
  have hP : va_P (dC, dI) vwCl [(mo, .inr (2, [.int tw, .ref bL, .ref bT, .int (nI n), .ref bK, .ref bF, .ref bS, .ref bB, .int co, .int pl, .int st, .int jo, .int cn, .int ii, .int fi, .int fe, .ref bU])), (bK, .inl (cI, 60, .inl (upd K (n) k))), (bF, .inl (cI, 60, .inl (upd F ((nI n).toNatClampNeg) a))), (bS, .inl (cI, 60, .inl S)), (bB, .inl (cZ, 60, .inl B)), (bL, .inl (cI, 4, .inl L)), (bT, .inl (cI, 4, .inl T)), (bU, .inl (cI, 6, .inl U))] H_2 := hP
  have hD : va_D A [(mo, .inr (2, [.int tw, .ref bL, .ref bT, .int (nI n), .ref bK, .ref bF, .ref bS, .ref bB, .int co, .int pl, .int st, .int jo, .int cn, .int ii, .int fi, .int fe, .ref bU])), (bK, .inl (cI, 60, .inl (upd K (n) k))), (bF, .inl (cI, 60, .inl (upd F ((nI n).toNatClampNeg) a))), (bS, .inl (cI, 60, .inl S)), (bB, .inl (cZ, 60, .inl B)), (bL, .inl (cI, 4, .inl L)), (bT, .inl (cI, 4, .inl T)), (bU, .inl (cI, 6, .inl U))] := hD
  rw [nI_clamp (by omega)] at hP hD
  have hP : va_P (dC, dI) vwCl [(mo, .inr (2, [.int tw, .ref bL, .ref bT, .int (nI n), .ref bK, .ref bF, .ref bS, .ref bB, .int co, .int pl, .int st, .int jo, .int cn, .int ii, .int fi, .int fe, .ref bU])), (bK, .inl (cI, 60, .inl (upd K (n) k))), (bF, .inl (cI, 60, .inl (upd F (n) a))), (bS, .inl (cI, 60, .inl S)), (bB, .inl (cZ, 60, .inl B)), (bL, .inl (cI, 4, .inl L)), (bT, .inl (cI, 4, .inl T)), (bU, .inl (cI, 6, .inl U))] H_2 := hP
  have hD : va_D A [(mo, .inr (2, [.int tw, .ref bL, .ref bT, .int (nI n), .ref bK, .ref bF, .ref bS, .ref bB, .int co, .int pl, .int st, .int jo, .int cn, .int ii, .int fi, .int fe, .ref bU])), (bK, .inl (cI, 60, .inl (upd K (n) k))), (bF, .inl (cI, 60, .inl (upd F (n) a))), (bS, .inl (cI, 60, .inl S)), (bB, .inl (cZ, 60, .inl B)), (bL, .inl (cI, 4, .inl L)), (bT, .inl (cI, 4, .inl T)), (bU, .inl (cI, 6, .inl U))] := hD
  refine lv_aload_n hx hb dX2_write_20 rfl (lv_at hl 0 rfl) ?_
  refine va_get (D := (dC, dI)) (ci := 2) (v := .ref bS) (C := RX2) (T := TX2) (N := 17) hx hb hts hinX2 hown hK hP 0 rfl rfl 6 (by decide) k4 (fun _ h9 => h9) rfl dX2_write_21 ?_
  refine lv_aload_n hx hb dX2_write_24 rfl (lv_at hl 0 rfl) ?_
  refine va_get (D := (dC, dI)) (ci := 2) (v := .int (nI n)) (C := RX2) (T := TX2) (N := 17) hx hb hts hinX2 hown hK hP 0 rfl rfl 3 (by decide) k2 (fun _ h9 => h9) rfl dX2_write_25 ?_
  refine lv_iload_n hx hb dX2_write_28 rfl (lv_at hl 3 rfl) ?_
  refine va_iast hx hb hK hP hD hS 3 0 rfl rfl (vp_in_nI (by omega) (by omega)) dX2_write_29 (fun H_3 locs hP hD hS => ?_)
  have hP : va_P (dC, dI) vwCl [(mo, .inr (2, [.int tw, .ref bL, .ref bT, .int (nI n), .ref bK, .ref bF, .ref bS, .ref bB, .int co, .int pl, .int st, .int jo, .int cn, .int ii, .int fi, .int fe, .ref bU])), (bK, .inl (cI, 60, .inl (upd K (n) k))), (bF, .inl (cI, 60, .inl (upd F (n) a))), (bS, .inl (cI, 60, .inl (upd S ((nI n).toNatClampNeg) b))), (bB, .inl (cZ, 60, .inl B)), (bL, .inl (cI, 4, .inl L)), (bT, .inl (cI, 4, .inl T)), (bU, .inl (cI, 6, .inl U))] H_3 := hP
  have hD : va_D A [(mo, .inr (2, [.int tw, .ref bL, .ref bT, .int (nI n), .ref bK, .ref bF, .ref bS, .ref bB, .int co, .int pl, .int st, .int jo, .int cn, .int ii, .int fi, .int fe, .ref bU])), (bK, .inl (cI, 60, .inl (upd K (n) k))), (bF, .inl (cI, 60, .inl (upd F (n) a))), (bS, .inl (cI, 60, .inl (upd S ((nI n).toNatClampNeg) b))), (bB, .inl (cZ, 60, .inl B)), (bL, .inl (cI, 4, .inl L)), (bT, .inl (cI, 4, .inl T)), (bU, .inl (cI, 6, .inl U))] := hD
  rw [nI_clamp (by omega)] at hP hD
  have hP : va_P (dC, dI) vwCl [(mo, .inr (2, [.int tw, .ref bL, .ref bT, .int (nI n), .ref bK, .ref bF, .ref bS, .ref bB, .int co, .int pl, .int st, .int jo, .int cn, .int ii, .int fi, .int fe, .ref bU])), (bK, .inl (cI, 60, .inl (upd K (n) k))), (bF, .inl (cI, 60, .inl (upd F (n) a))), (bS, .inl (cI, 60, .inl (upd S (n) b))), (bB, .inl (cZ, 60, .inl B)), (bL, .inl (cI, 4, .inl L)), (bT, .inl (cI, 4, .inl T)), (bU, .inl (cI, 6, .inl U))] H_3 := hP
  have hD : va_D A [(mo, .inr (2, [.int tw, .ref bL, .ref bT, .int (nI n), .ref bK, .ref bF, .ref bS, .ref bB, .int co, .int pl, .int st, .int jo, .int cn, .int ii, .int fi, .int fe, .ref bU])), (bK, .inl (cI, 60, .inl (upd K (n) k))), (bF, .inl (cI, 60, .inl (upd F (n) a))), (bS, .inl (cI, 60, .inl (upd S (n) b))), (bB, .inl (cZ, 60, .inl B)), (bL, .inl (cI, 4, .inl L)), (bT, .inl (cI, 4, .inl T)), (bU, .inl (cI, 6, .inl U))] := hD
  refine lv_aload_n hx hb dX2_write_30 rfl (lv_at hl 0 rfl) ?_
  refine va_get (D := (dC, dI)) (ci := 2) (v := .ref bB) (C := RX2) (T := TX2) (N := 17) hx hb hts hinX2 hown hK hP 0 rfl rfl 7 (by decide) k5 (fun _ h9 => h9) rfl dX2_write_31 ?_
  refine lv_aload_n hx hb dX2_write_34 rfl (lv_at hl 0 rfl) ?_
  refine va_get (D := (dC, dI)) (ci := 2) (v := .int (nI n)) (C := RX2) (T := TX2) (N := 17) hx hb hts hinX2 hown hK hP 0 rfl rfl 3 (by decide) k2 (fun _ h9 => h9) rfl dX2_write_35 ?_
  refine lv_iconst (v := 0) hx hb dX2_write_38 (by decide) ?_
  refine va_zast hx hb hK hP hD hS 4 1 rfl rfl (vp_in_nI (by omega) (by omega)) dX2_write_39 (fun H_4 locs hP hD hS => ?_)
  have hP : va_P (dC, dI) vwCl [(mo, .inr (2, [.int tw, .ref bL, .ref bT, .int (nI n), .ref bK, .ref bF, .ref bS, .ref bB, .int co, .int pl, .int st, .int jo, .int cn, .int ii, .int fi, .int fe, .ref bU])), (bK, .inl (cI, 60, .inl (upd K (n) k))), (bF, .inl (cI, 60, .inl (upd F (n) a))), (bS, .inl (cI, 60, .inl (upd S (n) b))), (bB, .inl (cZ, 60, .inl (upd B ((nI n).toNatClampNeg) 0))), (bL, .inl (cI, 4, .inl L)), (bT, .inl (cI, 4, .inl T)), (bU, .inl (cI, 6, .inl U))] H_4 := hP
  have hD : va_D A [(mo, .inr (2, [.int tw, .ref bL, .ref bT, .int (nI n), .ref bK, .ref bF, .ref bS, .ref bB, .int co, .int pl, .int st, .int jo, .int cn, .int ii, .int fi, .int fe, .ref bU])), (bK, .inl (cI, 60, .inl (upd K (n) k))), (bF, .inl (cI, 60, .inl (upd F (n) a))), (bS, .inl (cI, 60, .inl (upd S (n) b))), (bB, .inl (cZ, 60, .inl (upd B ((nI n).toNatClampNeg) 0))), (bL, .inl (cI, 4, .inl L)), (bT, .inl (cI, 4, .inl T)), (bU, .inl (cI, 6, .inl U))] := hD
  rw [nI_clamp (by omega)] at hP hD
  have hP : va_P (dC, dI) vwCl [(mo, .inr (2, [.int tw, .ref bL, .ref bT, .int (nI n), .ref bK, .ref bF, .ref bS, .ref bB, .int co, .int pl, .int st, .int jo, .int cn, .int ii, .int fi, .int fe, .ref bU])), (bK, .inl (cI, 60, .inl (upd K (n) k))), (bF, .inl (cI, 60, .inl (upd F (n) a))), (bS, .inl (cI, 60, .inl (upd S (n) b))), (bB, .inl (cZ, 60, .inl (upd B (n) 0))), (bL, .inl (cI, 4, .inl L)), (bT, .inl (cI, 4, .inl T)), (bU, .inl (cI, 6, .inl U))] H_4 := hP
  have hD : va_D A [(mo, .inr (2, [.int tw, .ref bL, .ref bT, .int (nI n), .ref bK, .ref bF, .ref bS, .ref bB, .int co, .int pl, .int st, .int jo, .int cn, .int ii, .int fi, .int fe, .ref bU])), (bK, .inl (cI, 60, .inl (upd K (n) k))), (bF, .inl (cI, 60, .inl (upd F (n) a))), (bS, .inl (cI, 60, .inl (upd S (n) b))), (bB, .inl (cZ, 60, .inl (upd B (n) 0))), (bL, .inl (cI, 4, .inl L)), (bT, .inl (cI, 4, .inl T)), (bU, .inl (cI, 6, .inl U))] := hD
  refine lv_aload_n hx hb dX2_write_40 rfl (lv_at hl 0 rfl) ?_
  refine lv_dup hx hb dX2_write_41 rfl ?_
  refine va_get (D := (dC, dI)) (ci := 2) (v := .int (nI n)) (C := RX2) (T := TX2) (N := 17) hx hb hts hinX2 hown hK hP 0 rfl rfl 3 (by decide) k2 (fun _ h9 => h9) rfl dX2_write_42 ?_
  refine lv_iconst (v := 1) hx hb dX2_write_45 (by decide) ?_
  refine lv_iadd hx hb dX2_write_46 ?_
  rw [nI_1 n]
  refine va_put (D := (dC, dI)) (ci := 2) (v := .int (nI (n + 1))) (ty := .int) (C := RX2) (T := TX2) (N := 17) hx hb hts hinX2 tyX2 tyX2_ok nmX2 hown hK hP hD hS 0 rfl rfl 3 (by decide) k2 (fun _ h9 => h9) rfl (by decide +kernel) rfl rfl (Nat.le_of_ble_eq_true rfl) dX2_write_47 (fun H_5 locs hP hD hS => ?_)
  have hP : va_P (dC, dI) vwCl [(mo, .inr (2, [.int tw, .ref bL, .ref bT, .int (nI (n + 1)), .ref bK, .ref bF, .ref bS, .ref bB, .int co, .int pl, .int st, .int jo, .int cn, .int ii, .int fi, .int fe, .ref bU])), (bK, .inl (cI, 60, .inl (upd K (n) k))), (bF, .inl (cI, 60, .inl (upd F (n) a))), (bS, .inl (cI, 60, .inl (upd S (n) b))), (bB, .inl (cZ, 60, .inl (upd B (n) 0))), (bL, .inl (cI, 4, .inl L)), (bT, .inl (cI, 4, .inl T)), (bU, .inl (cI, 6, .inl U))] H_5 := hP
  have hD : va_D A [(mo, .inr (2, [.int tw, .ref bL, .ref bT, .int (nI (n + 1)), .ref bK, .ref bF, .ref bS, .ref bB, .int co, .int pl, .int st, .int jo, .int cn, .int ii, .int fi, .int fe, .ref bU])), (bK, .inl (cI, 60, .inl (upd K (n) k))), (bF, .inl (cI, 60, .inl (upd F (n) a))), (bS, .inl (cI, 60, .inl (upd S (n) b))), (bB, .inl (cZ, 60, .inl (upd B (n) 0))), (bL, .inl (cI, 4, .inl L)), (bT, .inl (cI, 4, .inl T)), (bU, .inl (cI, 6, .inl U))] := hD
  refine lv_aload_n hx hb dX2_write_50 rfl (lv_at hl 0 rfl) ?_
  refine va_get (D := (dC, dI)) (ci := 2) (v := .int (nI (n + 1))) (C := RX2) (T := TX2) (N := 17) hx hb hts hinX2 hown hK hP 0 rfl rfl 3 (by decide) k2 (fun _ h9 => h9) rfl dX2_write_51 ?_
  refine lv_iconst (v := 1) hx hb dX2_write_54 (by decide) ?_
  refine lv_isub hx hb dX2_write_55 ?_
  rw [nI_pred n]
  have hpost : (nI n) = nI n := by
    rfl
  have hP9 := hP.sub (ws' := [(mo, .inr (2, [.int tw, .ref bL, .ref bT, .int (nI (n + 1)), .ref bK, .ref bF, .ref bS, .ref bB, .int co, .int pl, .int st, .int jo, .int cn, .int ii, .int fi, .int fe, .ref bU])), (bK, .inl (cI, 60, .inl (upd K (n) k))), (bF, .inl (cI, 60, .inl (upd F (n) a))), (bS, .inl (cI, 60, .inl (upd S (n) b))), (bB, .inl (cZ, 60, .inl (upd B (n) 0))), (bL, .inl (cI, 4, .inl L)), (bT, .inl (cI, 4, .inl T)), (bU, .inl (cI, 6, .inl U))]) [0, 1, 2, 3, 4, 5, 6, 7] rfl
  have hD9 := hD.sub (ws' := [(mo, .inr (2, [.int tw, .ref bL, .ref bT, .int (nI (n + 1)), .ref bK, .ref bF, .ref bS, .ref bB, .int co, .int pl, .int st, .int jo, .int cn, .int ii, .int fi, .int fe, .ref bU])), (bK, .inl (cI, 60, .inl (upd K (n) k))), (bF, .inl (cI, 60, .inl (upd F (n) a))), (bS, .inl (cI, 60, .inl (upd S (n) b))), (bB, .inl (cZ, 60, .inl (upd B (n) 0))), (bL, .inl (cI, 4, .inl L)), (bT, .inl (cI, 4, .inl T)), (bU, .inl (cI, 6, .inl U))]) [0, 1, 2, 3, 4, 5, 6, 7] (by decide) rfl
  exact W.iret (v := nI n) hx hb hr (fun t ht hW => ⟨⟨(nI n), (), rfl, hpost, by rw [ht]; exact hP9, hD9⟩, hS.F ht⟩) hS.2.2 dX2_write_56

set_option maxHeartbeats 4000000 in
set_option maxRecDepth 100000 in
theorem c_X2_more (l : Launch) (dC : Nat → ClassId) (dI : Nat → Nat → Nat) (cI cZ : ClassId) (mo bK bF bS bB bL bT bU : Nat) (sz : Nat) (L : N2I) (T : N2I) (K : N2I) (F : N2I) (S : N2I) (B : N2I) (U : N2I) (n : Nat) (tw : Int32) (co : Int32) (pl : Int32) (st : Int32) (jo : Int32) (cn : Int32) (ii : Int32) (fi : Int32) (fe : Int32) (pa : Int32) (b : Int32) (hp : vp_in pa 6) : Met l yX2_more wsX2_more ({ frames := 1, cells := 0, slots := 0, locals := 16 } : Room) (va_Pc [.ref mo, .int pa, .int b] (pc_ (dC, dI) [(cI, .int), (cZ, .boolean)] [(mo, .inr (2, [.int tw, .ref bL, .ref bT, .int (nI n), .ref bK, .ref bF, .ref bS, .ref bB, .int co, .int pl, .int st, .int jo, .int cn, .int ii, .int fi, .int fe, .ref bU])), (bK, .inl (cI, 60, .inl K)), (bF, .inl (cI, 60, .inl F)), (bS, .inl (cI, 60, .inl S)), (bB, .inl (cZ, 60, .inl B)), (bL, .inl (cI, 4, .inl L)), (bT, .inl (cI, 4, .inl T)), (bU, .inl (cI, 6, .inl U))] sz)) (va_Qv (fun (u : N2I) => u = mAdd U pa b) (fun (u : N2I) (t : State) => va_P (dC, dI) vwCl [(mo, .inr (2, [.int tw, .ref bL, .ref bT, .int (nI n), .ref bK, .ref bF, .ref bS, .ref bB, .int co, .int pl, .int st, .int jo, .int cn, .int ii, .int fi, .int fe, .ref bU])), (bK, .inl (cI, 60, .inl K)), (bF, .inl (cI, 60, .inl F)), (bS, .inl (cI, 60, .inl S)), (bB, .inl (cZ, 60, .inl B)), (bL, .inl (cI, 4, .inl L)), (bT, .inl (cI, 4, .inl T)), (bU, .inl (cI, 6, .inl u))] t.heap ∧ va_D (va_A [(mo, .inr (2, [.int tw, .ref bL, .ref bT, .int (nI n), .ref bK, .ref bF, .ref bS, .ref bB, .int co, .int pl, .int st, .int jo, .int cn, .int ii, .int fi, .int fe, .ref bU])), (bK, .inl (cI, 60, .inl K)), (bF, .inl (cI, 60, .inl F)), (bS, .inl (cI, 60, .inl S)), (bB, .inl (cZ, 60, .inl B)), (bL, .inl (cI, 4, .inl L)), (bT, .inl (cI, 4, .inl T)), (bU, .inl (cI, 6, .inl U))] sz) [(mo, .inr (2, [.int tw, .ref bL, .ref bT, .int (nI n), .ref bK, .ref bF, .ref bS, .ref bB, .int co, .int pl, .int st, .int jo, .int cn, .int ii, .int fi, .int fe, .ref bU])), (bK, .inl (cI, 60, .inl K)), (bF, .inl (cI, 60, .inl F)), (bS, .inl (cI, 60, .inl S)), (bB, .inl (cZ, 60, .inl B)), (bL, .inl (cI, 4, .inl L)), (bT, .inl (cI, 4, .inl T)), (bU, .inl (cI, 6, .inl u))]) (va_A [(mo, .inr (2, [.int tw, .ref bL, .ref bT, .int (nI n), .ref bK, .ref bF, .ref bS, .ref bB, .int co, .int pl, .int st, .int jo, .int cn, .int ii, .int fi, .int fe, .ref bU])), (bK, .inl (cI, 60, .inl K)), (bF, .inl (cI, 60, .inl F)), (bS, .inl (cI, 60, .inl S)), (bB, .inl (cZ, 60, .inl B)), (bL, .inl (cI, 4, .inl L)), (bT, .inl (cI, 4, .inl T)), (bU, .inl (cI, 6, .inl U))] sz)) 0 0 (va_A [(mo, .inr (2, [.int tw, .ref bL, .ref bT, .int (nI n), .ref bK, .ref bF, .ref bS, .ref bB, .int co, .int pl, .int st, .int jo, .int cn, .int ii, .int fi, .int fe, .ref bU])), (bK, .inl (cI, 60, .inl K)), (bF, .inl (cI, 60, .inl F)), (bS, .inl (cI, 60, .inl S)), (bB, .inl (cZ, 60, .inl B)), (bL, .inl (cI, 4, .inl L)), (bT, .inl (cI, 4, .inl T)), (bU, .inl (cI, 6, .inl U))] sz) := by
  refine Met.ofW (cc := cX2_more) (maxL := 3) (ret := none) (by decide) rfl ?_
  intro p e s m args below meth c s₁ BB hml hv
  obtain ⟨rfl, hsz, hP, hK, hD0⟩ := hv
  have hx := BB.exec
  have hb := BB.bytes
  have hr := BB.returns
  have hts := atoms_spec (ws := wsX2_more) BB.pre
  have hown : s.vm.findClass RX2 = some m.cls := findClass_of_methodNamed BB.named
  have hlocks := BB.notSynchronized
  subst hsz
  have hD := hD0.self (sz := s.heap.size)
  generalize hAe : va_A [(mo, .inr (2, [.int tw, .ref bL, .ref bT, .int (nI n), .ref bK, .ref bF, .ref bS, .ref bB, .int co, .int pl, .int st, .int jo, .int cn, .int ii, .int fi, .int fe, .ref bU])), (bK, .inl (cI, 60, .inl K)), (bF, .inl (cI, 60, .inl F)), (bS, .inl (cI, 60, .inl S)), (bB, .inl (cZ, 60, .inl B)), (bL, .inl (cI, 4, .inl L)), (bT, .inl (cI, 4, .inl T)), (bU, .inl (cI, 6, .inl U))] s.heap.size = A at hD ⊢
  have hA : ∀ q : Nat, s.heap.size ≤ q → A q := fun q h => by rw [← hAe]; exact Or.inr h
  have hS : va_S A s.heap s.heap [] := va_S.rf
  have hP : va_P (dC, dI) vwCl [(mo, .inr (2, [.int tw, .ref bL, .ref bT, .int (nI n), .ref bK, .ref bF, .ref bS, .ref bB, .int co, .int pl, .int st, .int jo, .int cn, .int ii, .int fi, .int fe, .ref bU])), (bK, .inl (cI, 60, .inl K)), (bF, .inl (cI, 60, .inl F)), (bS, .inl (cI, 60, .inl S)), (bB, .inl (cZ, 60, .inl B)), (bL, .inl (cI, 4, .inl L)), (bT, .inl (cI, 4, .inl T)), (bU, .inl (cI, 6, .inl U))] s.heap := hP
  have hl := lv_entry ([.ref mo, .int pa, .int b]) (n := 3) (Nat.le_of_ble_eq_true rfl)
  rw [lg_entry_eq]
  generalize (lg_sl ([.ref mo, .int pa, .int b]) ++ List.replicate (3 - (lg_sl ([.ref mo, .int pa, .int b])).length) Slot.unset).toArray = ls at hl ⊢
  have hl : lv_has ls 3 [(0, .ref mo), (1, .int pa), (2, .int b)] := hl
  have k0 := hts (.fieldLink RX2 29 "KnifeLedgerModel" "trusts" "[I") (by decide +kernel)
  have hinX2 : ∀ w ∈ wsX20, w ∈ wsX2_more := by decide +kernel
  have k2 := hts (.methodLink RX2 51 Lib.Math.min.name) (by decide +kernel)
  have k3 := hts (.static Lib.Math.min.name) (by decide +kernel)
  have k4 := hts (.initialized "java/lang/Math") (by decide +kernel)
  have k5 := hts (.code Lib.Math.min.name Lib.Math.min.code 2 (some .int)) (by decide +kernel)
  have k6 := hts (.methodLink RX2 57 Lib.Math.max.name) (by decide +kernel)
  have k7 := hts (.static Lib.Math.max.name) (by decide +kernel)
  have k8 := hts (.code Lib.Math.max.name Lib.Math.max.code 2 (some .int)) (by decide +kernel)
  refine lv_aload_n hx hb dX2_more_0 rfl (lv_at hl 0 rfl) ?_
  refine va_get (D := (dC, dI)) (ci := 2) (v := .ref bU) (C := RX2) (T := TX2) (N := 17) hx hb hts hinX2 hown hK hP 0 rfl rfl 16 (by decide) k0 (fun _ h9 => h9) rfl dX2_more_1 ?_
  refine lv_iload_n hx hb dX2_more_4 rfl (lv_at hl 1 rfl) ?_
  refine lv_iconst (v := 0) hx hb dX2_more_5 (by decide) ?_
  refine lv_bipush (v := 100) hx hb dX2_more_6 (by decide) ?_
  refine lv_aload_n hx hb dX2_more_8 rfl (lv_at hl 0 rfl) ?_
  refine va_get (D := (dC, dI)) (ci := 2) (v := .ref bU) (C := RX2) (T := TX2) (N := 17) hx hb hts hinX2 hown hK hP 0 rfl rfl 16 (by decide) k0 (fun _ h9 => h9) rfl dX2_more_9 ?_
  refine lv_iload_n hx hb dX2_more_12 rfl (lv_at hl 1 rfl) ?_
  refine va_iald hx hb hK hP 7 0 rfl rfl (by assumption) dX2_more_13 ?_
  refine lv_iload_n hx hb dX2_more_14 rfl (lv_at hl 2 rfl) ?_
  refine lv_iadd hx hb dX2_more_15 ?_
  refine va_mmin hx hb (hml.trans hl.1.symm) hown k2 k3 k4 k5 (Nat.le_of_ble_eq_true rfl) (Nat.le_of_ble_eq_true rfl) (Nat.le_of_ble_eq_true rfl) (Nat.le_of_ble_eq_true rfl) dX2_more_16 ?_
  refine lv_topi (fun f_1 ef_1 => ?_)
  have ef_1 : f_1 = kmin 100 ((U pa.toNatClampNeg) + b) := ef_1
  refine va_mmax hx hb (hml.trans hl.1.symm) hown k6 k7 k4 k8 (Nat.le_of_ble_eq_true rfl) (Nat.le_of_ble_eq_true rfl) (Nat.le_of_ble_eq_true rfl) (Nat.le_of_ble_eq_true rfl) dX2_more_19 ?_
  refine lv_topi (fun f_2 ef_2 => ?_)
  have ef_2 : f_2 = kmax 0 f_1 := ef_2
  refine va_iast hx hb hK hP hD hS 7 0 rfl rfl (by assumption) dX2_more_22 (fun H_3 locs hP hD hS => ?_)
  have hP : va_P (dC, dI) vwCl [(mo, .inr (2, [.int tw, .ref bL, .ref bT, .int (nI n), .ref bK, .ref bF, .ref bS, .ref bB, .int co, .int pl, .int st, .int jo, .int cn, .int ii, .int fi, .int fe, .ref bU])), (bK, .inl (cI, 60, .inl K)), (bF, .inl (cI, 60, .inl F)), (bS, .inl (cI, 60, .inl S)), (bB, .inl (cZ, 60, .inl B)), (bL, .inl (cI, 4, .inl L)), (bT, .inl (cI, 4, .inl T)), (bU, .inl (cI, 6, .inl (upd U (pa.toNatClampNeg) f_2)))] H_3 := hP
  have hD : va_D A [(mo, .inr (2, [.int tw, .ref bL, .ref bT, .int (nI n), .ref bK, .ref bF, .ref bS, .ref bB, .int co, .int pl, .int st, .int jo, .int cn, .int ii, .int fi, .int fe, .ref bU])), (bK, .inl (cI, 60, .inl K)), (bF, .inl (cI, 60, .inl F)), (bS, .inl (cI, 60, .inl S)), (bB, .inl (cZ, 60, .inl B)), (bL, .inl (cI, 4, .inl L)), (bT, .inl (cI, 4, .inl T)), (bU, .inl (cI, 6, .inl (upd U (pa.toNatClampNeg) f_2)))] := hD
  have hpost : (upd U (pa.toNatClampNeg) f_2) = mAdd U pa b := by
    first | rfl | (simp only [mAdd, ef_1, ef_2]; done) | (simp only [mAdd, ef_1, ef_2]; rfl)
  have hP9 := hP.sub (ws' := [(mo, .inr (2, [.int tw, .ref bL, .ref bT, .int (nI n), .ref bK, .ref bF, .ref bS, .ref bB, .int co, .int pl, .int st, .int jo, .int cn, .int ii, .int fi, .int fe, .ref bU])), (bK, .inl (cI, 60, .inl K)), (bF, .inl (cI, 60, .inl F)), (bS, .inl (cI, 60, .inl S)), (bB, .inl (cZ, 60, .inl B)), (bL, .inl (cI, 4, .inl L)), (bT, .inl (cI, 4, .inl T)), (bU, .inl (cI, 6, .inl (upd U (pa.toNatClampNeg) f_2)))]) [0, 1, 2, 3, 4, 5, 6, 7] rfl
  have hD9 := hD.sub (ws' := [(mo, .inr (2, [.int tw, .ref bL, .ref bT, .int (nI n), .ref bK, .ref bF, .ref bS, .ref bB, .int co, .int pl, .int st, .int jo, .int cn, .int ii, .int fi, .int fe, .ref bU])), (bK, .inl (cI, 60, .inl K)), (bF, .inl (cI, 60, .inl F)), (bS, .inl (cI, 60, .inl S)), (bB, .inl (cZ, 60, .inl B)), (bL, .inl (cI, 4, .inl L)), (bT, .inl (cI, 4, .inl T)), (bU, .inl (cI, 6, .inl (upd U (pa.toNatClampNeg) f_2)))]) [0, 1, 2, 3, 4, 5, 6, 7] (by decide) rfl
  exact W.vret hx hb hr (fun t ht hW => ⟨⟨(upd U (pa.toNatClampNeg) f_2), rfl, hpost, by rw [ht]; exact hP9, hD9⟩, hS.F ht⟩) hS.2.2 dX2_more_23

set_option maxHeartbeats 4000000 in
set_option maxRecDepth 100000 in
theorem c_X2_canToss (l : Launch) (dC : Nat → ClassId) (dI : Nat → Nat → Nat) (cI cZ : ClassId) (mo bK bF bS bB bL bT bU : Nat) (sz : Nat) (L : N2I) (T : N2I) (K : N2I) (F : N2I) (S : N2I) (B : N2I) (U : N2I) (n : Nat) (tw : Int32) (co : Int32) (pl : Int32) (st : Int32) (jo : Int32) (cn : Int32) (ii : Int32) (fi : Int32) (fe : Int32) (pa : Int32) (hp : vp_in pa 6) (hst : vp_in st 4) : Met l yX2_canToss wsX2_canToss ({ frames := 0, cells := 0, slots := 0, locals := 0 } : Room) (va_Pc [.ref mo, .int pa] (pc_ (dC, dI) [(cI, .int), (cZ, .boolean)] [(mo, .inr (2, [.int tw, .ref bL, .ref bT, .int (nI n), .ref bK, .ref bF, .ref bS, .ref bB, .int co, .int pl, .int st, .int jo, .int cn, .int ii, .int fi, .int fe, .ref bU])), (bK, .inl (cI, 60, .inl K)), (bF, .inl (cI, 60, .inl F)), (bS, .inl (cI, 60, .inl S)), (bB, .inl (cZ, 60, .inl B)), (bL, .inl (cI, 4, .inl L)), (bT, .inl (cI, 4, .inl T)), (bU, .inl (cI, 6, .inl U))] sz)) (va_Qi (fun (r : Int32) (u : Unit) => r = mCan T st jo U pa) (fun (u : Unit) (t : State) => va_P (dC, dI) vwCl [(mo, .inr (2, [.int tw, .ref bL, .ref bT, .int (nI n), .ref bK, .ref bF, .ref bS, .ref bB, .int co, .int pl, .int st, .int jo, .int cn, .int ii, .int fi, .int fe, .ref bU])), (bK, .inl (cI, 60, .inl K)), (bF, .inl (cI, 60, .inl F)), (bS, .inl (cI, 60, .inl S)), (bB, .inl (cZ, 60, .inl B)), (bL, .inl (cI, 4, .inl L)), (bT, .inl (cI, 4, .inl T)), (bU, .inl (cI, 6, .inl U))] t.heap ∧ va_D (va_A [(mo, .inr (2, [.int tw, .ref bL, .ref bT, .int (nI n), .ref bK, .ref bF, .ref bS, .ref bB, .int co, .int pl, .int st, .int jo, .int cn, .int ii, .int fi, .int fe, .ref bU])), (bK, .inl (cI, 60, .inl K)), (bF, .inl (cI, 60, .inl F)), (bS, .inl (cI, 60, .inl S)), (bB, .inl (cZ, 60, .inl B)), (bL, .inl (cI, 4, .inl L)), (bT, .inl (cI, 4, .inl T)), (bU, .inl (cI, 6, .inl U))] sz) [(mo, .inr (2, [.int tw, .ref bL, .ref bT, .int (nI n), .ref bK, .ref bF, .ref bS, .ref bB, .int co, .int pl, .int st, .int jo, .int cn, .int ii, .int fi, .int fe, .ref bU])), (bK, .inl (cI, 60, .inl K)), (bF, .inl (cI, 60, .inl F)), (bS, .inl (cI, 60, .inl S)), (bB, .inl (cZ, 60, .inl B)), (bL, .inl (cI, 4, .inl L)), (bT, .inl (cI, 4, .inl T)), (bU, .inl (cI, 6, .inl U))]) (va_A [(mo, .inr (2, [.int tw, .ref bL, .ref bT, .int (nI n), .ref bK, .ref bF, .ref bS, .ref bB, .int co, .int pl, .int st, .int jo, .int cn, .int ii, .int fi, .int fe, .ref bU])), (bK, .inl (cI, 60, .inl K)), (bF, .inl (cI, 60, .inl F)), (bS, .inl (cI, 60, .inl S)), (bB, .inl (cZ, 60, .inl B)), (bL, .inl (cI, 4, .inl L)), (bT, .inl (cI, 4, .inl T)), (bU, .inl (cI, 6, .inl U))] sz)) 0 0 (va_A [(mo, .inr (2, [.int tw, .ref bL, .ref bT, .int (nI n), .ref bK, .ref bF, .ref bS, .ref bB, .int co, .int pl, .int st, .int jo, .int cn, .int ii, .int fi, .int fe, .ref bU])), (bK, .inl (cI, 60, .inl K)), (bF, .inl (cI, 60, .inl F)), (bS, .inl (cI, 60, .inl S)), (bB, .inl (cZ, 60, .inl B)), (bL, .inl (cI, 4, .inl L)), (bT, .inl (cI, 4, .inl T)), (bU, .inl (cI, 6, .inl U))] sz) := by
  refine Met.ofW (cc := cX2_canToss) (maxL := 2) (ret := (some .boolean)) (by decide) rfl ?_
  intro p e s m args below meth c s₁ BB hml hv
  obtain ⟨rfl, hsz, hP, hK, hD0⟩ := hv
  have hx := BB.exec
  have hb := BB.bytes
  have hr := BB.returns
  have hts := atoms_spec (ws := wsX2_canToss) BB.pre
  have hown : s.vm.findClass RX2 = some m.cls := findClass_of_methodNamed BB.named
  have hlocks := BB.notSynchronized
  subst hsz
  have hD := hD0.self (sz := s.heap.size)
  generalize hAe : va_A [(mo, .inr (2, [.int tw, .ref bL, .ref bT, .int (nI n), .ref bK, .ref bF, .ref bS, .ref bB, .int co, .int pl, .int st, .int jo, .int cn, .int ii, .int fi, .int fe, .ref bU])), (bK, .inl (cI, 60, .inl K)), (bF, .inl (cI, 60, .inl F)), (bS, .inl (cI, 60, .inl S)), (bB, .inl (cZ, 60, .inl B)), (bL, .inl (cI, 4, .inl L)), (bT, .inl (cI, 4, .inl T)), (bU, .inl (cI, 6, .inl U))] s.heap.size = A at hD ⊢
  have hA : ∀ q : Nat, s.heap.size ≤ q → A q := fun q h => by rw [← hAe]; exact Or.inr h
  have hS : va_S A s.heap s.heap [] := va_S.rf
  have hP : va_P (dC, dI) vwCl [(mo, .inr (2, [.int tw, .ref bL, .ref bT, .int (nI n), .ref bK, .ref bF, .ref bS, .ref bB, .int co, .int pl, .int st, .int jo, .int cn, .int ii, .int fi, .int fe, .ref bU])), (bK, .inl (cI, 60, .inl K)), (bF, .inl (cI, 60, .inl F)), (bS, .inl (cI, 60, .inl S)), (bB, .inl (cZ, 60, .inl B)), (bL, .inl (cI, 4, .inl L)), (bT, .inl (cI, 4, .inl T)), (bU, .inl (cI, 6, .inl U))] s.heap := hP
  have hl := lv_entry ([.ref mo, .int pa]) (n := 2) (Nat.le_of_ble_eq_true rfl)
  rw [lg_entry_eq]
  generalize (lg_sl ([.ref mo, .int pa]) ++ List.replicate (2 - (lg_sl ([.ref mo, .int pa])).length) Slot.unset).toArray = ls at hl ⊢
  have hl : lv_has ls 2 [(0, .ref mo), (1, .int pa)] := hl
  have k0 := hts (.fieldLink RX2 60 "KnifeLedgerModel" "joined" "I") (by decide +kernel)
  have hinX2 : ∀ w ∈ wsX20, w ∈ wsX2_canToss := by decide +kernel
  have k2 := hts (.fieldLink RX2 29 "KnifeLedgerModel" "trusts" "[I") (by decide +kernel)
  have k3 := hts (.fieldLink RX2 13 "KnifeLedgerModel" "tremble" "[I") (by decide +kernel)
  have k4 := hts (.fieldLink RX2 63 "KnifeLedgerModel" "stage" "I") (by decide +kernel)
  refine lv_iload_n hx hb dX2_canToss_0 rfl (lv_at hl 1 rfl) ?_
  refine lv_aload_n hx hb dX2_canToss_1 rfl (lv_at hl 0 rfl) ?_
  refine va_get (D := (dC, dI)) (ci := 2) (v := .int jo) (C := RX2) (T := TX2) (N := 17) hx hb hts hinX2 hown hK hP 0 rfl rfl 11 (by decide) k0 (fun _ h9 => h9) rfl dX2_canToss_2 ?_
  refine lv_icmp_ge (tgt := 33) hx hb dX2_canToss_5 (by decide) (fun c_5 => ?_) (fun c_5 => ?_)
  · -- 5
    refine lv_iconst (v := 0) hx hb dX2_canToss_33 (by decide) ?_
    have hpost : (0 : Int32) = mCan T st jo U pa := by
      unfold mCan mJd; rw [if_pos c_5, if_pos rfl]
    have hP9 := hP.sub (ws' := [(mo, .inr (2, [.int tw, .ref bL, .ref bT, .int (nI n), .ref bK, .ref bF, .ref bS, .ref bB, .int co, .int pl, .int st, .int jo, .int cn, .int ii, .int fi, .int fe, .ref bU])), (bK, .inl (cI, 60, .inl K)), (bF, .inl (cI, 60, .inl F)), (bS, .inl (cI, 60, .inl S)), (bB, .inl (cZ, 60, .inl B)), (bL, .inl (cI, 4, .inl L)), (bT, .inl (cI, 4, .inl T)), (bU, .inl (cI, 6, .inl U))]) [0, 1, 2, 3, 4, 5, 6, 7] rfl
    have hD9 := hD.sub (ws' := [(mo, .inr (2, [.int tw, .ref bL, .ref bT, .int (nI n), .ref bK, .ref bF, .ref bS, .ref bB, .int co, .int pl, .int st, .int jo, .int cn, .int ii, .int fi, .int fe, .ref bU])), (bK, .inl (cI, 60, .inl K)), (bF, .inl (cI, 60, .inl F)), (bS, .inl (cI, 60, .inl S)), (bB, .inl (cZ, 60, .inl B)), (bL, .inl (cI, 4, .inl L)), (bT, .inl (cI, 4, .inl T)), (bU, .inl (cI, 6, .inl U))]) [0, 1, 2, 3, 4, 5, 6, 7] (by decide) rfl
    exact W.zret (v := 0) (ty := .boolean) hx hb hr (rfl) (fun t ht hW => ⟨⟨0, (), rfl, hpost, by rw [ht]; exact hP9, hD9⟩, hS.F ht⟩) hS.2.2 dX2_canToss_34
  · -- 5
    refine lv_aload_n hx hb dX2_canToss_8 rfl (lv_at hl 0 rfl) ?_
    refine va_get (D := (dC, dI)) (ci := 2) (v := .ref bU) (C := RX2) (T := TX2) (N := 17) hx hb hts hinX2 hown hK hP 0 rfl rfl 16 (by decide) k2 (fun _ h9 => h9) rfl dX2_canToss_9 ?_
    refine lv_iload_n hx hb dX2_canToss_12 rfl (lv_at hl 1 rfl) ?_
    refine va_iald hx hb hK hP 7 0 rfl rfl (by assumption) dX2_canToss_13 ?_
    refine lv_bipush (v := 20) hx hb dX2_canToss_14 (by decide) ?_
    refine lv_aload_n hx hb dX2_canToss_16 rfl (lv_at hl 0 rfl) ?_
    refine va_get (D := (dC, dI)) (ci := 2) (v := .ref bT) (C := RX2) (T := TX2) (N := 17) hx hb hts hinX2 hown hK hP 0 rfl rfl 2 (by decide) k3 (fun _ h9 => h9) rfl dX2_canToss_17 ?_
    refine lv_aload_n hx hb dX2_canToss_20 rfl (lv_at hl 0 rfl) ?_
    refine va_get (D := (dC, dI)) (ci := 2) (v := .int st) (C := RX2) (T := TX2) (N := 17) hx hb hts hinX2 hown hK hP 0 rfl rfl 10 (by decide) k4 (fun _ h9 => h9) rfl dX2_canToss_21 ?_
    refine va_iald hx hb hK hP 6 0 rfl rfl (by assumption) dX2_canToss_24 ?_
    refine lv_iadd hx hb dX2_canToss_25 ?_
    refine lv_icmp_lt (tgt := 33) hx hb dX2_canToss_26 (by decide) (fun c_26 => ?_) (fun c_26 => ?_)
    · -- 26
      refine lv_iconst (v := 0) hx hb dX2_canToss_33 (by decide) ?_
      have hpost : (0 : Int32) = mCan T st jo U pa := by
        unfold mCan mJd; rw [if_neg c_5, if_neg one_ne, if_pos c_26]
      have hP9 := hP.sub (ws' := [(mo, .inr (2, [.int tw, .ref bL, .ref bT, .int (nI n), .ref bK, .ref bF, .ref bS, .ref bB, .int co, .int pl, .int st, .int jo, .int cn, .int ii, .int fi, .int fe, .ref bU])), (bK, .inl (cI, 60, .inl K)), (bF, .inl (cI, 60, .inl F)), (bS, .inl (cI, 60, .inl S)), (bB, .inl (cZ, 60, .inl B)), (bL, .inl (cI, 4, .inl L)), (bT, .inl (cI, 4, .inl T)), (bU, .inl (cI, 6, .inl U))]) [0, 1, 2, 3, 4, 5, 6, 7] rfl
      have hD9 := hD.sub (ws' := [(mo, .inr (2, [.int tw, .ref bL, .ref bT, .int (nI n), .ref bK, .ref bF, .ref bS, .ref bB, .int co, .int pl, .int st, .int jo, .int cn, .int ii, .int fi, .int fe, .ref bU])), (bK, .inl (cI, 60, .inl K)), (bF, .inl (cI, 60, .inl F)), (bS, .inl (cI, 60, .inl S)), (bB, .inl (cZ, 60, .inl B)), (bL, .inl (cI, 4, .inl L)), (bT, .inl (cI, 4, .inl T)), (bU, .inl (cI, 6, .inl U))]) [0, 1, 2, 3, 4, 5, 6, 7] (by decide) rfl
      exact W.zret (v := 0) (ty := .boolean) hx hb hr (rfl) (fun t ht hW => ⟨⟨0, (), rfl, hpost, by rw [ht]; exact hP9, hD9⟩, hS.F ht⟩) hS.2.2 dX2_canToss_34
    · -- 26
      refine lv_iconst (v := 1) hx hb dX2_canToss_29 (by decide) ?_
      refine lv_goto (tgt := 34) hx hb dX2_canToss_30 (by decide) ?_
      have hpost : (1 : Int32) = mCan T st jo U pa := by
        unfold mCan mJd; rw [if_neg c_5, if_neg one_ne, if_neg c_26]
      have hP9 := hP.sub (ws' := [(mo, .inr (2, [.int tw, .ref bL, .ref bT, .int (nI n), .ref bK, .ref bF, .ref bS, .ref bB, .int co, .int pl, .int st, .int jo, .int cn, .int ii, .int fi, .int fe, .ref bU])), (bK, .inl (cI, 60, .inl K)), (bF, .inl (cI, 60, .inl F)), (bS, .inl (cI, 60, .inl S)), (bB, .inl (cZ, 60, .inl B)), (bL, .inl (cI, 4, .inl L)), (bT, .inl (cI, 4, .inl T)), (bU, .inl (cI, 6, .inl U))]) [0, 1, 2, 3, 4, 5, 6, 7] rfl
      have hD9 := hD.sub (ws' := [(mo, .inr (2, [.int tw, .ref bL, .ref bT, .int (nI n), .ref bK, .ref bF, .ref bS, .ref bB, .int co, .int pl, .int st, .int jo, .int cn, .int ii, .int fi, .int fe, .ref bU])), (bK, .inl (cI, 60, .inl K)), (bF, .inl (cI, 60, .inl F)), (bS, .inl (cI, 60, .inl S)), (bB, .inl (cZ, 60, .inl B)), (bL, .inl (cI, 4, .inl L)), (bT, .inl (cI, 4, .inl T)), (bU, .inl (cI, 6, .inl U))]) [0, 1, 2, 3, 4, 5, 6, 7] (by decide) rfl
      exact W.zret (v := 1) (ty := .boolean) hx hb hr (rfl) (fun t ht hW => ⟨⟨1, (), rfl, hpost, by rw [ht]; exact hP9, hD9⟩, hS.F ht⟩) hS.2.2 dX2_canToss_34

set_option maxHeartbeats 4000000 in
set_option maxRecDepth 100000 in
theorem c_X2_brings (l : Launch) (dC : Nat → ClassId) (dI : Nat → Nat → Nat) (cI cZ : ClassId) (mo bK bF bS bB bL bT bU : Nat) (sz : Nat) (L : N2I) (T : N2I) (K : N2I) (F : N2I) (S : N2I) (B : N2I) (U : N2I) (n : Nat) (tw : Int32) (co : Int32) (pl : Int32) (st : Int32) (jo : Int32) (cn : Int32) (ii : Int32) (fi : Int32) (fe : Int32) (th : Int32) (hst : vp_in st 4) : Met l yX2_brings wsX2_brings ({ frames := 0, cells := 0, slots := 0, locals := 0 } : Room) (va_Pc [.ref mo, .int th] (pc_ (dC, dI) [(cI, .int), (cZ, .boolean)] [(mo, .inr (2, [.int tw, .ref bL, .ref bT, .int (nI n), .ref bK, .ref bF, .ref bS, .ref bB, .int co, .int pl, .int st, .int jo, .int cn, .int ii, .int fi, .int fe, .ref bU])), (bK, .inl (cI, 60, .inl K)), (bF, .inl (cI, 60, .inl F)), (bS, .inl (cI, 60, .inl S)), (bB, .inl (cZ, 60, .inl B)), (bL, .inl (cI, 4, .inl L)), (bT, .inl (cI, 4, .inl T)), (bU, .inl (cI, 6, .inl U))] sz)) (va_Qi (fun (r : Int32) (u : Unit) => r = mTak L st th) (fun (u : Unit) (t : State) => va_P (dC, dI) vwCl [(mo, .inr (2, [.int tw, .ref bL, .ref bT, .int (nI n), .ref bK, .ref bF, .ref bS, .ref bB, .int co, .int pl, .int st, .int jo, .int cn, .int ii, .int fi, .int fe, .ref bU])), (bK, .inl (cI, 60, .inl K)), (bF, .inl (cI, 60, .inl F)), (bS, .inl (cI, 60, .inl S)), (bB, .inl (cZ, 60, .inl B)), (bL, .inl (cI, 4, .inl L)), (bT, .inl (cI, 4, .inl T)), (bU, .inl (cI, 6, .inl U))] t.heap ∧ va_D (va_A [(mo, .inr (2, [.int tw, .ref bL, .ref bT, .int (nI n), .ref bK, .ref bF, .ref bS, .ref bB, .int co, .int pl, .int st, .int jo, .int cn, .int ii, .int fi, .int fe, .ref bU])), (bK, .inl (cI, 60, .inl K)), (bF, .inl (cI, 60, .inl F)), (bS, .inl (cI, 60, .inl S)), (bB, .inl (cZ, 60, .inl B)), (bL, .inl (cI, 4, .inl L)), (bT, .inl (cI, 4, .inl T)), (bU, .inl (cI, 6, .inl U))] sz) [(mo, .inr (2, [.int tw, .ref bL, .ref bT, .int (nI n), .ref bK, .ref bF, .ref bS, .ref bB, .int co, .int pl, .int st, .int jo, .int cn, .int ii, .int fi, .int fe, .ref bU])), (bK, .inl (cI, 60, .inl K)), (bF, .inl (cI, 60, .inl F)), (bS, .inl (cI, 60, .inl S)), (bB, .inl (cZ, 60, .inl B)), (bL, .inl (cI, 4, .inl L)), (bT, .inl (cI, 4, .inl T)), (bU, .inl (cI, 6, .inl U))]) (va_A [(mo, .inr (2, [.int tw, .ref bL, .ref bT, .int (nI n), .ref bK, .ref bF, .ref bS, .ref bB, .int co, .int pl, .int st, .int jo, .int cn, .int ii, .int fi, .int fe, .ref bU])), (bK, .inl (cI, 60, .inl K)), (bF, .inl (cI, 60, .inl F)), (bS, .inl (cI, 60, .inl S)), (bB, .inl (cZ, 60, .inl B)), (bL, .inl (cI, 4, .inl L)), (bT, .inl (cI, 4, .inl T)), (bU, .inl (cI, 6, .inl U))] sz)) 0 0 (va_A [(mo, .inr (2, [.int tw, .ref bL, .ref bT, .int (nI n), .ref bK, .ref bF, .ref bS, .ref bB, .int co, .int pl, .int st, .int jo, .int cn, .int ii, .int fi, .int fe, .ref bU])), (bK, .inl (cI, 60, .inl K)), (bF, .inl (cI, 60, .inl F)), (bS, .inl (cI, 60, .inl S)), (bB, .inl (cZ, 60, .inl B)), (bL, .inl (cI, 4, .inl L)), (bT, .inl (cI, 4, .inl T)), (bU, .inl (cI, 6, .inl U))] sz) := by
  refine Met.ofW (cc := cX2_brings) (maxL := 2) (ret := (some .int)) (by decide) rfl ?_
  intro p e s m args below meth c s₁ BB hml hv
  obtain ⟨rfl, hsz, hP, hK, hD0⟩ := hv
  have hx := BB.exec
  have hb := BB.bytes
  have hr := BB.returns
  have hts := atoms_spec (ws := wsX2_brings) BB.pre
  have hown : s.vm.findClass RX2 = some m.cls := findClass_of_methodNamed BB.named
  have hlocks := BB.notSynchronized
  subst hsz
  have hD := hD0.self (sz := s.heap.size)
  generalize hAe : va_A [(mo, .inr (2, [.int tw, .ref bL, .ref bT, .int (nI n), .ref bK, .ref bF, .ref bS, .ref bB, .int co, .int pl, .int st, .int jo, .int cn, .int ii, .int fi, .int fe, .ref bU])), (bK, .inl (cI, 60, .inl K)), (bF, .inl (cI, 60, .inl F)), (bS, .inl (cI, 60, .inl S)), (bB, .inl (cZ, 60, .inl B)), (bL, .inl (cI, 4, .inl L)), (bT, .inl (cI, 4, .inl T)), (bU, .inl (cI, 6, .inl U))] s.heap.size = A at hD ⊢
  have hA : ∀ q : Nat, s.heap.size ≤ q → A q := fun q h => by rw [← hAe]; exact Or.inr h
  have hS : va_S A s.heap s.heap [] := va_S.rf
  have hP : va_P (dC, dI) vwCl [(mo, .inr (2, [.int tw, .ref bL, .ref bT, .int (nI n), .ref bK, .ref bF, .ref bS, .ref bB, .int co, .int pl, .int st, .int jo, .int cn, .int ii, .int fi, .int fe, .ref bU])), (bK, .inl (cI, 60, .inl K)), (bF, .inl (cI, 60, .inl F)), (bS, .inl (cI, 60, .inl S)), (bB, .inl (cZ, 60, .inl B)), (bL, .inl (cI, 4, .inl L)), (bT, .inl (cI, 4, .inl T)), (bU, .inl (cI, 6, .inl U))] s.heap := hP
  have hl := lv_entry ([.ref mo, .int th]) (n := 2) (Nat.le_of_ble_eq_true rfl)
  rw [lg_entry_eq]
  generalize (lg_sl ([.ref mo, .int th]) ++ List.replicate (2 - (lg_sl ([.ref mo, .int th])).length) Slot.unset).toArray = ls at hl ⊢
  have hl : lv_has ls 2 [(0, .ref mo), (1, .int th)] := hl
  have k0 := hts (.fieldLink RX2 9 "KnifeLedgerModel" "light" "[I") (by decide +kernel)
  have hinX2 : ∀ w ∈ wsX20, w ∈ wsX2_brings := by decide +kernel
  have k2 := hts (.fieldLink RX2 63 "KnifeLedgerModel" "stage" "I") (by decide +kernel)
  refine lv_iload_n hx hb dX2_brings_0 rfl (lv_at hl 1 rfl) ?_
  refine lv_if_ne (tgt := 8) hx hb dX2_brings_1 (by decide) (fun c_1 => ?_) (fun c_1 => ?_)
  · -- 1
    refine lv_iload_n hx hb dX2_brings_8 rfl (lv_at hl 1 rfl) ?_
    refine lv_iconst (v := 4) hx hb dX2_brings_9 (by decide) ?_
    refine lv_icmp_ge (tgt := 28) hx hb dX2_brings_10 (by decide) (fun c_10 => ?_) (fun c_10 => ?_)
    · -- 10
      refine lv_iload_n hx hb dX2_brings_28 rfl (lv_at hl 1 rfl) ?_
      refine lv_bipush (v := 10) hx hb dX2_brings_29 (by decide) ?_
      refine lv_icmp_ge (tgt := 50) hx hb dX2_brings_31 (by decide) (fun c_31 => ?_) (fun c_31 => ?_)
      · -- 31
        refine lv_iconst (v := 1) hx hb dX2_brings_50 (by decide) ?_
        have hpost : (1 : Int32) = mTak L st th := by
          unfold mTak; rw [if_neg c_1, if_pos (ge4.mp c_10), if_pos (ge10.mp c_31)]
        have hP9 := hP.sub (ws' := [(mo, .inr (2, [.int tw, .ref bL, .ref bT, .int (nI n), .ref bK, .ref bF, .ref bS, .ref bB, .int co, .int pl, .int st, .int jo, .int cn, .int ii, .int fi, .int fe, .ref bU])), (bK, .inl (cI, 60, .inl K)), (bF, .inl (cI, 60, .inl F)), (bS, .inl (cI, 60, .inl S)), (bB, .inl (cZ, 60, .inl B)), (bL, .inl (cI, 4, .inl L)), (bT, .inl (cI, 4, .inl T)), (bU, .inl (cI, 6, .inl U))]) [0, 1, 2, 3, 4, 5, 6, 7] rfl
        have hD9 := hD.sub (ws' := [(mo, .inr (2, [.int tw, .ref bL, .ref bT, .int (nI n), .ref bK, .ref bF, .ref bS, .ref bB, .int co, .int pl, .int st, .int jo, .int cn, .int ii, .int fi, .int fe, .ref bU])), (bK, .inl (cI, 60, .inl K)), (bF, .inl (cI, 60, .inl F)), (bS, .inl (cI, 60, .inl S)), (bB, .inl (cZ, 60, .inl B)), (bL, .inl (cI, 4, .inl L)), (bT, .inl (cI, 4, .inl T)), (bU, .inl (cI, 6, .inl U))]) [0, 1, 2, 3, 4, 5, 6, 7] (by decide) rfl
        exact W.iret (v := 1) hx hb hr (fun t ht hW => ⟨⟨1, (), rfl, hpost, by rw [ht]; exact hP9, hD9⟩, hS.F ht⟩) hS.2.2 dX2_brings_51
      · -- 31
        refine lv_iconst (v := 5) hx hb dX2_brings_34 (by decide) ?_
        refine lv_aload_n hx hb dX2_brings_35 rfl (lv_at hl 0 rfl) ?_
        refine va_get (D := (dC, dI)) (ci := 2) (v := .ref bL) (C := RX2) (T := TX2) (N := 17) hx hb hts hinX2 hown hK hP 0 rfl rfl 1 (by decide) k0 (fun _ h9 => h9) rfl dX2_brings_36 ?_
        refine lv_aload_n hx hb dX2_brings_39 rfl (lv_at hl 0 rfl) ?_
        refine va_get (D := (dC, dI)) (ci := 2) (v := .int st) (C := RX2) (T := TX2) (N := 17) hx hb hts hinX2 hown hK hP 0 rfl rfl 10 (by decide) k2 (fun _ h9 => h9) rfl dX2_brings_40 ?_
        refine va_iald hx hb hK hP 5 0 rfl rfl (by assumption) dX2_brings_43 ?_
        refine lv_iconst (v := 2) hx hb dX2_brings_44 (by decide) ?_
        refine lv_idiv hx hb dX2_brings_45 (by decide) ?_
        refine lv_iadd hx hb dX2_brings_46 ?_
        refine lv_goto (tgt := 51) hx hb dX2_brings_47 (by decide) ?_
        have hpost : (5 + ((L st.toNatClampNeg) / 2)) = mTak L st th := by
          unfold mTak; rw [if_neg c_1, if_pos (ge4.mp c_10), if_neg (fun h => c_31 (ge10.mpr h))]
        have hP9 := hP.sub (ws' := [(mo, .inr (2, [.int tw, .ref bL, .ref bT, .int (nI n), .ref bK, .ref bF, .ref bS, .ref bB, .int co, .int pl, .int st, .int jo, .int cn, .int ii, .int fi, .int fe, .ref bU])), (bK, .inl (cI, 60, .inl K)), (bF, .inl (cI, 60, .inl F)), (bS, .inl (cI, 60, .inl S)), (bB, .inl (cZ, 60, .inl B)), (bL, .inl (cI, 4, .inl L)), (bT, .inl (cI, 4, .inl T)), (bU, .inl (cI, 6, .inl U))]) [0, 1, 2, 3, 4, 5, 6, 7] rfl
        have hD9 := hD.sub (ws' := [(mo, .inr (2, [.int tw, .ref bL, .ref bT, .int (nI n), .ref bK, .ref bF, .ref bS, .ref bB, .int co, .int pl, .int st, .int jo, .int cn, .int ii, .int fi, .int fe, .ref bU])), (bK, .inl (cI, 60, .inl K)), (bF, .inl (cI, 60, .inl F)), (bS, .inl (cI, 60, .inl S)), (bB, .inl (cZ, 60, .inl B)), (bL, .inl (cI, 4, .inl L)), (bT, .inl (cI, 4, .inl T)), (bU, .inl (cI, 6, .inl U))]) [0, 1, 2, 3, 4, 5, 6, 7] (by decide) rfl
        exact W.iret (v := 5 + ((L st.toNatClampNeg) / 2)) hx hb hr (fun t ht hW => ⟨⟨(5 + ((L st.toNatClampNeg) / 2)), (), rfl, hpost, by rw [ht]; exact hP9, hD9⟩, hS.F ht⟩) hS.2.2 dX2_brings_51
    · -- 10
      refine lv_bipush (v := 12) hx hb dX2_brings_13 (by decide) ?_
      refine lv_aload_n hx hb dX2_brings_15 rfl (lv_at hl 0 rfl) ?_
      refine va_get (D := (dC, dI)) (ci := 2) (v := .ref bL) (C := RX2) (T := TX2) (N := 17) hx hb hts hinX2 hown hK hP 0 rfl rfl 1 (by decide) k0 (fun _ h9 => h9) rfl dX2_brings_16 ?_
      refine lv_aload_n hx hb dX2_brings_19 rfl (lv_at hl 0 rfl) ?_
      refine va_get (D := (dC, dI)) (ci := 2) (v := .int st) (C := RX2) (T := TX2) (N := 17) hx hb hts hinX2 hown hK hP 0 rfl rfl 10 (by decide) k2 (fun _ h9 => h9) rfl dX2_brings_20 ?_
      refine va_iald hx hb hK hP 5 0 rfl rfl (by assumption) dX2_brings_23 ?_
      refine lv_iadd hx hb dX2_brings_24 ?_
      refine lv_goto (tgt := 51) hx hb dX2_brings_25 (by decide) ?_
      have hpost : (12 + (L st.toNatClampNeg)) = mTak L st th := by
        unfold mTak; rw [if_neg c_1, if_neg (fun h => c_10 (ge4.mpr h))]
      have hP9 := hP.sub (ws' := [(mo, .inr (2, [.int tw, .ref bL, .ref bT, .int (nI n), .ref bK, .ref bF, .ref bS, .ref bB, .int co, .int pl, .int st, .int jo, .int cn, .int ii, .int fi, .int fe, .ref bU])), (bK, .inl (cI, 60, .inl K)), (bF, .inl (cI, 60, .inl F)), (bS, .inl (cI, 60, .inl S)), (bB, .inl (cZ, 60, .inl B)), (bL, .inl (cI, 4, .inl L)), (bT, .inl (cI, 4, .inl T)), (bU, .inl (cI, 6, .inl U))]) [0, 1, 2, 3, 4, 5, 6, 7] rfl
      have hD9 := hD.sub (ws' := [(mo, .inr (2, [.int tw, .ref bL, .ref bT, .int (nI n), .ref bK, .ref bF, .ref bS, .ref bB, .int co, .int pl, .int st, .int jo, .int cn, .int ii, .int fi, .int fe, .ref bU])), (bK, .inl (cI, 60, .inl K)), (bF, .inl (cI, 60, .inl F)), (bS, .inl (cI, 60, .inl S)), (bB, .inl (cZ, 60, .inl B)), (bL, .inl (cI, 4, .inl L)), (bT, .inl (cI, 4, .inl T)), (bU, .inl (cI, 6, .inl U))]) [0, 1, 2, 3, 4, 5, 6, 7] (by decide) rfl
      exact W.iret (v := 12 + (L st.toNatClampNeg)) hx hb hr (fun t ht hW => ⟨⟨(12 + (L st.toNatClampNeg)), (), rfl, hpost, by rw [ht]; exact hP9, hD9⟩, hS.F ht⟩) hS.2.2 dX2_brings_51
  · -- 1
    refine lv_iconst (v := 0) hx hb dX2_brings_4 (by decide) ?_
    refine lv_goto (tgt := 51) hx hb dX2_brings_5 (by decide) ?_
    have hpost : (0 : Int32) = mTak L st th := by
      unfold mTak; rw [if_pos c_1]
    have hP9 := hP.sub (ws' := [(mo, .inr (2, [.int tw, .ref bL, .ref bT, .int (nI n), .ref bK, .ref bF, .ref bS, .ref bB, .int co, .int pl, .int st, .int jo, .int cn, .int ii, .int fi, .int fe, .ref bU])), (bK, .inl (cI, 60, .inl K)), (bF, .inl (cI, 60, .inl F)), (bS, .inl (cI, 60, .inl S)), (bB, .inl (cZ, 60, .inl B)), (bL, .inl (cI, 4, .inl L)), (bT, .inl (cI, 4, .inl T)), (bU, .inl (cI, 6, .inl U))]) [0, 1, 2, 3, 4, 5, 6, 7] rfl
    have hD9 := hD.sub (ws' := [(mo, .inr (2, [.int tw, .ref bL, .ref bT, .int (nI n), .ref bK, .ref bF, .ref bS, .ref bB, .int co, .int pl, .int st, .int jo, .int cn, .int ii, .int fi, .int fe, .ref bU])), (bK, .inl (cI, 60, .inl K)), (bF, .inl (cI, 60, .inl F)), (bS, .inl (cI, 60, .inl S)), (bB, .inl (cZ, 60, .inl B)), (bL, .inl (cI, 4, .inl L)), (bT, .inl (cI, 4, .inl T)), (bU, .inl (cI, 6, .inl U))]) [0, 1, 2, 3, 4, 5, 6, 7] (by decide) rfl
    exact W.iret (v := 0) hx hb hr (fun t ht hW => ⟨⟨0, (), rfl, hpost, by rw [ht]; exact hP9, hD9⟩, hS.F ht⟩) hS.2.2 dX2_brings_51

set_option maxHeartbeats 4000000 in
set_option maxRecDepth 100000 in
theorem c_X2_holds (l : Launch) (dC : Nat → ClassId) (dI : Nat → Nat → Nat) (cI cZ : ClassId) (mo bK bF bS bB bL bT bU : Nat) (sz : Nat) (L : N2I) (T : N2I) (K : N2I) (F : N2I) (S : N2I) (B : N2I) (U : N2I) (n : Nat) (tw : Int32) (co : Int32) (pl : Int32) (st : Int32) (jo : Int32) (cn : Int32) (ii : Int32) (fi : Int32) (fe : Int32) (i : Nat) (hi : i < 60) (hst : vp_in st 4) (hok : okE (K i) (F i) (S i)) : Met l yX2_holds wsX2_holds ({ frames := 1, cells := 0, slots := 0, locals := 21 } : Room) (va_Pc [.ref mo, .int (nI i)] (pc_ (dC, dI) [(cI, .int), (cZ, .boolean)] [(mo, .inr (2, [.int tw, .ref bL, .ref bT, .int (nI n), .ref bK, .ref bF, .ref bS, .ref bB, .int co, .int pl, .int st, .int jo, .int cn, .int ii, .int fi, .int fe, .ref bU])), (bK, .inl (cI, 60, .inl K)), (bF, .inl (cI, 60, .inl F)), (bS, .inl (cI, 60, .inl S)), (bB, .inl (cZ, 60, .inl B)), (bL, .inl (cI, 4, .inl L)), (bT, .inl (cI, 4, .inl T)), (bU, .inl (cI, 6, .inl U))] sz)) (va_Qi (fun (r : Int32) (u : Unit) => r = (mHap L T (K i) (F i) (S i) co pl st jo U).1) (fun (u : Unit) (t : State) => va_P (dC, dI) vwCl [(mo, .inr (2, [.int tw, .ref bL, .ref bT, .int (nI n), .ref bK, .ref bF, .ref bS, .ref bB, .int co, .int pl, .int st, .int jo, .int cn, .int ii, .int fi, .int fe, .ref bU])), (bK, .inl (cI, 60, .inl K)), (bF, .inl (cI, 60, .inl F)), (bS, .inl (cI, 60, .inl S)), (bB, .inl (cZ, 60, .inl B)), (bL, .inl (cI, 4, .inl L)), (bT, .inl (cI, 4, .inl T)), (bU, .inl (cI, 6, .inl U))] t.heap ∧ va_D (va_A [(mo, .inr (2, [.int tw, .ref bL, .ref bT, .int (nI n), .ref bK, .ref bF, .ref bS, .ref bB, .int co, .int pl, .int st, .int jo, .int cn, .int ii, .int fi, .int fe, .ref bU])), (bK, .inl (cI, 60, .inl K)), (bF, .inl (cI, 60, .inl F)), (bS, .inl (cI, 60, .inl S)), (bB, .inl (cZ, 60, .inl B)), (bL, .inl (cI, 4, .inl L)), (bT, .inl (cI, 4, .inl T)), (bU, .inl (cI, 6, .inl U))] sz) [(mo, .inr (2, [.int tw, .ref bL, .ref bT, .int (nI n), .ref bK, .ref bF, .ref bS, .ref bB, .int co, .int pl, .int st, .int jo, .int cn, .int ii, .int fi, .int fe, .ref bU])), (bK, .inl (cI, 60, .inl K)), (bF, .inl (cI, 60, .inl F)), (bS, .inl (cI, 60, .inl S)), (bB, .inl (cZ, 60, .inl B)), (bL, .inl (cI, 4, .inl L)), (bT, .inl (cI, 4, .inl T)), (bU, .inl (cI, 6, .inl U))]) (va_A [(mo, .inr (2, [.int tw, .ref bL, .ref bT, .int (nI n), .ref bK, .ref bF, .ref bS, .ref bB, .int co, .int pl, .int st, .int jo, .int cn, .int ii, .int fi, .int fe, .ref bU])), (bK, .inl (cI, 60, .inl K)), (bF, .inl (cI, 60, .inl F)), (bS, .inl (cI, 60, .inl S)), (bB, .inl (cZ, 60, .inl B)), (bL, .inl (cI, 4, .inl L)), (bT, .inl (cI, 4, .inl T)), (bU, .inl (cI, 6, .inl U))] sz)) 0 0 (va_A [(mo, .inr (2, [.int tw, .ref bL, .ref bT, .int (nI n), .ref bK, .ref bF, .ref bS, .ref bB, .int co, .int pl, .int st, .int jo, .int cn, .int ii, .int fi, .int fe, .ref bU])), (bK, .inl (cI, 60, .inl K)), (bF, .inl (cI, 60, .inl F)), (bS, .inl (cI, 60, .inl S)), (bB, .inl (cZ, 60, .inl B)), (bL, .inl (cI, 4, .inl L)), (bT, .inl (cI, 4, .inl T)), (bU, .inl (cI, 6, .inl U))] sz) := by
  refine Met.ofW (cc := cX2_holds) (maxL := 3) (ret := (some .boolean)) (by decide) rfl ?_
  intro p e s m args below meth c s₁ BB hml hv
  obtain ⟨rfl, hsz, hP, hK, hD0⟩ := hv
  have hx := BB.exec
  have hb := BB.bytes
  have hr := BB.returns
  have hts := atoms_spec (ws := wsX2_holds) BB.pre
  have hown : s.vm.findClass RX2 = some m.cls := findClass_of_methodNamed BB.named
  have hlocks := BB.notSynchronized
  subst hsz
  have hD := hD0.self (sz := s.heap.size)
  generalize hAe : va_A [(mo, .inr (2, [.int tw, .ref bL, .ref bT, .int (nI n), .ref bK, .ref bF, .ref bS, .ref bB, .int co, .int pl, .int st, .int jo, .int cn, .int ii, .int fi, .int fe, .ref bU])), (bK, .inl (cI, 60, .inl K)), (bF, .inl (cI, 60, .inl F)), (bS, .inl (cI, 60, .inl S)), (bB, .inl (cZ, 60, .inl B)), (bL, .inl (cI, 4, .inl L)), (bT, .inl (cI, 4, .inl T)), (bU, .inl (cI, 6, .inl U))] s.heap.size = A at hD ⊢
  have hA : ∀ q : Nat, s.heap.size ≤ q → A q := fun q h => by rw [← hAe]; exact Or.inr h
  have hS : va_S A s.heap s.heap [] := va_S.rf
  have hP : va_P (dC, dI) vwCl [(mo, .inr (2, [.int tw, .ref bL, .ref bT, .int (nI n), .ref bK, .ref bF, .ref bS, .ref bB, .int co, .int pl, .int st, .int jo, .int cn, .int ii, .int fi, .int fe, .ref bU])), (bK, .inl (cI, 60, .inl K)), (bF, .inl (cI, 60, .inl F)), (bS, .inl (cI, 60, .inl S)), (bB, .inl (cZ, 60, .inl B)), (bL, .inl (cI, 4, .inl L)), (bT, .inl (cI, 4, .inl T)), (bU, .inl (cI, 6, .inl U))] s.heap := hP
  have hl := lv_entry ([.ref mo, .int (nI i)]) (n := 3) (Nat.le_of_ble_eq_true rfl)
  rw [lg_entry_eq]
  generalize (lg_sl ([.ref mo, .int (nI i)]) ++ List.replicate (3 - (lg_sl ([.ref mo, .int (nI i)])).length) Slot.unset).toArray = ls at hl ⊢
  have hl : lv_has ls 3 [(0, .ref mo), (1, .int (nI i))] := hl
  have k0 := hts (.fieldLink RX2 19 "KnifeLedgerModel" "firsts" "[I") (by decide +kernel)
  have hinX2 : ∀ w ∈ wsX20, w ∈ wsX2_holds := by decide +kernel
  have k2 := hts (.fieldLink RX2 16 "KnifeLedgerModel" "kinds" "[I") (by decide +kernel)
  have k3 := hts (.fieldLink RX2 60 "KnifeLedgerModel" "joined" "I") (by decide +kernel)
  have k4 := hts (.fieldLink RX2 70 "KnifeLedgerModel" "coins" "I") (by decide +kernel)
  have k5 := hts (.fieldLink RX2 22 "KnifeLedgerModel" "seconds" "[I") (by decide +kernel)
  refine lv_aload_n hx hb dX2_holds_0 rfl (lv_at hl 0 rfl) ?_
  refine va_get (D := (dC, dI)) (ci := 2) (v := .ref bF) (C := RX2) (T := TX2) (N := 17) hx hb hts hinX2 hown hK hP 0 rfl rfl 5 (by decide) k0 (fun _ h9 => h9) rfl dX2_holds_1 ?_
  refine lv_iload_n hx hb dX2_holds_4 rfl (lv_at hl 1 rfl) ?_
  refine va_iald hx hb hK hP 2 0 rfl rfl (vp_in_nI (by omega) (by omega)) dX2_holds_5 ?_
  rw [nI_clamp (n := i) (by omega)]
  refine lv_istore_n (lv' := [(2, .int (F i)), (0, .ref mo), (1, .int (nI i))]) hx hb dX2_holds_6 rfl hl (by decide) rfl (fun ls hl => ?_)
  refine lv_aload_n hx hb dX2_holds_7 rfl (lv_at hl 1 rfl) ?_
  refine va_get (D := (dC, dI)) (ci := 2) (v := .ref bK) (C := RX2) (T := TX2) (N := 17) hx hb hts hinX2 hown hK hP 0 rfl rfl 4 (by decide) k2 (fun _ h9 => h9) rfl dX2_holds_8 ?_
  refine lv_iload_n hx hb dX2_holds_11 rfl (lv_at hl 2 rfl) ?_
  refine va_iald hx hb hK hP 1 0 rfl rfl (vp_in_nI (by omega) (by omega)) dX2_holds_12 ?_
  rw [nI_clamp (n := i) (by omega)]
  by_cases k_13_0 : (K i) = 0
  · -- case 0
    refine lv_tableIn (off := 35) (tgt := 48) hx hb dX2_holds_13 (by rw [k_13_0]; decide) (by rw [k_13_0]; decide) (by rw [k_13_0]; rfl) (by decide) ?_
    refine lv_aload_n hx hb dX2_holds_48 rfl (lv_at hl 1 rfl) ?_
    refine va_get (D := (dC, dI)) (ci := 2) (v := .int jo) (C := RX2) (T := TX2) (N := 17) hx hb hts hinX2 hown hK hP 0 rfl rfl 11 (by decide) k3 (fun _ h9 => h9) rfl dX2_holds_49 ?_
    refine lv_bipush (v := 6) hx hb dX2_holds_52 (by decide) ?_
    refine lv_icmp_ge (tgt := 61) hx hb dX2_holds_54 (by decide) (fun c_54 => ?_) (fun c_54 => ?_)
    · -- 54
      refine lv_iconst (v := 0) hx hb dX2_holds_61 (by decide) ?_
      have hpost : (0 : Int32) = (mHap L T (K i) (F i) (S i) co pl st jo U).1 := by
        unfold mHap; rw [if_pos k_13_0]; unfold mJoin; rw [if_neg (fun h => absurd h (nlt_le.mpr c_54))]
      have hP9 := hP.sub (ws' := [(mo, .inr (2, [.int tw, .ref bL, .ref bT, .int (nI n), .ref bK, .ref bF, .ref bS, .ref bB, .int co, .int pl, .int st, .int jo, .int cn, .int ii, .int fi, .int fe, .ref bU])), (bK, .inl (cI, 60, .inl K)), (bF, .inl (cI, 60, .inl F)), (bS, .inl (cI, 60, .inl S)), (bB, .inl (cZ, 60, .inl B)), (bL, .inl (cI, 4, .inl L)), (bT, .inl (cI, 4, .inl T)), (bU, .inl (cI, 6, .inl U))]) [0, 1, 2, 3, 4, 5, 6, 7] rfl
      have hD9 := hD.sub (ws' := [(mo, .inr (2, [.int tw, .ref bL, .ref bT, .int (nI n), .ref bK, .ref bF, .ref bS, .ref bB, .int co, .int pl, .int st, .int jo, .int cn, .int ii, .int fi, .int fe, .ref bU])), (bK, .inl (cI, 60, .inl K)), (bF, .inl (cI, 60, .inl F)), (bS, .inl (cI, 60, .inl S)), (bB, .inl (cZ, 60, .inl B)), (bL, .inl (cI, 4, .inl L)), (bT, .inl (cI, 4, .inl T)), (bU, .inl (cI, 6, .inl U))]) [0, 1, 2, 3, 4, 5, 6, 7] (by decide) rfl
      exact W.zret (v := 0) (ty := .boolean) hx hb hr (rfl) (fun t ht hW => ⟨⟨0, (), rfl, hpost, by rw [ht]; exact hP9, hD9⟩, hS.F ht⟩) hS.2.2 dX2_holds_62
    · -- 54
      refine lv_iconst (v := 1) hx hb dX2_holds_57 (by decide) ?_
      refine lv_goto (tgt := 62) hx hb dX2_holds_58 (by decide) ?_
      have hpost : (1 : Int32) = (mHap L T (K i) (F i) (S i) co pl st jo U).1 := by
        unfold mHap; rw [if_pos k_13_0]; unfold mJoin; rw [if_pos (nle_lt.mp c_54)]
      have hP9 := hP.sub (ws' := [(mo, .inr (2, [.int tw, .ref bL, .ref bT, .int (nI n), .ref bK, .ref bF, .ref bS, .ref bB, .int co, .int pl, .int st, .int jo, .int cn, .int ii, .int fi, .int fe, .ref bU])), (bK, .inl (cI, 60, .inl K)), (bF, .inl (cI, 60, .inl F)), (bS, .inl (cI, 60, .inl S)), (bB, .inl (cZ, 60, .inl B)), (bL, .inl (cI, 4, .inl L)), (bT, .inl (cI, 4, .inl T)), (bU, .inl (cI, 6, .inl U))]) [0, 1, 2, 3, 4, 5, 6, 7] rfl
      have hD9 := hD.sub (ws' := [(mo, .inr (2, [.int tw, .ref bL, .ref bT, .int (nI n), .ref bK, .ref bF, .ref bS, .ref bB, .int co, .int pl, .int st, .int jo, .int cn, .int ii, .int fi, .int fe, .ref bU])), (bK, .inl (cI, 60, .inl K)), (bF, .inl (cI, 60, .inl F)), (bS, .inl (cI, 60, .inl S)), (bB, .inl (cZ, 60, .inl B)), (bL, .inl (cI, 4, .inl L)), (bT, .inl (cI, 4, .inl T)), (bU, .inl (cI, 6, .inl U))]) [0, 1, 2, 3, 4, 5, 6, 7] (by decide) rfl
      exact W.zret (v := 1) (ty := .boolean) hx hb hr (rfl) (fun t ht hW => ⟨⟨1, (), rfl, hpost, by rw [ht]; exact hP9, hD9⟩, hS.F ht⟩) hS.2.2 dX2_holds_62
  by_cases k_13_1 : (K i) = 1
  · -- case 1
    refine lv_tableIn (off := 50) (tgt := 63) hx hb dX2_holds_13 (by rw [k_13_1]; decide) (by rw [k_13_1]; decide) (by rw [k_13_1]; rfl) (by decide) ?_
    refine lv_aload_n hx hb dX2_holds_63 rfl (lv_at hl 1 rfl) ?_
    refine lv_iload_n hx hb dX2_holds_64 rfl (lv_at hl 0 rfl) ?_
    have hPc := hP.sub (ws' := [(mo, .inr (2, [.int tw, .ref bL, .ref bT, .int (nI n), .ref bK, .ref bF, .ref bS, .ref bB, .int co, .int pl, .int st, .int jo, .int cn, .int ii, .int fi, .int fe, .ref bU])), (bK, .inl (cI, 60, .inl K)), (bF, .inl (cI, 60, .inl F)), (bS, .inl (cI, 60, .inl S)), (bB, .inl (cZ, 60, .inl B)), (bL, .inl (cI, 4, .inl L)), (bT, .inl (cI, 4, .inl T)), (bU, .inl (cI, 6, .inl U))]) [0, 1, 2, 3, 4, 5, 6, 7] rfl
    have hDc := hD.sub (ws' := [(mo, .inr (2, [.int tw, .ref bL, .ref bT, .int (nI n), .ref bK, .ref bF, .ref bS, .ref bB, .int co, .int pl, .int st, .int jo, .int cn, .int ii, .int fi, .int fe, .ref bU])), (bK, .inl (cI, 60, .inl K)), (bF, .inl (cI, 60, .inl F)), (bS, .inl (cI, 60, .inl S)), (bB, .inl (cZ, 60, .inl B)), (bL, .inl (cI, 4, .inl L)), (bT, .inl (cI, 4, .inl T)), (bU, .inl (cI, 6, .inl U))]) [0, 1, 2, 3, 4, 5, 6, 7] (by decide) rfl
    have hKc := hK.sub (tys' := [(cI, .int), (cZ, .boolean)]) [0, 1] rfl
    have hFc := va_free (wc := [(mo, .inr (2, [.int tw, .ref bL, .ref bT, .int (nI n), .ref bK, .ref bF, .ref bS, .ref bB, .int co, .int pl, .int st, .int jo, .int cn, .int ii, .int fi, .int fe, .ref bU])), (bK, .inl (cI, 60, .inl K)), (bF, .inl (cI, 60, .inl F)), (bS, .inl (cI, 60, .inl S)), (bB, .inl (cZ, 60, .inl B)), (bL, .inl (cI, 4, .inl L)), (bT, .inl (cI, 4, .inl T)), (bU, .inl (cI, 6, .inl U))]) hD hS hA [0, 1, 2, 3, 4, 5, 6, 7] rfl
    refine va_calli (va_runV (As := [.int (F i)]) (rest := []) ⟨hx, hb, hml, hown, hts⟩ (c_X2_canToss l dC dI cI cZ mo bK bF bS bB bL bT bU s.heap.size L T K F S B U n tw co pl st jo cn ii fi fe (F i) (hok.2.1 (Or.inl k_13_1)) (by assumption)) (cwV 1 hts gX2_holds_X2_canToss rfl rfl rfl (by decide +kernel) ⟨Nat.le_of_ble_eq_true rfl, Nat.le_of_ble_eq_true rfl⟩) (pc_V hKc hPc hDc (ci := 2) (C := RX2) (T := TX2) (N := 17) (q0 := 0) rfl rfl) rfl rfl hl.1 rfl (lv_room (Nat.le_of_ble_eq_true rfl)) dX2_holds_65 ⟨Nat.le_of_ble_eq_true rfl, Nat.le_of_ble_eq_true rfl⟩) hS (fun q _ h => hFc q h) hFc (fun r_1 u t H_1 locs ht hvm hw hB hz1 hk1 hS => ?_)
    try dsimp only at hw hB
    have hw_1 := hw
    replace hw_1 := hw_1.symm
    subst hw_1
    obtain ⟨hP1, hD1⟩ := hB
    rw [ht] at hP1
    obtain ⟨hP, hD⟩ := va_join (wr := []) (w1 := [(mo, .inr (2, [.int tw, .ref bL, .ref bT, .int (nI n), .ref bK, .ref bF, .ref bS, .ref bB, .int co, .int pl, .int st, .int jo, .int cn, .int ii, .int fi, .int fe, .ref bU])), (bK, .inl (cI, 60, .inl K)), (bF, .inl (cI, 60, .inl F)), (bS, .inl (cI, 60, .inl S)), (bB, .inl (cZ, 60, .inl B)), (bL, .inl (cI, 4, .inl L)), (bT, .inl (cI, 4, .inl T)), (bU, .inl (cI, 6, .inl U))]) hP hD [0, 1, 2, 3, 4, 5, 6, 7] [] rfl rfl (by decide) (by decide) hk1 hFc hP1 hD1
    have hP : va_P (dC, dI) vwCl [(mo, .inr (2, [.int tw, .ref bL, .ref bT, .int (nI n), .ref bK, .ref bF, .ref bS, .ref bB, .int co, .int pl, .int st, .int jo, .int cn, .int ii, .int fi, .int fe, .ref bU])), (bK, .inl (cI, 60, .inl K)), (bF, .inl (cI, 60, .inl F)), (bS, .inl (cI, 60, .inl S)), (bB, .inl (cZ, 60, .inl B)), (bL, .inl (cI, 4, .inl L)), (bT, .inl (cI, 4, .inl T)), (bU, .inl (cI, 6, .inl U))] H_1 := hP
    have hD : va_D A [(mo, .inr (2, [.int tw, .ref bL, .ref bT, .int (nI n), .ref bK, .ref bF, .ref bS, .ref bB, .int co, .int pl, .int st, .int jo, .int cn, .int ii, .int fi, .int fe, .ref bU])), (bK, .inl (cI, 60, .inl K)), (bF, .inl (cI, 60, .inl F)), (bS, .inl (cI, 60, .inl S)), (bB, .inl (cZ, 60, .inl B)), (bL, .inl (cI, 4, .inl L)), (bT, .inl (cI, 4, .inl T)), (bU, .inl (cI, 6, .inl U))] := hD
    have hpost : (mCan T st jo U (F i)) = (mHap L T (K i) (F i) (S i) co pl st jo U).1 := by
      unfold mHap; rw [if_neg k_13_0, if_pos k_13_1]; rw [mToss_fst]
    have hP9 := hP.sub (ws' := [(mo, .inr (2, [.int tw, .ref bL, .ref bT, .int (nI n), .ref bK, .ref bF, .ref bS, .ref bB, .int co, .int pl, .int st, .int jo, .int cn, .int ii, .int fi, .int fe, .ref bU])), (bK, .inl (cI, 60, .inl K)), (bF, .inl (cI, 60, .inl F)), (bS, .inl (cI, 60, .inl S)), (bB, .inl (cZ, 60, .inl B)), (bL, .inl (cI, 4, .inl L)), (bT, .inl (cI, 4, .inl T)), (bU, .inl (cI, 6, .inl U))]) [0, 1, 2, 3, 4, 5, 6, 7] rfl
    have hD9 := hD.sub (ws' := [(mo, .inr (2, [.int tw, .ref bL, .ref bT, .int (nI n), .ref bK, .ref bF, .ref bS, .ref bB, .int co, .int pl, .int st, .int jo, .int cn, .int ii, .int fi, .int fe, .ref bU])), (bK, .inl (cI, 60, .inl K)), (bF, .inl (cI, 60, .inl F)), (bS, .inl (cI, 60, .inl S)), (bB, .inl (cZ, 60, .inl B)), (bL, .inl (cI, 4, .inl L)), (bT, .inl (cI, 4, .inl T)), (bU, .inl (cI, 6, .inl U))]) [0, 1, 2, 3, 4, 5, 6, 7] (by decide) rfl
    exact W.zret (v := mCan T st jo U (F i)) (ty := .boolean) hx hb hr (nz_01 (mCan_01 _ _ _ _ _)) (fun t ht hW => ⟨⟨(mCan T st jo U (F i)), (), rfl, hpost, by rw [ht]; exact hP9, hD9⟩, hS.F ht⟩) hS.2.2 dX2_holds_68
  by_cases k_13_2 : (K i) = 2
  · -- case 2
    refine lv_tableIn (off := 56) (tgt := 69) hx hb dX2_holds_13 (by rw [k_13_2]; decide) (by rw [k_13_2]; decide) (by rw [k_13_2]; rfl) (by decide) ?_
    refine lv_iload_n hx hb dX2_holds_69 rfl (lv_at hl 0 rfl) ?_
    refine lv_aload_n hx hb dX2_holds_70 rfl (lv_at hl 1 rfl) ?_
    refine va_get (D := (dC, dI)) (ci := 2) (v := .int jo) (C := RX2) (T := TX2) (N := 17) hx hb hts hinX2 hown hK hP 0 rfl rfl 11 (by decide) k3 (fun _ h9 => h9) rfl dX2_holds_71 ?_
    refine lv_icmp_ge (tgt := 81) hx hb dX2_holds_74 (by decide) (fun c_74 => ?_) (fun c_74 => ?_)
    · -- 74
      refine lv_iconst (v := 0) hx hb dX2_holds_81 (by decide) ?_
      have hpost : (0 : Int32) = (mHap L T (K i) (F i) (S i) co pl st jo U).1 := by
        unfold mHap; rw [if_neg k_13_0, if_neg k_13_1, if_pos k_13_2]; rw [mRest_fst]; unfold mJd; rw [if_pos c_74]
      have hP9 := hP.sub (ws' := [(mo, .inr (2, [.int tw, .ref bL, .ref bT, .int (nI n), .ref bK, .ref bF, .ref bS, .ref bB, .int co, .int pl, .int st, .int jo, .int cn, .int ii, .int fi, .int fe, .ref bU])), (bK, .inl (cI, 60, .inl K)), (bF, .inl (cI, 60, .inl F)), (bS, .inl (cI, 60, .inl S)), (bB, .inl (cZ, 60, .inl B)), (bL, .inl (cI, 4, .inl L)), (bT, .inl (cI, 4, .inl T)), (bU, .inl (cI, 6, .inl U))]) [0, 1, 2, 3, 4, 5, 6, 7] rfl
      have hD9 := hD.sub (ws' := [(mo, .inr (2, [.int tw, .ref bL, .ref bT, .int (nI n), .ref bK, .ref bF, .ref bS, .ref bB, .int co, .int pl, .int st, .int jo, .int cn, .int ii, .int fi, .int fe, .ref bU])), (bK, .inl (cI, 60, .inl K)), (bF, .inl (cI, 60, .inl F)), (bS, .inl (cI, 60, .inl S)), (bB, .inl (cZ, 60, .inl B)), (bL, .inl (cI, 4, .inl L)), (bT, .inl (cI, 4, .inl T)), (bU, .inl (cI, 6, .inl U))]) [0, 1, 2, 3, 4, 5, 6, 7] (by decide) rfl
      exact W.zret (v := 0) (ty := .boolean) hx hb hr (rfl) (fun t ht hW => ⟨⟨0, (), rfl, hpost, by rw [ht]; exact hP9, hD9⟩, hS.F ht⟩) hS.2.2 dX2_holds_82
    · -- 74
      refine lv_iconst (v := 1) hx hb dX2_holds_77 (by decide) ?_
      refine lv_goto (tgt := 82) hx hb dX2_holds_78 (by decide) ?_
      have hpost : (1 : Int32) = (mHap L T (K i) (F i) (S i) co pl st jo U).1 := by
        unfold mHap; rw [if_neg k_13_0, if_neg k_13_1, if_pos k_13_2]; rw [mRest_fst]; unfold mJd; rw [if_neg c_74]
      have hP9 := hP.sub (ws' := [(mo, .inr (2, [.int tw, .ref bL, .ref bT, .int (nI n), .ref bK, .ref bF, .ref bS, .ref bB, .int co, .int pl, .int st, .int jo, .int cn, .int ii, .int fi, .int fe, .ref bU])), (bK, .inl (cI, 60, .inl K)), (bF, .inl (cI, 60, .inl F)), (bS, .inl (cI, 60, .inl S)), (bB, .inl (cZ, 60, .inl B)), (bL, .inl (cI, 4, .inl L)), (bT, .inl (cI, 4, .inl T)), (bU, .inl (cI, 6, .inl U))]) [0, 1, 2, 3, 4, 5, 6, 7] rfl
      have hD9 := hD.sub (ws' := [(mo, .inr (2, [.int tw, .ref bL, .ref bT, .int (nI n), .ref bK, .ref bF, .ref bS, .ref bB, .int co, .int pl, .int st, .int jo, .int cn, .int ii, .int fi, .int fe, .ref bU])), (bK, .inl (cI, 60, .inl K)), (bF, .inl (cI, 60, .inl F)), (bS, .inl (cI, 60, .inl S)), (bB, .inl (cZ, 60, .inl B)), (bL, .inl (cI, 4, .inl L)), (bT, .inl (cI, 4, .inl T)), (bU, .inl (cI, 6, .inl U))]) [0, 1, 2, 3, 4, 5, 6, 7] (by decide) rfl
      exact W.zret (v := 1) (ty := .boolean) hx hb hr (rfl) (fun t ht hW => ⟨⟨1, (), rfl, hpost, by rw [ht]; exact hP9, hD9⟩, hS.F ht⟩) hS.2.2 dX2_holds_82
  by_cases k_13_3 : (K i) = 3
  · -- case 3
    refine lv_tableIn (off := 70) (tgt := 83) hx hb dX2_holds_13 (by rw [k_13_3]; decide) (by rw [k_13_3]; decide) (by rw [k_13_3]; rfl) (by decide) ?_
    refine lv_iconst (v := 1) hx hb dX2_holds_83 (by decide) ?_
    have hpost : (1 : Int32) = (mHap L T (K i) (F i) (S i) co pl st jo U).1 := by
      unfold mHap; rw [if_neg k_13_0, if_neg k_13_1, if_neg k_13_2, if_pos k_13_3]
    have hP9 := hP.sub (ws' := [(mo, .inr (2, [.int tw, .ref bL, .ref bT, .int (nI n), .ref bK, .ref bF, .ref bS, .ref bB, .int co, .int pl, .int st, .int jo, .int cn, .int ii, .int fi, .int fe, .ref bU])), (bK, .inl (cI, 60, .inl K)), (bF, .inl (cI, 60, .inl F)), (bS, .inl (cI, 60, .inl S)), (bB, .inl (cZ, 60, .inl B)), (bL, .inl (cI, 4, .inl L)), (bT, .inl (cI, 4, .inl T)), (bU, .inl (cI, 6, .inl U))]) [0, 1, 2, 3, 4, 5, 6, 7] rfl
    have hD9 := hD.sub (ws' := [(mo, .inr (2, [.int tw, .ref bL, .ref bT, .int (nI n), .ref bK, .ref bF, .ref bS, .ref bB, .int co, .int pl, .int st, .int jo, .int cn, .int ii, .int fi, .int fe, .ref bU])), (bK, .inl (cI, 60, .inl K)), (bF, .inl (cI, 60, .inl F)), (bS, .inl (cI, 60, .inl S)), (bB, .inl (cZ, 60, .inl B)), (bL, .inl (cI, 4, .inl L)), (bT, .inl (cI, 4, .inl T)), (bU, .inl (cI, 6, .inl U))]) [0, 1, 2, 3, 4, 5, 6, 7] (by decide) rfl
    exact W.zret (v := 1) (ty := .boolean) hx hb hr (rfl) (fun t ht hW => ⟨⟨1, (), rfl, hpost, by rw [ht]; exact hP9, hD9⟩, hS.F ht⟩) hS.2.2 dX2_holds_84
  by_cases k_13_4 : (K i) = 4
  · -- case 4
    refine lv_tableIn (off := 72) (tgt := 85) hx hb dX2_holds_13 (by rw [k_13_4]; decide) (by rw [k_13_4]; decide) (by rw [k_13_4]; rfl) (by decide) ?_
    refine lv_iload_n hx hb dX2_holds_85 rfl (lv_at hl 0 rfl) ?_
    refine lv_aload_n hx hb dX2_holds_86 rfl (lv_at hl 1 rfl) ?_
    refine va_get (D := (dC, dI)) (ci := 2) (v := .int jo) (C := RX2) (T := TX2) (N := 17) hx hb hts hinX2 hown hK hP 0 rfl rfl 11 (by decide) k3 (fun _ h9 => h9) rfl dX2_holds_87 ?_
    refine lv_icmp_ge (tgt := 110) hx hb dX2_holds_90 (by decide) (fun c_90 => ?_) (fun c_90 => ?_)
    · -- 90
      refine lv_iconst (v := 0) hx hb dX2_holds_110 (by decide) ?_
      have hpost : (0 : Int32) = (mHap L T (K i) (F i) (S i) co pl st jo U).1 := by
        unfold mHap; rw [if_neg k_13_0, if_neg k_13_1, if_neg k_13_2, if_neg k_13_3, if_pos k_13_4]; unfold mPay mJd; rw [if_pos c_90, if_pos rfl]
      have hP9 := hP.sub (ws' := [(mo, .inr (2, [.int tw, .ref bL, .ref bT, .int (nI n), .ref bK, .ref bF, .ref bS, .ref bB, .int co, .int pl, .int st, .int jo, .int cn, .int ii, .int fi, .int fe, .ref bU])), (bK, .inl (cI, 60, .inl K)), (bF, .inl (cI, 60, .inl F)), (bS, .inl (cI, 60, .inl S)), (bB, .inl (cZ, 60, .inl B)), (bL, .inl (cI, 4, .inl L)), (bT, .inl (cI, 4, .inl T)), (bU, .inl (cI, 6, .inl U))]) [0, 1, 2, 3, 4, 5, 6, 7] rfl
      have hD9 := hD.sub (ws' := [(mo, .inr (2, [.int tw, .ref bL, .ref bT, .int (nI n), .ref bK, .ref bF, .ref bS, .ref bB, .int co, .int pl, .int st, .int jo, .int cn, .int ii, .int fi, .int fe, .ref bU])), (bK, .inl (cI, 60, .inl K)), (bF, .inl (cI, 60, .inl F)), (bS, .inl (cI, 60, .inl S)), (bB, .inl (cZ, 60, .inl B)), (bL, .inl (cI, 4, .inl L)), (bT, .inl (cI, 4, .inl T)), (bU, .inl (cI, 6, .inl U))]) [0, 1, 2, 3, 4, 5, 6, 7] (by decide) rfl
      exact W.zret (v := 0) (ty := .boolean) hx hb hr (rfl) (fun t ht hW => ⟨⟨0, (), rfl, hpost, by rw [ht]; exact hP9, hD9⟩, hS.F ht⟩) hS.2.2 dX2_holds_111
    · -- 90
      refine lv_aload_n hx hb dX2_holds_93 rfl (lv_at hl 1 rfl) ?_
      refine va_get (D := (dC, dI)) (ci := 2) (v := .int co) (C := RX2) (T := TX2) (N := 17) hx hb hts hinX2 hown hK hP 0 rfl rfl 8 (by decide) k4 (fun _ h9 => h9) rfl dX2_holds_94 ?_
      refine lv_aload_n hx hb dX2_holds_97 rfl (lv_at hl 1 rfl) ?_
      refine va_get (D := (dC, dI)) (ci := 2) (v := .ref bS) (C := RX2) (T := TX2) (N := 17) hx hb hts hinX2 hown hK hP 0 rfl rfl 6 (by decide) k5 (fun _ h9 => h9) rfl dX2_holds_98 ?_
      refine lv_iload_n hx hb dX2_holds_101 rfl (lv_at hl 2 rfl) ?_
      refine va_iald hx hb hK hP 3 0 rfl rfl (vp_in_nI (by omega) (by omega)) dX2_holds_102 ?_
      rw [nI_clamp (n := i) (by omega)]
      refine lv_icmp_lt (tgt := 110) hx hb dX2_holds_103 (by decide) (fun c_103 => ?_) (fun c_103 => ?_)
      · -- 103
        refine lv_iconst (v := 0) hx hb dX2_holds_110 (by decide) ?_
        have hpost : (0 : Int32) = (mHap L T (K i) (F i) (S i) co pl st jo U).1 := by
          unfold mHap; rw [if_neg k_13_0, if_neg k_13_1, if_neg k_13_2, if_neg k_13_3, if_pos k_13_4]; unfold mPay mJd; rw [if_neg c_90, if_neg one_ne, if_neg (fun h => absurd c_103 (nlt_le.mpr h))]
        have hP9 := hP.sub (ws' := [(mo, .inr (2, [.int tw, .ref bL, .ref bT, .int (nI n), .ref bK, .ref bF, .ref bS, .ref bB, .int co, .int pl, .int st, .int jo, .int cn, .int ii, .int fi, .int fe, .ref bU])), (bK, .inl (cI, 60, .inl K)), (bF, .inl (cI, 60, .inl F)), (bS, .inl (cI, 60, .inl S)), (bB, .inl (cZ, 60, .inl B)), (bL, .inl (cI, 4, .inl L)), (bT, .inl (cI, 4, .inl T)), (bU, .inl (cI, 6, .inl U))]) [0, 1, 2, 3, 4, 5, 6, 7] rfl
        have hD9 := hD.sub (ws' := [(mo, .inr (2, [.int tw, .ref bL, .ref bT, .int (nI n), .ref bK, .ref bF, .ref bS, .ref bB, .int co, .int pl, .int st, .int jo, .int cn, .int ii, .int fi, .int fe, .ref bU])), (bK, .inl (cI, 60, .inl K)), (bF, .inl (cI, 60, .inl F)), (bS, .inl (cI, 60, .inl S)), (bB, .inl (cZ, 60, .inl B)), (bL, .inl (cI, 4, .inl L)), (bT, .inl (cI, 4, .inl T)), (bU, .inl (cI, 6, .inl U))]) [0, 1, 2, 3, 4, 5, 6, 7] (by decide) rfl
        exact W.zret (v := 0) (ty := .boolean) hx hb hr (rfl) (fun t ht hW => ⟨⟨0, (), rfl, hpost, by rw [ht]; exact hP9, hD9⟩, hS.F ht⟩) hS.2.2 dX2_holds_111
      · -- 103
        refine lv_iconst (v := 1) hx hb dX2_holds_106 (by decide) ?_
        refine lv_goto (tgt := 111) hx hb dX2_holds_107 (by decide) ?_
        have hpost : (1 : Int32) = (mHap L T (K i) (F i) (S i) co pl st jo U).1 := by
          unfold mHap; rw [if_neg k_13_0, if_neg k_13_1, if_neg k_13_2, if_neg k_13_3, if_pos k_13_4]; unfold mPay mJd; rw [if_neg c_90, if_neg one_ne, if_pos (nlt_le.mp c_103)]
        have hP9 := hP.sub (ws' := [(mo, .inr (2, [.int tw, .ref bL, .ref bT, .int (nI n), .ref bK, .ref bF, .ref bS, .ref bB, .int co, .int pl, .int st, .int jo, .int cn, .int ii, .int fi, .int fe, .ref bU])), (bK, .inl (cI, 60, .inl K)), (bF, .inl (cI, 60, .inl F)), (bS, .inl (cI, 60, .inl S)), (bB, .inl (cZ, 60, .inl B)), (bL, .inl (cI, 4, .inl L)), (bT, .inl (cI, 4, .inl T)), (bU, .inl (cI, 6, .inl U))]) [0, 1, 2, 3, 4, 5, 6, 7] rfl
        have hD9 := hD.sub (ws' := [(mo, .inr (2, [.int tw, .ref bL, .ref bT, .int (nI n), .ref bK, .ref bF, .ref bS, .ref bB, .int co, .int pl, .int st, .int jo, .int cn, .int ii, .int fi, .int fe, .ref bU])), (bK, .inl (cI, 60, .inl K)), (bF, .inl (cI, 60, .inl F)), (bS, .inl (cI, 60, .inl S)), (bB, .inl (cZ, 60, .inl B)), (bL, .inl (cI, 4, .inl L)), (bT, .inl (cI, 4, .inl T)), (bU, .inl (cI, 6, .inl U))]) [0, 1, 2, 3, 4, 5, 6, 7] (by decide) rfl
        exact W.zret (v := 1) (ty := .boolean) hx hb hr (rfl) (fun t ht hW => ⟨⟨1, (), rfl, hpost, by rw [ht]; exact hP9, hD9⟩, hS.F ht⟩) hS.2.2 dX2_holds_111
  refine lv_tableOut (tgt := 112) hx hb dX2_holds_13 (sw_out5 k_13_0 k_13_1 k_13_2 k_13_3 k_13_4) (by decide) ?_
  refine lv_aload_n hx hb dX2_holds_112 rfl (lv_at hl 1 rfl) ?_
  refine va_get (D := (dC, dI)) (ci := 2) (v := .int co) (C := RX2) (T := TX2) (N := 17) hx hb hts hinX2 hown hK hP 0 rfl rfl 8 (by decide) k4 (fun _ h9 => h9) rfl dX2_holds_113 ?_
  refine lv_iconst (v := 2) hx hb dX2_holds_116 (by decide) ?_
  refine lv_iload_n hx hb dX2_holds_117 rfl (lv_at hl 0 rfl) ?_
  refine lv_imul hx hb dX2_holds_118 ?_
  refine lv_icmp_lt (tgt := 126) hx hb dX2_holds_119 (by decide) (fun c_119 => ?_) (fun c_119 => ?_)
  · -- 119
    refine lv_iconst (v := 0) hx hb dX2_holds_126 (by decide) ?_
    have hpost : (0 : Int32) = (mHap L T (K i) (F i) (S i) co pl st jo U).1 := by
      unfold mHap; rw [if_neg k_13_0, if_neg k_13_1, if_neg k_13_2, if_neg k_13_3, if_neg k_13_4]; unfold mBuy; rw [if_neg (fun h => absurd c_119 (nlt_le.mpr h))]
    have hP9 := hP.sub (ws' := [(mo, .inr (2, [.int tw, .ref bL, .ref bT, .int (nI n), .ref bK, .ref bF, .ref bS, .ref bB, .int co, .int pl, .int st, .int jo, .int cn, .int ii, .int fi, .int fe, .ref bU])), (bK, .inl (cI, 60, .inl K)), (bF, .inl (cI, 60, .inl F)), (bS, .inl (cI, 60, .inl S)), (bB, .inl (cZ, 60, .inl B)), (bL, .inl (cI, 4, .inl L)), (bT, .inl (cI, 4, .inl T)), (bU, .inl (cI, 6, .inl U))]) [0, 1, 2, 3, 4, 5, 6, 7] rfl
    have hD9 := hD.sub (ws' := [(mo, .inr (2, [.int tw, .ref bL, .ref bT, .int (nI n), .ref bK, .ref bF, .ref bS, .ref bB, .int co, .int pl, .int st, .int jo, .int cn, .int ii, .int fi, .int fe, .ref bU])), (bK, .inl (cI, 60, .inl K)), (bF, .inl (cI, 60, .inl F)), (bS, .inl (cI, 60, .inl S)), (bB, .inl (cZ, 60, .inl B)), (bL, .inl (cI, 4, .inl L)), (bT, .inl (cI, 4, .inl T)), (bU, .inl (cI, 6, .inl U))]) [0, 1, 2, 3, 4, 5, 6, 7] (by decide) rfl
    exact W.zret (v := 0) (ty := .boolean) hx hb hr (rfl) (fun t ht hW => ⟨⟨0, (), rfl, hpost, by rw [ht]; exact hP9, hD9⟩, hS.F ht⟩) hS.2.2 dX2_holds_127
  · -- 119
    refine lv_iconst (v := 1) hx hb dX2_holds_122 (by decide) ?_
    refine lv_goto (tgt := 127) hx hb dX2_holds_123 (by decide) ?_
    have hpost : (1 : Int32) = (mHap L T (K i) (F i) (S i) co pl st jo U).1 := by
      unfold mHap; rw [if_neg k_13_0, if_neg k_13_1, if_neg k_13_2, if_neg k_13_3, if_neg k_13_4]; unfold mBuy; rw [if_pos (nlt_le.mp c_119)]
    have hP9 := hP.sub (ws' := [(mo, .inr (2, [.int tw, .ref bL, .ref bT, .int (nI n), .ref bK, .ref bF, .ref bS, .ref bB, .int co, .int pl, .int st, .int jo, .int cn, .int ii, .int fi, .int fe, .ref bU])), (bK, .inl (cI, 60, .inl K)), (bF, .inl (cI, 60, .inl F)), (bS, .inl (cI, 60, .inl S)), (bB, .inl (cZ, 60, .inl B)), (bL, .inl (cI, 4, .inl L)), (bT, .inl (cI, 4, .inl T)), (bU, .inl (cI, 6, .inl U))]) [0, 1, 2, 3, 4, 5, 6, 7] rfl
    have hD9 := hD.sub (ws' := [(mo, .inr (2, [.int tw, .ref bL, .ref bT, .int (nI n), .ref bK, .ref bF, .ref bS, .ref bB, .int co, .int pl, .int st, .int jo, .int cn, .int ii, .int fi, .int fe, .ref bU])), (bK, .inl (cI, 60, .inl K)), (bF, .inl (cI, 60, .inl F)), (bS, .inl (cI, 60, .inl S)), (bB, .inl (cZ, 60, .inl B)), (bL, .inl (cI, 4, .inl L)), (bT, .inl (cI, 4, .inl T)), (bU, .inl (cI, 6, .inl U))]) [0, 1, 2, 3, 4, 5, 6, 7] (by decide) rfl
    exact W.zret (v := 1) (ty := .boolean) hx hb hr (rfl) (fun t ht hW => ⟨⟨1, (), rfl, hpost, by rw [ht]; exact hP9, hD9⟩, hS.F ht⟩) hS.2.2 dX2_holds_127

set_option maxHeartbeats 4000000 in
set_option maxRecDepth 100000 in
theorem c_X2_stick (l : Launch) (dC : Nat → ClassId) (dI : Nat → Nat → Nat) (cI cZ : ClassId) (mo bK bF bS bB bL bT bU : Nat) (sz : Nat) (L : N2I) (T : N2I) (K : N2I) (F : N2I) (S : N2I) (B : N2I) (U : N2I) (n : Nat) (tw : Int32) (co : Int32) (pl : Int32) (st : Int32) (jo : Int32) (cn : Int32) (ii : Int32) (fi : Int32) (fe : Int32) (pa : Int32) (th : Int32) (hp : vp_in pa 6) (hst : vp_in st 4) : Met l yX2_stick wsX2_stick ({ frames := 2, cells := 0, slots := 0, locals := 38 } : Room) (va_Pc [.ref mo, .int pa, .int th] (pc_ (dC, dI) [(cI, .int), (cZ, .boolean)] [(mo, .inr (2, [.int tw, .ref bL, .ref bT, .int (nI n), .ref bK, .ref bF, .ref bS, .ref bB, .int co, .int pl, .int st, .int jo, .int cn, .int ii, .int fi, .int fe, .ref bU])), (bK, .inl (cI, 60, .inl K)), (bF, .inl (cI, 60, .inl F)), (bS, .inl (cI, 60, .inl S)), (bB, .inl (cZ, 60, .inl B)), (bL, .inl (cI, 4, .inl L)), (bT, .inl (cI, 4, .inl T)), (bU, .inl (cI, 6, .inl U))] sz)) (va_Qv (fun (u : Int32 × Int32 × N2I) => (u.1, u.2.1, u.2.2) = hStk L co pl st U pa th) (fun (u : Int32 × Int32 × N2I) (t : State) => va_P (dC, dI) vwCl [(mo, .inr (2, [.int tw, .ref bL, .ref bT, .int (nI n), .ref bK, .ref bF, .ref bS, .ref bB, .int u.1, .int u.2.1, .int st, .int jo, .int cn, .int ii, .int fi, .int fe, .ref bU])), (bK, .inl (cI, 60, .inl K)), (bF, .inl (cI, 60, .inl F)), (bS, .inl (cI, 60, .inl S)), (bB, .inl (cZ, 60, .inl B)), (bL, .inl (cI, 4, .inl L)), (bT, .inl (cI, 4, .inl T)), (bU, .inl (cI, 6, .inl u.2.2))] t.heap ∧ va_D (va_A [(mo, .inr (2, [.int tw, .ref bL, .ref bT, .int (nI n), .ref bK, .ref bF, .ref bS, .ref bB, .int co, .int pl, .int st, .int jo, .int cn, .int ii, .int fi, .int fe, .ref bU])), (bK, .inl (cI, 60, .inl K)), (bF, .inl (cI, 60, .inl F)), (bS, .inl (cI, 60, .inl S)), (bB, .inl (cZ, 60, .inl B)), (bL, .inl (cI, 4, .inl L)), (bT, .inl (cI, 4, .inl T)), (bU, .inl (cI, 6, .inl U))] sz) [(mo, .inr (2, [.int tw, .ref bL, .ref bT, .int (nI n), .ref bK, .ref bF, .ref bS, .ref bB, .int u.1, .int u.2.1, .int st, .int jo, .int cn, .int ii, .int fi, .int fe, .ref bU])), (bK, .inl (cI, 60, .inl K)), (bF, .inl (cI, 60, .inl F)), (bS, .inl (cI, 60, .inl S)), (bB, .inl (cZ, 60, .inl B)), (bL, .inl (cI, 4, .inl L)), (bT, .inl (cI, 4, .inl T)), (bU, .inl (cI, 6, .inl u.2.2))]) (va_A [(mo, .inr (2, [.int tw, .ref bL, .ref bT, .int (nI n), .ref bK, .ref bF, .ref bS, .ref bB, .int co, .int pl, .int st, .int jo, .int cn, .int ii, .int fi, .int fe, .ref bU])), (bK, .inl (cI, 60, .inl K)), (bF, .inl (cI, 60, .inl F)), (bS, .inl (cI, 60, .inl S)), (bB, .inl (cZ, 60, .inl B)), (bL, .inl (cI, 4, .inl L)), (bT, .inl (cI, 4, .inl T)), (bU, .inl (cI, 6, .inl U))] sz)) 0 0 (va_A [(mo, .inr (2, [.int tw, .ref bL, .ref bT, .int (nI n), .ref bK, .ref bF, .ref bS, .ref bB, .int co, .int pl, .int st, .int jo, .int cn, .int ii, .int fi, .int fe, .ref bU])), (bK, .inl (cI, 60, .inl K)), (bF, .inl (cI, 60, .inl F)), (bS, .inl (cI, 60, .inl S)), (bB, .inl (cZ, 60, .inl B)), (bL, .inl (cI, 4, .inl L)), (bT, .inl (cI, 4, .inl T)), (bU, .inl (cI, 6, .inl U))] sz) := by
  refine Met.ofW (cc := cX2_stick) (maxL := 3) (ret := none) (by decide) rfl ?_
  intro p e s m args below meth c s₁ BB hml hv
  obtain ⟨rfl, hsz, hP, hK, hD0⟩ := hv
  have hx := BB.exec
  have hb := BB.bytes
  have hr := BB.returns
  have hts := atoms_spec (ws := wsX2_stick) BB.pre
  have hown : s.vm.findClass RX2 = some m.cls := findClass_of_methodNamed BB.named
  have hlocks := BB.notSynchronized
  subst hsz
  have hD := hD0.self (sz := s.heap.size)
  generalize hAe : va_A [(mo, .inr (2, [.int tw, .ref bL, .ref bT, .int (nI n), .ref bK, .ref bF, .ref bS, .ref bB, .int co, .int pl, .int st, .int jo, .int cn, .int ii, .int fi, .int fe, .ref bU])), (bK, .inl (cI, 60, .inl K)), (bF, .inl (cI, 60, .inl F)), (bS, .inl (cI, 60, .inl S)), (bB, .inl (cZ, 60, .inl B)), (bL, .inl (cI, 4, .inl L)), (bT, .inl (cI, 4, .inl T)), (bU, .inl (cI, 6, .inl U))] s.heap.size = A at hD ⊢
  have hA : ∀ q : Nat, s.heap.size ≤ q → A q := fun q h => by rw [← hAe]; exact Or.inr h
  have hS : va_S A s.heap s.heap [] := va_S.rf
  have hP : va_P (dC, dI) vwCl [(mo, .inr (2, [.int tw, .ref bL, .ref bT, .int (nI n), .ref bK, .ref bF, .ref bS, .ref bB, .int co, .int pl, .int st, .int jo, .int cn, .int ii, .int fi, .int fe, .ref bU])), (bK, .inl (cI, 60, .inl K)), (bF, .inl (cI, 60, .inl F)), (bS, .inl (cI, 60, .inl S)), (bB, .inl (cZ, 60, .inl B)), (bL, .inl (cI, 4, .inl L)), (bT, .inl (cI, 4, .inl T)), (bU, .inl (cI, 6, .inl U))] s.heap := hP
  have hl := lv_entry ([.ref mo, .int pa, .int th]) (n := 3) (Nat.le_of_ble_eq_true rfl)
  rw [lg_entry_eq]
  generalize (lg_sl ([.ref mo, .int pa, .int th]) ++ List.replicate (3 - (lg_sl ([.ref mo, .int pa, .int th])).length) Slot.unset).toArray = ls at hl ⊢
  have hl : lv_has ls 3 [(0, .ref mo), (1, .int pa), (2, .int th)] := hl
  have k0 := hts (.fieldLink RX2 70 "KnifeLedgerModel" "coins" "I") (by decide +kernel)
  have hinX2 : ∀ w ∈ wsX20, w ∈ wsX2_stick := by decide +kernel
  have k2 := hts (.fieldLink RX2 80 "KnifeLedgerModel" "plasters" "I") (by decide +kernel)
  have k3 := hts (.methodLink RX2 57 Lib.Math.max.name) (by decide +kernel)
  have k4 := hts (.static Lib.Math.max.name) (by decide +kernel)
  have k5 := hts (.initialized "java/lang/Math") (by decide +kernel)
  have k6 := hts (.code Lib.Math.max.name Lib.Math.max.code 2 (some .int)) (by decide +kernel)
  refine lv_aload_n hx hb dX2_stick_0 rfl (lv_at hl 0 rfl) ?_
  refine lv_dup hx hb dX2_stick_1 rfl ?_
  refine va_get (D := (dC, dI)) (ci := 2) (v := .int co) (C := RX2) (T := TX2) (N := 17) hx hb hts hinX2 hown hK hP 0 rfl rfl 8 (by decide) k0 (fun _ h9 => h9) rfl dX2_stick_2 ?_
  refine lv_aload_n hx hb dX2_stick_5 rfl (lv_at hl 0 rfl) ?_
  refine lv_iload_n hx hb dX2_stick_6 rfl (lv_at hl 2 rfl) ?_
  have hPc := hP.sub (ws' := [(mo, .inr (2, [.int tw, .ref bL, .ref bT, .int (nI n), .ref bK, .ref bF, .ref bS, .ref bB, .int co, .int pl, .int st, .int jo, .int cn, .int ii, .int fi, .int fe, .ref bU])), (bK, .inl (cI, 60, .inl K)), (bF, .inl (cI, 60, .inl F)), (bS, .inl (cI, 60, .inl S)), (bB, .inl (cZ, 60, .inl B)), (bL, .inl (cI, 4, .inl L)), (bT, .inl (cI, 4, .inl T)), (bU, .inl (cI, 6, .inl U))]) [0, 1, 2, 3, 4, 5, 6, 7] rfl
  have hDc := hD.sub (ws' := [(mo, .inr (2, [.int tw, .ref bL, .ref bT, .int (nI n), .ref bK, .ref bF, .ref bS, .ref bB, .int co, .int pl, .int st, .int jo, .int cn, .int ii, .int fi, .int fe, .ref bU])), (bK, .inl (cI, 60, .inl K)), (bF, .inl (cI, 60, .inl F)), (bS, .inl (cI, 60, .inl S)), (bB, .inl (cZ, 60, .inl B)), (bL, .inl (cI, 4, .inl L)), (bT, .inl (cI, 4, .inl T)), (bU, .inl (cI, 6, .inl U))]) [0, 1, 2, 3, 4, 5, 6, 7] (by decide) rfl
  have hKc := hK.sub (tys' := [(cI, .int), (cZ, .boolean)]) [0, 1] rfl
  have hFc := va_free (wc := [(mo, .inr (2, [.int tw, .ref bL, .ref bT, .int (nI n), .ref bK, .ref bF, .ref bS, .ref bB, .int co, .int pl, .int st, .int jo, .int cn, .int ii, .int fi, .int fe, .ref bU])), (bK, .inl (cI, 60, .inl K)), (bF, .inl (cI, 60, .inl F)), (bS, .inl (cI, 60, .inl S)), (bB, .inl (cZ, 60, .inl B)), (bL, .inl (cI, 4, .inl L)), (bT, .inl (cI, 4, .inl T)), (bU, .inl (cI, 6, .inl U))]) hD hS hA [0, 1, 2, 3, 4, 5, 6, 7] rfl
  refine va_calli (va_runV (As := [.int th]) (rest := [.int co, .ref mo]) ⟨hx, hb, hml, hown, hts⟩ (c_X2_brings l dC dI cI cZ mo bK bF bS bB bL bT bU s.heap.size L T K F S B U n tw co pl st jo cn ii fi fe th (by assumption)) (cwV 1 hts gX2_stick_X2_brings rfl rfl rfl (by decide +kernel) ⟨Nat.le_of_ble_eq_true rfl, Nat.le_of_ble_eq_true rfl⟩) (pc_V hKc hPc hDc (ci := 2) (C := RX2) (T := TX2) (N := 17) (q0 := 0) rfl rfl) rfl rfl hl.1 rfl (lv_room (Nat.le_of_ble_eq_true rfl)) dX2_stick_7 ⟨Nat.le_of_ble_eq_true rfl, Nat.le_of_ble_eq_true rfl⟩) hS (fun q _ h => hFc q h) hFc (fun r_1 u t H_1 locs ht hvm hw hB hz1 hk1 hS => ?_)
  try dsimp only at hw hB
  have hw_1 := hw
  replace hw_1 := hw_1.symm
  subst hw_1
  obtain ⟨hP1, hD1⟩ := hB
  rw [ht] at hP1
  obtain ⟨hP, hD⟩ := va_join (wr := []) (w1 := [(mo, .inr (2, [.int tw, .ref bL, .ref bT, .int (nI n), .ref bK, .ref bF, .ref bS, .ref bB, .int co, .int pl, .int st, .int jo, .int cn, .int ii, .int fi, .int fe, .ref bU])), (bK, .inl (cI, 60, .inl K)), (bF, .inl (cI, 60, .inl F)), (bS, .inl (cI, 60, .inl S)), (bB, .inl (cZ, 60, .inl B)), (bL, .inl (cI, 4, .inl L)), (bT, .inl (cI, 4, .inl T)), (bU, .inl (cI, 6, .inl U))]) hP hD [0, 1, 2, 3, 4, 5, 6, 7] [] rfl rfl (by decide) (by decide) hk1 hFc hP1 hD1
  have hP : va_P (dC, dI) vwCl [(mo, .inr (2, [.int tw, .ref bL, .ref bT, .int (nI n), .ref bK, .ref bF, .ref bS, .ref bB, .int co, .int pl, .int st, .int jo, .int cn, .int ii, .int fi, .int fe, .ref bU])), (bK, .inl (cI, 60, .inl K)), (bF, .inl (cI, 60, .inl F)), (bS, .inl (cI, 60, .inl S)), (bB, .inl (cZ, 60, .inl B)), (bL, .inl (cI, 4, .inl L)), (bT, .inl (cI, 4, .inl T)), (bU, .inl (cI, 6, .inl U))] H_1 := hP
  have hD : va_D A [(mo, .inr (2, [.int tw, .ref bL, .ref bT, .int (nI n), .ref bK, .ref bF, .ref bS, .ref bB, .int co, .int pl, .int st, .int jo, .int cn, .int ii, .int fi, .int fe, .ref bU])), (bK, .inl (cI, 60, .inl K)), (bF, .inl (cI, 60, .inl F)), (bS, .inl (cI, 60, .inl S)), (bB, .inl (cZ, 60, .inl B)), (bL, .inl (cI, 4, .inl L)), (bT, .inl (cI, 4, .inl T)), (bU, .inl (cI, 6, .inl U))] := hD
  refine lv_iadd hx hb dX2_stick_10 ?_
  refine lv_topi (fun f_2 ef_2 => ?_)
  refine va_put (D := (dC, dI)) (ci := 2) (v := .int f_2) (ty := .int) (C := RX2) (T := TX2) (N := 17) hx hb hts hinX2 tyX2 tyX2_ok nmX2 hown hK hP hD hS 0 rfl rfl 8 (by decide) k0 (fun _ h9 => h9) rfl (by decide +kernel) rfl rfl (Nat.le_of_ble_eq_true rfl) dX2_stick_11 (fun H_3 locs hP hD hS => ?_)
  have hP : va_P (dC, dI) vwCl [(mo, .inr (2, [.int tw, .ref bL, .ref bT, .int (nI n), .ref bK, .ref bF, .ref bS, .ref bB, .int f_2, .int pl, .int st, .int jo, .int cn, .int ii, .int fi, .int fe, .ref bU])), (bK, .inl (cI, 60, .inl K)), (bF, .inl (cI, 60, .inl F)), (bS, .inl (cI, 60, .inl S)), (bB, .inl (cZ, 60, .inl B)), (bL, .inl (cI, 4, .inl L)), (bT, .inl (cI, 4, .inl T)), (bU, .inl (cI, 6, .inl U))] H_3 := hP
  have hD : va_D A [(mo, .inr (2, [.int tw, .ref bL, .ref bT, .int (nI n), .ref bK, .ref bF, .ref bS, .ref bB, .int f_2, .int pl, .int st, .int jo, .int cn, .int ii, .int fi, .int fe, .ref bU])), (bK, .inl (cI, 60, .inl K)), (bF, .inl (cI, 60, .inl F)), (bS, .inl (cI, 60, .inl S)), (bB, .inl (cZ, 60, .inl B)), (bL, .inl (cI, 4, .inl L)), (bT, .inl (cI, 4, .inl T)), (bU, .inl (cI, 6, .inl U))] := hD
  refine lv_iload_n hx hb dX2_stick_14 rfl (lv_at hl 2 rfl) ?_
  refine lv_if_le (tgt := 47) hx hb dX2_stick_15 (by decide) (fun c_15 => ?_) (fun c_15 => ?_)
  · -- 15
    refine lv_aload_n hx hb dX2_stick_47 rfl (lv_at hl 0 rfl) ?_
    refine lv_iload_n hx hb dX2_stick_48 rfl (lv_at hl 1 rfl) ?_
    refine lv_aload_n hx hb dX2_stick_49 rfl (lv_at hl 0 rfl) ?_
    refine va_get (D := (dC, dI)) (ci := 2) (v := .int pl) (C := RX2) (T := TX2) (N := 17) hx hb hts hinX2 hown hK hP 0 rfl rfl 9 (by decide) k2 (fun _ h9 => h9) rfl dX2_stick_50 ?_
    refine lv_if_le (tgt := 61) hx hb dX2_stick_53 (by decide) (fun c_53 => ?_) (fun c_53 => ?_)
    · -- 53
      refine lv_bipush (v := (-60)) hx hb dX2_stick_61 (by decide) ?_
      have hPc := hP.sub (ws' := [(mo, .inr (2, [.int tw, .ref bL, .ref bT, .int (nI n), .ref bK, .ref bF, .ref bS, .ref bB, .int f_2, .int pl, .int st, .int jo, .int cn, .int ii, .int fi, .int fe, .ref bU])), (bK, .inl (cI, 60, .inl K)), (bF, .inl (cI, 60, .inl F)), (bS, .inl (cI, 60, .inl S)), (bB, .inl (cZ, 60, .inl B)), (bL, .inl (cI, 4, .inl L)), (bT, .inl (cI, 4, .inl T)), (bU, .inl (cI, 6, .inl U))]) [0, 1, 2, 3, 4, 5, 6, 7] rfl
      have hDc := hD.sub (ws' := [(mo, .inr (2, [.int tw, .ref bL, .ref bT, .int (nI n), .ref bK, .ref bF, .ref bS, .ref bB, .int f_2, .int pl, .int st, .int jo, .int cn, .int ii, .int fi, .int fe, .ref bU])), (bK, .inl (cI, 60, .inl K)), (bF, .inl (cI, 60, .inl F)), (bS, .inl (cI, 60, .inl S)), (bB, .inl (cZ, 60, .inl B)), (bL, .inl (cI, 4, .inl L)), (bT, .inl (cI, 4, .inl T)), (bU, .inl (cI, 6, .inl U))]) [0, 1, 2, 3, 4, 5, 6, 7] (by decide) rfl
      have hKc := hK.sub (tys' := [(cI, .int), (cZ, .boolean)]) [0, 1] rfl
      have hFc := va_free (wc := [(mo, .inr (2, [.int tw, .ref bL, .ref bT, .int (nI n), .ref bK, .ref bF, .ref bS, .ref bB, .int f_2, .int pl, .int st, .int jo, .int cn, .int ii, .int fi, .int fe, .ref bU])), (bK, .inl (cI, 60, .inl K)), (bF, .inl (cI, 60, .inl F)), (bS, .inl (cI, 60, .inl S)), (bB, .inl (cZ, 60, .inl B)), (bL, .inl (cI, 4, .inl L)), (bT, .inl (cI, 4, .inl T)), (bU, .inl (cI, 6, .inl U))]) hD hS hA [0, 1, 2, 3, 4, 5, 6, 7] rfl
      refine va_callv (va_runV (As := [.int pa, .int (-60)]) (rest := []) ⟨hx, hb, hml, hown, hts⟩ (c_X2_more l dC dI cI cZ mo bK bF bS bB bL bT bU H_3.size L T K F S B U n tw f_2 pl st jo cn ii fi fe pa (-60) (by assumption)) (cwV 2 hts gX2_stick_X2_more rfl rfl rfl (by decide +kernel) ⟨Nat.le_of_ble_eq_true rfl, Nat.le_of_ble_eq_true rfl⟩) (pc_V hKc hPc hDc (ci := 2) (C := RX2) (T := TX2) (N := 17) (q0 := 0) rfl rfl) rfl rfl hl.1 rfl (lv_room (Nat.le_of_ble_eq_true rfl)) dX2_stick_63 ⟨Nat.le_of_ble_eq_true rfl, Nat.le_of_ble_eq_true rfl⟩) hS (fun q _ h => hFc q h) hFc (fun u t H_4 locs ht hvm hw hB hz1 hk1 hS => ?_)
      obtain ⟨U1_4, rfl⟩ : ∃ z, z = u := ⟨_, rfl⟩
      try dsimp only at hw hB
      have hw_4 := hw
      obtain ⟨hP1, hD1⟩ := hB
      rw [ht] at hP1
      obtain ⟨hP, hD⟩ := va_join (wr := []) (w1 := [(mo, .inr (2, [.int tw, .ref bL, .ref bT, .int (nI n), .ref bK, .ref bF, .ref bS, .ref bB, .int f_2, .int pl, .int st, .int jo, .int cn, .int ii, .int fi, .int fe, .ref bU])), (bK, .inl (cI, 60, .inl K)), (bF, .inl (cI, 60, .inl F)), (bS, .inl (cI, 60, .inl S)), (bB, .inl (cZ, 60, .inl B)), (bL, .inl (cI, 4, .inl L)), (bT, .inl (cI, 4, .inl T)), (bU, .inl (cI, 6, .inl U1_4))]) hP hD [0, 1, 2, 3, 4, 5, 6, 7] [] rfl rfl (by decide) (by decide) hk1 hFc hP1 hD1
      have hP : va_P (dC, dI) vwCl [(mo, .inr (2, [.int tw, .ref bL, .ref bT, .int (nI n), .ref bK, .ref bF, .ref bS, .ref bB, .int f_2, .int pl, .int st, .int jo, .int cn, .int ii, .int fi, .int fe, .ref bU])), (bK, .inl (cI, 60, .inl K)), (bF, .inl (cI, 60, .inl F)), (bS, .inl (cI, 60, .inl S)), (bB, .inl (cZ, 60, .inl B)), (bL, .inl (cI, 4, .inl L)), (bT, .inl (cI, 4, .inl T)), (bU, .inl (cI, 6, .inl U1_4))] H_4 := hP
      have hD : va_D A [(mo, .inr (2, [.int tw, .ref bL, .ref bT, .int (nI n), .ref bK, .ref bF, .ref bS, .ref bB, .int f_2, .int pl, .int st, .int jo, .int cn, .int ii, .int fi, .int fe, .ref bU])), (bK, .inl (cI, 60, .inl K)), (bF, .inl (cI, 60, .inl F)), (bS, .inl (cI, 60, .inl S)), (bB, .inl (cZ, 60, .inl B)), (bL, .inl (cI, 4, .inl L)), (bT, .inl (cI, 4, .inl T)), (bU, .inl (cI, 6, .inl U1_4))] := hD
      refine lv_aload_n hx hb dX2_stick_66 rfl (lv_at hl 0 rfl) ?_
      refine lv_iconst (v := 0) hx hb dX2_stick_67 (by decide) ?_
      refine lv_aload_n hx hb dX2_stick_68 rfl (lv_at hl 0 rfl) ?_
      refine va_get (D := (dC, dI)) (ci := 2) (v := .int pl) (C := RX2) (T := TX2) (N := 17) hx hb hts hinX2 hown hK hP 0 rfl rfl 9 (by decide) k2 (fun _ h9 => h9) rfl dX2_stick_69 ?_
      refine lv_iconst (v := 1) hx hb dX2_stick_72 (by decide) ?_
      refine lv_isub hx hb dX2_stick_73 ?_
      refine va_mmax hx hb (hml.trans hl.1.symm) hown k3 k4 k5 k6 (Nat.le_of_ble_eq_true rfl) (Nat.le_of_ble_eq_true rfl) (Nat.le_of_ble_eq_true rfl) (Nat.le_of_ble_eq_true rfl) dX2_stick_74 ?_
      refine lv_topi (fun f_5 ef_5 => ?_)
      have ef_5 : f_5 = kmax 0 (pl - 1) := ef_5
      refine va_put (D := (dC, dI)) (ci := 2) (v := .int f_5) (ty := .int) (C := RX2) (T := TX2) (N := 17) hx hb hts hinX2 tyX2 tyX2_ok nmX2 hown hK hP hD hS 0 rfl rfl 9 (by decide) k2 (fun _ h9 => h9) rfl (by decide +kernel) rfl rfl (Nat.le_of_ble_eq_true rfl) dX2_stick_77 (fun H_6 locs hP hD hS => ?_)
      have hP : va_P (dC, dI) vwCl [(mo, .inr (2, [.int tw, .ref bL, .ref bT, .int (nI n), .ref bK, .ref bF, .ref bS, .ref bB, .int f_2, .int f_5, .int st, .int jo, .int cn, .int ii, .int fi, .int fe, .ref bU])), (bK, .inl (cI, 60, .inl K)), (bF, .inl (cI, 60, .inl F)), (bS, .inl (cI, 60, .inl S)), (bB, .inl (cZ, 60, .inl B)), (bL, .inl (cI, 4, .inl L)), (bT, .inl (cI, 4, .inl T)), (bU, .inl (cI, 6, .inl U1_4))] H_6 := hP
      have hD : va_D A [(mo, .inr (2, [.int tw, .ref bL, .ref bT, .int (nI n), .ref bK, .ref bF, .ref bS, .ref bB, .int f_2, .int f_5, .int st, .int jo, .int cn, .int ii, .int fi, .int fe, .ref bU])), (bK, .inl (cI, 60, .inl K)), (bF, .inl (cI, 60, .inl F)), (bS, .inl (cI, 60, .inl S)), (bB, .inl (cZ, 60, .inl B)), (bL, .inl (cI, 4, .inl L)), (bT, .inl (cI, 4, .inl T)), (bU, .inl (cI, 6, .inl U1_4))] := hD
      have hpost : (f_2, f_5, U1_4) = hStk L co pl st U pa th := by
        unfold hStk; rw [if_pos c_15, if_pos c_53]; simp only [ef_2, hw_4, ef_5]
      have hP9 := hP.sub (ws' := [(mo, .inr (2, [.int tw, .ref bL, .ref bT, .int (nI n), .ref bK, .ref bF, .ref bS, .ref bB, .int f_2, .int f_5, .int st, .int jo, .int cn, .int ii, .int fi, .int fe, .ref bU])), (bK, .inl (cI, 60, .inl K)), (bF, .inl (cI, 60, .inl F)), (bS, .inl (cI, 60, .inl S)), (bB, .inl (cZ, 60, .inl B)), (bL, .inl (cI, 4, .inl L)), (bT, .inl (cI, 4, .inl T)), (bU, .inl (cI, 6, .inl U1_4))]) [0, 1, 2, 3, 4, 5, 6, 7] rfl
      have hD9 := hD.sub (ws' := [(mo, .inr (2, [.int tw, .ref bL, .ref bT, .int (nI n), .ref bK, .ref bF, .ref bS, .ref bB, .int f_2, .int f_5, .int st, .int jo, .int cn, .int ii, .int fi, .int fe, .ref bU])), (bK, .inl (cI, 60, .inl K)), (bF, .inl (cI, 60, .inl F)), (bS, .inl (cI, 60, .inl S)), (bB, .inl (cZ, 60, .inl B)), (bL, .inl (cI, 4, .inl L)), (bT, .inl (cI, 4, .inl T)), (bU, .inl (cI, 6, .inl U1_4))]) [0, 1, 2, 3, 4, 5, 6, 7] (by decide) rfl
      exact W.vret hx hb hr (fun t ht hW => ⟨⟨(f_2, f_5, U1_4), rfl, hpost, by rw [ht]; exact hP9, hD9⟩, hS.F ht⟩) hS.2.2 dX2_stick_80
    · -- 53
      refine lv_bipush (v := (-30)) hx hb dX2_stick_56 (by decide) ?_
      refine lv_goto (tgt := 63) hx hb dX2_stick_58 (by decide) ?_
      have hPc := hP.sub (ws' := [(mo, .inr (2, [.int tw, .ref bL, .ref bT, .int (nI n), .ref bK, .ref bF, .ref bS, .ref bB, .int f_2, .int pl, .int st, .int jo, .int cn, .int ii, .int fi, .int fe, .ref bU])), (bK, .inl (cI, 60, .inl K)), (bF, .inl (cI, 60, .inl F)), (bS, .inl (cI, 60, .inl S)), (bB, .inl (cZ, 60, .inl B)), (bL, .inl (cI, 4, .inl L)), (bT, .inl (cI, 4, .inl T)), (bU, .inl (cI, 6, .inl U))]) [0, 1, 2, 3, 4, 5, 6, 7] rfl
      have hDc := hD.sub (ws' := [(mo, .inr (2, [.int tw, .ref bL, .ref bT, .int (nI n), .ref bK, .ref bF, .ref bS, .ref bB, .int f_2, .int pl, .int st, .int jo, .int cn, .int ii, .int fi, .int fe, .ref bU])), (bK, .inl (cI, 60, .inl K)), (bF, .inl (cI, 60, .inl F)), (bS, .inl (cI, 60, .inl S)), (bB, .inl (cZ, 60, .inl B)), (bL, .inl (cI, 4, .inl L)), (bT, .inl (cI, 4, .inl T)), (bU, .inl (cI, 6, .inl U))]) [0, 1, 2, 3, 4, 5, 6, 7] (by decide) rfl
      have hKc := hK.sub (tys' := [(cI, .int), (cZ, .boolean)]) [0, 1] rfl
      have hFc := va_free (wc := [(mo, .inr (2, [.int tw, .ref bL, .ref bT, .int (nI n), .ref bK, .ref bF, .ref bS, .ref bB, .int f_2, .int pl, .int st, .int jo, .int cn, .int ii, .int fi, .int fe, .ref bU])), (bK, .inl (cI, 60, .inl K)), (bF, .inl (cI, 60, .inl F)), (bS, .inl (cI, 60, .inl S)), (bB, .inl (cZ, 60, .inl B)), (bL, .inl (cI, 4, .inl L)), (bT, .inl (cI, 4, .inl T)), (bU, .inl (cI, 6, .inl U))]) hD hS hA [0, 1, 2, 3, 4, 5, 6, 7] rfl
      refine va_callv (va_runV (As := [.int pa, .int (-30)]) (rest := []) ⟨hx, hb, hml, hown, hts⟩ (c_X2_more l dC dI cI cZ mo bK bF bS bB bL bT bU H_3.size L T K F S B U n tw f_2 pl st jo cn ii fi fe pa (-30) (by assumption)) (cwV 2 hts gX2_stick_X2_more rfl rfl rfl (by decide +kernel) ⟨Nat.le_of_ble_eq_true rfl, Nat.le_of_ble_eq_true rfl⟩) (pc_V hKc hPc hDc (ci := 2) (C := RX2) (T := TX2) (N := 17) (q0 := 0) rfl rfl) rfl rfl hl.1 rfl (lv_room (Nat.le_of_ble_eq_true rfl)) dX2_stick_63 ⟨Nat.le_of_ble_eq_true rfl, Nat.le_of_ble_eq_true rfl⟩) hS (fun q _ h => hFc q h) hFc (fun u t H_7 locs ht hvm hw hB hz1 hk1 hS => ?_)
      obtain ⟨U1_7, rfl⟩ : ∃ z, z = u := ⟨_, rfl⟩
      try dsimp only at hw hB
      have hw_7 := hw
      obtain ⟨hP1, hD1⟩ := hB
      rw [ht] at hP1
      obtain ⟨hP, hD⟩ := va_join (wr := []) (w1 := [(mo, .inr (2, [.int tw, .ref bL, .ref bT, .int (nI n), .ref bK, .ref bF, .ref bS, .ref bB, .int f_2, .int pl, .int st, .int jo, .int cn, .int ii, .int fi, .int fe, .ref bU])), (bK, .inl (cI, 60, .inl K)), (bF, .inl (cI, 60, .inl F)), (bS, .inl (cI, 60, .inl S)), (bB, .inl (cZ, 60, .inl B)), (bL, .inl (cI, 4, .inl L)), (bT, .inl (cI, 4, .inl T)), (bU, .inl (cI, 6, .inl U1_7))]) hP hD [0, 1, 2, 3, 4, 5, 6, 7] [] rfl rfl (by decide) (by decide) hk1 hFc hP1 hD1
      have hP : va_P (dC, dI) vwCl [(mo, .inr (2, [.int tw, .ref bL, .ref bT, .int (nI n), .ref bK, .ref bF, .ref bS, .ref bB, .int f_2, .int pl, .int st, .int jo, .int cn, .int ii, .int fi, .int fe, .ref bU])), (bK, .inl (cI, 60, .inl K)), (bF, .inl (cI, 60, .inl F)), (bS, .inl (cI, 60, .inl S)), (bB, .inl (cZ, 60, .inl B)), (bL, .inl (cI, 4, .inl L)), (bT, .inl (cI, 4, .inl T)), (bU, .inl (cI, 6, .inl U1_7))] H_7 := hP
      have hD : va_D A [(mo, .inr (2, [.int tw, .ref bL, .ref bT, .int (nI n), .ref bK, .ref bF, .ref bS, .ref bB, .int f_2, .int pl, .int st, .int jo, .int cn, .int ii, .int fi, .int fe, .ref bU])), (bK, .inl (cI, 60, .inl K)), (bF, .inl (cI, 60, .inl F)), (bS, .inl (cI, 60, .inl S)), (bB, .inl (cZ, 60, .inl B)), (bL, .inl (cI, 4, .inl L)), (bT, .inl (cI, 4, .inl T)), (bU, .inl (cI, 6, .inl U1_7))] := hD
      refine lv_aload_n hx hb dX2_stick_66 rfl (lv_at hl 0 rfl) ?_
      refine lv_iconst (v := 0) hx hb dX2_stick_67 (by decide) ?_
      refine lv_aload_n hx hb dX2_stick_68 rfl (lv_at hl 0 rfl) ?_
      refine va_get (D := (dC, dI)) (ci := 2) (v := .int pl) (C := RX2) (T := TX2) (N := 17) hx hb hts hinX2 hown hK hP 0 rfl rfl 9 (by decide) k2 (fun _ h9 => h9) rfl dX2_stick_69 ?_
      refine lv_iconst (v := 1) hx hb dX2_stick_72 (by decide) ?_
      refine lv_isub hx hb dX2_stick_73 ?_
      refine va_mmax hx hb (hml.trans hl.1.symm) hown k3 k4 k5 k6 (Nat.le_of_ble_eq_true rfl) (Nat.le_of_ble_eq_true rfl) (Nat.le_of_ble_eq_true rfl) (Nat.le_of_ble_eq_true rfl) dX2_stick_74 ?_
      refine lv_topi (fun f_8 ef_8 => ?_)
      have ef_8 : f_8 = kmax 0 (pl - 1) := ef_8
      refine va_put (D := (dC, dI)) (ci := 2) (v := .int f_8) (ty := .int) (C := RX2) (T := TX2) (N := 17) hx hb hts hinX2 tyX2 tyX2_ok nmX2 hown hK hP hD hS 0 rfl rfl 9 (by decide) k2 (fun _ h9 => h9) rfl (by decide +kernel) rfl rfl (Nat.le_of_ble_eq_true rfl) dX2_stick_77 (fun H_9 locs hP hD hS => ?_)
      have hP : va_P (dC, dI) vwCl [(mo, .inr (2, [.int tw, .ref bL, .ref bT, .int (nI n), .ref bK, .ref bF, .ref bS, .ref bB, .int f_2, .int f_8, .int st, .int jo, .int cn, .int ii, .int fi, .int fe, .ref bU])), (bK, .inl (cI, 60, .inl K)), (bF, .inl (cI, 60, .inl F)), (bS, .inl (cI, 60, .inl S)), (bB, .inl (cZ, 60, .inl B)), (bL, .inl (cI, 4, .inl L)), (bT, .inl (cI, 4, .inl T)), (bU, .inl (cI, 6, .inl U1_7))] H_9 := hP
      have hD : va_D A [(mo, .inr (2, [.int tw, .ref bL, .ref bT, .int (nI n), .ref bK, .ref bF, .ref bS, .ref bB, .int f_2, .int f_8, .int st, .int jo, .int cn, .int ii, .int fi, .int fe, .ref bU])), (bK, .inl (cI, 60, .inl K)), (bF, .inl (cI, 60, .inl F)), (bS, .inl (cI, 60, .inl S)), (bB, .inl (cZ, 60, .inl B)), (bL, .inl (cI, 4, .inl L)), (bT, .inl (cI, 4, .inl T)), (bU, .inl (cI, 6, .inl U1_7))] := hD
      have hpost : (f_2, f_8, U1_7) = hStk L co pl st U pa th := by
        unfold hStk; rw [if_pos c_15, if_neg c_53]; simp only [ef_2, hw_7, ef_8]
      have hP9 := hP.sub (ws' := [(mo, .inr (2, [.int tw, .ref bL, .ref bT, .int (nI n), .ref bK, .ref bF, .ref bS, .ref bB, .int f_2, .int f_8, .int st, .int jo, .int cn, .int ii, .int fi, .int fe, .ref bU])), (bK, .inl (cI, 60, .inl K)), (bF, .inl (cI, 60, .inl F)), (bS, .inl (cI, 60, .inl S)), (bB, .inl (cZ, 60, .inl B)), (bL, .inl (cI, 4, .inl L)), (bT, .inl (cI, 4, .inl T)), (bU, .inl (cI, 6, .inl U1_7))]) [0, 1, 2, 3, 4, 5, 6, 7] rfl
      have hD9 := hD.sub (ws' := [(mo, .inr (2, [.int tw, .ref bL, .ref bT, .int (nI n), .ref bK, .ref bF, .ref bS, .ref bB, .int f_2, .int f_8, .int st, .int jo, .int cn, .int ii, .int fi, .int fe, .ref bU])), (bK, .inl (cI, 60, .inl K)), (bF, .inl (cI, 60, .inl F)), (bS, .inl (cI, 60, .inl S)), (bB, .inl (cZ, 60, .inl B)), (bL, .inl (cI, 4, .inl L)), (bT, .inl (cI, 4, .inl T)), (bU, .inl (cI, 6, .inl U1_7))]) [0, 1, 2, 3, 4, 5, 6, 7] (by decide) rfl
      exact W.vret hx hb hr (fun t ht hW => ⟨⟨(f_2, f_8, U1_7), rfl, hpost, by rw [ht]; exact hP9, hD9⟩, hS.F ht⟩) hS.2.2 dX2_stick_80
  · -- 15
    refine lv_aload_n hx hb dX2_stick_18 rfl (lv_at hl 0 rfl) ?_
    refine lv_iload_n hx hb dX2_stick_19 rfl (lv_at hl 1 rfl) ?_
    refine lv_iload_n hx hb dX2_stick_20 rfl (lv_at hl 2 rfl) ?_
    refine lv_iconst (v := 4) hx hb dX2_stick_21 (by decide) ?_
    refine lv_icmp_ge (tgt := 30) hx hb dX2_stick_22 (by decide) (fun c_22 => ?_) (fun c_22 => ?_)
    · -- 22
      refine lv_iload_n hx hb dX2_stick_30 rfl (lv_at hl 2 rfl) ?_
      refine lv_bipush (v := 10) hx hb dX2_stick_31 (by decide) ?_
      refine lv_icmp_ge (tgt := 40) hx hb dX2_stick_33 (by decide) (fun c_33 => ?_) (fun c_33 => ?_)
      · -- 33
        refine lv_iconst (v := 3) hx hb dX2_stick_40 (by decide) ?_
        have hPc := hP.sub (ws' := [(mo, .inr (2, [.int tw, .ref bL, .ref bT, .int (nI n), .ref bK, .ref bF, .ref bS, .ref bB, .int f_2, .int pl, .int st, .int jo, .int cn, .int ii, .int fi, .int fe, .ref bU])), (bK, .inl (cI, 60, .inl K)), (bF, .inl (cI, 60, .inl F)), (bS, .inl (cI, 60, .inl S)), (bB, .inl (cZ, 60, .inl B)), (bL, .inl (cI, 4, .inl L)), (bT, .inl (cI, 4, .inl T)), (bU, .inl (cI, 6, .inl U))]) [0, 1, 2, 3, 4, 5, 6, 7] rfl
        have hDc := hD.sub (ws' := [(mo, .inr (2, [.int tw, .ref bL, .ref bT, .int (nI n), .ref bK, .ref bF, .ref bS, .ref bB, .int f_2, .int pl, .int st, .int jo, .int cn, .int ii, .int fi, .int fe, .ref bU])), (bK, .inl (cI, 60, .inl K)), (bF, .inl (cI, 60, .inl F)), (bS, .inl (cI, 60, .inl S)), (bB, .inl (cZ, 60, .inl B)), (bL, .inl (cI, 4, .inl L)), (bT, .inl (cI, 4, .inl T)), (bU, .inl (cI, 6, .inl U))]) [0, 1, 2, 3, 4, 5, 6, 7] (by decide) rfl
        have hKc := hK.sub (tys' := [(cI, .int), (cZ, .boolean)]) [0, 1] rfl
        have hFc := va_free (wc := [(mo, .inr (2, [.int tw, .ref bL, .ref bT, .int (nI n), .ref bK, .ref bF, .ref bS, .ref bB, .int f_2, .int pl, .int st, .int jo, .int cn, .int ii, .int fi, .int fe, .ref bU])), (bK, .inl (cI, 60, .inl K)), (bF, .inl (cI, 60, .inl F)), (bS, .inl (cI, 60, .inl S)), (bB, .inl (cZ, 60, .inl B)), (bL, .inl (cI, 4, .inl L)), (bT, .inl (cI, 4, .inl T)), (bU, .inl (cI, 6, .inl U))]) hD hS hA [0, 1, 2, 3, 4, 5, 6, 7] rfl
        refine va_callv (va_runV (As := [.int pa, .int 3]) (rest := []) ⟨hx, hb, hml, hown, hts⟩ (c_X2_more l dC dI cI cZ mo bK bF bS bB bL bT bU H_3.size L T K F S B U n tw f_2 pl st jo cn ii fi fe pa 3 (by assumption)) (cwV 2 hts gX2_stick_X2_more rfl rfl rfl (by decide +kernel) ⟨Nat.le_of_ble_eq_true rfl, Nat.le_of_ble_eq_true rfl⟩) (pc_V hKc hPc hDc (ci := 2) (C := RX2) (T := TX2) (N := 17) (q0 := 0) rfl rfl) rfl rfl hl.1 rfl (lv_room (Nat.le_of_ble_eq_true rfl)) dX2_stick_41 ⟨Nat.le_of_ble_eq_true rfl, Nat.le_of_ble_eq_true rfl⟩) hS (fun q _ h => hFc q h) hFc (fun u t H_10 locs ht hvm hw hB hz1 hk1 hS => ?_)
        obtain ⟨U1_10, rfl⟩ : ∃ z, z = u := ⟨_, rfl⟩
        try dsimp only at hw hB
        have hw_10 := hw
        obtain ⟨hP1, hD1⟩ := hB
        rw [ht] at hP1
        obtain ⟨hP, hD⟩ := va_join (wr := []) (w1 := [(mo, .inr (2, [.int tw, .ref bL, .ref bT, .int (nI n), .ref bK, .ref bF, .ref bS, .ref bB, .int f_2, .int pl, .int st, .int jo, .int cn, .int ii, .int fi, .int fe, .ref bU])), (bK, .inl (cI, 60, .inl K)), (bF, .inl (cI, 60, .inl F)), (bS, .inl (cI, 60, .inl S)), (bB, .inl (cZ, 60, .inl B)), (bL, .inl (cI, 4, .inl L)), (bT, .inl (cI, 4, .inl T)), (bU, .inl (cI, 6, .inl U1_10))]) hP hD [0, 1, 2, 3, 4, 5, 6, 7] [] rfl rfl (by decide) (by decide) hk1 hFc hP1 hD1
        have hP : va_P (dC, dI) vwCl [(mo, .inr (2, [.int tw, .ref bL, .ref bT, .int (nI n), .ref bK, .ref bF, .ref bS, .ref bB, .int f_2, .int pl, .int st, .int jo, .int cn, .int ii, .int fi, .int fe, .ref bU])), (bK, .inl (cI, 60, .inl K)), (bF, .inl (cI, 60, .inl F)), (bS, .inl (cI, 60, .inl S)), (bB, .inl (cZ, 60, .inl B)), (bL, .inl (cI, 4, .inl L)), (bT, .inl (cI, 4, .inl T)), (bU, .inl (cI, 6, .inl U1_10))] H_10 := hP
        have hD : va_D A [(mo, .inr (2, [.int tw, .ref bL, .ref bT, .int (nI n), .ref bK, .ref bF, .ref bS, .ref bB, .int f_2, .int pl, .int st, .int jo, .int cn, .int ii, .int fi, .int fe, .ref bU])), (bK, .inl (cI, 60, .inl K)), (bF, .inl (cI, 60, .inl F)), (bS, .inl (cI, 60, .inl S)), (bB, .inl (cZ, 60, .inl B)), (bL, .inl (cI, 4, .inl L)), (bT, .inl (cI, 4, .inl T)), (bU, .inl (cI, 6, .inl U1_10))] := hD
        refine lv_goto (tgt := 80) hx hb dX2_stick_44 (by decide) ?_
        have hpost : (f_2, pl, U1_10) = hStk L co pl st U pa th := by
          unfold hStk; rw [if_neg c_15, if_pos c_22, if_pos c_33]; simp only [ef_2, hw_10]
        have hP9 := hP.sub (ws' := [(mo, .inr (2, [.int tw, .ref bL, .ref bT, .int (nI n), .ref bK, .ref bF, .ref bS, .ref bB, .int f_2, .int pl, .int st, .int jo, .int cn, .int ii, .int fi, .int fe, .ref bU])), (bK, .inl (cI, 60, .inl K)), (bF, .inl (cI, 60, .inl F)), (bS, .inl (cI, 60, .inl S)), (bB, .inl (cZ, 60, .inl B)), (bL, .inl (cI, 4, .inl L)), (bT, .inl (cI, 4, .inl T)), (bU, .inl (cI, 6, .inl U1_10))]) [0, 1, 2, 3, 4, 5, 6, 7] rfl
        have hD9 := hD.sub (ws' := [(mo, .inr (2, [.int tw, .ref bL, .ref bT, .int (nI n), .ref bK, .ref bF, .ref bS, .ref bB, .int f_2, .int pl, .int st, .int jo, .int cn, .int ii, .int fi, .int fe, .ref bU])), (bK, .inl (cI, 60, .inl K)), (bF, .inl (cI, 60, .inl F)), (bS, .inl (cI, 60, .inl S)), (bB, .inl (cZ, 60, .inl B)), (bL, .inl (cI, 4, .inl L)), (bT, .inl (cI, 4, .inl T)), (bU, .inl (cI, 6, .inl U1_10))]) [0, 1, 2, 3, 4, 5, 6, 7] (by decide) rfl
        exact W.vret hx hb hr (fun t ht hW => ⟨⟨(f_2, pl, U1_10), rfl, hpost, by rw [ht]; exact hP9, hD9⟩, hS.F ht⟩) hS.2.2 dX2_stick_80
      · -- 33
        refine lv_iconst (v := 1) hx hb dX2_stick_36 (by decide) ?_
        refine lv_goto (tgt := 41) hx hb dX2_stick_37 (by decide) ?_
        have hPc := hP.sub (ws' := [(mo, .inr (2, [.int tw, .ref bL, .ref bT, .int (nI n), .ref bK, .ref bF, .ref bS, .ref bB, .int f_2, .int pl, .int st, .int jo, .int cn, .int ii, .int fi, .int fe, .ref bU])), (bK, .inl (cI, 60, .inl K)), (bF, .inl (cI, 60, .inl F)), (bS, .inl (cI, 60, .inl S)), (bB, .inl (cZ, 60, .inl B)), (bL, .inl (cI, 4, .inl L)), (bT, .inl (cI, 4, .inl T)), (bU, .inl (cI, 6, .inl U))]) [0, 1, 2, 3, 4, 5, 6, 7] rfl
        have hDc := hD.sub (ws' := [(mo, .inr (2, [.int tw, .ref bL, .ref bT, .int (nI n), .ref bK, .ref bF, .ref bS, .ref bB, .int f_2, .int pl, .int st, .int jo, .int cn, .int ii, .int fi, .int fe, .ref bU])), (bK, .inl (cI, 60, .inl K)), (bF, .inl (cI, 60, .inl F)), (bS, .inl (cI, 60, .inl S)), (bB, .inl (cZ, 60, .inl B)), (bL, .inl (cI, 4, .inl L)), (bT, .inl (cI, 4, .inl T)), (bU, .inl (cI, 6, .inl U))]) [0, 1, 2, 3, 4, 5, 6, 7] (by decide) rfl
        have hKc := hK.sub (tys' := [(cI, .int), (cZ, .boolean)]) [0, 1] rfl
        have hFc := va_free (wc := [(mo, .inr (2, [.int tw, .ref bL, .ref bT, .int (nI n), .ref bK, .ref bF, .ref bS, .ref bB, .int f_2, .int pl, .int st, .int jo, .int cn, .int ii, .int fi, .int fe, .ref bU])), (bK, .inl (cI, 60, .inl K)), (bF, .inl (cI, 60, .inl F)), (bS, .inl (cI, 60, .inl S)), (bB, .inl (cZ, 60, .inl B)), (bL, .inl (cI, 4, .inl L)), (bT, .inl (cI, 4, .inl T)), (bU, .inl (cI, 6, .inl U))]) hD hS hA [0, 1, 2, 3, 4, 5, 6, 7] rfl
        refine va_callv (va_runV (As := [.int pa, .int 1]) (rest := []) ⟨hx, hb, hml, hown, hts⟩ (c_X2_more l dC dI cI cZ mo bK bF bS bB bL bT bU H_3.size L T K F S B U n tw f_2 pl st jo cn ii fi fe pa 1 (by assumption)) (cwV 2 hts gX2_stick_X2_more rfl rfl rfl (by decide +kernel) ⟨Nat.le_of_ble_eq_true rfl, Nat.le_of_ble_eq_true rfl⟩) (pc_V hKc hPc hDc (ci := 2) (C := RX2) (T := TX2) (N := 17) (q0 := 0) rfl rfl) rfl rfl hl.1 rfl (lv_room (Nat.le_of_ble_eq_true rfl)) dX2_stick_41 ⟨Nat.le_of_ble_eq_true rfl, Nat.le_of_ble_eq_true rfl⟩) hS (fun q _ h => hFc q h) hFc (fun u t H_11 locs ht hvm hw hB hz1 hk1 hS => ?_)
        obtain ⟨U1_11, rfl⟩ : ∃ z, z = u := ⟨_, rfl⟩
        try dsimp only at hw hB
        have hw_11 := hw
        obtain ⟨hP1, hD1⟩ := hB
        rw [ht] at hP1
        obtain ⟨hP, hD⟩ := va_join (wr := []) (w1 := [(mo, .inr (2, [.int tw, .ref bL, .ref bT, .int (nI n), .ref bK, .ref bF, .ref bS, .ref bB, .int f_2, .int pl, .int st, .int jo, .int cn, .int ii, .int fi, .int fe, .ref bU])), (bK, .inl (cI, 60, .inl K)), (bF, .inl (cI, 60, .inl F)), (bS, .inl (cI, 60, .inl S)), (bB, .inl (cZ, 60, .inl B)), (bL, .inl (cI, 4, .inl L)), (bT, .inl (cI, 4, .inl T)), (bU, .inl (cI, 6, .inl U1_11))]) hP hD [0, 1, 2, 3, 4, 5, 6, 7] [] rfl rfl (by decide) (by decide) hk1 hFc hP1 hD1
        have hP : va_P (dC, dI) vwCl [(mo, .inr (2, [.int tw, .ref bL, .ref bT, .int (nI n), .ref bK, .ref bF, .ref bS, .ref bB, .int f_2, .int pl, .int st, .int jo, .int cn, .int ii, .int fi, .int fe, .ref bU])), (bK, .inl (cI, 60, .inl K)), (bF, .inl (cI, 60, .inl F)), (bS, .inl (cI, 60, .inl S)), (bB, .inl (cZ, 60, .inl B)), (bL, .inl (cI, 4, .inl L)), (bT, .inl (cI, 4, .inl T)), (bU, .inl (cI, 6, .inl U1_11))] H_11 := hP
        have hD : va_D A [(mo, .inr (2, [.int tw, .ref bL, .ref bT, .int (nI n), .ref bK, .ref bF, .ref bS, .ref bB, .int f_2, .int pl, .int st, .int jo, .int cn, .int ii, .int fi, .int fe, .ref bU])), (bK, .inl (cI, 60, .inl K)), (bF, .inl (cI, 60, .inl F)), (bS, .inl (cI, 60, .inl S)), (bB, .inl (cZ, 60, .inl B)), (bL, .inl (cI, 4, .inl L)), (bT, .inl (cI, 4, .inl T)), (bU, .inl (cI, 6, .inl U1_11))] := hD
        refine lv_goto (tgt := 80) hx hb dX2_stick_44 (by decide) ?_
        have hpost : (f_2, pl, U1_11) = hStk L co pl st U pa th := by
          unfold hStk; rw [if_neg c_15, if_pos c_22, if_neg c_33]; simp only [ef_2, hw_11]
        have hP9 := hP.sub (ws' := [(mo, .inr (2, [.int tw, .ref bL, .ref bT, .int (nI n), .ref bK, .ref bF, .ref bS, .ref bB, .int f_2, .int pl, .int st, .int jo, .int cn, .int ii, .int fi, .int fe, .ref bU])), (bK, .inl (cI, 60, .inl K)), (bF, .inl (cI, 60, .inl F)), (bS, .inl (cI, 60, .inl S)), (bB, .inl (cZ, 60, .inl B)), (bL, .inl (cI, 4, .inl L)), (bT, .inl (cI, 4, .inl T)), (bU, .inl (cI, 6, .inl U1_11))]) [0, 1, 2, 3, 4, 5, 6, 7] rfl
        have hD9 := hD.sub (ws' := [(mo, .inr (2, [.int tw, .ref bL, .ref bT, .int (nI n), .ref bK, .ref bF, .ref bS, .ref bB, .int f_2, .int pl, .int st, .int jo, .int cn, .int ii, .int fi, .int fe, .ref bU])), (bK, .inl (cI, 60, .inl K)), (bF, .inl (cI, 60, .inl F)), (bS, .inl (cI, 60, .inl S)), (bB, .inl (cZ, 60, .inl B)), (bL, .inl (cI, 4, .inl L)), (bT, .inl (cI, 4, .inl T)), (bU, .inl (cI, 6, .inl U1_11))]) [0, 1, 2, 3, 4, 5, 6, 7] (by decide) rfl
        exact W.vret hx hb hr (fun t ht hW => ⟨⟨(f_2, pl, U1_11), rfl, hpost, by rw [ht]; exact hP9, hD9⟩, hS.F ht⟩) hS.2.2 dX2_stick_80
    · -- 22
      refine lv_bipush (v := (-4)) hx hb dX2_stick_25 (by decide) ?_
      refine lv_goto (tgt := 41) hx hb dX2_stick_27 (by decide) ?_
      have hPc := hP.sub (ws' := [(mo, .inr (2, [.int tw, .ref bL, .ref bT, .int (nI n), .ref bK, .ref bF, .ref bS, .ref bB, .int f_2, .int pl, .int st, .int jo, .int cn, .int ii, .int fi, .int fe, .ref bU])), (bK, .inl (cI, 60, .inl K)), (bF, .inl (cI, 60, .inl F)), (bS, .inl (cI, 60, .inl S)), (bB, .inl (cZ, 60, .inl B)), (bL, .inl (cI, 4, .inl L)), (bT, .inl (cI, 4, .inl T)), (bU, .inl (cI, 6, .inl U))]) [0, 1, 2, 3, 4, 5, 6, 7] rfl
      have hDc := hD.sub (ws' := [(mo, .inr (2, [.int tw, .ref bL, .ref bT, .int (nI n), .ref bK, .ref bF, .ref bS, .ref bB, .int f_2, .int pl, .int st, .int jo, .int cn, .int ii, .int fi, .int fe, .ref bU])), (bK, .inl (cI, 60, .inl K)), (bF, .inl (cI, 60, .inl F)), (bS, .inl (cI, 60, .inl S)), (bB, .inl (cZ, 60, .inl B)), (bL, .inl (cI, 4, .inl L)), (bT, .inl (cI, 4, .inl T)), (bU, .inl (cI, 6, .inl U))]) [0, 1, 2, 3, 4, 5, 6, 7] (by decide) rfl
      have hKc := hK.sub (tys' := [(cI, .int), (cZ, .boolean)]) [0, 1] rfl
      have hFc := va_free (wc := [(mo, .inr (2, [.int tw, .ref bL, .ref bT, .int (nI n), .ref bK, .ref bF, .ref bS, .ref bB, .int f_2, .int pl, .int st, .int jo, .int cn, .int ii, .int fi, .int fe, .ref bU])), (bK, .inl (cI, 60, .inl K)), (bF, .inl (cI, 60, .inl F)), (bS, .inl (cI, 60, .inl S)), (bB, .inl (cZ, 60, .inl B)), (bL, .inl (cI, 4, .inl L)), (bT, .inl (cI, 4, .inl T)), (bU, .inl (cI, 6, .inl U))]) hD hS hA [0, 1, 2, 3, 4, 5, 6, 7] rfl
      refine va_callv (va_runV (As := [.int pa, .int (-4)]) (rest := []) ⟨hx, hb, hml, hown, hts⟩ (c_X2_more l dC dI cI cZ mo bK bF bS bB bL bT bU H_3.size L T K F S B U n tw f_2 pl st jo cn ii fi fe pa (-4) (by assumption)) (cwV 2 hts gX2_stick_X2_more rfl rfl rfl (by decide +kernel) ⟨Nat.le_of_ble_eq_true rfl, Nat.le_of_ble_eq_true rfl⟩) (pc_V hKc hPc hDc (ci := 2) (C := RX2) (T := TX2) (N := 17) (q0 := 0) rfl rfl) rfl rfl hl.1 rfl (lv_room (Nat.le_of_ble_eq_true rfl)) dX2_stick_41 ⟨Nat.le_of_ble_eq_true rfl, Nat.le_of_ble_eq_true rfl⟩) hS (fun q _ h => hFc q h) hFc (fun u t H_12 locs ht hvm hw hB hz1 hk1 hS => ?_)
      obtain ⟨U1_12, rfl⟩ : ∃ z, z = u := ⟨_, rfl⟩
      try dsimp only at hw hB
      have hw_12 := hw
      obtain ⟨hP1, hD1⟩ := hB
      rw [ht] at hP1
      obtain ⟨hP, hD⟩ := va_join (wr := []) (w1 := [(mo, .inr (2, [.int tw, .ref bL, .ref bT, .int (nI n), .ref bK, .ref bF, .ref bS, .ref bB, .int f_2, .int pl, .int st, .int jo, .int cn, .int ii, .int fi, .int fe, .ref bU])), (bK, .inl (cI, 60, .inl K)), (bF, .inl (cI, 60, .inl F)), (bS, .inl (cI, 60, .inl S)), (bB, .inl (cZ, 60, .inl B)), (bL, .inl (cI, 4, .inl L)), (bT, .inl (cI, 4, .inl T)), (bU, .inl (cI, 6, .inl U1_12))]) hP hD [0, 1, 2, 3, 4, 5, 6, 7] [] rfl rfl (by decide) (by decide) hk1 hFc hP1 hD1
      have hP : va_P (dC, dI) vwCl [(mo, .inr (2, [.int tw, .ref bL, .ref bT, .int (nI n), .ref bK, .ref bF, .ref bS, .ref bB, .int f_2, .int pl, .int st, .int jo, .int cn, .int ii, .int fi, .int fe, .ref bU])), (bK, .inl (cI, 60, .inl K)), (bF, .inl (cI, 60, .inl F)), (bS, .inl (cI, 60, .inl S)), (bB, .inl (cZ, 60, .inl B)), (bL, .inl (cI, 4, .inl L)), (bT, .inl (cI, 4, .inl T)), (bU, .inl (cI, 6, .inl U1_12))] H_12 := hP
      have hD : va_D A [(mo, .inr (2, [.int tw, .ref bL, .ref bT, .int (nI n), .ref bK, .ref bF, .ref bS, .ref bB, .int f_2, .int pl, .int st, .int jo, .int cn, .int ii, .int fi, .int fe, .ref bU])), (bK, .inl (cI, 60, .inl K)), (bF, .inl (cI, 60, .inl F)), (bS, .inl (cI, 60, .inl S)), (bB, .inl (cZ, 60, .inl B)), (bL, .inl (cI, 4, .inl L)), (bT, .inl (cI, 4, .inl T)), (bU, .inl (cI, 6, .inl U1_12))] := hD
      refine lv_goto (tgt := 80) hx hb dX2_stick_44 (by decide) ?_
      have hpost : (f_2, pl, U1_12) = hStk L co pl st U pa th := by
        unfold hStk; rw [if_neg c_15, if_neg c_22]; simp only [ef_2, hw_12]
      have hP9 := hP.sub (ws' := [(mo, .inr (2, [.int tw, .ref bL, .ref bT, .int (nI n), .ref bK, .ref bF, .ref bS, .ref bB, .int f_2, .int pl, .int st, .int jo, .int cn, .int ii, .int fi, .int fe, .ref bU])), (bK, .inl (cI, 60, .inl K)), (bF, .inl (cI, 60, .inl F)), (bS, .inl (cI, 60, .inl S)), (bB, .inl (cZ, 60, .inl B)), (bL, .inl (cI, 4, .inl L)), (bT, .inl (cI, 4, .inl T)), (bU, .inl (cI, 6, .inl U1_12))]) [0, 1, 2, 3, 4, 5, 6, 7] rfl
      have hD9 := hD.sub (ws' := [(mo, .inr (2, [.int tw, .ref bL, .ref bT, .int (nI n), .ref bK, .ref bF, .ref bS, .ref bB, .int f_2, .int pl, .int st, .int jo, .int cn, .int ii, .int fi, .int fe, .ref bU])), (bK, .inl (cI, 60, .inl K)), (bF, .inl (cI, 60, .inl F)), (bS, .inl (cI, 60, .inl S)), (bB, .inl (cZ, 60, .inl B)), (bL, .inl (cI, 4, .inl L)), (bT, .inl (cI, 4, .inl T)), (bU, .inl (cI, 6, .inl U1_12))]) [0, 1, 2, 3, 4, 5, 6, 7] (by decide) rfl
      exact W.vret hx hb hr (fun t ht hW => ⟨⟨(f_2, pl, U1_12), rfl, hpost, by rw [ht]; exact hP9, hD9⟩, hS.F ht⟩) hS.2.2 dX2_stick_80

set_option maxHeartbeats 4000000 in
set_option maxRecDepth 100000 in
theorem c_X2_carryOut (l : Launch) (dC : Nat → ClassId) (dI : Nat → Nat → Nat) (cI cZ : ClassId) (mo bK bF bS bB bL bT bU : Nat) (sz : Nat) (L : N2I) (T : N2I) (K : N2I) (F : N2I) (S : N2I) (B : N2I) (U : N2I) (n : Nat) (tw : Int32) (co : Int32) (pl : Int32) (st : Int32) (jo : Int32) (cn : Int32) (ii : Int32) (fi : Int32) (fe : Int32) (i : Nat) (q : Nat) (hi : i < 60) (hst : vp_in st 4) (hjo : vp_in jo 7) (hq9 : pl = nI q ∧ q < 2000) (hok : okE (K i) (F i) (S i)) (hh : ¬ (mHap L T (K i) (F i) (S i) co pl st jo U).1 = 0) : Met l yX2_carryOut wsX2_carryOut ({ frames := 3, cells := 0, slots := 0, locals := 60 } : Room) (va_Pc [.ref mo, .int (nI i)] (pc_ (dC, dI) [(cI, .int), (cZ, .boolean)] [(mo, .inr (2, [.int tw, .ref bL, .ref bT, .int (nI n), .ref bK, .ref bF, .ref bS, .ref bB, .int co, .int pl, .int st, .int jo, .int cn, .int ii, .int fi, .int fe, .ref bU])), (bK, .inl (cI, 60, .inl K)), (bF, .inl (cI, 60, .inl F)), (bS, .inl (cI, 60, .inl S)), (bB, .inl (cZ, 60, .inl B)), (bL, .inl (cI, 4, .inl L)), (bT, .inl (cI, 4, .inl T)), (bU, .inl (cI, 6, .inl U))] sz)) (va_Qv (fun (u : Int32 × Int32 × Int32 × Int32 × N2I) => (u.1, u.2.1, u.2.2.1, u.2.2.2.1, u.2.2.2.2) = (mHap L T (K i) (F i) (S i) co pl st jo U).2) (fun (u : Int32 × Int32 × Int32 × Int32 × N2I) (t : State) => va_P (dC, dI) vwCl [(mo, .inr (2, [.int tw, .ref bL, .ref bT, .int (nI n), .ref bK, .ref bF, .ref bS, .ref bB, .int u.1, .int u.2.1, .int u.2.2.1, .int u.2.2.2.1, .int cn, .int ii, .int fi, .int fe, .ref bU])), (bK, .inl (cI, 60, .inl K)), (bF, .inl (cI, 60, .inl F)), (bS, .inl (cI, 60, .inl S)), (bB, .inl (cZ, 60, .inl B)), (bL, .inl (cI, 4, .inl L)), (bT, .inl (cI, 4, .inl T)), (bU, .inl (cI, 6, .inl u.2.2.2.2))] t.heap ∧ va_D (va_A [(mo, .inr (2, [.int tw, .ref bL, .ref bT, .int (nI n), .ref bK, .ref bF, .ref bS, .ref bB, .int co, .int pl, .int st, .int jo, .int cn, .int ii, .int fi, .int fe, .ref bU])), (bK, .inl (cI, 60, .inl K)), (bF, .inl (cI, 60, .inl F)), (bS, .inl (cI, 60, .inl S)), (bB, .inl (cZ, 60, .inl B)), (bL, .inl (cI, 4, .inl L)), (bT, .inl (cI, 4, .inl T)), (bU, .inl (cI, 6, .inl U))] sz) [(mo, .inr (2, [.int tw, .ref bL, .ref bT, .int (nI n), .ref bK, .ref bF, .ref bS, .ref bB, .int u.1, .int u.2.1, .int u.2.2.1, .int u.2.2.2.1, .int cn, .int ii, .int fi, .int fe, .ref bU])), (bK, .inl (cI, 60, .inl K)), (bF, .inl (cI, 60, .inl F)), (bS, .inl (cI, 60, .inl S)), (bB, .inl (cZ, 60, .inl B)), (bL, .inl (cI, 4, .inl L)), (bT, .inl (cI, 4, .inl T)), (bU, .inl (cI, 6, .inl u.2.2.2.2))]) (va_A [(mo, .inr (2, [.int tw, .ref bL, .ref bT, .int (nI n), .ref bK, .ref bF, .ref bS, .ref bB, .int co, .int pl, .int st, .int jo, .int cn, .int ii, .int fi, .int fe, .ref bU])), (bK, .inl (cI, 60, .inl K)), (bF, .inl (cI, 60, .inl F)), (bS, .inl (cI, 60, .inl S)), (bB, .inl (cZ, 60, .inl B)), (bL, .inl (cI, 4, .inl L)), (bT, .inl (cI, 4, .inl T)), (bU, .inl (cI, 6, .inl U))] sz)) 0 0 (va_A [(mo, .inr (2, [.int tw, .ref bL, .ref bT, .int (nI n), .ref bK, .ref bF, .ref bS, .ref bB, .int co, .int pl, .int st, .int jo, .int cn, .int ii, .int fi, .int fe, .ref bU])), (bK, .inl (cI, 60, .inl K)), (bF, .inl (cI, 60, .inl F)), (bS, .inl (cI, 60, .inl S)), (bB, .inl (cZ, 60, .inl B)), (bL, .inl (cI, 4, .inl L)), (bT, .inl (cI, 4, .inl T)), (bU, .inl (cI, 6, .inl U))] sz) := by
  refine Met.ofW (cc := cX2_carryOut) (maxL := 4) (ret := none) (by decide) rfl ?_
  intro p e s m args below meth c s₁ BB hml hv
  obtain ⟨rfl, hsz, hP, hK, hD0⟩ := hv
  have hx := BB.exec
  have hb := BB.bytes
  have hr := BB.returns
  have hts := atoms_spec (ws := wsX2_carryOut) BB.pre
  have hown : s.vm.findClass RX2 = some m.cls := findClass_of_methodNamed BB.named
  have hlocks := BB.notSynchronized
  subst hsz
  have hD := hD0.self (sz := s.heap.size)
  generalize hAe : va_A [(mo, .inr (2, [.int tw, .ref bL, .ref bT, .int (nI n), .ref bK, .ref bF, .ref bS, .ref bB, .int co, .int pl, .int st, .int jo, .int cn, .int ii, .int fi, .int fe, .ref bU])), (bK, .inl (cI, 60, .inl K)), (bF, .inl (cI, 60, .inl F)), (bS, .inl (cI, 60, .inl S)), (bB, .inl (cZ, 60, .inl B)), (bL, .inl (cI, 4, .inl L)), (bT, .inl (cI, 4, .inl T)), (bU, .inl (cI, 6, .inl U))] s.heap.size = A at hD ⊢
  have hA : ∀ q : Nat, s.heap.size ≤ q → A q := fun q h => by rw [← hAe]; exact Or.inr h
  have hS : va_S A s.heap s.heap [] := va_S.rf
  have hP : va_P (dC, dI) vwCl [(mo, .inr (2, [.int tw, .ref bL, .ref bT, .int (nI n), .ref bK, .ref bF, .ref bS, .ref bB, .int co, .int pl, .int st, .int jo, .int cn, .int ii, .int fi, .int fe, .ref bU])), (bK, .inl (cI, 60, .inl K)), (bF, .inl (cI, 60, .inl F)), (bS, .inl (cI, 60, .inl S)), (bB, .inl (cZ, 60, .inl B)), (bL, .inl (cI, 4, .inl L)), (bT, .inl (cI, 4, .inl T)), (bU, .inl (cI, 6, .inl U))] s.heap := hP
  have hl := lv_entry ([.ref mo, .int (nI i)]) (n := 4) (Nat.le_of_ble_eq_true rfl)
  rw [lg_entry_eq]
  generalize (lg_sl ([.ref mo, .int (nI i)]) ++ List.replicate (4 - (lg_sl ([.ref mo, .int (nI i)])).length) Slot.unset).toArray = ls at hl ⊢
  have hl : lv_has ls 4 [(0, .ref mo), (1, .int (nI i))] := hl
  have k0 := hts (.fieldLink RX2 19 "KnifeLedgerModel" "firsts" "[I") (by decide +kernel)
  have hinX2 : ∀ w ∈ wsX20, w ∈ wsX2_carryOut := by decide +kernel
  have k2 := hts (.fieldLink RX2 22 "KnifeLedgerModel" "seconds" "[I") (by decide +kernel)
  have k3 := hts (.fieldLink RX2 16 "KnifeLedgerModel" "kinds" "[I") (by decide +kernel)
  have k4 := hts (.fieldLink RX2 29 "KnifeLedgerModel" "trusts" "[I") (by decide +kernel)
  have k5 := hts (.fieldLink RX2 60 "KnifeLedgerModel" "joined" "I") (by decide +kernel)
  have k6 := hts (.fieldLink RX2 63 "KnifeLedgerModel" "stage" "I") (by decide +kernel)
  have k7 := hts (.fieldLink RX2 70 "KnifeLedgerModel" "coins" "I") (by decide +kernel)
  have k8 := hts (.fieldLink RX2 80 "KnifeLedgerModel" "plasters" "I") (by decide +kernel)
  refine lv_aload_n hx hb dX2_carryOut_0 rfl (lv_at hl 0 rfl) ?_
  refine va_get (D := (dC, dI)) (ci := 2) (v := .ref bF) (C := RX2) (T := TX2) (N := 17) hx hb hts hinX2 hown hK hP 0 rfl rfl 5 (by decide) k0 (fun _ h9 => h9) rfl dX2_carryOut_1 ?_
  refine lv_iload_n hx hb dX2_carryOut_4 rfl (lv_at hl 1 rfl) ?_
  refine va_iald hx hb hK hP 2 0 rfl rfl (vp_in_nI (by omega) (by omega)) dX2_carryOut_5 ?_
  rw [nI_clamp (n := i) (by omega)]
  refine lv_istore_n (lv' := [(2, .int (F i)), (0, .ref mo), (1, .int (nI i))]) hx hb dX2_carryOut_6 rfl hl (by decide) rfl (fun ls hl => ?_)
  refine lv_aload_n hx hb dX2_carryOut_7 rfl (lv_at hl 1 rfl) ?_
  refine va_get (D := (dC, dI)) (ci := 2) (v := .ref bS) (C := RX2) (T := TX2) (N := 17) hx hb hts hinX2 hown hK hP 0 rfl rfl 6 (by decide) k2 (fun _ h9 => h9) rfl dX2_carryOut_8 ?_
  refine lv_iload_n hx hb dX2_carryOut_11 rfl (lv_at hl 2 rfl) ?_
  refine va_iald hx hb hK hP 3 0 rfl rfl (vp_in_nI (by omega) (by omega)) dX2_carryOut_12 ?_
  rw [nI_clamp (n := i) (by omega)]
  refine lv_istore_n (lv' := [(3, .int (S i)), (2, .int (F i)), (0, .ref mo), (1, .int (nI i))]) hx hb dX2_carryOut_13 rfl hl (by decide) rfl (fun ls hl => ?_)
  refine lv_aload_n hx hb dX2_carryOut_14 rfl (lv_at hl 2 rfl) ?_
  refine va_get (D := (dC, dI)) (ci := 2) (v := .ref bK) (C := RX2) (T := TX2) (N := 17) hx hb hts hinX2 hown hK hP 0 rfl rfl 4 (by decide) k3 (fun _ h9 => h9) rfl dX2_carryOut_15 ?_
  refine lv_iload_n hx hb dX2_carryOut_18 rfl (lv_at hl 3 rfl) ?_
  refine va_iald hx hb hK hP 1 0 rfl rfl (vp_in_nI (by omega) (by omega)) dX2_carryOut_19 ?_
  rw [nI_clamp (n := i) (by omega)]
  by_cases k_20_0 : (K i) = 0
  · -- case 0
    refine lv_tableIn (off := 36) (tgt := 56) hx hb dX2_carryOut_20 (by rw [k_20_0]; decide) (by rw [k_20_0]; decide) (by rw [k_20_0]; rfl) (by decide) ?_
    have hj6 : jo < 6 := mJoin_yes (by unfold mHap at hh; rw [if_pos k_20_0] at hh; exact hh)
    refine lv_aload_n hx hb dX2_carryOut_56 rfl (lv_at hl 2 rfl) ?_
    refine va_get (D := (dC, dI)) (ci := 2) (v := .ref bU) (C := RX2) (T := TX2) (N := 17) hx hb hts hinX2 hown hK hP 0 rfl rfl 16 (by decide) k4 (fun _ h9 => h9) rfl dX2_carryOut_57 ?_
    refine lv_aload_n hx hb dX2_carryOut_60 rfl (lv_at hl 2 rfl) ?_
    refine va_get (D := (dC, dI)) (ci := 2) (v := .int jo) (C := RX2) (T := TX2) (N := 17) hx hb hts hinX2 hown hK hP 0 rfl rfl 11 (by decide) k5 (fun _ h9 => h9) rfl dX2_carryOut_61 ?_
    refine lv_iload_n hx hb dX2_carryOut_64 rfl (lv_at hl 1 rfl) ?_
    refine va_iast hx hb hK hP hD hS 7 0 rfl rfl (lt6_in hjo hj6) dX2_carryOut_65 (fun H_2 locs hP hD hS => ?_)
    have hP : va_P (dC, dI) vwCl [(mo, .inr (2, [.int tw, .ref bL, .ref bT, .int (nI n), .ref bK, .ref bF, .ref bS, .ref bB, .int co, .int pl, .int st, .int jo, .int cn, .int ii, .int fi, .int fe, .ref bU])), (bK, .inl (cI, 60, .inl K)), (bF, .inl (cI, 60, .inl F)), (bS, .inl (cI, 60, .inl S)), (bB, .inl (cZ, 60, .inl B)), (bL, .inl (cI, 4, .inl L)), (bT, .inl (cI, 4, .inl T)), (bU, .inl (cI, 6, .inl (upd U (jo.toNatClampNeg) (F i))))] H_2 := hP
    have hD : va_D A [(mo, .inr (2, [.int tw, .ref bL, .ref bT, .int (nI n), .ref bK, .ref bF, .ref bS, .ref bB, .int co, .int pl, .int st, .int jo, .int cn, .int ii, .int fi, .int fe, .ref bU])), (bK, .inl (cI, 60, .inl K)), (bF, .inl (cI, 60, .inl F)), (bS, .inl (cI, 60, .inl S)), (bB, .inl (cZ, 60, .inl B)), (bL, .inl (cI, 4, .inl L)), (bT, .inl (cI, 4, .inl T)), (bU, .inl (cI, 6, .inl (upd U (jo.toNatClampNeg) (F i))))] := hD
    refine lv_aload_n hx hb dX2_carryOut_66 rfl (lv_at hl 2 rfl) ?_
    refine lv_dup hx hb dX2_carryOut_67 rfl ?_
    refine va_get (D := (dC, dI)) (ci := 2) (v := .int jo) (C := RX2) (T := TX2) (N := 17) hx hb hts hinX2 hown hK hP 0 rfl rfl 11 (by decide) k5 (fun _ h9 => h9) rfl dX2_carryOut_68 ?_
    refine lv_iconst (v := 1) hx hb dX2_carryOut_71 (by decide) ?_
    refine lv_iadd hx hb dX2_carryOut_72 ?_
    refine lv_topi (fun f_3 ef_3 => ?_)
    refine va_put (D := (dC, dI)) (ci := 2) (v := .int f_3) (ty := .int) (C := RX2) (T := TX2) (N := 17) hx hb hts hinX2 tyX2 tyX2_ok nmX2 hown hK hP hD hS 0 rfl rfl 11 (by decide) k5 (fun _ h9 => h9) rfl (by decide +kernel) rfl rfl (Nat.le_of_ble_eq_true rfl) dX2_carryOut_73 (fun H_4 locs hP hD hS => ?_)
    have hP : va_P (dC, dI) vwCl [(mo, .inr (2, [.int tw, .ref bL, .ref bT, .int (nI n), .ref bK, .ref bF, .ref bS, .ref bB, .int co, .int pl, .int st, .int f_3, .int cn, .int ii, .int fi, .int fe, .ref bU])), (bK, .inl (cI, 60, .inl K)), (bF, .inl (cI, 60, .inl F)), (bS, .inl (cI, 60, .inl S)), (bB, .inl (cZ, 60, .inl B)), (bL, .inl (cI, 4, .inl L)), (bT, .inl (cI, 4, .inl T)), (bU, .inl (cI, 6, .inl (upd U (jo.toNatClampNeg) (F i))))] H_4 := hP
    have hD : va_D A [(mo, .inr (2, [.int tw, .ref bL, .ref bT, .int (nI n), .ref bK, .ref bF, .ref bS, .ref bB, .int co, .int pl, .int st, .int f_3, .int cn, .int ii, .int fi, .int fe, .ref bU])), (bK, .inl (cI, 60, .inl K)), (bF, .inl (cI, 60, .inl F)), (bS, .inl (cI, 60, .inl S)), (bB, .inl (cZ, 60, .inl B)), (bL, .inl (cI, 4, .inl L)), (bT, .inl (cI, 4, .inl T)), (bU, .inl (cI, 6, .inl (upd U (jo.toNatClampNeg) (F i))))] := hD
    have hpost : (co, pl, st, f_3, (upd U (jo.toNatClampNeg) (F i))) = (mHap L T (K i) (F i) (S i) co pl st jo U).2 := by
      unfold mHap at hh ⊢; rw [if_pos k_20_0] at hh; rw [if_pos k_20_0]; unfold mJoin; rw [if_pos hj6]; simp only [ef_3]
    have hP9 := hP.sub (ws' := [(mo, .inr (2, [.int tw, .ref bL, .ref bT, .int (nI n), .ref bK, .ref bF, .ref bS, .ref bB, .int co, .int pl, .int st, .int f_3, .int cn, .int ii, .int fi, .int fe, .ref bU])), (bK, .inl (cI, 60, .inl K)), (bF, .inl (cI, 60, .inl F)), (bS, .inl (cI, 60, .inl S)), (bB, .inl (cZ, 60, .inl B)), (bL, .inl (cI, 4, .inl L)), (bT, .inl (cI, 4, .inl T)), (bU, .inl (cI, 6, .inl (upd U (jo.toNatClampNeg) (F i))))]) [0, 1, 2, 3, 4, 5, 6, 7] rfl
    have hD9 := hD.sub (ws' := [(mo, .inr (2, [.int tw, .ref bL, .ref bT, .int (nI n), .ref bK, .ref bF, .ref bS, .ref bB, .int co, .int pl, .int st, .int f_3, .int cn, .int ii, .int fi, .int fe, .ref bU])), (bK, .inl (cI, 60, .inl K)), (bF, .inl (cI, 60, .inl F)), (bS, .inl (cI, 60, .inl S)), (bB, .inl (cZ, 60, .inl B)), (bL, .inl (cI, 4, .inl L)), (bT, .inl (cI, 4, .inl T)), (bU, .inl (cI, 6, .inl (upd U (jo.toNatClampNeg) (F i))))]) [0, 1, 2, 3, 4, 5, 6, 7] (by decide) rfl
    exact W.vret hx hb hr (fun t ht hW => ⟨⟨(co, pl, st, f_3, upd U (jo.toNatClampNeg) (F i)), rfl, hpost, by rw [ht]; exact hP9, hD9⟩, hS.F ht⟩) hS.2.2 dX2_carryOut_76
  by_cases k_20_1 : (K i) = 1
  · -- case 1
    refine lv_tableIn (off := 57) (tgt := 77) hx hb dX2_carryOut_20 (by rw [k_20_1]; decide) (by rw [k_20_1]; decide) (by rw [k_20_1]; rfl) (by decide) ?_
    refine lv_aload_n hx hb dX2_carryOut_77 rfl (lv_at hl 2 rfl) ?_
    refine lv_iload_n hx hb dX2_carryOut_78 rfl (lv_at hl 1 rfl) ?_
    refine lv_iload_n hx hb dX2_carryOut_79 rfl (lv_at hl 0 rfl) ?_
    have hPc := hP.sub (ws' := [(mo, .inr (2, [.int tw, .ref bL, .ref bT, .int (nI n), .ref bK, .ref bF, .ref bS, .ref bB, .int co, .int pl, .int st, .int jo, .int cn, .int ii, .int fi, .int fe, .ref bU])), (bK, .inl (cI, 60, .inl K)), (bF, .inl (cI, 60, .inl F)), (bS, .inl (cI, 60, .inl S)), (bB, .inl (cZ, 60, .inl B)), (bL, .inl (cI, 4, .inl L)), (bT, .inl (cI, 4, .inl T)), (bU, .inl (cI, 6, .inl U))]) [0, 1, 2, 3, 4, 5, 6, 7] rfl
    have hDc := hD.sub (ws' := [(mo, .inr (2, [.int tw, .ref bL, .ref bT, .int (nI n), .ref bK, .ref bF, .ref bS, .ref bB, .int co, .int pl, .int st, .int jo, .int cn, .int ii, .int fi, .int fe, .ref bU])), (bK, .inl (cI, 60, .inl K)), (bF, .inl (cI, 60, .inl F)), (bS, .inl (cI, 60, .inl S)), (bB, .inl (cZ, 60, .inl B)), (bL, .inl (cI, 4, .inl L)), (bT, .inl (cI, 4, .inl T)), (bU, .inl (cI, 6, .inl U))]) [0, 1, 2, 3, 4, 5, 6, 7] (by decide) rfl
    have hKc := hK.sub (tys' := [(cI, .int), (cZ, .boolean)]) [0, 1] rfl
    have hFc := va_free (wc := [(mo, .inr (2, [.int tw, .ref bL, .ref bT, .int (nI n), .ref bK, .ref bF, .ref bS, .ref bB, .int co, .int pl, .int st, .int jo, .int cn, .int ii, .int fi, .int fe, .ref bU])), (bK, .inl (cI, 60, .inl K)), (bF, .inl (cI, 60, .inl F)), (bS, .inl (cI, 60, .inl S)), (bB, .inl (cZ, 60, .inl B)), (bL, .inl (cI, 4, .inl L)), (bT, .inl (cI, 4, .inl T)), (bU, .inl (cI, 6, .inl U))]) hD hS hA [0, 1, 2, 3, 4, 5, 6, 7] rfl
    refine va_callv (va_runV (As := [.int (F i), .int (S i)]) (rest := []) ⟨hx, hb, hml, hown, hts⟩ (c_X2_stick l dC dI cI cZ mo bK bF bS bB bL bT bU s.heap.size L T K F S B U n tw co pl st jo cn ii fi fe (F i) (S i) (hok.2.1 (Or.inl k_20_1)) (by assumption)) (cwV 2 hts gX2_carryOut_X2_stick rfl rfl rfl (by decide +kernel) ⟨Nat.le_of_ble_eq_true rfl, Nat.le_of_ble_eq_true rfl⟩) (pc_V hKc hPc hDc (ci := 2) (C := RX2) (T := TX2) (N := 17) (q0 := 0) rfl rfl) rfl rfl hl.1 rfl (lv_room (Nat.le_of_ble_eq_true rfl)) dX2_carryOut_80 ⟨Nat.le_of_ble_eq_true rfl, Nat.le_of_ble_eq_true rfl⟩) hS (fun q _ h => hFc q h) hFc (fun u t H_5 locs ht hvm hw hB hz1 hk1 hS => ?_)
    obtain ⟨co1_5, pl1_5, U1_5⟩ := u
    try dsimp only at hw hB
    have hw_5 := hw
    obtain ⟨hP1, hD1⟩ := hB
    rw [ht] at hP1
    obtain ⟨hP, hD⟩ := va_join (wr := []) (w1 := [(mo, .inr (2, [.int tw, .ref bL, .ref bT, .int (nI n), .ref bK, .ref bF, .ref bS, .ref bB, .int co1_5, .int pl1_5, .int st, .int jo, .int cn, .int ii, .int fi, .int fe, .ref bU])), (bK, .inl (cI, 60, .inl K)), (bF, .inl (cI, 60, .inl F)), (bS, .inl (cI, 60, .inl S)), (bB, .inl (cZ, 60, .inl B)), (bL, .inl (cI, 4, .inl L)), (bT, .inl (cI, 4, .inl T)), (bU, .inl (cI, 6, .inl U1_5))]) hP hD [0, 1, 2, 3, 4, 5, 6, 7] [] rfl rfl (by decide) (by decide) hk1 hFc hP1 hD1
    have hP : va_P (dC, dI) vwCl [(mo, .inr (2, [.int tw, .ref bL, .ref bT, .int (nI n), .ref bK, .ref bF, .ref bS, .ref bB, .int co1_5, .int pl1_5, .int st, .int jo, .int cn, .int ii, .int fi, .int fe, .ref bU])), (bK, .inl (cI, 60, .inl K)), (bF, .inl (cI, 60, .inl F)), (bS, .inl (cI, 60, .inl S)), (bB, .inl (cZ, 60, .inl B)), (bL, .inl (cI, 4, .inl L)), (bT, .inl (cI, 4, .inl T)), (bU, .inl (cI, 6, .inl U1_5))] H_5 := hP
    have hD : va_D A [(mo, .inr (2, [.int tw, .ref bL, .ref bT, .int (nI n), .ref bK, .ref bF, .ref bS, .ref bB, .int co1_5, .int pl1_5, .int st, .int jo, .int cn, .int ii, .int fi, .int fe, .ref bU])), (bK, .inl (cI, 60, .inl K)), (bF, .inl (cI, 60, .inl F)), (bS, .inl (cI, 60, .inl S)), (bB, .inl (cZ, 60, .inl B)), (bL, .inl (cI, 4, .inl L)), (bT, .inl (cI, 4, .inl T)), (bU, .inl (cI, 6, .inl U1_5))] := hD
    have hpost : (co1_5, pl1_5, st, jo, U1_5) = (mHap L T (K i) (F i) (S i) co pl st jo U).2 := by
      unfold mHap at hh ⊢; rw [if_neg k_20_0, if_pos k_20_1] at hh; rw [if_neg k_20_0, if_pos k_20_1]; have e9 := hStk_eq (L := L) (co := co) hq9.2 (hok.2.2.1 k_20_1) (by rw [mToss_fst] at hh; exact hh); rw [← hq9.1] at e9; rw [e9]; exact congrArg (fun z : Int32 × Int32 × N2I => (z.1, z.2.1, st, jo, z.2.2)) hw_5
    have hP9 := hP.sub (ws' := [(mo, .inr (2, [.int tw, .ref bL, .ref bT, .int (nI n), .ref bK, .ref bF, .ref bS, .ref bB, .int co1_5, .int pl1_5, .int st, .int jo, .int cn, .int ii, .int fi, .int fe, .ref bU])), (bK, .inl (cI, 60, .inl K)), (bF, .inl (cI, 60, .inl F)), (bS, .inl (cI, 60, .inl S)), (bB, .inl (cZ, 60, .inl B)), (bL, .inl (cI, 4, .inl L)), (bT, .inl (cI, 4, .inl T)), (bU, .inl (cI, 6, .inl U1_5))]) [0, 1, 2, 3, 4, 5, 6, 7] rfl
    have hD9 := hD.sub (ws' := [(mo, .inr (2, [.int tw, .ref bL, .ref bT, .int (nI n), .ref bK, .ref bF, .ref bS, .ref bB, .int co1_5, .int pl1_5, .int st, .int jo, .int cn, .int ii, .int fi, .int fe, .ref bU])), (bK, .inl (cI, 60, .inl K)), (bF, .inl (cI, 60, .inl F)), (bS, .inl (cI, 60, .inl S)), (bB, .inl (cZ, 60, .inl B)), (bL, .inl (cI, 4, .inl L)), (bT, .inl (cI, 4, .inl T)), (bU, .inl (cI, 6, .inl U1_5))]) [0, 1, 2, 3, 4, 5, 6, 7] (by decide) rfl
    exact W.vret hx hb hr (fun t ht hW => ⟨⟨(co1_5, pl1_5, st, jo, U1_5), rfl, hpost, by rw [ht]; exact hP9, hD9⟩, hS.F ht⟩) hS.2.2 dX2_carryOut_83
  by_cases k_20_2 : (K i) = 2
  · -- case 2
    refine lv_tableIn (off := 64) (tgt := 84) hx hb dX2_carryOut_20 (by rw [k_20_2]; decide) (by rw [k_20_2]; decide) (by rw [k_20_2]; rfl) (by decide) ?_
    refine lv_aload_n hx hb dX2_carryOut_84 rfl (lv_at hl 2 rfl) ?_
    refine lv_iload_n hx hb dX2_carryOut_85 rfl (lv_at hl 1 rfl) ?_
    refine lv_bipush (v := 6) hx hb dX2_carryOut_86 (by decide) ?_
    have hPc := hP.sub (ws' := [(mo, .inr (2, [.int tw, .ref bL, .ref bT, .int (nI n), .ref bK, .ref bF, .ref bS, .ref bB, .int co, .int pl, .int st, .int jo, .int cn, .int ii, .int fi, .int fe, .ref bU])), (bK, .inl (cI, 60, .inl K)), (bF, .inl (cI, 60, .inl F)), (bS, .inl (cI, 60, .inl S)), (bB, .inl (cZ, 60, .inl B)), (bL, .inl (cI, 4, .inl L)), (bT, .inl (cI, 4, .inl T)), (bU, .inl (cI, 6, .inl U))]) [0, 1, 2, 3, 4, 5, 6, 7] rfl
    have hDc := hD.sub (ws' := [(mo, .inr (2, [.int tw, .ref bL, .ref bT, .int (nI n), .ref bK, .ref bF, .ref bS, .ref bB, .int co, .int pl, .int st, .int jo, .int cn, .int ii, .int fi, .int fe, .ref bU])), (bK, .inl (cI, 60, .inl K)), (bF, .inl (cI, 60, .inl F)), (bS, .inl (cI, 60, .inl S)), (bB, .inl (cZ, 60, .inl B)), (bL, .inl (cI, 4, .inl L)), (bT, .inl (cI, 4, .inl T)), (bU, .inl (cI, 6, .inl U))]) [0, 1, 2, 3, 4, 5, 6, 7] (by decide) rfl
    have hKc := hK.sub (tys' := [(cI, .int), (cZ, .boolean)]) [0, 1] rfl
    have hFc := va_free (wc := [(mo, .inr (2, [.int tw, .ref bL, .ref bT, .int (nI n), .ref bK, .ref bF, .ref bS, .ref bB, .int co, .int pl, .int st, .int jo, .int cn, .int ii, .int fi, .int fe, .ref bU])), (bK, .inl (cI, 60, .inl K)), (bF, .inl (cI, 60, .inl F)), (bS, .inl (cI, 60, .inl S)), (bB, .inl (cZ, 60, .inl B)), (bL, .inl (cI, 4, .inl L)), (bT, .inl (cI, 4, .inl T)), (bU, .inl (cI, 6, .inl U))]) hD hS hA [0, 1, 2, 3, 4, 5, 6, 7] rfl
    refine va_callv (va_runV (As := [.int (F i), .int 6]) (rest := []) ⟨hx, hb, hml, hown, hts⟩ (c_X2_more l dC dI cI cZ mo bK bF bS bB bL bT bU s.heap.size L T K F S B U n tw co pl st jo cn ii fi fe (F i) 6 (hok.2.1 (Or.inr (Or.inl k_20_2)))) (cwV 2 hts gX2_carryOut_X2_more rfl rfl rfl (by decide +kernel) ⟨Nat.le_of_ble_eq_true rfl, Nat.le_of_ble_eq_true rfl⟩) (pc_V hKc hPc hDc (ci := 2) (C := RX2) (T := TX2) (N := 17) (q0 := 0) rfl rfl) rfl rfl hl.1 rfl (lv_room (Nat.le_of_ble_eq_true rfl)) dX2_carryOut_88 ⟨Nat.le_of_ble_eq_true rfl, Nat.le_of_ble_eq_true rfl⟩) hS (fun q _ h => hFc q h) hFc (fun u t H_6 locs ht hvm hw hB hz1 hk1 hS => ?_)
    obtain ⟨U1_6, rfl⟩ : ∃ z, z = u := ⟨_, rfl⟩
    try dsimp only at hw hB
    have hw_6 := hw
    obtain ⟨hP1, hD1⟩ := hB
    rw [ht] at hP1
    obtain ⟨hP, hD⟩ := va_join (wr := []) (w1 := [(mo, .inr (2, [.int tw, .ref bL, .ref bT, .int (nI n), .ref bK, .ref bF, .ref bS, .ref bB, .int co, .int pl, .int st, .int jo, .int cn, .int ii, .int fi, .int fe, .ref bU])), (bK, .inl (cI, 60, .inl K)), (bF, .inl (cI, 60, .inl F)), (bS, .inl (cI, 60, .inl S)), (bB, .inl (cZ, 60, .inl B)), (bL, .inl (cI, 4, .inl L)), (bT, .inl (cI, 4, .inl T)), (bU, .inl (cI, 6, .inl U1_6))]) hP hD [0, 1, 2, 3, 4, 5, 6, 7] [] rfl rfl (by decide) (by decide) hk1 hFc hP1 hD1
    have hP : va_P (dC, dI) vwCl [(mo, .inr (2, [.int tw, .ref bL, .ref bT, .int (nI n), .ref bK, .ref bF, .ref bS, .ref bB, .int co, .int pl, .int st, .int jo, .int cn, .int ii, .int fi, .int fe, .ref bU])), (bK, .inl (cI, 60, .inl K)), (bF, .inl (cI, 60, .inl F)), (bS, .inl (cI, 60, .inl S)), (bB, .inl (cZ, 60, .inl B)), (bL, .inl (cI, 4, .inl L)), (bT, .inl (cI, 4, .inl T)), (bU, .inl (cI, 6, .inl U1_6))] H_6 := hP
    have hD : va_D A [(mo, .inr (2, [.int tw, .ref bL, .ref bT, .int (nI n), .ref bK, .ref bF, .ref bS, .ref bB, .int co, .int pl, .int st, .int jo, .int cn, .int ii, .int fi, .int fe, .ref bU])), (bK, .inl (cI, 60, .inl K)), (bF, .inl (cI, 60, .inl F)), (bS, .inl (cI, 60, .inl S)), (bB, .inl (cZ, 60, .inl B)), (bL, .inl (cI, 4, .inl L)), (bT, .inl (cI, 4, .inl T)), (bU, .inl (cI, 6, .inl U1_6))] := hD
    have hpost : (co, pl, st, jo, U1_6) = (mHap L T (K i) (F i) (S i) co pl st jo U).2 := by
      unfold mHap at hh ⊢; rw [if_neg k_20_0, if_neg k_20_1, if_pos k_20_2] at hh; rw [if_neg k_20_0, if_neg k_20_1, if_pos k_20_2]; unfold mRest; rw [if_neg (by rw [mRest_fst] at hh; exact hh)]; simp only [hw_6]
    have hP9 := hP.sub (ws' := [(mo, .inr (2, [.int tw, .ref bL, .ref bT, .int (nI n), .ref bK, .ref bF, .ref bS, .ref bB, .int co, .int pl, .int st, .int jo, .int cn, .int ii, .int fi, .int fe, .ref bU])), (bK, .inl (cI, 60, .inl K)), (bF, .inl (cI, 60, .inl F)), (bS, .inl (cI, 60, .inl S)), (bB, .inl (cZ, 60, .inl B)), (bL, .inl (cI, 4, .inl L)), (bT, .inl (cI, 4, .inl T)), (bU, .inl (cI, 6, .inl U1_6))]) [0, 1, 2, 3, 4, 5, 6, 7] rfl
    have hD9 := hD.sub (ws' := [(mo, .inr (2, [.int tw, .ref bL, .ref bT, .int (nI n), .ref bK, .ref bF, .ref bS, .ref bB, .int co, .int pl, .int st, .int jo, .int cn, .int ii, .int fi, .int fe, .ref bU])), (bK, .inl (cI, 60, .inl K)), (bF, .inl (cI, 60, .inl F)), (bS, .inl (cI, 60, .inl S)), (bB, .inl (cZ, 60, .inl B)), (bL, .inl (cI, 4, .inl L)), (bT, .inl (cI, 4, .inl T)), (bU, .inl (cI, 6, .inl U1_6))]) [0, 1, 2, 3, 4, 5, 6, 7] (by decide) rfl
    exact W.vret hx hb hr (fun t ht hW => ⟨⟨(co, pl, st, jo, U1_6), rfl, hpost, by rw [ht]; exact hP9, hD9⟩, hS.F ht⟩) hS.2.2 dX2_carryOut_91
  by_cases k_20_3 : (K i) = 3
  · -- case 3
    refine lv_tableIn (off := 72) (tgt := 92) hx hb dX2_carryOut_20 (by rw [k_20_3]; decide) (by rw [k_20_3]; decide) (by rw [k_20_3]; rfl) (by decide) ?_
    refine lv_aload_n hx hb dX2_carryOut_92 rfl (lv_at hl 2 rfl) ?_
    refine lv_iload_n hx hb dX2_carryOut_93 rfl (lv_at hl 1 rfl) ?_
    refine lv_topi (fun f_7 ef_7 => ?_)
    refine va_put (D := (dC, dI)) (ci := 2) (v := .int f_7) (ty := .int) (C := RX2) (T := TX2) (N := 17) hx hb hts hinX2 tyX2 tyX2_ok nmX2 hown hK hP hD hS 0 rfl rfl 10 (by decide) k6 (fun _ h9 => h9) rfl (by decide +kernel) rfl rfl (Nat.le_of_ble_eq_true rfl) dX2_carryOut_94 (fun H_8 locs hP hD hS => ?_)
    have hP : va_P (dC, dI) vwCl [(mo, .inr (2, [.int tw, .ref bL, .ref bT, .int (nI n), .ref bK, .ref bF, .ref bS, .ref bB, .int co, .int pl, .int f_7, .int jo, .int cn, .int ii, .int fi, .int fe, .ref bU])), (bK, .inl (cI, 60, .inl K)), (bF, .inl (cI, 60, .inl F)), (bS, .inl (cI, 60, .inl S)), (bB, .inl (cZ, 60, .inl B)), (bL, .inl (cI, 4, .inl L)), (bT, .inl (cI, 4, .inl T)), (bU, .inl (cI, 6, .inl U))] H_8 := hP
    have hD : va_D A [(mo, .inr (2, [.int tw, .ref bL, .ref bT, .int (nI n), .ref bK, .ref bF, .ref bS, .ref bB, .int co, .int pl, .int f_7, .int jo, .int cn, .int ii, .int fi, .int fe, .ref bU])), (bK, .inl (cI, 60, .inl K)), (bF, .inl (cI, 60, .inl F)), (bS, .inl (cI, 60, .inl S)), (bB, .inl (cZ, 60, .inl B)), (bL, .inl (cI, 4, .inl L)), (bT, .inl (cI, 4, .inl T)), (bU, .inl (cI, 6, .inl U))] := hD
    have hpost : (co, pl, f_7, jo, U) = (mHap L T (K i) (F i) (S i) co pl st jo U).2 := by
      unfold mHap at hh ⊢; rw [if_neg k_20_0, if_neg k_20_1, if_neg k_20_2, if_pos k_20_3] at hh; rw [if_neg k_20_0, if_neg k_20_1, if_neg k_20_2, if_pos k_20_3]; simp only [ef_7]
    have hP9 := hP.sub (ws' := [(mo, .inr (2, [.int tw, .ref bL, .ref bT, .int (nI n), .ref bK, .ref bF, .ref bS, .ref bB, .int co, .int pl, .int f_7, .int jo, .int cn, .int ii, .int fi, .int fe, .ref bU])), (bK, .inl (cI, 60, .inl K)), (bF, .inl (cI, 60, .inl F)), (bS, .inl (cI, 60, .inl S)), (bB, .inl (cZ, 60, .inl B)), (bL, .inl (cI, 4, .inl L)), (bT, .inl (cI, 4, .inl T)), (bU, .inl (cI, 6, .inl U))]) [0, 1, 2, 3, 4, 5, 6, 7] rfl
    have hD9 := hD.sub (ws' := [(mo, .inr (2, [.int tw, .ref bL, .ref bT, .int (nI n), .ref bK, .ref bF, .ref bS, .ref bB, .int co, .int pl, .int f_7, .int jo, .int cn, .int ii, .int fi, .int fe, .ref bU])), (bK, .inl (cI, 60, .inl K)), (bF, .inl (cI, 60, .inl F)), (bS, .inl (cI, 60, .inl S)), (bB, .inl (cZ, 60, .inl B)), (bL, .inl (cI, 4, .inl L)), (bT, .inl (cI, 4, .inl T)), (bU, .inl (cI, 6, .inl U))]) [0, 1, 2, 3, 4, 5, 6, 7] (by decide) rfl
    exact W.vret hx hb hr (fun t ht hW => ⟨⟨(co, pl, f_7, jo, U), rfl, hpost, by rw [ht]; exact hP9, hD9⟩, hS.F ht⟩) hS.2.2 dX2_carryOut_97
  by_cases k_20_4 : (K i) = 4
  · -- case 4
    refine lv_tableIn (off := 78) (tgt := 98) hx hb dX2_carryOut_20 (by rw [k_20_4]; decide) (by rw [k_20_4]; decide) (by rw [k_20_4]; rfl) (by decide) ?_
    refine lv_aload_n hx hb dX2_carryOut_98 rfl (lv_at hl 2 rfl) ?_
    refine lv_dup hx hb dX2_carryOut_99 rfl ?_
    refine va_get (D := (dC, dI)) (ci := 2) (v := .int co) (C := RX2) (T := TX2) (N := 17) hx hb hts hinX2 hown hK hP 0 rfl rfl 8 (by decide) k7 (fun _ h9 => h9) rfl dX2_carryOut_100 ?_
    refine lv_iload_n hx hb dX2_carryOut_103 rfl (lv_at hl 0 rfl) ?_
    refine lv_isub hx hb dX2_carryOut_104 ?_
    refine lv_topi (fun f_9 ef_9 => ?_)
    refine va_put (D := (dC, dI)) (ci := 2) (v := .int f_9) (ty := .int) (C := RX2) (T := TX2) (N := 17) hx hb hts hinX2 tyX2 tyX2_ok nmX2 hown hK hP hD hS 0 rfl rfl 8 (by decide) k7 (fun _ h9 => h9) rfl (by decide +kernel) rfl rfl (Nat.le_of_ble_eq_true rfl) dX2_carryOut_105 (fun H_10 locs hP hD hS => ?_)
    have hP : va_P (dC, dI) vwCl [(mo, .inr (2, [.int tw, .ref bL, .ref bT, .int (nI n), .ref bK, .ref bF, .ref bS, .ref bB, .int f_9, .int pl, .int st, .int jo, .int cn, .int ii, .int fi, .int fe, .ref bU])), (bK, .inl (cI, 60, .inl K)), (bF, .inl (cI, 60, .inl F)), (bS, .inl (cI, 60, .inl S)), (bB, .inl (cZ, 60, .inl B)), (bL, .inl (cI, 4, .inl L)), (bT, .inl (cI, 4, .inl T)), (bU, .inl (cI, 6, .inl U))] H_10 := hP
    have hD : va_D A [(mo, .inr (2, [.int tw, .ref bL, .ref bT, .int (nI n), .ref bK, .ref bF, .ref bS, .ref bB, .int f_9, .int pl, .int st, .int jo, .int cn, .int ii, .int fi, .int fe, .ref bU])), (bK, .inl (cI, 60, .inl K)), (bF, .inl (cI, 60, .inl F)), (bS, .inl (cI, 60, .inl S)), (bB, .inl (cZ, 60, .inl B)), (bL, .inl (cI, 4, .inl L)), (bT, .inl (cI, 4, .inl T)), (bU, .inl (cI, 6, .inl U))] := hD
    refine lv_aload_n hx hb dX2_carryOut_108 rfl (lv_at hl 2 rfl) ?_
    refine lv_iload_n hx hb dX2_carryOut_109 rfl (lv_at hl 1 rfl) ?_
    refine lv_iload_n hx hb dX2_carryOut_110 rfl (lv_at hl 0 rfl) ?_
    refine lv_iconst (v := 3) hx hb dX2_carryOut_111 (by decide) ?_
    refine lv_idiv hx hb dX2_carryOut_112 (by decide) ?_
    have hPc := hP.sub (ws' := [(mo, .inr (2, [.int tw, .ref bL, .ref bT, .int (nI n), .ref bK, .ref bF, .ref bS, .ref bB, .int f_9, .int pl, .int st, .int jo, .int cn, .int ii, .int fi, .int fe, .ref bU])), (bK, .inl (cI, 60, .inl K)), (bF, .inl (cI, 60, .inl F)), (bS, .inl (cI, 60, .inl S)), (bB, .inl (cZ, 60, .inl B)), (bL, .inl (cI, 4, .inl L)), (bT, .inl (cI, 4, .inl T)), (bU, .inl (cI, 6, .inl U))]) [0, 1, 2, 3, 4, 5, 6, 7] rfl
    have hDc := hD.sub (ws' := [(mo, .inr (2, [.int tw, .ref bL, .ref bT, .int (nI n), .ref bK, .ref bF, .ref bS, .ref bB, .int f_9, .int pl, .int st, .int jo, .int cn, .int ii, .int fi, .int fe, .ref bU])), (bK, .inl (cI, 60, .inl K)), (bF, .inl (cI, 60, .inl F)), (bS, .inl (cI, 60, .inl S)), (bB, .inl (cZ, 60, .inl B)), (bL, .inl (cI, 4, .inl L)), (bT, .inl (cI, 4, .inl T)), (bU, .inl (cI, 6, .inl U))]) [0, 1, 2, 3, 4, 5, 6, 7] (by decide) rfl
    have hKc := hK.sub (tys' := [(cI, .int), (cZ, .boolean)]) [0, 1] rfl
    have hFc := va_free (wc := [(mo, .inr (2, [.int tw, .ref bL, .ref bT, .int (nI n), .ref bK, .ref bF, .ref bS, .ref bB, .int f_9, .int pl, .int st, .int jo, .int cn, .int ii, .int fi, .int fe, .ref bU])), (bK, .inl (cI, 60, .inl K)), (bF, .inl (cI, 60, .inl F)), (bS, .inl (cI, 60, .inl S)), (bB, .inl (cZ, 60, .inl B)), (bL, .inl (cI, 4, .inl L)), (bT, .inl (cI, 4, .inl T)), (bU, .inl (cI, 6, .inl U))]) hD hS hA [0, 1, 2, 3, 4, 5, 6, 7] rfl
    refine va_callv (va_runV (As := [.int (F i), .int ((S i) / 3)]) (rest := []) ⟨hx, hb, hml, hown, hts⟩ (c_X2_more l dC dI cI cZ mo bK bF bS bB bL bT bU H_10.size L T K F S B U n tw f_9 pl st jo cn ii fi fe (F i) ((S i) / 3) (hok.2.1 (Or.inr (Or.inr k_20_4)))) (cwV 2 hts gX2_carryOut_X2_more rfl rfl rfl (by decide +kernel) ⟨Nat.le_of_ble_eq_true rfl, Nat.le_of_ble_eq_true rfl⟩) (pc_V hKc hPc hDc (ci := 2) (C := RX2) (T := TX2) (N := 17) (q0 := 0) rfl rfl) rfl rfl hl.1 rfl (lv_room (Nat.le_of_ble_eq_true rfl)) dX2_carryOut_113 ⟨Nat.le_of_ble_eq_true rfl, Nat.le_of_ble_eq_true rfl⟩) hS (fun q _ h => hFc q h) hFc (fun u t H_11 locs ht hvm hw hB hz1 hk1 hS => ?_)
    obtain ⟨U1_11, rfl⟩ : ∃ z, z = u := ⟨_, rfl⟩
    try dsimp only at hw hB
    have hw_11 := hw
    obtain ⟨hP1, hD1⟩ := hB
    rw [ht] at hP1
    obtain ⟨hP, hD⟩ := va_join (wr := []) (w1 := [(mo, .inr (2, [.int tw, .ref bL, .ref bT, .int (nI n), .ref bK, .ref bF, .ref bS, .ref bB, .int f_9, .int pl, .int st, .int jo, .int cn, .int ii, .int fi, .int fe, .ref bU])), (bK, .inl (cI, 60, .inl K)), (bF, .inl (cI, 60, .inl F)), (bS, .inl (cI, 60, .inl S)), (bB, .inl (cZ, 60, .inl B)), (bL, .inl (cI, 4, .inl L)), (bT, .inl (cI, 4, .inl T)), (bU, .inl (cI, 6, .inl U1_11))]) hP hD [0, 1, 2, 3, 4, 5, 6, 7] [] rfl rfl (by decide) (by decide) hk1 hFc hP1 hD1
    have hP : va_P (dC, dI) vwCl [(mo, .inr (2, [.int tw, .ref bL, .ref bT, .int (nI n), .ref bK, .ref bF, .ref bS, .ref bB, .int f_9, .int pl, .int st, .int jo, .int cn, .int ii, .int fi, .int fe, .ref bU])), (bK, .inl (cI, 60, .inl K)), (bF, .inl (cI, 60, .inl F)), (bS, .inl (cI, 60, .inl S)), (bB, .inl (cZ, 60, .inl B)), (bL, .inl (cI, 4, .inl L)), (bT, .inl (cI, 4, .inl T)), (bU, .inl (cI, 6, .inl U1_11))] H_11 := hP
    have hD : va_D A [(mo, .inr (2, [.int tw, .ref bL, .ref bT, .int (nI n), .ref bK, .ref bF, .ref bS, .ref bB, .int f_9, .int pl, .int st, .int jo, .int cn, .int ii, .int fi, .int fe, .ref bU])), (bK, .inl (cI, 60, .inl K)), (bF, .inl (cI, 60, .inl F)), (bS, .inl (cI, 60, .inl S)), (bB, .inl (cZ, 60, .inl B)), (bL, .inl (cI, 4, .inl L)), (bT, .inl (cI, 4, .inl T)), (bU, .inl (cI, 6, .inl U1_11))] := hD
    have hpost : (f_9, pl, st, jo, U1_11) = (mHap L T (K i) (F i) (S i) co pl st jo U).2 := by
      unfold mHap at hh ⊢; rw [if_neg k_20_0, if_neg k_20_1, if_neg k_20_2, if_neg k_20_3, if_pos k_20_4] at hh; rw [if_neg k_20_0, if_neg k_20_1, if_neg k_20_2, if_neg k_20_3, if_pos k_20_4]; obtain ⟨h1, h2⟩ := mPay_yes hh; unfold mPay; rw [if_neg h1, if_pos h2]; simp only [ef_9, hw_11]
    have hP9 := hP.sub (ws' := [(mo, .inr (2, [.int tw, .ref bL, .ref bT, .int (nI n), .ref bK, .ref bF, .ref bS, .ref bB, .int f_9, .int pl, .int st, .int jo, .int cn, .int ii, .int fi, .int fe, .ref bU])), (bK, .inl (cI, 60, .inl K)), (bF, .inl (cI, 60, .inl F)), (bS, .inl (cI, 60, .inl S)), (bB, .inl (cZ, 60, .inl B)), (bL, .inl (cI, 4, .inl L)), (bT, .inl (cI, 4, .inl T)), (bU, .inl (cI, 6, .inl U1_11))]) [0, 1, 2, 3, 4, 5, 6, 7] rfl
    have hD9 := hD.sub (ws' := [(mo, .inr (2, [.int tw, .ref bL, .ref bT, .int (nI n), .ref bK, .ref bF, .ref bS, .ref bB, .int f_9, .int pl, .int st, .int jo, .int cn, .int ii, .int fi, .int fe, .ref bU])), (bK, .inl (cI, 60, .inl K)), (bF, .inl (cI, 60, .inl F)), (bS, .inl (cI, 60, .inl S)), (bB, .inl (cZ, 60, .inl B)), (bL, .inl (cI, 4, .inl L)), (bT, .inl (cI, 4, .inl T)), (bU, .inl (cI, 6, .inl U1_11))]) [0, 1, 2, 3, 4, 5, 6, 7] (by decide) rfl
    exact W.vret hx hb hr (fun t ht hW => ⟨⟨(f_9, pl, st, jo, U1_11), rfl, hpost, by rw [ht]; exact hP9, hD9⟩, hS.F ht⟩) hS.2.2 dX2_carryOut_116
  refine lv_tableOut (tgt := 117) hx hb dX2_carryOut_20 (sw_out5 k_20_0 k_20_1 k_20_2 k_20_3 k_20_4) (by decide) ?_
  refine lv_aload_n hx hb dX2_carryOut_117 rfl (lv_at hl 2 rfl) ?_
  refine lv_dup hx hb dX2_carryOut_118 rfl ?_
  refine va_get (D := (dC, dI)) (ci := 2) (v := .int co) (C := RX2) (T := TX2) (N := 17) hx hb hts hinX2 hown hK hP 0 rfl rfl 8 (by decide) k7 (fun _ h9 => h9) rfl dX2_carryOut_119 ?_
  refine lv_iconst (v := 2) hx hb dX2_carryOut_122 (by decide) ?_
  refine lv_iload_n hx hb dX2_carryOut_123 rfl (lv_at hl 1 rfl) ?_
  refine lv_imul hx hb dX2_carryOut_124 ?_
  refine lv_isub hx hb dX2_carryOut_125 ?_
  refine lv_topi (fun f_12 ef_12 => ?_)
  refine va_put (D := (dC, dI)) (ci := 2) (v := .int f_12) (ty := .int) (C := RX2) (T := TX2) (N := 17) hx hb hts hinX2 tyX2 tyX2_ok nmX2 hown hK hP hD hS 0 rfl rfl 8 (by decide) k7 (fun _ h9 => h9) rfl (by decide +kernel) rfl rfl (Nat.le_of_ble_eq_true rfl) dX2_carryOut_126 (fun H_13 locs hP hD hS => ?_)
  have hP : va_P (dC, dI) vwCl [(mo, .inr (2, [.int tw, .ref bL, .ref bT, .int (nI n), .ref bK, .ref bF, .ref bS, .ref bB, .int f_12, .int pl, .int st, .int jo, .int cn, .int ii, .int fi, .int fe, .ref bU])), (bK, .inl (cI, 60, .inl K)), (bF, .inl (cI, 60, .inl F)), (bS, .inl (cI, 60, .inl S)), (bB, .inl (cZ, 60, .inl B)), (bL, .inl (cI, 4, .inl L)), (bT, .inl (cI, 4, .inl T)), (bU, .inl (cI, 6, .inl U))] H_13 := hP
  have hD : va_D A [(mo, .inr (2, [.int tw, .ref bL, .ref bT, .int (nI n), .ref bK, .ref bF, .ref bS, .ref bB, .int f_12, .int pl, .int st, .int jo, .int cn, .int ii, .int fi, .int fe, .ref bU])), (bK, .inl (cI, 60, .inl K)), (bF, .inl (cI, 60, .inl F)), (bS, .inl (cI, 60, .inl S)), (bB, .inl (cZ, 60, .inl B)), (bL, .inl (cI, 4, .inl L)), (bT, .inl (cI, 4, .inl T)), (bU, .inl (cI, 6, .inl U))] := hD
  refine lv_aload_n hx hb dX2_carryOut_129 rfl (lv_at hl 2 rfl) ?_
  refine lv_dup hx hb dX2_carryOut_130 rfl ?_
  refine va_get (D := (dC, dI)) (ci := 2) (v := .int pl) (C := RX2) (T := TX2) (N := 17) hx hb hts hinX2 hown hK hP 0 rfl rfl 9 (by decide) k8 (fun _ h9 => h9) rfl dX2_carryOut_131 ?_
  refine lv_iload_n hx hb dX2_carryOut_134 rfl (lv_at hl 1 rfl) ?_
  refine lv_iadd hx hb dX2_carryOut_135 ?_
  refine lv_topi (fun f_14 ef_14 => ?_)
  refine va_put (D := (dC, dI)) (ci := 2) (v := .int f_14) (ty := .int) (C := RX2) (T := TX2) (N := 17) hx hb hts hinX2 tyX2 tyX2_ok nmX2 hown hK hP hD hS 0 rfl rfl 9 (by decide) k8 (fun _ h9 => h9) rfl (by decide +kernel) rfl rfl (Nat.le_of_ble_eq_true rfl) dX2_carryOut_136 (fun H_15 locs hP hD hS => ?_)
  have hP : va_P (dC, dI) vwCl [(mo, .inr (2, [.int tw, .ref bL, .ref bT, .int (nI n), .ref bK, .ref bF, .ref bS, .ref bB, .int f_12, .int f_14, .int st, .int jo, .int cn, .int ii, .int fi, .int fe, .ref bU])), (bK, .inl (cI, 60, .inl K)), (bF, .inl (cI, 60, .inl F)), (bS, .inl (cI, 60, .inl S)), (bB, .inl (cZ, 60, .inl B)), (bL, .inl (cI, 4, .inl L)), (bT, .inl (cI, 4, .inl T)), (bU, .inl (cI, 6, .inl U))] H_15 := hP
  have hD : va_D A [(mo, .inr (2, [.int tw, .ref bL, .ref bT, .int (nI n), .ref bK, .ref bF, .ref bS, .ref bB, .int f_12, .int f_14, .int st, .int jo, .int cn, .int ii, .int fi, .int fe, .ref bU])), (bK, .inl (cI, 60, .inl K)), (bF, .inl (cI, 60, .inl F)), (bS, .inl (cI, 60, .inl S)), (bB, .inl (cZ, 60, .inl B)), (bL, .inl (cI, 4, .inl L)), (bT, .inl (cI, 4, .inl T)), (bU, .inl (cI, 6, .inl U))] := hD
  have hpost : (f_12, f_14, st, jo, U) = (mHap L T (K i) (F i) (S i) co pl st jo U).2 := by
    unfold mHap at hh ⊢; rw [if_neg k_20_0, if_neg k_20_1, if_neg k_20_2, if_neg k_20_3, if_neg k_20_4] at hh; rw [if_neg k_20_0, if_neg k_20_1, if_neg k_20_2, if_neg k_20_3, if_neg k_20_4]; unfold mBuy; rw [if_pos (mBuy_yes hh)]; simp only [ef_12, ef_14]
  have hP9 := hP.sub (ws' := [(mo, .inr (2, [.int tw, .ref bL, .ref bT, .int (nI n), .ref bK, .ref bF, .ref bS, .ref bB, .int f_12, .int f_14, .int st, .int jo, .int cn, .int ii, .int fi, .int fe, .ref bU])), (bK, .inl (cI, 60, .inl K)), (bF, .inl (cI, 60, .inl F)), (bS, .inl (cI, 60, .inl S)), (bB, .inl (cZ, 60, .inl B)), (bL, .inl (cI, 4, .inl L)), (bT, .inl (cI, 4, .inl T)), (bU, .inl (cI, 6, .inl U))]) [0, 1, 2, 3, 4, 5, 6, 7] rfl
  have hD9 := hD.sub (ws' := [(mo, .inr (2, [.int tw, .ref bL, .ref bT, .int (nI n), .ref bK, .ref bF, .ref bS, .ref bB, .int f_12, .int f_14, .int st, .int jo, .int cn, .int ii, .int fi, .int fe, .ref bU])), (bK, .inl (cI, 60, .inl K)), (bF, .inl (cI, 60, .inl F)), (bS, .inl (cI, 60, .inl S)), (bB, .inl (cZ, 60, .inl B)), (bL, .inl (cI, 4, .inl L)), (bT, .inl (cI, 4, .inl T)), (bU, .inl (cI, 6, .inl U))]) [0, 1, 2, 3, 4, 5, 6, 7] (by decide) rfl
  exact W.vret hx hb hr (fun t ht hW => ⟨⟨(f_12, f_14, st, jo, U), rfl, hpost, by rw [ht]; exact hP9, hD9⟩, hS.F ht⟩) hS.2.2 dX2_carryOut_139

set_option maxHeartbeats 4000000 in
set_option maxRecDepth 100000 in
theorem c_X2_reckon (l : Launch) (dC : Nat → ClassId) (dI : Nat → Nat → Nat) (cI cZ : ClassId) (mo bK bF bS bB bL bT bU : Nat) (sz : Nat) (L : N2I) (T : N2I) (K : N2I) (F : N2I) (S : N2I) (B : N2I) (U : N2I) (n : Nat) (tw : Int32) (co : Int32) (pl : Int32) (st : Int32) (jo : Int32) (cn : Int32) (ii : Int32) (fi : Int32) (fe : Int32) (mm : Nat) (hX : okX K F S B n) (hm : mm ≤ n) : Met l yX2_reckon wsX2_reckon ({ frames := 4, cells := 0, slots := 0, locals := 83 } : Room) (va_Pc [.ref mo, .int (nI mm)] (pc_ (dC, dI) [(cI, .int), (cZ, .boolean)] [(mo, .inr (2, [.int tw, .ref bL, .ref bT, .int (nI n), .ref bK, .ref bF, .ref bS, .ref bB, .int co, .int pl, .int st, .int jo, .int cn, .int ii, .int fi, .int fe, .ref bU])), (bK, .inl (cI, 60, .inl K)), (bF, .inl (cI, 60, .inl F)), (bS, .inl (cI, 60, .inl S)), (bB, .inl (cZ, 60, .inl B)), (bL, .inl (cI, 4, .inl L)), (bT, .inl (cI, 4, .inl T)), (bU, .inl (cI, 6, .inl U))] sz)) (va_Qi (fun (r : Int32) (u : Int32 × Int32 × Int32 × Int32 × Int32 × Int32 × Int32 × Int32 × N2I) => (u.1, u.2.1, u.2.2.1, u.2.2.2.1, u.2.2.2.2.1, u.2.2.2.2.2.1, u.2.2.2.2.2.2.1, u.2.2.2.2.2.2.2.1, u.2.2.2.2.2.2.2.2) = mRec L T K F S B U mm ∧ r = mDoes L T K F S B U mm) (fun (u : Int32 × Int32 × Int32 × Int32 × Int32 × Int32 × Int32 × Int32 × N2I) (t : State) => va_P (dC, dI) vwCl [(mo, .inr (2, [.int tw, .ref bL, .ref bT, .int (nI n), .ref bK, .ref bF, .ref bS, .ref bB, .int u.1, .int u.2.1, .int u.2.2.1, .int u.2.2.2.1, .int u.2.2.2.2.1, .int u.2.2.2.2.2.1, .int u.2.2.2.2.2.2.1, .int u.2.2.2.2.2.2.2.1, .ref bU])), (bK, .inl (cI, 60, .inl K)), (bF, .inl (cI, 60, .inl F)), (bS, .inl (cI, 60, .inl S)), (bB, .inl (cZ, 60, .inl B)), (bL, .inl (cI, 4, .inl L)), (bT, .inl (cI, 4, .inl T)), (bU, .inl (cI, 6, .inl u.2.2.2.2.2.2.2.2))] t.heap ∧ va_D (va_A [(mo, .inr (2, [.int tw, .ref bL, .ref bT, .int (nI n), .ref bK, .ref bF, .ref bS, .ref bB, .int co, .int pl, .int st, .int jo, .int cn, .int ii, .int fi, .int fe, .ref bU])), (bK, .inl (cI, 60, .inl K)), (bF, .inl (cI, 60, .inl F)), (bS, .inl (cI, 60, .inl S)), (bB, .inl (cZ, 60, .inl B)), (bL, .inl (cI, 4, .inl L)), (bT, .inl (cI, 4, .inl T)), (bU, .inl (cI, 6, .inl U))] sz) [(mo, .inr (2, [.int tw, .ref bL, .ref bT, .int (nI n), .ref bK, .ref bF, .ref bS, .ref bB, .int u.1, .int u.2.1, .int u.2.2.1, .int u.2.2.2.1, .int u.2.2.2.2.1, .int u.2.2.2.2.2.1, .int u.2.2.2.2.2.2.1, .int u.2.2.2.2.2.2.2.1, .ref bU])), (bK, .inl (cI, 60, .inl K)), (bF, .inl (cI, 60, .inl F)), (bS, .inl (cI, 60, .inl S)), (bB, .inl (cZ, 60, .inl B)), (bL, .inl (cI, 4, .inl L)), (bT, .inl (cI, 4, .inl T)), (bU, .inl (cI, 6, .inl u.2.2.2.2.2.2.2.2))]) (va_A [(mo, .inr (2, [.int tw, .ref bL, .ref bT, .int (nI n), .ref bK, .ref bF, .ref bS, .ref bB, .int co, .int pl, .int st, .int jo, .int cn, .int ii, .int fi, .int fe, .ref bU])), (bK, .inl (cI, 60, .inl K)), (bF, .inl (cI, 60, .inl F)), (bS, .inl (cI, 60, .inl S)), (bB, .inl (cZ, 60, .inl B)), (bL, .inl (cI, 4, .inl L)), (bT, .inl (cI, 4, .inl T)), (bU, .inl (cI, 6, .inl U))] sz)) 0 0 (va_A [(mo, .inr (2, [.int tw, .ref bL, .ref bT, .int (nI n), .ref bK, .ref bF, .ref bS, .ref bB, .int co, .int pl, .int st, .int jo, .int cn, .int ii, .int fi, .int fe, .ref bU])), (bK, .inl (cI, 60, .inl K)), (bF, .inl (cI, 60, .inl F)), (bS, .inl (cI, 60, .inl S)), (bB, .inl (cZ, 60, .inl B)), (bL, .inl (cI, 4, .inl L)), (bT, .inl (cI, 4, .inl T)), (bU, .inl (cI, 6, .inl U))] sz) := by
  refine Met.ofW (cc := cX2_reckon) (maxL := 4) (ret := (some .boolean)) (by decide) rfl ?_
  intro p e s m args below meth c s₁ BB hml hv
  obtain ⟨rfl, hsz, hP, hK, hD0⟩ := hv
  have hx := BB.exec
  have hb := BB.bytes
  have hr := BB.returns
  have hts := atoms_spec (ws := wsX2_reckon) BB.pre
  have hown : s.vm.findClass RX2 = some m.cls := findClass_of_methodNamed BB.named
  have hlocks := BB.notSynchronized
  subst hsz
  have hD := hD0.self (sz := s.heap.size)
  generalize hAe : va_A [(mo, .inr (2, [.int tw, .ref bL, .ref bT, .int (nI n), .ref bK, .ref bF, .ref bS, .ref bB, .int co, .int pl, .int st, .int jo, .int cn, .int ii, .int fi, .int fe, .ref bU])), (bK, .inl (cI, 60, .inl K)), (bF, .inl (cI, 60, .inl F)), (bS, .inl (cI, 60, .inl S)), (bB, .inl (cZ, 60, .inl B)), (bL, .inl (cI, 4, .inl L)), (bT, .inl (cI, 4, .inl T)), (bU, .inl (cI, 6, .inl U))] s.heap.size = A at hD ⊢
  have hA : ∀ q : Nat, s.heap.size ≤ q → A q := fun q h => by rw [← hAe]; exact Or.inr h
  have hS : va_S A s.heap s.heap [] := va_S.rf
  have hP : va_P (dC, dI) vwCl [(mo, .inr (2, [.int tw, .ref bL, .ref bT, .int (nI n), .ref bK, .ref bF, .ref bS, .ref bB, .int co, .int pl, .int st, .int jo, .int cn, .int ii, .int fi, .int fe, .ref bU])), (bK, .inl (cI, 60, .inl K)), (bF, .inl (cI, 60, .inl F)), (bS, .inl (cI, 60, .inl S)), (bB, .inl (cZ, 60, .inl B)), (bL, .inl (cI, 4, .inl L)), (bT, .inl (cI, 4, .inl T)), (bU, .inl (cI, 6, .inl U))] s.heap := hP
  have hl := lv_entry ([.ref mo, .int (nI mm)]) (n := 4) (Nat.le_of_ble_eq_true rfl)
  rw [lg_entry_eq]
  generalize (lg_sl ([.ref mo, .int (nI mm)]) ++ List.replicate (4 - (lg_sl ([.ref mo, .int (nI mm)])).length) Slot.unset).toArray = ls at hl ⊢
  have hl : lv_has ls 4 [(0, .ref mo), (1, .int (nI mm))] := hl
  have k0 := hts (.fieldLink RX2 70 "KnifeLedgerModel" "coins" "I") (by decide +kernel)
  have hinX2 : ∀ w ∈ wsX20, w ∈ wsX2_reckon := by decide +kernel
  have k2 := hts (.fieldLink RX2 80 "KnifeLedgerModel" "plasters" "I") (by decide +kernel)
  have k3 := hts (.fieldLink RX2 63 "KnifeLedgerModel" "stage" "I") (by decide +kernel)
  have k4 := hts (.fieldLink RX2 60 "KnifeLedgerModel" "joined" "I") (by decide +kernel)
  have k5 := hts (.fieldLink RX2 86 "KnifeLedgerModel" "counting" "I") (by decide +kernel)
  have k6 := hts (.fieldLink RX2 89 "KnifeLedgerModel" "idle" "I") (by decide +kernel)
  have k7 := hts (.fieldLink RX2 92 "KnifeLedgerModel" "firstIdle" "I") (by decide +kernel)
  have k8 := hts (.fieldLink RX2 95 "KnifeLedgerModel" "fewest" "I") (by decide +kernel)
  have k9 := hts (.fieldLink RX2 25 "KnifeLedgerModel" "struck" "[Z") (by decide +kernel)
  have k10 := hts (.methodLink RX2 51 Lib.Math.min.name) (by decide +kernel)
  have k11 := hts (.static Lib.Math.min.name) (by decide +kernel)
  have k12 := hts (.initialized "java/lang/Math") (by decide +kernel)
  have k13 := hts (.code Lib.Math.min.name Lib.Math.min.code 2 (some .int)) (by decide +kernel)
  have hn6 : n ≤ 60 := hX.1
  refine lv_aload_n hx hb dX2_reckon_0 rfl (lv_at hl 0 rfl) ?_
  refine lv_bipush (v := 10) hx hb dX2_reckon_1 (by decide) ?_
  refine va_put (D := (dC, dI)) (ci := 2) (v := .int 10) (ty := .int) (C := RX2) (T := TX2) (N := 17) hx hb hts hinX2 tyX2 tyX2_ok nmX2 hown hK hP hD hS 0 rfl rfl 8 (by decide) k0 (fun _ h9 => h9) rfl (by decide +kernel) rfl rfl (Nat.le_of_ble_eq_true rfl) dX2_reckon_3 (fun H_1 locs hP hD hS => ?_)
  have hP : va_P (dC, dI) vwCl [(mo, .inr (2, [.int tw, .ref bL, .ref bT, .int (nI n), .ref bK, .ref bF, .ref bS, .ref bB, .int 10, .int pl, .int st, .int jo, .int cn, .int ii, .int fi, .int fe, .ref bU])), (bK, .inl (cI, 60, .inl K)), (bF, .inl (cI, 60, .inl F)), (bS, .inl (cI, 60, .inl S)), (bB, .inl (cZ, 60, .inl B)), (bL, .inl (cI, 4, .inl L)), (bT, .inl (cI, 4, .inl T)), (bU, .inl (cI, 6, .inl U))] H_1 := hP
  have hD : va_D A [(mo, .inr (2, [.int tw, .ref bL, .ref bT, .int (nI n), .ref bK, .ref bF, .ref bS, .ref bB, .int 10, .int pl, .int st, .int jo, .int cn, .int ii, .int fi, .int fe, .ref bU])), (bK, .inl (cI, 60, .inl K)), (bF, .inl (cI, 60, .inl F)), (bS, .inl (cI, 60, .inl S)), (bB, .inl (cZ, 60, .inl B)), (bL, .inl (cI, 4, .inl L)), (bT, .inl (cI, 4, .inl T)), (bU, .inl (cI, 6, .inl U))] := hD
  refine lv_aload_n hx hb dX2_reckon_6 rfl (lv_at hl 0 rfl) ?_
  refine lv_iconst (v := 0) hx hb dX2_reckon_7 (by decide) ?_
  refine va_put (D := (dC, dI)) (ci := 2) (v := .int 0) (ty := .int) (C := RX2) (T := TX2) (N := 17) hx hb hts hinX2 tyX2 tyX2_ok nmX2 hown hK hP hD hS 0 rfl rfl 9 (by decide) k2 (fun _ h9 => h9) rfl (by decide +kernel) rfl rfl (Nat.le_of_ble_eq_true rfl) dX2_reckon_8 (fun H_2 locs hP hD hS => ?_)
  have hP : va_P (dC, dI) vwCl [(mo, .inr (2, [.int tw, .ref bL, .ref bT, .int (nI n), .ref bK, .ref bF, .ref bS, .ref bB, .int 10, .int 0, .int st, .int jo, .int cn, .int ii, .int fi, .int fe, .ref bU])), (bK, .inl (cI, 60, .inl K)), (bF, .inl (cI, 60, .inl F)), (bS, .inl (cI, 60, .inl S)), (bB, .inl (cZ, 60, .inl B)), (bL, .inl (cI, 4, .inl L)), (bT, .inl (cI, 4, .inl T)), (bU, .inl (cI, 6, .inl U))] H_2 := hP
  have hD : va_D A [(mo, .inr (2, [.int tw, .ref bL, .ref bT, .int (nI n), .ref bK, .ref bF, .ref bS, .ref bB, .int 10, .int 0, .int st, .int jo, .int cn, .int ii, .int fi, .int fe, .ref bU])), (bK, .inl (cI, 60, .inl K)), (bF, .inl (cI, 60, .inl F)), (bS, .inl (cI, 60, .inl S)), (bB, .inl (cZ, 60, .inl B)), (bL, .inl (cI, 4, .inl L)), (bT, .inl (cI, 4, .inl T)), (bU, .inl (cI, 6, .inl U))] := hD
  refine lv_aload_n hx hb dX2_reckon_11 rfl (lv_at hl 0 rfl) ?_
  refine lv_iconst (v := 0) hx hb dX2_reckon_12 (by decide) ?_
  refine va_put (D := (dC, dI)) (ci := 2) (v := .int 0) (ty := .int) (C := RX2) (T := TX2) (N := 17) hx hb hts hinX2 tyX2 tyX2_ok nmX2 hown hK hP hD hS 0 rfl rfl 10 (by decide) k3 (fun _ h9 => h9) rfl (by decide +kernel) rfl rfl (Nat.le_of_ble_eq_true rfl) dX2_reckon_13 (fun H_3 locs hP hD hS => ?_)
  have hP : va_P (dC, dI) vwCl [(mo, .inr (2, [.int tw, .ref bL, .ref bT, .int (nI n), .ref bK, .ref bF, .ref bS, .ref bB, .int 10, .int 0, .int 0, .int jo, .int cn, .int ii, .int fi, .int fe, .ref bU])), (bK, .inl (cI, 60, .inl K)), (bF, .inl (cI, 60, .inl F)), (bS, .inl (cI, 60, .inl S)), (bB, .inl (cZ, 60, .inl B)), (bL, .inl (cI, 4, .inl L)), (bT, .inl (cI, 4, .inl T)), (bU, .inl (cI, 6, .inl U))] H_3 := hP
  have hD : va_D A [(mo, .inr (2, [.int tw, .ref bL, .ref bT, .int (nI n), .ref bK, .ref bF, .ref bS, .ref bB, .int 10, .int 0, .int 0, .int jo, .int cn, .int ii, .int fi, .int fe, .ref bU])), (bK, .inl (cI, 60, .inl K)), (bF, .inl (cI, 60, .inl F)), (bS, .inl (cI, 60, .inl S)), (bB, .inl (cZ, 60, .inl B)), (bL, .inl (cI, 4, .inl L)), (bT, .inl (cI, 4, .inl T)), (bU, .inl (cI, 6, .inl U))] := hD
  refine lv_aload_n hx hb dX2_reckon_16 rfl (lv_at hl 0 rfl) ?_
  refine lv_iconst (v := 0) hx hb dX2_reckon_17 (by decide) ?_
  refine va_put (D := (dC, dI)) (ci := 2) (v := .int 0) (ty := .int) (C := RX2) (T := TX2) (N := 17) hx hb hts hinX2 tyX2 tyX2_ok nmX2 hown hK hP hD hS 0 rfl rfl 11 (by decide) k4 (fun _ h9 => h9) rfl (by decide +kernel) rfl rfl (Nat.le_of_ble_eq_true rfl) dX2_reckon_18 (fun H_4 locs hP hD hS => ?_)
  have hP : va_P (dC, dI) vwCl [(mo, .inr (2, [.int tw, .ref bL, .ref bT, .int (nI n), .ref bK, .ref bF, .ref bS, .ref bB, .int 10, .int 0, .int 0, .int 0, .int cn, .int ii, .int fi, .int fe, .ref bU])), (bK, .inl (cI, 60, .inl K)), (bF, .inl (cI, 60, .inl F)), (bS, .inl (cI, 60, .inl S)), (bB, .inl (cZ, 60, .inl B)), (bL, .inl (cI, 4, .inl L)), (bT, .inl (cI, 4, .inl T)), (bU, .inl (cI, 6, .inl U))] H_4 := hP
  have hD : va_D A [(mo, .inr (2, [.int tw, .ref bL, .ref bT, .int (nI n), .ref bK, .ref bF, .ref bS, .ref bB, .int 10, .int 0, .int 0, .int 0, .int cn, .int ii, .int fi, .int fe, .ref bU])), (bK, .inl (cI, 60, .inl K)), (bF, .inl (cI, 60, .inl F)), (bS, .inl (cI, 60, .inl S)), (bB, .inl (cZ, 60, .inl B)), (bL, .inl (cI, 4, .inl L)), (bT, .inl (cI, 4, .inl T)), (bU, .inl (cI, 6, .inl U))] := hD
  refine lv_aload_n hx hb dX2_reckon_21 rfl (lv_at hl 0 rfl) ?_
  refine lv_iconst (v := 0) hx hb dX2_reckon_22 (by decide) ?_
  refine va_put (D := (dC, dI)) (ci := 2) (v := .int 0) (ty := .int) (C := RX2) (T := TX2) (N := 17) hx hb hts hinX2 tyX2 tyX2_ok nmX2 hown hK hP hD hS 0 rfl rfl 12 (by decide) k5 (fun _ h9 => h9) rfl (by decide +kernel) rfl rfl (Nat.le_of_ble_eq_true rfl) dX2_reckon_23 (fun H_5 locs hP hD hS => ?_)
  have hP : va_P (dC, dI) vwCl [(mo, .inr (2, [.int tw, .ref bL, .ref bT, .int (nI n), .ref bK, .ref bF, .ref bS, .ref bB, .int 10, .int 0, .int 0, .int 0, .int 0, .int ii, .int fi, .int fe, .ref bU])), (bK, .inl (cI, 60, .inl K)), (bF, .inl (cI, 60, .inl F)), (bS, .inl (cI, 60, .inl S)), (bB, .inl (cZ, 60, .inl B)), (bL, .inl (cI, 4, .inl L)), (bT, .inl (cI, 4, .inl T)), (bU, .inl (cI, 6, .inl U))] H_5 := hP
  have hD : va_D A [(mo, .inr (2, [.int tw, .ref bL, .ref bT, .int (nI n), .ref bK, .ref bF, .ref bS, .ref bB, .int 10, .int 0, .int 0, .int 0, .int 0, .int ii, .int fi, .int fe, .ref bU])), (bK, .inl (cI, 60, .inl K)), (bF, .inl (cI, 60, .inl F)), (bS, .inl (cI, 60, .inl S)), (bB, .inl (cZ, 60, .inl B)), (bL, .inl (cI, 4, .inl L)), (bT, .inl (cI, 4, .inl T)), (bU, .inl (cI, 6, .inl U))] := hD
  refine lv_aload_n hx hb dX2_reckon_26 rfl (lv_at hl 0 rfl) ?_
  refine lv_iconst (v := 0) hx hb dX2_reckon_27 (by decide) ?_
  refine va_put (D := (dC, dI)) (ci := 2) (v := .int 0) (ty := .int) (C := RX2) (T := TX2) (N := 17) hx hb hts hinX2 tyX2 tyX2_ok nmX2 hown hK hP hD hS 0 rfl rfl 13 (by decide) k6 (fun _ h9 => h9) rfl (by decide +kernel) rfl rfl (Nat.le_of_ble_eq_true rfl) dX2_reckon_28 (fun H_6 locs hP hD hS => ?_)
  have hP : va_P (dC, dI) vwCl [(mo, .inr (2, [.int tw, .ref bL, .ref bT, .int (nI n), .ref bK, .ref bF, .ref bS, .ref bB, .int 10, .int 0, .int 0, .int 0, .int 0, .int 0, .int fi, .int fe, .ref bU])), (bK, .inl (cI, 60, .inl K)), (bF, .inl (cI, 60, .inl F)), (bS, .inl (cI, 60, .inl S)), (bB, .inl (cZ, 60, .inl B)), (bL, .inl (cI, 4, .inl L)), (bT, .inl (cI, 4, .inl T)), (bU, .inl (cI, 6, .inl U))] H_6 := hP
  have hD : va_D A [(mo, .inr (2, [.int tw, .ref bL, .ref bT, .int (nI n), .ref bK, .ref bF, .ref bS, .ref bB, .int 10, .int 0, .int 0, .int 0, .int 0, .int 0, .int fi, .int fe, .ref bU])), (bK, .inl (cI, 60, .inl K)), (bF, .inl (cI, 60, .inl F)), (bS, .inl (cI, 60, .inl S)), (bB, .inl (cZ, 60, .inl B)), (bL, .inl (cI, 4, .inl L)), (bT, .inl (cI, 4, .inl T)), (bU, .inl (cI, 6, .inl U))] := hD
  refine lv_aload_n hx hb dX2_reckon_31 rfl (lv_at hl 0 rfl) ?_
  refine lv_iconst (v := (-1)) hx hb dX2_reckon_32 (by decide) ?_
  refine va_put (D := (dC, dI)) (ci := 2) (v := .int (-1)) (ty := .int) (C := RX2) (T := TX2) (N := 17) hx hb hts hinX2 tyX2 tyX2_ok nmX2 hown hK hP hD hS 0 rfl rfl 14 (by decide) k7 (fun _ h9 => h9) rfl (by decide +kernel) rfl rfl (Nat.le_of_ble_eq_true rfl) dX2_reckon_33 (fun H_7 locs hP hD hS => ?_)
  have hP : va_P (dC, dI) vwCl [(mo, .inr (2, [.int tw, .ref bL, .ref bT, .int (nI n), .ref bK, .ref bF, .ref bS, .ref bB, .int 10, .int 0, .int 0, .int 0, .int 0, .int 0, .int (-1), .int fe, .ref bU])), (bK, .inl (cI, 60, .inl K)), (bF, .inl (cI, 60, .inl F)), (bS, .inl (cI, 60, .inl S)), (bB, .inl (cZ, 60, .inl B)), (bL, .inl (cI, 4, .inl L)), (bT, .inl (cI, 4, .inl T)), (bU, .inl (cI, 6, .inl U))] H_7 := hP
  have hD : va_D A [(mo, .inr (2, [.int tw, .ref bL, .ref bT, .int (nI n), .ref bK, .ref bF, .ref bS, .ref bB, .int 10, .int 0, .int 0, .int 0, .int 0, .int 0, .int (-1), .int fe, .ref bU])), (bK, .inl (cI, 60, .inl K)), (bF, .inl (cI, 60, .inl F)), (bS, .inl (cI, 60, .inl S)), (bB, .inl (cZ, 60, .inl B)), (bL, .inl (cI, 4, .inl L)), (bT, .inl (cI, 4, .inl T)), (bU, .inl (cI, 6, .inl U))] := hD
  refine lv_aload_n hx hb dX2_reckon_36 rfl (lv_at hl 0 rfl) ?_
  refine lv_aload_n hx hb dX2_reckon_37 rfl (lv_at hl 0 rfl) ?_
  refine va_get (D := (dC, dI)) (ci := 2) (v := .int 10) (C := RX2) (T := TX2) (N := 17) hx hb hts hinX2 hown hK hP 0 rfl rfl 8 (by decide) k0 (fun _ h9 => h9) rfl dX2_reckon_38 ?_
  refine va_put (D := (dC, dI)) (ci := 2) (v := .int 10) (ty := .int) (C := RX2) (T := TX2) (N := 17) hx hb hts hinX2 tyX2 tyX2_ok nmX2 hown hK hP hD hS 0 rfl rfl 15 (by decide) k8 (fun _ h9 => h9) rfl (by decide +kernel) rfl rfl (Nat.le_of_ble_eq_true rfl) dX2_reckon_41 (fun H_8 locs hP hD hS => ?_)
  have hP : va_P (dC, dI) vwCl [(mo, .inr (2, [.int tw, .ref bL, .ref bT, .int (nI n), .ref bK, .ref bF, .ref bS, .ref bB, .int 10, .int 0, .int 0, .int 0, .int 0, .int 0, .int (-1), .int 10, .ref bU])), (bK, .inl (cI, 60, .inl K)), (bF, .inl (cI, 60, .inl F)), (bS, .inl (cI, 60, .inl S)), (bB, .inl (cZ, 60, .inl B)), (bL, .inl (cI, 4, .inl L)), (bT, .inl (cI, 4, .inl T)), (bU, .inl (cI, 6, .inl U))] H_8 := hP
  have hD : va_D A [(mo, .inr (2, [.int tw, .ref bL, .ref bT, .int (nI n), .ref bK, .ref bF, .ref bS, .ref bB, .int 10, .int 0, .int 0, .int 0, .int 0, .int 0, .int (-1), .int 10, .ref bU])), (bK, .inl (cI, 60, .inl K)), (bF, .inl (cI, 60, .inl F)), (bS, .inl (cI, 60, .inl S)), (bB, .inl (cZ, 60, .inl B)), (bL, .inl (cI, 4, .inl L)), (bT, .inl (cI, 4, .inl T)), (bU, .inl (cI, 6, .inl U))] := hD
  refine lv_iconst (v := 0) hx hb dX2_reckon_44 (by decide) ?_
  refine lv_istore_n (lv' := [(2, .int 0), (0, .ref mo), (1, .int (nI mm))]) hx hb dX2_reckon_45 rfl hl (by decide) rfl (fun ls hl => ?_)
  refine lv_iconst (v := 0) hx hb dX2_reckon_46 (by decide) ?_
  refine lv_istore_n (lv' := [(3, .int 0), (2, .int 0), (0, .ref mo), (1, .int (nI mm))]) hx hb dX2_reckon_47 rfl hl (by decide) rfl (fun ls hl => ?_)
  refine (fun (KK : ∀ (nn9 : Nat) (i : Nat) (rr : Int32) (co2 : Int32) (pl2 : Int32) (st2 : Int32) (jo2 : Int32) (cn2 : Int32) (ii2 : Int32) (fi2 : Int32) (fe2 : Int32) (U2 : N2I) (H : Heap) (locs : List Loc) (ls : Array Slot) (hi : i ≤ mm) (hs : (co2, pl2, st2, jo2, cn2, ii2, fi2, fe2, U2) = mRec L T K F S B U i) (hr9 : rr = mDoes L T K F S B U i), mm - i < nn9 → va_P (dC, dI) vwCl [(mo, .inr (2, [.int tw, .ref bL, .ref bT, .int (nI n), .ref bK, .ref bF, .ref bS, .ref bB, .int co2, .int pl2, .int st2, .int jo2, .int cn2, .int ii2, .int fi2, .int fe2, .ref bU])), (bK, .inl (cI, 60, .inl K)), (bF, .inl (cI, 60, .inl F)), (bS, .inl (cI, 60, .inl S)), (bB, .inl (cZ, 60, .inl B)), (bL, .inl (cI, 4, .inl L)), (bT, .inl (cI, 4, .inl T)), (bU, .inl (cI, 6, .inl U2))] H → va_D A [(mo, .inr (2, [.int tw, .ref bL, .ref bT, .int (nI n), .ref bK, .ref bF, .ref bS, .ref bB, .int co2, .int pl2, .int st2, .int jo2, .int cn2, .int ii2, .int fi2, .int fe2, .ref bU])), (bK, .inl (cI, 60, .inl K)), (bF, .inl (cI, 60, .inl F)), (bS, .inl (cI, 60, .inl S)), (bB, .inl (cZ, 60, .inl B)), (bL, .inl (cI, 4, .inl L)), (bT, .inl (cI, 4, .inl T)), (bU, .inl (cI, 6, .inl U2))] → va_S A s.heap H locs → lv_has ls 4 [(3, .int (nI i)), (2, .int rr), (0, .ref mo), (1, .int (nI mm))] → W p l e _ s m _ below meth c H locs 0 0 _ (F0 m 48 ls [])) => KK (mm - 0 + 1) 0 0 10 0 0 0 0 0 (-1) 10 U _ _ _ (Nat.zero_le _) (rfl) (rfl) (by omega) hP hD hS (lv_sub hl [0, 1, 2, 3] rfl)) ?_
  intro nn_48
  induction nn_48 with
  | zero => intro i rr co2 pl2 st2 jo2 cn2 ii2 fi2 fe2 U2 H locs ls hi hs hr9 hn9; exact absurd hn9 (Nat.not_lt_zero _)
  | succ nn_48 ih_48 =>
    intro i rr co2 pl2 st2 jo2 cn2 ii2 fi2 fe2 U2 H_9 locs ls hi hs hr9 hn_48 hP hD hS hl
    refine lv_iload_n hx hb dX2_reckon_48 rfl (lv_at hl 0 rfl) ?_
    refine lv_iload_n hx hb dX2_reckon_49 rfl (lv_at hl 3 rfl) ?_
    refine lv_icmp_ge (tgt := 151) hx hb dX2_reckon_50 (by decide) (fun c_50 => ?_) (fun c_50 => ?_)
    · -- 50
      have hge : i = mm := by rw [nI_leI (by omega) (by omega)] at c_50; omega
      refine lv_iload_n hx hb dX2_reckon_151 rfl (lv_at hl 1 rfl) ?_
      have hpost : (co2, pl2, st2, jo2, cn2, ii2, fi2, fe2, U2) = mRec L T K F S B U mm ∧ rr = mDoes L T K F S B U mm := by
        rw [← hge]; exact ⟨hs, hr9⟩
      have hP9 := hP.sub (ws' := [(mo, .inr (2, [.int tw, .ref bL, .ref bT, .int (nI n), .ref bK, .ref bF, .ref bS, .ref bB, .int co2, .int pl2, .int st2, .int jo2, .int cn2, .int ii2, .int fi2, .int fe2, .ref bU])), (bK, .inl (cI, 60, .inl K)), (bF, .inl (cI, 60, .inl F)), (bS, .inl (cI, 60, .inl S)), (bB, .inl (cZ, 60, .inl B)), (bL, .inl (cI, 4, .inl L)), (bT, .inl (cI, 4, .inl T)), (bU, .inl (cI, 6, .inl U2))]) [0, 1, 2, 3, 4, 5, 6, 7] rfl
      have hD9 := hD.sub (ws' := [(mo, .inr (2, [.int tw, .ref bL, .ref bT, .int (nI n), .ref bK, .ref bF, .ref bS, .ref bB, .int co2, .int pl2, .int st2, .int jo2, .int cn2, .int ii2, .int fi2, .int fe2, .ref bU])), (bK, .inl (cI, 60, .inl K)), (bF, .inl (cI, 60, .inl F)), (bS, .inl (cI, 60, .inl S)), (bB, .inl (cZ, 60, .inl B)), (bL, .inl (cI, 4, .inl L)), (bT, .inl (cI, 4, .inl T)), (bU, .inl (cI, 6, .inl U2))]) [0, 1, 2, 3, 4, 5, 6, 7] (by decide) rfl
      exact W.zret (v := rr) (ty := .boolean) hx hb hr (nz_01 (by rw [hr9]; exact mDoes_01 _ _ _ _ _ _ _ _)) (fun t ht hW => ⟨⟨rr, (co2, pl2, st2, jo2, cn2, ii2, fi2, fe2, U2), rfl, hpost, by rw [ht]; exact hP9, hD9⟩, hS.F ht⟩) hS.2.2 dX2_reckon_152
    · -- 50
      have hlt : i < mm := by rw [nI_leI (by omega) (by omega)] at c_50; omega
      refine lv_aload_n hx hb dX2_reckon_53 rfl (lv_at hl 2 rfl) ?_
      refine va_get (D := (dC, dI)) (ci := 2) (v := .ref bB) (C := RX2) (T := TX2) (N := 17) hx hb hts hinX2 hown hK hP 0 rfl rfl 7 (by decide) k9 (fun _ h9 => h9) rfl dX2_reckon_54 ?_
      refine lv_iload_n hx hb dX2_reckon_57 rfl (lv_at hl 0 rfl) ?_
      refine va_zald hx hb hK hP 4 1 rfl rfl (vp_in_nI (by omega) (by omega)) dX2_reckon_58 ?_
      rw [nI_clamp (n := i) (by omega)]
      refine lv_if_ne (tgt := 74) hx hb dX2_reckon_59 (by decide) (fun c_59 => ?_) (fun c_59 => ?_)
      · -- 59
        refine lv_iconst (v := 0) hx hb dX2_reckon_74 (by decide) ?_
        refine lv_istore_n (lv' := [(2, .int 0), (3, .int (nI i)), (0, .ref mo), (1, .int (nI mm))]) hx hb dX2_reckon_75 rfl hl (by decide) rfl (fun ls hl => ?_)
        refine lv_iload_n hx hb dX2_reckon_76 rfl (lv_at hl 0 rfl) ?_
        refine lv_if_eq (tgt := 113) hx hb dX2_reckon_77 (by decide) (fun _ => ?_) (fun h9 => absurd (by decide) h9)
        refine lv_aload_n hx hb dX2_reckon_113 rfl (lv_at hl 2 rfl) ?_
        refine va_get (D := (dC, dI)) (ci := 2) (v := .ref bB) (C := RX2) (T := TX2) (N := 17) hx hb hts hinX2 hown hK hP 0 rfl rfl 7 (by decide) k9 (fun _ h9 => h9) rfl dX2_reckon_114 ?_
        refine lv_iload_n hx hb dX2_reckon_117 rfl (lv_at hl 1 rfl) ?_
        refine va_zald hx hb hK hP 4 1 rfl rfl (vp_in_nI (by omega) (by omega)) dX2_reckon_118 ?_
        rw [nI_clamp (n := i) (by omega)]
        refine lv_if_ne (tgt := 145) hx hb dX2_reckon_119 (by decide) (fun _ => ?_) (fun h9 => absurd h9 (c_59))
        refine lv_iinc (v := nI (i + 1)) (lv' := [(3, .int (nI (i + 1))), (2, .int 0), (0, .ref mo), (1, .int (nI mm))]) hx hb dX2_reckon_145 hl (k := 1) rfl (nI_1 _) (by decide) rfl (fun ls hl => ?_)
        refine lv_goto (tgt := 48) hx hb dX2_reckon_148 (by decide) ?_
        exact ih_48 (i + 1) 0 co2 pl2 st2 jo2 cn2 ii2 fi2 fe2 U2 _ _ _ (by omega) (by rw [mRec_skip c_59]; exact hs) (by rw [mDoes_skip c_59]) (by omega) hP hD hS (lv_sub hl [0, 1, 2, 3] rfl)
      · -- 59
        obtain ⟨hst9, hjo9, -⟩ := okX_hap hX (by omega) hs
        obtain ⟨q9, hq9⟩ := okX_pl hX (by omega) hs
        have hfi := okX_fi hX (by omega) hs
        refine lv_aload_n hx hb dX2_reckon_62 rfl (lv_at hl 2 rfl) ?_
        refine lv_iload_n hx hb dX2_reckon_63 rfl (lv_at hl 0 rfl) ?_
        have hPc := hP.sub (ws' := [(mo, .inr (2, [.int tw, .ref bL, .ref bT, .int (nI n), .ref bK, .ref bF, .ref bS, .ref bB, .int co2, .int pl2, .int st2, .int jo2, .int cn2, .int ii2, .int fi2, .int fe2, .ref bU])), (bK, .inl (cI, 60, .inl K)), (bF, .inl (cI, 60, .inl F)), (bS, .inl (cI, 60, .inl S)), (bB, .inl (cZ, 60, .inl B)), (bL, .inl (cI, 4, .inl L)), (bT, .inl (cI, 4, .inl T)), (bU, .inl (cI, 6, .inl U2))]) [0, 1, 2, 3, 4, 5, 6, 7] rfl
        have hDc := hD.sub (ws' := [(mo, .inr (2, [.int tw, .ref bL, .ref bT, .int (nI n), .ref bK, .ref bF, .ref bS, .ref bB, .int co2, .int pl2, .int st2, .int jo2, .int cn2, .int ii2, .int fi2, .int fe2, .ref bU])), (bK, .inl (cI, 60, .inl K)), (bF, .inl (cI, 60, .inl F)), (bS, .inl (cI, 60, .inl S)), (bB, .inl (cZ, 60, .inl B)), (bL, .inl (cI, 4, .inl L)), (bT, .inl (cI, 4, .inl T)), (bU, .inl (cI, 6, .inl U2))]) [0, 1, 2, 3, 4, 5, 6, 7] (by decide) rfl
        have hKc := hK.sub (tys' := [(cI, .int), (cZ, .boolean)]) [0, 1] rfl
        have hFc := va_free (wc := [(mo, .inr (2, [.int tw, .ref bL, .ref bT, .int (nI n), .ref bK, .ref bF, .ref bS, .ref bB, .int co2, .int pl2, .int st2, .int jo2, .int cn2, .int ii2, .int fi2, .int fe2, .ref bU])), (bK, .inl (cI, 60, .inl K)), (bF, .inl (cI, 60, .inl F)), (bS, .inl (cI, 60, .inl S)), (bB, .inl (cZ, 60, .inl B)), (bL, .inl (cI, 4, .inl L)), (bT, .inl (cI, 4, .inl T)), (bU, .inl (cI, 6, .inl U2))]) hD hS hA [0, 1, 2, 3, 4, 5, 6, 7] rfl
        refine va_calli (va_runV (As := [.int (nI i)]) (rest := []) ⟨hx, hb, hml, hown, hts⟩ (c_X2_holds l dC dI cI cZ mo bK bF bS bB bL bT bU H_9.size L T K F S B U2 n tw co2 pl2 st2 jo2 cn2 ii2 fi2 fe2 i (by omega) (hst9) (hX.2.1 i (by omega))) (cwV 1 hts gX2_reckon_X2_holds rfl rfl rfl (by decide +kernel) ⟨Nat.le_of_ble_eq_true rfl, Nat.le_of_ble_eq_true rfl⟩) (pc_V hKc hPc hDc (ci := 2) (C := RX2) (T := TX2) (N := 17) (q0 := 0) rfl rfl) rfl rfl hl.1 rfl (lv_room (Nat.le_of_ble_eq_true rfl)) dX2_reckon_64 ⟨Nat.le_of_ble_eq_true rfl, Nat.le_of_ble_eq_true rfl⟩) hS (fun q _ h => hFc q h) hFc (fun r_10 u t H_10 locs ht hvm hw hB hz1 hk1 hS => ?_)
        try dsimp only at hw hB
        have hw_10 := hw
        replace hw_10 := hw_10.symm
        subst hw_10
        obtain ⟨hP1, hD1⟩ := hB
        rw [ht] at hP1
        obtain ⟨hP, hD⟩ := va_join (wr := []) (w1 := [(mo, .inr (2, [.int tw, .ref bL, .ref bT, .int (nI n), .ref bK, .ref bF, .ref bS, .ref bB, .int co2, .int pl2, .int st2, .int jo2, .int cn2, .int ii2, .int fi2, .int fe2, .ref bU])), (bK, .inl (cI, 60, .inl K)), (bF, .inl (cI, 60, .inl F)), (bS, .inl (cI, 60, .inl S)), (bB, .inl (cZ, 60, .inl B)), (bL, .inl (cI, 4, .inl L)), (bT, .inl (cI, 4, .inl T)), (bU, .inl (cI, 6, .inl U2))]) hP hD [0, 1, 2, 3, 4, 5, 6, 7] [] rfl rfl (by decide) (by decide) hk1 hFc hP1 hD1
        have hP : va_P (dC, dI) vwCl [(mo, .inr (2, [.int tw, .ref bL, .ref bT, .int (nI n), .ref bK, .ref bF, .ref bS, .ref bB, .int co2, .int pl2, .int st2, .int jo2, .int cn2, .int ii2, .int fi2, .int fe2, .ref bU])), (bK, .inl (cI, 60, .inl K)), (bF, .inl (cI, 60, .inl F)), (bS, .inl (cI, 60, .inl S)), (bB, .inl (cZ, 60, .inl B)), (bL, .inl (cI, 4, .inl L)), (bT, .inl (cI, 4, .inl T)), (bU, .inl (cI, 6, .inl U2))] H_10 := hP
        have hD : va_D A [(mo, .inr (2, [.int tw, .ref bL, .ref bT, .int (nI n), .ref bK, .ref bF, .ref bS, .ref bB, .int co2, .int pl2, .int st2, .int jo2, .int cn2, .int ii2, .int fi2, .int fe2, .ref bU])), (bK, .inl (cI, 60, .inl K)), (bF, .inl (cI, 60, .inl F)), (bS, .inl (cI, 60, .inl S)), (bB, .inl (cZ, 60, .inl B)), (bL, .inl (cI, 4, .inl L)), (bT, .inl (cI, 4, .inl T)), (bU, .inl (cI, 6, .inl U2))] := hD
        refine lv_if_eq (tgt := 74) hx hb dX2_reckon_67 (by decide) (fun c_67 => ?_) (fun c_67 => ?_)
        · -- 67
          refine lv_iconst (v := 0) hx hb dX2_reckon_74 (by decide) ?_
          refine lv_istore_n (lv' := [(2, .int 0), (3, .int (nI i)), (0, .ref mo), (1, .int (nI mm))]) hx hb dX2_reckon_75 rfl hl (by decide) rfl (fun ls hl => ?_)
          refine lv_iload_n hx hb dX2_reckon_76 rfl (lv_at hl 0 rfl) ?_
          refine lv_if_eq (tgt := 113) hx hb dX2_reckon_77 (by decide) (fun _ => ?_) (fun h9 => absurd (by decide) h9)
          refine lv_aload_n hx hb dX2_reckon_113 rfl (lv_at hl 2 rfl) ?_
          refine va_get (D := (dC, dI)) (ci := 2) (v := .ref bB) (C := RX2) (T := TX2) (N := 17) hx hb hts hinX2 hown hK hP 0 rfl rfl 7 (by decide) k9 (fun _ h9 => h9) rfl dX2_reckon_114 ?_
          refine lv_iload_n hx hb dX2_reckon_117 rfl (lv_at hl 1 rfl) ?_
          refine va_zald hx hb hK hP 4 1 rfl rfl (vp_in_nI (by omega) (by omega)) dX2_reckon_118 ?_
          rw [nI_clamp (n := i) (by omega)]
          refine lv_if_ne (tgt := 145) hx hb dX2_reckon_119 (by decide) (fun h9 => absurd (c_59) h9) (fun _ => ?_)
          refine lv_aload_n hx hb dX2_reckon_122 rfl (lv_at hl 2 rfl) ?_
          refine lv_dup hx hb dX2_reckon_123 rfl ?_
          refine va_get (D := (dC, dI)) (ci := 2) (v := .int ii2) (C := RX2) (T := TX2) (N := 17) hx hb hts hinX2 hown hK hP 0 rfl rfl 13 (by decide) k6 (fun _ h9 => h9) rfl dX2_reckon_124 ?_
          refine lv_iconst (v := 1) hx hb dX2_reckon_127 (by decide) ?_
          refine lv_iadd hx hb dX2_reckon_128 ?_
          refine lv_topi (fun f_11 ef_11 => ?_)
          refine va_put (D := (dC, dI)) (ci := 2) (v := .int f_11) (ty := .int) (C := RX2) (T := TX2) (N := 17) hx hb hts hinX2 tyX2 tyX2_ok nmX2 hown hK hP hD hS 0 rfl rfl 13 (by decide) k6 (fun _ h9 => h9) rfl (by decide +kernel) rfl rfl (Nat.le_of_ble_eq_true rfl) dX2_reckon_129 (fun H_12 locs hP hD hS => ?_)
          have hP : va_P (dC, dI) vwCl [(mo, .inr (2, [.int tw, .ref bL, .ref bT, .int (nI n), .ref bK, .ref bF, .ref bS, .ref bB, .int co2, .int pl2, .int st2, .int jo2, .int cn2, .int f_11, .int fi2, .int fe2, .ref bU])), (bK, .inl (cI, 60, .inl K)), (bF, .inl (cI, 60, .inl F)), (bS, .inl (cI, 60, .inl S)), (bB, .inl (cZ, 60, .inl B)), (bL, .inl (cI, 4, .inl L)), (bT, .inl (cI, 4, .inl T)), (bU, .inl (cI, 6, .inl U2))] H_12 := hP
          have hD : va_D A [(mo, .inr (2, [.int tw, .ref bL, .ref bT, .int (nI n), .ref bK, .ref bF, .ref bS, .ref bB, .int co2, .int pl2, .int st2, .int jo2, .int cn2, .int f_11, .int fi2, .int fe2, .ref bU])), (bK, .inl (cI, 60, .inl K)), (bF, .inl (cI, 60, .inl F)), (bS, .inl (cI, 60, .inl S)), (bB, .inl (cZ, 60, .inl B)), (bL, .inl (cI, 4, .inl L)), (bT, .inl (cI, 4, .inl T)), (bU, .inl (cI, 6, .inl U2))] := hD
          refine lv_aload_n hx hb dX2_reckon_132 rfl (lv_at hl 2 rfl) ?_
          refine va_get (D := (dC, dI)) (ci := 2) (v := .int fi2) (C := RX2) (T := TX2) (N := 17) hx hb hts hinX2 hown hK hP 0 rfl rfl 14 (by decide) k7 (fun _ h9 => h9) rfl dX2_reckon_133 ?_
          refine lv_iconst (v := (-1)) hx hb dX2_reckon_136 (by decide) ?_
          refine lv_icmp_ne (tgt := 145) hx hb dX2_reckon_137 (by decide) (fun c_137 => ?_) (fun c_137 => ?_)
          · -- 137
            refine lv_iinc (v := nI (i + 1)) (lv' := [(3, .int (nI (i + 1))), (2, .int 0), (0, .ref mo), (1, .int (nI mm))]) hx hb dX2_reckon_145 hl (k := 1) rfl (nI_1 _) (by decide) rfl (fun ls hl => ?_)
            refine lv_goto (tgt := 48) hx hb dX2_reckon_148 (by decide) ?_
            exact ih_48 (i + 1) 0 co2 pl2 st2 jo2 cn2 f_11 fi2 fe2 U2 _ _ _ (by omega) (by rw [mRec_take c_59, ← hs]; exact mM_no c_67 (Or.inr ⟨fun h => c_137 (hfi.mp h), rfl⟩) ef_11) (by rw [mDoes_take c_59, ← hs]; exact c_67.symm) (by omega) hP hD hS (lv_sub hl [0, 1, 2, 3] rfl)
          · -- 137
            refine lv_aload_n hx hb dX2_reckon_140 rfl (lv_at hl 2 rfl) ?_
            refine lv_iload_n hx hb dX2_reckon_141 rfl (lv_at hl 1 rfl) ?_
            refine va_put (D := (dC, dI)) (ci := 2) (v := .int (nI i)) (ty := .int) (C := RX2) (T := TX2) (N := 17) hx hb hts hinX2 tyX2 tyX2_ok nmX2 hown hK hP hD hS 0 rfl rfl 14 (by decide) k7 (fun _ h9 => h9) rfl (by decide +kernel) rfl rfl (Nat.le_of_ble_eq_true rfl) dX2_reckon_142 (fun H_13 locs hP hD hS => ?_)
            have hP : va_P (dC, dI) vwCl [(mo, .inr (2, [.int tw, .ref bL, .ref bT, .int (nI n), .ref bK, .ref bF, .ref bS, .ref bB, .int co2, .int pl2, .int st2, .int jo2, .int cn2, .int f_11, .int (nI i), .int fe2, .ref bU])), (bK, .inl (cI, 60, .inl K)), (bF, .inl (cI, 60, .inl F)), (bS, .inl (cI, 60, .inl S)), (bB, .inl (cZ, 60, .inl B)), (bL, .inl (cI, 4, .inl L)), (bT, .inl (cI, 4, .inl T)), (bU, .inl (cI, 6, .inl U2))] H_13 := hP
            have hD : va_D A [(mo, .inr (2, [.int tw, .ref bL, .ref bT, .int (nI n), .ref bK, .ref bF, .ref bS, .ref bB, .int co2, .int pl2, .int st2, .int jo2, .int cn2, .int f_11, .int (nI i), .int fe2, .ref bU])), (bK, .inl (cI, 60, .inl K)), (bF, .inl (cI, 60, .inl F)), (bS, .inl (cI, 60, .inl S)), (bB, .inl (cZ, 60, .inl B)), (bL, .inl (cI, 4, .inl L)), (bT, .inl (cI, 4, .inl T)), (bU, .inl (cI, 6, .inl U2))] := hD
            refine lv_iinc (v := nI (i + 1)) (lv' := [(3, .int (nI (i + 1))), (2, .int 0), (0, .ref mo), (1, .int (nI mm))]) hx hb dX2_reckon_145 hl (k := 1) rfl (nI_1 _) (by decide) rfl (fun ls hl => ?_)
            refine lv_goto (tgt := 48) hx hb dX2_reckon_148 (by decide) ?_
            exact ih_48 (i + 1) 0 co2 pl2 st2 jo2 cn2 f_11 (nI i) fe2 U2 _ _ _ (by omega) (by rw [mRec_take c_59, ← hs]; exact mM_no c_67 (Or.inl ⟨hfi.mpr c_137, rfl⟩) ef_11) (by rw [mDoes_take c_59, ← hs]; exact c_67.symm) (by omega) hP hD hS (lv_sub hl [0, 1, 2, 3] rfl)
        · -- 67
          refine lv_iconst (v := 1) hx hb dX2_reckon_70 (by decide) ?_
          refine lv_goto (tgt := 75) hx hb dX2_reckon_71 (by decide) ?_
          refine lv_istore_n (lv' := [(2, .int 1), (3, .int (nI i)), (0, .ref mo), (1, .int (nI mm))]) hx hb dX2_reckon_75 rfl hl (by decide) rfl (fun ls hl => ?_)
          refine lv_iload_n hx hb dX2_reckon_76 rfl (lv_at hl 0 rfl) ?_
          refine lv_if_eq (tgt := 113) hx hb dX2_reckon_77 (by decide) (fun h9 => absurd h9 (by decide)) (fun _ => ?_)
          refine lv_aload_n hx hb dX2_reckon_80 rfl (lv_at hl 2 rfl) ?_
          refine lv_iload_n hx hb dX2_reckon_81 rfl (lv_at hl 1 rfl) ?_
          have hPc := hP.sub (ws' := [(mo, .inr (2, [.int tw, .ref bL, .ref bT, .int (nI n), .ref bK, .ref bF, .ref bS, .ref bB, .int co2, .int pl2, .int st2, .int jo2, .int cn2, .int ii2, .int fi2, .int fe2, .ref bU])), (bK, .inl (cI, 60, .inl K)), (bF, .inl (cI, 60, .inl F)), (bS, .inl (cI, 60, .inl S)), (bB, .inl (cZ, 60, .inl B)), (bL, .inl (cI, 4, .inl L)), (bT, .inl (cI, 4, .inl T)), (bU, .inl (cI, 6, .inl U2))]) [0, 1, 2, 3, 4, 5, 6, 7] rfl
          have hDc := hD.sub (ws' := [(mo, .inr (2, [.int tw, .ref bL, .ref bT, .int (nI n), .ref bK, .ref bF, .ref bS, .ref bB, .int co2, .int pl2, .int st2, .int jo2, .int cn2, .int ii2, .int fi2, .int fe2, .ref bU])), (bK, .inl (cI, 60, .inl K)), (bF, .inl (cI, 60, .inl F)), (bS, .inl (cI, 60, .inl S)), (bB, .inl (cZ, 60, .inl B)), (bL, .inl (cI, 4, .inl L)), (bT, .inl (cI, 4, .inl T)), (bU, .inl (cI, 6, .inl U2))]) [0, 1, 2, 3, 4, 5, 6, 7] (by decide) rfl
          have hKc := hK.sub (tys' := [(cI, .int), (cZ, .boolean)]) [0, 1] rfl
          have hFc := va_free (wc := [(mo, .inr (2, [.int tw, .ref bL, .ref bT, .int (nI n), .ref bK, .ref bF, .ref bS, .ref bB, .int co2, .int pl2, .int st2, .int jo2, .int cn2, .int ii2, .int fi2, .int fe2, .ref bU])), (bK, .inl (cI, 60, .inl K)), (bF, .inl (cI, 60, .inl F)), (bS, .inl (cI, 60, .inl S)), (bB, .inl (cZ, 60, .inl B)), (bL, .inl (cI, 4, .inl L)), (bT, .inl (cI, 4, .inl T)), (bU, .inl (cI, 6, .inl U2))]) hD hS hA [0, 1, 2, 3, 4, 5, 6, 7] rfl
          refine va_callv (va_runV (As := [.int (nI i)]) (rest := []) ⟨hx, hb, hml, hown, hts⟩ (c_X2_carryOut l dC dI cI cZ mo bK bF bS bB bL bT bU H_10.size L T K F S B U2 n tw co2 pl2 st2 jo2 cn2 ii2 fi2 fe2 i q9 (by omega) (hst9) (hjo9) (hq9) (hX.2.1 i (by omega)) (c_67)) (cwV 1 hts gX2_reckon_X2_carryOut rfl rfl rfl (by decide +kernel) ⟨Nat.le_of_ble_eq_true rfl, Nat.le_of_ble_eq_true rfl⟩) (pc_V hKc hPc hDc (ci := 2) (C := RX2) (T := TX2) (N := 17) (q0 := 0) rfl rfl) rfl rfl hl.1 rfl (lv_room (Nat.le_of_ble_eq_true rfl)) dX2_reckon_82 ⟨Nat.le_of_ble_eq_true rfl, Nat.le_of_ble_eq_true rfl⟩) hS (fun q _ h => hFc q h) hFc (fun u t H_14 locs ht hvm hw hB hz1 hk1 hS => ?_)
          obtain ⟨co1_14, pl1_14, st1_14, jo1_14, U1_14⟩ := u
          try dsimp only at hw hB
          have hw_14 := hw
          obtain ⟨hP1, hD1⟩ := hB
          rw [ht] at hP1
          obtain ⟨hP, hD⟩ := va_join (wr := []) (w1 := [(mo, .inr (2, [.int tw, .ref bL, .ref bT, .int (nI n), .ref bK, .ref bF, .ref bS, .ref bB, .int co1_14, .int pl1_14, .int st1_14, .int jo1_14, .int cn2, .int ii2, .int fi2, .int fe2, .ref bU])), (bK, .inl (cI, 60, .inl K)), (bF, .inl (cI, 60, .inl F)), (bS, .inl (cI, 60, .inl S)), (bB, .inl (cZ, 60, .inl B)), (bL, .inl (cI, 4, .inl L)), (bT, .inl (cI, 4, .inl T)), (bU, .inl (cI, 6, .inl U1_14))]) hP hD [0, 1, 2, 3, 4, 5, 6, 7] [] rfl rfl (by decide) (by decide) hk1 hFc hP1 hD1
          have hP : va_P (dC, dI) vwCl [(mo, .inr (2, [.int tw, .ref bL, .ref bT, .int (nI n), .ref bK, .ref bF, .ref bS, .ref bB, .int co1_14, .int pl1_14, .int st1_14, .int jo1_14, .int cn2, .int ii2, .int fi2, .int fe2, .ref bU])), (bK, .inl (cI, 60, .inl K)), (bF, .inl (cI, 60, .inl F)), (bS, .inl (cI, 60, .inl S)), (bB, .inl (cZ, 60, .inl B)), (bL, .inl (cI, 4, .inl L)), (bT, .inl (cI, 4, .inl T)), (bU, .inl (cI, 6, .inl U1_14))] H_14 := hP
          have hD : va_D A [(mo, .inr (2, [.int tw, .ref bL, .ref bT, .int (nI n), .ref bK, .ref bF, .ref bS, .ref bB, .int co1_14, .int pl1_14, .int st1_14, .int jo1_14, .int cn2, .int ii2, .int fi2, .int fe2, .ref bU])), (bK, .inl (cI, 60, .inl K)), (bF, .inl (cI, 60, .inl F)), (bS, .inl (cI, 60, .inl S)), (bB, .inl (cZ, 60, .inl B)), (bL, .inl (cI, 4, .inl L)), (bT, .inl (cI, 4, .inl T)), (bU, .inl (cI, 6, .inl U1_14))] := hD
          refine lv_aload_n hx hb dX2_reckon_85 rfl (lv_at hl 2 rfl) ?_
          refine lv_dup hx hb dX2_reckon_86 rfl ?_
          refine va_get (D := (dC, dI)) (ci := 2) (v := .int cn2) (C := RX2) (T := TX2) (N := 17) hx hb hts hinX2 hown hK hP 0 rfl rfl 12 (by decide) k5 (fun _ h9 => h9) rfl dX2_reckon_87 ?_
          refine lv_iconst (v := 1) hx hb dX2_reckon_90 (by decide) ?_
          refine lv_iadd hx hb dX2_reckon_91 ?_
          refine lv_topi (fun f_15 ef_15 => ?_)
          refine va_put (D := (dC, dI)) (ci := 2) (v := .int f_15) (ty := .int) (C := RX2) (T := TX2) (N := 17) hx hb hts hinX2 tyX2 tyX2_ok nmX2 hown hK hP hD hS 0 rfl rfl 12 (by decide) k5 (fun _ h9 => h9) rfl (by decide +kernel) rfl rfl (Nat.le_of_ble_eq_true rfl) dX2_reckon_92 (fun H_16 locs hP hD hS => ?_)
          have hP : va_P (dC, dI) vwCl [(mo, .inr (2, [.int tw, .ref bL, .ref bT, .int (nI n), .ref bK, .ref bF, .ref bS, .ref bB, .int co1_14, .int pl1_14, .int st1_14, .int jo1_14, .int f_15, .int ii2, .int fi2, .int fe2, .ref bU])), (bK, .inl (cI, 60, .inl K)), (bF, .inl (cI, 60, .inl F)), (bS, .inl (cI, 60, .inl S)), (bB, .inl (cZ, 60, .inl B)), (bL, .inl (cI, 4, .inl L)), (bT, .inl (cI, 4, .inl T)), (bU, .inl (cI, 6, .inl U1_14))] H_16 := hP
          have hD : va_D A [(mo, .inr (2, [.int tw, .ref bL, .ref bT, .int (nI n), .ref bK, .ref bF, .ref bS, .ref bB, .int co1_14, .int pl1_14, .int st1_14, .int jo1_14, .int f_15, .int ii2, .int fi2, .int fe2, .ref bU])), (bK, .inl (cI, 60, .inl K)), (bF, .inl (cI, 60, .inl F)), (bS, .inl (cI, 60, .inl S)), (bB, .inl (cZ, 60, .inl B)), (bL, .inl (cI, 4, .inl L)), (bT, .inl (cI, 4, .inl T)), (bU, .inl (cI, 6, .inl U1_14))] := hD
          refine lv_aload_n hx hb dX2_reckon_95 rfl (lv_at hl 2 rfl) ?_
          refine lv_aload_n hx hb dX2_reckon_96 rfl (lv_at hl 2 rfl) ?_
          refine va_get (D := (dC, dI)) (ci := 2) (v := .int fe2) (C := RX2) (T := TX2) (N := 17) hx hb hts hinX2 hown hK hP 0 rfl rfl 15 (by decide) k8 (fun _ h9 => h9) rfl dX2_reckon_97 ?_
          refine lv_aload_n hx hb dX2_reckon_100 rfl (lv_at hl 2 rfl) ?_
          refine va_get (D := (dC, dI)) (ci := 2) (v := .int co1_14) (C := RX2) (T := TX2) (N := 17) hx hb hts hinX2 hown hK hP 0 rfl rfl 8 (by decide) k0 (fun _ h9 => h9) rfl dX2_reckon_101 ?_
          refine va_mmin hx hb (hml.trans hl.1.symm) hown k10 k11 k12 k13 (Nat.le_of_ble_eq_true rfl) (Nat.le_of_ble_eq_true rfl) (Nat.le_of_ble_eq_true rfl) (Nat.le_of_ble_eq_true rfl) dX2_reckon_104 ?_
          refine lv_topi (fun f_17 ef_17 => ?_)
          have ef_17 : f_17 = kmin fe2 co1_14 := ef_17
          refine va_put (D := (dC, dI)) (ci := 2) (v := .int f_17) (ty := .int) (C := RX2) (T := TX2) (N := 17) hx hb hts hinX2 tyX2 tyX2_ok nmX2 hown hK hP hD hS 0 rfl rfl 15 (by decide) k8 (fun _ h9 => h9) rfl (by decide +kernel) rfl rfl (Nat.le_of_ble_eq_true rfl) dX2_reckon_107 (fun H_18 locs hP hD hS => ?_)
          have hP : va_P (dC, dI) vwCl [(mo, .inr (2, [.int tw, .ref bL, .ref bT, .int (nI n), .ref bK, .ref bF, .ref bS, .ref bB, .int co1_14, .int pl1_14, .int st1_14, .int jo1_14, .int f_15, .int ii2, .int fi2, .int f_17, .ref bU])), (bK, .inl (cI, 60, .inl K)), (bF, .inl (cI, 60, .inl F)), (bS, .inl (cI, 60, .inl S)), (bB, .inl (cZ, 60, .inl B)), (bL, .inl (cI, 4, .inl L)), (bT, .inl (cI, 4, .inl T)), (bU, .inl (cI, 6, .inl U1_14))] H_18 := hP
          have hD : va_D A [(mo, .inr (2, [.int tw, .ref bL, .ref bT, .int (nI n), .ref bK, .ref bF, .ref bS, .ref bB, .int co1_14, .int pl1_14, .int st1_14, .int jo1_14, .int f_15, .int ii2, .int fi2, .int f_17, .ref bU])), (bK, .inl (cI, 60, .inl K)), (bF, .inl (cI, 60, .inl F)), (bS, .inl (cI, 60, .inl S)), (bB, .inl (cZ, 60, .inl B)), (bL, .inl (cI, 4, .inl L)), (bT, .inl (cI, 4, .inl T)), (bU, .inl (cI, 6, .inl U1_14))] := hD
          refine lv_goto (tgt := 145) hx hb dX2_reckon_110 (by decide) ?_
          refine lv_iinc (v := nI (i + 1)) (lv' := [(3, .int (nI (i + 1))), (2, .int 1), (0, .ref mo), (1, .int (nI mm))]) hx hb dX2_reckon_145 hl (k := 1) rfl (nI_1 _) (by decide) rfl (fun ls hl => ?_)
          refine lv_goto (tgt := 48) hx hb dX2_reckon_148 (by decide) ?_
          exact ih_48 (i + 1) 1 co1_14 pl1_14 st1_14 jo1_14 f_15 ii2 fi2 f_17 U1_14 _ _ _ (by omega) (by rw [mRec_take c_59, ← hs]; exact mM_yes c_67 hw_14 ef_15 ef_17) (by rw [mDoes_take c_59, ← hs]; exact (mHap_01 _ _ _ _ _ _ _ _ _ _).resolve_left c_67 |>.symm) (by omega) hP hD hS (lv_sub hl [0, 1, 2, 3] rfl)

set_option maxHeartbeats 4000000 in
set_option maxRecDepth 100000 in
theorem c_X2_trustAll (l : Launch) (dC : Nat → ClassId) (dI : Nat → Nat → Nat) (cI cZ : ClassId) (mo bK bF bS bB bL bT bU : Nat) (sz : Nat) (L : N2I) (T : N2I) (K : N2I) (F : N2I) (S : N2I) (B : N2I) (U : N2I) (n : Nat) (tw : Int32) (co : Int32) (pl : Int32) (st : Int32) (jo : Int32) (cn : Int32) (ii : Int32) (fi : Int32) (fe : Int32) (j : Nat) (hj : jo = nI j) (hj6 : j ≤ 6) : Met l yX2_trustAll wsX2_trustAll ({ frames := 0, cells := 0, slots := 0, locals := 0 } : Room) (va_Pc [.ref mo] (pc_ (dC, dI) [(cI, .int), (cZ, .boolean)] [(mo, .inr (2, [.int tw, .ref bL, .ref bT, .int (nI n), .ref bK, .ref bF, .ref bS, .ref bB, .int co, .int pl, .int st, .int jo, .int cn, .int ii, .int fi, .int fe, .ref bU])), (bK, .inl (cI, 60, .inl K)), (bF, .inl (cI, 60, .inl F)), (bS, .inl (cI, 60, .inl S)), (bB, .inl (cZ, 60, .inl B)), (bL, .inl (cI, 4, .inl L)), (bT, .inl (cI, 4, .inl T)), (bU, .inl (cI, 6, .inl U))] sz)) (va_Qi (fun (r : Int32) (u : Unit) => r = mSum U j) (fun (u : Unit) (t : State) => va_P (dC, dI) vwCl [(mo, .inr (2, [.int tw, .ref bL, .ref bT, .int (nI n), .ref bK, .ref bF, .ref bS, .ref bB, .int co, .int pl, .int st, .int jo, .int cn, .int ii, .int fi, .int fe, .ref bU])), (bK, .inl (cI, 60, .inl K)), (bF, .inl (cI, 60, .inl F)), (bS, .inl (cI, 60, .inl S)), (bB, .inl (cZ, 60, .inl B)), (bL, .inl (cI, 4, .inl L)), (bT, .inl (cI, 4, .inl T)), (bU, .inl (cI, 6, .inl U))] t.heap ∧ va_D (va_A [(mo, .inr (2, [.int tw, .ref bL, .ref bT, .int (nI n), .ref bK, .ref bF, .ref bS, .ref bB, .int co, .int pl, .int st, .int jo, .int cn, .int ii, .int fi, .int fe, .ref bU])), (bK, .inl (cI, 60, .inl K)), (bF, .inl (cI, 60, .inl F)), (bS, .inl (cI, 60, .inl S)), (bB, .inl (cZ, 60, .inl B)), (bL, .inl (cI, 4, .inl L)), (bT, .inl (cI, 4, .inl T)), (bU, .inl (cI, 6, .inl U))] sz) [(mo, .inr (2, [.int tw, .ref bL, .ref bT, .int (nI n), .ref bK, .ref bF, .ref bS, .ref bB, .int co, .int pl, .int st, .int jo, .int cn, .int ii, .int fi, .int fe, .ref bU])), (bK, .inl (cI, 60, .inl K)), (bF, .inl (cI, 60, .inl F)), (bS, .inl (cI, 60, .inl S)), (bB, .inl (cZ, 60, .inl B)), (bL, .inl (cI, 4, .inl L)), (bT, .inl (cI, 4, .inl T)), (bU, .inl (cI, 6, .inl U))]) (va_A [(mo, .inr (2, [.int tw, .ref bL, .ref bT, .int (nI n), .ref bK, .ref bF, .ref bS, .ref bB, .int co, .int pl, .int st, .int jo, .int cn, .int ii, .int fi, .int fe, .ref bU])), (bK, .inl (cI, 60, .inl K)), (bF, .inl (cI, 60, .inl F)), (bS, .inl (cI, 60, .inl S)), (bB, .inl (cZ, 60, .inl B)), (bL, .inl (cI, 4, .inl L)), (bT, .inl (cI, 4, .inl T)), (bU, .inl (cI, 6, .inl U))] sz)) 0 0 (va_A [(mo, .inr (2, [.int tw, .ref bL, .ref bT, .int (nI n), .ref bK, .ref bF, .ref bS, .ref bB, .int co, .int pl, .int st, .int jo, .int cn, .int ii, .int fi, .int fe, .ref bU])), (bK, .inl (cI, 60, .inl K)), (bF, .inl (cI, 60, .inl F)), (bS, .inl (cI, 60, .inl S)), (bB, .inl (cZ, 60, .inl B)), (bL, .inl (cI, 4, .inl L)), (bT, .inl (cI, 4, .inl T)), (bU, .inl (cI, 6, .inl U))] sz) := by
  refine Met.ofW (cc := cX2_trustAll) (maxL := 3) (ret := (some .int)) (by decide) rfl ?_
  intro p e s m args below meth c s₁ BB hml hv
  obtain ⟨rfl, hsz, hP, hK, hD0⟩ := hv
  have hx := BB.exec
  have hb := BB.bytes
  have hr := BB.returns
  have hts := atoms_spec (ws := wsX2_trustAll) BB.pre
  have hown : s.vm.findClass RX2 = some m.cls := findClass_of_methodNamed BB.named
  have hlocks := BB.notSynchronized
  subst hsz
  have hD := hD0.self (sz := s.heap.size)
  generalize hAe : va_A [(mo, .inr (2, [.int tw, .ref bL, .ref bT, .int (nI n), .ref bK, .ref bF, .ref bS, .ref bB, .int co, .int pl, .int st, .int jo, .int cn, .int ii, .int fi, .int fe, .ref bU])), (bK, .inl (cI, 60, .inl K)), (bF, .inl (cI, 60, .inl F)), (bS, .inl (cI, 60, .inl S)), (bB, .inl (cZ, 60, .inl B)), (bL, .inl (cI, 4, .inl L)), (bT, .inl (cI, 4, .inl T)), (bU, .inl (cI, 6, .inl U))] s.heap.size = A at hD ⊢
  have hA : ∀ q : Nat, s.heap.size ≤ q → A q := fun q h => by rw [← hAe]; exact Or.inr h
  have hS : va_S A s.heap s.heap [] := va_S.rf
  have hP : va_P (dC, dI) vwCl [(mo, .inr (2, [.int tw, .ref bL, .ref bT, .int (nI n), .ref bK, .ref bF, .ref bS, .ref bB, .int co, .int pl, .int st, .int jo, .int cn, .int ii, .int fi, .int fe, .ref bU])), (bK, .inl (cI, 60, .inl K)), (bF, .inl (cI, 60, .inl F)), (bS, .inl (cI, 60, .inl S)), (bB, .inl (cZ, 60, .inl B)), (bL, .inl (cI, 4, .inl L)), (bT, .inl (cI, 4, .inl T)), (bU, .inl (cI, 6, .inl U))] s.heap := hP
  have hl := lv_entry ([.ref mo]) (n := 3) (Nat.le_of_ble_eq_true rfl)
  rw [lg_entry_eq]
  generalize (lg_sl ([.ref mo]) ++ List.replicate (3 - (lg_sl ([.ref mo])).length) Slot.unset).toArray = ls at hl ⊢
  have hl : lv_has ls 3 [(0, .ref mo)] := hl
  have k0 := hts (.fieldLink RX2 60 "KnifeLedgerModel" "joined" "I") (by decide +kernel)
  have hinX2 : ∀ w ∈ wsX20, w ∈ wsX2_trustAll := by decide +kernel
  have k2 := hts (.fieldLink RX2 29 "KnifeLedgerModel" "trusts" "[I") (by decide +kernel)
  refine lv_iconst (v := 0) hx hb dX2_trustAll_0 (by decide) ?_
  refine lv_istore_n (lv' := [(1, .int 0), (0, .ref mo)]) hx hb dX2_trustAll_1 rfl hl (by decide) rfl (fun ls hl => ?_)
  refine lv_iconst (v := 0) hx hb dX2_trustAll_2 (by decide) ?_
  refine lv_istore_n (lv' := [(2, .int 0), (1, .int 0), (0, .ref mo)]) hx hb dX2_trustAll_3 rfl hl (by decide) rfl (fun ls hl => ?_)
  refine (fun (KK : ∀ (nn9 : Nat) (k : Nat) (H : Heap) (locs : List Loc) (ls : Array Slot) (hk : k ≤ j), j - k < nn9 → va_P (dC, dI) vwCl [(mo, .inr (2, [.int tw, .ref bL, .ref bT, .int (nI n), .ref bK, .ref bF, .ref bS, .ref bB, .int co, .int pl, .int st, .int jo, .int cn, .int ii, .int fi, .int fe, .ref bU])), (bK, .inl (cI, 60, .inl K)), (bF, .inl (cI, 60, .inl F)), (bS, .inl (cI, 60, .inl S)), (bB, .inl (cZ, 60, .inl B)), (bL, .inl (cI, 4, .inl L)), (bT, .inl (cI, 4, .inl T)), (bU, .inl (cI, 6, .inl U))] H → va_D A [(mo, .inr (2, [.int tw, .ref bL, .ref bT, .int (nI n), .ref bK, .ref bF, .ref bS, .ref bB, .int co, .int pl, .int st, .int jo, .int cn, .int ii, .int fi, .int fe, .ref bU])), (bK, .inl (cI, 60, .inl K)), (bF, .inl (cI, 60, .inl F)), (bS, .inl (cI, 60, .inl S)), (bB, .inl (cZ, 60, .inl B)), (bL, .inl (cI, 4, .inl L)), (bT, .inl (cI, 4, .inl T)), (bU, .inl (cI, 6, .inl U))] → va_S A s.heap H locs → lv_has ls 3 [(1, .int (mSum U k)), (2, .int (nI k)), (0, .ref mo)] → W p l e _ s m _ below meth c H locs 0 0 _ (F0 m 4 ls [])) => KK (j - 0 + 1) 0 _ _ _ (Nat.zero_le _) (by omega) hP hD hS (lv_sub hl [1, 0, 2] rfl)) ?_
  intro nn_4
  induction nn_4 with
  | zero => intro k H locs ls hk hn9; exact absurd hn9 (Nat.not_lt_zero _)
  | succ nn_4 ih_4 =>
    intro k H_1 locs ls hk hn_4 hP hD hS hl
    refine lv_iload_n hx hb dX2_trustAll_4 rfl (lv_at hl 1 rfl) ?_
    refine lv_aload_n hx hb dX2_trustAll_5 rfl (lv_at hl 2 rfl) ?_
    refine va_get (D := (dC, dI)) (ci := 2) (v := .int jo) (C := RX2) (T := TX2) (N := 17) hx hb hts hinX2 hown hK hP 0 rfl rfl 11 (by decide) k0 (fun _ h9 => h9) rfl dX2_trustAll_6 ?_
    refine lv_icmp_ge (tgt := 27) hx hb dX2_trustAll_9 (by decide) (fun c_9 => ?_) (fun c_9 => ?_)
    · -- 9
      have hge : j ≤ k := by rw [hj, nI_leI (by omega) (by omega)] at c_9; omega
      refine lv_iload_n hx hb dX2_trustAll_27 rfl (lv_at hl 0 rfl) ?_
      have hpost : (mSum U k) = mSum U j := by
        rw [show j = k from by omega]
      have hP9 := hP.sub (ws' := [(mo, .inr (2, [.int tw, .ref bL, .ref bT, .int (nI n), .ref bK, .ref bF, .ref bS, .ref bB, .int co, .int pl, .int st, .int jo, .int cn, .int ii, .int fi, .int fe, .ref bU])), (bK, .inl (cI, 60, .inl K)), (bF, .inl (cI, 60, .inl F)), (bS, .inl (cI, 60, .inl S)), (bB, .inl (cZ, 60, .inl B)), (bL, .inl (cI, 4, .inl L)), (bT, .inl (cI, 4, .inl T)), (bU, .inl (cI, 6, .inl U))]) [0, 1, 2, 3, 4, 5, 6, 7] rfl
      have hD9 := hD.sub (ws' := [(mo, .inr (2, [.int tw, .ref bL, .ref bT, .int (nI n), .ref bK, .ref bF, .ref bS, .ref bB, .int co, .int pl, .int st, .int jo, .int cn, .int ii, .int fi, .int fe, .ref bU])), (bK, .inl (cI, 60, .inl K)), (bF, .inl (cI, 60, .inl F)), (bS, .inl (cI, 60, .inl S)), (bB, .inl (cZ, 60, .inl B)), (bL, .inl (cI, 4, .inl L)), (bT, .inl (cI, 4, .inl T)), (bU, .inl (cI, 6, .inl U))]) [0, 1, 2, 3, 4, 5, 6, 7] (by decide) rfl
      exact W.iret (v := mSum U k) hx hb hr (fun t ht hW => ⟨⟨(mSum U k), (), rfl, hpost, by rw [ht]; exact hP9, hD9⟩, hS.F ht⟩) hS.2.2 dX2_trustAll_28
    · -- 9
      have hlt : k < j := by rw [hj, nI_leI (by omega) (by omega)] at c_9; omega
      refine lv_iload_n hx hb dX2_trustAll_12 rfl (lv_at hl 0 rfl) ?_
      refine lv_aload_n hx hb dX2_trustAll_13 rfl (lv_at hl 2 rfl) ?_
      refine va_get (D := (dC, dI)) (ci := 2) (v := .ref bU) (C := RX2) (T := TX2) (N := 17) hx hb hts hinX2 hown hK hP 0 rfl rfl 16 (by decide) k2 (fun _ h9 => h9) rfl dX2_trustAll_14 ?_
      refine lv_iload_n hx hb dX2_trustAll_17 rfl (lv_at hl 1 rfl) ?_
      refine va_iald hx hb hK hP 7 0 rfl rfl (vp_in_nI (by omega) (by omega)) dX2_trustAll_18 ?_
      rw [nI_clamp (n := k) (by omega)]
      refine lv_iadd hx hb dX2_trustAll_19 ?_
      refine lv_istore_n (lv' := [(1, .int ((mSum U k) + (U k))), (2, .int (nI k)), (0, .ref mo)]) hx hb dX2_trustAll_20 rfl hl (by decide) rfl (fun ls hl => ?_)
      refine lv_iinc (v := nI (k + 1)) (lv' := [(2, .int (nI (k + 1))), (1, .int ((mSum U k) + (U k))), (0, .ref mo)]) hx hb dX2_trustAll_21 hl (k := 1) rfl (nI_1 _) (by decide) rfl (fun ls hl => ?_)
      refine lv_goto (tgt := 4) hx hb dX2_trustAll_24 (by decide) ?_
      exact ih_4 (k + 1) _ _ _ (by omega) (by omega) hP hD hS (lv_sub hl [1, 0, 2] rfl)
