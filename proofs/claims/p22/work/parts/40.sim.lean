/-! the law's numbers out of an int: below(v, n) is a whole number less than n -/
def bel (v : Int32) (n : Nat) : Nat := (v.toBitVec.toNat % 2 ^ 31) % n
theorem bel_lt (v : Int32) {n : Nat} (h : 0 < n) : bel v n < n := Nat.mod_lt _ h
theorem mask_eq (v : Int32) : v &&& 2147483647 = nI (v.toBitVec.toNat % 2 ^ 31) := by
  apply Int32.toBitVec_inj.mp
  apply BitVec.eq_of_toNat_eq
  rw [Int32.toBitVec_and, BitVec.toNat_and]
  show v.toBitVec.toNat &&& (2147483647 : Int32).toBitVec.toNat = (BitVec.ofNat 32 (v.toBitVec.toNat % 2 ^ 31)).toNat
  rw [show (2147483647 : Int32).toBitVec.toNat = 2 ^ 31 - 1 from rfl, Nat.and_two_pow_sub_one_eq_mod, BitVec.toNat_ofNat]
  omega
theorem bel_eq {v : Int32} {n : Nat} (h0 : 0 < n) (h1 : n < 2 ^ 31) : (v &&& 2147483647) - (v &&& 2147483647) / nI n * nI n = nI (bel v n) := by
  rw [mask_eq]
  exact pk_rem (by omega) h0 h1
/-- Sim's trusts: -1 for who has not joined -/
def TrV (tr : N2I) (j : Nat) (U : N2I) : Prop := j ≤ 6 ∧ (∀ p, p < 6 → tr p = if p < j then U p else -1) ∧ ∀ q, q < j → ∃ t, t ≤ 100 ∧ U q = nI t
def okL (L T : N2I) : Prop := ∀ i, i < 4 → vp_in (L i) 10 ∧ vp_in (T i) 10
def jmin : Nat → Nat → Nat
  | 0, _ => 0
  | k + 1, j => if k < j then jmin k j + 1 else jmin k j
theorem jmin_eq (j : Nat) : ∀ k, jmin k j = if k ≤ j then k else j := by
  intro k
  induction k with
  | zero => exact (if_pos (Nat.zero_le j)).symm
  | succ k ih =>
    show (if k < j then jmin k j + 1 else jmin k j) = _
    rw [ih]
    by_cases h : k < j
    · rw [if_pos h, if_pos (by omega), if_pos (by omega)]
    · rw [if_neg h]
      by_cases h2 : k ≤ j
      · rw [if_pos h2, if_neg (by omega)]; omega
      · rw [if_neg h2, if_neg (by omega)]
theorem jmin_end {tr : N2I} {j k : Nat} {U : N2I} (h : TrV tr j U) (hk : 6 ≤ k) : jmin k j = j := by
  have := h.1
  rw [jmin_eq]; split <;> omega
theorem jmin_lt {j k : Nat} (h : k < j) : jmin (k + 1) j = jmin k j + 1 := if_pos h
theorem jmin_ge {j k : Nat} (h : j ≤ k) : jmin (k + 1) j = jmin k j := if_neg (by omega)
theorem tr_at {tr : N2I} {j p : Nat} {U : N2I} (h : TrV tr j U) (hp : p < 6) : (p < j ∧ ∃ t, t ≤ 100 ∧ U p = nI t ∧ tr p = nI t) ∨ (j ≤ p ∧ tr p = -1) := by
  have e := h.2.1 p hp
  by_cases hj : p < j
  · obtain ⟨t, ht, e2⟩ := h.2.2 p hj
    rw [if_pos hj, e2] at e
    exact Or.inl ⟨hj, t, ht, e2, e⟩
  · rw [if_neg hj] at e
    exact Or.inr ⟨by omega, e⟩
theorem le_nI {t : Nat} (h : t < 2 ^ 31) : (0 : Int32) ≤ nI t := nI_pos' h
theorem jn_yes {tr : N2I} {j k : Nat} {U : N2I} (h : TrV tr j U) (hk : k < 6) (c : 0 ≤ tr k) : nI (jmin k j + 1) = nI (jmin (k + 1) j) := by
  rcases tr_at h hk with ⟨hj, t, ht, -, e⟩ | ⟨hj, e⟩
  · rw [jmin_lt hj]
  · rw [e] at c; exact absurd c (by decide)
theorem jn_no {tr : N2I} {j k : Nat} {U : N2I} (h : TrV tr j U) (hk : k < 6) (c : ¬ 0 ≤ tr k) : nI (jmin k j) + 0 = nI (jmin (k + 1) j) := by
  rcases tr_at h hk with ⟨hj, t, ht, -, e⟩ | ⟨hj, e⟩
  · rw [e] at c; exact absurd (le_nI (by omega)) c
  · rw [Int32.add_zero, jmin_ge hj]
theorem js_yes {tr : N2I} {j k : Nat} {U : N2I} (h : TrV tr j U) (hk : k < 6) (c : 0 ≤ tr k) : mSum U (jmin k j) + tr k = mSum U (jmin (k + 1) j) := by
  rcases tr_at h hk with ⟨hj, t, ht, e2, e⟩ | ⟨hj, e⟩
  · rw [jmin_lt hj, e, ← e2]
    show _ = mSum U (jmin k j) + U (jmin k j)
    rw [show jmin k j = k from by rw [jmin_eq, if_pos (by omega)]]
  · rw [e] at c; exact absurd c (by decide)
theorem js_no {tr : N2I} {j k : Nat} {U : N2I} (h : TrV tr j U) (hk : k < 6) (c : ¬ 0 ≤ tr k) : mSum U (jmin k j) + 0 = mSum U (jmin (k + 1) j) := by
  rcases tr_at h hk with ⟨hj, t, ht, -, e⟩ | ⟨hj, e⟩
  · rw [e] at c; exact absurd (le_nI (by omega)) c
  · rw [Int32.add_zero, jmin_ge hj]
/-- trust is held at 0 to 100 -/
theorem clampK (x : Int32) : kmax 0 (kmin 100 x) = if 0 ≤ x then (if x ≤ 100 then x else 100) else 0 := by
  unfold kmax kmin
  have t0 : (0 : Int32).toInt = 0 := rfl
  have t1 : (100 : Int32).toInt = 100 := rfl
  by_cases h1 : 0 ≤ x
  · rw [if_pos h1]
    by_cases h2 : x ≤ 100
    · rw [if_pos h2]
      by_cases h3 : x < 100
      · rw [if_pos h3]
        by_cases h4 : 0 < x
        · rw [if_pos h4]
        · rw [if_neg h4]
          apply Int32.toInt_inj.mp
          rw [Int32.le_iff_toInt_le] at h1
          rw [Int32.lt_iff_toInt_lt] at h4; omega
      · rw [if_neg h3, if_pos (by decide)]
        apply Int32.toInt_inj.mp
        rw [Int32.le_iff_toInt_le] at h2
        rw [Int32.lt_iff_toInt_lt] at h3; omega
    · have h3 : ¬ x < 100 := by
        intro h3
        apply h2
        rw [Int32.lt_iff_toInt_lt] at h3
        rw [Int32.le_iff_toInt_le]; omega
      rw [if_neg h2, if_neg h3, if_pos (by decide)]
  · have h3 : x < 100 := by
      rw [Int32.le_iff_toInt_le] at h1
      rw [Int32.lt_iff_toInt_lt]; omega
    have h4 : ¬ 0 < x := by
      intro h4
      apply h1
      rw [Int32.lt_iff_toInt_lt] at h4
      rw [Int32.le_iff_toInt_le]; omega
    rw [if_neg h1, if_pos h3, if_neg h4]
/-- who dares a throw: has joined, and trusts enough -/
theorem can_tr {L T tr : N2I} {j p : Nat} {U : N2I} {st : Int32} (h : TrV tr j U) (hL : okL L T) (hst : vp_in st 4) (hp : p < 6) : mCan T st (nI j) U (nI p) = if tr p < 20 + T st.toNatClampNeg then 0 else 1 := by
  have hj6 := h.1
  obtain ⟨g, hg, rfl⟩ := vp_in_of hst (by omega)
  obtain ⟨x, hx, ex⟩ := vp_in_of (hL g hg).2 (by omega)
  unfold mCan mJd
  rw [nI_clamp (n := g) (by omega), nI_clamp (n := p) (by omega), ex, show (20 : Int32) + nI x = nI (20 + x) from nI_add 20 x]
  rcases tr_at h hp with ⟨hj, t, ht, e2, e⟩ | ⟨hj, e⟩
  · rw [if_neg (nI_ge hj (by omega)), if_neg one_ne, e2, e]
  · rw [if_pos (nI_le hj (by omega)), if_pos rfl, e, if_pos]
    rw [Int32.lt_iff_toInt_lt, nI_toInt (by omega), show (-1 : Int32).toInt = -1 from rfl]; omega
theorem tak_tr (L : N2I) (st : Int32) {th : Int32} (h : vp_in th 21) : mTak L st th = if th ≤ 9 then (if th ≤ 3 then (if th ≤ 0 then 0 else 12 + L st.toNatClampNeg) else 5 + L st.toNatClampNeg / 2) else 1 := by
  obtain ⟨t, ht, rfl⟩ := vp_in_of h (by omega)
  unfold mTak
  by_cases h0 : t = 0
  · subst h0
    rw [if_pos (show nI 0 = 0 from rfl), if_pos (show nI 0 ≤ 9 by decide), if_pos (show nI 0 ≤ 3 by decide), if_pos (show nI 0 ≤ 0 by decide)]
  · have c0 : ¬ nI t = 0 := nI_ne0 (by omega) (by omega)
    have d0 : ¬ nI t ≤ 0 := nI_nle (by omega) (by omega)
    by_cases h3 : 3 < t
    · have c3 : 3 < nI t := nI_lt (a := 3) h3 (by omega)
      have d3 : ¬ nI t ≤ 3 := nI_ge (a := 3) h3 (by omega)
      by_cases h9 : 9 < t
      · have c9 : 9 < nI t := nI_lt (a := 9) h9 (by omega)
        have d9 : ¬ nI t ≤ 9 := nI_ge (a := 9) h9 (by omega)
        rw [if_neg c0, if_pos c3, if_pos c9, if_neg d9]
      · have c9 : ¬ 9 < nI t := nI_nlt (a := 9) (by omega) (by omega)
        have d9 : nI t ≤ 9 := nI_le (b := 9) (by omega) (by omega)
        rw [if_neg c0, if_pos c3, if_neg c9, if_pos d9, if_neg d3]
    · have c3 : ¬ 3 < nI t := nI_nlt (a := 3) (by omega) (by omega)
      have d3 : nI t ≤ 3 := nI_le (b := 3) (by omega) (by omega)
      have d9 : nI t ≤ 9 := nI_le (b := 9) (by omega) (by omega)
      rw [if_neg c0, if_neg c3, if_pos d9, if_pos d3, if_neg d0]
set_option maxHeartbeats 4000000 in
set_option maxRecDepth 100000 in
theorem c_L_below (l : Launch) (dC : Nat → ClassId) (dI : Nat → Nat → Nat) (sz : Nat) (v : Int32) (nn : Nat) (h0 : 0 < nn) (h1 : nn < 2 ^ 31) : Met l yL_below wsL_below ({ frames := 0, cells := 0, slots := 0, locals := 0 } : Room) (va_Pc [.int v, .int (nI nn)] (pc_ (dC, dI) [] [] sz)) (va_Qi (fun (r : Int32) (u : Unit) => r = nI (bel v nn)) (fun (u : Unit) (t : State) => va_P (dC, dI) vwCl [] t.heap ∧ va_D (va_A [] sz) []) (va_A [] sz)) 0 0 (va_A [] sz) := by
  refine Met.ofW (cc := cL_below) (maxL := 2) (ret := (some .int)) (by decide) rfl ?_
  intro p e s m args below meth c s₁ BB hml hv
  obtain ⟨rfl, hsz, hP, hK, hD0⟩ := hv
  have hx := BB.exec
  have hb := BB.bytes
  have hr := BB.returns
  have hts := atoms_spec (ws := wsL_below) BB.pre
  have hown : s.vm.findClass RL = some m.cls := findClass_of_methodNamed BB.named
  have hlocks := BB.notSynchronized
  subst hsz
  have hD := hD0.self (sz := s.heap.size)
  generalize hAe : va_A [] s.heap.size = A at hD ⊢
  have hA : ∀ q : Nat, s.heap.size ≤ q → A q := fun q h => by rw [← hAe]; exact Or.inr h
  have hS : va_S A s.heap s.heap [] := va_S.rf
  have hP : va_P (dC, dI) vwCl [] s.heap := hP
  have hl := lv_entry ([.int v, .int (nI nn)]) (n := 2) (Nat.le_of_ble_eq_true rfl)
  rw [lg_entry_eq]
  generalize (lg_sl ([.int v, .int (nI nn)]) ++ List.replicate (2 - (lg_sl ([.int v, .int (nI nn)])).length) Slot.unset).toArray = ls at hl ⊢
  have hl : lv_has ls 2 [(0, .int v), (1, .int (nI nn))] := hl
  have k0 := hts (.constant RL 7 (2147483647)) (by decide +kernel)
  refine lv_iload_n hx hb dL_below_0 rfl (lv_at hl 0 rfl) ?_
  refine lv_ldc (v := 2147483647) hx hb hown k0 dL_below_1 ?_
  refine lv_iand hx hb dL_below_3 ?_
  refine lv_iload_n hx hb dL_below_4 rfl (lv_at hl 1 rfl) ?_
  refine lv_irem hx hb dL_below_5 (nI_ne0 h0 h1) ?_
  have hpost : ((v &&& 2147483647) - (v &&& 2147483647) / (nI nn) * (nI nn)) = nI (bel v nn) := by
    exact bel_eq h0 h1
  have hP9 := hP.sub (ws' := []) [] rfl
  have hD9 := hD.sub (ws' := []) [] (by decide) rfl
  exact W.iret (v := (v &&& 2147483647) - (v &&& 2147483647) / (nI nn) * (nI nn)) hx hb hr (fun t ht hW => ⟨⟨((v &&& 2147483647) - (v &&& 2147483647) / (nI nn) * (nI nn)), (), rfl, hpost, by rw [ht]; exact hP9, hD9⟩, hS.F ht⟩) hS.2.2 dL_below_6

set_option maxHeartbeats 4000000 in
set_option maxRecDepth 100000 in
theorem c_L_cell (l : Launch) (dC : Nat → ClassId) (dI : Nat → Nat → Nat) (sz : Nat) (b LL : Nat) (xs : Nat → Int32) (k9 : Nat) (hk9 : k9 < 2 ^ 30) (hLL : LL < 2 ^ 30) : Met l yL_cell wsL_cell ({ frames := 0, cells := 0, slots := 0, locals := 0 } : Room) (va_Pc [.ref b, .int (nI k9)] (ps_ b LL xs (dC, dI) [] [] sz)) (va_Qi (fun (r : Int32) (u : Unit) => True) (fun (u : Unit) (t : State) => va_P (dC, dI) vwCl [] t.heap ∧ va_D (va_A [] sz) []) (va_A [] sz)) 0 0 (va_A [] sz) := by
  refine Met.ofW (cc := cL_cell) (maxL := 2) (ret := (some .int)) (by decide) rfl ?_
  intro p e s m args below meth c s₁ BB hml hv
  obtain ⟨rfl, hsz, hP, hK, hD0, hN, hov, hXs, hbl, hbA⟩ := hv
  have hx := BB.exec
  have hb := BB.bytes
  have hr := BB.returns
  have hts := atoms_spec (ws := wsL_cell) BB.pre
  have hown : s.vm.findClass RL = some m.cls := findClass_of_methodNamed BB.named
  have hlocks := BB.notSynchronized
  subst hsz
  have hD := hD0.self (sz := s.heap.size)
  generalize hAe : va_A [] s.heap.size = A at hD hbA ⊢
  have hA : ∀ q : Nat, s.heap.size ≤ q → A q := fun q h => by rw [← hAe]; exact Or.inr h
  have hS : va_S A s.heap s.heap [] := va_S.rf
  have hP : va_P (dC, dI) vwCl [] s.heap := hP
  have hl := lv_entry ([.ref b, .int (nI k9)]) (n := 2) (Nat.le_of_ble_eq_true rfl)
  rw [lg_entry_eq]
  generalize (lg_sl ([.ref b, .int (nI k9)]) ++ List.replicate (2 - (lg_sl ([.ref b, .int (nI k9)])).length) Slot.unset).toArray = ls at hl ⊢
  have hl : lv_has ls 2 [(0, .ref b), (1, .int (nI k9))] := hl
  have k0 := hts (.constant RL 8 (790386105)) (by decide +kernel)
  refine lv_iload_n hx hb dL_cell_0 rfl (lv_at hl 1 rfl) ?_
  refine lv_aload_n hx hb dL_cell_1 rfl (lv_at hl 0 rfl) ?_
  refine va_slen hx hb hXs hbl hbA hS dL_cell_2 ?_
  refine lv_icmp_ge (tgt := 12) hx hb dL_cell_3 (by decide) (fun c_3 => ?_) (fun c_3 => ?_)
  · -- 3
    refine lv_ldc (v := 790386105) hx hb hown k0 dL_cell_12 ?_
    refine lv_iload_n hx hb dL_cell_14 rfl (lv_at hl 1 rfl) ?_
    refine lv_iconst (v := 3) hx hb dL_cell_15 (by decide) ?_
    refine lv_iadd hx hb dL_cell_16 ?_
    rw [show nI k9 + 3 = nI (k9 + 3) from nI_add k9 3]
    refine lv_imul hx hb dL_cell_17 ?_
    have hpost : True := by
      trivial
    have hP9 := hP.sub (ws' := []) [] rfl
    have hD9 := hD.sub (ws' := []) [] (by decide) rfl
    exact W.iret (v := 790386105 * (nI (k9 + 3))) hx hb hr (fun t ht hW => ⟨⟨(790386105 * (nI (k9 + 3))), (), rfl, hpost, by rw [ht]; exact hP9, hD9⟩, hS.F ht⟩) hS.2.2 dL_cell_18
  · -- 3
    have hlt : k9 < LL := by
      have c3 : ¬ nI LL ≤ nI k9 := c_3
      rw [nI_leI (by omega) (by omega)] at c3; omega
    refine lv_aload_n hx hb dL_cell_6 rfl (lv_at hl 0 rfl) ?_
    refine lv_iload_n hx hb dL_cell_7 rfl (lv_at hl 1 rfl) ?_
    refine va_sld hx hb hXs hbl hbA hS (vp_in_nI (by omega) (by omega)) dL_cell_8 ?_
    rw [nI_clamp (n := k9) (by omega)]
    refine lv_goto (tgt := 18) hx hb dL_cell_9 (by decide) ?_
    have hpost : True := by
      trivial
    have hP9 := hP.sub (ws' := []) [] rfl
    have hD9 := hD.sub (ws' := []) [] (by decide) rfl
    exact W.iret (v := xs k9) hx hb hr (fun t ht hW => ⟨⟨(xs k9), (), rfl, hpost, by rw [ht]; exact hP9, hD9⟩, hS.F ht⟩) hS.2.2 dL_cell_18

set_option maxHeartbeats 4000000 in
set_option maxRecDepth 100000 in
theorem c_X2_joined (l : Launch) (dC : Nat → ClassId) (dI : Nat → Nat → Nat) (cI : ClassId) (sm aSU : Nat) (sz : Nat) (aSL : Nat) (aST : Nat) (aR : Nat) (xc : Int32) (xp : Int32) (xs : Int32) (xn : Int32) (xi : Int32) (xl : Int32) (tr : N2I) (j : Nat) (U : N2I) (hT : TrV tr j U) : Met l yX2_joined wsX2_joined ({ frames := 0, cells := 0, slots := 0, locals := 0 } : Room) (va_Pc [.ref sm] (pc_ (dC, dI) [(cI, .int)] [(sm, .inr (2, [.ref aSL, .ref aST, .ref aR, .int xc, .int xp, .int xs, .ref aSU, .int xn, .int xi, .int xl])), (aSU, .inl (cI, 6, .inl tr))] sz)) (va_Qi (fun (r : Int32) (u : Unit) => r = nI j) (fun (u : Unit) (t : State) => va_P (dC, dI) vwCl [(sm, .inr (2, [.ref aSL, .ref aST, .ref aR, .int xc, .int xp, .int xs, .ref aSU, .int xn, .int xi, .int xl])), (aSU, .inl (cI, 6, .inl tr))] t.heap ∧ va_D (va_A [(sm, .inr (2, [.ref aSL, .ref aST, .ref aR, .int xc, .int xp, .int xs, .ref aSU, .int xn, .int xi, .int xl])), (aSU, .inl (cI, 6, .inl tr))] sz) [(sm, .inr (2, [.ref aSL, .ref aST, .ref aR, .int xc, .int xp, .int xs, .ref aSU, .int xn, .int xi, .int xl])), (aSU, .inl (cI, 6, .inl tr))]) (va_A [(sm, .inr (2, [.ref aSL, .ref aST, .ref aR, .int xc, .int xp, .int xs, .ref aSU, .int xn, .int xi, .int xl])), (aSU, .inl (cI, 6, .inl tr))] sz)) 0 0 (va_A [(sm, .inr (2, [.ref aSL, .ref aST, .ref aR, .int xc, .int xp, .int xs, .ref aSU, .int xn, .int xi, .int xl])), (aSU, .inl (cI, 6, .inl tr))] sz) := by
  refine Met.ofW (cc := cX2_joined) (maxL := 6) (ret := (some .int)) (by decide) rfl ?_
  intro p e s m args below meth c s₁ BB hml hv
  obtain ⟨rfl, hsz, hP, hK, hD0⟩ := hv
  have hx := BB.exec
  have hb := BB.bytes
  have hr := BB.returns
  have hts := atoms_spec (ws := wsX2_joined) BB.pre
  have hown : s.vm.findClass RX2 = some m.cls := findClass_of_methodNamed BB.named
  have hlocks := BB.notSynchronized
  subst hsz
  have hD := hD0.self (sz := s.heap.size)
  generalize hAe : va_A [(sm, .inr (2, [.ref aSL, .ref aST, .ref aR, .int xc, .int xp, .int xs, .ref aSU, .int xn, .int xi, .int xl])), (aSU, .inl (cI, 6, .inl tr))] s.heap.size = A at hD ⊢
  have hA : ∀ q : Nat, s.heap.size ≤ q → A q := fun q h => by rw [← hAe]; exact Or.inr h
  have hS : va_S A s.heap s.heap [] := va_S.rf
  have hP : va_P (dC, dI) vwCl [(sm, .inr (2, [.ref aSL, .ref aST, .ref aR, .int xc, .int xp, .int xs, .ref aSU, .int xn, .int xi, .int xl])), (aSU, .inl (cI, 6, .inl tr))] s.heap := hP
  have hl := lv_entry ([.ref sm]) (n := 6) (Nat.le_of_ble_eq_true rfl)
  rw [lg_entry_eq]
  generalize (lg_sl ([.ref sm]) ++ List.replicate (6 - (lg_sl ([.ref sm])).length) Slot.unset).toArray = ls at hl ⊢
  have hl : lv_has ls 6 [(0, .ref sm)] := hl
  have k0 := hts (.fieldLink RX2 21 "KnifeLedgerLaw$Sim" "trust" "[I") (by decide +kernel)
  have hinX2 : ∀ w ∈ wsX20, w ∈ wsX2_joined := by decide +kernel
  refine lv_iconst (v := 0) hx hb dX2_joined_0 (by decide) ?_
  refine lv_istore_n (lv' := [(1, .int 0), (0, .ref sm)]) hx hb dX2_joined_1 rfl hl (by decide) rfl (fun ls hl => ?_)
  refine lv_aload_n hx hb dX2_joined_2 rfl (lv_at hl 1 rfl) ?_
  refine va_get (D := (dC, dI)) (ci := 2) (v := .ref aSU) (C := RX2) (T := TX2) (N := 10) hx hb hts hinX2 hown hK hP 0 rfl rfl 6 (by decide) k0 (fun _ h9 => h9) rfl dX2_joined_3 ?_
  refine lv_astore_n (lv' := [(2, .ref aSU), (1, .int 0), (0, .ref sm)]) hx hb dX2_joined_6 rfl hl (by decide) rfl (fun ls hl => ?_)
  refine lv_aload_n hx hb dX2_joined_7 rfl (lv_at hl 0 rfl) ?_
  refine va_alen (v := 6) hx hb hK hP 1 0 rfl rfl rfl dX2_joined_8 ?_
  refine lv_istore_n (lv' := [(3, .int 6), (2, .ref aSU), (1, .int 0), (0, .ref sm)]) hx hb dX2_joined_9 rfl hl (by decide) rfl (fun ls hl => ?_)
  refine lv_iconst (v := 0) hx hb dX2_joined_10 (by decide) ?_
  refine lv_istore (lv' := [(4, .int 0), (3, .int 6), (2, .ref aSU), (1, .int 0), (0, .ref sm)]) hx hb dX2_joined_11 hl (by decide) rfl (fun ls hl => ?_)
  refine (fun (KK : ∀ (nn9 : Nat) (k : Nat) (H : Heap) (locs : List Loc) (ls : Array Slot) (hk : k ≤ 6), 6 - k < nn9 → va_P (dC, dI) vwCl [(sm, .inr (2, [.ref aSL, .ref aST, .ref aR, .int xc, .int xp, .int xs, .ref aSU, .int xn, .int xi, .int xl])), (aSU, .inl (cI, 6, .inl tr))] H → va_D A [(sm, .inr (2, [.ref aSL, .ref aST, .ref aR, .int xc, .int xp, .int xs, .ref aSU, .int xn, .int xi, .int xl])), (aSU, .inl (cI, 6, .inl tr))] → va_S A s.heap H locs → lv_has ls 6 [(1, .int (nI (jmin k j))), (4, .int (nI k)), (3, .int 6), (2, .ref aSU), (0, .ref sm)] → W p l e _ s m _ below meth c H locs 0 0 _ (F0 m 13 ls [])) => KK (6 - 0 + 1) 0 _ _ _ (Nat.zero_le _) (by omega) hP hD hS (lv_sub hl [3, 0, 1, 2, 4] rfl)) ?_
  intro nn_13
  induction nn_13 with
  | zero => intro k H locs ls hk hn9; exact absurd hn9 (Nat.not_lt_zero _)
  | succ nn_13 ih_13 =>
    intro k H_1 locs ls hk hn_13 hP hD hS hl
    refine lv_iload hx hb dX2_joined_13 (lv_at hl 1 rfl) ?_
    refine lv_iload_n hx hb dX2_joined_15 rfl (lv_at hl 2 rfl) ?_
    refine lv_icmp_ge (tgt := 44) hx hb dX2_joined_16 (by decide) (fun c_16 => ?_) (fun c_16 => ?_)
    · -- 16
      have hge : 6 ≤ k := by rw [show (6 : Int32) = nI 6 from rfl, nI_leI (by omega) (by omega)] at c_16; omega
      refine lv_iload_n hx hb dX2_joined_44 rfl (lv_at hl 0 rfl) ?_
      have hpost : (nI (jmin k j)) = nI j := by
        rw [show jmin k j = j from jmin_end hT hge]
      have hP9 := hP.sub (ws' := [(sm, .inr (2, [.ref aSL, .ref aST, .ref aR, .int xc, .int xp, .int xs, .ref aSU, .int xn, .int xi, .int xl])), (aSU, .inl (cI, 6, .inl tr))]) [0, 1] rfl
      have hD9 := hD.sub (ws' := [(sm, .inr (2, [.ref aSL, .ref aST, .ref aR, .int xc, .int xp, .int xs, .ref aSU, .int xn, .int xi, .int xl])), (aSU, .inl (cI, 6, .inl tr))]) [0, 1] (by decide) rfl
      exact W.iret (v := nI (jmin k j)) hx hb hr (fun t ht hW => ⟨⟨(nI (jmin k j)), (), rfl, hpost, by rw [ht]; exact hP9, hD9⟩, hS.F ht⟩) hS.2.2 dX2_joined_45
    · -- 16
      have hlt : k < 6 := by rw [show (6 : Int32) = nI 6 from rfl, nI_leI (by omega) (by omega)] at c_16; omega
      refine lv_aload_n hx hb dX2_joined_19 rfl (lv_at hl 3 rfl) ?_
      refine lv_iload hx hb dX2_joined_20 (lv_at hl 1 rfl) ?_
      refine va_iald hx hb hK hP 1 0 rfl rfl (vp_in_nI (by omega) (by omega)) dX2_joined_22 ?_
      rw [nI_clamp (n := k) (by omega)]
      refine lv_istore (lv' := [(5, .int (tr k)), (1, .int (nI (jmin k j))), (4, .int (nI k)), (3, .int 6), (2, .ref aSU), (0, .ref sm)]) hx hb dX2_joined_23 hl (by decide) rfl (fun ls hl => ?_)
      refine lv_iload_n hx hb dX2_joined_25 rfl (lv_at hl 1 rfl) ?_
      refine lv_iload hx hb dX2_joined_26 (lv_at hl 0 rfl) ?_
      refine lv_if_ge (tgt := 35) hx hb dX2_joined_28 (by decide) (fun c_28 => ?_) (fun c_28 => ?_)
      · -- 28
        refine lv_iconst (v := 1) hx hb dX2_joined_35 (by decide) ?_
        refine lv_iadd hx hb dX2_joined_36 ?_
        rw [nI_1 (jmin k j)]
        refine lv_istore_n (lv' := [(1, .int (nI ((jmin k j) + 1))), (5, .int (tr k)), (4, .int (nI k)), (3, .int 6), (2, .ref aSU), (0, .ref sm)]) hx hb dX2_joined_37 rfl hl (by decide) rfl (fun ls hl => ?_)
        refine lv_iinc (v := nI (k + 1)) (lv' := [(4, .int (nI (k + 1))), (1, .int (nI ((jmin k j) + 1))), (5, .int (tr k)), (3, .int 6), (2, .ref aSU), (0, .ref sm)]) hx hb dX2_joined_38 hl (k := 2) rfl (nI_1 _) (by decide) rfl (fun ls hl => ?_)
        refine lv_goto (tgt := 13) hx hb dX2_joined_41 (by decide) ?_
        have e9 : nI ((jmin k j) + 1) = nI (jmin (k + 1) j) := jn_yes hT hlt c_28
        rw [e9] at hl
        exact ih_13 (k + 1) _ _ _ (by omega) (by omega) hP hD hS (lv_sub hl [1, 0, 3, 4, 5] rfl)
      · -- 28
        refine lv_iconst (v := 0) hx hb dX2_joined_31 (by decide) ?_
        refine lv_goto (tgt := 36) hx hb dX2_joined_32 (by decide) ?_
        refine lv_iadd hx hb dX2_joined_36 ?_
        refine lv_istore_n (lv' := [(1, .int ((nI (jmin k j)) + 0)), (5, .int (tr k)), (4, .int (nI k)), (3, .int 6), (2, .ref aSU), (0, .ref sm)]) hx hb dX2_joined_37 rfl hl (by decide) rfl (fun ls hl => ?_)
        refine lv_iinc (v := nI (k + 1)) (lv' := [(4, .int (nI (k + 1))), (1, .int ((nI (jmin k j)) + 0)), (5, .int (tr k)), (3, .int 6), (2, .ref aSU), (0, .ref sm)]) hx hb dX2_joined_38 hl (k := 2) rfl (nI_1 _) (by decide) rfl (fun ls hl => ?_)
        refine lv_goto (tgt := 13) hx hb dX2_joined_41 (by decide) ?_
        have e9 : (nI (jmin k j)) + 0 = nI (jmin (k + 1) j) := jn_no hT hlt c_28
        rw [e9] at hl
        exact ih_13 (k + 1) _ _ _ (by omega) (by omega) hP hD hS (lv_sub hl [1, 0, 3, 4, 5] rfl)

set_option maxHeartbeats 4000000 in
set_option maxRecDepth 100000 in
theorem c_X2_trustAll (l : Launch) (dC : Nat → ClassId) (dI : Nat → Nat → Nat) (cI : ClassId) (sm aSU : Nat) (sz : Nat) (aSL : Nat) (aST : Nat) (aR : Nat) (xc : Int32) (xp : Int32) (xs : Int32) (xn : Int32) (xi : Int32) (xl : Int32) (tr : N2I) (j : Nat) (U : N2I) (hT : TrV tr j U) : Met l yX2_trustAll wsX2_trustAll ({ frames := 0, cells := 0, slots := 0, locals := 0 } : Room) (va_Pc [.ref sm] (pc_ (dC, dI) [(cI, .int)] [(sm, .inr (2, [.ref aSL, .ref aST, .ref aR, .int xc, .int xp, .int xs, .ref aSU, .int xn, .int xi, .int xl])), (aSU, .inl (cI, 6, .inl tr))] sz)) (va_Qi (fun (r : Int32) (u : Unit) => r = mSum U j) (fun (u : Unit) (t : State) => va_P (dC, dI) vwCl [(sm, .inr (2, [.ref aSL, .ref aST, .ref aR, .int xc, .int xp, .int xs, .ref aSU, .int xn, .int xi, .int xl])), (aSU, .inl (cI, 6, .inl tr))] t.heap ∧ va_D (va_A [(sm, .inr (2, [.ref aSL, .ref aST, .ref aR, .int xc, .int xp, .int xs, .ref aSU, .int xn, .int xi, .int xl])), (aSU, .inl (cI, 6, .inl tr))] sz) [(sm, .inr (2, [.ref aSL, .ref aST, .ref aR, .int xc, .int xp, .int xs, .ref aSU, .int xn, .int xi, .int xl])), (aSU, .inl (cI, 6, .inl tr))]) (va_A [(sm, .inr (2, [.ref aSL, .ref aST, .ref aR, .int xc, .int xp, .int xs, .ref aSU, .int xn, .int xi, .int xl])), (aSU, .inl (cI, 6, .inl tr))] sz)) 0 0 (va_A [(sm, .inr (2, [.ref aSL, .ref aST, .ref aR, .int xc, .int xp, .int xs, .ref aSU, .int xn, .int xi, .int xl])), (aSU, .inl (cI, 6, .inl tr))] sz) := by
  refine Met.ofW (cc := cX2_trustAll) (maxL := 6) (ret := (some .int)) (by decide) rfl ?_
  intro p e s m args below meth c s₁ BB hml hv
  obtain ⟨rfl, hsz, hP, hK, hD0⟩ := hv
  have hx := BB.exec
  have hb := BB.bytes
  have hr := BB.returns
  have hts := atoms_spec (ws := wsX2_trustAll) BB.pre
  have hown : s.vm.findClass RX2 = some m.cls := findClass_of_methodNamed BB.named
  have hlocks := BB.notSynchronized
  subst hsz
  have hD := hD0.self (sz := s.heap.size)
  generalize hAe : va_A [(sm, .inr (2, [.ref aSL, .ref aST, .ref aR, .int xc, .int xp, .int xs, .ref aSU, .int xn, .int xi, .int xl])), (aSU, .inl (cI, 6, .inl tr))] s.heap.size = A at hD ⊢
  have hA : ∀ q : Nat, s.heap.size ≤ q → A q := fun q h => by rw [← hAe]; exact Or.inr h
  have hS : va_S A s.heap s.heap [] := va_S.rf
  have hP : va_P (dC, dI) vwCl [(sm, .inr (2, [.ref aSL, .ref aST, .ref aR, .int xc, .int xp, .int xs, .ref aSU, .int xn, .int xi, .int xl])), (aSU, .inl (cI, 6, .inl tr))] s.heap := hP
  have hl := lv_entry ([.ref sm]) (n := 6) (Nat.le_of_ble_eq_true rfl)
  rw [lg_entry_eq]
  generalize (lg_sl ([.ref sm]) ++ List.replicate (6 - (lg_sl ([.ref sm])).length) Slot.unset).toArray = ls at hl ⊢
  have hl : lv_has ls 6 [(0, .ref sm)] := hl
  have k0 := hts (.fieldLink RX2 21 "KnifeLedgerLaw$Sim" "trust" "[I") (by decide +kernel)
  have hinX2 : ∀ w ∈ wsX20, w ∈ wsX2_trustAll := by decide +kernel
  refine lv_iconst (v := 0) hx hb dX2_trustAll_0 (by decide) ?_
  refine lv_istore_n (lv' := [(1, .int 0), (0, .ref sm)]) hx hb dX2_trustAll_1 rfl hl (by decide) rfl (fun ls hl => ?_)
  refine lv_aload_n hx hb dX2_trustAll_2 rfl (lv_at hl 1 rfl) ?_
  refine va_get (D := (dC, dI)) (ci := 2) (v := .ref aSU) (C := RX2) (T := TX2) (N := 10) hx hb hts hinX2 hown hK hP 0 rfl rfl 6 (by decide) k0 (fun _ h9 => h9) rfl dX2_trustAll_3 ?_
  refine lv_astore_n (lv' := [(2, .ref aSU), (1, .int 0), (0, .ref sm)]) hx hb dX2_trustAll_6 rfl hl (by decide) rfl (fun ls hl => ?_)
  refine lv_aload_n hx hb dX2_trustAll_7 rfl (lv_at hl 0 rfl) ?_
  refine va_alen (v := 6) hx hb hK hP 1 0 rfl rfl rfl dX2_trustAll_8 ?_
  refine lv_istore_n (lv' := [(3, .int 6), (2, .ref aSU), (1, .int 0), (0, .ref sm)]) hx hb dX2_trustAll_9 rfl hl (by decide) rfl (fun ls hl => ?_)
  refine lv_iconst (v := 0) hx hb dX2_trustAll_10 (by decide) ?_
  refine lv_istore (lv' := [(4, .int 0), (3, .int 6), (2, .ref aSU), (1, .int 0), (0, .ref sm)]) hx hb dX2_trustAll_11 hl (by decide) rfl (fun ls hl => ?_)
  refine (fun (KK : ∀ (nn9 : Nat) (k : Nat) (H : Heap) (locs : List Loc) (ls : Array Slot) (hk : k ≤ 6), 6 - k < nn9 → va_P (dC, dI) vwCl [(sm, .inr (2, [.ref aSL, .ref aST, .ref aR, .int xc, .int xp, .int xs, .ref aSU, .int xn, .int xi, .int xl])), (aSU, .inl (cI, 6, .inl tr))] H → va_D A [(sm, .inr (2, [.ref aSL, .ref aST, .ref aR, .int xc, .int xp, .int xs, .ref aSU, .int xn, .int xi, .int xl])), (aSU, .inl (cI, 6, .inl tr))] → va_S A s.heap H locs → lv_has ls 6 [(1, .int (mSum U (jmin k j))), (4, .int (nI k)), (3, .int 6), (2, .ref aSU), (0, .ref sm)] → W p l e _ s m _ below meth c H locs 0 0 _ (F0 m 13 ls [])) => KK (6 - 0 + 1) 0 _ _ _ (Nat.zero_le _) (by omega) hP hD hS (lv_sub hl [3, 0, 1, 2, 4] rfl)) ?_
  intro nn_13
  induction nn_13 with
  | zero => intro k H locs ls hk hn9; exact absurd hn9 (Nat.not_lt_zero _)
  | succ nn_13 ih_13 =>
    intro k H_1 locs ls hk hn_13 hP hD hS hl
    refine lv_iload hx hb dX2_trustAll_13 (lv_at hl 1 rfl) ?_
    refine lv_iload_n hx hb dX2_trustAll_15 rfl (lv_at hl 2 rfl) ?_
    refine lv_icmp_ge (tgt := 45) hx hb dX2_trustAll_16 (by decide) (fun c_16 => ?_) (fun c_16 => ?_)
    · -- 16
      have hge : 6 ≤ k := by rw [show (6 : Int32) = nI 6 from rfl, nI_leI (by omega) (by omega)] at c_16; omega
      refine lv_iload_n hx hb dX2_trustAll_45 rfl (lv_at hl 0 rfl) ?_
      have hpost : (mSum U (jmin k j)) = mSum U j := by
        rw [show jmin k j = j from jmin_end hT hge]
      have hP9 := hP.sub (ws' := [(sm, .inr (2, [.ref aSL, .ref aST, .ref aR, .int xc, .int xp, .int xs, .ref aSU, .int xn, .int xi, .int xl])), (aSU, .inl (cI, 6, .inl tr))]) [0, 1] rfl
      have hD9 := hD.sub (ws' := [(sm, .inr (2, [.ref aSL, .ref aST, .ref aR, .int xc, .int xp, .int xs, .ref aSU, .int xn, .int xi, .int xl])), (aSU, .inl (cI, 6, .inl tr))]) [0, 1] (by decide) rfl
      exact W.iret (v := mSum U (jmin k j)) hx hb hr (fun t ht hW => ⟨⟨(mSum U (jmin k j)), (), rfl, hpost, by rw [ht]; exact hP9, hD9⟩, hS.F ht⟩) hS.2.2 dX2_trustAll_46
    · -- 16
      have hlt : k < 6 := by rw [show (6 : Int32) = nI 6 from rfl, nI_leI (by omega) (by omega)] at c_16; omega
      refine lv_aload_n hx hb dX2_trustAll_19 rfl (lv_at hl 3 rfl) ?_
      refine lv_iload hx hb dX2_trustAll_20 (lv_at hl 1 rfl) ?_
      refine va_iald hx hb hK hP 1 0 rfl rfl (vp_in_nI (by omega) (by omega)) dX2_trustAll_22 ?_
      rw [nI_clamp (n := k) (by omega)]
      refine lv_istore (lv' := [(5, .int (tr k)), (1, .int (mSum U (jmin k j))), (4, .int (nI k)), (3, .int 6), (2, .ref aSU), (0, .ref sm)]) hx hb dX2_trustAll_23 hl (by decide) rfl (fun ls hl => ?_)
      refine lv_iload_n hx hb dX2_trustAll_25 rfl (lv_at hl 1 rfl) ?_
      refine lv_iload hx hb dX2_trustAll_26 (lv_at hl 0 rfl) ?_
      refine lv_if_ge (tgt := 35) hx hb dX2_trustAll_28 (by decide) (fun c_28 => ?_) (fun c_28 => ?_)
      · -- 28
        refine lv_iload hx hb dX2_trustAll_35 (lv_at hl 0 rfl) ?_
        refine lv_iadd hx hb dX2_trustAll_37 ?_
        refine lv_istore_n (lv' := [(1, .int ((mSum U (jmin k j)) + (tr k))), (5, .int (tr k)), (4, .int (nI k)), (3, .int 6), (2, .ref aSU), (0, .ref sm)]) hx hb dX2_trustAll_38 rfl hl (by decide) rfl (fun ls hl => ?_)
        refine lv_iinc (v := nI (k + 1)) (lv' := [(4, .int (nI (k + 1))), (1, .int ((mSum U (jmin k j)) + (tr k))), (5, .int (tr k)), (3, .int 6), (2, .ref aSU), (0, .ref sm)]) hx hb dX2_trustAll_39 hl (k := 2) rfl (nI_1 _) (by decide) rfl (fun ls hl => ?_)
        refine lv_goto (tgt := 13) hx hb dX2_trustAll_42 (by decide) ?_
        have e9 : (mSum U (jmin k j)) + (tr k) = mSum U (jmin (k + 1) j) := js_yes hT hlt c_28
        rw [e9] at hl
        exact ih_13 (k + 1) _ _ _ (by omega) (by omega) hP hD hS (lv_sub hl [1, 0, 3, 4, 5] rfl)
      · -- 28
        refine lv_iconst (v := 0) hx hb dX2_trustAll_31 (by decide) ?_
        refine lv_goto (tgt := 37) hx hb dX2_trustAll_32 (by decide) ?_
        refine lv_iadd hx hb dX2_trustAll_37 ?_
        refine lv_istore_n (lv' := [(1, .int ((mSum U (jmin k j)) + 0)), (5, .int (tr k)), (4, .int (nI k)), (3, .int 6), (2, .ref aSU), (0, .ref sm)]) hx hb dX2_trustAll_38 rfl hl (by decide) rfl (fun ls hl => ?_)
        refine lv_iinc (v := nI (k + 1)) (lv' := [(4, .int (nI (k + 1))), (1, .int ((mSum U (jmin k j)) + 0)), (5, .int (tr k)), (3, .int 6), (2, .ref aSU), (0, .ref sm)]) hx hb dX2_trustAll_39 hl (k := 2) rfl (nI_1 _) (by decide) rfl (fun ls hl => ?_)
        refine lv_goto (tgt := 13) hx hb dX2_trustAll_42 (by decide) ?_
        have e9 : (mSum U (jmin k j)) + 0 = mSum U (jmin (k + 1) j) := js_no hT hlt c_28
        rw [e9] at hl
        exact ih_13 (k + 1) _ _ _ (by omega) (by omega) hP hD hS (lv_sub hl [1, 0, 3, 4, 5] rfl)

set_option maxHeartbeats 4000000 in
set_option maxRecDepth 100000 in
theorem c_X2_brings (l : Launch) (dC : Nat → ClassId) (dI : Nat → Nat → Nat) (cI : ClassId) (sm aSL : Nat) (sz : Nat) (aST : Nat) (aR : Nat) (xc : Int32) (xp : Int32) (xs : Int32) (tv : Value) (xn : Int32) (xi : Int32) (xl : Int32) (L : N2I) (th : Int32) (hst : vp_in xs 4) (hth : vp_in th 21) : Met l yX2_brings wsX2_brings ({ frames := 0, cells := 0, slots := 0, locals := 0 } : Room) (va_Pc [.ref sm, .int th] (pc_ (dC, dI) [(cI, .int)] [(sm, .inr (2, [.ref aSL, .ref aST, .ref aR, .int xc, .int xp, .int xs, tv, .int xn, .int xi, .int xl])), (aSL, .inl (cI, 4, .inl L))] sz)) (va_Qi (fun (r : Int32) (u : Unit) => r = mTak L xs th) (fun (u : Unit) (t : State) => va_P (dC, dI) vwCl [(sm, .inr (2, [.ref aSL, .ref aST, .ref aR, .int xc, .int xp, .int xs, tv, .int xn, .int xi, .int xl])), (aSL, .inl (cI, 4, .inl L))] t.heap ∧ va_D (va_A [(sm, .inr (2, [.ref aSL, .ref aST, .ref aR, .int xc, .int xp, .int xs, tv, .int xn, .int xi, .int xl])), (aSL, .inl (cI, 4, .inl L))] sz) [(sm, .inr (2, [.ref aSL, .ref aST, .ref aR, .int xc, .int xp, .int xs, tv, .int xn, .int xi, .int xl])), (aSL, .inl (cI, 4, .inl L))]) (va_A [(sm, .inr (2, [.ref aSL, .ref aST, .ref aR, .int xc, .int xp, .int xs, tv, .int xn, .int xi, .int xl])), (aSL, .inl (cI, 4, .inl L))] sz)) 0 0 (va_A [(sm, .inr (2, [.ref aSL, .ref aST, .ref aR, .int xc, .int xp, .int xs, tv, .int xn, .int xi, .int xl])), (aSL, .inl (cI, 4, .inl L))] sz) := by
  refine Met.ofW (cc := cX2_brings) (maxL := 2) (ret := (some .int)) (by decide) rfl ?_
  intro p e s m args below meth c s₁ BB hml hv
  obtain ⟨rfl, hsz, hP, hK, hD0⟩ := hv
  have hx := BB.exec
  have hb := BB.bytes
  have hr := BB.returns
  have hts := atoms_spec (ws := wsX2_brings) BB.pre
  have hown : s.vm.findClass RX2 = some m.cls := findClass_of_methodNamed BB.named
  have hlocks := BB.notSynchronized
  subst hsz
  have hD := hD0.self (sz := s.heap.size)
  generalize hAe : va_A [(sm, .inr (2, [.ref aSL, .ref aST, .ref aR, .int xc, .int xp, .int xs, tv, .int xn, .int xi, .int xl])), (aSL, .inl (cI, 4, .inl L))] s.heap.size = A at hD ⊢
  have hA : ∀ q : Nat, s.heap.size ≤ q → A q := fun q h => by rw [← hAe]; exact Or.inr h
  have hS : va_S A s.heap s.heap [] := va_S.rf
  have hP : va_P (dC, dI) vwCl [(sm, .inr (2, [.ref aSL, .ref aST, .ref aR, .int xc, .int xp, .int xs, tv, .int xn, .int xi, .int xl])), (aSL, .inl (cI, 4, .inl L))] s.heap := hP
  have hl := lv_entry ([.ref sm, .int th]) (n := 2) (Nat.le_of_ble_eq_true rfl)
  rw [lg_entry_eq]
  generalize (lg_sl ([.ref sm, .int th]) ++ List.replicate (2 - (lg_sl ([.ref sm, .int th])).length) Slot.unset).toArray = ls at hl ⊢
  have hl : lv_has ls 2 [(0, .ref sm), (1, .int th)] := hl
  have k0 := hts (.fieldLink RX2 7 "KnifeLedgerLaw$Sim" "light" "[I") (by decide +kernel)
  have hinX2 : ∀ w ∈ wsX20, w ∈ wsX2_brings := by decide +kernel
  have k2 := hts (.fieldLink RX2 24 "KnifeLedgerLaw$Sim" "stage" "I") (by decide +kernel)
  refine lv_iload_n hx hb dX2_brings_0 rfl (lv_at hl 1 rfl) ?_
  refine lv_bipush (v := 9) hx hb dX2_brings_1 (by decide) ?_
  refine lv_icmp_le (tgt := 10) hx hb dX2_brings_3 (by decide) (fun c_3 => ?_) (fun c_3 => ?_)
  · -- 3
    refine lv_iload_n hx hb dX2_brings_10 rfl (lv_at hl 1 rfl) ?_
    refine lv_iconst (v := 3) hx hb dX2_brings_11 (by decide) ?_
    refine lv_icmp_le (tgt := 31) hx hb dX2_brings_12 (by decide) (fun c_12 => ?_) (fun c_12 => ?_)
    · -- 12
      refine lv_iload_n hx hb dX2_brings_31 rfl (lv_at hl 1 rfl) ?_
      refine lv_if_le (tgt := 50) hx hb dX2_brings_32 (by decide) (fun c_32 => ?_) (fun c_32 => ?_)
      · -- 32
        refine lv_iconst (v := 0) hx hb dX2_brings_50 (by decide) ?_
        have hpost : (0 : Int32) = mTak L xs th := by
          rw [tak_tr L xs hth]
          simp only [if_pos c_3, if_pos c_12, if_pos c_32]
        have hP9 := hP.sub (ws' := [(sm, .inr (2, [.ref aSL, .ref aST, .ref aR, .int xc, .int xp, .int xs, tv, .int xn, .int xi, .int xl])), (aSL, .inl (cI, 4, .inl L))]) [0, 1] rfl
        have hD9 := hD.sub (ws' := [(sm, .inr (2, [.ref aSL, .ref aST, .ref aR, .int xc, .int xp, .int xs, tv, .int xn, .int xi, .int xl])), (aSL, .inl (cI, 4, .inl L))]) [0, 1] (by decide) rfl
        exact W.iret (v := 0) hx hb hr (fun t ht hW => ⟨⟨0, (), rfl, hpost, by rw [ht]; exact hP9, hD9⟩, hS.F ht⟩) hS.2.2 dX2_brings_51
      · -- 32
        refine lv_bipush (v := 12) hx hb dX2_brings_35 (by decide) ?_
        refine lv_aload_n hx hb dX2_brings_37 rfl (lv_at hl 0 rfl) ?_
        refine va_get (D := (dC, dI)) (ci := 2) (v := .ref aSL) (C := RX2) (T := TX2) (N := 10) hx hb hts hinX2 hown hK hP 0 rfl rfl 0 (by decide) k0 (fun _ h9 => h9) rfl dX2_brings_38 ?_
        refine lv_aload_n hx hb dX2_brings_41 rfl (lv_at hl 0 rfl) ?_
        refine va_get (D := (dC, dI)) (ci := 2) (v := .int xs) (C := RX2) (T := TX2) (N := 10) hx hb hts hinX2 hown hK hP 0 rfl rfl 5 (by decide) k2 (fun _ h9 => h9) rfl dX2_brings_42 ?_
        refine va_iald hx hb hK hP 1 0 rfl rfl (by assumption) dX2_brings_45 ?_
        refine lv_iadd hx hb dX2_brings_46 ?_
        refine lv_goto (tgt := 51) hx hb dX2_brings_47 (by decide) ?_
        have hpost : (12 + (L xs.toNatClampNeg)) = mTak L xs th := by
          rw [tak_tr L xs hth]
          simp only [if_pos c_3, if_pos c_12, if_neg c_32]
        have hP9 := hP.sub (ws' := [(sm, .inr (2, [.ref aSL, .ref aST, .ref aR, .int xc, .int xp, .int xs, tv, .int xn, .int xi, .int xl])), (aSL, .inl (cI, 4, .inl L))]) [0, 1] rfl
        have hD9 := hD.sub (ws' := [(sm, .inr (2, [.ref aSL, .ref aST, .ref aR, .int xc, .int xp, .int xs, tv, .int xn, .int xi, .int xl])), (aSL, .inl (cI, 4, .inl L))]) [0, 1] (by decide) rfl
        exact W.iret (v := 12 + (L xs.toNatClampNeg)) hx hb hr (fun t ht hW => ⟨⟨(12 + (L xs.toNatClampNeg)), (), rfl, hpost, by rw [ht]; exact hP9, hD9⟩, hS.F ht⟩) hS.2.2 dX2_brings_51
    · -- 12
      refine lv_iconst (v := 5) hx hb dX2_brings_15 (by decide) ?_
      refine lv_aload_n hx hb dX2_brings_16 rfl (lv_at hl 0 rfl) ?_
      refine va_get (D := (dC, dI)) (ci := 2) (v := .ref aSL) (C := RX2) (T := TX2) (N := 10) hx hb hts hinX2 hown hK hP 0 rfl rfl 0 (by decide) k0 (fun _ h9 => h9) rfl dX2_brings_17 ?_
      refine lv_aload_n hx hb dX2_brings_20 rfl (lv_at hl 0 rfl) ?_
      refine va_get (D := (dC, dI)) (ci := 2) (v := .int xs) (C := RX2) (T := TX2) (N := 10) hx hb hts hinX2 hown hK hP 0 rfl rfl 5 (by decide) k2 (fun _ h9 => h9) rfl dX2_brings_21 ?_
      refine va_iald hx hb hK hP 1 0 rfl rfl (by assumption) dX2_brings_24 ?_
      refine lv_iconst (v := 2) hx hb dX2_brings_25 (by decide) ?_
      refine lv_idiv hx hb dX2_brings_26 (by decide) ?_
      refine lv_iadd hx hb dX2_brings_27 ?_
      refine lv_goto (tgt := 51) hx hb dX2_brings_28 (by decide) ?_
      have hpost : (5 + ((L xs.toNatClampNeg) / 2)) = mTak L xs th := by
        rw [tak_tr L xs hth]
        simp only [if_pos c_3, if_neg c_12]
      have hP9 := hP.sub (ws' := [(sm, .inr (2, [.ref aSL, .ref aST, .ref aR, .int xc, .int xp, .int xs, tv, .int xn, .int xi, .int xl])), (aSL, .inl (cI, 4, .inl L))]) [0, 1] rfl
      have hD9 := hD.sub (ws' := [(sm, .inr (2, [.ref aSL, .ref aST, .ref aR, .int xc, .int xp, .int xs, tv, .int xn, .int xi, .int xl])), (aSL, .inl (cI, 4, .inl L))]) [0, 1] (by decide) rfl
      exact W.iret (v := 5 + ((L xs.toNatClampNeg) / 2)) hx hb hr (fun t ht hW => ⟨⟨(5 + ((L xs.toNatClampNeg) / 2)), (), rfl, hpost, by rw [ht]; exact hP9, hD9⟩, hS.F ht⟩) hS.2.2 dX2_brings_51
  · -- 3
    refine lv_iconst (v := 1) hx hb dX2_brings_6 (by decide) ?_
    refine lv_goto (tgt := 51) hx hb dX2_brings_7 (by decide) ?_
    have hpost : (1 : Int32) = mTak L xs th := by
      rw [tak_tr L xs hth]
      simp only [if_neg c_3]
    have hP9 := hP.sub (ws' := [(sm, .inr (2, [.ref aSL, .ref aST, .ref aR, .int xc, .int xp, .int xs, tv, .int xn, .int xi, .int xl])), (aSL, .inl (cI, 4, .inl L))]) [0, 1] rfl
    have hD9 := hD.sub (ws' := [(sm, .inr (2, [.ref aSL, .ref aST, .ref aR, .int xc, .int xp, .int xs, tv, .int xn, .int xi, .int xl])), (aSL, .inl (cI, 4, .inl L))]) [0, 1] (by decide) rfl
    exact W.iret (v := 1) hx hb hr (fun t ht hW => ⟨⟨1, (), rfl, hpost, by rw [ht]; exact hP9, hD9⟩, hS.F ht⟩) hS.2.2 dX2_brings_51

set_option maxHeartbeats 4000000 in
set_option maxRecDepth 100000 in
theorem c_X2_dares (l : Launch) (dC : Nat → ClassId) (dI : Nat → Nat → Nat) (cI : ClassId) (sm aST aSU : Nat) (sz : Nat) (aSL : Nat) (aR : Nat) (xc : Int32) (xp : Int32) (xs : Int32) (xn : Int32) (xi : Int32) (xl : Int32) (L : N2I) (T : N2I) (tr : N2I) (pa : Nat) (j : Nat) (U : N2I) (hp : pa < 6) (hst : vp_in xs 4) (hT : TrV tr j U) (hoL : okL L T) : Met l yX2_dares wsX2_dares ({ frames := 0, cells := 0, slots := 0, locals := 0 } : Room) (va_Pc [.ref sm, .int (nI pa)] (pc_ (dC, dI) [(cI, .int)] [(sm, .inr (2, [.ref aSL, .ref aST, .ref aR, .int xc, .int xp, .int xs, .ref aSU, .int xn, .int xi, .int xl])), (aST, .inl (cI, 4, .inl T)), (aSU, .inl (cI, 6, .inl tr))] sz)) (va_Qi (fun (r : Int32) (u : Unit) => r = mCan T xs (nI j) U (nI pa)) (fun (u : Unit) (t : State) => va_P (dC, dI) vwCl [(sm, .inr (2, [.ref aSL, .ref aST, .ref aR, .int xc, .int xp, .int xs, .ref aSU, .int xn, .int xi, .int xl])), (aST, .inl (cI, 4, .inl T)), (aSU, .inl (cI, 6, .inl tr))] t.heap ∧ va_D (va_A [(sm, .inr (2, [.ref aSL, .ref aST, .ref aR, .int xc, .int xp, .int xs, .ref aSU, .int xn, .int xi, .int xl])), (aST, .inl (cI, 4, .inl T)), (aSU, .inl (cI, 6, .inl tr))] sz) [(sm, .inr (2, [.ref aSL, .ref aST, .ref aR, .int xc, .int xp, .int xs, .ref aSU, .int xn, .int xi, .int xl])), (aST, .inl (cI, 4, .inl T)), (aSU, .inl (cI, 6, .inl tr))]) (va_A [(sm, .inr (2, [.ref aSL, .ref aST, .ref aR, .int xc, .int xp, .int xs, .ref aSU, .int xn, .int xi, .int xl])), (aST, .inl (cI, 4, .inl T)), (aSU, .inl (cI, 6, .inl tr))] sz)) 0 0 (va_A [(sm, .inr (2, [.ref aSL, .ref aST, .ref aR, .int xc, .int xp, .int xs, .ref aSU, .int xn, .int xi, .int xl])), (aST, .inl (cI, 4, .inl T)), (aSU, .inl (cI, 6, .inl tr))] sz) := by
  refine Met.ofW (cc := cX2_dares) (maxL := 2) (ret := (some .boolean)) (by decide) rfl ?_
  intro p e s m args below meth c s₁ BB hml hv
  obtain ⟨rfl, hsz, hP, hK, hD0⟩ := hv
  have hx := BB.exec
  have hb := BB.bytes
  have hr := BB.returns
  have hts := atoms_spec (ws := wsX2_dares) BB.pre
  have hown : s.vm.findClass RX2 = some m.cls := findClass_of_methodNamed BB.named
  have hlocks := BB.notSynchronized
  subst hsz
  have hD := hD0.self (sz := s.heap.size)
  generalize hAe : va_A [(sm, .inr (2, [.ref aSL, .ref aST, .ref aR, .int xc, .int xp, .int xs, .ref aSU, .int xn, .int xi, .int xl])), (aST, .inl (cI, 4, .inl T)), (aSU, .inl (cI, 6, .inl tr))] s.heap.size = A at hD ⊢
  have hA : ∀ q : Nat, s.heap.size ≤ q → A q := fun q h => by rw [← hAe]; exact Or.inr h
  have hS : va_S A s.heap s.heap [] := va_S.rf
  have hP : va_P (dC, dI) vwCl [(sm, .inr (2, [.ref aSL, .ref aST, .ref aR, .int xc, .int xp, .int xs, .ref aSU, .int xn, .int xi, .int xl])), (aST, .inl (cI, 4, .inl T)), (aSU, .inl (cI, 6, .inl tr))] s.heap := hP
  have hl := lv_entry ([.ref sm, .int (nI pa)]) (n := 2) (Nat.le_of_ble_eq_true rfl)
  rw [lg_entry_eq]
  generalize (lg_sl ([.ref sm, .int (nI pa)]) ++ List.replicate (2 - (lg_sl ([.ref sm, .int (nI pa)])).length) Slot.unset).toArray = ls at hl ⊢
  have hl : lv_has ls 2 [(0, .ref sm), (1, .int (nI pa))] := hl
  have k0 := hts (.fieldLink RX2 21 "KnifeLedgerLaw$Sim" "trust" "[I") (by decide +kernel)
  have hinX2 : ∀ w ∈ wsX20, w ∈ wsX2_dares := by decide +kernel
  have k2 := hts (.fieldLink RX2 13 "KnifeLedgerLaw$Sim" "tremble" "[I") (by decide +kernel)
  have k3 := hts (.fieldLink RX2 24 "KnifeLedgerLaw$Sim" "stage" "I") (by decide +kernel)
  refine lv_aload_n hx hb dX2_dares_0 rfl (lv_at hl 0 rfl) ?_
  refine va_get (D := (dC, dI)) (ci := 2) (v := .ref aSU) (C := RX2) (T := TX2) (N := 10) hx hb hts hinX2 hown hK hP 0 rfl rfl 6 (by decide) k0 (fun _ h9 => h9) rfl dX2_dares_1 ?_
  refine lv_iload_n hx hb dX2_dares_4 rfl (lv_at hl 1 rfl) ?_
  refine va_iald hx hb hK hP 2 0 rfl rfl (vp_in_nI (by omega) (by omega)) dX2_dares_5 ?_
  rw [nI_clamp (n := pa) (by omega)]
  refine lv_bipush (v := 20) hx hb dX2_dares_6 (by decide) ?_
  refine lv_aload_n hx hb dX2_dares_8 rfl (lv_at hl 0 rfl) ?_
  refine va_get (D := (dC, dI)) (ci := 2) (v := .ref aST) (C := RX2) (T := TX2) (N := 10) hx hb hts hinX2 hown hK hP 0 rfl rfl 1 (by decide) k2 (fun _ h9 => h9) rfl dX2_dares_9 ?_
  refine lv_aload_n hx hb dX2_dares_12 rfl (lv_at hl 0 rfl) ?_
  refine va_get (D := (dC, dI)) (ci := 2) (v := .int xs) (C := RX2) (T := TX2) (N := 10) hx hb hts hinX2 hown hK hP 0 rfl rfl 5 (by decide) k3 (fun _ h9 => h9) rfl dX2_dares_13 ?_
  refine va_iald hx hb hK hP 1 0 rfl rfl (by assumption) dX2_dares_16 ?_
  refine lv_iadd hx hb dX2_dares_17 ?_
  refine lv_icmp_lt (tgt := 25) hx hb dX2_dares_18 (by decide) (fun c_18 => ?_) (fun c_18 => ?_)
  · -- 18
    refine lv_iconst (v := 0) hx hb dX2_dares_25 (by decide) ?_
    have hpost : (0 : Int32) = mCan T xs (nI j) U (nI pa) := by
      rw [can_tr hT hoL hst hp]
      simp only [if_pos c_18]
    have hP9 := hP.sub (ws' := [(sm, .inr (2, [.ref aSL, .ref aST, .ref aR, .int xc, .int xp, .int xs, .ref aSU, .int xn, .int xi, .int xl])), (aST, .inl (cI, 4, .inl T)), (aSU, .inl (cI, 6, .inl tr))]) [0, 1, 2] rfl
    have hD9 := hD.sub (ws' := [(sm, .inr (2, [.ref aSL, .ref aST, .ref aR, .int xc, .int xp, .int xs, .ref aSU, .int xn, .int xi, .int xl])), (aST, .inl (cI, 4, .inl T)), (aSU, .inl (cI, 6, .inl tr))]) [0, 1, 2] (by decide) rfl
    exact W.zret (v := 0) (ty := .boolean) hx hb hr (rfl) (fun t ht hW => ⟨⟨0, (), rfl, hpost, by rw [ht]; exact hP9, hD9⟩, hS.F ht⟩) hS.2.2 dX2_dares_26
  · -- 18
    refine lv_iconst (v := 1) hx hb dX2_dares_21 (by decide) ?_
    refine lv_goto (tgt := 26) hx hb dX2_dares_22 (by decide) ?_
    have hpost : (1 : Int32) = mCan T xs (nI j) U (nI pa) := by
      rw [can_tr hT hoL hst hp]
      simp only [if_neg c_18]
    have hP9 := hP.sub (ws' := [(sm, .inr (2, [.ref aSL, .ref aST, .ref aR, .int xc, .int xp, .int xs, .ref aSU, .int xn, .int xi, .int xl])), (aST, .inl (cI, 4, .inl T)), (aSU, .inl (cI, 6, .inl tr))]) [0, 1, 2] rfl
    have hD9 := hD.sub (ws' := [(sm, .inr (2, [.ref aSL, .ref aST, .ref aR, .int xc, .int xp, .int xs, .ref aSU, .int xn, .int xi, .int xl])), (aST, .inl (cI, 4, .inl T)), (aSU, .inl (cI, 6, .inl tr))]) [0, 1, 2] (by decide) rfl
    exact W.zret (v := 1) (ty := .boolean) hx hb hr (rfl) (fun t ht hW => ⟨⟨1, (), rfl, hpost, by rw [ht]; exact hP9, hD9⟩, hS.F ht⟩) hS.2.2 dX2_dares_26

set_option maxHeartbeats 4000000 in
set_option maxRecDepth 100000 in
theorem c_X2_trusts (l : Launch) (dC : Nat → ClassId) (dI : Nat → Nat → Nat) (cI : ClassId) (sm aSU : Nat) (sz : Nat) (aSL : Nat) (aST : Nat) (aR : Nat) (xc : Int32) (xp : Int32) (xs : Int32) (xn : Int32) (xi : Int32) (xl : Int32) (tr : N2I) (pa : Nat) (b : Int32) (hp : pa < 6) : Met l yX2_trusts wsX2_trusts ({ frames := 0, cells := 0, slots := 0, locals := 0 } : Room) (va_Pc [.ref sm, .int (nI pa), .int b] (pc_ (dC, dI) [(cI, .int)] [(sm, .inr (2, [.ref aSL, .ref aST, .ref aR, .int xc, .int xp, .int xs, .ref aSU, .int xn, .int xi, .int xl])), (aSU, .inl (cI, 6, .inl tr))] sz)) (va_Qv (fun (u : N2I) => u = upd tr pa (kmax 0 (kmin 100 (tr pa + b)))) (fun (u : N2I) (t : State) => va_P (dC, dI) vwCl [(sm, .inr (2, [.ref aSL, .ref aST, .ref aR, .int xc, .int xp, .int xs, .ref aSU, .int xn, .int xi, .int xl])), (aSU, .inl (cI, 6, .inl u))] t.heap ∧ va_D (va_A [(sm, .inr (2, [.ref aSL, .ref aST, .ref aR, .int xc, .int xp, .int xs, .ref aSU, .int xn, .int xi, .int xl])), (aSU, .inl (cI, 6, .inl tr))] sz) [(sm, .inr (2, [.ref aSL, .ref aST, .ref aR, .int xc, .int xp, .int xs, .ref aSU, .int xn, .int xi, .int xl])), (aSU, .inl (cI, 6, .inl u))]) (va_A [(sm, .inr (2, [.ref aSL, .ref aST, .ref aR, .int xc, .int xp, .int xs, .ref aSU, .int xn, .int xi, .int xl])), (aSU, .inl (cI, 6, .inl tr))] sz)) 0 0 (va_A [(sm, .inr (2, [.ref aSL, .ref aST, .ref aR, .int xc, .int xp, .int xs, .ref aSU, .int xn, .int xi, .int xl])), (aSU, .inl (cI, 6, .inl tr))] sz) := by
  refine Met.ofW (cc := cX2_trusts) (maxL := 4) (ret := none) (by decide) rfl ?_
  intro p e s m args below meth c s₁ BB hml hv
  obtain ⟨rfl, hsz, hP, hK, hD0⟩ := hv
  have hx := BB.exec
  have hb := BB.bytes
  have hr := BB.returns
  have hts := atoms_spec (ws := wsX2_trusts) BB.pre
  have hown : s.vm.findClass RX2 = some m.cls := findClass_of_methodNamed BB.named
  have hlocks := BB.notSynchronized
  subst hsz
  have hD := hD0.self (sz := s.heap.size)
  generalize hAe : va_A [(sm, .inr (2, [.ref aSL, .ref aST, .ref aR, .int xc, .int xp, .int xs, .ref aSU, .int xn, .int xi, .int xl])), (aSU, .inl (cI, 6, .inl tr))] s.heap.size = A at hD ⊢
  have hA : ∀ q : Nat, s.heap.size ≤ q → A q := fun q h => by rw [← hAe]; exact Or.inr h
  have hS : va_S A s.heap s.heap [] := va_S.rf
  have hP : va_P (dC, dI) vwCl [(sm, .inr (2, [.ref aSL, .ref aST, .ref aR, .int xc, .int xp, .int xs, .ref aSU, .int xn, .int xi, .int xl])), (aSU, .inl (cI, 6, .inl tr))] s.heap := hP
  have hl := lv_entry ([.ref sm, .int (nI pa), .int b]) (n := 4) (Nat.le_of_ble_eq_true rfl)
  rw [lg_entry_eq]
  generalize (lg_sl ([.ref sm, .int (nI pa), .int b]) ++ List.replicate (4 - (lg_sl ([.ref sm, .int (nI pa), .int b])).length) Slot.unset).toArray = ls at hl ⊢
  have hl : lv_has ls 4 [(0, .ref sm), (1, .int (nI pa)), (2, .int b)] := hl
  have k0 := hts (.fieldLink RX2 21 "KnifeLedgerLaw$Sim" "trust" "[I") (by decide +kernel)
  have hinX2 : ∀ w ∈ wsX20, w ∈ wsX2_trusts := by decide +kernel
  refine lv_aload_n hx hb dX2_trusts_0 rfl (lv_at hl 0 rfl) ?_
  refine va_get (D := (dC, dI)) (ci := 2) (v := .ref aSU) (C := RX2) (T := TX2) (N := 10) hx hb hts hinX2 hown hK hP 0 rfl rfl 6 (by decide) k0 (fun _ h9 => h9) rfl dX2_trusts_1 ?_
  refine lv_iload_n hx hb dX2_trusts_4 rfl (lv_at hl 1 rfl) ?_
  refine va_iald hx hb hK hP 1 0 rfl rfl (vp_in_nI (by omega) (by omega)) dX2_trusts_5 ?_
  rw [nI_clamp (n := pa) (by omega)]
  refine lv_iload_n hx hb dX2_trusts_6 rfl (lv_at hl 2 rfl) ?_
  refine lv_iadd hx hb dX2_trusts_7 ?_
  refine lv_istore_n (lv' := [(3, .int ((tr pa) + b)), (0, .ref sm), (1, .int (nI pa)), (2, .int b)]) hx hb dX2_trusts_8 rfl hl (by decide) rfl (fun ls hl => ?_)
  refine lv_aload_n hx hb dX2_trusts_9 rfl (lv_at hl 1 rfl) ?_
  refine va_get (D := (dC, dI)) (ci := 2) (v := .ref aSU) (C := RX2) (T := TX2) (N := 10) hx hb hts hinX2 hown hK hP 0 rfl rfl 6 (by decide) k0 (fun _ h9 => h9) rfl dX2_trusts_10 ?_
  refine lv_iload_n hx hb dX2_trusts_13 rfl (lv_at hl 2 rfl) ?_
  refine lv_iload_n hx hb dX2_trusts_14 rfl (lv_at hl 0 rfl) ?_
  refine lv_if_ge (tgt := 22) hx hb dX2_trusts_15 (by decide) (fun c_15 => ?_) (fun c_15 => ?_)
  · -- 15
    refine lv_iload_n hx hb dX2_trusts_22 rfl (lv_at hl 0 rfl) ?_
    refine lv_bipush (v := 100) hx hb dX2_trusts_23 (by decide) ?_
    refine lv_icmp_le (tgt := 33) hx hb dX2_trusts_25 (by decide) (fun c_25 => ?_) (fun c_25 => ?_)
    · -- 25
      refine lv_iload_n hx hb dX2_trusts_33 rfl (lv_at hl 0 rfl) ?_
      refine va_iast hx hb hK hP hD hS 1 0 rfl rfl (vp_in_nI (by omega) (by omega)) dX2_trusts_34 (fun H_2 locs hP hD hS => ?_)
      have hP : va_P (dC, dI) vwCl [(sm, .inr (2, [.ref aSL, .ref aST, .ref aR, .int xc, .int xp, .int xs, .ref aSU, .int xn, .int xi, .int xl])), (aSU, .inl (cI, 6, .inl (upd tr ((nI pa).toNatClampNeg) ((tr pa) + b))))] H_2 := hP
      have hD : va_D A [(sm, .inr (2, [.ref aSL, .ref aST, .ref aR, .int xc, .int xp, .int xs, .ref aSU, .int xn, .int xi, .int xl])), (aSU, .inl (cI, 6, .inl (upd tr ((nI pa).toNatClampNeg) ((tr pa) + b))))] := hD
      rw [nI_clamp (by omega)] at hP hD
      have hP : va_P (dC, dI) vwCl [(sm, .inr (2, [.ref aSL, .ref aST, .ref aR, .int xc, .int xp, .int xs, .ref aSU, .int xn, .int xi, .int xl])), (aSU, .inl (cI, 6, .inl (upd tr (pa) ((tr pa) + b))))] H_2 := hP
      have hD : va_D A [(sm, .inr (2, [.ref aSL, .ref aST, .ref aR, .int xc, .int xp, .int xs, .ref aSU, .int xn, .int xi, .int xl])), (aSU, .inl (cI, 6, .inl (upd tr (pa) ((tr pa) + b))))] := hD
      have hpost : (upd tr (pa) ((tr pa) + b)) = upd tr pa (kmax 0 (kmin 100 (tr pa + b))) := by
        rw [clampK]
        simp only [if_pos c_15, if_pos c_25]
      have hP9 := hP.sub (ws' := [(sm, .inr (2, [.ref aSL, .ref aST, .ref aR, .int xc, .int xp, .int xs, .ref aSU, .int xn, .int xi, .int xl])), (aSU, .inl (cI, 6, .inl (upd tr (pa) ((tr pa) + b))))]) [0, 1] rfl
      have hD9 := hD.sub (ws' := [(sm, .inr (2, [.ref aSL, .ref aST, .ref aR, .int xc, .int xp, .int xs, .ref aSU, .int xn, .int xi, .int xl])), (aSU, .inl (cI, 6, .inl (upd tr (pa) ((tr pa) + b))))]) [0, 1] (by decide) rfl
      exact W.vret hx hb hr (fun t ht hW => ⟨⟨(upd tr (pa) ((tr pa) + b)), rfl, hpost, by rw [ht]; exact hP9, hD9⟩, hS.F ht⟩) hS.2.2 dX2_trusts_35
    · -- 25
      refine lv_bipush (v := 100) hx hb dX2_trusts_28 (by decide) ?_
      refine lv_goto (tgt := 34) hx hb dX2_trusts_30 (by decide) ?_
      refine va_iast hx hb hK hP hD hS 1 0 rfl rfl (vp_in_nI (by omega) (by omega)) dX2_trusts_34 (fun H_3 locs hP hD hS => ?_)
      have hP : va_P (dC, dI) vwCl [(sm, .inr (2, [.ref aSL, .ref aST, .ref aR, .int xc, .int xp, .int xs, .ref aSU, .int xn, .int xi, .int xl])), (aSU, .inl (cI, 6, .inl (upd tr ((nI pa).toNatClampNeg) 100)))] H_3 := hP
      have hD : va_D A [(sm, .inr (2, [.ref aSL, .ref aST, .ref aR, .int xc, .int xp, .int xs, .ref aSU, .int xn, .int xi, .int xl])), (aSU, .inl (cI, 6, .inl (upd tr ((nI pa).toNatClampNeg) 100)))] := hD
      rw [nI_clamp (by omega)] at hP hD
      have hP : va_P (dC, dI) vwCl [(sm, .inr (2, [.ref aSL, .ref aST, .ref aR, .int xc, .int xp, .int xs, .ref aSU, .int xn, .int xi, .int xl])), (aSU, .inl (cI, 6, .inl (upd tr (pa) 100)))] H_3 := hP
      have hD : va_D A [(sm, .inr (2, [.ref aSL, .ref aST, .ref aR, .int xc, .int xp, .int xs, .ref aSU, .int xn, .int xi, .int xl])), (aSU, .inl (cI, 6, .inl (upd tr (pa) 100)))] := hD
      have hpost : (upd tr (pa) 100) = upd tr pa (kmax 0 (kmin 100 (tr pa + b))) := by
        rw [clampK]
        simp only [if_pos c_15, if_neg c_25]
      have hP9 := hP.sub (ws' := [(sm, .inr (2, [.ref aSL, .ref aST, .ref aR, .int xc, .int xp, .int xs, .ref aSU, .int xn, .int xi, .int xl])), (aSU, .inl (cI, 6, .inl (upd tr (pa) 100)))]) [0, 1] rfl
      have hD9 := hD.sub (ws' := [(sm, .inr (2, [.ref aSL, .ref aST, .ref aR, .int xc, .int xp, .int xs, .ref aSU, .int xn, .int xi, .int xl])), (aSU, .inl (cI, 6, .inl (upd tr (pa) 100)))]) [0, 1] (by decide) rfl
      exact W.vret hx hb hr (fun t ht hW => ⟨⟨(upd tr (pa) 100), rfl, hpost, by rw [ht]; exact hP9, hD9⟩, hS.F ht⟩) hS.2.2 dX2_trusts_35
  · -- 15
    refine lv_iconst (v := 0) hx hb dX2_trusts_18 (by decide) ?_
    refine lv_goto (tgt := 34) hx hb dX2_trusts_19 (by decide) ?_
    refine va_iast hx hb hK hP hD hS 1 0 rfl rfl (vp_in_nI (by omega) (by omega)) dX2_trusts_34 (fun H_4 locs hP hD hS => ?_)
    have hP : va_P (dC, dI) vwCl [(sm, .inr (2, [.ref aSL, .ref aST, .ref aR, .int xc, .int xp, .int xs, .ref aSU, .int xn, .int xi, .int xl])), (aSU, .inl (cI, 6, .inl (upd tr ((nI pa).toNatClampNeg) 0)))] H_4 := hP
    have hD : va_D A [(sm, .inr (2, [.ref aSL, .ref aST, .ref aR, .int xc, .int xp, .int xs, .ref aSU, .int xn, .int xi, .int xl])), (aSU, .inl (cI, 6, .inl (upd tr ((nI pa).toNatClampNeg) 0)))] := hD
    rw [nI_clamp (by omega)] at hP hD
    have hP : va_P (dC, dI) vwCl [(sm, .inr (2, [.ref aSL, .ref aST, .ref aR, .int xc, .int xp, .int xs, .ref aSU, .int xn, .int xi, .int xl])), (aSU, .inl (cI, 6, .inl (upd tr (pa) 0)))] H_4 := hP
    have hD : va_D A [(sm, .inr (2, [.ref aSL, .ref aST, .ref aR, .int xc, .int xp, .int xs, .ref aSU, .int xn, .int xi, .int xl])), (aSU, .inl (cI, 6, .inl (upd tr (pa) 0)))] := hD
    have hpost : (upd tr (pa) 0) = upd tr pa (kmax 0 (kmin 100 (tr pa + b))) := by
      rw [clampK]
      simp only [if_neg c_15]
    have hP9 := hP.sub (ws' := [(sm, .inr (2, [.ref aSL, .ref aST, .ref aR, .int xc, .int xp, .int xs, .ref aSU, .int xn, .int xi, .int xl])), (aSU, .inl (cI, 6, .inl (upd tr (pa) 0)))]) [0, 1] rfl
    have hD9 := hD.sub (ws' := [(sm, .inr (2, [.ref aSL, .ref aST, .ref aR, .int xc, .int xp, .int xs, .ref aSU, .int xn, .int xi, .int xl])), (aSU, .inl (cI, 6, .inl (upd tr (pa) 0)))]) [0, 1] (by decide) rfl
    exact W.vret hx hb hr (fun t ht hW => ⟨⟨(upd tr (pa) 0), rfl, hpost, by rw [ht]; exact hP9, hD9⟩, hS.F ht⟩) hS.2.2 dX2_trusts_35
