/-- what does() shows of a step -/
def hp4 (h : Int32 × T5) : Int32 × Int32 × Int32 × Int32 := (h.1, h.2.1, h.2.2.1, h.2.2.2.1)
def TrH (tr : N2I) (h : Int32 × T5) : Prop := ∃ j, h.2.2.2.2.1 = nI j ∧ TrV tr j h.2.2.2.2.2
theorem dz_no {L T tr : N2I} {kk aa bb xc xp xs : Int32} {j : Nat} {U : N2I} (hT : TrV tr j U) (e : (mHap L T kk aa bb xc xp xs (nI j) U).1 = 0) : ((0 : Int32), xc, xp, xs) = hp4 (mHap L T kk aa bb xc xp xs (nI j) U) ∧ TrH tr (mHap L T kk aa bb xc xp xs (nI j) U) := by
  rw [mHap_no e]; exact ⟨rfl, j, rfl, hT⟩
theorem dz_yes {L T tr1 : N2I} {kk aa bb xc xp xs xc1 xp1 xs1 : Int32} {j j1 : Nat} {U U1 : N2I} (e : mHap L T kk aa bb xc xp xs (nI j) U = (1, xc1, xp1, xs1, nI j1, U1)) (hT : TrV tr1 j1 U1) : ((1 : Int32), xc1, xp1, xs1) = hp4 (mHap L T kk aa bb xc xp xs (nI j) U) ∧ TrH tr1 (mHap L T kk aa bb xc xp xs (nI j) U) := by
  rw [e]; exact ⟨rfl, j1, rfl, hT⟩
theorem j_lt {tr : N2I} {j : Nat} {U : N2I} (h : TrV tr j U) (c : ¬ nI j = 6) : j < 6 := by
  have := h.1
  have : ¬ j = 6 := fun e => c (by rw [e]; rfl)
  omega
theorem pl_npos {xp : Int32} {q : Nat} (h : xp = nI q ∧ q < 2000) (c : ¬ xp = 0) : ¬ xp ≤ 0 := by
  rw [h.1] at c ⊢
  exact nI_nle (Nat.pos_of_ne_zero (fun e => c (by rw [e]; rfl))) (by omega)
theorem jd_of {tr : N2I} {j pa : Nat} {U : N2I} (h : TrV tr j U) (hp : pa < 6) : (pa < j ∧ ¬ mJd (nI j) (nI pa) = 0 ∧ 0 ≤ tr pa) ∨ (mJd (nI j) (nI pa) = 0 ∧ tr pa = -1) := by
  have := h.1
  rcases tr_at h hp with ⟨hj, t, ht, -, e⟩ | ⟨hj, e⟩
  · refine Or.inl ⟨hj, ?_, by rw [e]; exact le_nI (by omega)⟩
    unfold mJd; rw [if_neg (nI_ge hj (by omega))]; decide
  · refine Or.inr ⟨?_, e⟩
    unfold mJd; rw [if_pos (nI_le hj (by omega))]
theorem jd_no {tr : N2I} {j pa : Nat} {U : N2I} (h : TrV tr j U) (hp : pa < 6) (c : ¬ 0 ≤ tr pa) : mJd (nI j) (nI pa) = 0 := by
  rcases jd_of h hp with ⟨-, -, e⟩ | ⟨e, -⟩
  · exact absurd e c
  · exact e
theorem jd_neg {tr : N2I} {j pa : Nat} {U : N2I} (h : TrV tr j U) (hp : pa < 6) (c : tr pa < 0) : mJd (nI j) (nI pa) = 0 := jd_no h hp (fun h2 => absurd c (nlt_le.mpr h2))
theorem jd_yes {tr : N2I} {j pa : Nat} {U : N2I} (h : TrV tr j U) (hp : pa < 6) (c : 0 ≤ tr pa) : ¬ mJd (nI j) (nI pa) = 0 := by
  rcases jd_of h hp with ⟨-, e, -⟩ | ⟨-, e⟩
  · exact e
  · rw [e] at c; exact absurd c (by decide)
theorem jd_lt {tr : N2I} {j pa : Nat} {U : N2I} (h : TrV tr j U) (hp : pa < 6) (c : 0 ≤ tr pa) : pa < j := by
  rcases jd_of h hp with ⟨e, -⟩ | ⟨-, e⟩
  · exact e
  · rw [e] at c; exact absurd c (by decide)
theorem jd_nneg {tr : N2I} {j pa : Nat} {U : N2I} (h : TrV tr j U) (hp : pa < 6) (c : ¬ tr pa < 0) : ¬ mJd (nI j) (nI pa) = 0 := jd_yes h hp (nlt_le.mp c)
theorem jd_ltn {tr : N2I} {j pa : Nat} {U : N2I} (h : TrV tr j U) (hp : pa < 6) (c : ¬ tr pa < 0) : pa < j := jd_lt h hp (nlt_le.mp c)
theorem can_p {T tr : N2I} {j pa : Nat} {U : N2I} {st : Int32} (h : TrV tr j U) (hp : pa < 6) (c : ¬ mCan T st (nI j) U (nI pa) = 0) : pa < j := by
  have := h.1
  obtain ⟨q, hq, e⟩ := can_q h.1 (vp_in_nI hp (by omega)) c
  have : pa = q := (nI_eq (by omega) (by omega)).mp e
  omega
theorem clamp_in (x : Int32) : ∃ t, t ≤ 100 ∧ kmax 0 (kmin 100 x) = nI t := by
  rw [clampK]
  by_cases h1 : 0 ≤ x
  · rw [if_pos h1]
    by_cases h2 : x ≤ 100
    · rw [if_pos h2]
      obtain ⟨j, hj, e⟩ := nI_of2 (M := 100) (n := 100) rfl (nlt_le.mpr h1) h2
      exact ⟨j, hj, e⟩
    · rw [if_neg h2]; exact ⟨100, by omega, rfl⟩
  · rw [if_neg h1]; exact ⟨0, by omega, rfl⟩
theorem TrV_add {tr : N2I} {j pa : Nat} {U : N2I} (h : TrV tr j U) (hp : pa < j) (b : Int32) : TrV (upd tr pa (kmax 0 (kmin 100 (tr pa + b)))) j (mAdd U (nI pa) b) := by
  have hj := h.1
  have e : tr pa = U pa := by rw [h.2.1 pa (by omega), if_pos hp]
  unfold mAdd
  rw [nI_clamp (by omega), e]
  refine ⟨hj, fun p hp6 => ?_, fun q hq => ?_⟩
  · unfold upd
    by_cases c : p = pa
    · subst c; simp [hp]
    · simp only [c, if_false]; exact h.2.1 p hp6
  · unfold upd
    by_cases c : q = pa
    · simp only [c, if_true]; exact clamp_in _
    · simp only [c, if_false]; exact h.2.2 q hq
theorem TrV_join {tr : N2I} {j : Nat} {U : N2I} {aa : Int32} (h : TrV tr j U) (hj : j < 6) (ha : vp_in aa 101) : TrV (upd tr j aa) (j + 1) (upd U (nI j).toNatClampNeg aa) := by
  rw [nI_clamp (by omega)]
  refine ⟨by omega, fun p hp6 => ?_, fun q hq => ?_⟩
  · unfold upd
    by_cases c : p = j
    · subst c; simp
    · simp only [c, if_false]
      rw [h.2.1 p hp6]
      by_cases d : p < j
      · rw [if_pos d, if_pos (by omega)]
      · rw [if_neg d, if_neg (by omega)]
  · unfold upd
    by_cases c : q = j
    · simp only [c, if_true]
      obtain ⟨t, ht, e⟩ := vp_in_of ha (by omega)
      exact ⟨t, by omega, e⟩
    · simp only [c, if_false]; exact h.2.2 q (by omega)
set_option maxHeartbeats 4000000 in
set_option maxRecDepth 100000 in
theorem c_X2_does (l : Launch) (dC : Nat → ClassId) (dI : Nat → Nat → Nat) (cI : ClassId) (sm aSL aST aSU : Nat) (sz : Nat) (aR : Nat) (a0 : Nat) (xc : Int32) (xp : Int32) (xs : Int32) (xn : Int32) (xi : Int32) (xl : Int32) (L : N2I) (T : N2I) (tr : N2I) (RL : List Nat) (row : Nat → Nat → Int32) (kk : Int32) (aa : Int32) (bb : Int32) (j : Nat) (q : Nat) (U : N2I) (ha0 : a0 ∈ RL) (he0 : row a0 0 = kk) (he1 : row a0 1 = aa) (he2 : row a0 2 = bb) (hT : TrV tr j U) (hoL : okL L T) (hst : vp_in xs 4) (hok : okE kk aa bb) (hjo : kk = 0 → vp_in aa 101) (hq9 : xp = nI q ∧ q < 2000) : Met l yX2_does wsX2_does ({ frames := 1, cells := 0, slots := 0, locals := 26 } : Room) (va_Pc [.ref sm, .ref a0] (pc_ (dC, dI) [(cI, .int)] ([(sm, .inr (2, [.ref aSL, .ref aST, .ref aR, .int xc, .int xp, .int xs, .ref aSU, .int xn, .int xi, .int xl])), (aSL, .inl (cI, 4, .inl L)), (aST, .inl (cI, 4, .inl T)), (aSU, .inl (cI, 6, .inl tr))] ++ va_pl RL (rowE cI row)) sz)) (va_Qi (fun (r : Int32) (u : Int32 × Int32 × Int32 × N2I) => (r, u.1, u.2.1, u.2.2.1) = hp4 (mHap L T kk aa bb xc xp xs (nI j) U) ∧ TrH u.2.2.2 (mHap L T kk aa bb xc xp xs (nI j) U)) (fun (u : Int32 × Int32 × Int32 × N2I) (t : State) => va_P (dC, dI) vwCl ([(sm, .inr (2, [.ref aSL, .ref aST, .ref aR, .int u.1, .int u.2.1, .int u.2.2.1, .ref aSU, .int xn, .int xi, .int xl])), (aSL, .inl (cI, 4, .inl L)), (aST, .inl (cI, 4, .inl T)), (aSU, .inl (cI, 6, .inl u.2.2.2))] ++ va_pl RL (rowE cI row)) t.heap ∧ va_D (va_A ([(sm, .inr (2, [.ref aSL, .ref aST, .ref aR, .int xc, .int xp, .int xs, .ref aSU, .int xn, .int xi, .int xl])), (aSL, .inl (cI, 4, .inl L)), (aST, .inl (cI, 4, .inl T)), (aSU, .inl (cI, 6, .inl tr))] ++ va_pl RL (rowE cI row)) sz) ([(sm, .inr (2, [.ref aSL, .ref aST, .ref aR, .int u.1, .int u.2.1, .int u.2.2.1, .ref aSU, .int xn, .int xi, .int xl])), (aSL, .inl (cI, 4, .inl L)), (aST, .inl (cI, 4, .inl T)), (aSU, .inl (cI, 6, .inl u.2.2.2))] ++ va_pl RL (rowE cI row))) (va_A ([(sm, .inr (2, [.ref aSL, .ref aST, .ref aR, .int xc, .int xp, .int xs, .ref aSU, .int xn, .int xi, .int xl])), (aSL, .inl (cI, 4, .inl L)), (aST, .inl (cI, 4, .inl T)), (aSU, .inl (cI, 6, .inl tr))] ++ va_pl RL (rowE cI row)) sz)) 0 0 (va_A ([(sm, .inr (2, [.ref aSL, .ref aST, .ref aR, .int xc, .int xp, .int xs, .ref aSU, .int xn, .int xi, .int xl])), (aSL, .inl (cI, 4, .inl L)), (aST, .inl (cI, 4, .inl T)), (aSU, .inl (cI, 6, .inl tr))] ++ va_pl RL (rowE cI row)) sz) := by
  refine Met.ofW (cc := cX2_does) (maxL := 4) (ret := (some .boolean)) (by decide) rfl ?_
  intro p e s m args below meth c s₁ BB hml hv
  obtain ⟨rfl, hsz, hP, hK, hD0⟩ := hv
  have hx := BB.exec
  have hb := BB.bytes
  have hr := BB.returns
  have hts := atoms_spec (ws := wsX2_does) BB.pre
  have hown : s.vm.findClass RX2 = some m.cls := findClass_of_methodNamed BB.named
  have hlocks := BB.notSynchronized
  subst hsz
  have hD := hD0.self (sz := s.heap.size)
  generalize hAe : va_A ([(sm, .inr (2, [.ref aSL, .ref aST, .ref aR, .int xc, .int xp, .int xs, .ref aSU, .int xn, .int xi, .int xl])), (aSL, .inl (cI, 4, .inl L)), (aST, .inl (cI, 4, .inl T)), (aSU, .inl (cI, 6, .inl tr))] ++ va_pl RL (rowE cI row)) s.heap.size = A at hD ⊢
  have hA : ∀ q : Nat, s.heap.size ≤ q → A q := fun q h => by rw [← hAe]; exact Or.inr h
  have hS : va_S A s.heap s.heap [] := va_S.rf
  have hP : va_P (dC, dI) vwCl ([(sm, .inr (2, [.ref aSL, .ref aST, .ref aR, .int xc, .int xp, .int xs, .ref aSU, .int xn, .int xi, .int xl])), (aSL, .inl (cI, 4, .inl L)), (aST, .inl (cI, 4, .inl T)), (aSU, .inl (cI, 6, .inl tr))] ++ va_pl RL (rowE cI row)) s.heap := hP
  have hl := lv_entry ([.ref sm, .ref a0]) (n := 4) (Nat.le_of_ble_eq_true rfl)
  rw [lg_entry_eq]
  generalize (lg_sl ([.ref sm, .ref a0]) ++ List.replicate (4 - (lg_sl ([.ref sm, .ref a0])).length) Slot.unset).toArray = ls at hl ⊢
  have hl : lv_has ls 4 [(0, .ref sm), (1, .ref a0)] := hl
  have k0 := hts (.fieldLink RX2 36 "KnifeLedgerLaw$Sim" "coins" "I") (by decide +kernel)
  have hinX2 : ∀ w ∈ wsX20, w ∈ wsX2_does := by decide +kernel
  have k2 := hts (.fieldLink RX2 43 "KnifeLedgerLaw$Sim" "plasters" "I") (by decide +kernel)
  have k3 := hts (.fieldLink RX2 21 "KnifeLedgerLaw$Sim" "trust" "[I") (by decide +kernel)
  have k4 := hts (.fieldLink RX2 24 "KnifeLedgerLaw$Sim" "stage" "I") (by decide +kernel)
  refine lv_aload_n hx hb dX2_does_0 rfl (lv_at hl 1 rfl) ?_
  refine lv_iconst (v := 1) hx hb dX2_does_1 (by decide) ?_
  obtain ⟨kx_1, hkx_1⟩ := va_pl_get (X := [(sm, .inr (2, [.ref aSL, .ref aST, .ref aR, .int xc, .int xp, .int xs, .ref aSU, .int xn, .int xi, .int xl])), (aSL, .inl (cI, 4, .inl L)), (aST, .inl (cI, 4, .inl T)), (aSU, .inl (cI, 6, .inl tr))]) (f := rowE cI row) ha0
  refine va_iald hx hb hK hP kx_1 0 hkx_1 rfl (vp_in_nI (n := 1) (by omega) (by omega)) dX2_does_2 ?_
  refine W.eq (g2 := F0 m 3 ls [.int (row a0 1)]) rfl ?_
  rw [he1]
  refine lv_istore_n (lv' := [(2, .int aa), (0, .ref sm), (1, .ref a0)]) hx hb dX2_does_3 rfl hl (by decide) rfl (fun ls hl => ?_)
  refine lv_aload_n hx hb dX2_does_4 rfl (lv_at hl 2 rfl) ?_
  refine lv_iconst (v := 0) hx hb dX2_does_5 (by decide) ?_
  obtain ⟨kx_2, hkx_2⟩ := va_pl_get (X := [(sm, .inr (2, [.ref aSL, .ref aST, .ref aR, .int xc, .int xp, .int xs, .ref aSU, .int xn, .int xi, .int xl])), (aSL, .inl (cI, 4, .inl L)), (aST, .inl (cI, 4, .inl T)), (aSU, .inl (cI, 6, .inl tr))]) (f := rowE cI row) ha0
  refine va_iald hx hb hK hP kx_2 0 hkx_2 rfl (vp_in_nI (n := 0) (by omega) (by omega)) dX2_does_6 ?_
  refine W.eq (g2 := F0 m 7 ls [.int (row a0 0)]) rfl ?_
  rw [he0]
  refine lv_if_ne (tgt := 33) hx hb dX2_does_7 (by decide) (fun c_7 => ?_) (fun c_7 => ?_)
  · -- 7
    refine lv_aload_n hx hb dX2_does_33 rfl (lv_at hl 2 rfl) ?_
    refine lv_iconst (v := 0) hx hb dX2_does_34 (by decide) ?_
    obtain ⟨kx_3, hkx_3⟩ := va_pl_get (X := [(sm, .inr (2, [.ref aSL, .ref aST, .ref aR, .int xc, .int xp, .int xs, .ref aSU, .int xn, .int xi, .int xl])), (aSL, .inl (cI, 4, .inl L)), (aST, .inl (cI, 4, .inl T)), (aSU, .inl (cI, 6, .inl tr))]) (f := rowE cI row) ha0
    refine va_iald hx hb hK hP kx_3 0 hkx_3 rfl (vp_in_nI (n := 0) (by omega) (by omega)) dX2_does_35 ?_
    refine W.eq (g2 := F0 m 36 ls [.int (row a0 0)]) rfl ?_
    rw [he0]
    refine lv_iconst (v := 1) hx hb dX2_does_36 (by decide) ?_
    refine lv_icmp_ne (tgt := 144) hx hb dX2_does_37 (by decide) (fun c_37 => ?_) (fun c_37 => ?_)
    · -- 37
      refine lv_aload_n hx hb dX2_does_144 rfl (lv_at hl 2 rfl) ?_
      refine lv_iconst (v := 0) hx hb dX2_does_145 (by decide) ?_
      obtain ⟨kx_4, hkx_4⟩ := va_pl_get (X := [(sm, .inr (2, [.ref aSL, .ref aST, .ref aR, .int xc, .int xp, .int xs, .ref aSU, .int xn, .int xi, .int xl])), (aSL, .inl (cI, 4, .inl L)), (aST, .inl (cI, 4, .inl T)), (aSU, .inl (cI, 6, .inl tr))]) (f := rowE cI row) ha0
      refine va_iald hx hb hK hP kx_4 0 hkx_4 rfl (vp_in_nI (n := 0) (by omega) (by omega)) dX2_does_146 ?_
      refine W.eq (g2 := F0 m 147 ls [.int (row a0 0)]) rfl ?_
      rw [he0]
      refine lv_iconst (v := 2) hx hb dX2_does_147 (by decide) ?_
      refine lv_icmp_ne (tgt := 172) hx hb dX2_does_148 (by decide) (fun c_148 => ?_) (fun c_148 => ?_)
      · -- 148
        refine lv_aload_n hx hb dX2_does_172 rfl (lv_at hl 2 rfl) ?_
        refine lv_iconst (v := 0) hx hb dX2_does_173 (by decide) ?_
        obtain ⟨kx_5, hkx_5⟩ := va_pl_get (X := [(sm, .inr (2, [.ref aSL, .ref aST, .ref aR, .int xc, .int xp, .int xs, .ref aSU, .int xn, .int xi, .int xl])), (aSL, .inl (cI, 4, .inl L)), (aST, .inl (cI, 4, .inl T)), (aSU, .inl (cI, 6, .inl tr))]) (f := rowE cI row) ha0
        refine va_iald hx hb hK hP kx_5 0 hkx_5 rfl (vp_in_nI (n := 0) (by omega) (by omega)) dX2_does_174 ?_
        refine W.eq (g2 := F0 m 175 ls [.int (row a0 0)]) rfl ?_
        rw [he0]
        refine lv_iconst (v := 3) hx hb dX2_does_175 (by decide) ?_
        refine lv_icmp_ne (tgt := 187) hx hb dX2_does_176 (by decide) (fun c_176 => ?_) (fun c_176 => ?_)
        · -- 176
          refine lv_aload_n hx hb dX2_does_187 rfl (lv_at hl 2 rfl) ?_
          refine lv_iconst (v := 0) hx hb dX2_does_188 (by decide) ?_
          obtain ⟨kx_6, hkx_6⟩ := va_pl_get (X := [(sm, .inr (2, [.ref aSL, .ref aST, .ref aR, .int xc, .int xp, .int xs, .ref aSU, .int xn, .int xi, .int xl])), (aSL, .inl (cI, 4, .inl L)), (aST, .inl (cI, 4, .inl T)), (aSU, .inl (cI, 6, .inl tr))]) (f := rowE cI row) ha0
          refine va_iald hx hb hK hP kx_6 0 hkx_6 rfl (vp_in_nI (n := 0) (by omega) (by omega)) dX2_does_189 ?_
          refine W.eq (g2 := F0 m 190 ls [.int (row a0 0)]) rfl ?_
          rw [he0]
          refine lv_iconst (v := 4) hx hb dX2_does_190 (by decide) ?_
          refine lv_icmp_ne (tgt := 240) hx hb dX2_does_191 (by decide) (fun c_191 => ?_) (fun c_191 => ?_)
          · -- 191
            refine lv_iconst (v := 2) hx hb dX2_does_240 (by decide) ?_
            refine lv_iload_n hx hb dX2_does_241 rfl (lv_at hl 0 rfl) ?_
            refine lv_imul hx hb dX2_does_242 ?_
            refine lv_aload_n hx hb dX2_does_243 rfl (lv_at hl 1 rfl) ?_
            refine va_get (D := (dC, dI)) (ci := 2) (v := .int xc) (C := RX2) (T := TX2) (N := 10) hx hb hts hinX2 hown hK hP 0 rfl rfl 3 (by decide) k0 (fun _ h9 => h9) rfl dX2_does_244 ?_
            refine lv_icmp_le (tgt := 252) hx hb dX2_does_247 (by decide) (fun c_247 => ?_) (fun c_247 => ?_)
            · -- 247
              refine lv_aload_n hx hb dX2_does_252 rfl (lv_at hl 1 rfl) ?_
              refine lv_dup hx hb dX2_does_253 rfl ?_
              refine va_get (D := (dC, dI)) (ci := 2) (v := .int xc) (C := RX2) (T := TX2) (N := 10) hx hb hts hinX2 hown hK hP 0 rfl rfl 3 (by decide) k0 (fun _ h9 => h9) rfl dX2_does_254 ?_
              refine lv_iconst (v := 2) hx hb dX2_does_257 (by decide) ?_
              refine lv_iload_n hx hb dX2_does_258 rfl (lv_at hl 0 rfl) ?_
              refine lv_imul hx hb dX2_does_259 ?_
              refine lv_isub hx hb dX2_does_260 ?_
              refine lv_topi (fun f_7 ef_7 => ?_)
              refine va_put (D := (dC, dI)) (ci := 2) (v := .int f_7) (ty := .int) (C := RX2) (T := TX2) (N := 10) hx hb hts hinX2 tyX2 tyX2_ok nmX2 hown hK hP hD hS 0 rfl rfl 3 (by decide) k0 (fun _ h9 => h9) rfl (by decide +kernel) rfl rfl (Nat.le_of_ble_eq_true rfl) dX2_does_261 (fun H_8 locs hP hD hS => ?_)
              have hP : va_P (dC, dI) vwCl ([(sm, .inr (2, [.ref aSL, .ref aST, .ref aR, .int f_7, .int xp, .int xs, .ref aSU, .int xn, .int xi, .int xl])), (aSL, .inl (cI, 4, .inl L)), (aST, .inl (cI, 4, .inl T)), (aSU, .inl (cI, 6, .inl tr))] ++ va_pl RL (rowE cI row)) H_8 := hP
              have hD : va_D A ([(sm, .inr (2, [.ref aSL, .ref aST, .ref aR, .int f_7, .int xp, .int xs, .ref aSU, .int xn, .int xi, .int xl])), (aSL, .inl (cI, 4, .inl L)), (aST, .inl (cI, 4, .inl T)), (aSU, .inl (cI, 6, .inl tr))] ++ va_pl RL (rowE cI row)) := hD
              refine lv_aload_n hx hb dX2_does_264 rfl (lv_at hl 1 rfl) ?_
              refine lv_dup hx hb dX2_does_265 rfl ?_
              refine va_get (D := (dC, dI)) (ci := 2) (v := .int xp) (C := RX2) (T := TX2) (N := 10) hx hb hts hinX2 hown hK hP 0 rfl rfl 4 (by decide) k2 (fun _ h9 => h9) rfl dX2_does_266 ?_
              refine lv_iload_n hx hb dX2_does_269 rfl (lv_at hl 0 rfl) ?_
              refine lv_iadd hx hb dX2_does_270 ?_
              refine lv_topi (fun f_9 ef_9 => ?_)
              refine va_put (D := (dC, dI)) (ci := 2) (v := .int f_9) (ty := .int) (C := RX2) (T := TX2) (N := 10) hx hb hts hinX2 tyX2 tyX2_ok nmX2 hown hK hP hD hS 0 rfl rfl 4 (by decide) k2 (fun _ h9 => h9) rfl (by decide +kernel) rfl rfl (Nat.le_of_ble_eq_true rfl) dX2_does_271 (fun H_10 locs hP hD hS => ?_)
              have hP : va_P (dC, dI) vwCl ([(sm, .inr (2, [.ref aSL, .ref aST, .ref aR, .int f_7, .int f_9, .int xs, .ref aSU, .int xn, .int xi, .int xl])), (aSL, .inl (cI, 4, .inl L)), (aST, .inl (cI, 4, .inl T)), (aSU, .inl (cI, 6, .inl tr))] ++ va_pl RL (rowE cI row)) H_10 := hP
              have hD : va_D A ([(sm, .inr (2, [.ref aSL, .ref aST, .ref aR, .int f_7, .int f_9, .int xs, .ref aSU, .int xn, .int xi, .int xl])), (aSL, .inl (cI, 4, .inl L)), (aST, .inl (cI, 4, .inl T)), (aSU, .inl (cI, 6, .inl tr))] ++ va_pl RL (rowE cI row)) := hD
              refine lv_iconst (v := 1) hx hb dX2_does_274 (by decide) ?_
              have hpost : ((1 : Int32), f_7, f_9, xs) = hp4 (mHap L T kk aa bb xc xp xs (nI j) U) ∧ TrH tr (mHap L T kk aa bb xc xp xs (nI j) U) := by
                exact dz_yes (by unfold mHap; rw [if_neg c_7, if_neg c_37, if_neg c_148, if_neg c_176, if_neg c_191]; unfold mBuy; rw [if_pos c_247]; simp only [ef_7, ef_9]) hT
              have hP9 := hP.part (X := [(sm, .inr (2, [.ref aSL, .ref aST, .ref aR, .int f_7, .int f_9, .int xs, .ref aSU, .int xn, .int xi, .int xl])), (aSL, .inl (cI, 4, .inl L)), (aST, .inl (cI, 4, .inl T)), (aSU, .inl (cI, 6, .inl tr))]) (cx := [(sm, .inr (2, [.ref aSL, .ref aST, .ref aR, .int f_7, .int f_9, .int xs, .ref aSU, .int xn, .int xi, .int xl])), (aSL, .inl (cI, 4, .inl L)), (aST, .inl (cI, 4, .inl T)), (aSU, .inl (cI, 6, .inl tr))]) [0, 1, 2, 3] rfl
              have hD9 := hD.part (X := [(sm, .inr (2, [.ref aSL, .ref aST, .ref aR, .int f_7, .int f_9, .int xs, .ref aSU, .int xn, .int xi, .int xl])), (aSL, .inl (cI, 4, .inl L)), (aST, .inl (cI, 4, .inl T)), (aSU, .inl (cI, 6, .inl tr))]) (cx := [(sm, .inr (2, [.ref aSL, .ref aST, .ref aR, .int f_7, .int f_9, .int xs, .ref aSU, .int xn, .int xi, .int xl])), (aSL, .inl (cI, 4, .inl L)), (aST, .inl (cI, 4, .inl T)), (aSU, .inl (cI, 6, .inl tr))]) [0, 1, 2, 3] (by decide) rfl
              exact W.zret (v := 1) (ty := .boolean) hx hb hr (rfl) (fun t ht hW => ⟨⟨1, (f_7, f_9, xs, tr), rfl, hpost, by rw [ht]; exact hP9, hD9⟩, hS.F ht⟩) hS.2.2 dX2_does_275
            · -- 247
              refine lv_iconst (v := 0) hx hb dX2_does_250 (by decide) ?_
              have hpost : ((0 : Int32), xc, xp, xs) = hp4 (mHap L T kk aa bb xc xp xs (nI j) U) ∧ TrH tr (mHap L T kk aa bb xc xp xs (nI j) U) := by
                exact dz_no hT (by unfold mHap; rw [if_neg c_7, if_neg c_37, if_neg c_148, if_neg c_176, if_neg c_191]; unfold mBuy; rw [if_neg c_247])
              have hP9 := hP.part (X := [(sm, .inr (2, [.ref aSL, .ref aST, .ref aR, .int xc, .int xp, .int xs, .ref aSU, .int xn, .int xi, .int xl])), (aSL, .inl (cI, 4, .inl L)), (aST, .inl (cI, 4, .inl T)), (aSU, .inl (cI, 6, .inl tr))]) (cx := [(sm, .inr (2, [.ref aSL, .ref aST, .ref aR, .int xc, .int xp, .int xs, .ref aSU, .int xn, .int xi, .int xl])), (aSL, .inl (cI, 4, .inl L)), (aST, .inl (cI, 4, .inl T)), (aSU, .inl (cI, 6, .inl tr))]) [0, 1, 2, 3] rfl
              have hD9 := hD.part (X := [(sm, .inr (2, [.ref aSL, .ref aST, .ref aR, .int xc, .int xp, .int xs, .ref aSU, .int xn, .int xi, .int xl])), (aSL, .inl (cI, 4, .inl L)), (aST, .inl (cI, 4, .inl T)), (aSU, .inl (cI, 6, .inl tr))]) (cx := [(sm, .inr (2, [.ref aSL, .ref aST, .ref aR, .int xc, .int xp, .int xs, .ref aSU, .int xn, .int xi, .int xl])), (aSL, .inl (cI, 4, .inl L)), (aST, .inl (cI, 4, .inl T)), (aSU, .inl (cI, 6, .inl tr))]) [0, 1, 2, 3] (by decide) rfl
              exact W.zret (v := 0) (ty := .boolean) hx hb hr (rfl) (fun t ht hW => ⟨⟨0, (xc, xp, xs, tr), rfl, hpost, by rw [ht]; exact hP9, hD9⟩, hS.F ht⟩) hS.2.2 dX2_does_251
          · -- 191
            obtain ⟨pa, hpa, hea⟩ := vp_in_of (hok.2.1 (Or.inr (Or.inr c_191))) (by omega)
            subst hea
            refine lv_aload_n hx hb dX2_does_194 rfl (lv_at hl 1 rfl) ?_
            refine va_get (D := (dC, dI)) (ci := 2) (v := .ref aSU) (C := RX2) (T := TX2) (N := 10) hx hb hts hinX2 hown hK hP 0 rfl rfl 6 (by decide) k3 (fun _ h9 => h9) rfl dX2_does_195 ?_
            refine lv_iload_n hx hb dX2_does_198 rfl (lv_at hl 0 rfl) ?_
            refine va_iald hx hb hK hP 3 0 rfl rfl (vp_in_nI (by omega) (by omega)) dX2_does_199 ?_
            rw [nI_clamp (n := pa) (by omega)]
            refine lv_if_lt (tgt := 213) hx hb dX2_does_200 (by decide) (fun c_200 => ?_) (fun c_200 => ?_)
            · -- 200
              refine lv_iconst (v := 0) hx hb dX2_does_213 (by decide) ?_
              have hpost : ((0 : Int32), xc, xp, xs) = hp4 (mHap L T kk (nI pa) bb xc xp xs (nI j) U) ∧ TrH tr (mHap L T kk (nI pa) bb xc xp xs (nI j) U) := by
                exact dz_no hT (by unfold mHap; rw [if_neg c_7, if_neg c_37, if_neg c_148, if_neg c_176, if_pos c_191]; unfold mPay; rw [if_pos (jd_neg hT hpa c_200)])
              have hP9 := hP.part (X := [(sm, .inr (2, [.ref aSL, .ref aST, .ref aR, .int xc, .int xp, .int xs, .ref aSU, .int xn, .int xi, .int xl])), (aSL, .inl (cI, 4, .inl L)), (aST, .inl (cI, 4, .inl T)), (aSU, .inl (cI, 6, .inl tr))]) (cx := [(sm, .inr (2, [.ref aSL, .ref aST, .ref aR, .int xc, .int xp, .int xs, .ref aSU, .int xn, .int xi, .int xl])), (aSL, .inl (cI, 4, .inl L)), (aST, .inl (cI, 4, .inl T)), (aSU, .inl (cI, 6, .inl tr))]) [0, 1, 2, 3] rfl
              have hD9 := hD.part (X := [(sm, .inr (2, [.ref aSL, .ref aST, .ref aR, .int xc, .int xp, .int xs, .ref aSU, .int xn, .int xi, .int xl])), (aSL, .inl (cI, 4, .inl L)), (aST, .inl (cI, 4, .inl T)), (aSU, .inl (cI, 6, .inl tr))]) (cx := [(sm, .inr (2, [.ref aSL, .ref aST, .ref aR, .int xc, .int xp, .int xs, .ref aSU, .int xn, .int xi, .int xl])), (aSL, .inl (cI, 4, .inl L)), (aST, .inl (cI, 4, .inl T)), (aSU, .inl (cI, 6, .inl tr))]) [0, 1, 2, 3] (by decide) rfl
              exact W.zret (v := 0) (ty := .boolean) hx hb hr (rfl) (fun t ht hW => ⟨⟨0, (xc, xp, xs, tr), rfl, hpost, by rw [ht]; exact hP9, hD9⟩, hS.F ht⟩) hS.2.2 dX2_does_214
            · -- 200
              refine lv_aload_n hx hb dX2_does_203 rfl (lv_at hl 2 rfl) ?_
              refine lv_iconst (v := 2) hx hb dX2_does_204 (by decide) ?_
              obtain ⟨kx_11, hkx_11⟩ := va_pl_get (X := [(sm, .inr (2, [.ref aSL, .ref aST, .ref aR, .int xc, .int xp, .int xs, .ref aSU, .int xn, .int xi, .int xl])), (aSL, .inl (cI, 4, .inl L)), (aST, .inl (cI, 4, .inl T)), (aSU, .inl (cI, 6, .inl tr))]) (f := rowE cI row) ha0
              refine va_iald hx hb hK hP kx_11 0 hkx_11 rfl (vp_in_nI (n := 2) (by omega) (by omega)) dX2_does_205 ?_
              refine W.eq (g2 := F0 m 206 ls [.int (row a0 2)]) rfl ?_
              rw [he2]
              refine lv_aload_n hx hb dX2_does_206 rfl (lv_at hl 1 rfl) ?_
              refine va_get (D := (dC, dI)) (ci := 2) (v := .int xc) (C := RX2) (T := TX2) (N := 10) hx hb hts hinX2 hown hK hP 0 rfl rfl 3 (by decide) k0 (fun _ h9 => h9) rfl dX2_does_207 ?_
              refine lv_icmp_le (tgt := 215) hx hb dX2_does_210 (by decide) (fun c_210 => ?_) (fun c_210 => ?_)
              · -- 210
                refine lv_aload_n hx hb dX2_does_215 rfl (lv_at hl 1 rfl) ?_
                refine lv_dup hx hb dX2_does_216 rfl ?_
                refine va_get (D := (dC, dI)) (ci := 2) (v := .int xc) (C := RX2) (T := TX2) (N := 10) hx hb hts hinX2 hown hK hP 0 rfl rfl 3 (by decide) k0 (fun _ h9 => h9) rfl dX2_does_217 ?_
                refine lv_aload_n hx hb dX2_does_220 rfl (lv_at hl 2 rfl) ?_
                refine lv_iconst (v := 2) hx hb dX2_does_221 (by decide) ?_
                obtain ⟨kx_12, hkx_12⟩ := va_pl_get (X := [(sm, .inr (2, [.ref aSL, .ref aST, .ref aR, .int xc, .int xp, .int xs, .ref aSU, .int xn, .int xi, .int xl])), (aSL, .inl (cI, 4, .inl L)), (aST, .inl (cI, 4, .inl T)), (aSU, .inl (cI, 6, .inl tr))]) (f := rowE cI row) ha0
                refine va_iald hx hb hK hP kx_12 0 hkx_12 rfl (vp_in_nI (n := 2) (by omega) (by omega)) dX2_does_222 ?_
                refine W.eq (g2 := F0 m 223 ls [.int (row a0 2), .int xc, .ref sm]) rfl ?_
                rw [he2]
                refine lv_isub hx hb dX2_does_223 ?_
                refine lv_topi (fun f_13 ef_13 => ?_)
                refine va_put (D := (dC, dI)) (ci := 2) (v := .int f_13) (ty := .int) (C := RX2) (T := TX2) (N := 10) hx hb hts hinX2 tyX2 tyX2_ok nmX2 hown hK hP hD hS 0 rfl rfl 3 (by decide) k0 (fun _ h9 => h9) rfl (by decide +kernel) rfl rfl (Nat.le_of_ble_eq_true rfl) dX2_does_224 (fun H_14 locs hP hD hS => ?_)
                have hP : va_P (dC, dI) vwCl ([(sm, .inr (2, [.ref aSL, .ref aST, .ref aR, .int f_13, .int xp, .int xs, .ref aSU, .int xn, .int xi, .int xl])), (aSL, .inl (cI, 4, .inl L)), (aST, .inl (cI, 4, .inl T)), (aSU, .inl (cI, 6, .inl tr))] ++ va_pl RL (rowE cI row)) H_14 := hP
                have hD : va_D A ([(sm, .inr (2, [.ref aSL, .ref aST, .ref aR, .int f_13, .int xp, .int xs, .ref aSU, .int xn, .int xi, .int xl])), (aSL, .inl (cI, 4, .inl L)), (aST, .inl (cI, 4, .inl T)), (aSU, .inl (cI, 6, .inl tr))] ++ va_pl RL (rowE cI row)) := hD
                refine lv_aload_n hx hb dX2_does_227 rfl (lv_at hl 1 rfl) ?_
                refine lv_iload_n hx hb dX2_does_228 rfl (lv_at hl 0 rfl) ?_
                refine lv_aload_n hx hb dX2_does_229 rfl (lv_at hl 2 rfl) ?_
                refine lv_iconst (v := 2) hx hb dX2_does_230 (by decide) ?_
                obtain ⟨kx_15, hkx_15⟩ := va_pl_get (X := [(sm, .inr (2, [.ref aSL, .ref aST, .ref aR, .int f_13, .int xp, .int xs, .ref aSU, .int xn, .int xi, .int xl])), (aSL, .inl (cI, 4, .inl L)), (aST, .inl (cI, 4, .inl T)), (aSU, .inl (cI, 6, .inl tr))]) (f := rowE cI row) ha0
                refine va_iald hx hb hK hP kx_15 0 hkx_15 rfl (vp_in_nI (n := 2) (by omega) (by omega)) dX2_does_231 ?_
                refine W.eq (g2 := F0 m 232 ls [.int (row a0 2), .int (nI pa), .ref sm]) rfl ?_
                rw [he2]
                refine lv_iconst (v := 3) hx hb dX2_does_232 (by decide) ?_
                refine lv_idiv hx hb dX2_does_233 (by decide) ?_
                have hPc := hP.sub (ws' := [(sm, .inr (2, [.ref aSL, .ref aST, .ref aR, .int f_13, .int xp, .int xs, .ref aSU, .int xn, .int xi, .int xl])), (aSU, .inl (cI, 6, .inl tr))]) [0, 3] rfl
                have hDc := hD.sub (ws' := [(sm, .inr (2, [.ref aSL, .ref aST, .ref aR, .int f_13, .int xp, .int xs, .ref aSU, .int xn, .int xi, .int xl])), (aSU, .inl (cI, 6, .inl tr))]) [0, 3] (by decide) rfl
                have hKc := hK.sub (tys' := [(cI, .int)]) [0] rfl
                have hFc := va_free (wc := [(sm, .inr (2, [.ref aSL, .ref aST, .ref aR, .int f_13, .int xp, .int xs, .ref aSU, .int xn, .int xi, .int xl])), (aSU, .inl (cI, 6, .inl tr))]) hD hS hA [0, 3] rfl
                refine va_callv (va_runV (As := [.int (nI pa), .int (bb / 3)]) (rest := []) ⟨hx, hb, hml, hown, hts⟩ (c_X2_trusts l dC dI cI sm aSU H_14.size aSL aST aR f_13 xp xs xn xi xl tr pa (bb / 3) (hpa)) (cwV 2 hts gX2_does_X2_trusts rfl rfl rfl (by decide +kernel) ⟨Nat.le_of_ble_eq_true rfl, Nat.le_of_ble_eq_true rfl⟩) (pc_V hKc hPc hDc (ci := 2) (C := RX2) (T := TX2) (N := 10) (q0 := 0) rfl rfl) rfl rfl hl.1 rfl (lv_room (Nat.le_of_ble_eq_true rfl)) dX2_does_234 ⟨Nat.le_of_ble_eq_true rfl, Nat.le_of_ble_eq_true rfl⟩) hS (fun q _ h => hFc q h) hFc (fun u t H_16 locs ht hvm hw hB hz1 hk1 hS => ?_)
                obtain ⟨tr1_16, rfl⟩ : ∃ z, z = u := ⟨_, rfl⟩
                try dsimp only at hw hB
                have hw_16 := hw
                replace hw_16 := hw_16.symm
                subst hw_16
                obtain ⟨hP1, hD1⟩ := hB
                rw [ht] at hP1
                obtain ⟨hP, hD⟩ := va_joinQ (X := [(sm, .inr (2, [.ref aSL, .ref aST, .ref aR, .int f_13, .int xp, .int xs, .ref aSU, .int xn, .int xi, .int xl])), (aSL, .inl (cI, 4, .inl L)), (aST, .inl (cI, 4, .inl T)), (aSU, .inl (cI, 6, .inl tr))]) (cx := [(sm, .inr (2, [.ref aSL, .ref aST, .ref aR, .int f_13, .int xp, .int xs, .ref aSU, .int xn, .int xi, .int xl])), (aSU, .inl (cI, 6, .inl tr))]) (wr := [(aSL, .inl (cI, 4, .inl L)), (aST, .inl (cI, 4, .inl T))]) (w1 := [(sm, .inr (2, [.ref aSL, .ref aST, .ref aR, .int f_13, .int xp, .int xs, .ref aSU, .int xn, .int xi, .int xl])), (aSU, .inl (cI, 6, .inl (upd tr pa (kmax 0 (kmin 100 (tr pa + (bb / 3)))))))]) hP hD [0, 3] [1, 2] rfl rfl (by decide) (by decide) hk1 hFc hP1 hD1
                have hP : va_P (dC, dI) vwCl ([(aSL, .inl (cI, 4, .inl L)), (aST, .inl (cI, 4, .inl T)), (sm, .inr (2, [.ref aSL, .ref aST, .ref aR, .int f_13, .int xp, .int xs, .ref aSU, .int xn, .int xi, .int xl])), (aSU, .inl (cI, 6, .inl (upd tr pa (kmax 0 (kmin 100 (tr pa + (bb / 3)))))))] ++ va_pl RL (rowE cI row)) H_16 := hP
                have hD : va_D A ([(aSL, .inl (cI, 4, .inl L)), (aST, .inl (cI, 4, .inl T)), (sm, .inr (2, [.ref aSL, .ref aST, .ref aR, .int f_13, .int xp, .int xs, .ref aSU, .int xn, .int xi, .int xl])), (aSU, .inl (cI, 6, .inl (upd tr pa (kmax 0 (kmin 100 (tr pa + (bb / 3)))))))] ++ va_pl RL (rowE cI row)) := hD
                have hP := hP.part (X := [(aSL, .inl (cI, 4, .inl L)), (aST, .inl (cI, 4, .inl T)), (sm, .inr (2, [.ref aSL, .ref aST, .ref aR, .int f_13, .int xp, .int xs, .ref aSU, .int xn, .int xi, .int xl])), (aSU, .inl (cI, 6, .inl (upd tr pa (kmax 0 (kmin 100 (tr pa + (bb / 3)))))))]) (cx := [(sm, .inr (2, [.ref aSL, .ref aST, .ref aR, .int f_13, .int xp, .int xs, .ref aSU, .int xn, .int xi, .int xl])), (aSL, .inl (cI, 4, .inl L)), (aST, .inl (cI, 4, .inl T)), (aSU, .inl (cI, 6, .inl (upd tr pa (kmax 0 (kmin 100 (tr pa + (bb / 3)))))))]) [2, 0, 1, 3] rfl
                have hD := hD.part (X := [(aSL, .inl (cI, 4, .inl L)), (aST, .inl (cI, 4, .inl T)), (sm, .inr (2, [.ref aSL, .ref aST, .ref aR, .int f_13, .int xp, .int xs, .ref aSU, .int xn, .int xi, .int xl])), (aSU, .inl (cI, 6, .inl (upd tr pa (kmax 0 (kmin 100 (tr pa + (bb / 3)))))))]) (cx := [(sm, .inr (2, [.ref aSL, .ref aST, .ref aR, .int f_13, .int xp, .int xs, .ref aSU, .int xn, .int xi, .int xl])), (aSL, .inl (cI, 4, .inl L)), (aST, .inl (cI, 4, .inl T)), (aSU, .inl (cI, 6, .inl (upd tr pa (kmax 0 (kmin 100 (tr pa + (bb / 3)))))))]) [2, 0, 1, 3] (by decide) rfl
                refine lv_goto (tgt := 274) hx hb dX2_does_237 (by decide) ?_
                refine lv_iconst (v := 1) hx hb dX2_does_274 (by decide) ?_
                have hpost : ((1 : Int32), f_13, xp, xs) = hp4 (mHap L T kk (nI pa) bb xc xp xs (nI j) U) ∧ TrH (upd tr pa (kmax 0 (kmin 100 (tr pa + (bb / 3))))) (mHap L T kk (nI pa) bb xc xp xs (nI j) U) := by
                  exact dz_yes (by unfold mHap; rw [if_neg c_7, if_neg c_37, if_neg c_148, if_neg c_176, if_pos c_191]; unfold mPay; rw [if_neg (jd_nneg hT hpa c_200), if_pos c_210]; simp only [ef_13]) (TrV_add hT (jd_ltn hT hpa c_200) (bb / 3))
                have hP9 := hP.part (X := [(sm, .inr (2, [.ref aSL, .ref aST, .ref aR, .int f_13, .int xp, .int xs, .ref aSU, .int xn, .int xi, .int xl])), (aSL, .inl (cI, 4, .inl L)), (aST, .inl (cI, 4, .inl T)), (aSU, .inl (cI, 6, .inl (upd tr pa (kmax 0 (kmin 100 (tr pa + (bb / 3)))))))]) (cx := [(sm, .inr (2, [.ref aSL, .ref aST, .ref aR, .int f_13, .int xp, .int xs, .ref aSU, .int xn, .int xi, .int xl])), (aSL, .inl (cI, 4, .inl L)), (aST, .inl (cI, 4, .inl T)), (aSU, .inl (cI, 6, .inl (upd tr pa (kmax 0 (kmin 100 (tr pa + (bb / 3)))))))]) [0, 1, 2, 3] rfl
                have hD9 := hD.part (X := [(sm, .inr (2, [.ref aSL, .ref aST, .ref aR, .int f_13, .int xp, .int xs, .ref aSU, .int xn, .int xi, .int xl])), (aSL, .inl (cI, 4, .inl L)), (aST, .inl (cI, 4, .inl T)), (aSU, .inl (cI, 6, .inl (upd tr pa (kmax 0 (kmin 100 (tr pa + (bb / 3)))))))]) (cx := [(sm, .inr (2, [.ref aSL, .ref aST, .ref aR, .int f_13, .int xp, .int xs, .ref aSU, .int xn, .int xi, .int xl])), (aSL, .inl (cI, 4, .inl L)), (aST, .inl (cI, 4, .inl T)), (aSU, .inl (cI, 6, .inl (upd tr pa (kmax 0 (kmin 100 (tr pa + (bb / 3)))))))]) [0, 1, 2, 3] (by decide) rfl
                exact W.zret (v := 1) (ty := .boolean) hx hb hr (rfl) (fun t ht hW => ⟨⟨1, (f_13, xp, xs, (upd tr pa (kmax 0 (kmin 100 (tr pa + (bb / 3)))))), rfl, hpost, by rw [ht]; exact hP9, hD9⟩, hS.F ht⟩) hS.2.2 dX2_does_275
              · -- 210
                refine lv_iconst (v := 0) hx hb dX2_does_213 (by decide) ?_
                have hpost : ((0 : Int32), xc, xp, xs) = hp4 (mHap L T kk (nI pa) bb xc xp xs (nI j) U) ∧ TrH tr (mHap L T kk (nI pa) bb xc xp xs (nI j) U) := by
                  exact dz_no hT (by unfold mHap; rw [if_neg c_7, if_neg c_37, if_neg c_148, if_neg c_176, if_pos c_191]; unfold mPay; rw [if_neg c_210]; split <;> rfl)
                have hP9 := hP.part (X := [(sm, .inr (2, [.ref aSL, .ref aST, .ref aR, .int xc, .int xp, .int xs, .ref aSU, .int xn, .int xi, .int xl])), (aSL, .inl (cI, 4, .inl L)), (aST, .inl (cI, 4, .inl T)), (aSU, .inl (cI, 6, .inl tr))]) (cx := [(sm, .inr (2, [.ref aSL, .ref aST, .ref aR, .int xc, .int xp, .int xs, .ref aSU, .int xn, .int xi, .int xl])), (aSL, .inl (cI, 4, .inl L)), (aST, .inl (cI, 4, .inl T)), (aSU, .inl (cI, 6, .inl tr))]) [0, 1, 2, 3] rfl
                have hD9 := hD.part (X := [(sm, .inr (2, [.ref aSL, .ref aST, .ref aR, .int xc, .int xp, .int xs, .ref aSU, .int xn, .int xi, .int xl])), (aSL, .inl (cI, 4, .inl L)), (aST, .inl (cI, 4, .inl T)), (aSU, .inl (cI, 6, .inl tr))]) (cx := [(sm, .inr (2, [.ref aSL, .ref aST, .ref aR, .int xc, .int xp, .int xs, .ref aSU, .int xn, .int xi, .int xl])), (aSL, .inl (cI, 4, .inl L)), (aST, .inl (cI, 4, .inl T)), (aSU, .inl (cI, 6, .inl tr))]) [0, 1, 2, 3] (by decide) rfl
                exact W.zret (v := 0) (ty := .boolean) hx hb hr (rfl) (fun t ht hW => ⟨⟨0, (xc, xp, xs, tr), rfl, hpost, by rw [ht]; exact hP9, hD9⟩, hS.F ht⟩) hS.2.2 dX2_does_214
        · -- 176
          refine lv_aload_n hx hb dX2_does_179 rfl (lv_at hl 1 rfl) ?_
          refine lv_iload_n hx hb dX2_does_180 rfl (lv_at hl 0 rfl) ?_
          refine va_put (D := (dC, dI)) (ci := 2) (v := .int aa) (ty := .int) (C := RX2) (T := TX2) (N := 10) hx hb hts hinX2 tyX2 tyX2_ok nmX2 hown hK hP hD hS 0 rfl rfl 5 (by decide) k4 (fun _ h9 => h9) rfl (by decide +kernel) rfl rfl (Nat.le_of_ble_eq_true rfl) dX2_does_181 (fun H_17 locs hP hD hS => ?_)
          have hP : va_P (dC, dI) vwCl ([(sm, .inr (2, [.ref aSL, .ref aST, .ref aR, .int xc, .int xp, .int aa, .ref aSU, .int xn, .int xi, .int xl])), (aSL, .inl (cI, 4, .inl L)), (aST, .inl (cI, 4, .inl T)), (aSU, .inl (cI, 6, .inl tr))] ++ va_pl RL (rowE cI row)) H_17 := hP
          have hD : va_D A ([(sm, .inr (2, [.ref aSL, .ref aST, .ref aR, .int xc, .int xp, .int aa, .ref aSU, .int xn, .int xi, .int xl])), (aSL, .inl (cI, 4, .inl L)), (aST, .inl (cI, 4, .inl T)), (aSU, .inl (cI, 6, .inl tr))] ++ va_pl RL (rowE cI row)) := hD
          refine lv_goto (tgt := 274) hx hb dX2_does_184 (by decide) ?_
          refine lv_iconst (v := 1) hx hb dX2_does_274 (by decide) ?_
          have hpost : ((1 : Int32), xc, xp, aa) = hp4 (mHap L T kk aa bb xc xp xs (nI j) U) ∧ TrH tr (mHap L T kk aa bb xc xp xs (nI j) U) := by
            exact dz_yes (by unfold mHap; rw [if_neg c_7, if_neg c_37, if_neg c_148, if_pos c_176]) hT
          have hP9 := hP.part (X := [(sm, .inr (2, [.ref aSL, .ref aST, .ref aR, .int xc, .int xp, .int aa, .ref aSU, .int xn, .int xi, .int xl])), (aSL, .inl (cI, 4, .inl L)), (aST, .inl (cI, 4, .inl T)), (aSU, .inl (cI, 6, .inl tr))]) (cx := [(sm, .inr (2, [.ref aSL, .ref aST, .ref aR, .int xc, .int xp, .int aa, .ref aSU, .int xn, .int xi, .int xl])), (aSL, .inl (cI, 4, .inl L)), (aST, .inl (cI, 4, .inl T)), (aSU, .inl (cI, 6, .inl tr))]) [0, 1, 2, 3] rfl
          have hD9 := hD.part (X := [(sm, .inr (2, [.ref aSL, .ref aST, .ref aR, .int xc, .int xp, .int aa, .ref aSU, .int xn, .int xi, .int xl])), (aSL, .inl (cI, 4, .inl L)), (aST, .inl (cI, 4, .inl T)), (aSU, .inl (cI, 6, .inl tr))]) (cx := [(sm, .inr (2, [.ref aSL, .ref aST, .ref aR, .int xc, .int xp, .int aa, .ref aSU, .int xn, .int xi, .int xl])), (aSL, .inl (cI, 4, .inl L)), (aST, .inl (cI, 4, .inl T)), (aSU, .inl (cI, 6, .inl tr))]) [0, 1, 2, 3] (by decide) rfl
          exact W.zret (v := 1) (ty := .boolean) hx hb hr (rfl) (fun t ht hW => ⟨⟨1, (xc, xp, aa, tr), rfl, hpost, by rw [ht]; exact hP9, hD9⟩, hS.F ht⟩) hS.2.2 dX2_does_275
      · -- 148
        obtain ⟨pa, hpa, hea⟩ := vp_in_of (hok.2.1 (Or.inr (Or.inl c_148))) (by omega)
        subst hea
        refine lv_aload_n hx hb dX2_does_151 rfl (lv_at hl 1 rfl) ?_
        refine va_get (D := (dC, dI)) (ci := 2) (v := .ref aSU) (C := RX2) (T := TX2) (N := 10) hx hb hts hinX2 hown hK hP 0 rfl rfl 6 (by decide) k3 (fun _ h9 => h9) rfl dX2_does_152 ?_
        refine lv_iload_n hx hb dX2_does_155 rfl (lv_at hl 0 rfl) ?_
        refine va_iald hx hb hK hP 3 0 rfl rfl (vp_in_nI (by omega) (by omega)) dX2_does_156 ?_
        rw [nI_clamp (n := pa) (by omega)]
        refine lv_if_ge (tgt := 162) hx hb dX2_does_157 (by decide) (fun c_157 => ?_) (fun c_157 => ?_)
        · -- 157
          refine lv_aload_n hx hb dX2_does_162 rfl (lv_at hl 1 rfl) ?_
          refine lv_iload_n hx hb dX2_does_163 rfl (lv_at hl 0 rfl) ?_
          refine lv_bipush (v := 6) hx hb dX2_does_164 (by decide) ?_
          have hPc := hP.sub (ws' := [(sm, .inr (2, [.ref aSL, .ref aST, .ref aR, .int xc, .int xp, .int xs, .ref aSU, .int xn, .int xi, .int xl])), (aSU, .inl (cI, 6, .inl tr))]) [0, 3] rfl
          have hDc := hD.sub (ws' := [(sm, .inr (2, [.ref aSL, .ref aST, .ref aR, .int xc, .int xp, .int xs, .ref aSU, .int xn, .int xi, .int xl])), (aSU, .inl (cI, 6, .inl tr))]) [0, 3] (by decide) rfl
          have hKc := hK.sub (tys' := [(cI, .int)]) [0] rfl
          have hFc := va_free (wc := [(sm, .inr (2, [.ref aSL, .ref aST, .ref aR, .int xc, .int xp, .int xs, .ref aSU, .int xn, .int xi, .int xl])), (aSU, .inl (cI, 6, .inl tr))]) hD hS hA [0, 3] rfl
          refine va_callv (va_runV (As := [.int (nI pa), .int 6]) (rest := []) ⟨hx, hb, hml, hown, hts⟩ (c_X2_trusts l dC dI cI sm aSU s.heap.size aSL aST aR xc xp xs xn xi xl tr pa 6 (hpa)) (cwV 2 hts gX2_does_X2_trusts rfl rfl rfl (by decide +kernel) ⟨Nat.le_of_ble_eq_true rfl, Nat.le_of_ble_eq_true rfl⟩) (pc_V hKc hPc hDc (ci := 2) (C := RX2) (T := TX2) (N := 10) (q0 := 0) rfl rfl) rfl rfl hl.1 rfl (lv_room (Nat.le_of_ble_eq_true rfl)) dX2_does_166 ⟨Nat.le_of_ble_eq_true rfl, Nat.le_of_ble_eq_true rfl⟩) hS (fun q _ h => hFc q h) hFc (fun u t H_18 locs ht hvm hw hB hz1 hk1 hS => ?_)
          obtain ⟨tr1_18, rfl⟩ : ∃ z, z = u := ⟨_, rfl⟩
          try dsimp only at hw hB
          have hw_18 := hw
          replace hw_18 := hw_18.symm
          subst hw_18
          obtain ⟨hP1, hD1⟩ := hB
          rw [ht] at hP1
          obtain ⟨hP, hD⟩ := va_joinQ (X := [(sm, .inr (2, [.ref aSL, .ref aST, .ref aR, .int xc, .int xp, .int xs, .ref aSU, .int xn, .int xi, .int xl])), (aSL, .inl (cI, 4, .inl L)), (aST, .inl (cI, 4, .inl T)), (aSU, .inl (cI, 6, .inl tr))]) (cx := [(sm, .inr (2, [.ref aSL, .ref aST, .ref aR, .int xc, .int xp, .int xs, .ref aSU, .int xn, .int xi, .int xl])), (aSU, .inl (cI, 6, .inl tr))]) (wr := [(aSL, .inl (cI, 4, .inl L)), (aST, .inl (cI, 4, .inl T))]) (w1 := [(sm, .inr (2, [.ref aSL, .ref aST, .ref aR, .int xc, .int xp, .int xs, .ref aSU, .int xn, .int xi, .int xl])), (aSU, .inl (cI, 6, .inl (upd tr pa (kmax 0 (kmin 100 (tr pa + 6))))))]) hP hD [0, 3] [1, 2] rfl rfl (by decide) (by decide) hk1 hFc hP1 hD1
          have hP : va_P (dC, dI) vwCl ([(aSL, .inl (cI, 4, .inl L)), (aST, .inl (cI, 4, .inl T)), (sm, .inr (2, [.ref aSL, .ref aST, .ref aR, .int xc, .int xp, .int xs, .ref aSU, .int xn, .int xi, .int xl])), (aSU, .inl (cI, 6, .inl (upd tr pa (kmax 0 (kmin 100 (tr pa + 6))))))] ++ va_pl RL (rowE cI row)) H_18 := hP
          have hD : va_D A ([(aSL, .inl (cI, 4, .inl L)), (aST, .inl (cI, 4, .inl T)), (sm, .inr (2, [.ref aSL, .ref aST, .ref aR, .int xc, .int xp, .int xs, .ref aSU, .int xn, .int xi, .int xl])), (aSU, .inl (cI, 6, .inl (upd tr pa (kmax 0 (kmin 100 (tr pa + 6))))))] ++ va_pl RL (rowE cI row)) := hD
          have hP := hP.part (X := [(aSL, .inl (cI, 4, .inl L)), (aST, .inl (cI, 4, .inl T)), (sm, .inr (2, [.ref aSL, .ref aST, .ref aR, .int xc, .int xp, .int xs, .ref aSU, .int xn, .int xi, .int xl])), (aSU, .inl (cI, 6, .inl (upd tr pa (kmax 0 (kmin 100 (tr pa + 6))))))]) (cx := [(sm, .inr (2, [.ref aSL, .ref aST, .ref aR, .int xc, .int xp, .int xs, .ref aSU, .int xn, .int xi, .int xl])), (aSL, .inl (cI, 4, .inl L)), (aST, .inl (cI, 4, .inl T)), (aSU, .inl (cI, 6, .inl (upd tr pa (kmax 0 (kmin 100 (tr pa + 6))))))]) [2, 0, 1, 3] rfl
          have hD := hD.part (X := [(aSL, .inl (cI, 4, .inl L)), (aST, .inl (cI, 4, .inl T)), (sm, .inr (2, [.ref aSL, .ref aST, .ref aR, .int xc, .int xp, .int xs, .ref aSU, .int xn, .int xi, .int xl])), (aSU, .inl (cI, 6, .inl (upd tr pa (kmax 0 (kmin 100 (tr pa + 6))))))]) (cx := [(sm, .inr (2, [.ref aSL, .ref aST, .ref aR, .int xc, .int xp, .int xs, .ref aSU, .int xn, .int xi, .int xl])), (aSL, .inl (cI, 4, .inl L)), (aST, .inl (cI, 4, .inl T)), (aSU, .inl (cI, 6, .inl (upd tr pa (kmax 0 (kmin 100 (tr pa + 6))))))]) [2, 0, 1, 3] (by decide) rfl
          refine lv_goto (tgt := 274) hx hb dX2_does_169 (by decide) ?_
          refine lv_iconst (v := 1) hx hb dX2_does_274 (by decide) ?_
          have hpost : ((1 : Int32), xc, xp, xs) = hp4 (mHap L T kk (nI pa) bb xc xp xs (nI j) U) ∧ TrH (upd tr pa (kmax 0 (kmin 100 (tr pa + 6)))) (mHap L T kk (nI pa) bb xc xp xs (nI j) U) := by
            exact dz_yes (by unfold mHap; rw [if_neg c_7, if_neg c_37, if_pos c_148]; unfold mRest; rw [if_neg (jd_yes hT hpa c_157)]) (TrV_add hT (jd_lt hT hpa c_157) 6)
          have hP9 := hP.part (X := [(sm, .inr (2, [.ref aSL, .ref aST, .ref aR, .int xc, .int xp, .int xs, .ref aSU, .int xn, .int xi, .int xl])), (aSL, .inl (cI, 4, .inl L)), (aST, .inl (cI, 4, .inl T)), (aSU, .inl (cI, 6, .inl (upd tr pa (kmax 0 (kmin 100 (tr pa + 6))))))]) (cx := [(sm, .inr (2, [.ref aSL, .ref aST, .ref aR, .int xc, .int xp, .int xs, .ref aSU, .int xn, .int xi, .int xl])), (aSL, .inl (cI, 4, .inl L)), (aST, .inl (cI, 4, .inl T)), (aSU, .inl (cI, 6, .inl (upd tr pa (kmax 0 (kmin 100 (tr pa + 6))))))]) [0, 1, 2, 3] rfl
          have hD9 := hD.part (X := [(sm, .inr (2, [.ref aSL, .ref aST, .ref aR, .int xc, .int xp, .int xs, .ref aSU, .int xn, .int xi, .int xl])), (aSL, .inl (cI, 4, .inl L)), (aST, .inl (cI, 4, .inl T)), (aSU, .inl (cI, 6, .inl (upd tr pa (kmax 0 (kmin 100 (tr pa + 6))))))]) (cx := [(sm, .inr (2, [.ref aSL, .ref aST, .ref aR, .int xc, .int xp, .int xs, .ref aSU, .int xn, .int xi, .int xl])), (aSL, .inl (cI, 4, .inl L)), (aST, .inl (cI, 4, .inl T)), (aSU, .inl (cI, 6, .inl (upd tr pa (kmax 0 (kmin 100 (tr pa + 6))))))]) [0, 1, 2, 3] (by decide) rfl
          exact W.zret (v := 1) (ty := .boolean) hx hb hr (rfl) (fun t ht hW => ⟨⟨1, (xc, xp, xs, (upd tr pa (kmax 0 (kmin 100 (tr pa + 6))))), rfl, hpost, by rw [ht]; exact hP9, hD9⟩, hS.F ht⟩) hS.2.2 dX2_does_275
        · -- 157
          refine lv_iconst (v := 0) hx hb dX2_does_160 (by decide) ?_
          have hpost : ((0 : Int32), xc, xp, xs) = hp4 (mHap L T kk (nI pa) bb xc xp xs (nI j) U) ∧ TrH tr (mHap L T kk (nI pa) bb xc xp xs (nI j) U) := by
            exact dz_no hT (by unfold mHap; rw [if_neg c_7, if_neg c_37, if_pos c_148]; rw [mRest_fst]; exact jd_no hT hpa c_157)
          have hP9 := hP.part (X := [(sm, .inr (2, [.ref aSL, .ref aST, .ref aR, .int xc, .int xp, .int xs, .ref aSU, .int xn, .int xi, .int xl])), (aSL, .inl (cI, 4, .inl L)), (aST, .inl (cI, 4, .inl T)), (aSU, .inl (cI, 6, .inl tr))]) (cx := [(sm, .inr (2, [.ref aSL, .ref aST, .ref aR, .int xc, .int xp, .int xs, .ref aSU, .int xn, .int xi, .int xl])), (aSL, .inl (cI, 4, .inl L)), (aST, .inl (cI, 4, .inl T)), (aSU, .inl (cI, 6, .inl tr))]) [0, 1, 2, 3] rfl
          have hD9 := hD.part (X := [(sm, .inr (2, [.ref aSL, .ref aST, .ref aR, .int xc, .int xp, .int xs, .ref aSU, .int xn, .int xi, .int xl])), (aSL, .inl (cI, 4, .inl L)), (aST, .inl (cI, 4, .inl T)), (aSU, .inl (cI, 6, .inl tr))]) (cx := [(sm, .inr (2, [.ref aSL, .ref aST, .ref aR, .int xc, .int xp, .int xs, .ref aSU, .int xn, .int xi, .int xl])), (aSL, .inl (cI, 4, .inl L)), (aST, .inl (cI, 4, .inl T)), (aSU, .inl (cI, 6, .inl tr))]) [0, 1, 2, 3] (by decide) rfl
          exact W.zret (v := 0) (ty := .boolean) hx hb hr (rfl) (fun t ht hW => ⟨⟨0, (xc, xp, xs, tr), rfl, hpost, by rw [ht]; exact hP9, hD9⟩, hS.F ht⟩) hS.2.2 dX2_does_161
    · -- 37
      obtain ⟨pa, hpa, hea⟩ := vp_in_of (hok.2.1 (Or.inl c_37)) (by omega)
      subst hea
      refine lv_aload_n hx hb dX2_does_40 rfl (lv_at hl 1 rfl) ?_
      refine lv_iload_n hx hb dX2_does_41 rfl (lv_at hl 0 rfl) ?_
      have hPc := hP.sub (ws' := [(sm, .inr (2, [.ref aSL, .ref aST, .ref aR, .int xc, .int xp, .int xs, .ref aSU, .int xn, .int xi, .int xl])), (aST, .inl (cI, 4, .inl T)), (aSU, .inl (cI, 6, .inl tr))]) [0, 2, 3] rfl
      have hDc := hD.sub (ws' := [(sm, .inr (2, [.ref aSL, .ref aST, .ref aR, .int xc, .int xp, .int xs, .ref aSU, .int xn, .int xi, .int xl])), (aST, .inl (cI, 4, .inl T)), (aSU, .inl (cI, 6, .inl tr))]) [0, 2, 3] (by decide) rfl
      have hKc := hK.sub (tys' := [(cI, .int)]) [0] rfl
      have hFc := va_free (wc := [(sm, .inr (2, [.ref aSL, .ref aST, .ref aR, .int xc, .int xp, .int xs, .ref aSU, .int xn, .int xi, .int xl])), (aST, .inl (cI, 4, .inl T)), (aSU, .inl (cI, 6, .inl tr))]) hD hS hA [0, 2, 3] rfl
      refine va_calli (va_runV (As := [.int (nI pa)]) (rest := []) ⟨hx, hb, hml, hown, hts⟩ (c_X2_dares l dC dI cI sm aST aSU s.heap.size aSL aR xc xp xs xn xi xl L T tr pa j U (hpa) (hst) (hT) (hoL)) (cwV 1 hts gX2_does_X2_dares rfl rfl rfl (by decide +kernel) ⟨Nat.le_of_ble_eq_true rfl, Nat.le_of_ble_eq_true rfl⟩) (pc_V hKc hPc hDc (ci := 2) (C := RX2) (T := TX2) (N := 10) (q0 := 0) rfl rfl) rfl rfl hl.1 rfl (lv_room (Nat.le_of_ble_eq_true rfl)) dX2_does_42 ⟨Nat.le_of_ble_eq_true rfl, Nat.le_of_ble_eq_true rfl⟩) hS (fun q _ h => hFc q h) hFc (fun r_19 u t H_19 locs ht hvm hw hB hz1 hk1 hS => ?_)
      try dsimp only at hw hB
      have hw_19 := hw
      replace hw_19 := hw_19.symm
      subst hw_19
      obtain ⟨hP1, hD1⟩ := hB
      rw [ht] at hP1
      obtain ⟨hP, hD⟩ := va_joinQ (X := [(sm, .inr (2, [.ref aSL, .ref aST, .ref aR, .int xc, .int xp, .int xs, .ref aSU, .int xn, .int xi, .int xl])), (aSL, .inl (cI, 4, .inl L)), (aST, .inl (cI, 4, .inl T)), (aSU, .inl (cI, 6, .inl tr))]) (cx := [(sm, .inr (2, [.ref aSL, .ref aST, .ref aR, .int xc, .int xp, .int xs, .ref aSU, .int xn, .int xi, .int xl])), (aST, .inl (cI, 4, .inl T)), (aSU, .inl (cI, 6, .inl tr))]) (wr := [(aSL, .inl (cI, 4, .inl L))]) (w1 := [(sm, .inr (2, [.ref aSL, .ref aST, .ref aR, .int xc, .int xp, .int xs, .ref aSU, .int xn, .int xi, .int xl])), (aST, .inl (cI, 4, .inl T)), (aSU, .inl (cI, 6, .inl tr))]) hP hD [0, 2, 3] [1] rfl rfl (by decide) (by decide) hk1 hFc hP1 hD1
      have hP : va_P (dC, dI) vwCl ([(aSL, .inl (cI, 4, .inl L)), (sm, .inr (2, [.ref aSL, .ref aST, .ref aR, .int xc, .int xp, .int xs, .ref aSU, .int xn, .int xi, .int xl])), (aST, .inl (cI, 4, .inl T)), (aSU, .inl (cI, 6, .inl tr))] ++ va_pl RL (rowE cI row)) H_19 := hP
      have hD : va_D A ([(aSL, .inl (cI, 4, .inl L)), (sm, .inr (2, [.ref aSL, .ref aST, .ref aR, .int xc, .int xp, .int xs, .ref aSU, .int xn, .int xi, .int xl])), (aST, .inl (cI, 4, .inl T)), (aSU, .inl (cI, 6, .inl tr))] ++ va_pl RL (rowE cI row)) := hD
      have hP := hP.part (X := [(aSL, .inl (cI, 4, .inl L)), (sm, .inr (2, [.ref aSL, .ref aST, .ref aR, .int xc, .int xp, .int xs, .ref aSU, .int xn, .int xi, .int xl])), (aST, .inl (cI, 4, .inl T)), (aSU, .inl (cI, 6, .inl tr))]) (cx := [(sm, .inr (2, [.ref aSL, .ref aST, .ref aR, .int xc, .int xp, .int xs, .ref aSU, .int xn, .int xi, .int xl])), (aSL, .inl (cI, 4, .inl L)), (aST, .inl (cI, 4, .inl T)), (aSU, .inl (cI, 6, .inl tr))]) [1, 0, 2, 3] rfl
      have hD := hD.part (X := [(aSL, .inl (cI, 4, .inl L)), (sm, .inr (2, [.ref aSL, .ref aST, .ref aR, .int xc, .int xp, .int xs, .ref aSU, .int xn, .int xi, .int xl])), (aST, .inl (cI, 4, .inl T)), (aSU, .inl (cI, 6, .inl tr))]) (cx := [(sm, .inr (2, [.ref aSL, .ref aST, .ref aR, .int xc, .int xp, .int xs, .ref aSU, .int xn, .int xi, .int xl])), (aSL, .inl (cI, 4, .inl L)), (aST, .inl (cI, 4, .inl T)), (aSU, .inl (cI, 6, .inl tr))]) [1, 0, 2, 3] (by decide) rfl
      refine lv_if_ne (tgt := 50) hx hb dX2_does_45 (by decide) (fun c_45 => ?_) (fun c_45 => ?_)
      · -- 45
        refine lv_aload_n hx hb dX2_does_50 rfl (lv_at hl 1 rfl) ?_
        refine lv_dup hx hb dX2_does_51 rfl ?_
        refine va_get (D := (dC, dI)) (ci := 2) (v := .int xc) (C := RX2) (T := TX2) (N := 10) hx hb hts hinX2 hown hK hP 0 rfl rfl 3 (by decide) k0 (fun _ h9 => h9) rfl dX2_does_52 ?_
        refine lv_aload_n hx hb dX2_does_55 rfl (lv_at hl 1 rfl) ?_
        refine lv_aload_n hx hb dX2_does_56 rfl (lv_at hl 2 rfl) ?_
        refine lv_iconst (v := 2) hx hb dX2_does_57 (by decide) ?_
        obtain ⟨kx_20, hkx_20⟩ := va_pl_get (X := [(sm, .inr (2, [.ref aSL, .ref aST, .ref aR, .int xc, .int xp, .int xs, .ref aSU, .int xn, .int xi, .int xl])), (aSL, .inl (cI, 4, .inl L)), (aST, .inl (cI, 4, .inl T)), (aSU, .inl (cI, 6, .inl tr))]) (f := rowE cI row) ha0
        refine va_iald hx hb hK hP kx_20 0 hkx_20 rfl (vp_in_nI (n := 2) (by omega) (by omega)) dX2_does_58 ?_
        refine W.eq (g2 := F0 m 59 ls [.int (row a0 2), .ref sm, .int xc, .ref sm]) rfl ?_
        rw [he2]
        have hPc := hP.sub (ws' := [(sm, .inr (2, [.ref aSL, .ref aST, .ref aR, .int xc, .int xp, .int xs, .ref aSU, .int xn, .int xi, .int xl])), (aSL, .inl (cI, 4, .inl L))]) [0, 1] rfl
        have hDc := hD.sub (ws' := [(sm, .inr (2, [.ref aSL, .ref aST, .ref aR, .int xc, .int xp, .int xs, .ref aSU, .int xn, .int xi, .int xl])), (aSL, .inl (cI, 4, .inl L))]) [0, 1] (by decide) rfl
        have hKc := hK.sub (tys' := [(cI, .int)]) [0] rfl
        have hFc := va_free (wc := [(sm, .inr (2, [.ref aSL, .ref aST, .ref aR, .int xc, .int xp, .int xs, .ref aSU, .int xn, .int xi, .int xl])), (aSL, .inl (cI, 4, .inl L))]) hD hS hA [0, 1] rfl
        refine va_calli (va_runV (As := [.int bb]) (rest := [.int xc, .ref sm]) ⟨hx, hb, hml, hown, hts⟩ (c_X2_brings l dC dI cI sm aSL H_19.size aST aR xc xp xs (.ref aSU) xn xi xl L bb (hst) (hok.2.2.1 c_37)) (cwV 1 hts gX2_does_X2_brings rfl rfl rfl (by decide +kernel) ⟨Nat.le_of_ble_eq_true rfl, Nat.le_of_ble_eq_true rfl⟩) (pc_V hKc hPc hDc (ci := 2) (C := RX2) (T := TX2) (N := 10) (q0 := 0) rfl rfl) rfl rfl hl.1 rfl (lv_room (Nat.le_of_ble_eq_true rfl)) dX2_does_59 ⟨Nat.le_of_ble_eq_true rfl, Nat.le_of_ble_eq_true rfl⟩) hS (fun q _ h => hFc q h) hFc (fun r_21 u t H_21 locs ht hvm hw hB hz1 hk1 hS => ?_)
        try dsimp only at hw hB
        have hw_21 := hw
        replace hw_21 := hw_21.symm
        subst hw_21
        obtain ⟨hP1, hD1⟩ := hB
        rw [ht] at hP1
        obtain ⟨hP, hD⟩ := va_joinQ (X := [(sm, .inr (2, [.ref aSL, .ref aST, .ref aR, .int xc, .int xp, .int xs, .ref aSU, .int xn, .int xi, .int xl])), (aSL, .inl (cI, 4, .inl L)), (aST, .inl (cI, 4, .inl T)), (aSU, .inl (cI, 6, .inl tr))]) (cx := [(sm, .inr (2, [.ref aSL, .ref aST, .ref aR, .int xc, .int xp, .int xs, .ref aSU, .int xn, .int xi, .int xl])), (aSL, .inl (cI, 4, .inl L))]) (wr := [(aST, .inl (cI, 4, .inl T)), (aSU, .inl (cI, 6, .inl tr))]) (w1 := [(sm, .inr (2, [.ref aSL, .ref aST, .ref aR, .int xc, .int xp, .int xs, .ref aSU, .int xn, .int xi, .int xl])), (aSL, .inl (cI, 4, .inl L))]) hP hD [0, 1] [2, 3] rfl rfl (by decide) (by decide) hk1 hFc hP1 hD1
        have hP : va_P (dC, dI) vwCl ([(aST, .inl (cI, 4, .inl T)), (aSU, .inl (cI, 6, .inl tr)), (sm, .inr (2, [.ref aSL, .ref aST, .ref aR, .int xc, .int xp, .int xs, .ref aSU, .int xn, .int xi, .int xl])), (aSL, .inl (cI, 4, .inl L))] ++ va_pl RL (rowE cI row)) H_21 := hP
        have hD : va_D A ([(aST, .inl (cI, 4, .inl T)), (aSU, .inl (cI, 6, .inl tr)), (sm, .inr (2, [.ref aSL, .ref aST, .ref aR, .int xc, .int xp, .int xs, .ref aSU, .int xn, .int xi, .int xl])), (aSL, .inl (cI, 4, .inl L))] ++ va_pl RL (rowE cI row)) := hD
        have hP := hP.part (X := [(aST, .inl (cI, 4, .inl T)), (aSU, .inl (cI, 6, .inl tr)), (sm, .inr (2, [.ref aSL, .ref aST, .ref aR, .int xc, .int xp, .int xs, .ref aSU, .int xn, .int xi, .int xl])), (aSL, .inl (cI, 4, .inl L))]) (cx := [(sm, .inr (2, [.ref aSL, .ref aST, .ref aR, .int xc, .int xp, .int xs, .ref aSU, .int xn, .int xi, .int xl])), (aSL, .inl (cI, 4, .inl L)), (aST, .inl (cI, 4, .inl T)), (aSU, .inl (cI, 6, .inl tr))]) [2, 3, 0, 1] rfl
        have hD := hD.part (X := [(aST, .inl (cI, 4, .inl T)), (aSU, .inl (cI, 6, .inl tr)), (sm, .inr (2, [.ref aSL, .ref aST, .ref aR, .int xc, .int xp, .int xs, .ref aSU, .int xn, .int xi, .int xl])), (aSL, .inl (cI, 4, .inl L))]) (cx := [(sm, .inr (2, [.ref aSL, .ref aST, .ref aR, .int xc, .int xp, .int xs, .ref aSU, .int xn, .int xi, .int xl])), (aSL, .inl (cI, 4, .inl L)), (aST, .inl (cI, 4, .inl T)), (aSU, .inl (cI, 6, .inl tr))]) [2, 3, 0, 1] (by decide) rfl
        refine lv_iadd hx hb dX2_does_62 ?_
        refine lv_topi (fun f_22 ef_22 => ?_)
        refine va_put (D := (dC, dI)) (ci := 2) (v := .int f_22) (ty := .int) (C := RX2) (T := TX2) (N := 10) hx hb hts hinX2 tyX2 tyX2_ok nmX2 hown hK hP hD hS 0 rfl rfl 3 (by decide) k0 (fun _ h9 => h9) rfl (by decide +kernel) rfl rfl (Nat.le_of_ble_eq_true rfl) dX2_does_63 (fun H_23 locs hP hD hS => ?_)
        have hP : va_P (dC, dI) vwCl ([(sm, .inr (2, [.ref aSL, .ref aST, .ref aR, .int f_22, .int xp, .int xs, .ref aSU, .int xn, .int xi, .int xl])), (aSL, .inl (cI, 4, .inl L)), (aST, .inl (cI, 4, .inl T)), (aSU, .inl (cI, 6, .inl tr))] ++ va_pl RL (rowE cI row)) H_23 := hP
        have hD : va_D A ([(sm, .inr (2, [.ref aSL, .ref aST, .ref aR, .int f_22, .int xp, .int xs, .ref aSU, .int xn, .int xi, .int xl])), (aSL, .inl (cI, 4, .inl L)), (aST, .inl (cI, 4, .inl T)), (aSU, .inl (cI, 6, .inl tr))] ++ va_pl RL (rowE cI row)) := hD
        refine lv_aload_n hx hb dX2_does_66 rfl (lv_at hl 2 rfl) ?_
        refine lv_iconst (v := 2) hx hb dX2_does_67 (by decide) ?_
        obtain ⟨kx_24, hkx_24⟩ := va_pl_get (X := [(sm, .inr (2, [.ref aSL, .ref aST, .ref aR, .int f_22, .int xp, .int xs, .ref aSU, .int xn, .int xi, .int xl])), (aSL, .inl (cI, 4, .inl L)), (aST, .inl (cI, 4, .inl T)), (aSU, .inl (cI, 6, .inl tr))]) (f := rowE cI row) ha0
        refine va_iald hx hb hK hP kx_24 0 hkx_24 rfl (vp_in_nI (n := 2) (by omega) (by omega)) dX2_does_68 ?_
        refine W.eq (g2 := F0 m 69 ls [.int (row a0 2)]) rfl ?_
        rw [he2]
        refine lv_if_ne (tgt := 111) hx hb dX2_does_69 (by decide) (fun c_69 => ?_) (fun c_69 => ?_)
        · -- 69
          refine lv_aload_n hx hb dX2_does_111 rfl (lv_at hl 1 rfl) ?_
          refine lv_iload_n hx hb dX2_does_112 rfl (lv_at hl 0 rfl) ?_
          refine lv_aload_n hx hb dX2_does_113 rfl (lv_at hl 2 rfl) ?_
          refine lv_iconst (v := 2) hx hb dX2_does_114 (by decide) ?_
          obtain ⟨kx_25, hkx_25⟩ := va_pl_get (X := [(sm, .inr (2, [.ref aSL, .ref aST, .ref aR, .int f_22, .int xp, .int xs, .ref aSU, .int xn, .int xi, .int xl])), (aSL, .inl (cI, 4, .inl L)), (aST, .inl (cI, 4, .inl T)), (aSU, .inl (cI, 6, .inl tr))]) (f := rowE cI row) ha0
          refine va_iald hx hb hK hP kx_25 0 hkx_25 rfl (vp_in_nI (n := 2) (by omega) (by omega)) dX2_does_115 ?_
          refine W.eq (g2 := F0 m 116 ls [.int (row a0 2), .int (nI pa), .ref sm]) rfl ?_
          rw [he2]
          refine lv_iconst (v := 4) hx hb dX2_does_116 (by decide) ?_
          refine lv_icmp_ge (tgt := 125) hx hb dX2_does_117 (by decide) (fun c_117 => ?_) (fun c_117 => ?_)
          · -- 117
            refine lv_aload_n hx hb dX2_does_125 rfl (lv_at hl 2 rfl) ?_
            refine lv_iconst (v := 2) hx hb dX2_does_126 (by decide) ?_
            obtain ⟨kx_26, hkx_26⟩ := va_pl_get (X := [(sm, .inr (2, [.ref aSL, .ref aST, .ref aR, .int f_22, .int xp, .int xs, .ref aSU, .int xn, .int xi, .int xl])), (aSL, .inl (cI, 4, .inl L)), (aST, .inl (cI, 4, .inl T)), (aSU, .inl (cI, 6, .inl tr))]) (f := rowE cI row) ha0
            refine va_iald hx hb hK hP kx_26 0 hkx_26 rfl (vp_in_nI (n := 2) (by omega) (by omega)) dX2_does_127 ?_
            refine W.eq (g2 := F0 m 128 ls [.int (row a0 2), .int (nI pa), .ref sm]) rfl ?_
            rw [he2]
            refine lv_bipush (v := 10) hx hb dX2_does_128 (by decide) ?_
            refine lv_icmp_ge (tgt := 137) hx hb dX2_does_130 (by decide) (fun c_130 => ?_) (fun c_130 => ?_)
            · -- 130
              refine lv_iconst (v := 3) hx hb dX2_does_137 (by decide) ?_
              have hPc := hP.sub (ws' := [(sm, .inr (2, [.ref aSL, .ref aST, .ref aR, .int f_22, .int xp, .int xs, .ref aSU, .int xn, .int xi, .int xl])), (aSU, .inl (cI, 6, .inl tr))]) [0, 3] rfl
              have hDc := hD.sub (ws' := [(sm, .inr (2, [.ref aSL, .ref aST, .ref aR, .int f_22, .int xp, .int xs, .ref aSU, .int xn, .int xi, .int xl])), (aSU, .inl (cI, 6, .inl tr))]) [0, 3] (by decide) rfl
              have hKc := hK.sub (tys' := [(cI, .int)]) [0] rfl
              have hFc := va_free (wc := [(sm, .inr (2, [.ref aSL, .ref aST, .ref aR, .int f_22, .int xp, .int xs, .ref aSU, .int xn, .int xi, .int xl])), (aSU, .inl (cI, 6, .inl tr))]) hD hS hA [0, 3] rfl
              refine va_callv (va_runV (As := [.int (nI pa), .int 3]) (rest := []) ⟨hx, hb, hml, hown, hts⟩ (c_X2_trusts l dC dI cI sm aSU H_23.size aSL aST aR f_22 xp xs xn xi xl tr pa 3 (hpa)) (cwV 2 hts gX2_does_X2_trusts rfl rfl rfl (by decide +kernel) ⟨Nat.le_of_ble_eq_true rfl, Nat.le_of_ble_eq_true rfl⟩) (pc_V hKc hPc hDc (ci := 2) (C := RX2) (T := TX2) (N := 10) (q0 := 0) rfl rfl) rfl rfl hl.1 rfl (lv_room (Nat.le_of_ble_eq_true rfl)) dX2_does_138 ⟨Nat.le_of_ble_eq_true rfl, Nat.le_of_ble_eq_true rfl⟩) hS (fun q _ h => hFc q h) hFc (fun u t H_27 locs ht hvm hw hB hz1 hk1 hS => ?_)
              obtain ⟨tr1_27, rfl⟩ : ∃ z, z = u := ⟨_, rfl⟩
              try dsimp only at hw hB
              have hw_27 := hw
              replace hw_27 := hw_27.symm
              subst hw_27
              obtain ⟨hP1, hD1⟩ := hB
              rw [ht] at hP1
              obtain ⟨hP, hD⟩ := va_joinQ (X := [(sm, .inr (2, [.ref aSL, .ref aST, .ref aR, .int f_22, .int xp, .int xs, .ref aSU, .int xn, .int xi, .int xl])), (aSL, .inl (cI, 4, .inl L)), (aST, .inl (cI, 4, .inl T)), (aSU, .inl (cI, 6, .inl tr))]) (cx := [(sm, .inr (2, [.ref aSL, .ref aST, .ref aR, .int f_22, .int xp, .int xs, .ref aSU, .int xn, .int xi, .int xl])), (aSU, .inl (cI, 6, .inl tr))]) (wr := [(aSL, .inl (cI, 4, .inl L)), (aST, .inl (cI, 4, .inl T))]) (w1 := [(sm, .inr (2, [.ref aSL, .ref aST, .ref aR, .int f_22, .int xp, .int xs, .ref aSU, .int xn, .int xi, .int xl])), (aSU, .inl (cI, 6, .inl (upd tr pa (kmax 0 (kmin 100 (tr pa + 3))))))]) hP hD [0, 3] [1, 2] rfl rfl (by decide) (by decide) hk1 hFc hP1 hD1
              have hP : va_P (dC, dI) vwCl ([(aSL, .inl (cI, 4, .inl L)), (aST, .inl (cI, 4, .inl T)), (sm, .inr (2, [.ref aSL, .ref aST, .ref aR, .int f_22, .int xp, .int xs, .ref aSU, .int xn, .int xi, .int xl])), (aSU, .inl (cI, 6, .inl (upd tr pa (kmax 0 (kmin 100 (tr pa + 3))))))] ++ va_pl RL (rowE cI row)) H_27 := hP
              have hD : va_D A ([(aSL, .inl (cI, 4, .inl L)), (aST, .inl (cI, 4, .inl T)), (sm, .inr (2, [.ref aSL, .ref aST, .ref aR, .int f_22, .int xp, .int xs, .ref aSU, .int xn, .int xi, .int xl])), (aSU, .inl (cI, 6, .inl (upd tr pa (kmax 0 (kmin 100 (tr pa + 3))))))] ++ va_pl RL (rowE cI row)) := hD
              have hP := hP.part (X := [(aSL, .inl (cI, 4, .inl L)), (aST, .inl (cI, 4, .inl T)), (sm, .inr (2, [.ref aSL, .ref aST, .ref aR, .int f_22, .int xp, .int xs, .ref aSU, .int xn, .int xi, .int xl])), (aSU, .inl (cI, 6, .inl (upd tr pa (kmax 0 (kmin 100 (tr pa + 3))))))]) (cx := [(sm, .inr (2, [.ref aSL, .ref aST, .ref aR, .int f_22, .int xp, .int xs, .ref aSU, .int xn, .int xi, .int xl])), (aSL, .inl (cI, 4, .inl L)), (aST, .inl (cI, 4, .inl T)), (aSU, .inl (cI, 6, .inl (upd tr pa (kmax 0 (kmin 100 (tr pa + 3))))))]) [2, 0, 1, 3] rfl
              have hD := hD.part (X := [(aSL, .inl (cI, 4, .inl L)), (aST, .inl (cI, 4, .inl T)), (sm, .inr (2, [.ref aSL, .ref aST, .ref aR, .int f_22, .int xp, .int xs, .ref aSU, .int xn, .int xi, .int xl])), (aSU, .inl (cI, 6, .inl (upd tr pa (kmax 0 (kmin 100 (tr pa + 3))))))]) (cx := [(sm, .inr (2, [.ref aSL, .ref aST, .ref aR, .int f_22, .int xp, .int xs, .ref aSU, .int xn, .int xi, .int xl])), (aSL, .inl (cI, 4, .inl L)), (aST, .inl (cI, 4, .inl T)), (aSU, .inl (cI, 6, .inl (upd tr pa (kmax 0 (kmin 100 (tr pa + 3))))))]) [2, 0, 1, 3] (by decide) rfl
              refine lv_goto (tgt := 274) hx hb dX2_does_141 (by decide) ?_
              refine lv_iconst (v := 1) hx hb dX2_does_274 (by decide) ?_
              have hpost : ((1 : Int32), f_22, xp, xs) = hp4 (mHap L T kk (nI pa) bb xc xp xs (nI j) U) ∧ TrH (upd tr pa (kmax 0 (kmin 100 (tr pa + 3)))) (mHap L T kk (nI pa) bb xc xp xs (nI j) U) := by
                have em : mTm xp bb = 3 := by unfold mTm; rw [if_neg c_69, if_pos (ge4.mp c_117), if_pos (ge10.mp c_130)]
                exact dz_yes (by unfold mHap; rw [if_neg c_7, if_pos c_37]; rw [mToss_eq c_45, em]; rw [if_neg c_69]; simp only [ef_22]) (TrV_add hT (can_p hT hpa c_45) 3)
              have hP9 := hP.part (X := [(sm, .inr (2, [.ref aSL, .ref aST, .ref aR, .int f_22, .int xp, .int xs, .ref aSU, .int xn, .int xi, .int xl])), (aSL, .inl (cI, 4, .inl L)), (aST, .inl (cI, 4, .inl T)), (aSU, .inl (cI, 6, .inl (upd tr pa (kmax 0 (kmin 100 (tr pa + 3))))))]) (cx := [(sm, .inr (2, [.ref aSL, .ref aST, .ref aR, .int f_22, .int xp, .int xs, .ref aSU, .int xn, .int xi, .int xl])), (aSL, .inl (cI, 4, .inl L)), (aST, .inl (cI, 4, .inl T)), (aSU, .inl (cI, 6, .inl (upd tr pa (kmax 0 (kmin 100 (tr pa + 3))))))]) [0, 1, 2, 3] rfl
              have hD9 := hD.part (X := [(sm, .inr (2, [.ref aSL, .ref aST, .ref aR, .int f_22, .int xp, .int xs, .ref aSU, .int xn, .int xi, .int xl])), (aSL, .inl (cI, 4, .inl L)), (aST, .inl (cI, 4, .inl T)), (aSU, .inl (cI, 6, .inl (upd tr pa (kmax 0 (kmin 100 (tr pa + 3))))))]) (cx := [(sm, .inr (2, [.ref aSL, .ref aST, .ref aR, .int f_22, .int xp, .int xs, .ref aSU, .int xn, .int xi, .int xl])), (aSL, .inl (cI, 4, .inl L)), (aST, .inl (cI, 4, .inl T)), (aSU, .inl (cI, 6, .inl (upd tr pa (kmax 0 (kmin 100 (tr pa + 3))))))]) [0, 1, 2, 3] (by decide) rfl
              exact W.zret (v := 1) (ty := .boolean) hx hb hr (rfl) (fun t ht hW => ⟨⟨1, (f_22, xp, xs, (upd tr pa (kmax 0 (kmin 100 (tr pa + 3))))), rfl, hpost, by rw [ht]; exact hP9, hD9⟩, hS.F ht⟩) hS.2.2 dX2_does_275
            · -- 130
              refine lv_iconst (v := 1) hx hb dX2_does_133 (by decide) ?_
              refine lv_goto (tgt := 138) hx hb dX2_does_134 (by decide) ?_
              have hPc := hP.sub (ws' := [(sm, .inr (2, [.ref aSL, .ref aST, .ref aR, .int f_22, .int xp, .int xs, .ref aSU, .int xn, .int xi, .int xl])), (aSU, .inl (cI, 6, .inl tr))]) [0, 3] rfl
              have hDc := hD.sub (ws' := [(sm, .inr (2, [.ref aSL, .ref aST, .ref aR, .int f_22, .int xp, .int xs, .ref aSU, .int xn, .int xi, .int xl])), (aSU, .inl (cI, 6, .inl tr))]) [0, 3] (by decide) rfl
              have hKc := hK.sub (tys' := [(cI, .int)]) [0] rfl
              have hFc := va_free (wc := [(sm, .inr (2, [.ref aSL, .ref aST, .ref aR, .int f_22, .int xp, .int xs, .ref aSU, .int xn, .int xi, .int xl])), (aSU, .inl (cI, 6, .inl tr))]) hD hS hA [0, 3] rfl
              refine va_callv (va_runV (As := [.int (nI pa), .int 1]) (rest := []) ⟨hx, hb, hml, hown, hts⟩ (c_X2_trusts l dC dI cI sm aSU H_23.size aSL aST aR f_22 xp xs xn xi xl tr pa 1 (hpa)) (cwV 2 hts gX2_does_X2_trusts rfl rfl rfl (by decide +kernel) ⟨Nat.le_of_ble_eq_true rfl, Nat.le_of_ble_eq_true rfl⟩) (pc_V hKc hPc hDc (ci := 2) (C := RX2) (T := TX2) (N := 10) (q0 := 0) rfl rfl) rfl rfl hl.1 rfl (lv_room (Nat.le_of_ble_eq_true rfl)) dX2_does_138 ⟨Nat.le_of_ble_eq_true rfl, Nat.le_of_ble_eq_true rfl⟩) hS (fun q _ h => hFc q h) hFc (fun u t H_28 locs ht hvm hw hB hz1 hk1 hS => ?_)
              obtain ⟨tr1_28, rfl⟩ : ∃ z, z = u := ⟨_, rfl⟩
              try dsimp only at hw hB
              have hw_28 := hw
              replace hw_28 := hw_28.symm
              subst hw_28
              obtain ⟨hP1, hD1⟩ := hB
              rw [ht] at hP1
              obtain ⟨hP, hD⟩ := va_joinQ (X := [(sm, .inr (2, [.ref aSL, .ref aST, .ref aR, .int f_22, .int xp, .int xs, .ref aSU, .int xn, .int xi, .int xl])), (aSL, .inl (cI, 4, .inl L)), (aST, .inl (cI, 4, .inl T)), (aSU, .inl (cI, 6, .inl tr))]) (cx := [(sm, .inr (2, [.ref aSL, .ref aST, .ref aR, .int f_22, .int xp, .int xs, .ref aSU, .int xn, .int xi, .int xl])), (aSU, .inl (cI, 6, .inl tr))]) (wr := [(aSL, .inl (cI, 4, .inl L)), (aST, .inl (cI, 4, .inl T))]) (w1 := [(sm, .inr (2, [.ref aSL, .ref aST, .ref aR, .int f_22, .int xp, .int xs, .ref aSU, .int xn, .int xi, .int xl])), (aSU, .inl (cI, 6, .inl (upd tr pa (kmax 0 (kmin 100 (tr pa + 1))))))]) hP hD [0, 3] [1, 2] rfl rfl (by decide) (by decide) hk1 hFc hP1 hD1
              have hP : va_P (dC, dI) vwCl ([(aSL, .inl (cI, 4, .inl L)), (aST, .inl (cI, 4, .inl T)), (sm, .inr (2, [.ref aSL, .ref aST, .ref aR, .int f_22, .int xp, .int xs, .ref aSU, .int xn, .int xi, .int xl])), (aSU, .inl (cI, 6, .inl (upd tr pa (kmax 0 (kmin 100 (tr pa + 1))))))] ++ va_pl RL (rowE cI row)) H_28 := hP
              have hD : va_D A ([(aSL, .inl (cI, 4, .inl L)), (aST, .inl (cI, 4, .inl T)), (sm, .inr (2, [.ref aSL, .ref aST, .ref aR, .int f_22, .int xp, .int xs, .ref aSU, .int xn, .int xi, .int xl])), (aSU, .inl (cI, 6, .inl (upd tr pa (kmax 0 (kmin 100 (tr pa + 1))))))] ++ va_pl RL (rowE cI row)) := hD
              have hP := hP.part (X := [(aSL, .inl (cI, 4, .inl L)), (aST, .inl (cI, 4, .inl T)), (sm, .inr (2, [.ref aSL, .ref aST, .ref aR, .int f_22, .int xp, .int xs, .ref aSU, .int xn, .int xi, .int xl])), (aSU, .inl (cI, 6, .inl (upd tr pa (kmax 0 (kmin 100 (tr pa + 1))))))]) (cx := [(sm, .inr (2, [.ref aSL, .ref aST, .ref aR, .int f_22, .int xp, .int xs, .ref aSU, .int xn, .int xi, .int xl])), (aSL, .inl (cI, 4, .inl L)), (aST, .inl (cI, 4, .inl T)), (aSU, .inl (cI, 6, .inl (upd tr pa (kmax 0 (kmin 100 (tr pa + 1))))))]) [2, 0, 1, 3] rfl
              have hD := hD.part (X := [(aSL, .inl (cI, 4, .inl L)), (aST, .inl (cI, 4, .inl T)), (sm, .inr (2, [.ref aSL, .ref aST, .ref aR, .int f_22, .int xp, .int xs, .ref aSU, .int xn, .int xi, .int xl])), (aSU, .inl (cI, 6, .inl (upd tr pa (kmax 0 (kmin 100 (tr pa + 1))))))]) (cx := [(sm, .inr (2, [.ref aSL, .ref aST, .ref aR, .int f_22, .int xp, .int xs, .ref aSU, .int xn, .int xi, .int xl])), (aSL, .inl (cI, 4, .inl L)), (aST, .inl (cI, 4, .inl T)), (aSU, .inl (cI, 6, .inl (upd tr pa (kmax 0 (kmin 100 (tr pa + 1))))))]) [2, 0, 1, 3] (by decide) rfl
              refine lv_goto (tgt := 274) hx hb dX2_does_141 (by decide) ?_
              refine lv_iconst (v := 1) hx hb dX2_does_274 (by decide) ?_
              have hpost : ((1 : Int32), f_22, xp, xs) = hp4 (mHap L T kk (nI pa) bb xc xp xs (nI j) U) ∧ TrH (upd tr pa (kmax 0 (kmin 100 (tr pa + 1)))) (mHap L T kk (nI pa) bb xc xp xs (nI j) U) := by
                have em : mTm xp bb = 1 := by unfold mTm; rw [if_neg c_69, if_pos (ge4.mp c_117), if_neg (fun h => c_130 (ge10.mpr h))]
                exact dz_yes (by unfold mHap; rw [if_neg c_7, if_pos c_37]; rw [mToss_eq c_45, em]; rw [if_neg c_69]; simp only [ef_22]) (TrV_add hT (can_p hT hpa c_45) 1)
              have hP9 := hP.part (X := [(sm, .inr (2, [.ref aSL, .ref aST, .ref aR, .int f_22, .int xp, .int xs, .ref aSU, .int xn, .int xi, .int xl])), (aSL, .inl (cI, 4, .inl L)), (aST, .inl (cI, 4, .inl T)), (aSU, .inl (cI, 6, .inl (upd tr pa (kmax 0 (kmin 100 (tr pa + 1))))))]) (cx := [(sm, .inr (2, [.ref aSL, .ref aST, .ref aR, .int f_22, .int xp, .int xs, .ref aSU, .int xn, .int xi, .int xl])), (aSL, .inl (cI, 4, .inl L)), (aST, .inl (cI, 4, .inl T)), (aSU, .inl (cI, 6, .inl (upd tr pa (kmax 0 (kmin 100 (tr pa + 1))))))]) [0, 1, 2, 3] rfl
              have hD9 := hD.part (X := [(sm, .inr (2, [.ref aSL, .ref aST, .ref aR, .int f_22, .int xp, .int xs, .ref aSU, .int xn, .int xi, .int xl])), (aSL, .inl (cI, 4, .inl L)), (aST, .inl (cI, 4, .inl T)), (aSU, .inl (cI, 6, .inl (upd tr pa (kmax 0 (kmin 100 (tr pa + 1))))))]) (cx := [(sm, .inr (2, [.ref aSL, .ref aST, .ref aR, .int f_22, .int xp, .int xs, .ref aSU, .int xn, .int xi, .int xl])), (aSL, .inl (cI, 4, .inl L)), (aST, .inl (cI, 4, .inl T)), (aSU, .inl (cI, 6, .inl (upd tr pa (kmax 0 (kmin 100 (tr pa + 1))))))]) [0, 1, 2, 3] (by decide) rfl
              exact W.zret (v := 1) (ty := .boolean) hx hb hr (rfl) (fun t ht hW => ⟨⟨1, (f_22, xp, xs, (upd tr pa (kmax 0 (kmin 100 (tr pa + 1))))), rfl, hpost, by rw [ht]; exact hP9, hD9⟩, hS.F ht⟩) hS.2.2 dX2_does_275
          · -- 117
            refine lv_bipush (v := (-4)) hx hb dX2_does_120 (by decide) ?_
            refine lv_goto (tgt := 138) hx hb dX2_does_122 (by decide) ?_
            have hPc := hP.sub (ws' := [(sm, .inr (2, [.ref aSL, .ref aST, .ref aR, .int f_22, .int xp, .int xs, .ref aSU, .int xn, .int xi, .int xl])), (aSU, .inl (cI, 6, .inl tr))]) [0, 3] rfl
            have hDc := hD.sub (ws' := [(sm, .inr (2, [.ref aSL, .ref aST, .ref aR, .int f_22, .int xp, .int xs, .ref aSU, .int xn, .int xi, .int xl])), (aSU, .inl (cI, 6, .inl tr))]) [0, 3] (by decide) rfl
            have hKc := hK.sub (tys' := [(cI, .int)]) [0] rfl
            have hFc := va_free (wc := [(sm, .inr (2, [.ref aSL, .ref aST, .ref aR, .int f_22, .int xp, .int xs, .ref aSU, .int xn, .int xi, .int xl])), (aSU, .inl (cI, 6, .inl tr))]) hD hS hA [0, 3] rfl
            refine va_callv (va_runV (As := [.int (nI pa), .int (-4)]) (rest := []) ⟨hx, hb, hml, hown, hts⟩ (c_X2_trusts l dC dI cI sm aSU H_23.size aSL aST aR f_22 xp xs xn xi xl tr pa (-4) (hpa)) (cwV 2 hts gX2_does_X2_trusts rfl rfl rfl (by decide +kernel) ⟨Nat.le_of_ble_eq_true rfl, Nat.le_of_ble_eq_true rfl⟩) (pc_V hKc hPc hDc (ci := 2) (C := RX2) (T := TX2) (N := 10) (q0 := 0) rfl rfl) rfl rfl hl.1 rfl (lv_room (Nat.le_of_ble_eq_true rfl)) dX2_does_138 ⟨Nat.le_of_ble_eq_true rfl, Nat.le_of_ble_eq_true rfl⟩) hS (fun q _ h => hFc q h) hFc (fun u t H_29 locs ht hvm hw hB hz1 hk1 hS => ?_)
            obtain ⟨tr1_29, rfl⟩ : ∃ z, z = u := ⟨_, rfl⟩
            try dsimp only at hw hB
            have hw_29 := hw
            replace hw_29 := hw_29.symm
            subst hw_29
            obtain ⟨hP1, hD1⟩ := hB
            rw [ht] at hP1
            obtain ⟨hP, hD⟩ := va_joinQ (X := [(sm, .inr (2, [.ref aSL, .ref aST, .ref aR, .int f_22, .int xp, .int xs, .ref aSU, .int xn, .int xi, .int xl])), (aSL, .inl (cI, 4, .inl L)), (aST, .inl (cI, 4, .inl T)), (aSU, .inl (cI, 6, .inl tr))]) (cx := [(sm, .inr (2, [.ref aSL, .ref aST, .ref aR, .int f_22, .int xp, .int xs, .ref aSU, .int xn, .int xi, .int xl])), (aSU, .inl (cI, 6, .inl tr))]) (wr := [(aSL, .inl (cI, 4, .inl L)), (aST, .inl (cI, 4, .inl T))]) (w1 := [(sm, .inr (2, [.ref aSL, .ref aST, .ref aR, .int f_22, .int xp, .int xs, .ref aSU, .int xn, .int xi, .int xl])), (aSU, .inl (cI, 6, .inl (upd tr pa (kmax 0 (kmin 100 (tr pa + (-4)))))))]) hP hD [0, 3] [1, 2] rfl rfl (by decide) (by decide) hk1 hFc hP1 hD1
            have hP : va_P (dC, dI) vwCl ([(aSL, .inl (cI, 4, .inl L)), (aST, .inl (cI, 4, .inl T)), (sm, .inr (2, [.ref aSL, .ref aST, .ref aR, .int f_22, .int xp, .int xs, .ref aSU, .int xn, .int xi, .int xl])), (aSU, .inl (cI, 6, .inl (upd tr pa (kmax 0 (kmin 100 (tr pa + (-4)))))))] ++ va_pl RL (rowE cI row)) H_29 := hP
            have hD : va_D A ([(aSL, .inl (cI, 4, .inl L)), (aST, .inl (cI, 4, .inl T)), (sm, .inr (2, [.ref aSL, .ref aST, .ref aR, .int f_22, .int xp, .int xs, .ref aSU, .int xn, .int xi, .int xl])), (aSU, .inl (cI, 6, .inl (upd tr pa (kmax 0 (kmin 100 (tr pa + (-4)))))))] ++ va_pl RL (rowE cI row)) := hD
            have hP := hP.part (X := [(aSL, .inl (cI, 4, .inl L)), (aST, .inl (cI, 4, .inl T)), (sm, .inr (2, [.ref aSL, .ref aST, .ref aR, .int f_22, .int xp, .int xs, .ref aSU, .int xn, .int xi, .int xl])), (aSU, .inl (cI, 6, .inl (upd tr pa (kmax 0 (kmin 100 (tr pa + (-4)))))))]) (cx := [(sm, .inr (2, [.ref aSL, .ref aST, .ref aR, .int f_22, .int xp, .int xs, .ref aSU, .int xn, .int xi, .int xl])), (aSL, .inl (cI, 4, .inl L)), (aST, .inl (cI, 4, .inl T)), (aSU, .inl (cI, 6, .inl (upd tr pa (kmax 0 (kmin 100 (tr pa + (-4)))))))]) [2, 0, 1, 3] rfl
            have hD := hD.part (X := [(aSL, .inl (cI, 4, .inl L)), (aST, .inl (cI, 4, .inl T)), (sm, .inr (2, [.ref aSL, .ref aST, .ref aR, .int f_22, .int xp, .int xs, .ref aSU, .int xn, .int xi, .int xl])), (aSU, .inl (cI, 6, .inl (upd tr pa (kmax 0 (kmin 100 (tr pa + (-4)))))))]) (cx := [(sm, .inr (2, [.ref aSL, .ref aST, .ref aR, .int f_22, .int xp, .int xs, .ref aSU, .int xn, .int xi, .int xl])), (aSL, .inl (cI, 4, .inl L)), (aST, .inl (cI, 4, .inl T)), (aSU, .inl (cI, 6, .inl (upd tr pa (kmax 0 (kmin 100 (tr pa + (-4)))))))]) [2, 0, 1, 3] (by decide) rfl
            refine lv_goto (tgt := 274) hx hb dX2_does_141 (by decide) ?_
            refine lv_iconst (v := 1) hx hb dX2_does_274 (by decide) ?_
            have hpost : ((1 : Int32), f_22, xp, xs) = hp4 (mHap L T kk (nI pa) bb xc xp xs (nI j) U) ∧ TrH (upd tr pa (kmax 0 (kmin 100 (tr pa + (-4))))) (mHap L T kk (nI pa) bb xc xp xs (nI j) U) := by
              have em : mTm xp bb = (-4) := by unfold mTm; rw [if_neg c_69, if_neg (fun h => c_117 (ge4.mpr h))]
              exact dz_yes (by unfold mHap; rw [if_neg c_7, if_pos c_37]; rw [mToss_eq c_45, em]; rw [if_neg c_69]; simp only [ef_22]) (TrV_add hT (can_p hT hpa c_45) (-4))
            have hP9 := hP.part (X := [(sm, .inr (2, [.ref aSL, .ref aST, .ref aR, .int f_22, .int xp, .int xs, .ref aSU, .int xn, .int xi, .int xl])), (aSL, .inl (cI, 4, .inl L)), (aST, .inl (cI, 4, .inl T)), (aSU, .inl (cI, 6, .inl (upd tr pa (kmax 0 (kmin 100 (tr pa + (-4)))))))]) (cx := [(sm, .inr (2, [.ref aSL, .ref aST, .ref aR, .int f_22, .int xp, .int xs, .ref aSU, .int xn, .int xi, .int xl])), (aSL, .inl (cI, 4, .inl L)), (aST, .inl (cI, 4, .inl T)), (aSU, .inl (cI, 6, .inl (upd tr pa (kmax 0 (kmin 100 (tr pa + (-4)))))))]) [0, 1, 2, 3] rfl
            have hD9 := hD.part (X := [(sm, .inr (2, [.ref aSL, .ref aST, .ref aR, .int f_22, .int xp, .int xs, .ref aSU, .int xn, .int xi, .int xl])), (aSL, .inl (cI, 4, .inl L)), (aST, .inl (cI, 4, .inl T)), (aSU, .inl (cI, 6, .inl (upd tr pa (kmax 0 (kmin 100 (tr pa + (-4)))))))]) (cx := [(sm, .inr (2, [.ref aSL, .ref aST, .ref aR, .int f_22, .int xp, .int xs, .ref aSU, .int xn, .int xi, .int xl])), (aSL, .inl (cI, 4, .inl L)), (aST, .inl (cI, 4, .inl T)), (aSU, .inl (cI, 6, .inl (upd tr pa (kmax 0 (kmin 100 (tr pa + (-4)))))))]) [0, 1, 2, 3] (by decide) rfl
            exact W.zret (v := 1) (ty := .boolean) hx hb hr (rfl) (fun t ht hW => ⟨⟨1, (f_22, xp, xs, (upd tr pa (kmax 0 (kmin 100 (tr pa + (-4)))))), rfl, hpost, by rw [ht]; exact hP9, hD9⟩, hS.F ht⟩) hS.2.2 dX2_does_275
        · -- 69
          refine lv_aload_n hx hb dX2_does_72 rfl (lv_at hl 1 rfl) ?_
          refine lv_iload_n hx hb dX2_does_73 rfl (lv_at hl 0 rfl) ?_
          refine lv_aload_n hx hb dX2_does_74 rfl (lv_at hl 1 rfl) ?_
          refine va_get (D := (dC, dI)) (ci := 2) (v := .int xp) (C := RX2) (T := TX2) (N := 10) hx hb hts hinX2 hown hK hP 0 rfl rfl 4 (by decide) k2 (fun _ h9 => h9) rfl dX2_does_75 ?_
          refine lv_if_ne (tgt := 86) hx hb dX2_does_78 (by decide) (fun c_78 => ?_) (fun c_78 => ?_)
          · -- 78
            refine lv_bipush (v := (-30)) hx hb dX2_does_86 (by decide) ?_
            have hPc := hP.sub (ws' := [(sm, .inr (2, [.ref aSL, .ref aST, .ref aR, .int f_22, .int xp, .int xs, .ref aSU, .int xn, .int xi, .int xl])), (aSU, .inl (cI, 6, .inl tr))]) [0, 3] rfl
            have hDc := hD.sub (ws' := [(sm, .inr (2, [.ref aSL, .ref aST, .ref aR, .int f_22, .int xp, .int xs, .ref aSU, .int xn, .int xi, .int xl])), (aSU, .inl (cI, 6, .inl tr))]) [0, 3] (by decide) rfl
            have hKc := hK.sub (tys' := [(cI, .int)]) [0] rfl
            have hFc := va_free (wc := [(sm, .inr (2, [.ref aSL, .ref aST, .ref aR, .int f_22, .int xp, .int xs, .ref aSU, .int xn, .int xi, .int xl])), (aSU, .inl (cI, 6, .inl tr))]) hD hS hA [0, 3] rfl
            refine va_callv (va_runV (As := [.int (nI pa), .int (-30)]) (rest := []) ⟨hx, hb, hml, hown, hts⟩ (c_X2_trusts l dC dI cI sm aSU H_23.size aSL aST aR f_22 xp xs xn xi xl tr pa (-30) (hpa)) (cwV 2 hts gX2_does_X2_trusts rfl rfl rfl (by decide +kernel) ⟨Nat.le_of_ble_eq_true rfl, Nat.le_of_ble_eq_true rfl⟩) (pc_V hKc hPc hDc (ci := 2) (C := RX2) (T := TX2) (N := 10) (q0 := 0) rfl rfl) rfl rfl hl.1 rfl (lv_room (Nat.le_of_ble_eq_true rfl)) dX2_does_88 ⟨Nat.le_of_ble_eq_true rfl, Nat.le_of_ble_eq_true rfl⟩) hS (fun q _ h => hFc q h) hFc (fun u t H_30 locs ht hvm hw hB hz1 hk1 hS => ?_)
            obtain ⟨tr1_30, rfl⟩ : ∃ z, z = u := ⟨_, rfl⟩
            try dsimp only at hw hB
            have hw_30 := hw
            replace hw_30 := hw_30.symm
            subst hw_30
            obtain ⟨hP1, hD1⟩ := hB
            rw [ht] at hP1
            obtain ⟨hP, hD⟩ := va_joinQ (X := [(sm, .inr (2, [.ref aSL, .ref aST, .ref aR, .int f_22, .int xp, .int xs, .ref aSU, .int xn, .int xi, .int xl])), (aSL, .inl (cI, 4, .inl L)), (aST, .inl (cI, 4, .inl T)), (aSU, .inl (cI, 6, .inl tr))]) (cx := [(sm, .inr (2, [.ref aSL, .ref aST, .ref aR, .int f_22, .int xp, .int xs, .ref aSU, .int xn, .int xi, .int xl])), (aSU, .inl (cI, 6, .inl tr))]) (wr := [(aSL, .inl (cI, 4, .inl L)), (aST, .inl (cI, 4, .inl T))]) (w1 := [(sm, .inr (2, [.ref aSL, .ref aST, .ref aR, .int f_22, .int xp, .int xs, .ref aSU, .int xn, .int xi, .int xl])), (aSU, .inl (cI, 6, .inl (upd tr pa (kmax 0 (kmin 100 (tr pa + (-30)))))))]) hP hD [0, 3] [1, 2] rfl rfl (by decide) (by decide) hk1 hFc hP1 hD1
            have hP : va_P (dC, dI) vwCl ([(aSL, .inl (cI, 4, .inl L)), (aST, .inl (cI, 4, .inl T)), (sm, .inr (2, [.ref aSL, .ref aST, .ref aR, .int f_22, .int xp, .int xs, .ref aSU, .int xn, .int xi, .int xl])), (aSU, .inl (cI, 6, .inl (upd tr pa (kmax 0 (kmin 100 (tr pa + (-30)))))))] ++ va_pl RL (rowE cI row)) H_30 := hP
            have hD : va_D A ([(aSL, .inl (cI, 4, .inl L)), (aST, .inl (cI, 4, .inl T)), (sm, .inr (2, [.ref aSL, .ref aST, .ref aR, .int f_22, .int xp, .int xs, .ref aSU, .int xn, .int xi, .int xl])), (aSU, .inl (cI, 6, .inl (upd tr pa (kmax 0 (kmin 100 (tr pa + (-30)))))))] ++ va_pl RL (rowE cI row)) := hD
            have hP := hP.part (X := [(aSL, .inl (cI, 4, .inl L)), (aST, .inl (cI, 4, .inl T)), (sm, .inr (2, [.ref aSL, .ref aST, .ref aR, .int f_22, .int xp, .int xs, .ref aSU, .int xn, .int xi, .int xl])), (aSU, .inl (cI, 6, .inl (upd tr pa (kmax 0 (kmin 100 (tr pa + (-30)))))))]) (cx := [(sm, .inr (2, [.ref aSL, .ref aST, .ref aR, .int f_22, .int xp, .int xs, .ref aSU, .int xn, .int xi, .int xl])), (aSL, .inl (cI, 4, .inl L)), (aST, .inl (cI, 4, .inl T)), (aSU, .inl (cI, 6, .inl (upd tr pa (kmax 0 (kmin 100 (tr pa + (-30)))))))]) [2, 0, 1, 3] rfl
            have hD := hD.part (X := [(aSL, .inl (cI, 4, .inl L)), (aST, .inl (cI, 4, .inl T)), (sm, .inr (2, [.ref aSL, .ref aST, .ref aR, .int f_22, .int xp, .int xs, .ref aSU, .int xn, .int xi, .int xl])), (aSU, .inl (cI, 6, .inl (upd tr pa (kmax 0 (kmin 100 (tr pa + (-30)))))))]) (cx := [(sm, .inr (2, [.ref aSL, .ref aST, .ref aR, .int f_22, .int xp, .int xs, .ref aSU, .int xn, .int xi, .int xl])), (aSL, .inl (cI, 4, .inl L)), (aST, .inl (cI, 4, .inl T)), (aSU, .inl (cI, 6, .inl (upd tr pa (kmax 0 (kmin 100 (tr pa + (-30)))))))]) [2, 0, 1, 3] (by decide) rfl
            refine lv_aload_n hx hb dX2_does_91 rfl (lv_at hl 1 rfl) ?_
            refine va_get (D := (dC, dI)) (ci := 2) (v := .int xp) (C := RX2) (T := TX2) (N := 10) hx hb hts hinX2 hown hK hP 0 rfl rfl 4 (by decide) k2 (fun _ h9 => h9) rfl dX2_does_92 ?_
            refine lv_if_le (tgt := 274) hx hb dX2_does_95 (by decide) (fun h9 => absurd h9 (pl_npos hq9 c_78)) (fun _ => ?_)
            refine lv_aload_n hx hb dX2_does_98 rfl (lv_at hl 1 rfl) ?_
            refine lv_dup hx hb dX2_does_99 rfl ?_
            refine va_get (D := (dC, dI)) (ci := 2) (v := .int xp) (C := RX2) (T := TX2) (N := 10) hx hb hts hinX2 hown hK hP 0 rfl rfl 4 (by decide) k2 (fun _ h9 => h9) rfl dX2_does_100 ?_
            refine lv_iconst (v := 1) hx hb dX2_does_103 (by decide) ?_
            refine lv_isub hx hb dX2_does_104 ?_
            refine lv_topi (fun f_31 ef_31 => ?_)
            refine va_put (D := (dC, dI)) (ci := 2) (v := .int f_31) (ty := .int) (C := RX2) (T := TX2) (N := 10) hx hb hts hinX2 tyX2 tyX2_ok nmX2 hown hK hP hD hS 0 rfl rfl 4 (by decide) k2 (fun _ h9 => h9) rfl (by decide +kernel) rfl rfl (Nat.le_of_ble_eq_true rfl) dX2_does_105 (fun H_32 locs hP hD hS => ?_)
            have hP : va_P (dC, dI) vwCl ([(sm, .inr (2, [.ref aSL, .ref aST, .ref aR, .int f_22, .int f_31, .int xs, .ref aSU, .int xn, .int xi, .int xl])), (aSL, .inl (cI, 4, .inl L)), (aST, .inl (cI, 4, .inl T)), (aSU, .inl (cI, 6, .inl (upd tr pa (kmax 0 (kmin 100 (tr pa + (-30)))))))] ++ va_pl RL (rowE cI row)) H_32 := hP
            have hD : va_D A ([(sm, .inr (2, [.ref aSL, .ref aST, .ref aR, .int f_22, .int f_31, .int xs, .ref aSU, .int xn, .int xi, .int xl])), (aSL, .inl (cI, 4, .inl L)), (aST, .inl (cI, 4, .inl T)), (aSU, .inl (cI, 6, .inl (upd tr pa (kmax 0 (kmin 100 (tr pa + (-30)))))))] ++ va_pl RL (rowE cI row)) := hD
            refine lv_goto (tgt := 274) hx hb dX2_does_108 (by decide) ?_
            refine lv_iconst (v := 1) hx hb dX2_does_274 (by decide) ?_
            have hpost : ((1 : Int32), f_22, f_31, xs) = hp4 (mHap L T kk (nI pa) bb xc xp xs (nI j) U) ∧ TrH (upd tr pa (kmax 0 (kmin 100 (tr pa + (-30))))) (mHap L T kk (nI pa) bb xc xp xs (nI j) U) := by
              have em : mTm xp bb = (-30) := by unfold mTm; rw [if_pos c_69, if_neg (pl_npos hq9 c_78)]
              exact dz_yes (by unfold mHap; rw [if_neg c_7, if_pos c_37]; rw [mToss_eq c_45, em]; rw [if_pos c_69, if_neg (pl_npos hq9 c_78)]; simp only [ef_22, ef_31]) (TrV_add hT (can_p hT hpa c_45) (-30))
            have hP9 := hP.part (X := [(sm, .inr (2, [.ref aSL, .ref aST, .ref aR, .int f_22, .int f_31, .int xs, .ref aSU, .int xn, .int xi, .int xl])), (aSL, .inl (cI, 4, .inl L)), (aST, .inl (cI, 4, .inl T)), (aSU, .inl (cI, 6, .inl (upd tr pa (kmax 0 (kmin 100 (tr pa + (-30)))))))]) (cx := [(sm, .inr (2, [.ref aSL, .ref aST, .ref aR, .int f_22, .int f_31, .int xs, .ref aSU, .int xn, .int xi, .int xl])), (aSL, .inl (cI, 4, .inl L)), (aST, .inl (cI, 4, .inl T)), (aSU, .inl (cI, 6, .inl (upd tr pa (kmax 0 (kmin 100 (tr pa + (-30)))))))]) [0, 1, 2, 3] rfl
            have hD9 := hD.part (X := [(sm, .inr (2, [.ref aSL, .ref aST, .ref aR, .int f_22, .int f_31, .int xs, .ref aSU, .int xn, .int xi, .int xl])), (aSL, .inl (cI, 4, .inl L)), (aST, .inl (cI, 4, .inl T)), (aSU, .inl (cI, 6, .inl (upd tr pa (kmax 0 (kmin 100 (tr pa + (-30)))))))]) (cx := [(sm, .inr (2, [.ref aSL, .ref aST, .ref aR, .int f_22, .int f_31, .int xs, .ref aSU, .int xn, .int xi, .int xl])), (aSL, .inl (cI, 4, .inl L)), (aST, .inl (cI, 4, .inl T)), (aSU, .inl (cI, 6, .inl (upd tr pa (kmax 0 (kmin 100 (tr pa + (-30)))))))]) [0, 1, 2, 3] (by decide) rfl
            exact W.zret (v := 1) (ty := .boolean) hx hb hr (rfl) (fun t ht hW => ⟨⟨1, (f_22, f_31, xs, (upd tr pa (kmax 0 (kmin 100 (tr pa + (-30)))))), rfl, hpost, by rw [ht]; exact hP9, hD9⟩, hS.F ht⟩) hS.2.2 dX2_does_275
          · -- 78
            refine lv_bipush (v := (-60)) hx hb dX2_does_81 (by decide) ?_
            refine lv_goto (tgt := 88) hx hb dX2_does_83 (by decide) ?_
            have hPc := hP.sub (ws' := [(sm, .inr (2, [.ref aSL, .ref aST, .ref aR, .int f_22, .int xp, .int xs, .ref aSU, .int xn, .int xi, .int xl])), (aSU, .inl (cI, 6, .inl tr))]) [0, 3] rfl
            have hDc := hD.sub (ws' := [(sm, .inr (2, [.ref aSL, .ref aST, .ref aR, .int f_22, .int xp, .int xs, .ref aSU, .int xn, .int xi, .int xl])), (aSU, .inl (cI, 6, .inl tr))]) [0, 3] (by decide) rfl
            have hKc := hK.sub (tys' := [(cI, .int)]) [0] rfl
            have hFc := va_free (wc := [(sm, .inr (2, [.ref aSL, .ref aST, .ref aR, .int f_22, .int xp, .int xs, .ref aSU, .int xn, .int xi, .int xl])), (aSU, .inl (cI, 6, .inl tr))]) hD hS hA [0, 3] rfl
            refine va_callv (va_runV (As := [.int (nI pa), .int (-60)]) (rest := []) ⟨hx, hb, hml, hown, hts⟩ (c_X2_trusts l dC dI cI sm aSU H_23.size aSL aST aR f_22 xp xs xn xi xl tr pa (-60) (hpa)) (cwV 2 hts gX2_does_X2_trusts rfl rfl rfl (by decide +kernel) ⟨Nat.le_of_ble_eq_true rfl, Nat.le_of_ble_eq_true rfl⟩) (pc_V hKc hPc hDc (ci := 2) (C := RX2) (T := TX2) (N := 10) (q0 := 0) rfl rfl) rfl rfl hl.1 rfl (lv_room (Nat.le_of_ble_eq_true rfl)) dX2_does_88 ⟨Nat.le_of_ble_eq_true rfl, Nat.le_of_ble_eq_true rfl⟩) hS (fun q _ h => hFc q h) hFc (fun u t H_33 locs ht hvm hw hB hz1 hk1 hS => ?_)
            obtain ⟨tr1_33, rfl⟩ : ∃ z, z = u := ⟨_, rfl⟩
            try dsimp only at hw hB
            have hw_33 := hw
            replace hw_33 := hw_33.symm
            subst hw_33
            obtain ⟨hP1, hD1⟩ := hB
            rw [ht] at hP1
            obtain ⟨hP, hD⟩ := va_joinQ (X := [(sm, .inr (2, [.ref aSL, .ref aST, .ref aR, .int f_22, .int xp, .int xs, .ref aSU, .int xn, .int xi, .int xl])), (aSL, .inl (cI, 4, .inl L)), (aST, .inl (cI, 4, .inl T)), (aSU, .inl (cI, 6, .inl tr))]) (cx := [(sm, .inr (2, [.ref aSL, .ref aST, .ref aR, .int f_22, .int xp, .int xs, .ref aSU, .int xn, .int xi, .int xl])), (aSU, .inl (cI, 6, .inl tr))]) (wr := [(aSL, .inl (cI, 4, .inl L)), (aST, .inl (cI, 4, .inl T))]) (w1 := [(sm, .inr (2, [.ref aSL, .ref aST, .ref aR, .int f_22, .int xp, .int xs, .ref aSU, .int xn, .int xi, .int xl])), (aSU, .inl (cI, 6, .inl (upd tr pa (kmax 0 (kmin 100 (tr pa + (-60)))))))]) hP hD [0, 3] [1, 2] rfl rfl (by decide) (by decide) hk1 hFc hP1 hD1
            have hP : va_P (dC, dI) vwCl ([(aSL, .inl (cI, 4, .inl L)), (aST, .inl (cI, 4, .inl T)), (sm, .inr (2, [.ref aSL, .ref aST, .ref aR, .int f_22, .int xp, .int xs, .ref aSU, .int xn, .int xi, .int xl])), (aSU, .inl (cI, 6, .inl (upd tr pa (kmax 0 (kmin 100 (tr pa + (-60)))))))] ++ va_pl RL (rowE cI row)) H_33 := hP
            have hD : va_D A ([(aSL, .inl (cI, 4, .inl L)), (aST, .inl (cI, 4, .inl T)), (sm, .inr (2, [.ref aSL, .ref aST, .ref aR, .int f_22, .int xp, .int xs, .ref aSU, .int xn, .int xi, .int xl])), (aSU, .inl (cI, 6, .inl (upd tr pa (kmax 0 (kmin 100 (tr pa + (-60)))))))] ++ va_pl RL (rowE cI row)) := hD
            have hP := hP.part (X := [(aSL, .inl (cI, 4, .inl L)), (aST, .inl (cI, 4, .inl T)), (sm, .inr (2, [.ref aSL, .ref aST, .ref aR, .int f_22, .int xp, .int xs, .ref aSU, .int xn, .int xi, .int xl])), (aSU, .inl (cI, 6, .inl (upd tr pa (kmax 0 (kmin 100 (tr pa + (-60)))))))]) (cx := [(sm, .inr (2, [.ref aSL, .ref aST, .ref aR, .int f_22, .int xp, .int xs, .ref aSU, .int xn, .int xi, .int xl])), (aSL, .inl (cI, 4, .inl L)), (aST, .inl (cI, 4, .inl T)), (aSU, .inl (cI, 6, .inl (upd tr pa (kmax 0 (kmin 100 (tr pa + (-60)))))))]) [2, 0, 1, 3] rfl
            have hD := hD.part (X := [(aSL, .inl (cI, 4, .inl L)), (aST, .inl (cI, 4, .inl T)), (sm, .inr (2, [.ref aSL, .ref aST, .ref aR, .int f_22, .int xp, .int xs, .ref aSU, .int xn, .int xi, .int xl])), (aSU, .inl (cI, 6, .inl (upd tr pa (kmax 0 (kmin 100 (tr pa + (-60)))))))]) (cx := [(sm, .inr (2, [.ref aSL, .ref aST, .ref aR, .int f_22, .int xp, .int xs, .ref aSU, .int xn, .int xi, .int xl])), (aSL, .inl (cI, 4, .inl L)), (aST, .inl (cI, 4, .inl T)), (aSU, .inl (cI, 6, .inl (upd tr pa (kmax 0 (kmin 100 (tr pa + (-60)))))))]) [2, 0, 1, 3] (by decide) rfl
            refine lv_aload_n hx hb dX2_does_91 rfl (lv_at hl 1 rfl) ?_
            refine va_get (D := (dC, dI)) (ci := 2) (v := .int xp) (C := RX2) (T := TX2) (N := 10) hx hb hts hinX2 hown hK hP 0 rfl rfl 4 (by decide) k2 (fun _ h9 => h9) rfl dX2_does_92 ?_
            refine lv_if_le (tgt := 274) hx hb dX2_does_95 (by decide) (fun _ => ?_) (fun h9 => absurd (by rw [c_78]; decide) h9)
            refine lv_iconst (v := 1) hx hb dX2_does_274 (by decide) ?_
            have hpost : ((1 : Int32), f_22, xp, xs) = hp4 (mHap L T kk (nI pa) bb xc xp xs (nI j) U) ∧ TrH (upd tr pa (kmax 0 (kmin 100 (tr pa + (-60))))) (mHap L T kk (nI pa) bb xc xp xs (nI j) U) := by
              have em : mTm xp bb = (-60) := by unfold mTm; rw [if_pos c_69, if_pos (by rw [c_78]; decide)]
              exact dz_yes (by unfold mHap; rw [if_neg c_7, if_pos c_37]; rw [mToss_eq c_45, em]; rw [if_pos c_69, if_pos (by rw [c_78]; decide)]; simp only [ef_22]) (TrV_add hT (can_p hT hpa c_45) (-60))
            have hP9 := hP.part (X := [(sm, .inr (2, [.ref aSL, .ref aST, .ref aR, .int f_22, .int xp, .int xs, .ref aSU, .int xn, .int xi, .int xl])), (aSL, .inl (cI, 4, .inl L)), (aST, .inl (cI, 4, .inl T)), (aSU, .inl (cI, 6, .inl (upd tr pa (kmax 0 (kmin 100 (tr pa + (-60)))))))]) (cx := [(sm, .inr (2, [.ref aSL, .ref aST, .ref aR, .int f_22, .int xp, .int xs, .ref aSU, .int xn, .int xi, .int xl])), (aSL, .inl (cI, 4, .inl L)), (aST, .inl (cI, 4, .inl T)), (aSU, .inl (cI, 6, .inl (upd tr pa (kmax 0 (kmin 100 (tr pa + (-60)))))))]) [0, 1, 2, 3] rfl
            have hD9 := hD.part (X := [(sm, .inr (2, [.ref aSL, .ref aST, .ref aR, .int f_22, .int xp, .int xs, .ref aSU, .int xn, .int xi, .int xl])), (aSL, .inl (cI, 4, .inl L)), (aST, .inl (cI, 4, .inl T)), (aSU, .inl (cI, 6, .inl (upd tr pa (kmax 0 (kmin 100 (tr pa + (-60)))))))]) (cx := [(sm, .inr (2, [.ref aSL, .ref aST, .ref aR, .int f_22, .int xp, .int xs, .ref aSU, .int xn, .int xi, .int xl])), (aSL, .inl (cI, 4, .inl L)), (aST, .inl (cI, 4, .inl T)), (aSU, .inl (cI, 6, .inl (upd tr pa (kmax 0 (kmin 100 (tr pa + (-60)))))))]) [0, 1, 2, 3] (by decide) rfl
            exact W.zret (v := 1) (ty := .boolean) hx hb hr (rfl) (fun t ht hW => ⟨⟨1, (f_22, xp, xs, (upd tr pa (kmax 0 (kmin 100 (tr pa + (-60)))))), rfl, hpost, by rw [ht]; exact hP9, hD9⟩, hS.F ht⟩) hS.2.2 dX2_does_275
      · -- 45
        refine lv_iconst (v := 0) hx hb dX2_does_48 (by decide) ?_
        have hpost : ((0 : Int32), xc, xp, xs) = hp4 (mHap L T kk (nI pa) bb xc xp xs (nI j) U) ∧ TrH tr (mHap L T kk (nI pa) bb xc xp xs (nI j) U) := by
          exact dz_no hT (by unfold mHap; rw [if_neg c_7, if_pos c_37]; rw [mToss_fst]; exact c_45)
        have hP9 := hP.part (X := [(sm, .inr (2, [.ref aSL, .ref aST, .ref aR, .int xc, .int xp, .int xs, .ref aSU, .int xn, .int xi, .int xl])), (aSL, .inl (cI, 4, .inl L)), (aST, .inl (cI, 4, .inl T)), (aSU, .inl (cI, 6, .inl tr))]) (cx := [(sm, .inr (2, [.ref aSL, .ref aST, .ref aR, .int xc, .int xp, .int xs, .ref aSU, .int xn, .int xi, .int xl])), (aSL, .inl (cI, 4, .inl L)), (aST, .inl (cI, 4, .inl T)), (aSU, .inl (cI, 6, .inl tr))]) [0, 1, 2, 3] rfl
        have hD9 := hD.part (X := [(sm, .inr (2, [.ref aSL, .ref aST, .ref aR, .int xc, .int xp, .int xs, .ref aSU, .int xn, .int xi, .int xl])), (aSL, .inl (cI, 4, .inl L)), (aST, .inl (cI, 4, .inl T)), (aSU, .inl (cI, 6, .inl tr))]) (cx := [(sm, .inr (2, [.ref aSL, .ref aST, .ref aR, .int xc, .int xp, .int xs, .ref aSU, .int xn, .int xi, .int xl])), (aSL, .inl (cI, 4, .inl L)), (aST, .inl (cI, 4, .inl T)), (aSU, .inl (cI, 6, .inl tr))]) [0, 1, 2, 3] (by decide) rfl
        exact W.zret (v := 0) (ty := .boolean) hx hb hr (rfl) (fun t ht hW => ⟨⟨0, (xc, xp, xs, tr), rfl, hpost, by rw [ht]; exact hP9, hD9⟩, hS.F ht⟩) hS.2.2 dX2_does_49
  · -- 7
    refine lv_aload_n hx hb dX2_does_10 rfl (lv_at hl 1 rfl) ?_
    have hPc := hP.sub (ws' := [(sm, .inr (2, [.ref aSL, .ref aST, .ref aR, .int xc, .int xp, .int xs, .ref aSU, .int xn, .int xi, .int xl])), (aSU, .inl (cI, 6, .inl tr))]) [0, 3] rfl
    have hDc := hD.sub (ws' := [(sm, .inr (2, [.ref aSL, .ref aST, .ref aR, .int xc, .int xp, .int xs, .ref aSU, .int xn, .int xi, .int xl])), (aSU, .inl (cI, 6, .inl tr))]) [0, 3] (by decide) rfl
    have hKc := hK.sub (tys' := [(cI, .int)]) [0] rfl
    have hFc := va_free (wc := [(sm, .inr (2, [.ref aSL, .ref aST, .ref aR, .int xc, .int xp, .int xs, .ref aSU, .int xn, .int xi, .int xl])), (aSU, .inl (cI, 6, .inl tr))]) hD hS hA [0, 3] rfl
    refine va_calli (va_runV (As := []) (rest := []) ⟨hx, hb, hml, hown, hts⟩ (c_X2_joined l dC dI cI sm aSU s.heap.size aSL aST aR xc xp xs xn xi xl tr j U (hT)) (cwV 0 hts gX2_does_X2_joined rfl rfl rfl (by decide +kernel) ⟨Nat.le_of_ble_eq_true rfl, Nat.le_of_ble_eq_true rfl⟩) (pc_V hKc hPc hDc (ci := 2) (C := RX2) (T := TX2) (N := 10) (q0 := 0) rfl rfl) rfl rfl hl.1 rfl (lv_room (Nat.le_of_ble_eq_true rfl)) dX2_does_11 ⟨Nat.le_of_ble_eq_true rfl, Nat.le_of_ble_eq_true rfl⟩) hS (fun q _ h => hFc q h) hFc (fun r_34 u t H_34 locs ht hvm hw hB hz1 hk1 hS => ?_)
    try dsimp only at hw hB
    have hw_34 := hw
    replace hw_34 := hw_34.symm
    subst hw_34
    obtain ⟨hP1, hD1⟩ := hB
    rw [ht] at hP1
    obtain ⟨hP, hD⟩ := va_joinQ (X := [(sm, .inr (2, [.ref aSL, .ref aST, .ref aR, .int xc, .int xp, .int xs, .ref aSU, .int xn, .int xi, .int xl])), (aSL, .inl (cI, 4, .inl L)), (aST, .inl (cI, 4, .inl T)), (aSU, .inl (cI, 6, .inl tr))]) (cx := [(sm, .inr (2, [.ref aSL, .ref aST, .ref aR, .int xc, .int xp, .int xs, .ref aSU, .int xn, .int xi, .int xl])), (aSU, .inl (cI, 6, .inl tr))]) (wr := [(aSL, .inl (cI, 4, .inl L)), (aST, .inl (cI, 4, .inl T))]) (w1 := [(sm, .inr (2, [.ref aSL, .ref aST, .ref aR, .int xc, .int xp, .int xs, .ref aSU, .int xn, .int xi, .int xl])), (aSU, .inl (cI, 6, .inl tr))]) hP hD [0, 3] [1, 2] rfl rfl (by decide) (by decide) hk1 hFc hP1 hD1
    have hP : va_P (dC, dI) vwCl ([(aSL, .inl (cI, 4, .inl L)), (aST, .inl (cI, 4, .inl T)), (sm, .inr (2, [.ref aSL, .ref aST, .ref aR, .int xc, .int xp, .int xs, .ref aSU, .int xn, .int xi, .int xl])), (aSU, .inl (cI, 6, .inl tr))] ++ va_pl RL (rowE cI row)) H_34 := hP
    have hD : va_D A ([(aSL, .inl (cI, 4, .inl L)), (aST, .inl (cI, 4, .inl T)), (sm, .inr (2, [.ref aSL, .ref aST, .ref aR, .int xc, .int xp, .int xs, .ref aSU, .int xn, .int xi, .int xl])), (aSU, .inl (cI, 6, .inl tr))] ++ va_pl RL (rowE cI row)) := hD
    have hP := hP.part (X := [(aSL, .inl (cI, 4, .inl L)), (aST, .inl (cI, 4, .inl T)), (sm, .inr (2, [.ref aSL, .ref aST, .ref aR, .int xc, .int xp, .int xs, .ref aSU, .int xn, .int xi, .int xl])), (aSU, .inl (cI, 6, .inl tr))]) (cx := [(sm, .inr (2, [.ref aSL, .ref aST, .ref aR, .int xc, .int xp, .int xs, .ref aSU, .int xn, .int xi, .int xl])), (aSL, .inl (cI, 4, .inl L)), (aST, .inl (cI, 4, .inl T)), (aSU, .inl (cI, 6, .inl tr))]) [2, 0, 1, 3] rfl
    have hD := hD.part (X := [(aSL, .inl (cI, 4, .inl L)), (aST, .inl (cI, 4, .inl T)), (sm, .inr (2, [.ref aSL, .ref aST, .ref aR, .int xc, .int xp, .int xs, .ref aSU, .int xn, .int xi, .int xl])), (aSU, .inl (cI, 6, .inl tr))]) (cx := [(sm, .inr (2, [.ref aSL, .ref aST, .ref aR, .int xc, .int xp, .int xs, .ref aSU, .int xn, .int xi, .int xl])), (aSL, .inl (cI, 4, .inl L)), (aST, .inl (cI, 4, .inl T)), (aSU, .inl (cI, 6, .inl tr))]) [2, 0, 1, 3] (by decide) rfl
    refine lv_istore_n (lv' := [(3, .int (nI j)), (2, .int aa), (0, .ref sm), (1, .ref a0)]) hx hb dX2_does_14 rfl hl (by decide) rfl (fun ls hl => ?_)
    refine lv_iload_n hx hb dX2_does_15 rfl (lv_at hl 0 rfl) ?_
    refine lv_bipush (v := 6) hx hb dX2_does_16 (by decide) ?_
    refine lv_icmp_ne (tgt := 23) hx hb dX2_does_18 (by decide) (fun c_18 => ?_) (fun c_18 => ?_)
    · -- 18
      have hj9 : j < 6 := j_lt hT c_18
      have hj6 : nI j < 6 := (six_lt hT.1).mpr hj9
      refine lv_aload_n hx hb dX2_does_23 rfl (lv_at hl 2 rfl) ?_
      refine va_get (D := (dC, dI)) (ci := 2) (v := .ref aSU) (C := RX2) (T := TX2) (N := 10) hx hb hts hinX2 hown hK hP 0 rfl rfl 6 (by decide) k3 (fun _ h9 => h9) rfl dX2_does_24 ?_
      refine lv_iload_n hx hb dX2_does_27 rfl (lv_at hl 0 rfl) ?_
      refine lv_iload_n hx hb dX2_does_28 rfl (lv_at hl 1 rfl) ?_
      refine va_iast hx hb hK hP hD hS 3 0 rfl rfl (vp_in_nI (by omega) (by omega)) dX2_does_29 (fun H_35 locs hP hD hS => ?_)
      have hP : va_P (dC, dI) vwCl ([(sm, .inr (2, [.ref aSL, .ref aST, .ref aR, .int xc, .int xp, .int xs, .ref aSU, .int xn, .int xi, .int xl])), (aSL, .inl (cI, 4, .inl L)), (aST, .inl (cI, 4, .inl T)), (aSU, .inl (cI, 6, .inl (upd tr ((nI j).toNatClampNeg) aa)))] ++ va_pl RL (rowE cI row)) H_35 := hP
      have hD : va_D A ([(sm, .inr (2, [.ref aSL, .ref aST, .ref aR, .int xc, .int xp, .int xs, .ref aSU, .int xn, .int xi, .int xl])), (aSL, .inl (cI, 4, .inl L)), (aST, .inl (cI, 4, .inl T)), (aSU, .inl (cI, 6, .inl (upd tr ((nI j).toNatClampNeg) aa)))] ++ va_pl RL (rowE cI row)) := hD
      rw [nI_clamp (by omega)] at hP hD
      have hP : va_P (dC, dI) vwCl ([(sm, .inr (2, [.ref aSL, .ref aST, .ref aR, .int xc, .int xp, .int xs, .ref aSU, .int xn, .int xi, .int xl])), (aSL, .inl (cI, 4, .inl L)), (aST, .inl (cI, 4, .inl T)), (aSU, .inl (cI, 6, .inl (upd tr (j) aa)))] ++ va_pl RL (rowE cI row)) H_35 := hP
      have hD : va_D A ([(sm, .inr (2, [.ref aSL, .ref aST, .ref aR, .int xc, .int xp, .int xs, .ref aSU, .int xn, .int xi, .int xl])), (aSL, .inl (cI, 4, .inl L)), (aST, .inl (cI, 4, .inl T)), (aSU, .inl (cI, 6, .inl (upd tr (j) aa)))] ++ va_pl RL (rowE cI row)) := hD
      refine lv_goto (tgt := 274) hx hb dX2_does_30 (by decide) ?_
      refine lv_iconst (v := 1) hx hb dX2_does_274 (by decide) ?_
      have hpost : ((1 : Int32), xc, xp, xs) = hp4 (mHap L T kk aa bb xc xp xs (nI j) U) ∧ TrH (upd tr (j) aa) (mHap L T kk aa bb xc xp xs (nI j) U) := by
        exact dz_yes (by unfold mHap; rw [if_pos c_7]; unfold mJoin; rw [if_pos hj6, nI_1]) (TrV_join hT hj9 (hjo c_7))
      have hP9 := hP.part (X := [(sm, .inr (2, [.ref aSL, .ref aST, .ref aR, .int xc, .int xp, .int xs, .ref aSU, .int xn, .int xi, .int xl])), (aSL, .inl (cI, 4, .inl L)), (aST, .inl (cI, 4, .inl T)), (aSU, .inl (cI, 6, .inl (upd tr (j) aa)))]) (cx := [(sm, .inr (2, [.ref aSL, .ref aST, .ref aR, .int xc, .int xp, .int xs, .ref aSU, .int xn, .int xi, .int xl])), (aSL, .inl (cI, 4, .inl L)), (aST, .inl (cI, 4, .inl T)), (aSU, .inl (cI, 6, .inl (upd tr (j) aa)))]) [0, 1, 2, 3] rfl
      have hD9 := hD.part (X := [(sm, .inr (2, [.ref aSL, .ref aST, .ref aR, .int xc, .int xp, .int xs, .ref aSU, .int xn, .int xi, .int xl])), (aSL, .inl (cI, 4, .inl L)), (aST, .inl (cI, 4, .inl T)), (aSU, .inl (cI, 6, .inl (upd tr (j) aa)))]) (cx := [(sm, .inr (2, [.ref aSL, .ref aST, .ref aR, .int xc, .int xp, .int xs, .ref aSU, .int xn, .int xi, .int xl])), (aSL, .inl (cI, 4, .inl L)), (aST, .inl (cI, 4, .inl T)), (aSU, .inl (cI, 6, .inl (upd tr (j) aa)))]) [0, 1, 2, 3] (by decide) rfl
      exact W.zret (v := 1) (ty := .boolean) hx hb hr (rfl) (fun t ht hW => ⟨⟨1, (xc, xp, xs, upd tr (j) aa), rfl, hpost, by rw [ht]; exact hP9, hD9⟩, hS.F ht⟩) hS.2.2 dX2_does_275
    · -- 18
      refine lv_iconst (v := 0) hx hb dX2_does_21 (by decide) ?_
      have hpost : ((0 : Int32), xc, xp, xs) = hp4 (mHap L T kk aa bb xc xp xs (nI j) U) ∧ TrH tr (mHap L T kk aa bb xc xp xs (nI j) U) := by
        exact dz_no hT (by unfold mHap; rw [if_pos c_7]; unfold mJoin; rw [if_neg (by rw [c_18]; decide)])
      have hP9 := hP.part (X := [(sm, .inr (2, [.ref aSL, .ref aST, .ref aR, .int xc, .int xp, .int xs, .ref aSU, .int xn, .int xi, .int xl])), (aSL, .inl (cI, 4, .inl L)), (aST, .inl (cI, 4, .inl T)), (aSU, .inl (cI, 6, .inl tr))]) (cx := [(sm, .inr (2, [.ref aSL, .ref aST, .ref aR, .int xc, .int xp, .int xs, .ref aSU, .int xn, .int xi, .int xl])), (aSL, .inl (cI, 4, .inl L)), (aST, .inl (cI, 4, .inl T)), (aSU, .inl (cI, 6, .inl tr))]) [0, 1, 2, 3] rfl
      have hD9 := hD.part (X := [(sm, .inr (2, [.ref aSL, .ref aST, .ref aR, .int xc, .int xp, .int xs, .ref aSU, .int xn, .int xi, .int xl])), (aSL, .inl (cI, 4, .inl L)), (aST, .inl (cI, 4, .inl T)), (aSU, .inl (cI, 6, .inl tr))]) (cx := [(sm, .inr (2, [.ref aSL, .ref aST, .ref aR, .int xc, .int xp, .int xs, .ref aSU, .int xn, .int xi, .int xl])), (aSL, .inl (cI, 4, .inl L)), (aST, .inl (cI, 4, .inl T)), (aSU, .inl (cI, 6, .inl tr))]) [0, 1, 2, 3] (by decide) rfl
      exact W.zret (v := 0) (ty := .boolean) hx hb hr (rfl) (fun t ht hW => ⟨⟨0, (xc, xp, xs, tr), rfl, hpost, by rw [ht]; exact hP9, hD9⟩, hS.F ht⟩) hS.2.2 dX2_does_22
