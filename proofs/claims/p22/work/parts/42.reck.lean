/-- what is read off a reckoning by Sim -/
def five (s : T9) : Int32 × Int32 × Int32 × Int32 × Int32 := (s.1, s.2.1, s.2.2.1, s.2.2.2.2.1, s.2.2.2.2.2.1)
def TrS (tr : N2I) (s : T9) : Prop := ∃ j, s.2.2.2.1 = nI j ∧ TrV tr j s.2.2.2.2.2.2.2.2
/-- what holds of what was written, beside okE -/
def okY (K F S : N2I) (n : Nat) : Prop := ∀ i, i < n → (K i = 0 → vp_in (F i) 101) ∧ (K i = 4 → vp_in (S i) 100) ∧ vp_in (K i) 6
def aLast (L T K F S B : N2I) : Nat → Int32
  | 0 => 0
  | k + 1 => if aCnt L T K F S B k = 0 then 0 else 1
theorem TrS_0 {L T K F S B : N2I} : TrS (upd (upd (upd (upd (upd (upd (fun _ => 0) 0 (-1)) 1 (-1)) 2 (-1)) 3 (-1)) 4 (-1)) 5 (-1)) (cRec L T K F S B 0) := by
  refine ⟨0, rfl, by omega, fun p hp => ?_, fun q hq => absurd hq (by omega)⟩
  have c : p = 0 ∨ p = 1 ∨ p = 2 ∨ p = 3 ∨ p = 4 ∨ p = 5 := by omega
  rcases c with rfl | rfl | rfl | rfl | rfl | rfl <;> rfl
theorem sim_at {L T K F S B : N2I} {n k : Nat} {xc xp xs xn xi : Int32} {tr : N2I} (hX : okX K F S B n) (hk : k ≤ n) (hs : (xc, xp, xs, xn, xi) = five (cRec L T K F S B k)) (hT : TrS tr (cRec L T K F S B k)) : ∃ (j q : Nat) (fi fe : Int32) (U : N2I), (xc, xp, xs, nI j, xn, xi, fi, fe, U) = cRec L T K F S B k ∧ TrV tr j U ∧ vp_in xs 4 ∧ xp = nI q ∧ q < 2000 := by
  generalize hg : cRec L T K F S B k = g at hs hT ⊢
  obtain ⟨co, pl, st, jo, cn, ii, fi, fe, U⟩ := g
  unfold five at hs
  dsimp only at hs
  cases hs
  obtain ⟨j, hj, hTV⟩ := hT
  dsimp only at hj hTV
  subst hj
  obtain ⟨hst, -, -⟩ := okX_hap hX hk hg.symm
  obtain ⟨q, hq⟩ := okX_pl hX hk hg.symm
  exact ⟨j, q, fi, fe, U, rfl, hTV, hst, hq.1, hq.2⟩
theorem hp4_of {r c p s : Int32} {h : Int32 × T5} (e : (r, c, p, s) = hp4 h) : r = h.1 ∧ c = h.2.1 ∧ p = h.2.2.1 ∧ s = h.2.2.2.1 := by
  unfold hp4 at e
  cases e
  exact ⟨rfl, rfl, rfl, rfl⟩
theorem cRec_take {L T K F S B : N2I} {k : Nat} (hb : B k = 0) : cRec L T K F S B (k + 1) = mStep9 L T (nI k) (K k) (F k) (S k) (cRec L T K F S B k) := mRec_take hb
theorem cRec_skip {L T K F S B : N2I} {k : Nat} (hb : ¬ B k = 0) : cRec L T K F S B (k + 1) = cRec L T K F S B k := mRec_skip hb
theorem sim_no {L T K F S B : N2I} {k j : Nat} {xc xp xs xn xi fi fe xc1 xp1 xs1 : Int32} {U : N2I} (hb : B k = 0) (e : (xc, xp, xs, nI j, xn, xi, fi, fe, U) = cRec L T K F S B k) (h0 : (mHap L T (K k) (F k) (S k) xc xp xs (nI j) U).1 = 0) (h1 : xc1 = (mHap L T (K k) (F k) (S k) xc xp xs (nI j) U).2.1 ∧ xp1 = (mHap L T (K k) (F k) (S k) xc xp xs (nI j) U).2.2.1 ∧ xs1 = (mHap L T (K k) (F k) (S k) xc xp xs (nI j) U).2.2.2.1) : (xc1, xp1, xs1, xn, xi + 1) = five (cRec L T K F S B (k + 1)) := by
  rw [cRec_take hb, ← e]
  show _ = five (mFin (nI k) xn xi fi fe (mHap L T (K k) (F k) (S k) xc xp xs (nI j) U))
  generalize mHap L T (K k) (F k) (S k) xc xp xs (nI j) U = g at h0 h1
  obtain ⟨r, co', pl', st', jo', U'⟩ := g
  dsimp only at h0 h1
  obtain ⟨rfl, rfl, rfl⟩ := h1
  unfold mFin
  dsimp only
  rw [if_pos h0]
  rfl
theorem sim_yes {L T K F S B : N2I} {k j : Nat} {xc xp xs xn xi fi fe xc1 xp1 xs1 : Int32} {U : N2I} (hb : B k = 0) (e : (xc, xp, xs, nI j, xn, xi, fi, fe, U) = cRec L T K F S B k) (h0 : ¬ (mHap L T (K k) (F k) (S k) xc xp xs (nI j) U).1 = 0) (h1 : xc1 = (mHap L T (K k) (F k) (S k) xc xp xs (nI j) U).2.1 ∧ xp1 = (mHap L T (K k) (F k) (S k) xc xp xs (nI j) U).2.2.1 ∧ xs1 = (mHap L T (K k) (F k) (S k) xc xp xs (nI j) U).2.2.2.1) : (xc1, xp1, xs1, xn + 1, xi) = five (cRec L T K F S B (k + 1)) := by
  rw [cRec_take hb, ← e]
  show _ = five (mFin (nI k) xn xi fi fe (mHap L T (K k) (F k) (S k) xc xp xs (nI j) U))
  generalize mHap L T (K k) (F k) (S k) xc xp xs (nI j) U = g at h0 h1
  obtain ⟨r, co', pl', st', jo', U'⟩ := g
  dsimp only at h0 h1
  obtain ⟨rfl, rfl, rfl⟩ := h1
  unfold mFin
  dsimp only
  rw [if_neg h0]
  rfl
theorem simT {L T K F S B : N2I} {k j : Nat} {xc xp xs xn xi fi fe : Int32} {U tr1 : N2I} (hb : B k = 0) (e : (xc, xp, xs, nI j, xn, xi, fi, fe, U) = cRec L T K F S B k) (h : TrH tr1 (mHap L T (K k) (F k) (S k) xc xp xs (nI j) U)) : TrS tr1 (cRec L T K F S B (k + 1)) := by
  rw [cRec_take hb, ← e]
  show TrS tr1 (mFin (nI k) xn xi fi fe (mHap L T (K k) (F k) (S k) xc xp xs (nI j) U))
  generalize mHap L T (K k) (F k) (S k) xc xp xs (nI j) U = g at h
  obtain ⟨r, co', pl', st', jo', U'⟩ := g
  obtain ⟨j1, h1, h2⟩ := h
  unfold mFin
  dsimp only at h1 h2 ⊢
  split
  · exact ⟨j1, h1, h2⟩
  · exact ⟨j1, h1, h2⟩
theorem aLast_skip {L T K F S B : N2I} {k : Nat} (hb : ¬ B k = 0) : aLast L T K F S B (k + 1) = 0 := by
  show (if aCnt L T K F S B k = 0 then 0 else 1) = (0 : Int32)
  unfold aCnt
  rw [if_neg hb, if_pos rfl]
theorem aCnt_hap {L T K F S B : N2I} {k j : Nat} {xc xp xs xn xi fi fe : Int32} {U : N2I} (hb : B k = 0) (e : (xc, xp, xs, nI j, xn, xi, fi, fe, U) = cRec L T K F S B k) : aCnt L T K F S B k = (mHap L T (K k) (F k) (S k) xc xp xs (nI j) U).1 := by
  unfold aCnt
  rw [if_pos hb, ← e]
  rfl
theorem aLast_no {L T K F S B : N2I} {k j : Nat} {xc xp xs xn xi fi fe : Int32} {U : N2I} (hb : B k = 0) (e : (xc, xp, xs, nI j, xn, xi, fi, fe, U) = cRec L T K F S B k) (h0 : (mHap L T (K k) (F k) (S k) xc xp xs (nI j) U).1 = 0) : aLast L T K F S B (k + 1) = 0 := by
  show (if aCnt L T K F S B k = 0 then 0 else 1) = (0 : Int32)
  rw [aCnt_hap hb e, if_pos h0]
theorem aLast_yes {L T K F S B : N2I} {k j : Nat} {xc xp xs xn xi fi fe : Int32} {U : N2I} (hb : B k = 0) (e : (xc, xp, xs, nI j, xn, xi, fi, fe, U) = cRec L T K F S B k) (h0 : ¬ (mHap L T (K k) (F k) (S k) xc xp xs (nI j) U).1 = 0) : aLast L T K F S B (k + 1) = 1 := by
  show (if aCnt L T K F S B k = 0 then 0 else 1) = (1 : Int32)
  rw [aCnt_hap hb e, if_neg h0]
set_option maxHeartbeats 4000000 in
set_option maxRecDepth 100000 in
theorem c_X2_reckon (l : Launch) (dC : Nat → ClassId) (dI : Nat → Nat → Nat) (cI cR : ClassId) (sm aSL aST aR : Nat) (sz : Nat)  (xc : Int32) (xp : Int32) (xs : Int32) (tv : Value) (xn : Int32) (xi : Int32) (xl : Int32) (L : N2I) (T : N2I) (n : Nat) (ra : Nat → Option Nat) (RL : List Nat) (row : Nat → Nat → Int32) (mm : Nat) (K : N2I) (F : N2I) (S : N2I) (B : N2I) (hm : mm ≤ n) (hX : okX K F S B n) (hY : okY K F S n) (hoL : okL L T) (hR : RW n ra RL row K F S B) : Met l yX2_reckon wsX2_reckon ({ frames := 2, cells := 1, slots := 6, locals := 50 } : Room) (va_Pc [.ref sm, .int (nI mm)] (pa_  (dC, dI) [(cI, .int), (cR, (.array .int))] ([(sm, .inr (2, [.ref aSL, .ref aST, .ref aR, .int xc, .int xp, .int xs, tv, .int xn, .int xi, .int xl])), (aSL, .inl (cI, 4, .inl L)), (aST, .inl (cI, 4, .inl T)), (aR, .inl (cR, n, .inr (.inr (.inr (.inr ra)))))] ++ va_pl RL (rowE cI row)) sz)) (va_Qi (fun (r : Int32) (u : Nat × Int32 × Int32 × Int32 × Int32 × Int32 × Int32 × N2I) => r = u.2.1 ∧ (u.2.1, u.2.2.1, u.2.2.2.1, u.2.2.2.2.1, u.2.2.2.2.2.1) = five (cRec L T K F S B mm) ∧ TrS u.2.2.2.2.2.2.2 (cRec L T K F S B mm) ∧ u.2.2.2.2.2.2.1 = aLast L T K F S B mm) (fun (u : Nat × Int32 × Int32 × Int32 × Int32 × Int32 × Int32 × N2I) (t : State) => va_P (dC, dI) vwCl ([(sm, .inr (2, [.ref aSL, .ref aST, .ref aR, .int u.2.1, .int u.2.2.1, .int u.2.2.2.1, .ref u.1, .int u.2.2.2.2.1, .int u.2.2.2.2.2.1, .int u.2.2.2.2.2.2.1])), (aSL, .inl (cI, 4, .inl L)), (aST, .inl (cI, 4, .inl T)), (aR, .inl (cR, n, .inr (.inr (.inr (.inr ra))))), (u.1, .inl (cI, 6, .inl u.2.2.2.2.2.2.2))] ++ va_pl RL (rowE cI row)) t.heap ∧ va_D (va_A ([(sm, .inr (2, [.ref aSL, .ref aST, .ref aR, .int xc, .int xp, .int xs, tv, .int xn, .int xi, .int xl])), (aSL, .inl (cI, 4, .inl L)), (aST, .inl (cI, 4, .inl T)), (aR, .inl (cR, n, .inr (.inr (.inr (.inr ra)))))] ++ va_pl RL (rowE cI row)) sz) ([(sm, .inr (2, [.ref aSL, .ref aST, .ref aR, .int u.2.1, .int u.2.2.1, .int u.2.2.2.1, .ref u.1, .int u.2.2.2.2.1, .int u.2.2.2.2.2.1, .int u.2.2.2.2.2.2.1])), (aSL, .inl (cI, 4, .inl L)), (aST, .inl (cI, 4, .inl T)), (aR, .inl (cR, n, .inr (.inr (.inr (.inr ra))))), (u.1, .inl (cI, 6, .inl u.2.2.2.2.2.2.2))] ++ va_pl RL (rowE cI row))) (va_A ([(sm, .inr (2, [.ref aSL, .ref aST, .ref aR, .int xc, .int xp, .int xs, tv, .int xn, .int xi, .int xl])), (aSL, .inl (cI, 4, .inl L)), (aST, .inl (cI, 4, .inl T)), (aR, .inl (cR, n, .inr (.inr (.inr (.inr ra)))))] ++ va_pl RL (rowE cI row)) sz)) 1 6 (va_A ([(sm, .inr (2, [.ref aSL, .ref aST, .ref aR, .int xc, .int xp, .int xs, tv, .int xn, .int xi, .int xl])), (aSL, .inl (cI, 4, .inl L)), (aST, .inl (cI, 4, .inl T)), (aR, .inl (cR, n, .inr (.inr (.inr (.inr ra)))))] ++ va_pl RL (rowE cI row)) sz) := by
  refine Met.ofW (cc := cX2_reckon) (maxL := 3) (ret := (some .int)) (by decide) rfl ?_
  intro p e s m args below meth c s₁ BB hml hv
  obtain ⟨rfl, hsz, hP, hK, hD0, hN, hov⟩ := hv
  have hx := BB.exec
  have hb := BB.bytes
  have hr := BB.returns
  have hts := atoms_spec (ws := wsX2_reckon) BB.pre
  have hown : s.vm.findClass RX2 = some m.cls := findClass_of_methodNamed BB.named
  have hlocks := BB.notSynchronized
  subst hsz
  have hD := hD0.self (sz := s.heap.size)
  generalize hAe : va_A ([(sm, .inr (2, [.ref aSL, .ref aST, .ref aR, .int xc, .int xp, .int xs, tv, .int xn, .int xi, .int xl])), (aSL, .inl (cI, 4, .inl L)), (aST, .inl (cI, 4, .inl T)), (aR, .inl (cR, n, .inr (.inr (.inr (.inr ra)))))] ++ va_pl RL (rowE cI row)) s.heap.size = A at hD ⊢
  have hA : ∀ q : Nat, s.heap.size ≤ q → A q := fun q h => by rw [← hAe]; exact Or.inr h
  have hS : va_S A s.heap s.heap [] := va_S.rf
  have hP : va_P (dC, dI) vwCl ([(sm, .inr (2, [.ref aSL, .ref aST, .ref aR, .int xc, .int xp, .int xs, tv, .int xn, .int xi, .int xl])), (aSL, .inl (cI, 4, .inl L)), (aST, .inl (cI, 4, .inl T)), (aR, .inl (cR, n, .inr (.inr (.inr (.inr ra)))))] ++ va_pl RL (rowE cI row)) s.heap := hP
  have hl := lv_entry ([.ref sm, .int (nI mm)]) (n := 3) (Nat.le_of_ble_eq_true rfl)
  rw [lg_entry_eq]
  generalize (lg_sl ([.ref sm, .int (nI mm)]) ++ List.replicate (3 - (lg_sl ([.ref sm, .int (nI mm)])).length) Slot.unset).toArray = ls at hl ⊢
  have hl : lv_has ls 3 [(0, .ref sm), (1, .int (nI mm))] := hl
  have k0 := hts (.fieldLink RX2 36 "KnifeLedgerLaw$Sim" "coins" "I") (by decide +kernel)
  have hinX2 : ∀ w ∈ wsX20, w ∈ wsX2_reckon := by decide +kernel
  have k2 := hts (.fieldLink RX2 43 "KnifeLedgerLaw$Sim" "plasters" "I") (by decide +kernel)
  have k3 := hts (.fieldLink RX2 24 "KnifeLedgerLaw$Sim" "stage" "I") (by decide +kernel)
  have k4 := hts (.arrayClass .int) (by decide +kernel)
  have k5 := hts (.fieldLink RX2 21 "KnifeLedgerLaw$Sim" "trust" "[I") (by decide +kernel)
  have k6 := hts (.fieldLink RX2 50 "KnifeLedgerLaw$Sim" "counts" "I") (by decide +kernel)
  have k7 := hts (.fieldLink RX2 53 "KnifeLedgerLaw$Sim" "idle" "I") (by decide +kernel)
  have k8 := hts (.fieldLink RX2 56 "KnifeLedgerLaw$Sim" "isLast" "Z") (by decide +kernel)
  have k9 := hts (.fieldLink RX2 17 "KnifeLedgerLaw$Sim" "rows" "[[I") (by decide +kernel)
  refine lv_aload_n hx hb dX2_reckon_0 rfl (lv_at hl 0 rfl) ?_
  refine lv_bipush (v := 10) hx hb dX2_reckon_1 (by decide) ?_
  refine va_put (D := (dC, dI)) (ci := 2) (v := .int 10) (ty := .int) (C := RX2) (T := TX2) (N := 10) hx hb hts hinX2 tyX2 tyX2_ok nmX2 hown hK hP hD hS 0 rfl rfl 3 (by decide) k0 (fun _ h9 => h9) rfl (by decide +kernel) rfl rfl (Nat.le_of_ble_eq_true rfl) dX2_reckon_3 (fun H_1 locs hP hD hS => ?_)
  have hP : va_P (dC, dI) vwCl ([(sm, .inr (2, [.ref aSL, .ref aST, .ref aR, .int 10, .int xp, .int xs, tv, .int xn, .int xi, .int xl])), (aSL, .inl (cI, 4, .inl L)), (aST, .inl (cI, 4, .inl T)), (aR, .inl (cR, n, .inr (.inr (.inr (.inr ra)))))] ++ va_pl RL (rowE cI row)) H_1 := hP
  have hD : va_D A ([(sm, .inr (2, [.ref aSL, .ref aST, .ref aR, .int 10, .int xp, .int xs, tv, .int xn, .int xi, .int xl])), (aSL, .inl (cI, 4, .inl L)), (aST, .inl (cI, 4, .inl T)), (aR, .inl (cR, n, .inr (.inr (.inr (.inr ra)))))] ++ va_pl RL (rowE cI row)) := hD
  refine lv_aload_n hx hb dX2_reckon_6 rfl (lv_at hl 0 rfl) ?_
  refine lv_iconst (v := 0) hx hb dX2_reckon_7 (by decide) ?_
  refine va_put (D := (dC, dI)) (ci := 2) (v := .int 0) (ty := .int) (C := RX2) (T := TX2) (N := 10) hx hb hts hinX2 tyX2 tyX2_ok nmX2 hown hK hP hD hS 0 rfl rfl 4 (by decide) k2 (fun _ h9 => h9) rfl (by decide +kernel) rfl rfl (Nat.le_of_ble_eq_true rfl) dX2_reckon_8 (fun H_2 locs hP hD hS => ?_)
  have hP : va_P (dC, dI) vwCl ([(sm, .inr (2, [.ref aSL, .ref aST, .ref aR, .int 10, .int 0, .int xs, tv, .int xn, .int xi, .int xl])), (aSL, .inl (cI, 4, .inl L)), (aST, .inl (cI, 4, .inl T)), (aR, .inl (cR, n, .inr (.inr (.inr (.inr ra)))))] ++ va_pl RL (rowE cI row)) H_2 := hP
  have hD : va_D A ([(sm, .inr (2, [.ref aSL, .ref aST, .ref aR, .int 10, .int 0, .int xs, tv, .int xn, .int xi, .int xl])), (aSL, .inl (cI, 4, .inl L)), (aST, .inl (cI, 4, .inl T)), (aR, .inl (cR, n, .inr (.inr (.inr (.inr ra)))))] ++ va_pl RL (rowE cI row)) := hD
  refine lv_aload_n hx hb dX2_reckon_11 rfl (lv_at hl 0 rfl) ?_
  refine lv_iconst (v := 0) hx hb dX2_reckon_12 (by decide) ?_
  refine va_put (D := (dC, dI)) (ci := 2) (v := .int 0) (ty := .int) (C := RX2) (T := TX2) (N := 10) hx hb hts hinX2 tyX2 tyX2_ok nmX2 hown hK hP hD hS 0 rfl rfl 5 (by decide) k3 (fun _ h9 => h9) rfl (by decide +kernel) rfl rfl (Nat.le_of_ble_eq_true rfl) dX2_reckon_13 (fun H_3 locs hP hD hS => ?_)
  have hP : va_P (dC, dI) vwCl ([(sm, .inr (2, [.ref aSL, .ref aST, .ref aR, .int 10, .int 0, .int 0, tv, .int xn, .int xi, .int xl])), (aSL, .inl (cI, 4, .inl L)), (aST, .inl (cI, 4, .inl T)), (aR, .inl (cR, n, .inr (.inr (.inr (.inr ra)))))] ++ va_pl RL (rowE cI row)) H_3 := hP
  have hD : va_D A ([(sm, .inr (2, [.ref aSL, .ref aST, .ref aR, .int 10, .int 0, .int 0, tv, .int xn, .int xi, .int xl])), (aSL, .inl (cI, 4, .inl L)), (aST, .inl (cI, 4, .inl T)), (aR, .inl (cR, n, .inr (.inr (.inr (.inr ra)))))] ++ va_pl RL (rowE cI row)) := hD
  refine lv_aload_n hx hb dX2_reckon_16 rfl (lv_at hl 0 rfl) ?_
  refine lv_bipush (v := 6) hx hb dX2_reckon_17 (by decide) ?_
  refine va_newa (atype := .int) (ty := .int) (a0 := (6, .inl (fun _ => 0))) hx hb k4 rfl hK hP hD hS hA (fun _ => rfl) (by decide) (by decide) (by decide) (by decide) (by decide) dX2_reckon_19 (fun q_19 cA_19 H_4 hK hP hD hS => ?_)
  have hK : va_K (dC, dI) vwCl [(cI, .int), (cR, (.array .int)), (cA_19, .int)] s := hK
  have hP := va_P.swap (a := [(sm, .inr (2, [.ref aSL, .ref aST, .ref aR, .int 10, .int 0, .int 0, tv, .int xn, .int xi, .int xl])), (aSL, .inl (cI, 4, .inl L)), (aST, .inl (cI, 4, .inl T)), (aR, .inl (cR, n, .inr (.inr (.inr (.inr ra)))))]) (b := va_pl RL (rowE cI row)) (c := [(q_19, .inl (cA_19, 6, .inl (fun _ => 0)))]) hP
  have hD := va_D.swap (a := [(sm, .inr (2, [.ref aSL, .ref aST, .ref aR, .int 10, .int 0, .int 0, tv, .int xn, .int xi, .int xl])), (aSL, .inl (cI, 4, .inl L)), (aST, .inl (cI, 4, .inl T)), (aR, .inl (cR, n, .inr (.inr (.inr (.inr ra)))))]) (b := va_pl RL (rowE cI row)) (c := [(q_19, .inl (cA_19, 6, .inl (fun _ => 0)))]) hD
  have hP : va_P (dC, dI) vwCl ([(sm, .inr (2, [.ref aSL, .ref aST, .ref aR, .int 10, .int 0, .int 0, tv, .int xn, .int xi, .int xl])), (aSL, .inl (cI, 4, .inl L)), (aST, .inl (cI, 4, .inl T)), (aR, .inl (cR, n, .inr (.inr (.inr (.inr ra))))), (q_19, .inl (cA_19, 6, .inl (fun _ => 0)))] ++ va_pl RL (rowE cI row)) H_4 := hP
  have hD : va_D A ([(sm, .inr (2, [.ref aSL, .ref aST, .ref aR, .int 10, .int 0, .int 0, tv, .int xn, .int xi, .int xl])), (aSL, .inl (cI, 4, .inl L)), (aST, .inl (cI, 4, .inl T)), (aR, .inl (cR, n, .inr (.inr (.inr (.inr ra))))), (q_19, .inl (cA_19, 6, .inl (fun _ => 0)))] ++ va_pl RL (rowE cI row)) := hD
  obtain rfl : cI = cA_19 := arr_same hK 0 2 rfl rfl
  have hK := hK.sub (tys' := [(cI, .int), (cR, (.array .int))]) [0, 1] rfl
  refine W.widen (k := 1) (n := 6) (by decide) (by decide) ?_
  refine lv_dup hx hb dX2_reckon_21 rfl ?_
  refine lv_iconst (v := 0) hx hb dX2_reckon_22 (by decide) ?_
  refine lv_iconst (v := (-1)) hx hb dX2_reckon_23 (by decide) ?_
  refine va_iast hx hb hK hP hD hS 4 0 rfl rfl (vp_in_nI (n := 0) (by omega) (by omega)) dX2_reckon_24 (fun H_5 locs hP hD hS => ?_)
  have hP : va_P (dC, dI) vwCl ([(sm, .inr (2, [.ref aSL, .ref aST, .ref aR, .int 10, .int 0, .int 0, tv, .int xn, .int xi, .int xl])), (aSL, .inl (cI, 4, .inl L)), (aST, .inl (cI, 4, .inl T)), (aR, .inl (cR, n, .inr (.inr (.inr (.inr ra))))), (q_19, .inl (cI, 6, .inl (upd (fun _ => 0) (0) (-1))))] ++ va_pl RL (rowE cI row)) H_5 := hP
  have hD : va_D A ([(sm, .inr (2, [.ref aSL, .ref aST, .ref aR, .int 10, .int 0, .int 0, tv, .int xn, .int xi, .int xl])), (aSL, .inl (cI, 4, .inl L)), (aST, .inl (cI, 4, .inl T)), (aR, .inl (cR, n, .inr (.inr (.inr (.inr ra))))), (q_19, .inl (cI, 6, .inl (upd (fun _ => 0) (0) (-1))))] ++ va_pl RL (rowE cI row)) := hD
  refine lv_dup hx hb dX2_reckon_25 rfl ?_
  refine lv_iconst (v := 1) hx hb dX2_reckon_26 (by decide) ?_
  refine lv_iconst (v := (-1)) hx hb dX2_reckon_27 (by decide) ?_
  refine va_iast hx hb hK hP hD hS 4 0 rfl rfl (vp_in_nI (n := 1) (by omega) (by omega)) dX2_reckon_28 (fun H_6 locs hP hD hS => ?_)
  have hP : va_P (dC, dI) vwCl ([(sm, .inr (2, [.ref aSL, .ref aST, .ref aR, .int 10, .int 0, .int 0, tv, .int xn, .int xi, .int xl])), (aSL, .inl (cI, 4, .inl L)), (aST, .inl (cI, 4, .inl T)), (aR, .inl (cR, n, .inr (.inr (.inr (.inr ra))))), (q_19, .inl (cI, 6, .inl (upd (upd (fun _ => 0) (0) (-1)) (1) (-1))))] ++ va_pl RL (rowE cI row)) H_6 := hP
  have hD : va_D A ([(sm, .inr (2, [.ref aSL, .ref aST, .ref aR, .int 10, .int 0, .int 0, tv, .int xn, .int xi, .int xl])), (aSL, .inl (cI, 4, .inl L)), (aST, .inl (cI, 4, .inl T)), (aR, .inl (cR, n, .inr (.inr (.inr (.inr ra))))), (q_19, .inl (cI, 6, .inl (upd (upd (fun _ => 0) (0) (-1)) (1) (-1))))] ++ va_pl RL (rowE cI row)) := hD
  refine lv_dup hx hb dX2_reckon_29 rfl ?_
  refine lv_iconst (v := 2) hx hb dX2_reckon_30 (by decide) ?_
  refine lv_iconst (v := (-1)) hx hb dX2_reckon_31 (by decide) ?_
  refine va_iast hx hb hK hP hD hS 4 0 rfl rfl (vp_in_nI (n := 2) (by omega) (by omega)) dX2_reckon_32 (fun H_7 locs hP hD hS => ?_)
  have hP : va_P (dC, dI) vwCl ([(sm, .inr (2, [.ref aSL, .ref aST, .ref aR, .int 10, .int 0, .int 0, tv, .int xn, .int xi, .int xl])), (aSL, .inl (cI, 4, .inl L)), (aST, .inl (cI, 4, .inl T)), (aR, .inl (cR, n, .inr (.inr (.inr (.inr ra))))), (q_19, .inl (cI, 6, .inl (upd (upd (upd (fun _ => 0) (0) (-1)) (1) (-1)) (2) (-1))))] ++ va_pl RL (rowE cI row)) H_7 := hP
  have hD : va_D A ([(sm, .inr (2, [.ref aSL, .ref aST, .ref aR, .int 10, .int 0, .int 0, tv, .int xn, .int xi, .int xl])), (aSL, .inl (cI, 4, .inl L)), (aST, .inl (cI, 4, .inl T)), (aR, .inl (cR, n, .inr (.inr (.inr (.inr ra))))), (q_19, .inl (cI, 6, .inl (upd (upd (upd (fun _ => 0) (0) (-1)) (1) (-1)) (2) (-1))))] ++ va_pl RL (rowE cI row)) := hD
  refine lv_dup hx hb dX2_reckon_33 rfl ?_
  refine lv_iconst (v := 3) hx hb dX2_reckon_34 (by decide) ?_
  refine lv_iconst (v := (-1)) hx hb dX2_reckon_35 (by decide) ?_
  refine va_iast hx hb hK hP hD hS 4 0 rfl rfl (vp_in_nI (n := 3) (by omega) (by omega)) dX2_reckon_36 (fun H_8 locs hP hD hS => ?_)
  have hP : va_P (dC, dI) vwCl ([(sm, .inr (2, [.ref aSL, .ref aST, .ref aR, .int 10, .int 0, .int 0, tv, .int xn, .int xi, .int xl])), (aSL, .inl (cI, 4, .inl L)), (aST, .inl (cI, 4, .inl T)), (aR, .inl (cR, n, .inr (.inr (.inr (.inr ra))))), (q_19, .inl (cI, 6, .inl (upd (upd (upd (upd (fun _ => 0) (0) (-1)) (1) (-1)) (2) (-1)) (3) (-1))))] ++ va_pl RL (rowE cI row)) H_8 := hP
  have hD : va_D A ([(sm, .inr (2, [.ref aSL, .ref aST, .ref aR, .int 10, .int 0, .int 0, tv, .int xn, .int xi, .int xl])), (aSL, .inl (cI, 4, .inl L)), (aST, .inl (cI, 4, .inl T)), (aR, .inl (cR, n, .inr (.inr (.inr (.inr ra))))), (q_19, .inl (cI, 6, .inl (upd (upd (upd (upd (fun _ => 0) (0) (-1)) (1) (-1)) (2) (-1)) (3) (-1))))] ++ va_pl RL (rowE cI row)) := hD
  refine lv_dup hx hb dX2_reckon_37 rfl ?_
  refine lv_iconst (v := 4) hx hb dX2_reckon_38 (by decide) ?_
  refine lv_iconst (v := (-1)) hx hb dX2_reckon_39 (by decide) ?_
  refine va_iast hx hb hK hP hD hS 4 0 rfl rfl (vp_in_nI (n := 4) (by omega) (by omega)) dX2_reckon_40 (fun H_9 locs hP hD hS => ?_)
  have hP : va_P (dC, dI) vwCl ([(sm, .inr (2, [.ref aSL, .ref aST, .ref aR, .int 10, .int 0, .int 0, tv, .int xn, .int xi, .int xl])), (aSL, .inl (cI, 4, .inl L)), (aST, .inl (cI, 4, .inl T)), (aR, .inl (cR, n, .inr (.inr (.inr (.inr ra))))), (q_19, .inl (cI, 6, .inl (upd (upd (upd (upd (upd (fun _ => 0) (0) (-1)) (1) (-1)) (2) (-1)) (3) (-1)) (4) (-1))))] ++ va_pl RL (rowE cI row)) H_9 := hP
  have hD : va_D A ([(sm, .inr (2, [.ref aSL, .ref aST, .ref aR, .int 10, .int 0, .int 0, tv, .int xn, .int xi, .int xl])), (aSL, .inl (cI, 4, .inl L)), (aST, .inl (cI, 4, .inl T)), (aR, .inl (cR, n, .inr (.inr (.inr (.inr ra))))), (q_19, .inl (cI, 6, .inl (upd (upd (upd (upd (upd (fun _ => 0) (0) (-1)) (1) (-1)) (2) (-1)) (3) (-1)) (4) (-1))))] ++ va_pl RL (rowE cI row)) := hD
  refine lv_dup hx hb dX2_reckon_41 rfl ?_
  refine lv_iconst (v := 5) hx hb dX2_reckon_42 (by decide) ?_
  refine lv_iconst (v := (-1)) hx hb dX2_reckon_43 (by decide) ?_
  refine va_iast hx hb hK hP hD hS 4 0 rfl rfl (vp_in_nI (n := 5) (by omega) (by omega)) dX2_reckon_44 (fun H_10 locs hP hD hS => ?_)
  have hP : va_P (dC, dI) vwCl ([(sm, .inr (2, [.ref aSL, .ref aST, .ref aR, .int 10, .int 0, .int 0, tv, .int xn, .int xi, .int xl])), (aSL, .inl (cI, 4, .inl L)), (aST, .inl (cI, 4, .inl T)), (aR, .inl (cR, n, .inr (.inr (.inr (.inr ra))))), (q_19, .inl (cI, 6, .inl (upd (upd (upd (upd (upd (upd (fun _ => 0) (0) (-1)) (1) (-1)) (2) (-1)) (3) (-1)) (4) (-1)) (5) (-1))))] ++ va_pl RL (rowE cI row)) H_10 := hP
  have hD : va_D A ([(sm, .inr (2, [.ref aSL, .ref aST, .ref aR, .int 10, .int 0, .int 0, tv, .int xn, .int xi, .int xl])), (aSL, .inl (cI, 4, .inl L)), (aST, .inl (cI, 4, .inl T)), (aR, .inl (cR, n, .inr (.inr (.inr (.inr ra))))), (q_19, .inl (cI, 6, .inl (upd (upd (upd (upd (upd (upd (fun _ => 0) (0) (-1)) (1) (-1)) (2) (-1)) (3) (-1)) (4) (-1)) (5) (-1))))] ++ va_pl RL (rowE cI row)) := hD
  refine va_put (D := (dC, dI)) (ci := 2) (v := .ref q_19) (ty := .array .int) (C := RX2) (T := TX2) (N := 10) hx hb hts hinX2 tyX2 tyX2_ok nmX2 hown hK hP hD hS 0 rfl rfl 6 (by decide) k5 (fun _ h9 => h9) rfl (by decide +kernel) rfl rfl (Nat.le_of_ble_eq_true rfl) dX2_reckon_45 (fun H_11 locs hP hD hS => ?_)
  have hP : va_P (dC, dI) vwCl ([(sm, .inr (2, [.ref aSL, .ref aST, .ref aR, .int 10, .int 0, .int 0, .ref q_19, .int xn, .int xi, .int xl])), (aSL, .inl (cI, 4, .inl L)), (aST, .inl (cI, 4, .inl T)), (aR, .inl (cR, n, .inr (.inr (.inr (.inr ra))))), (q_19, .inl (cI, 6, .inl (upd (upd (upd (upd (upd (upd (fun _ => 0) (0) (-1)) (1) (-1)) (2) (-1)) (3) (-1)) (4) (-1)) (5) (-1))))] ++ va_pl RL (rowE cI row)) H_11 := hP
  have hD : va_D A ([(sm, .inr (2, [.ref aSL, .ref aST, .ref aR, .int 10, .int 0, .int 0, .ref q_19, .int xn, .int xi, .int xl])), (aSL, .inl (cI, 4, .inl L)), (aST, .inl (cI, 4, .inl T)), (aR, .inl (cR, n, .inr (.inr (.inr (.inr ra))))), (q_19, .inl (cI, 6, .inl (upd (upd (upd (upd (upd (upd (fun _ => 0) (0) (-1)) (1) (-1)) (2) (-1)) (3) (-1)) (4) (-1)) (5) (-1))))] ++ va_pl RL (rowE cI row)) := hD
  refine lv_aload_n hx hb dX2_reckon_48 rfl (lv_at hl 0 rfl) ?_
  refine lv_iconst (v := 0) hx hb dX2_reckon_49 (by decide) ?_
  refine va_put (D := (dC, dI)) (ci := 2) (v := .int 0) (ty := .int) (C := RX2) (T := TX2) (N := 10) hx hb hts hinX2 tyX2 tyX2_ok nmX2 hown hK hP hD hS 0 rfl rfl 7 (by decide) k6 (fun _ h9 => h9) rfl (by decide +kernel) rfl rfl (Nat.le_of_ble_eq_true rfl) dX2_reckon_50 (fun H_12 locs hP hD hS => ?_)
  have hP : va_P (dC, dI) vwCl ([(sm, .inr (2, [.ref aSL, .ref aST, .ref aR, .int 10, .int 0, .int 0, .ref q_19, .int 0, .int xi, .int xl])), (aSL, .inl (cI, 4, .inl L)), (aST, .inl (cI, 4, .inl T)), (aR, .inl (cR, n, .inr (.inr (.inr (.inr ra))))), (q_19, .inl (cI, 6, .inl (upd (upd (upd (upd (upd (upd (fun _ => 0) (0) (-1)) (1) (-1)) (2) (-1)) (3) (-1)) (4) (-1)) (5) (-1))))] ++ va_pl RL (rowE cI row)) H_12 := hP
  have hD : va_D A ([(sm, .inr (2, [.ref aSL, .ref aST, .ref aR, .int 10, .int 0, .int 0, .ref q_19, .int 0, .int xi, .int xl])), (aSL, .inl (cI, 4, .inl L)), (aST, .inl (cI, 4, .inl T)), (aR, .inl (cR, n, .inr (.inr (.inr (.inr ra))))), (q_19, .inl (cI, 6, .inl (upd (upd (upd (upd (upd (upd (fun _ => 0) (0) (-1)) (1) (-1)) (2) (-1)) (3) (-1)) (4) (-1)) (5) (-1))))] ++ va_pl RL (rowE cI row)) := hD
  refine lv_aload_n hx hb dX2_reckon_53 rfl (lv_at hl 0 rfl) ?_
  refine lv_iconst (v := 0) hx hb dX2_reckon_54 (by decide) ?_
  refine va_put (D := (dC, dI)) (ci := 2) (v := .int 0) (ty := .int) (C := RX2) (T := TX2) (N := 10) hx hb hts hinX2 tyX2 tyX2_ok nmX2 hown hK hP hD hS 0 rfl rfl 8 (by decide) k7 (fun _ h9 => h9) rfl (by decide +kernel) rfl rfl (Nat.le_of_ble_eq_true rfl) dX2_reckon_55 (fun H_13 locs hP hD hS => ?_)
  have hP : va_P (dC, dI) vwCl ([(sm, .inr (2, [.ref aSL, .ref aST, .ref aR, .int 10, .int 0, .int 0, .ref q_19, .int 0, .int 0, .int xl])), (aSL, .inl (cI, 4, .inl L)), (aST, .inl (cI, 4, .inl T)), (aR, .inl (cR, n, .inr (.inr (.inr (.inr ra))))), (q_19, .inl (cI, 6, .inl (upd (upd (upd (upd (upd (upd (fun _ => 0) (0) (-1)) (1) (-1)) (2) (-1)) (3) (-1)) (4) (-1)) (5) (-1))))] ++ va_pl RL (rowE cI row)) H_13 := hP
  have hD : va_D A ([(sm, .inr (2, [.ref aSL, .ref aST, .ref aR, .int 10, .int 0, .int 0, .ref q_19, .int 0, .int 0, .int xl])), (aSL, .inl (cI, 4, .inl L)), (aST, .inl (cI, 4, .inl T)), (aR, .inl (cR, n, .inr (.inr (.inr (.inr ra))))), (q_19, .inl (cI, 6, .inl (upd (upd (upd (upd (upd (upd (fun _ => 0) (0) (-1)) (1) (-1)) (2) (-1)) (3) (-1)) (4) (-1)) (5) (-1))))] ++ va_pl RL (rowE cI row)) := hD
  refine lv_aload_n hx hb dX2_reckon_58 rfl (lv_at hl 0 rfl) ?_
  refine lv_iconst (v := 0) hx hb dX2_reckon_59 (by decide) ?_
  refine va_put (D := (dC, dI)) (ci := 2) (v := .int 0) (ty := .boolean) (C := RX2) (T := TX2) (N := 10) hx hb hts hinX2 tyX2 tyX2_ok nmX2 hown hK hP hD hS 0 rfl rfl 9 (by decide) k8 (fun _ h9 => h9) rfl (by decide +kernel) rfl rfl (Nat.le_of_ble_eq_true rfl) dX2_reckon_60 (fun H_14 locs hP hD hS => ?_)
  have hP : va_P (dC, dI) vwCl ([(sm, .inr (2, [.ref aSL, .ref aST, .ref aR, .int 10, .int 0, .int 0, .ref q_19, .int 0, .int 0, .int 0])), (aSL, .inl (cI, 4, .inl L)), (aST, .inl (cI, 4, .inl T)), (aR, .inl (cR, n, .inr (.inr (.inr (.inr ra))))), (q_19, .inl (cI, 6, .inl (upd (upd (upd (upd (upd (upd (fun _ => 0) (0) (-1)) (1) (-1)) (2) (-1)) (3) (-1)) (4) (-1)) (5) (-1))))] ++ va_pl RL (rowE cI row)) H_14 := hP
  have hD : va_D A ([(sm, .inr (2, [.ref aSL, .ref aST, .ref aR, .int 10, .int 0, .int 0, .ref q_19, .int 0, .int 0, .int 0])), (aSL, .inl (cI, 4, .inl L)), (aST, .inl (cI, 4, .inl T)), (aR, .inl (cR, n, .inr (.inr (.inr (.inr ra))))), (q_19, .inl (cI, 6, .inl (upd (upd (upd (upd (upd (upd (fun _ => 0) (0) (-1)) (1) (-1)) (2) (-1)) (3) (-1)) (4) (-1)) (5) (-1))))] ++ va_pl RL (rowE cI row)) := hD
  refine lv_iconst (v := 0) hx hb dX2_reckon_63 (by decide) ?_
  refine lv_istore_n (lv' := [(2, .int 0), (0, .ref sm), (1, .int (nI mm))]) hx hb dX2_reckon_64 rfl hl (by decide) rfl (fun ls hl => ?_)
  refine (fun (KK : ∀ (nn9 : Nat) (k : Nat) (xc2 : Int32) (xp2 : Int32) (xs2 : Int32) (xn2 : Int32) (xi2 : Int32) (xl2 : Int32) (tr2 : N2I) (H : Heap) (locs : List Loc) (ls : Array Slot) (hk : k ≤ mm) (hs : (xc2, xp2, xs2, xn2, xi2) = five (cRec L T K F S B k)) (hT2 : TrS tr2 (cRec L T K F S B k)) (hxl : xl2 = aLast L T K F S B k), mm - k < nn9 → va_P (dC, dI) vwCl ([(sm, .inr (2, [.ref aSL, .ref aST, .ref aR, .int xc2, .int xp2, .int xs2, .ref q_19, .int xn2, .int xi2, .int xl2])), (aSL, .inl (cI, 4, .inl L)), (aST, .inl (cI, 4, .inl T)), (aR, .inl (cR, n, .inr (.inr (.inr (.inr ra))))), (q_19, .inl (cI, 6, .inl tr2))] ++ va_pl RL (rowE cI row)) H → va_D A ([(sm, .inr (2, [.ref aSL, .ref aST, .ref aR, .int xc2, .int xp2, .int xs2, .ref q_19, .int xn2, .int xi2, .int xl2])), (aSL, .inl (cI, 4, .inl L)), (aST, .inl (cI, 4, .inl T)), (aR, .inl (cR, n, .inr (.inr (.inr (.inr ra))))), (q_19, .inl (cI, 6, .inl tr2))] ++ va_pl RL (rowE cI row)) → va_S A s.heap H locs → lv_has ls 3 [(2, .int (nI k)), (0, .ref sm), (1, .int (nI mm))] → W p l e _ s m _ below meth c H locs 1 6 _ (F0 m 65 ls [])) => KK (mm - 0 + 1) 0 10 0 0 0 0 0 (upd (upd (upd (upd (upd (upd (fun _ => 0) (0) (-1)) (1) (-1)) (2) (-1)) (3) (-1)) (4) (-1)) (5) (-1)) _ _ _ (Nat.zero_le _) (rfl) (TrS_0) (rfl) (by omega) hP hD hS (lv_sub hl [0, 1, 2] rfl)) ?_
  intro nn_65
  induction nn_65 with
  | zero => intro k xc2 xp2 xs2 xn2 xi2 xl2 tr2 H locs ls hk hs hT2 hxl hn9; exact absurd hn9 (Nat.not_lt_zero _)
  | succ nn_65 ih_65 =>
    intro k xc2 xp2 xs2 xn2 xi2 xl2 tr2 H_15 locs ls hk hs hT2 hxl hn_65 hP hD hS hl
    refine lv_iload_n hx hb dX2_reckon_65 rfl (lv_at hl 0 rfl) ?_
    refine lv_iload_n hx hb dX2_reckon_66 rfl (lv_at hl 2 rfl) ?_
    refine lv_icmp_ge (tgt := 150) hx hb dX2_reckon_67 (by decide) (fun c_67 => ?_) (fun c_67 => ?_)
    · -- 67
      have hge : mm = k := by rw [nI_leI (by have := hX.1; omega) (by have := hX.1; omega)] at c_67; omega
      refine lv_aload_n hx hb dX2_reckon_150 rfl (lv_at hl 1 rfl) ?_
      refine va_get (D := (dC, dI)) (ci := 2) (v := .int xc2) (C := RX2) (T := TX2) (N := 10) hx hb hts hinX2 hown hK hP 0 rfl rfl 3 (by decide) k0 (fun _ h9 => h9) rfl dX2_reckon_151 ?_
      have hpost : xc2 = xc2 ∧ (xc2, xp2, xs2, xn2, xi2) = five (cRec L T K F S B mm) ∧ TrS tr2 (cRec L T K F S B mm) ∧ xl2 = aLast L T K F S B mm := by
        rw [hge]; exact ⟨rfl, hs, hT2, hxl⟩
      have hP9 := hP.part (X := [(sm, .inr (2, [.ref aSL, .ref aST, .ref aR, .int xc2, .int xp2, .int xs2, .ref q_19, .int xn2, .int xi2, .int xl2])), (aSL, .inl (cI, 4, .inl L)), (aST, .inl (cI, 4, .inl T)), (aR, .inl (cR, n, .inr (.inr (.inr (.inr ra))))), (q_19, .inl (cI, 6, .inl tr2))]) (cx := [(sm, .inr (2, [.ref aSL, .ref aST, .ref aR, .int xc2, .int xp2, .int xs2, .ref q_19, .int xn2, .int xi2, .int xl2])), (aSL, .inl (cI, 4, .inl L)), (aST, .inl (cI, 4, .inl T)), (aR, .inl (cR, n, .inr (.inr (.inr (.inr ra))))), (q_19, .inl (cI, 6, .inl tr2))]) [0, 1, 2, 3, 4] rfl
      have hD9 := hD.part (X := [(sm, .inr (2, [.ref aSL, .ref aST, .ref aR, .int xc2, .int xp2, .int xs2, .ref q_19, .int xn2, .int xi2, .int xl2])), (aSL, .inl (cI, 4, .inl L)), (aST, .inl (cI, 4, .inl T)), (aR, .inl (cR, n, .inr (.inr (.inr (.inr ra))))), (q_19, .inl (cI, 6, .inl tr2))]) (cx := [(sm, .inr (2, [.ref aSL, .ref aST, .ref aR, .int xc2, .int xp2, .int xs2, .ref q_19, .int xn2, .int xi2, .int xl2])), (aSL, .inl (cI, 4, .inl L)), (aST, .inl (cI, 4, .inl T)), (aR, .inl (cR, n, .inr (.inr (.inr (.inr ra))))), (q_19, .inl (cI, 6, .inl tr2))]) [0, 1, 2, 3, 4] (by decide) rfl
      exact W.iret (v := xc2) hx hb hr (fun t ht hW => ⟨⟨xc2, (q_19, xc2, xp2, xs2, xn2, xi2, xl2, tr2), rfl, hpost, by rw [ht]; exact hP9, hD9⟩, hS.F ht⟩) hS.2.2 dX2_reckon_154
    · -- 67
      have hlt : k < mm := by rw [nI_leI (by have := hX.1; omega) (by have := hX.1; omega)] at c_67; omega
      have hn6 : n ≤ 60 := hX.1
      refine lv_aload_n hx hb dX2_reckon_70 rfl (lv_at hl 1 rfl) ?_
      refine lv_aload_n hx hb dX2_reckon_71 rfl (lv_at hl 1 rfl) ?_
      refine va_get (D := (dC, dI)) (ci := 2) (v := .ref aR) (C := RX2) (T := TX2) (N := 10) hx hb hts hinX2 hown hK hP 0 rfl rfl 2 (by decide) k9 (fun _ h9 => h9) rfl dX2_reckon_72 ?_
      refine lv_iload_n hx hb dX2_reckon_75 rfl (lv_at hl 0 rfl) ?_
      obtain ⟨v_16, hv_v_16, hm_v_16, g0_v_16, g1_v_16, g2_v_16, g3_v_16⟩ := RW_get hR (show k < n by omega)
      refine aa_ald hx hb hK hP 3 1 rfl rfl (vp_in_nI (by omega) (by omega)) (by rw [nI_clamp (n := k) (by omega)]; exact hv_v_16) dX2_reckon_76 ?_
      refine lv_iconst (v := 3) hx hb dX2_reckon_77 (by decide) ?_
      obtain ⟨kx_17, hkx_17⟩ := va_pl_get (X := [(sm, .inr (2, [.ref aSL, .ref aST, .ref aR, .int xc2, .int xp2, .int xs2, .ref q_19, .int xn2, .int xi2, .int xl2])), (aSL, .inl (cI, 4, .inl L)), (aST, .inl (cI, 4, .inl T)), (aR, .inl (cR, n, .inr (.inr (.inr (.inr ra))))), (q_19, .inl (cI, 6, .inl tr2))]) (f := rowE cI row) hm_v_16
      refine va_iald hx hb hK hP kx_17 0 hkx_17 rfl (vp_in_nI (n := 3) (by omega) (by omega)) dX2_reckon_78 ?_
      refine W.eq (g2 := F0 m 79 ls [.int (row v_16 3), .ref sm]) rfl ?_
      rw [g3_v_16]
      refine lv_if_ne (tgt := 99) hx hb dX2_reckon_79 (by decide) (fun c_79 => ?_) (fun c_79 => ?_)
      · -- 79
        refine lv_iconst (v := 0) hx hb dX2_reckon_99 (by decide) ?_
        refine va_put (D := (dC, dI)) (ci := 2) (v := .int 0) (ty := .boolean) (C := RX2) (T := TX2) (N := 10) hx hb hts hinX2 tyX2 tyX2_ok nmX2 hown hK hP hD hS 0 rfl rfl 9 (by decide) k8 (fun _ h9 => h9) rfl (by decide +kernel) rfl rfl (Nat.le_of_ble_eq_true rfl) dX2_reckon_100 (fun H_18 locs hP hD hS => ?_)
        have hP : va_P (dC, dI) vwCl ([(sm, .inr (2, [.ref aSL, .ref aST, .ref aR, .int xc2, .int xp2, .int xs2, .ref q_19, .int xn2, .int xi2, .int 0])), (aSL, .inl (cI, 4, .inl L)), (aST, .inl (cI, 4, .inl T)), (aR, .inl (cR, n, .inr (.inr (.inr (.inr ra))))), (q_19, .inl (cI, 6, .inl tr2))] ++ va_pl RL (rowE cI row)) H_18 := hP
        have hD : va_D A ([(sm, .inr (2, [.ref aSL, .ref aST, .ref aR, .int xc2, .int xp2, .int xs2, .ref q_19, .int xn2, .int xi2, .int 0])), (aSL, .inl (cI, 4, .inl L)), (aST, .inl (cI, 4, .inl T)), (aR, .inl (cR, n, .inr (.inr (.inr (.inr ra))))), (q_19, .inl (cI, 6, .inl tr2))] ++ va_pl RL (rowE cI row)) := hD
        refine lv_aload_n hx hb dX2_reckon_103 rfl (lv_at hl 1 rfl) ?_
        refine va_get (D := (dC, dI)) (ci := 2) (v := .int 0) (C := RX2) (T := TX2) (N := 10) hx hb hts hinX2 hown hK hP 0 rfl rfl 9 (by decide) k8 (fun _ h9 => h9) rfl dX2_reckon_104 ?_
        refine lv_if_eq (tgt := 123) hx hb dX2_reckon_107 (by decide) (fun _ => ?_) (fun h9 => absurd (by decide) h9)
        refine lv_aload_n hx hb dX2_reckon_123 rfl (lv_at hl 1 rfl) ?_
        refine va_get (D := (dC, dI)) (ci := 2) (v := .ref aR) (C := RX2) (T := TX2) (N := 10) hx hb hts hinX2 hown hK hP 0 rfl rfl 2 (by decide) k9 (fun _ h9 => h9) rfl dX2_reckon_124 ?_
        refine lv_iload_n hx hb dX2_reckon_127 rfl (lv_at hl 0 rfl) ?_
        obtain ⟨v_19, hv_v_19, hm_v_19, g0_v_19, g1_v_19, g2_v_19, g3_v_19⟩ := RW_get hR (show k < n by omega)
        refine aa_ald hx hb hK hP 3 1 rfl rfl (vp_in_nI (by omega) (by omega)) (by rw [nI_clamp (n := k) (by omega)]; exact hv_v_19) dX2_reckon_128 ?_
        refine lv_iconst (v := 3) hx hb dX2_reckon_129 (by decide) ?_
        obtain ⟨kx_20, hkx_20⟩ := va_pl_get (X := [(sm, .inr (2, [.ref aSL, .ref aST, .ref aR, .int xc2, .int xp2, .int xs2, .ref q_19, .int xn2, .int xi2, .int 0])), (aSL, .inl (cI, 4, .inl L)), (aST, .inl (cI, 4, .inl T)), (aR, .inl (cR, n, .inr (.inr (.inr (.inr ra))))), (q_19, .inl (cI, 6, .inl tr2))]) (f := rowE cI row) hm_v_19
        refine va_iald hx hb hK hP kx_20 0 hkx_20 rfl (vp_in_nI (n := 3) (by omega) (by omega)) dX2_reckon_130 ?_
        refine W.eq (g2 := F0 m 131 ls [.int (row v_19 3)]) rfl ?_
        rw [g3_v_19]
        refine lv_if_ne (tgt := 144) hx hb dX2_reckon_131 (by decide) (fun _ => ?_) (fun h9 => absurd h9 (c_79))
        refine lv_iinc (v := nI (k + 1)) (lv' := [(2, .int (nI (k + 1))), (0, .ref sm), (1, .int (nI mm))]) hx hb dX2_reckon_144 hl (k := 0) rfl (nI_1 _) (by decide) rfl (fun ls hl => ?_)
        refine lv_goto (tgt := 65) hx hb dX2_reckon_147 (by decide) ?_
        exact ih_65 (k + 1) xc2 xp2 xs2 xn2 xi2 0 tr2 _ _ _ (by omega) (by rw [cRec_skip c_79]; exact hs) (by rw [cRec_skip c_79]; exact hT2) ((aLast_skip c_79).symm) (by omega) hP hD hS (lv_sub hl [0, 1, 2] rfl)
      · -- 79
        obtain ⟨j9, q9, fi9, fe9, U9, hs9, hT9, hst9, hq9⟩ := sim_at hX (show k ≤ n by omega) hs hT2
        refine lv_aload_n hx hb dX2_reckon_82 rfl (lv_at hl 1 rfl) ?_
        refine lv_aload_n hx hb dX2_reckon_83 rfl (lv_at hl 1 rfl) ?_
        refine va_get (D := (dC, dI)) (ci := 2) (v := .ref aR) (C := RX2) (T := TX2) (N := 10) hx hb hts hinX2 hown hK hP 0 rfl rfl 2 (by decide) k9 (fun _ h9 => h9) rfl dX2_reckon_84 ?_
        refine lv_iload_n hx hb dX2_reckon_87 rfl (lv_at hl 0 rfl) ?_
        obtain ⟨v_21, hv_v_21, hm_v_21, g0_v_21, g1_v_21, g2_v_21, g3_v_21⟩ := RW_get hR (show k < n by omega)
        refine aa_ald hx hb hK hP 3 1 rfl rfl (vp_in_nI (by omega) (by omega)) (by rw [nI_clamp (n := k) (by omega)]; exact hv_v_21) dX2_reckon_88 ?_
        have hPc := hP.part (X := [(sm, .inr (2, [.ref aSL, .ref aST, .ref aR, .int xc2, .int xp2, .int xs2, .ref q_19, .int xn2, .int xi2, .int xl2])), (aSL, .inl (cI, 4, .inl L)), (aST, .inl (cI, 4, .inl T)), (aR, .inl (cR, n, .inr (.inr (.inr (.inr ra))))), (q_19, .inl (cI, 6, .inl tr2))]) (cx := [(sm, .inr (2, [.ref aSL, .ref aST, .ref aR, .int xc2, .int xp2, .int xs2, .ref q_19, .int xn2, .int xi2, .int xl2])), (aSL, .inl (cI, 4, .inl L)), (aST, .inl (cI, 4, .inl T)), (q_19, .inl (cI, 6, .inl tr2))]) [0, 1, 2, 4] rfl
        have hDc := hD.part (X := [(sm, .inr (2, [.ref aSL, .ref aST, .ref aR, .int xc2, .int xp2, .int xs2, .ref q_19, .int xn2, .int xi2, .int xl2])), (aSL, .inl (cI, 4, .inl L)), (aST, .inl (cI, 4, .inl T)), (aR, .inl (cR, n, .inr (.inr (.inr (.inr ra))))), (q_19, .inl (cI, 6, .inl tr2))]) (cx := [(sm, .inr (2, [.ref aSL, .ref aST, .ref aR, .int xc2, .int xp2, .int xs2, .ref q_19, .int xn2, .int xi2, .int xl2])), (aSL, .inl (cI, 4, .inl L)), (aST, .inl (cI, 4, .inl T)), (q_19, .inl (cI, 6, .inl tr2))]) [0, 1, 2, 4] (by decide) rfl
        have hKc := hK.sub (tys' := [(cI, .int)]) [0] rfl
        have hFc := va_freeP (X := [(sm, .inr (2, [.ref aSL, .ref aST, .ref aR, .int xc2, .int xp2, .int xs2, .ref q_19, .int xn2, .int xi2, .int xl2])), (aSL, .inl (cI, 4, .inl L)), (aST, .inl (cI, 4, .inl T)), (aR, .inl (cR, n, .inr (.inr (.inr (.inr ra))))), (q_19, .inl (cI, 6, .inl tr2))]) (cx := [(sm, .inr (2, [.ref aSL, .ref aST, .ref aR, .int xc2, .int xp2, .int xs2, .ref q_19, .int xn2, .int xi2, .int xl2])), (aSL, .inl (cI, 4, .inl L)), (aST, .inl (cI, 4, .inl T)), (q_19, .inl (cI, 6, .inl tr2))]) hD hS hA [0, 1, 2, 4] rfl
        refine va_calli (va_runV (As := [.ref v_21]) (rest := [.ref sm]) ⟨hx, hb, hml, hown, hts⟩ (c_X2_does l dC dI cI sm aSL aST q_19 H_15.size aR v_21 xc2 xp2 xs2 xn2 xi2 xl2 L T tr2 RL row (K k) (F k) (S k) j9 q9 U9 (hm_v_21) (g0_v_21) (g1_v_21) (g2_v_21) (hT9) (hoL) (hst9) (hX.2.1 k (by omega)) ((hY k (by omega)).1) (hq9)) (cwV 1 hts gX2_reckon_X2_does rfl rfl rfl (by decide +kernel) ⟨Nat.le_of_ble_eq_true rfl, Nat.le_of_ble_eq_true rfl⟩) (pc_V hKc hPc hDc (ci := 2) (C := RX2) (T := TX2) (N := 10) (q0 := 0) rfl rfl) rfl rfl hl.1 rfl (lv_room (Nat.le_of_ble_eq_true rfl)) dX2_reckon_89 ⟨Nat.le_of_ble_eq_true rfl, Nat.le_of_ble_eq_true rfl⟩) hS (fun q _ h => hFc q h) hFc (fun r_22 u t H_22 locs ht hvm hw hB hz1 hk1 hS => ?_)
        obtain ⟨xc1_22, xp1_22, xs1_22, tr1_22⟩ := u
        try dsimp only at hw hB
        have hw_22 := hw
        obtain ⟨hw0_22, hw1_22⟩ := hw_22
        obtain ⟨hP1, hD1⟩ := hB
        rw [ht] at hP1
        obtain ⟨hP, hD⟩ := va_joinP (X := [(sm, .inr (2, [.ref aSL, .ref aST, .ref aR, .int xc2, .int xp2, .int xs2, .ref q_19, .int xn2, .int xi2, .int xl2])), (aSL, .inl (cI, 4, .inl L)), (aST, .inl (cI, 4, .inl T)), (aR, .inl (cR, n, .inr (.inr (.inr (.inr ra))))), (q_19, .inl (cI, 6, .inl tr2))]) (cx := [(sm, .inr (2, [.ref aSL, .ref aST, .ref aR, .int xc2, .int xp2, .int xs2, .ref q_19, .int xn2, .int xi2, .int xl2])), (aSL, .inl (cI, 4, .inl L)), (aST, .inl (cI, 4, .inl T)), (q_19, .inl (cI, 6, .inl tr2))]) (wr := [(aR, .inl (cR, n, .inr (.inr (.inr (.inr ra)))))]) (rx := [(sm, .inr (2, [.ref aSL, .ref aST, .ref aR, .int xc1_22, .int xp1_22, .int xs1_22, .ref q_19, .int xn2, .int xi2, .int xl2])), (aSL, .inl (cI, 4, .inl L)), (aST, .inl (cI, 4, .inl T)), (q_19, .inl (cI, 6, .inl tr1_22))]) (pl1 := va_pl RL (rowE cI row)) hP hD [0, 1, 2, 4] [3] rfl rfl (by decide) (by decide) hk1 hFc hP1 hD1
        have hP : va_P (dC, dI) vwCl ([(aR, .inl (cR, n, .inr (.inr (.inr (.inr ra))))), (sm, .inr (2, [.ref aSL, .ref aST, .ref aR, .int xc1_22, .int xp1_22, .int xs1_22, .ref q_19, .int xn2, .int xi2, .int xl2])), (aSL, .inl (cI, 4, .inl L)), (aST, .inl (cI, 4, .inl T)), (q_19, .inl (cI, 6, .inl tr1_22))] ++ va_pl RL (rowE cI row)) H_22 := hP
        have hD : va_D A ([(aR, .inl (cR, n, .inr (.inr (.inr (.inr ra))))), (sm, .inr (2, [.ref aSL, .ref aST, .ref aR, .int xc1_22, .int xp1_22, .int xs1_22, .ref q_19, .int xn2, .int xi2, .int xl2])), (aSL, .inl (cI, 4, .inl L)), (aST, .inl (cI, 4, .inl T)), (q_19, .inl (cI, 6, .inl tr1_22))] ++ va_pl RL (rowE cI row)) := hD
        have hP := hP.part (X := [(aR, .inl (cR, n, .inr (.inr (.inr (.inr ra))))), (sm, .inr (2, [.ref aSL, .ref aST, .ref aR, .int xc1_22, .int xp1_22, .int xs1_22, .ref q_19, .int xn2, .int xi2, .int xl2])), (aSL, .inl (cI, 4, .inl L)), (aST, .inl (cI, 4, .inl T)), (q_19, .inl (cI, 6, .inl tr1_22))]) (cx := [(sm, .inr (2, [.ref aSL, .ref aST, .ref aR, .int xc1_22, .int xp1_22, .int xs1_22, .ref q_19, .int xn2, .int xi2, .int xl2])), (aSL, .inl (cI, 4, .inl L)), (aST, .inl (cI, 4, .inl T)), (aR, .inl (cR, n, .inr (.inr (.inr (.inr ra))))), (q_19, .inl (cI, 6, .inl tr1_22))]) [1, 2, 3, 0, 4] rfl
        have hD := hD.part (X := [(aR, .inl (cR, n, .inr (.inr (.inr (.inr ra))))), (sm, .inr (2, [.ref aSL, .ref aST, .ref aR, .int xc1_22, .int xp1_22, .int xs1_22, .ref q_19, .int xn2, .int xi2, .int xl2])), (aSL, .inl (cI, 4, .inl L)), (aST, .inl (cI, 4, .inl T)), (q_19, .inl (cI, 6, .inl tr1_22))]) (cx := [(sm, .inr (2, [.ref aSL, .ref aST, .ref aR, .int xc1_22, .int xp1_22, .int xs1_22, .ref q_19, .int xn2, .int xi2, .int xl2])), (aSL, .inl (cI, 4, .inl L)), (aST, .inl (cI, 4, .inl T)), (aR, .inl (cR, n, .inr (.inr (.inr (.inr ra))))), (q_19, .inl (cI, 6, .inl tr1_22))]) [1, 2, 3, 0, 4] (by decide) rfl
        obtain ⟨h0_9, h1_9⟩ := hp4_of hw0_22
        have h2_9 := hw1_22
        refine lv_if_eq (tgt := 99) hx hb dX2_reckon_92 (by decide) (fun c_92 => ?_) (fun c_92 => ?_)
        · -- 92
          refine lv_iconst (v := 0) hx hb dX2_reckon_99 (by decide) ?_
          refine va_put (D := (dC, dI)) (ci := 2) (v := .int 0) (ty := .boolean) (C := RX2) (T := TX2) (N := 10) hx hb hts hinX2 tyX2 tyX2_ok nmX2 hown hK hP hD hS 0 rfl rfl 9 (by decide) k8 (fun _ h9 => h9) rfl (by decide +kernel) rfl rfl (Nat.le_of_ble_eq_true rfl) dX2_reckon_100 (fun H_23 locs hP hD hS => ?_)
          have hP : va_P (dC, dI) vwCl ([(sm, .inr (2, [.ref aSL, .ref aST, .ref aR, .int xc1_22, .int xp1_22, .int xs1_22, .ref q_19, .int xn2, .int xi2, .int 0])), (aSL, .inl (cI, 4, .inl L)), (aST, .inl (cI, 4, .inl T)), (aR, .inl (cR, n, .inr (.inr (.inr (.inr ra))))), (q_19, .inl (cI, 6, .inl tr1_22))] ++ va_pl RL (rowE cI row)) H_23 := hP
          have hD : va_D A ([(sm, .inr (2, [.ref aSL, .ref aST, .ref aR, .int xc1_22, .int xp1_22, .int xs1_22, .ref q_19, .int xn2, .int xi2, .int 0])), (aSL, .inl (cI, 4, .inl L)), (aST, .inl (cI, 4, .inl T)), (aR, .inl (cR, n, .inr (.inr (.inr (.inr ra))))), (q_19, .inl (cI, 6, .inl tr1_22))] ++ va_pl RL (rowE cI row)) := hD
          refine lv_aload_n hx hb dX2_reckon_103 rfl (lv_at hl 1 rfl) ?_
          refine va_get (D := (dC, dI)) (ci := 2) (v := .int 0) (C := RX2) (T := TX2) (N := 10) hx hb hts hinX2 hown hK hP 0 rfl rfl 9 (by decide) k8 (fun _ h9 => h9) rfl dX2_reckon_104 ?_
          refine lv_if_eq (tgt := 123) hx hb dX2_reckon_107 (by decide) (fun _ => ?_) (fun h9 => absurd (by decide) h9)
          refine lv_aload_n hx hb dX2_reckon_123 rfl (lv_at hl 1 rfl) ?_
          refine va_get (D := (dC, dI)) (ci := 2) (v := .ref aR) (C := RX2) (T := TX2) (N := 10) hx hb hts hinX2 hown hK hP 0 rfl rfl 2 (by decide) k9 (fun _ h9 => h9) rfl dX2_reckon_124 ?_
          refine lv_iload_n hx hb dX2_reckon_127 rfl (lv_at hl 0 rfl) ?_
          obtain ⟨v_24, hv_v_24, hm_v_24, g0_v_24, g1_v_24, g2_v_24, g3_v_24⟩ := RW_get hR (show k < n by omega)
          refine aa_ald hx hb hK hP 3 1 rfl rfl (vp_in_nI (by omega) (by omega)) (by rw [nI_clamp (n := k) (by omega)]; exact hv_v_24) dX2_reckon_128 ?_
          refine lv_iconst (v := 3) hx hb dX2_reckon_129 (by decide) ?_
          obtain ⟨kx_25, hkx_25⟩ := va_pl_get (X := [(sm, .inr (2, [.ref aSL, .ref aST, .ref aR, .int xc1_22, .int xp1_22, .int xs1_22, .ref q_19, .int xn2, .int xi2, .int 0])), (aSL, .inl (cI, 4, .inl L)), (aST, .inl (cI, 4, .inl T)), (aR, .inl (cR, n, .inr (.inr (.inr (.inr ra))))), (q_19, .inl (cI, 6, .inl tr1_22))]) (f := rowE cI row) hm_v_24
          refine va_iald hx hb hK hP kx_25 0 hkx_25 rfl (vp_in_nI (n := 3) (by omega) (by omega)) dX2_reckon_130 ?_
          refine W.eq (g2 := F0 m 131 ls [.int (row v_24 3)]) rfl ?_
          rw [g3_v_24]
          refine lv_if_ne (tgt := 144) hx hb dX2_reckon_131 (by decide) (fun h9 => absurd (c_79) h9) (fun _ => ?_)
          refine lv_aload_n hx hb dX2_reckon_134 rfl (lv_at hl 1 rfl) ?_
          refine lv_dup hx hb dX2_reckon_135 rfl ?_
          refine va_get (D := (dC, dI)) (ci := 2) (v := .int xi2) (C := RX2) (T := TX2) (N := 10) hx hb hts hinX2 hown hK hP 0 rfl rfl 8 (by decide) k7 (fun _ h9 => h9) rfl dX2_reckon_136 ?_
          refine lv_iconst (v := 1) hx hb dX2_reckon_139 (by decide) ?_
          refine lv_iadd hx hb dX2_reckon_140 ?_
          refine lv_topi (fun f_26 ef_26 => ?_)
          refine va_put (D := (dC, dI)) (ci := 2) (v := .int f_26) (ty := .int) (C := RX2) (T := TX2) (N := 10) hx hb hts hinX2 tyX2 tyX2_ok nmX2 hown hK hP hD hS 0 rfl rfl 8 (by decide) k7 (fun _ h9 => h9) rfl (by decide +kernel) rfl rfl (Nat.le_of_ble_eq_true rfl) dX2_reckon_141 (fun H_27 locs hP hD hS => ?_)
          have hP : va_P (dC, dI) vwCl ([(sm, .inr (2, [.ref aSL, .ref aST, .ref aR, .int xc1_22, .int xp1_22, .int xs1_22, .ref q_19, .int xn2, .int f_26, .int 0])), (aSL, .inl (cI, 4, .inl L)), (aST, .inl (cI, 4, .inl T)), (aR, .inl (cR, n, .inr (.inr (.inr (.inr ra))))), (q_19, .inl (cI, 6, .inl tr1_22))] ++ va_pl RL (rowE cI row)) H_27 := hP
          have hD : va_D A ([(sm, .inr (2, [.ref aSL, .ref aST, .ref aR, .int xc1_22, .int xp1_22, .int xs1_22, .ref q_19, .int xn2, .int f_26, .int 0])), (aSL, .inl (cI, 4, .inl L)), (aST, .inl (cI, 4, .inl T)), (aR, .inl (cR, n, .inr (.inr (.inr (.inr ra))))), (q_19, .inl (cI, 6, .inl tr1_22))] ++ va_pl RL (rowE cI row)) := hD
          refine lv_iinc (v := nI (k + 1)) (lv' := [(2, .int (nI (k + 1))), (0, .ref sm), (1, .int (nI mm))]) hx hb dX2_reckon_144 hl (k := 0) rfl (nI_1 _) (by decide) rfl (fun ls hl => ?_)
          refine lv_goto (tgt := 65) hx hb dX2_reckon_147 (by decide) ?_
          exact ih_65 (k + 1) xc1_22 xp1_22 xs1_22 xn2 f_26 0 tr1_22 _ _ _ (by omega) (by rw [ef_26]; exact sim_no c_79 hs9 (by rw [← h0_9]; exact c_92) h1_9) (simT c_79 hs9 h2_9) ((aLast_no c_79 hs9 (by rw [← h0_9]; exact c_92)).symm) (by omega) hP hD hS (lv_sub hl [0, 1, 2] rfl)
        · -- 92
          refine lv_iconst (v := 1) hx hb dX2_reckon_95 (by decide) ?_
          refine lv_goto (tgt := 100) hx hb dX2_reckon_96 (by decide) ?_
          refine va_put (D := (dC, dI)) (ci := 2) (v := .int 1) (ty := .boolean) (C := RX2) (T := TX2) (N := 10) hx hb hts hinX2 tyX2 tyX2_ok nmX2 hown hK hP hD hS 0 rfl rfl 9 (by decide) k8 (fun _ h9 => h9) rfl (by decide +kernel) rfl rfl (Nat.le_of_ble_eq_true rfl) dX2_reckon_100 (fun H_28 locs hP hD hS => ?_)
          have hP : va_P (dC, dI) vwCl ([(sm, .inr (2, [.ref aSL, .ref aST, .ref aR, .int xc1_22, .int xp1_22, .int xs1_22, .ref q_19, .int xn2, .int xi2, .int 1])), (aSL, .inl (cI, 4, .inl L)), (aST, .inl (cI, 4, .inl T)), (aR, .inl (cR, n, .inr (.inr (.inr (.inr ra))))), (q_19, .inl (cI, 6, .inl tr1_22))] ++ va_pl RL (rowE cI row)) H_28 := hP
          have hD : va_D A ([(sm, .inr (2, [.ref aSL, .ref aST, .ref aR, .int xc1_22, .int xp1_22, .int xs1_22, .ref q_19, .int xn2, .int xi2, .int 1])), (aSL, .inl (cI, 4, .inl L)), (aST, .inl (cI, 4, .inl T)), (aR, .inl (cR, n, .inr (.inr (.inr (.inr ra))))), (q_19, .inl (cI, 6, .inl tr1_22))] ++ va_pl RL (rowE cI row)) := hD
          refine lv_aload_n hx hb dX2_reckon_103 rfl (lv_at hl 1 rfl) ?_
          refine va_get (D := (dC, dI)) (ci := 2) (v := .int 1) (C := RX2) (T := TX2) (N := 10) hx hb hts hinX2 hown hK hP 0 rfl rfl 9 (by decide) k8 (fun _ h9 => h9) rfl dX2_reckon_104 ?_
          refine lv_if_eq (tgt := 123) hx hb dX2_reckon_107 (by decide) (fun h9 => absurd h9 (by decide)) (fun _ => ?_)
          refine lv_aload_n hx hb dX2_reckon_110 rfl (lv_at hl 1 rfl) ?_
          refine lv_dup hx hb dX2_reckon_111 rfl ?_
          refine va_get (D := (dC, dI)) (ci := 2) (v := .int xn2) (C := RX2) (T := TX2) (N := 10) hx hb hts hinX2 hown hK hP 0 rfl rfl 7 (by decide) k6 (fun _ h9 => h9) rfl dX2_reckon_112 ?_
          refine lv_iconst (v := 1) hx hb dX2_reckon_115 (by decide) ?_
          refine lv_iadd hx hb dX2_reckon_116 ?_
          refine lv_topi (fun f_29 ef_29 => ?_)
          refine va_put (D := (dC, dI)) (ci := 2) (v := .int f_29) (ty := .int) (C := RX2) (T := TX2) (N := 10) hx hb hts hinX2 tyX2 tyX2_ok nmX2 hown hK hP hD hS 0 rfl rfl 7 (by decide) k6 (fun _ h9 => h9) rfl (by decide +kernel) rfl rfl (Nat.le_of_ble_eq_true rfl) dX2_reckon_117 (fun H_30 locs hP hD hS => ?_)
          have hP : va_P (dC, dI) vwCl ([(sm, .inr (2, [.ref aSL, .ref aST, .ref aR, .int xc1_22, .int xp1_22, .int xs1_22, .ref q_19, .int f_29, .int xi2, .int 1])), (aSL, .inl (cI, 4, .inl L)), (aST, .inl (cI, 4, .inl T)), (aR, .inl (cR, n, .inr (.inr (.inr (.inr ra))))), (q_19, .inl (cI, 6, .inl tr1_22))] ++ va_pl RL (rowE cI row)) H_30 := hP
          have hD : va_D A ([(sm, .inr (2, [.ref aSL, .ref aST, .ref aR, .int xc1_22, .int xp1_22, .int xs1_22, .ref q_19, .int f_29, .int xi2, .int 1])), (aSL, .inl (cI, 4, .inl L)), (aST, .inl (cI, 4, .inl T)), (aR, .inl (cR, n, .inr (.inr (.inr (.inr ra))))), (q_19, .inl (cI, 6, .inl tr1_22))] ++ va_pl RL (rowE cI row)) := hD
          refine lv_goto (tgt := 144) hx hb dX2_reckon_120 (by decide) ?_
          refine lv_iinc (v := nI (k + 1)) (lv' := [(2, .int (nI (k + 1))), (0, .ref sm), (1, .int (nI mm))]) hx hb dX2_reckon_144 hl (k := 0) rfl (nI_1 _) (by decide) rfl (fun ls hl => ?_)
          refine lv_goto (tgt := 65) hx hb dX2_reckon_147 (by decide) ?_
          exact ih_65 (k + 1) xc1_22 xp1_22 xs1_22 f_29 xi2 1 tr1_22 _ _ _ (by omega) (by rw [ef_29]; exact sim_yes c_79 hs9 (by rw [← h0_9]; exact c_92) h1_9) (simT c_79 hs9 h2_9) ((aLast_yes c_79 hs9 (by rw [← h0_9]; exact c_92)).symm) (by omega) hP hD hS (lv_sub hl [0, 1, 2] rfl)
