theorem upd_back {f : N2I} {i : Nat} {x : Int32} (h : f i = x) (y : Int32) : upd (upd f i y) i x = f := by
  funext j
  unfold upd
  by_cases e : j = i
  · simp only [e, if_true]; exact h.symm
  · simp only [e, if_false]
theorem okX_upd {K F S B : N2I} {n : Nat} (h : okX K F S B n) (i : Nat) {x : Int32} (hx : x = 0 ∨ x = 1) : okX K F S (upd B i x) n := by
  refine ⟨h.1, h.2.1, fun j => ?_⟩
  unfold upd
  split
  · exact hx
  · exact h.2.2 j
theorem aCo_fl {L T K F S B : N2I} {n i : Nat} (hn : n ≤ 60) (hi : i < 60) {x : Int32} (hx : x = nb (B i)) : aCo L T K F S (upd B i x) n (-1) = aCo L T K F S B n (nI i) := by
  unfold aCo cRec
  rw [mRec_noFl hn]
  refine congrArg (fun s : T9 => s.1) (mRec_congr n fun e he => ?_)
  unfold upd mFl
  by_cases h : e = i
  · subst h
    rw [if_pos rfl, if_pos rfl, hx]
    rfl
  · rw [if_neg h, if_neg (fun h2 => h ((nI_eq (by omega) (by omega)).mp h2))]
theorem aCo_now {L T K F S B U : N2I} {n : Nat} (hX : okX K F S B n) {co pl st jo cn ii fi fe : Int32} {U1 : N2I} (h : (co, pl, st, jo, cn, ii, fi, fe, U1) = mRec L T K F S B U n) : co = aCo L T K F S B n (-1) :=
  aCo_of hX (h.trans (mRec_noFl hX.1).symm)
def sS (B : N2I) : Nat → Int32
  | 0 => 0
  | k + 1 => sS B k + (if B k = 0 then 0 else 1)
theorem i32_a (a b c : Int32) : a + 1 + b + c = a + b + c + 1 := by
  rw [Int32.add_assoc a 1 b, Int32.add_comm 1 b, ← Int32.add_assoc, Int32.add_assoc (a + b) 1 c, Int32.add_comm 1 c, ← Int32.add_assoc]
theorem i32_b (a b c : Int32) : a + (b + 1) + c = a + b + c + 1 := by
  rw [← Int32.add_assoc, Int32.add_assoc (a + b) 1 c, Int32.add_comm 1 c, ← Int32.add_assoc]
theorem i32_c (a c : Int32) : a + 1 + c = a + c + 1 := by
  rw [Int32.add_assoc a 1 c, Int32.add_comm 1 c, ← Int32.add_assoc]
theorem mStep_sum (L T : N2I) (e k a b : Int32) (s : T9) : (mStep9 L T e k a b s).2.2.2.2.1 + (mStep9 L T e k a b s).2.2.2.2.2.1 = s.2.2.2.2.1 + s.2.2.2.2.2.1 + 1 := by
  obtain ⟨co, pl, st, jo, cn, ii, fi, fe, U⟩ := s
  show (mFin e cn ii fi fe (mHap L T k a b co pl st jo U)).2.2.2.2.1 + (mFin e cn ii fi fe (mHap L T k a b co pl st jo U)).2.2.2.2.2.1 = cn + ii + 1
  generalize mHap L T k a b co pl st jo U = g
  obtain ⟨r, co1, pl1, st1, jo1, U1⟩ := g
  unfold mFin
  dsimp only
  by_cases hr : r = 0
  · rw [if_pos hr]
    show cn + (ii + 1) = cn + ii + 1
    rw [← Int32.add_assoc]
  · rw [if_neg hr]
    show cn + 1 + ii = cn + ii + 1
    exact i32_c cn ii
theorem sS_rec {L T K F S B U : N2I} : ∀ i, (mRec L T K F S B U i).2.2.2.2.1 + (mRec L T K F S B U i).2.2.2.2.2.1 + sS B i = nI i := by
  intro i
  induction i with
  | zero => rfl
  | succ i ih =>
    by_cases h : B i = 0
    · rw [mRec_take h, mStep_sum, show sS B (i + 1) = sS B i + 0 from congrArg (sS B i + ·) (if_pos h), Int32.add_zero, i32_c, ih, nI_1]
    · rw [mRec_skip h, show sS B (i + 1) = sS B i + 1 from congrArg (sS B i + ·) (if_neg h), ← Int32.add_assoc, ih, nI_1]
theorem sS_n {cn ii x : Int32} {n : Nat} (h : cn + ii + x = nI n) : x = nI n - cn - ii := by
  rw [← h, Int32.sub_eq_add_neg, Int32.sub_eq_add_neg, Int32.add_comm cn ii, Int32.add_assoc, Int32.add_assoc, Int32.add_assoc]
  rw [show cn + (x + (-cn + -ii)) = x + (cn + (-cn + -ii)) from by rw [← Int32.add_assoc, Int32.add_comm cn x, Int32.add_assoc]]
  rw [← Int32.add_assoc cn, Int32.add_right_neg, Int32.zero_add, Int32.add_comm ii, Int32.add_assoc, Int32.add_left_neg, Int32.add_zero]
theorem aCount_1 {L T K F S B : N2I} {n : Nat} : aCount n 1 (cRec L T K F S B n) = sS B n := by
  have h := sS_n (sS_rec (L := L) (T := T) (K := K) (F := F) (S := S) (B := B) (U := fun _ => 0) n)
  rw [h]
  unfold cRec
  generalize mRec L T K F S B (fun _ => 0) n = s
  obtain ⟨co, pl, st, jo, cn, ii, fi, fe, U⟩ := s
  rfl
theorem aBehind_0 (s : T9) : aBehind 0 s = s.1 := by
  obtain ⟨co, pl, st, jo, cn, ii, fi, fe, U⟩ := s
  rfl
theorem upS_at (f : N2I) (i : Nat) : ∀ t, upS f i t (i + t) = f i := by
  intro t
  induction t with
  | zero => rfl
  | succ t ih =>
    show swp (upS f i t) (i + t) (i + t + 1) (i + t + 1) = f i
    unfold swp
    rw [pk_us]; exact ih
theorem dnS_at (f : N2I) (i : Nat) : ∀ t, t ≤ i → dnS f i t (i - t) = f i := by
  intro t
  induction t with
  | zero => intro _; rfl
  | succ t ih =>
    intro h
    show swp (dnS f i t) (i - t) (i - t - 1) (i - t - 1) = f i
    unfold swp
    rw [pk_us]; exact ih (by omega)
theorem mvS_at (f : N2I) (i q : Nat) : mvS f i q q = f i := by
  unfold mvS
  rcases Nat.le_total i q with h | h
  · rw [show i - q = 0 by omega]
    show upS f i (q - i) q = f i
    have h2 := upS_at f i (q - i)
    rw [show i + (q - i) = q by omega] at h2
    exact h2
  · rw [show q - i = 0 by omega]
    show dnS f i (i - q) q = f i
    have h2 := dnS_at f i (i - q) (by omega)
    rw [show i - (i - q) = q by omega] at h2
    exact h2
theorem mD_ne {n : Nat} (h : n < 60) : ¬ nI n = 60 := fun e => by
  have := (nI_eq (a := n) (b := 60) (by omega) (by omega)).mp e
  omega
theorem told_of {w j : Nat} (hw : w < 7) {co pl st jo cn ii fi fe : Int32} {U : N2I} (hj : jo = nI j) (hj6 : j ≤ 6) : upd (upd (upd (upd (upd (upd (upd (fun _ => 0) 0 co) 1 pl) 2 st) 3 jo) 4 (mSum U j)) 5 cn) 6 ii w = aBehind (nI w) (co, pl, st, jo, cn, ii, fi, fe, U) := by
  subst hj
  rcases (show w = 0 ∨ w = 1 ∨ w = 2 ∨ w = 3 ∨ w = 4 ∨ w = 5 ∨ w = 6 by omega) with rfl | rfl | rfl | rfl | rfl | rfl | rfl
  · rfl
  · rfl
  · rfl
  · rfl
  · show mSum U j = mSum U (nI j).toNatClampNeg
    rw [nI_clamp (by omega)]
  · rfl
  · rfl
set_option maxHeartbeats 4000000 in
set_option maxRecDepth 100000 in
theorem c_X2_join (l : Launch) (dC : Nat → ClassId) (dI : Nat → Nat → Nat) (cI cZ : ClassId) (mo bK bF bS bB bL bT bU : Nat) (sz : Nat) (L : N2I) (T : N2I) (K : N2I) (F : N2I) (S : N2I) (B : N2I) (U : N2I) (n : Nat) (tw : Int32) (co : Int32) (pl : Int32) (st : Int32) (jo : Int32) (cn : Int32) (ii : Int32) (fi : Int32) (fe : Int32) (a : Int32) (h0 : ¬ a < 0) (h1 : ¬ 100 < a) (hn : n < 60) : Met l yX2_join wsX2_join ({ frames := 2, cells := 0, slots := 0, locals := 52 } : Room) (va_Pc [.ref mo, .int a] (pc_ (dC, dI) [(cI, .int), (cZ, .boolean)] [(mo, .inr (2, [.int tw, .ref bL, .ref bT, .int (nI n), .ref bK, .ref bF, .ref bS, .ref bB, .int co, .int pl, .int st, .int jo, .int cn, .int ii, .int fi, .int fe, .ref bU])), (bK, .inl (cI, 60, .inl K)), (bF, .inl (cI, 60, .inl F)), (bS, .inl (cI, 60, .inl S)), (bB, .inl (cZ, 60, .inl B)), (bL, .inl (cI, 4, .inl L)), (bT, .inl (cI, 4, .inl T)), (bU, .inl (cI, 6, .inl U))] sz)) (va_Qi (fun (r : Int32) (u : Unit) => r = nI n) (fun (u : Unit) (t : State) => va_P (dC, dI) vwCl [(mo, .inr (2, [.int 0, .ref bL, .ref bT, .int (nI (n + 1)), .ref bK, .ref bF, .ref bS, .ref bB, .int co, .int pl, .int st, .int jo, .int cn, .int ii, .int fi, .int fe, .ref bU])), (bK, .inl (cI, 60, .inl (upd K n 0))), (bF, .inl (cI, 60, .inl (upd F n a))), (bS, .inl (cI, 60, .inl (upd S n 0))), (bB, .inl (cZ, 60, .inl (upd B n 0))), (bL, .inl (cI, 4, .inl L)), (bT, .inl (cI, 4, .inl T)), (bU, .inl (cI, 6, .inl U))] t.heap ∧ va_D (va_A [(mo, .inr (2, [.int tw, .ref bL, .ref bT, .int (nI n), .ref bK, .ref bF, .ref bS, .ref bB, .int co, .int pl, .int st, .int jo, .int cn, .int ii, .int fi, .int fe, .ref bU])), (bK, .inl (cI, 60, .inl K)), (bF, .inl (cI, 60, .inl F)), (bS, .inl (cI, 60, .inl S)), (bB, .inl (cZ, 60, .inl B)), (bL, .inl (cI, 4, .inl L)), (bT, .inl (cI, 4, .inl T)), (bU, .inl (cI, 6, .inl U))] sz) [(mo, .inr (2, [.int 0, .ref bL, .ref bT, .int (nI (n + 1)), .ref bK, .ref bF, .ref bS, .ref bB, .int co, .int pl, .int st, .int jo, .int cn, .int ii, .int fi, .int fe, .ref bU])), (bK, .inl (cI, 60, .inl (upd K n 0))), (bF, .inl (cI, 60, .inl (upd F n a))), (bS, .inl (cI, 60, .inl (upd S n 0))), (bB, .inl (cZ, 60, .inl (upd B n 0))), (bL, .inl (cI, 4, .inl L)), (bT, .inl (cI, 4, .inl T)), (bU, .inl (cI, 6, .inl U))]) (va_A [(mo, .inr (2, [.int tw, .ref bL, .ref bT, .int (nI n), .ref bK, .ref bF, .ref bS, .ref bB, .int co, .int pl, .int st, .int jo, .int cn, .int ii, .int fi, .int fe, .ref bU])), (bK, .inl (cI, 60, .inl K)), (bF, .inl (cI, 60, .inl F)), (bS, .inl (cI, 60, .inl S)), (bB, .inl (cZ, 60, .inl B)), (bL, .inl (cI, 4, .inl L)), (bT, .inl (cI, 4, .inl T)), (bU, .inl (cI, 6, .inl U))] sz)) 0 0 (va_A [(mo, .inr (2, [.int tw, .ref bL, .ref bT, .int (nI n), .ref bK, .ref bF, .ref bS, .ref bB, .int co, .int pl, .int st, .int jo, .int cn, .int ii, .int fi, .int fe, .ref bU])), (bK, .inl (cI, 60, .inl K)), (bF, .inl (cI, 60, .inl F)), (bS, .inl (cI, 60, .inl S)), (bB, .inl (cZ, 60, .inl B)), (bL, .inl (cI, 4, .inl L)), (bT, .inl (cI, 4, .inl T)), (bU, .inl (cI, 6, .inl U))] sz) := by
  refine Met.ofW (cc := cX2_join) (maxL := 2) (ret := (some .int)) (by decide) rfl ?_
  intro p e s m args below meth c s₁ BB hml hv
  obtain ⟨rfl, hsz, hP, hK, hD0⟩ := hv
  have hx := BB.exec
  have hb := BB.bytes
  have hr := BB.returns
  have hts := atoms_spec (ws := wsX2_join) BB.pre
  have hown : s.vm.findClass RX2 = some m.cls := findClass_of_methodNamed BB.named
  have hlocks := BB.notSynchronized
  subst hsz
  have hD := hD0.self (sz := s.heap.size)
  generalize hAe : va_A [(mo, .inr (2, [.int tw, .ref bL, .ref bT, .int (nI n), .ref bK, .ref bF, .ref bS, .ref bB, .int co, .int pl, .int st, .int jo, .int cn, .int ii, .int fi, .int fe, .ref bU])), (bK, .inl (cI, 60, .inl K)), (bF, .inl (cI, 60, .inl F)), (bS, .inl (cI, 60, .inl S)), (bB, .inl (cZ, 60, .inl B)), (bL, .inl (cI, 4, .inl L)), (bT, .inl (cI, 4, .inl T)), (bU, .inl (cI, 6, .inl U))] s.heap.size = A at hD ⊢
  have hA : ∀ q : Nat, s.heap.size ≤ q → A q := fun q h => by rw [← hAe]; exact Or.inr h
  have hS : va_S A s.heap s.heap [] := va_S.rf
  have hP : va_P (dC, dI) vwCl [(mo, .inr (2, [.int tw, .ref bL, .ref bT, .int (nI n), .ref bK, .ref bF, .ref bS, .ref bB, .int co, .int pl, .int st, .int jo, .int cn, .int ii, .int fi, .int fe, .ref bU])), (bK, .inl (cI, 60, .inl K)), (bF, .inl (cI, 60, .inl F)), (bS, .inl (cI, 60, .inl S)), (bB, .inl (cZ, 60, .inl B)), (bL, .inl (cI, 4, .inl L)), (bT, .inl (cI, 4, .inl T)), (bU, .inl (cI, 6, .inl U))] s.heap := hP
  have hl := lv_entry ([.ref mo, .int a]) (n := 2) (Nat.le_of_ble_eq_true rfl)
  rw [lg_entry_eq]
  generalize (lg_sl ([.ref mo, .int a]) ++ List.replicate (2 - (lg_sl ([.ref mo, .int a])).length) Slot.unset).toArray = ls at hl ⊢
  have hl : lv_has ls 2 [(0, .ref mo), (1, .int a)] := hl
  have k0 := hts (.fieldLink RX2 32 "KnifeLedgerModel" "thrown" "I") (by decide +kernel)
  have hinX2 : ∀ w ∈ wsX20, w ∈ wsX2_join := by decide +kernel
  have k2 := hts (.fieldLink RX2 36 "KnifeLedgerModel" "entries" "I") (by decide +kernel)
  refine lv_aload_n hx hb dX2_join_0 rfl (lv_at hl 0 rfl) ?_
  refine lv_iconst (v := 0) hx hb dX2_join_1 (by decide) ?_
  refine va_put (D := (dC, dI)) (ci := 2) (v := .int 0) (ty := .int) (C := RX2) (T := TX2) (N := 17) hx hb hts hinX2 tyX2 tyX2_ok nmX2 hown hK hP hD hS 0 rfl rfl 0 (by decide) k0 (fun _ h9 => h9) rfl (by decide +kernel) rfl rfl (Nat.le_of_ble_eq_true rfl) dX2_join_2 (fun H_1 locs hP hD hS => ?_)
  have hP : va_P (dC, dI) vwCl [(mo, .inr (2, [.int 0, .ref bL, .ref bT, .int (nI n), .ref bK, .ref bF, .ref bS, .ref bB, .int co, .int pl, .int st, .int jo, .int cn, .int ii, .int fi, .int fe, .ref bU])), (bK, .inl (cI, 60, .inl K)), (bF, .inl (cI, 60, .inl F)), (bS, .inl (cI, 60, .inl S)), (bB, .inl (cZ, 60, .inl B)), (bL, .inl (cI, 4, .inl L)), (bT, .inl (cI, 4, .inl T)), (bU, .inl (cI, 6, .inl U))] H_1 := hP
  have hD : va_D A [(mo, .inr (2, [.int 0, .ref bL, .ref bT, .int (nI n), .ref bK, .ref bF, .ref bS, .ref bB, .int co, .int pl, .int st, .int jo, .int cn, .int ii, .int fi, .int fe, .ref bU])), (bK, .inl (cI, 60, .inl K)), (bF, .inl (cI, 60, .inl F)), (bS, .inl (cI, 60, .inl S)), (bB, .inl (cZ, 60, .inl B)), (bL, .inl (cI, 4, .inl L)), (bT, .inl (cI, 4, .inl T)), (bU, .inl (cI, 6, .inl U))] := hD
  refine lv_iload_n hx hb dX2_join_5 rfl (lv_at hl 1 rfl) ?_
  refine lv_iconst (v := 0) hx hb dX2_join_6 (by decide) ?_
  refine lv_bipush (v := 100) hx hb dX2_join_7 (by decide) ?_
  have hPc := hP.sub (ws' := []) [] rfl
  have hDc := hD.sub (ws' := []) [] (by decide) rfl
  have hKc := hK.sub (tys' := []) [] rfl
  have hFc := va_free (wc := []) hD hS hA [] rfl
  refine va_calli (va_runS (As := [.int a, .int 0, .int 100]) (rest := []) ⟨hx, hb, hml, hown, hts⟩ (c_X2_isIn l dC dI H_1.size a 0 100) (va_cwS 3 hts gX2_join_X2_isIn rfl rfl rfl (by decide +kernel) ⟨Nat.le_of_ble_eq_true rfl, Nat.le_of_ble_eq_true rfl⟩) (pc_S hKc hPc hDc) rfl rfl hl.1 rfl (lv_room (Nat.le_of_ble_eq_true rfl)) dX2_join_9 ⟨Nat.le_of_ble_eq_true rfl, Nat.le_of_ble_eq_true rfl⟩) hS (fun q _ h => hFc q h) hFc (fun r_2 u t H_2 locs ht hvm hw hB hz1 hk1 hS => ?_)
  try dsimp only at hw hB
  have hw_2 := hw
  replace hw_2 := hw_2.symm
  subst hw_2
  obtain ⟨hP1, hD1⟩ := hB
  rw [ht] at hP1
  obtain ⟨hP, hD⟩ := va_join (wr := [(mo, .inr (2, [.int 0, .ref bL, .ref bT, .int (nI n), .ref bK, .ref bF, .ref bS, .ref bB, .int co, .int pl, .int st, .int jo, .int cn, .int ii, .int fi, .int fe, .ref bU])), (bK, .inl (cI, 60, .inl K)), (bF, .inl (cI, 60, .inl F)), (bS, .inl (cI, 60, .inl S)), (bB, .inl (cZ, 60, .inl B)), (bL, .inl (cI, 4, .inl L)), (bT, .inl (cI, 4, .inl T)), (bU, .inl (cI, 6, .inl U))]) (w1 := []) hP hD [] [0, 1, 2, 3, 4, 5, 6, 7] rfl rfl (by decide) (by decide) hk1 hFc hP1 hD1
  have hP : va_P (dC, dI) vwCl [(mo, .inr (2, [.int 0, .ref bL, .ref bT, .int (nI n), .ref bK, .ref bF, .ref bS, .ref bB, .int co, .int pl, .int st, .int jo, .int cn, .int ii, .int fi, .int fe, .ref bU])), (bK, .inl (cI, 60, .inl K)), (bF, .inl (cI, 60, .inl F)), (bS, .inl (cI, 60, .inl S)), (bB, .inl (cZ, 60, .inl B)), (bL, .inl (cI, 4, .inl L)), (bT, .inl (cI, 4, .inl T)), (bU, .inl (cI, 6, .inl U))] H_2 := hP
  have hD : va_D A [(mo, .inr (2, [.int 0, .ref bL, .ref bT, .int (nI n), .ref bK, .ref bF, .ref bS, .ref bB, .int co, .int pl, .int st, .int jo, .int cn, .int ii, .int fi, .int fe, .ref bU])), (bK, .inl (cI, 60, .inl K)), (bF, .inl (cI, 60, .inl F)), (bS, .inl (cI, 60, .inl S)), (bB, .inl (cZ, 60, .inl B)), (bL, .inl (cI, 4, .inl L)), (bT, .inl (cI, 4, .inl T)), (bU, .inl (cI, 6, .inl U))] := hD
  refine lv_if_ne (tgt := 21) hx hb dX2_join_12 (by decide) (fun _ => ?_) (fun h9 => absurd h9 (by rw [mIn_ok h0 h1]; exact one_ne))
  refine lv_aload_n hx hb dX2_join_21 rfl (lv_at hl 0 rfl) ?_
  refine va_get (D := (dC, dI)) (ci := 2) (v := .int (nI n)) (C := RX2) (T := TX2) (N := 17) hx hb hts hinX2 hown hK hP 0 rfl rfl 3 (by decide) k2 (fun _ h9 => h9) rfl dX2_join_22 ?_
  refine lv_bipush (v := 60) hx hb dX2_join_25 (by decide) ?_
  refine lv_icmp_ne (tgt := 38) hx hb dX2_join_27 (by decide) (fun _ => ?_) (fun h9 => absurd h9 (mD_ne hn))
  refine lv_aload_n hx hb dX2_join_38 rfl (lv_at hl 0 rfl) ?_
  refine lv_iconst (v := 0) hx hb dX2_join_39 (by decide) ?_
  refine lv_iload_n hx hb dX2_join_40 rfl (lv_at hl 1 rfl) ?_
  refine lv_iconst (v := 0) hx hb dX2_join_41 (by decide) ?_
  have hPc := hP.sub (ws' := [(mo, .inr (2, [.int 0, .ref bL, .ref bT, .int (nI n), .ref bK, .ref bF, .ref bS, .ref bB, .int co, .int pl, .int st, .int jo, .int cn, .int ii, .int fi, .int fe, .ref bU])), (bK, .inl (cI, 60, .inl K)), (bF, .inl (cI, 60, .inl F)), (bS, .inl (cI, 60, .inl S)), (bB, .inl (cZ, 60, .inl B)), (bL, .inl (cI, 4, .inl L)), (bT, .inl (cI, 4, .inl T)), (bU, .inl (cI, 6, .inl U))]) [0, 1, 2, 3, 4, 5, 6, 7] rfl
  have hDc := hD.sub (ws' := [(mo, .inr (2, [.int 0, .ref bL, .ref bT, .int (nI n), .ref bK, .ref bF, .ref bS, .ref bB, .int co, .int pl, .int st, .int jo, .int cn, .int ii, .int fi, .int fe, .ref bU])), (bK, .inl (cI, 60, .inl K)), (bF, .inl (cI, 60, .inl F)), (bS, .inl (cI, 60, .inl S)), (bB, .inl (cZ, 60, .inl B)), (bL, .inl (cI, 4, .inl L)), (bT, .inl (cI, 4, .inl T)), (bU, .inl (cI, 6, .inl U))]) [0, 1, 2, 3, 4, 5, 6, 7] (by decide) rfl
  have hKc := hK.sub (tys' := [(cI, .int), (cZ, .boolean)]) [0, 1] rfl
  have hFc := va_free (wc := [(mo, .inr (2, [.int 0, .ref bL, .ref bT, .int (nI n), .ref bK, .ref bF, .ref bS, .ref bB, .int co, .int pl, .int st, .int jo, .int cn, .int ii, .int fi, .int fe, .ref bU])), (bK, .inl (cI, 60, .inl K)), (bF, .inl (cI, 60, .inl F)), (bS, .inl (cI, 60, .inl S)), (bB, .inl (cZ, 60, .inl B)), (bL, .inl (cI, 4, .inl L)), (bT, .inl (cI, 4, .inl T)), (bU, .inl (cI, 6, .inl U))]) hD hS hA [0, 1, 2, 3, 4, 5, 6, 7] rfl
  refine va_calli (va_runV (As := [.int 0, .int a, .int 0]) (rest := []) ⟨hx, hb, hml, hown, hts⟩ (c_X2_write l dC dI cI cZ mo bK bF bS bB bL bT bU H_2.size L T K F S B U n 0 co pl st jo cn ii fi fe 0 a 0 (hn)) (cwV 3 hts gX2_join_X2_write rfl rfl rfl (by decide +kernel) ⟨Nat.le_of_ble_eq_true rfl, Nat.le_of_ble_eq_true rfl⟩) (pc_V hKc hPc hDc (ci := 2) (C := RX2) (T := TX2) (N := 17) (q0 := 0) rfl rfl) rfl rfl hl.1 rfl (lv_room (Nat.le_of_ble_eq_true rfl)) dX2_join_42 ⟨Nat.le_of_ble_eq_true rfl, Nat.le_of_ble_eq_true rfl⟩) hS (fun q _ h => hFc q h) hFc (fun r_3 u t H_3 locs ht hvm hw hB hz1 hk1 hS => ?_)
  try dsimp only at hw hB
  have hw_3 := hw
  replace hw_3 := hw_3.symm
  subst hw_3
  obtain ⟨hP1, hD1⟩ := hB
  rw [ht] at hP1
  obtain ⟨hP, hD⟩ := va_join (wr := []) (w1 := [(mo, .inr (2, [.int 0, .ref bL, .ref bT, .int (nI (n + 1)), .ref bK, .ref bF, .ref bS, .ref bB, .int co, .int pl, .int st, .int jo, .int cn, .int ii, .int fi, .int fe, .ref bU])), (bK, .inl (cI, 60, .inl (upd K n 0))), (bF, .inl (cI, 60, .inl (upd F n a))), (bS, .inl (cI, 60, .inl (upd S n 0))), (bB, .inl (cZ, 60, .inl (upd B n 0))), (bL, .inl (cI, 4, .inl L)), (bT, .inl (cI, 4, .inl T)), (bU, .inl (cI, 6, .inl U))]) hP hD [0, 1, 2, 3, 4, 5, 6, 7] [] rfl rfl (by decide) (by decide) hk1 hFc hP1 hD1
  have hP : va_P (dC, dI) vwCl [(mo, .inr (2, [.int 0, .ref bL, .ref bT, .int (nI (n + 1)), .ref bK, .ref bF, .ref bS, .ref bB, .int co, .int pl, .int st, .int jo, .int cn, .int ii, .int fi, .int fe, .ref bU])), (bK, .inl (cI, 60, .inl (upd K n 0))), (bF, .inl (cI, 60, .inl (upd F n a))), (bS, .inl (cI, 60, .inl (upd S n 0))), (bB, .inl (cZ, 60, .inl (upd B n 0))), (bL, .inl (cI, 4, .inl L)), (bT, .inl (cI, 4, .inl T)), (bU, .inl (cI, 6, .inl U))] H_3 := hP
  have hD : va_D A [(mo, .inr (2, [.int 0, .ref bL, .ref bT, .int (nI (n + 1)), .ref bK, .ref bF, .ref bS, .ref bB, .int co, .int pl, .int st, .int jo, .int cn, .int ii, .int fi, .int fe, .ref bU])), (bK, .inl (cI, 60, .inl (upd K n 0))), (bF, .inl (cI, 60, .inl (upd F n a))), (bS, .inl (cI, 60, .inl (upd S n 0))), (bB, .inl (cZ, 60, .inl (upd B n 0))), (bL, .inl (cI, 4, .inl L)), (bT, .inl (cI, 4, .inl T)), (bU, .inl (cI, 6, .inl U))] := hD
  have hpost : (nI n) = nI n := by
    rfl
  have hP9 := hP.sub (ws' := [(mo, .inr (2, [.int 0, .ref bL, .ref bT, .int (nI (n + 1)), .ref bK, .ref bF, .ref bS, .ref bB, .int co, .int pl, .int st, .int jo, .int cn, .int ii, .int fi, .int fe, .ref bU])), (bK, .inl (cI, 60, .inl (upd K n 0))), (bF, .inl (cI, 60, .inl (upd F n a))), (bS, .inl (cI, 60, .inl (upd S n 0))), (bB, .inl (cZ, 60, .inl (upd B n 0))), (bL, .inl (cI, 4, .inl L)), (bT, .inl (cI, 4, .inl T)), (bU, .inl (cI, 6, .inl U))]) [0, 1, 2, 3, 4, 5, 6, 7] rfl
  have hD9 := hD.sub (ws' := [(mo, .inr (2, [.int 0, .ref bL, .ref bT, .int (nI (n + 1)), .ref bK, .ref bF, .ref bS, .ref bB, .int co, .int pl, .int st, .int jo, .int cn, .int ii, .int fi, .int fe, .ref bU])), (bK, .inl (cI, 60, .inl (upd K n 0))), (bF, .inl (cI, 60, .inl (upd F n a))), (bS, .inl (cI, 60, .inl (upd S n 0))), (bB, .inl (cZ, 60, .inl (upd B n 0))), (bL, .inl (cI, 4, .inl L)), (bT, .inl (cI, 4, .inl T)), (bU, .inl (cI, 6, .inl U))]) [0, 1, 2, 3, 4, 5, 6, 7] (by decide) rfl
  exact W.iret (v := nI n) hx hb hr (fun t ht hW => ⟨⟨(nI n), (), rfl, hpost, by rw [ht]; exact hP9, hD9⟩, hS.F ht⟩) hS.2.2 dX2_join_45

set_option maxHeartbeats 4000000 in
set_option maxRecDepth 100000 in
theorem c_X2_join_f1 (l : Launch) (dC : Nat → ClassId) (dI : Nat → Nat → Nat) (cI cZ : ClassId) (mo bK bF bS bB bL bT bU : Nat) (sz : Nat) (L : N2I) (T : N2I) (K : N2I) (F : N2I) (S : N2I) (B : N2I) (U : N2I) (n : Nat) (tw : Int32) (co : Int32) (pl : Int32) (st : Int32) (jo : Int32) (cn : Int32) (ii : Int32) (fi : Int32) (fe : Int32) (a : Int32) (hb0 : a < 0 ∨ 100 < a) : Met l yX2_join wsX2_join ({ frames := 2, cells := 0, slots := 0, locals := 52 } : Room) (va_Pc [.ref mo, .int a] (pc_ (dC, dI) [(cI, .int), (cZ, .boolean)] [(mo, .inr (2, [.int tw, .ref bL, .ref bT, .int (nI n), .ref bK, .ref bF, .ref bS, .ref bB, .int co, .int pl, .int st, .int jo, .int cn, .int ii, .int fi, .int fe, .ref bU])), (bK, .inl (cI, 60, .inl K)), (bF, .inl (cI, 60, .inl F)), (bS, .inl (cI, 60, .inl S)), (bB, .inl (cZ, 60, .inl B)), (bL, .inl (cI, 4, .inl L)), (bT, .inl (cI, 4, .inl T)), (bU, .inl (cI, 6, .inl U))] sz)) (va_Qi (fun (r : Int32) (u : Unit) => r = 0) (fun (u : Unit) (t : State) => va_P (dC, dI) vwCl [(mo, .inr (2, [.int 1, .ref bL, .ref bT, .int (nI n), .ref bK, .ref bF, .ref bS, .ref bB, .int co, .int pl, .int st, .int jo, .int cn, .int ii, .int fi, .int fe, .ref bU])), (bK, .inl (cI, 60, .inl K)), (bF, .inl (cI, 60, .inl F)), (bS, .inl (cI, 60, .inl S)), (bB, .inl (cZ, 60, .inl B)), (bL, .inl (cI, 4, .inl L)), (bT, .inl (cI, 4, .inl T)), (bU, .inl (cI, 6, .inl U))] t.heap ∧ va_D (va_A [(mo, .inr (2, [.int tw, .ref bL, .ref bT, .int (nI n), .ref bK, .ref bF, .ref bS, .ref bB, .int co, .int pl, .int st, .int jo, .int cn, .int ii, .int fi, .int fe, .ref bU])), (bK, .inl (cI, 60, .inl K)), (bF, .inl (cI, 60, .inl F)), (bS, .inl (cI, 60, .inl S)), (bB, .inl (cZ, 60, .inl B)), (bL, .inl (cI, 4, .inl L)), (bT, .inl (cI, 4, .inl T)), (bU, .inl (cI, 6, .inl U))] sz) [(mo, .inr (2, [.int 1, .ref bL, .ref bT, .int (nI n), .ref bK, .ref bF, .ref bS, .ref bB, .int co, .int pl, .int st, .int jo, .int cn, .int ii, .int fi, .int fe, .ref bU])), (bK, .inl (cI, 60, .inl K)), (bF, .inl (cI, 60, .inl F)), (bS, .inl (cI, 60, .inl S)), (bB, .inl (cZ, 60, .inl B)), (bL, .inl (cI, 4, .inl L)), (bT, .inl (cI, 4, .inl T)), (bU, .inl (cI, 6, .inl U))]) (va_A [(mo, .inr (2, [.int tw, .ref bL, .ref bT, .int (nI n), .ref bK, .ref bF, .ref bS, .ref bB, .int co, .int pl, .int st, .int jo, .int cn, .int ii, .int fi, .int fe, .ref bU])), (bK, .inl (cI, 60, .inl K)), (bF, .inl (cI, 60, .inl F)), (bS, .inl (cI, 60, .inl S)), (bB, .inl (cZ, 60, .inl B)), (bL, .inl (cI, 4, .inl L)), (bT, .inl (cI, 4, .inl T)), (bU, .inl (cI, 6, .inl U))] sz)) 0 0 (va_A [(mo, .inr (2, [.int tw, .ref bL, .ref bT, .int (nI n), .ref bK, .ref bF, .ref bS, .ref bB, .int co, .int pl, .int st, .int jo, .int cn, .int ii, .int fi, .int fe, .ref bU])), (bK, .inl (cI, 60, .inl K)), (bF, .inl (cI, 60, .inl F)), (bS, .inl (cI, 60, .inl S)), (bB, .inl (cZ, 60, .inl B)), (bL, .inl (cI, 4, .inl L)), (bT, .inl (cI, 4, .inl T)), (bU, .inl (cI, 6, .inl U))] sz) := by
  refine Met.ofW (cc := cX2_join) (maxL := 2) (ret := (some .int)) (by decide) rfl ?_
  intro p e s m args below meth c s₁ BB hml hv
  obtain ⟨rfl, hsz, hP, hK, hD0⟩ := hv
  have hx := BB.exec
  have hb := BB.bytes
  have hr := BB.returns
  have hts := atoms_spec (ws := wsX2_join) BB.pre
  have hown : s.vm.findClass RX2 = some m.cls := findClass_of_methodNamed BB.named
  have hlocks := BB.notSynchronized
  subst hsz
  have hD := hD0.self (sz := s.heap.size)
  generalize hAe : va_A [(mo, .inr (2, [.int tw, .ref bL, .ref bT, .int (nI n), .ref bK, .ref bF, .ref bS, .ref bB, .int co, .int pl, .int st, .int jo, .int cn, .int ii, .int fi, .int fe, .ref bU])), (bK, .inl (cI, 60, .inl K)), (bF, .inl (cI, 60, .inl F)), (bS, .inl (cI, 60, .inl S)), (bB, .inl (cZ, 60, .inl B)), (bL, .inl (cI, 4, .inl L)), (bT, .inl (cI, 4, .inl T)), (bU, .inl (cI, 6, .inl U))] s.heap.size = A at hD ⊢
  have hA : ∀ q : Nat, s.heap.size ≤ q → A q := fun q h => by rw [← hAe]; exact Or.inr h
  have hS : va_S A s.heap s.heap [] := va_S.rf
  have hP : va_P (dC, dI) vwCl [(mo, .inr (2, [.int tw, .ref bL, .ref bT, .int (nI n), .ref bK, .ref bF, .ref bS, .ref bB, .int co, .int pl, .int st, .int jo, .int cn, .int ii, .int fi, .int fe, .ref bU])), (bK, .inl (cI, 60, .inl K)), (bF, .inl (cI, 60, .inl F)), (bS, .inl (cI, 60, .inl S)), (bB, .inl (cZ, 60, .inl B)), (bL, .inl (cI, 4, .inl L)), (bT, .inl (cI, 4, .inl T)), (bU, .inl (cI, 6, .inl U))] s.heap := hP
  have hl := lv_entry ([.ref mo, .int a]) (n := 2) (Nat.le_of_ble_eq_true rfl)
  rw [lg_entry_eq]
  generalize (lg_sl ([.ref mo, .int a]) ++ List.replicate (2 - (lg_sl ([.ref mo, .int a])).length) Slot.unset).toArray = ls at hl ⊢
  have hl : lv_has ls 2 [(0, .ref mo), (1, .int a)] := hl
  have k0 := hts (.fieldLink RX2 32 "KnifeLedgerModel" "thrown" "I") (by decide +kernel)
  have hinX2 : ∀ w ∈ wsX20, w ∈ wsX2_join := by decide +kernel
  refine lv_aload_n hx hb dX2_join_0 rfl (lv_at hl 0 rfl) ?_
  refine lv_iconst (v := 0) hx hb dX2_join_1 (by decide) ?_
  refine va_put (D := (dC, dI)) (ci := 2) (v := .int 0) (ty := .int) (C := RX2) (T := TX2) (N := 17) hx hb hts hinX2 tyX2 tyX2_ok nmX2 hown hK hP hD hS 0 rfl rfl 0 (by decide) k0 (fun _ h9 => h9) rfl (by decide +kernel) rfl rfl (Nat.le_of_ble_eq_true rfl) dX2_join_2 (fun H_1 locs hP hD hS => ?_)
  have hP : va_P (dC, dI) vwCl [(mo, .inr (2, [.int 0, .ref bL, .ref bT, .int (nI n), .ref bK, .ref bF, .ref bS, .ref bB, .int co, .int pl, .int st, .int jo, .int cn, .int ii, .int fi, .int fe, .ref bU])), (bK, .inl (cI, 60, .inl K)), (bF, .inl (cI, 60, .inl F)), (bS, .inl (cI, 60, .inl S)), (bB, .inl (cZ, 60, .inl B)), (bL, .inl (cI, 4, .inl L)), (bT, .inl (cI, 4, .inl T)), (bU, .inl (cI, 6, .inl U))] H_1 := hP
  have hD : va_D A [(mo, .inr (2, [.int 0, .ref bL, .ref bT, .int (nI n), .ref bK, .ref bF, .ref bS, .ref bB, .int co, .int pl, .int st, .int jo, .int cn, .int ii, .int fi, .int fe, .ref bU])), (bK, .inl (cI, 60, .inl K)), (bF, .inl (cI, 60, .inl F)), (bS, .inl (cI, 60, .inl S)), (bB, .inl (cZ, 60, .inl B)), (bL, .inl (cI, 4, .inl L)), (bT, .inl (cI, 4, .inl T)), (bU, .inl (cI, 6, .inl U))] := hD
  refine lv_iload_n hx hb dX2_join_5 rfl (lv_at hl 1 rfl) ?_
  refine lv_iconst (v := 0) hx hb dX2_join_6 (by decide) ?_
  refine lv_bipush (v := 100) hx hb dX2_join_7 (by decide) ?_
  have hPc := hP.sub (ws' := []) [] rfl
  have hDc := hD.sub (ws' := []) [] (by decide) rfl
  have hKc := hK.sub (tys' := []) [] rfl
  have hFc := va_free (wc := []) hD hS hA [] rfl
  refine va_calli (va_runS (As := [.int a, .int 0, .int 100]) (rest := []) ⟨hx, hb, hml, hown, hts⟩ (c_X2_isIn l dC dI H_1.size a 0 100) (va_cwS 3 hts gX2_join_X2_isIn rfl rfl rfl (by decide +kernel) ⟨Nat.le_of_ble_eq_true rfl, Nat.le_of_ble_eq_true rfl⟩) (pc_S hKc hPc hDc) rfl rfl hl.1 rfl (lv_room (Nat.le_of_ble_eq_true rfl)) dX2_join_9 ⟨Nat.le_of_ble_eq_true rfl, Nat.le_of_ble_eq_true rfl⟩) hS (fun q _ h => hFc q h) hFc (fun r_2 u t H_2 locs ht hvm hw hB hz1 hk1 hS => ?_)
  try dsimp only at hw hB
  have hw_2 := hw
  replace hw_2 := hw_2.symm
  subst hw_2
  obtain ⟨hP1, hD1⟩ := hB
  rw [ht] at hP1
  obtain ⟨hP, hD⟩ := va_join (wr := [(mo, .inr (2, [.int 0, .ref bL, .ref bT, .int (nI n), .ref bK, .ref bF, .ref bS, .ref bB, .int co, .int pl, .int st, .int jo, .int cn, .int ii, .int fi, .int fe, .ref bU])), (bK, .inl (cI, 60, .inl K)), (bF, .inl (cI, 60, .inl F)), (bS, .inl (cI, 60, .inl S)), (bB, .inl (cZ, 60, .inl B)), (bL, .inl (cI, 4, .inl L)), (bT, .inl (cI, 4, .inl T)), (bU, .inl (cI, 6, .inl U))]) (w1 := []) hP hD [] [0, 1, 2, 3, 4, 5, 6, 7] rfl rfl (by decide) (by decide) hk1 hFc hP1 hD1
  have hP : va_P (dC, dI) vwCl [(mo, .inr (2, [.int 0, .ref bL, .ref bT, .int (nI n), .ref bK, .ref bF, .ref bS, .ref bB, .int co, .int pl, .int st, .int jo, .int cn, .int ii, .int fi, .int fe, .ref bU])), (bK, .inl (cI, 60, .inl K)), (bF, .inl (cI, 60, .inl F)), (bS, .inl (cI, 60, .inl S)), (bB, .inl (cZ, 60, .inl B)), (bL, .inl (cI, 4, .inl L)), (bT, .inl (cI, 4, .inl T)), (bU, .inl (cI, 6, .inl U))] H_2 := hP
  have hD : va_D A [(mo, .inr (2, [.int 0, .ref bL, .ref bT, .int (nI n), .ref bK, .ref bF, .ref bS, .ref bB, .int co, .int pl, .int st, .int jo, .int cn, .int ii, .int fi, .int fe, .ref bU])), (bK, .inl (cI, 60, .inl K)), (bF, .inl (cI, 60, .inl F)), (bS, .inl (cI, 60, .inl S)), (bB, .inl (cZ, 60, .inl B)), (bL, .inl (cI, 4, .inl L)), (bT, .inl (cI, 4, .inl T)), (bU, .inl (cI, 6, .inl U))] := hD
  refine lv_if_ne (tgt := 21) hx hb dX2_join_12 (by decide) (fun h9 => absurd (mIn_bad hb0) h9) (fun _ => ?_)
  refine lv_aload_n hx hb dX2_join_15 rfl (lv_at hl 0 rfl) ?_
  refine lv_iconst (v := 1) hx hb dX2_join_16 (by decide) ?_
  have hPc := hP.sub (ws' := [(mo, .inr (2, [.int 0, .ref bL, .ref bT, .int (nI n), .ref bK, .ref bF, .ref bS, .ref bB, .int co, .int pl, .int st, .int jo, .int cn, .int ii, .int fi, .int fe, .ref bU])), (bK, .inl (cI, 60, .inl K)), (bF, .inl (cI, 60, .inl F)), (bS, .inl (cI, 60, .inl S)), (bB, .inl (cZ, 60, .inl B)), (bL, .inl (cI, 4, .inl L)), (bT, .inl (cI, 4, .inl T)), (bU, .inl (cI, 6, .inl U))]) [0, 1, 2, 3, 4, 5, 6, 7] rfl
  have hDc := hD.sub (ws' := [(mo, .inr (2, [.int 0, .ref bL, .ref bT, .int (nI n), .ref bK, .ref bF, .ref bS, .ref bB, .int co, .int pl, .int st, .int jo, .int cn, .int ii, .int fi, .int fe, .ref bU])), (bK, .inl (cI, 60, .inl K)), (bF, .inl (cI, 60, .inl F)), (bS, .inl (cI, 60, .inl S)), (bB, .inl (cZ, 60, .inl B)), (bL, .inl (cI, 4, .inl L)), (bT, .inl (cI, 4, .inl T)), (bU, .inl (cI, 6, .inl U))]) [0, 1, 2, 3, 4, 5, 6, 7] (by decide) rfl
  have hKc := hK.sub (tys' := [(cI, .int), (cZ, .boolean)]) [0, 1] rfl
  have hFc := va_free (wc := [(mo, .inr (2, [.int 0, .ref bL, .ref bT, .int (nI n), .ref bK, .ref bF, .ref bS, .ref bB, .int co, .int pl, .int st, .int jo, .int cn, .int ii, .int fi, .int fe, .ref bU])), (bK, .inl (cI, 60, .inl K)), (bF, .inl (cI, 60, .inl F)), (bS, .inl (cI, 60, .inl S)), (bB, .inl (cZ, 60, .inl B)), (bL, .inl (cI, 4, .inl L)), (bT, .inl (cI, 4, .inl T)), (bU, .inl (cI, 6, .inl U))]) hD hS hA [0, 1, 2, 3, 4, 5, 6, 7] rfl
  refine va_calli (va_runV (As := [.int 1]) (rest := []) ⟨hx, hb, hml, hown, hts⟩ (c_X2_fail l dC dI cI cZ mo bK bF bS bB bL bT bU H_2.size L T K F S B U n 0 co pl st jo cn ii fi fe 1) (cwV 1 hts gX2_join_X2_fail rfl rfl rfl (by decide +kernel) ⟨Nat.le_of_ble_eq_true rfl, Nat.le_of_ble_eq_true rfl⟩) (pc_V hKc hPc hDc (ci := 2) (C := RX2) (T := TX2) (N := 17) (q0 := 0) rfl rfl) rfl rfl hl.1 rfl (lv_room (Nat.le_of_ble_eq_true rfl)) dX2_join_17 ⟨Nat.le_of_ble_eq_true rfl, Nat.le_of_ble_eq_true rfl⟩) hS (fun q _ h => hFc q h) hFc (fun r_3 u t H_3 locs ht hvm hw hB hz1 hk1 hS => ?_)
  try dsimp only at hw hB
  have hw_3 := hw
  replace hw_3 := hw_3.symm
  subst hw_3
  obtain ⟨hP1, hD1⟩ := hB
  rw [ht] at hP1
  obtain ⟨hP, hD⟩ := va_join (wr := []) (w1 := [(mo, .inr (2, [.int 1, .ref bL, .ref bT, .int (nI n), .ref bK, .ref bF, .ref bS, .ref bB, .int co, .int pl, .int st, .int jo, .int cn, .int ii, .int fi, .int fe, .ref bU])), (bK, .inl (cI, 60, .inl K)), (bF, .inl (cI, 60, .inl F)), (bS, .inl (cI, 60, .inl S)), (bB, .inl (cZ, 60, .inl B)), (bL, .inl (cI, 4, .inl L)), (bT, .inl (cI, 4, .inl T)), (bU, .inl (cI, 6, .inl U))]) hP hD [0, 1, 2, 3, 4, 5, 6, 7] [] rfl rfl (by decide) (by decide) hk1 hFc hP1 hD1
  have hP : va_P (dC, dI) vwCl [(mo, .inr (2, [.int 1, .ref bL, .ref bT, .int (nI n), .ref bK, .ref bF, .ref bS, .ref bB, .int co, .int pl, .int st, .int jo, .int cn, .int ii, .int fi, .int fe, .ref bU])), (bK, .inl (cI, 60, .inl K)), (bF, .inl (cI, 60, .inl F)), (bS, .inl (cI, 60, .inl S)), (bB, .inl (cZ, 60, .inl B)), (bL, .inl (cI, 4, .inl L)), (bT, .inl (cI, 4, .inl T)), (bU, .inl (cI, 6, .inl U))] H_3 := hP
  have hD : va_D A [(mo, .inr (2, [.int 1, .ref bL, .ref bT, .int (nI n), .ref bK, .ref bF, .ref bS, .ref bB, .int co, .int pl, .int st, .int jo, .int cn, .int ii, .int fi, .int fe, .ref bU])), (bK, .inl (cI, 60, .inl K)), (bF, .inl (cI, 60, .inl F)), (bS, .inl (cI, 60, .inl S)), (bB, .inl (cZ, 60, .inl B)), (bL, .inl (cI, 4, .inl L)), (bT, .inl (cI, 4, .inl T)), (bU, .inl (cI, 6, .inl U))] := hD
  have hpost : (0 : Int32) = 0 := by
    rfl
  have hP9 := hP.sub (ws' := [(mo, .inr (2, [.int 1, .ref bL, .ref bT, .int (nI n), .ref bK, .ref bF, .ref bS, .ref bB, .int co, .int pl, .int st, .int jo, .int cn, .int ii, .int fi, .int fe, .ref bU])), (bK, .inl (cI, 60, .inl K)), (bF, .inl (cI, 60, .inl F)), (bS, .inl (cI, 60, .inl S)), (bB, .inl (cZ, 60, .inl B)), (bL, .inl (cI, 4, .inl L)), (bT, .inl (cI, 4, .inl T)), (bU, .inl (cI, 6, .inl U))]) [0, 1, 2, 3, 4, 5, 6, 7] rfl
  have hD9 := hD.sub (ws' := [(mo, .inr (2, [.int 1, .ref bL, .ref bT, .int (nI n), .ref bK, .ref bF, .ref bS, .ref bB, .int co, .int pl, .int st, .int jo, .int cn, .int ii, .int fi, .int fe, .ref bU])), (bK, .inl (cI, 60, .inl K)), (bF, .inl (cI, 60, .inl F)), (bS, .inl (cI, 60, .inl S)), (bB, .inl (cZ, 60, .inl B)), (bL, .inl (cI, 4, .inl L)), (bT, .inl (cI, 4, .inl T)), (bU, .inl (cI, 6, .inl U))]) [0, 1, 2, 3, 4, 5, 6, 7] (by decide) rfl
  exact W.iret (v := 0) hx hb hr (fun t ht hW => ⟨⟨0, (), rfl, hpost, by rw [ht]; exact hP9, hD9⟩, hS.F ht⟩) hS.2.2 dX2_join_20

set_option maxHeartbeats 4000000 in
set_option maxRecDepth 100000 in
theorem c_X2_join_full (l : Launch) (dC : Nat → ClassId) (dI : Nat → Nat → Nat) (cI cZ : ClassId) (mo bK bF bS bB bL bT bU : Nat) (sz : Nat) (L : N2I) (T : N2I) (K : N2I) (F : N2I) (S : N2I) (B : N2I) (U : N2I) (n : Nat) (tw : Int32) (co : Int32) (pl : Int32) (st : Int32) (jo : Int32) (cn : Int32) (ii : Int32) (fi : Int32) (fe : Int32) (a : Int32) (h0 : ¬ a < 0) (h1 : ¬ 100 < a) (hn : n = 60) : Met l yX2_join wsX2_join ({ frames := 2, cells := 0, slots := 0, locals := 52 } : Room) (va_Pc [.ref mo, .int a] (pc_ (dC, dI) [(cI, .int), (cZ, .boolean)] [(mo, .inr (2, [.int tw, .ref bL, .ref bT, .int (nI n), .ref bK, .ref bF, .ref bS, .ref bB, .int co, .int pl, .int st, .int jo, .int cn, .int ii, .int fi, .int fe, .ref bU])), (bK, .inl (cI, 60, .inl K)), (bF, .inl (cI, 60, .inl F)), (bS, .inl (cI, 60, .inl S)), (bB, .inl (cZ, 60, .inl B)), (bL, .inl (cI, 4, .inl L)), (bT, .inl (cI, 4, .inl T)), (bU, .inl (cI, 6, .inl U))] sz)) (va_Qi (fun (r : Int32) (u : Unit) => r = 0) (fun (u : Unit) (t : State) => va_P (dC, dI) vwCl [(mo, .inr (2, [.int 2, .ref bL, .ref bT, .int (nI n), .ref bK, .ref bF, .ref bS, .ref bB, .int co, .int pl, .int st, .int jo, .int cn, .int ii, .int fi, .int fe, .ref bU])), (bK, .inl (cI, 60, .inl K)), (bF, .inl (cI, 60, .inl F)), (bS, .inl (cI, 60, .inl S)), (bB, .inl (cZ, 60, .inl B)), (bL, .inl (cI, 4, .inl L)), (bT, .inl (cI, 4, .inl T)), (bU, .inl (cI, 6, .inl U))] t.heap ∧ va_D (va_A [(mo, .inr (2, [.int tw, .ref bL, .ref bT, .int (nI n), .ref bK, .ref bF, .ref bS, .ref bB, .int co, .int pl, .int st, .int jo, .int cn, .int ii, .int fi, .int fe, .ref bU])), (bK, .inl (cI, 60, .inl K)), (bF, .inl (cI, 60, .inl F)), (bS, .inl (cI, 60, .inl S)), (bB, .inl (cZ, 60, .inl B)), (bL, .inl (cI, 4, .inl L)), (bT, .inl (cI, 4, .inl T)), (bU, .inl (cI, 6, .inl U))] sz) [(mo, .inr (2, [.int 2, .ref bL, .ref bT, .int (nI n), .ref bK, .ref bF, .ref bS, .ref bB, .int co, .int pl, .int st, .int jo, .int cn, .int ii, .int fi, .int fe, .ref bU])), (bK, .inl (cI, 60, .inl K)), (bF, .inl (cI, 60, .inl F)), (bS, .inl (cI, 60, .inl S)), (bB, .inl (cZ, 60, .inl B)), (bL, .inl (cI, 4, .inl L)), (bT, .inl (cI, 4, .inl T)), (bU, .inl (cI, 6, .inl U))]) (va_A [(mo, .inr (2, [.int tw, .ref bL, .ref bT, .int (nI n), .ref bK, .ref bF, .ref bS, .ref bB, .int co, .int pl, .int st, .int jo, .int cn, .int ii, .int fi, .int fe, .ref bU])), (bK, .inl (cI, 60, .inl K)), (bF, .inl (cI, 60, .inl F)), (bS, .inl (cI, 60, .inl S)), (bB, .inl (cZ, 60, .inl B)), (bL, .inl (cI, 4, .inl L)), (bT, .inl (cI, 4, .inl T)), (bU, .inl (cI, 6, .inl U))] sz)) 0 0 (va_A [(mo, .inr (2, [.int tw, .ref bL, .ref bT, .int (nI n), .ref bK, .ref bF, .ref bS, .ref bB, .int co, .int pl, .int st, .int jo, .int cn, .int ii, .int fi, .int fe, .ref bU])), (bK, .inl (cI, 60, .inl K)), (bF, .inl (cI, 60, .inl F)), (bS, .inl (cI, 60, .inl S)), (bB, .inl (cZ, 60, .inl B)), (bL, .inl (cI, 4, .inl L)), (bT, .inl (cI, 4, .inl T)), (bU, .inl (cI, 6, .inl U))] sz) := by
  refine Met.ofW (cc := cX2_join) (maxL := 2) (ret := (some .int)) (by decide) rfl ?_
  intro p e s m args below meth c s₁ BB hml hv
  obtain ⟨rfl, hsz, hP, hK, hD0⟩ := hv
  have hx := BB.exec
  have hb := BB.bytes
  have hr := BB.returns
  have hts := atoms_spec (ws := wsX2_join) BB.pre
  have hown : s.vm.findClass RX2 = some m.cls := findClass_of_methodNamed BB.named
  have hlocks := BB.notSynchronized
  subst hsz
  have hD := hD0.self (sz := s.heap.size)
  generalize hAe : va_A [(mo, .inr (2, [.int tw, .ref bL, .ref bT, .int (nI n), .ref bK, .ref bF, .ref bS, .ref bB, .int co, .int pl, .int st, .int jo, .int cn, .int ii, .int fi, .int fe, .ref bU])), (bK, .inl (cI, 60, .inl K)), (bF, .inl (cI, 60, .inl F)), (bS, .inl (cI, 60, .inl S)), (bB, .inl (cZ, 60, .inl B)), (bL, .inl (cI, 4, .inl L)), (bT, .inl (cI, 4, .inl T)), (bU, .inl (cI, 6, .inl U))] s.heap.size = A at hD ⊢
  have hA : ∀ q : Nat, s.heap.size ≤ q → A q := fun q h => by rw [← hAe]; exact Or.inr h
  have hS : va_S A s.heap s.heap [] := va_S.rf
  have hP : va_P (dC, dI) vwCl [(mo, .inr (2, [.int tw, .ref bL, .ref bT, .int (nI n), .ref bK, .ref bF, .ref bS, .ref bB, .int co, .int pl, .int st, .int jo, .int cn, .int ii, .int fi, .int fe, .ref bU])), (bK, .inl (cI, 60, .inl K)), (bF, .inl (cI, 60, .inl F)), (bS, .inl (cI, 60, .inl S)), (bB, .inl (cZ, 60, .inl B)), (bL, .inl (cI, 4, .inl L)), (bT, .inl (cI, 4, .inl T)), (bU, .inl (cI, 6, .inl U))] s.heap := hP
  have hl := lv_entry ([.ref mo, .int a]) (n := 2) (Nat.le_of_ble_eq_true rfl)
  rw [lg_entry_eq]
  generalize (lg_sl ([.ref mo, .int a]) ++ List.replicate (2 - (lg_sl ([.ref mo, .int a])).length) Slot.unset).toArray = ls at hl ⊢
  have hl : lv_has ls 2 [(0, .ref mo), (1, .int a)] := hl
  have k0 := hts (.fieldLink RX2 32 "KnifeLedgerModel" "thrown" "I") (by decide +kernel)
  have hinX2 : ∀ w ∈ wsX20, w ∈ wsX2_join := by decide +kernel
  have k2 := hts (.fieldLink RX2 36 "KnifeLedgerModel" "entries" "I") (by decide +kernel)
  refine lv_aload_n hx hb dX2_join_0 rfl (lv_at hl 0 rfl) ?_
  refine lv_iconst (v := 0) hx hb dX2_join_1 (by decide) ?_
  refine va_put (D := (dC, dI)) (ci := 2) (v := .int 0) (ty := .int) (C := RX2) (T := TX2) (N := 17) hx hb hts hinX2 tyX2 tyX2_ok nmX2 hown hK hP hD hS 0 rfl rfl 0 (by decide) k0 (fun _ h9 => h9) rfl (by decide +kernel) rfl rfl (Nat.le_of_ble_eq_true rfl) dX2_join_2 (fun H_1 locs hP hD hS => ?_)
  have hP : va_P (dC, dI) vwCl [(mo, .inr (2, [.int 0, .ref bL, .ref bT, .int (nI n), .ref bK, .ref bF, .ref bS, .ref bB, .int co, .int pl, .int st, .int jo, .int cn, .int ii, .int fi, .int fe, .ref bU])), (bK, .inl (cI, 60, .inl K)), (bF, .inl (cI, 60, .inl F)), (bS, .inl (cI, 60, .inl S)), (bB, .inl (cZ, 60, .inl B)), (bL, .inl (cI, 4, .inl L)), (bT, .inl (cI, 4, .inl T)), (bU, .inl (cI, 6, .inl U))] H_1 := hP
  have hD : va_D A [(mo, .inr (2, [.int 0, .ref bL, .ref bT, .int (nI n), .ref bK, .ref bF, .ref bS, .ref bB, .int co, .int pl, .int st, .int jo, .int cn, .int ii, .int fi, .int fe, .ref bU])), (bK, .inl (cI, 60, .inl K)), (bF, .inl (cI, 60, .inl F)), (bS, .inl (cI, 60, .inl S)), (bB, .inl (cZ, 60, .inl B)), (bL, .inl (cI, 4, .inl L)), (bT, .inl (cI, 4, .inl T)), (bU, .inl (cI, 6, .inl U))] := hD
  refine lv_iload_n hx hb dX2_join_5 rfl (lv_at hl 1 rfl) ?_
  refine lv_iconst (v := 0) hx hb dX2_join_6 (by decide) ?_
  refine lv_bipush (v := 100) hx hb dX2_join_7 (by decide) ?_
  have hPc := hP.sub (ws' := []) [] rfl
  have hDc := hD.sub (ws' := []) [] (by decide) rfl
  have hKc := hK.sub (tys' := []) [] rfl
  have hFc := va_free (wc := []) hD hS hA [] rfl
  refine va_calli (va_runS (As := [.int a, .int 0, .int 100]) (rest := []) ⟨hx, hb, hml, hown, hts⟩ (c_X2_isIn l dC dI H_1.size a 0 100) (va_cwS 3 hts gX2_join_X2_isIn rfl rfl rfl (by decide +kernel) ⟨Nat.le_of_ble_eq_true rfl, Nat.le_of_ble_eq_true rfl⟩) (pc_S hKc hPc hDc) rfl rfl hl.1 rfl (lv_room (Nat.le_of_ble_eq_true rfl)) dX2_join_9 ⟨Nat.le_of_ble_eq_true rfl, Nat.le_of_ble_eq_true rfl⟩) hS (fun q _ h => hFc q h) hFc (fun r_2 u t H_2 locs ht hvm hw hB hz1 hk1 hS => ?_)
  try dsimp only at hw hB
  have hw_2 := hw
  replace hw_2 := hw_2.symm
  subst hw_2
  obtain ⟨hP1, hD1⟩ := hB
  rw [ht] at hP1
  obtain ⟨hP, hD⟩ := va_join (wr := [(mo, .inr (2, [.int 0, .ref bL, .ref bT, .int (nI n), .ref bK, .ref bF, .ref bS, .ref bB, .int co, .int pl, .int st, .int jo, .int cn, .int ii, .int fi, .int fe, .ref bU])), (bK, .inl (cI, 60, .inl K)), (bF, .inl (cI, 60, .inl F)), (bS, .inl (cI, 60, .inl S)), (bB, .inl (cZ, 60, .inl B)), (bL, .inl (cI, 4, .inl L)), (bT, .inl (cI, 4, .inl T)), (bU, .inl (cI, 6, .inl U))]) (w1 := []) hP hD [] [0, 1, 2, 3, 4, 5, 6, 7] rfl rfl (by decide) (by decide) hk1 hFc hP1 hD1
  have hP : va_P (dC, dI) vwCl [(mo, .inr (2, [.int 0, .ref bL, .ref bT, .int (nI n), .ref bK, .ref bF, .ref bS, .ref bB, .int co, .int pl, .int st, .int jo, .int cn, .int ii, .int fi, .int fe, .ref bU])), (bK, .inl (cI, 60, .inl K)), (bF, .inl (cI, 60, .inl F)), (bS, .inl (cI, 60, .inl S)), (bB, .inl (cZ, 60, .inl B)), (bL, .inl (cI, 4, .inl L)), (bT, .inl (cI, 4, .inl T)), (bU, .inl (cI, 6, .inl U))] H_2 := hP
  have hD : va_D A [(mo, .inr (2, [.int 0, .ref bL, .ref bT, .int (nI n), .ref bK, .ref bF, .ref bS, .ref bB, .int co, .int pl, .int st, .int jo, .int cn, .int ii, .int fi, .int fe, .ref bU])), (bK, .inl (cI, 60, .inl K)), (bF, .inl (cI, 60, .inl F)), (bS, .inl (cI, 60, .inl S)), (bB, .inl (cZ, 60, .inl B)), (bL, .inl (cI, 4, .inl L)), (bT, .inl (cI, 4, .inl T)), (bU, .inl (cI, 6, .inl U))] := hD
  refine lv_if_ne (tgt := 21) hx hb dX2_join_12 (by decide) (fun _ => ?_) (fun h9 => absurd h9 (by rw [mIn_ok h0 h1]; exact one_ne))
  refine lv_aload_n hx hb dX2_join_21 rfl (lv_at hl 0 rfl) ?_
  refine va_get (D := (dC, dI)) (ci := 2) (v := .int (nI n)) (C := RX2) (T := TX2) (N := 17) hx hb hts hinX2 hown hK hP 0 rfl rfl 3 (by decide) k2 (fun _ h9 => h9) rfl dX2_join_22 ?_
  refine lv_bipush (v := 60) hx hb dX2_join_25 (by decide) ?_
  refine lv_icmp_ne (tgt := 38) hx hb dX2_join_27 (by decide) (fun h9 => absurd (by rw [hn]; rfl) h9) (fun _ => ?_)
  refine lv_aload_n hx hb dX2_join_30 rfl (lv_at hl 0 rfl) ?_
  refine lv_iconst (v := 2) hx hb dX2_join_31 (by decide) ?_
  have hPc := hP.sub (ws' := [(mo, .inr (2, [.int 0, .ref bL, .ref bT, .int (nI n), .ref bK, .ref bF, .ref bS, .ref bB, .int co, .int pl, .int st, .int jo, .int cn, .int ii, .int fi, .int fe, .ref bU])), (bK, .inl (cI, 60, .inl K)), (bF, .inl (cI, 60, .inl F)), (bS, .inl (cI, 60, .inl S)), (bB, .inl (cZ, 60, .inl B)), (bL, .inl (cI, 4, .inl L)), (bT, .inl (cI, 4, .inl T)), (bU, .inl (cI, 6, .inl U))]) [0, 1, 2, 3, 4, 5, 6, 7] rfl
  have hDc := hD.sub (ws' := [(mo, .inr (2, [.int 0, .ref bL, .ref bT, .int (nI n), .ref bK, .ref bF, .ref bS, .ref bB, .int co, .int pl, .int st, .int jo, .int cn, .int ii, .int fi, .int fe, .ref bU])), (bK, .inl (cI, 60, .inl K)), (bF, .inl (cI, 60, .inl F)), (bS, .inl (cI, 60, .inl S)), (bB, .inl (cZ, 60, .inl B)), (bL, .inl (cI, 4, .inl L)), (bT, .inl (cI, 4, .inl T)), (bU, .inl (cI, 6, .inl U))]) [0, 1, 2, 3, 4, 5, 6, 7] (by decide) rfl
  have hKc := hK.sub (tys' := [(cI, .int), (cZ, .boolean)]) [0, 1] rfl
  have hFc := va_free (wc := [(mo, .inr (2, [.int 0, .ref bL, .ref bT, .int (nI n), .ref bK, .ref bF, .ref bS, .ref bB, .int co, .int pl, .int st, .int jo, .int cn, .int ii, .int fi, .int fe, .ref bU])), (bK, .inl (cI, 60, .inl K)), (bF, .inl (cI, 60, .inl F)), (bS, .inl (cI, 60, .inl S)), (bB, .inl (cZ, 60, .inl B)), (bL, .inl (cI, 4, .inl L)), (bT, .inl (cI, 4, .inl T)), (bU, .inl (cI, 6, .inl U))]) hD hS hA [0, 1, 2, 3, 4, 5, 6, 7] rfl
  refine va_calli (va_runV (As := [.int 2]) (rest := []) ⟨hx, hb, hml, hown, hts⟩ (c_X2_fail l dC dI cI cZ mo bK bF bS bB bL bT bU H_2.size L T K F S B U n 0 co pl st jo cn ii fi fe 2) (cwV 1 hts gX2_join_X2_fail rfl rfl rfl (by decide +kernel) ⟨Nat.le_of_ble_eq_true rfl, Nat.le_of_ble_eq_true rfl⟩) (pc_V hKc hPc hDc (ci := 2) (C := RX2) (T := TX2) (N := 17) (q0 := 0) rfl rfl) rfl rfl hl.1 rfl (lv_room (Nat.le_of_ble_eq_true rfl)) dX2_join_32 ⟨Nat.le_of_ble_eq_true rfl, Nat.le_of_ble_eq_true rfl⟩) hS (fun q _ h => hFc q h) hFc (fun r_3 u t H_3 locs ht hvm hw hB hz1 hk1 hS => ?_)
  try dsimp only at hw hB
  have hw_3 := hw
  replace hw_3 := hw_3.symm
  subst hw_3
  obtain ⟨hP1, hD1⟩ := hB
  rw [ht] at hP1
  obtain ⟨hP, hD⟩ := va_join (wr := []) (w1 := [(mo, .inr (2, [.int 2, .ref bL, .ref bT, .int (nI n), .ref bK, .ref bF, .ref bS, .ref bB, .int co, .int pl, .int st, .int jo, .int cn, .int ii, .int fi, .int fe, .ref bU])), (bK, .inl (cI, 60, .inl K)), (bF, .inl (cI, 60, .inl F)), (bS, .inl (cI, 60, .inl S)), (bB, .inl (cZ, 60, .inl B)), (bL, .inl (cI, 4, .inl L)), (bT, .inl (cI, 4, .inl T)), (bU, .inl (cI, 6, .inl U))]) hP hD [0, 1, 2, 3, 4, 5, 6, 7] [] rfl rfl (by decide) (by decide) hk1 hFc hP1 hD1
  have hP : va_P (dC, dI) vwCl [(mo, .inr (2, [.int 2, .ref bL, .ref bT, .int (nI n), .ref bK, .ref bF, .ref bS, .ref bB, .int co, .int pl, .int st, .int jo, .int cn, .int ii, .int fi, .int fe, .ref bU])), (bK, .inl (cI, 60, .inl K)), (bF, .inl (cI, 60, .inl F)), (bS, .inl (cI, 60, .inl S)), (bB, .inl (cZ, 60, .inl B)), (bL, .inl (cI, 4, .inl L)), (bT, .inl (cI, 4, .inl T)), (bU, .inl (cI, 6, .inl U))] H_3 := hP
  have hD : va_D A [(mo, .inr (2, [.int 2, .ref bL, .ref bT, .int (nI n), .ref bK, .ref bF, .ref bS, .ref bB, .int co, .int pl, .int st, .int jo, .int cn, .int ii, .int fi, .int fe, .ref bU])), (bK, .inl (cI, 60, .inl K)), (bF, .inl (cI, 60, .inl F)), (bS, .inl (cI, 60, .inl S)), (bB, .inl (cZ, 60, .inl B)), (bL, .inl (cI, 4, .inl L)), (bT, .inl (cI, 4, .inl T)), (bU, .inl (cI, 6, .inl U))] := hD
  refine lv_goto (tgt := 45) hx hb dX2_join_35 (by decide) ?_
  have hpost : (0 : Int32) = 0 := by
    rfl
  have hP9 := hP.sub (ws' := [(mo, .inr (2, [.int 2, .ref bL, .ref bT, .int (nI n), .ref bK, .ref bF, .ref bS, .ref bB, .int co, .int pl, .int st, .int jo, .int cn, .int ii, .int fi, .int fe, .ref bU])), (bK, .inl (cI, 60, .inl K)), (bF, .inl (cI, 60, .inl F)), (bS, .inl (cI, 60, .inl S)), (bB, .inl (cZ, 60, .inl B)), (bL, .inl (cI, 4, .inl L)), (bT, .inl (cI, 4, .inl T)), (bU, .inl (cI, 6, .inl U))]) [0, 1, 2, 3, 4, 5, 6, 7] rfl
  have hD9 := hD.sub (ws' := [(mo, .inr (2, [.int 2, .ref bL, .ref bT, .int (nI n), .ref bK, .ref bF, .ref bS, .ref bB, .int co, .int pl, .int st, .int jo, .int cn, .int ii, .int fi, .int fe, .ref bU])), (bK, .inl (cI, 60, .inl K)), (bF, .inl (cI, 60, .inl F)), (bS, .inl (cI, 60, .inl S)), (bB, .inl (cZ, 60, .inl B)), (bL, .inl (cI, 4, .inl L)), (bT, .inl (cI, 4, .inl T)), (bU, .inl (cI, 6, .inl U))]) [0, 1, 2, 3, 4, 5, 6, 7] (by decide) rfl
  exact W.iret (v := 0) hx hb hr (fun t ht hW => ⟨⟨0, (), rfl, hpost, by rw [ht]; exact hP9, hD9⟩, hS.F ht⟩) hS.2.2 dX2_join_45

set_option maxHeartbeats 4000000 in
set_option maxRecDepth 100000 in
theorem c_X2_toss (l : Launch) (dC : Nat → ClassId) (dI : Nat → Nat → Nat) (cI cZ : ClassId) (mo bK bF bS bB bL bT bU : Nat) (sz : Nat) (L : N2I) (T : N2I) (K : N2I) (F : N2I) (S : N2I) (B : N2I) (U : N2I) (n : Nat) (tw : Int32) (co : Int32) (pl : Int32) (st : Int32) (jo : Int32) (cn : Int32) (ii : Int32) (fi : Int32) (fe : Int32) (a : Int32) (b : Int32) (h0 : ¬ a < 0) (h1 : ¬ 5 < a) (h2 : ¬ b < 0) (h3 : ¬ 20 < b) (hn : n < 60) : Met l yX2_toss wsX2_toss ({ frames := 2, cells := 0, slots := 0, locals := 52 } : Room) (va_Pc [.ref mo, .int a, .int b] (pc_ (dC, dI) [(cI, .int), (cZ, .boolean)] [(mo, .inr (2, [.int tw, .ref bL, .ref bT, .int (nI n), .ref bK, .ref bF, .ref bS, .ref bB, .int co, .int pl, .int st, .int jo, .int cn, .int ii, .int fi, .int fe, .ref bU])), (bK, .inl (cI, 60, .inl K)), (bF, .inl (cI, 60, .inl F)), (bS, .inl (cI, 60, .inl S)), (bB, .inl (cZ, 60, .inl B)), (bL, .inl (cI, 4, .inl L)), (bT, .inl (cI, 4, .inl T)), (bU, .inl (cI, 6, .inl U))] sz)) (va_Qi (fun (r : Int32) (u : Unit) => r = nI n) (fun (u : Unit) (t : State) => va_P (dC, dI) vwCl [(mo, .inr (2, [.int 0, .ref bL, .ref bT, .int (nI (n + 1)), .ref bK, .ref bF, .ref bS, .ref bB, .int co, .int pl, .int st, .int jo, .int cn, .int ii, .int fi, .int fe, .ref bU])), (bK, .inl (cI, 60, .inl (upd K n 1))), (bF, .inl (cI, 60, .inl (upd F n a))), (bS, .inl (cI, 60, .inl (upd S n b))), (bB, .inl (cZ, 60, .inl (upd B n 0))), (bL, .inl (cI, 4, .inl L)), (bT, .inl (cI, 4, .inl T)), (bU, .inl (cI, 6, .inl U))] t.heap ∧ va_D (va_A [(mo, .inr (2, [.int tw, .ref bL, .ref bT, .int (nI n), .ref bK, .ref bF, .ref bS, .ref bB, .int co, .int pl, .int st, .int jo, .int cn, .int ii, .int fi, .int fe, .ref bU])), (bK, .inl (cI, 60, .inl K)), (bF, .inl (cI, 60, .inl F)), (bS, .inl (cI, 60, .inl S)), (bB, .inl (cZ, 60, .inl B)), (bL, .inl (cI, 4, .inl L)), (bT, .inl (cI, 4, .inl T)), (bU, .inl (cI, 6, .inl U))] sz) [(mo, .inr (2, [.int 0, .ref bL, .ref bT, .int (nI (n + 1)), .ref bK, .ref bF, .ref bS, .ref bB, .int co, .int pl, .int st, .int jo, .int cn, .int ii, .int fi, .int fe, .ref bU])), (bK, .inl (cI, 60, .inl (upd K n 1))), (bF, .inl (cI, 60, .inl (upd F n a))), (bS, .inl (cI, 60, .inl (upd S n b))), (bB, .inl (cZ, 60, .inl (upd B n 0))), (bL, .inl (cI, 4, .inl L)), (bT, .inl (cI, 4, .inl T)), (bU, .inl (cI, 6, .inl U))]) (va_A [(mo, .inr (2, [.int tw, .ref bL, .ref bT, .int (nI n), .ref bK, .ref bF, .ref bS, .ref bB, .int co, .int pl, .int st, .int jo, .int cn, .int ii, .int fi, .int fe, .ref bU])), (bK, .inl (cI, 60, .inl K)), (bF, .inl (cI, 60, .inl F)), (bS, .inl (cI, 60, .inl S)), (bB, .inl (cZ, 60, .inl B)), (bL, .inl (cI, 4, .inl L)), (bT, .inl (cI, 4, .inl T)), (bU, .inl (cI, 6, .inl U))] sz)) 0 0 (va_A [(mo, .inr (2, [.int tw, .ref bL, .ref bT, .int (nI n), .ref bK, .ref bF, .ref bS, .ref bB, .int co, .int pl, .int st, .int jo, .int cn, .int ii, .int fi, .int fe, .ref bU])), (bK, .inl (cI, 60, .inl K)), (bF, .inl (cI, 60, .inl F)), (bS, .inl (cI, 60, .inl S)), (bB, .inl (cZ, 60, .inl B)), (bL, .inl (cI, 4, .inl L)), (bT, .inl (cI, 4, .inl T)), (bU, .inl (cI, 6, .inl U))] sz) := by
  refine Met.ofW (cc := cX2_toss) (maxL := 3) (ret := (some .int)) (by decide) rfl ?_
  intro p e s m args below meth c s₁ BB hml hv
  obtain ⟨rfl, hsz, hP, hK, hD0⟩ := hv
  have hx := BB.exec
  have hb := BB.bytes
  have hr := BB.returns
  have hts := atoms_spec (ws := wsX2_toss) BB.pre
  have hown : s.vm.findClass RX2 = some m.cls := findClass_of_methodNamed BB.named
  have hlocks := BB.notSynchronized
  subst hsz
  have hD := hD0.self (sz := s.heap.size)
  generalize hAe : va_A [(mo, .inr (2, [.int tw, .ref bL, .ref bT, .int (nI n), .ref bK, .ref bF, .ref bS, .ref bB, .int co, .int pl, .int st, .int jo, .int cn, .int ii, .int fi, .int fe, .ref bU])), (bK, .inl (cI, 60, .inl K)), (bF, .inl (cI, 60, .inl F)), (bS, .inl (cI, 60, .inl S)), (bB, .inl (cZ, 60, .inl B)), (bL, .inl (cI, 4, .inl L)), (bT, .inl (cI, 4, .inl T)), (bU, .inl (cI, 6, .inl U))] s.heap.size = A at hD ⊢
  have hA : ∀ q : Nat, s.heap.size ≤ q → A q := fun q h => by rw [← hAe]; exact Or.inr h
  have hS : va_S A s.heap s.heap [] := va_S.rf
  have hP : va_P (dC, dI) vwCl [(mo, .inr (2, [.int tw, .ref bL, .ref bT, .int (nI n), .ref bK, .ref bF, .ref bS, .ref bB, .int co, .int pl, .int st, .int jo, .int cn, .int ii, .int fi, .int fe, .ref bU])), (bK, .inl (cI, 60, .inl K)), (bF, .inl (cI, 60, .inl F)), (bS, .inl (cI, 60, .inl S)), (bB, .inl (cZ, 60, .inl B)), (bL, .inl (cI, 4, .inl L)), (bT, .inl (cI, 4, .inl T)), (bU, .inl (cI, 6, .inl U))] s.heap := hP
  have hl := lv_entry ([.ref mo, .int a, .int b]) (n := 3) (Nat.le_of_ble_eq_true rfl)
  rw [lg_entry_eq]
  generalize (lg_sl ([.ref mo, .int a, .int b]) ++ List.replicate (3 - (lg_sl ([.ref mo, .int a, .int b])).length) Slot.unset).toArray = ls at hl ⊢
  have hl : lv_has ls 3 [(0, .ref mo), (1, .int a), (2, .int b)] := hl
  have k0 := hts (.fieldLink RX2 32 "KnifeLedgerModel" "thrown" "I") (by decide +kernel)
  have hinX2 : ∀ w ∈ wsX20, w ∈ wsX2_toss := by decide +kernel
  have k2 := hts (.fieldLink RX2 36 "KnifeLedgerModel" "entries" "I") (by decide +kernel)
  refine lv_aload_n hx hb dX2_toss_0 rfl (lv_at hl 0 rfl) ?_
  refine lv_iconst (v := 0) hx hb dX2_toss_1 (by decide) ?_
  refine va_put (D := (dC, dI)) (ci := 2) (v := .int 0) (ty := .int) (C := RX2) (T := TX2) (N := 17) hx hb hts hinX2 tyX2 tyX2_ok nmX2 hown hK hP hD hS 0 rfl rfl 0 (by decide) k0 (fun _ h9 => h9) rfl (by decide +kernel) rfl rfl (Nat.le_of_ble_eq_true rfl) dX2_toss_2 (fun H_1 locs hP hD hS => ?_)
  have hP : va_P (dC, dI) vwCl [(mo, .inr (2, [.int 0, .ref bL, .ref bT, .int (nI n), .ref bK, .ref bF, .ref bS, .ref bB, .int co, .int pl, .int st, .int jo, .int cn, .int ii, .int fi, .int fe, .ref bU])), (bK, .inl (cI, 60, .inl K)), (bF, .inl (cI, 60, .inl F)), (bS, .inl (cI, 60, .inl S)), (bB, .inl (cZ, 60, .inl B)), (bL, .inl (cI, 4, .inl L)), (bT, .inl (cI, 4, .inl T)), (bU, .inl (cI, 6, .inl U))] H_1 := hP
  have hD : va_D A [(mo, .inr (2, [.int 0, .ref bL, .ref bT, .int (nI n), .ref bK, .ref bF, .ref bS, .ref bB, .int co, .int pl, .int st, .int jo, .int cn, .int ii, .int fi, .int fe, .ref bU])), (bK, .inl (cI, 60, .inl K)), (bF, .inl (cI, 60, .inl F)), (bS, .inl (cI, 60, .inl S)), (bB, .inl (cZ, 60, .inl B)), (bL, .inl (cI, 4, .inl L)), (bT, .inl (cI, 4, .inl T)), (bU, .inl (cI, 6, .inl U))] := hD
  refine lv_iload_n hx hb dX2_toss_5 rfl (lv_at hl 1 rfl) ?_
  refine lv_iconst (v := 0) hx hb dX2_toss_6 (by decide) ?_
  refine lv_iconst (v := 5) hx hb dX2_toss_7 (by decide) ?_
  have hPc := hP.sub (ws' := []) [] rfl
  have hDc := hD.sub (ws' := []) [] (by decide) rfl
  have hKc := hK.sub (tys' := []) [] rfl
  have hFc := va_free (wc := []) hD hS hA [] rfl
  refine va_calli (va_runS (As := [.int a, .int 0, .int 5]) (rest := []) ⟨hx, hb, hml, hown, hts⟩ (c_X2_isIn l dC dI H_1.size a 0 5) (va_cwS 3 hts gX2_toss_X2_isIn rfl rfl rfl (by decide +kernel) ⟨Nat.le_of_ble_eq_true rfl, Nat.le_of_ble_eq_true rfl⟩) (pc_S hKc hPc hDc) rfl rfl hl.1 rfl (lv_room (Nat.le_of_ble_eq_true rfl)) dX2_toss_8 ⟨Nat.le_of_ble_eq_true rfl, Nat.le_of_ble_eq_true rfl⟩) hS (fun q _ h => hFc q h) hFc (fun r_2 u t H_2 locs ht hvm hw hB hz1 hk1 hS => ?_)
  try dsimp only at hw hB
  have hw_2 := hw
  replace hw_2 := hw_2.symm
  subst hw_2
  obtain ⟨hP1, hD1⟩ := hB
  rw [ht] at hP1
  obtain ⟨hP, hD⟩ := va_join (wr := [(mo, .inr (2, [.int 0, .ref bL, .ref bT, .int (nI n), .ref bK, .ref bF, .ref bS, .ref bB, .int co, .int pl, .int st, .int jo, .int cn, .int ii, .int fi, .int fe, .ref bU])), (bK, .inl (cI, 60, .inl K)), (bF, .inl (cI, 60, .inl F)), (bS, .inl (cI, 60, .inl S)), (bB, .inl (cZ, 60, .inl B)), (bL, .inl (cI, 4, .inl L)), (bT, .inl (cI, 4, .inl T)), (bU, .inl (cI, 6, .inl U))]) (w1 := []) hP hD [] [0, 1, 2, 3, 4, 5, 6, 7] rfl rfl (by decide) (by decide) hk1 hFc hP1 hD1
  have hP : va_P (dC, dI) vwCl [(mo, .inr (2, [.int 0, .ref bL, .ref bT, .int (nI n), .ref bK, .ref bF, .ref bS, .ref bB, .int co, .int pl, .int st, .int jo, .int cn, .int ii, .int fi, .int fe, .ref bU])), (bK, .inl (cI, 60, .inl K)), (bF, .inl (cI, 60, .inl F)), (bS, .inl (cI, 60, .inl S)), (bB, .inl (cZ, 60, .inl B)), (bL, .inl (cI, 4, .inl L)), (bT, .inl (cI, 4, .inl T)), (bU, .inl (cI, 6, .inl U))] H_2 := hP
  have hD : va_D A [(mo, .inr (2, [.int 0, .ref bL, .ref bT, .int (nI n), .ref bK, .ref bF, .ref bS, .ref bB, .int co, .int pl, .int st, .int jo, .int cn, .int ii, .int fi, .int fe, .ref bU])), (bK, .inl (cI, 60, .inl K)), (bF, .inl (cI, 60, .inl F)), (bS, .inl (cI, 60, .inl S)), (bB, .inl (cZ, 60, .inl B)), (bL, .inl (cI, 4, .inl L)), (bT, .inl (cI, 4, .inl T)), (bU, .inl (cI, 6, .inl U))] := hD
  refine lv_if_ne (tgt := 20) hx hb dX2_toss_11 (by decide) (fun _ => ?_) (fun h9 => absurd h9 (by rw [mIn_ok h0 h1]; exact one_ne))
  refine lv_iload_n hx hb dX2_toss_20 rfl (lv_at hl 2 rfl) ?_
  refine lv_iconst (v := 0) hx hb dX2_toss_21 (by decide) ?_
  refine lv_bipush (v := 20) hx hb dX2_toss_22 (by decide) ?_
  have hPc := hP.sub (ws' := []) [] rfl
  have hDc := hD.sub (ws' := []) [] (by decide) rfl
  have hKc := hK.sub (tys' := []) [] rfl
  have hFc := va_free (wc := []) hD hS hA [] rfl
  refine va_calli (va_runS (As := [.int b, .int 0, .int 20]) (rest := []) ⟨hx, hb, hml, hown, hts⟩ (c_X2_isIn l dC dI H_2.size b 0 20) (va_cwS 3 hts gX2_toss_X2_isIn rfl rfl rfl (by decide +kernel) ⟨Nat.le_of_ble_eq_true rfl, Nat.le_of_ble_eq_true rfl⟩) (pc_S hKc hPc hDc) rfl rfl hl.1 rfl (lv_room (Nat.le_of_ble_eq_true rfl)) dX2_toss_24 ⟨Nat.le_of_ble_eq_true rfl, Nat.le_of_ble_eq_true rfl⟩) hS (fun q _ h => hFc q h) hFc (fun r_3 u t H_3 locs ht hvm hw hB hz1 hk1 hS => ?_)
  try dsimp only at hw hB
  have hw_3 := hw
  replace hw_3 := hw_3.symm
  subst hw_3
  obtain ⟨hP1, hD1⟩ := hB
  rw [ht] at hP1
  obtain ⟨hP, hD⟩ := va_join (wr := [(mo, .inr (2, [.int 0, .ref bL, .ref bT, .int (nI n), .ref bK, .ref bF, .ref bS, .ref bB, .int co, .int pl, .int st, .int jo, .int cn, .int ii, .int fi, .int fe, .ref bU])), (bK, .inl (cI, 60, .inl K)), (bF, .inl (cI, 60, .inl F)), (bS, .inl (cI, 60, .inl S)), (bB, .inl (cZ, 60, .inl B)), (bL, .inl (cI, 4, .inl L)), (bT, .inl (cI, 4, .inl T)), (bU, .inl (cI, 6, .inl U))]) (w1 := []) hP hD [] [0, 1, 2, 3, 4, 5, 6, 7] rfl rfl (by decide) (by decide) hk1 hFc hP1 hD1
  have hP : va_P (dC, dI) vwCl [(mo, .inr (2, [.int 0, .ref bL, .ref bT, .int (nI n), .ref bK, .ref bF, .ref bS, .ref bB, .int co, .int pl, .int st, .int jo, .int cn, .int ii, .int fi, .int fe, .ref bU])), (bK, .inl (cI, 60, .inl K)), (bF, .inl (cI, 60, .inl F)), (bS, .inl (cI, 60, .inl S)), (bB, .inl (cZ, 60, .inl B)), (bL, .inl (cI, 4, .inl L)), (bT, .inl (cI, 4, .inl T)), (bU, .inl (cI, 6, .inl U))] H_3 := hP
  have hD : va_D A [(mo, .inr (2, [.int 0, .ref bL, .ref bT, .int (nI n), .ref bK, .ref bF, .ref bS, .ref bB, .int co, .int pl, .int st, .int jo, .int cn, .int ii, .int fi, .int fe, .ref bU])), (bK, .inl (cI, 60, .inl K)), (bF, .inl (cI, 60, .inl F)), (bS, .inl (cI, 60, .inl S)), (bB, .inl (cZ, 60, .inl B)), (bL, .inl (cI, 4, .inl L)), (bT, .inl (cI, 4, .inl T)), (bU, .inl (cI, 6, .inl U))] := hD
  refine lv_if_ne (tgt := 36) hx hb dX2_toss_27 (by decide) (fun _ => ?_) (fun h9 => absurd h9 (by rw [mIn_ok h2 h3]; exact one_ne))
  refine lv_aload_n hx hb dX2_toss_36 rfl (lv_at hl 0 rfl) ?_
  refine va_get (D := (dC, dI)) (ci := 2) (v := .int (nI n)) (C := RX2) (T := TX2) (N := 17) hx hb hts hinX2 hown hK hP 0 rfl rfl 3 (by decide) k2 (fun _ h9 => h9) rfl dX2_toss_37 ?_
  refine lv_bipush (v := 60) hx hb dX2_toss_40 (by decide) ?_
  refine lv_icmp_ne (tgt := 53) hx hb dX2_toss_42 (by decide) (fun _ => ?_) (fun h9 => absurd h9 (mD_ne hn))
  refine lv_aload_n hx hb dX2_toss_53 rfl (lv_at hl 0 rfl) ?_
  refine lv_iconst (v := 1) hx hb dX2_toss_54 (by decide) ?_
  refine lv_iload_n hx hb dX2_toss_55 rfl (lv_at hl 1 rfl) ?_
  refine lv_iload_n hx hb dX2_toss_56 rfl (lv_at hl 2 rfl) ?_
  have hPc := hP.sub (ws' := [(mo, .inr (2, [.int 0, .ref bL, .ref bT, .int (nI n), .ref bK, .ref bF, .ref bS, .ref bB, .int co, .int pl, .int st, .int jo, .int cn, .int ii, .int fi, .int fe, .ref bU])), (bK, .inl (cI, 60, .inl K)), (bF, .inl (cI, 60, .inl F)), (bS, .inl (cI, 60, .inl S)), (bB, .inl (cZ, 60, .inl B)), (bL, .inl (cI, 4, .inl L)), (bT, .inl (cI, 4, .inl T)), (bU, .inl (cI, 6, .inl U))]) [0, 1, 2, 3, 4, 5, 6, 7] rfl
  have hDc := hD.sub (ws' := [(mo, .inr (2, [.int 0, .ref bL, .ref bT, .int (nI n), .ref bK, .ref bF, .ref bS, .ref bB, .int co, .int pl, .int st, .int jo, .int cn, .int ii, .int fi, .int fe, .ref bU])), (bK, .inl (cI, 60, .inl K)), (bF, .inl (cI, 60, .inl F)), (bS, .inl (cI, 60, .inl S)), (bB, .inl (cZ, 60, .inl B)), (bL, .inl (cI, 4, .inl L)), (bT, .inl (cI, 4, .inl T)), (bU, .inl (cI, 6, .inl U))]) [0, 1, 2, 3, 4, 5, 6, 7] (by decide) rfl
  have hKc := hK.sub (tys' := [(cI, .int), (cZ, .boolean)]) [0, 1] rfl
  have hFc := va_free (wc := [(mo, .inr (2, [.int 0, .ref bL, .ref bT, .int (nI n), .ref bK, .ref bF, .ref bS, .ref bB, .int co, .int pl, .int st, .int jo, .int cn, .int ii, .int fi, .int fe, .ref bU])), (bK, .inl (cI, 60, .inl K)), (bF, .inl (cI, 60, .inl F)), (bS, .inl (cI, 60, .inl S)), (bB, .inl (cZ, 60, .inl B)), (bL, .inl (cI, 4, .inl L)), (bT, .inl (cI, 4, .inl T)), (bU, .inl (cI, 6, .inl U))]) hD hS hA [0, 1, 2, 3, 4, 5, 6, 7] rfl
  refine va_calli (va_runV (As := [.int 1, .int a, .int b]) (rest := []) ⟨hx, hb, hml, hown, hts⟩ (c_X2_write l dC dI cI cZ mo bK bF bS bB bL bT bU H_3.size L T K F S B U n 0 co pl st jo cn ii fi fe 1 a b (hn)) (cwV 3 hts gX2_toss_X2_write rfl rfl rfl (by decide +kernel) ⟨Nat.le_of_ble_eq_true rfl, Nat.le_of_ble_eq_true rfl⟩) (pc_V hKc hPc hDc (ci := 2) (C := RX2) (T := TX2) (N := 17) (q0 := 0) rfl rfl) rfl rfl hl.1 rfl (lv_room (Nat.le_of_ble_eq_true rfl)) dX2_toss_57 ⟨Nat.le_of_ble_eq_true rfl, Nat.le_of_ble_eq_true rfl⟩) hS (fun q _ h => hFc q h) hFc (fun r_4 u t H_4 locs ht hvm hw hB hz1 hk1 hS => ?_)
  try dsimp only at hw hB
  have hw_4 := hw
  replace hw_4 := hw_4.symm
  subst hw_4
  obtain ⟨hP1, hD1⟩ := hB
  rw [ht] at hP1
  obtain ⟨hP, hD⟩ := va_join (wr := []) (w1 := [(mo, .inr (2, [.int 0, .ref bL, .ref bT, .int (nI (n + 1)), .ref bK, .ref bF, .ref bS, .ref bB, .int co, .int pl, .int st, .int jo, .int cn, .int ii, .int fi, .int fe, .ref bU])), (bK, .inl (cI, 60, .inl (upd K n 1))), (bF, .inl (cI, 60, .inl (upd F n a))), (bS, .inl (cI, 60, .inl (upd S n b))), (bB, .inl (cZ, 60, .inl (upd B n 0))), (bL, .inl (cI, 4, .inl L)), (bT, .inl (cI, 4, .inl T)), (bU, .inl (cI, 6, .inl U))]) hP hD [0, 1, 2, 3, 4, 5, 6, 7] [] rfl rfl (by decide) (by decide) hk1 hFc hP1 hD1
  have hP : va_P (dC, dI) vwCl [(mo, .inr (2, [.int 0, .ref bL, .ref bT, .int (nI (n + 1)), .ref bK, .ref bF, .ref bS, .ref bB, .int co, .int pl, .int st, .int jo, .int cn, .int ii, .int fi, .int fe, .ref bU])), (bK, .inl (cI, 60, .inl (upd K n 1))), (bF, .inl (cI, 60, .inl (upd F n a))), (bS, .inl (cI, 60, .inl (upd S n b))), (bB, .inl (cZ, 60, .inl (upd B n 0))), (bL, .inl (cI, 4, .inl L)), (bT, .inl (cI, 4, .inl T)), (bU, .inl (cI, 6, .inl U))] H_4 := hP
  have hD : va_D A [(mo, .inr (2, [.int 0, .ref bL, .ref bT, .int (nI (n + 1)), .ref bK, .ref bF, .ref bS, .ref bB, .int co, .int pl, .int st, .int jo, .int cn, .int ii, .int fi, .int fe, .ref bU])), (bK, .inl (cI, 60, .inl (upd K n 1))), (bF, .inl (cI, 60, .inl (upd F n a))), (bS, .inl (cI, 60, .inl (upd S n b))), (bB, .inl (cZ, 60, .inl (upd B n 0))), (bL, .inl (cI, 4, .inl L)), (bT, .inl (cI, 4, .inl T)), (bU, .inl (cI, 6, .inl U))] := hD
  have hpost : (nI n) = nI n := by
    rfl
  have hP9 := hP.sub (ws' := [(mo, .inr (2, [.int 0, .ref bL, .ref bT, .int (nI (n + 1)), .ref bK, .ref bF, .ref bS, .ref bB, .int co, .int pl, .int st, .int jo, .int cn, .int ii, .int fi, .int fe, .ref bU])), (bK, .inl (cI, 60, .inl (upd K n 1))), (bF, .inl (cI, 60, .inl (upd F n a))), (bS, .inl (cI, 60, .inl (upd S n b))), (bB, .inl (cZ, 60, .inl (upd B n 0))), (bL, .inl (cI, 4, .inl L)), (bT, .inl (cI, 4, .inl T)), (bU, .inl (cI, 6, .inl U))]) [0, 1, 2, 3, 4, 5, 6, 7] rfl
  have hD9 := hD.sub (ws' := [(mo, .inr (2, [.int 0, .ref bL, .ref bT, .int (nI (n + 1)), .ref bK, .ref bF, .ref bS, .ref bB, .int co, .int pl, .int st, .int jo, .int cn, .int ii, .int fi, .int fe, .ref bU])), (bK, .inl (cI, 60, .inl (upd K n 1))), (bF, .inl (cI, 60, .inl (upd F n a))), (bS, .inl (cI, 60, .inl (upd S n b))), (bB, .inl (cZ, 60, .inl (upd B n 0))), (bL, .inl (cI, 4, .inl L)), (bT, .inl (cI, 4, .inl T)), (bU, .inl (cI, 6, .inl U))]) [0, 1, 2, 3, 4, 5, 6, 7] (by decide) rfl
  exact W.iret (v := nI n) hx hb hr (fun t ht hW => ⟨⟨(nI n), (), rfl, hpost, by rw [ht]; exact hP9, hD9⟩, hS.F ht⟩) hS.2.2 dX2_toss_60

set_option maxHeartbeats 4000000 in
set_option maxRecDepth 100000 in
theorem c_X2_toss_f1 (l : Launch) (dC : Nat → ClassId) (dI : Nat → Nat → Nat) (cI cZ : ClassId) (mo bK bF bS bB bL bT bU : Nat) (sz : Nat) (L : N2I) (T : N2I) (K : N2I) (F : N2I) (S : N2I) (B : N2I) (U : N2I) (n : Nat) (tw : Int32) (co : Int32) (pl : Int32) (st : Int32) (jo : Int32) (cn : Int32) (ii : Int32) (fi : Int32) (fe : Int32) (a : Int32) (b : Int32) (hb0 : a < 0 ∨ 5 < a) : Met l yX2_toss wsX2_toss ({ frames := 2, cells := 0, slots := 0, locals := 52 } : Room) (va_Pc [.ref mo, .int a, .int b] (pc_ (dC, dI) [(cI, .int), (cZ, .boolean)] [(mo, .inr (2, [.int tw, .ref bL, .ref bT, .int (nI n), .ref bK, .ref bF, .ref bS, .ref bB, .int co, .int pl, .int st, .int jo, .int cn, .int ii, .int fi, .int fe, .ref bU])), (bK, .inl (cI, 60, .inl K)), (bF, .inl (cI, 60, .inl F)), (bS, .inl (cI, 60, .inl S)), (bB, .inl (cZ, 60, .inl B)), (bL, .inl (cI, 4, .inl L)), (bT, .inl (cI, 4, .inl T)), (bU, .inl (cI, 6, .inl U))] sz)) (va_Qi (fun (r : Int32) (u : Unit) => r = 0) (fun (u : Unit) (t : State) => va_P (dC, dI) vwCl [(mo, .inr (2, [.int 1, .ref bL, .ref bT, .int (nI n), .ref bK, .ref bF, .ref bS, .ref bB, .int co, .int pl, .int st, .int jo, .int cn, .int ii, .int fi, .int fe, .ref bU])), (bK, .inl (cI, 60, .inl K)), (bF, .inl (cI, 60, .inl F)), (bS, .inl (cI, 60, .inl S)), (bB, .inl (cZ, 60, .inl B)), (bL, .inl (cI, 4, .inl L)), (bT, .inl (cI, 4, .inl T)), (bU, .inl (cI, 6, .inl U))] t.heap ∧ va_D (va_A [(mo, .inr (2, [.int tw, .ref bL, .ref bT, .int (nI n), .ref bK, .ref bF, .ref bS, .ref bB, .int co, .int pl, .int st, .int jo, .int cn, .int ii, .int fi, .int fe, .ref bU])), (bK, .inl (cI, 60, .inl K)), (bF, .inl (cI, 60, .inl F)), (bS, .inl (cI, 60, .inl S)), (bB, .inl (cZ, 60, .inl B)), (bL, .inl (cI, 4, .inl L)), (bT, .inl (cI, 4, .inl T)), (bU, .inl (cI, 6, .inl U))] sz) [(mo, .inr (2, [.int 1, .ref bL, .ref bT, .int (nI n), .ref bK, .ref bF, .ref bS, .ref bB, .int co, .int pl, .int st, .int jo, .int cn, .int ii, .int fi, .int fe, .ref bU])), (bK, .inl (cI, 60, .inl K)), (bF, .inl (cI, 60, .inl F)), (bS, .inl (cI, 60, .inl S)), (bB, .inl (cZ, 60, .inl B)), (bL, .inl (cI, 4, .inl L)), (bT, .inl (cI, 4, .inl T)), (bU, .inl (cI, 6, .inl U))]) (va_A [(mo, .inr (2, [.int tw, .ref bL, .ref bT, .int (nI n), .ref bK, .ref bF, .ref bS, .ref bB, .int co, .int pl, .int st, .int jo, .int cn, .int ii, .int fi, .int fe, .ref bU])), (bK, .inl (cI, 60, .inl K)), (bF, .inl (cI, 60, .inl F)), (bS, .inl (cI, 60, .inl S)), (bB, .inl (cZ, 60, .inl B)), (bL, .inl (cI, 4, .inl L)), (bT, .inl (cI, 4, .inl T)), (bU, .inl (cI, 6, .inl U))] sz)) 0 0 (va_A [(mo, .inr (2, [.int tw, .ref bL, .ref bT, .int (nI n), .ref bK, .ref bF, .ref bS, .ref bB, .int co, .int pl, .int st, .int jo, .int cn, .int ii, .int fi, .int fe, .ref bU])), (bK, .inl (cI, 60, .inl K)), (bF, .inl (cI, 60, .inl F)), (bS, .inl (cI, 60, .inl S)), (bB, .inl (cZ, 60, .inl B)), (bL, .inl (cI, 4, .inl L)), (bT, .inl (cI, 4, .inl T)), (bU, .inl (cI, 6, .inl U))] sz) := by
  refine Met.ofW (cc := cX2_toss) (maxL := 3) (ret := (some .int)) (by decide) rfl ?_
  intro p e s m args below meth c s₁ BB hml hv
  obtain ⟨rfl, hsz, hP, hK, hD0⟩ := hv
  have hx := BB.exec
  have hb := BB.bytes
  have hr := BB.returns
  have hts := atoms_spec (ws := wsX2_toss) BB.pre
  have hown : s.vm.findClass RX2 = some m.cls := findClass_of_methodNamed BB.named
  have hlocks := BB.notSynchronized
  subst hsz
  have hD := hD0.self (sz := s.heap.size)
  generalize hAe : va_A [(mo, .inr (2, [.int tw, .ref bL, .ref bT, .int (nI n), .ref bK, .ref bF, .ref bS, .ref bB, .int co, .int pl, .int st, .int jo, .int cn, .int ii, .int fi, .int fe, .ref bU])), (bK, .inl (cI, 60, .inl K)), (bF, .inl (cI, 60, .inl F)), (bS, .inl (cI, 60, .inl S)), (bB, .inl (cZ, 60, .inl B)), (bL, .inl (cI, 4, .inl L)), (bT, .inl (cI, 4, .inl T)), (bU, .inl (cI, 6, .inl U))] s.heap.size = A at hD ⊢
  have hA : ∀ q : Nat, s.heap.size ≤ q → A q := fun q h => by rw [← hAe]; exact Or.inr h
  have hS : va_S A s.heap s.heap [] := va_S.rf
  have hP : va_P (dC, dI) vwCl [(mo, .inr (2, [.int tw, .ref bL, .ref bT, .int (nI n), .ref bK, .ref bF, .ref bS, .ref bB, .int co, .int pl, .int st, .int jo, .int cn, .int ii, .int fi, .int fe, .ref bU])), (bK, .inl (cI, 60, .inl K)), (bF, .inl (cI, 60, .inl F)), (bS, .inl (cI, 60, .inl S)), (bB, .inl (cZ, 60, .inl B)), (bL, .inl (cI, 4, .inl L)), (bT, .inl (cI, 4, .inl T)), (bU, .inl (cI, 6, .inl U))] s.heap := hP
  have hl := lv_entry ([.ref mo, .int a, .int b]) (n := 3) (Nat.le_of_ble_eq_true rfl)
  rw [lg_entry_eq]
  generalize (lg_sl ([.ref mo, .int a, .int b]) ++ List.replicate (3 - (lg_sl ([.ref mo, .int a, .int b])).length) Slot.unset).toArray = ls at hl ⊢
  have hl : lv_has ls 3 [(0, .ref mo), (1, .int a), (2, .int b)] := hl
  have k0 := hts (.fieldLink RX2 32 "KnifeLedgerModel" "thrown" "I") (by decide +kernel)
  have hinX2 : ∀ w ∈ wsX20, w ∈ wsX2_toss := by decide +kernel
  refine lv_aload_n hx hb dX2_toss_0 rfl (lv_at hl 0 rfl) ?_
  refine lv_iconst (v := 0) hx hb dX2_toss_1 (by decide) ?_
  refine va_put (D := (dC, dI)) (ci := 2) (v := .int 0) (ty := .int) (C := RX2) (T := TX2) (N := 17) hx hb hts hinX2 tyX2 tyX2_ok nmX2 hown hK hP hD hS 0 rfl rfl 0 (by decide) k0 (fun _ h9 => h9) rfl (by decide +kernel) rfl rfl (Nat.le_of_ble_eq_true rfl) dX2_toss_2 (fun H_1 locs hP hD hS => ?_)
  have hP : va_P (dC, dI) vwCl [(mo, .inr (2, [.int 0, .ref bL, .ref bT, .int (nI n), .ref bK, .ref bF, .ref bS, .ref bB, .int co, .int pl, .int st, .int jo, .int cn, .int ii, .int fi, .int fe, .ref bU])), (bK, .inl (cI, 60, .inl K)), (bF, .inl (cI, 60, .inl F)), (bS, .inl (cI, 60, .inl S)), (bB, .inl (cZ, 60, .inl B)), (bL, .inl (cI, 4, .inl L)), (bT, .inl (cI, 4, .inl T)), (bU, .inl (cI, 6, .inl U))] H_1 := hP
  have hD : va_D A [(mo, .inr (2, [.int 0, .ref bL, .ref bT, .int (nI n), .ref bK, .ref bF, .ref bS, .ref bB, .int co, .int pl, .int st, .int jo, .int cn, .int ii, .int fi, .int fe, .ref bU])), (bK, .inl (cI, 60, .inl K)), (bF, .inl (cI, 60, .inl F)), (bS, .inl (cI, 60, .inl S)), (bB, .inl (cZ, 60, .inl B)), (bL, .inl (cI, 4, .inl L)), (bT, .inl (cI, 4, .inl T)), (bU, .inl (cI, 6, .inl U))] := hD
  refine lv_iload_n hx hb dX2_toss_5 rfl (lv_at hl 1 rfl) ?_
  refine lv_iconst (v := 0) hx hb dX2_toss_6 (by decide) ?_
  refine lv_iconst (v := 5) hx hb dX2_toss_7 (by decide) ?_
  have hPc := hP.sub (ws' := []) [] rfl
  have hDc := hD.sub (ws' := []) [] (by decide) rfl
  have hKc := hK.sub (tys' := []) [] rfl
  have hFc := va_free (wc := []) hD hS hA [] rfl
  refine va_calli (va_runS (As := [.int a, .int 0, .int 5]) (rest := []) ⟨hx, hb, hml, hown, hts⟩ (c_X2_isIn l dC dI H_1.size a 0 5) (va_cwS 3 hts gX2_toss_X2_isIn rfl rfl rfl (by decide +kernel) ⟨Nat.le_of_ble_eq_true rfl, Nat.le_of_ble_eq_true rfl⟩) (pc_S hKc hPc hDc) rfl rfl hl.1 rfl (lv_room (Nat.le_of_ble_eq_true rfl)) dX2_toss_8 ⟨Nat.le_of_ble_eq_true rfl, Nat.le_of_ble_eq_true rfl⟩) hS (fun q _ h => hFc q h) hFc (fun r_2 u t H_2 locs ht hvm hw hB hz1 hk1 hS => ?_)
  try dsimp only at hw hB
  have hw_2 := hw
  replace hw_2 := hw_2.symm
  subst hw_2
  obtain ⟨hP1, hD1⟩ := hB
  rw [ht] at hP1
  obtain ⟨hP, hD⟩ := va_join (wr := [(mo, .inr (2, [.int 0, .ref bL, .ref bT, .int (nI n), .ref bK, .ref bF, .ref bS, .ref bB, .int co, .int pl, .int st, .int jo, .int cn, .int ii, .int fi, .int fe, .ref bU])), (bK, .inl (cI, 60, .inl K)), (bF, .inl (cI, 60, .inl F)), (bS, .inl (cI, 60, .inl S)), (bB, .inl (cZ, 60, .inl B)), (bL, .inl (cI, 4, .inl L)), (bT, .inl (cI, 4, .inl T)), (bU, .inl (cI, 6, .inl U))]) (w1 := []) hP hD [] [0, 1, 2, 3, 4, 5, 6, 7] rfl rfl (by decide) (by decide) hk1 hFc hP1 hD1
  have hP : va_P (dC, dI) vwCl [(mo, .inr (2, [.int 0, .ref bL, .ref bT, .int (nI n), .ref bK, .ref bF, .ref bS, .ref bB, .int co, .int pl, .int st, .int jo, .int cn, .int ii, .int fi, .int fe, .ref bU])), (bK, .inl (cI, 60, .inl K)), (bF, .inl (cI, 60, .inl F)), (bS, .inl (cI, 60, .inl S)), (bB, .inl (cZ, 60, .inl B)), (bL, .inl (cI, 4, .inl L)), (bT, .inl (cI, 4, .inl T)), (bU, .inl (cI, 6, .inl U))] H_2 := hP
  have hD : va_D A [(mo, .inr (2, [.int 0, .ref bL, .ref bT, .int (nI n), .ref bK, .ref bF, .ref bS, .ref bB, .int co, .int pl, .int st, .int jo, .int cn, .int ii, .int fi, .int fe, .ref bU])), (bK, .inl (cI, 60, .inl K)), (bF, .inl (cI, 60, .inl F)), (bS, .inl (cI, 60, .inl S)), (bB, .inl (cZ, 60, .inl B)), (bL, .inl (cI, 4, .inl L)), (bT, .inl (cI, 4, .inl T)), (bU, .inl (cI, 6, .inl U))] := hD
  refine lv_if_ne (tgt := 20) hx hb dX2_toss_11 (by decide) (fun h9 => absurd (mIn_bad hb0) h9) (fun _ => ?_)
  refine lv_aload_n hx hb dX2_toss_14 rfl (lv_at hl 0 rfl) ?_
  refine lv_iconst (v := 1) hx hb dX2_toss_15 (by decide) ?_
  have hPc := hP.sub (ws' := [(mo, .inr (2, [.int 0, .ref bL, .ref bT, .int (nI n), .ref bK, .ref bF, .ref bS, .ref bB, .int co, .int pl, .int st, .int jo, .int cn, .int ii, .int fi, .int fe, .ref bU])), (bK, .inl (cI, 60, .inl K)), (bF, .inl (cI, 60, .inl F)), (bS, .inl (cI, 60, .inl S)), (bB, .inl (cZ, 60, .inl B)), (bL, .inl (cI, 4, .inl L)), (bT, .inl (cI, 4, .inl T)), (bU, .inl (cI, 6, .inl U))]) [0, 1, 2, 3, 4, 5, 6, 7] rfl
  have hDc := hD.sub (ws' := [(mo, .inr (2, [.int 0, .ref bL, .ref bT, .int (nI n), .ref bK, .ref bF, .ref bS, .ref bB, .int co, .int pl, .int st, .int jo, .int cn, .int ii, .int fi, .int fe, .ref bU])), (bK, .inl (cI, 60, .inl K)), (bF, .inl (cI, 60, .inl F)), (bS, .inl (cI, 60, .inl S)), (bB, .inl (cZ, 60, .inl B)), (bL, .inl (cI, 4, .inl L)), (bT, .inl (cI, 4, .inl T)), (bU, .inl (cI, 6, .inl U))]) [0, 1, 2, 3, 4, 5, 6, 7] (by decide) rfl
  have hKc := hK.sub (tys' := [(cI, .int), (cZ, .boolean)]) [0, 1] rfl
  have hFc := va_free (wc := [(mo, .inr (2, [.int 0, .ref bL, .ref bT, .int (nI n), .ref bK, .ref bF, .ref bS, .ref bB, .int co, .int pl, .int st, .int jo, .int cn, .int ii, .int fi, .int fe, .ref bU])), (bK, .inl (cI, 60, .inl K)), (bF, .inl (cI, 60, .inl F)), (bS, .inl (cI, 60, .inl S)), (bB, .inl (cZ, 60, .inl B)), (bL, .inl (cI, 4, .inl L)), (bT, .inl (cI, 4, .inl T)), (bU, .inl (cI, 6, .inl U))]) hD hS hA [0, 1, 2, 3, 4, 5, 6, 7] rfl
  refine va_calli (va_runV (As := [.int 1]) (rest := []) ⟨hx, hb, hml, hown, hts⟩ (c_X2_fail l dC dI cI cZ mo bK bF bS bB bL bT bU H_2.size L T K F S B U n 0 co pl st jo cn ii fi fe 1) (cwV 1 hts gX2_toss_X2_fail rfl rfl rfl (by decide +kernel) ⟨Nat.le_of_ble_eq_true rfl, Nat.le_of_ble_eq_true rfl⟩) (pc_V hKc hPc hDc (ci := 2) (C := RX2) (T := TX2) (N := 17) (q0 := 0) rfl rfl) rfl rfl hl.1 rfl (lv_room (Nat.le_of_ble_eq_true rfl)) dX2_toss_16 ⟨Nat.le_of_ble_eq_true rfl, Nat.le_of_ble_eq_true rfl⟩) hS (fun q _ h => hFc q h) hFc (fun r_3 u t H_3 locs ht hvm hw hB hz1 hk1 hS => ?_)
  try dsimp only at hw hB
  have hw_3 := hw
  replace hw_3 := hw_3.symm
  subst hw_3
  obtain ⟨hP1, hD1⟩ := hB
  rw [ht] at hP1
  obtain ⟨hP, hD⟩ := va_join (wr := []) (w1 := [(mo, .inr (2, [.int 1, .ref bL, .ref bT, .int (nI n), .ref bK, .ref bF, .ref bS, .ref bB, .int co, .int pl, .int st, .int jo, .int cn, .int ii, .int fi, .int fe, .ref bU])), (bK, .inl (cI, 60, .inl K)), (bF, .inl (cI, 60, .inl F)), (bS, .inl (cI, 60, .inl S)), (bB, .inl (cZ, 60, .inl B)), (bL, .inl (cI, 4, .inl L)), (bT, .inl (cI, 4, .inl T)), (bU, .inl (cI, 6, .inl U))]) hP hD [0, 1, 2, 3, 4, 5, 6, 7] [] rfl rfl (by decide) (by decide) hk1 hFc hP1 hD1
  have hP : va_P (dC, dI) vwCl [(mo, .inr (2, [.int 1, .ref bL, .ref bT, .int (nI n), .ref bK, .ref bF, .ref bS, .ref bB, .int co, .int pl, .int st, .int jo, .int cn, .int ii, .int fi, .int fe, .ref bU])), (bK, .inl (cI, 60, .inl K)), (bF, .inl (cI, 60, .inl F)), (bS, .inl (cI, 60, .inl S)), (bB, .inl (cZ, 60, .inl B)), (bL, .inl (cI, 4, .inl L)), (bT, .inl (cI, 4, .inl T)), (bU, .inl (cI, 6, .inl U))] H_3 := hP
  have hD : va_D A [(mo, .inr (2, [.int 1, .ref bL, .ref bT, .int (nI n), .ref bK, .ref bF, .ref bS, .ref bB, .int co, .int pl, .int st, .int jo, .int cn, .int ii, .int fi, .int fe, .ref bU])), (bK, .inl (cI, 60, .inl K)), (bF, .inl (cI, 60, .inl F)), (bS, .inl (cI, 60, .inl S)), (bB, .inl (cZ, 60, .inl B)), (bL, .inl (cI, 4, .inl L)), (bT, .inl (cI, 4, .inl T)), (bU, .inl (cI, 6, .inl U))] := hD
  have hpost : (0 : Int32) = 0 := by
    rfl
  have hP9 := hP.sub (ws' := [(mo, .inr (2, [.int 1, .ref bL, .ref bT, .int (nI n), .ref bK, .ref bF, .ref bS, .ref bB, .int co, .int pl, .int st, .int jo, .int cn, .int ii, .int fi, .int fe, .ref bU])), (bK, .inl (cI, 60, .inl K)), (bF, .inl (cI, 60, .inl F)), (bS, .inl (cI, 60, .inl S)), (bB, .inl (cZ, 60, .inl B)), (bL, .inl (cI, 4, .inl L)), (bT, .inl (cI, 4, .inl T)), (bU, .inl (cI, 6, .inl U))]) [0, 1, 2, 3, 4, 5, 6, 7] rfl
  have hD9 := hD.sub (ws' := [(mo, .inr (2, [.int 1, .ref bL, .ref bT, .int (nI n), .ref bK, .ref bF, .ref bS, .ref bB, .int co, .int pl, .int st, .int jo, .int cn, .int ii, .int fi, .int fe, .ref bU])), (bK, .inl (cI, 60, .inl K)), (bF, .inl (cI, 60, .inl F)), (bS, .inl (cI, 60, .inl S)), (bB, .inl (cZ, 60, .inl B)), (bL, .inl (cI, 4, .inl L)), (bT, .inl (cI, 4, .inl T)), (bU, .inl (cI, 6, .inl U))]) [0, 1, 2, 3, 4, 5, 6, 7] (by decide) rfl
  exact W.iret (v := 0) hx hb hr (fun t ht hW => ⟨⟨0, (), rfl, hpost, by rw [ht]; exact hP9, hD9⟩, hS.F ht⟩) hS.2.2 dX2_toss_19

set_option maxHeartbeats 4000000 in
set_option maxRecDepth 100000 in
theorem c_X2_toss_f2 (l : Launch) (dC : Nat → ClassId) (dI : Nat → Nat → Nat) (cI cZ : ClassId) (mo bK bF bS bB bL bT bU : Nat) (sz : Nat) (L : N2I) (T : N2I) (K : N2I) (F : N2I) (S : N2I) (B : N2I) (U : N2I) (n : Nat) (tw : Int32) (co : Int32) (pl : Int32) (st : Int32) (jo : Int32) (cn : Int32) (ii : Int32) (fi : Int32) (fe : Int32) (a : Int32) (b : Int32) (h0 : ¬ a < 0) (h1 : ¬ 5 < a) (hb0 : b < 0 ∨ 20 < b) : Met l yX2_toss wsX2_toss ({ frames := 2, cells := 0, slots := 0, locals := 52 } : Room) (va_Pc [.ref mo, .int a, .int b] (pc_ (dC, dI) [(cI, .int), (cZ, .boolean)] [(mo, .inr (2, [.int tw, .ref bL, .ref bT, .int (nI n), .ref bK, .ref bF, .ref bS, .ref bB, .int co, .int pl, .int st, .int jo, .int cn, .int ii, .int fi, .int fe, .ref bU])), (bK, .inl (cI, 60, .inl K)), (bF, .inl (cI, 60, .inl F)), (bS, .inl (cI, 60, .inl S)), (bB, .inl (cZ, 60, .inl B)), (bL, .inl (cI, 4, .inl L)), (bT, .inl (cI, 4, .inl T)), (bU, .inl (cI, 6, .inl U))] sz)) (va_Qi (fun (r : Int32) (u : Unit) => r = 0) (fun (u : Unit) (t : State) => va_P (dC, dI) vwCl [(mo, .inr (2, [.int 2, .ref bL, .ref bT, .int (nI n), .ref bK, .ref bF, .ref bS, .ref bB, .int co, .int pl, .int st, .int jo, .int cn, .int ii, .int fi, .int fe, .ref bU])), (bK, .inl (cI, 60, .inl K)), (bF, .inl (cI, 60, .inl F)), (bS, .inl (cI, 60, .inl S)), (bB, .inl (cZ, 60, .inl B)), (bL, .inl (cI, 4, .inl L)), (bT, .inl (cI, 4, .inl T)), (bU, .inl (cI, 6, .inl U))] t.heap ∧ va_D (va_A [(mo, .inr (2, [.int tw, .ref bL, .ref bT, .int (nI n), .ref bK, .ref bF, .ref bS, .ref bB, .int co, .int pl, .int st, .int jo, .int cn, .int ii, .int fi, .int fe, .ref bU])), (bK, .inl (cI, 60, .inl K)), (bF, .inl (cI, 60, .inl F)), (bS, .inl (cI, 60, .inl S)), (bB, .inl (cZ, 60, .inl B)), (bL, .inl (cI, 4, .inl L)), (bT, .inl (cI, 4, .inl T)), (bU, .inl (cI, 6, .inl U))] sz) [(mo, .inr (2, [.int 2, .ref bL, .ref bT, .int (nI n), .ref bK, .ref bF, .ref bS, .ref bB, .int co, .int pl, .int st, .int jo, .int cn, .int ii, .int fi, .int fe, .ref bU])), (bK, .inl (cI, 60, .inl K)), (bF, .inl (cI, 60, .inl F)), (bS, .inl (cI, 60, .inl S)), (bB, .inl (cZ, 60, .inl B)), (bL, .inl (cI, 4, .inl L)), (bT, .inl (cI, 4, .inl T)), (bU, .inl (cI, 6, .inl U))]) (va_A [(mo, .inr (2, [.int tw, .ref bL, .ref bT, .int (nI n), .ref bK, .ref bF, .ref bS, .ref bB, .int co, .int pl, .int st, .int jo, .int cn, .int ii, .int fi, .int fe, .ref bU])), (bK, .inl (cI, 60, .inl K)), (bF, .inl (cI, 60, .inl F)), (bS, .inl (cI, 60, .inl S)), (bB, .inl (cZ, 60, .inl B)), (bL, .inl (cI, 4, .inl L)), (bT, .inl (cI, 4, .inl T)), (bU, .inl (cI, 6, .inl U))] sz)) 0 0 (va_A [(mo, .inr (2, [.int tw, .ref bL, .ref bT, .int (nI n), .ref bK, .ref bF, .ref bS, .ref bB, .int co, .int pl, .int st, .int jo, .int cn, .int ii, .int fi, .int fe, .ref bU])), (bK, .inl (cI, 60, .inl K)), (bF, .inl (cI, 60, .inl F)), (bS, .inl (cI, 60, .inl S)), (bB, .inl (cZ, 60, .inl B)), (bL, .inl (cI, 4, .inl L)), (bT, .inl (cI, 4, .inl T)), (bU, .inl (cI, 6, .inl U))] sz) := by
  refine Met.ofW (cc := cX2_toss) (maxL := 3) (ret := (some .int)) (by decide) rfl ?_
  intro p e s m args below meth c s₁ BB hml hv
  obtain ⟨rfl, hsz, hP, hK, hD0⟩ := hv
  have hx := BB.exec
  have hb := BB.bytes
  have hr := BB.returns
  have hts := atoms_spec (ws := wsX2_toss) BB.pre
  have hown : s.vm.findClass RX2 = some m.cls := findClass_of_methodNamed BB.named
  have hlocks := BB.notSynchronized
  subst hsz
  have hD := hD0.self (sz := s.heap.size)
  generalize hAe : va_A [(mo, .inr (2, [.int tw, .ref bL, .ref bT, .int (nI n), .ref bK, .ref bF, .ref bS, .ref bB, .int co, .int pl, .int st, .int jo, .int cn, .int ii, .int fi, .int fe, .ref bU])), (bK, .inl (cI, 60, .inl K)), (bF, .inl (cI, 60, .inl F)), (bS, .inl (cI, 60, .inl S)), (bB, .inl (cZ, 60, .inl B)), (bL, .inl (cI, 4, .inl L)), (bT, .inl (cI, 4, .inl T)), (bU, .inl (cI, 6, .inl U))] s.heap.size = A at hD ⊢
  have hA : ∀ q : Nat, s.heap.size ≤ q → A q := fun q h => by rw [← hAe]; exact Or.inr h
  have hS : va_S A s.heap s.heap [] := va_S.rf
  have hP : va_P (dC, dI) vwCl [(mo, .inr (2, [.int tw, .ref bL, .ref bT, .int (nI n), .ref bK, .ref bF, .ref bS, .ref bB, .int co, .int pl, .int st, .int jo, .int cn, .int ii, .int fi, .int fe, .ref bU])), (bK, .inl (cI, 60, .inl K)), (bF, .inl (cI, 60, .inl F)), (bS, .inl (cI, 60, .inl S)), (bB, .inl (cZ, 60, .inl B)), (bL, .inl (cI, 4, .inl L)), (bT, .inl (cI, 4, .inl T)), (bU, .inl (cI, 6, .inl U))] s.heap := hP
  have hl := lv_entry ([.ref mo, .int a, .int b]) (n := 3) (Nat.le_of_ble_eq_true rfl)
  rw [lg_entry_eq]
  generalize (lg_sl ([.ref mo, .int a, .int b]) ++ List.replicate (3 - (lg_sl ([.ref mo, .int a, .int b])).length) Slot.unset).toArray = ls at hl ⊢
  have hl : lv_has ls 3 [(0, .ref mo), (1, .int a), (2, .int b)] := hl
  have k0 := hts (.fieldLink RX2 32 "KnifeLedgerModel" "thrown" "I") (by decide +kernel)
  have hinX2 : ∀ w ∈ wsX20, w ∈ wsX2_toss := by decide +kernel
  refine lv_aload_n hx hb dX2_toss_0 rfl (lv_at hl 0 rfl) ?_
  refine lv_iconst (v := 0) hx hb dX2_toss_1 (by decide) ?_
  refine va_put (D := (dC, dI)) (ci := 2) (v := .int 0) (ty := .int) (C := RX2) (T := TX2) (N := 17) hx hb hts hinX2 tyX2 tyX2_ok nmX2 hown hK hP hD hS 0 rfl rfl 0 (by decide) k0 (fun _ h9 => h9) rfl (by decide +kernel) rfl rfl (Nat.le_of_ble_eq_true rfl) dX2_toss_2 (fun H_1 locs hP hD hS => ?_)
  have hP : va_P (dC, dI) vwCl [(mo, .inr (2, [.int 0, .ref bL, .ref bT, .int (nI n), .ref bK, .ref bF, .ref bS, .ref bB, .int co, .int pl, .int st, .int jo, .int cn, .int ii, .int fi, .int fe, .ref bU])), (bK, .inl (cI, 60, .inl K)), (bF, .inl (cI, 60, .inl F)), (bS, .inl (cI, 60, .inl S)), (bB, .inl (cZ, 60, .inl B)), (bL, .inl (cI, 4, .inl L)), (bT, .inl (cI, 4, .inl T)), (bU, .inl (cI, 6, .inl U))] H_1 := hP
  have hD : va_D A [(mo, .inr (2, [.int 0, .ref bL, .ref bT, .int (nI n), .ref bK, .ref bF, .ref bS, .ref bB, .int co, .int pl, .int st, .int jo, .int cn, .int ii, .int fi, .int fe, .ref bU])), (bK, .inl (cI, 60, .inl K)), (bF, .inl (cI, 60, .inl F)), (bS, .inl (cI, 60, .inl S)), (bB, .inl (cZ, 60, .inl B)), (bL, .inl (cI, 4, .inl L)), (bT, .inl (cI, 4, .inl T)), (bU, .inl (cI, 6, .inl U))] := hD
  refine lv_iload_n hx hb dX2_toss_5 rfl (lv_at hl 1 rfl) ?_
  refine lv_iconst (v := 0) hx hb dX2_toss_6 (by decide) ?_
  refine lv_iconst (v := 5) hx hb dX2_toss_7 (by decide) ?_
  have hPc := hP.sub (ws' := []) [] rfl
  have hDc := hD.sub (ws' := []) [] (by decide) rfl
  have hKc := hK.sub (tys' := []) [] rfl
  have hFc := va_free (wc := []) hD hS hA [] rfl
  refine va_calli (va_runS (As := [.int a, .int 0, .int 5]) (rest := []) ⟨hx, hb, hml, hown, hts⟩ (c_X2_isIn l dC dI H_1.size a 0 5) (va_cwS 3 hts gX2_toss_X2_isIn rfl rfl rfl (by decide +kernel) ⟨Nat.le_of_ble_eq_true rfl, Nat.le_of_ble_eq_true rfl⟩) (pc_S hKc hPc hDc) rfl rfl hl.1 rfl (lv_room (Nat.le_of_ble_eq_true rfl)) dX2_toss_8 ⟨Nat.le_of_ble_eq_true rfl, Nat.le_of_ble_eq_true rfl⟩) hS (fun q _ h => hFc q h) hFc (fun r_2 u t H_2 locs ht hvm hw hB hz1 hk1 hS => ?_)
  try dsimp only at hw hB
  have hw_2 := hw
  replace hw_2 := hw_2.symm
  subst hw_2
  obtain ⟨hP1, hD1⟩ := hB
  rw [ht] at hP1
  obtain ⟨hP, hD⟩ := va_join (wr := [(mo, .inr (2, [.int 0, .ref bL, .ref bT, .int (nI n), .ref bK, .ref bF, .ref bS, .ref bB, .int co, .int pl, .int st, .int jo, .int cn, .int ii, .int fi, .int fe, .ref bU])), (bK, .inl (cI, 60, .inl K)), (bF, .inl (cI, 60, .inl F)), (bS, .inl (cI, 60, .inl S)), (bB, .inl (cZ, 60, .inl B)), (bL, .inl (cI, 4, .inl L)), (bT, .inl (cI, 4, .inl T)), (bU, .inl (cI, 6, .inl U))]) (w1 := []) hP hD [] [0, 1, 2, 3, 4, 5, 6, 7] rfl rfl (by decide) (by decide) hk1 hFc hP1 hD1
  have hP : va_P (dC, dI) vwCl [(mo, .inr (2, [.int 0, .ref bL, .ref bT, .int (nI n), .ref bK, .ref bF, .ref bS, .ref bB, .int co, .int pl, .int st, .int jo, .int cn, .int ii, .int fi, .int fe, .ref bU])), (bK, .inl (cI, 60, .inl K)), (bF, .inl (cI, 60, .inl F)), (bS, .inl (cI, 60, .inl S)), (bB, .inl (cZ, 60, .inl B)), (bL, .inl (cI, 4, .inl L)), (bT, .inl (cI, 4, .inl T)), (bU, .inl (cI, 6, .inl U))] H_2 := hP
  have hD : va_D A [(mo, .inr (2, [.int 0, .ref bL, .ref bT, .int (nI n), .ref bK, .ref bF, .ref bS, .ref bB, .int co, .int pl, .int st, .int jo, .int cn, .int ii, .int fi, .int fe, .ref bU])), (bK, .inl (cI, 60, .inl K)), (bF, .inl (cI, 60, .inl F)), (bS, .inl (cI, 60, .inl S)), (bB, .inl (cZ, 60, .inl B)), (bL, .inl (cI, 4, .inl L)), (bT, .inl (cI, 4, .inl T)), (bU, .inl (cI, 6, .inl U))] := hD
  refine lv_if_ne (tgt := 20) hx hb dX2_toss_11 (by decide) (fun _ => ?_) (fun h9 => absurd h9 (by rw [mIn_ok h0 h1]; exact one_ne))
  refine lv_iload_n hx hb dX2_toss_20 rfl (lv_at hl 2 rfl) ?_
  refine lv_iconst (v := 0) hx hb dX2_toss_21 (by decide) ?_
  refine lv_bipush (v := 20) hx hb dX2_toss_22 (by decide) ?_
  have hPc := hP.sub (ws' := []) [] rfl
  have hDc := hD.sub (ws' := []) [] (by decide) rfl
  have hKc := hK.sub (tys' := []) [] rfl
  have hFc := va_free (wc := []) hD hS hA [] rfl
  refine va_calli (va_runS (As := [.int b, .int 0, .int 20]) (rest := []) ⟨hx, hb, hml, hown, hts⟩ (c_X2_isIn l dC dI H_2.size b 0 20) (va_cwS 3 hts gX2_toss_X2_isIn rfl rfl rfl (by decide +kernel) ⟨Nat.le_of_ble_eq_true rfl, Nat.le_of_ble_eq_true rfl⟩) (pc_S hKc hPc hDc) rfl rfl hl.1 rfl (lv_room (Nat.le_of_ble_eq_true rfl)) dX2_toss_24 ⟨Nat.le_of_ble_eq_true rfl, Nat.le_of_ble_eq_true rfl⟩) hS (fun q _ h => hFc q h) hFc (fun r_3 u t H_3 locs ht hvm hw hB hz1 hk1 hS => ?_)
  try dsimp only at hw hB
  have hw_3 := hw
  replace hw_3 := hw_3.symm
  subst hw_3
  obtain ⟨hP1, hD1⟩ := hB
  rw [ht] at hP1
  obtain ⟨hP, hD⟩ := va_join (wr := [(mo, .inr (2, [.int 0, .ref bL, .ref bT, .int (nI n), .ref bK, .ref bF, .ref bS, .ref bB, .int co, .int pl, .int st, .int jo, .int cn, .int ii, .int fi, .int fe, .ref bU])), (bK, .inl (cI, 60, .inl K)), (bF, .inl (cI, 60, .inl F)), (bS, .inl (cI, 60, .inl S)), (bB, .inl (cZ, 60, .inl B)), (bL, .inl (cI, 4, .inl L)), (bT, .inl (cI, 4, .inl T)), (bU, .inl (cI, 6, .inl U))]) (w1 := []) hP hD [] [0, 1, 2, 3, 4, 5, 6, 7] rfl rfl (by decide) (by decide) hk1 hFc hP1 hD1
  have hP : va_P (dC, dI) vwCl [(mo, .inr (2, [.int 0, .ref bL, .ref bT, .int (nI n), .ref bK, .ref bF, .ref bS, .ref bB, .int co, .int pl, .int st, .int jo, .int cn, .int ii, .int fi, .int fe, .ref bU])), (bK, .inl (cI, 60, .inl K)), (bF, .inl (cI, 60, .inl F)), (bS, .inl (cI, 60, .inl S)), (bB, .inl (cZ, 60, .inl B)), (bL, .inl (cI, 4, .inl L)), (bT, .inl (cI, 4, .inl T)), (bU, .inl (cI, 6, .inl U))] H_3 := hP
  have hD : va_D A [(mo, .inr (2, [.int 0, .ref bL, .ref bT, .int (nI n), .ref bK, .ref bF, .ref bS, .ref bB, .int co, .int pl, .int st, .int jo, .int cn, .int ii, .int fi, .int fe, .ref bU])), (bK, .inl (cI, 60, .inl K)), (bF, .inl (cI, 60, .inl F)), (bS, .inl (cI, 60, .inl S)), (bB, .inl (cZ, 60, .inl B)), (bL, .inl (cI, 4, .inl L)), (bT, .inl (cI, 4, .inl T)), (bU, .inl (cI, 6, .inl U))] := hD
  refine lv_if_ne (tgt := 36) hx hb dX2_toss_27 (by decide) (fun h9 => absurd (mIn_bad hb0) h9) (fun _ => ?_)
  refine lv_aload_n hx hb dX2_toss_30 rfl (lv_at hl 0 rfl) ?_
  refine lv_iconst (v := 2) hx hb dX2_toss_31 (by decide) ?_
  have hPc := hP.sub (ws' := [(mo, .inr (2, [.int 0, .ref bL, .ref bT, .int (nI n), .ref bK, .ref bF, .ref bS, .ref bB, .int co, .int pl, .int st, .int jo, .int cn, .int ii, .int fi, .int fe, .ref bU])), (bK, .inl (cI, 60, .inl K)), (bF, .inl (cI, 60, .inl F)), (bS, .inl (cI, 60, .inl S)), (bB, .inl (cZ, 60, .inl B)), (bL, .inl (cI, 4, .inl L)), (bT, .inl (cI, 4, .inl T)), (bU, .inl (cI, 6, .inl U))]) [0, 1, 2, 3, 4, 5, 6, 7] rfl
  have hDc := hD.sub (ws' := [(mo, .inr (2, [.int 0, .ref bL, .ref bT, .int (nI n), .ref bK, .ref bF, .ref bS, .ref bB, .int co, .int pl, .int st, .int jo, .int cn, .int ii, .int fi, .int fe, .ref bU])), (bK, .inl (cI, 60, .inl K)), (bF, .inl (cI, 60, .inl F)), (bS, .inl (cI, 60, .inl S)), (bB, .inl (cZ, 60, .inl B)), (bL, .inl (cI, 4, .inl L)), (bT, .inl (cI, 4, .inl T)), (bU, .inl (cI, 6, .inl U))]) [0, 1, 2, 3, 4, 5, 6, 7] (by decide) rfl
  have hKc := hK.sub (tys' := [(cI, .int), (cZ, .boolean)]) [0, 1] rfl
  have hFc := va_free (wc := [(mo, .inr (2, [.int 0, .ref bL, .ref bT, .int (nI n), .ref bK, .ref bF, .ref bS, .ref bB, .int co, .int pl, .int st, .int jo, .int cn, .int ii, .int fi, .int fe, .ref bU])), (bK, .inl (cI, 60, .inl K)), (bF, .inl (cI, 60, .inl F)), (bS, .inl (cI, 60, .inl S)), (bB, .inl (cZ, 60, .inl B)), (bL, .inl (cI, 4, .inl L)), (bT, .inl (cI, 4, .inl T)), (bU, .inl (cI, 6, .inl U))]) hD hS hA [0, 1, 2, 3, 4, 5, 6, 7] rfl
  refine va_calli (va_runV (As := [.int 2]) (rest := []) ⟨hx, hb, hml, hown, hts⟩ (c_X2_fail l dC dI cI cZ mo bK bF bS bB bL bT bU H_3.size L T K F S B U n 0 co pl st jo cn ii fi fe 2) (cwV 1 hts gX2_toss_X2_fail rfl rfl rfl (by decide +kernel) ⟨Nat.le_of_ble_eq_true rfl, Nat.le_of_ble_eq_true rfl⟩) (pc_V hKc hPc hDc (ci := 2) (C := RX2) (T := TX2) (N := 17) (q0 := 0) rfl rfl) rfl rfl hl.1 rfl (lv_room (Nat.le_of_ble_eq_true rfl)) dX2_toss_32 ⟨Nat.le_of_ble_eq_true rfl, Nat.le_of_ble_eq_true rfl⟩) hS (fun q _ h => hFc q h) hFc (fun r_4 u t H_4 locs ht hvm hw hB hz1 hk1 hS => ?_)
  try dsimp only at hw hB
  have hw_4 := hw
  replace hw_4 := hw_4.symm
  subst hw_4
  obtain ⟨hP1, hD1⟩ := hB
  rw [ht] at hP1
  obtain ⟨hP, hD⟩ := va_join (wr := []) (w1 := [(mo, .inr (2, [.int 2, .ref bL, .ref bT, .int (nI n), .ref bK, .ref bF, .ref bS, .ref bB, .int co, .int pl, .int st, .int jo, .int cn, .int ii, .int fi, .int fe, .ref bU])), (bK, .inl (cI, 60, .inl K)), (bF, .inl (cI, 60, .inl F)), (bS, .inl (cI, 60, .inl S)), (bB, .inl (cZ, 60, .inl B)), (bL, .inl (cI, 4, .inl L)), (bT, .inl (cI, 4, .inl T)), (bU, .inl (cI, 6, .inl U))]) hP hD [0, 1, 2, 3, 4, 5, 6, 7] [] rfl rfl (by decide) (by decide) hk1 hFc hP1 hD1
  have hP : va_P (dC, dI) vwCl [(mo, .inr (2, [.int 2, .ref bL, .ref bT, .int (nI n), .ref bK, .ref bF, .ref bS, .ref bB, .int co, .int pl, .int st, .int jo, .int cn, .int ii, .int fi, .int fe, .ref bU])), (bK, .inl (cI, 60, .inl K)), (bF, .inl (cI, 60, .inl F)), (bS, .inl (cI, 60, .inl S)), (bB, .inl (cZ, 60, .inl B)), (bL, .inl (cI, 4, .inl L)), (bT, .inl (cI, 4, .inl T)), (bU, .inl (cI, 6, .inl U))] H_4 := hP
  have hD : va_D A [(mo, .inr (2, [.int 2, .ref bL, .ref bT, .int (nI n), .ref bK, .ref bF, .ref bS, .ref bB, .int co, .int pl, .int st, .int jo, .int cn, .int ii, .int fi, .int fe, .ref bU])), (bK, .inl (cI, 60, .inl K)), (bF, .inl (cI, 60, .inl F)), (bS, .inl (cI, 60, .inl S)), (bB, .inl (cZ, 60, .inl B)), (bL, .inl (cI, 4, .inl L)), (bT, .inl (cI, 4, .inl T)), (bU, .inl (cI, 6, .inl U))] := hD
  have hpost : (0 : Int32) = 0 := by
    rfl
  have hP9 := hP.sub (ws' := [(mo, .inr (2, [.int 2, .ref bL, .ref bT, .int (nI n), .ref bK, .ref bF, .ref bS, .ref bB, .int co, .int pl, .int st, .int jo, .int cn, .int ii, .int fi, .int fe, .ref bU])), (bK, .inl (cI, 60, .inl K)), (bF, .inl (cI, 60, .inl F)), (bS, .inl (cI, 60, .inl S)), (bB, .inl (cZ, 60, .inl B)), (bL, .inl (cI, 4, .inl L)), (bT, .inl (cI, 4, .inl T)), (bU, .inl (cI, 6, .inl U))]) [0, 1, 2, 3, 4, 5, 6, 7] rfl
  have hD9 := hD.sub (ws' := [(mo, .inr (2, [.int 2, .ref bL, .ref bT, .int (nI n), .ref bK, .ref bF, .ref bS, .ref bB, .int co, .int pl, .int st, .int jo, .int cn, .int ii, .int fi, .int fe, .ref bU])), (bK, .inl (cI, 60, .inl K)), (bF, .inl (cI, 60, .inl F)), (bS, .inl (cI, 60, .inl S)), (bB, .inl (cZ, 60, .inl B)), (bL, .inl (cI, 4, .inl L)), (bT, .inl (cI, 4, .inl T)), (bU, .inl (cI, 6, .inl U))]) [0, 1, 2, 3, 4, 5, 6, 7] (by decide) rfl
  exact W.iret (v := 0) hx hb hr (fun t ht hW => ⟨⟨0, (), rfl, hpost, by rw [ht]; exact hP9, hD9⟩, hS.F ht⟩) hS.2.2 dX2_toss_35

set_option maxHeartbeats 4000000 in
set_option maxRecDepth 100000 in
theorem c_X2_toss_full (l : Launch) (dC : Nat → ClassId) (dI : Nat → Nat → Nat) (cI cZ : ClassId) (mo bK bF bS bB bL bT bU : Nat) (sz : Nat) (L : N2I) (T : N2I) (K : N2I) (F : N2I) (S : N2I) (B : N2I) (U : N2I) (n : Nat) (tw : Int32) (co : Int32) (pl : Int32) (st : Int32) (jo : Int32) (cn : Int32) (ii : Int32) (fi : Int32) (fe : Int32) (a : Int32) (b : Int32) (h0 : ¬ a < 0) (h1 : ¬ 5 < a) (h2 : ¬ b < 0) (h3 : ¬ 20 < b) (hn : n = 60) : Met l yX2_toss wsX2_toss ({ frames := 2, cells := 0, slots := 0, locals := 52 } : Room) (va_Pc [.ref mo, .int a, .int b] (pc_ (dC, dI) [(cI, .int), (cZ, .boolean)] [(mo, .inr (2, [.int tw, .ref bL, .ref bT, .int (nI n), .ref bK, .ref bF, .ref bS, .ref bB, .int co, .int pl, .int st, .int jo, .int cn, .int ii, .int fi, .int fe, .ref bU])), (bK, .inl (cI, 60, .inl K)), (bF, .inl (cI, 60, .inl F)), (bS, .inl (cI, 60, .inl S)), (bB, .inl (cZ, 60, .inl B)), (bL, .inl (cI, 4, .inl L)), (bT, .inl (cI, 4, .inl T)), (bU, .inl (cI, 6, .inl U))] sz)) (va_Qi (fun (r : Int32) (u : Unit) => r = 0) (fun (u : Unit) (t : State) => va_P (dC, dI) vwCl [(mo, .inr (2, [.int 3, .ref bL, .ref bT, .int (nI n), .ref bK, .ref bF, .ref bS, .ref bB, .int co, .int pl, .int st, .int jo, .int cn, .int ii, .int fi, .int fe, .ref bU])), (bK, .inl (cI, 60, .inl K)), (bF, .inl (cI, 60, .inl F)), (bS, .inl (cI, 60, .inl S)), (bB, .inl (cZ, 60, .inl B)), (bL, .inl (cI, 4, .inl L)), (bT, .inl (cI, 4, .inl T)), (bU, .inl (cI, 6, .inl U))] t.heap ∧ va_D (va_A [(mo, .inr (2, [.int tw, .ref bL, .ref bT, .int (nI n), .ref bK, .ref bF, .ref bS, .ref bB, .int co, .int pl, .int st, .int jo, .int cn, .int ii, .int fi, .int fe, .ref bU])), (bK, .inl (cI, 60, .inl K)), (bF, .inl (cI, 60, .inl F)), (bS, .inl (cI, 60, .inl S)), (bB, .inl (cZ, 60, .inl B)), (bL, .inl (cI, 4, .inl L)), (bT, .inl (cI, 4, .inl T)), (bU, .inl (cI, 6, .inl U))] sz) [(mo, .inr (2, [.int 3, .ref bL, .ref bT, .int (nI n), .ref bK, .ref bF, .ref bS, .ref bB, .int co, .int pl, .int st, .int jo, .int cn, .int ii, .int fi, .int fe, .ref bU])), (bK, .inl (cI, 60, .inl K)), (bF, .inl (cI, 60, .inl F)), (bS, .inl (cI, 60, .inl S)), (bB, .inl (cZ, 60, .inl B)), (bL, .inl (cI, 4, .inl L)), (bT, .inl (cI, 4, .inl T)), (bU, .inl (cI, 6, .inl U))]) (va_A [(mo, .inr (2, [.int tw, .ref bL, .ref bT, .int (nI n), .ref bK, .ref bF, .ref bS, .ref bB, .int co, .int pl, .int st, .int jo, .int cn, .int ii, .int fi, .int fe, .ref bU])), (bK, .inl (cI, 60, .inl K)), (bF, .inl (cI, 60, .inl F)), (bS, .inl (cI, 60, .inl S)), (bB, .inl (cZ, 60, .inl B)), (bL, .inl (cI, 4, .inl L)), (bT, .inl (cI, 4, .inl T)), (bU, .inl (cI, 6, .inl U))] sz)) 0 0 (va_A [(mo, .inr (2, [.int tw, .ref bL, .ref bT, .int (nI n), .ref bK, .ref bF, .ref bS, .ref bB, .int co, .int pl, .int st, .int jo, .int cn, .int ii, .int fi, .int fe, .ref bU])), (bK, .inl (cI, 60, .inl K)), (bF, .inl (cI, 60, .inl F)), (bS, .inl (cI, 60, .inl S)), (bB, .inl (cZ, 60, .inl B)), (bL, .inl (cI, 4, .inl L)), (bT, .inl (cI, 4, .inl T)), (bU, .inl (cI, 6, .inl U))] sz) := by
  refine Met.ofW (cc := cX2_toss) (maxL := 3) (ret := (some .int)) (by decide) rfl ?_
  intro p e s m args below meth c s₁ BB hml hv
  obtain ⟨rfl, hsz, hP, hK, hD0⟩ := hv
  have hx := BB.exec
  have hb := BB.bytes
  have hr := BB.returns
  have hts := atoms_spec (ws := wsX2_toss) BB.pre
  have hown : s.vm.findClass RX2 = some m.cls := findClass_of_methodNamed BB.named
  have hlocks := BB.notSynchronized
  subst hsz
  have hD := hD0.self (sz := s.heap.size)
  generalize hAe : va_A [(mo, .inr (2, [.int tw, .ref bL, .ref bT, .int (nI n), .ref bK, .ref bF, .ref bS, .ref bB, .int co, .int pl, .int st, .int jo, .int cn, .int ii, .int fi, .int fe, .ref bU])), (bK, .inl (cI, 60, .inl K)), (bF, .inl (cI, 60, .inl F)), (bS, .inl (cI, 60, .inl S)), (bB, .inl (cZ, 60, .inl B)), (bL, .inl (cI, 4, .inl L)), (bT, .inl (cI, 4, .inl T)), (bU, .inl (cI, 6, .inl U))] s.heap.size = A at hD ⊢
  have hA : ∀ q : Nat, s.heap.size ≤ q → A q := fun q h => by rw [← hAe]; exact Or.inr h
  have hS : va_S A s.heap s.heap [] := va_S.rf
  have hP : va_P (dC, dI) vwCl [(mo, .inr (2, [.int tw, .ref bL, .ref bT, .int (nI n), .ref bK, .ref bF, .ref bS, .ref bB, .int co, .int pl, .int st, .int jo, .int cn, .int ii, .int fi, .int fe, .ref bU])), (bK, .inl (cI, 60, .inl K)), (bF, .inl (cI, 60, .inl F)), (bS, .inl (cI, 60, .inl S)), (bB, .inl (cZ, 60, .inl B)), (bL, .inl (cI, 4, .inl L)), (bT, .inl (cI, 4, .inl T)), (bU, .inl (cI, 6, .inl U))] s.heap := hP
  have hl := lv_entry ([.ref mo, .int a, .int b]) (n := 3) (Nat.le_of_ble_eq_true rfl)
  rw [lg_entry_eq]
  generalize (lg_sl ([.ref mo, .int a, .int b]) ++ List.replicate (3 - (lg_sl ([.ref mo, .int a, .int b])).length) Slot.unset).toArray = ls at hl ⊢
  have hl : lv_has ls 3 [(0, .ref mo), (1, .int a), (2, .int b)] := hl
  have k0 := hts (.fieldLink RX2 32 "KnifeLedgerModel" "thrown" "I") (by decide +kernel)
  have hinX2 : ∀ w ∈ wsX20, w ∈ wsX2_toss := by decide +kernel
  have k2 := hts (.fieldLink RX2 36 "KnifeLedgerModel" "entries" "I") (by decide +kernel)
  refine lv_aload_n hx hb dX2_toss_0 rfl (lv_at hl 0 rfl) ?_
  refine lv_iconst (v := 0) hx hb dX2_toss_1 (by decide) ?_
  refine va_put (D := (dC, dI)) (ci := 2) (v := .int 0) (ty := .int) (C := RX2) (T := TX2) (N := 17) hx hb hts hinX2 tyX2 tyX2_ok nmX2 hown hK hP hD hS 0 rfl rfl 0 (by decide) k0 (fun _ h9 => h9) rfl (by decide +kernel) rfl rfl (Nat.le_of_ble_eq_true rfl) dX2_toss_2 (fun H_1 locs hP hD hS => ?_)
  have hP : va_P (dC, dI) vwCl [(mo, .inr (2, [.int 0, .ref bL, .ref bT, .int (nI n), .ref bK, .ref bF, .ref bS, .ref bB, .int co, .int pl, .int st, .int jo, .int cn, .int ii, .int fi, .int fe, .ref bU])), (bK, .inl (cI, 60, .inl K)), (bF, .inl (cI, 60, .inl F)), (bS, .inl (cI, 60, .inl S)), (bB, .inl (cZ, 60, .inl B)), (bL, .inl (cI, 4, .inl L)), (bT, .inl (cI, 4, .inl T)), (bU, .inl (cI, 6, .inl U))] H_1 := hP
  have hD : va_D A [(mo, .inr (2, [.int 0, .ref bL, .ref bT, .int (nI n), .ref bK, .ref bF, .ref bS, .ref bB, .int co, .int pl, .int st, .int jo, .int cn, .int ii, .int fi, .int fe, .ref bU])), (bK, .inl (cI, 60, .inl K)), (bF, .inl (cI, 60, .inl F)), (bS, .inl (cI, 60, .inl S)), (bB, .inl (cZ, 60, .inl B)), (bL, .inl (cI, 4, .inl L)), (bT, .inl (cI, 4, .inl T)), (bU, .inl (cI, 6, .inl U))] := hD
  refine lv_iload_n hx hb dX2_toss_5 rfl (lv_at hl 1 rfl) ?_
  refine lv_iconst (v := 0) hx hb dX2_toss_6 (by decide) ?_
  refine lv_iconst (v := 5) hx hb dX2_toss_7 (by decide) ?_
  have hPc := hP.sub (ws' := []) [] rfl
  have hDc := hD.sub (ws' := []) [] (by decide) rfl
  have hKc := hK.sub (tys' := []) [] rfl
  have hFc := va_free (wc := []) hD hS hA [] rfl
  refine va_calli (va_runS (As := [.int a, .int 0, .int 5]) (rest := []) ⟨hx, hb, hml, hown, hts⟩ (c_X2_isIn l dC dI H_1.size a 0 5) (va_cwS 3 hts gX2_toss_X2_isIn rfl rfl rfl (by decide +kernel) ⟨Nat.le_of_ble_eq_true rfl, Nat.le_of_ble_eq_true rfl⟩) (pc_S hKc hPc hDc) rfl rfl hl.1 rfl (lv_room (Nat.le_of_ble_eq_true rfl)) dX2_toss_8 ⟨Nat.le_of_ble_eq_true rfl, Nat.le_of_ble_eq_true rfl⟩) hS (fun q _ h => hFc q h) hFc (fun r_2 u t H_2 locs ht hvm hw hB hz1 hk1 hS => ?_)
  try dsimp only at hw hB
  have hw_2 := hw
  replace hw_2 := hw_2.symm
  subst hw_2
  obtain ⟨hP1, hD1⟩ := hB
  rw [ht] at hP1
  obtain ⟨hP, hD⟩ := va_join (wr := [(mo, .inr (2, [.int 0, .ref bL, .ref bT, .int (nI n), .ref bK, .ref bF, .ref bS, .ref bB, .int co, .int pl, .int st, .int jo, .int cn, .int ii, .int fi, .int fe, .ref bU])), (bK, .inl (cI, 60, .inl K)), (bF, .inl (cI, 60, .inl F)), (bS, .inl (cI, 60, .inl S)), (bB, .inl (cZ, 60, .inl B)), (bL, .inl (cI, 4, .inl L)), (bT, .inl (cI, 4, .inl T)), (bU, .inl (cI, 6, .inl U))]) (w1 := []) hP hD [] [0, 1, 2, 3, 4, 5, 6, 7] rfl rfl (by decide) (by decide) hk1 hFc hP1 hD1
  have hP : va_P (dC, dI) vwCl [(mo, .inr (2, [.int 0, .ref bL, .ref bT, .int (nI n), .ref bK, .ref bF, .ref bS, .ref bB, .int co, .int pl, .int st, .int jo, .int cn, .int ii, .int fi, .int fe, .ref bU])), (bK, .inl (cI, 60, .inl K)), (bF, .inl (cI, 60, .inl F)), (bS, .inl (cI, 60, .inl S)), (bB, .inl (cZ, 60, .inl B)), (bL, .inl (cI, 4, .inl L)), (bT, .inl (cI, 4, .inl T)), (bU, .inl (cI, 6, .inl U))] H_2 := hP
  have hD : va_D A [(mo, .inr (2, [.int 0, .ref bL, .ref bT, .int (nI n), .ref bK, .ref bF, .ref bS, .ref bB, .int co, .int pl, .int st, .int jo, .int cn, .int ii, .int fi, .int fe, .ref bU])), (bK, .inl (cI, 60, .inl K)), (bF, .inl (cI, 60, .inl F)), (bS, .inl (cI, 60, .inl S)), (bB, .inl (cZ, 60, .inl B)), (bL, .inl (cI, 4, .inl L)), (bT, .inl (cI, 4, .inl T)), (bU, .inl (cI, 6, .inl U))] := hD
  refine lv_if_ne (tgt := 20) hx hb dX2_toss_11 (by decide) (fun _ => ?_) (fun h9 => absurd h9 (by rw [mIn_ok h0 h1]; exact one_ne))
  refine lv_iload_n hx hb dX2_toss_20 rfl (lv_at hl 2 rfl) ?_
  refine lv_iconst (v := 0) hx hb dX2_toss_21 (by decide) ?_
  refine lv_bipush (v := 20) hx hb dX2_toss_22 (by decide) ?_
  have hPc := hP.sub (ws' := []) [] rfl
  have hDc := hD.sub (ws' := []) [] (by decide) rfl
  have hKc := hK.sub (tys' := []) [] rfl
  have hFc := va_free (wc := []) hD hS hA [] rfl
  refine va_calli (va_runS (As := [.int b, .int 0, .int 20]) (rest := []) ⟨hx, hb, hml, hown, hts⟩ (c_X2_isIn l dC dI H_2.size b 0 20) (va_cwS 3 hts gX2_toss_X2_isIn rfl rfl rfl (by decide +kernel) ⟨Nat.le_of_ble_eq_true rfl, Nat.le_of_ble_eq_true rfl⟩) (pc_S hKc hPc hDc) rfl rfl hl.1 rfl (lv_room (Nat.le_of_ble_eq_true rfl)) dX2_toss_24 ⟨Nat.le_of_ble_eq_true rfl, Nat.le_of_ble_eq_true rfl⟩) hS (fun q _ h => hFc q h) hFc (fun r_3 u t H_3 locs ht hvm hw hB hz1 hk1 hS => ?_)
  try dsimp only at hw hB
  have hw_3 := hw
  replace hw_3 := hw_3.symm
  subst hw_3
  obtain ⟨hP1, hD1⟩ := hB
  rw [ht] at hP1
  obtain ⟨hP, hD⟩ := va_join (wr := [(mo, .inr (2, [.int 0, .ref bL, .ref bT, .int (nI n), .ref bK, .ref bF, .ref bS, .ref bB, .int co, .int pl, .int st, .int jo, .int cn, .int ii, .int fi, .int fe, .ref bU])), (bK, .inl (cI, 60, .inl K)), (bF, .inl (cI, 60, .inl F)), (bS, .inl (cI, 60, .inl S)), (bB, .inl (cZ, 60, .inl B)), (bL, .inl (cI, 4, .inl L)), (bT, .inl (cI, 4, .inl T)), (bU, .inl (cI, 6, .inl U))]) (w1 := []) hP hD [] [0, 1, 2, 3, 4, 5, 6, 7] rfl rfl (by decide) (by decide) hk1 hFc hP1 hD1
  have hP : va_P (dC, dI) vwCl [(mo, .inr (2, [.int 0, .ref bL, .ref bT, .int (nI n), .ref bK, .ref bF, .ref bS, .ref bB, .int co, .int pl, .int st, .int jo, .int cn, .int ii, .int fi, .int fe, .ref bU])), (bK, .inl (cI, 60, .inl K)), (bF, .inl (cI, 60, .inl F)), (bS, .inl (cI, 60, .inl S)), (bB, .inl (cZ, 60, .inl B)), (bL, .inl (cI, 4, .inl L)), (bT, .inl (cI, 4, .inl T)), (bU, .inl (cI, 6, .inl U))] H_3 := hP
  have hD : va_D A [(mo, .inr (2, [.int 0, .ref bL, .ref bT, .int (nI n), .ref bK, .ref bF, .ref bS, .ref bB, .int co, .int pl, .int st, .int jo, .int cn, .int ii, .int fi, .int fe, .ref bU])), (bK, .inl (cI, 60, .inl K)), (bF, .inl (cI, 60, .inl F)), (bS, .inl (cI, 60, .inl S)), (bB, .inl (cZ, 60, .inl B)), (bL, .inl (cI, 4, .inl L)), (bT, .inl (cI, 4, .inl T)), (bU, .inl (cI, 6, .inl U))] := hD
  refine lv_if_ne (tgt := 36) hx hb dX2_toss_27 (by decide) (fun _ => ?_) (fun h9 => absurd h9 (by rw [mIn_ok h2 h3]; exact one_ne))
  refine lv_aload_n hx hb dX2_toss_36 rfl (lv_at hl 0 rfl) ?_
  refine va_get (D := (dC, dI)) (ci := 2) (v := .int (nI n)) (C := RX2) (T := TX2) (N := 17) hx hb hts hinX2 hown hK hP 0 rfl rfl 3 (by decide) k2 (fun _ h9 => h9) rfl dX2_toss_37 ?_
  refine lv_bipush (v := 60) hx hb dX2_toss_40 (by decide) ?_
  refine lv_icmp_ne (tgt := 53) hx hb dX2_toss_42 (by decide) (fun h9 => absurd (by rw [hn]; rfl) h9) (fun _ => ?_)
  refine lv_aload_n hx hb dX2_toss_45 rfl (lv_at hl 0 rfl) ?_
  refine lv_iconst (v := 3) hx hb dX2_toss_46 (by decide) ?_
  have hPc := hP.sub (ws' := [(mo, .inr (2, [.int 0, .ref bL, .ref bT, .int (nI n), .ref bK, .ref bF, .ref bS, .ref bB, .int co, .int pl, .int st, .int jo, .int cn, .int ii, .int fi, .int fe, .ref bU])), (bK, .inl (cI, 60, .inl K)), (bF, .inl (cI, 60, .inl F)), (bS, .inl (cI, 60, .inl S)), (bB, .inl (cZ, 60, .inl B)), (bL, .inl (cI, 4, .inl L)), (bT, .inl (cI, 4, .inl T)), (bU, .inl (cI, 6, .inl U))]) [0, 1, 2, 3, 4, 5, 6, 7] rfl
  have hDc := hD.sub (ws' := [(mo, .inr (2, [.int 0, .ref bL, .ref bT, .int (nI n), .ref bK, .ref bF, .ref bS, .ref bB, .int co, .int pl, .int st, .int jo, .int cn, .int ii, .int fi, .int fe, .ref bU])), (bK, .inl (cI, 60, .inl K)), (bF, .inl (cI, 60, .inl F)), (bS, .inl (cI, 60, .inl S)), (bB, .inl (cZ, 60, .inl B)), (bL, .inl (cI, 4, .inl L)), (bT, .inl (cI, 4, .inl T)), (bU, .inl (cI, 6, .inl U))]) [0, 1, 2, 3, 4, 5, 6, 7] (by decide) rfl
  have hKc := hK.sub (tys' := [(cI, .int), (cZ, .boolean)]) [0, 1] rfl
  have hFc := va_free (wc := [(mo, .inr (2, [.int 0, .ref bL, .ref bT, .int (nI n), .ref bK, .ref bF, .ref bS, .ref bB, .int co, .int pl, .int st, .int jo, .int cn, .int ii, .int fi, .int fe, .ref bU])), (bK, .inl (cI, 60, .inl K)), (bF, .inl (cI, 60, .inl F)), (bS, .inl (cI, 60, .inl S)), (bB, .inl (cZ, 60, .inl B)), (bL, .inl (cI, 4, .inl L)), (bT, .inl (cI, 4, .inl T)), (bU, .inl (cI, 6, .inl U))]) hD hS hA [0, 1, 2, 3, 4, 5, 6, 7] rfl
  refine va_calli (va_runV (As := [.int 3]) (rest := []) ⟨hx, hb, hml, hown, hts⟩ (c_X2_fail l dC dI cI cZ mo bK bF bS bB bL bT bU H_3.size L T K F S B U n 0 co pl st jo cn ii fi fe 3) (cwV 1 hts gX2_toss_X2_fail rfl rfl rfl (by decide +kernel) ⟨Nat.le_of_ble_eq_true rfl, Nat.le_of_ble_eq_true rfl⟩) (pc_V hKc hPc hDc (ci := 2) (C := RX2) (T := TX2) (N := 17) (q0 := 0) rfl rfl) rfl rfl hl.1 rfl (lv_room (Nat.le_of_ble_eq_true rfl)) dX2_toss_47 ⟨Nat.le_of_ble_eq_true rfl, Nat.le_of_ble_eq_true rfl⟩) hS (fun q _ h => hFc q h) hFc (fun r_4 u t H_4 locs ht hvm hw hB hz1 hk1 hS => ?_)
  try dsimp only at hw hB
  have hw_4 := hw
  replace hw_4 := hw_4.symm
  subst hw_4
  obtain ⟨hP1, hD1⟩ := hB
  rw [ht] at hP1
  obtain ⟨hP, hD⟩ := va_join (wr := []) (w1 := [(mo, .inr (2, [.int 3, .ref bL, .ref bT, .int (nI n), .ref bK, .ref bF, .ref bS, .ref bB, .int co, .int pl, .int st, .int jo, .int cn, .int ii, .int fi, .int fe, .ref bU])), (bK, .inl (cI, 60, .inl K)), (bF, .inl (cI, 60, .inl F)), (bS, .inl (cI, 60, .inl S)), (bB, .inl (cZ, 60, .inl B)), (bL, .inl (cI, 4, .inl L)), (bT, .inl (cI, 4, .inl T)), (bU, .inl (cI, 6, .inl U))]) hP hD [0, 1, 2, 3, 4, 5, 6, 7] [] rfl rfl (by decide) (by decide) hk1 hFc hP1 hD1
  have hP : va_P (dC, dI) vwCl [(mo, .inr (2, [.int 3, .ref bL, .ref bT, .int (nI n), .ref bK, .ref bF, .ref bS, .ref bB, .int co, .int pl, .int st, .int jo, .int cn, .int ii, .int fi, .int fe, .ref bU])), (bK, .inl (cI, 60, .inl K)), (bF, .inl (cI, 60, .inl F)), (bS, .inl (cI, 60, .inl S)), (bB, .inl (cZ, 60, .inl B)), (bL, .inl (cI, 4, .inl L)), (bT, .inl (cI, 4, .inl T)), (bU, .inl (cI, 6, .inl U))] H_4 := hP
  have hD : va_D A [(mo, .inr (2, [.int 3, .ref bL, .ref bT, .int (nI n), .ref bK, .ref bF, .ref bS, .ref bB, .int co, .int pl, .int st, .int jo, .int cn, .int ii, .int fi, .int fe, .ref bU])), (bK, .inl (cI, 60, .inl K)), (bF, .inl (cI, 60, .inl F)), (bS, .inl (cI, 60, .inl S)), (bB, .inl (cZ, 60, .inl B)), (bL, .inl (cI, 4, .inl L)), (bT, .inl (cI, 4, .inl T)), (bU, .inl (cI, 6, .inl U))] := hD
  refine lv_goto (tgt := 60) hx hb dX2_toss_50 (by decide) ?_
  have hpost : (0 : Int32) = 0 := by
    rfl
  have hP9 := hP.sub (ws' := [(mo, .inr (2, [.int 3, .ref bL, .ref bT, .int (nI n), .ref bK, .ref bF, .ref bS, .ref bB, .int co, .int pl, .int st, .int jo, .int cn, .int ii, .int fi, .int fe, .ref bU])), (bK, .inl (cI, 60, .inl K)), (bF, .inl (cI, 60, .inl F)), (bS, .inl (cI, 60, .inl S)), (bB, .inl (cZ, 60, .inl B)), (bL, .inl (cI, 4, .inl L)), (bT, .inl (cI, 4, .inl T)), (bU, .inl (cI, 6, .inl U))]) [0, 1, 2, 3, 4, 5, 6, 7] rfl
  have hD9 := hD.sub (ws' := [(mo, .inr (2, [.int 3, .ref bL, .ref bT, .int (nI n), .ref bK, .ref bF, .ref bS, .ref bB, .int co, .int pl, .int st, .int jo, .int cn, .int ii, .int fi, .int fe, .ref bU])), (bK, .inl (cI, 60, .inl K)), (bF, .inl (cI, 60, .inl F)), (bS, .inl (cI, 60, .inl S)), (bB, .inl (cZ, 60, .inl B)), (bL, .inl (cI, 4, .inl L)), (bT, .inl (cI, 4, .inl T)), (bU, .inl (cI, 6, .inl U))]) [0, 1, 2, 3, 4, 5, 6, 7] (by decide) rfl
  exact W.iret (v := 0) hx hb hr (fun t ht hW => ⟨⟨0, (), rfl, hpost, by rw [ht]; exact hP9, hD9⟩, hS.F ht⟩) hS.2.2 dX2_toss_60

set_option maxHeartbeats 4000000 in
set_option maxRecDepth 100000 in
theorem c_X2_rest (l : Launch) (dC : Nat → ClassId) (dI : Nat → Nat → Nat) (cI cZ : ClassId) (mo bK bF bS bB bL bT bU : Nat) (sz : Nat) (L : N2I) (T : N2I) (K : N2I) (F : N2I) (S : N2I) (B : N2I) (U : N2I) (n : Nat) (tw : Int32) (co : Int32) (pl : Int32) (st : Int32) (jo : Int32) (cn : Int32) (ii : Int32) (fi : Int32) (fe : Int32) (a : Int32) (h0 : ¬ a < 0) (h1 : ¬ 5 < a) (hn : n < 60) : Met l yX2_rest wsX2_rest ({ frames := 2, cells := 0, slots := 0, locals := 52 } : Room) (va_Pc [.ref mo, .int a] (pc_ (dC, dI) [(cI, .int), (cZ, .boolean)] [(mo, .inr (2, [.int tw, .ref bL, .ref bT, .int (nI n), .ref bK, .ref bF, .ref bS, .ref bB, .int co, .int pl, .int st, .int jo, .int cn, .int ii, .int fi, .int fe, .ref bU])), (bK, .inl (cI, 60, .inl K)), (bF, .inl (cI, 60, .inl F)), (bS, .inl (cI, 60, .inl S)), (bB, .inl (cZ, 60, .inl B)), (bL, .inl (cI, 4, .inl L)), (bT, .inl (cI, 4, .inl T)), (bU, .inl (cI, 6, .inl U))] sz)) (va_Qi (fun (r : Int32) (u : Unit) => r = nI n) (fun (u : Unit) (t : State) => va_P (dC, dI) vwCl [(mo, .inr (2, [.int 0, .ref bL, .ref bT, .int (nI (n + 1)), .ref bK, .ref bF, .ref bS, .ref bB, .int co, .int pl, .int st, .int jo, .int cn, .int ii, .int fi, .int fe, .ref bU])), (bK, .inl (cI, 60, .inl (upd K n 2))), (bF, .inl (cI, 60, .inl (upd F n a))), (bS, .inl (cI, 60, .inl (upd S n 0))), (bB, .inl (cZ, 60, .inl (upd B n 0))), (bL, .inl (cI, 4, .inl L)), (bT, .inl (cI, 4, .inl T)), (bU, .inl (cI, 6, .inl U))] t.heap ∧ va_D (va_A [(mo, .inr (2, [.int tw, .ref bL, .ref bT, .int (nI n), .ref bK, .ref bF, .ref bS, .ref bB, .int co, .int pl, .int st, .int jo, .int cn, .int ii, .int fi, .int fe, .ref bU])), (bK, .inl (cI, 60, .inl K)), (bF, .inl (cI, 60, .inl F)), (bS, .inl (cI, 60, .inl S)), (bB, .inl (cZ, 60, .inl B)), (bL, .inl (cI, 4, .inl L)), (bT, .inl (cI, 4, .inl T)), (bU, .inl (cI, 6, .inl U))] sz) [(mo, .inr (2, [.int 0, .ref bL, .ref bT, .int (nI (n + 1)), .ref bK, .ref bF, .ref bS, .ref bB, .int co, .int pl, .int st, .int jo, .int cn, .int ii, .int fi, .int fe, .ref bU])), (bK, .inl (cI, 60, .inl (upd K n 2))), (bF, .inl (cI, 60, .inl (upd F n a))), (bS, .inl (cI, 60, .inl (upd S n 0))), (bB, .inl (cZ, 60, .inl (upd B n 0))), (bL, .inl (cI, 4, .inl L)), (bT, .inl (cI, 4, .inl T)), (bU, .inl (cI, 6, .inl U))]) (va_A [(mo, .inr (2, [.int tw, .ref bL, .ref bT, .int (nI n), .ref bK, .ref bF, .ref bS, .ref bB, .int co, .int pl, .int st, .int jo, .int cn, .int ii, .int fi, .int fe, .ref bU])), (bK, .inl (cI, 60, .inl K)), (bF, .inl (cI, 60, .inl F)), (bS, .inl (cI, 60, .inl S)), (bB, .inl (cZ, 60, .inl B)), (bL, .inl (cI, 4, .inl L)), (bT, .inl (cI, 4, .inl T)), (bU, .inl (cI, 6, .inl U))] sz)) 0 0 (va_A [(mo, .inr (2, [.int tw, .ref bL, .ref bT, .int (nI n), .ref bK, .ref bF, .ref bS, .ref bB, .int co, .int pl, .int st, .int jo, .int cn, .int ii, .int fi, .int fe, .ref bU])), (bK, .inl (cI, 60, .inl K)), (bF, .inl (cI, 60, .inl F)), (bS, .inl (cI, 60, .inl S)), (bB, .inl (cZ, 60, .inl B)), (bL, .inl (cI, 4, .inl L)), (bT, .inl (cI, 4, .inl T)), (bU, .inl (cI, 6, .inl U))] sz) := by
  refine Met.ofW (cc := cX2_rest) (maxL := 2) (ret := (some .int)) (by decide) rfl ?_
  intro p e s m args below meth c s₁ BB hml hv
  obtain ⟨rfl, hsz, hP, hK, hD0⟩ := hv
  have hx := BB.exec
  have hb := BB.bytes
  have hr := BB.returns
  have hts := atoms_spec (ws := wsX2_rest) BB.pre
  have hown : s.vm.findClass RX2 = some m.cls := findClass_of_methodNamed BB.named
  have hlocks := BB.notSynchronized
  subst hsz
  have hD := hD0.self (sz := s.heap.size)
  generalize hAe : va_A [(mo, .inr (2, [.int tw, .ref bL, .ref bT, .int (nI n), .ref bK, .ref bF, .ref bS, .ref bB, .int co, .int pl, .int st, .int jo, .int cn, .int ii, .int fi, .int fe, .ref bU])), (bK, .inl (cI, 60, .inl K)), (bF, .inl (cI, 60, .inl F)), (bS, .inl (cI, 60, .inl S)), (bB, .inl (cZ, 60, .inl B)), (bL, .inl (cI, 4, .inl L)), (bT, .inl (cI, 4, .inl T)), (bU, .inl (cI, 6, .inl U))] s.heap.size = A at hD ⊢
  have hA : ∀ q : Nat, s.heap.size ≤ q → A q := fun q h => by rw [← hAe]; exact Or.inr h
  have hS : va_S A s.heap s.heap [] := va_S.rf
  have hP : va_P (dC, dI) vwCl [(mo, .inr (2, [.int tw, .ref bL, .ref bT, .int (nI n), .ref bK, .ref bF, .ref bS, .ref bB, .int co, .int pl, .int st, .int jo, .int cn, .int ii, .int fi, .int fe, .ref bU])), (bK, .inl (cI, 60, .inl K)), (bF, .inl (cI, 60, .inl F)), (bS, .inl (cI, 60, .inl S)), (bB, .inl (cZ, 60, .inl B)), (bL, .inl (cI, 4, .inl L)), (bT, .inl (cI, 4, .inl T)), (bU, .inl (cI, 6, .inl U))] s.heap := hP
  have hl := lv_entry ([.ref mo, .int a]) (n := 2) (Nat.le_of_ble_eq_true rfl)
  rw [lg_entry_eq]
  generalize (lg_sl ([.ref mo, .int a]) ++ List.replicate (2 - (lg_sl ([.ref mo, .int a])).length) Slot.unset).toArray = ls at hl ⊢
  have hl : lv_has ls 2 [(0, .ref mo), (1, .int a)] := hl
  have k0 := hts (.fieldLink RX2 32 "KnifeLedgerModel" "thrown" "I") (by decide +kernel)
  have hinX2 : ∀ w ∈ wsX20, w ∈ wsX2_rest := by decide +kernel
  have k2 := hts (.fieldLink RX2 36 "KnifeLedgerModel" "entries" "I") (by decide +kernel)
  refine lv_aload_n hx hb dX2_rest_0 rfl (lv_at hl 0 rfl) ?_
  refine lv_iconst (v := 0) hx hb dX2_rest_1 (by decide) ?_
  refine va_put (D := (dC, dI)) (ci := 2) (v := .int 0) (ty := .int) (C := RX2) (T := TX2) (N := 17) hx hb hts hinX2 tyX2 tyX2_ok nmX2 hown hK hP hD hS 0 rfl rfl 0 (by decide) k0 (fun _ h9 => h9) rfl (by decide +kernel) rfl rfl (Nat.le_of_ble_eq_true rfl) dX2_rest_2 (fun H_1 locs hP hD hS => ?_)
  have hP : va_P (dC, dI) vwCl [(mo, .inr (2, [.int 0, .ref bL, .ref bT, .int (nI n), .ref bK, .ref bF, .ref bS, .ref bB, .int co, .int pl, .int st, .int jo, .int cn, .int ii, .int fi, .int fe, .ref bU])), (bK, .inl (cI, 60, .inl K)), (bF, .inl (cI, 60, .inl F)), (bS, .inl (cI, 60, .inl S)), (bB, .inl (cZ, 60, .inl B)), (bL, .inl (cI, 4, .inl L)), (bT, .inl (cI, 4, .inl T)), (bU, .inl (cI, 6, .inl U))] H_1 := hP
  have hD : va_D A [(mo, .inr (2, [.int 0, .ref bL, .ref bT, .int (nI n), .ref bK, .ref bF, .ref bS, .ref bB, .int co, .int pl, .int st, .int jo, .int cn, .int ii, .int fi, .int fe, .ref bU])), (bK, .inl (cI, 60, .inl K)), (bF, .inl (cI, 60, .inl F)), (bS, .inl (cI, 60, .inl S)), (bB, .inl (cZ, 60, .inl B)), (bL, .inl (cI, 4, .inl L)), (bT, .inl (cI, 4, .inl T)), (bU, .inl (cI, 6, .inl U))] := hD
  refine lv_iload_n hx hb dX2_rest_5 rfl (lv_at hl 1 rfl) ?_
  refine lv_iconst (v := 0) hx hb dX2_rest_6 (by decide) ?_
  refine lv_iconst (v := 5) hx hb dX2_rest_7 (by decide) ?_
  have hPc := hP.sub (ws' := []) [] rfl
  have hDc := hD.sub (ws' := []) [] (by decide) rfl
  have hKc := hK.sub (tys' := []) [] rfl
  have hFc := va_free (wc := []) hD hS hA [] rfl
  refine va_calli (va_runS (As := [.int a, .int 0, .int 5]) (rest := []) ⟨hx, hb, hml, hown, hts⟩ (c_X2_isIn l dC dI H_1.size a 0 5) (va_cwS 3 hts gX2_rest_X2_isIn rfl rfl rfl (by decide +kernel) ⟨Nat.le_of_ble_eq_true rfl, Nat.le_of_ble_eq_true rfl⟩) (pc_S hKc hPc hDc) rfl rfl hl.1 rfl (lv_room (Nat.le_of_ble_eq_true rfl)) dX2_rest_8 ⟨Nat.le_of_ble_eq_true rfl, Nat.le_of_ble_eq_true rfl⟩) hS (fun q _ h => hFc q h) hFc (fun r_2 u t H_2 locs ht hvm hw hB hz1 hk1 hS => ?_)
  try dsimp only at hw hB
  have hw_2 := hw
  replace hw_2 := hw_2.symm
  subst hw_2
  obtain ⟨hP1, hD1⟩ := hB
  rw [ht] at hP1
  obtain ⟨hP, hD⟩ := va_join (wr := [(mo, .inr (2, [.int 0, .ref bL, .ref bT, .int (nI n), .ref bK, .ref bF, .ref bS, .ref bB, .int co, .int pl, .int st, .int jo, .int cn, .int ii, .int fi, .int fe, .ref bU])), (bK, .inl (cI, 60, .inl K)), (bF, .inl (cI, 60, .inl F)), (bS, .inl (cI, 60, .inl S)), (bB, .inl (cZ, 60, .inl B)), (bL, .inl (cI, 4, .inl L)), (bT, .inl (cI, 4, .inl T)), (bU, .inl (cI, 6, .inl U))]) (w1 := []) hP hD [] [0, 1, 2, 3, 4, 5, 6, 7] rfl rfl (by decide) (by decide) hk1 hFc hP1 hD1
  have hP : va_P (dC, dI) vwCl [(mo, .inr (2, [.int 0, .ref bL, .ref bT, .int (nI n), .ref bK, .ref bF, .ref bS, .ref bB, .int co, .int pl, .int st, .int jo, .int cn, .int ii, .int fi, .int fe, .ref bU])), (bK, .inl (cI, 60, .inl K)), (bF, .inl (cI, 60, .inl F)), (bS, .inl (cI, 60, .inl S)), (bB, .inl (cZ, 60, .inl B)), (bL, .inl (cI, 4, .inl L)), (bT, .inl (cI, 4, .inl T)), (bU, .inl (cI, 6, .inl U))] H_2 := hP
  have hD : va_D A [(mo, .inr (2, [.int 0, .ref bL, .ref bT, .int (nI n), .ref bK, .ref bF, .ref bS, .ref bB, .int co, .int pl, .int st, .int jo, .int cn, .int ii, .int fi, .int fe, .ref bU])), (bK, .inl (cI, 60, .inl K)), (bF, .inl (cI, 60, .inl F)), (bS, .inl (cI, 60, .inl S)), (bB, .inl (cZ, 60, .inl B)), (bL, .inl (cI, 4, .inl L)), (bT, .inl (cI, 4, .inl T)), (bU, .inl (cI, 6, .inl U))] := hD
  refine lv_if_ne (tgt := 20) hx hb dX2_rest_11 (by decide) (fun _ => ?_) (fun h9 => absurd h9 (by rw [mIn_ok h0 h1]; exact one_ne))
  refine lv_aload_n hx hb dX2_rest_20 rfl (lv_at hl 0 rfl) ?_
  refine va_get (D := (dC, dI)) (ci := 2) (v := .int (nI n)) (C := RX2) (T := TX2) (N := 17) hx hb hts hinX2 hown hK hP 0 rfl rfl 3 (by decide) k2 (fun _ h9 => h9) rfl dX2_rest_21 ?_
  refine lv_bipush (v := 60) hx hb dX2_rest_24 (by decide) ?_
  refine lv_icmp_ne (tgt := 37) hx hb dX2_rest_26 (by decide) (fun _ => ?_) (fun h9 => absurd h9 (mD_ne hn))
  refine lv_aload_n hx hb dX2_rest_37 rfl (lv_at hl 0 rfl) ?_
  refine lv_iconst (v := 2) hx hb dX2_rest_38 (by decide) ?_
  refine lv_iload_n hx hb dX2_rest_39 rfl (lv_at hl 1 rfl) ?_
  refine lv_iconst (v := 0) hx hb dX2_rest_40 (by decide) ?_
  have hPc := hP.sub (ws' := [(mo, .inr (2, [.int 0, .ref bL, .ref bT, .int (nI n), .ref bK, .ref bF, .ref bS, .ref bB, .int co, .int pl, .int st, .int jo, .int cn, .int ii, .int fi, .int fe, .ref bU])), (bK, .inl (cI, 60, .inl K)), (bF, .inl (cI, 60, .inl F)), (bS, .inl (cI, 60, .inl S)), (bB, .inl (cZ, 60, .inl B)), (bL, .inl (cI, 4, .inl L)), (bT, .inl (cI, 4, .inl T)), (bU, .inl (cI, 6, .inl U))]) [0, 1, 2, 3, 4, 5, 6, 7] rfl
  have hDc := hD.sub (ws' := [(mo, .inr (2, [.int 0, .ref bL, .ref bT, .int (nI n), .ref bK, .ref bF, .ref bS, .ref bB, .int co, .int pl, .int st, .int jo, .int cn, .int ii, .int fi, .int fe, .ref bU])), (bK, .inl (cI, 60, .inl K)), (bF, .inl (cI, 60, .inl F)), (bS, .inl (cI, 60, .inl S)), (bB, .inl (cZ, 60, .inl B)), (bL, .inl (cI, 4, .inl L)), (bT, .inl (cI, 4, .inl T)), (bU, .inl (cI, 6, .inl U))]) [0, 1, 2, 3, 4, 5, 6, 7] (by decide) rfl
  have hKc := hK.sub (tys' := [(cI, .int), (cZ, .boolean)]) [0, 1] rfl
  have hFc := va_free (wc := [(mo, .inr (2, [.int 0, .ref bL, .ref bT, .int (nI n), .ref bK, .ref bF, .ref bS, .ref bB, .int co, .int pl, .int st, .int jo, .int cn, .int ii, .int fi, .int fe, .ref bU])), (bK, .inl (cI, 60, .inl K)), (bF, .inl (cI, 60, .inl F)), (bS, .inl (cI, 60, .inl S)), (bB, .inl (cZ, 60, .inl B)), (bL, .inl (cI, 4, .inl L)), (bT, .inl (cI, 4, .inl T)), (bU, .inl (cI, 6, .inl U))]) hD hS hA [0, 1, 2, 3, 4, 5, 6, 7] rfl
  refine va_calli (va_runV (As := [.int 2, .int a, .int 0]) (rest := []) ⟨hx, hb, hml, hown, hts⟩ (c_X2_write l dC dI cI cZ mo bK bF bS bB bL bT bU H_2.size L T K F S B U n 0 co pl st jo cn ii fi fe 2 a 0 (hn)) (cwV 3 hts gX2_rest_X2_write rfl rfl rfl (by decide +kernel) ⟨Nat.le_of_ble_eq_true rfl, Nat.le_of_ble_eq_true rfl⟩) (pc_V hKc hPc hDc (ci := 2) (C := RX2) (T := TX2) (N := 17) (q0 := 0) rfl rfl) rfl rfl hl.1 rfl (lv_room (Nat.le_of_ble_eq_true rfl)) dX2_rest_41 ⟨Nat.le_of_ble_eq_true rfl, Nat.le_of_ble_eq_true rfl⟩) hS (fun q _ h => hFc q h) hFc (fun r_3 u t H_3 locs ht hvm hw hB hz1 hk1 hS => ?_)
  try dsimp only at hw hB
  have hw_3 := hw
  replace hw_3 := hw_3.symm
  subst hw_3
  obtain ⟨hP1, hD1⟩ := hB
  rw [ht] at hP1
  obtain ⟨hP, hD⟩ := va_join (wr := []) (w1 := [(mo, .inr (2, [.int 0, .ref bL, .ref bT, .int (nI (n + 1)), .ref bK, .ref bF, .ref bS, .ref bB, .int co, .int pl, .int st, .int jo, .int cn, .int ii, .int fi, .int fe, .ref bU])), (bK, .inl (cI, 60, .inl (upd K n 2))), (bF, .inl (cI, 60, .inl (upd F n a))), (bS, .inl (cI, 60, .inl (upd S n 0))), (bB, .inl (cZ, 60, .inl (upd B n 0))), (bL, .inl (cI, 4, .inl L)), (bT, .inl (cI, 4, .inl T)), (bU, .inl (cI, 6, .inl U))]) hP hD [0, 1, 2, 3, 4, 5, 6, 7] [] rfl rfl (by decide) (by decide) hk1 hFc hP1 hD1
  have hP : va_P (dC, dI) vwCl [(mo, .inr (2, [.int 0, .ref bL, .ref bT, .int (nI (n + 1)), .ref bK, .ref bF, .ref bS, .ref bB, .int co, .int pl, .int st, .int jo, .int cn, .int ii, .int fi, .int fe, .ref bU])), (bK, .inl (cI, 60, .inl (upd K n 2))), (bF, .inl (cI, 60, .inl (upd F n a))), (bS, .inl (cI, 60, .inl (upd S n 0))), (bB, .inl (cZ, 60, .inl (upd B n 0))), (bL, .inl (cI, 4, .inl L)), (bT, .inl (cI, 4, .inl T)), (bU, .inl (cI, 6, .inl U))] H_3 := hP
  have hD : va_D A [(mo, .inr (2, [.int 0, .ref bL, .ref bT, .int (nI (n + 1)), .ref bK, .ref bF, .ref bS, .ref bB, .int co, .int pl, .int st, .int jo, .int cn, .int ii, .int fi, .int fe, .ref bU])), (bK, .inl (cI, 60, .inl (upd K n 2))), (bF, .inl (cI, 60, .inl (upd F n a))), (bS, .inl (cI, 60, .inl (upd S n 0))), (bB, .inl (cZ, 60, .inl (upd B n 0))), (bL, .inl (cI, 4, .inl L)), (bT, .inl (cI, 4, .inl T)), (bU, .inl (cI, 6, .inl U))] := hD
  have hpost : (nI n) = nI n := by
    rfl
  have hP9 := hP.sub (ws' := [(mo, .inr (2, [.int 0, .ref bL, .ref bT, .int (nI (n + 1)), .ref bK, .ref bF, .ref bS, .ref bB, .int co, .int pl, .int st, .int jo, .int cn, .int ii, .int fi, .int fe, .ref bU])), (bK, .inl (cI, 60, .inl (upd K n 2))), (bF, .inl (cI, 60, .inl (upd F n a))), (bS, .inl (cI, 60, .inl (upd S n 0))), (bB, .inl (cZ, 60, .inl (upd B n 0))), (bL, .inl (cI, 4, .inl L)), (bT, .inl (cI, 4, .inl T)), (bU, .inl (cI, 6, .inl U))]) [0, 1, 2, 3, 4, 5, 6, 7] rfl
  have hD9 := hD.sub (ws' := [(mo, .inr (2, [.int 0, .ref bL, .ref bT, .int (nI (n + 1)), .ref bK, .ref bF, .ref bS, .ref bB, .int co, .int pl, .int st, .int jo, .int cn, .int ii, .int fi, .int fe, .ref bU])), (bK, .inl (cI, 60, .inl (upd K n 2))), (bF, .inl (cI, 60, .inl (upd F n a))), (bS, .inl (cI, 60, .inl (upd S n 0))), (bB, .inl (cZ, 60, .inl (upd B n 0))), (bL, .inl (cI, 4, .inl L)), (bT, .inl (cI, 4, .inl T)), (bU, .inl (cI, 6, .inl U))]) [0, 1, 2, 3, 4, 5, 6, 7] (by decide) rfl
  exact W.iret (v := nI n) hx hb hr (fun t ht hW => ⟨⟨(nI n), (), rfl, hpost, by rw [ht]; exact hP9, hD9⟩, hS.F ht⟩) hS.2.2 dX2_rest_44

set_option maxHeartbeats 4000000 in
set_option maxRecDepth 100000 in
theorem c_X2_rest_f1 (l : Launch) (dC : Nat → ClassId) (dI : Nat → Nat → Nat) (cI cZ : ClassId) (mo bK bF bS bB bL bT bU : Nat) (sz : Nat) (L : N2I) (T : N2I) (K : N2I) (F : N2I) (S : N2I) (B : N2I) (U : N2I) (n : Nat) (tw : Int32) (co : Int32) (pl : Int32) (st : Int32) (jo : Int32) (cn : Int32) (ii : Int32) (fi : Int32) (fe : Int32) (a : Int32) (hb0 : a < 0 ∨ 5 < a) : Met l yX2_rest wsX2_rest ({ frames := 2, cells := 0, slots := 0, locals := 52 } : Room) (va_Pc [.ref mo, .int a] (pc_ (dC, dI) [(cI, .int), (cZ, .boolean)] [(mo, .inr (2, [.int tw, .ref bL, .ref bT, .int (nI n), .ref bK, .ref bF, .ref bS, .ref bB, .int co, .int pl, .int st, .int jo, .int cn, .int ii, .int fi, .int fe, .ref bU])), (bK, .inl (cI, 60, .inl K)), (bF, .inl (cI, 60, .inl F)), (bS, .inl (cI, 60, .inl S)), (bB, .inl (cZ, 60, .inl B)), (bL, .inl (cI, 4, .inl L)), (bT, .inl (cI, 4, .inl T)), (bU, .inl (cI, 6, .inl U))] sz)) (va_Qi (fun (r : Int32) (u : Unit) => r = 0) (fun (u : Unit) (t : State) => va_P (dC, dI) vwCl [(mo, .inr (2, [.int 1, .ref bL, .ref bT, .int (nI n), .ref bK, .ref bF, .ref bS, .ref bB, .int co, .int pl, .int st, .int jo, .int cn, .int ii, .int fi, .int fe, .ref bU])), (bK, .inl (cI, 60, .inl K)), (bF, .inl (cI, 60, .inl F)), (bS, .inl (cI, 60, .inl S)), (bB, .inl (cZ, 60, .inl B)), (bL, .inl (cI, 4, .inl L)), (bT, .inl (cI, 4, .inl T)), (bU, .inl (cI, 6, .inl U))] t.heap ∧ va_D (va_A [(mo, .inr (2, [.int tw, .ref bL, .ref bT, .int (nI n), .ref bK, .ref bF, .ref bS, .ref bB, .int co, .int pl, .int st, .int jo, .int cn, .int ii, .int fi, .int fe, .ref bU])), (bK, .inl (cI, 60, .inl K)), (bF, .inl (cI, 60, .inl F)), (bS, .inl (cI, 60, .inl S)), (bB, .inl (cZ, 60, .inl B)), (bL, .inl (cI, 4, .inl L)), (bT, .inl (cI, 4, .inl T)), (bU, .inl (cI, 6, .inl U))] sz) [(mo, .inr (2, [.int 1, .ref bL, .ref bT, .int (nI n), .ref bK, .ref bF, .ref bS, .ref bB, .int co, .int pl, .int st, .int jo, .int cn, .int ii, .int fi, .int fe, .ref bU])), (bK, .inl (cI, 60, .inl K)), (bF, .inl (cI, 60, .inl F)), (bS, .inl (cI, 60, .inl S)), (bB, .inl (cZ, 60, .inl B)), (bL, .inl (cI, 4, .inl L)), (bT, .inl (cI, 4, .inl T)), (bU, .inl (cI, 6, .inl U))]) (va_A [(mo, .inr (2, [.int tw, .ref bL, .ref bT, .int (nI n), .ref bK, .ref bF, .ref bS, .ref bB, .int co, .int pl, .int st, .int jo, .int cn, .int ii, .int fi, .int fe, .ref bU])), (bK, .inl (cI, 60, .inl K)), (bF, .inl (cI, 60, .inl F)), (bS, .inl (cI, 60, .inl S)), (bB, .inl (cZ, 60, .inl B)), (bL, .inl (cI, 4, .inl L)), (bT, .inl (cI, 4, .inl T)), (bU, .inl (cI, 6, .inl U))] sz)) 0 0 (va_A [(mo, .inr (2, [.int tw, .ref bL, .ref bT, .int (nI n), .ref bK, .ref bF, .ref bS, .ref bB, .int co, .int pl, .int st, .int jo, .int cn, .int ii, .int fi, .int fe, .ref bU])), (bK, .inl (cI, 60, .inl K)), (bF, .inl (cI, 60, .inl F)), (bS, .inl (cI, 60, .inl S)), (bB, .inl (cZ, 60, .inl B)), (bL, .inl (cI, 4, .inl L)), (bT, .inl (cI, 4, .inl T)), (bU, .inl (cI, 6, .inl U))] sz) := by
  refine Met.ofW (cc := cX2_rest) (maxL := 2) (ret := (some .int)) (by decide) rfl ?_
  intro p e s m args below meth c s₁ BB hml hv
  obtain ⟨rfl, hsz, hP, hK, hD0⟩ := hv
  have hx := BB.exec
  have hb := BB.bytes
  have hr := BB.returns
  have hts := atoms_spec (ws := wsX2_rest) BB.pre
  have hown : s.vm.findClass RX2 = some m.cls := findClass_of_methodNamed BB.named
  have hlocks := BB.notSynchronized
  subst hsz
  have hD := hD0.self (sz := s.heap.size)
  generalize hAe : va_A [(mo, .inr (2, [.int tw, .ref bL, .ref bT, .int (nI n), .ref bK, .ref bF, .ref bS, .ref bB, .int co, .int pl, .int st, .int jo, .int cn, .int ii, .int fi, .int fe, .ref bU])), (bK, .inl (cI, 60, .inl K)), (bF, .inl (cI, 60, .inl F)), (bS, .inl (cI, 60, .inl S)), (bB, .inl (cZ, 60, .inl B)), (bL, .inl (cI, 4, .inl L)), (bT, .inl (cI, 4, .inl T)), (bU, .inl (cI, 6, .inl U))] s.heap.size = A at hD ⊢
  have hA : ∀ q : Nat, s.heap.size ≤ q → A q := fun q h => by rw [← hAe]; exact Or.inr h
  have hS : va_S A s.heap s.heap [] := va_S.rf
  have hP : va_P (dC, dI) vwCl [(mo, .inr (2, [.int tw, .ref bL, .ref bT, .int (nI n), .ref bK, .ref bF, .ref bS, .ref bB, .int co, .int pl, .int st, .int jo, .int cn, .int ii, .int fi, .int fe, .ref bU])), (bK, .inl (cI, 60, .inl K)), (bF, .inl (cI, 60, .inl F)), (bS, .inl (cI, 60, .inl S)), (bB, .inl (cZ, 60, .inl B)), (bL, .inl (cI, 4, .inl L)), (bT, .inl (cI, 4, .inl T)), (bU, .inl (cI, 6, .inl U))] s.heap := hP
  have hl := lv_entry ([.ref mo, .int a]) (n := 2) (Nat.le_of_ble_eq_true rfl)
  rw [lg_entry_eq]
  generalize (lg_sl ([.ref mo, .int a]) ++ List.replicate (2 - (lg_sl ([.ref mo, .int a])).length) Slot.unset).toArray = ls at hl ⊢
  have hl : lv_has ls 2 [(0, .ref mo), (1, .int a)] := hl
  have k0 := hts (.fieldLink RX2 32 "KnifeLedgerModel" "thrown" "I") (by decide +kernel)
  have hinX2 : ∀ w ∈ wsX20, w ∈ wsX2_rest := by decide +kernel
  refine lv_aload_n hx hb dX2_rest_0 rfl (lv_at hl 0 rfl) ?_
  refine lv_iconst (v := 0) hx hb dX2_rest_1 (by decide) ?_
  refine va_put (D := (dC, dI)) (ci := 2) (v := .int 0) (ty := .int) (C := RX2) (T := TX2) (N := 17) hx hb hts hinX2 tyX2 tyX2_ok nmX2 hown hK hP hD hS 0 rfl rfl 0 (by decide) k0 (fun _ h9 => h9) rfl (by decide +kernel) rfl rfl (Nat.le_of_ble_eq_true rfl) dX2_rest_2 (fun H_1 locs hP hD hS => ?_)
  have hP : va_P (dC, dI) vwCl [(mo, .inr (2, [.int 0, .ref bL, .ref bT, .int (nI n), .ref bK, .ref bF, .ref bS, .ref bB, .int co, .int pl, .int st, .int jo, .int cn, .int ii, .int fi, .int fe, .ref bU])), (bK, .inl (cI, 60, .inl K)), (bF, .inl (cI, 60, .inl F)), (bS, .inl (cI, 60, .inl S)), (bB, .inl (cZ, 60, .inl B)), (bL, .inl (cI, 4, .inl L)), (bT, .inl (cI, 4, .inl T)), (bU, .inl (cI, 6, .inl U))] H_1 := hP
  have hD : va_D A [(mo, .inr (2, [.int 0, .ref bL, .ref bT, .int (nI n), .ref bK, .ref bF, .ref bS, .ref bB, .int co, .int pl, .int st, .int jo, .int cn, .int ii, .int fi, .int fe, .ref bU])), (bK, .inl (cI, 60, .inl K)), (bF, .inl (cI, 60, .inl F)), (bS, .inl (cI, 60, .inl S)), (bB, .inl (cZ, 60, .inl B)), (bL, .inl (cI, 4, .inl L)), (bT, .inl (cI, 4, .inl T)), (bU, .inl (cI, 6, .inl U))] := hD
  refine lv_iload_n hx hb dX2_rest_5 rfl (lv_at hl 1 rfl) ?_
  refine lv_iconst (v := 0) hx hb dX2_rest_6 (by decide) ?_
  refine lv_iconst (v := 5) hx hb dX2_rest_7 (by decide) ?_
  have hPc := hP.sub (ws' := []) [] rfl
  have hDc := hD.sub (ws' := []) [] (by decide) rfl
  have hKc := hK.sub (tys' := []) [] rfl
  have hFc := va_free (wc := []) hD hS hA [] rfl
  refine va_calli (va_runS (As := [.int a, .int 0, .int 5]) (rest := []) ⟨hx, hb, hml, hown, hts⟩ (c_X2_isIn l dC dI H_1.size a 0 5) (va_cwS 3 hts gX2_rest_X2_isIn rfl rfl rfl (by decide +kernel) ⟨Nat.le_of_ble_eq_true rfl, Nat.le_of_ble_eq_true rfl⟩) (pc_S hKc hPc hDc) rfl rfl hl.1 rfl (lv_room (Nat.le_of_ble_eq_true rfl)) dX2_rest_8 ⟨Nat.le_of_ble_eq_true rfl, Nat.le_of_ble_eq_true rfl⟩) hS (fun q _ h => hFc q h) hFc (fun r_2 u t H_2 locs ht hvm hw hB hz1 hk1 hS => ?_)
  try dsimp only at hw hB
  have hw_2 := hw
  replace hw_2 := hw_2.symm
  subst hw_2
  obtain ⟨hP1, hD1⟩ := hB
  rw [ht] at hP1
  obtain ⟨hP, hD⟩ := va_join (wr := [(mo, .inr (2, [.int 0, .ref bL, .ref bT, .int (nI n), .ref bK, .ref bF, .ref bS, .ref bB, .int co, .int pl, .int st, .int jo, .int cn, .int ii, .int fi, .int fe, .ref bU])), (bK, .inl (cI, 60, .inl K)), (bF, .inl (cI, 60, .inl F)), (bS, .inl (cI, 60, .inl S)), (bB, .inl (cZ, 60, .inl B)), (bL, .inl (cI, 4, .inl L)), (bT, .inl (cI, 4, .inl T)), (bU, .inl (cI, 6, .inl U))]) (w1 := []) hP hD [] [0, 1, 2, 3, 4, 5, 6, 7] rfl rfl (by decide) (by decide) hk1 hFc hP1 hD1
  have hP : va_P (dC, dI) vwCl [(mo, .inr (2, [.int 0, .ref bL, .ref bT, .int (nI n), .ref bK, .ref bF, .ref bS, .ref bB, .int co, .int pl, .int st, .int jo, .int cn, .int ii, .int fi, .int fe, .ref bU])), (bK, .inl (cI, 60, .inl K)), (bF, .inl (cI, 60, .inl F)), (bS, .inl (cI, 60, .inl S)), (bB, .inl (cZ, 60, .inl B)), (bL, .inl (cI, 4, .inl L)), (bT, .inl (cI, 4, .inl T)), (bU, .inl (cI, 6, .inl U))] H_2 := hP
  have hD : va_D A [(mo, .inr (2, [.int 0, .ref bL, .ref bT, .int (nI n), .ref bK, .ref bF, .ref bS, .ref bB, .int co, .int pl, .int st, .int jo, .int cn, .int ii, .int fi, .int fe, .ref bU])), (bK, .inl (cI, 60, .inl K)), (bF, .inl (cI, 60, .inl F)), (bS, .inl (cI, 60, .inl S)), (bB, .inl (cZ, 60, .inl B)), (bL, .inl (cI, 4, .inl L)), (bT, .inl (cI, 4, .inl T)), (bU, .inl (cI, 6, .inl U))] := hD
  refine lv_if_ne (tgt := 20) hx hb dX2_rest_11 (by decide) (fun h9 => absurd (mIn_bad hb0) h9) (fun _ => ?_)
  refine lv_aload_n hx hb dX2_rest_14 rfl (lv_at hl 0 rfl) ?_
  refine lv_iconst (v := 1) hx hb dX2_rest_15 (by decide) ?_
  have hPc := hP.sub (ws' := [(mo, .inr (2, [.int 0, .ref bL, .ref bT, .int (nI n), .ref bK, .ref bF, .ref bS, .ref bB, .int co, .int pl, .int st, .int jo, .int cn, .int ii, .int fi, .int fe, .ref bU])), (bK, .inl (cI, 60, .inl K)), (bF, .inl (cI, 60, .inl F)), (bS, .inl (cI, 60, .inl S)), (bB, .inl (cZ, 60, .inl B)), (bL, .inl (cI, 4, .inl L)), (bT, .inl (cI, 4, .inl T)), (bU, .inl (cI, 6, .inl U))]) [0, 1, 2, 3, 4, 5, 6, 7] rfl
  have hDc := hD.sub (ws' := [(mo, .inr (2, [.int 0, .ref bL, .ref bT, .int (nI n), .ref bK, .ref bF, .ref bS, .ref bB, .int co, .int pl, .int st, .int jo, .int cn, .int ii, .int fi, .int fe, .ref bU])), (bK, .inl (cI, 60, .inl K)), (bF, .inl (cI, 60, .inl F)), (bS, .inl (cI, 60, .inl S)), (bB, .inl (cZ, 60, .inl B)), (bL, .inl (cI, 4, .inl L)), (bT, .inl (cI, 4, .inl T)), (bU, .inl (cI, 6, .inl U))]) [0, 1, 2, 3, 4, 5, 6, 7] (by decide) rfl
  have hKc := hK.sub (tys' := [(cI, .int), (cZ, .boolean)]) [0, 1] rfl
  have hFc := va_free (wc := [(mo, .inr (2, [.int 0, .ref bL, .ref bT, .int (nI n), .ref bK, .ref bF, .ref bS, .ref bB, .int co, .int pl, .int st, .int jo, .int cn, .int ii, .int fi, .int fe, .ref bU])), (bK, .inl (cI, 60, .inl K)), (bF, .inl (cI, 60, .inl F)), (bS, .inl (cI, 60, .inl S)), (bB, .inl (cZ, 60, .inl B)), (bL, .inl (cI, 4, .inl L)), (bT, .inl (cI, 4, .inl T)), (bU, .inl (cI, 6, .inl U))]) hD hS hA [0, 1, 2, 3, 4, 5, 6, 7] rfl
  refine va_calli (va_runV (As := [.int 1]) (rest := []) ⟨hx, hb, hml, hown, hts⟩ (c_X2_fail l dC dI cI cZ mo bK bF bS bB bL bT bU H_2.size L T K F S B U n 0 co pl st jo cn ii fi fe 1) (cwV 1 hts gX2_rest_X2_fail rfl rfl rfl (by decide +kernel) ⟨Nat.le_of_ble_eq_true rfl, Nat.le_of_ble_eq_true rfl⟩) (pc_V hKc hPc hDc (ci := 2) (C := RX2) (T := TX2) (N := 17) (q0 := 0) rfl rfl) rfl rfl hl.1 rfl (lv_room (Nat.le_of_ble_eq_true rfl)) dX2_rest_16 ⟨Nat.le_of_ble_eq_true rfl, Nat.le_of_ble_eq_true rfl⟩) hS (fun q _ h => hFc q h) hFc (fun r_3 u t H_3 locs ht hvm hw hB hz1 hk1 hS => ?_)
  try dsimp only at hw hB
  have hw_3 := hw
  replace hw_3 := hw_3.symm
  subst hw_3
  obtain ⟨hP1, hD1⟩ := hB
  rw [ht] at hP1
  obtain ⟨hP, hD⟩ := va_join (wr := []) (w1 := [(mo, .inr (2, [.int 1, .ref bL, .ref bT, .int (nI n), .ref bK, .ref bF, .ref bS, .ref bB, .int co, .int pl, .int st, .int jo, .int cn, .int ii, .int fi, .int fe, .ref bU])), (bK, .inl (cI, 60, .inl K)), (bF, .inl (cI, 60, .inl F)), (bS, .inl (cI, 60, .inl S)), (bB, .inl (cZ, 60, .inl B)), (bL, .inl (cI, 4, .inl L)), (bT, .inl (cI, 4, .inl T)), (bU, .inl (cI, 6, .inl U))]) hP hD [0, 1, 2, 3, 4, 5, 6, 7] [] rfl rfl (by decide) (by decide) hk1 hFc hP1 hD1
  have hP : va_P (dC, dI) vwCl [(mo, .inr (2, [.int 1, .ref bL, .ref bT, .int (nI n), .ref bK, .ref bF, .ref bS, .ref bB, .int co, .int pl, .int st, .int jo, .int cn, .int ii, .int fi, .int fe, .ref bU])), (bK, .inl (cI, 60, .inl K)), (bF, .inl (cI, 60, .inl F)), (bS, .inl (cI, 60, .inl S)), (bB, .inl (cZ, 60, .inl B)), (bL, .inl (cI, 4, .inl L)), (bT, .inl (cI, 4, .inl T)), (bU, .inl (cI, 6, .inl U))] H_3 := hP
  have hD : va_D A [(mo, .inr (2, [.int 1, .ref bL, .ref bT, .int (nI n), .ref bK, .ref bF, .ref bS, .ref bB, .int co, .int pl, .int st, .int jo, .int cn, .int ii, .int fi, .int fe, .ref bU])), (bK, .inl (cI, 60, .inl K)), (bF, .inl (cI, 60, .inl F)), (bS, .inl (cI, 60, .inl S)), (bB, .inl (cZ, 60, .inl B)), (bL, .inl (cI, 4, .inl L)), (bT, .inl (cI, 4, .inl T)), (bU, .inl (cI, 6, .inl U))] := hD
  have hpost : (0 : Int32) = 0 := by
    rfl
  have hP9 := hP.sub (ws' := [(mo, .inr (2, [.int 1, .ref bL, .ref bT, .int (nI n), .ref bK, .ref bF, .ref bS, .ref bB, .int co, .int pl, .int st, .int jo, .int cn, .int ii, .int fi, .int fe, .ref bU])), (bK, .inl (cI, 60, .inl K)), (bF, .inl (cI, 60, .inl F)), (bS, .inl (cI, 60, .inl S)), (bB, .inl (cZ, 60, .inl B)), (bL, .inl (cI, 4, .inl L)), (bT, .inl (cI, 4, .inl T)), (bU, .inl (cI, 6, .inl U))]) [0, 1, 2, 3, 4, 5, 6, 7] rfl
  have hD9 := hD.sub (ws' := [(mo, .inr (2, [.int 1, .ref bL, .ref bT, .int (nI n), .ref bK, .ref bF, .ref bS, .ref bB, .int co, .int pl, .int st, .int jo, .int cn, .int ii, .int fi, .int fe, .ref bU])), (bK, .inl (cI, 60, .inl K)), (bF, .inl (cI, 60, .inl F)), (bS, .inl (cI, 60, .inl S)), (bB, .inl (cZ, 60, .inl B)), (bL, .inl (cI, 4, .inl L)), (bT, .inl (cI, 4, .inl T)), (bU, .inl (cI, 6, .inl U))]) [0, 1, 2, 3, 4, 5, 6, 7] (by decide) rfl
  exact W.iret (v := 0) hx hb hr (fun t ht hW => ⟨⟨0, (), rfl, hpost, by rw [ht]; exact hP9, hD9⟩, hS.F ht⟩) hS.2.2 dX2_rest_19

set_option maxHeartbeats 4000000 in
set_option maxRecDepth 100000 in
theorem c_X2_rest_full (l : Launch) (dC : Nat → ClassId) (dI : Nat → Nat → Nat) (cI cZ : ClassId) (mo bK bF bS bB bL bT bU : Nat) (sz : Nat) (L : N2I) (T : N2I) (K : N2I) (F : N2I) (S : N2I) (B : N2I) (U : N2I) (n : Nat) (tw : Int32) (co : Int32) (pl : Int32) (st : Int32) (jo : Int32) (cn : Int32) (ii : Int32) (fi : Int32) (fe : Int32) (a : Int32) (h0 : ¬ a < 0) (h1 : ¬ 5 < a) (hn : n = 60) : Met l yX2_rest wsX2_rest ({ frames := 2, cells := 0, slots := 0, locals := 52 } : Room) (va_Pc [.ref mo, .int a] (pc_ (dC, dI) [(cI, .int), (cZ, .boolean)] [(mo, .inr (2, [.int tw, .ref bL, .ref bT, .int (nI n), .ref bK, .ref bF, .ref bS, .ref bB, .int co, .int pl, .int st, .int jo, .int cn, .int ii, .int fi, .int fe, .ref bU])), (bK, .inl (cI, 60, .inl K)), (bF, .inl (cI, 60, .inl F)), (bS, .inl (cI, 60, .inl S)), (bB, .inl (cZ, 60, .inl B)), (bL, .inl (cI, 4, .inl L)), (bT, .inl (cI, 4, .inl T)), (bU, .inl (cI, 6, .inl U))] sz)) (va_Qi (fun (r : Int32) (u : Unit) => r = 0) (fun (u : Unit) (t : State) => va_P (dC, dI) vwCl [(mo, .inr (2, [.int 2, .ref bL, .ref bT, .int (nI n), .ref bK, .ref bF, .ref bS, .ref bB, .int co, .int pl, .int st, .int jo, .int cn, .int ii, .int fi, .int fe, .ref bU])), (bK, .inl (cI, 60, .inl K)), (bF, .inl (cI, 60, .inl F)), (bS, .inl (cI, 60, .inl S)), (bB, .inl (cZ, 60, .inl B)), (bL, .inl (cI, 4, .inl L)), (bT, .inl (cI, 4, .inl T)), (bU, .inl (cI, 6, .inl U))] t.heap ∧ va_D (va_A [(mo, .inr (2, [.int tw, .ref bL, .ref bT, .int (nI n), .ref bK, .ref bF, .ref bS, .ref bB, .int co, .int pl, .int st, .int jo, .int cn, .int ii, .int fi, .int fe, .ref bU])), (bK, .inl (cI, 60, .inl K)), (bF, .inl (cI, 60, .inl F)), (bS, .inl (cI, 60, .inl S)), (bB, .inl (cZ, 60, .inl B)), (bL, .inl (cI, 4, .inl L)), (bT, .inl (cI, 4, .inl T)), (bU, .inl (cI, 6, .inl U))] sz) [(mo, .inr (2, [.int 2, .ref bL, .ref bT, .int (nI n), .ref bK, .ref bF, .ref bS, .ref bB, .int co, .int pl, .int st, .int jo, .int cn, .int ii, .int fi, .int fe, .ref bU])), (bK, .inl (cI, 60, .inl K)), (bF, .inl (cI, 60, .inl F)), (bS, .inl (cI, 60, .inl S)), (bB, .inl (cZ, 60, .inl B)), (bL, .inl (cI, 4, .inl L)), (bT, .inl (cI, 4, .inl T)), (bU, .inl (cI, 6, .inl U))]) (va_A [(mo, .inr (2, [.int tw, .ref bL, .ref bT, .int (nI n), .ref bK, .ref bF, .ref bS, .ref bB, .int co, .int pl, .int st, .int jo, .int cn, .int ii, .int fi, .int fe, .ref bU])), (bK, .inl (cI, 60, .inl K)), (bF, .inl (cI, 60, .inl F)), (bS, .inl (cI, 60, .inl S)), (bB, .inl (cZ, 60, .inl B)), (bL, .inl (cI, 4, .inl L)), (bT, .inl (cI, 4, .inl T)), (bU, .inl (cI, 6, .inl U))] sz)) 0 0 (va_A [(mo, .inr (2, [.int tw, .ref bL, .ref bT, .int (nI n), .ref bK, .ref bF, .ref bS, .ref bB, .int co, .int pl, .int st, .int jo, .int cn, .int ii, .int fi, .int fe, .ref bU])), (bK, .inl (cI, 60, .inl K)), (bF, .inl (cI, 60, .inl F)), (bS, .inl (cI, 60, .inl S)), (bB, .inl (cZ, 60, .inl B)), (bL, .inl (cI, 4, .inl L)), (bT, .inl (cI, 4, .inl T)), (bU, .inl (cI, 6, .inl U))] sz) := by
  refine Met.ofW (cc := cX2_rest) (maxL := 2) (ret := (some .int)) (by decide) rfl ?_
  intro p e s m args below meth c s₁ BB hml hv
  obtain ⟨rfl, hsz, hP, hK, hD0⟩ := hv
  have hx := BB.exec
  have hb := BB.bytes
  have hr := BB.returns
  have hts := atoms_spec (ws := wsX2_rest) BB.pre
  have hown : s.vm.findClass RX2 = some m.cls := findClass_of_methodNamed BB.named
  have hlocks := BB.notSynchronized
  subst hsz
  have hD := hD0.self (sz := s.heap.size)
  generalize hAe : va_A [(mo, .inr (2, [.int tw, .ref bL, .ref bT, .int (nI n), .ref bK, .ref bF, .ref bS, .ref bB, .int co, .int pl, .int st, .int jo, .int cn, .int ii, .int fi, .int fe, .ref bU])), (bK, .inl (cI, 60, .inl K)), (bF, .inl (cI, 60, .inl F)), (bS, .inl (cI, 60, .inl S)), (bB, .inl (cZ, 60, .inl B)), (bL, .inl (cI, 4, .inl L)), (bT, .inl (cI, 4, .inl T)), (bU, .inl (cI, 6, .inl U))] s.heap.size = A at hD ⊢
  have hA : ∀ q : Nat, s.heap.size ≤ q → A q := fun q h => by rw [← hAe]; exact Or.inr h
  have hS : va_S A s.heap s.heap [] := va_S.rf
  have hP : va_P (dC, dI) vwCl [(mo, .inr (2, [.int tw, .ref bL, .ref bT, .int (nI n), .ref bK, .ref bF, .ref bS, .ref bB, .int co, .int pl, .int st, .int jo, .int cn, .int ii, .int fi, .int fe, .ref bU])), (bK, .inl (cI, 60, .inl K)), (bF, .inl (cI, 60, .inl F)), (bS, .inl (cI, 60, .inl S)), (bB, .inl (cZ, 60, .inl B)), (bL, .inl (cI, 4, .inl L)), (bT, .inl (cI, 4, .inl T)), (bU, .inl (cI, 6, .inl U))] s.heap := hP
  have hl := lv_entry ([.ref mo, .int a]) (n := 2) (Nat.le_of_ble_eq_true rfl)
  rw [lg_entry_eq]
  generalize (lg_sl ([.ref mo, .int a]) ++ List.replicate (2 - (lg_sl ([.ref mo, .int a])).length) Slot.unset).toArray = ls at hl ⊢
  have hl : lv_has ls 2 [(0, .ref mo), (1, .int a)] := hl
  have k0 := hts (.fieldLink RX2 32 "KnifeLedgerModel" "thrown" "I") (by decide +kernel)
  have hinX2 : ∀ w ∈ wsX20, w ∈ wsX2_rest := by decide +kernel
  have k2 := hts (.fieldLink RX2 36 "KnifeLedgerModel" "entries" "I") (by decide +kernel)
  refine lv_aload_n hx hb dX2_rest_0 rfl (lv_at hl 0 rfl) ?_
  refine lv_iconst (v := 0) hx hb dX2_rest_1 (by decide) ?_
  refine va_put (D := (dC, dI)) (ci := 2) (v := .int 0) (ty := .int) (C := RX2) (T := TX2) (N := 17) hx hb hts hinX2 tyX2 tyX2_ok nmX2 hown hK hP hD hS 0 rfl rfl 0 (by decide) k0 (fun _ h9 => h9) rfl (by decide +kernel) rfl rfl (Nat.le_of_ble_eq_true rfl) dX2_rest_2 (fun H_1 locs hP hD hS => ?_)
  have hP : va_P (dC, dI) vwCl [(mo, .inr (2, [.int 0, .ref bL, .ref bT, .int (nI n), .ref bK, .ref bF, .ref bS, .ref bB, .int co, .int pl, .int st, .int jo, .int cn, .int ii, .int fi, .int fe, .ref bU])), (bK, .inl (cI, 60, .inl K)), (bF, .inl (cI, 60, .inl F)), (bS, .inl (cI, 60, .inl S)), (bB, .inl (cZ, 60, .inl B)), (bL, .inl (cI, 4, .inl L)), (bT, .inl (cI, 4, .inl T)), (bU, .inl (cI, 6, .inl U))] H_1 := hP
  have hD : va_D A [(mo, .inr (2, [.int 0, .ref bL, .ref bT, .int (nI n), .ref bK, .ref bF, .ref bS, .ref bB, .int co, .int pl, .int st, .int jo, .int cn, .int ii, .int fi, .int fe, .ref bU])), (bK, .inl (cI, 60, .inl K)), (bF, .inl (cI, 60, .inl F)), (bS, .inl (cI, 60, .inl S)), (bB, .inl (cZ, 60, .inl B)), (bL, .inl (cI, 4, .inl L)), (bT, .inl (cI, 4, .inl T)), (bU, .inl (cI, 6, .inl U))] := hD
  refine lv_iload_n hx hb dX2_rest_5 rfl (lv_at hl 1 rfl) ?_
  refine lv_iconst (v := 0) hx hb dX2_rest_6 (by decide) ?_
  refine lv_iconst (v := 5) hx hb dX2_rest_7 (by decide) ?_
  have hPc := hP.sub (ws' := []) [] rfl
  have hDc := hD.sub (ws' := []) [] (by decide) rfl
  have hKc := hK.sub (tys' := []) [] rfl
  have hFc := va_free (wc := []) hD hS hA [] rfl
  refine va_calli (va_runS (As := [.int a, .int 0, .int 5]) (rest := []) ⟨hx, hb, hml, hown, hts⟩ (c_X2_isIn l dC dI H_1.size a 0 5) (va_cwS 3 hts gX2_rest_X2_isIn rfl rfl rfl (by decide +kernel) ⟨Nat.le_of_ble_eq_true rfl, Nat.le_of_ble_eq_true rfl⟩) (pc_S hKc hPc hDc) rfl rfl hl.1 rfl (lv_room (Nat.le_of_ble_eq_true rfl)) dX2_rest_8 ⟨Nat.le_of_ble_eq_true rfl, Nat.le_of_ble_eq_true rfl⟩) hS (fun q _ h => hFc q h) hFc (fun r_2 u t H_2 locs ht hvm hw hB hz1 hk1 hS => ?_)
  try dsimp only at hw hB
  have hw_2 := hw
  replace hw_2 := hw_2.symm
  subst hw_2
  obtain ⟨hP1, hD1⟩ := hB
  rw [ht] at hP1
  obtain ⟨hP, hD⟩ := va_join (wr := [(mo, .inr (2, [.int 0, .ref bL, .ref bT, .int (nI n), .ref bK, .ref bF, .ref bS, .ref bB, .int co, .int pl, .int st, .int jo, .int cn, .int ii, .int fi, .int fe, .ref bU])), (bK, .inl (cI, 60, .inl K)), (bF, .inl (cI, 60, .inl F)), (bS, .inl (cI, 60, .inl S)), (bB, .inl (cZ, 60, .inl B)), (bL, .inl (cI, 4, .inl L)), (bT, .inl (cI, 4, .inl T)), (bU, .inl (cI, 6, .inl U))]) (w1 := []) hP hD [] [0, 1, 2, 3, 4, 5, 6, 7] rfl rfl (by decide) (by decide) hk1 hFc hP1 hD1
  have hP : va_P (dC, dI) vwCl [(mo, .inr (2, [.int 0, .ref bL, .ref bT, .int (nI n), .ref bK, .ref bF, .ref bS, .ref bB, .int co, .int pl, .int st, .int jo, .int cn, .int ii, .int fi, .int fe, .ref bU])), (bK, .inl (cI, 60, .inl K)), (bF, .inl (cI, 60, .inl F)), (bS, .inl (cI, 60, .inl S)), (bB, .inl (cZ, 60, .inl B)), (bL, .inl (cI, 4, .inl L)), (bT, .inl (cI, 4, .inl T)), (bU, .inl (cI, 6, .inl U))] H_2 := hP
  have hD : va_D A [(mo, .inr (2, [.int 0, .ref bL, .ref bT, .int (nI n), .ref bK, .ref bF, .ref bS, .ref bB, .int co, .int pl, .int st, .int jo, .int cn, .int ii, .int fi, .int fe, .ref bU])), (bK, .inl (cI, 60, .inl K)), (bF, .inl (cI, 60, .inl F)), (bS, .inl (cI, 60, .inl S)), (bB, .inl (cZ, 60, .inl B)), (bL, .inl (cI, 4, .inl L)), (bT, .inl (cI, 4, .inl T)), (bU, .inl (cI, 6, .inl U))] := hD
  refine lv_if_ne (tgt := 20) hx hb dX2_rest_11 (by decide) (fun _ => ?_) (fun h9 => absurd h9 (by rw [mIn_ok h0 h1]; exact one_ne))
  refine lv_aload_n hx hb dX2_rest_20 rfl (lv_at hl 0 rfl) ?_
  refine va_get (D := (dC, dI)) (ci := 2) (v := .int (nI n)) (C := RX2) (T := TX2) (N := 17) hx hb hts hinX2 hown hK hP 0 rfl rfl 3 (by decide) k2 (fun _ h9 => h9) rfl dX2_rest_21 ?_
  refine lv_bipush (v := 60) hx hb dX2_rest_24 (by decide) ?_
  refine lv_icmp_ne (tgt := 37) hx hb dX2_rest_26 (by decide) (fun h9 => absurd (by rw [hn]; rfl) h9) (fun _ => ?_)
  refine lv_aload_n hx hb dX2_rest_29 rfl (lv_at hl 0 rfl) ?_
  refine lv_iconst (v := 2) hx hb dX2_rest_30 (by decide) ?_
  have hPc := hP.sub (ws' := [(mo, .inr (2, [.int 0, .ref bL, .ref bT, .int (nI n), .ref bK, .ref bF, .ref bS, .ref bB, .int co, .int pl, .int st, .int jo, .int cn, .int ii, .int fi, .int fe, .ref bU])), (bK, .inl (cI, 60, .inl K)), (bF, .inl (cI, 60, .inl F)), (bS, .inl (cI, 60, .inl S)), (bB, .inl (cZ, 60, .inl B)), (bL, .inl (cI, 4, .inl L)), (bT, .inl (cI, 4, .inl T)), (bU, .inl (cI, 6, .inl U))]) [0, 1, 2, 3, 4, 5, 6, 7] rfl
  have hDc := hD.sub (ws' := [(mo, .inr (2, [.int 0, .ref bL, .ref bT, .int (nI n), .ref bK, .ref bF, .ref bS, .ref bB, .int co, .int pl, .int st, .int jo, .int cn, .int ii, .int fi, .int fe, .ref bU])), (bK, .inl (cI, 60, .inl K)), (bF, .inl (cI, 60, .inl F)), (bS, .inl (cI, 60, .inl S)), (bB, .inl (cZ, 60, .inl B)), (bL, .inl (cI, 4, .inl L)), (bT, .inl (cI, 4, .inl T)), (bU, .inl (cI, 6, .inl U))]) [0, 1, 2, 3, 4, 5, 6, 7] (by decide) rfl
  have hKc := hK.sub (tys' := [(cI, .int), (cZ, .boolean)]) [0, 1] rfl
  have hFc := va_free (wc := [(mo, .inr (2, [.int 0, .ref bL, .ref bT, .int (nI n), .ref bK, .ref bF, .ref bS, .ref bB, .int co, .int pl, .int st, .int jo, .int cn, .int ii, .int fi, .int fe, .ref bU])), (bK, .inl (cI, 60, .inl K)), (bF, .inl (cI, 60, .inl F)), (bS, .inl (cI, 60, .inl S)), (bB, .inl (cZ, 60, .inl B)), (bL, .inl (cI, 4, .inl L)), (bT, .inl (cI, 4, .inl T)), (bU, .inl (cI, 6, .inl U))]) hD hS hA [0, 1, 2, 3, 4, 5, 6, 7] rfl
  refine va_calli (va_runV (As := [.int 2]) (rest := []) ⟨hx, hb, hml, hown, hts⟩ (c_X2_fail l dC dI cI cZ mo bK bF bS bB bL bT bU H_2.size L T K F S B U n 0 co pl st jo cn ii fi fe 2) (cwV 1 hts gX2_rest_X2_fail rfl rfl rfl (by decide +kernel) ⟨Nat.le_of_ble_eq_true rfl, Nat.le_of_ble_eq_true rfl⟩) (pc_V hKc hPc hDc (ci := 2) (C := RX2) (T := TX2) (N := 17) (q0 := 0) rfl rfl) rfl rfl hl.1 rfl (lv_room (Nat.le_of_ble_eq_true rfl)) dX2_rest_31 ⟨Nat.le_of_ble_eq_true rfl, Nat.le_of_ble_eq_true rfl⟩) hS (fun q _ h => hFc q h) hFc (fun r_3 u t H_3 locs ht hvm hw hB hz1 hk1 hS => ?_)
  try dsimp only at hw hB
  have hw_3 := hw
  replace hw_3 := hw_3.symm
  subst hw_3
  obtain ⟨hP1, hD1⟩ := hB
  rw [ht] at hP1
  obtain ⟨hP, hD⟩ := va_join (wr := []) (w1 := [(mo, .inr (2, [.int 2, .ref bL, .ref bT, .int (nI n), .ref bK, .ref bF, .ref bS, .ref bB, .int co, .int pl, .int st, .int jo, .int cn, .int ii, .int fi, .int fe, .ref bU])), (bK, .inl (cI, 60, .inl K)), (bF, .inl (cI, 60, .inl F)), (bS, .inl (cI, 60, .inl S)), (bB, .inl (cZ, 60, .inl B)), (bL, .inl (cI, 4, .inl L)), (bT, .inl (cI, 4, .inl T)), (bU, .inl (cI, 6, .inl U))]) hP hD [0, 1, 2, 3, 4, 5, 6, 7] [] rfl rfl (by decide) (by decide) hk1 hFc hP1 hD1
  have hP : va_P (dC, dI) vwCl [(mo, .inr (2, [.int 2, .ref bL, .ref bT, .int (nI n), .ref bK, .ref bF, .ref bS, .ref bB, .int co, .int pl, .int st, .int jo, .int cn, .int ii, .int fi, .int fe, .ref bU])), (bK, .inl (cI, 60, .inl K)), (bF, .inl (cI, 60, .inl F)), (bS, .inl (cI, 60, .inl S)), (bB, .inl (cZ, 60, .inl B)), (bL, .inl (cI, 4, .inl L)), (bT, .inl (cI, 4, .inl T)), (bU, .inl (cI, 6, .inl U))] H_3 := hP
  have hD : va_D A [(mo, .inr (2, [.int 2, .ref bL, .ref bT, .int (nI n), .ref bK, .ref bF, .ref bS, .ref bB, .int co, .int pl, .int st, .int jo, .int cn, .int ii, .int fi, .int fe, .ref bU])), (bK, .inl (cI, 60, .inl K)), (bF, .inl (cI, 60, .inl F)), (bS, .inl (cI, 60, .inl S)), (bB, .inl (cZ, 60, .inl B)), (bL, .inl (cI, 4, .inl L)), (bT, .inl (cI, 4, .inl T)), (bU, .inl (cI, 6, .inl U))] := hD
  refine lv_goto (tgt := 44) hx hb dX2_rest_34 (by decide) ?_
  have hpost : (0 : Int32) = 0 := by
    rfl
  have hP9 := hP.sub (ws' := [(mo, .inr (2, [.int 2, .ref bL, .ref bT, .int (nI n), .ref bK, .ref bF, .ref bS, .ref bB, .int co, .int pl, .int st, .int jo, .int cn, .int ii, .int fi, .int fe, .ref bU])), (bK, .inl (cI, 60, .inl K)), (bF, .inl (cI, 60, .inl F)), (bS, .inl (cI, 60, .inl S)), (bB, .inl (cZ, 60, .inl B)), (bL, .inl (cI, 4, .inl L)), (bT, .inl (cI, 4, .inl T)), (bU, .inl (cI, 6, .inl U))]) [0, 1, 2, 3, 4, 5, 6, 7] rfl
  have hD9 := hD.sub (ws' := [(mo, .inr (2, [.int 2, .ref bL, .ref bT, .int (nI n), .ref bK, .ref bF, .ref bS, .ref bB, .int co, .int pl, .int st, .int jo, .int cn, .int ii, .int fi, .int fe, .ref bU])), (bK, .inl (cI, 60, .inl K)), (bF, .inl (cI, 60, .inl F)), (bS, .inl (cI, 60, .inl S)), (bB, .inl (cZ, 60, .inl B)), (bL, .inl (cI, 4, .inl L)), (bT, .inl (cI, 4, .inl T)), (bU, .inl (cI, 6, .inl U))]) [0, 1, 2, 3, 4, 5, 6, 7] (by decide) rfl
  exact W.iret (v := 0) hx hb hr (fun t ht hW => ⟨⟨0, (), rfl, hpost, by rw [ht]; exact hP9, hD9⟩, hS.F ht⟩) hS.2.2 dX2_rest_44

set_option maxHeartbeats 4000000 in
set_option maxRecDepth 100000 in
theorem c_X2_go (l : Launch) (dC : Nat → ClassId) (dI : Nat → Nat → Nat) (cI cZ : ClassId) (mo bK bF bS bB bL bT bU : Nat) (sz : Nat) (L : N2I) (T : N2I) (K : N2I) (F : N2I) (S : N2I) (B : N2I) (U : N2I) (n : Nat) (tw : Int32) (co : Int32) (pl : Int32) (st : Int32) (jo : Int32) (cn : Int32) (ii : Int32) (fi : Int32) (fe : Int32) (a : Int32) (h0 : ¬ a < 0) (h1 : ¬ 3 < a) (hn : n < 60) : Met l yX2_go wsX2_go ({ frames := 2, cells := 0, slots := 0, locals := 52 } : Room) (va_Pc [.ref mo, .int a] (pc_ (dC, dI) [(cI, .int), (cZ, .boolean)] [(mo, .inr (2, [.int tw, .ref bL, .ref bT, .int (nI n), .ref bK, .ref bF, .ref bS, .ref bB, .int co, .int pl, .int st, .int jo, .int cn, .int ii, .int fi, .int fe, .ref bU])), (bK, .inl (cI, 60, .inl K)), (bF, .inl (cI, 60, .inl F)), (bS, .inl (cI, 60, .inl S)), (bB, .inl (cZ, 60, .inl B)), (bL, .inl (cI, 4, .inl L)), (bT, .inl (cI, 4, .inl T)), (bU, .inl (cI, 6, .inl U))] sz)) (va_Qi (fun (r : Int32) (u : Unit) => r = nI n) (fun (u : Unit) (t : State) => va_P (dC, dI) vwCl [(mo, .inr (2, [.int 0, .ref bL, .ref bT, .int (nI (n + 1)), .ref bK, .ref bF, .ref bS, .ref bB, .int co, .int pl, .int st, .int jo, .int cn, .int ii, .int fi, .int fe, .ref bU])), (bK, .inl (cI, 60, .inl (upd K n 3))), (bF, .inl (cI, 60, .inl (upd F n a))), (bS, .inl (cI, 60, .inl (upd S n 0))), (bB, .inl (cZ, 60, .inl (upd B n 0))), (bL, .inl (cI, 4, .inl L)), (bT, .inl (cI, 4, .inl T)), (bU, .inl (cI, 6, .inl U))] t.heap ∧ va_D (va_A [(mo, .inr (2, [.int tw, .ref bL, .ref bT, .int (nI n), .ref bK, .ref bF, .ref bS, .ref bB, .int co, .int pl, .int st, .int jo, .int cn, .int ii, .int fi, .int fe, .ref bU])), (bK, .inl (cI, 60, .inl K)), (bF, .inl (cI, 60, .inl F)), (bS, .inl (cI, 60, .inl S)), (bB, .inl (cZ, 60, .inl B)), (bL, .inl (cI, 4, .inl L)), (bT, .inl (cI, 4, .inl T)), (bU, .inl (cI, 6, .inl U))] sz) [(mo, .inr (2, [.int 0, .ref bL, .ref bT, .int (nI (n + 1)), .ref bK, .ref bF, .ref bS, .ref bB, .int co, .int pl, .int st, .int jo, .int cn, .int ii, .int fi, .int fe, .ref bU])), (bK, .inl (cI, 60, .inl (upd K n 3))), (bF, .inl (cI, 60, .inl (upd F n a))), (bS, .inl (cI, 60, .inl (upd S n 0))), (bB, .inl (cZ, 60, .inl (upd B n 0))), (bL, .inl (cI, 4, .inl L)), (bT, .inl (cI, 4, .inl T)), (bU, .inl (cI, 6, .inl U))]) (va_A [(mo, .inr (2, [.int tw, .ref bL, .ref bT, .int (nI n), .ref bK, .ref bF, .ref bS, .ref bB, .int co, .int pl, .int st, .int jo, .int cn, .int ii, .int fi, .int fe, .ref bU])), (bK, .inl (cI, 60, .inl K)), (bF, .inl (cI, 60, .inl F)), (bS, .inl (cI, 60, .inl S)), (bB, .inl (cZ, 60, .inl B)), (bL, .inl (cI, 4, .inl L)), (bT, .inl (cI, 4, .inl T)), (bU, .inl (cI, 6, .inl U))] sz)) 0 0 (va_A [(mo, .inr (2, [.int tw, .ref bL, .ref bT, .int (nI n), .ref bK, .ref bF, .ref bS, .ref bB, .int co, .int pl, .int st, .int jo, .int cn, .int ii, .int fi, .int fe, .ref bU])), (bK, .inl (cI, 60, .inl K)), (bF, .inl (cI, 60, .inl F)), (bS, .inl (cI, 60, .inl S)), (bB, .inl (cZ, 60, .inl B)), (bL, .inl (cI, 4, .inl L)), (bT, .inl (cI, 4, .inl T)), (bU, .inl (cI, 6, .inl U))] sz) := by
  refine Met.ofW (cc := cX2_go) (maxL := 2) (ret := (some .int)) (by decide) rfl ?_
  intro p e s m args below meth c s₁ BB hml hv
  obtain ⟨rfl, hsz, hP, hK, hD0⟩ := hv
  have hx := BB.exec
  have hb := BB.bytes
  have hr := BB.returns
  have hts := atoms_spec (ws := wsX2_go) BB.pre
  have hown : s.vm.findClass RX2 = some m.cls := findClass_of_methodNamed BB.named
  have hlocks := BB.notSynchronized
  subst hsz
  have hD := hD0.self (sz := s.heap.size)
  generalize hAe : va_A [(mo, .inr (2, [.int tw, .ref bL, .ref bT, .int (nI n), .ref bK, .ref bF, .ref bS, .ref bB, .int co, .int pl, .int st, .int jo, .int cn, .int ii, .int fi, .int fe, .ref bU])), (bK, .inl (cI, 60, .inl K)), (bF, .inl (cI, 60, .inl F)), (bS, .inl (cI, 60, .inl S)), (bB, .inl (cZ, 60, .inl B)), (bL, .inl (cI, 4, .inl L)), (bT, .inl (cI, 4, .inl T)), (bU, .inl (cI, 6, .inl U))] s.heap.size = A at hD ⊢
  have hA : ∀ q : Nat, s.heap.size ≤ q → A q := fun q h => by rw [← hAe]; exact Or.inr h
  have hS : va_S A s.heap s.heap [] := va_S.rf
  have hP : va_P (dC, dI) vwCl [(mo, .inr (2, [.int tw, .ref bL, .ref bT, .int (nI n), .ref bK, .ref bF, .ref bS, .ref bB, .int co, .int pl, .int st, .int jo, .int cn, .int ii, .int fi, .int fe, .ref bU])), (bK, .inl (cI, 60, .inl K)), (bF, .inl (cI, 60, .inl F)), (bS, .inl (cI, 60, .inl S)), (bB, .inl (cZ, 60, .inl B)), (bL, .inl (cI, 4, .inl L)), (bT, .inl (cI, 4, .inl T)), (bU, .inl (cI, 6, .inl U))] s.heap := hP
  have hl := lv_entry ([.ref mo, .int a]) (n := 2) (Nat.le_of_ble_eq_true rfl)
  rw [lg_entry_eq]
  generalize (lg_sl ([.ref mo, .int a]) ++ List.replicate (2 - (lg_sl ([.ref mo, .int a])).length) Slot.unset).toArray = ls at hl ⊢
  have hl : lv_has ls 2 [(0, .ref mo), (1, .int a)] := hl
  have k0 := hts (.fieldLink RX2 32 "KnifeLedgerModel" "thrown" "I") (by decide +kernel)
  have hinX2 : ∀ w ∈ wsX20, w ∈ wsX2_go := by decide +kernel
  have k2 := hts (.fieldLink RX2 36 "KnifeLedgerModel" "entries" "I") (by decide +kernel)
  refine lv_aload_n hx hb dX2_go_0 rfl (lv_at hl 0 rfl) ?_
  refine lv_iconst (v := 0) hx hb dX2_go_1 (by decide) ?_
  refine va_put (D := (dC, dI)) (ci := 2) (v := .int 0) (ty := .int) (C := RX2) (T := TX2) (N := 17) hx hb hts hinX2 tyX2 tyX2_ok nmX2 hown hK hP hD hS 0 rfl rfl 0 (by decide) k0 (fun _ h9 => h9) rfl (by decide +kernel) rfl rfl (Nat.le_of_ble_eq_true rfl) dX2_go_2 (fun H_1 locs hP hD hS => ?_)
  have hP : va_P (dC, dI) vwCl [(mo, .inr (2, [.int 0, .ref bL, .ref bT, .int (nI n), .ref bK, .ref bF, .ref bS, .ref bB, .int co, .int pl, .int st, .int jo, .int cn, .int ii, .int fi, .int fe, .ref bU])), (bK, .inl (cI, 60, .inl K)), (bF, .inl (cI, 60, .inl F)), (bS, .inl (cI, 60, .inl S)), (bB, .inl (cZ, 60, .inl B)), (bL, .inl (cI, 4, .inl L)), (bT, .inl (cI, 4, .inl T)), (bU, .inl (cI, 6, .inl U))] H_1 := hP
  have hD : va_D A [(mo, .inr (2, [.int 0, .ref bL, .ref bT, .int (nI n), .ref bK, .ref bF, .ref bS, .ref bB, .int co, .int pl, .int st, .int jo, .int cn, .int ii, .int fi, .int fe, .ref bU])), (bK, .inl (cI, 60, .inl K)), (bF, .inl (cI, 60, .inl F)), (bS, .inl (cI, 60, .inl S)), (bB, .inl (cZ, 60, .inl B)), (bL, .inl (cI, 4, .inl L)), (bT, .inl (cI, 4, .inl T)), (bU, .inl (cI, 6, .inl U))] := hD
  refine lv_iload_n hx hb dX2_go_5 rfl (lv_at hl 1 rfl) ?_
  refine lv_iconst (v := 0) hx hb dX2_go_6 (by decide) ?_
  refine lv_iconst (v := 3) hx hb dX2_go_7 (by decide) ?_
  have hPc := hP.sub (ws' := []) [] rfl
  have hDc := hD.sub (ws' := []) [] (by decide) rfl
  have hKc := hK.sub (tys' := []) [] rfl
  have hFc := va_free (wc := []) hD hS hA [] rfl
  refine va_calli (va_runS (As := [.int a, .int 0, .int 3]) (rest := []) ⟨hx, hb, hml, hown, hts⟩ (c_X2_isIn l dC dI H_1.size a 0 3) (va_cwS 3 hts gX2_go_X2_isIn rfl rfl rfl (by decide +kernel) ⟨Nat.le_of_ble_eq_true rfl, Nat.le_of_ble_eq_true rfl⟩) (pc_S hKc hPc hDc) rfl rfl hl.1 rfl (lv_room (Nat.le_of_ble_eq_true rfl)) dX2_go_8 ⟨Nat.le_of_ble_eq_true rfl, Nat.le_of_ble_eq_true rfl⟩) hS (fun q _ h => hFc q h) hFc (fun r_2 u t H_2 locs ht hvm hw hB hz1 hk1 hS => ?_)
  try dsimp only at hw hB
  have hw_2 := hw
  replace hw_2 := hw_2.symm
  subst hw_2
  obtain ⟨hP1, hD1⟩ := hB
  rw [ht] at hP1
  obtain ⟨hP, hD⟩ := va_join (wr := [(mo, .inr (2, [.int 0, .ref bL, .ref bT, .int (nI n), .ref bK, .ref bF, .ref bS, .ref bB, .int co, .int pl, .int st, .int jo, .int cn, .int ii, .int fi, .int fe, .ref bU])), (bK, .inl (cI, 60, .inl K)), (bF, .inl (cI, 60, .inl F)), (bS, .inl (cI, 60, .inl S)), (bB, .inl (cZ, 60, .inl B)), (bL, .inl (cI, 4, .inl L)), (bT, .inl (cI, 4, .inl T)), (bU, .inl (cI, 6, .inl U))]) (w1 := []) hP hD [] [0, 1, 2, 3, 4, 5, 6, 7] rfl rfl (by decide) (by decide) hk1 hFc hP1 hD1
  have hP : va_P (dC, dI) vwCl [(mo, .inr (2, [.int 0, .ref bL, .ref bT, .int (nI n), .ref bK, .ref bF, .ref bS, .ref bB, .int co, .int pl, .int st, .int jo, .int cn, .int ii, .int fi, .int fe, .ref bU])), (bK, .inl (cI, 60, .inl K)), (bF, .inl (cI, 60, .inl F)), (bS, .inl (cI, 60, .inl S)), (bB, .inl (cZ, 60, .inl B)), (bL, .inl (cI, 4, .inl L)), (bT, .inl (cI, 4, .inl T)), (bU, .inl (cI, 6, .inl U))] H_2 := hP
  have hD : va_D A [(mo, .inr (2, [.int 0, .ref bL, .ref bT, .int (nI n), .ref bK, .ref bF, .ref bS, .ref bB, .int co, .int pl, .int st, .int jo, .int cn, .int ii, .int fi, .int fe, .ref bU])), (bK, .inl (cI, 60, .inl K)), (bF, .inl (cI, 60, .inl F)), (bS, .inl (cI, 60, .inl S)), (bB, .inl (cZ, 60, .inl B)), (bL, .inl (cI, 4, .inl L)), (bT, .inl (cI, 4, .inl T)), (bU, .inl (cI, 6, .inl U))] := hD
  refine lv_if_ne (tgt := 20) hx hb dX2_go_11 (by decide) (fun _ => ?_) (fun h9 => absurd h9 (by rw [mIn_ok h0 h1]; exact one_ne))
  refine lv_aload_n hx hb dX2_go_20 rfl (lv_at hl 0 rfl) ?_
  refine va_get (D := (dC, dI)) (ci := 2) (v := .int (nI n)) (C := RX2) (T := TX2) (N := 17) hx hb hts hinX2 hown hK hP 0 rfl rfl 3 (by decide) k2 (fun _ h9 => h9) rfl dX2_go_21 ?_
  refine lv_bipush (v := 60) hx hb dX2_go_24 (by decide) ?_
  refine lv_icmp_ne (tgt := 37) hx hb dX2_go_26 (by decide) (fun _ => ?_) (fun h9 => absurd h9 (mD_ne hn))
  refine lv_aload_n hx hb dX2_go_37 rfl (lv_at hl 0 rfl) ?_
  refine lv_iconst (v := 3) hx hb dX2_go_38 (by decide) ?_
  refine lv_iload_n hx hb dX2_go_39 rfl (lv_at hl 1 rfl) ?_
  refine lv_iconst (v := 0) hx hb dX2_go_40 (by decide) ?_
  have hPc := hP.sub (ws' := [(mo, .inr (2, [.int 0, .ref bL, .ref bT, .int (nI n), .ref bK, .ref bF, .ref bS, .ref bB, .int co, .int pl, .int st, .int jo, .int cn, .int ii, .int fi, .int fe, .ref bU])), (bK, .inl (cI, 60, .inl K)), (bF, .inl (cI, 60, .inl F)), (bS, .inl (cI, 60, .inl S)), (bB, .inl (cZ, 60, .inl B)), (bL, .inl (cI, 4, .inl L)), (bT, .inl (cI, 4, .inl T)), (bU, .inl (cI, 6, .inl U))]) [0, 1, 2, 3, 4, 5, 6, 7] rfl
  have hDc := hD.sub (ws' := [(mo, .inr (2, [.int 0, .ref bL, .ref bT, .int (nI n), .ref bK, .ref bF, .ref bS, .ref bB, .int co, .int pl, .int st, .int jo, .int cn, .int ii, .int fi, .int fe, .ref bU])), (bK, .inl (cI, 60, .inl K)), (bF, .inl (cI, 60, .inl F)), (bS, .inl (cI, 60, .inl S)), (bB, .inl (cZ, 60, .inl B)), (bL, .inl (cI, 4, .inl L)), (bT, .inl (cI, 4, .inl T)), (bU, .inl (cI, 6, .inl U))]) [0, 1, 2, 3, 4, 5, 6, 7] (by decide) rfl
  have hKc := hK.sub (tys' := [(cI, .int), (cZ, .boolean)]) [0, 1] rfl
  have hFc := va_free (wc := [(mo, .inr (2, [.int 0, .ref bL, .ref bT, .int (nI n), .ref bK, .ref bF, .ref bS, .ref bB, .int co, .int pl, .int st, .int jo, .int cn, .int ii, .int fi, .int fe, .ref bU])), (bK, .inl (cI, 60, .inl K)), (bF, .inl (cI, 60, .inl F)), (bS, .inl (cI, 60, .inl S)), (bB, .inl (cZ, 60, .inl B)), (bL, .inl (cI, 4, .inl L)), (bT, .inl (cI, 4, .inl T)), (bU, .inl (cI, 6, .inl U))]) hD hS hA [0, 1, 2, 3, 4, 5, 6, 7] rfl
  refine va_calli (va_runV (As := [.int 3, .int a, .int 0]) (rest := []) ⟨hx, hb, hml, hown, hts⟩ (c_X2_write l dC dI cI cZ mo bK bF bS bB bL bT bU H_2.size L T K F S B U n 0 co pl st jo cn ii fi fe 3 a 0 (hn)) (cwV 3 hts gX2_go_X2_write rfl rfl rfl (by decide +kernel) ⟨Nat.le_of_ble_eq_true rfl, Nat.le_of_ble_eq_true rfl⟩) (pc_V hKc hPc hDc (ci := 2) (C := RX2) (T := TX2) (N := 17) (q0 := 0) rfl rfl) rfl rfl hl.1 rfl (lv_room (Nat.le_of_ble_eq_true rfl)) dX2_go_41 ⟨Nat.le_of_ble_eq_true rfl, Nat.le_of_ble_eq_true rfl⟩) hS (fun q _ h => hFc q h) hFc (fun r_3 u t H_3 locs ht hvm hw hB hz1 hk1 hS => ?_)
  try dsimp only at hw hB
  have hw_3 := hw
  replace hw_3 := hw_3.symm
  subst hw_3
  obtain ⟨hP1, hD1⟩ := hB
  rw [ht] at hP1
  obtain ⟨hP, hD⟩ := va_join (wr := []) (w1 := [(mo, .inr (2, [.int 0, .ref bL, .ref bT, .int (nI (n + 1)), .ref bK, .ref bF, .ref bS, .ref bB, .int co, .int pl, .int st, .int jo, .int cn, .int ii, .int fi, .int fe, .ref bU])), (bK, .inl (cI, 60, .inl (upd K n 3))), (bF, .inl (cI, 60, .inl (upd F n a))), (bS, .inl (cI, 60, .inl (upd S n 0))), (bB, .inl (cZ, 60, .inl (upd B n 0))), (bL, .inl (cI, 4, .inl L)), (bT, .inl (cI, 4, .inl T)), (bU, .inl (cI, 6, .inl U))]) hP hD [0, 1, 2, 3, 4, 5, 6, 7] [] rfl rfl (by decide) (by decide) hk1 hFc hP1 hD1
  have hP : va_P (dC, dI) vwCl [(mo, .inr (2, [.int 0, .ref bL, .ref bT, .int (nI (n + 1)), .ref bK, .ref bF, .ref bS, .ref bB, .int co, .int pl, .int st, .int jo, .int cn, .int ii, .int fi, .int fe, .ref bU])), (bK, .inl (cI, 60, .inl (upd K n 3))), (bF, .inl (cI, 60, .inl (upd F n a))), (bS, .inl (cI, 60, .inl (upd S n 0))), (bB, .inl (cZ, 60, .inl (upd B n 0))), (bL, .inl (cI, 4, .inl L)), (bT, .inl (cI, 4, .inl T)), (bU, .inl (cI, 6, .inl U))] H_3 := hP
  have hD : va_D A [(mo, .inr (2, [.int 0, .ref bL, .ref bT, .int (nI (n + 1)), .ref bK, .ref bF, .ref bS, .ref bB, .int co, .int pl, .int st, .int jo, .int cn, .int ii, .int fi, .int fe, .ref bU])), (bK, .inl (cI, 60, .inl (upd K n 3))), (bF, .inl (cI, 60, .inl (upd F n a))), (bS, .inl (cI, 60, .inl (upd S n 0))), (bB, .inl (cZ, 60, .inl (upd B n 0))), (bL, .inl (cI, 4, .inl L)), (bT, .inl (cI, 4, .inl T)), (bU, .inl (cI, 6, .inl U))] := hD
  have hpost : (nI n) = nI n := by
    rfl
  have hP9 := hP.sub (ws' := [(mo, .inr (2, [.int 0, .ref bL, .ref bT, .int (nI (n + 1)), .ref bK, .ref bF, .ref bS, .ref bB, .int co, .int pl, .int st, .int jo, .int cn, .int ii, .int fi, .int fe, .ref bU])), (bK, .inl (cI, 60, .inl (upd K n 3))), (bF, .inl (cI, 60, .inl (upd F n a))), (bS, .inl (cI, 60, .inl (upd S n 0))), (bB, .inl (cZ, 60, .inl (upd B n 0))), (bL, .inl (cI, 4, .inl L)), (bT, .inl (cI, 4, .inl T)), (bU, .inl (cI, 6, .inl U))]) [0, 1, 2, 3, 4, 5, 6, 7] rfl
  have hD9 := hD.sub (ws' := [(mo, .inr (2, [.int 0, .ref bL, .ref bT, .int (nI (n + 1)), .ref bK, .ref bF, .ref bS, .ref bB, .int co, .int pl, .int st, .int jo, .int cn, .int ii, .int fi, .int fe, .ref bU])), (bK, .inl (cI, 60, .inl (upd K n 3))), (bF, .inl (cI, 60, .inl (upd F n a))), (bS, .inl (cI, 60, .inl (upd S n 0))), (bB, .inl (cZ, 60, .inl (upd B n 0))), (bL, .inl (cI, 4, .inl L)), (bT, .inl (cI, 4, .inl T)), (bU, .inl (cI, 6, .inl U))]) [0, 1, 2, 3, 4, 5, 6, 7] (by decide) rfl
  exact W.iret (v := nI n) hx hb hr (fun t ht hW => ⟨⟨(nI n), (), rfl, hpost, by rw [ht]; exact hP9, hD9⟩, hS.F ht⟩) hS.2.2 dX2_go_44

set_option maxHeartbeats 4000000 in
set_option maxRecDepth 100000 in
theorem c_X2_go_f1 (l : Launch) (dC : Nat → ClassId) (dI : Nat → Nat → Nat) (cI cZ : ClassId) (mo bK bF bS bB bL bT bU : Nat) (sz : Nat) (L : N2I) (T : N2I) (K : N2I) (F : N2I) (S : N2I) (B : N2I) (U : N2I) (n : Nat) (tw : Int32) (co : Int32) (pl : Int32) (st : Int32) (jo : Int32) (cn : Int32) (ii : Int32) (fi : Int32) (fe : Int32) (a : Int32) (hb0 : a < 0 ∨ 3 < a) : Met l yX2_go wsX2_go ({ frames := 2, cells := 0, slots := 0, locals := 52 } : Room) (va_Pc [.ref mo, .int a] (pc_ (dC, dI) [(cI, .int), (cZ, .boolean)] [(mo, .inr (2, [.int tw, .ref bL, .ref bT, .int (nI n), .ref bK, .ref bF, .ref bS, .ref bB, .int co, .int pl, .int st, .int jo, .int cn, .int ii, .int fi, .int fe, .ref bU])), (bK, .inl (cI, 60, .inl K)), (bF, .inl (cI, 60, .inl F)), (bS, .inl (cI, 60, .inl S)), (bB, .inl (cZ, 60, .inl B)), (bL, .inl (cI, 4, .inl L)), (bT, .inl (cI, 4, .inl T)), (bU, .inl (cI, 6, .inl U))] sz)) (va_Qi (fun (r : Int32) (u : Unit) => r = 0) (fun (u : Unit) (t : State) => va_P (dC, dI) vwCl [(mo, .inr (2, [.int 1, .ref bL, .ref bT, .int (nI n), .ref bK, .ref bF, .ref bS, .ref bB, .int co, .int pl, .int st, .int jo, .int cn, .int ii, .int fi, .int fe, .ref bU])), (bK, .inl (cI, 60, .inl K)), (bF, .inl (cI, 60, .inl F)), (bS, .inl (cI, 60, .inl S)), (bB, .inl (cZ, 60, .inl B)), (bL, .inl (cI, 4, .inl L)), (bT, .inl (cI, 4, .inl T)), (bU, .inl (cI, 6, .inl U))] t.heap ∧ va_D (va_A [(mo, .inr (2, [.int tw, .ref bL, .ref bT, .int (nI n), .ref bK, .ref bF, .ref bS, .ref bB, .int co, .int pl, .int st, .int jo, .int cn, .int ii, .int fi, .int fe, .ref bU])), (bK, .inl (cI, 60, .inl K)), (bF, .inl (cI, 60, .inl F)), (bS, .inl (cI, 60, .inl S)), (bB, .inl (cZ, 60, .inl B)), (bL, .inl (cI, 4, .inl L)), (bT, .inl (cI, 4, .inl T)), (bU, .inl (cI, 6, .inl U))] sz) [(mo, .inr (2, [.int 1, .ref bL, .ref bT, .int (nI n), .ref bK, .ref bF, .ref bS, .ref bB, .int co, .int pl, .int st, .int jo, .int cn, .int ii, .int fi, .int fe, .ref bU])), (bK, .inl (cI, 60, .inl K)), (bF, .inl (cI, 60, .inl F)), (bS, .inl (cI, 60, .inl S)), (bB, .inl (cZ, 60, .inl B)), (bL, .inl (cI, 4, .inl L)), (bT, .inl (cI, 4, .inl T)), (bU, .inl (cI, 6, .inl U))]) (va_A [(mo, .inr (2, [.int tw, .ref bL, .ref bT, .int (nI n), .ref bK, .ref bF, .ref bS, .ref bB, .int co, .int pl, .int st, .int jo, .int cn, .int ii, .int fi, .int fe, .ref bU])), (bK, .inl (cI, 60, .inl K)), (bF, .inl (cI, 60, .inl F)), (bS, .inl (cI, 60, .inl S)), (bB, .inl (cZ, 60, .inl B)), (bL, .inl (cI, 4, .inl L)), (bT, .inl (cI, 4, .inl T)), (bU, .inl (cI, 6, .inl U))] sz)) 0 0 (va_A [(mo, .inr (2, [.int tw, .ref bL, .ref bT, .int (nI n), .ref bK, .ref bF, .ref bS, .ref bB, .int co, .int pl, .int st, .int jo, .int cn, .int ii, .int fi, .int fe, .ref bU])), (bK, .inl (cI, 60, .inl K)), (bF, .inl (cI, 60, .inl F)), (bS, .inl (cI, 60, .inl S)), (bB, .inl (cZ, 60, .inl B)), (bL, .inl (cI, 4, .inl L)), (bT, .inl (cI, 4, .inl T)), (bU, .inl (cI, 6, .inl U))] sz) := by
  refine Met.ofW (cc := cX2_go) (maxL := 2) (ret := (some .int)) (by decide) rfl ?_
  intro p e s m args below meth c s₁ BB hml hv
  obtain ⟨rfl, hsz, hP, hK, hD0⟩ := hv
  have hx := BB.exec
  have hb := BB.bytes
  have hr := BB.returns
  have hts := atoms_spec (ws := wsX2_go) BB.pre
  have hown : s.vm.findClass RX2 = some m.cls := findClass_of_methodNamed BB.named
  have hlocks := BB.notSynchronized
  subst hsz
  have hD := hD0.self (sz := s.heap.size)
  generalize hAe : va_A [(mo, .inr (2, [.int tw, .ref bL, .ref bT, .int (nI n), .ref bK, .ref bF, .ref bS, .ref bB, .int co, .int pl, .int st, .int jo, .int cn, .int ii, .int fi, .int fe, .ref bU])), (bK, .inl (cI, 60, .inl K)), (bF, .inl (cI, 60, .inl F)), (bS, .inl (cI, 60, .inl S)), (bB, .inl (cZ, 60, .inl B)), (bL, .inl (cI, 4, .inl L)), (bT, .inl (cI, 4, .inl T)), (bU, .inl (cI, 6, .inl U))] s.heap.size = A at hD ⊢
  have hA : ∀ q : Nat, s.heap.size ≤ q → A q := fun q h => by rw [← hAe]; exact Or.inr h
  have hS : va_S A s.heap s.heap [] := va_S.rf
  have hP : va_P (dC, dI) vwCl [(mo, .inr (2, [.int tw, .ref bL, .ref bT, .int (nI n), .ref bK, .ref bF, .ref bS, .ref bB, .int co, .int pl, .int st, .int jo, .int cn, .int ii, .int fi, .int fe, .ref bU])), (bK, .inl (cI, 60, .inl K)), (bF, .inl (cI, 60, .inl F)), (bS, .inl (cI, 60, .inl S)), (bB, .inl (cZ, 60, .inl B)), (bL, .inl (cI, 4, .inl L)), (bT, .inl (cI, 4, .inl T)), (bU, .inl (cI, 6, .inl U))] s.heap := hP
  have hl := lv_entry ([.ref mo, .int a]) (n := 2) (Nat.le_of_ble_eq_true rfl)
  rw [lg_entry_eq]
  generalize (lg_sl ([.ref mo, .int a]) ++ List.replicate (2 - (lg_sl ([.ref mo, .int a])).length) Slot.unset).toArray = ls at hl ⊢
  have hl : lv_has ls 2 [(0, .ref mo), (1, .int a)] := hl
  have k0 := hts (.fieldLink RX2 32 "KnifeLedgerModel" "thrown" "I") (by decide +kernel)
  have hinX2 : ∀ w ∈ wsX20, w ∈ wsX2_go := by decide +kernel
  refine lv_aload_n hx hb dX2_go_0 rfl (lv_at hl 0 rfl) ?_
  refine lv_iconst (v := 0) hx hb dX2_go_1 (by decide) ?_
  refine va_put (D := (dC, dI)) (ci := 2) (v := .int 0) (ty := .int) (C := RX2) (T := TX2) (N := 17) hx hb hts hinX2 tyX2 tyX2_ok nmX2 hown hK hP hD hS 0 rfl rfl 0 (by decide) k0 (fun _ h9 => h9) rfl (by decide +kernel) rfl rfl (Nat.le_of_ble_eq_true rfl) dX2_go_2 (fun H_1 locs hP hD hS => ?_)
  have hP : va_P (dC, dI) vwCl [(mo, .inr (2, [.int 0, .ref bL, .ref bT, .int (nI n), .ref bK, .ref bF, .ref bS, .ref bB, .int co, .int pl, .int st, .int jo, .int cn, .int ii, .int fi, .int fe, .ref bU])), (bK, .inl (cI, 60, .inl K)), (bF, .inl (cI, 60, .inl F)), (bS, .inl (cI, 60, .inl S)), (bB, .inl (cZ, 60, .inl B)), (bL, .inl (cI, 4, .inl L)), (bT, .inl (cI, 4, .inl T)), (bU, .inl (cI, 6, .inl U))] H_1 := hP
  have hD : va_D A [(mo, .inr (2, [.int 0, .ref bL, .ref bT, .int (nI n), .ref bK, .ref bF, .ref bS, .ref bB, .int co, .int pl, .int st, .int jo, .int cn, .int ii, .int fi, .int fe, .ref bU])), (bK, .inl (cI, 60, .inl K)), (bF, .inl (cI, 60, .inl F)), (bS, .inl (cI, 60, .inl S)), (bB, .inl (cZ, 60, .inl B)), (bL, .inl (cI, 4, .inl L)), (bT, .inl (cI, 4, .inl T)), (bU, .inl (cI, 6, .inl U))] := hD
  refine lv_iload_n hx hb dX2_go_5 rfl (lv_at hl 1 rfl) ?_
  refine lv_iconst (v := 0) hx hb dX2_go_6 (by decide) ?_
  refine lv_iconst (v := 3) hx hb dX2_go_7 (by decide) ?_
  have hPc := hP.sub (ws' := []) [] rfl
  have hDc := hD.sub (ws' := []) [] (by decide) rfl
  have hKc := hK.sub (tys' := []) [] rfl
  have hFc := va_free (wc := []) hD hS hA [] rfl
  refine va_calli (va_runS (As := [.int a, .int 0, .int 3]) (rest := []) ⟨hx, hb, hml, hown, hts⟩ (c_X2_isIn l dC dI H_1.size a 0 3) (va_cwS 3 hts gX2_go_X2_isIn rfl rfl rfl (by decide +kernel) ⟨Nat.le_of_ble_eq_true rfl, Nat.le_of_ble_eq_true rfl⟩) (pc_S hKc hPc hDc) rfl rfl hl.1 rfl (lv_room (Nat.le_of_ble_eq_true rfl)) dX2_go_8 ⟨Nat.le_of_ble_eq_true rfl, Nat.le_of_ble_eq_true rfl⟩) hS (fun q _ h => hFc q h) hFc (fun r_2 u t H_2 locs ht hvm hw hB hz1 hk1 hS => ?_)
  try dsimp only at hw hB
  have hw_2 := hw
  replace hw_2 := hw_2.symm
  subst hw_2
  obtain ⟨hP1, hD1⟩ := hB
  rw [ht] at hP1
  obtain ⟨hP, hD⟩ := va_join (wr := [(mo, .inr (2, [.int 0, .ref bL, .ref bT, .int (nI n), .ref bK, .ref bF, .ref bS, .ref bB, .int co, .int pl, .int st, .int jo, .int cn, .int ii, .int fi, .int fe, .ref bU])), (bK, .inl (cI, 60, .inl K)), (bF, .inl (cI, 60, .inl F)), (bS, .inl (cI, 60, .inl S)), (bB, .inl (cZ, 60, .inl B)), (bL, .inl (cI, 4, .inl L)), (bT, .inl (cI, 4, .inl T)), (bU, .inl (cI, 6, .inl U))]) (w1 := []) hP hD [] [0, 1, 2, 3, 4, 5, 6, 7] rfl rfl (by decide) (by decide) hk1 hFc hP1 hD1
  have hP : va_P (dC, dI) vwCl [(mo, .inr (2, [.int 0, .ref bL, .ref bT, .int (nI n), .ref bK, .ref bF, .ref bS, .ref bB, .int co, .int pl, .int st, .int jo, .int cn, .int ii, .int fi, .int fe, .ref bU])), (bK, .inl (cI, 60, .inl K)), (bF, .inl (cI, 60, .inl F)), (bS, .inl (cI, 60, .inl S)), (bB, .inl (cZ, 60, .inl B)), (bL, .inl (cI, 4, .inl L)), (bT, .inl (cI, 4, .inl T)), (bU, .inl (cI, 6, .inl U))] H_2 := hP
  have hD : va_D A [(mo, .inr (2, [.int 0, .ref bL, .ref bT, .int (nI n), .ref bK, .ref bF, .ref bS, .ref bB, .int co, .int pl, .int st, .int jo, .int cn, .int ii, .int fi, .int fe, .ref bU])), (bK, .inl (cI, 60, .inl K)), (bF, .inl (cI, 60, .inl F)), (bS, .inl (cI, 60, .inl S)), (bB, .inl (cZ, 60, .inl B)), (bL, .inl (cI, 4, .inl L)), (bT, .inl (cI, 4, .inl T)), (bU, .inl (cI, 6, .inl U))] := hD
  refine lv_if_ne (tgt := 20) hx hb dX2_go_11 (by decide) (fun h9 => absurd (mIn_bad hb0) h9) (fun _ => ?_)
  refine lv_aload_n hx hb dX2_go_14 rfl (lv_at hl 0 rfl) ?_
  refine lv_iconst (v := 1) hx hb dX2_go_15 (by decide) ?_
  have hPc := hP.sub (ws' := [(mo, .inr (2, [.int 0, .ref bL, .ref bT, .int (nI n), .ref bK, .ref bF, .ref bS, .ref bB, .int co, .int pl, .int st, .int jo, .int cn, .int ii, .int fi, .int fe, .ref bU])), (bK, .inl (cI, 60, .inl K)), (bF, .inl (cI, 60, .inl F)), (bS, .inl (cI, 60, .inl S)), (bB, .inl (cZ, 60, .inl B)), (bL, .inl (cI, 4, .inl L)), (bT, .inl (cI, 4, .inl T)), (bU, .inl (cI, 6, .inl U))]) [0, 1, 2, 3, 4, 5, 6, 7] rfl
  have hDc := hD.sub (ws' := [(mo, .inr (2, [.int 0, .ref bL, .ref bT, .int (nI n), .ref bK, .ref bF, .ref bS, .ref bB, .int co, .int pl, .int st, .int jo, .int cn, .int ii, .int fi, .int fe, .ref bU])), (bK, .inl (cI, 60, .inl K)), (bF, .inl (cI, 60, .inl F)), (bS, .inl (cI, 60, .inl S)), (bB, .inl (cZ, 60, .inl B)), (bL, .inl (cI, 4, .inl L)), (bT, .inl (cI, 4, .inl T)), (bU, .inl (cI, 6, .inl U))]) [0, 1, 2, 3, 4, 5, 6, 7] (by decide) rfl
  have hKc := hK.sub (tys' := [(cI, .int), (cZ, .boolean)]) [0, 1] rfl
  have hFc := va_free (wc := [(mo, .inr (2, [.int 0, .ref bL, .ref bT, .int (nI n), .ref bK, .ref bF, .ref bS, .ref bB, .int co, .int pl, .int st, .int jo, .int cn, .int ii, .int fi, .int fe, .ref bU])), (bK, .inl (cI, 60, .inl K)), (bF, .inl (cI, 60, .inl F)), (bS, .inl (cI, 60, .inl S)), (bB, .inl (cZ, 60, .inl B)), (bL, .inl (cI, 4, .inl L)), (bT, .inl (cI, 4, .inl T)), (bU, .inl (cI, 6, .inl U))]) hD hS hA [0, 1, 2, 3, 4, 5, 6, 7] rfl
  refine va_calli (va_runV (As := [.int 1]) (rest := []) ⟨hx, hb, hml, hown, hts⟩ (c_X2_fail l dC dI cI cZ mo bK bF bS bB bL bT bU H_2.size L T K F S B U n 0 co pl st jo cn ii fi fe 1) (cwV 1 hts gX2_go_X2_fail rfl rfl rfl (by decide +kernel) ⟨Nat.le_of_ble_eq_true rfl, Nat.le_of_ble_eq_true rfl⟩) (pc_V hKc hPc hDc (ci := 2) (C := RX2) (T := TX2) (N := 17) (q0 := 0) rfl rfl) rfl rfl hl.1 rfl (lv_room (Nat.le_of_ble_eq_true rfl)) dX2_go_16 ⟨Nat.le_of_ble_eq_true rfl, Nat.le_of_ble_eq_true rfl⟩) hS (fun q _ h => hFc q h) hFc (fun r_3 u t H_3 locs ht hvm hw hB hz1 hk1 hS => ?_)
  try dsimp only at hw hB
  have hw_3 := hw
  replace hw_3 := hw_3.symm
  subst hw_3
  obtain ⟨hP1, hD1⟩ := hB
  rw [ht] at hP1
  obtain ⟨hP, hD⟩ := va_join (wr := []) (w1 := [(mo, .inr (2, [.int 1, .ref bL, .ref bT, .int (nI n), .ref bK, .ref bF, .ref bS, .ref bB, .int co, .int pl, .int st, .int jo, .int cn, .int ii, .int fi, .int fe, .ref bU])), (bK, .inl (cI, 60, .inl K)), (bF, .inl (cI, 60, .inl F)), (bS, .inl (cI, 60, .inl S)), (bB, .inl (cZ, 60, .inl B)), (bL, .inl (cI, 4, .inl L)), (bT, .inl (cI, 4, .inl T)), (bU, .inl (cI, 6, .inl U))]) hP hD [0, 1, 2, 3, 4, 5, 6, 7] [] rfl rfl (by decide) (by decide) hk1 hFc hP1 hD1
  have hP : va_P (dC, dI) vwCl [(mo, .inr (2, [.int 1, .ref bL, .ref bT, .int (nI n), .ref bK, .ref bF, .ref bS, .ref bB, .int co, .int pl, .int st, .int jo, .int cn, .int ii, .int fi, .int fe, .ref bU])), (bK, .inl (cI, 60, .inl K)), (bF, .inl (cI, 60, .inl F)), (bS, .inl (cI, 60, .inl S)), (bB, .inl (cZ, 60, .inl B)), (bL, .inl (cI, 4, .inl L)), (bT, .inl (cI, 4, .inl T)), (bU, .inl (cI, 6, .inl U))] H_3 := hP
  have hD : va_D A [(mo, .inr (2, [.int 1, .ref bL, .ref bT, .int (nI n), .ref bK, .ref bF, .ref bS, .ref bB, .int co, .int pl, .int st, .int jo, .int cn, .int ii, .int fi, .int fe, .ref bU])), (bK, .inl (cI, 60, .inl K)), (bF, .inl (cI, 60, .inl F)), (bS, .inl (cI, 60, .inl S)), (bB, .inl (cZ, 60, .inl B)), (bL, .inl (cI, 4, .inl L)), (bT, .inl (cI, 4, .inl T)), (bU, .inl (cI, 6, .inl U))] := hD
  have hpost : (0 : Int32) = 0 := by
    rfl
  have hP9 := hP.sub (ws' := [(mo, .inr (2, [.int 1, .ref bL, .ref bT, .int (nI n), .ref bK, .ref bF, .ref bS, .ref bB, .int co, .int pl, .int st, .int jo, .int cn, .int ii, .int fi, .int fe, .ref bU])), (bK, .inl (cI, 60, .inl K)), (bF, .inl (cI, 60, .inl F)), (bS, .inl (cI, 60, .inl S)), (bB, .inl (cZ, 60, .inl B)), (bL, .inl (cI, 4, .inl L)), (bT, .inl (cI, 4, .inl T)), (bU, .inl (cI, 6, .inl U))]) [0, 1, 2, 3, 4, 5, 6, 7] rfl
  have hD9 := hD.sub (ws' := [(mo, .inr (2, [.int 1, .ref bL, .ref bT, .int (nI n), .ref bK, .ref bF, .ref bS, .ref bB, .int co, .int pl, .int st, .int jo, .int cn, .int ii, .int fi, .int fe, .ref bU])), (bK, .inl (cI, 60, .inl K)), (bF, .inl (cI, 60, .inl F)), (bS, .inl (cI, 60, .inl S)), (bB, .inl (cZ, 60, .inl B)), (bL, .inl (cI, 4, .inl L)), (bT, .inl (cI, 4, .inl T)), (bU, .inl (cI, 6, .inl U))]) [0, 1, 2, 3, 4, 5, 6, 7] (by decide) rfl
  exact W.iret (v := 0) hx hb hr (fun t ht hW => ⟨⟨0, (), rfl, hpost, by rw [ht]; exact hP9, hD9⟩, hS.F ht⟩) hS.2.2 dX2_go_19

set_option maxHeartbeats 4000000 in
set_option maxRecDepth 100000 in
theorem c_X2_go_full (l : Launch) (dC : Nat → ClassId) (dI : Nat → Nat → Nat) (cI cZ : ClassId) (mo bK bF bS bB bL bT bU : Nat) (sz : Nat) (L : N2I) (T : N2I) (K : N2I) (F : N2I) (S : N2I) (B : N2I) (U : N2I) (n : Nat) (tw : Int32) (co : Int32) (pl : Int32) (st : Int32) (jo : Int32) (cn : Int32) (ii : Int32) (fi : Int32) (fe : Int32) (a : Int32) (h0 : ¬ a < 0) (h1 : ¬ 3 < a) (hn : n = 60) : Met l yX2_go wsX2_go ({ frames := 2, cells := 0, slots := 0, locals := 52 } : Room) (va_Pc [.ref mo, .int a] (pc_ (dC, dI) [(cI, .int), (cZ, .boolean)] [(mo, .inr (2, [.int tw, .ref bL, .ref bT, .int (nI n), .ref bK, .ref bF, .ref bS, .ref bB, .int co, .int pl, .int st, .int jo, .int cn, .int ii, .int fi, .int fe, .ref bU])), (bK, .inl (cI, 60, .inl K)), (bF, .inl (cI, 60, .inl F)), (bS, .inl (cI, 60, .inl S)), (bB, .inl (cZ, 60, .inl B)), (bL, .inl (cI, 4, .inl L)), (bT, .inl (cI, 4, .inl T)), (bU, .inl (cI, 6, .inl U))] sz)) (va_Qi (fun (r : Int32) (u : Unit) => r = 0) (fun (u : Unit) (t : State) => va_P (dC, dI) vwCl [(mo, .inr (2, [.int 2, .ref bL, .ref bT, .int (nI n), .ref bK, .ref bF, .ref bS, .ref bB, .int co, .int pl, .int st, .int jo, .int cn, .int ii, .int fi, .int fe, .ref bU])), (bK, .inl (cI, 60, .inl K)), (bF, .inl (cI, 60, .inl F)), (bS, .inl (cI, 60, .inl S)), (bB, .inl (cZ, 60, .inl B)), (bL, .inl (cI, 4, .inl L)), (bT, .inl (cI, 4, .inl T)), (bU, .inl (cI, 6, .inl U))] t.heap ∧ va_D (va_A [(mo, .inr (2, [.int tw, .ref bL, .ref bT, .int (nI n), .ref bK, .ref bF, .ref bS, .ref bB, .int co, .int pl, .int st, .int jo, .int cn, .int ii, .int fi, .int fe, .ref bU])), (bK, .inl (cI, 60, .inl K)), (bF, .inl (cI, 60, .inl F)), (bS, .inl (cI, 60, .inl S)), (bB, .inl (cZ, 60, .inl B)), (bL, .inl (cI, 4, .inl L)), (bT, .inl (cI, 4, .inl T)), (bU, .inl (cI, 6, .inl U))] sz) [(mo, .inr (2, [.int 2, .ref bL, .ref bT, .int (nI n), .ref bK, .ref bF, .ref bS, .ref bB, .int co, .int pl, .int st, .int jo, .int cn, .int ii, .int fi, .int fe, .ref bU])), (bK, .inl (cI, 60, .inl K)), (bF, .inl (cI, 60, .inl F)), (bS, .inl (cI, 60, .inl S)), (bB, .inl (cZ, 60, .inl B)), (bL, .inl (cI, 4, .inl L)), (bT, .inl (cI, 4, .inl T)), (bU, .inl (cI, 6, .inl U))]) (va_A [(mo, .inr (2, [.int tw, .ref bL, .ref bT, .int (nI n), .ref bK, .ref bF, .ref bS, .ref bB, .int co, .int pl, .int st, .int jo, .int cn, .int ii, .int fi, .int fe, .ref bU])), (bK, .inl (cI, 60, .inl K)), (bF, .inl (cI, 60, .inl F)), (bS, .inl (cI, 60, .inl S)), (bB, .inl (cZ, 60, .inl B)), (bL, .inl (cI, 4, .inl L)), (bT, .inl (cI, 4, .inl T)), (bU, .inl (cI, 6, .inl U))] sz)) 0 0 (va_A [(mo, .inr (2, [.int tw, .ref bL, .ref bT, .int (nI n), .ref bK, .ref bF, .ref bS, .ref bB, .int co, .int pl, .int st, .int jo, .int cn, .int ii, .int fi, .int fe, .ref bU])), (bK, .inl (cI, 60, .inl K)), (bF, .inl (cI, 60, .inl F)), (bS, .inl (cI, 60, .inl S)), (bB, .inl (cZ, 60, .inl B)), (bL, .inl (cI, 4, .inl L)), (bT, .inl (cI, 4, .inl T)), (bU, .inl (cI, 6, .inl U))] sz) := by
  refine Met.ofW (cc := cX2_go) (maxL := 2) (ret := (some .int)) (by decide) rfl ?_
  intro p e s m args below meth c s₁ BB hml hv
  obtain ⟨rfl, hsz, hP, hK, hD0⟩ := hv
  have hx := BB.exec
  have hb := BB.bytes
  have hr := BB.returns
  have hts := atoms_spec (ws := wsX2_go) BB.pre
  have hown : s.vm.findClass RX2 = some m.cls := findClass_of_methodNamed BB.named
  have hlocks := BB.notSynchronized
  subst hsz
  have hD := hD0.self (sz := s.heap.size)
  generalize hAe : va_A [(mo, .inr (2, [.int tw, .ref bL, .ref bT, .int (nI n), .ref bK, .ref bF, .ref bS, .ref bB, .int co, .int pl, .int st, .int jo, .int cn, .int ii, .int fi, .int fe, .ref bU])), (bK, .inl (cI, 60, .inl K)), (bF, .inl (cI, 60, .inl F)), (bS, .inl (cI, 60, .inl S)), (bB, .inl (cZ, 60, .inl B)), (bL, .inl (cI, 4, .inl L)), (bT, .inl (cI, 4, .inl T)), (bU, .inl (cI, 6, .inl U))] s.heap.size = A at hD ⊢
  have hA : ∀ q : Nat, s.heap.size ≤ q → A q := fun q h => by rw [← hAe]; exact Or.inr h
  have hS : va_S A s.heap s.heap [] := va_S.rf
  have hP : va_P (dC, dI) vwCl [(mo, .inr (2, [.int tw, .ref bL, .ref bT, .int (nI n), .ref bK, .ref bF, .ref bS, .ref bB, .int co, .int pl, .int st, .int jo, .int cn, .int ii, .int fi, .int fe, .ref bU])), (bK, .inl (cI, 60, .inl K)), (bF, .inl (cI, 60, .inl F)), (bS, .inl (cI, 60, .inl S)), (bB, .inl (cZ, 60, .inl B)), (bL, .inl (cI, 4, .inl L)), (bT, .inl (cI, 4, .inl T)), (bU, .inl (cI, 6, .inl U))] s.heap := hP
  have hl := lv_entry ([.ref mo, .int a]) (n := 2) (Nat.le_of_ble_eq_true rfl)
  rw [lg_entry_eq]
  generalize (lg_sl ([.ref mo, .int a]) ++ List.replicate (2 - (lg_sl ([.ref mo, .int a])).length) Slot.unset).toArray = ls at hl ⊢
  have hl : lv_has ls 2 [(0, .ref mo), (1, .int a)] := hl
  have k0 := hts (.fieldLink RX2 32 "KnifeLedgerModel" "thrown" "I") (by decide +kernel)
  have hinX2 : ∀ w ∈ wsX20, w ∈ wsX2_go := by decide +kernel
  have k2 := hts (.fieldLink RX2 36 "KnifeLedgerModel" "entries" "I") (by decide +kernel)
  refine lv_aload_n hx hb dX2_go_0 rfl (lv_at hl 0 rfl) ?_
  refine lv_iconst (v := 0) hx hb dX2_go_1 (by decide) ?_
  refine va_put (D := (dC, dI)) (ci := 2) (v := .int 0) (ty := .int) (C := RX2) (T := TX2) (N := 17) hx hb hts hinX2 tyX2 tyX2_ok nmX2 hown hK hP hD hS 0 rfl rfl 0 (by decide) k0 (fun _ h9 => h9) rfl (by decide +kernel) rfl rfl (Nat.le_of_ble_eq_true rfl) dX2_go_2 (fun H_1 locs hP hD hS => ?_)
  have hP : va_P (dC, dI) vwCl [(mo, .inr (2, [.int 0, .ref bL, .ref bT, .int (nI n), .ref bK, .ref bF, .ref bS, .ref bB, .int co, .int pl, .int st, .int jo, .int cn, .int ii, .int fi, .int fe, .ref bU])), (bK, .inl (cI, 60, .inl K)), (bF, .inl (cI, 60, .inl F)), (bS, .inl (cI, 60, .inl S)), (bB, .inl (cZ, 60, .inl B)), (bL, .inl (cI, 4, .inl L)), (bT, .inl (cI, 4, .inl T)), (bU, .inl (cI, 6, .inl U))] H_1 := hP
  have hD : va_D A [(mo, .inr (2, [.int 0, .ref bL, .ref bT, .int (nI n), .ref bK, .ref bF, .ref bS, .ref bB, .int co, .int pl, .int st, .int jo, .int cn, .int ii, .int fi, .int fe, .ref bU])), (bK, .inl (cI, 60, .inl K)), (bF, .inl (cI, 60, .inl F)), (bS, .inl (cI, 60, .inl S)), (bB, .inl (cZ, 60, .inl B)), (bL, .inl (cI, 4, .inl L)), (bT, .inl (cI, 4, .inl T)), (bU, .inl (cI, 6, .inl U))] := hD
  refine lv_iload_n hx hb dX2_go_5 rfl (lv_at hl 1 rfl) ?_
  refine lv_iconst (v := 0) hx hb dX2_go_6 (by decide) ?_
  refine lv_iconst (v := 3) hx hb dX2_go_7 (by decide) ?_
  have hPc := hP.sub (ws' := []) [] rfl
  have hDc := hD.sub (ws' := []) [] (by decide) rfl
  have hKc := hK.sub (tys' := []) [] rfl
  have hFc := va_free (wc := []) hD hS hA [] rfl
  refine va_calli (va_runS (As := [.int a, .int 0, .int 3]) (rest := []) ⟨hx, hb, hml, hown, hts⟩ (c_X2_isIn l dC dI H_1.size a 0 3) (va_cwS 3 hts gX2_go_X2_isIn rfl rfl rfl (by decide +kernel) ⟨Nat.le_of_ble_eq_true rfl, Nat.le_of_ble_eq_true rfl⟩) (pc_S hKc hPc hDc) rfl rfl hl.1 rfl (lv_room (Nat.le_of_ble_eq_true rfl)) dX2_go_8 ⟨Nat.le_of_ble_eq_true rfl, Nat.le_of_ble_eq_true rfl⟩) hS (fun q _ h => hFc q h) hFc (fun r_2 u t H_2 locs ht hvm hw hB hz1 hk1 hS => ?_)
  try dsimp only at hw hB
  have hw_2 := hw
  replace hw_2 := hw_2.symm
  subst hw_2
  obtain ⟨hP1, hD1⟩ := hB
  rw [ht] at hP1
  obtain ⟨hP, hD⟩ := va_join (wr := [(mo, .inr (2, [.int 0, .ref bL, .ref bT, .int (nI n), .ref bK, .ref bF, .ref bS, .ref bB, .int co, .int pl, .int st, .int jo, .int cn, .int ii, .int fi, .int fe, .ref bU])), (bK, .inl (cI, 60, .inl K)), (bF, .inl (cI, 60, .inl F)), (bS, .inl (cI, 60, .inl S)), (bB, .inl (cZ, 60, .inl B)), (bL, .inl (cI, 4, .inl L)), (bT, .inl (cI, 4, .inl T)), (bU, .inl (cI, 6, .inl U))]) (w1 := []) hP hD [] [0, 1, 2, 3, 4, 5, 6, 7] rfl rfl (by decide) (by decide) hk1 hFc hP1 hD1
  have hP : va_P (dC, dI) vwCl [(mo, .inr (2, [.int 0, .ref bL, .ref bT, .int (nI n), .ref bK, .ref bF, .ref bS, .ref bB, .int co, .int pl, .int st, .int jo, .int cn, .int ii, .int fi, .int fe, .ref bU])), (bK, .inl (cI, 60, .inl K)), (bF, .inl (cI, 60, .inl F)), (bS, .inl (cI, 60, .inl S)), (bB, .inl (cZ, 60, .inl B)), (bL, .inl (cI, 4, .inl L)), (bT, .inl (cI, 4, .inl T)), (bU, .inl (cI, 6, .inl U))] H_2 := hP
  have hD : va_D A [(mo, .inr (2, [.int 0, .ref bL, .ref bT, .int (nI n), .ref bK, .ref bF, .ref bS, .ref bB, .int co, .int pl, .int st, .int jo, .int cn, .int ii, .int fi, .int fe, .ref bU])), (bK, .inl (cI, 60, .inl K)), (bF, .inl (cI, 60, .inl F)), (bS, .inl (cI, 60, .inl S)), (bB, .inl (cZ, 60, .inl B)), (bL, .inl (cI, 4, .inl L)), (bT, .inl (cI, 4, .inl T)), (bU, .inl (cI, 6, .inl U))] := hD
  refine lv_if_ne (tgt := 20) hx hb dX2_go_11 (by decide) (fun _ => ?_) (fun h9 => absurd h9 (by rw [mIn_ok h0 h1]; exact one_ne))
  refine lv_aload_n hx hb dX2_go_20 rfl (lv_at hl 0 rfl) ?_
  refine va_get (D := (dC, dI)) (ci := 2) (v := .int (nI n)) (C := RX2) (T := TX2) (N := 17) hx hb hts hinX2 hown hK hP 0 rfl rfl 3 (by decide) k2 (fun _ h9 => h9) rfl dX2_go_21 ?_
  refine lv_bipush (v := 60) hx hb dX2_go_24 (by decide) ?_
  refine lv_icmp_ne (tgt := 37) hx hb dX2_go_26 (by decide) (fun h9 => absurd (by rw [hn]; rfl) h9) (fun _ => ?_)
  refine lv_aload_n hx hb dX2_go_29 rfl (lv_at hl 0 rfl) ?_
  refine lv_iconst (v := 2) hx hb dX2_go_30 (by decide) ?_
  have hPc := hP.sub (ws' := [(mo, .inr (2, [.int 0, .ref bL, .ref bT, .int (nI n), .ref bK, .ref bF, .ref bS, .ref bB, .int co, .int pl, .int st, .int jo, .int cn, .int ii, .int fi, .int fe, .ref bU])), (bK, .inl (cI, 60, .inl K)), (bF, .inl (cI, 60, .inl F)), (bS, .inl (cI, 60, .inl S)), (bB, .inl (cZ, 60, .inl B)), (bL, .inl (cI, 4, .inl L)), (bT, .inl (cI, 4, .inl T)), (bU, .inl (cI, 6, .inl U))]) [0, 1, 2, 3, 4, 5, 6, 7] rfl
  have hDc := hD.sub (ws' := [(mo, .inr (2, [.int 0, .ref bL, .ref bT, .int (nI n), .ref bK, .ref bF, .ref bS, .ref bB, .int co, .int pl, .int st, .int jo, .int cn, .int ii, .int fi, .int fe, .ref bU])), (bK, .inl (cI, 60, .inl K)), (bF, .inl (cI, 60, .inl F)), (bS, .inl (cI, 60, .inl S)), (bB, .inl (cZ, 60, .inl B)), (bL, .inl (cI, 4, .inl L)), (bT, .inl (cI, 4, .inl T)), (bU, .inl (cI, 6, .inl U))]) [0, 1, 2, 3, 4, 5, 6, 7] (by decide) rfl
  have hKc := hK.sub (tys' := [(cI, .int), (cZ, .boolean)]) [0, 1] rfl
  have hFc := va_free (wc := [(mo, .inr (2, [.int 0, .ref bL, .ref bT, .int (nI n), .ref bK, .ref bF, .ref bS, .ref bB, .int co, .int pl, .int st, .int jo, .int cn, .int ii, .int fi, .int fe, .ref bU])), (bK, .inl (cI, 60, .inl K)), (bF, .inl (cI, 60, .inl F)), (bS, .inl (cI, 60, .inl S)), (bB, .inl (cZ, 60, .inl B)), (bL, .inl (cI, 4, .inl L)), (bT, .inl (cI, 4, .inl T)), (bU, .inl (cI, 6, .inl U))]) hD hS hA [0, 1, 2, 3, 4, 5, 6, 7] rfl
  refine va_calli (va_runV (As := [.int 2]) (rest := []) ⟨hx, hb, hml, hown, hts⟩ (c_X2_fail l dC dI cI cZ mo bK bF bS bB bL bT bU H_2.size L T K F S B U n 0 co pl st jo cn ii fi fe 2) (cwV 1 hts gX2_go_X2_fail rfl rfl rfl (by decide +kernel) ⟨Nat.le_of_ble_eq_true rfl, Nat.le_of_ble_eq_true rfl⟩) (pc_V hKc hPc hDc (ci := 2) (C := RX2) (T := TX2) (N := 17) (q0 := 0) rfl rfl) rfl rfl hl.1 rfl (lv_room (Nat.le_of_ble_eq_true rfl)) dX2_go_31 ⟨Nat.le_of_ble_eq_true rfl, Nat.le_of_ble_eq_true rfl⟩) hS (fun q _ h => hFc q h) hFc (fun r_3 u t H_3 locs ht hvm hw hB hz1 hk1 hS => ?_)
  try dsimp only at hw hB
  have hw_3 := hw
  replace hw_3 := hw_3.symm
  subst hw_3
  obtain ⟨hP1, hD1⟩ := hB
  rw [ht] at hP1
  obtain ⟨hP, hD⟩ := va_join (wr := []) (w1 := [(mo, .inr (2, [.int 2, .ref bL, .ref bT, .int (nI n), .ref bK, .ref bF, .ref bS, .ref bB, .int co, .int pl, .int st, .int jo, .int cn, .int ii, .int fi, .int fe, .ref bU])), (bK, .inl (cI, 60, .inl K)), (bF, .inl (cI, 60, .inl F)), (bS, .inl (cI, 60, .inl S)), (bB, .inl (cZ, 60, .inl B)), (bL, .inl (cI, 4, .inl L)), (bT, .inl (cI, 4, .inl T)), (bU, .inl (cI, 6, .inl U))]) hP hD [0, 1, 2, 3, 4, 5, 6, 7] [] rfl rfl (by decide) (by decide) hk1 hFc hP1 hD1
  have hP : va_P (dC, dI) vwCl [(mo, .inr (2, [.int 2, .ref bL, .ref bT, .int (nI n), .ref bK, .ref bF, .ref bS, .ref bB, .int co, .int pl, .int st, .int jo, .int cn, .int ii, .int fi, .int fe, .ref bU])), (bK, .inl (cI, 60, .inl K)), (bF, .inl (cI, 60, .inl F)), (bS, .inl (cI, 60, .inl S)), (bB, .inl (cZ, 60, .inl B)), (bL, .inl (cI, 4, .inl L)), (bT, .inl (cI, 4, .inl T)), (bU, .inl (cI, 6, .inl U))] H_3 := hP
  have hD : va_D A [(mo, .inr (2, [.int 2, .ref bL, .ref bT, .int (nI n), .ref bK, .ref bF, .ref bS, .ref bB, .int co, .int pl, .int st, .int jo, .int cn, .int ii, .int fi, .int fe, .ref bU])), (bK, .inl (cI, 60, .inl K)), (bF, .inl (cI, 60, .inl F)), (bS, .inl (cI, 60, .inl S)), (bB, .inl (cZ, 60, .inl B)), (bL, .inl (cI, 4, .inl L)), (bT, .inl (cI, 4, .inl T)), (bU, .inl (cI, 6, .inl U))] := hD
  refine lv_goto (tgt := 44) hx hb dX2_go_34 (by decide) ?_
  have hpost : (0 : Int32) = 0 := by
    rfl
  have hP9 := hP.sub (ws' := [(mo, .inr (2, [.int 2, .ref bL, .ref bT, .int (nI n), .ref bK, .ref bF, .ref bS, .ref bB, .int co, .int pl, .int st, .int jo, .int cn, .int ii, .int fi, .int fe, .ref bU])), (bK, .inl (cI, 60, .inl K)), (bF, .inl (cI, 60, .inl F)), (bS, .inl (cI, 60, .inl S)), (bB, .inl (cZ, 60, .inl B)), (bL, .inl (cI, 4, .inl L)), (bT, .inl (cI, 4, .inl T)), (bU, .inl (cI, 6, .inl U))]) [0, 1, 2, 3, 4, 5, 6, 7] rfl
  have hD9 := hD.sub (ws' := [(mo, .inr (2, [.int 2, .ref bL, .ref bT, .int (nI n), .ref bK, .ref bF, .ref bS, .ref bB, .int co, .int pl, .int st, .int jo, .int cn, .int ii, .int fi, .int fe, .ref bU])), (bK, .inl (cI, 60, .inl K)), (bF, .inl (cI, 60, .inl F)), (bS, .inl (cI, 60, .inl S)), (bB, .inl (cZ, 60, .inl B)), (bL, .inl (cI, 4, .inl L)), (bT, .inl (cI, 4, .inl T)), (bU, .inl (cI, 6, .inl U))]) [0, 1, 2, 3, 4, 5, 6, 7] (by decide) rfl
  exact W.iret (v := 0) hx hb hr (fun t ht hW => ⟨⟨0, (), rfl, hpost, by rw [ht]; exact hP9, hD9⟩, hS.F ht⟩) hS.2.2 dX2_go_44

set_option maxHeartbeats 4000000 in
set_option maxRecDepth 100000 in
theorem c_X2_pay (l : Launch) (dC : Nat → ClassId) (dI : Nat → Nat → Nat) (cI cZ : ClassId) (mo bK bF bS bB bL bT bU : Nat) (sz : Nat) (L : N2I) (T : N2I) (K : N2I) (F : N2I) (S : N2I) (B : N2I) (U : N2I) (n : Nat) (tw : Int32) (co : Int32) (pl : Int32) (st : Int32) (jo : Int32) (cn : Int32) (ii : Int32) (fi : Int32) (fe : Int32) (a : Int32) (b : Int32) (h0 : ¬ a < 0) (h1 : ¬ 5 < a) (h2 : ¬ b < 1) (h3 : ¬ 99 < b) (hn : n < 60) : Met l yX2_pay wsX2_pay ({ frames := 2, cells := 0, slots := 0, locals := 52 } : Room) (va_Pc [.ref mo, .int a, .int b] (pc_ (dC, dI) [(cI, .int), (cZ, .boolean)] [(mo, .inr (2, [.int tw, .ref bL, .ref bT, .int (nI n), .ref bK, .ref bF, .ref bS, .ref bB, .int co, .int pl, .int st, .int jo, .int cn, .int ii, .int fi, .int fe, .ref bU])), (bK, .inl (cI, 60, .inl K)), (bF, .inl (cI, 60, .inl F)), (bS, .inl (cI, 60, .inl S)), (bB, .inl (cZ, 60, .inl B)), (bL, .inl (cI, 4, .inl L)), (bT, .inl (cI, 4, .inl T)), (bU, .inl (cI, 6, .inl U))] sz)) (va_Qi (fun (r : Int32) (u : Unit) => r = nI n) (fun (u : Unit) (t : State) => va_P (dC, dI) vwCl [(mo, .inr (2, [.int 0, .ref bL, .ref bT, .int (nI (n + 1)), .ref bK, .ref bF, .ref bS, .ref bB, .int co, .int pl, .int st, .int jo, .int cn, .int ii, .int fi, .int fe, .ref bU])), (bK, .inl (cI, 60, .inl (upd K n 4))), (bF, .inl (cI, 60, .inl (upd F n a))), (bS, .inl (cI, 60, .inl (upd S n b))), (bB, .inl (cZ, 60, .inl (upd B n 0))), (bL, .inl (cI, 4, .inl L)), (bT, .inl (cI, 4, .inl T)), (bU, .inl (cI, 6, .inl U))] t.heap ∧ va_D (va_A [(mo, .inr (2, [.int tw, .ref bL, .ref bT, .int (nI n), .ref bK, .ref bF, .ref bS, .ref bB, .int co, .int pl, .int st, .int jo, .int cn, .int ii, .int fi, .int fe, .ref bU])), (bK, .inl (cI, 60, .inl K)), (bF, .inl (cI, 60, .inl F)), (bS, .inl (cI, 60, .inl S)), (bB, .inl (cZ, 60, .inl B)), (bL, .inl (cI, 4, .inl L)), (bT, .inl (cI, 4, .inl T)), (bU, .inl (cI, 6, .inl U))] sz) [(mo, .inr (2, [.int 0, .ref bL, .ref bT, .int (nI (n + 1)), .ref bK, .ref bF, .ref bS, .ref bB, .int co, .int pl, .int st, .int jo, .int cn, .int ii, .int fi, .int fe, .ref bU])), (bK, .inl (cI, 60, .inl (upd K n 4))), (bF, .inl (cI, 60, .inl (upd F n a))), (bS, .inl (cI, 60, .inl (upd S n b))), (bB, .inl (cZ, 60, .inl (upd B n 0))), (bL, .inl (cI, 4, .inl L)), (bT, .inl (cI, 4, .inl T)), (bU, .inl (cI, 6, .inl U))]) (va_A [(mo, .inr (2, [.int tw, .ref bL, .ref bT, .int (nI n), .ref bK, .ref bF, .ref bS, .ref bB, .int co, .int pl, .int st, .int jo, .int cn, .int ii, .int fi, .int fe, .ref bU])), (bK, .inl (cI, 60, .inl K)), (bF, .inl (cI, 60, .inl F)), (bS, .inl (cI, 60, .inl S)), (bB, .inl (cZ, 60, .inl B)), (bL, .inl (cI, 4, .inl L)), (bT, .inl (cI, 4, .inl T)), (bU, .inl (cI, 6, .inl U))] sz)) 0 0 (va_A [(mo, .inr (2, [.int tw, .ref bL, .ref bT, .int (nI n), .ref bK, .ref bF, .ref bS, .ref bB, .int co, .int pl, .int st, .int jo, .int cn, .int ii, .int fi, .int fe, .ref bU])), (bK, .inl (cI, 60, .inl K)), (bF, .inl (cI, 60, .inl F)), (bS, .inl (cI, 60, .inl S)), (bB, .inl (cZ, 60, .inl B)), (bL, .inl (cI, 4, .inl L)), (bT, .inl (cI, 4, .inl T)), (bU, .inl (cI, 6, .inl U))] sz) := by
  refine Met.ofW (cc := cX2_pay) (maxL := 3) (ret := (some .int)) (by decide) rfl ?_
  intro p e s m args below meth c s₁ BB hml hv
  obtain ⟨rfl, hsz, hP, hK, hD0⟩ := hv
  have hx := BB.exec
  have hb := BB.bytes
  have hr := BB.returns
  have hts := atoms_spec (ws := wsX2_pay) BB.pre
  have hown : s.vm.findClass RX2 = some m.cls := findClass_of_methodNamed BB.named
  have hlocks := BB.notSynchronized
  subst hsz
  have hD := hD0.self (sz := s.heap.size)
  generalize hAe : va_A [(mo, .inr (2, [.int tw, .ref bL, .ref bT, .int (nI n), .ref bK, .ref bF, .ref bS, .ref bB, .int co, .int pl, .int st, .int jo, .int cn, .int ii, .int fi, .int fe, .ref bU])), (bK, .inl (cI, 60, .inl K)), (bF, .inl (cI, 60, .inl F)), (bS, .inl (cI, 60, .inl S)), (bB, .inl (cZ, 60, .inl B)), (bL, .inl (cI, 4, .inl L)), (bT, .inl (cI, 4, .inl T)), (bU, .inl (cI, 6, .inl U))] s.heap.size = A at hD ⊢
  have hA : ∀ q : Nat, s.heap.size ≤ q → A q := fun q h => by rw [← hAe]; exact Or.inr h
  have hS : va_S A s.heap s.heap [] := va_S.rf
  have hP : va_P (dC, dI) vwCl [(mo, .inr (2, [.int tw, .ref bL, .ref bT, .int (nI n), .ref bK, .ref bF, .ref bS, .ref bB, .int co, .int pl, .int st, .int jo, .int cn, .int ii, .int fi, .int fe, .ref bU])), (bK, .inl (cI, 60, .inl K)), (bF, .inl (cI, 60, .inl F)), (bS, .inl (cI, 60, .inl S)), (bB, .inl (cZ, 60, .inl B)), (bL, .inl (cI, 4, .inl L)), (bT, .inl (cI, 4, .inl T)), (bU, .inl (cI, 6, .inl U))] s.heap := hP
  have hl := lv_entry ([.ref mo, .int a, .int b]) (n := 3) (Nat.le_of_ble_eq_true rfl)
  rw [lg_entry_eq]
  generalize (lg_sl ([.ref mo, .int a, .int b]) ++ List.replicate (3 - (lg_sl ([.ref mo, .int a, .int b])).length) Slot.unset).toArray = ls at hl ⊢
  have hl : lv_has ls 3 [(0, .ref mo), (1, .int a), (2, .int b)] := hl
  have k0 := hts (.fieldLink RX2 32 "KnifeLedgerModel" "thrown" "I") (by decide +kernel)
  have hinX2 : ∀ w ∈ wsX20, w ∈ wsX2_pay := by decide +kernel
  have k2 := hts (.fieldLink RX2 36 "KnifeLedgerModel" "entries" "I") (by decide +kernel)
  refine lv_aload_n hx hb dX2_pay_0 rfl (lv_at hl 0 rfl) ?_
  refine lv_iconst (v := 0) hx hb dX2_pay_1 (by decide) ?_
  refine va_put (D := (dC, dI)) (ci := 2) (v := .int 0) (ty := .int) (C := RX2) (T := TX2) (N := 17) hx hb hts hinX2 tyX2 tyX2_ok nmX2 hown hK hP hD hS 0 rfl rfl 0 (by decide) k0 (fun _ h9 => h9) rfl (by decide +kernel) rfl rfl (Nat.le_of_ble_eq_true rfl) dX2_pay_2 (fun H_1 locs hP hD hS => ?_)
  have hP : va_P (dC, dI) vwCl [(mo, .inr (2, [.int 0, .ref bL, .ref bT, .int (nI n), .ref bK, .ref bF, .ref bS, .ref bB, .int co, .int pl, .int st, .int jo, .int cn, .int ii, .int fi, .int fe, .ref bU])), (bK, .inl (cI, 60, .inl K)), (bF, .inl (cI, 60, .inl F)), (bS, .inl (cI, 60, .inl S)), (bB, .inl (cZ, 60, .inl B)), (bL, .inl (cI, 4, .inl L)), (bT, .inl (cI, 4, .inl T)), (bU, .inl (cI, 6, .inl U))] H_1 := hP
  have hD : va_D A [(mo, .inr (2, [.int 0, .ref bL, .ref bT, .int (nI n), .ref bK, .ref bF, .ref bS, .ref bB, .int co, .int pl, .int st, .int jo, .int cn, .int ii, .int fi, .int fe, .ref bU])), (bK, .inl (cI, 60, .inl K)), (bF, .inl (cI, 60, .inl F)), (bS, .inl (cI, 60, .inl S)), (bB, .inl (cZ, 60, .inl B)), (bL, .inl (cI, 4, .inl L)), (bT, .inl (cI, 4, .inl T)), (bU, .inl (cI, 6, .inl U))] := hD
  refine lv_iload_n hx hb dX2_pay_5 rfl (lv_at hl 1 rfl) ?_
  refine lv_iconst (v := 0) hx hb dX2_pay_6 (by decide) ?_
  refine lv_iconst (v := 5) hx hb dX2_pay_7 (by decide) ?_
  have hPc := hP.sub (ws' := []) [] rfl
  have hDc := hD.sub (ws' := []) [] (by decide) rfl
  have hKc := hK.sub (tys' := []) [] rfl
  have hFc := va_free (wc := []) hD hS hA [] rfl
  refine va_calli (va_runS (As := [.int a, .int 0, .int 5]) (rest := []) ⟨hx, hb, hml, hown, hts⟩ (c_X2_isIn l dC dI H_1.size a 0 5) (va_cwS 3 hts gX2_pay_X2_isIn rfl rfl rfl (by decide +kernel) ⟨Nat.le_of_ble_eq_true rfl, Nat.le_of_ble_eq_true rfl⟩) (pc_S hKc hPc hDc) rfl rfl hl.1 rfl (lv_room (Nat.le_of_ble_eq_true rfl)) dX2_pay_8 ⟨Nat.le_of_ble_eq_true rfl, Nat.le_of_ble_eq_true rfl⟩) hS (fun q _ h => hFc q h) hFc (fun r_2 u t H_2 locs ht hvm hw hB hz1 hk1 hS => ?_)
  try dsimp only at hw hB
  have hw_2 := hw
  replace hw_2 := hw_2.symm
  subst hw_2
  obtain ⟨hP1, hD1⟩ := hB
  rw [ht] at hP1
  obtain ⟨hP, hD⟩ := va_join (wr := [(mo, .inr (2, [.int 0, .ref bL, .ref bT, .int (nI n), .ref bK, .ref bF, .ref bS, .ref bB, .int co, .int pl, .int st, .int jo, .int cn, .int ii, .int fi, .int fe, .ref bU])), (bK, .inl (cI, 60, .inl K)), (bF, .inl (cI, 60, .inl F)), (bS, .inl (cI, 60, .inl S)), (bB, .inl (cZ, 60, .inl B)), (bL, .inl (cI, 4, .inl L)), (bT, .inl (cI, 4, .inl T)), (bU, .inl (cI, 6, .inl U))]) (w1 := []) hP hD [] [0, 1, 2, 3, 4, 5, 6, 7] rfl rfl (by decide) (by decide) hk1 hFc hP1 hD1
  have hP : va_P (dC, dI) vwCl [(mo, .inr (2, [.int 0, .ref bL, .ref bT, .int (nI n), .ref bK, .ref bF, .ref bS, .ref bB, .int co, .int pl, .int st, .int jo, .int cn, .int ii, .int fi, .int fe, .ref bU])), (bK, .inl (cI, 60, .inl K)), (bF, .inl (cI, 60, .inl F)), (bS, .inl (cI, 60, .inl S)), (bB, .inl (cZ, 60, .inl B)), (bL, .inl (cI, 4, .inl L)), (bT, .inl (cI, 4, .inl T)), (bU, .inl (cI, 6, .inl U))] H_2 := hP
  have hD : va_D A [(mo, .inr (2, [.int 0, .ref bL, .ref bT, .int (nI n), .ref bK, .ref bF, .ref bS, .ref bB, .int co, .int pl, .int st, .int jo, .int cn, .int ii, .int fi, .int fe, .ref bU])), (bK, .inl (cI, 60, .inl K)), (bF, .inl (cI, 60, .inl F)), (bS, .inl (cI, 60, .inl S)), (bB, .inl (cZ, 60, .inl B)), (bL, .inl (cI, 4, .inl L)), (bT, .inl (cI, 4, .inl T)), (bU, .inl (cI, 6, .inl U))] := hD
  refine lv_if_ne (tgt := 20) hx hb dX2_pay_11 (by decide) (fun _ => ?_) (fun h9 => absurd h9 (by rw [mIn_ok h0 h1]; exact one_ne))
  refine lv_iload_n hx hb dX2_pay_20 rfl (lv_at hl 2 rfl) ?_
  refine lv_iconst (v := 1) hx hb dX2_pay_21 (by decide) ?_
  refine lv_bipush (v := 99) hx hb dX2_pay_22 (by decide) ?_
  have hPc := hP.sub (ws' := []) [] rfl
  have hDc := hD.sub (ws' := []) [] (by decide) rfl
  have hKc := hK.sub (tys' := []) [] rfl
  have hFc := va_free (wc := []) hD hS hA [] rfl
  refine va_calli (va_runS (As := [.int b, .int 1, .int 99]) (rest := []) ⟨hx, hb, hml, hown, hts⟩ (c_X2_isIn l dC dI H_2.size b 1 99) (va_cwS 3 hts gX2_pay_X2_isIn rfl rfl rfl (by decide +kernel) ⟨Nat.le_of_ble_eq_true rfl, Nat.le_of_ble_eq_true rfl⟩) (pc_S hKc hPc hDc) rfl rfl hl.1 rfl (lv_room (Nat.le_of_ble_eq_true rfl)) dX2_pay_24 ⟨Nat.le_of_ble_eq_true rfl, Nat.le_of_ble_eq_true rfl⟩) hS (fun q _ h => hFc q h) hFc (fun r_3 u t H_3 locs ht hvm hw hB hz1 hk1 hS => ?_)
  try dsimp only at hw hB
  have hw_3 := hw
  replace hw_3 := hw_3.symm
  subst hw_3
  obtain ⟨hP1, hD1⟩ := hB
  rw [ht] at hP1
  obtain ⟨hP, hD⟩ := va_join (wr := [(mo, .inr (2, [.int 0, .ref bL, .ref bT, .int (nI n), .ref bK, .ref bF, .ref bS, .ref bB, .int co, .int pl, .int st, .int jo, .int cn, .int ii, .int fi, .int fe, .ref bU])), (bK, .inl (cI, 60, .inl K)), (bF, .inl (cI, 60, .inl F)), (bS, .inl (cI, 60, .inl S)), (bB, .inl (cZ, 60, .inl B)), (bL, .inl (cI, 4, .inl L)), (bT, .inl (cI, 4, .inl T)), (bU, .inl (cI, 6, .inl U))]) (w1 := []) hP hD [] [0, 1, 2, 3, 4, 5, 6, 7] rfl rfl (by decide) (by decide) hk1 hFc hP1 hD1
  have hP : va_P (dC, dI) vwCl [(mo, .inr (2, [.int 0, .ref bL, .ref bT, .int (nI n), .ref bK, .ref bF, .ref bS, .ref bB, .int co, .int pl, .int st, .int jo, .int cn, .int ii, .int fi, .int fe, .ref bU])), (bK, .inl (cI, 60, .inl K)), (bF, .inl (cI, 60, .inl F)), (bS, .inl (cI, 60, .inl S)), (bB, .inl (cZ, 60, .inl B)), (bL, .inl (cI, 4, .inl L)), (bT, .inl (cI, 4, .inl T)), (bU, .inl (cI, 6, .inl U))] H_3 := hP
  have hD : va_D A [(mo, .inr (2, [.int 0, .ref bL, .ref bT, .int (nI n), .ref bK, .ref bF, .ref bS, .ref bB, .int co, .int pl, .int st, .int jo, .int cn, .int ii, .int fi, .int fe, .ref bU])), (bK, .inl (cI, 60, .inl K)), (bF, .inl (cI, 60, .inl F)), (bS, .inl (cI, 60, .inl S)), (bB, .inl (cZ, 60, .inl B)), (bL, .inl (cI, 4, .inl L)), (bT, .inl (cI, 4, .inl T)), (bU, .inl (cI, 6, .inl U))] := hD
  refine lv_if_ne (tgt := 36) hx hb dX2_pay_27 (by decide) (fun _ => ?_) (fun h9 => absurd h9 (by rw [mIn_ok h2 h3]; exact one_ne))
  refine lv_aload_n hx hb dX2_pay_36 rfl (lv_at hl 0 rfl) ?_
  refine va_get (D := (dC, dI)) (ci := 2) (v := .int (nI n)) (C := RX2) (T := TX2) (N := 17) hx hb hts hinX2 hown hK hP 0 rfl rfl 3 (by decide) k2 (fun _ h9 => h9) rfl dX2_pay_37 ?_
  refine lv_bipush (v := 60) hx hb dX2_pay_40 (by decide) ?_
  refine lv_icmp_ne (tgt := 53) hx hb dX2_pay_42 (by decide) (fun _ => ?_) (fun h9 => absurd h9 (mD_ne hn))
  refine lv_aload_n hx hb dX2_pay_53 rfl (lv_at hl 0 rfl) ?_
  refine lv_iconst (v := 4) hx hb dX2_pay_54 (by decide) ?_
  refine lv_iload_n hx hb dX2_pay_55 rfl (lv_at hl 1 rfl) ?_
  refine lv_iload_n hx hb dX2_pay_56 rfl (lv_at hl 2 rfl) ?_
  have hPc := hP.sub (ws' := [(mo, .inr (2, [.int 0, .ref bL, .ref bT, .int (nI n), .ref bK, .ref bF, .ref bS, .ref bB, .int co, .int pl, .int st, .int jo, .int cn, .int ii, .int fi, .int fe, .ref bU])), (bK, .inl (cI, 60, .inl K)), (bF, .inl (cI, 60, .inl F)), (bS, .inl (cI, 60, .inl S)), (bB, .inl (cZ, 60, .inl B)), (bL, .inl (cI, 4, .inl L)), (bT, .inl (cI, 4, .inl T)), (bU, .inl (cI, 6, .inl U))]) [0, 1, 2, 3, 4, 5, 6, 7] rfl
  have hDc := hD.sub (ws' := [(mo, .inr (2, [.int 0, .ref bL, .ref bT, .int (nI n), .ref bK, .ref bF, .ref bS, .ref bB, .int co, .int pl, .int st, .int jo, .int cn, .int ii, .int fi, .int fe, .ref bU])), (bK, .inl (cI, 60, .inl K)), (bF, .inl (cI, 60, .inl F)), (bS, .inl (cI, 60, .inl S)), (bB, .inl (cZ, 60, .inl B)), (bL, .inl (cI, 4, .inl L)), (bT, .inl (cI, 4, .inl T)), (bU, .inl (cI, 6, .inl U))]) [0, 1, 2, 3, 4, 5, 6, 7] (by decide) rfl
  have hKc := hK.sub (tys' := [(cI, .int), (cZ, .boolean)]) [0, 1] rfl
  have hFc := va_free (wc := [(mo, .inr (2, [.int 0, .ref bL, .ref bT, .int (nI n), .ref bK, .ref bF, .ref bS, .ref bB, .int co, .int pl, .int st, .int jo, .int cn, .int ii, .int fi, .int fe, .ref bU])), (bK, .inl (cI, 60, .inl K)), (bF, .inl (cI, 60, .inl F)), (bS, .inl (cI, 60, .inl S)), (bB, .inl (cZ, 60, .inl B)), (bL, .inl (cI, 4, .inl L)), (bT, .inl (cI, 4, .inl T)), (bU, .inl (cI, 6, .inl U))]) hD hS hA [0, 1, 2, 3, 4, 5, 6, 7] rfl
  refine va_calli (va_runV (As := [.int 4, .int a, .int b]) (rest := []) ⟨hx, hb, hml, hown, hts⟩ (c_X2_write l dC dI cI cZ mo bK bF bS bB bL bT bU H_3.size L T K F S B U n 0 co pl st jo cn ii fi fe 4 a b (hn)) (cwV 3 hts gX2_pay_X2_write rfl rfl rfl (by decide +kernel) ⟨Nat.le_of_ble_eq_true rfl, Nat.le_of_ble_eq_true rfl⟩) (pc_V hKc hPc hDc (ci := 2) (C := RX2) (T := TX2) (N := 17) (q0 := 0) rfl rfl) rfl rfl hl.1 rfl (lv_room (Nat.le_of_ble_eq_true rfl)) dX2_pay_57 ⟨Nat.le_of_ble_eq_true rfl, Nat.le_of_ble_eq_true rfl⟩) hS (fun q _ h => hFc q h) hFc (fun r_4 u t H_4 locs ht hvm hw hB hz1 hk1 hS => ?_)
  try dsimp only at hw hB
  have hw_4 := hw
  replace hw_4 := hw_4.symm
  subst hw_4
  obtain ⟨hP1, hD1⟩ := hB
  rw [ht] at hP1
  obtain ⟨hP, hD⟩ := va_join (wr := []) (w1 := [(mo, .inr (2, [.int 0, .ref bL, .ref bT, .int (nI (n + 1)), .ref bK, .ref bF, .ref bS, .ref bB, .int co, .int pl, .int st, .int jo, .int cn, .int ii, .int fi, .int fe, .ref bU])), (bK, .inl (cI, 60, .inl (upd K n 4))), (bF, .inl (cI, 60, .inl (upd F n a))), (bS, .inl (cI, 60, .inl (upd S n b))), (bB, .inl (cZ, 60, .inl (upd B n 0))), (bL, .inl (cI, 4, .inl L)), (bT, .inl (cI, 4, .inl T)), (bU, .inl (cI, 6, .inl U))]) hP hD [0, 1, 2, 3, 4, 5, 6, 7] [] rfl rfl (by decide) (by decide) hk1 hFc hP1 hD1
  have hP : va_P (dC, dI) vwCl [(mo, .inr (2, [.int 0, .ref bL, .ref bT, .int (nI (n + 1)), .ref bK, .ref bF, .ref bS, .ref bB, .int co, .int pl, .int st, .int jo, .int cn, .int ii, .int fi, .int fe, .ref bU])), (bK, .inl (cI, 60, .inl (upd K n 4))), (bF, .inl (cI, 60, .inl (upd F n a))), (bS, .inl (cI, 60, .inl (upd S n b))), (bB, .inl (cZ, 60, .inl (upd B n 0))), (bL, .inl (cI, 4, .inl L)), (bT, .inl (cI, 4, .inl T)), (bU, .inl (cI, 6, .inl U))] H_4 := hP
  have hD : va_D A [(mo, .inr (2, [.int 0, .ref bL, .ref bT, .int (nI (n + 1)), .ref bK, .ref bF, .ref bS, .ref bB, .int co, .int pl, .int st, .int jo, .int cn, .int ii, .int fi, .int fe, .ref bU])), (bK, .inl (cI, 60, .inl (upd K n 4))), (bF, .inl (cI, 60, .inl (upd F n a))), (bS, .inl (cI, 60, .inl (upd S n b))), (bB, .inl (cZ, 60, .inl (upd B n 0))), (bL, .inl (cI, 4, .inl L)), (bT, .inl (cI, 4, .inl T)), (bU, .inl (cI, 6, .inl U))] := hD
  have hpost : (nI n) = nI n := by
    rfl
  have hP9 := hP.sub (ws' := [(mo, .inr (2, [.int 0, .ref bL, .ref bT, .int (nI (n + 1)), .ref bK, .ref bF, .ref bS, .ref bB, .int co, .int pl, .int st, .int jo, .int cn, .int ii, .int fi, .int fe, .ref bU])), (bK, .inl (cI, 60, .inl (upd K n 4))), (bF, .inl (cI, 60, .inl (upd F n a))), (bS, .inl (cI, 60, .inl (upd S n b))), (bB, .inl (cZ, 60, .inl (upd B n 0))), (bL, .inl (cI, 4, .inl L)), (bT, .inl (cI, 4, .inl T)), (bU, .inl (cI, 6, .inl U))]) [0, 1, 2, 3, 4, 5, 6, 7] rfl
  have hD9 := hD.sub (ws' := [(mo, .inr (2, [.int 0, .ref bL, .ref bT, .int (nI (n + 1)), .ref bK, .ref bF, .ref bS, .ref bB, .int co, .int pl, .int st, .int jo, .int cn, .int ii, .int fi, .int fe, .ref bU])), (bK, .inl (cI, 60, .inl (upd K n 4))), (bF, .inl (cI, 60, .inl (upd F n a))), (bS, .inl (cI, 60, .inl (upd S n b))), (bB, .inl (cZ, 60, .inl (upd B n 0))), (bL, .inl (cI, 4, .inl L)), (bT, .inl (cI, 4, .inl T)), (bU, .inl (cI, 6, .inl U))]) [0, 1, 2, 3, 4, 5, 6, 7] (by decide) rfl
  exact W.iret (v := nI n) hx hb hr (fun t ht hW => ⟨⟨(nI n), (), rfl, hpost, by rw [ht]; exact hP9, hD9⟩, hS.F ht⟩) hS.2.2 dX2_pay_60

set_option maxHeartbeats 4000000 in
set_option maxRecDepth 100000 in
theorem c_X2_pay_f1 (l : Launch) (dC : Nat → ClassId) (dI : Nat → Nat → Nat) (cI cZ : ClassId) (mo bK bF bS bB bL bT bU : Nat) (sz : Nat) (L : N2I) (T : N2I) (K : N2I) (F : N2I) (S : N2I) (B : N2I) (U : N2I) (n : Nat) (tw : Int32) (co : Int32) (pl : Int32) (st : Int32) (jo : Int32) (cn : Int32) (ii : Int32) (fi : Int32) (fe : Int32) (a : Int32) (b : Int32) (hb0 : a < 0 ∨ 5 < a) : Met l yX2_pay wsX2_pay ({ frames := 2, cells := 0, slots := 0, locals := 52 } : Room) (va_Pc [.ref mo, .int a, .int b] (pc_ (dC, dI) [(cI, .int), (cZ, .boolean)] [(mo, .inr (2, [.int tw, .ref bL, .ref bT, .int (nI n), .ref bK, .ref bF, .ref bS, .ref bB, .int co, .int pl, .int st, .int jo, .int cn, .int ii, .int fi, .int fe, .ref bU])), (bK, .inl (cI, 60, .inl K)), (bF, .inl (cI, 60, .inl F)), (bS, .inl (cI, 60, .inl S)), (bB, .inl (cZ, 60, .inl B)), (bL, .inl (cI, 4, .inl L)), (bT, .inl (cI, 4, .inl T)), (bU, .inl (cI, 6, .inl U))] sz)) (va_Qi (fun (r : Int32) (u : Unit) => r = 0) (fun (u : Unit) (t : State) => va_P (dC, dI) vwCl [(mo, .inr (2, [.int 1, .ref bL, .ref bT, .int (nI n), .ref bK, .ref bF, .ref bS, .ref bB, .int co, .int pl, .int st, .int jo, .int cn, .int ii, .int fi, .int fe, .ref bU])), (bK, .inl (cI, 60, .inl K)), (bF, .inl (cI, 60, .inl F)), (bS, .inl (cI, 60, .inl S)), (bB, .inl (cZ, 60, .inl B)), (bL, .inl (cI, 4, .inl L)), (bT, .inl (cI, 4, .inl T)), (bU, .inl (cI, 6, .inl U))] t.heap ∧ va_D (va_A [(mo, .inr (2, [.int tw, .ref bL, .ref bT, .int (nI n), .ref bK, .ref bF, .ref bS, .ref bB, .int co, .int pl, .int st, .int jo, .int cn, .int ii, .int fi, .int fe, .ref bU])), (bK, .inl (cI, 60, .inl K)), (bF, .inl (cI, 60, .inl F)), (bS, .inl (cI, 60, .inl S)), (bB, .inl (cZ, 60, .inl B)), (bL, .inl (cI, 4, .inl L)), (bT, .inl (cI, 4, .inl T)), (bU, .inl (cI, 6, .inl U))] sz) [(mo, .inr (2, [.int 1, .ref bL, .ref bT, .int (nI n), .ref bK, .ref bF, .ref bS, .ref bB, .int co, .int pl, .int st, .int jo, .int cn, .int ii, .int fi, .int fe, .ref bU])), (bK, .inl (cI, 60, .inl K)), (bF, .inl (cI, 60, .inl F)), (bS, .inl (cI, 60, .inl S)), (bB, .inl (cZ, 60, .inl B)), (bL, .inl (cI, 4, .inl L)), (bT, .inl (cI, 4, .inl T)), (bU, .inl (cI, 6, .inl U))]) (va_A [(mo, .inr (2, [.int tw, .ref bL, .ref bT, .int (nI n), .ref bK, .ref bF, .ref bS, .ref bB, .int co, .int pl, .int st, .int jo, .int cn, .int ii, .int fi, .int fe, .ref bU])), (bK, .inl (cI, 60, .inl K)), (bF, .inl (cI, 60, .inl F)), (bS, .inl (cI, 60, .inl S)), (bB, .inl (cZ, 60, .inl B)), (bL, .inl (cI, 4, .inl L)), (bT, .inl (cI, 4, .inl T)), (bU, .inl (cI, 6, .inl U))] sz)) 0 0 (va_A [(mo, .inr (2, [.int tw, .ref bL, .ref bT, .int (nI n), .ref bK, .ref bF, .ref bS, .ref bB, .int co, .int pl, .int st, .int jo, .int cn, .int ii, .int fi, .int fe, .ref bU])), (bK, .inl (cI, 60, .inl K)), (bF, .inl (cI, 60, .inl F)), (bS, .inl (cI, 60, .inl S)), (bB, .inl (cZ, 60, .inl B)), (bL, .inl (cI, 4, .inl L)), (bT, .inl (cI, 4, .inl T)), (bU, .inl (cI, 6, .inl U))] sz) := by
  refine Met.ofW (cc := cX2_pay) (maxL := 3) (ret := (some .int)) (by decide) rfl ?_
  intro p e s m args below meth c s₁ BB hml hv
  obtain ⟨rfl, hsz, hP, hK, hD0⟩ := hv
  have hx := BB.exec
  have hb := BB.bytes
  have hr := BB.returns
  have hts := atoms_spec (ws := wsX2_pay) BB.pre
  have hown : s.vm.findClass RX2 = some m.cls := findClass_of_methodNamed BB.named
  have hlocks := BB.notSynchronized
  subst hsz
  have hD := hD0.self (sz := s.heap.size)
  generalize hAe : va_A [(mo, .inr (2, [.int tw, .ref bL, .ref bT, .int (nI n), .ref bK, .ref bF, .ref bS, .ref bB, .int co, .int pl, .int st, .int jo, .int cn, .int ii, .int fi, .int fe, .ref bU])), (bK, .inl (cI, 60, .inl K)), (bF, .inl (cI, 60, .inl F)), (bS, .inl (cI, 60, .inl S)), (bB, .inl (cZ, 60, .inl B)), (bL, .inl (cI, 4, .inl L)), (bT, .inl (cI, 4, .inl T)), (bU, .inl (cI, 6, .inl U))] s.heap.size = A at hD ⊢
  have hA : ∀ q : Nat, s.heap.size ≤ q → A q := fun q h => by rw [← hAe]; exact Or.inr h
  have hS : va_S A s.heap s.heap [] := va_S.rf
  have hP : va_P (dC, dI) vwCl [(mo, .inr (2, [.int tw, .ref bL, .ref bT, .int (nI n), .ref bK, .ref bF, .ref bS, .ref bB, .int co, .int pl, .int st, .int jo, .int cn, .int ii, .int fi, .int fe, .ref bU])), (bK, .inl (cI, 60, .inl K)), (bF, .inl (cI, 60, .inl F)), (bS, .inl (cI, 60, .inl S)), (bB, .inl (cZ, 60, .inl B)), (bL, .inl (cI, 4, .inl L)), (bT, .inl (cI, 4, .inl T)), (bU, .inl (cI, 6, .inl U))] s.heap := hP
  have hl := lv_entry ([.ref mo, .int a, .int b]) (n := 3) (Nat.le_of_ble_eq_true rfl)
  rw [lg_entry_eq]
  generalize (lg_sl ([.ref mo, .int a, .int b]) ++ List.replicate (3 - (lg_sl ([.ref mo, .int a, .int b])).length) Slot.unset).toArray = ls at hl ⊢
  have hl : lv_has ls 3 [(0, .ref mo), (1, .int a), (2, .int b)] := hl
  have k0 := hts (.fieldLink RX2 32 "KnifeLedgerModel" "thrown" "I") (by decide +kernel)
  have hinX2 : ∀ w ∈ wsX20, w ∈ wsX2_pay := by decide +kernel
  refine lv_aload_n hx hb dX2_pay_0 rfl (lv_at hl 0 rfl) ?_
  refine lv_iconst (v := 0) hx hb dX2_pay_1 (by decide) ?_
  refine va_put (D := (dC, dI)) (ci := 2) (v := .int 0) (ty := .int) (C := RX2) (T := TX2) (N := 17) hx hb hts hinX2 tyX2 tyX2_ok nmX2 hown hK hP hD hS 0 rfl rfl 0 (by decide) k0 (fun _ h9 => h9) rfl (by decide +kernel) rfl rfl (Nat.le_of_ble_eq_true rfl) dX2_pay_2 (fun H_1 locs hP hD hS => ?_)
  have hP : va_P (dC, dI) vwCl [(mo, .inr (2, [.int 0, .ref bL, .ref bT, .int (nI n), .ref bK, .ref bF, .ref bS, .ref bB, .int co, .int pl, .int st, .int jo, .int cn, .int ii, .int fi, .int fe, .ref bU])), (bK, .inl (cI, 60, .inl K)), (bF, .inl (cI, 60, .inl F)), (bS, .inl (cI, 60, .inl S)), (bB, .inl (cZ, 60, .inl B)), (bL, .inl (cI, 4, .inl L)), (bT, .inl (cI, 4, .inl T)), (bU, .inl (cI, 6, .inl U))] H_1 := hP
  have hD : va_D A [(mo, .inr (2, [.int 0, .ref bL, .ref bT, .int (nI n), .ref bK, .ref bF, .ref bS, .ref bB, .int co, .int pl, .int st, .int jo, .int cn, .int ii, .int fi, .int fe, .ref bU])), (bK, .inl (cI, 60, .inl K)), (bF, .inl (cI, 60, .inl F)), (bS, .inl (cI, 60, .inl S)), (bB, .inl (cZ, 60, .inl B)), (bL, .inl (cI, 4, .inl L)), (bT, .inl (cI, 4, .inl T)), (bU, .inl (cI, 6, .inl U))] := hD
  refine lv_iload_n hx hb dX2_pay_5 rfl (lv_at hl 1 rfl) ?_
  refine lv_iconst (v := 0) hx hb dX2_pay_6 (by decide) ?_
  refine lv_iconst (v := 5) hx hb dX2_pay_7 (by decide) ?_
  have hPc := hP.sub (ws' := []) [] rfl
  have hDc := hD.sub (ws' := []) [] (by decide) rfl
  have hKc := hK.sub (tys' := []) [] rfl
  have hFc := va_free (wc := []) hD hS hA [] rfl
  refine va_calli (va_runS (As := [.int a, .int 0, .int 5]) (rest := []) ⟨hx, hb, hml, hown, hts⟩ (c_X2_isIn l dC dI H_1.size a 0 5) (va_cwS 3 hts gX2_pay_X2_isIn rfl rfl rfl (by decide +kernel) ⟨Nat.le_of_ble_eq_true rfl, Nat.le_of_ble_eq_true rfl⟩) (pc_S hKc hPc hDc) rfl rfl hl.1 rfl (lv_room (Nat.le_of_ble_eq_true rfl)) dX2_pay_8 ⟨Nat.le_of_ble_eq_true rfl, Nat.le_of_ble_eq_true rfl⟩) hS (fun q _ h => hFc q h) hFc (fun r_2 u t H_2 locs ht hvm hw hB hz1 hk1 hS => ?_)
  try dsimp only at hw hB
  have hw_2 := hw
  replace hw_2 := hw_2.symm
  subst hw_2
  obtain ⟨hP1, hD1⟩ := hB
  rw [ht] at hP1
  obtain ⟨hP, hD⟩ := va_join (wr := [(mo, .inr (2, [.int 0, .ref bL, .ref bT, .int (nI n), .ref bK, .ref bF, .ref bS, .ref bB, .int co, .int pl, .int st, .int jo, .int cn, .int ii, .int fi, .int fe, .ref bU])), (bK, .inl (cI, 60, .inl K)), (bF, .inl (cI, 60, .inl F)), (bS, .inl (cI, 60, .inl S)), (bB, .inl (cZ, 60, .inl B)), (bL, .inl (cI, 4, .inl L)), (bT, .inl (cI, 4, .inl T)), (bU, .inl (cI, 6, .inl U))]) (w1 := []) hP hD [] [0, 1, 2, 3, 4, 5, 6, 7] rfl rfl (by decide) (by decide) hk1 hFc hP1 hD1
  have hP : va_P (dC, dI) vwCl [(mo, .inr (2, [.int 0, .ref bL, .ref bT, .int (nI n), .ref bK, .ref bF, .ref bS, .ref bB, .int co, .int pl, .int st, .int jo, .int cn, .int ii, .int fi, .int fe, .ref bU])), (bK, .inl (cI, 60, .inl K)), (bF, .inl (cI, 60, .inl F)), (bS, .inl (cI, 60, .inl S)), (bB, .inl (cZ, 60, .inl B)), (bL, .inl (cI, 4, .inl L)), (bT, .inl (cI, 4, .inl T)), (bU, .inl (cI, 6, .inl U))] H_2 := hP
  have hD : va_D A [(mo, .inr (2, [.int 0, .ref bL, .ref bT, .int (nI n), .ref bK, .ref bF, .ref bS, .ref bB, .int co, .int pl, .int st, .int jo, .int cn, .int ii, .int fi, .int fe, .ref bU])), (bK, .inl (cI, 60, .inl K)), (bF, .inl (cI, 60, .inl F)), (bS, .inl (cI, 60, .inl S)), (bB, .inl (cZ, 60, .inl B)), (bL, .inl (cI, 4, .inl L)), (bT, .inl (cI, 4, .inl T)), (bU, .inl (cI, 6, .inl U))] := hD
  refine lv_if_ne (tgt := 20) hx hb dX2_pay_11 (by decide) (fun h9 => absurd (mIn_bad hb0) h9) (fun _ => ?_)
  refine lv_aload_n hx hb dX2_pay_14 rfl (lv_at hl 0 rfl) ?_
  refine lv_iconst (v := 1) hx hb dX2_pay_15 (by decide) ?_
  have hPc := hP.sub (ws' := [(mo, .inr (2, [.int 0, .ref bL, .ref bT, .int (nI n), .ref bK, .ref bF, .ref bS, .ref bB, .int co, .int pl, .int st, .int jo, .int cn, .int ii, .int fi, .int fe, .ref bU])), (bK, .inl (cI, 60, .inl K)), (bF, .inl (cI, 60, .inl F)), (bS, .inl (cI, 60, .inl S)), (bB, .inl (cZ, 60, .inl B)), (bL, .inl (cI, 4, .inl L)), (bT, .inl (cI, 4, .inl T)), (bU, .inl (cI, 6, .inl U))]) [0, 1, 2, 3, 4, 5, 6, 7] rfl
  have hDc := hD.sub (ws' := [(mo, .inr (2, [.int 0, .ref bL, .ref bT, .int (nI n), .ref bK, .ref bF, .ref bS, .ref bB, .int co, .int pl, .int st, .int jo, .int cn, .int ii, .int fi, .int fe, .ref bU])), (bK, .inl (cI, 60, .inl K)), (bF, .inl (cI, 60, .inl F)), (bS, .inl (cI, 60, .inl S)), (bB, .inl (cZ, 60, .inl B)), (bL, .inl (cI, 4, .inl L)), (bT, .inl (cI, 4, .inl T)), (bU, .inl (cI, 6, .inl U))]) [0, 1, 2, 3, 4, 5, 6, 7] (by decide) rfl
  have hKc := hK.sub (tys' := [(cI, .int), (cZ, .boolean)]) [0, 1] rfl
  have hFc := va_free (wc := [(mo, .inr (2, [.int 0, .ref bL, .ref bT, .int (nI n), .ref bK, .ref bF, .ref bS, .ref bB, .int co, .int pl, .int st, .int jo, .int cn, .int ii, .int fi, .int fe, .ref bU])), (bK, .inl (cI, 60, .inl K)), (bF, .inl (cI, 60, .inl F)), (bS, .inl (cI, 60, .inl S)), (bB, .inl (cZ, 60, .inl B)), (bL, .inl (cI, 4, .inl L)), (bT, .inl (cI, 4, .inl T)), (bU, .inl (cI, 6, .inl U))]) hD hS hA [0, 1, 2, 3, 4, 5, 6, 7] rfl
  refine va_calli (va_runV (As := [.int 1]) (rest := []) ⟨hx, hb, hml, hown, hts⟩ (c_X2_fail l dC dI cI cZ mo bK bF bS bB bL bT bU H_2.size L T K F S B U n 0 co pl st jo cn ii fi fe 1) (cwV 1 hts gX2_pay_X2_fail rfl rfl rfl (by decide +kernel) ⟨Nat.le_of_ble_eq_true rfl, Nat.le_of_ble_eq_true rfl⟩) (pc_V hKc hPc hDc (ci := 2) (C := RX2) (T := TX2) (N := 17) (q0 := 0) rfl rfl) rfl rfl hl.1 rfl (lv_room (Nat.le_of_ble_eq_true rfl)) dX2_pay_16 ⟨Nat.le_of_ble_eq_true rfl, Nat.le_of_ble_eq_true rfl⟩) hS (fun q _ h => hFc q h) hFc (fun r_3 u t H_3 locs ht hvm hw hB hz1 hk1 hS => ?_)
  try dsimp only at hw hB
  have hw_3 := hw
  replace hw_3 := hw_3.symm
  subst hw_3
  obtain ⟨hP1, hD1⟩ := hB
  rw [ht] at hP1
  obtain ⟨hP, hD⟩ := va_join (wr := []) (w1 := [(mo, .inr (2, [.int 1, .ref bL, .ref bT, .int (nI n), .ref bK, .ref bF, .ref bS, .ref bB, .int co, .int pl, .int st, .int jo, .int cn, .int ii, .int fi, .int fe, .ref bU])), (bK, .inl (cI, 60, .inl K)), (bF, .inl (cI, 60, .inl F)), (bS, .inl (cI, 60, .inl S)), (bB, .inl (cZ, 60, .inl B)), (bL, .inl (cI, 4, .inl L)), (bT, .inl (cI, 4, .inl T)), (bU, .inl (cI, 6, .inl U))]) hP hD [0, 1, 2, 3, 4, 5, 6, 7] [] rfl rfl (by decide) (by decide) hk1 hFc hP1 hD1
  have hP : va_P (dC, dI) vwCl [(mo, .inr (2, [.int 1, .ref bL, .ref bT, .int (nI n), .ref bK, .ref bF, .ref bS, .ref bB, .int co, .int pl, .int st, .int jo, .int cn, .int ii, .int fi, .int fe, .ref bU])), (bK, .inl (cI, 60, .inl K)), (bF, .inl (cI, 60, .inl F)), (bS, .inl (cI, 60, .inl S)), (bB, .inl (cZ, 60, .inl B)), (bL, .inl (cI, 4, .inl L)), (bT, .inl (cI, 4, .inl T)), (bU, .inl (cI, 6, .inl U))] H_3 := hP
  have hD : va_D A [(mo, .inr (2, [.int 1, .ref bL, .ref bT, .int (nI n), .ref bK, .ref bF, .ref bS, .ref bB, .int co, .int pl, .int st, .int jo, .int cn, .int ii, .int fi, .int fe, .ref bU])), (bK, .inl (cI, 60, .inl K)), (bF, .inl (cI, 60, .inl F)), (bS, .inl (cI, 60, .inl S)), (bB, .inl (cZ, 60, .inl B)), (bL, .inl (cI, 4, .inl L)), (bT, .inl (cI, 4, .inl T)), (bU, .inl (cI, 6, .inl U))] := hD
  have hpost : (0 : Int32) = 0 := by
    rfl
  have hP9 := hP.sub (ws' := [(mo, .inr (2, [.int 1, .ref bL, .ref bT, .int (nI n), .ref bK, .ref bF, .ref bS, .ref bB, .int co, .int pl, .int st, .int jo, .int cn, .int ii, .int fi, .int fe, .ref bU])), (bK, .inl (cI, 60, .inl K)), (bF, .inl (cI, 60, .inl F)), (bS, .inl (cI, 60, .inl S)), (bB, .inl (cZ, 60, .inl B)), (bL, .inl (cI, 4, .inl L)), (bT, .inl (cI, 4, .inl T)), (bU, .inl (cI, 6, .inl U))]) [0, 1, 2, 3, 4, 5, 6, 7] rfl
  have hD9 := hD.sub (ws' := [(mo, .inr (2, [.int 1, .ref bL, .ref bT, .int (nI n), .ref bK, .ref bF, .ref bS, .ref bB, .int co, .int pl, .int st, .int jo, .int cn, .int ii, .int fi, .int fe, .ref bU])), (bK, .inl (cI, 60, .inl K)), (bF, .inl (cI, 60, .inl F)), (bS, .inl (cI, 60, .inl S)), (bB, .inl (cZ, 60, .inl B)), (bL, .inl (cI, 4, .inl L)), (bT, .inl (cI, 4, .inl T)), (bU, .inl (cI, 6, .inl U))]) [0, 1, 2, 3, 4, 5, 6, 7] (by decide) rfl
  exact W.iret (v := 0) hx hb hr (fun t ht hW => ⟨⟨0, (), rfl, hpost, by rw [ht]; exact hP9, hD9⟩, hS.F ht⟩) hS.2.2 dX2_pay_19

set_option maxHeartbeats 4000000 in
set_option maxRecDepth 100000 in
theorem c_X2_pay_f2 (l : Launch) (dC : Nat → ClassId) (dI : Nat → Nat → Nat) (cI cZ : ClassId) (mo bK bF bS bB bL bT bU : Nat) (sz : Nat) (L : N2I) (T : N2I) (K : N2I) (F : N2I) (S : N2I) (B : N2I) (U : N2I) (n : Nat) (tw : Int32) (co : Int32) (pl : Int32) (st : Int32) (jo : Int32) (cn : Int32) (ii : Int32) (fi : Int32) (fe : Int32) (a : Int32) (b : Int32) (h0 : ¬ a < 0) (h1 : ¬ 5 < a) (hb0 : b < 1 ∨ 99 < b) : Met l yX2_pay wsX2_pay ({ frames := 2, cells := 0, slots := 0, locals := 52 } : Room) (va_Pc [.ref mo, .int a, .int b] (pc_ (dC, dI) [(cI, .int), (cZ, .boolean)] [(mo, .inr (2, [.int tw, .ref bL, .ref bT, .int (nI n), .ref bK, .ref bF, .ref bS, .ref bB, .int co, .int pl, .int st, .int jo, .int cn, .int ii, .int fi, .int fe, .ref bU])), (bK, .inl (cI, 60, .inl K)), (bF, .inl (cI, 60, .inl F)), (bS, .inl (cI, 60, .inl S)), (bB, .inl (cZ, 60, .inl B)), (bL, .inl (cI, 4, .inl L)), (bT, .inl (cI, 4, .inl T)), (bU, .inl (cI, 6, .inl U))] sz)) (va_Qi (fun (r : Int32) (u : Unit) => r = 0) (fun (u : Unit) (t : State) => va_P (dC, dI) vwCl [(mo, .inr (2, [.int 2, .ref bL, .ref bT, .int (nI n), .ref bK, .ref bF, .ref bS, .ref bB, .int co, .int pl, .int st, .int jo, .int cn, .int ii, .int fi, .int fe, .ref bU])), (bK, .inl (cI, 60, .inl K)), (bF, .inl (cI, 60, .inl F)), (bS, .inl (cI, 60, .inl S)), (bB, .inl (cZ, 60, .inl B)), (bL, .inl (cI, 4, .inl L)), (bT, .inl (cI, 4, .inl T)), (bU, .inl (cI, 6, .inl U))] t.heap ∧ va_D (va_A [(mo, .inr (2, [.int tw, .ref bL, .ref bT, .int (nI n), .ref bK, .ref bF, .ref bS, .ref bB, .int co, .int pl, .int st, .int jo, .int cn, .int ii, .int fi, .int fe, .ref bU])), (bK, .inl (cI, 60, .inl K)), (bF, .inl (cI, 60, .inl F)), (bS, .inl (cI, 60, .inl S)), (bB, .inl (cZ, 60, .inl B)), (bL, .inl (cI, 4, .inl L)), (bT, .inl (cI, 4, .inl T)), (bU, .inl (cI, 6, .inl U))] sz) [(mo, .inr (2, [.int 2, .ref bL, .ref bT, .int (nI n), .ref bK, .ref bF, .ref bS, .ref bB, .int co, .int pl, .int st, .int jo, .int cn, .int ii, .int fi, .int fe, .ref bU])), (bK, .inl (cI, 60, .inl K)), (bF, .inl (cI, 60, .inl F)), (bS, .inl (cI, 60, .inl S)), (bB, .inl (cZ, 60, .inl B)), (bL, .inl (cI, 4, .inl L)), (bT, .inl (cI, 4, .inl T)), (bU, .inl (cI, 6, .inl U))]) (va_A [(mo, .inr (2, [.int tw, .ref bL, .ref bT, .int (nI n), .ref bK, .ref bF, .ref bS, .ref bB, .int co, .int pl, .int st, .int jo, .int cn, .int ii, .int fi, .int fe, .ref bU])), (bK, .inl (cI, 60, .inl K)), (bF, .inl (cI, 60, .inl F)), (bS, .inl (cI, 60, .inl S)), (bB, .inl (cZ, 60, .inl B)), (bL, .inl (cI, 4, .inl L)), (bT, .inl (cI, 4, .inl T)), (bU, .inl (cI, 6, .inl U))] sz)) 0 0 (va_A [(mo, .inr (2, [.int tw, .ref bL, .ref bT, .int (nI n), .ref bK, .ref bF, .ref bS, .ref bB, .int co, .int pl, .int st, .int jo, .int cn, .int ii, .int fi, .int fe, .ref bU])), (bK, .inl (cI, 60, .inl K)), (bF, .inl (cI, 60, .inl F)), (bS, .inl (cI, 60, .inl S)), (bB, .inl (cZ, 60, .inl B)), (bL, .inl (cI, 4, .inl L)), (bT, .inl (cI, 4, .inl T)), (bU, .inl (cI, 6, .inl U))] sz) := by
  refine Met.ofW (cc := cX2_pay) (maxL := 3) (ret := (some .int)) (by decide) rfl ?_
  intro p e s m args below meth c s₁ BB hml hv
  obtain ⟨rfl, hsz, hP, hK, hD0⟩ := hv
  have hx := BB.exec
  have hb := BB.bytes
  have hr := BB.returns
  have hts := atoms_spec (ws := wsX2_pay) BB.pre
  have hown : s.vm.findClass RX2 = some m.cls := findClass_of_methodNamed BB.named
  have hlocks := BB.notSynchronized
  subst hsz
  have hD := hD0.self (sz := s.heap.size)
  generalize hAe : va_A [(mo, .inr (2, [.int tw, .ref bL, .ref bT, .int (nI n), .ref bK, .ref bF, .ref bS, .ref bB, .int co, .int pl, .int st, .int jo, .int cn, .int ii, .int fi, .int fe, .ref bU])), (bK, .inl (cI, 60, .inl K)), (bF, .inl (cI, 60, .inl F)), (bS, .inl (cI, 60, .inl S)), (bB, .inl (cZ, 60, .inl B)), (bL, .inl (cI, 4, .inl L)), (bT, .inl (cI, 4, .inl T)), (bU, .inl (cI, 6, .inl U))] s.heap.size = A at hD ⊢
  have hA : ∀ q : Nat, s.heap.size ≤ q → A q := fun q h => by rw [← hAe]; exact Or.inr h
  have hS : va_S A s.heap s.heap [] := va_S.rf
  have hP : va_P (dC, dI) vwCl [(mo, .inr (2, [.int tw, .ref bL, .ref bT, .int (nI n), .ref bK, .ref bF, .ref bS, .ref bB, .int co, .int pl, .int st, .int jo, .int cn, .int ii, .int fi, .int fe, .ref bU])), (bK, .inl (cI, 60, .inl K)), (bF, .inl (cI, 60, .inl F)), (bS, .inl (cI, 60, .inl S)), (bB, .inl (cZ, 60, .inl B)), (bL, .inl (cI, 4, .inl L)), (bT, .inl (cI, 4, .inl T)), (bU, .inl (cI, 6, .inl U))] s.heap := hP
  have hl := lv_entry ([.ref mo, .int a, .int b]) (n := 3) (Nat.le_of_ble_eq_true rfl)
  rw [lg_entry_eq]
  generalize (lg_sl ([.ref mo, .int a, .int b]) ++ List.replicate (3 - (lg_sl ([.ref mo, .int a, .int b])).length) Slot.unset).toArray = ls at hl ⊢
  have hl : lv_has ls 3 [(0, .ref mo), (1, .int a), (2, .int b)] := hl
  have k0 := hts (.fieldLink RX2 32 "KnifeLedgerModel" "thrown" "I") (by decide +kernel)
  have hinX2 : ∀ w ∈ wsX20, w ∈ wsX2_pay := by decide +kernel
  refine lv_aload_n hx hb dX2_pay_0 rfl (lv_at hl 0 rfl) ?_
  refine lv_iconst (v := 0) hx hb dX2_pay_1 (by decide) ?_
  refine va_put (D := (dC, dI)) (ci := 2) (v := .int 0) (ty := .int) (C := RX2) (T := TX2) (N := 17) hx hb hts hinX2 tyX2 tyX2_ok nmX2 hown hK hP hD hS 0 rfl rfl 0 (by decide) k0 (fun _ h9 => h9) rfl (by decide +kernel) rfl rfl (Nat.le_of_ble_eq_true rfl) dX2_pay_2 (fun H_1 locs hP hD hS => ?_)
  have hP : va_P (dC, dI) vwCl [(mo, .inr (2, [.int 0, .ref bL, .ref bT, .int (nI n), .ref bK, .ref bF, .ref bS, .ref bB, .int co, .int pl, .int st, .int jo, .int cn, .int ii, .int fi, .int fe, .ref bU])), (bK, .inl (cI, 60, .inl K)), (bF, .inl (cI, 60, .inl F)), (bS, .inl (cI, 60, .inl S)), (bB, .inl (cZ, 60, .inl B)), (bL, .inl (cI, 4, .inl L)), (bT, .inl (cI, 4, .inl T)), (bU, .inl (cI, 6, .inl U))] H_1 := hP
  have hD : va_D A [(mo, .inr (2, [.int 0, .ref bL, .ref bT, .int (nI n), .ref bK, .ref bF, .ref bS, .ref bB, .int co, .int pl, .int st, .int jo, .int cn, .int ii, .int fi, .int fe, .ref bU])), (bK, .inl (cI, 60, .inl K)), (bF, .inl (cI, 60, .inl F)), (bS, .inl (cI, 60, .inl S)), (bB, .inl (cZ, 60, .inl B)), (bL, .inl (cI, 4, .inl L)), (bT, .inl (cI, 4, .inl T)), (bU, .inl (cI, 6, .inl U))] := hD
  refine lv_iload_n hx hb dX2_pay_5 rfl (lv_at hl 1 rfl) ?_
  refine lv_iconst (v := 0) hx hb dX2_pay_6 (by decide) ?_
  refine lv_iconst (v := 5) hx hb dX2_pay_7 (by decide) ?_
  have hPc := hP.sub (ws' := []) [] rfl
  have hDc := hD.sub (ws' := []) [] (by decide) rfl
  have hKc := hK.sub (tys' := []) [] rfl
  have hFc := va_free (wc := []) hD hS hA [] rfl
  refine va_calli (va_runS (As := [.int a, .int 0, .int 5]) (rest := []) ⟨hx, hb, hml, hown, hts⟩ (c_X2_isIn l dC dI H_1.size a 0 5) (va_cwS 3 hts gX2_pay_X2_isIn rfl rfl rfl (by decide +kernel) ⟨Nat.le_of_ble_eq_true rfl, Nat.le_of_ble_eq_true rfl⟩) (pc_S hKc hPc hDc) rfl rfl hl.1 rfl (lv_room (Nat.le_of_ble_eq_true rfl)) dX2_pay_8 ⟨Nat.le_of_ble_eq_true rfl, Nat.le_of_ble_eq_true rfl⟩) hS (fun q _ h => hFc q h) hFc (fun r_2 u t H_2 locs ht hvm hw hB hz1 hk1 hS => ?_)
  try dsimp only at hw hB
  have hw_2 := hw
  replace hw_2 := hw_2.symm
  subst hw_2
  obtain ⟨hP1, hD1⟩ := hB
  rw [ht] at hP1
  obtain ⟨hP, hD⟩ := va_join (wr := [(mo, .inr (2, [.int 0, .ref bL, .ref bT, .int (nI n), .ref bK, .ref bF, .ref bS, .ref bB, .int co, .int pl, .int st, .int jo, .int cn, .int ii, .int fi, .int fe, .ref bU])), (bK, .inl (cI, 60, .inl K)), (bF, .inl (cI, 60, .inl F)), (bS, .inl (cI, 60, .inl S)), (bB, .inl (cZ, 60, .inl B)), (bL, .inl (cI, 4, .inl L)), (bT, .inl (cI, 4, .inl T)), (bU, .inl (cI, 6, .inl U))]) (w1 := []) hP hD [] [0, 1, 2, 3, 4, 5, 6, 7] rfl rfl (by decide) (by decide) hk1 hFc hP1 hD1
  have hP : va_P (dC, dI) vwCl [(mo, .inr (2, [.int 0, .ref bL, .ref bT, .int (nI n), .ref bK, .ref bF, .ref bS, .ref bB, .int co, .int pl, .int st, .int jo, .int cn, .int ii, .int fi, .int fe, .ref bU])), (bK, .inl (cI, 60, .inl K)), (bF, .inl (cI, 60, .inl F)), (bS, .inl (cI, 60, .inl S)), (bB, .inl (cZ, 60, .inl B)), (bL, .inl (cI, 4, .inl L)), (bT, .inl (cI, 4, .inl T)), (bU, .inl (cI, 6, .inl U))] H_2 := hP
  have hD : va_D A [(mo, .inr (2, [.int 0, .ref bL, .ref bT, .int (nI n), .ref bK, .ref bF, .ref bS, .ref bB, .int co, .int pl, .int st, .int jo, .int cn, .int ii, .int fi, .int fe, .ref bU])), (bK, .inl (cI, 60, .inl K)), (bF, .inl (cI, 60, .inl F)), (bS, .inl (cI, 60, .inl S)), (bB, .inl (cZ, 60, .inl B)), (bL, .inl (cI, 4, .inl L)), (bT, .inl (cI, 4, .inl T)), (bU, .inl (cI, 6, .inl U))] := hD
  refine lv_if_ne (tgt := 20) hx hb dX2_pay_11 (by decide) (fun _ => ?_) (fun h9 => absurd h9 (by rw [mIn_ok h0 h1]; exact one_ne))
  refine lv_iload_n hx hb dX2_pay_20 rfl (lv_at hl 2 rfl) ?_
  refine lv_iconst (v := 1) hx hb dX2_pay_21 (by decide) ?_
  refine lv_bipush (v := 99) hx hb dX2_pay_22 (by decide) ?_
  have hPc := hP.sub (ws' := []) [] rfl
  have hDc := hD.sub (ws' := []) [] (by decide) rfl
  have hKc := hK.sub (tys' := []) [] rfl
  have hFc := va_free (wc := []) hD hS hA [] rfl
  refine va_calli (va_runS (As := [.int b, .int 1, .int 99]) (rest := []) ⟨hx, hb, hml, hown, hts⟩ (c_X2_isIn l dC dI H_2.size b 1 99) (va_cwS 3 hts gX2_pay_X2_isIn rfl rfl rfl (by decide +kernel) ⟨Nat.le_of_ble_eq_true rfl, Nat.le_of_ble_eq_true rfl⟩) (pc_S hKc hPc hDc) rfl rfl hl.1 rfl (lv_room (Nat.le_of_ble_eq_true rfl)) dX2_pay_24 ⟨Nat.le_of_ble_eq_true rfl, Nat.le_of_ble_eq_true rfl⟩) hS (fun q _ h => hFc q h) hFc (fun r_3 u t H_3 locs ht hvm hw hB hz1 hk1 hS => ?_)
  try dsimp only at hw hB
  have hw_3 := hw
  replace hw_3 := hw_3.symm
  subst hw_3
  obtain ⟨hP1, hD1⟩ := hB
  rw [ht] at hP1
  obtain ⟨hP, hD⟩ := va_join (wr := [(mo, .inr (2, [.int 0, .ref bL, .ref bT, .int (nI n), .ref bK, .ref bF, .ref bS, .ref bB, .int co, .int pl, .int st, .int jo, .int cn, .int ii, .int fi, .int fe, .ref bU])), (bK, .inl (cI, 60, .inl K)), (bF, .inl (cI, 60, .inl F)), (bS, .inl (cI, 60, .inl S)), (bB, .inl (cZ, 60, .inl B)), (bL, .inl (cI, 4, .inl L)), (bT, .inl (cI, 4, .inl T)), (bU, .inl (cI, 6, .inl U))]) (w1 := []) hP hD [] [0, 1, 2, 3, 4, 5, 6, 7] rfl rfl (by decide) (by decide) hk1 hFc hP1 hD1
  have hP : va_P (dC, dI) vwCl [(mo, .inr (2, [.int 0, .ref bL, .ref bT, .int (nI n), .ref bK, .ref bF, .ref bS, .ref bB, .int co, .int pl, .int st, .int jo, .int cn, .int ii, .int fi, .int fe, .ref bU])), (bK, .inl (cI, 60, .inl K)), (bF, .inl (cI, 60, .inl F)), (bS, .inl (cI, 60, .inl S)), (bB, .inl (cZ, 60, .inl B)), (bL, .inl (cI, 4, .inl L)), (bT, .inl (cI, 4, .inl T)), (bU, .inl (cI, 6, .inl U))] H_3 := hP
  have hD : va_D A [(mo, .inr (2, [.int 0, .ref bL, .ref bT, .int (nI n), .ref bK, .ref bF, .ref bS, .ref bB, .int co, .int pl, .int st, .int jo, .int cn, .int ii, .int fi, .int fe, .ref bU])), (bK, .inl (cI, 60, .inl K)), (bF, .inl (cI, 60, .inl F)), (bS, .inl (cI, 60, .inl S)), (bB, .inl (cZ, 60, .inl B)), (bL, .inl (cI, 4, .inl L)), (bT, .inl (cI, 4, .inl T)), (bU, .inl (cI, 6, .inl U))] := hD
  refine lv_if_ne (tgt := 36) hx hb dX2_pay_27 (by decide) (fun h9 => absurd (mIn_bad hb0) h9) (fun _ => ?_)
  refine lv_aload_n hx hb dX2_pay_30 rfl (lv_at hl 0 rfl) ?_
  refine lv_iconst (v := 2) hx hb dX2_pay_31 (by decide) ?_
  have hPc := hP.sub (ws' := [(mo, .inr (2, [.int 0, .ref bL, .ref bT, .int (nI n), .ref bK, .ref bF, .ref bS, .ref bB, .int co, .int pl, .int st, .int jo, .int cn, .int ii, .int fi, .int fe, .ref bU])), (bK, .inl (cI, 60, .inl K)), (bF, .inl (cI, 60, .inl F)), (bS, .inl (cI, 60, .inl S)), (bB, .inl (cZ, 60, .inl B)), (bL, .inl (cI, 4, .inl L)), (bT, .inl (cI, 4, .inl T)), (bU, .inl (cI, 6, .inl U))]) [0, 1, 2, 3, 4, 5, 6, 7] rfl
  have hDc := hD.sub (ws' := [(mo, .inr (2, [.int 0, .ref bL, .ref bT, .int (nI n), .ref bK, .ref bF, .ref bS, .ref bB, .int co, .int pl, .int st, .int jo, .int cn, .int ii, .int fi, .int fe, .ref bU])), (bK, .inl (cI, 60, .inl K)), (bF, .inl (cI, 60, .inl F)), (bS, .inl (cI, 60, .inl S)), (bB, .inl (cZ, 60, .inl B)), (bL, .inl (cI, 4, .inl L)), (bT, .inl (cI, 4, .inl T)), (bU, .inl (cI, 6, .inl U))]) [0, 1, 2, 3, 4, 5, 6, 7] (by decide) rfl
  have hKc := hK.sub (tys' := [(cI, .int), (cZ, .boolean)]) [0, 1] rfl
  have hFc := va_free (wc := [(mo, .inr (2, [.int 0, .ref bL, .ref bT, .int (nI n), .ref bK, .ref bF, .ref bS, .ref bB, .int co, .int pl, .int st, .int jo, .int cn, .int ii, .int fi, .int fe, .ref bU])), (bK, .inl (cI, 60, .inl K)), (bF, .inl (cI, 60, .inl F)), (bS, .inl (cI, 60, .inl S)), (bB, .inl (cZ, 60, .inl B)), (bL, .inl (cI, 4, .inl L)), (bT, .inl (cI, 4, .inl T)), (bU, .inl (cI, 6, .inl U))]) hD hS hA [0, 1, 2, 3, 4, 5, 6, 7] rfl
  refine va_calli (va_runV (As := [.int 2]) (rest := []) ⟨hx, hb, hml, hown, hts⟩ (c_X2_fail l dC dI cI cZ mo bK bF bS bB bL bT bU H_3.size L T K F S B U n 0 co pl st jo cn ii fi fe 2) (cwV 1 hts gX2_pay_X2_fail rfl rfl rfl (by decide +kernel) ⟨Nat.le_of_ble_eq_true rfl, Nat.le_of_ble_eq_true rfl⟩) (pc_V hKc hPc hDc (ci := 2) (C := RX2) (T := TX2) (N := 17) (q0 := 0) rfl rfl) rfl rfl hl.1 rfl (lv_room (Nat.le_of_ble_eq_true rfl)) dX2_pay_32 ⟨Nat.le_of_ble_eq_true rfl, Nat.le_of_ble_eq_true rfl⟩) hS (fun q _ h => hFc q h) hFc (fun r_4 u t H_4 locs ht hvm hw hB hz1 hk1 hS => ?_)
  try dsimp only at hw hB
  have hw_4 := hw
  replace hw_4 := hw_4.symm
  subst hw_4
  obtain ⟨hP1, hD1⟩ := hB
  rw [ht] at hP1
  obtain ⟨hP, hD⟩ := va_join (wr := []) (w1 := [(mo, .inr (2, [.int 2, .ref bL, .ref bT, .int (nI n), .ref bK, .ref bF, .ref bS, .ref bB, .int co, .int pl, .int st, .int jo, .int cn, .int ii, .int fi, .int fe, .ref bU])), (bK, .inl (cI, 60, .inl K)), (bF, .inl (cI, 60, .inl F)), (bS, .inl (cI, 60, .inl S)), (bB, .inl (cZ, 60, .inl B)), (bL, .inl (cI, 4, .inl L)), (bT, .inl (cI, 4, .inl T)), (bU, .inl (cI, 6, .inl U))]) hP hD [0, 1, 2, 3, 4, 5, 6, 7] [] rfl rfl (by decide) (by decide) hk1 hFc hP1 hD1
  have hP : va_P (dC, dI) vwCl [(mo, .inr (2, [.int 2, .ref bL, .ref bT, .int (nI n), .ref bK, .ref bF, .ref bS, .ref bB, .int co, .int pl, .int st, .int jo, .int cn, .int ii, .int fi, .int fe, .ref bU])), (bK, .inl (cI, 60, .inl K)), (bF, .inl (cI, 60, .inl F)), (bS, .inl (cI, 60, .inl S)), (bB, .inl (cZ, 60, .inl B)), (bL, .inl (cI, 4, .inl L)), (bT, .inl (cI, 4, .inl T)), (bU, .inl (cI, 6, .inl U))] H_4 := hP
  have hD : va_D A [(mo, .inr (2, [.int 2, .ref bL, .ref bT, .int (nI n), .ref bK, .ref bF, .ref bS, .ref bB, .int co, .int pl, .int st, .int jo, .int cn, .int ii, .int fi, .int fe, .ref bU])), (bK, .inl (cI, 60, .inl K)), (bF, .inl (cI, 60, .inl F)), (bS, .inl (cI, 60, .inl S)), (bB, .inl (cZ, 60, .inl B)), (bL, .inl (cI, 4, .inl L)), (bT, .inl (cI, 4, .inl T)), (bU, .inl (cI, 6, .inl U))] := hD
  have hpost : (0 : Int32) = 0 := by
    rfl
  have hP9 := hP.sub (ws' := [(mo, .inr (2, [.int 2, .ref bL, .ref bT, .int (nI n), .ref bK, .ref bF, .ref bS, .ref bB, .int co, .int pl, .int st, .int jo, .int cn, .int ii, .int fi, .int fe, .ref bU])), (bK, .inl (cI, 60, .inl K)), (bF, .inl (cI, 60, .inl F)), (bS, .inl (cI, 60, .inl S)), (bB, .inl (cZ, 60, .inl B)), (bL, .inl (cI, 4, .inl L)), (bT, .inl (cI, 4, .inl T)), (bU, .inl (cI, 6, .inl U))]) [0, 1, 2, 3, 4, 5, 6, 7] rfl
  have hD9 := hD.sub (ws' := [(mo, .inr (2, [.int 2, .ref bL, .ref bT, .int (nI n), .ref bK, .ref bF, .ref bS, .ref bB, .int co, .int pl, .int st, .int jo, .int cn, .int ii, .int fi, .int fe, .ref bU])), (bK, .inl (cI, 60, .inl K)), (bF, .inl (cI, 60, .inl F)), (bS, .inl (cI, 60, .inl S)), (bB, .inl (cZ, 60, .inl B)), (bL, .inl (cI, 4, .inl L)), (bT, .inl (cI, 4, .inl T)), (bU, .inl (cI, 6, .inl U))]) [0, 1, 2, 3, 4, 5, 6, 7] (by decide) rfl
  exact W.iret (v := 0) hx hb hr (fun t ht hW => ⟨⟨0, (), rfl, hpost, by rw [ht]; exact hP9, hD9⟩, hS.F ht⟩) hS.2.2 dX2_pay_35

set_option maxHeartbeats 4000000 in
set_option maxRecDepth 100000 in
theorem c_X2_pay_full (l : Launch) (dC : Nat → ClassId) (dI : Nat → Nat → Nat) (cI cZ : ClassId) (mo bK bF bS bB bL bT bU : Nat) (sz : Nat) (L : N2I) (T : N2I) (K : N2I) (F : N2I) (S : N2I) (B : N2I) (U : N2I) (n : Nat) (tw : Int32) (co : Int32) (pl : Int32) (st : Int32) (jo : Int32) (cn : Int32) (ii : Int32) (fi : Int32) (fe : Int32) (a : Int32) (b : Int32) (h0 : ¬ a < 0) (h1 : ¬ 5 < a) (h2 : ¬ b < 1) (h3 : ¬ 99 < b) (hn : n = 60) : Met l yX2_pay wsX2_pay ({ frames := 2, cells := 0, slots := 0, locals := 52 } : Room) (va_Pc [.ref mo, .int a, .int b] (pc_ (dC, dI) [(cI, .int), (cZ, .boolean)] [(mo, .inr (2, [.int tw, .ref bL, .ref bT, .int (nI n), .ref bK, .ref bF, .ref bS, .ref bB, .int co, .int pl, .int st, .int jo, .int cn, .int ii, .int fi, .int fe, .ref bU])), (bK, .inl (cI, 60, .inl K)), (bF, .inl (cI, 60, .inl F)), (bS, .inl (cI, 60, .inl S)), (bB, .inl (cZ, 60, .inl B)), (bL, .inl (cI, 4, .inl L)), (bT, .inl (cI, 4, .inl T)), (bU, .inl (cI, 6, .inl U))] sz)) (va_Qi (fun (r : Int32) (u : Unit) => r = 0) (fun (u : Unit) (t : State) => va_P (dC, dI) vwCl [(mo, .inr (2, [.int 3, .ref bL, .ref bT, .int (nI n), .ref bK, .ref bF, .ref bS, .ref bB, .int co, .int pl, .int st, .int jo, .int cn, .int ii, .int fi, .int fe, .ref bU])), (bK, .inl (cI, 60, .inl K)), (bF, .inl (cI, 60, .inl F)), (bS, .inl (cI, 60, .inl S)), (bB, .inl (cZ, 60, .inl B)), (bL, .inl (cI, 4, .inl L)), (bT, .inl (cI, 4, .inl T)), (bU, .inl (cI, 6, .inl U))] t.heap ∧ va_D (va_A [(mo, .inr (2, [.int tw, .ref bL, .ref bT, .int (nI n), .ref bK, .ref bF, .ref bS, .ref bB, .int co, .int pl, .int st, .int jo, .int cn, .int ii, .int fi, .int fe, .ref bU])), (bK, .inl (cI, 60, .inl K)), (bF, .inl (cI, 60, .inl F)), (bS, .inl (cI, 60, .inl S)), (bB, .inl (cZ, 60, .inl B)), (bL, .inl (cI, 4, .inl L)), (bT, .inl (cI, 4, .inl T)), (bU, .inl (cI, 6, .inl U))] sz) [(mo, .inr (2, [.int 3, .ref bL, .ref bT, .int (nI n), .ref bK, .ref bF, .ref bS, .ref bB, .int co, .int pl, .int st, .int jo, .int cn, .int ii, .int fi, .int fe, .ref bU])), (bK, .inl (cI, 60, .inl K)), (bF, .inl (cI, 60, .inl F)), (bS, .inl (cI, 60, .inl S)), (bB, .inl (cZ, 60, .inl B)), (bL, .inl (cI, 4, .inl L)), (bT, .inl (cI, 4, .inl T)), (bU, .inl (cI, 6, .inl U))]) (va_A [(mo, .inr (2, [.int tw, .ref bL, .ref bT, .int (nI n), .ref bK, .ref bF, .ref bS, .ref bB, .int co, .int pl, .int st, .int jo, .int cn, .int ii, .int fi, .int fe, .ref bU])), (bK, .inl (cI, 60, .inl K)), (bF, .inl (cI, 60, .inl F)), (bS, .inl (cI, 60, .inl S)), (bB, .inl (cZ, 60, .inl B)), (bL, .inl (cI, 4, .inl L)), (bT, .inl (cI, 4, .inl T)), (bU, .inl (cI, 6, .inl U))] sz)) 0 0 (va_A [(mo, .inr (2, [.int tw, .ref bL, .ref bT, .int (nI n), .ref bK, .ref bF, .ref bS, .ref bB, .int co, .int pl, .int st, .int jo, .int cn, .int ii, .int fi, .int fe, .ref bU])), (bK, .inl (cI, 60, .inl K)), (bF, .inl (cI, 60, .inl F)), (bS, .inl (cI, 60, .inl S)), (bB, .inl (cZ, 60, .inl B)), (bL, .inl (cI, 4, .inl L)), (bT, .inl (cI, 4, .inl T)), (bU, .inl (cI, 6, .inl U))] sz) := by
  refine Met.ofW (cc := cX2_pay) (maxL := 3) (ret := (some .int)) (by decide) rfl ?_
  intro p e s m args below meth c s₁ BB hml hv
  obtain ⟨rfl, hsz, hP, hK, hD0⟩ := hv
  have hx := BB.exec
  have hb := BB.bytes
  have hr := BB.returns
  have hts := atoms_spec (ws := wsX2_pay) BB.pre
  have hown : s.vm.findClass RX2 = some m.cls := findClass_of_methodNamed BB.named
  have hlocks := BB.notSynchronized
  subst hsz
  have hD := hD0.self (sz := s.heap.size)
  generalize hAe : va_A [(mo, .inr (2, [.int tw, .ref bL, .ref bT, .int (nI n), .ref bK, .ref bF, .ref bS, .ref bB, .int co, .int pl, .int st, .int jo, .int cn, .int ii, .int fi, .int fe, .ref bU])), (bK, .inl (cI, 60, .inl K)), (bF, .inl (cI, 60, .inl F)), (bS, .inl (cI, 60, .inl S)), (bB, .inl (cZ, 60, .inl B)), (bL, .inl (cI, 4, .inl L)), (bT, .inl (cI, 4, .inl T)), (bU, .inl (cI, 6, .inl U))] s.heap.size = A at hD ⊢
  have hA : ∀ q : Nat, s.heap.size ≤ q → A q := fun q h => by rw [← hAe]; exact Or.inr h
  have hS : va_S A s.heap s.heap [] := va_S.rf
  have hP : va_P (dC, dI) vwCl [(mo, .inr (2, [.int tw, .ref bL, .ref bT, .int (nI n), .ref bK, .ref bF, .ref bS, .ref bB, .int co, .int pl, .int st, .int jo, .int cn, .int ii, .int fi, .int fe, .ref bU])), (bK, .inl (cI, 60, .inl K)), (bF, .inl (cI, 60, .inl F)), (bS, .inl (cI, 60, .inl S)), (bB, .inl (cZ, 60, .inl B)), (bL, .inl (cI, 4, .inl L)), (bT, .inl (cI, 4, .inl T)), (bU, .inl (cI, 6, .inl U))] s.heap := hP
  have hl := lv_entry ([.ref mo, .int a, .int b]) (n := 3) (Nat.le_of_ble_eq_true rfl)
  rw [lg_entry_eq]
  generalize (lg_sl ([.ref mo, .int a, .int b]) ++ List.replicate (3 - (lg_sl ([.ref mo, .int a, .int b])).length) Slot.unset).toArray = ls at hl ⊢
  have hl : lv_has ls 3 [(0, .ref mo), (1, .int a), (2, .int b)] := hl
  have k0 := hts (.fieldLink RX2 32 "KnifeLedgerModel" "thrown" "I") (by decide +kernel)
  have hinX2 : ∀ w ∈ wsX20, w ∈ wsX2_pay := by decide +kernel
  have k2 := hts (.fieldLink RX2 36 "KnifeLedgerModel" "entries" "I") (by decide +kernel)
  refine lv_aload_n hx hb dX2_pay_0 rfl (lv_at hl 0 rfl) ?_
  refine lv_iconst (v := 0) hx hb dX2_pay_1 (by decide) ?_
  refine va_put (D := (dC, dI)) (ci := 2) (v := .int 0) (ty := .int) (C := RX2) (T := TX2) (N := 17) hx hb hts hinX2 tyX2 tyX2_ok nmX2 hown hK hP hD hS 0 rfl rfl 0 (by decide) k0 (fun _ h9 => h9) rfl (by decide +kernel) rfl rfl (Nat.le_of_ble_eq_true rfl) dX2_pay_2 (fun H_1 locs hP hD hS => ?_)
  have hP : va_P (dC, dI) vwCl [(mo, .inr (2, [.int 0, .ref bL, .ref bT, .int (nI n), .ref bK, .ref bF, .ref bS, .ref bB, .int co, .int pl, .int st, .int jo, .int cn, .int ii, .int fi, .int fe, .ref bU])), (bK, .inl (cI, 60, .inl K)), (bF, .inl (cI, 60, .inl F)), (bS, .inl (cI, 60, .inl S)), (bB, .inl (cZ, 60, .inl B)), (bL, .inl (cI, 4, .inl L)), (bT, .inl (cI, 4, .inl T)), (bU, .inl (cI, 6, .inl U))] H_1 := hP
  have hD : va_D A [(mo, .inr (2, [.int 0, .ref bL, .ref bT, .int (nI n), .ref bK, .ref bF, .ref bS, .ref bB, .int co, .int pl, .int st, .int jo, .int cn, .int ii, .int fi, .int fe, .ref bU])), (bK, .inl (cI, 60, .inl K)), (bF, .inl (cI, 60, .inl F)), (bS, .inl (cI, 60, .inl S)), (bB, .inl (cZ, 60, .inl B)), (bL, .inl (cI, 4, .inl L)), (bT, .inl (cI, 4, .inl T)), (bU, .inl (cI, 6, .inl U))] := hD
  refine lv_iload_n hx hb dX2_pay_5 rfl (lv_at hl 1 rfl) ?_
  refine lv_iconst (v := 0) hx hb dX2_pay_6 (by decide) ?_
  refine lv_iconst (v := 5) hx hb dX2_pay_7 (by decide) ?_
  have hPc := hP.sub (ws' := []) [] rfl
  have hDc := hD.sub (ws' := []) [] (by decide) rfl
  have hKc := hK.sub (tys' := []) [] rfl
  have hFc := va_free (wc := []) hD hS hA [] rfl
  refine va_calli (va_runS (As := [.int a, .int 0, .int 5]) (rest := []) ⟨hx, hb, hml, hown, hts⟩ (c_X2_isIn l dC dI H_1.size a 0 5) (va_cwS 3 hts gX2_pay_X2_isIn rfl rfl rfl (by decide +kernel) ⟨Nat.le_of_ble_eq_true rfl, Nat.le_of_ble_eq_true rfl⟩) (pc_S hKc hPc hDc) rfl rfl hl.1 rfl (lv_room (Nat.le_of_ble_eq_true rfl)) dX2_pay_8 ⟨Nat.le_of_ble_eq_true rfl, Nat.le_of_ble_eq_true rfl⟩) hS (fun q _ h => hFc q h) hFc (fun r_2 u t H_2 locs ht hvm hw hB hz1 hk1 hS => ?_)
  try dsimp only at hw hB
  have hw_2 := hw
  replace hw_2 := hw_2.symm
  subst hw_2
  obtain ⟨hP1, hD1⟩ := hB
  rw [ht] at hP1
  obtain ⟨hP, hD⟩ := va_join (wr := [(mo, .inr (2, [.int 0, .ref bL, .ref bT, .int (nI n), .ref bK, .ref bF, .ref bS, .ref bB, .int co, .int pl, .int st, .int jo, .int cn, .int ii, .int fi, .int fe, .ref bU])), (bK, .inl (cI, 60, .inl K)), (bF, .inl (cI, 60, .inl F)), (bS, .inl (cI, 60, .inl S)), (bB, .inl (cZ, 60, .inl B)), (bL, .inl (cI, 4, .inl L)), (bT, .inl (cI, 4, .inl T)), (bU, .inl (cI, 6, .inl U))]) (w1 := []) hP hD [] [0, 1, 2, 3, 4, 5, 6, 7] rfl rfl (by decide) (by decide) hk1 hFc hP1 hD1
  have hP : va_P (dC, dI) vwCl [(mo, .inr (2, [.int 0, .ref bL, .ref bT, .int (nI n), .ref bK, .ref bF, .ref bS, .ref bB, .int co, .int pl, .int st, .int jo, .int cn, .int ii, .int fi, .int fe, .ref bU])), (bK, .inl (cI, 60, .inl K)), (bF, .inl (cI, 60, .inl F)), (bS, .inl (cI, 60, .inl S)), (bB, .inl (cZ, 60, .inl B)), (bL, .inl (cI, 4, .inl L)), (bT, .inl (cI, 4, .inl T)), (bU, .inl (cI, 6, .inl U))] H_2 := hP
  have hD : va_D A [(mo, .inr (2, [.int 0, .ref bL, .ref bT, .int (nI n), .ref bK, .ref bF, .ref bS, .ref bB, .int co, .int pl, .int st, .int jo, .int cn, .int ii, .int fi, .int fe, .ref bU])), (bK, .inl (cI, 60, .inl K)), (bF, .inl (cI, 60, .inl F)), (bS, .inl (cI, 60, .inl S)), (bB, .inl (cZ, 60, .inl B)), (bL, .inl (cI, 4, .inl L)), (bT, .inl (cI, 4, .inl T)), (bU, .inl (cI, 6, .inl U))] := hD
  refine lv_if_ne (tgt := 20) hx hb dX2_pay_11 (by decide) (fun _ => ?_) (fun h9 => absurd h9 (by rw [mIn_ok h0 h1]; exact one_ne))
  refine lv_iload_n hx hb dX2_pay_20 rfl (lv_at hl 2 rfl) ?_
  refine lv_iconst (v := 1) hx hb dX2_pay_21 (by decide) ?_
  refine lv_bipush (v := 99) hx hb dX2_pay_22 (by decide) ?_
  have hPc := hP.sub (ws' := []) [] rfl
  have hDc := hD.sub (ws' := []) [] (by decide) rfl
  have hKc := hK.sub (tys' := []) [] rfl
  have hFc := va_free (wc := []) hD hS hA [] rfl
  refine va_calli (va_runS (As := [.int b, .int 1, .int 99]) (rest := []) ⟨hx, hb, hml, hown, hts⟩ (c_X2_isIn l dC dI H_2.size b 1 99) (va_cwS 3 hts gX2_pay_X2_isIn rfl rfl rfl (by decide +kernel) ⟨Nat.le_of_ble_eq_true rfl, Nat.le_of_ble_eq_true rfl⟩) (pc_S hKc hPc hDc) rfl rfl hl.1 rfl (lv_room (Nat.le_of_ble_eq_true rfl)) dX2_pay_24 ⟨Nat.le_of_ble_eq_true rfl, Nat.le_of_ble_eq_true rfl⟩) hS (fun q _ h => hFc q h) hFc (fun r_3 u t H_3 locs ht hvm hw hB hz1 hk1 hS => ?_)
  try dsimp only at hw hB
  have hw_3 := hw
  replace hw_3 := hw_3.symm
  subst hw_3
  obtain ⟨hP1, hD1⟩ := hB
  rw [ht] at hP1
  obtain ⟨hP, hD⟩ := va_join (wr := [(mo, .inr (2, [.int 0, .ref bL, .ref bT, .int (nI n), .ref bK, .ref bF, .ref bS, .ref bB, .int co, .int pl, .int st, .int jo, .int cn, .int ii, .int fi, .int fe, .ref bU])), (bK, .inl (cI, 60, .inl K)), (bF, .inl (cI, 60, .inl F)), (bS, .inl (cI, 60, .inl S)), (bB, .inl (cZ, 60, .inl B)), (bL, .inl (cI, 4, .inl L)), (bT, .inl (cI, 4, .inl T)), (bU, .inl (cI, 6, .inl U))]) (w1 := []) hP hD [] [0, 1, 2, 3, 4, 5, 6, 7] rfl rfl (by decide) (by decide) hk1 hFc hP1 hD1
  have hP : va_P (dC, dI) vwCl [(mo, .inr (2, [.int 0, .ref bL, .ref bT, .int (nI n), .ref bK, .ref bF, .ref bS, .ref bB, .int co, .int pl, .int st, .int jo, .int cn, .int ii, .int fi, .int fe, .ref bU])), (bK, .inl (cI, 60, .inl K)), (bF, .inl (cI, 60, .inl F)), (bS, .inl (cI, 60, .inl S)), (bB, .inl (cZ, 60, .inl B)), (bL, .inl (cI, 4, .inl L)), (bT, .inl (cI, 4, .inl T)), (bU, .inl (cI, 6, .inl U))] H_3 := hP
  have hD : va_D A [(mo, .inr (2, [.int 0, .ref bL, .ref bT, .int (nI n), .ref bK, .ref bF, .ref bS, .ref bB, .int co, .int pl, .int st, .int jo, .int cn, .int ii, .int fi, .int fe, .ref bU])), (bK, .inl (cI, 60, .inl K)), (bF, .inl (cI, 60, .inl F)), (bS, .inl (cI, 60, .inl S)), (bB, .inl (cZ, 60, .inl B)), (bL, .inl (cI, 4, .inl L)), (bT, .inl (cI, 4, .inl T)), (bU, .inl (cI, 6, .inl U))] := hD
  refine lv_if_ne (tgt := 36) hx hb dX2_pay_27 (by decide) (fun _ => ?_) (fun h9 => absurd h9 (by rw [mIn_ok h2 h3]; exact one_ne))
  refine lv_aload_n hx hb dX2_pay_36 rfl (lv_at hl 0 rfl) ?_
  refine va_get (D := (dC, dI)) (ci := 2) (v := .int (nI n)) (C := RX2) (T := TX2) (N := 17) hx hb hts hinX2 hown hK hP 0 rfl rfl 3 (by decide) k2 (fun _ h9 => h9) rfl dX2_pay_37 ?_
  refine lv_bipush (v := 60) hx hb dX2_pay_40 (by decide) ?_
  refine lv_icmp_ne (tgt := 53) hx hb dX2_pay_42 (by decide) (fun h9 => absurd (by rw [hn]; rfl) h9) (fun _ => ?_)
  refine lv_aload_n hx hb dX2_pay_45 rfl (lv_at hl 0 rfl) ?_
  refine lv_iconst (v := 3) hx hb dX2_pay_46 (by decide) ?_
  have hPc := hP.sub (ws' := [(mo, .inr (2, [.int 0, .ref bL, .ref bT, .int (nI n), .ref bK, .ref bF, .ref bS, .ref bB, .int co, .int pl, .int st, .int jo, .int cn, .int ii, .int fi, .int fe, .ref bU])), (bK, .inl (cI, 60, .inl K)), (bF, .inl (cI, 60, .inl F)), (bS, .inl (cI, 60, .inl S)), (bB, .inl (cZ, 60, .inl B)), (bL, .inl (cI, 4, .inl L)), (bT, .inl (cI, 4, .inl T)), (bU, .inl (cI, 6, .inl U))]) [0, 1, 2, 3, 4, 5, 6, 7] rfl
  have hDc := hD.sub (ws' := [(mo, .inr (2, [.int 0, .ref bL, .ref bT, .int (nI n), .ref bK, .ref bF, .ref bS, .ref bB, .int co, .int pl, .int st, .int jo, .int cn, .int ii, .int fi, .int fe, .ref bU])), (bK, .inl (cI, 60, .inl K)), (bF, .inl (cI, 60, .inl F)), (bS, .inl (cI, 60, .inl S)), (bB, .inl (cZ, 60, .inl B)), (bL, .inl (cI, 4, .inl L)), (bT, .inl (cI, 4, .inl T)), (bU, .inl (cI, 6, .inl U))]) [0, 1, 2, 3, 4, 5, 6, 7] (by decide) rfl
  have hKc := hK.sub (tys' := [(cI, .int), (cZ, .boolean)]) [0, 1] rfl
  have hFc := va_free (wc := [(mo, .inr (2, [.int 0, .ref bL, .ref bT, .int (nI n), .ref bK, .ref bF, .ref bS, .ref bB, .int co, .int pl, .int st, .int jo, .int cn, .int ii, .int fi, .int fe, .ref bU])), (bK, .inl (cI, 60, .inl K)), (bF, .inl (cI, 60, .inl F)), (bS, .inl (cI, 60, .inl S)), (bB, .inl (cZ, 60, .inl B)), (bL, .inl (cI, 4, .inl L)), (bT, .inl (cI, 4, .inl T)), (bU, .inl (cI, 6, .inl U))]) hD hS hA [0, 1, 2, 3, 4, 5, 6, 7] rfl
  refine va_calli (va_runV (As := [.int 3]) (rest := []) ⟨hx, hb, hml, hown, hts⟩ (c_X2_fail l dC dI cI cZ mo bK bF bS bB bL bT bU H_3.size L T K F S B U n 0 co pl st jo cn ii fi fe 3) (cwV 1 hts gX2_pay_X2_fail rfl rfl rfl (by decide +kernel) ⟨Nat.le_of_ble_eq_true rfl, Nat.le_of_ble_eq_true rfl⟩) (pc_V hKc hPc hDc (ci := 2) (C := RX2) (T := TX2) (N := 17) (q0 := 0) rfl rfl) rfl rfl hl.1 rfl (lv_room (Nat.le_of_ble_eq_true rfl)) dX2_pay_47 ⟨Nat.le_of_ble_eq_true rfl, Nat.le_of_ble_eq_true rfl⟩) hS (fun q _ h => hFc q h) hFc (fun r_4 u t H_4 locs ht hvm hw hB hz1 hk1 hS => ?_)
  try dsimp only at hw hB
  have hw_4 := hw
  replace hw_4 := hw_4.symm
  subst hw_4
  obtain ⟨hP1, hD1⟩ := hB
  rw [ht] at hP1
  obtain ⟨hP, hD⟩ := va_join (wr := []) (w1 := [(mo, .inr (2, [.int 3, .ref bL, .ref bT, .int (nI n), .ref bK, .ref bF, .ref bS, .ref bB, .int co, .int pl, .int st, .int jo, .int cn, .int ii, .int fi, .int fe, .ref bU])), (bK, .inl (cI, 60, .inl K)), (bF, .inl (cI, 60, .inl F)), (bS, .inl (cI, 60, .inl S)), (bB, .inl (cZ, 60, .inl B)), (bL, .inl (cI, 4, .inl L)), (bT, .inl (cI, 4, .inl T)), (bU, .inl (cI, 6, .inl U))]) hP hD [0, 1, 2, 3, 4, 5, 6, 7] [] rfl rfl (by decide) (by decide) hk1 hFc hP1 hD1
  have hP : va_P (dC, dI) vwCl [(mo, .inr (2, [.int 3, .ref bL, .ref bT, .int (nI n), .ref bK, .ref bF, .ref bS, .ref bB, .int co, .int pl, .int st, .int jo, .int cn, .int ii, .int fi, .int fe, .ref bU])), (bK, .inl (cI, 60, .inl K)), (bF, .inl (cI, 60, .inl F)), (bS, .inl (cI, 60, .inl S)), (bB, .inl (cZ, 60, .inl B)), (bL, .inl (cI, 4, .inl L)), (bT, .inl (cI, 4, .inl T)), (bU, .inl (cI, 6, .inl U))] H_4 := hP
  have hD : va_D A [(mo, .inr (2, [.int 3, .ref bL, .ref bT, .int (nI n), .ref bK, .ref bF, .ref bS, .ref bB, .int co, .int pl, .int st, .int jo, .int cn, .int ii, .int fi, .int fe, .ref bU])), (bK, .inl (cI, 60, .inl K)), (bF, .inl (cI, 60, .inl F)), (bS, .inl (cI, 60, .inl S)), (bB, .inl (cZ, 60, .inl B)), (bL, .inl (cI, 4, .inl L)), (bT, .inl (cI, 4, .inl T)), (bU, .inl (cI, 6, .inl U))] := hD
  refine lv_goto (tgt := 60) hx hb dX2_pay_50 (by decide) ?_
  have hpost : (0 : Int32) = 0 := by
    rfl
  have hP9 := hP.sub (ws' := [(mo, .inr (2, [.int 3, .ref bL, .ref bT, .int (nI n), .ref bK, .ref bF, .ref bS, .ref bB, .int co, .int pl, .int st, .int jo, .int cn, .int ii, .int fi, .int fe, .ref bU])), (bK, .inl (cI, 60, .inl K)), (bF, .inl (cI, 60, .inl F)), (bS, .inl (cI, 60, .inl S)), (bB, .inl (cZ, 60, .inl B)), (bL, .inl (cI, 4, .inl L)), (bT, .inl (cI, 4, .inl T)), (bU, .inl (cI, 6, .inl U))]) [0, 1, 2, 3, 4, 5, 6, 7] rfl
  have hD9 := hD.sub (ws' := [(mo, .inr (2, [.int 3, .ref bL, .ref bT, .int (nI n), .ref bK, .ref bF, .ref bS, .ref bB, .int co, .int pl, .int st, .int jo, .int cn, .int ii, .int fi, .int fe, .ref bU])), (bK, .inl (cI, 60, .inl K)), (bF, .inl (cI, 60, .inl F)), (bS, .inl (cI, 60, .inl S)), (bB, .inl (cZ, 60, .inl B)), (bL, .inl (cI, 4, .inl L)), (bT, .inl (cI, 4, .inl T)), (bU, .inl (cI, 6, .inl U))]) [0, 1, 2, 3, 4, 5, 6, 7] (by decide) rfl
  exact W.iret (v := 0) hx hb hr (fun t ht hW => ⟨⟨0, (), rfl, hpost, by rw [ht]; exact hP9, hD9⟩, hS.F ht⟩) hS.2.2 dX2_pay_60

set_option maxHeartbeats 4000000 in
set_option maxRecDepth 100000 in
theorem c_X2_buy (l : Launch) (dC : Nat → ClassId) (dI : Nat → Nat → Nat) (cI cZ : ClassId) (mo bK bF bS bB bL bT bU : Nat) (sz : Nat) (L : N2I) (T : N2I) (K : N2I) (F : N2I) (S : N2I) (B : N2I) (U : N2I) (n : Nat) (tw : Int32) (co : Int32) (pl : Int32) (st : Int32) (jo : Int32) (cn : Int32) (ii : Int32) (fi : Int32) (fe : Int32) (a : Int32) (h0 : ¬ a < 1) (h1 : ¬ 20 < a) (hn : n < 60) : Met l yX2_buy wsX2_buy ({ frames := 2, cells := 0, slots := 0, locals := 52 } : Room) (va_Pc [.ref mo, .int a] (pc_ (dC, dI) [(cI, .int), (cZ, .boolean)] [(mo, .inr (2, [.int tw, .ref bL, .ref bT, .int (nI n), .ref bK, .ref bF, .ref bS, .ref bB, .int co, .int pl, .int st, .int jo, .int cn, .int ii, .int fi, .int fe, .ref bU])), (bK, .inl (cI, 60, .inl K)), (bF, .inl (cI, 60, .inl F)), (bS, .inl (cI, 60, .inl S)), (bB, .inl (cZ, 60, .inl B)), (bL, .inl (cI, 4, .inl L)), (bT, .inl (cI, 4, .inl T)), (bU, .inl (cI, 6, .inl U))] sz)) (va_Qi (fun (r : Int32) (u : Unit) => r = nI n) (fun (u : Unit) (t : State) => va_P (dC, dI) vwCl [(mo, .inr (2, [.int 0, .ref bL, .ref bT, .int (nI (n + 1)), .ref bK, .ref bF, .ref bS, .ref bB, .int co, .int pl, .int st, .int jo, .int cn, .int ii, .int fi, .int fe, .ref bU])), (bK, .inl (cI, 60, .inl (upd K n 5))), (bF, .inl (cI, 60, .inl (upd F n a))), (bS, .inl (cI, 60, .inl (upd S n 0))), (bB, .inl (cZ, 60, .inl (upd B n 0))), (bL, .inl (cI, 4, .inl L)), (bT, .inl (cI, 4, .inl T)), (bU, .inl (cI, 6, .inl U))] t.heap ∧ va_D (va_A [(mo, .inr (2, [.int tw, .ref bL, .ref bT, .int (nI n), .ref bK, .ref bF, .ref bS, .ref bB, .int co, .int pl, .int st, .int jo, .int cn, .int ii, .int fi, .int fe, .ref bU])), (bK, .inl (cI, 60, .inl K)), (bF, .inl (cI, 60, .inl F)), (bS, .inl (cI, 60, .inl S)), (bB, .inl (cZ, 60, .inl B)), (bL, .inl (cI, 4, .inl L)), (bT, .inl (cI, 4, .inl T)), (bU, .inl (cI, 6, .inl U))] sz) [(mo, .inr (2, [.int 0, .ref bL, .ref bT, .int (nI (n + 1)), .ref bK, .ref bF, .ref bS, .ref bB, .int co, .int pl, .int st, .int jo, .int cn, .int ii, .int fi, .int fe, .ref bU])), (bK, .inl (cI, 60, .inl (upd K n 5))), (bF, .inl (cI, 60, .inl (upd F n a))), (bS, .inl (cI, 60, .inl (upd S n 0))), (bB, .inl (cZ, 60, .inl (upd B n 0))), (bL, .inl (cI, 4, .inl L)), (bT, .inl (cI, 4, .inl T)), (bU, .inl (cI, 6, .inl U))]) (va_A [(mo, .inr (2, [.int tw, .ref bL, .ref bT, .int (nI n), .ref bK, .ref bF, .ref bS, .ref bB, .int co, .int pl, .int st, .int jo, .int cn, .int ii, .int fi, .int fe, .ref bU])), (bK, .inl (cI, 60, .inl K)), (bF, .inl (cI, 60, .inl F)), (bS, .inl (cI, 60, .inl S)), (bB, .inl (cZ, 60, .inl B)), (bL, .inl (cI, 4, .inl L)), (bT, .inl (cI, 4, .inl T)), (bU, .inl (cI, 6, .inl U))] sz)) 0 0 (va_A [(mo, .inr (2, [.int tw, .ref bL, .ref bT, .int (nI n), .ref bK, .ref bF, .ref bS, .ref bB, .int co, .int pl, .int st, .int jo, .int cn, .int ii, .int fi, .int fe, .ref bU])), (bK, .inl (cI, 60, .inl K)), (bF, .inl (cI, 60, .inl F)), (bS, .inl (cI, 60, .inl S)), (bB, .inl (cZ, 60, .inl B)), (bL, .inl (cI, 4, .inl L)), (bT, .inl (cI, 4, .inl T)), (bU, .inl (cI, 6, .inl U))] sz) := by
  refine Met.ofW (cc := cX2_buy) (maxL := 2) (ret := (some .int)) (by decide) rfl ?_
  intro p e s m args below meth c s₁ BB hml hv
  obtain ⟨rfl, hsz, hP, hK, hD0⟩ := hv
  have hx := BB.exec
  have hb := BB.bytes
  have hr := BB.returns
  have hts := atoms_spec (ws := wsX2_buy) BB.pre
  have hown : s.vm.findClass RX2 = some m.cls := findClass_of_methodNamed BB.named
  have hlocks := BB.notSynchronized
  subst hsz
  have hD := hD0.self (sz := s.heap.size)
  generalize hAe : va_A [(mo, .inr (2, [.int tw, .ref bL, .ref bT, .int (nI n), .ref bK, .ref bF, .ref bS, .ref bB, .int co, .int pl, .int st, .int jo, .int cn, .int ii, .int fi, .int fe, .ref bU])), (bK, .inl (cI, 60, .inl K)), (bF, .inl (cI, 60, .inl F)), (bS, .inl (cI, 60, .inl S)), (bB, .inl (cZ, 60, .inl B)), (bL, .inl (cI, 4, .inl L)), (bT, .inl (cI, 4, .inl T)), (bU, .inl (cI, 6, .inl U))] s.heap.size = A at hD ⊢
  have hA : ∀ q : Nat, s.heap.size ≤ q → A q := fun q h => by rw [← hAe]; exact Or.inr h
  have hS : va_S A s.heap s.heap [] := va_S.rf
  have hP : va_P (dC, dI) vwCl [(mo, .inr (2, [.int tw, .ref bL, .ref bT, .int (nI n), .ref bK, .ref bF, .ref bS, .ref bB, .int co, .int pl, .int st, .int jo, .int cn, .int ii, .int fi, .int fe, .ref bU])), (bK, .inl (cI, 60, .inl K)), (bF, .inl (cI, 60, .inl F)), (bS, .inl (cI, 60, .inl S)), (bB, .inl (cZ, 60, .inl B)), (bL, .inl (cI, 4, .inl L)), (bT, .inl (cI, 4, .inl T)), (bU, .inl (cI, 6, .inl U))] s.heap := hP
  have hl := lv_entry ([.ref mo, .int a]) (n := 2) (Nat.le_of_ble_eq_true rfl)
  rw [lg_entry_eq]
  generalize (lg_sl ([.ref mo, .int a]) ++ List.replicate (2 - (lg_sl ([.ref mo, .int a])).length) Slot.unset).toArray = ls at hl ⊢
  have hl : lv_has ls 2 [(0, .ref mo), (1, .int a)] := hl
  have k0 := hts (.fieldLink RX2 32 "KnifeLedgerModel" "thrown" "I") (by decide +kernel)
  have hinX2 : ∀ w ∈ wsX20, w ∈ wsX2_buy := by decide +kernel
  have k2 := hts (.fieldLink RX2 36 "KnifeLedgerModel" "entries" "I") (by decide +kernel)
  refine lv_aload_n hx hb dX2_buy_0 rfl (lv_at hl 0 rfl) ?_
  refine lv_iconst (v := 0) hx hb dX2_buy_1 (by decide) ?_
  refine va_put (D := (dC, dI)) (ci := 2) (v := .int 0) (ty := .int) (C := RX2) (T := TX2) (N := 17) hx hb hts hinX2 tyX2 tyX2_ok nmX2 hown hK hP hD hS 0 rfl rfl 0 (by decide) k0 (fun _ h9 => h9) rfl (by decide +kernel) rfl rfl (Nat.le_of_ble_eq_true rfl) dX2_buy_2 (fun H_1 locs hP hD hS => ?_)
  have hP : va_P (dC, dI) vwCl [(mo, .inr (2, [.int 0, .ref bL, .ref bT, .int (nI n), .ref bK, .ref bF, .ref bS, .ref bB, .int co, .int pl, .int st, .int jo, .int cn, .int ii, .int fi, .int fe, .ref bU])), (bK, .inl (cI, 60, .inl K)), (bF, .inl (cI, 60, .inl F)), (bS, .inl (cI, 60, .inl S)), (bB, .inl (cZ, 60, .inl B)), (bL, .inl (cI, 4, .inl L)), (bT, .inl (cI, 4, .inl T)), (bU, .inl (cI, 6, .inl U))] H_1 := hP
  have hD : va_D A [(mo, .inr (2, [.int 0, .ref bL, .ref bT, .int (nI n), .ref bK, .ref bF, .ref bS, .ref bB, .int co, .int pl, .int st, .int jo, .int cn, .int ii, .int fi, .int fe, .ref bU])), (bK, .inl (cI, 60, .inl K)), (bF, .inl (cI, 60, .inl F)), (bS, .inl (cI, 60, .inl S)), (bB, .inl (cZ, 60, .inl B)), (bL, .inl (cI, 4, .inl L)), (bT, .inl (cI, 4, .inl T)), (bU, .inl (cI, 6, .inl U))] := hD
  refine lv_iload_n hx hb dX2_buy_5 rfl (lv_at hl 1 rfl) ?_
  refine lv_iconst (v := 1) hx hb dX2_buy_6 (by decide) ?_
  refine lv_bipush (v := 20) hx hb dX2_buy_7 (by decide) ?_
  have hPc := hP.sub (ws' := []) [] rfl
  have hDc := hD.sub (ws' := []) [] (by decide) rfl
  have hKc := hK.sub (tys' := []) [] rfl
  have hFc := va_free (wc := []) hD hS hA [] rfl
  refine va_calli (va_runS (As := [.int a, .int 1, .int 20]) (rest := []) ⟨hx, hb, hml, hown, hts⟩ (c_X2_isIn l dC dI H_1.size a 1 20) (va_cwS 3 hts gX2_buy_X2_isIn rfl rfl rfl (by decide +kernel) ⟨Nat.le_of_ble_eq_true rfl, Nat.le_of_ble_eq_true rfl⟩) (pc_S hKc hPc hDc) rfl rfl hl.1 rfl (lv_room (Nat.le_of_ble_eq_true rfl)) dX2_buy_9 ⟨Nat.le_of_ble_eq_true rfl, Nat.le_of_ble_eq_true rfl⟩) hS (fun q _ h => hFc q h) hFc (fun r_2 u t H_2 locs ht hvm hw hB hz1 hk1 hS => ?_)
  try dsimp only at hw hB
  have hw_2 := hw
  replace hw_2 := hw_2.symm
  subst hw_2
  obtain ⟨hP1, hD1⟩ := hB
  rw [ht] at hP1
  obtain ⟨hP, hD⟩ := va_join (wr := [(mo, .inr (2, [.int 0, .ref bL, .ref bT, .int (nI n), .ref bK, .ref bF, .ref bS, .ref bB, .int co, .int pl, .int st, .int jo, .int cn, .int ii, .int fi, .int fe, .ref bU])), (bK, .inl (cI, 60, .inl K)), (bF, .inl (cI, 60, .inl F)), (bS, .inl (cI, 60, .inl S)), (bB, .inl (cZ, 60, .inl B)), (bL, .inl (cI, 4, .inl L)), (bT, .inl (cI, 4, .inl T)), (bU, .inl (cI, 6, .inl U))]) (w1 := []) hP hD [] [0, 1, 2, 3, 4, 5, 6, 7] rfl rfl (by decide) (by decide) hk1 hFc hP1 hD1
  have hP : va_P (dC, dI) vwCl [(mo, .inr (2, [.int 0, .ref bL, .ref bT, .int (nI n), .ref bK, .ref bF, .ref bS, .ref bB, .int co, .int pl, .int st, .int jo, .int cn, .int ii, .int fi, .int fe, .ref bU])), (bK, .inl (cI, 60, .inl K)), (bF, .inl (cI, 60, .inl F)), (bS, .inl (cI, 60, .inl S)), (bB, .inl (cZ, 60, .inl B)), (bL, .inl (cI, 4, .inl L)), (bT, .inl (cI, 4, .inl T)), (bU, .inl (cI, 6, .inl U))] H_2 := hP
  have hD : va_D A [(mo, .inr (2, [.int 0, .ref bL, .ref bT, .int (nI n), .ref bK, .ref bF, .ref bS, .ref bB, .int co, .int pl, .int st, .int jo, .int cn, .int ii, .int fi, .int fe, .ref bU])), (bK, .inl (cI, 60, .inl K)), (bF, .inl (cI, 60, .inl F)), (bS, .inl (cI, 60, .inl S)), (bB, .inl (cZ, 60, .inl B)), (bL, .inl (cI, 4, .inl L)), (bT, .inl (cI, 4, .inl T)), (bU, .inl (cI, 6, .inl U))] := hD
  refine lv_if_ne (tgt := 21) hx hb dX2_buy_12 (by decide) (fun _ => ?_) (fun h9 => absurd h9 (by rw [mIn_ok h0 h1]; exact one_ne))
  refine lv_aload_n hx hb dX2_buy_21 rfl (lv_at hl 0 rfl) ?_
  refine va_get (D := (dC, dI)) (ci := 2) (v := .int (nI n)) (C := RX2) (T := TX2) (N := 17) hx hb hts hinX2 hown hK hP 0 rfl rfl 3 (by decide) k2 (fun _ h9 => h9) rfl dX2_buy_22 ?_
  refine lv_bipush (v := 60) hx hb dX2_buy_25 (by decide) ?_
  refine lv_icmp_ne (tgt := 38) hx hb dX2_buy_27 (by decide) (fun _ => ?_) (fun h9 => absurd h9 (mD_ne hn))
  refine lv_aload_n hx hb dX2_buy_38 rfl (lv_at hl 0 rfl) ?_
  refine lv_iconst (v := 5) hx hb dX2_buy_39 (by decide) ?_
  refine lv_iload_n hx hb dX2_buy_40 rfl (lv_at hl 1 rfl) ?_
  refine lv_iconst (v := 0) hx hb dX2_buy_41 (by decide) ?_
  have hPc := hP.sub (ws' := [(mo, .inr (2, [.int 0, .ref bL, .ref bT, .int (nI n), .ref bK, .ref bF, .ref bS, .ref bB, .int co, .int pl, .int st, .int jo, .int cn, .int ii, .int fi, .int fe, .ref bU])), (bK, .inl (cI, 60, .inl K)), (bF, .inl (cI, 60, .inl F)), (bS, .inl (cI, 60, .inl S)), (bB, .inl (cZ, 60, .inl B)), (bL, .inl (cI, 4, .inl L)), (bT, .inl (cI, 4, .inl T)), (bU, .inl (cI, 6, .inl U))]) [0, 1, 2, 3, 4, 5, 6, 7] rfl
  have hDc := hD.sub (ws' := [(mo, .inr (2, [.int 0, .ref bL, .ref bT, .int (nI n), .ref bK, .ref bF, .ref bS, .ref bB, .int co, .int pl, .int st, .int jo, .int cn, .int ii, .int fi, .int fe, .ref bU])), (bK, .inl (cI, 60, .inl K)), (bF, .inl (cI, 60, .inl F)), (bS, .inl (cI, 60, .inl S)), (bB, .inl (cZ, 60, .inl B)), (bL, .inl (cI, 4, .inl L)), (bT, .inl (cI, 4, .inl T)), (bU, .inl (cI, 6, .inl U))]) [0, 1, 2, 3, 4, 5, 6, 7] (by decide) rfl
  have hKc := hK.sub (tys' := [(cI, .int), (cZ, .boolean)]) [0, 1] rfl
  have hFc := va_free (wc := [(mo, .inr (2, [.int 0, .ref bL, .ref bT, .int (nI n), .ref bK, .ref bF, .ref bS, .ref bB, .int co, .int pl, .int st, .int jo, .int cn, .int ii, .int fi, .int fe, .ref bU])), (bK, .inl (cI, 60, .inl K)), (bF, .inl (cI, 60, .inl F)), (bS, .inl (cI, 60, .inl S)), (bB, .inl (cZ, 60, .inl B)), (bL, .inl (cI, 4, .inl L)), (bT, .inl (cI, 4, .inl T)), (bU, .inl (cI, 6, .inl U))]) hD hS hA [0, 1, 2, 3, 4, 5, 6, 7] rfl
  refine va_calli (va_runV (As := [.int 5, .int a, .int 0]) (rest := []) ⟨hx, hb, hml, hown, hts⟩ (c_X2_write l dC dI cI cZ mo bK bF bS bB bL bT bU H_2.size L T K F S B U n 0 co pl st jo cn ii fi fe 5 a 0 (hn)) (cwV 3 hts gX2_buy_X2_write rfl rfl rfl (by decide +kernel) ⟨Nat.le_of_ble_eq_true rfl, Nat.le_of_ble_eq_true rfl⟩) (pc_V hKc hPc hDc (ci := 2) (C := RX2) (T := TX2) (N := 17) (q0 := 0) rfl rfl) rfl rfl hl.1 rfl (lv_room (Nat.le_of_ble_eq_true rfl)) dX2_buy_42 ⟨Nat.le_of_ble_eq_true rfl, Nat.le_of_ble_eq_true rfl⟩) hS (fun q _ h => hFc q h) hFc (fun r_3 u t H_3 locs ht hvm hw hB hz1 hk1 hS => ?_)
  try dsimp only at hw hB
  have hw_3 := hw
  replace hw_3 := hw_3.symm
  subst hw_3
  obtain ⟨hP1, hD1⟩ := hB
  rw [ht] at hP1
  obtain ⟨hP, hD⟩ := va_join (wr := []) (w1 := [(mo, .inr (2, [.int 0, .ref bL, .ref bT, .int (nI (n + 1)), .ref bK, .ref bF, .ref bS, .ref bB, .int co, .int pl, .int st, .int jo, .int cn, .int ii, .int fi, .int fe, .ref bU])), (bK, .inl (cI, 60, .inl (upd K n 5))), (bF, .inl (cI, 60, .inl (upd F n a))), (bS, .inl (cI, 60, .inl (upd S n 0))), (bB, .inl (cZ, 60, .inl (upd B n 0))), (bL, .inl (cI, 4, .inl L)), (bT, .inl (cI, 4, .inl T)), (bU, .inl (cI, 6, .inl U))]) hP hD [0, 1, 2, 3, 4, 5, 6, 7] [] rfl rfl (by decide) (by decide) hk1 hFc hP1 hD1
  have hP : va_P (dC, dI) vwCl [(mo, .inr (2, [.int 0, .ref bL, .ref bT, .int (nI (n + 1)), .ref bK, .ref bF, .ref bS, .ref bB, .int co, .int pl, .int st, .int jo, .int cn, .int ii, .int fi, .int fe, .ref bU])), (bK, .inl (cI, 60, .inl (upd K n 5))), (bF, .inl (cI, 60, .inl (upd F n a))), (bS, .inl (cI, 60, .inl (upd S n 0))), (bB, .inl (cZ, 60, .inl (upd B n 0))), (bL, .inl (cI, 4, .inl L)), (bT, .inl (cI, 4, .inl T)), (bU, .inl (cI, 6, .inl U))] H_3 := hP
  have hD : va_D A [(mo, .inr (2, [.int 0, .ref bL, .ref bT, .int (nI (n + 1)), .ref bK, .ref bF, .ref bS, .ref bB, .int co, .int pl, .int st, .int jo, .int cn, .int ii, .int fi, .int fe, .ref bU])), (bK, .inl (cI, 60, .inl (upd K n 5))), (bF, .inl (cI, 60, .inl (upd F n a))), (bS, .inl (cI, 60, .inl (upd S n 0))), (bB, .inl (cZ, 60, .inl (upd B n 0))), (bL, .inl (cI, 4, .inl L)), (bT, .inl (cI, 4, .inl T)), (bU, .inl (cI, 6, .inl U))] := hD
  have hpost : (nI n) = nI n := by
    rfl
  have hP9 := hP.sub (ws' := [(mo, .inr (2, [.int 0, .ref bL, .ref bT, .int (nI (n + 1)), .ref bK, .ref bF, .ref bS, .ref bB, .int co, .int pl, .int st, .int jo, .int cn, .int ii, .int fi, .int fe, .ref bU])), (bK, .inl (cI, 60, .inl (upd K n 5))), (bF, .inl (cI, 60, .inl (upd F n a))), (bS, .inl (cI, 60, .inl (upd S n 0))), (bB, .inl (cZ, 60, .inl (upd B n 0))), (bL, .inl (cI, 4, .inl L)), (bT, .inl (cI, 4, .inl T)), (bU, .inl (cI, 6, .inl U))]) [0, 1, 2, 3, 4, 5, 6, 7] rfl
  have hD9 := hD.sub (ws' := [(mo, .inr (2, [.int 0, .ref bL, .ref bT, .int (nI (n + 1)), .ref bK, .ref bF, .ref bS, .ref bB, .int co, .int pl, .int st, .int jo, .int cn, .int ii, .int fi, .int fe, .ref bU])), (bK, .inl (cI, 60, .inl (upd K n 5))), (bF, .inl (cI, 60, .inl (upd F n a))), (bS, .inl (cI, 60, .inl (upd S n 0))), (bB, .inl (cZ, 60, .inl (upd B n 0))), (bL, .inl (cI, 4, .inl L)), (bT, .inl (cI, 4, .inl T)), (bU, .inl (cI, 6, .inl U))]) [0, 1, 2, 3, 4, 5, 6, 7] (by decide) rfl
  exact W.iret (v := nI n) hx hb hr (fun t ht hW => ⟨⟨(nI n), (), rfl, hpost, by rw [ht]; exact hP9, hD9⟩, hS.F ht⟩) hS.2.2 dX2_buy_45

set_option maxHeartbeats 4000000 in
set_option maxRecDepth 100000 in
theorem c_X2_buy_f1 (l : Launch) (dC : Nat → ClassId) (dI : Nat → Nat → Nat) (cI cZ : ClassId) (mo bK bF bS bB bL bT bU : Nat) (sz : Nat) (L : N2I) (T : N2I) (K : N2I) (F : N2I) (S : N2I) (B : N2I) (U : N2I) (n : Nat) (tw : Int32) (co : Int32) (pl : Int32) (st : Int32) (jo : Int32) (cn : Int32) (ii : Int32) (fi : Int32) (fe : Int32) (a : Int32) (hb0 : a < 1 ∨ 20 < a) : Met l yX2_buy wsX2_buy ({ frames := 2, cells := 0, slots := 0, locals := 52 } : Room) (va_Pc [.ref mo, .int a] (pc_ (dC, dI) [(cI, .int), (cZ, .boolean)] [(mo, .inr (2, [.int tw, .ref bL, .ref bT, .int (nI n), .ref bK, .ref bF, .ref bS, .ref bB, .int co, .int pl, .int st, .int jo, .int cn, .int ii, .int fi, .int fe, .ref bU])), (bK, .inl (cI, 60, .inl K)), (bF, .inl (cI, 60, .inl F)), (bS, .inl (cI, 60, .inl S)), (bB, .inl (cZ, 60, .inl B)), (bL, .inl (cI, 4, .inl L)), (bT, .inl (cI, 4, .inl T)), (bU, .inl (cI, 6, .inl U))] sz)) (va_Qi (fun (r : Int32) (u : Unit) => r = 0) (fun (u : Unit) (t : State) => va_P (dC, dI) vwCl [(mo, .inr (2, [.int 1, .ref bL, .ref bT, .int (nI n), .ref bK, .ref bF, .ref bS, .ref bB, .int co, .int pl, .int st, .int jo, .int cn, .int ii, .int fi, .int fe, .ref bU])), (bK, .inl (cI, 60, .inl K)), (bF, .inl (cI, 60, .inl F)), (bS, .inl (cI, 60, .inl S)), (bB, .inl (cZ, 60, .inl B)), (bL, .inl (cI, 4, .inl L)), (bT, .inl (cI, 4, .inl T)), (bU, .inl (cI, 6, .inl U))] t.heap ∧ va_D (va_A [(mo, .inr (2, [.int tw, .ref bL, .ref bT, .int (nI n), .ref bK, .ref bF, .ref bS, .ref bB, .int co, .int pl, .int st, .int jo, .int cn, .int ii, .int fi, .int fe, .ref bU])), (bK, .inl (cI, 60, .inl K)), (bF, .inl (cI, 60, .inl F)), (bS, .inl (cI, 60, .inl S)), (bB, .inl (cZ, 60, .inl B)), (bL, .inl (cI, 4, .inl L)), (bT, .inl (cI, 4, .inl T)), (bU, .inl (cI, 6, .inl U))] sz) [(mo, .inr (2, [.int 1, .ref bL, .ref bT, .int (nI n), .ref bK, .ref bF, .ref bS, .ref bB, .int co, .int pl, .int st, .int jo, .int cn, .int ii, .int fi, .int fe, .ref bU])), (bK, .inl (cI, 60, .inl K)), (bF, .inl (cI, 60, .inl F)), (bS, .inl (cI, 60, .inl S)), (bB, .inl (cZ, 60, .inl B)), (bL, .inl (cI, 4, .inl L)), (bT, .inl (cI, 4, .inl T)), (bU, .inl (cI, 6, .inl U))]) (va_A [(mo, .inr (2, [.int tw, .ref bL, .ref bT, .int (nI n), .ref bK, .ref bF, .ref bS, .ref bB, .int co, .int pl, .int st, .int jo, .int cn, .int ii, .int fi, .int fe, .ref bU])), (bK, .inl (cI, 60, .inl K)), (bF, .inl (cI, 60, .inl F)), (bS, .inl (cI, 60, .inl S)), (bB, .inl (cZ, 60, .inl B)), (bL, .inl (cI, 4, .inl L)), (bT, .inl (cI, 4, .inl T)), (bU, .inl (cI, 6, .inl U))] sz)) 0 0 (va_A [(mo, .inr (2, [.int tw, .ref bL, .ref bT, .int (nI n), .ref bK, .ref bF, .ref bS, .ref bB, .int co, .int pl, .int st, .int jo, .int cn, .int ii, .int fi, .int fe, .ref bU])), (bK, .inl (cI, 60, .inl K)), (bF, .inl (cI, 60, .inl F)), (bS, .inl (cI, 60, .inl S)), (bB, .inl (cZ, 60, .inl B)), (bL, .inl (cI, 4, .inl L)), (bT, .inl (cI, 4, .inl T)), (bU, .inl (cI, 6, .inl U))] sz) := by
  refine Met.ofW (cc := cX2_buy) (maxL := 2) (ret := (some .int)) (by decide) rfl ?_
  intro p e s m args below meth c s₁ BB hml hv
  obtain ⟨rfl, hsz, hP, hK, hD0⟩ := hv
  have hx := BB.exec
  have hb := BB.bytes
  have hr := BB.returns
  have hts := atoms_spec (ws := wsX2_buy) BB.pre
  have hown : s.vm.findClass RX2 = some m.cls := findClass_of_methodNamed BB.named
  have hlocks := BB.notSynchronized
  subst hsz
  have hD := hD0.self (sz := s.heap.size)
  generalize hAe : va_A [(mo, .inr (2, [.int tw, .ref bL, .ref bT, .int (nI n), .ref bK, .ref bF, .ref bS, .ref bB, .int co, .int pl, .int st, .int jo, .int cn, .int ii, .int fi, .int fe, .ref bU])), (bK, .inl (cI, 60, .inl K)), (bF, .inl (cI, 60, .inl F)), (bS, .inl (cI, 60, .inl S)), (bB, .inl (cZ, 60, .inl B)), (bL, .inl (cI, 4, .inl L)), (bT, .inl (cI, 4, .inl T)), (bU, .inl (cI, 6, .inl U))] s.heap.size = A at hD ⊢
  have hA : ∀ q : Nat, s.heap.size ≤ q → A q := fun q h => by rw [← hAe]; exact Or.inr h
  have hS : va_S A s.heap s.heap [] := va_S.rf
  have hP : va_P (dC, dI) vwCl [(mo, .inr (2, [.int tw, .ref bL, .ref bT, .int (nI n), .ref bK, .ref bF, .ref bS, .ref bB, .int co, .int pl, .int st, .int jo, .int cn, .int ii, .int fi, .int fe, .ref bU])), (bK, .inl (cI, 60, .inl K)), (bF, .inl (cI, 60, .inl F)), (bS, .inl (cI, 60, .inl S)), (bB, .inl (cZ, 60, .inl B)), (bL, .inl (cI, 4, .inl L)), (bT, .inl (cI, 4, .inl T)), (bU, .inl (cI, 6, .inl U))] s.heap := hP
  have hl := lv_entry ([.ref mo, .int a]) (n := 2) (Nat.le_of_ble_eq_true rfl)
  rw [lg_entry_eq]
  generalize (lg_sl ([.ref mo, .int a]) ++ List.replicate (2 - (lg_sl ([.ref mo, .int a])).length) Slot.unset).toArray = ls at hl ⊢
  have hl : lv_has ls 2 [(0, .ref mo), (1, .int a)] := hl
  have k0 := hts (.fieldLink RX2 32 "KnifeLedgerModel" "thrown" "I") (by decide +kernel)
  have hinX2 : ∀ w ∈ wsX20, w ∈ wsX2_buy := by decide +kernel
  refine lv_aload_n hx hb dX2_buy_0 rfl (lv_at hl 0 rfl) ?_
  refine lv_iconst (v := 0) hx hb dX2_buy_1 (by decide) ?_
  refine va_put (D := (dC, dI)) (ci := 2) (v := .int 0) (ty := .int) (C := RX2) (T := TX2) (N := 17) hx hb hts hinX2 tyX2 tyX2_ok nmX2 hown hK hP hD hS 0 rfl rfl 0 (by decide) k0 (fun _ h9 => h9) rfl (by decide +kernel) rfl rfl (Nat.le_of_ble_eq_true rfl) dX2_buy_2 (fun H_1 locs hP hD hS => ?_)
  have hP : va_P (dC, dI) vwCl [(mo, .inr (2, [.int 0, .ref bL, .ref bT, .int (nI n), .ref bK, .ref bF, .ref bS, .ref bB, .int co, .int pl, .int st, .int jo, .int cn, .int ii, .int fi, .int fe, .ref bU])), (bK, .inl (cI, 60, .inl K)), (bF, .inl (cI, 60, .inl F)), (bS, .inl (cI, 60, .inl S)), (bB, .inl (cZ, 60, .inl B)), (bL, .inl (cI, 4, .inl L)), (bT, .inl (cI, 4, .inl T)), (bU, .inl (cI, 6, .inl U))] H_1 := hP
  have hD : va_D A [(mo, .inr (2, [.int 0, .ref bL, .ref bT, .int (nI n), .ref bK, .ref bF, .ref bS, .ref bB, .int co, .int pl, .int st, .int jo, .int cn, .int ii, .int fi, .int fe, .ref bU])), (bK, .inl (cI, 60, .inl K)), (bF, .inl (cI, 60, .inl F)), (bS, .inl (cI, 60, .inl S)), (bB, .inl (cZ, 60, .inl B)), (bL, .inl (cI, 4, .inl L)), (bT, .inl (cI, 4, .inl T)), (bU, .inl (cI, 6, .inl U))] := hD
  refine lv_iload_n hx hb dX2_buy_5 rfl (lv_at hl 1 rfl) ?_
  refine lv_iconst (v := 1) hx hb dX2_buy_6 (by decide) ?_
  refine lv_bipush (v := 20) hx hb dX2_buy_7 (by decide) ?_
  have hPc := hP.sub (ws' := []) [] rfl
  have hDc := hD.sub (ws' := []) [] (by decide) rfl
  have hKc := hK.sub (tys' := []) [] rfl
  have hFc := va_free (wc := []) hD hS hA [] rfl
  refine va_calli (va_runS (As := [.int a, .int 1, .int 20]) (rest := []) ⟨hx, hb, hml, hown, hts⟩ (c_X2_isIn l dC dI H_1.size a 1 20) (va_cwS 3 hts gX2_buy_X2_isIn rfl rfl rfl (by decide +kernel) ⟨Nat.le_of_ble_eq_true rfl, Nat.le_of_ble_eq_true rfl⟩) (pc_S hKc hPc hDc) rfl rfl hl.1 rfl (lv_room (Nat.le_of_ble_eq_true rfl)) dX2_buy_9 ⟨Nat.le_of_ble_eq_true rfl, Nat.le_of_ble_eq_true rfl⟩) hS (fun q _ h => hFc q h) hFc (fun r_2 u t H_2 locs ht hvm hw hB hz1 hk1 hS => ?_)
  try dsimp only at hw hB
  have hw_2 := hw
  replace hw_2 := hw_2.symm
  subst hw_2
  obtain ⟨hP1, hD1⟩ := hB
  rw [ht] at hP1
  obtain ⟨hP, hD⟩ := va_join (wr := [(mo, .inr (2, [.int 0, .ref bL, .ref bT, .int (nI n), .ref bK, .ref bF, .ref bS, .ref bB, .int co, .int pl, .int st, .int jo, .int cn, .int ii, .int fi, .int fe, .ref bU])), (bK, .inl (cI, 60, .inl K)), (bF, .inl (cI, 60, .inl F)), (bS, .inl (cI, 60, .inl S)), (bB, .inl (cZ, 60, .inl B)), (bL, .inl (cI, 4, .inl L)), (bT, .inl (cI, 4, .inl T)), (bU, .inl (cI, 6, .inl U))]) (w1 := []) hP hD [] [0, 1, 2, 3, 4, 5, 6, 7] rfl rfl (by decide) (by decide) hk1 hFc hP1 hD1
  have hP : va_P (dC, dI) vwCl [(mo, .inr (2, [.int 0, .ref bL, .ref bT, .int (nI n), .ref bK, .ref bF, .ref bS, .ref bB, .int co, .int pl, .int st, .int jo, .int cn, .int ii, .int fi, .int fe, .ref bU])), (bK, .inl (cI, 60, .inl K)), (bF, .inl (cI, 60, .inl F)), (bS, .inl (cI, 60, .inl S)), (bB, .inl (cZ, 60, .inl B)), (bL, .inl (cI, 4, .inl L)), (bT, .inl (cI, 4, .inl T)), (bU, .inl (cI, 6, .inl U))] H_2 := hP
  have hD : va_D A [(mo, .inr (2, [.int 0, .ref bL, .ref bT, .int (nI n), .ref bK, .ref bF, .ref bS, .ref bB, .int co, .int pl, .int st, .int jo, .int cn, .int ii, .int fi, .int fe, .ref bU])), (bK, .inl (cI, 60, .inl K)), (bF, .inl (cI, 60, .inl F)), (bS, .inl (cI, 60, .inl S)), (bB, .inl (cZ, 60, .inl B)), (bL, .inl (cI, 4, .inl L)), (bT, .inl (cI, 4, .inl T)), (bU, .inl (cI, 6, .inl U))] := hD
  refine lv_if_ne (tgt := 21) hx hb dX2_buy_12 (by decide) (fun h9 => absurd (mIn_bad hb0) h9) (fun _ => ?_)
  refine lv_aload_n hx hb dX2_buy_15 rfl (lv_at hl 0 rfl) ?_
  refine lv_iconst (v := 1) hx hb dX2_buy_16 (by decide) ?_
  have hPc := hP.sub (ws' := [(mo, .inr (2, [.int 0, .ref bL, .ref bT, .int (nI n), .ref bK, .ref bF, .ref bS, .ref bB, .int co, .int pl, .int st, .int jo, .int cn, .int ii, .int fi, .int fe, .ref bU])), (bK, .inl (cI, 60, .inl K)), (bF, .inl (cI, 60, .inl F)), (bS, .inl (cI, 60, .inl S)), (bB, .inl (cZ, 60, .inl B)), (bL, .inl (cI, 4, .inl L)), (bT, .inl (cI, 4, .inl T)), (bU, .inl (cI, 6, .inl U))]) [0, 1, 2, 3, 4, 5, 6, 7] rfl
  have hDc := hD.sub (ws' := [(mo, .inr (2, [.int 0, .ref bL, .ref bT, .int (nI n), .ref bK, .ref bF, .ref bS, .ref bB, .int co, .int pl, .int st, .int jo, .int cn, .int ii, .int fi, .int fe, .ref bU])), (bK, .inl (cI, 60, .inl K)), (bF, .inl (cI, 60, .inl F)), (bS, .inl (cI, 60, .inl S)), (bB, .inl (cZ, 60, .inl B)), (bL, .inl (cI, 4, .inl L)), (bT, .inl (cI, 4, .inl T)), (bU, .inl (cI, 6, .inl U))]) [0, 1, 2, 3, 4, 5, 6, 7] (by decide) rfl
  have hKc := hK.sub (tys' := [(cI, .int), (cZ, .boolean)]) [0, 1] rfl
  have hFc := va_free (wc := [(mo, .inr (2, [.int 0, .ref bL, .ref bT, .int (nI n), .ref bK, .ref bF, .ref bS, .ref bB, .int co, .int pl, .int st, .int jo, .int cn, .int ii, .int fi, .int fe, .ref bU])), (bK, .inl (cI, 60, .inl K)), (bF, .inl (cI, 60, .inl F)), (bS, .inl (cI, 60, .inl S)), (bB, .inl (cZ, 60, .inl B)), (bL, .inl (cI, 4, .inl L)), (bT, .inl (cI, 4, .inl T)), (bU, .inl (cI, 6, .inl U))]) hD hS hA [0, 1, 2, 3, 4, 5, 6, 7] rfl
  refine va_calli (va_runV (As := [.int 1]) (rest := []) ⟨hx, hb, hml, hown, hts⟩ (c_X2_fail l dC dI cI cZ mo bK bF bS bB bL bT bU H_2.size L T K F S B U n 0 co pl st jo cn ii fi fe 1) (cwV 1 hts gX2_buy_X2_fail rfl rfl rfl (by decide +kernel) ⟨Nat.le_of_ble_eq_true rfl, Nat.le_of_ble_eq_true rfl⟩) (pc_V hKc hPc hDc (ci := 2) (C := RX2) (T := TX2) (N := 17) (q0 := 0) rfl rfl) rfl rfl hl.1 rfl (lv_room (Nat.le_of_ble_eq_true rfl)) dX2_buy_17 ⟨Nat.le_of_ble_eq_true rfl, Nat.le_of_ble_eq_true rfl⟩) hS (fun q _ h => hFc q h) hFc (fun r_3 u t H_3 locs ht hvm hw hB hz1 hk1 hS => ?_)
  try dsimp only at hw hB
  have hw_3 := hw
  replace hw_3 := hw_3.symm
  subst hw_3
  obtain ⟨hP1, hD1⟩ := hB
  rw [ht] at hP1
  obtain ⟨hP, hD⟩ := va_join (wr := []) (w1 := [(mo, .inr (2, [.int 1, .ref bL, .ref bT, .int (nI n), .ref bK, .ref bF, .ref bS, .ref bB, .int co, .int pl, .int st, .int jo, .int cn, .int ii, .int fi, .int fe, .ref bU])), (bK, .inl (cI, 60, .inl K)), (bF, .inl (cI, 60, .inl F)), (bS, .inl (cI, 60, .inl S)), (bB, .inl (cZ, 60, .inl B)), (bL, .inl (cI, 4, .inl L)), (bT, .inl (cI, 4, .inl T)), (bU, .inl (cI, 6, .inl U))]) hP hD [0, 1, 2, 3, 4, 5, 6, 7] [] rfl rfl (by decide) (by decide) hk1 hFc hP1 hD1
  have hP : va_P (dC, dI) vwCl [(mo, .inr (2, [.int 1, .ref bL, .ref bT, .int (nI n), .ref bK, .ref bF, .ref bS, .ref bB, .int co, .int pl, .int st, .int jo, .int cn, .int ii, .int fi, .int fe, .ref bU])), (bK, .inl (cI, 60, .inl K)), (bF, .inl (cI, 60, .inl F)), (bS, .inl (cI, 60, .inl S)), (bB, .inl (cZ, 60, .inl B)), (bL, .inl (cI, 4, .inl L)), (bT, .inl (cI, 4, .inl T)), (bU, .inl (cI, 6, .inl U))] H_3 := hP
  have hD : va_D A [(mo, .inr (2, [.int 1, .ref bL, .ref bT, .int (nI n), .ref bK, .ref bF, .ref bS, .ref bB, .int co, .int pl, .int st, .int jo, .int cn, .int ii, .int fi, .int fe, .ref bU])), (bK, .inl (cI, 60, .inl K)), (bF, .inl (cI, 60, .inl F)), (bS, .inl (cI, 60, .inl S)), (bB, .inl (cZ, 60, .inl B)), (bL, .inl (cI, 4, .inl L)), (bT, .inl (cI, 4, .inl T)), (bU, .inl (cI, 6, .inl U))] := hD
  have hpost : (0 : Int32) = 0 := by
    rfl
  have hP9 := hP.sub (ws' := [(mo, .inr (2, [.int 1, .ref bL, .ref bT, .int (nI n), .ref bK, .ref bF, .ref bS, .ref bB, .int co, .int pl, .int st, .int jo, .int cn, .int ii, .int fi, .int fe, .ref bU])), (bK, .inl (cI, 60, .inl K)), (bF, .inl (cI, 60, .inl F)), (bS, .inl (cI, 60, .inl S)), (bB, .inl (cZ, 60, .inl B)), (bL, .inl (cI, 4, .inl L)), (bT, .inl (cI, 4, .inl T)), (bU, .inl (cI, 6, .inl U))]) [0, 1, 2, 3, 4, 5, 6, 7] rfl
  have hD9 := hD.sub (ws' := [(mo, .inr (2, [.int 1, .ref bL, .ref bT, .int (nI n), .ref bK, .ref bF, .ref bS, .ref bB, .int co, .int pl, .int st, .int jo, .int cn, .int ii, .int fi, .int fe, .ref bU])), (bK, .inl (cI, 60, .inl K)), (bF, .inl (cI, 60, .inl F)), (bS, .inl (cI, 60, .inl S)), (bB, .inl (cZ, 60, .inl B)), (bL, .inl (cI, 4, .inl L)), (bT, .inl (cI, 4, .inl T)), (bU, .inl (cI, 6, .inl U))]) [0, 1, 2, 3, 4, 5, 6, 7] (by decide) rfl
  exact W.iret (v := 0) hx hb hr (fun t ht hW => ⟨⟨0, (), rfl, hpost, by rw [ht]; exact hP9, hD9⟩, hS.F ht⟩) hS.2.2 dX2_buy_20

set_option maxHeartbeats 4000000 in
set_option maxRecDepth 100000 in
theorem c_X2_buy_full (l : Launch) (dC : Nat → ClassId) (dI : Nat → Nat → Nat) (cI cZ : ClassId) (mo bK bF bS bB bL bT bU : Nat) (sz : Nat) (L : N2I) (T : N2I) (K : N2I) (F : N2I) (S : N2I) (B : N2I) (U : N2I) (n : Nat) (tw : Int32) (co : Int32) (pl : Int32) (st : Int32) (jo : Int32) (cn : Int32) (ii : Int32) (fi : Int32) (fe : Int32) (a : Int32) (h0 : ¬ a < 1) (h1 : ¬ 20 < a) (hn : n = 60) : Met l yX2_buy wsX2_buy ({ frames := 2, cells := 0, slots := 0, locals := 52 } : Room) (va_Pc [.ref mo, .int a] (pc_ (dC, dI) [(cI, .int), (cZ, .boolean)] [(mo, .inr (2, [.int tw, .ref bL, .ref bT, .int (nI n), .ref bK, .ref bF, .ref bS, .ref bB, .int co, .int pl, .int st, .int jo, .int cn, .int ii, .int fi, .int fe, .ref bU])), (bK, .inl (cI, 60, .inl K)), (bF, .inl (cI, 60, .inl F)), (bS, .inl (cI, 60, .inl S)), (bB, .inl (cZ, 60, .inl B)), (bL, .inl (cI, 4, .inl L)), (bT, .inl (cI, 4, .inl T)), (bU, .inl (cI, 6, .inl U))] sz)) (va_Qi (fun (r : Int32) (u : Unit) => r = 0) (fun (u : Unit) (t : State) => va_P (dC, dI) vwCl [(mo, .inr (2, [.int 2, .ref bL, .ref bT, .int (nI n), .ref bK, .ref bF, .ref bS, .ref bB, .int co, .int pl, .int st, .int jo, .int cn, .int ii, .int fi, .int fe, .ref bU])), (bK, .inl (cI, 60, .inl K)), (bF, .inl (cI, 60, .inl F)), (bS, .inl (cI, 60, .inl S)), (bB, .inl (cZ, 60, .inl B)), (bL, .inl (cI, 4, .inl L)), (bT, .inl (cI, 4, .inl T)), (bU, .inl (cI, 6, .inl U))] t.heap ∧ va_D (va_A [(mo, .inr (2, [.int tw, .ref bL, .ref bT, .int (nI n), .ref bK, .ref bF, .ref bS, .ref bB, .int co, .int pl, .int st, .int jo, .int cn, .int ii, .int fi, .int fe, .ref bU])), (bK, .inl (cI, 60, .inl K)), (bF, .inl (cI, 60, .inl F)), (bS, .inl (cI, 60, .inl S)), (bB, .inl (cZ, 60, .inl B)), (bL, .inl (cI, 4, .inl L)), (bT, .inl (cI, 4, .inl T)), (bU, .inl (cI, 6, .inl U))] sz) [(mo, .inr (2, [.int 2, .ref bL, .ref bT, .int (nI n), .ref bK, .ref bF, .ref bS, .ref bB, .int co, .int pl, .int st, .int jo, .int cn, .int ii, .int fi, .int fe, .ref bU])), (bK, .inl (cI, 60, .inl K)), (bF, .inl (cI, 60, .inl F)), (bS, .inl (cI, 60, .inl S)), (bB, .inl (cZ, 60, .inl B)), (bL, .inl (cI, 4, .inl L)), (bT, .inl (cI, 4, .inl T)), (bU, .inl (cI, 6, .inl U))]) (va_A [(mo, .inr (2, [.int tw, .ref bL, .ref bT, .int (nI n), .ref bK, .ref bF, .ref bS, .ref bB, .int co, .int pl, .int st, .int jo, .int cn, .int ii, .int fi, .int fe, .ref bU])), (bK, .inl (cI, 60, .inl K)), (bF, .inl (cI, 60, .inl F)), (bS, .inl (cI, 60, .inl S)), (bB, .inl (cZ, 60, .inl B)), (bL, .inl (cI, 4, .inl L)), (bT, .inl (cI, 4, .inl T)), (bU, .inl (cI, 6, .inl U))] sz)) 0 0 (va_A [(mo, .inr (2, [.int tw, .ref bL, .ref bT, .int (nI n), .ref bK, .ref bF, .ref bS, .ref bB, .int co, .int pl, .int st, .int jo, .int cn, .int ii, .int fi, .int fe, .ref bU])), (bK, .inl (cI, 60, .inl K)), (bF, .inl (cI, 60, .inl F)), (bS, .inl (cI, 60, .inl S)), (bB, .inl (cZ, 60, .inl B)), (bL, .inl (cI, 4, .inl L)), (bT, .inl (cI, 4, .inl T)), (bU, .inl (cI, 6, .inl U))] sz) := by
  refine Met.ofW (cc := cX2_buy) (maxL := 2) (ret := (some .int)) (by decide) rfl ?_
  intro p e s m args below meth c s₁ BB hml hv
  obtain ⟨rfl, hsz, hP, hK, hD0⟩ := hv
  have hx := BB.exec
  have hb := BB.bytes
  have hr := BB.returns
  have hts := atoms_spec (ws := wsX2_buy) BB.pre
  have hown : s.vm.findClass RX2 = some m.cls := findClass_of_methodNamed BB.named
  have hlocks := BB.notSynchronized
  subst hsz
  have hD := hD0.self (sz := s.heap.size)
  generalize hAe : va_A [(mo, .inr (2, [.int tw, .ref bL, .ref bT, .int (nI n), .ref bK, .ref bF, .ref bS, .ref bB, .int co, .int pl, .int st, .int jo, .int cn, .int ii, .int fi, .int fe, .ref bU])), (bK, .inl (cI, 60, .inl K)), (bF, .inl (cI, 60, .inl F)), (bS, .inl (cI, 60, .inl S)), (bB, .inl (cZ, 60, .inl B)), (bL, .inl (cI, 4, .inl L)), (bT, .inl (cI, 4, .inl T)), (bU, .inl (cI, 6, .inl U))] s.heap.size = A at hD ⊢
  have hA : ∀ q : Nat, s.heap.size ≤ q → A q := fun q h => by rw [← hAe]; exact Or.inr h
  have hS : va_S A s.heap s.heap [] := va_S.rf
  have hP : va_P (dC, dI) vwCl [(mo, .inr (2, [.int tw, .ref bL, .ref bT, .int (nI n), .ref bK, .ref bF, .ref bS, .ref bB, .int co, .int pl, .int st, .int jo, .int cn, .int ii, .int fi, .int fe, .ref bU])), (bK, .inl (cI, 60, .inl K)), (bF, .inl (cI, 60, .inl F)), (bS, .inl (cI, 60, .inl S)), (bB, .inl (cZ, 60, .inl B)), (bL, .inl (cI, 4, .inl L)), (bT, .inl (cI, 4, .inl T)), (bU, .inl (cI, 6, .inl U))] s.heap := hP
  have hl := lv_entry ([.ref mo, .int a]) (n := 2) (Nat.le_of_ble_eq_true rfl)
  rw [lg_entry_eq]
  generalize (lg_sl ([.ref mo, .int a]) ++ List.replicate (2 - (lg_sl ([.ref mo, .int a])).length) Slot.unset).toArray = ls at hl ⊢
  have hl : lv_has ls 2 [(0, .ref mo), (1, .int a)] := hl
  have k0 := hts (.fieldLink RX2 32 "KnifeLedgerModel" "thrown" "I") (by decide +kernel)
  have hinX2 : ∀ w ∈ wsX20, w ∈ wsX2_buy := by decide +kernel
  have k2 := hts (.fieldLink RX2 36 "KnifeLedgerModel" "entries" "I") (by decide +kernel)
  refine lv_aload_n hx hb dX2_buy_0 rfl (lv_at hl 0 rfl) ?_
  refine lv_iconst (v := 0) hx hb dX2_buy_1 (by decide) ?_
  refine va_put (D := (dC, dI)) (ci := 2) (v := .int 0) (ty := .int) (C := RX2) (T := TX2) (N := 17) hx hb hts hinX2 tyX2 tyX2_ok nmX2 hown hK hP hD hS 0 rfl rfl 0 (by decide) k0 (fun _ h9 => h9) rfl (by decide +kernel) rfl rfl (Nat.le_of_ble_eq_true rfl) dX2_buy_2 (fun H_1 locs hP hD hS => ?_)
  have hP : va_P (dC, dI) vwCl [(mo, .inr (2, [.int 0, .ref bL, .ref bT, .int (nI n), .ref bK, .ref bF, .ref bS, .ref bB, .int co, .int pl, .int st, .int jo, .int cn, .int ii, .int fi, .int fe, .ref bU])), (bK, .inl (cI, 60, .inl K)), (bF, .inl (cI, 60, .inl F)), (bS, .inl (cI, 60, .inl S)), (bB, .inl (cZ, 60, .inl B)), (bL, .inl (cI, 4, .inl L)), (bT, .inl (cI, 4, .inl T)), (bU, .inl (cI, 6, .inl U))] H_1 := hP
  have hD : va_D A [(mo, .inr (2, [.int 0, .ref bL, .ref bT, .int (nI n), .ref bK, .ref bF, .ref bS, .ref bB, .int co, .int pl, .int st, .int jo, .int cn, .int ii, .int fi, .int fe, .ref bU])), (bK, .inl (cI, 60, .inl K)), (bF, .inl (cI, 60, .inl F)), (bS, .inl (cI, 60, .inl S)), (bB, .inl (cZ, 60, .inl B)), (bL, .inl (cI, 4, .inl L)), (bT, .inl (cI, 4, .inl T)), (bU, .inl (cI, 6, .inl U))] := hD
  refine lv_iload_n hx hb dX2_buy_5 rfl (lv_at hl 1 rfl) ?_
  refine lv_iconst (v := 1) hx hb dX2_buy_6 (by decide) ?_
  refine lv_bipush (v := 20) hx hb dX2_buy_7 (by decide) ?_
  have hPc := hP.sub (ws' := []) [] rfl
  have hDc := hD.sub (ws' := []) [] (by decide) rfl
  have hKc := hK.sub (tys' := []) [] rfl
  have hFc := va_free (wc := []) hD hS hA [] rfl
  refine va_calli (va_runS (As := [.int a, .int 1, .int 20]) (rest := []) ⟨hx, hb, hml, hown, hts⟩ (c_X2_isIn l dC dI H_1.size a 1 20) (va_cwS 3 hts gX2_buy_X2_isIn rfl rfl rfl (by decide +kernel) ⟨Nat.le_of_ble_eq_true rfl, Nat.le_of_ble_eq_true rfl⟩) (pc_S hKc hPc hDc) rfl rfl hl.1 rfl (lv_room (Nat.le_of_ble_eq_true rfl)) dX2_buy_9 ⟨Nat.le_of_ble_eq_true rfl, Nat.le_of_ble_eq_true rfl⟩) hS (fun q _ h => hFc q h) hFc (fun r_2 u t H_2 locs ht hvm hw hB hz1 hk1 hS => ?_)
  try dsimp only at hw hB
  have hw_2 := hw
  replace hw_2 := hw_2.symm
  subst hw_2
  obtain ⟨hP1, hD1⟩ := hB
  rw [ht] at hP1
  obtain ⟨hP, hD⟩ := va_join (wr := [(mo, .inr (2, [.int 0, .ref bL, .ref bT, .int (nI n), .ref bK, .ref bF, .ref bS, .ref bB, .int co, .int pl, .int st, .int jo, .int cn, .int ii, .int fi, .int fe, .ref bU])), (bK, .inl (cI, 60, .inl K)), (bF, .inl (cI, 60, .inl F)), (bS, .inl (cI, 60, .inl S)), (bB, .inl (cZ, 60, .inl B)), (bL, .inl (cI, 4, .inl L)), (bT, .inl (cI, 4, .inl T)), (bU, .inl (cI, 6, .inl U))]) (w1 := []) hP hD [] [0, 1, 2, 3, 4, 5, 6, 7] rfl rfl (by decide) (by decide) hk1 hFc hP1 hD1
  have hP : va_P (dC, dI) vwCl [(mo, .inr (2, [.int 0, .ref bL, .ref bT, .int (nI n), .ref bK, .ref bF, .ref bS, .ref bB, .int co, .int pl, .int st, .int jo, .int cn, .int ii, .int fi, .int fe, .ref bU])), (bK, .inl (cI, 60, .inl K)), (bF, .inl (cI, 60, .inl F)), (bS, .inl (cI, 60, .inl S)), (bB, .inl (cZ, 60, .inl B)), (bL, .inl (cI, 4, .inl L)), (bT, .inl (cI, 4, .inl T)), (bU, .inl (cI, 6, .inl U))] H_2 := hP
  have hD : va_D A [(mo, .inr (2, [.int 0, .ref bL, .ref bT, .int (nI n), .ref bK, .ref bF, .ref bS, .ref bB, .int co, .int pl, .int st, .int jo, .int cn, .int ii, .int fi, .int fe, .ref bU])), (bK, .inl (cI, 60, .inl K)), (bF, .inl (cI, 60, .inl F)), (bS, .inl (cI, 60, .inl S)), (bB, .inl (cZ, 60, .inl B)), (bL, .inl (cI, 4, .inl L)), (bT, .inl (cI, 4, .inl T)), (bU, .inl (cI, 6, .inl U))] := hD
  refine lv_if_ne (tgt := 21) hx hb dX2_buy_12 (by decide) (fun _ => ?_) (fun h9 => absurd h9 (by rw [mIn_ok h0 h1]; exact one_ne))
  refine lv_aload_n hx hb dX2_buy_21 rfl (lv_at hl 0 rfl) ?_
  refine va_get (D := (dC, dI)) (ci := 2) (v := .int (nI n)) (C := RX2) (T := TX2) (N := 17) hx hb hts hinX2 hown hK hP 0 rfl rfl 3 (by decide) k2 (fun _ h9 => h9) rfl dX2_buy_22 ?_
  refine lv_bipush (v := 60) hx hb dX2_buy_25 (by decide) ?_
  refine lv_icmp_ne (tgt := 38) hx hb dX2_buy_27 (by decide) (fun h9 => absurd (by rw [hn]; rfl) h9) (fun _ => ?_)
  refine lv_aload_n hx hb dX2_buy_30 rfl (lv_at hl 0 rfl) ?_
  refine lv_iconst (v := 2) hx hb dX2_buy_31 (by decide) ?_
  have hPc := hP.sub (ws' := [(mo, .inr (2, [.int 0, .ref bL, .ref bT, .int (nI n), .ref bK, .ref bF, .ref bS, .ref bB, .int co, .int pl, .int st, .int jo, .int cn, .int ii, .int fi, .int fe, .ref bU])), (bK, .inl (cI, 60, .inl K)), (bF, .inl (cI, 60, .inl F)), (bS, .inl (cI, 60, .inl S)), (bB, .inl (cZ, 60, .inl B)), (bL, .inl (cI, 4, .inl L)), (bT, .inl (cI, 4, .inl T)), (bU, .inl (cI, 6, .inl U))]) [0, 1, 2, 3, 4, 5, 6, 7] rfl
  have hDc := hD.sub (ws' := [(mo, .inr (2, [.int 0, .ref bL, .ref bT, .int (nI n), .ref bK, .ref bF, .ref bS, .ref bB, .int co, .int pl, .int st, .int jo, .int cn, .int ii, .int fi, .int fe, .ref bU])), (bK, .inl (cI, 60, .inl K)), (bF, .inl (cI, 60, .inl F)), (bS, .inl (cI, 60, .inl S)), (bB, .inl (cZ, 60, .inl B)), (bL, .inl (cI, 4, .inl L)), (bT, .inl (cI, 4, .inl T)), (bU, .inl (cI, 6, .inl U))]) [0, 1, 2, 3, 4, 5, 6, 7] (by decide) rfl
  have hKc := hK.sub (tys' := [(cI, .int), (cZ, .boolean)]) [0, 1] rfl
  have hFc := va_free (wc := [(mo, .inr (2, [.int 0, .ref bL, .ref bT, .int (nI n), .ref bK, .ref bF, .ref bS, .ref bB, .int co, .int pl, .int st, .int jo, .int cn, .int ii, .int fi, .int fe, .ref bU])), (bK, .inl (cI, 60, .inl K)), (bF, .inl (cI, 60, .inl F)), (bS, .inl (cI, 60, .inl S)), (bB, .inl (cZ, 60, .inl B)), (bL, .inl (cI, 4, .inl L)), (bT, .inl (cI, 4, .inl T)), (bU, .inl (cI, 6, .inl U))]) hD hS hA [0, 1, 2, 3, 4, 5, 6, 7] rfl
  refine va_calli (va_runV (As := [.int 2]) (rest := []) ⟨hx, hb, hml, hown, hts⟩ (c_X2_fail l dC dI cI cZ mo bK bF bS bB bL bT bU H_2.size L T K F S B U n 0 co pl st jo cn ii fi fe 2) (cwV 1 hts gX2_buy_X2_fail rfl rfl rfl (by decide +kernel) ⟨Nat.le_of_ble_eq_true rfl, Nat.le_of_ble_eq_true rfl⟩) (pc_V hKc hPc hDc (ci := 2) (C := RX2) (T := TX2) (N := 17) (q0 := 0) rfl rfl) rfl rfl hl.1 rfl (lv_room (Nat.le_of_ble_eq_true rfl)) dX2_buy_32 ⟨Nat.le_of_ble_eq_true rfl, Nat.le_of_ble_eq_true rfl⟩) hS (fun q _ h => hFc q h) hFc (fun r_3 u t H_3 locs ht hvm hw hB hz1 hk1 hS => ?_)
  try dsimp only at hw hB
  have hw_3 := hw
  replace hw_3 := hw_3.symm
  subst hw_3
  obtain ⟨hP1, hD1⟩ := hB
  rw [ht] at hP1
  obtain ⟨hP, hD⟩ := va_join (wr := []) (w1 := [(mo, .inr (2, [.int 2, .ref bL, .ref bT, .int (nI n), .ref bK, .ref bF, .ref bS, .ref bB, .int co, .int pl, .int st, .int jo, .int cn, .int ii, .int fi, .int fe, .ref bU])), (bK, .inl (cI, 60, .inl K)), (bF, .inl (cI, 60, .inl F)), (bS, .inl (cI, 60, .inl S)), (bB, .inl (cZ, 60, .inl B)), (bL, .inl (cI, 4, .inl L)), (bT, .inl (cI, 4, .inl T)), (bU, .inl (cI, 6, .inl U))]) hP hD [0, 1, 2, 3, 4, 5, 6, 7] [] rfl rfl (by decide) (by decide) hk1 hFc hP1 hD1
  have hP : va_P (dC, dI) vwCl [(mo, .inr (2, [.int 2, .ref bL, .ref bT, .int (nI n), .ref bK, .ref bF, .ref bS, .ref bB, .int co, .int pl, .int st, .int jo, .int cn, .int ii, .int fi, .int fe, .ref bU])), (bK, .inl (cI, 60, .inl K)), (bF, .inl (cI, 60, .inl F)), (bS, .inl (cI, 60, .inl S)), (bB, .inl (cZ, 60, .inl B)), (bL, .inl (cI, 4, .inl L)), (bT, .inl (cI, 4, .inl T)), (bU, .inl (cI, 6, .inl U))] H_3 := hP
  have hD : va_D A [(mo, .inr (2, [.int 2, .ref bL, .ref bT, .int (nI n), .ref bK, .ref bF, .ref bS, .ref bB, .int co, .int pl, .int st, .int jo, .int cn, .int ii, .int fi, .int fe, .ref bU])), (bK, .inl (cI, 60, .inl K)), (bF, .inl (cI, 60, .inl F)), (bS, .inl (cI, 60, .inl S)), (bB, .inl (cZ, 60, .inl B)), (bL, .inl (cI, 4, .inl L)), (bT, .inl (cI, 4, .inl T)), (bU, .inl (cI, 6, .inl U))] := hD
  refine lv_goto (tgt := 45) hx hb dX2_buy_35 (by decide) ?_
  have hpost : (0 : Int32) = 0 := by
    rfl
  have hP9 := hP.sub (ws' := [(mo, .inr (2, [.int 2, .ref bL, .ref bT, .int (nI n), .ref bK, .ref bF, .ref bS, .ref bB, .int co, .int pl, .int st, .int jo, .int cn, .int ii, .int fi, .int fe, .ref bU])), (bK, .inl (cI, 60, .inl K)), (bF, .inl (cI, 60, .inl F)), (bS, .inl (cI, 60, .inl S)), (bB, .inl (cZ, 60, .inl B)), (bL, .inl (cI, 4, .inl L)), (bT, .inl (cI, 4, .inl T)), (bU, .inl (cI, 6, .inl U))]) [0, 1, 2, 3, 4, 5, 6, 7] rfl
  have hD9 := hD.sub (ws' := [(mo, .inr (2, [.int 2, .ref bL, .ref bT, .int (nI n), .ref bK, .ref bF, .ref bS, .ref bB, .int co, .int pl, .int st, .int jo, .int cn, .int ii, .int fi, .int fe, .ref bU])), (bK, .inl (cI, 60, .inl K)), (bF, .inl (cI, 60, .inl F)), (bS, .inl (cI, 60, .inl S)), (bB, .inl (cZ, 60, .inl B)), (bL, .inl (cI, 4, .inl L)), (bT, .inl (cI, 4, .inl T)), (bU, .inl (cI, 6, .inl U))]) [0, 1, 2, 3, 4, 5, 6, 7] (by decide) rfl
  exact W.iret (v := 0) hx hb hr (fun t ht hW => ⟨⟨0, (), rfl, hpost, by rw [ht]; exact hP9, hD9⟩, hS.F ht⟩) hS.2.2 dX2_buy_45

set_option maxHeartbeats 4000000 in
set_option maxRecDepth 100000 in
theorem c_X2_set (l : Launch) (dC : Nat → ClassId) (dI : Nat → Nat → Nat) (cI cZ : ClassId) (mo bK bF bS bB bL bT bU : Nat) (sz : Nat) (L : N2I) (T : N2I) (K : N2I) (F : N2I) (S : N2I) (B : N2I) (U : N2I) (n : Nat) (tw : Int32) (co : Int32) (pl : Int32) (st : Int32) (jo : Int32) (cn : Int32) (ii : Int32) (fi : Int32) (fe : Int32) (i : Nat) (a : Int32) (b : Int32) (hi : i < 4) (h0 : ¬ a < 0) (h1 : ¬ 9 < a) (h2 : ¬ b < 0) (h3 : ¬ 9 < b) : Met l yX2_set wsX2_set ({ frames := 2, cells := 0, slots := 0, locals := 52 } : Room) (va_Pc [.ref mo, .int (nI i), .int a, .int b] (pc_ (dC, dI) [(cI, .int), (cZ, .boolean)] [(mo, .inr (2, [.int tw, .ref bL, .ref bT, .int (nI n), .ref bK, .ref bF, .ref bS, .ref bB, .int co, .int pl, .int st, .int jo, .int cn, .int ii, .int fi, .int fe, .ref bU])), (bK, .inl (cI, 60, .inl K)), (bF, .inl (cI, 60, .inl F)), (bS, .inl (cI, 60, .inl S)), (bB, .inl (cZ, 60, .inl B)), (bL, .inl (cI, 4, .inl L)), (bT, .inl (cI, 4, .inl T)), (bU, .inl (cI, 6, .inl U))] sz)) (va_Qi (fun (r : Int32) (u : Unit) => r = 10 * L i + T i) (fun (u : Unit) (t : State) => va_P (dC, dI) vwCl [(mo, .inr (2, [.int 0, .ref bL, .ref bT, .int (nI n), .ref bK, .ref bF, .ref bS, .ref bB, .int co, .int pl, .int st, .int jo, .int cn, .int ii, .int fi, .int fe, .ref bU])), (bK, .inl (cI, 60, .inl K)), (bF, .inl (cI, 60, .inl F)), (bS, .inl (cI, 60, .inl S)), (bB, .inl (cZ, 60, .inl B)), (bL, .inl (cI, 4, .inl (upd L i a))), (bT, .inl (cI, 4, .inl (upd T i b))), (bU, .inl (cI, 6, .inl U))] t.heap ∧ va_D (va_A [(mo, .inr (2, [.int tw, .ref bL, .ref bT, .int (nI n), .ref bK, .ref bF, .ref bS, .ref bB, .int co, .int pl, .int st, .int jo, .int cn, .int ii, .int fi, .int fe, .ref bU])), (bK, .inl (cI, 60, .inl K)), (bF, .inl (cI, 60, .inl F)), (bS, .inl (cI, 60, .inl S)), (bB, .inl (cZ, 60, .inl B)), (bL, .inl (cI, 4, .inl L)), (bT, .inl (cI, 4, .inl T)), (bU, .inl (cI, 6, .inl U))] sz) [(mo, .inr (2, [.int 0, .ref bL, .ref bT, .int (nI n), .ref bK, .ref bF, .ref bS, .ref bB, .int co, .int pl, .int st, .int jo, .int cn, .int ii, .int fi, .int fe, .ref bU])), (bK, .inl (cI, 60, .inl K)), (bF, .inl (cI, 60, .inl F)), (bS, .inl (cI, 60, .inl S)), (bB, .inl (cZ, 60, .inl B)), (bL, .inl (cI, 4, .inl (upd L i a))), (bT, .inl (cI, 4, .inl (upd T i b))), (bU, .inl (cI, 6, .inl U))]) (va_A [(mo, .inr (2, [.int tw, .ref bL, .ref bT, .int (nI n), .ref bK, .ref bF, .ref bS, .ref bB, .int co, .int pl, .int st, .int jo, .int cn, .int ii, .int fi, .int fe, .ref bU])), (bK, .inl (cI, 60, .inl K)), (bF, .inl (cI, 60, .inl F)), (bS, .inl (cI, 60, .inl S)), (bB, .inl (cZ, 60, .inl B)), (bL, .inl (cI, 4, .inl L)), (bT, .inl (cI, 4, .inl T)), (bU, .inl (cI, 6, .inl U))] sz)) 0 0 (va_A [(mo, .inr (2, [.int tw, .ref bL, .ref bT, .int (nI n), .ref bK, .ref bF, .ref bS, .ref bB, .int co, .int pl, .int st, .int jo, .int cn, .int ii, .int fi, .int fe, .ref bU])), (bK, .inl (cI, 60, .inl K)), (bF, .inl (cI, 60, .inl F)), (bS, .inl (cI, 60, .inl S)), (bB, .inl (cZ, 60, .inl B)), (bL, .inl (cI, 4, .inl L)), (bT, .inl (cI, 4, .inl T)), (bU, .inl (cI, 6, .inl U))] sz) := by
  refine Met.ofW (cc := cX2_set) (maxL := 5) (ret := (some .int)) (by decide) rfl ?_
  intro p e s m args below meth c s₁ BB hml hv
  obtain ⟨rfl, hsz, hP, hK, hD0⟩ := hv
  have hx := BB.exec
  have hb := BB.bytes
  have hr := BB.returns
  have hts := atoms_spec (ws := wsX2_set) BB.pre
  have hown : s.vm.findClass RX2 = some m.cls := findClass_of_methodNamed BB.named
  have hlocks := BB.notSynchronized
  subst hsz
  have hD := hD0.self (sz := s.heap.size)
  generalize hAe : va_A [(mo, .inr (2, [.int tw, .ref bL, .ref bT, .int (nI n), .ref bK, .ref bF, .ref bS, .ref bB, .int co, .int pl, .int st, .int jo, .int cn, .int ii, .int fi, .int fe, .ref bU])), (bK, .inl (cI, 60, .inl K)), (bF, .inl (cI, 60, .inl F)), (bS, .inl (cI, 60, .inl S)), (bB, .inl (cZ, 60, .inl B)), (bL, .inl (cI, 4, .inl L)), (bT, .inl (cI, 4, .inl T)), (bU, .inl (cI, 6, .inl U))] s.heap.size = A at hD ⊢
  have hA : ∀ q : Nat, s.heap.size ≤ q → A q := fun q h => by rw [← hAe]; exact Or.inr h
  have hS : va_S A s.heap s.heap [] := va_S.rf
  have hP : va_P (dC, dI) vwCl [(mo, .inr (2, [.int tw, .ref bL, .ref bT, .int (nI n), .ref bK, .ref bF, .ref bS, .ref bB, .int co, .int pl, .int st, .int jo, .int cn, .int ii, .int fi, .int fe, .ref bU])), (bK, .inl (cI, 60, .inl K)), (bF, .inl (cI, 60, .inl F)), (bS, .inl (cI, 60, .inl S)), (bB, .inl (cZ, 60, .inl B)), (bL, .inl (cI, 4, .inl L)), (bT, .inl (cI, 4, .inl T)), (bU, .inl (cI, 6, .inl U))] s.heap := hP
  have hl := lv_entry ([.ref mo, .int (nI i), .int a, .int b]) (n := 5) (Nat.le_of_ble_eq_true rfl)
  rw [lg_entry_eq]
  generalize (lg_sl ([.ref mo, .int (nI i), .int a, .int b]) ++ List.replicate (5 - (lg_sl ([.ref mo, .int (nI i), .int a, .int b])).length) Slot.unset).toArray = ls at hl ⊢
  have hl : lv_has ls 5 [(0, .ref mo), (1, .int (nI i)), (2, .int a), (3, .int b)] := hl
  have k0 := hts (.fieldLink RX2 32 "KnifeLedgerModel" "thrown" "I") (by decide +kernel)
  have hinX2 : ∀ w ∈ wsX20, w ∈ wsX2_set := by decide +kernel
  have k2 := hts (.fieldLink RX2 9 "KnifeLedgerModel" "light" "[I") (by decide +kernel)
  have k3 := hts (.fieldLink RX2 13 "KnifeLedgerModel" "tremble" "[I") (by decide +kernel)
  refine lv_aload_n hx hb dX2_set_0 rfl (lv_at hl 0 rfl) ?_
  refine lv_iconst (v := 0) hx hb dX2_set_1 (by decide) ?_
  refine va_put (D := (dC, dI)) (ci := 2) (v := .int 0) (ty := .int) (C := RX2) (T := TX2) (N := 17) hx hb hts hinX2 tyX2 tyX2_ok nmX2 hown hK hP hD hS 0 rfl rfl 0 (by decide) k0 (fun _ h9 => h9) rfl (by decide +kernel) rfl rfl (Nat.le_of_ble_eq_true rfl) dX2_set_2 (fun H_1 locs hP hD hS => ?_)
  have hP : va_P (dC, dI) vwCl [(mo, .inr (2, [.int 0, .ref bL, .ref bT, .int (nI n), .ref bK, .ref bF, .ref bS, .ref bB, .int co, .int pl, .int st, .int jo, .int cn, .int ii, .int fi, .int fe, .ref bU])), (bK, .inl (cI, 60, .inl K)), (bF, .inl (cI, 60, .inl F)), (bS, .inl (cI, 60, .inl S)), (bB, .inl (cZ, 60, .inl B)), (bL, .inl (cI, 4, .inl L)), (bT, .inl (cI, 4, .inl T)), (bU, .inl (cI, 6, .inl U))] H_1 := hP
  have hD : va_D A [(mo, .inr (2, [.int 0, .ref bL, .ref bT, .int (nI n), .ref bK, .ref bF, .ref bS, .ref bB, .int co, .int pl, .int st, .int jo, .int cn, .int ii, .int fi, .int fe, .ref bU])), (bK, .inl (cI, 60, .inl K)), (bF, .inl (cI, 60, .inl F)), (bS, .inl (cI, 60, .inl S)), (bB, .inl (cZ, 60, .inl B)), (bL, .inl (cI, 4, .inl L)), (bT, .inl (cI, 4, .inl T)), (bU, .inl (cI, 6, .inl U))] := hD
  refine lv_iload_n hx hb dX2_set_5 rfl (lv_at hl 1 rfl) ?_
  refine lv_iconst (v := 0) hx hb dX2_set_6 (by decide) ?_
  refine lv_iconst (v := 3) hx hb dX2_set_7 (by decide) ?_
  have hPc := hP.sub (ws' := []) [] rfl
  have hDc := hD.sub (ws' := []) [] (by decide) rfl
  have hKc := hK.sub (tys' := []) [] rfl
  have hFc := va_free (wc := []) hD hS hA [] rfl
  refine va_calli (va_runS (As := [.int (nI i), .int 0, .int 3]) (rest := []) ⟨hx, hb, hml, hown, hts⟩ (c_X2_isIn l dC dI H_1.size (nI i) 0 3) (va_cwS 3 hts gX2_set_X2_isIn rfl rfl rfl (by decide +kernel) ⟨Nat.le_of_ble_eq_true rfl, Nat.le_of_ble_eq_true rfl⟩) (pc_S hKc hPc hDc) rfl rfl hl.1 rfl (lv_room (Nat.le_of_ble_eq_true rfl)) dX2_set_8 ⟨Nat.le_of_ble_eq_true rfl, Nat.le_of_ble_eq_true rfl⟩) hS (fun q _ h => hFc q h) hFc (fun r_2 u t H_2 locs ht hvm hw hB hz1 hk1 hS => ?_)
  try dsimp only at hw hB
  have hw_2 := hw
  replace hw_2 := hw_2.symm
  subst hw_2
  obtain ⟨hP1, hD1⟩ := hB
  rw [ht] at hP1
  obtain ⟨hP, hD⟩ := va_join (wr := [(mo, .inr (2, [.int 0, .ref bL, .ref bT, .int (nI n), .ref bK, .ref bF, .ref bS, .ref bB, .int co, .int pl, .int st, .int jo, .int cn, .int ii, .int fi, .int fe, .ref bU])), (bK, .inl (cI, 60, .inl K)), (bF, .inl (cI, 60, .inl F)), (bS, .inl (cI, 60, .inl S)), (bB, .inl (cZ, 60, .inl B)), (bL, .inl (cI, 4, .inl L)), (bT, .inl (cI, 4, .inl T)), (bU, .inl (cI, 6, .inl U))]) (w1 := []) hP hD [] [0, 1, 2, 3, 4, 5, 6, 7] rfl rfl (by decide) (by decide) hk1 hFc hP1 hD1
  have hP : va_P (dC, dI) vwCl [(mo, .inr (2, [.int 0, .ref bL, .ref bT, .int (nI n), .ref bK, .ref bF, .ref bS, .ref bB, .int co, .int pl, .int st, .int jo, .int cn, .int ii, .int fi, .int fe, .ref bU])), (bK, .inl (cI, 60, .inl K)), (bF, .inl (cI, 60, .inl F)), (bS, .inl (cI, 60, .inl S)), (bB, .inl (cZ, 60, .inl B)), (bL, .inl (cI, 4, .inl L)), (bT, .inl (cI, 4, .inl T)), (bU, .inl (cI, 6, .inl U))] H_2 := hP
  have hD : va_D A [(mo, .inr (2, [.int 0, .ref bL, .ref bT, .int (nI n), .ref bK, .ref bF, .ref bS, .ref bB, .int co, .int pl, .int st, .int jo, .int cn, .int ii, .int fi, .int fe, .ref bU])), (bK, .inl (cI, 60, .inl K)), (bF, .inl (cI, 60, .inl F)), (bS, .inl (cI, 60, .inl S)), (bB, .inl (cZ, 60, .inl B)), (bL, .inl (cI, 4, .inl L)), (bT, .inl (cI, 4, .inl T)), (bU, .inl (cI, 6, .inl U))] := hD
  refine lv_if_ne (tgt := 20) hx hb dX2_set_11 (by decide) (fun _ => ?_) (fun h9 => absurd h9 (by show ¬ mIn (nI i) 0 (nI 3) = 0; rw [mIn_ok (nI_pos (by omega)) (nI_nlt (b := i) (a := 3) (by omega) (by omega))]; exact one_ne))
  refine lv_iload_n hx hb dX2_set_20 rfl (lv_at hl 2 rfl) ?_
  refine lv_iconst (v := 0) hx hb dX2_set_21 (by decide) ?_
  refine lv_bipush (v := 9) hx hb dX2_set_22 (by decide) ?_
  have hPc := hP.sub (ws' := []) [] rfl
  have hDc := hD.sub (ws' := []) [] (by decide) rfl
  have hKc := hK.sub (tys' := []) [] rfl
  have hFc := va_free (wc := []) hD hS hA [] rfl
  refine va_calli (va_runS (As := [.int a, .int 0, .int 9]) (rest := []) ⟨hx, hb, hml, hown, hts⟩ (c_X2_isIn l dC dI H_2.size a 0 9) (va_cwS 3 hts gX2_set_X2_isIn rfl rfl rfl (by decide +kernel) ⟨Nat.le_of_ble_eq_true rfl, Nat.le_of_ble_eq_true rfl⟩) (pc_S hKc hPc hDc) rfl rfl hl.1 rfl (lv_room (Nat.le_of_ble_eq_true rfl)) dX2_set_24 ⟨Nat.le_of_ble_eq_true rfl, Nat.le_of_ble_eq_true rfl⟩) hS (fun q _ h => hFc q h) hFc (fun r_3 u t H_3 locs ht hvm hw hB hz1 hk1 hS => ?_)
  try dsimp only at hw hB
  have hw_3 := hw
  replace hw_3 := hw_3.symm
  subst hw_3
  obtain ⟨hP1, hD1⟩ := hB
  rw [ht] at hP1
  obtain ⟨hP, hD⟩ := va_join (wr := [(mo, .inr (2, [.int 0, .ref bL, .ref bT, .int (nI n), .ref bK, .ref bF, .ref bS, .ref bB, .int co, .int pl, .int st, .int jo, .int cn, .int ii, .int fi, .int fe, .ref bU])), (bK, .inl (cI, 60, .inl K)), (bF, .inl (cI, 60, .inl F)), (bS, .inl (cI, 60, .inl S)), (bB, .inl (cZ, 60, .inl B)), (bL, .inl (cI, 4, .inl L)), (bT, .inl (cI, 4, .inl T)), (bU, .inl (cI, 6, .inl U))]) (w1 := []) hP hD [] [0, 1, 2, 3, 4, 5, 6, 7] rfl rfl (by decide) (by decide) hk1 hFc hP1 hD1
  have hP : va_P (dC, dI) vwCl [(mo, .inr (2, [.int 0, .ref bL, .ref bT, .int (nI n), .ref bK, .ref bF, .ref bS, .ref bB, .int co, .int pl, .int st, .int jo, .int cn, .int ii, .int fi, .int fe, .ref bU])), (bK, .inl (cI, 60, .inl K)), (bF, .inl (cI, 60, .inl F)), (bS, .inl (cI, 60, .inl S)), (bB, .inl (cZ, 60, .inl B)), (bL, .inl (cI, 4, .inl L)), (bT, .inl (cI, 4, .inl T)), (bU, .inl (cI, 6, .inl U))] H_3 := hP
  have hD : va_D A [(mo, .inr (2, [.int 0, .ref bL, .ref bT, .int (nI n), .ref bK, .ref bF, .ref bS, .ref bB, .int co, .int pl, .int st, .int jo, .int cn, .int ii, .int fi, .int fe, .ref bU])), (bK, .inl (cI, 60, .inl K)), (bF, .inl (cI, 60, .inl F)), (bS, .inl (cI, 60, .inl S)), (bB, .inl (cZ, 60, .inl B)), (bL, .inl (cI, 4, .inl L)), (bT, .inl (cI, 4, .inl T)), (bU, .inl (cI, 6, .inl U))] := hD
  refine lv_if_eq (tgt := 40) hx hb dX2_set_27 (by decide) (fun h9 => absurd h9 (by rw [mIn_ok h0 h1]; exact one_ne)) (fun _ => ?_)
  refine lv_iload_n hx hb dX2_set_30 rfl (lv_at hl 3 rfl) ?_
  refine lv_iconst (v := 0) hx hb dX2_set_31 (by decide) ?_
  refine lv_bipush (v := 9) hx hb dX2_set_32 (by decide) ?_
  have hPc := hP.sub (ws' := []) [] rfl
  have hDc := hD.sub (ws' := []) [] (by decide) rfl
  have hKc := hK.sub (tys' := []) [] rfl
  have hFc := va_free (wc := []) hD hS hA [] rfl
  refine va_calli (va_runS (As := [.int b, .int 0, .int 9]) (rest := []) ⟨hx, hb, hml, hown, hts⟩ (c_X2_isIn l dC dI H_3.size b 0 9) (va_cwS 3 hts gX2_set_X2_isIn rfl rfl rfl (by decide +kernel) ⟨Nat.le_of_ble_eq_true rfl, Nat.le_of_ble_eq_true rfl⟩) (pc_S hKc hPc hDc) rfl rfl hl.1 rfl (lv_room (Nat.le_of_ble_eq_true rfl)) dX2_set_34 ⟨Nat.le_of_ble_eq_true rfl, Nat.le_of_ble_eq_true rfl⟩) hS (fun q _ h => hFc q h) hFc (fun r_4 u t H_4 locs ht hvm hw hB hz1 hk1 hS => ?_)
  try dsimp only at hw hB
  have hw_4 := hw
  replace hw_4 := hw_4.symm
  subst hw_4
  obtain ⟨hP1, hD1⟩ := hB
  rw [ht] at hP1
  obtain ⟨hP, hD⟩ := va_join (wr := [(mo, .inr (2, [.int 0, .ref bL, .ref bT, .int (nI n), .ref bK, .ref bF, .ref bS, .ref bB, .int co, .int pl, .int st, .int jo, .int cn, .int ii, .int fi, .int fe, .ref bU])), (bK, .inl (cI, 60, .inl K)), (bF, .inl (cI, 60, .inl F)), (bS, .inl (cI, 60, .inl S)), (bB, .inl (cZ, 60, .inl B)), (bL, .inl (cI, 4, .inl L)), (bT, .inl (cI, 4, .inl T)), (bU, .inl (cI, 6, .inl U))]) (w1 := []) hP hD [] [0, 1, 2, 3, 4, 5, 6, 7] rfl rfl (by decide) (by decide) hk1 hFc hP1 hD1
  have hP : va_P (dC, dI) vwCl [(mo, .inr (2, [.int 0, .ref bL, .ref bT, .int (nI n), .ref bK, .ref bF, .ref bS, .ref bB, .int co, .int pl, .int st, .int jo, .int cn, .int ii, .int fi, .int fe, .ref bU])), (bK, .inl (cI, 60, .inl K)), (bF, .inl (cI, 60, .inl F)), (bS, .inl (cI, 60, .inl S)), (bB, .inl (cZ, 60, .inl B)), (bL, .inl (cI, 4, .inl L)), (bT, .inl (cI, 4, .inl T)), (bU, .inl (cI, 6, .inl U))] H_4 := hP
  have hD : va_D A [(mo, .inr (2, [.int 0, .ref bL, .ref bT, .int (nI n), .ref bK, .ref bF, .ref bS, .ref bB, .int co, .int pl, .int st, .int jo, .int cn, .int ii, .int fi, .int fe, .ref bU])), (bK, .inl (cI, 60, .inl K)), (bF, .inl (cI, 60, .inl F)), (bS, .inl (cI, 60, .inl S)), (bB, .inl (cZ, 60, .inl B)), (bL, .inl (cI, 4, .inl L)), (bT, .inl (cI, 4, .inl T)), (bU, .inl (cI, 6, .inl U))] := hD
  refine lv_if_ne (tgt := 46) hx hb dX2_set_37 (by decide) (fun _ => ?_) (fun h9 => absurd h9 (by rw [mIn_ok h2 h3]; exact one_ne))
  refine lv_bipush (v := 10) hx hb dX2_set_46 (by decide) ?_
  refine lv_aload_n hx hb dX2_set_48 rfl (lv_at hl 0 rfl) ?_
  refine va_get (D := (dC, dI)) (ci := 2) (v := .ref bL) (C := RX2) (T := TX2) (N := 17) hx hb hts hinX2 hown hK hP 0 rfl rfl 1 (by decide) k2 (fun _ h9 => h9) rfl dX2_set_49 ?_
  refine lv_iload_n hx hb dX2_set_52 rfl (lv_at hl 1 rfl) ?_
  refine va_iald hx hb hK hP 5 0 rfl rfl (vp_in_nI (by omega) (by omega)) dX2_set_53 ?_
  rw [nI_clamp (n := i) (by omega)]
  refine lv_imul hx hb dX2_set_54 ?_
  refine lv_aload_n hx hb dX2_set_55 rfl (lv_at hl 0 rfl) ?_
  refine va_get (D := (dC, dI)) (ci := 2) (v := .ref bT) (C := RX2) (T := TX2) (N := 17) hx hb hts hinX2 hown hK hP 0 rfl rfl 2 (by decide) k3 (fun _ h9 => h9) rfl dX2_set_56 ?_
  refine lv_iload_n hx hb dX2_set_59 rfl (lv_at hl 1 rfl) ?_
  refine va_iald hx hb hK hP 6 0 rfl rfl (vp_in_nI (by omega) (by omega)) dX2_set_60 ?_
  rw [nI_clamp (n := i) (by omega)]
  refine lv_iadd hx hb dX2_set_61 ?_
  refine lv_istore (lv' := [(4, .int ((10 * (L i)) + (T i))), (0, .ref mo), (1, .int (nI i)), (2, .int a), (3, .int b)]) hx hb dX2_set_62 hl (by decide) rfl (fun ls hl => ?_)
  refine lv_aload_n hx hb dX2_set_64 rfl (lv_at hl 1 rfl) ?_
  refine va_get (D := (dC, dI)) (ci := 2) (v := .ref bL) (C := RX2) (T := TX2) (N := 17) hx hb hts hinX2 hown hK hP 0 rfl rfl 1 (by decide) k2 (fun _ h9 => h9) rfl dX2_set_65 ?_
  refine lv_iload_n hx hb dX2_set_68 rfl (lv_at hl 2 rfl) ?_
  refine lv_iload_n hx hb dX2_set_69 rfl (lv_at hl 3 rfl) ?_
  refine va_iast hx hb hK hP hD hS 5 0 rfl rfl (vp_in_nI (by omega) (by omega)) dX2_set_70 (fun H_5 locs hP hD hS => ?_)
  have hP : va_P (dC, dI) vwCl [(mo, .inr (2, [.int 0, .ref bL, .ref bT, .int (nI n), .ref bK, .ref bF, .ref bS, .ref bB, .int co, .int pl, .int st, .int jo, .int cn, .int ii, .int fi, .int fe, .ref bU])), (bK, .inl (cI, 60, .inl K)), (bF, .inl (cI, 60, .inl F)), (bS, .inl (cI, 60, .inl S)), (bB, .inl (cZ, 60, .inl B)), (bL, .inl (cI, 4, .inl (upd L ((nI i).toNatClampNeg) a))), (bT, .inl (cI, 4, .inl T)), (bU, .inl (cI, 6, .inl U))] H_5 := hP
  have hD : va_D A [(mo, .inr (2, [.int 0, .ref bL, .ref bT, .int (nI n), .ref bK, .ref bF, .ref bS, .ref bB, .int co, .int pl, .int st, .int jo, .int cn, .int ii, .int fi, .int fe, .ref bU])), (bK, .inl (cI, 60, .inl K)), (bF, .inl (cI, 60, .inl F)), (bS, .inl (cI, 60, .inl S)), (bB, .inl (cZ, 60, .inl B)), (bL, .inl (cI, 4, .inl (upd L ((nI i).toNatClampNeg) a))), (bT, .inl (cI, 4, .inl T)), (bU, .inl (cI, 6, .inl U))] := hD
  rw [nI_clamp (by omega)] at hP hD
  have hP : va_P (dC, dI) vwCl [(mo, .inr (2, [.int 0, .ref bL, .ref bT, .int (nI n), .ref bK, .ref bF, .ref bS, .ref bB, .int co, .int pl, .int st, .int jo, .int cn, .int ii, .int fi, .int fe, .ref bU])), (bK, .inl (cI, 60, .inl K)), (bF, .inl (cI, 60, .inl F)), (bS, .inl (cI, 60, .inl S)), (bB, .inl (cZ, 60, .inl B)), (bL, .inl (cI, 4, .inl (upd L (i) a))), (bT, .inl (cI, 4, .inl T)), (bU, .inl (cI, 6, .inl U))] H_5 := hP
  have hD : va_D A [(mo, .inr (2, [.int 0, .ref bL, .ref bT, .int (nI n), .ref bK, .ref bF, .ref bS, .ref bB, .int co, .int pl, .int st, .int jo, .int cn, .int ii, .int fi, .int fe, .ref bU])), (bK, .inl (cI, 60, .inl K)), (bF, .inl (cI, 60, .inl F)), (bS, .inl (cI, 60, .inl S)), (bB, .inl (cZ, 60, .inl B)), (bL, .inl (cI, 4, .inl (upd L (i) a))), (bT, .inl (cI, 4, .inl T)), (bU, .inl (cI, 6, .inl U))] := hD
  refine lv_aload_n hx hb dX2_set_71 rfl (lv_at hl 1 rfl) ?_
  refine va_get (D := (dC, dI)) (ci := 2) (v := .ref bT) (C := RX2) (T := TX2) (N := 17) hx hb hts hinX2 hown hK hP 0 rfl rfl 2 (by decide) k3 (fun _ h9 => h9) rfl dX2_set_72 ?_
  refine lv_iload_n hx hb dX2_set_75 rfl (lv_at hl 2 rfl) ?_
  refine lv_iload_n hx hb dX2_set_76 rfl (lv_at hl 4 rfl) ?_
  refine va_iast hx hb hK hP hD hS 6 0 rfl rfl (vp_in_nI (by omega) (by omega)) dX2_set_77 (fun H_6 locs hP hD hS => ?_)
  have hP : va_P (dC, dI) vwCl [(mo, .inr (2, [.int 0, .ref bL, .ref bT, .int (nI n), .ref bK, .ref bF, .ref bS, .ref bB, .int co, .int pl, .int st, .int jo, .int cn, .int ii, .int fi, .int fe, .ref bU])), (bK, .inl (cI, 60, .inl K)), (bF, .inl (cI, 60, .inl F)), (bS, .inl (cI, 60, .inl S)), (bB, .inl (cZ, 60, .inl B)), (bL, .inl (cI, 4, .inl (upd L (i) a))), (bT, .inl (cI, 4, .inl (upd T ((nI i).toNatClampNeg) b))), (bU, .inl (cI, 6, .inl U))] H_6 := hP
  have hD : va_D A [(mo, .inr (2, [.int 0, .ref bL, .ref bT, .int (nI n), .ref bK, .ref bF, .ref bS, .ref bB, .int co, .int pl, .int st, .int jo, .int cn, .int ii, .int fi, .int fe, .ref bU])), (bK, .inl (cI, 60, .inl K)), (bF, .inl (cI, 60, .inl F)), (bS, .inl (cI, 60, .inl S)), (bB, .inl (cZ, 60, .inl B)), (bL, .inl (cI, 4, .inl (upd L (i) a))), (bT, .inl (cI, 4, .inl (upd T ((nI i).toNatClampNeg) b))), (bU, .inl (cI, 6, .inl U))] := hD
  rw [nI_clamp (by omega)] at hP hD
  have hP : va_P (dC, dI) vwCl [(mo, .inr (2, [.int 0, .ref bL, .ref bT, .int (nI n), .ref bK, .ref bF, .ref bS, .ref bB, .int co, .int pl, .int st, .int jo, .int cn, .int ii, .int fi, .int fe, .ref bU])), (bK, .inl (cI, 60, .inl K)), (bF, .inl (cI, 60, .inl F)), (bS, .inl (cI, 60, .inl S)), (bB, .inl (cZ, 60, .inl B)), (bL, .inl (cI, 4, .inl (upd L (i) a))), (bT, .inl (cI, 4, .inl (upd T (i) b))), (bU, .inl (cI, 6, .inl U))] H_6 := hP
  have hD : va_D A [(mo, .inr (2, [.int 0, .ref bL, .ref bT, .int (nI n), .ref bK, .ref bF, .ref bS, .ref bB, .int co, .int pl, .int st, .int jo, .int cn, .int ii, .int fi, .int fe, .ref bU])), (bK, .inl (cI, 60, .inl K)), (bF, .inl (cI, 60, .inl F)), (bS, .inl (cI, 60, .inl S)), (bB, .inl (cZ, 60, .inl B)), (bL, .inl (cI, 4, .inl (upd L (i) a))), (bT, .inl (cI, 4, .inl (upd T (i) b))), (bU, .inl (cI, 6, .inl U))] := hD
  refine lv_iload hx hb dX2_set_78 (lv_at hl 0 rfl) ?_
  have hpost : ((10 * (L i)) + (T i)) = 10 * L i + T i := by
    rfl
  have hP9 := hP.sub (ws' := [(mo, .inr (2, [.int 0, .ref bL, .ref bT, .int (nI n), .ref bK, .ref bF, .ref bS, .ref bB, .int co, .int pl, .int st, .int jo, .int cn, .int ii, .int fi, .int fe, .ref bU])), (bK, .inl (cI, 60, .inl K)), (bF, .inl (cI, 60, .inl F)), (bS, .inl (cI, 60, .inl S)), (bB, .inl (cZ, 60, .inl B)), (bL, .inl (cI, 4, .inl (upd L (i) a))), (bT, .inl (cI, 4, .inl (upd T (i) b))), (bU, .inl (cI, 6, .inl U))]) [0, 1, 2, 3, 4, 5, 6, 7] rfl
  have hD9 := hD.sub (ws' := [(mo, .inr (2, [.int 0, .ref bL, .ref bT, .int (nI n), .ref bK, .ref bF, .ref bS, .ref bB, .int co, .int pl, .int st, .int jo, .int cn, .int ii, .int fi, .int fe, .ref bU])), (bK, .inl (cI, 60, .inl K)), (bF, .inl (cI, 60, .inl F)), (bS, .inl (cI, 60, .inl S)), (bB, .inl (cZ, 60, .inl B)), (bL, .inl (cI, 4, .inl (upd L (i) a))), (bT, .inl (cI, 4, .inl (upd T (i) b))), (bU, .inl (cI, 6, .inl U))]) [0, 1, 2, 3, 4, 5, 6, 7] (by decide) rfl
  exact W.iret (v := (10 * (L i)) + (T i)) hx hb hr (fun t ht hW => ⟨⟨((10 * (L i)) + (T i)), (), rfl, hpost, by rw [ht]; exact hP9, hD9⟩, hS.F ht⟩) hS.2.2 dX2_set_80

set_option maxHeartbeats 4000000 in
set_option maxRecDepth 100000 in
theorem c_X2_set_f1 (l : Launch) (dC : Nat → ClassId) (dI : Nat → Nat → Nat) (cI cZ : ClassId) (mo bK bF bS bB bL bT bU : Nat) (sz : Nat) (L : N2I) (T : N2I) (K : N2I) (F : N2I) (S : N2I) (B : N2I) (U : N2I) (n : Nat) (tw : Int32) (co : Int32) (pl : Int32) (st : Int32) (jo : Int32) (cn : Int32) (ii : Int32) (fi : Int32) (fe : Int32) (x : Int32) (a : Int32) (b : Int32) (hb0 : x < 0 ∨ 3 < x) : Met l yX2_set wsX2_set ({ frames := 2, cells := 0, slots := 0, locals := 52 } : Room) (va_Pc [.ref mo, .int x, .int a, .int b] (pc_ (dC, dI) [(cI, .int), (cZ, .boolean)] [(mo, .inr (2, [.int tw, .ref bL, .ref bT, .int (nI n), .ref bK, .ref bF, .ref bS, .ref bB, .int co, .int pl, .int st, .int jo, .int cn, .int ii, .int fi, .int fe, .ref bU])), (bK, .inl (cI, 60, .inl K)), (bF, .inl (cI, 60, .inl F)), (bS, .inl (cI, 60, .inl S)), (bB, .inl (cZ, 60, .inl B)), (bL, .inl (cI, 4, .inl L)), (bT, .inl (cI, 4, .inl T)), (bU, .inl (cI, 6, .inl U))] sz)) (va_Qi (fun (r : Int32) (u : Unit) => r = 0) (fun (u : Unit) (t : State) => va_P (dC, dI) vwCl [(mo, .inr (2, [.int 1, .ref bL, .ref bT, .int (nI n), .ref bK, .ref bF, .ref bS, .ref bB, .int co, .int pl, .int st, .int jo, .int cn, .int ii, .int fi, .int fe, .ref bU])), (bK, .inl (cI, 60, .inl K)), (bF, .inl (cI, 60, .inl F)), (bS, .inl (cI, 60, .inl S)), (bB, .inl (cZ, 60, .inl B)), (bL, .inl (cI, 4, .inl L)), (bT, .inl (cI, 4, .inl T)), (bU, .inl (cI, 6, .inl U))] t.heap ∧ va_D (va_A [(mo, .inr (2, [.int tw, .ref bL, .ref bT, .int (nI n), .ref bK, .ref bF, .ref bS, .ref bB, .int co, .int pl, .int st, .int jo, .int cn, .int ii, .int fi, .int fe, .ref bU])), (bK, .inl (cI, 60, .inl K)), (bF, .inl (cI, 60, .inl F)), (bS, .inl (cI, 60, .inl S)), (bB, .inl (cZ, 60, .inl B)), (bL, .inl (cI, 4, .inl L)), (bT, .inl (cI, 4, .inl T)), (bU, .inl (cI, 6, .inl U))] sz) [(mo, .inr (2, [.int 1, .ref bL, .ref bT, .int (nI n), .ref bK, .ref bF, .ref bS, .ref bB, .int co, .int pl, .int st, .int jo, .int cn, .int ii, .int fi, .int fe, .ref bU])), (bK, .inl (cI, 60, .inl K)), (bF, .inl (cI, 60, .inl F)), (bS, .inl (cI, 60, .inl S)), (bB, .inl (cZ, 60, .inl B)), (bL, .inl (cI, 4, .inl L)), (bT, .inl (cI, 4, .inl T)), (bU, .inl (cI, 6, .inl U))]) (va_A [(mo, .inr (2, [.int tw, .ref bL, .ref bT, .int (nI n), .ref bK, .ref bF, .ref bS, .ref bB, .int co, .int pl, .int st, .int jo, .int cn, .int ii, .int fi, .int fe, .ref bU])), (bK, .inl (cI, 60, .inl K)), (bF, .inl (cI, 60, .inl F)), (bS, .inl (cI, 60, .inl S)), (bB, .inl (cZ, 60, .inl B)), (bL, .inl (cI, 4, .inl L)), (bT, .inl (cI, 4, .inl T)), (bU, .inl (cI, 6, .inl U))] sz)) 0 0 (va_A [(mo, .inr (2, [.int tw, .ref bL, .ref bT, .int (nI n), .ref bK, .ref bF, .ref bS, .ref bB, .int co, .int pl, .int st, .int jo, .int cn, .int ii, .int fi, .int fe, .ref bU])), (bK, .inl (cI, 60, .inl K)), (bF, .inl (cI, 60, .inl F)), (bS, .inl (cI, 60, .inl S)), (bB, .inl (cZ, 60, .inl B)), (bL, .inl (cI, 4, .inl L)), (bT, .inl (cI, 4, .inl T)), (bU, .inl (cI, 6, .inl U))] sz) := by
  refine Met.ofW (cc := cX2_set) (maxL := 5) (ret := (some .int)) (by decide) rfl ?_
  intro p e s m args below meth c s₁ BB hml hv
  obtain ⟨rfl, hsz, hP, hK, hD0⟩ := hv
  have hx := BB.exec
  have hb := BB.bytes
  have hr := BB.returns
  have hts := atoms_spec (ws := wsX2_set) BB.pre
  have hown : s.vm.findClass RX2 = some m.cls := findClass_of_methodNamed BB.named
  have hlocks := BB.notSynchronized
  subst hsz
  have hD := hD0.self (sz := s.heap.size)
  generalize hAe : va_A [(mo, .inr (2, [.int tw, .ref bL, .ref bT, .int (nI n), .ref bK, .ref bF, .ref bS, .ref bB, .int co, .int pl, .int st, .int jo, .int cn, .int ii, .int fi, .int fe, .ref bU])), (bK, .inl (cI, 60, .inl K)), (bF, .inl (cI, 60, .inl F)), (bS, .inl (cI, 60, .inl S)), (bB, .inl (cZ, 60, .inl B)), (bL, .inl (cI, 4, .inl L)), (bT, .inl (cI, 4, .inl T)), (bU, .inl (cI, 6, .inl U))] s.heap.size = A at hD ⊢
  have hA : ∀ q : Nat, s.heap.size ≤ q → A q := fun q h => by rw [← hAe]; exact Or.inr h
  have hS : va_S A s.heap s.heap [] := va_S.rf
  have hP : va_P (dC, dI) vwCl [(mo, .inr (2, [.int tw, .ref bL, .ref bT, .int (nI n), .ref bK, .ref bF, .ref bS, .ref bB, .int co, .int pl, .int st, .int jo, .int cn, .int ii, .int fi, .int fe, .ref bU])), (bK, .inl (cI, 60, .inl K)), (bF, .inl (cI, 60, .inl F)), (bS, .inl (cI, 60, .inl S)), (bB, .inl (cZ, 60, .inl B)), (bL, .inl (cI, 4, .inl L)), (bT, .inl (cI, 4, .inl T)), (bU, .inl (cI, 6, .inl U))] s.heap := hP
  have hl := lv_entry ([.ref mo, .int x, .int a, .int b]) (n := 5) (Nat.le_of_ble_eq_true rfl)
  rw [lg_entry_eq]
  generalize (lg_sl ([.ref mo, .int x, .int a, .int b]) ++ List.replicate (5 - (lg_sl ([.ref mo, .int x, .int a, .int b])).length) Slot.unset).toArray = ls at hl ⊢
  have hl : lv_has ls 5 [(0, .ref mo), (1, .int x), (2, .int a), (3, .int b)] := hl
  have k0 := hts (.fieldLink RX2 32 "KnifeLedgerModel" "thrown" "I") (by decide +kernel)
  have hinX2 : ∀ w ∈ wsX20, w ∈ wsX2_set := by decide +kernel
  refine lv_aload_n hx hb dX2_set_0 rfl (lv_at hl 0 rfl) ?_
  refine lv_iconst (v := 0) hx hb dX2_set_1 (by decide) ?_
  refine va_put (D := (dC, dI)) (ci := 2) (v := .int 0) (ty := .int) (C := RX2) (T := TX2) (N := 17) hx hb hts hinX2 tyX2 tyX2_ok nmX2 hown hK hP hD hS 0 rfl rfl 0 (by decide) k0 (fun _ h9 => h9) rfl (by decide +kernel) rfl rfl (Nat.le_of_ble_eq_true rfl) dX2_set_2 (fun H_1 locs hP hD hS => ?_)
  have hP : va_P (dC, dI) vwCl [(mo, .inr (2, [.int 0, .ref bL, .ref bT, .int (nI n), .ref bK, .ref bF, .ref bS, .ref bB, .int co, .int pl, .int st, .int jo, .int cn, .int ii, .int fi, .int fe, .ref bU])), (bK, .inl (cI, 60, .inl K)), (bF, .inl (cI, 60, .inl F)), (bS, .inl (cI, 60, .inl S)), (bB, .inl (cZ, 60, .inl B)), (bL, .inl (cI, 4, .inl L)), (bT, .inl (cI, 4, .inl T)), (bU, .inl (cI, 6, .inl U))] H_1 := hP
  have hD : va_D A [(mo, .inr (2, [.int 0, .ref bL, .ref bT, .int (nI n), .ref bK, .ref bF, .ref bS, .ref bB, .int co, .int pl, .int st, .int jo, .int cn, .int ii, .int fi, .int fe, .ref bU])), (bK, .inl (cI, 60, .inl K)), (bF, .inl (cI, 60, .inl F)), (bS, .inl (cI, 60, .inl S)), (bB, .inl (cZ, 60, .inl B)), (bL, .inl (cI, 4, .inl L)), (bT, .inl (cI, 4, .inl T)), (bU, .inl (cI, 6, .inl U))] := hD
  refine lv_iload_n hx hb dX2_set_5 rfl (lv_at hl 1 rfl) ?_
  refine lv_iconst (v := 0) hx hb dX2_set_6 (by decide) ?_
  refine lv_iconst (v := 3) hx hb dX2_set_7 (by decide) ?_
  have hPc := hP.sub (ws' := []) [] rfl
  have hDc := hD.sub (ws' := []) [] (by decide) rfl
  have hKc := hK.sub (tys' := []) [] rfl
  have hFc := va_free (wc := []) hD hS hA [] rfl
  refine va_calli (va_runS (As := [.int x, .int 0, .int 3]) (rest := []) ⟨hx, hb, hml, hown, hts⟩ (c_X2_isIn l dC dI H_1.size x 0 3) (va_cwS 3 hts gX2_set_X2_isIn rfl rfl rfl (by decide +kernel) ⟨Nat.le_of_ble_eq_true rfl, Nat.le_of_ble_eq_true rfl⟩) (pc_S hKc hPc hDc) rfl rfl hl.1 rfl (lv_room (Nat.le_of_ble_eq_true rfl)) dX2_set_8 ⟨Nat.le_of_ble_eq_true rfl, Nat.le_of_ble_eq_true rfl⟩) hS (fun q _ h => hFc q h) hFc (fun r_2 u t H_2 locs ht hvm hw hB hz1 hk1 hS => ?_)
  try dsimp only at hw hB
  have hw_2 := hw
  replace hw_2 := hw_2.symm
  subst hw_2
  obtain ⟨hP1, hD1⟩ := hB
  rw [ht] at hP1
  obtain ⟨hP, hD⟩ := va_join (wr := [(mo, .inr (2, [.int 0, .ref bL, .ref bT, .int (nI n), .ref bK, .ref bF, .ref bS, .ref bB, .int co, .int pl, .int st, .int jo, .int cn, .int ii, .int fi, .int fe, .ref bU])), (bK, .inl (cI, 60, .inl K)), (bF, .inl (cI, 60, .inl F)), (bS, .inl (cI, 60, .inl S)), (bB, .inl (cZ, 60, .inl B)), (bL, .inl (cI, 4, .inl L)), (bT, .inl (cI, 4, .inl T)), (bU, .inl (cI, 6, .inl U))]) (w1 := []) hP hD [] [0, 1, 2, 3, 4, 5, 6, 7] rfl rfl (by decide) (by decide) hk1 hFc hP1 hD1
  have hP : va_P (dC, dI) vwCl [(mo, .inr (2, [.int 0, .ref bL, .ref bT, .int (nI n), .ref bK, .ref bF, .ref bS, .ref bB, .int co, .int pl, .int st, .int jo, .int cn, .int ii, .int fi, .int fe, .ref bU])), (bK, .inl (cI, 60, .inl K)), (bF, .inl (cI, 60, .inl F)), (bS, .inl (cI, 60, .inl S)), (bB, .inl (cZ, 60, .inl B)), (bL, .inl (cI, 4, .inl L)), (bT, .inl (cI, 4, .inl T)), (bU, .inl (cI, 6, .inl U))] H_2 := hP
  have hD : va_D A [(mo, .inr (2, [.int 0, .ref bL, .ref bT, .int (nI n), .ref bK, .ref bF, .ref bS, .ref bB, .int co, .int pl, .int st, .int jo, .int cn, .int ii, .int fi, .int fe, .ref bU])), (bK, .inl (cI, 60, .inl K)), (bF, .inl (cI, 60, .inl F)), (bS, .inl (cI, 60, .inl S)), (bB, .inl (cZ, 60, .inl B)), (bL, .inl (cI, 4, .inl L)), (bT, .inl (cI, 4, .inl T)), (bU, .inl (cI, 6, .inl U))] := hD
  refine lv_if_ne (tgt := 20) hx hb dX2_set_11 (by decide) (fun h9 => absurd (mIn_bad hb0) h9) (fun _ => ?_)
  refine lv_aload_n hx hb dX2_set_14 rfl (lv_at hl 0 rfl) ?_
  refine lv_iconst (v := 1) hx hb dX2_set_15 (by decide) ?_
  have hPc := hP.sub (ws' := [(mo, .inr (2, [.int 0, .ref bL, .ref bT, .int (nI n), .ref bK, .ref bF, .ref bS, .ref bB, .int co, .int pl, .int st, .int jo, .int cn, .int ii, .int fi, .int fe, .ref bU])), (bK, .inl (cI, 60, .inl K)), (bF, .inl (cI, 60, .inl F)), (bS, .inl (cI, 60, .inl S)), (bB, .inl (cZ, 60, .inl B)), (bL, .inl (cI, 4, .inl L)), (bT, .inl (cI, 4, .inl T)), (bU, .inl (cI, 6, .inl U))]) [0, 1, 2, 3, 4, 5, 6, 7] rfl
  have hDc := hD.sub (ws' := [(mo, .inr (2, [.int 0, .ref bL, .ref bT, .int (nI n), .ref bK, .ref bF, .ref bS, .ref bB, .int co, .int pl, .int st, .int jo, .int cn, .int ii, .int fi, .int fe, .ref bU])), (bK, .inl (cI, 60, .inl K)), (bF, .inl (cI, 60, .inl F)), (bS, .inl (cI, 60, .inl S)), (bB, .inl (cZ, 60, .inl B)), (bL, .inl (cI, 4, .inl L)), (bT, .inl (cI, 4, .inl T)), (bU, .inl (cI, 6, .inl U))]) [0, 1, 2, 3, 4, 5, 6, 7] (by decide) rfl
  have hKc := hK.sub (tys' := [(cI, .int), (cZ, .boolean)]) [0, 1] rfl
  have hFc := va_free (wc := [(mo, .inr (2, [.int 0, .ref bL, .ref bT, .int (nI n), .ref bK, .ref bF, .ref bS, .ref bB, .int co, .int pl, .int st, .int jo, .int cn, .int ii, .int fi, .int fe, .ref bU])), (bK, .inl (cI, 60, .inl K)), (bF, .inl (cI, 60, .inl F)), (bS, .inl (cI, 60, .inl S)), (bB, .inl (cZ, 60, .inl B)), (bL, .inl (cI, 4, .inl L)), (bT, .inl (cI, 4, .inl T)), (bU, .inl (cI, 6, .inl U))]) hD hS hA [0, 1, 2, 3, 4, 5, 6, 7] rfl
  refine va_calli (va_runV (As := [.int 1]) (rest := []) ⟨hx, hb, hml, hown, hts⟩ (c_X2_fail l dC dI cI cZ mo bK bF bS bB bL bT bU H_2.size L T K F S B U n 0 co pl st jo cn ii fi fe 1) (cwV 1 hts gX2_set_X2_fail rfl rfl rfl (by decide +kernel) ⟨Nat.le_of_ble_eq_true rfl, Nat.le_of_ble_eq_true rfl⟩) (pc_V hKc hPc hDc (ci := 2) (C := RX2) (T := TX2) (N := 17) (q0 := 0) rfl rfl) rfl rfl hl.1 rfl (lv_room (Nat.le_of_ble_eq_true rfl)) dX2_set_16 ⟨Nat.le_of_ble_eq_true rfl, Nat.le_of_ble_eq_true rfl⟩) hS (fun q _ h => hFc q h) hFc (fun r_3 u t H_3 locs ht hvm hw hB hz1 hk1 hS => ?_)
  try dsimp only at hw hB
  have hw_3 := hw
  replace hw_3 := hw_3.symm
  subst hw_3
  obtain ⟨hP1, hD1⟩ := hB
  rw [ht] at hP1
  obtain ⟨hP, hD⟩ := va_join (wr := []) (w1 := [(mo, .inr (2, [.int 1, .ref bL, .ref bT, .int (nI n), .ref bK, .ref bF, .ref bS, .ref bB, .int co, .int pl, .int st, .int jo, .int cn, .int ii, .int fi, .int fe, .ref bU])), (bK, .inl (cI, 60, .inl K)), (bF, .inl (cI, 60, .inl F)), (bS, .inl (cI, 60, .inl S)), (bB, .inl (cZ, 60, .inl B)), (bL, .inl (cI, 4, .inl L)), (bT, .inl (cI, 4, .inl T)), (bU, .inl (cI, 6, .inl U))]) hP hD [0, 1, 2, 3, 4, 5, 6, 7] [] rfl rfl (by decide) (by decide) hk1 hFc hP1 hD1
  have hP : va_P (dC, dI) vwCl [(mo, .inr (2, [.int 1, .ref bL, .ref bT, .int (nI n), .ref bK, .ref bF, .ref bS, .ref bB, .int co, .int pl, .int st, .int jo, .int cn, .int ii, .int fi, .int fe, .ref bU])), (bK, .inl (cI, 60, .inl K)), (bF, .inl (cI, 60, .inl F)), (bS, .inl (cI, 60, .inl S)), (bB, .inl (cZ, 60, .inl B)), (bL, .inl (cI, 4, .inl L)), (bT, .inl (cI, 4, .inl T)), (bU, .inl (cI, 6, .inl U))] H_3 := hP
  have hD : va_D A [(mo, .inr (2, [.int 1, .ref bL, .ref bT, .int (nI n), .ref bK, .ref bF, .ref bS, .ref bB, .int co, .int pl, .int st, .int jo, .int cn, .int ii, .int fi, .int fe, .ref bU])), (bK, .inl (cI, 60, .inl K)), (bF, .inl (cI, 60, .inl F)), (bS, .inl (cI, 60, .inl S)), (bB, .inl (cZ, 60, .inl B)), (bL, .inl (cI, 4, .inl L)), (bT, .inl (cI, 4, .inl T)), (bU, .inl (cI, 6, .inl U))] := hD
  have hpost : (0 : Int32) = 0 := by
    rfl
  have hP9 := hP.sub (ws' := [(mo, .inr (2, [.int 1, .ref bL, .ref bT, .int (nI n), .ref bK, .ref bF, .ref bS, .ref bB, .int co, .int pl, .int st, .int jo, .int cn, .int ii, .int fi, .int fe, .ref bU])), (bK, .inl (cI, 60, .inl K)), (bF, .inl (cI, 60, .inl F)), (bS, .inl (cI, 60, .inl S)), (bB, .inl (cZ, 60, .inl B)), (bL, .inl (cI, 4, .inl L)), (bT, .inl (cI, 4, .inl T)), (bU, .inl (cI, 6, .inl U))]) [0, 1, 2, 3, 4, 5, 6, 7] rfl
  have hD9 := hD.sub (ws' := [(mo, .inr (2, [.int 1, .ref bL, .ref bT, .int (nI n), .ref bK, .ref bF, .ref bS, .ref bB, .int co, .int pl, .int st, .int jo, .int cn, .int ii, .int fi, .int fe, .ref bU])), (bK, .inl (cI, 60, .inl K)), (bF, .inl (cI, 60, .inl F)), (bS, .inl (cI, 60, .inl S)), (bB, .inl (cZ, 60, .inl B)), (bL, .inl (cI, 4, .inl L)), (bT, .inl (cI, 4, .inl T)), (bU, .inl (cI, 6, .inl U))]) [0, 1, 2, 3, 4, 5, 6, 7] (by decide) rfl
  exact W.iret (v := 0) hx hb hr (fun t ht hW => ⟨⟨0, (), rfl, hpost, by rw [ht]; exact hP9, hD9⟩, hS.F ht⟩) hS.2.2 dX2_set_19

set_option maxHeartbeats 4000000 in
set_option maxRecDepth 100000 in
theorem c_X2_set_f2 (l : Launch) (dC : Nat → ClassId) (dI : Nat → Nat → Nat) (cI cZ : ClassId) (mo bK bF bS bB bL bT bU : Nat) (sz : Nat) (L : N2I) (T : N2I) (K : N2I) (F : N2I) (S : N2I) (B : N2I) (U : N2I) (n : Nat) (tw : Int32) (co : Int32) (pl : Int32) (st : Int32) (jo : Int32) (cn : Int32) (ii : Int32) (fi : Int32) (fe : Int32) (i : Nat) (a : Int32) (b : Int32) (hi : i < 4) (hb0 : a < 0 ∨ 9 < a) : Met l yX2_set wsX2_set ({ frames := 2, cells := 0, slots := 0, locals := 52 } : Room) (va_Pc [.ref mo, .int (nI i), .int a, .int b] (pc_ (dC, dI) [(cI, .int), (cZ, .boolean)] [(mo, .inr (2, [.int tw, .ref bL, .ref bT, .int (nI n), .ref bK, .ref bF, .ref bS, .ref bB, .int co, .int pl, .int st, .int jo, .int cn, .int ii, .int fi, .int fe, .ref bU])), (bK, .inl (cI, 60, .inl K)), (bF, .inl (cI, 60, .inl F)), (bS, .inl (cI, 60, .inl S)), (bB, .inl (cZ, 60, .inl B)), (bL, .inl (cI, 4, .inl L)), (bT, .inl (cI, 4, .inl T)), (bU, .inl (cI, 6, .inl U))] sz)) (va_Qi (fun (r : Int32) (u : Unit) => r = 0) (fun (u : Unit) (t : State) => va_P (dC, dI) vwCl [(mo, .inr (2, [.int 2, .ref bL, .ref bT, .int (nI n), .ref bK, .ref bF, .ref bS, .ref bB, .int co, .int pl, .int st, .int jo, .int cn, .int ii, .int fi, .int fe, .ref bU])), (bK, .inl (cI, 60, .inl K)), (bF, .inl (cI, 60, .inl F)), (bS, .inl (cI, 60, .inl S)), (bB, .inl (cZ, 60, .inl B)), (bL, .inl (cI, 4, .inl L)), (bT, .inl (cI, 4, .inl T)), (bU, .inl (cI, 6, .inl U))] t.heap ∧ va_D (va_A [(mo, .inr (2, [.int tw, .ref bL, .ref bT, .int (nI n), .ref bK, .ref bF, .ref bS, .ref bB, .int co, .int pl, .int st, .int jo, .int cn, .int ii, .int fi, .int fe, .ref bU])), (bK, .inl (cI, 60, .inl K)), (bF, .inl (cI, 60, .inl F)), (bS, .inl (cI, 60, .inl S)), (bB, .inl (cZ, 60, .inl B)), (bL, .inl (cI, 4, .inl L)), (bT, .inl (cI, 4, .inl T)), (bU, .inl (cI, 6, .inl U))] sz) [(mo, .inr (2, [.int 2, .ref bL, .ref bT, .int (nI n), .ref bK, .ref bF, .ref bS, .ref bB, .int co, .int pl, .int st, .int jo, .int cn, .int ii, .int fi, .int fe, .ref bU])), (bK, .inl (cI, 60, .inl K)), (bF, .inl (cI, 60, .inl F)), (bS, .inl (cI, 60, .inl S)), (bB, .inl (cZ, 60, .inl B)), (bL, .inl (cI, 4, .inl L)), (bT, .inl (cI, 4, .inl T)), (bU, .inl (cI, 6, .inl U))]) (va_A [(mo, .inr (2, [.int tw, .ref bL, .ref bT, .int (nI n), .ref bK, .ref bF, .ref bS, .ref bB, .int co, .int pl, .int st, .int jo, .int cn, .int ii, .int fi, .int fe, .ref bU])), (bK, .inl (cI, 60, .inl K)), (bF, .inl (cI, 60, .inl F)), (bS, .inl (cI, 60, .inl S)), (bB, .inl (cZ, 60, .inl B)), (bL, .inl (cI, 4, .inl L)), (bT, .inl (cI, 4, .inl T)), (bU, .inl (cI, 6, .inl U))] sz)) 0 0 (va_A [(mo, .inr (2, [.int tw, .ref bL, .ref bT, .int (nI n), .ref bK, .ref bF, .ref bS, .ref bB, .int co, .int pl, .int st, .int jo, .int cn, .int ii, .int fi, .int fe, .ref bU])), (bK, .inl (cI, 60, .inl K)), (bF, .inl (cI, 60, .inl F)), (bS, .inl (cI, 60, .inl S)), (bB, .inl (cZ, 60, .inl B)), (bL, .inl (cI, 4, .inl L)), (bT, .inl (cI, 4, .inl T)), (bU, .inl (cI, 6, .inl U))] sz) := by
  refine Met.ofW (cc := cX2_set) (maxL := 5) (ret := (some .int)) (by decide) rfl ?_
  intro p e s m args below meth c s₁ BB hml hv
  obtain ⟨rfl, hsz, hP, hK, hD0⟩ := hv
  have hx := BB.exec
  have hb := BB.bytes
  have hr := BB.returns
  have hts := atoms_spec (ws := wsX2_set) BB.pre
  have hown : s.vm.findClass RX2 = some m.cls := findClass_of_methodNamed BB.named
  have hlocks := BB.notSynchronized
  subst hsz
  have hD := hD0.self (sz := s.heap.size)
  generalize hAe : va_A [(mo, .inr (2, [.int tw, .ref bL, .ref bT, .int (nI n), .ref bK, .ref bF, .ref bS, .ref bB, .int co, .int pl, .int st, .int jo, .int cn, .int ii, .int fi, .int fe, .ref bU])), (bK, .inl (cI, 60, .inl K)), (bF, .inl (cI, 60, .inl F)), (bS, .inl (cI, 60, .inl S)), (bB, .inl (cZ, 60, .inl B)), (bL, .inl (cI, 4, .inl L)), (bT, .inl (cI, 4, .inl T)), (bU, .inl (cI, 6, .inl U))] s.heap.size = A at hD ⊢
  have hA : ∀ q : Nat, s.heap.size ≤ q → A q := fun q h => by rw [← hAe]; exact Or.inr h
  have hS : va_S A s.heap s.heap [] := va_S.rf
  have hP : va_P (dC, dI) vwCl [(mo, .inr (2, [.int tw, .ref bL, .ref bT, .int (nI n), .ref bK, .ref bF, .ref bS, .ref bB, .int co, .int pl, .int st, .int jo, .int cn, .int ii, .int fi, .int fe, .ref bU])), (bK, .inl (cI, 60, .inl K)), (bF, .inl (cI, 60, .inl F)), (bS, .inl (cI, 60, .inl S)), (bB, .inl (cZ, 60, .inl B)), (bL, .inl (cI, 4, .inl L)), (bT, .inl (cI, 4, .inl T)), (bU, .inl (cI, 6, .inl U))] s.heap := hP
  have hl := lv_entry ([.ref mo, .int (nI i), .int a, .int b]) (n := 5) (Nat.le_of_ble_eq_true rfl)
  rw [lg_entry_eq]
  generalize (lg_sl ([.ref mo, .int (nI i), .int a, .int b]) ++ List.replicate (5 - (lg_sl ([.ref mo, .int (nI i), .int a, .int b])).length) Slot.unset).toArray = ls at hl ⊢
  have hl : lv_has ls 5 [(0, .ref mo), (1, .int (nI i)), (2, .int a), (3, .int b)] := hl
  have k0 := hts (.fieldLink RX2 32 "KnifeLedgerModel" "thrown" "I") (by decide +kernel)
  have hinX2 : ∀ w ∈ wsX20, w ∈ wsX2_set := by decide +kernel
  refine lv_aload_n hx hb dX2_set_0 rfl (lv_at hl 0 rfl) ?_
  refine lv_iconst (v := 0) hx hb dX2_set_1 (by decide) ?_
  refine va_put (D := (dC, dI)) (ci := 2) (v := .int 0) (ty := .int) (C := RX2) (T := TX2) (N := 17) hx hb hts hinX2 tyX2 tyX2_ok nmX2 hown hK hP hD hS 0 rfl rfl 0 (by decide) k0 (fun _ h9 => h9) rfl (by decide +kernel) rfl rfl (Nat.le_of_ble_eq_true rfl) dX2_set_2 (fun H_1 locs hP hD hS => ?_)
  have hP : va_P (dC, dI) vwCl [(mo, .inr (2, [.int 0, .ref bL, .ref bT, .int (nI n), .ref bK, .ref bF, .ref bS, .ref bB, .int co, .int pl, .int st, .int jo, .int cn, .int ii, .int fi, .int fe, .ref bU])), (bK, .inl (cI, 60, .inl K)), (bF, .inl (cI, 60, .inl F)), (bS, .inl (cI, 60, .inl S)), (bB, .inl (cZ, 60, .inl B)), (bL, .inl (cI, 4, .inl L)), (bT, .inl (cI, 4, .inl T)), (bU, .inl (cI, 6, .inl U))] H_1 := hP
  have hD : va_D A [(mo, .inr (2, [.int 0, .ref bL, .ref bT, .int (nI n), .ref bK, .ref bF, .ref bS, .ref bB, .int co, .int pl, .int st, .int jo, .int cn, .int ii, .int fi, .int fe, .ref bU])), (bK, .inl (cI, 60, .inl K)), (bF, .inl (cI, 60, .inl F)), (bS, .inl (cI, 60, .inl S)), (bB, .inl (cZ, 60, .inl B)), (bL, .inl (cI, 4, .inl L)), (bT, .inl (cI, 4, .inl T)), (bU, .inl (cI, 6, .inl U))] := hD
  refine lv_iload_n hx hb dX2_set_5 rfl (lv_at hl 1 rfl) ?_
  refine lv_iconst (v := 0) hx hb dX2_set_6 (by decide) ?_
  refine lv_iconst (v := 3) hx hb dX2_set_7 (by decide) ?_
  have hPc := hP.sub (ws' := []) [] rfl
  have hDc := hD.sub (ws' := []) [] (by decide) rfl
  have hKc := hK.sub (tys' := []) [] rfl
  have hFc := va_free (wc := []) hD hS hA [] rfl
  refine va_calli (va_runS (As := [.int (nI i), .int 0, .int 3]) (rest := []) ⟨hx, hb, hml, hown, hts⟩ (c_X2_isIn l dC dI H_1.size (nI i) 0 3) (va_cwS 3 hts gX2_set_X2_isIn rfl rfl rfl (by decide +kernel) ⟨Nat.le_of_ble_eq_true rfl, Nat.le_of_ble_eq_true rfl⟩) (pc_S hKc hPc hDc) rfl rfl hl.1 rfl (lv_room (Nat.le_of_ble_eq_true rfl)) dX2_set_8 ⟨Nat.le_of_ble_eq_true rfl, Nat.le_of_ble_eq_true rfl⟩) hS (fun q _ h => hFc q h) hFc (fun r_2 u t H_2 locs ht hvm hw hB hz1 hk1 hS => ?_)
  try dsimp only at hw hB
  have hw_2 := hw
  replace hw_2 := hw_2.symm
  subst hw_2
  obtain ⟨hP1, hD1⟩ := hB
  rw [ht] at hP1
  obtain ⟨hP, hD⟩ := va_join (wr := [(mo, .inr (2, [.int 0, .ref bL, .ref bT, .int (nI n), .ref bK, .ref bF, .ref bS, .ref bB, .int co, .int pl, .int st, .int jo, .int cn, .int ii, .int fi, .int fe, .ref bU])), (bK, .inl (cI, 60, .inl K)), (bF, .inl (cI, 60, .inl F)), (bS, .inl (cI, 60, .inl S)), (bB, .inl (cZ, 60, .inl B)), (bL, .inl (cI, 4, .inl L)), (bT, .inl (cI, 4, .inl T)), (bU, .inl (cI, 6, .inl U))]) (w1 := []) hP hD [] [0, 1, 2, 3, 4, 5, 6, 7] rfl rfl (by decide) (by decide) hk1 hFc hP1 hD1
  have hP : va_P (dC, dI) vwCl [(mo, .inr (2, [.int 0, .ref bL, .ref bT, .int (nI n), .ref bK, .ref bF, .ref bS, .ref bB, .int co, .int pl, .int st, .int jo, .int cn, .int ii, .int fi, .int fe, .ref bU])), (bK, .inl (cI, 60, .inl K)), (bF, .inl (cI, 60, .inl F)), (bS, .inl (cI, 60, .inl S)), (bB, .inl (cZ, 60, .inl B)), (bL, .inl (cI, 4, .inl L)), (bT, .inl (cI, 4, .inl T)), (bU, .inl (cI, 6, .inl U))] H_2 := hP
  have hD : va_D A [(mo, .inr (2, [.int 0, .ref bL, .ref bT, .int (nI n), .ref bK, .ref bF, .ref bS, .ref bB, .int co, .int pl, .int st, .int jo, .int cn, .int ii, .int fi, .int fe, .ref bU])), (bK, .inl (cI, 60, .inl K)), (bF, .inl (cI, 60, .inl F)), (bS, .inl (cI, 60, .inl S)), (bB, .inl (cZ, 60, .inl B)), (bL, .inl (cI, 4, .inl L)), (bT, .inl (cI, 4, .inl T)), (bU, .inl (cI, 6, .inl U))] := hD
  refine lv_if_ne (tgt := 20) hx hb dX2_set_11 (by decide) (fun _ => ?_) (fun h9 => absurd h9 (by show ¬ mIn (nI i) 0 (nI 3) = 0; rw [mIn_ok (nI_pos (by omega)) (nI_nlt (b := i) (a := 3) (by omega) (by omega))]; exact one_ne))
  refine lv_iload_n hx hb dX2_set_20 rfl (lv_at hl 2 rfl) ?_
  refine lv_iconst (v := 0) hx hb dX2_set_21 (by decide) ?_
  refine lv_bipush (v := 9) hx hb dX2_set_22 (by decide) ?_
  have hPc := hP.sub (ws' := []) [] rfl
  have hDc := hD.sub (ws' := []) [] (by decide) rfl
  have hKc := hK.sub (tys' := []) [] rfl
  have hFc := va_free (wc := []) hD hS hA [] rfl
  refine va_calli (va_runS (As := [.int a, .int 0, .int 9]) (rest := []) ⟨hx, hb, hml, hown, hts⟩ (c_X2_isIn l dC dI H_2.size a 0 9) (va_cwS 3 hts gX2_set_X2_isIn rfl rfl rfl (by decide +kernel) ⟨Nat.le_of_ble_eq_true rfl, Nat.le_of_ble_eq_true rfl⟩) (pc_S hKc hPc hDc) rfl rfl hl.1 rfl (lv_room (Nat.le_of_ble_eq_true rfl)) dX2_set_24 ⟨Nat.le_of_ble_eq_true rfl, Nat.le_of_ble_eq_true rfl⟩) hS (fun q _ h => hFc q h) hFc (fun r_3 u t H_3 locs ht hvm hw hB hz1 hk1 hS => ?_)
  try dsimp only at hw hB
  have hw_3 := hw
  replace hw_3 := hw_3.symm
  subst hw_3
  obtain ⟨hP1, hD1⟩ := hB
  rw [ht] at hP1
  obtain ⟨hP, hD⟩ := va_join (wr := [(mo, .inr (2, [.int 0, .ref bL, .ref bT, .int (nI n), .ref bK, .ref bF, .ref bS, .ref bB, .int co, .int pl, .int st, .int jo, .int cn, .int ii, .int fi, .int fe, .ref bU])), (bK, .inl (cI, 60, .inl K)), (bF, .inl (cI, 60, .inl F)), (bS, .inl (cI, 60, .inl S)), (bB, .inl (cZ, 60, .inl B)), (bL, .inl (cI, 4, .inl L)), (bT, .inl (cI, 4, .inl T)), (bU, .inl (cI, 6, .inl U))]) (w1 := []) hP hD [] [0, 1, 2, 3, 4, 5, 6, 7] rfl rfl (by decide) (by decide) hk1 hFc hP1 hD1
  have hP : va_P (dC, dI) vwCl [(mo, .inr (2, [.int 0, .ref bL, .ref bT, .int (nI n), .ref bK, .ref bF, .ref bS, .ref bB, .int co, .int pl, .int st, .int jo, .int cn, .int ii, .int fi, .int fe, .ref bU])), (bK, .inl (cI, 60, .inl K)), (bF, .inl (cI, 60, .inl F)), (bS, .inl (cI, 60, .inl S)), (bB, .inl (cZ, 60, .inl B)), (bL, .inl (cI, 4, .inl L)), (bT, .inl (cI, 4, .inl T)), (bU, .inl (cI, 6, .inl U))] H_3 := hP
  have hD : va_D A [(mo, .inr (2, [.int 0, .ref bL, .ref bT, .int (nI n), .ref bK, .ref bF, .ref bS, .ref bB, .int co, .int pl, .int st, .int jo, .int cn, .int ii, .int fi, .int fe, .ref bU])), (bK, .inl (cI, 60, .inl K)), (bF, .inl (cI, 60, .inl F)), (bS, .inl (cI, 60, .inl S)), (bB, .inl (cZ, 60, .inl B)), (bL, .inl (cI, 4, .inl L)), (bT, .inl (cI, 4, .inl T)), (bU, .inl (cI, 6, .inl U))] := hD
  refine lv_if_eq (tgt := 40) hx hb dX2_set_27 (by decide) (fun _ => ?_) (fun h9 => absurd (mIn_bad hb0) h9)
  refine lv_aload_n hx hb dX2_set_40 rfl (lv_at hl 0 rfl) ?_
  refine lv_iconst (v := 2) hx hb dX2_set_41 (by decide) ?_
  have hPc := hP.sub (ws' := [(mo, .inr (2, [.int 0, .ref bL, .ref bT, .int (nI n), .ref bK, .ref bF, .ref bS, .ref bB, .int co, .int pl, .int st, .int jo, .int cn, .int ii, .int fi, .int fe, .ref bU])), (bK, .inl (cI, 60, .inl K)), (bF, .inl (cI, 60, .inl F)), (bS, .inl (cI, 60, .inl S)), (bB, .inl (cZ, 60, .inl B)), (bL, .inl (cI, 4, .inl L)), (bT, .inl (cI, 4, .inl T)), (bU, .inl (cI, 6, .inl U))]) [0, 1, 2, 3, 4, 5, 6, 7] rfl
  have hDc := hD.sub (ws' := [(mo, .inr (2, [.int 0, .ref bL, .ref bT, .int (nI n), .ref bK, .ref bF, .ref bS, .ref bB, .int co, .int pl, .int st, .int jo, .int cn, .int ii, .int fi, .int fe, .ref bU])), (bK, .inl (cI, 60, .inl K)), (bF, .inl (cI, 60, .inl F)), (bS, .inl (cI, 60, .inl S)), (bB, .inl (cZ, 60, .inl B)), (bL, .inl (cI, 4, .inl L)), (bT, .inl (cI, 4, .inl T)), (bU, .inl (cI, 6, .inl U))]) [0, 1, 2, 3, 4, 5, 6, 7] (by decide) rfl
  have hKc := hK.sub (tys' := [(cI, .int), (cZ, .boolean)]) [0, 1] rfl
  have hFc := va_free (wc := [(mo, .inr (2, [.int 0, .ref bL, .ref bT, .int (nI n), .ref bK, .ref bF, .ref bS, .ref bB, .int co, .int pl, .int st, .int jo, .int cn, .int ii, .int fi, .int fe, .ref bU])), (bK, .inl (cI, 60, .inl K)), (bF, .inl (cI, 60, .inl F)), (bS, .inl (cI, 60, .inl S)), (bB, .inl (cZ, 60, .inl B)), (bL, .inl (cI, 4, .inl L)), (bT, .inl (cI, 4, .inl T)), (bU, .inl (cI, 6, .inl U))]) hD hS hA [0, 1, 2, 3, 4, 5, 6, 7] rfl
  refine va_calli (va_runV (As := [.int 2]) (rest := []) ⟨hx, hb, hml, hown, hts⟩ (c_X2_fail l dC dI cI cZ mo bK bF bS bB bL bT bU H_3.size L T K F S B U n 0 co pl st jo cn ii fi fe 2) (cwV 1 hts gX2_set_X2_fail rfl rfl rfl (by decide +kernel) ⟨Nat.le_of_ble_eq_true rfl, Nat.le_of_ble_eq_true rfl⟩) (pc_V hKc hPc hDc (ci := 2) (C := RX2) (T := TX2) (N := 17) (q0 := 0) rfl rfl) rfl rfl hl.1 rfl (lv_room (Nat.le_of_ble_eq_true rfl)) dX2_set_42 ⟨Nat.le_of_ble_eq_true rfl, Nat.le_of_ble_eq_true rfl⟩) hS (fun q _ h => hFc q h) hFc (fun r_4 u t H_4 locs ht hvm hw hB hz1 hk1 hS => ?_)
  try dsimp only at hw hB
  have hw_4 := hw
  replace hw_4 := hw_4.symm
  subst hw_4
  obtain ⟨hP1, hD1⟩ := hB
  rw [ht] at hP1
  obtain ⟨hP, hD⟩ := va_join (wr := []) (w1 := [(mo, .inr (2, [.int 2, .ref bL, .ref bT, .int (nI n), .ref bK, .ref bF, .ref bS, .ref bB, .int co, .int pl, .int st, .int jo, .int cn, .int ii, .int fi, .int fe, .ref bU])), (bK, .inl (cI, 60, .inl K)), (bF, .inl (cI, 60, .inl F)), (bS, .inl (cI, 60, .inl S)), (bB, .inl (cZ, 60, .inl B)), (bL, .inl (cI, 4, .inl L)), (bT, .inl (cI, 4, .inl T)), (bU, .inl (cI, 6, .inl U))]) hP hD [0, 1, 2, 3, 4, 5, 6, 7] [] rfl rfl (by decide) (by decide) hk1 hFc hP1 hD1
  have hP : va_P (dC, dI) vwCl [(mo, .inr (2, [.int 2, .ref bL, .ref bT, .int (nI n), .ref bK, .ref bF, .ref bS, .ref bB, .int co, .int pl, .int st, .int jo, .int cn, .int ii, .int fi, .int fe, .ref bU])), (bK, .inl (cI, 60, .inl K)), (bF, .inl (cI, 60, .inl F)), (bS, .inl (cI, 60, .inl S)), (bB, .inl (cZ, 60, .inl B)), (bL, .inl (cI, 4, .inl L)), (bT, .inl (cI, 4, .inl T)), (bU, .inl (cI, 6, .inl U))] H_4 := hP
  have hD : va_D A [(mo, .inr (2, [.int 2, .ref bL, .ref bT, .int (nI n), .ref bK, .ref bF, .ref bS, .ref bB, .int co, .int pl, .int st, .int jo, .int cn, .int ii, .int fi, .int fe, .ref bU])), (bK, .inl (cI, 60, .inl K)), (bF, .inl (cI, 60, .inl F)), (bS, .inl (cI, 60, .inl S)), (bB, .inl (cZ, 60, .inl B)), (bL, .inl (cI, 4, .inl L)), (bT, .inl (cI, 4, .inl T)), (bU, .inl (cI, 6, .inl U))] := hD
  have hpost : (0 : Int32) = 0 := by
    rfl
  have hP9 := hP.sub (ws' := [(mo, .inr (2, [.int 2, .ref bL, .ref bT, .int (nI n), .ref bK, .ref bF, .ref bS, .ref bB, .int co, .int pl, .int st, .int jo, .int cn, .int ii, .int fi, .int fe, .ref bU])), (bK, .inl (cI, 60, .inl K)), (bF, .inl (cI, 60, .inl F)), (bS, .inl (cI, 60, .inl S)), (bB, .inl (cZ, 60, .inl B)), (bL, .inl (cI, 4, .inl L)), (bT, .inl (cI, 4, .inl T)), (bU, .inl (cI, 6, .inl U))]) [0, 1, 2, 3, 4, 5, 6, 7] rfl
  have hD9 := hD.sub (ws' := [(mo, .inr (2, [.int 2, .ref bL, .ref bT, .int (nI n), .ref bK, .ref bF, .ref bS, .ref bB, .int co, .int pl, .int st, .int jo, .int cn, .int ii, .int fi, .int fe, .ref bU])), (bK, .inl (cI, 60, .inl K)), (bF, .inl (cI, 60, .inl F)), (bS, .inl (cI, 60, .inl S)), (bB, .inl (cZ, 60, .inl B)), (bL, .inl (cI, 4, .inl L)), (bT, .inl (cI, 4, .inl T)), (bU, .inl (cI, 6, .inl U))]) [0, 1, 2, 3, 4, 5, 6, 7] (by decide) rfl
  exact W.iret (v := 0) hx hb hr (fun t ht hW => ⟨⟨0, (), rfl, hpost, by rw [ht]; exact hP9, hD9⟩, hS.F ht⟩) hS.2.2 dX2_set_45

set_option maxHeartbeats 4000000 in
set_option maxRecDepth 100000 in
theorem c_X2_set_f3 (l : Launch) (dC : Nat → ClassId) (dI : Nat → Nat → Nat) (cI cZ : ClassId) (mo bK bF bS bB bL bT bU : Nat) (sz : Nat) (L : N2I) (T : N2I) (K : N2I) (F : N2I) (S : N2I) (B : N2I) (U : N2I) (n : Nat) (tw : Int32) (co : Int32) (pl : Int32) (st : Int32) (jo : Int32) (cn : Int32) (ii : Int32) (fi : Int32) (fe : Int32) (i : Nat) (a : Int32) (b : Int32) (hi : i < 4) (h0 : ¬ a < 0) (h1 : ¬ 9 < a) (hb0 : b < 0 ∨ 9 < b) : Met l yX2_set wsX2_set ({ frames := 2, cells := 0, slots := 0, locals := 52 } : Room) (va_Pc [.ref mo, .int (nI i), .int a, .int b] (pc_ (dC, dI) [(cI, .int), (cZ, .boolean)] [(mo, .inr (2, [.int tw, .ref bL, .ref bT, .int (nI n), .ref bK, .ref bF, .ref bS, .ref bB, .int co, .int pl, .int st, .int jo, .int cn, .int ii, .int fi, .int fe, .ref bU])), (bK, .inl (cI, 60, .inl K)), (bF, .inl (cI, 60, .inl F)), (bS, .inl (cI, 60, .inl S)), (bB, .inl (cZ, 60, .inl B)), (bL, .inl (cI, 4, .inl L)), (bT, .inl (cI, 4, .inl T)), (bU, .inl (cI, 6, .inl U))] sz)) (va_Qi (fun (r : Int32) (u : Unit) => r = 0) (fun (u : Unit) (t : State) => va_P (dC, dI) vwCl [(mo, .inr (2, [.int 2, .ref bL, .ref bT, .int (nI n), .ref bK, .ref bF, .ref bS, .ref bB, .int co, .int pl, .int st, .int jo, .int cn, .int ii, .int fi, .int fe, .ref bU])), (bK, .inl (cI, 60, .inl K)), (bF, .inl (cI, 60, .inl F)), (bS, .inl (cI, 60, .inl S)), (bB, .inl (cZ, 60, .inl B)), (bL, .inl (cI, 4, .inl L)), (bT, .inl (cI, 4, .inl T)), (bU, .inl (cI, 6, .inl U))] t.heap ∧ va_D (va_A [(mo, .inr (2, [.int tw, .ref bL, .ref bT, .int (nI n), .ref bK, .ref bF, .ref bS, .ref bB, .int co, .int pl, .int st, .int jo, .int cn, .int ii, .int fi, .int fe, .ref bU])), (bK, .inl (cI, 60, .inl K)), (bF, .inl (cI, 60, .inl F)), (bS, .inl (cI, 60, .inl S)), (bB, .inl (cZ, 60, .inl B)), (bL, .inl (cI, 4, .inl L)), (bT, .inl (cI, 4, .inl T)), (bU, .inl (cI, 6, .inl U))] sz) [(mo, .inr (2, [.int 2, .ref bL, .ref bT, .int (nI n), .ref bK, .ref bF, .ref bS, .ref bB, .int co, .int pl, .int st, .int jo, .int cn, .int ii, .int fi, .int fe, .ref bU])), (bK, .inl (cI, 60, .inl K)), (bF, .inl (cI, 60, .inl F)), (bS, .inl (cI, 60, .inl S)), (bB, .inl (cZ, 60, .inl B)), (bL, .inl (cI, 4, .inl L)), (bT, .inl (cI, 4, .inl T)), (bU, .inl (cI, 6, .inl U))]) (va_A [(mo, .inr (2, [.int tw, .ref bL, .ref bT, .int (nI n), .ref bK, .ref bF, .ref bS, .ref bB, .int co, .int pl, .int st, .int jo, .int cn, .int ii, .int fi, .int fe, .ref bU])), (bK, .inl (cI, 60, .inl K)), (bF, .inl (cI, 60, .inl F)), (bS, .inl (cI, 60, .inl S)), (bB, .inl (cZ, 60, .inl B)), (bL, .inl (cI, 4, .inl L)), (bT, .inl (cI, 4, .inl T)), (bU, .inl (cI, 6, .inl U))] sz)) 0 0 (va_A [(mo, .inr (2, [.int tw, .ref bL, .ref bT, .int (nI n), .ref bK, .ref bF, .ref bS, .ref bB, .int co, .int pl, .int st, .int jo, .int cn, .int ii, .int fi, .int fe, .ref bU])), (bK, .inl (cI, 60, .inl K)), (bF, .inl (cI, 60, .inl F)), (bS, .inl (cI, 60, .inl S)), (bB, .inl (cZ, 60, .inl B)), (bL, .inl (cI, 4, .inl L)), (bT, .inl (cI, 4, .inl T)), (bU, .inl (cI, 6, .inl U))] sz) := by
  refine Met.ofW (cc := cX2_set) (maxL := 5) (ret := (some .int)) (by decide) rfl ?_
  intro p e s m args below meth c s₁ BB hml hv
  obtain ⟨rfl, hsz, hP, hK, hD0⟩ := hv
  have hx := BB.exec
  have hb := BB.bytes
  have hr := BB.returns
  have hts := atoms_spec (ws := wsX2_set) BB.pre
  have hown : s.vm.findClass RX2 = some m.cls := findClass_of_methodNamed BB.named
  have hlocks := BB.notSynchronized
  subst hsz
  have hD := hD0.self (sz := s.heap.size)
  generalize hAe : va_A [(mo, .inr (2, [.int tw, .ref bL, .ref bT, .int (nI n), .ref bK, .ref bF, .ref bS, .ref bB, .int co, .int pl, .int st, .int jo, .int cn, .int ii, .int fi, .int fe, .ref bU])), (bK, .inl (cI, 60, .inl K)), (bF, .inl (cI, 60, .inl F)), (bS, .inl (cI, 60, .inl S)), (bB, .inl (cZ, 60, .inl B)), (bL, .inl (cI, 4, .inl L)), (bT, .inl (cI, 4, .inl T)), (bU, .inl (cI, 6, .inl U))] s.heap.size = A at hD ⊢
  have hA : ∀ q : Nat, s.heap.size ≤ q → A q := fun q h => by rw [← hAe]; exact Or.inr h
  have hS : va_S A s.heap s.heap [] := va_S.rf
  have hP : va_P (dC, dI) vwCl [(mo, .inr (2, [.int tw, .ref bL, .ref bT, .int (nI n), .ref bK, .ref bF, .ref bS, .ref bB, .int co, .int pl, .int st, .int jo, .int cn, .int ii, .int fi, .int fe, .ref bU])), (bK, .inl (cI, 60, .inl K)), (bF, .inl (cI, 60, .inl F)), (bS, .inl (cI, 60, .inl S)), (bB, .inl (cZ, 60, .inl B)), (bL, .inl (cI, 4, .inl L)), (bT, .inl (cI, 4, .inl T)), (bU, .inl (cI, 6, .inl U))] s.heap := hP
  have hl := lv_entry ([.ref mo, .int (nI i), .int a, .int b]) (n := 5) (Nat.le_of_ble_eq_true rfl)
  rw [lg_entry_eq]
  generalize (lg_sl ([.ref mo, .int (nI i), .int a, .int b]) ++ List.replicate (5 - (lg_sl ([.ref mo, .int (nI i), .int a, .int b])).length) Slot.unset).toArray = ls at hl ⊢
  have hl : lv_has ls 5 [(0, .ref mo), (1, .int (nI i)), (2, .int a), (3, .int b)] := hl
  have k0 := hts (.fieldLink RX2 32 "KnifeLedgerModel" "thrown" "I") (by decide +kernel)
  have hinX2 : ∀ w ∈ wsX20, w ∈ wsX2_set := by decide +kernel
  refine lv_aload_n hx hb dX2_set_0 rfl (lv_at hl 0 rfl) ?_
  refine lv_iconst (v := 0) hx hb dX2_set_1 (by decide) ?_
  refine va_put (D := (dC, dI)) (ci := 2) (v := .int 0) (ty := .int) (C := RX2) (T := TX2) (N := 17) hx hb hts hinX2 tyX2 tyX2_ok nmX2 hown hK hP hD hS 0 rfl rfl 0 (by decide) k0 (fun _ h9 => h9) rfl (by decide +kernel) rfl rfl (Nat.le_of_ble_eq_true rfl) dX2_set_2 (fun H_1 locs hP hD hS => ?_)
  have hP : va_P (dC, dI) vwCl [(mo, .inr (2, [.int 0, .ref bL, .ref bT, .int (nI n), .ref bK, .ref bF, .ref bS, .ref bB, .int co, .int pl, .int st, .int jo, .int cn, .int ii, .int fi, .int fe, .ref bU])), (bK, .inl (cI, 60, .inl K)), (bF, .inl (cI, 60, .inl F)), (bS, .inl (cI, 60, .inl S)), (bB, .inl (cZ, 60, .inl B)), (bL, .inl (cI, 4, .inl L)), (bT, .inl (cI, 4, .inl T)), (bU, .inl (cI, 6, .inl U))] H_1 := hP
  have hD : va_D A [(mo, .inr (2, [.int 0, .ref bL, .ref bT, .int (nI n), .ref bK, .ref bF, .ref bS, .ref bB, .int co, .int pl, .int st, .int jo, .int cn, .int ii, .int fi, .int fe, .ref bU])), (bK, .inl (cI, 60, .inl K)), (bF, .inl (cI, 60, .inl F)), (bS, .inl (cI, 60, .inl S)), (bB, .inl (cZ, 60, .inl B)), (bL, .inl (cI, 4, .inl L)), (bT, .inl (cI, 4, .inl T)), (bU, .inl (cI, 6, .inl U))] := hD
  refine lv_iload_n hx hb dX2_set_5 rfl (lv_at hl 1 rfl) ?_
  refine lv_iconst (v := 0) hx hb dX2_set_6 (by decide) ?_
  refine lv_iconst (v := 3) hx hb dX2_set_7 (by decide) ?_
  have hPc := hP.sub (ws' := []) [] rfl
  have hDc := hD.sub (ws' := []) [] (by decide) rfl
  have hKc := hK.sub (tys' := []) [] rfl
  have hFc := va_free (wc := []) hD hS hA [] rfl
  refine va_calli (va_runS (As := [.int (nI i), .int 0, .int 3]) (rest := []) ⟨hx, hb, hml, hown, hts⟩ (c_X2_isIn l dC dI H_1.size (nI i) 0 3) (va_cwS 3 hts gX2_set_X2_isIn rfl rfl rfl (by decide +kernel) ⟨Nat.le_of_ble_eq_true rfl, Nat.le_of_ble_eq_true rfl⟩) (pc_S hKc hPc hDc) rfl rfl hl.1 rfl (lv_room (Nat.le_of_ble_eq_true rfl)) dX2_set_8 ⟨Nat.le_of_ble_eq_true rfl, Nat.le_of_ble_eq_true rfl⟩) hS (fun q _ h => hFc q h) hFc (fun r_2 u t H_2 locs ht hvm hw hB hz1 hk1 hS => ?_)
  try dsimp only at hw hB
  have hw_2 := hw
  replace hw_2 := hw_2.symm
  subst hw_2
  obtain ⟨hP1, hD1⟩ := hB
  rw [ht] at hP1
  obtain ⟨hP, hD⟩ := va_join (wr := [(mo, .inr (2, [.int 0, .ref bL, .ref bT, .int (nI n), .ref bK, .ref bF, .ref bS, .ref bB, .int co, .int pl, .int st, .int jo, .int cn, .int ii, .int fi, .int fe, .ref bU])), (bK, .inl (cI, 60, .inl K)), (bF, .inl (cI, 60, .inl F)), (bS, .inl (cI, 60, .inl S)), (bB, .inl (cZ, 60, .inl B)), (bL, .inl (cI, 4, .inl L)), (bT, .inl (cI, 4, .inl T)), (bU, .inl (cI, 6, .inl U))]) (w1 := []) hP hD [] [0, 1, 2, 3, 4, 5, 6, 7] rfl rfl (by decide) (by decide) hk1 hFc hP1 hD1
  have hP : va_P (dC, dI) vwCl [(mo, .inr (2, [.int 0, .ref bL, .ref bT, .int (nI n), .ref bK, .ref bF, .ref bS, .ref bB, .int co, .int pl, .int st, .int jo, .int cn, .int ii, .int fi, .int fe, .ref bU])), (bK, .inl (cI, 60, .inl K)), (bF, .inl (cI, 60, .inl F)), (bS, .inl (cI, 60, .inl S)), (bB, .inl (cZ, 60, .inl B)), (bL, .inl (cI, 4, .inl L)), (bT, .inl (cI, 4, .inl T)), (bU, .inl (cI, 6, .inl U))] H_2 := hP
  have hD : va_D A [(mo, .inr (2, [.int 0, .ref bL, .ref bT, .int (nI n), .ref bK, .ref bF, .ref bS, .ref bB, .int co, .int pl, .int st, .int jo, .int cn, .int ii, .int fi, .int fe, .ref bU])), (bK, .inl (cI, 60, .inl K)), (bF, .inl (cI, 60, .inl F)), (bS, .inl (cI, 60, .inl S)), (bB, .inl (cZ, 60, .inl B)), (bL, .inl (cI, 4, .inl L)), (bT, .inl (cI, 4, .inl T)), (bU, .inl (cI, 6, .inl U))] := hD
  refine lv_if_ne (tgt := 20) hx hb dX2_set_11 (by decide) (fun _ => ?_) (fun h9 => absurd h9 (by show ¬ mIn (nI i) 0 (nI 3) = 0; rw [mIn_ok (nI_pos (by omega)) (nI_nlt (b := i) (a := 3) (by omega) (by omega))]; exact one_ne))
  refine lv_iload_n hx hb dX2_set_20 rfl (lv_at hl 2 rfl) ?_
  refine lv_iconst (v := 0) hx hb dX2_set_21 (by decide) ?_
  refine lv_bipush (v := 9) hx hb dX2_set_22 (by decide) ?_
  have hPc := hP.sub (ws' := []) [] rfl
  have hDc := hD.sub (ws' := []) [] (by decide) rfl
  have hKc := hK.sub (tys' := []) [] rfl
  have hFc := va_free (wc := []) hD hS hA [] rfl
  refine va_calli (va_runS (As := [.int a, .int 0, .int 9]) (rest := []) ⟨hx, hb, hml, hown, hts⟩ (c_X2_isIn l dC dI H_2.size a 0 9) (va_cwS 3 hts gX2_set_X2_isIn rfl rfl rfl (by decide +kernel) ⟨Nat.le_of_ble_eq_true rfl, Nat.le_of_ble_eq_true rfl⟩) (pc_S hKc hPc hDc) rfl rfl hl.1 rfl (lv_room (Nat.le_of_ble_eq_true rfl)) dX2_set_24 ⟨Nat.le_of_ble_eq_true rfl, Nat.le_of_ble_eq_true rfl⟩) hS (fun q _ h => hFc q h) hFc (fun r_3 u t H_3 locs ht hvm hw hB hz1 hk1 hS => ?_)
  try dsimp only at hw hB
  have hw_3 := hw
  replace hw_3 := hw_3.symm
  subst hw_3
  obtain ⟨hP1, hD1⟩ := hB
  rw [ht] at hP1
  obtain ⟨hP, hD⟩ := va_join (wr := [(mo, .inr (2, [.int 0, .ref bL, .ref bT, .int (nI n), .ref bK, .ref bF, .ref bS, .ref bB, .int co, .int pl, .int st, .int jo, .int cn, .int ii, .int fi, .int fe, .ref bU])), (bK, .inl (cI, 60, .inl K)), (bF, .inl (cI, 60, .inl F)), (bS, .inl (cI, 60, .inl S)), (bB, .inl (cZ, 60, .inl B)), (bL, .inl (cI, 4, .inl L)), (bT, .inl (cI, 4, .inl T)), (bU, .inl (cI, 6, .inl U))]) (w1 := []) hP hD [] [0, 1, 2, 3, 4, 5, 6, 7] rfl rfl (by decide) (by decide) hk1 hFc hP1 hD1
  have hP : va_P (dC, dI) vwCl [(mo, .inr (2, [.int 0, .ref bL, .ref bT, .int (nI n), .ref bK, .ref bF, .ref bS, .ref bB, .int co, .int pl, .int st, .int jo, .int cn, .int ii, .int fi, .int fe, .ref bU])), (bK, .inl (cI, 60, .inl K)), (bF, .inl (cI, 60, .inl F)), (bS, .inl (cI, 60, .inl S)), (bB, .inl (cZ, 60, .inl B)), (bL, .inl (cI, 4, .inl L)), (bT, .inl (cI, 4, .inl T)), (bU, .inl (cI, 6, .inl U))] H_3 := hP
  have hD : va_D A [(mo, .inr (2, [.int 0, .ref bL, .ref bT, .int (nI n), .ref bK, .ref bF, .ref bS, .ref bB, .int co, .int pl, .int st, .int jo, .int cn, .int ii, .int fi, .int fe, .ref bU])), (bK, .inl (cI, 60, .inl K)), (bF, .inl (cI, 60, .inl F)), (bS, .inl (cI, 60, .inl S)), (bB, .inl (cZ, 60, .inl B)), (bL, .inl (cI, 4, .inl L)), (bT, .inl (cI, 4, .inl T)), (bU, .inl (cI, 6, .inl U))] := hD
  refine lv_if_eq (tgt := 40) hx hb dX2_set_27 (by decide) (fun h9 => absurd h9 (by rw [mIn_ok h0 h1]; exact one_ne)) (fun _ => ?_)
  refine lv_iload_n hx hb dX2_set_30 rfl (lv_at hl 3 rfl) ?_
  refine lv_iconst (v := 0) hx hb dX2_set_31 (by decide) ?_
  refine lv_bipush (v := 9) hx hb dX2_set_32 (by decide) ?_
  have hPc := hP.sub (ws' := []) [] rfl
  have hDc := hD.sub (ws' := []) [] (by decide) rfl
  have hKc := hK.sub (tys' := []) [] rfl
  have hFc := va_free (wc := []) hD hS hA [] rfl
  refine va_calli (va_runS (As := [.int b, .int 0, .int 9]) (rest := []) ⟨hx, hb, hml, hown, hts⟩ (c_X2_isIn l dC dI H_3.size b 0 9) (va_cwS 3 hts gX2_set_X2_isIn rfl rfl rfl (by decide +kernel) ⟨Nat.le_of_ble_eq_true rfl, Nat.le_of_ble_eq_true rfl⟩) (pc_S hKc hPc hDc) rfl rfl hl.1 rfl (lv_room (Nat.le_of_ble_eq_true rfl)) dX2_set_34 ⟨Nat.le_of_ble_eq_true rfl, Nat.le_of_ble_eq_true rfl⟩) hS (fun q _ h => hFc q h) hFc (fun r_4 u t H_4 locs ht hvm hw hB hz1 hk1 hS => ?_)
  try dsimp only at hw hB
  have hw_4 := hw
  replace hw_4 := hw_4.symm
  subst hw_4
  obtain ⟨hP1, hD1⟩ := hB
  rw [ht] at hP1
  obtain ⟨hP, hD⟩ := va_join (wr := [(mo, .inr (2, [.int 0, .ref bL, .ref bT, .int (nI n), .ref bK, .ref bF, .ref bS, .ref bB, .int co, .int pl, .int st, .int jo, .int cn, .int ii, .int fi, .int fe, .ref bU])), (bK, .inl (cI, 60, .inl K)), (bF, .inl (cI, 60, .inl F)), (bS, .inl (cI, 60, .inl S)), (bB, .inl (cZ, 60, .inl B)), (bL, .inl (cI, 4, .inl L)), (bT, .inl (cI, 4, .inl T)), (bU, .inl (cI, 6, .inl U))]) (w1 := []) hP hD [] [0, 1, 2, 3, 4, 5, 6, 7] rfl rfl (by decide) (by decide) hk1 hFc hP1 hD1
  have hP : va_P (dC, dI) vwCl [(mo, .inr (2, [.int 0, .ref bL, .ref bT, .int (nI n), .ref bK, .ref bF, .ref bS, .ref bB, .int co, .int pl, .int st, .int jo, .int cn, .int ii, .int fi, .int fe, .ref bU])), (bK, .inl (cI, 60, .inl K)), (bF, .inl (cI, 60, .inl F)), (bS, .inl (cI, 60, .inl S)), (bB, .inl (cZ, 60, .inl B)), (bL, .inl (cI, 4, .inl L)), (bT, .inl (cI, 4, .inl T)), (bU, .inl (cI, 6, .inl U))] H_4 := hP
  have hD : va_D A [(mo, .inr (2, [.int 0, .ref bL, .ref bT, .int (nI n), .ref bK, .ref bF, .ref bS, .ref bB, .int co, .int pl, .int st, .int jo, .int cn, .int ii, .int fi, .int fe, .ref bU])), (bK, .inl (cI, 60, .inl K)), (bF, .inl (cI, 60, .inl F)), (bS, .inl (cI, 60, .inl S)), (bB, .inl (cZ, 60, .inl B)), (bL, .inl (cI, 4, .inl L)), (bT, .inl (cI, 4, .inl T)), (bU, .inl (cI, 6, .inl U))] := hD
  refine lv_if_ne (tgt := 46) hx hb dX2_set_37 (by decide) (fun h9 => absurd (mIn_bad hb0) h9) (fun _ => ?_)
  refine lv_aload_n hx hb dX2_set_40 rfl (lv_at hl 0 rfl) ?_
  refine lv_iconst (v := 2) hx hb dX2_set_41 (by decide) ?_
  have hPc := hP.sub (ws' := [(mo, .inr (2, [.int 0, .ref bL, .ref bT, .int (nI n), .ref bK, .ref bF, .ref bS, .ref bB, .int co, .int pl, .int st, .int jo, .int cn, .int ii, .int fi, .int fe, .ref bU])), (bK, .inl (cI, 60, .inl K)), (bF, .inl (cI, 60, .inl F)), (bS, .inl (cI, 60, .inl S)), (bB, .inl (cZ, 60, .inl B)), (bL, .inl (cI, 4, .inl L)), (bT, .inl (cI, 4, .inl T)), (bU, .inl (cI, 6, .inl U))]) [0, 1, 2, 3, 4, 5, 6, 7] rfl
  have hDc := hD.sub (ws' := [(mo, .inr (2, [.int 0, .ref bL, .ref bT, .int (nI n), .ref bK, .ref bF, .ref bS, .ref bB, .int co, .int pl, .int st, .int jo, .int cn, .int ii, .int fi, .int fe, .ref bU])), (bK, .inl (cI, 60, .inl K)), (bF, .inl (cI, 60, .inl F)), (bS, .inl (cI, 60, .inl S)), (bB, .inl (cZ, 60, .inl B)), (bL, .inl (cI, 4, .inl L)), (bT, .inl (cI, 4, .inl T)), (bU, .inl (cI, 6, .inl U))]) [0, 1, 2, 3, 4, 5, 6, 7] (by decide) rfl
  have hKc := hK.sub (tys' := [(cI, .int), (cZ, .boolean)]) [0, 1] rfl
  have hFc := va_free (wc := [(mo, .inr (2, [.int 0, .ref bL, .ref bT, .int (nI n), .ref bK, .ref bF, .ref bS, .ref bB, .int co, .int pl, .int st, .int jo, .int cn, .int ii, .int fi, .int fe, .ref bU])), (bK, .inl (cI, 60, .inl K)), (bF, .inl (cI, 60, .inl F)), (bS, .inl (cI, 60, .inl S)), (bB, .inl (cZ, 60, .inl B)), (bL, .inl (cI, 4, .inl L)), (bT, .inl (cI, 4, .inl T)), (bU, .inl (cI, 6, .inl U))]) hD hS hA [0, 1, 2, 3, 4, 5, 6, 7] rfl
  refine va_calli (va_runV (As := [.int 2]) (rest := []) ⟨hx, hb, hml, hown, hts⟩ (c_X2_fail l dC dI cI cZ mo bK bF bS bB bL bT bU H_4.size L T K F S B U n 0 co pl st jo cn ii fi fe 2) (cwV 1 hts gX2_set_X2_fail rfl rfl rfl (by decide +kernel) ⟨Nat.le_of_ble_eq_true rfl, Nat.le_of_ble_eq_true rfl⟩) (pc_V hKc hPc hDc (ci := 2) (C := RX2) (T := TX2) (N := 17) (q0 := 0) rfl rfl) rfl rfl hl.1 rfl (lv_room (Nat.le_of_ble_eq_true rfl)) dX2_set_42 ⟨Nat.le_of_ble_eq_true rfl, Nat.le_of_ble_eq_true rfl⟩) hS (fun q _ h => hFc q h) hFc (fun r_5 u t H_5 locs ht hvm hw hB hz1 hk1 hS => ?_)
  try dsimp only at hw hB
  have hw_5 := hw
  replace hw_5 := hw_5.symm
  subst hw_5
  obtain ⟨hP1, hD1⟩ := hB
  rw [ht] at hP1
  obtain ⟨hP, hD⟩ := va_join (wr := []) (w1 := [(mo, .inr (2, [.int 2, .ref bL, .ref bT, .int (nI n), .ref bK, .ref bF, .ref bS, .ref bB, .int co, .int pl, .int st, .int jo, .int cn, .int ii, .int fi, .int fe, .ref bU])), (bK, .inl (cI, 60, .inl K)), (bF, .inl (cI, 60, .inl F)), (bS, .inl (cI, 60, .inl S)), (bB, .inl (cZ, 60, .inl B)), (bL, .inl (cI, 4, .inl L)), (bT, .inl (cI, 4, .inl T)), (bU, .inl (cI, 6, .inl U))]) hP hD [0, 1, 2, 3, 4, 5, 6, 7] [] rfl rfl (by decide) (by decide) hk1 hFc hP1 hD1
  have hP : va_P (dC, dI) vwCl [(mo, .inr (2, [.int 2, .ref bL, .ref bT, .int (nI n), .ref bK, .ref bF, .ref bS, .ref bB, .int co, .int pl, .int st, .int jo, .int cn, .int ii, .int fi, .int fe, .ref bU])), (bK, .inl (cI, 60, .inl K)), (bF, .inl (cI, 60, .inl F)), (bS, .inl (cI, 60, .inl S)), (bB, .inl (cZ, 60, .inl B)), (bL, .inl (cI, 4, .inl L)), (bT, .inl (cI, 4, .inl T)), (bU, .inl (cI, 6, .inl U))] H_5 := hP
  have hD : va_D A [(mo, .inr (2, [.int 2, .ref bL, .ref bT, .int (nI n), .ref bK, .ref bF, .ref bS, .ref bB, .int co, .int pl, .int st, .int jo, .int cn, .int ii, .int fi, .int fe, .ref bU])), (bK, .inl (cI, 60, .inl K)), (bF, .inl (cI, 60, .inl F)), (bS, .inl (cI, 60, .inl S)), (bB, .inl (cZ, 60, .inl B)), (bL, .inl (cI, 4, .inl L)), (bT, .inl (cI, 4, .inl T)), (bU, .inl (cI, 6, .inl U))] := hD
  have hpost : (0 : Int32) = 0 := by
    rfl
  have hP9 := hP.sub (ws' := [(mo, .inr (2, [.int 2, .ref bL, .ref bT, .int (nI n), .ref bK, .ref bF, .ref bS, .ref bB, .int co, .int pl, .int st, .int jo, .int cn, .int ii, .int fi, .int fe, .ref bU])), (bK, .inl (cI, 60, .inl K)), (bF, .inl (cI, 60, .inl F)), (bS, .inl (cI, 60, .inl S)), (bB, .inl (cZ, 60, .inl B)), (bL, .inl (cI, 4, .inl L)), (bT, .inl (cI, 4, .inl T)), (bU, .inl (cI, 6, .inl U))]) [0, 1, 2, 3, 4, 5, 6, 7] rfl
  have hD9 := hD.sub (ws' := [(mo, .inr (2, [.int 2, .ref bL, .ref bT, .int (nI n), .ref bK, .ref bF, .ref bS, .ref bB, .int co, .int pl, .int st, .int jo, .int cn, .int ii, .int fi, .int fe, .ref bU])), (bK, .inl (cI, 60, .inl K)), (bF, .inl (cI, 60, .inl F)), (bS, .inl (cI, 60, .inl S)), (bB, .inl (cZ, 60, .inl B)), (bL, .inl (cI, 4, .inl L)), (bT, .inl (cI, 4, .inl T)), (bU, .inl (cI, 6, .inl U))]) [0, 1, 2, 3, 4, 5, 6, 7] (by decide) rfl
  exact W.iret (v := 0) hx hb hr (fun t ht hW => ⟨⟨0, (), rfl, hpost, by rw [ht]; exact hP9, hD9⟩, hS.F ht⟩) hS.2.2 dX2_set_45

set_option maxHeartbeats 4000000 in
set_option maxRecDepth 100000 in
theorem c_X2_strike (l : Launch) (dC : Nat → ClassId) (dI : Nat → Nat → Nat) (cI cZ : ClassId) (mo bK bF bS bB bL bT bU : Nat) (sz : Nat) (L : N2I) (T : N2I) (K : N2I) (F : N2I) (S : N2I) (B : N2I) (U : N2I) (n : Nat) (tw : Int32) (co : Int32) (pl : Int32) (st : Int32) (jo : Int32) (cn : Int32) (ii : Int32) (fi : Int32) (fe : Int32) (i : Nat) (hX : okX K F S B n) (hi : i < n) : Met l yX2_strike wsX2_strike ({ frames := 2, cells := 0, slots := 0, locals := 43 } : Room) (va_Pc [.ref mo, .int (nI i)] (pc_ (dC, dI) [(cI, .int), (cZ, .boolean)] [(mo, .inr (2, [.int tw, .ref bL, .ref bT, .int (nI n), .ref bK, .ref bF, .ref bS, .ref bB, .int co, .int pl, .int st, .int jo, .int cn, .int ii, .int fi, .int fe, .ref bU])), (bK, .inl (cI, 60, .inl K)), (bF, .inl (cI, 60, .inl F)), (bS, .inl (cI, 60, .inl S)), (bB, .inl (cZ, 60, .inl B)), (bL, .inl (cI, 4, .inl L)), (bT, .inl (cI, 4, .inl T)), (bU, .inl (cI, 6, .inl U))] sz)) (va_Qi (fun (r : Int32) (u : N2I) => r = nb (B i) ∧ u = upd B i (nb (B i))) (fun (u : N2I) (t : State) => va_P (dC, dI) vwCl [(mo, .inr (2, [.int 0, .ref bL, .ref bT, .int (nI n), .ref bK, .ref bF, .ref bS, .ref bB, .int co, .int pl, .int st, .int jo, .int cn, .int ii, .int fi, .int fe, .ref bU])), (bK, .inl (cI, 60, .inl K)), (bF, .inl (cI, 60, .inl F)), (bS, .inl (cI, 60, .inl S)), (bB, .inl (cZ, 60, .inl u)), (bL, .inl (cI, 4, .inl L)), (bT, .inl (cI, 4, .inl T)), (bU, .inl (cI, 6, .inl U))] t.heap ∧ va_D (va_A [(mo, .inr (2, [.int tw, .ref bL, .ref bT, .int (nI n), .ref bK, .ref bF, .ref bS, .ref bB, .int co, .int pl, .int st, .int jo, .int cn, .int ii, .int fi, .int fe, .ref bU])), (bK, .inl (cI, 60, .inl K)), (bF, .inl (cI, 60, .inl F)), (bS, .inl (cI, 60, .inl S)), (bB, .inl (cZ, 60, .inl B)), (bL, .inl (cI, 4, .inl L)), (bT, .inl (cI, 4, .inl T)), (bU, .inl (cI, 6, .inl U))] sz) [(mo, .inr (2, [.int 0, .ref bL, .ref bT, .int (nI n), .ref bK, .ref bF, .ref bS, .ref bB, .int co, .int pl, .int st, .int jo, .int cn, .int ii, .int fi, .int fe, .ref bU])), (bK, .inl (cI, 60, .inl K)), (bF, .inl (cI, 60, .inl F)), (bS, .inl (cI, 60, .inl S)), (bB, .inl (cZ, 60, .inl u)), (bL, .inl (cI, 4, .inl L)), (bT, .inl (cI, 4, .inl T)), (bU, .inl (cI, 6, .inl U))]) (va_A [(mo, .inr (2, [.int tw, .ref bL, .ref bT, .int (nI n), .ref bK, .ref bF, .ref bS, .ref bB, .int co, .int pl, .int st, .int jo, .int cn, .int ii, .int fi, .int fe, .ref bU])), (bK, .inl (cI, 60, .inl K)), (bF, .inl (cI, 60, .inl F)), (bS, .inl (cI, 60, .inl S)), (bB, .inl (cZ, 60, .inl B)), (bL, .inl (cI, 4, .inl L)), (bT, .inl (cI, 4, .inl T)), (bU, .inl (cI, 6, .inl U))] sz)) 0 0 (va_A [(mo, .inr (2, [.int tw, .ref bL, .ref bT, .int (nI n), .ref bK, .ref bF, .ref bS, .ref bB, .int co, .int pl, .int st, .int jo, .int cn, .int ii, .int fi, .int fe, .ref bU])), (bK, .inl (cI, 60, .inl K)), (bF, .inl (cI, 60, .inl F)), (bS, .inl (cI, 60, .inl S)), (bB, .inl (cZ, 60, .inl B)), (bL, .inl (cI, 4, .inl L)), (bT, .inl (cI, 4, .inl T)), (bU, .inl (cI, 6, .inl U))] sz) := by
  refine Met.ofW (cc := cX2_strike) (maxL := 2) (ret := (some .boolean)) (by decide) rfl ?_
  intro p e s m args below meth c s₁ BB hml hv
  obtain ⟨rfl, hsz, hP, hK, hD0⟩ := hv
  have hx := BB.exec
  have hb := BB.bytes
  have hr := BB.returns
  have hts := atoms_spec (ws := wsX2_strike) BB.pre
  have hown : s.vm.findClass RX2 = some m.cls := findClass_of_methodNamed BB.named
  have hlocks := BB.notSynchronized
  subst hsz
  have hD := hD0.self (sz := s.heap.size)
  generalize hAe : va_A [(mo, .inr (2, [.int tw, .ref bL, .ref bT, .int (nI n), .ref bK, .ref bF, .ref bS, .ref bB, .int co, .int pl, .int st, .int jo, .int cn, .int ii, .int fi, .int fe, .ref bU])), (bK, .inl (cI, 60, .inl K)), (bF, .inl (cI, 60, .inl F)), (bS, .inl (cI, 60, .inl S)), (bB, .inl (cZ, 60, .inl B)), (bL, .inl (cI, 4, .inl L)), (bT, .inl (cI, 4, .inl T)), (bU, .inl (cI, 6, .inl U))] s.heap.size = A at hD ⊢
  have hA : ∀ q : Nat, s.heap.size ≤ q → A q := fun q h => by rw [← hAe]; exact Or.inr h
  have hS : va_S A s.heap s.heap [] := va_S.rf
  have hP : va_P (dC, dI) vwCl [(mo, .inr (2, [.int tw, .ref bL, .ref bT, .int (nI n), .ref bK, .ref bF, .ref bS, .ref bB, .int co, .int pl, .int st, .int jo, .int cn, .int ii, .int fi, .int fe, .ref bU])), (bK, .inl (cI, 60, .inl K)), (bF, .inl (cI, 60, .inl F)), (bS, .inl (cI, 60, .inl S)), (bB, .inl (cZ, 60, .inl B)), (bL, .inl (cI, 4, .inl L)), (bT, .inl (cI, 4, .inl T)), (bU, .inl (cI, 6, .inl U))] s.heap := hP
  have hl := lv_entry ([.ref mo, .int (nI i)]) (n := 2) (Nat.le_of_ble_eq_true rfl)
  rw [lg_entry_eq]
  generalize (lg_sl ([.ref mo, .int (nI i)]) ++ List.replicate (2 - (lg_sl ([.ref mo, .int (nI i)])).length) Slot.unset).toArray = ls at hl ⊢
  have hl : lv_has ls 2 [(0, .ref mo), (1, .int (nI i))] := hl
  have k0 := hts (.fieldLink RX2 32 "KnifeLedgerModel" "thrown" "I") (by decide +kernel)
  have hinX2 : ∀ w ∈ wsX20, w ∈ wsX2_strike := by decide +kernel
  have k2 := hts (.fieldLink RX2 25 "KnifeLedgerModel" "struck" "[Z") (by decide +kernel)
  have hn6 : n ≤ 60 := hX.1
  refine lv_aload_n hx hb dX2_strike_0 rfl (lv_at hl 0 rfl) ?_
  refine lv_aload_n hx hb dX2_strike_1 rfl (lv_at hl 0 rfl) ?_
  refine lv_iload_n hx hb dX2_strike_2 rfl (lv_at hl 1 rfl) ?_
  have hPc := hP.sub (ws' := [(mo, .inr (2, [.int tw, .ref bL, .ref bT, .int (nI n), .ref bK, .ref bF, .ref bS, .ref bB, .int co, .int pl, .int st, .int jo, .int cn, .int ii, .int fi, .int fe, .ref bU])), (bK, .inl (cI, 60, .inl K)), (bF, .inl (cI, 60, .inl F)), (bS, .inl (cI, 60, .inl S)), (bB, .inl (cZ, 60, .inl B)), (bL, .inl (cI, 4, .inl L)), (bT, .inl (cI, 4, .inl T)), (bU, .inl (cI, 6, .inl U))]) [0, 1, 2, 3, 4, 5, 6, 7] rfl
  have hDc := hD.sub (ws' := [(mo, .inr (2, [.int tw, .ref bL, .ref bT, .int (nI n), .ref bK, .ref bF, .ref bS, .ref bB, .int co, .int pl, .int st, .int jo, .int cn, .int ii, .int fi, .int fe, .ref bU])), (bK, .inl (cI, 60, .inl K)), (bF, .inl (cI, 60, .inl F)), (bS, .inl (cI, 60, .inl S)), (bB, .inl (cZ, 60, .inl B)), (bL, .inl (cI, 4, .inl L)), (bT, .inl (cI, 4, .inl T)), (bU, .inl (cI, 6, .inl U))]) [0, 1, 2, 3, 4, 5, 6, 7] (by decide) rfl
  have hKc := hK.sub (tys' := [(cI, .int), (cZ, .boolean)]) [0, 1] rfl
  have hFc := va_free (wc := [(mo, .inr (2, [.int tw, .ref bL, .ref bT, .int (nI n), .ref bK, .ref bF, .ref bS, .ref bB, .int co, .int pl, .int st, .int jo, .int cn, .int ii, .int fi, .int fe, .ref bU])), (bK, .inl (cI, 60, .inl K)), (bF, .inl (cI, 60, .inl F)), (bS, .inl (cI, 60, .inl S)), (bB, .inl (cZ, 60, .inl B)), (bL, .inl (cI, 4, .inl L)), (bT, .inl (cI, 4, .inl T)), (bU, .inl (cI, 6, .inl U))]) hD hS hA [0, 1, 2, 3, 4, 5, 6, 7] rfl
  refine va_calli (va_runV (As := [.int (nI i)]) (rest := [.ref mo]) ⟨hx, hb, hml, hown, hts⟩ (c_X2_isEntry l dC dI cI cZ mo bK bF bS bB bL bT bU s.heap.size L T K F S B U n tw co pl st jo cn ii fi fe (nI i)) (cwV 1 hts gX2_strike_X2_isEntry rfl rfl rfl (by decide +kernel) ⟨Nat.le_of_ble_eq_true rfl, Nat.le_of_ble_eq_true rfl⟩) (pc_V hKc hPc hDc (ci := 2) (C := RX2) (T := TX2) (N := 17) (q0 := 0) rfl rfl) rfl rfl hl.1 rfl (lv_room (Nat.le_of_ble_eq_true rfl)) dX2_strike_3 ⟨Nat.le_of_ble_eq_true rfl, Nat.le_of_ble_eq_true rfl⟩) hS (fun q _ h => hFc q h) hFc (fun r_1 u t H_1 locs ht hvm hw hB hz1 hk1 hS => ?_)
  try dsimp only at hw hB
  have hw_1 := hw
  replace hw_1 := hw_1.symm
  subst hw_1
  obtain ⟨hP1, hD1⟩ := hB
  rw [ht] at hP1
  obtain ⟨hP, hD⟩ := va_join (wr := []) (w1 := [(mo, .inr (2, [.int tw, .ref bL, .ref bT, .int (nI n), .ref bK, .ref bF, .ref bS, .ref bB, .int co, .int pl, .int st, .int jo, .int cn, .int ii, .int fi, .int fe, .ref bU])), (bK, .inl (cI, 60, .inl K)), (bF, .inl (cI, 60, .inl F)), (bS, .inl (cI, 60, .inl S)), (bB, .inl (cZ, 60, .inl B)), (bL, .inl (cI, 4, .inl L)), (bT, .inl (cI, 4, .inl T)), (bU, .inl (cI, 6, .inl U))]) hP hD [0, 1, 2, 3, 4, 5, 6, 7] [] rfl rfl (by decide) (by decide) hk1 hFc hP1 hD1
  have hP : va_P (dC, dI) vwCl [(mo, .inr (2, [.int tw, .ref bL, .ref bT, .int (nI n), .ref bK, .ref bF, .ref bS, .ref bB, .int co, .int pl, .int st, .int jo, .int cn, .int ii, .int fi, .int fe, .ref bU])), (bK, .inl (cI, 60, .inl K)), (bF, .inl (cI, 60, .inl F)), (bS, .inl (cI, 60, .inl S)), (bB, .inl (cZ, 60, .inl B)), (bL, .inl (cI, 4, .inl L)), (bT, .inl (cI, 4, .inl T)), (bU, .inl (cI, 6, .inl U))] H_1 := hP
  have hD : va_D A [(mo, .inr (2, [.int tw, .ref bL, .ref bT, .int (nI n), .ref bK, .ref bF, .ref bS, .ref bB, .int co, .int pl, .int st, .int jo, .int cn, .int ii, .int fi, .int fe, .ref bU])), (bK, .inl (cI, 60, .inl K)), (bF, .inl (cI, 60, .inl F)), (bS, .inl (cI, 60, .inl S)), (bB, .inl (cZ, 60, .inl B)), (bL, .inl (cI, 4, .inl L)), (bT, .inl (cI, 4, .inl T)), (bU, .inl (cI, 6, .inl U))] := hD
  refine lv_if_eq (tgt := 13) hx hb dX2_strike_6 (by decide) (fun h9 => absurd h9 (by rw [mIn_ent hi hX.1]; exact one_ne)) (fun _ => ?_)
  refine lv_iconst (v := 0) hx hb dX2_strike_9 (by decide) ?_
  refine lv_goto (tgt := 14) hx hb dX2_strike_10 (by decide) ?_
  refine va_put (D := (dC, dI)) (ci := 2) (v := .int 0) (ty := .int) (C := RX2) (T := TX2) (N := 17) hx hb hts hinX2 tyX2 tyX2_ok nmX2 hown hK hP hD hS 0 rfl rfl 0 (by decide) k0 (fun _ h9 => h9) rfl (by decide +kernel) rfl rfl (Nat.le_of_ble_eq_true rfl) dX2_strike_14 (fun H_2 locs hP hD hS => ?_)
  have hP : va_P (dC, dI) vwCl [(mo, .inr (2, [.int 0, .ref bL, .ref bT, .int (nI n), .ref bK, .ref bF, .ref bS, .ref bB, .int co, .int pl, .int st, .int jo, .int cn, .int ii, .int fi, .int fe, .ref bU])), (bK, .inl (cI, 60, .inl K)), (bF, .inl (cI, 60, .inl F)), (bS, .inl (cI, 60, .inl S)), (bB, .inl (cZ, 60, .inl B)), (bL, .inl (cI, 4, .inl L)), (bT, .inl (cI, 4, .inl T)), (bU, .inl (cI, 6, .inl U))] H_2 := hP
  have hD : va_D A [(mo, .inr (2, [.int 0, .ref bL, .ref bT, .int (nI n), .ref bK, .ref bF, .ref bS, .ref bB, .int co, .int pl, .int st, .int jo, .int cn, .int ii, .int fi, .int fe, .ref bU])), (bK, .inl (cI, 60, .inl K)), (bF, .inl (cI, 60, .inl F)), (bS, .inl (cI, 60, .inl S)), (bB, .inl (cZ, 60, .inl B)), (bL, .inl (cI, 4, .inl L)), (bT, .inl (cI, 4, .inl T)), (bU, .inl (cI, 6, .inl U))] := hD
  refine lv_aload_n hx hb dX2_strike_17 rfl (lv_at hl 0 rfl) ?_
  refine va_get (D := (dC, dI)) (ci := 2) (v := .int 0) (C := RX2) (T := TX2) (N := 17) hx hb hts hinX2 hown hK hP 0 rfl rfl 0 (by decide) k0 (fun _ h9 => h9) rfl dX2_strike_18 ?_
  refine lv_if_eq (tgt := 26) hx hb dX2_strike_21 (by decide) (fun _ => ?_) (fun h9 => absurd (by decide) h9)
  refine lv_aload_n hx hb dX2_strike_26 rfl (lv_at hl 0 rfl) ?_
  refine va_get (D := (dC, dI)) (ci := 2) (v := .ref bB) (C := RX2) (T := TX2) (N := 17) hx hb hts hinX2 hown hK hP 0 rfl rfl 7 (by decide) k2 (fun _ h9 => h9) rfl dX2_strike_27 ?_
  refine lv_iload_n hx hb dX2_strike_30 rfl (lv_at hl 1 rfl) ?_
  refine lv_aload_n hx hb dX2_strike_31 rfl (lv_at hl 0 rfl) ?_
  refine va_get (D := (dC, dI)) (ci := 2) (v := .ref bB) (C := RX2) (T := TX2) (N := 17) hx hb hts hinX2 hown hK hP 0 rfl rfl 7 (by decide) k2 (fun _ h9 => h9) rfl dX2_strike_32 ?_
  refine lv_iload_n hx hb dX2_strike_35 rfl (lv_at hl 1 rfl) ?_
  refine va_zald hx hb hK hP 4 1 rfl rfl (vp_in_nI (by omega) (by omega)) dX2_strike_36 ?_
  rw [nI_clamp (n := i) (by omega)]
  refine lv_if_ne (tgt := 44) hx hb dX2_strike_37 (by decide) (fun c_37 => ?_) (fun c_37 => ?_)
  · -- 37
    refine lv_iconst (v := 0) hx hb dX2_strike_44 (by decide) ?_
    refine va_zast hx hb hK hP hD hS 4 1 rfl rfl (vp_in_nI (by omega) (by omega)) dX2_strike_45 (fun H_3 locs hP hD hS => ?_)
    have hP : va_P (dC, dI) vwCl [(mo, .inr (2, [.int 0, .ref bL, .ref bT, .int (nI n), .ref bK, .ref bF, .ref bS, .ref bB, .int co, .int pl, .int st, .int jo, .int cn, .int ii, .int fi, .int fe, .ref bU])), (bK, .inl (cI, 60, .inl K)), (bF, .inl (cI, 60, .inl F)), (bS, .inl (cI, 60, .inl S)), (bB, .inl (cZ, 60, .inl (upd B ((nI i).toNatClampNeg) 0))), (bL, .inl (cI, 4, .inl L)), (bT, .inl (cI, 4, .inl T)), (bU, .inl (cI, 6, .inl U))] H_3 := hP
    have hD : va_D A [(mo, .inr (2, [.int 0, .ref bL, .ref bT, .int (nI n), .ref bK, .ref bF, .ref bS, .ref bB, .int co, .int pl, .int st, .int jo, .int cn, .int ii, .int fi, .int fe, .ref bU])), (bK, .inl (cI, 60, .inl K)), (bF, .inl (cI, 60, .inl F)), (bS, .inl (cI, 60, .inl S)), (bB, .inl (cZ, 60, .inl (upd B ((nI i).toNatClampNeg) 0))), (bL, .inl (cI, 4, .inl L)), (bT, .inl (cI, 4, .inl T)), (bU, .inl (cI, 6, .inl U))] := hD
    rw [nI_clamp (by omega)] at hP hD
    have hP : va_P (dC, dI) vwCl [(mo, .inr (2, [.int 0, .ref bL, .ref bT, .int (nI n), .ref bK, .ref bF, .ref bS, .ref bB, .int co, .int pl, .int st, .int jo, .int cn, .int ii, .int fi, .int fe, .ref bU])), (bK, .inl (cI, 60, .inl K)), (bF, .inl (cI, 60, .inl F)), (bS, .inl (cI, 60, .inl S)), (bB, .inl (cZ, 60, .inl (upd B (i) 0))), (bL, .inl (cI, 4, .inl L)), (bT, .inl (cI, 4, .inl T)), (bU, .inl (cI, 6, .inl U))] H_3 := hP
    have hD : va_D A [(mo, .inr (2, [.int 0, .ref bL, .ref bT, .int (nI n), .ref bK, .ref bF, .ref bS, .ref bB, .int co, .int pl, .int st, .int jo, .int cn, .int ii, .int fi, .int fe, .ref bU])), (bK, .inl (cI, 60, .inl K)), (bF, .inl (cI, 60, .inl F)), (bS, .inl (cI, 60, .inl S)), (bB, .inl (cZ, 60, .inl (upd B (i) 0))), (bL, .inl (cI, 4, .inl L)), (bT, .inl (cI, 4, .inl T)), (bU, .inl (cI, 6, .inl U))] := hD
    refine lv_aload_n hx hb dX2_strike_46 rfl (lv_at hl 0 rfl) ?_
    refine va_get (D := (dC, dI)) (ci := 2) (v := .ref bB) (C := RX2) (T := TX2) (N := 17) hx hb hts hinX2 hown hK hP 0 rfl rfl 7 (by decide) k2 (fun _ h9 => h9) rfl dX2_strike_47 ?_
    refine lv_iload_n hx hb dX2_strike_50 rfl (lv_at hl 1 rfl) ?_
    refine va_zald hx hb hK hP 4 1 rfl rfl (vp_in_nI (by omega) (by omega)) dX2_strike_51 ?_
    rw [nI_clamp (n := i) (by omega)]
    have hpost : ((upd B (i) 0) i) = nb (B i) ∧ (upd B (i) 0) = upd B i (nb (B i)) := by
      unfold nb; rw [if_neg c_37]; exact ⟨pk_us, rfl⟩
    have hP9 := hP.sub (ws' := [(mo, .inr (2, [.int 0, .ref bL, .ref bT, .int (nI n), .ref bK, .ref bF, .ref bS, .ref bB, .int co, .int pl, .int st, .int jo, .int cn, .int ii, .int fi, .int fe, .ref bU])), (bK, .inl (cI, 60, .inl K)), (bF, .inl (cI, 60, .inl F)), (bS, .inl (cI, 60, .inl S)), (bB, .inl (cZ, 60, .inl (upd B (i) 0))), (bL, .inl (cI, 4, .inl L)), (bT, .inl (cI, 4, .inl T)), (bU, .inl (cI, 6, .inl U))]) [0, 1, 2, 3, 4, 5, 6, 7] rfl
    have hD9 := hD.sub (ws' := [(mo, .inr (2, [.int 0, .ref bL, .ref bT, .int (nI n), .ref bK, .ref bF, .ref bS, .ref bB, .int co, .int pl, .int st, .int jo, .int cn, .int ii, .int fi, .int fe, .ref bU])), (bK, .inl (cI, 60, .inl K)), (bF, .inl (cI, 60, .inl F)), (bS, .inl (cI, 60, .inl S)), (bB, .inl (cZ, 60, .inl (upd B (i) 0))), (bL, .inl (cI, 4, .inl L)), (bT, .inl (cI, 4, .inl T)), (bU, .inl (cI, 6, .inl U))]) [0, 1, 2, 3, 4, 5, 6, 7] (by decide) rfl
    exact W.zret (v := (upd B (i) 0) i) (ty := .boolean) hx hb hr (nz_01 (Or.inl pk_us)) (fun t ht hW => ⟨⟨((upd B (i) 0) i), (upd B (i) 0), rfl, hpost, by rw [ht]; exact hP9, hD9⟩, hS.F ht⟩) hS.2.2 dX2_strike_52
  · -- 37
    refine lv_iconst (v := 1) hx hb dX2_strike_40 (by decide) ?_
    refine lv_goto (tgt := 45) hx hb dX2_strike_41 (by decide) ?_
    refine va_zast hx hb hK hP hD hS 4 1 rfl rfl (vp_in_nI (by omega) (by omega)) dX2_strike_45 (fun H_4 locs hP hD hS => ?_)
    have hP : va_P (dC, dI) vwCl [(mo, .inr (2, [.int 0, .ref bL, .ref bT, .int (nI n), .ref bK, .ref bF, .ref bS, .ref bB, .int co, .int pl, .int st, .int jo, .int cn, .int ii, .int fi, .int fe, .ref bU])), (bK, .inl (cI, 60, .inl K)), (bF, .inl (cI, 60, .inl F)), (bS, .inl (cI, 60, .inl S)), (bB, .inl (cZ, 60, .inl (upd B ((nI i).toNatClampNeg) 1))), (bL, .inl (cI, 4, .inl L)), (bT, .inl (cI, 4, .inl T)), (bU, .inl (cI, 6, .inl U))] H_4 := hP
    have hD : va_D A [(mo, .inr (2, [.int 0, .ref bL, .ref bT, .int (nI n), .ref bK, .ref bF, .ref bS, .ref bB, .int co, .int pl, .int st, .int jo, .int cn, .int ii, .int fi, .int fe, .ref bU])), (bK, .inl (cI, 60, .inl K)), (bF, .inl (cI, 60, .inl F)), (bS, .inl (cI, 60, .inl S)), (bB, .inl (cZ, 60, .inl (upd B ((nI i).toNatClampNeg) 1))), (bL, .inl (cI, 4, .inl L)), (bT, .inl (cI, 4, .inl T)), (bU, .inl (cI, 6, .inl U))] := hD
    rw [nI_clamp (by omega)] at hP hD
    have hP : va_P (dC, dI) vwCl [(mo, .inr (2, [.int 0, .ref bL, .ref bT, .int (nI n), .ref bK, .ref bF, .ref bS, .ref bB, .int co, .int pl, .int st, .int jo, .int cn, .int ii, .int fi, .int fe, .ref bU])), (bK, .inl (cI, 60, .inl K)), (bF, .inl (cI, 60, .inl F)), (bS, .inl (cI, 60, .inl S)), (bB, .inl (cZ, 60, .inl (upd B (i) 1))), (bL, .inl (cI, 4, .inl L)), (bT, .inl (cI, 4, .inl T)), (bU, .inl (cI, 6, .inl U))] H_4 := hP
    have hD : va_D A [(mo, .inr (2, [.int 0, .ref bL, .ref bT, .int (nI n), .ref bK, .ref bF, .ref bS, .ref bB, .int co, .int pl, .int st, .int jo, .int cn, .int ii, .int fi, .int fe, .ref bU])), (bK, .inl (cI, 60, .inl K)), (bF, .inl (cI, 60, .inl F)), (bS, .inl (cI, 60, .inl S)), (bB, .inl (cZ, 60, .inl (upd B (i) 1))), (bL, .inl (cI, 4, .inl L)), (bT, .inl (cI, 4, .inl T)), (bU, .inl (cI, 6, .inl U))] := hD
    refine lv_aload_n hx hb dX2_strike_46 rfl (lv_at hl 0 rfl) ?_
    refine va_get (D := (dC, dI)) (ci := 2) (v := .ref bB) (C := RX2) (T := TX2) (N := 17) hx hb hts hinX2 hown hK hP 0 rfl rfl 7 (by decide) k2 (fun _ h9 => h9) rfl dX2_strike_47 ?_
    refine lv_iload_n hx hb dX2_strike_50 rfl (lv_at hl 1 rfl) ?_
    refine va_zald hx hb hK hP 4 1 rfl rfl (vp_in_nI (by omega) (by omega)) dX2_strike_51 ?_
    rw [nI_clamp (n := i) (by omega)]
    have hpost : ((upd B (i) 1) i) = nb (B i) ∧ (upd B (i) 1) = upd B i (nb (B i)) := by
      unfold nb; rw [if_pos c_37]; exact ⟨pk_us, rfl⟩
    have hP9 := hP.sub (ws' := [(mo, .inr (2, [.int 0, .ref bL, .ref bT, .int (nI n), .ref bK, .ref bF, .ref bS, .ref bB, .int co, .int pl, .int st, .int jo, .int cn, .int ii, .int fi, .int fe, .ref bU])), (bK, .inl (cI, 60, .inl K)), (bF, .inl (cI, 60, .inl F)), (bS, .inl (cI, 60, .inl S)), (bB, .inl (cZ, 60, .inl (upd B (i) 1))), (bL, .inl (cI, 4, .inl L)), (bT, .inl (cI, 4, .inl T)), (bU, .inl (cI, 6, .inl U))]) [0, 1, 2, 3, 4, 5, 6, 7] rfl
    have hD9 := hD.sub (ws' := [(mo, .inr (2, [.int 0, .ref bL, .ref bT, .int (nI n), .ref bK, .ref bF, .ref bS, .ref bB, .int co, .int pl, .int st, .int jo, .int cn, .int ii, .int fi, .int fe, .ref bU])), (bK, .inl (cI, 60, .inl K)), (bF, .inl (cI, 60, .inl F)), (bS, .inl (cI, 60, .inl S)), (bB, .inl (cZ, 60, .inl (upd B (i) 1))), (bL, .inl (cI, 4, .inl L)), (bT, .inl (cI, 4, .inl T)), (bU, .inl (cI, 6, .inl U))]) [0, 1, 2, 3, 4, 5, 6, 7] (by decide) rfl
    exact W.zret (v := (upd B (i) 1) i) (ty := .boolean) hx hb hr (nz_01 (Or.inr pk_us)) (fun t ht hW => ⟨⟨((upd B (i) 1) i), (upd B (i) 1), rfl, hpost, by rw [ht]; exact hP9, hD9⟩, hS.F ht⟩) hS.2.2 dX2_strike_52

set_option maxHeartbeats 4000000 in
set_option maxRecDepth 100000 in
theorem c_X2_strike_f1 (l : Launch) (dC : Nat → ClassId) (dI : Nat → Nat → Nat) (cI cZ : ClassId) (mo bK bF bS bB bL bT bU : Nat) (sz : Nat) (L : N2I) (T : N2I) (K : N2I) (F : N2I) (S : N2I) (B : N2I) (U : N2I) (n : Nat) (tw : Int32) (co : Int32) (pl : Int32) (st : Int32) (jo : Int32) (cn : Int32) (ii : Int32) (fi : Int32) (fe : Int32) (x : Int32) (hn6 : n ≤ 60) (hxb : ¬ vp_in x n) : Met l yX2_strike wsX2_strike ({ frames := 2, cells := 0, slots := 0, locals := 43 } : Room) (va_Pc [.ref mo, .int x] (pc_ (dC, dI) [(cI, .int), (cZ, .boolean)] [(mo, .inr (2, [.int tw, .ref bL, .ref bT, .int (nI n), .ref bK, .ref bF, .ref bS, .ref bB, .int co, .int pl, .int st, .int jo, .int cn, .int ii, .int fi, .int fe, .ref bU])), (bK, .inl (cI, 60, .inl K)), (bF, .inl (cI, 60, .inl F)), (bS, .inl (cI, 60, .inl S)), (bB, .inl (cZ, 60, .inl B)), (bL, .inl (cI, 4, .inl L)), (bT, .inl (cI, 4, .inl T)), (bU, .inl (cI, 6, .inl U))] sz)) (va_Qi (fun (r : Int32) (u : Unit) => r = 0) (fun (u : Unit) (t : State) => va_P (dC, dI) vwCl [(mo, .inr (2, [.int 1, .ref bL, .ref bT, .int (nI n), .ref bK, .ref bF, .ref bS, .ref bB, .int co, .int pl, .int st, .int jo, .int cn, .int ii, .int fi, .int fe, .ref bU])), (bK, .inl (cI, 60, .inl K)), (bF, .inl (cI, 60, .inl F)), (bS, .inl (cI, 60, .inl S)), (bB, .inl (cZ, 60, .inl B)), (bL, .inl (cI, 4, .inl L)), (bT, .inl (cI, 4, .inl T)), (bU, .inl (cI, 6, .inl U))] t.heap ∧ va_D (va_A [(mo, .inr (2, [.int tw, .ref bL, .ref bT, .int (nI n), .ref bK, .ref bF, .ref bS, .ref bB, .int co, .int pl, .int st, .int jo, .int cn, .int ii, .int fi, .int fe, .ref bU])), (bK, .inl (cI, 60, .inl K)), (bF, .inl (cI, 60, .inl F)), (bS, .inl (cI, 60, .inl S)), (bB, .inl (cZ, 60, .inl B)), (bL, .inl (cI, 4, .inl L)), (bT, .inl (cI, 4, .inl T)), (bU, .inl (cI, 6, .inl U))] sz) [(mo, .inr (2, [.int 1, .ref bL, .ref bT, .int (nI n), .ref bK, .ref bF, .ref bS, .ref bB, .int co, .int pl, .int st, .int jo, .int cn, .int ii, .int fi, .int fe, .ref bU])), (bK, .inl (cI, 60, .inl K)), (bF, .inl (cI, 60, .inl F)), (bS, .inl (cI, 60, .inl S)), (bB, .inl (cZ, 60, .inl B)), (bL, .inl (cI, 4, .inl L)), (bT, .inl (cI, 4, .inl T)), (bU, .inl (cI, 6, .inl U))]) (va_A [(mo, .inr (2, [.int tw, .ref bL, .ref bT, .int (nI n), .ref bK, .ref bF, .ref bS, .ref bB, .int co, .int pl, .int st, .int jo, .int cn, .int ii, .int fi, .int fe, .ref bU])), (bK, .inl (cI, 60, .inl K)), (bF, .inl (cI, 60, .inl F)), (bS, .inl (cI, 60, .inl S)), (bB, .inl (cZ, 60, .inl B)), (bL, .inl (cI, 4, .inl L)), (bT, .inl (cI, 4, .inl T)), (bU, .inl (cI, 6, .inl U))] sz)) 0 0 (va_A [(mo, .inr (2, [.int tw, .ref bL, .ref bT, .int (nI n), .ref bK, .ref bF, .ref bS, .ref bB, .int co, .int pl, .int st, .int jo, .int cn, .int ii, .int fi, .int fe, .ref bU])), (bK, .inl (cI, 60, .inl K)), (bF, .inl (cI, 60, .inl F)), (bS, .inl (cI, 60, .inl S)), (bB, .inl (cZ, 60, .inl B)), (bL, .inl (cI, 4, .inl L)), (bT, .inl (cI, 4, .inl T)), (bU, .inl (cI, 6, .inl U))] sz) := by
  refine Met.ofW (cc := cX2_strike) (maxL := 2) (ret := (some .boolean)) (by decide) rfl ?_
  intro p e s m args below meth c s₁ BB hml hv
  obtain ⟨rfl, hsz, hP, hK, hD0⟩ := hv
  have hx := BB.exec
  have hb := BB.bytes
  have hr := BB.returns
  have hts := atoms_spec (ws := wsX2_strike) BB.pre
  have hown : s.vm.findClass RX2 = some m.cls := findClass_of_methodNamed BB.named
  have hlocks := BB.notSynchronized
  subst hsz
  have hD := hD0.self (sz := s.heap.size)
  generalize hAe : va_A [(mo, .inr (2, [.int tw, .ref bL, .ref bT, .int (nI n), .ref bK, .ref bF, .ref bS, .ref bB, .int co, .int pl, .int st, .int jo, .int cn, .int ii, .int fi, .int fe, .ref bU])), (bK, .inl (cI, 60, .inl K)), (bF, .inl (cI, 60, .inl F)), (bS, .inl (cI, 60, .inl S)), (bB, .inl (cZ, 60, .inl B)), (bL, .inl (cI, 4, .inl L)), (bT, .inl (cI, 4, .inl T)), (bU, .inl (cI, 6, .inl U))] s.heap.size = A at hD ⊢
  have hA : ∀ q : Nat, s.heap.size ≤ q → A q := fun q h => by rw [← hAe]; exact Or.inr h
  have hS : va_S A s.heap s.heap [] := va_S.rf
  have hP : va_P (dC, dI) vwCl [(mo, .inr (2, [.int tw, .ref bL, .ref bT, .int (nI n), .ref bK, .ref bF, .ref bS, .ref bB, .int co, .int pl, .int st, .int jo, .int cn, .int ii, .int fi, .int fe, .ref bU])), (bK, .inl (cI, 60, .inl K)), (bF, .inl (cI, 60, .inl F)), (bS, .inl (cI, 60, .inl S)), (bB, .inl (cZ, 60, .inl B)), (bL, .inl (cI, 4, .inl L)), (bT, .inl (cI, 4, .inl T)), (bU, .inl (cI, 6, .inl U))] s.heap := hP
  have hl := lv_entry ([.ref mo, .int x]) (n := 2) (Nat.le_of_ble_eq_true rfl)
  rw [lg_entry_eq]
  generalize (lg_sl ([.ref mo, .int x]) ++ List.replicate (2 - (lg_sl ([.ref mo, .int x])).length) Slot.unset).toArray = ls at hl ⊢
  have hl : lv_has ls 2 [(0, .ref mo), (1, .int x)] := hl
  have k0 := hts (.fieldLink RX2 32 "KnifeLedgerModel" "thrown" "I") (by decide +kernel)
  have hinX2 : ∀ w ∈ wsX20, w ∈ wsX2_strike := by decide +kernel
  refine lv_aload_n hx hb dX2_strike_0 rfl (lv_at hl 0 rfl) ?_
  refine lv_aload_n hx hb dX2_strike_1 rfl (lv_at hl 0 rfl) ?_
  refine lv_iload_n hx hb dX2_strike_2 rfl (lv_at hl 1 rfl) ?_
  have hPc := hP.sub (ws' := [(mo, .inr (2, [.int tw, .ref bL, .ref bT, .int (nI n), .ref bK, .ref bF, .ref bS, .ref bB, .int co, .int pl, .int st, .int jo, .int cn, .int ii, .int fi, .int fe, .ref bU])), (bK, .inl (cI, 60, .inl K)), (bF, .inl (cI, 60, .inl F)), (bS, .inl (cI, 60, .inl S)), (bB, .inl (cZ, 60, .inl B)), (bL, .inl (cI, 4, .inl L)), (bT, .inl (cI, 4, .inl T)), (bU, .inl (cI, 6, .inl U))]) [0, 1, 2, 3, 4, 5, 6, 7] rfl
  have hDc := hD.sub (ws' := [(mo, .inr (2, [.int tw, .ref bL, .ref bT, .int (nI n), .ref bK, .ref bF, .ref bS, .ref bB, .int co, .int pl, .int st, .int jo, .int cn, .int ii, .int fi, .int fe, .ref bU])), (bK, .inl (cI, 60, .inl K)), (bF, .inl (cI, 60, .inl F)), (bS, .inl (cI, 60, .inl S)), (bB, .inl (cZ, 60, .inl B)), (bL, .inl (cI, 4, .inl L)), (bT, .inl (cI, 4, .inl T)), (bU, .inl (cI, 6, .inl U))]) [0, 1, 2, 3, 4, 5, 6, 7] (by decide) rfl
  have hKc := hK.sub (tys' := [(cI, .int), (cZ, .boolean)]) [0, 1] rfl
  have hFc := va_free (wc := [(mo, .inr (2, [.int tw, .ref bL, .ref bT, .int (nI n), .ref bK, .ref bF, .ref bS, .ref bB, .int co, .int pl, .int st, .int jo, .int cn, .int ii, .int fi, .int fe, .ref bU])), (bK, .inl (cI, 60, .inl K)), (bF, .inl (cI, 60, .inl F)), (bS, .inl (cI, 60, .inl S)), (bB, .inl (cZ, 60, .inl B)), (bL, .inl (cI, 4, .inl L)), (bT, .inl (cI, 4, .inl T)), (bU, .inl (cI, 6, .inl U))]) hD hS hA [0, 1, 2, 3, 4, 5, 6, 7] rfl
  refine va_calli (va_runV (As := [.int x]) (rest := [.ref mo]) ⟨hx, hb, hml, hown, hts⟩ (c_X2_isEntry l dC dI cI cZ mo bK bF bS bB bL bT bU s.heap.size L T K F S B U n tw co pl st jo cn ii fi fe x) (cwV 1 hts gX2_strike_X2_isEntry rfl rfl rfl (by decide +kernel) ⟨Nat.le_of_ble_eq_true rfl, Nat.le_of_ble_eq_true rfl⟩) (pc_V hKc hPc hDc (ci := 2) (C := RX2) (T := TX2) (N := 17) (q0 := 0) rfl rfl) rfl rfl hl.1 rfl (lv_room (Nat.le_of_ble_eq_true rfl)) dX2_strike_3 ⟨Nat.le_of_ble_eq_true rfl, Nat.le_of_ble_eq_true rfl⟩) hS (fun q _ h => hFc q h) hFc (fun r_1 u t H_1 locs ht hvm hw hB hz1 hk1 hS => ?_)
  try dsimp only at hw hB
  have hw_1 := hw
  replace hw_1 := hw_1.symm
  subst hw_1
  obtain ⟨hP1, hD1⟩ := hB
  rw [ht] at hP1
  obtain ⟨hP, hD⟩ := va_join (wr := []) (w1 := [(mo, .inr (2, [.int tw, .ref bL, .ref bT, .int (nI n), .ref bK, .ref bF, .ref bS, .ref bB, .int co, .int pl, .int st, .int jo, .int cn, .int ii, .int fi, .int fe, .ref bU])), (bK, .inl (cI, 60, .inl K)), (bF, .inl (cI, 60, .inl F)), (bS, .inl (cI, 60, .inl S)), (bB, .inl (cZ, 60, .inl B)), (bL, .inl (cI, 4, .inl L)), (bT, .inl (cI, 4, .inl T)), (bU, .inl (cI, 6, .inl U))]) hP hD [0, 1, 2, 3, 4, 5, 6, 7] [] rfl rfl (by decide) (by decide) hk1 hFc hP1 hD1
  have hP : va_P (dC, dI) vwCl [(mo, .inr (2, [.int tw, .ref bL, .ref bT, .int (nI n), .ref bK, .ref bF, .ref bS, .ref bB, .int co, .int pl, .int st, .int jo, .int cn, .int ii, .int fi, .int fe, .ref bU])), (bK, .inl (cI, 60, .inl K)), (bF, .inl (cI, 60, .inl F)), (bS, .inl (cI, 60, .inl S)), (bB, .inl (cZ, 60, .inl B)), (bL, .inl (cI, 4, .inl L)), (bT, .inl (cI, 4, .inl T)), (bU, .inl (cI, 6, .inl U))] H_1 := hP
  have hD : va_D A [(mo, .inr (2, [.int tw, .ref bL, .ref bT, .int (nI n), .ref bK, .ref bF, .ref bS, .ref bB, .int co, .int pl, .int st, .int jo, .int cn, .int ii, .int fi, .int fe, .ref bU])), (bK, .inl (cI, 60, .inl K)), (bF, .inl (cI, 60, .inl F)), (bS, .inl (cI, 60, .inl S)), (bB, .inl (cZ, 60, .inl B)), (bL, .inl (cI, 4, .inl L)), (bT, .inl (cI, 4, .inl T)), (bU, .inl (cI, 6, .inl U))] := hD
  refine lv_if_eq (tgt := 13) hx hb dX2_strike_6 (by decide) (fun _ => ?_) (fun h9 => absurd (mIn_nent hn6 hxb) h9)
  refine lv_iconst (v := 1) hx hb dX2_strike_13 (by decide) ?_
  refine va_put (D := (dC, dI)) (ci := 2) (v := .int 1) (ty := .int) (C := RX2) (T := TX2) (N := 17) hx hb hts hinX2 tyX2 tyX2_ok nmX2 hown hK hP hD hS 0 rfl rfl 0 (by decide) k0 (fun _ h9 => h9) rfl (by decide +kernel) rfl rfl (Nat.le_of_ble_eq_true rfl) dX2_strike_14 (fun H_2 locs hP hD hS => ?_)
  have hP : va_P (dC, dI) vwCl [(mo, .inr (2, [.int 1, .ref bL, .ref bT, .int (nI n), .ref bK, .ref bF, .ref bS, .ref bB, .int co, .int pl, .int st, .int jo, .int cn, .int ii, .int fi, .int fe, .ref bU])), (bK, .inl (cI, 60, .inl K)), (bF, .inl (cI, 60, .inl F)), (bS, .inl (cI, 60, .inl S)), (bB, .inl (cZ, 60, .inl B)), (bL, .inl (cI, 4, .inl L)), (bT, .inl (cI, 4, .inl T)), (bU, .inl (cI, 6, .inl U))] H_2 := hP
  have hD : va_D A [(mo, .inr (2, [.int 1, .ref bL, .ref bT, .int (nI n), .ref bK, .ref bF, .ref bS, .ref bB, .int co, .int pl, .int st, .int jo, .int cn, .int ii, .int fi, .int fe, .ref bU])), (bK, .inl (cI, 60, .inl K)), (bF, .inl (cI, 60, .inl F)), (bS, .inl (cI, 60, .inl S)), (bB, .inl (cZ, 60, .inl B)), (bL, .inl (cI, 4, .inl L)), (bT, .inl (cI, 4, .inl T)), (bU, .inl (cI, 6, .inl U))] := hD
  refine lv_aload_n hx hb dX2_strike_17 rfl (lv_at hl 0 rfl) ?_
  refine va_get (D := (dC, dI)) (ci := 2) (v := .int 1) (C := RX2) (T := TX2) (N := 17) hx hb hts hinX2 hown hK hP 0 rfl rfl 0 (by decide) k0 (fun _ h9 => h9) rfl dX2_strike_18 ?_
  refine lv_if_eq (tgt := 26) hx hb dX2_strike_21 (by decide) (fun h9 => absurd h9 (by decide)) (fun _ => ?_)
  refine lv_iconst (v := 0) hx hb dX2_strike_24 (by decide) ?_
  have hpost : (0 : Int32) = 0 := by
    rfl
  have hP9 := hP.sub (ws' := [(mo, .inr (2, [.int 1, .ref bL, .ref bT, .int (nI n), .ref bK, .ref bF, .ref bS, .ref bB, .int co, .int pl, .int st, .int jo, .int cn, .int ii, .int fi, .int fe, .ref bU])), (bK, .inl (cI, 60, .inl K)), (bF, .inl (cI, 60, .inl F)), (bS, .inl (cI, 60, .inl S)), (bB, .inl (cZ, 60, .inl B)), (bL, .inl (cI, 4, .inl L)), (bT, .inl (cI, 4, .inl T)), (bU, .inl (cI, 6, .inl U))]) [0, 1, 2, 3, 4, 5, 6, 7] rfl
  have hD9 := hD.sub (ws' := [(mo, .inr (2, [.int 1, .ref bL, .ref bT, .int (nI n), .ref bK, .ref bF, .ref bS, .ref bB, .int co, .int pl, .int st, .int jo, .int cn, .int ii, .int fi, .int fe, .ref bU])), (bK, .inl (cI, 60, .inl K)), (bF, .inl (cI, 60, .inl F)), (bS, .inl (cI, 60, .inl S)), (bB, .inl (cZ, 60, .inl B)), (bL, .inl (cI, 4, .inl L)), (bT, .inl (cI, 4, .inl T)), (bU, .inl (cI, 6, .inl U))]) [0, 1, 2, 3, 4, 5, 6, 7] (by decide) rfl
  exact W.zret (v := 0) (ty := .boolean) hx hb hr (rfl) (fun t ht hW => ⟨⟨0, (), rfl, hpost, by rw [ht]; exact hP9, hD9⟩, hS.F ht⟩) hS.2.2 dX2_strike_25

set_option maxHeartbeats 4000000 in
set_option maxRecDepth 100000 in
theorem c_X2_exchange (l : Launch) (dC : Nat → ClassId) (dI : Nat → Nat → Nat) (cI cZ : ClassId) (mo bK bF bS bB bL bT bU : Nat) (sz : Nat) (L : N2I) (T : N2I) (K : N2I) (F : N2I) (S : N2I) (B : N2I) (U : N2I) (n : Nat) (tw : Int32) (co : Int32) (pl : Int32) (st : Int32) (jo : Int32) (cn : Int32) (ii : Int32) (fi : Int32) (fe : Int32) (i : Nat) (q : Nat) (hi : i < 60) (hq : q < 60) (hB : ∀ i, B i = 0 ∨ B i = 1) : Met l yX2_exchange wsX2_exchange ({ frames := 0, cells := 0, slots := 0, locals := 0 } : Room) (va_Pc [.ref mo, .int (nI i), .int (nI q)] (pc_ (dC, dI) [(cI, .int), (cZ, .boolean)] [(mo, .inr (2, [.int tw, .ref bL, .ref bT, .int (nI n), .ref bK, .ref bF, .ref bS, .ref bB, .int co, .int pl, .int st, .int jo, .int cn, .int ii, .int fi, .int fe, .ref bU])), (bK, .inl (cI, 60, .inl K)), (bF, .inl (cI, 60, .inl F)), (bS, .inl (cI, 60, .inl S)), (bB, .inl (cZ, 60, .inl B)), (bL, .inl (cI, 4, .inl L)), (bT, .inl (cI, 4, .inl T)), (bU, .inl (cI, 6, .inl U))] sz)) (va_Qv (fun (u : Unit) => True) (fun (u : Unit) (t : State) => va_P (dC, dI) vwCl [(mo, .inr (2, [.int tw, .ref bL, .ref bT, .int (nI n), .ref bK, .ref bF, .ref bS, .ref bB, .int co, .int pl, .int st, .int jo, .int cn, .int ii, .int fi, .int fe, .ref bU])), (bK, .inl (cI, 60, .inl (swp K i q))), (bF, .inl (cI, 60, .inl (swp F i q))), (bS, .inl (cI, 60, .inl (swp S i q))), (bB, .inl (cZ, 60, .inl (swp B i q))), (bL, .inl (cI, 4, .inl L)), (bT, .inl (cI, 4, .inl T)), (bU, .inl (cI, 6, .inl U))] t.heap ∧ va_D (va_A [(mo, .inr (2, [.int tw, .ref bL, .ref bT, .int (nI n), .ref bK, .ref bF, .ref bS, .ref bB, .int co, .int pl, .int st, .int jo, .int cn, .int ii, .int fi, .int fe, .ref bU])), (bK, .inl (cI, 60, .inl K)), (bF, .inl (cI, 60, .inl F)), (bS, .inl (cI, 60, .inl S)), (bB, .inl (cZ, 60, .inl B)), (bL, .inl (cI, 4, .inl L)), (bT, .inl (cI, 4, .inl T)), (bU, .inl (cI, 6, .inl U))] sz) [(mo, .inr (2, [.int tw, .ref bL, .ref bT, .int (nI n), .ref bK, .ref bF, .ref bS, .ref bB, .int co, .int pl, .int st, .int jo, .int cn, .int ii, .int fi, .int fe, .ref bU])), (bK, .inl (cI, 60, .inl (swp K i q))), (bF, .inl (cI, 60, .inl (swp F i q))), (bS, .inl (cI, 60, .inl (swp S i q))), (bB, .inl (cZ, 60, .inl (swp B i q))), (bL, .inl (cI, 4, .inl L)), (bT, .inl (cI, 4, .inl T)), (bU, .inl (cI, 6, .inl U))]) (va_A [(mo, .inr (2, [.int tw, .ref bL, .ref bT, .int (nI n), .ref bK, .ref bF, .ref bS, .ref bB, .int co, .int pl, .int st, .int jo, .int cn, .int ii, .int fi, .int fe, .ref bU])), (bK, .inl (cI, 60, .inl K)), (bF, .inl (cI, 60, .inl F)), (bS, .inl (cI, 60, .inl S)), (bB, .inl (cZ, 60, .inl B)), (bL, .inl (cI, 4, .inl L)), (bT, .inl (cI, 4, .inl T)), (bU, .inl (cI, 6, .inl U))] sz)) 0 0 (va_A [(mo, .inr (2, [.int tw, .ref bL, .ref bT, .int (nI n), .ref bK, .ref bF, .ref bS, .ref bB, .int co, .int pl, .int st, .int jo, .int cn, .int ii, .int fi, .int fe, .ref bU])), (bK, .inl (cI, 60, .inl K)), (bF, .inl (cI, 60, .inl F)), (bS, .inl (cI, 60, .inl S)), (bB, .inl (cZ, 60, .inl B)), (bL, .inl (cI, 4, .inl L)), (bT, .inl (cI, 4, .inl T)), (bU, .inl (cI, 6, .inl U))] sz) := by
  refine Met.ofW (cc := cX2_exchange) (maxL := 7) (ret := none) (by decide) rfl ?_
  intro p e s m args below meth c s₁ BB hml hv
  obtain ⟨rfl, hsz, hP, hK, hD0⟩ := hv
  have hx := BB.exec
  have hb := BB.bytes
  have hr := BB.returns
  have hts := atoms_spec (ws := wsX2_exchange) BB.pre
  have hown : s.vm.findClass RX2 = some m.cls := findClass_of_methodNamed BB.named
  have hlocks := BB.notSynchronized
  subst hsz
  have hD := hD0.self (sz := s.heap.size)
  generalize hAe : va_A [(mo, .inr (2, [.int tw, .ref bL, .ref bT, .int (nI n), .ref bK, .ref bF, .ref bS, .ref bB, .int co, .int pl, .int st, .int jo, .int cn, .int ii, .int fi, .int fe, .ref bU])), (bK, .inl (cI, 60, .inl K)), (bF, .inl (cI, 60, .inl F)), (bS, .inl (cI, 60, .inl S)), (bB, .inl (cZ, 60, .inl B)), (bL, .inl (cI, 4, .inl L)), (bT, .inl (cI, 4, .inl T)), (bU, .inl (cI, 6, .inl U))] s.heap.size = A at hD ⊢
  have hA : ∀ q : Nat, s.heap.size ≤ q → A q := fun q h => by rw [← hAe]; exact Or.inr h
  have hS : va_S A s.heap s.heap [] := va_S.rf
  have hP : va_P (dC, dI) vwCl [(mo, .inr (2, [.int tw, .ref bL, .ref bT, .int (nI n), .ref bK, .ref bF, .ref bS, .ref bB, .int co, .int pl, .int st, .int jo, .int cn, .int ii, .int fi, .int fe, .ref bU])), (bK, .inl (cI, 60, .inl K)), (bF, .inl (cI, 60, .inl F)), (bS, .inl (cI, 60, .inl S)), (bB, .inl (cZ, 60, .inl B)), (bL, .inl (cI, 4, .inl L)), (bT, .inl (cI, 4, .inl T)), (bU, .inl (cI, 6, .inl U))] s.heap := hP
  have hl := lv_entry ([.ref mo, .int (nI i), .int (nI q)]) (n := 7) (Nat.le_of_ble_eq_true rfl)
  rw [lg_entry_eq]
  generalize (lg_sl ([.ref mo, .int (nI i), .int (nI q)]) ++ List.replicate (7 - (lg_sl ([.ref mo, .int (nI i), .int (nI q)])).length) Slot.unset).toArray = ls at hl ⊢
  have hl : lv_has ls 7 [(0, .ref mo), (1, .int (nI i)), (2, .int (nI q))] := hl
  have k0 := hts (.fieldLink RX2 16 "KnifeLedgerModel" "kinds" "[I") (by decide +kernel)
  have hinX2 : ∀ w ∈ wsX20, w ∈ wsX2_exchange := by decide +kernel
  have k2 := hts (.fieldLink RX2 19 "KnifeLedgerModel" "firsts" "[I") (by decide +kernel)
  have k3 := hts (.fieldLink RX2 22 "KnifeLedgerModel" "seconds" "[I") (by decide +kernel)
  have k4 := hts (.fieldLink RX2 25 "KnifeLedgerModel" "struck" "[Z") (by decide +kernel)
  refine lv_aload_n hx hb dX2_exchange_0 rfl (lv_at hl 0 rfl) ?_
  refine va_get (D := (dC, dI)) (ci := 2) (v := .ref bK) (C := RX2) (T := TX2) (N := 17) hx hb hts hinX2 hown hK hP 0 rfl rfl 4 (by decide) k0 (fun _ h9 => h9) rfl dX2_exchange_1 ?_
  refine lv_iload_n hx hb dX2_exchange_4 rfl (lv_at hl 1 rfl) ?_
  refine va_iald hx hb hK hP 1 0 rfl rfl (vp_in_nI (by omega) (by omega)) dX2_exchange_5 ?_
  rw [nI_clamp (n := i) (by omega)]
  refine lv_istore_n (lv' := [(3, .int (K i)), (0, .ref mo), (1, .int (nI i)), (2, .int (nI q))]) hx hb dX2_exchange_6 rfl hl (by decide) rfl (fun ls hl => ?_)
  refine lv_aload_n hx hb dX2_exchange_7 rfl (lv_at hl 1 rfl) ?_
  refine va_get (D := (dC, dI)) (ci := 2) (v := .ref bF) (C := RX2) (T := TX2) (N := 17) hx hb hts hinX2 hown hK hP 0 rfl rfl 5 (by decide) k2 (fun _ h9 => h9) rfl dX2_exchange_8 ?_
  refine lv_iload_n hx hb dX2_exchange_11 rfl (lv_at hl 2 rfl) ?_
  refine va_iald hx hb hK hP 2 0 rfl rfl (vp_in_nI (by omega) (by omega)) dX2_exchange_12 ?_
  rw [nI_clamp (n := i) (by omega)]
  refine lv_istore (lv' := [(4, .int (F i)), (3, .int (K i)), (0, .ref mo), (1, .int (nI i)), (2, .int (nI q))]) hx hb dX2_exchange_13 hl (by decide) rfl (fun ls hl => ?_)
  refine lv_aload_n hx hb dX2_exchange_15 rfl (lv_at hl 2 rfl) ?_
  refine va_get (D := (dC, dI)) (ci := 2) (v := .ref bS) (C := RX2) (T := TX2) (N := 17) hx hb hts hinX2 hown hK hP 0 rfl rfl 6 (by decide) k3 (fun _ h9 => h9) rfl dX2_exchange_16 ?_
  refine lv_iload_n hx hb dX2_exchange_19 rfl (lv_at hl 3 rfl) ?_
  refine va_iald hx hb hK hP 3 0 rfl rfl (vp_in_nI (by omega) (by omega)) dX2_exchange_20 ?_
  rw [nI_clamp (n := i) (by omega)]
  refine lv_istore (lv' := [(5, .int (S i)), (4, .int (F i)), (3, .int (K i)), (0, .ref mo), (1, .int (nI i)), (2, .int (nI q))]) hx hb dX2_exchange_21 hl (by decide) rfl (fun ls hl => ?_)
  refine lv_aload_n hx hb dX2_exchange_23 rfl (lv_at hl 3 rfl) ?_
  refine va_get (D := (dC, dI)) (ci := 2) (v := .ref bB) (C := RX2) (T := TX2) (N := 17) hx hb hts hinX2 hown hK hP 0 rfl rfl 7 (by decide) k4 (fun _ h9 => h9) rfl dX2_exchange_24 ?_
  refine lv_iload_n hx hb dX2_exchange_27 rfl (lv_at hl 4 rfl) ?_
  refine va_zald hx hb hK hP 4 1 rfl rfl (vp_in_nI (by omega) (by omega)) dX2_exchange_28 ?_
  rw [nI_clamp (n := i) (by omega)]
  refine lv_istore (lv' := [(6, .int (B i)), (5, .int (S i)), (4, .int (F i)), (3, .int (K i)), (0, .ref mo), (1, .int (nI i)), (2, .int (nI q))]) hx hb dX2_exchange_29 hl (by decide) rfl (fun ls hl => ?_)
  refine lv_aload_n hx hb dX2_exchange_31 rfl (lv_at hl 4 rfl) ?_
  refine va_get (D := (dC, dI)) (ci := 2) (v := .ref bK) (C := RX2) (T := TX2) (N := 17) hx hb hts hinX2 hown hK hP 0 rfl rfl 4 (by decide) k0 (fun _ h9 => h9) rfl dX2_exchange_32 ?_
  refine lv_iload_n hx hb dX2_exchange_35 rfl (lv_at hl 5 rfl) ?_
  refine lv_aload_n hx hb dX2_exchange_36 rfl (lv_at hl 4 rfl) ?_
  refine va_get (D := (dC, dI)) (ci := 2) (v := .ref bK) (C := RX2) (T := TX2) (N := 17) hx hb hts hinX2 hown hK hP 0 rfl rfl 4 (by decide) k0 (fun _ h9 => h9) rfl dX2_exchange_37 ?_
  refine lv_iload_n hx hb dX2_exchange_40 rfl (lv_at hl 6 rfl) ?_
  refine va_iald hx hb hK hP 1 0 rfl rfl (vp_in_nI (by omega) (by omega)) dX2_exchange_41 ?_
  rw [nI_clamp (n := q) (by omega)]
  refine va_iast hx hb hK hP hD hS 1 0 rfl rfl (vp_in_nI (by omega) (by omega)) dX2_exchange_42 (fun H_2 locs hP hD hS => ?_)
  have hP : va_P (dC, dI) vwCl [(mo, .inr (2, [.int tw, .ref bL, .ref bT, .int (nI n), .ref bK, .ref bF, .ref bS, .ref bB, .int co, .int pl, .int st, .int jo, .int cn, .int ii, .int fi, .int fe, .ref bU])), (bK, .inl (cI, 60, .inl (upd K ((nI i).toNatClampNeg) (K q)))), (bF, .inl (cI, 60, .inl F)), (bS, .inl (cI, 60, .inl S)), (bB, .inl (cZ, 60, .inl B)), (bL, .inl (cI, 4, .inl L)), (bT, .inl (cI, 4, .inl T)), (bU, .inl (cI, 6, .inl U))] H_2 := hP
  have hD : va_D A [(mo, .inr (2, [.int tw, .ref bL, .ref bT, .int (nI n), .ref bK, .ref bF, .ref bS, .ref bB, .int co, .int pl, .int st, .int jo, .int cn, .int ii, .int fi, .int fe, .ref bU])), (bK, .inl (cI, 60, .inl (upd K ((nI i).toNatClampNeg) (K q)))), (bF, .inl (cI, 60, .inl F)), (bS, .inl (cI, 60, .inl S)), (bB, .inl (cZ, 60, .inl B)), (bL, .inl (cI, 4, .inl L)), (bT, .inl (cI, 4, .inl T)), (bU, .inl (cI, 6, .inl U))] := hD
  rw [nI_clamp (by omega)] at hP hD
  have hP : va_P (dC, dI) vwCl [(mo, .inr (2, [.int tw, .ref bL, .ref bT, .int (nI n), .ref bK, .ref bF, .ref bS, .ref bB, .int co, .int pl, .int st, .int jo, .int cn, .int ii, .int fi, .int fe, .ref bU])), (bK, .inl (cI, 60, .inl (upd K (i) (K q)))), (bF, .inl (cI, 60, .inl F)), (bS, .inl (cI, 60, .inl S)), (bB, .inl (cZ, 60, .inl B)), (bL, .inl (cI, 4, .inl L)), (bT, .inl (cI, 4, .inl T)), (bU, .inl (cI, 6, .inl U))] H_2 := hP
  have hD : va_D A [(mo, .inr (2, [.int tw, .ref bL, .ref bT, .int (nI n), .ref bK, .ref bF, .ref bS, .ref bB, .int co, .int pl, .int st, .int jo, .int cn, .int ii, .int fi, .int fe, .ref bU])), (bK, .inl (cI, 60, .inl (upd K (i) (K q)))), (bF, .inl (cI, 60, .inl F)), (bS, .inl (cI, 60, .inl S)), (bB, .inl (cZ, 60, .inl B)), (bL, .inl (cI, 4, .inl L)), (bT, .inl (cI, 4, .inl T)), (bU, .inl (cI, 6, .inl U))] := hD
  refine lv_aload_n hx hb dX2_exchange_43 rfl (lv_at hl 4 rfl) ?_
  refine va_get (D := (dC, dI)) (ci := 2) (v := .ref bF) (C := RX2) (T := TX2) (N := 17) hx hb hts hinX2 hown hK hP 0 rfl rfl 5 (by decide) k2 (fun _ h9 => h9) rfl dX2_exchange_44 ?_
  refine lv_iload_n hx hb dX2_exchange_47 rfl (lv_at hl 5 rfl) ?_
  refine lv_aload_n hx hb dX2_exchange_48 rfl (lv_at hl 4 rfl) ?_
  refine va_get (D := (dC, dI)) (ci := 2) (v := .ref bF) (C := RX2) (T := TX2) (N := 17) hx hb hts hinX2 hown hK hP 0 rfl rfl 5 (by decide) k2 (fun _ h9 => h9) rfl dX2_exchange_49 ?_
  refine lv_iload_n hx hb dX2_exchange_52 rfl (lv_at hl 6 rfl) ?_
  refine va_iald hx hb hK hP 2 0 rfl rfl (vp_in_nI (by omega) (by omega)) dX2_exchange_53 ?_
  rw [nI_clamp (n := q) (by omega)]
  refine va_iast hx hb hK hP hD hS 2 0 rfl rfl (vp_in_nI (by omega) (by omega)) dX2_exchange_54 (fun H_4 locs hP hD hS => ?_)
  have hP : va_P (dC, dI) vwCl [(mo, .inr (2, [.int tw, .ref bL, .ref bT, .int (nI n), .ref bK, .ref bF, .ref bS, .ref bB, .int co, .int pl, .int st, .int jo, .int cn, .int ii, .int fi, .int fe, .ref bU])), (bK, .inl (cI, 60, .inl (upd K (i) (K q)))), (bF, .inl (cI, 60, .inl (upd F ((nI i).toNatClampNeg) (F q)))), (bS, .inl (cI, 60, .inl S)), (bB, .inl (cZ, 60, .inl B)), (bL, .inl (cI, 4, .inl L)), (bT, .inl (cI, 4, .inl T)), (bU, .inl (cI, 6, .inl U))] H_4 := hP
  have hD : va_D A [(mo, .inr (2, [.int tw, .ref bL, .ref bT, .int (nI n), .ref bK, .ref bF, .ref bS, .ref bB, .int co, .int pl, .int st, .int jo, .int cn, .int ii, .int fi, .int fe, .ref bU])), (bK, .inl (cI, 60, .inl (upd K (i) (K q)))), (bF, .inl (cI, 60, .inl (upd F ((nI i).toNatClampNeg) (F q)))), (bS, .inl (cI, 60, .inl S)), (bB, .inl (cZ, 60, .inl B)), (bL, .inl (cI, 4, .inl L)), (bT, .inl (cI, 4, .inl T)), (bU, .inl (cI, 6, .inl U))] := hD
  rw [nI_clamp (by omega)] at hP hD
  have hP : va_P (dC, dI) vwCl [(mo, .inr (2, [.int tw, .ref bL, .ref bT, .int (nI n), .ref bK, .ref bF, .ref bS, .ref bB, .int co, .int pl, .int st, .int jo, .int cn, .int ii, .int fi, .int fe, .ref bU])), (bK, .inl (cI, 60, .inl (upd K (i) (K q)))), (bF, .inl (cI, 60, .inl (upd F (i) (F q)))), (bS, .inl (cI, 60, .inl S)), (bB, .inl (cZ, 60, .inl B)), (bL, .inl (cI, 4, .inl L)), (bT, .inl (cI, 4, .inl T)), (bU, .inl (cI, 6, .inl U))] H_4 := hP
  have hD : va_D A [(mo, .inr (2, [.int tw, .ref bL, .ref bT, .int (nI n), .ref bK, .ref bF, .ref bS, .ref bB, .int co, .int pl, .int st, .int jo, .int cn, .int ii, .int fi, .int fe, .ref bU])), (bK, .inl (cI, 60, .inl (upd K (i) (K q)))), (bF, .inl (cI, 60, .inl (upd F (i) (F q)))), (bS, .inl (cI, 60, .inl S)), (bB, .inl (cZ, 60, .inl B)), (bL, .inl (cI, 4, .inl L)), (bT, .inl (cI, 4, .inl T)), (bU, .inl (cI, 6, .inl U))] := hD
  refine lv_aload_n hx hb dX2_exchange_55 rfl (lv_at hl 4 rfl) ?_
  refine va_get (D := (dC, dI)) (ci := 2) (v := .ref bS) (C := RX2) (T := TX2) (N := 17) hx hb hts hinX2 hown hK hP 0 rfl rfl 6 (by decide) k3 (fun _ h9 => h9) rfl dX2_exchange_56 ?_
  refine lv_iload_n hx hb dX2_exchange_59 rfl (lv_at hl 5 rfl) ?_
  refine lv_aload_n hx hb dX2_exchange_60 rfl (lv_at hl 4 rfl) ?_
  refine va_get (D := (dC, dI)) (ci := 2) (v := .ref bS) (C := RX2) (T := TX2) (N := 17) hx hb hts hinX2 hown hK hP 0 rfl rfl 6 (by decide) k3 (fun _ h9 => h9) rfl dX2_exchange_61 ?_
  refine lv_iload_n hx hb dX2_exchange_64 rfl (lv_at hl 6 rfl) ?_
  refine va_iald hx hb hK hP 3 0 rfl rfl (vp_in_nI (by omega) (by omega)) dX2_exchange_65 ?_
  rw [nI_clamp (n := q) (by omega)]
  refine va_iast hx hb hK hP hD hS 3 0 rfl rfl (vp_in_nI (by omega) (by omega)) dX2_exchange_66 (fun H_6 locs hP hD hS => ?_)
  have hP : va_P (dC, dI) vwCl [(mo, .inr (2, [.int tw, .ref bL, .ref bT, .int (nI n), .ref bK, .ref bF, .ref bS, .ref bB, .int co, .int pl, .int st, .int jo, .int cn, .int ii, .int fi, .int fe, .ref bU])), (bK, .inl (cI, 60, .inl (upd K (i) (K q)))), (bF, .inl (cI, 60, .inl (upd F (i) (F q)))), (bS, .inl (cI, 60, .inl (upd S ((nI i).toNatClampNeg) (S q)))), (bB, .inl (cZ, 60, .inl B)), (bL, .inl (cI, 4, .inl L)), (bT, .inl (cI, 4, .inl T)), (bU, .inl (cI, 6, .inl U))] H_6 := hP
  have hD : va_D A [(mo, .inr (2, [.int tw, .ref bL, .ref bT, .int (nI n), .ref bK, .ref bF, .ref bS, .ref bB, .int co, .int pl, .int st, .int jo, .int cn, .int ii, .int fi, .int fe, .ref bU])), (bK, .inl (cI, 60, .inl (upd K (i) (K q)))), (bF, .inl (cI, 60, .inl (upd F (i) (F q)))), (bS, .inl (cI, 60, .inl (upd S ((nI i).toNatClampNeg) (S q)))), (bB, .inl (cZ, 60, .inl B)), (bL, .inl (cI, 4, .inl L)), (bT, .inl (cI, 4, .inl T)), (bU, .inl (cI, 6, .inl U))] := hD
  rw [nI_clamp (by omega)] at hP hD
  have hP : va_P (dC, dI) vwCl [(mo, .inr (2, [.int tw, .ref bL, .ref bT, .int (nI n), .ref bK, .ref bF, .ref bS, .ref bB, .int co, .int pl, .int st, .int jo, .int cn, .int ii, .int fi, .int fe, .ref bU])), (bK, .inl (cI, 60, .inl (upd K (i) (K q)))), (bF, .inl (cI, 60, .inl (upd F (i) (F q)))), (bS, .inl (cI, 60, .inl (upd S (i) (S q)))), (bB, .inl (cZ, 60, .inl B)), (bL, .inl (cI, 4, .inl L)), (bT, .inl (cI, 4, .inl T)), (bU, .inl (cI, 6, .inl U))] H_6 := hP
  have hD : va_D A [(mo, .inr (2, [.int tw, .ref bL, .ref bT, .int (nI n), .ref bK, .ref bF, .ref bS, .ref bB, .int co, .int pl, .int st, .int jo, .int cn, .int ii, .int fi, .int fe, .ref bU])), (bK, .inl (cI, 60, .inl (upd K (i) (K q)))), (bF, .inl (cI, 60, .inl (upd F (i) (F q)))), (bS, .inl (cI, 60, .inl (upd S (i) (S q)))), (bB, .inl (cZ, 60, .inl B)), (bL, .inl (cI, 4, .inl L)), (bT, .inl (cI, 4, .inl T)), (bU, .inl (cI, 6, .inl U))] := hD
  refine lv_aload_n hx hb dX2_exchange_67 rfl (lv_at hl 4 rfl) ?_
  refine va_get (D := (dC, dI)) (ci := 2) (v := .ref bB) (C := RX2) (T := TX2) (N := 17) hx hb hts hinX2 hown hK hP 0 rfl rfl 7 (by decide) k4 (fun _ h9 => h9) rfl dX2_exchange_68 ?_
  refine lv_iload_n hx hb dX2_exchange_71 rfl (lv_at hl 5 rfl) ?_
  refine lv_aload_n hx hb dX2_exchange_72 rfl (lv_at hl 4 rfl) ?_
  refine va_get (D := (dC, dI)) (ci := 2) (v := .ref bB) (C := RX2) (T := TX2) (N := 17) hx hb hts hinX2 hown hK hP 0 rfl rfl 7 (by decide) k4 (fun _ h9 => h9) rfl dX2_exchange_73 ?_
  refine lv_iload_n hx hb dX2_exchange_76 rfl (lv_at hl 6 rfl) ?_
  refine va_zald hx hb hK hP 4 1 rfl rfl (vp_in_nI (by omega) (by omega)) dX2_exchange_77 ?_
  rw [nI_clamp (n := q) (by omega)]
  refine va_zast hx hb hK hP hD hS 4 1 rfl rfl (vp_in_nI (by omega) (by omega)) dX2_exchange_78 (fun H_8 locs hP hD hS => ?_)
  have hP : va_P (dC, dI) vwCl [(mo, .inr (2, [.int tw, .ref bL, .ref bT, .int (nI n), .ref bK, .ref bF, .ref bS, .ref bB, .int co, .int pl, .int st, .int jo, .int cn, .int ii, .int fi, .int fe, .ref bU])), (bK, .inl (cI, 60, .inl (upd K (i) (K q)))), (bF, .inl (cI, 60, .inl (upd F (i) (F q)))), (bS, .inl (cI, 60, .inl (upd S (i) (S q)))), (bB, .inl (cZ, 60, .inl (upd B ((nI i).toNatClampNeg) (vp_nar .boolean (B q))))), (bL, .inl (cI, 4, .inl L)), (bT, .inl (cI, 4, .inl T)), (bU, .inl (cI, 6, .inl U))] H_8 := hP
  have hD : va_D A [(mo, .inr (2, [.int tw, .ref bL, .ref bT, .int (nI n), .ref bK, .ref bF, .ref bS, .ref bB, .int co, .int pl, .int st, .int jo, .int cn, .int ii, .int fi, .int fe, .ref bU])), (bK, .inl (cI, 60, .inl (upd K (i) (K q)))), (bF, .inl (cI, 60, .inl (upd F (i) (F q)))), (bS, .inl (cI, 60, .inl (upd S (i) (S q)))), (bB, .inl (cZ, 60, .inl (upd B ((nI i).toNatClampNeg) (vp_nar .boolean (B q))))), (bL, .inl (cI, 4, .inl L)), (bT, .inl (cI, 4, .inl T)), (bU, .inl (cI, 6, .inl U))] := hD
  rw [nI_clamp (by omega)] at hP hD
  have hP : va_P (dC, dI) vwCl [(mo, .inr (2, [.int tw, .ref bL, .ref bT, .int (nI n), .ref bK, .ref bF, .ref bS, .ref bB, .int co, .int pl, .int st, .int jo, .int cn, .int ii, .int fi, .int fe, .ref bU])), (bK, .inl (cI, 60, .inl (upd K (i) (K q)))), (bF, .inl (cI, 60, .inl (upd F (i) (F q)))), (bS, .inl (cI, 60, .inl (upd S (i) (S q)))), (bB, .inl (cZ, 60, .inl (upd B (i) (vp_nar .boolean (B q))))), (bL, .inl (cI, 4, .inl L)), (bT, .inl (cI, 4, .inl T)), (bU, .inl (cI, 6, .inl U))] H_8 := hP
  have hD : va_D A [(mo, .inr (2, [.int tw, .ref bL, .ref bT, .int (nI n), .ref bK, .ref bF, .ref bS, .ref bB, .int co, .int pl, .int st, .int jo, .int cn, .int ii, .int fi, .int fe, .ref bU])), (bK, .inl (cI, 60, .inl (upd K (i) (K q)))), (bF, .inl (cI, 60, .inl (upd F (i) (F q)))), (bS, .inl (cI, 60, .inl (upd S (i) (S q)))), (bB, .inl (cZ, 60, .inl (upd B (i) (vp_nar .boolean (B q))))), (bL, .inl (cI, 4, .inl L)), (bT, .inl (cI, 4, .inl T)), (bU, .inl (cI, 6, .inl U))] := hD
  rw [vp_nb (hB _)] at hP hD
  have hP : va_P (dC, dI) vwCl [(mo, .inr (2, [.int tw, .ref bL, .ref bT, .int (nI n), .ref bK, .ref bF, .ref bS, .ref bB, .int co, .int pl, .int st, .int jo, .int cn, .int ii, .int fi, .int fe, .ref bU])), (bK, .inl (cI, 60, .inl (upd K (i) (K q)))), (bF, .inl (cI, 60, .inl (upd F (i) (F q)))), (bS, .inl (cI, 60, .inl (upd S (i) (S q)))), (bB, .inl (cZ, 60, .inl (upd B (i) (B q)))), (bL, .inl (cI, 4, .inl L)), (bT, .inl (cI, 4, .inl T)), (bU, .inl (cI, 6, .inl U))] H_8 := hP
  have hD : va_D A [(mo, .inr (2, [.int tw, .ref bL, .ref bT, .int (nI n), .ref bK, .ref bF, .ref bS, .ref bB, .int co, .int pl, .int st, .int jo, .int cn, .int ii, .int fi, .int fe, .ref bU])), (bK, .inl (cI, 60, .inl (upd K (i) (K q)))), (bF, .inl (cI, 60, .inl (upd F (i) (F q)))), (bS, .inl (cI, 60, .inl (upd S (i) (S q)))), (bB, .inl (cZ, 60, .inl (upd B (i) (B q)))), (bL, .inl (cI, 4, .inl L)), (bT, .inl (cI, 4, .inl T)), (bU, .inl (cI, 6, .inl U))] := hD
  refine lv_aload_n hx hb dX2_exchange_79 rfl (lv_at hl 4 rfl) ?_
  refine va_get (D := (dC, dI)) (ci := 2) (v := .ref bK) (C := RX2) (T := TX2) (N := 17) hx hb hts hinX2 hown hK hP 0 rfl rfl 4 (by decide) k0 (fun _ h9 => h9) rfl dX2_exchange_80 ?_
  refine lv_iload_n hx hb dX2_exchange_83 rfl (lv_at hl 6 rfl) ?_
  refine lv_iload_n hx hb dX2_exchange_84 rfl (lv_at hl 3 rfl) ?_
  refine va_iast hx hb hK hP hD hS 1 0 rfl rfl (vp_in_nI (by omega) (by omega)) dX2_exchange_85 (fun H_10 locs hP hD hS => ?_)
  have hP : va_P (dC, dI) vwCl [(mo, .inr (2, [.int tw, .ref bL, .ref bT, .int (nI n), .ref bK, .ref bF, .ref bS, .ref bB, .int co, .int pl, .int st, .int jo, .int cn, .int ii, .int fi, .int fe, .ref bU])), (bK, .inl (cI, 60, .inl (upd (upd K (i) (K q)) ((nI q).toNatClampNeg) (K i)))), (bF, .inl (cI, 60, .inl (upd F (i) (F q)))), (bS, .inl (cI, 60, .inl (upd S (i) (S q)))), (bB, .inl (cZ, 60, .inl (upd B (i) (B q)))), (bL, .inl (cI, 4, .inl L)), (bT, .inl (cI, 4, .inl T)), (bU, .inl (cI, 6, .inl U))] H_10 := hP
  have hD : va_D A [(mo, .inr (2, [.int tw, .ref bL, .ref bT, .int (nI n), .ref bK, .ref bF, .ref bS, .ref bB, .int co, .int pl, .int st, .int jo, .int cn, .int ii, .int fi, .int fe, .ref bU])), (bK, .inl (cI, 60, .inl (upd (upd K (i) (K q)) ((nI q).toNatClampNeg) (K i)))), (bF, .inl (cI, 60, .inl (upd F (i) (F q)))), (bS, .inl (cI, 60, .inl (upd S (i) (S q)))), (bB, .inl (cZ, 60, .inl (upd B (i) (B q)))), (bL, .inl (cI, 4, .inl L)), (bT, .inl (cI, 4, .inl T)), (bU, .inl (cI, 6, .inl U))] := hD
  rw [nI_clamp (by omega)] at hP hD
  have hP : va_P (dC, dI) vwCl [(mo, .inr (2, [.int tw, .ref bL, .ref bT, .int (nI n), .ref bK, .ref bF, .ref bS, .ref bB, .int co, .int pl, .int st, .int jo, .int cn, .int ii, .int fi, .int fe, .ref bU])), (bK, .inl (cI, 60, .inl (upd (upd K (i) (K q)) (q) (K i)))), (bF, .inl (cI, 60, .inl (upd F (i) (F q)))), (bS, .inl (cI, 60, .inl (upd S (i) (S q)))), (bB, .inl (cZ, 60, .inl (upd B (i) (B q)))), (bL, .inl (cI, 4, .inl L)), (bT, .inl (cI, 4, .inl T)), (bU, .inl (cI, 6, .inl U))] H_10 := hP
  have hD : va_D A [(mo, .inr (2, [.int tw, .ref bL, .ref bT, .int (nI n), .ref bK, .ref bF, .ref bS, .ref bB, .int co, .int pl, .int st, .int jo, .int cn, .int ii, .int fi, .int fe, .ref bU])), (bK, .inl (cI, 60, .inl (upd (upd K (i) (K q)) (q) (K i)))), (bF, .inl (cI, 60, .inl (upd F (i) (F q)))), (bS, .inl (cI, 60, .inl (upd S (i) (S q)))), (bB, .inl (cZ, 60, .inl (upd B (i) (B q)))), (bL, .inl (cI, 4, .inl L)), (bT, .inl (cI, 4, .inl T)), (bU, .inl (cI, 6, .inl U))] := hD
  refine lv_aload_n hx hb dX2_exchange_86 rfl (lv_at hl 4 rfl) ?_
  refine va_get (D := (dC, dI)) (ci := 2) (v := .ref bF) (C := RX2) (T := TX2) (N := 17) hx hb hts hinX2 hown hK hP 0 rfl rfl 5 (by decide) k2 (fun _ h9 => h9) rfl dX2_exchange_87 ?_
  refine lv_iload_n hx hb dX2_exchange_90 rfl (lv_at hl 6 rfl) ?_
  refine lv_iload hx hb dX2_exchange_91 (lv_at hl 2 rfl) ?_
  refine va_iast hx hb hK hP hD hS 2 0 rfl rfl (vp_in_nI (by omega) (by omega)) dX2_exchange_93 (fun H_12 locs hP hD hS => ?_)
  have hP : va_P (dC, dI) vwCl [(mo, .inr (2, [.int tw, .ref bL, .ref bT, .int (nI n), .ref bK, .ref bF, .ref bS, .ref bB, .int co, .int pl, .int st, .int jo, .int cn, .int ii, .int fi, .int fe, .ref bU])), (bK, .inl (cI, 60, .inl (upd (upd K (i) (K q)) (q) (K i)))), (bF, .inl (cI, 60, .inl (upd (upd F (i) (F q)) ((nI q).toNatClampNeg) (F i)))), (bS, .inl (cI, 60, .inl (upd S (i) (S q)))), (bB, .inl (cZ, 60, .inl (upd B (i) (B q)))), (bL, .inl (cI, 4, .inl L)), (bT, .inl (cI, 4, .inl T)), (bU, .inl (cI, 6, .inl U))] H_12 := hP
  have hD : va_D A [(mo, .inr (2, [.int tw, .ref bL, .ref bT, .int (nI n), .ref bK, .ref bF, .ref bS, .ref bB, .int co, .int pl, .int st, .int jo, .int cn, .int ii, .int fi, .int fe, .ref bU])), (bK, .inl (cI, 60, .inl (upd (upd K (i) (K q)) (q) (K i)))), (bF, .inl (cI, 60, .inl (upd (upd F (i) (F q)) ((nI q).toNatClampNeg) (F i)))), (bS, .inl (cI, 60, .inl (upd S (i) (S q)))), (bB, .inl (cZ, 60, .inl (upd B (i) (B q)))), (bL, .inl (cI, 4, .inl L)), (bT, .inl (cI, 4, .inl T)), (bU, .inl (cI, 6, .inl U))] := hD
  rw [nI_clamp (by omega)] at hP hD
  have hP : va_P (dC, dI) vwCl [(mo, .inr (2, [.int tw, .ref bL, .ref bT, .int (nI n), .ref bK, .ref bF, .ref bS, .ref bB, .int co, .int pl, .int st, .int jo, .int cn, .int ii, .int fi, .int fe, .ref bU])), (bK, .inl (cI, 60, .inl (upd (upd K (i) (K q)) (q) (K i)))), (bF, .inl (cI, 60, .inl (upd (upd F (i) (F q)) (q) (F i)))), (bS, .inl (cI, 60, .inl (upd S (i) (S q)))), (bB, .inl (cZ, 60, .inl (upd B (i) (B q)))), (bL, .inl (cI, 4, .inl L)), (bT, .inl (cI, 4, .inl T)), (bU, .inl (cI, 6, .inl U))] H_12 := hP
  have hD : va_D A [(mo, .inr (2, [.int tw, .ref bL, .ref bT, .int (nI n), .ref bK, .ref bF, .ref bS, .ref bB, .int co, .int pl, .int st, .int jo, .int cn, .int ii, .int fi, .int fe, .ref bU])), (bK, .inl (cI, 60, .inl (upd (upd K (i) (K q)) (q) (K i)))), (bF, .inl (cI, 60, .inl (upd (upd F (i) (F q)) (q) (F i)))), (bS, .inl (cI, 60, .inl (upd S (i) (S q)))), (bB, .inl (cZ, 60, .inl (upd B (i) (B q)))), (bL, .inl (cI, 4, .inl L)), (bT, .inl (cI, 4, .inl T)), (bU, .inl (cI, 6, .inl U))] := hD
  refine lv_aload_n hx hb dX2_exchange_94 rfl (lv_at hl 4 rfl) ?_
  refine va_get (D := (dC, dI)) (ci := 2) (v := .ref bS) (C := RX2) (T := TX2) (N := 17) hx hb hts hinX2 hown hK hP 0 rfl rfl 6 (by decide) k3 (fun _ h9 => h9) rfl dX2_exchange_95 ?_
  refine lv_iload_n hx hb dX2_exchange_98 rfl (lv_at hl 6 rfl) ?_
  refine lv_iload hx hb dX2_exchange_99 (lv_at hl 1 rfl) ?_
  refine va_iast hx hb hK hP hD hS 3 0 rfl rfl (vp_in_nI (by omega) (by omega)) dX2_exchange_101 (fun H_14 locs hP hD hS => ?_)
  have hP : va_P (dC, dI) vwCl [(mo, .inr (2, [.int tw, .ref bL, .ref bT, .int (nI n), .ref bK, .ref bF, .ref bS, .ref bB, .int co, .int pl, .int st, .int jo, .int cn, .int ii, .int fi, .int fe, .ref bU])), (bK, .inl (cI, 60, .inl (upd (upd K (i) (K q)) (q) (K i)))), (bF, .inl (cI, 60, .inl (upd (upd F (i) (F q)) (q) (F i)))), (bS, .inl (cI, 60, .inl (upd (upd S (i) (S q)) ((nI q).toNatClampNeg) (S i)))), (bB, .inl (cZ, 60, .inl (upd B (i) (B q)))), (bL, .inl (cI, 4, .inl L)), (bT, .inl (cI, 4, .inl T)), (bU, .inl (cI, 6, .inl U))] H_14 := hP
  have hD : va_D A [(mo, .inr (2, [.int tw, .ref bL, .ref bT, .int (nI n), .ref bK, .ref bF, .ref bS, .ref bB, .int co, .int pl, .int st, .int jo, .int cn, .int ii, .int fi, .int fe, .ref bU])), (bK, .inl (cI, 60, .inl (upd (upd K (i) (K q)) (q) (K i)))), (bF, .inl (cI, 60, .inl (upd (upd F (i) (F q)) (q) (F i)))), (bS, .inl (cI, 60, .inl (upd (upd S (i) (S q)) ((nI q).toNatClampNeg) (S i)))), (bB, .inl (cZ, 60, .inl (upd B (i) (B q)))), (bL, .inl (cI, 4, .inl L)), (bT, .inl (cI, 4, .inl T)), (bU, .inl (cI, 6, .inl U))] := hD
  rw [nI_clamp (by omega)] at hP hD
  have hP : va_P (dC, dI) vwCl [(mo, .inr (2, [.int tw, .ref bL, .ref bT, .int (nI n), .ref bK, .ref bF, .ref bS, .ref bB, .int co, .int pl, .int st, .int jo, .int cn, .int ii, .int fi, .int fe, .ref bU])), (bK, .inl (cI, 60, .inl (upd (upd K (i) (K q)) (q) (K i)))), (bF, .inl (cI, 60, .inl (upd (upd F (i) (F q)) (q) (F i)))), (bS, .inl (cI, 60, .inl (upd (upd S (i) (S q)) (q) (S i)))), (bB, .inl (cZ, 60, .inl (upd B (i) (B q)))), (bL, .inl (cI, 4, .inl L)), (bT, .inl (cI, 4, .inl T)), (bU, .inl (cI, 6, .inl U))] H_14 := hP
  have hD : va_D A [(mo, .inr (2, [.int tw, .ref bL, .ref bT, .int (nI n), .ref bK, .ref bF, .ref bS, .ref bB, .int co, .int pl, .int st, .int jo, .int cn, .int ii, .int fi, .int fe, .ref bU])), (bK, .inl (cI, 60, .inl (upd (upd K (i) (K q)) (q) (K i)))), (bF, .inl (cI, 60, .inl (upd (upd F (i) (F q)) (q) (F i)))), (bS, .inl (cI, 60, .inl (upd (upd S (i) (S q)) (q) (S i)))), (bB, .inl (cZ, 60, .inl (upd B (i) (B q)))), (bL, .inl (cI, 4, .inl L)), (bT, .inl (cI, 4, .inl T)), (bU, .inl (cI, 6, .inl U))] := hD
  refine lv_aload_n hx hb dX2_exchange_102 rfl (lv_at hl 4 rfl) ?_
  refine va_get (D := (dC, dI)) (ci := 2) (v := .ref bB) (C := RX2) (T := TX2) (N := 17) hx hb hts hinX2 hown hK hP 0 rfl rfl 7 (by decide) k4 (fun _ h9 => h9) rfl dX2_exchange_103 ?_
  refine lv_iload_n hx hb dX2_exchange_106 rfl (lv_at hl 6 rfl) ?_
  refine lv_iload hx hb dX2_exchange_107 (lv_at hl 0 rfl) ?_
  refine va_zast hx hb hK hP hD hS 4 1 rfl rfl (vp_in_nI (by omega) (by omega)) dX2_exchange_109 (fun H_16 locs hP hD hS => ?_)
  have hP : va_P (dC, dI) vwCl [(mo, .inr (2, [.int tw, .ref bL, .ref bT, .int (nI n), .ref bK, .ref bF, .ref bS, .ref bB, .int co, .int pl, .int st, .int jo, .int cn, .int ii, .int fi, .int fe, .ref bU])), (bK, .inl (cI, 60, .inl (upd (upd K (i) (K q)) (q) (K i)))), (bF, .inl (cI, 60, .inl (upd (upd F (i) (F q)) (q) (F i)))), (bS, .inl (cI, 60, .inl (upd (upd S (i) (S q)) (q) (S i)))), (bB, .inl (cZ, 60, .inl (upd (upd B (i) (B q)) ((nI q).toNatClampNeg) (vp_nar .boolean (B i))))), (bL, .inl (cI, 4, .inl L)), (bT, .inl (cI, 4, .inl T)), (bU, .inl (cI, 6, .inl U))] H_16 := hP
  have hD : va_D A [(mo, .inr (2, [.int tw, .ref bL, .ref bT, .int (nI n), .ref bK, .ref bF, .ref bS, .ref bB, .int co, .int pl, .int st, .int jo, .int cn, .int ii, .int fi, .int fe, .ref bU])), (bK, .inl (cI, 60, .inl (upd (upd K (i) (K q)) (q) (K i)))), (bF, .inl (cI, 60, .inl (upd (upd F (i) (F q)) (q) (F i)))), (bS, .inl (cI, 60, .inl (upd (upd S (i) (S q)) (q) (S i)))), (bB, .inl (cZ, 60, .inl (upd (upd B (i) (B q)) ((nI q).toNatClampNeg) (vp_nar .boolean (B i))))), (bL, .inl (cI, 4, .inl L)), (bT, .inl (cI, 4, .inl T)), (bU, .inl (cI, 6, .inl U))] := hD
  rw [nI_clamp (by omega)] at hP hD
  have hP : va_P (dC, dI) vwCl [(mo, .inr (2, [.int tw, .ref bL, .ref bT, .int (nI n), .ref bK, .ref bF, .ref bS, .ref bB, .int co, .int pl, .int st, .int jo, .int cn, .int ii, .int fi, .int fe, .ref bU])), (bK, .inl (cI, 60, .inl (upd (upd K (i) (K q)) (q) (K i)))), (bF, .inl (cI, 60, .inl (upd (upd F (i) (F q)) (q) (F i)))), (bS, .inl (cI, 60, .inl (upd (upd S (i) (S q)) (q) (S i)))), (bB, .inl (cZ, 60, .inl (upd (upd B (i) (B q)) (q) (vp_nar .boolean (B i))))), (bL, .inl (cI, 4, .inl L)), (bT, .inl (cI, 4, .inl T)), (bU, .inl (cI, 6, .inl U))] H_16 := hP
  have hD : va_D A [(mo, .inr (2, [.int tw, .ref bL, .ref bT, .int (nI n), .ref bK, .ref bF, .ref bS, .ref bB, .int co, .int pl, .int st, .int jo, .int cn, .int ii, .int fi, .int fe, .ref bU])), (bK, .inl (cI, 60, .inl (upd (upd K (i) (K q)) (q) (K i)))), (bF, .inl (cI, 60, .inl (upd (upd F (i) (F q)) (q) (F i)))), (bS, .inl (cI, 60, .inl (upd (upd S (i) (S q)) (q) (S i)))), (bB, .inl (cZ, 60, .inl (upd (upd B (i) (B q)) (q) (vp_nar .boolean (B i))))), (bL, .inl (cI, 4, .inl L)), (bT, .inl (cI, 4, .inl T)), (bU, .inl (cI, 6, .inl U))] := hD
  rw [vp_nb (hB _)] at hP hD
  have hP : va_P (dC, dI) vwCl [(mo, .inr (2, [.int tw, .ref bL, .ref bT, .int (nI n), .ref bK, .ref bF, .ref bS, .ref bB, .int co, .int pl, .int st, .int jo, .int cn, .int ii, .int fi, .int fe, .ref bU])), (bK, .inl (cI, 60, .inl (upd (upd K (i) (K q)) (q) (K i)))), (bF, .inl (cI, 60, .inl (upd (upd F (i) (F q)) (q) (F i)))), (bS, .inl (cI, 60, .inl (upd (upd S (i) (S q)) (q) (S i)))), (bB, .inl (cZ, 60, .inl (upd (upd B (i) (B q)) (q) (B i)))), (bL, .inl (cI, 4, .inl L)), (bT, .inl (cI, 4, .inl T)), (bU, .inl (cI, 6, .inl U))] H_16 := hP
  have hD : va_D A [(mo, .inr (2, [.int tw, .ref bL, .ref bT, .int (nI n), .ref bK, .ref bF, .ref bS, .ref bB, .int co, .int pl, .int st, .int jo, .int cn, .int ii, .int fi, .int fe, .ref bU])), (bK, .inl (cI, 60, .inl (upd (upd K (i) (K q)) (q) (K i)))), (bF, .inl (cI, 60, .inl (upd (upd F (i) (F q)) (q) (F i)))), (bS, .inl (cI, 60, .inl (upd (upd S (i) (S q)) (q) (S i)))), (bB, .inl (cZ, 60, .inl (upd (upd B (i) (B q)) (q) (B i)))), (bL, .inl (cI, 4, .inl L)), (bT, .inl (cI, 4, .inl T)), (bU, .inl (cI, 6, .inl U))] := hD
  have hpost : True := by
    trivial
  have hP9 := hP.sub (ws' := [(mo, .inr (2, [.int tw, .ref bL, .ref bT, .int (nI n), .ref bK, .ref bF, .ref bS, .ref bB, .int co, .int pl, .int st, .int jo, .int cn, .int ii, .int fi, .int fe, .ref bU])), (bK, .inl (cI, 60, .inl (upd (upd K (i) (K q)) (q) (K i)))), (bF, .inl (cI, 60, .inl (upd (upd F (i) (F q)) (q) (F i)))), (bS, .inl (cI, 60, .inl (upd (upd S (i) (S q)) (q) (S i)))), (bB, .inl (cZ, 60, .inl (upd (upd B (i) (B q)) (q) (B i)))), (bL, .inl (cI, 4, .inl L)), (bT, .inl (cI, 4, .inl T)), (bU, .inl (cI, 6, .inl U))]) [0, 1, 2, 3, 4, 5, 6, 7] rfl
  have hD9 := hD.sub (ws' := [(mo, .inr (2, [.int tw, .ref bL, .ref bT, .int (nI n), .ref bK, .ref bF, .ref bS, .ref bB, .int co, .int pl, .int st, .int jo, .int cn, .int ii, .int fi, .int fe, .ref bU])), (bK, .inl (cI, 60, .inl (upd (upd K (i) (K q)) (q) (K i)))), (bF, .inl (cI, 60, .inl (upd (upd F (i) (F q)) (q) (F i)))), (bS, .inl (cI, 60, .inl (upd (upd S (i) (S q)) (q) (S i)))), (bB, .inl (cZ, 60, .inl (upd (upd B (i) (B q)) (q) (B i)))), (bL, .inl (cI, 4, .inl L)), (bT, .inl (cI, 4, .inl T)), (bU, .inl (cI, 6, .inl U))]) [0, 1, 2, 3, 4, 5, 6, 7] (by decide) rfl
  exact W.vret hx hb hr (fun t ht hW => ⟨⟨(), rfl, hpost, by rw [ht]; exact hP9, hD9⟩, hS.F ht⟩) hS.2.2 dX2_exchange_110

set_option maxHeartbeats 4000000 in
set_option maxRecDepth 100000 in
theorem c_X2_shift (l : Launch) (dC : Nat → ClassId) (dI : Nat → Nat → Nat) (cI cZ : ClassId) (mo bK bF bS bB bL bT bU : Nat) (sz : Nat) (L : N2I) (T : N2I) (K : N2I) (F : N2I) (S : N2I) (B : N2I) (U : N2I) (n : Nat) (tw : Int32) (co : Int32) (pl : Int32) (st : Int32) (jo : Int32) (cn : Int32) (ii : Int32) (fi : Int32) (fe : Int32) (i : Nat) (q : Nat) (hX : okX K F S B n) (hi : i < n) (hq : q < n) : Met l yX2_shift wsX2_shift ({ frames := 2, cells := 0, slots := 0, locals := 43 } : Room) (va_Pc [.ref mo, .int (nI i), .int (nI q)] (pc_ (dC, dI) [(cI, .int), (cZ, .boolean)] [(mo, .inr (2, [.int tw, .ref bL, .ref bT, .int (nI n), .ref bK, .ref bF, .ref bS, .ref bB, .int co, .int pl, .int st, .int jo, .int cn, .int ii, .int fi, .int fe, .ref bU])), (bK, .inl (cI, 60, .inl K)), (bF, .inl (cI, 60, .inl F)), (bS, .inl (cI, 60, .inl S)), (bB, .inl (cZ, 60, .inl B)), (bL, .inl (cI, 4, .inl L)), (bT, .inl (cI, 4, .inl T)), (bU, .inl (cI, 6, .inl U))] sz)) (va_Qi (fun (r : Int32) (u : Unit) => r = K i) (fun (u : Unit) (t : State) => va_P (dC, dI) vwCl [(mo, .inr (2, [.int 0, .ref bL, .ref bT, .int (nI n), .ref bK, .ref bF, .ref bS, .ref bB, .int co, .int pl, .int st, .int jo, .int cn, .int ii, .int fi, .int fe, .ref bU])), (bK, .inl (cI, 60, .inl (mvS K i q))), (bF, .inl (cI, 60, .inl (mvS F i q))), (bS, .inl (cI, 60, .inl (mvS S i q))), (bB, .inl (cZ, 60, .inl (mvS B i q))), (bL, .inl (cI, 4, .inl L)), (bT, .inl (cI, 4, .inl T)), (bU, .inl (cI, 6, .inl U))] t.heap ∧ va_D (va_A [(mo, .inr (2, [.int tw, .ref bL, .ref bT, .int (nI n), .ref bK, .ref bF, .ref bS, .ref bB, .int co, .int pl, .int st, .int jo, .int cn, .int ii, .int fi, .int fe, .ref bU])), (bK, .inl (cI, 60, .inl K)), (bF, .inl (cI, 60, .inl F)), (bS, .inl (cI, 60, .inl S)), (bB, .inl (cZ, 60, .inl B)), (bL, .inl (cI, 4, .inl L)), (bT, .inl (cI, 4, .inl T)), (bU, .inl (cI, 6, .inl U))] sz) [(mo, .inr (2, [.int 0, .ref bL, .ref bT, .int (nI n), .ref bK, .ref bF, .ref bS, .ref bB, .int co, .int pl, .int st, .int jo, .int cn, .int ii, .int fi, .int fe, .ref bU])), (bK, .inl (cI, 60, .inl (mvS K i q))), (bF, .inl (cI, 60, .inl (mvS F i q))), (bS, .inl (cI, 60, .inl (mvS S i q))), (bB, .inl (cZ, 60, .inl (mvS B i q))), (bL, .inl (cI, 4, .inl L)), (bT, .inl (cI, 4, .inl T)), (bU, .inl (cI, 6, .inl U))]) (va_A [(mo, .inr (2, [.int tw, .ref bL, .ref bT, .int (nI n), .ref bK, .ref bF, .ref bS, .ref bB, .int co, .int pl, .int st, .int jo, .int cn, .int ii, .int fi, .int fe, .ref bU])), (bK, .inl (cI, 60, .inl K)), (bF, .inl (cI, 60, .inl F)), (bS, .inl (cI, 60, .inl S)), (bB, .inl (cZ, 60, .inl B)), (bL, .inl (cI, 4, .inl L)), (bT, .inl (cI, 4, .inl T)), (bU, .inl (cI, 6, .inl U))] sz)) 0 0 (va_A [(mo, .inr (2, [.int tw, .ref bL, .ref bT, .int (nI n), .ref bK, .ref bF, .ref bS, .ref bB, .int co, .int pl, .int st, .int jo, .int cn, .int ii, .int fi, .int fe, .ref bU])), (bK, .inl (cI, 60, .inl K)), (bF, .inl (cI, 60, .inl F)), (bS, .inl (cI, 60, .inl S)), (bB, .inl (cZ, 60, .inl B)), (bL, .inl (cI, 4, .inl L)), (bT, .inl (cI, 4, .inl T)), (bU, .inl (cI, 6, .inl U))] sz) := by
  refine Met.ofW (cc := cX2_shift) (maxL := 4) (ret := (some .int)) (by decide) rfl ?_
  intro p e s m args below meth c s₁ BB hml hv
  obtain ⟨rfl, hsz, hP, hK, hD0⟩ := hv
  have hx := BB.exec
  have hb := BB.bytes
  have hr := BB.returns
  have hts := atoms_spec (ws := wsX2_shift) BB.pre
  have hown : s.vm.findClass RX2 = some m.cls := findClass_of_methodNamed BB.named
  have hlocks := BB.notSynchronized
  subst hsz
  have hD := hD0.self (sz := s.heap.size)
  generalize hAe : va_A [(mo, .inr (2, [.int tw, .ref bL, .ref bT, .int (nI n), .ref bK, .ref bF, .ref bS, .ref bB, .int co, .int pl, .int st, .int jo, .int cn, .int ii, .int fi, .int fe, .ref bU])), (bK, .inl (cI, 60, .inl K)), (bF, .inl (cI, 60, .inl F)), (bS, .inl (cI, 60, .inl S)), (bB, .inl (cZ, 60, .inl B)), (bL, .inl (cI, 4, .inl L)), (bT, .inl (cI, 4, .inl T)), (bU, .inl (cI, 6, .inl U))] s.heap.size = A at hD ⊢
  have hA : ∀ q : Nat, s.heap.size ≤ q → A q := fun q h => by rw [← hAe]; exact Or.inr h
  have hS : va_S A s.heap s.heap [] := va_S.rf
  have hP : va_P (dC, dI) vwCl [(mo, .inr (2, [.int tw, .ref bL, .ref bT, .int (nI n), .ref bK, .ref bF, .ref bS, .ref bB, .int co, .int pl, .int st, .int jo, .int cn, .int ii, .int fi, .int fe, .ref bU])), (bK, .inl (cI, 60, .inl K)), (bF, .inl (cI, 60, .inl F)), (bS, .inl (cI, 60, .inl S)), (bB, .inl (cZ, 60, .inl B)), (bL, .inl (cI, 4, .inl L)), (bT, .inl (cI, 4, .inl T)), (bU, .inl (cI, 6, .inl U))] s.heap := hP
  have hl := lv_entry ([.ref mo, .int (nI i), .int (nI q)]) (n := 4) (Nat.le_of_ble_eq_true rfl)
  rw [lg_entry_eq]
  generalize (lg_sl ([.ref mo, .int (nI i), .int (nI q)]) ++ List.replicate (4 - (lg_sl ([.ref mo, .int (nI i), .int (nI q)])).length) Slot.unset).toArray = ls at hl ⊢
  have hl : lv_has ls 4 [(0, .ref mo), (1, .int (nI i)), (2, .int (nI q))] := hl
  have k0 := hts (.fieldLink RX2 32 "KnifeLedgerModel" "thrown" "I") (by decide +kernel)
  have hinX2 : ∀ w ∈ wsX20, w ∈ wsX2_shift := by decide +kernel
  have k2 := hts (.fieldLink RX2 16 "KnifeLedgerModel" "kinds" "[I") (by decide +kernel)
  have hn6 : n ≤ 60 := hX.1
  refine lv_aload_n hx hb dX2_shift_0 rfl (lv_at hl 0 rfl) ?_
  refine lv_iconst (v := 0) hx hb dX2_shift_1 (by decide) ?_
  refine va_put (D := (dC, dI)) (ci := 2) (v := .int 0) (ty := .int) (C := RX2) (T := TX2) (N := 17) hx hb hts hinX2 tyX2 tyX2_ok nmX2 hown hK hP hD hS 0 rfl rfl 0 (by decide) k0 (fun _ h9 => h9) rfl (by decide +kernel) rfl rfl (Nat.le_of_ble_eq_true rfl) dX2_shift_2 (fun H_1 locs hP hD hS => ?_)
  have hP : va_P (dC, dI) vwCl [(mo, .inr (2, [.int 0, .ref bL, .ref bT, .int (nI n), .ref bK, .ref bF, .ref bS, .ref bB, .int co, .int pl, .int st, .int jo, .int cn, .int ii, .int fi, .int fe, .ref bU])), (bK, .inl (cI, 60, .inl K)), (bF, .inl (cI, 60, .inl F)), (bS, .inl (cI, 60, .inl S)), (bB, .inl (cZ, 60, .inl B)), (bL, .inl (cI, 4, .inl L)), (bT, .inl (cI, 4, .inl T)), (bU, .inl (cI, 6, .inl U))] H_1 := hP
  have hD : va_D A [(mo, .inr (2, [.int 0, .ref bL, .ref bT, .int (nI n), .ref bK, .ref bF, .ref bS, .ref bB, .int co, .int pl, .int st, .int jo, .int cn, .int ii, .int fi, .int fe, .ref bU])), (bK, .inl (cI, 60, .inl K)), (bF, .inl (cI, 60, .inl F)), (bS, .inl (cI, 60, .inl S)), (bB, .inl (cZ, 60, .inl B)), (bL, .inl (cI, 4, .inl L)), (bT, .inl (cI, 4, .inl T)), (bU, .inl (cI, 6, .inl U))] := hD
  refine lv_aload_n hx hb dX2_shift_5 rfl (lv_at hl 0 rfl) ?_
  refine lv_iload_n hx hb dX2_shift_6 rfl (lv_at hl 1 rfl) ?_
  have hPc := hP.sub (ws' := [(mo, .inr (2, [.int 0, .ref bL, .ref bT, .int (nI n), .ref bK, .ref bF, .ref bS, .ref bB, .int co, .int pl, .int st, .int jo, .int cn, .int ii, .int fi, .int fe, .ref bU])), (bK, .inl (cI, 60, .inl K)), (bF, .inl (cI, 60, .inl F)), (bS, .inl (cI, 60, .inl S)), (bB, .inl (cZ, 60, .inl B)), (bL, .inl (cI, 4, .inl L)), (bT, .inl (cI, 4, .inl T)), (bU, .inl (cI, 6, .inl U))]) [0, 1, 2, 3, 4, 5, 6, 7] rfl
  have hDc := hD.sub (ws' := [(mo, .inr (2, [.int 0, .ref bL, .ref bT, .int (nI n), .ref bK, .ref bF, .ref bS, .ref bB, .int co, .int pl, .int st, .int jo, .int cn, .int ii, .int fi, .int fe, .ref bU])), (bK, .inl (cI, 60, .inl K)), (bF, .inl (cI, 60, .inl F)), (bS, .inl (cI, 60, .inl S)), (bB, .inl (cZ, 60, .inl B)), (bL, .inl (cI, 4, .inl L)), (bT, .inl (cI, 4, .inl T)), (bU, .inl (cI, 6, .inl U))]) [0, 1, 2, 3, 4, 5, 6, 7] (by decide) rfl
  have hKc := hK.sub (tys' := [(cI, .int), (cZ, .boolean)]) [0, 1] rfl
  have hFc := va_free (wc := [(mo, .inr (2, [.int 0, .ref bL, .ref bT, .int (nI n), .ref bK, .ref bF, .ref bS, .ref bB, .int co, .int pl, .int st, .int jo, .int cn, .int ii, .int fi, .int fe, .ref bU])), (bK, .inl (cI, 60, .inl K)), (bF, .inl (cI, 60, .inl F)), (bS, .inl (cI, 60, .inl S)), (bB, .inl (cZ, 60, .inl B)), (bL, .inl (cI, 4, .inl L)), (bT, .inl (cI, 4, .inl T)), (bU, .inl (cI, 6, .inl U))]) hD hS hA [0, 1, 2, 3, 4, 5, 6, 7] rfl
  refine va_calli (va_runV (As := [.int (nI i)]) (rest := []) ⟨hx, hb, hml, hown, hts⟩ (c_X2_isEntry l dC dI cI cZ mo bK bF bS bB bL bT bU H_1.size L T K F S B U n 0 co pl st jo cn ii fi fe (nI i)) (cwV 1 hts gX2_shift_X2_isEntry rfl rfl rfl (by decide +kernel) ⟨Nat.le_of_ble_eq_true rfl, Nat.le_of_ble_eq_true rfl⟩) (pc_V hKc hPc hDc (ci := 2) (C := RX2) (T := TX2) (N := 17) (q0 := 0) rfl rfl) rfl rfl hl.1 rfl (lv_room (Nat.le_of_ble_eq_true rfl)) dX2_shift_7 ⟨Nat.le_of_ble_eq_true rfl, Nat.le_of_ble_eq_true rfl⟩) hS (fun q _ h => hFc q h) hFc (fun r_2 u t H_2 locs ht hvm hw hB hz1 hk1 hS => ?_)
  try dsimp only at hw hB
  have hw_2 := hw
  replace hw_2 := hw_2.symm
  subst hw_2
  obtain ⟨hP1, hD1⟩ := hB
  rw [ht] at hP1
  obtain ⟨hP, hD⟩ := va_join (wr := []) (w1 := [(mo, .inr (2, [.int 0, .ref bL, .ref bT, .int (nI n), .ref bK, .ref bF, .ref bS, .ref bB, .int co, .int pl, .int st, .int jo, .int cn, .int ii, .int fi, .int fe, .ref bU])), (bK, .inl (cI, 60, .inl K)), (bF, .inl (cI, 60, .inl F)), (bS, .inl (cI, 60, .inl S)), (bB, .inl (cZ, 60, .inl B)), (bL, .inl (cI, 4, .inl L)), (bT, .inl (cI, 4, .inl T)), (bU, .inl (cI, 6, .inl U))]) hP hD [0, 1, 2, 3, 4, 5, 6, 7] [] rfl rfl (by decide) (by decide) hk1 hFc hP1 hD1
  have hP : va_P (dC, dI) vwCl [(mo, .inr (2, [.int 0, .ref bL, .ref bT, .int (nI n), .ref bK, .ref bF, .ref bS, .ref bB, .int co, .int pl, .int st, .int jo, .int cn, .int ii, .int fi, .int fe, .ref bU])), (bK, .inl (cI, 60, .inl K)), (bF, .inl (cI, 60, .inl F)), (bS, .inl (cI, 60, .inl S)), (bB, .inl (cZ, 60, .inl B)), (bL, .inl (cI, 4, .inl L)), (bT, .inl (cI, 4, .inl T)), (bU, .inl (cI, 6, .inl U))] H_2 := hP
  have hD : va_D A [(mo, .inr (2, [.int 0, .ref bL, .ref bT, .int (nI n), .ref bK, .ref bF, .ref bS, .ref bB, .int co, .int pl, .int st, .int jo, .int cn, .int ii, .int fi, .int fe, .ref bU])), (bK, .inl (cI, 60, .inl K)), (bF, .inl (cI, 60, .inl F)), (bS, .inl (cI, 60, .inl S)), (bB, .inl (cZ, 60, .inl B)), (bL, .inl (cI, 4, .inl L)), (bT, .inl (cI, 4, .inl T)), (bU, .inl (cI, 6, .inl U))] := hD
  refine lv_if_eq (tgt := 21) hx hb dX2_shift_10 (by decide) (fun h9 => absurd h9 (by rw [mIn_ent hi hX.1]; exact one_ne)) (fun _ => ?_)
  refine lv_aload_n hx hb dX2_shift_13 rfl (lv_at hl 0 rfl) ?_
  refine lv_iload_n hx hb dX2_shift_14 rfl (lv_at hl 2 rfl) ?_
  have hPc := hP.sub (ws' := [(mo, .inr (2, [.int 0, .ref bL, .ref bT, .int (nI n), .ref bK, .ref bF, .ref bS, .ref bB, .int co, .int pl, .int st, .int jo, .int cn, .int ii, .int fi, .int fe, .ref bU])), (bK, .inl (cI, 60, .inl K)), (bF, .inl (cI, 60, .inl F)), (bS, .inl (cI, 60, .inl S)), (bB, .inl (cZ, 60, .inl B)), (bL, .inl (cI, 4, .inl L)), (bT, .inl (cI, 4, .inl T)), (bU, .inl (cI, 6, .inl U))]) [0, 1, 2, 3, 4, 5, 6, 7] rfl
  have hDc := hD.sub (ws' := [(mo, .inr (2, [.int 0, .ref bL, .ref bT, .int (nI n), .ref bK, .ref bF, .ref bS, .ref bB, .int co, .int pl, .int st, .int jo, .int cn, .int ii, .int fi, .int fe, .ref bU])), (bK, .inl (cI, 60, .inl K)), (bF, .inl (cI, 60, .inl F)), (bS, .inl (cI, 60, .inl S)), (bB, .inl (cZ, 60, .inl B)), (bL, .inl (cI, 4, .inl L)), (bT, .inl (cI, 4, .inl T)), (bU, .inl (cI, 6, .inl U))]) [0, 1, 2, 3, 4, 5, 6, 7] (by decide) rfl
  have hKc := hK.sub (tys' := [(cI, .int), (cZ, .boolean)]) [0, 1] rfl
  have hFc := va_free (wc := [(mo, .inr (2, [.int 0, .ref bL, .ref bT, .int (nI n), .ref bK, .ref bF, .ref bS, .ref bB, .int co, .int pl, .int st, .int jo, .int cn, .int ii, .int fi, .int fe, .ref bU])), (bK, .inl (cI, 60, .inl K)), (bF, .inl (cI, 60, .inl F)), (bS, .inl (cI, 60, .inl S)), (bB, .inl (cZ, 60, .inl B)), (bL, .inl (cI, 4, .inl L)), (bT, .inl (cI, 4, .inl T)), (bU, .inl (cI, 6, .inl U))]) hD hS hA [0, 1, 2, 3, 4, 5, 6, 7] rfl
  refine va_calli (va_runV (As := [.int (nI q)]) (rest := []) ⟨hx, hb, hml, hown, hts⟩ (c_X2_isEntry l dC dI cI cZ mo bK bF bS bB bL bT bU H_2.size L T K F S B U n 0 co pl st jo cn ii fi fe (nI q)) (cwV 1 hts gX2_shift_X2_isEntry rfl rfl rfl (by decide +kernel) ⟨Nat.le_of_ble_eq_true rfl, Nat.le_of_ble_eq_true rfl⟩) (pc_V hKc hPc hDc (ci := 2) (C := RX2) (T := TX2) (N := 17) (q0 := 0) rfl rfl) rfl rfl hl.1 rfl (lv_room (Nat.le_of_ble_eq_true rfl)) dX2_shift_15 ⟨Nat.le_of_ble_eq_true rfl, Nat.le_of_ble_eq_true rfl⟩) hS (fun q _ h => hFc q h) hFc (fun r_3 u t H_3 locs ht hvm hw hB hz1 hk1 hS => ?_)
  try dsimp only at hw hB
  have hw_3 := hw
  replace hw_3 := hw_3.symm
  subst hw_3
  obtain ⟨hP1, hD1⟩ := hB
  rw [ht] at hP1
  obtain ⟨hP, hD⟩ := va_join (wr := []) (w1 := [(mo, .inr (2, [.int 0, .ref bL, .ref bT, .int (nI n), .ref bK, .ref bF, .ref bS, .ref bB, .int co, .int pl, .int st, .int jo, .int cn, .int ii, .int fi, .int fe, .ref bU])), (bK, .inl (cI, 60, .inl K)), (bF, .inl (cI, 60, .inl F)), (bS, .inl (cI, 60, .inl S)), (bB, .inl (cZ, 60, .inl B)), (bL, .inl (cI, 4, .inl L)), (bT, .inl (cI, 4, .inl T)), (bU, .inl (cI, 6, .inl U))]) hP hD [0, 1, 2, 3, 4, 5, 6, 7] [] rfl rfl (by decide) (by decide) hk1 hFc hP1 hD1
  have hP : va_P (dC, dI) vwCl [(mo, .inr (2, [.int 0, .ref bL, .ref bT, .int (nI n), .ref bK, .ref bF, .ref bS, .ref bB, .int co, .int pl, .int st, .int jo, .int cn, .int ii, .int fi, .int fe, .ref bU])), (bK, .inl (cI, 60, .inl K)), (bF, .inl (cI, 60, .inl F)), (bS, .inl (cI, 60, .inl S)), (bB, .inl (cZ, 60, .inl B)), (bL, .inl (cI, 4, .inl L)), (bT, .inl (cI, 4, .inl T)), (bU, .inl (cI, 6, .inl U))] H_3 := hP
  have hD : va_D A [(mo, .inr (2, [.int 0, .ref bL, .ref bT, .int (nI n), .ref bK, .ref bF, .ref bS, .ref bB, .int co, .int pl, .int st, .int jo, .int cn, .int ii, .int fi, .int fe, .ref bU])), (bK, .inl (cI, 60, .inl K)), (bF, .inl (cI, 60, .inl F)), (bS, .inl (cI, 60, .inl S)), (bB, .inl (cZ, 60, .inl B)), (bL, .inl (cI, 4, .inl L)), (bT, .inl (cI, 4, .inl T)), (bU, .inl (cI, 6, .inl U))] := hD
  refine lv_if_ne (tgt := 27) hx hb dX2_shift_18 (by decide) (fun _ => ?_) (fun h9 => absurd h9 (by rw [mIn_ent hq hX.1]; exact one_ne))
  refine lv_iload_n hx hb dX2_shift_27 rfl (lv_at hl 1 rfl) ?_
  refine lv_istore_n (lv' := [(3, .int (nI i)), (0, .ref mo), (1, .int (nI i)), (2, .int (nI q))]) hx hb dX2_shift_28 rfl hl (by decide) rfl (fun ls hl => ?_)
  refine (fun (KK : ∀ (nn9 : Nat) (tt : Nat) (H : Heap) (locs : List Loc) (ls : Array Slot) (ht : tt ≤ q - i), q - i - tt < nn9 → va_P (dC, dI) vwCl [(mo, .inr (2, [.int 0, .ref bL, .ref bT, .int (nI n), .ref bK, .ref bF, .ref bS, .ref bB, .int co, .int pl, .int st, .int jo, .int cn, .int ii, .int fi, .int fe, .ref bU])), (bK, .inl (cI, 60, .inl (upS K i tt))), (bF, .inl (cI, 60, .inl (upS F i tt))), (bS, .inl (cI, 60, .inl (upS S i tt))), (bB, .inl (cZ, 60, .inl (upS B i tt))), (bL, .inl (cI, 4, .inl L)), (bT, .inl (cI, 4, .inl T)), (bU, .inl (cI, 6, .inl U))] H → va_D A [(mo, .inr (2, [.int 0, .ref bL, .ref bT, .int (nI n), .ref bK, .ref bF, .ref bS, .ref bB, .int co, .int pl, .int st, .int jo, .int cn, .int ii, .int fi, .int fe, .ref bU])), (bK, .inl (cI, 60, .inl (upS K i tt))), (bF, .inl (cI, 60, .inl (upS F i tt))), (bS, .inl (cI, 60, .inl (upS S i tt))), (bB, .inl (cZ, 60, .inl (upS B i tt))), (bL, .inl (cI, 4, .inl L)), (bT, .inl (cI, 4, .inl T)), (bU, .inl (cI, 6, .inl U))] → va_S A s.heap H locs → lv_has ls 4 [(3, .int (nI (i + tt))), (0, .ref mo), (1, .int (nI i)), (2, .int (nI q))] → W p l e _ s m _ below meth c H locs 0 0 _ (F0 m 29 ls [])) => KK (q - i - 0 + 1) 0 _ _ _ (Nat.zero_le _) (by omega) hP hD hS (lv_sub hl [0, 1, 2, 3] rfl)) ?_
  intro nn_29
  induction nn_29 with
  | zero => intro tt H locs ls ht hn9; exact absurd hn9 (Nat.not_lt_zero _)
  | succ nn_29 ih_29 =>
    intro tt H_4 locs ls ht hn_29 hP hD hS hl
    refine lv_iload_n hx hb dX2_shift_29 rfl (lv_at hl 0 rfl) ?_
    refine lv_iload_n hx hb dX2_shift_30 rfl (lv_at hl 3 rfl) ?_
    refine lv_icmp_ge (tgt := 48) hx hb dX2_shift_31 (by decide) (fun c_31 => ?_) (fun c_31 => ?_)
    · -- 31
      have hge : q ≤ i + tt := by rw [nI_leI (by omega) (by omega)] at c_31; omega
      obtain rfl : q - i = tt := by omega
      refine lv_iload_n hx hb dX2_shift_48 rfl (lv_at hl 2 rfl) ?_
      refine lv_istore_n (lv' := [(3, .int (nI i)), (0, .ref mo), (1, .int (nI i)), (2, .int (nI q))]) hx hb dX2_shift_49 rfl hl (by decide) rfl (fun ls hl => ?_)
      refine (fun (KK : ∀ (nn9 : Nat) (tt : Nat) (H : Heap) (locs : List Loc) (ls : Array Slot) (ht : tt ≤ i - q), i - q - tt < nn9 → va_P (dC, dI) vwCl [(mo, .inr (2, [.int 0, .ref bL, .ref bT, .int (nI n), .ref bK, .ref bF, .ref bS, .ref bB, .int co, .int pl, .int st, .int jo, .int cn, .int ii, .int fi, .int fe, .ref bU])), (bK, .inl (cI, 60, .inl (dnS (upS K i (q - i)) i tt))), (bF, .inl (cI, 60, .inl (dnS (upS F i (q - i)) i tt))), (bS, .inl (cI, 60, .inl (dnS (upS S i (q - i)) i tt))), (bB, .inl (cZ, 60, .inl (dnS (upS B i (q - i)) i tt))), (bL, .inl (cI, 4, .inl L)), (bT, .inl (cI, 4, .inl T)), (bU, .inl (cI, 6, .inl U))] H → va_D A [(mo, .inr (2, [.int 0, .ref bL, .ref bT, .int (nI n), .ref bK, .ref bF, .ref bS, .ref bB, .int co, .int pl, .int st, .int jo, .int cn, .int ii, .int fi, .int fe, .ref bU])), (bK, .inl (cI, 60, .inl (dnS (upS K i (q - i)) i tt))), (bF, .inl (cI, 60, .inl (dnS (upS F i (q - i)) i tt))), (bS, .inl (cI, 60, .inl (dnS (upS S i (q - i)) i tt))), (bB, .inl (cZ, 60, .inl (dnS (upS B i (q - i)) i tt))), (bL, .inl (cI, 4, .inl L)), (bT, .inl (cI, 4, .inl T)), (bU, .inl (cI, 6, .inl U))] → va_S A s.heap H locs → lv_has ls 4 [(3, .int (nI (i - tt))), (0, .ref mo), (1, .int (nI i)), (2, .int (nI q))] → W p l e _ s m _ below meth c H locs 0 0 _ (F0 m 50 ls [])) => KK (i - q - 0 + 1) 0 _ _ _ (Nat.zero_le _) (by omega) hP hD hS (lv_sub hl [0, 1, 2, 3] rfl)) ?_
      intro nn_50
      induction nn_50 with
      | zero => intro tt H locs ls ht hn9; exact absurd hn9 (Nat.not_lt_zero _)
      | succ nn_50 ih_50 =>
        intro tt H_5 locs ls ht hn_50 hP hD hS hl
        refine lv_iload_n hx hb dX2_shift_50 rfl (lv_at hl 0 rfl) ?_
        refine lv_iload_n hx hb dX2_shift_51 rfl (lv_at hl 3 rfl) ?_
        refine lv_icmp_le (tgt := 69) hx hb dX2_shift_52 (by decide) (fun c_52 => ?_) (fun c_52 => ?_)
        · -- 52
          have hge : i - tt ≤ q := by rw [nI_leI (by omega) (by omega)] at c_52; omega
          obtain rfl : i - q = tt := by omega
          refine lv_aload_n hx hb dX2_shift_69 rfl (lv_at hl 1 rfl) ?_
          refine va_get (D := (dC, dI)) (ci := 2) (v := .ref bK) (C := RX2) (T := TX2) (N := 17) hx hb hts hinX2 hown hK hP 0 rfl rfl 4 (by decide) k2 (fun _ h9 => h9) rfl dX2_shift_70 ?_
          refine lv_iload_n hx hb dX2_shift_73 rfl (lv_at hl 3 rfl) ?_
          refine va_iald hx hb hK hP 1 0 rfl rfl (vp_in_nI (by omega) (by omega)) dX2_shift_74 ?_
          rw [nI_clamp (n := q) (by omega)]
          have hpost : ((dnS (upS K i (q - i)) i (i - q)) q) = K i := by
            exact mvS_at K i q
          have hP9 := hP.sub (ws' := [(mo, .inr (2, [.int 0, .ref bL, .ref bT, .int (nI n), .ref bK, .ref bF, .ref bS, .ref bB, .int co, .int pl, .int st, .int jo, .int cn, .int ii, .int fi, .int fe, .ref bU])), (bK, .inl (cI, 60, .inl (dnS (upS K i (q - i)) i (i - q)))), (bF, .inl (cI, 60, .inl (dnS (upS F i (q - i)) i (i - q)))), (bS, .inl (cI, 60, .inl (dnS (upS S i (q - i)) i (i - q)))), (bB, .inl (cZ, 60, .inl (dnS (upS B i (q - i)) i (i - q)))), (bL, .inl (cI, 4, .inl L)), (bT, .inl (cI, 4, .inl T)), (bU, .inl (cI, 6, .inl U))]) [0, 1, 2, 3, 4, 5, 6, 7] rfl
          have hD9 := hD.sub (ws' := [(mo, .inr (2, [.int 0, .ref bL, .ref bT, .int (nI n), .ref bK, .ref bF, .ref bS, .ref bB, .int co, .int pl, .int st, .int jo, .int cn, .int ii, .int fi, .int fe, .ref bU])), (bK, .inl (cI, 60, .inl (dnS (upS K i (q - i)) i (i - q)))), (bF, .inl (cI, 60, .inl (dnS (upS F i (q - i)) i (i - q)))), (bS, .inl (cI, 60, .inl (dnS (upS S i (q - i)) i (i - q)))), (bB, .inl (cZ, 60, .inl (dnS (upS B i (q - i)) i (i - q)))), (bL, .inl (cI, 4, .inl L)), (bT, .inl (cI, 4, .inl T)), (bU, .inl (cI, 6, .inl U))]) [0, 1, 2, 3, 4, 5, 6, 7] (by decide) rfl
          exact W.iret (v := (dnS (upS K i (q - i)) i (i - q)) q) hx hb hr (fun t ht hW => ⟨⟨((dnS (upS K i (q - i)) i (i - q)) q), (), rfl, hpost, by rw [ht]; exact hP9, hD9⟩, hS.F ht⟩) hS.2.2 dX2_shift_75
        · -- 52
          have hlt : q < i - tt := by rw [nI_leI (by omega) (by omega)] at c_52; omega
          refine lv_aload_n hx hb dX2_shift_55 rfl (lv_at hl 1 rfl) ?_
          refine lv_iload_n hx hb dX2_shift_56 rfl (lv_at hl 0 rfl) ?_
          refine lv_iload_n hx hb dX2_shift_57 rfl (lv_at hl 0 rfl) ?_
          refine lv_iconst (v := 1) hx hb dX2_shift_58 (by decide) ?_
          refine lv_isub hx hb dX2_shift_59 ?_
          rw [show nI (i - tt) - 1 = nI (i - tt - 1) from pk_sub (b := 1) (by omega)]
          have hPc := hP.sub (ws' := [(mo, .inr (2, [.int 0, .ref bL, .ref bT, .int (nI n), .ref bK, .ref bF, .ref bS, .ref bB, .int co, .int pl, .int st, .int jo, .int cn, .int ii, .int fi, .int fe, .ref bU])), (bK, .inl (cI, 60, .inl (dnS (upS K i (q - i)) i tt))), (bF, .inl (cI, 60, .inl (dnS (upS F i (q - i)) i tt))), (bS, .inl (cI, 60, .inl (dnS (upS S i (q - i)) i tt))), (bB, .inl (cZ, 60, .inl (dnS (upS B i (q - i)) i tt))), (bL, .inl (cI, 4, .inl L)), (bT, .inl (cI, 4, .inl T)), (bU, .inl (cI, 6, .inl U))]) [0, 1, 2, 3, 4, 5, 6, 7] rfl
          have hDc := hD.sub (ws' := [(mo, .inr (2, [.int 0, .ref bL, .ref bT, .int (nI n), .ref bK, .ref bF, .ref bS, .ref bB, .int co, .int pl, .int st, .int jo, .int cn, .int ii, .int fi, .int fe, .ref bU])), (bK, .inl (cI, 60, .inl (dnS (upS K i (q - i)) i tt))), (bF, .inl (cI, 60, .inl (dnS (upS F i (q - i)) i tt))), (bS, .inl (cI, 60, .inl (dnS (upS S i (q - i)) i tt))), (bB, .inl (cZ, 60, .inl (dnS (upS B i (q - i)) i tt))), (bL, .inl (cI, 4, .inl L)), (bT, .inl (cI, 4, .inl T)), (bU, .inl (cI, 6, .inl U))]) [0, 1, 2, 3, 4, 5, 6, 7] (by decide) rfl
          have hKc := hK.sub (tys' := [(cI, .int), (cZ, .boolean)]) [0, 1] rfl
          have hFc := va_free (wc := [(mo, .inr (2, [.int 0, .ref bL, .ref bT, .int (nI n), .ref bK, .ref bF, .ref bS, .ref bB, .int co, .int pl, .int st, .int jo, .int cn, .int ii, .int fi, .int fe, .ref bU])), (bK, .inl (cI, 60, .inl (dnS (upS K i (q - i)) i tt))), (bF, .inl (cI, 60, .inl (dnS (upS F i (q - i)) i tt))), (bS, .inl (cI, 60, .inl (dnS (upS S i (q - i)) i tt))), (bB, .inl (cZ, 60, .inl (dnS (upS B i (q - i)) i tt))), (bL, .inl (cI, 4, .inl L)), (bT, .inl (cI, 4, .inl T)), (bU, .inl (cI, 6, .inl U))]) hD hS hA [0, 1, 2, 3, 4, 5, 6, 7] rfl
          refine va_callv (va_runV (As := [.int (nI (i - tt)), .int (nI (i - tt - 1))]) (rest := []) ⟨hx, hb, hml, hown, hts⟩ (c_X2_exchange l dC dI cI cZ mo bK bF bS bB bL bT bU H_5.size L T (dnS (upS K i (q - i)) i tt) (dnS (upS F i (q - i)) i tt) (dnS (upS S i (q - i)) i tt) (dnS (upS B i (q - i)) i tt) U n 0 co pl st jo cn ii fi fe (i - tt) (i - tt - 1) (by omega) (by omega) (dnS_01 (upS_01 hX.2.2 _) _)) (cwV 2 hts gX2_shift_X2_exchange rfl rfl rfl (by decide +kernel) ⟨Nat.le_of_ble_eq_true rfl, Nat.le_of_ble_eq_true rfl⟩) (pc_V hKc hPc hDc (ci := 2) (C := RX2) (T := TX2) (N := 17) (q0 := 0) rfl rfl) rfl rfl hl.1 rfl (lv_room (Nat.le_of_ble_eq_true rfl)) dX2_shift_60 ⟨Nat.le_of_ble_eq_true rfl, Nat.le_of_ble_eq_true rfl⟩) hS (fun q _ h => hFc q h) hFc (fun u t H_6 locs ht hvm hw hB hz1 hk1 hS => ?_)
          try dsimp only at hw hB
          have hw_6 := hw
          obtain ⟨hP1, hD1⟩ := hB
          rw [ht] at hP1
          obtain ⟨hP, hD⟩ := va_join (wr := []) (w1 := [(mo, .inr (2, [.int 0, .ref bL, .ref bT, .int (nI n), .ref bK, .ref bF, .ref bS, .ref bB, .int co, .int pl, .int st, .int jo, .int cn, .int ii, .int fi, .int fe, .ref bU])), (bK, .inl (cI, 60, .inl (swp (dnS (upS K i (q - i)) i tt) (i - tt) (i - tt - 1)))), (bF, .inl (cI, 60, .inl (swp (dnS (upS F i (q - i)) i tt) (i - tt) (i - tt - 1)))), (bS, .inl (cI, 60, .inl (swp (dnS (upS S i (q - i)) i tt) (i - tt) (i - tt - 1)))), (bB, .inl (cZ, 60, .inl (swp (dnS (upS B i (q - i)) i tt) (i - tt) (i - tt - 1)))), (bL, .inl (cI, 4, .inl L)), (bT, .inl (cI, 4, .inl T)), (bU, .inl (cI, 6, .inl U))]) hP hD [0, 1, 2, 3, 4, 5, 6, 7] [] rfl rfl (by decide) (by decide) hk1 hFc hP1 hD1
          have hP : va_P (dC, dI) vwCl [(mo, .inr (2, [.int 0, .ref bL, .ref bT, .int (nI n), .ref bK, .ref bF, .ref bS, .ref bB, .int co, .int pl, .int st, .int jo, .int cn, .int ii, .int fi, .int fe, .ref bU])), (bK, .inl (cI, 60, .inl (swp (dnS (upS K i (q - i)) i tt) (i - tt) (i - tt - 1)))), (bF, .inl (cI, 60, .inl (swp (dnS (upS F i (q - i)) i tt) (i - tt) (i - tt - 1)))), (bS, .inl (cI, 60, .inl (swp (dnS (upS S i (q - i)) i tt) (i - tt) (i - tt - 1)))), (bB, .inl (cZ, 60, .inl (swp (dnS (upS B i (q - i)) i tt) (i - tt) (i - tt - 1)))), (bL, .inl (cI, 4, .inl L)), (bT, .inl (cI, 4, .inl T)), (bU, .inl (cI, 6, .inl U))] H_6 := hP
          have hD : va_D A [(mo, .inr (2, [.int 0, .ref bL, .ref bT, .int (nI n), .ref bK, .ref bF, .ref bS, .ref bB, .int co, .int pl, .int st, .int jo, .int cn, .int ii, .int fi, .int fe, .ref bU])), (bK, .inl (cI, 60, .inl (swp (dnS (upS K i (q - i)) i tt) (i - tt) (i - tt - 1)))), (bF, .inl (cI, 60, .inl (swp (dnS (upS F i (q - i)) i tt) (i - tt) (i - tt - 1)))), (bS, .inl (cI, 60, .inl (swp (dnS (upS S i (q - i)) i tt) (i - tt) (i - tt - 1)))), (bB, .inl (cZ, 60, .inl (swp (dnS (upS B i (q - i)) i tt) (i - tt) (i - tt - 1)))), (bL, .inl (cI, 4, .inl L)), (bT, .inl (cI, 4, .inl T)), (bU, .inl (cI, 6, .inl U))] := hD
          refine lv_iinc (v := nI (i - tt - 1)) (lv' := [(3, .int (nI (i - tt - 1))), (0, .ref mo), (1, .int (nI i)), (2, .int (nI q))]) hx hb dX2_shift_63 hl (k := 0) rfl (sb_m1 (by omega)) (by decide) rfl (fun ls hl => ?_)
          refine lv_goto (tgt := 50) hx hb dX2_shift_66 (by decide) ?_
          exact ih_50 (tt + 1) _ _ _ (by omega) (by omega) hP hD hS (lv_sub hl [0, 1, 2, 3] rfl)
    · -- 31
      have hlt : i + tt < q := by rw [nI_leI (by omega) (by omega)] at c_31; omega
      refine lv_aload_n hx hb dX2_shift_34 rfl (lv_at hl 1 rfl) ?_
      refine lv_iload_n hx hb dX2_shift_35 rfl (lv_at hl 0 rfl) ?_
      refine lv_iload_n hx hb dX2_shift_36 rfl (lv_at hl 0 rfl) ?_
      refine lv_iconst (v := 1) hx hb dX2_shift_37 (by decide) ?_
      refine lv_iadd hx hb dX2_shift_38 ?_
      rw [nI_1 (i + tt)]
      have hPc := hP.sub (ws' := [(mo, .inr (2, [.int 0, .ref bL, .ref bT, .int (nI n), .ref bK, .ref bF, .ref bS, .ref bB, .int co, .int pl, .int st, .int jo, .int cn, .int ii, .int fi, .int fe, .ref bU])), (bK, .inl (cI, 60, .inl (upS K i tt))), (bF, .inl (cI, 60, .inl (upS F i tt))), (bS, .inl (cI, 60, .inl (upS S i tt))), (bB, .inl (cZ, 60, .inl (upS B i tt))), (bL, .inl (cI, 4, .inl L)), (bT, .inl (cI, 4, .inl T)), (bU, .inl (cI, 6, .inl U))]) [0, 1, 2, 3, 4, 5, 6, 7] rfl
      have hDc := hD.sub (ws' := [(mo, .inr (2, [.int 0, .ref bL, .ref bT, .int (nI n), .ref bK, .ref bF, .ref bS, .ref bB, .int co, .int pl, .int st, .int jo, .int cn, .int ii, .int fi, .int fe, .ref bU])), (bK, .inl (cI, 60, .inl (upS K i tt))), (bF, .inl (cI, 60, .inl (upS F i tt))), (bS, .inl (cI, 60, .inl (upS S i tt))), (bB, .inl (cZ, 60, .inl (upS B i tt))), (bL, .inl (cI, 4, .inl L)), (bT, .inl (cI, 4, .inl T)), (bU, .inl (cI, 6, .inl U))]) [0, 1, 2, 3, 4, 5, 6, 7] (by decide) rfl
      have hKc := hK.sub (tys' := [(cI, .int), (cZ, .boolean)]) [0, 1] rfl
      have hFc := va_free (wc := [(mo, .inr (2, [.int 0, .ref bL, .ref bT, .int (nI n), .ref bK, .ref bF, .ref bS, .ref bB, .int co, .int pl, .int st, .int jo, .int cn, .int ii, .int fi, .int fe, .ref bU])), (bK, .inl (cI, 60, .inl (upS K i tt))), (bF, .inl (cI, 60, .inl (upS F i tt))), (bS, .inl (cI, 60, .inl (upS S i tt))), (bB, .inl (cZ, 60, .inl (upS B i tt))), (bL, .inl (cI, 4, .inl L)), (bT, .inl (cI, 4, .inl T)), (bU, .inl (cI, 6, .inl U))]) hD hS hA [0, 1, 2, 3, 4, 5, 6, 7] rfl
      refine va_callv (va_runV (As := [.int (nI (i + tt)), .int (nI ((i + tt) + 1))]) (rest := []) ⟨hx, hb, hml, hown, hts⟩ (c_X2_exchange l dC dI cI cZ mo bK bF bS bB bL bT bU H_4.size L T (upS K i tt) (upS F i tt) (upS S i tt) (upS B i tt) U n 0 co pl st jo cn ii fi fe (i + tt) ((i + tt) + 1) (by omega) (by omega) (upS_01 hX.2.2 _)) (cwV 2 hts gX2_shift_X2_exchange rfl rfl rfl (by decide +kernel) ⟨Nat.le_of_ble_eq_true rfl, Nat.le_of_ble_eq_true rfl⟩) (pc_V hKc hPc hDc (ci := 2) (C := RX2) (T := TX2) (N := 17) (q0 := 0) rfl rfl) rfl rfl hl.1 rfl (lv_room (Nat.le_of_ble_eq_true rfl)) dX2_shift_39 ⟨Nat.le_of_ble_eq_true rfl, Nat.le_of_ble_eq_true rfl⟩) hS (fun q _ h => hFc q h) hFc (fun u t H_7 locs ht hvm hw hB hz1 hk1 hS => ?_)
      try dsimp only at hw hB
      have hw_7 := hw
      obtain ⟨hP1, hD1⟩ := hB
      rw [ht] at hP1
      obtain ⟨hP, hD⟩ := va_join (wr := []) (w1 := [(mo, .inr (2, [.int 0, .ref bL, .ref bT, .int (nI n), .ref bK, .ref bF, .ref bS, .ref bB, .int co, .int pl, .int st, .int jo, .int cn, .int ii, .int fi, .int fe, .ref bU])), (bK, .inl (cI, 60, .inl (swp (upS K i tt) (i + tt) ((i + tt) + 1)))), (bF, .inl (cI, 60, .inl (swp (upS F i tt) (i + tt) ((i + tt) + 1)))), (bS, .inl (cI, 60, .inl (swp (upS S i tt) (i + tt) ((i + tt) + 1)))), (bB, .inl (cZ, 60, .inl (swp (upS B i tt) (i + tt) ((i + tt) + 1)))), (bL, .inl (cI, 4, .inl L)), (bT, .inl (cI, 4, .inl T)), (bU, .inl (cI, 6, .inl U))]) hP hD [0, 1, 2, 3, 4, 5, 6, 7] [] rfl rfl (by decide) (by decide) hk1 hFc hP1 hD1
      have hP : va_P (dC, dI) vwCl [(mo, .inr (2, [.int 0, .ref bL, .ref bT, .int (nI n), .ref bK, .ref bF, .ref bS, .ref bB, .int co, .int pl, .int st, .int jo, .int cn, .int ii, .int fi, .int fe, .ref bU])), (bK, .inl (cI, 60, .inl (swp (upS K i tt) (i + tt) ((i + tt) + 1)))), (bF, .inl (cI, 60, .inl (swp (upS F i tt) (i + tt) ((i + tt) + 1)))), (bS, .inl (cI, 60, .inl (swp (upS S i tt) (i + tt) ((i + tt) + 1)))), (bB, .inl (cZ, 60, .inl (swp (upS B i tt) (i + tt) ((i + tt) + 1)))), (bL, .inl (cI, 4, .inl L)), (bT, .inl (cI, 4, .inl T)), (bU, .inl (cI, 6, .inl U))] H_7 := hP
      have hD : va_D A [(mo, .inr (2, [.int 0, .ref bL, .ref bT, .int (nI n), .ref bK, .ref bF, .ref bS, .ref bB, .int co, .int pl, .int st, .int jo, .int cn, .int ii, .int fi, .int fe, .ref bU])), (bK, .inl (cI, 60, .inl (swp (upS K i tt) (i + tt) ((i + tt) + 1)))), (bF, .inl (cI, 60, .inl (swp (upS F i tt) (i + tt) ((i + tt) + 1)))), (bS, .inl (cI, 60, .inl (swp (upS S i tt) (i + tt) ((i + tt) + 1)))), (bB, .inl (cZ, 60, .inl (swp (upS B i tt) (i + tt) ((i + tt) + 1)))), (bL, .inl (cI, 4, .inl L)), (bT, .inl (cI, 4, .inl T)), (bU, .inl (cI, 6, .inl U))] := hD
      refine lv_iinc (v := nI ((i + tt) + 1)) (lv' := [(3, .int (nI ((i + tt) + 1))), (0, .ref mo), (1, .int (nI i)), (2, .int (nI q))]) hx hb dX2_shift_42 hl (k := 0) rfl (nI_1 _) (by decide) rfl (fun ls hl => ?_)
      refine lv_goto (tgt := 29) hx hb dX2_shift_45 (by decide) ?_
      exact ih_29 (tt + 1) _ _ _ (by omega) (by omega) hP hD hS (lv_sub hl [0, 1, 2, 3] rfl)

set_option maxHeartbeats 4000000 in
set_option maxRecDepth 100000 in
theorem c_X2_shift_f1 (l : Launch) (dC : Nat → ClassId) (dI : Nat → Nat → Nat) (cI cZ : ClassId) (mo bK bF bS bB bL bT bU : Nat) (sz : Nat) (L : N2I) (T : N2I) (K : N2I) (F : N2I) (S : N2I) (B : N2I) (U : N2I) (n : Nat) (tw : Int32) (co : Int32) (pl : Int32) (st : Int32) (jo : Int32) (cn : Int32) (ii : Int32) (fi : Int32) (fe : Int32) (x : Int32) (y : Int32) (hn6 : n ≤ 60) (hxb : ¬ vp_in x n) : Met l yX2_shift wsX2_shift ({ frames := 2, cells := 0, slots := 0, locals := 43 } : Room) (va_Pc [.ref mo, .int x, .int y] (pc_ (dC, dI) [(cI, .int), (cZ, .boolean)] [(mo, .inr (2, [.int tw, .ref bL, .ref bT, .int (nI n), .ref bK, .ref bF, .ref bS, .ref bB, .int co, .int pl, .int st, .int jo, .int cn, .int ii, .int fi, .int fe, .ref bU])), (bK, .inl (cI, 60, .inl K)), (bF, .inl (cI, 60, .inl F)), (bS, .inl (cI, 60, .inl S)), (bB, .inl (cZ, 60, .inl B)), (bL, .inl (cI, 4, .inl L)), (bT, .inl (cI, 4, .inl T)), (bU, .inl (cI, 6, .inl U))] sz)) (va_Qi (fun (r : Int32) (u : Unit) => r = 0) (fun (u : Unit) (t : State) => va_P (dC, dI) vwCl [(mo, .inr (2, [.int 1, .ref bL, .ref bT, .int (nI n), .ref bK, .ref bF, .ref bS, .ref bB, .int co, .int pl, .int st, .int jo, .int cn, .int ii, .int fi, .int fe, .ref bU])), (bK, .inl (cI, 60, .inl K)), (bF, .inl (cI, 60, .inl F)), (bS, .inl (cI, 60, .inl S)), (bB, .inl (cZ, 60, .inl B)), (bL, .inl (cI, 4, .inl L)), (bT, .inl (cI, 4, .inl T)), (bU, .inl (cI, 6, .inl U))] t.heap ∧ va_D (va_A [(mo, .inr (2, [.int tw, .ref bL, .ref bT, .int (nI n), .ref bK, .ref bF, .ref bS, .ref bB, .int co, .int pl, .int st, .int jo, .int cn, .int ii, .int fi, .int fe, .ref bU])), (bK, .inl (cI, 60, .inl K)), (bF, .inl (cI, 60, .inl F)), (bS, .inl (cI, 60, .inl S)), (bB, .inl (cZ, 60, .inl B)), (bL, .inl (cI, 4, .inl L)), (bT, .inl (cI, 4, .inl T)), (bU, .inl (cI, 6, .inl U))] sz) [(mo, .inr (2, [.int 1, .ref bL, .ref bT, .int (nI n), .ref bK, .ref bF, .ref bS, .ref bB, .int co, .int pl, .int st, .int jo, .int cn, .int ii, .int fi, .int fe, .ref bU])), (bK, .inl (cI, 60, .inl K)), (bF, .inl (cI, 60, .inl F)), (bS, .inl (cI, 60, .inl S)), (bB, .inl (cZ, 60, .inl B)), (bL, .inl (cI, 4, .inl L)), (bT, .inl (cI, 4, .inl T)), (bU, .inl (cI, 6, .inl U))]) (va_A [(mo, .inr (2, [.int tw, .ref bL, .ref bT, .int (nI n), .ref bK, .ref bF, .ref bS, .ref bB, .int co, .int pl, .int st, .int jo, .int cn, .int ii, .int fi, .int fe, .ref bU])), (bK, .inl (cI, 60, .inl K)), (bF, .inl (cI, 60, .inl F)), (bS, .inl (cI, 60, .inl S)), (bB, .inl (cZ, 60, .inl B)), (bL, .inl (cI, 4, .inl L)), (bT, .inl (cI, 4, .inl T)), (bU, .inl (cI, 6, .inl U))] sz)) 0 0 (va_A [(mo, .inr (2, [.int tw, .ref bL, .ref bT, .int (nI n), .ref bK, .ref bF, .ref bS, .ref bB, .int co, .int pl, .int st, .int jo, .int cn, .int ii, .int fi, .int fe, .ref bU])), (bK, .inl (cI, 60, .inl K)), (bF, .inl (cI, 60, .inl F)), (bS, .inl (cI, 60, .inl S)), (bB, .inl (cZ, 60, .inl B)), (bL, .inl (cI, 4, .inl L)), (bT, .inl (cI, 4, .inl T)), (bU, .inl (cI, 6, .inl U))] sz) := by
  refine Met.ofW (cc := cX2_shift) (maxL := 4) (ret := (some .int)) (by decide) rfl ?_
  intro p e s m args below meth c s₁ BB hml hv
  obtain ⟨rfl, hsz, hP, hK, hD0⟩ := hv
  have hx := BB.exec
  have hb := BB.bytes
  have hr := BB.returns
  have hts := atoms_spec (ws := wsX2_shift) BB.pre
  have hown : s.vm.findClass RX2 = some m.cls := findClass_of_methodNamed BB.named
  have hlocks := BB.notSynchronized
  subst hsz
  have hD := hD0.self (sz := s.heap.size)
  generalize hAe : va_A [(mo, .inr (2, [.int tw, .ref bL, .ref bT, .int (nI n), .ref bK, .ref bF, .ref bS, .ref bB, .int co, .int pl, .int st, .int jo, .int cn, .int ii, .int fi, .int fe, .ref bU])), (bK, .inl (cI, 60, .inl K)), (bF, .inl (cI, 60, .inl F)), (bS, .inl (cI, 60, .inl S)), (bB, .inl (cZ, 60, .inl B)), (bL, .inl (cI, 4, .inl L)), (bT, .inl (cI, 4, .inl T)), (bU, .inl (cI, 6, .inl U))] s.heap.size = A at hD ⊢
  have hA : ∀ q : Nat, s.heap.size ≤ q → A q := fun q h => by rw [← hAe]; exact Or.inr h
  have hS : va_S A s.heap s.heap [] := va_S.rf
  have hP : va_P (dC, dI) vwCl [(mo, .inr (2, [.int tw, .ref bL, .ref bT, .int (nI n), .ref bK, .ref bF, .ref bS, .ref bB, .int co, .int pl, .int st, .int jo, .int cn, .int ii, .int fi, .int fe, .ref bU])), (bK, .inl (cI, 60, .inl K)), (bF, .inl (cI, 60, .inl F)), (bS, .inl (cI, 60, .inl S)), (bB, .inl (cZ, 60, .inl B)), (bL, .inl (cI, 4, .inl L)), (bT, .inl (cI, 4, .inl T)), (bU, .inl (cI, 6, .inl U))] s.heap := hP
  have hl := lv_entry ([.ref mo, .int x, .int y]) (n := 4) (Nat.le_of_ble_eq_true rfl)
  rw [lg_entry_eq]
  generalize (lg_sl ([.ref mo, .int x, .int y]) ++ List.replicate (4 - (lg_sl ([.ref mo, .int x, .int y])).length) Slot.unset).toArray = ls at hl ⊢
  have hl : lv_has ls 4 [(0, .ref mo), (1, .int x), (2, .int y)] := hl
  have k0 := hts (.fieldLink RX2 32 "KnifeLedgerModel" "thrown" "I") (by decide +kernel)
  have hinX2 : ∀ w ∈ wsX20, w ∈ wsX2_shift := by decide +kernel
  refine lv_aload_n hx hb dX2_shift_0 rfl (lv_at hl 0 rfl) ?_
  refine lv_iconst (v := 0) hx hb dX2_shift_1 (by decide) ?_
  refine va_put (D := (dC, dI)) (ci := 2) (v := .int 0) (ty := .int) (C := RX2) (T := TX2) (N := 17) hx hb hts hinX2 tyX2 tyX2_ok nmX2 hown hK hP hD hS 0 rfl rfl 0 (by decide) k0 (fun _ h9 => h9) rfl (by decide +kernel) rfl rfl (Nat.le_of_ble_eq_true rfl) dX2_shift_2 (fun H_1 locs hP hD hS => ?_)
  have hP : va_P (dC, dI) vwCl [(mo, .inr (2, [.int 0, .ref bL, .ref bT, .int (nI n), .ref bK, .ref bF, .ref bS, .ref bB, .int co, .int pl, .int st, .int jo, .int cn, .int ii, .int fi, .int fe, .ref bU])), (bK, .inl (cI, 60, .inl K)), (bF, .inl (cI, 60, .inl F)), (bS, .inl (cI, 60, .inl S)), (bB, .inl (cZ, 60, .inl B)), (bL, .inl (cI, 4, .inl L)), (bT, .inl (cI, 4, .inl T)), (bU, .inl (cI, 6, .inl U))] H_1 := hP
  have hD : va_D A [(mo, .inr (2, [.int 0, .ref bL, .ref bT, .int (nI n), .ref bK, .ref bF, .ref bS, .ref bB, .int co, .int pl, .int st, .int jo, .int cn, .int ii, .int fi, .int fe, .ref bU])), (bK, .inl (cI, 60, .inl K)), (bF, .inl (cI, 60, .inl F)), (bS, .inl (cI, 60, .inl S)), (bB, .inl (cZ, 60, .inl B)), (bL, .inl (cI, 4, .inl L)), (bT, .inl (cI, 4, .inl T)), (bU, .inl (cI, 6, .inl U))] := hD
  refine lv_aload_n hx hb dX2_shift_5 rfl (lv_at hl 0 rfl) ?_
  refine lv_iload_n hx hb dX2_shift_6 rfl (lv_at hl 1 rfl) ?_
  have hPc := hP.sub (ws' := [(mo, .inr (2, [.int 0, .ref bL, .ref bT, .int (nI n), .ref bK, .ref bF, .ref bS, .ref bB, .int co, .int pl, .int st, .int jo, .int cn, .int ii, .int fi, .int fe, .ref bU])), (bK, .inl (cI, 60, .inl K)), (bF, .inl (cI, 60, .inl F)), (bS, .inl (cI, 60, .inl S)), (bB, .inl (cZ, 60, .inl B)), (bL, .inl (cI, 4, .inl L)), (bT, .inl (cI, 4, .inl T)), (bU, .inl (cI, 6, .inl U))]) [0, 1, 2, 3, 4, 5, 6, 7] rfl
  have hDc := hD.sub (ws' := [(mo, .inr (2, [.int 0, .ref bL, .ref bT, .int (nI n), .ref bK, .ref bF, .ref bS, .ref bB, .int co, .int pl, .int st, .int jo, .int cn, .int ii, .int fi, .int fe, .ref bU])), (bK, .inl (cI, 60, .inl K)), (bF, .inl (cI, 60, .inl F)), (bS, .inl (cI, 60, .inl S)), (bB, .inl (cZ, 60, .inl B)), (bL, .inl (cI, 4, .inl L)), (bT, .inl (cI, 4, .inl T)), (bU, .inl (cI, 6, .inl U))]) [0, 1, 2, 3, 4, 5, 6, 7] (by decide) rfl
  have hKc := hK.sub (tys' := [(cI, .int), (cZ, .boolean)]) [0, 1] rfl
  have hFc := va_free (wc := [(mo, .inr (2, [.int 0, .ref bL, .ref bT, .int (nI n), .ref bK, .ref bF, .ref bS, .ref bB, .int co, .int pl, .int st, .int jo, .int cn, .int ii, .int fi, .int fe, .ref bU])), (bK, .inl (cI, 60, .inl K)), (bF, .inl (cI, 60, .inl F)), (bS, .inl (cI, 60, .inl S)), (bB, .inl (cZ, 60, .inl B)), (bL, .inl (cI, 4, .inl L)), (bT, .inl (cI, 4, .inl T)), (bU, .inl (cI, 6, .inl U))]) hD hS hA [0, 1, 2, 3, 4, 5, 6, 7] rfl
  refine va_calli (va_runV (As := [.int x]) (rest := []) ⟨hx, hb, hml, hown, hts⟩ (c_X2_isEntry l dC dI cI cZ mo bK bF bS bB bL bT bU H_1.size L T K F S B U n 0 co pl st jo cn ii fi fe x) (cwV 1 hts gX2_shift_X2_isEntry rfl rfl rfl (by decide +kernel) ⟨Nat.le_of_ble_eq_true rfl, Nat.le_of_ble_eq_true rfl⟩) (pc_V hKc hPc hDc (ci := 2) (C := RX2) (T := TX2) (N := 17) (q0 := 0) rfl rfl) rfl rfl hl.1 rfl (lv_room (Nat.le_of_ble_eq_true rfl)) dX2_shift_7 ⟨Nat.le_of_ble_eq_true rfl, Nat.le_of_ble_eq_true rfl⟩) hS (fun q _ h => hFc q h) hFc (fun r_2 u t H_2 locs ht hvm hw hB hz1 hk1 hS => ?_)
  try dsimp only at hw hB
  have hw_2 := hw
  replace hw_2 := hw_2.symm
  subst hw_2
  obtain ⟨hP1, hD1⟩ := hB
  rw [ht] at hP1
  obtain ⟨hP, hD⟩ := va_join (wr := []) (w1 := [(mo, .inr (2, [.int 0, .ref bL, .ref bT, .int (nI n), .ref bK, .ref bF, .ref bS, .ref bB, .int co, .int pl, .int st, .int jo, .int cn, .int ii, .int fi, .int fe, .ref bU])), (bK, .inl (cI, 60, .inl K)), (bF, .inl (cI, 60, .inl F)), (bS, .inl (cI, 60, .inl S)), (bB, .inl (cZ, 60, .inl B)), (bL, .inl (cI, 4, .inl L)), (bT, .inl (cI, 4, .inl T)), (bU, .inl (cI, 6, .inl U))]) hP hD [0, 1, 2, 3, 4, 5, 6, 7] [] rfl rfl (by decide) (by decide) hk1 hFc hP1 hD1
  have hP : va_P (dC, dI) vwCl [(mo, .inr (2, [.int 0, .ref bL, .ref bT, .int (nI n), .ref bK, .ref bF, .ref bS, .ref bB, .int co, .int pl, .int st, .int jo, .int cn, .int ii, .int fi, .int fe, .ref bU])), (bK, .inl (cI, 60, .inl K)), (bF, .inl (cI, 60, .inl F)), (bS, .inl (cI, 60, .inl S)), (bB, .inl (cZ, 60, .inl B)), (bL, .inl (cI, 4, .inl L)), (bT, .inl (cI, 4, .inl T)), (bU, .inl (cI, 6, .inl U))] H_2 := hP
  have hD : va_D A [(mo, .inr (2, [.int 0, .ref bL, .ref bT, .int (nI n), .ref bK, .ref bF, .ref bS, .ref bB, .int co, .int pl, .int st, .int jo, .int cn, .int ii, .int fi, .int fe, .ref bU])), (bK, .inl (cI, 60, .inl K)), (bF, .inl (cI, 60, .inl F)), (bS, .inl (cI, 60, .inl S)), (bB, .inl (cZ, 60, .inl B)), (bL, .inl (cI, 4, .inl L)), (bT, .inl (cI, 4, .inl T)), (bU, .inl (cI, 6, .inl U))] := hD
  refine lv_if_eq (tgt := 21) hx hb dX2_shift_10 (by decide) (fun _ => ?_) (fun h9 => absurd (mIn_nent hn6 hxb) h9)
  refine lv_aload_n hx hb dX2_shift_21 rfl (lv_at hl 0 rfl) ?_
  refine lv_iconst (v := 1) hx hb dX2_shift_22 (by decide) ?_
  have hPc := hP.sub (ws' := [(mo, .inr (2, [.int 0, .ref bL, .ref bT, .int (nI n), .ref bK, .ref bF, .ref bS, .ref bB, .int co, .int pl, .int st, .int jo, .int cn, .int ii, .int fi, .int fe, .ref bU])), (bK, .inl (cI, 60, .inl K)), (bF, .inl (cI, 60, .inl F)), (bS, .inl (cI, 60, .inl S)), (bB, .inl (cZ, 60, .inl B)), (bL, .inl (cI, 4, .inl L)), (bT, .inl (cI, 4, .inl T)), (bU, .inl (cI, 6, .inl U))]) [0, 1, 2, 3, 4, 5, 6, 7] rfl
  have hDc := hD.sub (ws' := [(mo, .inr (2, [.int 0, .ref bL, .ref bT, .int (nI n), .ref bK, .ref bF, .ref bS, .ref bB, .int co, .int pl, .int st, .int jo, .int cn, .int ii, .int fi, .int fe, .ref bU])), (bK, .inl (cI, 60, .inl K)), (bF, .inl (cI, 60, .inl F)), (bS, .inl (cI, 60, .inl S)), (bB, .inl (cZ, 60, .inl B)), (bL, .inl (cI, 4, .inl L)), (bT, .inl (cI, 4, .inl T)), (bU, .inl (cI, 6, .inl U))]) [0, 1, 2, 3, 4, 5, 6, 7] (by decide) rfl
  have hKc := hK.sub (tys' := [(cI, .int), (cZ, .boolean)]) [0, 1] rfl
  have hFc := va_free (wc := [(mo, .inr (2, [.int 0, .ref bL, .ref bT, .int (nI n), .ref bK, .ref bF, .ref bS, .ref bB, .int co, .int pl, .int st, .int jo, .int cn, .int ii, .int fi, .int fe, .ref bU])), (bK, .inl (cI, 60, .inl K)), (bF, .inl (cI, 60, .inl F)), (bS, .inl (cI, 60, .inl S)), (bB, .inl (cZ, 60, .inl B)), (bL, .inl (cI, 4, .inl L)), (bT, .inl (cI, 4, .inl T)), (bU, .inl (cI, 6, .inl U))]) hD hS hA [0, 1, 2, 3, 4, 5, 6, 7] rfl
  refine va_calli (va_runV (As := [.int 1]) (rest := []) ⟨hx, hb, hml, hown, hts⟩ (c_X2_fail l dC dI cI cZ mo bK bF bS bB bL bT bU H_2.size L T K F S B U n 0 co pl st jo cn ii fi fe 1) (cwV 1 hts gX2_shift_X2_fail rfl rfl rfl (by decide +kernel) ⟨Nat.le_of_ble_eq_true rfl, Nat.le_of_ble_eq_true rfl⟩) (pc_V hKc hPc hDc (ci := 2) (C := RX2) (T := TX2) (N := 17) (q0 := 0) rfl rfl) rfl rfl hl.1 rfl (lv_room (Nat.le_of_ble_eq_true rfl)) dX2_shift_23 ⟨Nat.le_of_ble_eq_true rfl, Nat.le_of_ble_eq_true rfl⟩) hS (fun q _ h => hFc q h) hFc (fun r_3 u t H_3 locs ht hvm hw hB hz1 hk1 hS => ?_)
  try dsimp only at hw hB
  have hw_3 := hw
  replace hw_3 := hw_3.symm
  subst hw_3
  obtain ⟨hP1, hD1⟩ := hB
  rw [ht] at hP1
  obtain ⟨hP, hD⟩ := va_join (wr := []) (w1 := [(mo, .inr (2, [.int 1, .ref bL, .ref bT, .int (nI n), .ref bK, .ref bF, .ref bS, .ref bB, .int co, .int pl, .int st, .int jo, .int cn, .int ii, .int fi, .int fe, .ref bU])), (bK, .inl (cI, 60, .inl K)), (bF, .inl (cI, 60, .inl F)), (bS, .inl (cI, 60, .inl S)), (bB, .inl (cZ, 60, .inl B)), (bL, .inl (cI, 4, .inl L)), (bT, .inl (cI, 4, .inl T)), (bU, .inl (cI, 6, .inl U))]) hP hD [0, 1, 2, 3, 4, 5, 6, 7] [] rfl rfl (by decide) (by decide) hk1 hFc hP1 hD1
  have hP : va_P (dC, dI) vwCl [(mo, .inr (2, [.int 1, .ref bL, .ref bT, .int (nI n), .ref bK, .ref bF, .ref bS, .ref bB, .int co, .int pl, .int st, .int jo, .int cn, .int ii, .int fi, .int fe, .ref bU])), (bK, .inl (cI, 60, .inl K)), (bF, .inl (cI, 60, .inl F)), (bS, .inl (cI, 60, .inl S)), (bB, .inl (cZ, 60, .inl B)), (bL, .inl (cI, 4, .inl L)), (bT, .inl (cI, 4, .inl T)), (bU, .inl (cI, 6, .inl U))] H_3 := hP
  have hD : va_D A [(mo, .inr (2, [.int 1, .ref bL, .ref bT, .int (nI n), .ref bK, .ref bF, .ref bS, .ref bB, .int co, .int pl, .int st, .int jo, .int cn, .int ii, .int fi, .int fe, .ref bU])), (bK, .inl (cI, 60, .inl K)), (bF, .inl (cI, 60, .inl F)), (bS, .inl (cI, 60, .inl S)), (bB, .inl (cZ, 60, .inl B)), (bL, .inl (cI, 4, .inl L)), (bT, .inl (cI, 4, .inl T)), (bU, .inl (cI, 6, .inl U))] := hD
  have hpost : (0 : Int32) = 0 := by
    rfl
  have hP9 := hP.sub (ws' := [(mo, .inr (2, [.int 1, .ref bL, .ref bT, .int (nI n), .ref bK, .ref bF, .ref bS, .ref bB, .int co, .int pl, .int st, .int jo, .int cn, .int ii, .int fi, .int fe, .ref bU])), (bK, .inl (cI, 60, .inl K)), (bF, .inl (cI, 60, .inl F)), (bS, .inl (cI, 60, .inl S)), (bB, .inl (cZ, 60, .inl B)), (bL, .inl (cI, 4, .inl L)), (bT, .inl (cI, 4, .inl T)), (bU, .inl (cI, 6, .inl U))]) [0, 1, 2, 3, 4, 5, 6, 7] rfl
  have hD9 := hD.sub (ws' := [(mo, .inr (2, [.int 1, .ref bL, .ref bT, .int (nI n), .ref bK, .ref bF, .ref bS, .ref bB, .int co, .int pl, .int st, .int jo, .int cn, .int ii, .int fi, .int fe, .ref bU])), (bK, .inl (cI, 60, .inl K)), (bF, .inl (cI, 60, .inl F)), (bS, .inl (cI, 60, .inl S)), (bB, .inl (cZ, 60, .inl B)), (bL, .inl (cI, 4, .inl L)), (bT, .inl (cI, 4, .inl T)), (bU, .inl (cI, 6, .inl U))]) [0, 1, 2, 3, 4, 5, 6, 7] (by decide) rfl
  exact W.iret (v := 0) hx hb hr (fun t ht hW => ⟨⟨0, (), rfl, hpost, by rw [ht]; exact hP9, hD9⟩, hS.F ht⟩) hS.2.2 dX2_shift_26

set_option maxHeartbeats 4000000 in
set_option maxRecDepth 100000 in
theorem c_X2_shift_f2 (l : Launch) (dC : Nat → ClassId) (dI : Nat → Nat → Nat) (cI cZ : ClassId) (mo bK bF bS bB bL bT bU : Nat) (sz : Nat) (L : N2I) (T : N2I) (K : N2I) (F : N2I) (S : N2I) (B : N2I) (U : N2I) (n : Nat) (tw : Int32) (co : Int32) (pl : Int32) (st : Int32) (jo : Int32) (cn : Int32) (ii : Int32) (fi : Int32) (fe : Int32) (i : Nat) (y : Int32) (hX : okX K F S B n) (hi : i < n) (hxb : ¬ vp_in y n) : Met l yX2_shift wsX2_shift ({ frames := 2, cells := 0, slots := 0, locals := 43 } : Room) (va_Pc [.ref mo, .int (nI i), .int y] (pc_ (dC, dI) [(cI, .int), (cZ, .boolean)] [(mo, .inr (2, [.int tw, .ref bL, .ref bT, .int (nI n), .ref bK, .ref bF, .ref bS, .ref bB, .int co, .int pl, .int st, .int jo, .int cn, .int ii, .int fi, .int fe, .ref bU])), (bK, .inl (cI, 60, .inl K)), (bF, .inl (cI, 60, .inl F)), (bS, .inl (cI, 60, .inl S)), (bB, .inl (cZ, 60, .inl B)), (bL, .inl (cI, 4, .inl L)), (bT, .inl (cI, 4, .inl T)), (bU, .inl (cI, 6, .inl U))] sz)) (va_Qi (fun (r : Int32) (u : Unit) => r = 0) (fun (u : Unit) (t : State) => va_P (dC, dI) vwCl [(mo, .inr (2, [.int 1, .ref bL, .ref bT, .int (nI n), .ref bK, .ref bF, .ref bS, .ref bB, .int co, .int pl, .int st, .int jo, .int cn, .int ii, .int fi, .int fe, .ref bU])), (bK, .inl (cI, 60, .inl K)), (bF, .inl (cI, 60, .inl F)), (bS, .inl (cI, 60, .inl S)), (bB, .inl (cZ, 60, .inl B)), (bL, .inl (cI, 4, .inl L)), (bT, .inl (cI, 4, .inl T)), (bU, .inl (cI, 6, .inl U))] t.heap ∧ va_D (va_A [(mo, .inr (2, [.int tw, .ref bL, .ref bT, .int (nI n), .ref bK, .ref bF, .ref bS, .ref bB, .int co, .int pl, .int st, .int jo, .int cn, .int ii, .int fi, .int fe, .ref bU])), (bK, .inl (cI, 60, .inl K)), (bF, .inl (cI, 60, .inl F)), (bS, .inl (cI, 60, .inl S)), (bB, .inl (cZ, 60, .inl B)), (bL, .inl (cI, 4, .inl L)), (bT, .inl (cI, 4, .inl T)), (bU, .inl (cI, 6, .inl U))] sz) [(mo, .inr (2, [.int 1, .ref bL, .ref bT, .int (nI n), .ref bK, .ref bF, .ref bS, .ref bB, .int co, .int pl, .int st, .int jo, .int cn, .int ii, .int fi, .int fe, .ref bU])), (bK, .inl (cI, 60, .inl K)), (bF, .inl (cI, 60, .inl F)), (bS, .inl (cI, 60, .inl S)), (bB, .inl (cZ, 60, .inl B)), (bL, .inl (cI, 4, .inl L)), (bT, .inl (cI, 4, .inl T)), (bU, .inl (cI, 6, .inl U))]) (va_A [(mo, .inr (2, [.int tw, .ref bL, .ref bT, .int (nI n), .ref bK, .ref bF, .ref bS, .ref bB, .int co, .int pl, .int st, .int jo, .int cn, .int ii, .int fi, .int fe, .ref bU])), (bK, .inl (cI, 60, .inl K)), (bF, .inl (cI, 60, .inl F)), (bS, .inl (cI, 60, .inl S)), (bB, .inl (cZ, 60, .inl B)), (bL, .inl (cI, 4, .inl L)), (bT, .inl (cI, 4, .inl T)), (bU, .inl (cI, 6, .inl U))] sz)) 0 0 (va_A [(mo, .inr (2, [.int tw, .ref bL, .ref bT, .int (nI n), .ref bK, .ref bF, .ref bS, .ref bB, .int co, .int pl, .int st, .int jo, .int cn, .int ii, .int fi, .int fe, .ref bU])), (bK, .inl (cI, 60, .inl K)), (bF, .inl (cI, 60, .inl F)), (bS, .inl (cI, 60, .inl S)), (bB, .inl (cZ, 60, .inl B)), (bL, .inl (cI, 4, .inl L)), (bT, .inl (cI, 4, .inl T)), (bU, .inl (cI, 6, .inl U))] sz) := by
  refine Met.ofW (cc := cX2_shift) (maxL := 4) (ret := (some .int)) (by decide) rfl ?_
  intro p e s m args below meth c s₁ BB hml hv
  obtain ⟨rfl, hsz, hP, hK, hD0⟩ := hv
  have hx := BB.exec
  have hb := BB.bytes
  have hr := BB.returns
  have hts := atoms_spec (ws := wsX2_shift) BB.pre
  have hown : s.vm.findClass RX2 = some m.cls := findClass_of_methodNamed BB.named
  have hlocks := BB.notSynchronized
  subst hsz
  have hD := hD0.self (sz := s.heap.size)
  generalize hAe : va_A [(mo, .inr (2, [.int tw, .ref bL, .ref bT, .int (nI n), .ref bK, .ref bF, .ref bS, .ref bB, .int co, .int pl, .int st, .int jo, .int cn, .int ii, .int fi, .int fe, .ref bU])), (bK, .inl (cI, 60, .inl K)), (bF, .inl (cI, 60, .inl F)), (bS, .inl (cI, 60, .inl S)), (bB, .inl (cZ, 60, .inl B)), (bL, .inl (cI, 4, .inl L)), (bT, .inl (cI, 4, .inl T)), (bU, .inl (cI, 6, .inl U))] s.heap.size = A at hD ⊢
  have hA : ∀ q : Nat, s.heap.size ≤ q → A q := fun q h => by rw [← hAe]; exact Or.inr h
  have hS : va_S A s.heap s.heap [] := va_S.rf
  have hP : va_P (dC, dI) vwCl [(mo, .inr (2, [.int tw, .ref bL, .ref bT, .int (nI n), .ref bK, .ref bF, .ref bS, .ref bB, .int co, .int pl, .int st, .int jo, .int cn, .int ii, .int fi, .int fe, .ref bU])), (bK, .inl (cI, 60, .inl K)), (bF, .inl (cI, 60, .inl F)), (bS, .inl (cI, 60, .inl S)), (bB, .inl (cZ, 60, .inl B)), (bL, .inl (cI, 4, .inl L)), (bT, .inl (cI, 4, .inl T)), (bU, .inl (cI, 6, .inl U))] s.heap := hP
  have hl := lv_entry ([.ref mo, .int (nI i), .int y]) (n := 4) (Nat.le_of_ble_eq_true rfl)
  rw [lg_entry_eq]
  generalize (lg_sl ([.ref mo, .int (nI i), .int y]) ++ List.replicate (4 - (lg_sl ([.ref mo, .int (nI i), .int y])).length) Slot.unset).toArray = ls at hl ⊢
  have hl : lv_has ls 4 [(0, .ref mo), (1, .int (nI i)), (2, .int y)] := hl
  have k0 := hts (.fieldLink RX2 32 "KnifeLedgerModel" "thrown" "I") (by decide +kernel)
  have hinX2 : ∀ w ∈ wsX20, w ∈ wsX2_shift := by decide +kernel
  refine lv_aload_n hx hb dX2_shift_0 rfl (lv_at hl 0 rfl) ?_
  refine lv_iconst (v := 0) hx hb dX2_shift_1 (by decide) ?_
  refine va_put (D := (dC, dI)) (ci := 2) (v := .int 0) (ty := .int) (C := RX2) (T := TX2) (N := 17) hx hb hts hinX2 tyX2 tyX2_ok nmX2 hown hK hP hD hS 0 rfl rfl 0 (by decide) k0 (fun _ h9 => h9) rfl (by decide +kernel) rfl rfl (Nat.le_of_ble_eq_true rfl) dX2_shift_2 (fun H_1 locs hP hD hS => ?_)
  have hP : va_P (dC, dI) vwCl [(mo, .inr (2, [.int 0, .ref bL, .ref bT, .int (nI n), .ref bK, .ref bF, .ref bS, .ref bB, .int co, .int pl, .int st, .int jo, .int cn, .int ii, .int fi, .int fe, .ref bU])), (bK, .inl (cI, 60, .inl K)), (bF, .inl (cI, 60, .inl F)), (bS, .inl (cI, 60, .inl S)), (bB, .inl (cZ, 60, .inl B)), (bL, .inl (cI, 4, .inl L)), (bT, .inl (cI, 4, .inl T)), (bU, .inl (cI, 6, .inl U))] H_1 := hP
  have hD : va_D A [(mo, .inr (2, [.int 0, .ref bL, .ref bT, .int (nI n), .ref bK, .ref bF, .ref bS, .ref bB, .int co, .int pl, .int st, .int jo, .int cn, .int ii, .int fi, .int fe, .ref bU])), (bK, .inl (cI, 60, .inl K)), (bF, .inl (cI, 60, .inl F)), (bS, .inl (cI, 60, .inl S)), (bB, .inl (cZ, 60, .inl B)), (bL, .inl (cI, 4, .inl L)), (bT, .inl (cI, 4, .inl T)), (bU, .inl (cI, 6, .inl U))] := hD
  refine lv_aload_n hx hb dX2_shift_5 rfl (lv_at hl 0 rfl) ?_
  refine lv_iload_n hx hb dX2_shift_6 rfl (lv_at hl 1 rfl) ?_
  have hPc := hP.sub (ws' := [(mo, .inr (2, [.int 0, .ref bL, .ref bT, .int (nI n), .ref bK, .ref bF, .ref bS, .ref bB, .int co, .int pl, .int st, .int jo, .int cn, .int ii, .int fi, .int fe, .ref bU])), (bK, .inl (cI, 60, .inl K)), (bF, .inl (cI, 60, .inl F)), (bS, .inl (cI, 60, .inl S)), (bB, .inl (cZ, 60, .inl B)), (bL, .inl (cI, 4, .inl L)), (bT, .inl (cI, 4, .inl T)), (bU, .inl (cI, 6, .inl U))]) [0, 1, 2, 3, 4, 5, 6, 7] rfl
  have hDc := hD.sub (ws' := [(mo, .inr (2, [.int 0, .ref bL, .ref bT, .int (nI n), .ref bK, .ref bF, .ref bS, .ref bB, .int co, .int pl, .int st, .int jo, .int cn, .int ii, .int fi, .int fe, .ref bU])), (bK, .inl (cI, 60, .inl K)), (bF, .inl (cI, 60, .inl F)), (bS, .inl (cI, 60, .inl S)), (bB, .inl (cZ, 60, .inl B)), (bL, .inl (cI, 4, .inl L)), (bT, .inl (cI, 4, .inl T)), (bU, .inl (cI, 6, .inl U))]) [0, 1, 2, 3, 4, 5, 6, 7] (by decide) rfl
  have hKc := hK.sub (tys' := [(cI, .int), (cZ, .boolean)]) [0, 1] rfl
  have hFc := va_free (wc := [(mo, .inr (2, [.int 0, .ref bL, .ref bT, .int (nI n), .ref bK, .ref bF, .ref bS, .ref bB, .int co, .int pl, .int st, .int jo, .int cn, .int ii, .int fi, .int fe, .ref bU])), (bK, .inl (cI, 60, .inl K)), (bF, .inl (cI, 60, .inl F)), (bS, .inl (cI, 60, .inl S)), (bB, .inl (cZ, 60, .inl B)), (bL, .inl (cI, 4, .inl L)), (bT, .inl (cI, 4, .inl T)), (bU, .inl (cI, 6, .inl U))]) hD hS hA [0, 1, 2, 3, 4, 5, 6, 7] rfl
  refine va_calli (va_runV (As := [.int (nI i)]) (rest := []) ⟨hx, hb, hml, hown, hts⟩ (c_X2_isEntry l dC dI cI cZ mo bK bF bS bB bL bT bU H_1.size L T K F S B U n 0 co pl st jo cn ii fi fe (nI i)) (cwV 1 hts gX2_shift_X2_isEntry rfl rfl rfl (by decide +kernel) ⟨Nat.le_of_ble_eq_true rfl, Nat.le_of_ble_eq_true rfl⟩) (pc_V hKc hPc hDc (ci := 2) (C := RX2) (T := TX2) (N := 17) (q0 := 0) rfl rfl) rfl rfl hl.1 rfl (lv_room (Nat.le_of_ble_eq_true rfl)) dX2_shift_7 ⟨Nat.le_of_ble_eq_true rfl, Nat.le_of_ble_eq_true rfl⟩) hS (fun q _ h => hFc q h) hFc (fun r_2 u t H_2 locs ht hvm hw hB hz1 hk1 hS => ?_)
  try dsimp only at hw hB
  have hw_2 := hw
  replace hw_2 := hw_2.symm
  subst hw_2
  obtain ⟨hP1, hD1⟩ := hB
  rw [ht] at hP1
  obtain ⟨hP, hD⟩ := va_join (wr := []) (w1 := [(mo, .inr (2, [.int 0, .ref bL, .ref bT, .int (nI n), .ref bK, .ref bF, .ref bS, .ref bB, .int co, .int pl, .int st, .int jo, .int cn, .int ii, .int fi, .int fe, .ref bU])), (bK, .inl (cI, 60, .inl K)), (bF, .inl (cI, 60, .inl F)), (bS, .inl (cI, 60, .inl S)), (bB, .inl (cZ, 60, .inl B)), (bL, .inl (cI, 4, .inl L)), (bT, .inl (cI, 4, .inl T)), (bU, .inl (cI, 6, .inl U))]) hP hD [0, 1, 2, 3, 4, 5, 6, 7] [] rfl rfl (by decide) (by decide) hk1 hFc hP1 hD1
  have hP : va_P (dC, dI) vwCl [(mo, .inr (2, [.int 0, .ref bL, .ref bT, .int (nI n), .ref bK, .ref bF, .ref bS, .ref bB, .int co, .int pl, .int st, .int jo, .int cn, .int ii, .int fi, .int fe, .ref bU])), (bK, .inl (cI, 60, .inl K)), (bF, .inl (cI, 60, .inl F)), (bS, .inl (cI, 60, .inl S)), (bB, .inl (cZ, 60, .inl B)), (bL, .inl (cI, 4, .inl L)), (bT, .inl (cI, 4, .inl T)), (bU, .inl (cI, 6, .inl U))] H_2 := hP
  have hD : va_D A [(mo, .inr (2, [.int 0, .ref bL, .ref bT, .int (nI n), .ref bK, .ref bF, .ref bS, .ref bB, .int co, .int pl, .int st, .int jo, .int cn, .int ii, .int fi, .int fe, .ref bU])), (bK, .inl (cI, 60, .inl K)), (bF, .inl (cI, 60, .inl F)), (bS, .inl (cI, 60, .inl S)), (bB, .inl (cZ, 60, .inl B)), (bL, .inl (cI, 4, .inl L)), (bT, .inl (cI, 4, .inl T)), (bU, .inl (cI, 6, .inl U))] := hD
  refine lv_if_eq (tgt := 21) hx hb dX2_shift_10 (by decide) (fun h9 => absurd h9 (by rw [mIn_ent hi hX.1]; exact one_ne)) (fun _ => ?_)
  refine lv_aload_n hx hb dX2_shift_13 rfl (lv_at hl 0 rfl) ?_
  refine lv_iload_n hx hb dX2_shift_14 rfl (lv_at hl 2 rfl) ?_
  have hPc := hP.sub (ws' := [(mo, .inr (2, [.int 0, .ref bL, .ref bT, .int (nI n), .ref bK, .ref bF, .ref bS, .ref bB, .int co, .int pl, .int st, .int jo, .int cn, .int ii, .int fi, .int fe, .ref bU])), (bK, .inl (cI, 60, .inl K)), (bF, .inl (cI, 60, .inl F)), (bS, .inl (cI, 60, .inl S)), (bB, .inl (cZ, 60, .inl B)), (bL, .inl (cI, 4, .inl L)), (bT, .inl (cI, 4, .inl T)), (bU, .inl (cI, 6, .inl U))]) [0, 1, 2, 3, 4, 5, 6, 7] rfl
  have hDc := hD.sub (ws' := [(mo, .inr (2, [.int 0, .ref bL, .ref bT, .int (nI n), .ref bK, .ref bF, .ref bS, .ref bB, .int co, .int pl, .int st, .int jo, .int cn, .int ii, .int fi, .int fe, .ref bU])), (bK, .inl (cI, 60, .inl K)), (bF, .inl (cI, 60, .inl F)), (bS, .inl (cI, 60, .inl S)), (bB, .inl (cZ, 60, .inl B)), (bL, .inl (cI, 4, .inl L)), (bT, .inl (cI, 4, .inl T)), (bU, .inl (cI, 6, .inl U))]) [0, 1, 2, 3, 4, 5, 6, 7] (by decide) rfl
  have hKc := hK.sub (tys' := [(cI, .int), (cZ, .boolean)]) [0, 1] rfl
  have hFc := va_free (wc := [(mo, .inr (2, [.int 0, .ref bL, .ref bT, .int (nI n), .ref bK, .ref bF, .ref bS, .ref bB, .int co, .int pl, .int st, .int jo, .int cn, .int ii, .int fi, .int fe, .ref bU])), (bK, .inl (cI, 60, .inl K)), (bF, .inl (cI, 60, .inl F)), (bS, .inl (cI, 60, .inl S)), (bB, .inl (cZ, 60, .inl B)), (bL, .inl (cI, 4, .inl L)), (bT, .inl (cI, 4, .inl T)), (bU, .inl (cI, 6, .inl U))]) hD hS hA [0, 1, 2, 3, 4, 5, 6, 7] rfl
  refine va_calli (va_runV (As := [.int y]) (rest := []) ⟨hx, hb, hml, hown, hts⟩ (c_X2_isEntry l dC dI cI cZ mo bK bF bS bB bL bT bU H_2.size L T K F S B U n 0 co pl st jo cn ii fi fe y) (cwV 1 hts gX2_shift_X2_isEntry rfl rfl rfl (by decide +kernel) ⟨Nat.le_of_ble_eq_true rfl, Nat.le_of_ble_eq_true rfl⟩) (pc_V hKc hPc hDc (ci := 2) (C := RX2) (T := TX2) (N := 17) (q0 := 0) rfl rfl) rfl rfl hl.1 rfl (lv_room (Nat.le_of_ble_eq_true rfl)) dX2_shift_15 ⟨Nat.le_of_ble_eq_true rfl, Nat.le_of_ble_eq_true rfl⟩) hS (fun q _ h => hFc q h) hFc (fun r_3 u t H_3 locs ht hvm hw hB hz1 hk1 hS => ?_)
  try dsimp only at hw hB
  have hw_3 := hw
  replace hw_3 := hw_3.symm
  subst hw_3
  obtain ⟨hP1, hD1⟩ := hB
  rw [ht] at hP1
  obtain ⟨hP, hD⟩ := va_join (wr := []) (w1 := [(mo, .inr (2, [.int 0, .ref bL, .ref bT, .int (nI n), .ref bK, .ref bF, .ref bS, .ref bB, .int co, .int pl, .int st, .int jo, .int cn, .int ii, .int fi, .int fe, .ref bU])), (bK, .inl (cI, 60, .inl K)), (bF, .inl (cI, 60, .inl F)), (bS, .inl (cI, 60, .inl S)), (bB, .inl (cZ, 60, .inl B)), (bL, .inl (cI, 4, .inl L)), (bT, .inl (cI, 4, .inl T)), (bU, .inl (cI, 6, .inl U))]) hP hD [0, 1, 2, 3, 4, 5, 6, 7] [] rfl rfl (by decide) (by decide) hk1 hFc hP1 hD1
  have hP : va_P (dC, dI) vwCl [(mo, .inr (2, [.int 0, .ref bL, .ref bT, .int (nI n), .ref bK, .ref bF, .ref bS, .ref bB, .int co, .int pl, .int st, .int jo, .int cn, .int ii, .int fi, .int fe, .ref bU])), (bK, .inl (cI, 60, .inl K)), (bF, .inl (cI, 60, .inl F)), (bS, .inl (cI, 60, .inl S)), (bB, .inl (cZ, 60, .inl B)), (bL, .inl (cI, 4, .inl L)), (bT, .inl (cI, 4, .inl T)), (bU, .inl (cI, 6, .inl U))] H_3 := hP
  have hD : va_D A [(mo, .inr (2, [.int 0, .ref bL, .ref bT, .int (nI n), .ref bK, .ref bF, .ref bS, .ref bB, .int co, .int pl, .int st, .int jo, .int cn, .int ii, .int fi, .int fe, .ref bU])), (bK, .inl (cI, 60, .inl K)), (bF, .inl (cI, 60, .inl F)), (bS, .inl (cI, 60, .inl S)), (bB, .inl (cZ, 60, .inl B)), (bL, .inl (cI, 4, .inl L)), (bT, .inl (cI, 4, .inl T)), (bU, .inl (cI, 6, .inl U))] := hD
  refine lv_if_ne (tgt := 27) hx hb dX2_shift_18 (by decide) (fun h9 => absurd (mIn_nent hX.1 hxb) h9) (fun _ => ?_)
  refine lv_aload_n hx hb dX2_shift_21 rfl (lv_at hl 0 rfl) ?_
  refine lv_iconst (v := 1) hx hb dX2_shift_22 (by decide) ?_
  have hPc := hP.sub (ws' := [(mo, .inr (2, [.int 0, .ref bL, .ref bT, .int (nI n), .ref bK, .ref bF, .ref bS, .ref bB, .int co, .int pl, .int st, .int jo, .int cn, .int ii, .int fi, .int fe, .ref bU])), (bK, .inl (cI, 60, .inl K)), (bF, .inl (cI, 60, .inl F)), (bS, .inl (cI, 60, .inl S)), (bB, .inl (cZ, 60, .inl B)), (bL, .inl (cI, 4, .inl L)), (bT, .inl (cI, 4, .inl T)), (bU, .inl (cI, 6, .inl U))]) [0, 1, 2, 3, 4, 5, 6, 7] rfl
  have hDc := hD.sub (ws' := [(mo, .inr (2, [.int 0, .ref bL, .ref bT, .int (nI n), .ref bK, .ref bF, .ref bS, .ref bB, .int co, .int pl, .int st, .int jo, .int cn, .int ii, .int fi, .int fe, .ref bU])), (bK, .inl (cI, 60, .inl K)), (bF, .inl (cI, 60, .inl F)), (bS, .inl (cI, 60, .inl S)), (bB, .inl (cZ, 60, .inl B)), (bL, .inl (cI, 4, .inl L)), (bT, .inl (cI, 4, .inl T)), (bU, .inl (cI, 6, .inl U))]) [0, 1, 2, 3, 4, 5, 6, 7] (by decide) rfl
  have hKc := hK.sub (tys' := [(cI, .int), (cZ, .boolean)]) [0, 1] rfl
  have hFc := va_free (wc := [(mo, .inr (2, [.int 0, .ref bL, .ref bT, .int (nI n), .ref bK, .ref bF, .ref bS, .ref bB, .int co, .int pl, .int st, .int jo, .int cn, .int ii, .int fi, .int fe, .ref bU])), (bK, .inl (cI, 60, .inl K)), (bF, .inl (cI, 60, .inl F)), (bS, .inl (cI, 60, .inl S)), (bB, .inl (cZ, 60, .inl B)), (bL, .inl (cI, 4, .inl L)), (bT, .inl (cI, 4, .inl T)), (bU, .inl (cI, 6, .inl U))]) hD hS hA [0, 1, 2, 3, 4, 5, 6, 7] rfl
  refine va_calli (va_runV (As := [.int 1]) (rest := []) ⟨hx, hb, hml, hown, hts⟩ (c_X2_fail l dC dI cI cZ mo bK bF bS bB bL bT bU H_3.size L T K F S B U n 0 co pl st jo cn ii fi fe 1) (cwV 1 hts gX2_shift_X2_fail rfl rfl rfl (by decide +kernel) ⟨Nat.le_of_ble_eq_true rfl, Nat.le_of_ble_eq_true rfl⟩) (pc_V hKc hPc hDc (ci := 2) (C := RX2) (T := TX2) (N := 17) (q0 := 0) rfl rfl) rfl rfl hl.1 rfl (lv_room (Nat.le_of_ble_eq_true rfl)) dX2_shift_23 ⟨Nat.le_of_ble_eq_true rfl, Nat.le_of_ble_eq_true rfl⟩) hS (fun q _ h => hFc q h) hFc (fun r_4 u t H_4 locs ht hvm hw hB hz1 hk1 hS => ?_)
  try dsimp only at hw hB
  have hw_4 := hw
  replace hw_4 := hw_4.symm
  subst hw_4
  obtain ⟨hP1, hD1⟩ := hB
  rw [ht] at hP1
  obtain ⟨hP, hD⟩ := va_join (wr := []) (w1 := [(mo, .inr (2, [.int 1, .ref bL, .ref bT, .int (nI n), .ref bK, .ref bF, .ref bS, .ref bB, .int co, .int pl, .int st, .int jo, .int cn, .int ii, .int fi, .int fe, .ref bU])), (bK, .inl (cI, 60, .inl K)), (bF, .inl (cI, 60, .inl F)), (bS, .inl (cI, 60, .inl S)), (bB, .inl (cZ, 60, .inl B)), (bL, .inl (cI, 4, .inl L)), (bT, .inl (cI, 4, .inl T)), (bU, .inl (cI, 6, .inl U))]) hP hD [0, 1, 2, 3, 4, 5, 6, 7] [] rfl rfl (by decide) (by decide) hk1 hFc hP1 hD1
  have hP : va_P (dC, dI) vwCl [(mo, .inr (2, [.int 1, .ref bL, .ref bT, .int (nI n), .ref bK, .ref bF, .ref bS, .ref bB, .int co, .int pl, .int st, .int jo, .int cn, .int ii, .int fi, .int fe, .ref bU])), (bK, .inl (cI, 60, .inl K)), (bF, .inl (cI, 60, .inl F)), (bS, .inl (cI, 60, .inl S)), (bB, .inl (cZ, 60, .inl B)), (bL, .inl (cI, 4, .inl L)), (bT, .inl (cI, 4, .inl T)), (bU, .inl (cI, 6, .inl U))] H_4 := hP
  have hD : va_D A [(mo, .inr (2, [.int 1, .ref bL, .ref bT, .int (nI n), .ref bK, .ref bF, .ref bS, .ref bB, .int co, .int pl, .int st, .int jo, .int cn, .int ii, .int fi, .int fe, .ref bU])), (bK, .inl (cI, 60, .inl K)), (bF, .inl (cI, 60, .inl F)), (bS, .inl (cI, 60, .inl S)), (bB, .inl (cZ, 60, .inl B)), (bL, .inl (cI, 4, .inl L)), (bT, .inl (cI, 4, .inl T)), (bU, .inl (cI, 6, .inl U))] := hD
  have hpost : (0 : Int32) = 0 := by
    rfl
  have hP9 := hP.sub (ws' := [(mo, .inr (2, [.int 1, .ref bL, .ref bT, .int (nI n), .ref bK, .ref bF, .ref bS, .ref bB, .int co, .int pl, .int st, .int jo, .int cn, .int ii, .int fi, .int fe, .ref bU])), (bK, .inl (cI, 60, .inl K)), (bF, .inl (cI, 60, .inl F)), (bS, .inl (cI, 60, .inl S)), (bB, .inl (cZ, 60, .inl B)), (bL, .inl (cI, 4, .inl L)), (bT, .inl (cI, 4, .inl T)), (bU, .inl (cI, 6, .inl U))]) [0, 1, 2, 3, 4, 5, 6, 7] rfl
  have hD9 := hD.sub (ws' := [(mo, .inr (2, [.int 1, .ref bL, .ref bT, .int (nI n), .ref bK, .ref bF, .ref bS, .ref bB, .int co, .int pl, .int st, .int jo, .int cn, .int ii, .int fi, .int fe, .ref bU])), (bK, .inl (cI, 60, .inl K)), (bF, .inl (cI, 60, .inl F)), (bS, .inl (cI, 60, .inl S)), (bB, .inl (cZ, 60, .inl B)), (bL, .inl (cI, 4, .inl L)), (bT, .inl (cI, 4, .inl T)), (bU, .inl (cI, 6, .inl U))]) [0, 1, 2, 3, 4, 5, 6, 7] (by decide) rfl
  exact W.iret (v := 0) hx hb hr (fun t ht hW => ⟨⟨0, (), rfl, hpost, by rw [ht]; exact hP9, hD9⟩, hS.F ht⟩) hS.2.2 dX2_shift_26

set_option maxHeartbeats 4000000 in
set_option maxRecDepth 100000 in
theorem c_X2_tear (l : Launch) (dC : Nat → ClassId) (dI : Nat → Nat → Nat) (cI cZ : ClassId) (mo bK bF bS bB bL bT bU : Nat) (sz : Nat) (L : N2I) (T : N2I) (K : N2I) (F : N2I) (S : N2I) (B : N2I) (U : N2I) (n : Nat) (tw : Int32) (co : Int32) (pl : Int32) (st : Int32) (jo : Int32) (cn : Int32) (ii : Int32) (fi : Int32) (fe : Int32) (mm : Nat) (hnm : n = mm + 1) (hm : mm < 60) : Met l yX2_tear wsX2_tear ({ frames := 1, cells := 0, slots := 0, locals := 21 } : Room) (va_Pc [.ref mo] (pc_ (dC, dI) [(cI, .int), (cZ, .boolean)] [(mo, .inr (2, [.int tw, .ref bL, .ref bT, .int (nI n), .ref bK, .ref bF, .ref bS, .ref bB, .int co, .int pl, .int st, .int jo, .int cn, .int ii, .int fi, .int fe, .ref bU])), (bK, .inl (cI, 60, .inl K)), (bF, .inl (cI, 60, .inl F)), (bS, .inl (cI, 60, .inl S)), (bB, .inl (cZ, 60, .inl B)), (bL, .inl (cI, 4, .inl L)), (bT, .inl (cI, 4, .inl T)), (bU, .inl (cI, 6, .inl U))] sz)) (va_Qi (fun (r : Int32) (u : Unit) => r = K mm) (fun (u : Unit) (t : State) => va_P (dC, dI) vwCl [(mo, .inr (2, [.int 0, .ref bL, .ref bT, .int (nI mm), .ref bK, .ref bF, .ref bS, .ref bB, .int co, .int pl, .int st, .int jo, .int cn, .int ii, .int fi, .int fe, .ref bU])), (bK, .inl (cI, 60, .inl K)), (bF, .inl (cI, 60, .inl F)), (bS, .inl (cI, 60, .inl S)), (bB, .inl (cZ, 60, .inl B)), (bL, .inl (cI, 4, .inl L)), (bT, .inl (cI, 4, .inl T)), (bU, .inl (cI, 6, .inl U))] t.heap ∧ va_D (va_A [(mo, .inr (2, [.int tw, .ref bL, .ref bT, .int (nI n), .ref bK, .ref bF, .ref bS, .ref bB, .int co, .int pl, .int st, .int jo, .int cn, .int ii, .int fi, .int fe, .ref bU])), (bK, .inl (cI, 60, .inl K)), (bF, .inl (cI, 60, .inl F)), (bS, .inl (cI, 60, .inl S)), (bB, .inl (cZ, 60, .inl B)), (bL, .inl (cI, 4, .inl L)), (bT, .inl (cI, 4, .inl T)), (bU, .inl (cI, 6, .inl U))] sz) [(mo, .inr (2, [.int 0, .ref bL, .ref bT, .int (nI mm), .ref bK, .ref bF, .ref bS, .ref bB, .int co, .int pl, .int st, .int jo, .int cn, .int ii, .int fi, .int fe, .ref bU])), (bK, .inl (cI, 60, .inl K)), (bF, .inl (cI, 60, .inl F)), (bS, .inl (cI, 60, .inl S)), (bB, .inl (cZ, 60, .inl B)), (bL, .inl (cI, 4, .inl L)), (bT, .inl (cI, 4, .inl T)), (bU, .inl (cI, 6, .inl U))]) (va_A [(mo, .inr (2, [.int tw, .ref bL, .ref bT, .int (nI n), .ref bK, .ref bF, .ref bS, .ref bB, .int co, .int pl, .int st, .int jo, .int cn, .int ii, .int fi, .int fe, .ref bU])), (bK, .inl (cI, 60, .inl K)), (bF, .inl (cI, 60, .inl F)), (bS, .inl (cI, 60, .inl S)), (bB, .inl (cZ, 60, .inl B)), (bL, .inl (cI, 4, .inl L)), (bT, .inl (cI, 4, .inl T)), (bU, .inl (cI, 6, .inl U))] sz)) 0 0 (va_A [(mo, .inr (2, [.int tw, .ref bL, .ref bT, .int (nI n), .ref bK, .ref bF, .ref bS, .ref bB, .int co, .int pl, .int st, .int jo, .int cn, .int ii, .int fi, .int fe, .ref bU])), (bK, .inl (cI, 60, .inl K)), (bF, .inl (cI, 60, .inl F)), (bS, .inl (cI, 60, .inl S)), (bB, .inl (cZ, 60, .inl B)), (bL, .inl (cI, 4, .inl L)), (bT, .inl (cI, 4, .inl T)), (bU, .inl (cI, 6, .inl U))] sz) := by
  refine Met.ofW (cc := cX2_tear) (maxL := 1) (ret := (some .int)) (by decide) rfl ?_
  intro p e s m args below meth c s₁ BB hml hv
  obtain ⟨rfl, hsz, hP, hK, hD0⟩ := hv
  have hx := BB.exec
  have hb := BB.bytes
  have hr := BB.returns
  have hts := atoms_spec (ws := wsX2_tear) BB.pre
  have hown : s.vm.findClass RX2 = some m.cls := findClass_of_methodNamed BB.named
  have hlocks := BB.notSynchronized
  subst hsz
  have hD := hD0.self (sz := s.heap.size)
  generalize hAe : va_A [(mo, .inr (2, [.int tw, .ref bL, .ref bT, .int (nI n), .ref bK, .ref bF, .ref bS, .ref bB, .int co, .int pl, .int st, .int jo, .int cn, .int ii, .int fi, .int fe, .ref bU])), (bK, .inl (cI, 60, .inl K)), (bF, .inl (cI, 60, .inl F)), (bS, .inl (cI, 60, .inl S)), (bB, .inl (cZ, 60, .inl B)), (bL, .inl (cI, 4, .inl L)), (bT, .inl (cI, 4, .inl T)), (bU, .inl (cI, 6, .inl U))] s.heap.size = A at hD ⊢
  have hA : ∀ q : Nat, s.heap.size ≤ q → A q := fun q h => by rw [← hAe]; exact Or.inr h
  have hS : va_S A s.heap s.heap [] := va_S.rf
  have hP : va_P (dC, dI) vwCl [(mo, .inr (2, [.int tw, .ref bL, .ref bT, .int (nI n), .ref bK, .ref bF, .ref bS, .ref bB, .int co, .int pl, .int st, .int jo, .int cn, .int ii, .int fi, .int fe, .ref bU])), (bK, .inl (cI, 60, .inl K)), (bF, .inl (cI, 60, .inl F)), (bS, .inl (cI, 60, .inl S)), (bB, .inl (cZ, 60, .inl B)), (bL, .inl (cI, 4, .inl L)), (bT, .inl (cI, 4, .inl T)), (bU, .inl (cI, 6, .inl U))] s.heap := hP
  have hl := lv_entry ([.ref mo]) (n := 1) (Nat.le_of_ble_eq_true rfl)
  rw [lg_entry_eq]
  generalize (lg_sl ([.ref mo]) ++ List.replicate (1 - (lg_sl ([.ref mo])).length) Slot.unset).toArray = ls at hl ⊢
  have hl : lv_has ls 1 [(0, .ref mo)] := hl
  have k0 := hts (.fieldLink RX2 32 "KnifeLedgerModel" "thrown" "I") (by decide +kernel)
  have hinX2 : ∀ w ∈ wsX20, w ∈ wsX2_tear := by decide +kernel
  have k2 := hts (.fieldLink RX2 36 "KnifeLedgerModel" "entries" "I") (by decide +kernel)
  have k3 := hts (.fieldLink RX2 16 "KnifeLedgerModel" "kinds" "[I") (by decide +kernel)
  refine lv_aload_n hx hb dX2_tear_0 rfl (lv_at hl 0 rfl) ?_
  refine lv_iconst (v := 0) hx hb dX2_tear_1 (by decide) ?_
  refine va_put (D := (dC, dI)) (ci := 2) (v := .int 0) (ty := .int) (C := RX2) (T := TX2) (N := 17) hx hb hts hinX2 tyX2 tyX2_ok nmX2 hown hK hP hD hS 0 rfl rfl 0 (by decide) k0 (fun _ h9 => h9) rfl (by decide +kernel) rfl rfl (Nat.le_of_ble_eq_true rfl) dX2_tear_2 (fun H_1 locs hP hD hS => ?_)
  have hP : va_P (dC, dI) vwCl [(mo, .inr (2, [.int 0, .ref bL, .ref bT, .int (nI n), .ref bK, .ref bF, .ref bS, .ref bB, .int co, .int pl, .int st, .int jo, .int cn, .int ii, .int fi, .int fe, .ref bU])), (bK, .inl (cI, 60, .inl K)), (bF, .inl (cI, 60, .inl F)), (bS, .inl (cI, 60, .inl S)), (bB, .inl (cZ, 60, .inl B)), (bL, .inl (cI, 4, .inl L)), (bT, .inl (cI, 4, .inl T)), (bU, .inl (cI, 6, .inl U))] H_1 := hP
  have hD : va_D A [(mo, .inr (2, [.int 0, .ref bL, .ref bT, .int (nI n), .ref bK, .ref bF, .ref bS, .ref bB, .int co, .int pl, .int st, .int jo, .int cn, .int ii, .int fi, .int fe, .ref bU])), (bK, .inl (cI, 60, .inl K)), (bF, .inl (cI, 60, .inl F)), (bS, .inl (cI, 60, .inl S)), (bB, .inl (cZ, 60, .inl B)), (bL, .inl (cI, 4, .inl L)), (bT, .inl (cI, 4, .inl T)), (bU, .inl (cI, 6, .inl U))] := hD
  refine lv_aload_n hx hb dX2_tear_5 rfl (lv_at hl 0 rfl) ?_
  refine va_get (D := (dC, dI)) (ci := 2) (v := .int (nI n)) (C := RX2) (T := TX2) (N := 17) hx hb hts hinX2 hown hK hP 0 rfl rfl 3 (by decide) k2 (fun _ h9 => h9) rfl dX2_tear_6 ?_
  refine lv_if_ne (tgt := 18) hx hb dX2_tear_9 (by decide) (fun _ => ?_) (fun h9 => absurd h9 (nI_ne0 (by omega) (by omega)))
  refine lv_aload_n hx hb dX2_tear_18 rfl (lv_at hl 0 rfl) ?_
  refine lv_dup hx hb dX2_tear_19 rfl ?_
  refine va_get (D := (dC, dI)) (ci := 2) (v := .int (nI n)) (C := RX2) (T := TX2) (N := 17) hx hb hts hinX2 hown hK hP 0 rfl rfl 3 (by decide) k2 (fun _ h9 => h9) rfl dX2_tear_20 ?_
  refine lv_iconst (v := 1) hx hb dX2_tear_23 (by decide) ?_
  refine lv_isub hx hb dX2_tear_24 ?_
  rw [show nI n - 1 = nI mm from by rw [hnm]; exact nI_pred mm]
  refine va_put (D := (dC, dI)) (ci := 2) (v := .int (nI mm)) (ty := .int) (C := RX2) (T := TX2) (N := 17) hx hb hts hinX2 tyX2 tyX2_ok nmX2 hown hK hP hD hS 0 rfl rfl 3 (by decide) k2 (fun _ h9 => h9) rfl (by decide +kernel) rfl rfl (Nat.le_of_ble_eq_true rfl) dX2_tear_25 (fun H_2 locs hP hD hS => ?_)
  have hP : va_P (dC, dI) vwCl [(mo, .inr (2, [.int 0, .ref bL, .ref bT, .int (nI mm), .ref bK, .ref bF, .ref bS, .ref bB, .int co, .int pl, .int st, .int jo, .int cn, .int ii, .int fi, .int fe, .ref bU])), (bK, .inl (cI, 60, .inl K)), (bF, .inl (cI, 60, .inl F)), (bS, .inl (cI, 60, .inl S)), (bB, .inl (cZ, 60, .inl B)), (bL, .inl (cI, 4, .inl L)), (bT, .inl (cI, 4, .inl T)), (bU, .inl (cI, 6, .inl U))] H_2 := hP
  have hD : va_D A [(mo, .inr (2, [.int 0, .ref bL, .ref bT, .int (nI mm), .ref bK, .ref bF, .ref bS, .ref bB, .int co, .int pl, .int st, .int jo, .int cn, .int ii, .int fi, .int fe, .ref bU])), (bK, .inl (cI, 60, .inl K)), (bF, .inl (cI, 60, .inl F)), (bS, .inl (cI, 60, .inl S)), (bB, .inl (cZ, 60, .inl B)), (bL, .inl (cI, 4, .inl L)), (bT, .inl (cI, 4, .inl T)), (bU, .inl (cI, 6, .inl U))] := hD
  refine lv_aload_n hx hb dX2_tear_28 rfl (lv_at hl 0 rfl) ?_
  refine va_get (D := (dC, dI)) (ci := 2) (v := .ref bK) (C := RX2) (T := TX2) (N := 17) hx hb hts hinX2 hown hK hP 0 rfl rfl 4 (by decide) k3 (fun _ h9 => h9) rfl dX2_tear_29 ?_
  refine lv_aload_n hx hb dX2_tear_32 rfl (lv_at hl 0 rfl) ?_
  refine va_get (D := (dC, dI)) (ci := 2) (v := .int (nI mm)) (C := RX2) (T := TX2) (N := 17) hx hb hts hinX2 hown hK hP 0 rfl rfl 3 (by decide) k2 (fun _ h9 => h9) rfl dX2_tear_33 ?_
  refine va_iald hx hb hK hP 1 0 rfl rfl (vp_in_nI (by omega) (by omega)) dX2_tear_36 ?_
  rw [nI_clamp (n := mm) (by omega)]
  have hpost : (K mm) = K mm := by
    rfl
  have hP9 := hP.sub (ws' := [(mo, .inr (2, [.int 0, .ref bL, .ref bT, .int (nI mm), .ref bK, .ref bF, .ref bS, .ref bB, .int co, .int pl, .int st, .int jo, .int cn, .int ii, .int fi, .int fe, .ref bU])), (bK, .inl (cI, 60, .inl K)), (bF, .inl (cI, 60, .inl F)), (bS, .inl (cI, 60, .inl S)), (bB, .inl (cZ, 60, .inl B)), (bL, .inl (cI, 4, .inl L)), (bT, .inl (cI, 4, .inl T)), (bU, .inl (cI, 6, .inl U))]) [0, 1, 2, 3, 4, 5, 6, 7] rfl
  have hD9 := hD.sub (ws' := [(mo, .inr (2, [.int 0, .ref bL, .ref bT, .int (nI mm), .ref bK, .ref bF, .ref bS, .ref bB, .int co, .int pl, .int st, .int jo, .int cn, .int ii, .int fi, .int fe, .ref bU])), (bK, .inl (cI, 60, .inl K)), (bF, .inl (cI, 60, .inl F)), (bS, .inl (cI, 60, .inl S)), (bB, .inl (cZ, 60, .inl B)), (bL, .inl (cI, 4, .inl L)), (bT, .inl (cI, 4, .inl T)), (bU, .inl (cI, 6, .inl U))]) [0, 1, 2, 3, 4, 5, 6, 7] (by decide) rfl
  exact W.iret (v := K mm) hx hb hr (fun t ht hW => ⟨⟨(K mm), (), rfl, hpost, by rw [ht]; exact hP9, hD9⟩, hS.F ht⟩) hS.2.2 dX2_tear_37

set_option maxHeartbeats 4000000 in
set_option maxRecDepth 100000 in
theorem c_X2_tear_f1 (l : Launch) (dC : Nat → ClassId) (dI : Nat → Nat → Nat) (cI cZ : ClassId) (mo bK bF bS bB bL bT bU : Nat) (sz : Nat) (L : N2I) (T : N2I) (K : N2I) (F : N2I) (S : N2I) (B : N2I) (U : N2I) (n : Nat) (tw : Int32) (co : Int32) (pl : Int32) (st : Int32) (jo : Int32) (cn : Int32) (ii : Int32) (fi : Int32) (fe : Int32) (hn0 : n = 0) : Met l yX2_tear wsX2_tear ({ frames := 1, cells := 0, slots := 0, locals := 21 } : Room) (va_Pc [.ref mo] (pc_ (dC, dI) [(cI, .int), (cZ, .boolean)] [(mo, .inr (2, [.int tw, .ref bL, .ref bT, .int (nI n), .ref bK, .ref bF, .ref bS, .ref bB, .int co, .int pl, .int st, .int jo, .int cn, .int ii, .int fi, .int fe, .ref bU])), (bK, .inl (cI, 60, .inl K)), (bF, .inl (cI, 60, .inl F)), (bS, .inl (cI, 60, .inl S)), (bB, .inl (cZ, 60, .inl B)), (bL, .inl (cI, 4, .inl L)), (bT, .inl (cI, 4, .inl T)), (bU, .inl (cI, 6, .inl U))] sz)) (va_Qi (fun (r : Int32) (u : Unit) => r = 0) (fun (u : Unit) (t : State) => va_P (dC, dI) vwCl [(mo, .inr (2, [.int 1, .ref bL, .ref bT, .int (nI n), .ref bK, .ref bF, .ref bS, .ref bB, .int co, .int pl, .int st, .int jo, .int cn, .int ii, .int fi, .int fe, .ref bU])), (bK, .inl (cI, 60, .inl K)), (bF, .inl (cI, 60, .inl F)), (bS, .inl (cI, 60, .inl S)), (bB, .inl (cZ, 60, .inl B)), (bL, .inl (cI, 4, .inl L)), (bT, .inl (cI, 4, .inl T)), (bU, .inl (cI, 6, .inl U))] t.heap ∧ va_D (va_A [(mo, .inr (2, [.int tw, .ref bL, .ref bT, .int (nI n), .ref bK, .ref bF, .ref bS, .ref bB, .int co, .int pl, .int st, .int jo, .int cn, .int ii, .int fi, .int fe, .ref bU])), (bK, .inl (cI, 60, .inl K)), (bF, .inl (cI, 60, .inl F)), (bS, .inl (cI, 60, .inl S)), (bB, .inl (cZ, 60, .inl B)), (bL, .inl (cI, 4, .inl L)), (bT, .inl (cI, 4, .inl T)), (bU, .inl (cI, 6, .inl U))] sz) [(mo, .inr (2, [.int 1, .ref bL, .ref bT, .int (nI n), .ref bK, .ref bF, .ref bS, .ref bB, .int co, .int pl, .int st, .int jo, .int cn, .int ii, .int fi, .int fe, .ref bU])), (bK, .inl (cI, 60, .inl K)), (bF, .inl (cI, 60, .inl F)), (bS, .inl (cI, 60, .inl S)), (bB, .inl (cZ, 60, .inl B)), (bL, .inl (cI, 4, .inl L)), (bT, .inl (cI, 4, .inl T)), (bU, .inl (cI, 6, .inl U))]) (va_A [(mo, .inr (2, [.int tw, .ref bL, .ref bT, .int (nI n), .ref bK, .ref bF, .ref bS, .ref bB, .int co, .int pl, .int st, .int jo, .int cn, .int ii, .int fi, .int fe, .ref bU])), (bK, .inl (cI, 60, .inl K)), (bF, .inl (cI, 60, .inl F)), (bS, .inl (cI, 60, .inl S)), (bB, .inl (cZ, 60, .inl B)), (bL, .inl (cI, 4, .inl L)), (bT, .inl (cI, 4, .inl T)), (bU, .inl (cI, 6, .inl U))] sz)) 0 0 (va_A [(mo, .inr (2, [.int tw, .ref bL, .ref bT, .int (nI n), .ref bK, .ref bF, .ref bS, .ref bB, .int co, .int pl, .int st, .int jo, .int cn, .int ii, .int fi, .int fe, .ref bU])), (bK, .inl (cI, 60, .inl K)), (bF, .inl (cI, 60, .inl F)), (bS, .inl (cI, 60, .inl S)), (bB, .inl (cZ, 60, .inl B)), (bL, .inl (cI, 4, .inl L)), (bT, .inl (cI, 4, .inl T)), (bU, .inl (cI, 6, .inl U))] sz) := by
  refine Met.ofW (cc := cX2_tear) (maxL := 1) (ret := (some .int)) (by decide) rfl ?_
  intro p e s m args below meth c s₁ BB hml hv
  obtain ⟨rfl, hsz, hP, hK, hD0⟩ := hv
  have hx := BB.exec
  have hb := BB.bytes
  have hr := BB.returns
  have hts := atoms_spec (ws := wsX2_tear) BB.pre
  have hown : s.vm.findClass RX2 = some m.cls := findClass_of_methodNamed BB.named
  have hlocks := BB.notSynchronized
  subst hsz
  have hD := hD0.self (sz := s.heap.size)
  generalize hAe : va_A [(mo, .inr (2, [.int tw, .ref bL, .ref bT, .int (nI n), .ref bK, .ref bF, .ref bS, .ref bB, .int co, .int pl, .int st, .int jo, .int cn, .int ii, .int fi, .int fe, .ref bU])), (bK, .inl (cI, 60, .inl K)), (bF, .inl (cI, 60, .inl F)), (bS, .inl (cI, 60, .inl S)), (bB, .inl (cZ, 60, .inl B)), (bL, .inl (cI, 4, .inl L)), (bT, .inl (cI, 4, .inl T)), (bU, .inl (cI, 6, .inl U))] s.heap.size = A at hD ⊢
  have hA : ∀ q : Nat, s.heap.size ≤ q → A q := fun q h => by rw [← hAe]; exact Or.inr h
  have hS : va_S A s.heap s.heap [] := va_S.rf
  have hP : va_P (dC, dI) vwCl [(mo, .inr (2, [.int tw, .ref bL, .ref bT, .int (nI n), .ref bK, .ref bF, .ref bS, .ref bB, .int co, .int pl, .int st, .int jo, .int cn, .int ii, .int fi, .int fe, .ref bU])), (bK, .inl (cI, 60, .inl K)), (bF, .inl (cI, 60, .inl F)), (bS, .inl (cI, 60, .inl S)), (bB, .inl (cZ, 60, .inl B)), (bL, .inl (cI, 4, .inl L)), (bT, .inl (cI, 4, .inl T)), (bU, .inl (cI, 6, .inl U))] s.heap := hP
  have hl := lv_entry ([.ref mo]) (n := 1) (Nat.le_of_ble_eq_true rfl)
  rw [lg_entry_eq]
  generalize (lg_sl ([.ref mo]) ++ List.replicate (1 - (lg_sl ([.ref mo])).length) Slot.unset).toArray = ls at hl ⊢
  have hl : lv_has ls 1 [(0, .ref mo)] := hl
  have k0 := hts (.fieldLink RX2 32 "KnifeLedgerModel" "thrown" "I") (by decide +kernel)
  have hinX2 : ∀ w ∈ wsX20, w ∈ wsX2_tear := by decide +kernel
  have k2 := hts (.fieldLink RX2 36 "KnifeLedgerModel" "entries" "I") (by decide +kernel)
  refine lv_aload_n hx hb dX2_tear_0 rfl (lv_at hl 0 rfl) ?_
  refine lv_iconst (v := 0) hx hb dX2_tear_1 (by decide) ?_
  refine va_put (D := (dC, dI)) (ci := 2) (v := .int 0) (ty := .int) (C := RX2) (T := TX2) (N := 17) hx hb hts hinX2 tyX2 tyX2_ok nmX2 hown hK hP hD hS 0 rfl rfl 0 (by decide) k0 (fun _ h9 => h9) rfl (by decide +kernel) rfl rfl (Nat.le_of_ble_eq_true rfl) dX2_tear_2 (fun H_1 locs hP hD hS => ?_)
  have hP : va_P (dC, dI) vwCl [(mo, .inr (2, [.int 0, .ref bL, .ref bT, .int (nI n), .ref bK, .ref bF, .ref bS, .ref bB, .int co, .int pl, .int st, .int jo, .int cn, .int ii, .int fi, .int fe, .ref bU])), (bK, .inl (cI, 60, .inl K)), (bF, .inl (cI, 60, .inl F)), (bS, .inl (cI, 60, .inl S)), (bB, .inl (cZ, 60, .inl B)), (bL, .inl (cI, 4, .inl L)), (bT, .inl (cI, 4, .inl T)), (bU, .inl (cI, 6, .inl U))] H_1 := hP
  have hD : va_D A [(mo, .inr (2, [.int 0, .ref bL, .ref bT, .int (nI n), .ref bK, .ref bF, .ref bS, .ref bB, .int co, .int pl, .int st, .int jo, .int cn, .int ii, .int fi, .int fe, .ref bU])), (bK, .inl (cI, 60, .inl K)), (bF, .inl (cI, 60, .inl F)), (bS, .inl (cI, 60, .inl S)), (bB, .inl (cZ, 60, .inl B)), (bL, .inl (cI, 4, .inl L)), (bT, .inl (cI, 4, .inl T)), (bU, .inl (cI, 6, .inl U))] := hD
  refine lv_aload_n hx hb dX2_tear_5 rfl (lv_at hl 0 rfl) ?_
  refine va_get (D := (dC, dI)) (ci := 2) (v := .int (nI n)) (C := RX2) (T := TX2) (N := 17) hx hb hts hinX2 hown hK hP 0 rfl rfl 3 (by decide) k2 (fun _ h9 => h9) rfl dX2_tear_6 ?_
  refine lv_if_ne (tgt := 18) hx hb dX2_tear_9 (by decide) (fun h9 => absurd (by rw [hn0]; rfl) h9) (fun _ => ?_)
  refine lv_aload_n hx hb dX2_tear_12 rfl (lv_at hl 0 rfl) ?_
  refine lv_iconst (v := 1) hx hb dX2_tear_13 (by decide) ?_
  have hPc := hP.sub (ws' := [(mo, .inr (2, [.int 0, .ref bL, .ref bT, .int (nI n), .ref bK, .ref bF, .ref bS, .ref bB, .int co, .int pl, .int st, .int jo, .int cn, .int ii, .int fi, .int fe, .ref bU])), (bK, .inl (cI, 60, .inl K)), (bF, .inl (cI, 60, .inl F)), (bS, .inl (cI, 60, .inl S)), (bB, .inl (cZ, 60, .inl B)), (bL, .inl (cI, 4, .inl L)), (bT, .inl (cI, 4, .inl T)), (bU, .inl (cI, 6, .inl U))]) [0, 1, 2, 3, 4, 5, 6, 7] rfl
  have hDc := hD.sub (ws' := [(mo, .inr (2, [.int 0, .ref bL, .ref bT, .int (nI n), .ref bK, .ref bF, .ref bS, .ref bB, .int co, .int pl, .int st, .int jo, .int cn, .int ii, .int fi, .int fe, .ref bU])), (bK, .inl (cI, 60, .inl K)), (bF, .inl (cI, 60, .inl F)), (bS, .inl (cI, 60, .inl S)), (bB, .inl (cZ, 60, .inl B)), (bL, .inl (cI, 4, .inl L)), (bT, .inl (cI, 4, .inl T)), (bU, .inl (cI, 6, .inl U))]) [0, 1, 2, 3, 4, 5, 6, 7] (by decide) rfl
  have hKc := hK.sub (tys' := [(cI, .int), (cZ, .boolean)]) [0, 1] rfl
  have hFc := va_free (wc := [(mo, .inr (2, [.int 0, .ref bL, .ref bT, .int (nI n), .ref bK, .ref bF, .ref bS, .ref bB, .int co, .int pl, .int st, .int jo, .int cn, .int ii, .int fi, .int fe, .ref bU])), (bK, .inl (cI, 60, .inl K)), (bF, .inl (cI, 60, .inl F)), (bS, .inl (cI, 60, .inl S)), (bB, .inl (cZ, 60, .inl B)), (bL, .inl (cI, 4, .inl L)), (bT, .inl (cI, 4, .inl T)), (bU, .inl (cI, 6, .inl U))]) hD hS hA [0, 1, 2, 3, 4, 5, 6, 7] rfl
  refine va_calli (va_runV (As := [.int 1]) (rest := []) ⟨hx, hb, hml, hown, hts⟩ (c_X2_fail l dC dI cI cZ mo bK bF bS bB bL bT bU H_1.size L T K F S B U n 0 co pl st jo cn ii fi fe 1) (cwV 1 hts gX2_tear_X2_fail rfl rfl rfl (by decide +kernel) ⟨Nat.le_of_ble_eq_true rfl, Nat.le_of_ble_eq_true rfl⟩) (pc_V hKc hPc hDc (ci := 2) (C := RX2) (T := TX2) (N := 17) (q0 := 0) rfl rfl) rfl rfl hl.1 rfl (lv_room (Nat.le_of_ble_eq_true rfl)) dX2_tear_14 ⟨Nat.le_of_ble_eq_true rfl, Nat.le_of_ble_eq_true rfl⟩) hS (fun q _ h => hFc q h) hFc (fun r_2 u t H_2 locs ht hvm hw hB hz1 hk1 hS => ?_)
  try dsimp only at hw hB
  have hw_2 := hw
  replace hw_2 := hw_2.symm
  subst hw_2
  obtain ⟨hP1, hD1⟩ := hB
  rw [ht] at hP1
  obtain ⟨hP, hD⟩ := va_join (wr := []) (w1 := [(mo, .inr (2, [.int 1, .ref bL, .ref bT, .int (nI n), .ref bK, .ref bF, .ref bS, .ref bB, .int co, .int pl, .int st, .int jo, .int cn, .int ii, .int fi, .int fe, .ref bU])), (bK, .inl (cI, 60, .inl K)), (bF, .inl (cI, 60, .inl F)), (bS, .inl (cI, 60, .inl S)), (bB, .inl (cZ, 60, .inl B)), (bL, .inl (cI, 4, .inl L)), (bT, .inl (cI, 4, .inl T)), (bU, .inl (cI, 6, .inl U))]) hP hD [0, 1, 2, 3, 4, 5, 6, 7] [] rfl rfl (by decide) (by decide) hk1 hFc hP1 hD1
  have hP : va_P (dC, dI) vwCl [(mo, .inr (2, [.int 1, .ref bL, .ref bT, .int (nI n), .ref bK, .ref bF, .ref bS, .ref bB, .int co, .int pl, .int st, .int jo, .int cn, .int ii, .int fi, .int fe, .ref bU])), (bK, .inl (cI, 60, .inl K)), (bF, .inl (cI, 60, .inl F)), (bS, .inl (cI, 60, .inl S)), (bB, .inl (cZ, 60, .inl B)), (bL, .inl (cI, 4, .inl L)), (bT, .inl (cI, 4, .inl T)), (bU, .inl (cI, 6, .inl U))] H_2 := hP
  have hD : va_D A [(mo, .inr (2, [.int 1, .ref bL, .ref bT, .int (nI n), .ref bK, .ref bF, .ref bS, .ref bB, .int co, .int pl, .int st, .int jo, .int cn, .int ii, .int fi, .int fe, .ref bU])), (bK, .inl (cI, 60, .inl K)), (bF, .inl (cI, 60, .inl F)), (bS, .inl (cI, 60, .inl S)), (bB, .inl (cZ, 60, .inl B)), (bL, .inl (cI, 4, .inl L)), (bT, .inl (cI, 4, .inl T)), (bU, .inl (cI, 6, .inl U))] := hD
  have hpost : (0 : Int32) = 0 := by
    rfl
  have hP9 := hP.sub (ws' := [(mo, .inr (2, [.int 1, .ref bL, .ref bT, .int (nI n), .ref bK, .ref bF, .ref bS, .ref bB, .int co, .int pl, .int st, .int jo, .int cn, .int ii, .int fi, .int fe, .ref bU])), (bK, .inl (cI, 60, .inl K)), (bF, .inl (cI, 60, .inl F)), (bS, .inl (cI, 60, .inl S)), (bB, .inl (cZ, 60, .inl B)), (bL, .inl (cI, 4, .inl L)), (bT, .inl (cI, 4, .inl T)), (bU, .inl (cI, 6, .inl U))]) [0, 1, 2, 3, 4, 5, 6, 7] rfl
  have hD9 := hD.sub (ws' := [(mo, .inr (2, [.int 1, .ref bL, .ref bT, .int (nI n), .ref bK, .ref bF, .ref bS, .ref bB, .int co, .int pl, .int st, .int jo, .int cn, .int ii, .int fi, .int fe, .ref bU])), (bK, .inl (cI, 60, .inl K)), (bF, .inl (cI, 60, .inl F)), (bS, .inl (cI, 60, .inl S)), (bB, .inl (cZ, 60, .inl B)), (bL, .inl (cI, 4, .inl L)), (bT, .inl (cI, 4, .inl T)), (bU, .inl (cI, 6, .inl U))]) [0, 1, 2, 3, 4, 5, 6, 7] (by decide) rfl
  exact W.iret (v := 0) hx hb hr (fun t ht hW => ⟨⟨0, (), rfl, hpost, by rw [ht]; exact hP9, hD9⟩, hS.F ht⟩) hS.2.2 dX2_tear_17

set_option maxHeartbeats 4000000 in
set_option maxRecDepth 100000 in
theorem c_X2_entryTold (l : Launch) (dC : Nat → ClassId) (dI : Nat → Nat → Nat) (cI cZ : ClassId) (mo bK bF bS bB bL bT bU : Nat) (sz : Nat) (L : N2I) (T : N2I) (K : N2I) (F : N2I) (S : N2I) (B : N2I) (U : N2I) (n : Nat) (tw : Int32) (co : Int32) (pl : Int32) (st : Int32) (jo : Int32) (cn : Int32) (ii : Int32) (fi : Int32) (fe : Int32) (i : Nat) (w : Int32) (hX : okX K F S B n) (hi : i < n) : Met l yX2_entryTold wsX2_entryTold ({ frames := 5, cells := 0, slots := 0, locals := 106 } : Room) (va_Pc [.ref mo, .int (nI i), .int w] (pc_ (dC, dI) [(cI, .int), (cZ, .boolean)] [(mo, .inr (2, [.int tw, .ref bL, .ref bT, .int (nI n), .ref bK, .ref bF, .ref bS, .ref bB, .int co, .int pl, .int st, .int jo, .int cn, .int ii, .int fi, .int fe, .ref bU])), (bK, .inl (cI, 60, .inl K)), (bF, .inl (cI, 60, .inl F)), (bS, .inl (cI, 60, .inl S)), (bB, .inl (cZ, 60, .inl B)), (bL, .inl (cI, 4, .inl L)), (bT, .inl (cI, 4, .inl T)), (bU, .inl (cI, 6, .inl U))] sz)) (va_Qi (fun (r : Int32) (u : Int32 × Int32 × Int32 × Int32 × Int32 × Int32 × Int32 × Int32 × N2I) => r = aEnt L T K F S B i w ∧ (w = 4 → u.1 = (cRec L T K F S B (i + 1)).1)) (fun (u : Int32 × Int32 × Int32 × Int32 × Int32 × Int32 × Int32 × Int32 × N2I) (t : State) => va_P (dC, dI) vwCl [(mo, .inr (2, [.int tw, .ref bL, .ref bT, .int (nI n), .ref bK, .ref bF, .ref bS, .ref bB, .int u.1, .int u.2.1, .int u.2.2.1, .int u.2.2.2.1, .int u.2.2.2.2.1, .int u.2.2.2.2.2.1, .int u.2.2.2.2.2.2.1, .int u.2.2.2.2.2.2.2.1, .ref bU])), (bK, .inl (cI, 60, .inl K)), (bF, .inl (cI, 60, .inl F)), (bS, .inl (cI, 60, .inl S)), (bB, .inl (cZ, 60, .inl B)), (bL, .inl (cI, 4, .inl L)), (bT, .inl (cI, 4, .inl T)), (bU, .inl (cI, 6, .inl u.2.2.2.2.2.2.2.2))] t.heap ∧ va_D (va_A [(mo, .inr (2, [.int tw, .ref bL, .ref bT, .int (nI n), .ref bK, .ref bF, .ref bS, .ref bB, .int co, .int pl, .int st, .int jo, .int cn, .int ii, .int fi, .int fe, .ref bU])), (bK, .inl (cI, 60, .inl K)), (bF, .inl (cI, 60, .inl F)), (bS, .inl (cI, 60, .inl S)), (bB, .inl (cZ, 60, .inl B)), (bL, .inl (cI, 4, .inl L)), (bT, .inl (cI, 4, .inl T)), (bU, .inl (cI, 6, .inl U))] sz) [(mo, .inr (2, [.int tw, .ref bL, .ref bT, .int (nI n), .ref bK, .ref bF, .ref bS, .ref bB, .int u.1, .int u.2.1, .int u.2.2.1, .int u.2.2.2.1, .int u.2.2.2.2.1, .int u.2.2.2.2.2.1, .int u.2.2.2.2.2.2.1, .int u.2.2.2.2.2.2.2.1, .ref bU])), (bK, .inl (cI, 60, .inl K)), (bF, .inl (cI, 60, .inl F)), (bS, .inl (cI, 60, .inl S)), (bB, .inl (cZ, 60, .inl B)), (bL, .inl (cI, 4, .inl L)), (bT, .inl (cI, 4, .inl T)), (bU, .inl (cI, 6, .inl u.2.2.2.2.2.2.2.2))]) (va_A [(mo, .inr (2, [.int tw, .ref bL, .ref bT, .int (nI n), .ref bK, .ref bF, .ref bS, .ref bB, .int co, .int pl, .int st, .int jo, .int cn, .int ii, .int fi, .int fe, .ref bU])), (bK, .inl (cI, 60, .inl K)), (bF, .inl (cI, 60, .inl F)), (bS, .inl (cI, 60, .inl S)), (bB, .inl (cZ, 60, .inl B)), (bL, .inl (cI, 4, .inl L)), (bT, .inl (cI, 4, .inl T)), (bU, .inl (cI, 6, .inl U))] sz)) 0 0 (va_A [(mo, .inr (2, [.int tw, .ref bL, .ref bT, .int (nI n), .ref bK, .ref bF, .ref bS, .ref bB, .int co, .int pl, .int st, .int jo, .int cn, .int ii, .int fi, .int fe, .ref bU])), (bK, .inl (cI, 60, .inl K)), (bF, .inl (cI, 60, .inl F)), (bS, .inl (cI, 60, .inl S)), (bB, .inl (cZ, 60, .inl B)), (bL, .inl (cI, 4, .inl L)), (bT, .inl (cI, 4, .inl T)), (bU, .inl (cI, 6, .inl U))] sz) := by
  refine Met.ofW (cc := cX2_entryTold) (maxL := 3) (ret := (some .int)) (by decide) rfl ?_
  intro p e s m args below meth c s₁ BB hml hv
  obtain ⟨rfl, hsz, hP, hK, hD0⟩ := hv
  have hx := BB.exec
  have hb := BB.bytes
  have hr := BB.returns
  have hts := atoms_spec (ws := wsX2_entryTold) BB.pre
  have hown : s.vm.findClass RX2 = some m.cls := findClass_of_methodNamed BB.named
  have hlocks := BB.notSynchronized
  subst hsz
  have hD := hD0.self (sz := s.heap.size)
  generalize hAe : va_A [(mo, .inr (2, [.int tw, .ref bL, .ref bT, .int (nI n), .ref bK, .ref bF, .ref bS, .ref bB, .int co, .int pl, .int st, .int jo, .int cn, .int ii, .int fi, .int fe, .ref bU])), (bK, .inl (cI, 60, .inl K)), (bF, .inl (cI, 60, .inl F)), (bS, .inl (cI, 60, .inl S)), (bB, .inl (cZ, 60, .inl B)), (bL, .inl (cI, 4, .inl L)), (bT, .inl (cI, 4, .inl T)), (bU, .inl (cI, 6, .inl U))] s.heap.size = A at hD ⊢
  have hA : ∀ q : Nat, s.heap.size ≤ q → A q := fun q h => by rw [← hAe]; exact Or.inr h
  have hS : va_S A s.heap s.heap [] := va_S.rf
  have hP : va_P (dC, dI) vwCl [(mo, .inr (2, [.int tw, .ref bL, .ref bT, .int (nI n), .ref bK, .ref bF, .ref bS, .ref bB, .int co, .int pl, .int st, .int jo, .int cn, .int ii, .int fi, .int fe, .ref bU])), (bK, .inl (cI, 60, .inl K)), (bF, .inl (cI, 60, .inl F)), (bS, .inl (cI, 60, .inl S)), (bB, .inl (cZ, 60, .inl B)), (bL, .inl (cI, 4, .inl L)), (bT, .inl (cI, 4, .inl T)), (bU, .inl (cI, 6, .inl U))] s.heap := hP
  have hl := lv_entry ([.ref mo, .int (nI i), .int w]) (n := 3) (Nat.le_of_ble_eq_true rfl)
  rw [lg_entry_eq]
  generalize (lg_sl ([.ref mo, .int (nI i), .int w]) ++ List.replicate (3 - (lg_sl ([.ref mo, .int (nI i), .int w])).length) Slot.unset).toArray = ls at hl ⊢
  have hl : lv_has ls 3 [(0, .ref mo), (1, .int (nI i)), (2, .int w)] := hl
  have k0 := hts (.fieldLink RX2 16 "KnifeLedgerModel" "kinds" "[I") (by decide +kernel)
  have hinX2 : ∀ w ∈ wsX20, w ∈ wsX2_entryTold := by decide +kernel
  have k2 := hts (.fieldLink RX2 19 "KnifeLedgerModel" "firsts" "[I") (by decide +kernel)
  have k3 := hts (.fieldLink RX2 22 "KnifeLedgerModel" "seconds" "[I") (by decide +kernel)
  have k4 := hts (.fieldLink RX2 25 "KnifeLedgerModel" "struck" "[Z") (by decide +kernel)
  have hn6 : n ≤ 60 := hX.1
  refine lv_iload_n hx hb dX2_entryTold_0 rfl (lv_at hl 2 rfl) ?_
  by_cases k_1_0 : w = 0
  · -- case 0
    refine lv_tableIn (off := 31) (tgt := 32) hx hb dX2_entryTold_1 (by rw [k_1_0]; decide) (by rw [k_1_0]; decide) (by rw [k_1_0]; rfl) (by decide) ?_
    refine lv_aload_n hx hb dX2_entryTold_32 rfl (lv_at hl 0 rfl) ?_
    refine va_get (D := (dC, dI)) (ci := 2) (v := .ref bK) (C := RX2) (T := TX2) (N := 17) hx hb hts hinX2 hown hK hP 0 rfl rfl 4 (by decide) k0 (fun _ h9 => h9) rfl dX2_entryTold_33 ?_
    refine lv_iload_n hx hb dX2_entryTold_36 rfl (lv_at hl 1 rfl) ?_
    refine va_iald hx hb hK hP 1 0 rfl rfl (vp_in_nI (by omega) (by omega)) dX2_entryTold_37 ?_
    rw [nI_clamp (n := i) (by omega)]
    have hpost : (K i) = aEnt L T K F S B i w ∧ (w = 4 → co = (cRec L T K F S B (i + 1)).1) := by
      exact ⟨by simp only [aEnt, if_pos k_1_0], fun h => absurd (k_1_0.symm.trans h) (by decide)⟩
    have hP9 := hP.sub (ws' := [(mo, .inr (2, [.int tw, .ref bL, .ref bT, .int (nI n), .ref bK, .ref bF, .ref bS, .ref bB, .int co, .int pl, .int st, .int jo, .int cn, .int ii, .int fi, .int fe, .ref bU])), (bK, .inl (cI, 60, .inl K)), (bF, .inl (cI, 60, .inl F)), (bS, .inl (cI, 60, .inl S)), (bB, .inl (cZ, 60, .inl B)), (bL, .inl (cI, 4, .inl L)), (bT, .inl (cI, 4, .inl T)), (bU, .inl (cI, 6, .inl U))]) [0, 1, 2, 3, 4, 5, 6, 7] rfl
    have hD9 := hD.sub (ws' := [(mo, .inr (2, [.int tw, .ref bL, .ref bT, .int (nI n), .ref bK, .ref bF, .ref bS, .ref bB, .int co, .int pl, .int st, .int jo, .int cn, .int ii, .int fi, .int fe, .ref bU])), (bK, .inl (cI, 60, .inl K)), (bF, .inl (cI, 60, .inl F)), (bS, .inl (cI, 60, .inl S)), (bB, .inl (cZ, 60, .inl B)), (bL, .inl (cI, 4, .inl L)), (bT, .inl (cI, 4, .inl T)), (bU, .inl (cI, 6, .inl U))]) [0, 1, 2, 3, 4, 5, 6, 7] (by decide) rfl
    exact W.iret (v := K i) hx hb hr (fun t ht hW => ⟨⟨(K i), (co, pl, st, jo, cn, ii, fi, fe, U), rfl, hpost, by rw [ht]; exact hP9, hD9⟩, hS.F ht⟩) hS.2.2 dX2_entryTold_38
  by_cases k_1_1 : w = 1
  · -- case 1
    refine lv_tableIn (off := 38) (tgt := 39) hx hb dX2_entryTold_1 (by rw [k_1_1]; decide) (by rw [k_1_1]; decide) (by rw [k_1_1]; rfl) (by decide) ?_
    refine lv_aload_n hx hb dX2_entryTold_39 rfl (lv_at hl 0 rfl) ?_
    refine va_get (D := (dC, dI)) (ci := 2) (v := .ref bF) (C := RX2) (T := TX2) (N := 17) hx hb hts hinX2 hown hK hP 0 rfl rfl 5 (by decide) k2 (fun _ h9 => h9) rfl dX2_entryTold_40 ?_
    refine lv_iload_n hx hb dX2_entryTold_43 rfl (lv_at hl 1 rfl) ?_
    refine va_iald hx hb hK hP 2 0 rfl rfl (vp_in_nI (by omega) (by omega)) dX2_entryTold_44 ?_
    rw [nI_clamp (n := i) (by omega)]
    have hpost : (F i) = aEnt L T K F S B i w ∧ (w = 4 → co = (cRec L T K F S B (i + 1)).1) := by
      exact ⟨by simp only [aEnt, if_neg k_1_0, if_pos k_1_1], fun h => absurd (k_1_1.symm.trans h) (by decide)⟩
    have hP9 := hP.sub (ws' := [(mo, .inr (2, [.int tw, .ref bL, .ref bT, .int (nI n), .ref bK, .ref bF, .ref bS, .ref bB, .int co, .int pl, .int st, .int jo, .int cn, .int ii, .int fi, .int fe, .ref bU])), (bK, .inl (cI, 60, .inl K)), (bF, .inl (cI, 60, .inl F)), (bS, .inl (cI, 60, .inl S)), (bB, .inl (cZ, 60, .inl B)), (bL, .inl (cI, 4, .inl L)), (bT, .inl (cI, 4, .inl T)), (bU, .inl (cI, 6, .inl U))]) [0, 1, 2, 3, 4, 5, 6, 7] rfl
    have hD9 := hD.sub (ws' := [(mo, .inr (2, [.int tw, .ref bL, .ref bT, .int (nI n), .ref bK, .ref bF, .ref bS, .ref bB, .int co, .int pl, .int st, .int jo, .int cn, .int ii, .int fi, .int fe, .ref bU])), (bK, .inl (cI, 60, .inl K)), (bF, .inl (cI, 60, .inl F)), (bS, .inl (cI, 60, .inl S)), (bB, .inl (cZ, 60, .inl B)), (bL, .inl (cI, 4, .inl L)), (bT, .inl (cI, 4, .inl T)), (bU, .inl (cI, 6, .inl U))]) [0, 1, 2, 3, 4, 5, 6, 7] (by decide) rfl
    exact W.iret (v := F i) hx hb hr (fun t ht hW => ⟨⟨(F i), (co, pl, st, jo, cn, ii, fi, fe, U), rfl, hpost, by rw [ht]; exact hP9, hD9⟩, hS.F ht⟩) hS.2.2 dX2_entryTold_45
  by_cases k_1_2 : w = 2
  · -- case 2
    refine lv_tableIn (off := 45) (tgt := 46) hx hb dX2_entryTold_1 (by rw [k_1_2]; decide) (by rw [k_1_2]; decide) (by rw [k_1_2]; rfl) (by decide) ?_
    refine lv_aload_n hx hb dX2_entryTold_46 rfl (lv_at hl 0 rfl) ?_
    refine va_get (D := (dC, dI)) (ci := 2) (v := .ref bS) (C := RX2) (T := TX2) (N := 17) hx hb hts hinX2 hown hK hP 0 rfl rfl 6 (by decide) k3 (fun _ h9 => h9) rfl dX2_entryTold_47 ?_
    refine lv_iload_n hx hb dX2_entryTold_50 rfl (lv_at hl 1 rfl) ?_
    refine va_iald hx hb hK hP 3 0 rfl rfl (vp_in_nI (by omega) (by omega)) dX2_entryTold_51 ?_
    rw [nI_clamp (n := i) (by omega)]
    have hpost : (S i) = aEnt L T K F S B i w ∧ (w = 4 → co = (cRec L T K F S B (i + 1)).1) := by
      exact ⟨by simp only [aEnt, if_neg k_1_0, if_neg k_1_1, if_pos k_1_2], fun h => absurd (k_1_2.symm.trans h) (by decide)⟩
    have hP9 := hP.sub (ws' := [(mo, .inr (2, [.int tw, .ref bL, .ref bT, .int (nI n), .ref bK, .ref bF, .ref bS, .ref bB, .int co, .int pl, .int st, .int jo, .int cn, .int ii, .int fi, .int fe, .ref bU])), (bK, .inl (cI, 60, .inl K)), (bF, .inl (cI, 60, .inl F)), (bS, .inl (cI, 60, .inl S)), (bB, .inl (cZ, 60, .inl B)), (bL, .inl (cI, 4, .inl L)), (bT, .inl (cI, 4, .inl T)), (bU, .inl (cI, 6, .inl U))]) [0, 1, 2, 3, 4, 5, 6, 7] rfl
    have hD9 := hD.sub (ws' := [(mo, .inr (2, [.int tw, .ref bL, .ref bT, .int (nI n), .ref bK, .ref bF, .ref bS, .ref bB, .int co, .int pl, .int st, .int jo, .int cn, .int ii, .int fi, .int fe, .ref bU])), (bK, .inl (cI, 60, .inl K)), (bF, .inl (cI, 60, .inl F)), (bS, .inl (cI, 60, .inl S)), (bB, .inl (cZ, 60, .inl B)), (bL, .inl (cI, 4, .inl L)), (bT, .inl (cI, 4, .inl T)), (bU, .inl (cI, 6, .inl U))]) [0, 1, 2, 3, 4, 5, 6, 7] (by decide) rfl
    exact W.iret (v := S i) hx hb hr (fun t ht hW => ⟨⟨(S i), (co, pl, st, jo, cn, ii, fi, fe, U), rfl, hpost, by rw [ht]; exact hP9, hD9⟩, hS.F ht⟩) hS.2.2 dX2_entryTold_52
  by_cases k_1_3 : w = 3
  · -- case 3
    refine lv_tableIn (off := 52) (tgt := 53) hx hb dX2_entryTold_1 (by rw [k_1_3]; decide) (by rw [k_1_3]; decide) (by rw [k_1_3]; rfl) (by decide) ?_
    refine lv_aload_n hx hb dX2_entryTold_53 rfl (lv_at hl 0 rfl) ?_
    refine va_get (D := (dC, dI)) (ci := 2) (v := .ref bB) (C := RX2) (T := TX2) (N := 17) hx hb hts hinX2 hown hK hP 0 rfl rfl 7 (by decide) k4 (fun _ h9 => h9) rfl dX2_entryTold_54 ?_
    refine lv_iload_n hx hb dX2_entryTold_57 rfl (lv_at hl 1 rfl) ?_
    refine va_zald hx hb hK hP 4 1 rfl rfl (vp_in_nI (by omega) (by omega)) dX2_entryTold_58 ?_
    rw [nI_clamp (n := i) (by omega)]
    refine lv_if_eq (tgt := 66) hx hb dX2_entryTold_59 (by decide) (fun c_59 => ?_) (fun c_59 => ?_)
    · -- 59
      refine lv_iconst (v := 0) hx hb dX2_entryTold_66 (by decide) ?_
      have hpost : (0 : Int32) = aEnt L T K F S B i w ∧ (w = 4 → co = (cRec L T K F S B (i + 1)).1) := by
        exact ⟨by simp only [aEnt, if_neg k_1_0, if_neg k_1_1, if_neg k_1_2, if_pos k_1_3, if_pos c_59], fun h => absurd (k_1_3.symm.trans h) (by decide)⟩
      have hP9 := hP.sub (ws' := [(mo, .inr (2, [.int tw, .ref bL, .ref bT, .int (nI n), .ref bK, .ref bF, .ref bS, .ref bB, .int co, .int pl, .int st, .int jo, .int cn, .int ii, .int fi, .int fe, .ref bU])), (bK, .inl (cI, 60, .inl K)), (bF, .inl (cI, 60, .inl F)), (bS, .inl (cI, 60, .inl S)), (bB, .inl (cZ, 60, .inl B)), (bL, .inl (cI, 4, .inl L)), (bT, .inl (cI, 4, .inl T)), (bU, .inl (cI, 6, .inl U))]) [0, 1, 2, 3, 4, 5, 6, 7] rfl
      have hD9 := hD.sub (ws' := [(mo, .inr (2, [.int tw, .ref bL, .ref bT, .int (nI n), .ref bK, .ref bF, .ref bS, .ref bB, .int co, .int pl, .int st, .int jo, .int cn, .int ii, .int fi, .int fe, .ref bU])), (bK, .inl (cI, 60, .inl K)), (bF, .inl (cI, 60, .inl F)), (bS, .inl (cI, 60, .inl S)), (bB, .inl (cZ, 60, .inl B)), (bL, .inl (cI, 4, .inl L)), (bT, .inl (cI, 4, .inl T)), (bU, .inl (cI, 6, .inl U))]) [0, 1, 2, 3, 4, 5, 6, 7] (by decide) rfl
      exact W.iret (v := 0) hx hb hr (fun t ht hW => ⟨⟨0, (co, pl, st, jo, cn, ii, fi, fe, U), rfl, hpost, by rw [ht]; exact hP9, hD9⟩, hS.F ht⟩) hS.2.2 dX2_entryTold_67
    · -- 59
      refine lv_iconst (v := 1) hx hb dX2_entryTold_62 (by decide) ?_
      refine lv_goto (tgt := 67) hx hb dX2_entryTold_63 (by decide) ?_
      have hpost : (1 : Int32) = aEnt L T K F S B i w ∧ (w = 4 → co = (cRec L T K F S B (i + 1)).1) := by
        exact ⟨by simp only [aEnt, if_neg k_1_0, if_neg k_1_1, if_neg k_1_2, if_pos k_1_3, if_neg c_59], fun h => absurd (k_1_3.symm.trans h) (by decide)⟩
      have hP9 := hP.sub (ws' := [(mo, .inr (2, [.int tw, .ref bL, .ref bT, .int (nI n), .ref bK, .ref bF, .ref bS, .ref bB, .int co, .int pl, .int st, .int jo, .int cn, .int ii, .int fi, .int fe, .ref bU])), (bK, .inl (cI, 60, .inl K)), (bF, .inl (cI, 60, .inl F)), (bS, .inl (cI, 60, .inl S)), (bB, .inl (cZ, 60, .inl B)), (bL, .inl (cI, 4, .inl L)), (bT, .inl (cI, 4, .inl T)), (bU, .inl (cI, 6, .inl U))]) [0, 1, 2, 3, 4, 5, 6, 7] rfl
      have hD9 := hD.sub (ws' := [(mo, .inr (2, [.int tw, .ref bL, .ref bT, .int (nI n), .ref bK, .ref bF, .ref bS, .ref bB, .int co, .int pl, .int st, .int jo, .int cn, .int ii, .int fi, .int fe, .ref bU])), (bK, .inl (cI, 60, .inl K)), (bF, .inl (cI, 60, .inl F)), (bS, .inl (cI, 60, .inl S)), (bB, .inl (cZ, 60, .inl B)), (bL, .inl (cI, 4, .inl L)), (bT, .inl (cI, 4, .inl T)), (bU, .inl (cI, 6, .inl U))]) [0, 1, 2, 3, 4, 5, 6, 7] (by decide) rfl
      exact W.iret (v := 1) hx hb hr (fun t ht hW => ⟨⟨1, (co, pl, st, jo, cn, ii, fi, fe, U), rfl, hpost, by rw [ht]; exact hP9, hD9⟩, hS.F ht⟩) hS.2.2 dX2_entryTold_67
  refine lv_tableOut (tgt := 68) hx hb dX2_entryTold_1 (sw_out4 k_1_0 k_1_1 k_1_2 k_1_3) (by decide) ?_
  refine lv_aload_n hx hb dX2_entryTold_68 rfl (lv_at hl 0 rfl) ?_
  refine lv_iload_n hx hb dX2_entryTold_69 rfl (lv_at hl 1 rfl) ?_
  refine lv_iconst (v := 1) hx hb dX2_entryTold_70 (by decide) ?_
  refine lv_iadd hx hb dX2_entryTold_71 ?_
  rw [nI_1 i]
  have hPc := hP.sub (ws' := [(mo, .inr (2, [.int tw, .ref bL, .ref bT, .int (nI n), .ref bK, .ref bF, .ref bS, .ref bB, .int co, .int pl, .int st, .int jo, .int cn, .int ii, .int fi, .int fe, .ref bU])), (bK, .inl (cI, 60, .inl K)), (bF, .inl (cI, 60, .inl F)), (bS, .inl (cI, 60, .inl S)), (bB, .inl (cZ, 60, .inl B)), (bL, .inl (cI, 4, .inl L)), (bT, .inl (cI, 4, .inl T)), (bU, .inl (cI, 6, .inl U))]) [0, 1, 2, 3, 4, 5, 6, 7] rfl
  have hDc := hD.sub (ws' := [(mo, .inr (2, [.int tw, .ref bL, .ref bT, .int (nI n), .ref bK, .ref bF, .ref bS, .ref bB, .int co, .int pl, .int st, .int jo, .int cn, .int ii, .int fi, .int fe, .ref bU])), (bK, .inl (cI, 60, .inl K)), (bF, .inl (cI, 60, .inl F)), (bS, .inl (cI, 60, .inl S)), (bB, .inl (cZ, 60, .inl B)), (bL, .inl (cI, 4, .inl L)), (bT, .inl (cI, 4, .inl T)), (bU, .inl (cI, 6, .inl U))]) [0, 1, 2, 3, 4, 5, 6, 7] (by decide) rfl
  have hKc := hK.sub (tys' := [(cI, .int), (cZ, .boolean)]) [0, 1] rfl
  have hFc := va_free (wc := [(mo, .inr (2, [.int tw, .ref bL, .ref bT, .int (nI n), .ref bK, .ref bF, .ref bS, .ref bB, .int co, .int pl, .int st, .int jo, .int cn, .int ii, .int fi, .int fe, .ref bU])), (bK, .inl (cI, 60, .inl K)), (bF, .inl (cI, 60, .inl F)), (bS, .inl (cI, 60, .inl S)), (bB, .inl (cZ, 60, .inl B)), (bL, .inl (cI, 4, .inl L)), (bT, .inl (cI, 4, .inl T)), (bU, .inl (cI, 6, .inl U))]) hD hS hA [0, 1, 2, 3, 4, 5, 6, 7] rfl
  refine va_calli (va_runV (As := [.int (nI (i + 1))]) (rest := []) ⟨hx, hb, hml, hown, hts⟩ (c_X2_reckon l dC dI cI cZ mo bK bF bS bB bL bT bU s.heap.size L T K F S B U n tw co pl st jo cn ii fi fe (i + 1) (hX) (by omega)) (cwV 1 hts gX2_entryTold_X2_reckon rfl rfl rfl (by decide +kernel) ⟨Nat.le_of_ble_eq_true rfl, Nat.le_of_ble_eq_true rfl⟩) (pc_V hKc hPc hDc (ci := 2) (C := RX2) (T := TX2) (N := 17) (q0 := 0) rfl rfl) rfl rfl hl.1 rfl (lv_room (Nat.le_of_ble_eq_true rfl)) dX2_entryTold_72 ⟨Nat.le_of_ble_eq_true rfl, Nat.le_of_ble_eq_true rfl⟩) hS (fun q _ h => hFc q h) hFc (fun r_1 u t H_1 locs ht hvm hw hB hz1 hk1 hS => ?_)
  obtain ⟨co1_1, pl1_1, st1_1, jo1_1, cn1_1, ii1_1, fi1_1, fe1_1, U1_1⟩ := u
  try dsimp only at hw hB
  have hw_1 := hw
  obtain ⟨hw0_1, hw1_1⟩ := hw_1
  replace hw1_1 := hw1_1.symm
  subst hw1_1
  obtain ⟨hP1, hD1⟩ := hB
  rw [ht] at hP1
  obtain ⟨hP, hD⟩ := va_join (wr := []) (w1 := [(mo, .inr (2, [.int tw, .ref bL, .ref bT, .int (nI n), .ref bK, .ref bF, .ref bS, .ref bB, .int co1_1, .int pl1_1, .int st1_1, .int jo1_1, .int cn1_1, .int ii1_1, .int fi1_1, .int fe1_1, .ref bU])), (bK, .inl (cI, 60, .inl K)), (bF, .inl (cI, 60, .inl F)), (bS, .inl (cI, 60, .inl S)), (bB, .inl (cZ, 60, .inl B)), (bL, .inl (cI, 4, .inl L)), (bT, .inl (cI, 4, .inl T)), (bU, .inl (cI, 6, .inl U1_1))]) hP hD [0, 1, 2, 3, 4, 5, 6, 7] [] rfl rfl (by decide) (by decide) hk1 hFc hP1 hD1
  have hP : va_P (dC, dI) vwCl [(mo, .inr (2, [.int tw, .ref bL, .ref bT, .int (nI n), .ref bK, .ref bF, .ref bS, .ref bB, .int co1_1, .int pl1_1, .int st1_1, .int jo1_1, .int cn1_1, .int ii1_1, .int fi1_1, .int fe1_1, .ref bU])), (bK, .inl (cI, 60, .inl K)), (bF, .inl (cI, 60, .inl F)), (bS, .inl (cI, 60, .inl S)), (bB, .inl (cZ, 60, .inl B)), (bL, .inl (cI, 4, .inl L)), (bT, .inl (cI, 4, .inl T)), (bU, .inl (cI, 6, .inl U1_1))] H_1 := hP
  have hD : va_D A [(mo, .inr (2, [.int tw, .ref bL, .ref bT, .int (nI n), .ref bK, .ref bF, .ref bS, .ref bB, .int co1_1, .int pl1_1, .int st1_1, .int jo1_1, .int cn1_1, .int ii1_1, .int fi1_1, .int fe1_1, .ref bU])), (bK, .inl (cI, 60, .inl K)), (bF, .inl (cI, 60, .inl F)), (bS, .inl (cI, 60, .inl S)), (bB, .inl (cZ, 60, .inl B)), (bL, .inl (cI, 4, .inl L)), (bT, .inl (cI, 4, .inl T)), (bU, .inl (cI, 6, .inl U1_1))] := hD
  refine lv_if_eq (tgt := 82) hx hb dX2_entryTold_75 (by decide) (fun c_75 => ?_) (fun c_75 => ?_)
  · -- 75
    refine lv_iconst (v := 0) hx hb dX2_entryTold_82 (by decide) ?_
    have hpost : (0 : Int32) = aEnt L T K F S B i w ∧ (w = 4 → co1_1 = (cRec L T K F S B (i + 1)).1) := by
      have e9 := mDoes_cnt (L := L) (T := T) (U := U) hX hi
      rw [e9] at c_75
      refine ⟨?_, fun _ => (ans_of (G := fun s => s.1) (fun _ _ h => h.1) hX (by omega) hw0_1)⟩
      simp only [aEnt, if_neg k_1_0, if_neg k_1_1, if_neg k_1_2, if_neg k_1_3, if_pos c_75]
    have hP9 := hP.sub (ws' := [(mo, .inr (2, [.int tw, .ref bL, .ref bT, .int (nI n), .ref bK, .ref bF, .ref bS, .ref bB, .int co1_1, .int pl1_1, .int st1_1, .int jo1_1, .int cn1_1, .int ii1_1, .int fi1_1, .int fe1_1, .ref bU])), (bK, .inl (cI, 60, .inl K)), (bF, .inl (cI, 60, .inl F)), (bS, .inl (cI, 60, .inl S)), (bB, .inl (cZ, 60, .inl B)), (bL, .inl (cI, 4, .inl L)), (bT, .inl (cI, 4, .inl T)), (bU, .inl (cI, 6, .inl U1_1))]) [0, 1, 2, 3, 4, 5, 6, 7] rfl
    have hD9 := hD.sub (ws' := [(mo, .inr (2, [.int tw, .ref bL, .ref bT, .int (nI n), .ref bK, .ref bF, .ref bS, .ref bB, .int co1_1, .int pl1_1, .int st1_1, .int jo1_1, .int cn1_1, .int ii1_1, .int fi1_1, .int fe1_1, .ref bU])), (bK, .inl (cI, 60, .inl K)), (bF, .inl (cI, 60, .inl F)), (bS, .inl (cI, 60, .inl S)), (bB, .inl (cZ, 60, .inl B)), (bL, .inl (cI, 4, .inl L)), (bT, .inl (cI, 4, .inl T)), (bU, .inl (cI, 6, .inl U1_1))]) [0, 1, 2, 3, 4, 5, 6, 7] (by decide) rfl
    exact W.iret (v := 0) hx hb hr (fun t ht hW => ⟨⟨0, (co1_1, pl1_1, st1_1, jo1_1, cn1_1, ii1_1, fi1_1, fe1_1, U1_1), rfl, hpost, by rw [ht]; exact hP9, hD9⟩, hS.F ht⟩) hS.2.2 dX2_entryTold_83
  · -- 75
    refine lv_iconst (v := 1) hx hb dX2_entryTold_78 (by decide) ?_
    refine lv_goto (tgt := 83) hx hb dX2_entryTold_79 (by decide) ?_
    have hpost : (1 : Int32) = aEnt L T K F S B i w ∧ (w = 4 → co1_1 = (cRec L T K F S B (i + 1)).1) := by
      have e9 := mDoes_cnt (L := L) (T := T) (U := U) hX hi
      rw [e9] at c_75
      refine ⟨?_, fun _ => (ans_of (G := fun s => s.1) (fun _ _ h => h.1) hX (by omega) hw0_1)⟩
      simp only [aEnt, if_neg k_1_0, if_neg k_1_1, if_neg k_1_2, if_neg k_1_3, if_neg c_75]
    have hP9 := hP.sub (ws' := [(mo, .inr (2, [.int tw, .ref bL, .ref bT, .int (nI n), .ref bK, .ref bF, .ref bS, .ref bB, .int co1_1, .int pl1_1, .int st1_1, .int jo1_1, .int cn1_1, .int ii1_1, .int fi1_1, .int fe1_1, .ref bU])), (bK, .inl (cI, 60, .inl K)), (bF, .inl (cI, 60, .inl F)), (bS, .inl (cI, 60, .inl S)), (bB, .inl (cZ, 60, .inl B)), (bL, .inl (cI, 4, .inl L)), (bT, .inl (cI, 4, .inl T)), (bU, .inl (cI, 6, .inl U1_1))]) [0, 1, 2, 3, 4, 5, 6, 7] rfl
    have hD9 := hD.sub (ws' := [(mo, .inr (2, [.int tw, .ref bL, .ref bT, .int (nI n), .ref bK, .ref bF, .ref bS, .ref bB, .int co1_1, .int pl1_1, .int st1_1, .int jo1_1, .int cn1_1, .int ii1_1, .int fi1_1, .int fe1_1, .ref bU])), (bK, .inl (cI, 60, .inl K)), (bF, .inl (cI, 60, .inl F)), (bS, .inl (cI, 60, .inl S)), (bB, .inl (cZ, 60, .inl B)), (bL, .inl (cI, 4, .inl L)), (bT, .inl (cI, 4, .inl T)), (bU, .inl (cI, 6, .inl U1_1))]) [0, 1, 2, 3, 4, 5, 6, 7] (by decide) rfl
    exact W.iret (v := 1) hx hb hr (fun t ht hW => ⟨⟨1, (co1_1, pl1_1, st1_1, jo1_1, cn1_1, ii1_1, fi1_1, fe1_1, U1_1), rfl, hpost, by rw [ht]; exact hP9, hD9⟩, hS.F ht⟩) hS.2.2 dX2_entryTold_83

set_option maxHeartbeats 4000000 in
set_option maxRecDepth 100000 in
theorem c_X2_entry (l : Launch) (dC : Nat → ClassId) (dI : Nat → Nat → Nat) (cI cZ : ClassId) (mo bK bF bS bB bL bT bU : Nat) (sz : Nat) (L : N2I) (T : N2I) (K : N2I) (F : N2I) (S : N2I) (B : N2I) (U : N2I) (n : Nat) (tw : Int32) (co : Int32) (pl : Int32) (st : Int32) (jo : Int32) (cn : Int32) (ii : Int32) (fi : Int32) (fe : Int32) (i : Nat) (w : Int32) (hX : okX K F S B n) (hi : i < n) (h0 : ¬ w < 0) (h1 : ¬ 4 < w) : Met l yX2_entry wsX2_entry ({ frames := 6, cells := 0, slots := 0, locals := 129 } : Room) (va_Pc [.ref mo, .int (nI i), .int w] (pc_ (dC, dI) [(cI, .int), (cZ, .boolean)] [(mo, .inr (2, [.int tw, .ref bL, .ref bT, .int (nI n), .ref bK, .ref bF, .ref bS, .ref bB, .int co, .int pl, .int st, .int jo, .int cn, .int ii, .int fi, .int fe, .ref bU])), (bK, .inl (cI, 60, .inl K)), (bF, .inl (cI, 60, .inl F)), (bS, .inl (cI, 60, .inl S)), (bB, .inl (cZ, 60, .inl B)), (bL, .inl (cI, 4, .inl L)), (bT, .inl (cI, 4, .inl T)), (bU, .inl (cI, 6, .inl U))] sz)) (va_Qi (fun (r : Int32) (u : Int32 × Int32 × Int32 × Int32 × Int32 × Int32 × Int32 × Int32 × N2I) => r = aEnt L T K F S B i w) (fun (u : Int32 × Int32 × Int32 × Int32 × Int32 × Int32 × Int32 × Int32 × N2I) (t : State) => va_P (dC, dI) vwCl [(mo, .inr (2, [.int 0, .ref bL, .ref bT, .int (nI n), .ref bK, .ref bF, .ref bS, .ref bB, .int u.1, .int u.2.1, .int u.2.2.1, .int u.2.2.2.1, .int u.2.2.2.2.1, .int u.2.2.2.2.2.1, .int u.2.2.2.2.2.2.1, .int u.2.2.2.2.2.2.2.1, .ref bU])), (bK, .inl (cI, 60, .inl K)), (bF, .inl (cI, 60, .inl F)), (bS, .inl (cI, 60, .inl S)), (bB, .inl (cZ, 60, .inl B)), (bL, .inl (cI, 4, .inl L)), (bT, .inl (cI, 4, .inl T)), (bU, .inl (cI, 6, .inl u.2.2.2.2.2.2.2.2))] t.heap ∧ va_D (va_A [(mo, .inr (2, [.int tw, .ref bL, .ref bT, .int (nI n), .ref bK, .ref bF, .ref bS, .ref bB, .int co, .int pl, .int st, .int jo, .int cn, .int ii, .int fi, .int fe, .ref bU])), (bK, .inl (cI, 60, .inl K)), (bF, .inl (cI, 60, .inl F)), (bS, .inl (cI, 60, .inl S)), (bB, .inl (cZ, 60, .inl B)), (bL, .inl (cI, 4, .inl L)), (bT, .inl (cI, 4, .inl T)), (bU, .inl (cI, 6, .inl U))] sz) [(mo, .inr (2, [.int 0, .ref bL, .ref bT, .int (nI n), .ref bK, .ref bF, .ref bS, .ref bB, .int u.1, .int u.2.1, .int u.2.2.1, .int u.2.2.2.1, .int u.2.2.2.2.1, .int u.2.2.2.2.2.1, .int u.2.2.2.2.2.2.1, .int u.2.2.2.2.2.2.2.1, .ref bU])), (bK, .inl (cI, 60, .inl K)), (bF, .inl (cI, 60, .inl F)), (bS, .inl (cI, 60, .inl S)), (bB, .inl (cZ, 60, .inl B)), (bL, .inl (cI, 4, .inl L)), (bT, .inl (cI, 4, .inl T)), (bU, .inl (cI, 6, .inl u.2.2.2.2.2.2.2.2))]) (va_A [(mo, .inr (2, [.int tw, .ref bL, .ref bT, .int (nI n), .ref bK, .ref bF, .ref bS, .ref bB, .int co, .int pl, .int st, .int jo, .int cn, .int ii, .int fi, .int fe, .ref bU])), (bK, .inl (cI, 60, .inl K)), (bF, .inl (cI, 60, .inl F)), (bS, .inl (cI, 60, .inl S)), (bB, .inl (cZ, 60, .inl B)), (bL, .inl (cI, 4, .inl L)), (bT, .inl (cI, 4, .inl T)), (bU, .inl (cI, 6, .inl U))] sz)) 0 0 (va_A [(mo, .inr (2, [.int tw, .ref bL, .ref bT, .int (nI n), .ref bK, .ref bF, .ref bS, .ref bB, .int co, .int pl, .int st, .int jo, .int cn, .int ii, .int fi, .int fe, .ref bU])), (bK, .inl (cI, 60, .inl K)), (bF, .inl (cI, 60, .inl F)), (bS, .inl (cI, 60, .inl S)), (bB, .inl (cZ, 60, .inl B)), (bL, .inl (cI, 4, .inl L)), (bT, .inl (cI, 4, .inl T)), (bU, .inl (cI, 6, .inl U))] sz) := by
  refine Met.ofW (cc := cX2_entry) (maxL := 3) (ret := (some .int)) (by decide) rfl ?_
  intro p e s m args below meth c s₁ BB hml hv
  obtain ⟨rfl, hsz, hP, hK, hD0⟩ := hv
  have hx := BB.exec
  have hb := BB.bytes
  have hr := BB.returns
  have hts := atoms_spec (ws := wsX2_entry) BB.pre
  have hown : s.vm.findClass RX2 = some m.cls := findClass_of_methodNamed BB.named
  have hlocks := BB.notSynchronized
  subst hsz
  have hD := hD0.self (sz := s.heap.size)
  generalize hAe : va_A [(mo, .inr (2, [.int tw, .ref bL, .ref bT, .int (nI n), .ref bK, .ref bF, .ref bS, .ref bB, .int co, .int pl, .int st, .int jo, .int cn, .int ii, .int fi, .int fe, .ref bU])), (bK, .inl (cI, 60, .inl K)), (bF, .inl (cI, 60, .inl F)), (bS, .inl (cI, 60, .inl S)), (bB, .inl (cZ, 60, .inl B)), (bL, .inl (cI, 4, .inl L)), (bT, .inl (cI, 4, .inl T)), (bU, .inl (cI, 6, .inl U))] s.heap.size = A at hD ⊢
  have hA : ∀ q : Nat, s.heap.size ≤ q → A q := fun q h => by rw [← hAe]; exact Or.inr h
  have hS : va_S A s.heap s.heap [] := va_S.rf
  have hP : va_P (dC, dI) vwCl [(mo, .inr (2, [.int tw, .ref bL, .ref bT, .int (nI n), .ref bK, .ref bF, .ref bS, .ref bB, .int co, .int pl, .int st, .int jo, .int cn, .int ii, .int fi, .int fe, .ref bU])), (bK, .inl (cI, 60, .inl K)), (bF, .inl (cI, 60, .inl F)), (bS, .inl (cI, 60, .inl S)), (bB, .inl (cZ, 60, .inl B)), (bL, .inl (cI, 4, .inl L)), (bT, .inl (cI, 4, .inl T)), (bU, .inl (cI, 6, .inl U))] s.heap := hP
  have hl := lv_entry ([.ref mo, .int (nI i), .int w]) (n := 3) (Nat.le_of_ble_eq_true rfl)
  rw [lg_entry_eq]
  generalize (lg_sl ([.ref mo, .int (nI i), .int w]) ++ List.replicate (3 - (lg_sl ([.ref mo, .int (nI i), .int w])).length) Slot.unset).toArray = ls at hl ⊢
  have hl : lv_has ls 3 [(0, .ref mo), (1, .int (nI i)), (2, .int w)] := hl
  have k0 := hts (.fieldLink RX2 32 "KnifeLedgerModel" "thrown" "I") (by decide +kernel)
  have hinX2 : ∀ w ∈ wsX20, w ∈ wsX2_entry := by decide +kernel
  have hn6 : n ≤ 60 := hX.1
  refine lv_aload_n hx hb dX2_entry_0 rfl (lv_at hl 0 rfl) ?_
  refine lv_iconst (v := 0) hx hb dX2_entry_1 (by decide) ?_
  refine va_put (D := (dC, dI)) (ci := 2) (v := .int 0) (ty := .int) (C := RX2) (T := TX2) (N := 17) hx hb hts hinX2 tyX2 tyX2_ok nmX2 hown hK hP hD hS 0 rfl rfl 0 (by decide) k0 (fun _ h9 => h9) rfl (by decide +kernel) rfl rfl (Nat.le_of_ble_eq_true rfl) dX2_entry_2 (fun H_1 locs hP hD hS => ?_)
  have hP : va_P (dC, dI) vwCl [(mo, .inr (2, [.int 0, .ref bL, .ref bT, .int (nI n), .ref bK, .ref bF, .ref bS, .ref bB, .int co, .int pl, .int st, .int jo, .int cn, .int ii, .int fi, .int fe, .ref bU])), (bK, .inl (cI, 60, .inl K)), (bF, .inl (cI, 60, .inl F)), (bS, .inl (cI, 60, .inl S)), (bB, .inl (cZ, 60, .inl B)), (bL, .inl (cI, 4, .inl L)), (bT, .inl (cI, 4, .inl T)), (bU, .inl (cI, 6, .inl U))] H_1 := hP
  have hD : va_D A [(mo, .inr (2, [.int 0, .ref bL, .ref bT, .int (nI n), .ref bK, .ref bF, .ref bS, .ref bB, .int co, .int pl, .int st, .int jo, .int cn, .int ii, .int fi, .int fe, .ref bU])), (bK, .inl (cI, 60, .inl K)), (bF, .inl (cI, 60, .inl F)), (bS, .inl (cI, 60, .inl S)), (bB, .inl (cZ, 60, .inl B)), (bL, .inl (cI, 4, .inl L)), (bT, .inl (cI, 4, .inl T)), (bU, .inl (cI, 6, .inl U))] := hD
  refine lv_aload_n hx hb dX2_entry_5 rfl (lv_at hl 0 rfl) ?_
  refine lv_iload_n hx hb dX2_entry_6 rfl (lv_at hl 1 rfl) ?_
  have hPc := hP.sub (ws' := [(mo, .inr (2, [.int 0, .ref bL, .ref bT, .int (nI n), .ref bK, .ref bF, .ref bS, .ref bB, .int co, .int pl, .int st, .int jo, .int cn, .int ii, .int fi, .int fe, .ref bU])), (bK, .inl (cI, 60, .inl K)), (bF, .inl (cI, 60, .inl F)), (bS, .inl (cI, 60, .inl S)), (bB, .inl (cZ, 60, .inl B)), (bL, .inl (cI, 4, .inl L)), (bT, .inl (cI, 4, .inl T)), (bU, .inl (cI, 6, .inl U))]) [0, 1, 2, 3, 4, 5, 6, 7] rfl
  have hDc := hD.sub (ws' := [(mo, .inr (2, [.int 0, .ref bL, .ref bT, .int (nI n), .ref bK, .ref bF, .ref bS, .ref bB, .int co, .int pl, .int st, .int jo, .int cn, .int ii, .int fi, .int fe, .ref bU])), (bK, .inl (cI, 60, .inl K)), (bF, .inl (cI, 60, .inl F)), (bS, .inl (cI, 60, .inl S)), (bB, .inl (cZ, 60, .inl B)), (bL, .inl (cI, 4, .inl L)), (bT, .inl (cI, 4, .inl T)), (bU, .inl (cI, 6, .inl U))]) [0, 1, 2, 3, 4, 5, 6, 7] (by decide) rfl
  have hKc := hK.sub (tys' := [(cI, .int), (cZ, .boolean)]) [0, 1] rfl
  have hFc := va_free (wc := [(mo, .inr (2, [.int 0, .ref bL, .ref bT, .int (nI n), .ref bK, .ref bF, .ref bS, .ref bB, .int co, .int pl, .int st, .int jo, .int cn, .int ii, .int fi, .int fe, .ref bU])), (bK, .inl (cI, 60, .inl K)), (bF, .inl (cI, 60, .inl F)), (bS, .inl (cI, 60, .inl S)), (bB, .inl (cZ, 60, .inl B)), (bL, .inl (cI, 4, .inl L)), (bT, .inl (cI, 4, .inl T)), (bU, .inl (cI, 6, .inl U))]) hD hS hA [0, 1, 2, 3, 4, 5, 6, 7] rfl
  refine va_calli (va_runV (As := [.int (nI i)]) (rest := []) ⟨hx, hb, hml, hown, hts⟩ (c_X2_isEntry l dC dI cI cZ mo bK bF bS bB bL bT bU H_1.size L T K F S B U n 0 co pl st jo cn ii fi fe (nI i)) (cwV 1 hts gX2_entry_X2_isEntry rfl rfl rfl (by decide +kernel) ⟨Nat.le_of_ble_eq_true rfl, Nat.le_of_ble_eq_true rfl⟩) (pc_V hKc hPc hDc (ci := 2) (C := RX2) (T := TX2) (N := 17) (q0 := 0) rfl rfl) rfl rfl hl.1 rfl (lv_room (Nat.le_of_ble_eq_true rfl)) dX2_entry_7 ⟨Nat.le_of_ble_eq_true rfl, Nat.le_of_ble_eq_true rfl⟩) hS (fun q _ h => hFc q h) hFc (fun r_2 u t H_2 locs ht hvm hw hB hz1 hk1 hS => ?_)
  try dsimp only at hw hB
  have hw_2 := hw
  replace hw_2 := hw_2.symm
  subst hw_2
  obtain ⟨hP1, hD1⟩ := hB
  rw [ht] at hP1
  obtain ⟨hP, hD⟩ := va_join (wr := []) (w1 := [(mo, .inr (2, [.int 0, .ref bL, .ref bT, .int (nI n), .ref bK, .ref bF, .ref bS, .ref bB, .int co, .int pl, .int st, .int jo, .int cn, .int ii, .int fi, .int fe, .ref bU])), (bK, .inl (cI, 60, .inl K)), (bF, .inl (cI, 60, .inl F)), (bS, .inl (cI, 60, .inl S)), (bB, .inl (cZ, 60, .inl B)), (bL, .inl (cI, 4, .inl L)), (bT, .inl (cI, 4, .inl T)), (bU, .inl (cI, 6, .inl U))]) hP hD [0, 1, 2, 3, 4, 5, 6, 7] [] rfl rfl (by decide) (by decide) hk1 hFc hP1 hD1
  have hP : va_P (dC, dI) vwCl [(mo, .inr (2, [.int 0, .ref bL, .ref bT, .int (nI n), .ref bK, .ref bF, .ref bS, .ref bB, .int co, .int pl, .int st, .int jo, .int cn, .int ii, .int fi, .int fe, .ref bU])), (bK, .inl (cI, 60, .inl K)), (bF, .inl (cI, 60, .inl F)), (bS, .inl (cI, 60, .inl S)), (bB, .inl (cZ, 60, .inl B)), (bL, .inl (cI, 4, .inl L)), (bT, .inl (cI, 4, .inl T)), (bU, .inl (cI, 6, .inl U))] H_2 := hP
  have hD : va_D A [(mo, .inr (2, [.int 0, .ref bL, .ref bT, .int (nI n), .ref bK, .ref bF, .ref bS, .ref bB, .int co, .int pl, .int st, .int jo, .int cn, .int ii, .int fi, .int fe, .ref bU])), (bK, .inl (cI, 60, .inl K)), (bF, .inl (cI, 60, .inl F)), (bS, .inl (cI, 60, .inl S)), (bB, .inl (cZ, 60, .inl B)), (bL, .inl (cI, 4, .inl L)), (bT, .inl (cI, 4, .inl T)), (bU, .inl (cI, 6, .inl U))] := hD
  refine lv_if_eq (tgt := 31) hx hb dX2_entry_10 (by decide) (fun h9 => absurd h9 (by rw [mIn_ent hi hX.1]; exact one_ne)) (fun _ => ?_)
  refine lv_iload_n hx hb dX2_entry_13 rfl (lv_at hl 2 rfl) ?_
  refine lv_iconst (v := 0) hx hb dX2_entry_14 (by decide) ?_
  refine lv_iconst (v := 4) hx hb dX2_entry_15 (by decide) ?_
  have hPc := hP.sub (ws' := []) [] rfl
  have hDc := hD.sub (ws' := []) [] (by decide) rfl
  have hKc := hK.sub (tys' := []) [] rfl
  have hFc := va_free (wc := []) hD hS hA [] rfl
  refine va_calli (va_runS (As := [.int w, .int 0, .int 4]) (rest := []) ⟨hx, hb, hml, hown, hts⟩ (c_X2_isIn l dC dI H_2.size w 0 4) (va_cwS 3 hts gX2_entry_X2_isIn rfl rfl rfl (by decide +kernel) ⟨Nat.le_of_ble_eq_true rfl, Nat.le_of_ble_eq_true rfl⟩) (pc_S hKc hPc hDc) rfl rfl hl.1 rfl (lv_room (Nat.le_of_ble_eq_true rfl)) dX2_entry_16 ⟨Nat.le_of_ble_eq_true rfl, Nat.le_of_ble_eq_true rfl⟩) hS (fun q _ h => hFc q h) hFc (fun r_3 u t H_3 locs ht hvm hw hB hz1 hk1 hS => ?_)
  try dsimp only at hw hB
  have hw_3 := hw
  replace hw_3 := hw_3.symm
  subst hw_3
  obtain ⟨hP1, hD1⟩ := hB
  rw [ht] at hP1
  obtain ⟨hP, hD⟩ := va_join (wr := [(mo, .inr (2, [.int 0, .ref bL, .ref bT, .int (nI n), .ref bK, .ref bF, .ref bS, .ref bB, .int co, .int pl, .int st, .int jo, .int cn, .int ii, .int fi, .int fe, .ref bU])), (bK, .inl (cI, 60, .inl K)), (bF, .inl (cI, 60, .inl F)), (bS, .inl (cI, 60, .inl S)), (bB, .inl (cZ, 60, .inl B)), (bL, .inl (cI, 4, .inl L)), (bT, .inl (cI, 4, .inl T)), (bU, .inl (cI, 6, .inl U))]) (w1 := []) hP hD [] [0, 1, 2, 3, 4, 5, 6, 7] rfl rfl (by decide) (by decide) hk1 hFc hP1 hD1
  have hP : va_P (dC, dI) vwCl [(mo, .inr (2, [.int 0, .ref bL, .ref bT, .int (nI n), .ref bK, .ref bF, .ref bS, .ref bB, .int co, .int pl, .int st, .int jo, .int cn, .int ii, .int fi, .int fe, .ref bU])), (bK, .inl (cI, 60, .inl K)), (bF, .inl (cI, 60, .inl F)), (bS, .inl (cI, 60, .inl S)), (bB, .inl (cZ, 60, .inl B)), (bL, .inl (cI, 4, .inl L)), (bT, .inl (cI, 4, .inl T)), (bU, .inl (cI, 6, .inl U))] H_3 := hP
  have hD : va_D A [(mo, .inr (2, [.int 0, .ref bL, .ref bT, .int (nI n), .ref bK, .ref bF, .ref bS, .ref bB, .int co, .int pl, .int st, .int jo, .int cn, .int ii, .int fi, .int fe, .ref bU])), (bK, .inl (cI, 60, .inl K)), (bF, .inl (cI, 60, .inl F)), (bS, .inl (cI, 60, .inl S)), (bB, .inl (cZ, 60, .inl B)), (bL, .inl (cI, 4, .inl L)), (bT, .inl (cI, 4, .inl T)), (bU, .inl (cI, 6, .inl U))] := hD
  refine lv_if_eq (tgt := 31) hx hb dX2_entry_19 (by decide) (fun h9 => absurd h9 (by rw [mIn_ok h0 h1]; exact one_ne)) (fun _ => ?_)
  refine lv_aload_n hx hb dX2_entry_22 rfl (lv_at hl 0 rfl) ?_
  refine lv_iload_n hx hb dX2_entry_23 rfl (lv_at hl 1 rfl) ?_
  refine lv_iload_n hx hb dX2_entry_24 rfl (lv_at hl 2 rfl) ?_
  have hPc := hP.sub (ws' := [(mo, .inr (2, [.int 0, .ref bL, .ref bT, .int (nI n), .ref bK, .ref bF, .ref bS, .ref bB, .int co, .int pl, .int st, .int jo, .int cn, .int ii, .int fi, .int fe, .ref bU])), (bK, .inl (cI, 60, .inl K)), (bF, .inl (cI, 60, .inl F)), (bS, .inl (cI, 60, .inl S)), (bB, .inl (cZ, 60, .inl B)), (bL, .inl (cI, 4, .inl L)), (bT, .inl (cI, 4, .inl T)), (bU, .inl (cI, 6, .inl U))]) [0, 1, 2, 3, 4, 5, 6, 7] rfl
  have hDc := hD.sub (ws' := [(mo, .inr (2, [.int 0, .ref bL, .ref bT, .int (nI n), .ref bK, .ref bF, .ref bS, .ref bB, .int co, .int pl, .int st, .int jo, .int cn, .int ii, .int fi, .int fe, .ref bU])), (bK, .inl (cI, 60, .inl K)), (bF, .inl (cI, 60, .inl F)), (bS, .inl (cI, 60, .inl S)), (bB, .inl (cZ, 60, .inl B)), (bL, .inl (cI, 4, .inl L)), (bT, .inl (cI, 4, .inl T)), (bU, .inl (cI, 6, .inl U))]) [0, 1, 2, 3, 4, 5, 6, 7] (by decide) rfl
  have hKc := hK.sub (tys' := [(cI, .int), (cZ, .boolean)]) [0, 1] rfl
  have hFc := va_free (wc := [(mo, .inr (2, [.int 0, .ref bL, .ref bT, .int (nI n), .ref bK, .ref bF, .ref bS, .ref bB, .int co, .int pl, .int st, .int jo, .int cn, .int ii, .int fi, .int fe, .ref bU])), (bK, .inl (cI, 60, .inl K)), (bF, .inl (cI, 60, .inl F)), (bS, .inl (cI, 60, .inl S)), (bB, .inl (cZ, 60, .inl B)), (bL, .inl (cI, 4, .inl L)), (bT, .inl (cI, 4, .inl T)), (bU, .inl (cI, 6, .inl U))]) hD hS hA [0, 1, 2, 3, 4, 5, 6, 7] rfl
  refine va_calli (va_runV (As := [.int (nI i), .int w]) (rest := []) ⟨hx, hb, hml, hown, hts⟩ (c_X2_entryTold l dC dI cI cZ mo bK bF bS bB bL bT bU H_3.size L T K F S B U n 0 co pl st jo cn ii fi fe i w (hX) (hi)) (cwV 2 hts gX2_entry_X2_entryTold rfl rfl rfl (by decide +kernel) ⟨Nat.le_of_ble_eq_true rfl, Nat.le_of_ble_eq_true rfl⟩) (pc_V hKc hPc hDc (ci := 2) (C := RX2) (T := TX2) (N := 17) (q0 := 0) rfl rfl) rfl rfl hl.1 rfl (lv_room (Nat.le_of_ble_eq_true rfl)) dX2_entry_25 ⟨Nat.le_of_ble_eq_true rfl, Nat.le_of_ble_eq_true rfl⟩) hS (fun q _ h => hFc q h) hFc (fun r_4 u t H_4 locs ht hvm hw hB hz1 hk1 hS => ?_)
  obtain ⟨co1_4, pl1_4, st1_4, jo1_4, cn1_4, ii1_4, fi1_4, fe1_4, U1_4⟩ := u
  try dsimp only at hw hB
  have hw_4 := hw
  obtain ⟨hw0_4, hw1_4⟩ := hw_4
  replace hw0_4 := hw0_4.symm
  subst hw0_4
  obtain ⟨hP1, hD1⟩ := hB
  rw [ht] at hP1
  obtain ⟨hP, hD⟩ := va_join (wr := []) (w1 := [(mo, .inr (2, [.int 0, .ref bL, .ref bT, .int (nI n), .ref bK, .ref bF, .ref bS, .ref bB, .int co1_4, .int pl1_4, .int st1_4, .int jo1_4, .int cn1_4, .int ii1_4, .int fi1_4, .int fe1_4, .ref bU])), (bK, .inl (cI, 60, .inl K)), (bF, .inl (cI, 60, .inl F)), (bS, .inl (cI, 60, .inl S)), (bB, .inl (cZ, 60, .inl B)), (bL, .inl (cI, 4, .inl L)), (bT, .inl (cI, 4, .inl T)), (bU, .inl (cI, 6, .inl U1_4))]) hP hD [0, 1, 2, 3, 4, 5, 6, 7] [] rfl rfl (by decide) (by decide) hk1 hFc hP1 hD1
  have hP : va_P (dC, dI) vwCl [(mo, .inr (2, [.int 0, .ref bL, .ref bT, .int (nI n), .ref bK, .ref bF, .ref bS, .ref bB, .int co1_4, .int pl1_4, .int st1_4, .int jo1_4, .int cn1_4, .int ii1_4, .int fi1_4, .int fe1_4, .ref bU])), (bK, .inl (cI, 60, .inl K)), (bF, .inl (cI, 60, .inl F)), (bS, .inl (cI, 60, .inl S)), (bB, .inl (cZ, 60, .inl B)), (bL, .inl (cI, 4, .inl L)), (bT, .inl (cI, 4, .inl T)), (bU, .inl (cI, 6, .inl U1_4))] H_4 := hP
  have hD : va_D A [(mo, .inr (2, [.int 0, .ref bL, .ref bT, .int (nI n), .ref bK, .ref bF, .ref bS, .ref bB, .int co1_4, .int pl1_4, .int st1_4, .int jo1_4, .int cn1_4, .int ii1_4, .int fi1_4, .int fe1_4, .ref bU])), (bK, .inl (cI, 60, .inl K)), (bF, .inl (cI, 60, .inl F)), (bS, .inl (cI, 60, .inl S)), (bB, .inl (cZ, 60, .inl B)), (bL, .inl (cI, 4, .inl L)), (bT, .inl (cI, 4, .inl T)), (bU, .inl (cI, 6, .inl U1_4))] := hD
  refine lv_goto (tgt := 36) hx hb dX2_entry_28 (by decide) ?_
  have hpost : (aEnt L T K F S B i w) = aEnt L T K F S B i w := by
    rfl
  have hP9 := hP.sub (ws' := [(mo, .inr (2, [.int 0, .ref bL, .ref bT, .int (nI n), .ref bK, .ref bF, .ref bS, .ref bB, .int co1_4, .int pl1_4, .int st1_4, .int jo1_4, .int cn1_4, .int ii1_4, .int fi1_4, .int fe1_4, .ref bU])), (bK, .inl (cI, 60, .inl K)), (bF, .inl (cI, 60, .inl F)), (bS, .inl (cI, 60, .inl S)), (bB, .inl (cZ, 60, .inl B)), (bL, .inl (cI, 4, .inl L)), (bT, .inl (cI, 4, .inl T)), (bU, .inl (cI, 6, .inl U1_4))]) [0, 1, 2, 3, 4, 5, 6, 7] rfl
  have hD9 := hD.sub (ws' := [(mo, .inr (2, [.int 0, .ref bL, .ref bT, .int (nI n), .ref bK, .ref bF, .ref bS, .ref bB, .int co1_4, .int pl1_4, .int st1_4, .int jo1_4, .int cn1_4, .int ii1_4, .int fi1_4, .int fe1_4, .ref bU])), (bK, .inl (cI, 60, .inl K)), (bF, .inl (cI, 60, .inl F)), (bS, .inl (cI, 60, .inl S)), (bB, .inl (cZ, 60, .inl B)), (bL, .inl (cI, 4, .inl L)), (bT, .inl (cI, 4, .inl T)), (bU, .inl (cI, 6, .inl U1_4))]) [0, 1, 2, 3, 4, 5, 6, 7] (by decide) rfl
  exact W.iret (v := aEnt L T K F S B i w) hx hb hr (fun t ht hW => ⟨⟨(aEnt L T K F S B i w), (co1_4, pl1_4, st1_4, jo1_4, cn1_4, ii1_4, fi1_4, fe1_4, U1_4), rfl, hpost, by rw [ht]; exact hP9, hD9⟩, hS.F ht⟩) hS.2.2 dX2_entry_36

set_option maxHeartbeats 4000000 in
set_option maxRecDepth 100000 in
theorem c_X2_entry_f1 (l : Launch) (dC : Nat → ClassId) (dI : Nat → Nat → Nat) (cI cZ : ClassId) (mo bK bF bS bB bL bT bU : Nat) (sz : Nat) (L : N2I) (T : N2I) (K : N2I) (F : N2I) (S : N2I) (B : N2I) (U : N2I) (n : Nat) (tw : Int32) (co : Int32) (pl : Int32) (st : Int32) (jo : Int32) (cn : Int32) (ii : Int32) (fi : Int32) (fe : Int32) (x : Int32) (w : Int32) (hn6 : n ≤ 60) (hxb : ¬ vp_in x n) : Met l yX2_entry wsX2_entry ({ frames := 6, cells := 0, slots := 0, locals := 129 } : Room) (va_Pc [.ref mo, .int x, .int w] (pc_ (dC, dI) [(cI, .int), (cZ, .boolean)] [(mo, .inr (2, [.int tw, .ref bL, .ref bT, .int (nI n), .ref bK, .ref bF, .ref bS, .ref bB, .int co, .int pl, .int st, .int jo, .int cn, .int ii, .int fi, .int fe, .ref bU])), (bK, .inl (cI, 60, .inl K)), (bF, .inl (cI, 60, .inl F)), (bS, .inl (cI, 60, .inl S)), (bB, .inl (cZ, 60, .inl B)), (bL, .inl (cI, 4, .inl L)), (bT, .inl (cI, 4, .inl T)), (bU, .inl (cI, 6, .inl U))] sz)) (va_Qi (fun (r : Int32) (u : Unit) => r = 0) (fun (u : Unit) (t : State) => va_P (dC, dI) vwCl [(mo, .inr (2, [.int 1, .ref bL, .ref bT, .int (nI n), .ref bK, .ref bF, .ref bS, .ref bB, .int co, .int pl, .int st, .int jo, .int cn, .int ii, .int fi, .int fe, .ref bU])), (bK, .inl (cI, 60, .inl K)), (bF, .inl (cI, 60, .inl F)), (bS, .inl (cI, 60, .inl S)), (bB, .inl (cZ, 60, .inl B)), (bL, .inl (cI, 4, .inl L)), (bT, .inl (cI, 4, .inl T)), (bU, .inl (cI, 6, .inl U))] t.heap ∧ va_D (va_A [(mo, .inr (2, [.int tw, .ref bL, .ref bT, .int (nI n), .ref bK, .ref bF, .ref bS, .ref bB, .int co, .int pl, .int st, .int jo, .int cn, .int ii, .int fi, .int fe, .ref bU])), (bK, .inl (cI, 60, .inl K)), (bF, .inl (cI, 60, .inl F)), (bS, .inl (cI, 60, .inl S)), (bB, .inl (cZ, 60, .inl B)), (bL, .inl (cI, 4, .inl L)), (bT, .inl (cI, 4, .inl T)), (bU, .inl (cI, 6, .inl U))] sz) [(mo, .inr (2, [.int 1, .ref bL, .ref bT, .int (nI n), .ref bK, .ref bF, .ref bS, .ref bB, .int co, .int pl, .int st, .int jo, .int cn, .int ii, .int fi, .int fe, .ref bU])), (bK, .inl (cI, 60, .inl K)), (bF, .inl (cI, 60, .inl F)), (bS, .inl (cI, 60, .inl S)), (bB, .inl (cZ, 60, .inl B)), (bL, .inl (cI, 4, .inl L)), (bT, .inl (cI, 4, .inl T)), (bU, .inl (cI, 6, .inl U))]) (va_A [(mo, .inr (2, [.int tw, .ref bL, .ref bT, .int (nI n), .ref bK, .ref bF, .ref bS, .ref bB, .int co, .int pl, .int st, .int jo, .int cn, .int ii, .int fi, .int fe, .ref bU])), (bK, .inl (cI, 60, .inl K)), (bF, .inl (cI, 60, .inl F)), (bS, .inl (cI, 60, .inl S)), (bB, .inl (cZ, 60, .inl B)), (bL, .inl (cI, 4, .inl L)), (bT, .inl (cI, 4, .inl T)), (bU, .inl (cI, 6, .inl U))] sz)) 0 0 (va_A [(mo, .inr (2, [.int tw, .ref bL, .ref bT, .int (nI n), .ref bK, .ref bF, .ref bS, .ref bB, .int co, .int pl, .int st, .int jo, .int cn, .int ii, .int fi, .int fe, .ref bU])), (bK, .inl (cI, 60, .inl K)), (bF, .inl (cI, 60, .inl F)), (bS, .inl (cI, 60, .inl S)), (bB, .inl (cZ, 60, .inl B)), (bL, .inl (cI, 4, .inl L)), (bT, .inl (cI, 4, .inl T)), (bU, .inl (cI, 6, .inl U))] sz) := by
  refine Met.ofW (cc := cX2_entry) (maxL := 3) (ret := (some .int)) (by decide) rfl ?_
  intro p e s m args below meth c s₁ BB hml hv
  obtain ⟨rfl, hsz, hP, hK, hD0⟩ := hv
  have hx := BB.exec
  have hb := BB.bytes
  have hr := BB.returns
  have hts := atoms_spec (ws := wsX2_entry) BB.pre
  have hown : s.vm.findClass RX2 = some m.cls := findClass_of_methodNamed BB.named
  have hlocks := BB.notSynchronized
  subst hsz
  have hD := hD0.self (sz := s.heap.size)
  generalize hAe : va_A [(mo, .inr (2, [.int tw, .ref bL, .ref bT, .int (nI n), .ref bK, .ref bF, .ref bS, .ref bB, .int co, .int pl, .int st, .int jo, .int cn, .int ii, .int fi, .int fe, .ref bU])), (bK, .inl (cI, 60, .inl K)), (bF, .inl (cI, 60, .inl F)), (bS, .inl (cI, 60, .inl S)), (bB, .inl (cZ, 60, .inl B)), (bL, .inl (cI, 4, .inl L)), (bT, .inl (cI, 4, .inl T)), (bU, .inl (cI, 6, .inl U))] s.heap.size = A at hD ⊢
  have hA : ∀ q : Nat, s.heap.size ≤ q → A q := fun q h => by rw [← hAe]; exact Or.inr h
  have hS : va_S A s.heap s.heap [] := va_S.rf
  have hP : va_P (dC, dI) vwCl [(mo, .inr (2, [.int tw, .ref bL, .ref bT, .int (nI n), .ref bK, .ref bF, .ref bS, .ref bB, .int co, .int pl, .int st, .int jo, .int cn, .int ii, .int fi, .int fe, .ref bU])), (bK, .inl (cI, 60, .inl K)), (bF, .inl (cI, 60, .inl F)), (bS, .inl (cI, 60, .inl S)), (bB, .inl (cZ, 60, .inl B)), (bL, .inl (cI, 4, .inl L)), (bT, .inl (cI, 4, .inl T)), (bU, .inl (cI, 6, .inl U))] s.heap := hP
  have hl := lv_entry ([.ref mo, .int x, .int w]) (n := 3) (Nat.le_of_ble_eq_true rfl)
  rw [lg_entry_eq]
  generalize (lg_sl ([.ref mo, .int x, .int w]) ++ List.replicate (3 - (lg_sl ([.ref mo, .int x, .int w])).length) Slot.unset).toArray = ls at hl ⊢
  have hl : lv_has ls 3 [(0, .ref mo), (1, .int x), (2, .int w)] := hl
  have k0 := hts (.fieldLink RX2 32 "KnifeLedgerModel" "thrown" "I") (by decide +kernel)
  have hinX2 : ∀ w ∈ wsX20, w ∈ wsX2_entry := by decide +kernel
  refine lv_aload_n hx hb dX2_entry_0 rfl (lv_at hl 0 rfl) ?_
  refine lv_iconst (v := 0) hx hb dX2_entry_1 (by decide) ?_
  refine va_put (D := (dC, dI)) (ci := 2) (v := .int 0) (ty := .int) (C := RX2) (T := TX2) (N := 17) hx hb hts hinX2 tyX2 tyX2_ok nmX2 hown hK hP hD hS 0 rfl rfl 0 (by decide) k0 (fun _ h9 => h9) rfl (by decide +kernel) rfl rfl (Nat.le_of_ble_eq_true rfl) dX2_entry_2 (fun H_1 locs hP hD hS => ?_)
  have hP : va_P (dC, dI) vwCl [(mo, .inr (2, [.int 0, .ref bL, .ref bT, .int (nI n), .ref bK, .ref bF, .ref bS, .ref bB, .int co, .int pl, .int st, .int jo, .int cn, .int ii, .int fi, .int fe, .ref bU])), (bK, .inl (cI, 60, .inl K)), (bF, .inl (cI, 60, .inl F)), (bS, .inl (cI, 60, .inl S)), (bB, .inl (cZ, 60, .inl B)), (bL, .inl (cI, 4, .inl L)), (bT, .inl (cI, 4, .inl T)), (bU, .inl (cI, 6, .inl U))] H_1 := hP
  have hD : va_D A [(mo, .inr (2, [.int 0, .ref bL, .ref bT, .int (nI n), .ref bK, .ref bF, .ref bS, .ref bB, .int co, .int pl, .int st, .int jo, .int cn, .int ii, .int fi, .int fe, .ref bU])), (bK, .inl (cI, 60, .inl K)), (bF, .inl (cI, 60, .inl F)), (bS, .inl (cI, 60, .inl S)), (bB, .inl (cZ, 60, .inl B)), (bL, .inl (cI, 4, .inl L)), (bT, .inl (cI, 4, .inl T)), (bU, .inl (cI, 6, .inl U))] := hD
  refine lv_aload_n hx hb dX2_entry_5 rfl (lv_at hl 0 rfl) ?_
  refine lv_iload_n hx hb dX2_entry_6 rfl (lv_at hl 1 rfl) ?_
  have hPc := hP.sub (ws' := [(mo, .inr (2, [.int 0, .ref bL, .ref bT, .int (nI n), .ref bK, .ref bF, .ref bS, .ref bB, .int co, .int pl, .int st, .int jo, .int cn, .int ii, .int fi, .int fe, .ref bU])), (bK, .inl (cI, 60, .inl K)), (bF, .inl (cI, 60, .inl F)), (bS, .inl (cI, 60, .inl S)), (bB, .inl (cZ, 60, .inl B)), (bL, .inl (cI, 4, .inl L)), (bT, .inl (cI, 4, .inl T)), (bU, .inl (cI, 6, .inl U))]) [0, 1, 2, 3, 4, 5, 6, 7] rfl
  have hDc := hD.sub (ws' := [(mo, .inr (2, [.int 0, .ref bL, .ref bT, .int (nI n), .ref bK, .ref bF, .ref bS, .ref bB, .int co, .int pl, .int st, .int jo, .int cn, .int ii, .int fi, .int fe, .ref bU])), (bK, .inl (cI, 60, .inl K)), (bF, .inl (cI, 60, .inl F)), (bS, .inl (cI, 60, .inl S)), (bB, .inl (cZ, 60, .inl B)), (bL, .inl (cI, 4, .inl L)), (bT, .inl (cI, 4, .inl T)), (bU, .inl (cI, 6, .inl U))]) [0, 1, 2, 3, 4, 5, 6, 7] (by decide) rfl
  have hKc := hK.sub (tys' := [(cI, .int), (cZ, .boolean)]) [0, 1] rfl
  have hFc := va_free (wc := [(mo, .inr (2, [.int 0, .ref bL, .ref bT, .int (nI n), .ref bK, .ref bF, .ref bS, .ref bB, .int co, .int pl, .int st, .int jo, .int cn, .int ii, .int fi, .int fe, .ref bU])), (bK, .inl (cI, 60, .inl K)), (bF, .inl (cI, 60, .inl F)), (bS, .inl (cI, 60, .inl S)), (bB, .inl (cZ, 60, .inl B)), (bL, .inl (cI, 4, .inl L)), (bT, .inl (cI, 4, .inl T)), (bU, .inl (cI, 6, .inl U))]) hD hS hA [0, 1, 2, 3, 4, 5, 6, 7] rfl
  refine va_calli (va_runV (As := [.int x]) (rest := []) ⟨hx, hb, hml, hown, hts⟩ (c_X2_isEntry l dC dI cI cZ mo bK bF bS bB bL bT bU H_1.size L T K F S B U n 0 co pl st jo cn ii fi fe x) (cwV 1 hts gX2_entry_X2_isEntry rfl rfl rfl (by decide +kernel) ⟨Nat.le_of_ble_eq_true rfl, Nat.le_of_ble_eq_true rfl⟩) (pc_V hKc hPc hDc (ci := 2) (C := RX2) (T := TX2) (N := 17) (q0 := 0) rfl rfl) rfl rfl hl.1 rfl (lv_room (Nat.le_of_ble_eq_true rfl)) dX2_entry_7 ⟨Nat.le_of_ble_eq_true rfl, Nat.le_of_ble_eq_true rfl⟩) hS (fun q _ h => hFc q h) hFc (fun r_2 u t H_2 locs ht hvm hw hB hz1 hk1 hS => ?_)
  try dsimp only at hw hB
  have hw_2 := hw
  replace hw_2 := hw_2.symm
  subst hw_2
  obtain ⟨hP1, hD1⟩ := hB
  rw [ht] at hP1
  obtain ⟨hP, hD⟩ := va_join (wr := []) (w1 := [(mo, .inr (2, [.int 0, .ref bL, .ref bT, .int (nI n), .ref bK, .ref bF, .ref bS, .ref bB, .int co, .int pl, .int st, .int jo, .int cn, .int ii, .int fi, .int fe, .ref bU])), (bK, .inl (cI, 60, .inl K)), (bF, .inl (cI, 60, .inl F)), (bS, .inl (cI, 60, .inl S)), (bB, .inl (cZ, 60, .inl B)), (bL, .inl (cI, 4, .inl L)), (bT, .inl (cI, 4, .inl T)), (bU, .inl (cI, 6, .inl U))]) hP hD [0, 1, 2, 3, 4, 5, 6, 7] [] rfl rfl (by decide) (by decide) hk1 hFc hP1 hD1
  have hP : va_P (dC, dI) vwCl [(mo, .inr (2, [.int 0, .ref bL, .ref bT, .int (nI n), .ref bK, .ref bF, .ref bS, .ref bB, .int co, .int pl, .int st, .int jo, .int cn, .int ii, .int fi, .int fe, .ref bU])), (bK, .inl (cI, 60, .inl K)), (bF, .inl (cI, 60, .inl F)), (bS, .inl (cI, 60, .inl S)), (bB, .inl (cZ, 60, .inl B)), (bL, .inl (cI, 4, .inl L)), (bT, .inl (cI, 4, .inl T)), (bU, .inl (cI, 6, .inl U))] H_2 := hP
  have hD : va_D A [(mo, .inr (2, [.int 0, .ref bL, .ref bT, .int (nI n), .ref bK, .ref bF, .ref bS, .ref bB, .int co, .int pl, .int st, .int jo, .int cn, .int ii, .int fi, .int fe, .ref bU])), (bK, .inl (cI, 60, .inl K)), (bF, .inl (cI, 60, .inl F)), (bS, .inl (cI, 60, .inl S)), (bB, .inl (cZ, 60, .inl B)), (bL, .inl (cI, 4, .inl L)), (bT, .inl (cI, 4, .inl T)), (bU, .inl (cI, 6, .inl U))] := hD
  refine lv_if_eq (tgt := 31) hx hb dX2_entry_10 (by decide) (fun _ => ?_) (fun h9 => absurd (mIn_nent hn6 hxb) h9)
  refine lv_aload_n hx hb dX2_entry_31 rfl (lv_at hl 0 rfl) ?_
  refine lv_iconst (v := 1) hx hb dX2_entry_32 (by decide) ?_
  have hPc := hP.sub (ws' := [(mo, .inr (2, [.int 0, .ref bL, .ref bT, .int (nI n), .ref bK, .ref bF, .ref bS, .ref bB, .int co, .int pl, .int st, .int jo, .int cn, .int ii, .int fi, .int fe, .ref bU])), (bK, .inl (cI, 60, .inl K)), (bF, .inl (cI, 60, .inl F)), (bS, .inl (cI, 60, .inl S)), (bB, .inl (cZ, 60, .inl B)), (bL, .inl (cI, 4, .inl L)), (bT, .inl (cI, 4, .inl T)), (bU, .inl (cI, 6, .inl U))]) [0, 1, 2, 3, 4, 5, 6, 7] rfl
  have hDc := hD.sub (ws' := [(mo, .inr (2, [.int 0, .ref bL, .ref bT, .int (nI n), .ref bK, .ref bF, .ref bS, .ref bB, .int co, .int pl, .int st, .int jo, .int cn, .int ii, .int fi, .int fe, .ref bU])), (bK, .inl (cI, 60, .inl K)), (bF, .inl (cI, 60, .inl F)), (bS, .inl (cI, 60, .inl S)), (bB, .inl (cZ, 60, .inl B)), (bL, .inl (cI, 4, .inl L)), (bT, .inl (cI, 4, .inl T)), (bU, .inl (cI, 6, .inl U))]) [0, 1, 2, 3, 4, 5, 6, 7] (by decide) rfl
  have hKc := hK.sub (tys' := [(cI, .int), (cZ, .boolean)]) [0, 1] rfl
  have hFc := va_free (wc := [(mo, .inr (2, [.int 0, .ref bL, .ref bT, .int (nI n), .ref bK, .ref bF, .ref bS, .ref bB, .int co, .int pl, .int st, .int jo, .int cn, .int ii, .int fi, .int fe, .ref bU])), (bK, .inl (cI, 60, .inl K)), (bF, .inl (cI, 60, .inl F)), (bS, .inl (cI, 60, .inl S)), (bB, .inl (cZ, 60, .inl B)), (bL, .inl (cI, 4, .inl L)), (bT, .inl (cI, 4, .inl T)), (bU, .inl (cI, 6, .inl U))]) hD hS hA [0, 1, 2, 3, 4, 5, 6, 7] rfl
  refine va_calli (va_runV (As := [.int 1]) (rest := []) ⟨hx, hb, hml, hown, hts⟩ (c_X2_fail l dC dI cI cZ mo bK bF bS bB bL bT bU H_2.size L T K F S B U n 0 co pl st jo cn ii fi fe 1) (cwV 1 hts gX2_entry_X2_fail rfl rfl rfl (by decide +kernel) ⟨Nat.le_of_ble_eq_true rfl, Nat.le_of_ble_eq_true rfl⟩) (pc_V hKc hPc hDc (ci := 2) (C := RX2) (T := TX2) (N := 17) (q0 := 0) rfl rfl) rfl rfl hl.1 rfl (lv_room (Nat.le_of_ble_eq_true rfl)) dX2_entry_33 ⟨Nat.le_of_ble_eq_true rfl, Nat.le_of_ble_eq_true rfl⟩) hS (fun q _ h => hFc q h) hFc (fun r_3 u t H_3 locs ht hvm hw hB hz1 hk1 hS => ?_)
  try dsimp only at hw hB
  have hw_3 := hw
  replace hw_3 := hw_3.symm
  subst hw_3
  obtain ⟨hP1, hD1⟩ := hB
  rw [ht] at hP1
  obtain ⟨hP, hD⟩ := va_join (wr := []) (w1 := [(mo, .inr (2, [.int 1, .ref bL, .ref bT, .int (nI n), .ref bK, .ref bF, .ref bS, .ref bB, .int co, .int pl, .int st, .int jo, .int cn, .int ii, .int fi, .int fe, .ref bU])), (bK, .inl (cI, 60, .inl K)), (bF, .inl (cI, 60, .inl F)), (bS, .inl (cI, 60, .inl S)), (bB, .inl (cZ, 60, .inl B)), (bL, .inl (cI, 4, .inl L)), (bT, .inl (cI, 4, .inl T)), (bU, .inl (cI, 6, .inl U))]) hP hD [0, 1, 2, 3, 4, 5, 6, 7] [] rfl rfl (by decide) (by decide) hk1 hFc hP1 hD1
  have hP : va_P (dC, dI) vwCl [(mo, .inr (2, [.int 1, .ref bL, .ref bT, .int (nI n), .ref bK, .ref bF, .ref bS, .ref bB, .int co, .int pl, .int st, .int jo, .int cn, .int ii, .int fi, .int fe, .ref bU])), (bK, .inl (cI, 60, .inl K)), (bF, .inl (cI, 60, .inl F)), (bS, .inl (cI, 60, .inl S)), (bB, .inl (cZ, 60, .inl B)), (bL, .inl (cI, 4, .inl L)), (bT, .inl (cI, 4, .inl T)), (bU, .inl (cI, 6, .inl U))] H_3 := hP
  have hD : va_D A [(mo, .inr (2, [.int 1, .ref bL, .ref bT, .int (nI n), .ref bK, .ref bF, .ref bS, .ref bB, .int co, .int pl, .int st, .int jo, .int cn, .int ii, .int fi, .int fe, .ref bU])), (bK, .inl (cI, 60, .inl K)), (bF, .inl (cI, 60, .inl F)), (bS, .inl (cI, 60, .inl S)), (bB, .inl (cZ, 60, .inl B)), (bL, .inl (cI, 4, .inl L)), (bT, .inl (cI, 4, .inl T)), (bU, .inl (cI, 6, .inl U))] := hD
  have hpost : (0 : Int32) = 0 := by
    rfl
  have hP9 := hP.sub (ws' := [(mo, .inr (2, [.int 1, .ref bL, .ref bT, .int (nI n), .ref bK, .ref bF, .ref bS, .ref bB, .int co, .int pl, .int st, .int jo, .int cn, .int ii, .int fi, .int fe, .ref bU])), (bK, .inl (cI, 60, .inl K)), (bF, .inl (cI, 60, .inl F)), (bS, .inl (cI, 60, .inl S)), (bB, .inl (cZ, 60, .inl B)), (bL, .inl (cI, 4, .inl L)), (bT, .inl (cI, 4, .inl T)), (bU, .inl (cI, 6, .inl U))]) [0, 1, 2, 3, 4, 5, 6, 7] rfl
  have hD9 := hD.sub (ws' := [(mo, .inr (2, [.int 1, .ref bL, .ref bT, .int (nI n), .ref bK, .ref bF, .ref bS, .ref bB, .int co, .int pl, .int st, .int jo, .int cn, .int ii, .int fi, .int fe, .ref bU])), (bK, .inl (cI, 60, .inl K)), (bF, .inl (cI, 60, .inl F)), (bS, .inl (cI, 60, .inl S)), (bB, .inl (cZ, 60, .inl B)), (bL, .inl (cI, 4, .inl L)), (bT, .inl (cI, 4, .inl T)), (bU, .inl (cI, 6, .inl U))]) [0, 1, 2, 3, 4, 5, 6, 7] (by decide) rfl
  exact W.iret (v := 0) hx hb hr (fun t ht hW => ⟨⟨0, (), rfl, hpost, by rw [ht]; exact hP9, hD9⟩, hS.F ht⟩) hS.2.2 dX2_entry_36

set_option maxHeartbeats 4000000 in
set_option maxRecDepth 100000 in
theorem c_X2_entry_f2 (l : Launch) (dC : Nat → ClassId) (dI : Nat → Nat → Nat) (cI cZ : ClassId) (mo bK bF bS bB bL bT bU : Nat) (sz : Nat) (L : N2I) (T : N2I) (K : N2I) (F : N2I) (S : N2I) (B : N2I) (U : N2I) (n : Nat) (tw : Int32) (co : Int32) (pl : Int32) (st : Int32) (jo : Int32) (cn : Int32) (ii : Int32) (fi : Int32) (fe : Int32) (i : Nat) (w : Int32) (hX : okX K F S B n) (hi : i < n) (hb0 : w < 0 ∨ 4 < w) : Met l yX2_entry wsX2_entry ({ frames := 6, cells := 0, slots := 0, locals := 129 } : Room) (va_Pc [.ref mo, .int (nI i), .int w] (pc_ (dC, dI) [(cI, .int), (cZ, .boolean)] [(mo, .inr (2, [.int tw, .ref bL, .ref bT, .int (nI n), .ref bK, .ref bF, .ref bS, .ref bB, .int co, .int pl, .int st, .int jo, .int cn, .int ii, .int fi, .int fe, .ref bU])), (bK, .inl (cI, 60, .inl K)), (bF, .inl (cI, 60, .inl F)), (bS, .inl (cI, 60, .inl S)), (bB, .inl (cZ, 60, .inl B)), (bL, .inl (cI, 4, .inl L)), (bT, .inl (cI, 4, .inl T)), (bU, .inl (cI, 6, .inl U))] sz)) (va_Qi (fun (r : Int32) (u : Unit) => r = 0) (fun (u : Unit) (t : State) => va_P (dC, dI) vwCl [(mo, .inr (2, [.int 1, .ref bL, .ref bT, .int (nI n), .ref bK, .ref bF, .ref bS, .ref bB, .int co, .int pl, .int st, .int jo, .int cn, .int ii, .int fi, .int fe, .ref bU])), (bK, .inl (cI, 60, .inl K)), (bF, .inl (cI, 60, .inl F)), (bS, .inl (cI, 60, .inl S)), (bB, .inl (cZ, 60, .inl B)), (bL, .inl (cI, 4, .inl L)), (bT, .inl (cI, 4, .inl T)), (bU, .inl (cI, 6, .inl U))] t.heap ∧ va_D (va_A [(mo, .inr (2, [.int tw, .ref bL, .ref bT, .int (nI n), .ref bK, .ref bF, .ref bS, .ref bB, .int co, .int pl, .int st, .int jo, .int cn, .int ii, .int fi, .int fe, .ref bU])), (bK, .inl (cI, 60, .inl K)), (bF, .inl (cI, 60, .inl F)), (bS, .inl (cI, 60, .inl S)), (bB, .inl (cZ, 60, .inl B)), (bL, .inl (cI, 4, .inl L)), (bT, .inl (cI, 4, .inl T)), (bU, .inl (cI, 6, .inl U))] sz) [(mo, .inr (2, [.int 1, .ref bL, .ref bT, .int (nI n), .ref bK, .ref bF, .ref bS, .ref bB, .int co, .int pl, .int st, .int jo, .int cn, .int ii, .int fi, .int fe, .ref bU])), (bK, .inl (cI, 60, .inl K)), (bF, .inl (cI, 60, .inl F)), (bS, .inl (cI, 60, .inl S)), (bB, .inl (cZ, 60, .inl B)), (bL, .inl (cI, 4, .inl L)), (bT, .inl (cI, 4, .inl T)), (bU, .inl (cI, 6, .inl U))]) (va_A [(mo, .inr (2, [.int tw, .ref bL, .ref bT, .int (nI n), .ref bK, .ref bF, .ref bS, .ref bB, .int co, .int pl, .int st, .int jo, .int cn, .int ii, .int fi, .int fe, .ref bU])), (bK, .inl (cI, 60, .inl K)), (bF, .inl (cI, 60, .inl F)), (bS, .inl (cI, 60, .inl S)), (bB, .inl (cZ, 60, .inl B)), (bL, .inl (cI, 4, .inl L)), (bT, .inl (cI, 4, .inl T)), (bU, .inl (cI, 6, .inl U))] sz)) 0 0 (va_A [(mo, .inr (2, [.int tw, .ref bL, .ref bT, .int (nI n), .ref bK, .ref bF, .ref bS, .ref bB, .int co, .int pl, .int st, .int jo, .int cn, .int ii, .int fi, .int fe, .ref bU])), (bK, .inl (cI, 60, .inl K)), (bF, .inl (cI, 60, .inl F)), (bS, .inl (cI, 60, .inl S)), (bB, .inl (cZ, 60, .inl B)), (bL, .inl (cI, 4, .inl L)), (bT, .inl (cI, 4, .inl T)), (bU, .inl (cI, 6, .inl U))] sz) := by
  refine Met.ofW (cc := cX2_entry) (maxL := 3) (ret := (some .int)) (by decide) rfl ?_
  intro p e s m args below meth c s₁ BB hml hv
  obtain ⟨rfl, hsz, hP, hK, hD0⟩ := hv
  have hx := BB.exec
  have hb := BB.bytes
  have hr := BB.returns
  have hts := atoms_spec (ws := wsX2_entry) BB.pre
  have hown : s.vm.findClass RX2 = some m.cls := findClass_of_methodNamed BB.named
  have hlocks := BB.notSynchronized
  subst hsz
  have hD := hD0.self (sz := s.heap.size)
  generalize hAe : va_A [(mo, .inr (2, [.int tw, .ref bL, .ref bT, .int (nI n), .ref bK, .ref bF, .ref bS, .ref bB, .int co, .int pl, .int st, .int jo, .int cn, .int ii, .int fi, .int fe, .ref bU])), (bK, .inl (cI, 60, .inl K)), (bF, .inl (cI, 60, .inl F)), (bS, .inl (cI, 60, .inl S)), (bB, .inl (cZ, 60, .inl B)), (bL, .inl (cI, 4, .inl L)), (bT, .inl (cI, 4, .inl T)), (bU, .inl (cI, 6, .inl U))] s.heap.size = A at hD ⊢
  have hA : ∀ q : Nat, s.heap.size ≤ q → A q := fun q h => by rw [← hAe]; exact Or.inr h
  have hS : va_S A s.heap s.heap [] := va_S.rf
  have hP : va_P (dC, dI) vwCl [(mo, .inr (2, [.int tw, .ref bL, .ref bT, .int (nI n), .ref bK, .ref bF, .ref bS, .ref bB, .int co, .int pl, .int st, .int jo, .int cn, .int ii, .int fi, .int fe, .ref bU])), (bK, .inl (cI, 60, .inl K)), (bF, .inl (cI, 60, .inl F)), (bS, .inl (cI, 60, .inl S)), (bB, .inl (cZ, 60, .inl B)), (bL, .inl (cI, 4, .inl L)), (bT, .inl (cI, 4, .inl T)), (bU, .inl (cI, 6, .inl U))] s.heap := hP
  have hl := lv_entry ([.ref mo, .int (nI i), .int w]) (n := 3) (Nat.le_of_ble_eq_true rfl)
  rw [lg_entry_eq]
  generalize (lg_sl ([.ref mo, .int (nI i), .int w]) ++ List.replicate (3 - (lg_sl ([.ref mo, .int (nI i), .int w])).length) Slot.unset).toArray = ls at hl ⊢
  have hl : lv_has ls 3 [(0, .ref mo), (1, .int (nI i)), (2, .int w)] := hl
  have k0 := hts (.fieldLink RX2 32 "KnifeLedgerModel" "thrown" "I") (by decide +kernel)
  have hinX2 : ∀ w ∈ wsX20, w ∈ wsX2_entry := by decide +kernel
  refine lv_aload_n hx hb dX2_entry_0 rfl (lv_at hl 0 rfl) ?_
  refine lv_iconst (v := 0) hx hb dX2_entry_1 (by decide) ?_
  refine va_put (D := (dC, dI)) (ci := 2) (v := .int 0) (ty := .int) (C := RX2) (T := TX2) (N := 17) hx hb hts hinX2 tyX2 tyX2_ok nmX2 hown hK hP hD hS 0 rfl rfl 0 (by decide) k0 (fun _ h9 => h9) rfl (by decide +kernel) rfl rfl (Nat.le_of_ble_eq_true rfl) dX2_entry_2 (fun H_1 locs hP hD hS => ?_)
  have hP : va_P (dC, dI) vwCl [(mo, .inr (2, [.int 0, .ref bL, .ref bT, .int (nI n), .ref bK, .ref bF, .ref bS, .ref bB, .int co, .int pl, .int st, .int jo, .int cn, .int ii, .int fi, .int fe, .ref bU])), (bK, .inl (cI, 60, .inl K)), (bF, .inl (cI, 60, .inl F)), (bS, .inl (cI, 60, .inl S)), (bB, .inl (cZ, 60, .inl B)), (bL, .inl (cI, 4, .inl L)), (bT, .inl (cI, 4, .inl T)), (bU, .inl (cI, 6, .inl U))] H_1 := hP
  have hD : va_D A [(mo, .inr (2, [.int 0, .ref bL, .ref bT, .int (nI n), .ref bK, .ref bF, .ref bS, .ref bB, .int co, .int pl, .int st, .int jo, .int cn, .int ii, .int fi, .int fe, .ref bU])), (bK, .inl (cI, 60, .inl K)), (bF, .inl (cI, 60, .inl F)), (bS, .inl (cI, 60, .inl S)), (bB, .inl (cZ, 60, .inl B)), (bL, .inl (cI, 4, .inl L)), (bT, .inl (cI, 4, .inl T)), (bU, .inl (cI, 6, .inl U))] := hD
  refine lv_aload_n hx hb dX2_entry_5 rfl (lv_at hl 0 rfl) ?_
  refine lv_iload_n hx hb dX2_entry_6 rfl (lv_at hl 1 rfl) ?_
  have hPc := hP.sub (ws' := [(mo, .inr (2, [.int 0, .ref bL, .ref bT, .int (nI n), .ref bK, .ref bF, .ref bS, .ref bB, .int co, .int pl, .int st, .int jo, .int cn, .int ii, .int fi, .int fe, .ref bU])), (bK, .inl (cI, 60, .inl K)), (bF, .inl (cI, 60, .inl F)), (bS, .inl (cI, 60, .inl S)), (bB, .inl (cZ, 60, .inl B)), (bL, .inl (cI, 4, .inl L)), (bT, .inl (cI, 4, .inl T)), (bU, .inl (cI, 6, .inl U))]) [0, 1, 2, 3, 4, 5, 6, 7] rfl
  have hDc := hD.sub (ws' := [(mo, .inr (2, [.int 0, .ref bL, .ref bT, .int (nI n), .ref bK, .ref bF, .ref bS, .ref bB, .int co, .int pl, .int st, .int jo, .int cn, .int ii, .int fi, .int fe, .ref bU])), (bK, .inl (cI, 60, .inl K)), (bF, .inl (cI, 60, .inl F)), (bS, .inl (cI, 60, .inl S)), (bB, .inl (cZ, 60, .inl B)), (bL, .inl (cI, 4, .inl L)), (bT, .inl (cI, 4, .inl T)), (bU, .inl (cI, 6, .inl U))]) [0, 1, 2, 3, 4, 5, 6, 7] (by decide) rfl
  have hKc := hK.sub (tys' := [(cI, .int), (cZ, .boolean)]) [0, 1] rfl
  have hFc := va_free (wc := [(mo, .inr (2, [.int 0, .ref bL, .ref bT, .int (nI n), .ref bK, .ref bF, .ref bS, .ref bB, .int co, .int pl, .int st, .int jo, .int cn, .int ii, .int fi, .int fe, .ref bU])), (bK, .inl (cI, 60, .inl K)), (bF, .inl (cI, 60, .inl F)), (bS, .inl (cI, 60, .inl S)), (bB, .inl (cZ, 60, .inl B)), (bL, .inl (cI, 4, .inl L)), (bT, .inl (cI, 4, .inl T)), (bU, .inl (cI, 6, .inl U))]) hD hS hA [0, 1, 2, 3, 4, 5, 6, 7] rfl
  refine va_calli (va_runV (As := [.int (nI i)]) (rest := []) ⟨hx, hb, hml, hown, hts⟩ (c_X2_isEntry l dC dI cI cZ mo bK bF bS bB bL bT bU H_1.size L T K F S B U n 0 co pl st jo cn ii fi fe (nI i)) (cwV 1 hts gX2_entry_X2_isEntry rfl rfl rfl (by decide +kernel) ⟨Nat.le_of_ble_eq_true rfl, Nat.le_of_ble_eq_true rfl⟩) (pc_V hKc hPc hDc (ci := 2) (C := RX2) (T := TX2) (N := 17) (q0 := 0) rfl rfl) rfl rfl hl.1 rfl (lv_room (Nat.le_of_ble_eq_true rfl)) dX2_entry_7 ⟨Nat.le_of_ble_eq_true rfl, Nat.le_of_ble_eq_true rfl⟩) hS (fun q _ h => hFc q h) hFc (fun r_2 u t H_2 locs ht hvm hw hB hz1 hk1 hS => ?_)
  try dsimp only at hw hB
  have hw_2 := hw
  replace hw_2 := hw_2.symm
  subst hw_2
  obtain ⟨hP1, hD1⟩ := hB
  rw [ht] at hP1
  obtain ⟨hP, hD⟩ := va_join (wr := []) (w1 := [(mo, .inr (2, [.int 0, .ref bL, .ref bT, .int (nI n), .ref bK, .ref bF, .ref bS, .ref bB, .int co, .int pl, .int st, .int jo, .int cn, .int ii, .int fi, .int fe, .ref bU])), (bK, .inl (cI, 60, .inl K)), (bF, .inl (cI, 60, .inl F)), (bS, .inl (cI, 60, .inl S)), (bB, .inl (cZ, 60, .inl B)), (bL, .inl (cI, 4, .inl L)), (bT, .inl (cI, 4, .inl T)), (bU, .inl (cI, 6, .inl U))]) hP hD [0, 1, 2, 3, 4, 5, 6, 7] [] rfl rfl (by decide) (by decide) hk1 hFc hP1 hD1
  have hP : va_P (dC, dI) vwCl [(mo, .inr (2, [.int 0, .ref bL, .ref bT, .int (nI n), .ref bK, .ref bF, .ref bS, .ref bB, .int co, .int pl, .int st, .int jo, .int cn, .int ii, .int fi, .int fe, .ref bU])), (bK, .inl (cI, 60, .inl K)), (bF, .inl (cI, 60, .inl F)), (bS, .inl (cI, 60, .inl S)), (bB, .inl (cZ, 60, .inl B)), (bL, .inl (cI, 4, .inl L)), (bT, .inl (cI, 4, .inl T)), (bU, .inl (cI, 6, .inl U))] H_2 := hP
  have hD : va_D A [(mo, .inr (2, [.int 0, .ref bL, .ref bT, .int (nI n), .ref bK, .ref bF, .ref bS, .ref bB, .int co, .int pl, .int st, .int jo, .int cn, .int ii, .int fi, .int fe, .ref bU])), (bK, .inl (cI, 60, .inl K)), (bF, .inl (cI, 60, .inl F)), (bS, .inl (cI, 60, .inl S)), (bB, .inl (cZ, 60, .inl B)), (bL, .inl (cI, 4, .inl L)), (bT, .inl (cI, 4, .inl T)), (bU, .inl (cI, 6, .inl U))] := hD
  refine lv_if_eq (tgt := 31) hx hb dX2_entry_10 (by decide) (fun h9 => absurd h9 (by rw [mIn_ent hi hX.1]; exact one_ne)) (fun _ => ?_)
  refine lv_iload_n hx hb dX2_entry_13 rfl (lv_at hl 2 rfl) ?_
  refine lv_iconst (v := 0) hx hb dX2_entry_14 (by decide) ?_
  refine lv_iconst (v := 4) hx hb dX2_entry_15 (by decide) ?_
  have hPc := hP.sub (ws' := []) [] rfl
  have hDc := hD.sub (ws' := []) [] (by decide) rfl
  have hKc := hK.sub (tys' := []) [] rfl
  have hFc := va_free (wc := []) hD hS hA [] rfl
  refine va_calli (va_runS (As := [.int w, .int 0, .int 4]) (rest := []) ⟨hx, hb, hml, hown, hts⟩ (c_X2_isIn l dC dI H_2.size w 0 4) (va_cwS 3 hts gX2_entry_X2_isIn rfl rfl rfl (by decide +kernel) ⟨Nat.le_of_ble_eq_true rfl, Nat.le_of_ble_eq_true rfl⟩) (pc_S hKc hPc hDc) rfl rfl hl.1 rfl (lv_room (Nat.le_of_ble_eq_true rfl)) dX2_entry_16 ⟨Nat.le_of_ble_eq_true rfl, Nat.le_of_ble_eq_true rfl⟩) hS (fun q _ h => hFc q h) hFc (fun r_3 u t H_3 locs ht hvm hw hB hz1 hk1 hS => ?_)
  try dsimp only at hw hB
  have hw_3 := hw
  replace hw_3 := hw_3.symm
  subst hw_3
  obtain ⟨hP1, hD1⟩ := hB
  rw [ht] at hP1
  obtain ⟨hP, hD⟩ := va_join (wr := [(mo, .inr (2, [.int 0, .ref bL, .ref bT, .int (nI n), .ref bK, .ref bF, .ref bS, .ref bB, .int co, .int pl, .int st, .int jo, .int cn, .int ii, .int fi, .int fe, .ref bU])), (bK, .inl (cI, 60, .inl K)), (bF, .inl (cI, 60, .inl F)), (bS, .inl (cI, 60, .inl S)), (bB, .inl (cZ, 60, .inl B)), (bL, .inl (cI, 4, .inl L)), (bT, .inl (cI, 4, .inl T)), (bU, .inl (cI, 6, .inl U))]) (w1 := []) hP hD [] [0, 1, 2, 3, 4, 5, 6, 7] rfl rfl (by decide) (by decide) hk1 hFc hP1 hD1
  have hP : va_P (dC, dI) vwCl [(mo, .inr (2, [.int 0, .ref bL, .ref bT, .int (nI n), .ref bK, .ref bF, .ref bS, .ref bB, .int co, .int pl, .int st, .int jo, .int cn, .int ii, .int fi, .int fe, .ref bU])), (bK, .inl (cI, 60, .inl K)), (bF, .inl (cI, 60, .inl F)), (bS, .inl (cI, 60, .inl S)), (bB, .inl (cZ, 60, .inl B)), (bL, .inl (cI, 4, .inl L)), (bT, .inl (cI, 4, .inl T)), (bU, .inl (cI, 6, .inl U))] H_3 := hP
  have hD : va_D A [(mo, .inr (2, [.int 0, .ref bL, .ref bT, .int (nI n), .ref bK, .ref bF, .ref bS, .ref bB, .int co, .int pl, .int st, .int jo, .int cn, .int ii, .int fi, .int fe, .ref bU])), (bK, .inl (cI, 60, .inl K)), (bF, .inl (cI, 60, .inl F)), (bS, .inl (cI, 60, .inl S)), (bB, .inl (cZ, 60, .inl B)), (bL, .inl (cI, 4, .inl L)), (bT, .inl (cI, 4, .inl T)), (bU, .inl (cI, 6, .inl U))] := hD
  refine lv_if_eq (tgt := 31) hx hb dX2_entry_19 (by decide) (fun _ => ?_) (fun h9 => absurd (mIn_bad hb0) h9)
  refine lv_aload_n hx hb dX2_entry_31 rfl (lv_at hl 0 rfl) ?_
  refine lv_iconst (v := 1) hx hb dX2_entry_32 (by decide) ?_
  have hPc := hP.sub (ws' := [(mo, .inr (2, [.int 0, .ref bL, .ref bT, .int (nI n), .ref bK, .ref bF, .ref bS, .ref bB, .int co, .int pl, .int st, .int jo, .int cn, .int ii, .int fi, .int fe, .ref bU])), (bK, .inl (cI, 60, .inl K)), (bF, .inl (cI, 60, .inl F)), (bS, .inl (cI, 60, .inl S)), (bB, .inl (cZ, 60, .inl B)), (bL, .inl (cI, 4, .inl L)), (bT, .inl (cI, 4, .inl T)), (bU, .inl (cI, 6, .inl U))]) [0, 1, 2, 3, 4, 5, 6, 7] rfl
  have hDc := hD.sub (ws' := [(mo, .inr (2, [.int 0, .ref bL, .ref bT, .int (nI n), .ref bK, .ref bF, .ref bS, .ref bB, .int co, .int pl, .int st, .int jo, .int cn, .int ii, .int fi, .int fe, .ref bU])), (bK, .inl (cI, 60, .inl K)), (bF, .inl (cI, 60, .inl F)), (bS, .inl (cI, 60, .inl S)), (bB, .inl (cZ, 60, .inl B)), (bL, .inl (cI, 4, .inl L)), (bT, .inl (cI, 4, .inl T)), (bU, .inl (cI, 6, .inl U))]) [0, 1, 2, 3, 4, 5, 6, 7] (by decide) rfl
  have hKc := hK.sub (tys' := [(cI, .int), (cZ, .boolean)]) [0, 1] rfl
  have hFc := va_free (wc := [(mo, .inr (2, [.int 0, .ref bL, .ref bT, .int (nI n), .ref bK, .ref bF, .ref bS, .ref bB, .int co, .int pl, .int st, .int jo, .int cn, .int ii, .int fi, .int fe, .ref bU])), (bK, .inl (cI, 60, .inl K)), (bF, .inl (cI, 60, .inl F)), (bS, .inl (cI, 60, .inl S)), (bB, .inl (cZ, 60, .inl B)), (bL, .inl (cI, 4, .inl L)), (bT, .inl (cI, 4, .inl T)), (bU, .inl (cI, 6, .inl U))]) hD hS hA [0, 1, 2, 3, 4, 5, 6, 7] rfl
  refine va_calli (va_runV (As := [.int 1]) (rest := []) ⟨hx, hb, hml, hown, hts⟩ (c_X2_fail l dC dI cI cZ mo bK bF bS bB bL bT bU H_3.size L T K F S B U n 0 co pl st jo cn ii fi fe 1) (cwV 1 hts gX2_entry_X2_fail rfl rfl rfl (by decide +kernel) ⟨Nat.le_of_ble_eq_true rfl, Nat.le_of_ble_eq_true rfl⟩) (pc_V hKc hPc hDc (ci := 2) (C := RX2) (T := TX2) (N := 17) (q0 := 0) rfl rfl) rfl rfl hl.1 rfl (lv_room (Nat.le_of_ble_eq_true rfl)) dX2_entry_33 ⟨Nat.le_of_ble_eq_true rfl, Nat.le_of_ble_eq_true rfl⟩) hS (fun q _ h => hFc q h) hFc (fun r_4 u t H_4 locs ht hvm hw hB hz1 hk1 hS => ?_)
  try dsimp only at hw hB
  have hw_4 := hw
  replace hw_4 := hw_4.symm
  subst hw_4
  obtain ⟨hP1, hD1⟩ := hB
  rw [ht] at hP1
  obtain ⟨hP, hD⟩ := va_join (wr := []) (w1 := [(mo, .inr (2, [.int 1, .ref bL, .ref bT, .int (nI n), .ref bK, .ref bF, .ref bS, .ref bB, .int co, .int pl, .int st, .int jo, .int cn, .int ii, .int fi, .int fe, .ref bU])), (bK, .inl (cI, 60, .inl K)), (bF, .inl (cI, 60, .inl F)), (bS, .inl (cI, 60, .inl S)), (bB, .inl (cZ, 60, .inl B)), (bL, .inl (cI, 4, .inl L)), (bT, .inl (cI, 4, .inl T)), (bU, .inl (cI, 6, .inl U))]) hP hD [0, 1, 2, 3, 4, 5, 6, 7] [] rfl rfl (by decide) (by decide) hk1 hFc hP1 hD1
  have hP : va_P (dC, dI) vwCl [(mo, .inr (2, [.int 1, .ref bL, .ref bT, .int (nI n), .ref bK, .ref bF, .ref bS, .ref bB, .int co, .int pl, .int st, .int jo, .int cn, .int ii, .int fi, .int fe, .ref bU])), (bK, .inl (cI, 60, .inl K)), (bF, .inl (cI, 60, .inl F)), (bS, .inl (cI, 60, .inl S)), (bB, .inl (cZ, 60, .inl B)), (bL, .inl (cI, 4, .inl L)), (bT, .inl (cI, 4, .inl T)), (bU, .inl (cI, 6, .inl U))] H_4 := hP
  have hD : va_D A [(mo, .inr (2, [.int 1, .ref bL, .ref bT, .int (nI n), .ref bK, .ref bF, .ref bS, .ref bB, .int co, .int pl, .int st, .int jo, .int cn, .int ii, .int fi, .int fe, .ref bU])), (bK, .inl (cI, 60, .inl K)), (bF, .inl (cI, 60, .inl F)), (bS, .inl (cI, 60, .inl S)), (bB, .inl (cZ, 60, .inl B)), (bL, .inl (cI, 4, .inl L)), (bT, .inl (cI, 4, .inl T)), (bU, .inl (cI, 6, .inl U))] := hD
  have hpost : (0 : Int32) = 0 := by
    rfl
  have hP9 := hP.sub (ws' := [(mo, .inr (2, [.int 1, .ref bL, .ref bT, .int (nI n), .ref bK, .ref bF, .ref bS, .ref bB, .int co, .int pl, .int st, .int jo, .int cn, .int ii, .int fi, .int fe, .ref bU])), (bK, .inl (cI, 60, .inl K)), (bF, .inl (cI, 60, .inl F)), (bS, .inl (cI, 60, .inl S)), (bB, .inl (cZ, 60, .inl B)), (bL, .inl (cI, 4, .inl L)), (bT, .inl (cI, 4, .inl T)), (bU, .inl (cI, 6, .inl U))]) [0, 1, 2, 3, 4, 5, 6, 7] rfl
  have hD9 := hD.sub (ws' := [(mo, .inr (2, [.int 1, .ref bL, .ref bT, .int (nI n), .ref bK, .ref bF, .ref bS, .ref bB, .int co, .int pl, .int st, .int jo, .int cn, .int ii, .int fi, .int fe, .ref bU])), (bK, .inl (cI, 60, .inl K)), (bF, .inl (cI, 60, .inl F)), (bS, .inl (cI, 60, .inl S)), (bB, .inl (cZ, 60, .inl B)), (bL, .inl (cI, 4, .inl L)), (bT, .inl (cI, 4, .inl T)), (bU, .inl (cI, 6, .inl U))]) [0, 1, 2, 3, 4, 5, 6, 7] (by decide) rfl
  exact W.iret (v := 0) hx hb hr (fun t ht hW => ⟨⟨0, (), rfl, hpost, by rw [ht]; exact hP9, hD9⟩, hS.F ht⟩) hS.2.2 dX2_entry_36

set_option maxHeartbeats 4000000 in
set_option maxRecDepth 100000 in
theorem c_X2_trust (l : Launch) (dC : Nat → ClassId) (dI : Nat → Nat → Nat) (cI cZ : ClassId) (mo bK bF bS bB bL bT bU : Nat) (sz : Nat) (L : N2I) (T : N2I) (K : N2I) (F : N2I) (S : N2I) (B : N2I) (U : N2I) (n : Nat) (tw : Int32) (co : Int32) (pl : Int32) (st : Int32) (jo : Int32) (cn : Int32) (ii : Int32) (fi : Int32) (fe : Int32) (p9 : Int32) (mm : Nat) (hX : okX K F S B n) (hm : mm ≤ n) (hp : vp_in p9 6) (h0 : ¬ p9 < 0) (h1 : ¬ 5 < p9) : Met l yX2_trust wsX2_trust ({ frames := 5, cells := 0, slots := 0, locals := 106 } : Room) (va_Pc [.ref mo, .int p9, .int (nI mm)] (pc_ (dC, dI) [(cI, .int), (cZ, .boolean)] [(mo, .inr (2, [.int tw, .ref bL, .ref bT, .int (nI n), .ref bK, .ref bF, .ref bS, .ref bB, .int co, .int pl, .int st, .int jo, .int cn, .int ii, .int fi, .int fe, .ref bU])), (bK, .inl (cI, 60, .inl K)), (bF, .inl (cI, 60, .inl F)), (bS, .inl (cI, 60, .inl S)), (bB, .inl (cZ, 60, .inl B)), (bL, .inl (cI, 4, .inl L)), (bT, .inl (cI, 4, .inl T)), (bU, .inl (cI, 6, .inl U))] sz)) (va_Qi (fun (r : Int32) (u : Int32 × Int32 × Int32 × Int32 × Int32 × Int32 × Int32 × Int32 × N2I) => r = aTrust p9 (cRec L T K F S B mm)) (fun (u : Int32 × Int32 × Int32 × Int32 × Int32 × Int32 × Int32 × Int32 × N2I) (t : State) => va_P (dC, dI) vwCl [(mo, .inr (2, [.int 0, .ref bL, .ref bT, .int (nI n), .ref bK, .ref bF, .ref bS, .ref bB, .int u.1, .int u.2.1, .int u.2.2.1, .int u.2.2.2.1, .int u.2.2.2.2.1, .int u.2.2.2.2.2.1, .int u.2.2.2.2.2.2.1, .int u.2.2.2.2.2.2.2.1, .ref bU])), (bK, .inl (cI, 60, .inl K)), (bF, .inl (cI, 60, .inl F)), (bS, .inl (cI, 60, .inl S)), (bB, .inl (cZ, 60, .inl B)), (bL, .inl (cI, 4, .inl L)), (bT, .inl (cI, 4, .inl T)), (bU, .inl (cI, 6, .inl u.2.2.2.2.2.2.2.2))] t.heap ∧ va_D (va_A [(mo, .inr (2, [.int tw, .ref bL, .ref bT, .int (nI n), .ref bK, .ref bF, .ref bS, .ref bB, .int co, .int pl, .int st, .int jo, .int cn, .int ii, .int fi, .int fe, .ref bU])), (bK, .inl (cI, 60, .inl K)), (bF, .inl (cI, 60, .inl F)), (bS, .inl (cI, 60, .inl S)), (bB, .inl (cZ, 60, .inl B)), (bL, .inl (cI, 4, .inl L)), (bT, .inl (cI, 4, .inl T)), (bU, .inl (cI, 6, .inl U))] sz) [(mo, .inr (2, [.int 0, .ref bL, .ref bT, .int (nI n), .ref bK, .ref bF, .ref bS, .ref bB, .int u.1, .int u.2.1, .int u.2.2.1, .int u.2.2.2.1, .int u.2.2.2.2.1, .int u.2.2.2.2.2.1, .int u.2.2.2.2.2.2.1, .int u.2.2.2.2.2.2.2.1, .ref bU])), (bK, .inl (cI, 60, .inl K)), (bF, .inl (cI, 60, .inl F)), (bS, .inl (cI, 60, .inl S)), (bB, .inl (cZ, 60, .inl B)), (bL, .inl (cI, 4, .inl L)), (bT, .inl (cI, 4, .inl T)), (bU, .inl (cI, 6, .inl u.2.2.2.2.2.2.2.2))]) (va_A [(mo, .inr (2, [.int tw, .ref bL, .ref bT, .int (nI n), .ref bK, .ref bF, .ref bS, .ref bB, .int co, .int pl, .int st, .int jo, .int cn, .int ii, .int fi, .int fe, .ref bU])), (bK, .inl (cI, 60, .inl K)), (bF, .inl (cI, 60, .inl F)), (bS, .inl (cI, 60, .inl S)), (bB, .inl (cZ, 60, .inl B)), (bL, .inl (cI, 4, .inl L)), (bT, .inl (cI, 4, .inl T)), (bU, .inl (cI, 6, .inl U))] sz)) 0 0 (va_A [(mo, .inr (2, [.int tw, .ref bL, .ref bT, .int (nI n), .ref bK, .ref bF, .ref bS, .ref bB, .int co, .int pl, .int st, .int jo, .int cn, .int ii, .int fi, .int fe, .ref bU])), (bK, .inl (cI, 60, .inl K)), (bF, .inl (cI, 60, .inl F)), (bS, .inl (cI, 60, .inl S)), (bB, .inl (cZ, 60, .inl B)), (bL, .inl (cI, 4, .inl L)), (bT, .inl (cI, 4, .inl T)), (bU, .inl (cI, 6, .inl U))] sz) := by
  refine Met.ofW (cc := cX2_trust) (maxL := 3) (ret := (some .int)) (by decide) rfl ?_
  intro p e s m args below meth c s₁ BB hml hv
  obtain ⟨rfl, hsz, hP, hK, hD0⟩ := hv
  have hx := BB.exec
  have hb := BB.bytes
  have hr := BB.returns
  have hts := atoms_spec (ws := wsX2_trust) BB.pre
  have hown : s.vm.findClass RX2 = some m.cls := findClass_of_methodNamed BB.named
  have hlocks := BB.notSynchronized
  subst hsz
  have hD := hD0.self (sz := s.heap.size)
  generalize hAe : va_A [(mo, .inr (2, [.int tw, .ref bL, .ref bT, .int (nI n), .ref bK, .ref bF, .ref bS, .ref bB, .int co, .int pl, .int st, .int jo, .int cn, .int ii, .int fi, .int fe, .ref bU])), (bK, .inl (cI, 60, .inl K)), (bF, .inl (cI, 60, .inl F)), (bS, .inl (cI, 60, .inl S)), (bB, .inl (cZ, 60, .inl B)), (bL, .inl (cI, 4, .inl L)), (bT, .inl (cI, 4, .inl T)), (bU, .inl (cI, 6, .inl U))] s.heap.size = A at hD ⊢
  have hA : ∀ q : Nat, s.heap.size ≤ q → A q := fun q h => by rw [← hAe]; exact Or.inr h
  have hS : va_S A s.heap s.heap [] := va_S.rf
  have hP : va_P (dC, dI) vwCl [(mo, .inr (2, [.int tw, .ref bL, .ref bT, .int (nI n), .ref bK, .ref bF, .ref bS, .ref bB, .int co, .int pl, .int st, .int jo, .int cn, .int ii, .int fi, .int fe, .ref bU])), (bK, .inl (cI, 60, .inl K)), (bF, .inl (cI, 60, .inl F)), (bS, .inl (cI, 60, .inl S)), (bB, .inl (cZ, 60, .inl B)), (bL, .inl (cI, 4, .inl L)), (bT, .inl (cI, 4, .inl T)), (bU, .inl (cI, 6, .inl U))] s.heap := hP
  have hl := lv_entry ([.ref mo, .int p9, .int (nI mm)]) (n := 3) (Nat.le_of_ble_eq_true rfl)
  rw [lg_entry_eq]
  generalize (lg_sl ([.ref mo, .int p9, .int (nI mm)]) ++ List.replicate (3 - (lg_sl ([.ref mo, .int p9, .int (nI mm)])).length) Slot.unset).toArray = ls at hl ⊢
  have hl : lv_has ls 3 [(0, .ref mo), (1, .int p9), (2, .int (nI mm))] := hl
  have k0 := hts (.fieldLink RX2 32 "KnifeLedgerModel" "thrown" "I") (by decide +kernel)
  have hinX2 : ∀ w ∈ wsX20, w ∈ wsX2_trust := by decide +kernel
  have k2 := hts (.fieldLink RX2 36 "KnifeLedgerModel" "entries" "I") (by decide +kernel)
  have k3 := hts (.fieldLink RX2 60 "KnifeLedgerModel" "joined" "I") (by decide +kernel)
  have k4 := hts (.fieldLink RX2 29 "KnifeLedgerModel" "trusts" "[I") (by decide +kernel)
  have hn6 : n ≤ 60 := hX.1
  refine lv_aload_n hx hb dX2_trust_0 rfl (lv_at hl 0 rfl) ?_
  refine lv_iconst (v := 0) hx hb dX2_trust_1 (by decide) ?_
  refine va_put (D := (dC, dI)) (ci := 2) (v := .int 0) (ty := .int) (C := RX2) (T := TX2) (N := 17) hx hb hts hinX2 tyX2 tyX2_ok nmX2 hown hK hP hD hS 0 rfl rfl 0 (by decide) k0 (fun _ h9 => h9) rfl (by decide +kernel) rfl rfl (Nat.le_of_ble_eq_true rfl) dX2_trust_2 (fun H_1 locs hP hD hS => ?_)
  have hP : va_P (dC, dI) vwCl [(mo, .inr (2, [.int 0, .ref bL, .ref bT, .int (nI n), .ref bK, .ref bF, .ref bS, .ref bB, .int co, .int pl, .int st, .int jo, .int cn, .int ii, .int fi, .int fe, .ref bU])), (bK, .inl (cI, 60, .inl K)), (bF, .inl (cI, 60, .inl F)), (bS, .inl (cI, 60, .inl S)), (bB, .inl (cZ, 60, .inl B)), (bL, .inl (cI, 4, .inl L)), (bT, .inl (cI, 4, .inl T)), (bU, .inl (cI, 6, .inl U))] H_1 := hP
  have hD : va_D A [(mo, .inr (2, [.int 0, .ref bL, .ref bT, .int (nI n), .ref bK, .ref bF, .ref bS, .ref bB, .int co, .int pl, .int st, .int jo, .int cn, .int ii, .int fi, .int fe, .ref bU])), (bK, .inl (cI, 60, .inl K)), (bF, .inl (cI, 60, .inl F)), (bS, .inl (cI, 60, .inl S)), (bB, .inl (cZ, 60, .inl B)), (bL, .inl (cI, 4, .inl L)), (bT, .inl (cI, 4, .inl T)), (bU, .inl (cI, 6, .inl U))] := hD
  refine lv_iload_n hx hb dX2_trust_5 rfl (lv_at hl 1 rfl) ?_
  refine lv_iconst (v := 0) hx hb dX2_trust_6 (by decide) ?_
  refine lv_iconst (v := 5) hx hb dX2_trust_7 (by decide) ?_
  have hPc := hP.sub (ws' := []) [] rfl
  have hDc := hD.sub (ws' := []) [] (by decide) rfl
  have hKc := hK.sub (tys' := []) [] rfl
  have hFc := va_free (wc := []) hD hS hA [] rfl
  refine va_calli (va_runS (As := [.int p9, .int 0, .int 5]) (rest := []) ⟨hx, hb, hml, hown, hts⟩ (c_X2_isIn l dC dI H_1.size p9 0 5) (va_cwS 3 hts gX2_trust_X2_isIn rfl rfl rfl (by decide +kernel) ⟨Nat.le_of_ble_eq_true rfl, Nat.le_of_ble_eq_true rfl⟩) (pc_S hKc hPc hDc) rfl rfl hl.1 rfl (lv_room (Nat.le_of_ble_eq_true rfl)) dX2_trust_8 ⟨Nat.le_of_ble_eq_true rfl, Nat.le_of_ble_eq_true rfl⟩) hS (fun q _ h => hFc q h) hFc (fun r_2 u t H_2 locs ht hvm hw hB hz1 hk1 hS => ?_)
  try dsimp only at hw hB
  have hw_2 := hw
  replace hw_2 := hw_2.symm
  subst hw_2
  obtain ⟨hP1, hD1⟩ := hB
  rw [ht] at hP1
  obtain ⟨hP, hD⟩ := va_join (wr := [(mo, .inr (2, [.int 0, .ref bL, .ref bT, .int (nI n), .ref bK, .ref bF, .ref bS, .ref bB, .int co, .int pl, .int st, .int jo, .int cn, .int ii, .int fi, .int fe, .ref bU])), (bK, .inl (cI, 60, .inl K)), (bF, .inl (cI, 60, .inl F)), (bS, .inl (cI, 60, .inl S)), (bB, .inl (cZ, 60, .inl B)), (bL, .inl (cI, 4, .inl L)), (bT, .inl (cI, 4, .inl T)), (bU, .inl (cI, 6, .inl U))]) (w1 := []) hP hD [] [0, 1, 2, 3, 4, 5, 6, 7] rfl rfl (by decide) (by decide) hk1 hFc hP1 hD1
  have hP : va_P (dC, dI) vwCl [(mo, .inr (2, [.int 0, .ref bL, .ref bT, .int (nI n), .ref bK, .ref bF, .ref bS, .ref bB, .int co, .int pl, .int st, .int jo, .int cn, .int ii, .int fi, .int fe, .ref bU])), (bK, .inl (cI, 60, .inl K)), (bF, .inl (cI, 60, .inl F)), (bS, .inl (cI, 60, .inl S)), (bB, .inl (cZ, 60, .inl B)), (bL, .inl (cI, 4, .inl L)), (bT, .inl (cI, 4, .inl T)), (bU, .inl (cI, 6, .inl U))] H_2 := hP
  have hD : va_D A [(mo, .inr (2, [.int 0, .ref bL, .ref bT, .int (nI n), .ref bK, .ref bF, .ref bS, .ref bB, .int co, .int pl, .int st, .int jo, .int cn, .int ii, .int fi, .int fe, .ref bU])), (bK, .inl (cI, 60, .inl K)), (bF, .inl (cI, 60, .inl F)), (bS, .inl (cI, 60, .inl S)), (bB, .inl (cZ, 60, .inl B)), (bL, .inl (cI, 4, .inl L)), (bT, .inl (cI, 4, .inl T)), (bU, .inl (cI, 6, .inl U))] := hD
  refine lv_if_ne (tgt := 20) hx hb dX2_trust_11 (by decide) (fun _ => ?_) (fun h9 => absurd h9 (by rw [mIn_ok h0 h1]; exact one_ne))
  refine lv_iload_n hx hb dX2_trust_20 rfl (lv_at hl 2 rfl) ?_
  refine lv_iconst (v := 0) hx hb dX2_trust_21 (by decide) ?_
  refine lv_aload_n hx hb dX2_trust_22 rfl (lv_at hl 0 rfl) ?_
  refine va_get (D := (dC, dI)) (ci := 2) (v := .int (nI n)) (C := RX2) (T := TX2) (N := 17) hx hb hts hinX2 hown hK hP 0 rfl rfl 3 (by decide) k2 (fun _ h9 => h9) rfl dX2_trust_23 ?_
  have hPc := hP.sub (ws' := []) [] rfl
  have hDc := hD.sub (ws' := []) [] (by decide) rfl
  have hKc := hK.sub (tys' := []) [] rfl
  have hFc := va_free (wc := []) hD hS hA [] rfl
  refine va_calli (va_runS (As := [.int (nI mm), .int 0, .int (nI n)]) (rest := []) ⟨hx, hb, hml, hown, hts⟩ (c_X2_isIn l dC dI H_2.size (nI mm) 0 (nI n)) (va_cwS 3 hts gX2_trust_X2_isIn rfl rfl rfl (by decide +kernel) ⟨Nat.le_of_ble_eq_true rfl, Nat.le_of_ble_eq_true rfl⟩) (pc_S hKc hPc hDc) rfl rfl hl.1 rfl (lv_room (Nat.le_of_ble_eq_true rfl)) dX2_trust_26 ⟨Nat.le_of_ble_eq_true rfl, Nat.le_of_ble_eq_true rfl⟩) hS (fun q _ h => hFc q h) hFc (fun r_3 u t H_3 locs ht hvm hw hB hz1 hk1 hS => ?_)
  try dsimp only at hw hB
  have hw_3 := hw
  replace hw_3 := hw_3.symm
  subst hw_3
  obtain ⟨hP1, hD1⟩ := hB
  rw [ht] at hP1
  obtain ⟨hP, hD⟩ := va_join (wr := [(mo, .inr (2, [.int 0, .ref bL, .ref bT, .int (nI n), .ref bK, .ref bF, .ref bS, .ref bB, .int co, .int pl, .int st, .int jo, .int cn, .int ii, .int fi, .int fe, .ref bU])), (bK, .inl (cI, 60, .inl K)), (bF, .inl (cI, 60, .inl F)), (bS, .inl (cI, 60, .inl S)), (bB, .inl (cZ, 60, .inl B)), (bL, .inl (cI, 4, .inl L)), (bT, .inl (cI, 4, .inl T)), (bU, .inl (cI, 6, .inl U))]) (w1 := []) hP hD [] [0, 1, 2, 3, 4, 5, 6, 7] rfl rfl (by decide) (by decide) hk1 hFc hP1 hD1
  have hP : va_P (dC, dI) vwCl [(mo, .inr (2, [.int 0, .ref bL, .ref bT, .int (nI n), .ref bK, .ref bF, .ref bS, .ref bB, .int co, .int pl, .int st, .int jo, .int cn, .int ii, .int fi, .int fe, .ref bU])), (bK, .inl (cI, 60, .inl K)), (bF, .inl (cI, 60, .inl F)), (bS, .inl (cI, 60, .inl S)), (bB, .inl (cZ, 60, .inl B)), (bL, .inl (cI, 4, .inl L)), (bT, .inl (cI, 4, .inl T)), (bU, .inl (cI, 6, .inl U))] H_3 := hP
  have hD : va_D A [(mo, .inr (2, [.int 0, .ref bL, .ref bT, .int (nI n), .ref bK, .ref bF, .ref bS, .ref bB, .int co, .int pl, .int st, .int jo, .int cn, .int ii, .int fi, .int fe, .ref bU])), (bK, .inl (cI, 60, .inl K)), (bF, .inl (cI, 60, .inl F)), (bS, .inl (cI, 60, .inl S)), (bB, .inl (cZ, 60, .inl B)), (bL, .inl (cI, 4, .inl L)), (bT, .inl (cI, 4, .inl T)), (bU, .inl (cI, 6, .inl U))] := hD
  refine lv_if_ne (tgt := 38) hx hb dX2_trust_29 (by decide) (fun _ => ?_) (fun h9 => absurd h9 (by rw [mIn_ok (nI_pos (by omega)) (nI_nlt hm (by omega))]; exact one_ne))
  refine lv_aload_n hx hb dX2_trust_38 rfl (lv_at hl 0 rfl) ?_
  refine lv_iload_n hx hb dX2_trust_39 rfl (lv_at hl 2 rfl) ?_
  have hPc := hP.sub (ws' := [(mo, .inr (2, [.int 0, .ref bL, .ref bT, .int (nI n), .ref bK, .ref bF, .ref bS, .ref bB, .int co, .int pl, .int st, .int jo, .int cn, .int ii, .int fi, .int fe, .ref bU])), (bK, .inl (cI, 60, .inl K)), (bF, .inl (cI, 60, .inl F)), (bS, .inl (cI, 60, .inl S)), (bB, .inl (cZ, 60, .inl B)), (bL, .inl (cI, 4, .inl L)), (bT, .inl (cI, 4, .inl T)), (bU, .inl (cI, 6, .inl U))]) [0, 1, 2, 3, 4, 5, 6, 7] rfl
  have hDc := hD.sub (ws' := [(mo, .inr (2, [.int 0, .ref bL, .ref bT, .int (nI n), .ref bK, .ref bF, .ref bS, .ref bB, .int co, .int pl, .int st, .int jo, .int cn, .int ii, .int fi, .int fe, .ref bU])), (bK, .inl (cI, 60, .inl K)), (bF, .inl (cI, 60, .inl F)), (bS, .inl (cI, 60, .inl S)), (bB, .inl (cZ, 60, .inl B)), (bL, .inl (cI, 4, .inl L)), (bT, .inl (cI, 4, .inl T)), (bU, .inl (cI, 6, .inl U))]) [0, 1, 2, 3, 4, 5, 6, 7] (by decide) rfl
  have hKc := hK.sub (tys' := [(cI, .int), (cZ, .boolean)]) [0, 1] rfl
  have hFc := va_free (wc := [(mo, .inr (2, [.int 0, .ref bL, .ref bT, .int (nI n), .ref bK, .ref bF, .ref bS, .ref bB, .int co, .int pl, .int st, .int jo, .int cn, .int ii, .int fi, .int fe, .ref bU])), (bK, .inl (cI, 60, .inl K)), (bF, .inl (cI, 60, .inl F)), (bS, .inl (cI, 60, .inl S)), (bB, .inl (cZ, 60, .inl B)), (bL, .inl (cI, 4, .inl L)), (bT, .inl (cI, 4, .inl T)), (bU, .inl (cI, 6, .inl U))]) hD hS hA [0, 1, 2, 3, 4, 5, 6, 7] rfl
  refine va_calli (va_runV (As := [.int (nI mm)]) (rest := []) ⟨hx, hb, hml, hown, hts⟩ (c_X2_reckon l dC dI cI cZ mo bK bF bS bB bL bT bU H_3.size L T K F S B U n 0 co pl st jo cn ii fi fe mm (hX) (hm)) (cwV 1 hts gX2_trust_X2_reckon rfl rfl rfl (by decide +kernel) ⟨Nat.le_of_ble_eq_true rfl, Nat.le_of_ble_eq_true rfl⟩) (pc_V hKc hPc hDc (ci := 2) (C := RX2) (T := TX2) (N := 17) (q0 := 0) rfl rfl) rfl rfl hl.1 rfl (lv_room (Nat.le_of_ble_eq_true rfl)) dX2_trust_40 ⟨Nat.le_of_ble_eq_true rfl, Nat.le_of_ble_eq_true rfl⟩) hS (fun q _ h => hFc q h) hFc (fun r_4 u t H_4 locs ht hvm hw hB hz1 hk1 hS => ?_)
  obtain ⟨co1_4, pl1_4, st1_4, jo1_4, cn1_4, ii1_4, fi1_4, fe1_4, U1_4⟩ := u
  try dsimp only at hw hB
  have hw_4 := hw
  obtain ⟨hw0_4, hw1_4⟩ := hw_4
  replace hw1_4 := hw1_4.symm
  subst hw1_4
  obtain ⟨hP1, hD1⟩ := hB
  rw [ht] at hP1
  obtain ⟨hP, hD⟩ := va_join (wr := []) (w1 := [(mo, .inr (2, [.int 0, .ref bL, .ref bT, .int (nI n), .ref bK, .ref bF, .ref bS, .ref bB, .int co1_4, .int pl1_4, .int st1_4, .int jo1_4, .int cn1_4, .int ii1_4, .int fi1_4, .int fe1_4, .ref bU])), (bK, .inl (cI, 60, .inl K)), (bF, .inl (cI, 60, .inl F)), (bS, .inl (cI, 60, .inl S)), (bB, .inl (cZ, 60, .inl B)), (bL, .inl (cI, 4, .inl L)), (bT, .inl (cI, 4, .inl T)), (bU, .inl (cI, 6, .inl U1_4))]) hP hD [0, 1, 2, 3, 4, 5, 6, 7] [] rfl rfl (by decide) (by decide) hk1 hFc hP1 hD1
  have hP : va_P (dC, dI) vwCl [(mo, .inr (2, [.int 0, .ref bL, .ref bT, .int (nI n), .ref bK, .ref bF, .ref bS, .ref bB, .int co1_4, .int pl1_4, .int st1_4, .int jo1_4, .int cn1_4, .int ii1_4, .int fi1_4, .int fe1_4, .ref bU])), (bK, .inl (cI, 60, .inl K)), (bF, .inl (cI, 60, .inl F)), (bS, .inl (cI, 60, .inl S)), (bB, .inl (cZ, 60, .inl B)), (bL, .inl (cI, 4, .inl L)), (bT, .inl (cI, 4, .inl T)), (bU, .inl (cI, 6, .inl U1_4))] H_4 := hP
  have hD : va_D A [(mo, .inr (2, [.int 0, .ref bL, .ref bT, .int (nI n), .ref bK, .ref bF, .ref bS, .ref bB, .int co1_4, .int pl1_4, .int st1_4, .int jo1_4, .int cn1_4, .int ii1_4, .int fi1_4, .int fe1_4, .ref bU])), (bK, .inl (cI, 60, .inl K)), (bF, .inl (cI, 60, .inl F)), (bS, .inl (cI, 60, .inl S)), (bB, .inl (cZ, 60, .inl B)), (bL, .inl (cI, 4, .inl L)), (bT, .inl (cI, 4, .inl T)), (bU, .inl (cI, 6, .inl U1_4))] := hD
  refine lv_pop hx hb dX2_trust_43 rfl ?_
  refine lv_iload_n hx hb dX2_trust_44 rfl (lv_at hl 1 rfl) ?_
  refine lv_aload_n hx hb dX2_trust_45 rfl (lv_at hl 0 rfl) ?_
  refine va_get (D := (dC, dI)) (ci := 2) (v := .int jo1_4) (C := RX2) (T := TX2) (N := 17) hx hb hts hinX2 hown hK hP 0 rfl rfl 11 (by decide) k3 (fun _ h9 => h9) rfl dX2_trust_46 ?_
  refine lv_icmp_ge (tgt := 61) hx hb dX2_trust_49 (by decide) (fun c_49 => ?_) (fun c_49 => ?_)
  · -- 49
    refine lv_iconst (v := (-1)) hx hb dX2_trust_61 (by decide) ?_
    have hpost : (-1 : Int32) = aTrust p9 (cRec L T K F S B mm) := by
      rw [← ans_of (aTrust_sim hp) hX hm hw0_4]
      unfold aTrust mJd
      dsimp only
      rw [if_pos c_49, if_pos rfl]
    have hP9 := hP.sub (ws' := [(mo, .inr (2, [.int 0, .ref bL, .ref bT, .int (nI n), .ref bK, .ref bF, .ref bS, .ref bB, .int co1_4, .int pl1_4, .int st1_4, .int jo1_4, .int cn1_4, .int ii1_4, .int fi1_4, .int fe1_4, .ref bU])), (bK, .inl (cI, 60, .inl K)), (bF, .inl (cI, 60, .inl F)), (bS, .inl (cI, 60, .inl S)), (bB, .inl (cZ, 60, .inl B)), (bL, .inl (cI, 4, .inl L)), (bT, .inl (cI, 4, .inl T)), (bU, .inl (cI, 6, .inl U1_4))]) [0, 1, 2, 3, 4, 5, 6, 7] rfl
    have hD9 := hD.sub (ws' := [(mo, .inr (2, [.int 0, .ref bL, .ref bT, .int (nI n), .ref bK, .ref bF, .ref bS, .ref bB, .int co1_4, .int pl1_4, .int st1_4, .int jo1_4, .int cn1_4, .int ii1_4, .int fi1_4, .int fe1_4, .ref bU])), (bK, .inl (cI, 60, .inl K)), (bF, .inl (cI, 60, .inl F)), (bS, .inl (cI, 60, .inl S)), (bB, .inl (cZ, 60, .inl B)), (bL, .inl (cI, 4, .inl L)), (bT, .inl (cI, 4, .inl T)), (bU, .inl (cI, 6, .inl U1_4))]) [0, 1, 2, 3, 4, 5, 6, 7] (by decide) rfl
    exact W.iret (v := (-1)) hx hb hr (fun t ht hW => ⟨⟨(-1), (co1_4, pl1_4, st1_4, jo1_4, cn1_4, ii1_4, fi1_4, fe1_4, U1_4), rfl, hpost, by rw [ht]; exact hP9, hD9⟩, hS.F ht⟩) hS.2.2 dX2_trust_62
  · -- 49
    refine lv_aload_n hx hb dX2_trust_52 rfl (lv_at hl 0 rfl) ?_
    refine va_get (D := (dC, dI)) (ci := 2) (v := .ref bU) (C := RX2) (T := TX2) (N := 17) hx hb hts hinX2 hown hK hP 0 rfl rfl 16 (by decide) k4 (fun _ h9 => h9) rfl dX2_trust_53 ?_
    refine lv_iload_n hx hb dX2_trust_56 rfl (lv_at hl 1 rfl) ?_
    refine va_iald hx hb hK hP 7 0 rfl rfl (hp) dX2_trust_57 ?_
    refine lv_goto (tgt := 62) hx hb dX2_trust_58 (by decide) ?_
    have hpost : (U1_4 p9.toNatClampNeg) = aTrust p9 (cRec L T K F S B mm) := by
      rw [← ans_of (aTrust_sim hp) hX hm hw0_4]
      unfold aTrust mJd
      dsimp only
      rw [if_neg c_49, if_neg one_ne]
    have hP9 := hP.sub (ws' := [(mo, .inr (2, [.int 0, .ref bL, .ref bT, .int (nI n), .ref bK, .ref bF, .ref bS, .ref bB, .int co1_4, .int pl1_4, .int st1_4, .int jo1_4, .int cn1_4, .int ii1_4, .int fi1_4, .int fe1_4, .ref bU])), (bK, .inl (cI, 60, .inl K)), (bF, .inl (cI, 60, .inl F)), (bS, .inl (cI, 60, .inl S)), (bB, .inl (cZ, 60, .inl B)), (bL, .inl (cI, 4, .inl L)), (bT, .inl (cI, 4, .inl T)), (bU, .inl (cI, 6, .inl U1_4))]) [0, 1, 2, 3, 4, 5, 6, 7] rfl
    have hD9 := hD.sub (ws' := [(mo, .inr (2, [.int 0, .ref bL, .ref bT, .int (nI n), .ref bK, .ref bF, .ref bS, .ref bB, .int co1_4, .int pl1_4, .int st1_4, .int jo1_4, .int cn1_4, .int ii1_4, .int fi1_4, .int fe1_4, .ref bU])), (bK, .inl (cI, 60, .inl K)), (bF, .inl (cI, 60, .inl F)), (bS, .inl (cI, 60, .inl S)), (bB, .inl (cZ, 60, .inl B)), (bL, .inl (cI, 4, .inl L)), (bT, .inl (cI, 4, .inl T)), (bU, .inl (cI, 6, .inl U1_4))]) [0, 1, 2, 3, 4, 5, 6, 7] (by decide) rfl
    exact W.iret (v := U1_4 p9.toNatClampNeg) hx hb hr (fun t ht hW => ⟨⟨(U1_4 p9.toNatClampNeg), (co1_4, pl1_4, st1_4, jo1_4, cn1_4, ii1_4, fi1_4, fe1_4, U1_4), rfl, hpost, by rw [ht]; exact hP9, hD9⟩, hS.F ht⟩) hS.2.2 dX2_trust_62

set_option maxHeartbeats 4000000 in
set_option maxRecDepth 100000 in
theorem c_X2_trust_f1 (l : Launch) (dC : Nat → ClassId) (dI : Nat → Nat → Nat) (cI cZ : ClassId) (mo bK bF bS bB bL bT bU : Nat) (sz : Nat) (L : N2I) (T : N2I) (K : N2I) (F : N2I) (S : N2I) (B : N2I) (U : N2I) (n : Nat) (tw : Int32) (co : Int32) (pl : Int32) (st : Int32) (jo : Int32) (cn : Int32) (ii : Int32) (fi : Int32) (fe : Int32) (p9 : Int32) (y : Int32) (hb0 : p9 < 0 ∨ 5 < p9) : Met l yX2_trust wsX2_trust ({ frames := 5, cells := 0, slots := 0, locals := 106 } : Room) (va_Pc [.ref mo, .int p9, .int y] (pc_ (dC, dI) [(cI, .int), (cZ, .boolean)] [(mo, .inr (2, [.int tw, .ref bL, .ref bT, .int (nI n), .ref bK, .ref bF, .ref bS, .ref bB, .int co, .int pl, .int st, .int jo, .int cn, .int ii, .int fi, .int fe, .ref bU])), (bK, .inl (cI, 60, .inl K)), (bF, .inl (cI, 60, .inl F)), (bS, .inl (cI, 60, .inl S)), (bB, .inl (cZ, 60, .inl B)), (bL, .inl (cI, 4, .inl L)), (bT, .inl (cI, 4, .inl T)), (bU, .inl (cI, 6, .inl U))] sz)) (va_Qi (fun (r : Int32) (u : Unit) => r = 0) (fun (u : Unit) (t : State) => va_P (dC, dI) vwCl [(mo, .inr (2, [.int 1, .ref bL, .ref bT, .int (nI n), .ref bK, .ref bF, .ref bS, .ref bB, .int co, .int pl, .int st, .int jo, .int cn, .int ii, .int fi, .int fe, .ref bU])), (bK, .inl (cI, 60, .inl K)), (bF, .inl (cI, 60, .inl F)), (bS, .inl (cI, 60, .inl S)), (bB, .inl (cZ, 60, .inl B)), (bL, .inl (cI, 4, .inl L)), (bT, .inl (cI, 4, .inl T)), (bU, .inl (cI, 6, .inl U))] t.heap ∧ va_D (va_A [(mo, .inr (2, [.int tw, .ref bL, .ref bT, .int (nI n), .ref bK, .ref bF, .ref bS, .ref bB, .int co, .int pl, .int st, .int jo, .int cn, .int ii, .int fi, .int fe, .ref bU])), (bK, .inl (cI, 60, .inl K)), (bF, .inl (cI, 60, .inl F)), (bS, .inl (cI, 60, .inl S)), (bB, .inl (cZ, 60, .inl B)), (bL, .inl (cI, 4, .inl L)), (bT, .inl (cI, 4, .inl T)), (bU, .inl (cI, 6, .inl U))] sz) [(mo, .inr (2, [.int 1, .ref bL, .ref bT, .int (nI n), .ref bK, .ref bF, .ref bS, .ref bB, .int co, .int pl, .int st, .int jo, .int cn, .int ii, .int fi, .int fe, .ref bU])), (bK, .inl (cI, 60, .inl K)), (bF, .inl (cI, 60, .inl F)), (bS, .inl (cI, 60, .inl S)), (bB, .inl (cZ, 60, .inl B)), (bL, .inl (cI, 4, .inl L)), (bT, .inl (cI, 4, .inl T)), (bU, .inl (cI, 6, .inl U))]) (va_A [(mo, .inr (2, [.int tw, .ref bL, .ref bT, .int (nI n), .ref bK, .ref bF, .ref bS, .ref bB, .int co, .int pl, .int st, .int jo, .int cn, .int ii, .int fi, .int fe, .ref bU])), (bK, .inl (cI, 60, .inl K)), (bF, .inl (cI, 60, .inl F)), (bS, .inl (cI, 60, .inl S)), (bB, .inl (cZ, 60, .inl B)), (bL, .inl (cI, 4, .inl L)), (bT, .inl (cI, 4, .inl T)), (bU, .inl (cI, 6, .inl U))] sz)) 0 0 (va_A [(mo, .inr (2, [.int tw, .ref bL, .ref bT, .int (nI n), .ref bK, .ref bF, .ref bS, .ref bB, .int co, .int pl, .int st, .int jo, .int cn, .int ii, .int fi, .int fe, .ref bU])), (bK, .inl (cI, 60, .inl K)), (bF, .inl (cI, 60, .inl F)), (bS, .inl (cI, 60, .inl S)), (bB, .inl (cZ, 60, .inl B)), (bL, .inl (cI, 4, .inl L)), (bT, .inl (cI, 4, .inl T)), (bU, .inl (cI, 6, .inl U))] sz) := by
  refine Met.ofW (cc := cX2_trust) (maxL := 3) (ret := (some .int)) (by decide) rfl ?_
  intro p e s m args below meth c s₁ BB hml hv
  obtain ⟨rfl, hsz, hP, hK, hD0⟩ := hv
  have hx := BB.exec
  have hb := BB.bytes
  have hr := BB.returns
  have hts := atoms_spec (ws := wsX2_trust) BB.pre
  have hown : s.vm.findClass RX2 = some m.cls := findClass_of_methodNamed BB.named
  have hlocks := BB.notSynchronized
  subst hsz
  have hD := hD0.self (sz := s.heap.size)
  generalize hAe : va_A [(mo, .inr (2, [.int tw, .ref bL, .ref bT, .int (nI n), .ref bK, .ref bF, .ref bS, .ref bB, .int co, .int pl, .int st, .int jo, .int cn, .int ii, .int fi, .int fe, .ref bU])), (bK, .inl (cI, 60, .inl K)), (bF, .inl (cI, 60, .inl F)), (bS, .inl (cI, 60, .inl S)), (bB, .inl (cZ, 60, .inl B)), (bL, .inl (cI, 4, .inl L)), (bT, .inl (cI, 4, .inl T)), (bU, .inl (cI, 6, .inl U))] s.heap.size = A at hD ⊢
  have hA : ∀ q : Nat, s.heap.size ≤ q → A q := fun q h => by rw [← hAe]; exact Or.inr h
  have hS : va_S A s.heap s.heap [] := va_S.rf
  have hP : va_P (dC, dI) vwCl [(mo, .inr (2, [.int tw, .ref bL, .ref bT, .int (nI n), .ref bK, .ref bF, .ref bS, .ref bB, .int co, .int pl, .int st, .int jo, .int cn, .int ii, .int fi, .int fe, .ref bU])), (bK, .inl (cI, 60, .inl K)), (bF, .inl (cI, 60, .inl F)), (bS, .inl (cI, 60, .inl S)), (bB, .inl (cZ, 60, .inl B)), (bL, .inl (cI, 4, .inl L)), (bT, .inl (cI, 4, .inl T)), (bU, .inl (cI, 6, .inl U))] s.heap := hP
  have hl := lv_entry ([.ref mo, .int p9, .int y]) (n := 3) (Nat.le_of_ble_eq_true rfl)
  rw [lg_entry_eq]
  generalize (lg_sl ([.ref mo, .int p9, .int y]) ++ List.replicate (3 - (lg_sl ([.ref mo, .int p9, .int y])).length) Slot.unset).toArray = ls at hl ⊢
  have hl : lv_has ls 3 [(0, .ref mo), (1, .int p9), (2, .int y)] := hl
  have k0 := hts (.fieldLink RX2 32 "KnifeLedgerModel" "thrown" "I") (by decide +kernel)
  have hinX2 : ∀ w ∈ wsX20, w ∈ wsX2_trust := by decide +kernel
  refine lv_aload_n hx hb dX2_trust_0 rfl (lv_at hl 0 rfl) ?_
  refine lv_iconst (v := 0) hx hb dX2_trust_1 (by decide) ?_
  refine va_put (D := (dC, dI)) (ci := 2) (v := .int 0) (ty := .int) (C := RX2) (T := TX2) (N := 17) hx hb hts hinX2 tyX2 tyX2_ok nmX2 hown hK hP hD hS 0 rfl rfl 0 (by decide) k0 (fun _ h9 => h9) rfl (by decide +kernel) rfl rfl (Nat.le_of_ble_eq_true rfl) dX2_trust_2 (fun H_1 locs hP hD hS => ?_)
  have hP : va_P (dC, dI) vwCl [(mo, .inr (2, [.int 0, .ref bL, .ref bT, .int (nI n), .ref bK, .ref bF, .ref bS, .ref bB, .int co, .int pl, .int st, .int jo, .int cn, .int ii, .int fi, .int fe, .ref bU])), (bK, .inl (cI, 60, .inl K)), (bF, .inl (cI, 60, .inl F)), (bS, .inl (cI, 60, .inl S)), (bB, .inl (cZ, 60, .inl B)), (bL, .inl (cI, 4, .inl L)), (bT, .inl (cI, 4, .inl T)), (bU, .inl (cI, 6, .inl U))] H_1 := hP
  have hD : va_D A [(mo, .inr (2, [.int 0, .ref bL, .ref bT, .int (nI n), .ref bK, .ref bF, .ref bS, .ref bB, .int co, .int pl, .int st, .int jo, .int cn, .int ii, .int fi, .int fe, .ref bU])), (bK, .inl (cI, 60, .inl K)), (bF, .inl (cI, 60, .inl F)), (bS, .inl (cI, 60, .inl S)), (bB, .inl (cZ, 60, .inl B)), (bL, .inl (cI, 4, .inl L)), (bT, .inl (cI, 4, .inl T)), (bU, .inl (cI, 6, .inl U))] := hD
  refine lv_iload_n hx hb dX2_trust_5 rfl (lv_at hl 1 rfl) ?_
  refine lv_iconst (v := 0) hx hb dX2_trust_6 (by decide) ?_
  refine lv_iconst (v := 5) hx hb dX2_trust_7 (by decide) ?_
  have hPc := hP.sub (ws' := []) [] rfl
  have hDc := hD.sub (ws' := []) [] (by decide) rfl
  have hKc := hK.sub (tys' := []) [] rfl
  have hFc := va_free (wc := []) hD hS hA [] rfl
  refine va_calli (va_runS (As := [.int p9, .int 0, .int 5]) (rest := []) ⟨hx, hb, hml, hown, hts⟩ (c_X2_isIn l dC dI H_1.size p9 0 5) (va_cwS 3 hts gX2_trust_X2_isIn rfl rfl rfl (by decide +kernel) ⟨Nat.le_of_ble_eq_true rfl, Nat.le_of_ble_eq_true rfl⟩) (pc_S hKc hPc hDc) rfl rfl hl.1 rfl (lv_room (Nat.le_of_ble_eq_true rfl)) dX2_trust_8 ⟨Nat.le_of_ble_eq_true rfl, Nat.le_of_ble_eq_true rfl⟩) hS (fun q _ h => hFc q h) hFc (fun r_2 u t H_2 locs ht hvm hw hB hz1 hk1 hS => ?_)
  try dsimp only at hw hB
  have hw_2 := hw
  replace hw_2 := hw_2.symm
  subst hw_2
  obtain ⟨hP1, hD1⟩ := hB
  rw [ht] at hP1
  obtain ⟨hP, hD⟩ := va_join (wr := [(mo, .inr (2, [.int 0, .ref bL, .ref bT, .int (nI n), .ref bK, .ref bF, .ref bS, .ref bB, .int co, .int pl, .int st, .int jo, .int cn, .int ii, .int fi, .int fe, .ref bU])), (bK, .inl (cI, 60, .inl K)), (bF, .inl (cI, 60, .inl F)), (bS, .inl (cI, 60, .inl S)), (bB, .inl (cZ, 60, .inl B)), (bL, .inl (cI, 4, .inl L)), (bT, .inl (cI, 4, .inl T)), (bU, .inl (cI, 6, .inl U))]) (w1 := []) hP hD [] [0, 1, 2, 3, 4, 5, 6, 7] rfl rfl (by decide) (by decide) hk1 hFc hP1 hD1
  have hP : va_P (dC, dI) vwCl [(mo, .inr (2, [.int 0, .ref bL, .ref bT, .int (nI n), .ref bK, .ref bF, .ref bS, .ref bB, .int co, .int pl, .int st, .int jo, .int cn, .int ii, .int fi, .int fe, .ref bU])), (bK, .inl (cI, 60, .inl K)), (bF, .inl (cI, 60, .inl F)), (bS, .inl (cI, 60, .inl S)), (bB, .inl (cZ, 60, .inl B)), (bL, .inl (cI, 4, .inl L)), (bT, .inl (cI, 4, .inl T)), (bU, .inl (cI, 6, .inl U))] H_2 := hP
  have hD : va_D A [(mo, .inr (2, [.int 0, .ref bL, .ref bT, .int (nI n), .ref bK, .ref bF, .ref bS, .ref bB, .int co, .int pl, .int st, .int jo, .int cn, .int ii, .int fi, .int fe, .ref bU])), (bK, .inl (cI, 60, .inl K)), (bF, .inl (cI, 60, .inl F)), (bS, .inl (cI, 60, .inl S)), (bB, .inl (cZ, 60, .inl B)), (bL, .inl (cI, 4, .inl L)), (bT, .inl (cI, 4, .inl T)), (bU, .inl (cI, 6, .inl U))] := hD
  refine lv_if_ne (tgt := 20) hx hb dX2_trust_11 (by decide) (fun h9 => absurd (mIn_bad hb0) h9) (fun _ => ?_)
  refine lv_aload_n hx hb dX2_trust_14 rfl (lv_at hl 0 rfl) ?_
  refine lv_iconst (v := 1) hx hb dX2_trust_15 (by decide) ?_
  have hPc := hP.sub (ws' := [(mo, .inr (2, [.int 0, .ref bL, .ref bT, .int (nI n), .ref bK, .ref bF, .ref bS, .ref bB, .int co, .int pl, .int st, .int jo, .int cn, .int ii, .int fi, .int fe, .ref bU])), (bK, .inl (cI, 60, .inl K)), (bF, .inl (cI, 60, .inl F)), (bS, .inl (cI, 60, .inl S)), (bB, .inl (cZ, 60, .inl B)), (bL, .inl (cI, 4, .inl L)), (bT, .inl (cI, 4, .inl T)), (bU, .inl (cI, 6, .inl U))]) [0, 1, 2, 3, 4, 5, 6, 7] rfl
  have hDc := hD.sub (ws' := [(mo, .inr (2, [.int 0, .ref bL, .ref bT, .int (nI n), .ref bK, .ref bF, .ref bS, .ref bB, .int co, .int pl, .int st, .int jo, .int cn, .int ii, .int fi, .int fe, .ref bU])), (bK, .inl (cI, 60, .inl K)), (bF, .inl (cI, 60, .inl F)), (bS, .inl (cI, 60, .inl S)), (bB, .inl (cZ, 60, .inl B)), (bL, .inl (cI, 4, .inl L)), (bT, .inl (cI, 4, .inl T)), (bU, .inl (cI, 6, .inl U))]) [0, 1, 2, 3, 4, 5, 6, 7] (by decide) rfl
  have hKc := hK.sub (tys' := [(cI, .int), (cZ, .boolean)]) [0, 1] rfl
  have hFc := va_free (wc := [(mo, .inr (2, [.int 0, .ref bL, .ref bT, .int (nI n), .ref bK, .ref bF, .ref bS, .ref bB, .int co, .int pl, .int st, .int jo, .int cn, .int ii, .int fi, .int fe, .ref bU])), (bK, .inl (cI, 60, .inl K)), (bF, .inl (cI, 60, .inl F)), (bS, .inl (cI, 60, .inl S)), (bB, .inl (cZ, 60, .inl B)), (bL, .inl (cI, 4, .inl L)), (bT, .inl (cI, 4, .inl T)), (bU, .inl (cI, 6, .inl U))]) hD hS hA [0, 1, 2, 3, 4, 5, 6, 7] rfl
  refine va_calli (va_runV (As := [.int 1]) (rest := []) ⟨hx, hb, hml, hown, hts⟩ (c_X2_fail l dC dI cI cZ mo bK bF bS bB bL bT bU H_2.size L T K F S B U n 0 co pl st jo cn ii fi fe 1) (cwV 1 hts gX2_trust_X2_fail rfl rfl rfl (by decide +kernel) ⟨Nat.le_of_ble_eq_true rfl, Nat.le_of_ble_eq_true rfl⟩) (pc_V hKc hPc hDc (ci := 2) (C := RX2) (T := TX2) (N := 17) (q0 := 0) rfl rfl) rfl rfl hl.1 rfl (lv_room (Nat.le_of_ble_eq_true rfl)) dX2_trust_16 ⟨Nat.le_of_ble_eq_true rfl, Nat.le_of_ble_eq_true rfl⟩) hS (fun q _ h => hFc q h) hFc (fun r_3 u t H_3 locs ht hvm hw hB hz1 hk1 hS => ?_)
  try dsimp only at hw hB
  have hw_3 := hw
  replace hw_3 := hw_3.symm
  subst hw_3
  obtain ⟨hP1, hD1⟩ := hB
  rw [ht] at hP1
  obtain ⟨hP, hD⟩ := va_join (wr := []) (w1 := [(mo, .inr (2, [.int 1, .ref bL, .ref bT, .int (nI n), .ref bK, .ref bF, .ref bS, .ref bB, .int co, .int pl, .int st, .int jo, .int cn, .int ii, .int fi, .int fe, .ref bU])), (bK, .inl (cI, 60, .inl K)), (bF, .inl (cI, 60, .inl F)), (bS, .inl (cI, 60, .inl S)), (bB, .inl (cZ, 60, .inl B)), (bL, .inl (cI, 4, .inl L)), (bT, .inl (cI, 4, .inl T)), (bU, .inl (cI, 6, .inl U))]) hP hD [0, 1, 2, 3, 4, 5, 6, 7] [] rfl rfl (by decide) (by decide) hk1 hFc hP1 hD1
  have hP : va_P (dC, dI) vwCl [(mo, .inr (2, [.int 1, .ref bL, .ref bT, .int (nI n), .ref bK, .ref bF, .ref bS, .ref bB, .int co, .int pl, .int st, .int jo, .int cn, .int ii, .int fi, .int fe, .ref bU])), (bK, .inl (cI, 60, .inl K)), (bF, .inl (cI, 60, .inl F)), (bS, .inl (cI, 60, .inl S)), (bB, .inl (cZ, 60, .inl B)), (bL, .inl (cI, 4, .inl L)), (bT, .inl (cI, 4, .inl T)), (bU, .inl (cI, 6, .inl U))] H_3 := hP
  have hD : va_D A [(mo, .inr (2, [.int 1, .ref bL, .ref bT, .int (nI n), .ref bK, .ref bF, .ref bS, .ref bB, .int co, .int pl, .int st, .int jo, .int cn, .int ii, .int fi, .int fe, .ref bU])), (bK, .inl (cI, 60, .inl K)), (bF, .inl (cI, 60, .inl F)), (bS, .inl (cI, 60, .inl S)), (bB, .inl (cZ, 60, .inl B)), (bL, .inl (cI, 4, .inl L)), (bT, .inl (cI, 4, .inl T)), (bU, .inl (cI, 6, .inl U))] := hD
  have hpost : (0 : Int32) = 0 := by
    rfl
  have hP9 := hP.sub (ws' := [(mo, .inr (2, [.int 1, .ref bL, .ref bT, .int (nI n), .ref bK, .ref bF, .ref bS, .ref bB, .int co, .int pl, .int st, .int jo, .int cn, .int ii, .int fi, .int fe, .ref bU])), (bK, .inl (cI, 60, .inl K)), (bF, .inl (cI, 60, .inl F)), (bS, .inl (cI, 60, .inl S)), (bB, .inl (cZ, 60, .inl B)), (bL, .inl (cI, 4, .inl L)), (bT, .inl (cI, 4, .inl T)), (bU, .inl (cI, 6, .inl U))]) [0, 1, 2, 3, 4, 5, 6, 7] rfl
  have hD9 := hD.sub (ws' := [(mo, .inr (2, [.int 1, .ref bL, .ref bT, .int (nI n), .ref bK, .ref bF, .ref bS, .ref bB, .int co, .int pl, .int st, .int jo, .int cn, .int ii, .int fi, .int fe, .ref bU])), (bK, .inl (cI, 60, .inl K)), (bF, .inl (cI, 60, .inl F)), (bS, .inl (cI, 60, .inl S)), (bB, .inl (cZ, 60, .inl B)), (bL, .inl (cI, 4, .inl L)), (bT, .inl (cI, 4, .inl T)), (bU, .inl (cI, 6, .inl U))]) [0, 1, 2, 3, 4, 5, 6, 7] (by decide) rfl
  exact W.iret (v := 0) hx hb hr (fun t ht hW => ⟨⟨0, (), rfl, hpost, by rw [ht]; exact hP9, hD9⟩, hS.F ht⟩) hS.2.2 dX2_trust_19

set_option maxHeartbeats 4000000 in
set_option maxRecDepth 100000 in
theorem c_X2_trust_f2 (l : Launch) (dC : Nat → ClassId) (dI : Nat → Nat → Nat) (cI cZ : ClassId) (mo bK bF bS bB bL bT bU : Nat) (sz : Nat) (L : N2I) (T : N2I) (K : N2I) (F : N2I) (S : N2I) (B : N2I) (U : N2I) (n : Nat) (tw : Int32) (co : Int32) (pl : Int32) (st : Int32) (jo : Int32) (cn : Int32) (ii : Int32) (fi : Int32) (fe : Int32) (p9 : Int32) (y : Int32) (h0 : ¬ p9 < 0) (h1 : ¬ 5 < p9) (hb0 : y < 0 ∨ nI n < y) : Met l yX2_trust wsX2_trust ({ frames := 5, cells := 0, slots := 0, locals := 106 } : Room) (va_Pc [.ref mo, .int p9, .int y] (pc_ (dC, dI) [(cI, .int), (cZ, .boolean)] [(mo, .inr (2, [.int tw, .ref bL, .ref bT, .int (nI n), .ref bK, .ref bF, .ref bS, .ref bB, .int co, .int pl, .int st, .int jo, .int cn, .int ii, .int fi, .int fe, .ref bU])), (bK, .inl (cI, 60, .inl K)), (bF, .inl (cI, 60, .inl F)), (bS, .inl (cI, 60, .inl S)), (bB, .inl (cZ, 60, .inl B)), (bL, .inl (cI, 4, .inl L)), (bT, .inl (cI, 4, .inl T)), (bU, .inl (cI, 6, .inl U))] sz)) (va_Qi (fun (r : Int32) (u : Unit) => r = 0) (fun (u : Unit) (t : State) => va_P (dC, dI) vwCl [(mo, .inr (2, [.int 2, .ref bL, .ref bT, .int (nI n), .ref bK, .ref bF, .ref bS, .ref bB, .int co, .int pl, .int st, .int jo, .int cn, .int ii, .int fi, .int fe, .ref bU])), (bK, .inl (cI, 60, .inl K)), (bF, .inl (cI, 60, .inl F)), (bS, .inl (cI, 60, .inl S)), (bB, .inl (cZ, 60, .inl B)), (bL, .inl (cI, 4, .inl L)), (bT, .inl (cI, 4, .inl T)), (bU, .inl (cI, 6, .inl U))] t.heap ∧ va_D (va_A [(mo, .inr (2, [.int tw, .ref bL, .ref bT, .int (nI n), .ref bK, .ref bF, .ref bS, .ref bB, .int co, .int pl, .int st, .int jo, .int cn, .int ii, .int fi, .int fe, .ref bU])), (bK, .inl (cI, 60, .inl K)), (bF, .inl (cI, 60, .inl F)), (bS, .inl (cI, 60, .inl S)), (bB, .inl (cZ, 60, .inl B)), (bL, .inl (cI, 4, .inl L)), (bT, .inl (cI, 4, .inl T)), (bU, .inl (cI, 6, .inl U))] sz) [(mo, .inr (2, [.int 2, .ref bL, .ref bT, .int (nI n), .ref bK, .ref bF, .ref bS, .ref bB, .int co, .int pl, .int st, .int jo, .int cn, .int ii, .int fi, .int fe, .ref bU])), (bK, .inl (cI, 60, .inl K)), (bF, .inl (cI, 60, .inl F)), (bS, .inl (cI, 60, .inl S)), (bB, .inl (cZ, 60, .inl B)), (bL, .inl (cI, 4, .inl L)), (bT, .inl (cI, 4, .inl T)), (bU, .inl (cI, 6, .inl U))]) (va_A [(mo, .inr (2, [.int tw, .ref bL, .ref bT, .int (nI n), .ref bK, .ref bF, .ref bS, .ref bB, .int co, .int pl, .int st, .int jo, .int cn, .int ii, .int fi, .int fe, .ref bU])), (bK, .inl (cI, 60, .inl K)), (bF, .inl (cI, 60, .inl F)), (bS, .inl (cI, 60, .inl S)), (bB, .inl (cZ, 60, .inl B)), (bL, .inl (cI, 4, .inl L)), (bT, .inl (cI, 4, .inl T)), (bU, .inl (cI, 6, .inl U))] sz)) 0 0 (va_A [(mo, .inr (2, [.int tw, .ref bL, .ref bT, .int (nI n), .ref bK, .ref bF, .ref bS, .ref bB, .int co, .int pl, .int st, .int jo, .int cn, .int ii, .int fi, .int fe, .ref bU])), (bK, .inl (cI, 60, .inl K)), (bF, .inl (cI, 60, .inl F)), (bS, .inl (cI, 60, .inl S)), (bB, .inl (cZ, 60, .inl B)), (bL, .inl (cI, 4, .inl L)), (bT, .inl (cI, 4, .inl T)), (bU, .inl (cI, 6, .inl U))] sz) := by
  refine Met.ofW (cc := cX2_trust) (maxL := 3) (ret := (some .int)) (by decide) rfl ?_
  intro p e s m args below meth c s₁ BB hml hv
  obtain ⟨rfl, hsz, hP, hK, hD0⟩ := hv
  have hx := BB.exec
  have hb := BB.bytes
  have hr := BB.returns
  have hts := atoms_spec (ws := wsX2_trust) BB.pre
  have hown : s.vm.findClass RX2 = some m.cls := findClass_of_methodNamed BB.named
  have hlocks := BB.notSynchronized
  subst hsz
  have hD := hD0.self (sz := s.heap.size)
  generalize hAe : va_A [(mo, .inr (2, [.int tw, .ref bL, .ref bT, .int (nI n), .ref bK, .ref bF, .ref bS, .ref bB, .int co, .int pl, .int st, .int jo, .int cn, .int ii, .int fi, .int fe, .ref bU])), (bK, .inl (cI, 60, .inl K)), (bF, .inl (cI, 60, .inl F)), (bS, .inl (cI, 60, .inl S)), (bB, .inl (cZ, 60, .inl B)), (bL, .inl (cI, 4, .inl L)), (bT, .inl (cI, 4, .inl T)), (bU, .inl (cI, 6, .inl U))] s.heap.size = A at hD ⊢
  have hA : ∀ q : Nat, s.heap.size ≤ q → A q := fun q h => by rw [← hAe]; exact Or.inr h
  have hS : va_S A s.heap s.heap [] := va_S.rf
  have hP : va_P (dC, dI) vwCl [(mo, .inr (2, [.int tw, .ref bL, .ref bT, .int (nI n), .ref bK, .ref bF, .ref bS, .ref bB, .int co, .int pl, .int st, .int jo, .int cn, .int ii, .int fi, .int fe, .ref bU])), (bK, .inl (cI, 60, .inl K)), (bF, .inl (cI, 60, .inl F)), (bS, .inl (cI, 60, .inl S)), (bB, .inl (cZ, 60, .inl B)), (bL, .inl (cI, 4, .inl L)), (bT, .inl (cI, 4, .inl T)), (bU, .inl (cI, 6, .inl U))] s.heap := hP
  have hl := lv_entry ([.ref mo, .int p9, .int y]) (n := 3) (Nat.le_of_ble_eq_true rfl)
  rw [lg_entry_eq]
  generalize (lg_sl ([.ref mo, .int p9, .int y]) ++ List.replicate (3 - (lg_sl ([.ref mo, .int p9, .int y])).length) Slot.unset).toArray = ls at hl ⊢
  have hl : lv_has ls 3 [(0, .ref mo), (1, .int p9), (2, .int y)] := hl
  have k0 := hts (.fieldLink RX2 32 "KnifeLedgerModel" "thrown" "I") (by decide +kernel)
  have hinX2 : ∀ w ∈ wsX20, w ∈ wsX2_trust := by decide +kernel
  have k2 := hts (.fieldLink RX2 36 "KnifeLedgerModel" "entries" "I") (by decide +kernel)
  refine lv_aload_n hx hb dX2_trust_0 rfl (lv_at hl 0 rfl) ?_
  refine lv_iconst (v := 0) hx hb dX2_trust_1 (by decide) ?_
  refine va_put (D := (dC, dI)) (ci := 2) (v := .int 0) (ty := .int) (C := RX2) (T := TX2) (N := 17) hx hb hts hinX2 tyX2 tyX2_ok nmX2 hown hK hP hD hS 0 rfl rfl 0 (by decide) k0 (fun _ h9 => h9) rfl (by decide +kernel) rfl rfl (Nat.le_of_ble_eq_true rfl) dX2_trust_2 (fun H_1 locs hP hD hS => ?_)
  have hP : va_P (dC, dI) vwCl [(mo, .inr (2, [.int 0, .ref bL, .ref bT, .int (nI n), .ref bK, .ref bF, .ref bS, .ref bB, .int co, .int pl, .int st, .int jo, .int cn, .int ii, .int fi, .int fe, .ref bU])), (bK, .inl (cI, 60, .inl K)), (bF, .inl (cI, 60, .inl F)), (bS, .inl (cI, 60, .inl S)), (bB, .inl (cZ, 60, .inl B)), (bL, .inl (cI, 4, .inl L)), (bT, .inl (cI, 4, .inl T)), (bU, .inl (cI, 6, .inl U))] H_1 := hP
  have hD : va_D A [(mo, .inr (2, [.int 0, .ref bL, .ref bT, .int (nI n), .ref bK, .ref bF, .ref bS, .ref bB, .int co, .int pl, .int st, .int jo, .int cn, .int ii, .int fi, .int fe, .ref bU])), (bK, .inl (cI, 60, .inl K)), (bF, .inl (cI, 60, .inl F)), (bS, .inl (cI, 60, .inl S)), (bB, .inl (cZ, 60, .inl B)), (bL, .inl (cI, 4, .inl L)), (bT, .inl (cI, 4, .inl T)), (bU, .inl (cI, 6, .inl U))] := hD
  refine lv_iload_n hx hb dX2_trust_5 rfl (lv_at hl 1 rfl) ?_
  refine lv_iconst (v := 0) hx hb dX2_trust_6 (by decide) ?_
  refine lv_iconst (v := 5) hx hb dX2_trust_7 (by decide) ?_
  have hPc := hP.sub (ws' := []) [] rfl
  have hDc := hD.sub (ws' := []) [] (by decide) rfl
  have hKc := hK.sub (tys' := []) [] rfl
  have hFc := va_free (wc := []) hD hS hA [] rfl
  refine va_calli (va_runS (As := [.int p9, .int 0, .int 5]) (rest := []) ⟨hx, hb, hml, hown, hts⟩ (c_X2_isIn l dC dI H_1.size p9 0 5) (va_cwS 3 hts gX2_trust_X2_isIn rfl rfl rfl (by decide +kernel) ⟨Nat.le_of_ble_eq_true rfl, Nat.le_of_ble_eq_true rfl⟩) (pc_S hKc hPc hDc) rfl rfl hl.1 rfl (lv_room (Nat.le_of_ble_eq_true rfl)) dX2_trust_8 ⟨Nat.le_of_ble_eq_true rfl, Nat.le_of_ble_eq_true rfl⟩) hS (fun q _ h => hFc q h) hFc (fun r_2 u t H_2 locs ht hvm hw hB hz1 hk1 hS => ?_)
  try dsimp only at hw hB
  have hw_2 := hw
  replace hw_2 := hw_2.symm
  subst hw_2
  obtain ⟨hP1, hD1⟩ := hB
  rw [ht] at hP1
  obtain ⟨hP, hD⟩ := va_join (wr := [(mo, .inr (2, [.int 0, .ref bL, .ref bT, .int (nI n), .ref bK, .ref bF, .ref bS, .ref bB, .int co, .int pl, .int st, .int jo, .int cn, .int ii, .int fi, .int fe, .ref bU])), (bK, .inl (cI, 60, .inl K)), (bF, .inl (cI, 60, .inl F)), (bS, .inl (cI, 60, .inl S)), (bB, .inl (cZ, 60, .inl B)), (bL, .inl (cI, 4, .inl L)), (bT, .inl (cI, 4, .inl T)), (bU, .inl (cI, 6, .inl U))]) (w1 := []) hP hD [] [0, 1, 2, 3, 4, 5, 6, 7] rfl rfl (by decide) (by decide) hk1 hFc hP1 hD1
  have hP : va_P (dC, dI) vwCl [(mo, .inr (2, [.int 0, .ref bL, .ref bT, .int (nI n), .ref bK, .ref bF, .ref bS, .ref bB, .int co, .int pl, .int st, .int jo, .int cn, .int ii, .int fi, .int fe, .ref bU])), (bK, .inl (cI, 60, .inl K)), (bF, .inl (cI, 60, .inl F)), (bS, .inl (cI, 60, .inl S)), (bB, .inl (cZ, 60, .inl B)), (bL, .inl (cI, 4, .inl L)), (bT, .inl (cI, 4, .inl T)), (bU, .inl (cI, 6, .inl U))] H_2 := hP
  have hD : va_D A [(mo, .inr (2, [.int 0, .ref bL, .ref bT, .int (nI n), .ref bK, .ref bF, .ref bS, .ref bB, .int co, .int pl, .int st, .int jo, .int cn, .int ii, .int fi, .int fe, .ref bU])), (bK, .inl (cI, 60, .inl K)), (bF, .inl (cI, 60, .inl F)), (bS, .inl (cI, 60, .inl S)), (bB, .inl (cZ, 60, .inl B)), (bL, .inl (cI, 4, .inl L)), (bT, .inl (cI, 4, .inl T)), (bU, .inl (cI, 6, .inl U))] := hD
  refine lv_if_ne (tgt := 20) hx hb dX2_trust_11 (by decide) (fun _ => ?_) (fun h9 => absurd h9 (by rw [mIn_ok h0 h1]; exact one_ne))
  refine lv_iload_n hx hb dX2_trust_20 rfl (lv_at hl 2 rfl) ?_
  refine lv_iconst (v := 0) hx hb dX2_trust_21 (by decide) ?_
  refine lv_aload_n hx hb dX2_trust_22 rfl (lv_at hl 0 rfl) ?_
  refine va_get (D := (dC, dI)) (ci := 2) (v := .int (nI n)) (C := RX2) (T := TX2) (N := 17) hx hb hts hinX2 hown hK hP 0 rfl rfl 3 (by decide) k2 (fun _ h9 => h9) rfl dX2_trust_23 ?_
  have hPc := hP.sub (ws' := []) [] rfl
  have hDc := hD.sub (ws' := []) [] (by decide) rfl
  have hKc := hK.sub (tys' := []) [] rfl
  have hFc := va_free (wc := []) hD hS hA [] rfl
  refine va_calli (va_runS (As := [.int y, .int 0, .int (nI n)]) (rest := []) ⟨hx, hb, hml, hown, hts⟩ (c_X2_isIn l dC dI H_2.size y 0 (nI n)) (va_cwS 3 hts gX2_trust_X2_isIn rfl rfl rfl (by decide +kernel) ⟨Nat.le_of_ble_eq_true rfl, Nat.le_of_ble_eq_true rfl⟩) (pc_S hKc hPc hDc) rfl rfl hl.1 rfl (lv_room (Nat.le_of_ble_eq_true rfl)) dX2_trust_26 ⟨Nat.le_of_ble_eq_true rfl, Nat.le_of_ble_eq_true rfl⟩) hS (fun q _ h => hFc q h) hFc (fun r_3 u t H_3 locs ht hvm hw hB hz1 hk1 hS => ?_)
  try dsimp only at hw hB
  have hw_3 := hw
  replace hw_3 := hw_3.symm
  subst hw_3
  obtain ⟨hP1, hD1⟩ := hB
  rw [ht] at hP1
  obtain ⟨hP, hD⟩ := va_join (wr := [(mo, .inr (2, [.int 0, .ref bL, .ref bT, .int (nI n), .ref bK, .ref bF, .ref bS, .ref bB, .int co, .int pl, .int st, .int jo, .int cn, .int ii, .int fi, .int fe, .ref bU])), (bK, .inl (cI, 60, .inl K)), (bF, .inl (cI, 60, .inl F)), (bS, .inl (cI, 60, .inl S)), (bB, .inl (cZ, 60, .inl B)), (bL, .inl (cI, 4, .inl L)), (bT, .inl (cI, 4, .inl T)), (bU, .inl (cI, 6, .inl U))]) (w1 := []) hP hD [] [0, 1, 2, 3, 4, 5, 6, 7] rfl rfl (by decide) (by decide) hk1 hFc hP1 hD1
  have hP : va_P (dC, dI) vwCl [(mo, .inr (2, [.int 0, .ref bL, .ref bT, .int (nI n), .ref bK, .ref bF, .ref bS, .ref bB, .int co, .int pl, .int st, .int jo, .int cn, .int ii, .int fi, .int fe, .ref bU])), (bK, .inl (cI, 60, .inl K)), (bF, .inl (cI, 60, .inl F)), (bS, .inl (cI, 60, .inl S)), (bB, .inl (cZ, 60, .inl B)), (bL, .inl (cI, 4, .inl L)), (bT, .inl (cI, 4, .inl T)), (bU, .inl (cI, 6, .inl U))] H_3 := hP
  have hD : va_D A [(mo, .inr (2, [.int 0, .ref bL, .ref bT, .int (nI n), .ref bK, .ref bF, .ref bS, .ref bB, .int co, .int pl, .int st, .int jo, .int cn, .int ii, .int fi, .int fe, .ref bU])), (bK, .inl (cI, 60, .inl K)), (bF, .inl (cI, 60, .inl F)), (bS, .inl (cI, 60, .inl S)), (bB, .inl (cZ, 60, .inl B)), (bL, .inl (cI, 4, .inl L)), (bT, .inl (cI, 4, .inl T)), (bU, .inl (cI, 6, .inl U))] := hD
  refine lv_if_ne (tgt := 38) hx hb dX2_trust_29 (by decide) (fun h9 => absurd (mIn_bad hb0) h9) (fun _ => ?_)
  refine lv_aload_n hx hb dX2_trust_32 rfl (lv_at hl 0 rfl) ?_
  refine lv_iconst (v := 2) hx hb dX2_trust_33 (by decide) ?_
  have hPc := hP.sub (ws' := [(mo, .inr (2, [.int 0, .ref bL, .ref bT, .int (nI n), .ref bK, .ref bF, .ref bS, .ref bB, .int co, .int pl, .int st, .int jo, .int cn, .int ii, .int fi, .int fe, .ref bU])), (bK, .inl (cI, 60, .inl K)), (bF, .inl (cI, 60, .inl F)), (bS, .inl (cI, 60, .inl S)), (bB, .inl (cZ, 60, .inl B)), (bL, .inl (cI, 4, .inl L)), (bT, .inl (cI, 4, .inl T)), (bU, .inl (cI, 6, .inl U))]) [0, 1, 2, 3, 4, 5, 6, 7] rfl
  have hDc := hD.sub (ws' := [(mo, .inr (2, [.int 0, .ref bL, .ref bT, .int (nI n), .ref bK, .ref bF, .ref bS, .ref bB, .int co, .int pl, .int st, .int jo, .int cn, .int ii, .int fi, .int fe, .ref bU])), (bK, .inl (cI, 60, .inl K)), (bF, .inl (cI, 60, .inl F)), (bS, .inl (cI, 60, .inl S)), (bB, .inl (cZ, 60, .inl B)), (bL, .inl (cI, 4, .inl L)), (bT, .inl (cI, 4, .inl T)), (bU, .inl (cI, 6, .inl U))]) [0, 1, 2, 3, 4, 5, 6, 7] (by decide) rfl
  have hKc := hK.sub (tys' := [(cI, .int), (cZ, .boolean)]) [0, 1] rfl
  have hFc := va_free (wc := [(mo, .inr (2, [.int 0, .ref bL, .ref bT, .int (nI n), .ref bK, .ref bF, .ref bS, .ref bB, .int co, .int pl, .int st, .int jo, .int cn, .int ii, .int fi, .int fe, .ref bU])), (bK, .inl (cI, 60, .inl K)), (bF, .inl (cI, 60, .inl F)), (bS, .inl (cI, 60, .inl S)), (bB, .inl (cZ, 60, .inl B)), (bL, .inl (cI, 4, .inl L)), (bT, .inl (cI, 4, .inl T)), (bU, .inl (cI, 6, .inl U))]) hD hS hA [0, 1, 2, 3, 4, 5, 6, 7] rfl
  refine va_calli (va_runV (As := [.int 2]) (rest := []) ⟨hx, hb, hml, hown, hts⟩ (c_X2_fail l dC dI cI cZ mo bK bF bS bB bL bT bU H_3.size L T K F S B U n 0 co pl st jo cn ii fi fe 2) (cwV 1 hts gX2_trust_X2_fail rfl rfl rfl (by decide +kernel) ⟨Nat.le_of_ble_eq_true rfl, Nat.le_of_ble_eq_true rfl⟩) (pc_V hKc hPc hDc (ci := 2) (C := RX2) (T := TX2) (N := 17) (q0 := 0) rfl rfl) rfl rfl hl.1 rfl (lv_room (Nat.le_of_ble_eq_true rfl)) dX2_trust_34 ⟨Nat.le_of_ble_eq_true rfl, Nat.le_of_ble_eq_true rfl⟩) hS (fun q _ h => hFc q h) hFc (fun r_4 u t H_4 locs ht hvm hw hB hz1 hk1 hS => ?_)
  try dsimp only at hw hB
  have hw_4 := hw
  replace hw_4 := hw_4.symm
  subst hw_4
  obtain ⟨hP1, hD1⟩ := hB
  rw [ht] at hP1
  obtain ⟨hP, hD⟩ := va_join (wr := []) (w1 := [(mo, .inr (2, [.int 2, .ref bL, .ref bT, .int (nI n), .ref bK, .ref bF, .ref bS, .ref bB, .int co, .int pl, .int st, .int jo, .int cn, .int ii, .int fi, .int fe, .ref bU])), (bK, .inl (cI, 60, .inl K)), (bF, .inl (cI, 60, .inl F)), (bS, .inl (cI, 60, .inl S)), (bB, .inl (cZ, 60, .inl B)), (bL, .inl (cI, 4, .inl L)), (bT, .inl (cI, 4, .inl T)), (bU, .inl (cI, 6, .inl U))]) hP hD [0, 1, 2, 3, 4, 5, 6, 7] [] rfl rfl (by decide) (by decide) hk1 hFc hP1 hD1
  have hP : va_P (dC, dI) vwCl [(mo, .inr (2, [.int 2, .ref bL, .ref bT, .int (nI n), .ref bK, .ref bF, .ref bS, .ref bB, .int co, .int pl, .int st, .int jo, .int cn, .int ii, .int fi, .int fe, .ref bU])), (bK, .inl (cI, 60, .inl K)), (bF, .inl (cI, 60, .inl F)), (bS, .inl (cI, 60, .inl S)), (bB, .inl (cZ, 60, .inl B)), (bL, .inl (cI, 4, .inl L)), (bT, .inl (cI, 4, .inl T)), (bU, .inl (cI, 6, .inl U))] H_4 := hP
  have hD : va_D A [(mo, .inr (2, [.int 2, .ref bL, .ref bT, .int (nI n), .ref bK, .ref bF, .ref bS, .ref bB, .int co, .int pl, .int st, .int jo, .int cn, .int ii, .int fi, .int fe, .ref bU])), (bK, .inl (cI, 60, .inl K)), (bF, .inl (cI, 60, .inl F)), (bS, .inl (cI, 60, .inl S)), (bB, .inl (cZ, 60, .inl B)), (bL, .inl (cI, 4, .inl L)), (bT, .inl (cI, 4, .inl T)), (bU, .inl (cI, 6, .inl U))] := hD
  have hpost : (0 : Int32) = 0 := by
    rfl
  have hP9 := hP.sub (ws' := [(mo, .inr (2, [.int 2, .ref bL, .ref bT, .int (nI n), .ref bK, .ref bF, .ref bS, .ref bB, .int co, .int pl, .int st, .int jo, .int cn, .int ii, .int fi, .int fe, .ref bU])), (bK, .inl (cI, 60, .inl K)), (bF, .inl (cI, 60, .inl F)), (bS, .inl (cI, 60, .inl S)), (bB, .inl (cZ, 60, .inl B)), (bL, .inl (cI, 4, .inl L)), (bT, .inl (cI, 4, .inl T)), (bU, .inl (cI, 6, .inl U))]) [0, 1, 2, 3, 4, 5, 6, 7] rfl
  have hD9 := hD.sub (ws' := [(mo, .inr (2, [.int 2, .ref bL, .ref bT, .int (nI n), .ref bK, .ref bF, .ref bS, .ref bB, .int co, .int pl, .int st, .int jo, .int cn, .int ii, .int fi, .int fe, .ref bU])), (bK, .inl (cI, 60, .inl K)), (bF, .inl (cI, 60, .inl F)), (bS, .inl (cI, 60, .inl S)), (bB, .inl (cZ, 60, .inl B)), (bL, .inl (cI, 4, .inl L)), (bT, .inl (cI, 4, .inl T)), (bU, .inl (cI, 6, .inl U))]) [0, 1, 2, 3, 4, 5, 6, 7] (by decide) rfl
  exact W.iret (v := 0) hx hb hr (fun t ht hW => ⟨⟨0, (), rfl, hpost, by rw [ht]; exact hP9, hD9⟩, hS.F ht⟩) hS.2.2 dX2_trust_37

set_option maxHeartbeats 4000000 in
set_option maxRecDepth 100000 in
theorem c_X2_would (l : Launch) (dC : Nat → ClassId) (dI : Nat → Nat → Nat) (cI cZ : ClassId) (mo bK bF bS bB bL bT bU : Nat) (sz : Nat) (L : N2I) (T : N2I) (K : N2I) (F : N2I) (S : N2I) (B : N2I) (U : N2I) (n : Nat) (tw : Int32) (co : Int32) (pl : Int32) (st : Int32) (jo : Int32) (cn : Int32) (ii : Int32) (fi : Int32) (fe : Int32) (p9 : Int32) (th : Int32) (hX : okX K F S B n) (hp : vp_in p9 6) (h0 : ¬ p9 < 0) (h1 : ¬ 5 < p9) (h2 : ¬ th < 0) (h3 : ¬ 20 < th) : Met l yX2_would wsX2_would ({ frames := 5, cells := 0, slots := 0, locals := 106 } : Room) (va_Pc [.ref mo, .int p9, .int th] (pc_ (dC, dI) [(cI, .int), (cZ, .boolean)] [(mo, .inr (2, [.int tw, .ref bL, .ref bT, .int (nI n), .ref bK, .ref bF, .ref bS, .ref bB, .int co, .int pl, .int st, .int jo, .int cn, .int ii, .int fi, .int fe, .ref bU])), (bK, .inl (cI, 60, .inl K)), (bF, .inl (cI, 60, .inl F)), (bS, .inl (cI, 60, .inl S)), (bB, .inl (cZ, 60, .inl B)), (bL, .inl (cI, 4, .inl L)), (bT, .inl (cI, 4, .inl T)), (bU, .inl (cI, 6, .inl U))] sz)) (va_Qi (fun (r : Int32) (u : Int32 × Int32 × Int32 × Int32 × Int32 × Int32 × Int32 × Int32 × N2I) => r = aWould L T p9 th (cRec L T K F S B n)) (fun (u : Int32 × Int32 × Int32 × Int32 × Int32 × Int32 × Int32 × Int32 × N2I) (t : State) => va_P (dC, dI) vwCl [(mo, .inr (2, [.int 0, .ref bL, .ref bT, .int (nI n), .ref bK, .ref bF, .ref bS, .ref bB, .int u.1, .int u.2.1, .int u.2.2.1, .int u.2.2.2.1, .int u.2.2.2.2.1, .int u.2.2.2.2.2.1, .int u.2.2.2.2.2.2.1, .int u.2.2.2.2.2.2.2.1, .ref bU])), (bK, .inl (cI, 60, .inl K)), (bF, .inl (cI, 60, .inl F)), (bS, .inl (cI, 60, .inl S)), (bB, .inl (cZ, 60, .inl B)), (bL, .inl (cI, 4, .inl L)), (bT, .inl (cI, 4, .inl T)), (bU, .inl (cI, 6, .inl u.2.2.2.2.2.2.2.2))] t.heap ∧ va_D (va_A [(mo, .inr (2, [.int tw, .ref bL, .ref bT, .int (nI n), .ref bK, .ref bF, .ref bS, .ref bB, .int co, .int pl, .int st, .int jo, .int cn, .int ii, .int fi, .int fe, .ref bU])), (bK, .inl (cI, 60, .inl K)), (bF, .inl (cI, 60, .inl F)), (bS, .inl (cI, 60, .inl S)), (bB, .inl (cZ, 60, .inl B)), (bL, .inl (cI, 4, .inl L)), (bT, .inl (cI, 4, .inl T)), (bU, .inl (cI, 6, .inl U))] sz) [(mo, .inr (2, [.int 0, .ref bL, .ref bT, .int (nI n), .ref bK, .ref bF, .ref bS, .ref bB, .int u.1, .int u.2.1, .int u.2.2.1, .int u.2.2.2.1, .int u.2.2.2.2.1, .int u.2.2.2.2.2.1, .int u.2.2.2.2.2.2.1, .int u.2.2.2.2.2.2.2.1, .ref bU])), (bK, .inl (cI, 60, .inl K)), (bF, .inl (cI, 60, .inl F)), (bS, .inl (cI, 60, .inl S)), (bB, .inl (cZ, 60, .inl B)), (bL, .inl (cI, 4, .inl L)), (bT, .inl (cI, 4, .inl T)), (bU, .inl (cI, 6, .inl u.2.2.2.2.2.2.2.2))]) (va_A [(mo, .inr (2, [.int tw, .ref bL, .ref bT, .int (nI n), .ref bK, .ref bF, .ref bS, .ref bB, .int co, .int pl, .int st, .int jo, .int cn, .int ii, .int fi, .int fe, .ref bU])), (bK, .inl (cI, 60, .inl K)), (bF, .inl (cI, 60, .inl F)), (bS, .inl (cI, 60, .inl S)), (bB, .inl (cZ, 60, .inl B)), (bL, .inl (cI, 4, .inl L)), (bT, .inl (cI, 4, .inl T)), (bU, .inl (cI, 6, .inl U))] sz)) 0 0 (va_A [(mo, .inr (2, [.int tw, .ref bL, .ref bT, .int (nI n), .ref bK, .ref bF, .ref bS, .ref bB, .int co, .int pl, .int st, .int jo, .int cn, .int ii, .int fi, .int fe, .ref bU])), (bK, .inl (cI, 60, .inl K)), (bF, .inl (cI, 60, .inl F)), (bS, .inl (cI, 60, .inl S)), (bB, .inl (cZ, 60, .inl B)), (bL, .inl (cI, 4, .inl L)), (bT, .inl (cI, 4, .inl T)), (bU, .inl (cI, 6, .inl U))] sz) := by
  refine Met.ofW (cc := cX2_would) (maxL := 3) (ret := (some .int)) (by decide) rfl ?_
  intro p e s m args below meth c s₁ BB hml hv
  obtain ⟨rfl, hsz, hP, hK, hD0⟩ := hv
  have hx := BB.exec
  have hb := BB.bytes
  have hr := BB.returns
  have hts := atoms_spec (ws := wsX2_would) BB.pre
  have hown : s.vm.findClass RX2 = some m.cls := findClass_of_methodNamed BB.named
  have hlocks := BB.notSynchronized
  subst hsz
  have hD := hD0.self (sz := s.heap.size)
  generalize hAe : va_A [(mo, .inr (2, [.int tw, .ref bL, .ref bT, .int (nI n), .ref bK, .ref bF, .ref bS, .ref bB, .int co, .int pl, .int st, .int jo, .int cn, .int ii, .int fi, .int fe, .ref bU])), (bK, .inl (cI, 60, .inl K)), (bF, .inl (cI, 60, .inl F)), (bS, .inl (cI, 60, .inl S)), (bB, .inl (cZ, 60, .inl B)), (bL, .inl (cI, 4, .inl L)), (bT, .inl (cI, 4, .inl T)), (bU, .inl (cI, 6, .inl U))] s.heap.size = A at hD ⊢
  have hA : ∀ q : Nat, s.heap.size ≤ q → A q := fun q h => by rw [← hAe]; exact Or.inr h
  have hS : va_S A s.heap s.heap [] := va_S.rf
  have hP : va_P (dC, dI) vwCl [(mo, .inr (2, [.int tw, .ref bL, .ref bT, .int (nI n), .ref bK, .ref bF, .ref bS, .ref bB, .int co, .int pl, .int st, .int jo, .int cn, .int ii, .int fi, .int fe, .ref bU])), (bK, .inl (cI, 60, .inl K)), (bF, .inl (cI, 60, .inl F)), (bS, .inl (cI, 60, .inl S)), (bB, .inl (cZ, 60, .inl B)), (bL, .inl (cI, 4, .inl L)), (bT, .inl (cI, 4, .inl T)), (bU, .inl (cI, 6, .inl U))] s.heap := hP
  have hl := lv_entry ([.ref mo, .int p9, .int th]) (n := 3) (Nat.le_of_ble_eq_true rfl)
  rw [lg_entry_eq]
  generalize (lg_sl ([.ref mo, .int p9, .int th]) ++ List.replicate (3 - (lg_sl ([.ref mo, .int p9, .int th])).length) Slot.unset).toArray = ls at hl ⊢
  have hl : lv_has ls 3 [(0, .ref mo), (1, .int p9), (2, .int th)] := hl
  have k0 := hts (.fieldLink RX2 32 "KnifeLedgerModel" "thrown" "I") (by decide +kernel)
  have hinX2 : ∀ w ∈ wsX20, w ∈ wsX2_would := by decide +kernel
  have k2 := hts (.fieldLink RX2 36 "KnifeLedgerModel" "entries" "I") (by decide +kernel)
  have hn6 : n ≤ 60 := hX.1
  refine lv_aload_n hx hb dX2_would_0 rfl (lv_at hl 0 rfl) ?_
  refine lv_iconst (v := 0) hx hb dX2_would_1 (by decide) ?_
  refine va_put (D := (dC, dI)) (ci := 2) (v := .int 0) (ty := .int) (C := RX2) (T := TX2) (N := 17) hx hb hts hinX2 tyX2 tyX2_ok nmX2 hown hK hP hD hS 0 rfl rfl 0 (by decide) k0 (fun _ h9 => h9) rfl (by decide +kernel) rfl rfl (Nat.le_of_ble_eq_true rfl) dX2_would_2 (fun H_1 locs hP hD hS => ?_)
  have hP : va_P (dC, dI) vwCl [(mo, .inr (2, [.int 0, .ref bL, .ref bT, .int (nI n), .ref bK, .ref bF, .ref bS, .ref bB, .int co, .int pl, .int st, .int jo, .int cn, .int ii, .int fi, .int fe, .ref bU])), (bK, .inl (cI, 60, .inl K)), (bF, .inl (cI, 60, .inl F)), (bS, .inl (cI, 60, .inl S)), (bB, .inl (cZ, 60, .inl B)), (bL, .inl (cI, 4, .inl L)), (bT, .inl (cI, 4, .inl T)), (bU, .inl (cI, 6, .inl U))] H_1 := hP
  have hD : va_D A [(mo, .inr (2, [.int 0, .ref bL, .ref bT, .int (nI n), .ref bK, .ref bF, .ref bS, .ref bB, .int co, .int pl, .int st, .int jo, .int cn, .int ii, .int fi, .int fe, .ref bU])), (bK, .inl (cI, 60, .inl K)), (bF, .inl (cI, 60, .inl F)), (bS, .inl (cI, 60, .inl S)), (bB, .inl (cZ, 60, .inl B)), (bL, .inl (cI, 4, .inl L)), (bT, .inl (cI, 4, .inl T)), (bU, .inl (cI, 6, .inl U))] := hD
  refine lv_iload_n hx hb dX2_would_5 rfl (lv_at hl 1 rfl) ?_
  refine lv_iconst (v := 0) hx hb dX2_would_6 (by decide) ?_
  refine lv_iconst (v := 5) hx hb dX2_would_7 (by decide) ?_
  have hPc := hP.sub (ws' := []) [] rfl
  have hDc := hD.sub (ws' := []) [] (by decide) rfl
  have hKc := hK.sub (tys' := []) [] rfl
  have hFc := va_free (wc := []) hD hS hA [] rfl
  refine va_calli (va_runS (As := [.int p9, .int 0, .int 5]) (rest := []) ⟨hx, hb, hml, hown, hts⟩ (c_X2_isIn l dC dI H_1.size p9 0 5) (va_cwS 3 hts gX2_would_X2_isIn rfl rfl rfl (by decide +kernel) ⟨Nat.le_of_ble_eq_true rfl, Nat.le_of_ble_eq_true rfl⟩) (pc_S hKc hPc hDc) rfl rfl hl.1 rfl (lv_room (Nat.le_of_ble_eq_true rfl)) dX2_would_8 ⟨Nat.le_of_ble_eq_true rfl, Nat.le_of_ble_eq_true rfl⟩) hS (fun q _ h => hFc q h) hFc (fun r_2 u t H_2 locs ht hvm hw hB hz1 hk1 hS => ?_)
  try dsimp only at hw hB
  have hw_2 := hw
  replace hw_2 := hw_2.symm
  subst hw_2
  obtain ⟨hP1, hD1⟩ := hB
  rw [ht] at hP1
  obtain ⟨hP, hD⟩ := va_join (wr := [(mo, .inr (2, [.int 0, .ref bL, .ref bT, .int (nI n), .ref bK, .ref bF, .ref bS, .ref bB, .int co, .int pl, .int st, .int jo, .int cn, .int ii, .int fi, .int fe, .ref bU])), (bK, .inl (cI, 60, .inl K)), (bF, .inl (cI, 60, .inl F)), (bS, .inl (cI, 60, .inl S)), (bB, .inl (cZ, 60, .inl B)), (bL, .inl (cI, 4, .inl L)), (bT, .inl (cI, 4, .inl T)), (bU, .inl (cI, 6, .inl U))]) (w1 := []) hP hD [] [0, 1, 2, 3, 4, 5, 6, 7] rfl rfl (by decide) (by decide) hk1 hFc hP1 hD1
  have hP : va_P (dC, dI) vwCl [(mo, .inr (2, [.int 0, .ref bL, .ref bT, .int (nI n), .ref bK, .ref bF, .ref bS, .ref bB, .int co, .int pl, .int st, .int jo, .int cn, .int ii, .int fi, .int fe, .ref bU])), (bK, .inl (cI, 60, .inl K)), (bF, .inl (cI, 60, .inl F)), (bS, .inl (cI, 60, .inl S)), (bB, .inl (cZ, 60, .inl B)), (bL, .inl (cI, 4, .inl L)), (bT, .inl (cI, 4, .inl T)), (bU, .inl (cI, 6, .inl U))] H_2 := hP
  have hD : va_D A [(mo, .inr (2, [.int 0, .ref bL, .ref bT, .int (nI n), .ref bK, .ref bF, .ref bS, .ref bB, .int co, .int pl, .int st, .int jo, .int cn, .int ii, .int fi, .int fe, .ref bU])), (bK, .inl (cI, 60, .inl K)), (bF, .inl (cI, 60, .inl F)), (bS, .inl (cI, 60, .inl S)), (bB, .inl (cZ, 60, .inl B)), (bL, .inl (cI, 4, .inl L)), (bT, .inl (cI, 4, .inl T)), (bU, .inl (cI, 6, .inl U))] := hD
  refine lv_if_ne (tgt := 20) hx hb dX2_would_11 (by decide) (fun _ => ?_) (fun h9 => absurd h9 (by rw [mIn_ok h0 h1]; exact one_ne))
  refine lv_iload_n hx hb dX2_would_20 rfl (lv_at hl 2 rfl) ?_
  refine lv_iconst (v := 0) hx hb dX2_would_21 (by decide) ?_
  refine lv_bipush (v := 20) hx hb dX2_would_22 (by decide) ?_
  have hPc := hP.sub (ws' := []) [] rfl
  have hDc := hD.sub (ws' := []) [] (by decide) rfl
  have hKc := hK.sub (tys' := []) [] rfl
  have hFc := va_free (wc := []) hD hS hA [] rfl
  refine va_calli (va_runS (As := [.int th, .int 0, .int 20]) (rest := []) ⟨hx, hb, hml, hown, hts⟩ (c_X2_isIn l dC dI H_2.size th 0 20) (va_cwS 3 hts gX2_would_X2_isIn rfl rfl rfl (by decide +kernel) ⟨Nat.le_of_ble_eq_true rfl, Nat.le_of_ble_eq_true rfl⟩) (pc_S hKc hPc hDc) rfl rfl hl.1 rfl (lv_room (Nat.le_of_ble_eq_true rfl)) dX2_would_24 ⟨Nat.le_of_ble_eq_true rfl, Nat.le_of_ble_eq_true rfl⟩) hS (fun q _ h => hFc q h) hFc (fun r_3 u t H_3 locs ht hvm hw hB hz1 hk1 hS => ?_)
  try dsimp only at hw hB
  have hw_3 := hw
  replace hw_3 := hw_3.symm
  subst hw_3
  obtain ⟨hP1, hD1⟩ := hB
  rw [ht] at hP1
  obtain ⟨hP, hD⟩ := va_join (wr := [(mo, .inr (2, [.int 0, .ref bL, .ref bT, .int (nI n), .ref bK, .ref bF, .ref bS, .ref bB, .int co, .int pl, .int st, .int jo, .int cn, .int ii, .int fi, .int fe, .ref bU])), (bK, .inl (cI, 60, .inl K)), (bF, .inl (cI, 60, .inl F)), (bS, .inl (cI, 60, .inl S)), (bB, .inl (cZ, 60, .inl B)), (bL, .inl (cI, 4, .inl L)), (bT, .inl (cI, 4, .inl T)), (bU, .inl (cI, 6, .inl U))]) (w1 := []) hP hD [] [0, 1, 2, 3, 4, 5, 6, 7] rfl rfl (by decide) (by decide) hk1 hFc hP1 hD1
  have hP : va_P (dC, dI) vwCl [(mo, .inr (2, [.int 0, .ref bL, .ref bT, .int (nI n), .ref bK, .ref bF, .ref bS, .ref bB, .int co, .int pl, .int st, .int jo, .int cn, .int ii, .int fi, .int fe, .ref bU])), (bK, .inl (cI, 60, .inl K)), (bF, .inl (cI, 60, .inl F)), (bS, .inl (cI, 60, .inl S)), (bB, .inl (cZ, 60, .inl B)), (bL, .inl (cI, 4, .inl L)), (bT, .inl (cI, 4, .inl T)), (bU, .inl (cI, 6, .inl U))] H_3 := hP
  have hD : va_D A [(mo, .inr (2, [.int 0, .ref bL, .ref bT, .int (nI n), .ref bK, .ref bF, .ref bS, .ref bB, .int co, .int pl, .int st, .int jo, .int cn, .int ii, .int fi, .int fe, .ref bU])), (bK, .inl (cI, 60, .inl K)), (bF, .inl (cI, 60, .inl F)), (bS, .inl (cI, 60, .inl S)), (bB, .inl (cZ, 60, .inl B)), (bL, .inl (cI, 4, .inl L)), (bT, .inl (cI, 4, .inl T)), (bU, .inl (cI, 6, .inl U))] := hD
  refine lv_if_ne (tgt := 36) hx hb dX2_would_27 (by decide) (fun _ => ?_) (fun h9 => absurd h9 (by rw [mIn_ok h2 h3]; exact one_ne))
  refine lv_aload_n hx hb dX2_would_36 rfl (lv_at hl 0 rfl) ?_
  refine lv_aload_n hx hb dX2_would_37 rfl (lv_at hl 0 rfl) ?_
  refine va_get (D := (dC, dI)) (ci := 2) (v := .int (nI n)) (C := RX2) (T := TX2) (N := 17) hx hb hts hinX2 hown hK hP 0 rfl rfl 3 (by decide) k2 (fun _ h9 => h9) rfl dX2_would_38 ?_
  have hPc := hP.sub (ws' := [(mo, .inr (2, [.int 0, .ref bL, .ref bT, .int (nI n), .ref bK, .ref bF, .ref bS, .ref bB, .int co, .int pl, .int st, .int jo, .int cn, .int ii, .int fi, .int fe, .ref bU])), (bK, .inl (cI, 60, .inl K)), (bF, .inl (cI, 60, .inl F)), (bS, .inl (cI, 60, .inl S)), (bB, .inl (cZ, 60, .inl B)), (bL, .inl (cI, 4, .inl L)), (bT, .inl (cI, 4, .inl T)), (bU, .inl (cI, 6, .inl U))]) [0, 1, 2, 3, 4, 5, 6, 7] rfl
  have hDc := hD.sub (ws' := [(mo, .inr (2, [.int 0, .ref bL, .ref bT, .int (nI n), .ref bK, .ref bF, .ref bS, .ref bB, .int co, .int pl, .int st, .int jo, .int cn, .int ii, .int fi, .int fe, .ref bU])), (bK, .inl (cI, 60, .inl K)), (bF, .inl (cI, 60, .inl F)), (bS, .inl (cI, 60, .inl S)), (bB, .inl (cZ, 60, .inl B)), (bL, .inl (cI, 4, .inl L)), (bT, .inl (cI, 4, .inl T)), (bU, .inl (cI, 6, .inl U))]) [0, 1, 2, 3, 4, 5, 6, 7] (by decide) rfl
  have hKc := hK.sub (tys' := [(cI, .int), (cZ, .boolean)]) [0, 1] rfl
  have hFc := va_free (wc := [(mo, .inr (2, [.int 0, .ref bL, .ref bT, .int (nI n), .ref bK, .ref bF, .ref bS, .ref bB, .int co, .int pl, .int st, .int jo, .int cn, .int ii, .int fi, .int fe, .ref bU])), (bK, .inl (cI, 60, .inl K)), (bF, .inl (cI, 60, .inl F)), (bS, .inl (cI, 60, .inl S)), (bB, .inl (cZ, 60, .inl B)), (bL, .inl (cI, 4, .inl L)), (bT, .inl (cI, 4, .inl T)), (bU, .inl (cI, 6, .inl U))]) hD hS hA [0, 1, 2, 3, 4, 5, 6, 7] rfl
  refine va_calli (va_runV (As := [.int (nI n)]) (rest := []) ⟨hx, hb, hml, hown, hts⟩ (c_X2_reckon l dC dI cI cZ mo bK bF bS bB bL bT bU H_3.size L T K F S B U n 0 co pl st jo cn ii fi fe n (hX) (Nat.le_refl n)) (cwV 1 hts gX2_would_X2_reckon rfl rfl rfl (by decide +kernel) ⟨Nat.le_of_ble_eq_true rfl, Nat.le_of_ble_eq_true rfl⟩) (pc_V hKc hPc hDc (ci := 2) (C := RX2) (T := TX2) (N := 17) (q0 := 0) rfl rfl) rfl rfl hl.1 rfl (lv_room (Nat.le_of_ble_eq_true rfl)) dX2_would_41 ⟨Nat.le_of_ble_eq_true rfl, Nat.le_of_ble_eq_true rfl⟩) hS (fun q _ h => hFc q h) hFc (fun r_4 u t H_4 locs ht hvm hw hB hz1 hk1 hS => ?_)
  obtain ⟨co1_4, pl1_4, st1_4, jo1_4, cn1_4, ii1_4, fi1_4, fe1_4, U1_4⟩ := u
  try dsimp only at hw hB
  have hw_4 := hw
  obtain ⟨hw0_4, hw1_4⟩ := hw_4
  replace hw1_4 := hw1_4.symm
  subst hw1_4
  obtain ⟨hP1, hD1⟩ := hB
  rw [ht] at hP1
  obtain ⟨hP, hD⟩ := va_join (wr := []) (w1 := [(mo, .inr (2, [.int 0, .ref bL, .ref bT, .int (nI n), .ref bK, .ref bF, .ref bS, .ref bB, .int co1_4, .int pl1_4, .int st1_4, .int jo1_4, .int cn1_4, .int ii1_4, .int fi1_4, .int fe1_4, .ref bU])), (bK, .inl (cI, 60, .inl K)), (bF, .inl (cI, 60, .inl F)), (bS, .inl (cI, 60, .inl S)), (bB, .inl (cZ, 60, .inl B)), (bL, .inl (cI, 4, .inl L)), (bT, .inl (cI, 4, .inl T)), (bU, .inl (cI, 6, .inl U1_4))]) hP hD [0, 1, 2, 3, 4, 5, 6, 7] [] rfl rfl (by decide) (by decide) hk1 hFc hP1 hD1
  have hP : va_P (dC, dI) vwCl [(mo, .inr (2, [.int 0, .ref bL, .ref bT, .int (nI n), .ref bK, .ref bF, .ref bS, .ref bB, .int co1_4, .int pl1_4, .int st1_4, .int jo1_4, .int cn1_4, .int ii1_4, .int fi1_4, .int fe1_4, .ref bU])), (bK, .inl (cI, 60, .inl K)), (bF, .inl (cI, 60, .inl F)), (bS, .inl (cI, 60, .inl S)), (bB, .inl (cZ, 60, .inl B)), (bL, .inl (cI, 4, .inl L)), (bT, .inl (cI, 4, .inl T)), (bU, .inl (cI, 6, .inl U1_4))] H_4 := hP
  have hD : va_D A [(mo, .inr (2, [.int 0, .ref bL, .ref bT, .int (nI n), .ref bK, .ref bF, .ref bS, .ref bB, .int co1_4, .int pl1_4, .int st1_4, .int jo1_4, .int cn1_4, .int ii1_4, .int fi1_4, .int fe1_4, .ref bU])), (bK, .inl (cI, 60, .inl K)), (bF, .inl (cI, 60, .inl F)), (bS, .inl (cI, 60, .inl S)), (bB, .inl (cZ, 60, .inl B)), (bL, .inl (cI, 4, .inl L)), (bT, .inl (cI, 4, .inl T)), (bU, .inl (cI, 6, .inl U1_4))] := hD
  refine lv_pop hx hb dX2_would_44 rfl ?_
  obtain ⟨hst9, -, -⟩ := okX_hap hX (Nat.le_refl n) hw0_4
  refine lv_aload_n hx hb dX2_would_45 rfl (lv_at hl 0 rfl) ?_
  refine lv_iload_n hx hb dX2_would_46 rfl (lv_at hl 1 rfl) ?_
  have hPc := hP.sub (ws' := [(mo, .inr (2, [.int 0, .ref bL, .ref bT, .int (nI n), .ref bK, .ref bF, .ref bS, .ref bB, .int co1_4, .int pl1_4, .int st1_4, .int jo1_4, .int cn1_4, .int ii1_4, .int fi1_4, .int fe1_4, .ref bU])), (bK, .inl (cI, 60, .inl K)), (bF, .inl (cI, 60, .inl F)), (bS, .inl (cI, 60, .inl S)), (bB, .inl (cZ, 60, .inl B)), (bL, .inl (cI, 4, .inl L)), (bT, .inl (cI, 4, .inl T)), (bU, .inl (cI, 6, .inl U1_4))]) [0, 1, 2, 3, 4, 5, 6, 7] rfl
  have hDc := hD.sub (ws' := [(mo, .inr (2, [.int 0, .ref bL, .ref bT, .int (nI n), .ref bK, .ref bF, .ref bS, .ref bB, .int co1_4, .int pl1_4, .int st1_4, .int jo1_4, .int cn1_4, .int ii1_4, .int fi1_4, .int fe1_4, .ref bU])), (bK, .inl (cI, 60, .inl K)), (bF, .inl (cI, 60, .inl F)), (bS, .inl (cI, 60, .inl S)), (bB, .inl (cZ, 60, .inl B)), (bL, .inl (cI, 4, .inl L)), (bT, .inl (cI, 4, .inl T)), (bU, .inl (cI, 6, .inl U1_4))]) [0, 1, 2, 3, 4, 5, 6, 7] (by decide) rfl
  have hKc := hK.sub (tys' := [(cI, .int), (cZ, .boolean)]) [0, 1] rfl
  have hFc := va_free (wc := [(mo, .inr (2, [.int 0, .ref bL, .ref bT, .int (nI n), .ref bK, .ref bF, .ref bS, .ref bB, .int co1_4, .int pl1_4, .int st1_4, .int jo1_4, .int cn1_4, .int ii1_4, .int fi1_4, .int fe1_4, .ref bU])), (bK, .inl (cI, 60, .inl K)), (bF, .inl (cI, 60, .inl F)), (bS, .inl (cI, 60, .inl S)), (bB, .inl (cZ, 60, .inl B)), (bL, .inl (cI, 4, .inl L)), (bT, .inl (cI, 4, .inl T)), (bU, .inl (cI, 6, .inl U1_4))]) hD hS hA [0, 1, 2, 3, 4, 5, 6, 7] rfl
  refine va_calli (va_runV (As := [.int p9]) (rest := []) ⟨hx, hb, hml, hown, hts⟩ (c_X2_canToss l dC dI cI cZ mo bK bF bS bB bL bT bU H_4.size L T K F S B U1_4 n 0 co1_4 pl1_4 st1_4 jo1_4 cn1_4 ii1_4 fi1_4 fe1_4 p9 (hp) (hst9)) (cwV 1 hts gX2_would_X2_canToss rfl rfl rfl (by decide +kernel) ⟨Nat.le_of_ble_eq_true rfl, Nat.le_of_ble_eq_true rfl⟩) (pc_V hKc hPc hDc (ci := 2) (C := RX2) (T := TX2) (N := 17) (q0 := 0) rfl rfl) rfl rfl hl.1 rfl (lv_room (Nat.le_of_ble_eq_true rfl)) dX2_would_47 ⟨Nat.le_of_ble_eq_true rfl, Nat.le_of_ble_eq_true rfl⟩) hS (fun q _ h => hFc q h) hFc (fun r_5 u t H_5 locs ht hvm hw hB hz1 hk1 hS => ?_)
  try dsimp only at hw hB
  have hw_5 := hw
  replace hw_5 := hw_5.symm
  subst hw_5
  obtain ⟨hP1, hD1⟩ := hB
  rw [ht] at hP1
  obtain ⟨hP, hD⟩ := va_join (wr := []) (w1 := [(mo, .inr (2, [.int 0, .ref bL, .ref bT, .int (nI n), .ref bK, .ref bF, .ref bS, .ref bB, .int co1_4, .int pl1_4, .int st1_4, .int jo1_4, .int cn1_4, .int ii1_4, .int fi1_4, .int fe1_4, .ref bU])), (bK, .inl (cI, 60, .inl K)), (bF, .inl (cI, 60, .inl F)), (bS, .inl (cI, 60, .inl S)), (bB, .inl (cZ, 60, .inl B)), (bL, .inl (cI, 4, .inl L)), (bT, .inl (cI, 4, .inl T)), (bU, .inl (cI, 6, .inl U1_4))]) hP hD [0, 1, 2, 3, 4, 5, 6, 7] [] rfl rfl (by decide) (by decide) hk1 hFc hP1 hD1
  have hP : va_P (dC, dI) vwCl [(mo, .inr (2, [.int 0, .ref bL, .ref bT, .int (nI n), .ref bK, .ref bF, .ref bS, .ref bB, .int co1_4, .int pl1_4, .int st1_4, .int jo1_4, .int cn1_4, .int ii1_4, .int fi1_4, .int fe1_4, .ref bU])), (bK, .inl (cI, 60, .inl K)), (bF, .inl (cI, 60, .inl F)), (bS, .inl (cI, 60, .inl S)), (bB, .inl (cZ, 60, .inl B)), (bL, .inl (cI, 4, .inl L)), (bT, .inl (cI, 4, .inl T)), (bU, .inl (cI, 6, .inl U1_4))] H_5 := hP
  have hD : va_D A [(mo, .inr (2, [.int 0, .ref bL, .ref bT, .int (nI n), .ref bK, .ref bF, .ref bS, .ref bB, .int co1_4, .int pl1_4, .int st1_4, .int jo1_4, .int cn1_4, .int ii1_4, .int fi1_4, .int fe1_4, .ref bU])), (bK, .inl (cI, 60, .inl K)), (bF, .inl (cI, 60, .inl F)), (bS, .inl (cI, 60, .inl S)), (bB, .inl (cZ, 60, .inl B)), (bL, .inl (cI, 4, .inl L)), (bT, .inl (cI, 4, .inl T)), (bU, .inl (cI, 6, .inl U1_4))] := hD
  refine lv_if_eq (tgt := 61) hx hb dX2_would_50 (by decide) (fun c_50 => ?_) (fun c_50 => ?_)
  · -- 50
    refine lv_iconst (v := (-1)) hx hb dX2_would_61 (by decide) ?_
    have hpost : (-1 : Int32) = aWould L T p9 th (cRec L T K F S B n) := by
      rw [← ans_of (aWould_sim L T th hp) hX (Nat.le_refl n) hw0_4]
      simp only [aWould, if_pos c_50]
    have hP9 := hP.sub (ws' := [(mo, .inr (2, [.int 0, .ref bL, .ref bT, .int (nI n), .ref bK, .ref bF, .ref bS, .ref bB, .int co1_4, .int pl1_4, .int st1_4, .int jo1_4, .int cn1_4, .int ii1_4, .int fi1_4, .int fe1_4, .ref bU])), (bK, .inl (cI, 60, .inl K)), (bF, .inl (cI, 60, .inl F)), (bS, .inl (cI, 60, .inl S)), (bB, .inl (cZ, 60, .inl B)), (bL, .inl (cI, 4, .inl L)), (bT, .inl (cI, 4, .inl T)), (bU, .inl (cI, 6, .inl U1_4))]) [0, 1, 2, 3, 4, 5, 6, 7] rfl
    have hD9 := hD.sub (ws' := [(mo, .inr (2, [.int 0, .ref bL, .ref bT, .int (nI n), .ref bK, .ref bF, .ref bS, .ref bB, .int co1_4, .int pl1_4, .int st1_4, .int jo1_4, .int cn1_4, .int ii1_4, .int fi1_4, .int fe1_4, .ref bU])), (bK, .inl (cI, 60, .inl K)), (bF, .inl (cI, 60, .inl F)), (bS, .inl (cI, 60, .inl S)), (bB, .inl (cZ, 60, .inl B)), (bL, .inl (cI, 4, .inl L)), (bT, .inl (cI, 4, .inl T)), (bU, .inl (cI, 6, .inl U1_4))]) [0, 1, 2, 3, 4, 5, 6, 7] (by decide) rfl
    exact W.iret (v := (-1)) hx hb hr (fun t ht hW => ⟨⟨(-1), (co1_4, pl1_4, st1_4, jo1_4, cn1_4, ii1_4, fi1_4, fe1_4, U1_4), rfl, hpost, by rw [ht]; exact hP9, hD9⟩, hS.F ht⟩) hS.2.2 dX2_would_62
  · -- 50
    refine lv_aload_n hx hb dX2_would_53 rfl (lv_at hl 0 rfl) ?_
    refine lv_iload_n hx hb dX2_would_54 rfl (lv_at hl 2 rfl) ?_
    have hPc := hP.sub (ws' := [(mo, .inr (2, [.int 0, .ref bL, .ref bT, .int (nI n), .ref bK, .ref bF, .ref bS, .ref bB, .int co1_4, .int pl1_4, .int st1_4, .int jo1_4, .int cn1_4, .int ii1_4, .int fi1_4, .int fe1_4, .ref bU])), (bK, .inl (cI, 60, .inl K)), (bF, .inl (cI, 60, .inl F)), (bS, .inl (cI, 60, .inl S)), (bB, .inl (cZ, 60, .inl B)), (bL, .inl (cI, 4, .inl L)), (bT, .inl (cI, 4, .inl T)), (bU, .inl (cI, 6, .inl U1_4))]) [0, 1, 2, 3, 4, 5, 6, 7] rfl
    have hDc := hD.sub (ws' := [(mo, .inr (2, [.int 0, .ref bL, .ref bT, .int (nI n), .ref bK, .ref bF, .ref bS, .ref bB, .int co1_4, .int pl1_4, .int st1_4, .int jo1_4, .int cn1_4, .int ii1_4, .int fi1_4, .int fe1_4, .ref bU])), (bK, .inl (cI, 60, .inl K)), (bF, .inl (cI, 60, .inl F)), (bS, .inl (cI, 60, .inl S)), (bB, .inl (cZ, 60, .inl B)), (bL, .inl (cI, 4, .inl L)), (bT, .inl (cI, 4, .inl T)), (bU, .inl (cI, 6, .inl U1_4))]) [0, 1, 2, 3, 4, 5, 6, 7] (by decide) rfl
    have hKc := hK.sub (tys' := [(cI, .int), (cZ, .boolean)]) [0, 1] rfl
    have hFc := va_free (wc := [(mo, .inr (2, [.int 0, .ref bL, .ref bT, .int (nI n), .ref bK, .ref bF, .ref bS, .ref bB, .int co1_4, .int pl1_4, .int st1_4, .int jo1_4, .int cn1_4, .int ii1_4, .int fi1_4, .int fe1_4, .ref bU])), (bK, .inl (cI, 60, .inl K)), (bF, .inl (cI, 60, .inl F)), (bS, .inl (cI, 60, .inl S)), (bB, .inl (cZ, 60, .inl B)), (bL, .inl (cI, 4, .inl L)), (bT, .inl (cI, 4, .inl T)), (bU, .inl (cI, 6, .inl U1_4))]) hD hS hA [0, 1, 2, 3, 4, 5, 6, 7] rfl
    refine va_calli (va_runV (As := [.int th]) (rest := []) ⟨hx, hb, hml, hown, hts⟩ (c_X2_brings l dC dI cI cZ mo bK bF bS bB bL bT bU H_5.size L T K F S B U1_4 n 0 co1_4 pl1_4 st1_4 jo1_4 cn1_4 ii1_4 fi1_4 fe1_4 th (hst9)) (cwV 1 hts gX2_would_X2_brings rfl rfl rfl (by decide +kernel) ⟨Nat.le_of_ble_eq_true rfl, Nat.le_of_ble_eq_true rfl⟩) (pc_V hKc hPc hDc (ci := 2) (C := RX2) (T := TX2) (N := 17) (q0 := 0) rfl rfl) rfl rfl hl.1 rfl (lv_room (Nat.le_of_ble_eq_true rfl)) dX2_would_55 ⟨Nat.le_of_ble_eq_true rfl, Nat.le_of_ble_eq_true rfl⟩) hS (fun q _ h => hFc q h) hFc (fun r_6 u t H_6 locs ht hvm hw hB hz1 hk1 hS => ?_)
    try dsimp only at hw hB
    have hw_6 := hw
    replace hw_6 := hw_6.symm
    subst hw_6
    obtain ⟨hP1, hD1⟩ := hB
    rw [ht] at hP1
    obtain ⟨hP, hD⟩ := va_join (wr := []) (w1 := [(mo, .inr (2, [.int 0, .ref bL, .ref bT, .int (nI n), .ref bK, .ref bF, .ref bS, .ref bB, .int co1_4, .int pl1_4, .int st1_4, .int jo1_4, .int cn1_4, .int ii1_4, .int fi1_4, .int fe1_4, .ref bU])), (bK, .inl (cI, 60, .inl K)), (bF, .inl (cI, 60, .inl F)), (bS, .inl (cI, 60, .inl S)), (bB, .inl (cZ, 60, .inl B)), (bL, .inl (cI, 4, .inl L)), (bT, .inl (cI, 4, .inl T)), (bU, .inl (cI, 6, .inl U1_4))]) hP hD [0, 1, 2, 3, 4, 5, 6, 7] [] rfl rfl (by decide) (by decide) hk1 hFc hP1 hD1
    have hP : va_P (dC, dI) vwCl [(mo, .inr (2, [.int 0, .ref bL, .ref bT, .int (nI n), .ref bK, .ref bF, .ref bS, .ref bB, .int co1_4, .int pl1_4, .int st1_4, .int jo1_4, .int cn1_4, .int ii1_4, .int fi1_4, .int fe1_4, .ref bU])), (bK, .inl (cI, 60, .inl K)), (bF, .inl (cI, 60, .inl F)), (bS, .inl (cI, 60, .inl S)), (bB, .inl (cZ, 60, .inl B)), (bL, .inl (cI, 4, .inl L)), (bT, .inl (cI, 4, .inl T)), (bU, .inl (cI, 6, .inl U1_4))] H_6 := hP
    have hD : va_D A [(mo, .inr (2, [.int 0, .ref bL, .ref bT, .int (nI n), .ref bK, .ref bF, .ref bS, .ref bB, .int co1_4, .int pl1_4, .int st1_4, .int jo1_4, .int cn1_4, .int ii1_4, .int fi1_4, .int fe1_4, .ref bU])), (bK, .inl (cI, 60, .inl K)), (bF, .inl (cI, 60, .inl F)), (bS, .inl (cI, 60, .inl S)), (bB, .inl (cZ, 60, .inl B)), (bL, .inl (cI, 4, .inl L)), (bT, .inl (cI, 4, .inl T)), (bU, .inl (cI, 6, .inl U1_4))] := hD
    refine lv_goto (tgt := 62) hx hb dX2_would_58 (by decide) ?_
    have hpost : (mTak L st1_4 th) = aWould L T p9 th (cRec L T K F S B n) := by
      rw [← ans_of (aWould_sim L T th hp) hX (Nat.le_refl n) hw0_4]
      simp only [aWould, if_neg c_50]
    have hP9 := hP.sub (ws' := [(mo, .inr (2, [.int 0, .ref bL, .ref bT, .int (nI n), .ref bK, .ref bF, .ref bS, .ref bB, .int co1_4, .int pl1_4, .int st1_4, .int jo1_4, .int cn1_4, .int ii1_4, .int fi1_4, .int fe1_4, .ref bU])), (bK, .inl (cI, 60, .inl K)), (bF, .inl (cI, 60, .inl F)), (bS, .inl (cI, 60, .inl S)), (bB, .inl (cZ, 60, .inl B)), (bL, .inl (cI, 4, .inl L)), (bT, .inl (cI, 4, .inl T)), (bU, .inl (cI, 6, .inl U1_4))]) [0, 1, 2, 3, 4, 5, 6, 7] rfl
    have hD9 := hD.sub (ws' := [(mo, .inr (2, [.int 0, .ref bL, .ref bT, .int (nI n), .ref bK, .ref bF, .ref bS, .ref bB, .int co1_4, .int pl1_4, .int st1_4, .int jo1_4, .int cn1_4, .int ii1_4, .int fi1_4, .int fe1_4, .ref bU])), (bK, .inl (cI, 60, .inl K)), (bF, .inl (cI, 60, .inl F)), (bS, .inl (cI, 60, .inl S)), (bB, .inl (cZ, 60, .inl B)), (bL, .inl (cI, 4, .inl L)), (bT, .inl (cI, 4, .inl T)), (bU, .inl (cI, 6, .inl U1_4))]) [0, 1, 2, 3, 4, 5, 6, 7] (by decide) rfl
    exact W.iret (v := mTak L st1_4 th) hx hb hr (fun t ht hW => ⟨⟨(mTak L st1_4 th), (co1_4, pl1_4, st1_4, jo1_4, cn1_4, ii1_4, fi1_4, fe1_4, U1_4), rfl, hpost, by rw [ht]; exact hP9, hD9⟩, hS.F ht⟩) hS.2.2 dX2_would_62

set_option maxHeartbeats 4000000 in
set_option maxRecDepth 100000 in
theorem c_X2_would_f1 (l : Launch) (dC : Nat → ClassId) (dI : Nat → Nat → Nat) (cI cZ : ClassId) (mo bK bF bS bB bL bT bU : Nat) (sz : Nat) (L : N2I) (T : N2I) (K : N2I) (F : N2I) (S : N2I) (B : N2I) (U : N2I) (n : Nat) (tw : Int32) (co : Int32) (pl : Int32) (st : Int32) (jo : Int32) (cn : Int32) (ii : Int32) (fi : Int32) (fe : Int32) (p9 : Int32) (th : Int32) (hb0 : p9 < 0 ∨ 5 < p9) : Met l yX2_would wsX2_would ({ frames := 5, cells := 0, slots := 0, locals := 106 } : Room) (va_Pc [.ref mo, .int p9, .int th] (pc_ (dC, dI) [(cI, .int), (cZ, .boolean)] [(mo, .inr (2, [.int tw, .ref bL, .ref bT, .int (nI n), .ref bK, .ref bF, .ref bS, .ref bB, .int co, .int pl, .int st, .int jo, .int cn, .int ii, .int fi, .int fe, .ref bU])), (bK, .inl (cI, 60, .inl K)), (bF, .inl (cI, 60, .inl F)), (bS, .inl (cI, 60, .inl S)), (bB, .inl (cZ, 60, .inl B)), (bL, .inl (cI, 4, .inl L)), (bT, .inl (cI, 4, .inl T)), (bU, .inl (cI, 6, .inl U))] sz)) (va_Qi (fun (r : Int32) (u : Unit) => r = 0) (fun (u : Unit) (t : State) => va_P (dC, dI) vwCl [(mo, .inr (2, [.int 1, .ref bL, .ref bT, .int (nI n), .ref bK, .ref bF, .ref bS, .ref bB, .int co, .int pl, .int st, .int jo, .int cn, .int ii, .int fi, .int fe, .ref bU])), (bK, .inl (cI, 60, .inl K)), (bF, .inl (cI, 60, .inl F)), (bS, .inl (cI, 60, .inl S)), (bB, .inl (cZ, 60, .inl B)), (bL, .inl (cI, 4, .inl L)), (bT, .inl (cI, 4, .inl T)), (bU, .inl (cI, 6, .inl U))] t.heap ∧ va_D (va_A [(mo, .inr (2, [.int tw, .ref bL, .ref bT, .int (nI n), .ref bK, .ref bF, .ref bS, .ref bB, .int co, .int pl, .int st, .int jo, .int cn, .int ii, .int fi, .int fe, .ref bU])), (bK, .inl (cI, 60, .inl K)), (bF, .inl (cI, 60, .inl F)), (bS, .inl (cI, 60, .inl S)), (bB, .inl (cZ, 60, .inl B)), (bL, .inl (cI, 4, .inl L)), (bT, .inl (cI, 4, .inl T)), (bU, .inl (cI, 6, .inl U))] sz) [(mo, .inr (2, [.int 1, .ref bL, .ref bT, .int (nI n), .ref bK, .ref bF, .ref bS, .ref bB, .int co, .int pl, .int st, .int jo, .int cn, .int ii, .int fi, .int fe, .ref bU])), (bK, .inl (cI, 60, .inl K)), (bF, .inl (cI, 60, .inl F)), (bS, .inl (cI, 60, .inl S)), (bB, .inl (cZ, 60, .inl B)), (bL, .inl (cI, 4, .inl L)), (bT, .inl (cI, 4, .inl T)), (bU, .inl (cI, 6, .inl U))]) (va_A [(mo, .inr (2, [.int tw, .ref bL, .ref bT, .int (nI n), .ref bK, .ref bF, .ref bS, .ref bB, .int co, .int pl, .int st, .int jo, .int cn, .int ii, .int fi, .int fe, .ref bU])), (bK, .inl (cI, 60, .inl K)), (bF, .inl (cI, 60, .inl F)), (bS, .inl (cI, 60, .inl S)), (bB, .inl (cZ, 60, .inl B)), (bL, .inl (cI, 4, .inl L)), (bT, .inl (cI, 4, .inl T)), (bU, .inl (cI, 6, .inl U))] sz)) 0 0 (va_A [(mo, .inr (2, [.int tw, .ref bL, .ref bT, .int (nI n), .ref bK, .ref bF, .ref bS, .ref bB, .int co, .int pl, .int st, .int jo, .int cn, .int ii, .int fi, .int fe, .ref bU])), (bK, .inl (cI, 60, .inl K)), (bF, .inl (cI, 60, .inl F)), (bS, .inl (cI, 60, .inl S)), (bB, .inl (cZ, 60, .inl B)), (bL, .inl (cI, 4, .inl L)), (bT, .inl (cI, 4, .inl T)), (bU, .inl (cI, 6, .inl U))] sz) := by
  refine Met.ofW (cc := cX2_would) (maxL := 3) (ret := (some .int)) (by decide) rfl ?_
  intro p e s m args below meth c s₁ BB hml hv
  obtain ⟨rfl, hsz, hP, hK, hD0⟩ := hv
  have hx := BB.exec
  have hb := BB.bytes
  have hr := BB.returns
  have hts := atoms_spec (ws := wsX2_would) BB.pre
  have hown : s.vm.findClass RX2 = some m.cls := findClass_of_methodNamed BB.named
  have hlocks := BB.notSynchronized
  subst hsz
  have hD := hD0.self (sz := s.heap.size)
  generalize hAe : va_A [(mo, .inr (2, [.int tw, .ref bL, .ref bT, .int (nI n), .ref bK, .ref bF, .ref bS, .ref bB, .int co, .int pl, .int st, .int jo, .int cn, .int ii, .int fi, .int fe, .ref bU])), (bK, .inl (cI, 60, .inl K)), (bF, .inl (cI, 60, .inl F)), (bS, .inl (cI, 60, .inl S)), (bB, .inl (cZ, 60, .inl B)), (bL, .inl (cI, 4, .inl L)), (bT, .inl (cI, 4, .inl T)), (bU, .inl (cI, 6, .inl U))] s.heap.size = A at hD ⊢
  have hA : ∀ q : Nat, s.heap.size ≤ q → A q := fun q h => by rw [← hAe]; exact Or.inr h
  have hS : va_S A s.heap s.heap [] := va_S.rf
  have hP : va_P (dC, dI) vwCl [(mo, .inr (2, [.int tw, .ref bL, .ref bT, .int (nI n), .ref bK, .ref bF, .ref bS, .ref bB, .int co, .int pl, .int st, .int jo, .int cn, .int ii, .int fi, .int fe, .ref bU])), (bK, .inl (cI, 60, .inl K)), (bF, .inl (cI, 60, .inl F)), (bS, .inl (cI, 60, .inl S)), (bB, .inl (cZ, 60, .inl B)), (bL, .inl (cI, 4, .inl L)), (bT, .inl (cI, 4, .inl T)), (bU, .inl (cI, 6, .inl U))] s.heap := hP
  have hl := lv_entry ([.ref mo, .int p9, .int th]) (n := 3) (Nat.le_of_ble_eq_true rfl)
  rw [lg_entry_eq]
  generalize (lg_sl ([.ref mo, .int p9, .int th]) ++ List.replicate (3 - (lg_sl ([.ref mo, .int p9, .int th])).length) Slot.unset).toArray = ls at hl ⊢
  have hl : lv_has ls 3 [(0, .ref mo), (1, .int p9), (2, .int th)] := hl
  have k0 := hts (.fieldLink RX2 32 "KnifeLedgerModel" "thrown" "I") (by decide +kernel)
  have hinX2 : ∀ w ∈ wsX20, w ∈ wsX2_would := by decide +kernel
  refine lv_aload_n hx hb dX2_would_0 rfl (lv_at hl 0 rfl) ?_
  refine lv_iconst (v := 0) hx hb dX2_would_1 (by decide) ?_
  refine va_put (D := (dC, dI)) (ci := 2) (v := .int 0) (ty := .int) (C := RX2) (T := TX2) (N := 17) hx hb hts hinX2 tyX2 tyX2_ok nmX2 hown hK hP hD hS 0 rfl rfl 0 (by decide) k0 (fun _ h9 => h9) rfl (by decide +kernel) rfl rfl (Nat.le_of_ble_eq_true rfl) dX2_would_2 (fun H_1 locs hP hD hS => ?_)
  have hP : va_P (dC, dI) vwCl [(mo, .inr (2, [.int 0, .ref bL, .ref bT, .int (nI n), .ref bK, .ref bF, .ref bS, .ref bB, .int co, .int pl, .int st, .int jo, .int cn, .int ii, .int fi, .int fe, .ref bU])), (bK, .inl (cI, 60, .inl K)), (bF, .inl (cI, 60, .inl F)), (bS, .inl (cI, 60, .inl S)), (bB, .inl (cZ, 60, .inl B)), (bL, .inl (cI, 4, .inl L)), (bT, .inl (cI, 4, .inl T)), (bU, .inl (cI, 6, .inl U))] H_1 := hP
  have hD : va_D A [(mo, .inr (2, [.int 0, .ref bL, .ref bT, .int (nI n), .ref bK, .ref bF, .ref bS, .ref bB, .int co, .int pl, .int st, .int jo, .int cn, .int ii, .int fi, .int fe, .ref bU])), (bK, .inl (cI, 60, .inl K)), (bF, .inl (cI, 60, .inl F)), (bS, .inl (cI, 60, .inl S)), (bB, .inl (cZ, 60, .inl B)), (bL, .inl (cI, 4, .inl L)), (bT, .inl (cI, 4, .inl T)), (bU, .inl (cI, 6, .inl U))] := hD
  refine lv_iload_n hx hb dX2_would_5 rfl (lv_at hl 1 rfl) ?_
  refine lv_iconst (v := 0) hx hb dX2_would_6 (by decide) ?_
  refine lv_iconst (v := 5) hx hb dX2_would_7 (by decide) ?_
  have hPc := hP.sub (ws' := []) [] rfl
  have hDc := hD.sub (ws' := []) [] (by decide) rfl
  have hKc := hK.sub (tys' := []) [] rfl
  have hFc := va_free (wc := []) hD hS hA [] rfl
  refine va_calli (va_runS (As := [.int p9, .int 0, .int 5]) (rest := []) ⟨hx, hb, hml, hown, hts⟩ (c_X2_isIn l dC dI H_1.size p9 0 5) (va_cwS 3 hts gX2_would_X2_isIn rfl rfl rfl (by decide +kernel) ⟨Nat.le_of_ble_eq_true rfl, Nat.le_of_ble_eq_true rfl⟩) (pc_S hKc hPc hDc) rfl rfl hl.1 rfl (lv_room (Nat.le_of_ble_eq_true rfl)) dX2_would_8 ⟨Nat.le_of_ble_eq_true rfl, Nat.le_of_ble_eq_true rfl⟩) hS (fun q _ h => hFc q h) hFc (fun r_2 u t H_2 locs ht hvm hw hB hz1 hk1 hS => ?_)
  try dsimp only at hw hB
  have hw_2 := hw
  replace hw_2 := hw_2.symm
  subst hw_2
  obtain ⟨hP1, hD1⟩ := hB
  rw [ht] at hP1
  obtain ⟨hP, hD⟩ := va_join (wr := [(mo, .inr (2, [.int 0, .ref bL, .ref bT, .int (nI n), .ref bK, .ref bF, .ref bS, .ref bB, .int co, .int pl, .int st, .int jo, .int cn, .int ii, .int fi, .int fe, .ref bU])), (bK, .inl (cI, 60, .inl K)), (bF, .inl (cI, 60, .inl F)), (bS, .inl (cI, 60, .inl S)), (bB, .inl (cZ, 60, .inl B)), (bL, .inl (cI, 4, .inl L)), (bT, .inl (cI, 4, .inl T)), (bU, .inl (cI, 6, .inl U))]) (w1 := []) hP hD [] [0, 1, 2, 3, 4, 5, 6, 7] rfl rfl (by decide) (by decide) hk1 hFc hP1 hD1
  have hP : va_P (dC, dI) vwCl [(mo, .inr (2, [.int 0, .ref bL, .ref bT, .int (nI n), .ref bK, .ref bF, .ref bS, .ref bB, .int co, .int pl, .int st, .int jo, .int cn, .int ii, .int fi, .int fe, .ref bU])), (bK, .inl (cI, 60, .inl K)), (bF, .inl (cI, 60, .inl F)), (bS, .inl (cI, 60, .inl S)), (bB, .inl (cZ, 60, .inl B)), (bL, .inl (cI, 4, .inl L)), (bT, .inl (cI, 4, .inl T)), (bU, .inl (cI, 6, .inl U))] H_2 := hP
  have hD : va_D A [(mo, .inr (2, [.int 0, .ref bL, .ref bT, .int (nI n), .ref bK, .ref bF, .ref bS, .ref bB, .int co, .int pl, .int st, .int jo, .int cn, .int ii, .int fi, .int fe, .ref bU])), (bK, .inl (cI, 60, .inl K)), (bF, .inl (cI, 60, .inl F)), (bS, .inl (cI, 60, .inl S)), (bB, .inl (cZ, 60, .inl B)), (bL, .inl (cI, 4, .inl L)), (bT, .inl (cI, 4, .inl T)), (bU, .inl (cI, 6, .inl U))] := hD
  refine lv_if_ne (tgt := 20) hx hb dX2_would_11 (by decide) (fun h9 => absurd (mIn_bad hb0) h9) (fun _ => ?_)
  refine lv_aload_n hx hb dX2_would_14 rfl (lv_at hl 0 rfl) ?_
  refine lv_iconst (v := 1) hx hb dX2_would_15 (by decide) ?_
  have hPc := hP.sub (ws' := [(mo, .inr (2, [.int 0, .ref bL, .ref bT, .int (nI n), .ref bK, .ref bF, .ref bS, .ref bB, .int co, .int pl, .int st, .int jo, .int cn, .int ii, .int fi, .int fe, .ref bU])), (bK, .inl (cI, 60, .inl K)), (bF, .inl (cI, 60, .inl F)), (bS, .inl (cI, 60, .inl S)), (bB, .inl (cZ, 60, .inl B)), (bL, .inl (cI, 4, .inl L)), (bT, .inl (cI, 4, .inl T)), (bU, .inl (cI, 6, .inl U))]) [0, 1, 2, 3, 4, 5, 6, 7] rfl
  have hDc := hD.sub (ws' := [(mo, .inr (2, [.int 0, .ref bL, .ref bT, .int (nI n), .ref bK, .ref bF, .ref bS, .ref bB, .int co, .int pl, .int st, .int jo, .int cn, .int ii, .int fi, .int fe, .ref bU])), (bK, .inl (cI, 60, .inl K)), (bF, .inl (cI, 60, .inl F)), (bS, .inl (cI, 60, .inl S)), (bB, .inl (cZ, 60, .inl B)), (bL, .inl (cI, 4, .inl L)), (bT, .inl (cI, 4, .inl T)), (bU, .inl (cI, 6, .inl U))]) [0, 1, 2, 3, 4, 5, 6, 7] (by decide) rfl
  have hKc := hK.sub (tys' := [(cI, .int), (cZ, .boolean)]) [0, 1] rfl
  have hFc := va_free (wc := [(mo, .inr (2, [.int 0, .ref bL, .ref bT, .int (nI n), .ref bK, .ref bF, .ref bS, .ref bB, .int co, .int pl, .int st, .int jo, .int cn, .int ii, .int fi, .int fe, .ref bU])), (bK, .inl (cI, 60, .inl K)), (bF, .inl (cI, 60, .inl F)), (bS, .inl (cI, 60, .inl S)), (bB, .inl (cZ, 60, .inl B)), (bL, .inl (cI, 4, .inl L)), (bT, .inl (cI, 4, .inl T)), (bU, .inl (cI, 6, .inl U))]) hD hS hA [0, 1, 2, 3, 4, 5, 6, 7] rfl
  refine va_calli (va_runV (As := [.int 1]) (rest := []) ⟨hx, hb, hml, hown, hts⟩ (c_X2_fail l dC dI cI cZ mo bK bF bS bB bL bT bU H_2.size L T K F S B U n 0 co pl st jo cn ii fi fe 1) (cwV 1 hts gX2_would_X2_fail rfl rfl rfl (by decide +kernel) ⟨Nat.le_of_ble_eq_true rfl, Nat.le_of_ble_eq_true rfl⟩) (pc_V hKc hPc hDc (ci := 2) (C := RX2) (T := TX2) (N := 17) (q0 := 0) rfl rfl) rfl rfl hl.1 rfl (lv_room (Nat.le_of_ble_eq_true rfl)) dX2_would_16 ⟨Nat.le_of_ble_eq_true rfl, Nat.le_of_ble_eq_true rfl⟩) hS (fun q _ h => hFc q h) hFc (fun r_3 u t H_3 locs ht hvm hw hB hz1 hk1 hS => ?_)
  try dsimp only at hw hB
  have hw_3 := hw
  replace hw_3 := hw_3.symm
  subst hw_3
  obtain ⟨hP1, hD1⟩ := hB
  rw [ht] at hP1
  obtain ⟨hP, hD⟩ := va_join (wr := []) (w1 := [(mo, .inr (2, [.int 1, .ref bL, .ref bT, .int (nI n), .ref bK, .ref bF, .ref bS, .ref bB, .int co, .int pl, .int st, .int jo, .int cn, .int ii, .int fi, .int fe, .ref bU])), (bK, .inl (cI, 60, .inl K)), (bF, .inl (cI, 60, .inl F)), (bS, .inl (cI, 60, .inl S)), (bB, .inl (cZ, 60, .inl B)), (bL, .inl (cI, 4, .inl L)), (bT, .inl (cI, 4, .inl T)), (bU, .inl (cI, 6, .inl U))]) hP hD [0, 1, 2, 3, 4, 5, 6, 7] [] rfl rfl (by decide) (by decide) hk1 hFc hP1 hD1
  have hP : va_P (dC, dI) vwCl [(mo, .inr (2, [.int 1, .ref bL, .ref bT, .int (nI n), .ref bK, .ref bF, .ref bS, .ref bB, .int co, .int pl, .int st, .int jo, .int cn, .int ii, .int fi, .int fe, .ref bU])), (bK, .inl (cI, 60, .inl K)), (bF, .inl (cI, 60, .inl F)), (bS, .inl (cI, 60, .inl S)), (bB, .inl (cZ, 60, .inl B)), (bL, .inl (cI, 4, .inl L)), (bT, .inl (cI, 4, .inl T)), (bU, .inl (cI, 6, .inl U))] H_3 := hP
  have hD : va_D A [(mo, .inr (2, [.int 1, .ref bL, .ref bT, .int (nI n), .ref bK, .ref bF, .ref bS, .ref bB, .int co, .int pl, .int st, .int jo, .int cn, .int ii, .int fi, .int fe, .ref bU])), (bK, .inl (cI, 60, .inl K)), (bF, .inl (cI, 60, .inl F)), (bS, .inl (cI, 60, .inl S)), (bB, .inl (cZ, 60, .inl B)), (bL, .inl (cI, 4, .inl L)), (bT, .inl (cI, 4, .inl T)), (bU, .inl (cI, 6, .inl U))] := hD
  have hpost : (0 : Int32) = 0 := by
    rfl
  have hP9 := hP.sub (ws' := [(mo, .inr (2, [.int 1, .ref bL, .ref bT, .int (nI n), .ref bK, .ref bF, .ref bS, .ref bB, .int co, .int pl, .int st, .int jo, .int cn, .int ii, .int fi, .int fe, .ref bU])), (bK, .inl (cI, 60, .inl K)), (bF, .inl (cI, 60, .inl F)), (bS, .inl (cI, 60, .inl S)), (bB, .inl (cZ, 60, .inl B)), (bL, .inl (cI, 4, .inl L)), (bT, .inl (cI, 4, .inl T)), (bU, .inl (cI, 6, .inl U))]) [0, 1, 2, 3, 4, 5, 6, 7] rfl
  have hD9 := hD.sub (ws' := [(mo, .inr (2, [.int 1, .ref bL, .ref bT, .int (nI n), .ref bK, .ref bF, .ref bS, .ref bB, .int co, .int pl, .int st, .int jo, .int cn, .int ii, .int fi, .int fe, .ref bU])), (bK, .inl (cI, 60, .inl K)), (bF, .inl (cI, 60, .inl F)), (bS, .inl (cI, 60, .inl S)), (bB, .inl (cZ, 60, .inl B)), (bL, .inl (cI, 4, .inl L)), (bT, .inl (cI, 4, .inl T)), (bU, .inl (cI, 6, .inl U))]) [0, 1, 2, 3, 4, 5, 6, 7] (by decide) rfl
  exact W.iret (v := 0) hx hb hr (fun t ht hW => ⟨⟨0, (), rfl, hpost, by rw [ht]; exact hP9, hD9⟩, hS.F ht⟩) hS.2.2 dX2_would_19

set_option maxHeartbeats 4000000 in
set_option maxRecDepth 100000 in
theorem c_X2_would_f2 (l : Launch) (dC : Nat → ClassId) (dI : Nat → Nat → Nat) (cI cZ : ClassId) (mo bK bF bS bB bL bT bU : Nat) (sz : Nat) (L : N2I) (T : N2I) (K : N2I) (F : N2I) (S : N2I) (B : N2I) (U : N2I) (n : Nat) (tw : Int32) (co : Int32) (pl : Int32) (st : Int32) (jo : Int32) (cn : Int32) (ii : Int32) (fi : Int32) (fe : Int32) (p9 : Int32) (th : Int32) (h0 : ¬ p9 < 0) (h1 : ¬ 5 < p9) (hb0 : th < 0 ∨ 20 < th) : Met l yX2_would wsX2_would ({ frames := 5, cells := 0, slots := 0, locals := 106 } : Room) (va_Pc [.ref mo, .int p9, .int th] (pc_ (dC, dI) [(cI, .int), (cZ, .boolean)] [(mo, .inr (2, [.int tw, .ref bL, .ref bT, .int (nI n), .ref bK, .ref bF, .ref bS, .ref bB, .int co, .int pl, .int st, .int jo, .int cn, .int ii, .int fi, .int fe, .ref bU])), (bK, .inl (cI, 60, .inl K)), (bF, .inl (cI, 60, .inl F)), (bS, .inl (cI, 60, .inl S)), (bB, .inl (cZ, 60, .inl B)), (bL, .inl (cI, 4, .inl L)), (bT, .inl (cI, 4, .inl T)), (bU, .inl (cI, 6, .inl U))] sz)) (va_Qi (fun (r : Int32) (u : Unit) => r = 0) (fun (u : Unit) (t : State) => va_P (dC, dI) vwCl [(mo, .inr (2, [.int 2, .ref bL, .ref bT, .int (nI n), .ref bK, .ref bF, .ref bS, .ref bB, .int co, .int pl, .int st, .int jo, .int cn, .int ii, .int fi, .int fe, .ref bU])), (bK, .inl (cI, 60, .inl K)), (bF, .inl (cI, 60, .inl F)), (bS, .inl (cI, 60, .inl S)), (bB, .inl (cZ, 60, .inl B)), (bL, .inl (cI, 4, .inl L)), (bT, .inl (cI, 4, .inl T)), (bU, .inl (cI, 6, .inl U))] t.heap ∧ va_D (va_A [(mo, .inr (2, [.int tw, .ref bL, .ref bT, .int (nI n), .ref bK, .ref bF, .ref bS, .ref bB, .int co, .int pl, .int st, .int jo, .int cn, .int ii, .int fi, .int fe, .ref bU])), (bK, .inl (cI, 60, .inl K)), (bF, .inl (cI, 60, .inl F)), (bS, .inl (cI, 60, .inl S)), (bB, .inl (cZ, 60, .inl B)), (bL, .inl (cI, 4, .inl L)), (bT, .inl (cI, 4, .inl T)), (bU, .inl (cI, 6, .inl U))] sz) [(mo, .inr (2, [.int 2, .ref bL, .ref bT, .int (nI n), .ref bK, .ref bF, .ref bS, .ref bB, .int co, .int pl, .int st, .int jo, .int cn, .int ii, .int fi, .int fe, .ref bU])), (bK, .inl (cI, 60, .inl K)), (bF, .inl (cI, 60, .inl F)), (bS, .inl (cI, 60, .inl S)), (bB, .inl (cZ, 60, .inl B)), (bL, .inl (cI, 4, .inl L)), (bT, .inl (cI, 4, .inl T)), (bU, .inl (cI, 6, .inl U))]) (va_A [(mo, .inr (2, [.int tw, .ref bL, .ref bT, .int (nI n), .ref bK, .ref bF, .ref bS, .ref bB, .int co, .int pl, .int st, .int jo, .int cn, .int ii, .int fi, .int fe, .ref bU])), (bK, .inl (cI, 60, .inl K)), (bF, .inl (cI, 60, .inl F)), (bS, .inl (cI, 60, .inl S)), (bB, .inl (cZ, 60, .inl B)), (bL, .inl (cI, 4, .inl L)), (bT, .inl (cI, 4, .inl T)), (bU, .inl (cI, 6, .inl U))] sz)) 0 0 (va_A [(mo, .inr (2, [.int tw, .ref bL, .ref bT, .int (nI n), .ref bK, .ref bF, .ref bS, .ref bB, .int co, .int pl, .int st, .int jo, .int cn, .int ii, .int fi, .int fe, .ref bU])), (bK, .inl (cI, 60, .inl K)), (bF, .inl (cI, 60, .inl F)), (bS, .inl (cI, 60, .inl S)), (bB, .inl (cZ, 60, .inl B)), (bL, .inl (cI, 4, .inl L)), (bT, .inl (cI, 4, .inl T)), (bU, .inl (cI, 6, .inl U))] sz) := by
  refine Met.ofW (cc := cX2_would) (maxL := 3) (ret := (some .int)) (by decide) rfl ?_
  intro p e s m args below meth c s₁ BB hml hv
  obtain ⟨rfl, hsz, hP, hK, hD0⟩ := hv
  have hx := BB.exec
  have hb := BB.bytes
  have hr := BB.returns
  have hts := atoms_spec (ws := wsX2_would) BB.pre
  have hown : s.vm.findClass RX2 = some m.cls := findClass_of_methodNamed BB.named
  have hlocks := BB.notSynchronized
  subst hsz
  have hD := hD0.self (sz := s.heap.size)
  generalize hAe : va_A [(mo, .inr (2, [.int tw, .ref bL, .ref bT, .int (nI n), .ref bK, .ref bF, .ref bS, .ref bB, .int co, .int pl, .int st, .int jo, .int cn, .int ii, .int fi, .int fe, .ref bU])), (bK, .inl (cI, 60, .inl K)), (bF, .inl (cI, 60, .inl F)), (bS, .inl (cI, 60, .inl S)), (bB, .inl (cZ, 60, .inl B)), (bL, .inl (cI, 4, .inl L)), (bT, .inl (cI, 4, .inl T)), (bU, .inl (cI, 6, .inl U))] s.heap.size = A at hD ⊢
  have hA : ∀ q : Nat, s.heap.size ≤ q → A q := fun q h => by rw [← hAe]; exact Or.inr h
  have hS : va_S A s.heap s.heap [] := va_S.rf
  have hP : va_P (dC, dI) vwCl [(mo, .inr (2, [.int tw, .ref bL, .ref bT, .int (nI n), .ref bK, .ref bF, .ref bS, .ref bB, .int co, .int pl, .int st, .int jo, .int cn, .int ii, .int fi, .int fe, .ref bU])), (bK, .inl (cI, 60, .inl K)), (bF, .inl (cI, 60, .inl F)), (bS, .inl (cI, 60, .inl S)), (bB, .inl (cZ, 60, .inl B)), (bL, .inl (cI, 4, .inl L)), (bT, .inl (cI, 4, .inl T)), (bU, .inl (cI, 6, .inl U))] s.heap := hP
  have hl := lv_entry ([.ref mo, .int p9, .int th]) (n := 3) (Nat.le_of_ble_eq_true rfl)
  rw [lg_entry_eq]
  generalize (lg_sl ([.ref mo, .int p9, .int th]) ++ List.replicate (3 - (lg_sl ([.ref mo, .int p9, .int th])).length) Slot.unset).toArray = ls at hl ⊢
  have hl : lv_has ls 3 [(0, .ref mo), (1, .int p9), (2, .int th)] := hl
  have k0 := hts (.fieldLink RX2 32 "KnifeLedgerModel" "thrown" "I") (by decide +kernel)
  have hinX2 : ∀ w ∈ wsX20, w ∈ wsX2_would := by decide +kernel
  refine lv_aload_n hx hb dX2_would_0 rfl (lv_at hl 0 rfl) ?_
  refine lv_iconst (v := 0) hx hb dX2_would_1 (by decide) ?_
  refine va_put (D := (dC, dI)) (ci := 2) (v := .int 0) (ty := .int) (C := RX2) (T := TX2) (N := 17) hx hb hts hinX2 tyX2 tyX2_ok nmX2 hown hK hP hD hS 0 rfl rfl 0 (by decide) k0 (fun _ h9 => h9) rfl (by decide +kernel) rfl rfl (Nat.le_of_ble_eq_true rfl) dX2_would_2 (fun H_1 locs hP hD hS => ?_)
  have hP : va_P (dC, dI) vwCl [(mo, .inr (2, [.int 0, .ref bL, .ref bT, .int (nI n), .ref bK, .ref bF, .ref bS, .ref bB, .int co, .int pl, .int st, .int jo, .int cn, .int ii, .int fi, .int fe, .ref bU])), (bK, .inl (cI, 60, .inl K)), (bF, .inl (cI, 60, .inl F)), (bS, .inl (cI, 60, .inl S)), (bB, .inl (cZ, 60, .inl B)), (bL, .inl (cI, 4, .inl L)), (bT, .inl (cI, 4, .inl T)), (bU, .inl (cI, 6, .inl U))] H_1 := hP
  have hD : va_D A [(mo, .inr (2, [.int 0, .ref bL, .ref bT, .int (nI n), .ref bK, .ref bF, .ref bS, .ref bB, .int co, .int pl, .int st, .int jo, .int cn, .int ii, .int fi, .int fe, .ref bU])), (bK, .inl (cI, 60, .inl K)), (bF, .inl (cI, 60, .inl F)), (bS, .inl (cI, 60, .inl S)), (bB, .inl (cZ, 60, .inl B)), (bL, .inl (cI, 4, .inl L)), (bT, .inl (cI, 4, .inl T)), (bU, .inl (cI, 6, .inl U))] := hD
  refine lv_iload_n hx hb dX2_would_5 rfl (lv_at hl 1 rfl) ?_
  refine lv_iconst (v := 0) hx hb dX2_would_6 (by decide) ?_
  refine lv_iconst (v := 5) hx hb dX2_would_7 (by decide) ?_
  have hPc := hP.sub (ws' := []) [] rfl
  have hDc := hD.sub (ws' := []) [] (by decide) rfl
  have hKc := hK.sub (tys' := []) [] rfl
  have hFc := va_free (wc := []) hD hS hA [] rfl
  refine va_calli (va_runS (As := [.int p9, .int 0, .int 5]) (rest := []) ⟨hx, hb, hml, hown, hts⟩ (c_X2_isIn l dC dI H_1.size p9 0 5) (va_cwS 3 hts gX2_would_X2_isIn rfl rfl rfl (by decide +kernel) ⟨Nat.le_of_ble_eq_true rfl, Nat.le_of_ble_eq_true rfl⟩) (pc_S hKc hPc hDc) rfl rfl hl.1 rfl (lv_room (Nat.le_of_ble_eq_true rfl)) dX2_would_8 ⟨Nat.le_of_ble_eq_true rfl, Nat.le_of_ble_eq_true rfl⟩) hS (fun q _ h => hFc q h) hFc (fun r_2 u t H_2 locs ht hvm hw hB hz1 hk1 hS => ?_)
  try dsimp only at hw hB
  have hw_2 := hw
  replace hw_2 := hw_2.symm
  subst hw_2
  obtain ⟨hP1, hD1⟩ := hB
  rw [ht] at hP1
  obtain ⟨hP, hD⟩ := va_join (wr := [(mo, .inr (2, [.int 0, .ref bL, .ref bT, .int (nI n), .ref bK, .ref bF, .ref bS, .ref bB, .int co, .int pl, .int st, .int jo, .int cn, .int ii, .int fi, .int fe, .ref bU])), (bK, .inl (cI, 60, .inl K)), (bF, .inl (cI, 60, .inl F)), (bS, .inl (cI, 60, .inl S)), (bB, .inl (cZ, 60, .inl B)), (bL, .inl (cI, 4, .inl L)), (bT, .inl (cI, 4, .inl T)), (bU, .inl (cI, 6, .inl U))]) (w1 := []) hP hD [] [0, 1, 2, 3, 4, 5, 6, 7] rfl rfl (by decide) (by decide) hk1 hFc hP1 hD1
  have hP : va_P (dC, dI) vwCl [(mo, .inr (2, [.int 0, .ref bL, .ref bT, .int (nI n), .ref bK, .ref bF, .ref bS, .ref bB, .int co, .int pl, .int st, .int jo, .int cn, .int ii, .int fi, .int fe, .ref bU])), (bK, .inl (cI, 60, .inl K)), (bF, .inl (cI, 60, .inl F)), (bS, .inl (cI, 60, .inl S)), (bB, .inl (cZ, 60, .inl B)), (bL, .inl (cI, 4, .inl L)), (bT, .inl (cI, 4, .inl T)), (bU, .inl (cI, 6, .inl U))] H_2 := hP
  have hD : va_D A [(mo, .inr (2, [.int 0, .ref bL, .ref bT, .int (nI n), .ref bK, .ref bF, .ref bS, .ref bB, .int co, .int pl, .int st, .int jo, .int cn, .int ii, .int fi, .int fe, .ref bU])), (bK, .inl (cI, 60, .inl K)), (bF, .inl (cI, 60, .inl F)), (bS, .inl (cI, 60, .inl S)), (bB, .inl (cZ, 60, .inl B)), (bL, .inl (cI, 4, .inl L)), (bT, .inl (cI, 4, .inl T)), (bU, .inl (cI, 6, .inl U))] := hD
  refine lv_if_ne (tgt := 20) hx hb dX2_would_11 (by decide) (fun _ => ?_) (fun h9 => absurd h9 (by rw [mIn_ok h0 h1]; exact one_ne))
  refine lv_iload_n hx hb dX2_would_20 rfl (lv_at hl 2 rfl) ?_
  refine lv_iconst (v := 0) hx hb dX2_would_21 (by decide) ?_
  refine lv_bipush (v := 20) hx hb dX2_would_22 (by decide) ?_
  have hPc := hP.sub (ws' := []) [] rfl
  have hDc := hD.sub (ws' := []) [] (by decide) rfl
  have hKc := hK.sub (tys' := []) [] rfl
  have hFc := va_free (wc := []) hD hS hA [] rfl
  refine va_calli (va_runS (As := [.int th, .int 0, .int 20]) (rest := []) ⟨hx, hb, hml, hown, hts⟩ (c_X2_isIn l dC dI H_2.size th 0 20) (va_cwS 3 hts gX2_would_X2_isIn rfl rfl rfl (by decide +kernel) ⟨Nat.le_of_ble_eq_true rfl, Nat.le_of_ble_eq_true rfl⟩) (pc_S hKc hPc hDc) rfl rfl hl.1 rfl (lv_room (Nat.le_of_ble_eq_true rfl)) dX2_would_24 ⟨Nat.le_of_ble_eq_true rfl, Nat.le_of_ble_eq_true rfl⟩) hS (fun q _ h => hFc q h) hFc (fun r_3 u t H_3 locs ht hvm hw hB hz1 hk1 hS => ?_)
  try dsimp only at hw hB
  have hw_3 := hw
  replace hw_3 := hw_3.symm
  subst hw_3
  obtain ⟨hP1, hD1⟩ := hB
  rw [ht] at hP1
  obtain ⟨hP, hD⟩ := va_join (wr := [(mo, .inr (2, [.int 0, .ref bL, .ref bT, .int (nI n), .ref bK, .ref bF, .ref bS, .ref bB, .int co, .int pl, .int st, .int jo, .int cn, .int ii, .int fi, .int fe, .ref bU])), (bK, .inl (cI, 60, .inl K)), (bF, .inl (cI, 60, .inl F)), (bS, .inl (cI, 60, .inl S)), (bB, .inl (cZ, 60, .inl B)), (bL, .inl (cI, 4, .inl L)), (bT, .inl (cI, 4, .inl T)), (bU, .inl (cI, 6, .inl U))]) (w1 := []) hP hD [] [0, 1, 2, 3, 4, 5, 6, 7] rfl rfl (by decide) (by decide) hk1 hFc hP1 hD1
  have hP : va_P (dC, dI) vwCl [(mo, .inr (2, [.int 0, .ref bL, .ref bT, .int (nI n), .ref bK, .ref bF, .ref bS, .ref bB, .int co, .int pl, .int st, .int jo, .int cn, .int ii, .int fi, .int fe, .ref bU])), (bK, .inl (cI, 60, .inl K)), (bF, .inl (cI, 60, .inl F)), (bS, .inl (cI, 60, .inl S)), (bB, .inl (cZ, 60, .inl B)), (bL, .inl (cI, 4, .inl L)), (bT, .inl (cI, 4, .inl T)), (bU, .inl (cI, 6, .inl U))] H_3 := hP
  have hD : va_D A [(mo, .inr (2, [.int 0, .ref bL, .ref bT, .int (nI n), .ref bK, .ref bF, .ref bS, .ref bB, .int co, .int pl, .int st, .int jo, .int cn, .int ii, .int fi, .int fe, .ref bU])), (bK, .inl (cI, 60, .inl K)), (bF, .inl (cI, 60, .inl F)), (bS, .inl (cI, 60, .inl S)), (bB, .inl (cZ, 60, .inl B)), (bL, .inl (cI, 4, .inl L)), (bT, .inl (cI, 4, .inl T)), (bU, .inl (cI, 6, .inl U))] := hD
  refine lv_if_ne (tgt := 36) hx hb dX2_would_27 (by decide) (fun h9 => absurd (mIn_bad hb0) h9) (fun _ => ?_)
  refine lv_aload_n hx hb dX2_would_30 rfl (lv_at hl 0 rfl) ?_
  refine lv_iconst (v := 2) hx hb dX2_would_31 (by decide) ?_
  have hPc := hP.sub (ws' := [(mo, .inr (2, [.int 0, .ref bL, .ref bT, .int (nI n), .ref bK, .ref bF, .ref bS, .ref bB, .int co, .int pl, .int st, .int jo, .int cn, .int ii, .int fi, .int fe, .ref bU])), (bK, .inl (cI, 60, .inl K)), (bF, .inl (cI, 60, .inl F)), (bS, .inl (cI, 60, .inl S)), (bB, .inl (cZ, 60, .inl B)), (bL, .inl (cI, 4, .inl L)), (bT, .inl (cI, 4, .inl T)), (bU, .inl (cI, 6, .inl U))]) [0, 1, 2, 3, 4, 5, 6, 7] rfl
  have hDc := hD.sub (ws' := [(mo, .inr (2, [.int 0, .ref bL, .ref bT, .int (nI n), .ref bK, .ref bF, .ref bS, .ref bB, .int co, .int pl, .int st, .int jo, .int cn, .int ii, .int fi, .int fe, .ref bU])), (bK, .inl (cI, 60, .inl K)), (bF, .inl (cI, 60, .inl F)), (bS, .inl (cI, 60, .inl S)), (bB, .inl (cZ, 60, .inl B)), (bL, .inl (cI, 4, .inl L)), (bT, .inl (cI, 4, .inl T)), (bU, .inl (cI, 6, .inl U))]) [0, 1, 2, 3, 4, 5, 6, 7] (by decide) rfl
  have hKc := hK.sub (tys' := [(cI, .int), (cZ, .boolean)]) [0, 1] rfl
  have hFc := va_free (wc := [(mo, .inr (2, [.int 0, .ref bL, .ref bT, .int (nI n), .ref bK, .ref bF, .ref bS, .ref bB, .int co, .int pl, .int st, .int jo, .int cn, .int ii, .int fi, .int fe, .ref bU])), (bK, .inl (cI, 60, .inl K)), (bF, .inl (cI, 60, .inl F)), (bS, .inl (cI, 60, .inl S)), (bB, .inl (cZ, 60, .inl B)), (bL, .inl (cI, 4, .inl L)), (bT, .inl (cI, 4, .inl T)), (bU, .inl (cI, 6, .inl U))]) hD hS hA [0, 1, 2, 3, 4, 5, 6, 7] rfl
  refine va_calli (va_runV (As := [.int 2]) (rest := []) ⟨hx, hb, hml, hown, hts⟩ (c_X2_fail l dC dI cI cZ mo bK bF bS bB bL bT bU H_3.size L T K F S B U n 0 co pl st jo cn ii fi fe 2) (cwV 1 hts gX2_would_X2_fail rfl rfl rfl (by decide +kernel) ⟨Nat.le_of_ble_eq_true rfl, Nat.le_of_ble_eq_true rfl⟩) (pc_V hKc hPc hDc (ci := 2) (C := RX2) (T := TX2) (N := 17) (q0 := 0) rfl rfl) rfl rfl hl.1 rfl (lv_room (Nat.le_of_ble_eq_true rfl)) dX2_would_32 ⟨Nat.le_of_ble_eq_true rfl, Nat.le_of_ble_eq_true rfl⟩) hS (fun q _ h => hFc q h) hFc (fun r_4 u t H_4 locs ht hvm hw hB hz1 hk1 hS => ?_)
  try dsimp only at hw hB
  have hw_4 := hw
  replace hw_4 := hw_4.symm
  subst hw_4
  obtain ⟨hP1, hD1⟩ := hB
  rw [ht] at hP1
  obtain ⟨hP, hD⟩ := va_join (wr := []) (w1 := [(mo, .inr (2, [.int 2, .ref bL, .ref bT, .int (nI n), .ref bK, .ref bF, .ref bS, .ref bB, .int co, .int pl, .int st, .int jo, .int cn, .int ii, .int fi, .int fe, .ref bU])), (bK, .inl (cI, 60, .inl K)), (bF, .inl (cI, 60, .inl F)), (bS, .inl (cI, 60, .inl S)), (bB, .inl (cZ, 60, .inl B)), (bL, .inl (cI, 4, .inl L)), (bT, .inl (cI, 4, .inl T)), (bU, .inl (cI, 6, .inl U))]) hP hD [0, 1, 2, 3, 4, 5, 6, 7] [] rfl rfl (by decide) (by decide) hk1 hFc hP1 hD1
  have hP : va_P (dC, dI) vwCl [(mo, .inr (2, [.int 2, .ref bL, .ref bT, .int (nI n), .ref bK, .ref bF, .ref bS, .ref bB, .int co, .int pl, .int st, .int jo, .int cn, .int ii, .int fi, .int fe, .ref bU])), (bK, .inl (cI, 60, .inl K)), (bF, .inl (cI, 60, .inl F)), (bS, .inl (cI, 60, .inl S)), (bB, .inl (cZ, 60, .inl B)), (bL, .inl (cI, 4, .inl L)), (bT, .inl (cI, 4, .inl T)), (bU, .inl (cI, 6, .inl U))] H_4 := hP
  have hD : va_D A [(mo, .inr (2, [.int 2, .ref bL, .ref bT, .int (nI n), .ref bK, .ref bF, .ref bS, .ref bB, .int co, .int pl, .int st, .int jo, .int cn, .int ii, .int fi, .int fe, .ref bU])), (bK, .inl (cI, 60, .inl K)), (bF, .inl (cI, 60, .inl F)), (bS, .inl (cI, 60, .inl S)), (bB, .inl (cZ, 60, .inl B)), (bL, .inl (cI, 4, .inl L)), (bT, .inl (cI, 4, .inl T)), (bU, .inl (cI, 6, .inl U))] := hD
  have hpost : (0 : Int32) = 0 := by
    rfl
  have hP9 := hP.sub (ws' := [(mo, .inr (2, [.int 2, .ref bL, .ref bT, .int (nI n), .ref bK, .ref bF, .ref bS, .ref bB, .int co, .int pl, .int st, .int jo, .int cn, .int ii, .int fi, .int fe, .ref bU])), (bK, .inl (cI, 60, .inl K)), (bF, .inl (cI, 60, .inl F)), (bS, .inl (cI, 60, .inl S)), (bB, .inl (cZ, 60, .inl B)), (bL, .inl (cI, 4, .inl L)), (bT, .inl (cI, 4, .inl T)), (bU, .inl (cI, 6, .inl U))]) [0, 1, 2, 3, 4, 5, 6, 7] rfl
  have hD9 := hD.sub (ws' := [(mo, .inr (2, [.int 2, .ref bL, .ref bT, .int (nI n), .ref bK, .ref bF, .ref bS, .ref bB, .int co, .int pl, .int st, .int jo, .int cn, .int ii, .int fi, .int fe, .ref bU])), (bK, .inl (cI, 60, .inl K)), (bF, .inl (cI, 60, .inl F)), (bS, .inl (cI, 60, .inl S)), (bB, .inl (cZ, 60, .inl B)), (bL, .inl (cI, 4, .inl L)), (bT, .inl (cI, 4, .inl T)), (bU, .inl (cI, 6, .inl U))]) [0, 1, 2, 3, 4, 5, 6, 7] (by decide) rfl
  exact W.iret (v := 0) hx hb hr (fun t ht hW => ⟨⟨0, (), rfl, hpost, by rw [ht]; exact hP9, hD9⟩, hS.F ht⟩) hS.2.2 dX2_would_35

set_option maxHeartbeats 4000000 in
set_option maxRecDepth 100000 in
theorem c_X2_mean (l : Launch) (dC : Nat → ClassId) (dI : Nat → Nat → Nat) (cI cZ : ClassId) (mo bK bF bS bB bL bT bU : Nat) (sz : Nat) (L : N2I) (T : N2I) (K : N2I) (F : N2I) (S : N2I) (B : N2I) (U : N2I) (n : Nat) (tw : Int32) (co : Int32) (pl : Int32) (st : Int32) (jo : Int32) (cn : Int32) (ii : Int32) (fi : Int32) (fe : Int32) (hX : okX K F S B n) : Met l yX2_mean wsX2_mean ({ frames := 5, cells := 0, slots := 0, locals := 106 } : Room) (va_Pc [.ref mo] (pc_ (dC, dI) [(cI, .int), (cZ, .boolean)] [(mo, .inr (2, [.int tw, .ref bL, .ref bT, .int (nI n), .ref bK, .ref bF, .ref bS, .ref bB, .int co, .int pl, .int st, .int jo, .int cn, .int ii, .int fi, .int fe, .ref bU])), (bK, .inl (cI, 60, .inl K)), (bF, .inl (cI, 60, .inl F)), (bS, .inl (cI, 60, .inl S)), (bB, .inl (cZ, 60, .inl B)), (bL, .inl (cI, 4, .inl L)), (bT, .inl (cI, 4, .inl T)), (bU, .inl (cI, 6, .inl U))] sz)) (va_Qd (fun (r : UInt64) (u : Int32 × Int32 × Int32 × Int32 × Int32 × Int32 × Int32 × Int32 × N2I) => r = aMean (cRec L T K F S B n)) (fun (u : Int32 × Int32 × Int32 × Int32 × Int32 × Int32 × Int32 × Int32 × N2I) (t : State) => va_P (dC, dI) vwCl [(mo, .inr (2, [.int 0, .ref bL, .ref bT, .int (nI n), .ref bK, .ref bF, .ref bS, .ref bB, .int u.1, .int u.2.1, .int u.2.2.1, .int u.2.2.2.1, .int u.2.2.2.2.1, .int u.2.2.2.2.2.1, .int u.2.2.2.2.2.2.1, .int u.2.2.2.2.2.2.2.1, .ref bU])), (bK, .inl (cI, 60, .inl K)), (bF, .inl (cI, 60, .inl F)), (bS, .inl (cI, 60, .inl S)), (bB, .inl (cZ, 60, .inl B)), (bL, .inl (cI, 4, .inl L)), (bT, .inl (cI, 4, .inl T)), (bU, .inl (cI, 6, .inl u.2.2.2.2.2.2.2.2))] t.heap ∧ va_D (va_A [(mo, .inr (2, [.int tw, .ref bL, .ref bT, .int (nI n), .ref bK, .ref bF, .ref bS, .ref bB, .int co, .int pl, .int st, .int jo, .int cn, .int ii, .int fi, .int fe, .ref bU])), (bK, .inl (cI, 60, .inl K)), (bF, .inl (cI, 60, .inl F)), (bS, .inl (cI, 60, .inl S)), (bB, .inl (cZ, 60, .inl B)), (bL, .inl (cI, 4, .inl L)), (bT, .inl (cI, 4, .inl T)), (bU, .inl (cI, 6, .inl U))] sz) [(mo, .inr (2, [.int 0, .ref bL, .ref bT, .int (nI n), .ref bK, .ref bF, .ref bS, .ref bB, .int u.1, .int u.2.1, .int u.2.2.1, .int u.2.2.2.1, .int u.2.2.2.2.1, .int u.2.2.2.2.2.1, .int u.2.2.2.2.2.2.1, .int u.2.2.2.2.2.2.2.1, .ref bU])), (bK, .inl (cI, 60, .inl K)), (bF, .inl (cI, 60, .inl F)), (bS, .inl (cI, 60, .inl S)), (bB, .inl (cZ, 60, .inl B)), (bL, .inl (cI, 4, .inl L)), (bT, .inl (cI, 4, .inl T)), (bU, .inl (cI, 6, .inl u.2.2.2.2.2.2.2.2))]) (va_A [(mo, .inr (2, [.int tw, .ref bL, .ref bT, .int (nI n), .ref bK, .ref bF, .ref bS, .ref bB, .int co, .int pl, .int st, .int jo, .int cn, .int ii, .int fi, .int fe, .ref bU])), (bK, .inl (cI, 60, .inl K)), (bF, .inl (cI, 60, .inl F)), (bS, .inl (cI, 60, .inl S)), (bB, .inl (cZ, 60, .inl B)), (bL, .inl (cI, 4, .inl L)), (bT, .inl (cI, 4, .inl T)), (bU, .inl (cI, 6, .inl U))] sz)) 0 0 (va_A [(mo, .inr (2, [.int tw, .ref bL, .ref bT, .int (nI n), .ref bK, .ref bF, .ref bS, .ref bB, .int co, .int pl, .int st, .int jo, .int cn, .int ii, .int fi, .int fe, .ref bU])), (bK, .inl (cI, 60, .inl K)), (bF, .inl (cI, 60, .inl F)), (bS, .inl (cI, 60, .inl S)), (bB, .inl (cZ, 60, .inl B)), (bL, .inl (cI, 4, .inl L)), (bT, .inl (cI, 4, .inl T)), (bU, .inl (cI, 6, .inl U))] sz) := by
  refine Met.ofW (cc := cX2_mean) (maxL := 1) (ret := (some .double)) (by decide) rfl ?_
  intro p e s m args below meth c s₁ BB hml hv
  obtain ⟨rfl, hsz, hP, hK, hD0⟩ := hv
  have hx := BB.exec
  have hb := BB.bytes
  have hr := BB.returns
  have hts := atoms_spec (ws := wsX2_mean) BB.pre
  have hown : s.vm.findClass RX2 = some m.cls := findClass_of_methodNamed BB.named
  have hlocks := BB.notSynchronized
  subst hsz
  have hD := hD0.self (sz := s.heap.size)
  generalize hAe : va_A [(mo, .inr (2, [.int tw, .ref bL, .ref bT, .int (nI n), .ref bK, .ref bF, .ref bS, .ref bB, .int co, .int pl, .int st, .int jo, .int cn, .int ii, .int fi, .int fe, .ref bU])), (bK, .inl (cI, 60, .inl K)), (bF, .inl (cI, 60, .inl F)), (bS, .inl (cI, 60, .inl S)), (bB, .inl (cZ, 60, .inl B)), (bL, .inl (cI, 4, .inl L)), (bT, .inl (cI, 4, .inl T)), (bU, .inl (cI, 6, .inl U))] s.heap.size = A at hD ⊢
  have hA : ∀ q : Nat, s.heap.size ≤ q → A q := fun q h => by rw [← hAe]; exact Or.inr h
  have hS : va_S A s.heap s.heap [] := va_S.rf
  have hP : va_P (dC, dI) vwCl [(mo, .inr (2, [.int tw, .ref bL, .ref bT, .int (nI n), .ref bK, .ref bF, .ref bS, .ref bB, .int co, .int pl, .int st, .int jo, .int cn, .int ii, .int fi, .int fe, .ref bU])), (bK, .inl (cI, 60, .inl K)), (bF, .inl (cI, 60, .inl F)), (bS, .inl (cI, 60, .inl S)), (bB, .inl (cZ, 60, .inl B)), (bL, .inl (cI, 4, .inl L)), (bT, .inl (cI, 4, .inl T)), (bU, .inl (cI, 6, .inl U))] s.heap := hP
  have hl := lv_entry ([.ref mo]) (n := 1) (Nat.le_of_ble_eq_true rfl)
  rw [lg_entry_eq]
  generalize (lg_sl ([.ref mo]) ++ List.replicate (1 - (lg_sl ([.ref mo])).length) Slot.unset).toArray = ls at hl ⊢
  have hl : lv_has ls 1 [(0, .ref mo)] := hl
  have k0 := hts (.fieldLink RX2 32 "KnifeLedgerModel" "thrown" "I") (by decide +kernel)
  have hinX2 : ∀ w ∈ wsX20, w ∈ wsX2_mean := by decide +kernel
  have k2 := hts (.fieldLink RX2 36 "KnifeLedgerModel" "entries" "I") (by decide +kernel)
  have k3 := hts (.fieldLink RX2 60 "KnifeLedgerModel" "joined" "I") (by decide +kernel)
  have hn6 : n ≤ 60 := hX.1
  refine lv_aload_n hx hb dX2_mean_0 rfl (lv_at hl 0 rfl) ?_
  refine lv_iconst (v := 0) hx hb dX2_mean_1 (by decide) ?_
  refine va_put (D := (dC, dI)) (ci := 2) (v := .int 0) (ty := .int) (C := RX2) (T := TX2) (N := 17) hx hb hts hinX2 tyX2 tyX2_ok nmX2 hown hK hP hD hS 0 rfl rfl 0 (by decide) k0 (fun _ h9 => h9) rfl (by decide +kernel) rfl rfl (Nat.le_of_ble_eq_true rfl) dX2_mean_2 (fun H_1 locs hP hD hS => ?_)
  have hP : va_P (dC, dI) vwCl [(mo, .inr (2, [.int 0, .ref bL, .ref bT, .int (nI n), .ref bK, .ref bF, .ref bS, .ref bB, .int co, .int pl, .int st, .int jo, .int cn, .int ii, .int fi, .int fe, .ref bU])), (bK, .inl (cI, 60, .inl K)), (bF, .inl (cI, 60, .inl F)), (bS, .inl (cI, 60, .inl S)), (bB, .inl (cZ, 60, .inl B)), (bL, .inl (cI, 4, .inl L)), (bT, .inl (cI, 4, .inl T)), (bU, .inl (cI, 6, .inl U))] H_1 := hP
  have hD : va_D A [(mo, .inr (2, [.int 0, .ref bL, .ref bT, .int (nI n), .ref bK, .ref bF, .ref bS, .ref bB, .int co, .int pl, .int st, .int jo, .int cn, .int ii, .int fi, .int fe, .ref bU])), (bK, .inl (cI, 60, .inl K)), (bF, .inl (cI, 60, .inl F)), (bS, .inl (cI, 60, .inl S)), (bB, .inl (cZ, 60, .inl B)), (bL, .inl (cI, 4, .inl L)), (bT, .inl (cI, 4, .inl T)), (bU, .inl (cI, 6, .inl U))] := hD
  refine lv_aload_n hx hb dX2_mean_5 rfl (lv_at hl 0 rfl) ?_
  refine lv_aload_n hx hb dX2_mean_6 rfl (lv_at hl 0 rfl) ?_
  refine va_get (D := (dC, dI)) (ci := 2) (v := .int (nI n)) (C := RX2) (T := TX2) (N := 17) hx hb hts hinX2 hown hK hP 0 rfl rfl 3 (by decide) k2 (fun _ h9 => h9) rfl dX2_mean_7 ?_
  have hPc := hP.sub (ws' := [(mo, .inr (2, [.int 0, .ref bL, .ref bT, .int (nI n), .ref bK, .ref bF, .ref bS, .ref bB, .int co, .int pl, .int st, .int jo, .int cn, .int ii, .int fi, .int fe, .ref bU])), (bK, .inl (cI, 60, .inl K)), (bF, .inl (cI, 60, .inl F)), (bS, .inl (cI, 60, .inl S)), (bB, .inl (cZ, 60, .inl B)), (bL, .inl (cI, 4, .inl L)), (bT, .inl (cI, 4, .inl T)), (bU, .inl (cI, 6, .inl U))]) [0, 1, 2, 3, 4, 5, 6, 7] rfl
  have hDc := hD.sub (ws' := [(mo, .inr (2, [.int 0, .ref bL, .ref bT, .int (nI n), .ref bK, .ref bF, .ref bS, .ref bB, .int co, .int pl, .int st, .int jo, .int cn, .int ii, .int fi, .int fe, .ref bU])), (bK, .inl (cI, 60, .inl K)), (bF, .inl (cI, 60, .inl F)), (bS, .inl (cI, 60, .inl S)), (bB, .inl (cZ, 60, .inl B)), (bL, .inl (cI, 4, .inl L)), (bT, .inl (cI, 4, .inl T)), (bU, .inl (cI, 6, .inl U))]) [0, 1, 2, 3, 4, 5, 6, 7] (by decide) rfl
  have hKc := hK.sub (tys' := [(cI, .int), (cZ, .boolean)]) [0, 1] rfl
  have hFc := va_free (wc := [(mo, .inr (2, [.int 0, .ref bL, .ref bT, .int (nI n), .ref bK, .ref bF, .ref bS, .ref bB, .int co, .int pl, .int st, .int jo, .int cn, .int ii, .int fi, .int fe, .ref bU])), (bK, .inl (cI, 60, .inl K)), (bF, .inl (cI, 60, .inl F)), (bS, .inl (cI, 60, .inl S)), (bB, .inl (cZ, 60, .inl B)), (bL, .inl (cI, 4, .inl L)), (bT, .inl (cI, 4, .inl T)), (bU, .inl (cI, 6, .inl U))]) hD hS hA [0, 1, 2, 3, 4, 5, 6, 7] rfl
  refine va_calli (va_runV (As := [.int (nI n)]) (rest := []) ⟨hx, hb, hml, hown, hts⟩ (c_X2_reckon l dC dI cI cZ mo bK bF bS bB bL bT bU H_1.size L T K F S B U n 0 co pl st jo cn ii fi fe n (hX) (Nat.le_refl n)) (cwV 1 hts gX2_mean_X2_reckon rfl rfl rfl (by decide +kernel) ⟨Nat.le_of_ble_eq_true rfl, Nat.le_of_ble_eq_true rfl⟩) (pc_V hKc hPc hDc (ci := 2) (C := RX2) (T := TX2) (N := 17) (q0 := 0) rfl rfl) rfl rfl hl.1 rfl (lv_room (Nat.le_of_ble_eq_true rfl)) dX2_mean_10 ⟨Nat.le_of_ble_eq_true rfl, Nat.le_of_ble_eq_true rfl⟩) hS (fun q _ h => hFc q h) hFc (fun r_2 u t H_2 locs ht hvm hw hB hz1 hk1 hS => ?_)
  obtain ⟨co1_2, pl1_2, st1_2, jo1_2, cn1_2, ii1_2, fi1_2, fe1_2, U1_2⟩ := u
  try dsimp only at hw hB
  have hw_2 := hw
  obtain ⟨hw0_2, hw1_2⟩ := hw_2
  replace hw1_2 := hw1_2.symm
  subst hw1_2
  obtain ⟨hP1, hD1⟩ := hB
  rw [ht] at hP1
  obtain ⟨hP, hD⟩ := va_join (wr := []) (w1 := [(mo, .inr (2, [.int 0, .ref bL, .ref bT, .int (nI n), .ref bK, .ref bF, .ref bS, .ref bB, .int co1_2, .int pl1_2, .int st1_2, .int jo1_2, .int cn1_2, .int ii1_2, .int fi1_2, .int fe1_2, .ref bU])), (bK, .inl (cI, 60, .inl K)), (bF, .inl (cI, 60, .inl F)), (bS, .inl (cI, 60, .inl S)), (bB, .inl (cZ, 60, .inl B)), (bL, .inl (cI, 4, .inl L)), (bT, .inl (cI, 4, .inl T)), (bU, .inl (cI, 6, .inl U1_2))]) hP hD [0, 1, 2, 3, 4, 5, 6, 7] [] rfl rfl (by decide) (by decide) hk1 hFc hP1 hD1
  have hP : va_P (dC, dI) vwCl [(mo, .inr (2, [.int 0, .ref bL, .ref bT, .int (nI n), .ref bK, .ref bF, .ref bS, .ref bB, .int co1_2, .int pl1_2, .int st1_2, .int jo1_2, .int cn1_2, .int ii1_2, .int fi1_2, .int fe1_2, .ref bU])), (bK, .inl (cI, 60, .inl K)), (bF, .inl (cI, 60, .inl F)), (bS, .inl (cI, 60, .inl S)), (bB, .inl (cZ, 60, .inl B)), (bL, .inl (cI, 4, .inl L)), (bT, .inl (cI, 4, .inl T)), (bU, .inl (cI, 6, .inl U1_2))] H_2 := hP
  have hD : va_D A [(mo, .inr (2, [.int 0, .ref bL, .ref bT, .int (nI n), .ref bK, .ref bF, .ref bS, .ref bB, .int co1_2, .int pl1_2, .int st1_2, .int jo1_2, .int cn1_2, .int ii1_2, .int fi1_2, .int fe1_2, .ref bU])), (bK, .inl (cI, 60, .inl K)), (bF, .inl (cI, 60, .inl F)), (bS, .inl (cI, 60, .inl S)), (bB, .inl (cZ, 60, .inl B)), (bL, .inl (cI, 4, .inl L)), (bT, .inl (cI, 4, .inl T)), (bU, .inl (cI, 6, .inl U1_2))] := hD
  refine lv_pop hx hb dX2_mean_13 rfl ?_
  refine lv_aload_n hx hb dX2_mean_14 rfl (lv_at hl 0 rfl) ?_
  refine va_get (D := (dC, dI)) (ci := 2) (v := .int jo1_2) (C := RX2) (T := TX2) (N := 17) hx hb hts hinX2 hown hK hP 0 rfl rfl 11 (by decide) k3 (fun _ h9 => h9) rfl dX2_mean_15 ?_
  refine lv_if_ne (tgt := 25) hx hb dX2_mean_18 (by decide) (fun c_18 => ?_) (fun c_18 => ?_)
  · -- 18
    obtain ⟨-, -, j9, hj9, hj96⟩ := okX_hap hX (Nat.le_refl n) hw0_2
    refine lv_aload_n hx hb dX2_mean_25 rfl (lv_at hl 0 rfl) ?_
    have hPc := hP.sub (ws' := [(mo, .inr (2, [.int 0, .ref bL, .ref bT, .int (nI n), .ref bK, .ref bF, .ref bS, .ref bB, .int co1_2, .int pl1_2, .int st1_2, .int jo1_2, .int cn1_2, .int ii1_2, .int fi1_2, .int fe1_2, .ref bU])), (bK, .inl (cI, 60, .inl K)), (bF, .inl (cI, 60, .inl F)), (bS, .inl (cI, 60, .inl S)), (bB, .inl (cZ, 60, .inl B)), (bL, .inl (cI, 4, .inl L)), (bT, .inl (cI, 4, .inl T)), (bU, .inl (cI, 6, .inl U1_2))]) [0, 1, 2, 3, 4, 5, 6, 7] rfl
    have hDc := hD.sub (ws' := [(mo, .inr (2, [.int 0, .ref bL, .ref bT, .int (nI n), .ref bK, .ref bF, .ref bS, .ref bB, .int co1_2, .int pl1_2, .int st1_2, .int jo1_2, .int cn1_2, .int ii1_2, .int fi1_2, .int fe1_2, .ref bU])), (bK, .inl (cI, 60, .inl K)), (bF, .inl (cI, 60, .inl F)), (bS, .inl (cI, 60, .inl S)), (bB, .inl (cZ, 60, .inl B)), (bL, .inl (cI, 4, .inl L)), (bT, .inl (cI, 4, .inl T)), (bU, .inl (cI, 6, .inl U1_2))]) [0, 1, 2, 3, 4, 5, 6, 7] (by decide) rfl
    have hKc := hK.sub (tys' := [(cI, .int), (cZ, .boolean)]) [0, 1] rfl
    have hFc := va_free (wc := [(mo, .inr (2, [.int 0, .ref bL, .ref bT, .int (nI n), .ref bK, .ref bF, .ref bS, .ref bB, .int co1_2, .int pl1_2, .int st1_2, .int jo1_2, .int cn1_2, .int ii1_2, .int fi1_2, .int fe1_2, .ref bU])), (bK, .inl (cI, 60, .inl K)), (bF, .inl (cI, 60, .inl F)), (bS, .inl (cI, 60, .inl S)), (bB, .inl (cZ, 60, .inl B)), (bL, .inl (cI, 4, .inl L)), (bT, .inl (cI, 4, .inl T)), (bU, .inl (cI, 6, .inl U1_2))]) hD hS hA [0, 1, 2, 3, 4, 5, 6, 7] rfl
    refine va_calli (va_runV (As := []) (rest := []) ⟨hx, hb, hml, hown, hts⟩ (c_X2_trustAll l dC dI cI cZ mo bK bF bS bB bL bT bU H_2.size L T K F S B U1_2 n 0 co1_2 pl1_2 st1_2 jo1_2 cn1_2 ii1_2 fi1_2 fe1_2 j9 (hj9) (hj96)) (cwV 0 hts gX2_mean_X2_trustAll rfl rfl rfl (by decide +kernel) ⟨Nat.le_of_ble_eq_true rfl, Nat.le_of_ble_eq_true rfl⟩) (pc_V hKc hPc hDc (ci := 2) (C := RX2) (T := TX2) (N := 17) (q0 := 0) rfl rfl) rfl rfl hl.1 rfl (lv_room (Nat.le_of_ble_eq_true rfl)) dX2_mean_26 ⟨Nat.le_of_ble_eq_true rfl, Nat.le_of_ble_eq_true rfl⟩) hS (fun q _ h => hFc q h) hFc (fun r_3 u t H_3 locs ht hvm hw hB hz1 hk1 hS => ?_)
    try dsimp only at hw hB
    have hw_3 := hw
    replace hw_3 := hw_3.symm
    subst hw_3
    obtain ⟨hP1, hD1⟩ := hB
    rw [ht] at hP1
    obtain ⟨hP, hD⟩ := va_join (wr := []) (w1 := [(mo, .inr (2, [.int 0, .ref bL, .ref bT, .int (nI n), .ref bK, .ref bF, .ref bS, .ref bB, .int co1_2, .int pl1_2, .int st1_2, .int jo1_2, .int cn1_2, .int ii1_2, .int fi1_2, .int fe1_2, .ref bU])), (bK, .inl (cI, 60, .inl K)), (bF, .inl (cI, 60, .inl F)), (bS, .inl (cI, 60, .inl S)), (bB, .inl (cZ, 60, .inl B)), (bL, .inl (cI, 4, .inl L)), (bT, .inl (cI, 4, .inl T)), (bU, .inl (cI, 6, .inl U1_2))]) hP hD [0, 1, 2, 3, 4, 5, 6, 7] [] rfl rfl (by decide) (by decide) hk1 hFc hP1 hD1
    have hP : va_P (dC, dI) vwCl [(mo, .inr (2, [.int 0, .ref bL, .ref bT, .int (nI n), .ref bK, .ref bF, .ref bS, .ref bB, .int co1_2, .int pl1_2, .int st1_2, .int jo1_2, .int cn1_2, .int ii1_2, .int fi1_2, .int fe1_2, .ref bU])), (bK, .inl (cI, 60, .inl K)), (bF, .inl (cI, 60, .inl F)), (bS, .inl (cI, 60, .inl S)), (bB, .inl (cZ, 60, .inl B)), (bL, .inl (cI, 4, .inl L)), (bT, .inl (cI, 4, .inl T)), (bU, .inl (cI, 6, .inl U1_2))] H_3 := hP
    have hD : va_D A [(mo, .inr (2, [.int 0, .ref bL, .ref bT, .int (nI n), .ref bK, .ref bF, .ref bS, .ref bB, .int co1_2, .int pl1_2, .int st1_2, .int jo1_2, .int cn1_2, .int ii1_2, .int fi1_2, .int fe1_2, .ref bU])), (bK, .inl (cI, 60, .inl K)), (bF, .inl (cI, 60, .inl F)), (bS, .inl (cI, 60, .inl S)), (bB, .inl (cZ, 60, .inl B)), (bL, .inl (cI, 4, .inl L)), (bT, .inl (cI, 4, .inl T)), (bU, .inl (cI, 6, .inl U1_2))] := hD
    refine lv_i2d hx hb dX2_mean_29 ?_
    refine lv_aload_n hx hb dX2_mean_30 rfl (lv_at hl 0 rfl) ?_
    refine va_get (D := (dC, dI)) (ci := 2) (v := .int jo1_2) (C := RX2) (T := TX2) (N := 17) hx hb hts hinX2 hown hK hP 0 rfl rfl 11 (by decide) k3 (fun _ h9 => h9) rfl dX2_mean_31 ?_
    refine lv_i2d hx hb dX2_mean_34 ?_
    refine lv_ddiv hx hb dX2_mean_35 (mean_n64 _ _ c_18) ?_
    have hpost : (FP.ddiv (FP.i2d (mSum U1_2 j9)) (FP.i2d jo1_2)) = aMean (cRec L T K F S B n) := by
      rw [← ans_of aMean_sim hX (Nat.le_refl n) hw0_2]
      simp only [aMean, if_neg c_18]
      rw [hj9, nI_clamp (by omega)]
    have hP9 := hP.sub (ws' := [(mo, .inr (2, [.int 0, .ref bL, .ref bT, .int (nI n), .ref bK, .ref bF, .ref bS, .ref bB, .int co1_2, .int pl1_2, .int st1_2, .int jo1_2, .int cn1_2, .int ii1_2, .int fi1_2, .int fe1_2, .ref bU])), (bK, .inl (cI, 60, .inl K)), (bF, .inl (cI, 60, .inl F)), (bS, .inl (cI, 60, .inl S)), (bB, .inl (cZ, 60, .inl B)), (bL, .inl (cI, 4, .inl L)), (bT, .inl (cI, 4, .inl T)), (bU, .inl (cI, 6, .inl U1_2))]) [0, 1, 2, 3, 4, 5, 6, 7] rfl
    have hD9 := hD.sub (ws' := [(mo, .inr (2, [.int 0, .ref bL, .ref bT, .int (nI n), .ref bK, .ref bF, .ref bS, .ref bB, .int co1_2, .int pl1_2, .int st1_2, .int jo1_2, .int cn1_2, .int ii1_2, .int fi1_2, .int fe1_2, .ref bU])), (bK, .inl (cI, 60, .inl K)), (bF, .inl (cI, 60, .inl F)), (bS, .inl (cI, 60, .inl S)), (bB, .inl (cZ, 60, .inl B)), (bL, .inl (cI, 4, .inl L)), (bT, .inl (cI, 4, .inl T)), (bU, .inl (cI, 6, .inl U1_2))]) [0, 1, 2, 3, 4, 5, 6, 7] (by decide) rfl
    exact W.dret (v := FP.ddiv (FP.i2d (mSum U1_2 j9)) (FP.i2d jo1_2)) hx hb hr (fun t ht hW => ⟨⟨(FP.ddiv (FP.i2d (mSum U1_2 j9)) (FP.i2d jo1_2)), (co1_2, pl1_2, st1_2, jo1_2, cn1_2, ii1_2, fi1_2, fe1_2, U1_2), rfl, hpost, by rw [ht]; exact hP9, hD9⟩, hS.F ht⟩) hS.2.2 dX2_mean_36
  · -- 18
    refine lv_dconst0 hx hb dX2_mean_21 ?_
    refine lv_goto (tgt := 36) hx hb dX2_mean_22 (by decide) ?_
    have hpost : FP.dconst0 = aMean (cRec L T K F S B n) := by
      rw [← ans_of aMean_sim hX (Nat.le_refl n) hw0_2]
      simp only [aMean, if_pos c_18]
    have hP9 := hP.sub (ws' := [(mo, .inr (2, [.int 0, .ref bL, .ref bT, .int (nI n), .ref bK, .ref bF, .ref bS, .ref bB, .int co1_2, .int pl1_2, .int st1_2, .int jo1_2, .int cn1_2, .int ii1_2, .int fi1_2, .int fe1_2, .ref bU])), (bK, .inl (cI, 60, .inl K)), (bF, .inl (cI, 60, .inl F)), (bS, .inl (cI, 60, .inl S)), (bB, .inl (cZ, 60, .inl B)), (bL, .inl (cI, 4, .inl L)), (bT, .inl (cI, 4, .inl T)), (bU, .inl (cI, 6, .inl U1_2))]) [0, 1, 2, 3, 4, 5, 6, 7] rfl
    have hD9 := hD.sub (ws' := [(mo, .inr (2, [.int 0, .ref bL, .ref bT, .int (nI n), .ref bK, .ref bF, .ref bS, .ref bB, .int co1_2, .int pl1_2, .int st1_2, .int jo1_2, .int cn1_2, .int ii1_2, .int fi1_2, .int fe1_2, .ref bU])), (bK, .inl (cI, 60, .inl K)), (bF, .inl (cI, 60, .inl F)), (bS, .inl (cI, 60, .inl S)), (bB, .inl (cZ, 60, .inl B)), (bL, .inl (cI, 4, .inl L)), (bT, .inl (cI, 4, .inl T)), (bU, .inl (cI, 6, .inl U1_2))]) [0, 1, 2, 3, 4, 5, 6, 7] (by decide) rfl
    exact W.dret (v := FP.dconst0) hx hb hr (fun t ht hW => ⟨⟨FP.dconst0, (co1_2, pl1_2, st1_2, jo1_2, cn1_2, ii1_2, fi1_2, fe1_2, U1_2), rfl, hpost, by rw [ht]; exact hP9, hD9⟩, hS.F ht⟩) hS.2.2 dX2_mean_36

set_option maxHeartbeats 4000000 in
set_option maxRecDepth 100000 in
theorem c_X2_counted (l : Launch) (dC : Nat → ClassId) (dI : Nat → Nat → Nat) (cI cZ : ClassId) (mo bK bF bS bB bL bT bU : Nat) (sz : Nat) (L : N2I) (T : N2I) (K : N2I) (F : N2I) (S : N2I) (B : N2I) (U : N2I) (n : Nat) (tw : Int32) (co : Int32) (pl : Int32) (st : Int32) (jo : Int32) (cn : Int32) (ii : Int32) (fi : Int32) (fe : Int32) (w : Int32) (hX : okX K F S B n) : Met l yX2_counted wsX2_counted ({ frames := 5, cells := 0, slots := 0, locals := 106 } : Room) (va_Pc [.ref mo, .int w] (pc_ (dC, dI) [(cI, .int), (cZ, .boolean)] [(mo, .inr (2, [.int tw, .ref bL, .ref bT, .int (nI n), .ref bK, .ref bF, .ref bS, .ref bB, .int co, .int pl, .int st, .int jo, .int cn, .int ii, .int fi, .int fe, .ref bU])), (bK, .inl (cI, 60, .inl K)), (bF, .inl (cI, 60, .inl F)), (bS, .inl (cI, 60, .inl S)), (bB, .inl (cZ, 60, .inl B)), (bL, .inl (cI, 4, .inl L)), (bT, .inl (cI, 4, .inl T)), (bU, .inl (cI, 6, .inl U))] sz)) (va_Qi (fun (r : Int32) (u : Int32 × Int32 × Int32 × Int32 × Int32 × Int32 × Int32 × Int32 × N2I) => r = aCount n w (cRec L T K F S B n)) (fun (u : Int32 × Int32 × Int32 × Int32 × Int32 × Int32 × Int32 × Int32 × N2I) (t : State) => va_P (dC, dI) vwCl [(mo, .inr (2, [.int tw, .ref bL, .ref bT, .int (nI n), .ref bK, .ref bF, .ref bS, .ref bB, .int u.1, .int u.2.1, .int u.2.2.1, .int u.2.2.2.1, .int u.2.2.2.2.1, .int u.2.2.2.2.2.1, .int u.2.2.2.2.2.2.1, .int u.2.2.2.2.2.2.2.1, .ref bU])), (bK, .inl (cI, 60, .inl K)), (bF, .inl (cI, 60, .inl F)), (bS, .inl (cI, 60, .inl S)), (bB, .inl (cZ, 60, .inl B)), (bL, .inl (cI, 4, .inl L)), (bT, .inl (cI, 4, .inl T)), (bU, .inl (cI, 6, .inl u.2.2.2.2.2.2.2.2))] t.heap ∧ va_D (va_A [(mo, .inr (2, [.int tw, .ref bL, .ref bT, .int (nI n), .ref bK, .ref bF, .ref bS, .ref bB, .int co, .int pl, .int st, .int jo, .int cn, .int ii, .int fi, .int fe, .ref bU])), (bK, .inl (cI, 60, .inl K)), (bF, .inl (cI, 60, .inl F)), (bS, .inl (cI, 60, .inl S)), (bB, .inl (cZ, 60, .inl B)), (bL, .inl (cI, 4, .inl L)), (bT, .inl (cI, 4, .inl T)), (bU, .inl (cI, 6, .inl U))] sz) [(mo, .inr (2, [.int tw, .ref bL, .ref bT, .int (nI n), .ref bK, .ref bF, .ref bS, .ref bB, .int u.1, .int u.2.1, .int u.2.2.1, .int u.2.2.2.1, .int u.2.2.2.2.1, .int u.2.2.2.2.2.1, .int u.2.2.2.2.2.2.1, .int u.2.2.2.2.2.2.2.1, .ref bU])), (bK, .inl (cI, 60, .inl K)), (bF, .inl (cI, 60, .inl F)), (bS, .inl (cI, 60, .inl S)), (bB, .inl (cZ, 60, .inl B)), (bL, .inl (cI, 4, .inl L)), (bT, .inl (cI, 4, .inl T)), (bU, .inl (cI, 6, .inl u.2.2.2.2.2.2.2.2))]) (va_A [(mo, .inr (2, [.int tw, .ref bL, .ref bT, .int (nI n), .ref bK, .ref bF, .ref bS, .ref bB, .int co, .int pl, .int st, .int jo, .int cn, .int ii, .int fi, .int fe, .ref bU])), (bK, .inl (cI, 60, .inl K)), (bF, .inl (cI, 60, .inl F)), (bS, .inl (cI, 60, .inl S)), (bB, .inl (cZ, 60, .inl B)), (bL, .inl (cI, 4, .inl L)), (bT, .inl (cI, 4, .inl T)), (bU, .inl (cI, 6, .inl U))] sz)) 0 0 (va_A [(mo, .inr (2, [.int tw, .ref bL, .ref bT, .int (nI n), .ref bK, .ref bF, .ref bS, .ref bB, .int co, .int pl, .int st, .int jo, .int cn, .int ii, .int fi, .int fe, .ref bU])), (bK, .inl (cI, 60, .inl K)), (bF, .inl (cI, 60, .inl F)), (bS, .inl (cI, 60, .inl S)), (bB, .inl (cZ, 60, .inl B)), (bL, .inl (cI, 4, .inl L)), (bT, .inl (cI, 4, .inl T)), (bU, .inl (cI, 6, .inl U))] sz) := by
  refine Met.ofW (cc := cX2_counted) (maxL := 4) (ret := (some .int)) (by decide) rfl ?_
  intro p e s m args below meth c s₁ BB hml hv
  obtain ⟨rfl, hsz, hP, hK, hD0⟩ := hv
  have hx := BB.exec
  have hb := BB.bytes
  have hr := BB.returns
  have hts := atoms_spec (ws := wsX2_counted) BB.pre
  have hown : s.vm.findClass RX2 = some m.cls := findClass_of_methodNamed BB.named
  have hlocks := BB.notSynchronized
  subst hsz
  have hD := hD0.self (sz := s.heap.size)
  generalize hAe : va_A [(mo, .inr (2, [.int tw, .ref bL, .ref bT, .int (nI n), .ref bK, .ref bF, .ref bS, .ref bB, .int co, .int pl, .int st, .int jo, .int cn, .int ii, .int fi, .int fe, .ref bU])), (bK, .inl (cI, 60, .inl K)), (bF, .inl (cI, 60, .inl F)), (bS, .inl (cI, 60, .inl S)), (bB, .inl (cZ, 60, .inl B)), (bL, .inl (cI, 4, .inl L)), (bT, .inl (cI, 4, .inl T)), (bU, .inl (cI, 6, .inl U))] s.heap.size = A at hD ⊢
  have hA : ∀ q : Nat, s.heap.size ≤ q → A q := fun q h => by rw [← hAe]; exact Or.inr h
  have hS : va_S A s.heap s.heap [] := va_S.rf
  have hP : va_P (dC, dI) vwCl [(mo, .inr (2, [.int tw, .ref bL, .ref bT, .int (nI n), .ref bK, .ref bF, .ref bS, .ref bB, .int co, .int pl, .int st, .int jo, .int cn, .int ii, .int fi, .int fe, .ref bU])), (bK, .inl (cI, 60, .inl K)), (bF, .inl (cI, 60, .inl F)), (bS, .inl (cI, 60, .inl S)), (bB, .inl (cZ, 60, .inl B)), (bL, .inl (cI, 4, .inl L)), (bT, .inl (cI, 4, .inl T)), (bU, .inl (cI, 6, .inl U))] s.heap := hP
  have hl := lv_entry ([.ref mo, .int w]) (n := 4) (Nat.le_of_ble_eq_true rfl)
  rw [lg_entry_eq]
  generalize (lg_sl ([.ref mo, .int w]) ++ List.replicate (4 - (lg_sl ([.ref mo, .int w])).length) Slot.unset).toArray = ls at hl ⊢
  have hl : lv_has ls 4 [(0, .ref mo), (1, .int w)] := hl
  have k0 := hts (.fieldLink RX2 36 "KnifeLedgerModel" "entries" "I") (by decide +kernel)
  have hinX2 : ∀ w ∈ wsX20, w ∈ wsX2_counted := by decide +kernel
  have k2 := hts (.fieldLink RX2 25 "KnifeLedgerModel" "struck" "[Z") (by decide +kernel)
  have k3 := hts (.fieldLink RX2 86 "KnifeLedgerModel" "counting" "I") (by decide +kernel)
  have k4 := hts (.fieldLink RX2 70 "KnifeLedgerModel" "coins" "I") (by decide +kernel)
  have k5 := hts (.fieldLink RX2 92 "KnifeLedgerModel" "firstIdle" "I") (by decide +kernel)
  have k6 := hts (.fieldLink RX2 95 "KnifeLedgerModel" "fewest" "I") (by decide +kernel)
  have hn6 : n ≤ 60 := hX.1
  refine lv_iconst (v := 0) hx hb dX2_counted_0 (by decide) ?_
  refine lv_istore_n (lv' := [(2, .int 0), (0, .ref mo), (1, .int w)]) hx hb dX2_counted_1 rfl hl (by decide) rfl (fun ls hl => ?_)
  refine lv_aload_n hx hb dX2_counted_2 rfl (lv_at hl 1 rfl) ?_
  refine lv_aload_n hx hb dX2_counted_3 rfl (lv_at hl 1 rfl) ?_
  refine va_get (D := (dC, dI)) (ci := 2) (v := .int (nI n)) (C := RX2) (T := TX2) (N := 17) hx hb hts hinX2 hown hK hP 0 rfl rfl 3 (by decide) k0 (fun _ h9 => h9) rfl dX2_counted_4 ?_
  have hPc := hP.sub (ws' := [(mo, .inr (2, [.int tw, .ref bL, .ref bT, .int (nI n), .ref bK, .ref bF, .ref bS, .ref bB, .int co, .int pl, .int st, .int jo, .int cn, .int ii, .int fi, .int fe, .ref bU])), (bK, .inl (cI, 60, .inl K)), (bF, .inl (cI, 60, .inl F)), (bS, .inl (cI, 60, .inl S)), (bB, .inl (cZ, 60, .inl B)), (bL, .inl (cI, 4, .inl L)), (bT, .inl (cI, 4, .inl T)), (bU, .inl (cI, 6, .inl U))]) [0, 1, 2, 3, 4, 5, 6, 7] rfl
  have hDc := hD.sub (ws' := [(mo, .inr (2, [.int tw, .ref bL, .ref bT, .int (nI n), .ref bK, .ref bF, .ref bS, .ref bB, .int co, .int pl, .int st, .int jo, .int cn, .int ii, .int fi, .int fe, .ref bU])), (bK, .inl (cI, 60, .inl K)), (bF, .inl (cI, 60, .inl F)), (bS, .inl (cI, 60, .inl S)), (bB, .inl (cZ, 60, .inl B)), (bL, .inl (cI, 4, .inl L)), (bT, .inl (cI, 4, .inl T)), (bU, .inl (cI, 6, .inl U))]) [0, 1, 2, 3, 4, 5, 6, 7] (by decide) rfl
  have hKc := hK.sub (tys' := [(cI, .int), (cZ, .boolean)]) [0, 1] rfl
  have hFc := va_free (wc := [(mo, .inr (2, [.int tw, .ref bL, .ref bT, .int (nI n), .ref bK, .ref bF, .ref bS, .ref bB, .int co, .int pl, .int st, .int jo, .int cn, .int ii, .int fi, .int fe, .ref bU])), (bK, .inl (cI, 60, .inl K)), (bF, .inl (cI, 60, .inl F)), (bS, .inl (cI, 60, .inl S)), (bB, .inl (cZ, 60, .inl B)), (bL, .inl (cI, 4, .inl L)), (bT, .inl (cI, 4, .inl T)), (bU, .inl (cI, 6, .inl U))]) hD hS hA [0, 1, 2, 3, 4, 5, 6, 7] rfl
  refine va_calli (va_runV (As := [.int (nI n)]) (rest := []) ⟨hx, hb, hml, hown, hts⟩ (c_X2_reckon l dC dI cI cZ mo bK bF bS bB bL bT bU s.heap.size L T K F S B U n tw co pl st jo cn ii fi fe n (hX) (Nat.le_refl n)) (cwV 1 hts gX2_counted_X2_reckon rfl rfl rfl (by decide +kernel) ⟨Nat.le_of_ble_eq_true rfl, Nat.le_of_ble_eq_true rfl⟩) (pc_V hKc hPc hDc (ci := 2) (C := RX2) (T := TX2) (N := 17) (q0 := 0) rfl rfl) rfl rfl hl.1 rfl (lv_room (Nat.le_of_ble_eq_true rfl)) dX2_counted_7 ⟨Nat.le_of_ble_eq_true rfl, Nat.le_of_ble_eq_true rfl⟩) hS (fun q _ h => hFc q h) hFc (fun r_1 u t H_1 locs ht hvm hw hB hz1 hk1 hS => ?_)
  obtain ⟨co1_1, pl1_1, st1_1, jo1_1, cn1_1, ii1_1, fi1_1, fe1_1, U1_1⟩ := u
  try dsimp only at hw hB
  have hw_1 := hw
  obtain ⟨hw0_1, hw1_1⟩ := hw_1
  replace hw1_1 := hw1_1.symm
  subst hw1_1
  obtain ⟨hP1, hD1⟩ := hB
  rw [ht] at hP1
  obtain ⟨hP, hD⟩ := va_join (wr := []) (w1 := [(mo, .inr (2, [.int tw, .ref bL, .ref bT, .int (nI n), .ref bK, .ref bF, .ref bS, .ref bB, .int co1_1, .int pl1_1, .int st1_1, .int jo1_1, .int cn1_1, .int ii1_1, .int fi1_1, .int fe1_1, .ref bU])), (bK, .inl (cI, 60, .inl K)), (bF, .inl (cI, 60, .inl F)), (bS, .inl (cI, 60, .inl S)), (bB, .inl (cZ, 60, .inl B)), (bL, .inl (cI, 4, .inl L)), (bT, .inl (cI, 4, .inl T)), (bU, .inl (cI, 6, .inl U1_1))]) hP hD [0, 1, 2, 3, 4, 5, 6, 7] [] rfl rfl (by decide) (by decide) hk1 hFc hP1 hD1
  have hP : va_P (dC, dI) vwCl [(mo, .inr (2, [.int tw, .ref bL, .ref bT, .int (nI n), .ref bK, .ref bF, .ref bS, .ref bB, .int co1_1, .int pl1_1, .int st1_1, .int jo1_1, .int cn1_1, .int ii1_1, .int fi1_1, .int fe1_1, .ref bU])), (bK, .inl (cI, 60, .inl K)), (bF, .inl (cI, 60, .inl F)), (bS, .inl (cI, 60, .inl S)), (bB, .inl (cZ, 60, .inl B)), (bL, .inl (cI, 4, .inl L)), (bT, .inl (cI, 4, .inl T)), (bU, .inl (cI, 6, .inl U1_1))] H_1 := hP
  have hD : va_D A [(mo, .inr (2, [.int tw, .ref bL, .ref bT, .int (nI n), .ref bK, .ref bF, .ref bS, .ref bB, .int co1_1, .int pl1_1, .int st1_1, .int jo1_1, .int cn1_1, .int ii1_1, .int fi1_1, .int fe1_1, .ref bU])), (bK, .inl (cI, 60, .inl K)), (bF, .inl (cI, 60, .inl F)), (bS, .inl (cI, 60, .inl S)), (bB, .inl (cZ, 60, .inl B)), (bL, .inl (cI, 4, .inl L)), (bT, .inl (cI, 4, .inl T)), (bU, .inl (cI, 6, .inl U1_1))] := hD
  refine lv_pop hx hb dX2_counted_10 rfl ?_
  refine lv_iload_n hx hb dX2_counted_11 rfl (lv_at hl 2 rfl) ?_
  by_cases k_12_0 : w = 0
  · -- case 0
    refine lv_tableIn (off := 36) (tgt := 48) hx hb dX2_counted_12 (by rw [k_12_0]; decide) (by rw [k_12_0]; decide) (by rw [k_12_0]; rfl) (by decide) ?_
    refine lv_aload_n hx hb dX2_counted_48 rfl (lv_at hl 1 rfl) ?_
    refine va_get (D := (dC, dI)) (ci := 2) (v := .int (nI n)) (C := RX2) (T := TX2) (N := 17) hx hb hts hinX2 hown hK hP 0 rfl rfl 3 (by decide) k0 (fun _ h9 => h9) rfl dX2_counted_49 ?_
    have hpost : (nI n) = aCount n w (cRec L T K F S B n) := by
      rw [← ans_of (aCount_sim n w) hX (Nat.le_refl n) hw0_1]
      simp only [aCount, if_pos k_12_0]
    have hP9 := hP.sub (ws' := [(mo, .inr (2, [.int tw, .ref bL, .ref bT, .int (nI n), .ref bK, .ref bF, .ref bS, .ref bB, .int co1_1, .int pl1_1, .int st1_1, .int jo1_1, .int cn1_1, .int ii1_1, .int fi1_1, .int fe1_1, .ref bU])), (bK, .inl (cI, 60, .inl K)), (bF, .inl (cI, 60, .inl F)), (bS, .inl (cI, 60, .inl S)), (bB, .inl (cZ, 60, .inl B)), (bL, .inl (cI, 4, .inl L)), (bT, .inl (cI, 4, .inl T)), (bU, .inl (cI, 6, .inl U1_1))]) [0, 1, 2, 3, 4, 5, 6, 7] rfl
    have hD9 := hD.sub (ws' := [(mo, .inr (2, [.int tw, .ref bL, .ref bT, .int (nI n), .ref bK, .ref bF, .ref bS, .ref bB, .int co1_1, .int pl1_1, .int st1_1, .int jo1_1, .int cn1_1, .int ii1_1, .int fi1_1, .int fe1_1, .ref bU])), (bK, .inl (cI, 60, .inl K)), (bF, .inl (cI, 60, .inl F)), (bS, .inl (cI, 60, .inl S)), (bB, .inl (cZ, 60, .inl B)), (bL, .inl (cI, 4, .inl L)), (bT, .inl (cI, 4, .inl T)), (bU, .inl (cI, 6, .inl U1_1))]) [0, 1, 2, 3, 4, 5, 6, 7] (by decide) rfl
    exact W.iret (v := nI n) hx hb hr (fun t ht hW => ⟨⟨(nI n), (co1_1, pl1_1, st1_1, jo1_1, cn1_1, ii1_1, fi1_1, fe1_1, U1_1), rfl, hpost, by rw [ht]; exact hP9, hD9⟩, hS.F ht⟩) hS.2.2 dX2_counted_52
  by_cases k_12_1 : w = 1
  · -- case 1
    refine lv_tableIn (off := 41) (tgt := 53) hx hb dX2_counted_12 (by rw [k_12_1]; decide) (by rw [k_12_1]; decide) (by rw [k_12_1]; rfl) (by decide) ?_
    refine lv_iconst (v := 0) hx hb dX2_counted_53 (by decide) ?_
    refine lv_istore_n (lv' := [(3, .int 0), (2, .int 0), (0, .ref mo), (1, .int w)]) hx hb dX2_counted_54 rfl hl (by decide) rfl (fun ls hl => ?_)
    refine (fun (KK : ∀ (nn9 : Nat) (k : Nat) (H : Heap) (locs : List Loc) (ls : Array Slot) (hk : k ≤ n), n - k < nn9 → va_P (dC, dI) vwCl [(mo, .inr (2, [.int tw, .ref bL, .ref bT, .int (nI n), .ref bK, .ref bF, .ref bS, .ref bB, .int co1_1, .int pl1_1, .int st1_1, .int jo1_1, .int cn1_1, .int ii1_1, .int fi1_1, .int fe1_1, .ref bU])), (bK, .inl (cI, 60, .inl K)), (bF, .inl (cI, 60, .inl F)), (bS, .inl (cI, 60, .inl S)), (bB, .inl (cZ, 60, .inl B)), (bL, .inl (cI, 4, .inl L)), (bT, .inl (cI, 4, .inl T)), (bU, .inl (cI, 6, .inl U1_1))] H → va_D A [(mo, .inr (2, [.int tw, .ref bL, .ref bT, .int (nI n), .ref bK, .ref bF, .ref bS, .ref bB, .int co1_1, .int pl1_1, .int st1_1, .int jo1_1, .int cn1_1, .int ii1_1, .int fi1_1, .int fe1_1, .ref bU])), (bK, .inl (cI, 60, .inl K)), (bF, .inl (cI, 60, .inl F)), (bS, .inl (cI, 60, .inl S)), (bB, .inl (cZ, 60, .inl B)), (bL, .inl (cI, 4, .inl L)), (bT, .inl (cI, 4, .inl T)), (bU, .inl (cI, 6, .inl U1_1))] → va_S A s.heap H locs → lv_has ls 4 [(2, .int (sS B k)), (3, .int (nI k)), (0, .ref mo), (1, .int w)] → W p l e _ s m _ below meth c H locs 0 0 _ (F0 m 55 ls [])) => KK (n - 0 + 1) 0 _ _ _ (Nat.zero_le _) (by omega) hP hD hS (lv_sub hl [1, 0, 2, 3] rfl)) ?_
    intro nn_55
    induction nn_55 with
    | zero => intro k H locs ls hk hn9; exact absurd hn9 (Nat.not_lt_zero _)
    | succ nn_55 ih_55 =>
      intro k H_2 locs ls hk hn_55 hP hD hS hl
      refine lv_iload_n hx hb dX2_counted_55 rfl (lv_at hl 1 rfl) ?_
      refine lv_aload_n hx hb dX2_counted_56 rfl (lv_at hl 2 rfl) ?_
      refine va_get (D := (dC, dI)) (ci := 2) (v := .int (nI n)) (C := RX2) (T := TX2) (N := 17) hx hb hts hinX2 hown hK hP 0 rfl rfl 3 (by decide) k0 (fun _ h9 => h9) rfl dX2_counted_57 ?_
      refine lv_icmp_ge (tgt := 86) hx hb dX2_counted_60 (by decide) (fun c_60 => ?_) (fun c_60 => ?_)
      · -- 60
        obtain rfl : n = k := by rw [nI_leI (by omega) (by omega)] at c_60; omega
        refine lv_iload_n hx hb dX2_counted_86 rfl (lv_at hl 0 rfl) ?_
        have hpost : (sS B n) = aCount n w (cRec L T K F S B n) := by
          rw [k_12_1, aCount_1]
        have hP9 := hP.sub (ws' := [(mo, .inr (2, [.int tw, .ref bL, .ref bT, .int (nI n), .ref bK, .ref bF, .ref bS, .ref bB, .int co1_1, .int pl1_1, .int st1_1, .int jo1_1, .int cn1_1, .int ii1_1, .int fi1_1, .int fe1_1, .ref bU])), (bK, .inl (cI, 60, .inl K)), (bF, .inl (cI, 60, .inl F)), (bS, .inl (cI, 60, .inl S)), (bB, .inl (cZ, 60, .inl B)), (bL, .inl (cI, 4, .inl L)), (bT, .inl (cI, 4, .inl T)), (bU, .inl (cI, 6, .inl U1_1))]) [0, 1, 2, 3, 4, 5, 6, 7] rfl
        have hD9 := hD.sub (ws' := [(mo, .inr (2, [.int tw, .ref bL, .ref bT, .int (nI n), .ref bK, .ref bF, .ref bS, .ref bB, .int co1_1, .int pl1_1, .int st1_1, .int jo1_1, .int cn1_1, .int ii1_1, .int fi1_1, .int fe1_1, .ref bU])), (bK, .inl (cI, 60, .inl K)), (bF, .inl (cI, 60, .inl F)), (bS, .inl (cI, 60, .inl S)), (bB, .inl (cZ, 60, .inl B)), (bL, .inl (cI, 4, .inl L)), (bT, .inl (cI, 4, .inl T)), (bU, .inl (cI, 6, .inl U1_1))]) [0, 1, 2, 3, 4, 5, 6, 7] (by decide) rfl
        exact W.iret (v := sS B n) hx hb hr (fun t ht hW => ⟨⟨(sS B n), (co1_1, pl1_1, st1_1, jo1_1, cn1_1, ii1_1, fi1_1, fe1_1, U1_1), rfl, hpost, by rw [ht]; exact hP9, hD9⟩, hS.F ht⟩) hS.2.2 dX2_counted_87
      · -- 60
        have hlt : k < n := by rw [nI_leI (by omega) (by omega)] at c_60; omega
        refine lv_iload_n hx hb dX2_counted_63 rfl (lv_at hl 0 rfl) ?_
        refine lv_aload_n hx hb dX2_counted_64 rfl (lv_at hl 2 rfl) ?_
        refine va_get (D := (dC, dI)) (ci := 2) (v := .ref bB) (C := RX2) (T := TX2) (N := 17) hx hb hts hinX2 hown hK hP 0 rfl rfl 7 (by decide) k2 (fun _ h9 => h9) rfl dX2_counted_65 ?_
        refine lv_iload_n hx hb dX2_counted_68 rfl (lv_at hl 1 rfl) ?_
        refine va_zald hx hb hK hP 4 1 rfl rfl (vp_in_nI (by omega) (by omega)) dX2_counted_69 ?_
        rw [nI_clamp (n := k) (by omega)]
        refine lv_if_eq (tgt := 77) hx hb dX2_counted_70 (by decide) (fun c_70 => ?_) (fun c_70 => ?_)
        · -- 70
          refine lv_iconst (v := 0) hx hb dX2_counted_77 (by decide) ?_
          refine lv_iadd hx hb dX2_counted_78 ?_
          refine lv_istore_n (lv' := [(2, .int ((sS B k) + 0)), (3, .int (nI k)), (0, .ref mo), (1, .int w)]) hx hb dX2_counted_79 rfl hl (by decide) rfl (fun ls hl => ?_)
          refine lv_iinc (v := nI (k + 1)) (lv' := [(3, .int (nI (k + 1))), (2, .int ((sS B k) + 0)), (0, .ref mo), (1, .int w)]) hx hb dX2_counted_80 hl (k := 1) rfl (nI_1 _) (by decide) rfl (fun ls hl => ?_)
          refine lv_goto (tgt := 55) hx hb dX2_counted_83 (by decide) ?_
          have e9 : sS B (k + 1) = sS B k + 0 := congrArg (sS B k + ·) (if_pos c_70)
          rw [← e9] at hl
          exact ih_55 (k + 1) _ _ _ (by omega) (by omega) hP hD hS (lv_sub hl [1, 0, 2, 3] rfl)
        · -- 70
          refine lv_iconst (v := 1) hx hb dX2_counted_73 (by decide) ?_
          refine lv_goto (tgt := 78) hx hb dX2_counted_74 (by decide) ?_
          refine lv_iadd hx hb dX2_counted_78 ?_
          refine lv_istore_n (lv' := [(2, .int ((sS B k) + 1)), (3, .int (nI k)), (0, .ref mo), (1, .int w)]) hx hb dX2_counted_79 rfl hl (by decide) rfl (fun ls hl => ?_)
          refine lv_iinc (v := nI (k + 1)) (lv' := [(3, .int (nI (k + 1))), (2, .int ((sS B k) + 1)), (0, .ref mo), (1, .int w)]) hx hb dX2_counted_80 hl (k := 1) rfl (nI_1 _) (by decide) rfl (fun ls hl => ?_)
          refine lv_goto (tgt := 55) hx hb dX2_counted_83 (by decide) ?_
          have e9 : sS B (k + 1) = sS B k + 1 := congrArg (sS B k + ·) (if_neg c_70)
          rw [← e9] at hl
          exact ih_55 (k + 1) _ _ _ (by omega) (by omega) hP hD hS (lv_sub hl [1, 0, 2, 3] rfl)
  by_cases k_12_2 : w = 2
  · -- case 2
    refine lv_tableIn (off := 76) (tgt := 88) hx hb dX2_counted_12 (by rw [k_12_2]; decide) (by rw [k_12_2]; decide) (by rw [k_12_2]; rfl) (by decide) ?_
    refine lv_aload_n hx hb dX2_counted_88 rfl (lv_at hl 1 rfl) ?_
    refine va_get (D := (dC, dI)) (ci := 2) (v := .int cn1_1) (C := RX2) (T := TX2) (N := 17) hx hb hts hinX2 hown hK hP 0 rfl rfl 12 (by decide) k3 (fun _ h9 => h9) rfl dX2_counted_89 ?_
    have hpost : cn1_1 = aCount n w (cRec L T K F S B n) := by
      rw [← ans_of (aCount_sim n w) hX (Nat.le_refl n) hw0_1]
      simp only [aCount, if_neg k_12_0, if_neg k_12_1, if_pos k_12_2]
    have hP9 := hP.sub (ws' := [(mo, .inr (2, [.int tw, .ref bL, .ref bT, .int (nI n), .ref bK, .ref bF, .ref bS, .ref bB, .int co1_1, .int pl1_1, .int st1_1, .int jo1_1, .int cn1_1, .int ii1_1, .int fi1_1, .int fe1_1, .ref bU])), (bK, .inl (cI, 60, .inl K)), (bF, .inl (cI, 60, .inl F)), (bS, .inl (cI, 60, .inl S)), (bB, .inl (cZ, 60, .inl B)), (bL, .inl (cI, 4, .inl L)), (bT, .inl (cI, 4, .inl T)), (bU, .inl (cI, 6, .inl U1_1))]) [0, 1, 2, 3, 4, 5, 6, 7] rfl
    have hD9 := hD.sub (ws' := [(mo, .inr (2, [.int tw, .ref bL, .ref bT, .int (nI n), .ref bK, .ref bF, .ref bS, .ref bB, .int co1_1, .int pl1_1, .int st1_1, .int jo1_1, .int cn1_1, .int ii1_1, .int fi1_1, .int fe1_1, .ref bU])), (bK, .inl (cI, 60, .inl K)), (bF, .inl (cI, 60, .inl F)), (bS, .inl (cI, 60, .inl S)), (bB, .inl (cZ, 60, .inl B)), (bL, .inl (cI, 4, .inl L)), (bT, .inl (cI, 4, .inl T)), (bU, .inl (cI, 6, .inl U1_1))]) [0, 1, 2, 3, 4, 5, 6, 7] (by decide) rfl
    exact W.iret (v := cn1_1) hx hb hr (fun t ht hW => ⟨⟨cn1_1, (co1_1, pl1_1, st1_1, jo1_1, cn1_1, ii1_1, fi1_1, fe1_1, U1_1), rfl, hpost, by rw [ht]; exact hP9, hD9⟩, hS.F ht⟩) hS.2.2 dX2_counted_92
  by_cases k_12_3 : w = 3
  · -- case 3
    refine lv_tableIn (off := 81) (tgt := 93) hx hb dX2_counted_12 (by rw [k_12_3]; decide) (by rw [k_12_3]; decide) (by rw [k_12_3]; rfl) (by decide) ?_
    refine lv_aload_n hx hb dX2_counted_93 rfl (lv_at hl 1 rfl) ?_
    refine va_get (D := (dC, dI)) (ci := 2) (v := .int co1_1) (C := RX2) (T := TX2) (N := 17) hx hb hts hinX2 hown hK hP 0 rfl rfl 8 (by decide) k4 (fun _ h9 => h9) rfl dX2_counted_94 ?_
    have hpost : co1_1 = aCount n w (cRec L T K F S B n) := by
      rw [← ans_of (aCount_sim n w) hX (Nat.le_refl n) hw0_1]
      simp only [aCount, if_neg k_12_0, if_neg k_12_1, if_neg k_12_2, if_pos k_12_3]
    have hP9 := hP.sub (ws' := [(mo, .inr (2, [.int tw, .ref bL, .ref bT, .int (nI n), .ref bK, .ref bF, .ref bS, .ref bB, .int co1_1, .int pl1_1, .int st1_1, .int jo1_1, .int cn1_1, .int ii1_1, .int fi1_1, .int fe1_1, .ref bU])), (bK, .inl (cI, 60, .inl K)), (bF, .inl (cI, 60, .inl F)), (bS, .inl (cI, 60, .inl S)), (bB, .inl (cZ, 60, .inl B)), (bL, .inl (cI, 4, .inl L)), (bT, .inl (cI, 4, .inl T)), (bU, .inl (cI, 6, .inl U1_1))]) [0, 1, 2, 3, 4, 5, 6, 7] rfl
    have hD9 := hD.sub (ws' := [(mo, .inr (2, [.int tw, .ref bL, .ref bT, .int (nI n), .ref bK, .ref bF, .ref bS, .ref bB, .int co1_1, .int pl1_1, .int st1_1, .int jo1_1, .int cn1_1, .int ii1_1, .int fi1_1, .int fe1_1, .ref bU])), (bK, .inl (cI, 60, .inl K)), (bF, .inl (cI, 60, .inl F)), (bS, .inl (cI, 60, .inl S)), (bB, .inl (cZ, 60, .inl B)), (bL, .inl (cI, 4, .inl L)), (bT, .inl (cI, 4, .inl T)), (bU, .inl (cI, 6, .inl U1_1))]) [0, 1, 2, 3, 4, 5, 6, 7] (by decide) rfl
    exact W.iret (v := co1_1) hx hb hr (fun t ht hW => ⟨⟨co1_1, (co1_1, pl1_1, st1_1, jo1_1, cn1_1, ii1_1, fi1_1, fe1_1, U1_1), rfl, hpost, by rw [ht]; exact hP9, hD9⟩, hS.F ht⟩) hS.2.2 dX2_counted_97
  by_cases k_12_4 : w = 4
  · -- case 4
    refine lv_tableIn (off := 86) (tgt := 98) hx hb dX2_counted_12 (by rw [k_12_4]; decide) (by rw [k_12_4]; decide) (by rw [k_12_4]; rfl) (by decide) ?_
    refine lv_aload_n hx hb dX2_counted_98 rfl (lv_at hl 1 rfl) ?_
    refine va_get (D := (dC, dI)) (ci := 2) (v := .int fi1_1) (C := RX2) (T := TX2) (N := 17) hx hb hts hinX2 hown hK hP 0 rfl rfl 14 (by decide) k5 (fun _ h9 => h9) rfl dX2_counted_99 ?_
    have hpost : fi1_1 = aCount n w (cRec L T K F S B n) := by
      rw [← ans_of (aCount_sim n w) hX (Nat.le_refl n) hw0_1]
      simp only [aCount, if_neg k_12_0, if_neg k_12_1, if_neg k_12_2, if_neg k_12_3, if_pos k_12_4]
    have hP9 := hP.sub (ws' := [(mo, .inr (2, [.int tw, .ref bL, .ref bT, .int (nI n), .ref bK, .ref bF, .ref bS, .ref bB, .int co1_1, .int pl1_1, .int st1_1, .int jo1_1, .int cn1_1, .int ii1_1, .int fi1_1, .int fe1_1, .ref bU])), (bK, .inl (cI, 60, .inl K)), (bF, .inl (cI, 60, .inl F)), (bS, .inl (cI, 60, .inl S)), (bB, .inl (cZ, 60, .inl B)), (bL, .inl (cI, 4, .inl L)), (bT, .inl (cI, 4, .inl T)), (bU, .inl (cI, 6, .inl U1_1))]) [0, 1, 2, 3, 4, 5, 6, 7] rfl
    have hD9 := hD.sub (ws' := [(mo, .inr (2, [.int tw, .ref bL, .ref bT, .int (nI n), .ref bK, .ref bF, .ref bS, .ref bB, .int co1_1, .int pl1_1, .int st1_1, .int jo1_1, .int cn1_1, .int ii1_1, .int fi1_1, .int fe1_1, .ref bU])), (bK, .inl (cI, 60, .inl K)), (bF, .inl (cI, 60, .inl F)), (bS, .inl (cI, 60, .inl S)), (bB, .inl (cZ, 60, .inl B)), (bL, .inl (cI, 4, .inl L)), (bT, .inl (cI, 4, .inl T)), (bU, .inl (cI, 6, .inl U1_1))]) [0, 1, 2, 3, 4, 5, 6, 7] (by decide) rfl
    exact W.iret (v := fi1_1) hx hb hr (fun t ht hW => ⟨⟨fi1_1, (co1_1, pl1_1, st1_1, jo1_1, cn1_1, ii1_1, fi1_1, fe1_1, U1_1), rfl, hpost, by rw [ht]; exact hP9, hD9⟩, hS.F ht⟩) hS.2.2 dX2_counted_102
  refine lv_tableOut (tgt := 103) hx hb dX2_counted_12 (sw_out5 k_12_0 k_12_1 k_12_2 k_12_3 k_12_4) (by decide) ?_
  refine lv_aload_n hx hb dX2_counted_103 rfl (lv_at hl 1 rfl) ?_
  refine va_get (D := (dC, dI)) (ci := 2) (v := .int fe1_1) (C := RX2) (T := TX2) (N := 17) hx hb hts hinX2 hown hK hP 0 rfl rfl 15 (by decide) k6 (fun _ h9 => h9) rfl dX2_counted_104 ?_
  have hpost : fe1_1 = aCount n w (cRec L T K F S B n) := by
    rw [← ans_of (aCount_sim n w) hX (Nat.le_refl n) hw0_1]
    simp only [aCount, if_neg k_12_0, if_neg k_12_1, if_neg k_12_2, if_neg k_12_3, if_neg k_12_4]
  have hP9 := hP.sub (ws' := [(mo, .inr (2, [.int tw, .ref bL, .ref bT, .int (nI n), .ref bK, .ref bF, .ref bS, .ref bB, .int co1_1, .int pl1_1, .int st1_1, .int jo1_1, .int cn1_1, .int ii1_1, .int fi1_1, .int fe1_1, .ref bU])), (bK, .inl (cI, 60, .inl K)), (bF, .inl (cI, 60, .inl F)), (bS, .inl (cI, 60, .inl S)), (bB, .inl (cZ, 60, .inl B)), (bL, .inl (cI, 4, .inl L)), (bT, .inl (cI, 4, .inl T)), (bU, .inl (cI, 6, .inl U1_1))]) [0, 1, 2, 3, 4, 5, 6, 7] rfl
  have hD9 := hD.sub (ws' := [(mo, .inr (2, [.int tw, .ref bL, .ref bT, .int (nI n), .ref bK, .ref bF, .ref bS, .ref bB, .int co1_1, .int pl1_1, .int st1_1, .int jo1_1, .int cn1_1, .int ii1_1, .int fi1_1, .int fe1_1, .ref bU])), (bK, .inl (cI, 60, .inl K)), (bF, .inl (cI, 60, .inl F)), (bS, .inl (cI, 60, .inl S)), (bB, .inl (cZ, 60, .inl B)), (bL, .inl (cI, 4, .inl L)), (bT, .inl (cI, 4, .inl T)), (bU, .inl (cI, 6, .inl U1_1))]) [0, 1, 2, 3, 4, 5, 6, 7] (by decide) rfl
  exact W.iret (v := fe1_1) hx hb hr (fun t ht hW => ⟨⟨fe1_1, (co1_1, pl1_1, st1_1, jo1_1, cn1_1, ii1_1, fi1_1, fe1_1, U1_1), rfl, hpost, by rw [ht]; exact hP9, hD9⟩, hS.F ht⟩) hS.2.2 dX2_counted_107

set_option maxHeartbeats 4000000 in
set_option maxRecDepth 100000 in
theorem c_X2_count (l : Launch) (dC : Nat → ClassId) (dI : Nat → Nat → Nat) (cI cZ : ClassId) (mo bK bF bS bB bL bT bU : Nat) (sz : Nat) (L : N2I) (T : N2I) (K : N2I) (F : N2I) (S : N2I) (B : N2I) (U : N2I) (n : Nat) (tw : Int32) (co : Int32) (pl : Int32) (st : Int32) (jo : Int32) (cn : Int32) (ii : Int32) (fi : Int32) (fe : Int32) (w : Int32) (hX : okX K F S B n) (h0 : ¬ w < 0) (h1 : ¬ 5 < w) : Met l yX2_count wsX2_count ({ frames := 6, cells := 0, slots := 0, locals := 129 } : Room) (va_Pc [.ref mo, .int w] (pc_ (dC, dI) [(cI, .int), (cZ, .boolean)] [(mo, .inr (2, [.int tw, .ref bL, .ref bT, .int (nI n), .ref bK, .ref bF, .ref bS, .ref bB, .int co, .int pl, .int st, .int jo, .int cn, .int ii, .int fi, .int fe, .ref bU])), (bK, .inl (cI, 60, .inl K)), (bF, .inl (cI, 60, .inl F)), (bS, .inl (cI, 60, .inl S)), (bB, .inl (cZ, 60, .inl B)), (bL, .inl (cI, 4, .inl L)), (bT, .inl (cI, 4, .inl T)), (bU, .inl (cI, 6, .inl U))] sz)) (va_Qi (fun (r : Int32) (u : Int32 × Int32 × Int32 × Int32 × Int32 × Int32 × Int32 × Int32 × N2I) => r = aCount n w (cRec L T K F S B n)) (fun (u : Int32 × Int32 × Int32 × Int32 × Int32 × Int32 × Int32 × Int32 × N2I) (t : State) => va_P (dC, dI) vwCl [(mo, .inr (2, [.int 0, .ref bL, .ref bT, .int (nI n), .ref bK, .ref bF, .ref bS, .ref bB, .int u.1, .int u.2.1, .int u.2.2.1, .int u.2.2.2.1, .int u.2.2.2.2.1, .int u.2.2.2.2.2.1, .int u.2.2.2.2.2.2.1, .int u.2.2.2.2.2.2.2.1, .ref bU])), (bK, .inl (cI, 60, .inl K)), (bF, .inl (cI, 60, .inl F)), (bS, .inl (cI, 60, .inl S)), (bB, .inl (cZ, 60, .inl B)), (bL, .inl (cI, 4, .inl L)), (bT, .inl (cI, 4, .inl T)), (bU, .inl (cI, 6, .inl u.2.2.2.2.2.2.2.2))] t.heap ∧ va_D (va_A [(mo, .inr (2, [.int tw, .ref bL, .ref bT, .int (nI n), .ref bK, .ref bF, .ref bS, .ref bB, .int co, .int pl, .int st, .int jo, .int cn, .int ii, .int fi, .int fe, .ref bU])), (bK, .inl (cI, 60, .inl K)), (bF, .inl (cI, 60, .inl F)), (bS, .inl (cI, 60, .inl S)), (bB, .inl (cZ, 60, .inl B)), (bL, .inl (cI, 4, .inl L)), (bT, .inl (cI, 4, .inl T)), (bU, .inl (cI, 6, .inl U))] sz) [(mo, .inr (2, [.int 0, .ref bL, .ref bT, .int (nI n), .ref bK, .ref bF, .ref bS, .ref bB, .int u.1, .int u.2.1, .int u.2.2.1, .int u.2.2.2.1, .int u.2.2.2.2.1, .int u.2.2.2.2.2.1, .int u.2.2.2.2.2.2.1, .int u.2.2.2.2.2.2.2.1, .ref bU])), (bK, .inl (cI, 60, .inl K)), (bF, .inl (cI, 60, .inl F)), (bS, .inl (cI, 60, .inl S)), (bB, .inl (cZ, 60, .inl B)), (bL, .inl (cI, 4, .inl L)), (bT, .inl (cI, 4, .inl T)), (bU, .inl (cI, 6, .inl u.2.2.2.2.2.2.2.2))]) (va_A [(mo, .inr (2, [.int tw, .ref bL, .ref bT, .int (nI n), .ref bK, .ref bF, .ref bS, .ref bB, .int co, .int pl, .int st, .int jo, .int cn, .int ii, .int fi, .int fe, .ref bU])), (bK, .inl (cI, 60, .inl K)), (bF, .inl (cI, 60, .inl F)), (bS, .inl (cI, 60, .inl S)), (bB, .inl (cZ, 60, .inl B)), (bL, .inl (cI, 4, .inl L)), (bT, .inl (cI, 4, .inl T)), (bU, .inl (cI, 6, .inl U))] sz)) 0 0 (va_A [(mo, .inr (2, [.int tw, .ref bL, .ref bT, .int (nI n), .ref bK, .ref bF, .ref bS, .ref bB, .int co, .int pl, .int st, .int jo, .int cn, .int ii, .int fi, .int fe, .ref bU])), (bK, .inl (cI, 60, .inl K)), (bF, .inl (cI, 60, .inl F)), (bS, .inl (cI, 60, .inl S)), (bB, .inl (cZ, 60, .inl B)), (bL, .inl (cI, 4, .inl L)), (bT, .inl (cI, 4, .inl T)), (bU, .inl (cI, 6, .inl U))] sz) := by
  refine Met.ofW (cc := cX2_count) (maxL := 2) (ret := (some .int)) (by decide) rfl ?_
  intro p e s m args below meth c s₁ BB hml hv
  obtain ⟨rfl, hsz, hP, hK, hD0⟩ := hv
  have hx := BB.exec
  have hb := BB.bytes
  have hr := BB.returns
  have hts := atoms_spec (ws := wsX2_count) BB.pre
  have hown : s.vm.findClass RX2 = some m.cls := findClass_of_methodNamed BB.named
  have hlocks := BB.notSynchronized
  subst hsz
  have hD := hD0.self (sz := s.heap.size)
  generalize hAe : va_A [(mo, .inr (2, [.int tw, .ref bL, .ref bT, .int (nI n), .ref bK, .ref bF, .ref bS, .ref bB, .int co, .int pl, .int st, .int jo, .int cn, .int ii, .int fi, .int fe, .ref bU])), (bK, .inl (cI, 60, .inl K)), (bF, .inl (cI, 60, .inl F)), (bS, .inl (cI, 60, .inl S)), (bB, .inl (cZ, 60, .inl B)), (bL, .inl (cI, 4, .inl L)), (bT, .inl (cI, 4, .inl T)), (bU, .inl (cI, 6, .inl U))] s.heap.size = A at hD ⊢
  have hA : ∀ q : Nat, s.heap.size ≤ q → A q := fun q h => by rw [← hAe]; exact Or.inr h
  have hS : va_S A s.heap s.heap [] := va_S.rf
  have hP : va_P (dC, dI) vwCl [(mo, .inr (2, [.int tw, .ref bL, .ref bT, .int (nI n), .ref bK, .ref bF, .ref bS, .ref bB, .int co, .int pl, .int st, .int jo, .int cn, .int ii, .int fi, .int fe, .ref bU])), (bK, .inl (cI, 60, .inl K)), (bF, .inl (cI, 60, .inl F)), (bS, .inl (cI, 60, .inl S)), (bB, .inl (cZ, 60, .inl B)), (bL, .inl (cI, 4, .inl L)), (bT, .inl (cI, 4, .inl T)), (bU, .inl (cI, 6, .inl U))] s.heap := hP
  have hl := lv_entry ([.ref mo, .int w]) (n := 2) (Nat.le_of_ble_eq_true rfl)
  rw [lg_entry_eq]
  generalize (lg_sl ([.ref mo, .int w]) ++ List.replicate (2 - (lg_sl ([.ref mo, .int w])).length) Slot.unset).toArray = ls at hl ⊢
  have hl : lv_has ls 2 [(0, .ref mo), (1, .int w)] := hl
  have k0 := hts (.fieldLink RX2 32 "KnifeLedgerModel" "thrown" "I") (by decide +kernel)
  have hinX2 : ∀ w ∈ wsX20, w ∈ wsX2_count := by decide +kernel
  have hn6 : n ≤ 60 := hX.1
  refine lv_aload_n hx hb dX2_count_0 rfl (lv_at hl 0 rfl) ?_
  refine lv_iconst (v := 0) hx hb dX2_count_1 (by decide) ?_
  refine va_put (D := (dC, dI)) (ci := 2) (v := .int 0) (ty := .int) (C := RX2) (T := TX2) (N := 17) hx hb hts hinX2 tyX2 tyX2_ok nmX2 hown hK hP hD hS 0 rfl rfl 0 (by decide) k0 (fun _ h9 => h9) rfl (by decide +kernel) rfl rfl (Nat.le_of_ble_eq_true rfl) dX2_count_2 (fun H_1 locs hP hD hS => ?_)
  have hP : va_P (dC, dI) vwCl [(mo, .inr (2, [.int 0, .ref bL, .ref bT, .int (nI n), .ref bK, .ref bF, .ref bS, .ref bB, .int co, .int pl, .int st, .int jo, .int cn, .int ii, .int fi, .int fe, .ref bU])), (bK, .inl (cI, 60, .inl K)), (bF, .inl (cI, 60, .inl F)), (bS, .inl (cI, 60, .inl S)), (bB, .inl (cZ, 60, .inl B)), (bL, .inl (cI, 4, .inl L)), (bT, .inl (cI, 4, .inl T)), (bU, .inl (cI, 6, .inl U))] H_1 := hP
  have hD : va_D A [(mo, .inr (2, [.int 0, .ref bL, .ref bT, .int (nI n), .ref bK, .ref bF, .ref bS, .ref bB, .int co, .int pl, .int st, .int jo, .int cn, .int ii, .int fi, .int fe, .ref bU])), (bK, .inl (cI, 60, .inl K)), (bF, .inl (cI, 60, .inl F)), (bS, .inl (cI, 60, .inl S)), (bB, .inl (cZ, 60, .inl B)), (bL, .inl (cI, 4, .inl L)), (bT, .inl (cI, 4, .inl T)), (bU, .inl (cI, 6, .inl U))] := hD
  refine lv_iload_n hx hb dX2_count_5 rfl (lv_at hl 1 rfl) ?_
  refine lv_iconst (v := 0) hx hb dX2_count_6 (by decide) ?_
  refine lv_iconst (v := 5) hx hb dX2_count_7 (by decide) ?_
  have hPc := hP.sub (ws' := []) [] rfl
  have hDc := hD.sub (ws' := []) [] (by decide) rfl
  have hKc := hK.sub (tys' := []) [] rfl
  have hFc := va_free (wc := []) hD hS hA [] rfl
  refine va_calli (va_runS (As := [.int w, .int 0, .int 5]) (rest := []) ⟨hx, hb, hml, hown, hts⟩ (c_X2_isIn l dC dI H_1.size w 0 5) (va_cwS 3 hts gX2_count_X2_isIn rfl rfl rfl (by decide +kernel) ⟨Nat.le_of_ble_eq_true rfl, Nat.le_of_ble_eq_true rfl⟩) (pc_S hKc hPc hDc) rfl rfl hl.1 rfl (lv_room (Nat.le_of_ble_eq_true rfl)) dX2_count_8 ⟨Nat.le_of_ble_eq_true rfl, Nat.le_of_ble_eq_true rfl⟩) hS (fun q _ h => hFc q h) hFc (fun r_2 u t H_2 locs ht hvm hw hB hz1 hk1 hS => ?_)
  try dsimp only at hw hB
  have hw_2 := hw
  replace hw_2 := hw_2.symm
  subst hw_2
  obtain ⟨hP1, hD1⟩ := hB
  rw [ht] at hP1
  obtain ⟨hP, hD⟩ := va_join (wr := [(mo, .inr (2, [.int 0, .ref bL, .ref bT, .int (nI n), .ref bK, .ref bF, .ref bS, .ref bB, .int co, .int pl, .int st, .int jo, .int cn, .int ii, .int fi, .int fe, .ref bU])), (bK, .inl (cI, 60, .inl K)), (bF, .inl (cI, 60, .inl F)), (bS, .inl (cI, 60, .inl S)), (bB, .inl (cZ, 60, .inl B)), (bL, .inl (cI, 4, .inl L)), (bT, .inl (cI, 4, .inl T)), (bU, .inl (cI, 6, .inl U))]) (w1 := []) hP hD [] [0, 1, 2, 3, 4, 5, 6, 7] rfl rfl (by decide) (by decide) hk1 hFc hP1 hD1
  have hP : va_P (dC, dI) vwCl [(mo, .inr (2, [.int 0, .ref bL, .ref bT, .int (nI n), .ref bK, .ref bF, .ref bS, .ref bB, .int co, .int pl, .int st, .int jo, .int cn, .int ii, .int fi, .int fe, .ref bU])), (bK, .inl (cI, 60, .inl K)), (bF, .inl (cI, 60, .inl F)), (bS, .inl (cI, 60, .inl S)), (bB, .inl (cZ, 60, .inl B)), (bL, .inl (cI, 4, .inl L)), (bT, .inl (cI, 4, .inl T)), (bU, .inl (cI, 6, .inl U))] H_2 := hP
  have hD : va_D A [(mo, .inr (2, [.int 0, .ref bL, .ref bT, .int (nI n), .ref bK, .ref bF, .ref bS, .ref bB, .int co, .int pl, .int st, .int jo, .int cn, .int ii, .int fi, .int fe, .ref bU])), (bK, .inl (cI, 60, .inl K)), (bF, .inl (cI, 60, .inl F)), (bS, .inl (cI, 60, .inl S)), (bB, .inl (cZ, 60, .inl B)), (bL, .inl (cI, 4, .inl L)), (bT, .inl (cI, 4, .inl T)), (bU, .inl (cI, 6, .inl U))] := hD
  refine lv_if_eq (tgt := 22) hx hb dX2_count_11 (by decide) (fun h9 => absurd h9 (by rw [mIn_ok h0 h1]; exact one_ne)) (fun _ => ?_)
  refine lv_aload_n hx hb dX2_count_14 rfl (lv_at hl 0 rfl) ?_
  refine lv_iload_n hx hb dX2_count_15 rfl (lv_at hl 1 rfl) ?_
  have hPc := hP.sub (ws' := [(mo, .inr (2, [.int 0, .ref bL, .ref bT, .int (nI n), .ref bK, .ref bF, .ref bS, .ref bB, .int co, .int pl, .int st, .int jo, .int cn, .int ii, .int fi, .int fe, .ref bU])), (bK, .inl (cI, 60, .inl K)), (bF, .inl (cI, 60, .inl F)), (bS, .inl (cI, 60, .inl S)), (bB, .inl (cZ, 60, .inl B)), (bL, .inl (cI, 4, .inl L)), (bT, .inl (cI, 4, .inl T)), (bU, .inl (cI, 6, .inl U))]) [0, 1, 2, 3, 4, 5, 6, 7] rfl
  have hDc := hD.sub (ws' := [(mo, .inr (2, [.int 0, .ref bL, .ref bT, .int (nI n), .ref bK, .ref bF, .ref bS, .ref bB, .int co, .int pl, .int st, .int jo, .int cn, .int ii, .int fi, .int fe, .ref bU])), (bK, .inl (cI, 60, .inl K)), (bF, .inl (cI, 60, .inl F)), (bS, .inl (cI, 60, .inl S)), (bB, .inl (cZ, 60, .inl B)), (bL, .inl (cI, 4, .inl L)), (bT, .inl (cI, 4, .inl T)), (bU, .inl (cI, 6, .inl U))]) [0, 1, 2, 3, 4, 5, 6, 7] (by decide) rfl
  have hKc := hK.sub (tys' := [(cI, .int), (cZ, .boolean)]) [0, 1] rfl
  have hFc := va_free (wc := [(mo, .inr (2, [.int 0, .ref bL, .ref bT, .int (nI n), .ref bK, .ref bF, .ref bS, .ref bB, .int co, .int pl, .int st, .int jo, .int cn, .int ii, .int fi, .int fe, .ref bU])), (bK, .inl (cI, 60, .inl K)), (bF, .inl (cI, 60, .inl F)), (bS, .inl (cI, 60, .inl S)), (bB, .inl (cZ, 60, .inl B)), (bL, .inl (cI, 4, .inl L)), (bT, .inl (cI, 4, .inl T)), (bU, .inl (cI, 6, .inl U))]) hD hS hA [0, 1, 2, 3, 4, 5, 6, 7] rfl
  refine va_calli (va_runV (As := [.int w]) (rest := []) ⟨hx, hb, hml, hown, hts⟩ (c_X2_counted l dC dI cI cZ mo bK bF bS bB bL bT bU H_2.size L T K F S B U n 0 co pl st jo cn ii fi fe w (hX)) (cwV 1 hts gX2_count_X2_counted rfl rfl rfl (by decide +kernel) ⟨Nat.le_of_ble_eq_true rfl, Nat.le_of_ble_eq_true rfl⟩) (pc_V hKc hPc hDc (ci := 2) (C := RX2) (T := TX2) (N := 17) (q0 := 0) rfl rfl) rfl rfl hl.1 rfl (lv_room (Nat.le_of_ble_eq_true rfl)) dX2_count_16 ⟨Nat.le_of_ble_eq_true rfl, Nat.le_of_ble_eq_true rfl⟩) hS (fun q _ h => hFc q h) hFc (fun r_3 u t H_3 locs ht hvm hw hB hz1 hk1 hS => ?_)
  obtain ⟨co1_3, pl1_3, st1_3, jo1_3, cn1_3, ii1_3, fi1_3, fe1_3, U1_3⟩ := u
  try dsimp only at hw hB
  have hw_3 := hw
  replace hw_3 := hw_3.symm
  subst hw_3
  obtain ⟨hP1, hD1⟩ := hB
  rw [ht] at hP1
  obtain ⟨hP, hD⟩ := va_join (wr := []) (w1 := [(mo, .inr (2, [.int 0, .ref bL, .ref bT, .int (nI n), .ref bK, .ref bF, .ref bS, .ref bB, .int co1_3, .int pl1_3, .int st1_3, .int jo1_3, .int cn1_3, .int ii1_3, .int fi1_3, .int fe1_3, .ref bU])), (bK, .inl (cI, 60, .inl K)), (bF, .inl (cI, 60, .inl F)), (bS, .inl (cI, 60, .inl S)), (bB, .inl (cZ, 60, .inl B)), (bL, .inl (cI, 4, .inl L)), (bT, .inl (cI, 4, .inl T)), (bU, .inl (cI, 6, .inl U1_3))]) hP hD [0, 1, 2, 3, 4, 5, 6, 7] [] rfl rfl (by decide) (by decide) hk1 hFc hP1 hD1
  have hP : va_P (dC, dI) vwCl [(mo, .inr (2, [.int 0, .ref bL, .ref bT, .int (nI n), .ref bK, .ref bF, .ref bS, .ref bB, .int co1_3, .int pl1_3, .int st1_3, .int jo1_3, .int cn1_3, .int ii1_3, .int fi1_3, .int fe1_3, .ref bU])), (bK, .inl (cI, 60, .inl K)), (bF, .inl (cI, 60, .inl F)), (bS, .inl (cI, 60, .inl S)), (bB, .inl (cZ, 60, .inl B)), (bL, .inl (cI, 4, .inl L)), (bT, .inl (cI, 4, .inl T)), (bU, .inl (cI, 6, .inl U1_3))] H_3 := hP
  have hD : va_D A [(mo, .inr (2, [.int 0, .ref bL, .ref bT, .int (nI n), .ref bK, .ref bF, .ref bS, .ref bB, .int co1_3, .int pl1_3, .int st1_3, .int jo1_3, .int cn1_3, .int ii1_3, .int fi1_3, .int fe1_3, .ref bU])), (bK, .inl (cI, 60, .inl K)), (bF, .inl (cI, 60, .inl F)), (bS, .inl (cI, 60, .inl S)), (bB, .inl (cZ, 60, .inl B)), (bL, .inl (cI, 4, .inl L)), (bT, .inl (cI, 4, .inl T)), (bU, .inl (cI, 6, .inl U1_3))] := hD
  refine lv_goto (tgt := 27) hx hb dX2_count_19 (by decide) ?_
  have hpost : (aCount n w (cRec L T K F S B n)) = aCount n w (cRec L T K F S B n) := by
    rfl
  have hP9 := hP.sub (ws' := [(mo, .inr (2, [.int 0, .ref bL, .ref bT, .int (nI n), .ref bK, .ref bF, .ref bS, .ref bB, .int co1_3, .int pl1_3, .int st1_3, .int jo1_3, .int cn1_3, .int ii1_3, .int fi1_3, .int fe1_3, .ref bU])), (bK, .inl (cI, 60, .inl K)), (bF, .inl (cI, 60, .inl F)), (bS, .inl (cI, 60, .inl S)), (bB, .inl (cZ, 60, .inl B)), (bL, .inl (cI, 4, .inl L)), (bT, .inl (cI, 4, .inl T)), (bU, .inl (cI, 6, .inl U1_3))]) [0, 1, 2, 3, 4, 5, 6, 7] rfl
  have hD9 := hD.sub (ws' := [(mo, .inr (2, [.int 0, .ref bL, .ref bT, .int (nI n), .ref bK, .ref bF, .ref bS, .ref bB, .int co1_3, .int pl1_3, .int st1_3, .int jo1_3, .int cn1_3, .int ii1_3, .int fi1_3, .int fe1_3, .ref bU])), (bK, .inl (cI, 60, .inl K)), (bF, .inl (cI, 60, .inl F)), (bS, .inl (cI, 60, .inl S)), (bB, .inl (cZ, 60, .inl B)), (bL, .inl (cI, 4, .inl L)), (bT, .inl (cI, 4, .inl T)), (bU, .inl (cI, 6, .inl U1_3))]) [0, 1, 2, 3, 4, 5, 6, 7] (by decide) rfl
  exact W.iret (v := aCount n w (cRec L T K F S B n)) hx hb hr (fun t ht hW => ⟨⟨(aCount n w (cRec L T K F S B n)), (co1_3, pl1_3, st1_3, jo1_3, cn1_3, ii1_3, fi1_3, fe1_3, U1_3), rfl, hpost, by rw [ht]; exact hP9, hD9⟩, hS.F ht⟩) hS.2.2 dX2_count_27

set_option maxHeartbeats 4000000 in
set_option maxRecDepth 100000 in
theorem c_X2_count_f1 (l : Launch) (dC : Nat → ClassId) (dI : Nat → Nat → Nat) (cI cZ : ClassId) (mo bK bF bS bB bL bT bU : Nat) (sz : Nat) (L : N2I) (T : N2I) (K : N2I) (F : N2I) (S : N2I) (B : N2I) (U : N2I) (n : Nat) (tw : Int32) (co : Int32) (pl : Int32) (st : Int32) (jo : Int32) (cn : Int32) (ii : Int32) (fi : Int32) (fe : Int32) (w : Int32) (hb0 : w < 0 ∨ 5 < w) : Met l yX2_count wsX2_count ({ frames := 6, cells := 0, slots := 0, locals := 129 } : Room) (va_Pc [.ref mo, .int w] (pc_ (dC, dI) [(cI, .int), (cZ, .boolean)] [(mo, .inr (2, [.int tw, .ref bL, .ref bT, .int (nI n), .ref bK, .ref bF, .ref bS, .ref bB, .int co, .int pl, .int st, .int jo, .int cn, .int ii, .int fi, .int fe, .ref bU])), (bK, .inl (cI, 60, .inl K)), (bF, .inl (cI, 60, .inl F)), (bS, .inl (cI, 60, .inl S)), (bB, .inl (cZ, 60, .inl B)), (bL, .inl (cI, 4, .inl L)), (bT, .inl (cI, 4, .inl T)), (bU, .inl (cI, 6, .inl U))] sz)) (va_Qi (fun (r : Int32) (u : Unit) => r = 0) (fun (u : Unit) (t : State) => va_P (dC, dI) vwCl [(mo, .inr (2, [.int 1, .ref bL, .ref bT, .int (nI n), .ref bK, .ref bF, .ref bS, .ref bB, .int co, .int pl, .int st, .int jo, .int cn, .int ii, .int fi, .int fe, .ref bU])), (bK, .inl (cI, 60, .inl K)), (bF, .inl (cI, 60, .inl F)), (bS, .inl (cI, 60, .inl S)), (bB, .inl (cZ, 60, .inl B)), (bL, .inl (cI, 4, .inl L)), (bT, .inl (cI, 4, .inl T)), (bU, .inl (cI, 6, .inl U))] t.heap ∧ va_D (va_A [(mo, .inr (2, [.int tw, .ref bL, .ref bT, .int (nI n), .ref bK, .ref bF, .ref bS, .ref bB, .int co, .int pl, .int st, .int jo, .int cn, .int ii, .int fi, .int fe, .ref bU])), (bK, .inl (cI, 60, .inl K)), (bF, .inl (cI, 60, .inl F)), (bS, .inl (cI, 60, .inl S)), (bB, .inl (cZ, 60, .inl B)), (bL, .inl (cI, 4, .inl L)), (bT, .inl (cI, 4, .inl T)), (bU, .inl (cI, 6, .inl U))] sz) [(mo, .inr (2, [.int 1, .ref bL, .ref bT, .int (nI n), .ref bK, .ref bF, .ref bS, .ref bB, .int co, .int pl, .int st, .int jo, .int cn, .int ii, .int fi, .int fe, .ref bU])), (bK, .inl (cI, 60, .inl K)), (bF, .inl (cI, 60, .inl F)), (bS, .inl (cI, 60, .inl S)), (bB, .inl (cZ, 60, .inl B)), (bL, .inl (cI, 4, .inl L)), (bT, .inl (cI, 4, .inl T)), (bU, .inl (cI, 6, .inl U))]) (va_A [(mo, .inr (2, [.int tw, .ref bL, .ref bT, .int (nI n), .ref bK, .ref bF, .ref bS, .ref bB, .int co, .int pl, .int st, .int jo, .int cn, .int ii, .int fi, .int fe, .ref bU])), (bK, .inl (cI, 60, .inl K)), (bF, .inl (cI, 60, .inl F)), (bS, .inl (cI, 60, .inl S)), (bB, .inl (cZ, 60, .inl B)), (bL, .inl (cI, 4, .inl L)), (bT, .inl (cI, 4, .inl T)), (bU, .inl (cI, 6, .inl U))] sz)) 0 0 (va_A [(mo, .inr (2, [.int tw, .ref bL, .ref bT, .int (nI n), .ref bK, .ref bF, .ref bS, .ref bB, .int co, .int pl, .int st, .int jo, .int cn, .int ii, .int fi, .int fe, .ref bU])), (bK, .inl (cI, 60, .inl K)), (bF, .inl (cI, 60, .inl F)), (bS, .inl (cI, 60, .inl S)), (bB, .inl (cZ, 60, .inl B)), (bL, .inl (cI, 4, .inl L)), (bT, .inl (cI, 4, .inl T)), (bU, .inl (cI, 6, .inl U))] sz) := by
  refine Met.ofW (cc := cX2_count) (maxL := 2) (ret := (some .int)) (by decide) rfl ?_
  intro p e s m args below meth c s₁ BB hml hv
  obtain ⟨rfl, hsz, hP, hK, hD0⟩ := hv
  have hx := BB.exec
  have hb := BB.bytes
  have hr := BB.returns
  have hts := atoms_spec (ws := wsX2_count) BB.pre
  have hown : s.vm.findClass RX2 = some m.cls := findClass_of_methodNamed BB.named
  have hlocks := BB.notSynchronized
  subst hsz
  have hD := hD0.self (sz := s.heap.size)
  generalize hAe : va_A [(mo, .inr (2, [.int tw, .ref bL, .ref bT, .int (nI n), .ref bK, .ref bF, .ref bS, .ref bB, .int co, .int pl, .int st, .int jo, .int cn, .int ii, .int fi, .int fe, .ref bU])), (bK, .inl (cI, 60, .inl K)), (bF, .inl (cI, 60, .inl F)), (bS, .inl (cI, 60, .inl S)), (bB, .inl (cZ, 60, .inl B)), (bL, .inl (cI, 4, .inl L)), (bT, .inl (cI, 4, .inl T)), (bU, .inl (cI, 6, .inl U))] s.heap.size = A at hD ⊢
  have hA : ∀ q : Nat, s.heap.size ≤ q → A q := fun q h => by rw [← hAe]; exact Or.inr h
  have hS : va_S A s.heap s.heap [] := va_S.rf
  have hP : va_P (dC, dI) vwCl [(mo, .inr (2, [.int tw, .ref bL, .ref bT, .int (nI n), .ref bK, .ref bF, .ref bS, .ref bB, .int co, .int pl, .int st, .int jo, .int cn, .int ii, .int fi, .int fe, .ref bU])), (bK, .inl (cI, 60, .inl K)), (bF, .inl (cI, 60, .inl F)), (bS, .inl (cI, 60, .inl S)), (bB, .inl (cZ, 60, .inl B)), (bL, .inl (cI, 4, .inl L)), (bT, .inl (cI, 4, .inl T)), (bU, .inl (cI, 6, .inl U))] s.heap := hP
  have hl := lv_entry ([.ref mo, .int w]) (n := 2) (Nat.le_of_ble_eq_true rfl)
  rw [lg_entry_eq]
  generalize (lg_sl ([.ref mo, .int w]) ++ List.replicate (2 - (lg_sl ([.ref mo, .int w])).length) Slot.unset).toArray = ls at hl ⊢
  have hl : lv_has ls 2 [(0, .ref mo), (1, .int w)] := hl
  have k0 := hts (.fieldLink RX2 32 "KnifeLedgerModel" "thrown" "I") (by decide +kernel)
  have hinX2 : ∀ w ∈ wsX20, w ∈ wsX2_count := by decide +kernel
  refine lv_aload_n hx hb dX2_count_0 rfl (lv_at hl 0 rfl) ?_
  refine lv_iconst (v := 0) hx hb dX2_count_1 (by decide) ?_
  refine va_put (D := (dC, dI)) (ci := 2) (v := .int 0) (ty := .int) (C := RX2) (T := TX2) (N := 17) hx hb hts hinX2 tyX2 tyX2_ok nmX2 hown hK hP hD hS 0 rfl rfl 0 (by decide) k0 (fun _ h9 => h9) rfl (by decide +kernel) rfl rfl (Nat.le_of_ble_eq_true rfl) dX2_count_2 (fun H_1 locs hP hD hS => ?_)
  have hP : va_P (dC, dI) vwCl [(mo, .inr (2, [.int 0, .ref bL, .ref bT, .int (nI n), .ref bK, .ref bF, .ref bS, .ref bB, .int co, .int pl, .int st, .int jo, .int cn, .int ii, .int fi, .int fe, .ref bU])), (bK, .inl (cI, 60, .inl K)), (bF, .inl (cI, 60, .inl F)), (bS, .inl (cI, 60, .inl S)), (bB, .inl (cZ, 60, .inl B)), (bL, .inl (cI, 4, .inl L)), (bT, .inl (cI, 4, .inl T)), (bU, .inl (cI, 6, .inl U))] H_1 := hP
  have hD : va_D A [(mo, .inr (2, [.int 0, .ref bL, .ref bT, .int (nI n), .ref bK, .ref bF, .ref bS, .ref bB, .int co, .int pl, .int st, .int jo, .int cn, .int ii, .int fi, .int fe, .ref bU])), (bK, .inl (cI, 60, .inl K)), (bF, .inl (cI, 60, .inl F)), (bS, .inl (cI, 60, .inl S)), (bB, .inl (cZ, 60, .inl B)), (bL, .inl (cI, 4, .inl L)), (bT, .inl (cI, 4, .inl T)), (bU, .inl (cI, 6, .inl U))] := hD
  refine lv_iload_n hx hb dX2_count_5 rfl (lv_at hl 1 rfl) ?_
  refine lv_iconst (v := 0) hx hb dX2_count_6 (by decide) ?_
  refine lv_iconst (v := 5) hx hb dX2_count_7 (by decide) ?_
  have hPc := hP.sub (ws' := []) [] rfl
  have hDc := hD.sub (ws' := []) [] (by decide) rfl
  have hKc := hK.sub (tys' := []) [] rfl
  have hFc := va_free (wc := []) hD hS hA [] rfl
  refine va_calli (va_runS (As := [.int w, .int 0, .int 5]) (rest := []) ⟨hx, hb, hml, hown, hts⟩ (c_X2_isIn l dC dI H_1.size w 0 5) (va_cwS 3 hts gX2_count_X2_isIn rfl rfl rfl (by decide +kernel) ⟨Nat.le_of_ble_eq_true rfl, Nat.le_of_ble_eq_true rfl⟩) (pc_S hKc hPc hDc) rfl rfl hl.1 rfl (lv_room (Nat.le_of_ble_eq_true rfl)) dX2_count_8 ⟨Nat.le_of_ble_eq_true rfl, Nat.le_of_ble_eq_true rfl⟩) hS (fun q _ h => hFc q h) hFc (fun r_2 u t H_2 locs ht hvm hw hB hz1 hk1 hS => ?_)
  try dsimp only at hw hB
  have hw_2 := hw
  replace hw_2 := hw_2.symm
  subst hw_2
  obtain ⟨hP1, hD1⟩ := hB
  rw [ht] at hP1
  obtain ⟨hP, hD⟩ := va_join (wr := [(mo, .inr (2, [.int 0, .ref bL, .ref bT, .int (nI n), .ref bK, .ref bF, .ref bS, .ref bB, .int co, .int pl, .int st, .int jo, .int cn, .int ii, .int fi, .int fe, .ref bU])), (bK, .inl (cI, 60, .inl K)), (bF, .inl (cI, 60, .inl F)), (bS, .inl (cI, 60, .inl S)), (bB, .inl (cZ, 60, .inl B)), (bL, .inl (cI, 4, .inl L)), (bT, .inl (cI, 4, .inl T)), (bU, .inl (cI, 6, .inl U))]) (w1 := []) hP hD [] [0, 1, 2, 3, 4, 5, 6, 7] rfl rfl (by decide) (by decide) hk1 hFc hP1 hD1
  have hP : va_P (dC, dI) vwCl [(mo, .inr (2, [.int 0, .ref bL, .ref bT, .int (nI n), .ref bK, .ref bF, .ref bS, .ref bB, .int co, .int pl, .int st, .int jo, .int cn, .int ii, .int fi, .int fe, .ref bU])), (bK, .inl (cI, 60, .inl K)), (bF, .inl (cI, 60, .inl F)), (bS, .inl (cI, 60, .inl S)), (bB, .inl (cZ, 60, .inl B)), (bL, .inl (cI, 4, .inl L)), (bT, .inl (cI, 4, .inl T)), (bU, .inl (cI, 6, .inl U))] H_2 := hP
  have hD : va_D A [(mo, .inr (2, [.int 0, .ref bL, .ref bT, .int (nI n), .ref bK, .ref bF, .ref bS, .ref bB, .int co, .int pl, .int st, .int jo, .int cn, .int ii, .int fi, .int fe, .ref bU])), (bK, .inl (cI, 60, .inl K)), (bF, .inl (cI, 60, .inl F)), (bS, .inl (cI, 60, .inl S)), (bB, .inl (cZ, 60, .inl B)), (bL, .inl (cI, 4, .inl L)), (bT, .inl (cI, 4, .inl T)), (bU, .inl (cI, 6, .inl U))] := hD
  refine lv_if_eq (tgt := 22) hx hb dX2_count_11 (by decide) (fun _ => ?_) (fun h9 => absurd (mIn_bad hb0) h9)
  refine lv_aload_n hx hb dX2_count_22 rfl (lv_at hl 0 rfl) ?_
  refine lv_iconst (v := 1) hx hb dX2_count_23 (by decide) ?_
  have hPc := hP.sub (ws' := [(mo, .inr (2, [.int 0, .ref bL, .ref bT, .int (nI n), .ref bK, .ref bF, .ref bS, .ref bB, .int co, .int pl, .int st, .int jo, .int cn, .int ii, .int fi, .int fe, .ref bU])), (bK, .inl (cI, 60, .inl K)), (bF, .inl (cI, 60, .inl F)), (bS, .inl (cI, 60, .inl S)), (bB, .inl (cZ, 60, .inl B)), (bL, .inl (cI, 4, .inl L)), (bT, .inl (cI, 4, .inl T)), (bU, .inl (cI, 6, .inl U))]) [0, 1, 2, 3, 4, 5, 6, 7] rfl
  have hDc := hD.sub (ws' := [(mo, .inr (2, [.int 0, .ref bL, .ref bT, .int (nI n), .ref bK, .ref bF, .ref bS, .ref bB, .int co, .int pl, .int st, .int jo, .int cn, .int ii, .int fi, .int fe, .ref bU])), (bK, .inl (cI, 60, .inl K)), (bF, .inl (cI, 60, .inl F)), (bS, .inl (cI, 60, .inl S)), (bB, .inl (cZ, 60, .inl B)), (bL, .inl (cI, 4, .inl L)), (bT, .inl (cI, 4, .inl T)), (bU, .inl (cI, 6, .inl U))]) [0, 1, 2, 3, 4, 5, 6, 7] (by decide) rfl
  have hKc := hK.sub (tys' := [(cI, .int), (cZ, .boolean)]) [0, 1] rfl
  have hFc := va_free (wc := [(mo, .inr (2, [.int 0, .ref bL, .ref bT, .int (nI n), .ref bK, .ref bF, .ref bS, .ref bB, .int co, .int pl, .int st, .int jo, .int cn, .int ii, .int fi, .int fe, .ref bU])), (bK, .inl (cI, 60, .inl K)), (bF, .inl (cI, 60, .inl F)), (bS, .inl (cI, 60, .inl S)), (bB, .inl (cZ, 60, .inl B)), (bL, .inl (cI, 4, .inl L)), (bT, .inl (cI, 4, .inl T)), (bU, .inl (cI, 6, .inl U))]) hD hS hA [0, 1, 2, 3, 4, 5, 6, 7] rfl
  refine va_calli (va_runV (As := [.int 1]) (rest := []) ⟨hx, hb, hml, hown, hts⟩ (c_X2_fail l dC dI cI cZ mo bK bF bS bB bL bT bU H_2.size L T K F S B U n 0 co pl st jo cn ii fi fe 1) (cwV 1 hts gX2_count_X2_fail rfl rfl rfl (by decide +kernel) ⟨Nat.le_of_ble_eq_true rfl, Nat.le_of_ble_eq_true rfl⟩) (pc_V hKc hPc hDc (ci := 2) (C := RX2) (T := TX2) (N := 17) (q0 := 0) rfl rfl) rfl rfl hl.1 rfl (lv_room (Nat.le_of_ble_eq_true rfl)) dX2_count_24 ⟨Nat.le_of_ble_eq_true rfl, Nat.le_of_ble_eq_true rfl⟩) hS (fun q _ h => hFc q h) hFc (fun r_3 u t H_3 locs ht hvm hw hB hz1 hk1 hS => ?_)
  try dsimp only at hw hB
  have hw_3 := hw
  replace hw_3 := hw_3.symm
  subst hw_3
  obtain ⟨hP1, hD1⟩ := hB
  rw [ht] at hP1
  obtain ⟨hP, hD⟩ := va_join (wr := []) (w1 := [(mo, .inr (2, [.int 1, .ref bL, .ref bT, .int (nI n), .ref bK, .ref bF, .ref bS, .ref bB, .int co, .int pl, .int st, .int jo, .int cn, .int ii, .int fi, .int fe, .ref bU])), (bK, .inl (cI, 60, .inl K)), (bF, .inl (cI, 60, .inl F)), (bS, .inl (cI, 60, .inl S)), (bB, .inl (cZ, 60, .inl B)), (bL, .inl (cI, 4, .inl L)), (bT, .inl (cI, 4, .inl T)), (bU, .inl (cI, 6, .inl U))]) hP hD [0, 1, 2, 3, 4, 5, 6, 7] [] rfl rfl (by decide) (by decide) hk1 hFc hP1 hD1
  have hP : va_P (dC, dI) vwCl [(mo, .inr (2, [.int 1, .ref bL, .ref bT, .int (nI n), .ref bK, .ref bF, .ref bS, .ref bB, .int co, .int pl, .int st, .int jo, .int cn, .int ii, .int fi, .int fe, .ref bU])), (bK, .inl (cI, 60, .inl K)), (bF, .inl (cI, 60, .inl F)), (bS, .inl (cI, 60, .inl S)), (bB, .inl (cZ, 60, .inl B)), (bL, .inl (cI, 4, .inl L)), (bT, .inl (cI, 4, .inl T)), (bU, .inl (cI, 6, .inl U))] H_3 := hP
  have hD : va_D A [(mo, .inr (2, [.int 1, .ref bL, .ref bT, .int (nI n), .ref bK, .ref bF, .ref bS, .ref bB, .int co, .int pl, .int st, .int jo, .int cn, .int ii, .int fi, .int fe, .ref bU])), (bK, .inl (cI, 60, .inl K)), (bF, .inl (cI, 60, .inl F)), (bS, .inl (cI, 60, .inl S)), (bB, .inl (cZ, 60, .inl B)), (bL, .inl (cI, 4, .inl L)), (bT, .inl (cI, 4, .inl T)), (bU, .inl (cI, 6, .inl U))] := hD
  have hpost : (0 : Int32) = 0 := by
    rfl
  have hP9 := hP.sub (ws' := [(mo, .inr (2, [.int 1, .ref bL, .ref bT, .int (nI n), .ref bK, .ref bF, .ref bS, .ref bB, .int co, .int pl, .int st, .int jo, .int cn, .int ii, .int fi, .int fe, .ref bU])), (bK, .inl (cI, 60, .inl K)), (bF, .inl (cI, 60, .inl F)), (bS, .inl (cI, 60, .inl S)), (bB, .inl (cZ, 60, .inl B)), (bL, .inl (cI, 4, .inl L)), (bT, .inl (cI, 4, .inl T)), (bU, .inl (cI, 6, .inl U))]) [0, 1, 2, 3, 4, 5, 6, 7] rfl
  have hD9 := hD.sub (ws' := [(mo, .inr (2, [.int 1, .ref bL, .ref bT, .int (nI n), .ref bK, .ref bF, .ref bS, .ref bB, .int co, .int pl, .int st, .int jo, .int cn, .int ii, .int fi, .int fe, .ref bU])), (bK, .inl (cI, 60, .inl K)), (bF, .inl (cI, 60, .inl F)), (bS, .inl (cI, 60, .inl S)), (bB, .inl (cZ, 60, .inl B)), (bL, .inl (cI, 4, .inl L)), (bT, .inl (cI, 4, .inl T)), (bU, .inl (cI, 6, .inl U))]) [0, 1, 2, 3, 4, 5, 6, 7] (by decide) rfl
  exact W.iret (v := 0) hx hb hr (fun t ht hW => ⟨⟨0, (), rfl, hpost, by rw [ht]; exact hP9, hD9⟩, hS.F ht⟩) hS.2.2 dX2_count_27

set_option maxHeartbeats 4000000 in
set_option maxRecDepth 100000 in
theorem c_X2_coinsNow (l : Launch) (dC : Nat → ClassId) (dI : Nat → Nat → Nat) (cI cZ : ClassId) (mo bK bF bS bB bL bT bU : Nat) (sz : Nat) (L : N2I) (T : N2I) (K : N2I) (F : N2I) (S : N2I) (B : N2I) (U : N2I) (n : Nat) (tw : Int32) (co : Int32) (pl : Int32) (st : Int32) (jo : Int32) (cn : Int32) (ii : Int32) (fi : Int32) (fe : Int32) (hX : okX K F S B n) : Met l yX2_coinsNow wsX2_coinsNow ({ frames := 5, cells := 0, slots := 0, locals := 106 } : Room) (va_Pc [.ref mo] (pc_ (dC, dI) [(cI, .int), (cZ, .boolean)] [(mo, .inr (2, [.int tw, .ref bL, .ref bT, .int (nI n), .ref bK, .ref bF, .ref bS, .ref bB, .int co, .int pl, .int st, .int jo, .int cn, .int ii, .int fi, .int fe, .ref bU])), (bK, .inl (cI, 60, .inl K)), (bF, .inl (cI, 60, .inl F)), (bS, .inl (cI, 60, .inl S)), (bB, .inl (cZ, 60, .inl B)), (bL, .inl (cI, 4, .inl L)), (bT, .inl (cI, 4, .inl T)), (bU, .inl (cI, 6, .inl U))] sz)) (va_Qi (fun (r : Int32) (u : Int32 × Int32 × Int32 × Int32 × Int32 × Int32 × Int32 × Int32 × N2I) => r = aCo L T K F S B n (-1)) (fun (u : Int32 × Int32 × Int32 × Int32 × Int32 × Int32 × Int32 × Int32 × N2I) (t : State) => va_P (dC, dI) vwCl [(mo, .inr (2, [.int tw, .ref bL, .ref bT, .int (nI n), .ref bK, .ref bF, .ref bS, .ref bB, .int u.1, .int u.2.1, .int u.2.2.1, .int u.2.2.2.1, .int u.2.2.2.2.1, .int u.2.2.2.2.2.1, .int u.2.2.2.2.2.2.1, .int u.2.2.2.2.2.2.2.1, .ref bU])), (bK, .inl (cI, 60, .inl K)), (bF, .inl (cI, 60, .inl F)), (bS, .inl (cI, 60, .inl S)), (bB, .inl (cZ, 60, .inl B)), (bL, .inl (cI, 4, .inl L)), (bT, .inl (cI, 4, .inl T)), (bU, .inl (cI, 6, .inl u.2.2.2.2.2.2.2.2))] t.heap ∧ va_D (va_A [(mo, .inr (2, [.int tw, .ref bL, .ref bT, .int (nI n), .ref bK, .ref bF, .ref bS, .ref bB, .int co, .int pl, .int st, .int jo, .int cn, .int ii, .int fi, .int fe, .ref bU])), (bK, .inl (cI, 60, .inl K)), (bF, .inl (cI, 60, .inl F)), (bS, .inl (cI, 60, .inl S)), (bB, .inl (cZ, 60, .inl B)), (bL, .inl (cI, 4, .inl L)), (bT, .inl (cI, 4, .inl T)), (bU, .inl (cI, 6, .inl U))] sz) [(mo, .inr (2, [.int tw, .ref bL, .ref bT, .int (nI n), .ref bK, .ref bF, .ref bS, .ref bB, .int u.1, .int u.2.1, .int u.2.2.1, .int u.2.2.2.1, .int u.2.2.2.2.1, .int u.2.2.2.2.2.1, .int u.2.2.2.2.2.2.1, .int u.2.2.2.2.2.2.2.1, .ref bU])), (bK, .inl (cI, 60, .inl K)), (bF, .inl (cI, 60, .inl F)), (bS, .inl (cI, 60, .inl S)), (bB, .inl (cZ, 60, .inl B)), (bL, .inl (cI, 4, .inl L)), (bT, .inl (cI, 4, .inl T)), (bU, .inl (cI, 6, .inl u.2.2.2.2.2.2.2.2))]) (va_A [(mo, .inr (2, [.int tw, .ref bL, .ref bT, .int (nI n), .ref bK, .ref bF, .ref bS, .ref bB, .int co, .int pl, .int st, .int jo, .int cn, .int ii, .int fi, .int fe, .ref bU])), (bK, .inl (cI, 60, .inl K)), (bF, .inl (cI, 60, .inl F)), (bS, .inl (cI, 60, .inl S)), (bB, .inl (cZ, 60, .inl B)), (bL, .inl (cI, 4, .inl L)), (bT, .inl (cI, 4, .inl T)), (bU, .inl (cI, 6, .inl U))] sz)) 0 0 (va_A [(mo, .inr (2, [.int tw, .ref bL, .ref bT, .int (nI n), .ref bK, .ref bF, .ref bS, .ref bB, .int co, .int pl, .int st, .int jo, .int cn, .int ii, .int fi, .int fe, .ref bU])), (bK, .inl (cI, 60, .inl K)), (bF, .inl (cI, 60, .inl F)), (bS, .inl (cI, 60, .inl S)), (bB, .inl (cZ, 60, .inl B)), (bL, .inl (cI, 4, .inl L)), (bT, .inl (cI, 4, .inl T)), (bU, .inl (cI, 6, .inl U))] sz) := by
  refine Met.ofW (cc := cX2_coinsNow) (maxL := 1) (ret := (some .int)) (by decide) rfl ?_
  intro p e s m args below meth c s₁ BB hml hv
  obtain ⟨rfl, hsz, hP, hK, hD0⟩ := hv
  have hx := BB.exec
  have hb := BB.bytes
  have hr := BB.returns
  have hts := atoms_spec (ws := wsX2_coinsNow) BB.pre
  have hown : s.vm.findClass RX2 = some m.cls := findClass_of_methodNamed BB.named
  have hlocks := BB.notSynchronized
  subst hsz
  have hD := hD0.self (sz := s.heap.size)
  generalize hAe : va_A [(mo, .inr (2, [.int tw, .ref bL, .ref bT, .int (nI n), .ref bK, .ref bF, .ref bS, .ref bB, .int co, .int pl, .int st, .int jo, .int cn, .int ii, .int fi, .int fe, .ref bU])), (bK, .inl (cI, 60, .inl K)), (bF, .inl (cI, 60, .inl F)), (bS, .inl (cI, 60, .inl S)), (bB, .inl (cZ, 60, .inl B)), (bL, .inl (cI, 4, .inl L)), (bT, .inl (cI, 4, .inl T)), (bU, .inl (cI, 6, .inl U))] s.heap.size = A at hD ⊢
  have hA : ∀ q : Nat, s.heap.size ≤ q → A q := fun q h => by rw [← hAe]; exact Or.inr h
  have hS : va_S A s.heap s.heap [] := va_S.rf
  have hP : va_P (dC, dI) vwCl [(mo, .inr (2, [.int tw, .ref bL, .ref bT, .int (nI n), .ref bK, .ref bF, .ref bS, .ref bB, .int co, .int pl, .int st, .int jo, .int cn, .int ii, .int fi, .int fe, .ref bU])), (bK, .inl (cI, 60, .inl K)), (bF, .inl (cI, 60, .inl F)), (bS, .inl (cI, 60, .inl S)), (bB, .inl (cZ, 60, .inl B)), (bL, .inl (cI, 4, .inl L)), (bT, .inl (cI, 4, .inl T)), (bU, .inl (cI, 6, .inl U))] s.heap := hP
  have hl := lv_entry ([.ref mo]) (n := 1) (Nat.le_of_ble_eq_true rfl)
  rw [lg_entry_eq]
  generalize (lg_sl ([.ref mo]) ++ List.replicate (1 - (lg_sl ([.ref mo])).length) Slot.unset).toArray = ls at hl ⊢
  have hl : lv_has ls 1 [(0, .ref mo)] := hl
  have k0 := hts (.fieldLink RX2 36 "KnifeLedgerModel" "entries" "I") (by decide +kernel)
  have hinX2 : ∀ w ∈ wsX20, w ∈ wsX2_coinsNow := by decide +kernel
  have k2 := hts (.fieldLink RX2 70 "KnifeLedgerModel" "coins" "I") (by decide +kernel)
  have hn6 : n ≤ 60 := hX.1
  refine lv_aload_n hx hb dX2_coinsNow_0 rfl (lv_at hl 0 rfl) ?_
  refine lv_aload_n hx hb dX2_coinsNow_1 rfl (lv_at hl 0 rfl) ?_
  refine va_get (D := (dC, dI)) (ci := 2) (v := .int (nI n)) (C := RX2) (T := TX2) (N := 17) hx hb hts hinX2 hown hK hP 0 rfl rfl 3 (by decide) k0 (fun _ h9 => h9) rfl dX2_coinsNow_2 ?_
  have hPc := hP.sub (ws' := [(mo, .inr (2, [.int tw, .ref bL, .ref bT, .int (nI n), .ref bK, .ref bF, .ref bS, .ref bB, .int co, .int pl, .int st, .int jo, .int cn, .int ii, .int fi, .int fe, .ref bU])), (bK, .inl (cI, 60, .inl K)), (bF, .inl (cI, 60, .inl F)), (bS, .inl (cI, 60, .inl S)), (bB, .inl (cZ, 60, .inl B)), (bL, .inl (cI, 4, .inl L)), (bT, .inl (cI, 4, .inl T)), (bU, .inl (cI, 6, .inl U))]) [0, 1, 2, 3, 4, 5, 6, 7] rfl
  have hDc := hD.sub (ws' := [(mo, .inr (2, [.int tw, .ref bL, .ref bT, .int (nI n), .ref bK, .ref bF, .ref bS, .ref bB, .int co, .int pl, .int st, .int jo, .int cn, .int ii, .int fi, .int fe, .ref bU])), (bK, .inl (cI, 60, .inl K)), (bF, .inl (cI, 60, .inl F)), (bS, .inl (cI, 60, .inl S)), (bB, .inl (cZ, 60, .inl B)), (bL, .inl (cI, 4, .inl L)), (bT, .inl (cI, 4, .inl T)), (bU, .inl (cI, 6, .inl U))]) [0, 1, 2, 3, 4, 5, 6, 7] (by decide) rfl
  have hKc := hK.sub (tys' := [(cI, .int), (cZ, .boolean)]) [0, 1] rfl
  have hFc := va_free (wc := [(mo, .inr (2, [.int tw, .ref bL, .ref bT, .int (nI n), .ref bK, .ref bF, .ref bS, .ref bB, .int co, .int pl, .int st, .int jo, .int cn, .int ii, .int fi, .int fe, .ref bU])), (bK, .inl (cI, 60, .inl K)), (bF, .inl (cI, 60, .inl F)), (bS, .inl (cI, 60, .inl S)), (bB, .inl (cZ, 60, .inl B)), (bL, .inl (cI, 4, .inl L)), (bT, .inl (cI, 4, .inl T)), (bU, .inl (cI, 6, .inl U))]) hD hS hA [0, 1, 2, 3, 4, 5, 6, 7] rfl
  refine va_calli (va_runV (As := [.int (nI n)]) (rest := []) ⟨hx, hb, hml, hown, hts⟩ (c_X2_reckon l dC dI cI cZ mo bK bF bS bB bL bT bU s.heap.size L T K F S B U n tw co pl st jo cn ii fi fe n (hX) (Nat.le_refl n)) (cwV 1 hts gX2_coinsNow_X2_reckon rfl rfl rfl (by decide +kernel) ⟨Nat.le_of_ble_eq_true rfl, Nat.le_of_ble_eq_true rfl⟩) (pc_V hKc hPc hDc (ci := 2) (C := RX2) (T := TX2) (N := 17) (q0 := 0) rfl rfl) rfl rfl hl.1 rfl (lv_room (Nat.le_of_ble_eq_true rfl)) dX2_coinsNow_5 ⟨Nat.le_of_ble_eq_true rfl, Nat.le_of_ble_eq_true rfl⟩) hS (fun q _ h => hFc q h) hFc (fun r_1 u t H_1 locs ht hvm hw hB hz1 hk1 hS => ?_)
  obtain ⟨co1_1, pl1_1, st1_1, jo1_1, cn1_1, ii1_1, fi1_1, fe1_1, U1_1⟩ := u
  try dsimp only at hw hB
  have hw_1 := hw
  obtain ⟨hw0_1, hw1_1⟩ := hw_1
  replace hw1_1 := hw1_1.symm
  subst hw1_1
  obtain ⟨hP1, hD1⟩ := hB
  rw [ht] at hP1
  obtain ⟨hP, hD⟩ := va_join (wr := []) (w1 := [(mo, .inr (2, [.int tw, .ref bL, .ref bT, .int (nI n), .ref bK, .ref bF, .ref bS, .ref bB, .int co1_1, .int pl1_1, .int st1_1, .int jo1_1, .int cn1_1, .int ii1_1, .int fi1_1, .int fe1_1, .ref bU])), (bK, .inl (cI, 60, .inl K)), (bF, .inl (cI, 60, .inl F)), (bS, .inl (cI, 60, .inl S)), (bB, .inl (cZ, 60, .inl B)), (bL, .inl (cI, 4, .inl L)), (bT, .inl (cI, 4, .inl T)), (bU, .inl (cI, 6, .inl U1_1))]) hP hD [0, 1, 2, 3, 4, 5, 6, 7] [] rfl rfl (by decide) (by decide) hk1 hFc hP1 hD1
  have hP : va_P (dC, dI) vwCl [(mo, .inr (2, [.int tw, .ref bL, .ref bT, .int (nI n), .ref bK, .ref bF, .ref bS, .ref bB, .int co1_1, .int pl1_1, .int st1_1, .int jo1_1, .int cn1_1, .int ii1_1, .int fi1_1, .int fe1_1, .ref bU])), (bK, .inl (cI, 60, .inl K)), (bF, .inl (cI, 60, .inl F)), (bS, .inl (cI, 60, .inl S)), (bB, .inl (cZ, 60, .inl B)), (bL, .inl (cI, 4, .inl L)), (bT, .inl (cI, 4, .inl T)), (bU, .inl (cI, 6, .inl U1_1))] H_1 := hP
  have hD : va_D A [(mo, .inr (2, [.int tw, .ref bL, .ref bT, .int (nI n), .ref bK, .ref bF, .ref bS, .ref bB, .int co1_1, .int pl1_1, .int st1_1, .int jo1_1, .int cn1_1, .int ii1_1, .int fi1_1, .int fe1_1, .ref bU])), (bK, .inl (cI, 60, .inl K)), (bF, .inl (cI, 60, .inl F)), (bS, .inl (cI, 60, .inl S)), (bB, .inl (cZ, 60, .inl B)), (bL, .inl (cI, 4, .inl L)), (bT, .inl (cI, 4, .inl T)), (bU, .inl (cI, 6, .inl U1_1))] := hD
  refine lv_pop hx hb dX2_coinsNow_8 rfl ?_
  refine lv_aload_n hx hb dX2_coinsNow_9 rfl (lv_at hl 0 rfl) ?_
  refine va_get (D := (dC, dI)) (ci := 2) (v := .int co1_1) (C := RX2) (T := TX2) (N := 17) hx hb hts hinX2 hown hK hP 0 rfl rfl 8 (by decide) k2 (fun _ h9 => h9) rfl dX2_coinsNow_10 ?_
  have hpost : co1_1 = aCo L T K F S B n (-1) := by
    exact aCo_now hX hw0_1
  have hP9 := hP.sub (ws' := [(mo, .inr (2, [.int tw, .ref bL, .ref bT, .int (nI n), .ref bK, .ref bF, .ref bS, .ref bB, .int co1_1, .int pl1_1, .int st1_1, .int jo1_1, .int cn1_1, .int ii1_1, .int fi1_1, .int fe1_1, .ref bU])), (bK, .inl (cI, 60, .inl K)), (bF, .inl (cI, 60, .inl F)), (bS, .inl (cI, 60, .inl S)), (bB, .inl (cZ, 60, .inl B)), (bL, .inl (cI, 4, .inl L)), (bT, .inl (cI, 4, .inl T)), (bU, .inl (cI, 6, .inl U1_1))]) [0, 1, 2, 3, 4, 5, 6, 7] rfl
  have hD9 := hD.sub (ws' := [(mo, .inr (2, [.int tw, .ref bL, .ref bT, .int (nI n), .ref bK, .ref bF, .ref bS, .ref bB, .int co1_1, .int pl1_1, .int st1_1, .int jo1_1, .int cn1_1, .int ii1_1, .int fi1_1, .int fe1_1, .ref bU])), (bK, .inl (cI, 60, .inl K)), (bF, .inl (cI, 60, .inl F)), (bS, .inl (cI, 60, .inl S)), (bB, .inl (cZ, 60, .inl B)), (bL, .inl (cI, 4, .inl L)), (bT, .inl (cI, 4, .inl T)), (bU, .inl (cI, 6, .inl U1_1))]) [0, 1, 2, 3, 4, 5, 6, 7] (by decide) rfl
  exact W.iret (v := co1_1) hx hb hr (fun t ht hW => ⟨⟨co1_1, (co1_1, pl1_1, st1_1, jo1_1, cn1_1, ii1_1, fi1_1, fe1_1, U1_1), rfl, hpost, by rw [ht]; exact hP9, hD9⟩, hS.F ht⟩) hS.2.2 dX2_coinsNow_13

set_option maxHeartbeats 4000000 in
set_option maxRecDepth 100000 in
theorem c_X2_coinsOther (l : Launch) (dC : Nat → ClassId) (dI : Nat → Nat → Nat) (cI cZ : ClassId) (mo bK bF bS bB bL bT bU : Nat) (sz : Nat) (L : N2I) (T : N2I) (K : N2I) (F : N2I) (S : N2I) (B : N2I) (U : N2I) (n : Nat) (tw : Int32) (co : Int32) (pl : Int32) (st : Int32) (jo : Int32) (cn : Int32) (ii : Int32) (fi : Int32) (fe : Int32) (i : Nat) (hX : okX K F S B n) (hi : i < n) : Met l yX2_coinsOther wsX2_coinsOther ({ frames := 6, cells := 0, slots := 0, locals := 126 } : Room) (va_Pc [.ref mo, .int (nI i)] (pc_ (dC, dI) [(cI, .int), (cZ, .boolean)] [(mo, .inr (2, [.int tw, .ref bL, .ref bT, .int (nI n), .ref bK, .ref bF, .ref bS, .ref bB, .int co, .int pl, .int st, .int jo, .int cn, .int ii, .int fi, .int fe, .ref bU])), (bK, .inl (cI, 60, .inl K)), (bF, .inl (cI, 60, .inl F)), (bS, .inl (cI, 60, .inl S)), (bB, .inl (cZ, 60, .inl B)), (bL, .inl (cI, 4, .inl L)), (bT, .inl (cI, 4, .inl T)), (bU, .inl (cI, 6, .inl U))] sz)) (va_Qi (fun (r : Int32) (u : Int32 × Int32 × Int32 × Int32 × Int32 × Int32 × Int32 × Int32 × N2I) => r = aCo L T K F S B n (nI i)) (fun (u : Int32 × Int32 × Int32 × Int32 × Int32 × Int32 × Int32 × Int32 × N2I) (t : State) => va_P (dC, dI) vwCl [(mo, .inr (2, [.int tw, .ref bL, .ref bT, .int (nI n), .ref bK, .ref bF, .ref bS, .ref bB, .int u.1, .int u.2.1, .int u.2.2.1, .int u.2.2.2.1, .int u.2.2.2.2.1, .int u.2.2.2.2.2.1, .int u.2.2.2.2.2.2.1, .int u.2.2.2.2.2.2.2.1, .ref bU])), (bK, .inl (cI, 60, .inl K)), (bF, .inl (cI, 60, .inl F)), (bS, .inl (cI, 60, .inl S)), (bB, .inl (cZ, 60, .inl B)), (bL, .inl (cI, 4, .inl L)), (bT, .inl (cI, 4, .inl T)), (bU, .inl (cI, 6, .inl u.2.2.2.2.2.2.2.2))] t.heap ∧ va_D (va_A [(mo, .inr (2, [.int tw, .ref bL, .ref bT, .int (nI n), .ref bK, .ref bF, .ref bS, .ref bB, .int co, .int pl, .int st, .int jo, .int cn, .int ii, .int fi, .int fe, .ref bU])), (bK, .inl (cI, 60, .inl K)), (bF, .inl (cI, 60, .inl F)), (bS, .inl (cI, 60, .inl S)), (bB, .inl (cZ, 60, .inl B)), (bL, .inl (cI, 4, .inl L)), (bT, .inl (cI, 4, .inl T)), (bU, .inl (cI, 6, .inl U))] sz) [(mo, .inr (2, [.int tw, .ref bL, .ref bT, .int (nI n), .ref bK, .ref bF, .ref bS, .ref bB, .int u.1, .int u.2.1, .int u.2.2.1, .int u.2.2.2.1, .int u.2.2.2.2.1, .int u.2.2.2.2.2.1, .int u.2.2.2.2.2.2.1, .int u.2.2.2.2.2.2.2.1, .ref bU])), (bK, .inl (cI, 60, .inl K)), (bF, .inl (cI, 60, .inl F)), (bS, .inl (cI, 60, .inl S)), (bB, .inl (cZ, 60, .inl B)), (bL, .inl (cI, 4, .inl L)), (bT, .inl (cI, 4, .inl T)), (bU, .inl (cI, 6, .inl u.2.2.2.2.2.2.2.2))]) (va_A [(mo, .inr (2, [.int tw, .ref bL, .ref bT, .int (nI n), .ref bK, .ref bF, .ref bS, .ref bB, .int co, .int pl, .int st, .int jo, .int cn, .int ii, .int fi, .int fe, .ref bU])), (bK, .inl (cI, 60, .inl K)), (bF, .inl (cI, 60, .inl F)), (bS, .inl (cI, 60, .inl S)), (bB, .inl (cZ, 60, .inl B)), (bL, .inl (cI, 4, .inl L)), (bT, .inl (cI, 4, .inl T)), (bU, .inl (cI, 6, .inl U))] sz)) 0 0 (va_A [(mo, .inr (2, [.int tw, .ref bL, .ref bT, .int (nI n), .ref bK, .ref bF, .ref bS, .ref bB, .int co, .int pl, .int st, .int jo, .int cn, .int ii, .int fi, .int fe, .ref bU])), (bK, .inl (cI, 60, .inl K)), (bF, .inl (cI, 60, .inl F)), (bS, .inl (cI, 60, .inl S)), (bB, .inl (cZ, 60, .inl B)), (bL, .inl (cI, 4, .inl L)), (bT, .inl (cI, 4, .inl T)), (bU, .inl (cI, 6, .inl U))] sz) := by
  refine Met.ofW (cc := cX2_coinsOther) (maxL := 3) (ret := (some .int)) (by decide) rfl ?_
  intro p e s m args below meth c s₁ BB hml hv
  obtain ⟨rfl, hsz, hP, hK, hD0⟩ := hv
  have hx := BB.exec
  have hb := BB.bytes
  have hr := BB.returns
  have hts := atoms_spec (ws := wsX2_coinsOther) BB.pre
  have hown : s.vm.findClass RX2 = some m.cls := findClass_of_methodNamed BB.named
  have hlocks := BB.notSynchronized
  subst hsz
  have hD := hD0.self (sz := s.heap.size)
  generalize hAe : va_A [(mo, .inr (2, [.int tw, .ref bL, .ref bT, .int (nI n), .ref bK, .ref bF, .ref bS, .ref bB, .int co, .int pl, .int st, .int jo, .int cn, .int ii, .int fi, .int fe, .ref bU])), (bK, .inl (cI, 60, .inl K)), (bF, .inl (cI, 60, .inl F)), (bS, .inl (cI, 60, .inl S)), (bB, .inl (cZ, 60, .inl B)), (bL, .inl (cI, 4, .inl L)), (bT, .inl (cI, 4, .inl T)), (bU, .inl (cI, 6, .inl U))] s.heap.size = A at hD ⊢
  have hA : ∀ q : Nat, s.heap.size ≤ q → A q := fun q h => by rw [← hAe]; exact Or.inr h
  have hS : va_S A s.heap s.heap [] := va_S.rf
  have hP : va_P (dC, dI) vwCl [(mo, .inr (2, [.int tw, .ref bL, .ref bT, .int (nI n), .ref bK, .ref bF, .ref bS, .ref bB, .int co, .int pl, .int st, .int jo, .int cn, .int ii, .int fi, .int fe, .ref bU])), (bK, .inl (cI, 60, .inl K)), (bF, .inl (cI, 60, .inl F)), (bS, .inl (cI, 60, .inl S)), (bB, .inl (cZ, 60, .inl B)), (bL, .inl (cI, 4, .inl L)), (bT, .inl (cI, 4, .inl T)), (bU, .inl (cI, 6, .inl U))] s.heap := hP
  have hl := lv_entry ([.ref mo, .int (nI i)]) (n := 3) (Nat.le_of_ble_eq_true rfl)
  rw [lg_entry_eq]
  generalize (lg_sl ([.ref mo, .int (nI i)]) ++ List.replicate (3 - (lg_sl ([.ref mo, .int (nI i)])).length) Slot.unset).toArray = ls at hl ⊢
  have hl : lv_has ls 3 [(0, .ref mo), (1, .int (nI i))] := hl
  have k0 := hts (.fieldLink RX2 25 "KnifeLedgerModel" "struck" "[Z") (by decide +kernel)
  have hinX2 : ∀ w ∈ wsX20, w ∈ wsX2_coinsOther := by decide +kernel
  have hn6 : n ≤ 60 := hX.1
  refine lv_aload_n hx hb dX2_coinsOther_0 rfl (lv_at hl 0 rfl) ?_
  refine va_get (D := (dC, dI)) (ci := 2) (v := .ref bB) (C := RX2) (T := TX2) (N := 17) hx hb hts hinX2 hown hK hP 0 rfl rfl 7 (by decide) k0 (fun _ h9 => h9) rfl dX2_coinsOther_1 ?_
  refine lv_iload_n hx hb dX2_coinsOther_4 rfl (lv_at hl 1 rfl) ?_
  refine lv_aload_n hx hb dX2_coinsOther_5 rfl (lv_at hl 0 rfl) ?_
  refine va_get (D := (dC, dI)) (ci := 2) (v := .ref bB) (C := RX2) (T := TX2) (N := 17) hx hb hts hinX2 hown hK hP 0 rfl rfl 7 (by decide) k0 (fun _ h9 => h9) rfl dX2_coinsOther_6 ?_
  refine lv_iload_n hx hb dX2_coinsOther_9 rfl (lv_at hl 1 rfl) ?_
  refine va_zald hx hb hK hP 4 1 rfl rfl (vp_in_nI (by omega) (by omega)) dX2_coinsOther_10 ?_
  rw [nI_clamp (n := i) (by omega)]
  refine lv_if_ne (tgt := 18) hx hb dX2_coinsOther_11 (by decide) (fun c_11 => ?_) (fun c_11 => ?_)
  · -- 11
    refine lv_iconst (v := 0) hx hb dX2_coinsOther_18 (by decide) ?_
    refine va_zast hx hb hK hP hD hS 4 1 rfl rfl (vp_in_nI (by omega) (by omega)) dX2_coinsOther_19 (fun H_1 locs hP hD hS => ?_)
    have hP : va_P (dC, dI) vwCl [(mo, .inr (2, [.int tw, .ref bL, .ref bT, .int (nI n), .ref bK, .ref bF, .ref bS, .ref bB, .int co, .int pl, .int st, .int jo, .int cn, .int ii, .int fi, .int fe, .ref bU])), (bK, .inl (cI, 60, .inl K)), (bF, .inl (cI, 60, .inl F)), (bS, .inl (cI, 60, .inl S)), (bB, .inl (cZ, 60, .inl (upd B ((nI i).toNatClampNeg) 0))), (bL, .inl (cI, 4, .inl L)), (bT, .inl (cI, 4, .inl T)), (bU, .inl (cI, 6, .inl U))] H_1 := hP
    have hD : va_D A [(mo, .inr (2, [.int tw, .ref bL, .ref bT, .int (nI n), .ref bK, .ref bF, .ref bS, .ref bB, .int co, .int pl, .int st, .int jo, .int cn, .int ii, .int fi, .int fe, .ref bU])), (bK, .inl (cI, 60, .inl K)), (bF, .inl (cI, 60, .inl F)), (bS, .inl (cI, 60, .inl S)), (bB, .inl (cZ, 60, .inl (upd B ((nI i).toNatClampNeg) 0))), (bL, .inl (cI, 4, .inl L)), (bT, .inl (cI, 4, .inl T)), (bU, .inl (cI, 6, .inl U))] := hD
    rw [nI_clamp (by omega)] at hP hD
    have hP : va_P (dC, dI) vwCl [(mo, .inr (2, [.int tw, .ref bL, .ref bT, .int (nI n), .ref bK, .ref bF, .ref bS, .ref bB, .int co, .int pl, .int st, .int jo, .int cn, .int ii, .int fi, .int fe, .ref bU])), (bK, .inl (cI, 60, .inl K)), (bF, .inl (cI, 60, .inl F)), (bS, .inl (cI, 60, .inl S)), (bB, .inl (cZ, 60, .inl (upd B (i) 0))), (bL, .inl (cI, 4, .inl L)), (bT, .inl (cI, 4, .inl T)), (bU, .inl (cI, 6, .inl U))] H_1 := hP
    have hD : va_D A [(mo, .inr (2, [.int tw, .ref bL, .ref bT, .int (nI n), .ref bK, .ref bF, .ref bS, .ref bB, .int co, .int pl, .int st, .int jo, .int cn, .int ii, .int fi, .int fe, .ref bU])), (bK, .inl (cI, 60, .inl K)), (bF, .inl (cI, 60, .inl F)), (bS, .inl (cI, 60, .inl S)), (bB, .inl (cZ, 60, .inl (upd B (i) 0))), (bL, .inl (cI, 4, .inl L)), (bT, .inl (cI, 4, .inl T)), (bU, .inl (cI, 6, .inl U))] := hD
    refine lv_aload_n hx hb dX2_coinsOther_20 rfl (lv_at hl 0 rfl) ?_
    have hPc := hP.sub (ws' := [(mo, .inr (2, [.int tw, .ref bL, .ref bT, .int (nI n), .ref bK, .ref bF, .ref bS, .ref bB, .int co, .int pl, .int st, .int jo, .int cn, .int ii, .int fi, .int fe, .ref bU])), (bK, .inl (cI, 60, .inl K)), (bF, .inl (cI, 60, .inl F)), (bS, .inl (cI, 60, .inl S)), (bB, .inl (cZ, 60, .inl (upd B (i) 0))), (bL, .inl (cI, 4, .inl L)), (bT, .inl (cI, 4, .inl T)), (bU, .inl (cI, 6, .inl U))]) [0, 1, 2, 3, 4, 5, 6, 7] rfl
    have hDc := hD.sub (ws' := [(mo, .inr (2, [.int tw, .ref bL, .ref bT, .int (nI n), .ref bK, .ref bF, .ref bS, .ref bB, .int co, .int pl, .int st, .int jo, .int cn, .int ii, .int fi, .int fe, .ref bU])), (bK, .inl (cI, 60, .inl K)), (bF, .inl (cI, 60, .inl F)), (bS, .inl (cI, 60, .inl S)), (bB, .inl (cZ, 60, .inl (upd B (i) 0))), (bL, .inl (cI, 4, .inl L)), (bT, .inl (cI, 4, .inl T)), (bU, .inl (cI, 6, .inl U))]) [0, 1, 2, 3, 4, 5, 6, 7] (by decide) rfl
    have hKc := hK.sub (tys' := [(cI, .int), (cZ, .boolean)]) [0, 1] rfl
    have hFc := va_free (wc := [(mo, .inr (2, [.int tw, .ref bL, .ref bT, .int (nI n), .ref bK, .ref bF, .ref bS, .ref bB, .int co, .int pl, .int st, .int jo, .int cn, .int ii, .int fi, .int fe, .ref bU])), (bK, .inl (cI, 60, .inl K)), (bF, .inl (cI, 60, .inl F)), (bS, .inl (cI, 60, .inl S)), (bB, .inl (cZ, 60, .inl (upd B (i) 0))), (bL, .inl (cI, 4, .inl L)), (bT, .inl (cI, 4, .inl T)), (bU, .inl (cI, 6, .inl U))]) hD hS hA [0, 1, 2, 3, 4, 5, 6, 7] rfl
    refine va_calli (va_runV (As := []) (rest := []) ⟨hx, hb, hml, hown, hts⟩ (c_X2_coinsNow l dC dI cI cZ mo bK bF bS bB bL bT bU H_1.size L T K F S (upd B (i) 0) U n tw co pl st jo cn ii fi fe (okX_upd hX i (Or.inl rfl))) (cwV 0 hts gX2_coinsOther_X2_coinsNow rfl rfl rfl (by decide +kernel) ⟨Nat.le_of_ble_eq_true rfl, Nat.le_of_ble_eq_true rfl⟩) (pc_V hKc hPc hDc (ci := 2) (C := RX2) (T := TX2) (N := 17) (q0 := 0) rfl rfl) rfl rfl hl.1 rfl (lv_room (Nat.le_of_ble_eq_true rfl)) dX2_coinsOther_21 ⟨Nat.le_of_ble_eq_true rfl, Nat.le_of_ble_eq_true rfl⟩) hS (fun q _ h => hFc q h) hFc (fun r_2 u t H_2 locs ht hvm hw hB hz1 hk1 hS => ?_)
    obtain ⟨co1_2, pl1_2, st1_2, jo1_2, cn1_2, ii1_2, fi1_2, fe1_2, U1_2⟩ := u
    try dsimp only at hw hB
    have hw_2 := hw
    replace hw_2 := hw_2.symm
    subst hw_2
    obtain ⟨hP1, hD1⟩ := hB
    rw [ht] at hP1
    obtain ⟨hP, hD⟩ := va_join (wr := []) (w1 := [(mo, .inr (2, [.int tw, .ref bL, .ref bT, .int (nI n), .ref bK, .ref bF, .ref bS, .ref bB, .int co1_2, .int pl1_2, .int st1_2, .int jo1_2, .int cn1_2, .int ii1_2, .int fi1_2, .int fe1_2, .ref bU])), (bK, .inl (cI, 60, .inl K)), (bF, .inl (cI, 60, .inl F)), (bS, .inl (cI, 60, .inl S)), (bB, .inl (cZ, 60, .inl (upd B (i) 0))), (bL, .inl (cI, 4, .inl L)), (bT, .inl (cI, 4, .inl T)), (bU, .inl (cI, 6, .inl U1_2))]) hP hD [0, 1, 2, 3, 4, 5, 6, 7] [] rfl rfl (by decide) (by decide) hk1 hFc hP1 hD1
    have hP : va_P (dC, dI) vwCl [(mo, .inr (2, [.int tw, .ref bL, .ref bT, .int (nI n), .ref bK, .ref bF, .ref bS, .ref bB, .int co1_2, .int pl1_2, .int st1_2, .int jo1_2, .int cn1_2, .int ii1_2, .int fi1_2, .int fe1_2, .ref bU])), (bK, .inl (cI, 60, .inl K)), (bF, .inl (cI, 60, .inl F)), (bS, .inl (cI, 60, .inl S)), (bB, .inl (cZ, 60, .inl (upd B (i) 0))), (bL, .inl (cI, 4, .inl L)), (bT, .inl (cI, 4, .inl T)), (bU, .inl (cI, 6, .inl U1_2))] H_2 := hP
    have hD : va_D A [(mo, .inr (2, [.int tw, .ref bL, .ref bT, .int (nI n), .ref bK, .ref bF, .ref bS, .ref bB, .int co1_2, .int pl1_2, .int st1_2, .int jo1_2, .int cn1_2, .int ii1_2, .int fi1_2, .int fe1_2, .ref bU])), (bK, .inl (cI, 60, .inl K)), (bF, .inl (cI, 60, .inl F)), (bS, .inl (cI, 60, .inl S)), (bB, .inl (cZ, 60, .inl (upd B (i) 0))), (bL, .inl (cI, 4, .inl L)), (bT, .inl (cI, 4, .inl T)), (bU, .inl (cI, 6, .inl U1_2))] := hD
    refine lv_istore_n (lv' := [(2, .int (aCo L T K F S (upd B (i) 0) n (-1))), (0, .ref mo), (1, .int (nI i))]) hx hb dX2_coinsOther_24 rfl hl (by decide) rfl (fun ls hl => ?_)
    refine lv_aload_n hx hb dX2_coinsOther_25 rfl (lv_at hl 1 rfl) ?_
    refine va_get (D := (dC, dI)) (ci := 2) (v := .ref bB) (C := RX2) (T := TX2) (N := 17) hx hb hts hinX2 hown hK hP 0 rfl rfl 7 (by decide) k0 (fun _ h9 => h9) rfl dX2_coinsOther_26 ?_
    refine lv_iload_n hx hb dX2_coinsOther_29 rfl (lv_at hl 2 rfl) ?_
    refine lv_aload_n hx hb dX2_coinsOther_30 rfl (lv_at hl 1 rfl) ?_
    refine va_get (D := (dC, dI)) (ci := 2) (v := .ref bB) (C := RX2) (T := TX2) (N := 17) hx hb hts hinX2 hown hK hP 0 rfl rfl 7 (by decide) k0 (fun _ h9 => h9) rfl dX2_coinsOther_31 ?_
    refine lv_iload_n hx hb dX2_coinsOther_34 rfl (lv_at hl 2 rfl) ?_
    refine va_zald hx hb hK hP 4 1 rfl rfl (vp_in_nI (by omega) (by omega)) dX2_coinsOther_35 ?_
    rw [nI_clamp (n := i) (by omega)]
    refine lv_if_ne (tgt := 43) hx hb dX2_coinsOther_36 (by decide) (fun h9 => absurd (pk_us) h9) (fun _ => ?_)
    refine lv_iconst (v := 1) hx hb dX2_coinsOther_39 (by decide) ?_
    refine lv_goto (tgt := 44) hx hb dX2_coinsOther_40 (by decide) ?_
    refine va_zast hx hb hK hP hD hS 4 1 rfl rfl (vp_in_nI (by omega) (by omega)) dX2_coinsOther_44 (fun H_3 locs hP hD hS => ?_)
    have hP : va_P (dC, dI) vwCl [(mo, .inr (2, [.int tw, .ref bL, .ref bT, .int (nI n), .ref bK, .ref bF, .ref bS, .ref bB, .int co1_2, .int pl1_2, .int st1_2, .int jo1_2, .int cn1_2, .int ii1_2, .int fi1_2, .int fe1_2, .ref bU])), (bK, .inl (cI, 60, .inl K)), (bF, .inl (cI, 60, .inl F)), (bS, .inl (cI, 60, .inl S)), (bB, .inl (cZ, 60, .inl (upd (upd B (i) 0) ((nI i).toNatClampNeg) 1))), (bL, .inl (cI, 4, .inl L)), (bT, .inl (cI, 4, .inl T)), (bU, .inl (cI, 6, .inl U1_2))] H_3 := hP
    have hD : va_D A [(mo, .inr (2, [.int tw, .ref bL, .ref bT, .int (nI n), .ref bK, .ref bF, .ref bS, .ref bB, .int co1_2, .int pl1_2, .int st1_2, .int jo1_2, .int cn1_2, .int ii1_2, .int fi1_2, .int fe1_2, .ref bU])), (bK, .inl (cI, 60, .inl K)), (bF, .inl (cI, 60, .inl F)), (bS, .inl (cI, 60, .inl S)), (bB, .inl (cZ, 60, .inl (upd (upd B (i) 0) ((nI i).toNatClampNeg) 1))), (bL, .inl (cI, 4, .inl L)), (bT, .inl (cI, 4, .inl T)), (bU, .inl (cI, 6, .inl U1_2))] := hD
    rw [nI_clamp (by omega)] at hP hD
    have hP : va_P (dC, dI) vwCl [(mo, .inr (2, [.int tw, .ref bL, .ref bT, .int (nI n), .ref bK, .ref bF, .ref bS, .ref bB, .int co1_2, .int pl1_2, .int st1_2, .int jo1_2, .int cn1_2, .int ii1_2, .int fi1_2, .int fe1_2, .ref bU])), (bK, .inl (cI, 60, .inl K)), (bF, .inl (cI, 60, .inl F)), (bS, .inl (cI, 60, .inl S)), (bB, .inl (cZ, 60, .inl (upd (upd B (i) 0) (i) 1))), (bL, .inl (cI, 4, .inl L)), (bT, .inl (cI, 4, .inl T)), (bU, .inl (cI, 6, .inl U1_2))] H_3 := hP
    have hD : va_D A [(mo, .inr (2, [.int tw, .ref bL, .ref bT, .int (nI n), .ref bK, .ref bF, .ref bS, .ref bB, .int co1_2, .int pl1_2, .int st1_2, .int jo1_2, .int cn1_2, .int ii1_2, .int fi1_2, .int fe1_2, .ref bU])), (bK, .inl (cI, 60, .inl K)), (bF, .inl (cI, 60, .inl F)), (bS, .inl (cI, 60, .inl S)), (bB, .inl (cZ, 60, .inl (upd (upd B (i) 0) (i) 1))), (bL, .inl (cI, 4, .inl L)), (bT, .inl (cI, 4, .inl T)), (bU, .inl (cI, 6, .inl U1_2))] := hD
    rw [upd_back ((hX.2.2 i).resolve_left c_11)] at hP hD
    have hP : va_P (dC, dI) vwCl [(mo, .inr (2, [.int tw, .ref bL, .ref bT, .int (nI n), .ref bK, .ref bF, .ref bS, .ref bB, .int co1_2, .int pl1_2, .int st1_2, .int jo1_2, .int cn1_2, .int ii1_2, .int fi1_2, .int fe1_2, .ref bU])), (bK, .inl (cI, 60, .inl K)), (bF, .inl (cI, 60, .inl F)), (bS, .inl (cI, 60, .inl S)), (bB, .inl (cZ, 60, .inl B)), (bL, .inl (cI, 4, .inl L)), (bT, .inl (cI, 4, .inl T)), (bU, .inl (cI, 6, .inl U1_2))] H_3 := hP
    have hD : va_D A [(mo, .inr (2, [.int tw, .ref bL, .ref bT, .int (nI n), .ref bK, .ref bF, .ref bS, .ref bB, .int co1_2, .int pl1_2, .int st1_2, .int jo1_2, .int cn1_2, .int ii1_2, .int fi1_2, .int fe1_2, .ref bU])), (bK, .inl (cI, 60, .inl K)), (bF, .inl (cI, 60, .inl F)), (bS, .inl (cI, 60, .inl S)), (bB, .inl (cZ, 60, .inl B)), (bL, .inl (cI, 4, .inl L)), (bT, .inl (cI, 4, .inl T)), (bU, .inl (cI, 6, .inl U1_2))] := hD
    refine lv_iload_n hx hb dX2_coinsOther_45 rfl (lv_at hl 0 rfl) ?_
    have hpost : (aCo L T K F S (upd B (i) 0) n (-1)) = aCo L T K F S B n (nI i) := by
      exact aCo_fl hX.1 (by omega) (by unfold nb; rw [if_neg c_11])
    have hP9 := hP.sub (ws' := [(mo, .inr (2, [.int tw, .ref bL, .ref bT, .int (nI n), .ref bK, .ref bF, .ref bS, .ref bB, .int co1_2, .int pl1_2, .int st1_2, .int jo1_2, .int cn1_2, .int ii1_2, .int fi1_2, .int fe1_2, .ref bU])), (bK, .inl (cI, 60, .inl K)), (bF, .inl (cI, 60, .inl F)), (bS, .inl (cI, 60, .inl S)), (bB, .inl (cZ, 60, .inl B)), (bL, .inl (cI, 4, .inl L)), (bT, .inl (cI, 4, .inl T)), (bU, .inl (cI, 6, .inl U1_2))]) [0, 1, 2, 3, 4, 5, 6, 7] rfl
    have hD9 := hD.sub (ws' := [(mo, .inr (2, [.int tw, .ref bL, .ref bT, .int (nI n), .ref bK, .ref bF, .ref bS, .ref bB, .int co1_2, .int pl1_2, .int st1_2, .int jo1_2, .int cn1_2, .int ii1_2, .int fi1_2, .int fe1_2, .ref bU])), (bK, .inl (cI, 60, .inl K)), (bF, .inl (cI, 60, .inl F)), (bS, .inl (cI, 60, .inl S)), (bB, .inl (cZ, 60, .inl B)), (bL, .inl (cI, 4, .inl L)), (bT, .inl (cI, 4, .inl T)), (bU, .inl (cI, 6, .inl U1_2))]) [0, 1, 2, 3, 4, 5, 6, 7] (by decide) rfl
    exact W.iret (v := aCo L T K F S (upd B (i) 0) n (-1)) hx hb hr (fun t ht hW => ⟨⟨(aCo L T K F S (upd B (i) 0) n (-1)), (co1_2, pl1_2, st1_2, jo1_2, cn1_2, ii1_2, fi1_2, fe1_2, U1_2), rfl, hpost, by rw [ht]; exact hP9, hD9⟩, hS.F ht⟩) hS.2.2 dX2_coinsOther_46
  · -- 11
    refine lv_iconst (v := 1) hx hb dX2_coinsOther_14 (by decide) ?_
    refine lv_goto (tgt := 19) hx hb dX2_coinsOther_15 (by decide) ?_
    refine va_zast hx hb hK hP hD hS 4 1 rfl rfl (vp_in_nI (by omega) (by omega)) dX2_coinsOther_19 (fun H_4 locs hP hD hS => ?_)
    have hP : va_P (dC, dI) vwCl [(mo, .inr (2, [.int tw, .ref bL, .ref bT, .int (nI n), .ref bK, .ref bF, .ref bS, .ref bB, .int co, .int pl, .int st, .int jo, .int cn, .int ii, .int fi, .int fe, .ref bU])), (bK, .inl (cI, 60, .inl K)), (bF, .inl (cI, 60, .inl F)), (bS, .inl (cI, 60, .inl S)), (bB, .inl (cZ, 60, .inl (upd B ((nI i).toNatClampNeg) 1))), (bL, .inl (cI, 4, .inl L)), (bT, .inl (cI, 4, .inl T)), (bU, .inl (cI, 6, .inl U))] H_4 := hP
    have hD : va_D A [(mo, .inr (2, [.int tw, .ref bL, .ref bT, .int (nI n), .ref bK, .ref bF, .ref bS, .ref bB, .int co, .int pl, .int st, .int jo, .int cn, .int ii, .int fi, .int fe, .ref bU])), (bK, .inl (cI, 60, .inl K)), (bF, .inl (cI, 60, .inl F)), (bS, .inl (cI, 60, .inl S)), (bB, .inl (cZ, 60, .inl (upd B ((nI i).toNatClampNeg) 1))), (bL, .inl (cI, 4, .inl L)), (bT, .inl (cI, 4, .inl T)), (bU, .inl (cI, 6, .inl U))] := hD
    rw [nI_clamp (by omega)] at hP hD
    have hP : va_P (dC, dI) vwCl [(mo, .inr (2, [.int tw, .ref bL, .ref bT, .int (nI n), .ref bK, .ref bF, .ref bS, .ref bB, .int co, .int pl, .int st, .int jo, .int cn, .int ii, .int fi, .int fe, .ref bU])), (bK, .inl (cI, 60, .inl K)), (bF, .inl (cI, 60, .inl F)), (bS, .inl (cI, 60, .inl S)), (bB, .inl (cZ, 60, .inl (upd B (i) 1))), (bL, .inl (cI, 4, .inl L)), (bT, .inl (cI, 4, .inl T)), (bU, .inl (cI, 6, .inl U))] H_4 := hP
    have hD : va_D A [(mo, .inr (2, [.int tw, .ref bL, .ref bT, .int (nI n), .ref bK, .ref bF, .ref bS, .ref bB, .int co, .int pl, .int st, .int jo, .int cn, .int ii, .int fi, .int fe, .ref bU])), (bK, .inl (cI, 60, .inl K)), (bF, .inl (cI, 60, .inl F)), (bS, .inl (cI, 60, .inl S)), (bB, .inl (cZ, 60, .inl (upd B (i) 1))), (bL, .inl (cI, 4, .inl L)), (bT, .inl (cI, 4, .inl T)), (bU, .inl (cI, 6, .inl U))] := hD
    refine lv_aload_n hx hb dX2_coinsOther_20 rfl (lv_at hl 0 rfl) ?_
    have hPc := hP.sub (ws' := [(mo, .inr (2, [.int tw, .ref bL, .ref bT, .int (nI n), .ref bK, .ref bF, .ref bS, .ref bB, .int co, .int pl, .int st, .int jo, .int cn, .int ii, .int fi, .int fe, .ref bU])), (bK, .inl (cI, 60, .inl K)), (bF, .inl (cI, 60, .inl F)), (bS, .inl (cI, 60, .inl S)), (bB, .inl (cZ, 60, .inl (upd B (i) 1))), (bL, .inl (cI, 4, .inl L)), (bT, .inl (cI, 4, .inl T)), (bU, .inl (cI, 6, .inl U))]) [0, 1, 2, 3, 4, 5, 6, 7] rfl
    have hDc := hD.sub (ws' := [(mo, .inr (2, [.int tw, .ref bL, .ref bT, .int (nI n), .ref bK, .ref bF, .ref bS, .ref bB, .int co, .int pl, .int st, .int jo, .int cn, .int ii, .int fi, .int fe, .ref bU])), (bK, .inl (cI, 60, .inl K)), (bF, .inl (cI, 60, .inl F)), (bS, .inl (cI, 60, .inl S)), (bB, .inl (cZ, 60, .inl (upd B (i) 1))), (bL, .inl (cI, 4, .inl L)), (bT, .inl (cI, 4, .inl T)), (bU, .inl (cI, 6, .inl U))]) [0, 1, 2, 3, 4, 5, 6, 7] (by decide) rfl
    have hKc := hK.sub (tys' := [(cI, .int), (cZ, .boolean)]) [0, 1] rfl
    have hFc := va_free (wc := [(mo, .inr (2, [.int tw, .ref bL, .ref bT, .int (nI n), .ref bK, .ref bF, .ref bS, .ref bB, .int co, .int pl, .int st, .int jo, .int cn, .int ii, .int fi, .int fe, .ref bU])), (bK, .inl (cI, 60, .inl K)), (bF, .inl (cI, 60, .inl F)), (bS, .inl (cI, 60, .inl S)), (bB, .inl (cZ, 60, .inl (upd B (i) 1))), (bL, .inl (cI, 4, .inl L)), (bT, .inl (cI, 4, .inl T)), (bU, .inl (cI, 6, .inl U))]) hD hS hA [0, 1, 2, 3, 4, 5, 6, 7] rfl
    refine va_calli (va_runV (As := []) (rest := []) ⟨hx, hb, hml, hown, hts⟩ (c_X2_coinsNow l dC dI cI cZ mo bK bF bS bB bL bT bU H_4.size L T K F S (upd B (i) 1) U n tw co pl st jo cn ii fi fe (okX_upd hX i (Or.inr rfl))) (cwV 0 hts gX2_coinsOther_X2_coinsNow rfl rfl rfl (by decide +kernel) ⟨Nat.le_of_ble_eq_true rfl, Nat.le_of_ble_eq_true rfl⟩) (pc_V hKc hPc hDc (ci := 2) (C := RX2) (T := TX2) (N := 17) (q0 := 0) rfl rfl) rfl rfl hl.1 rfl (lv_room (Nat.le_of_ble_eq_true rfl)) dX2_coinsOther_21 ⟨Nat.le_of_ble_eq_true rfl, Nat.le_of_ble_eq_true rfl⟩) hS (fun q _ h => hFc q h) hFc (fun r_5 u t H_5 locs ht hvm hw hB hz1 hk1 hS => ?_)
    obtain ⟨co1_5, pl1_5, st1_5, jo1_5, cn1_5, ii1_5, fi1_5, fe1_5, U1_5⟩ := u
    try dsimp only at hw hB
    have hw_5 := hw
    replace hw_5 := hw_5.symm
    subst hw_5
    obtain ⟨hP1, hD1⟩ := hB
    rw [ht] at hP1
    obtain ⟨hP, hD⟩ := va_join (wr := []) (w1 := [(mo, .inr (2, [.int tw, .ref bL, .ref bT, .int (nI n), .ref bK, .ref bF, .ref bS, .ref bB, .int co1_5, .int pl1_5, .int st1_5, .int jo1_5, .int cn1_5, .int ii1_5, .int fi1_5, .int fe1_5, .ref bU])), (bK, .inl (cI, 60, .inl K)), (bF, .inl (cI, 60, .inl F)), (bS, .inl (cI, 60, .inl S)), (bB, .inl (cZ, 60, .inl (upd B (i) 1))), (bL, .inl (cI, 4, .inl L)), (bT, .inl (cI, 4, .inl T)), (bU, .inl (cI, 6, .inl U1_5))]) hP hD [0, 1, 2, 3, 4, 5, 6, 7] [] rfl rfl (by decide) (by decide) hk1 hFc hP1 hD1
    have hP : va_P (dC, dI) vwCl [(mo, .inr (2, [.int tw, .ref bL, .ref bT, .int (nI n), .ref bK, .ref bF, .ref bS, .ref bB, .int co1_5, .int pl1_5, .int st1_5, .int jo1_5, .int cn1_5, .int ii1_5, .int fi1_5, .int fe1_5, .ref bU])), (bK, .inl (cI, 60, .inl K)), (bF, .inl (cI, 60, .inl F)), (bS, .inl (cI, 60, .inl S)), (bB, .inl (cZ, 60, .inl (upd B (i) 1))), (bL, .inl (cI, 4, .inl L)), (bT, .inl (cI, 4, .inl T)), (bU, .inl (cI, 6, .inl U1_5))] H_5 := hP
    have hD : va_D A [(mo, .inr (2, [.int tw, .ref bL, .ref bT, .int (nI n), .ref bK, .ref bF, .ref bS, .ref bB, .int co1_5, .int pl1_5, .int st1_5, .int jo1_5, .int cn1_5, .int ii1_5, .int fi1_5, .int fe1_5, .ref bU])), (bK, .inl (cI, 60, .inl K)), (bF, .inl (cI, 60, .inl F)), (bS, .inl (cI, 60, .inl S)), (bB, .inl (cZ, 60, .inl (upd B (i) 1))), (bL, .inl (cI, 4, .inl L)), (bT, .inl (cI, 4, .inl T)), (bU, .inl (cI, 6, .inl U1_5))] := hD
    refine lv_istore_n (lv' := [(2, .int (aCo L T K F S (upd B (i) 1) n (-1))), (0, .ref mo), (1, .int (nI i))]) hx hb dX2_coinsOther_24 rfl hl (by decide) rfl (fun ls hl => ?_)
    refine lv_aload_n hx hb dX2_coinsOther_25 rfl (lv_at hl 1 rfl) ?_
    refine va_get (D := (dC, dI)) (ci := 2) (v := .ref bB) (C := RX2) (T := TX2) (N := 17) hx hb hts hinX2 hown hK hP 0 rfl rfl 7 (by decide) k0 (fun _ h9 => h9) rfl dX2_coinsOther_26 ?_
    refine lv_iload_n hx hb dX2_coinsOther_29 rfl (lv_at hl 2 rfl) ?_
    refine lv_aload_n hx hb dX2_coinsOther_30 rfl (lv_at hl 1 rfl) ?_
    refine va_get (D := (dC, dI)) (ci := 2) (v := .ref bB) (C := RX2) (T := TX2) (N := 17) hx hb hts hinX2 hown hK hP 0 rfl rfl 7 (by decide) k0 (fun _ h9 => h9) rfl dX2_coinsOther_31 ?_
    refine lv_iload_n hx hb dX2_coinsOther_34 rfl (lv_at hl 2 rfl) ?_
    refine va_zald hx hb hK hP 4 1 rfl rfl (vp_in_nI (by omega) (by omega)) dX2_coinsOther_35 ?_
    rw [nI_clamp (n := i) (by omega)]
    refine lv_if_ne (tgt := 43) hx hb dX2_coinsOther_36 (by decide) (fun _ => ?_) (fun h9 => absurd h9 (by rw [pk_us]; exact one_ne))
    refine lv_iconst (v := 0) hx hb dX2_coinsOther_43 (by decide) ?_
    refine va_zast hx hb hK hP hD hS 4 1 rfl rfl (vp_in_nI (by omega) (by omega)) dX2_coinsOther_44 (fun H_6 locs hP hD hS => ?_)
    have hP : va_P (dC, dI) vwCl [(mo, .inr (2, [.int tw, .ref bL, .ref bT, .int (nI n), .ref bK, .ref bF, .ref bS, .ref bB, .int co1_5, .int pl1_5, .int st1_5, .int jo1_5, .int cn1_5, .int ii1_5, .int fi1_5, .int fe1_5, .ref bU])), (bK, .inl (cI, 60, .inl K)), (bF, .inl (cI, 60, .inl F)), (bS, .inl (cI, 60, .inl S)), (bB, .inl (cZ, 60, .inl (upd (upd B (i) 1) ((nI i).toNatClampNeg) 0))), (bL, .inl (cI, 4, .inl L)), (bT, .inl (cI, 4, .inl T)), (bU, .inl (cI, 6, .inl U1_5))] H_6 := hP
    have hD : va_D A [(mo, .inr (2, [.int tw, .ref bL, .ref bT, .int (nI n), .ref bK, .ref bF, .ref bS, .ref bB, .int co1_5, .int pl1_5, .int st1_5, .int jo1_5, .int cn1_5, .int ii1_5, .int fi1_5, .int fe1_5, .ref bU])), (bK, .inl (cI, 60, .inl K)), (bF, .inl (cI, 60, .inl F)), (bS, .inl (cI, 60, .inl S)), (bB, .inl (cZ, 60, .inl (upd (upd B (i) 1) ((nI i).toNatClampNeg) 0))), (bL, .inl (cI, 4, .inl L)), (bT, .inl (cI, 4, .inl T)), (bU, .inl (cI, 6, .inl U1_5))] := hD
    rw [nI_clamp (by omega)] at hP hD
    have hP : va_P (dC, dI) vwCl [(mo, .inr (2, [.int tw, .ref bL, .ref bT, .int (nI n), .ref bK, .ref bF, .ref bS, .ref bB, .int co1_5, .int pl1_5, .int st1_5, .int jo1_5, .int cn1_5, .int ii1_5, .int fi1_5, .int fe1_5, .ref bU])), (bK, .inl (cI, 60, .inl K)), (bF, .inl (cI, 60, .inl F)), (bS, .inl (cI, 60, .inl S)), (bB, .inl (cZ, 60, .inl (upd (upd B (i) 1) (i) 0))), (bL, .inl (cI, 4, .inl L)), (bT, .inl (cI, 4, .inl T)), (bU, .inl (cI, 6, .inl U1_5))] H_6 := hP
    have hD : va_D A [(mo, .inr (2, [.int tw, .ref bL, .ref bT, .int (nI n), .ref bK, .ref bF, .ref bS, .ref bB, .int co1_5, .int pl1_5, .int st1_5, .int jo1_5, .int cn1_5, .int ii1_5, .int fi1_5, .int fe1_5, .ref bU])), (bK, .inl (cI, 60, .inl K)), (bF, .inl (cI, 60, .inl F)), (bS, .inl (cI, 60, .inl S)), (bB, .inl (cZ, 60, .inl (upd (upd B (i) 1) (i) 0))), (bL, .inl (cI, 4, .inl L)), (bT, .inl (cI, 4, .inl T)), (bU, .inl (cI, 6, .inl U1_5))] := hD
    rw [upd_back (c_11)] at hP hD
    have hP : va_P (dC, dI) vwCl [(mo, .inr (2, [.int tw, .ref bL, .ref bT, .int (nI n), .ref bK, .ref bF, .ref bS, .ref bB, .int co1_5, .int pl1_5, .int st1_5, .int jo1_5, .int cn1_5, .int ii1_5, .int fi1_5, .int fe1_5, .ref bU])), (bK, .inl (cI, 60, .inl K)), (bF, .inl (cI, 60, .inl F)), (bS, .inl (cI, 60, .inl S)), (bB, .inl (cZ, 60, .inl B)), (bL, .inl (cI, 4, .inl L)), (bT, .inl (cI, 4, .inl T)), (bU, .inl (cI, 6, .inl U1_5))] H_6 := hP
    have hD : va_D A [(mo, .inr (2, [.int tw, .ref bL, .ref bT, .int (nI n), .ref bK, .ref bF, .ref bS, .ref bB, .int co1_5, .int pl1_5, .int st1_5, .int jo1_5, .int cn1_5, .int ii1_5, .int fi1_5, .int fe1_5, .ref bU])), (bK, .inl (cI, 60, .inl K)), (bF, .inl (cI, 60, .inl F)), (bS, .inl (cI, 60, .inl S)), (bB, .inl (cZ, 60, .inl B)), (bL, .inl (cI, 4, .inl L)), (bT, .inl (cI, 4, .inl T)), (bU, .inl (cI, 6, .inl U1_5))] := hD
    refine lv_iload_n hx hb dX2_coinsOther_45 rfl (lv_at hl 0 rfl) ?_
    have hpost : (aCo L T K F S (upd B (i) 1) n (-1)) = aCo L T K F S B n (nI i) := by
      exact aCo_fl hX.1 (by omega) (by unfold nb; rw [if_pos c_11])
    have hP9 := hP.sub (ws' := [(mo, .inr (2, [.int tw, .ref bL, .ref bT, .int (nI n), .ref bK, .ref bF, .ref bS, .ref bB, .int co1_5, .int pl1_5, .int st1_5, .int jo1_5, .int cn1_5, .int ii1_5, .int fi1_5, .int fe1_5, .ref bU])), (bK, .inl (cI, 60, .inl K)), (bF, .inl (cI, 60, .inl F)), (bS, .inl (cI, 60, .inl S)), (bB, .inl (cZ, 60, .inl B)), (bL, .inl (cI, 4, .inl L)), (bT, .inl (cI, 4, .inl T)), (bU, .inl (cI, 6, .inl U1_5))]) [0, 1, 2, 3, 4, 5, 6, 7] rfl
    have hD9 := hD.sub (ws' := [(mo, .inr (2, [.int tw, .ref bL, .ref bT, .int (nI n), .ref bK, .ref bF, .ref bS, .ref bB, .int co1_5, .int pl1_5, .int st1_5, .int jo1_5, .int cn1_5, .int ii1_5, .int fi1_5, .int fe1_5, .ref bU])), (bK, .inl (cI, 60, .inl K)), (bF, .inl (cI, 60, .inl F)), (bS, .inl (cI, 60, .inl S)), (bB, .inl (cZ, 60, .inl B)), (bL, .inl (cI, 4, .inl L)), (bT, .inl (cI, 4, .inl T)), (bU, .inl (cI, 6, .inl U1_5))]) [0, 1, 2, 3, 4, 5, 6, 7] (by decide) rfl
    exact W.iret (v := aCo L T K F S (upd B (i) 1) n (-1)) hx hb hr (fun t ht hW => ⟨⟨(aCo L T K F S (upd B (i) 1) n (-1)), (co1_5, pl1_5, st1_5, jo1_5, cn1_5, ii1_5, fi1_5, fe1_5, U1_5), rfl, hpost, by rw [ht]; exact hP9, hD9⟩, hS.F ht⟩) hS.2.2 dX2_coinsOther_46

set_option maxHeartbeats 4000000 in
set_option maxRecDepth 100000 in
theorem c_X2_worth (l : Launch) (dC : Nat → ClassId) (dI : Nat → Nat → Nat) (cI cZ : ClassId) (mo bK bF bS bB bL bT bU : Nat) (sz : Nat) (L : N2I) (T : N2I) (K : N2I) (F : N2I) (S : N2I) (B : N2I) (U : N2I) (n : Nat) (tw : Int32) (co : Int32) (pl : Int32) (st : Int32) (jo : Int32) (cn : Int32) (ii : Int32) (fi : Int32) (fe : Int32) (i : Nat) (hX : okX K F S B n) (hi : i < n) : Met l yX2_worth wsX2_worth ({ frames := 7, cells := 0, slots := 0, locals := 148 } : Room) (va_Pc [.ref mo, .int (nI i)] (pc_ (dC, dI) [(cI, .int), (cZ, .boolean)] [(mo, .inr (2, [.int tw, .ref bL, .ref bT, .int (nI n), .ref bK, .ref bF, .ref bS, .ref bB, .int co, .int pl, .int st, .int jo, .int cn, .int ii, .int fi, .int fe, .ref bU])), (bK, .inl (cI, 60, .inl K)), (bF, .inl (cI, 60, .inl F)), (bS, .inl (cI, 60, .inl S)), (bB, .inl (cZ, 60, .inl B)), (bL, .inl (cI, 4, .inl L)), (bT, .inl (cI, 4, .inl T)), (bU, .inl (cI, 6, .inl U))] sz)) (va_Qi (fun (r : Int32) (u : Int32 × Int32 × Int32 × Int32 × Int32 × Int32 × Int32 × Int32 × N2I) => r = aCo L T K F S B n (-1) - aCo L T K F S B n (nI i)) (fun (u : Int32 × Int32 × Int32 × Int32 × Int32 × Int32 × Int32 × Int32 × N2I) (t : State) => va_P (dC, dI) vwCl [(mo, .inr (2, [.int 0, .ref bL, .ref bT, .int (nI n), .ref bK, .ref bF, .ref bS, .ref bB, .int u.1, .int u.2.1, .int u.2.2.1, .int u.2.2.2.1, .int u.2.2.2.2.1, .int u.2.2.2.2.2.1, .int u.2.2.2.2.2.2.1, .int u.2.2.2.2.2.2.2.1, .ref bU])), (bK, .inl (cI, 60, .inl K)), (bF, .inl (cI, 60, .inl F)), (bS, .inl (cI, 60, .inl S)), (bB, .inl (cZ, 60, .inl B)), (bL, .inl (cI, 4, .inl L)), (bT, .inl (cI, 4, .inl T)), (bU, .inl (cI, 6, .inl u.2.2.2.2.2.2.2.2))] t.heap ∧ va_D (va_A [(mo, .inr (2, [.int tw, .ref bL, .ref bT, .int (nI n), .ref bK, .ref bF, .ref bS, .ref bB, .int co, .int pl, .int st, .int jo, .int cn, .int ii, .int fi, .int fe, .ref bU])), (bK, .inl (cI, 60, .inl K)), (bF, .inl (cI, 60, .inl F)), (bS, .inl (cI, 60, .inl S)), (bB, .inl (cZ, 60, .inl B)), (bL, .inl (cI, 4, .inl L)), (bT, .inl (cI, 4, .inl T)), (bU, .inl (cI, 6, .inl U))] sz) [(mo, .inr (2, [.int 0, .ref bL, .ref bT, .int (nI n), .ref bK, .ref bF, .ref bS, .ref bB, .int u.1, .int u.2.1, .int u.2.2.1, .int u.2.2.2.1, .int u.2.2.2.2.1, .int u.2.2.2.2.2.1, .int u.2.2.2.2.2.2.1, .int u.2.2.2.2.2.2.2.1, .ref bU])), (bK, .inl (cI, 60, .inl K)), (bF, .inl (cI, 60, .inl F)), (bS, .inl (cI, 60, .inl S)), (bB, .inl (cZ, 60, .inl B)), (bL, .inl (cI, 4, .inl L)), (bT, .inl (cI, 4, .inl T)), (bU, .inl (cI, 6, .inl u.2.2.2.2.2.2.2.2))]) (va_A [(mo, .inr (2, [.int tw, .ref bL, .ref bT, .int (nI n), .ref bK, .ref bF, .ref bS, .ref bB, .int co, .int pl, .int st, .int jo, .int cn, .int ii, .int fi, .int fe, .ref bU])), (bK, .inl (cI, 60, .inl K)), (bF, .inl (cI, 60, .inl F)), (bS, .inl (cI, 60, .inl S)), (bB, .inl (cZ, 60, .inl B)), (bL, .inl (cI, 4, .inl L)), (bT, .inl (cI, 4, .inl T)), (bU, .inl (cI, 6, .inl U))] sz)) 0 0 (va_A [(mo, .inr (2, [.int tw, .ref bL, .ref bT, .int (nI n), .ref bK, .ref bF, .ref bS, .ref bB, .int co, .int pl, .int st, .int jo, .int cn, .int ii, .int fi, .int fe, .ref bU])), (bK, .inl (cI, 60, .inl K)), (bF, .inl (cI, 60, .inl F)), (bS, .inl (cI, 60, .inl S)), (bB, .inl (cZ, 60, .inl B)), (bL, .inl (cI, 4, .inl L)), (bT, .inl (cI, 4, .inl T)), (bU, .inl (cI, 6, .inl U))] sz) := by
  refine Met.ofW (cc := cX2_worth) (maxL := 2) (ret := (some .int)) (by decide) rfl ?_
  intro p e s m args below meth c s₁ BB hml hv
  obtain ⟨rfl, hsz, hP, hK, hD0⟩ := hv
  have hx := BB.exec
  have hb := BB.bytes
  have hr := BB.returns
  have hts := atoms_spec (ws := wsX2_worth) BB.pre
  have hown : s.vm.findClass RX2 = some m.cls := findClass_of_methodNamed BB.named
  have hlocks := BB.notSynchronized
  subst hsz
  have hD := hD0.self (sz := s.heap.size)
  generalize hAe : va_A [(mo, .inr (2, [.int tw, .ref bL, .ref bT, .int (nI n), .ref bK, .ref bF, .ref bS, .ref bB, .int co, .int pl, .int st, .int jo, .int cn, .int ii, .int fi, .int fe, .ref bU])), (bK, .inl (cI, 60, .inl K)), (bF, .inl (cI, 60, .inl F)), (bS, .inl (cI, 60, .inl S)), (bB, .inl (cZ, 60, .inl B)), (bL, .inl (cI, 4, .inl L)), (bT, .inl (cI, 4, .inl T)), (bU, .inl (cI, 6, .inl U))] s.heap.size = A at hD ⊢
  have hA : ∀ q : Nat, s.heap.size ≤ q → A q := fun q h => by rw [← hAe]; exact Or.inr h
  have hS : va_S A s.heap s.heap [] := va_S.rf
  have hP : va_P (dC, dI) vwCl [(mo, .inr (2, [.int tw, .ref bL, .ref bT, .int (nI n), .ref bK, .ref bF, .ref bS, .ref bB, .int co, .int pl, .int st, .int jo, .int cn, .int ii, .int fi, .int fe, .ref bU])), (bK, .inl (cI, 60, .inl K)), (bF, .inl (cI, 60, .inl F)), (bS, .inl (cI, 60, .inl S)), (bB, .inl (cZ, 60, .inl B)), (bL, .inl (cI, 4, .inl L)), (bT, .inl (cI, 4, .inl T)), (bU, .inl (cI, 6, .inl U))] s.heap := hP
  have hl := lv_entry ([.ref mo, .int (nI i)]) (n := 2) (Nat.le_of_ble_eq_true rfl)
  rw [lg_entry_eq]
  generalize (lg_sl ([.ref mo, .int (nI i)]) ++ List.replicate (2 - (lg_sl ([.ref mo, .int (nI i)])).length) Slot.unset).toArray = ls at hl ⊢
  have hl : lv_has ls 2 [(0, .ref mo), (1, .int (nI i))] := hl
  have k0 := hts (.fieldLink RX2 32 "KnifeLedgerModel" "thrown" "I") (by decide +kernel)
  have hinX2 : ∀ w ∈ wsX20, w ∈ wsX2_worth := by decide +kernel
  have hn6 : n ≤ 60 := hX.1
  refine lv_aload_n hx hb dX2_worth_0 rfl (lv_at hl 0 rfl) ?_
  refine lv_iconst (v := 0) hx hb dX2_worth_1 (by decide) ?_
  refine va_put (D := (dC, dI)) (ci := 2) (v := .int 0) (ty := .int) (C := RX2) (T := TX2) (N := 17) hx hb hts hinX2 tyX2 tyX2_ok nmX2 hown hK hP hD hS 0 rfl rfl 0 (by decide) k0 (fun _ h9 => h9) rfl (by decide +kernel) rfl rfl (Nat.le_of_ble_eq_true rfl) dX2_worth_2 (fun H_1 locs hP hD hS => ?_)
  have hP : va_P (dC, dI) vwCl [(mo, .inr (2, [.int 0, .ref bL, .ref bT, .int (nI n), .ref bK, .ref bF, .ref bS, .ref bB, .int co, .int pl, .int st, .int jo, .int cn, .int ii, .int fi, .int fe, .ref bU])), (bK, .inl (cI, 60, .inl K)), (bF, .inl (cI, 60, .inl F)), (bS, .inl (cI, 60, .inl S)), (bB, .inl (cZ, 60, .inl B)), (bL, .inl (cI, 4, .inl L)), (bT, .inl (cI, 4, .inl T)), (bU, .inl (cI, 6, .inl U))] H_1 := hP
  have hD : va_D A [(mo, .inr (2, [.int 0, .ref bL, .ref bT, .int (nI n), .ref bK, .ref bF, .ref bS, .ref bB, .int co, .int pl, .int st, .int jo, .int cn, .int ii, .int fi, .int fe, .ref bU])), (bK, .inl (cI, 60, .inl K)), (bF, .inl (cI, 60, .inl F)), (bS, .inl (cI, 60, .inl S)), (bB, .inl (cZ, 60, .inl B)), (bL, .inl (cI, 4, .inl L)), (bT, .inl (cI, 4, .inl T)), (bU, .inl (cI, 6, .inl U))] := hD
  refine lv_aload_n hx hb dX2_worth_5 rfl (lv_at hl 0 rfl) ?_
  refine lv_iload_n hx hb dX2_worth_6 rfl (lv_at hl 1 rfl) ?_
  have hPc := hP.sub (ws' := [(mo, .inr (2, [.int 0, .ref bL, .ref bT, .int (nI n), .ref bK, .ref bF, .ref bS, .ref bB, .int co, .int pl, .int st, .int jo, .int cn, .int ii, .int fi, .int fe, .ref bU])), (bK, .inl (cI, 60, .inl K)), (bF, .inl (cI, 60, .inl F)), (bS, .inl (cI, 60, .inl S)), (bB, .inl (cZ, 60, .inl B)), (bL, .inl (cI, 4, .inl L)), (bT, .inl (cI, 4, .inl T)), (bU, .inl (cI, 6, .inl U))]) [0, 1, 2, 3, 4, 5, 6, 7] rfl
  have hDc := hD.sub (ws' := [(mo, .inr (2, [.int 0, .ref bL, .ref bT, .int (nI n), .ref bK, .ref bF, .ref bS, .ref bB, .int co, .int pl, .int st, .int jo, .int cn, .int ii, .int fi, .int fe, .ref bU])), (bK, .inl (cI, 60, .inl K)), (bF, .inl (cI, 60, .inl F)), (bS, .inl (cI, 60, .inl S)), (bB, .inl (cZ, 60, .inl B)), (bL, .inl (cI, 4, .inl L)), (bT, .inl (cI, 4, .inl T)), (bU, .inl (cI, 6, .inl U))]) [0, 1, 2, 3, 4, 5, 6, 7] (by decide) rfl
  have hKc := hK.sub (tys' := [(cI, .int), (cZ, .boolean)]) [0, 1] rfl
  have hFc := va_free (wc := [(mo, .inr (2, [.int 0, .ref bL, .ref bT, .int (nI n), .ref bK, .ref bF, .ref bS, .ref bB, .int co, .int pl, .int st, .int jo, .int cn, .int ii, .int fi, .int fe, .ref bU])), (bK, .inl (cI, 60, .inl K)), (bF, .inl (cI, 60, .inl F)), (bS, .inl (cI, 60, .inl S)), (bB, .inl (cZ, 60, .inl B)), (bL, .inl (cI, 4, .inl L)), (bT, .inl (cI, 4, .inl T)), (bU, .inl (cI, 6, .inl U))]) hD hS hA [0, 1, 2, 3, 4, 5, 6, 7] rfl
  refine va_calli (va_runV (As := [.int (nI i)]) (rest := []) ⟨hx, hb, hml, hown, hts⟩ (c_X2_isEntry l dC dI cI cZ mo bK bF bS bB bL bT bU H_1.size L T K F S B U n 0 co pl st jo cn ii fi fe (nI i)) (cwV 1 hts gX2_worth_X2_isEntry rfl rfl rfl (by decide +kernel) ⟨Nat.le_of_ble_eq_true rfl, Nat.le_of_ble_eq_true rfl⟩) (pc_V hKc hPc hDc (ci := 2) (C := RX2) (T := TX2) (N := 17) (q0 := 0) rfl rfl) rfl rfl hl.1 rfl (lv_room (Nat.le_of_ble_eq_true rfl)) dX2_worth_7 ⟨Nat.le_of_ble_eq_true rfl, Nat.le_of_ble_eq_true rfl⟩) hS (fun q _ h => hFc q h) hFc (fun r_2 u t H_2 locs ht hvm hw hB hz1 hk1 hS => ?_)
  try dsimp only at hw hB
  have hw_2 := hw
  replace hw_2 := hw_2.symm
  subst hw_2
  obtain ⟨hP1, hD1⟩ := hB
  rw [ht] at hP1
  obtain ⟨hP, hD⟩ := va_join (wr := []) (w1 := [(mo, .inr (2, [.int 0, .ref bL, .ref bT, .int (nI n), .ref bK, .ref bF, .ref bS, .ref bB, .int co, .int pl, .int st, .int jo, .int cn, .int ii, .int fi, .int fe, .ref bU])), (bK, .inl (cI, 60, .inl K)), (bF, .inl (cI, 60, .inl F)), (bS, .inl (cI, 60, .inl S)), (bB, .inl (cZ, 60, .inl B)), (bL, .inl (cI, 4, .inl L)), (bT, .inl (cI, 4, .inl T)), (bU, .inl (cI, 6, .inl U))]) hP hD [0, 1, 2, 3, 4, 5, 6, 7] [] rfl rfl (by decide) (by decide) hk1 hFc hP1 hD1
  have hP : va_P (dC, dI) vwCl [(mo, .inr (2, [.int 0, .ref bL, .ref bT, .int (nI n), .ref bK, .ref bF, .ref bS, .ref bB, .int co, .int pl, .int st, .int jo, .int cn, .int ii, .int fi, .int fe, .ref bU])), (bK, .inl (cI, 60, .inl K)), (bF, .inl (cI, 60, .inl F)), (bS, .inl (cI, 60, .inl S)), (bB, .inl (cZ, 60, .inl B)), (bL, .inl (cI, 4, .inl L)), (bT, .inl (cI, 4, .inl T)), (bU, .inl (cI, 6, .inl U))] H_2 := hP
  have hD : va_D A [(mo, .inr (2, [.int 0, .ref bL, .ref bT, .int (nI n), .ref bK, .ref bF, .ref bS, .ref bB, .int co, .int pl, .int st, .int jo, .int cn, .int ii, .int fi, .int fe, .ref bU])), (bK, .inl (cI, 60, .inl K)), (bF, .inl (cI, 60, .inl F)), (bS, .inl (cI, 60, .inl S)), (bB, .inl (cZ, 60, .inl B)), (bL, .inl (cI, 4, .inl L)), (bT, .inl (cI, 4, .inl T)), (bU, .inl (cI, 6, .inl U))] := hD
  refine lv_if_eq (tgt := 26) hx hb dX2_worth_10 (by decide) (fun h9 => absurd h9 (by rw [mIn_ent hi hX.1]; exact one_ne)) (fun _ => ?_)
  refine lv_aload_n hx hb dX2_worth_13 rfl (lv_at hl 0 rfl) ?_
  have hPc := hP.sub (ws' := [(mo, .inr (2, [.int 0, .ref bL, .ref bT, .int (nI n), .ref bK, .ref bF, .ref bS, .ref bB, .int co, .int pl, .int st, .int jo, .int cn, .int ii, .int fi, .int fe, .ref bU])), (bK, .inl (cI, 60, .inl K)), (bF, .inl (cI, 60, .inl F)), (bS, .inl (cI, 60, .inl S)), (bB, .inl (cZ, 60, .inl B)), (bL, .inl (cI, 4, .inl L)), (bT, .inl (cI, 4, .inl T)), (bU, .inl (cI, 6, .inl U))]) [0, 1, 2, 3, 4, 5, 6, 7] rfl
  have hDc := hD.sub (ws' := [(mo, .inr (2, [.int 0, .ref bL, .ref bT, .int (nI n), .ref bK, .ref bF, .ref bS, .ref bB, .int co, .int pl, .int st, .int jo, .int cn, .int ii, .int fi, .int fe, .ref bU])), (bK, .inl (cI, 60, .inl K)), (bF, .inl (cI, 60, .inl F)), (bS, .inl (cI, 60, .inl S)), (bB, .inl (cZ, 60, .inl B)), (bL, .inl (cI, 4, .inl L)), (bT, .inl (cI, 4, .inl T)), (bU, .inl (cI, 6, .inl U))]) [0, 1, 2, 3, 4, 5, 6, 7] (by decide) rfl
  have hKc := hK.sub (tys' := [(cI, .int), (cZ, .boolean)]) [0, 1] rfl
  have hFc := va_free (wc := [(mo, .inr (2, [.int 0, .ref bL, .ref bT, .int (nI n), .ref bK, .ref bF, .ref bS, .ref bB, .int co, .int pl, .int st, .int jo, .int cn, .int ii, .int fi, .int fe, .ref bU])), (bK, .inl (cI, 60, .inl K)), (bF, .inl (cI, 60, .inl F)), (bS, .inl (cI, 60, .inl S)), (bB, .inl (cZ, 60, .inl B)), (bL, .inl (cI, 4, .inl L)), (bT, .inl (cI, 4, .inl T)), (bU, .inl (cI, 6, .inl U))]) hD hS hA [0, 1, 2, 3, 4, 5, 6, 7] rfl
  refine va_calli (va_runV (As := []) (rest := []) ⟨hx, hb, hml, hown, hts⟩ (c_X2_coinsNow l dC dI cI cZ mo bK bF bS bB bL bT bU H_2.size L T K F S B U n 0 co pl st jo cn ii fi fe (hX)) (cwV 0 hts gX2_worth_X2_coinsNow rfl rfl rfl (by decide +kernel) ⟨Nat.le_of_ble_eq_true rfl, Nat.le_of_ble_eq_true rfl⟩) (pc_V hKc hPc hDc (ci := 2) (C := RX2) (T := TX2) (N := 17) (q0 := 0) rfl rfl) rfl rfl hl.1 rfl (lv_room (Nat.le_of_ble_eq_true rfl)) dX2_worth_14 ⟨Nat.le_of_ble_eq_true rfl, Nat.le_of_ble_eq_true rfl⟩) hS (fun q _ h => hFc q h) hFc (fun r_3 u t H_3 locs ht hvm hw hB hz1 hk1 hS => ?_)
  obtain ⟨co1_3, pl1_3, st1_3, jo1_3, cn1_3, ii1_3, fi1_3, fe1_3, U1_3⟩ := u
  try dsimp only at hw hB
  have hw_3 := hw
  replace hw_3 := hw_3.symm
  subst hw_3
  obtain ⟨hP1, hD1⟩ := hB
  rw [ht] at hP1
  obtain ⟨hP, hD⟩ := va_join (wr := []) (w1 := [(mo, .inr (2, [.int 0, .ref bL, .ref bT, .int (nI n), .ref bK, .ref bF, .ref bS, .ref bB, .int co1_3, .int pl1_3, .int st1_3, .int jo1_3, .int cn1_3, .int ii1_3, .int fi1_3, .int fe1_3, .ref bU])), (bK, .inl (cI, 60, .inl K)), (bF, .inl (cI, 60, .inl F)), (bS, .inl (cI, 60, .inl S)), (bB, .inl (cZ, 60, .inl B)), (bL, .inl (cI, 4, .inl L)), (bT, .inl (cI, 4, .inl T)), (bU, .inl (cI, 6, .inl U1_3))]) hP hD [0, 1, 2, 3, 4, 5, 6, 7] [] rfl rfl (by decide) (by decide) hk1 hFc hP1 hD1
  have hP : va_P (dC, dI) vwCl [(mo, .inr (2, [.int 0, .ref bL, .ref bT, .int (nI n), .ref bK, .ref bF, .ref bS, .ref bB, .int co1_3, .int pl1_3, .int st1_3, .int jo1_3, .int cn1_3, .int ii1_3, .int fi1_3, .int fe1_3, .ref bU])), (bK, .inl (cI, 60, .inl K)), (bF, .inl (cI, 60, .inl F)), (bS, .inl (cI, 60, .inl S)), (bB, .inl (cZ, 60, .inl B)), (bL, .inl (cI, 4, .inl L)), (bT, .inl (cI, 4, .inl T)), (bU, .inl (cI, 6, .inl U1_3))] H_3 := hP
  have hD : va_D A [(mo, .inr (2, [.int 0, .ref bL, .ref bT, .int (nI n), .ref bK, .ref bF, .ref bS, .ref bB, .int co1_3, .int pl1_3, .int st1_3, .int jo1_3, .int cn1_3, .int ii1_3, .int fi1_3, .int fe1_3, .ref bU])), (bK, .inl (cI, 60, .inl K)), (bF, .inl (cI, 60, .inl F)), (bS, .inl (cI, 60, .inl S)), (bB, .inl (cZ, 60, .inl B)), (bL, .inl (cI, 4, .inl L)), (bT, .inl (cI, 4, .inl T)), (bU, .inl (cI, 6, .inl U1_3))] := hD
  refine lv_aload_n hx hb dX2_worth_17 rfl (lv_at hl 0 rfl) ?_
  refine lv_iload_n hx hb dX2_worth_18 rfl (lv_at hl 1 rfl) ?_
  have hPc := hP.sub (ws' := [(mo, .inr (2, [.int 0, .ref bL, .ref bT, .int (nI n), .ref bK, .ref bF, .ref bS, .ref bB, .int co1_3, .int pl1_3, .int st1_3, .int jo1_3, .int cn1_3, .int ii1_3, .int fi1_3, .int fe1_3, .ref bU])), (bK, .inl (cI, 60, .inl K)), (bF, .inl (cI, 60, .inl F)), (bS, .inl (cI, 60, .inl S)), (bB, .inl (cZ, 60, .inl B)), (bL, .inl (cI, 4, .inl L)), (bT, .inl (cI, 4, .inl T)), (bU, .inl (cI, 6, .inl U1_3))]) [0, 1, 2, 3, 4, 5, 6, 7] rfl
  have hDc := hD.sub (ws' := [(mo, .inr (2, [.int 0, .ref bL, .ref bT, .int (nI n), .ref bK, .ref bF, .ref bS, .ref bB, .int co1_3, .int pl1_3, .int st1_3, .int jo1_3, .int cn1_3, .int ii1_3, .int fi1_3, .int fe1_3, .ref bU])), (bK, .inl (cI, 60, .inl K)), (bF, .inl (cI, 60, .inl F)), (bS, .inl (cI, 60, .inl S)), (bB, .inl (cZ, 60, .inl B)), (bL, .inl (cI, 4, .inl L)), (bT, .inl (cI, 4, .inl T)), (bU, .inl (cI, 6, .inl U1_3))]) [0, 1, 2, 3, 4, 5, 6, 7] (by decide) rfl
  have hKc := hK.sub (tys' := [(cI, .int), (cZ, .boolean)]) [0, 1] rfl
  have hFc := va_free (wc := [(mo, .inr (2, [.int 0, .ref bL, .ref bT, .int (nI n), .ref bK, .ref bF, .ref bS, .ref bB, .int co1_3, .int pl1_3, .int st1_3, .int jo1_3, .int cn1_3, .int ii1_3, .int fi1_3, .int fe1_3, .ref bU])), (bK, .inl (cI, 60, .inl K)), (bF, .inl (cI, 60, .inl F)), (bS, .inl (cI, 60, .inl S)), (bB, .inl (cZ, 60, .inl B)), (bL, .inl (cI, 4, .inl L)), (bT, .inl (cI, 4, .inl T)), (bU, .inl (cI, 6, .inl U1_3))]) hD hS hA [0, 1, 2, 3, 4, 5, 6, 7] rfl
  refine va_calli (va_runV (As := [.int (nI i)]) (rest := [.int (aCo L T K F S B n (-1))]) ⟨hx, hb, hml, hown, hts⟩ (c_X2_coinsOther l dC dI cI cZ mo bK bF bS bB bL bT bU H_3.size L T K F S B U1_3 n 0 co1_3 pl1_3 st1_3 jo1_3 cn1_3 ii1_3 fi1_3 fe1_3 i (hX) (hi)) (cwV 1 hts gX2_worth_X2_coinsOther rfl rfl rfl (by decide +kernel) ⟨Nat.le_of_ble_eq_true rfl, Nat.le_of_ble_eq_true rfl⟩) (pc_V hKc hPc hDc (ci := 2) (C := RX2) (T := TX2) (N := 17) (q0 := 0) rfl rfl) rfl rfl hl.1 rfl (lv_room (Nat.le_of_ble_eq_true rfl)) dX2_worth_19 ⟨Nat.le_of_ble_eq_true rfl, Nat.le_of_ble_eq_true rfl⟩) hS (fun q _ h => hFc q h) hFc (fun r_4 u t H_4 locs ht hvm hw hB hz1 hk1 hS => ?_)
  obtain ⟨co1_4, pl1_4, st1_4, jo1_4, cn1_4, ii1_4, fi1_4, fe1_4, U1_4⟩ := u
  try dsimp only at hw hB
  have hw_4 := hw
  replace hw_4 := hw_4.symm
  subst hw_4
  obtain ⟨hP1, hD1⟩ := hB
  rw [ht] at hP1
  obtain ⟨hP, hD⟩ := va_join (wr := []) (w1 := [(mo, .inr (2, [.int 0, .ref bL, .ref bT, .int (nI n), .ref bK, .ref bF, .ref bS, .ref bB, .int co1_4, .int pl1_4, .int st1_4, .int jo1_4, .int cn1_4, .int ii1_4, .int fi1_4, .int fe1_4, .ref bU])), (bK, .inl (cI, 60, .inl K)), (bF, .inl (cI, 60, .inl F)), (bS, .inl (cI, 60, .inl S)), (bB, .inl (cZ, 60, .inl B)), (bL, .inl (cI, 4, .inl L)), (bT, .inl (cI, 4, .inl T)), (bU, .inl (cI, 6, .inl U1_4))]) hP hD [0, 1, 2, 3, 4, 5, 6, 7] [] rfl rfl (by decide) (by decide) hk1 hFc hP1 hD1
  have hP : va_P (dC, dI) vwCl [(mo, .inr (2, [.int 0, .ref bL, .ref bT, .int (nI n), .ref bK, .ref bF, .ref bS, .ref bB, .int co1_4, .int pl1_4, .int st1_4, .int jo1_4, .int cn1_4, .int ii1_4, .int fi1_4, .int fe1_4, .ref bU])), (bK, .inl (cI, 60, .inl K)), (bF, .inl (cI, 60, .inl F)), (bS, .inl (cI, 60, .inl S)), (bB, .inl (cZ, 60, .inl B)), (bL, .inl (cI, 4, .inl L)), (bT, .inl (cI, 4, .inl T)), (bU, .inl (cI, 6, .inl U1_4))] H_4 := hP
  have hD : va_D A [(mo, .inr (2, [.int 0, .ref bL, .ref bT, .int (nI n), .ref bK, .ref bF, .ref bS, .ref bB, .int co1_4, .int pl1_4, .int st1_4, .int jo1_4, .int cn1_4, .int ii1_4, .int fi1_4, .int fe1_4, .ref bU])), (bK, .inl (cI, 60, .inl K)), (bF, .inl (cI, 60, .inl F)), (bS, .inl (cI, 60, .inl S)), (bB, .inl (cZ, 60, .inl B)), (bL, .inl (cI, 4, .inl L)), (bT, .inl (cI, 4, .inl T)), (bU, .inl (cI, 6, .inl U1_4))] := hD
  refine lv_isub hx hb dX2_worth_22 ?_
  refine lv_goto (tgt := 31) hx hb dX2_worth_23 (by decide) ?_
  have hpost : ((aCo L T K F S B n (-1)) - (aCo L T K F S B n (nI i))) = aCo L T K F S B n (-1) - aCo L T K F S B n (nI i) := by
    rfl
  have hP9 := hP.sub (ws' := [(mo, .inr (2, [.int 0, .ref bL, .ref bT, .int (nI n), .ref bK, .ref bF, .ref bS, .ref bB, .int co1_4, .int pl1_4, .int st1_4, .int jo1_4, .int cn1_4, .int ii1_4, .int fi1_4, .int fe1_4, .ref bU])), (bK, .inl (cI, 60, .inl K)), (bF, .inl (cI, 60, .inl F)), (bS, .inl (cI, 60, .inl S)), (bB, .inl (cZ, 60, .inl B)), (bL, .inl (cI, 4, .inl L)), (bT, .inl (cI, 4, .inl T)), (bU, .inl (cI, 6, .inl U1_4))]) [0, 1, 2, 3, 4, 5, 6, 7] rfl
  have hD9 := hD.sub (ws' := [(mo, .inr (2, [.int 0, .ref bL, .ref bT, .int (nI n), .ref bK, .ref bF, .ref bS, .ref bB, .int co1_4, .int pl1_4, .int st1_4, .int jo1_4, .int cn1_4, .int ii1_4, .int fi1_4, .int fe1_4, .ref bU])), (bK, .inl (cI, 60, .inl K)), (bF, .inl (cI, 60, .inl F)), (bS, .inl (cI, 60, .inl S)), (bB, .inl (cZ, 60, .inl B)), (bL, .inl (cI, 4, .inl L)), (bT, .inl (cI, 4, .inl T)), (bU, .inl (cI, 6, .inl U1_4))]) [0, 1, 2, 3, 4, 5, 6, 7] (by decide) rfl
  exact W.iret (v := (aCo L T K F S B n (-1)) - (aCo L T K F S B n (nI i))) hx hb hr (fun t ht hW => ⟨⟨((aCo L T K F S B n (-1)) - (aCo L T K F S B n (nI i))), (co1_4, pl1_4, st1_4, jo1_4, cn1_4, ii1_4, fi1_4, fe1_4, U1_4), rfl, hpost, by rw [ht]; exact hP9, hD9⟩, hS.F ht⟩) hS.2.2 dX2_worth_31

set_option maxHeartbeats 4000000 in
set_option maxRecDepth 100000 in
theorem c_X2_worth_f1 (l : Launch) (dC : Nat → ClassId) (dI : Nat → Nat → Nat) (cI cZ : ClassId) (mo bK bF bS bB bL bT bU : Nat) (sz : Nat) (L : N2I) (T : N2I) (K : N2I) (F : N2I) (S : N2I) (B : N2I) (U : N2I) (n : Nat) (tw : Int32) (co : Int32) (pl : Int32) (st : Int32) (jo : Int32) (cn : Int32) (ii : Int32) (fi : Int32) (fe : Int32) (x : Int32) (hn6 : n ≤ 60) (hxb : ¬ vp_in x n) : Met l yX2_worth wsX2_worth ({ frames := 7, cells := 0, slots := 0, locals := 148 } : Room) (va_Pc [.ref mo, .int x] (pc_ (dC, dI) [(cI, .int), (cZ, .boolean)] [(mo, .inr (2, [.int tw, .ref bL, .ref bT, .int (nI n), .ref bK, .ref bF, .ref bS, .ref bB, .int co, .int pl, .int st, .int jo, .int cn, .int ii, .int fi, .int fe, .ref bU])), (bK, .inl (cI, 60, .inl K)), (bF, .inl (cI, 60, .inl F)), (bS, .inl (cI, 60, .inl S)), (bB, .inl (cZ, 60, .inl B)), (bL, .inl (cI, 4, .inl L)), (bT, .inl (cI, 4, .inl T)), (bU, .inl (cI, 6, .inl U))] sz)) (va_Qi (fun (r : Int32) (u : Unit) => r = 0) (fun (u : Unit) (t : State) => va_P (dC, dI) vwCl [(mo, .inr (2, [.int 1, .ref bL, .ref bT, .int (nI n), .ref bK, .ref bF, .ref bS, .ref bB, .int co, .int pl, .int st, .int jo, .int cn, .int ii, .int fi, .int fe, .ref bU])), (bK, .inl (cI, 60, .inl K)), (bF, .inl (cI, 60, .inl F)), (bS, .inl (cI, 60, .inl S)), (bB, .inl (cZ, 60, .inl B)), (bL, .inl (cI, 4, .inl L)), (bT, .inl (cI, 4, .inl T)), (bU, .inl (cI, 6, .inl U))] t.heap ∧ va_D (va_A [(mo, .inr (2, [.int tw, .ref bL, .ref bT, .int (nI n), .ref bK, .ref bF, .ref bS, .ref bB, .int co, .int pl, .int st, .int jo, .int cn, .int ii, .int fi, .int fe, .ref bU])), (bK, .inl (cI, 60, .inl K)), (bF, .inl (cI, 60, .inl F)), (bS, .inl (cI, 60, .inl S)), (bB, .inl (cZ, 60, .inl B)), (bL, .inl (cI, 4, .inl L)), (bT, .inl (cI, 4, .inl T)), (bU, .inl (cI, 6, .inl U))] sz) [(mo, .inr (2, [.int 1, .ref bL, .ref bT, .int (nI n), .ref bK, .ref bF, .ref bS, .ref bB, .int co, .int pl, .int st, .int jo, .int cn, .int ii, .int fi, .int fe, .ref bU])), (bK, .inl (cI, 60, .inl K)), (bF, .inl (cI, 60, .inl F)), (bS, .inl (cI, 60, .inl S)), (bB, .inl (cZ, 60, .inl B)), (bL, .inl (cI, 4, .inl L)), (bT, .inl (cI, 4, .inl T)), (bU, .inl (cI, 6, .inl U))]) (va_A [(mo, .inr (2, [.int tw, .ref bL, .ref bT, .int (nI n), .ref bK, .ref bF, .ref bS, .ref bB, .int co, .int pl, .int st, .int jo, .int cn, .int ii, .int fi, .int fe, .ref bU])), (bK, .inl (cI, 60, .inl K)), (bF, .inl (cI, 60, .inl F)), (bS, .inl (cI, 60, .inl S)), (bB, .inl (cZ, 60, .inl B)), (bL, .inl (cI, 4, .inl L)), (bT, .inl (cI, 4, .inl T)), (bU, .inl (cI, 6, .inl U))] sz)) 0 0 (va_A [(mo, .inr (2, [.int tw, .ref bL, .ref bT, .int (nI n), .ref bK, .ref bF, .ref bS, .ref bB, .int co, .int pl, .int st, .int jo, .int cn, .int ii, .int fi, .int fe, .ref bU])), (bK, .inl (cI, 60, .inl K)), (bF, .inl (cI, 60, .inl F)), (bS, .inl (cI, 60, .inl S)), (bB, .inl (cZ, 60, .inl B)), (bL, .inl (cI, 4, .inl L)), (bT, .inl (cI, 4, .inl T)), (bU, .inl (cI, 6, .inl U))] sz) := by
  refine Met.ofW (cc := cX2_worth) (maxL := 2) (ret := (some .int)) (by decide) rfl ?_
  intro p e s m args below meth c s₁ BB hml hv
  obtain ⟨rfl, hsz, hP, hK, hD0⟩ := hv
  have hx := BB.exec
  have hb := BB.bytes
  have hr := BB.returns
  have hts := atoms_spec (ws := wsX2_worth) BB.pre
  have hown : s.vm.findClass RX2 = some m.cls := findClass_of_methodNamed BB.named
  have hlocks := BB.notSynchronized
  subst hsz
  have hD := hD0.self (sz := s.heap.size)
  generalize hAe : va_A [(mo, .inr (2, [.int tw, .ref bL, .ref bT, .int (nI n), .ref bK, .ref bF, .ref bS, .ref bB, .int co, .int pl, .int st, .int jo, .int cn, .int ii, .int fi, .int fe, .ref bU])), (bK, .inl (cI, 60, .inl K)), (bF, .inl (cI, 60, .inl F)), (bS, .inl (cI, 60, .inl S)), (bB, .inl (cZ, 60, .inl B)), (bL, .inl (cI, 4, .inl L)), (bT, .inl (cI, 4, .inl T)), (bU, .inl (cI, 6, .inl U))] s.heap.size = A at hD ⊢
  have hA : ∀ q : Nat, s.heap.size ≤ q → A q := fun q h => by rw [← hAe]; exact Or.inr h
  have hS : va_S A s.heap s.heap [] := va_S.rf
  have hP : va_P (dC, dI) vwCl [(mo, .inr (2, [.int tw, .ref bL, .ref bT, .int (nI n), .ref bK, .ref bF, .ref bS, .ref bB, .int co, .int pl, .int st, .int jo, .int cn, .int ii, .int fi, .int fe, .ref bU])), (bK, .inl (cI, 60, .inl K)), (bF, .inl (cI, 60, .inl F)), (bS, .inl (cI, 60, .inl S)), (bB, .inl (cZ, 60, .inl B)), (bL, .inl (cI, 4, .inl L)), (bT, .inl (cI, 4, .inl T)), (bU, .inl (cI, 6, .inl U))] s.heap := hP
  have hl := lv_entry ([.ref mo, .int x]) (n := 2) (Nat.le_of_ble_eq_true rfl)
  rw [lg_entry_eq]
  generalize (lg_sl ([.ref mo, .int x]) ++ List.replicate (2 - (lg_sl ([.ref mo, .int x])).length) Slot.unset).toArray = ls at hl ⊢
  have hl : lv_has ls 2 [(0, .ref mo), (1, .int x)] := hl
  have k0 := hts (.fieldLink RX2 32 "KnifeLedgerModel" "thrown" "I") (by decide +kernel)
  have hinX2 : ∀ w ∈ wsX20, w ∈ wsX2_worth := by decide +kernel
  refine lv_aload_n hx hb dX2_worth_0 rfl (lv_at hl 0 rfl) ?_
  refine lv_iconst (v := 0) hx hb dX2_worth_1 (by decide) ?_
  refine va_put (D := (dC, dI)) (ci := 2) (v := .int 0) (ty := .int) (C := RX2) (T := TX2) (N := 17) hx hb hts hinX2 tyX2 tyX2_ok nmX2 hown hK hP hD hS 0 rfl rfl 0 (by decide) k0 (fun _ h9 => h9) rfl (by decide +kernel) rfl rfl (Nat.le_of_ble_eq_true rfl) dX2_worth_2 (fun H_1 locs hP hD hS => ?_)
  have hP : va_P (dC, dI) vwCl [(mo, .inr (2, [.int 0, .ref bL, .ref bT, .int (nI n), .ref bK, .ref bF, .ref bS, .ref bB, .int co, .int pl, .int st, .int jo, .int cn, .int ii, .int fi, .int fe, .ref bU])), (bK, .inl (cI, 60, .inl K)), (bF, .inl (cI, 60, .inl F)), (bS, .inl (cI, 60, .inl S)), (bB, .inl (cZ, 60, .inl B)), (bL, .inl (cI, 4, .inl L)), (bT, .inl (cI, 4, .inl T)), (bU, .inl (cI, 6, .inl U))] H_1 := hP
  have hD : va_D A [(mo, .inr (2, [.int 0, .ref bL, .ref bT, .int (nI n), .ref bK, .ref bF, .ref bS, .ref bB, .int co, .int pl, .int st, .int jo, .int cn, .int ii, .int fi, .int fe, .ref bU])), (bK, .inl (cI, 60, .inl K)), (bF, .inl (cI, 60, .inl F)), (bS, .inl (cI, 60, .inl S)), (bB, .inl (cZ, 60, .inl B)), (bL, .inl (cI, 4, .inl L)), (bT, .inl (cI, 4, .inl T)), (bU, .inl (cI, 6, .inl U))] := hD
  refine lv_aload_n hx hb dX2_worth_5 rfl (lv_at hl 0 rfl) ?_
  refine lv_iload_n hx hb dX2_worth_6 rfl (lv_at hl 1 rfl) ?_
  have hPc := hP.sub (ws' := [(mo, .inr (2, [.int 0, .ref bL, .ref bT, .int (nI n), .ref bK, .ref bF, .ref bS, .ref bB, .int co, .int pl, .int st, .int jo, .int cn, .int ii, .int fi, .int fe, .ref bU])), (bK, .inl (cI, 60, .inl K)), (bF, .inl (cI, 60, .inl F)), (bS, .inl (cI, 60, .inl S)), (bB, .inl (cZ, 60, .inl B)), (bL, .inl (cI, 4, .inl L)), (bT, .inl (cI, 4, .inl T)), (bU, .inl (cI, 6, .inl U))]) [0, 1, 2, 3, 4, 5, 6, 7] rfl
  have hDc := hD.sub (ws' := [(mo, .inr (2, [.int 0, .ref bL, .ref bT, .int (nI n), .ref bK, .ref bF, .ref bS, .ref bB, .int co, .int pl, .int st, .int jo, .int cn, .int ii, .int fi, .int fe, .ref bU])), (bK, .inl (cI, 60, .inl K)), (bF, .inl (cI, 60, .inl F)), (bS, .inl (cI, 60, .inl S)), (bB, .inl (cZ, 60, .inl B)), (bL, .inl (cI, 4, .inl L)), (bT, .inl (cI, 4, .inl T)), (bU, .inl (cI, 6, .inl U))]) [0, 1, 2, 3, 4, 5, 6, 7] (by decide) rfl
  have hKc := hK.sub (tys' := [(cI, .int), (cZ, .boolean)]) [0, 1] rfl
  have hFc := va_free (wc := [(mo, .inr (2, [.int 0, .ref bL, .ref bT, .int (nI n), .ref bK, .ref bF, .ref bS, .ref bB, .int co, .int pl, .int st, .int jo, .int cn, .int ii, .int fi, .int fe, .ref bU])), (bK, .inl (cI, 60, .inl K)), (bF, .inl (cI, 60, .inl F)), (bS, .inl (cI, 60, .inl S)), (bB, .inl (cZ, 60, .inl B)), (bL, .inl (cI, 4, .inl L)), (bT, .inl (cI, 4, .inl T)), (bU, .inl (cI, 6, .inl U))]) hD hS hA [0, 1, 2, 3, 4, 5, 6, 7] rfl
  refine va_calli (va_runV (As := [.int x]) (rest := []) ⟨hx, hb, hml, hown, hts⟩ (c_X2_isEntry l dC dI cI cZ mo bK bF bS bB bL bT bU H_1.size L T K F S B U n 0 co pl st jo cn ii fi fe x) (cwV 1 hts gX2_worth_X2_isEntry rfl rfl rfl (by decide +kernel) ⟨Nat.le_of_ble_eq_true rfl, Nat.le_of_ble_eq_true rfl⟩) (pc_V hKc hPc hDc (ci := 2) (C := RX2) (T := TX2) (N := 17) (q0 := 0) rfl rfl) rfl rfl hl.1 rfl (lv_room (Nat.le_of_ble_eq_true rfl)) dX2_worth_7 ⟨Nat.le_of_ble_eq_true rfl, Nat.le_of_ble_eq_true rfl⟩) hS (fun q _ h => hFc q h) hFc (fun r_2 u t H_2 locs ht hvm hw hB hz1 hk1 hS => ?_)
  try dsimp only at hw hB
  have hw_2 := hw
  replace hw_2 := hw_2.symm
  subst hw_2
  obtain ⟨hP1, hD1⟩ := hB
  rw [ht] at hP1
  obtain ⟨hP, hD⟩ := va_join (wr := []) (w1 := [(mo, .inr (2, [.int 0, .ref bL, .ref bT, .int (nI n), .ref bK, .ref bF, .ref bS, .ref bB, .int co, .int pl, .int st, .int jo, .int cn, .int ii, .int fi, .int fe, .ref bU])), (bK, .inl (cI, 60, .inl K)), (bF, .inl (cI, 60, .inl F)), (bS, .inl (cI, 60, .inl S)), (bB, .inl (cZ, 60, .inl B)), (bL, .inl (cI, 4, .inl L)), (bT, .inl (cI, 4, .inl T)), (bU, .inl (cI, 6, .inl U))]) hP hD [0, 1, 2, 3, 4, 5, 6, 7] [] rfl rfl (by decide) (by decide) hk1 hFc hP1 hD1
  have hP : va_P (dC, dI) vwCl [(mo, .inr (2, [.int 0, .ref bL, .ref bT, .int (nI n), .ref bK, .ref bF, .ref bS, .ref bB, .int co, .int pl, .int st, .int jo, .int cn, .int ii, .int fi, .int fe, .ref bU])), (bK, .inl (cI, 60, .inl K)), (bF, .inl (cI, 60, .inl F)), (bS, .inl (cI, 60, .inl S)), (bB, .inl (cZ, 60, .inl B)), (bL, .inl (cI, 4, .inl L)), (bT, .inl (cI, 4, .inl T)), (bU, .inl (cI, 6, .inl U))] H_2 := hP
  have hD : va_D A [(mo, .inr (2, [.int 0, .ref bL, .ref bT, .int (nI n), .ref bK, .ref bF, .ref bS, .ref bB, .int co, .int pl, .int st, .int jo, .int cn, .int ii, .int fi, .int fe, .ref bU])), (bK, .inl (cI, 60, .inl K)), (bF, .inl (cI, 60, .inl F)), (bS, .inl (cI, 60, .inl S)), (bB, .inl (cZ, 60, .inl B)), (bL, .inl (cI, 4, .inl L)), (bT, .inl (cI, 4, .inl T)), (bU, .inl (cI, 6, .inl U))] := hD
  refine lv_if_eq (tgt := 26) hx hb dX2_worth_10 (by decide) (fun _ => ?_) (fun h9 => absurd (mIn_nent hn6 hxb) h9)
  refine lv_aload_n hx hb dX2_worth_26 rfl (lv_at hl 0 rfl) ?_
  refine lv_iconst (v := 1) hx hb dX2_worth_27 (by decide) ?_
  have hPc := hP.sub (ws' := [(mo, .inr (2, [.int 0, .ref bL, .ref bT, .int (nI n), .ref bK, .ref bF, .ref bS, .ref bB, .int co, .int pl, .int st, .int jo, .int cn, .int ii, .int fi, .int fe, .ref bU])), (bK, .inl (cI, 60, .inl K)), (bF, .inl (cI, 60, .inl F)), (bS, .inl (cI, 60, .inl S)), (bB, .inl (cZ, 60, .inl B)), (bL, .inl (cI, 4, .inl L)), (bT, .inl (cI, 4, .inl T)), (bU, .inl (cI, 6, .inl U))]) [0, 1, 2, 3, 4, 5, 6, 7] rfl
  have hDc := hD.sub (ws' := [(mo, .inr (2, [.int 0, .ref bL, .ref bT, .int (nI n), .ref bK, .ref bF, .ref bS, .ref bB, .int co, .int pl, .int st, .int jo, .int cn, .int ii, .int fi, .int fe, .ref bU])), (bK, .inl (cI, 60, .inl K)), (bF, .inl (cI, 60, .inl F)), (bS, .inl (cI, 60, .inl S)), (bB, .inl (cZ, 60, .inl B)), (bL, .inl (cI, 4, .inl L)), (bT, .inl (cI, 4, .inl T)), (bU, .inl (cI, 6, .inl U))]) [0, 1, 2, 3, 4, 5, 6, 7] (by decide) rfl
  have hKc := hK.sub (tys' := [(cI, .int), (cZ, .boolean)]) [0, 1] rfl
  have hFc := va_free (wc := [(mo, .inr (2, [.int 0, .ref bL, .ref bT, .int (nI n), .ref bK, .ref bF, .ref bS, .ref bB, .int co, .int pl, .int st, .int jo, .int cn, .int ii, .int fi, .int fe, .ref bU])), (bK, .inl (cI, 60, .inl K)), (bF, .inl (cI, 60, .inl F)), (bS, .inl (cI, 60, .inl S)), (bB, .inl (cZ, 60, .inl B)), (bL, .inl (cI, 4, .inl L)), (bT, .inl (cI, 4, .inl T)), (bU, .inl (cI, 6, .inl U))]) hD hS hA [0, 1, 2, 3, 4, 5, 6, 7] rfl
  refine va_calli (va_runV (As := [.int 1]) (rest := []) ⟨hx, hb, hml, hown, hts⟩ (c_X2_fail l dC dI cI cZ mo bK bF bS bB bL bT bU H_2.size L T K F S B U n 0 co pl st jo cn ii fi fe 1) (cwV 1 hts gX2_worth_X2_fail rfl rfl rfl (by decide +kernel) ⟨Nat.le_of_ble_eq_true rfl, Nat.le_of_ble_eq_true rfl⟩) (pc_V hKc hPc hDc (ci := 2) (C := RX2) (T := TX2) (N := 17) (q0 := 0) rfl rfl) rfl rfl hl.1 rfl (lv_room (Nat.le_of_ble_eq_true rfl)) dX2_worth_28 ⟨Nat.le_of_ble_eq_true rfl, Nat.le_of_ble_eq_true rfl⟩) hS (fun q _ h => hFc q h) hFc (fun r_3 u t H_3 locs ht hvm hw hB hz1 hk1 hS => ?_)
  try dsimp only at hw hB
  have hw_3 := hw
  replace hw_3 := hw_3.symm
  subst hw_3
  obtain ⟨hP1, hD1⟩ := hB
  rw [ht] at hP1
  obtain ⟨hP, hD⟩ := va_join (wr := []) (w1 := [(mo, .inr (2, [.int 1, .ref bL, .ref bT, .int (nI n), .ref bK, .ref bF, .ref bS, .ref bB, .int co, .int pl, .int st, .int jo, .int cn, .int ii, .int fi, .int fe, .ref bU])), (bK, .inl (cI, 60, .inl K)), (bF, .inl (cI, 60, .inl F)), (bS, .inl (cI, 60, .inl S)), (bB, .inl (cZ, 60, .inl B)), (bL, .inl (cI, 4, .inl L)), (bT, .inl (cI, 4, .inl T)), (bU, .inl (cI, 6, .inl U))]) hP hD [0, 1, 2, 3, 4, 5, 6, 7] [] rfl rfl (by decide) (by decide) hk1 hFc hP1 hD1
  have hP : va_P (dC, dI) vwCl [(mo, .inr (2, [.int 1, .ref bL, .ref bT, .int (nI n), .ref bK, .ref bF, .ref bS, .ref bB, .int co, .int pl, .int st, .int jo, .int cn, .int ii, .int fi, .int fe, .ref bU])), (bK, .inl (cI, 60, .inl K)), (bF, .inl (cI, 60, .inl F)), (bS, .inl (cI, 60, .inl S)), (bB, .inl (cZ, 60, .inl B)), (bL, .inl (cI, 4, .inl L)), (bT, .inl (cI, 4, .inl T)), (bU, .inl (cI, 6, .inl U))] H_3 := hP
  have hD : va_D A [(mo, .inr (2, [.int 1, .ref bL, .ref bT, .int (nI n), .ref bK, .ref bF, .ref bS, .ref bB, .int co, .int pl, .int st, .int jo, .int cn, .int ii, .int fi, .int fe, .ref bU])), (bK, .inl (cI, 60, .inl K)), (bF, .inl (cI, 60, .inl F)), (bS, .inl (cI, 60, .inl S)), (bB, .inl (cZ, 60, .inl B)), (bL, .inl (cI, 4, .inl L)), (bT, .inl (cI, 4, .inl T)), (bU, .inl (cI, 6, .inl U))] := hD
  have hpost : (0 : Int32) = 0 := by
    rfl
  have hP9 := hP.sub (ws' := [(mo, .inr (2, [.int 1, .ref bL, .ref bT, .int (nI n), .ref bK, .ref bF, .ref bS, .ref bB, .int co, .int pl, .int st, .int jo, .int cn, .int ii, .int fi, .int fe, .ref bU])), (bK, .inl (cI, 60, .inl K)), (bF, .inl (cI, 60, .inl F)), (bS, .inl (cI, 60, .inl S)), (bB, .inl (cZ, 60, .inl B)), (bL, .inl (cI, 4, .inl L)), (bT, .inl (cI, 4, .inl T)), (bU, .inl (cI, 6, .inl U))]) [0, 1, 2, 3, 4, 5, 6, 7] rfl
  have hD9 := hD.sub (ws' := [(mo, .inr (2, [.int 1, .ref bL, .ref bT, .int (nI n), .ref bK, .ref bF, .ref bS, .ref bB, .int co, .int pl, .int st, .int jo, .int cn, .int ii, .int fi, .int fe, .ref bU])), (bK, .inl (cI, 60, .inl K)), (bF, .inl (cI, 60, .inl F)), (bS, .inl (cI, 60, .inl S)), (bB, .inl (cZ, 60, .inl B)), (bL, .inl (cI, 4, .inl L)), (bT, .inl (cI, 4, .inl T)), (bU, .inl (cI, 6, .inl U))]) [0, 1, 2, 3, 4, 5, 6, 7] (by decide) rfl
  exact W.iret (v := 0) hx hb hr (fun t ht hW => ⟨⟨0, (), rfl, hpost, by rw [ht]; exact hP9, hD9⟩, hS.F ht⟩) hS.2.2 dX2_worth_31

set_option maxHeartbeats 4000000 in
set_option maxRecDepth 100000 in
theorem c_X2_best (l : Launch) (dC : Nat → ClassId) (dI : Nat → Nat → Nat) (cI cZ : ClassId) (mo bK bF bS bB bL bT bU : Nat) (sz : Nat) (L : N2I) (T : N2I) (K : N2I) (F : N2I) (S : N2I) (B : N2I) (U : N2I) (n : Nat) (tw : Int32) (co : Int32) (pl : Int32) (st : Int32) (jo : Int32) (cn : Int32) (ii : Int32) (fi : Int32) (fe : Int32) (hX : okX K F S B n) : Met l yX2_best wsX2_best ({ frames := 7, cells := 0, slots := 0, locals := 148 } : Room) (va_Pc [.ref mo] (pc_ (dC, dI) [(cI, .int), (cZ, .boolean)] [(mo, .inr (2, [.int tw, .ref bL, .ref bT, .int (nI n), .ref bK, .ref bF, .ref bS, .ref bB, .int co, .int pl, .int st, .int jo, .int cn, .int ii, .int fi, .int fe, .ref bU])), (bK, .inl (cI, 60, .inl K)), (bF, .inl (cI, 60, .inl F)), (bS, .inl (cI, 60, .inl S)), (bB, .inl (cZ, 60, .inl B)), (bL, .inl (cI, 4, .inl L)), (bT, .inl (cI, 4, .inl T)), (bU, .inl (cI, 6, .inl U))] sz)) (va_Qi (fun (r : Int32) (u : Int32 × Int32 × Int32 × Int32 × Int32 × Int32 × Int32 × Int32 × N2I) => r = (aBest (aCo L T K F S B n) B n).1) (fun (u : Int32 × Int32 × Int32 × Int32 × Int32 × Int32 × Int32 × Int32 × N2I) (t : State) => va_P (dC, dI) vwCl [(mo, .inr (2, [.int 0, .ref bL, .ref bT, .int (nI n), .ref bK, .ref bF, .ref bS, .ref bB, .int u.1, .int u.2.1, .int u.2.2.1, .int u.2.2.2.1, .int u.2.2.2.2.1, .int u.2.2.2.2.2.1, .int u.2.2.2.2.2.2.1, .int u.2.2.2.2.2.2.2.1, .ref bU])), (bK, .inl (cI, 60, .inl K)), (bF, .inl (cI, 60, .inl F)), (bS, .inl (cI, 60, .inl S)), (bB, .inl (cZ, 60, .inl B)), (bL, .inl (cI, 4, .inl L)), (bT, .inl (cI, 4, .inl T)), (bU, .inl (cI, 6, .inl u.2.2.2.2.2.2.2.2))] t.heap ∧ va_D (va_A [(mo, .inr (2, [.int tw, .ref bL, .ref bT, .int (nI n), .ref bK, .ref bF, .ref bS, .ref bB, .int co, .int pl, .int st, .int jo, .int cn, .int ii, .int fi, .int fe, .ref bU])), (bK, .inl (cI, 60, .inl K)), (bF, .inl (cI, 60, .inl F)), (bS, .inl (cI, 60, .inl S)), (bB, .inl (cZ, 60, .inl B)), (bL, .inl (cI, 4, .inl L)), (bT, .inl (cI, 4, .inl T)), (bU, .inl (cI, 6, .inl U))] sz) [(mo, .inr (2, [.int 0, .ref bL, .ref bT, .int (nI n), .ref bK, .ref bF, .ref bS, .ref bB, .int u.1, .int u.2.1, .int u.2.2.1, .int u.2.2.2.1, .int u.2.2.2.2.1, .int u.2.2.2.2.2.1, .int u.2.2.2.2.2.2.1, .int u.2.2.2.2.2.2.2.1, .ref bU])), (bK, .inl (cI, 60, .inl K)), (bF, .inl (cI, 60, .inl F)), (bS, .inl (cI, 60, .inl S)), (bB, .inl (cZ, 60, .inl B)), (bL, .inl (cI, 4, .inl L)), (bT, .inl (cI, 4, .inl T)), (bU, .inl (cI, 6, .inl u.2.2.2.2.2.2.2.2))]) (va_A [(mo, .inr (2, [.int tw, .ref bL, .ref bT, .int (nI n), .ref bK, .ref bF, .ref bS, .ref bB, .int co, .int pl, .int st, .int jo, .int cn, .int ii, .int fi, .int fe, .ref bU])), (bK, .inl (cI, 60, .inl K)), (bF, .inl (cI, 60, .inl F)), (bS, .inl (cI, 60, .inl S)), (bB, .inl (cZ, 60, .inl B)), (bL, .inl (cI, 4, .inl L)), (bT, .inl (cI, 4, .inl T)), (bU, .inl (cI, 6, .inl U))] sz)) 0 0 (va_A [(mo, .inr (2, [.int tw, .ref bL, .ref bT, .int (nI n), .ref bK, .ref bF, .ref bS, .ref bB, .int co, .int pl, .int st, .int jo, .int cn, .int ii, .int fi, .int fe, .ref bU])), (bK, .inl (cI, 60, .inl K)), (bF, .inl (cI, 60, .inl F)), (bS, .inl (cI, 60, .inl S)), (bB, .inl (cZ, 60, .inl B)), (bL, .inl (cI, 4, .inl L)), (bT, .inl (cI, 4, .inl T)), (bU, .inl (cI, 6, .inl U))] sz) := by
  refine Met.ofW (cc := cX2_best) (maxL := 5) (ret := (some .int)) (by decide) rfl ?_
  intro p e s m args below meth c s₁ BB hml hv
  obtain ⟨rfl, hsz, hP, hK, hD0⟩ := hv
  have hx := BB.exec
  have hb := BB.bytes
  have hr := BB.returns
  have hts := atoms_spec (ws := wsX2_best) BB.pre
  have hown : s.vm.findClass RX2 = some m.cls := findClass_of_methodNamed BB.named
  have hlocks := BB.notSynchronized
  subst hsz
  have hD := hD0.self (sz := s.heap.size)
  generalize hAe : va_A [(mo, .inr (2, [.int tw, .ref bL, .ref bT, .int (nI n), .ref bK, .ref bF, .ref bS, .ref bB, .int co, .int pl, .int st, .int jo, .int cn, .int ii, .int fi, .int fe, .ref bU])), (bK, .inl (cI, 60, .inl K)), (bF, .inl (cI, 60, .inl F)), (bS, .inl (cI, 60, .inl S)), (bB, .inl (cZ, 60, .inl B)), (bL, .inl (cI, 4, .inl L)), (bT, .inl (cI, 4, .inl T)), (bU, .inl (cI, 6, .inl U))] s.heap.size = A at hD ⊢
  have hA : ∀ q : Nat, s.heap.size ≤ q → A q := fun q h => by rw [← hAe]; exact Or.inr h
  have hS : va_S A s.heap s.heap [] := va_S.rf
  have hP : va_P (dC, dI) vwCl [(mo, .inr (2, [.int tw, .ref bL, .ref bT, .int (nI n), .ref bK, .ref bF, .ref bS, .ref bB, .int co, .int pl, .int st, .int jo, .int cn, .int ii, .int fi, .int fe, .ref bU])), (bK, .inl (cI, 60, .inl K)), (bF, .inl (cI, 60, .inl F)), (bS, .inl (cI, 60, .inl S)), (bB, .inl (cZ, 60, .inl B)), (bL, .inl (cI, 4, .inl L)), (bT, .inl (cI, 4, .inl T)), (bU, .inl (cI, 6, .inl U))] s.heap := hP
  have hl := lv_entry ([.ref mo]) (n := 5) (Nat.le_of_ble_eq_true rfl)
  rw [lg_entry_eq]
  generalize (lg_sl ([.ref mo]) ++ List.replicate (5 - (lg_sl ([.ref mo])).length) Slot.unset).toArray = ls at hl ⊢
  have hl : lv_has ls 5 [(0, .ref mo)] := hl
  have k0 := hts (.fieldLink RX2 32 "KnifeLedgerModel" "thrown" "I") (by decide +kernel)
  have hinX2 : ∀ w ∈ wsX20, w ∈ wsX2_best := by decide +kernel
  have k2 := hts (.fieldLink RX2 36 "KnifeLedgerModel" "entries" "I") (by decide +kernel)
  have k3 := hts (.fieldLink RX2 25 "KnifeLedgerModel" "struck" "[Z") (by decide +kernel)
  have hn6 : n ≤ 60 := hX.1
  refine lv_aload_n hx hb dX2_best_0 rfl (lv_at hl 0 rfl) ?_
  refine lv_iconst (v := 0) hx hb dX2_best_1 (by decide) ?_
  refine va_put (D := (dC, dI)) (ci := 2) (v := .int 0) (ty := .int) (C := RX2) (T := TX2) (N := 17) hx hb hts hinX2 tyX2 tyX2_ok nmX2 hown hK hP hD hS 0 rfl rfl 0 (by decide) k0 (fun _ h9 => h9) rfl (by decide +kernel) rfl rfl (Nat.le_of_ble_eq_true rfl) dX2_best_2 (fun H_1 locs hP hD hS => ?_)
  have hP : va_P (dC, dI) vwCl [(mo, .inr (2, [.int 0, .ref bL, .ref bT, .int (nI n), .ref bK, .ref bF, .ref bS, .ref bB, .int co, .int pl, .int st, .int jo, .int cn, .int ii, .int fi, .int fe, .ref bU])), (bK, .inl (cI, 60, .inl K)), (bF, .inl (cI, 60, .inl F)), (bS, .inl (cI, 60, .inl S)), (bB, .inl (cZ, 60, .inl B)), (bL, .inl (cI, 4, .inl L)), (bT, .inl (cI, 4, .inl T)), (bU, .inl (cI, 6, .inl U))] H_1 := hP
  have hD : va_D A [(mo, .inr (2, [.int 0, .ref bL, .ref bT, .int (nI n), .ref bK, .ref bF, .ref bS, .ref bB, .int co, .int pl, .int st, .int jo, .int cn, .int ii, .int fi, .int fe, .ref bU])), (bK, .inl (cI, 60, .inl K)), (bF, .inl (cI, 60, .inl F)), (bS, .inl (cI, 60, .inl S)), (bB, .inl (cZ, 60, .inl B)), (bL, .inl (cI, 4, .inl L)), (bT, .inl (cI, 4, .inl T)), (bU, .inl (cI, 6, .inl U))] := hD
  refine lv_iconst (v := (-1)) hx hb dX2_best_5 (by decide) ?_
  refine lv_istore_n (lv' := [(1, .int (-1)), (0, .ref mo)]) hx hb dX2_best_6 rfl hl (by decide) rfl (fun ls hl => ?_)
  refine lv_aload_n hx hb dX2_best_7 rfl (lv_at hl 1 rfl) ?_
  have hPc := hP.sub (ws' := [(mo, .inr (2, [.int 0, .ref bL, .ref bT, .int (nI n), .ref bK, .ref bF, .ref bS, .ref bB, .int co, .int pl, .int st, .int jo, .int cn, .int ii, .int fi, .int fe, .ref bU])), (bK, .inl (cI, 60, .inl K)), (bF, .inl (cI, 60, .inl F)), (bS, .inl (cI, 60, .inl S)), (bB, .inl (cZ, 60, .inl B)), (bL, .inl (cI, 4, .inl L)), (bT, .inl (cI, 4, .inl T)), (bU, .inl (cI, 6, .inl U))]) [0, 1, 2, 3, 4, 5, 6, 7] rfl
  have hDc := hD.sub (ws' := [(mo, .inr (2, [.int 0, .ref bL, .ref bT, .int (nI n), .ref bK, .ref bF, .ref bS, .ref bB, .int co, .int pl, .int st, .int jo, .int cn, .int ii, .int fi, .int fe, .ref bU])), (bK, .inl (cI, 60, .inl K)), (bF, .inl (cI, 60, .inl F)), (bS, .inl (cI, 60, .inl S)), (bB, .inl (cZ, 60, .inl B)), (bL, .inl (cI, 4, .inl L)), (bT, .inl (cI, 4, .inl T)), (bU, .inl (cI, 6, .inl U))]) [0, 1, 2, 3, 4, 5, 6, 7] (by decide) rfl
  have hKc := hK.sub (tys' := [(cI, .int), (cZ, .boolean)]) [0, 1] rfl
  have hFc := va_free (wc := [(mo, .inr (2, [.int 0, .ref bL, .ref bT, .int (nI n), .ref bK, .ref bF, .ref bS, .ref bB, .int co, .int pl, .int st, .int jo, .int cn, .int ii, .int fi, .int fe, .ref bU])), (bK, .inl (cI, 60, .inl K)), (bF, .inl (cI, 60, .inl F)), (bS, .inl (cI, 60, .inl S)), (bB, .inl (cZ, 60, .inl B)), (bL, .inl (cI, 4, .inl L)), (bT, .inl (cI, 4, .inl T)), (bU, .inl (cI, 6, .inl U))]) hD hS hA [0, 1, 2, 3, 4, 5, 6, 7] rfl
  refine va_calli (va_runV (As := []) (rest := []) ⟨hx, hb, hml, hown, hts⟩ (c_X2_coinsNow l dC dI cI cZ mo bK bF bS bB bL bT bU H_1.size L T K F S B U n 0 co pl st jo cn ii fi fe (hX)) (cwV 0 hts gX2_best_X2_coinsNow rfl rfl rfl (by decide +kernel) ⟨Nat.le_of_ble_eq_true rfl, Nat.le_of_ble_eq_true rfl⟩) (pc_V hKc hPc hDc (ci := 2) (C := RX2) (T := TX2) (N := 17) (q0 := 0) rfl rfl) rfl rfl hl.1 rfl (lv_room (Nat.le_of_ble_eq_true rfl)) dX2_best_8 ⟨Nat.le_of_ble_eq_true rfl, Nat.le_of_ble_eq_true rfl⟩) hS (fun q _ h => hFc q h) hFc (fun r_2 u t H_2 locs ht hvm hw hB hz1 hk1 hS => ?_)
  obtain ⟨co1_2, pl1_2, st1_2, jo1_2, cn1_2, ii1_2, fi1_2, fe1_2, U1_2⟩ := u
  try dsimp only at hw hB
  have hw_2 := hw
  replace hw_2 := hw_2.symm
  subst hw_2
  obtain ⟨hP1, hD1⟩ := hB
  rw [ht] at hP1
  obtain ⟨hP, hD⟩ := va_join (wr := []) (w1 := [(mo, .inr (2, [.int 0, .ref bL, .ref bT, .int (nI n), .ref bK, .ref bF, .ref bS, .ref bB, .int co1_2, .int pl1_2, .int st1_2, .int jo1_2, .int cn1_2, .int ii1_2, .int fi1_2, .int fe1_2, .ref bU])), (bK, .inl (cI, 60, .inl K)), (bF, .inl (cI, 60, .inl F)), (bS, .inl (cI, 60, .inl S)), (bB, .inl (cZ, 60, .inl B)), (bL, .inl (cI, 4, .inl L)), (bT, .inl (cI, 4, .inl T)), (bU, .inl (cI, 6, .inl U1_2))]) hP hD [0, 1, 2, 3, 4, 5, 6, 7] [] rfl rfl (by decide) (by decide) hk1 hFc hP1 hD1
  have hP : va_P (dC, dI) vwCl [(mo, .inr (2, [.int 0, .ref bL, .ref bT, .int (nI n), .ref bK, .ref bF, .ref bS, .ref bB, .int co1_2, .int pl1_2, .int st1_2, .int jo1_2, .int cn1_2, .int ii1_2, .int fi1_2, .int fe1_2, .ref bU])), (bK, .inl (cI, 60, .inl K)), (bF, .inl (cI, 60, .inl F)), (bS, .inl (cI, 60, .inl S)), (bB, .inl (cZ, 60, .inl B)), (bL, .inl (cI, 4, .inl L)), (bT, .inl (cI, 4, .inl T)), (bU, .inl (cI, 6, .inl U1_2))] H_2 := hP
  have hD : va_D A [(mo, .inr (2, [.int 0, .ref bL, .ref bT, .int (nI n), .ref bK, .ref bF, .ref bS, .ref bB, .int co1_2, .int pl1_2, .int st1_2, .int jo1_2, .int cn1_2, .int ii1_2, .int fi1_2, .int fe1_2, .ref bU])), (bK, .inl (cI, 60, .inl K)), (bF, .inl (cI, 60, .inl F)), (bS, .inl (cI, 60, .inl S)), (bB, .inl (cZ, 60, .inl B)), (bL, .inl (cI, 4, .inl L)), (bT, .inl (cI, 4, .inl T)), (bU, .inl (cI, 6, .inl U1_2))] := hD
  refine lv_istore_n (lv' := [(2, .int (aCo L T K F S B n (-1))), (1, .int (-1)), (0, .ref mo)]) hx hb dX2_best_11 rfl hl (by decide) rfl (fun ls hl => ?_)
  refine lv_iconst (v := 0) hx hb dX2_best_12 (by decide) ?_
  refine lv_istore_n (lv' := [(3, .int 0), (2, .int (aCo L T K F S B n (-1))), (1, .int (-1)), (0, .ref mo)]) hx hb dX2_best_13 rfl hl (by decide) rfl (fun ls hl => ?_)
  refine (fun (KK : ∀ (nn9 : Nat) (i : Nat) (be : Int32) (mo9 : Int32) (co2 : Int32) (pl2 : Int32) (st2 : Int32) (jo2 : Int32) (cn2 : Int32) (ii2 : Int32) (fi2 : Int32) (fe2 : Int32) (U2 : N2I) (H : Heap) (locs : List Loc) (ls : Array Slot) (hi : i ≤ n) (hs : (be, mo9) = aBest (aCo L T K F S B n) B i), n - i < nn9 → va_P (dC, dI) vwCl [(mo, .inr (2, [.int 0, .ref bL, .ref bT, .int (nI n), .ref bK, .ref bF, .ref bS, .ref bB, .int co2, .int pl2, .int st2, .int jo2, .int cn2, .int ii2, .int fi2, .int fe2, .ref bU])), (bK, .inl (cI, 60, .inl K)), (bF, .inl (cI, 60, .inl F)), (bS, .inl (cI, 60, .inl S)), (bB, .inl (cZ, 60, .inl B)), (bL, .inl (cI, 4, .inl L)), (bT, .inl (cI, 4, .inl T)), (bU, .inl (cI, 6, .inl U2))] H → va_D A [(mo, .inr (2, [.int 0, .ref bL, .ref bT, .int (nI n), .ref bK, .ref bF, .ref bS, .ref bB, .int co2, .int pl2, .int st2, .int jo2, .int cn2, .int ii2, .int fi2, .int fe2, .ref bU])), (bK, .inl (cI, 60, .inl K)), (bF, .inl (cI, 60, .inl F)), (bS, .inl (cI, 60, .inl S)), (bB, .inl (cZ, 60, .inl B)), (bL, .inl (cI, 4, .inl L)), (bT, .inl (cI, 4, .inl T)), (bU, .inl (cI, 6, .inl U2))] → va_S A s.heap H locs → lv_has ls 5 [(1, .int be), (2, .int mo9), (3, .int (nI i)), (0, .ref mo)] → W p l e _ s m _ below meth c H locs 0 0 _ (F0 m 14 ls [])) => KK (n - 0 + 1) 0 (-1) (aCo L T K F S B n (-1)) co1_2 pl1_2 st1_2 jo1_2 cn1_2 ii1_2 fi1_2 fe1_2 U1_2 _ _ _ (Nat.zero_le _) (rfl) (by omega) hP hD hS (lv_sub hl [2, 1, 0, 3] rfl)) ?_
  intro nn_14
  induction nn_14 with
  | zero => intro i be mo9 co2 pl2 st2 jo2 cn2 ii2 fi2 fe2 U2 H locs ls hi hs hn9; exact absurd hn9 (Nat.not_lt_zero _)
  | succ nn_14 ih_14 =>
    intro i be mo9 co2 pl2 st2 jo2 cn2 ii2 fi2 fe2 U2 H_3 locs ls hi hs hn_14 hP hD hS hl
    refine lv_iload_n hx hb dX2_best_14 rfl (lv_at hl 2 rfl) ?_
    refine lv_aload_n hx hb dX2_best_15 rfl (lv_at hl 3 rfl) ?_
    refine va_get (D := (dC, dI)) (ci := 2) (v := .int (nI n)) (C := RX2) (T := TX2) (N := 17) hx hb hts hinX2 hown hK hP 0 rfl rfl 3 (by decide) k2 (fun _ h9 => h9) rfl dX2_best_16 ?_
    refine lv_icmp_ge (tgt := 61) hx hb dX2_best_19 (by decide) (fun c_19 => ?_) (fun c_19 => ?_)
    · -- 19
      have hge : i = n := by rw [nI_leI (by omega) (by omega)] at c_19; omega
      refine lv_iload_n hx hb dX2_best_61 rfl (lv_at hl 0 rfl) ?_
      have hpost : be = (aBest (aCo L T K F S B n) B n).1 := by
        subst hge; rw [← hs]
      have hP9 := hP.sub (ws' := [(mo, .inr (2, [.int 0, .ref bL, .ref bT, .int (nI n), .ref bK, .ref bF, .ref bS, .ref bB, .int co2, .int pl2, .int st2, .int jo2, .int cn2, .int ii2, .int fi2, .int fe2, .ref bU])), (bK, .inl (cI, 60, .inl K)), (bF, .inl (cI, 60, .inl F)), (bS, .inl (cI, 60, .inl S)), (bB, .inl (cZ, 60, .inl B)), (bL, .inl (cI, 4, .inl L)), (bT, .inl (cI, 4, .inl T)), (bU, .inl (cI, 6, .inl U2))]) [0, 1, 2, 3, 4, 5, 6, 7] rfl
      have hD9 := hD.sub (ws' := [(mo, .inr (2, [.int 0, .ref bL, .ref bT, .int (nI n), .ref bK, .ref bF, .ref bS, .ref bB, .int co2, .int pl2, .int st2, .int jo2, .int cn2, .int ii2, .int fi2, .int fe2, .ref bU])), (bK, .inl (cI, 60, .inl K)), (bF, .inl (cI, 60, .inl F)), (bS, .inl (cI, 60, .inl S)), (bB, .inl (cZ, 60, .inl B)), (bL, .inl (cI, 4, .inl L)), (bT, .inl (cI, 4, .inl T)), (bU, .inl (cI, 6, .inl U2))]) [0, 1, 2, 3, 4, 5, 6, 7] (by decide) rfl
      exact W.iret (v := be) hx hb hr (fun t ht hW => ⟨⟨be, (co2, pl2, st2, jo2, cn2, ii2, fi2, fe2, U2), rfl, hpost, by rw [ht]; exact hP9, hD9⟩, hS.F ht⟩) hS.2.2 dX2_best_62
    · -- 19
      have hlt : i < n := by rw [nI_leI (by omega) (by omega)] at c_19; omega
      refine lv_aload_n hx hb dX2_best_22 rfl (lv_at hl 3 rfl) ?_
      refine va_get (D := (dC, dI)) (ci := 2) (v := .ref bB) (C := RX2) (T := TX2) (N := 17) hx hb hts hinX2 hown hK hP 0 rfl rfl 7 (by decide) k3 (fun _ h9 => h9) rfl dX2_best_23 ?_
      refine lv_iload_n hx hb dX2_best_26 rfl (lv_at hl 2 rfl) ?_
      refine va_zald hx hb hK hP 4 1 rfl rfl (vp_in_nI (by omega) (by omega)) dX2_best_27 ?_
      rw [nI_clamp (n := i) (by omega)]
      refine lv_if_eq (tgt := 34) hx hb dX2_best_28 (by decide) (fun c_28 => ?_) (fun c_28 => ?_)
      · -- 28
        refine lv_aload_n hx hb dX2_best_34 rfl (lv_at hl 3 rfl) ?_
        refine lv_iload_n hx hb dX2_best_35 rfl (lv_at hl 2 rfl) ?_
        have hPc := hP.sub (ws' := [(mo, .inr (2, [.int 0, .ref bL, .ref bT, .int (nI n), .ref bK, .ref bF, .ref bS, .ref bB, .int co2, .int pl2, .int st2, .int jo2, .int cn2, .int ii2, .int fi2, .int fe2, .ref bU])), (bK, .inl (cI, 60, .inl K)), (bF, .inl (cI, 60, .inl F)), (bS, .inl (cI, 60, .inl S)), (bB, .inl (cZ, 60, .inl B)), (bL, .inl (cI, 4, .inl L)), (bT, .inl (cI, 4, .inl T)), (bU, .inl (cI, 6, .inl U2))]) [0, 1, 2, 3, 4, 5, 6, 7] rfl
        have hDc := hD.sub (ws' := [(mo, .inr (2, [.int 0, .ref bL, .ref bT, .int (nI n), .ref bK, .ref bF, .ref bS, .ref bB, .int co2, .int pl2, .int st2, .int jo2, .int cn2, .int ii2, .int fi2, .int fe2, .ref bU])), (bK, .inl (cI, 60, .inl K)), (bF, .inl (cI, 60, .inl F)), (bS, .inl (cI, 60, .inl S)), (bB, .inl (cZ, 60, .inl B)), (bL, .inl (cI, 4, .inl L)), (bT, .inl (cI, 4, .inl T)), (bU, .inl (cI, 6, .inl U2))]) [0, 1, 2, 3, 4, 5, 6, 7] (by decide) rfl
        have hKc := hK.sub (tys' := [(cI, .int), (cZ, .boolean)]) [0, 1] rfl
        have hFc := va_free (wc := [(mo, .inr (2, [.int 0, .ref bL, .ref bT, .int (nI n), .ref bK, .ref bF, .ref bS, .ref bB, .int co2, .int pl2, .int st2, .int jo2, .int cn2, .int ii2, .int fi2, .int fe2, .ref bU])), (bK, .inl (cI, 60, .inl K)), (bF, .inl (cI, 60, .inl F)), (bS, .inl (cI, 60, .inl S)), (bB, .inl (cZ, 60, .inl B)), (bL, .inl (cI, 4, .inl L)), (bT, .inl (cI, 4, .inl T)), (bU, .inl (cI, 6, .inl U2))]) hD hS hA [0, 1, 2, 3, 4, 5, 6, 7] rfl
        refine va_calli (va_runV (As := [.int (nI i)]) (rest := []) ⟨hx, hb, hml, hown, hts⟩ (c_X2_coinsOther l dC dI cI cZ mo bK bF bS bB bL bT bU H_3.size L T K F S B U2 n 0 co2 pl2 st2 jo2 cn2 ii2 fi2 fe2 i (hX) (hlt)) (cwV 1 hts gX2_best_X2_coinsOther rfl rfl rfl (by decide +kernel) ⟨Nat.le_of_ble_eq_true rfl, Nat.le_of_ble_eq_true rfl⟩) (pc_V hKc hPc hDc (ci := 2) (C := RX2) (T := TX2) (N := 17) (q0 := 0) rfl rfl) rfl rfl hl.1 rfl (lv_room (Nat.le_of_ble_eq_true rfl)) dX2_best_36 ⟨Nat.le_of_ble_eq_true rfl, Nat.le_of_ble_eq_true rfl⟩) hS (fun q _ h => hFc q h) hFc (fun r_4 u t H_4 locs ht hvm hw hB hz1 hk1 hS => ?_)
        obtain ⟨co1_4, pl1_4, st1_4, jo1_4, cn1_4, ii1_4, fi1_4, fe1_4, U1_4⟩ := u
        try dsimp only at hw hB
        have hw_4 := hw
        replace hw_4 := hw_4.symm
        subst hw_4
        obtain ⟨hP1, hD1⟩ := hB
        rw [ht] at hP1
        obtain ⟨hP, hD⟩ := va_join (wr := []) (w1 := [(mo, .inr (2, [.int 0, .ref bL, .ref bT, .int (nI n), .ref bK, .ref bF, .ref bS, .ref bB, .int co1_4, .int pl1_4, .int st1_4, .int jo1_4, .int cn1_4, .int ii1_4, .int fi1_4, .int fe1_4, .ref bU])), (bK, .inl (cI, 60, .inl K)), (bF, .inl (cI, 60, .inl F)), (bS, .inl (cI, 60, .inl S)), (bB, .inl (cZ, 60, .inl B)), (bL, .inl (cI, 4, .inl L)), (bT, .inl (cI, 4, .inl T)), (bU, .inl (cI, 6, .inl U1_4))]) hP hD [0, 1, 2, 3, 4, 5, 6, 7] [] rfl rfl (by decide) (by decide) hk1 hFc hP1 hD1
        have hP : va_P (dC, dI) vwCl [(mo, .inr (2, [.int 0, .ref bL, .ref bT, .int (nI n), .ref bK, .ref bF, .ref bS, .ref bB, .int co1_4, .int pl1_4, .int st1_4, .int jo1_4, .int cn1_4, .int ii1_4, .int fi1_4, .int fe1_4, .ref bU])), (bK, .inl (cI, 60, .inl K)), (bF, .inl (cI, 60, .inl F)), (bS, .inl (cI, 60, .inl S)), (bB, .inl (cZ, 60, .inl B)), (bL, .inl (cI, 4, .inl L)), (bT, .inl (cI, 4, .inl T)), (bU, .inl (cI, 6, .inl U1_4))] H_4 := hP
        have hD : va_D A [(mo, .inr (2, [.int 0, .ref bL, .ref bT, .int (nI n), .ref bK, .ref bF, .ref bS, .ref bB, .int co1_4, .int pl1_4, .int st1_4, .int jo1_4, .int cn1_4, .int ii1_4, .int fi1_4, .int fe1_4, .ref bU])), (bK, .inl (cI, 60, .inl K)), (bF, .inl (cI, 60, .inl F)), (bS, .inl (cI, 60, .inl S)), (bB, .inl (cZ, 60, .inl B)), (bL, .inl (cI, 4, .inl L)), (bT, .inl (cI, 4, .inl T)), (bU, .inl (cI, 6, .inl U1_4))] := hD
        refine lv_istore (lv' := [(4, .int (aCo L T K F S B n (nI i))), (1, .int be), (2, .int mo9), (3, .int (nI i)), (0, .ref mo)]) hx hb dX2_best_39 hl (by decide) rfl (fun ls hl => ?_)
        refine lv_iload hx hb dX2_best_41 (lv_at hl 0 rfl) ?_
        refine lv_iload_n hx hb dX2_best_43 rfl (lv_at hl 2 rfl) ?_
        refine lv_icmp_gt (tgt := 50) hx hb dX2_best_44 (by decide) (fun c_44 => ?_) (fun c_44 => ?_)
        · -- 44
          refine lv_iload_n hx hb dX2_best_50 rfl (lv_at hl 3 rfl) ?_
          refine lv_istore_n (lv' := [(1, .int (nI i)), (4, .int (aCo L T K F S B n (nI i))), (2, .int mo9), (3, .int (nI i)), (0, .ref mo)]) hx hb dX2_best_51 rfl hl (by decide) rfl (fun ls hl => ?_)
          refine lv_iload hx hb dX2_best_52 (lv_at hl 1 rfl) ?_
          refine lv_istore_n (lv' := [(2, .int (aCo L T K F S B n (nI i))), (1, .int (nI i)), (4, .int (aCo L T K F S B n (nI i))), (3, .int (nI i)), (0, .ref mo)]) hx hb dX2_best_54 rfl hl (by decide) rfl (fun ls hl => ?_)
          refine lv_iinc (v := nI (i + 1)) (lv' := [(3, .int (nI (i + 1))), (2, .int (aCo L T K F S B n (nI i))), (1, .int (nI i)), (4, .int (aCo L T K F S B n (nI i))), (0, .ref mo)]) hx hb dX2_best_55 hl (k := 3) rfl (nI_1 _) (by decide) rfl (fun ls hl => ?_)
          refine lv_goto (tgt := 14) hx hb dX2_best_58 (by decide) ?_
          exact ih_14 (i + 1) (nI i) (aCo L T K F S B n (nI i)) co1_4 pl1_4 st1_4 jo1_4 cn1_4 ii1_4 fi1_4 fe1_4 U1_4 _ _ _ (by omega) (by rw [best_new c_28 (by rw [← hs]; exact nle_lt.mpr c_44)]) (by omega) hP hD hS (lv_sub hl [2, 1, 0, 4] rfl)
        · -- 44
          refine lv_goto (tgt := 55) hx hb dX2_best_47 (by decide) ?_
          refine lv_iinc (v := nI (i + 1)) (lv' := [(3, .int (nI (i + 1))), (4, .int (aCo L T K F S B n (nI i))), (1, .int be), (2, .int mo9), (0, .ref mo)]) hx hb dX2_best_55 hl (k := 3) rfl (nI_1 _) (by decide) rfl (fun ls hl => ?_)
          refine lv_goto (tgt := 14) hx hb dX2_best_58 (by decide) ?_
          exact ih_14 (i + 1) be mo9 co1_4 pl1_4 st1_4 jo1_4 cn1_4 ii1_4 fi1_4 fe1_4 U1_4 _ _ _ (by omega) (by rw [best_keep c_28 (by rw [← hs]; exact nlt_le.mp c_44)]; exact hs) (by omega) hP hD hS (lv_sub hl [2, 3, 0, 4] rfl)
      · -- 28
        refine lv_goto (tgt := 55) hx hb dX2_best_31 (by decide) ?_
        refine lv_iinc (v := nI (i + 1)) (lv' := [(3, .int (nI (i + 1))), (1, .int be), (2, .int mo9), (0, .ref mo)]) hx hb dX2_best_55 hl (k := 2) rfl (nI_1 _) (by decide) rfl (fun ls hl => ?_)
        refine lv_goto (tgt := 14) hx hb dX2_best_58 (by decide) ?_
        exact ih_14 (i + 1) be mo9 co2 pl2 st2 jo2 cn2 ii2 fi2 fe2 U2 _ _ _ (by omega) (by rw [best_skip c_28]; exact hs) (by omega) hP hD hS (lv_sub hl [1, 2, 0, 3] rfl)

set_option maxHeartbeats 4000000 in
set_option maxRecDepth 100000 in
theorem c_X2_behind (l : Launch) (dC : Nat → ClassId) (dI : Nat → Nat → Nat) (cI cZ : ClassId) (mo bK bF bS bB bL bT bU : Nat) (sz : Nat) (L : N2I) (T : N2I) (K : N2I) (F : N2I) (S : N2I) (B : N2I) (U : N2I) (n : Nat) (tw : Int32) (co : Int32) (pl : Int32) (st : Int32) (jo : Int32) (cn : Int32) (ii : Int32) (fi : Int32) (fe : Int32) (mm : Nat) (w9 : Nat) (hX : okX K F S B n) (hm : mm ≤ n) (hw9 : w9 < 7) : Met l yX2_behind wsX2_behind ({ frames := 5, cells := 1, slots := 7, locals := 106 } : Room) (va_Pc [.ref mo, .int (nI mm), .int (nI w9)] (pc_ (dC, dI) [(cI, .int), (cZ, .boolean)] [(mo, .inr (2, [.int tw, .ref bL, .ref bT, .int (nI n), .ref bK, .ref bF, .ref bS, .ref bB, .int co, .int pl, .int st, .int jo, .int cn, .int ii, .int fi, .int fe, .ref bU])), (bK, .inl (cI, 60, .inl K)), (bF, .inl (cI, 60, .inl F)), (bS, .inl (cI, 60, .inl S)), (bB, .inl (cZ, 60, .inl B)), (bL, .inl (cI, 4, .inl L)), (bT, .inl (cI, 4, .inl T)), (bU, .inl (cI, 6, .inl U))] sz)) (va_Qi (fun (r : Int32) (u : Int32 × Int32 × Int32 × Int32 × Int32 × Int32 × Int32 × Int32 × N2I) => r = aBehind (nI w9) (cRec L T K F S B mm)) (fun (u : Int32 × Int32 × Int32 × Int32 × Int32 × Int32 × Int32 × Int32 × N2I) (t : State) => va_P (dC, dI) vwCl [(mo, .inr (2, [.int 0, .ref bL, .ref bT, .int (nI n), .ref bK, .ref bF, .ref bS, .ref bB, .int u.1, .int u.2.1, .int u.2.2.1, .int u.2.2.2.1, .int u.2.2.2.2.1, .int u.2.2.2.2.2.1, .int u.2.2.2.2.2.2.1, .int u.2.2.2.2.2.2.2.1, .ref bU])), (bK, .inl (cI, 60, .inl K)), (bF, .inl (cI, 60, .inl F)), (bS, .inl (cI, 60, .inl S)), (bB, .inl (cZ, 60, .inl B)), (bL, .inl (cI, 4, .inl L)), (bT, .inl (cI, 4, .inl T)), (bU, .inl (cI, 6, .inl u.2.2.2.2.2.2.2.2))] t.heap ∧ va_D (va_A [(mo, .inr (2, [.int tw, .ref bL, .ref bT, .int (nI n), .ref bK, .ref bF, .ref bS, .ref bB, .int co, .int pl, .int st, .int jo, .int cn, .int ii, .int fi, .int fe, .ref bU])), (bK, .inl (cI, 60, .inl K)), (bF, .inl (cI, 60, .inl F)), (bS, .inl (cI, 60, .inl S)), (bB, .inl (cZ, 60, .inl B)), (bL, .inl (cI, 4, .inl L)), (bT, .inl (cI, 4, .inl T)), (bU, .inl (cI, 6, .inl U))] sz) [(mo, .inr (2, [.int 0, .ref bL, .ref bT, .int (nI n), .ref bK, .ref bF, .ref bS, .ref bB, .int u.1, .int u.2.1, .int u.2.2.1, .int u.2.2.2.1, .int u.2.2.2.2.1, .int u.2.2.2.2.2.1, .int u.2.2.2.2.2.2.1, .int u.2.2.2.2.2.2.2.1, .ref bU])), (bK, .inl (cI, 60, .inl K)), (bF, .inl (cI, 60, .inl F)), (bS, .inl (cI, 60, .inl S)), (bB, .inl (cZ, 60, .inl B)), (bL, .inl (cI, 4, .inl L)), (bT, .inl (cI, 4, .inl T)), (bU, .inl (cI, 6, .inl u.2.2.2.2.2.2.2.2))]) (va_A [(mo, .inr (2, [.int tw, .ref bL, .ref bT, .int (nI n), .ref bK, .ref bF, .ref bS, .ref bB, .int co, .int pl, .int st, .int jo, .int cn, .int ii, .int fi, .int fe, .ref bU])), (bK, .inl (cI, 60, .inl K)), (bF, .inl (cI, 60, .inl F)), (bS, .inl (cI, 60, .inl S)), (bB, .inl (cZ, 60, .inl B)), (bL, .inl (cI, 4, .inl L)), (bT, .inl (cI, 4, .inl T)), (bU, .inl (cI, 6, .inl U))] sz)) 1 7 (va_A [(mo, .inr (2, [.int tw, .ref bL, .ref bT, .int (nI n), .ref bK, .ref bF, .ref bS, .ref bB, .int co, .int pl, .int st, .int jo, .int cn, .int ii, .int fi, .int fe, .ref bU])), (bK, .inl (cI, 60, .inl K)), (bF, .inl (cI, 60, .inl F)), (bS, .inl (cI, 60, .inl S)), (bB, .inl (cZ, 60, .inl B)), (bL, .inl (cI, 4, .inl L)), (bT, .inl (cI, 4, .inl T)), (bU, .inl (cI, 6, .inl U))] sz) := by
  refine Met.ofW (cc := cX2_behind) (maxL := 4) (ret := (some .int)) (by decide) rfl ?_
  intro p e s m args below meth c s₁ BB hml hv
  obtain ⟨rfl, hsz, hP, hK, hD0⟩ := hv
  have hx := BB.exec
  have hb := BB.bytes
  have hr := BB.returns
  have hts := atoms_spec (ws := wsX2_behind) BB.pre
  have hown : s.vm.findClass RX2 = some m.cls := findClass_of_methodNamed BB.named
  have hlocks := BB.notSynchronized
  subst hsz
  have hD := hD0.self (sz := s.heap.size)
  generalize hAe : va_A [(mo, .inr (2, [.int tw, .ref bL, .ref bT, .int (nI n), .ref bK, .ref bF, .ref bS, .ref bB, .int co, .int pl, .int st, .int jo, .int cn, .int ii, .int fi, .int fe, .ref bU])), (bK, .inl (cI, 60, .inl K)), (bF, .inl (cI, 60, .inl F)), (bS, .inl (cI, 60, .inl S)), (bB, .inl (cZ, 60, .inl B)), (bL, .inl (cI, 4, .inl L)), (bT, .inl (cI, 4, .inl T)), (bU, .inl (cI, 6, .inl U))] s.heap.size = A at hD ⊢
  have hA : ∀ q : Nat, s.heap.size ≤ q → A q := fun q h => by rw [← hAe]; exact Or.inr h
  have hS : va_S A s.heap s.heap [] := va_S.rf
  have hP : va_P (dC, dI) vwCl [(mo, .inr (2, [.int tw, .ref bL, .ref bT, .int (nI n), .ref bK, .ref bF, .ref bS, .ref bB, .int co, .int pl, .int st, .int jo, .int cn, .int ii, .int fi, .int fe, .ref bU])), (bK, .inl (cI, 60, .inl K)), (bF, .inl (cI, 60, .inl F)), (bS, .inl (cI, 60, .inl S)), (bB, .inl (cZ, 60, .inl B)), (bL, .inl (cI, 4, .inl L)), (bT, .inl (cI, 4, .inl T)), (bU, .inl (cI, 6, .inl U))] s.heap := hP
  have hl := lv_entry ([.ref mo, .int (nI mm), .int (nI w9)]) (n := 4) (Nat.le_of_ble_eq_true rfl)
  rw [lg_entry_eq]
  generalize (lg_sl ([.ref mo, .int (nI mm), .int (nI w9)]) ++ List.replicate (4 - (lg_sl ([.ref mo, .int (nI mm), .int (nI w9)])).length) Slot.unset).toArray = ls at hl ⊢
  have hl : lv_has ls 4 [(0, .ref mo), (1, .int (nI mm)), (2, .int (nI w9))] := hl
  have k0 := hts (.fieldLink RX2 32 "KnifeLedgerModel" "thrown" "I") (by decide +kernel)
  have hinX2 : ∀ w ∈ wsX20, w ∈ wsX2_behind := by decide +kernel
  have k2 := hts (.fieldLink RX2 36 "KnifeLedgerModel" "entries" "I") (by decide +kernel)
  have k3 := hts (.arrayClass .int) (by decide +kernel)
  have k4 := hts (.fieldLink RX2 70 "KnifeLedgerModel" "coins" "I") (by decide +kernel)
  have k5 := hts (.fieldLink RX2 80 "KnifeLedgerModel" "plasters" "I") (by decide +kernel)
  have k6 := hts (.fieldLink RX2 63 "KnifeLedgerModel" "stage" "I") (by decide +kernel)
  have k7 := hts (.fieldLink RX2 60 "KnifeLedgerModel" "joined" "I") (by decide +kernel)
  have k8 := hts (.fieldLink RX2 86 "KnifeLedgerModel" "counting" "I") (by decide +kernel)
  have k9 := hts (.fieldLink RX2 89 "KnifeLedgerModel" "idle" "I") (by decide +kernel)
  have hn6 : n ≤ 60 := hX.1
  refine lv_aload_n hx hb dX2_behind_0 rfl (lv_at hl 0 rfl) ?_
  refine lv_iconst (v := 0) hx hb dX2_behind_1 (by decide) ?_
  refine va_put (D := (dC, dI)) (ci := 2) (v := .int 0) (ty := .int) (C := RX2) (T := TX2) (N := 17) hx hb hts hinX2 tyX2 tyX2_ok nmX2 hown hK hP hD hS 0 rfl rfl 0 (by decide) k0 (fun _ h9 => h9) rfl (by decide +kernel) rfl rfl (Nat.le_of_ble_eq_true rfl) dX2_behind_2 (fun H_1 locs hP hD hS => ?_)
  have hP : va_P (dC, dI) vwCl [(mo, .inr (2, [.int 0, .ref bL, .ref bT, .int (nI n), .ref bK, .ref bF, .ref bS, .ref bB, .int co, .int pl, .int st, .int jo, .int cn, .int ii, .int fi, .int fe, .ref bU])), (bK, .inl (cI, 60, .inl K)), (bF, .inl (cI, 60, .inl F)), (bS, .inl (cI, 60, .inl S)), (bB, .inl (cZ, 60, .inl B)), (bL, .inl (cI, 4, .inl L)), (bT, .inl (cI, 4, .inl T)), (bU, .inl (cI, 6, .inl U))] H_1 := hP
  have hD : va_D A [(mo, .inr (2, [.int 0, .ref bL, .ref bT, .int (nI n), .ref bK, .ref bF, .ref bS, .ref bB, .int co, .int pl, .int st, .int jo, .int cn, .int ii, .int fi, .int fe, .ref bU])), (bK, .inl (cI, 60, .inl K)), (bF, .inl (cI, 60, .inl F)), (bS, .inl (cI, 60, .inl S)), (bB, .inl (cZ, 60, .inl B)), (bL, .inl (cI, 4, .inl L)), (bT, .inl (cI, 4, .inl T)), (bU, .inl (cI, 6, .inl U))] := hD
  refine lv_iload_n hx hb dX2_behind_5 rfl (lv_at hl 1 rfl) ?_
  refine lv_iconst (v := 0) hx hb dX2_behind_6 (by decide) ?_
  refine lv_aload_n hx hb dX2_behind_7 rfl (lv_at hl 0 rfl) ?_
  refine va_get (D := (dC, dI)) (ci := 2) (v := .int (nI n)) (C := RX2) (T := TX2) (N := 17) hx hb hts hinX2 hown hK hP 0 rfl rfl 3 (by decide) k2 (fun _ h9 => h9) rfl dX2_behind_8 ?_
  have hPc := hP.sub (ws' := []) [] rfl
  have hDc := hD.sub (ws' := []) [] (by decide) rfl
  have hKc := hK.sub (tys' := []) [] rfl
  have hFc := va_free (wc := []) hD hS hA [] rfl
  refine va_calli (va_runS (As := [.int (nI mm), .int 0, .int (nI n)]) (rest := []) ⟨hx, hb, hml, hown, hts⟩ (c_X2_isIn l dC dI H_1.size (nI mm) 0 (nI n)) (va_cwS 3 hts gX2_behind_X2_isIn rfl rfl rfl (by decide +kernel) ⟨Nat.le_of_ble_eq_true rfl, Nat.le_of_ble_eq_true rfl⟩) (pc_S hKc hPc hDc) rfl rfl hl.1 rfl (lv_room (Nat.le_of_ble_eq_true rfl)) dX2_behind_11 ⟨Nat.le_of_ble_eq_true rfl, Nat.le_of_ble_eq_true rfl⟩) hS (fun q _ h => hFc q h) hFc (fun r_2 u t H_2 locs ht hvm hw hB hz1 hk1 hS => ?_)
  try dsimp only at hw hB
  have hw_2 := hw
  replace hw_2 := hw_2.symm
  subst hw_2
  obtain ⟨hP1, hD1⟩ := hB
  rw [ht] at hP1
  obtain ⟨hP, hD⟩ := va_join (wr := [(mo, .inr (2, [.int 0, .ref bL, .ref bT, .int (nI n), .ref bK, .ref bF, .ref bS, .ref bB, .int co, .int pl, .int st, .int jo, .int cn, .int ii, .int fi, .int fe, .ref bU])), (bK, .inl (cI, 60, .inl K)), (bF, .inl (cI, 60, .inl F)), (bS, .inl (cI, 60, .inl S)), (bB, .inl (cZ, 60, .inl B)), (bL, .inl (cI, 4, .inl L)), (bT, .inl (cI, 4, .inl T)), (bU, .inl (cI, 6, .inl U))]) (w1 := []) hP hD [] [0, 1, 2, 3, 4, 5, 6, 7] rfl rfl (by decide) (by decide) hk1 hFc hP1 hD1
  have hP : va_P (dC, dI) vwCl [(mo, .inr (2, [.int 0, .ref bL, .ref bT, .int (nI n), .ref bK, .ref bF, .ref bS, .ref bB, .int co, .int pl, .int st, .int jo, .int cn, .int ii, .int fi, .int fe, .ref bU])), (bK, .inl (cI, 60, .inl K)), (bF, .inl (cI, 60, .inl F)), (bS, .inl (cI, 60, .inl S)), (bB, .inl (cZ, 60, .inl B)), (bL, .inl (cI, 4, .inl L)), (bT, .inl (cI, 4, .inl T)), (bU, .inl (cI, 6, .inl U))] H_2 := hP
  have hD : va_D A [(mo, .inr (2, [.int 0, .ref bL, .ref bT, .int (nI n), .ref bK, .ref bF, .ref bS, .ref bB, .int co, .int pl, .int st, .int jo, .int cn, .int ii, .int fi, .int fe, .ref bU])), (bK, .inl (cI, 60, .inl K)), (bF, .inl (cI, 60, .inl F)), (bS, .inl (cI, 60, .inl S)), (bB, .inl (cZ, 60, .inl B)), (bL, .inl (cI, 4, .inl L)), (bT, .inl (cI, 4, .inl T)), (bU, .inl (cI, 6, .inl U))] := hD
  refine lv_if_ne (tgt := 23) hx hb dX2_behind_14 (by decide) (fun _ => ?_) (fun h9 => absurd h9 (by rw [mIn_ok (nI_pos (by omega)) (nI_nlt hm (by omega))]; exact one_ne))
  refine lv_iload_n hx hb dX2_behind_23 rfl (lv_at hl 2 rfl) ?_
  refine lv_iconst (v := 0) hx hb dX2_behind_24 (by decide) ?_
  refine lv_bipush (v := 6) hx hb dX2_behind_25 (by decide) ?_
  have hPc := hP.sub (ws' := []) [] rfl
  have hDc := hD.sub (ws' := []) [] (by decide) rfl
  have hKc := hK.sub (tys' := []) [] rfl
  have hFc := va_free (wc := []) hD hS hA [] rfl
  refine va_calli (va_runS (As := [.int (nI w9), .int 0, .int 6]) (rest := []) ⟨hx, hb, hml, hown, hts⟩ (c_X2_isIn l dC dI H_2.size (nI w9) 0 6) (va_cwS 3 hts gX2_behind_X2_isIn rfl rfl rfl (by decide +kernel) ⟨Nat.le_of_ble_eq_true rfl, Nat.le_of_ble_eq_true rfl⟩) (pc_S hKc hPc hDc) rfl rfl hl.1 rfl (lv_room (Nat.le_of_ble_eq_true rfl)) dX2_behind_27 ⟨Nat.le_of_ble_eq_true rfl, Nat.le_of_ble_eq_true rfl⟩) hS (fun q _ h => hFc q h) hFc (fun r_3 u t H_3 locs ht hvm hw hB hz1 hk1 hS => ?_)
  try dsimp only at hw hB
  have hw_3 := hw
  replace hw_3 := hw_3.symm
  subst hw_3
  obtain ⟨hP1, hD1⟩ := hB
  rw [ht] at hP1
  obtain ⟨hP, hD⟩ := va_join (wr := [(mo, .inr (2, [.int 0, .ref bL, .ref bT, .int (nI n), .ref bK, .ref bF, .ref bS, .ref bB, .int co, .int pl, .int st, .int jo, .int cn, .int ii, .int fi, .int fe, .ref bU])), (bK, .inl (cI, 60, .inl K)), (bF, .inl (cI, 60, .inl F)), (bS, .inl (cI, 60, .inl S)), (bB, .inl (cZ, 60, .inl B)), (bL, .inl (cI, 4, .inl L)), (bT, .inl (cI, 4, .inl T)), (bU, .inl (cI, 6, .inl U))]) (w1 := []) hP hD [] [0, 1, 2, 3, 4, 5, 6, 7] rfl rfl (by decide) (by decide) hk1 hFc hP1 hD1
  have hP : va_P (dC, dI) vwCl [(mo, .inr (2, [.int 0, .ref bL, .ref bT, .int (nI n), .ref bK, .ref bF, .ref bS, .ref bB, .int co, .int pl, .int st, .int jo, .int cn, .int ii, .int fi, .int fe, .ref bU])), (bK, .inl (cI, 60, .inl K)), (bF, .inl (cI, 60, .inl F)), (bS, .inl (cI, 60, .inl S)), (bB, .inl (cZ, 60, .inl B)), (bL, .inl (cI, 4, .inl L)), (bT, .inl (cI, 4, .inl T)), (bU, .inl (cI, 6, .inl U))] H_3 := hP
  have hD : va_D A [(mo, .inr (2, [.int 0, .ref bL, .ref bT, .int (nI n), .ref bK, .ref bF, .ref bS, .ref bB, .int co, .int pl, .int st, .int jo, .int cn, .int ii, .int fi, .int fe, .ref bU])), (bK, .inl (cI, 60, .inl K)), (bF, .inl (cI, 60, .inl F)), (bS, .inl (cI, 60, .inl S)), (bB, .inl (cZ, 60, .inl B)), (bL, .inl (cI, 4, .inl L)), (bT, .inl (cI, 4, .inl T)), (bU, .inl (cI, 6, .inl U))] := hD
  refine lv_if_ne (tgt := 39) hx hb dX2_behind_30 (by decide) (fun _ => ?_) (fun h9 => absurd h9 (by show ¬ mIn (nI w9) 0 (nI 6) = 0; rw [mIn_ok (nI_pos (by omega)) (nI_nlt (b := w9) (a := 6) (by omega) (by omega))]; exact one_ne))
  refine lv_aload_n hx hb dX2_behind_39 rfl (lv_at hl 0 rfl) ?_
  refine lv_iload_n hx hb dX2_behind_40 rfl (lv_at hl 1 rfl) ?_
  have hPc := hP.sub (ws' := [(mo, .inr (2, [.int 0, .ref bL, .ref bT, .int (nI n), .ref bK, .ref bF, .ref bS, .ref bB, .int co, .int pl, .int st, .int jo, .int cn, .int ii, .int fi, .int fe, .ref bU])), (bK, .inl (cI, 60, .inl K)), (bF, .inl (cI, 60, .inl F)), (bS, .inl (cI, 60, .inl S)), (bB, .inl (cZ, 60, .inl B)), (bL, .inl (cI, 4, .inl L)), (bT, .inl (cI, 4, .inl T)), (bU, .inl (cI, 6, .inl U))]) [0, 1, 2, 3, 4, 5, 6, 7] rfl
  have hDc := hD.sub (ws' := [(mo, .inr (2, [.int 0, .ref bL, .ref bT, .int (nI n), .ref bK, .ref bF, .ref bS, .ref bB, .int co, .int pl, .int st, .int jo, .int cn, .int ii, .int fi, .int fe, .ref bU])), (bK, .inl (cI, 60, .inl K)), (bF, .inl (cI, 60, .inl F)), (bS, .inl (cI, 60, .inl S)), (bB, .inl (cZ, 60, .inl B)), (bL, .inl (cI, 4, .inl L)), (bT, .inl (cI, 4, .inl T)), (bU, .inl (cI, 6, .inl U))]) [0, 1, 2, 3, 4, 5, 6, 7] (by decide) rfl
  have hKc := hK.sub (tys' := [(cI, .int), (cZ, .boolean)]) [0, 1] rfl
  have hFc := va_free (wc := [(mo, .inr (2, [.int 0, .ref bL, .ref bT, .int (nI n), .ref bK, .ref bF, .ref bS, .ref bB, .int co, .int pl, .int st, .int jo, .int cn, .int ii, .int fi, .int fe, .ref bU])), (bK, .inl (cI, 60, .inl K)), (bF, .inl (cI, 60, .inl F)), (bS, .inl (cI, 60, .inl S)), (bB, .inl (cZ, 60, .inl B)), (bL, .inl (cI, 4, .inl L)), (bT, .inl (cI, 4, .inl T)), (bU, .inl (cI, 6, .inl U))]) hD hS hA [0, 1, 2, 3, 4, 5, 6, 7] rfl
  refine va_calli (va_runV (As := [.int (nI mm)]) (rest := []) ⟨hx, hb, hml, hown, hts⟩ (c_X2_reckon l dC dI cI cZ mo bK bF bS bB bL bT bU H_3.size L T K F S B U n 0 co pl st jo cn ii fi fe mm (hX) (hm)) (cwV 1 hts gX2_behind_X2_reckon rfl rfl rfl (by decide +kernel) ⟨Nat.le_of_ble_eq_true rfl, Nat.le_of_ble_eq_true rfl⟩) (pc_V hKc hPc hDc (ci := 2) (C := RX2) (T := TX2) (N := 17) (q0 := 0) rfl rfl) rfl rfl hl.1 rfl (lv_room (Nat.le_of_ble_eq_true rfl)) dX2_behind_41 ⟨Nat.le_of_ble_eq_true rfl, Nat.le_of_ble_eq_true rfl⟩) hS (fun q _ h => hFc q h) hFc (fun r_4 u t H_4 locs ht hvm hw hB hz1 hk1 hS => ?_)
  obtain ⟨co1_4, pl1_4, st1_4, jo1_4, cn1_4, ii1_4, fi1_4, fe1_4, U1_4⟩ := u
  try dsimp only at hw hB
  have hw_4 := hw
  obtain ⟨hw0_4, hw1_4⟩ := hw_4
  replace hw1_4 := hw1_4.symm
  subst hw1_4
  obtain ⟨hP1, hD1⟩ := hB
  rw [ht] at hP1
  obtain ⟨hP, hD⟩ := va_join (wr := []) (w1 := [(mo, .inr (2, [.int 0, .ref bL, .ref bT, .int (nI n), .ref bK, .ref bF, .ref bS, .ref bB, .int co1_4, .int pl1_4, .int st1_4, .int jo1_4, .int cn1_4, .int ii1_4, .int fi1_4, .int fe1_4, .ref bU])), (bK, .inl (cI, 60, .inl K)), (bF, .inl (cI, 60, .inl F)), (bS, .inl (cI, 60, .inl S)), (bB, .inl (cZ, 60, .inl B)), (bL, .inl (cI, 4, .inl L)), (bT, .inl (cI, 4, .inl T)), (bU, .inl (cI, 6, .inl U1_4))]) hP hD [0, 1, 2, 3, 4, 5, 6, 7] [] rfl rfl (by decide) (by decide) hk1 hFc hP1 hD1
  have hP : va_P (dC, dI) vwCl [(mo, .inr (2, [.int 0, .ref bL, .ref bT, .int (nI n), .ref bK, .ref bF, .ref bS, .ref bB, .int co1_4, .int pl1_4, .int st1_4, .int jo1_4, .int cn1_4, .int ii1_4, .int fi1_4, .int fe1_4, .ref bU])), (bK, .inl (cI, 60, .inl K)), (bF, .inl (cI, 60, .inl F)), (bS, .inl (cI, 60, .inl S)), (bB, .inl (cZ, 60, .inl B)), (bL, .inl (cI, 4, .inl L)), (bT, .inl (cI, 4, .inl T)), (bU, .inl (cI, 6, .inl U1_4))] H_4 := hP
  have hD : va_D A [(mo, .inr (2, [.int 0, .ref bL, .ref bT, .int (nI n), .ref bK, .ref bF, .ref bS, .ref bB, .int co1_4, .int pl1_4, .int st1_4, .int jo1_4, .int cn1_4, .int ii1_4, .int fi1_4, .int fe1_4, .ref bU])), (bK, .inl (cI, 60, .inl K)), (bF, .inl (cI, 60, .inl F)), (bS, .inl (cI, 60, .inl S)), (bB, .inl (cZ, 60, .inl B)), (bL, .inl (cI, 4, .inl L)), (bT, .inl (cI, 4, .inl T)), (bU, .inl (cI, 6, .inl U1_4))] := hD
  refine lv_pop hx hb dX2_behind_44 rfl ?_
  obtain ⟨-, -, j9, hj9, hj96⟩ := okX_hap hX hm hw0_4
  refine lv_bipush (v := 7) hx hb dX2_behind_45 (by decide) ?_
  refine va_newa (atype := .int) (ty := .int) (a0 := (7, .inl (fun _ => 0))) hx hb k3 rfl hK hP hD hS hA (fun _ => rfl) (by decide) (by decide) (by decide) (by decide) (by decide) dX2_behind_47 (fun q_47 cA_47 H_5 hK hP hD hS => ?_)
  have hK : va_K (dC, dI) vwCl [(cI, .int), (cZ, .boolean), (cA_47, .int)] s := hK
  have hP : va_P (dC, dI) vwCl [(mo, .inr (2, [.int 0, .ref bL, .ref bT, .int (nI n), .ref bK, .ref bF, .ref bS, .ref bB, .int co1_4, .int pl1_4, .int st1_4, .int jo1_4, .int cn1_4, .int ii1_4, .int fi1_4, .int fe1_4, .ref bU])), (bK, .inl (cI, 60, .inl K)), (bF, .inl (cI, 60, .inl F)), (bS, .inl (cI, 60, .inl S)), (bB, .inl (cZ, 60, .inl B)), (bL, .inl (cI, 4, .inl L)), (bT, .inl (cI, 4, .inl T)), (bU, .inl (cI, 6, .inl U1_4)), (q_47, .inl (cA_47, 7, .inl (fun _ => 0)))] H_5 := hP
  have hD : va_D A [(mo, .inr (2, [.int 0, .ref bL, .ref bT, .int (nI n), .ref bK, .ref bF, .ref bS, .ref bB, .int co1_4, .int pl1_4, .int st1_4, .int jo1_4, .int cn1_4, .int ii1_4, .int fi1_4, .int fe1_4, .ref bU])), (bK, .inl (cI, 60, .inl K)), (bF, .inl (cI, 60, .inl F)), (bS, .inl (cI, 60, .inl S)), (bB, .inl (cZ, 60, .inl B)), (bL, .inl (cI, 4, .inl L)), (bT, .inl (cI, 4, .inl T)), (bU, .inl (cI, 6, .inl U1_4)), (q_47, .inl (cA_47, 7, .inl (fun _ => 0)))] := hD
  obtain rfl : cI = cA_47 := arr_same hK 0 2 rfl rfl
  have hK := hK.sub (tys' := [(cI, .int), (cZ, .boolean)]) [0, 1] rfl
  refine W.widen (k := 1) (n := 7) (by decide) (by decide) ?_
  refine lv_dup hx hb dX2_behind_49 rfl ?_
  refine lv_iconst (v := 0) hx hb dX2_behind_50 (by decide) ?_
  refine lv_aload_n hx hb dX2_behind_51 rfl (lv_at hl 0 rfl) ?_
  refine va_get (D := (dC, dI)) (ci := 2) (v := .int co1_4) (C := RX2) (T := TX2) (N := 17) hx hb hts hinX2 hown hK hP 0 rfl rfl 8 (by decide) k4 (fun _ h9 => h9) rfl dX2_behind_52 ?_
  refine va_iast hx hb hK hP hD hS 8 0 rfl rfl (vp_in_nI (n := 0) (by omega) (by omega)) dX2_behind_55 (fun H_6 locs hP hD hS => ?_)
  have hP : va_P (dC, dI) vwCl [(mo, .inr (2, [.int 0, .ref bL, .ref bT, .int (nI n), .ref bK, .ref bF, .ref bS, .ref bB, .int co1_4, .int pl1_4, .int st1_4, .int jo1_4, .int cn1_4, .int ii1_4, .int fi1_4, .int fe1_4, .ref bU])), (bK, .inl (cI, 60, .inl K)), (bF, .inl (cI, 60, .inl F)), (bS, .inl (cI, 60, .inl S)), (bB, .inl (cZ, 60, .inl B)), (bL, .inl (cI, 4, .inl L)), (bT, .inl (cI, 4, .inl T)), (bU, .inl (cI, 6, .inl U1_4)), (q_47, .inl (cI, 7, .inl (upd (fun _ => 0) (0) co1_4)))] H_6 := hP
  have hD : va_D A [(mo, .inr (2, [.int 0, .ref bL, .ref bT, .int (nI n), .ref bK, .ref bF, .ref bS, .ref bB, .int co1_4, .int pl1_4, .int st1_4, .int jo1_4, .int cn1_4, .int ii1_4, .int fi1_4, .int fe1_4, .ref bU])), (bK, .inl (cI, 60, .inl K)), (bF, .inl (cI, 60, .inl F)), (bS, .inl (cI, 60, .inl S)), (bB, .inl (cZ, 60, .inl B)), (bL, .inl (cI, 4, .inl L)), (bT, .inl (cI, 4, .inl T)), (bU, .inl (cI, 6, .inl U1_4)), (q_47, .inl (cI, 7, .inl (upd (fun _ => 0) (0) co1_4)))] := hD
  refine lv_dup hx hb dX2_behind_56 rfl ?_
  refine lv_iconst (v := 1) hx hb dX2_behind_57 (by decide) ?_
  refine lv_aload_n hx hb dX2_behind_58 rfl (lv_at hl 0 rfl) ?_
  refine va_get (D := (dC, dI)) (ci := 2) (v := .int pl1_4) (C := RX2) (T := TX2) (N := 17) hx hb hts hinX2 hown hK hP 0 rfl rfl 9 (by decide) k5 (fun _ h9 => h9) rfl dX2_behind_59 ?_
  refine va_iast hx hb hK hP hD hS 8 0 rfl rfl (vp_in_nI (n := 1) (by omega) (by omega)) dX2_behind_62 (fun H_7 locs hP hD hS => ?_)
  have hP : va_P (dC, dI) vwCl [(mo, .inr (2, [.int 0, .ref bL, .ref bT, .int (nI n), .ref bK, .ref bF, .ref bS, .ref bB, .int co1_4, .int pl1_4, .int st1_4, .int jo1_4, .int cn1_4, .int ii1_4, .int fi1_4, .int fe1_4, .ref bU])), (bK, .inl (cI, 60, .inl K)), (bF, .inl (cI, 60, .inl F)), (bS, .inl (cI, 60, .inl S)), (bB, .inl (cZ, 60, .inl B)), (bL, .inl (cI, 4, .inl L)), (bT, .inl (cI, 4, .inl T)), (bU, .inl (cI, 6, .inl U1_4)), (q_47, .inl (cI, 7, .inl (upd (upd (fun _ => 0) (0) co1_4) (1) pl1_4)))] H_7 := hP
  have hD : va_D A [(mo, .inr (2, [.int 0, .ref bL, .ref bT, .int (nI n), .ref bK, .ref bF, .ref bS, .ref bB, .int co1_4, .int pl1_4, .int st1_4, .int jo1_4, .int cn1_4, .int ii1_4, .int fi1_4, .int fe1_4, .ref bU])), (bK, .inl (cI, 60, .inl K)), (bF, .inl (cI, 60, .inl F)), (bS, .inl (cI, 60, .inl S)), (bB, .inl (cZ, 60, .inl B)), (bL, .inl (cI, 4, .inl L)), (bT, .inl (cI, 4, .inl T)), (bU, .inl (cI, 6, .inl U1_4)), (q_47, .inl (cI, 7, .inl (upd (upd (fun _ => 0) (0) co1_4) (1) pl1_4)))] := hD
  refine lv_dup hx hb dX2_behind_63 rfl ?_
  refine lv_iconst (v := 2) hx hb dX2_behind_64 (by decide) ?_
  refine lv_aload_n hx hb dX2_behind_65 rfl (lv_at hl 0 rfl) ?_
  refine va_get (D := (dC, dI)) (ci := 2) (v := .int st1_4) (C := RX2) (T := TX2) (N := 17) hx hb hts hinX2 hown hK hP 0 rfl rfl 10 (by decide) k6 (fun _ h9 => h9) rfl dX2_behind_66 ?_
  refine va_iast hx hb hK hP hD hS 8 0 rfl rfl (vp_in_nI (n := 2) (by omega) (by omega)) dX2_behind_69 (fun H_8 locs hP hD hS => ?_)
  have hP : va_P (dC, dI) vwCl [(mo, .inr (2, [.int 0, .ref bL, .ref bT, .int (nI n), .ref bK, .ref bF, .ref bS, .ref bB, .int co1_4, .int pl1_4, .int st1_4, .int jo1_4, .int cn1_4, .int ii1_4, .int fi1_4, .int fe1_4, .ref bU])), (bK, .inl (cI, 60, .inl K)), (bF, .inl (cI, 60, .inl F)), (bS, .inl (cI, 60, .inl S)), (bB, .inl (cZ, 60, .inl B)), (bL, .inl (cI, 4, .inl L)), (bT, .inl (cI, 4, .inl T)), (bU, .inl (cI, 6, .inl U1_4)), (q_47, .inl (cI, 7, .inl (upd (upd (upd (fun _ => 0) (0) co1_4) (1) pl1_4) (2) st1_4)))] H_8 := hP
  have hD : va_D A [(mo, .inr (2, [.int 0, .ref bL, .ref bT, .int (nI n), .ref bK, .ref bF, .ref bS, .ref bB, .int co1_4, .int pl1_4, .int st1_4, .int jo1_4, .int cn1_4, .int ii1_4, .int fi1_4, .int fe1_4, .ref bU])), (bK, .inl (cI, 60, .inl K)), (bF, .inl (cI, 60, .inl F)), (bS, .inl (cI, 60, .inl S)), (bB, .inl (cZ, 60, .inl B)), (bL, .inl (cI, 4, .inl L)), (bT, .inl (cI, 4, .inl T)), (bU, .inl (cI, 6, .inl U1_4)), (q_47, .inl (cI, 7, .inl (upd (upd (upd (fun _ => 0) (0) co1_4) (1) pl1_4) (2) st1_4)))] := hD
  refine lv_dup hx hb dX2_behind_70 rfl ?_
  refine lv_iconst (v := 3) hx hb dX2_behind_71 (by decide) ?_
  refine lv_aload_n hx hb dX2_behind_72 rfl (lv_at hl 0 rfl) ?_
  refine va_get (D := (dC, dI)) (ci := 2) (v := .int jo1_4) (C := RX2) (T := TX2) (N := 17) hx hb hts hinX2 hown hK hP 0 rfl rfl 11 (by decide) k7 (fun _ h9 => h9) rfl dX2_behind_73 ?_
  refine va_iast hx hb hK hP hD hS 8 0 rfl rfl (vp_in_nI (n := 3) (by omega) (by omega)) dX2_behind_76 (fun H_9 locs hP hD hS => ?_)
  have hP : va_P (dC, dI) vwCl [(mo, .inr (2, [.int 0, .ref bL, .ref bT, .int (nI n), .ref bK, .ref bF, .ref bS, .ref bB, .int co1_4, .int pl1_4, .int st1_4, .int jo1_4, .int cn1_4, .int ii1_4, .int fi1_4, .int fe1_4, .ref bU])), (bK, .inl (cI, 60, .inl K)), (bF, .inl (cI, 60, .inl F)), (bS, .inl (cI, 60, .inl S)), (bB, .inl (cZ, 60, .inl B)), (bL, .inl (cI, 4, .inl L)), (bT, .inl (cI, 4, .inl T)), (bU, .inl (cI, 6, .inl U1_4)), (q_47, .inl (cI, 7, .inl (upd (upd (upd (upd (fun _ => 0) (0) co1_4) (1) pl1_4) (2) st1_4) (3) jo1_4)))] H_9 := hP
  have hD : va_D A [(mo, .inr (2, [.int 0, .ref bL, .ref bT, .int (nI n), .ref bK, .ref bF, .ref bS, .ref bB, .int co1_4, .int pl1_4, .int st1_4, .int jo1_4, .int cn1_4, .int ii1_4, .int fi1_4, .int fe1_4, .ref bU])), (bK, .inl (cI, 60, .inl K)), (bF, .inl (cI, 60, .inl F)), (bS, .inl (cI, 60, .inl S)), (bB, .inl (cZ, 60, .inl B)), (bL, .inl (cI, 4, .inl L)), (bT, .inl (cI, 4, .inl T)), (bU, .inl (cI, 6, .inl U1_4)), (q_47, .inl (cI, 7, .inl (upd (upd (upd (upd (fun _ => 0) (0) co1_4) (1) pl1_4) (2) st1_4) (3) jo1_4)))] := hD
  refine lv_dup hx hb dX2_behind_77 rfl ?_
  refine lv_iconst (v := 4) hx hb dX2_behind_78 (by decide) ?_
  refine lv_aload_n hx hb dX2_behind_79 rfl (lv_at hl 0 rfl) ?_
  have hPc := hP.sub (ws' := [(mo, .inr (2, [.int 0, .ref bL, .ref bT, .int (nI n), .ref bK, .ref bF, .ref bS, .ref bB, .int co1_4, .int pl1_4, .int st1_4, .int jo1_4, .int cn1_4, .int ii1_4, .int fi1_4, .int fe1_4, .ref bU])), (bK, .inl (cI, 60, .inl K)), (bF, .inl (cI, 60, .inl F)), (bS, .inl (cI, 60, .inl S)), (bB, .inl (cZ, 60, .inl B)), (bL, .inl (cI, 4, .inl L)), (bT, .inl (cI, 4, .inl T)), (bU, .inl (cI, 6, .inl U1_4))]) [0, 1, 2, 3, 4, 5, 6, 7] rfl
  have hDc := hD.sub (ws' := [(mo, .inr (2, [.int 0, .ref bL, .ref bT, .int (nI n), .ref bK, .ref bF, .ref bS, .ref bB, .int co1_4, .int pl1_4, .int st1_4, .int jo1_4, .int cn1_4, .int ii1_4, .int fi1_4, .int fe1_4, .ref bU])), (bK, .inl (cI, 60, .inl K)), (bF, .inl (cI, 60, .inl F)), (bS, .inl (cI, 60, .inl S)), (bB, .inl (cZ, 60, .inl B)), (bL, .inl (cI, 4, .inl L)), (bT, .inl (cI, 4, .inl T)), (bU, .inl (cI, 6, .inl U1_4))]) [0, 1, 2, 3, 4, 5, 6, 7] (by decide) rfl
  have hKc := hK.sub (tys' := [(cI, .int), (cZ, .boolean)]) [0, 1] rfl
  have hFc := va_free (wc := [(mo, .inr (2, [.int 0, .ref bL, .ref bT, .int (nI n), .ref bK, .ref bF, .ref bS, .ref bB, .int co1_4, .int pl1_4, .int st1_4, .int jo1_4, .int cn1_4, .int ii1_4, .int fi1_4, .int fe1_4, .ref bU])), (bK, .inl (cI, 60, .inl K)), (bF, .inl (cI, 60, .inl F)), (bS, .inl (cI, 60, .inl S)), (bB, .inl (cZ, 60, .inl B)), (bL, .inl (cI, 4, .inl L)), (bT, .inl (cI, 4, .inl T)), (bU, .inl (cI, 6, .inl U1_4))]) hD hS hA [0, 1, 2, 3, 4, 5, 6, 7] rfl
  refine va_calli (va_runV (As := []) (rest := [.int 4, .ref q_47, .ref q_47]) ⟨hx, hb, hml, hown, hts⟩ (c_X2_trustAll l dC dI cI cZ mo bK bF bS bB bL bT bU H_9.size L T K F S B U1_4 n 0 co1_4 pl1_4 st1_4 jo1_4 cn1_4 ii1_4 fi1_4 fe1_4 j9 (hj9) (hj96)) (cwV 0 hts gX2_behind_X2_trustAll rfl rfl rfl (by decide +kernel) ⟨Nat.le_of_ble_eq_true rfl, Nat.le_of_ble_eq_true rfl⟩) (pc_V hKc hPc hDc (ci := 2) (C := RX2) (T := TX2) (N := 17) (q0 := 0) rfl rfl) rfl rfl hl.1 rfl (lv_room (Nat.le_of_ble_eq_true rfl)) dX2_behind_80 ⟨Nat.le_of_ble_eq_true rfl, Nat.le_of_ble_eq_true rfl⟩) hS (fun q _ h => hFc q h) hFc (fun r_10 u t H_10 locs ht hvm hw hB hz1 hk1 hS => ?_)
  try dsimp only at hw hB
  have hw_10 := hw
  replace hw_10 := hw_10.symm
  subst hw_10
  obtain ⟨hP1, hD1⟩ := hB
  rw [ht] at hP1
  obtain ⟨hP, hD⟩ := va_join (wr := [(q_47, .inl (cI, 7, .inl (upd (upd (upd (upd (fun _ => 0) (0) co1_4) (1) pl1_4) (2) st1_4) (3) jo1_4)))]) (w1 := [(mo, .inr (2, [.int 0, .ref bL, .ref bT, .int (nI n), .ref bK, .ref bF, .ref bS, .ref bB, .int co1_4, .int pl1_4, .int st1_4, .int jo1_4, .int cn1_4, .int ii1_4, .int fi1_4, .int fe1_4, .ref bU])), (bK, .inl (cI, 60, .inl K)), (bF, .inl (cI, 60, .inl F)), (bS, .inl (cI, 60, .inl S)), (bB, .inl (cZ, 60, .inl B)), (bL, .inl (cI, 4, .inl L)), (bT, .inl (cI, 4, .inl T)), (bU, .inl (cI, 6, .inl U1_4))]) hP hD [0, 1, 2, 3, 4, 5, 6, 7] [8] rfl rfl (by decide) (by decide) hk1 hFc hP1 hD1
  have hP : va_P (dC, dI) vwCl [(q_47, .inl (cI, 7, .inl (upd (upd (upd (upd (fun _ => 0) (0) co1_4) (1) pl1_4) (2) st1_4) (3) jo1_4))), (mo, .inr (2, [.int 0, .ref bL, .ref bT, .int (nI n), .ref bK, .ref bF, .ref bS, .ref bB, .int co1_4, .int pl1_4, .int st1_4, .int jo1_4, .int cn1_4, .int ii1_4, .int fi1_4, .int fe1_4, .ref bU])), (bK, .inl (cI, 60, .inl K)), (bF, .inl (cI, 60, .inl F)), (bS, .inl (cI, 60, .inl S)), (bB, .inl (cZ, 60, .inl B)), (bL, .inl (cI, 4, .inl L)), (bT, .inl (cI, 4, .inl T)), (bU, .inl (cI, 6, .inl U1_4))] H_10 := hP
  have hD : va_D A [(q_47, .inl (cI, 7, .inl (upd (upd (upd (upd (fun _ => 0) (0) co1_4) (1) pl1_4) (2) st1_4) (3) jo1_4))), (mo, .inr (2, [.int 0, .ref bL, .ref bT, .int (nI n), .ref bK, .ref bF, .ref bS, .ref bB, .int co1_4, .int pl1_4, .int st1_4, .int jo1_4, .int cn1_4, .int ii1_4, .int fi1_4, .int fe1_4, .ref bU])), (bK, .inl (cI, 60, .inl K)), (bF, .inl (cI, 60, .inl F)), (bS, .inl (cI, 60, .inl S)), (bB, .inl (cZ, 60, .inl B)), (bL, .inl (cI, 4, .inl L)), (bT, .inl (cI, 4, .inl T)), (bU, .inl (cI, 6, .inl U1_4))] := hD
  have hP := hP.sub (ws' := [(mo, .inr (2, [.int 0, .ref bL, .ref bT, .int (nI n), .ref bK, .ref bF, .ref bS, .ref bB, .int co1_4, .int pl1_4, .int st1_4, .int jo1_4, .int cn1_4, .int ii1_4, .int fi1_4, .int fe1_4, .ref bU])), (bK, .inl (cI, 60, .inl K)), (bF, .inl (cI, 60, .inl F)), (bS, .inl (cI, 60, .inl S)), (bB, .inl (cZ, 60, .inl B)), (bL, .inl (cI, 4, .inl L)), (bT, .inl (cI, 4, .inl T)), (bU, .inl (cI, 6, .inl U1_4)), (q_47, .inl (cI, 7, .inl (upd (upd (upd (upd (fun _ => 0) (0) co1_4) (1) pl1_4) (2) st1_4) (3) jo1_4)))]) [1, 2, 3, 4, 5, 6, 7, 8, 0] rfl
  have hD := hD.sub (ws' := [(mo, .inr (2, [.int 0, .ref bL, .ref bT, .int (nI n), .ref bK, .ref bF, .ref bS, .ref bB, .int co1_4, .int pl1_4, .int st1_4, .int jo1_4, .int cn1_4, .int ii1_4, .int fi1_4, .int fe1_4, .ref bU])), (bK, .inl (cI, 60, .inl K)), (bF, .inl (cI, 60, .inl F)), (bS, .inl (cI, 60, .inl S)), (bB, .inl (cZ, 60, .inl B)), (bL, .inl (cI, 4, .inl L)), (bT, .inl (cI, 4, .inl T)), (bU, .inl (cI, 6, .inl U1_4)), (q_47, .inl (cI, 7, .inl (upd (upd (upd (upd (fun _ => 0) (0) co1_4) (1) pl1_4) (2) st1_4) (3) jo1_4)))]) [1, 2, 3, 4, 5, 6, 7, 8, 0] (by decide) rfl
  refine va_iast hx hb hK hP hD hS 8 0 rfl rfl (vp_in_nI (n := 4) (by omega) (by omega)) dX2_behind_83 (fun H_12 locs hP hD hS => ?_)
  have hP : va_P (dC, dI) vwCl [(mo, .inr (2, [.int 0, .ref bL, .ref bT, .int (nI n), .ref bK, .ref bF, .ref bS, .ref bB, .int co1_4, .int pl1_4, .int st1_4, .int jo1_4, .int cn1_4, .int ii1_4, .int fi1_4, .int fe1_4, .ref bU])), (bK, .inl (cI, 60, .inl K)), (bF, .inl (cI, 60, .inl F)), (bS, .inl (cI, 60, .inl S)), (bB, .inl (cZ, 60, .inl B)), (bL, .inl (cI, 4, .inl L)), (bT, .inl (cI, 4, .inl T)), (bU, .inl (cI, 6, .inl U1_4)), (q_47, .inl (cI, 7, .inl (upd (upd (upd (upd (upd (fun _ => 0) (0) co1_4) (1) pl1_4) (2) st1_4) (3) jo1_4) (4) (mSum U1_4 j9))))] H_12 := hP
  have hD : va_D A [(mo, .inr (2, [.int 0, .ref bL, .ref bT, .int (nI n), .ref bK, .ref bF, .ref bS, .ref bB, .int co1_4, .int pl1_4, .int st1_4, .int jo1_4, .int cn1_4, .int ii1_4, .int fi1_4, .int fe1_4, .ref bU])), (bK, .inl (cI, 60, .inl K)), (bF, .inl (cI, 60, .inl F)), (bS, .inl (cI, 60, .inl S)), (bB, .inl (cZ, 60, .inl B)), (bL, .inl (cI, 4, .inl L)), (bT, .inl (cI, 4, .inl T)), (bU, .inl (cI, 6, .inl U1_4)), (q_47, .inl (cI, 7, .inl (upd (upd (upd (upd (upd (fun _ => 0) (0) co1_4) (1) pl1_4) (2) st1_4) (3) jo1_4) (4) (mSum U1_4 j9))))] := hD
  refine lv_dup hx hb dX2_behind_84 rfl ?_
  refine lv_iconst (v := 5) hx hb dX2_behind_85 (by decide) ?_
  refine lv_aload_n hx hb dX2_behind_86 rfl (lv_at hl 0 rfl) ?_
  refine va_get (D := (dC, dI)) (ci := 2) (v := .int cn1_4) (C := RX2) (T := TX2) (N := 17) hx hb hts hinX2 hown hK hP 0 rfl rfl 12 (by decide) k8 (fun _ h9 => h9) rfl dX2_behind_87 ?_
  refine va_iast hx hb hK hP hD hS 8 0 rfl rfl (vp_in_nI (n := 5) (by omega) (by omega)) dX2_behind_90 (fun H_13 locs hP hD hS => ?_)
  have hP : va_P (dC, dI) vwCl [(mo, .inr (2, [.int 0, .ref bL, .ref bT, .int (nI n), .ref bK, .ref bF, .ref bS, .ref bB, .int co1_4, .int pl1_4, .int st1_4, .int jo1_4, .int cn1_4, .int ii1_4, .int fi1_4, .int fe1_4, .ref bU])), (bK, .inl (cI, 60, .inl K)), (bF, .inl (cI, 60, .inl F)), (bS, .inl (cI, 60, .inl S)), (bB, .inl (cZ, 60, .inl B)), (bL, .inl (cI, 4, .inl L)), (bT, .inl (cI, 4, .inl T)), (bU, .inl (cI, 6, .inl U1_4)), (q_47, .inl (cI, 7, .inl (upd (upd (upd (upd (upd (upd (fun _ => 0) (0) co1_4) (1) pl1_4) (2) st1_4) (3) jo1_4) (4) (mSum U1_4 j9)) (5) cn1_4)))] H_13 := hP
  have hD : va_D A [(mo, .inr (2, [.int 0, .ref bL, .ref bT, .int (nI n), .ref bK, .ref bF, .ref bS, .ref bB, .int co1_4, .int pl1_4, .int st1_4, .int jo1_4, .int cn1_4, .int ii1_4, .int fi1_4, .int fe1_4, .ref bU])), (bK, .inl (cI, 60, .inl K)), (bF, .inl (cI, 60, .inl F)), (bS, .inl (cI, 60, .inl S)), (bB, .inl (cZ, 60, .inl B)), (bL, .inl (cI, 4, .inl L)), (bT, .inl (cI, 4, .inl T)), (bU, .inl (cI, 6, .inl U1_4)), (q_47, .inl (cI, 7, .inl (upd (upd (upd (upd (upd (upd (fun _ => 0) (0) co1_4) (1) pl1_4) (2) st1_4) (3) jo1_4) (4) (mSum U1_4 j9)) (5) cn1_4)))] := hD
  refine lv_dup hx hb dX2_behind_91 rfl ?_
  refine lv_bipush (v := 6) hx hb dX2_behind_92 (by decide) ?_
  refine lv_aload_n hx hb dX2_behind_94 rfl (lv_at hl 0 rfl) ?_
  refine va_get (D := (dC, dI)) (ci := 2) (v := .int ii1_4) (C := RX2) (T := TX2) (N := 17) hx hb hts hinX2 hown hK hP 0 rfl rfl 13 (by decide) k9 (fun _ h9 => h9) rfl dX2_behind_95 ?_
  refine va_iast hx hb hK hP hD hS 8 0 rfl rfl (vp_in_nI (n := 6) (by omega) (by omega)) dX2_behind_98 (fun H_14 locs hP hD hS => ?_)
  have hP : va_P (dC, dI) vwCl [(mo, .inr (2, [.int 0, .ref bL, .ref bT, .int (nI n), .ref bK, .ref bF, .ref bS, .ref bB, .int co1_4, .int pl1_4, .int st1_4, .int jo1_4, .int cn1_4, .int ii1_4, .int fi1_4, .int fe1_4, .ref bU])), (bK, .inl (cI, 60, .inl K)), (bF, .inl (cI, 60, .inl F)), (bS, .inl (cI, 60, .inl S)), (bB, .inl (cZ, 60, .inl B)), (bL, .inl (cI, 4, .inl L)), (bT, .inl (cI, 4, .inl T)), (bU, .inl (cI, 6, .inl U1_4)), (q_47, .inl (cI, 7, .inl (upd (upd (upd (upd (upd (upd (upd (fun _ => 0) (0) co1_4) (1) pl1_4) (2) st1_4) (3) jo1_4) (4) (mSum U1_4 j9)) (5) cn1_4) (6) ii1_4)))] H_14 := hP
  have hD : va_D A [(mo, .inr (2, [.int 0, .ref bL, .ref bT, .int (nI n), .ref bK, .ref bF, .ref bS, .ref bB, .int co1_4, .int pl1_4, .int st1_4, .int jo1_4, .int cn1_4, .int ii1_4, .int fi1_4, .int fe1_4, .ref bU])), (bK, .inl (cI, 60, .inl K)), (bF, .inl (cI, 60, .inl F)), (bS, .inl (cI, 60, .inl S)), (bB, .inl (cZ, 60, .inl B)), (bL, .inl (cI, 4, .inl L)), (bT, .inl (cI, 4, .inl T)), (bU, .inl (cI, 6, .inl U1_4)), (q_47, .inl (cI, 7, .inl (upd (upd (upd (upd (upd (upd (upd (fun _ => 0) (0) co1_4) (1) pl1_4) (2) st1_4) (3) jo1_4) (4) (mSum U1_4 j9)) (5) cn1_4) (6) ii1_4)))] := hD
  refine lv_astore_n (lv' := [(3, .ref q_47), (0, .ref mo), (1, .int (nI mm)), (2, .int (nI w9))]) hx hb dX2_behind_99 rfl hl (by decide) rfl (fun ls hl => ?_)
  refine lv_aload_n hx hb dX2_behind_100 rfl (lv_at hl 0 rfl) ?_
  refine lv_iload_n hx hb dX2_behind_101 rfl (lv_at hl 3 rfl) ?_
  refine va_iald hx hb hK hP 8 0 rfl rfl (vp_in_nI (by omega) (by omega)) dX2_behind_102 ?_
  rw [nI_clamp (n := w9) (by omega)]
  have hpost : ((upd (upd (upd (upd (upd (upd (upd (fun _ => 0) (0) co1_4) (1) pl1_4) (2) st1_4) (3) jo1_4) (4) (mSum U1_4 j9)) (5) cn1_4) (6) ii1_4) w9) = aBehind (nI w9) (cRec L T K F S B mm) := by
    rw [← ans_of (aBehind_sim (nI w9)) hX hm hw0_4]
    exact told_of hw9 hj9 (by omega)
  have hP9 := hP.sub (ws' := [(mo, .inr (2, [.int 0, .ref bL, .ref bT, .int (nI n), .ref bK, .ref bF, .ref bS, .ref bB, .int co1_4, .int pl1_4, .int st1_4, .int jo1_4, .int cn1_4, .int ii1_4, .int fi1_4, .int fe1_4, .ref bU])), (bK, .inl (cI, 60, .inl K)), (bF, .inl (cI, 60, .inl F)), (bS, .inl (cI, 60, .inl S)), (bB, .inl (cZ, 60, .inl B)), (bL, .inl (cI, 4, .inl L)), (bT, .inl (cI, 4, .inl T)), (bU, .inl (cI, 6, .inl U1_4))]) [0, 1, 2, 3, 4, 5, 6, 7] rfl
  have hD9 := hD.sub (ws' := [(mo, .inr (2, [.int 0, .ref bL, .ref bT, .int (nI n), .ref bK, .ref bF, .ref bS, .ref bB, .int co1_4, .int pl1_4, .int st1_4, .int jo1_4, .int cn1_4, .int ii1_4, .int fi1_4, .int fe1_4, .ref bU])), (bK, .inl (cI, 60, .inl K)), (bF, .inl (cI, 60, .inl F)), (bS, .inl (cI, 60, .inl S)), (bB, .inl (cZ, 60, .inl B)), (bL, .inl (cI, 4, .inl L)), (bT, .inl (cI, 4, .inl T)), (bU, .inl (cI, 6, .inl U1_4))]) [0, 1, 2, 3, 4, 5, 6, 7] (by decide) rfl
  exact W.iret (v := (upd (upd (upd (upd (upd (upd (upd (fun _ => 0) (0) co1_4) (1) pl1_4) (2) st1_4) (3) jo1_4) (4) (mSum U1_4 j9)) (5) cn1_4) (6) ii1_4) w9) hx hb hr (fun t ht hW => ⟨⟨((upd (upd (upd (upd (upd (upd (upd (fun _ => 0) (0) co1_4) (1) pl1_4) (2) st1_4) (3) jo1_4) (4) (mSum U1_4 j9)) (5) cn1_4) (6) ii1_4) w9), (co1_4, pl1_4, st1_4, jo1_4, cn1_4, ii1_4, fi1_4, fe1_4, U1_4), rfl, hpost, by rw [ht]; exact hP9, hD9⟩, hS.F ht⟩) hS.2.2 dX2_behind_103

set_option maxHeartbeats 4000000 in
set_option maxRecDepth 100000 in
theorem c_X2_behind_f1 (l : Launch) (dC : Nat → ClassId) (dI : Nat → Nat → Nat) (cI cZ : ClassId) (mo bK bF bS bB bL bT bU : Nat) (sz : Nat) (L : N2I) (T : N2I) (K : N2I) (F : N2I) (S : N2I) (B : N2I) (U : N2I) (n : Nat) (tw : Int32) (co : Int32) (pl : Int32) (st : Int32) (jo : Int32) (cn : Int32) (ii : Int32) (fi : Int32) (fe : Int32) (x : Int32) (y : Int32) (hb0 : x < 0 ∨ nI n < x) : Met l yX2_behind wsX2_behind ({ frames := 5, cells := 0, slots := 0, locals := 106 } : Room) (va_Pc [.ref mo, .int x, .int y] (pc_ (dC, dI) [(cI, .int), (cZ, .boolean)] [(mo, .inr (2, [.int tw, .ref bL, .ref bT, .int (nI n), .ref bK, .ref bF, .ref bS, .ref bB, .int co, .int pl, .int st, .int jo, .int cn, .int ii, .int fi, .int fe, .ref bU])), (bK, .inl (cI, 60, .inl K)), (bF, .inl (cI, 60, .inl F)), (bS, .inl (cI, 60, .inl S)), (bB, .inl (cZ, 60, .inl B)), (bL, .inl (cI, 4, .inl L)), (bT, .inl (cI, 4, .inl T)), (bU, .inl (cI, 6, .inl U))] sz)) (va_Qi (fun (r : Int32) (u : Unit) => r = 0) (fun (u : Unit) (t : State) => va_P (dC, dI) vwCl [(mo, .inr (2, [.int 1, .ref bL, .ref bT, .int (nI n), .ref bK, .ref bF, .ref bS, .ref bB, .int co, .int pl, .int st, .int jo, .int cn, .int ii, .int fi, .int fe, .ref bU])), (bK, .inl (cI, 60, .inl K)), (bF, .inl (cI, 60, .inl F)), (bS, .inl (cI, 60, .inl S)), (bB, .inl (cZ, 60, .inl B)), (bL, .inl (cI, 4, .inl L)), (bT, .inl (cI, 4, .inl T)), (bU, .inl (cI, 6, .inl U))] t.heap ∧ va_D (va_A [(mo, .inr (2, [.int tw, .ref bL, .ref bT, .int (nI n), .ref bK, .ref bF, .ref bS, .ref bB, .int co, .int pl, .int st, .int jo, .int cn, .int ii, .int fi, .int fe, .ref bU])), (bK, .inl (cI, 60, .inl K)), (bF, .inl (cI, 60, .inl F)), (bS, .inl (cI, 60, .inl S)), (bB, .inl (cZ, 60, .inl B)), (bL, .inl (cI, 4, .inl L)), (bT, .inl (cI, 4, .inl T)), (bU, .inl (cI, 6, .inl U))] sz) [(mo, .inr (2, [.int 1, .ref bL, .ref bT, .int (nI n), .ref bK, .ref bF, .ref bS, .ref bB, .int co, .int pl, .int st, .int jo, .int cn, .int ii, .int fi, .int fe, .ref bU])), (bK, .inl (cI, 60, .inl K)), (bF, .inl (cI, 60, .inl F)), (bS, .inl (cI, 60, .inl S)), (bB, .inl (cZ, 60, .inl B)), (bL, .inl (cI, 4, .inl L)), (bT, .inl (cI, 4, .inl T)), (bU, .inl (cI, 6, .inl U))]) (va_A [(mo, .inr (2, [.int tw, .ref bL, .ref bT, .int (nI n), .ref bK, .ref bF, .ref bS, .ref bB, .int co, .int pl, .int st, .int jo, .int cn, .int ii, .int fi, .int fe, .ref bU])), (bK, .inl (cI, 60, .inl K)), (bF, .inl (cI, 60, .inl F)), (bS, .inl (cI, 60, .inl S)), (bB, .inl (cZ, 60, .inl B)), (bL, .inl (cI, 4, .inl L)), (bT, .inl (cI, 4, .inl T)), (bU, .inl (cI, 6, .inl U))] sz)) 0 0 (va_A [(mo, .inr (2, [.int tw, .ref bL, .ref bT, .int (nI n), .ref bK, .ref bF, .ref bS, .ref bB, .int co, .int pl, .int st, .int jo, .int cn, .int ii, .int fi, .int fe, .ref bU])), (bK, .inl (cI, 60, .inl K)), (bF, .inl (cI, 60, .inl F)), (bS, .inl (cI, 60, .inl S)), (bB, .inl (cZ, 60, .inl B)), (bL, .inl (cI, 4, .inl L)), (bT, .inl (cI, 4, .inl T)), (bU, .inl (cI, 6, .inl U))] sz) := by
  refine Met.ofW (cc := cX2_behind) (maxL := 4) (ret := (some .int)) (by decide) rfl ?_
  intro p e s m args below meth c s₁ BB hml hv
  obtain ⟨rfl, hsz, hP, hK, hD0⟩ := hv
  have hx := BB.exec
  have hb := BB.bytes
  have hr := BB.returns
  have hts := atoms_spec (ws := wsX2_behind) BB.pre
  have hown : s.vm.findClass RX2 = some m.cls := findClass_of_methodNamed BB.named
  have hlocks := BB.notSynchronized
  subst hsz
  have hD := hD0.self (sz := s.heap.size)
  generalize hAe : va_A [(mo, .inr (2, [.int tw, .ref bL, .ref bT, .int (nI n), .ref bK, .ref bF, .ref bS, .ref bB, .int co, .int pl, .int st, .int jo, .int cn, .int ii, .int fi, .int fe, .ref bU])), (bK, .inl (cI, 60, .inl K)), (bF, .inl (cI, 60, .inl F)), (bS, .inl (cI, 60, .inl S)), (bB, .inl (cZ, 60, .inl B)), (bL, .inl (cI, 4, .inl L)), (bT, .inl (cI, 4, .inl T)), (bU, .inl (cI, 6, .inl U))] s.heap.size = A at hD ⊢
  have hA : ∀ q : Nat, s.heap.size ≤ q → A q := fun q h => by rw [← hAe]; exact Or.inr h
  have hS : va_S A s.heap s.heap [] := va_S.rf
  have hP : va_P (dC, dI) vwCl [(mo, .inr (2, [.int tw, .ref bL, .ref bT, .int (nI n), .ref bK, .ref bF, .ref bS, .ref bB, .int co, .int pl, .int st, .int jo, .int cn, .int ii, .int fi, .int fe, .ref bU])), (bK, .inl (cI, 60, .inl K)), (bF, .inl (cI, 60, .inl F)), (bS, .inl (cI, 60, .inl S)), (bB, .inl (cZ, 60, .inl B)), (bL, .inl (cI, 4, .inl L)), (bT, .inl (cI, 4, .inl T)), (bU, .inl (cI, 6, .inl U))] s.heap := hP
  have hl := lv_entry ([.ref mo, .int x, .int y]) (n := 4) (Nat.le_of_ble_eq_true rfl)
  rw [lg_entry_eq]
  generalize (lg_sl ([.ref mo, .int x, .int y]) ++ List.replicate (4 - (lg_sl ([.ref mo, .int x, .int y])).length) Slot.unset).toArray = ls at hl ⊢
  have hl : lv_has ls 4 [(0, .ref mo), (1, .int x), (2, .int y)] := hl
  have k0 := hts (.fieldLink RX2 32 "KnifeLedgerModel" "thrown" "I") (by decide +kernel)
  have hinX2 : ∀ w ∈ wsX20, w ∈ wsX2_behind := by decide +kernel
  have k2 := hts (.fieldLink RX2 36 "KnifeLedgerModel" "entries" "I") (by decide +kernel)
  refine lv_aload_n hx hb dX2_behind_0 rfl (lv_at hl 0 rfl) ?_
  refine lv_iconst (v := 0) hx hb dX2_behind_1 (by decide) ?_
  refine va_put (D := (dC, dI)) (ci := 2) (v := .int 0) (ty := .int) (C := RX2) (T := TX2) (N := 17) hx hb hts hinX2 tyX2 tyX2_ok nmX2 hown hK hP hD hS 0 rfl rfl 0 (by decide) k0 (fun _ h9 => h9) rfl (by decide +kernel) rfl rfl (Nat.le_of_ble_eq_true rfl) dX2_behind_2 (fun H_1 locs hP hD hS => ?_)
  have hP : va_P (dC, dI) vwCl [(mo, .inr (2, [.int 0, .ref bL, .ref bT, .int (nI n), .ref bK, .ref bF, .ref bS, .ref bB, .int co, .int pl, .int st, .int jo, .int cn, .int ii, .int fi, .int fe, .ref bU])), (bK, .inl (cI, 60, .inl K)), (bF, .inl (cI, 60, .inl F)), (bS, .inl (cI, 60, .inl S)), (bB, .inl (cZ, 60, .inl B)), (bL, .inl (cI, 4, .inl L)), (bT, .inl (cI, 4, .inl T)), (bU, .inl (cI, 6, .inl U))] H_1 := hP
  have hD : va_D A [(mo, .inr (2, [.int 0, .ref bL, .ref bT, .int (nI n), .ref bK, .ref bF, .ref bS, .ref bB, .int co, .int pl, .int st, .int jo, .int cn, .int ii, .int fi, .int fe, .ref bU])), (bK, .inl (cI, 60, .inl K)), (bF, .inl (cI, 60, .inl F)), (bS, .inl (cI, 60, .inl S)), (bB, .inl (cZ, 60, .inl B)), (bL, .inl (cI, 4, .inl L)), (bT, .inl (cI, 4, .inl T)), (bU, .inl (cI, 6, .inl U))] := hD
  refine lv_iload_n hx hb dX2_behind_5 rfl (lv_at hl 1 rfl) ?_
  refine lv_iconst (v := 0) hx hb dX2_behind_6 (by decide) ?_
  refine lv_aload_n hx hb dX2_behind_7 rfl (lv_at hl 0 rfl) ?_
  refine va_get (D := (dC, dI)) (ci := 2) (v := .int (nI n)) (C := RX2) (T := TX2) (N := 17) hx hb hts hinX2 hown hK hP 0 rfl rfl 3 (by decide) k2 (fun _ h9 => h9) rfl dX2_behind_8 ?_
  have hPc := hP.sub (ws' := []) [] rfl
  have hDc := hD.sub (ws' := []) [] (by decide) rfl
  have hKc := hK.sub (tys' := []) [] rfl
  have hFc := va_free (wc := []) hD hS hA [] rfl
  refine va_calli (va_runS (As := [.int x, .int 0, .int (nI n)]) (rest := []) ⟨hx, hb, hml, hown, hts⟩ (c_X2_isIn l dC dI H_1.size x 0 (nI n)) (va_cwS 3 hts gX2_behind_X2_isIn rfl rfl rfl (by decide +kernel) ⟨Nat.le_of_ble_eq_true rfl, Nat.le_of_ble_eq_true rfl⟩) (pc_S hKc hPc hDc) rfl rfl hl.1 rfl (lv_room (Nat.le_of_ble_eq_true rfl)) dX2_behind_11 ⟨Nat.le_of_ble_eq_true rfl, Nat.le_of_ble_eq_true rfl⟩) hS (fun q _ h => hFc q h) hFc (fun r_2 u t H_2 locs ht hvm hw hB hz1 hk1 hS => ?_)
  try dsimp only at hw hB
  have hw_2 := hw
  replace hw_2 := hw_2.symm
  subst hw_2
  obtain ⟨hP1, hD1⟩ := hB
  rw [ht] at hP1
  obtain ⟨hP, hD⟩ := va_join (wr := [(mo, .inr (2, [.int 0, .ref bL, .ref bT, .int (nI n), .ref bK, .ref bF, .ref bS, .ref bB, .int co, .int pl, .int st, .int jo, .int cn, .int ii, .int fi, .int fe, .ref bU])), (bK, .inl (cI, 60, .inl K)), (bF, .inl (cI, 60, .inl F)), (bS, .inl (cI, 60, .inl S)), (bB, .inl (cZ, 60, .inl B)), (bL, .inl (cI, 4, .inl L)), (bT, .inl (cI, 4, .inl T)), (bU, .inl (cI, 6, .inl U))]) (w1 := []) hP hD [] [0, 1, 2, 3, 4, 5, 6, 7] rfl rfl (by decide) (by decide) hk1 hFc hP1 hD1
  have hP : va_P (dC, dI) vwCl [(mo, .inr (2, [.int 0, .ref bL, .ref bT, .int (nI n), .ref bK, .ref bF, .ref bS, .ref bB, .int co, .int pl, .int st, .int jo, .int cn, .int ii, .int fi, .int fe, .ref bU])), (bK, .inl (cI, 60, .inl K)), (bF, .inl (cI, 60, .inl F)), (bS, .inl (cI, 60, .inl S)), (bB, .inl (cZ, 60, .inl B)), (bL, .inl (cI, 4, .inl L)), (bT, .inl (cI, 4, .inl T)), (bU, .inl (cI, 6, .inl U))] H_2 := hP
  have hD : va_D A [(mo, .inr (2, [.int 0, .ref bL, .ref bT, .int (nI n), .ref bK, .ref bF, .ref bS, .ref bB, .int co, .int pl, .int st, .int jo, .int cn, .int ii, .int fi, .int fe, .ref bU])), (bK, .inl (cI, 60, .inl K)), (bF, .inl (cI, 60, .inl F)), (bS, .inl (cI, 60, .inl S)), (bB, .inl (cZ, 60, .inl B)), (bL, .inl (cI, 4, .inl L)), (bT, .inl (cI, 4, .inl T)), (bU, .inl (cI, 6, .inl U))] := hD
  refine lv_if_ne (tgt := 23) hx hb dX2_behind_14 (by decide) (fun h9 => absurd (mIn_bad hb0) h9) (fun _ => ?_)
  refine lv_aload_n hx hb dX2_behind_17 rfl (lv_at hl 0 rfl) ?_
  refine lv_iconst (v := 1) hx hb dX2_behind_18 (by decide) ?_
  have hPc := hP.sub (ws' := [(mo, .inr (2, [.int 0, .ref bL, .ref bT, .int (nI n), .ref bK, .ref bF, .ref bS, .ref bB, .int co, .int pl, .int st, .int jo, .int cn, .int ii, .int fi, .int fe, .ref bU])), (bK, .inl (cI, 60, .inl K)), (bF, .inl (cI, 60, .inl F)), (bS, .inl (cI, 60, .inl S)), (bB, .inl (cZ, 60, .inl B)), (bL, .inl (cI, 4, .inl L)), (bT, .inl (cI, 4, .inl T)), (bU, .inl (cI, 6, .inl U))]) [0, 1, 2, 3, 4, 5, 6, 7] rfl
  have hDc := hD.sub (ws' := [(mo, .inr (2, [.int 0, .ref bL, .ref bT, .int (nI n), .ref bK, .ref bF, .ref bS, .ref bB, .int co, .int pl, .int st, .int jo, .int cn, .int ii, .int fi, .int fe, .ref bU])), (bK, .inl (cI, 60, .inl K)), (bF, .inl (cI, 60, .inl F)), (bS, .inl (cI, 60, .inl S)), (bB, .inl (cZ, 60, .inl B)), (bL, .inl (cI, 4, .inl L)), (bT, .inl (cI, 4, .inl T)), (bU, .inl (cI, 6, .inl U))]) [0, 1, 2, 3, 4, 5, 6, 7] (by decide) rfl
  have hKc := hK.sub (tys' := [(cI, .int), (cZ, .boolean)]) [0, 1] rfl
  have hFc := va_free (wc := [(mo, .inr (2, [.int 0, .ref bL, .ref bT, .int (nI n), .ref bK, .ref bF, .ref bS, .ref bB, .int co, .int pl, .int st, .int jo, .int cn, .int ii, .int fi, .int fe, .ref bU])), (bK, .inl (cI, 60, .inl K)), (bF, .inl (cI, 60, .inl F)), (bS, .inl (cI, 60, .inl S)), (bB, .inl (cZ, 60, .inl B)), (bL, .inl (cI, 4, .inl L)), (bT, .inl (cI, 4, .inl T)), (bU, .inl (cI, 6, .inl U))]) hD hS hA [0, 1, 2, 3, 4, 5, 6, 7] rfl
  refine va_calli (va_runV (As := [.int 1]) (rest := []) ⟨hx, hb, hml, hown, hts⟩ (c_X2_fail l dC dI cI cZ mo bK bF bS bB bL bT bU H_2.size L T K F S B U n 0 co pl st jo cn ii fi fe 1) (cwV 1 hts gX2_behind_X2_fail rfl rfl rfl (by decide +kernel) ⟨Nat.le_of_ble_eq_true rfl, Nat.le_of_ble_eq_true rfl⟩) (pc_V hKc hPc hDc (ci := 2) (C := RX2) (T := TX2) (N := 17) (q0 := 0) rfl rfl) rfl rfl hl.1 rfl (lv_room (Nat.le_of_ble_eq_true rfl)) dX2_behind_19 ⟨Nat.le_of_ble_eq_true rfl, Nat.le_of_ble_eq_true rfl⟩) hS (fun q _ h => hFc q h) hFc (fun r_3 u t H_3 locs ht hvm hw hB hz1 hk1 hS => ?_)
  try dsimp only at hw hB
  have hw_3 := hw
  replace hw_3 := hw_3.symm
  subst hw_3
  obtain ⟨hP1, hD1⟩ := hB
  rw [ht] at hP1
  obtain ⟨hP, hD⟩ := va_join (wr := []) (w1 := [(mo, .inr (2, [.int 1, .ref bL, .ref bT, .int (nI n), .ref bK, .ref bF, .ref bS, .ref bB, .int co, .int pl, .int st, .int jo, .int cn, .int ii, .int fi, .int fe, .ref bU])), (bK, .inl (cI, 60, .inl K)), (bF, .inl (cI, 60, .inl F)), (bS, .inl (cI, 60, .inl S)), (bB, .inl (cZ, 60, .inl B)), (bL, .inl (cI, 4, .inl L)), (bT, .inl (cI, 4, .inl T)), (bU, .inl (cI, 6, .inl U))]) hP hD [0, 1, 2, 3, 4, 5, 6, 7] [] rfl rfl (by decide) (by decide) hk1 hFc hP1 hD1
  have hP : va_P (dC, dI) vwCl [(mo, .inr (2, [.int 1, .ref bL, .ref bT, .int (nI n), .ref bK, .ref bF, .ref bS, .ref bB, .int co, .int pl, .int st, .int jo, .int cn, .int ii, .int fi, .int fe, .ref bU])), (bK, .inl (cI, 60, .inl K)), (bF, .inl (cI, 60, .inl F)), (bS, .inl (cI, 60, .inl S)), (bB, .inl (cZ, 60, .inl B)), (bL, .inl (cI, 4, .inl L)), (bT, .inl (cI, 4, .inl T)), (bU, .inl (cI, 6, .inl U))] H_3 := hP
  have hD : va_D A [(mo, .inr (2, [.int 1, .ref bL, .ref bT, .int (nI n), .ref bK, .ref bF, .ref bS, .ref bB, .int co, .int pl, .int st, .int jo, .int cn, .int ii, .int fi, .int fe, .ref bU])), (bK, .inl (cI, 60, .inl K)), (bF, .inl (cI, 60, .inl F)), (bS, .inl (cI, 60, .inl S)), (bB, .inl (cZ, 60, .inl B)), (bL, .inl (cI, 4, .inl L)), (bT, .inl (cI, 4, .inl T)), (bU, .inl (cI, 6, .inl U))] := hD
  have hpost : (0 : Int32) = 0 := by
    rfl
  have hP9 := hP.sub (ws' := [(mo, .inr (2, [.int 1, .ref bL, .ref bT, .int (nI n), .ref bK, .ref bF, .ref bS, .ref bB, .int co, .int pl, .int st, .int jo, .int cn, .int ii, .int fi, .int fe, .ref bU])), (bK, .inl (cI, 60, .inl K)), (bF, .inl (cI, 60, .inl F)), (bS, .inl (cI, 60, .inl S)), (bB, .inl (cZ, 60, .inl B)), (bL, .inl (cI, 4, .inl L)), (bT, .inl (cI, 4, .inl T)), (bU, .inl (cI, 6, .inl U))]) [0, 1, 2, 3, 4, 5, 6, 7] rfl
  have hD9 := hD.sub (ws' := [(mo, .inr (2, [.int 1, .ref bL, .ref bT, .int (nI n), .ref bK, .ref bF, .ref bS, .ref bB, .int co, .int pl, .int st, .int jo, .int cn, .int ii, .int fi, .int fe, .ref bU])), (bK, .inl (cI, 60, .inl K)), (bF, .inl (cI, 60, .inl F)), (bS, .inl (cI, 60, .inl S)), (bB, .inl (cZ, 60, .inl B)), (bL, .inl (cI, 4, .inl L)), (bT, .inl (cI, 4, .inl T)), (bU, .inl (cI, 6, .inl U))]) [0, 1, 2, 3, 4, 5, 6, 7] (by decide) rfl
  exact W.iret (v := 0) hx hb hr (fun t ht hW => ⟨⟨0, (), rfl, hpost, by rw [ht]; exact hP9, hD9⟩, hS.F ht⟩) hS.2.2 dX2_behind_22

set_option maxHeartbeats 4000000 in
set_option maxRecDepth 100000 in
theorem c_X2_behind_f2 (l : Launch) (dC : Nat → ClassId) (dI : Nat → Nat → Nat) (cI cZ : ClassId) (mo bK bF bS bB bL bT bU : Nat) (sz : Nat) (L : N2I) (T : N2I) (K : N2I) (F : N2I) (S : N2I) (B : N2I) (U : N2I) (n : Nat) (tw : Int32) (co : Int32) (pl : Int32) (st : Int32) (jo : Int32) (cn : Int32) (ii : Int32) (fi : Int32) (fe : Int32) (mm : Nat) (y : Int32) (hX : okX K F S B n) (hm : mm ≤ n) (hb0 : y < 0 ∨ 6 < y) : Met l yX2_behind wsX2_behind ({ frames := 5, cells := 0, slots := 0, locals := 106 } : Room) (va_Pc [.ref mo, .int (nI mm), .int y] (pc_ (dC, dI) [(cI, .int), (cZ, .boolean)] [(mo, .inr (2, [.int tw, .ref bL, .ref bT, .int (nI n), .ref bK, .ref bF, .ref bS, .ref bB, .int co, .int pl, .int st, .int jo, .int cn, .int ii, .int fi, .int fe, .ref bU])), (bK, .inl (cI, 60, .inl K)), (bF, .inl (cI, 60, .inl F)), (bS, .inl (cI, 60, .inl S)), (bB, .inl (cZ, 60, .inl B)), (bL, .inl (cI, 4, .inl L)), (bT, .inl (cI, 4, .inl T)), (bU, .inl (cI, 6, .inl U))] sz)) (va_Qi (fun (r : Int32) (u : Unit) => r = 0) (fun (u : Unit) (t : State) => va_P (dC, dI) vwCl [(mo, .inr (2, [.int 2, .ref bL, .ref bT, .int (nI n), .ref bK, .ref bF, .ref bS, .ref bB, .int co, .int pl, .int st, .int jo, .int cn, .int ii, .int fi, .int fe, .ref bU])), (bK, .inl (cI, 60, .inl K)), (bF, .inl (cI, 60, .inl F)), (bS, .inl (cI, 60, .inl S)), (bB, .inl (cZ, 60, .inl B)), (bL, .inl (cI, 4, .inl L)), (bT, .inl (cI, 4, .inl T)), (bU, .inl (cI, 6, .inl U))] t.heap ∧ va_D (va_A [(mo, .inr (2, [.int tw, .ref bL, .ref bT, .int (nI n), .ref bK, .ref bF, .ref bS, .ref bB, .int co, .int pl, .int st, .int jo, .int cn, .int ii, .int fi, .int fe, .ref bU])), (bK, .inl (cI, 60, .inl K)), (bF, .inl (cI, 60, .inl F)), (bS, .inl (cI, 60, .inl S)), (bB, .inl (cZ, 60, .inl B)), (bL, .inl (cI, 4, .inl L)), (bT, .inl (cI, 4, .inl T)), (bU, .inl (cI, 6, .inl U))] sz) [(mo, .inr (2, [.int 2, .ref bL, .ref bT, .int (nI n), .ref bK, .ref bF, .ref bS, .ref bB, .int co, .int pl, .int st, .int jo, .int cn, .int ii, .int fi, .int fe, .ref bU])), (bK, .inl (cI, 60, .inl K)), (bF, .inl (cI, 60, .inl F)), (bS, .inl (cI, 60, .inl S)), (bB, .inl (cZ, 60, .inl B)), (bL, .inl (cI, 4, .inl L)), (bT, .inl (cI, 4, .inl T)), (bU, .inl (cI, 6, .inl U))]) (va_A [(mo, .inr (2, [.int tw, .ref bL, .ref bT, .int (nI n), .ref bK, .ref bF, .ref bS, .ref bB, .int co, .int pl, .int st, .int jo, .int cn, .int ii, .int fi, .int fe, .ref bU])), (bK, .inl (cI, 60, .inl K)), (bF, .inl (cI, 60, .inl F)), (bS, .inl (cI, 60, .inl S)), (bB, .inl (cZ, 60, .inl B)), (bL, .inl (cI, 4, .inl L)), (bT, .inl (cI, 4, .inl T)), (bU, .inl (cI, 6, .inl U))] sz)) 0 0 (va_A [(mo, .inr (2, [.int tw, .ref bL, .ref bT, .int (nI n), .ref bK, .ref bF, .ref bS, .ref bB, .int co, .int pl, .int st, .int jo, .int cn, .int ii, .int fi, .int fe, .ref bU])), (bK, .inl (cI, 60, .inl K)), (bF, .inl (cI, 60, .inl F)), (bS, .inl (cI, 60, .inl S)), (bB, .inl (cZ, 60, .inl B)), (bL, .inl (cI, 4, .inl L)), (bT, .inl (cI, 4, .inl T)), (bU, .inl (cI, 6, .inl U))] sz) := by
  refine Met.ofW (cc := cX2_behind) (maxL := 4) (ret := (some .int)) (by decide) rfl ?_
  intro p e s m args below meth c s₁ BB hml hv
  obtain ⟨rfl, hsz, hP, hK, hD0⟩ := hv
  have hx := BB.exec
  have hb := BB.bytes
  have hr := BB.returns
  have hts := atoms_spec (ws := wsX2_behind) BB.pre
  have hown : s.vm.findClass RX2 = some m.cls := findClass_of_methodNamed BB.named
  have hlocks := BB.notSynchronized
  subst hsz
  have hD := hD0.self (sz := s.heap.size)
  generalize hAe : va_A [(mo, .inr (2, [.int tw, .ref bL, .ref bT, .int (nI n), .ref bK, .ref bF, .ref bS, .ref bB, .int co, .int pl, .int st, .int jo, .int cn, .int ii, .int fi, .int fe, .ref bU])), (bK, .inl (cI, 60, .inl K)), (bF, .inl (cI, 60, .inl F)), (bS, .inl (cI, 60, .inl S)), (bB, .inl (cZ, 60, .inl B)), (bL, .inl (cI, 4, .inl L)), (bT, .inl (cI, 4, .inl T)), (bU, .inl (cI, 6, .inl U))] s.heap.size = A at hD ⊢
  have hA : ∀ q : Nat, s.heap.size ≤ q → A q := fun q h => by rw [← hAe]; exact Or.inr h
  have hS : va_S A s.heap s.heap [] := va_S.rf
  have hP : va_P (dC, dI) vwCl [(mo, .inr (2, [.int tw, .ref bL, .ref bT, .int (nI n), .ref bK, .ref bF, .ref bS, .ref bB, .int co, .int pl, .int st, .int jo, .int cn, .int ii, .int fi, .int fe, .ref bU])), (bK, .inl (cI, 60, .inl K)), (bF, .inl (cI, 60, .inl F)), (bS, .inl (cI, 60, .inl S)), (bB, .inl (cZ, 60, .inl B)), (bL, .inl (cI, 4, .inl L)), (bT, .inl (cI, 4, .inl T)), (bU, .inl (cI, 6, .inl U))] s.heap := hP
  have hl := lv_entry ([.ref mo, .int (nI mm), .int y]) (n := 4) (Nat.le_of_ble_eq_true rfl)
  rw [lg_entry_eq]
  generalize (lg_sl ([.ref mo, .int (nI mm), .int y]) ++ List.replicate (4 - (lg_sl ([.ref mo, .int (nI mm), .int y])).length) Slot.unset).toArray = ls at hl ⊢
  have hl : lv_has ls 4 [(0, .ref mo), (1, .int (nI mm)), (2, .int y)] := hl
  have k0 := hts (.fieldLink RX2 32 "KnifeLedgerModel" "thrown" "I") (by decide +kernel)
  have hinX2 : ∀ w ∈ wsX20, w ∈ wsX2_behind := by decide +kernel
  have k2 := hts (.fieldLink RX2 36 "KnifeLedgerModel" "entries" "I") (by decide +kernel)
  have hn6 : n ≤ 60 := hX.1
  refine lv_aload_n hx hb dX2_behind_0 rfl (lv_at hl 0 rfl) ?_
  refine lv_iconst (v := 0) hx hb dX2_behind_1 (by decide) ?_
  refine va_put (D := (dC, dI)) (ci := 2) (v := .int 0) (ty := .int) (C := RX2) (T := TX2) (N := 17) hx hb hts hinX2 tyX2 tyX2_ok nmX2 hown hK hP hD hS 0 rfl rfl 0 (by decide) k0 (fun _ h9 => h9) rfl (by decide +kernel) rfl rfl (Nat.le_of_ble_eq_true rfl) dX2_behind_2 (fun H_1 locs hP hD hS => ?_)
  have hP : va_P (dC, dI) vwCl [(mo, .inr (2, [.int 0, .ref bL, .ref bT, .int (nI n), .ref bK, .ref bF, .ref bS, .ref bB, .int co, .int pl, .int st, .int jo, .int cn, .int ii, .int fi, .int fe, .ref bU])), (bK, .inl (cI, 60, .inl K)), (bF, .inl (cI, 60, .inl F)), (bS, .inl (cI, 60, .inl S)), (bB, .inl (cZ, 60, .inl B)), (bL, .inl (cI, 4, .inl L)), (bT, .inl (cI, 4, .inl T)), (bU, .inl (cI, 6, .inl U))] H_1 := hP
  have hD : va_D A [(mo, .inr (2, [.int 0, .ref bL, .ref bT, .int (nI n), .ref bK, .ref bF, .ref bS, .ref bB, .int co, .int pl, .int st, .int jo, .int cn, .int ii, .int fi, .int fe, .ref bU])), (bK, .inl (cI, 60, .inl K)), (bF, .inl (cI, 60, .inl F)), (bS, .inl (cI, 60, .inl S)), (bB, .inl (cZ, 60, .inl B)), (bL, .inl (cI, 4, .inl L)), (bT, .inl (cI, 4, .inl T)), (bU, .inl (cI, 6, .inl U))] := hD
  refine lv_iload_n hx hb dX2_behind_5 rfl (lv_at hl 1 rfl) ?_
  refine lv_iconst (v := 0) hx hb dX2_behind_6 (by decide) ?_
  refine lv_aload_n hx hb dX2_behind_7 rfl (lv_at hl 0 rfl) ?_
  refine va_get (D := (dC, dI)) (ci := 2) (v := .int (nI n)) (C := RX2) (T := TX2) (N := 17) hx hb hts hinX2 hown hK hP 0 rfl rfl 3 (by decide) k2 (fun _ h9 => h9) rfl dX2_behind_8 ?_
  have hPc := hP.sub (ws' := []) [] rfl
  have hDc := hD.sub (ws' := []) [] (by decide) rfl
  have hKc := hK.sub (tys' := []) [] rfl
  have hFc := va_free (wc := []) hD hS hA [] rfl
  refine va_calli (va_runS (As := [.int (nI mm), .int 0, .int (nI n)]) (rest := []) ⟨hx, hb, hml, hown, hts⟩ (c_X2_isIn l dC dI H_1.size (nI mm) 0 (nI n)) (va_cwS 3 hts gX2_behind_X2_isIn rfl rfl rfl (by decide +kernel) ⟨Nat.le_of_ble_eq_true rfl, Nat.le_of_ble_eq_true rfl⟩) (pc_S hKc hPc hDc) rfl rfl hl.1 rfl (lv_room (Nat.le_of_ble_eq_true rfl)) dX2_behind_11 ⟨Nat.le_of_ble_eq_true rfl, Nat.le_of_ble_eq_true rfl⟩) hS (fun q _ h => hFc q h) hFc (fun r_2 u t H_2 locs ht hvm hw hB hz1 hk1 hS => ?_)
  try dsimp only at hw hB
  have hw_2 := hw
  replace hw_2 := hw_2.symm
  subst hw_2
  obtain ⟨hP1, hD1⟩ := hB
  rw [ht] at hP1
  obtain ⟨hP, hD⟩ := va_join (wr := [(mo, .inr (2, [.int 0, .ref bL, .ref bT, .int (nI n), .ref bK, .ref bF, .ref bS, .ref bB, .int co, .int pl, .int st, .int jo, .int cn, .int ii, .int fi, .int fe, .ref bU])), (bK, .inl (cI, 60, .inl K)), (bF, .inl (cI, 60, .inl F)), (bS, .inl (cI, 60, .inl S)), (bB, .inl (cZ, 60, .inl B)), (bL, .inl (cI, 4, .inl L)), (bT, .inl (cI, 4, .inl T)), (bU, .inl (cI, 6, .inl U))]) (w1 := []) hP hD [] [0, 1, 2, 3, 4, 5, 6, 7] rfl rfl (by decide) (by decide) hk1 hFc hP1 hD1
  have hP : va_P (dC, dI) vwCl [(mo, .inr (2, [.int 0, .ref bL, .ref bT, .int (nI n), .ref bK, .ref bF, .ref bS, .ref bB, .int co, .int pl, .int st, .int jo, .int cn, .int ii, .int fi, .int fe, .ref bU])), (bK, .inl (cI, 60, .inl K)), (bF, .inl (cI, 60, .inl F)), (bS, .inl (cI, 60, .inl S)), (bB, .inl (cZ, 60, .inl B)), (bL, .inl (cI, 4, .inl L)), (bT, .inl (cI, 4, .inl T)), (bU, .inl (cI, 6, .inl U))] H_2 := hP
  have hD : va_D A [(mo, .inr (2, [.int 0, .ref bL, .ref bT, .int (nI n), .ref bK, .ref bF, .ref bS, .ref bB, .int co, .int pl, .int st, .int jo, .int cn, .int ii, .int fi, .int fe, .ref bU])), (bK, .inl (cI, 60, .inl K)), (bF, .inl (cI, 60, .inl F)), (bS, .inl (cI, 60, .inl S)), (bB, .inl (cZ, 60, .inl B)), (bL, .inl (cI, 4, .inl L)), (bT, .inl (cI, 4, .inl T)), (bU, .inl (cI, 6, .inl U))] := hD
  refine lv_if_ne (tgt := 23) hx hb dX2_behind_14 (by decide) (fun _ => ?_) (fun h9 => absurd h9 (by rw [mIn_ok (nI_pos (by omega)) (nI_nlt hm (by omega))]; exact one_ne))
  refine lv_iload_n hx hb dX2_behind_23 rfl (lv_at hl 2 rfl) ?_
  refine lv_iconst (v := 0) hx hb dX2_behind_24 (by decide) ?_
  refine lv_bipush (v := 6) hx hb dX2_behind_25 (by decide) ?_
  have hPc := hP.sub (ws' := []) [] rfl
  have hDc := hD.sub (ws' := []) [] (by decide) rfl
  have hKc := hK.sub (tys' := []) [] rfl
  have hFc := va_free (wc := []) hD hS hA [] rfl
  refine va_calli (va_runS (As := [.int y, .int 0, .int 6]) (rest := []) ⟨hx, hb, hml, hown, hts⟩ (c_X2_isIn l dC dI H_2.size y 0 6) (va_cwS 3 hts gX2_behind_X2_isIn rfl rfl rfl (by decide +kernel) ⟨Nat.le_of_ble_eq_true rfl, Nat.le_of_ble_eq_true rfl⟩) (pc_S hKc hPc hDc) rfl rfl hl.1 rfl (lv_room (Nat.le_of_ble_eq_true rfl)) dX2_behind_27 ⟨Nat.le_of_ble_eq_true rfl, Nat.le_of_ble_eq_true rfl⟩) hS (fun q _ h => hFc q h) hFc (fun r_3 u t H_3 locs ht hvm hw hB hz1 hk1 hS => ?_)
  try dsimp only at hw hB
  have hw_3 := hw
  replace hw_3 := hw_3.symm
  subst hw_3
  obtain ⟨hP1, hD1⟩ := hB
  rw [ht] at hP1
  obtain ⟨hP, hD⟩ := va_join (wr := [(mo, .inr (2, [.int 0, .ref bL, .ref bT, .int (nI n), .ref bK, .ref bF, .ref bS, .ref bB, .int co, .int pl, .int st, .int jo, .int cn, .int ii, .int fi, .int fe, .ref bU])), (bK, .inl (cI, 60, .inl K)), (bF, .inl (cI, 60, .inl F)), (bS, .inl (cI, 60, .inl S)), (bB, .inl (cZ, 60, .inl B)), (bL, .inl (cI, 4, .inl L)), (bT, .inl (cI, 4, .inl T)), (bU, .inl (cI, 6, .inl U))]) (w1 := []) hP hD [] [0, 1, 2, 3, 4, 5, 6, 7] rfl rfl (by decide) (by decide) hk1 hFc hP1 hD1
  have hP : va_P (dC, dI) vwCl [(mo, .inr (2, [.int 0, .ref bL, .ref bT, .int (nI n), .ref bK, .ref bF, .ref bS, .ref bB, .int co, .int pl, .int st, .int jo, .int cn, .int ii, .int fi, .int fe, .ref bU])), (bK, .inl (cI, 60, .inl K)), (bF, .inl (cI, 60, .inl F)), (bS, .inl (cI, 60, .inl S)), (bB, .inl (cZ, 60, .inl B)), (bL, .inl (cI, 4, .inl L)), (bT, .inl (cI, 4, .inl T)), (bU, .inl (cI, 6, .inl U))] H_3 := hP
  have hD : va_D A [(mo, .inr (2, [.int 0, .ref bL, .ref bT, .int (nI n), .ref bK, .ref bF, .ref bS, .ref bB, .int co, .int pl, .int st, .int jo, .int cn, .int ii, .int fi, .int fe, .ref bU])), (bK, .inl (cI, 60, .inl K)), (bF, .inl (cI, 60, .inl F)), (bS, .inl (cI, 60, .inl S)), (bB, .inl (cZ, 60, .inl B)), (bL, .inl (cI, 4, .inl L)), (bT, .inl (cI, 4, .inl T)), (bU, .inl (cI, 6, .inl U))] := hD
  refine lv_if_ne (tgt := 39) hx hb dX2_behind_30 (by decide) (fun h9 => absurd (mIn_bad hb0) h9) (fun _ => ?_)
  refine lv_aload_n hx hb dX2_behind_33 rfl (lv_at hl 0 rfl) ?_
  refine lv_iconst (v := 2) hx hb dX2_behind_34 (by decide) ?_
  have hPc := hP.sub (ws' := [(mo, .inr (2, [.int 0, .ref bL, .ref bT, .int (nI n), .ref bK, .ref bF, .ref bS, .ref bB, .int co, .int pl, .int st, .int jo, .int cn, .int ii, .int fi, .int fe, .ref bU])), (bK, .inl (cI, 60, .inl K)), (bF, .inl (cI, 60, .inl F)), (bS, .inl (cI, 60, .inl S)), (bB, .inl (cZ, 60, .inl B)), (bL, .inl (cI, 4, .inl L)), (bT, .inl (cI, 4, .inl T)), (bU, .inl (cI, 6, .inl U))]) [0, 1, 2, 3, 4, 5, 6, 7] rfl
  have hDc := hD.sub (ws' := [(mo, .inr (2, [.int 0, .ref bL, .ref bT, .int (nI n), .ref bK, .ref bF, .ref bS, .ref bB, .int co, .int pl, .int st, .int jo, .int cn, .int ii, .int fi, .int fe, .ref bU])), (bK, .inl (cI, 60, .inl K)), (bF, .inl (cI, 60, .inl F)), (bS, .inl (cI, 60, .inl S)), (bB, .inl (cZ, 60, .inl B)), (bL, .inl (cI, 4, .inl L)), (bT, .inl (cI, 4, .inl T)), (bU, .inl (cI, 6, .inl U))]) [0, 1, 2, 3, 4, 5, 6, 7] (by decide) rfl
  have hKc := hK.sub (tys' := [(cI, .int), (cZ, .boolean)]) [0, 1] rfl
  have hFc := va_free (wc := [(mo, .inr (2, [.int 0, .ref bL, .ref bT, .int (nI n), .ref bK, .ref bF, .ref bS, .ref bB, .int co, .int pl, .int st, .int jo, .int cn, .int ii, .int fi, .int fe, .ref bU])), (bK, .inl (cI, 60, .inl K)), (bF, .inl (cI, 60, .inl F)), (bS, .inl (cI, 60, .inl S)), (bB, .inl (cZ, 60, .inl B)), (bL, .inl (cI, 4, .inl L)), (bT, .inl (cI, 4, .inl T)), (bU, .inl (cI, 6, .inl U))]) hD hS hA [0, 1, 2, 3, 4, 5, 6, 7] rfl
  refine va_calli (va_runV (As := [.int 2]) (rest := []) ⟨hx, hb, hml, hown, hts⟩ (c_X2_fail l dC dI cI cZ mo bK bF bS bB bL bT bU H_3.size L T K F S B U n 0 co pl st jo cn ii fi fe 2) (cwV 1 hts gX2_behind_X2_fail rfl rfl rfl (by decide +kernel) ⟨Nat.le_of_ble_eq_true rfl, Nat.le_of_ble_eq_true rfl⟩) (pc_V hKc hPc hDc (ci := 2) (C := RX2) (T := TX2) (N := 17) (q0 := 0) rfl rfl) rfl rfl hl.1 rfl (lv_room (Nat.le_of_ble_eq_true rfl)) dX2_behind_35 ⟨Nat.le_of_ble_eq_true rfl, Nat.le_of_ble_eq_true rfl⟩) hS (fun q _ h => hFc q h) hFc (fun r_4 u t H_4 locs ht hvm hw hB hz1 hk1 hS => ?_)
  try dsimp only at hw hB
  have hw_4 := hw
  replace hw_4 := hw_4.symm
  subst hw_4
  obtain ⟨hP1, hD1⟩ := hB
  rw [ht] at hP1
  obtain ⟨hP, hD⟩ := va_join (wr := []) (w1 := [(mo, .inr (2, [.int 2, .ref bL, .ref bT, .int (nI n), .ref bK, .ref bF, .ref bS, .ref bB, .int co, .int pl, .int st, .int jo, .int cn, .int ii, .int fi, .int fe, .ref bU])), (bK, .inl (cI, 60, .inl K)), (bF, .inl (cI, 60, .inl F)), (bS, .inl (cI, 60, .inl S)), (bB, .inl (cZ, 60, .inl B)), (bL, .inl (cI, 4, .inl L)), (bT, .inl (cI, 4, .inl T)), (bU, .inl (cI, 6, .inl U))]) hP hD [0, 1, 2, 3, 4, 5, 6, 7] [] rfl rfl (by decide) (by decide) hk1 hFc hP1 hD1
  have hP : va_P (dC, dI) vwCl [(mo, .inr (2, [.int 2, .ref bL, .ref bT, .int (nI n), .ref bK, .ref bF, .ref bS, .ref bB, .int co, .int pl, .int st, .int jo, .int cn, .int ii, .int fi, .int fe, .ref bU])), (bK, .inl (cI, 60, .inl K)), (bF, .inl (cI, 60, .inl F)), (bS, .inl (cI, 60, .inl S)), (bB, .inl (cZ, 60, .inl B)), (bL, .inl (cI, 4, .inl L)), (bT, .inl (cI, 4, .inl T)), (bU, .inl (cI, 6, .inl U))] H_4 := hP
  have hD : va_D A [(mo, .inr (2, [.int 2, .ref bL, .ref bT, .int (nI n), .ref bK, .ref bF, .ref bS, .ref bB, .int co, .int pl, .int st, .int jo, .int cn, .int ii, .int fi, .int fe, .ref bU])), (bK, .inl (cI, 60, .inl K)), (bF, .inl (cI, 60, .inl F)), (bS, .inl (cI, 60, .inl S)), (bB, .inl (cZ, 60, .inl B)), (bL, .inl (cI, 4, .inl L)), (bT, .inl (cI, 4, .inl T)), (bU, .inl (cI, 6, .inl U))] := hD
  have hpost : (0 : Int32) = 0 := by
    rfl
  have hP9 := hP.sub (ws' := [(mo, .inr (2, [.int 2, .ref bL, .ref bT, .int (nI n), .ref bK, .ref bF, .ref bS, .ref bB, .int co, .int pl, .int st, .int jo, .int cn, .int ii, .int fi, .int fe, .ref bU])), (bK, .inl (cI, 60, .inl K)), (bF, .inl (cI, 60, .inl F)), (bS, .inl (cI, 60, .inl S)), (bB, .inl (cZ, 60, .inl B)), (bL, .inl (cI, 4, .inl L)), (bT, .inl (cI, 4, .inl T)), (bU, .inl (cI, 6, .inl U))]) [0, 1, 2, 3, 4, 5, 6, 7] rfl
  have hD9 := hD.sub (ws' := [(mo, .inr (2, [.int 2, .ref bL, .ref bT, .int (nI n), .ref bK, .ref bF, .ref bS, .ref bB, .int co, .int pl, .int st, .int jo, .int cn, .int ii, .int fi, .int fe, .ref bU])), (bK, .inl (cI, 60, .inl K)), (bF, .inl (cI, 60, .inl F)), (bS, .inl (cI, 60, .inl S)), (bB, .inl (cZ, 60, .inl B)), (bL, .inl (cI, 4, .inl L)), (bT, .inl (cI, 4, .inl T)), (bU, .inl (cI, 6, .inl U))]) [0, 1, 2, 3, 4, 5, 6, 7] (by decide) rfl
  exact W.iret (v := 0) hx hb hr (fun t ht hW => ⟨⟨0, (), rfl, hpost, by rw [ht]; exact hP9, hD9⟩, hS.F ht⟩) hS.2.2 dX2_behind_38
